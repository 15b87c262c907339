/-- a place as a word -/
def xtw (c : Nat) : Nat → List Nat
  | 0 => []
  | n + 1 => xtw c n ++ [c, 0]
def xlay (q f g : Nat) : List Nat := xtw (xof q 0) 1 ++ xtw (xof q 1) f ++ xtw (xof q 4) 1 ++ xtw (xof q 5) g
theorem xtw_len (c : Nat) : ∀ n, (xtw c n).length = 2 * n
  | 0 => rfl
  | n + 1 => by
    show (xtw c n ++ [c, 0]).length = _
    rw [List.length_append, xtw_len c n]
    simp only [List.length_cons, List.length_nil]
    omega
theorem xlay_len (q f g : Nat) : (xlay q f g).length = 4 + 2 * f + 2 * g := by
  unfold xlay
  simp only [List.length_append, xtw_len]
  omega
theorem getD_app (a b : List Nat) (i : Nat) : (a ++ b).getD i 0 = if i < a.length then a.getD i 0 else b.getD (i - a.length) 0 := by
  simp only [List.getD_eq_getElem?_getD]
  by_cases h : i < a.length
  · rw [if_pos h, List.getElem?_append_left h]
  · rw [if_neg h, List.getElem?_append_right (by omega)]
theorem xtw_at (c : Nat) : ∀ n i, i < 2 * n → (xtw c n).getD i 0 = if i % 2 = 0 then c else 0
  | 0, i, h => by omega
  | n + 1, i, h => by
    show (xtw c n ++ [c, 0]).getD i 0 = _
    rw [getD_app, xtw_len]
    by_cases h2 : i < 2 * n
    · rw [if_pos h2, xtw_at c n i h2]
    · rw [if_neg h2]
      rcases (show i = 2 * n ∨ i = 2 * n + 1 by omega) with e | e
      · rw [e, show 2 * n - 2 * n = 0 by omega, if_pos (by omega)]; rfl
      · rw [e, show 2 * n + 1 - 2 * n = 1 by omega, if_neg (by omega)]; rfl
/-- the letter of a place's word at i -/
def xlf (q f i : Nat) : Nat := if i % 2 = 1 then 0 else if i = 0 then xof q 0 else if i ≤ 2 * f then xof q 1 else if i = 2 * f + 2 then xof q 4 else xof q 5
theorem xlay_at {q f g i : Nat} (h : i < 4 + 2 * f + 2 * g) : (xlay q f g).getD i 0 = xlf q f i := by
  unfold xlay xlf
  simp only [getD_app, List.length_append, xtw_len]
  by_cases o : i % 2 = 1
  · rw [if_pos o]
    split
    · split
      · split
        · rw [xtw_at _ _ _ (by omega), if_neg (by omega)]
        · rw [xtw_at _ _ _ (by omega), if_neg (by omega)]
      · rw [xtw_at _ _ _ (by omega), if_neg (by omega)]
    · rw [xtw_at _ _ _ (by omega), if_neg (by omega)]
  · rw [if_neg o]
    split
    · split
      · split
        · rw [xtw_at _ _ _ (by omega), if_pos (by omega), if_pos (by omega)]
        · rw [xtw_at _ _ _ (by omega), if_pos (by omega), if_neg (by omega), if_pos (by omega)]
      · rw [xtw_at _ _ _ (by omega), if_pos (by omega), if_neg (by omega), if_neg (by omega), if_pos (by omega)]
    · rw [xtw_at _ _ _ (by omega), if_pos (by omega), if_neg (by omega), if_neg (by omega), if_neg (by omega)]
theorem getD_ext {a b : List Nat} (hl : a.length = b.length) (h : ∀ i, i < a.length → a.getD i 0 = b.getD i 0) : a = b := by
  apply List.ext_getElem hl
  intro i h1 h2
  have := h i h1
  rw [List.getD_eq_getElem?_getD, List.getD_eq_getElem?_getD, List.getElem?_eq_getElem h1, List.getElem?_eq_getElem h2] at this
  exact this
theorem xlay_of {L : List Nat} {q f g : Nat} (hl : L.length = 4 + 2 * f + 2 * g) (h : ∀ i, i < L.length → L.getD i 0 = xlf q f i) : L = xlay q f g :=
  getD_ext (by rw [hl, xlay_len]) (fun i hi => by rw [h i hi, xlay_at (by omega)])
/-- the word is a place's -/
def isPl (L : List Nat) : Prop := ∃ q f g, q < 6 ∧ L = xlay q f g
noncomputable def isPlB (L : List Nat) : Bool := @decide (isPl L) (Classical.propDecidable _)
theorem isPlB_t {L : List Nat} (h : isPl L) : isPlB L = true := @decide_eq_true _ (Classical.propDecidable _) h
theorem isPlB_f {L : List Nat} (h : ¬ isPl L) : isPlB L = false := @decide_eq_false _ (Classical.propDecidable _) h
/-- k twos of a letter and an x from a place on, no more -/
def BT (L : List Nat) (c f k : Nat) : Prop := (∀ j, j < k → f + 2 * j + 1 < L.length ∧ L.getD (f + 2 * j) 0 = c ∧ L.getD (f + 2 * j + 1) 0 = 0) ∧ ¬ (f + 2 * k + 1 < L.length ∧ L.getD (f + 2 * k) 0 = c ∧ L.getD (f + 2 * k + 1) 0 = 0)
theorem pl_k {L : List Nat} {q f g k : Nat} (e : L = xlay q f g) (h : BT L (xof q 1) 2 k) : k = f := by
  subst e
  rcases Nat.lt_trichotomy k f with h1 | h1 | h1
  · refine absurd ?_ h.2
    rw [xlay_len, xlay_at (by omega), xlay_at (by omega)]
    refine ⟨by omega, ?_, ?_⟩
    · unfold xlf; rw [if_neg (by omega), if_neg (by omega), if_pos (by omega)]
    · unfold xlf; rw [if_pos (by omega)]
  · exact h1
  · have := (h.1 f h1).2.1
    rw [xlay_at (by omega)] at this
    unfold xlf xof at this
    rw [if_neg (by omega), if_neg (by omega), if_neg (by omega), if_pos (by omega)] at this
    omega
theorem pl_n {L : List Nat} {q f g k : Nat} (e : L = xlay q f g) (h : BT L (xof q 5) (2 * f + 4) k) : k = g := by
  subst e
  rcases Nat.lt_trichotomy k g with h1 | h1 | h1
  · refine absurd ?_ h.2
    rw [xlay_len, xlay_at (by omega), xlay_at (by omega)]
    refine ⟨by omega, ?_, ?_⟩
    · unfold xlf; rw [if_neg (by omega), if_neg (by omega), if_neg (by omega), if_neg (by omega)]
    · unfold xlf; rw [if_pos (by omega)]
  · exact h1
  · have := (h.1 g h1).1
    rw [xlay_len] at this
    omega
theorem pl_mk {L : List Nat} {q k k2 : Nat} (h0 : L.getD 0 0 = xof q 0) (h1 : L.getD 1 0 = 0) (ha : BT L (xof q 1) 2 k) (hb : L.getD (2 * k + 2) 0 = xof q 4) (hb1 : L.getD (2 * k + 3) 0 = 0) (hc : BT L (xof q 5) (2 * k + 4) k2) (hl : 2 * k + 4 + 2 * k2 = L.length) : L = xlay q k k2 := by
  refine xlay_of (by omega) (fun i hi => ?_)
  unfold xlf
  by_cases o : i % 2 = 1
  · rw [if_pos o]
    rcases (show i = 1 ∨ (3 ≤ i ∧ i < 2 * k + 2) ∨ i = 2 * k + 3 ∨ 2 * k + 4 ≤ i by omega) with e | e | e | e
    · rw [e]; exact h1
    · have := (ha.1 ((i - 3) / 2) (by omega)).2.2
      rw [show 2 + 2 * ((i - 3) / 2) + 1 = i by omega] at this
      exact this
    · rw [e]; exact hb1
    · have := (hc.1 ((i - (2 * k + 5)) / 2) (by omega)).2.2
      rw [show 2 * k + 4 + 2 * ((i - (2 * k + 5)) / 2) + 1 = i by omega] at this
      exact this
  · rw [if_neg o]
    by_cases e0 : i = 0
    · rw [if_pos e0, e0]; exact h0
    · rw [if_neg e0]
      by_cases e1 : i ≤ 2 * k
      · rw [if_pos e1]
        have := (ha.1 ((i - 2) / 2) (by omega)).2.1
        rw [show 2 + 2 * ((i - 2) / 2) = i by omega] at this
        exact this
      · rw [if_neg e1]
        by_cases e2 : i = 2 * k + 2
        · rw [if_pos e2, e2]; exact hb
        · rw [if_neg e2]
          have := (hc.1 ((i - (2 * k + 4)) / 2) (by omega)).2.1
          rw [show 2 * k + 4 + 2 * ((i - (2 * k + 4)) / 2) = i by omega] at this
          exact this
theorem pl_inj {q f g q2 f2 g2 : Nat} (e : xlay q f g = xlay q2 f2 g2) : q = q2 ∧ f = f2 ∧ g = g2 := by
  have hl := congrArg List.length e
  rw [xlay_len, xlay_len] at hl
  have h0 : (xlay q f g).getD 0 0 = (xlay q2 f2 g2).getD 0 0 := by rw [e]
  rw [xlay_at (by omega), xlay_at (by omega)] at h0
  have e0 : q = q2 := by
    unfold xlf xof at h0
    rw [if_neg (by decide), if_pos rfl, if_neg (by decide), if_pos rfl] at h0
    omega
  subst e0
  have hk : f = f2 := by
    have h2 : (xlay q f g).getD (2 * f + 2) 0 = (xlay q f2 g2).getD (2 * f + 2) 0 := by rw [e]
    have h3 : (xlay q f g).getD (2 * f2 + 2) 0 = (xlay q f2 g2).getD (2 * f2 + 2) 0 := by rw [e]
    rw [xlay_at (by omega), xlay_at (by omega)] at h2
    rw [xlay_at (by omega), xlay_at (by omega)] at h3
    unfold xlf xof at h2 h3
    rw [if_neg (by omega), if_neg (by omega), if_neg (by omega), if_pos (by omega), if_neg (by omega), if_neg (by omega)] at h2
    rw [if_neg (by omega), if_neg (by omega)] at h3
    rcases Nat.lt_trichotomy f f2 with h | h | h
    · rw [if_pos (by omega)] at h2; omega
    · exact h
    · rw [if_pos (by omega), if_neg (by omega), if_neg (by omega), if_neg (by omega), if_pos (by omega)] at h3; omega
  subst hk
  exact ⟨rfl, rfl, by omega⟩
/-- the next place: how many steps, the word -/
noncomputable def xnext (R : xRl) : Nat → List Nat → Option (Nat × List Nat)
  | 0, _ => none
  | n + 1, w => match tstep R w with
    | none => none
    | some w' => if isPlB w' = true then some (1, w') else (xnext R n w').map (fun z => (z.1 + 1, z.2))
/-- k steps of it are done, none came to a place -/
def XN (R : xRl) (N : Nat) (L : List Nat) (k : Nat) (L1 : List Nat) : Prop := k ≤ N ∧ xnext R N L = (xnext R (N - k) L1).map (fun z => (z.1 + k, z.2))
theorem XN.beg (R : xRl) (N : Nat) (L : List Nat) : XN R N L 0 L := ⟨Nat.zero_le _, by cases xnext R N L <;> simp [*]⟩
theorem XN.stop {R : xRl} {N k : Nat} {L L1 : List Nat} (h : XN R N L k L1) (e : tstep R L1 = none) : xnext R N L = none := by
  rw [h.2]
  cases hd : N - k with
  | zero => rfl
  | succ d => simp only [xnext, e]; rfl
theorem XN.full {R : xRl} {N k : Nat} {L L1 : List Nat} (h : XN R N L k L1) (e : N ≤ k) : xnext R N L = none := by
  rw [h.2, show N - k = 0 by omega]
  rfl
theorem XN.hit {R : xRl} {N k : Nat} {L L1 L2 : List Nat} (h : XN R N L k L1) (hk : k < N) (e : tstep R L1 = some L2) (hp : isPl L2) : xnext R N L = some (k + 1, L2) := by
  rw [h.2]
  obtain ⟨d, hd⟩ : ∃ d, N - k = d + 1 := ⟨N - k - 1, by omega⟩
  rw [hd]
  simp only [xnext, e, isPlB_t hp, if_true, Option.map_some]
  congr 2
  omega
theorem XN.go {R : xRl} {N k : Nat} {L L1 L2 : List Nat} (h : XN R N L k L1) (hk : k < N) (e : tstep R L1 = some L2) (hp : ¬ isPl L2) : XN R N L (k + 1) L2 := by
  refine ⟨hk, ?_⟩
  rw [h.2]
  obtain ⟨d, hd⟩ : ∃ d, N - k = d + 1 := ⟨N - k - 1, by omega⟩
  rw [hd, show N - (k + 1) = d by omega]
  simp only [xnext, e, isPlB_f hp]
  cases xnext R d L2 with
  | none => rfl
  | some z => simp only [Bool.false_eq_true, if_false, Option.map_some]; congr 2; omega

set_option maxHeartbeats 4000000 in
set_option maxRecDepth 100000 in
theorem c_X5_appendTwos (l : Launch) (Z : xZ) (hw vr vk ar hd sz : Nat) (g : Nat → Nat) (L : List Nat) (hR : RR 600 hd g L) (hsz : sz = L.length) (c1 tm : Nat) (hfit : L.length + 2 * tm ≤ 600) : xMv l Z yX5_appendTwos vX5_appendTwos ({ frames := 2, cells := 0, slots := 0, locals := 42 } : Room) [.ref hw, .int (nI c1), .int (nI tm)] [(hw, .inr (5, [.ref vr, .ref vk])), (vr, .inr (2, [.ref ar, .int (nI hd), .int (nI sz)])), (ar, xI Z 600 g)] (fun w => ∃ g2, RR 600 hd g2 (L ++ xtw c1 tm) ∧ w = [(hw, .inr (5, [.ref vr, .ref vk])), (vr, .inr (2, [.ref ar, .int (nI hd), .int (nI (sz + 2 * tm))])), (ar, xI Z 600 g2)]) := by
  refine x_v (by decide) rfl (Nat.le_of_ble_eq_true rfl) ?_
  intro p e s m args below meth c ls A hC hr hk hname hl hP hD hS
  have hx := hC.1.1
  have hb := hC.1.2.1
  have hml := hC.1.2.2.1
  have hown : s.vm.findClass RX5 = some m.cls := hC.1.2.2.2.1
  have hts := hC.1.2.2.2.2
  have hK := hC.2.1
  have qq_292 := hts (Cond.fieldLink RX5 14 "TagTower$Word" "row" "LTagTower$LetterRow;") (List.mem_cons_of_mem _ wq_292)
  have iX5 : ∀ w ∈ wsX50, w ∈ vX5_appendTwos := fun w h => List.mem_cons_of_mem _ (wi_X5 w h)
  have hl : lv_has ls 4 [(0, .ref hw), (1, .int (nI c1)), (2, .int (nI tm))] := hl
  have hP : va_P Z.1 vwCl [(hw, .inr (5, [.ref vr, .ref vk])), (vr, .inr (2, [.ref ar, .int (nI hd), .int (nI sz)])), (ar, xI Z 600 g)] s.heap := hP
  have hD : va_D A [(hw, .inr (5, [.ref vr, .ref vk])), (vr, .inr (2, [.ref ar, .int (nI hd), .int (nI sz)])), (ar, xI Z 600 g)] := hD
  refine ln_const 0 hx hb dX5_appendTwos_0 (by decide) ?_
  refine lv_istore_n (lv' := [(3, .int (nI 0)), (0, .ref hw), (1, .int (nI c1)), (2, .int (nI tm))]) hx hb dX5_appendTwos_1 rfl hl (by decide) rfl (fun ls hl => ?_)
  have hloop2 : ∀ (nn : Nat) (j sz2 : Nat) (g2 : Nat → Nat) (H : Heap) (locs : List Loc) (ls : Array Slot) (hj : j ≤ tm) (hR1 : RR 600 hd g2 (L ++ xtw c1 j)) (hs1 : sz2 = L.length + 2 * j) (hmu : tm - j < nn) (hP : va_P Z.1 vwCl [(hw, .inr (5, [.ref vr, .ref vk])), (vr, .inr (2, [.ref ar, .int (nI hd), .int (nI sz2)])), (ar, xI Z 600 g2)] H) (hD : va_D A [(hw, .inr (5, [.ref vr, .ref vk])), (vr, .inr (2, [.ref ar, .int (nI hd), .int (nI sz2)])), (ar, xI Z 600 g2)]) (hS : va_S A s.heap H locs) (hl : lv_has ls 4 [(0, .ref hw), (1, .int (nI c1)), (2, .int (nI tm)), (3, .int (nI j))]), W p l e ({ frames := 2, cells := 0, slots := 0, locals := 42 } : Room) s m args below meth c H locs 0 0 (MQ below (va_Qv (fun w => ∃ g2, RR 600 hd g2 (L ++ xtw c1 tm) ∧ w = [(hw, .inr (5, [.ref vr, .ref vk])), (vr, .inr (2, [.ref ar, .int (nI hd), .int (nI (sz + 2 * tm))])), (ar, xI Z 600 g2)]) (xB Z A) A) args s ({ frames := 2, cells := 0, slots := 0, locals := 42 } : Room).cells ({ frames := 2, cells := 0, slots := 0, locals := 42 } : Room).slots A) (F0 m 2 ls []) := by
    intro nn
    induction nn with
    | zero => intro j sz2 g2 H locs ls hj hR1 hs1 hmu; exact absurd hmu (Nat.not_lt_zero _)
    | succ nn ih =>
      intro j sz2 g2 H locs ls hj hR1 hs1 hmu hP hD hS hl
      refine lv_iload_n hx hb dX5_appendTwos_2 rfl (lv_at hl 3 rfl) ?_
      refine lv_iload_n hx hb dX5_appendTwos_3 rfl (lv_at hl 2 rfl) ?_
      refine ln_icmp_ge (tgt := 29) hx hb dX5_appendTwos_4 (by decide) (by omega) (by omega) (fun h4 => ?_) (fun h4 => ?_)
      · exact x_vret hC hr hk hP hD hS dX5_appendTwos_29 ⟨g2, by rw [show j = tm by omega] at hR1; exact hR1, by rw [show sz2 = sz + 2 * tm by omega]⟩
      · refine lv_aload_n hx hb dX5_appendTwos_7 rfl (lv_at hl 0 rfl) ?_
        refine va_get (D := Z.1) (ci := 5) (v := .ref vr) (C := RX5) (T := TX5) (N := 2) hx hb hts iX5 hown hK hP 0 rfl rfl 0 (Nat.le_of_ble_eq_true rfl) qq_292 (fun _ h9 => h9) rfl dX5_appendTwos_8 ?_
        refine lv_iload_n hx hb dX5_appendTwos_11 rfl (lv_at hl 1 rfl) ?_
        refine x_Vv (y := yX2_append) (As := [.int (nI c1)]) (wc := [(vr, .inr (2, [.ref ar, .int (nI hd), .int (nI sz2)])), (ar, xI Z 600 g2)]) (wr := [(hw, .inr (5, [.ref vr, .ref vk]))]) hC hP hD hS (c_X2_append l Z vr ar 600 hd sz2 g2 (L ++ xtw c1 j) (by omega) hR1 (by rw [List.length_append, xtw_len]; omega) c1 (by rw [List.length_append, xtw_len]; omega)) (gV wq_499 wq_496 wq_497 wq_498 wq_43) rfl kv_X2_append rfl rfl ⟨rfl, rfl⟩ rfl hl.1 rfl ⟨Nat.le_of_ble_eq_true rfl, Nat.le_of_ble_eq_true rfl⟩ [1, 2] [0] rfl rfl (by decide) (by decide) (by decide) rfl dX5_appendTwos_12 (fun w1 H locs hw hP hD hS => ?_)
        obtain ⟨g3, hg3, rfl⟩ := hw
        have hP : va_P Z.1 vwCl [(hw, .inr (5, [.ref vr, .ref vk])), (vr, .inr (2, [.ref ar, .int (nI hd), .int (nI (sz2 + 1))])), (ar, xI Z 600 g3)] H := hP
        have hD : va_D A [(hw, .inr (5, [.ref vr, .ref vk])), (vr, .inr (2, [.ref ar, .int (nI hd), .int (nI (sz2 + 1))])), (ar, xI Z 600 g3)] := hD
        refine lv_aload_n hx hb dX5_appendTwos_15 rfl (lv_at hl 0 rfl) ?_
        refine va_get (D := Z.1) (ci := 5) (v := .ref vr) (C := RX5) (T := TX5) (N := 2) hx hb hts iX5 hown hK hP 0 rfl rfl 0 (Nat.le_of_ble_eq_true rfl) qq_292 (fun _ h9 => h9) rfl dX5_appendTwos_16 ?_
        refine ln_const 0 hx hb dX5_appendTwos_19 (by decide) ?_
        refine x_Vv (y := yX2_append) (As := [.int (nI 0)]) (wc := [(vr, .inr (2, [.ref ar, .int (nI hd), .int (nI (sz2 + 1))])), (ar, xI Z 600 g3)]) (wr := [(hw, .inr (5, [.ref vr, .ref vk]))]) hC hP hD hS (c_X2_append l Z vr ar 600 hd (sz2 + 1) g3 (L ++ xtw c1 j ++ [c1]) (by omega) hg3 (by simp only [List.length_append, xtw_len, List.length_cons, List.length_nil]; omega) 0 (by simp only [List.length_append, xtw_len, List.length_cons, List.length_nil]; omega)) (gV wq_499 wq_496 wq_497 wq_498 wq_43) rfl kv_X2_append rfl rfl ⟨rfl, rfl⟩ rfl hl.1 rfl ⟨Nat.le_of_ble_eq_true rfl, Nat.le_of_ble_eq_true rfl⟩ [1, 2] [0] rfl rfl (by decide) (by decide) (by decide) rfl dX5_appendTwos_20 (fun w1 H locs hw hP hD hS => ?_)
        obtain ⟨g4, hg4, rfl⟩ := hw
        have hP : va_P Z.1 vwCl [(hw, .inr (5, [.ref vr, .ref vk])), (vr, .inr (2, [.ref ar, .int (nI hd), .int (nI (sz2 + 1 + 1))])), (ar, xI Z 600 g4)] H := hP
        have hD : va_D A [(hw, .inr (5, [.ref vr, .ref vk])), (vr, .inr (2, [.ref ar, .int (nI hd), .int (nI (sz2 + 1 + 1))])), (ar, xI Z 600 g4)] := hD
        refine ln_iinc (k0 := 3) (k := 1) (j + 1) (lv' := [(3, .int (nI (j + 1))), (0, .ref hw), (1, .int (nI c1)), (2, .int (nI tm))]) hx hb dX5_appendTwos_23 hl rfl rfl (by first | rfl | omega) (by decide) rfl (fun ls hl => ?_)
        refine lv_goto (tgt := 2) hx hb dX5_appendTwos_26 (by decide) ?_
        exact ih  (j + 1) (sz2 + 1 + 1) g4 _ _ _ (by omega) (by rw [List.append_assoc, List.append_assoc] at hg4; exact hg4) (by omega) (by omega) hP hD hS (lv_sub hl [1, 2, 3, 0] rfl)
  exact hloop2 ((tm - 0) + 1) 0 sz g _ _ _ (Nat.zero_le _) (by rw [show xtw c1 0 = [] from rfl, List.append_nil]; exact hR) (by omega) (Nat.lt_succ_self _) hP hD hS (lv_sub hl [1, 2, 3, 0] rfl)

set_option maxHeartbeats 4000000 in
set_option maxRecDepth 100000 in
theorem c_layPlace_full (l : Launch) (Z : xZ) (hw vr vk ar hd sz : Nat) (g : Nat → Nat) (L : List Nat) (hR : RR 600 hd g L) (hsz : sz = L.length) (q u v : Nat) (hq : q < 6) (hu : u ≤ 100000) (hv : v ≤ 100000) (hfull : 600 < 4 + 2 * (u + v)) : xMi l Z yX5_layPlace vX5_layPlace ({ frames := 0, cells := 0, slots := 0, locals := 0 } : Room) [.ref hw, .int (nI q), .int (nI u), .int (nI v)] [(hw, .inr (5, [.ref vr, .ref vk])), (vr, .inr (2, [.ref ar, .int (nI hd), .int (nI sz)])), (ar, xI Z 600 g)] (fun r w => r = -3 ∧ w = [(hw, .inr (5, [.ref vr, .ref vk])), (vr, .inr (2, [.ref ar, .int (nI hd), .int (nI sz)])), (ar, xI Z 600 g)]) := by
  refine x_i (by decide) rfl (Nat.le_of_ble_eq_true rfl) ?_
  intro p e s m args below meth c ls A hC hr hk hl hP hD hS
  have hx := hC.1.1
  have hb := hC.1.2.1
  have hml := hC.1.2.2.1
  have hown : s.vm.findClass RX5 = some m.cls := hC.1.2.2.2.1
  have hts := hC.1.2.2.2.2
  have hK := hC.2.1
  have hl : lv_has ls 5 [(0, .ref hw), (1, .int (nI q)), (2, .int (nI u)), (3, .int (nI v))] := hl
  have hP : va_P Z.1 vwCl [(hw, .inr (5, [.ref vr, .ref vk])), (vr, .inr (2, [.ref ar, .int (nI hd), .int (nI sz)])), (ar, xI Z 600 g)] s.heap := hP
  have hD : va_D A [(hw, .inr (5, [.ref vr, .ref vk])), (vr, .inr (2, [.ref ar, .int (nI hd), .int (nI sz)])), (ar, xI Z 600 g)] := hD
  refine ln_const 4 hx hb dX5_layPlace_0 (by decide) ?_
  refine ln_const 2 hx hb dX5_layPlace_1 (by decide) ?_
  refine lv_iload_n hx hb dX5_layPlace_2 rfl (lv_at hl 2 rfl) ?_
  refine lv_iload_n hx hb dX5_layPlace_3 rfl (lv_at hl 3 rfl) ?_
  refine ln_iadd (u + v) hx hb dX5_layPlace_4 (by first | rfl | omega) ?_
  refine ln_imul (2 * (u + v)) hx hb dX5_layPlace_5 (by first | rfl | omega) ?_
  refine ln_iadd (4 + (2 * (u + v))) hx hb dX5_layPlace_6 (by first | rfl | omega) ?_
  refine ln_sipush 600 hx hb dX5_layPlace_7 (by decide) ?_
  refine ln_icmp_le (tgt := 16) hx hb dX5_layPlace_10 (by decide) (by omega) (by omega) (fun h10 => False.elim (by omega)) (fun h10 => ?_)
  refine lv_bipush (v := (-3)) hx hb dX5_layPlace_13 (by decide) ?_
  exact x_iret hC hr hk hP hD hS dX5_layPlace_15 ⟨rfl, rfl⟩

theorem kv_X5_appendTwos : yX5_appendTwos.cls = RX5 ∧ yX5_appendTwos.cls ≠ "java/lang/invoke/MethodHandle" ∧ yX5_appendTwos.cls ≠ "java/lang/invoke/VarHandle" ∧ (parseMethodDescriptor yX5_appendTwos.desc).map (fun d => d.parameters.length) = some 2 := by decide +kernel
set_option maxHeartbeats 4000000 in
set_option maxRecDepth 100000 in
theorem c_layPlace (l : Launch) (Z : xZ) (hw vr vk ar hd sz : Nat) (g : Nat → Nat) (L : List Nat) (hR : RR 600 hd g L) (hsz : sz = L.length) (q u v : Nat) (hq : q < 6) (hfit : 4 + 2 * (u + v) ≤ 600) : xMi l Z yX5_layPlace vX5_layPlace ({ frames := 3, cells := 0, slots := 0, locals := 65 } : Room) [.ref hw, .int (nI q), .int (nI u), .int (nI v)] [(hw, .inr (5, [.ref vr, .ref vk])), (vr, .inr (2, [.ref ar, .int (nI hd), .int (nI sz)])), (ar, xI Z 600 g)] (fun r w => ∃ g2, RR 600 0 g2 (xlay q u v) ∧ r = nI (4 + 2 * (u + v)) ∧ w = [(hw, .inr (5, [.ref vr, .ref vk])), (vr, .inr (2, [.ref ar, .int (nI 0), .int (nI (4 + 2 * (u + v)))])), (ar, xI Z 600 g2)]) := by
  refine x_i (by decide) rfl (Nat.le_of_ble_eq_true rfl) ?_
  intro p e s m args below meth c ls A hC hr hk hl hP hD hS
  have hx := hC.1.1
  have hb := hC.1.2.1
  have hml := hC.1.2.2.1
  have hown : s.vm.findClass RX5 = some m.cls := hC.1.2.2.2.1
  have hts := hC.1.2.2.2.2
  have hK := hC.2.1
  have qq_292 := hts (Cond.fieldLink RX5 14 "TagTower$Word" "row" "LTagTower$LetterRow;") (List.mem_cons_of_mem _ wq_292)
  have iX5 : ∀ w ∈ wsX50, w ∈ vX5_layPlace := fun w h => List.mem_cons_of_mem _ (wi_X5 w h)
  have qf_30 := va_Nw.use (A := args) rfl (hC.2.2.2.1.2 (RX5, 30, RX2, "size", "I", RX6) (List.mem_of_getElem? (i := 5) rfl))
  have iX2 : ∀ w ∈ wsX20, w ∈ vX5_layPlace := fun w h => List.mem_cons_of_mem _ (wi_X2 w h)
  have hl : lv_has ls 5 [(0, .ref hw), (1, .int (nI q)), (2, .int (nI u)), (3, .int (nI v))] := hl
  have hP : va_P Z.1 vwCl [(hw, .inr (5, [.ref vr, .ref vk])), (vr, .inr (2, [.ref ar, .int (nI hd), .int (nI sz)])), (ar, xI Z 600 g)] s.heap := hP
  have hD : va_D A [(hw, .inr (5, [.ref vr, .ref vk])), (vr, .inr (2, [.ref ar, .int (nI hd), .int (nI sz)])), (ar, xI Z 600 g)] := hD
  refine ln_const 4 hx hb dX5_layPlace_0 (by decide) ?_
  refine ln_const 2 hx hb dX5_layPlace_1 (by decide) ?_
  refine lv_iload_n hx hb dX5_layPlace_2 rfl (lv_at hl 2 rfl) ?_
  refine lv_iload_n hx hb dX5_layPlace_3 rfl (lv_at hl 3 rfl) ?_
  refine ln_iadd (u + v) hx hb dX5_layPlace_4 (by first | rfl | omega) ?_
  refine ln_imul (2 * (u + v)) hx hb dX5_layPlace_5 (by first | rfl | omega) ?_
  refine ln_iadd (4 + (2 * (u + v))) hx hb dX5_layPlace_6 (by first | rfl | omega) ?_
  refine ln_sipush 600 hx hb dX5_layPlace_7 (by decide) ?_
  refine ln_icmp_le (tgt := 16) hx hb dX5_layPlace_10 (by decide) (by omega) (by omega) (fun h10 => ?_) (fun h10 => False.elim (by omega))
  refine lv_iload_n hx hb dX5_layPlace_16 rfl (lv_at hl 1 rfl) ?_
  refine ln_bipush 20 hx hb dX5_layPlace_17 (by decide) ?_
  refine ln_imul (q * 20) hx hb dX5_layPlace_19 (by first | rfl | omega) ?_
  refine lv_istore (lv' := [(4, .int (nI (q * 20))), (0, .ref hw), (1, .int (nI q)), (2, .int (nI u)), (3, .int (nI v))]) hx hb dX5_layPlace_20 hl (by decide) rfl (fun ls hl => ?_)
  refine lv_aload_n hx hb dX5_layPlace_22 rfl (lv_at hl 1 rfl) ?_
  refine va_get (D := Z.1) (ci := 5) (v := .ref vr) (C := RX5) (T := TX5) (N := 2) hx hb hts iX5 hown hK hP 0 rfl rfl 0 (Nat.le_of_ble_eq_true rfl) qq_292 (fun _ h9 => h9) rfl dX5_layPlace_23 ?_
  refine x_Vv (y := yX2_empty) (As := []) (wc := [(vr, .inr (2, [.ref ar, .int (nI hd), .int (nI sz)])), (ar, xI Z 600 g)]) (wr := [(hw, .inr (5, [.ref vr, .ref vk]))]) hC hP hD hS (c_X2_empty l Z vr ar 600 hd sz g (by omega)) (gV wq_491 wq_488 wq_489 wq_490 wq_43) rfl kv_X2_empty rfl rfl ⟨rfl, rfl⟩ rfl hl.1 rfl ⟨Nat.le_of_ble_eq_true rfl, Nat.le_of_ble_eq_true rfl⟩ [1, 2] [0] rfl rfl (by decide) (by decide) (by decide) rfl dX5_layPlace_26 (fun w1 H locs hw hP hD hS => ?_)
  obtain rfl := hw
  have hP : va_P Z.1 vwCl [(hw, .inr (5, [.ref vr, .ref vk])), (vr, .inr (2, [.ref ar, .int (nI 0), .int (nI 0)])), (ar, xI Z 600 g)] H := hP
  have hD : va_D A [(hw, .inr (5, [.ref vr, .ref vk])), (vr, .inr (2, [.ref ar, .int (nI 0), .int (nI 0)])), (ar, xI Z 600 g)] := hD
  refine lv_aload_n hx hb dX5_layPlace_29 rfl (lv_at hl 1 rfl) ?_
  refine lv_iload hx hb dX5_layPlace_30 (lv_at hl 0 rfl) ?_
  refine ln_const 1 hx hb dX5_layPlace_32 (by decide) ?_
  refine ln_iadd ((q * 20) + 1) hx hb dX5_layPlace_33 (by first | rfl | omega) ?_
  refine ln_const 1 hx hb dX5_layPlace_34 (by decide) ?_
  refine x_Vv (y := yX5_appendTwos) (As := [.int (nI ((q * 20) + 1)), .int (nI 1)]) (wc := [(hw, .inr (5, [.ref vr, .ref vk])), (vr, .inr (2, [.ref ar, .int (nI 0), .int (nI 0)])), (ar, xI Z 600 g)]) (wr := []) hC hP hD hS (c_X5_appendTwos l Z hw vr vk ar 0 0 g ([]) (RR.nil (by decide)) (rfl) ((q * 20) + 1) 1 (by simp only [List.length_nil]; omega)) (gV wq_495 wq_492 wq_494 wq_6 wq_42) rfl kv_X5_appendTwos rfl rfl ⟨rfl, rfl⟩ rfl hl.1 rfl ⟨Nat.le_of_ble_eq_true rfl, Nat.le_of_ble_eq_true rfl⟩ [0, 1, 2] ([] : List Nat) rfl rfl (by decide) (by decide) (by decide) rfl dX5_layPlace_35 (fun w1 H locs hw hP hD hS => ?_)
  obtain ⟨g2, hg2, rfl⟩ := hw
  have hP : va_P Z.1 vwCl [(hw, .inr (5, [.ref vr, .ref vk])), (vr, .inr (2, [.ref ar, .int (nI 0), .int (nI (0 + 2 * 1))])), (ar, xI Z 600 g2)] H := hP
  have hD : va_D A [(hw, .inr (5, [.ref vr, .ref vk])), (vr, .inr (2, [.ref ar, .int (nI 0), .int (nI (0 + 2 * 1))])), (ar, xI Z 600 g2)] := hD
  refine lv_aload_n hx hb dX5_layPlace_38 rfl (lv_at hl 1 rfl) ?_
  refine lv_iload hx hb dX5_layPlace_39 (lv_at hl 0 rfl) ?_
  refine ln_const 2 hx hb dX5_layPlace_41 (by decide) ?_
  refine ln_iadd ((q * 20) + 2) hx hb dX5_layPlace_42 (by first | rfl | omega) ?_
  refine lv_iload_n hx hb dX5_layPlace_43 rfl (lv_at hl 3 rfl) ?_
  refine x_Vv (y := yX5_appendTwos) (As := [.int (nI ((q * 20) + 2)), .int (nI u)]) (wc := [(hw, .inr (5, [.ref vr, .ref vk])), (vr, .inr (2, [.ref ar, .int (nI 0), .int (nI (0 + 2 * 1))])), (ar, xI Z 600 g2)]) (wr := []) hC hP hD hS (c_X5_appendTwos l Z hw vr vk ar 0 (0 + 2 * 1) g2 ([] ++ xtw (q * 20 + 1) 1) hg2 (by simp only [List.length_append, xtw_len, List.length_nil] <;> omega) ((q * 20) + 2) u (by simp only [List.length_append, xtw_len, List.length_nil] <;> omega)) (gV wq_495 wq_492 wq_494 wq_6 wq_42) rfl kv_X5_appendTwos rfl rfl ⟨rfl, rfl⟩ rfl hl.1 rfl ⟨Nat.le_of_ble_eq_true rfl, Nat.le_of_ble_eq_true rfl⟩ [0, 1, 2] ([] : List Nat) rfl rfl (by decide) (by decide) (by decide) rfl dX5_layPlace_44 (fun w1 H locs hw hP hD hS => ?_)
  obtain ⟨g3, hg3, rfl⟩ := hw
  have hP : va_P Z.1 vwCl [(hw, .inr (5, [.ref vr, .ref vk])), (vr, .inr (2, [.ref ar, .int (nI 0), .int (nI (0 + 2 * 1 + 2 * u))])), (ar, xI Z 600 g3)] H := hP
  have hD : va_D A [(hw, .inr (5, [.ref vr, .ref vk])), (vr, .inr (2, [.ref ar, .int (nI 0), .int (nI (0 + 2 * 1 + 2 * u))])), (ar, xI Z 600 g3)] := hD
  refine lv_aload_n hx hb dX5_layPlace_47 rfl (lv_at hl 1 rfl) ?_
  refine lv_iload hx hb dX5_layPlace_48 (lv_at hl 0 rfl) ?_
  refine ln_const 5 hx hb dX5_layPlace_50 (by decide) ?_
  refine ln_iadd ((q * 20) + 5) hx hb dX5_layPlace_51 (by first | rfl | omega) ?_
  refine ln_const 1 hx hb dX5_layPlace_52 (by decide) ?_
  refine x_Vv (y := yX5_appendTwos) (As := [.int (nI ((q * 20) + 5)), .int (nI 1)]) (wc := [(hw, .inr (5, [.ref vr, .ref vk])), (vr, .inr (2, [.ref ar, .int (nI 0), .int (nI (0 + 2 * 1 + 2 * u))])), (ar, xI Z 600 g3)]) (wr := []) hC hP hD hS (c_X5_appendTwos l Z hw vr vk ar 0 (0 + 2 * 1 + 2 * u) g3 ([] ++ xtw (q * 20 + 1) 1 ++ xtw (q * 20 + 2) u) hg3 (by simp only [List.length_append, xtw_len, List.length_nil] <;> omega) ((q * 20) + 5) 1 (by simp only [List.length_append, xtw_len, List.length_nil] <;> omega)) (gV wq_495 wq_492 wq_494 wq_6 wq_42) rfl kv_X5_appendTwos rfl rfl ⟨rfl, rfl⟩ rfl hl.1 rfl ⟨Nat.le_of_ble_eq_true rfl, Nat.le_of_ble_eq_true rfl⟩ [0, 1, 2] ([] : List Nat) rfl rfl (by decide) (by decide) (by decide) rfl dX5_layPlace_53 (fun w1 H locs hw hP hD hS => ?_)
  obtain ⟨g4, hg4, rfl⟩ := hw
  have hP : va_P Z.1 vwCl [(hw, .inr (5, [.ref vr, .ref vk])), (vr, .inr (2, [.ref ar, .int (nI 0), .int (nI (0 + 2 * 1 + 2 * u + 2 * 1))])), (ar, xI Z 600 g4)] H := hP
  have hD : va_D A [(hw, .inr (5, [.ref vr, .ref vk])), (vr, .inr (2, [.ref ar, .int (nI 0), .int (nI (0 + 2 * 1 + 2 * u + 2 * 1))])), (ar, xI Z 600 g4)] := hD
  refine lv_aload_n hx hb dX5_layPlace_56 rfl (lv_at hl 1 rfl) ?_
  refine lv_iload hx hb dX5_layPlace_57 (lv_at hl 0 rfl) ?_
  refine ln_bipush 6 hx hb dX5_layPlace_59 (by decide) ?_
  refine ln_iadd ((q * 20) + 6) hx hb dX5_layPlace_61 (by first | rfl | omega) ?_
  refine lv_iload_n hx hb dX5_layPlace_62 rfl (lv_at hl 4 rfl) ?_
  refine x_Vv (y := yX5_appendTwos) (As := [.int (nI ((q * 20) + 6)), .int (nI v)]) (wc := [(hw, .inr (5, [.ref vr, .ref vk])), (vr, .inr (2, [.ref ar, .int (nI 0), .int (nI (0 + 2 * 1 + 2 * u + 2 * 1))])), (ar, xI Z 600 g4)]) (wr := []) hC hP hD hS (c_X5_appendTwos l Z hw vr vk ar 0 (0 + 2 * 1 + 2 * u + 2 * 1) g4 ([] ++ xtw (q * 20 + 1) 1 ++ xtw (q * 20 + 2) u ++ xtw (q * 20 + 5) 1) hg4 (by simp only [List.length_append, xtw_len, List.length_nil] <;> omega) ((q * 20) + 6) v (by simp only [List.length_append, xtw_len, List.length_nil] <;> omega)) (gV wq_495 wq_492 wq_494 wq_6 wq_42) rfl kv_X5_appendTwos rfl rfl ⟨rfl, rfl⟩ rfl hl.1 rfl ⟨Nat.le_of_ble_eq_true rfl, Nat.le_of_ble_eq_true rfl⟩ [0, 1, 2] ([] : List Nat) rfl rfl (by decide) (by decide) (by decide) rfl dX5_layPlace_63 (fun w1 H locs hw hP hD hS => ?_)
  obtain ⟨g5, hg5, rfl⟩ := hw
  have hP : va_P Z.1 vwCl [(hw, .inr (5, [.ref vr, .ref vk])), (vr, .inr (2, [.ref ar, .int (nI 0), .int (nI (0 + 2 * 1 + 2 * u + 2 * 1 + 2 * v))])), (ar, xI Z 600 g5)] H := hP
  have hD : va_D A [(hw, .inr (5, [.ref vr, .ref vk])), (vr, .inr (2, [.ref ar, .int (nI 0), .int (nI (0 + 2 * 1 + 2 * u + 2 * 1 + 2 * v))])), (ar, xI Z 600 g5)] := hD
  refine lv_aload_n hx hb dX5_layPlace_66 rfl (lv_at hl 1 rfl) ?_
  refine va_get (D := Z.1) (ci := 5) (v := .ref vr) (C := RX5) (T := TX5) (N := 2) hx hb hts iX5 hown hK hP 0 rfl rfl 0 (Nat.le_of_ble_eq_true rfl) qq_292 (fun _ h9 => h9) rfl dX5_layPlace_67 ?_
  refine va_getN (D := Z.1) (ci := 2) (v := .int (nI (0 + 2 * 1 + 2 * u + 2 * 1 + 2 * v))) (C := RX2) (T := TX2) (N := 3) hx hb hts iX2 hown hK hP 1 rfl rfl 2 (Nat.le_of_ble_eq_true rfl) qf_30 (fun _ h9 => h9) rfl dX5_layPlace_70 ?_
  have hf : ([] ++ xtw (q * 20 + 1) 1 ++ xtw (q * 20 + 2) u ++ xtw (q * 20 + 5) 1 ++ xtw (q * 20 + 6) v) = xlay q u v := by
    unfold xlay
    rw [List.nil_append, show xof q 0 = q * 20 + 1 by unfold xof; omega, show xof q 1 = q * 20 + 2 by unfold xof; omega, show xof q 4 = q * 20 + 5 by unfold xof; omega, show xof q 5 = q * 20 + 6 by unfold xof; omega]
  have hn : 0 + 2 * 1 + 2 * u + 2 * 1 + 2 * v = 4 + 2 * (u + v) := by omega
  exact x_iret hC hr hk hP hD hS dX5_layPlace_73 ⟨g5, by rw [← hf]; exact hg5, by rw [hn], by rw [hn]⟩

set_option maxHeartbeats 4000000 in
set_option maxRecDepth 100000 in
theorem c_addLetter (l : Launch) (Z : xZ) (hw vr vk ar hd sz : Nat) (g : Nat → Nat) (L : List Nat) (hR : RR 600 hd g L) (hsz : sz = L.length) (c1 : Nat) (hfit : L.length < 600) : xMi l Z yX5_addLetter vX5_addLetter ({ frames := 2, cells := 0, slots := 0, locals := 42 } : Room) [.ref hw, .int (nI c1)] [(hw, .inr (5, [.ref vr, .ref vk])), (vr, .inr (2, [.ref ar, .int (nI hd), .int (nI sz)])), (ar, xI Z 600 g)] (fun r w => ∃ g2, RR 600 hd g2 (L ++ [c1]) ∧ r = nI (sz + 1) ∧ w = [(hw, .inr (5, [.ref vr, .ref vk])), (vr, .inr (2, [.ref ar, .int (nI hd), .int (nI (sz + 1))])), (ar, xI Z 600 g2)]) := by
  refine x_i (by decide) rfl (Nat.le_of_ble_eq_true rfl) ?_
  intro p e s m args below meth c ls A hC hr hk hl hP hD hS
  have hx := hC.1.1
  have hb := hC.1.2.1
  have hml := hC.1.2.2.1
  have hown : s.vm.findClass RX5 = some m.cls := hC.1.2.2.2.1
  have hts := hC.1.2.2.2.2
  have hK := hC.2.1
  have qq_292 := hts (Cond.fieldLink RX5 14 "TagTower$Word" "row" "LTagTower$LetterRow;") (List.mem_cons_of_mem _ wq_292)
  have iX5 : ∀ w ∈ wsX50, w ∈ vX5_addLetter := fun w h => List.mem_cons_of_mem _ (wi_X5 w h)
  have qf_30 := va_Nw.use (A := args) rfl (hC.2.2.2.1.2 (RX5, 30, RX2, "size", "I", RX6) (List.mem_of_getElem? (i := 5) rfl))
  have iX2 : ∀ w ∈ wsX20, w ∈ vX5_addLetter := fun w h => List.mem_cons_of_mem _ (wi_X2 w h)
  have hl : lv_has ls 2 [(0, .ref hw), (1, .int (nI c1))] := hl
  have hP : va_P Z.1 vwCl [(hw, .inr (5, [.ref vr, .ref vk])), (vr, .inr (2, [.ref ar, .int (nI hd), .int (nI sz)])), (ar, xI Z 600 g)] s.heap := hP
  have hD : va_D A [(hw, .inr (5, [.ref vr, .ref vk])), (vr, .inr (2, [.ref ar, .int (nI hd), .int (nI sz)])), (ar, xI Z 600 g)] := hD
  refine lv_aload_n hx hb dX5_addLetter_0 rfl (lv_at hl 0 rfl) ?_
  refine va_get (D := Z.1) (ci := 5) (v := .ref vr) (C := RX5) (T := TX5) (N := 2) hx hb hts iX5 hown hK hP 0 rfl rfl 0 (Nat.le_of_ble_eq_true rfl) qq_292 (fun _ h9 => h9) rfl dX5_addLetter_1 ?_
  refine va_getN (D := Z.1) (ci := 2) (v := .int (nI sz)) (C := RX2) (T := TX2) (N := 3) hx hb hts iX2 hown hK hP 1 rfl rfl 2 (Nat.le_of_ble_eq_true rfl) qf_30 (fun _ h9 => h9) rfl dX5_addLetter_4 ?_
  refine ln_sipush 600 hx hb dX5_addLetter_7 (by decide) ?_
  refine ln_icmp_lt (tgt := 16) hx hb dX5_addLetter_10 (by decide) (by omega) (by omega) (fun h10 => ?_) (fun h10 => False.elim (by omega))
  refine lv_aload_n hx hb dX5_addLetter_16 rfl (lv_at hl 0 rfl) ?_
  refine va_get (D := Z.1) (ci := 5) (v := .ref vr) (C := RX5) (T := TX5) (N := 2) hx hb hts iX5 hown hK hP 0 rfl rfl 0 (Nat.le_of_ble_eq_true rfl) qq_292 (fun _ h9 => h9) rfl dX5_addLetter_17 ?_
  refine lv_iload_n hx hb dX5_addLetter_20 rfl (lv_at hl 1 rfl) ?_
  refine x_Vv (y := yX2_append) (As := [.int (nI c1)]) (wc := [(vr, .inr (2, [.ref ar, .int (nI hd), .int (nI sz)])), (ar, xI Z 600 g)]) (wr := [(hw, .inr (5, [.ref vr, .ref vk]))]) hC hP hD hS (c_X2_append l Z vr ar 600 hd sz g L (by omega) hR (hsz) c1 (by omega)) (gV wq_499 wq_496 wq_497 wq_498 wq_43) rfl kv_X2_append rfl rfl ⟨rfl, rfl⟩ rfl hl.1 rfl ⟨Nat.le_of_ble_eq_true rfl, Nat.le_of_ble_eq_true rfl⟩ [1, 2] [0] rfl rfl (by decide) (by decide) (by decide) rfl dX5_addLetter_21 (fun w1 H locs hw hP hD hS => ?_)
  obtain ⟨g2, hg2, rfl⟩ := hw
  have hP : va_P Z.1 vwCl [(hw, .inr (5, [.ref vr, .ref vk])), (vr, .inr (2, [.ref ar, .int (nI hd), .int (nI (sz + 1))])), (ar, xI Z 600 g2)] H := hP
  have hD : va_D A [(hw, .inr (5, [.ref vr, .ref vk])), (vr, .inr (2, [.ref ar, .int (nI hd), .int (nI (sz + 1))])), (ar, xI Z 600 g2)] := hD
  refine lv_aload_n hx hb dX5_addLetter_24 rfl (lv_at hl 0 rfl) ?_
  refine va_get (D := Z.1) (ci := 5) (v := .ref vr) (C := RX5) (T := TX5) (N := 2) hx hb hts iX5 hown hK hP 0 rfl rfl 0 (Nat.le_of_ble_eq_true rfl) qq_292 (fun _ h9 => h9) rfl dX5_addLetter_25 ?_
  refine va_getN (D := Z.1) (ci := 2) (v := .int (nI (sz + 1))) (C := RX2) (T := TX2) (N := 3) hx hb hts iX2 hown hK hP 1 rfl rfl 2 (Nat.le_of_ble_eq_true rfl) qf_30 (fun _ h9 => h9) rfl dX5_addLetter_28 ?_
  exact x_iret hC hr hk hP hD hS dX5_addLetter_31 ⟨g2, hg2, rfl, rfl⟩

set_option maxHeartbeats 4000000 in
set_option maxRecDepth 100000 in
theorem c_addLetter_full (l : Launch) (Z : xZ) (hw vr vk ar hd sz : Nat) (g : Nat → Nat) (L : List Nat) (hR : RR 600 hd g L) (hsz : sz = L.length) (c1 : Nat) (hfit : 600 ≤ L.length) : xMi l Z yX5_addLetter vX5_addLetter ({ frames := 0, cells := 0, slots := 0, locals := 0 } : Room) [.ref hw, .int (nI c1)] [(hw, .inr (5, [.ref vr, .ref vk])), (vr, .inr (2, [.ref ar, .int (nI hd), .int (nI sz)])), (ar, xI Z 600 g)] (fun r w => r = -3 ∧ w = [(hw, .inr (5, [.ref vr, .ref vk])), (vr, .inr (2, [.ref ar, .int (nI hd), .int (nI sz)])), (ar, xI Z 600 g)]) := by
  refine x_i (by decide) rfl (Nat.le_of_ble_eq_true rfl) ?_
  intro p e s m args below meth c ls A hC hr hk hl hP hD hS
  have hx := hC.1.1
  have hb := hC.1.2.1
  have hml := hC.1.2.2.1
  have hown : s.vm.findClass RX5 = some m.cls := hC.1.2.2.2.1
  have hts := hC.1.2.2.2.2
  have hK := hC.2.1
  have qq_292 := hts (Cond.fieldLink RX5 14 "TagTower$Word" "row" "LTagTower$LetterRow;") (List.mem_cons_of_mem _ wq_292)
  have iX5 : ∀ w ∈ wsX50, w ∈ vX5_addLetter := fun w h => List.mem_cons_of_mem _ (wi_X5 w h)
  have qf_30 := va_Nw.use (A := args) rfl (hC.2.2.2.1.2 (RX5, 30, RX2, "size", "I", RX6) (List.mem_of_getElem? (i := 5) rfl))
  have iX2 : ∀ w ∈ wsX20, w ∈ vX5_addLetter := fun w h => List.mem_cons_of_mem _ (wi_X2 w h)
  have hl : lv_has ls 2 [(0, .ref hw), (1, .int (nI c1))] := hl
  have hP : va_P Z.1 vwCl [(hw, .inr (5, [.ref vr, .ref vk])), (vr, .inr (2, [.ref ar, .int (nI hd), .int (nI sz)])), (ar, xI Z 600 g)] s.heap := hP
  have hD : va_D A [(hw, .inr (5, [.ref vr, .ref vk])), (vr, .inr (2, [.ref ar, .int (nI hd), .int (nI sz)])), (ar, xI Z 600 g)] := hD
  have hR2 := hR.2.1
  refine lv_aload_n hx hb dX5_addLetter_0 rfl (lv_at hl 0 rfl) ?_
  refine va_get (D := Z.1) (ci := 5) (v := .ref vr) (C := RX5) (T := TX5) (N := 2) hx hb hts iX5 hown hK hP 0 rfl rfl 0 (Nat.le_of_ble_eq_true rfl) qq_292 (fun _ h9 => h9) rfl dX5_addLetter_1 ?_
  refine va_getN (D := Z.1) (ci := 2) (v := .int (nI sz)) (C := RX2) (T := TX2) (N := 3) hx hb hts iX2 hown hK hP 1 rfl rfl 2 (Nat.le_of_ble_eq_true rfl) qf_30 (fun _ h9 => h9) rfl dX5_addLetter_4 ?_
  refine ln_sipush 600 hx hb dX5_addLetter_7 (by decide) ?_
  refine ln_icmp_lt (tgt := 16) hx hb dX5_addLetter_10 (by decide) (by omega) (by omega) (fun h10 => False.elim (by omega)) (fun h10 => ?_)
  refine lv_bipush (v := (-3)) hx hb dX5_addLetter_13 (by decide) ?_
  exact x_iret hC hr hk hP hD hS dX5_addLetter_15 ⟨rfl, rfl⟩

theorem kv_X2_drop : yX2_drop.cls = RX2 ∧ yX2_drop.cls ≠ "java/lang/invoke/MethodHandle" ∧ yX2_drop.cls ≠ "java/lang/invoke/VarHandle" ∧ (parseMethodDescriptor yX2_drop.desc).map (fun d => d.parameters.length) = some 1 := by decide +kernel
theorem kv_X4_appendTo : yX4_appendTo.cls = RX4 ∧ yX4_appendTo.cls ≠ "java/lang/invoke/MethodHandle" ∧ yX4_appendTo.cls ≠ "java/lang/invoke/VarHandle" ∧ (parseMethodDescriptor yX4_appendTo.desc).map (fun d => d.parameters.length) = some 2 := by decide +kernel
set_option maxHeartbeats 4000000 in
set_option maxRecDepth 100000 in
theorem c_X5_doStep (l : Launch) (Z : xZ) (hw vr vk ar hd sz : Nat) (g : Nat → Nat) (L : List Nat) (hR : RR 600 hd g L) (hsz : sz = L.length) (hp s0 s1 : Nat) (sz1 lt1 : Nat → Nat) (R : xRl) (hV : RV R) (hT : TR (xprod R) sz1 lt1) (hW : WV L) : xMi l Z yX5_doStep vX5_doStep ({ frames := 3, cells := 0, slots := 0, locals := 68 } : Room) [.ref hw, .ref hp] [(hw, .inr (5, [.ref vr, .ref vk])), (vr, .inr (2, [.ref ar, .int (nI hd), .int (nI sz)])), (ar, xI Z 600 g), (hp, .inr (4, [.ref s0, .ref s1])), (s0, xI Z 121 sz1), (s1, xI Z 484 lt1)] (fun r w => (tstep R L = none ∧ r = nI 0 ∧ w = [(hw, .inr (5, [.ref vr, .ref vk])), (vr, .inr (2, [.ref ar, .int (nI hd), .int (nI sz)])), (ar, xI Z 600 g), (hp, .inr (4, [.ref s0, .ref s1])), (s0, xI Z 121 sz1), (s1, xI Z 484 lt1)]) ∨ (∃ L2 hd2 g2, tstep R L = some L2 ∧ RR 600 hd2 g2 L2 ∧ r = nI 1 ∧ w = [(hw, .inr (5, [.ref vr, .ref vk])), (vr, .inr (2, [.ref ar, .int (nI hd2), .int (nI L2.length)])), (ar, xI Z 600 g2), (hp, .inr (4, [.ref s0, .ref s1])), (s0, xI Z 121 sz1), (s1, xI Z 484 lt1)])) := by
  refine x_i (by decide) rfl (Nat.le_of_ble_eq_true rfl) ?_
  intro p e s m args below meth c ls A hC hr hk hl hP hD hS
  have hx := hC.1.1
  have hb := hC.1.2.1
  have hml := hC.1.2.2.1
  have hown : s.vm.findClass RX5 = some m.cls := hC.1.2.2.2.1
  have hts := hC.1.2.2.2.2
  have hK := hC.2.1
  have qq_292 := hts (Cond.fieldLink RX5 14 "TagTower$Word" "row" "LTagTower$LetterRow;") (List.mem_cons_of_mem _ wq_292)
  have iX5 : ∀ w ∈ wsX50, w ∈ vX5_doStep := fun w h => List.mem_cons_of_mem _ (wi_X5 w h)
  have qf_30 := va_Nw.use (A := args) rfl (hC.2.2.2.1.2 (RX5, 30, RX2, "size", "I", RX6) (List.mem_of_getElem? (i := 5) rfl))
  have iX2 : ∀ w ∈ wsX20, w ∈ vX5_doStep := fun w h => List.mem_cons_of_mem _ (wi_X2 w h)
  have hl : lv_has ls 4 [(0, .ref hw), (1, .ref hp)] := hl
  have hP : va_P Z.1 vwCl [(hw, .inr (5, [.ref vr, .ref vk])), (vr, .inr (2, [.ref ar, .int (nI hd), .int (nI sz)])), (ar, xI Z 600 g), (hp, .inr (4, [.ref s0, .ref s1])), (s0, xI Z 121 sz1), (s1, xI Z 484 lt1)] s.heap := hP
  have hD : va_D A [(hw, .inr (5, [.ref vr, .ref vk])), (vr, .inr (2, [.ref ar, .int (nI hd), .int (nI sz)])), (ar, xI Z 600 g), (hp, .inr (4, [.ref s0, .ref s1])), (s0, xI Z 121 sz1), (s1, xI Z 484 lt1)] := hD
  have hR1 := hR.1
  have hR2 := hR.2.1
  rcases Nat.eq_zero_or_pos L.length with hle | hle
  · have hR1 := hR.1
    have hR2 := hR.2.1
    refine lv_aload_n hx hb dX5_doStep_0 rfl (lv_at hl 0 rfl) ?_
    refine va_get (D := Z.1) (ci := 5) (v := .ref vr) (C := RX5) (T := TX5) (N := 2) hx hb hts iX5 hown hK hP 0 rfl rfl 0 (Nat.le_of_ble_eq_true rfl) qq_292 (fun _ h9 => h9) rfl dX5_doStep_1 ?_
    refine ln_const 0 hx hb dX5_doStep_4 (by decide) ?_
    refine x_Vi (y := yX2_get) (As := [.int (nI 0)]) (wc := [(vr, .inr (2, [.ref ar, .int (nI hd), .int (nI sz)])), (ar, xI Z 600 g)]) (wr := [(hw, .inr (5, [.ref vr, .ref vk])), (hp, .inr (4, [.ref s0, .ref s1])), (s0, xI Z 121 sz1), (s1, xI Z 484 lt1)]) hC hP hD hS (c_X2_get_out l Z vr ar 600 hd sz g L (by omega) hR hsz (nI 0) (by rw [hle]; decide)) (gV wq_524 wq_542 wq_522 wq_523 wq_43) rfl kv_X2_get rfl rfl ⟨rfl, rfl⟩ rfl hl.1 rfl ⟨Nat.le_of_ble_eq_true rfl, Nat.le_of_ble_eq_true rfl⟩ [1, 2] [0, 3, 4, 5] rfl rfl (by decide) (by decide) (by decide) rfl dX5_doStep_5 (fun r5 w1 H locs hw hP hD hS => ?_)
    obtain ⟨rfl, rfl⟩ := hw
    have hP := hP.sub (ws' := [(hw, .inr (5, [.ref vr, .ref vk])), (vr, .inr (2, [.ref ar, .int (nI hd), .int (nI sz)])), (ar, xI Z 600 g), (hp, .inr (4, [.ref s0, .ref s1])), (s0, xI Z 121 sz1), (s1, xI Z 484 lt1)]) [0, 4, 5, 1, 2, 3] rfl
    have hD := hD.sub (ws' := [(hw, .inr (5, [.ref vr, .ref vk])), (vr, .inr (2, [.ref ar, .int (nI hd), .int (nI sz)])), (ar, xI Z 600 g), (hp, .inr (4, [.ref s0, .ref s1])), (s0, xI Z 121 sz1), (s1, xI Z 484 lt1)]) [0, 4, 5, 1, 2, 3] (by decide) rfl
    refine lv_istore_n (lv' := [(2, .int ((-9))), (0, .ref hw), (1, .ref hp)]) hx hb dX5_doStep_8 rfl hl (by decide) rfl (fun ls hl => ?_)
    refine lv_aload_n hx hb dX5_doStep_9 rfl (lv_at hl 2 rfl) ?_
    refine lv_iload_n hx hb dX5_doStep_10 rfl (lv_at hl 0 rfl) ?_
    refine x_Vi (y := yX4_sizeOf) (As := [.int ((-9))]) (wc := [(hp, .inr (4, [.ref s0, .ref s1])), (s0, xI Z 121 sz1), (s1, xI Z 484 lt1)]) (wr := [(hw, .inr (5, [.ref vr, .ref vk])), (vr, .inr (2, [.ref ar, .int (nI hd), .int (nI sz)])), (ar, xI Z 600 g)]) hC hP hD hS (c_sizeOf_no l Z hp s0 s1 sz1 lt1) (gV wq_478 wq_543 wq_476 wq_477 wq_35) rfl kv_X4_sizeOf rfl rfl ⟨rfl, rfl⟩ rfl hl.1 rfl ⟨Nat.le_of_ble_eq_true rfl, Nat.le_of_ble_eq_true rfl⟩ [3, 4, 5] [0, 1, 2] rfl rfl (by decide) (by decide) (by decide) rfl dX5_doStep_11 (fun r11 w1 H locs hw hP hD hS => ?_)
    obtain ⟨rfl, rfl⟩ := hw
    have hP : va_P Z.1 vwCl [(hw, .inr (5, [.ref vr, .ref vk])), (vr, .inr (2, [.ref ar, .int (nI hd), .int (nI sz)])), (ar, xI Z 600 g), (hp, .inr (4, [.ref s0, .ref s1])), (s0, xI Z 121 sz1), (s1, xI Z 484 lt1)] H := hP
    have hD : va_D A [(hw, .inr (5, [.ref vr, .ref vk])), (vr, .inr (2, [.ref ar, .int (nI hd), .int (nI sz)])), (ar, xI Z 600 g), (hp, .inr (4, [.ref s0, .ref s1])), (s0, xI Z 121 sz1), (s1, xI Z 484 lt1)] := hD
    refine lv_istore_n (lv' := [(3, .int (nI 0)), (2, .int ((-9))), (0, .ref hw), (1, .ref hp)]) hx hb dX5_doStep_14 rfl hl (by decide) rfl (fun ls hl => ?_)
    refine lv_aload_n hx hb dX5_doStep_15 rfl (lv_at hl 2 rfl) ?_
    refine va_get (D := Z.1) (ci := 5) (v := .ref vr) (C := RX5) (T := TX5) (N := 2) hx hb hts iX5 hown hK hP 0 rfl rfl 0 (Nat.le_of_ble_eq_true rfl) qq_292 (fun _ h9 => h9) rfl dX5_doStep_16 ?_
    refine va_getN (D := Z.1) (ci := 2) (v := .int (nI sz)) (C := RX2) (T := TX2) (N := 3) hx hb hts iX2 hown hK hP 1 rfl rfl 2 (Nat.le_of_ble_eq_true rfl) qf_30 (fun _ h9 => h9) rfl dX5_doStep_19 ?_
    refine ln_const 2 hx hb dX5_doStep_22 (by decide) ?_
    refine ln_icmp_lt (tgt := 47) hx hb dX5_doStep_23 (by decide) (by omega) (by omega) (fun h23 => ?_) (fun h23 => False.elim (by omega))
    refine ln_const 0 hx hb dX5_doStep_47 (by decide) ?_
    exact x_zret hC hr rfl hk hP hD hS dX5_doStep_48 (Or.inl ⟨by unfold tstep; rw [if_pos (by omega)], rfl, rfl⟩)
  · have hR1 := hR.1
    have hR2 := hR.2.1
    refine lv_aload_n hx hb dX5_doStep_0 rfl (lv_at hl 0 rfl) ?_
    refine va_get (D := Z.1) (ci := 5) (v := .ref vr) (C := RX5) (T := TX5) (N := 2) hx hb hts iX5 hown hK hP 0 rfl rfl 0 (Nat.le_of_ble_eq_true rfl) qq_292 (fun _ h9 => h9) rfl dX5_doStep_1 ?_
    refine ln_const 0 hx hb dX5_doStep_4 (by decide) ?_
    refine x_Vi (y := yX2_get) (As := [.int (nI 0)]) (wc := [(vr, .inr (2, [.ref ar, .int (nI hd), .int (nI sz)])), (ar, xI Z 600 g)]) (wr := [(hw, .inr (5, [.ref vr, .ref vk])), (hp, .inr (4, [.ref s0, .ref s1])), (s0, xI Z 121 sz1), (s1, xI Z 484 lt1)]) hC hP hD hS (c_X2_get_in l Z vr ar 600 hd sz g L (by omega) hR hsz 0 (by omega)) (gV wq_524 wq_542 wq_522 wq_523 wq_43) rfl kv_X2_get rfl rfl ⟨rfl, rfl⟩ rfl hl.1 rfl ⟨Nat.le_of_ble_eq_true rfl, Nat.le_of_ble_eq_true rfl⟩ [1, 2] [0, 3, 4, 5] rfl rfl (by decide) (by decide) (by decide) rfl dX5_doStep_5 (fun r5 w1 H locs hw hP hD hS => ?_)
    obtain ⟨rfl, rfl⟩ := hw
    have hP := hP.sub (ws' := [(hw, .inr (5, [.ref vr, .ref vk])), (vr, .inr (2, [.ref ar, .int (nI hd), .int (nI sz)])), (ar, xI Z 600 g), (hp, .inr (4, [.ref s0, .ref s1])), (s0, xI Z 121 sz1), (s1, xI Z 484 lt1)]) [0, 4, 5, 1, 2, 3] rfl
    have hD := hD.sub (ws' := [(hw, .inr (5, [.ref vr, .ref vk])), (vr, .inr (2, [.ref ar, .int (nI hd), .int (nI sz)])), (ar, xI Z 600 g), (hp, .inr (4, [.ref s0, .ref s1])), (s0, xI Z 121 sz1), (s1, xI Z 484 lt1)]) [0, 4, 5, 1, 2, 3] (by decide) rfl
    have hc0 := hW.at0 (i := 0) (by omega)
    have hT4 := (xprod_ok hV hc0).1
    have htp := tapp_in (T := xprod R) hc0
    refine lv_istore_n (lv' := [(2, .int (nI (L.getD 0 0))), (0, .ref hw), (1, .ref hp)]) hx hb dX5_doStep_8 rfl hl (by decide) rfl (fun ls hl => ?_)
    refine lv_aload_n hx hb dX5_doStep_9 rfl (lv_at hl 2 rfl) ?_
    refine lv_iload_n hx hb dX5_doStep_10 rfl (lv_at hl 0 rfl) ?_
    refine x_Vi (y := yX4_sizeOf) (As := [.int (nI (L.getD 0 0))]) (wc := [(hp, .inr (4, [.ref s0, .ref s1])), (s0, xI Z 121 sz1), (s1, xI Z 484 lt1)]) (wr := [(hw, .inr (5, [.ref vr, .ref vk])), (vr, .inr (2, [.ref ar, .int (nI hd), .int (nI sz)])), (ar, xI Z 600 g)]) hC hP hD hS (c_sizeOf l Z hp s0 s1 sz1 lt1 (xprod R) hT (L.getD 0 0) (by omega)) (gV wq_478 wq_543 wq_476 wq_477 wq_35) rfl kv_X4_sizeOf rfl rfl ⟨rfl, rfl⟩ rfl hl.1 rfl ⟨Nat.le_of_ble_eq_true rfl, Nat.le_of_ble_eq_true rfl⟩ [3, 4, 5] [0, 1, 2] rfl rfl (by decide) (by decide) (by decide) rfl dX5_doStep_11 (fun r11 w1 H locs hw hP hD hS => ?_)
    obtain ⟨rfl, rfl⟩ := hw
    have hP : va_P Z.1 vwCl [(hw, .inr (5, [.ref vr, .ref vk])), (vr, .inr (2, [.ref ar, .int (nI hd), .int (nI sz)])), (ar, xI Z 600 g), (hp, .inr (4, [.ref s0, .ref s1])), (s0, xI Z 121 sz1), (s1, xI Z 484 lt1)] H := hP
    have hD : va_D A [(hw, .inr (5, [.ref vr, .ref vk])), (vr, .inr (2, [.ref ar, .int (nI hd), .int (nI sz)])), (ar, xI Z 600 g), (hp, .inr (4, [.ref s0, .ref s1])), (s0, xI Z 121 sz1), (s1, xI Z 484 lt1)] := hD
    rw [htp]
    refine lv_istore_n (lv' := [(3, .int (nI ((xprod R (L.getD 0 0)).length))), (2, .int (nI (L.getD 0 0))), (0, .ref hw), (1, .ref hp)]) hx hb dX5_doStep_14 rfl hl (by decide) rfl (fun ls hl => ?_)
    refine lv_aload_n hx hb dX5_doStep_15 rfl (lv_at hl 2 rfl) ?_
    refine va_get (D := Z.1) (ci := 5) (v := .ref vr) (C := RX5) (T := TX5) (N := 2) hx hb hts iX5 hown hK hP 0 rfl rfl 0 (Nat.le_of_ble_eq_true rfl) qq_292 (fun _ h9 => h9) rfl dX5_doStep_16 ?_
    refine va_getN (D := Z.1) (ci := 2) (v := .int (nI sz)) (C := RX2) (T := TX2) (N := 3) hx hb hts iX2 hown hK hP 1 rfl rfl 2 (Nat.le_of_ble_eq_true rfl) qf_30 (fun _ h9 => h9) rfl dX5_doStep_19 ?_
    refine ln_const 2 hx hb dX5_doStep_22 (by decide) ?_
    refine ln_icmp_lt (tgt := 47) hx hb dX5_doStep_23 (by decide) (by omega) (by omega) (fun h23 => ?_) (fun h23 => ?_)
    · refine ln_const 0 hx hb dX5_doStep_47 (by decide) ?_
      exact x_zret hC hr rfl hk hP hD hS dX5_doStep_48 (Or.inl ⟨by unfold tstep; rw [if_pos (by omega)], rfl, rfl⟩)
    · refine lv_iload_n hx hb dX5_doStep_26 rfl (lv_at hl 0 rfl) ?_
      refine ln_if_eq (tgt := 47) hx hb dX5_doStep_27 (by decide) (by omega) (fun h27 => ?_) (fun h27 => ?_)
      · refine ln_const 0 hx hb dX5_doStep_47 (by decide) ?_
        exact x_zret hC hr rfl hk hP hD hS dX5_doStep_48 (Or.inl ⟨by unfold tstep; rw [if_neg (by omega), if_pos (by omega)], rfl, rfl⟩)
      · refine lv_aload_n hx hb dX5_doStep_30 rfl (lv_at hl 2 rfl) ?_
        refine va_get (D := Z.1) (ci := 5) (v := .ref vr) (C := RX5) (T := TX5) (N := 2) hx hb hts iX5 hown hK hP 0 rfl rfl 0 (Nat.le_of_ble_eq_true rfl) qq_292 (fun _ h9 => h9) rfl dX5_doStep_31 ?_
        refine va_getN (D := Z.1) (ci := 2) (v := .int (nI sz)) (C := RX2) (T := TX2) (N := 3) hx hb hts iX2 hown hK hP 1 rfl rfl 2 (Nat.le_of_ble_eq_true rfl) qf_30 (fun _ h9 => h9) rfl dX5_doStep_34 ?_
        refine ln_const 2 hx hb dX5_doStep_37 (by decide) ?_
        refine ln_isub (sz - 2) hx hb dX5_doStep_38 (by omega) (by first | rfl | omega) ?_
        refine lv_iload_n hx hb dX5_doStep_39 rfl (lv_at hl 0 rfl) ?_
        refine ln_iadd ((sz - 2) + ((xprod R (L.getD 0 0)).length)) hx hb dX5_doStep_40 (by first | rfl | omega) ?_
        refine ln_sipush 600 hx hb dX5_doStep_41 (by decide) ?_
        refine ln_icmp_le (tgt := 49) hx hb dX5_doStep_44 (by decide) (by omega) (by omega) (fun h44 => ?_) (fun h44 => ?_)
        · refine lv_aload_n hx hb dX5_doStep_49 rfl (lv_at hl 2 rfl) ?_
          refine va_get (D := Z.1) (ci := 5) (v := .ref vr) (C := RX5) (T := TX5) (N := 2) hx hb hts iX5 hown hK hP 0 rfl rfl 0 (Nat.le_of_ble_eq_true rfl) qq_292 (fun _ h9 => h9) rfl dX5_doStep_50 ?_
          refine ln_const 2 hx hb dX5_doStep_53 (by decide) ?_
          refine x_Vv (y := yX2_drop) (As := [.int (nI 2)]) (wc := [(vr, .inr (2, [.ref ar, .int (nI hd), .int (nI sz)])), (ar, xI Z 600 g)]) (wr := [(hw, .inr (5, [.ref vr, .ref vk])), (hp, .inr (4, [.ref s0, .ref s1])), (s0, xI Z 121 sz1), (s1, xI Z 484 lt1)]) hC hP hD hS (c_X2_drop l Z vr ar 600 hd sz g L (by omega) hR hsz 2 (by omega)) (gV wq_547 wq_544 wq_545 wq_546 wq_43) rfl kv_X2_drop rfl rfl ⟨rfl, rfl⟩ rfl hl.1 rfl ⟨Nat.le_of_ble_eq_true rfl, Nat.le_of_ble_eq_true rfl⟩ [1, 2] [0, 3, 4, 5] rfl rfl (by decide) (by decide) (by decide) rfl dX5_doStep_54 (fun w1 H locs hw hP hD hS => ?_)
          obtain ⟨hRd, rfl⟩ := hw
          have hP := hP.sub (ws' := [(hw, .inr (5, [.ref vr, .ref vk])), (vr, .inr (2, [.ref ar, .int (nI (xwr 600 (hd + 2))), .int (nI (sz - 2))])), (ar, xI Z 600 g), (hp, .inr (4, [.ref s0, .ref s1])), (s0, xI Z 121 sz1), (s1, xI Z 484 lt1)]) [0, 4, 5, 1, 2, 3] rfl
          have hD := hD.sub (ws' := [(hw, .inr (5, [.ref vr, .ref vk])), (vr, .inr (2, [.ref ar, .int (nI (xwr 600 (hd + 2))), .int (nI (sz - 2))])), (ar, xI Z 600 g), (hp, .inr (4, [.ref s0, .ref s1])), (s0, xI Z 121 sz1), (s1, xI Z 484 lt1)]) [0, 4, 5, 1, 2, 3] (by decide) rfl
          refine lv_aload_n hx hb dX5_doStep_57 rfl (lv_at hl 3 rfl) ?_
          refine lv_aload_n hx hb dX5_doStep_58 rfl (lv_at hl 2 rfl) ?_
          refine va_get (D := Z.1) (ci := 5) (v := .ref vr) (C := RX5) (T := TX5) (N := 2) hx hb hts iX5 hown hK hP 0 rfl rfl 0 (Nat.le_of_ble_eq_true rfl) qq_292 (fun _ h9 => h9) rfl dX5_doStep_59 ?_
          refine lv_iload_n hx hb dX5_doStep_62 rfl (lv_at hl 1 rfl) ?_
          refine x_Vv (y := yX4_appendTo) (As := [.ref vr, .int (nI (L.getD 0 0))]) (wc := [(hp, .inr (4, [.ref s0, .ref s1])), (s0, xI Z 121 sz1), (s1, xI Z 484 lt1), (vr, .inr (2, [.ref ar, .int (nI (xwr 600 (hd + 2))), .int (nI (sz - 2))])), (ar, xI Z 600 g)]) (wr := [(hw, .inr (5, [.ref vr, .ref vk]))]) hC hP hD hS (c_X4_appendTo l Z hp s0 s1 sz1 lt1 (xprod R) hT vr ar 600 (xwr 600 (hd + 2)) (sz - 2) g (L.drop 2) (by decide) hRd (by rw [List.length_drop]; omega) (L.getD 0 0) (by omega) (by rw [htp, List.length_drop]; omega)) (gV wq_552 wq_549 wq_550 wq_551 wq_35) rfl kv_X4_appendTo rfl rfl ⟨rfl, rfl⟩ rfl hl.1 rfl ⟨Nat.le_of_ble_eq_true rfl, Nat.le_of_ble_eq_true rfl⟩ [3, 4, 5, 1, 2] [0] rfl rfl (by decide) (by decide) (by decide) rfl dX5_doStep_63 (fun w1 H locs hw hP hD hS => ?_)
          obtain ⟨g2, hg2, rfl⟩ := hw
          have hP := hP.sub (ws' := [(hw, .inr (5, [.ref vr, .ref vk])), (vr, .inr (2, [.ref ar, .int (nI (xwr 600 (hd + 2))), .int (nI (sz - 2 + (tapp (xprod R) (L.getD 0 0)).length))])), (ar, xI Z 600 g2), (hp, .inr (4, [.ref s0, .ref s1])), (s0, xI Z 121 sz1), (s1, xI Z 484 lt1)]) [0, 4, 5, 1, 2, 3] rfl
          have hD := hD.sub (ws' := [(hw, .inr (5, [.ref vr, .ref vk])), (vr, .inr (2, [.ref ar, .int (nI (xwr 600 (hd + 2))), .int (nI (sz - 2 + (tapp (xprod R) (L.getD 0 0)).length))])), (ar, xI Z 600 g2), (hp, .inr (4, [.ref s0, .ref s1])), (s0, xI Z 121 sz1), (s1, xI Z 484 lt1)]) [0, 4, 5, 1, 2, 3] (by decide) rfl
          refine ln_const 1 hx hb dX5_doStep_66 (by decide) ?_
          rw [htp] at hg2 hP hD
          exact x_zret hC hr rfl hk hP hD hS dX5_doStep_67 (Or.inr ⟨L.drop 2 ++ xprod R (L.getD 0 0), _, g2, by unfold tstep; rw [if_neg (by omega), if_neg (by omega), if_neg (by omega)], hg2, rfl, by rw [List.length_append, List.length_drop, hsz]⟩)
        · refine ln_const 0 hx hb dX5_doStep_47 (by decide) ?_
          exact x_zret hC hr rfl hk hP hD hS dX5_doStep_48 (Or.inl ⟨by unfold tstep; rw [if_neg (by omega), if_neg (by omega), if_pos (by omega)], rfl, rfl⟩)

theorem kv_X5_doStep : yX5_doStep.cls = RX5 ∧ yX5_doStep.cls ≠ "java/lang/invoke/MethodHandle" ∧ yX5_doStep.cls ≠ "java/lang/invoke/VarHandle" ∧ (parseMethodDescriptor yX5_doStep.desc).map (fun d => d.parameters.length) = some 1 := by decide +kernel
set_option maxHeartbeats 4000000 in
set_option maxRecDepth 100000 in
theorem c_X5_doSteps (l : Launch) (Z : xZ) (hw vr vk ar hd sz : Nat) (g : Nat → Nat) (L : List Nat) (hR : RR 600 hd g L) (hsz : sz = L.length) (hp s0 s1 : Nat) (sz1 lt1 : Nat → Nat) (R : xRl) (hV : RV R) (hT : TR (xprod R) sz1 lt1) (hW : WV L) (n : Nat) (hn : n ≤ 20000) : xMi l Z yX5_doSteps vX5_doSteps ({ frames := 4, cells := 0, slots := 0, locals := 91 } : Room) [.ref hw, .int (nI n), .ref hp] [(hw, .inr (5, [.ref vr, .ref vk])), (vr, .inr (2, [.ref ar, .int (nI hd), .int (nI sz)])), (ar, xI Z 600 g), (hp, .inr (4, [.ref s0, .ref s1])), (s0, xI Z 121 sz1), (s1, xI Z 484 lt1)] (fun r w => ∃ k L2 hd2 g2, xrun (tstep R) n L = (k, L2) ∧ RR 600 hd2 g2 L2 ∧ WV L2 ∧ r = nI k ∧ w = [(hw, .inr (5, [.ref vr, .ref vk])), (vr, .inr (2, [.ref ar, .int (nI hd2), .int (nI L2.length)])), (ar, xI Z 600 g2), (hp, .inr (4, [.ref s0, .ref s1])), (s0, xI Z 121 sz1), (s1, xI Z 484 lt1)]) := by
  refine x_i (by decide) rfl (Nat.le_of_ble_eq_true rfl) ?_
  intro p e s m args below meth c ls A hC hr hk hl hP hD hS
  have hx := hC.1.1
  have hb := hC.1.2.1
  have hml := hC.1.2.2.1
  have hown : s.vm.findClass RX5 = some m.cls := hC.1.2.2.2.1
  have hts := hC.1.2.2.2.2
  have hK := hC.2.1
  have hl : lv_has ls 4 [(0, .ref hw), (1, .int (nI n)), (2, .ref hp)] := hl
  have hP : va_P Z.1 vwCl [(hw, .inr (5, [.ref vr, .ref vk])), (vr, .inr (2, [.ref ar, .int (nI hd), .int (nI sz)])), (ar, xI Z 600 g), (hp, .inr (4, [.ref s0, .ref s1])), (s0, xI Z 121 sz1), (s1, xI Z 484 lt1)] s.heap := hP
  have hD : va_D A [(hw, .inr (5, [.ref vr, .ref vk])), (vr, .inr (2, [.ref ar, .int (nI hd), .int (nI sz)])), (ar, xI Z 600 g), (hp, .inr (4, [.ref s0, .ref s1])), (s0, xI Z 121 sz1), (s1, xI Z 484 lt1)] := hD
  refine ln_const 0 hx hb dX5_doSteps_0 (by decide) ?_
  refine lv_istore_n (lv' := [(3, .int (nI 0)), (0, .ref hw), (1, .int (nI n)), (2, .ref hp)]) hx hb dX5_doSteps_1 rfl hl (by decide) rfl (fun ls hl => ?_)
  have hloop2 : ∀ (nn : Nat) (k hd1 sz2 : Nat) (g1 : Nat → Nat) (L1 : List Nat) (H : Heap) (locs : List Loc) (ls : Array Slot) (hX : XR (tstep R) n L k L1) (hR1 : RR 600 hd1 g1 L1) (hs1 : sz2 = L1.length) (hW1 : WV L1) (hmu : n - k < nn) (hP : va_P Z.1 vwCl [(hw, .inr (5, [.ref vr, .ref vk])), (vr, .inr (2, [.ref ar, .int (nI hd1), .int (nI sz2)])), (ar, xI Z 600 g1), (hp, .inr (4, [.ref s0, .ref s1])), (s0, xI Z 121 sz1), (s1, xI Z 484 lt1)] H) (hD : va_D A [(hw, .inr (5, [.ref vr, .ref vk])), (vr, .inr (2, [.ref ar, .int (nI hd1), .int (nI sz2)])), (ar, xI Z 600 g1), (hp, .inr (4, [.ref s0, .ref s1])), (s0, xI Z 121 sz1), (s1, xI Z 484 lt1)]) (hS : va_S A s.heap H locs) (hl : lv_has ls 4 [(0, .ref hw), (1, .int (nI n)), (2, .ref hp), (3, .int (nI k))]), W p l e ({ frames := 4, cells := 0, slots := 0, locals := 91 } : Room) s m args below meth c H locs 0 0 (MQ below (va_Qi (fun r w => ∃ k L2 hd2 g2, xrun (tstep R) n L = (k, L2) ∧ RR 600 hd2 g2 L2 ∧ WV L2 ∧ r = nI k ∧ w = [(hw, .inr (5, [.ref vr, .ref vk])), (vr, .inr (2, [.ref ar, .int (nI hd2), .int (nI L2.length)])), (ar, xI Z 600 g2), (hp, .inr (4, [.ref s0, .ref s1])), (s0, xI Z 121 sz1), (s1, xI Z 484 lt1)]) (xB Z A) A) args s ({ frames := 4, cells := 0, slots := 0, locals := 91 } : Room).cells ({ frames := 4, cells := 0, slots := 0, locals := 91 } : Room).slots A) (F0 m 2 ls []) := by
    intro nn
    induction nn with
    | zero => intro k hd1 sz2 g1 L1 H locs ls hX hR1 hs1 hW1 hmu; exact absurd hmu (Nat.not_lt_zero _)
    | succ nn ih =>
      intro k hd1 sz2 g1 L1 H locs ls hX hR1 hs1 hW1 hmu hP hD hS hl
      have hk1 := hX.1
      refine lv_iload_n hx hb dX5_doSteps_2 rfl (lv_at hl 3 rfl) ?_
      refine lv_iload_n hx hb dX5_doSteps_3 rfl (lv_at hl 1 rfl) ?_
      refine ln_icmp_ge (tgt := 21) hx hb dX5_doSteps_4 (by decide) (by omega) (by omega) (fun h4 => ?_) (fun h4 => ?_)
      · refine lv_iload_n hx hb dX5_doSteps_21 rfl (lv_at hl 3 rfl) ?_
        exact x_iret hC hr hk hP hD hS dX5_doSteps_22 ⟨k, L1, hd1, g1, hX.full (by omega), hR1, hW1, rfl, by rw [hs1]⟩
      · refine lv_aload_n hx hb dX5_doSteps_7 rfl (lv_at hl 0 rfl) ?_
        refine lv_aload_n hx hb dX5_doSteps_8 rfl (lv_at hl 2 rfl) ?_
        refine x_Vi (y := yX5_doStep) (As := [.ref hp]) (wc := [(hw, .inr (5, [.ref vr, .ref vk])), (vr, .inr (2, [.ref ar, .int (nI hd1), .int (nI sz2)])), (ar, xI Z 600 g1), (hp, .inr (4, [.ref s0, .ref s1])), (s0, xI Z 121 sz1), (s1, xI Z 484 lt1)]) (wr := []) hC hP hD hS (c_X5_doStep l Z hw vr vk ar hd1 sz2 g1 L1 hR1 hs1 hp s0 s1 sz1 lt1 R hV hT hW1) (gV wq_541 wq_538 wq_540 wq_8 wq_42) rfl kv_X5_doStep rfl rfl ⟨rfl, rfl⟩ rfl hl.1 rfl ⟨Nat.le_of_ble_eq_true rfl, Nat.le_of_ble_eq_true rfl⟩ [0, 1, 2, 3, 4, 5] ([] : List Nat) rfl rfl (by decide) (by decide) (by decide) rfl dX5_doSteps_9 (fun r9 w1 H locs hw hP hD hS => ?_)
        rcases hw with ⟨hst, rfl, rfl⟩ | ⟨L2, hd2, g2, hst, hR2, rfl, rfl⟩
        · have hP : va_P Z.1 vwCl [(hw, .inr (5, [.ref vr, .ref vk])), (vr, .inr (2, [.ref ar, .int (nI hd1), .int (nI sz2)])), (ar, xI Z 600 g1), (hp, .inr (4, [.ref s0, .ref s1])), (s0, xI Z 121 sz1), (s1, xI Z 484 lt1)] H := hP
          have hD : va_D A [(hw, .inr (5, [.ref vr, .ref vk])), (vr, .inr (2, [.ref ar, .int (nI hd1), .int (nI sz2)])), (ar, xI Z 600 g1), (hp, .inr (4, [.ref s0, .ref s1])), (s0, xI Z 121 sz1), (s1, xI Z 484 lt1)] := hD
          refine ln_if_eq (tgt := 21) hx hb dX5_doSteps_12 (by decide) (by omega) (fun h12 => ?_) (fun h12 => False.elim (by omega))
          refine lv_iload_n hx hb dX5_doSteps_21 rfl (lv_at hl 3 rfl) ?_
          exact x_iret hC hr hk hP hD hS dX5_doSteps_22 ⟨k, L1, hd1, g1, hX.stop hst, hR1, hW1, rfl, by rw [hs1]⟩
        · have hP : va_P Z.1 vwCl [(hw, .inr (5, [.ref vr, .ref vk])), (vr, .inr (2, [.ref ar, .int (nI hd2), .int (nI L2.length)])), (ar, xI Z 600 g2), (hp, .inr (4, [.ref s0, .ref s1])), (s0, xI Z 121 sz1), (s1, xI Z 484 lt1)] H := hP
          have hD : va_D A [(hw, .inr (5, [.ref vr, .ref vk])), (vr, .inr (2, [.ref ar, .int (nI hd2), .int (nI L2.length)])), (ar, xI Z 600 g2), (hp, .inr (4, [.ref s0, .ref s1])), (s0, xI Z 121 sz1), (s1, xI Z 484 lt1)] := hD
          refine ln_if_eq (tgt := 21) hx hb dX5_doSteps_12 (by decide) (by omega) (fun h12 => False.elim (by omega)) (fun h12 => ?_)
          refine ln_iinc (k0 := 3) (k := 1) (k + 1) (lv' := [(3, .int (nI (k + 1))), (0, .ref hw), (1, .int (nI n)), (2, .ref hp)]) hx hb dX5_doSteps_15 hl rfl rfl (by first | rfl | omega) (by decide) rfl (fun ls hl => ?_)
          refine lv_goto (tgt := 2) hx hb dX5_doSteps_18 (by decide) ?_
          exact ih  (k + 1) hd2 L2.length g2 L2 _ _ _ (hX.step (by omega) hst) hR2 rfl (tstep_ok hV hW1 hst) (by omega) hP hD hS (lv_sub hl [1, 2, 3, 0] rfl)
  exact hloop2 ((n - 0) + 1) 0 hd sz g L _ _ _ (XR.beg _ _ _) hR hsz hW (Nat.lt_succ_self _) hP hD hS (lv_sub hl [1, 2, 3, 0] rfl)

set_option maxHeartbeats 4000000 in
set_option maxRecDepth 100000 in
theorem c_X5_behindTwos (l : Launch) (Z : xZ) (hw vr vk ar hd sz : Nat) (g : Nat → Nat) (L : List Nat) (hR : RR 600 hd g L) (hsz : sz = L.length) (c1 f : Nat) (hc : c1 < 200) (hf : f < 1000) (h121 : ∀ z ∈ L, z < 121) : xMi l Z yX5_behindTwos vX5_behindTwos ({ frames := 2, cells := 0, slots := 0, locals := 43 } : Room) [.ref hw, .int (nI c1), .int (nI f)] [(hw, .inr (5, [.ref vr, .ref vk])), (vr, .inr (2, [.ref ar, .int (nI hd), .int (nI sz)])), (ar, xI Z 600 g)] (fun r w => ∃ k, BT L c1 f k ∧ r = nI (f + 2 * k) ∧ f + 2 * k < 3000 ∧ w = [(hw, .inr (5, [.ref vr, .ref vk])), (vr, .inr (2, [.ref ar, .int (nI hd), .int (nI sz)])), (ar, xI Z 600 g)]) := by
  refine x_i (by decide) rfl (Nat.le_of_ble_eq_true rfl) ?_
  intro p e s m args below meth c ls A hC hr hk hl hP hD hS
  have hx := hC.1.1
  have hb := hC.1.2.1
  have hml := hC.1.2.2.1
  have hown : s.vm.findClass RX5 = some m.cls := hC.1.2.2.2.1
  have hts := hC.1.2.2.2.2
  have hK := hC.2.1
  have qq_292 := hts (Cond.fieldLink RX5 14 "TagTower$Word" "row" "LTagTower$LetterRow;") (List.mem_cons_of_mem _ wq_292)
  have iX5 : ∀ w ∈ wsX50, w ∈ vX5_behindTwos := fun w h => List.mem_cons_of_mem _ (wi_X5 w h)
  have qf_30 := va_Nw.use (A := args) rfl (hC.2.2.2.1.2 (RX5, 30, RX2, "size", "I", RX6) (List.mem_of_getElem? (i := 5) rfl))
  have iX2 : ∀ w ∈ wsX20, w ∈ vX5_behindTwos := fun w h => List.mem_cons_of_mem _ (wi_X2 w h)
  have hl : lv_has ls 4 [(0, .ref hw), (1, .int (nI c1)), (2, .int (nI f))] := hl
  have hP : va_P Z.1 vwCl [(hw, .inr (5, [.ref vr, .ref vk])), (vr, .inr (2, [.ref ar, .int (nI hd), .int (nI sz)])), (ar, xI Z 600 g)] s.heap := hP
  have hD : va_D A [(hw, .inr (5, [.ref vr, .ref vk])), (vr, .inr (2, [.ref ar, .int (nI hd), .int (nI sz)])), (ar, xI Z 600 g)] := hD
  have hR1 := hR.1
  have hR2 := hR.2.1
  refine lv_iload_n hx hb dX5_behindTwos_0 rfl (lv_at hl 2 rfl) ?_
  refine lv_istore_n (lv' := [(3, .int (nI f)), (0, .ref hw), (1, .int (nI c1)), (2, .int (nI f))]) hx hb dX5_behindTwos_1 rfl hl (by decide) rfl (fun ls hl => ?_)
  have hloop2 : ∀ (nn : Nat) (k : Nat) (H : Heap) (locs : List Loc) (ls : Array Slot) (hB : ∀ j, j < k → f + 2 * j + 1 < L.length ∧ L.getD (f + 2 * j) 0 = c1 ∧ L.getD (f + 2 * j + 1) 0 = 0) (hmu : 1000 - k < nn) (hP : va_P Z.1 vwCl [(hw, .inr (5, [.ref vr, .ref vk])), (vr, .inr (2, [.ref ar, .int (nI hd), .int (nI sz)])), (ar, xI Z 600 g)] H) (hD : va_D A [(hw, .inr (5, [.ref vr, .ref vk])), (vr, .inr (2, [.ref ar, .int (nI hd), .int (nI sz)])), (ar, xI Z 600 g)]) (hS : va_S A s.heap H locs) (hl : lv_has ls 4 [(0, .ref hw), (1, .int (nI c1)), (2, .int (nI f)), (3, .int (nI (f + 2 * k)))]), W p l e ({ frames := 2, cells := 0, slots := 0, locals := 43 } : Room) s m args below meth c H locs 0 0 (MQ below (va_Qi (fun r w => ∃ k, BT L c1 f k ∧ r = nI (f + 2 * k) ∧ f + 2 * k < 3000 ∧ w = [(hw, .inr (5, [.ref vr, .ref vk])), (vr, .inr (2, [.ref ar, .int (nI hd), .int (nI sz)])), (ar, xI Z 600 g)]) (xB Z A) A) args s ({ frames := 2, cells := 0, slots := 0, locals := 43 } : Room).cells ({ frames := 2, cells := 0, slots := 0, locals := 43 } : Room).slots A) (F0 m 2 ls []) := by
    intro nn
    induction nn with
    | zero => intro k H locs ls hB hmu; exact absurd hmu (Nat.not_lt_zero _)
    | succ nn ih =>
      intro k H locs ls hB hmu hP hD hS hl
      have hk9 : k < 600 := by
        rcases Nat.eq_zero_or_pos k with q | q
        · omega
        · have := (hB (k - 1) (by omega)).1; omega
      refine lv_iload_n hx hb dX5_behindTwos_2 rfl (lv_at hl 3 rfl) ?_
      refine lv_aload_n hx hb dX5_behindTwos_3 rfl (lv_at hl 0 rfl) ?_
      refine va_get (D := Z.1) (ci := 5) (v := .ref vr) (C := RX5) (T := TX5) (N := 2) hx hb hts iX5 hown hK hP 0 rfl rfl 0 (Nat.le_of_ble_eq_true rfl) qq_292 (fun _ h9 => h9) rfl dX5_behindTwos_4 ?_
      refine va_getN (D := Z.1) (ci := 2) (v := .int (nI sz)) (C := RX2) (T := TX2) (N := 3) hx hb hts iX2 hown hK hP 1 rfl rfl 2 (Nat.le_of_ble_eq_true rfl) qf_30 (fun _ h9 => h9) rfl dX5_behindTwos_7 ?_
      refine ln_icmp_ge (tgt := 44) hx hb dX5_behindTwos_10 (by decide) (by omega) (by omega) (fun h10 => ?_) (fun h10 => ?_)
      · refine lv_iload_n hx hb dX5_behindTwos_44 rfl (lv_at hl 3 rfl) ?_
        exact x_iret hC hr hk hP hD hS dX5_behindTwos_45 ⟨k, ⟨hB, fun q => absurd q.1 (by omega)⟩, rfl, by omega, rfl⟩
      · refine lv_aload_n hx hb dX5_behindTwos_13 rfl (lv_at hl 0 rfl) ?_
        refine va_get (D := Z.1) (ci := 5) (v := .ref vr) (C := RX5) (T := TX5) (N := 2) hx hb hts iX5 hown hK hP 0 rfl rfl 0 (Nat.le_of_ble_eq_true rfl) qq_292 (fun _ h9 => h9) rfl dX5_behindTwos_14 ?_
        refine lv_iload_n hx hb dX5_behindTwos_17 rfl (lv_at hl 3 rfl) ?_
        refine x_Vi (y := yX2_get) (As := [.int (nI (f + 2 * k))]) (wc := [(vr, .inr (2, [.ref ar, .int (nI hd), .int (nI sz)])), (ar, xI Z 600 g)]) (wr := [(hw, .inr (5, [.ref vr, .ref vk]))]) hC hP hD hS (c_X2_get_in l Z vr ar 600 hd sz g L (by omega) hR hsz (f + 2 * k) (by omega)) (gV wq_524 wq_542 wq_522 wq_523 wq_43) rfl kv_X2_get rfl rfl ⟨rfl, rfl⟩ rfl hl.1 rfl ⟨Nat.le_of_ble_eq_true rfl, Nat.le_of_ble_eq_true rfl⟩ [1, 2] [0] rfl rfl (by decide) (by decide) (by decide) rfl dX5_behindTwos_18 (fun r18 w1 H locs hw hP hD hS => ?_)
        obtain ⟨rfl, rfl⟩ := hw
        have hP : va_P Z.1 vwCl [(hw, .inr (5, [.ref vr, .ref vk])), (vr, .inr (2, [.ref ar, .int (nI hd), .int (nI sz)])), (ar, xI Z 600 g)] H := hP
        have hD : va_D A [(hw, .inr (5, [.ref vr, .ref vk])), (vr, .inr (2, [.ref ar, .int (nI hd), .int (nI sz)])), (ar, xI Z 600 g)] := hD
        have hz := h121 _ (getD_mem (i := f + 2 * k) (by omega))
        refine lv_iload_n hx hb dX5_behindTwos_21 rfl (lv_at hl 1 rfl) ?_
        refine ln_icmp_ne (tgt := 44) hx hb dX5_behindTwos_22 (by decide) (by omega) (by omega) (fun h22 => ?_) (fun h22 => ?_)
        · refine lv_iload_n hx hb dX5_behindTwos_44 rfl (lv_at hl 3 rfl) ?_
          exact x_iret hC hr hk hP hD hS dX5_behindTwos_45 ⟨k, ⟨hB, fun q => h22 q.2.1⟩, rfl, by omega, rfl⟩
        · rcases Nat.lt_or_ge (f + 2 * k + 1) L.length with hin | hin
          · refine lv_aload_n hx hb dX5_behindTwos_25 rfl (lv_at hl 0 rfl) ?_
            refine va_get (D := Z.1) (ci := 5) (v := .ref vr) (C := RX5) (T := TX5) (N := 2) hx hb hts iX5 hown hK hP 0 rfl rfl 0 (Nat.le_of_ble_eq_true rfl) qq_292 (fun _ h9 => h9) rfl dX5_behindTwos_26 ?_
            refine lv_iload_n hx hb dX5_behindTwos_29 rfl (lv_at hl 3 rfl) ?_
            refine ln_const 1 hx hb dX5_behindTwos_30 (by decide) ?_
            refine ln_iadd ((f + 2 * k) + 1) hx hb dX5_behindTwos_31 (by first | rfl | omega) ?_
            refine x_Vi (y := yX2_get) (As := [.int (nI ((f + 2 * k) + 1))]) (wc := [(vr, .inr (2, [.ref ar, .int (nI hd), .int (nI sz)])), (ar, xI Z 600 g)]) (wr := [(hw, .inr (5, [.ref vr, .ref vk]))]) hC hP hD hS (c_X2_get_in l Z vr ar 600 hd sz g L (by omega) hR hsz ((f + 2 * k) + 1) (by omega)) (gV wq_524 wq_542 wq_522 wq_523 wq_43) rfl kv_X2_get rfl rfl ⟨rfl, rfl⟩ rfl hl.1 rfl ⟨Nat.le_of_ble_eq_true rfl, Nat.le_of_ble_eq_true rfl⟩ [1, 2] [0] rfl rfl (by decide) (by decide) (by decide) rfl dX5_behindTwos_32 (fun r32 w1 H locs hw hP hD hS => ?_)
            obtain ⟨rfl, rfl⟩ := hw
            have hP : va_P Z.1 vwCl [(hw, .inr (5, [.ref vr, .ref vk])), (vr, .inr (2, [.ref ar, .int (nI hd), .int (nI sz)])), (ar, xI Z 600 g)] H := hP
            have hD : va_D A [(hw, .inr (5, [.ref vr, .ref vk])), (vr, .inr (2, [.ref ar, .int (nI hd), .int (nI sz)])), (ar, xI Z 600 g)] := hD
            have hz2 := h121 _ (getD_mem (i := f + 2 * k + 1) (by omega))
            refine ln_if_ne (tgt := 44) hx hb dX5_behindTwos_35 (by decide) (by omega) (fun h35 => ?_) (fun h35 => ?_)
            · refine lv_iload_n hx hb dX5_behindTwos_44 rfl (lv_at hl 3 rfl) ?_
              exact x_iret hC hr hk hP hD hS dX5_behindTwos_45 ⟨k, ⟨hB, fun q => h35 q.2.2⟩, rfl, by omega, rfl⟩
            · refine ln_iinc (k0 := 3) (k := 2) (f + 2 * (k + 1)) (lv' := [(3, .int (nI (f + 2 * (k + 1)))), (0, .ref hw), (1, .int (nI c1)), (2, .int (nI f))]) hx hb dX5_behindTwos_38 hl rfl rfl (by first | rfl | omega) (by decide) rfl (fun ls hl => ?_)
              refine lv_goto (tgt := 2) hx hb dX5_behindTwos_41 (by decide) ?_
              exact ih  (k + 1) _ _ _ (fun j hj => (Nat.lt_or_ge j k).elim (hB j) (fun q => by rw [show j = k by omega]; exact ⟨hin, h22, h35⟩)) (by omega) hP hD hS (lv_sub hl [1, 2, 3, 0] rfl)
          · refine lv_aload_n hx hb dX5_behindTwos_25 rfl (lv_at hl 0 rfl) ?_
            refine va_get (D := Z.1) (ci := 5) (v := .ref vr) (C := RX5) (T := TX5) (N := 2) hx hb hts iX5 hown hK hP 0 rfl rfl 0 (Nat.le_of_ble_eq_true rfl) qq_292 (fun _ h9 => h9) rfl dX5_behindTwos_26 ?_
            refine lv_iload_n hx hb dX5_behindTwos_29 rfl (lv_at hl 3 rfl) ?_
            refine ln_const 1 hx hb dX5_behindTwos_30 (by decide) ?_
            refine ln_iadd ((f + 2 * k) + 1) hx hb dX5_behindTwos_31 (by first | rfl | omega) ?_
            refine x_Vi (y := yX2_get) (As := [.int (nI ((f + 2 * k) + 1))]) (wc := [(vr, .inr (2, [.ref ar, .int (nI hd), .int (nI sz)])), (ar, xI Z 600 g)]) (wr := [(hw, .inr (5, [.ref vr, .ref vk]))]) hC hP hD hS (c_X2_get_out l Z vr ar 600 hd sz g L (by omega) hR hsz (nI ((f + 2 * k) + 1)) (by rw [nI_toInt (by omega)]; omega)) (gV wq_524 wq_542 wq_522 wq_523 wq_43) rfl kv_X2_get rfl rfl ⟨rfl, rfl⟩ rfl hl.1 rfl ⟨Nat.le_of_ble_eq_true rfl, Nat.le_of_ble_eq_true rfl⟩ [1, 2] [0] rfl rfl (by decide) (by decide) (by decide) rfl dX5_behindTwos_32 (fun r32 w1 H locs hw hP hD hS => ?_)
            obtain ⟨rfl, rfl⟩ := hw
            have hP : va_P Z.1 vwCl [(hw, .inr (5, [.ref vr, .ref vk])), (vr, .inr (2, [.ref ar, .int (nI hd), .int (nI sz)])), (ar, xI Z 600 g)] H := hP
            have hD : va_D A [(hw, .inr (5, [.ref vr, .ref vk])), (vr, .inr (2, [.ref ar, .int (nI hd), .int (nI sz)])), (ar, xI Z 600 g)] := hD
            refine lv_if_ne (tgt := 44) hx hb dX5_behindTwos_35 (by decide) (fun h35 => ?_) (fun h35 => False.elim (by revert h35; decide))
            refine lv_iload_n hx hb dX5_behindTwos_44 rfl (lv_at hl 3 rfl) ?_
            exact x_iret hC hr hk hP hD hS dX5_behindTwos_45 ⟨k, ⟨hB, fun q => absurd q.1 (by omega)⟩, rfl, by omega, rfl⟩
  exact hloop2 ((1000 - 0) + 1) 0 _ _ _ (fun j hj => absurd hj (Nat.not_lt_zero _)) (Nat.lt_succ_self _) hP hD hS (lv_sub hl [1, 2, 3, 0] rfl)

theorem xne9 {c : Nat} (h : c < 2147483648) (e : (-9 : Int32) = nI c) : False := by
  have h1 := congrArg Int32.toInt e
  rw [nI_toInt h] at h1
  have : (-9 : Int32).toInt = -9 := by decide
  omega

theorem kv_X5_behindTwos : yX5_behindTwos.cls = RX5 ∧ yX5_behindTwos.cls ≠ "java/lang/invoke/MethodHandle" ∧ yX5_behindTwos.cls ≠ "java/lang/invoke/VarHandle" ∧ (parseMethodDescriptor yX5_behindTwos.desc).map (fun d => d.parameters.length) = some 2 := by decide +kernel
set_option maxHeartbeats 4000000 in
set_option maxRecDepth 100000 in
theorem c_X5_middle (l : Launch) (Z : xZ) (hw vr vk ar hd sz : Nat) (g : Nat → Nat) (L : List Nat) (hR : RR 600 hd g L) (hsz : sz = L.length) (hW : WV L) : xMi l Z yX5_middle vX5_middle ({ frames := 3, cells := 0, slots := 0, locals := 66 } : Room) [.ref hw] [(hw, .inr (5, [.ref vr, .ref vk])), (vr, .inr (2, [.ref ar, .int (nI hd), .int (nI sz)])), (ar, xI Z 600 g)] (fun r w => (∃ q f1 g1, q < 6 ∧ L = xlay q f1 g1 ∧ r = nI (2 * f1 + 2) ∧ w = [(hw, .inr (5, [.ref vr, .ref vk])), (vr, .inr (2, [.ref ar, .int (nI hd), .int (nI sz)])), (ar, xI Z 600 g)]) ∨ (¬ isPl L ∧ r = -9 ∧ w = [(hw, .inr (5, [.ref vr, .ref vk])), (vr, .inr (2, [.ref ar, .int (nI hd), .int (nI sz)])), (ar, xI Z 600 g)])) := by
  refine x_i (by decide) rfl (Nat.le_of_ble_eq_true rfl) ?_
  intro p e s m args below meth c ls A hC hr hk hl hP hD hS
  have hx := hC.1.1
  have hb := hC.1.2.1
  have hml := hC.1.2.2.1
  have hown : s.vm.findClass RX5 = some m.cls := hC.1.2.2.2.1
  have hts := hC.1.2.2.2.2
  have hK := hC.2.1
  have qq_292 := hts (Cond.fieldLink RX5 14 "TagTower$Word" "row" "LTagTower$LetterRow;") (List.mem_cons_of_mem _ wq_292)
  have iX5 : ∀ w ∈ wsX50, w ∈ vX5_middle := fun w h => List.mem_cons_of_mem _ (wi_X5 w h)
  have qf_30 := va_Nw.use (A := args) rfl (hC.2.2.2.1.2 (RX5, 30, RX2, "size", "I", RX6) (List.mem_of_getElem? (i := 5) rfl))
  have iX2 : ∀ w ∈ wsX20, w ∈ vX5_middle := fun w h => List.mem_cons_of_mem _ (wi_X2 w h)
  have hl : lv_has ls 4 [(0, .ref hw)] := hl
  have hP : va_P Z.1 vwCl [(hw, .inr (5, [.ref vr, .ref vk])), (vr, .inr (2, [.ref ar, .int (nI hd), .int (nI sz)])), (ar, xI Z 600 g)] s.heap := hP
  have hD : va_D A [(hw, .inr (5, [.ref vr, .ref vk])), (vr, .inr (2, [.ref ar, .int (nI hd), .int (nI sz)])), (ar, xI Z 600 g)] := hD
  have hR1 := hR.1
  have hR2 := hR.2.1
  rcases Nat.eq_zero_or_pos L.length with hle | hle
  · have hR1 := hR.1
    have hR2 := hR.2.1
    refine lv_aload_n hx hb dX5_middle_0 rfl (lv_at hl 0 rfl) ?_
    refine va_get (D := Z.1) (ci := 5) (v := .ref vr) (C := RX5) (T := TX5) (N := 2) hx hb hts iX5 hown hK hP 0 rfl rfl 0 (Nat.le_of_ble_eq_true rfl) qq_292 (fun _ h9 => h9) rfl dX5_middle_1 ?_
    refine ln_const 0 hx hb dX5_middle_4 (by decide) ?_
    refine x_Vi (y := yX2_get) (As := [.int (nI 0)]) (wc := [(vr, .inr (2, [.ref ar, .int (nI hd), .int (nI sz)])), (ar, xI Z 600 g)]) (wr := [(hw, .inr (5, [.ref vr, .ref vk]))]) hC hP hD hS (c_X2_get_out l Z vr ar 600 hd sz g L (by omega) hR hsz (nI 0) (by rw [hle]; decide)) (gV wq_524 wq_542 wq_522 wq_523 wq_43) rfl kv_X2_get rfl rfl ⟨rfl, rfl⟩ rfl hl.1 rfl ⟨Nat.le_of_ble_eq_true rfl, Nat.le_of_ble_eq_true rfl⟩ [1, 2] [0] rfl rfl (by decide) (by decide) (by decide) rfl dX5_middle_5 (fun r5 w1 H locs hw hP hD hS => ?_)
    obtain ⟨rfl, rfl⟩ := hw
    have hP : va_P Z.1 vwCl [(hw, .inr (5, [.ref vr, .ref vk])), (vr, .inr (2, [.ref ar, .int (nI hd), .int (nI sz)])), (ar, xI Z 600 g)] H := hP
    have hD : va_D A [(hw, .inr (5, [.ref vr, .ref vk])), (vr, .inr (2, [.ref ar, .int (nI hd), .int (nI sz)])), (ar, xI Z 600 g)] := hD
    refine lv_istore_n (lv' := [(1, .int ((-9))), (0, .ref hw)]) hx hb dX5_middle_8 rfl hl (by decide) rfl (fun ls hl => ?_)
    refine lv_iload_n hx hb dX5_middle_9 rfl (lv_at hl 0 rfl) ?_
    refine ln_bipush 20 hx hb dX5_middle_10 (by decide) ?_
    refine lv_irem hx hb dX5_middle_12 (by decide) ?_
    refine ln_const 1 hx hb dX5_middle_13 (by decide) ?_
    refine lv_icmp_ne (tgt := 28) hx hb dX5_middle_14 (by decide) (fun h14 => ?_) (fun h14 => False.elim (by revert h14; decide))
    refine lv_bipush (v := (-9)) hx hb dX5_middle_28 (by decide) ?_
    exact x_iret hC hr hk hP hD hS dX5_middle_30 (Or.inr ⟨by rintro ⟨q, f1, g1, hq, e⟩; have el := congrArg List.length e; rw [xlay_len] at el; omega, rfl, rfl⟩)
  · have hR1 := hR.1
    have hR2 := hR.2.1
    refine lv_aload_n hx hb dX5_middle_0 rfl (lv_at hl 0 rfl) ?_
    refine va_get (D := Z.1) (ci := 5) (v := .ref vr) (C := RX5) (T := TX5) (N := 2) hx hb hts iX5 hown hK hP 0 rfl rfl 0 (Nat.le_of_ble_eq_true rfl) qq_292 (fun _ h9 => h9) rfl dX5_middle_1 ?_
    refine ln_const 0 hx hb dX5_middle_4 (by decide) ?_
    refine x_Vi (y := yX2_get) (As := [.int (nI 0)]) (wc := [(vr, .inr (2, [.ref ar, .int (nI hd), .int (nI sz)])), (ar, xI Z 600 g)]) (wr := [(hw, .inr (5, [.ref vr, .ref vk]))]) hC hP hD hS (c_X2_get_in l Z vr ar 600 hd sz g L (by omega) hR hsz 0 (by omega)) (gV wq_524 wq_542 wq_522 wq_523 wq_43) rfl kv_X2_get rfl rfl ⟨rfl, rfl⟩ rfl hl.1 rfl ⟨Nat.le_of_ble_eq_true rfl, Nat.le_of_ble_eq_true rfl⟩ [1, 2] [0] rfl rfl (by decide) (by decide) (by decide) rfl dX5_middle_5 (fun r5 w1 H locs hw hP hD hS => ?_)
    obtain ⟨rfl, rfl⟩ := hw
    have hP : va_P Z.1 vwCl [(hw, .inr (5, [.ref vr, .ref vk])), (vr, .inr (2, [.ref ar, .int (nI hd), .int (nI sz)])), (ar, xI Z 600 g)] H := hP
    have hD : va_D A [(hw, .inr (5, [.ref vr, .ref vk])), (vr, .inr (2, [.ref ar, .int (nI hd), .int (nI sz)])), (ar, xI Z 600 g)] := hD
    have hc0 := hW.at0 (i := 0) (by omega)
    refine lv_istore_n (lv' := [(1, .int (nI (L.getD 0 0))), (0, .ref hw)]) hx hb dX5_middle_8 rfl hl (by decide) rfl (fun ls hl => ?_)
    refine lv_iload_n hx hb dX5_middle_9 rfl (lv_at hl 0 rfl) ?_
    refine ln_bipush 20 hx hb dX5_middle_10 (by decide) ?_
    refine ln_irem ((L.getD 0 0) % 20) hx hb dX5_middle_12 (by omega) (by omega) (by omega) (by first | rfl | omega) ?_
    refine ln_const 1 hx hb dX5_middle_13 (by decide) ?_
    refine ln_icmp_ne (tgt := 28) hx hb dX5_middle_14 (by decide) (by omega) (by omega) (fun h14 => ?_) (fun h14 => ?_)
    · refine lv_bipush (v := (-9)) hx hb dX5_middle_28 (by decide) ?_
      exact x_iret hC hr hk hP hD hS dX5_middle_30 (Or.inr ⟨by rintro ⟨q, f1, g1, hq, e⟩; have el := congrArg List.length e; rw [xlay_len] at el; have e0 : L.getD 0 0 = 20 * q + 1 := (congrArg (fun l => List.getD l 0 0) e).trans (xlay_at (by omega)); omega, rfl, rfl⟩)
    · rcases Nat.lt_or_ge 1 L.length with hl1 | hl1
      · refine lv_aload_n hx hb dX5_middle_17 rfl (lv_at hl 1 rfl) ?_
        refine va_get (D := Z.1) (ci := 5) (v := .ref vr) (C := RX5) (T := TX5) (N := 2) hx hb hts iX5 hown hK hP 0 rfl rfl 0 (Nat.le_of_ble_eq_true rfl) qq_292 (fun _ h9 => h9) rfl dX5_middle_18 ?_
        refine ln_const 1 hx hb dX5_middle_21 (by decide) ?_
        refine x_Vi (y := yX2_get) (As := [.int (nI 1)]) (wc := [(vr, .inr (2, [.ref ar, .int (nI hd), .int (nI sz)])), (ar, xI Z 600 g)]) (wr := [(hw, .inr (5, [.ref vr, .ref vk]))]) hC hP hD hS (c_X2_get_in l Z vr ar 600 hd sz g L (by omega) hR hsz 1 (by omega)) (gV wq_524 wq_542 wq_522 wq_523 wq_43) rfl kv_X2_get rfl rfl ⟨rfl, rfl⟩ rfl hl.1 rfl ⟨Nat.le_of_ble_eq_true rfl, Nat.le_of_ble_eq_true rfl⟩ [1, 2] [0] rfl rfl (by decide) (by decide) (by decide) rfl dX5_middle_22 (fun r22 w1 H locs hw hP hD hS => ?_)
        obtain ⟨rfl, rfl⟩ := hw
        have hP : va_P Z.1 vwCl [(hw, .inr (5, [.ref vr, .ref vk])), (vr, .inr (2, [.ref ar, .int (nI hd), .int (nI sz)])), (ar, xI Z 600 g)] H := hP
        have hD : va_D A [(hw, .inr (5, [.ref vr, .ref vk])), (vr, .inr (2, [.ref ar, .int (nI hd), .int (nI sz)])), (ar, xI Z 600 g)] := hD
        have hc1 := hW.at0 (i := 1) (by omega)
        refine ln_if_eq (tgt := 31) hx hb dX5_middle_25 (by decide) (by omega) (fun h25 => ?_) (fun h25 => ?_)
        · refine lv_iload_n hx hb dX5_middle_31 rfl (lv_at hl 0 rfl) ?_
          refine ln_const 1 hx hb dX5_middle_32 (by decide) ?_
          refine ln_isub ((L.getD 0 0) - 1) hx hb dX5_middle_33 (by omega) (by first | rfl | omega) ?_
          refine lv_istore_n (lv' := [(2, .int (nI ((L.getD 0 0) - 1))), (1, .int (nI (L.getD 0 0))), (0, .ref hw)]) hx hb dX5_middle_34 rfl hl (by decide) rfl (fun ls hl => ?_)
          refine lv_aload_n hx hb dX5_middle_35 rfl (lv_at hl 2 rfl) ?_
          refine lv_iload_n hx hb dX5_middle_36 rfl (lv_at hl 0 rfl) ?_
          refine ln_const 2 hx hb dX5_middle_37 (by decide) ?_
          refine ln_iadd (((L.getD 0 0) - 1) + 2) hx hb dX5_middle_38 (by first | rfl | omega) ?_
          refine ln_const 2 hx hb dX5_middle_39 (by decide) ?_
          refine x_Vi (y := yX5_behindTwos) (As := [.int (nI (((L.getD 0 0) - 1) + 2)), .int (nI 2)]) (wc := [(hw, .inr (5, [.ref vr, .ref vk])), (vr, .inr (2, [.ref ar, .int (nI hd), .int (nI sz)])), (ar, xI Z 600 g)]) (wr := []) hC hP hD hS (c_X5_behindTwos l Z hw vr vk ar hd sz g L hR hsz (((L.getD 0 0) - 1) + 2) 2 (by omega) (by omega) hW.2) (gV wq_576 wq_573 wq_575 wq_10 wq_42) rfl kv_X5_behindTwos rfl rfl ⟨rfl, rfl⟩ rfl hl.1 rfl ⟨Nat.le_of_ble_eq_true rfl, Nat.le_of_ble_eq_true rfl⟩ [0, 1, 2] ([] : List Nat) rfl rfl (by decide) (by decide) (by decide) rfl dX5_middle_40 (fun r40 w1 H locs hw hP hD hS => ?_)
          obtain ⟨k, hBk, rfl, hlk, rfl⟩ := hw
          have hP : va_P Z.1 vwCl [(hw, .inr (5, [.ref vr, .ref vk])), (vr, .inr (2, [.ref ar, .int (nI hd), .int (nI sz)])), (ar, xI Z 600 g)] H := hP
          have hD : va_D A [(hw, .inr (5, [.ref vr, .ref vk])), (vr, .inr (2, [.ref ar, .int (nI hd), .int (nI sz)])), (ar, xI Z 600 g)] := hD
          refine lv_istore_n (lv' := [(3, .int (nI (2 + 2 * k))), (2, .int (nI ((L.getD 0 0) - 1))), (1, .int (nI (L.getD 0 0))), (0, .ref hw)]) hx hb dX5_middle_43 rfl hl (by decide) rfl (fun ls hl => ?_)
          rcases Nat.lt_or_ge (2 + 2 * k) L.length with hm1 | hm1
          · refine lv_aload_n hx hb dX5_middle_44 rfl (lv_at hl 3 rfl) ?_
            refine va_get (D := Z.1) (ci := 5) (v := .ref vr) (C := RX5) (T := TX5) (N := 2) hx hb hts iX5 hown hK hP 0 rfl rfl 0 (Nat.le_of_ble_eq_true rfl) qq_292 (fun _ h9 => h9) rfl dX5_middle_45 ?_
            refine lv_iload_n hx hb dX5_middle_48 rfl (lv_at hl 0 rfl) ?_
            refine x_Vi (y := yX2_get) (As := [.int (nI (2 + 2 * k))]) (wc := [(vr, .inr (2, [.ref ar, .int (nI hd), .int (nI sz)])), (ar, xI Z 600 g)]) (wr := [(hw, .inr (5, [.ref vr, .ref vk]))]) hC hP hD hS (c_X2_get_in l Z vr ar 600 hd sz g L (by omega) hR hsz (2 + 2 * k) (by omega)) (gV wq_524 wq_542 wq_522 wq_523 wq_43) rfl kv_X2_get rfl rfl ⟨rfl, rfl⟩ rfl hl.1 rfl ⟨Nat.le_of_ble_eq_true rfl, Nat.le_of_ble_eq_true rfl⟩ [1, 2] [0] rfl rfl (by decide) (by decide) (by decide) rfl dX5_middle_49 (fun r49 w1 H locs hw hP hD hS => ?_)
            obtain ⟨rfl, rfl⟩ := hw
            have hP : va_P Z.1 vwCl [(hw, .inr (5, [.ref vr, .ref vk])), (vr, .inr (2, [.ref ar, .int (nI hd), .int (nI sz)])), (ar, xI Z 600 g)] H := hP
            have hD : va_D A [(hw, .inr (5, [.ref vr, .ref vk])), (vr, .inr (2, [.ref ar, .int (nI hd), .int (nI sz)])), (ar, xI Z 600 g)] := hD
            have hcm := hW.at0 (i := 2 + 2 * k) (by omega)
            refine lv_iload_n hx hb dX5_middle_52 rfl (lv_at hl 1 rfl) ?_
            refine ln_const 5 hx hb dX5_middle_53 (by decide) ?_
            refine ln_iadd (((L.getD 0 0) - 1) + 5) hx hb dX5_middle_54 (by first | rfl | omega) ?_
            refine ln_icmp_ne (tgt := 71) hx hb dX5_middle_55 (by decide) (by omega) (by omega) (fun h55 => ?_) (fun h55 => ?_)
            · refine lv_bipush (v := (-9)) hx hb dX5_middle_71 (by decide) ?_
              exact x_iret hC hr hk hP hD hS dX5_middle_73 (Or.inr ⟨by rintro ⟨q, f1, g1, hq, e⟩; have el := congrArg List.length e; rw [xlay_len] at el; have e0 : L.getD 0 0 = 20 * q + 1 := (congrArg (fun l => List.getD l 0 0) e).trans (xlay_at (by omega)); have ek := pl_k e (show BT L (xof q 1) 2 k from (by unfold xof; rw [show 20 * q + 1 + 1 = L.getD 0 0 - 1 + 2 by omega]; exact hBk)); subst ek; have eb : L.getD (2 + 2 * k) 0 = 20 * q + 1 + 4 := (congrArg (fun l => List.getD l (2 + 2 * k) 0) e).trans ((xlay_at (by omega)).trans (by unfold xlf xof; rw [if_neg (by omega), if_neg (by omega), if_neg (by omega), if_pos (by omega)])); omega, rfl, rfl⟩)
            · rcases Nat.lt_or_ge (2 + 2 * k + 1) L.length with hm2 | hm2
              · refine lv_aload_n hx hb dX5_middle_58 rfl (lv_at hl 3 rfl) ?_
                refine va_get (D := Z.1) (ci := 5) (v := .ref vr) (C := RX5) (T := TX5) (N := 2) hx hb hts iX5 hown hK hP 0 rfl rfl 0 (Nat.le_of_ble_eq_true rfl) qq_292 (fun _ h9 => h9) rfl dX5_middle_59 ?_
                refine lv_iload_n hx hb dX5_middle_62 rfl (lv_at hl 0 rfl) ?_
                refine ln_const 1 hx hb dX5_middle_63 (by decide) ?_
                refine ln_iadd ((2 + 2 * k) + 1) hx hb dX5_middle_64 (by first | rfl | omega) ?_
                refine x_Vi (y := yX2_get) (As := [.int (nI ((2 + 2 * k) + 1))]) (wc := [(vr, .inr (2, [.ref ar, .int (nI hd), .int (nI sz)])), (ar, xI Z 600 g)]) (wr := [(hw, .inr (5, [.ref vr, .ref vk]))]) hC hP hD hS (c_X2_get_in l Z vr ar 600 hd sz g L (by omega) hR hsz ((2 + 2 * k) + 1) (by omega)) (gV wq_524 wq_542 wq_522 wq_523 wq_43) rfl kv_X2_get rfl rfl ⟨rfl, rfl⟩ rfl hl.1 rfl ⟨Nat.le_of_ble_eq_true rfl, Nat.le_of_ble_eq_true rfl⟩ [1, 2] [0] rfl rfl (by decide) (by decide) (by decide) rfl dX5_middle_65 (fun r65 w1 H locs hw hP hD hS => ?_)
                obtain ⟨rfl, rfl⟩ := hw
                have hP : va_P Z.1 vwCl [(hw, .inr (5, [.ref vr, .ref vk])), (vr, .inr (2, [.ref ar, .int (nI hd), .int (nI sz)])), (ar, xI Z 600 g)] H := hP
                have hD : va_D A [(hw, .inr (5, [.ref vr, .ref vk])), (vr, .inr (2, [.ref ar, .int (nI hd), .int (nI sz)])), (ar, xI Z 600 g)] := hD
                have hcm1 := hW.at0 (i := 2 + 2 * k + 1) (by omega)
                refine ln_if_eq (tgt := 74) hx hb dX5_middle_68 (by decide) (by omega) (fun h68 => ?_) (fun h68 => ?_)
                · refine lv_aload_n hx hb dX5_middle_74 rfl (lv_at hl 3 rfl) ?_
                  refine lv_iload_n hx hb dX5_middle_75 rfl (lv_at hl 1 rfl) ?_
                  refine ln_bipush 6 hx hb dX5_middle_76 (by decide) ?_
                  refine ln_iadd (((L.getD 0 0) - 1) + 6) hx hb dX5_middle_78 (by first | rfl | omega) ?_
                  refine lv_iload_n hx hb dX5_middle_79 rfl (lv_at hl 0 rfl) ?_
                  refine ln_const 2 hx hb dX5_middle_80 (by decide) ?_
                  refine ln_iadd ((2 + 2 * k) + 2) hx hb dX5_middle_81 (by first | rfl | omega) ?_
                  refine x_Vi (y := yX5_behindTwos) (As := [.int (nI (((L.getD 0 0) - 1) + 6)), .int (nI ((2 + 2 * k) + 2))]) (wc := [(hw, .inr (5, [.ref vr, .ref vk])), (vr, .inr (2, [.ref ar, .int (nI hd), .int (nI sz)])), (ar, xI Z 600 g)]) (wr := []) hC hP hD hS (c_X5_behindTwos l Z hw vr vk ar hd sz g L hR hsz (((L.getD 0 0) - 1) + 6) ((2 + 2 * k) + 2) (by omega) (by omega) hW.2) (gV wq_576 wq_573 wq_575 wq_10 wq_42) rfl kv_X5_behindTwos rfl rfl ⟨rfl, rfl⟩ rfl hl.1 rfl ⟨Nat.le_of_ble_eq_true rfl, Nat.le_of_ble_eq_true rfl⟩ [0, 1, 2] ([] : List Nat) rfl rfl (by decide) (by decide) (by decide) rfl dX5_middle_82 (fun r82 w1 H locs hw hP hD hS => ?_)
                  obtain ⟨k2, hBk2, rfl, hlk2, rfl⟩ := hw
                  have hP : va_P Z.1 vwCl [(hw, .inr (5, [.ref vr, .ref vk])), (vr, .inr (2, [.ref ar, .int (nI hd), .int (nI sz)])), (ar, xI Z 600 g)] H := hP
                  have hD : va_D A [(hw, .inr (5, [.ref vr, .ref vk])), (vr, .inr (2, [.ref ar, .int (nI hd), .int (nI sz)])), (ar, xI Z 600 g)] := hD
                  refine lv_aload_n hx hb dX5_middle_85 rfl (lv_at hl 3 rfl) ?_
                  refine va_get (D := Z.1) (ci := 5) (v := .ref vr) (C := RX5) (T := TX5) (N := 2) hx hb hts iX5 hown hK hP 0 rfl rfl 0 (Nat.le_of_ble_eq_true rfl) qq_292 (fun _ h9 => h9) rfl dX5_middle_86 ?_
                  refine va_getN (D := Z.1) (ci := 2) (v := .int (nI sz)) (C := RX2) (T := TX2) (N := 3) hx hb hts iX2 hown hK hP 1 rfl rfl 2 (Nat.le_of_ble_eq_true rfl) qf_30 (fun _ h9 => h9) rfl dX5_middle_89 ?_
                  refine ln_icmp_ne (tgt := 99) hx hb dX5_middle_92 (by decide) (by omega) (by omega) (fun h92 => ?_) (fun h92 => ?_)
                  · refine lv_bipush (v := (-9)) hx hb dX5_middle_99 (by decide) ?_
                    exact x_iret hC hr hk hP hD hS dX5_middle_101 (Or.inr ⟨by rintro ⟨q, f1, g1, hq, e⟩; have el := congrArg List.length e; rw [xlay_len] at el; have e0 : L.getD 0 0 = 20 * q + 1 := (congrArg (fun l => List.getD l 0 0) e).trans (xlay_at (by omega)); have ek := pl_k e (show BT L (xof q 1) 2 k from (by unfold xof; rw [show 20 * q + 1 + 1 = L.getD 0 0 - 1 + 2 by omega]; exact hBk)); subst ek; have en := pl_n e (show BT L (xof q 5) (2 * k + 4) k2 from (by unfold xof; rw [show 20 * q + 1 + 5 = L.getD 0 0 - 1 + 6 by omega, show 2 * k + 4 = 2 + 2 * k + 2 by omega]; exact hBk2)); subst en; omega, rfl, rfl⟩)
                  · refine lv_iload_n hx hb dX5_middle_95 rfl (lv_at hl 0 rfl) ?_
                    refine lv_goto (tgt := 101) hx hb dX5_middle_96 (by decide) ?_
                    exact x_iret hC hr hk hP hD hS dX5_middle_101 (Or.inl ⟨(L.getD 0 0 - 1) / 20, k, k2, by omega, pl_mk (by unfold xof; omega) h25 (by rw [show xof ((L.getD 0 0 - 1) / 20) 1 = L.getD 0 0 - 1 + 2 by unfold xof; omega]; exact hBk) (by rw [show 2 * k + 2 = 2 + 2 * k by omega]; unfold xof; omega) (by rw [show 2 * k + 3 = 2 + 2 * k + 1 by omega]; exact h68) (by rw [show xof ((L.getD 0 0 - 1) / 20) 5 = L.getD 0 0 - 1 + 6 by unfold xof; omega, show 2 * k + 4 = 2 + 2 * k + 2 by omega]; exact hBk2) (by omega), by rw [show 2 + 2 * k = 2 * k + 2 by omega], rfl⟩)
                · refine lv_bipush (v := (-9)) hx hb dX5_middle_71 (by decide) ?_
                  exact x_iret hC hr hk hP hD hS dX5_middle_73 (Or.inr ⟨by rintro ⟨q, f1, g1, hq, e⟩; have el := congrArg List.length e; rw [xlay_len] at el; have e0 : L.getD 0 0 = 20 * q + 1 := (congrArg (fun l => List.getD l 0 0) e).trans (xlay_at (by omega)); have ek := pl_k e (show BT L (xof q 1) 2 k from (by unfold xof; rw [show 20 * q + 1 + 1 = L.getD 0 0 - 1 + 2 by omega]; exact hBk)); subst ek; have eb1 : L.getD (2 + 2 * k + 1) 0 = 0 := (congrArg (fun l => List.getD l (2 + 2 * k + 1) 0) e).trans ((xlay_at (by omega)).trans (by unfold xlf; rw [if_pos (by omega)])); omega, rfl, rfl⟩)
              · refine lv_aload_n hx hb dX5_middle_58 rfl (lv_at hl 3 rfl) ?_
                refine va_get (D := Z.1) (ci := 5) (v := .ref vr) (C := RX5) (T := TX5) (N := 2) hx hb hts iX5 hown hK hP 0 rfl rfl 0 (Nat.le_of_ble_eq_true rfl) qq_292 (fun _ h9 => h9) rfl dX5_middle_59 ?_
                refine lv_iload_n hx hb dX5_middle_62 rfl (lv_at hl 0 rfl) ?_
                refine ln_const 1 hx hb dX5_middle_63 (by decide) ?_
                refine ln_iadd ((2 + 2 * k) + 1) hx hb dX5_middle_64 (by first | rfl | omega) ?_
                refine x_Vi (y := yX2_get) (As := [.int (nI ((2 + 2 * k) + 1))]) (wc := [(vr, .inr (2, [.ref ar, .int (nI hd), .int (nI sz)])), (ar, xI Z 600 g)]) (wr := [(hw, .inr (5, [.ref vr, .ref vk]))]) hC hP hD hS (c_X2_get_out l Z vr ar 600 hd sz g L (by omega) hR hsz (nI ((2 + 2 * k) + 1)) (by rw [nI_toInt (by omega)]; omega)) (gV wq_524 wq_542 wq_522 wq_523 wq_43) rfl kv_X2_get rfl rfl ⟨rfl, rfl⟩ rfl hl.1 rfl ⟨Nat.le_of_ble_eq_true rfl, Nat.le_of_ble_eq_true rfl⟩ [1, 2] [0] rfl rfl (by decide) (by decide) (by decide) rfl dX5_middle_65 (fun r65 w1 H locs hw hP hD hS => ?_)
                obtain ⟨rfl, rfl⟩ := hw
                have hP : va_P Z.1 vwCl [(hw, .inr (5, [.ref vr, .ref vk])), (vr, .inr (2, [.ref ar, .int (nI hd), .int (nI sz)])), (ar, xI Z 600 g)] H := hP
                have hD : va_D A [(hw, .inr (5, [.ref vr, .ref vk])), (vr, .inr (2, [.ref ar, .int (nI hd), .int (nI sz)])), (ar, xI Z 600 g)] := hD
                refine lv_if_eq (tgt := 74) hx hb dX5_middle_68 (by decide) (fun h68 => False.elim (by revert h68; decide)) (fun h68 => ?_)
                refine lv_bipush (v := (-9)) hx hb dX5_middle_71 (by decide) ?_
                exact x_iret hC hr hk hP hD hS dX5_middle_73 (Or.inr ⟨by rintro ⟨q, f1, g1, hq, e⟩; have el := congrArg List.length e; rw [xlay_len] at el; have e0 : L.getD 0 0 = 20 * q + 1 := (congrArg (fun l => List.getD l 0 0) e).trans (xlay_at (by omega)); have ek := pl_k e (show BT L (xof q 1) 2 k from (by unfold xof; rw [show 20 * q + 1 + 1 = L.getD 0 0 - 1 + 2 by omega]; exact hBk)); subst ek; omega, rfl, rfl⟩)
          · refine lv_aload_n hx hb dX5_middle_44 rfl (lv_at hl 3 rfl) ?_
            refine va_get (D := Z.1) (ci := 5) (v := .ref vr) (C := RX5) (T := TX5) (N := 2) hx hb hts iX5 hown hK hP 0 rfl rfl 0 (Nat.le_of_ble_eq_true rfl) qq_292 (fun _ h9 => h9) rfl dX5_middle_45 ?_
            refine lv_iload_n hx hb dX5_middle_48 rfl (lv_at hl 0 rfl) ?_
            refine x_Vi (y := yX2_get) (As := [.int (nI (2 + 2 * k))]) (wc := [(vr, .inr (2, [.ref ar, .int (nI hd), .int (nI sz)])), (ar, xI Z 600 g)]) (wr := [(hw, .inr (5, [.ref vr, .ref vk]))]) hC hP hD hS (c_X2_get_out l Z vr ar 600 hd sz g L (by omega) hR hsz (nI (2 + 2 * k)) (by rw [nI_toInt (by omega)]; omega)) (gV wq_524 wq_542 wq_522 wq_523 wq_43) rfl kv_X2_get rfl rfl ⟨rfl, rfl⟩ rfl hl.1 rfl ⟨Nat.le_of_ble_eq_true rfl, Nat.le_of_ble_eq_true rfl⟩ [1, 2] [0] rfl rfl (by decide) (by decide) (by decide) rfl dX5_middle_49 (fun r49 w1 H locs hw hP hD hS => ?_)
            obtain ⟨rfl, rfl⟩ := hw
            have hP : va_P Z.1 vwCl [(hw, .inr (5, [.ref vr, .ref vk])), (vr, .inr (2, [.ref ar, .int (nI hd), .int (nI sz)])), (ar, xI Z 600 g)] H := hP
            have hD : va_D A [(hw, .inr (5, [.ref vr, .ref vk])), (vr, .inr (2, [.ref ar, .int (nI hd), .int (nI sz)])), (ar, xI Z 600 g)] := hD
            refine lv_iload_n hx hb dX5_middle_52 rfl (lv_at hl 1 rfl) ?_
            refine ln_const 5 hx hb dX5_middle_53 (by decide) ?_
            refine ln_iadd (((L.getD 0 0) - 1) + 5) hx hb dX5_middle_54 (by first | rfl | omega) ?_
            refine lv_icmp_ne (tgt := 71) hx hb dX5_middle_55 (by decide) (fun h55 => ?_) (fun h55 => False.elim (xne9 (by omega) h55))
            refine lv_bipush (v := (-9)) hx hb dX5_middle_71 (by decide) ?_
            exact x_iret hC hr hk hP hD hS dX5_middle_73 (Or.inr ⟨by rintro ⟨q, f1, g1, hq, e⟩; have el := congrArg List.length e; rw [xlay_len] at el; have e0 : L.getD 0 0 = 20 * q + 1 := (congrArg (fun l => List.getD l 0 0) e).trans (xlay_at (by omega)); have ek := pl_k e (show BT L (xof q 1) 2 k from (by unfold xof; rw [show 20 * q + 1 + 1 = L.getD 0 0 - 1 + 2 by omega]; exact hBk)); subst ek; have eb1 : L.getD (2 + 2 * k + 1) 0 = 0 := (congrArg (fun l => List.getD l (2 + 2 * k + 1) 0) e).trans ((xlay_at (by omega)).trans (by unfold xlf; rw [if_pos (by omega)])); omega, rfl, rfl⟩)
        · refine lv_bipush (v := (-9)) hx hb dX5_middle_28 (by decide) ?_
          exact x_iret hC hr hk hP hD hS dX5_middle_30 (Or.inr ⟨by rintro ⟨q, f1, g1, hq, e⟩; have el := congrArg List.length e; rw [xlay_len] at el; have e0 : L.getD 0 0 = 20 * q + 1 := (congrArg (fun l => List.getD l 0 0) e).trans (xlay_at (by omega)); have e1 : L.getD 1 0 = 0 := (congrArg (fun l => List.getD l 1 0) e).trans (xlay_at (by omega)); omega, rfl, rfl⟩)
      · refine lv_aload_n hx hb dX5_middle_17 rfl (lv_at hl 1 rfl) ?_
        refine va_get (D := Z.1) (ci := 5) (v := .ref vr) (C := RX5) (T := TX5) (N := 2) hx hb hts iX5 hown hK hP 0 rfl rfl 0 (Nat.le_of_ble_eq_true rfl) qq_292 (fun _ h9 => h9) rfl dX5_middle_18 ?_
        refine ln_const 1 hx hb dX5_middle_21 (by decide) ?_
        refine x_Vi (y := yX2_get) (As := [.int (nI 1)]) (wc := [(vr, .inr (2, [.ref ar, .int (nI hd), .int (nI sz)])), (ar, xI Z 600 g)]) (wr := [(hw, .inr (5, [.ref vr, .ref vk]))]) hC hP hD hS (c_X2_get_out l Z vr ar 600 hd sz g L (by omega) hR hsz (nI 1) (by rw [nI_toInt (by omega)]; omega)) (gV wq_524 wq_542 wq_522 wq_523 wq_43) rfl kv_X2_get rfl rfl ⟨rfl, rfl⟩ rfl hl.1 rfl ⟨Nat.le_of_ble_eq_true rfl, Nat.le_of_ble_eq_true rfl⟩ [1, 2] [0] rfl rfl (by decide) (by decide) (by decide) rfl dX5_middle_22 (fun r22 w1 H locs hw hP hD hS => ?_)
        obtain ⟨rfl, rfl⟩ := hw
        have hP : va_P Z.1 vwCl [(hw, .inr (5, [.ref vr, .ref vk])), (vr, .inr (2, [.ref ar, .int (nI hd), .int (nI sz)])), (ar, xI Z 600 g)] H := hP
        have hD : va_D A [(hw, .inr (5, [.ref vr, .ref vk])), (vr, .inr (2, [.ref ar, .int (nI hd), .int (nI sz)])), (ar, xI Z 600 g)] := hD
        refine lv_if_eq (tgt := 31) hx hb dX5_middle_25 (by decide) (fun h25 => False.elim (by revert h25; decide)) (fun h25 => ?_)
        refine lv_bipush (v := (-9)) hx hb dX5_middle_28 (by decide) ?_
        exact x_iret hC hr hk hP hD hS dX5_middle_30 (Or.inr ⟨by rintro ⟨q, f1, g1, hq, e⟩; have el := congrArg List.length e; rw [xlay_len] at el; omega, rfl, rfl⟩)
