/-- the same over a pair's own 21 places -/
def lws (i q t j : Nat) (S : Nat × List (List Nat)) : Nat × List (List Nat) :=
  if xbe i j = 58 then (if xki i j = 100 then 0 else xki i j, S.2) else if xki i j = 100 then S
  else (S.1, if (S.2.getD S.1 []).length < 4 then S.2.set S.1 (S.2.getD S.1 [] ++ [xnum (xki i j) (xpm (xbe i j) q t)]) else S.2)
def lwl (i q t : Nat) : Nat → Nat × List (List Nat) → Nat × List (List Nat)
  | 0, S => S
  | j + 1, S => lws i q t j (lwl i q t j S)
def LT (q : Nat) (T0 : Nat → List Nat) (tab : List (List Nat)) : Nat → List Nat := fun c => if c = 0 then tab.getD 0 [] else if q * 20 < c ∧ c ≤ q * 20 + 20 then tab.getD (c - q * 20) [] else T0 c
theorem getD_set (l : List (List Nat)) (k j : Nat) (v : List Nat) (hk : k < l.length) : (l.set k v).getD j [] = if j = k then v else l.getD j [] := by
  simp only [List.getD_eq_getElem?_getD, List.getElem?_set]
  by_cases e : k = j
  · subst e; simp [hk]
  · rw [if_neg e, if_neg (fun q => e q.symm)]
theorem LT_at (q : Nat) (T0 : Nat → List Nat) (tab : List (List Nat)) {k : Nat} (hk : k < 21) : LT q T0 tab (xnum k q) = tab.getD k [] := by
  unfold LT xnum
  by_cases e : k = 0
  · subst e; rfl
  · rw [if_neg e, if_neg (show ¬ k = 100 by omega), if_neg (by omega), if_pos (by omega), show q * 20 + k - q * 20 = k by omega]
theorem LT_set (q : Nat) (T0 : Nat → List Nat) (tab : List (List Nat)) {k : Nat} (hk : k < 21) (hl : tab.length = 21) (v : List Nat) : va_up (LT q T0 tab) (xnum k q) v = LT q T0 (tab.set k v) := by
  funext c
  unfold va_up LT
  rw [getD_set _ _ _ _ (by omega), getD_set _ _ _ _ (by omega)]
  unfold xnum
  by_cases e : k = 0
  · subst e
    rw [if_pos rfl]
    by_cases e2 : c = 0
    · rw [if_pos e2, if_pos e2, if_pos rfl]
    · rw [if_neg e2, if_neg e2]
      by_cases e3 : q * 20 < c ∧ c ≤ q * 20 + 20
      · rw [if_pos e3, if_neg e2, if_pos e3, if_neg (by omega)]
      · rw [if_neg e3, if_neg e2, if_neg e3]
  · rw [if_neg e, if_neg (show ¬ k = 100 by omega)]
    by_cases e2 : c = 0
    · rw [if_neg (by omega), if_pos e2, if_pos e2, if_neg (by omega)]
    · rw [if_neg e2, if_neg e2]
      by_cases e3 : q * 20 < c ∧ c ≤ q * 20 + 20
      · rw [if_pos e3, if_pos e3]
        by_cases e4 : c = q * 20 + k
        · rw [if_pos e4, if_pos (by omega)]
        · rw [if_neg e4, if_neg (by omega)]
      · rw [if_neg e3, if_neg e3, if_neg (by omega)]
theorem lws_sim (i q t j : Nat) (T0 : Nat → List Nat) (S : Nat × List (List Nat)) (h1 : S.1 < 21) (h2 : S.2.length = 21) : xws i q t j (xnum S.1 q, LT q T0 S.2) = (xnum (lws i q t j S).1 q, LT q T0 (lws i q t j S).2) ∧ (lws i q t j S).1 < 21 ∧ (lws i q t j S).2.length = 21 := by
  have hk := xki_le i j
  unfold xws lws
  by_cases c1 : xbe i j = 58
  · rw [if_pos c1, if_pos c1]
    dsimp only
    by_cases c2 : xki i j = 100
    · rw [if_pos c2]
      refine ⟨?_, by omega, h2⟩
      rw [c2]
      rfl
    · rw [if_neg c2]
      exact ⟨rfl, by omega, h2⟩
  · rw [if_neg c1, if_neg c1]
    by_cases c2 : xki i j = 100
    · rw [if_pos c2, if_pos c2]
      exact ⟨rfl, h1, h2⟩
    · rw [if_neg c2, if_neg c2]
      dsimp only
      unfold xap
      rw [LT_at q T0 S.2 h1]
      by_cases c3 : (S.2.getD S.1 []).length < 4
      · rw [if_pos c3, if_pos c3]
        exact ⟨by rw [LT_set q T0 S.2 h1 h2], h1, by rw [List.length_set]; exact h2⟩
      · rw [if_neg c3, if_neg c3]
        exact ⟨rfl, h1, h2⟩
theorem lwl_sim (i q t : Nat) (T0 : Nat → List Nat) (tab : List (List Nat)) (hl : tab.length = 21) : ∀ n, xwl i q t n (0, LT q T0 tab) = (xnum (lwl i q t n (0, tab)).1 q, LT q T0 (lwl i q t n (0, tab)).2) ∧ (lwl i q t n (0, tab)).1 < 21 ∧ (lwl i q t n (0, tab)).2.length = 21
  | 0 => ⟨rfl, Nat.zero_lt_succ _, hl⟩
  | n + 1 => by
    obtain ⟨a, b, c⟩ := lwl_sim i q t T0 tab hl n
    show xws i q t n (xwl i q t n (0, LT q T0 tab)) = (xnum (lws i q t n (lwl i q t n (0, tab))).1 q, LT q T0 (lws i q t n (lwl i q t n (0, tab))).2) ∧ (lws i q t n (lwl i q t n (0, tab))).1 < 21 ∧ (lws i q t n (lwl i q t n (0, tab))).2.length = 21
    rw [a]
    exact lws_sim i q t n T0 _ b c
def lclr : List (List Nat) := List.replicate 21 []
def lnone (q : Nat) : List (List Nat) := (lwl 1 q 0 (xTl.getD 1 0) (0, lclr)).2
def lfol0 (q t : Nat) : List (List Nat) := (lwl 2 q t (xTl.getD 2 0) (0, lnone q)).2
def lfol1 (q y t : Nat) : List (List Nat) := (lwl (if y = 1 then 3 else 4) q t (xTl.getD (if y = 1 then 3 else 4) 0) (0, lfol0 q t)).2
def lfol (q w y t : Nat) : List (List Nat) := if w = 1 then (lwl (if y = 1 then 5 else 6) q t (xTl.getD (if y = 1 then 5 else 6) 0) (0, lfol1 q y t)).2 else lfol1 q y t
theorem lclr_len : lclr.length = 21 := rfl
theorem lnone_len (q : Nat) : (lnone q).length = 21 := (lwl_sim 1 q 0 (fun _ => []) lclr rfl _).2.2
theorem lfol0_len (q t : Nat) : (lfol0 q t).length = 21 := (lwl_sim 2 q t (fun _ => []) (lnone q) (lnone_len q) _).2.2
theorem lfol1_len (q y t : Nat) : (lfol1 q y t).length = 21 := (lwl_sim (if y = 1 then 3 else 4) q t (fun _ => []) (lfol0 q t) (lfol0_len q t) _).2.2
set_option maxRecDepth 100000 in
theorem lnone_chk : ((List.range 6).all fun q => (List.range 21).all fun j => decide ((lnone q).getD j [] = if j = 0 then [] else xprod (fun _ => none) (q * 20 + j))) = true := by decide +kernel
set_option maxRecDepth 100000 in
theorem lfol_chk : ((List.range 6).all fun q => (List.range 2).all fun w => (List.range 2).all fun y => (List.range 3).all fun t => decide (lfol q w y t = (List.range 21).map fun j => if j = 0 then [] else xprod (fun _ => some (w, y, t)) (q * 20 + j))) = true := by decide +kernel
theorem lnone_ok {q j : Nat} (hq : q < 6) (hj : j < 21) : (lnone q).getD j [] = if j = 0 then [] else xprod (fun _ => none) (q * 20 + j) := by
  have h := List.all_eq_true.mp (List.all_eq_true.mp lnone_chk q (List.mem_range.mpr hq)) j (List.mem_range.mpr hj)
  exact of_decide_eq_true h
theorem lfol_ok {q w y t j : Nat} (hq : q < 6) (hw : w < 2) (hy : y < 2) (ht : t < 3) (hj : j < 21) : (lfol q w y t).getD j [] = if j = 0 then [] else xprod (fun _ => some (w, y, t)) (q * 20 + j) := by
  have h := of_decide_eq_true (List.all_eq_true.mp (List.all_eq_true.mp (List.all_eq_true.mp (List.all_eq_true.mp lfol_chk q (List.mem_range.mpr hq)) w (List.mem_range.mpr hw)) y (List.mem_range.mpr hy)) t (List.mem_range.mpr ht))
  rw [h, List.getD_eq_getElem?_getD, List.getElem?_map, List.getElem?_range hj]
  rfl
theorem xprod_at {R R' : xRl} {c : Nat} (h : R ((c - 1) / 20) = R' ((c - 1) / 20)) : xprod R c = xprod R' c := by
  unfold xprod
  rw [h]
theorem LT_prod {R : xRl} {q : Nat} (hq : q < 6) (z : Option (Nat × Nat × Nat)) (tab : List (List Nat)) (htab : ∀ j, j < 21 → tab.getD j [] = if j = 0 then [] else xprod (fun _ => z) (q * 20 + j)) {T : Nat → List Nat} {c : Nat} (hT : ¬ (q * 20 < c ∧ c ≤ q * 20 + 20) → T c = xprod R c) : LT q T tab c = xprod (va_up R q z) c := by
  unfold LT
  by_cases e : c = 0
  · subst e
    rw [if_pos rfl, htab 0 (by decide)]
    rfl
  · rw [if_neg e]
    by_cases e2 : q * 20 < c ∧ c ≤ q * 20 + 20
    · rw [if_pos e2, htab _ (by omega), if_neg (by omega), show q * 20 + (c - q * 20) = c by omega]
      apply xprod_at
      rw [show (c - 1) / 20 = q by omega]
      exact (va_up_self R q z).symm
    · rw [if_neg e2, hT e2]
      apply xprod_at
      rw [va_up_ne _ _ (by omega)]
theorem LT_none {R : xRl} {q : Nat} (hq : q < 6) {T : Nat → List Nat} {c : Nat} (hT : ¬ (q * 20 < c ∧ c ≤ q * 20 + 20) → T c = xprod R c) : LT q T (lnone q) c = xprod (va_up R q none) c := LT_prod hq none _ (fun j hj => lnone_ok hq hj) hT
theorem LT_fol {R : xRl} {q w y t : Nat} (hq : q < 6) (hw : w < 2) (hy : y < 2) (ht : t < 3) {T : Nat → List Nat} {c : Nat} (hT : ¬ (q * 20 < c ∧ c ≤ q * 20 + 20) → T c = xprod R c) : LT q T (lfol q w y t) c = xprod (va_up R q (some (w, y, t))) c := LT_prod hq _ _ (fun j hj => lfol_ok hq hw hy ht hj) hT
theorem LT_clr {q : Nat} (hq : q < 6) {T T1 : Nat → List Nat} (h0 : T 0 = []) (h : ∀ c, T1 c = if q * 20 < c ∧ c < q * 20 + 21 then [] else T c) (c : Nat) : LT q T lclr c = T1 c := by
  rw [h]
  unfold LT lclr
  by_cases e : c = 0
  · subst e
    rw [if_pos rfl, if_neg (by omega), h0]
    rfl
  · rw [if_neg e]
    by_cases e2 : q * 20 < c ∧ c ≤ q * 20 + 20
    · rw [if_pos e2, if_pos (by omega), List.getD_eq_getElem?_getD, List.getElem?_replicate, if_pos (by omega)]
      rfl
    · rw [if_neg e2, if_neg (by omega)]
theorem clr_step {q k : Nat} {T T1 : Nat → List Nat} (hk : 1 ≤ k) (h : ∀ c, T1 c = if q * 20 < c ∧ c < q * 20 + k then [] else T c) (c : Nat) : va_up T1 (q * 20 + k) [] c = if q * 20 < c ∧ c < q * 20 + (k + 1) then [] else T c := by
  unfold va_up
  rw [h]
  by_cases e : c = q * 20 + k
  · rw [if_pos e, if_pos (by omega)]
  · rw [if_neg e]
    by_cases e2 : q * 20 < c ∧ c < q * 20 + k
    · rw [if_pos e2, if_pos (by omega)]
    · rw [if_neg e2, if_neg (by omega)]

theorem kv_X4_write : yX4_write.cls = RX4 ∧ yX4_write.cls ≠ "java/lang/invoke/MethodHandle" ∧ yX4_write.cls ≠ "java/lang/invoke/VarHandle" ∧ (parseMethodDescriptor yX4_write.desc).map (fun d => d.parameters.length) = some 3 := by decide +kernel
set_option maxHeartbeats 4000000 in
set_option maxRecDepth 100000 in
theorem c_X4_followNone (l : Launch) (Z : xZ) (hp s0 s1 : Nat) (sz lt : Nat → Nat) (T : Nat → List Nat) (hT : TR T sz lt) (h0 : T 0 = []) (q : Nat) (hq : q < 6) : xMv l Z yX4_followNone vX4_followNone ({ frames := 5, cells := 0, slots := 0, locals := 118 } : Room) [.ref hp, .int (nI q)] [(hp, .inr (4, [.ref s0, .ref s1])), (s0, xI Z 121 sz), (s1, xI Z 484 lt)] (fun w => ∃ sz2 lt2, TR (LT q T (lnone q)) sz2 lt2 ∧ w = [(hp, .inr (4, [.ref s0, .ref s1])), (s0, xI Z 121 sz2), (s1, xI Z 484 lt2)]) := by
  refine x_v (by decide) rfl (Nat.le_of_ble_eq_true rfl) ?_
  intro p e s m args below meth c ls A hC hr hk hname hl hP hD hS
  have hx := hC.1.1
  have hb := hC.1.2.1
  have hml := hC.1.2.2.1
  have hown : s.vm.findClass RX4 = some m.cls := hC.1.2.2.2.1
  have hts := hC.1.2.2.2.2
  have hK := hC.2.1
  have qq_258 := hts (Cond.fieldLink RX4 9 "TagTower$Productions" "sizes" "[I") (List.mem_cons_of_mem _ wq_258)
  have iX4 : ∀ w ∈ wsX40, w ∈ vX4_followNone := fun w h => List.mem_cons_of_mem _ (wi_X4 w h)
  have hl : lv_has ls 3 [(0, .ref hp), (1, .int (nI q))] := hl
  have hP : va_P Z.1 vwCl [(hp, .inr (4, [.ref s0, .ref s1])), (s0, xI Z 121 sz), (s1, xI Z 484 lt)] s.heap := hP
  have hD : va_D A [(hp, .inr (4, [.ref s0, .ref s1])), (s0, xI Z 121 sz), (s1, xI Z 484 lt)] := hD
  refine ln_const 1 hx hb dX4_followNone_0 (by decide) ?_
  refine lv_istore_n (lv' := [(2, .int (nI 1)), (0, .ref hp), (1, .int (nI q))]) hx hb dX4_followNone_1 rfl hl (by decide) rfl (fun ls hl => ?_)
  have hloop2 : ∀ (nn : Nat) (k : Nat) (T1 : Nat → List Nat) (sz1 : Nat → Nat) (H : Heap) (locs : List Loc) (ls : Array Slot) (hk1 : 1 ≤ k ∧ k ≤ 21) (hT1 : TR T1 sz1 lt) (hX : ∀ c1, T1 c1 = if q * 20 < c1 ∧ c1 < q * 20 + k then [] else T c1) (hmu : 21 - k < nn) (hP : va_P Z.1 vwCl [(hp, .inr (4, [.ref s0, .ref s1])), (s0, xI Z 121 sz1), (s1, xI Z 484 lt)] H) (hD : va_D A [(hp, .inr (4, [.ref s0, .ref s1])), (s0, xI Z 121 sz1), (s1, xI Z 484 lt)]) (hS : va_S A s.heap H locs) (hl : lv_has ls 3 [(0, .ref hp), (1, .int (nI q)), (2, .int (nI k))]), W p l e ({ frames := 5, cells := 0, slots := 0, locals := 118 } : Room) s m args below meth c H locs 0 0 (MQ below (va_Qv (fun w => ∃ sz2 lt2, TR (LT q T (lnone q)) sz2 lt2 ∧ w = [(hp, .inr (4, [.ref s0, .ref s1])), (s0, xI Z 121 sz2), (s1, xI Z 484 lt2)]) (xB Z A) A) args s ({ frames := 5, cells := 0, slots := 0, locals := 118 } : Room).cells ({ frames := 5, cells := 0, slots := 0, locals := 118 } : Room).slots A) (F0 m 2 ls []) := by
    intro nn
    induction nn with
    | zero => intro k T1 sz1 H locs ls hk1 hT1 hX hmu; exact absurd hmu (Nat.not_lt_zero _)
    | succ nn ih =>
      intro k T1 sz1 H locs ls hk1 hT1 hX hmu hP hD hS hl
      refine lv_iload_n hx hb dX4_followNone_2 rfl (lv_at hl 2 rfl) ?_
      refine ln_bipush 20 hx hb dX4_followNone_3 (by decide) ?_
      refine ln_icmp_gt (tgt := 26) hx hb dX4_followNone_5 (by decide) (by omega) (by omega) (fun h5 => ?_) (fun h5 => ?_)
      · refine lv_aload_n hx hb dX4_followNone_26 rfl (lv_at hl 0 rfl) ?_
        have hT2 := hT1.congr (T' := LT q T lclr) (fun c1 _ => LT_clr hq h0 (by rw [show (21 : Nat) = k by omega]; exact hX) c1)
        refine va_ldcS hx hb hown (hC.2.2.2.2.2.1 1 (by decide)) dX4_followNone_27 ?_
        refine lv_iload_n hx hb dX4_followNone_29 rfl (lv_at hl 1 rfl) ?_
        refine ln_const 0 hx hb dX4_followNone_30 (by decide) ?_
        refine x_Vv (y := yX4_write) (As := [.ref (Z.2.1.1 1), .int (nI q), .int (nI 0)]) (wc := [(hp, .inr (4, [.ref s0, .ref s1])), (s0, xI Z 121 sz1), (s1, xI Z 484 lt)]) (wr := []) hC hP hD hS (c_X4_write l Z hp s0 s1 sz1 lt (LT q T lclr) hT2 1 q 0 (by decide) hq (by omega)) (gV wq_136 wq_133 wq_135 wq_0 wq_35) rfl kv_X4_write rfl rfl ⟨rfl, rfl⟩ rfl hl.1 rfl ⟨Nat.le_of_ble_eq_true rfl, Nat.le_of_ble_eq_true rfl⟩ [0, 1, 2] ([] : List Nat) rfl rfl (by decide) (by decide) (by decide) rfl dX4_followNone_31 (fun w1 H locs hw hP hD hS => ?_)
        obtain ⟨sz2, lt2, hT3, rfl⟩ := hw
        have hP : va_P Z.1 vwCl [(hp, .inr (4, [.ref s0, .ref s1])), (s0, xI Z 121 sz2), (s1, xI Z 484 lt2)] H := hP
        have hD : va_D A [(hp, .inr (4, [.ref s0, .ref s1])), (s0, xI Z 121 sz2), (s1, xI Z 484 lt2)] := hD
        rw [(lwl_sim 1 q 0 T lclr rfl _).1] at hT3
        exact x_vret hC hr hk hP hD hS dX4_followNone_34 ⟨sz2, lt2, hT3, rfl⟩
      · refine lv_aload_n hx hb dX4_followNone_8 rfl (lv_at hl 0 rfl) ?_
        refine va_get (D := Z.1) (ci := 4) (v := .ref s0) (C := RX4) (T := TX4) (N := 2) hx hb hts iX4 hown hK hP 0 rfl rfl 0 (Nat.le_of_ble_eq_true rfl) qq_258 (fun _ h9 => h9) rfl dX4_followNone_9 ?_
        refine lv_iload_n hx hb dX4_followNone_12 rfl (lv_at hl 1 rfl) ?_
        refine ln_bipush 20 hx hb dX4_followNone_13 (by decide) ?_
        refine ln_imul (q * 20) hx hb dX4_followNone_15 (by first | rfl | omega) ?_
        refine lv_iload_n hx hb dX4_followNone_16 rfl (lv_at hl 2 rfl) ?_
        refine ln_iadd ((q * 20) + k) hx hb dX4_followNone_17 (by first | rfl | omega) ?_
        refine ln_const 0 hx hb dX4_followNone_18 (by decide) ?_
        refine ln_iast hx hb hK hP hD hS 1 rfl (by omega) (by omega) dX4_followNone_19 (fun H locs hP hD hS => ?_)
        have hP : va_P Z.1 vwCl [(hp, .inr (4, [.ref s0, .ref s1])), (s0, xI Z 121 (va_up sz1 ((q * 20) + k) 0)), (s1, xI Z 484 lt)] H := hP
        have hD : va_D A [(hp, .inr (4, [.ref s0, .ref s1])), (s0, xI Z 121 (va_up sz1 ((q * 20) + k) 0)), (s1, xI Z 484 lt)] := hD
        refine ln_iinc (k0 := 2) (k := 1) (k + 1) (lv' := [(2, .int (nI (k + 1))), (0, .ref hp), (1, .int (nI q))]) hx hb dX4_followNone_20 hl rfl rfl (by first | rfl | omega) (by decide) rfl (fun ls hl => ?_)
        refine lv_goto (tgt := 2) hx hb dX4_followNone_23 (by decide) ?_
        exact ih  (k + 1) _ _ _ _ _ (by omega) (hT1.cut (q * 20 + k)) (clr_step hk1.1 hX) (by omega) hP hD hS (lv_sub hl [1, 2, 0] rfl)
  exact hloop2 ((21 - 1) + 1) 1 T sz _ _ _ ⟨Nat.le_refl 1, by decide⟩ hT (fun c1 => by rw [if_neg (by omega)]) (Nat.lt_succ_self _) hP hD hS (lv_sub hl [1, 2, 0] rfl)

theorem kv_X4_followNone : yX4_followNone.cls = RX4 ∧ yX4_followNone.cls ≠ "java/lang/invoke/MethodHandle" ∧ yX4_followNone.cls ≠ "java/lang/invoke/VarHandle" ∧ (parseMethodDescriptor yX4_followNone.desc).map (fun d => d.parameters.length) = some 1 := by decide +kernel
set_option maxHeartbeats 4000000 in
set_option maxRecDepth 100000 in
theorem c_X4_follow (l : Launch) (Z : xZ) (hp s0 s1 : Nat) (sz lt : Nat → Nat) (T : Nat → List Nat) (hT : TR T sz lt) (h0 : T 0 = []) (q w y t : Nat) (hq : q < 6) (hw : w < 2) (hy : y < 2) (ht : t < 3) : xMv l Z yX4_follow vX4_follow ({ frames := 6, cells := 0, slots := 0, locals := 140 } : Room) [.ref hp, .int (nI q), .int (nI w), .int (nI y), .int (nI t)] [(hp, .inr (4, [.ref s0, .ref s1])), (s0, xI Z 121 sz), (s1, xI Z 484 lt)] (fun v => ∃ sz2 lt2, TR (LT q T (lfol q w y t)) sz2 lt2 ∧ v = [(hp, .inr (4, [.ref s0, .ref s1])), (s0, xI Z 121 sz2), (s1, xI Z 484 lt2)]) := by
  refine x_v (by decide) rfl (Nat.le_of_ble_eq_true rfl) ?_
  intro p e s m args below meth c ls A hC hr hk hname hl hP hD hS
  have hx := hC.1.1
  have hb := hC.1.2.1
  have hml := hC.1.2.2.1
  have hown : s.vm.findClass RX4 = some m.cls := hC.1.2.2.2.1
  have hts := hC.1.2.2.2.2
  have hK := hC.2.1
  have hl : lv_has ls 6 [(0, .ref hp), (1, .int (nI q)), (2, .int (nI w)), (3, .int (nI y)), (4, .int (nI t))] := hl
  have hP : va_P Z.1 vwCl [(hp, .inr (4, [.ref s0, .ref s1])), (s0, xI Z 121 sz), (s1, xI Z 484 lt)] s.heap := hP
  have hD : va_D A [(hp, .inr (4, [.ref s0, .ref s1])), (s0, xI Z 121 sz), (s1, xI Z 484 lt)] := hD
  refine lv_iload_n hx hb dX4_follow_0 rfl (lv_at hl 3 rfl) ?_
  refine ln_const 1 hx hb dX4_follow_1 (by decide) ?_
  refine ln_icmp_ne (tgt := 9) hx hb dX4_follow_2 (by decide) (by omega) (by omega) (fun h2 => ?_) (fun h2 => ?_)
  · refine ln_const 0 hx hb dX4_follow_9 (by decide) ?_
    refine lv_istore (lv' := [(5, .int (nI 0)), (0, .ref hp), (1, .int (nI q)), (2, .int (nI w)), (3, .int (nI y)), (4, .int (nI t))]) hx hb dX4_follow_10 hl (by decide) rfl (fun ls hl => ?_)
    refine lv_aload_n hx hb dX4_follow_12 rfl (lv_at hl 1 rfl) ?_
    refine lv_iload_n hx hb dX4_follow_13 rfl (lv_at hl 2 rfl) ?_
    refine x_Vv (y := yX4_followNone) (As := [.int (nI q)]) (wc := [(hp, .inr (4, [.ref s0, .ref s1])), (s0, xI Z 121 sz), (s1, xI Z 484 lt)]) (wr := []) hC hP hD hS (c_X4_followNone l Z hp s0 s1 sz lt T hT h0 q hq) (gV wq_131 wq_128 wq_129 wq_130 wq_35) rfl kv_X4_followNone rfl rfl ⟨rfl, rfl⟩ rfl hl.1 rfl ⟨Nat.le_of_ble_eq_true rfl, Nat.le_of_ble_eq_true rfl⟩ [0, 1, 2] ([] : List Nat) rfl rfl (by decide) (by decide) (by decide) rfl dX4_follow_14 (fun w1 H locs hw hP hD hS => ?_)
    obtain ⟨sz2, lt2, hT2, rfl⟩ := hw
    have hP : va_P Z.1 vwCl [(hp, .inr (4, [.ref s0, .ref s1])), (s0, xI Z 121 sz2), (s1, xI Z 484 lt2)] H := hP
    have hD : va_D A [(hp, .inr (4, [.ref s0, .ref s1])), (s0, xI Z 121 sz2), (s1, xI Z 484 lt2)] := hD
    refine lv_aload_n hx hb dX4_follow_17 rfl (lv_at hl 1 rfl) ?_
    refine va_ldcS hx hb hown (hC.2.2.2.2.2.1 2 (by decide)) dX4_follow_18 ?_
    refine lv_iload_n hx hb dX4_follow_20 rfl (lv_at hl 2 rfl) ?_
    refine lv_iload hx hb dX4_follow_21 (lv_at hl 5 rfl) ?_
    refine x_Vv (y := yX4_write) (As := [.ref (Z.2.1.1 2), .int (nI q), .int (nI t)]) (wc := [(hp, .inr (4, [.ref s0, .ref s1])), (s0, xI Z 121 sz2), (s1, xI Z 484 lt2)]) (wr := []) hC hP hD hS (c_X4_write l Z hp s0 s1 sz2 lt2 (LT q T (lnone q)) hT2 2 q t (by decide) hq (by omega)) (gV wq_136 wq_133 wq_135 wq_0 wq_35) rfl kv_X4_write rfl rfl ⟨rfl, rfl⟩ rfl hl.1 rfl ⟨Nat.le_of_ble_eq_true rfl, Nat.le_of_ble_eq_true rfl⟩ [0, 1, 2] ([] : List Nat) rfl rfl (by decide) (by decide) (by decide) rfl dX4_follow_23 (fun w1 H locs hw hP hD hS => ?_)
    obtain ⟨sz3, lt3, hT3, rfl⟩ := hw
    have hP : va_P Z.1 vwCl [(hp, .inr (4, [.ref s0, .ref s1])), (s0, xI Z 121 sz3), (s1, xI Z 484 lt3)] H := hP
    have hD : va_D A [(hp, .inr (4, [.ref s0, .ref s1])), (s0, xI Z 121 sz3), (s1, xI Z 484 lt3)] := hD
    rw [(lwl_sim 2 q t T (lnone q) (lnone_len q) _).1] at hT3
    refine lv_aload_n hx hb dX4_follow_26 rfl (lv_at hl 1 rfl) ?_
    refine lv_iload hx hb dX4_follow_27 (lv_at hl 0 rfl) ?_
    refine ln_if_eq (tgt := 37) hx hb dX4_follow_29 (by decide) (by omega) (fun h29 => ?_) (fun h29 => False.elim (by omega))
    refine va_ldcS hx hb hown (hC.2.2.2.2.2.1 4 (by decide)) dX4_follow_37 ?_
    refine lv_iload_n hx hb dX4_follow_39 rfl (lv_at hl 2 rfl) ?_
    refine lv_iload hx hb dX4_follow_40 (lv_at hl 5 rfl) ?_
    refine x_Vv (y := yX4_write) (As := [.ref (Z.2.1.1 4), .int (nI q), .int (nI t)]) (wc := [(hp, .inr (4, [.ref s0, .ref s1])), (s0, xI Z 121 sz3), (s1, xI Z 484 lt3)]) (wr := []) hC hP hD hS (c_X4_write l Z hp s0 s1 sz3 lt3 (LT q T (lfol0 q t)) hT3 4 q t (by decide) hq (by omega)) (gV wq_136 wq_133 wq_135 wq_0 wq_35) rfl kv_X4_write rfl rfl ⟨rfl, rfl⟩ rfl hl.1 rfl ⟨Nat.le_of_ble_eq_true rfl, Nat.le_of_ble_eq_true rfl⟩ [0, 1, 2] ([] : List Nat) rfl rfl (by decide) (by decide) (by decide) rfl dX4_follow_42 (fun w1 H locs hw hP hD hS => ?_)
    obtain ⟨sz4, lt4, hT4, rfl⟩ := hw
    have hP : va_P Z.1 vwCl [(hp, .inr (4, [.ref s0, .ref s1])), (s0, xI Z 121 sz4), (s1, xI Z 484 lt4)] H := hP
    have hD : va_D A [(hp, .inr (4, [.ref s0, .ref s1])), (s0, xI Z 121 sz4), (s1, xI Z 484 lt4)] := hD
    rw [(lwl_sim 4 q t T (lfol0 q t) (lfol0_len q t) _).1] at hT4
    have hT5 : TR (LT q T (lfol1 q y t)) sz4 lt4 := by unfold lfol1; simp only [if_neg h2]; exact hT4
    refine lv_iload_n hx hb dX4_follow_45 rfl (lv_at hl 3 rfl) ?_
    refine ln_const 1 hx hb dX4_follow_46 (by decide) ?_
    refine ln_icmp_ne (tgt := 69) hx hb dX4_follow_47 (by decide) (by omega) (by omega) (fun h47 => ?_) (fun h47 => ?_)
    · exact x_vret hC hr hk hP hD hS dX4_follow_69 ⟨sz4, lt4, by unfold lfol; rw [if_neg h47]; exact hT5, rfl⟩
    · refine lv_aload_n hx hb dX4_follow_50 rfl (lv_at hl 1 rfl) ?_
      refine lv_iload hx hb dX4_follow_51 (lv_at hl 0 rfl) ?_
      refine ln_if_eq (tgt := 61) hx hb dX4_follow_53 (by decide) (by omega) (fun h53 => ?_) (fun h53 => False.elim (by omega))
      refine va_ldcS hx hb hown (hC.2.2.2.2.2.1 6 (by decide)) dX4_follow_61 ?_
      refine lv_iload_n hx hb dX4_follow_63 rfl (lv_at hl 2 rfl) ?_
      refine lv_iload hx hb dX4_follow_64 (lv_at hl 5 rfl) ?_
      refine x_Vv (y := yX4_write) (As := [.ref (Z.2.1.1 6), .int (nI q), .int (nI t)]) (wc := [(hp, .inr (4, [.ref s0, .ref s1])), (s0, xI Z 121 sz4), (s1, xI Z 484 lt4)]) (wr := []) hC hP hD hS (c_X4_write l Z hp s0 s1 sz4 lt4 (LT q T (lfol1 q y t)) hT5 6 q t (by decide) hq (by omega)) (gV wq_136 wq_133 wq_135 wq_0 wq_35) rfl kv_X4_write rfl rfl ⟨rfl, rfl⟩ rfl hl.1 rfl ⟨Nat.le_of_ble_eq_true rfl, Nat.le_of_ble_eq_true rfl⟩ [0, 1, 2] ([] : List Nat) rfl rfl (by decide) (by decide) (by decide) rfl dX4_follow_66 (fun w1 H locs hw hP hD hS => ?_)
      obtain ⟨sz6, lt6, hT6, rfl⟩ := hw
      have hP : va_P Z.1 vwCl [(hp, .inr (4, [.ref s0, .ref s1])), (s0, xI Z 121 sz6), (s1, xI Z 484 lt6)] H := hP
      have hD : va_D A [(hp, .inr (4, [.ref s0, .ref s1])), (s0, xI Z 121 sz6), (s1, xI Z 484 lt6)] := hD
      rw [(lwl_sim 6 q t T (lfol1 q y t) (lfol1_len q y t) _).1] at hT6
      exact x_vret hC hr hk hP hD hS dX4_follow_69 ⟨sz6, lt6, by unfold lfol; simp only [if_neg h2, if_pos h47]; exact hT6, rfl⟩
  · refine ln_const 1 hx hb dX4_follow_5 (by decide) ?_
    refine lv_goto (tgt := 10) hx hb dX4_follow_6 (by decide) ?_
    refine lv_istore (lv' := [(5, .int (nI 1)), (0, .ref hp), (1, .int (nI q)), (2, .int (nI w)), (3, .int (nI y)), (4, .int (nI t))]) hx hb dX4_follow_10 hl (by decide) rfl (fun ls hl => ?_)
    refine lv_aload_n hx hb dX4_follow_12 rfl (lv_at hl 1 rfl) ?_
    refine lv_iload_n hx hb dX4_follow_13 rfl (lv_at hl 2 rfl) ?_
    refine x_Vv (y := yX4_followNone) (As := [.int (nI q)]) (wc := [(hp, .inr (4, [.ref s0, .ref s1])), (s0, xI Z 121 sz), (s1, xI Z 484 lt)]) (wr := []) hC hP hD hS (c_X4_followNone l Z hp s0 s1 sz lt T hT h0 q hq) (gV wq_131 wq_128 wq_129 wq_130 wq_35) rfl kv_X4_followNone rfl rfl ⟨rfl, rfl⟩ rfl hl.1 rfl ⟨Nat.le_of_ble_eq_true rfl, Nat.le_of_ble_eq_true rfl⟩ [0, 1, 2] ([] : List Nat) rfl rfl (by decide) (by decide) (by decide) rfl dX4_follow_14 (fun w1 H locs hw hP hD hS => ?_)
    obtain ⟨sz2, lt2, hT2, rfl⟩ := hw
    have hP : va_P Z.1 vwCl [(hp, .inr (4, [.ref s0, .ref s1])), (s0, xI Z 121 sz2), (s1, xI Z 484 lt2)] H := hP
    have hD : va_D A [(hp, .inr (4, [.ref s0, .ref s1])), (s0, xI Z 121 sz2), (s1, xI Z 484 lt2)] := hD
    refine lv_aload_n hx hb dX4_follow_17 rfl (lv_at hl 1 rfl) ?_
    refine va_ldcS hx hb hown (hC.2.2.2.2.2.1 2 (by decide)) dX4_follow_18 ?_
    refine lv_iload_n hx hb dX4_follow_20 rfl (lv_at hl 2 rfl) ?_
    refine lv_iload hx hb dX4_follow_21 (lv_at hl 5 rfl) ?_
    refine x_Vv (y := yX4_write) (As := [.ref (Z.2.1.1 2), .int (nI q), .int (nI t)]) (wc := [(hp, .inr (4, [.ref s0, .ref s1])), (s0, xI Z 121 sz2), (s1, xI Z 484 lt2)]) (wr := []) hC hP hD hS (c_X4_write l Z hp s0 s1 sz2 lt2 (LT q T (lnone q)) hT2 2 q t (by decide) hq (by omega)) (gV wq_136 wq_133 wq_135 wq_0 wq_35) rfl kv_X4_write rfl rfl ⟨rfl, rfl⟩ rfl hl.1 rfl ⟨Nat.le_of_ble_eq_true rfl, Nat.le_of_ble_eq_true rfl⟩ [0, 1, 2] ([] : List Nat) rfl rfl (by decide) (by decide) (by decide) rfl dX4_follow_23 (fun w1 H locs hw hP hD hS => ?_)
    obtain ⟨sz3, lt3, hT3, rfl⟩ := hw
    have hP : va_P Z.1 vwCl [(hp, .inr (4, [.ref s0, .ref s1])), (s0, xI Z 121 sz3), (s1, xI Z 484 lt3)] H := hP
    have hD : va_D A [(hp, .inr (4, [.ref s0, .ref s1])), (s0, xI Z 121 sz3), (s1, xI Z 484 lt3)] := hD
    rw [(lwl_sim 2 q t T (lnone q) (lnone_len q) _).1] at hT3
    refine lv_aload_n hx hb dX4_follow_26 rfl (lv_at hl 1 rfl) ?_
    refine lv_iload hx hb dX4_follow_27 (lv_at hl 0 rfl) ?_
    refine ln_if_eq (tgt := 37) hx hb dX4_follow_29 (by decide) (by omega) (fun h29 => False.elim (by omega)) (fun h29 => ?_)
    refine va_ldcS hx hb hown (hC.2.2.2.2.2.1 3 (by decide)) dX4_follow_32 ?_
    refine lv_goto (tgt := 39) hx hb dX4_follow_34 (by decide) ?_
    refine lv_iload_n hx hb dX4_follow_39 rfl (lv_at hl 2 rfl) ?_
    refine lv_iload hx hb dX4_follow_40 (lv_at hl 5 rfl) ?_
    refine x_Vv (y := yX4_write) (As := [.ref (Z.2.1.1 3), .int (nI q), .int (nI t)]) (wc := [(hp, .inr (4, [.ref s0, .ref s1])), (s0, xI Z 121 sz3), (s1, xI Z 484 lt3)]) (wr := []) hC hP hD hS (c_X4_write l Z hp s0 s1 sz3 lt3 (LT q T (lfol0 q t)) hT3 3 q t (by decide) hq (by omega)) (gV wq_136 wq_133 wq_135 wq_0 wq_35) rfl kv_X4_write rfl rfl ⟨rfl, rfl⟩ rfl hl.1 rfl ⟨Nat.le_of_ble_eq_true rfl, Nat.le_of_ble_eq_true rfl⟩ [0, 1, 2] ([] : List Nat) rfl rfl (by decide) (by decide) (by decide) rfl dX4_follow_42 (fun w1 H locs hw hP hD hS => ?_)
    obtain ⟨sz4, lt4, hT4, rfl⟩ := hw
    have hP : va_P Z.1 vwCl [(hp, .inr (4, [.ref s0, .ref s1])), (s0, xI Z 121 sz4), (s1, xI Z 484 lt4)] H := hP
    have hD : va_D A [(hp, .inr (4, [.ref s0, .ref s1])), (s0, xI Z 121 sz4), (s1, xI Z 484 lt4)] := hD
    rw [(lwl_sim 3 q t T (lfol0 q t) (lfol0_len q t) _).1] at hT4
    have hT5 : TR (LT q T (lfol1 q y t)) sz4 lt4 := by unfold lfol1; simp only [if_pos h2]; exact hT4
    refine lv_iload_n hx hb dX4_follow_45 rfl (lv_at hl 3 rfl) ?_
    refine ln_const 1 hx hb dX4_follow_46 (by decide) ?_
    refine ln_icmp_ne (tgt := 69) hx hb dX4_follow_47 (by decide) (by omega) (by omega) (fun h47 => ?_) (fun h47 => ?_)
    · exact x_vret hC hr hk hP hD hS dX4_follow_69 ⟨sz4, lt4, by unfold lfol; rw [if_neg h47]; exact hT5, rfl⟩
    · refine lv_aload_n hx hb dX4_follow_50 rfl (lv_at hl 1 rfl) ?_
      refine lv_iload hx hb dX4_follow_51 (lv_at hl 0 rfl) ?_
      refine ln_if_eq (tgt := 61) hx hb dX4_follow_53 (by decide) (by omega) (fun h53 => False.elim (by omega)) (fun h53 => ?_)
      refine va_ldcS hx hb hown (hC.2.2.2.2.2.1 5 (by decide)) dX4_follow_56 ?_
      refine lv_goto (tgt := 63) hx hb dX4_follow_58 (by decide) ?_
      refine lv_iload_n hx hb dX4_follow_63 rfl (lv_at hl 2 rfl) ?_
      refine lv_iload hx hb dX4_follow_64 (lv_at hl 5 rfl) ?_
      refine x_Vv (y := yX4_write) (As := [.ref (Z.2.1.1 5), .int (nI q), .int (nI t)]) (wc := [(hp, .inr (4, [.ref s0, .ref s1])), (s0, xI Z 121 sz4), (s1, xI Z 484 lt4)]) (wr := []) hC hP hD hS (c_X4_write l Z hp s0 s1 sz4 lt4 (LT q T (lfol1 q y t)) hT5 5 q t (by decide) hq (by omega)) (gV wq_136 wq_133 wq_135 wq_0 wq_35) rfl kv_X4_write rfl rfl ⟨rfl, rfl⟩ rfl hl.1 rfl ⟨Nat.le_of_ble_eq_true rfl, Nat.le_of_ble_eq_true rfl⟩ [0, 1, 2] ([] : List Nat) rfl rfl (by decide) (by decide) (by decide) rfl dX4_follow_66 (fun w1 H locs hw hP hD hS => ?_)
      obtain ⟨sz6, lt6, hT6, rfl⟩ := hw
      have hP : va_P Z.1 vwCl [(hp, .inr (4, [.ref s0, .ref s1])), (s0, xI Z 121 sz6), (s1, xI Z 484 lt6)] H := hP
      have hD : va_D A [(hp, .inr (4, [.ref s0, .ref s1])), (s0, xI Z 121 sz6), (s1, xI Z 484 lt6)] := hD
      rw [(lwl_sim 5 q t T (lfol1 q y t) (lfol1_len q y t) _).1] at hT6
      exact x_vret hC hr hk hP hD hS dX4_follow_69 ⟨sz6, lt6, by unfold lfol; simp only [if_pos h2, if_pos h47]; exact hT6, rfl⟩
