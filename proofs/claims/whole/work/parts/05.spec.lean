/-! what is computed, plainly: runs of steps, rings, productions, steps of the word and of the bits -/
def xrun {σ : Type} (f : σ → Option σ) : Nat → σ → Nat × σ
  | 0, s => (0, s)
  | n + 1, s => match f s with
    | none => (0, s)
    | some s' => ((xrun f n s').1 + 1, (xrun f n s').2)
/-- k steps of the run of n steps from s0 are done, s is reached -/
def XR {σ : Type} (f : σ → Option σ) (n : Nat) (s0 : σ) (k : Nat) (s : σ) : Prop := k ≤ n ∧ xrun f n s0 = (k + (xrun f (n - k) s).1, (xrun f (n - k) s).2)
theorem XR.beg {σ : Type} (f : σ → Option σ) (n : Nat) (s0 : σ) : XR f n s0 0 s0 := ⟨Nat.zero_le _, by simp⟩
theorem XR.step {σ : Type} {f : σ → Option σ} {n k : Nat} {s0 s s' : σ} (h : XR f n s0 k s) (hk : k < n) (hf : f s = some s') : XR f n s0 (k + 1) s' := by
  refine ⟨hk, ?_⟩
  rw [h.2]
  obtain ⟨d, hd⟩ : ∃ d, n - k = d + 1 := ⟨n - k - 1, by omega⟩
  rw [hd, show n - (k + 1) = d by omega]
  simp only [xrun, hf]
  congr 1
  omega
theorem XR.stop {σ : Type} {f : σ → Option σ} {n k : Nat} {s0 s : σ} (h : XR f n s0 k s) (hf : f s = none) : xrun f n s0 = (k, s) := by
  rw [h.2]
  cases hd : n - k with
  | zero => simp [xrun]
  | succ d => simp [xrun, hf]
theorem XR.full {σ : Type} {f : σ → Option σ} {n k : Nat} {s0 s : σ} (h : XR f n s0 k s) (hk : n ≤ k) : xrun f n s0 = (k, s) := by
  rw [h.2, show n - k = 0 by omega]
  simp [xrun]
theorem xrun_le {σ : Type} (f : σ → Option σ) : ∀ (n : Nat) (s : σ), (xrun f n s).1 ≤ n
  | 0, s => Nat.le_refl 0
  | n + 1, s => by
    simp only [xrun]
    cases f s with
    | none => exact Nat.zero_le _
    | some s' => exact Nat.succ_le_succ (xrun_le f n s')
/-- what steps keep, runs keep -/
theorem xrun_inv {σ : Type} {f : σ → Option σ} {P : σ → Prop} (hf : ∀ s s', P s → f s = some s' → P s') : ∀ (n : Nat) (s : σ), P s → P (xrun f n s).2
  | 0, s, h => h
  | n + 1, s, h => by
    simp only [xrun]
    cases e : f s with
    | none => exact h
    | some s' => exact xrun_inv hf n s' (hf s s' h e)
/-- k steps at once -/
def xit {σ : Type} (f : σ → Option σ) : Nat → σ → Option σ
  | 0, s => some s
  | n + 1, s => match f s with
    | none => none
    | some s' => xit f n s'
theorem XR.steps {σ : Type} {f : σ → Option σ} {n : Nat} {s0 : σ} : ∀ (j k : Nat) {s s' : σ}, XR f n s0 k s → k + j ≤ n → xit f j s = some s' → XR f n s0 (k + j) s'
  | 0, k, s, s', h, _, e => by simp only [xit, Option.some.injEq] at e; subst e; exact h
  | j + 1, k, s, s', h, hk, e => by
    simp only [xit] at e
    cases e1 : f s with
    | none => rw [e1] at e; cases e
    | some s1 =>
      rw [e1] at e
      have := XR.steps j (k + 1) (h.step (by omega) e1) (by omega) e
      rw [show k + (j + 1) = k + 1 + j by omega]
      exact this
/-! rings -/
def xwr (N q : Nat) : Nat := if q < N then q else q - N
theorem xwr_mod {N q : Nat} (h : q < 2 * N) : xwr N q = q % N := by
  unfold xwr
  split
  · rw [Nat.mod_eq_of_lt (by assumption)]
  · rw [Nat.mod_eq_sub_mod (by omega), Nat.mod_eq_of_lt (by omega)]
theorem xwr_lt {N q : Nat} (h : q < 2 * N) : xwr N q < N := by
  unfold xwr
  split <;> omega
def RR (N hd : Nat) (g : Nat → Nat) (w : List Nat) : Prop := hd < N ∧ w.length ≤ N ∧ ∀ i, i < w.length → g ((hd + i) % N) = w.getD i 0
theorem mod_inj {N a i j : Nat} (hi : i < N) (hj : j < N) (h : (a + i) % N = (a + j) % N) : i = j := by
  have h1 := Nat.mod_lt a (show 0 < N by omega)
  rw [Nat.add_mod a i, Nat.add_mod a j, Nat.mod_eq_of_lt hi, Nat.mod_eq_of_lt hj] at h
  have e : ∀ q, q < N → (a % N + q) % N = if a % N + q < N then a % N + q else a % N + q - N := by
    intro q hq
    split
    · exact Nat.mod_eq_of_lt (by assumption)
    · rw [Nat.mod_eq_sub_mod (by omega), Nat.mod_eq_of_lt (by omega)]
  rw [e i hi, e j hj] at h
  split at h <;> split at h <;> omega
theorem RR.nil {N hd : Nat} {g : Nat → Nat} (h : hd < N) : RR N hd g [] := ⟨h, Nat.zero_le _, fun i hi => absurd hi (Nat.not_lt_zero _)⟩
theorem RR.push {N hd x : Nat} {g : Nat → Nat} {w : List Nat} (h : RR N hd g w) (hw : w.length < N) : RR N hd (va_up g ((hd + w.length) % N) x) (w ++ [x]) := by
  refine ⟨h.1, by simp; omega, fun i hi => ?_⟩
  simp only [List.length_append, List.length_cons, List.length_nil] at hi
  by_cases e : i = w.length
  · subst e
    simp [va_up]
  · have hi2 : i < w.length := by omega
    have hne : ¬ (hd + i) % N = (hd + w.length) % N := fun q => e (mod_inj (by omega) hw q)
    simp only [va_up, if_neg hne]
    rw [h.2.2 i hi2]
    simp only [List.getD_eq_getElem?_getD]
    rw [List.getElem?_append_left hi2]
theorem RR.drop {N hd k : Nat} {g : Nat → Nat} {w : List Nat} (h : RR N hd g w) (hk : k ≤ w.length) : RR N ((hd + k) % N) g (w.drop k) := by
  have hN : 0 < N := by have := h.1; omega
  refine ⟨Nat.mod_lt _ hN, by simp; have := h.2.1; omega, fun i hi => ?_⟩
  simp only [List.length_drop] at hi
  rw [Nat.mod_add_mod, Nat.add_assoc, h.2.2 (k + i) (by omega)]
  simp only [List.getD_eq_getElem?_getD, List.getElem?_drop]
theorem RR.at0 {N hd i : Nat} {g : Nat → Nat} {w : List Nat} (h : RR N hd g w) (hi : i < w.length) : g (xwr N (hd + i)) = w.getD i 0 := by
  rw [xwr_mod (by have := h.1; have := h.2.1; omega)]
  exact h.2.2 i hi
/-! the productions -/
abbrev xRl : Type := Nat → Option (Nat × Nat × Nat)
def xof (q k : Nat) : Nat := 20 * q + 1 + k
def xpr (q k w y t : Nat) : List Nat :=
  if k = 0 then (if y = 1 then (if w = 1 then [xof q 8, 0, xof q 9, 0] else [xof q 8, 0]) else [xof q 2, 0])
  else if k = 1 then (if y = 1 then [xof q 9, 0, xof q 9, 0] else [xof q 3, 0])
  else if k = 2 then (if y = 1 then [] else [xof q 14])
  else if k = 3 then (if y = 1 then [] else [xof q 15])
  else if k = 4 then (if y = 1 then [xof q 14] else (if w = 1 then [xof q 8, 0, xof q 9, 0] else [xof q 8, 0]))
  else if k = 5 then (if y = 1 then [xof q 15] else [xof q 9, 0, xof q 9, 0])
  else if k = 8 then [xof q 10, xof q 11]
  else if k = 9 then [xof q 12, xof q 13]
  else if k = 14 then [xof q 16, xof q 17]
  else if k = 15 then [xof q 18, xof q 19]
  else if k = 10 then [xof (2 * t + 1) (if y = 1 then 0 else 6), 0]
  else if k = 11 then [0, xof (2 * t) (if y = 1 then 0 else 6), 0]
  else if k = 12 then [xof (2 * t + 1) (if y = 1 then 1 else 7), 0]
  else if k = 13 then [xof (2 * t) (if y = 1 then 1 else 7), 0]
  else if k = 16 then [xof (2 * t + 1) (if y = 1 then 4 else 0), 0]
  else if k = 17 then [xof (2 * t) (if y = 1 then 4 else 0), 0]
  else if k = 18 then [xof (2 * t + 1) (if y = 1 then 5 else 1), 0]
  else [xof (2 * t) (if y = 1 then 5 else 1), 0]
def xprod (R : xRl) (c : Nat) : List Nat :=
  if c = 0 then [] else if (c - 1) % 20 = 6 then [xof ((c - 1) / 20) 4, 0] else if (c - 1) % 20 = 7 then [xof ((c - 1) / 20) 5, 0]
  else match R ((c - 1) / 20) with
    | none => []
    | some q => xpr ((c - 1) / 20) ((c - 1) % 20) q.1 q.2.1 q.2.2
/-- rules as they can be -/
def RV (R : xRl) : Prop := ∀ q z, R q = some z → z.1 < 2 ∧ z.2.1 < 2 ∧ z.2.2 < 3
theorem xpr_chk : ((List.range 6).all fun q => (List.range 20).all fun k => (List.range 2).all fun w => (List.range 2).all fun y => (List.range 3).all fun t => decide ((xpr q k w y t).length ≤ 4) && (xpr q k w y t).all (fun z => decide (z < 121))) = true := by decide +kernel
theorem xpr_ok (q : Nat) (hq : q < 6) (k : Nat) (hk : k < 20) (w : Nat) (hw : w < 2) (y : Nat) (hy : y < 2) (t : Nat) (ht : t < 3) : (xpr q k w y t).length ≤ 4 ∧ ∀ z ∈ xpr q k w y t, z < 121 := by
  have h := List.all_eq_true.mp (List.all_eq_true.mp (List.all_eq_true.mp (List.all_eq_true.mp (List.all_eq_true.mp xpr_chk q (List.mem_range.mpr hq)) k (List.mem_range.mpr hk)) w (List.mem_range.mpr hw)) y (List.mem_range.mpr hy)) t (List.mem_range.mpr ht)
  simp only [Bool.and_eq_true, decide_eq_true_eq, List.all_eq_true] at h
  exact h
theorem xprod_ok {R : xRl} (hR : RV R) {c : Nat} (hc : c < 121) : (xprod R c).length ≤ 4 ∧ ∀ z ∈ xprod R c, z < 121 := by
  unfold xprod
  split
  · simp
  · split
    · simp [xof]; omega
    · split
      · simp [xof]; omega
      · split
        · simp
        · next q hq =>
          obtain ⟨h1, h2, h3⟩ := hR _ _ hq
          exact xpr_ok _ (by omega) _ (by omega) _ h1 _ h2 _ h3
theorem xprod_none : ∀ c, c < 121 → (xprod (fun _ => none) c).length ≤ 4 ∧ ∀ z ∈ xprod (fun _ => none) c, z < 121 := fun c hc => xprod_ok (fun q z h => by cases h) hc
/-! steps -/
/-- the counters: (values, line) -/
def cstep (nl : Nat) (op wk on iz : Nat → Nat) (s : (Nat → Nat) × Nat) : Option ((Nat → Nat) × Nat) :=
  if s.2 < nl then
    (if op s.2 = 0 then (if s.1 (wk s.2) < 1000 then some (va_up s.1 (wk s.2) (s.1 (wk s.2) + 1), on s.2) else none)
    else if op s.2 = 1 then (if s.1 (wk s.2) = 0 then some (s.1, iz s.2) else some (va_up s.1 (wk s.2) (s.1 (wk s.2) - 1), on s.2))
    else none)
  else none
/-- the machine: (state, sign, left, right) -/
def mstep (R : xRl) (s : Nat × Nat × Nat × Nat) : Option (Nat × Nat × Nat × Nat) :=
  match R (2 * s.1 + s.2.1) with
  | none => none
  | some z =>
    if z.2.1 = 1 then (if 2 * s.2.2.1 + z.1 ≤ 100000 then some (z.2.2, s.2.2.2 % 2, 2 * s.2.2.1 + z.1, s.2.2.2 / 2) else none)
    else (if 2 * s.2.2.2 + z.1 ≤ 100000 then some (z.2.2, s.2.2.1 % 2, s.2.2.1 / 2, 2 * s.2.2.2 + z.1) else none)
def tstep (R : xRl) (w : List Nat) : Option (List Nat) :=
  if w.length < 2 then none else if (xprod R (w.getD 0 0)).length = 0 then none
  else if 600 < w.length - 2 + (xprod R (w.getD 0 0)).length then none else some (w.drop 2 ++ xprod R (w.getD 0 0))
/-- a word whose letters are letters, short enough -/
def WV (w : List Nat) : Prop := w.length ≤ 600 ∧ ∀ z ∈ w, z < 121
theorem getD_mem {w : List Nat} {i : Nat} (h : i < w.length) : w.getD i 0 ∈ w := by
  rw [List.getD_eq_getElem?_getD, List.getElem?_eq_getElem h]
  exact List.getElem_mem h
theorem WV.at0 {w : List Nat} (h : WV w) {i : Nat} (hi : i < w.length) : w.getD i 0 < 121 := h.2 _ (getD_mem hi)
theorem tstep_ok {R : xRl} (hR : RV R) {w w' : List Nat} (h : WV w) (e : tstep R w = some w') : WV w' := by
  unfold tstep at e
  split at e
  · cases e
  · split at e
    · cases e
    · split at e
      · cases e
      · next h1 h2 h3 =>
        cases e
        refine ⟨by simp only [List.length_append, List.length_drop]; omega, fun z hz => ?_⟩
        rcases List.mem_append.mp hz with q | q
        · exact h.2 z (List.mem_of_mem_drop q)
        · exact (xprod_ok hR (h.at0 (by omega))).2 z q
/-- the bits, told by letters and the turn -/
def bpass (s : List Nat × Nat) : List Nat × Nat := (if (s.2 + 1) % 121 = 0 then s.1.drop 1 else s.1, if s.2 + 1 = 242 then 0 else s.2 + 1)
def bapp (R : xRl) (t : Nat) : List Nat := if t < 121 then xprod R t else []
def bstill (R : xRl) (s : List Nat × Nat) : Prop := s.2 = 0 ∧ (s.1.length < 2 ∨ (xprod R (s.1.getD 0 0)).length = 0)
theorem bstill_or (R : xRl) (s : List Nat × Nat) : bstill R s ∨ ¬ bstill R s := Classical.em _
def bstep (R : xRl) (s : List Nat × Nat) : Option (List Nat × Nat) :=
  if s.2 = 0 ∧ (s.1.length < 2 ∨ (xprod R (s.1.getD 0 0)).length = 0) then none
  else if s.1.getD 0 0 = s.2 % 121 then
    (if 80000 < 121 * s.1.length - s.2 % 121 - 1 + 121 * (bapp R s.2).length then none else some (bpass (s.1 ++ bapp R s.2, s.2)))
  else some (bpass s)
def bmany (s : List Nat × Nat) : Nat := 121 * s.1.length - s.2 % 121
def bitf (L : List Nat) (i : Nat) : Nat := if L.getD (i / 121) 0 = i % 121 then 1 else 0
def BV (s : List Nat × Nat) : Prop := s.2 < 242 ∧ (∀ z ∈ s.1, z < 121) ∧ bmany s ≤ 80000 ∧ (s.2 ≠ 0 → 1 ≤ s.1.length) ∧ (s.2 ≠ 0 → s.2 < 121 → 2 ≤ s.1.length)
theorem BV.len {s : List Nat × Nat} (h : BV s) : s.1.length ≤ 661 ∨ (s.2 % 121 ≠ 0 ∧ s.1.length ≤ 662) := by
  have := h.2.2.1
  unfold bmany at this
  have h2 := Nat.mod_lt s.2 (show 0 < 121 by decide)
  omega
theorem bpass_ok {L : List Nat} {t : Nat} (ht : t < 242) (hL : ∀ z ∈ L, z < 121) (h1 : 1 ≤ L.length) (h2 : t < 121 → 2 ≤ L.length) (hm : 121 * L.length - t % 121 ≤ 80001) : BV (bpass (L, t)) := by
  unfold bpass BV bmany
  dsimp only
  refine ⟨by split <;> omega, ?_, ?_, ?_, ?_⟩
  · intro z hz
    split at hz
    · exact hL z (List.mem_of_mem_drop hz)
    · exact hL z hz
  · split <;> split <;> (try simp only [List.length_drop]) <;> omega
  · intro h
    split at h
    · exact absurd rfl h
    · split
      · simp only [List.length_drop]; omega
      · omega
  · intro h h3
    split at h
    · exact absurd rfl h
    · next h4 =>
      rw [if_neg h4] at h3
      rw [if_neg (by omega)]
      exact h2 (by omega)
theorem bstep_ok {R : xRl} (hR : RV R) {s s' : List Nat × Nat} (h : BV s) (e : bstep R s = some s') : BV s' := by
  obtain ⟨L, t⟩ := s
  obtain ⟨h1, h2, h3, h4, h5⟩ := h
  unfold bmany at h3
  dsimp only at h1 h2 h3 h4 h5
  unfold bstep at e
  dsimp only at e
  split at e
  · cases e
  · next hs =>
    have hl1 : 1 ≤ L.length := by
      by_cases ht : t = 0
      · have : ¬ (L.length < 2 ∨ (xprod R (L.getD 0 0)).length = 0) := fun q => hs ⟨ht, q⟩
        omega
      · exact h4 ht
    have hl2 : t < 121 → 2 ≤ L.length := by
      intro q
      by_cases ht : t = 0
      · have : ¬ (L.length < 2 ∨ (xprod R (L.getD 0 0)).length = 0) := fun q => hs ⟨ht, q⟩
        omega
      · exact h5 ht q
    split at e
    · split at e
      · cases e
      · next hq =>
        cases e
        refine bpass_ok h1 ?_ ?_ ?_ ?_
        · intro z hz
          rcases List.mem_append.mp hz with q | q
          · exact h2 z q
          · unfold bapp at q
            split at q
            · exact (xprod_ok hR (by assumption)).2 z q
            · cases q
        · simp only [List.length_append]; omega
        · intro q; have := hl2 q; simp only [List.length_append]; omega
        · simp only [List.length_append]; omega
    · cases e
      exact bpass_ok h1 h2 hl1 hl2 (by omega)
