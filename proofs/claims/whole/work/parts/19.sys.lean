/-- (counters, line), program, rules, place, word, bits -/
abbrev xS : Type := ((Nat → Nat) × Nat) × (Nat × (Nat → Nat) × (Nat → Nat) × (Nat → Nat) × (Nat → Nat)) × xRl × (Nat × Nat × Nat × Nat) × List Nat × (List Nat × Nat)
def inQ (x : Int32) (a b : Nat) : Bool := decide ((a : Int) ≤ x.toInt ∧ x.toInt ≤ (b : Int))
theorem inQ_of {x : Int32} {a b : Nat} (h : inQ x a b = true) (hb : b < 2147483648) : ∃ j : Nat, a ≤ j ∧ j ≤ b ∧ x = nI j := by
  have h := of_decide_eq_true h
  refine ⟨x.toInt.toNat, by omega, by omega, ?_⟩
  apply Int32.toInt_inj.mp
  rw [nI_toInt (by omega)]
  omega
theorem inQ_no {x : Int32} {a b : Nat} (h : inQ x a b = false) (ha : a < 2147483648) (hb : b < 2147483648) : x.toInt < (nI a).toInt ∨ (nI b).toInt < x.toInt := by
  have h := of_decide_eq_false h
  rw [nI_toInt ha, nI_toInt hb]
  omega
/-- an index below n -/
def inX (x : Int32) (n : Nat) : Bool := decide (0 ≤ x.toInt ∧ x.toInt < (n : Int))
theorem inX_of {x : Int32} {n : Nat} (h : inX x n = true) (hn : n < 2147483648) : ∃ j : Nat, j < n ∧ x = nI j := by
  have h := of_decide_eq_true h
  refine ⟨x.toInt.toNat, by omega, ?_⟩
  apply Int32.toInt_inj.mp
  rw [nI_toInt (by omega)]
  omega
theorem inX_no {x : Int32} {n : Nat} (h : inX x n = false) : ¬ (0 ≤ x.toInt ∧ x.toInt < (n : Int)) := of_decide_eq_false h
abbrev xn (x : Int32) : Nat := x.toNatClampNeg
noncomputable def xtold (L : List Nat) (o : Nat) : Int32 := @dite _ (isPl L) (Classical.propDecidable _) (fun h => nI (tv h.choose h.choose_spec.choose h.choose_spec.choose_spec.choose o)) (fun _ => -9)
theorem xtold_no {L : List Nat} (h : ¬ isPl L) (o : Nat) : xtold L o = -9 := @dif_neg _ (Classical.propDecidable _) h _ _ _
theorem xtold_pl {q f g : Nat} (hq : q < 6) (o : Nat) : xtold (xlay q f g) o = nI (tv q f g o) := by
  have h : isPl (xlay q f g) := ⟨q, f, g, hq, rfl⟩
  unfold xtold
  rw [@dif_pos _ (Classical.propDecidable _) h]
  obtain ⟨e1, e2, e3⟩ := pl_inj h.choose_spec.choose_spec.choose_spec.2
  have key : ∀ a b c, q = a → f = b → g = c → nI (tv a b c o) = nI (tv q f g o) := fun a b c h1 h2 h3 => by rw [h1, h2, h3]
  exact key _ _ _ e1 e2 e3
noncomputable def xstill (R : xRl) (s : List Nat × Nat) : Nat := @ite _ (bstill R s) (Classical.propDecidable _) 1 0
theorem xstill_t {R : xRl} {s : List Nat × Nat} (h : bstill R s) : xstill R s = 1 := @if_pos _ (Classical.propDecidable _) h _ _ _
theorem xstill_f {R : xRl} {s : List Nat × Nat} (h : ¬ bstill R s) : xstill R s = 0 := @if_neg _ (Classical.propDecidable _) h _ _ _

def f_line : xS → Int32 → Int32 → Int32 → Int32 → Int32 × xS
  | ((v, now), (nl, op, wk, on, iz), R, (pq, pu, pf, pg), L, (B, t)), o, r, a, b => if (inQ o 0 2 && inQ r 0 3 && inQ a 0 24 && inQ b 0 24) = true then (if nl < 24 then (nI (nl + 1), ((v, now), (nl + 1, va_up op nl (xn o), va_up wk nl (xn r), va_up on nl (xn a), va_up iz nl (xn b)), R, (pq, pu, pf, pg), L, (B, t))) else (-3, ((v, now), (nl, op, wk, on, iz), R, (pq, pu, pf, pg), L, (B, t)))) else (-1, ((v, now), (nl, op, wk, on, iz), R, (pq, pu, pf, pg), L, (B, t)))

def f_wipe : xS → Int32 × xS
  | ((v, now), (nl, op, wk, on, iz), R, (pq, pu, pf, pg), L, (B, t)) => (nI nl, ((v, 0), (0, op, wk, on, iz), R, (pq, pu, pf, pg), L, (B, t)))

def f_set : xS → Int32 → Int32 → Int32 × xS
  | ((v, now), (nl, op, wk, on, iz), R, (pq, pu, pf, pg), L, (B, t)), r, y => if (inQ r 0 3 && inQ y 0 1000) = true then (nI (v (xn r)), ((va_up v (xn r) (xn y), now), (nl, op, wk, on, iz), R, (pq, pu, pf, pg), L, (B, t))) else (-1, ((v, now), (nl, op, wk, on, iz), R, (pq, pu, pf, pg), L, (B, t)))

def f_counter : xS → Int32 → Int32 × xS
  | ((v, now), (nl, op, wk, on, iz), R, (pq, pu, pf, pg), L, (B, t)), r => if inQ r 0 3 = true then (nI (v (xn r)), ((v, now), (nl, op, wk, on, iz), R, (pq, pu, pf, pg), L, (B, t))) else (-1, ((v, now), (nl, op, wk, on, iz), R, (pq, pu, pf, pg), L, (B, t)))

def f_count : xS → Int32 → Int32 × xS
  | ((v, now), (nl, op, wk, on, iz), R, (pq, pu, pf, pg), L, (B, t)), n => if inQ n 1 5000 = true then (nI (xrun (cstep nl op wk on iz) (xn n) (v, now)).1, ((xrun (cstep nl op wk on iz) (xn n) (v, now)).2, (nl, op, wk, on, iz), R, (pq, pu, pf, pg), L, (B, t))) else (-1, ((v, now), (nl, op, wk, on, iz), R, (pq, pu, pf, pg), L, (B, t)))

def f_at : xS → Int32 × xS
  | ((v, now), (nl, op, wk, on, iz), R, (pq, pu, pf, pg), L, (B, t)) => (nI now, ((v, now), (nl, op, wk, on, iz), R, (pq, pu, pf, pg), L, (B, t)))

def f_go : xS → Int32 → Int32 × xS
  | ((v, now), (nl, op, wk, on, iz), R, (pq, pu, pf, pg), L, (B, t)), y => if inQ y 0 24 = true then (nI now, ((v, xn y), (nl, op, wk, on, iz), R, (pq, pu, pf, pg), L, (B, t))) else (-1, ((v, now), (nl, op, wk, on, iz), R, (pq, pu, pf, pg), L, (B, t)))

def f_rule : xS → Int32 → Int32 → Int32 → Int32 → Int32 → Int32 × xS
  | ((v, now), (nl, op, wk, on, iz), R, (pq, pu, pf, pg), L, (B, t)), q, s, w, y, z => if (inQ q 0 2 && inQ s 0 1 && inQ w 0 1 && inQ y 0 1 && inQ z 0 2) = true then (nI (rcount (va_up R (2 * xn q + xn s) (some (xn w, xn y, xn z)))), ((v, now), (nl, op, wk, on, iz), va_up R (2 * xn q + xn s) (some (xn w, xn y, xn z)), (pq, pu, pf, pg), L, (B, t))) else (-1, ((v, now), (nl, op, wk, on, iz), R, (pq, pu, pf, pg), L, (B, t)))

def f_unrule : xS → Int32 → Int32 → Int32 × xS
  | ((v, now), (nl, op, wk, on, iz), R, (pq, pu, pf, pg), L, (B, t)), q, s => if (inQ q 0 2 && inQ s 0 1) = true then (nI (rone R (2 * xn q + xn s)), ((v, now), (nl, op, wk, on, iz), va_up R (2 * xn q + xn s) none, (pq, pu, pf, pg), L, (B, t))) else (-1, ((v, now), (nl, op, wk, on, iz), R, (pq, pu, pf, pg), L, (B, t)))

def f_place : xS → Int32 → Int32 → Int32 → Int32 → Int32 × xS
  | ((v, now), (nl, op, wk, on, iz), R, (pq, pu, pf, pg), L, (B, t)), q, s, f, g => if (inQ q 0 2 && inQ s 0 1 && inQ f 0 100000 && inQ g 0 100000) = true then (nI 1, ((v, now), (nl, op, wk, on, iz), R, (xn q, xn s, xn f, xn g), L, (B, t))) else (-1, ((v, now), (nl, op, wk, on, iz), R, (pq, pu, pf, pg), L, (B, t)))

def f_move : xS → Int32 → Int32 × xS
  | ((v, now), (nl, op, wk, on, iz), R, (pq, pu, pf, pg), L, (B, t)), n => if inQ n 1 5000 = true then (nI (xrun (mstep R) (xn n) (pq, pu, pf, pg)).1, ((v, now), (nl, op, wk, on, iz), R, (xrun (mstep R) (xn n) (pq, pu, pf, pg)).2, L, (B, t))) else (-1, ((v, now), (nl, op, wk, on, iz), R, (pq, pu, pf, pg), L, (B, t)))

def f_where : xS → Int32 → Int32 × xS
  | ((v, now), (nl, op, wk, on, iz), R, (pq, pu, pf, pg), L, (B, t)), o => if inQ o 0 4 = true then (if xn o = 0 then nI pq else if xn o = 1 then nI pu else if xn o = 2 then nI pf else if xn o = 3 then nI pg else nI (1 - rone R (2 * pq + pu)), ((v, now), (nl, op, wk, on, iz), R, (pq, pu, pf, pg), L, (B, t))) else (-1, ((v, now), (nl, op, wk, on, iz), R, (pq, pu, pf, pg), L, (B, t)))

def f_production : xS → Int32 → Int32 → Int32 × xS
  | ((v, now), (nl, op, wk, on, iz), R, (pq, pu, pf, pg), L, (B, t)), c, i => if inQ c 0 120 = true then (if inX i (xprod R (xn c)).length = true then nI ((xprod R (xn c)).getD (xn i) 0) else -9, ((v, now), (nl, op, wk, on, iz), R, (pq, pu, pf, pg), L, (B, t))) else (-1, ((v, now), (nl, op, wk, on, iz), R, (pq, pu, pf, pg), L, (B, t)))

def f_lay : xS → Int32 × xS
  | ((v, now), (nl, op, wk, on, iz), R, (pq, pu, pf, pg), L, (B, t)) => if 600 < 4 + 2 * (pf + pg) then (-3, ((v, now), (nl, op, wk, on, iz), R, (pq, pu, pf, pg), L, (B, t))) else (nI (4 + 2 * (pf + pg)), ((v, now), (nl, op, wk, on, iz), R, (pq, pu, pf, pg), xlay (2 * pq + pu) pf pg, (B, t)))

def f_add : xS → Int32 → Int32 × xS
  | ((v, now), (nl, op, wk, on, iz), R, (pq, pu, pf, pg), L, (B, t)), c => if inQ c 0 120 = true then (if L.length < 600 then (nI (L.length + 1), ((v, now), (nl, op, wk, on, iz), R, (pq, pu, pf, pg), L ++ [xn c], (B, t))) else (-3, ((v, now), (nl, op, wk, on, iz), R, (pq, pu, pf, pg), L, (B, t)))) else (-1, ((v, now), (nl, op, wk, on, iz), R, (pq, pu, pf, pg), L, (B, t)))

def f_clear : xS → Int32 × xS
  | ((v, now), (nl, op, wk, on, iz), R, (pq, pu, pf, pg), L, (B, t)) => (nI L.length, ((v, now), (nl, op, wk, on, iz), R, (pq, pu, pf, pg), [], (B, t)))

def f_letter : xS → Int32 → Int32 × xS
  | ((v, now), (nl, op, wk, on, iz), R, (pq, pu, pf, pg), L, (B, t)), i => (if inX i L.length = true then nI (L.getD (xn i) 0) else -9, ((v, now), (nl, op, wk, on, iz), R, (pq, pu, pf, pg), L, (B, t)))

def f_length : xS → Int32 × xS
  | ((v, now), (nl, op, wk, on, iz), R, (pq, pu, pf, pg), L, (B, t)) => (nI L.length, ((v, now), (nl, op, wk, on, iz), R, (pq, pu, pf, pg), L, (B, t)))

def f_tag : xS → Int32 → Int32 × xS
  | ((v, now), (nl, op, wk, on, iz), R, (pq, pu, pf, pg), L, (B, t)), n => if inQ n 1 20000 = true then (nI (xrun (tstep R) (xn n) L).1, ((v, now), (nl, op, wk, on, iz), R, (pq, pu, pf, pg), (xrun (tstep R) (xn n) L).2, (B, t))) else (-1, ((v, now), (nl, op, wk, on, iz), R, (pq, pu, pf, pg), L, (B, t)))

noncomputable def f_next : xS → Int32 × xS
  | ((v, now), (nl, op, wk, on, iz), R, (pq, pu, pf, pg), L, (B, t)) => match xnext R 20000 L with | none => (-2, ((v, now), (nl, op, wk, on, iz), R, (pq, pu, pf, pg), L, (B, t))) | some z => (nI z.1, ((v, now), (nl, op, wk, on, iz), R, (pq, pu, pf, pg), z.2, (B, t)))

noncomputable def f_told : xS → Int32 → Int32 × xS
  | ((v, now), (nl, op, wk, on, iz), R, (pq, pu, pf, pg), L, (B, t)), o => if inQ o 0 3 = true then (xtold L (xn o), ((v, now), (nl, op, wk, on, iz), R, (pq, pu, pf, pg), L, (B, t))) else (-1, ((v, now), (nl, op, wk, on, iz), R, (pq, pu, pf, pg), L, (B, t)))

def f_appendant : xS → Int32 → Int32 → Int32 × xS
  | ((v, now), (nl, op, wk, on, iz), R, (pq, pu, pf, pg), L, (B, t)), y, k => if inQ y 0 241 = true then (if inX k (121 * (bapp R (xn y)).length) = true then nI (if (bapp R (xn y)).getD (xn k / 121) 0 = xn k % 121 then 1 else 0) else -9, ((v, now), (nl, op, wk, on, iz), R, (pq, pu, pf, pg), L, (B, t))) else (-1, ((v, now), (nl, op, wk, on, iz), R, (pq, pu, pf, pg), L, (B, t)))

def f_spread : xS → Int32 × xS
  | ((v, now), (nl, op, wk, on, iz), R, (pq, pu, pf, pg), L, (B, t)) => (nI (L.length * 121), ((v, now), (nl, op, wk, on, iz), R, (pq, pu, pf, pg), L, (L, 0)))

def f_cycle : xS → Int32 → Int32 × xS
  | ((v, now), (nl, op, wk, on, iz), R, (pq, pu, pf, pg), L, (B, t)), n => if inQ n 1 30000 = true then (nI (xrun (bstep R) (xn n) (B, t)).1, ((v, now), (nl, op, wk, on, iz), R, (pq, pu, pf, pg), L, (xrun (bstep R) (xn n) (B, t)).2)) else (-1, ((v, now), (nl, op, wk, on, iz), R, (pq, pu, pf, pg), L, (B, t)))

def f_bit : xS → Int32 → Int32 × xS
  | ((v, now), (nl, op, wk, on, iz), R, (pq, pu, pf, pg), L, (B, t)), i => (if inX i (bmany (B, t)) = true then nI (bitf B (xn i + t % 121)) else -9, ((v, now), (nl, op, wk, on, iz), R, (pq, pu, pf, pg), L, (B, t)))

noncomputable def f_bits : xS → Int32 → Int32 × xS
  | ((v, now), (nl, op, wk, on, iz), R, (pq, pu, pf, pg), L, (B, t)), o => if inQ o 0 3 = true then (if xn o = 0 then nI (bmany (B, t)) else if xn o = 1 then nI t else if xn o = 2 then nI (bones (B, t)) else nI (xstill R (B, t)), ((v, now), (nl, op, wk, on, iz), R, (pq, pu, pf, pg), L, (B, t))) else (-1, ((v, now), (nl, op, wk, on, iz), R, (pq, pu, pf, pg), L, (B, t)))

def f_gather : xS → Int32 × xS
  | ((v, now), (nl, op, wk, on, iz), R, (pq, pu, pf, pg), L, (B, t)) => if t ≠ 0 then (-2, ((v, now), (nl, op, wk, on, iz), R, (pq, pu, pf, pg), L, (B, t))) else if 600 < B.length then (-3, ((v, now), (nl, op, wk, on, iz), R, (pq, pu, pf, pg), L, (B, t))) else (nI B.length, ((v, now), (nl, op, wk, on, iz), R, (pq, pu, pf, pg), B, (B, t)))

/-- a state as it can be -/
def SV (S : xS) : Prop := CV S.2.1.1 S.2.1.2.1 S.2.1.2.2.1 S.2.1.2.2.2.1 S.2.1.2.2.2.2 S.1 ∧ RV S.2.2.1 ∧ PV S.2.2.2.1 ∧ WV S.2.2.2.2.1 ∧ BV S.2.2.2.2.2
theorem CV.put {nl : Nat} {op wk on iz v : Nat → Nat} {now a b : Nat} (h : CV nl op wk on iz (v, now)) (hb : b ≤ 1000) : CV nl op wk on iz (va_up v a b, now) := by
  refine ⟨h.1, h.2.1, fun j hj => ?_, h.2.2.2⟩
  dsimp only
  unfold va_up
  split
  · exact hb
  · exact h.2.2.1 j hj
theorem CV.more {nl : Nat} {op wk on iz v : Nat → Nat} {now o r a b : Nat} (h : CV nl op wk on iz (v, now)) (hn : nl < 24) (h1 : o ≤ 2) (h2 : r ≤ 3) (h3 : a ≤ 24) (h4 : b ≤ 24) : CV (nl + 1) (va_up op nl o) (va_up wk nl r) (va_up on nl a) (va_up iz nl b) (v, now) := by
  refine ⟨by omega, fun j hj => ?_, h.2.2.1, h.2.2.2⟩
  unfold va_up
  by_cases e : j = nl
  · simp only [if_pos e]; exact ⟨h1, h2, h3, h4⟩
  · simp only [if_neg e]; exact h.2.1 j (by omega)
theorem CV.wipe {nl : Nat} {op wk on iz v : Nat → Nat} {now : Nat} (h : CV nl op wk on iz (v, now)) : CV 0 op wk on iz (v, 0) := ⟨Nat.zero_le _, fun j hj => absurd hj (Nat.not_lt_zero _), h.2.2.1, Nat.zero_le _⟩
theorem CV.goto {nl : Nat} {op wk on iz v : Nat → Nat} {now y : Nat} (h : CV nl op wk on iz (v, now)) (hy : y ≤ 24) : CV nl op wk on iz (v, y) := ⟨h.1, h.2.1, h.2.2.1, hy⟩
theorem CV.run {nl : Nat} {op wk on iz : Nat → Nat} {S S' : (Nat → Nat) × Nat} {n k : Nat} (h : CV nl op wk on iz S) (e : xrun (cstep nl op wk on iz) n S = (k, S')) : CV nl op wk on iz S' := by
  have := xrun_inv (P := CV nl op wk on iz) (fun s s' hs he => cstep_ok hs he) n S h
  rw [e] at this
  exact this
theorem PV.run {R : xRl} (hR : RV R) {S S' : Nat × Nat × Nat × Nat} {n k : Nat} (h : PV S) (e : xrun (mstep R) n S = (k, S')) : PV S' := by
  have := xrun_inv (P := PV) (fun s s' hs he => mstep_ok hR hs he) n S h
  rw [e] at this
  exact this
theorem WV.nil : WV [] := ⟨Nat.zero_le _, fun z hz => absurd hz List.not_mem_nil⟩
theorem WV.push {L : List Nat} (h : WV L) {c : Nat} (hl : L.length < 600) (hc : c < 121) : WV (L ++ [c]) := by
  refine ⟨by rw [List.length_append]; exact hl, fun z hz => ?_⟩
  rcases List.mem_append.mp hz with q | q
  · exact h.2 z q
  · rw [List.mem_singleton.mp q]; exact hc
theorem xtw_in {c z : Nat} : ∀ n, z ∈ xtw c n → z = c ∨ z = 0
  | 0, h => absurd h List.not_mem_nil
  | n + 1, h => by
    rcases List.mem_append.mp h with q | q
    · exact xtw_in n q
    · simp only [List.mem_cons, List.not_mem_nil, or_false] at q; exact q
theorem WV.lay {q f g : Nat} (hq : q < 6) (hl : 4 + 2 * (f + g) ≤ 600) : WV (xlay q f g) := by
  refine ⟨by rw [xlay_len]; omega, fun z hz => ?_⟩
  unfold xlay at hz
  simp only [List.mem_append] at hz
  rcases hz with ((hz | hz) | hz) | hz <;> rcases xtw_in _ hz with e | e <;> subst e <;> unfold xof at * <;> omega
theorem BV.lay {L : List Nat} (h : WV L) : BV (L, 0) := ⟨Nat.le_of_ble_eq_true rfl, h.2, by have := h.1; unfold bmany; dsimp only; omega, fun q => absurd rfl q, fun q => absurd rfl q⟩
theorem bapp_121 {R : xRl} (hR : RV R) (t : Nat) : ∀ z ∈ tapp (xprod R) t, z < 121 := by
  intro z hz
  unfold tapp at hz
  split at hz
  · next h => exact (xprod_ok hR h).2 z hz
  · cases hz
theorem bapp_le {R : xRl} (hR : RV R) (t : Nat) : (bapp R t).length ≤ 4 := by
  unfold bapp
  split
  · next h => exact (xprod_ok hR h).1
  · exact Nat.zero_le _
theorem inQ_tab {x : Int32} {a b : Nat} (h : inQ x a b = false) : x.toInt < (a : Int) ∨ (b : Int) < x.toInt := by
  have h := of_decide_eq_false h
  omega
theorem BV.run {R : xRl} (hR : RV R) {S S' : List Nat × Nat} {n k : Nat} (h : BV S) (e : xrun (bstep R) n S = (k, S')) : BV S' := by
  have := xrun_inv (P := BV) (fun s s' hs he => bstep_ok hR hs he) n S h
  rw [e] at this
  exact this

/-- the class's objects hold the state -/
def XW (ax : Nat) (S : xS) (w : va_W) (Z : xZ) : Prop := match S with
  | ((v, now), (nl, op, wk, on, iz), R, (pq, pu, pf, pg), L, (B, t)) => ∃ (hc b0 b1 b2 b3 b4 hm a0 a1 a2 a3 hp s0 s1 hw vr ar vk ak vb vq aq hd hd3 sz3 hdb : Nat) (ru sg wy ts sz1 lt1 gw g3 gb : Nat → Nat), MR R ru sg wy ts ∧ TR (xprod R) sz1 lt1 ∧ RR 600 hd gw L ∧ RR 662 hdb gb B ∧ w = [(ax, .inr (6, [.ref hc, .ref hm, .ref hp, .ref hw, .ref vb])), (hc, .inr (1, [.ref b0, .ref b1, .ref b2, .ref b3, .ref b4, .int (nI nl), .int (nI now)])), (b0, xI Z 4 v), (b1, xI Z 24 op), (b2, xI Z 24 wk), (b3, xI Z 24 on), (b4, xI Z 24 iz), (hm, .inr (3, [.ref a0, .ref a1, .ref a2, .ref a3, .int (nI (rcount R)), .int (nI pq), .int (nI pu), .int (nI pf), .int (nI pg)])), (a0, xO Z 6 ru), (a1, xI Z 6 sg), (a2, xI Z 6 wy), (a3, xI Z 6 ts), (hp, .inr (4, [.ref s0, .ref s1])), (s0, xI Z 121 sz1), (s1, xI Z 484 lt1), (hw, .inr (5, [.ref vr, .ref vk])), (vr, .inr (2, [.ref ar, .int (nI hd), .int (nI L.length)])), (ar, xI Z 600 gw), (vk, .inr (2, [.ref ak, .int (nI hd3), .int (nI sz3)])), (ak, xI Z 600 g3), (vb, .inr (0, [.ref vq, .int (nI t)])), (vq, .inr (2, [.ref aq, .int (nI hdb), .int (nI B.length)])), (aq, xI Z 662 gb)]
def XP (ax : Nat) (Z : xZ) (q : Int32 × xS) (r : Int32) (w : va_W) : Prop := r = q.1 ∧ SV q.2 ∧ XW ax q.2 w Z
