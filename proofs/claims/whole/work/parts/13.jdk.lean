def xby (i j : Nat) : Nat := (xTb.getD i []).getD j 0
theorem xby_all : ∀ i, i < 7 → ∀ j, j < xTl.getD i 0 → (xTi.getD i []).getD j 0 = nI (xby i j) ∧ xby i j < 128 := by decide +kernel
theorem xTl_le : ∀ i, i < 7 → xTl.getD i 0 < 100 := by decide +kernel
theorem xTl_len : ∀ i, i < 7 → (xTb.getD i []).length = xTl.getD i 0 := by decide +kernel
theorem ch_and : ∀ b, b < 128 → nI b &&& nI 255 = nI b := by decide +kernel
theorem ch_i2c : ∀ b, b < 128 → ((nI b).toUInt32 % 65536).toInt32 = nI b := by decide +kernel
theorem ch_i2b : ∀ b, b < 128 → (nI b).toInt8.toInt32 = nI b := by decide +kernel
theorem ch_nar : ∀ b, b < 128 → narrow .char (.int (nI b)) = .int (nI b) := fun b h => (pk_charN (by omega)).1
/-- the first place of c among the signs; 100: none -/
def xfn (c : Nat) : Nat → Nat → Nat
  | 0, _ => 100
  | n + 1, j => if xby 0 j = c then j else xfn c n (j + 1)
def xfv (k : Nat) : Int32 := if k = 100 then -1 else nI k

set_option maxHeartbeats 4000000 in
set_option maxRecDepth 100000 in
theorem c_coder (l : Launch) (Z : xZ) (i : Nat) (hi : i < 7) : xMi l Z yJ0_coder_7d493 vJ0_coder_7d493 ({ frames := 0, cells := 0, slots := 0, locals := 0 } : Room) [.ref (Z.2.1.1 i)] [] (fun r w => r = nI 0 ∧ w = []) := by
  refine x_i (by decide) rfl (Nat.le_of_ble_eq_true rfl) ?_
  intro p e s m args below meth c ls A hC hr hk hl hP hD hS
  have hx := hC.1.1
  have hb := hC.1.2.1
  have hml := hC.1.2.2.1
  have hown : s.vm.findClass RJ0 = some m.cls := hC.1.2.2.2.1
  have hts := hC.1.2.2.2.2
  have hK := hC.2.1
  have qq_145 := hts (Cond.fieldLink RJ0 38 "java/lang/String" "COMPACT_STRINGS" "Z") (List.mem_cons_of_mem _ wq_145)
  have qq_956 := hts (Cond.fieldLink RJ0 15 "java/lang/String" "coder" "B") (List.mem_cons_of_mem _ wq_956)
  have hl : lv_has ls 1 [(0, .ref (Z.2.1.1 i))] := hl
  have hP : va_P Z.1 vwCl [] s.heap := hP
  have hD : va_D A [] := hD
  refine va_gets hx hb hC.2.2.2.2.2.2.1 hS hown qq_145 (fun _ h9 => h9) dJ0_coder_7d493_0 ?_
  refine ln_top (y := nI 1) rfl ?_
  refine ln_if_eq (tgt := 13) hx hb dJ0_coder_7d493_3 (by decide) (by omega) (fun h3 => False.elim (by omega)) (fun h3 => ?_)
  refine lv_aload_n hx hb dJ0_coder_7d493_6 rfl (lv_at hl 0 rfl) ?_
  refine vk_getf hx hb (hC.2.2.2.2.1.1 i hi).2.1 hS hown qq_956 (fun _ h9 => h9) dJ0_coder_7d493_7 ?_
  refine ln_top (y := nI 0) rfl ?_
  refine lv_goto (tgt := 14) hx hb dJ0_coder_7d493_10 (by decide) ?_
  exact x_zret hC hr rfl hk hP hD hS dJ0_coder_7d493_14 ⟨rfl, rfl⟩

set_option maxHeartbeats 4000000 in
set_option maxRecDepth 100000 in
theorem c_isLatin1 (l : Launch) (Z : xZ) (i : Nat) (hi : i < 7) : xMi l Z yJ0_isLatin1_aae02 vJ0_isLatin1_aae02 ({ frames := 0, cells := 0, slots := 0, locals := 0 } : Room) [.ref (Z.2.1.1 i)] [] (fun r w => r = nI 1 ∧ w = []) := by
  refine x_i (by decide) rfl (Nat.le_of_ble_eq_true rfl) ?_
  intro p e s m args below meth c ls A hC hr hk hl hP hD hS
  have hx := hC.1.1
  have hb := hC.1.2.1
  have hml := hC.1.2.2.1
  have hown : s.vm.findClass RJ0 = some m.cls := hC.1.2.2.2.1
  have hts := hC.1.2.2.2.2
  have hK := hC.2.1
  have qq_145 := hts (Cond.fieldLink RJ0 38 "java/lang/String" "COMPACT_STRINGS" "Z") (List.mem_cons_of_mem _ wq_145)
  have qq_956 := hts (Cond.fieldLink RJ0 15 "java/lang/String" "coder" "B") (List.mem_cons_of_mem _ wq_956)
  have hl : lv_has ls 1 [(0, .ref (Z.2.1.1 i))] := hl
  have hP : va_P Z.1 vwCl [] s.heap := hP
  have hD : va_D A [] := hD
  refine va_gets hx hb hC.2.2.2.2.2.2.1 hS hown qq_145 (fun _ h9 => h9) dJ0_isLatin1_aae02_0 ?_
  refine ln_top (y := nI 1) rfl ?_
  refine ln_if_eq (tgt := 17) hx hb dJ0_isLatin1_aae02_3 (by decide) (by omega) (fun h3 => False.elim (by omega)) (fun h3 => ?_)
  refine lv_aload_n hx hb dJ0_isLatin1_aae02_6 rfl (lv_at hl 0 rfl) ?_
  refine vk_getf hx hb (hC.2.2.2.2.1.1 i hi).2.1 hS hown qq_956 (fun _ h9 => h9) dJ0_isLatin1_aae02_7 ?_
  refine ln_top (y := nI 0) rfl ?_
  refine ln_if_ne (tgt := 17) hx hb dJ0_isLatin1_aae02_10 (by decide) (by omega) (fun h10 => False.elim (by omega)) (fun h10 => ?_)
  refine ln_const 1 hx hb dJ0_isLatin1_aae02_13 (by decide) ?_
  refine lv_goto (tgt := 18) hx hb dJ0_isLatin1_aae02_14 (by decide) ?_
  exact x_zret hC hr rfl hk hP hD hS dJ0_isLatin1_aae02_18 ⟨rfl, rfl⟩

theorem kv_J0_coder_7d493 : yJ0_coder_7d493.cls = RJ0 ∧ yJ0_coder_7d493.cls ≠ "java/lang/invoke/MethodHandle" ∧ yJ0_coder_7d493.cls ≠ "java/lang/invoke/VarHandle" ∧ (parseMethodDescriptor yJ0_coder_7d493.desc).map (fun d => d.parameters.length) = some 0 := by decide +kernel
set_option maxHeartbeats 4000000 in
set_option maxRecDepth 100000 in
theorem c_slen (l : Launch) (Z : xZ) (i : Nat) (hi : i < 7) : xMi l Z yJ0_length_8abf5 vJ0_length_8abf5 ({ frames := 1, cells := 0, slots := 0, locals := 20 } : Room) [.ref (Z.2.1.1 i)] [] (fun r w => r = nI (xTl.getD i 0) ∧ w = []) := by
  refine x_i (by decide) rfl (Nat.le_of_ble_eq_true rfl) ?_
  intro p e s m args below meth c ls A hC hr hk hl hP hD hS
  have hx := hC.1.1
  have hb := hC.1.2.1
  have hml := hC.1.2.2.1
  have hown : s.vm.findClass RJ0 = some m.cls := hC.1.2.2.2.1
  have hts := hC.1.2.2.2.2
  have hK := hC.2.1
  have qq_955 := hts (Cond.fieldLink RJ0 9 "java/lang/String" "value" "[B") (List.mem_cons_of_mem _ wq_955)
  have hl : lv_has ls 1 [(0, .ref (Z.2.1.1 i))] := hl
  have hP : va_P Z.1 vwCl [] s.heap := hP
  have hD : va_D A [] := hD
  refine lv_aload_n hx hb dJ0_length_8abf5_0 rfl (lv_at hl 0 rfl) ?_
  refine vk_getf hx hb (hC.2.2.2.2.1.1 i hi).2.2.1 hS hown qq_955 (fun _ h9 => h9) dJ0_length_8abf5_1 ?_
  refine va_tlen (v := nI (xTl.getD i 0)) hx hb (hC.2.2.2.2.1.1 i hi).2.2.2 hS rfl dJ0_length_8abf5_4 ?_
  refine lv_aload_n hx hb dJ0_length_8abf5_5 rfl (lv_at hl 0 rfl) ?_
  refine x_Ri (y := yJ0_coder_7d493) (As := []) (wc := []) (wr := []) hC hP hD hS (c_coder l Z i hi) (gV wq_144 wq_141 wq_142 wq_143 wq_36) rfl kv_J0_coder_7d493 (vk_recv hC.2.2.2.2.1 hi hS) ⟨rfl, rfl⟩ rfl hl.1 rfl ⟨Nat.le_of_ble_eq_true rfl, Nat.le_of_ble_eq_true rfl⟩ ([] : List Nat) ([] : List Nat) rfl rfl (by decide) (by decide) (by decide) rfl dJ0_length_8abf5_6 (fun r6 w1 H locs hw hP hD hS => ?_)
  obtain ⟨rfl, rfl⟩ := hw
  have hP : va_P Z.1 vwCl [] H := hP
  have hD : va_D A [] := hD
  refine lv_ishr hx hb dJ0_length_8abf5_9 ?_
  refine ln_top (y := nI (xTl.getD i 0)) (sc_shr0 (by have := xTl_le i hi; omega)) ?_
  exact x_iret hC hr hk hP hD hS dJ0_length_8abf5_10 ⟨rfl, rfl⟩

set_option maxHeartbeats 4000000 in
set_option maxRecDepth 100000 in
theorem c_pci_n (l : Launch) (Z : xZ) (j N : Nat) (hj : j < N) (hN : N < 1000) : xMi l Z yJ3_checkIndex_8e157 vJ3_checkIndex_8e157 ({ frames := 0, cells := 0, slots := 0, locals := 0 } : Room) [.int (nI j), .int (nI N), .null] [] (fun r w => r = nI j ∧ w = []) := by
  refine x_i (by decide) rfl (Nat.le_of_ble_eq_true rfl) ?_
  intro p e s m args below meth c ls A hC hr hk hl hP hD hS
  have hx := hC.1.1
  have hb := hC.1.2.1
  have hml := hC.1.2.2.1
  have hown : s.vm.findClass RJ3 = some m.cls := hC.1.2.2.2.1
  have hts := hC.1.2.2.2.2
  have hK := hC.2.1
  have hl : lv_has ls 3 [(0, .int (nI j)), (1, .int (nI N)), (2, .null)] := hl
  have hP : va_P Z.1 vwCl [] s.heap := hP
  have hD : va_D A [] := hD
  refine lv_iload_n hx hb dJ3_checkIndex_8e157_0 rfl (lv_at hl 0 rfl) ?_
  refine ln_if_lt (tgt := 9) hx hb dJ3_checkIndex_8e157_1 (by decide) (by omega) ?_
  refine lv_iload_n hx hb dJ3_checkIndex_8e157_4 rfl (lv_at hl 0 rfl) ?_
  refine lv_iload_n hx hb dJ3_checkIndex_8e157_5 rfl (lv_at hl 1 rfl) ?_
  refine ln_icmp_lt (tgt := 16) hx hb dJ3_checkIndex_8e157_6 (by decide) (by omega) (by omega) (fun h6 => ?_) (fun h6 => False.elim (by omega))
  refine lv_iload_n hx hb dJ3_checkIndex_8e157_16 rfl (lv_at hl 0 rfl) ?_
  exact x_iret hC hr hk hP hD hS dJ3_checkIndex_8e157_17 ⟨rfl, rfl⟩

set_option maxHeartbeats 4000000 in
set_option maxRecDepth 100000 in
theorem c_pci_r (l : Launch) (Z : xZ) (j N : Nat) (hj : j < N) (hN : N < 1000) (t : Nat) : xMi l Z yJ3_checkIndex_8e157 vJ3_checkIndex_8e157 ({ frames := 0, cells := 0, slots := 0, locals := 0 } : Room) [.int (nI j), .int (nI N), .ref t] [] (fun r w => r = nI j ∧ w = []) := by
  refine x_i (by decide) rfl (Nat.le_of_ble_eq_true rfl) ?_
  intro p e s m args below meth c ls A hC hr hk hl hP hD hS
  have hx := hC.1.1
  have hb := hC.1.2.1
  have hml := hC.1.2.2.1
  have hown : s.vm.findClass RJ3 = some m.cls := hC.1.2.2.2.1
  have hts := hC.1.2.2.2.2
  have hK := hC.2.1
  have hl : lv_has ls 3 [(0, .int (nI j)), (1, .int (nI N)), (2, .ref t)] := hl
  have hP : va_P Z.1 vwCl [] s.heap := hP
  have hD : va_D A [] := hD
  refine lv_iload_n hx hb dJ3_checkIndex_8e157_0 rfl (lv_at hl 0 rfl) ?_
  refine ln_if_lt (tgt := 9) hx hb dJ3_checkIndex_8e157_1 (by decide) (by omega) ?_
  refine lv_iload_n hx hb dJ3_checkIndex_8e157_4 rfl (lv_at hl 0 rfl) ?_
  refine lv_iload_n hx hb dJ3_checkIndex_8e157_5 rfl (lv_at hl 1 rfl) ?_
  refine ln_icmp_lt (tgt := 16) hx hb dJ3_checkIndex_8e157_6 (by decide) (by omega) (by omega) (fun h6 => ?_) (fun h6 => False.elim (by omega))
  refine lv_iload_n hx hb dJ3_checkIndex_8e157_16 rfl (lv_at hl 0 rfl) ?_
  exact x_iret hC hr hk hP hD hS dJ3_checkIndex_8e157_17 ⟨rfl, rfl⟩

theorem ks_J3_checkIndex_8e157 : yJ3_checkIndex_8e157.cls ≠ "java/lang/invoke/MethodHandle" ∧ yJ3_checkIndex_8e157.cls ≠ "java/lang/invoke/VarHandle" ∧ (parseMethodDescriptor yJ3_checkIndex_8e157.desc).map (fun d => d.parameters.length) = some 3 := by decide +kernel
set_option maxHeartbeats 4000000 in
set_option maxRecDepth 100000 in
theorem c_sci (l : Launch) (Z : xZ) (j N : Nat) (hj : j < N) (hN : N < 1000) : xMv l Z yJ0_checkIndex_df160 vJ0_checkIndex_df160 ({ frames := 1, cells := 0, slots := 0, locals := 22 } : Room) [.int (nI j), .int (nI N)] [] (fun w => w = []) := by
  refine x_v (by decide) rfl (Nat.le_of_ble_eq_true rfl) ?_
  intro p e s m args below meth c ls A hC hr hk hname hl hP hD hS
  have hx := hC.1.1
  have hb := hC.1.2.1
  have hml := hC.1.2.2.1
  have hown : s.vm.findClass RJ0 = some m.cls := hC.1.2.2.2.1
  have hts := hC.1.2.2.2.2
  have hK := hC.2.1
  have qq_161 := hts (Cond.fieldLink RJ0 1053 "jdk/internal/util/Preconditions" "SIOOBE_FORMATTER" "Ljava/util/function/BiFunction;") (List.mem_cons_of_mem _ wq_161)
  have hl : lv_has ls 2 [(0, .int (nI j)), (1, .int (nI N))] := hl
  have hP : va_P Z.1 vwCl [] s.heap := hP
  have hD : va_D A [] := hD
  refine lv_iload_n hx hb dJ0_checkIndex_df160_0 rfl (lv_at hl 0 rfl) ?_
  refine lv_iload_n hx hb dJ0_checkIndex_df160_1 rfl (lv_at hl 1 rfl) ?_
  rcases hC.2.2.2.2.2.2.2 with hzz | ⟨t, hzz⟩
  · refine va_gets hx hb hzz hS hown qq_161 (fun _ h9 => h9) dJ0_checkIndex_df160_2 ?_
    refine x_Si (y := yJ3_checkIndex_8e157) (As := [.int (nI j), .int (nI N), .null]) (wc := []) (wr := []) hC hP hD hS (c_pci_n l Z j N hj hN) (gS wq_165 wq_163 wq_164 wq_38) rfl ks_J3_checkIndex_8e157 ⟨rfl, rfl⟩ rfl hl.1 rfl ⟨Nat.le_of_ble_eq_true rfl, Nat.le_of_ble_eq_true rfl⟩ ([] : List Nat) ([] : List Nat) rfl rfl (by decide) (by decide) (by decide) rfl dJ0_checkIndex_df160_5 (fun r5 w1 H locs hw hP hD hS => ?_)
    obtain ⟨rfl, rfl⟩ := hw
    have hP : va_P Z.1 vwCl [] H := hP
    have hD : va_D A [] := hD
    refine lv_pop hx hb dJ0_checkIndex_df160_8 rfl ?_
    exact x_vret hC hr hk hP hD hS dJ0_checkIndex_df160_9 (rfl)
  · refine va_gets hx hb hzz hS hown qq_161 (fun _ h9 => h9) dJ0_checkIndex_df160_2 ?_
    refine x_Si (y := yJ3_checkIndex_8e157) (As := [.int (nI j), .int (nI N), .ref t]) (wc := []) (wr := []) hC hP hD hS (c_pci_r l Z j N hj hN t) (gS wq_165 wq_163 wq_164 wq_38) rfl ks_J3_checkIndex_8e157 ⟨rfl, rfl⟩ rfl hl.1 rfl ⟨Nat.le_of_ble_eq_true rfl, Nat.le_of_ble_eq_true rfl⟩ ([] : List Nat) ([] : List Nat) rfl rfl (by decide) (by decide) (by decide) rfl dJ0_checkIndex_df160_5 (fun r5 w1 H locs hw hP hD hS => ?_)
    obtain ⟨rfl, rfl⟩ := hw
    have hP : va_P Z.1 vwCl [] H := hP
    have hD : va_D A [] := hD
    refine lv_pop hx hb dJ0_checkIndex_df160_8 rfl ?_
    exact x_vret hC hr hk hP hD hS dJ0_checkIndex_df160_9 (rfl)

theorem ks_J0_checkIndex_df160 : yJ0_checkIndex_df160.cls ≠ "java/lang/invoke/MethodHandle" ∧ yJ0_checkIndex_df160.cls ≠ "java/lang/invoke/VarHandle" ∧ (parseMethodDescriptor yJ0_checkIndex_df160.desc).map (fun d => d.parameters.length) = some 2 := by decide +kernel
set_option maxHeartbeats 4000000 in
set_option maxRecDepth 100000 in
theorem c_lcharAt (l : Launch) (Z : xZ) (i : Nat) (hi : i < 7) (j : Nat) (hj : j < xTl.getD i 0) : xMi l Z yJ1_charAt_3b067 vJ1_charAt_3b067 ({ frames := 2, cells := 0, slots := 0, locals := 43 } : Room) [.ref (Z.2.1.2 i), .int (nI j)] [] (fun r w => r = nI (xby i j) ∧ w = []) := by
  refine x_i (by decide) rfl (Nat.le_of_ble_eq_true rfl) ?_
  intro p e s m args below meth c ls A hC hr hk hl hP hD hS
  have hx := hC.1.1
  have hb := hC.1.2.1
  have hml := hC.1.2.2.1
  have hown : s.vm.findClass RJ1 = some m.cls := hC.1.2.2.2.1
  have hts := hC.1.2.2.2.2
  have hK := hC.2.1
  have hl : lv_has ls 2 [(0, .ref (Z.2.1.2 i)), (1, .int (nI j))] := hl
  have hP : va_P Z.1 vwCl [] s.heap := hP
  have hD : va_D A [] := hD
  refine lv_iload_n hx hb dJ1_charAt_3b067_0 rfl (lv_at hl 1 rfl) ?_
  refine lv_aload_n hx hb dJ1_charAt_3b067_1 rfl (lv_at hl 0 rfl) ?_
  refine va_tlen (v := nI (xTl.getD i 0)) hx hb (hC.2.2.2.2.1.1 i hi).2.2.2 hS rfl dJ1_charAt_3b067_2 ?_
  refine x_Sv (y := yJ0_checkIndex_df160) (As := [.int (nI j), .int (nI (xTl.getD i 0))]) (wc := []) (wr := []) hC hP hD hS (c_sci l Z j (xTl.getD i 0) hj (by have := xTl_le i hi; omega)) (gS wq_160 wq_158 wq_159 wq_36) rfl ks_J0_checkIndex_df160 ⟨rfl, rfl⟩ rfl hl.1 rfl ⟨Nat.le_of_ble_eq_true rfl, Nat.le_of_ble_eq_true rfl⟩ ([] : List Nat) ([] : List Nat) rfl rfl (by decide) (by decide) (by decide) rfl dJ1_charAt_3b067_3 (fun w1 H locs hw hP hD hS => ?_)
  obtain rfl := hw
  have hP : va_P Z.1 vwCl [] H := hP
  have hD : va_D A [] := hD
  refine lv_aload_n hx hb dJ1_charAt_3b067_6 rfl (lv_at hl 0 rfl) ?_
  refine lv_iload_n hx hb dJ1_charAt_3b067_7 rfl (lv_at hl 1 rfl) ?_
  refine va_tb (v := .int (nI (xby i j))) hx hb (hC.2.2.2.2.1.1 i hi).2.2.2 hS (vp_in_nI (by omega) (by have := xTl_le i hi; omega)) (by rw [nI_clamp (by have := xTl_le i hi; omega), (xby_all i hi j (by omega)).1]) dJ1_charAt_3b067_8 ?_
  refine ln_sipush 255 hx hb dJ1_charAt_3b067_9 (by decide) ?_
  refine lv_iand hx hb dJ1_charAt_3b067_12 ?_
  refine ln_top (y := nI (xby i j)) (ch_and _ (xby_all i hi j hj).2) ?_
  refine lv_i2c (v := nI (xby i j)) hx hb dJ1_charAt_3b067_13 (ch_i2c _ (xby_all i hi j hj).2) ?_
  exact x_zret hC hr (ch_nar _ (xby_all i hi j hj).2) hk hP hD hS dJ1_charAt_3b067_14 ⟨rfl, rfl⟩

theorem kv_J0_isLatin1_aae02 : yJ0_isLatin1_aae02.cls = RJ0 ∧ yJ0_isLatin1_aae02.cls ≠ "java/lang/invoke/MethodHandle" ∧ yJ0_isLatin1_aae02.cls ≠ "java/lang/invoke/VarHandle" ∧ (parseMethodDescriptor yJ0_isLatin1_aae02.desc).map (fun d => d.parameters.length) = some 0 := by decide +kernel
theorem ks_J1_charAt_3b067 : yJ1_charAt_3b067.cls ≠ "java/lang/invoke/MethodHandle" ∧ yJ1_charAt_3b067.cls ≠ "java/lang/invoke/VarHandle" ∧ (parseMethodDescriptor yJ1_charAt_3b067.desc).map (fun d => d.parameters.length) = some 2 := by decide +kernel
set_option maxHeartbeats 4000000 in
set_option maxRecDepth 100000 in
theorem c_charAt (l : Launch) (Z : xZ) (i : Nat) (hi : i < 7) (j : Nat) (hj : j < xTl.getD i 0) : xMi l Z yJ0_charAt_5068e vJ0_charAt_5068e ({ frames := 3, cells := 0, slots := 0, locals := 64 } : Room) [.ref (Z.2.1.1 i), .int (nI j)] [] (fun r w => r = nI (xby i j) ∧ w = []) := by
  refine x_i (by decide) rfl (Nat.le_of_ble_eq_true rfl) ?_
  intro p e s m args below meth c ls A hC hr hk hl hP hD hS
  have hx := hC.1.1
  have hb := hC.1.2.1
  have hml := hC.1.2.2.1
  have hown : s.vm.findClass RJ0 = some m.cls := hC.1.2.2.2.1
  have hts := hC.1.2.2.2.2
  have hK := hC.2.1
  have qq_955 := hts (Cond.fieldLink RJ0 9 "java/lang/String" "value" "[B") (List.mem_cons_of_mem _ wq_955)
  have hl : lv_has ls 2 [(0, .ref (Z.2.1.1 i)), (1, .int (nI j))] := hl
  have hP : va_P Z.1 vwCl [] s.heap := hP
  have hD : va_D A [] := hD
  refine lv_aload_n hx hb dJ0_charAt_5068e_0 rfl (lv_at hl 0 rfl) ?_
  refine x_Ri (y := yJ0_isLatin1_aae02) (As := []) (wc := []) (wr := []) hC hP hD hS (c_isLatin1 l Z i hi) (gV wq_154 wq_151 wq_152 wq_153 wq_36) rfl kv_J0_isLatin1_aae02 (vk_recv hC.2.2.2.2.1 hi hS) ⟨rfl, rfl⟩ rfl hl.1 rfl ⟨Nat.le_of_ble_eq_true rfl, Nat.le_of_ble_eq_true rfl⟩ ([] : List Nat) ([] : List Nat) rfl rfl (by decide) (by decide) (by decide) rfl dJ0_charAt_5068e_1 (fun r1 w1 H locs hw hP hD hS => ?_)
  obtain ⟨rfl, rfl⟩ := hw
  have hP : va_P Z.1 vwCl [] H := hP
  have hD : va_D A [] := hD
  refine ln_if_eq (tgt := 16) hx hb dJ0_charAt_5068e_4 (by decide) (by omega) (fun h4 => False.elim (by omega)) (fun h4 => ?_)
  refine lv_aload_n hx hb dJ0_charAt_5068e_7 rfl (lv_at hl 0 rfl) ?_
  refine vk_getf hx hb (hC.2.2.2.2.1.1 i hi).2.2.1 hS hown qq_955 (fun _ h9 => h9) dJ0_charAt_5068e_8 ?_
  refine lv_iload_n hx hb dJ0_charAt_5068e_11 rfl (lv_at hl 1 rfl) ?_
  refine x_Si (y := yJ1_charAt_3b067) (As := [.ref (Z.2.1.2 i), .int (nI j)]) (wc := []) (wr := []) hC hP hD hS (c_lcharAt l Z i hi j hj) (gS wq_157 wq_155 wq_156 wq_37) rfl ks_J1_charAt_3b067 ⟨rfl, rfl⟩ rfl hl.1 rfl ⟨Nat.le_of_ble_eq_true rfl, Nat.le_of_ble_eq_true rfl⟩ ([] : List Nat) ([] : List Nat) rfl rfl (by decide) (by decide) (by decide) rfl dJ0_charAt_5068e_12 (fun r12 w1 H locs hw hP hD hS => ?_)
  obtain ⟨rfl, rfl⟩ := hw
  have hP : va_P Z.1 vwCl [] H := hP
  have hD : va_D A [] := hD
  exact x_zret hC hr (ch_nar _ (xby_all i hi j hj).2) hk hP hD hS dJ0_charAt_5068e_15 ⟨rfl, rfl⟩

set_option maxHeartbeats 4000000 in
set_option maxRecDepth 100000 in
theorem c_canEnc (l : Launch) (Z : xZ) (b : Nat) (hb2 : b < 128) : xMi l Z yJ1_canEncode_9a6ad vJ1_canEncode_9a6ad ({ frames := 0, cells := 0, slots := 0, locals := 0 } : Room) [.int (nI b)] [] (fun r w => r = nI 1 ∧ w = []) := by
  refine x_i (by decide) rfl (Nat.le_of_ble_eq_true rfl) ?_
  intro p e s m args below meth c ls A hC hr hk hl hP hD hS
  have hx := hC.1.1
  have hb := hC.1.2.1
  have hml := hC.1.2.2.1
  have hown : s.vm.findClass RJ1 = some m.cls := hC.1.2.2.2.1
  have hts := hC.1.2.2.2.2
  have hK := hC.2.1
  have hl : lv_has ls 1 [(0, .int (nI b))] := hl
  have hP : va_P Z.1 vwCl [] s.heap := hP
  have hD : va_D A [] := hD
  refine lv_iload_n hx hb dJ1_canEncode_9a6ad_0 rfl (lv_at hl 0 rfl) ?_
  refine ln_if_lt (tgt := 15) hx hb dJ1_canEncode_9a6ad_1 (by decide) (by omega) ?_
  refine lv_iload_n hx hb dJ1_canEncode_9a6ad_4 rfl (lv_at hl 0 rfl) ?_
  refine ln_sipush 255 hx hb dJ1_canEncode_9a6ad_5 (by decide) ?_
  refine ln_icmp_gt (tgt := 15) hx hb dJ1_canEncode_9a6ad_8 (by decide) (by omega) (by omega) (fun h8 => False.elim (by omega)) (fun h8 => ?_)
  refine ln_const 1 hx hb dJ1_canEncode_9a6ad_11 (by decide) ?_
  refine lv_goto (tgt := 16) hx hb dJ1_canEncode_9a6ad_12 (by decide) ?_
  exact x_zret hC hr rfl hk hP hD hS dJ1_canEncode_9a6ad_16 ⟨rfl, rfl⟩

set_option maxHeartbeats 4000000 in
set_option maxRecDepth 100000 in
theorem c_ioc (l : Launch) (Z : xZ) (b : Nat) (hb2 : b < 128) : xMi l Z yJ1_indexOfChar_4cfef vJ1_indexOfChar_4cfef ({ frames := 0, cells := 0, slots := 0, locals := 0 } : Room) [.ref (Z.2.1.2 0), .int (nI b), .int (nI 0), .int (nI 21)] [] (fun r w => r = xfv (xfn b 21 0) ∧ w = []) := by
  refine x_i (by decide) rfl (Nat.le_of_ble_eq_true rfl) ?_
  intro p e s m args below meth c ls A hC hr hk hl hP hD hS
  have hx := hC.1.1
  have hb := hC.1.2.1
  have hml := hC.1.2.2.1
  have hown : s.vm.findClass RJ1 = some m.cls := hC.1.2.2.2.1
  have hts := hC.1.2.2.2.2
  have hK := hC.2.1
  have hl : lv_has ls 6 [(0, .ref (Z.2.1.2 0)), (1, .int (nI b)), (2, .int (nI 0)), (3, .int (nI 21))] := hl
  have hP : va_P Z.1 vwCl [] s.heap := hP
  have hD : va_D A [] := hD
  refine lv_iload_n hx hb dJ1_indexOfChar_4cfef_0 rfl (lv_at hl 1 rfl) ?_
  refine lv_i2b (v := nI b) hx hb dJ1_indexOfChar_4cfef_1 (ch_i2b _ hb2) ?_
  refine lv_istore (lv' := [(4, .int (nI b)), (0, .ref (Z.2.1.2 0)), (1, .int (nI b)), (2, .int (nI 0)), (3, .int (nI 21))]) hx hb dJ1_indexOfChar_4cfef_2 hl (by decide) rfl (fun ls hl => ?_)
  refine lv_iload_n hx hb dJ1_indexOfChar_4cfef_4 rfl (lv_at hl 3 rfl) ?_
  refine lv_istore (lv' := [(5, .int (nI 0)), (4, .int (nI b)), (0, .ref (Z.2.1.2 0)), (1, .int (nI b)), (2, .int (nI 0)), (3, .int (nI 21))]) hx hb dJ1_indexOfChar_4cfef_5 hl (by decide) rfl (fun ls hl => ?_)
  have hloop7 : ∀ (nn : Nat) (j : Nat) (H : Heap) (locs : List Loc) (ls : Array Slot) (hj : j ≤ 21) (hf : xfn b 21 0 = xfn b (21 - j) j) (hmu : 21 - j < nn) (hP : va_P Z.1 vwCl [] H) (hD : va_D A []) (hS : va_S A s.heap H locs) (hl : lv_has ls 6 [(0, .ref (Z.2.1.2 0)), (1, .int (nI b)), (2, .int (nI 0)), (3, .int (nI 21)), (4, .int (nI b)), (5, .int (nI j))]), W p l e ({ frames := 0, cells := 0, slots := 0, locals := 0 } : Room) s m args below meth c H locs 0 0 (MQ below (va_Qi (fun r w => r = xfv (xfn b 21 0) ∧ w = []) (xB Z A) A) args s ({ frames := 0, cells := 0, slots := 0, locals := 0 } : Room).cells ({ frames := 0, cells := 0, slots := 0, locals := 0 } : Room).slots A) (F0 m 7 ls []) := by
    intro nn
    induction nn with
    | zero => intro j H locs ls hj hf hmu; exact absurd hmu (Nat.not_lt_zero _)
    | succ nn ih =>
      intro j H locs ls hj hf hmu hP hD hS hl
      refine lv_iload hx hb dJ1_indexOfChar_4cfef_7 (lv_at hl 5 rfl) ?_
      refine lv_iload_n hx hb dJ1_indexOfChar_4cfef_9 rfl (lv_at hl 3 rfl) ?_
      refine ln_icmp_ge (tgt := 31) hx hb dJ1_indexOfChar_4cfef_10 (by decide) (by omega) (by omega) (fun h10 => ?_) (fun h10 => ?_)
      · refine lv_iconst (v := (-1)) hx hb dJ1_indexOfChar_4cfef_31 (by decide) ?_
        exact x_iret hC hr hk hP hD hS dJ1_indexOfChar_4cfef_32 ⟨by rw [hf, show 21 - j = 0 by omega]; rfl, rfl⟩
      · refine lv_aload_n hx hb dJ1_indexOfChar_4cfef_13 rfl (lv_at hl 0 rfl) ?_
        refine lv_iload hx hb dJ1_indexOfChar_4cfef_14 (lv_at hl 5 rfl) ?_
        have hxb := xby_all 0 (by decide) j (show j < 21 by omega)
        refine va_tb (v := .int (nI (xby 0 j))) hx hb (hC.2.2.2.2.1.1 0 (by decide)).2.2.2 hS (vp_in_nI (show j < 21 by omega) (by decide)) (by rw [nI_clamp (by omega), hxb.1]) dJ1_indexOfChar_4cfef_16 ?_
        refine lv_iload hx hb dJ1_indexOfChar_4cfef_17 (lv_at hl 4 rfl) ?_
        refine ln_icmp_ne (tgt := 25) hx hb dJ1_indexOfChar_4cfef_19 (by decide) (by omega) (by omega) (fun h19 => ?_) (fun h19 => ?_)
        · refine ln_iinc (k0 := 5) (k := 1) (j + 1) (lv' := [(5, .int (nI (j + 1))), (0, .ref (Z.2.1.2 0)), (1, .int (nI b)), (2, .int (nI 0)), (3, .int (nI 21)), (4, .int (nI b))]) hx hb dJ1_indexOfChar_4cfef_25 hl rfl rfl (by first | rfl | omega) (by decide) rfl (fun ls hl => ?_)
          refine lv_goto (tgt := 7) hx hb dJ1_indexOfChar_4cfef_28 (by decide) ?_
          exact ih  (j + 1) _ _ _ (by omega) (by rw [hf, show 21 - j = (21 - (j + 1)) + 1 by omega]; show (if xby 0 j = b then j else xfn b (21 - (j + 1)) (j + 1)) = _; rw [if_neg h19]) (by omega) hP hD hS (lv_sub hl [1, 2, 3, 4, 5, 0] rfl)
        · refine lv_iload hx hb dJ1_indexOfChar_4cfef_22 (lv_at hl 5 rfl) ?_
          exact x_iret hC hr hk hP hD hS dJ1_indexOfChar_4cfef_24 ⟨by rw [hf, show 21 - j = (21 - (j + 1)) + 1 by omega]; show _ = xfv (if xby 0 j = b then j else xfn b (21 - (j + 1)) (j + 1)); rw [if_pos h19]; unfold xfv; rw [if_neg (by omega)], rfl⟩
  exact hloop7 ((21 - 0) + 1) 0 _ _ _ (Nat.zero_le _) rfl (Nat.lt_succ_self _) hP hD hS (lv_sub hl [2, 3, 4, 5, 1, 0] rfl)

theorem ks_J1_canEncode_9a6ad : yJ1_canEncode_9a6ad.cls ≠ "java/lang/invoke/MethodHandle" ∧ yJ1_canEncode_9a6ad.cls ≠ "java/lang/invoke/VarHandle" ∧ (parseMethodDescriptor yJ1_canEncode_9a6ad.desc).map (fun d => d.parameters.length) = some 1 := by decide +kernel
theorem ks_J1_indexOfChar_4cfef : yJ1_indexOfChar_4cfef.cls ≠ "java/lang/invoke/MethodHandle" ∧ yJ1_indexOfChar_4cfef.cls ≠ "java/lang/invoke/VarHandle" ∧ (parseMethodDescriptor yJ1_indexOfChar_4cfef.desc).map (fun d => d.parameters.length) = some 4 := by decide +kernel
set_option maxHeartbeats 4000000 in
set_option maxRecDepth 100000 in
theorem c_lio (l : Launch) (Z : xZ) (b : Nat) (hb2 : b < 128) : xMi l Z yJ1_indexOf_4cfef vJ1_indexOf_4cfef ({ frames := 1, cells := 0, slots := 0, locals := 25 } : Room) [.ref (Z.2.1.2 0), .int (nI b), .int (nI 0), .int (nI 21)] [] (fun r w => r = xfv (xfn b 21 0) ∧ w = []) := by
  refine x_i (by decide) rfl (Nat.le_of_ble_eq_true rfl) ?_
  intro p e s m args below meth c ls A hC hr hk hl hP hD hS
  have hx := hC.1.1
  have hb := hC.1.2.1
  have hml := hC.1.2.2.1
  have hown : s.vm.findClass RJ1 = some m.cls := hC.1.2.2.2.1
  have hts := hC.1.2.2.2.2
  have hK := hC.2.1
  have qq_201 := hts (Cond.methodLink RJ1 92 Lib.Math.max.name) (List.mem_cons_of_mem _ wq_201)
  have qq_202 := hts (Cond.static Lib.Math.max.name) (List.mem_cons_of_mem _ wq_202)
  have qq_40 := hts (Cond.initialized "java/lang/Math") (List.mem_cons_of_mem _ wq_40)
  have qq_203 := hts (Cond.code Lib.Math.max.name Lib.Math.max.code 2 (some .int)) (List.mem_cons_of_mem _ wq_203)
  have qq_204 := hts (Cond.methodLink RJ1 38 Lib.Math.min.name) (List.mem_cons_of_mem _ wq_204)
  have qq_205 := hts (Cond.static Lib.Math.min.name) (List.mem_cons_of_mem _ wq_205)
  have qq_206 := hts (Cond.code Lib.Math.min.name Lib.Math.min.code 2 (some .int)) (List.mem_cons_of_mem _ wq_206)
  have hl : lv_has ls 4 [(0, .ref (Z.2.1.2 0)), (1, .int (nI b)), (2, .int (nI 0)), (3, .int (nI 21))] := hl
  have hP : va_P Z.1 vwCl [] s.heap := hP
  have hD : va_D A [] := hD
  refine lv_iload_n hx hb dJ1_indexOf_4cfef_0 rfl (lv_at hl 1 rfl) ?_
  refine x_Si (y := yJ1_canEncode_9a6ad) (As := [.int (nI b)]) (wc := []) (wr := []) hC hP hD hS (c_canEnc l Z b hb2) (gS wq_200 wq_198 wq_199 wq_37) rfl ks_J1_canEncode_9a6ad ⟨rfl, rfl⟩ rfl hl.1 rfl ⟨Nat.le_of_ble_eq_true rfl, Nat.le_of_ble_eq_true rfl⟩ ([] : List Nat) ([] : List Nat) rfl rfl (by decide) (by decide) (by decide) rfl dJ1_indexOf_4cfef_1 (fun r1 w1 H locs hw hP hD hS => ?_)
  obtain ⟨rfl, rfl⟩ := hw
  have hP : va_P Z.1 vwCl [] H := hP
  have hD : va_D A [] := hD
  refine ln_if_ne (tgt := 9) hx hb dJ1_indexOf_4cfef_4 (by decide) (by omega) (fun h4 => ?_) (fun h4 => False.elim (by omega))
  refine lv_iload_n hx hb dJ1_indexOf_4cfef_9 rfl (lv_at hl 2 rfl) ?_
  refine ln_const 0 hx hb dJ1_indexOf_4cfef_10 (by decide) ?_
  refine va_mmax hx hb (by rw [hml]; exact hl.1.symm) hown qq_201 qq_202 qq_40 qq_203 (Nat.le_of_ble_eq_true rfl) (Nat.le_of_ble_eq_true rfl) (Nat.le_of_ble_eq_true rfl) (Nat.le_of_ble_eq_true rfl) dJ1_indexOf_4cfef_11 ?_
  refine ln_top (y := nI 0) (by decide) ?_
  refine lv_istore_n (lv' := [(2, .int (nI 0)), (0, .ref (Z.2.1.2 0)), (1, .int (nI b)), (3, .int (nI 21))]) hx hb dJ1_indexOf_4cfef_14 rfl hl (by decide) rfl (fun ls hl => ?_)
  refine lv_iload_n hx hb dJ1_indexOf_4cfef_15 rfl (lv_at hl 3 rfl) ?_
  refine lv_aload_n hx hb dJ1_indexOf_4cfef_16 rfl (lv_at hl 1 rfl) ?_
  refine va_tlen (v := nI 21) hx hb (hC.2.2.2.2.1.1 0 (by decide)).2.2.2 hS rfl dJ1_indexOf_4cfef_17 ?_
  refine va_mmin hx hb (by rw [hml]; exact hl.1.symm) hown qq_204 qq_205 qq_40 qq_206 (Nat.le_of_ble_eq_true rfl) (Nat.le_of_ble_eq_true rfl) (Nat.le_of_ble_eq_true rfl) (Nat.le_of_ble_eq_true rfl) dJ1_indexOf_4cfef_18 ?_
  refine ln_top (y := nI 21) (by decide) ?_
  refine lv_istore_n (lv' := [(3, .int (nI 21)), (2, .int (nI 0)), (0, .ref (Z.2.1.2 0)), (1, .int (nI b))]) hx hb dJ1_indexOf_4cfef_21 rfl hl (by decide) rfl (fun ls hl => ?_)
  refine lv_iload_n hx hb dJ1_indexOf_4cfef_22 rfl (lv_at hl 1 rfl) ?_
  refine lv_iload_n hx hb dJ1_indexOf_4cfef_23 rfl (lv_at hl 0 rfl) ?_
  refine ln_icmp_lt (tgt := 29) hx hb dJ1_indexOf_4cfef_24 (by decide) (by omega) (by omega) (fun h24 => ?_) (fun h24 => False.elim (by omega))
  refine lv_aload_n hx hb dJ1_indexOf_4cfef_29 rfl (lv_at hl 2 rfl) ?_
  refine lv_iload_n hx hb dJ1_indexOf_4cfef_30 rfl (lv_at hl 3 rfl) ?_
  refine lv_iload_n hx hb dJ1_indexOf_4cfef_31 rfl (lv_at hl 1 rfl) ?_
  refine lv_iload_n hx hb dJ1_indexOf_4cfef_32 rfl (lv_at hl 0 rfl) ?_
  refine x_Si (y := yJ1_indexOfChar_4cfef) (As := [.ref (Z.2.1.2 0), .int (nI b), .int (nI 0), .int (nI 21)]) (wc := []) (wr := []) hC hP hD hS (c_ioc l Z b hb2) (gS wq_209 wq_207 wq_208 wq_37) rfl ks_J1_indexOfChar_4cfef ⟨rfl, rfl⟩ rfl hl.1 rfl ⟨Nat.le_of_ble_eq_true rfl, Nat.le_of_ble_eq_true rfl⟩ ([] : List Nat) ([] : List Nat) rfl rfl (by decide) (by decide) (by decide) rfl dJ1_indexOf_4cfef_33 (fun r33 w1 H locs hw hP hD hS => ?_)
  obtain ⟨rfl, rfl⟩ := hw
  have hP : va_P Z.1 vwCl [] H := hP
  have hD : va_D A [] := hD
  exact x_iret hC hr hk hP hD hS dJ1_indexOf_4cfef_36 ⟨rfl, rfl⟩

theorem kv_J0_length_8abf5 : yJ0_length_8abf5.cls = RJ0 ∧ yJ0_length_8abf5.cls ≠ "java/lang/invoke/MethodHandle" ∧ yJ0_length_8abf5.cls ≠ "java/lang/invoke/VarHandle" ∧ (parseMethodDescriptor yJ0_length_8abf5.desc).map (fun d => d.parameters.length) = some 0 := by decide +kernel
theorem ks_J1_indexOf_4cfef : yJ1_indexOf_4cfef.cls ≠ "java/lang/invoke/MethodHandle" ∧ yJ1_indexOf_4cfef.cls ≠ "java/lang/invoke/VarHandle" ∧ (parseMethodDescriptor yJ1_indexOf_4cfef.desc).map (fun d => d.parameters.length) = some 4 := by decide +kernel
set_option maxHeartbeats 4000000 in
set_option maxRecDepth 100000 in
theorem c_io2 (l : Launch) (Z : xZ) (b : Nat) (hb2 : b < 128) : xMi l Z yJ0_indexOf_7cf53 vJ0_indexOf_7cf53 ({ frames := 2, cells := 0, slots := 0, locals := 48 } : Room) [.ref (Z.2.1.1 0), .int (nI b), .int (nI 0)] [] (fun r w => r = xfv (xfn b 21 0) ∧ w = []) := by
  refine x_i (by decide) rfl (Nat.le_of_ble_eq_true rfl) ?_
  intro p e s m args below meth c ls A hC hr hk hl hP hD hS
  have hx := hC.1.1
  have hb := hC.1.2.1
  have hml := hC.1.2.2.1
  have hown : s.vm.findClass RJ0 = some m.cls := hC.1.2.2.2.1
  have hts := hC.1.2.2.2.2
  have hK := hC.2.1
  have qq_955 := hts (Cond.fieldLink RJ0 9 "java/lang/String" "value" "[B") (List.mem_cons_of_mem _ wq_955)
  have hl : lv_has ls 3 [(0, .ref (Z.2.1.1 0)), (1, .int (nI b)), (2, .int (nI 0))] := hl
  have hP : va_P Z.1 vwCl [] s.heap := hP
  have hD : va_D A [] := hD
  refine lv_aload_n hx hb dJ0_indexOf_7cf53_0 rfl (lv_at hl 0 rfl) ?_
  refine x_Ri (y := yJ0_isLatin1_aae02) (As := []) (wc := []) (wr := []) hC hP hD hS (c_isLatin1 l Z 0 (by decide)) (gV wq_154 wq_151 wq_152 wq_153 wq_36) rfl kv_J0_isLatin1_aae02 (vk_recv hC.2.2.2.2.1 (show 0 < 7 by decide) hS) ⟨rfl, rfl⟩ rfl hl.1 rfl ⟨Nat.le_of_ble_eq_true rfl, Nat.le_of_ble_eq_true rfl⟩ ([] : List Nat) ([] : List Nat) rfl rfl (by decide) (by decide) (by decide) rfl dJ0_indexOf_7cf53_1 (fun r1 w1 H locs hw hP hD hS => ?_)
  obtain ⟨rfl, rfl⟩ := hw
  have hP : va_P Z.1 vwCl [] H := hP
  have hD : va_D A [] := hD
  refine ln_if_eq (tgt := 23) hx hb dJ0_indexOf_7cf53_4 (by decide) (by omega) (fun h4 => False.elim (by omega)) (fun h4 => ?_)
  refine lv_aload_n hx hb dJ0_indexOf_7cf53_7 rfl (lv_at hl 0 rfl) ?_
  refine vk_getf hx hb (hC.2.2.2.2.1.1 0 (by decide)).2.2.1 hS hown qq_955 (fun _ h9 => h9) dJ0_indexOf_7cf53_8 ?_
  refine lv_iload_n hx hb dJ0_indexOf_7cf53_11 rfl (lv_at hl 1 rfl) ?_
  refine lv_iload_n hx hb dJ0_indexOf_7cf53_12 rfl (lv_at hl 2 rfl) ?_
  refine lv_aload_n hx hb dJ0_indexOf_7cf53_13 rfl (lv_at hl 0 rfl) ?_
  refine x_Ri (y := yJ0_length_8abf5) (As := []) (wc := []) (wr := []) hC hP hD hS (c_slen l Z 0 (by decide)) (gV wq_140 wq_194 wq_138 wq_139 wq_36) rfl kv_J0_length_8abf5 (vk_recv hC.2.2.2.2.1 (show 0 < 7 by decide) hS) ⟨rfl, rfl⟩ rfl hl.1 rfl ⟨Nat.le_of_ble_eq_true rfl, Nat.le_of_ble_eq_true rfl⟩ ([] : List Nat) ([] : List Nat) rfl rfl (by decide) (by decide) (by decide) rfl dJ0_indexOf_7cf53_14 (fun r14 w1 H locs hw hP hD hS => ?_)
  obtain ⟨rfl, rfl⟩ := hw
  have hP : va_P Z.1 vwCl [] H := hP
  have hD : va_D A [] := hD
  refine x_Si (y := yJ1_indexOf_4cfef) (As := [.ref (Z.2.1.2 0), .int (nI b), .int (nI 0), .int (nI 21)]) (wc := []) (wr := []) hC hP hD hS (c_lio l Z b hb2) (gS wq_197 wq_195 wq_196 wq_37) rfl ks_J1_indexOf_4cfef ⟨rfl, rfl⟩ rfl hl.1 rfl ⟨Nat.le_of_ble_eq_true rfl, Nat.le_of_ble_eq_true rfl⟩ ([] : List Nat) ([] : List Nat) rfl rfl (by decide) (by decide) (by decide) rfl dJ0_indexOf_7cf53_17 (fun r17 w1 H locs hw hP hD hS => ?_)
  obtain ⟨rfl, rfl⟩ := hw
  have hP : va_P Z.1 vwCl [] H := hP
  have hD : va_D A [] := hD
  refine lv_goto (tgt := 36) hx hb dJ0_indexOf_7cf53_20 (by decide) ?_
  exact x_iret hC hr hk hP hD hS dJ0_indexOf_7cf53_36 ⟨rfl, rfl⟩

theorem kv_J0_indexOf_7cf53 : yJ0_indexOf_7cf53.cls = RJ0 ∧ yJ0_indexOf_7cf53.cls ≠ "java/lang/invoke/MethodHandle" ∧ yJ0_indexOf_7cf53.cls ≠ "java/lang/invoke/VarHandle" ∧ (parseMethodDescriptor yJ0_indexOf_7cf53.desc).map (fun d => d.parameters.length) = some 2 := by decide +kernel
set_option maxHeartbeats 4000000 in
set_option maxRecDepth 100000 in
theorem c_io1 (l : Launch) (Z : xZ) (b : Nat) (hb2 : b < 128) : xMi l Z yJ0_indexOf_0f7a4 vJ0_indexOf_0f7a4 ({ frames := 3, cells := 0, slots := 0, locals := 70 } : Room) [.ref (Z.2.1.1 0), .int (nI b)] [] (fun r w => r = xfv (xfn b 21 0) ∧ w = []) := by
  refine x_i (by decide) rfl (Nat.le_of_ble_eq_true rfl) ?_
  intro p e s m args below meth c ls A hC hr hk hl hP hD hS
  have hx := hC.1.1
  have hb := hC.1.2.1
  have hml := hC.1.2.2.1
  have hown : s.vm.findClass RJ0 = some m.cls := hC.1.2.2.2.1
  have hts := hC.1.2.2.2.2
  have hK := hC.2.1
  have hl : lv_has ls 2 [(0, .ref (Z.2.1.1 0)), (1, .int (nI b))] := hl
  have hP : va_P Z.1 vwCl [] s.heap := hP
  have hD : va_D A [] := hD
  refine lv_aload_n hx hb dJ0_indexOf_0f7a4_0 rfl (lv_at hl 0 rfl) ?_
  refine lv_iload_n hx hb dJ0_indexOf_0f7a4_1 rfl (lv_at hl 1 rfl) ?_
  refine ln_const 0 hx hb dJ0_indexOf_0f7a4_2 (by decide) ?_
  refine x_Ri (y := yJ0_indexOf_7cf53) (As := [.int (nI b), .int (nI 0)]) (wc := []) (wr := []) hC hP hD hS (c_io2 l Z b hb2) (gV wq_193 wq_190 wq_191 wq_192 wq_36) rfl kv_J0_indexOf_7cf53 (vk_recv hC.2.2.2.2.1 (show 0 < 7 by decide) hS) ⟨rfl, rfl⟩ rfl hl.1 rfl ⟨Nat.le_of_ble_eq_true rfl, Nat.le_of_ble_eq_true rfl⟩ ([] : List Nat) ([] : List Nat) rfl rfl (by decide) (by decide) (by decide) rfl dJ0_indexOf_0f7a4_3 (fun r3 w1 H locs hw hP hD hS => ?_)
  obtain ⟨rfl, rfl⟩ := hw
  have hP : va_P Z.1 vwCl [] H := hP
  have hD : va_D A [] := hD
  exact x_iret hC hr hk hP hD hS dJ0_indexOf_0f7a4_6 ⟨rfl, rfl⟩
