/-- what the Statement gives of the start, in a row -/
def fAll : List Cond := flatC (Jvm.Cond.and given_1 narrow_1)
abbrev tmS (i : Nat) : Term := Term.string RX4 (xTk.getD i 0)
theorem fm {q : Cond} (k : Nat) (h : fAll[k]? = some q) : q ∈ fAll := List.mem_of_getElem? h
theorem fx_ex : ∀ i, i < 7 → Cond.exactly (tmS i) "java/lang/String" ∈ fAll := by
  intro i hi
  match i, hi with
  | 0, _ => exact fm 22 rfl
  | 1, _ => exact fm 9 rfl
  | 2, _ => exact fm 48 rfl
  | 3, _ => exact fm 73 rfl
  | 4, _ => exact fm 148 rfl
  | 5, _ => exact fm 234 rfl
  | 6, _ => exact fm 247 rfl
  | k + 7, h => exact absurd h (by omega)
theorem fx_co : ∀ i, i < 7 → Cond.eq (.field (tmS i) "java/lang/String" "coder" "B") (.int 0) ∈ fAll := by
  intro i hi
  match i, hi with
  | 0, _ => exact fm 23 rfl
  | 1, _ => exact fm 10 rfl
  | 2, _ => exact fm 49 rfl
  | 3, _ => exact fm 74 rfl
  | 4, _ => exact fm 149 rfl
  | 5, _ => exact fm 235 rfl
  | 6, _ => exact fm 248 rfl
  | k + 7, h => exact absurd h (by omega)
theorem fx_ar : ∀ i, i < 7 → Cond.arrayOf (.field (tmS i) "java/lang/String" "value" "[B") .byte ∈ fAll := by
  intro i hi
  match i, hi with
  | 0, _ => exact fm 24 rfl
  | 1, _ => exact fm 11 rfl
  | 2, _ => exact fm 50 rfl
  | 3, _ => exact fm 75 rfl
  | 4, _ => exact fm 150 rfl
  | 5, _ => exact fm 236 rfl
  | 6, _ => exact fm 249 rfl
  | k + 7, h => exact absurd h (by omega)
theorem fx_le : ∀ i, i < 7 → Cond.eq (.length (.field (tmS i) "java/lang/String" "value" "[B")) (.int (Int32.ofNat (xTl.getD i 0))) ∈ fAll := by
  intro i hi
  match i, hi with
  | 0, _ => exact fm 25 rfl
  | 1, _ => exact fm 12 rfl
  | 2, _ => exact fm 51 rfl
  | 3, _ => exact fm 76 rfl
  | 4, _ => exact fm 151 rfl
  | 5, _ => exact fm 237 rfl
  | 6, _ => exact fm 250 rfl
  | k + 7, h => exact absurd h (by omega)
theorem fx_el0 : ∀ j, j < 21 → Cond.eq (.elem (.field (tmS 0) "java/lang/String" "value" "[B") (.int (Int32.ofNat j))) (.int ((xTi.getD 0 []).getD j 0)) ∈ fAll := by
  intro j hj
  match j, hj with
  | 0, _ => exact fm 26 rfl
  | 1, _ => exact fm 27 rfl
  | 2, _ => exact fm 28 rfl
  | 3, _ => exact fm 29 rfl
  | 4, _ => exact fm 30 rfl
  | 5, _ => exact fm 31 rfl
  | 6, _ => exact fm 32 rfl
  | 7, _ => exact fm 33 rfl
  | 8, _ => exact fm 34 rfl
  | 9, _ => exact fm 35 rfl
  | 10, _ => exact fm 36 rfl
  | 11, _ => exact fm 37 rfl
  | 12, _ => exact fm 38 rfl
  | 13, _ => exact fm 39 rfl
  | 14, _ => exact fm 40 rfl
  | 15, _ => exact fm 41 rfl
  | 16, _ => exact fm 42 rfl
  | 17, _ => exact fm 43 rfl
  | 18, _ => exact fm 44 rfl
  | 19, _ => exact fm 45 rfl
  | 20, _ => exact fm 46 rfl
  | k + 21, h => exact absurd h (by omega)
theorem fx_el1 : ∀ j, j < 9 → Cond.eq (.elem (.field (tmS 1) "java/lang/String" "value" "[B") (.int (Int32.ofNat j))) (.int ((xTi.getD 1 []).getD j 0)) ∈ fAll := by
  intro j hj
  match j, hj with
  | 0, _ => exact fm 13 rfl
  | 1, _ => exact fm 14 rfl
  | 2, _ => exact fm 15 rfl
  | 3, _ => exact fm 16 rfl
  | 4, _ => exact fm 17 rfl
  | 5, _ => exact fm 18 rfl
  | 6, _ => exact fm 19 rfl
  | 7, _ => exact fm 20 rfl
  | 8, _ => exact fm 21 rfl
  | k + 9, h => exact absurd h (by omega)
theorem fx_el2 : ∀ j, j < 19 → Cond.eq (.elem (.field (tmS 2) "java/lang/String" "value" "[B") (.int (Int32.ofNat j))) (.int ((xTi.getD 2 []).getD j 0)) ∈ fAll := by
  intro j hj
  match j, hj with
  | 0, _ => exact fm 52 rfl
  | 1, _ => exact fm 53 rfl
  | 2, _ => exact fm 54 rfl
  | 3, _ => exact fm 55 rfl
  | 4, _ => exact fm 56 rfl
  | 5, _ => exact fm 57 rfl
  | 6, _ => exact fm 58 rfl
  | 7, _ => exact fm 59 rfl
  | 8, _ => exact fm 60 rfl
  | 9, _ => exact fm 61 rfl
  | 10, _ => exact fm 62 rfl
  | 11, _ => exact fm 63 rfl
  | 12, _ => exact fm 64 rfl
  | 13, _ => exact fm 65 rfl
  | 14, _ => exact fm 66 rfl
  | 15, _ => exact fm 67 rfl
  | 16, _ => exact fm 68 rfl
  | 17, _ => exact fm 69 rfl
  | 18, _ => exact fm 70 rfl
  | k + 19, h => exact absurd h (by omega)
theorem fx_el3 : ∀ j, j < 68 → Cond.eq (.elem (.field (tmS 3) "java/lang/String" "value" "[B") (.int (Int32.ofNat j))) (.int ((xTi.getD 3 []).getD j 0)) ∈ fAll := by
  intro j hj
  match j, hj with
  | 0, _ => exact fm 77 rfl
  | 1, _ => exact fm 78 rfl
  | 2, _ => exact fm 79 rfl
  | 3, _ => exact fm 80 rfl
  | 4, _ => exact fm 81 rfl
  | 5, _ => exact fm 82 rfl
  | 6, _ => exact fm 83 rfl
  | 7, _ => exact fm 84 rfl
  | 8, _ => exact fm 85 rfl
  | 9, _ => exact fm 86 rfl
  | 10, _ => exact fm 87 rfl
  | 11, _ => exact fm 88 rfl
  | 12, _ => exact fm 89 rfl
  | 13, _ => exact fm 90 rfl
  | 14, _ => exact fm 91 rfl
  | 15, _ => exact fm 92 rfl
  | 16, _ => exact fm 93 rfl
  | 17, _ => exact fm 94 rfl
  | 18, _ => exact fm 95 rfl
  | 19, _ => exact fm 96 rfl
  | 20, _ => exact fm 97 rfl
  | 21, _ => exact fm 98 rfl
  | 22, _ => exact fm 99 rfl
  | 23, _ => exact fm 100 rfl
  | 24, _ => exact fm 101 rfl
  | 25, _ => exact fm 102 rfl
  | 26, _ => exact fm 103 rfl
  | 27, _ => exact fm 104 rfl
  | 28, _ => exact fm 105 rfl
  | 29, _ => exact fm 106 rfl
  | 30, _ => exact fm 107 rfl
  | 31, _ => exact fm 108 rfl
  | 32, _ => exact fm 109 rfl
  | 33, _ => exact fm 110 rfl
  | 34, _ => exact fm 111 rfl
  | 35, _ => exact fm 112 rfl
  | 36, _ => exact fm 113 rfl
  | 37, _ => exact fm 114 rfl
  | 38, _ => exact fm 115 rfl
  | 39, _ => exact fm 116 rfl
  | 40, _ => exact fm 117 rfl
  | 41, _ => exact fm 118 rfl
  | 42, _ => exact fm 119 rfl
  | 43, _ => exact fm 120 rfl
  | 44, _ => exact fm 121 rfl
  | 45, _ => exact fm 122 rfl
  | 46, _ => exact fm 123 rfl
  | 47, _ => exact fm 124 rfl
  | 48, _ => exact fm 125 rfl
  | 49, _ => exact fm 126 rfl
  | 50, _ => exact fm 127 rfl
  | 51, _ => exact fm 128 rfl
  | 52, _ => exact fm 129 rfl
  | 53, _ => exact fm 130 rfl
  | 54, _ => exact fm 131 rfl
  | 55, _ => exact fm 132 rfl
  | 56, _ => exact fm 133 rfl
  | 57, _ => exact fm 134 rfl
  | 58, _ => exact fm 135 rfl
  | 59, _ => exact fm 136 rfl
  | 60, _ => exact fm 137 rfl
  | 61, _ => exact fm 138 rfl
  | 62, _ => exact fm 139 rfl
  | 63, _ => exact fm 140 rfl
  | 64, _ => exact fm 141 rfl
  | 65, _ => exact fm 142 rfl
  | 66, _ => exact fm 143 rfl
  | 67, _ => exact fm 144 rfl
  | k + 68, h => exact absurd h (by omega)
theorem fx_el4 : ∀ j, j < 78 → Cond.eq (.elem (.field (tmS 4) "java/lang/String" "value" "[B") (.int (Int32.ofNat j))) (.int ((xTi.getD 4 []).getD j 0)) ∈ fAll := by
  intro j hj
  match j, hj with
  | 0, _ => exact fm 152 rfl
  | 1, _ => exact fm 153 rfl
  | 2, _ => exact fm 154 rfl
  | 3, _ => exact fm 155 rfl
  | 4, _ => exact fm 156 rfl
  | 5, _ => exact fm 157 rfl
  | 6, _ => exact fm 158 rfl
  | 7, _ => exact fm 159 rfl
  | 8, _ => exact fm 160 rfl
  | 9, _ => exact fm 161 rfl
  | 10, _ => exact fm 162 rfl
  | 11, _ => exact fm 163 rfl
  | 12, _ => exact fm 164 rfl
  | 13, _ => exact fm 165 rfl
  | 14, _ => exact fm 166 rfl
  | 15, _ => exact fm 167 rfl
  | 16, _ => exact fm 168 rfl
  | 17, _ => exact fm 169 rfl
  | 18, _ => exact fm 170 rfl
  | 19, _ => exact fm 171 rfl
  | 20, _ => exact fm 172 rfl
  | 21, _ => exact fm 173 rfl
  | 22, _ => exact fm 174 rfl
  | 23, _ => exact fm 175 rfl
  | 24, _ => exact fm 176 rfl
  | 25, _ => exact fm 177 rfl
  | 26, _ => exact fm 178 rfl
  | 27, _ => exact fm 179 rfl
  | 28, _ => exact fm 180 rfl
  | 29, _ => exact fm 181 rfl
  | 30, _ => exact fm 182 rfl
  | 31, _ => exact fm 183 rfl
  | 32, _ => exact fm 184 rfl
  | 33, _ => exact fm 185 rfl
  | 34, _ => exact fm 186 rfl
  | 35, _ => exact fm 187 rfl
  | 36, _ => exact fm 188 rfl
  | 37, _ => exact fm 189 rfl
  | 38, _ => exact fm 190 rfl
  | 39, _ => exact fm 191 rfl
  | 40, _ => exact fm 192 rfl
  | 41, _ => exact fm 193 rfl
  | 42, _ => exact fm 194 rfl
  | 43, _ => exact fm 195 rfl
  | 44, _ => exact fm 196 rfl
  | 45, _ => exact fm 197 rfl
  | 46, _ => exact fm 198 rfl
  | 47, _ => exact fm 199 rfl
  | 48, _ => exact fm 200 rfl
  | 49, _ => exact fm 201 rfl
  | 50, _ => exact fm 202 rfl
  | 51, _ => exact fm 203 rfl
  | 52, _ => exact fm 204 rfl
  | 53, _ => exact fm 205 rfl
  | 54, _ => exact fm 206 rfl
  | 55, _ => exact fm 207 rfl
  | 56, _ => exact fm 208 rfl
  | 57, _ => exact fm 209 rfl
  | 58, _ => exact fm 210 rfl
  | 59, _ => exact fm 211 rfl
  | 60, _ => exact fm 212 rfl
  | 61, _ => exact fm 213 rfl
  | 62, _ => exact fm 214 rfl
  | 63, _ => exact fm 215 rfl
  | 64, _ => exact fm 216 rfl
  | 65, _ => exact fm 217 rfl
  | 66, _ => exact fm 218 rfl
  | 67, _ => exact fm 219 rfl
  | 68, _ => exact fm 220 rfl
  | 69, _ => exact fm 221 rfl
  | 70, _ => exact fm 222 rfl
  | 71, _ => exact fm 223 rfl
  | 72, _ => exact fm 224 rfl
  | 73, _ => exact fm 225 rfl
  | 74, _ => exact fm 226 rfl
  | 75, _ => exact fm 227 rfl
  | 76, _ => exact fm 228 rfl
  | 77, _ => exact fm 229 rfl
  | k + 78, h => exact absurd h (by omega)
theorem fx_el5 : ∀ j, j < 4 → Cond.eq (.elem (.field (tmS 5) "java/lang/String" "value" "[B") (.int (Int32.ofNat j))) (.int ((xTi.getD 5 []).getD j 0)) ∈ fAll := by
  intro j hj
  match j, hj with
  | 0, _ => exact fm 238 rfl
  | 1, _ => exact fm 239 rfl
  | 2, _ => exact fm 240 rfl
  | 3, _ => exact fm 241 rfl
  | k + 4, h => exact absurd h (by omega)
theorem fx_el6 : ∀ j, j < 4 → Cond.eq (.elem (.field (tmS 6) "java/lang/String" "value" "[B") (.int (Int32.ofNat j))) (.int ((xTi.getD 6 []).getD j 0)) ∈ fAll := by
  intro j hj
  match j, hj with
  | 0, _ => exact fm 251 rfl
  | 1, _ => exact fm 252 rfl
  | 2, _ => exact fm 253 rfl
  | 3, _ => exact fm 254 rfl
  | k + 4, h => exact absurd h (by omega)
theorem fx_el : ∀ i, i < 7 → ∀ j, j < xTl.getD i 0 → Cond.eq (.elem (.field (tmS i) "java/lang/String" "value" "[B") (.int (Int32.ofNat j))) (.int ((xTi.getD i []).getD j 0)) ∈ fAll := by
  intro i hi
  match i, hi with
  | 0, _ => exact fx_el0
  | 1, _ => exact fx_el1
  | 2, _ => exact fx_el2
  | 3, _ => exact fx_el3
  | 4, _ => exact fx_el4
  | 5, _ => exact fx_el5
  | 6, _ => exact fx_el6
  | k + 7, h => exact absurd h (by omega)
theorem fx_ne : ∀ i j, i < 7 → j < 7 → i ≠ j → Cond.not (Cond.eq (tmS i) (tmS j)) ∈ fAll ∨ Cond.not (Cond.eq (tmS j) (tmS i)) ∈ fAll := by
  intro i j hi hj hn
  match i, hi, j, hj with
  | 0, _, 0, _ => exact absurd rfl hn
  | 0, _, 1, _ => exact Or.inr (fm 47 rfl)
  | 0, _, 2, _ => exact Or.inl (fm 72 rfl)
  | 0, _, 3, _ => exact Or.inl (fm 146 rfl)
  | 0, _, 4, _ => exact Or.inl (fm 231 rfl)
  | 0, _, 5, _ => exact Or.inl (fm 243 rfl)
  | 0, _, 6, _ => exact Or.inl (fm 256 rfl)
  | 1, _, 0, _ => exact Or.inl (fm 47 rfl)
  | 1, _, 1, _ => exact absurd rfl hn
  | 1, _, 2, _ => exact Or.inl (fm 71 rfl)
  | 1, _, 3, _ => exact Or.inl (fm 145 rfl)
  | 1, _, 4, _ => exact Or.inl (fm 230 rfl)
  | 1, _, 5, _ => exact Or.inl (fm 242 rfl)
  | 1, _, 6, _ => exact Or.inl (fm 255 rfl)
  | 2, _, 0, _ => exact Or.inr (fm 72 rfl)
  | 2, _, 1, _ => exact Or.inr (fm 71 rfl)
  | 2, _, 2, _ => exact absurd rfl hn
  | 2, _, 3, _ => exact Or.inl (fm 147 rfl)
  | 2, _, 4, _ => exact Or.inl (fm 232 rfl)
  | 2, _, 5, _ => exact Or.inl (fm 244 rfl)
  | 2, _, 6, _ => exact Or.inl (fm 257 rfl)
  | 3, _, 0, _ => exact Or.inr (fm 146 rfl)
  | 3, _, 1, _ => exact Or.inr (fm 145 rfl)
  | 3, _, 2, _ => exact Or.inr (fm 147 rfl)
  | 3, _, 3, _ => exact absurd rfl hn
  | 3, _, 4, _ => exact Or.inl (fm 233 rfl)
  | 3, _, 5, _ => exact Or.inl (fm 245 rfl)
  | 3, _, 6, _ => exact Or.inl (fm 258 rfl)
  | 4, _, 0, _ => exact Or.inr (fm 231 rfl)
  | 4, _, 1, _ => exact Or.inr (fm 230 rfl)
  | 4, _, 2, _ => exact Or.inr (fm 232 rfl)
  | 4, _, 3, _ => exact Or.inr (fm 233 rfl)
  | 4, _, 4, _ => exact absurd rfl hn
  | 4, _, 5, _ => exact Or.inl (fm 246 rfl)
  | 4, _, 6, _ => exact Or.inl (fm 259 rfl)
  | 5, _, 0, _ => exact Or.inr (fm 243 rfl)
  | 5, _, 1, _ => exact Or.inr (fm 242 rfl)
  | 5, _, 2, _ => exact Or.inr (fm 244 rfl)
  | 5, _, 3, _ => exact Or.inr (fm 245 rfl)
  | 5, _, 4, _ => exact Or.inr (fm 246 rfl)
  | 5, _, 5, _ => exact absurd rfl hn
  | 5, _, 6, _ => exact Or.inl (fm 260 rfl)
  | 6, _, 0, _ => exact Or.inr (fm 256 rfl)
  | 6, _, 1, _ => exact Or.inr (fm 255 rfl)
  | 6, _, 2, _ => exact Or.inr (fm 257 rfl)
  | 6, _, 3, _ => exact Or.inr (fm 258 rfl)
  | 6, _, 4, _ => exact Or.inr (fm 259 rfl)
  | 6, _, 5, _ => exact Or.inr (fm 260 rfl)
  | 6, _, 6, _ => exact absurd rfl hn
  | k + 7, h, _, _ => exact absurd h (by omega)
  | _, _, k + 7, h => exact absurd h (by omega)
theorem fx_cs : Cond.eq (.static "java/lang/String" "COMPACT_STRINGS" "Z") (.int 1) ∈ fAll := fm 4 rfl
theorem fx_si : Cond.isRef (.static "jdk/internal/util/Preconditions" "SIOOBE_FORMATTER" "Ljava/util/function/BiFunction;") ∈ fAll := fm 5 rfl
theorem in_l1 {q : Cond} (i : Nat) (h : tables_1_1[i]? = some q) : q ∈ lw_tbl := List.mem_append_right _ (List.mem_append_left _ (List.mem_of_getElem? h))
theorem in_l2 {q : Cond} (i : Nat) (h : tables_1_2[i]? = some q) : q ∈ lw_tbl := List.mem_append_right _ (List.mem_append_right _ (List.mem_append_left _ (List.mem_of_getElem? h)))
theorem in_l3 {q : Cond} (i : Nat) (h : tables_1_3[i]? = some q) : q ∈ lw_tbl := List.mem_append_right _ (List.mem_append_right _ (List.mem_append_right _ (List.mem_append_left _ (List.mem_of_getElem? h))))
theorem in_l4 {q : Cond} (i : Nat) (h : tables_1_4[i]? = some q) : q ∈ lw_tbl := List.mem_append_right _ (List.mem_append_right _ (List.mem_append_right _ (List.mem_append_right _ (List.mem_of_getElem? h))))
theorem nests_M : ∀ q ∈ xNM, Cond.methodLinkNest q.1 q.2.1 q.2.2.1 q.2.2.2 ∈ lw_tbl := by
  intro q hq
  obtain ⟨k, hk⟩ := List.getElem?_of_mem hq
  match k, hk with
  | 0, hk => cases hk; exact in_l1 25 rfl
  | 1, hk => cases hk; exact in_l1 54 rfl
  | 2, hk => cases hk; exact in_l1 220 rfl
  | 3, hk => cases hk; exact in_l1 237 rfl
  | 4, hk => cases hk; exact in_l2 31 rfl
  | 5, hk => cases hk; exact in_l2 109 rfl
  | 6, hk => cases hk; exact in_l2 186 rfl
  | 7, hk => cases hk; exact in_l2 208 rfl
  | 8, hk => cases hk; exact in_l3 14 rfl
  | 9, hk => cases hk; exact in_l3 83 rfl
  | 10, hk => cases hk; exact in_l3 139 rfl
  | 11, hk => cases hk; exact in_l3 140 rfl
  | k + 12, hk => simp [xNM] at hk
theorem nests_F : ∀ q ∈ xNF, Cond.fieldLinkNest q.1 q.2.1 q.2.2.1 q.2.2.2.1 q.2.2.2.2.1 q.2.2.2.2.2 ∈ lw_tbl := by
  intro q hq
  obtain ⟨k, hk⟩ := List.getElem?_of_mem hq
  match k, hk with
  | 0, hk => cases hk; exact in_l1 64 rfl
  | 1, hk => cases hk; exact in_l1 66 rfl
  | 2, hk => cases hk; exact in_l1 68 rfl
  | 3, hk => cases hk; exact in_l1 70 rfl
  | 4, hk => cases hk; exact in_l2 10 rfl
  | 5, hk => cases hk; exact in_l2 12 rfl
  | 6, hk => cases hk; exact in_l2 13 rfl
  | 7, hk => cases hk; exact in_l2 22 rfl
  | 8, hk => cases hk; exact in_l2 38 rfl
  | 9, hk => cases hk; exact in_l2 40 rfl
  | k + 10, hk => simp [xNF] at hk
theorem strs_R : ∀ i, i < 7 → Cond.stringRef RX4 (xTk.getD i 0) (xTx.getD i "") ∈ lw_tbl := by
  intro i hi
  match i, hi with
  | 0, _ => exact in_l1 154 rfl
  | 1, _ => exact in_l1 101 rfl
  | 2, _ => exact in_l2 143 rfl
  | 3, _ => exact in_l2 144 rfl
  | 4, _ => exact in_l2 145 rfl
  | 5, _ => exact in_l2 146 rfl
  | 6, _ => exact in_l2 147 rfl
  | k + 7, h => exact absurd h (by omega)
theorem tl_cs : Cond.laysStatic "java/lang/String" "COMPACT_STRINGS" "Z" ∈ lw_tbl := in_l1 115 rfl
theorem tl_si : Cond.laysStatic "jdk/internal/util/Preconditions" "SIOOBE_FORMATTER" "Ljava/util/function/BiFunction;" ∈ lw_tbl := in_l1 131 rfl
theorem tl_is : Cond.initialized "java/lang/String" ∈ lw_tbl := in_l1 5 rfl
theorem tl_ip : Cond.initialized "jdk/internal/util/Preconditions" ∈ lw_tbl := in_l1 7 rfl
theorem tl_aI : Cond.arrayClass .int ∈ lw_tbl := in_l1 51 rfl
theorem tl_aZ : Cond.arrayClass .boolean ∈ lw_tbl := in_l1 90 rfl
theorem arr_known {s : State} {args : Array Value} {ty : FieldType} (h : (Cond.arrayClass ty).before args s = true) : ∃ cA, ArrOfT s cA ty ∧ s.vm.findClass ("[" ++ ty.toString) = some cA := by
  obtain ⟨cA, kA, comp, h1, h2, h3⟩ := Cond.arrayClass_spec h
  exact ⟨cA, fun n z => ⟨fun k h => (by cases h), kA, h2, comp, h3⟩, h1⟩
/-- the world's fixed things at the start -/
theorem env_start {s : State} {args : Array Value} (hts : ∀ w ∈ lw_tbl, w.before args s = true) (hf : (Jvm.Cond.and given_1 narrow_1).before args s = true) (D : va_G) : ∃ (adK adV : Nat → Nat) (cI cZ : ClassId), xE (D, (adK, adV), cI, cZ) (fun q => s.heap.size ≤ q) s s.heap ∧ (ArrOfT s cI .int ∧ va_RA s cI .int) ∧ (ArrOfT s cZ .boolean ∧ va_RA s cZ .boolean) := by
  have hfl : ∀ q ∈ fAll, q.before args s = true := flat_of_before _ hf
  have hA : ∀ a : Nat, a < s.heap.size → ¬ (fun q => s.heap.size ≤ q) a := fun a h => Nat.not_le.mpr h
  obtain ⟨cI, i1, i2⟩ := arr_known (hts _ tl_aI)
  obtain ⟨cZ, z1, z2⟩ := arr_known (hts _ tl_aZ)
  obtain ⟨adK, adV, hS, hev⟩ := vk_Sof (args := args) (s := s) (N := 7) (tm := tmS) (len := xTl) (byt := xTi) (A := fun q => s.heap.size ≤ q) (fun i hi => by have := xTl_le i hi; omega) (fun i hi => hfl _ (fx_ex i hi)) (fun i hi => hfl _ (fx_co i hi)) (fun i hi => hfl _ (fx_ar i hi)) (fun i hi => hfl _ (fx_le i hi)) (fun i hi j hj => hfl _ (fx_el i hi j hj)) (fun i j hi hj hn => (fx_ne i j hi hj hn).imp (hfl _) (hfl _)) hA
  refine ⟨adK, adV, cI, cZ, ⟨⟨fun q hq => va_Nw.of rfl (hts _ (nests_M q hq)), fun q hq => va_Nw.of rfl (hts _ (nests_F q hq))⟩, hS, fun i hi => vk_R.of (hts _ (strs_R i hi)) (hev i hi), ?_, ?_⟩, ⟨i1, i2⟩, ⟨z1, z2⟩⟩
  · exact va_Zof (hts _ tl_cs) (hts _ tl_is) (va_eqi (hfl _ fx_cs)) hA
  · exact va_Zqof (hts _ tl_si) (hts _ tl_ip) (hfl _ fx_si) hA
