/-! the texts' words, by their places among what the start gives -/
def flW : List Cond := flatC (Jvm.Cond.and given_1 narrow_1)
theorem fl_at (i : Nat) {w : Cond} (h : flW[i]? = some w) : w ∈ flW := List.mem_of_getElem? h
def tmS (k : Nat) : Term := .string "JugglingRowsLaw" (197 + 2 * k)
def tmX : Term := .static "JugglingRowsLaw" "TEXTS" "[Ljava/lang/String;"
def cdT (k : Nat) : List Cond := [.exactly (tmS k) "java/lang/String", .eq (.field (tmS k) "java/lang/String" "coder" "B") (.int 0), .arrayOf (.field (tmS k) "java/lang/String" "value" "[B") .byte, .eq (.length (.field (tmS k) "java/lang/String" "value" "[B")) (.int (Int32.ofNat (lenT.getD k 0))), .eq (.elem tmX (.int (Int32.ofNat k))) (tmS k)]
def cdE (k j : Nat) : Cond := .eq (.elem (.field (tmS k) "java/lang/String" "value" "[B") (.int (Int32.ofNat j))) (.int ((bytT.getD k []).getD j 0))
set_option maxRecDepth 20000 in
theorem cdT_0 : ∀ c ∈ cdT 0, c ∈ flW := List.forall_mem_cons.mpr ⟨fl_at 54 rfl, List.forall_mem_cons.mpr ⟨fl_at 55 rfl, List.forall_mem_cons.mpr ⟨fl_at 56 rfl, List.forall_mem_cons.mpr ⟨fl_at 57 rfl, List.forall_mem_cons.mpr ⟨fl_at 12 rfl, fun _ h => absurd h List.not_mem_nil⟩⟩⟩⟩⟩
set_option maxRecDepth 20000 in
theorem cdE_0 : ∀ j, j < 1 → cdE 0 j ∈ flW := fun j hj => match j, hj with
  | 0, _ => fl_at 58 rfl
  | j + 1, h => absurd h (by omega)
set_option maxRecDepth 20000 in
theorem cdT_1 : ∀ c ∈ cdT 1, c ∈ flW := List.forall_mem_cons.mpr ⟨fl_at 59 rfl, List.forall_mem_cons.mpr ⟨fl_at 60 rfl, List.forall_mem_cons.mpr ⟨fl_at 61 rfl, List.forall_mem_cons.mpr ⟨fl_at 62 rfl, List.forall_mem_cons.mpr ⟨fl_at 13 rfl, fun _ h => absurd h List.not_mem_nil⟩⟩⟩⟩⟩
set_option maxRecDepth 20000 in
theorem cdE_1 : ∀ j, j < 3 → cdE 1 j ∈ flW := fun j hj => match j, hj with
  | 0, _ => fl_at 63 rfl
  | 1, _ => fl_at 64 rfl
  | 2, _ => fl_at 65 rfl
  | j + 3, h => absurd h (by omega)
set_option maxRecDepth 20000 in
theorem cdT_2 : ∀ c ∈ cdT 2, c ∈ flW := List.forall_mem_cons.mpr ⟨fl_at 66 rfl, List.forall_mem_cons.mpr ⟨fl_at 67 rfl, List.forall_mem_cons.mpr ⟨fl_at 68 rfl, List.forall_mem_cons.mpr ⟨fl_at 69 rfl, List.forall_mem_cons.mpr ⟨fl_at 14 rfl, fun _ h => absurd h List.not_mem_nil⟩⟩⟩⟩⟩
set_option maxRecDepth 20000 in
theorem cdE_2 : ∀ j, j < 7 → cdE 2 j ∈ flW := fun j hj => match j, hj with
  | 0, _ => fl_at 70 rfl
  | 1, _ => fl_at 71 rfl
  | 2, _ => fl_at 72 rfl
  | 3, _ => fl_at 73 rfl
  | 4, _ => fl_at 74 rfl
  | 5, _ => fl_at 75 rfl
  | 6, _ => fl_at 76 rfl
  | j + 7, h => absurd h (by omega)
set_option maxRecDepth 20000 in
theorem cdT_3 : ∀ c ∈ cdT 3, c ∈ flW := List.forall_mem_cons.mpr ⟨fl_at 77 rfl, List.forall_mem_cons.mpr ⟨fl_at 78 rfl, List.forall_mem_cons.mpr ⟨fl_at 79 rfl, List.forall_mem_cons.mpr ⟨fl_at 80 rfl, List.forall_mem_cons.mpr ⟨fl_at 15 rfl, fun _ h => absurd h List.not_mem_nil⟩⟩⟩⟩⟩
set_option maxRecDepth 20000 in
theorem cdE_3 : ∀ j, j < 2 → cdE 3 j ∈ flW := fun j hj => match j, hj with
  | 0, _ => fl_at 81 rfl
  | 1, _ => fl_at 82 rfl
  | j + 2, h => absurd h (by omega)
set_option maxRecDepth 20000 in
theorem cdT_4 : ∀ c ∈ cdT 4, c ∈ flW := List.forall_mem_cons.mpr ⟨fl_at 83 rfl, List.forall_mem_cons.mpr ⟨fl_at 84 rfl, List.forall_mem_cons.mpr ⟨fl_at 85 rfl, List.forall_mem_cons.mpr ⟨fl_at 86 rfl, List.forall_mem_cons.mpr ⟨fl_at 16 rfl, fun _ h => absurd h List.not_mem_nil⟩⟩⟩⟩⟩
set_option maxRecDepth 20000 in
theorem cdE_4 : ∀ j, j < 5 → cdE 4 j ∈ flW := fun j hj => match j, hj with
  | 0, _ => fl_at 87 rfl
  | 1, _ => fl_at 88 rfl
  | 2, _ => fl_at 89 rfl
  | 3, _ => fl_at 90 rfl
  | 4, _ => fl_at 91 rfl
  | j + 5, h => absurd h (by omega)
set_option maxRecDepth 20000 in
theorem cdT_5 : ∀ c ∈ cdT 5, c ∈ flW := List.forall_mem_cons.mpr ⟨fl_at 92 rfl, List.forall_mem_cons.mpr ⟨fl_at 93 rfl, List.forall_mem_cons.mpr ⟨fl_at 94 rfl, List.forall_mem_cons.mpr ⟨fl_at 95 rfl, List.forall_mem_cons.mpr ⟨fl_at 17 rfl, fun _ h => absurd h List.not_mem_nil⟩⟩⟩⟩⟩
set_option maxRecDepth 20000 in
theorem cdE_5 : ∀ j, j < 2 → cdE 5 j ∈ flW := fun j hj => match j, hj with
  | 0, _ => fl_at 96 rfl
  | 1, _ => fl_at 97 rfl
  | j + 2, h => absurd h (by omega)
set_option maxRecDepth 20000 in
theorem cdT_6 : ∀ c ∈ cdT 6, c ∈ flW := List.forall_mem_cons.mpr ⟨fl_at 98 rfl, List.forall_mem_cons.mpr ⟨fl_at 99 rfl, List.forall_mem_cons.mpr ⟨fl_at 100 rfl, List.forall_mem_cons.mpr ⟨fl_at 101 rfl, List.forall_mem_cons.mpr ⟨fl_at 18 rfl, fun _ h => absurd h List.not_mem_nil⟩⟩⟩⟩⟩
set_option maxRecDepth 20000 in
theorem cdE_6 : ∀ j, j < 5 → cdE 6 j ∈ flW := fun j hj => match j, hj with
  | 0, _ => fl_at 102 rfl
  | 1, _ => fl_at 103 rfl
  | 2, _ => fl_at 104 rfl
  | 3, _ => fl_at 105 rfl
  | 4, _ => fl_at 106 rfl
  | j + 5, h => absurd h (by omega)
set_option maxRecDepth 20000 in
theorem cdT_7 : ∀ c ∈ cdT 7, c ∈ flW := List.forall_mem_cons.mpr ⟨fl_at 107 rfl, List.forall_mem_cons.mpr ⟨fl_at 108 rfl, List.forall_mem_cons.mpr ⟨fl_at 109 rfl, List.forall_mem_cons.mpr ⟨fl_at 110 rfl, List.forall_mem_cons.mpr ⟨fl_at 19 rfl, fun _ h => absurd h List.not_mem_nil⟩⟩⟩⟩⟩
set_option maxRecDepth 20000 in
theorem cdE_7 : ∀ j, j < 4 → cdE 7 j ∈ flW := fun j hj => match j, hj with
  | 0, _ => fl_at 111 rfl
  | 1, _ => fl_at 112 rfl
  | 2, _ => fl_at 113 rfl
  | 3, _ => fl_at 114 rfl
  | j + 4, h => absurd h (by omega)
set_option maxRecDepth 20000 in
theorem cdT_8 : ∀ c ∈ cdT 8, c ∈ flW := List.forall_mem_cons.mpr ⟨fl_at 115 rfl, List.forall_mem_cons.mpr ⟨fl_at 116 rfl, List.forall_mem_cons.mpr ⟨fl_at 117 rfl, List.forall_mem_cons.mpr ⟨fl_at 118 rfl, List.forall_mem_cons.mpr ⟨fl_at 20 rfl, fun _ h => absurd h List.not_mem_nil⟩⟩⟩⟩⟩
set_option maxRecDepth 20000 in
theorem cdE_8 : ∀ j, j < 9 → cdE 8 j ∈ flW := fun j hj => match j, hj with
  | 0, _ => fl_at 119 rfl
  | 1, _ => fl_at 120 rfl
  | 2, _ => fl_at 121 rfl
  | 3, _ => fl_at 122 rfl
  | 4, _ => fl_at 123 rfl
  | 5, _ => fl_at 124 rfl
  | 6, _ => fl_at 125 rfl
  | 7, _ => fl_at 126 rfl
  | 8, _ => fl_at 127 rfl
  | j + 9, h => absurd h (by omega)
set_option maxRecDepth 20000 in
theorem cdT_9 : ∀ c ∈ cdT 9, c ∈ flW := List.forall_mem_cons.mpr ⟨fl_at 128 rfl, List.forall_mem_cons.mpr ⟨fl_at 129 rfl, List.forall_mem_cons.mpr ⟨fl_at 130 rfl, List.forall_mem_cons.mpr ⟨fl_at 131 rfl, List.forall_mem_cons.mpr ⟨fl_at 21 rfl, fun _ h => absurd h List.not_mem_nil⟩⟩⟩⟩⟩
set_option maxRecDepth 20000 in
theorem cdE_9 : ∀ j, j < 2 → cdE 9 j ∈ flW := fun j hj => match j, hj with
  | 0, _ => fl_at 132 rfl
  | 1, _ => fl_at 133 rfl
  | j + 2, h => absurd h (by omega)
set_option maxRecDepth 20000 in
theorem cdT_10 : ∀ c ∈ cdT 10, c ∈ flW := List.forall_mem_cons.mpr ⟨fl_at 134 rfl, List.forall_mem_cons.mpr ⟨fl_at 135 rfl, List.forall_mem_cons.mpr ⟨fl_at 136 rfl, List.forall_mem_cons.mpr ⟨fl_at 137 rfl, List.forall_mem_cons.mpr ⟨fl_at 22 rfl, fun _ h => absurd h List.not_mem_nil⟩⟩⟩⟩⟩
set_option maxRecDepth 20000 in
theorem cdE_10 : ∀ j, j < 5 → cdE 10 j ∈ flW := fun j hj => match j, hj with
  | 0, _ => fl_at 138 rfl
  | 1, _ => fl_at 139 rfl
  | 2, _ => fl_at 140 rfl
  | 3, _ => fl_at 141 rfl
  | 4, _ => fl_at 142 rfl
  | j + 5, h => absurd h (by omega)
set_option maxRecDepth 20000 in
theorem cdT_11 : ∀ c ∈ cdT 11, c ∈ flW := List.forall_mem_cons.mpr ⟨fl_at 143 rfl, List.forall_mem_cons.mpr ⟨fl_at 144 rfl, List.forall_mem_cons.mpr ⟨fl_at 145 rfl, List.forall_mem_cons.mpr ⟨fl_at 146 rfl, List.forall_mem_cons.mpr ⟨fl_at 23 rfl, fun _ h => absurd h List.not_mem_nil⟩⟩⟩⟩⟩
set_option maxRecDepth 20000 in
theorem cdE_11 : ∀ j, j < 2 → cdE 11 j ∈ flW := fun j hj => match j, hj with
  | 0, _ => fl_at 147 rfl
  | 1, _ => fl_at 148 rfl
  | j + 2, h => absurd h (by omega)
set_option maxRecDepth 20000 in
theorem cdT_12 : ∀ c ∈ cdT 12, c ∈ flW := List.forall_mem_cons.mpr ⟨fl_at 149 rfl, List.forall_mem_cons.mpr ⟨fl_at 150 rfl, List.forall_mem_cons.mpr ⟨fl_at 151 rfl, List.forall_mem_cons.mpr ⟨fl_at 152 rfl, List.forall_mem_cons.mpr ⟨fl_at 24 rfl, fun _ h => absurd h List.not_mem_nil⟩⟩⟩⟩⟩
set_option maxRecDepth 20000 in
theorem cdE_12 : ∀ j, j < 5 → cdE 12 j ∈ flW := fun j hj => match j, hj with
  | 0, _ => fl_at 153 rfl
  | 1, _ => fl_at 154 rfl
  | 2, _ => fl_at 155 rfl
  | 3, _ => fl_at 156 rfl
  | 4, _ => fl_at 157 rfl
  | j + 5, h => absurd h (by omega)
set_option maxRecDepth 20000 in
theorem cdT_13 : ∀ c ∈ cdT 13, c ∈ flW := List.forall_mem_cons.mpr ⟨fl_at 158 rfl, List.forall_mem_cons.mpr ⟨fl_at 159 rfl, List.forall_mem_cons.mpr ⟨fl_at 160 rfl, List.forall_mem_cons.mpr ⟨fl_at 161 rfl, List.forall_mem_cons.mpr ⟨fl_at 25 rfl, fun _ h => absurd h List.not_mem_nil⟩⟩⟩⟩⟩
set_option maxRecDepth 20000 in
theorem cdE_13 : ∀ j, j < 2 → cdE 13 j ∈ flW := fun j hj => match j, hj with
  | 0, _ => fl_at 162 rfl
  | 1, _ => fl_at 163 rfl
  | j + 2, h => absurd h (by omega)
set_option maxRecDepth 20000 in
theorem cdT_14 : ∀ c ∈ cdT 14, c ∈ flW := List.forall_mem_cons.mpr ⟨fl_at 164 rfl, List.forall_mem_cons.mpr ⟨fl_at 165 rfl, List.forall_mem_cons.mpr ⟨fl_at 166 rfl, List.forall_mem_cons.mpr ⟨fl_at 167 rfl, List.forall_mem_cons.mpr ⟨fl_at 26 rfl, fun _ h => absurd h List.not_mem_nil⟩⟩⟩⟩⟩
set_option maxRecDepth 20000 in
theorem cdE_14 : ∀ j, j < 5 → cdE 14 j ∈ flW := fun j hj => match j, hj with
  | 0, _ => fl_at 168 rfl
  | 1, _ => fl_at 169 rfl
  | 2, _ => fl_at 170 rfl
  | 3, _ => fl_at 171 rfl
  | 4, _ => fl_at 172 rfl
  | j + 5, h => absurd h (by omega)
set_option maxRecDepth 20000 in
theorem cdT_15 : ∀ c ∈ cdT 15, c ∈ flW := List.forall_mem_cons.mpr ⟨fl_at 173 rfl, List.forall_mem_cons.mpr ⟨fl_at 174 rfl, List.forall_mem_cons.mpr ⟨fl_at 175 rfl, List.forall_mem_cons.mpr ⟨fl_at 176 rfl, List.forall_mem_cons.mpr ⟨fl_at 27 rfl, fun _ h => absurd h List.not_mem_nil⟩⟩⟩⟩⟩
set_option maxRecDepth 20000 in
theorem cdE_15 : ∀ j, j < 2 → cdE 15 j ∈ flW := fun j hj => match j, hj with
  | 0, _ => fl_at 177 rfl
  | 1, _ => fl_at 178 rfl
  | j + 2, h => absurd h (by omega)
set_option maxRecDepth 20000 in
theorem cdT_16 : ∀ c ∈ cdT 16, c ∈ flW := List.forall_mem_cons.mpr ⟨fl_at 179 rfl, List.forall_mem_cons.mpr ⟨fl_at 180 rfl, List.forall_mem_cons.mpr ⟨fl_at 181 rfl, List.forall_mem_cons.mpr ⟨fl_at 182 rfl, List.forall_mem_cons.mpr ⟨fl_at 28 rfl, fun _ h => absurd h List.not_mem_nil⟩⟩⟩⟩⟩
set_option maxRecDepth 20000 in
theorem cdE_16 : ∀ j, j < 5 → cdE 16 j ∈ flW := fun j hj => match j, hj with
  | 0, _ => fl_at 183 rfl
  | 1, _ => fl_at 184 rfl
  | 2, _ => fl_at 185 rfl
  | 3, _ => fl_at 186 rfl
  | 4, _ => fl_at 187 rfl
  | j + 5, h => absurd h (by omega)
set_option maxRecDepth 20000 in
theorem cdT_17 : ∀ c ∈ cdT 17, c ∈ flW := List.forall_mem_cons.mpr ⟨fl_at 188 rfl, List.forall_mem_cons.mpr ⟨fl_at 189 rfl, List.forall_mem_cons.mpr ⟨fl_at 190 rfl, List.forall_mem_cons.mpr ⟨fl_at 191 rfl, List.forall_mem_cons.mpr ⟨fl_at 29 rfl, fun _ h => absurd h List.not_mem_nil⟩⟩⟩⟩⟩
set_option maxRecDepth 20000 in
theorem cdE_17 : ∀ j, j < 2 → cdE 17 j ∈ flW := fun j hj => match j, hj with
  | 0, _ => fl_at 192 rfl
  | 1, _ => fl_at 193 rfl
  | j + 2, h => absurd h (by omega)
set_option maxRecDepth 20000 in
theorem cdT_18 : ∀ c ∈ cdT 18, c ∈ flW := List.forall_mem_cons.mpr ⟨fl_at 194 rfl, List.forall_mem_cons.mpr ⟨fl_at 195 rfl, List.forall_mem_cons.mpr ⟨fl_at 196 rfl, List.forall_mem_cons.mpr ⟨fl_at 197 rfl, List.forall_mem_cons.mpr ⟨fl_at 30 rfl, fun _ h => absurd h List.not_mem_nil⟩⟩⟩⟩⟩
set_option maxRecDepth 20000 in
theorem cdE_18 : ∀ j, j < 5 → cdE 18 j ∈ flW := fun j hj => match j, hj with
  | 0, _ => fl_at 198 rfl
  | 1, _ => fl_at 199 rfl
  | 2, _ => fl_at 200 rfl
  | 3, _ => fl_at 201 rfl
  | 4, _ => fl_at 202 rfl
  | j + 5, h => absurd h (by omega)
set_option maxRecDepth 20000 in
theorem cdT_19 : ∀ c ∈ cdT 19, c ∈ flW := List.forall_mem_cons.mpr ⟨fl_at 203 rfl, List.forall_mem_cons.mpr ⟨fl_at 204 rfl, List.forall_mem_cons.mpr ⟨fl_at 205 rfl, List.forall_mem_cons.mpr ⟨fl_at 206 rfl, List.forall_mem_cons.mpr ⟨fl_at 31 rfl, fun _ h => absurd h List.not_mem_nil⟩⟩⟩⟩⟩
set_option maxRecDepth 20000 in
theorem cdE_19 : ∀ j, j < 2 → cdE 19 j ∈ flW := fun j hj => match j, hj with
  | 0, _ => fl_at 207 rfl
  | 1, _ => fl_at 208 rfl
  | j + 2, h => absurd h (by omega)
set_option maxRecDepth 20000 in
theorem cdT_20 : ∀ c ∈ cdT 20, c ∈ flW := List.forall_mem_cons.mpr ⟨fl_at 209 rfl, List.forall_mem_cons.mpr ⟨fl_at 210 rfl, List.forall_mem_cons.mpr ⟨fl_at 211 rfl, List.forall_mem_cons.mpr ⟨fl_at 212 rfl, List.forall_mem_cons.mpr ⟨fl_at 32 rfl, fun _ h => absurd h List.not_mem_nil⟩⟩⟩⟩⟩
set_option maxRecDepth 20000 in
theorem cdE_20 : ∀ j, j < 2 → cdE 20 j ∈ flW := fun j hj => match j, hj with
  | 0, _ => fl_at 213 rfl
  | 1, _ => fl_at 214 rfl
  | j + 2, h => absurd h (by omega)
set_option maxRecDepth 20000 in
theorem cdT_21 : ∀ c ∈ cdT 21, c ∈ flW := List.forall_mem_cons.mpr ⟨fl_at 215 rfl, List.forall_mem_cons.mpr ⟨fl_at 216 rfl, List.forall_mem_cons.mpr ⟨fl_at 217 rfl, List.forall_mem_cons.mpr ⟨fl_at 218 rfl, List.forall_mem_cons.mpr ⟨fl_at 33 rfl, fun _ h => absurd h List.not_mem_nil⟩⟩⟩⟩⟩
set_option maxRecDepth 20000 in
theorem cdE_21 : ∀ j, j < 4 → cdE 21 j ∈ flW := fun j hj => match j, hj with
  | 0, _ => fl_at 219 rfl
  | 1, _ => fl_at 220 rfl
  | 2, _ => fl_at 221 rfl
  | 3, _ => fl_at 222 rfl
  | j + 4, h => absurd h (by omega)
set_option maxRecDepth 20000 in
theorem cdT_22 : ∀ c ∈ cdT 22, c ∈ flW := List.forall_mem_cons.mpr ⟨fl_at 223 rfl, List.forall_mem_cons.mpr ⟨fl_at 224 rfl, List.forall_mem_cons.mpr ⟨fl_at 225 rfl, List.forall_mem_cons.mpr ⟨fl_at 226 rfl, List.forall_mem_cons.mpr ⟨fl_at 34 rfl, fun _ h => absurd h List.not_mem_nil⟩⟩⟩⟩⟩
set_option maxRecDepth 20000 in
theorem cdE_22 : ∀ j, j < 8 → cdE 22 j ∈ flW := fun j hj => match j, hj with
  | 0, _ => fl_at 227 rfl
  | 1, _ => fl_at 228 rfl
  | 2, _ => fl_at 229 rfl
  | 3, _ => fl_at 230 rfl
  | 4, _ => fl_at 231 rfl
  | 5, _ => fl_at 232 rfl
  | 6, _ => fl_at 233 rfl
  | 7, _ => fl_at 234 rfl
  | j + 8, h => absurd h (by omega)
set_option maxRecDepth 20000 in
theorem cdT_23 : ∀ c ∈ cdT 23, c ∈ flW := List.forall_mem_cons.mpr ⟨fl_at 235 rfl, List.forall_mem_cons.mpr ⟨fl_at 236 rfl, List.forall_mem_cons.mpr ⟨fl_at 237 rfl, List.forall_mem_cons.mpr ⟨fl_at 238 rfl, List.forall_mem_cons.mpr ⟨fl_at 35 rfl, fun _ h => absurd h List.not_mem_nil⟩⟩⟩⟩⟩
set_option maxRecDepth 20000 in
theorem cdE_23 : ∀ j, j < 2 → cdE 23 j ∈ flW := fun j hj => match j, hj with
  | 0, _ => fl_at 239 rfl
  | 1, _ => fl_at 240 rfl
  | j + 2, h => absurd h (by omega)
set_option maxRecDepth 20000 in
theorem cdT_24 : ∀ c ∈ cdT 24, c ∈ flW := List.forall_mem_cons.mpr ⟨fl_at 241 rfl, List.forall_mem_cons.mpr ⟨fl_at 242 rfl, List.forall_mem_cons.mpr ⟨fl_at 243 rfl, List.forall_mem_cons.mpr ⟨fl_at 244 rfl, List.forall_mem_cons.mpr ⟨fl_at 36 rfl, fun _ h => absurd h List.not_mem_nil⟩⟩⟩⟩⟩
set_option maxRecDepth 20000 in
theorem cdE_24 : ∀ j, j < 2 → cdE 24 j ∈ flW := fun j hj => match j, hj with
  | 0, _ => fl_at 245 rfl
  | 1, _ => fl_at 246 rfl
  | j + 2, h => absurd h (by omega)
set_option maxRecDepth 20000 in
theorem cdT_25 : ∀ c ∈ cdT 25, c ∈ flW := List.forall_mem_cons.mpr ⟨fl_at 247 rfl, List.forall_mem_cons.mpr ⟨fl_at 248 rfl, List.forall_mem_cons.mpr ⟨fl_at 249 rfl, List.forall_mem_cons.mpr ⟨fl_at 250 rfl, List.forall_mem_cons.mpr ⟨fl_at 37 rfl, fun _ h => absurd h List.not_mem_nil⟩⟩⟩⟩⟩
set_option maxRecDepth 20000 in
theorem cdE_25 : ∀ j, j < 2 → cdE 25 j ∈ flW := fun j hj => match j, hj with
  | 0, _ => fl_at 251 rfl
  | 1, _ => fl_at 252 rfl
  | j + 2, h => absurd h (by omega)
theorem cd_in : ∀ k, k < 26 → (∀ c ∈ cdT k, c ∈ flW) ∧ ∀ j, j < lenT.getD k 0 → cdE k j ∈ flW := fun k hk => match k, hk with
  | 0, _ => ⟨cdT_0, cdE_0⟩
  | 1, _ => ⟨cdT_1, cdE_1⟩
  | 2, _ => ⟨cdT_2, cdE_2⟩
  | 3, _ => ⟨cdT_3, cdE_3⟩
  | 4, _ => ⟨cdT_4, cdE_4⟩
  | 5, _ => ⟨cdT_5, cdE_5⟩
  | 6, _ => ⟨cdT_6, cdE_6⟩
  | 7, _ => ⟨cdT_7, cdE_7⟩
  | 8, _ => ⟨cdT_8, cdE_8⟩
  | 9, _ => ⟨cdT_9, cdE_9⟩
  | 10, _ => ⟨cdT_10, cdE_10⟩
  | 11, _ => ⟨cdT_11, cdE_11⟩
  | 12, _ => ⟨cdT_12, cdE_12⟩
  | 13, _ => ⟨cdT_13, cdE_13⟩
  | 14, _ => ⟨cdT_14, cdE_14⟩
  | 15, _ => ⟨cdT_15, cdE_15⟩
  | 16, _ => ⟨cdT_16, cdE_16⟩
  | 17, _ => ⟨cdT_17, cdE_17⟩
  | 18, _ => ⟨cdT_18, cdE_18⟩
  | 19, _ => ⟨cdT_19, cdE_19⟩
  | 20, _ => ⟨cdT_20, cdE_20⟩
  | 21, _ => ⟨cdT_21, cdE_21⟩
  | 22, _ => ⟨cdT_22, cdE_22⟩
  | 23, _ => ⟨cdT_23, cdE_23⟩
  | 24, _ => ⟨cdT_24, cdE_24⟩
  | 25, _ => ⟨cdT_25, cdE_25⟩
  | k + 26, h => absurd h (by omega)
set_option maxRecDepth 20000 in
theorem cd_x : (Cond.arrayOf tmX (.object "java/lang/String")) ∈ flW ∧ (Cond.eq (.length tmX) (.int 26)) ∈ flW ∧ (Cond.isRef (.static "jdk/internal/util/Preconditions" "SIOOBE_FORMATTER" "Ljava/util/function/BiFunction;")) ∈ flW ∧ (Cond.eq (.static "java/lang/String" "COMPACT_STRINGS" "Z") (.int 1)) ∈ flW := ⟨fl_at 10 rfl, fl_at 11 rfl, fl_at 5 rfl, fl_at 4 rfl⟩
