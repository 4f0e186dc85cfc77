/-! what the changes do, told of stands -/
theorem i3_lt (x : Int32) (k : Nat) (hk : k < 2 ^ 31) : (x < 0 ∨ nI k ≤ x) ∨ ∃ i, i < k ∧ x = nI i := by
  by_cases h0 : x < 0
  · exact Or.inl (Or.inl h0)
  by_cases h1 : nI k ≤ x
  · exact Or.inl (Or.inr h1)
  refine Or.inr ⟨x.toInt.toNat, ?_, ?_⟩
  · rw [fa_lt] at h0
    rw [fa_le] at h1
    have e : (nI k).toInt = (k : Int) := nI_toInt hk
    have e0 : (0 : Int32).toInt = 0 := by decide
    omega
  · rw [fa_lt] at h0
    rw [fa_le] at h1
    have e : (nI k).toInt = (k : Int) := nI_toInt hk
    have e0 : (0 : Int32).toInt = 0 := by decide
    rw [fa_eq, nI_toInt (by omega)]
    omega
def idx (x : Int32) (c : Nat) : Option Nat := if x < 0 ∨ nI c ≤ x then none else some x.toInt.toNat
theorem idx_no {x : Int32} {c : Nat} (h : x < 0 ∨ nI c ≤ x) : idx x c = none := if_pos h
theorem idx_yes {i c : Nat} (hi : i < c) (hc : c < 2 ^ 31) : idx (nI i) c = some i := by
  have e : (nI i).toInt = (i : Int) := nI_toInt (by omega)
  have e2 : (nI c).toInt = (c : Int) := nI_toInt hc
  have e0 : (0 : Int32).toInt = 0 := by decide
  unfold idx
  rw [if_neg, e]
  · rfl
  · rw [fa_lt, fa_le]
    omega
abbrev OpR := Int32 × StT × Option (Int32 × Int32)
def rfR (r : Int32 × Int32 × Int32 × Int32) (d : Option (Int32 × Int32)) : Int32 × Int32 × Int32 × Int32 := match d with
  | none => r
  | some p => (p.1, p.2, r.2.2.2, r.2.2.2)
def setR (N : StT) (i : Nat) (row : RowT) : StT := (sC N, (fun k => if k = i then row else sR N k), sS N, sB N, sT N, sU N, sH N, sJ N, sG N)
def addA (x m : Int32) (N : StT) : OpR := match idx m 9 with
  | none => (-2, N, none)
  | some k => if k = 0 then (-2, N, none) else match idx x (10 ^ k) with
    | none => (-2, N, none)
    | some t => if 6 ≤ sC N then (-3, N, some (1, 6)) else (nI (sC N), appS N t k, none)
def dropA (x : Int32) (N : StT) : OpR := match idx x (sC N) with
  | none => (-1, N, none)
  | some i => (nI (sC N - 1), remS N i, none)
def rotN (h : Nat → Nat) (L : Nat) : Nat → Nat := fun k => h ((k + 1) % L)
def turnA (x : Int32) (N : StT) : OpR := match idx x (sC N) with
  | none => (-1, N, none)
  | some i => (nI (rotN (sR N i).2 (sR N i).1 0), setR N i ((sR N i).1, rotN (sR N i).2 (sR N i).1), none)
def swpN (h : Nat → Nat) (a b : Nat) : Nat → Nat := fun k => if k = a then h b + (b - a) else if k = b then h a - (b - a) else h k
def swapA (x y z : Int32) (N : StT) : OpR := match idx x (sC N) with
  | none => (-1, N, none)
  | some i => match idx y (sR N i).1 with
    | none => (-1, N, none)
    | some a => match idx z (sR N i).1 with
      | none => (-1, N, none)
      | some b => if b ≤ a then (-3, N, some (7, nI a)) else if 9 < (sR N i).2 b + (b - a) then (-3, N, some (2, nI a)) else if (sR N i).2 a < b - a then (-3, N, some (2, nI b)) else (nI ((sR N i).2 b + (b - a)), setR N i ((sR N i).1, swpN (sR N i).2 a b), none)
def upN (h : Nat → Nat) : Nat → Nat := fun k => h k + 1
noncomputable def liftA (x : Int32) (N : StT) : OpR := match idx x (sC N) with
  | none => (-1, N, none)
  | some i => if fa_first (fun k => decide (9 ≤ (sR N i).2 k)) (sR N i).1 < (sR N i).1 then (-3, N, some (2, nI (fa_first (fun k => decide (9 ≤ (sR N i).2 k)) (sR N i).1))) else (ballI (upN (sR N i).2) (sR N i).1, setR N i ((sR N i).1, upN (sR N i).2), none)
def begS (N : StT) (k : Nat) : StT := (sC N, sR N, 2 ^ k - 1, 0, sT N, sU N, sH N, sJ N, sG N + 1)
def beginA (x : Int32) (N : StT) : OpR := match idx x 9 with
  | none => (-2, N, none)
  | some k => if k = 0 then (-2, N, none) else (nI (2 ^ k - 1), begS N k, none)
noncomputable def tossA (x : Int32) (N : StT) : OpR := match idx x 10 with
  | none => (-2, N, none)
  | some h => if popc (sS N) = 0 then (-3, N, some (6, nI (sB N))) else @ite _ (canN (sS N) h) (Classical.propDecidable _) (nI (sB N % 2), thrS N h, none) (-3, N, some (4, nI (sS N)))
noncomputable def outA (N : StT) (row : RowT) : Option (Int32 × Int32) := if popc (sS N) = 0 then some (6, nI (sB N)) else if clN row.2 row.1 = row.1 then (if sumN row.2 row.1 / row.1 = popc (sS N) then none else some (5, nI (sumN row.2 row.1 / row.1))) else some (3, nI (clN row.2 row.1))
noncomputable def dstN (s t : Nat) : Nat := Classical.epsilon (fun k => Dst s t k)
noncomputable def codN (s t : Nat) : Nat := Classical.epsilon (fun c => LowC s t (dstN s t) c)
def thrA (N : StT) (f : Nat → Nat) : Nat → StT
  | 0 => N
  | i + 1 => thrS (thrA N f i) (f i)
def joiS (N : StT) : StT := (sC N, sR N, sS N, sB N, sT N, sU N, sH N, sJ N + 1, sG N)
noncomputable def joinA (x : Int32) (N : StT) : OpR := match idx x (sC N) with
  | none => (-1, N, none)
  | some i => match outA N (sR N i) with
    | some d => (-3, N, some d)
    | none => (nI (dstN (sS N) (stN (sR N i).2 (sR N i).1 0)), joiS (thrA N (digN (codN (sS N) (stN (sR N i).2 (sR N i).1 0)) (dstN (sS N) (stN (sR N i).2 (sR N i).1 0))) (dstN (sS N) (stN (sR N i).2 (sR N i).1 0))), none)
noncomputable def onceA (x : Int32) (N : StT) : OpR := match idx x (sC N) with
  | none => (-1, N, none)
  | some i => match outA N (sR N i) with
    | some d => (-3, N, some d)
    | none => if sS N = stN (sR N i).2 (sR N i).1 0 then (nI (sR N i).1, thrA N (sR N i).2 (sR N i).1, none) else (-3, N, some (4, nI (sS N)))
theorem dstN_is {s t k : Nat} (h : Dst s t k) : dstN s t = k := Dst.one (Classical.epsilon_spec (p := fun k => Dst s t k) ⟨k, h⟩) h
theorem codN_is {s t k c : Nat} (h : Dst s t k) (hc : LowC s t k c) : codN s t = c := by
  have e := dstN_is h
  have := Classical.epsilon_spec (p := fun c => LowC s t (dstN s t) c) ⟨c, by rw [e]; exact hc⟩
  have h2 : LowC s t (dstN s t) (codN s t) := this
  rw [e] at h2
  exact LowC.one h2 hc
def OkS (N : StT) : Prop := sS N < 512 ∧ sH N ≤ 9
theorem behN_lt {s h : Nat} (hs : s < 512) (hh : h ≤ 9) : behN s h < 512 := by
  unfold behN
  split
  · omega
  · have h2 : 2 ^ (h - 1) < 2 ^ 9 := Nat.pow_lt_pow_right (by decide) (by omega)
    exact Nat.or_lt_two_pow (n := 9) (by omega) h2
theorem OkS.thr {N : StT} (h : OkS N) {k : Nat} (hk : k ≤ 9) : OkS (thrS N k) := ⟨behN_lt h.1 hk, Nat.max_le.mpr ⟨h.2, hk⟩⟩
theorem OkS.thrA {N : StT} (h : OkS N) {f : Nat → Nat} : ∀ {m : Nat}, (∀ i, i < m → f i ≤ 9) → OkS (thrA N f m)
  | 0, _ => h
  | m + 1, hf => (OkS.thrA h (fun i hi => hf i (by omega))).thr (hf m (by omega))
theorem digN_le (c k i : Nat) : digN c k i ≤ 9 := by unfold digN; omega
theorem thrA_C (N : StT) (f : Nat → Nat) : ∀ m, sC (thrA N f m) = sC N ∧ sR (thrA N f m) = sR N
  | 0 => ⟨rfl, rfl⟩
  | m + 1 => ⟨(thrA_C N f m).1, (thrA_C N f m).2⟩
