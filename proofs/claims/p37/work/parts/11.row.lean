/-! A ROW OF THROWS: the object at r, its heights at r + 1; what it tells -/
def RwF (g : GG) (w : HW) (n r L : Nat) (F : Nat → Int32) : Prop := w r = eO 4 [.int (nI L), rf g (r + 1)] ∧ w (r + 1) = eI g 8 F ∧ r + 1 < n ∧ L ≤ 8
def Fh (F : Nat → Int32) (L : Nat) (h : Nat → Nat) : Prop := ∀ i, i < L → F i = nI (h i) ∧ h i ≤ 9
def sumN (h : Nat → Nat) : Nat → Nat
  | 0 => 0
  | k + 1 => sumN h k + h k
def maxN (h : Nat → Nat) : Nat → Nat
  | 0 => 0
  | k + 1 => max (maxN h k) (h k)
def oddN (h : Nat → Nat) : Nat → Nat
  | 0 => 0
  | k + 1 => oddN h k + h k % 2
def landN (h : Nat → Nat) (L i : Nat) : Nat := (i + h i) % L
def orN (h : Nat → Nat) (L : Nat) : Nat → Nat
  | 0 => 0
  | k + 1 => orN h L k ||| 2 ^ landN h L k
/-- the beat i clashes with a higher one -/
def ClN (h : Nat → Nat) (L i : Nat) : Prop := ∃ j, j < L ∧ i < j ∧ landN h L i = landN h L j
noncomputable def clB (h : Nat → Nat) (L i : Nat) : Bool := @decide (ClN h L i) (Classical.propDecidable _)
/-- the lowest beat that clashes; L for none -/
noncomputable def clN (h : Nat → Nat) (L : Nat) : Nat := fa_first (clB h L) L
theorem clB_t {h : Nat → Nat} {L i : Nat} : clB h L i = true ↔ ClN h L i := by unfold clB; exact @decide_eq_true_iff _ (Classical.propDecidable _)
theorem clB_f {h : Nat → Nat} {L i : Nat} : clB h L i = false ↔ ¬ ClN h L i := by unfold clB; exact @decide_eq_false_iff_not _ (Classical.propDecidable _)
theorem clN_le (h : Nat → Nat) (L : Nat) : clN h L ≤ L := fa_first_le _ _
theorem clN_no {h : Nat → Nat} {L i : Nat} (hi : i < clN h L) : ¬ ClN h L i := clB_f.mp (fa_first_no _ _ _ hi)
theorem clN_yes {h : Nat → Nat} {L : Nat} (hc : clN h L < L) : ClN h L (clN h L) := clB_t.mp (fa_first_yes _ _ hc)
theorem clN_is {h : Nat → Nat} {L i : Nat} (hi : i < L) (h1 : ClN h L i) (h2 : ∀ k, k < i → ¬ ClN h L k) : clN h L = i := by
  rcases Nat.lt_trichotomy (clN h L) i with q | q | q
  · exact absurd (clN_yes (Nat.lt_trans q hi)) (h2 _ q)
  · exact q
  · exact absurd h1 (clN_no q)
theorem clN_none {h : Nat → Nat} {L : Nat} (h2 : ∀ k, k < L → ¬ ClN h L k) : clN h L = L := by
  rcases Nat.lt_or_ge (clN h L) L with q | q
  · exact absurd (clN_yes q) (h2 _ q)
  · exact Nat.le_antisymm (clN_le h L) q
/-- no two land at once -/
theorem clN_inj {h : Nat → Nat} {L : Nat} (hc : clN h L = L) : ∀ i j, i < j → j < L → landN h L i ≠ landN h L j := fun i j hij hj e => clN_no (by rw [hc]; omega) ⟨j, hj, hij, e⟩
theorem orN_bit (h : Nat → Nat) (L : Nat) : ∀ k b, (orN h L k).testBit b = true ↔ ∃ i, i < k ∧ landN h L i = b
  | 0, b => by simp [orN]
  | k + 1, b => by
    rw [orN, Nat.testBit_or, Bool.or_eq_true, orN_bit h L k b, Nat.testBit_two_pow]
    constructor
    · rintro (⟨i, hi, e⟩ | e)
      · exact ⟨i, by omega, e⟩
      · exact ⟨k, by omega, by simpa using e⟩
    · rintro ⟨i, hi, e⟩
      rcases Nat.lt_or_ge i k with q | q
      · exact Or.inl ⟨i, q, e⟩
      · have : i = k := by omega
        subst this
        exact Or.inr (by simpa using e)
theorem landN_lt {h : Nat → Nat} {L i : Nat} (hL : 0 < L) : landN h L i < L := Nat.mod_lt _ hL
theorem orN_lt (h : Nat → Nat) {L : Nat} (hL : 0 < L) (k : Nat) : orN h L k < 2 ^ L := by
  apply Nat.lt_pow_two_of_testBit
  intro b hb
  cases hq : (orN h L k).testBit b with
  | false => rfl
  | true =>
    obtain ⟨i, -, e⟩ := (orN_bit h L k b).mp hq
    have := landN_lt (h := h) (i := i) hL
    omega
/-- all beats are landed at just if no two clash -/
theorem orN_full (h : Nat → Nat) {L : Nat} (hL : 0 < L) : orN h L L = 2 ^ L - 1 ↔ clN h L = L := by
  constructor
  · intro e
    refine clN_none fun i hi hc => ?_
    obtain ⟨j, hj, hij, e2⟩ := hc
    have onto : ∀ b, b < L → ∃ i, i < L ∧ landN h L i = b := fun b hb => (orN_bit h L L b).mp (by rw [e, Nat.testBit_two_pow_sub_one]; simpa using hb)
    let f : Nat → Nat := fun b => if hb : b < L then (onto b hb).choose else 0
    have f1 : ∀ b, b < L → f b < L ∧ landN h L (f b) = b := fun b hb => by
      have : f b = (onto b hb).choose := dif_pos hb
      rw [this]
      exact (onto b hb).choose_spec
    have f2 : ∀ a b, a < b → b < L → f a ≠ f b := fun a b hab hb e3 => by
      have h1 := (f1 a (by omega)).2
      have h2 := (f1 b hb).2
      rw [e3] at h1
      omega
    obtain ⟨a, ha, ea⟩ := fb_onto (fun b hb => (f1 b hb).1) f2 hi
    obtain ⟨b, hb, eb⟩ := fb_onto (fun b hb => (f1 b hb).1) f2 hj
    have h1 := (f1 a ha).2
    have h2 := (f1 b hb).2
    rw [ea] at h1
    rw [eb] at h2
    rw [h1, h2] at e2
    subst e2
    omega
  · intro hc
    have inj := clN_inj hc
    apply Nat.eq_of_testBit_eq
    intro b
    rw [Nat.testBit_two_pow_sub_one]
    by_cases hb : b < L
    · obtain ⟨i, hi, e⟩ := fb_onto (f := landN h L) (fun i _ => landN_lt hL) inj hb
      rw [(orN_bit h L L b).mpr ⟨i, hi, e⟩]
      simp [hb]
    · cases hq : (orN h L L).testBit b with
      | false => simp [hb]
      | true =>
        obtain ⟨i, -, e⟩ := (orN_bit h L L b).mp hq
        have := landN_lt (h := h) (i := i) hL
        omega
/-- which beat is ago beats ahead of b -/
def srcN (L b k : Nat) : Nat := (b + 16 * L - k) % L
theorem srcN_step {L b k : Nat} (hL : 0 < L) (hk : k < 9) : srcN L b (k + 1) = if 0 < srcN L b k then srcN L b k - 1 else L - 1 := by
  unfold srcN
  generalize hA : b + 16 * L - (k + 1) = A
  have hB : b + 16 * L - k = A + 1 := by omega
  rw [hB]
  have h1 := Nat.mod_lt A hL
  by_cases e : A % L + 1 = L
  · have hA2 := Nat.div_add_mod A L
    have e2 : A + 1 = L * (A / L + 1) := by rw [Nat.mul_add]; omega
    have : (A + 1) % L = 0 := by rw [e2, Nat.mul_mod_right]
    rw [this]
    simp
    omega
  · have h2 : (A + 1) % L = A % L + 1 := by
      have hA2 := Nat.div_add_mod A L
      conv => lhs; rw [← hA2]
      rw [Nat.add_assoc, Nat.mul_add_mod, Nat.mod_eq_of_lt (by omega)]
    rw [h2]
    simp
/-- the bit of the throw made k beats ago -/
def stB (h : Nat → Nat) (L b k : Nat) : Nat := if k ≤ h (srcN L b k) then 2 ^ (h (srcN L b k) - k) else 0
def stA (h : Nat → Nat) (L b : Nat) : Nat → Nat
  | 0 => 0
  | k + 1 => stA h L b k ||| stB h L b (k + 1)
/-- the state of a row at a beat -/
def stN (h : Nat → Nat) (L b : Nat) : Nat := stA h L b 9
theorem srcN_lt {L b k : Nat} (hL : 0 < L) : srcN L b k < L := Nat.mod_lt _ hL
theorem stA_lt {h : Nat → Nat} {L b : Nat} (hL : 0 < L) (hh : ∀ i, i < L → h i ≤ 9) : ∀ k, stA h L b k < 2 ^ 9
  | 0 => by show 0 < 2 ^ 9; decide
  | k + 1 => by
    refine Nat.or_lt_two_pow (stA_lt hL hh k) ?_
    unfold stB
    have := hh _ (srcN_lt (b := b) (k := k + 1) hL)
    split
    · exact Nat.pow_lt_pow_right (by decide) (by omega)
    · decide
theorem stN_lt {h : Nat → Nat} {L b : Nat} (hL : 0 < L) (hh : ∀ i, i < L → h i ≤ 9) : stN h L b < 512 := stA_lt hL hh 9
/-- by how many throws it repeats -/
def RepN (h : Nat → Nat) (L m : Nat) : Prop := ∀ b, b + m < L → h b = h (b + m)
def PerN (h : Nat → Nat) (L m : Nat) : Prop := 0 < m ∧ m ≤ L ∧ L % m = 0 ∧ RepN h L m
theorem PerN_L (h : Nat → Nat) {L : Nat} (hL : 0 < L) : PerN h L L := ⟨hL, Nat.le_refl _, Nat.mod_self L, fun b hb => absurd hb (by omega)⟩
noncomputable def perN (h : Nat → Nat) (L : Nat) : Nat := fa_first (fun m => @decide (PerN h L m) (Classical.propDecidable _)) (L + 1)
theorem perN_is {h : Nat → Nat} {L m : Nat} (h1 : PerN h L m) (h2 : ∀ k, k < m → ¬ PerN h L k) : perN h L = m := by
  unfold perN
  generalize hp : (fun m => @decide (PerN h L m) (Classical.propDecidable _)) = p
  have pt : ∀ k, p k = true ↔ PerN h L k := fun k => by rw [← hp]; exact @decide_eq_true_iff _ (Classical.propDecidable _)
  rcases Nat.lt_trichotomy (fa_first p (L + 1)) m with q | q | q
  · exact absurd ((pt _).mp (fa_first_yes p (L + 1) (by have := h1.2.1; omega))) (h2 _ q)
  · exact q
  · have := fa_first_no p (L + 1) m q
    rw [(pt m).mpr h1] at this
    cases this
theorem perN_ok {h : Nat → Nat} {L : Nat} (hL : 0 < L) : PerN h L (perN h L) := by
  unfold perN
  generalize hp : (fun m => @decide (PerN h L m) (Classical.propDecidable _)) = p
  have pt : ∀ k, p k = true ↔ PerN h L k := fun k => by rw [← hp]; exact @decide_eq_true_iff _ (Classical.propDecidable _)
  refine (pt _).mp (fa_first_yes p (L + 1) ?_)
  rcases Nat.lt_or_ge (fa_first p (L + 1)) (L + 1) with q | q
  · exact q
  · have := fa_first_no p (L + 1) L (by omega)
    rw [(pt L).mpr (PerN_L h hL)] at this
    cases this
/-- two of the first m states are the same -/
def SamN (h : Nat → Nat) (L m : Nat) : Prop := ∃ i j, i < j ∧ j < m ∧ stN h L i = stN h L j
noncomputable def ballI (h : Nat → Nat) (L : Nat) : Int32 := if clN h L = L then nI (sumN h L / L) else -4
noncomputable def clshI (h : Nat → Nat) (L : Nat) : Int32 := if clN h L = L then -4 else nI (clN h L)
noncomputable def primI (h : Nat → Nat) (L : Nat) : Int32 := if clN h L = L then (@ite _ (SamN h L (perN h L)) (Classical.propDecidable _) 0 1) else -4
theorem sumN_le {h : Nat → Nat} : ∀ {L : Nat}, (∀ i, i < L → h i ≤ 9) → sumN h L ≤ 9 * L
  | 0, _ => Nat.le_refl _
  | L + 1, hh => by
    have := sumN_le (L := L) (fun i hi => hh i (by omega))
    have := hh L (by omega)
    rw [sumN]
    omega
theorem maxN_le {h : Nat → Nat} : ∀ {L : Nat}, (∀ i, i < L → h i ≤ 9) → maxN h L ≤ 9
  | 0, _ => Nat.zero_le _
  | L + 1, hh => by
    have := maxN_le (L := L) (fun i hi => hh i (by omega))
    have := hh L (by omega)
    rw [maxN]
    omega
theorem oddN_le {h : Nat → Nat} : ∀ {L : Nat}, oddN h L ≤ L
  | 0 => Nat.le_refl _
  | L + 1 => by
    have := oddN_le (h := h) (L := L)
    rw [oddN]
    omega
