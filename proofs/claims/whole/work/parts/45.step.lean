/-! a clean row can be thrown for ever -/
section STEP
variable {h : Nat → Nat} {L : Nat}
theorem stA_set (hL : 0 < L) : ∀ (k b p i : Nat), 1 ≤ i → i ≤ k → i ≤ h (srcN L b i) → h (srcN L b i) - i = p → (stA h L b k).testBit p = true
  | 0, b, p, i, h1, h2, _, _ => absurd h1 (by omega)
  | k + 1, b, p, i, h1, h2, h3, h4 => by
    show (stA h L b k ||| stB h L b (k + 1)).testBit p = true
    rw [Nat.testBit_or, Bool.or_eq_true]
    rcases Nat.lt_or_ge i (k + 1) with z | z
    · exact Or.inl (stA_set hL k b p i h1 (by omega) h3 h4)
    · have e : i = k + 1 := by omega
      subst e
      right
      unfold stB
      rw [if_pos h3, Nat.testBit_two_pow, h4]
      exact decide_eq_true rfl
theorem st_bit (hL : 0 < L) (b p : Nat) : (stN h L b).testBit p = true ↔ ∃ i, 1 ≤ i ∧ i ≤ 9 ∧ HN h L (b + 16 * L - i) = i + p := by
  constructor
  · intro hb
    obtain ⟨i, h1, h2, h3, h4⟩ := stA_bit hL 9 b p hb
    exact ⟨i, h1, h2, show h (srcN L b i) = i + p by omega⟩
  · rintro ⟨i, h1, h2, h3⟩
    have h3 : h (srcN L b i) = i + p := h3
    exact stA_set hL 9 b p i h1 h2 (by omega) (by omega)
theorem HN_16 (b : Nat) (hb : b < L) : HN h L (b + 16 * L) = h b := by
  unfold HN
  rw [Nat.add_mul_mod_self_right, Nat.mod_eq_of_lt hb]
theorem st_can (hL : 0 < L) (hh : ∀ i, i < L → h i ≤ 9) (hc : clN h L = L) {b : Nat} (hb : b < L) : canN (stN h L b) (h b) := by
  have e := HN_16 (h := h) b hb
  rcases Nat.eq_zero_or_pos (h b) with z | z
  · rw [z]
    show (if (0 : Nat) = 0 then stN h L b % 2 = 0 else _)
    rw [if_pos rfl]
    have hf : (stN h L b).testBit 0 ≠ true := by
      intro hb0
      obtain ⟨i, h1, h2, h3⟩ := (st_bit hL b 0).mp hb0
      have := land_one hL hc (t := b + 16 * L - i) (t' := b + 16 * L) (by rw [h3, e, z]; omega)
      omega
    rw [odd_bit] at hf
    have := of_decide_eq_false (Bool.eq_false_iff.mpr hf)
    omega
  · refine canN_of z ?_ ?_
    · obtain ⟨t, t1, t2, t3⟩ := land_at hL hh hc (N := b + 16 * L) (by omega)
      have hne : t ≠ b + 16 * L := fun q => by rw [q, e] at t3; omega
      exact (st_bit hL b 0).mpr ⟨b + 16 * L - t, by omega, by omega, by rw [show b + 16 * L - (b + 16 * L - t) = t by omega]; omega⟩
    · cases hv : (stN h L b).testBit (h b) with
      | false => rfl
      | true =>
        obtain ⟨i, h1, h2, h3⟩ := (st_bit hL b (h b)).mp hv
        have := land_one hL hc (t := b + 16 * L - i) (t' := b + 16 * L) (by rw [h3, e]; omega)
        omega
theorem st_per (hL : 0 < L) : stN h L (0 + L) = stN h L 0 := by
  apply Nat.eq_of_testBit_eq
  intro p
  have key : ∀ i, i ≤ 9 → HN h L (0 + L + 16 * L - i) = HN h L (0 + 16 * L - i) := fun i hi => by
    rw [show 0 + L + 16 * L - i = (0 + 16 * L - i) + L by omega, HN_per]
  have : (stN h L (0 + L)).testBit p = true ↔ (stN h L 0).testBit p = true := by
    rw [st_bit hL, st_bit hL]
    constructor
    · rintro ⟨i, h1, h2, h3⟩; exact ⟨i, h1, h2, by rw [← key i h2]; exact h3⟩
    · rintro ⟨i, h1, h2, h3⟩; exact ⟨i, h1, h2, by rw [key i h2]; exact h3⟩
  cases a : (stN h L (0 + L)).testBit p <;> cases c : (stN h L 0).testBit p <;> simp_all
theorem st_next0 (hL : 0 < L) (hh : ∀ i, i < L → h i ≤ 9) {b : Nat} (hb : b < L) : behN (stN h L b) (h b) = stN h L (b + 1) := by
  have e := HN_16 (h := h) b hb
  apply Nat.eq_of_testBit_eq
  intro p
  have hr : (stN h L (b + 1)).testBit p = true ↔ ((stN h L b).testBit (p + 1) = true ∨ h b = p + 1) := by
    rw [st_bit hL, st_bit hL]
    constructor
    · rintro ⟨i, h1, h2, h3⟩
      rcases Nat.lt_or_ge 1 i with z | z
      · exact Or.inl ⟨i - 1, by omega, by omega, by rw [show b + 16 * L - (i - 1) = b + 1 + 16 * L - i by omega, h3]; omega⟩
      · right
        have ei : i = 1 := by omega
        subst ei
        rw [show b + 1 + 16 * L - 1 = b + 16 * L by omega, e] at h3
        omega
    · rintro (⟨i, h1, h2, h3⟩ | z)
      · have := HN_le hL hh (b + 16 * L - i)
        exact ⟨i + 1, by omega, by omega, by rw [show b + 1 + 16 * L - (i + 1) = b + 16 * L - i by omega, h3]; omega⟩
      · exact ⟨1, by omega, by omega, by rw [show b + 1 + 16 * L - 1 = b + 16 * L by omega, e, z]; omega⟩
  have hl : (behN (stN h L b) (h b)).testBit p = true ↔ ((stN h L b).testBit (p + 1) = true ∨ h b = p + 1) := by
    rcases Nat.eq_zero_or_pos (h b) with z | z
    · rw [behN, if_pos z, Nat.testBit_div_two, z]
      constructor
      · intro q; exact Or.inl q
      · rintro (q | q)
        · exact q
        · omega
    · rw [behN_bit z, Bool.or_eq_true]
      constructor
      · rintro (q | q)
        · exact Or.inl q
        · have := of_decide_eq_true q; right; omega
      · rintro (q | q)
        · exact Or.inl q
        · right; exact decide_eq_true (by omega)
  cases a : (behN (stN h L b) (h b)).testBit p <;> cases c : (stN h L (b + 1)).testBit p <;> simp_all
/-- thrown one after the other, from the beat 0 on -/
theorem once_st (hL : 0 < L) (hh : ∀ i, i < L → h i ≤ 9) {N : StT} (hs : sS N = stN h L 0) : ∀ q, q ≤ L → sS (thrA N h q) = stN h L q
  | 0, _ => hs
  | q + 1, hq => by
    show behN (sS (thrA N h q)) (h q) = _
    rw [once_st hL hh hs q (by omega), st_next0 hL hh (by omega)]
/-- a join's throws can be made -/
theorem join_st : ∀ {k s t c : Nat}, PC k s t c → ∀ {N : StT}, sS N = s → ∀ q, q ≤ k → ∃ v c', PC q s v c' ∧ sS (thrA N (digN c k) q) = v ∧ (q < k → canN v (digN c k q))
  | k, s, t, c, hp, N, hN, q, hq => by
    have cut : ∀ q, q ≤ k → ∃ v, PC q s v (c / 10 ^ (k - q)) ∧ PE Edg (k - q) v t := fun q hq => by
      have e : q + (k - q) = k := by omega
      rw [← e] at hp
      exact PC_cut hp
    have step : ∀ q, q < k → ∀ v, PC q s v (c / 10 ^ (k - q)) → canN v (digN c k q) ∧ PC (q + 1) s (behN v (digN c k q)) (c / 10 ^ (k - (q + 1))) := fun q hq v hv => by
      obtain ⟨v', hv', -⟩ := cut (q + 1) hq
      have hv2 := hv'
      obtain ⟨u, c2, y, y1, y2, y3, y4, y5⟩ := hv'
      have e1 : c / 10 ^ (k - q) = c / 10 ^ (k - (q + 1)) / 10 := by
        rw [show k - q = (k - (q + 1)) + 1 by omega, Nat.pow_succ, Nat.div_div_eq_div_mul]
      have e2 : c2 = c / 10 ^ (k - q) := by rw [e1, y5]; omega
      have e3 : y = digN c k q := by
        unfold digN
        rw [show k - 1 - q = k - (q + 1) by omega, y5]
        omega
      rw [e2] at y1
      have e4 := PC_det y1 hv
      rw [e4] at y3 y4
      rw [← e3]
      exact ⟨y3, by rw [y4]; exact hv2⟩
    have all : ∀ q, q ≤ k → PC q s (sS (thrA N (digN c k) q)) (c / 10 ^ (k - q)) := by
      intro q
      induction q with
      | zero =>
        intro _
        obtain ⟨v, hv, -⟩ := cut 0 (Nat.zero_le _)
        have e : s = v := hv.1
        show PC 0 s (sS N) _
        rw [hN, show s = v from e]
        rw [e] at hv
        exact hv
      | succ q ih => intro hq; exact (step q hq _ (ih (by omega))).2
    exact ⟨_, _, all q hq, rfl, fun z => (step q z _ (all q hq)).1⟩
end STEP
