/-! PURE FACTS of clean rows: their states follow one another -/
section PF
variable {h : Nat → Nat} {L : Nat}
theorem and_bit0 {s k : Nat} : s &&& 2 ^ k = 0 ↔ s / 2 ^ k % 2 = 0 := by
  have hb : s.testBit k = decide (s / 2 ^ k % 2 = 1) := Nat.testBit_eq_decide_div_mod_eq
  constructor
  · intro e
    have e2 : (s &&& 2 ^ k).testBit k = (0 : Nat).testBit k := by rw [e]
    rw [Nat.testBit_and, Nat.testBit_two_pow_self, Bool.and_true, Nat.zero_testBit, hb] at e2
    have := of_decide_eq_false e2
    omega
  · intro e
    apply Nat.eq_of_testBit_eq
    intro i
    rw [Nat.testBit_and, Nat.testBit_two_pow, Nat.zero_testBit]
    by_cases q : k = i
    · subst q
      rw [hb, decide_eq_false (by omega), Bool.false_and]
    · rw [decide_eq_false q, Bool.and_false]
theorem canN_pos {s k : Nat} (hk : 0 < k) : canN s k ↔ s % 2 = 1 ∧ s / 2 ^ k % 2 = 0 := by
  unfold canN
  rw [if_neg (by omega), and_bit0]
theorem srcN_add (hL : 0 < L) {b k : Nat} (hk : k ≤ 9) : (srcN L b k + k) % L = b % L := by
  unfold srcN
  rw [Nat.mod_add_mod, show b + 16 * L - k + k = b + L * 16 by omega, Nat.add_mul_mod_self_left]
theorem srcN_mod (hL : 0 < L) {x k : Nat} (hk : k ≤ 9) : srcN L (x % L) k = srcN L x k := by
  unfold srcN
  have e := Nat.div_add_mod x L
  have : x + 16 * L - k = x % L + 16 * L - k + L * (x / L) := by omega
  rw [this, Nat.add_mul_mod_self_left]
theorem srcN_suc (hL : 0 < L) {b k : Nat} : srcN L (b + 1) (k + 1) = srcN L b k := by
  unfold srcN
  rw [show b + 1 + 16 * L - (k + 1) = b + 16 * L - k by omega]
theorem srcN_zero {b : Nat} (hb : b < L) : srcN L b 0 = b := by
  unfold srcN
  rw [Nat.sub_zero, show 16 * L = L * 16 by omega, Nat.add_mul_mod_self_left, Nat.mod_eq_of_lt hb]
theorem stA_bit2 : ∀ (k b p : Nat), (∃ i, 1 ≤ i ∧ i ≤ k ∧ i ≤ h (srcN L b i) ∧ h (srcN L b i) - i = p) → (stA h L b k).testBit p = true
  | 0, b, p, hb => by
    obtain ⟨i, h1, h2, -⟩ := hb
    omega
  | k + 1, b, p, hb => by
    obtain ⟨i, h1, h2, h3, h4⟩ := hb
    rw [stA, Nat.testBit_or, Bool.or_eq_true]
    by_cases e : i = k + 1
    · subst e
      right
      unfold stB
      rw [if_pos h3, Nat.testBit_two_pow, h4]
      simp
    · left
      exact stA_bit2 k b p ⟨i, h1, by omega, h3, h4⟩
theorem stN_bit (hL : 0 < L) {b p : Nat} : (stN h L b).testBit p = true ↔ ∃ i, 1 ≤ i ∧ i ≤ 9 ∧ i ≤ h (srcN L b i) ∧ h (srcN L b i) - i = p := ⟨fun e => stA_bit hL 9 b p e, fun e => stA_bit2 9 b p e⟩
theorem land_src (hL : 0 < L) {b k p : Nat} (hk : k ≤ 9) (h1 : k ≤ h (srcN L b k)) (h2 : h (srcN L b k) - k = p) : landN h L (srcN L b k) = (b + p) % L := by
  unfold landN
  rw [show srcN L b k + h (srcN L b k) = srcN L b k + k + p by omega, Nat.add_mod, srcN_add hL hk, ← Nat.add_mod]
theorem land_inj (hc : clN h L = L) {i j : Nat} (hi : i < L) (hj : j < L) (e : landN h L i = landN h L j) : i = j := by
  rcases Nat.lt_trichotomy i j with z | z | z
  · exact absurd e (clN_inj hc i j z hj)
  · exact z
  · exact absurd e.symm (clN_inj hc j i z hi)
theorem clean_can (hL : 0 < L) (hh : ∀ i, i < L → h i ≤ 9) (hc : clN h L = L) {b : Nat} (hb : b < L) : canN (stN h L b) (h b) := by
  by_cases h0 : h b = 0
  · unfold canN
    rw [if_pos h0]
    rcases Nat.mod_two_eq_zero_or_one (stN h L b) with z | z
    · exact z
    · have hbit : (stN h L b).testBit 0 = true := by rw [Nat.testBit_zero, z]; rfl
      obtain ⟨k, k1, k2, k3, k4⟩ := (stN_bit hL).mp hbit
      have e := land_src hL k2 k3 k4
      have e2 : landN h L b = (b + 0) % L := by unfold landN; rw [h0]
      have := land_inj hc (srcN_lt hL) hb (e.trans e2.symm)
      rw [this, h0] at k3
      omega
  · refine canN_of (by omega) ((stN_bit hL).mpr ?_) ?_
    · obtain ⟨t, t1, t2, t3⟩ := land_at hL hh hc (N := b + 16 * L) (by omega)
      have hs : ∀ k, t = b + 16 * L - k → srcN L b k = t % L := fun k e => by unfold srcN; rw [e]
      refine ⟨b + 16 * L - t, ?_, by omega, ?_, ?_⟩
      · rcases Nat.eq_zero_or_pos (b + 16 * L - t) with z | z
        · exfalso
          have ht : t = b + 16 * L := by omega
          have : HN h L t = h b := by unfold HN; rw [ht, show 16 * L = L * 16 by omega, Nat.add_mul_mod_self_left, Nat.mod_eq_of_lt hb]
          omega
        · exact z
      · rw [hs _ (by omega)]
        show _ ≤ HN h L t
        omega
      · rw [hs _ (by omega)]
        show HN h L t - _ = 0
        omega
    · cases hbit : (stN h L b).testBit (h b) with
      | false => rfl
      | true =>
        exfalso
        obtain ⟨k, k1, k2, k3, k4⟩ := (stN_bit hL).mp hbit
        have e := land_src hL k2 k3 k4
        have e2 : landN h L b = (b + h b) % L := rfl
        have := land_inj hc (srcN_lt hL) hb (e.trans e2.symm)
        rw [this] at k3 k4
        omega
theorem behN_bit2 {s x p : Nat} : (behN s x).testBit p = (s.testBit (p + 1) || decide (p + 1 = x)) := by
  by_cases h0 : x = 0
  · unfold behN
    rw [if_pos h0, Nat.testBit_div_two]
    have : decide (p + 1 = x) = false := by
      rw [decide_eq_false_iff_not]
      omega
    rw [this, Bool.or_false]
  · rw [behN_bit (by omega)]
    congr 1
    by_cases e : p = x - 1
    · rw [decide_eq_true e, decide_eq_true (by omega)]
    · rw [decide_eq_false e, decide_eq_false (by omega)]
theorem stA_mod (hL : 0 < L) {x : Nat} : ∀ k, k ≤ 9 → stA h L (x % L) k = stA h L x k
  | 0, _ => rfl
  | k + 1, hk => by
    rw [stA, stA, stA_mod hL k (by omega)]
    unfold stB
    rw [srcN_mod hL hk]
theorem stN_next (hL : 0 < L) (hh : ∀ i, i < L → h i ≤ 9) {b : Nat} (hb : b < L) : behN (stN h L b) (h b) = stN h L ((b + 1) % L) := by
  have em : stN h L ((b + 1) % L) = stN h L (b + 1) := stA_mod hL 9 (Nat.le_refl _)
  rw [em]
  apply Nat.eq_of_testBit_eq
  intro p
  rw [behN_bit2, Bool.eq_iff_iff, Bool.or_eq_true, stN_bit hL, stN_bit hL, decide_eq_true_iff]
  constructor
  · rintro (⟨k, k1, k2, k3, k4⟩ | e)
    · have h9 := hh (srcN L b k) (srcN_lt hL)
      refine ⟨k + 1, by omega, by omega, ?_, ?_⟩
      · rw [srcN_suc hL]; omega
      · rw [srcN_suc hL]; omega
    · have e0 : srcN L (b + 1) 1 = b := by rw [srcN_suc hL, srcN_zero hb]
      exact ⟨1, Nat.le_refl _, by omega, by rw [e0]; omega, by rw [e0]; omega⟩
  · rintro ⟨k, k1, k2, k3, k4⟩
    obtain ⟨k, rfl⟩ : ∃ j, k = j + 1 := ⟨k - 1, by omega⟩
    rw [srcN_suc hL] at k3 k4
    rcases Nat.eq_zero_or_pos k with z | z
    · subst z
      rw [srcN_zero hb] at k3 k4
      right
      omega
    · left
      exact ⟨k, z, by omega, by omega, by omega⟩
theorem clean_mod (hL : 0 < L) (hh : ∀ i, i < L → h i ≤ 9) (hc : clN h L = L) : sumN h L % L = 0 := by
  rw [← air_sum hL hh hc]
  exact Nat.mul_mod_right _ _
end PF
/-! counts -/
theorem cnt_sub {p q : Nat → Bool} : ∀ {n : Nat}, (∀ k, k < n → p k = true → q k = true) → fa_cnt p n ≤ fa_cnt q n
  | 0, _ => Nat.le_refl _
  | n + 1, hs => by
    have ih := cnt_sub (n := n) (fun k hk => hs k (by omega))
    by_cases e : p n = true
    · rw [fa_cnt_yes e, fa_cnt_yes (hs n (Nat.lt_succ_self n) e)]
      omega
    · rw [fa_cnt_no (by simpa using e)]
      by_cases e2 : q n = true
      · rw [fa_cnt_yes e2]; omega
      · rw [fa_cnt_no (by simpa using e2)]; exact ih
theorem cnt_lt {p q : Nat → Bool} : ∀ {n : Nat}, (∀ k, k < n → p k = true → q k = true) → ∀ i, i < n → p i = false → q i = true → fa_cnt p n < fa_cnt q n
  | 0, _, i, hi, _, _ => absurd hi (Nat.not_lt_zero i)
  | n + 1, hs, i, hi, h1, h2 => by
    by_cases ei : i = n
    · subst ei
      have := cnt_sub (n := i) (fun k hk => hs k (by omega))
      rw [fa_cnt_no h1, fa_cnt_yes h2]
      omega
    · have ih := cnt_lt (n := n) (fun k hk => hs k (by omega)) i (by omega) h1 h2
      by_cases e : p n = true
      · rw [fa_cnt_yes e, fa_cnt_yes (hs n (Nat.lt_succ_self n) e)]
        omega
      · rw [fa_cnt_no (by simpa using e)]
        by_cases e2 : q n = true
        · rw [fa_cnt_yes e2]; omega
        · rw [fa_cnt_no (by simpa using e2)]; exact ih
theorem cnt_all : ∀ n, fa_cnt (fun _ => true) n = n
  | 0 => rfl
  | n + 1 => by rw [fa_cnt_yes rfl, cnt_all n]
theorem cnt_mono (p : Nat → Bool) {m n : Nat} (h : m ≤ n) : fa_cnt p m ≤ fa_cnt p n := by
  obtain ⟨d, rfl⟩ : ∃ d, n = m + d := ⟨n - m, by omega⟩
  induction d with
  | zero => exact Nat.le_refl _
  | succ d ih =>
    have ih := ih (by omega)
    by_cases e : p (m + d) = true
    · rw [show m + (d + 1) = (m + d) + 1 by omega, fa_cnt_yes e]; omega
    · rw [show m + (d + 1) = (m + d) + 1 by omega, fa_cnt_no (by simpa using e)]; exact ih
theorem first_is {p : Nat → Bool} {n k : Nat} (hk : k < n) (h1 : p k = true) (h2 : ∀ i, i < k → p i = false) : fa_first p n = k := by
  rcases Nat.lt_trichotomy (fa_first p n) k with z | z | z
  · have := fa_first_yes p n (by omega)
    rw [h2 _ z] at this
    cases this
  · exact z
  · have := fa_first_no p n k z
    rw [h1] at this
    cases this
theorem first_lt {p : Nat → Bool} {n k : Nat} (hk : k < n) (h1 : p k = true) : fa_first p n < n := by
  rcases Nat.lt_or_ge (fa_first p n) n with z | z
  · exact z
  · have := fa_first_no p n k (by omega)
    rw [h1] at this
    cases this
theorem first_none {p : Nat → Bool} {n : Nat} (h : ∀ i, i < n → p i = false) : fa_first p n = n := by
  rcases Nat.lt_or_ge (fa_first p n) n with z | z
  · have := fa_first_yes p n z
    rw [h _ z] at this
    cases this
  · exact Nat.le_antisymm (fa_first_le p n) z
/-! orders -/
section RK
variable {key : Nat → Int32} {c : Nat}
theorem ah_iff {i j : Nat} : ahB key i j = true ↔ key i < key j ∨ (key i = key j ∧ i < j) := by unfold ahB; exact decide_eq_true_iff
theorem ah_no {i : Nat} : ahB key i i = false := by
  cases e : ahB key i i with
  | false => rfl
  | true =>
    rcases ah_iff.mp e with z | z
    · rw [fa_lt] at z; omega
    · omega
theorem ah_tr {i j k : Nat} (h1 : ahB key i j = true) (h2 : ahB key j k = true) : ahB key i k = true := by
  rw [ah_iff] at h1 h2 ⊢
  simp only [fa_lt, fa_eq] at h1 h2 ⊢
  omega
theorem ah_tot {i j : Nat} (h : i ≠ j) : ahB key i j = true ∨ ahB key j i = true := by
  rw [ah_iff, ah_iff]
  simp only [fa_lt, fa_eq]
  omega
theorem rnk_lt {i j : Nat} (hi : i < c) (h : ahB key i j = true) : rnkN key c i < rnkN key c j := cnt_lt (fun k _ hk => ah_tr hk h) i hi ah_no h
theorem rnk_c {i : Nat} (hi : i < c) : rnkN key c i < c := by
  have := cnt_lt (p := fun j => ahB key j i) (q := fun _ => true) (n := c) (fun _ _ _ => rfl) i hi ah_no rfl
  rwa [cnt_all] at this
theorem rnk_at {p : Nat} (hp : p < c) : ∃ i, i < c ∧ rnkN key c i = p ∧ fa_first (fun i => decide (rnkN key c i = p)) c = i := by
  obtain ⟨i, hi, e⟩ := fb_onto (f := rnkN key c) (n := c) (fun i hi => rnk_c hi) (fun i j hij hj e => by
    rcases ah_tot (key := key) (Nat.ne_of_lt hij) with z | z
    · have := rnk_lt (c := c) (by omega) z; omega
    · have := rnk_lt (c := c) hj z; omega) hp
  have hlt := first_lt (p := fun i => decide (rnkN key c i = p)) hi (decide_eq_true e)
  exact ⟨_, hlt, by simpa using fa_first_yes (fun i => decide (rnkN key c i = p)) c hlt, rfl⟩
theorem rnk_next {i j p q : Nat} (hi : i < c) (hj : j < c) (h1 : rnkN key c i = p) (h2 : rnkN key c j = q) (hpq : p < q) : ahB key i j = true := by
  have hne : i ≠ j := fun e => by subst e; omega
  rcases ah_tot (key := key) hne with z | z
  · exact z
  · have := rnk_lt (c := c) hj z; omega
end RK
/-! throws that can be made, by their places -/
theorem cou_at {s k : Nat} (hk : k < 10) (hc : canK s k = true) : fa_first (couB (nI (canC s k)) s) 10 = k := by
  refine first_is hk (by unfold couB; rw [hc]; simp) fun i hi => ?_
  unfold couB
  cases e : canK s i with
  | false => rfl
  | true =>
    have h1 : canC s (i + 1) = canC s i + 1 := fa_cnt_yes e
    have h2 : canC s (i + 1) ≤ canC s k := cnt_mono _ (by omega)
    have h3 : canC s k ≤ k := fa_cnt_le _ _
    have : nI (canC s i) ≠ nI (canC s k) := fun e => by
      rw [nI_eq (by omega) (by omega)] at e
      omega
    simp [this]
theorem cou_no {s : Nat} {x : Int32} (hx : ∀ i, i < canC s 10 → nI i ≠ x) : fa_first (couB x s) 10 = 10 := by
  refine first_none fun i hi => ?_
  unfold couB
  cases e : canK s i with
  | false => rfl
  | true =>
    have h1 : canC s (i + 1) = canC s i + 1 := fa_cnt_yes e
    have h2 : canC s (i + 1) ≤ canC s 10 := cnt_mono _ (by omega)
    simp [hx (canC s i) (by omega)]
/-! joins, throw by throw -/
theorem PC_step {k s t c : Nat} (hP : PC k s t c) {j : Nat} (hj : j < k) {u : Nat} (hu : PC j s u (c / 10 ^ (k - j))) : canN u (digN c k j) ∧ PC (j + 1) s (behN u (digN c k j)) (c / 10 ^ (k - (j + 1))) := by
  have hP2 : PC ((j + 1) + (k - (j + 1))) s t c := by rw [show (j + 1) + (k - (j + 1)) = k by omega]; exact hP
  obtain ⟨v, h1, -⟩ := PC_cut hP2
  have h0 := h1
  obtain ⟨u2, c', x, g1, g2, g3, g4, g5⟩ := h1
  have e10 : 10 ^ (k - j) = 10 ^ (k - (j + 1)) * 10 := by rw [show k - j = (k - (j + 1)) + 1 by omega, Nat.pow_succ]
  have ed : c / 10 ^ (k - j) = c' := by
    rw [e10, ← Nat.div_div_eq_div_mul, g5]
    omega
  have ex : digN c k j = x := by
    unfold digN
    rw [show k - 1 - j = k - (j + 1) by omega, g5]
    omega
  rw [ed] at hu
  have := PC_det hu g1
  subst this
  rw [ex]
  refine ⟨g3, ?_⟩
  rw [g4]
  exact h0
theorem PC_ne {k s t c : Nat} (hD : Dst s t k) {j u c' : Nat} (hj : j < k) (hu : PC j s u c') : u ≠ t := fun e => by
  subst e
  have := hD.2 j (PC_PE hu)
  omega
theorem PC_end {k s t c u : Nat} (hP : PC k s t c) (hu : PC k s u (c / 10 ^ (k - k))) : u = t := by
  rw [Nat.sub_self, Nat.pow_zero, Nat.div_one] at hu
  exact PC_det hu hP
theorem PC_beg {k s t c : Nat} (hP : PC k s t c) : PC 0 s s (c / 10 ^ (k - 0)) := by
  have hP2 : PC (0 + k) s t c := by rw [Nat.zero_add]; exact hP
  obtain ⟨v, h1, -⟩ := PC_cut hP2
  exact ⟨rfl, h1.2⟩
theorem dst_zero {s t k : Nat} (hD : Dst s t k) : k = 0 ↔ s = t := ⟨fun e => by subst e; exact hD.1, fun e => Nat.le_zero.mp (hD.2 0 e)⟩
theorem cod_low {s t k : Nat} (hD : Dst s t k) : LowC s t k (codN s t) := by
  obtain ⟨c, hc⟩ := LowC.is hD.1
  rw [codN_is hD hc]
  exact hc
