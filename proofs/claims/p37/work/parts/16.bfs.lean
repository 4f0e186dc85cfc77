/-! WAYS THROUGH THE STATES: throws as steps, codes of ways, the search level by level -/
def canB (s h : Nat) : Bool := if h = 0 then s % 2 == 0 else (s % 2 == 1 && (s &&& 2 ^ h) == 0)
theorem canB_iff {s h : Nat} : canB s h = true ↔ canN s h := by
  unfold canB canN
  by_cases e : h = 0
  · rw [if_pos e, if_pos e]; simp
  · rw [if_neg e, if_neg e]; simp
def edgeOk (v h : Nat) : Bool := !canB v h || (decide (behN v h < 512) && decide (popc (behN v h) = popc v) && (if h = 0 then decide (2 * behN v h = v) else (decide (behN v h &&& 2 ^ (h - 1) ≠ 0) && decide (v = 2 * (behN v h - 2 ^ (h - 1)) + 1) && decide (2 ^ (h - 1) ≤ behN v h))))
theorem edge_all : ((List.range 512).all fun v => (List.range 10).all fun h => edgeOk v h) = true := by decide +kernel
def backOk (u h : Nat) : Bool := if h = 0 then (decide (512 ≤ 2 * u) || (canB (2 * u) 0 && decide (behN (2 * u) 0 = u))) else (decide (u &&& 2 ^ (h - 1) = 0) || decide (512 ≤ 2 * (u - 2 ^ (h - 1)) + 1) || (canB (2 * (u - 2 ^ (h - 1)) + 1) h && decide (behN (2 * (u - 2 ^ (h - 1)) + 1) h = u)))
theorem back_all : ((List.range 512).all fun u => (List.range 10).all fun h => backOk u h) = true := by decide +kernel
theorem edge_at {v h : Nat} (hv : v < 512) (hh : h ≤ 9) (hc : canN v h) : behN v h < 512 ∧ popc (behN v h) = popc v ∧ (if h = 0 then 2 * behN v h = v else (behN v h &&& 2 ^ (h - 1) ≠ 0 ∧ v = 2 * (behN v h - 2 ^ (h - 1)) + 1 ∧ 2 ^ (h - 1) ≤ behN v h)) := by
  have h1 := List.all_eq_true.mp (List.all_eq_true.mp edge_all v (List.mem_range.mpr hv)) h (List.mem_range.mpr (by omega))
  unfold edgeOk at h1
  rw [canB_iff.mpr hc] at h1
  by_cases e : h = 0
  · rw [if_pos e] at h1 ⊢
    simpa [and_assoc] using h1
  · rw [if_neg e] at h1 ⊢
    simpa [and_assoc] using h1
theorem back_0 {u : Nat} (hu : u < 512) (h : 2 * u < 512) : canN (2 * u) 0 ∧ behN (2 * u) 0 = u := by
  have h1 := List.all_eq_true.mp (List.all_eq_true.mp back_all u (List.mem_range.mpr hu)) 0 (List.mem_range.mpr (by omega))
  unfold backOk at h1
  rw [if_pos rfl] at h1
  have h2 : ¬ 512 ≤ 2 * u := by omega
  simp [h2] at h1
  exact ⟨canB_iff.mp h1.1, h1.2⟩
theorem back_s {u h : Nat} (hu : u < 512) (h0 : 0 < h) (hh : h ≤ 9) (hb : u &&& 2 ^ (h - 1) ≠ 0) (hv : 2 * (u - 2 ^ (h - 1)) + 1 < 512) : canN (2 * (u - 2 ^ (h - 1)) + 1) h ∧ behN (2 * (u - 2 ^ (h - 1)) + 1) h = u := by
  have h1 := List.all_eq_true.mp (List.all_eq_true.mp back_all u (List.mem_range.mpr hu)) h (List.mem_range.mpr (by omega))
  unfold backOk at h1
  rw [if_neg (by omega)] at h1
  have h2 : ¬ 512 ≤ 2 * (u - 2 ^ (h - 1)) + 1 := by omega
  have h3 : ¬ u &&& 2 ^ (h - 1) = 0 := hb
  simp only [h2, h3, decide_false, Bool.false_or, Bool.and_eq_true, decide_eq_true_eq] at h1
  exact ⟨canB_iff.mp h1.1, h1.2⟩
def Edg (u v : Nat) : Prop := ∃ h, h ≤ 9 ∧ canN u h ∧ behN u h = v
def PE (E : Nat → Nat → Prop) : Nat → Nat → Nat → Prop
  | 0, s, v => s = v
  | k + 1, s, v => ∃ u, PE E k s u ∧ E u v
/-- a way of k throws, told by its code -/
def PC : Nat → Nat → Nat → Nat → Prop
  | 0, s, v, c => s = v ∧ c = 0
  | k + 1, s, v, c => ∃ u c' h, PC k s u c' ∧ h ≤ 9 ∧ canN u h ∧ behN u h = v ∧ c = c' * 10 + h
theorem PC_PE : ∀ {k s v c : Nat}, PC k s v c → PE Edg k s v
  | 0, _, _, _, h => h.1
  | k + 1, _, _, _, h => by
    obtain ⟨u, c', x, h1, h2, h3, h4, -⟩ := h
    exact ⟨u, PC_PE h1, x, h2, h3, h4⟩
theorem PE_PC : ∀ {k s v : Nat}, PE Edg k s v → ∃ c, PC k s v c
  | 0, _, _, h => ⟨0, h, rfl⟩
  | k + 1, _, _, h => by
    obtain ⟨u, h1, x, h2, h3, h4⟩ := h
    obtain ⟨c, h5⟩ := PE_PC h1
    exact ⟨c * 10 + x, u, c, x, h5, h2, h3, h4, rfl⟩
theorem PE_lt : ∀ {k s v : Nat}, s < 512 → PE Edg k s v → v < 512
  | 0, _, _, hs, h => by have h : _ = _ := h; omega
  | k + 1, _, _, hs, h => by
    obtain ⟨u, h1, x, h2, h3, h4⟩ := h
    have := (edge_at (PE_lt hs h1) h2 h3).1
    omega
theorem PE_cons {E : Nat → Nat → Prop} : ∀ {k s u v : Nat}, E s u → PE E k u v → PE E (k + 1) s v
  | 0, s, u, v, h, h1 => ⟨s, rfl, by have h1 : u = v := h1; rw [← h1]; exact h⟩
  | k + 1, s, u, v, h, h1 => by
    obtain ⟨x, h2, h3⟩ := h1
    exact ⟨x, PE_cons h h2, h3⟩
theorem PE_uncons {E : Nat → Nat → Prop} : ∀ {k s v : Nat}, PE E (k + 1) s v → ∃ u, E s u ∧ PE E k u v
  | 0, s, v, h => by
    obtain ⟨u, h1, h2⟩ := h
    have h1 : s = u := h1
    subst h1
    exact ⟨v, h2, rfl⟩
  | k + 1, s, v, h => by
    obtain ⟨x, h1, h2⟩ := h
    obtain ⟨u, h3, h4⟩ := PE_uncons h1
    exact ⟨u, h3, x, h4, h2⟩
/-- backwards, among the states -/
def Bdg (u v : Nat) : Prop := v < 512 ∧ Edg v u
theorem PE_back : ∀ {k g v : Nat}, PE Bdg k g v → PE Edg k v g
  | 0, _, _, h => h.symm
  | k + 1, _, _, h => by
    obtain ⟨u, h1, -, h2⟩ := h
    exact PE_cons h2 (PE_back h1)
theorem PE_fwd : ∀ {k g v : Nat}, v < 512 → PE Edg k v g → PE Bdg k g v
  | 0, _, _, _, h => h.symm
  | k + 1, _, v, hv, h => by
    obtain ⟨u, h1, h2⟩ := PE_uncons h
    have hu : u < 512 := by
      obtain ⟨x, q1, q2, q3⟩ := h1
      rw [← q3]
      exact (edge_at hv q1 q2).1
    exact ⟨u, PE_fwd hu h2, hv, h1⟩
/-! the search -/
def BI (E : Nat → Nat → Prop) (s : Nat) (D : Nat → Option Nat) (q : Nat → Nat) (m nx : Nat) : Prop :=
  D s = some 0 ∧ q 0 = s ∧ 0 < m ∧ nx ≤ m ∧ (∀ i, i < m → q i < 512 ∧ ∃ k, D (q i) = some k) ∧ (∀ i j, i < j → j < m → q i ≠ q j) ∧ (∀ v k, D v = some k → ∃ i, i < m ∧ q i = v) ∧
  (∀ v k, D v = some k → PE E k s v) ∧ (∀ i j k k', i ≤ j → j < m → D (q i) = some k → D (q j) = some k' → k ≤ k') ∧
  (∀ i k v, i < nx → D (q i) = some k → E (q i) v → ∃ k', D v = some k' ∧ k' ≤ k + 1) ∧
  (∀ k, nx < m → D (q nx) = some k → ∀ j k', j < m → D (q j) = some k' → k' ≤ k + 1)
def upD (D : Nat → Option Nat) (v k : Nat) : Nat → Option Nat := fun x => if x = v then some k else D x
def upQ (q : Nat → Nat) (m v : Nat) : Nat → Nat := fun i => if i = m then v else q i
theorem BI.init (E : Nat → Nat → Prop) {s : Nat} (hs : s < 512) (q : Nat → Nat) : BI E s (upD (fun _ => none) s 0) (upQ q 0 s) 1 0 := by
  refine ⟨if_pos rfl, if_pos rfl, by decide, by decide, fun i hi => ?_, fun i j h1 h2 => by omega, fun v k h => ?_, fun v k h => ?_, fun i j k k' h1 h2 h3 h4 => ?_, fun i k v h => by omega, fun k _ h j k' hj h2 => ?_⟩
  · obtain rfl : i = 0 := by omega
    exact ⟨hs, 0, if_pos rfl⟩
  · by_cases e : v = s
    · exact ⟨0, by decide, e.symm⟩
    · unfold upD at h; rw [if_neg e] at h; cases h
  · by_cases e : v = s
    · unfold upD at h; rw [if_pos e] at h; cases h; exact e.symm
    · unfold upD at h; rw [if_neg e] at h; cases h
  · obtain rfl : i = j := by omega
    rw [h3] at h4; cases h4; exact Nat.le_refl _
  · obtain rfl : j = 0 := by omega
    rw [h] at h2; cases h2; omega
theorem BI.m_le {E : Nat → Nat → Prop} {s m nx : Nat} {D : Nat → Option Nat} {q : Nat → Nat} (h : BI E s D q m nx) : m ≤ 512 := fb_holes 512 m q (fun i hi => (h.2.2.2.2.1 i hi).1) h.2.2.2.2.2.1
theorem BI.free {E : Nat → Nat → Prop} {s m nx v : Nat} {D : Nat → Option Nat} {q : Nat → Nat} (h : BI E s D q m nx) (hv : v < 512) (hD : D v = none) : m < 512 := by
  rcases Nat.lt_or_ge m 512 with z | z
  · exact z
  · have e : m = 512 := Nat.le_antisymm h.m_le z
    obtain ⟨i, hi, hq⟩ := fb_onto (n := 512) (f := q) (fun i hi => (h.2.2.2.2.1 i (by omega)).1) (fun i j h1 h2 => h.2.2.2.2.2.1 i j h1 (by omega)) hv
    obtain ⟨k, hk⟩ := (h.2.2.2.2.1 i (by omega)).2
    rw [hq, hD] at hk
    cases hk
theorem BI.add {E : Nat → Nat → Prop} {s m nx v d : Nat} {D : Nat → Option Nat} {q : Nat → Nat} (h : BI E s D q m nx) (hnx : nx < m) (hd : D (q nx) = some d) (he : E (q nx) v) (hv : v < 512) (hD : D v = none) : BI E s (upD D v (d + 1)) (upQ q m v) (m + 1) nx := by
  obtain ⟨h1, h2, h3, h4, h5, h6, h7, h8, h9, h10, h11⟩ := h
  have ne : ∀ i, i < m → q i ≠ v := fun i hi e => by
    obtain ⟨k, hk⟩ := (h5 i hi).2
    rw [e, hD] at hk; cases hk
  have hq : ∀ i, i < m → upQ q m v i = q i := fun i hi => if_neg (by omega)
  have hqm : upQ q m v m = v := if_pos rfl
  have hDq : ∀ i, i < m → upD D v (d + 1) (q i) = D (q i) := fun i hi => if_neg (ne i hi)
  have hDv : upD D v (d + 1) v = some (d + 1) := if_pos rfl
  have hDs : ∀ x k, D x = some k → upD D v (d + 1) x = some k := fun x k hx => by
    by_cases e : x = v
    · rw [e, hD] at hx; cases hx
    · exact (if_neg e).trans hx
  have key : ∀ i k, i < m + 1 → upD D v (d + 1) (upQ q m v i) = some k → (i < m ∧ D (q i) = some k) ∨ (i = m ∧ k = d + 1) := fun i k hi hk => by
    rcases Nat.lt_or_ge i m with z | z
    · rw [hq i z, hDq i z] at hk
      exact Or.inl ⟨z, hk⟩
    · obtain rfl : i = m := by omega
      rw [hqm, hDv] at hk
      cases hk
      exact Or.inr ⟨rfl, rfl⟩
  refine ⟨hDs _ _ h1, (hq 0 h3).trans h2, by omega, by omega, fun i hi => ?_, fun i j hij hj => ?_, fun x k hx => ?_, fun x k hx => ?_, fun i j k k' hij hj hk hk' => ?_, fun i k x hi hk hx => ?_, fun k _ hk j k' hj hk' => ?_⟩
  · rcases Nat.lt_or_ge i m with z | z
    · rw [hq i z, hDq i z]; exact h5 i z
    · obtain rfl : i = m := by omega
      rw [hqm]; exact ⟨hv, _, hDv⟩
  · rcases Nat.lt_or_ge j m with z | z
    · rw [hq i (by omega), hq j z]; exact h6 i j hij z
    · obtain rfl : j = m := by omega
      rw [hq i hij, hqm]; exact ne i hij
  · by_cases e : x = v
    · exact ⟨m, Nat.lt_succ_self m, by rw [hqm]; exact e.symm⟩
    · rw [show upD D v (d + 1) x = D x from if_neg e] at hx
      obtain ⟨i, hi, e2⟩ := h7 x k hx
      exact ⟨i, by omega, by rw [hq i hi]; exact e2⟩
  · by_cases e : x = v
    · rw [e, hDv] at hx
      cases hx
      rw [e]
      exact ⟨q nx, h8 _ _ hd, he⟩
    · rw [show upD D v (d + 1) x = D x from if_neg e] at hx
      exact h8 x k hx
  · rcases key j k' hj hk' with ⟨a1, a2⟩ | ⟨a1, a2⟩ <;> rcases key i k (by omega) hk with ⟨b1, b2⟩ | ⟨b1, b2⟩
    · exact h9 i j k k' hij a1 b2 a2
    · omega
    · rw [a2]; exact h11 d hnx hd i k b1 b2
    · omega
  · rw [hq i (by omega)] at hk hx
    rw [hDq i (by omega)] at hk
    obtain ⟨k', a1, a2⟩ := h10 i k x hi hk hx
    exact ⟨k', hDs _ _ a1, a2⟩
  · rw [hq nx hnx, hDq nx hnx, hd] at hk
    cases hk
    rcases key j k' hj hk' with ⟨a1, a2⟩ | ⟨a1, a2⟩
    · exact h11 d hnx hd j k' a1 a2
    · omega
theorem BI.next {E : Nat → Nat → Prop} {s m nx d : Nat} {D : Nat → Option Nat} {q : Nat → Nat} (h : BI E s D q m nx) (hnx : nx < m) (hd : D (q nx) = some d) (hall : ∀ v, E (q nx) v → ∃ k', D v = some k' ∧ k' ≤ d + 1) : BI E s D q m (nx + 1) := by
  obtain ⟨h1, h2, h3, h4, h5, h6, h7, h8, h9, h10, h11⟩ := h
  refine ⟨h1, h2, h3, hnx, h5, h6, h7, h8, h9, fun i k v hi hk hv => ?_, fun k hn hk j k' hj hk' => ?_⟩
  · rcases Nat.lt_or_ge i nx with z | z
    · exact h10 i k v z hk hv
    · obtain rfl : i = nx := by omega
      rw [hd] at hk
      cases hk
      exact hall v hv
  · have a1 := h9 nx (nx + 1) d k (by omega) hn hd hk
    have a2 := h11 d hnx hd j k' hj hk'
    omega
theorem BI.near {E : Nat → Nat → Prop} {s m nx : Nat} {D : Nat → Option Nat} {q : Nat → Nat} (h : BI E s D q m nx) : ∀ {k v : Nat}, PE E k s v → (nx < m → ∀ c, D (q nx) = some c → k ≤ c) → ∃ k', D v = some k' ∧ k' ≤ k
  | 0, v, hp, _ => ⟨0, by have hp : s = v := hp; rw [← hp]; exact h.1, Nat.le_refl _⟩
  | k + 1, v, hp, hk => by
    obtain ⟨u, h1, h2⟩ := hp
    obtain ⟨k1, a1, a2⟩ := BI.near h h1 (fun z c hc => by have := hk z c hc; omega)
    obtain ⟨i, hi, hq⟩ := h.2.2.2.2.2.2.1 u k1 a1
    have hin : i < nx := by
      rcases Nat.lt_or_ge i nx with z | z
      · exact z
      · have hnm : nx < m := by omega
        obtain ⟨c, hc⟩ := (h.2.2.2.2.1 nx hnm).2
        have b1 := hk hnm c hc
        have b2 := h.2.2.2.2.2.2.2.2.1 nx i c k1 z hi hc (by rw [hq]; exact a1)
        omega
    obtain ⟨k', b1, b2⟩ := h.2.2.2.2.2.2.2.2.2.1 i k1 v hin (by rw [hq]; exact a1) (by rw [hq]; exact h2)
    exact ⟨k', b1, by omega⟩
theorem BI.exact {E : Nat → Nat → Prop} {s m nx v d k : Nat} {D : Nat → Option Nat} {q : Nat → Nat} (h : BI E s D q m nx) (hD : D v = some d) (hp : PE E k s v) : d ≤ k := by
  rcases Nat.lt_or_ge k d with z | z
  · obtain ⟨k', a1, a2⟩ := h.near hp (fun hn c hc => by
      obtain ⟨j, hj, hq⟩ := h.2.2.2.2.2.2.1 v d hD
      have := h.2.2.2.2.2.2.2.2.2.2 c hn hc j d hj (by rw [hq]; exact hD)
      omega)
    rw [hD] at a1
    cases a1
    exact a2
  · exact z
/-! the distance -/
def Dst (s v k : Nat) : Prop := PE Edg k s v ∧ ∀ j, PE Edg j s v → k ≤ j
theorem Dst.one {s v k k' : Nat} (h : Dst s v k) (h' : Dst s v k') : k = k' := Nat.le_antisymm (h.2 _ h'.1) (h'.2 _ h.1)
/-- ways may be cut and joined -/
theorem PC_cut : ∀ {j i s g c : Nat}, PC (i + j) s g c → ∃ v, PC i s v (c / 10 ^ j) ∧ PE Edg j v g
  | 0, i, s, g, c, h => ⟨g, by simpa using h, rfl⟩
  | j + 1, i, s, g, c, h => by
    obtain ⟨u, c', x, h1, h2, h3, h4, h5⟩ := h
    obtain ⟨v, a1, a2⟩ := PC_cut (j := j) (i := i) h1
    refine ⟨v, ?_, u, a2, x, h2, h3, h4⟩
    have : c / 10 ^ (j + 1) = c' / 10 ^ j := by
      rw [Nat.pow_succ, Nat.mul_comm, ← Nat.div_div_eq_div_mul, h5]
      congr 1
      omega
    rw [this]
    exact a1
theorem PC_det : ∀ {k s v v' c : Nat}, PC k s v c → PC k s v' c → v = v'
  | 0, _, _, _, _, h, h' => h.1.symm.trans h'.1
  | k + 1, _, _, _, _, h, h' => by
    obtain ⟨u, c', x, h1, h2, -, h4, h5⟩ := h
    obtain ⟨u2, c2, x2, g1, g2, -, g4, g5⟩ := h'
    have e1 : c' = c2 := by omega
    have e2 : x = x2 := by omega
    subst e1
    subst e2
    have := PC_det h1 g1
    subst this
    exact h4.symm.trans g4
/-- the lowest code of the ways of k throws -/
def LowC (s g k c : Nat) : Prop := PC k s g c ∧ ∀ c', PC k s g c' → c ≤ c'
theorem LowC.one {s g k c c' : Nat} (h : LowC s g k c) (h' : LowC s g k c') : c = c' := Nat.le_antisymm (h.2 _ h'.1) (h'.2 _ h.1)
theorem LowC.is {s g k : Nat} (h : PE Edg k s g) : ∃ c, LowC s g k c := by
  obtain ⟨c, h1, h2⟩ := pk_least (fun c => PC k s g c) (PE_PC h)
  exact ⟨c, h1, fun c' hc => by
    rcases Nat.lt_or_ge c' c with z | z
    · exact absurd hc (h2 c' z)
    · exact z⟩
/-! as many balls: at most nine throws -/
def Cb (t x g : Nat) : Prop := ∀ i, 9 - t ≤ i → x.testBit i = true → g.testBit (i - (9 - t)) = true
theorem big_bit {x i : Nat} (hx : x < 512) (hi : 9 ≤ i) : x.testBit i = false := Nat.testBit_lt_two_pow (Nat.lt_of_lt_of_le hx (by have := Nat.pow_le_pow_right (n := 2) (by decide) hi; omega))
theorem odd_bit {x : Nat} : x.testBit 0 = decide (x % 2 = 1) := Nat.testBit_zero x
theorem behN_bit {x h i : Nat} (h0 : 0 < h) : (behN x h).testBit i = (x.testBit (i + 1) || decide (i = h - 1)) := by
  rw [behN, if_neg (by omega), Nat.testBit_or, Nat.testBit_div_two, Nat.testBit_two_pow]
  congr 1
  simp [eq_comm]
theorem canN_of {x p : Nat} (hp : 0 < p) (h0 : x.testBit 0 = true) (hb : x.testBit p = false) : canN x p := by
  rw [canN, if_neg (by omega)]
  refine ⟨by simpa [odd_bit] using h0, ?_⟩
  apply Nat.eq_of_testBit_eq
  intro i
  rw [Nat.testBit_and, Nat.testBit_two_pow, Nat.zero_testBit]
  by_cases e : p = i
  · rw [← e, hb]; rfl
  · simp [e]
theorem nine_step {t x g : Nat} (ht : t < 9) (hx : x < 512) (hg : g < 512) (hp : popc x = popc g) (hC : Cb t x g) : ∃ h, h ≤ 9 ∧ canN x h ∧ Cb (t + 1) (behN x h) g := by
  by_cases h0 : x.testBit 0 = true
  · have put : ∀ p, 0 < p → p ≤ 9 → x.testBit p = false → (9 - t ≤ p → g.testBit (p - (9 - t)) = true) → ∃ h, h ≤ 9 ∧ canN x h ∧ Cb (t + 1) (behN x h) g := fun p p0 p9 hb hgp => by
      refine ⟨p, p9, canN_of p0 h0 hb, fun i hi hbit => ?_⟩
      rw [behN_bit p0] at hbit
      rcases Bool.or_eq_true _ _ |>.mp hbit with z | z
      · have := hC (i + 1) (by omega) z
        rw [show i - (9 - (t + 1)) = i + 1 - (9 - t) by omega]
        exact this
      · have e : i = p - 1 := by simpa using z
        rw [show i - (9 - (t + 1)) = p - (9 - t) by omega]
        exact hgp (by omega)
    by_cases hA : ∃ p, 9 - t ≤ p ∧ p ≤ 9 ∧ x.testBit p = false ∧ g.testBit (p - (9 - t)) = true
    · obtain ⟨p, a1, a2, a3, a4⟩ := hA
      exact put p (by omega) a2 a3 (fun _ => a4)
    · by_cases hB : ∃ p, 0 < p ∧ p < 9 - t ∧ x.testBit p = false
      · obtain ⟨p, a1, a2, a3⟩ := hB
        exact put p a1 (by omega) a3 (fun z => by omega)
      · exfalso
        have full : ∀ k, k < 9 - t → x.testBit k = true := fun k hk => by
          by_cases e : k = 0
          · rw [e]; exact h0
          · cases hq : x.testBit k with
            | true => rfl
            | false => exact absurd ⟨k, by omega, hk, hq⟩ hB
        have low : ∀ k, k < t → x.testBit (9 - t + k) = g.testBit k := fun k hk => by
          cases hq : x.testBit (9 - t + k) with
          | true =>
            have := hC (9 - t + k) (by omega) hq
            rw [show 9 - t + k - (9 - t) = k by omega] at this
            exact this.symm
          | false =>
            cases hq2 : g.testBit k with
            | false => rfl
            | true => exact absurd ⟨9 - t + k, by omega, by omega, hq, by rw [show 9 - t + k - (9 - t) = k by omega]; exact hq2⟩ hA
        have gt : g.testBit t = false := by
          cases hq2 : g.testBit t with
          | false => rfl
          | true => exact absurd ⟨9, by omega, by omega, big_bit hx (Nat.le_refl 9), by rw [show 9 - (9 - t) = t by omega]; exact hq2⟩ hA
        have e1 : popc x = (9 - t) + fb_ct (fun k => x.testBit (9 - t + k)) t := by
          unfold popc
          have := fb_ct_split (fun k => x.testBit k) (9 - t) t
          rw [show 9 - t + t = 9 by omega] at this
          rw [this, fb_ct_all.mpr full]
        have e2 : popc g = fb_ct (fun k => g.testBit k) t + fb_ct (fun k => g.testBit (t + k)) (9 - t) := by
          unfold popc
          have := fb_ct_split (fun k => g.testBit k) t (9 - t)
          rwa [show t + (9 - t) = 9 by omega] at this
        have e3 : fb_ct (fun k => x.testBit (9 - t + k)) t = fb_ct (fun k => g.testBit k) t := fb_ct_cong low
        have e4 := fb_ct_le (fun k => g.testBit (t + k)) (9 - t)
        have e5 : fb_ct (fun k => g.testBit (t + k)) (9 - t) = 9 - t := by omega
        have e6 := fb_ct_all.mp e5 0 (by omega)
        simp [gt] at e6
  · refine ⟨0, by decide, ?_, fun i hi hbit => ?_⟩
    · rw [canN, if_pos rfl]
      simp [odd_bit] at h0
      omega
    · rw [behN, if_pos rfl, Nat.testBit_div_two] at hbit
      have := hC (i + 1) (by omega) hbit
      rw [show i - (9 - (t + 1)) = i + 1 - (9 - t) by omega]
      exact this
theorem popc_sub {x g : Nat} (hx : x < 512) (hg : g < 512) (hs : ∀ i, x.testBit i = true → g.testBit i = true) (hp : popc x = popc g) : x = g := by
  have h1 : fb_ct (fun k => x.testBit k || (g.testBit k && !x.testBit k)) 9 = fb_ct (fun k => x.testBit k) 9 + fb_ct (fun k => g.testBit k && !x.testBit k) 9 := fb_ct_or (fun k _ h => by cases hq : x.testBit k <;> simp [hq] at h)
  have h2 : fb_ct (fun k => x.testBit k || (g.testBit k && !x.testBit k)) 9 = fb_ct (fun k => g.testBit k) 9 := fb_ct_cong (fun k _ => by
    cases hq : x.testBit k with
    | false => simp
    | true => simp [hs k hq])
  have h3 : fb_ct (fun k => g.testBit k && !x.testBit k) 9 = 0 := by
    unfold popc at hp
    omega
  have h4 := fb_ct_zero.mp h3
  apply Nat.eq_of_testBit_eq
  intro i
  cases hq : x.testBit i with
  | true => exact (hs i hq).symm
  | false =>
    rcases Nat.lt_or_ge i 9 with z | z
    · have := h4 i z
      simp [hq] at this
      exact this.symm
    · exact (big_bit hg z).symm
theorem nine_run {s g : Nat} (hs : s < 512) (hg : g < 512) (hp : popc s = popc g) : ∀ t, t ≤ 9 → ∃ x, PE Edg t s x ∧ x < 512 ∧ popc x = popc g ∧ Cb t x g
  | 0, _ => ⟨s, rfl, hs, hp, fun i hi hb => by rw [big_bit hs (by omega)] at hb; cases hb⟩
  | t + 1, ht => by
    obtain ⟨x, h1, h2, h3, h4⟩ := nine_run hs hg hp t (by omega)
    obtain ⟨h, a1, a2, a3⟩ := nine_step (by omega) h2 hg h3 h4
    obtain ⟨b1, b2, -⟩ := edge_at h2 a1 a2
    exact ⟨behN x h, ⟨x, h1, h, a1, a2, rfl⟩, b1, b2.trans h3, a3⟩
/-- states with as many balls lie at most nine throws apart -/
theorem nine {s g : Nat} (hs : s < 512) (hg : g < 512) (hp : popc s = popc g) : ∃ k, k ≤ 9 ∧ Dst s g k := by
  obtain ⟨x, h1, h2, h3, h4⟩ := nine_run hs hg hp 9 (Nat.le_refl 9)
  have e : x = g := popc_sub h2 hg (fun i hb => by simpa using h4 i (by omega) hb) h3
  subst e
  obtain ⟨k, a1, a2⟩ := pk_least (fun k => PE Edg k s x) ⟨9, h1⟩
  refine ⟨k, ?_, a1, fun j hj => ?_⟩
  · rcases Nat.lt_or_ge 9 k with z | z
    · exact absurd h1 (a2 9 z)
    · exact z
  · rcases Nat.lt_or_ge j k with z | z
    · exact absurd hj (a2 j z)
    · exact z
theorem PE_popc : ∀ {k s v : Nat}, s < 512 → PE Edg k s v → popc v = popc s
  | 0, _, _, _, h => by have h : _ = _ := h; rw [h]
  | k + 1, _, _, hs, h => by
    obtain ⟨u, h1, x, h2, h3, h4⟩ := h
    rw [← h4, (edge_at (PE_lt hs h1) h2 h3).2.1]
    exact PE_popc hs h1
