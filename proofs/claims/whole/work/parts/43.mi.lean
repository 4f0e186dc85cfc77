/-! the model's search: parents, and the lowest of the shortest -/
def PAr (D : Nat → Option Nat) (q : Nat → Nat) (m nx hc : Nat) (K : Nat → Nat) (By Fr : Nat → Int32) (v k : Nat) : Prop := ∃ a h, a ≤ nx ∧ a < m ∧ D (q a) = some k ∧ h ≤ 9 ∧ canN (q a) h ∧ behN (q a) h = v ∧ K v = K (q a) * 10 + h ∧ (a = nx → h < hc) ∧ By v = nI h ∧ Fr v = nI (q a)
def SIv (s : Nat) (D : Nat → Option Nat) (q : Nat → Nat) (m nx hc : Nat) (K : Nat → Nat) (By Fr : Nat → Int32) : Prop :=
  BI Edg s D q m nx ∧ (∀ v k, D v = some k → LowC s v k (K v)) ∧ (∀ i j k, i < j → j < m → D (q i) = some k → D (q j) = some k → K (q i) < K (q j)) ∧
  (∀ v k, D v = some (k + 1) → PAr D q m nx hc K By Fr v k) ∧ (∀ h, h < hc → nx < m → canN (q nx) h → D (behN (q nx) h) ≠ none) ∧
  By s = nI 10 ∧ (∀ v, v < 512 → D v = none → By v = -1)
def upK (K : Nat → Nat) (v c : Nat) : Nat → Nat := fun x => if x = v then c else K x
theorem SIv.init {s : Nat} (hs : s < 512) (q : Nat → Nat) (K : Nat → Nat) {By Fr : Nat → Int32} (hb : By s = nI 10) (hn : ∀ v, v < 512 → v ≠ s → By v = -1) : SIv s (upD (fun _ => none) s 0) (upQ q 0 s) 1 0 0 (fun _ => 0) By Fr := by
  have hD : ∀ v k, upD (fun _ => none) s 0 v = some k → v = s ∧ k = 0 := by
    intro v k h
    unfold upD at h
    by_cases e : v = s
    · rw [if_pos e] at h; cases h; exact ⟨e, rfl⟩
    · rw [if_neg e] at h; cases h
  refine ⟨BI.init Edg hs q, fun v k h => ?_, fun i j k h1 h2 => by omega, fun v k h => ?_, fun h hh => absurd hh (Nat.not_lt_zero h), hb, fun v hv h => ?_⟩
  · obtain ⟨rfl, rfl⟩ := hD v k h
    exact ⟨⟨rfl, rfl⟩, fun c' _ => Nat.zero_le _⟩
  · obtain ⟨-, h0⟩ := hD v _ h
    exact absurd h0 (Nat.succ_ne_zero k)
  · refine hn v hv (fun e => ?_)
    rw [e] at h
    unfold upD at h
    rw [if_pos rfl] at h
    cases h
/-- a throw that leads nowhere new -/
theorem SIv.old {s : Nat} {D : Nat → Option Nat} {q : Nat → Nat} {m nx hc : Nat} {K : Nat → Nat} {By Fr : Nat → Int32} (h : SIv s D q m nx hc K By Fr) (ho : nx < m → canN (q nx) hc → D (behN (q nx) hc) ≠ none) : SIv s D q m nx (hc + 1) K By Fr := by
  obtain ⟨h1, h2, h3, h4, h5, h6, h7⟩ := h
  refine ⟨h1, h2, h3, fun v k hv => ?_, fun x hx hn hc' => ?_, h6, h7⟩
  · obtain ⟨a, y, a1, a2, a3, a4, a5, a6, a7, a8, a9, a10⟩ := h4 v k hv
    exact ⟨a, y, a1, a2, a3, a4, a5, a6, a7, fun e => Nat.lt_succ_of_lt (a8 e), a9, a10⟩
  · by_cases e : x = hc
    · rw [e] at hc' ⊢; exact ho hn hc'
    · exact h5 x (by omega) hn hc'
theorem SIv.add {s : Nat} {D : Nat → Option Nat} {q : Nat → Nat} {m nx hc d : Nat} {K : Nat → Nat} {By Fr By' Fr' : Nat → Int32} (h : SIv s D q m nx hc K By Fr) (hnx : nx < m) (hd : D (q nx) = some d) (h9 : hc ≤ 9) (hcan : canN (q nx) hc) (hD : D (behN (q nx) hc) = none) (hb : By' (behN (q nx) hc) = nI hc) (hf : Fr' (behN (q nx) hc) = nI (q nx)) (hb2 : ∀ v, v ≠ behN (q nx) hc → By' v = By v) (hf2 : ∀ v, v ≠ behN (q nx) hc → Fr' v = Fr v) : SIv s (upD D (behN (q nx) hc) (d + 1)) (upQ q m (behN (q nx) hc)) (m + 1) nx (hc + 1) (upK K (behN (q nx) hc) (K (q nx) * 10 + hc)) By' Fr' := by
  obtain ⟨h1, h2, h3, h4, h5, h6, h7⟩ := h
  have hE : Edg (q nx) (behN (q nx) hc) := ⟨hc, h9, hcan, rfl⟩
  have hu : q nx < 512 := (h1.2.2.2.2.1 nx hnx).1
  have hv5 : behN (q nx) hc < 512 := behN_lt hu h9
  have hadd := h1.add hnx hd hE hv5 hD
  have hs0 := h1.1
  generalize hvv : behN (q nx) hc = v at *
  have ne : ∀ x k, D x = some k → x ≠ v := fun x k hx e => by rw [e, hD] at hx; cases hx
  have hq : ∀ i, i < m → upQ q m v i = q i := fun i hi => if_neg (by omega)
  have hqm : upQ q m v m = v := if_pos rfl
  have hKx : ∀ x k, D x = some k → upK K v (K (q nx) * 10 + hc) x = K x := fun x k hx => if_neg (ne x k hx)
  have hKv : upK K v (K (q nx) * 10 + hc) v = K (q nx) * 10 + hc := if_pos rfl
  have hDx : ∀ x k, D x = some k → upD D v (d + 1) x = some k := fun x k hx => (if_neg (ne x k hx)).trans hx
  have hDv : upD D v (d + 1) v = some (d + 1) := if_pos rfl
  have hDcase : ∀ x k, upD D v (d + 1) x = some k → (x = v ∧ k = d + 1) ∨ (x ≠ v ∧ D x = some k) := fun x k hx => by
    unfold upD at hx
    by_cases e : x = v
    · rw [if_pos e] at hx; cases hx; exact Or.inl ⟨e, rfl⟩
    · rw [if_neg e] at hx; exact Or.inr ⟨e, hx⟩
  -- nothing as near as this level is unseen
  have seen : ∀ k x, PE Edg k s x → k ≤ d → ∃ k', D x = some k' ∧ k' ≤ k := fun k x hp hk => h1.near hp (fun _ c hc' => by rw [hd] at hc'; cases hc'; exact hk)
  have hlowu := h2 _ _ hd
  refine ⟨hadd, fun x k hx => ?_, fun i j k hij hj hi1 hj1 => ?_, fun x k hx => ?_, fun x hx hn hcx => ?_, ?_, fun x hx hxn => ?_⟩
  · rcases hDcase x k hx with ⟨rfl, rfl⟩ | ⟨hne, hx2⟩
    · rw [hKv]
      refine ⟨⟨q nx, K (q nx), hc, hlowu.1, h9, hcan, hvv, rfl⟩, fun c' hc' => ?_⟩
      obtain ⟨u', c2, h', p1, p2, p3, p4, p5⟩ := hc'
      obtain ⟨k', hk', hk'd⟩ := seen d u' (PC_PE p1) (Nat.le_refl _)
      have hk'e : k' = d := by
        rcases Nat.lt_or_ge k' d with z | z
        · exfalso
          have pv : PE Edg (k' + 1) s x := ⟨u', h1.2.2.2.2.2.2.2.1 _ _ hk', ⟨h', p2, p3, p4⟩⟩
          obtain ⟨y, hy, -⟩ := seen (k' + 1) x pv (by omega)
          rw [hD] at hy; cases hy
        · omega
      rw [hk'e] at hk'
      have hlu' := h2 _ _ hk'
      have hle := hlu'.2 _ p1
      rcases Nat.lt_or_ge c' (K (q nx) * 10 + hc) with z | z
      · exfalso
        obtain ⟨i', hi', hqi'⟩ := h1.2.2.2.2.2.2.1 _ _ hk'
        rcases Nat.lt_or_ge c2 (K (q nx)) with z2 | z2
        · -- a lower one, which stood ahead
          have hKlt : K u' < K (q nx) := by omega
          have hix : i' < nx := by
            rcases Nat.lt_trichotomy i' nx with e | e | e
            · exact e
            · rw [e] at hqi'; rw [hqi'] at hKlt; exact absurd hKlt (Nat.lt_irrefl _)
            · have := h3 nx i' d e hi' hd (by rw [hqi']; exact hk')
              rw [hqi'] at this
              omega
          obtain ⟨y, hy, -⟩ := h1.2.2.2.2.2.2.2.2.2.1 i' d x hix (by rw [hqi']; exact hk') (by rw [hqi']; exact ⟨h', p2, p3, p4⟩)
          rw [hD] at hy; cases hy
        · have ec : c2 = K (q nx) := by omega
          have eu : u' = q nx := PC_det (by rw [← ec]; exact p1) hlowu.1
          rw [eu] at p3 p4
          exact h5 h' (by omega) hnx p3 (by rw [p4]; exact hD)
      · exact z
    · rw [hKx x k hx2]
      exact h2 x k hx2
  · have hi2 : i < m := by omega
    rw [hq i hi2] at hi1 ⊢
    have hqi : ∃ k, D (q i) = some k := (h1.2.2.2.2.1 i hi2).2
    obtain ⟨ki, hki⟩ := hqi
    rw [hDx _ _ hki] at hi1
    have hkk : ki = k := by cases hi1; rfl
    rw [hkk] at hki
    rw [hKx _ _ hki]
    rcases Nat.lt_or_ge j m with z | z
    · rw [hq j z] at hj1 ⊢
      obtain ⟨kj, hkj⟩ := (h1.2.2.2.2.1 j z).2
      rw [hDx _ _ hkj] at hj1
      have hkk2 : kj = k := by cases hj1; rfl
      rw [hkk2] at hkj
      rw [hKx _ _ hkj]
      exact h3 i j k hij z hki hkj
    · have hjm : j = m := by omega
      subst hjm
      rw [hqm] at hj1 ⊢
      rw [hDv] at hj1
      have hk1 : k = d + 1 := by cases hj1; rfl
      subst hk1
      rw [hKv]
      obtain ⟨a, y, a1, a2, a3, a4, a5, a6, a7, a8, -⟩ := h4 _ _ hki
      rw [a7]
      rcases Nat.lt_or_ge a nx with e | e
      · have := h3 a nx d e hnx a3 hd
        omega
      · have ea : a = nx := by omega
        have := a8 ea
        rw [ea]
        omega
  · rcases hDcase x _ hx with ⟨rfl, hk⟩ | ⟨hne, hx2⟩
    · have hk : k = d := by omega
      subst hk
      refine ⟨nx, hc, Nat.le_refl _, by omega, by rw [hq nx hnx]; exact hDx _ _ hd, h9, by rw [hq nx hnx]; exact hcan, by rw [hq nx hnx]; exact hvv, by rw [hKv, hq nx hnx, hKx _ _ hd], fun _ => Nat.lt_succ_self _, hb, by rw [hq nx hnx]; exact hf⟩
    · obtain ⟨a, y, a1, a2, a3, a4, a5, a6, a7, a8, a9, a10⟩ := h4 x k hx2
      exact ⟨a, y, a1, by omega, by rw [hq a a2]; exact hDx _ _ a3, a4, by rw [hq a a2]; exact a5, by rw [hq a a2]; exact a6, by rw [hKx _ _ hx2, hq a a2, hKx _ _ a3]; exact a7, fun e => Nat.lt_succ_of_lt (a8 e), (hb2 x hne).trans a9, by rw [hq a a2]; exact (hf2 x hne).trans a10⟩
  · rw [hq nx hnx] at hcx ⊢
    by_cases e : x = hc
    · rw [e, hvv, hDv]
      exact fun q => by cases q
    · have hno := h5 x (by omega) hnx hcx
      intro hh
      unfold upD at hh
      by_cases e2 : behN (q nx) x = v
      · rw [if_pos e2] at hh; cases hh
      · rw [if_neg e2] at hh; exact hno hh
  · rw [hb2 s (ne s 0 hs0)]; exact h6
  · have hxv : x ≠ v := fun e => by rw [e, hDv] at hxn; cases hxn
    rw [hb2 x hxv]
    unfold upD at hxn
    rw [if_neg hxv] at hxn
    exact h7 x hx hxn
theorem SIv.next {s : Nat} {D : Nat → Option Nat} {q : Nat → Nat} {m nx : Nat} {K : Nat → Nat} {By Fr : Nat → Int32} (h : SIv s D q m nx 10 K By Fr) (hnx : nx < m) : SIv s D q m (nx + 1) 0 K By Fr := by
  obtain ⟨h1, h2, h3, h4, h5, h6, h7⟩ := h
  obtain ⟨d, hd⟩ := (h1.2.2.2.2.1 nx hnx).2
  refine ⟨h1.next hnx hd (fun v hv => ?_), h2, h3, fun v k hv => ?_, fun x hx => absurd hx (Nat.not_lt_zero x), h6, h7⟩
  · obtain ⟨x, x1, x2, x3⟩ := hv
    have hno := h5 x (by omega) hnx x2
    rw [x3] at hno
    cases hh : D v with
    | none => exact absurd hh hno
    | some k' => exact ⟨k', rfl, h1.exact hh ⟨q nx, h1.2.2.2.2.2.2.2.1 _ _ hd, ⟨x, x1, x2, x3⟩⟩⟩
  · obtain ⟨a, y, a1, a2, a3, a4, a5, a6, a7, a8, a9, a10⟩ := h4 v k hv
    exact ⟨a, y, by omega, a2, a3, a4, a5, a6, a7, fun e => by omega, a9, a10⟩
/-- what is told when the goal is seen -/
theorem SIv.goal {s t k : Nat} {D : Nat → Option Nat} {q : Nat → Nat} {m nx hc : Nat} {K : Nat → Nat} {By Fr : Nat → Int32} (h : SIv s D q m nx hc K By Fr) (hk : Dst s t k) {k' : Nat} (hD : D t = some k') : k' = k ∧ codN s t = K t := by
  obtain ⟨h1, h2, -⟩ := h
  have e : k' = k := Nat.le_antisymm (h1.exact hD hk.1) (hk.2 _ (h1.2.2.2.2.2.2.2.1 _ _ hD))
  subst e
  exact ⟨rfl, codN_is hk (h2 _ _ hD)⟩
theorem SIv.found {s t k : Nat} {D : Nat → Option Nat} {q : Nat → Nat} {m hc : Nat} {K : Nat → Nat} {By Fr : Nat → Int32} (h : SIv s D q m m hc K By Fr) (hk : Dst s t k) : D t ≠ none := by
  obtain ⟨k', hk', -⟩ := h.1.near hk.1 (fun z => absurd z (Nat.lt_irrefl _))
  rw [hk']
  exact fun z => by cases z
theorem SIv.by_neg {s v : Nat} {D : Nat → Option Nat} {q : Nat → Nat} {m nx hc : Nat} {K : Nat → Nat} {By Fr : Nat → Int32} (h : SIv s D q m nx hc K By Fr) (hv : v < 512) : (By v < 0 ∧ D v = none) ∨ (∃ x, x ≤ 10 ∧ By v = nI x ∧ ∃ k, D v = some k) := by
  obtain ⟨h1, h2, h3, h4, h5, h6, h7⟩ := h
  cases hD : D v with
  | none => exact Or.inl ⟨by rw [h7 v hv hD]; decide, rfl⟩
  | some k =>
    right
    cases k with
    | zero =>
      have : s = v := h1.2.2.2.2.2.2.2.1 _ _ hD
      exact ⟨10, by decide, by rw [← this]; exact h6, 0, rfl⟩
    | succ k =>
      obtain ⟨a, y, a1, a2, a3, a4, a5, a6, a7, a8, a9, a10⟩ := h4 v k hD
      exact ⟨y, by omega, a9, k + 1, rfl⟩
