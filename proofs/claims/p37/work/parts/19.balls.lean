/-! A CLEAN ROW HAS AS MANY BALLS IN EACH OF ITS STATES AS THE MEAN OF ITS THROWS -/
def HN (h : Nat → Nat) (L t : Nat) : Nat := h (t % L)
/-- the balls in the air at the time N -/
def airN (h : Nat → Nat) (L N : Nat) : Nat := fb_ct (fun k => decide (k + 1 ≤ HN h L (N - (k + 1)))) 9
/-- how long they stay there, all together -/
def remN (h : Nat → Nat) (L N : Nat) : Nat := fb_sm (fun k => HN h L (N - (k + 1)) - (k + 1)) 9
def midN (h : Nat → Nat) (L N : Nat) : Nat := fb_ct (fun k => decide (k + 2 ≤ HN h L (N - (k + 1)))) 9
section BALLS
variable {h : Nat → Nat} {L : Nat}
theorem ct_shift (p : Nat → Bool) : ∀ n, fb_ct p (n + 1) = (if p 0 then 1 else 0) + fb_ct (fun k => p (k + 1)) n
  | 0 => by rw [fb_ct_succ, fb_ct, fb_ct]; omega
  | n + 1 => by
    rw [fb_ct_succ, ct_shift p n, fb_ct_succ]
    omega
theorem sm_shift (f : Nat → Nat) : ∀ n, fb_sm f (n + 1) = f 0 + fb_sm (fun k => f (k + 1)) n
  | 0 => by rw [fb_sm_succ, fb_sm, fb_sm]; omega
  | n + 1 => by
    rw [fb_sm_succ, sm_shift f n, fb_sm_succ]
    omega
theorem HN_le (hL : 0 < L) (hh : ∀ i, i < L → h i ≤ 9) (t : Nat) : HN h L t ≤ 9 := hh _ (Nat.mod_lt _ hL)
theorem HN_per (t : Nat) : HN h L (t + L) = HN h L t := by unfold HN; rw [Nat.add_mod_right]
/-- two throws of a clean row do not land at once -/
theorem land_one (hL : 0 < L) (hc : clN h L = L) {t t' : Nat} (e : t + HN h L t = t' + HN h L t') : t = t' := by
  have key : ∀ t, landN h L (t % L) = (t + HN h L t) % L := fun t => by
    unfold landN HN
    rw [Nat.mod_add_mod]
  have e2 : landN h L (t % L) = landN h L (t' % L) := by rw [key, key, e]
  have e3 : t % L = t' % L := by
    rcases Nat.lt_trichotomy (t % L) (t' % L) with z | z | z
    · exact absurd e2 (clN_inj hc _ _ z (Nat.mod_lt _ hL))
    · exact z
    · exact absurd e2.symm (clN_inj hc _ _ z (Nat.mod_lt _ hL))
  have e4 : HN h L t = HN h L t' := by unfold HN; rw [e3]
  omega
theorem land_at (hL : 0 < L) (hh : ∀ i, i < L → h i ≤ 9) (hc : clN h L = L) {N : Nat} (hN : 9 ≤ N) : ∃ t, t ≤ N ∧ N ≤ t + 9 ∧ t + HN h L t = N := by
  obtain ⟨i, hi, e⟩ := fb_onto (f := landN h L) (fun i _ => landN_lt hL) (clN_inj hc) (Nat.mod_lt N hL)
  have h9 := hh i hi
  have e2 : (N - h i) % L = i := by
    have a1 : (N - h i + h i) % L = (i + h i) % L := by
      rw [Nat.sub_add_cancel (by omega)]
      exact e.symm
    have a2 := Nat.mod_lt (N - h i) hL
    have b1 : ((N - h i) % L + h i) % L = (i + h i) % L := by rw [Nat.mod_add_mod]; exact a1
    have q1 := Nat.div_add_mod ((N - h i) % L + h i) L
    have q2 := Nat.div_add_mod (i + h i) L
    generalize (N - h i) % L = x at *
    generalize hA : (x + h i) / L = A at *
    generalize hB : (i + h i) / L = B at *
    rcases Nat.lt_trichotomy A B with z | z | z
    · obtain ⟨c, hc2⟩ : ∃ c, B = A + 1 + c := ⟨B - A - 1, by omega⟩
      rw [hc2, Nat.mul_add, Nat.mul_add] at q2
      omega
    · rw [z] at q1
      omega
    · obtain ⟨c, hc2⟩ : ∃ c, A = B + 1 + c := ⟨A - B - 1, by omega⟩
      rw [hc2, Nat.mul_add, Nat.mul_add] at q1
      omega
  refine ⟨N - h i, by omega, by omega, ?_⟩
  unfold HN
  rw [e2]
  omega
theorem ct_one {p : Nat → Bool} {n i : Nat} (hi : i < n) (hp : p i = true) (h1 : ∀ k, k < n → p k = true → k = i) : fb_ct p n = 1 := by
  have a1 : 0 < fb_ct p n := fb_ct_pos.mpr ⟨i, hi, hp⟩
  rcases Nat.lt_or_ge 1 (fb_ct p n) with z | z
  · obtain ⟨x, x1, x2, x3⟩ := fb_ct_kth z
    obtain ⟨y, y1, y2, y3⟩ := fb_ct_kth a1
    have e1 := h1 x x1 x2
    have e2 := h1 y y1 y2
    rw [e1] at x3
    rw [e2] at y3
    omega
  · omega
theorem air_step (hL : 0 < L) (hh : ∀ i, i < L → h i ≤ 9) (N : Nat) : airN h L (N + 1) = (if 1 ≤ HN h L N then 1 else 0) + midN h L N := by
  unfold airN midN
  rw [show (9 : Nat) = 8 + 1 from rfl, ct_shift, fb_ct_succ (fun k => decide (k + 2 ≤ HN h L (N - (k + 1)))) 8]
  have e9 := HN_le hL hh (N - (8 + 1))
  have e1 : (if decide (8 + 2 ≤ HN h L (N - (8 + 1))) = true then 1 else 0) = 0 := if_neg (by have := HN_le hL hh (N - 9); simp; omega)
  rw [e1]
  have e2 : fb_ct (fun k => decide (k + 1 + 1 ≤ HN h L (N + 1 - (k + 1 + 1)))) 8 = fb_ct (fun k => decide (k + 2 ≤ HN h L (N - (k + 1)))) 8 := fb_ct_cong (fun k _ => by rw [show N + 1 - (k + 1 + 1) = N - (k + 1) by omega])
  rw [e2]
  simp
/-- their number does not change -/
theorem air_same (hL : 0 < L) (hh : ∀ i, i < L → h i ≤ 9) (hc : clN h L = L) {N : Nat} (hN : 9 ≤ N) : airN h L (N + 1) = airN h L N := by
  rw [air_step hL hh]
  have split : airN h L N = midN h L N + fb_ct (fun k => decide (HN h L (N - (k + 1)) = k + 1)) 9 := by
    unfold airN midN
    rw [← fb_ct_or (fun k _ q => by simp at q; omega)]
    refine fb_ct_cong (fun k _ => ?_)
    by_cases a : k + 2 ≤ HN h L (N - (k + 1))
    · simp [a]; omega
    · by_cases b : HN h L (N - (k + 1)) = k + 1
      · simp [b]
      · have : ¬ k + 1 ≤ HN h L (N - (k + 1)) := by omega
        simp [a, b, this]
  rw [split]
  have uniq : ∀ k, k < 9 → HN h L (N - (k + 1)) = k + 1 → ∀ t, t + HN h L t = N → t = N - (k + 1) := fun k hk e t et => land_one hL hc (by rw [e]; omega)
  by_cases h0 : 1 ≤ HN h L N
  · rw [if_pos h0]
    obtain ⟨t, t1, t2, t3⟩ := land_at hL hh hc hN
    have hne : t ≠ N := fun e => by rw [e] at t3; omega
    have e1 : fb_ct (fun k => decide (HN h L (N - (k + 1)) = k + 1)) 9 = 1 := by
      refine ct_one (i := N - t - 1) (by omega) ?_ (fun k hk hp => ?_)
      · simp only [decide_eq_true_eq]
        rw [show N - (N - t - 1 + 1) = t by omega]
        omega
      · simp only [decide_eq_true_eq] at hp
        have := uniq k hk hp t t3
        omega
    rw [e1]
    omega
  · rw [if_neg h0]
    have e1 : fb_ct (fun k => decide (HN h L (N - (k + 1)) = k + 1)) 9 = 0 := fb_ct_zero.mpr (fun k hk => by
      simp only [decide_eq_false_iff_not]
      intro e
      have := uniq k hk e N (by omega)
      omega)
    rw [e1]
    omega
theorem rem_step (hL : 0 < L) (hh : ∀ i, i < L → h i ≤ 9) (N : Nat) : remN h L (N + 1) + airN h L (N + 1) = remN h L N + HN h L N := by
  rw [air_step hL hh]
  have key : ∀ n, fb_sm (fun k => HN h L (N - (k + 1)) - (k + 2)) n + fb_ct (fun k => decide (k + 2 ≤ HN h L (N - (k + 1)))) n = fb_sm (fun k => HN h L (N - (k + 1)) - (k + 1)) n := by
    intro n
    induction n with
    | zero => rfl
    | succ n ih =>
      rw [fb_sm_succ, fb_sm_succ, fb_ct_succ]
      by_cases a : n + 2 ≤ HN h L (N - (n + 1))
      · have : (if decide (n + 2 ≤ HN h L (N - (n + 1))) = true then 1 else 0) = 1 := if_pos (by simpa using a)
        rw [this]
        omega
      · have : (if decide (n + 2 ≤ HN h L (N - (n + 1))) = true then 1 else 0) = 0 := if_neg (by simpa using a)
        rw [this]
        omega
  have k9 := key 9
  unfold remN midN
  have e1 : fb_sm (fun k => HN h L (N + 1 - (k + 1)) - (k + 1)) 9 = (HN h L N - 1) + fb_sm (fun k => HN h L (N - (k + 1)) - (k + 2)) 8 := by
    rw [show (9 : Nat) = 8 + 1 from rfl, sm_shift]
    congr 1
  have e2 : fb_sm (fun k => HN h L (N - (k + 1)) - (k + 2)) 9 = fb_sm (fun k => HN h L (N - (k + 1)) - (k + 2)) 8 := by
    rw [show (9 : Nat) = 8 + 1 from rfl, fb_sm_succ]
    have := HN_le hL hh (N - (8 + 1))
    omega
  rw [e1]
  by_cases h0 : 1 ≤ HN h L N
  · rw [if_pos h0]; omega
  · rw [if_neg h0]; omega
theorem air_const (hL : 0 < L) (hh : ∀ i, i < L → h i ≤ 9) (hc : clN h L = L) : ∀ (d N : Nat), 9 ≤ N → airN h L (N + d) = airN h L N
  | 0, _, _ => rfl
  | d + 1, N, hN => by
    rw [show N + (d + 1) = (N + d) + 1 by omega, air_same hL hh hc (by omega)]
    exact air_const hL hh hc d N hN
theorem air_sum (hL : 0 < L) (hh : ∀ i, i < L → h i ≤ 9) (hc : clN h L = L) : L * airN h L (16 * L) = sumN h L := by
  have key : ∀ n, n * airN h L (16 * L) + remN h L (16 * L + n) = remN h L (16 * L) + fb_sm (fun i => HN h L (16 * L + i)) n := by
    intro n
    induction n with
    | zero => rw [fb_sm]; simp
    | succ n ih =>
      have a1 := rem_step hL hh (16 * L + n)
      have a2 := air_const hL hh hc (n + 1) (16 * L) (by omega)
      rw [fb_sm_succ, Nat.succ_mul]
      rw [show 16 * L + (n + 1) = 16 * L + n + 1 by omega] at *
      omega
  have per : remN h L (16 * L + L) = remN h L (16 * L) := by
    unfold remN
    refine fb_sm_cong (fun k hk => ?_)
    rw [show 16 * L + L - (k + 1) = 16 * L - (k + 1) + L by omega, HN_per]
  have hs : ∀ n, n ≤ L → fb_sm (fun i => HN h L (16 * L + i)) n = sumN h n := by
    intro n
    induction n with
    | zero => intro _; rfl
    | succ n ih =>
      intro hn
      rw [fb_sm_succ, sumN, ih (by omega)]
      congr 1
      unfold HN
      rw [show 16 * L + n = n + L * 16 by omega, Nat.add_mul_mod_self_left, Nat.mod_eq_of_lt (by omega)]
  have := key L
  rw [per, hs L (Nat.le_refl L)] at this
  omega
/-- the bits of a state are the balls in the air -/
theorem popc_or {x p : Nat} (hp : p < 9) (hx : x.testBit p = false) : popc (x ||| 2 ^ p) = popc x + 1 := by
  unfold popc
  have e : fb_ct (fun k => (x ||| 2 ^ p).testBit k) 9 = fb_ct (fun k => if k = p then true else x.testBit k) 9 := fb_ct_cong (fun k _ => by
    rw [Nat.testBit_or, Nat.testBit_two_pow]
    by_cases e : k = p
    · subst e; simp
    · rw [if_neg e]
      simp [Ne.symm e])
  have := fb_ct_upd (fun k => x.testBit k) true hp
  rw [e]
  rw [if_neg (by simp [hx])] at this
  simpa using this
theorem stA_bit (hL : 0 < L) : ∀ (k b p : Nat), (stA h L b k).testBit p = true → ∃ i, 1 ≤ i ∧ i ≤ k ∧ i ≤ h (srcN L b i) ∧ h (srcN L b i) - i = p
  | 0, b, p, hb => by rw [stA, Nat.zero_testBit] at hb; cases hb
  | k + 1, b, p, hb => by
    rw [stA, Nat.testBit_or, Bool.or_eq_true] at hb
    rcases hb with hb | hb
    · obtain ⟨i, a1, a2, a3⟩ := stA_bit hL k b p hb
      exact ⟨i, a1, by omega, a3⟩
    · unfold stB at hb
      split at hb
      next hq =>
        rw [Nat.testBit_two_pow] at hb
        exact ⟨k + 1, by omega, Nat.le_refl _, hq, by simpa using hb⟩
      next => rw [Nat.zero_testBit] at hb; cases hb
theorem popc_stA (hL : 0 < L) (hh : ∀ i, i < L → h i ≤ 9) (hc : clN h L = L) {b : Nat} : ∀ k, k ≤ 9 → popc (stA h L b k) = fb_ct (fun k => decide (k + 1 ≤ HN h L (b + 16 * L - (k + 1)))) k
  | 0, _ => by show popc 0 = 0; decide
  | k + 1, hk => by
    have ih := popc_stA hL hh hc (b := b) k (by omega)
    rw [stA, fb_ct_succ, ← ih]
    have es : HN h L (b + 16 * L - (k + 1)) = h (srcN L b (k + 1)) := rfl
    unfold stB
    by_cases hq : k + 1 ≤ h (srcN L b (k + 1))
    · rw [if_pos hq]
      have h9 := hh _ (srcN_lt (b := b) (k := k + 1) hL)
      have hnew : (stA h L b k).testBit (h (srcN L b (k + 1)) - (k + 1)) = false := by
        cases hb : (stA h L b k).testBit (h (srcN L b (k + 1)) - (k + 1)) with
        | false => rfl
        | true =>
          obtain ⟨i, a1, a2, a3, a4⟩ := stA_bit hL k b _ hb
          have := land_one hL hc (t := b + 16 * L - i) (t' := b + 16 * L - (k + 1)) (by
            show b + 16 * L - i + h (srcN L b i) = b + 16 * L - (k + 1) + h (srcN L b (k + 1))
            omega)
          omega
      rw [popc_or (by omega) hnew, es]
      simp [hq]
    · rw [if_neg hq, Nat.or_zero, es]
      simp [hq]
theorem balls_ok (hL : 0 < L) (hh : ∀ i, i < L → h i ≤ 9) (hc : clN h L = L) (b : Nat) : popc (stN h L b) = sumN h L / L := by
  have e1 : popc (stN h L b) = airN h L (b + 16 * L) := popc_stA hL hh hc 9 (Nat.le_refl 9)
  have e2 := air_const hL hh hc b (16 * L) (by omega)
  rw [show 16 * L + b = b + 16 * L by omega] at e2
  rw [e1, e2, ← air_sum hL hh hc, Nat.mul_div_cancel_left _ hL]
end BALLS
section ROW
variable {g : GG} {l : Launch} {w : HW} {n r L : Nat} {h : Nat → Nat} {F : Nat → Int32}
theorem c_holdBalls (hR : RwF g w n r L F) (hF : Fh F L h) (hL0 : 0 < L) (hc : clN h L = L) : CtR g l MX4_statesHoldTheBalls 3 [rf g r] w n (.int 1) := by
  have hR0 := hR
  obtain ⟨h0, h1, hn, hL⟩ := hR
  have hb := sumN_le (fun i hi => (hF i hi).2)
  have hd : sumN h L / L ≤ sumN h L := Nat.div_le_self _ _
  have eb : ballI h L = nI (sumN h L / L) := if_pos hc
  refine Ct.ofs (M := MX4_statesHoldTheBalls) (ls := [some _, none, none]) (by decide +kernel) (by exact (Nat.le_of_ble_eq_true rfl)) (by rfl) (by rfl) (by rfl) ?_
  refine V_aload_n (q := 1) dX4_statesHoldTheBalls_0 rfl rfl rfl ?_
  refine CrX4_60 (q := 4) rfl dX4_statesHoldTheBalls_1 rfl (c_rballs hR0 hF hL0) ⟨(Nat.le_of_ble_eq_true rfl), (Nat.le_of_ble_eq_true rfl)⟩ (Nat.le_of_ble_eq_true rfl) (by first | assumption | exact up_eq | exact (up_ne (by omega)).trans (by first | assumption | exact up_eq | exact (up_ne (by omega)).trans (by first | assumption | exact up_eq | exact (up_ne (by omega)).trans (by first | assumption | exact up_eq)))) (by omega) (Nat.zero_le _) (Nat.zero_le _) ?_
  refine V_topi eb ?_
  refine V_istore_n (q := 5) (ls' := [_, _, _]) dX4_statesHoldTheBalls_4 rfl (by decide) (by rfl) rfl ?_
  refine V_iconst (q := 6) (v := nI 0) dX4_statesHoldTheBalls_5 rfl (by decide) ?_
  refine V_istore_n (q := 7) (ls' := [_, _, _]) dX4_statesHoldTheBalls_6 rfl (by decide) (by rfl) rfl ?_
  refine loopU (fun i => V g l MX4_statesHoldTheBalls (rmd 3 0 0) (FinM g (qR (.int 1) w n) 0 0) 7 [some (rf g r), some (.int (nI (sumN h L / L))), some (.int (nI i))] [] (w) n 0 0) L ?_ ?_ 0 (Nat.zero_le _)
  · skip
    refine V_iload_n (q := 8) dX4_statesHoldTheBalls_7 rfl rfl ?_
    refine V_aload_n (q := 9) dX4_statesHoldTheBalls_8 rfl rfl rfl ?_
    refine GX4_15 (q := 12) rfl dX4_statesHoldTheBalls_9 rfl (by first | assumption | exact up_eq | exact (up_ne (by omega)).trans (by first | assumption | exact up_eq | exact (up_ne (by omega)).trans (by first | assumption | exact up_eq | exact (up_ne (by omega)).trans (by first | assumption | exact up_eq)))) (by omega) (by rfl) ?_
    refine V_icmpN_ge (q := 15) (tgt := 35) dX4_statesHoldTheBalls_12 (by decide) rfl (by omega) (by omega) (fun _ => ?_) (fun h9 => by first | exact h9.elim | (exfalso; omega))
    refine V_iconst (q := 36) (v := nI 1) dX4_statesHoldTheBalls_35 rfl (by decide) ?_
    exact V_zret dX4_statesHoldTheBalls_36 rfl (rfl) (Nat.le_of_ble_eq_true rfl) (Nat.le_of_ble_eq_true rfl) (⟨rfl, rfl, rfl⟩)
  · intro i hi ih
    have e1 := balls_ok hL0 (fun i hi => (hF i hi).2) hc i
    refine V_iload_n (q := 8) dX4_statesHoldTheBalls_7 rfl rfl ?_
    refine V_aload_n (q := 9) dX4_statesHoldTheBalls_8 rfl rfl rfl ?_
    refine GX4_15 (q := 12) rfl dX4_statesHoldTheBalls_9 rfl (by first | assumption | exact up_eq | exact (up_ne (by omega)).trans (by first | assumption | exact up_eq | exact (up_ne (by omega)).trans (by first | assumption | exact up_eq | exact (up_ne (by omega)).trans (by first | assumption | exact up_eq)))) (by omega) (by rfl) ?_
    refine V_icmpN_ge (q := 15) (tgt := 35) dX4_statesHoldTheBalls_12 (by decide) rfl (by omega) (by omega) (fun h9 => by first | exact h9.elim | exact absurd h9 (by assumption) | (exfalso; omega)) (fun _ => ?_)
    refine V_aload_n (q := 16) dX4_statesHoldTheBalls_15 rfl rfl rfl ?_
    refine V_iload_n (q := 17) dX4_statesHoldTheBalls_16 rfl rfl ?_
    refine CrX4_57 (q := 20) rfl dX4_statesHoldTheBalls_17 rfl (c_stateAt hR0 hF hL0 hi) ⟨(Nat.le_of_ble_eq_true rfl), (Nat.le_of_ble_eq_true rfl)⟩ (Nat.le_of_ble_eq_true rfl) (by first | assumption | exact up_eq | exact (up_ne (by omega)).trans (by first | assumption | exact up_eq | exact (up_ne (by omega)).trans (by first | assumption | exact up_eq | exact (up_ne (by omega)).trans (by first | assumption | exact up_eq)))) (by omega) (Nat.zero_le _) (Nat.zero_le _) ?_
    refine CrX4_63 (q := 23) rfl dX4_statesHoldTheBalls_20 rfl (c_bitCount (stN_lt hL0 (fun i hi => (hF i hi).2))) ⟨(Nat.le_of_ble_eq_true rfl), (Nat.le_of_ble_eq_true rfl)⟩ (Nat.le_of_ble_eq_true rfl) (Nat.zero_le _) (Nat.zero_le _) ?_
    refine V_iload_n (q := 24) dX4_statesHoldTheBalls_23 rfl rfl ?_
    refine V_icmpN_eq (q := 27) (tgt := 29) dX4_statesHoldTheBalls_24 (by decide) rfl (by omega) (by omega) (fun _ => ?_) (fun h9 => by first | exact h9.elim | (exfalso; omega))
    refine V_iinc (q := 32) (ls' := [_, _, _]) dX4_statesHoldTheBalls_29 rfl (by decide) (by rfl) rfl (by first | exact inc1 _ | rfl) rfl ?_
    refine V_goto (tgt := 7) dX4_statesHoldTheBalls_32 (by decide) ?_
    exact ih
end ROW
