/-! WHAT EACH OPERATION DOES TO THE NUMBERS: rows stay rows, at most nine beats are added, an error or no negative answer -/
def Op9 (N : StT) (res : OpR) : Prop := OkN res.2.1 ∧ ∃ d, d ≤ 9 ∧ sB res.2.1 ≤ sB N + d ∧ sT res.2.1 = sT N + d ∧ sU res.2.1 ≤ sU N + d
def Neg3 (res : OpR) : Prop := isErr res.1 ∨ ¬ res.1 < 0
theorem Neg3.e1 {N : StT} {d : Option (Int32 × Int32)} : Neg3 (-1, N, d) := Or.inl (Or.inl rfl)
theorem Neg3.e2 {N : StT} {d : Option (Int32 × Int32)} : Neg3 (-2, N, d) := Or.inl (Or.inr (Or.inl rfl))
theorem Neg3.e3 {N : StT} {d : Option (Int32 × Int32)} : Neg3 (-3, N, d) := Or.inl (Or.inr (Or.inr rfl))
theorem Op9.same {N : StT} (h : OkN N) {x : Int32} {d : Option (Int32 × Int32)} : Op9 N (x, N, d) := ⟨h, 0, by omega, Nat.le_refl _, rfl, Nat.le_refl _⟩
theorem Op9.row {N N' : StT} {x : Int32} {d : Option (Int32 × Int32)} (h : OkN N') (e1 : sB N' = sB N) (e2 : sT N' = sT N) (e3 : sU N' = sU N) : Op9 N (x, N', d) := ⟨h, 0, by omega, Nat.le_of_eq e1, e2, Nat.le_of_eq e3⟩
theorem OkN.setR {N : StT} (h : OkN N) {i : Nat} {f : Nat → Nat} (hf : ∀ j, j < (sR N i).1 → f j ≤ 9) (hi : i < sC N) : OkN (setR N i ((sR N i).1, f)) := by
  refine ⟨h.1, fun k hk => ?_⟩
  by_cases e : k = i
  · subst e
    obtain ⟨q1, q2, q3⟩ := h.2 k hi
    show 0 < (if k = k then ((sR N k).1, f) else sR N k).1 ∧ (if k = k then ((sR N k).1, f) else sR N k).1 ≤ 8 ∧ ∀ j, j < (if k = k then ((sR N k).1, f) else sR N k).1 → (if k = k then ((sR N k).1, f) else sR N k).2 j ≤ 9
    rw [if_pos rfl]
    exact ⟨q1, q2, hf⟩
  · show 0 < (if k = i then ((sR N i).1, f) else sR N k).1 ∧ (if k = i then ((sR N i).1, f) else sR N k).1 ≤ 8 ∧ ∀ j, j < (if k = i then ((sR N i).1, f) else sR N k).1 → (if k = i then ((sR N i).1, f) else sR N k).2 j ≤ 9
    rw [if_neg e]
    exact h.2 k hk
theorem thrA_n (N : StT) (f : Nat → Nat) : ∀ m, sB (thrA N f m) = sB N + m ∧ sT (thrA N f m) = sT N + m ∧ sU (thrA N f m) ≤ sU N + m
  | 0 => ⟨rfl, rfl, Nat.le_refl _⟩
  | m + 1 => by
    obtain ⟨h1, h2, h3⟩ := thrA_n N f m
    refine ⟨?_, ?_, ?_⟩
    · show sB (thrA N f m) + 1 = _; omega
    · show sT (thrA N f m) + 1 = _; omega
    · show sU (thrA N f m) + (if 0 < f m then 1 else 0) ≤ _
      split <;> omega
theorem OkN.of {N N' : StT} (h : OkN N) (e1 : sC N' = sC N) (e2 : sR N' = sR N) : OkN N' := by
  unfold OkN
  rw [e1, e2]
  exact h
theorem addA_9 {x m : Int32} {N : StT} (h : OkN N) : Op9 N (addA x m N) ∧ Neg3 (addA x m N) := by
  unfold addA
  split
  · exact ⟨Op9.same h, by first | exact Neg3.e1 | exact Neg3.e2 | exact Neg3.e3⟩
  rename_i k hk
  have hk2 := idx_lt (by decide) hk
  split
  · exact ⟨Op9.same h, by first | exact Neg3.e1 | exact Neg3.e2 | exact Neg3.e3⟩
  split
  · exact ⟨Op9.same h, by first | exact Neg3.e1 | exact Neg3.e2 | exact Neg3.e3⟩
  split
  · exact ⟨Op9.same h, by first | exact Neg3.e1 | exact Neg3.e2 | exact Neg3.e3⟩
  rename_i t ht h6
  refine ⟨Op9.row ⟨show sC N + 1 ≤ 6 by omega, fun i hi => ?_⟩ rfl rfl rfl, Or.inr (nI_pos (by omega))⟩
  show 0 < (if i = sC N then (k, digN t k) else sR N i).1 ∧ (if i = sC N then (k, digN t k) else sR N i).1 ≤ 8 ∧ ∀ j, j < (if i = sC N then (k, digN t k) else sR N i).1 → (if i = sC N then (k, digN t k) else sR N i).2 j ≤ 9
  by_cases e : i = sC N
  · rw [if_pos e]
    exact ⟨by omega, by omega, fun j _ => digN_le _ _ _⟩
  · rw [if_neg e]
    have hi' : i < sC N + 1 := hi
    exact h.2 i (by omega)
theorem dropA_9 {x : Int32} {N : StT} (h : OkN N) : Op9 N (dropA x N) ∧ Neg3 (dropA x N) := by
  have h6 := h.1
  unfold dropA
  split
  · exact ⟨Op9.same h, by first | exact Neg3.e1 | exact Neg3.e2 | exact Neg3.e3⟩
  rename_i i hi
  have hi2 := idx_lt (by omega) hi
  refine ⟨Op9.row ⟨show sC N - 1 ≤ 6 by omega, fun k hk => ?_⟩ rfl rfl rfl, Or.inr (nI_pos (by omega))⟩
  have hk' : k < sC N - 1 := hk
  show 0 < (if k < i then sR N k else sR N (k + 1)).1 ∧ (if k < i then sR N k else sR N (k + 1)).1 ≤ 8 ∧ ∀ j, j < (if k < i then sR N k else sR N (k + 1)).1 → (if k < i then sR N k else sR N (k + 1)).2 j ≤ 9
  split
  · exact h.2 k (by omega)
  · exact h.2 (k + 1) (by omega)
theorem turnA_9 {x : Int32} {N : StT} (h : OkN N) : Op9 N (turnA x N) ∧ Neg3 (turnA x N) := by
  have h6 := h.1
  unfold turnA
  split
  · exact ⟨Op9.same h, by first | exact Neg3.e1 | exact Neg3.e2 | exact Neg3.e3⟩
  rename_i i hi
  have hi2 := idx_lt (by omega) hi
  obtain ⟨q1, q2, q3⟩ := h.2 i hi2
  have q4 := q3 _ (Nat.mod_lt (0 + 1) q1)
  exact ⟨Op9.row (h.setR (fun j _ => q3 _ (Nat.mod_lt _ q1)) hi2) rfl rfl rfl, Or.inr (nI_pos (by unfold rotN; omega))⟩
theorem swapA_9 {x y z : Int32} {N : StT} (h : OkN N) : Op9 N (swapA x y z N) ∧ Neg3 (swapA x y z N) := by
  have h6 := h.1
  unfold swapA
  split
  · exact ⟨Op9.same h, by first | exact Neg3.e1 | exact Neg3.e2 | exact Neg3.e3⟩
  rename_i i hi
  have hi2 := idx_lt (by omega) hi
  obtain ⟨q1, q2, q3⟩ := h.2 i hi2
  split
  · exact ⟨Op9.same h, by first | exact Neg3.e1 | exact Neg3.e2 | exact Neg3.e3⟩
  rename_i a ha
  have ha2 := idx_lt (by omega) ha
  split
  · exact ⟨Op9.same h, by first | exact Neg3.e1 | exact Neg3.e2 | exact Neg3.e3⟩
  rename_i b hb
  split
  · exact ⟨Op9.same h, by first | exact Neg3.e1 | exact Neg3.e2 | exact Neg3.e3⟩
  split
  · exact ⟨Op9.same h, by first | exact Neg3.e1 | exact Neg3.e2 | exact Neg3.e3⟩
  split
  · exact ⟨Op9.same h, by first | exact Neg3.e1 | exact Neg3.e2 | exact Neg3.e3⟩
  rename_i c1 c2 c3
  refine ⟨Op9.row (h.setR (fun j hj => ?_) hi2) rfl rfl rfl, Or.inr (nI_pos (by omega))⟩
  unfold swpN
  have := q3 _ ha2
  split
  · omega
  split
  · omega
  · exact q3 j hj
theorem liftA_9 {x : Int32} {N : StT} (h : OkN N) : Op9 N (liftA x N) := by
  have h6 := h.1
  unfold liftA
  split
  · exact Op9.same h
  rename_i i hi
  have hi2 := idx_lt (by omega) hi
  split
  · exact Op9.same h
  · rename_i hf
    refine Op9.row (h.setR (fun j hj => ?_) hi2) rfl rfl rfl
    have h9 := fa_first_no (fun k => decide (9 ≤ (sR N i).2 k)) (sR N i).1 j (by omega)
    have := of_decide_eq_false h9
    show (sR N i).2 j + 1 ≤ 9
    omega
theorem beginA_9 {x : Int32} {N : StT} (h : OkN N) : Op9 N (beginA x N) ∧ Neg3 (beginA x N) := by
  unfold beginA
  split
  · exact ⟨Op9.same h, by first | exact Neg3.e1 | exact Neg3.e2 | exact Neg3.e3⟩
  rename_i k hk
  have hk2 := idx_lt (by decide) hk
  split
  · exact ⟨Op9.same h, by first | exact Neg3.e1 | exact Neg3.e2 | exact Neg3.e3⟩
  · have h3 : 2 ^ k < 2 ^ 9 := Nat.pow_lt_pow_right (by decide) hk2
    exact ⟨⟨h, 0, by omega, Nat.zero_le _, rfl, Nat.le_refl _⟩, Or.inr (nI_pos (by omega))⟩
theorem tossA_9 {x : Int32} {N : StT} (h : OkN N) : Op9 N (tossA x N) ∧ Neg3 (tossA x N) := by
  unfold tossA
  split
  · exact ⟨Op9.same h, by first | exact Neg3.e1 | exact Neg3.e2 | exact Neg3.e3⟩
  rename_i k hk
  split
  · exact ⟨Op9.same h, by first | exact Neg3.e1 | exact Neg3.e2 | exact Neg3.e3⟩
  split
  · refine ⟨⟨h, 1, by omega, Nat.le_refl _, rfl, ?_⟩, Or.inr (nI_pos (by omega))⟩
    show sU N + (if 0 < k then 1 else 0) ≤ sU N + 1
    split <;> omega
  · exact ⟨Op9.same h, by first | exact Neg3.e1 | exact Neg3.e2 | exact Neg3.e3⟩
theorem out_dst {N : StT} (hK : OkS N) (h : OkN N) {i : Nat} (hi : i < sC N) (hd : outA N (sR N i) = none) : clN (sR N i).2 (sR N i).1 = (sR N i).1 ∧ sumN (sR N i).2 (sR N i).1 / (sR N i).1 = popc (sS N) ∧ stN (sR N i).2 (sR N i).1 0 < 512 ∧ dstN (sS N) (stN (sR N i).2 (sR N i).1 0) ≤ 9 ∧ Dst (sS N) (stN (sR N i).2 (sR N i).1 0) (dstN (sS N) (stN (sR N i).2 (sR N i).1 0)) := by
  obtain ⟨q1, q2, q3⟩ := h.2 i hi
  obtain ⟨hcl, hsm⟩ := outA_none hd
  have hst := stN_lt (L := (sR N i).1) (b := 0) q1 q3
  obtain ⟨k, hk9, hk⟩ := nine hK.1 hst (by rw [balls_ok q1 q3 hcl, hsm])
  rw [dstN_is hk]
  exact ⟨hcl, hsm, hst, hk9, hk⟩
theorem joinA_9 {x : Int32} {N : StT} (hK : OkS N) (h : OkN N) : Op9 N (joinA x N) ∧ Neg3 (joinA x N) := by
  have h6 := h.1
  unfold joinA
  split
  · exact ⟨Op9.same h, by first | exact Neg3.e1 | exact Neg3.e2 | exact Neg3.e3⟩
  rename_i i hi
  have hi2 := idx_lt (by omega) hi
  split
  · exact ⟨Op9.same h, by first | exact Neg3.e1 | exact Neg3.e2 | exact Neg3.e3⟩
  rename_i hd
  obtain ⟨hcl, hsm, hst, h9, hD⟩ := out_dst hK h hi2 hd
  obtain ⟨e1, e2, e3⟩ := thrA_n N (digN (codN (sS N) (stN (sR N i).2 (sR N i).1 0)) (dstN (sS N) (stN (sR N i).2 (sR N i).1 0))) (dstN (sS N) (stN (sR N i).2 (sR N i).1 0))
  obtain ⟨f1, f2⟩ := thrA_C N (digN (codN (sS N) (stN (sR N i).2 (sR N i).1 0)) (dstN (sS N) (stN (sR N i).2 (sR N i).1 0))) (dstN (sS N) (stN (sR N i).2 (sR N i).1 0))
  exact ⟨⟨h.of f1 f2, _, h9, Nat.le_of_eq e1, e2, e3⟩, Or.inr (nI_pos (by omega))⟩
theorem onceA_9 {x : Int32} {N : StT} (h : OkN N) : Op9 N (onceA x N) ∧ Neg3 (onceA x N) := by
  have h6 := h.1
  unfold onceA
  split
  · exact ⟨Op9.same h, by first | exact Neg3.e1 | exact Neg3.e2 | exact Neg3.e3⟩
  rename_i i hi
  have hi2 := idx_lt (by omega) hi
  obtain ⟨q1, q2, q3⟩ := h.2 i hi2
  split
  · exact ⟨Op9.same h, by first | exact Neg3.e1 | exact Neg3.e2 | exact Neg3.e3⟩
  split
  · obtain ⟨e1, e2, e3⟩ := thrA_n N (sR N i).2 (sR N i).1
    obtain ⟨f1, f2⟩ := thrA_C N (sR N i).2 (sR N i).1
    exact ⟨⟨h.of f1 f2, _, by omega, Nat.le_of_eq e1, e2, e3⟩, Or.inr (nI_pos (by omega))⟩
  · exact ⟨Op9.same h, by first | exact Neg3.e1 | exact Neg3.e2 | exact Neg3.e3⟩
theorem cmdN_9 {t : Nat → Nat} {tl s : Nat} {N : StT} (hK : OkS N) (h : OkN N) : Op9 N (cmdN t tl s N) := by
  unfold cmdN
  split
  · exact (dropA_9 h).1
  split
  · exact (turnA_9 h).1
  split
  · exact (swapA_9 h).1
  split
  · exact liftA_9 h
  split
  · exact (beginA_9 h).1
  split
  · exact (tossA_9 h).1
  split
  · exact (joinA_9 hK h).1
  split
  · exact (onceA_9 h).1
  exact (addA_9 h).1
/-- the numbers of a stand keep in bounds -/
def Nv (K : Nat) (N : StT) : Prop := OkS N ∧ sB N ≤ K ∧ sU N ≤ sT N ∧ sT N ≤ K
theorem Nv.up {K K' : Nat} {N : StT} (h : Nv K N) (hk : K ≤ K') : Nv K' N := ⟨h.1, Nat.le_trans h.2.1 hk, h.2.2.1, Nat.le_trans h.2.2.2 hk⟩
theorem Nv.op {K : Nat} {N : StT} {res : OpR} (h : Nv K N) (h1 : GdR N res) (h2 : Op9 N res) : Nv (K + 9) res.2.1 := by
  obtain ⟨-, d, d1, d2, d3, d4⟩ := h2
  obtain ⟨k1, k2, k3, k4⟩ := h
  exact ⟨h1.1, by omega, by omega, by omega⟩
/-- a text's run: an error leaves the stand; else the numbers keep in bounds, and the answer is no negative one -/
theorem runN_nv {t : Nat → Nat} {tl : Nat} {N0 : StT} {K : Nat} (h0 : Nv K N0) : ∀ f q s N, q + f ≤ 1000 → Nv (K + 9 * q) N → OkN N → Nv (K + 9 * (q + f)) (runN t tl N0 f q s N).2.1 ∧ (isErr (runN t tl N0 f q s N).1 ∧ (runN t tl N0 f q s N).2.1 = N0 ∧ ¬ (runN t tl N0 f q s N).1 < -3 ∨ ¬ isErr (runN t tl N0 f q s N).1 ∧ ¬ (runN t tl N0 f q s N).1 < 0)
  | 0, q, s, N, hq, hN, h2 => ⟨hN, Or.inr ⟨nI_nerr (by omega), nI_pos (by omega)⟩⟩
  | f + 1, q, s, N, hq, hN, h2 => by
    unfold runN
    by_cases hs : s < tl
    · rw [if_pos hs]
      by_cases he : isErr (cmdN t tl s N).1
      · rw [if_pos he]
        refine ⟨h0.up (by omega), Or.inl ⟨?_, rfl, ?_⟩⟩
        · show isErr (if (cmdN t tl s N).1 = -3 then (-3 : Int32) else -2)
          split <;> decide
        · show ¬ (if (cmdN t tl s N).1 = -3 then (-3 : Int32) else -2) < -3
          split <;> decide
      · rw [if_neg he]
        have h9 := cmdN_9 (t := t) (tl := tl) (s := s) hN.1 h2
        have := runN_nv (t := t) (tl := tl) h0 f (q + 1) (endN t tl s + 1) (cmdN t tl s N).2.1 (by omega) ((hN.op (cmdN_ok hN.1 h2) h9).up (by omega)) h9.1
        rw [show q + (f + 1) = q + 1 + f by omega]
        exact this
    · rw [if_neg hs]
      exact ⟨hN.up (by omega), Or.inr ⟨nI_nerr (by omega), nI_pos (by omega)⟩⟩
/-- the whole object's numbers -/
def IX (K : Nat) (X : XT) : Prop := Nv K (xN X) ∧ Nv K (xS X) ∧ (∀ k, k < (xP X).1 → Nv K ((xP X).2 k)) ∧ xH X ≤ 1 ∧ (xP X).1 ≤ 8
theorem IX.up {K K' : Nat} {X : XT} (h : IX K X) (hk : K ≤ K') : IX K' X := ⟨h.1.up hk, h.2.1.up hk, fun k a => (h.2.2.1 k a).up hk, h.2.2.2⟩
theorem IX.push {K K' : Nat} {X : XT} (h : IX K X) {N' : StT} (hN : Nv K' N') (hk : K ≤ K') {X' : XT} (e1 : xN X' = N') (e2 : xS X' = xS X) (e3 : xH X' = xH X) (e4 : xP X' = (min ((xP X).1 + 1) 8, conS (xN X) (xP X).2)) : IX K' X' := by
  obtain ⟨a1, a2, a3, a4, a5⟩ := h
  unfold IX
  rw [e1, e2, e3, e4]
  refine ⟨hN, a2.up hk, fun k hk2 => ?_, a4, Nat.min_le_right _ _⟩
  show Nv K' (if k = 0 then xN X else (xP X).2 (k - 1))
  split
  · exact a1.up hk
  · have : k < min ((xP X).1 + 1) 8 := hk2
    exact (a3 (k - 1) (by omega)).up hk
theorem IX.same {K : Nat} {X X' : XT} (h : IX K X) (e1 : xN X' = xN X) (e2 : xS X' = xS X) (e3 : xH X' = xH X) (e4 : xP X' = xP X) : IX K X' := by
  unfold IX
  rw [e1, e2, e3, e4]
  exact h
theorem IX.chg {K : Nat} {X : XT} (h : IX K X) {res : OpR} (h1 : GdR (xN X) res) (h2 : Op9 (xN X) res) : IX (K + 9) (chgX X res).2 := by
  unfold chgX
  by_cases he : isErr res.1
  · rw [if_pos he]
    exact (h.same (X' := opX X res) (h1.2.2 he) rfl rfl rfl).up (by omega)
  · rw [if_neg he]
    exact h.push (X' := pushP (opX X res) (xN X)) (h.1.op h1 h2) (by omega) rfl rfl rfl rfl
theorem chg_neg {X : XT} {res : OpR} (h1 : GdR (xN X) res) (h3 : Neg3 res) (hn : (chgX X res).1 < 0) : xN (chgX X res).2 = xN X := by
  have he : isErr res.1 := by
    rcases h3 with z | z
    · exact z
    · exact absurd hn z
  unfold chgX
  rw [if_pos he]
  exact h1.2.2 he
theorem IX.rea {K : Nat} {X : XT} (h : IX K X) (h2 : OkN (xN X)) : IX (K + 639) (reaA X).2 ∧ ((reaA X).1 < 0 → xN (reaA X).2 = xN X) := by
  unfold reaA
  split
  · refine ⟨(h.same (X' := (xN X, xS X, xH X, xP X, xL X, (0, (xT X).2), rfC (xR X) (-4) none)) rfl rfl rfl rfl).up (by omega), fun _ => rfl⟩
  · obtain ⟨h3, h4⟩ := runN_nv (t := (xT X).2) (tl := (xT X).1) h.1 71 0 0 (xN X) (by omega) h.1 h2
    generalize runN (xT X).2 (xT X).1 (xN X) 71 0 0 (xN X) = res at h3 h4
    rcases h4 with ⟨e1, e2, e3⟩ | ⟨e1, e2⟩
    · refine ⟨(h.same (X' := setT (runX X (-4) res) (0, (xT X).2)) e2 rfl rfl ?_).up (by omega), fun _ => e2⟩
      show (if isErr res.1 then xP X else _) = _
      rw [if_pos e1]
    · refine ⟨h.push (X' := setT (runX X (-4) res) (0, (xT X).2)) h3 (by omega) rfl rfl rfl ?_, fun hn => absurd hn e2⟩
      show (if isErr res.1 then xP X else _) = _
      rw [if_neg e1]
theorem IX.und {K : Nat} {X : XT} (h : IX K X) : IX K (undA X).2 ∧ ((undA X).1 < 0 → xN (undA X).2 = xN X) := by
  obtain ⟨a1, a2, a3, a4, a5⟩ := h
  unfold undA
  by_cases e : (xP X).1 = 0
  · rw [if_pos e]
    exact ⟨⟨a1, a2, a3, a4, a5⟩, fun _ => rfl⟩
  · rw [if_neg e]
    refine ⟨⟨a3 0 (by omega), a2, fun k hk => ?_, a4, show (xP X).1 - 1 ≤ 8 by omega⟩, fun hn => absurd hn (nI_pos (by omega))⟩
    have : k < (xP X).1 - 1 := hk
    exact a3 (k + 1) (by omega)
theorem IX.sav {K : Nat} {X : XT} (h : IX K X) : IX K (savA X).2 := by
  obtain ⟨a1, a2, a3, a4, a5⟩ := h
  exact ⟨a1, a1, a3, Nat.le_refl 1, a5⟩
theorem IX.res {K : Nat} {X : XT} (h : IX K X) (h2 : sC (xS X) ≤ 6) : IX K (resA X).2 ∧ ((resA X).1 < 0 → xN (resA X).2 = xN X) := by
  obtain ⟨a1, a2, a3, a4, a5⟩ := h
  unfold resA
  by_cases e : xH X = 0
  · rw [if_pos e]
    exact ⟨⟨a1, a2, a3, a4, a5⟩, fun _ => rfl⟩
  · rw [if_neg e]
    exact ⟨⟨a2, a2, fun k hk => absurd hk (Nat.not_lt_zero k), a4, Nat.zero_le 8⟩, fun hn => absurd hn (nI_pos (by omega))⟩
