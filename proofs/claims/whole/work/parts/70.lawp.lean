/-! the law: its invariant -/
section LP
variable {g : GG} {w w' : HW} {n o p : Nat} {X X' : XT}
theorem XW.frame (h : XW g w n o X) (hw : ∀ i, o ≤ i → i < o + 167 → w' i = w i) : XW g w' n o X := by
  obtain ⟨B, h0, k1, h2, h3, h4, h5, h6, h7, h8, ⟨F, h9⟩, h10⟩ := h
  exact ⟨B, (hw _ (by omega) (by omega)).trans h0, k1.frame (fun i _ _ => hw i (by omega) (by omega)), h2.frame (fun i _ _ => hw i (by omega) (by omega)), h3.frame (fun i _ _ => hw i (by omega) (by omega)), h4.frame (fun i _ _ => hw i (by omega) (by omega)), h5.frame (fun i _ _ => hw i (by omega) (by omega)), h6.frame (hw _ (by omega) (by omega)) (hw _ (by omega) (by omega)), h7.frame (hw _ (by omega) (by omega)) (hw _ (by omega) (by omega)), (hw _ (by omega) (by omega)).trans h8, ⟨F, (hw _ (by omega) (by omega)).trans h9⟩, h10⟩
theorem MW.frame (h : MW g w n p X) (hw : ∀ i, p ≤ i → i < p + 19 → w' i = w i) : MW g w' n p X := by
  obtain ⟨K, F, Fs, Fb, C, T, ⟨h0, h1, h2, h3, ⟨Hf, h4, h5⟩, ⟨Q, P, B, J, q1, q2, q3, q4⟩, h7, h8, h9, h10, h11⟩, r⟩ := h
  exact ⟨K, F, Fs, Fb, C, T, ⟨(hw _ (by omega) (by omega)).trans h0, (hw _ (by omega) (by omega)).trans h1, (hw _ (by omega) (by omega)).trans h2, (hw _ (by omega) (by omega)).trans h3, ⟨Hf, h4.frame (fun i _ _ => hw i (by omega) (by omega)), h5⟩, ⟨Q, P, B, J, (hw _ (by omega) (by omega)).trans q1, (hw _ (by omega) (by omega)).trans q2, (hw _ (by omega) (by omega)).trans q3, (hw _ (by omega) (by omega)).trans q4⟩, (hw _ (by omega) (by omega)).trans h7, (hw _ (by omega) (by omega)).trans h8, h9, h10, h11⟩, r⟩
theorem MW.oks (h : MW g w n p X) : OkS (xN X) ∧ OkN (xN X) ∧ xH X ≤ 1 := by
  obtain ⟨K, F, Fs, Fb, C, T, -, hR, -, -, hH, -⟩ := h
  exact ⟨hR.2.2.2.1, hR.2.2.1, hH⟩
/-- no stand kept has more beats than the calls so far allow -/
def Bd (X : XT) (i : Nat) : Prop := sB (xN X) ≤ 700 * i ∧ sB (xS X) ≤ 700 * i ∧ ∀ k, k < (xP X).1 → sB ((xP X).2 k) ≤ 700 * i
theorem Bd.same {i : Nat} (h : Bd X i) (e1 : xN X' = xN X) (e2 : xS X' = xS X) (e3 : xP X' = xP X) : Bd X' (i + 4) := by
  obtain ⟨h1, h2, h3⟩ := h
  refine ⟨by rw [e1]; omega, by rw [e2]; omega, fun k hk => ?_⟩
  rw [e3] at hk ⊢
  have := h3 k hk
  omega
theorem Bd.push {i : Nat} (h : Bd X i) {N : StT} (hN : sB N ≤ sB (xN X) + 900) (e1 : xN X' = N) (e2 : xS X' = xS X) (e3 : xP X' = xP X ∨ xP X' = (min ((xP X).1 + 1) 8, conS (xN X) (xP X).2)) : Bd X' (i + 4) := by
  obtain ⟨h1, h2, h3⟩ := h
  refine ⟨by rw [e1]; omega, by rw [e2]; omega, fun k hk => ?_⟩
  rcases e3 with e3 | e3
  · rw [e3] at hk ⊢
    have := h3 k hk
    omega
  · rw [e3] at hk ⊢
    show sB (conS (xN X) (xP X).2 k) ≤ _
    have hk : k < min ((xP X).1 + 1) 8 := hk
    unfold conS
    by_cases z : k = 0
    · rw [if_pos z]; omega
    · rw [if_neg z]
      have := h3 (k - 1) (by omega)
      omega
theorem Bd.chg {i : Nat} (h : Bd X i) {res : OpR} (hr : sB res.2.1 ≤ sB (xN X) + 9) : Bd (chgX X res).2 (i + 4) := by
  by_cases he : isErr res.1
  · rw [show (chgX X res).2 = opX X res by unfold chgX; rw [if_pos he]]
    exact h.push (N := res.2.1) (by omega) rfl rfl (Or.inl rfl)
  · rw [show (chgX X res).2 = pushP (opX X res) (xN X) by unfold chgX; rw [if_neg he]]
    exact h.push (N := res.2.1) (by omega) rfl rfl (Or.inr rfl)
theorem Bd.rea {i : Nat} (h : Bd X i) (hr : sB (xN (reaA X).2) ≤ sB (xN X) + 900) : Bd (reaA X).2 (i + 4) := by
  refine h.push hr rfl ?_ ?_
  · unfold reaA
    split <;> rfl
  · unfold reaA
    split
    · exact Or.inl rfl
    · generalize runN _ _ _ _ _ _ _ = res
      show (if isErr res.1 then xP X else (min ((xP X).1 + 1) 8, conS (xN X) (xP X).2)) = _ ∨ (if isErr res.1 then xP X else (min ((xP X).1 + 1) 8, conS (xN X) (xP X).2)) = _
      by_cases he : isErr res.1
      · rw [if_pos he]; exact Or.inl rfl
      · rw [if_neg he]; exact Or.inr rfl
theorem Bd.app {i : Nat} (h : Bd X i) {x : Int32} : Bd (appA x X).2 (i + 4) := by
  unfold appA
  repeat' split
  all_goals exact h.same rfl rfl rfl
theorem Bd.tlr {i : Nat} (h : Bd X i) {x : Int32} : Bd (tlrA x X).2 (i + 4) := by
  unfold tlrA
  repeat' split
  all_goals exact h.same rfl rfl rfl
theorem Bd.tls {i : Nat} (h : Bd X i) : Bd (tlsA X).2 (i + 4) := h.same rfl rfl rfl
theorem Bd.tlj {i : Nat} (h : Bd X i) {x : Int32} : Bd (tljA x X).2 (i + 4) := by
  unfold tljA
  repeat' split
  all_goals exact h.same rfl rfl rfl
theorem Bd.und {i : Nat} (h : Bd X i) : Bd (undA X).2 (i + 4) := by
  unfold undA
  split
  · exact h.same rfl rfl rfl
  · rename_i hz
    obtain ⟨h1, h2, h3⟩ := h
    have h0 := h3 0 (by omega)
    refine ⟨show sB ((xP X).2 0) ≤ _ by omega, show sB (xS X) ≤ _ by omega, fun k hk => ?_⟩
    have hk : k < (xP X).1 - 1 := hk
    have := h3 (k + 1) (by omega)
    show sB ((xP X).2 (k + 1)) ≤ _
    omega
theorem Bd.sav {i : Nat} (h : Bd X i) : Bd (savA X).2 (i + 4) := by
  obtain ⟨h1, h2, h3⟩ := h
  refine ⟨show sB (xN X) ≤ _ by omega, show sB (xN X) ≤ _ by omega, fun k hk => ?_⟩
  have := h3 k hk
  show sB ((xP X).2 k) ≤ _
  omega
theorem Bd.res {i : Nat} (h : Bd X i) : Bd (resA X).2 (i + 4) := by
  unfold resA
  split
  · exact h.same rfl rfl rfl
  · obtain ⟨h1, h2, h3⟩ := h
    exact ⟨show sB (xS X) ≤ _ by omega, show sB (xS X) ≤ _ by omega, fun k hk => absurd hk (Nat.not_lt_zero k)⟩
theorem all_nI (x : Int32) : ∃ m, x = nI m := ⟨x.toBitVec.toNat, by
  apply Int32.toBitVec_inj.mp
  simp [nI]⟩
theorem and63 (x : Int32) : ∃ k, k < 64 ∧ x &&& nI 63 = nI k := by
  obtain ⟨m, rfl⟩ := all_nI x
  refine ⟨m &&& 63, ?_, fa_and m 63⟩
  have := Nat.and_le_right (n := m) (m := 63)
  omega
end LP
