/-! the law's areRows, worth, areRanked, isFit -/
theorem rowA_end {N : StT} {x : Int32} (h : OkN N) : rowA (nI (sC N)) x N = -1 := by
  have h6 := h.1
  unfold rowA
  rw [idx_no (Or.inr (by rw [nI_leI (by omega) (by omega)]; omega))]
theorem betA_at {N : StT} {i j : Nat} (h : OkN N) (hi : i < sC N) (hj : j < sC N) : betA (nI i) (nI j) N = if ballI (sR N i).2 (sR N i).1 = -4 ∨ ballI (sR N i).2 (sR N i).1 ≠ ballI (sR N j).2 (sR N j).1 then -4 else nI (dstN (stN (sR N i).2 (sR N i).1 0) (stN (sR N j).2 (sR N j).1 0)) := by
  have h6 := h.1
  unfold betA
  rw [idx_yes hi (by omega)]
  dsimp only
  rw [idx_yes hj (by omega)]
theorem rnkA_at {N : StT} {k p : Nat} (h : OkN N) (hk : k < 3) (hp : p < sC N) : ∃ i, i < sC N ∧ rnkN (fun j => rkK k (sR N j)) (sC N) i = p ∧ rnkA (nI k) (nI p) N = nI i := by
  have h6 := h.1
  obtain ⟨i, h1, h2, h3⟩ := rnk_at (key := fun j => rkK k (sR N j)) hp
  refine ⟨i, h1, h2, ?_⟩
  unfold rnkA
  rw [idx_yes hk (by decide)]
  show (match idx (nI p) (sC N) with | none => -1 | some p => if fa_first (fun i => decide (rnkN (fun j => rkK k (sR N j)) (sC N) i = p)) (sC N) < sC N then nI (fa_first (fun i => decide (rnkN (fun j => rkK k (sR N j)) (sC N) i = p)) (sC N)) else -1) = _
  rw [idx_yes hp (by omega)]
  show (if fa_first (fun i => decide (rnkN (fun j => rkK k (sR N j)) (sC N) i = p)) (sC N) < sC N then nI (fa_first (fun i => decide (rnkN (fun j => rkK k (sR N j)) (sC N) i = p)) (sC N)) else -1) = _
  rw [h3, if_pos h1]
theorem rnkA_end {N : StT} {k : Nat} (h : OkN N) (hk : k < 3) : rnkA (nI k) (nI (sC N)) N = -1 := by
  have h6 := h.1
  unfold rnkA
  rw [idx_yes hk (by decide)]
  dsimp only
  rw [idx_no (Or.inr (by rw [nI_leI (by omega) (by omega)]; omega))]
noncomputable def worI (k : Nat) (row : RowT) : Int32 := if k = 0 then - nI row.1 else if k = 1 then ballI row.2 row.1 else - nI (maxN row.2 row.1)
def More (x y : Int32) (i j : Nat) : Prop := 0 < x - y ∨ (x - y = 0 ∧ i < j)
theorem neg_more : ∀ a, a < 10 → ∀ b, b < 10 → (nI a < nI b → 0 < - nI a - - nI b) ∧ (nI a = nI b → - nI a - - nI b = 0) := by decide +kernel
def bvI (a : Nat) : Int32 := if a = 10 then -4 else nI a
theorem bal_more : ∀ a, a < 11 → ∀ b, b < 11 → ((if bvI a = -4 then (1 : Int32) else - bvI a) < (if bvI b = -4 then (1 : Int32) else - bvI b) → 0 < bvI a - bvI b) ∧ ((if bvI a = -4 then (1 : Int32) else - bvI a) = (if bvI b = -4 then (1 : Int32) else - bvI b) → bvI a - bvI b = 0) := by decide +kernel
theorem bvI_is {h : Nat → Nat} {L : Nat} (h0 : 0 < L) (hh : ∀ i, i < L → h i ≤ 9) : ∃ a, a < 11 ∧ ballI h L = bvI a := by
  have hd := divL_le h0 hh
  unfold ballI
  by_cases hc : clN h L = L
  · exact ⟨sumN h L / L, by omega, by rw [if_pos hc]; unfold bvI; rw [if_neg (by omega)]⟩
  · exact ⟨10, by decide, by rw [if_neg hc]; rfl⟩
theorem wor_more {N : StT} {k i j : Nat} (h : OkN N) (hk : k < 3) (hi : i < sC N) (hj : j < sC N) (ha : ahB (fun j => rkK k (sR N j)) i j = true) : More (worI k (sR N i)) (worI k (sR N j)) i j := by
  obtain ⟨q1, q2, q3⟩ := h.2 i hi
  obtain ⟨r1, r2, r3⟩ := h.2 j hj
  have ha := ah_iff.mp ha
  rcases (by omega : k = 0 ∨ k = 1 ∨ k = 2) with rfl | rfl | rfl
  · obtain ⟨m1, m2⟩ := neg_more (sR N i).1 (by omega) (sR N j).1 (by omega)
    have ha : nI (sR N i).1 < nI (sR N j).1 ∨ (nI (sR N i).1 = nI (sR N j).1 ∧ i < j) := ha
    show 0 < - nI (sR N i).1 - - nI (sR N j).1 ∨ (- nI (sR N i).1 - - nI (sR N j).1 = 0 ∧ i < j)
    rcases ha with z | ⟨z1, z2⟩
    · exact Or.inl (m1 z)
    · exact Or.inr ⟨m2 z1, z2⟩
  · obtain ⟨a, a1, a2⟩ := bvI_is q1 q3
    obtain ⟨b, b1, b2⟩ := bvI_is r1 r3
    obtain ⟨m1, m2⟩ := bal_more a a1 b b1
    have ha : (if ballI (sR N i).2 (sR N i).1 = -4 then (1 : Int32) else - ballI (sR N i).2 (sR N i).1) < (if ballI (sR N j).2 (sR N j).1 = -4 then (1 : Int32) else - ballI (sR N j).2 (sR N j).1) ∨ ((if ballI (sR N i).2 (sR N i).1 = -4 then (1 : Int32) else - ballI (sR N i).2 (sR N i).1) = (if ballI (sR N j).2 (sR N j).1 = -4 then (1 : Int32) else - ballI (sR N j).2 (sR N j).1) ∧ i < j) := ha
    show 0 < ballI (sR N i).2 (sR N i).1 - ballI (sR N j).2 (sR N j).1 ∨ (ballI (sR N i).2 (sR N i).1 - ballI (sR N j).2 (sR N j).1 = 0 ∧ i < j)
    rw [a2, b2] at ha ⊢
    rcases ha with z | ⟨z1, z2⟩
    · exact Or.inl (m1 z)
    · exact Or.inr ⟨m2 z1, z2⟩
  · have x1 := maxN_le q3
    have x2 := maxN_le r3
    obtain ⟨m1, m2⟩ := neg_more (maxN (sR N i).2 (sR N i).1) (by omega) (maxN (sR N j).2 (sR N j).1) (by omega)
    have ha : nI (maxN (sR N i).2 (sR N i).1) < nI (maxN (sR N j).2 (sR N j).1) ∨ (nI (maxN (sR N i).2 (sR N i).1) = nI (maxN (sR N j).2 (sR N j).1) ∧ i < j) := ha
    show 0 < - nI (maxN (sR N i).2 (sR N i).1) - - nI (maxN (sR N j).2 (sR N j).1) ∨ (- nI (maxN (sR N i).2 (sR N i).1) - - nI (maxN (sR N j).2 (sR N j).1) = 0 ∧ i < j)
    rcases ha with z | ⟨z1, z2⟩
    · exact Or.inl (m1 z)
    · exact Or.inr ⟨m2 z1, z2⟩
section FIT
variable {g : GG} {l : Launch} {w : HW} {n o : Nat} {X : XT}
theorem c_worth (hX : XW g w n o X) {k i : Nat} (hk : k < 3) (hi : i < sC (xN X)) : CtR g l ML_worth 5 [rf g o, .int (nI k), .int (nI i)] w n (.int (worI k (sR (xN X) i))) := by
  have hN := hX.okn
  obtain ⟨hob, hn⟩ := hX.obj
  rcases (by omega : k = 0 ∨ k = 1 ∨ k = 2) with rfl | rfl | rfl
  · refine Ct.ofs (M := ML_worth) (ls := [some _, some _, some _]) (by decide +kernel) (by exact (Nat.le_of_ble_eq_true rfl)) (by rfl) (by rfl) (by rfl) ?_
    refine V_iload_n (q := 1) dL_worth_0 rfl rfl ?_
    refine V_ifN_ne (q := 4) (tgt := 14) dL_worth_1 (by decide) rfl (by omega) (fun h9 => by first | exact h9.elim | exact absurd h9 (by assumption) | (exfalso; omega)) (fun _ => ?_)
    refine V_aload_n (q := 5) dL_worth_4 rfl rfl rfl ?_
    refine V_iload_n (q := 6) dL_worth_5 rfl rfl ?_
    refine V_iconst (q := 7) (v := nI 0) dL_worth_6 rfl (by decide) ?_
    refine CrL_85 (q := 10) rfl dL_worth_7 rfl (X_rowOf hX) ⟨(Nat.le_of_ble_eq_true rfl), (Nat.le_of_ble_eq_true rfl)⟩ (Nat.le_of_ble_eq_true rfl) (by first | assumption | exact up_eq | exact (up_ne (by omega)).trans (by first | assumption | exact up_eq | exact (up_ne (by omega)).trans (by first | assumption | exact up_eq | exact (up_ne (by omega)).trans (by first | assumption | exact up_eq)))) (by omega) (Nat.zero_le _) (Nat.zero_le _) ?_
    refine V_topi ((rowA_at hN hi (by decide))) ?_
    refine V_topi ((show rowW (sR (xN X) i) 0 = nI (sR (xN X) i).1 from rfl)) ?_
    refine V_ineg (q := 11) dL_worth_10 rfl rfl ?_
    refine V_goto (tgt := 35) dL_worth_11 (by decide) ?_
    exact V_iret dL_worth_35 rfl (Nat.le_of_ble_eq_true rfl) (Nat.le_of_ble_eq_true rfl) (⟨rfl, rfl, rfl⟩)
  · refine Ct.ofs (M := ML_worth) (ls := [some _, some _, some _]) (by decide +kernel) (by exact (Nat.le_of_ble_eq_true rfl)) (by rfl) (by rfl) (by rfl) ?_
    refine V_iload_n (q := 1) dL_worth_0 rfl rfl ?_
    refine V_ifN_ne (q := 4) (tgt := 14) dL_worth_1 (by decide) rfl (by omega) (fun _ => ?_) (fun h9 => by first | exact h9.elim | (exfalso; omega))
    refine V_iload_n (q := 15) dL_worth_14 rfl rfl ?_
    refine V_iconst (q := 16) (v := nI 1) dL_worth_15 rfl (by decide) ?_
    refine V_icmp_ne (q := 19) (tgt := 28) dL_worth_16 (by decide) rfl (fun h9 => absurd rfl h9) (fun _ => ?_)
    refine V_aload_n (q := 20) dL_worth_19 rfl rfl rfl ?_
    refine V_iload_n (q := 21) dL_worth_20 rfl rfl ?_
    refine V_iconst (q := 22) (v := nI 2) dL_worth_21 rfl (by decide) ?_
    refine CrL_85 (q := 25) rfl dL_worth_22 rfl (X_rowOf hX) ⟨(Nat.le_of_ble_eq_true rfl), (Nat.le_of_ble_eq_true rfl)⟩ (Nat.le_of_ble_eq_true rfl) (by first | assumption | exact up_eq | exact (up_ne (by omega)).trans (by first | assumption | exact up_eq | exact (up_ne (by omega)).trans (by first | assumption | exact up_eq | exact (up_ne (by omega)).trans (by first | assumption | exact up_eq)))) (by omega) (Nat.zero_le _) (Nat.zero_le _) ?_
    refine V_topi ((rowA_at hN hi (by decide))) ?_
    refine V_topi ((show rowW (sR (xN X) i) 2 = ballI (sR (xN X) i).2 (sR (xN X) i).1 from rfl)) ?_
    refine V_goto (tgt := 35) dL_worth_25 (by decide) ?_
    exact V_iret dL_worth_35 rfl (Nat.le_of_ble_eq_true rfl) (Nat.le_of_ble_eq_true rfl) (⟨rfl, rfl, rfl⟩)
  · refine Ct.ofs (M := ML_worth) (ls := [some _, some _, some _]) (by decide +kernel) (by exact (Nat.le_of_ble_eq_true rfl)) (by rfl) (by rfl) (by rfl) ?_
    refine V_iload_n (q := 1) dL_worth_0 rfl rfl ?_
    refine V_ifN_ne (q := 4) (tgt := 14) dL_worth_1 (by decide) rfl (by omega) (fun _ => ?_) (fun h9 => by first | exact h9.elim | (exfalso; omega))
    refine V_iload_n (q := 15) dL_worth_14 rfl rfl ?_
    refine V_iconst (q := 16) (v := nI 1) dL_worth_15 rfl (by decide) ?_
    refine V_icmpN_ne (q := 19) (tgt := 28) dL_worth_16 (by decide) rfl (by omega) (by omega) (fun _ => ?_) (fun h9 => by first | exact h9.elim | (exfalso; omega))
    refine V_aload_n (q := 29) dL_worth_28 rfl rfl rfl ?_
    refine V_iload_n (q := 30) dL_worth_29 rfl rfl ?_
    refine V_iconst (q := 31) (v := nI 5) dL_worth_30 rfl (by decide) ?_
    refine CrL_85 (q := 34) rfl dL_worth_31 rfl (X_rowOf hX) ⟨(Nat.le_of_ble_eq_true rfl), (Nat.le_of_ble_eq_true rfl)⟩ (Nat.le_of_ble_eq_true rfl) (by first | assumption | exact up_eq | exact (up_ne (by omega)).trans (by first | assumption | exact up_eq | exact (up_ne (by omega)).trans (by first | assumption | exact up_eq | exact (up_ne (by omega)).trans (by first | assumption | exact up_eq)))) (by omega) (Nat.zero_le _) (Nat.zero_le _) ?_
    refine V_topi ((rowA_at hN hi (by decide))) ?_
    refine V_topi ((show rowW (sR (xN X) i) 5 = nI (maxN (sR (xN X) i).2 (sR (xN X) i).1) from rfl)) ?_
    refine V_ineg (q := 35) dL_worth_34 rfl rfl ?_
    exact V_iret dL_worth_35 rfl (Nat.le_of_ble_eq_true rfl) (Nat.le_of_ble_eq_true rfl) (⟨rfl, rfl, rfl⟩)
theorem c_areRanked (hX : XW g w n o X) {k : Nat} (hk : k < 3) : CtI g l ML_areRanked 6 [rf g o, .int (nI k)] w n (LQ g w n o X 1) := by
  have hN := hX.okn
  obtain ⟨hob, hn⟩ := hX.obj
  have h6 := hN.1
  have loop : ∀ f p w', sC (xN X) < p + f → 0 < p → p ≤ 7 → XW g w' n o X → FrX w w' o → V g l ML_areRanked (rmd 6 0 0) (FinM g (qI (LQ g w n o X 1) n) 0 0) 22 [some (rf g o), some (.int (nI k)), some (.int (nI 1)), some (.int (nI p)), none, none, none] [] (w') n 0 0 := by
    intro f
    induction f with
    | zero =>
      intro p w' hf hp hp7 hX' hF
      obtain ⟨hob', hn'⟩ := hX'.obj
      refine V_iload_n (q := 23) dL_areRanked_22 rfl rfl ?_
      refine V_if_eq (q := 26) (tgt := 99) dL_areRanked_23 (by decide) rfl (fun h9 => absurd h9 (by decide)) (fun _ => ?_)
      refine V_iload_n (q := 27) dL_areRanked_26 rfl rfl ?_
      refine V_aload_n (q := 28) dL_areRanked_27 rfl rfl rfl ?_
      refine V_iconst (q := 29) (v := nI 0) dL_areRanked_28 rfl (by decide) ?_
      refine CrL_79 (q := 32) rfl dL_areRanked_29 rfl (X_account hX') ⟨(Nat.le_of_ble_eq_true rfl), (Nat.le_of_ble_eq_true rfl)⟩ (Nat.le_of_ble_eq_true rfl) (by first | assumption | exact up_eq | exact (up_ne (by omega)).trans (by first | assumption | exact up_eq | exact (up_ne (by omega)).trans (by first | assumption | exact up_eq | exact (up_ne (by omega)).trans (by first | assumption | exact up_eq)))) (by omega) (Nat.zero_le _) (Nat.zero_le _) ?_
      refine V_topi ((accA_at (by decide))) ?_
      refine V_topi ((show accW X 0 = nI (sC (xN X)) from rfl)) ?_
      refine V_icmpN_ge (q := 35) (tgt := 99) dL_areRanked_32 (by decide) rfl (by omega) (by omega) (fun _ => ?_) (fun h9 => by first | exact h9.elim | (exfalso; omega))
      refine V_iload_n (q := 100) dL_areRanked_99 rfl rfl ?_
      exact V_zret dL_areRanked_100 rfl (rfl) (Nat.le_of_ble_eq_true rfl) (Nat.le_of_ble_eq_true rfl) (⟨rfl, _, rfl, rfl, ⟨_, hX'⟩, hF⟩)
    | succ f ih =>
      intro p w' hf hp hp7 hX' hF
      obtain ⟨hob', hn'⟩ := hX'.obj
      refine V_iload_n (q := 23) dL_areRanked_22 rfl rfl ?_
      refine V_if_eq (q := 26) (tgt := 99) dL_areRanked_23 (by decide) rfl (fun h9 => absurd h9 (by decide)) (fun _ => ?_)
      refine V_iload_n (q := 27) dL_areRanked_26 rfl rfl ?_
      refine V_aload_n (q := 28) dL_areRanked_27 rfl rfl rfl ?_
      refine V_iconst (q := 29) (v := nI 0) dL_areRanked_28 rfl (by decide) ?_
      refine CrL_79 (q := 32) rfl dL_areRanked_29 rfl (X_account hX') ⟨(Nat.le_of_ble_eq_true rfl), (Nat.le_of_ble_eq_true rfl)⟩ (Nat.le_of_ble_eq_true rfl) (by first | assumption | exact up_eq | exact (up_ne (by omega)).trans (by first | assumption | exact up_eq | exact (up_ne (by omega)).trans (by first | assumption | exact up_eq | exact (up_ne (by omega)).trans (by first | assumption | exact up_eq)))) (by omega) (Nat.zero_le _) (Nat.zero_le _) ?_
      refine V_topi ((accA_at (by decide))) ?_
      refine V_topi ((show accW X 0 = nI (sC (xN X)) from rfl)) ?_
      refine V_icmpN_ge (q := 35) (tgt := 99) dL_areRanked_32 (by decide) rfl (by omega) (by omega) (fun hpc => ?_) (fun hpc => ?_)
      · skip
        refine V_iload_n (q := 100) dL_areRanked_99 rfl rfl ?_
        exact V_zret dL_areRanked_100 rfl (rfl) (Nat.le_of_ble_eq_true rfl) (Nat.le_of_ble_eq_true rfl) (⟨rfl, _, rfl, rfl, ⟨_, hX'⟩, hF⟩)
      · skip
        obtain ⟨i, i1, i2, i3⟩ := rnkA_at hN hk (show p - 1 < sC (xN X) by omega)
        obtain ⟨j, j1, j2, j3⟩ := rnkA_at hN hk hpc
        have hm : 0 < worI k (sR (xN X) i) - worI k (sR (xN X) j) ∨ (worI k (sR (xN X) i) - worI k (sR (xN X) j) = 0 ∧ i < j) := wor_more hN hk i1 j1 (rnk_next i1 j1 i2 j2 (by omega))
        refine V_aload_n (q := 36) dL_areRanked_35 rfl rfl rfl ?_
        refine V_iload_n (q := 37) dL_areRanked_36 rfl rfl ?_
        refine V_iload_n (q := 38) dL_areRanked_37 rfl rfl ?_
        refine V_iconst (q := 39) (v := nI 1) dL_areRanked_38 rfl (by decide) ?_
        refine V_isub (q := 40) dL_areRanked_39 rfl (by first | exact pk_sub (by omega) | rfl) ?_
        refine CiL_157 (q := 43) rfl dL_areRanked_40 rfl ((X_ranked hX')) ⟨(Nat.le_of_ble_eq_true rfl), (Nat.le_of_ble_eq_true rfl)⟩ (Nat.le_of_ble_eq_true rfl) (by first | assumption | exact up_eq | exact (up_ne (by omega)).trans (by first | assumption | exact up_eq | exact (up_ne (by omega)).trans (by first | assumption | exact up_eq | exact (up_ne (by omega)).trans (by first | assumption | exact up_eq)))) (by omega) (Nat.zero_le _) (Nat.zero_le _) (fun y w1 h1 => ?_)
        obtain ⟨rfl, hX1, hF1⟩ := h1
        obtain ⟨hob1, hn1⟩ := hX1.obj
        refine V_topi (i3) ?_
        refine V_istore (q := 45) (ls' := [_, _, _, _, _, _, _]) dL_areRanked_43 rfl (by decide) (by rfl) rfl ?_
        refine V_aload_n (q := 46) dL_areRanked_45 rfl rfl rfl ?_
        refine V_iload_n (q := 47) dL_areRanked_46 rfl rfl ?_
        refine V_iload_n (q := 48) dL_areRanked_47 rfl rfl ?_
        refine CiL_157 (q := 51) rfl dL_areRanked_48 rfl ((X_ranked hX1)) ⟨(Nat.le_of_ble_eq_true rfl), (Nat.le_of_ble_eq_true rfl)⟩ (Nat.le_of_ble_eq_true rfl) (by first | assumption | exact up_eq | exact (up_ne (by omega)).trans (by first | assumption | exact up_eq | exact (up_ne (by omega)).trans (by first | assumption | exact up_eq | exact (up_ne (by omega)).trans (by first | assumption | exact up_eq)))) (by omega) (Nat.zero_le _) (Nat.zero_le _) (fun y w2 h2 => ?_)
        obtain ⟨rfl, hX2, hF2⟩ := h2
        obtain ⟨hob2, hn2⟩ := hX2.obj
        refine V_topi (j3) ?_
        refine V_istore (q := 53) (ls' := [_, _, _, _, _, _, _]) dL_areRanked_51 rfl (by decide) (by rfl) rfl ?_
        refine V_aload_n (q := 54) dL_areRanked_53 rfl rfl rfl ?_
        refine V_iload_n (q := 55) dL_areRanked_54 rfl rfl ?_
        refine V_iload (q := 57) dL_areRanked_55 rfl rfl ?_
        refine CrL_160 (q := 60) rfl dL_areRanked_57 rfl (c_worth hX2 hk i1) ⟨(Nat.le_of_ble_eq_true rfl), (Nat.le_of_ble_eq_true rfl)⟩ (Nat.le_of_ble_eq_true rfl) (Nat.zero_le _) (Nat.zero_le _) ?_
        refine V_aload_n (q := 61) dL_areRanked_60 rfl rfl rfl ?_
        refine V_iload_n (q := 62) dL_areRanked_61 rfl rfl ?_
        refine V_iload (q := 64) dL_areRanked_62 rfl rfl ?_
        refine CrL_160 (q := 67) rfl dL_areRanked_64 rfl (c_worth hX2 hk j1) ⟨(Nat.le_of_ble_eq_true rfl), (Nat.le_of_ble_eq_true rfl)⟩ (Nat.le_of_ble_eq_true rfl) (Nat.zero_le _) (Nat.zero_le _) ?_
        refine V_isub (q := 68) dL_areRanked_67 rfl rfl ?_
        refine V_istore (q := 70) (ls' := [_, _, _, _, _, _, _]) dL_areRanked_68 rfl (by decide) (by rfl) rfl ?_
        refine V_iload (q := 72) dL_areRanked_70 rfl rfl ?_
        generalize worI k (sR (xN X) i) - worI k (sR (xN X) j) = m at *
        have ih' := ih (p + 1) w2 (by omega) (by omega) (by omega) hX2 ((hF.tr hF1).tr hF2)
        by_cases hpos : 0 < m
        · skip
          refine V_if_gt (q := 75) (tgt := 87) dL_areRanked_72 (by decide) rfl (fun _ => ?_) (fun h9 => absurd hpos h9)
          refine V_iconst (q := 88) (v := nI 1) dL_areRanked_87 rfl (by decide) ?_
          refine V_goto (tgt := 92) dL_areRanked_88 (by decide) ?_
          refine V_istore_n (q := 93) (ls' := [_, _, _, _, _, _, _]) dL_areRanked_92 rfl (by decide) (by rfl) rfl ?_
          refine V_iinc (q := 96) (ls' := [_, _, _, _, _, _, _]) dL_areRanked_93 rfl (by decide) (by rfl) rfl (by first | exact inc1 _ | rfl) rfl ?_
          refine V_goto (tgt := 22) dL_areRanked_96 (by decide) ?_
          refine V_fg 4 (ls2 := [_, _, _, _, none, _, _]) (by rfl) ?_
          refine V_fg 5 (ls2 := [_, _, _, _, _, none, _]) (by rfl) ?_
          refine V_fg 6 (ls2 := [_, _, _, _, _, _, none]) (by rfl) ?_
          exact ih'
        · have hm2 : m = 0 ∧ i < j := by
            rcases hm with z | z
            · exact absurd z hpos
            · exact z
          refine V_if_gt (q := 75) (tgt := 87) dL_areRanked_72 (by decide) rfl (fun h9 => absurd h9 hpos) (fun _ => ?_)
          refine V_iload (q := 77) dL_areRanked_75 rfl rfl ?_
          refine V_if_ne (q := 80) (tgt := 91) dL_areRanked_77 (by decide) rfl (fun h9 => absurd hm2.1 h9) (fun _ => ?_)
          refine V_iload (q := 82) dL_areRanked_80 rfl rfl ?_
          refine V_iload (q := 84) dL_areRanked_82 rfl rfl ?_
          refine V_icmpN_ge (q := 87) (tgt := 91) dL_areRanked_84 (by decide) rfl (by omega) (by omega) (fun h9 => by first | exact h9.elim | exact absurd h9 (by assumption) | (exfalso; omega)) (fun _ => ?_)
          refine V_iconst (q := 88) (v := nI 1) dL_areRanked_87 rfl (by decide) ?_
          refine V_goto (tgt := 92) dL_areRanked_88 (by decide) ?_
          refine V_istore_n (q := 93) (ls' := [_, _, _, _, _, _, _]) dL_areRanked_92 rfl (by decide) (by rfl) rfl ?_
          refine V_iinc (q := 96) (ls' := [_, _, _, _, _, _, _]) dL_areRanked_93 rfl (by decide) (by rfl) rfl (by first | exact inc1 _ | rfl) rfl ?_
          refine V_goto (tgt := 22) dL_areRanked_96 (by decide) ?_
          refine V_fg 4 (ls2 := [_, _, _, _, none, _, _]) (by rfl) ?_
          refine V_fg 5 (ls2 := [_, _, _, _, _, none, _]) (by rfl) ?_
          refine V_fg 6 (ls2 := [_, _, _, _, _, _, none]) (by rfl) ?_
          exact ih'
  refine Ct.ofs (M := ML_areRanked) (ls := [some _, some _, none, none, none, none, none]) (by decide +kernel) (by exact (Nat.le_of_ble_eq_true rfl)) (by rfl) (by rfl) (by rfl) ?_
  refine V_aload_n (q := 1) dL_areRanked_0 rfl rfl rfl ?_
  refine V_iload_n (q := 2) dL_areRanked_1 rfl rfl ?_
  refine V_aload_n (q := 3) dL_areRanked_2 rfl rfl rfl ?_
  refine V_iconst (q := 4) (v := nI 0) dL_areRanked_3 rfl (by decide) ?_
  refine CrL_79 (q := 7) rfl dL_areRanked_4 rfl (X_account hX) ⟨(Nat.le_of_ble_eq_true rfl), (Nat.le_of_ble_eq_true rfl)⟩ (Nat.le_of_ble_eq_true rfl) (by first | assumption | exact up_eq | exact (up_ne (by omega)).trans (by first | assumption | exact up_eq | exact (up_ne (by omega)).trans (by first | assumption | exact up_eq | exact (up_ne (by omega)).trans (by first | assumption | exact up_eq)))) (by omega) (Nat.zero_le _) (Nat.zero_le _) ?_
  refine V_topi ((accA_at (by decide))) ?_
  refine V_topi ((show accW X 0 = nI (sC (xN X)) from rfl)) ?_
  refine CiL_157 (q := 10) rfl dL_areRanked_7 rfl ((X_ranked hX)) ⟨(Nat.le_of_ble_eq_true rfl), (Nat.le_of_ble_eq_true rfl)⟩ (Nat.le_of_ble_eq_true rfl) (by first | assumption | exact up_eq | exact (up_ne (by omega)).trans (by first | assumption | exact up_eq | exact (up_ne (by omega)).trans (by first | assumption | exact up_eq | exact (up_ne (by omega)).trans (by first | assumption | exact up_eq)))) (by omega) (Nat.zero_le _) (Nat.zero_le _) (fun y w1 h1 => ?_)
  obtain ⟨rfl, hX1, hF1⟩ := h1
  refine V_topi ((rnkA_end hN hk)) ?_
  refine V_iconst (q := 11) (v := (-1)) dL_areRanked_10 rfl (by decide) ?_
  refine V_icmp_ne (q := 14) (tgt := 18) dL_areRanked_11 (by decide) rfl (fun h9 => absurd rfl h9) (fun _ => ?_)
  refine V_iconst (q := 15) (v := nI 1) dL_areRanked_14 rfl (by decide) ?_
  refine V_goto (tgt := 19) dL_areRanked_15 (by decide) ?_
  refine V_istore_n (q := 20) (ls' := [_, _, _, _, _, _, _]) dL_areRanked_19 rfl (by decide) (by rfl) rfl ?_
  refine V_iconst (q := 21) (v := nI 1) dL_areRanked_20 rfl (by decide) ?_
  refine V_istore_n (q := 22) (ls' := [_, _, _, _, _, _, _]) dL_areRanked_21 rfl (by decide) (by rfl) rfl ?_
  exact loop 7 1 w1 (by omega) (by decide) (by decide) hX1 hF1
theorem c_areRows (hX : XW g w n o X) (hS : OkS (xN X)) : CtI g l ML_areRows 6 [rf g o] w n (LQ g w n o X 1) := by
  have hN := hX.okn
  obtain ⟨hob, hn⟩ := hX.obj
  have h6 := hN.1
  have fin : ∀ w' v, XW g w' n o (setL X v) → FrX w w' o → V g l ML_areRows (rmd 6 0 0) (FinM g (qI (LQ g w n o X 1) n) 0 0) 259 [some (rf g o), some (.int (nI (cleanS (xN X) (sC (xN X))))), some (.int (nI (ballsS (xN X) (sC (xN X))))), some (.int (nI (lenS (xN X) (sC (xN X))))), some (.int (nI (thrownS (xN X) (sC (xN X))))), some (.int (nI 1)), none, none, none, none] [] (w') n 0 0 := by
    intro w' v hX' hF
    obtain ⟨hob', hn'⟩ := hX'.obj
    obtain ⟨l1, l2, l3⟩ := lenS_ok hN (sC (xN X)) (Nat.le_refl _)
    refine V_iload (q := 261) dL_areRows_259 rfl rfl ?_
    refine V_if_eq (q := 264) (tgt := 320) dL_areRows_261 (by decide) rfl (fun h9 => absurd h9 (by decide)) (fun _ => ?_)
    refine V_iload_n (q := 265) dL_areRows_264 rfl rfl ?_
    refine V_aload_n (q := 266) dL_areRows_265 rfl rfl rfl ?_
    refine V_iconst (q := 267) (v := nI 1) dL_areRows_266 rfl (by decide) ?_
    refine CrL_79 (q := 270) rfl dL_areRows_267 rfl (X_account hX') ⟨(Nat.le_of_ble_eq_true rfl), (Nat.le_of_ble_eq_true rfl)⟩ (Nat.le_of_ble_eq_true rfl) (by first | assumption | exact up_eq | exact (up_ne (by omega)).trans (by first | assumption | exact up_eq | exact (up_ne (by omega)).trans (by first | assumption | exact up_eq | exact (up_ne (by omega)).trans (by first | assumption | exact up_eq)))) (by omega) (Nat.zero_le _) (Nat.zero_le _) ?_
    refine V_topi ((accA_at (by decide))) ?_
    refine V_topi ((show accW (setL X v) 1 = nI (cleanS (xN X) (sC (xN X))) from rfl)) ?_
    refine V_icmp_ne (q := 273) (tgt := 320) dL_areRows_270 (by decide) rfl (fun h9 => absurd rfl h9) (fun _ => ?_)
    refine V_iload_n (q := 274) dL_areRows_273 rfl rfl ?_
    refine V_aload_n (q := 275) dL_areRows_274 rfl rfl rfl ?_
    refine V_iconst (q := 276) (v := nI 2) dL_areRows_275 rfl (by decide) ?_
    refine CrL_79 (q := 279) rfl dL_areRows_276 rfl (X_account hX') ⟨(Nat.le_of_ble_eq_true rfl), (Nat.le_of_ble_eq_true rfl)⟩ (Nat.le_of_ble_eq_true rfl) (by first | assumption | exact up_eq | exact (up_ne (by omega)).trans (by first | assumption | exact up_eq | exact (up_ne (by omega)).trans (by first | assumption | exact up_eq | exact (up_ne (by omega)).trans (by first | assumption | exact up_eq)))) (by omega) (Nat.zero_le _) (Nat.zero_le _) ?_
    refine V_topi ((accA_at (by decide))) ?_
    refine V_topi ((show accW (setL X v) 2 = nI (lenS (xN X) (sC (xN X))) from rfl)) ?_
    refine V_icmp_ne (q := 282) (tgt := 320) dL_areRows_279 (by decide) rfl (fun h9 => absurd rfl h9) (fun _ => ?_)
    refine V_iload_n (q := 283) dL_areRows_282 rfl rfl ?_
    refine V_aload_n (q := 284) dL_areRows_283 rfl rfl rfl ?_
    refine V_iconst (q := 285) (v := nI 3) dL_areRows_284 rfl (by decide) ?_
    refine CrL_79 (q := 288) rfl dL_areRows_285 rfl (X_account hX') ⟨(Nat.le_of_ble_eq_true rfl), (Nat.le_of_ble_eq_true rfl)⟩ (Nat.le_of_ble_eq_true rfl) (by first | assumption | exact up_eq | exact (up_ne (by omega)).trans (by first | assumption | exact up_eq | exact (up_ne (by omega)).trans (by first | assumption | exact up_eq | exact (up_ne (by omega)).trans (by first | assumption | exact up_eq)))) (by omega) (Nat.zero_le _) (Nat.zero_le _) ?_
    refine V_topi ((accA_at (by decide))) ?_
    refine V_topi ((show accW (setL X v) 3 = nI (ballsS (xN X) (sC (xN X))) from rfl)) ?_
    refine V_icmp_ne (q := 291) (tgt := 320) dL_areRows_288 (by decide) rfl (fun h9 => absurd rfl h9) (fun _ => ?_)
    refine V_aload_n (q := 292) dL_areRows_291 rfl rfl rfl ?_
    refine CrL_148 (q := 295) rfl dL_areRows_292 rfl (X_mean hX') ⟨(Nat.le_of_ble_eq_true rfl), (Nat.le_of_ble_eq_true rfl)⟩ (Nat.le_of_ble_eq_true rfl) (by first | assumption | exact up_eq | exact (up_ne (by omega)).trans (by first | assumption | exact up_eq | exact (up_ne (by omega)).trans (by first | assumption | exact up_eq | exact (up_ne (by omega)).trans (by first | assumption | exact up_eq)))) (by omega) (Nat.zero_le _) (Nat.zero_le _) ?_
    refine V_iload_n (q := 296) dL_areRows_295 rfl rfl ?_
    by_cases hz : sC (xN X) = 0
    · have e4 : meaA (xN (setL X v)) = -4 := if_pos hz
      have e5 : lenS (xN X) (sC (xN X)) = 0 := by rw [hz]; rfl
      rw [e4]
      refine V_ifN_ne (q := 299) (tgt := 304) dL_areRows_296 (by decide) rfl (by omega) (fun h9 => absurd h9 (by rw [e5]; exact fun e => e rfl)) (fun _ => ?_)
      refine V_bipush (q := 301) (v := (-4)) dL_areRows_299 rfl (by decide) ?_
      refine V_goto (tgt := 313) dL_areRows_301 (by decide) ?_
      refine V_icmp_ne (q := 316) (tgt := 320) dL_areRows_313 (by decide) rfl (fun h9 => absurd rfl h9) (fun _ => ?_)
      refine V_iconst (q := 317) (v := nI 1) dL_areRows_316 rfl (by decide) ?_
      refine V_goto (tgt := 321) dL_areRows_317 (by decide) ?_
      exact V_zret dL_areRows_321 rfl (rfl) (Nat.le_of_ble_eq_true rfl) (Nat.le_of_ble_eq_true rfl) (⟨rfl, _, rfl, rfl, ⟨_, hX'⟩, hF⟩)
    · have e4 : meaA (xN (setL X v)) = (meaQ (xN X)).toInt32 := if_neg hz
      obtain ⟨q1, q2, q3⟩ := chkQ_is (chk_all (k := lenS (xN X) (sC (xN X))) (s := thrownS (xN X) (sC (xN X))) (by omega) (by omega) l3)
      rw [e4]
      refine V_ifN_ne (q := 299) (tgt := 304) dL_areRows_296 (by decide) rfl (by omega) (fun _ => ?_) (fun h9 => by first | exact h9.elim | (exfalso; omega))
      refine V_iload (q := 306) dL_areRows_304 rfl rfl ?_
      refine V_i2f (q := 307) dL_areRows_306 rfl rfl ?_
      refine V_iload_n (q := 308) dL_areRows_307 rfl rfl ?_
      refine V_i2f (q := 309) dL_areRows_308 rfl rfl ?_
      refine V_fdiv (q := 310) dL_areRows_309 rfl rfl (by assumption) ?_
      refine CrL_151 (q := 313) rfl dL_areRows_310 rfl (c_f2bits q2) ⟨(Nat.le_of_ble_eq_true rfl), (Nat.le_of_ble_eq_true rfl)⟩ (Nat.le_of_ble_eq_true rfl) (Nat.zero_le _) (Nat.zero_le _) ?_
      refine V_icmp_ne (q := 316) (tgt := 320) dL_areRows_313 (by decide) rfl (fun h9 => absurd rfl h9) (fun _ => ?_)
      refine V_iconst (q := 317) (v := nI 1) dL_areRows_316 rfl (by decide) ?_
      refine V_goto (tgt := 321) dL_areRows_317 (by decide) ?_
      exact V_zret dL_areRows_321 rfl (rfl) (Nat.le_of_ble_eq_true rfl) (Nat.le_of_ble_eq_true rfl) (⟨rfl, _, rfl, rfl, ⟨_, hX'⟩, hF⟩)
  have inner : ∀ r, r < sC (xN X) → (∀ w' v, XW g w' n o (setL X v) → FrX w w' o → V g l ML_areRows (rmd 6 0 0) (FinM g (qI (LQ g w n o X 1) n) 0 0) 33 [some (rf g o), some (.int (nI (cleanS (xN X) (r + 1)))), some (.int (nI (ballsS (xN X) (r + 1)))), some (.int (nI (lenS (xN X) (r + 1)))), some (.int (nI (thrownS (xN X) (r + 1)))), some (.int (nI 1)), some (.int (nI (r + 1))), none, none, none] [] (w') n 0 0) → ∀ f j w' v, j + f = sC (xN X) → XW g w' n o (setL X v) → FrX w w' o → V g l ML_areRows (rmd 6 0 0) (FinM g (qI (LQ g w n o X 1) n) 0 0) 121 [some (rf g o), some (.int (nI (cleanS (xN X) (r + 1)))), some (.int (nI (ballsS (xN X) (r + 1)))), some (.int (nI (lenS (xN X) (r + 1)))), some (.int (nI (thrownS (xN X) (r + 1)))), some (.int (nI 1)), some (.int (nI r)), some (.int (nI j)), none, none] [] (w') n 0 0 := by
    intro r hr hgo f
    obtain ⟨q1, q2, q3⟩ := hN.2 r hr
    induction f with
    | zero =>
      intro j w' v hf hX' hF
      obtain ⟨hob', hn'⟩ := hX'.obj
      refine V_iload (q := 123) dL_areRows_121 rfl rfl ?_
      refine V_if_eq (q := 126) (tgt := 253) dL_areRows_123 (by decide) rfl (fun h9 => absurd h9 (by decide)) (fun _ => ?_)
      refine V_iload (q := 128) dL_areRows_126 rfl rfl ?_
      refine V_aload_n (q := 129) dL_areRows_128 rfl rfl rfl ?_
      refine V_iconst (q := 130) (v := nI 0) dL_areRows_129 rfl (by decide) ?_
      refine CrL_79 (q := 133) rfl dL_areRows_130 rfl (X_account hX') ⟨(Nat.le_of_ble_eq_true rfl), (Nat.le_of_ble_eq_true rfl)⟩ (Nat.le_of_ble_eq_true rfl) (by first | assumption | exact up_eq | exact (up_ne (by omega)).trans (by first | assumption | exact up_eq | exact (up_ne (by omega)).trans (by first | assumption | exact up_eq | exact (up_ne (by omega)).trans (by first | assumption | exact up_eq)))) (by omega) (Nat.zero_le _) (Nat.zero_le _) ?_
      refine V_topi ((accA_at (by decide))) ?_
      refine V_topi ((show accW (setL X v) 0 = nI (sC (xN X)) from rfl)) ?_
      refine V_icmpN_ge (q := 136) (tgt := 253) dL_areRows_133 (by decide) rfl (by omega) (by omega) (fun _ => ?_) (fun h9 => by first | exact h9.elim | (exfalso; omega))
      refine V_fg 7 (ls2 := [_, _, _, _, _, _, _, none, _, _]) (by rfl) ?_
      refine V_iinc (q := 256) (ls' := [_, _, _, _, _, _, _, _, _, _]) dL_areRows_253 rfl (by decide) (by rfl) rfl (by first | exact inc1 _ | rfl) rfl ?_
      refine V_goto (tgt := 33) dL_areRows_256 (by decide) ?_
      exact hgo w' v hX' hF
    | succ f ih =>
      intro j w' v hf hX' hF
      have hj : j < sC (xN X) := by omega
      obtain ⟨r1, r2, r3⟩ := hN.2 j hj
      obtain ⟨hob', hn'⟩ := hX'.obj
      have e2r : rowA (nI r) (nI 2) (xN X) = ballI (sR (xN X) r).2 (sR (xN X) r).1 := by rw [rowA_at hN hr (by decide)]; rfl
      have e2j : rowA (nI j) (nI 2) (xN X) = ballI (sR (xN X) j).2 (sR (xN X) j).1 := by rw [rowA_at hN hj (by decide)]; rfl
      have hbe := betA_at hN hr hj
      have hne : betA (nI r) (nI j) (xN X) = -4 → V g l ML_areRows (rmd 6 0 0) (FinM g (qI (LQ g w n o X 1) n) 0 0) 167 [some (rf g o), some (.int (nI (cleanS (xN X) (r + 1)))), some (.int (nI (ballsS (xN X) (r + 1)))), some (.int (nI (lenS (xN X) (r + 1)))), some (.int (nI (thrownS (xN X) (r + 1)))), some (.int (nI 1)), some (.int (nI r)), some (.int (nI j)), none, none] [] (w') n 0 0 := by
        intro e
        refine V_iconst (q := 168) (v := nI 0) dL_areRows_167 rfl (by decide) ?_
        refine V_istore (q := 170) (ls' := [_, _, _, _, _, _, _, _, _, _]) dL_areRows_168 rfl (by decide) (by rfl) rfl ?_
        refine V_aload_n (q := 171) dL_areRows_170 rfl rfl rfl ?_
        refine V_iload (q := 173) dL_areRows_171 rfl rfl ?_
        refine V_iload (q := 175) dL_areRows_173 rfl rfl ?_
        refine CiL_145 (q := 178) rfl dL_areRows_175 rfl ((X_between hX')) ⟨(Nat.le_of_ble_eq_true rfl), (Nat.le_of_ble_eq_true rfl)⟩ (Nat.le_of_ble_eq_true rfl) (by first | assumption | exact up_eq | exact (up_ne (by omega)).trans (by first | assumption | exact up_eq | exact (up_ne (by omega)).trans (by first | assumption | exact up_eq | exact (up_ne (by omega)).trans (by first | assumption | exact up_eq)))) (by omega) (Nat.zero_le _) (Nat.zero_le _) (fun y w1 h1 => ?_)
        obtain ⟨rfl, hX1, hF1⟩ := h1
        refine V_topi (e) ?_
        refine V_istore (q := 180) (ls' := [_, _, _, _, _, _, _, _, _, _]) dL_areRows_178 rfl (by decide) (by rfl) rfl ?_
        refine V_iload (q := 182) dL_areRows_180 rfl rfl ?_
        refine V_if_eq (q := 185) (tgt := 233) dL_areRows_182 (by decide) rfl (fun _ => ?_) (fun h9 => absurd (by decide) h9)
        refine V_iload (q := 235) dL_areRows_233 rfl rfl ?_
        refine V_bipush (q := 237) (v := (-4)) dL_areRows_235 rfl (by decide) ?_
        refine V_icmp_ne (q := 240) (tgt := 244) dL_areRows_237 (by decide) rfl (fun h9 => absurd rfl h9) (fun _ => ?_)
        refine V_fg 8 (ls2 := [_, _, _, _, _, _, _, _, none, _]) (by rfl) ?_
        refine V_fg 9 (ls2 := [_, _, _, _, _, _, _, _, _, none]) (by rfl) ?_
        refine V_iconst (q := 241) (v := nI 1) dL_areRows_240 rfl (by decide) ?_
        refine V_goto (tgt := 245) dL_areRows_241 (by decide) ?_
        refine V_istore (q := 247) (ls' := [_, _, _, _, _, _, _, _, _, _]) dL_areRows_245 rfl (by decide) (by rfl) rfl ?_
        refine V_iinc (q := 250) (ls' := [_, _, _, _, _, _, _, _, _, _]) dL_areRows_247 rfl (by decide) (by rfl) rfl (by first | exact inc1 _ | rfl) rfl ?_
        refine V_goto (tgt := 121) dL_areRows_250 (by decide) ?_
        exact ih (j + 1) w1 v (by omega) hX1 (hF.tr hF1)
      refine V_iload (q := 123) dL_areRows_121 rfl rfl ?_
      refine V_if_eq (q := 126) (tgt := 253) dL_areRows_123 (by decide) rfl (fun h9 => absurd h9 (by decide)) (fun _ => ?_)
      refine V_iload (q := 128) dL_areRows_126 rfl rfl ?_
      refine V_aload_n (q := 129) dL_areRows_128 rfl rfl rfl ?_
      refine V_iconst (q := 130) (v := nI 0) dL_areRows_129 rfl (by decide) ?_
      refine CrL_79 (q := 133) rfl dL_areRows_130 rfl (X_account hX') ⟨(Nat.le_of_ble_eq_true rfl), (Nat.le_of_ble_eq_true rfl)⟩ (Nat.le_of_ble_eq_true rfl) (by first | assumption | exact up_eq | exact (up_ne (by omega)).trans (by first | assumption | exact up_eq | exact (up_ne (by omega)).trans (by first | assumption | exact up_eq | exact (up_ne (by omega)).trans (by first | assumption | exact up_eq)))) (by omega) (Nat.zero_le _) (Nat.zero_le _) ?_
      refine V_topi ((accA_at (by decide))) ?_
      refine V_topi ((show accW (setL X v) 0 = nI (sC (xN X)) from rfl)) ?_
      refine V_icmpN_ge (q := 136) (tgt := 253) dL_areRows_133 (by decide) rfl (by omega) (by omega) (fun h9 => by first | exact h9.elim | exact absurd h9 (by assumption) | (exfalso; omega)) (fun _ => ?_)
      refine V_aload_n (q := 137) dL_areRows_136 rfl rfl rfl ?_
      refine V_iload (q := 139) dL_areRows_137 rfl rfl ?_
      refine V_iconst (q := 140) (v := nI 2) dL_areRows_139 rfl (by decide) ?_
      refine CrL_85 (q := 143) rfl dL_areRows_140 rfl (X_rowOf hX') ⟨(Nat.le_of_ble_eq_true rfl), (Nat.le_of_ble_eq_true rfl)⟩ (Nat.le_of_ble_eq_true rfl) (by first | assumption | exact up_eq | exact (up_ne (by omega)).trans (by first | assumption | exact up_eq | exact (up_ne (by omega)).trans (by first | assumption | exact up_eq | exact (up_ne (by omega)).trans (by first | assumption | exact up_eq)))) (by omega) (Nat.zero_le _) (Nat.zero_le _) ?_
      refine V_topi (e2r) ?_
      by_cases hc : clN (sR (xN X) r).2 (sR (xN X) r).1 = (sR (xN X) r).1
      · have eb : ballI (sR (xN X) r).2 (sR (xN X) r).1 = nI (sumN (sR (xN X) r).2 (sR (xN X) r).1 / (sR (xN X) r).1) := if_pos hc
        have hd := divL_le q1 q3
        have hn4 : ¬ ballI (sR (xN X) r).2 (sR (xN X) r).1 = -4 := by rw [eb]; exact nI_m4 (by omega)
        refine V_topi (eb) ?_
        refine V_ifN_lt (q := 146) (tgt := 167) dL_areRows_143 (by decide) rfl (by omega) (fun h9 => by first | exact h9.elim | exact absurd h9 (by assumption) | (exfalso; omega)) (fun _ => ?_)
        refine V_aload_n (q := 147) dL_areRows_146 rfl rfl rfl ?_
        refine V_iload (q := 149) dL_areRows_147 rfl rfl ?_
        refine V_iconst (q := 150) (v := nI 2) dL_areRows_149 rfl (by decide) ?_
        refine CrL_85 (q := 153) rfl dL_areRows_150 rfl (X_rowOf hX') ⟨(Nat.le_of_ble_eq_true rfl), (Nat.le_of_ble_eq_true rfl)⟩ (Nat.le_of_ble_eq_true rfl) (by first | assumption | exact up_eq | exact (up_ne (by omega)).trans (by first | assumption | exact up_eq | exact (up_ne (by omega)).trans (by first | assumption | exact up_eq | exact (up_ne (by omega)).trans (by first | assumption | exact up_eq)))) (by omega) (Nat.zero_le _) (Nat.zero_le _) ?_
        refine V_topi (e2r) ?_
        refine V_aload_n (q := 154) dL_areRows_153 rfl rfl rfl ?_
        refine V_iload (q := 156) dL_areRows_154 rfl rfl ?_
        refine V_iconst (q := 157) (v := nI 2) dL_areRows_156 rfl (by decide) ?_
        refine CrL_85 (q := 160) rfl dL_areRows_157 rfl (X_rowOf hX') ⟨(Nat.le_of_ble_eq_true rfl), (Nat.le_of_ble_eq_true rfl)⟩ (Nat.le_of_ble_eq_true rfl) (by first | assumption | exact up_eq | exact (up_ne (by omega)).trans (by first | assumption | exact up_eq | exact (up_ne (by omega)).trans (by first | assumption | exact up_eq | exact (up_ne (by omega)).trans (by first | assumption | exact up_eq)))) (by omega) (Nat.zero_le _) (Nat.zero_le _) ?_
        refine V_topi (e2j) ?_
        by_cases hbj : ballI (sR (xN X) r).2 (sR (xN X) r).1 = ballI (sR (xN X) j).2 (sR (xN X) j).1
        · obtain ⟨hcj, hbj2⟩ := ballI_is (h := (sR (xN X) j).2) (L := (sR (xN X) j).1) (b := sumN (sR (xN X) r).2 (sR (xN X) r).1 / (sR (xN X) r).1) (by omega) (by rw [← hbj, eb])
          have hdj := divL_le r1 r3
          rw [nI_eq (by omega) (by omega)] at hbj2
          have sr := stN_lt (h := (sR (xN X) r).2) (L := (sR (xN X) r).1) (b := 0) q1 q3
          have sj := stN_lt (h := (sR (xN X) j).2) (L := (sR (xN X) j).1) (b := 0) r1 r3
          obtain ⟨k, hk9, hD⟩ := nine sr sj (by rw [balls_ok q1 q3 hc, balls_ok r1 r3 hcj, hbj2])
          have hz := dst_zero hD
          rw [if_neg (by rintro (z | z); exact hn4 z; exact z hbj), dstN_is hD] at hbe
          have esr : stoA (nI r) (nI 0) (xN X) = nI (stN (sR (xN X) r).2 (sR (xN X) r).1 0) := by rw [stoA_at hN hr q1, if_pos hc]
          have esj : stoA (nI j) (nI 0) (xN X) = nI (stN (sR (xN X) j).2 (sR (xN X) j).1 0) := by rw [stoA_at hN hj r1, if_pos hcj]
          refine V_icmp_ne (q := 163) (tgt := 167) dL_areRows_160 (by decide) rfl (fun h9 => absurd hbj h9) (fun _ => ?_)
          refine V_iconst (q := 164) (v := nI 1) dL_areRows_163 rfl (by decide) ?_
          refine V_goto (tgt := 168) dL_areRows_164 (by decide) ?_
          refine V_istore (q := 170) (ls' := [_, _, _, _, _, _, _, _, _, _]) dL_areRows_168 rfl (by decide) (by rfl) rfl ?_
          refine V_aload_n (q := 171) dL_areRows_170 rfl rfl rfl ?_
          refine V_iload (q := 173) dL_areRows_171 rfl rfl ?_
          refine V_iload (q := 175) dL_areRows_173 rfl rfl ?_
          refine CiL_145 (q := 178) rfl dL_areRows_175 rfl ((X_between hX')) ⟨(Nat.le_of_ble_eq_true rfl), (Nat.le_of_ble_eq_true rfl)⟩ (Nat.le_of_ble_eq_true rfl) (by first | assumption | exact up_eq | exact (up_ne (by omega)).trans (by first | assumption | exact up_eq | exact (up_ne (by omega)).trans (by first | assumption | exact up_eq | exact (up_ne (by omega)).trans (by first | assumption | exact up_eq)))) (by omega) (Nat.zero_le _) (Nat.zero_le _) (fun y w1 h1 => ?_)
          obtain ⟨rfl, hX1, hF1⟩ := h1
          obtain ⟨hob1, hn1⟩ := hX1.obj
          refine V_topi (hbe) ?_
          refine V_istore (q := 180) (ls' := [_, _, _, _, _, _, _, _, _, _]) dL_areRows_178 rfl (by decide) (by rfl) rfl ?_
          refine V_iload (q := 182) dL_areRows_180 rfl rfl ?_
          refine V_if_eq (q := 185) (tgt := 233) dL_areRows_182 (by decide) rfl (fun h9 => absurd h9 (by decide)) (fun _ => ?_)
          refine V_iload (q := 187) dL_areRows_185 rfl rfl ?_
          refine V_ifN_lt (q := 190) (tgt := 229) dL_areRows_187 (by decide) rfl (by omega) (fun h9 => by first | exact h9.elim | exact absurd h9 (by assumption) | (exfalso; omega)) (fun _ => ?_)
          refine V_iload (q := 192) dL_areRows_190 rfl rfl ?_
          refine V_ifN_ne (q := 195) (tgt := 199) dL_areRows_192 (by decide) rfl (by omega) (fun hk0 => ?_) (fun hk0 => ?_)
          · skip
            refine V_iconst (q := 200) (v := nI 0) dL_areRows_199 rfl (by decide) ?_
            refine V_aload_n (q := 201) dL_areRows_200 rfl rfl rfl ?_
            refine V_iload (q := 203) dL_areRows_201 rfl rfl ?_
            refine V_iconst (q := 204) (v := nI 0) dL_areRows_203 rfl (by decide) ?_
            refine CrL_105 (q := 207) rfl dL_areRows_204 rfl (X_stateOf hX1) ⟨(Nat.le_of_ble_eq_true rfl), (Nat.le_of_ble_eq_true rfl)⟩ (Nat.le_of_ble_eq_true rfl) (by first | assumption | exact up_eq | exact (up_ne (by omega)).trans (by first | assumption | exact up_eq | exact (up_ne (by omega)).trans (by first | assumption | exact up_eq | exact (up_ne (by omega)).trans (by first | assumption | exact up_eq)))) (by omega) (Nat.zero_le _) (Nat.zero_le _) ?_
            refine V_topi (esr) ?_
            refine V_aload_n (q := 208) dL_areRows_207 rfl rfl rfl ?_
            refine V_iload (q := 210) dL_areRows_208 rfl rfl ?_
            refine V_iconst (q := 211) (v := nI 0) dL_areRows_210 rfl (by decide) ?_
            refine CrL_105 (q := 214) rfl dL_areRows_211 rfl (X_stateOf hX1) ⟨(Nat.le_of_ble_eq_true rfl), (Nat.le_of_ble_eq_true rfl)⟩ (Nat.le_of_ble_eq_true rfl) (by first | assumption | exact up_eq | exact (up_ne (by omega)).trans (by first | assumption | exact up_eq | exact (up_ne (by omega)).trans (by first | assumption | exact up_eq | exact (up_ne (by omega)).trans (by first | assumption | exact up_eq)))) (by omega) (Nat.zero_le _) (Nat.zero_le _) ?_
            refine V_topi (esj) ?_
            refine V_icmp_ne (q := 217) (tgt := 221) dL_areRows_214 (by decide) rfl (fun _ => ?_) (fun h9 => absurd h9 (fun e => hk0 (hz.mpr (by rwa [nI_eq (by omega) (by omega)] at e))))
            refine V_iconst (q := 222) (v := nI 0) dL_areRows_221 rfl (by decide) ?_
            refine V_icmp_ne (q := 225) (tgt := 229) dL_areRows_222 (by decide) rfl (fun h9 => absurd rfl h9) (fun _ => ?_)
            refine V_fg 8 (ls2 := [_, _, _, _, _, _, _, _, none, _]) (by rfl) ?_
            refine V_fg 9 (ls2 := [_, _, _, _, _, _, _, _, _, none]) (by rfl) ?_
            refine V_iconst (q := 226) (v := nI 1) dL_areRows_225 rfl (by decide) ?_
            refine V_goto (tgt := 245) dL_areRows_226 (by decide) ?_
            refine V_istore (q := 247) (ls' := [_, _, _, _, _, _, _, _, _, _]) dL_areRows_245 rfl (by decide) (by rfl) rfl ?_
            refine V_iinc (q := 250) (ls' := [_, _, _, _, _, _, _, _, _, _]) dL_areRows_247 rfl (by decide) (by rfl) rfl (by first | exact inc1 _ | rfl) rfl ?_
            refine V_goto (tgt := 121) dL_areRows_250 (by decide) ?_
            exact ih (j + 1) w1 v (by omega) hX1 (hF.tr hF1)
          · skip
            refine V_iconst (q := 196) (v := nI 1) dL_areRows_195 rfl (by decide) ?_
            refine V_goto (tgt := 200) dL_areRows_196 (by decide) ?_
            refine V_aload_n (q := 201) dL_areRows_200 rfl rfl rfl ?_
            refine V_iload (q := 203) dL_areRows_201 rfl rfl ?_
            refine V_iconst (q := 204) (v := nI 0) dL_areRows_203 rfl (by decide) ?_
            refine CrL_105 (q := 207) rfl dL_areRows_204 rfl (X_stateOf hX1) ⟨(Nat.le_of_ble_eq_true rfl), (Nat.le_of_ble_eq_true rfl)⟩ (Nat.le_of_ble_eq_true rfl) (by first | assumption | exact up_eq | exact (up_ne (by omega)).trans (by first | assumption | exact up_eq | exact (up_ne (by omega)).trans (by first | assumption | exact up_eq | exact (up_ne (by omega)).trans (by first | assumption | exact up_eq)))) (by omega) (Nat.zero_le _) (Nat.zero_le _) ?_
            refine V_topi (esr) ?_
            refine V_aload_n (q := 208) dL_areRows_207 rfl rfl rfl ?_
            refine V_iload (q := 210) dL_areRows_208 rfl rfl ?_
            refine V_iconst (q := 211) (v := nI 0) dL_areRows_210 rfl (by decide) ?_
            refine CrL_105 (q := 214) rfl dL_areRows_211 rfl (X_stateOf hX1) ⟨(Nat.le_of_ble_eq_true rfl), (Nat.le_of_ble_eq_true rfl)⟩ (Nat.le_of_ble_eq_true rfl) (by first | assumption | exact up_eq | exact (up_ne (by omega)).trans (by first | assumption | exact up_eq | exact (up_ne (by omega)).trans (by first | assumption | exact up_eq | exact (up_ne (by omega)).trans (by first | assumption | exact up_eq)))) (by omega) (Nat.zero_le _) (Nat.zero_le _) ?_
            refine V_topi (esj) ?_
            refine V_icmp_ne (q := 217) (tgt := 221) dL_areRows_214 (by decide) rfl (fun h9 => absurd (congrArg nI (hz.mp hk0)) h9) (fun _ => ?_)
            refine V_iconst (q := 218) (v := nI 1) dL_areRows_217 rfl (by decide) ?_
            refine V_goto (tgt := 222) dL_areRows_218 (by decide) ?_
            refine V_icmp_ne (q := 225) (tgt := 229) dL_areRows_222 (by decide) rfl (fun h9 => absurd rfl h9) (fun _ => ?_)
            refine V_fg 8 (ls2 := [_, _, _, _, _, _, _, _, none, _]) (by rfl) ?_
            refine V_fg 9 (ls2 := [_, _, _, _, _, _, _, _, _, none]) (by rfl) ?_
            refine V_iconst (q := 226) (v := nI 1) dL_areRows_225 rfl (by decide) ?_
            refine V_goto (tgt := 245) dL_areRows_226 (by decide) ?_
            refine V_istore (q := 247) (ls' := [_, _, _, _, _, _, _, _, _, _]) dL_areRows_245 rfl (by decide) (by rfl) rfl ?_
            refine V_iinc (q := 250) (ls' := [_, _, _, _, _, _, _, _, _, _]) dL_areRows_247 rfl (by decide) (by rfl) rfl (by first | exact inc1 _ | rfl) rfl ?_
            refine V_goto (tgt := 121) dL_areRows_250 (by decide) ?_
            exact ih (j + 1) w1 v (by omega) hX1 (hF.tr hF1)
        · rw [if_pos (Or.inr hbj)] at hbe
          refine V_icmp_ne (q := 163) (tgt := 167) dL_areRows_160 (by decide) rfl (fun _ => ?_) (fun h9 => absurd h9 hbj)
          exact hne hbe
      · have eb : ballI (sR (xN X) r).2 (sR (xN X) r).1 = -4 := if_neg hc
        rw [if_pos (Or.inl eb)] at hbe
        refine V_topi (eb) ?_
        refine V_if_lt (q := 146) (tgt := 167) dL_areRows_143 (by decide) rfl (fun _ => ?_) (fun h9 => absurd (by decide) h9)
        exact hne hbe
  have outer : ∀ f r w' v, r + f = sC (xN X) → XW g w' n o (setL X v) → FrX w w' o → V g l ML_areRows (rmd 6 0 0) (FinM g (qI (LQ g w n o X 1) n) 0 0) 33 [some (rf g o), some (.int (nI (cleanS (xN X) r))), some (.int (nI (ballsS (xN X) r))), some (.int (nI (lenS (xN X) r))), some (.int (nI (thrownS (xN X) r))), some (.int (nI 1)), some (.int (nI r)), none, none, none] [] (w') n 0 0 := by
    intro f
    induction f with
    | zero =>
      intro r w' v hf hX' hF
      obtain rfl : r = sC (xN X) := by omega
      obtain ⟨hob', hn'⟩ := hX'.obj
      refine V_iload (q := 35) dL_areRows_33 rfl rfl ?_
      refine V_if_eq (q := 38) (tgt := 259) dL_areRows_35 (by decide) rfl (fun h9 => absurd h9 (by decide)) (fun _ => ?_)
      refine V_iload (q := 40) dL_areRows_38 rfl rfl ?_
      refine V_aload_n (q := 41) dL_areRows_40 rfl rfl rfl ?_
      refine V_iconst (q := 42) (v := nI 0) dL_areRows_41 rfl (by decide) ?_
      refine CrL_79 (q := 45) rfl dL_areRows_42 rfl (X_account hX') ⟨(Nat.le_of_ble_eq_true rfl), (Nat.le_of_ble_eq_true rfl)⟩ (Nat.le_of_ble_eq_true rfl) (by first | assumption | exact up_eq | exact (up_ne (by omega)).trans (by first | assumption | exact up_eq | exact (up_ne (by omega)).trans (by first | assumption | exact up_eq | exact (up_ne (by omega)).trans (by first | assumption | exact up_eq)))) (by omega) (Nat.zero_le _) (Nat.zero_le _) ?_
      refine V_topi ((accA_at (by decide))) ?_
      refine V_topi ((show accW (setL X v) 0 = nI (sC (xN X)) from rfl)) ?_
      refine V_icmpN_ge (q := 48) (tgt := 259) dL_areRows_45 (by decide) rfl (by omega) (by omega) (fun _ => ?_) (fun h9 => by first | exact h9.elim | (exfalso; omega))
      refine V_fg 6 (ls2 := [_, _, _, _, _, _, none, _, _, _]) (by rfl) ?_
      exact fin w' v hX' hF
    | succ f ih =>
      intro r w' v hf hX' hF
      have hr : r < sC (xN X) := by omega
      obtain ⟨q1, q2, q3⟩ := hN.2 r hr
      obtain ⟨hob', hn'⟩ := hX'.obj
      have hd := divL_le q1 q3
      have e0 : rowA (nI r) (nI 0) (xN X) = nI (sR (xN X) r).1 := by rw [rowA_at hN hr (by decide)]; rfl
      have e1 : rowA (nI r) (nI 1) (xN X) = nI (sumN (sR (xN X) r).2 (sR (xN X) r).1) := by rw [rowA_at hN hr (by decide)]; rfl
      have e2 : rowA (nI r) (nI 2) (xN X) = ballI (sR (xN X) r).2 (sR (xN X) r).1 := by rw [rowA_at hN hr (by decide)]; rfl
      have hcl : nI (cleanS (xN X) r) + (if clN (sR (xN X) r).2 (sR (xN X) r).1 = (sR (xN X) r).1 then 1 else 0) = nI (cleanS (xN X) (r + 1)) := by
        show _ = nI (cleanS (xN X) r + (if clN (sR (xN X) r).2 (sR (xN X) r).1 = (sR (xN X) r).1 then 1 else 0))
        by_cases hc : clN (sR (xN X) r).2 (sR (xN X) r).1 = (sR (xN X) r).1
        · rw [if_pos hc, if_pos hc]
          exact nI_add _ 1
        · rw [if_neg hc, if_neg hc]
          exact nI_add _ 0
      have hmx : (if nI 0 < ballI (sR (xN X) r).2 (sR (xN X) r).1 then ballI (sR (xN X) r).2 (sR (xN X) r).1 else nI 0) = nI (if clN (sR (xN X) r).2 (sR (xN X) r).1 = (sR (xN X) r).1 then sumN (sR (xN X) r).2 (sR (xN X) r).1 / (sR (xN X) r).1 else 0) := by
        by_cases hc : clN (sR (xN X) r).2 (sR (xN X) r).1 = (sR (xN X) r).1
        · rw [show ballI (sR (xN X) r).2 (sR (xN X) r).1 = nI (sumN (sR (xN X) r).2 (sR (xN X) r).1 / (sR (xN X) r).1) from if_pos hc, if_pos hc, maxI (by decide) (by omega), Nat.zero_max]
        · rw [show ballI (sR (xN X) r).2 (sR (xN X) r).1 = -4 from if_neg hc, if_neg hc]
          rfl
      refine V_iload (q := 35) dL_areRows_33 rfl rfl ?_
      refine V_if_eq (q := 38) (tgt := 259) dL_areRows_35 (by decide) rfl (fun h9 => absurd h9 (by decide)) (fun _ => ?_)
      refine V_iload (q := 40) dL_areRows_38 rfl rfl ?_
      refine V_aload_n (q := 41) dL_areRows_40 rfl rfl rfl ?_
      refine V_iconst (q := 42) (v := nI 0) dL_areRows_41 rfl (by decide) ?_
      refine CrL_79 (q := 45) rfl dL_areRows_42 rfl (X_account hX') ⟨(Nat.le_of_ble_eq_true rfl), (Nat.le_of_ble_eq_true rfl)⟩ (Nat.le_of_ble_eq_true rfl) (by first | assumption | exact up_eq | exact (up_ne (by omega)).trans (by first | assumption | exact up_eq | exact (up_ne (by omega)).trans (by first | assumption | exact up_eq | exact (up_ne (by omega)).trans (by first | assumption | exact up_eq)))) (by omega) (Nat.zero_le _) (Nat.zero_le _) ?_
      refine V_topi ((accA_at (by decide))) ?_
      refine V_topi ((show accW (setL X v) 0 = nI (sC (xN X)) from rfl)) ?_
      refine V_icmpN_ge (q := 48) (tgt := 259) dL_areRows_45 (by decide) rfl (by omega) (by omega) (fun h9 => by first | exact h9.elim | exact absurd h9 (by assumption) | (exfalso; omega)) (fun _ => ?_)
      refine V_iload_n (q := 49) dL_areRows_48 rfl rfl ?_
      refine V_aload_n (q := 50) dL_areRows_49 rfl rfl rfl ?_
      refine V_iload (q := 52) dL_areRows_50 rfl rfl ?_
      refine CrL_96 (q := 55) rfl dL_areRows_52 rfl (X_isClean hX') ⟨(Nat.le_of_ble_eq_true rfl), (Nat.le_of_ble_eq_true rfl)⟩ (Nat.le_of_ble_eq_true rfl) (by first | assumption | exact up_eq | exact (up_ne (by omega)).trans (by first | assumption | exact up_eq | exact (up_ne (by omega)).trans (by first | assumption | exact up_eq | exact (up_ne (by omega)).trans (by first | assumption | exact up_eq)))) (by omega) (Nat.zero_le _) (Nat.zero_le _) ?_
      refine V_topi ((clnA_at hN hr)) ?_
      refine V_iadd (q := 56) dL_areRows_55 rfl hcl ?_
      refine V_istore_n (q := 57) (ls' := [_, _, _, _, _, _, _, _, _, _]) dL_areRows_56 rfl (by decide) (by rfl) rfl ?_
      refine V_iload_n (q := 58) dL_areRows_57 rfl rfl ?_
      refine V_iconst (q := 59) (v := nI 0) dL_areRows_58 rfl (by decide) ?_
      refine V_aload_n (q := 60) dL_areRows_59 rfl rfl rfl ?_
      refine V_iload (q := 62) dL_areRows_60 rfl rfl ?_
      refine V_iconst (q := 63) (v := nI 2) dL_areRows_62 rfl (by decide) ?_
      refine CrL_85 (q := 66) rfl dL_areRows_63 rfl (X_rowOf hX') ⟨(Nat.le_of_ble_eq_true rfl), (Nat.le_of_ble_eq_true rfl)⟩ (Nat.le_of_ble_eq_true rfl) (by first | assumption | exact up_eq | exact (up_ne (by omega)).trans (by first | assumption | exact up_eq | exact (up_ne (by omega)).trans (by first | assumption | exact up_eq | exact (up_ne (by omega)).trans (by first | assumption | exact up_eq)))) (by omega) (Nat.zero_le _) (Nat.zero_le _) ?_
      refine V_topi (e2) ?_
      refine XL_91 (q := 69) rfl dL_areRows_66 rfl (Nat.le_of_ble_eq_true rfl) (Nat.le_of_ble_eq_true rfl) (Nat.zero_le _) (Nat.zero_le _) hmx ?_
      refine V_iadd (q := 70) dL_areRows_69 rfl (by first | exact nI_add _ _ | rfl) ?_
      refine V_istore_n (q := 71) (ls' := [_, _, _, _, _, _, _, _, _, _]) dL_areRows_70 rfl (by decide) (by rfl) rfl ?_
      refine V_iload_n (q := 72) dL_areRows_71 rfl rfl ?_
      refine V_aload_n (q := 73) dL_areRows_72 rfl rfl rfl ?_
      refine V_iload (q := 75) dL_areRows_73 rfl rfl ?_
      refine V_iconst (q := 76) (v := nI 0) dL_areRows_75 rfl (by decide) ?_
      refine CrL_85 (q := 79) rfl dL_areRows_76 rfl (X_rowOf hX') ⟨(Nat.le_of_ble_eq_true rfl), (Nat.le_of_ble_eq_true rfl)⟩ (Nat.le_of_ble_eq_true rfl) (by first | assumption | exact up_eq | exact (up_ne (by omega)).trans (by first | assumption | exact up_eq | exact (up_ne (by omega)).trans (by first | assumption | exact up_eq | exact (up_ne (by omega)).trans (by first | assumption | exact up_eq)))) (by omega) (Nat.zero_le _) (Nat.zero_le _) ?_
      refine V_topi (e0) ?_
      refine V_iadd (q := 80) dL_areRows_79 rfl (by first | exact nI_add _ _ | rfl) ?_
      refine V_istore_n (q := 81) (ls' := [_, _, _, _, _, _, _, _, _, _]) dL_areRows_80 rfl (by decide) (by rfl) rfl ?_
      refine V_iload (q := 83) dL_areRows_81 rfl rfl ?_
      refine V_aload_n (q := 84) dL_areRows_83 rfl rfl rfl ?_
      refine V_iload (q := 86) dL_areRows_84 rfl rfl ?_
      refine V_iconst (q := 87) (v := nI 1) dL_areRows_86 rfl (by decide) ?_
      refine CrL_85 (q := 90) rfl dL_areRows_87 rfl (X_rowOf hX') ⟨(Nat.le_of_ble_eq_true rfl), (Nat.le_of_ble_eq_true rfl)⟩ (Nat.le_of_ble_eq_true rfl) (by first | assumption | exact up_eq | exact (up_ne (by omega)).trans (by first | assumption | exact up_eq | exact (up_ne (by omega)).trans (by first | assumption | exact up_eq | exact (up_ne (by omega)).trans (by first | assumption | exact up_eq)))) (by omega) (Nat.zero_le _) (Nat.zero_le _) ?_
      refine V_topi (e1) ?_
      refine V_iadd (q := 91) dL_areRows_90 rfl (by first | exact nI_add _ _ | rfl) ?_
      refine V_istore (q := 93) (ls' := [_, _, _, _, _, _, _, _, _, _]) dL_areRows_91 rfl (by decide) (by rfl) rfl ?_
      refine V_aload_n (q := 94) dL_areRows_93 rfl rfl rfl ?_
      refine V_iload (q := 96) dL_areRows_94 rfl rfl ?_
      refine CiL_138 (q := 99) rfl dL_areRows_96 rfl ((c_isRow hX' hr)) ⟨(Nat.le_of_ble_eq_true rfl), (Nat.le_of_ble_eq_true rfl)⟩ (Nat.le_of_ble_eq_true rfl) (Nat.zero_le _) (Nat.zero_le _) (fun y w1 h1 => ?_)
      obtain ⟨rfl, ⟨v1, hX1⟩, hF1⟩ := h1
      have hX1 : XW g w1 n o (setL X v1) := hX1
      refine V_if_eq (q := 102) (tgt := 115) dL_areRows_99 (by decide) rfl (fun h9 => absurd h9 (by decide)) (fun _ => ?_)
      refine V_aload_n (q := 103) dL_areRows_102 rfl rfl rfl ?_
      refine V_iload (q := 105) dL_areRows_103 rfl rfl ?_
      refine CiL_142 (q := 108) rfl dL_areRows_105 rfl ((c_isJoin hX1 hS hr)) ⟨(Nat.le_of_ble_eq_true rfl), (Nat.le_of_ble_eq_true rfl)⟩ (Nat.le_of_ble_eq_true rfl) (Nat.zero_le _) (Nat.zero_le _) (fun y w2 h2 => ?_)
      obtain ⟨rfl, ⟨v2, hX2⟩, hF2⟩ := h2
      have hX2 : XW g w2 n o (setL X v2) := hX2
      refine V_if_eq (q := 111) (tgt := 115) dL_areRows_108 (by decide) rfl (fun h9 => absurd h9 (by decide)) (fun _ => ?_)
      refine V_iconst (q := 112) (v := nI 1) dL_areRows_111 rfl (by decide) ?_
      refine V_goto (tgt := 116) dL_areRows_112 (by decide) ?_
      refine V_istore (q := 118) (ls' := [_, _, _, _, _, _, _, _, _, _]) dL_areRows_116 rfl (by decide) (by rfl) rfl ?_
      refine V_iconst (q := 119) (v := nI 0) dL_areRows_118 rfl (by decide) ?_
      refine V_istore (q := 121) (ls' := [_, _, _, _, _, _, _, _, _, _]) dL_areRows_119 rfl (by decide) (by rfl) rfl ?_
      exact inner r hr (fun w' v hX hF => ih (r + 1) w' v (by omega) hX hF) (sC (xN X)) 0 w2 v2 (Nat.zero_add _) hX2 ((hF.tr hF1).tr hF2)
  refine Ct.ofs (M := ML_areRows) (ls := [some _, none, none, none, none, none, none, none, none, none]) (by decide +kernel) (by exact (Nat.le_of_ble_eq_true rfl)) (by rfl) (by rfl) (by rfl) ?_
  refine V_iconst (q := 1) (v := nI 0) dL_areRows_0 rfl (by decide) ?_
  refine V_istore_n (q := 2) (ls' := [_, _, _, _, _, _, _, _, _, _]) dL_areRows_1 rfl (by decide) (by rfl) rfl ?_
  refine V_iconst (q := 3) (v := nI 0) dL_areRows_2 rfl (by decide) ?_
  refine V_istore_n (q := 4) (ls' := [_, _, _, _, _, _, _, _, _, _]) dL_areRows_3 rfl (by decide) (by rfl) rfl ?_
  refine V_iconst (q := 5) (v := nI 0) dL_areRows_4 rfl (by decide) ?_
  refine V_istore_n (q := 6) (ls' := [_, _, _, _, _, _, _, _, _, _]) dL_areRows_5 rfl (by decide) (by rfl) rfl ?_
  refine V_iconst (q := 7) (v := nI 0) dL_areRows_6 rfl (by decide) ?_
  refine V_istore (q := 9) (ls' := [_, _, _, _, _, _, _, _, _, _]) dL_areRows_7 rfl (by decide) (by rfl) rfl ?_
  refine V_aload_n (q := 10) dL_areRows_9 rfl rfl rfl ?_
  refine V_aload_n (q := 11) dL_areRows_10 rfl rfl rfl ?_
  refine V_iconst (q := 12) (v := nI 0) dL_areRows_11 rfl (by decide) ?_
  refine CrL_79 (q := 15) rfl dL_areRows_12 rfl (X_account hX) ⟨(Nat.le_of_ble_eq_true rfl), (Nat.le_of_ble_eq_true rfl)⟩ (Nat.le_of_ble_eq_true rfl) (by first | assumption | exact up_eq | exact (up_ne (by omega)).trans (by first | assumption | exact up_eq | exact (up_ne (by omega)).trans (by first | assumption | exact up_eq | exact (up_ne (by omega)).trans (by first | assumption | exact up_eq)))) (by omega) (Nat.zero_le _) (Nat.zero_le _) ?_
  refine V_topi ((accA_at (by decide))) ?_
  refine V_topi ((show accW X 0 = nI (sC (xN X)) from rfl)) ?_
  refine V_iconst (q := 16) (v := nI 0) dL_areRows_15 rfl (by decide) ?_
  refine CrL_85 (q := 19) rfl dL_areRows_16 rfl (X_rowOf hX) ⟨(Nat.le_of_ble_eq_true rfl), (Nat.le_of_ble_eq_true rfl)⟩ (Nat.le_of_ble_eq_true rfl) (by first | assumption | exact up_eq | exact (up_ne (by omega)).trans (by first | assumption | exact up_eq | exact (up_ne (by omega)).trans (by first | assumption | exact up_eq | exact (up_ne (by omega)).trans (by first | assumption | exact up_eq)))) (by omega) (Nat.zero_le _) (Nat.zero_le _) ?_
  refine V_topi ((rowA_end hN)) ?_
  refine V_iconst (q := 20) (v := (-1)) dL_areRows_19 rfl (by decide) ?_
  refine V_icmp_ne (q := 23) (tgt := 27) dL_areRows_20 (by decide) rfl (fun h9 => absurd rfl h9) (fun _ => ?_)
  refine V_iconst (q := 24) (v := nI 1) dL_areRows_23 rfl (by decide) ?_
  refine V_goto (tgt := 28) dL_areRows_24 (by decide) ?_
  refine V_istore (q := 30) (ls' := [_, _, _, _, _, _, _, _, _, _]) dL_areRows_28 rfl (by decide) (by rfl) rfl ?_
  refine V_iconst (q := 31) (v := nI 0) dL_areRows_30 rfl (by decide) ?_
  refine V_istore (q := 33) (ls' := [_, _, _, _, _, _, _, _, _, _]) dL_areRows_31 rfl (by decide) (by rfl) rfl ?_
  exact outer (sC (xN X)) 0 w (xL X) (Nat.zero_add _) hX (fun _ _ => rfl)
theorem c_isFit (hX : XW g w n o X) {K : Nat} (hv : Nv K (xN X)) (hK : K < 2 ^ 30) : CtI g l ML_isFit 7 [rf g o] w n (LQ g w n o X 1) := by
  obtain ⟨hob, hn⟩ := hX.obj
  have hS := hv.1
  refine Ct.ofs (M := ML_isFit) (ls := [some _]) (by decide +kernel) (by exact (Nat.le_of_ble_eq_true rfl)) (by rfl) (by rfl) (by rfl) ?_
  refine V_aload_n (q := 1) dL_isFit_0 rfl rfl rfl ?_
  refine CiL_164 (q := 4) rfl dL_isFit_1 rfl ((c_areRows hX hS)) ⟨(Nat.le_of_ble_eq_true rfl), (Nat.le_of_ble_eq_true rfl)⟩ (Nat.le_of_ble_eq_true rfl) (Nat.zero_le _) (Nat.zero_le _) (fun y w1 h1 => ?_)
  obtain ⟨rfl, ⟨v1, hX1⟩, hF1⟩ := h1
  refine V_if_eq (q := 7) (tgt := 50) dL_isFit_4 (by decide) rfl (fun h9 => absurd h9 (by decide)) (fun _ => ?_)
  refine V_aload_n (q := 8) dL_isFit_7 rfl rfl rfl ?_
  refine CiL_168 (q := 11) rfl dL_isFit_8 rfl ((c_isJuggler hX1 hv hK)) ⟨(Nat.le_of_ble_eq_true rfl), (Nat.le_of_ble_eq_true rfl)⟩ (Nat.le_of_ble_eq_true rfl) (Nat.zero_le _) (Nat.zero_le _) (fun y w2 h2 => ?_)
  obtain ⟨rfl, ⟨v2, hX2⟩, hF2⟩ := h2
  refine V_if_eq (q := 14) (tgt := 50) dL_isFit_11 (by decide) rfl (fun h9 => absurd h9 (by decide)) (fun _ => ?_)
  refine V_aload_n (q := 15) dL_isFit_14 rfl rfl rfl ?_
  refine V_iconst (q := 16) (v := nI 0) dL_isFit_15 rfl (by decide) ?_
  refine CiL_171 (q := 19) rfl dL_isFit_16 rfl ((c_areRanked hX2 (by decide))) ⟨(Nat.le_of_ble_eq_true rfl), (Nat.le_of_ble_eq_true rfl)⟩ (Nat.le_of_ble_eq_true rfl) (Nat.zero_le _) (Nat.zero_le _) (fun y w3 h3 => ?_)
  obtain ⟨rfl, ⟨v3, hX3⟩, hF3⟩ := h3
  refine V_if_eq (q := 22) (tgt := 50) dL_isFit_19 (by decide) rfl (fun h9 => absurd h9 (by decide)) (fun _ => ?_)
  refine V_aload_n (q := 23) dL_isFit_22 rfl rfl rfl ?_
  refine V_iconst (q := 24) (v := nI 1) dL_isFit_23 rfl (by decide) ?_
  refine CiL_171 (q := 27) rfl dL_isFit_24 rfl ((c_areRanked hX3 (by decide))) ⟨(Nat.le_of_ble_eq_true rfl), (Nat.le_of_ble_eq_true rfl)⟩ (Nat.le_of_ble_eq_true rfl) (Nat.zero_le _) (Nat.zero_le _) (fun y w4 h4 => ?_)
  obtain ⟨rfl, ⟨v4, hX4⟩, hF4⟩ := h4
  refine V_if_eq (q := 30) (tgt := 50) dL_isFit_27 (by decide) rfl (fun h9 => absurd h9 (by decide)) (fun _ => ?_)
  refine V_aload_n (q := 31) dL_isFit_30 rfl rfl rfl ?_
  refine V_iconst (q := 32) (v := nI 2) dL_isFit_31 rfl (by decide) ?_
  refine CiL_171 (q := 35) rfl dL_isFit_32 rfl ((c_areRanked hX4 (by decide))) ⟨(Nat.le_of_ble_eq_true rfl), (Nat.le_of_ble_eq_true rfl)⟩ (Nat.le_of_ble_eq_true rfl) (Nat.zero_le _) (Nat.zero_le _) (fun y w5 h5 => ?_)
  obtain ⟨rfl, ⟨v5, hX5⟩, hF5⟩ := h5
  obtain ⟨hob5, hn5⟩ := hX5.obj
  refine V_if_eq (q := 38) (tgt := 50) dL_isFit_35 (by decide) rfl (fun h9 => absurd h9 (by decide)) (fun _ => ?_)
  refine V_aload_n (q := 39) dL_isFit_38 rfl rfl rfl ?_
  refine CiL_174 (q := 42) rfl dL_isFit_39 rfl ((X_isWell hX5 hS)) ⟨(Nat.le_of_ble_eq_true rfl), (Nat.le_of_ble_eq_true rfl)⟩ (Nat.le_of_ble_eq_true rfl) (by first | assumption | exact up_eq | exact (up_ne (by omega)).trans (by first | assumption | exact up_eq | exact (up_ne (by omega)).trans (by first | assumption | exact up_eq | exact (up_ne (by omega)).trans (by first | assumption | exact up_eq)))) (by omega) (Nat.zero_le _) (Nat.zero_le _) (fun y w6 h6 => ?_)
  obtain ⟨rfl, hX6, hF6⟩ := h6
  refine V_iconst (q := 43) (v := nI 1) dL_isFit_42 rfl (by decide) ?_
  refine V_icmp_ne (q := 46) (tgt := 50) dL_isFit_43 (by decide) rfl (fun h9 => absurd (show (1 : Int32) = nI 1 by decide) h9) (fun _ => ?_)
  refine V_iconst (q := 47) (v := nI 1) dL_isFit_46 rfl (by decide) ?_
  refine V_goto (tgt := 51) dL_isFit_47 (by decide) ?_
  exact V_zret dL_isFit_51 rfl (rfl) (Nat.le_of_ble_eq_true rfl) (Nat.le_of_ble_eq_true rfl) (⟨rfl, _, rfl, rfl, ⟨v5, hX6⟩, ((((hF1.tr hF2).tr hF3).tr hF4).tr hF5).tr hF6⟩)
end FIT
