/-! THE MODEL: rows told by the numbers -/
abbrev mnow (N : StT) (F : Nat → Int32) : Prop := F 0 = nI (sC N) ∧ F 1 = nI (sS N) ∧ F 2 = nI (popc (sS N)) ∧ F 3 = nI (sB N) ∧ F 4 = nI (sT N) ∧ F 5 = nI (sU N) ∧ F 6 = nI (sH N) ∧ F 7 = nI (sJ N) ∧ F 8 = nI (sG N)
def RN (F : Nat → Int32) (N : StT) : Prop := mnow N F ∧ (∀ i, i < sC N → F (9 + 9 * i) = nI (sR N i).1 ∧ ∀ j, j < (sR N i).1 → F (9 + 9 * i + 1 + j) = nI ((sR N i).2 j)) ∧ OkN N ∧ OkS N ∧ sB N < 2 ^ 30
section MR
variable {g : GG} {l : Launch} {w : HW} {n p : Nat} {F : Nat → Int32} {N : StT} {fs : List Value}
theorem c_between {x a b : Int32} : CtR g l MX8_isBetween 0 [.int x, .int a, .int b] w n (.int (if a ≤ x ∧ x ≤ b then 1 else 0)) := by
  refine Ct.ofs (M := MX8_isBetween) (ls := [some _, some _, some _]) (by decide +kernel) (by exact (Nat.le_of_ble_eq_true rfl)) (by rfl) (by rfl) (by rfl) ?_
  refine V_iload_n (q := 1) dX8_isBetween_0 rfl rfl ?_
  refine V_iload_n (q := 2) dX8_isBetween_1 rfl rfl ?_
  refine V_icmp_lt (q := 5) (tgt := 14) dX8_isBetween_2 (by decide) rfl (fun h1 => ?_) (fun h1 => ?_)
  · skip
    rw [if_neg (fun q => (fa_of_lt h1).2.1 q.1)]
    refine V_iconst (q := 15) (v := nI 0) dX8_isBetween_14 rfl (by decide) ?_
    exact V_zret dX8_isBetween_15 rfl (rfl) (Nat.le_of_ble_eq_true rfl) (Nat.le_of_ble_eq_true rfl) (⟨rfl, rfl, rfl⟩)
  · skip
    have h1 := fa_of_nlt h1
    refine V_iload_n (q := 6) dX8_isBetween_5 rfl rfl ?_
    refine V_iload_n (q := 7) dX8_isBetween_6 rfl rfl ?_
    refine V_icmp_gt (q := 10) (tgt := 14) dX8_isBetween_7 (by decide) rfl (fun h2 => ?_) (fun h2 => ?_)
    · skip
      rw [if_neg (fun q => (fa_of_lt h2).2.1 q.2)]
      refine V_iconst (q := 15) (v := nI 0) dX8_isBetween_14 rfl (by decide) ?_
      exact V_zret dX8_isBetween_15 rfl (rfl) (Nat.le_of_ble_eq_true rfl) (Nat.le_of_ble_eq_true rfl) (⟨rfl, rfl, rfl⟩)
    · skip
      rw [if_pos ⟨h1, fa_of_nlt h2⟩]
      refine V_iconst (q := 11) (v := nI 1) dX8_isBetween_10 rfl (by decide) ?_
      refine V_goto (tgt := 15) dX8_isBetween_11 (by decide) ?_
      exact V_zret dX8_isBetween_15 rfl (rfl) (Nat.le_of_ble_eq_true rfl) (Nat.le_of_ble_eq_true rfl) (⟨rfl, rfl, rfl⟩)
theorem bet_out {x : Int32} {c : Nat} (h : x < 0 ∨ nI c ≤ x) (hc : c < 2 ^ 31) : ¬ (nI 0 ≤ x ∧ x ≤ nI c - nI 1) := by
  rintro ⟨q1, q2⟩
  rcases h with h | h
  · exact (fa_of_lt h).2.1 q1
  · rcases Nat.eq_zero_or_pos c with z | z
    · rw [z] at q2
      exact (fa_of_lt (fa_trans (by decide : nI 0 - nI 1 < nI 0) q1)).2.1 q2
    · rw [pk_sub (by omega)] at q2
      have e : nI (c - 1) < nI c := (nI_ltI (by omega) hc).mpr (by omega)
      exact (fa_of_lt (fa_trans e h)).2.1 q2
theorem bet_in {i c : Nat} (hi : i < c) (hc : c < 2 ^ 31) : nI 0 ≤ nI i ∧ nI i ≤ nI c - nI 1 := by
  rw [pk_sub (by omega)]
  exact ⟨(nI_leI (by decide) (by omega)).mpr (Nat.zero_le _), (nI_leI (by omega) (by omega)).mpr (by omega)⟩
theorem m_isRow_out (h0 : w p = eO 8 (rf g (p + 1) :: fs)) (h1 : w (p + 1) = eI g 63 F) (hn : p + 1 < n) (hR : RN F N) {x : Int32} (hx : x < 0 ∨ nI (sC N) ≤ x) : CtR g l MX8_isRow 1 [rf g p, .int x] w n (.int 0) := by
  have hc := hR.2.2.1.1
  have e0 := hR.1.1
  refine Ct.ofs (M := MX8_isRow) (ls := [some _, some _]) (by decide +kernel) (by exact (Nat.le_of_ble_eq_true rfl)) (by rfl) (by rfl) (by rfl) ?_
  refine V_iload_n (q := 1) dX8_isRow_0 rfl rfl ?_
  refine V_iconst (q := 2) (v := nI 0) dX8_isRow_1 rfl (by decide) ?_
  refine V_aload_n (q := 3) dX8_isRow_2 rfl rfl rfl ?_
  refine GX8_9 (q := 6) rfl dX8_isRow_3 rfl (by first | assumption | exact up_eq | exact (up_ne (by omega)).trans (by first | assumption | exact up_eq | exact (up_ne (by omega)).trans (by first | assumption | exact up_eq | exact (up_ne (by omega)).trans (by first | assumption | exact up_eq)))) (by omega) (by rfl) ?_
  refine V_iconst (q := 7) (v := nI 0) dX8_isRow_6 rfl (by decide) ?_
  refine V_ialdN (q := 8) dX8_isRow_7 rfl (by first | assumption | exact up_eq | exact (up_ne (by omega)).trans (by first | assumption | exact up_eq | exact (up_ne (by omega)).trans (by first | assumption | exact up_eq | exact (up_ne (by omega)).trans (by first | assumption | exact up_eq)))) (by omega) (by omega) (by omega) rfl (by rfl) ?_
  refine V_iconst (q := 9) (v := nI 1) dX8_isRow_8 rfl (by decide) ?_
  refine V_isub (q := 10) dX8_isRow_9 rfl (congrArg (· - nI 1) e0) ?_
  refine CrX8_71 (q := 13) rfl dX8_isRow_10 rfl (c_between) ⟨(Nat.le_of_ble_eq_true rfl), (Nat.le_of_ble_eq_true rfl)⟩ (Nat.le_of_ble_eq_true rfl) (Nat.zero_le _) (Nat.zero_le _) ?_
  refine V_topi (if_neg (bet_out hx (by omega))) ?_
  exact V_zret dX8_isRow_13 rfl (rfl) (Nat.le_of_ble_eq_true rfl) (Nat.le_of_ble_eq_true rfl) (⟨rfl, rfl, rfl⟩)
theorem m_isRow_in (h0 : w p = eO 8 (rf g (p + 1) :: fs)) (h1 : w (p + 1) = eI g 63 F) (hn : p + 1 < n) (hR : RN F N) {i : Nat} (hi : i < sC N) : CtR g l MX8_isRow 1 [rf g p, .int (nI i)] w n (.int 1) := by
  have hc := hR.2.2.1.1
  have e0 := hR.1.1
  refine Ct.ofs (M := MX8_isRow) (ls := [some _, some _]) (by decide +kernel) (by exact (Nat.le_of_ble_eq_true rfl)) (by rfl) (by rfl) (by rfl) ?_
  refine V_iload_n (q := 1) dX8_isRow_0 rfl rfl ?_
  refine V_iconst (q := 2) (v := nI 0) dX8_isRow_1 rfl (by decide) ?_
  refine V_aload_n (q := 3) dX8_isRow_2 rfl rfl rfl ?_
  refine GX8_9 (q := 6) rfl dX8_isRow_3 rfl (by first | assumption | exact up_eq | exact (up_ne (by omega)).trans (by first | assumption | exact up_eq | exact (up_ne (by omega)).trans (by first | assumption | exact up_eq | exact (up_ne (by omega)).trans (by first | assumption | exact up_eq)))) (by omega) (by rfl) ?_
  refine V_iconst (q := 7) (v := nI 0) dX8_isRow_6 rfl (by decide) ?_
  refine V_ialdN (q := 8) dX8_isRow_7 rfl (by first | assumption | exact up_eq | exact (up_ne (by omega)).trans (by first | assumption | exact up_eq | exact (up_ne (by omega)).trans (by first | assumption | exact up_eq | exact (up_ne (by omega)).trans (by first | assumption | exact up_eq)))) (by omega) (by omega) (by omega) rfl (by rfl) ?_
  refine V_iconst (q := 9) (v := nI 1) dX8_isRow_8 rfl (by decide) ?_
  refine V_isub (q := 10) dX8_isRow_9 rfl (congrArg (· - nI 1) e0) ?_
  refine CrX8_71 (q := 13) rfl dX8_isRow_10 rfl (c_between) ⟨(Nat.le_of_ble_eq_true rfl), (Nat.le_of_ble_eq_true rfl)⟩ (Nat.le_of_ble_eq_true rfl) (Nat.zero_le _) (Nat.zero_le _) ?_
  refine V_topi (if_pos (bet_in hi (by omega))) ?_
  exact V_zret dX8_isRow_13 rfl (rfl) (Nat.le_of_ble_eq_true rfl) (Nat.le_of_ble_eq_true rfl) (⟨rfl, rfl, rfl⟩)
theorem m_lengthOf (h0 : w p = eO 8 (rf g (p + 1) :: fs)) (h1 : w (p + 1) = eI g 63 F) (hn : p + 1 < n) (hR : RN F N) {i : Nat} (hi : i < sC N) : CtR g l MX8_lengthOf 0 [rf g p, .int (nI i)] w n (.int (nI (sR N i).1)) := by
  have hc := hR.2.2.1.1
  have e0 := (hR.2.1 i hi).1
  refine Ct.ofs (M := MX8_lengthOf) (ls := [some _, some _]) (by decide +kernel) (by exact (Nat.le_of_ble_eq_true rfl)) (by rfl) (by rfl) (by rfl) ?_
  refine V_aload_n (q := 1) dX8_lengthOf_0 rfl rfl rfl ?_
  refine GX8_9 (q := 4) rfl dX8_lengthOf_1 rfl (by first | assumption | exact up_eq | exact (up_ne (by omega)).trans (by first | assumption | exact up_eq | exact (up_ne (by omega)).trans (by first | assumption | exact up_eq | exact (up_ne (by omega)).trans (by first | assumption | exact up_eq)))) (by omega) (by rfl) ?_
  refine V_bipush (q := 6) (v := nI 9) dX8_lengthOf_4 rfl (by decide) ?_
  refine V_bipush (q := 8) (v := nI 9) dX8_lengthOf_6 rfl (by decide) ?_
  refine V_iload_n (q := 9) dX8_lengthOf_8 rfl rfl ?_
  refine V_imul (q := 10) dX8_lengthOf_9 rfl (by first | exact pk_mul _ _ | rfl) ?_
  refine V_iadd (q := 11) dX8_lengthOf_10 rfl (by first | exact nI_add _ _ | rfl) ?_
  refine V_ialdN (q := 12) dX8_lengthOf_11 rfl (by first | assumption | exact up_eq | exact (up_ne (by omega)).trans (by first | assumption | exact up_eq | exact (up_ne (by omega)).trans (by first | assumption | exact up_eq | exact (up_ne (by omega)).trans (by first | assumption | exact up_eq)))) (by omega) (by omega) (by omega) rfl e0 ?_
  exact V_iret dX8_lengthOf_12 rfl (Nat.le_of_ble_eq_true rfl) (Nat.le_of_ble_eq_true rfl) (⟨rfl, rfl, rfl⟩)
theorem m_thrown (h0 : w p = eO 8 (rf g (p + 1) :: fs)) (h1 : w (p + 1) = eI g 63 F) (hn : p + 1 < n) (hR : RN F N) {i j : Nat} (hi : i < sC N) (hj : j < (sR N i).1) : CtR g l MX8_thrown 0 [rf g p, .int (nI i), .int (nI j)] w n (.int (nI ((sR N i).2 j))) := by
  have hc := hR.2.2.1.1
  have e0 := (hR.2.1 i hi).2 j hj
  have e1 := (hR.2.2.1.2 i hi).2.1
  refine Ct.ofs (M := MX8_thrown) (ls := [some _, some _, some _]) (by decide +kernel) (by exact (Nat.le_of_ble_eq_true rfl)) (by rfl) (by rfl) (by rfl) ?_
  refine V_aload_n (q := 1) dX8_thrown_0 rfl rfl rfl ?_
  refine GX8_9 (q := 4) rfl dX8_thrown_1 rfl (by first | assumption | exact up_eq | exact (up_ne (by omega)).trans (by first | assumption | exact up_eq | exact (up_ne (by omega)).trans (by first | assumption | exact up_eq | exact (up_ne (by omega)).trans (by first | assumption | exact up_eq)))) (by omega) (by rfl) ?_
  refine V_bipush (q := 6) (v := nI 9) dX8_thrown_4 rfl (by decide) ?_
  refine V_bipush (q := 8) (v := nI 9) dX8_thrown_6 rfl (by decide) ?_
  refine V_iload_n (q := 9) dX8_thrown_8 rfl rfl ?_
  refine V_imul (q := 10) dX8_thrown_9 rfl (by first | exact pk_mul _ _ | rfl) ?_
  refine V_iadd (q := 11) dX8_thrown_10 rfl (by first | exact nI_add _ _ | rfl) ?_
  refine V_iconst (q := 12) (v := nI 1) dX8_thrown_11 rfl (by decide) ?_
  refine V_iadd (q := 13) dX8_thrown_12 rfl (by first | exact nI_add _ _ | rfl) ?_
  refine V_iload_n (q := 14) dX8_thrown_13 rfl rfl ?_
  refine V_iadd (q := 15) dX8_thrown_14 rfl (by first | exact nI_add _ _ | rfl) ?_
  refine V_ialdN (q := 16) dX8_thrown_15 rfl (by first | assumption | exact up_eq | exact (up_ne (by omega)).trans (by first | assumption | exact up_eq | exact (up_ne (by omega)).trans (by first | assumption | exact up_eq | exact (up_ne (by omega)).trans (by first | assumption | exact up_eq)))) (by omega) (by omega) (by omega) rfl e0 ?_
  exact V_iret dX8_thrown_16 rfl (Nat.le_of_ble_eq_true rfl) (Nat.le_of_ble_eq_true rfl) (⟨rfl, rfl, rfl⟩)
theorem m_isBeat_out (h0 : w p = eO 8 (rf g (p + 1) :: fs)) (h1 : w (p + 1) = eI g 63 F) (hn : p + 1 < n) (hR : RN F N) {i : Nat} (hi : i < sC N) {x : Int32} (hx : x < 0 ∨ nI (sR N i).1 ≤ x) : CtR g l MX8_isBeat 1 [rf g p, .int (nI i), .int x] w n (.int 0) := by
  have e1 := (hR.2.2.1.2 i hi).2.1
  refine Ct.ofs (M := MX8_isBeat) (ls := [some _, some _, some _]) (by decide +kernel) (by exact (Nat.le_of_ble_eq_true rfl)) (by rfl) (by rfl) (by rfl) ?_
  refine V_iload_n (q := 1) dX8_isBeat_0 rfl rfl ?_
  refine V_iconst (q := 2) (v := nI 0) dX8_isBeat_1 rfl (by decide) ?_
  refine V_aload_n (q := 3) dX8_isBeat_2 rfl rfl rfl ?_
  refine V_iload_n (q := 4) dX8_isBeat_3 rfl rfl ?_
  refine CrX8_75 (q := 7) rfl dX8_isBeat_4 rfl (m_lengthOf h0 h1 hn hR hi) ⟨(Nat.le_of_ble_eq_true rfl), (Nat.le_of_ble_eq_true rfl)⟩ (Nat.le_of_ble_eq_true rfl) (by first | assumption | exact up_eq | exact (up_ne (by omega)).trans (by first | assumption | exact up_eq | exact (up_ne (by omega)).trans (by first | assumption | exact up_eq | exact (up_ne (by omega)).trans (by first | assumption | exact up_eq)))) (by omega) (Nat.zero_le _) (Nat.zero_le _) ?_
  refine V_iconst (q := 8) (v := nI 1) dX8_isBeat_7 rfl (by decide) ?_
  refine V_isub (q := 9) dX8_isBeat_8 rfl rfl ?_
  refine CrX8_71 (q := 12) rfl dX8_isBeat_9 rfl (c_between) ⟨(Nat.le_of_ble_eq_true rfl), (Nat.le_of_ble_eq_true rfl)⟩ (Nat.le_of_ble_eq_true rfl) (Nat.zero_le _) (Nat.zero_le _) ?_
  refine V_topi (if_neg (bet_out hx (by omega))) ?_
  exact V_zret dX8_isBeat_12 rfl (rfl) (Nat.le_of_ble_eq_true rfl) (Nat.le_of_ble_eq_true rfl) (⟨rfl, rfl, rfl⟩)
theorem m_isBeat_in (h0 : w p = eO 8 (rf g (p + 1) :: fs)) (h1 : w (p + 1) = eI g 63 F) (hn : p + 1 < n) (hR : RN F N) {i j : Nat} (hi : i < sC N) (hj : j < (sR N i).1) : CtR g l MX8_isBeat 1 [rf g p, .int (nI i), .int (nI j)] w n (.int 1) := by
  have e1 := (hR.2.2.1.2 i hi).2.1
  refine Ct.ofs (M := MX8_isBeat) (ls := [some _, some _, some _]) (by decide +kernel) (by exact (Nat.le_of_ble_eq_true rfl)) (by rfl) (by rfl) (by rfl) ?_
  refine V_iload_n (q := 1) dX8_isBeat_0 rfl rfl ?_
  refine V_iconst (q := 2) (v := nI 0) dX8_isBeat_1 rfl (by decide) ?_
  refine V_aload_n (q := 3) dX8_isBeat_2 rfl rfl rfl ?_
  refine V_iload_n (q := 4) dX8_isBeat_3 rfl rfl ?_
  refine CrX8_75 (q := 7) rfl dX8_isBeat_4 rfl (m_lengthOf h0 h1 hn hR hi) ⟨(Nat.le_of_ble_eq_true rfl), (Nat.le_of_ble_eq_true rfl)⟩ (Nat.le_of_ble_eq_true rfl) (by first | assumption | exact up_eq | exact (up_ne (by omega)).trans (by first | assumption | exact up_eq | exact (up_ne (by omega)).trans (by first | assumption | exact up_eq | exact (up_ne (by omega)).trans (by first | assumption | exact up_eq)))) (by omega) (Nat.zero_le _) (Nat.zero_le _) ?_
  refine V_iconst (q := 8) (v := nI 1) dX8_isBeat_7 rfl (by decide) ?_
  refine V_isub (q := 9) dX8_isBeat_8 rfl rfl ?_
  refine CrX8_71 (q := 12) rfl dX8_isBeat_9 rfl (c_between) ⟨(Nat.le_of_ble_eq_true rfl), (Nat.le_of_ble_eq_true rfl)⟩ (Nat.le_of_ble_eq_true rfl) (Nat.zero_le _) (Nat.zero_le _) ?_
  refine V_topi (if_pos (bet_in hj (by omega))) ?_
  exact V_zret dX8_isBeat_12 rfl (rfl) (Nat.le_of_ble_eq_true rfl) (Nat.le_of_ble_eq_true rfl) (⟨rfl, rfl, rfl⟩)
theorem m_sumOf (h0 : w p = eO 8 (rf g (p + 1) :: fs)) (h1 : w (p + 1) = eI g 63 F) (hn : p + 1 < n) (hR : RN F N) {i : Nat} (hi : i < sC N) : CtR g l MX8_sumOf 1 [rf g p, .int (nI i)] w n (.int (nI (sumN (sR N i).2 (sR N i).1))) := by
  have e1 := (hR.2.2.1.2 i hi).2.1
  refine Ct.ofs (M := MX8_sumOf) (ls := [some _, some _, none, none]) (by decide +kernel) (by exact (Nat.le_of_ble_eq_true rfl)) (by rfl) (by rfl) (by rfl) ?_
  refine V_iconst (q := 1) (v := nI 0) dX8_sumOf_0 rfl (by decide) ?_
  refine V_istore_n (q := 2) (ls' := [_, _, _, _]) dX8_sumOf_1 rfl (by decide) rfl ?_
  refine V_iconst (q := 3) (v := nI 0) dX8_sumOf_2 rfl (by decide) ?_
  refine V_istore_n (q := 4) (ls' := [_, _, _, _]) dX8_sumOf_3 rfl (by decide) rfl ?_
  refine loopU (fun k => V g l MX8_sumOf (rmd 1 0 0) (FinM g (qR (.int (nI (sumN (sR N i).2 (sR N i).1))) w n) 0 0) 4 [some (rf g p), some (.int (nI i)), some (.int (nI (sumN (sR N i).2 k))), some (.int (nI k))] [] (w) n 0 0) (sR N i).1 ?_ ?_ 0 (Nat.zero_le _)
  · skip
    refine V_iload_n (q := 5) dX8_sumOf_4 rfl rfl ?_
    refine V_aload_n (q := 6) dX8_sumOf_5 rfl rfl rfl ?_
    refine V_iload_n (q := 7) dX8_sumOf_6 rfl rfl ?_
    refine CrX8_75 (q := 10) rfl dX8_sumOf_7 rfl (m_lengthOf h0 h1 hn hR hi) ⟨(Nat.le_of_ble_eq_true rfl), (Nat.le_of_ble_eq_true rfl)⟩ (Nat.le_of_ble_eq_true rfl) (by first | assumption | exact up_eq | exact (up_ne (by omega)).trans (by first | assumption | exact up_eq | exact (up_ne (by omega)).trans (by first | assumption | exact up_eq | exact (up_ne (by omega)).trans (by first | assumption | exact up_eq)))) (by omega) (Nat.zero_le _) (Nat.zero_le _) ?_
    refine V_icmpN_ge (q := 13) (tgt := 28) dX8_sumOf_10 (by decide) rfl (by omega) (by omega) (fun _ => ?_) (fun h9 => by first | exact h9.elim | (exfalso; omega))
    refine V_iload_n (q := 29) dX8_sumOf_28 rfl rfl ?_
    exact V_iret dX8_sumOf_29 rfl (Nat.le_of_ble_eq_true rfl) (Nat.le_of_ble_eq_true rfl) (⟨rfl, rfl, rfl⟩)
  · intro k hk ih
    refine V_iload_n (q := 5) dX8_sumOf_4 rfl rfl ?_
    refine V_aload_n (q := 6) dX8_sumOf_5 rfl rfl rfl ?_
    refine V_iload_n (q := 7) dX8_sumOf_6 rfl rfl ?_
    refine CrX8_75 (q := 10) rfl dX8_sumOf_7 rfl (m_lengthOf h0 h1 hn hR hi) ⟨(Nat.le_of_ble_eq_true rfl), (Nat.le_of_ble_eq_true rfl)⟩ (Nat.le_of_ble_eq_true rfl) (by first | assumption | exact up_eq | exact (up_ne (by omega)).trans (by first | assumption | exact up_eq | exact (up_ne (by omega)).trans (by first | assumption | exact up_eq | exact (up_ne (by omega)).trans (by first | assumption | exact up_eq)))) (by omega) (Nat.zero_le _) (Nat.zero_le _) ?_
    refine V_icmpN_ge (q := 13) (tgt := 28) dX8_sumOf_10 (by decide) rfl (by omega) (by omega) (fun h9 => by first | exact h9.elim | exact absurd h9 (by assumption) | (exfalso; omega)) (fun _ => ?_)
    refine V_iload_n (q := 14) dX8_sumOf_13 rfl rfl ?_
    refine V_aload_n (q := 15) dX8_sumOf_14 rfl rfl rfl ?_
    refine V_iload_n (q := 16) dX8_sumOf_15 rfl rfl ?_
    refine V_iload_n (q := 17) dX8_sumOf_16 rfl rfl ?_
    refine CrX8_79 (q := 20) rfl dX8_sumOf_17 rfl (m_thrown h0 h1 hn hR hi hk) ⟨(Nat.le_of_ble_eq_true rfl), (Nat.le_of_ble_eq_true rfl)⟩ (Nat.le_of_ble_eq_true rfl) (by first | assumption | exact up_eq | exact (up_ne (by omega)).trans (by first | assumption | exact up_eq | exact (up_ne (by omega)).trans (by first | assumption | exact up_eq | exact (up_ne (by omega)).trans (by first | assumption | exact up_eq)))) (by omega) (Nat.zero_le _) (Nat.zero_le _) ?_
    refine V_iadd (q := 21) dX8_sumOf_20 rfl (by first | exact nI_add _ _ | rfl) ?_
    refine V_istore_n (q := 22) (ls' := [_, _, _, _]) dX8_sumOf_21 rfl (by decide) rfl ?_
    refine V_iinc (q := 25) (ls' := [_, _, _, _]) dX8_sumOf_22 rfl (by decide) rfl (by first | exact inc1 _ | rfl) rfl ?_
    refine V_goto (tgt := 4) dX8_sumOf_25 (by decide) ?_
    exact ih
/-- the lowest beat that clashes, -1 for none -/
noncomputable def mclI (h : Nat → Nat) (L : Nat) : Int32 := if clN h L = L then -1 else nI (clN h L)
theorem m_clashOf (h0 : w p = eO 8 (rf g (p + 1) :: fs)) (h1 : w (p + 1) = eI g 63 F) (hn : p + 1 < n) (hR : RN F N) {i : Nat} (hi : i < sC N) : CtR g l MX8_clashOf 1 [rf g p, .int (nI i)] w n (.int (mclI (sR N i).2 (sR N i).1)) := by
  obtain ⟨e0, e1, e2⟩ := hR.2.2.1.2 i hi
  refine Ct.ofs (M := MX8_clashOf) (ls := [some _, some _, none, none, none]) (by decide +kernel) (by exact (Nat.le_of_ble_eq_true rfl)) (by rfl) (by rfl) (by rfl) ?_
  refine V_aload_n (q := 1) dX8_clashOf_0 rfl rfl rfl ?_
  refine V_iload_n (q := 2) dX8_clashOf_1 rfl rfl ?_
  refine CrX8_75 (q := 5) rfl dX8_clashOf_2 rfl (m_lengthOf h0 h1 hn hR hi) ⟨(Nat.le_of_ble_eq_true rfl), (Nat.le_of_ble_eq_true rfl)⟩ (Nat.le_of_ble_eq_true rfl) (by first | assumption | exact up_eq | exact (up_ne (by omega)).trans (by first | assumption | exact up_eq | exact (up_ne (by omega)).trans (by first | assumption | exact up_eq | exact (up_ne (by omega)).trans (by first | assumption | exact up_eq)))) (by omega) (Nat.zero_le _) (Nat.zero_le _) ?_
  refine V_istore_n (q := 6) (ls' := [_, _, _, _, _]) dX8_clashOf_5 rfl (by decide) rfl ?_
  refine V_iconst (q := 7) (v := nI 0) dX8_clashOf_6 rfl (by decide) ?_
  refine V_istore_n (q := 8) (ls' := [_, _, _, _, _]) dX8_clashOf_7 rfl (by decide) rfl ?_
  have out : ∀ a, a ≤ (sR N i).1 → (∀ k, k < a → ¬ ClN (sR N i).2 (sR N i).1 k) → V g l MX8_clashOf (rmd 1 0 0) (FinM g (qR (.int (mclI (sR N i).2 (sR N i).1)) w n) 0 0) 8 [some (rf g p), some (.int (nI i)), some (.int (nI (sR N i).1)), some (.int (nI a)), none] [] (w) n 0 0 := by
    refine loopU (fun a => (∀ k, k < a → ¬ ClN (sR N i).2 (sR N i).1 k) → V g l MX8_clashOf (rmd 1 0 0) (FinM g (qR (.int (mclI (sR N i).2 (sR N i).1)) w n) 0 0) 8 [some (rf g p), some (.int (nI i)), some (.int (nI (sR N i).1)), some (.int (nI a)), none] [] (w) n 0 0) (sR N i).1 ?_ ?_
    · intro hno
      refine V_iload_n (q := 9) dX8_clashOf_8 rfl rfl ?_
      refine V_iload_n (q := 10) dX8_clashOf_9 rfl rfl ?_
      refine V_icmpN_ge (q := 13) (tgt := 63) dX8_clashOf_10 (by decide) rfl (by omega) (by omega) (fun _ => ?_) (fun h9 => by first | exact h9.elim | (exfalso; omega))
      refine V_iconst (q := 64) (v := (-1)) dX8_clashOf_63 rfl (by decide) ?_
      exact V_iret dX8_clashOf_64 rfl (Nat.le_of_ble_eq_true rfl) (Nat.le_of_ble_eq_true rfl) (⟨rfl, by rw [mclI, if_pos (clN_none hno)], rfl⟩)
    · intro a ha ih hno
      have ha9 := e2 a ha
      refine V_iload_n (q := 9) dX8_clashOf_8 rfl rfl ?_
      refine V_iload_n (q := 10) dX8_clashOf_9 rfl rfl ?_
      refine V_icmpN_ge (q := 13) (tgt := 63) dX8_clashOf_10 (by decide) rfl (by omega) (by omega) (fun h9 => by first | exact h9.elim | exact absurd h9 (by assumption) | (exfalso; omega)) (fun _ => ?_)
      refine V_iload_n (q := 14) dX8_clashOf_13 rfl rfl ?_
      refine V_iconst (q := 15) (v := nI 1) dX8_clashOf_14 rfl (by decide) ?_
      refine V_iadd (q := 16) dX8_clashOf_15 rfl (by first | exact nI_add _ _ | rfl) ?_
      refine V_istore (q := 18) (ls' := [_, _, _, _, _]) dX8_clashOf_16 rfl (by decide) rfl ?_
      refine loopU (fun q => (∀ k, a < k → k < q → landN (sR N i).2 (sR N i).1 a ≠ landN (sR N i).2 (sR N i).1 k) → a < q → V g l MX8_clashOf (rmd 1 0 0) (FinM g (qR (.int (mclI (sR N i).2 (sR N i).1)) w n) 0 0) 18 [some (rf g p), some (.int (nI i)), some (.int (nI (sR N i).1)), some (.int (nI a)), some (.int (nI q))] [] (w) n 0 0) (sR N i).1 ?_ ?_ (a + 1) ha (fun k h1 h2 => absurd h1 (by omega)) (Nat.lt_succ_self a)
      · intro hq hlt
        refine V_iload (q := 20) dX8_clashOf_18 rfl rfl ?_
        refine V_iload_n (q := 21) dX8_clashOf_20 rfl rfl ?_
        refine V_icmpN_ge (q := 24) (tgt := 57) dX8_clashOf_21 (by decide) rfl (by omega) (by omega) (fun _ => ?_) (fun h9 => by first | exact h9.elim | (exfalso; omega))
        refine V_iinc (q := 60) (ls' := [_, _, _, _, _]) dX8_clashOf_57 rfl (by decide) rfl (by first | exact inc1 _ | rfl) rfl ?_
        refine V_goto (tgt := 8) dX8_clashOf_60 (by decide) ?_
        refine V_fg 4 (ls2 := [_, _, _, _, none]) (by rfl) ?_
        refine ih (fun k hk => ?_)
        by_cases e : k = a
        · rw [e]
          rintro ⟨j, j1, j2, j3⟩
          exact hq j j2 j1 j3
        · exact hno k (by omega)
      · intro q hq ih2 hqn hlt
        have hq9 := e2 q hq
        refine V_iload (q := 20) dX8_clashOf_18 rfl rfl ?_
        refine V_iload_n (q := 21) dX8_clashOf_20 rfl rfl ?_
        refine V_icmpN_ge (q := 24) (tgt := 57) dX8_clashOf_21 (by decide) rfl (by omega) (by omega) (fun h9 => by first | exact h9.elim | exact absurd h9 (by assumption) | (exfalso; omega)) (fun _ => ?_)
        refine V_iload_n (q := 25) dX8_clashOf_24 rfl rfl ?_
        refine V_aload_n (q := 26) dX8_clashOf_25 rfl rfl rfl ?_
        refine V_iload_n (q := 27) dX8_clashOf_26 rfl rfl ?_
        refine V_iload_n (q := 28) dX8_clashOf_27 rfl rfl ?_
        refine CrX8_79 (q := 31) rfl dX8_clashOf_28 rfl (m_thrown h0 h1 hn hR hi ha) ⟨(Nat.le_of_ble_eq_true rfl), (Nat.le_of_ble_eq_true rfl)⟩ (Nat.le_of_ble_eq_true rfl) (by first | assumption | exact up_eq | exact (up_ne (by omega)).trans (by first | assumption | exact up_eq | exact (up_ne (by omega)).trans (by first | assumption | exact up_eq | exact (up_ne (by omega)).trans (by first | assumption | exact up_eq)))) (by omega) (Nat.zero_le _) (Nat.zero_le _) ?_
        refine V_iadd (q := 32) dX8_clashOf_31 rfl (by first | exact nI_add _ _ | rfl) ?_
        refine V_iload_n (q := 33) dX8_clashOf_32 rfl rfl ?_
        refine V_irem (q := 34) dX8_clashOf_33 rfl (nI_ne0 (by omega) (by omega)) (by first | exact pk_rem (by omega) (by omega) (by omega) | rfl) ?_
        refine V_iload (q := 36) dX8_clashOf_34 rfl rfl ?_
        refine V_aload_n (q := 37) dX8_clashOf_36 rfl rfl rfl ?_
        refine V_iload_n (q := 38) dX8_clashOf_37 rfl rfl ?_
        refine V_iload (q := 40) dX8_clashOf_38 rfl rfl ?_
        refine CrX8_79 (q := 43) rfl dX8_clashOf_40 rfl (m_thrown h0 h1 hn hR hi hq) ⟨(Nat.le_of_ble_eq_true rfl), (Nat.le_of_ble_eq_true rfl)⟩ (Nat.le_of_ble_eq_true rfl) (by first | assumption | exact up_eq | exact (up_ne (by omega)).trans (by first | assumption | exact up_eq | exact (up_ne (by omega)).trans (by first | assumption | exact up_eq | exact (up_ne (by omega)).trans (by first | assumption | exact up_eq)))) (by omega) (Nat.zero_le _) (Nat.zero_le _) ?_
        refine V_iadd (q := 44) dX8_clashOf_43 rfl (by first | exact nI_add _ _ | rfl) ?_
        refine V_iload_n (q := 45) dX8_clashOf_44 rfl rfl ?_
        refine V_irem (q := 46) dX8_clashOf_45 rfl (nI_ne0 (by omega) (by omega)) (by first | exact pk_rem (by omega) (by omega) (by omega) | rfl) ?_
        have l1 : (a + (sR N i).2 a) % (sR N i).1 < (sR N i).1 := Nat.mod_lt _ e0
        have l2 : (q + (sR N i).2 q) % (sR N i).1 < (sR N i).1 := Nat.mod_lt _ e0
        refine V_icmpN_ne (q := 49) (tgt := 51) dX8_clashOf_46 (by decide) rfl (by omega) (by omega) (fun hl => ?_) (fun hl => ?_)
        · skip
          refine V_iinc (q := 54) (ls' := [_, _, _, _, _]) dX8_clashOf_51 rfl (by decide) rfl (by first | exact inc1 _ | rfl) rfl ?_
          refine V_goto (tgt := 18) dX8_clashOf_54 (by decide) ?_
          refine ih2 (fun k a1 a2 => ?_) (by omega)
          by_cases e : k = q
          · rw [e]; exact hl
          · exact hqn k a1 (by omega)
        · skip
          have hca : ClN (sR N i).2 (sR N i).1 a := ⟨q, hq, hlt, hl⟩
          have hcc := clN_is ha hca hno
          refine V_iload_n (q := 50) dX8_clashOf_49 rfl rfl ?_
          exact V_iret dX8_clashOf_50 rfl (Nat.le_of_ble_eq_true rfl) (Nat.le_of_ble_eq_true rfl) (⟨rfl, by rw [mclI, if_neg (by omega), hcc], rfl⟩)
  exact out 0 (Nat.zero_le _) (fun k hk => absurd hk (Nat.not_lt_zero k))
noncomputable def mbaI (h : Nat → Nat) (L : Nat) : Int32 := if clN h L = L then nI (sumN h L / L) else -1
theorem mcl_yes {h : Nat → Nat} {L : Nat} (hc : clN h L = L) : mclI h L = -1 := if_pos hc
theorem mcl_no {h : Nat → Nat} {L : Nat} (hc : ¬ clN h L = L) : mclI h L = nI (clN h L) := if_neg hc
theorem m_ballsOf (h0 : w p = eO 8 (rf g (p + 1) :: fs)) (h1 : w (p + 1) = eI g 63 F) (hn : p + 1 < n) (hR : RN F N) {i : Nat} (hi : i < sC N) : CtR g l MX8_ballsOf 2 [rf g p, .int (nI i)] w n (.int (mbaI (sR N i).2 (sR N i).1)) := by
  obtain ⟨e0, e1, e2⟩ := hR.2.2.1.2 i hi
  have hcn := clN_le (sR N i).2 (sR N i).1
  have hsm := sumN_le e2
  unfold mbaI
  refine Ct.ofs (M := MX8_ballsOf) (ls := [some _, some _]) (by decide +kernel) (by exact (Nat.le_of_ble_eq_true rfl)) (by rfl) (by rfl) (by rfl) ?_
  refine V_aload_n (q := 1) dX8_ballsOf_0 rfl rfl rfl ?_
  refine V_iload_n (q := 2) dX8_ballsOf_1 rfl rfl ?_
  refine CrX8_83 (q := 5) rfl dX8_ballsOf_2 rfl (m_clashOf h0 h1 hn hR hi) ⟨(Nat.le_of_ble_eq_true rfl), (Nat.le_of_ble_eq_true rfl)⟩ (Nat.le_of_ble_eq_true rfl) (by first | assumption | exact up_eq | exact (up_ne (by omega)).trans (by first | assumption | exact up_eq | exact (up_ne (by omega)).trans (by first | assumption | exact up_eq | exact (up_ne (by omega)).trans (by first | assumption | exact up_eq)))) (by omega) (Nat.zero_le _) (Nat.zero_le _) ?_
  by_cases hc : clN (sR N i).2 (sR N i).1 = (sR N i).1
  · skip
    refine V_topi (mcl_yes hc) ?_
    rw [if_pos hc]
    refine V_if_lt (q := 8) (tgt := 12) dX8_ballsOf_5 (by decide) rfl (fun _ => ?_) (fun h9 => absurd (by decide) h9)
    refine V_aload_n (q := 13) dX8_ballsOf_12 rfl rfl rfl ?_
    refine V_iload_n (q := 14) dX8_ballsOf_13 rfl rfl ?_
    refine CrX8_86 (q := 17) rfl dX8_ballsOf_14 rfl (m_sumOf h0 h1 hn hR hi) ⟨(Nat.le_of_ble_eq_true rfl), (Nat.le_of_ble_eq_true rfl)⟩ (Nat.le_of_ble_eq_true rfl) (by first | assumption | exact up_eq | exact (up_ne (by omega)).trans (by first | assumption | exact up_eq | exact (up_ne (by omega)).trans (by first | assumption | exact up_eq | exact (up_ne (by omega)).trans (by first | assumption | exact up_eq)))) (by omega) (Nat.zero_le _) (Nat.zero_le _) ?_
    refine V_aload_n (q := 18) dX8_ballsOf_17 rfl rfl rfl ?_
    refine V_iload_n (q := 19) dX8_ballsOf_18 rfl rfl ?_
    refine CrX8_75 (q := 22) rfl dX8_ballsOf_19 rfl (m_lengthOf h0 h1 hn hR hi) ⟨(Nat.le_of_ble_eq_true rfl), (Nat.le_of_ble_eq_true rfl)⟩ (Nat.le_of_ble_eq_true rfl) (by first | assumption | exact up_eq | exact (up_ne (by omega)).trans (by first | assumption | exact up_eq | exact (up_ne (by omega)).trans (by first | assumption | exact up_eq | exact (up_ne (by omega)).trans (by first | assumption | exact up_eq)))) (by omega) (Nat.zero_le _) (Nat.zero_le _) ?_
    refine V_idiv (q := 23) dX8_ballsOf_22 rfl (nI_ne0 (by omega) (by omega)) (by first | exact pk_div (by omega) (by omega) (by omega) | rfl) ?_
    exact V_iret dX8_ballsOf_23 rfl (Nat.le_of_ble_eq_true rfl) (Nat.le_of_ble_eq_true rfl) (⟨rfl, rfl, rfl⟩)
  · skip
    refine V_topi (mcl_no hc) ?_
    rw [if_neg hc]
    refine V_ifN_lt (q := 8) (tgt := 12) dX8_ballsOf_5 (by decide) rfl (by omega) (fun h9 => by first | exact h9.elim | exact absurd h9 (by assumption) | (exfalso; omega)) (fun _ => ?_)
    refine V_iconst (q := 9) (v := (-1)) dX8_ballsOf_8 rfl (by decide) ?_
    refine V_goto (tgt := 23) dX8_ballsOf_9 (by decide) ?_
    exact V_iret dX8_ballsOf_23 rfl (Nat.le_of_ble_eq_true rfl) (Nat.le_of_ble_eq_true rfl) (⟨rfl, rfl, rfl⟩)
theorem m_behind {s h : Nat} (hs : s < 512) (hh : h ≤ 9) : CtR g l MX8_behind 0 [.int (nI s), .int (nI h)] w n (.int (nI (behN s h))) := by
  refine Ct.ofs (M := MX8_behind) (ls := [some _, some _]) (by decide +kernel) (by exact (Nat.le_of_ble_eq_true rfl)) (by rfl) (by rfl) (by rfl) ?_
  refine V_iload_n (q := 1) dX8_behind_0 rfl rfl ?_
  refine V_iconst (q := 2) (v := nI 1) dX8_behind_1 rfl (by decide) ?_
  refine V_ishr (q := 3) dX8_behind_2 rfl (shr1 (by omega) (by omega)) ?_
  refine V_iload_n (q := 4) dX8_behind_3 rfl rfl ?_
  refine V_ifN_ne (q := 7) (tgt := 11) dX8_behind_4 (by decide) rfl (by omega) (fun hc => ?_) (fun hc => ?_)
  · skip
    rw [behN, if_neg hc]
    refine V_iconst (q := 12) (v := nI 1) dX8_behind_11 rfl (by decide) ?_
    refine V_iload_n (q := 13) dX8_behind_12 rfl rfl ?_
    refine V_iconst (q := 14) (v := nI 1) dX8_behind_13 rfl (by decide) ?_
    refine V_isub (q := 15) dX8_behind_14 rfl (by first | exact pk_sub (by omega) | rfl) ?_
    refine V_ishl (q := 16) dX8_behind_15 rfl (shl1 (by omega)) ?_
    refine V_ior (q := 17) dX8_behind_16 rfl (by first | exact fa_or _ _ | rfl) ?_
    exact V_iret dX8_behind_17 rfl (Nat.le_of_ble_eq_true rfl) (Nat.le_of_ble_eq_true rfl) (⟨rfl, rfl, rfl⟩)
  · skip
    rw [behN, if_pos hc]
    refine V_iconst (q := 8) (v := nI 0) dX8_behind_7 rfl (by decide) ?_
    refine V_goto (tgt := 16) dX8_behind_8 (by decide) ?_
    refine V_ior (q := 17) dX8_behind_16 rfl (by first | exact fa_or _ _ | rfl) ?_
    exact V_iret dX8_behind_17 rfl (Nat.le_of_ble_eq_true rfl) (Nat.le_of_ble_eq_true rfl) (⟨rfl, by rw [Nat.or_zero, Nat.pow_one], rfl⟩)
theorem and1 (s : Nat) : nI s &&& nI 1 = nI (s % 2) := (fa_and s 1).trans (congrArg nI (Nat.and_one_is_mod s))
theorem bit_div : ∀ s, s < 512 → ∀ h, h < 10 → (s / 2 ^ h % 2 = 0 ↔ s &&& 2 ^ h = 0) := by decide +kernel
theorem m_can {s h : Nat} (hs : s < 512) (hh : h ≤ 9) : CtR g l MX8_can 0 [.int (nI s), .int (nI h)] w n (.int (@ite _ (canN s h) (Classical.propDecidable _) 1 0)) := by
  refine Ct.ofs (M := MX8_can) (ls := [some _, some _]) (by decide +kernel) (by exact (Nat.le_of_ble_eq_true rfl)) (by rfl) (by rfl) (by rfl) ?_
  refine V_iload_n (q := 1) dX8_can_0 rfl rfl ?_
  refine V_ifN_ne (q := 4) (tgt := 16) dX8_can_1 (by decide) rfl (by omega) (fun hc => ?_) (fun hc => ?_)
  · skip
    refine V_iload_n (q := 17) dX8_can_16 rfl rfl ?_
    refine V_iconst (q := 18) (v := nI 1) dX8_can_17 rfl (by decide) ?_
    refine V_iand (q := 19) dX8_can_18 rfl (and1 s) ?_
    refine V_iconst (q := 20) (v := nI 1) dX8_can_19 rfl (by decide) ?_
    refine V_icmpN_ne (q := 23) (tgt := 35) dX8_can_20 (by decide) rfl (by omega) (by omega) (fun h2 => ?_) (fun h2 => ?_)
    · skip
      rw [if_neg (fun q => by rw [canN, if_neg hc] at q; omega)]
      refine V_iconst (q := 36) (v := nI 0) dX8_can_35 rfl (by decide) ?_
      exact V_zret dX8_can_36 rfl (rfl) (Nat.le_of_ble_eq_true rfl) (Nat.le_of_ble_eq_true rfl) (⟨rfl, rfl, rfl⟩)
    · skip
      have hd : s / 2 ^ h ≤ s := Nat.div_le_self _ _
      refine V_iload_n (q := 24) dX8_can_23 rfl rfl ?_
      refine V_iload_n (q := 25) dX8_can_24 rfl rfl ?_
      refine V_ishr (q := 26) dX8_can_25 rfl (shr1 (by omega) (by omega)) ?_
      refine V_iconst (q := 27) (v := nI 1) dX8_can_26 rfl (by decide) ?_
      refine V_iand (q := 28) dX8_can_27 rfl (and1 _) ?_
      refine V_ifN_ne (q := 31) (tgt := 35) dX8_can_28 (by decide) rfl (by omega) (fun h3 => ?_) (fun h3 => ?_)
      · skip
        rw [if_neg (fun q => by rw [canN, if_neg hc] at q; exact h3 ((bit_div s hs h (by omega)).mpr q.2))]
        refine V_iconst (q := 36) (v := nI 0) dX8_can_35 rfl (by decide) ?_
        exact V_zret dX8_can_36 rfl (rfl) (Nat.le_of_ble_eq_true rfl) (Nat.le_of_ble_eq_true rfl) (⟨rfl, rfl, rfl⟩)
      · skip
        rw [if_pos (by rw [canN, if_neg hc]; exact ⟨h2, (bit_div s hs h (by omega)).mp h3⟩)]
        refine V_iconst (q := 32) (v := nI 1) dX8_can_31 rfl (by decide) ?_
        refine V_goto (tgt := 36) dX8_can_32 (by decide) ?_
        exact V_zret dX8_can_36 rfl (rfl) (Nat.le_of_ble_eq_true rfl) (Nat.le_of_ble_eq_true rfl) (⟨rfl, rfl, rfl⟩)
  · skip
    refine V_iload_n (q := 5) dX8_can_4 rfl rfl ?_
    refine V_iconst (q := 6) (v := nI 1) dX8_can_5 rfl (by decide) ?_
    refine V_iand (q := 7) dX8_can_6 rfl (and1 s) ?_
    refine V_ifN_ne (q := 10) (tgt := 14) dX8_can_7 (by decide) rfl (by omega) (fun h2 => ?_) (fun h2 => ?_)
    · skip
      rw [if_neg (fun q => by rw [canN, if_pos hc] at q; omega)]
      refine V_iconst (q := 15) (v := nI 0) dX8_can_14 rfl (by decide) ?_
      exact V_zret dX8_can_15 rfl (rfl) (Nat.le_of_ble_eq_true rfl) (Nat.le_of_ble_eq_true rfl) (⟨rfl, rfl, rfl⟩)
    · skip
      rw [if_pos (by rw [canN, if_pos hc]; exact h2)]
      refine V_iconst (q := 11) (v := nI 1) dX8_can_10 rfl (by decide) ?_
      refine V_goto (tgt := 15) dX8_can_11 (by decide) ?_
      exact V_zret dX8_can_15 rfl (rfl) (Nat.le_of_ble_eq_true rfl) (Nat.le_of_ble_eq_true rfl) (⟨rfl, rfl, rfl⟩)
end MR
