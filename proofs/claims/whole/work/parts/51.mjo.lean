/-! the model: join, once -/
theorem thrA_B (N : StT) (f : Nat → Nat) : ∀ q, sB (thrA N f q) = sB N + q
  | 0 => rfl
  | q + 1 => by
    show sB (thrA N f q) + 1 = _
    rw [thrA_B N f q]
    omega
theorem mba_ball {h : Nat → Nat} {L b : Nat} (hb : b < 2 ^ 31) : mbaI h L = nI b ↔ ballI h L = nI b := by
  unfold mbaI ballI
  by_cases hc : clN h L = L
  · rw [if_pos hc, if_pos hc]
  · rw [if_neg hc, if_neg hc]
    exact ⟨fun e => absurd e.symm (nI_m1 hb), fun e => absurd e.symm (nI_m4 hb)⟩
section MO
variable {g : GG} {l : Launch} {w : HW} {n p : Nat} {K : MS} {F Fs Fb : Nat → Int32} {pk : Nat} {Hs : Nat → StT} {C T : Nat → Int32} {N : StT}
theorem m_isNotFor (h : MBd g w n p K F Fs Fb pk Hs C T) (hR : RN F N) {i : Nat} (hi : i < sC N) : CtI g l MX8_isNotFor 3 [rf g p, .int (nI i)] w n (fun y w' => (outA N (sR N i) = none ∧ y = 0 ∧ w' = w) ∨ (∃ q, outA N (sR N i) = some q ∧ y = 1 ∧ MOP g w n p K Fs Fb pk Hs C T N (-3, N, some q) (-3) w')) := by
  have hX := h
  obtain ⟨h0, h1, -, -, -, -, -, -, hn, -⟩ := h
  have hpn : p + 1 < n := by omega
  obtain ⟨i0, i1, i2⟩ := hR.2.2.1.2 i hi
  obtain ⟨f0, f1, f2, f3, f4, f5, f6, f7, f8⟩ := id hR.1
  have hpl := popc0 (s := sS N)
  have hcn := clN_le (sR N i).2 (sR N i).1
  have hd := divL_le i0 i2
  unfold outA
  refine Ct.ofs (M := MX8_isNotFor) (ls := [some _, some _]) (by decide +kernel) (by exact (Nat.le_of_ble_eq_true rfl)) (by rfl) (by rfl) (by rfl) ?_
  refine V_aload_n (q := 1) dX8_isNotFor_0 rfl rfl rfl ?_
  refine V_aload_n (q := 2) dX8_isNotFor_1 rfl rfl rfl ?_
  refine GX8_9 (q := 5) rfl dX8_isNotFor_2 rfl (by first | assumption | exact up_eq | exact (up_ne (by omega)).trans (by first | assumption | exact up_eq | exact (up_ne (by omega)).trans (by first | assumption | exact up_eq | exact (up_ne (by omega)).trans (by first | assumption | exact up_eq)))) (by omega) (by rfl) ?_
  refine V_iconst (q := 6) (v := nI 2) dX8_isNotFor_5 rfl (by decide) ?_
  refine V_ialdN (q := 7) dX8_isNotFor_6 rfl (by first | assumption | exact up_eq | exact (up_ne (by omega)).trans (by first | assumption | exact up_eq | exact (up_ne (by omega)).trans (by first | assumption | exact up_eq | exact (up_ne (by omega)).trans (by first | assumption | exact up_eq)))) (by omega) (by omega) (by omega) rfl f2 ?_
  refine V_ifN_ne (q := 10) (tgt := 14) dX8_isNotFor_7 (by decide) rfl (by omega) (fun q0 => ?_) (fun q0 => ?_)
  · skip
    rw [if_neg q0]
    refine V_iconst (q := 15) (v := nI 0) dX8_isNotFor_14 rfl (by decide) ?_
    refine V_bipush (q := 17) (v := nI 6) dX8_isNotFor_15 rfl (by decide) ?_
    refine V_aload_n (q := 18) dX8_isNotFor_17 rfl rfl rfl ?_
    refine GX8_9 (q := 21) rfl dX8_isNotFor_18 rfl (by first | assumption | exact up_eq | exact (up_ne (by omega)).trans (by first | assumption | exact up_eq | exact (up_ne (by omega)).trans (by first | assumption | exact up_eq | exact (up_ne (by omega)).trans (by first | assumption | exact up_eq)))) (by omega) (by rfl) ?_
    refine V_iconst (q := 22) (v := nI 3) dX8_isNotFor_21 rfl (by decide) ?_
    refine V_ialdN (q := 23) dX8_isNotFor_22 rfl (by first | assumption | exact up_eq | exact (up_ne (by omega)).trans (by first | assumption | exact up_eq | exact (up_ne (by omega)).trans (by first | assumption | exact up_eq | exact (up_ne (by omega)).trans (by first | assumption | exact up_eq)))) (by omega) (by omega) (by omega) rfl f3 ?_
    refine CiX8_112 (q := 26) rfl dX8_isNotFor_23 rfl (m_refuse_no (by omega)) ⟨(Nat.le_of_ble_eq_true rfl), (Nat.le_of_ble_eq_true rfl)⟩ (Nat.le_of_ble_eq_true rfl) (by first | assumption | exact up_eq | exact (up_ne (by omega)).trans (by first | assumption | exact up_eq | exact (up_ne (by omega)).trans (by first | assumption | exact up_eq | exact (up_ne (by omega)).trans (by first | assumption | exact up_eq)))) (by omega) (Nat.zero_le _) (Nat.zero_le _) (fun u wr hwr => ?_)
    obtain ⟨rfl, rfl⟩ := hwr
    refine V_if_ne (q := 29) (tgt := 87) dX8_isNotFor_26 (by decide) rfl (fun h9 => absurd rfl h9) (fun _ => ?_)
    refine V_aload_n (q := 30) dX8_isNotFor_29 rfl rfl rfl ?_
    refine V_aload_n (q := 31) dX8_isNotFor_30 rfl rfl rfl ?_
    refine V_iload_n (q := 32) dX8_isNotFor_31 rfl rfl ?_
    refine CrX8_83 (q := 35) rfl dX8_isNotFor_32 rfl (m_clashOf h0 h1 hpn hR hi) ⟨(Nat.le_of_ble_eq_true rfl), (Nat.le_of_ble_eq_true rfl)⟩ (Nat.le_of_ble_eq_true rfl) (by first | assumption | exact up_eq | exact (up_ne (by omega)).trans (by first | assumption | exact up_eq | exact (up_ne (by omega)).trans (by first | assumption | exact up_eq | exact (up_ne (by omega)).trans (by first | assumption | exact up_eq)))) (by omega) (Nat.zero_le _) (Nat.zero_le _) ?_
    by_cases hcl : clN (sR N i).2 (sR N i).1 = (sR N i).1
    · rw [if_pos hcl]
      refine V_topi (mcl_yes hcl) ?_
      refine V_if_lt (q := 38) (tgt := 42) dX8_isNotFor_35 (by decide) rfl (fun _ => ?_) (fun h9 => absurd (by decide) h9)
      refine V_iconst (q := 43) (v := nI 0) dX8_isNotFor_42 rfl (by decide) ?_
      refine V_iconst (q := 44) (v := nI 3) dX8_isNotFor_43 rfl (by decide) ?_
      refine V_aload_n (q := 45) dX8_isNotFor_44 rfl rfl rfl ?_
      refine V_iload_n (q := 46) dX8_isNotFor_45 rfl rfl ?_
      refine CrX8_83 (q := 49) rfl dX8_isNotFor_46 rfl (m_clashOf h0 h1 hpn hR hi) ⟨(Nat.le_of_ble_eq_true rfl), (Nat.le_of_ble_eq_true rfl)⟩ (Nat.le_of_ble_eq_true rfl) (by first | assumption | exact up_eq | exact (up_ne (by omega)).trans (by first | assumption | exact up_eq | exact (up_ne (by omega)).trans (by first | assumption | exact up_eq | exact (up_ne (by omega)).trans (by first | assumption | exact up_eq)))) (by omega) (Nat.zero_le _) (Nat.zero_le _) ?_
      refine CiX8_112 (q := 52) rfl dX8_isNotFor_49 rfl (m_refuse_no (by omega)) ⟨(Nat.le_of_ble_eq_true rfl), (Nat.le_of_ble_eq_true rfl)⟩ (Nat.le_of_ble_eq_true rfl) (by first | assumption | exact up_eq | exact (up_ne (by omega)).trans (by first | assumption | exact up_eq | exact (up_ne (by omega)).trans (by first | assumption | exact up_eq | exact (up_ne (by omega)).trans (by first | assumption | exact up_eq)))) (by omega) (Nat.zero_le _) (Nat.zero_le _) (fun u wr2 hwr2 => ?_)
      obtain ⟨rfl, rfl⟩ := hwr2
      refine V_if_ne (q := 55) (tgt := 87) dX8_isNotFor_52 (by decide) rfl (fun h9 => absurd rfl h9) (fun _ => ?_)
      refine V_aload_n (q := 56) dX8_isNotFor_55 rfl rfl rfl ?_
      refine V_aload_n (q := 57) dX8_isNotFor_56 rfl rfl rfl ?_
      refine V_iload_n (q := 58) dX8_isNotFor_57 rfl rfl ?_
      refine CrX8_103 (q := 61) rfl dX8_isNotFor_58 rfl (m_ballsOf h0 h1 hpn hR hi) ⟨(Nat.le_of_ble_eq_true rfl), (Nat.le_of_ble_eq_true rfl)⟩ (Nat.le_of_ble_eq_true rfl) (by first | assumption | exact up_eq | exact (up_ne (by omega)).trans (by first | assumption | exact up_eq | exact (up_ne (by omega)).trans (by first | assumption | exact up_eq | exact (up_ne (by omega)).trans (by first | assumption | exact up_eq)))) (by omega) (Nat.zero_le _) (Nat.zero_le _) ?_
      refine V_topi (show mbaI (sR N i).2 (sR N i).1 = nI (sumN (sR N i).2 (sR N i).1 / (sR N i).1) from if_pos hcl) ?_
      refine V_aload_n (q := 62) dX8_isNotFor_61 rfl rfl rfl ?_
      refine GX8_9 (q := 65) rfl dX8_isNotFor_62 rfl (by first | assumption | exact up_eq | exact (up_ne (by omega)).trans (by first | assumption | exact up_eq | exact (up_ne (by omega)).trans (by first | assumption | exact up_eq | exact (up_ne (by omega)).trans (by first | assumption | exact up_eq)))) (by omega) (by rfl) ?_
      refine V_iconst (q := 66) (v := nI 2) dX8_isNotFor_65 rfl (by decide) ?_
      refine V_ialdN (q := 67) dX8_isNotFor_66 rfl (by first | assumption | exact up_eq | exact (up_ne (by omega)).trans (by first | assumption | exact up_eq | exact (up_ne (by omega)).trans (by first | assumption | exact up_eq | exact (up_ne (by omega)).trans (by first | assumption | exact up_eq)))) (by omega) (by omega) (by omega) rfl f2 ?_
      refine V_icmpN_eq (q := 70) (tgt := 74) dX8_isNotFor_67 (by decide) rfl (by omega) (by omega) (fun q5 => ?_) (fun q5 => ?_)
      · skip
        rw [if_pos q5]
        refine V_iconst (q := 75) (v := nI 0) dX8_isNotFor_74 rfl (by decide) ?_
        refine V_iconst (q := 76) (v := nI 5) dX8_isNotFor_75 rfl (by decide) ?_
        refine V_aload_n (q := 77) dX8_isNotFor_76 rfl rfl rfl ?_
        refine V_iload_n (q := 78) dX8_isNotFor_77 rfl rfl ?_
        refine CrX8_103 (q := 81) rfl dX8_isNotFor_78 rfl (m_ballsOf h0 h1 hpn hR hi) ⟨(Nat.le_of_ble_eq_true rfl), (Nat.le_of_ble_eq_true rfl)⟩ (Nat.le_of_ble_eq_true rfl) (by first | assumption | exact up_eq | exact (up_ne (by omega)).trans (by first | assumption | exact up_eq | exact (up_ne (by omega)).trans (by first | assumption | exact up_eq | exact (up_ne (by omega)).trans (by first | assumption | exact up_eq)))) (by omega) (Nat.zero_le _) (Nat.zero_le _) ?_
        refine CiX8_112 (q := 84) rfl dX8_isNotFor_81 rfl (m_refuse_no (by omega)) ⟨(Nat.le_of_ble_eq_true rfl), (Nat.le_of_ble_eq_true rfl)⟩ (Nat.le_of_ble_eq_true rfl) (by first | assumption | exact up_eq | exact (up_ne (by omega)).trans (by first | assumption | exact up_eq | exact (up_ne (by omega)).trans (by first | assumption | exact up_eq | exact (up_ne (by omega)).trans (by first | assumption | exact up_eq)))) (by omega) (Nat.zero_le _) (Nat.zero_le _) (fun u wr3 hwr3 => ?_)
        obtain ⟨rfl, rfl⟩ := hwr3
        refine V_if_eq (q := 87) (tgt := 91) dX8_isNotFor_84 (by decide) rfl (fun _ => ?_) (fun h9 => absurd rfl h9)
        refine V_iconst (q := 92) (v := nI 0) dX8_isNotFor_91 rfl (by decide) ?_
        exact V_zret dX8_isNotFor_92 rfl (rfl) (Nat.le_of_ble_eq_true rfl) (Nat.le_of_ble_eq_true rfl) (⟨rfl, _, rfl, Or.inl ⟨rfl, rfl, rfl⟩⟩)
      · skip
        rw [if_neg q5]
        refine V_iconst (q := 71) (v := nI 1) dX8_isNotFor_70 rfl (by decide) ?_
        refine V_goto (tgt := 75) dX8_isNotFor_71 (by decide) ?_
        refine V_iconst (q := 76) (v := nI 5) dX8_isNotFor_75 rfl (by decide) ?_
        refine V_aload_n (q := 77) dX8_isNotFor_76 rfl rfl rfl ?_
        refine V_iload_n (q := 78) dX8_isNotFor_77 rfl rfl ?_
        refine CrX8_103 (q := 81) rfl dX8_isNotFor_78 rfl (m_ballsOf h0 h1 hpn hR hi) ⟨(Nat.le_of_ble_eq_true rfl), (Nat.le_of_ble_eq_true rfl)⟩ (Nat.le_of_ble_eq_true rfl) (by first | assumption | exact up_eq | exact (up_ne (by omega)).trans (by first | assumption | exact up_eq | exact (up_ne (by omega)).trans (by first | assumption | exact up_eq | exact (up_ne (by omega)).trans (by first | assumption | exact up_eq)))) (by omega) (Nat.zero_le _) (Nat.zero_le _) ?_
        refine V_topi (show mbaI (sR N i).2 (sR N i).1 = nI (sumN (sR N i).2 (sR N i).1 / (sR N i).1) from if_pos hcl) ?_
        refine CiX8_112 (q := 84) rfl dX8_isNotFor_81 rfl (m_refuse hX) ⟨(Nat.le_of_ble_eq_true rfl), (Nat.le_of_ble_eq_true rfl)⟩ (Nat.le_of_ble_eq_true rfl) (by first | assumption | exact up_eq | exact (up_ne (by omega)).trans (by first | assumption | exact up_eq | exact (up_ne (by omega)).trans (by first | assumption | exact up_eq | exact (up_ne (by omega)).trans (by first | assumption | exact up_eq)))) (by omega) (Nat.zero_le _) (Nat.zero_le _) (fun u w1 hw1 => ?_)
        obtain ⟨rfl, hM1, hF1⟩ := hw1
        refine V_if_eq (q := 87) (tgt := 91) dX8_isNotFor_84 (by decide) rfl (fun h9 => absurd h9 (by decide)) (fun _ => ?_)
        refine V_iconst (q := 88) (v := nI 1) dX8_isNotFor_87 rfl (by decide) ?_
        refine V_goto (tgt := 92) dX8_isNotFor_88 (by decide) ?_
        exact V_zret dX8_isNotFor_92 rfl (rfl) (Nat.le_of_ble_eq_true rfl) (Nat.le_of_ble_eq_true rfl) (⟨rfl, _, rfl, Or.inr ⟨_, rfl, rfl, MOP.ref hX hM1 hR hF1⟩⟩)
    · rw [if_neg hcl]
      refine V_topi (mcl_no hcl) ?_
      refine V_ifN_lt (q := 38) (tgt := 42) dX8_isNotFor_35 (by decide) rfl (by omega) (fun h9 => by first | exact h9.elim | exact absurd h9 (by assumption) | (exfalso; omega)) (fun _ => ?_)
      refine V_iconst (q := 39) (v := nI 1) dX8_isNotFor_38 rfl (by decide) ?_
      refine V_goto (tgt := 43) dX8_isNotFor_39 (by decide) ?_
      refine V_iconst (q := 44) (v := nI 3) dX8_isNotFor_43 rfl (by decide) ?_
      refine V_aload_n (q := 45) dX8_isNotFor_44 rfl rfl rfl ?_
      refine V_iload_n (q := 46) dX8_isNotFor_45 rfl rfl ?_
      refine CrX8_83 (q := 49) rfl dX8_isNotFor_46 rfl (m_clashOf h0 h1 hpn hR hi) ⟨(Nat.le_of_ble_eq_true rfl), (Nat.le_of_ble_eq_true rfl)⟩ (Nat.le_of_ble_eq_true rfl) (by first | assumption | exact up_eq | exact (up_ne (by omega)).trans (by first | assumption | exact up_eq | exact (up_ne (by omega)).trans (by first | assumption | exact up_eq | exact (up_ne (by omega)).trans (by first | assumption | exact up_eq)))) (by omega) (Nat.zero_le _) (Nat.zero_le _) ?_
      refine V_topi (mcl_no hcl) ?_
      refine CiX8_112 (q := 52) rfl dX8_isNotFor_49 rfl (m_refuse hX) ⟨(Nat.le_of_ble_eq_true rfl), (Nat.le_of_ble_eq_true rfl)⟩ (Nat.le_of_ble_eq_true rfl) (by first | assumption | exact up_eq | exact (up_ne (by omega)).trans (by first | assumption | exact up_eq | exact (up_ne (by omega)).trans (by first | assumption | exact up_eq | exact (up_ne (by omega)).trans (by first | assumption | exact up_eq)))) (by omega) (Nat.zero_le _) (Nat.zero_le _) (fun u w1 hw1 => ?_)
      obtain ⟨rfl, hM1, hF1⟩ := hw1
      refine V_if_ne (q := 55) (tgt := 87) dX8_isNotFor_52 (by decide) rfl (fun _ => ?_) (fun h9 => absurd h9 (by decide))
      refine V_iconst (q := 88) (v := nI 1) dX8_isNotFor_87 rfl (by decide) ?_
      refine V_goto (tgt := 92) dX8_isNotFor_88 (by decide) ?_
      exact V_zret dX8_isNotFor_92 rfl (rfl) (Nat.le_of_ble_eq_true rfl) (Nat.le_of_ble_eq_true rfl) (⟨rfl, _, rfl, Or.inr ⟨_, rfl, rfl, MOP.ref hX hM1 hR hF1⟩⟩)
  · skip
    rw [if_pos q0]
    refine V_iconst (q := 11) (v := nI 1) dX8_isNotFor_10 rfl (by decide) ?_
    refine V_goto (tgt := 15) dX8_isNotFor_11 (by decide) ?_
    refine V_bipush (q := 17) (v := nI 6) dX8_isNotFor_15 rfl (by decide) ?_
    refine V_aload_n (q := 18) dX8_isNotFor_17 rfl rfl rfl ?_
    refine GX8_9 (q := 21) rfl dX8_isNotFor_18 rfl (by first | assumption | exact up_eq | exact (up_ne (by omega)).trans (by first | assumption | exact up_eq | exact (up_ne (by omega)).trans (by first | assumption | exact up_eq | exact (up_ne (by omega)).trans (by first | assumption | exact up_eq)))) (by omega) (by rfl) ?_
    refine V_iconst (q := 22) (v := nI 3) dX8_isNotFor_21 rfl (by decide) ?_
    refine V_ialdN (q := 23) dX8_isNotFor_22 rfl (by first | assumption | exact up_eq | exact (up_ne (by omega)).trans (by first | assumption | exact up_eq | exact (up_ne (by omega)).trans (by first | assumption | exact up_eq | exact (up_ne (by omega)).trans (by first | assumption | exact up_eq)))) (by omega) (by omega) (by omega) rfl f3 ?_
    refine CiX8_112 (q := 26) rfl dX8_isNotFor_23 rfl (m_refuse hX) ⟨(Nat.le_of_ble_eq_true rfl), (Nat.le_of_ble_eq_true rfl)⟩ (Nat.le_of_ble_eq_true rfl) (by first | assumption | exact up_eq | exact (up_ne (by omega)).trans (by first | assumption | exact up_eq | exact (up_ne (by omega)).trans (by first | assumption | exact up_eq | exact (up_ne (by omega)).trans (by first | assumption | exact up_eq)))) (by omega) (Nat.zero_le _) (Nat.zero_le _) (fun u w1 hw1 => ?_)
    obtain ⟨rfl, hM1, hF1⟩ := hw1
    refine V_if_ne (q := 29) (tgt := 87) dX8_isNotFor_26 (by decide) rfl (fun _ => ?_) (fun h9 => absurd h9 (by decide))
    refine V_iconst (q := 88) (v := nI 1) dX8_isNotFor_87 rfl (by decide) ?_
    refine V_goto (tgt := 92) dX8_isNotFor_88 (by decide) ?_
    exact V_zret dX8_isNotFor_92 rfl (rfl) (Nat.le_of_ble_eq_true rfl) (Nat.le_of_ble_eq_true rfl) (⟨rfl, _, rfl, Or.inr ⟨_, rfl, rfl, MOP.ref hX hM1 hR hF1⟩⟩)
theorem m_findJoinTo_no (h : MBd g w n p K F Fs Fb pk Hs C T) (hR : RN F N) {i : Nat} (hi : i < sC N) (hj : ¬ ballI (sR N i).2 (sR N i).1 = nI (popc (sS N))) : CtI g l MX8_findJoinTo 3 [rf g p, .int (nI i)] w n (fun y w' => y = 0 ∧ w' = w) := by
  obtain ⟨h0, h1, -, -, -, -, -, -, hn, -⟩ := h
  have hpn : p + 1 < n := by omega
  have f2 := hR.1.2.2.1
  refine Ct.ofs (M := MX8_findJoinTo) (ls := [some _, some _]) (by decide +kernel) (by exact (Nat.le_of_ble_eq_true rfl)) (by rfl) (by rfl) (by rfl) ?_
  refine V_aload_n (q := 1) dX8_findJoinTo_0 rfl rfl rfl ?_
  refine V_iload_n (q := 2) dX8_findJoinTo_1 rfl rfl ?_
  refine CrX8_103 (q := 5) rfl dX8_findJoinTo_2 rfl (m_ballsOf h0 h1 hpn hR hi) ⟨(Nat.le_of_ble_eq_true rfl), (Nat.le_of_ble_eq_true rfl)⟩ (Nat.le_of_ble_eq_true rfl) (by first | assumption | exact up_eq | exact (up_ne (by omega)).trans (by first | assumption | exact up_eq | exact (up_ne (by omega)).trans (by first | assumption | exact up_eq | exact (up_ne (by omega)).trans (by first | assumption | exact up_eq)))) (by omega) (Nat.zero_le _) (Nat.zero_le _) ?_
  refine V_aload_n (q := 6) dX8_findJoinTo_5 rfl rfl rfl ?_
  refine GX8_9 (q := 9) rfl dX8_findJoinTo_6 rfl (by first | assumption | exact up_eq | exact (up_ne (by omega)).trans (by first | assumption | exact up_eq | exact (up_ne (by omega)).trans (by first | assumption | exact up_eq | exact (up_ne (by omega)).trans (by first | assumption | exact up_eq)))) (by omega) (by rfl) ?_
  refine V_iconst (q := 10) (v := nI 2) dX8_findJoinTo_9 rfl (by decide) ?_
  refine V_ialdN (q := 11) dX8_findJoinTo_10 rfl (by first | assumption | exact up_eq | exact (up_ne (by omega)).trans (by first | assumption | exact up_eq | exact (up_ne (by omega)).trans (by first | assumption | exact up_eq | exact (up_ne (by omega)).trans (by first | assumption | exact up_eq)))) (by omega) (by omega) (by omega) rfl f2 ?_
  refine V_icmp_ne (q := 14) (tgt := 37) dX8_findJoinTo_11 (by decide) rfl (fun _ => ?_) (fun h9 => absurd h9 (mt (mba_ball popc0).mp hj))
  refine V_iconst (q := 38) (v := nI 0) dX8_findJoinTo_37 rfl (by decide) ?_
  exact V_zret dX8_findJoinTo_38 rfl (rfl) (Nat.le_of_ble_eq_true rfl) (Nat.le_of_ble_eq_true rfl) (⟨rfl, _, rfl, rfl, rfl⟩)
theorem m_findJoinTo (h : MBd g w n p K F Fs Fb pk Hs C T) (hR : RN F N) {i k : Nat} (hi : i < sC N) (hj : ballI (sR N i).2 (sR N i).1 = nI (popc (sS N))) (hk : Dst (sS N) (stN (sR N i).2 (sR N i).1 0) k) (hk9 : k ≤ 9) : CtI g l MX8_findJoinTo 3 [rf g p, .int (nI i)] w n (fun y w' => y = 1 ∧ (∃ J, MBd g w' n p (setLn K (nI k)) F Fs Fb pk Hs C T ∧ w' (p + 16) = eI g 512 J ∧ ∀ j, j < k → J j = nI (digN (codN (sS N) (stN (sR N i).2 (sR N i).1 0)) k j)) ∧ FrM w w' p) := by
  have hX := h
  obtain ⟨h0, h1, -, -, -, ⟨Q, P, B, J, q1, q2, q3, q4⟩, -, -, hn, -⟩ := h
  have hpn : p + 1 < n := by omega
  obtain ⟨i0, i1, i2⟩ := hR.2.2.1.2 i hi
  have f2 := hR.1.2.2.1
  have f1 := hR.1.2.1
  have hs := hR.2.2.2.1.1
  have hst := stN_lt (L := (sR N i).1) (b := 0) i0 i2
  refine Ct.ofs (M := MX8_findJoinTo) (ls := [some _, some _]) (by decide +kernel) (by exact (Nat.le_of_ble_eq_true rfl)) (by rfl) (by rfl) (by rfl) ?_
  refine V_aload_n (q := 1) dX8_findJoinTo_0 rfl rfl rfl ?_
  refine V_iload_n (q := 2) dX8_findJoinTo_1 rfl rfl ?_
  refine CrX8_103 (q := 5) rfl dX8_findJoinTo_2 rfl (m_ballsOf h0 h1 hpn hR hi) ⟨(Nat.le_of_ble_eq_true rfl), (Nat.le_of_ble_eq_true rfl)⟩ (Nat.le_of_ble_eq_true rfl) (by first | assumption | exact up_eq | exact (up_ne (by omega)).trans (by first | assumption | exact up_eq | exact (up_ne (by omega)).trans (by first | assumption | exact up_eq | exact (up_ne (by omega)).trans (by first | assumption | exact up_eq)))) (by omega) (Nat.zero_le _) (Nat.zero_le _) ?_
  refine V_aload_n (q := 6) dX8_findJoinTo_5 rfl rfl rfl ?_
  refine GX8_9 (q := 9) rfl dX8_findJoinTo_6 rfl (by first | assumption | exact up_eq | exact (up_ne (by omega)).trans (by first | assumption | exact up_eq | exact (up_ne (by omega)).trans (by first | assumption | exact up_eq | exact (up_ne (by omega)).trans (by first | assumption | exact up_eq)))) (by omega) (by rfl) ?_
  refine V_iconst (q := 10) (v := nI 2) dX8_findJoinTo_9 rfl (by decide) ?_
  refine V_ialdN (q := 11) dX8_findJoinTo_10 rfl (by first | assumption | exact up_eq | exact (up_ne (by omega)).trans (by first | assumption | exact up_eq | exact (up_ne (by omega)).trans (by first | assumption | exact up_eq | exact (up_ne (by omega)).trans (by first | assumption | exact up_eq)))) (by omega) (by omega) (by omega) rfl f2 ?_
  refine V_icmp_ne (q := 14) (tgt := 37) dX8_findJoinTo_11 (by decide) rfl (fun h9 => absurd ((mba_ball popc0).mpr hj) h9) (fun _ => ?_)
  refine V_aload_n (q := 15) dX8_findJoinTo_14 rfl rfl rfl ?_
  refine V_aload_n (q := 16) dX8_findJoinTo_15 rfl rfl rfl ?_
  refine GX8_9 (q := 19) rfl dX8_findJoinTo_16 rfl (by first | assumption | exact up_eq | exact (up_ne (by omega)).trans (by first | assumption | exact up_eq | exact (up_ne (by omega)).trans (by first | assumption | exact up_eq | exact (up_ne (by omega)).trans (by first | assumption | exact up_eq)))) (by omega) (by rfl) ?_
  refine V_iconst (q := 20) (v := nI 1) dX8_findJoinTo_19 rfl (by decide) ?_
  refine V_ialdN (q := 21) dX8_findJoinTo_20 rfl (by first | assumption | exact up_eq | exact (up_ne (by omega)).trans (by first | assumption | exact up_eq | exact (up_ne (by omega)).trans (by first | assumption | exact up_eq | exact (up_ne (by omega)).trans (by first | assumption | exact up_eq)))) (by omega) (by omega) (by omega) rfl f1 ?_
  refine V_aload_n (q := 22) dX8_findJoinTo_21 rfl rfl rfl ?_
  refine V_iload_n (q := 23) dX8_findJoinTo_22 rfl rfl ?_
  refine V_iconst (q := 24) (v := nI 0) dX8_findJoinTo_23 rfl (by decide) ?_
  refine CrX8_106 (q := 27) rfl dX8_findJoinTo_24 rfl (m_stateAt h0 h1 hpn hR hi i0) ⟨(Nat.le_of_ble_eq_true rfl), (Nat.le_of_ble_eq_true rfl)⟩ (Nat.le_of_ble_eq_true rfl) (by first | assumption | exact up_eq | exact (up_ne (by omega)).trans (by first | assumption | exact up_eq | exact (up_ne (by omega)).trans (by first | assumption | exact up_eq | exact (up_ne (by omega)).trans (by first | assumption | exact up_eq)))) (by omega) (Nat.zero_le _) (Nat.zero_le _) ?_
  skip
  refine CiX8_109 (q := 30) rfl dX8_findJoinTo_27 rfl (m_findJoin ⟨h0, q1, q2, q3, q4, hn⟩ hs hst hk hk9) ⟨(Nat.le_of_ble_eq_true rfl), (Nat.le_of_ble_eq_true rfl)⟩ (Nat.le_of_ble_eq_true rfl) (by first | assumption | exact up_eq | exact (up_ne (by omega)).trans (by first | assumption | exact up_eq | exact (up_ne (by omega)).trans (by first | assumption | exact up_eq | exact (up_ne (by omega)).trans (by first | assumption | exact up_eq)))) (by omega) (Nat.zero_le _) (Nat.zero_le _) (fun u w1 hw1 => ?_)
  obtain ⟨rfl, ⟨Q', P', B', J', hM, hdig⟩, hF⟩ := hw1
  have fin := hX.find (K' := setLn K (nI k)) rfl hM hF
  refine V_if_eq (q := 33) (tgt := 37) dX8_findJoinTo_30 (by decide) rfl (fun h9 => absurd h9 (by decide)) (fun _ => ?_)
  refine V_iconst (q := 34) (v := nI 1) dX8_findJoinTo_33 rfl (by decide) ?_
  refine V_goto (tgt := 38) dX8_findJoinTo_34 (by decide) ?_
  exact V_zret dX8_findJoinTo_38 rfl (rfl) (Nat.le_of_ble_eq_true rfl) (Nat.le_of_ble_eq_true rfl) (⟨rfl, _, rfl, rfl, ⟨J', fin.1, hM.2.2.2.2.1, hdig⟩, fin.2⟩)
theorem M_join (h : MBd g w n p K F Fs Fb pk Hs C T) (hI : kIn K = 0 ∨ kIn K = 1) (hR : RN F N) (hb : sB N + 20 < 2 ^ 30) {x : Int32} : CtI g l MX8_join 4 [rf g p, .int x] w n (MOP g w n p K Fs Fb pk Hs C T N (joinA x N)) := by
  have hX := h
  obtain ⟨h0, h1, -, -, -, -, -, -, hn, -⟩ := h
  have hc6 := hR.2.2.1.1
  have hpn : p + 1 < n := by omega
  rcases i3_lt x (sC N) (by omega) with hx | ⟨i, hi, rfl⟩
  · rw [show joinA x N = (-1, N, none) by unfold joinA; rw [idx_no hx]]
    refine Ct.ofs (M := MX8_join) (ls := [some _, some _, none]) (by decide +kernel) (by exact (Nat.le_of_ble_eq_true rfl)) (by rfl) (by rfl) (by rfl) ?_
    refine V_aload_n (q := 1) dX8_join_0 rfl rfl rfl ?_
    refine V_iload_n (q := 2) dX8_join_1 rfl rfl ?_
    refine CrX8_123 (q := 5) rfl dX8_join_2 rfl (m_isRow_out h0 h1 (by omega) hR hx) ⟨(Nat.le_of_ble_eq_true rfl), (Nat.le_of_ble_eq_true rfl)⟩ (Nat.le_of_ble_eq_true rfl) (by first | assumption | exact up_eq | exact (up_ne (by omega)).trans (by first | assumption | exact up_eq | exact (up_ne (by omega)).trans (by first | assumption | exact up_eq | exact (up_ne (by omega)).trans (by first | assumption | exact up_eq)))) (by omega) (Nat.zero_le _) (Nat.zero_le _) ?_
    refine V_if_ne (q := 8) (tgt := 10) dX8_join_5 (by decide) rfl (fun h9 => absurd rfl h9) (fun _ => ?_)
    refine V_iconst (q := 9) (v := (-1)) dX8_join_8 rfl (by decide) ?_
    exact V_iret dX8_join_9 rfl (Nat.le_of_ble_eq_true rfl) (Nat.le_of_ble_eq_true rfl) (⟨rfl, _, rfl, MOP.no hX hR (by decide)⟩)
  obtain ⟨i0, i1, i2⟩ := hR.2.2.1.2 i hi
  refine Ct.ofs (M := MX8_join) (ls := [some _, some _, none]) (by decide +kernel) (by exact (Nat.le_of_ble_eq_true rfl)) (by rfl) (by rfl) (by rfl) ?_
  refine V_aload_n (q := 1) dX8_join_0 rfl rfl rfl ?_
  refine V_iload_n (q := 2) dX8_join_1 rfl rfl ?_
  refine CrX8_123 (q := 5) rfl dX8_join_2 rfl (m_isRow_in h0 h1 hpn hR hi) ⟨(Nat.le_of_ble_eq_true rfl), (Nat.le_of_ble_eq_true rfl)⟩ (Nat.le_of_ble_eq_true rfl) (by first | assumption | exact up_eq | exact (up_ne (by omega)).trans (by first | assumption | exact up_eq | exact (up_ne (by omega)).trans (by first | assumption | exact up_eq | exact (up_ne (by omega)).trans (by first | assumption | exact up_eq)))) (by omega) (Nat.zero_le _) (Nat.zero_le _) ?_
  refine V_if_ne (q := 8) (tgt := 10) dX8_join_5 (by decide) rfl (fun _ => ?_) (fun h9 => absurd h9 (by decide))
  refine V_aload_n (q := 11) dX8_join_10 rfl rfl rfl ?_
  refine V_iload_n (q := 12) dX8_join_11 rfl rfl ?_
  refine CiX8_136 (q := 15) rfl dX8_join_12 rfl (m_isNotFor hX hR hi) ⟨(Nat.le_of_ble_eq_true rfl), (Nat.le_of_ble_eq_true rfl)⟩ (Nat.le_of_ble_eq_true rfl) (by first | assumption | exact up_eq | exact (up_ne (by omega)).trans (by first | assumption | exact up_eq | exact (up_ne (by omega)).trans (by first | assumption | exact up_eq | exact (up_ne (by omega)).trans (by first | assumption | exact up_eq)))) (by omega) (Nat.zero_le _) (Nat.zero_le _) (fun u wr hwr => ?_)
  rcases hwr with ⟨hd, rfl, rfl⟩ | ⟨q, hd, rfl, hM⟩
  · obtain ⟨hcl, hsm⟩ := outA_none hd
    have hs := hR.2.2.2.1.1
    have hst := stN_lt (L := (sR N i).1) (b := 0) i0 i2
    have hj : ballI (sR N i).2 (sR N i).1 = nI (popc (sS N)) := by unfold ballI; rw [if_pos hcl, hsm]
    obtain ⟨k, hk9, hk⟩ := nine hs hst (by rw [balls_ok i0 i2 hcl, hsm])
    have ea : joinA (nI i) N = (nI k, joiS (thrA N (digN (codN (sS N) (stN (sR N i).2 (sR N i).1 0)) k) k), none) := by
      unfold joinA
      rw [idx_yes hi (by omega)]
      show (match outA N (sR N i) with | some d => _ | none => _) = _
      rw [hd, ← dstN_is hk]
    rw [ea]
    obtain ⟨c, hlow⟩ := LowC.is hk.1
    have hcod := codN_is hk hlow
    refine V_if_eq (q := 18) (tgt := 21) dX8_join_15 (by decide) rfl (fun _ => ?_) (fun h9 => absurd rfl h9)
    refine V_aload_n (q := 22) dX8_join_21 rfl rfl rfl ?_
    refine CvX8_116 (q := 25) rfl dX8_join_22 rfl (m_chg hX hI hR) ⟨(Nat.le_of_ble_eq_true rfl), (Nat.le_of_ble_eq_true rfl)⟩ (Nat.le_of_ble_eq_true rfl) (by first | assumption | exact up_eq | exact (up_ne (by omega)).trans (by first | assumption | exact up_eq | exact (up_ne (by omega)).trans (by first | assumption | exact up_eq | exact (up_ne (by omega)).trans (by first | assumption | exact up_eq)))) (by omega) (Nat.zero_le _) (Nat.zero_le _) (fun w1 hw1 => ?_)
    obtain ⟨hM1, hF1⟩ := hw1
    have b0 := hM1.1
    refine V_aload_n (q := 26) dX8_join_25 rfl rfl rfl ?_
    refine V_iload_n (q := 27) dX8_join_26 rfl rfl ?_
    refine CiX8_139 (q := 30) rfl dX8_join_27 rfl (m_findJoinTo hM1 hR hi hj hk hk9) ⟨(Nat.le_of_ble_eq_true rfl), (Nat.le_of_ble_eq_true rfl)⟩ (Nat.le_of_ble_eq_true rfl) (by first | assumption | exact up_eq | exact (up_ne (by omega)).trans (by first | assumption | exact up_eq | exact (up_ne (by omega)).trans (by first | assumption | exact up_eq | exact (up_ne (by omega)).trans (by first | assumption | exact up_eq)))) (by omega) (Nat.zero_le _) (Nat.zero_le _) (fun u2 w2 hw2 => ?_)
    obtain ⟨rfl, ⟨J, hM2, hJ, hdig⟩, hF2⟩ := hw2
    rw [hcod] at hdig ⊢
    refine V_pop (q := 31) dX8_join_30 rfl rfl ?_
    refine V_iconst (q := 32) (v := nI 0) dX8_join_31 rfl (by decide) ?_
    refine V_istore_n (q := 33) (ls' := [_, _, _]) dX8_join_32 rfl (by decide) rfl ?_
    have key : ∀ q, q ≤ k → ∀ F3 w3, RN F3 (thrA N (digN c k) q) → w3 (p + 1) = eI g 63 F3 → (∀ j, j ≠ p + 1 → w3 j = w2 j) → V g l MX8_join (rmd 4 0 0) (FinM g (qI (MOP g wr n p K Fs Fb pk Hs C T N (nI k, joiS (thrA N (digN c k) k), none)) n) 0 0) 33 [some (rf g p), some (.int (nI i)), some (.int (nI q))] [] (w3) n 0 0 := by
      refine loopU (fun q => ∀ F3 w3, RN F3 (thrA N (digN c k) q) → w3 (p + 1) = eI g 63 F3 → (∀ j, j ≠ p + 1 → w3 j = w2 j) → V g l MX8_join (rmd 4 0 0) (FinM g (qI (MOP g wr n p K Fs Fb pk Hs C T N (nI k, joiS (thrA N (digN c k) k), none)) n) 0 0) 33 [some (rf g p), some (.int (nI i)), some (.int (nI q))] [] (w3) n 0 0) k ?_ ?_
      · intro F3 w3 a1 a2 a3
        have c0 : w3 p = eO 8 (mfs g p (setLn (setKp K (nI (pkC K pk))) (nI k))) := (a3 _ (by omega)).trans hM2.1
        have f7 := a1.1.2.2.2.2.2.2.2.1
        have fin := hM2.now (F' := upd F3 7 (nI (sJ (thrA N (digN c k) k) + 1)))
        have ew : va_up w3 (p + 1) (eI g 63 (upd F3 7 (nI (sJ (thrA N (digN c k) k) + 1)))) = va_up w2 (p + 1) (eI g 63 (upd F3 7 (nI (sJ (thrA N (digN c k) k) + 1)))) := up_is up_eq (fun j hj => (up_ne hj).trans (a3 j hj))
        rw [← ew] at fin
        have hRj : RN (upd F3 7 (nI (sJ (thrA N (digN c k) k) + 1))) (joiS (thrA N (digN c k) k)) := by
          obtain ⟨⟨g0, g1, g2, g3, g4, g5, g6, g7, g8⟩, gr, gN, gS, gB⟩ := a1
          refine ⟨⟨?_, ?_, ?_, ?_, ?_, ?_, ?_, updI, ?_⟩, fun i hi => ⟨?_, fun j hj => ?_⟩, gN, gS, gB⟩
          · rw [updN (by decide)]; exact g0
          · rw [updN (by decide)]; exact g1
          · rw [updN (by decide)]; exact g2
          · rw [updN (by decide)]; exact g3
          · rw [updN (by decide)]; exact g4
          · rw [updN (by decide)]; exact g5
          · rw [updN (by decide)]; exact g6
          · rw [updN (by decide)]; exact g8
          · rw [updN (by omega)]; exact (gr i hi).1
          · rw [updN (by omega)]; exact (gr i hi).2 j hj
        refine V_iload_n (q := 34) dX8_join_33 rfl rfl ?_
        refine V_aload_n (q := 35) dX8_join_34 rfl rfl rfl ?_
        refine GX8_100 (q := 38) rfl dX8_join_35 rfl (by first | assumption | exact up_eq | exact (up_ne (by omega)).trans (by first | assumption | exact up_eq | exact (up_ne (by omega)).trans (by first | assumption | exact up_eq | exact (up_ne (by omega)).trans (by first | assumption | exact up_eq)))) (by omega) (by rfl) ?_
        refine V_icmpN_ge (q := 41) (tgt := 57) dX8_join_38 (by decide) rfl (by omega) (by omega) (fun _ => ?_) (fun h9 => by first | exact h9.elim | (exfalso; omega))
        refine V_aload_n (q := 58) dX8_join_57 rfl rfl rfl ?_
        refine GX8_9 (q := 61) rfl dX8_join_58 rfl (by first | assumption | exact up_eq | exact (up_ne (by omega)).trans (by first | assumption | exact up_eq | exact (up_ne (by omega)).trans (by first | assumption | exact up_eq | exact (up_ne (by omega)).trans (by first | assumption | exact up_eq)))) (by omega) (by rfl) ?_
        refine V_bipush (q := 63) (v := nI 7) dX8_join_61 rfl (by decide) ?_
        refine V_dup2 (q := 64) dX8_join_63 rfl rfl rfl ?_
        refine V_ialdN (q := 65) dX8_join_64 rfl (by first | assumption | exact up_eq | exact (up_ne (by omega)).trans (by first | assumption | exact up_eq | exact (up_ne (by omega)).trans (by first | assumption | exact up_eq | exact (up_ne (by omega)).trans (by first | assumption | exact up_eq)))) (by omega) (by omega) (by omega) rfl f7 ?_
        refine V_iconst (q := 66) (v := nI 1) dX8_join_65 rfl (by decide) ?_
        refine V_iadd (q := 67) dX8_join_66 rfl (by first | exact nI_add _ _ | rfl) ?_
        refine V_iastN (q := 68) dX8_join_67 rfl (by first | assumption | exact up_eq | exact (up_ne (by omega)).trans (by first | assumption | exact up_eq | exact (up_ne (by omega)).trans (by first | assumption | exact up_eq | exact (up_ne (by omega)).trans (by first | assumption | exact up_eq)))) (by omega) (by omega) (by omega) rfl (by rfl) ?_
        refine V_aload_n (q := 69) dX8_join_68 rfl rfl rfl ?_
        refine GX8_100 (q := 72) rfl dX8_join_69 rfl (by first | assumption | exact up_eq | exact (up_ne (by omega)).trans (by first | assumption | exact up_eq | exact (up_ne (by omega)).trans (by first | assumption | exact up_eq | exact (up_ne (by omega)).trans (by first | assumption | exact up_eq)))) (by omega) (by rfl) ?_
        exact V_iret dX8_join_72 rfl (Nat.le_of_ble_eq_true rfl) (Nat.le_of_ble_eq_true rfl) (⟨rfl, _, rfl, MOP.yes (b := nI k) fin.1 hRj (nIerr (by omega)) ((hF1.tr hF2).tr fin.2)⟩)
      · intro q hq ih F3 w3 a1 a2 a3
        have c0 : w3 p = eO 8 (mfs g p (setLn (setKp K (nI (pkC K pk))) (nI k))) := (a3 _ (by omega)).trans hM2.1
        have cJ : w3 (p + 16) = eI g 512 J := (a3 _ (by omega)).trans hJ
        obtain ⟨v, c', hv, he, hcan⟩ := join_st hlow.1 (N := N) rfl q (by omega)
        have hBq := thrA_B N (digN c k) q
        have hjq := hdig q hq
        refine V_iload_n (q := 34) dX8_join_33 rfl rfl ?_
        refine V_aload_n (q := 35) dX8_join_34 rfl rfl rfl ?_
        refine GX8_100 (q := 38) rfl dX8_join_35 rfl (by first | assumption | exact up_eq | exact (up_ne (by omega)).trans (by first | assumption | exact up_eq | exact (up_ne (by omega)).trans (by first | assumption | exact up_eq | exact (up_ne (by omega)).trans (by first | assumption | exact up_eq)))) (by omega) (by rfl) ?_
        refine V_icmpN_ge (q := 41) (tgt := 57) dX8_join_38 (by decide) rfl (by omega) (by omega) (fun h9 => by first | exact h9.elim | exact absurd h9 (by assumption) | (exfalso; omega)) (fun _ => ?_)
        refine V_aload_n (q := 42) dX8_join_41 rfl rfl rfl ?_
        refine V_aload_n (q := 43) dX8_join_42 rfl rfl rfl ?_
        refine GX8_37 (q := 46) rfl dX8_join_43 rfl (by first | assumption | exact up_eq | exact (up_ne (by omega)).trans (by first | assumption | exact up_eq | exact (up_ne (by omega)).trans (by first | assumption | exact up_eq | exact (up_ne (by omega)).trans (by first | assumption | exact up_eq)))) (by omega) (by rfl) ?_
        refine V_iload_n (q := 47) dX8_join_46 rfl rfl ?_
        refine V_ialdN (q := 48) dX8_join_47 rfl (by first | assumption | exact up_eq | exact (up_ne (by omega)).trans (by first | assumption | exact up_eq | exact (up_ne (by omega)).trans (by first | assumption | exact up_eq | exact (up_ne (by omega)).trans (by first | assumption | exact up_eq)))) (by omega) (by omega) (by omega) rfl hjq ?_
        refine CvX8_133 (q := 51) rfl dX8_join_48 rfl (m_makeThrow c0 a2 hn a1 (h := digN c k q) (digN_le c k q) (by rw [he]; exact hcan hq) (by omega)) ⟨(Nat.le_of_ble_eq_true rfl), (Nat.le_of_ble_eq_true rfl)⟩ (Nat.le_of_ble_eq_true rfl) (by first | assumption | exact up_eq | exact (up_ne (by omega)).trans (by first | assumption | exact up_eq | exact (up_ne (by omega)).trans (by first | assumption | exact up_eq | exact (up_ne (by omega)).trans (by first | assumption | exact up_eq)))) (by omega) (Nat.zero_le _) (Nat.zero_le _) (fun w4 hw4 => ?_)
        obtain ⟨F4, hR4, hw4⟩ := hw4
        refine V_iinc (q := 54) (ls' := [_, _, _]) dX8_join_51 rfl (by decide) rfl (by first | exact inc1 _ | rfl) rfl ?_
        refine V_goto (tgt := 33) dX8_join_54 (by decide) ?_
        exact ih F4 w4 hR4 (by rw [hw4]; exact up_eq) (fun j hj => by rw [hw4]; exact (up_ne hj).trans (a3 j hj))
    exact key 0 (Nat.zero_le _) F w2 hR hM2.2.1 (fun _ _ => rfl)
  · have ea : joinA (nI i) N = (-3, N, some q) := by
      unfold joinA
      rw [idx_yes hi (by omega)]
      show (match outA N (sR N i) with | some d => _ | none => _) = _
      rw [hd]
    rw [ea]
    refine V_if_eq (q := 18) (tgt := 21) dX8_join_15 (by decide) rfl (fun h9 => absurd h9 (by decide)) (fun _ => ?_)
    refine V_bipush (q := 20) (v := (-3)) dX8_join_18 rfl (by decide) ?_
    exact V_iret dX8_join_20 rfl (Nat.le_of_ble_eq_true rfl) (Nat.le_of_ble_eq_true rfl) (⟨rfl, _, rfl, hM⟩)
theorem M_once (h : MBd g w n p K F Fs Fb pk Hs C T) (hI : kIn K = 0 ∨ kIn K = 1) (hR : RN F N) (hb : sB N + 20 < 2 ^ 30) {x : Int32} : CtI g l MX8_once 4 [rf g p, .int x] w n (MOP g w n p K Fs Fb pk Hs C T N (onceA x N)) := by
  have hX := h
  obtain ⟨h0, h1, -, -, -, -, -, -, hn, -⟩ := h
  have hc6 := hR.2.2.1.1
  have hpn : p + 1 < n := by omega
  rcases i3_lt x (sC N) (by omega) with hx | ⟨i, hi, rfl⟩
  · rw [show onceA x N = (-1, N, none) by unfold onceA; rw [idx_no hx]]
    refine Ct.ofs (M := MX8_once) (ls := [some _, some _, none]) (by decide +kernel) (by exact (Nat.le_of_ble_eq_true rfl)) (by rfl) (by rfl) (by rfl) ?_
    refine V_aload_n (q := 1) dX8_once_0 rfl rfl rfl ?_
    refine V_iload_n (q := 2) dX8_once_1 rfl rfl ?_
    refine CrX8_123 (q := 5) rfl dX8_once_2 rfl (m_isRow_out h0 h1 (by omega) hR hx) ⟨(Nat.le_of_ble_eq_true rfl), (Nat.le_of_ble_eq_true rfl)⟩ (Nat.le_of_ble_eq_true rfl) (by first | assumption | exact up_eq | exact (up_ne (by omega)).trans (by first | assumption | exact up_eq | exact (up_ne (by omega)).trans (by first | assumption | exact up_eq | exact (up_ne (by omega)).trans (by first | assumption | exact up_eq)))) (by omega) (Nat.zero_le _) (Nat.zero_le _) ?_
    refine V_if_ne (q := 8) (tgt := 10) dX8_once_5 (by decide) rfl (fun h9 => absurd rfl h9) (fun _ => ?_)
    refine V_iconst (q := 9) (v := (-1)) dX8_once_8 rfl (by decide) ?_
    exact V_iret dX8_once_9 rfl (Nat.le_of_ble_eq_true rfl) (Nat.le_of_ble_eq_true rfl) (⟨rfl, _, rfl, MOP.no hX hR (by decide)⟩)
  obtain ⟨i0, i1, i2⟩ := hR.2.2.1.2 i hi
  refine Ct.ofs (M := MX8_once) (ls := [some _, some _, none]) (by decide +kernel) (by exact (Nat.le_of_ble_eq_true rfl)) (by rfl) (by rfl) (by rfl) ?_
  refine V_aload_n (q := 1) dX8_once_0 rfl rfl rfl ?_
  refine V_iload_n (q := 2) dX8_once_1 rfl rfl ?_
  refine CrX8_123 (q := 5) rfl dX8_once_2 rfl (m_isRow_in h0 h1 hpn hR hi) ⟨(Nat.le_of_ble_eq_true rfl), (Nat.le_of_ble_eq_true rfl)⟩ (Nat.le_of_ble_eq_true rfl) (by first | assumption | exact up_eq | exact (up_ne (by omega)).trans (by first | assumption | exact up_eq | exact (up_ne (by omega)).trans (by first | assumption | exact up_eq | exact (up_ne (by omega)).trans (by first | assumption | exact up_eq)))) (by omega) (Nat.zero_le _) (Nat.zero_le _) ?_
  refine V_if_ne (q := 8) (tgt := 10) dX8_once_5 (by decide) rfl (fun _ => ?_) (fun h9 => absurd h9 (by decide))
  refine V_aload_n (q := 11) dX8_once_10 rfl rfl rfl ?_
  refine V_iload_n (q := 12) dX8_once_11 rfl rfl ?_
  refine CiX8_136 (q := 15) rfl dX8_once_12 rfl (m_isNotFor hX hR hi) ⟨(Nat.le_of_ble_eq_true rfl), (Nat.le_of_ble_eq_true rfl)⟩ (Nat.le_of_ble_eq_true rfl) (by first | assumption | exact up_eq | exact (up_ne (by omega)).trans (by first | assumption | exact up_eq | exact (up_ne (by omega)).trans (by first | assumption | exact up_eq | exact (up_ne (by omega)).trans (by first | assumption | exact up_eq)))) (by omega) (Nat.zero_le _) (Nat.zero_le _) (fun u wr hwr => ?_)
  rcases hwr with ⟨hd, rfl, rfl⟩ | ⟨q, hd, rfl, hM⟩
  · obtain ⟨hcl, hsm⟩ := outA_none hd
    have hs := hR.2.2.2.1.1
    have f1 := hR.1.2.1
    have hst := stN_lt (L := (sR N i).1) (b := 0) i0 i2
    have ea : onceA (nI i) N = if sS N = stN (sR N i).2 (sR N i).1 0 then (nI (sR N i).1, thrA N (sR N i).2 (sR N i).1, none) else (-3, N, some (4, nI (sS N))) := by
      unfold onceA
      rw [idx_yes hi (by omega)]
      show (match outA N (sR N i) with | some d => _ | none => _) = _
      rw [hd]
    rw [ea]
    refine V_if_ne (q := 18) (tgt := 52) dX8_once_15 (by decide) rfl (fun h9 => absurd rfl h9) (fun _ => ?_)
    refine V_aload_n (q := 19) dX8_once_18 rfl rfl rfl ?_
    refine V_aload_n (q := 20) dX8_once_19 rfl rfl rfl ?_
    refine GX8_9 (q := 23) rfl dX8_once_20 rfl (by first | assumption | exact up_eq | exact (up_ne (by omega)).trans (by first | assumption | exact up_eq | exact (up_ne (by omega)).trans (by first | assumption | exact up_eq | exact (up_ne (by omega)).trans (by first | assumption | exact up_eq)))) (by omega) (by rfl) ?_
    refine V_iconst (q := 24) (v := nI 1) dX8_once_23 rfl (by decide) ?_
    refine V_ialdN (q := 25) dX8_once_24 rfl (by first | assumption | exact up_eq | exact (up_ne (by omega)).trans (by first | assumption | exact up_eq | exact (up_ne (by omega)).trans (by first | assumption | exact up_eq | exact (up_ne (by omega)).trans (by first | assumption | exact up_eq)))) (by omega) (by omega) (by omega) rfl f1 ?_
    refine V_aload_n (q := 26) dX8_once_25 rfl rfl rfl ?_
    refine V_iload_n (q := 27) dX8_once_26 rfl rfl ?_
    refine V_iconst (q := 28) (v := nI 0) dX8_once_27 rfl (by decide) ?_
    refine CrX8_106 (q := 31) rfl dX8_once_28 rfl (m_stateAt h0 h1 hpn hR hi i0) ⟨(Nat.le_of_ble_eq_true rfl), (Nat.le_of_ble_eq_true rfl)⟩ (Nat.le_of_ble_eq_true rfl) (by first | assumption | exact up_eq | exact (up_ne (by omega)).trans (by first | assumption | exact up_eq | exact (up_ne (by omega)).trans (by first | assumption | exact up_eq | exact (up_ne (by omega)).trans (by first | assumption | exact up_eq)))) (by omega) (Nat.zero_le _) (Nat.zero_le _) ?_
    refine V_icmpN_eq (q := 34) (tgt := 38) dX8_once_31 (by decide) rfl (by omega) (by omega) (fun hq => ?_) (fun hq => ?_)
    · skip
      rw [if_pos hq]
      refine V_iconst (q := 39) (v := nI 0) dX8_once_38 rfl (by decide) ?_
      refine V_iconst (q := 40) (v := nI 4) dX8_once_39 rfl (by decide) ?_
      refine V_aload_n (q := 41) dX8_once_40 rfl rfl rfl ?_
      refine GX8_9 (q := 44) rfl dX8_once_41 rfl (by first | assumption | exact up_eq | exact (up_ne (by omega)).trans (by first | assumption | exact up_eq | exact (up_ne (by omega)).trans (by first | assumption | exact up_eq | exact (up_ne (by omega)).trans (by first | assumption | exact up_eq)))) (by omega) (by rfl) ?_
      refine V_iconst (q := 45) (v := nI 1) dX8_once_44 rfl (by decide) ?_
      refine V_ialdN (q := 46) dX8_once_45 rfl (by first | assumption | exact up_eq | exact (up_ne (by omega)).trans (by first | assumption | exact up_eq | exact (up_ne (by omega)).trans (by first | assumption | exact up_eq | exact (up_ne (by omega)).trans (by first | assumption | exact up_eq)))) (by omega) (by omega) (by omega) rfl f1 ?_
      refine CiX8_112 (q := 49) rfl dX8_once_46 rfl (m_refuse_no (by omega)) ⟨(Nat.le_of_ble_eq_true rfl), (Nat.le_of_ble_eq_true rfl)⟩ (Nat.le_of_ble_eq_true rfl) (by first | assumption | exact up_eq | exact (up_ne (by omega)).trans (by first | assumption | exact up_eq | exact (up_ne (by omega)).trans (by first | assumption | exact up_eq | exact (up_ne (by omega)).trans (by first | assumption | exact up_eq)))) (by omega) (Nat.zero_le _) (Nat.zero_le _) (fun u2 wr2 hwr2 => ?_)
      obtain ⟨rfl, rfl⟩ := hwr2
      refine V_if_eq (q := 52) (tgt := 55) dX8_once_49 (by decide) rfl (fun _ => ?_) (fun h9 => absurd rfl h9)
      refine V_aload_n (q := 56) dX8_once_55 rfl rfl rfl ?_
      refine CvX8_116 (q := 59) rfl dX8_once_56 rfl (m_chg hX hI hR) ⟨(Nat.le_of_ble_eq_true rfl), (Nat.le_of_ble_eq_true rfl)⟩ (Nat.le_of_ble_eq_true rfl) (by first | assumption | exact up_eq | exact (up_ne (by omega)).trans (by first | assumption | exact up_eq | exact (up_ne (by omega)).trans (by first | assumption | exact up_eq | exact (up_ne (by omega)).trans (by first | assumption | exact up_eq)))) (by omega) (Nat.zero_le _) (Nat.zero_le _) (fun w1 hw1 => ?_)
      obtain ⟨hM1, hF1⟩ := hw1
      have b0 := hM1.1
      refine V_iconst (q := 60) (v := nI 0) dX8_once_59 rfl (by decide) ?_
      refine V_istore_n (q := 61) (ls' := [_, _, _]) dX8_once_60 rfl (by decide) rfl ?_
      have key : ∀ q, q ≤ (sR N i).1 → ∀ F3 w3, RN F3 (thrA N (sR N i).2 q) → w3 (p + 1) = eI g 63 F3 → (∀ j, j ≠ p + 1 → w3 j = w1 j) → V g l MX8_once (rmd 4 0 0) (FinM g (qI (MOP g wr2 n p K Fs Fb pk Hs C T N (nI (sR N i).1, thrA N (sR N i).2 (sR N i).1, none)) n) 0 0) 61 [some (rf g p), some (.int (nI i)), some (.int (nI q))] [] (w3) n 0 0 := by
        refine loopU (fun q => ∀ F3 w3, RN F3 (thrA N (sR N i).2 q) → w3 (p + 1) = eI g 63 F3 → (∀ j, j ≠ p + 1 → w3 j = w1 j) → V g l MX8_once (rmd 4 0 0) (FinM g (qI (MOP g wr2 n p K Fs Fb pk Hs C T N (nI (sR N i).1, thrA N (sR N i).2 (sR N i).1, none)) n) 0 0) 61 [some (rf g p), some (.int (nI i)), some (.int (nI q))] [] (w3) n 0 0) (sR N i).1 ?_ ?_
        · intro F3 w3 a1 a2 a3
          have c0 : w3 p = eO 8 (mfs g p (setKp K (nI (pkC K pk)))) := (a3 _ (by omega)).trans b0
          have fin := hM1.now (F' := F3)
          rw [← up_is a2 a3] at fin
          have hc := thrA_C N (sR N i).2 (sR N i).1
          have hi3 : i < sC (thrA N (sR N i).2 (sR N i).1) := by rw [hc.1]; exact hi
          have hln := m_lengthOf (l := l) c0 a2 hpn a1 hi3
          rw [hc.2] at hln
          refine V_iload_n (q := 62) dX8_once_61 rfl rfl ?_
          refine V_aload_n (q := 63) dX8_once_62 rfl rfl rfl ?_
          refine V_iload_n (q := 64) dX8_once_63 rfl rfl ?_
          refine CrX8_75 (q := 67) rfl dX8_once_64 rfl (hln) ⟨(Nat.le_of_ble_eq_true rfl), (Nat.le_of_ble_eq_true rfl)⟩ (Nat.le_of_ble_eq_true rfl) (by first | assumption | exact up_eq | exact (up_ne (by omega)).trans (by first | assumption | exact up_eq | exact (up_ne (by omega)).trans (by first | assumption | exact up_eq | exact (up_ne (by omega)).trans (by first | assumption | exact up_eq)))) (by omega) (Nat.zero_le _) (Nat.zero_le _) ?_
          refine V_icmpN_ge (q := 70) (tgt := 86) dX8_once_67 (by decide) rfl (by omega) (by omega) (fun _ => ?_) (fun h9 => by first | exact h9.elim | (exfalso; omega))
          refine V_aload_n (q := 87) dX8_once_86 rfl rfl rfl ?_
          refine V_iload_n (q := 88) dX8_once_87 rfl rfl ?_
          refine CrX8_75 (q := 91) rfl dX8_once_88 rfl (hln) ⟨(Nat.le_of_ble_eq_true rfl), (Nat.le_of_ble_eq_true rfl)⟩ (Nat.le_of_ble_eq_true rfl) (by first | assumption | exact up_eq | exact (up_ne (by omega)).trans (by first | assumption | exact up_eq | exact (up_ne (by omega)).trans (by first | assumption | exact up_eq | exact (up_ne (by omega)).trans (by first | assumption | exact up_eq)))) (by omega) (Nat.zero_le _) (Nat.zero_le _) ?_
          skip
          exact V_iret dX8_once_91 rfl (Nat.le_of_ble_eq_true rfl) (Nat.le_of_ble_eq_true rfl) (⟨rfl, _, rfl, MOP.yes (b := kLn K) fin.1 a1 (nIerr (by omega)) (hF1.tr fin.2)⟩)
        · intro q hq2 ih F3 w3 a1 a2 a3
          have c0 : w3 p = eO 8 (mfs g p (setKp K (nI (pkC K pk)))) := (a3 _ (by omega)).trans b0
          have hc := thrA_C N (sR N i).2 q
          have hi3 : i < sC (thrA N (sR N i).2 q) := by rw [hc.1]; exact hi
          have hln := m_lengthOf (l := l) c0 a2 hpn a1 hi3
          have hth := m_thrown (l := l) c0 a2 hpn a1 hi3 (j := q) (by rw [hc.2]; exact hq2)
          rw [hc.2] at hln hth
          have hBq := thrA_B N (sR N i).2 q
          have hcan := st_can i0 i2 hcl hq2
          rw [← once_st i0 i2 hq q (by omega)] at hcan
          refine V_iload_n (q := 62) dX8_once_61 rfl rfl ?_
          refine V_aload_n (q := 63) dX8_once_62 rfl rfl rfl ?_
          refine V_iload_n (q := 64) dX8_once_63 rfl rfl ?_
          refine CrX8_75 (q := 67) rfl dX8_once_64 rfl (hln) ⟨(Nat.le_of_ble_eq_true rfl), (Nat.le_of_ble_eq_true rfl)⟩ (Nat.le_of_ble_eq_true rfl) (by first | assumption | exact up_eq | exact (up_ne (by omega)).trans (by first | assumption | exact up_eq | exact (up_ne (by omega)).trans (by first | assumption | exact up_eq | exact (up_ne (by omega)).trans (by first | assumption | exact up_eq)))) (by omega) (Nat.zero_le _) (Nat.zero_le _) ?_
          refine V_icmpN_ge (q := 70) (tgt := 86) dX8_once_67 (by decide) rfl (by omega) (by omega) (fun h9 => by first | exact h9.elim | exact absurd h9 (by assumption) | (exfalso; omega)) (fun _ => ?_)
          refine V_aload_n (q := 71) dX8_once_70 rfl rfl rfl ?_
          refine V_aload_n (q := 72) dX8_once_71 rfl rfl rfl ?_
          refine V_iload_n (q := 73) dX8_once_72 rfl rfl ?_
          refine V_iload_n (q := 74) dX8_once_73 rfl rfl ?_
          refine CrX8_79 (q := 77) rfl dX8_once_74 rfl (hth) ⟨(Nat.le_of_ble_eq_true rfl), (Nat.le_of_ble_eq_true rfl)⟩ (Nat.le_of_ble_eq_true rfl) (by first | assumption | exact up_eq | exact (up_ne (by omega)).trans (by first | assumption | exact up_eq | exact (up_ne (by omega)).trans (by first | assumption | exact up_eq | exact (up_ne (by omega)).trans (by first | assumption | exact up_eq)))) (by omega) (Nat.zero_le _) (Nat.zero_le _) ?_
          skip
          refine CvX8_133 (q := 80) rfl dX8_once_77 rfl (m_makeThrow c0 a2 hn a1 (h := (sR N i).2 q) (i2 q hq2) hcan (by omega)) ⟨(Nat.le_of_ble_eq_true rfl), (Nat.le_of_ble_eq_true rfl)⟩ (Nat.le_of_ble_eq_true rfl) (by first | assumption | exact up_eq | exact (up_ne (by omega)).trans (by first | assumption | exact up_eq | exact (up_ne (by omega)).trans (by first | assumption | exact up_eq | exact (up_ne (by omega)).trans (by first | assumption | exact up_eq)))) (by omega) (Nat.zero_le _) (Nat.zero_le _) (fun w4 hw4 => ?_)
          obtain ⟨F4, hR4, hw4⟩ := hw4
          refine V_iinc (q := 83) (ls' := [_, _, _]) dX8_once_80 rfl (by decide) rfl (by first | exact inc1 _ | rfl) rfl ?_
          refine V_goto (tgt := 61) dX8_once_83 (by decide) ?_
          exact ih F4 w4 hR4 (by rw [hw4]; exact up_eq) (fun j hj => by rw [hw4]; exact (up_ne hj).trans (a3 j hj))
      exact key 0 (Nat.zero_le _) F w1 hR hM1.2.1 (fun _ _ => rfl)
    · skip
      rw [if_neg hq]
      refine V_iconst (q := 35) (v := nI 1) dX8_once_34 rfl (by decide) ?_
      refine V_goto (tgt := 39) dX8_once_35 (by decide) ?_
      refine V_iconst (q := 40) (v := nI 4) dX8_once_39 rfl (by decide) ?_
      refine V_aload_n (q := 41) dX8_once_40 rfl rfl rfl ?_
      refine GX8_9 (q := 44) rfl dX8_once_41 rfl (by first | assumption | exact up_eq | exact (up_ne (by omega)).trans (by first | assumption | exact up_eq | exact (up_ne (by omega)).trans (by first | assumption | exact up_eq | exact (up_ne (by omega)).trans (by first | assumption | exact up_eq)))) (by omega) (by rfl) ?_
      refine V_iconst (q := 45) (v := nI 1) dX8_once_44 rfl (by decide) ?_
      refine V_ialdN (q := 46) dX8_once_45 rfl (by first | assumption | exact up_eq | exact (up_ne (by omega)).trans (by first | assumption | exact up_eq | exact (up_ne (by omega)).trans (by first | assumption | exact up_eq | exact (up_ne (by omega)).trans (by first | assumption | exact up_eq)))) (by omega) (by omega) (by omega) rfl f1 ?_
      refine CiX8_112 (q := 49) rfl dX8_once_46 rfl (m_refuse hX) ⟨(Nat.le_of_ble_eq_true rfl), (Nat.le_of_ble_eq_true rfl)⟩ (Nat.le_of_ble_eq_true rfl) (by first | assumption | exact up_eq | exact (up_ne (by omega)).trans (by first | assumption | exact up_eq | exact (up_ne (by omega)).trans (by first | assumption | exact up_eq | exact (up_ne (by omega)).trans (by first | assumption | exact up_eq)))) (by omega) (Nat.zero_le _) (Nat.zero_le _) (fun u2 w1 hw1 => ?_)
      obtain ⟨rfl, hM1, hF1⟩ := hw1
      refine V_if_eq (q := 52) (tgt := 55) dX8_once_49 (by decide) rfl (fun h9 => absurd h9 (by decide)) (fun _ => ?_)
      refine V_bipush (q := 54) (v := (-3)) dX8_once_52 rfl (by decide) ?_
      exact V_iret dX8_once_54 rfl (Nat.le_of_ble_eq_true rfl) (Nat.le_of_ble_eq_true rfl) (⟨rfl, _, rfl, MOP.ref hX hM1 hR hF1⟩)
  · have ea : onceA (nI i) N = (-3, N, some q) := by
      unfold onceA
      rw [idx_yes hi (by omega)]
      show (match outA N (sR N i) with | some d => _ | none => _) = _
      rw [hd]
    rw [ea]
    refine V_if_ne (q := 18) (tgt := 52) dX8_once_15 (by decide) rfl (fun _ => ?_) (fun h9 => absurd h9 (by decide))
    refine V_bipush (q := 54) (v := (-3)) dX8_once_52 rfl (by decide) ?_
    exact V_iret dX8_once_54 rfl (Nat.le_of_ble_eq_true rfl) (Nat.le_of_ble_eq_true rfl) (⟨rfl, _, rfl, hM⟩)
end MO
