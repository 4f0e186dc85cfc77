/-! the model: swap, lift, row -/
theorem nonneg_is {x : Int32} (h : ¬ x < 0) : ∃ t, t < 2 ^ 31 ∧ x = nI t := by
  have h1 : 0 ≤ x.toInt := by
    rw [fa_lt] at h
    have e0 : (0 : Int32).toInt = 0 := by decide
    omega
  have h2 := Int32.toInt_lt x
  refine ⟨x.toInt.toNat, by omega, ?_⟩
  rw [fa_eq, nI_toInt (by omega)]
  omega
section MO
variable {g : GG} {l : Launch} {w : HW} {n p : Nat} {K : MS} {F Fs Fb : Nat → Int32} {pk : Nat} {Hs : Nat → StT} {C T : Nat → Int32} {N : StT}
theorem sw_sml : ∀ h, h < 10 → ∀ a, a < 8 → ∀ b, b < 8 → a < b → (nI h + nI b - nI a = nI (h + (b - a))) ∧ (nI h - nI b + nI a = (if h < b - a then nI h - nI (b - a) else nI (h - (b - a)))) := by decide +kernel
theorem sw_neg : ∀ h, h < 10 → ∀ d, d < 8 → h < d → nI h - nI d < 0 := by decide +kernel
theorem M_swap (h : MBd g w n p K F Fs Fb pk Hs C T) (hI : kIn K = 0 ∨ kIn K = 1) (hR : RN F N) {x y z : Int32} : CtI g l MX8_swap 3 [rf g p, .int x, .int y, .int z] w n (MOP g w n p K Fs Fb pk Hs C T N (swapA x y z N)) := by
  have hX := h
  obtain ⟨h0, h1, -, -, -, -, -, -, hn, -⟩ := h
  have hc6 := hR.2.2.1.1
  have hpn : p + 1 < n := by omega
  rcases i3_lt x (sC N) (by omega) with hx | ⟨i, hi, rfl⟩
  · rw [show swapA x y z N = (-1, N, none) by unfold swapA; rw [idx_no hx]]
    refine Ct.ofs (M := MX8_swap) (ls := [some _, some _, some _, some _, none, none]) (by decide +kernel) (by exact (Nat.le_of_ble_eq_true rfl)) (by rfl) (by rfl) (by rfl) ?_
    refine V_aload_n (q := 1) dX8_swap_0 rfl rfl rfl ?_
    refine V_iload_n (q := 2) dX8_swap_1 rfl rfl ?_
    refine CrX8_123 (q := 5) rfl dX8_swap_2 rfl (m_isRow_out h0 h1 (by omega) hR hx) ⟨(Nat.le_of_ble_eq_true rfl), (Nat.le_of_ble_eq_true rfl)⟩ (Nat.le_of_ble_eq_true rfl) (by first | assumption | exact up_eq | exact (up_ne (by omega)).trans (by first | assumption | exact up_eq | exact (up_ne (by omega)).trans (by first | assumption | exact up_eq | exact (up_ne (by omega)).trans (by first | assumption | exact up_eq)))) (by omega) (Nat.zero_le _) (Nat.zero_le _) ?_
    refine V_if_eq (q := 8) (tgt := 26) dX8_swap_5 (by decide) rfl (fun _ => ?_) (fun h9 => absurd rfl h9)
    refine V_iconst (q := 27) (v := (-1)) dX8_swap_26 rfl (by decide) ?_
    exact V_iret dX8_swap_27 rfl (Nat.le_of_ble_eq_true rfl) (Nat.le_of_ble_eq_true rfl) (⟨rfl, _, rfl, MOP.no hX hR (by decide)⟩)
  obtain ⟨i0, i1, i2⟩ := hR.2.2.1.2 i hi
  refine Ct.ofs (M := MX8_swap) (ls := [some _, some _, some _, some _, none, none]) (by decide +kernel) (by exact (Nat.le_of_ble_eq_true rfl)) (by rfl) (by rfl) (by rfl) ?_
  refine V_aload_n (q := 1) dX8_swap_0 rfl rfl rfl ?_
  refine V_iload_n (q := 2) dX8_swap_1 rfl rfl ?_
  refine CrX8_123 (q := 5) rfl dX8_swap_2 rfl (m_isRow_in h0 h1 hpn hR hi) ⟨(Nat.le_of_ble_eq_true rfl), (Nat.le_of_ble_eq_true rfl)⟩ (Nat.le_of_ble_eq_true rfl) (by first | assumption | exact up_eq | exact (up_ne (by omega)).trans (by first | assumption | exact up_eq | exact (up_ne (by omega)).trans (by first | assumption | exact up_eq | exact (up_ne (by omega)).trans (by first | assumption | exact up_eq)))) (by omega) (Nat.zero_le _) (Nat.zero_le _) ?_
  refine V_if_eq (q := 8) (tgt := 26) dX8_swap_5 (by decide) rfl (fun h9 => absurd h9 (by decide)) (fun _ => ?_)
  refine V_aload_n (q := 9) dX8_swap_8 rfl rfl rfl ?_
  refine V_iload_n (q := 10) dX8_swap_9 rfl rfl ?_
  refine V_iload_n (q := 11) dX8_swap_10 rfl rfl ?_
  rcases i3_lt y (sR N i).1 (by omega) with hy | ⟨a, ha, rfl⟩
  · rw [show swapA (nI i) y z N = (-1, N, none) by unfold swapA; rw [idx_yes hi (by omega)]; show (match idx y (sR N i).1 with | none => _ | some a => _) = _; rw [idx_no hy]]
    refine CrX8_127 (q := 14) rfl dX8_swap_11 rfl (m_isBeat_out h0 h1 hpn hR hi hy) ⟨(Nat.le_of_ble_eq_true rfl), (Nat.le_of_ble_eq_true rfl)⟩ (Nat.le_of_ble_eq_true rfl) (by first | assumption | exact up_eq | exact (up_ne (by omega)).trans (by first | assumption | exact up_eq | exact (up_ne (by omega)).trans (by first | assumption | exact up_eq | exact (up_ne (by omega)).trans (by first | assumption | exact up_eq)))) (by omega) (Nat.zero_le _) (Nat.zero_le _) ?_
    refine V_if_eq (q := 17) (tgt := 26) dX8_swap_14 (by decide) rfl (fun _ => ?_) (fun h9 => absurd rfl h9)
    refine V_iconst (q := 27) (v := (-1)) dX8_swap_26 rfl (by decide) ?_
    exact V_iret dX8_swap_27 rfl (Nat.le_of_ble_eq_true rfl) (Nat.le_of_ble_eq_true rfl) (⟨rfl, _, rfl, MOP.no hX hR (by decide)⟩)
  refine CrX8_127 (q := 14) rfl dX8_swap_11 rfl (m_isBeat_in h0 h1 hpn hR hi ha) ⟨(Nat.le_of_ble_eq_true rfl), (Nat.le_of_ble_eq_true rfl)⟩ (Nat.le_of_ble_eq_true rfl) (by first | assumption | exact up_eq | exact (up_ne (by omega)).trans (by first | assumption | exact up_eq | exact (up_ne (by omega)).trans (by first | assumption | exact up_eq | exact (up_ne (by omega)).trans (by first | assumption | exact up_eq)))) (by omega) (Nat.zero_le _) (Nat.zero_le _) ?_
  refine V_if_eq (q := 17) (tgt := 26) dX8_swap_14 (by decide) rfl (fun h9 => absurd h9 (by decide)) (fun _ => ?_)
  refine V_aload_n (q := 18) dX8_swap_17 rfl rfl rfl ?_
  refine V_iload_n (q := 19) dX8_swap_18 rfl rfl ?_
  refine V_iload_n (q := 20) dX8_swap_19 rfl rfl ?_
  rcases i3_lt z (sR N i).1 (by omega) with hz | ⟨c, hc, rfl⟩
  · rw [show swapA (nI i) (nI a) z N = (-1, N, none) by
      unfold swapA
      rw [idx_yes hi (by omega)]
      show (match idx (nI a) (sR N i).1 with | none => _ | some a => _) = _
      rw [idx_yes ha (by omega)]
      show (match idx z (sR N i).1 with | none => _ | some b => _) = _
      rw [idx_no hz]]
    refine CrX8_127 (q := 23) rfl dX8_swap_20 rfl (m_isBeat_out h0 h1 hpn hR hi hz) ⟨(Nat.le_of_ble_eq_true rfl), (Nat.le_of_ble_eq_true rfl)⟩ (Nat.le_of_ble_eq_true rfl) (by first | assumption | exact up_eq | exact (up_ne (by omega)).trans (by first | assumption | exact up_eq | exact (up_ne (by omega)).trans (by first | assumption | exact up_eq | exact (up_ne (by omega)).trans (by first | assumption | exact up_eq)))) (by omega) (Nat.zero_le _) (Nat.zero_le _) ?_
    refine V_if_ne (q := 26) (tgt := 28) dX8_swap_23 (by decide) rfl (fun h9 => absurd rfl h9) (fun _ => ?_)
    refine V_iconst (q := 27) (v := (-1)) dX8_swap_26 rfl (by decide) ?_
    exact V_iret dX8_swap_27 rfl (Nat.le_of_ble_eq_true rfl) (Nat.le_of_ble_eq_true rfl) (⟨rfl, _, rfl, MOP.no hX hR (by decide)⟩)
  have ea : swapA (nI i) (nI a) (nI c) N = if c ≤ a then (-3, N, some (7, nI a)) else if 9 < (sR N i).2 c + (c - a) then (-3, N, some (2, nI a)) else if (sR N i).2 a < c - a then (-3, N, some (2, nI c)) else (nI ((sR N i).2 c + (c - a)), setR N i ((sR N i).1, swpN (sR N i).2 a c), none) := by
    unfold swapA
    rw [idx_yes hi (by omega)]
    show (match idx (nI a) (sR N i).1 with | none => _ | some a => _) = _
    rw [idx_yes (by omega) (by omega)]
    show (match idx (nI c) (sR N i).1 with | none => _ | some b => _) = _
    rw [idx_yes (by omega) (by omega)]
  have hha9 := i2 a ha
  have hhc9 := i2 c hc
  rw [ea]
  refine CrX8_127 (q := 23) rfl dX8_swap_20 rfl (m_isBeat_in h0 h1 hpn hR hi hc) ⟨(Nat.le_of_ble_eq_true rfl), (Nat.le_of_ble_eq_true rfl)⟩ (Nat.le_of_ble_eq_true rfl) (by first | assumption | exact up_eq | exact (up_ne (by omega)).trans (by first | assumption | exact up_eq | exact (up_ne (by omega)).trans (by first | assumption | exact up_eq | exact (up_ne (by omega)).trans (by first | assumption | exact up_eq)))) (by omega) (Nat.zero_le _) (Nat.zero_le _) ?_
  refine V_if_ne (q := 26) (tgt := 28) dX8_swap_23 (by decide) rfl (fun _ => ?_) (fun h9 => absurd h9 (by decide))
  refine V_aload_n (q := 29) dX8_swap_28 rfl rfl rfl ?_
  refine V_iload_n (q := 30) dX8_swap_29 rfl rfl ?_
  refine V_iload_n (q := 31) dX8_swap_30 rfl rfl ?_
  refine CrX8_79 (q := 34) rfl dX8_swap_31 rfl (m_thrown h0 h1 hpn hR hi hc) ⟨(Nat.le_of_ble_eq_true rfl), (Nat.le_of_ble_eq_true rfl)⟩ (Nat.le_of_ble_eq_true rfl) (by first | assumption | exact up_eq | exact (up_ne (by omega)).trans (by first | assumption | exact up_eq | exact (up_ne (by omega)).trans (by first | assumption | exact up_eq | exact (up_ne (by omega)).trans (by first | assumption | exact up_eq)))) (by omega) (Nat.zero_le _) (Nat.zero_le _) ?_
  by_cases q1 : c ≤ a
  · rw [if_pos q1]
    refine V_iload_n (q := 35) dX8_swap_34 rfl rfl ?_
    refine V_iadd (q := 36) dX8_swap_35 rfl (by first | exact nI_add _ _ | rfl) ?_
    refine V_iload_n (q := 37) dX8_swap_36 rfl rfl ?_
    refine V_isub (q := 38) dX8_swap_37 rfl rfl ?_
    refine V_istore (q := 40) (ls' := [_, _, _, _, _, _]) dX8_swap_38 rfl (by decide) rfl ?_
    refine V_aload_n (q := 41) dX8_swap_40 rfl rfl rfl ?_
    refine V_iload_n (q := 42) dX8_swap_41 rfl rfl ?_
    refine V_iload_n (q := 43) dX8_swap_42 rfl rfl ?_
    refine CrX8_79 (q := 46) rfl dX8_swap_43 rfl (m_thrown h0 h1 hpn hR hi ha) ⟨(Nat.le_of_ble_eq_true rfl), (Nat.le_of_ble_eq_true rfl)⟩ (Nat.le_of_ble_eq_true rfl) (by first | assumption | exact up_eq | exact (up_ne (by omega)).trans (by first | assumption | exact up_eq | exact (up_ne (by omega)).trans (by first | assumption | exact up_eq | exact (up_ne (by omega)).trans (by first | assumption | exact up_eq)))) (by omega) (Nat.zero_le _) (Nat.zero_le _) ?_
    refine V_iload_n (q := 47) dX8_swap_46 rfl rfl ?_
    refine V_isub (q := 48) dX8_swap_47 rfl rfl ?_
    refine V_iload_n (q := 49) dX8_swap_48 rfl rfl ?_
    refine V_iadd (q := 50) dX8_swap_49 rfl rfl ?_
    refine V_istore (q := 52) (ls' := [_, _, _, _, _, _]) dX8_swap_50 rfl (by decide) rfl ?_
    refine V_aload_n (q := 53) dX8_swap_52 rfl rfl rfl ?_
    refine V_iload_n (q := 54) dX8_swap_53 rfl rfl ?_
    refine V_iload_n (q := 55) dX8_swap_54 rfl rfl ?_
    refine V_icmpN_lt (q := 58) (tgt := 62) dX8_swap_55 (by decide) rfl (by omega) (by omega) (fun h9 => by first | exact h9.elim | exact absurd h9 (by assumption) | (exfalso; omega)) (fun _ => ?_)
    refine V_iconst (q := 59) (v := nI 1) dX8_swap_58 rfl (by decide) ?_
    refine V_goto (tgt := 63) dX8_swap_59 (by decide) ?_
    refine V_bipush (q := 65) (v := nI 7) dX8_swap_63 rfl (by decide) ?_
    refine V_iload_n (q := 66) dX8_swap_65 rfl rfl ?_
    refine CiX8_112 (q := 69) rfl dX8_swap_66 rfl (m_refuse hX) ⟨(Nat.le_of_ble_eq_true rfl), (Nat.le_of_ble_eq_true rfl)⟩ (Nat.le_of_ble_eq_true rfl) (by first | assumption | exact up_eq | exact (up_ne (by omega)).trans (by first | assumption | exact up_eq | exact (up_ne (by omega)).trans (by first | assumption | exact up_eq | exact (up_ne (by omega)).trans (by first | assumption | exact up_eq)))) (by omega) (Nat.zero_le _) (Nat.zero_le _) (fun u w1 hw1 => ?_)
    obtain ⟨rfl, hM1, hF1⟩ := hw1
    refine V_if_ne (q := 72) (tgt := 109) dX8_swap_69 (by decide) rfl (fun _ => ?_) (fun h9 => absurd h9 (by decide))
    refine V_bipush (q := 111) (v := (-3)) dX8_swap_109 rfl (by decide) ?_
    exact V_iret dX8_swap_111 rfl (Nat.le_of_ble_eq_true rfl) (Nat.le_of_ble_eq_true rfl) (⟨rfl, _, rfl, MOP.ref hX hM1 hR hF1⟩)
  obtain ⟨s1, -⟩ := sw_sml _ (by omega : (sR N i).2 c < 10) a (by omega) c (by omega) (by omega)
  obtain ⟨-, s2⟩ := sw_sml _ (by omega : (sR N i).2 a < 10) a (by omega) c (by omega) (by omega)
  rw [if_neg q1]
  refine V_iload_n (q := 35) dX8_swap_34 rfl rfl ?_
  refine V_iadd (q := 36) dX8_swap_35 rfl rfl ?_
  refine V_iload_n (q := 37) dX8_swap_36 rfl rfl ?_
  refine V_isub (q := 38) dX8_swap_37 rfl s1 ?_
  refine V_istore (q := 40) (ls' := [_, _, _, _, _, _]) dX8_swap_38 rfl (by decide) rfl ?_
  refine V_aload_n (q := 41) dX8_swap_40 rfl rfl rfl ?_
  refine V_iload_n (q := 42) dX8_swap_41 rfl rfl ?_
  refine V_iload_n (q := 43) dX8_swap_42 rfl rfl ?_
  refine CrX8_79 (q := 46) rfl dX8_swap_43 rfl (m_thrown h0 h1 hpn hR hi ha) ⟨(Nat.le_of_ble_eq_true rfl), (Nat.le_of_ble_eq_true rfl)⟩ (Nat.le_of_ble_eq_true rfl) (by first | assumption | exact up_eq | exact (up_ne (by omega)).trans (by first | assumption | exact up_eq | exact (up_ne (by omega)).trans (by first | assumption | exact up_eq | exact (up_ne (by omega)).trans (by first | assumption | exact up_eq)))) (by omega) (Nat.zero_le _) (Nat.zero_le _) ?_
  by_cases q3 : (sR N i).2 a < c - a
  · rw [if_pos q3] at s2
    refine V_iload_n (q := 47) dX8_swap_46 rfl rfl ?_
    refine V_isub (q := 48) dX8_swap_47 rfl rfl ?_
    refine V_iload_n (q := 49) dX8_swap_48 rfl rfl ?_
    refine V_iadd (q := 50) dX8_swap_49 rfl s2 ?_
    refine V_istore (q := 52) (ls' := [_, _, _, _, _, _]) dX8_swap_50 rfl (by decide) rfl ?_
    refine V_aload_n (q := 53) dX8_swap_52 rfl rfl rfl ?_
    refine V_iload_n (q := 54) dX8_swap_53 rfl rfl ?_
    refine V_iload_n (q := 55) dX8_swap_54 rfl rfl ?_
    refine V_icmpN_lt (q := 58) (tgt := 62) dX8_swap_55 (by decide) rfl (by omega) (by omega) (fun _ => ?_) (fun h9 => by first | exact h9.elim | (exfalso; omega))
    refine V_iconst (q := 63) (v := nI 0) dX8_swap_62 rfl (by decide) ?_
    refine V_bipush (q := 65) (v := nI 7) dX8_swap_63 rfl (by decide) ?_
    refine V_iload_n (q := 66) dX8_swap_65 rfl rfl ?_
    refine CiX8_112 (q := 69) rfl dX8_swap_66 rfl (m_refuse_no (by omega)) ⟨(Nat.le_of_ble_eq_true rfl), (Nat.le_of_ble_eq_true rfl)⟩ (Nat.le_of_ble_eq_true rfl) (by first | assumption | exact up_eq | exact (up_ne (by omega)).trans (by first | assumption | exact up_eq | exact (up_ne (by omega)).trans (by first | assumption | exact up_eq | exact (up_ne (by omega)).trans (by first | assumption | exact up_eq)))) (by omega) (Nat.zero_le _) (Nat.zero_le _) (fun u w1 hw1 => ?_)
    obtain ⟨rfl, rfl⟩ := hw1
    refine V_if_ne (q := 72) (tgt := 109) dX8_swap_69 (by decide) rfl (fun h9 => absurd rfl h9) (fun _ => ?_)
    refine V_aload_n (q := 73) dX8_swap_72 rfl rfl rfl ?_
    refine V_iload (q := 75) dX8_swap_73 rfl rfl ?_
    refine V_bipush (q := 77) (v := nI 9) dX8_swap_75 rfl (by decide) ?_
    refine V_icmpN_gt (q := 80) (tgt := 85) dX8_swap_77 (by decide) rfl (by omega) (by omega) (fun q2 => ?_) (fun q2 => ?_)
    · skip
      rw [if_pos q2]
      refine V_iconst (q := 86) (v := nI 1) dX8_swap_85 rfl (by decide) ?_
      refine V_goto (tgt := 90) dX8_swap_86 (by decide) ?_
      refine V_iconst (q := 91) (v := nI 2) dX8_swap_90 rfl (by decide) ?_
      refine V_iload (q := 93) dX8_swap_91 rfl rfl ?_
      refine V_bipush (q := 95) (v := nI 9) dX8_swap_93 rfl (by decide) ?_
      refine V_icmpN_le (q := 98) (tgt := 102) dX8_swap_95 (by decide) rfl (by omega) (by omega) (fun h9 => by first | exact h9.elim | exact absurd h9 (by assumption) | (exfalso; omega)) (fun _ => ?_)
      refine V_iload_n (q := 99) dX8_swap_98 rfl rfl ?_
      refine V_goto (tgt := 103) dX8_swap_99 (by decide) ?_
      refine CiX8_112 (q := 106) rfl dX8_swap_103 rfl (m_refuse hX) ⟨(Nat.le_of_ble_eq_true rfl), (Nat.le_of_ble_eq_true rfl)⟩ (Nat.le_of_ble_eq_true rfl) (by first | assumption | exact up_eq | exact (up_ne (by omega)).trans (by first | assumption | exact up_eq | exact (up_ne (by omega)).trans (by first | assumption | exact up_eq | exact (up_ne (by omega)).trans (by first | assumption | exact up_eq)))) (by omega) (Nat.zero_le _) (Nat.zero_le _) (fun u w1 hw1 => ?_)
      obtain ⟨rfl, hM1, hF1⟩ := hw1
      refine V_if_eq (q := 109) (tgt := 112) dX8_swap_106 (by decide) rfl (fun h9 => absurd h9 (by decide)) (fun _ => ?_)
      refine V_bipush (q := 111) (v := (-3)) dX8_swap_109 rfl (by decide) ?_
      exact V_iret dX8_swap_111 rfl (Nat.le_of_ble_eq_true rfl) (Nat.le_of_ble_eq_true rfl) (⟨rfl, _, rfl, MOP.ref hX hM1 hR hF1⟩)
    · skip
      rw [if_neg (by omega), if_pos q3]
      refine V_iload (q := 82) dX8_swap_80 rfl rfl ?_
      refine V_if_ge (q := 85) (tgt := 89) dX8_swap_82 (by decide) rfl (fun h9 => absurd h9 (fun q => (fa_of_lt (sw_neg _ (by omega) _ (by omega) q3)).2.1 q)) (fun _ => ?_)
      refine V_iconst (q := 86) (v := nI 1) dX8_swap_85 rfl (by decide) ?_
      refine V_goto (tgt := 90) dX8_swap_86 (by decide) ?_
      refine V_iconst (q := 91) (v := nI 2) dX8_swap_90 rfl (by decide) ?_
      refine V_iload (q := 93) dX8_swap_91 rfl rfl ?_
      refine V_bipush (q := 95) (v := nI 9) dX8_swap_93 rfl (by decide) ?_
      refine V_icmpN_le (q := 98) (tgt := 102) dX8_swap_95 (by decide) rfl (by omega) (by omega) (fun _ => ?_) (fun h9 => by first | exact h9.elim | (exfalso; omega))
      refine V_iload_n (q := 103) dX8_swap_102 rfl rfl ?_
      refine CiX8_112 (q := 106) rfl dX8_swap_103 rfl (m_refuse hX) ⟨(Nat.le_of_ble_eq_true rfl), (Nat.le_of_ble_eq_true rfl)⟩ (Nat.le_of_ble_eq_true rfl) (by first | assumption | exact up_eq | exact (up_ne (by omega)).trans (by first | assumption | exact up_eq | exact (up_ne (by omega)).trans (by first | assumption | exact up_eq | exact (up_ne (by omega)).trans (by first | assumption | exact up_eq)))) (by omega) (Nat.zero_le _) (Nat.zero_le _) (fun u w1 hw1 => ?_)
      obtain ⟨rfl, hM1, hF1⟩ := hw1
      refine V_if_eq (q := 109) (tgt := 112) dX8_swap_106 (by decide) rfl (fun h9 => absurd h9 (by decide)) (fun _ => ?_)
      refine V_bipush (q := 111) (v := (-3)) dX8_swap_109 rfl (by decide) ?_
      exact V_iret dX8_swap_111 rfl (Nat.le_of_ble_eq_true rfl) (Nat.le_of_ble_eq_true rfl) (⟨rfl, _, rfl, MOP.ref hX hM1 hR hF1⟩)
  · rw [if_neg q3] at s2
    refine V_iload_n (q := 47) dX8_swap_46 rfl rfl ?_
    refine V_isub (q := 48) dX8_swap_47 rfl rfl ?_
    refine V_iload_n (q := 49) dX8_swap_48 rfl rfl ?_
    refine V_iadd (q := 50) dX8_swap_49 rfl s2 ?_
    refine V_istore (q := 52) (ls' := [_, _, _, _, _, _]) dX8_swap_50 rfl (by decide) rfl ?_
    refine V_aload_n (q := 53) dX8_swap_52 rfl rfl rfl ?_
    refine V_iload_n (q := 54) dX8_swap_53 rfl rfl ?_
    refine V_iload_n (q := 55) dX8_swap_54 rfl rfl ?_
    refine V_icmpN_lt (q := 58) (tgt := 62) dX8_swap_55 (by decide) rfl (by omega) (by omega) (fun _ => ?_) (fun h9 => by first | exact h9.elim | (exfalso; omega))
    refine V_iconst (q := 63) (v := nI 0) dX8_swap_62 rfl (by decide) ?_
    refine V_bipush (q := 65) (v := nI 7) dX8_swap_63 rfl (by decide) ?_
    refine V_iload_n (q := 66) dX8_swap_65 rfl rfl ?_
    refine CiX8_112 (q := 69) rfl dX8_swap_66 rfl (m_refuse_no (by omega)) ⟨(Nat.le_of_ble_eq_true rfl), (Nat.le_of_ble_eq_true rfl)⟩ (Nat.le_of_ble_eq_true rfl) (by first | assumption | exact up_eq | exact (up_ne (by omega)).trans (by first | assumption | exact up_eq | exact (up_ne (by omega)).trans (by first | assumption | exact up_eq | exact (up_ne (by omega)).trans (by first | assumption | exact up_eq)))) (by omega) (Nat.zero_le _) (Nat.zero_le _) (fun u w1 hw1 => ?_)
    obtain ⟨rfl, rfl⟩ := hw1
    refine V_if_ne (q := 72) (tgt := 109) dX8_swap_69 (by decide) rfl (fun h9 => absurd rfl h9) (fun _ => ?_)
    refine V_aload_n (q := 73) dX8_swap_72 rfl rfl rfl ?_
    refine V_iload (q := 75) dX8_swap_73 rfl rfl ?_
    refine V_bipush (q := 77) (v := nI 9) dX8_swap_75 rfl (by decide) ?_
    refine V_icmpN_gt (q := 80) (tgt := 85) dX8_swap_77 (by decide) rfl (by omega) (by omega) (fun q2 => ?_) (fun q2 => ?_)
    · skip
      rw [if_pos q2]
      refine V_iconst (q := 86) (v := nI 1) dX8_swap_85 rfl (by decide) ?_
      refine V_goto (tgt := 90) dX8_swap_86 (by decide) ?_
      refine V_iconst (q := 91) (v := nI 2) dX8_swap_90 rfl (by decide) ?_
      refine V_iload (q := 93) dX8_swap_91 rfl rfl ?_
      refine V_bipush (q := 95) (v := nI 9) dX8_swap_93 rfl (by decide) ?_
      refine V_icmpN_le (q := 98) (tgt := 102) dX8_swap_95 (by decide) rfl (by omega) (by omega) (fun h9 => by first | exact h9.elim | exact absurd h9 (by assumption) | (exfalso; omega)) (fun _ => ?_)
      refine V_iload_n (q := 99) dX8_swap_98 rfl rfl ?_
      refine V_goto (tgt := 103) dX8_swap_99 (by decide) ?_
      refine CiX8_112 (q := 106) rfl dX8_swap_103 rfl (m_refuse hX) ⟨(Nat.le_of_ble_eq_true rfl), (Nat.le_of_ble_eq_true rfl)⟩ (Nat.le_of_ble_eq_true rfl) (by first | assumption | exact up_eq | exact (up_ne (by omega)).trans (by first | assumption | exact up_eq | exact (up_ne (by omega)).trans (by first | assumption | exact up_eq | exact (up_ne (by omega)).trans (by first | assumption | exact up_eq)))) (by omega) (Nat.zero_le _) (Nat.zero_le _) (fun u w1 hw1 => ?_)
      obtain ⟨rfl, hM1, hF1⟩ := hw1
      refine V_if_eq (q := 109) (tgt := 112) dX8_swap_106 (by decide) rfl (fun h9 => absurd h9 (by decide)) (fun _ => ?_)
      refine V_bipush (q := 111) (v := (-3)) dX8_swap_109 rfl (by decide) ?_
      exact V_iret dX8_swap_111 rfl (Nat.le_of_ble_eq_true rfl) (Nat.le_of_ble_eq_true rfl) (⟨rfl, _, rfl, MOP.ref hX hM1 hR hF1⟩)
    · skip
      rw [if_neg (by omega), if_neg q3]
      refine V_iload (q := 82) dX8_swap_80 rfl rfl ?_
      refine V_ifN_ge (q := 85) (tgt := 89) dX8_swap_82 (by decide) rfl (by omega) (fun _ => ?_) (fun h9 => by first | exact h9.elim | (exfalso; omega))
      refine V_iconst (q := 90) (v := nI 0) dX8_swap_89 rfl (by decide) ?_
      refine V_iconst (q := 91) (v := nI 2) dX8_swap_90 rfl (by decide) ?_
      refine V_iload (q := 93) dX8_swap_91 rfl rfl ?_
      refine V_bipush (q := 95) (v := nI 9) dX8_swap_93 rfl (by decide) ?_
      refine V_icmpN_le (q := 98) (tgt := 102) dX8_swap_95 (by decide) rfl (by omega) (by omega) (fun _ => ?_) (fun h9 => by first | exact h9.elim | (exfalso; omega))
      refine V_iload_n (q := 103) dX8_swap_102 rfl rfl ?_
      refine CiX8_112 (q := 106) rfl dX8_swap_103 rfl (m_refuse_no (by omega)) ⟨(Nat.le_of_ble_eq_true rfl), (Nat.le_of_ble_eq_true rfl)⟩ (Nat.le_of_ble_eq_true rfl) (by first | assumption | exact up_eq | exact (up_ne (by omega)).trans (by first | assumption | exact up_eq | exact (up_ne (by omega)).trans (by first | assumption | exact up_eq | exact (up_ne (by omega)).trans (by first | assumption | exact up_eq)))) (by omega) (Nat.zero_le _) (Nat.zero_le _) (fun u w2 hw2 => ?_)
      obtain ⟨rfl, rfl⟩ := hw2
      refine V_if_eq (q := 109) (tgt := 112) dX8_swap_106 (by decide) rfl (fun _ => ?_) (fun h9 => absurd rfl h9)
      refine V_aload_n (q := 113) dX8_swap_112 rfl rfl rfl ?_
      refine CvX8_116 (q := 116) rfl dX8_swap_113 rfl (m_chg hX hI hR) ⟨(Nat.le_of_ble_eq_true rfl), (Nat.le_of_ble_eq_true rfl)⟩ (Nat.le_of_ble_eq_true rfl) (by first | assumption | exact up_eq | exact (up_ne (by omega)).trans (by first | assumption | exact up_eq | exact (up_ne (by omega)).trans (by first | assumption | exact up_eq | exact (up_ne (by omega)).trans (by first | assumption | exact up_eq)))) (by omega) (Nat.zero_le _) (Nat.zero_le _) (fun w1 hw1 => ?_)
      obtain ⟨hM1, hF1⟩ := hw1
      have b0 := hM1.1
      have b1 := hM1.2.1
      refine V_aload_n (q := 117) dX8_swap_116 rfl rfl rfl ?_
      refine V_iload_n (q := 118) dX8_swap_117 rfl rfl ?_
      refine V_iload_n (q := 119) dX8_swap_118 rfl rfl ?_
      refine V_iload (q := 121) dX8_swap_119 rfl rfl ?_
      refine CvX8_119 (q := 124) rfl dX8_swap_121 rfl (m_putThrow b0 b1 hn (i := i) (j := a) (by omega) (by omega)) ⟨(Nat.le_of_ble_eq_true rfl), (Nat.le_of_ble_eq_true rfl)⟩ (Nat.le_of_ble_eq_true rfl) (by first | assumption | exact up_eq | exact (up_ne (by omega)).trans (by first | assumption | exact up_eq | exact (up_ne (by omega)).trans (by first | assumption | exact up_eq | exact (up_ne (by omega)).trans (by first | assumption | exact up_eq)))) (by omega) (Nat.zero_le _) (Nat.zero_le _) (fun w3 hw3 => ?_)
      subst hw3
      have c0 := (hM1.now (F' := upd F (9 + 9 * i + 1 + a) (nI ((sR N i).2 c + (c - a))))).1.1
      have c1 := (hM1.now (F' := upd F (9 + 9 * i + 1 + a) (nI ((sR N i).2 c + (c - a))))).1.2.1
      refine V_aload_n (q := 125) dX8_swap_124 rfl rfl rfl ?_
      refine V_iload_n (q := 126) dX8_swap_125 rfl rfl ?_
      refine V_iload_n (q := 127) dX8_swap_126 rfl rfl ?_
      refine V_iload (q := 129) dX8_swap_127 rfl rfl ?_
      refine CvX8_119 (q := 132) rfl dX8_swap_129 rfl (m_putThrow c0 c1 hn (i := i) (j := c) (by omega) (by omega)) ⟨(Nat.le_of_ble_eq_true rfl), (Nat.le_of_ble_eq_true rfl)⟩ (Nat.le_of_ble_eq_true rfl) (by first | assumption | exact up_eq | exact (up_ne (by omega)).trans (by first | assumption | exact up_eq | exact (up_ne (by omega)).trans (by first | assumption | exact up_eq | exact (up_ne (by omega)).trans (by first | assumption | exact up_eq)))) (by omega) (Nat.zero_le _) (Nat.zero_le _) (fun w4 hw4 => ?_)
      rw [up_up] at hw4
      have fin := hM1.now (F' := upd (upd F (9 + 9 * i + 1 + a) (nI ((sR N i).2 c + (c - a)))) (9 + 9 * i + 1 + c) (nI ((sR N i).2 a - (c - a))))
      rw [← hw4] at fin
      have hRf := RN.row hR hi (F' := upd (upd F (9 + 9 * i + 1 + a) (nI ((sR N i).2 c + (c - a)))) (9 + 9 * i + 1 + c) (nI ((sR N i).2 a - (c - a)))) (h' := swpN (sR N i).2 a c) (fun k hk => by rw [updN (by omega), updN (by omega)]) (fun j hj => by
        have := i2 j hj
        unfold swpN
        by_cases z1 : j = c
        · rw [z1, updI, if_neg (by omega), if_pos rfl]
          exact ⟨rfl, by omega⟩
        · rw [updN (by omega)]
          by_cases z2 : j = a
          · rw [z2, updI, if_pos rfl]
            exact ⟨rfl, by omega⟩
          · rw [updN (by omega), if_neg z2, if_neg z1]
            exact ⟨(hR.2.1 i hi).2 j hj, this⟩)
      refine V_iload (q := 134) dX8_swap_132 rfl rfl ?_
      exact V_iret dX8_swap_134 rfl (Nat.le_of_ble_eq_true rfl) (Nat.le_of_ble_eq_true rfl) (⟨rfl, _, rfl, MOP.yes (b := kLn K) fin.1 hRf (nIerr (by omega)) (hF1.tr fin.2)⟩)
theorem M_lift (h : MBd g w n p K F Fs Fb pk Hs C T) (hI : kIn K = 0 ∨ kIn K = 1) (hR : RN F N) {x : Int32} : CtI g l MX8_lift 3 [rf g p, .int x] w n (MOP g w n p K Fs Fb pk Hs C T N (liftA x N)) := by
  have hX := h
  obtain ⟨h0, h1, -, -, -, -, -, -, hn, -⟩ := h
  have hc6 := hR.2.2.1.1
  have hpn : p + 1 < n := by omega
  rcases i3_lt x (sC N) (by omega) with hx | ⟨i, hi, rfl⟩
  · rw [show liftA x N = (-1, N, none) by unfold liftA; rw [idx_no hx]]
    refine Ct.ofs (M := MX8_lift) (ls := [some _, some _, none]) (by decide +kernel) (by exact (Nat.le_of_ble_eq_true rfl)) (by rfl) (by rfl) (by rfl) ?_
    refine V_aload_n (q := 1) dX8_lift_0 rfl rfl rfl ?_
    refine V_iload_n (q := 2) dX8_lift_1 rfl rfl ?_
    refine CrX8_123 (q := 5) rfl dX8_lift_2 rfl (m_isRow_out h0 h1 (by omega) hR hx) ⟨(Nat.le_of_ble_eq_true rfl), (Nat.le_of_ble_eq_true rfl)⟩ (Nat.le_of_ble_eq_true rfl) (by first | assumption | exact up_eq | exact (up_ne (by omega)).trans (by first | assumption | exact up_eq | exact (up_ne (by omega)).trans (by first | assumption | exact up_eq | exact (up_ne (by omega)).trans (by first | assumption | exact up_eq)))) (by omega) (Nat.zero_le _) (Nat.zero_le _) ?_
    refine V_if_ne (q := 8) (tgt := 10) dX8_lift_5 (by decide) rfl (fun h9 => absurd rfl h9) (fun _ => ?_)
    refine V_iconst (q := 9) (v := (-1)) dX8_lift_8 rfl (by decide) ?_
    exact V_iret dX8_lift_9 rfl (Nat.le_of_ble_eq_true rfl) (Nat.le_of_ble_eq_true rfl) (⟨rfl, _, rfl, MOP.no hX hR (by decide)⟩)
  obtain ⟨i0, i1, i2⟩ := hR.2.2.1.2 i hi
  have ea : liftA (nI i) N = if fa_first (fun k => decide (9 ≤ (sR N i).2 k)) (sR N i).1 < (sR N i).1 then (-3, N, some (2, nI (fa_first (fun k => decide (9 ≤ (sR N i).2 k)) (sR N i).1))) else (ballI (upN (sR N i).2) (sR N i).1, setR N i ((sR N i).1, upN (sR N i).2), none) := by
    unfold liftA
    rw [idx_yes hi (by omega)]
  have hgd := liftA_ok (x := nI i) hR.2.2.2.1 hR.2.2.1
  have hqle := fa_first_le (fun k => decide (9 ≤ (sR N i).2 k)) (sR N i).1
  have hqno := fa_first_no (fun k => decide (9 ≤ (sR N i).2 k)) (sR N i).1
  have hqye := fa_first_yes (fun k => decide (9 ≤ (sR N i).2 k)) (sR N i).1
  rw [ea] at hgd
  generalize fa_first (fun k => decide (9 ≤ (sR N i).2 k)) (sR N i).1 = q at ea hqle hqno hqye hgd
  rw [ea]
  refine Ct.ofs (M := MX8_lift) (ls := [some _, some _, none]) (by decide +kernel) (by exact (Nat.le_of_ble_eq_true rfl)) (by rfl) (by rfl) (by rfl) ?_
  refine V_aload_n (q := 1) dX8_lift_0 rfl rfl rfl ?_
  refine V_iload_n (q := 2) dX8_lift_1 rfl rfl ?_
  refine CrX8_123 (q := 5) rfl dX8_lift_2 rfl (m_isRow_in h0 h1 hpn hR hi) ⟨(Nat.le_of_ble_eq_true rfl), (Nat.le_of_ble_eq_true rfl)⟩ (Nat.le_of_ble_eq_true rfl) (by first | assumption | exact up_eq | exact (up_ne (by omega)).trans (by first | assumption | exact up_eq | exact (up_ne (by omega)).trans (by first | assumption | exact up_eq | exact (up_ne (by omega)).trans (by first | assumption | exact up_eq)))) (by omega) (Nat.zero_le _) (Nat.zero_le _) ?_
  refine V_if_ne (q := 8) (tgt := 10) dX8_lift_5 (by decide) rfl (fun _ => ?_) (fun h9 => absurd h9 (by decide))
  refine V_iconst (q := 11) (v := nI 0) dX8_lift_10 rfl (by decide) ?_
  refine V_istore_n (q := 12) (ls' := [_, _, _]) dX8_lift_11 rfl (by decide) rfl ?_
  refine loopU (fun k => V g l MX8_lift (rmd 3 0 0) (FinM g (qI (MOP g w n p K Fs Fb pk Hs C T N (if q < (sR N i).1 then (-3, N, some (2, nI q)) else (ballI (upN (sR N i).2) (sR N i).1, setR N i ((sR N i).1, upN (sR N i).2), none))) n) 0 0) 12 [some (rf g p), some (.int (nI i)), some (.int (nI k))] [] (w) n 0 0) q ?_ ?_ 0 (Nat.zero_le _)
  · by_cases hq : q < (sR N i).1
    · have h9 := of_decide_eq_true (hqye hq)
      have h99 := i2 q hq
      rw [if_pos hq]
      refine V_iload_n (q := 13) dX8_lift_12 rfl rfl ?_
      refine V_aload_n (q := 14) dX8_lift_13 rfl rfl rfl ?_
      refine V_iload_n (q := 15) dX8_lift_14 rfl rfl ?_
      refine CrX8_75 (q := 18) rfl dX8_lift_15 rfl (m_lengthOf h0 h1 hpn hR hi) ⟨(Nat.le_of_ble_eq_true rfl), (Nat.le_of_ble_eq_true rfl)⟩ (Nat.le_of_ble_eq_true rfl) (by first | assumption | exact up_eq | exact (up_ne (by omega)).trans (by first | assumption | exact up_eq | exact (up_ne (by omega)).trans (by first | assumption | exact up_eq | exact (up_ne (by omega)).trans (by first | assumption | exact up_eq)))) (by omega) (Nat.zero_le _) (Nat.zero_le _) ?_
      refine V_icmpN_ge (q := 21) (tgt := 55) dX8_lift_18 (by decide) rfl (by omega) (by omega) (fun h9 => by first | exact h9.elim | exact absurd h9 (by assumption) | (exfalso; omega)) (fun _ => ?_)
      refine V_aload_n (q := 22) dX8_lift_21 rfl rfl rfl ?_
      refine V_aload_n (q := 23) dX8_lift_22 rfl rfl rfl ?_
      refine V_iload_n (q := 24) dX8_lift_23 rfl rfl ?_
      refine V_iload_n (q := 25) dX8_lift_24 rfl rfl ?_
      refine CrX8_79 (q := 28) rfl dX8_lift_25 rfl (m_thrown h0 h1 hpn hR hi hq) ⟨(Nat.le_of_ble_eq_true rfl), (Nat.le_of_ble_eq_true rfl)⟩ (Nat.le_of_ble_eq_true rfl) (by first | assumption | exact up_eq | exact (up_ne (by omega)).trans (by first | assumption | exact up_eq | exact (up_ne (by omega)).trans (by first | assumption | exact up_eq | exact (up_ne (by omega)).trans (by first | assumption | exact up_eq)))) (by omega) (Nat.zero_le _) (Nat.zero_le _) ?_
      refine V_bipush (q := 30) (v := nI 9) dX8_lift_28 rfl (by decide) ?_
      refine V_icmpN_ne (q := 33) (tgt := 37) dX8_lift_30 (by decide) rfl (by omega) (by omega) (fun h9 => by first | exact h9.elim | exact absurd h9 (by assumption) | (exfalso; omega)) (fun _ => ?_)
      refine V_iconst (q := 34) (v := nI 1) dX8_lift_33 rfl (by decide) ?_
      refine V_goto (tgt := 38) dX8_lift_34 (by decide) ?_
      refine V_iconst (q := 39) (v := nI 2) dX8_lift_38 rfl (by decide) ?_
      refine V_iload_n (q := 40) dX8_lift_39 rfl rfl ?_
      refine CiX8_112 (q := 43) rfl dX8_lift_40 rfl (m_refuse hX) ⟨(Nat.le_of_ble_eq_true rfl), (Nat.le_of_ble_eq_true rfl)⟩ (Nat.le_of_ble_eq_true rfl) (by first | assumption | exact up_eq | exact (up_ne (by omega)).trans (by first | assumption | exact up_eq | exact (up_ne (by omega)).trans (by first | assumption | exact up_eq | exact (up_ne (by omega)).trans (by first | assumption | exact up_eq)))) (by omega) (Nat.zero_le _) (Nat.zero_le _) (fun u w1 hw1 => ?_)
      obtain ⟨rfl, hM1, hF1⟩ := hw1
      refine V_if_eq (q := 46) (tgt := 49) dX8_lift_43 (by decide) rfl (fun h9 => absurd h9 (by decide)) (fun _ => ?_)
      refine V_bipush (q := 48) (v := (-3)) dX8_lift_46 rfl (by decide) ?_
      exact V_iret dX8_lift_48 rfl (Nat.le_of_ble_eq_true rfl) (Nat.le_of_ble_eq_true rfl) (⟨rfl, _, rfl, MOP.ref hX hM1 hR hF1⟩)
    · rw [if_neg hq] at hgd ⊢
      have hup : ∀ j, j < (sR N i).1 → upN (sR N i).2 j ≤ 9 := fun j hj => by
        have := of_decide_eq_false (hqno j (by omega))
        show (sR N i).2 j + 1 ≤ 9
        omega
      have hne : ¬ isErr (ballI (upN (sR N i).2) (sR N i).1) := by
        intro e
        have hd := divL_le i0 hup
        unfold ballI at e
        by_cases hcl : clN (upN (sR N i).2) (sR N i).1 = (sR N i).1
        · rw [if_pos hcl] at e; exact nIerr (by omega) e
        · rw [if_neg hcl] at e; exact absurd (show isErr (-4 : Int32) from e) (by decide)
      refine V_iload_n (q := 13) dX8_lift_12 rfl rfl ?_
      refine V_aload_n (q := 14) dX8_lift_13 rfl rfl rfl ?_
      refine V_iload_n (q := 15) dX8_lift_14 rfl rfl ?_
      refine CrX8_75 (q := 18) rfl dX8_lift_15 rfl (m_lengthOf h0 h1 hpn hR hi) ⟨(Nat.le_of_ble_eq_true rfl), (Nat.le_of_ble_eq_true rfl)⟩ (Nat.le_of_ble_eq_true rfl) (by first | assumption | exact up_eq | exact (up_ne (by omega)).trans (by first | assumption | exact up_eq | exact (up_ne (by omega)).trans (by first | assumption | exact up_eq | exact (up_ne (by omega)).trans (by first | assumption | exact up_eq)))) (by omega) (Nat.zero_le _) (Nat.zero_le _) ?_
      refine V_icmpN_ge (q := 21) (tgt := 55) dX8_lift_18 (by decide) rfl (by omega) (by omega) (fun _ => ?_) (fun h9 => by first | exact h9.elim | (exfalso; omega))
      refine V_aload_n (q := 56) dX8_lift_55 rfl rfl rfl ?_
      refine CvX8_116 (q := 59) rfl dX8_lift_56 rfl (m_chg hX hI hR) ⟨(Nat.le_of_ble_eq_true rfl), (Nat.le_of_ble_eq_true rfl)⟩ (Nat.le_of_ble_eq_true rfl) (by first | assumption | exact up_eq | exact (up_ne (by omega)).trans (by first | assumption | exact up_eq | exact (up_ne (by omega)).trans (by first | assumption | exact up_eq | exact (up_ne (by omega)).trans (by first | assumption | exact up_eq)))) (by omega) (Nat.zero_le _) (Nat.zero_le _) (fun w1 hw1 => ?_)
      obtain ⟨hM1, hF1⟩ := hw1
      have b0 := hM1.1
      have b1 := hM1.2.1
      refine V_iconst (q := 60) (v := nI 0) dX8_lift_59 rfl (by decide) ?_
      refine V_istore_n (q := 61) (ls' := [_, _, _]) dX8_lift_60 rfl (by decide) rfl ?_
      have key : ∀ k, k ≤ (sR N i).1 → ∀ F1 w2, (∀ j, (j < 9 + 9 * i + 1 ∨ 9 + 9 * i + 1 + k ≤ j) → F1 j = F j) → (∀ j, j < k → F1 (9 + 9 * i + 1 + j) = nI (upN (sR N i).2 j)) → w2 (p + 1) = eI g 63 F1 → (∀ j, j ≠ p + 1 → w2 j = w1 j) → V g l MX8_lift (rmd 3 0 0) (FinM g (qI (MOP g w n p K Fs Fb pk Hs C T N (ballI (upN (sR N i).2) (sR N i).1, setR N i ((sR N i).1, upN (sR N i).2), none)) n) 0 0) 61 [some (rf g p), some (.int (nI i)), some (.int (nI k))] [] (w2) n 0 0 := by
        refine loopU (fun k => ∀ F1 w2, (∀ j, (j < 9 + 9 * i + 1 ∨ 9 + 9 * i + 1 + k ≤ j) → F1 j = F j) → (∀ j, j < k → F1 (9 + 9 * i + 1 + j) = nI (upN (sR N i).2 j)) → w2 (p + 1) = eI g 63 F1 → (∀ j, j ≠ p + 1 → w2 j = w1 j) → V g l MX8_lift (rmd 3 0 0) (FinM g (qI (MOP g w n p K Fs Fb pk Hs C T N (ballI (upN (sR N i).2) (sR N i).1, setR N i ((sR N i).1, upN (sR N i).2), none)) n) 0 0) 61 [some (rf g p), some (.int (nI i)), some (.int (nI k))] [] (w2) n 0 0) (sR N i).1 ?_ ?_
        · intro F1 w2 a1 a2 a3 a4
          have fin := hM1.now (F' := F1)
          rw [← up_is a3 a4] at fin
          have c0 := fin.1.1
          have hRf := RN.row hR hi (F' := F1) (h' := upN (sR N i).2) (fun k hk => a1 k hk) (fun j hj => ⟨a2 j hj, hup j hj⟩)
          have hrow : sR (setR N i ((sR N i).1, upN (sR N i).2)) i = ((sR N i).1, upN (sR N i).2) := if_pos rfl
          have hln := m_lengthOf (l := l) c0 a3 hpn hRf (i := i) hi
          have hba := m_ballsOf (l := l) c0 a3 hpn hRf (i := i) hi
          rw [hrow] at hln hba
          refine V_iload_n (q := 62) dX8_lift_61 rfl rfl ?_
          refine V_aload_n (q := 63) dX8_lift_62 rfl rfl rfl ?_
          refine V_iload_n (q := 64) dX8_lift_63 rfl rfl ?_
          refine CrX8_75 (q := 67) rfl dX8_lift_64 rfl (hln) ⟨(Nat.le_of_ble_eq_true rfl), (Nat.le_of_ble_eq_true rfl)⟩ (Nat.le_of_ble_eq_true rfl) (by first | assumption | exact up_eq | exact (up_ne (by omega)).trans (by first | assumption | exact up_eq | exact (up_ne (by omega)).trans (by first | assumption | exact up_eq | exact (up_ne (by omega)).trans (by first | assumption | exact up_eq)))) (by omega) (Nat.zero_le _) (Nat.zero_le _) ?_
          refine V_icmpN_ge (q := 70) (tgt := 90) dX8_lift_67 (by decide) rfl (by omega) (by omega) (fun _ => ?_) (fun h9 => by first | exact h9.elim | (exfalso; omega))
          refine V_aload_n (q := 91) dX8_lift_90 rfl rfl rfl ?_
          refine V_iload_n (q := 92) dX8_lift_91 rfl rfl ?_
          refine CrX8_103 (q := 95) rfl dX8_lift_92 rfl (hba) ⟨(Nat.le_of_ble_eq_true rfl), (Nat.le_of_ble_eq_true rfl)⟩ (Nat.le_of_ble_eq_true rfl) (by first | assumption | exact up_eq | exact (up_ne (by omega)).trans (by first | assumption | exact up_eq | exact (up_ne (by omega)).trans (by first | assumption | exact up_eq | exact (up_ne (by omega)).trans (by first | assumption | exact up_eq)))) (by omega) (Nat.zero_le _) (Nat.zero_le _) ?_
          skip
          refine CrX8_130 (q := 98) rfl dX8_lift_95 rfl (m_orNothing) ⟨(Nat.le_of_ble_eq_true rfl), (Nat.le_of_ble_eq_true rfl)⟩ (Nat.le_of_ble_eq_true rfl) (Nat.zero_le _) (Nat.zero_le _) ?_
          refine V_topi (orN_ba i0 hup) ?_
          skip
          exact V_iret dX8_lift_98 rfl (Nat.le_of_ble_eq_true rfl) (Nat.le_of_ble_eq_true rfl) (⟨rfl, _, rfl, MOP.yes (b := kLn K) fin.1 hRf hne (hF1.tr fin.2)⟩)
        · intro k hk ih F1 w2 a1 a2 a3 a4
          have c0 : w2 p = eO 8 (mfs g p (setKp K (nI (pkC K pk)))) := (a4 _ (by omega)).trans b0
          have el : F1 (9 + 9 * i) = nI (sR N i).1 := (a1 _ (by omega)).trans (hR.2.1 i hi).1
          have ev : F1 (9 + 9 * i + 1 + k) = nI ((sR N i).2 k) := (a1 _ (by omega)).trans ((hR.2.1 i hi).2 k hk)
          have hth : CtR g l MX8_thrown 0 [rf g p, .int (nI i), .int (nI k)] w2 n (.int (nI ((sR N i).2 k))) := by
            refine Ct.ofs (M := MX8_thrown) (ls := [some _, some _, some _]) (by decide +kernel) (by exact (Nat.le_of_ble_eq_true rfl)) (by rfl) (by rfl) (by rfl) ?_
            refine V_aload_n (q := 1) dX8_thrown_0 rfl rfl rfl ?_
            refine GX8_9 (q := 4) rfl dX8_thrown_1 rfl (by first | assumption | exact up_eq | exact (up_ne (by omega)).trans (by first | assumption | exact up_eq | exact (up_ne (by omega)).trans (by first | assumption | exact up_eq | exact (up_ne (by omega)).trans (by first | assumption | exact up_eq)))) (by omega) (by rfl) ?_
            refine V_bipush (q := 6) (v := nI 9) dX8_thrown_4 rfl (by decide) ?_
            refine V_bipush (q := 8) (v := nI 9) dX8_thrown_6 rfl (by decide) ?_
            refine V_iload_n (q := 9) dX8_thrown_8 rfl rfl ?_
            refine V_imul (q := 10) dX8_thrown_9 rfl (by first | exact pk_mul _ _ | rfl) ?_
            refine V_iadd (q := 11) dX8_thrown_10 rfl (by first | exact nI_add _ _ | rfl) ?_
            refine V_iconst (q := 12) (v := nI 1) dX8_thrown_11 rfl (by decide) ?_
            refine V_iadd (q := 13) dX8_thrown_12 rfl (by first | exact nI_add _ _ | rfl) ?_
            refine V_iload_n (q := 14) dX8_thrown_13 rfl rfl ?_
            refine V_iadd (q := 15) dX8_thrown_14 rfl (by first | exact nI_add _ _ | rfl) ?_
            refine V_ialdN (q := 16) dX8_thrown_15 rfl (by first | assumption | exact up_eq | exact (up_ne (by omega)).trans (by first | assumption | exact up_eq | exact (up_ne (by omega)).trans (by first | assumption | exact up_eq | exact (up_ne (by omega)).trans (by first | assumption | exact up_eq)))) (by omega) (by omega) (by omega) rfl ev ?_
            exact V_iret dX8_thrown_16 rfl (Nat.le_of_ble_eq_true rfl) (Nat.le_of_ble_eq_true rfl) (⟨rfl, rfl, rfl⟩)
          have hln : CtR g l MX8_lengthOf 0 [rf g p, .int (nI i)] w2 n (.int (nI (sR N i).1)) := by
            refine Ct.ofs (M := MX8_lengthOf) (ls := [some _, some _]) (by decide +kernel) (by exact (Nat.le_of_ble_eq_true rfl)) (by rfl) (by rfl) (by rfl) ?_
            refine V_aload_n (q := 1) dX8_lengthOf_0 rfl rfl rfl ?_
            refine GX8_9 (q := 4) rfl dX8_lengthOf_1 rfl (by first | assumption | exact up_eq | exact (up_ne (by omega)).trans (by first | assumption | exact up_eq | exact (up_ne (by omega)).trans (by first | assumption | exact up_eq | exact (up_ne (by omega)).trans (by first | assumption | exact up_eq)))) (by omega) (by rfl) ?_
            refine V_bipush (q := 6) (v := nI 9) dX8_lengthOf_4 rfl (by decide) ?_
            refine V_bipush (q := 8) (v := nI 9) dX8_lengthOf_6 rfl (by decide) ?_
            refine V_iload_n (q := 9) dX8_lengthOf_8 rfl rfl ?_
            refine V_imul (q := 10) dX8_lengthOf_9 rfl (by first | exact pk_mul _ _ | rfl) ?_
            refine V_iadd (q := 11) dX8_lengthOf_10 rfl (by first | exact nI_add _ _ | rfl) ?_
            refine V_ialdN (q := 12) dX8_lengthOf_11 rfl (by first | assumption | exact up_eq | exact (up_ne (by omega)).trans (by first | assumption | exact up_eq | exact (up_ne (by omega)).trans (by first | assumption | exact up_eq | exact (up_ne (by omega)).trans (by first | assumption | exact up_eq)))) (by omega) (by omega) (by omega) rfl el ?_
            exact V_iret dX8_lengthOf_12 rfl (Nat.le_of_ble_eq_true rfl) (Nat.le_of_ble_eq_true rfl) (⟨rfl, rfl, rfl⟩)
          refine V_iload_n (q := 62) dX8_lift_61 rfl rfl ?_
          refine V_aload_n (q := 63) dX8_lift_62 rfl rfl rfl ?_
          refine V_iload_n (q := 64) dX8_lift_63 rfl rfl ?_
          refine CrX8_75 (q := 67) rfl dX8_lift_64 rfl (hln) ⟨(Nat.le_of_ble_eq_true rfl), (Nat.le_of_ble_eq_true rfl)⟩ (Nat.le_of_ble_eq_true rfl) (by first | assumption | exact up_eq | exact (up_ne (by omega)).trans (by first | assumption | exact up_eq | exact (up_ne (by omega)).trans (by first | assumption | exact up_eq | exact (up_ne (by omega)).trans (by first | assumption | exact up_eq)))) (by omega) (Nat.zero_le _) (Nat.zero_le _) ?_
          refine V_icmpN_ge (q := 70) (tgt := 90) dX8_lift_67 (by decide) rfl (by omega) (by omega) (fun h9 => by first | exact h9.elim | exact absurd h9 (by assumption) | (exfalso; omega)) (fun _ => ?_)
          refine V_aload_n (q := 71) dX8_lift_70 rfl rfl rfl ?_
          refine V_iload_n (q := 72) dX8_lift_71 rfl rfl ?_
          refine V_iload_n (q := 73) dX8_lift_72 rfl rfl ?_
          refine V_aload_n (q := 74) dX8_lift_73 rfl rfl rfl ?_
          refine V_iload_n (q := 75) dX8_lift_74 rfl rfl ?_
          refine V_iload_n (q := 76) dX8_lift_75 rfl rfl ?_
          refine CrX8_79 (q := 79) rfl dX8_lift_76 rfl (hth) ⟨(Nat.le_of_ble_eq_true rfl), (Nat.le_of_ble_eq_true rfl)⟩ (Nat.le_of_ble_eq_true rfl) (by first | assumption | exact up_eq | exact (up_ne (by omega)).trans (by first | assumption | exact up_eq | exact (up_ne (by omega)).trans (by first | assumption | exact up_eq | exact (up_ne (by omega)).trans (by first | assumption | exact up_eq)))) (by omega) (Nat.zero_le _) (Nat.zero_le _) ?_
          refine V_iconst (q := 80) (v := nI 1) dX8_lift_79 rfl (by decide) ?_
          refine V_iadd (q := 81) dX8_lift_80 rfl (by first | exact nI_add _ _ | rfl) ?_
          refine CvX8_119 (q := 84) rfl dX8_lift_81 rfl (m_putThrow c0 a3 hn (i := i) (j := k) (by omega) (by omega)) ⟨(Nat.le_of_ble_eq_true rfl), (Nat.le_of_ble_eq_true rfl)⟩ (Nat.le_of_ble_eq_true rfl) (by first | assumption | exact up_eq | exact (up_ne (by omega)).trans (by first | assumption | exact up_eq | exact (up_ne (by omega)).trans (by first | assumption | exact up_eq | exact (up_ne (by omega)).trans (by first | assumption | exact up_eq)))) (by omega) (Nat.zero_le _) (Nat.zero_le _) (fun w3 hw3 => ?_)
          subst hw3
          refine V_iinc (q := 87) (ls' := [_, _, _]) dX8_lift_84 rfl (by decide) rfl (by first | exact inc1 _ | rfl) rfl ?_
          refine V_goto (tgt := 61) dX8_lift_87 (by decide) ?_
          refine ih (upd F1 (9 + 9 * i + 1 + k) (nI ((sR N i).2 k + 1))) _ (fun j hj => by rw [updN (by omega)]; exact a1 j (by omega)) (fun j hj => ?_) up_eq (fun j hj => (up_ne hj).trans (a4 j hj))
          by_cases e : j = k
          · rw [e, updI]; rfl
          · rw [updN (by omega)]; exact a2 j (by omega)
      exact key 0 (Nat.zero_le _) F w1 (fun _ _ => rfl) (fun j hj => absurd hj (Nat.not_lt_zero j)) b1 (fun _ _ => rfl)
  · intro k hk ih
    have hkL : k < (sR N i).1 := by omega
    have := of_decide_eq_false (hqno k hk)
    refine V_iload_n (q := 13) dX8_lift_12 rfl rfl ?_
    refine V_aload_n (q := 14) dX8_lift_13 rfl rfl rfl ?_
    refine V_iload_n (q := 15) dX8_lift_14 rfl rfl ?_
    refine CrX8_75 (q := 18) rfl dX8_lift_15 rfl (m_lengthOf h0 h1 hpn hR hi) ⟨(Nat.le_of_ble_eq_true rfl), (Nat.le_of_ble_eq_true rfl)⟩ (Nat.le_of_ble_eq_true rfl) (by first | assumption | exact up_eq | exact (up_ne (by omega)).trans (by first | assumption | exact up_eq | exact (up_ne (by omega)).trans (by first | assumption | exact up_eq | exact (up_ne (by omega)).trans (by first | assumption | exact up_eq)))) (by omega) (Nat.zero_le _) (Nat.zero_le _) ?_
    refine V_icmpN_ge (q := 21) (tgt := 55) dX8_lift_18 (by decide) rfl (by omega) (by omega) (fun h9 => by first | exact h9.elim | exact absurd h9 (by assumption) | (exfalso; omega)) (fun _ => ?_)
    refine V_aload_n (q := 22) dX8_lift_21 rfl rfl rfl ?_
    refine V_aload_n (q := 23) dX8_lift_22 rfl rfl rfl ?_
    refine V_iload_n (q := 24) dX8_lift_23 rfl rfl ?_
    refine V_iload_n (q := 25) dX8_lift_24 rfl rfl ?_
    refine CrX8_79 (q := 28) rfl dX8_lift_25 rfl (m_thrown h0 h1 hpn hR hi hkL) ⟨(Nat.le_of_ble_eq_true rfl), (Nat.le_of_ble_eq_true rfl)⟩ (Nat.le_of_ble_eq_true rfl) (by first | assumption | exact up_eq | exact (up_ne (by omega)).trans (by first | assumption | exact up_eq | exact (up_ne (by omega)).trans (by first | assumption | exact up_eq | exact (up_ne (by omega)).trans (by first | assumption | exact up_eq)))) (by omega) (Nat.zero_le _) (Nat.zero_le _) ?_
    refine V_bipush (q := 30) (v := nI 9) dX8_lift_28 rfl (by decide) ?_
    refine V_icmpN_ne (q := 33) (tgt := 37) dX8_lift_30 (by decide) rfl (by omega) (by omega) (fun _ => ?_) (fun h9 => by first | exact h9.elim | (exfalso; omega))
    refine V_iconst (q := 38) (v := nI 0) dX8_lift_37 rfl (by decide) ?_
    refine V_iconst (q := 39) (v := nI 2) dX8_lift_38 rfl (by decide) ?_
    refine V_iload_n (q := 40) dX8_lift_39 rfl rfl ?_
    refine CiX8_112 (q := 43) rfl dX8_lift_40 rfl (m_refuse_no (by omega)) ⟨(Nat.le_of_ble_eq_true rfl), (Nat.le_of_ble_eq_true rfl)⟩ (Nat.le_of_ble_eq_true rfl) (by first | assumption | exact up_eq | exact (up_ne (by omega)).trans (by first | assumption | exact up_eq | exact (up_ne (by omega)).trans (by first | assumption | exact up_eq | exact (up_ne (by omega)).trans (by first | assumption | exact up_eq)))) (by omega) (Nat.zero_le _) (Nat.zero_le _) (fun u w1 hw1 => ?_)
    obtain ⟨rfl, rfl⟩ := hw1
    refine V_if_eq (q := 46) (tgt := 49) dX8_lift_43 (by decide) rfl (fun _ => ?_) (fun h9 => absurd rfl h9)
    refine V_iinc (q := 52) (ls' := [_, _, _]) dX8_lift_49 rfl (by decide) rfl (by first | exact inc1 _ | rfl) rfl ?_
    refine V_goto (tgt := 12) dX8_lift_52 (by decide) ?_
    exact ih
end MO
