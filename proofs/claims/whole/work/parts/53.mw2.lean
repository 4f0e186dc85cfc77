/-! the model: the other answers -/
def setWr (K : MS) (x : Int32) : MS := (kKp K, kRe K, kDe K, kIT K, kCm K, kSv K, kIn K, kLn K, x, kRd K, kAt K, kWh K, kOn K, kOt K, kTh K, kWg K)
def setRd (K : MS) (x : Int32) : MS := (kKp K, kRe K, kDe K, kIT K, kCm K, kSv K, kIn K, kLn K, kWr K, x, kAt K, kWh K, kOn K, kOt K, kTh K, kWg K)
def setSv (K : MS) (x : Int32) : MS := (kKp K, kRe K, kDe K, kIT K, kCm K, x, kIn K, kLn K, kWr K, kRd K, kAt K, kWh K, kOn K, kOt K, kTh K, kWg K)
section MW
variable {g : GG} {l : Launch} {w : HW} {n p : Nat} {X : XT} {K : MS} {F Fs Fb C T : Nat → Int32} {pk : Nat} {Hs : Nat → StT} {N : StT}
theorem MBd.line {K' : MS} {C' : Nat → Int32} (h : MBd g w n p K F Fs Fb pk Hs C T) (hk : kKp K' = kKp K) : MBd g (va_up (va_up w (p + 17) (eC g 600 C')) p (eO 8 (mfs g p K'))) n p K' F Fs Fb pk Hs C' T ∧ FrM w (va_up (va_up w (p + 17) (eC g 600 C')) p (eO 8 (mfs g p K'))) p := by
  obtain ⟨h0, h1, h2, h3, ⟨Hf, h4, h5⟩, ⟨Q, P, B, J, q1, q2, q3, q4⟩, h7, h8, h9, h10, h11⟩ := h
  have hw : ∀ i, i ≠ p → i ≠ p + 17 → va_up (va_up w (p + 17) (eC g 600 C')) p (eO 8 (mfs g p K')) i = w i := fun i a1 a2 => (up_ne a1).trans (up_ne a2)
  exact ⟨⟨up_eq, (hw _ (by omega) (by omega)).trans h1, (hw _ (by omega) (by omega)).trans h2, (hw _ (by omega) (by omega)).trans h3, ⟨Hf, h4.frame (fun i _ _ => hw i (by omega) (by omega)), h5⟩, ⟨Q, P, B, J, (hw _ (by omega) (by omega)).trans q1, (hw _ (by omega) (by omega)).trans q2, (hw _ (by omega) (by omega)).trans q3, (hw _ (by omega) (by omega)).trans q4⟩, (up_ne (by omega)).trans up_eq, (hw _ (by omega) (by omega)).trans h8, h9, hk.trans h10, h11⟩, fun i hi => hw i (by omega) (by omega)⟩
theorem MBd.text {K' : MS} {T' : Nat → Int32} (h : MBd g w n p K F Fs Fb pk Hs C T) (hk : kKp K' = kKp K) : MBd g (va_up (va_up w (p + 18) (eI g 70 T')) p (eO 8 (mfs g p K'))) n p K' F Fs Fb pk Hs C T' ∧ FrM w (va_up (va_up w (p + 18) (eI g 70 T')) p (eO 8 (mfs g p K'))) p := by
  obtain ⟨h0, h1, h2, h3, ⟨Hf, h4, h5⟩, ⟨Q, P, B, J, q1, q2, q3, q4⟩, h7, h8, h9, h10, h11⟩ := h
  have hw : ∀ i, i ≠ p → i ≠ p + 18 → va_up (va_up w (p + 18) (eI g 70 T')) p (eO 8 (mfs g p K')) i = w i := fun i a1 a2 => (up_ne a1).trans (up_ne a2)
  exact ⟨⟨up_eq, (hw _ (by omega) (by omega)).trans h1, (hw _ (by omega) (by omega)).trans h2, (hw _ (by omega) (by omega)).trans h3, ⟨Hf, h4.frame (fun i _ _ => hw i (by omega) (by omega)), h5⟩, ⟨Q, P, B, J, (hw _ (by omega) (by omega)).trans q1, (hw _ (by omega) (by omega)).trans q2, (hw _ (by omega) (by omega)).trans q3, (hw _ (by omega) (by omega)).trans q4⟩, (hw _ (by omega) (by omega)).trans h7, (up_ne (by omega)).trans up_eq, h9, hk.trans h10, h11⟩, fun i hi => hw i (by omega) (by omega)⟩
theorem m_write (h : MBd g w n p K F Fs Fb pk Hs C T) {q c : Nat} (hq : kWr K = nI q) (hq6 : q < 600) (hc : c < 65536) : CtV g l MX8_write 0 [rf g p, .int (nI c)] w n (fun w' => MBd g w' n p (setWr K (nI (q + 1))) F Fs Fb pk Hs (upd C q (nI c)) T ∧ FrM w w' p ∧ ∀ i, i ≠ p → i ≠ p + 17 → w' i = w i) := by
  have hX := h
  obtain ⟨h0, h1, h2, h3, -, -, h7, h8, h9, h10, h11⟩ := h
  have hnr := narC hc
  refine Ct.ofs (M := MX8_write) (ls := [some _, some _]) (by decide +kernel) (by exact (Nat.le_of_ble_eq_true rfl)) (by rfl) (by rfl) (by rfl) ?_
  refine V_aload_n (q := 1) dX8_write_0 rfl rfl rfl ?_
  refine GX8_40 (q := 4) rfl dX8_write_1 rfl (by first | assumption | exact up_eq | exact (up_ne (by omega)).trans (by first | assumption | exact up_eq | exact (up_ne (by omega)).trans (by first | assumption | exact up_eq | exact (up_ne (by omega)).trans (by first | assumption | exact up_eq)))) (by omega) (by rfl) ?_
  refine V_aload_n (q := 5) dX8_write_4 rfl rfl rfl ?_
  refine GX8_170 (q := 8) rfl dX8_write_5 rfl (by first | assumption | exact up_eq | exact (up_ne (by omega)).trans (by first | assumption | exact up_eq | exact (up_ne (by omega)).trans (by first | assumption | exact up_eq | exact (up_ne (by omega)).trans (by first | assumption | exact up_eq)))) (by omega) (by rfl) ?_
  refine V_topi hq ?_
  refine V_iload_n (q := 9) dX8_write_8 rfl rfl ?_
  refine V_i2c (q := 10) dX8_write_9 rfl (i2cN hc) ?_
  refine V_castN (q := 11) dX8_write_10 rfl (by first | assumption | exact up_eq | exact (up_ne (by omega)).trans (by first | assumption | exact up_eq | exact (up_ne (by omega)).trans (by first | assumption | exact up_eq | exact (up_ne (by omega)).trans (by first | assumption | exact up_eq)))) (by omega) (by omega) (by omega) rfl (by assumption) (by rfl) ?_
  refine V_aload_n (q := 12) dX8_write_11 rfl rfl rfl ?_
  refine V_dup (q := 13) dX8_write_12 rfl rfl ?_
  refine GX8_170 (q := 16) rfl dX8_write_13 rfl (by first | assumption | exact up_eq | exact (up_ne (by omega)).trans (by first | assumption | exact up_eq | exact (up_ne (by omega)).trans (by first | assumption | exact up_eq | exact (up_ne (by omega)).trans (by first | assumption | exact up_eq)))) (by omega) (by rfl) ?_
  refine V_topi hq ?_
  refine V_iconst (q := 17) (v := nI 1) dX8_write_16 rfl (by decide) ?_
  refine V_iadd (q := 18) dX8_write_17 rfl (by first | exact nI_add _ _ | rfl) ?_
  refine PX8_170 (q := 21) (fs' := [_, _, _, _, _, _, _, _, _, _, _, _, _, _, _, _, _, _, _, _, _, _, _, _, _, _]) rfl dX8_write_18 rfl (by first | assumption | exact up_eq | exact (up_ne (by omega)).trans (by first | assumption | exact up_eq | exact (up_ne (by omega)).trans (by first | assumption | exact up_eq | exact (up_ne (by omega)).trans (by first | assumption | exact up_eq)))) (by omega) (by exact (Nat.le_of_ble_eq_true rfl)) (by rfl) ?_
  try rw [up_up]
  exact V_vret dX8_write_21 rfl (Nat.le_of_ble_eq_true rfl) (Nat.le_of_ble_eq_true rfl) (⟨rfl, rfl, (hX.line (K' := setWr K (nI (q + 1))) rfl).1, (hX.line (K' := setWr K (nI (q + 1))) rfl).2, fun i a1 a2 => (up_ne a1).trans (up_ne a2)⟩)
theorem Y_sign (h : MW g w n p X) {x : Int32} : CtR g l MX8_sign 1 [rf g p, .int x] w n (.int (sgnA x X)) := by
  obtain ⟨K, F, Fs, Fb, C, T, h⟩ := h
  obtain ⟨hX, hR, hSv, hsv, hH, hIn, ⟨l1, l2, l3⟩, hT, hRf⟩ := id h
  obtain ⟨h0, h1, hfs, hfb, hhi, hqq, hC, hTT, hn, hkp, hpk8⟩ := id hX
  rcases i3_lt x (xL X).1 (by omega) with hx | ⟨i, hi, rfl⟩
  · rw [show sgnA x X = -1 by unfold sgnA; rw [idx_no hx]]
    refine Ct.ofs (M := MX8_sign) (ls := [some _, some _]) (by decide +kernel) (by exact (Nat.le_of_ble_eq_true rfl)) (by rfl) (by rfl) (by rfl) ?_
    refine V_iload_n (q := 1) dX8_sign_0 rfl rfl ?_
    refine V_iconst (q := 2) (v := nI 0) dX8_sign_1 rfl (by decide) ?_
    refine V_aload_n (q := 3) dX8_sign_2 rfl rfl rfl ?_
    refine GX8_170 (q := 6) rfl dX8_sign_3 rfl (by first | assumption | exact up_eq | exact (up_ne (by omega)).trans (by first | assumption | exact up_eq | exact (up_ne (by omega)).trans (by first | assumption | exact up_eq | exact (up_ne (by omega)).trans (by first | assumption | exact up_eq)))) (by omega) (by rfl) ?_
    refine V_topi l1 ?_
    refine V_iconst (q := 7) (v := nI 1) dX8_sign_6 rfl (by decide) ?_
    refine V_isub (q := 8) dX8_sign_7 rfl rfl ?_
    refine CrX8_71 (q := 11) rfl dX8_sign_8 rfl (c_between) ⟨(Nat.le_of_ble_eq_true rfl), (Nat.le_of_ble_eq_true rfl)⟩ (Nat.le_of_ble_eq_true rfl) (Nat.zero_le _) (Nat.zero_le _) ?_
    refine V_topi (if_neg (bet_out hx (by omega))) ?_
    refine V_if_eq (q := 14) (tgt := 23) dX8_sign_11 (by decide) rfl (fun _ => ?_) (fun h9 => absurd rfl h9)
    refine V_iconst (q := 24) (v := (-1)) dX8_sign_23 rfl (by decide) ?_
    exact V_iret dX8_sign_24 rfl (Nat.le_of_ble_eq_true rfl) (Nat.le_of_ble_eq_true rfl) (⟨rfl, rfl, rfl⟩)
  · rw [show sgnA (nI i) X = nI ((xL X).2 i) by unfold sgnA; rw [idx_yes hi (by omega)]]
    have e := l3 i hi
    refine Ct.ofs (M := MX8_sign) (ls := [some _, some _]) (by decide +kernel) (by exact (Nat.le_of_ble_eq_true rfl)) (by rfl) (by rfl) (by rfl) ?_
    refine V_iload_n (q := 1) dX8_sign_0 rfl rfl ?_
    refine V_iconst (q := 2) (v := nI 0) dX8_sign_1 rfl (by decide) ?_
    refine V_aload_n (q := 3) dX8_sign_2 rfl rfl rfl ?_
    refine GX8_170 (q := 6) rfl dX8_sign_3 rfl (by first | assumption | exact up_eq | exact (up_ne (by omega)).trans (by first | assumption | exact up_eq | exact (up_ne (by omega)).trans (by first | assumption | exact up_eq | exact (up_ne (by omega)).trans (by first | assumption | exact up_eq)))) (by omega) (by rfl) ?_
    refine V_topi l1 ?_
    refine V_iconst (q := 7) (v := nI 1) dX8_sign_6 rfl (by decide) ?_
    refine V_isub (q := 8) dX8_sign_7 rfl rfl ?_
    refine CrX8_71 (q := 11) rfl dX8_sign_8 rfl (c_between) ⟨(Nat.le_of_ble_eq_true rfl), (Nat.le_of_ble_eq_true rfl)⟩ (Nat.le_of_ble_eq_true rfl) (Nat.zero_le _) (Nat.zero_le _) ?_
    refine V_topi (if_pos (bet_in hi (by omega))) ?_
    refine V_if_eq (q := 14) (tgt := 23) dX8_sign_11 (by decide) rfl (fun h9 => absurd h9 (by decide)) (fun _ => ?_)
    refine V_aload_n (q := 15) dX8_sign_14 rfl rfl rfl ?_
    refine GX8_40 (q := 18) rfl dX8_sign_15 rfl (by first | assumption | exact up_eq | exact (up_ne (by omega)).trans (by first | assumption | exact up_eq | exact (up_ne (by omega)).trans (by first | assumption | exact up_eq | exact (up_ne (by omega)).trans (by first | assumption | exact up_eq)))) (by omega) (by rfl) ?_
    refine V_iload_n (q := 19) dX8_sign_18 rfl rfl ?_
    refine V_caldN (q := 20) dX8_sign_19 rfl (by first | assumption | exact up_eq | exact (up_ne (by omega)).trans (by first | assumption | exact up_eq | exact (up_ne (by omega)).trans (by first | assumption | exact up_eq | exact (up_ne (by omega)).trans (by first | assumption | exact up_eq)))) (by omega) (by omega) (by omega) rfl e ?_
    refine V_goto (tgt := 24) dX8_sign_20 (by decide) ?_
    exact V_iret dX8_sign_24 rfl (Nat.le_of_ble_eq_true rfl) (Nat.le_of_ble_eq_true rfl) (⟨rfl, rfl, rfl⟩)
theorem Y_refusal (h : MW g w n p X) {x : Int32} : CtR g l MX8_refusal 1 [rf g p, .int x] w n (.int (refA x X)) := by
  obtain ⟨K, F, Fs, Fb, C, T, h⟩ := h
  obtain ⟨hX, hR, hSv, hsv, hH, hIn, hL, hT, ⟨r1, r2, r3, r4⟩⟩ := id h
  obtain ⟨h0, h1, hfs, hfb, hhi, hqq, hC, hTT, hn, hkp, hpk8⟩ := id hX
  rcases i3_lt x 3 (by decide) with hx | ⟨k, hk, rfl⟩
  · rw [show refA x X = -2 by unfold refA; rw [idx_no hx]]
    refine Ct.ofs (M := MX8_refusal) (ls := [some _, some _]) (by decide +kernel) (by exact (Nat.le_of_ble_eq_true rfl)) (by rfl) (by rfl) (by rfl) ?_
    refine V_iload_n (q := 1) dX8_refusal_0 rfl rfl ?_
    refine V_iconst (q := 2) (v := nI 0) dX8_refusal_1 rfl (by decide) ?_
    refine V_iconst (q := 3) (v := nI 2) dX8_refusal_2 rfl (by decide) ?_
    refine CrX8_71 (q := 6) rfl dX8_refusal_3 rfl (c_between) ⟨(Nat.le_of_ble_eq_true rfl), (Nat.le_of_ble_eq_true rfl)⟩ (Nat.le_of_ble_eq_true rfl) (Nat.zero_le _) (Nat.zero_le _) ?_
    refine V_topi (if_neg (bet_out (c := 3) hx (by decide))) ?_
    refine V_if_ne (q := 9) (tgt := 12) dX8_refusal_6 (by decide) rfl (fun h9 => absurd rfl h9) (fun _ => ?_)
    refine V_bipush (q := 11) (v := (-2)) dX8_refusal_9 rfl (by decide) ?_
    exact V_iret dX8_refusal_11 rfl (Nat.le_of_ble_eq_true rfl) (Nat.le_of_ble_eq_true rfl) (⟨rfl, rfl, rfl⟩)
  · rw [show refA (nI k) X = if (xR X).1 = 0 then -4 else if k = 0 then (xR X).1 else if k = 1 then (xR X).2.1 else (xR X).2.2.1 by unfold refA; rw [idx_yes hk (by decide)]]
    refine Ct.ofs (M := MX8_refusal) (ls := [some _, some _]) (by decide +kernel) (by exact (Nat.le_of_ble_eq_true rfl)) (by rfl) (by rfl) (by rfl) ?_
    refine V_iload_n (q := 1) dX8_refusal_0 rfl rfl ?_
    refine V_iconst (q := 2) (v := nI 0) dX8_refusal_1 rfl (by decide) ?_
    refine V_iconst (q := 3) (v := nI 2) dX8_refusal_2 rfl (by decide) ?_
    refine CrX8_71 (q := 6) rfl dX8_refusal_3 rfl (c_between) ⟨(Nat.le_of_ble_eq_true rfl), (Nat.le_of_ble_eq_true rfl)⟩ (Nat.le_of_ble_eq_true rfl) (Nat.zero_le _) (Nat.zero_le _) ?_
    refine V_topi (if_pos (bet_in (c := 3) hk (by decide))) ?_
    refine V_if_ne (q := 9) (tgt := 12) dX8_refusal_6 (by decide) rfl (fun _ => ?_) (fun h9 => absurd h9 (by decide))
    refine V_aload_n (q := 13) dX8_refusal_12 rfl rfl rfl ?_
    refine GX8_47 (q := 16) rfl dX8_refusal_13 rfl (by first | assumption | exact up_eq | exact (up_ne (by omega)).trans (by first | assumption | exact up_eq | exact (up_ne (by omega)).trans (by first | assumption | exact up_eq | exact (up_ne (by omega)).trans (by first | assumption | exact up_eq)))) (by omega) (by rfl) ?_
    refine V_topi r1 ?_
    refine V_if_eq (q := 19) (tgt := 31) dX8_refusal_16 (by decide) rfl (fun q0 => ?_) (fun q0 => ?_)
    · skip
      rw [if_pos q0]
      refine V_bipush (q := 33) (v := (-4)) dX8_refusal_31 rfl (by decide) ?_
      exact V_iret dX8_refusal_33 rfl (Nat.le_of_ble_eq_true rfl) (Nat.le_of_ble_eq_true rfl) (⟨rfl, rfl, rfl⟩)
    · skip
      rw [if_neg q0]
      have hcases := r4 q0
      have last : k ≠ 2 ∨ (¬ kIT K < 0 ∧ (xR X).2.2.1 = kIT K) → V g l MX8_refusal (rmd 1 0 0) (FinM g (qR (.int (if k = 0 then (xR X).1 else if k = 1 then (xR X).2.1 else (xR X).2.2.1)) w n) 0 0) 34 [some (rf g p), some (.int (nI k))] [] (w) n 0 0 := by
        intro hl
        refine V_iload_n (q := 35) dX8_refusal_34 rfl rfl ?_
        refine V_ifN_ne (q := 38) (tgt := 45) dX8_refusal_35 (by decide) rfl (by omega) (fun k0 => ?_) (fun k0 => ?_)
        · skip
          rw [if_neg k0]
          refine V_iload_n (q := 46) dX8_refusal_45 rfl rfl ?_
          refine V_iconst (q := 47) (v := nI 1) dX8_refusal_46 rfl (by decide) ?_
          refine V_icmpN_ne (q := 50) (tgt := 57) dX8_refusal_47 (by decide) rfl (by omega) (by omega) (fun k1 => ?_) (fun k1 => ?_)
          · skip
            rw [if_neg k1]
            have e := (hl.resolve_left (fun q => q (by omega))).2
            rw [e]
            refine V_aload_n (q := 58) dX8_refusal_57 rfl rfl rfl ?_
            refine GX8_24 (q := 61) rfl dX8_refusal_58 rfl (by first | assumption | exact up_eq | exact (up_ne (by omega)).trans (by first | assumption | exact up_eq | exact (up_ne (by omega)).trans (by first | assumption | exact up_eq | exact (up_ne (by omega)).trans (by first | assumption | exact up_eq)))) (by omega) (by rfl) ?_
            exact V_iret dX8_refusal_61 rfl (Nat.le_of_ble_eq_true rfl) (Nat.le_of_ble_eq_true rfl) (⟨rfl, rfl, rfl⟩)
          · skip
            rw [if_pos k1, ← r2]
            refine V_aload_n (q := 51) dX8_refusal_50 rfl rfl rfl ?_
            refine GX8_50 (q := 54) rfl dX8_refusal_51 rfl (by first | assumption | exact up_eq | exact (up_ne (by omega)).trans (by first | assumption | exact up_eq | exact (up_ne (by omega)).trans (by first | assumption | exact up_eq | exact (up_ne (by omega)).trans (by first | assumption | exact up_eq)))) (by omega) (by rfl) ?_
            refine V_goto (tgt := 61) dX8_refusal_54 (by decide) ?_
            exact V_iret dX8_refusal_61 rfl (Nat.le_of_ble_eq_true rfl) (Nat.le_of_ble_eq_true rfl) (⟨rfl, rfl, rfl⟩)
        · skip
          rw [if_pos k0, ← r1]
          refine V_aload_n (q := 39) dX8_refusal_38 rfl rfl rfl ?_
          refine GX8_47 (q := 42) rfl dX8_refusal_39 rfl (by first | assumption | exact up_eq | exact (up_ne (by omega)).trans (by first | assumption | exact up_eq | exact (up_ne (by omega)).trans (by first | assumption | exact up_eq | exact (up_ne (by omega)).trans (by first | assumption | exact up_eq)))) (by omega) (by rfl) ?_
          refine V_goto (tgt := 61) dX8_refusal_42 (by decide) ?_
          exact V_iret dX8_refusal_61 rfl (Nat.le_of_ble_eq_true rfl) (Nat.le_of_ble_eq_true rfl) (⟨rfl, rfl, rfl⟩)
      refine V_iload_n (q := 20) dX8_refusal_19 rfl rfl ?_
      refine V_iconst (q := 21) (v := nI 2) dX8_refusal_20 rfl (by decide) ?_
      refine V_icmpN_ne (q := 24) (tgt := 34) dX8_refusal_21 (by decide) rfl (by omega) (by omega) (fun k2 => ?_) (fun k2 => ?_)
      · skip
        exact last (Or.inl k2)
      · skip
        refine V_aload_n (q := 25) dX8_refusal_24 rfl rfl rfl ?_
        refine GX8_24 (q := 28) rfl dX8_refusal_25 rfl (by first | assumption | exact up_eq | exact (up_ne (by omega)).trans (by first | assumption | exact up_eq | exact (up_ne (by omega)).trans (by first | assumption | exact up_eq | exact (up_ne (by omega)).trans (by first | assumption | exact up_eq)))) (by omega) (by rfl) ?_
        refine V_if_ge (q := 31) (tgt := 34) dX8_refusal_28 (by decide) rfl (fun k3 => ?_) (fun k3 => ?_)
        · skip
          refine last (Or.inr (hcases.resolve_left (fun q => ?_)))
          exact (fa_of_lt q.1).2.1 k3
        · skip
          rcases hcases with ⟨q1, q2⟩ | ⟨q1, q2⟩
          · rw [if_neg (by omega), if_neg (by omega), q2]
            refine V_bipush (q := 33) (v := (-4)) dX8_refusal_31 rfl (by decide) ?_
            exact V_iret dX8_refusal_33 rfl (Nat.le_of_ble_eq_true rfl) (Nat.le_of_ble_eq_true rfl) (⟨rfl, rfl, rfl⟩)
          · exact absurd (fa_of_nle k3) q1
theorem Y_append (h : MW g w n p X) {x : Int32} : CtI g l MX8_append 1 [rf g p, .int x] w n (MP g w n p (appA x X)) := by
  obtain ⟨K, F, Fs, Fb, C, T, h⟩ := h
  obtain ⟨hX, hR, hSv, hsv, hH, hIn, hL, hT, hRf⟩ := id h
  obtain ⟨h0, h1, hfs, hfb, hhi, hqq, hC, hTT, hn, hkp, hpk8⟩ := id hX
  have hpn : p + 1 < n := by omega
  have hc6 := hR.2.2.1.1
  have hs := hR.2.2.2.1.1
  obtain ⟨t1, t2, t3⟩ := hT
  by_cases hb : nI 32 ≤ x ∧ x ≤ nI 126
  · obtain ⟨k, hk, rfl⟩ := nonneg_is (fun q => (fa_of_lt (fa_trans q (by decide : (0 : Int32) ≤ nI 32))).2.1 hb.1)
    rw [nI_leI (by decide) hk, nI_leI hk (by decide)] at hb
    have ea : appA (nI k) X = if k < 32 ∨ (xT X).1 = 70 then (-2, X) else (nI ((xT X).1 + 1), setT X ((xT X).1 + 1, putN (xT X).2 (xT X).1 k)) := by
      unfold appA
      rw [idx_yes (by omega) (by decide)]
    rw [ea]
    refine Ct.ofs (M := MX8_append) (ls := [some _, some _]) (by decide +kernel) (by exact (Nat.le_of_ble_eq_true rfl)) (by rfl) (by rfl) (by rfl) ?_
    refine V_iload_n (q := 1) dX8_append_0 rfl rfl ?_
    refine V_bipush (q := 3) (v := nI 32) dX8_append_1 rfl (by decide) ?_
    refine V_bipush (q := 5) (v := nI 126) dX8_append_3 rfl (by decide) ?_
    refine CrX8_71 (q := 8) rfl dX8_append_5 rfl (c_between) ⟨(Nat.le_of_ble_eq_true rfl), (Nat.le_of_ble_eq_true rfl)⟩ (Nat.le_of_ble_eq_true rfl) (Nat.zero_le _) (Nat.zero_le _) ?_
    refine V_topi (if_pos ⟨(nI_leI (by decide) hk).mpr hb.1, (nI_leI hk (by decide)).mpr hb.2⟩) ?_
    refine V_if_eq (q := 11) (tgt := 20) dX8_append_8 (by decide) rfl (fun h9 => absurd h9 (by decide)) (fun _ => ?_)
    refine V_aload_n (q := 12) dX8_append_11 rfl rfl rfl ?_
    refine GX8_176 (q := 15) rfl dX8_append_12 rfl (by first | assumption | exact up_eq | exact (up_ne (by omega)).trans (by first | assumption | exact up_eq | exact (up_ne (by omega)).trans (by first | assumption | exact up_eq | exact (up_ne (by omega)).trans (by first | assumption | exact up_eq)))) (by omega) (by rfl) ?_
    refine V_topi t1 ?_
    refine V_bipush (q := 17) (v := nI 70) dX8_append_15 rfl (by decide) ?_
    refine V_icmpN_ne (q := 20) (tgt := 23) dX8_append_17 (by decide) rfl (by omega) (by omega) (fun q7 => ?_) (fun q7 => ?_)
    · skip
      rw [if_neg (by omega)]
      refine V_aload_n (q := 24) dX8_append_23 rfl rfl rfl ?_
      refine GX8_44 (q := 27) rfl dX8_append_24 rfl (by first | assumption | exact up_eq | exact (up_ne (by omega)).trans (by first | assumption | exact up_eq | exact (up_ne (by omega)).trans (by first | assumption | exact up_eq | exact (up_ne (by omega)).trans (by first | assumption | exact up_eq)))) (by omega) (by rfl) ?_
      refine V_aload_n (q := 28) dX8_append_27 rfl rfl rfl ?_
      refine GX8_176 (q := 31) rfl dX8_append_28 rfl (by first | assumption | exact up_eq | exact (up_ne (by omega)).trans (by first | assumption | exact up_eq | exact (up_ne (by omega)).trans (by first | assumption | exact up_eq | exact (up_ne (by omega)).trans (by first | assumption | exact up_eq)))) (by omega) (by rfl) ?_
      refine V_topi t1 ?_
      refine V_iload_n (q := 32) dX8_append_31 rfl rfl ?_
      refine V_iastN (q := 33) dX8_append_32 rfl (by first | assumption | exact up_eq | exact (up_ne (by omega)).trans (by first | assumption | exact up_eq | exact (up_ne (by omega)).trans (by first | assumption | exact up_eq | exact (up_ne (by omega)).trans (by first | assumption | exact up_eq)))) (by omega) (by omega) (by omega) rfl (by rfl) ?_
      refine V_aload_n (q := 34) dX8_append_33 rfl rfl rfl ?_
      refine V_dup (q := 35) dX8_append_34 rfl rfl ?_
      refine GX8_176 (q := 38) rfl dX8_append_35 rfl (by first | assumption | exact up_eq | exact (up_ne (by omega)).trans (by first | assumption | exact up_eq | exact (up_ne (by omega)).trans (by first | assumption | exact up_eq | exact (up_ne (by omega)).trans (by first | assumption | exact up_eq)))) (by omega) (by rfl) ?_
      refine V_topi t1 ?_
      refine V_iconst (q := 39) (v := nI 1) dX8_append_38 rfl (by decide) ?_
      refine V_iadd (q := 40) dX8_append_39 rfl (by first | exact nI_add _ _ | rfl) ?_
      refine PX8_176 (q := 43) (fs' := [_, _, _, _, _, _, _, _, _, _, _, _, _, _, _, _, _, _, _, _, _, _, _, _, _, _]) rfl dX8_append_40 rfl (by first | assumption | exact up_eq | exact (up_ne (by omega)).trans (by first | assumption | exact up_eq | exact (up_ne (by omega)).trans (by first | assumption | exact up_eq | exact (up_ne (by omega)).trans (by first | assumption | exact up_eq)))) (by omega) (by exact (Nat.le_of_ble_eq_true rfl)) (by rfl) ?_
      try rw [up_up]
      refine V_aload_n (q := 44) dX8_append_43 rfl rfl rfl ?_
      refine GX8_176 (q := 47) rfl dX8_append_44 rfl (by first | assumption | exact up_eq | exact (up_ne (by omega)).trans (by first | assumption | exact up_eq | exact (up_ne (by omega)).trans (by first | assumption | exact up_eq | exact (up_ne (by omega)).trans (by first | assumption | exact up_eq)))) (by omega) (by rfl) ?_
      have fin := hX.text (K' := setRd K (nI ((xT X).1 + 1))) (T' := upd T (xT X).1 (nI k)) rfl
      refine V_iret dX8_append_47 rfl (Nat.le_of_ble_eq_true rfl) (Nat.le_of_ble_eq_true rfl) (⟨rfl, _, rfl, rfl, ⟨_, F, Fs, Fb, C, _, fin.1, hR, hSv, hsv, hH, hIn, hL, ⟨rfl, by show (xT X).1 + 1 ≤ 70; omega, fun i hi => ?_⟩, hRf⟩, fin.2⟩)
      show upd T (xT X).1 (nI k) i = nI (putN (xT X).2 (xT X).1 k i) ∧ 32 ≤ putN (xT X).2 (xT X).1 k i ∧ putN (xT X).2 (xT X).1 k i ≤ 126
      unfold putN
      have hi : i < (xT X).1 + 1 := hi
      by_cases e : i = (xT X).1
      · rw [e, updI, if_pos rfl]
        exact ⟨rfl, hb.1, hb.2⟩
      · rw [updN e, if_neg e]
        exact t3 i (by omega)
    · skip
      rw [if_pos (Or.inr q7)]
      refine V_bipush (q := 22) (v := (-2)) dX8_append_20 rfl (by decide) ?_
      exact V_iret dX8_append_22 rfl (Nat.le_of_ble_eq_true rfl) (Nat.le_of_ble_eq_true rfl) (⟨rfl, _, rfl, h.same⟩)
  · have hbad : appA x X = (-2, X) := by
      unfold appA
      rcases i3_lt x 127 (by decide) with hx | ⟨k, hk, rfl⟩
      · rw [idx_no hx]
      · rw [idx_yes hk (by decide)]
        refine if_pos (Or.inl ?_)
        rcases Nat.lt_or_ge k 32 with z | z
        · exact z
        · exact absurd ⟨(nI_leI (by decide) (by omega)).mpr z, (nI_leI (by omega) (by decide)).mpr (by omega)⟩ hb
    rw [hbad]
    refine Ct.ofs (M := MX8_append) (ls := [some _, some _]) (by decide +kernel) (by exact (Nat.le_of_ble_eq_true rfl)) (by rfl) (by rfl) (by rfl) ?_
    refine V_iload_n (q := 1) dX8_append_0 rfl rfl ?_
    refine V_bipush (q := 3) (v := nI 32) dX8_append_1 rfl (by decide) ?_
    refine V_bipush (q := 5) (v := nI 126) dX8_append_3 rfl (by decide) ?_
    refine CrX8_71 (q := 8) rfl dX8_append_5 rfl (c_between) ⟨(Nat.le_of_ble_eq_true rfl), (Nat.le_of_ble_eq_true rfl)⟩ (Nat.le_of_ble_eq_true rfl) (Nat.zero_le _) (Nat.zero_le _) ?_
    refine V_topi (if_neg hb) ?_
    refine V_if_eq (q := 11) (tgt := 20) dX8_append_8 (by decide) rfl (fun _ => ?_) (fun h9 => absurd rfl h9)
    refine V_bipush (q := 22) (v := (-2)) dX8_append_20 rfl (by decide) ?_
    exact V_iret dX8_append_22 rfl (Nat.le_of_ble_eq_true rfl) (Nat.le_of_ble_eq_true rfl) (⟨rfl, _, rfl, h.same⟩)
end MW
