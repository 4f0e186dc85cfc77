/-! the model: undo, snapshot, accounts, lines -/
section MW
variable {g : GG} {l : Launch} {w : HW} {n p : Nat} {X : XT} {K : MS} {F Fs Fb C T : Nat → Int32} {pk : Nat} {Hs : Nat → StT} {N : StT}
theorem MBd.kept {q : Nat} {Hs' : Nat → StT} (h : MBd g w n p K F Fs Fb pk Hs C T) (hq : q ≤ 8) (hH : ∀ Hf, HR pk Hf Hs → HR q Hf Hs') : MBd g (va_up w p (eO 8 (mfs g p (setKp K (nI q))))) n p (setKp K (nI q)) F Fs Fb q Hs' C T ∧ FrM w (va_up w p (eO 8 (mfs g p (setKp K (nI q))))) p := by
  obtain ⟨h0, h1, h2, h3, ⟨Hf, h4, h5⟩, ⟨Q, P, B, J, q1, q2, q3, q4⟩, h7, h8, h9, h10, h11⟩ := h
  exact ⟨⟨up_eq, (up_ne (by omega)).trans h1, (up_ne (by omega)).trans h2, (up_ne (by omega)).trans h3, ⟨Hf, h4.frame (fun i _ _ => up_ne (by omega)), hH Hf h5⟩, ⟨Q, P, B, J, (up_ne (by omega)).trans q1, (up_ne (by omega)).trans q2, (up_ne (by omega)).trans q3, (up_ne (by omega)).trans q4⟩, (up_ne (by omega)).trans h7, (up_ne (by omega)).trans h8, h9, rfl, hq⟩, fun i hi => up_ne (by omega)⟩
theorem Y_undo (h : MW g w n p X) : CtI g l MX8_undo 1 [rf g p] w n (MP g w n p (undA X)) := by
  obtain ⟨K, F, Fs, Fb, C, T, h⟩ := h
  obtain ⟨hX, hR, hSv, hsv, hH, hIn, hL, hT, hRf⟩ := id h
  obtain ⟨h0, h1, hfs, hfb, hhi, hqq, hC, hTT, hn, hkp, hpk8⟩ := id hX
  have hpn : p + 1 < n := by omega
  have hc6 := hR.2.2.1.1
  have hs := hR.2.2.2.1.1
  unfold undA
  refine Ct.ofs (M := MX8_undo) (ls := [some _]) (by decide +kernel) (by exact (Nat.le_of_ble_eq_true rfl)) (by rfl) (by rfl) (by rfl) ?_
  refine V_aload_n (q := 1) dX8_undo_0 rfl rfl rfl ?_
  refine GX8_60 (q := 4) rfl dX8_undo_1 rfl (by first | assumption | exact up_eq | exact (up_ne (by omega)).trans (by first | assumption | exact up_eq | exact (up_ne (by omega)).trans (by first | assumption | exact up_eq | exact (up_ne (by omega)).trans (by first | assumption | exact up_eq)))) (by omega) (by rfl) ?_
  refine V_topi hkp ?_
  refine V_ifN_ne (q := 7) (tgt := 10) dX8_undo_4 (by decide) rfl (by omega) (fun hz => ?_) (fun hz => ?_)
  · skip
    rw [if_neg hz]
    obtain ⟨Hf, ⟨⟨G, g1, g2⟩, g3⟩, hHR⟩ := hhi
    have gk := g3 ((xP X).1 - 1) (by omega)
    have gg := g2 ((xP X).1 - 1) (by omega)
    have hrn := hHR 0 (by omega)
    rw [show (xP X).1 - 1 - 0 = (xP X).1 - 1 by omega] at hrn
    have hkk := hX.kept (q := (xP X).1 - 1) (Hs' := fun i => (xP X).2 (i + 1)) (by omega) (fun Hf hf i hi => by
      have := hf (i + 1) (by omega)
      rw [show (xP X).1 - 1 - (i + 1) = (xP X).1 - 1 - 1 - i by omega] at this
      exact this)
    refine V_aload_n (q := 11) dX8_undo_10 rfl rfl rfl ?_
    refine V_dup (q := 12) dX8_undo_11 rfl rfl ?_
    refine GX8_60 (q := 15) rfl dX8_undo_12 rfl (by first | assumption | exact up_eq | exact (up_ne (by omega)).trans (by first | assumption | exact up_eq | exact (up_ne (by omega)).trans (by first | assumption | exact up_eq | exact (up_ne (by omega)).trans (by first | assumption | exact up_eq)))) (by omega) (by rfl) ?_
    refine V_iconst (q := 16) (v := nI 1) dX8_undo_15 rfl (by decide) ?_
    refine V_isub (q := 17) dX8_undo_16 rfl ((congrArg (· - nI 1) hkp).trans (pk_sub (by omega))) ?_
    refine PX8_60 (q := 20) (fs' := [_, _, _, _, _, _, _, _, _, _, _, _, _, _, _, _, _, _, _, _, _, _, _, _, _, _]) rfl dX8_undo_17 rfl (by first | assumption | exact up_eq | exact (up_ne (by omega)).trans (by first | assumption | exact up_eq | exact (up_ne (by omega)).trans (by first | assumption | exact up_eq | exact (up_ne (by omega)).trans (by first | assumption | exact up_eq)))) (by omega) (by exact (Nat.le_of_ble_eq_true rfl)) (by rfl) ?_
    try rw [up_up]
    have hq1 : va_up w p (eO 8 (mfs g p (setKp K (nI ((xP X).1 - 1))))) (p + 4) = eA g 8 G := (up_ne (by omega)).trans g1
    have hq2 : va_up w p (eO 8 (mfs g p (setKp K (nI ((xP X).1 - 1))))) (p + 5 + ((xP X).1 - 1)) = eI g 63 (Hf ((xP X).1 - 1)) := (up_ne (by omega)).trans gk
    have hq3 := hkk.1.2.1
    have hq0 := hkk.1.1
    refine V_aload_n (q := 21) dX8_undo_20 rfl rfl rfl ?_
    refine GX8_21 (q := 24) rfl dX8_undo_21 rfl (by first | assumption | exact up_eq | exact (up_ne (by omega)).trans (by first | assumption | exact up_eq | exact (up_ne (by omega)).trans (by first | assumption | exact up_eq | exact (up_ne (by omega)).trans (by first | assumption | exact up_eq)))) (by omega) (by rfl) ?_
    refine V_aload_n (q := 25) dX8_undo_24 rfl rfl rfl ?_
    refine GX8_60 (q := 28) rfl dX8_undo_25 rfl (by first | assumption | exact up_eq | exact (up_ne (by omega)).trans (by first | assumption | exact up_eq | exact (up_ne (by omega)).trans (by first | assumption | exact up_eq | exact (up_ne (by omega)).trans (by first | assumption | exact up_eq)))) (by omega) (by rfl) ?_
    refine V_aaldA (q := 29) dX8_undo_28 rfl (by first | assumption | exact up_eq | exact (up_ne (by omega)).trans (by first | assumption | exact up_eq | exact (up_ne (by omega)).trans (by first | assumption | exact up_eq | exact (up_ne (by omega)).trans (by first | assumption | exact up_eq)))) (by omega) (by omega) (by omega) rfl (congrArg va_rf gg) ?_
    refine V_aload_n (q := 30) dX8_undo_29 rfl rfl rfl ?_
    refine GX8_9 (q := 33) rfl dX8_undo_30 rfl (by first | assumption | exact up_eq | exact (up_ne (by omega)).trans (by first | assumption | exact up_eq | exact (up_ne (by omega)).trans (by first | assumption | exact up_eq | exact (up_ne (by omega)).trans (by first | assumption | exact up_eq)))) (by omega) (by rfl) ?_
    refine CvX8_63 (q := 36) rfl dX8_undo_33 rfl (m_copyRow (a := p + 5 + ((xP X).1 - 1)) (b := p + 1) hq2 hq3 (by omega) (by omega) (by omega)) ⟨(Nat.le_of_ble_eq_true rfl), (Nat.le_of_ble_eq_true rfl)⟩ (Nat.le_of_ble_eq_true rfl) (Nat.zero_le _) (Nat.zero_le _) (fun w2 hw2 => ?_)
    obtain ⟨A', a1, hw2⟩ := hw2
    have fin := hkk.1.now (F' := A')
    have hw2' : w2 = va_up (va_up w p (eO 8 (mfs g p (setKp K (nI ((xP X).1 - 1)))))) (p + 1) (eI g 63 A') := hw2
    rw [← hw2'] at fin
    have d0 := fin.1.1
    refine V_aload_n (q := 37) dX8_undo_36 rfl rfl rfl ?_
    refine GX8_60 (q := 40) rfl dX8_undo_37 rfl (by first | assumption | exact up_eq | exact (up_ne (by omega)).trans (by first | assumption | exact up_eq | exact (up_ne (by omega)).trans (by first | assumption | exact up_eq | exact (up_ne (by omega)).trans (by first | assumption | exact up_eq)))) (by omega) (by rfl) ?_
    exact V_iret dX8_undo_40 rfl (Nat.le_of_ble_eq_true rfl) (Nat.le_of_ble_eq_true rfl) (⟨rfl, _, rfl, rfl, ⟨_, A', Fs, Fb, C, T, fin.1, hrn.cong a1, hSv, hsv, hH, hIn, hL, hT, hRf⟩, hkk.2.tr fin.2⟩)
  · skip
    rw [if_pos hz]
    refine V_bipush (q := 9) (v := (-4)) dX8_undo_7 rfl (by decide) ?_
    exact V_iret dX8_undo_9 rfl (Nat.le_of_ble_eq_true rfl) (Nat.le_of_ble_eq_true rfl) (⟨rfl, _, rfl, h.same⟩)
theorem Y_save (h : MW g w n p X) : CtI g l MX8_save 1 [rf g p] w n (MP g w n p (savA X)) := by
  obtain ⟨K, F, Fs, Fb, C, T, h⟩ := h
  obtain ⟨hX, hR, hSv, hsv, hH, hIn, hL, hT, hRf⟩ := id h
  obtain ⟨h0, h1, hfs, hfb, hhi, hqq, hC, hTT, hn, hkp, hpk8⟩ := id hX
  have hpn : p + 1 < n := by omega
  have hc6 := hR.2.2.1.1
  have hs := hR.2.2.2.1.1
  refine Ct.ofs (M := MX8_save) (ls := [some _]) (by decide +kernel) (by exact (Nat.le_of_ble_eq_true rfl)) (by rfl) (by rfl) (by rfl) ?_
  refine V_aload_n (q := 1) dX8_save_0 rfl rfl rfl ?_
  refine V_iconst (q := 2) (v := nI 1) dX8_save_1 rfl (by decide) ?_
  refine PX8_258 (q := 5) (fs' := [_, _, _, _, _, _, _, _, _, _, _, _, _, _, _, _, _, _, _, _, _, _, _, _, _, _]) rfl dX8_save_2 rfl rfl rfl (by first | assumption | exact up_eq | exact (up_ne (by omega)).trans (by first | assumption | exact up_eq | exact (up_ne (by omega)).trans (by first | assumption | exact up_eq | exact (up_ne (by omega)).trans (by first | assumption | exact up_eq)))) (by omega) (by exact (Nat.le_of_ble_eq_true rfl)) (by rfl) ?_
  try rw [up_up]
  refine V_aload_n (q := 6) dX8_save_5 rfl rfl rfl ?_
  refine GX8_9 (q := 9) rfl dX8_save_6 rfl (by first | assumption | exact up_eq | exact (up_ne (by omega)).trans (by first | assumption | exact up_eq | exact (up_ne (by omega)).trans (by first | assumption | exact up_eq | exact (up_ne (by omega)).trans (by first | assumption | exact up_eq)))) (by omega) (by rfl) ?_
  refine V_aload_n (q := 10) dX8_save_9 rfl rfl rfl ?_
  refine GX8_13 (q := 13) rfl dX8_save_10 rfl (by first | assumption | exact up_eq | exact (up_ne (by omega)).trans (by first | assumption | exact up_eq | exact (up_ne (by omega)).trans (by first | assumption | exact up_eq | exact (up_ne (by omega)).trans (by first | assumption | exact up_eq)))) (by omega) (by rfl) ?_
  have hs1 := hX.own (K' := setSv K (nI 1)) rfl
  have c1 : va_up w p (eO 8 (mfs g p (setSv K (nI 1)))) (p + 1) = eI g 63 F := hs1.1.2.1
  have c2 : va_up w p (eO 8 (mfs g p (setSv K (nI 1)))) (p + 2) = eI g 63 Fs := hs1.1.2.2.1
  refine CvX8_63 (q := 16) rfl dX8_save_13 rfl (m_copyRow c1 c2 (by omega) (by omega) (by omega)) ⟨(Nat.le_of_ble_eq_true rfl), (Nat.le_of_ble_eq_true rfl)⟩ (Nat.le_of_ble_eq_true rfl) (Nat.zero_le _) (Nat.zero_le _) (fun w1 hw1 => ?_)
  obtain ⟨A', a1, hw1⟩ := hw1
  have fin := hs1.1.sav (F' := A')
  have hw1' : w1 = va_up (va_up w p (eO 8 (mfs g p (setSv K (nI 1))))) (p + 2) (eI g 63 A') := hw1
  rw [← hw1'] at fin
  have d0 := fin.1.1
  have d1 := fin.1.2.1
  have f0 := hR.1.1
  refine V_aload_n (q := 17) dX8_save_16 rfl rfl rfl ?_
  refine GX8_9 (q := 20) rfl dX8_save_17 rfl (by first | assumption | exact up_eq | exact (up_ne (by omega)).trans (by first | assumption | exact up_eq | exact (up_ne (by omega)).trans (by first | assumption | exact up_eq | exact (up_ne (by omega)).trans (by first | assumption | exact up_eq)))) (by omega) (by rfl) ?_
  refine V_iconst (q := 21) (v := nI 0) dX8_save_20 rfl (by decide) ?_
  refine V_ialdN (q := 22) dX8_save_21 rfl (by first | assumption | exact up_eq | exact (up_ne (by omega)).trans (by first | assumption | exact up_eq | exact (up_ne (by omega)).trans (by first | assumption | exact up_eq | exact (up_ne (by omega)).trans (by first | assumption | exact up_eq)))) (by omega) (by omega) (by omega) rfl f0 ?_
  exact V_iret dX8_save_22 rfl (Nat.le_of_ble_eq_true rfl) (Nat.le_of_ble_eq_true rfl) (⟨rfl, _, rfl, rfl, ⟨_, F, A', Fb, C, T, fin.1, hR, fun _ => hR.cong a1, rfl, Nat.le_refl 1, hIn, hL, hT, hRf⟩, hs1.2.tr fin.2⟩)
theorem Y_restore (h : MW g w n p X) : CtI g l MX8_restore 1 [rf g p] w n (MP g w n p (resA X)) := by
  obtain ⟨K, F, Fs, Fb, C, T, h⟩ := h
  obtain ⟨hX, hR, hSv, hsv, hH, hIn, hL, hT, hRf⟩ := id h
  obtain ⟨h0, h1, hfs, hfb, hhi, hqq, hC, hTT, hn, hkp, hpk8⟩ := id hX
  have hpn : p + 1 < n := by omega
  have hc6 := hR.2.2.1.1
  have hs := hR.2.2.2.1.1
  unfold resA
  refine Ct.ofs (M := MX8_restore) (ls := [some _]) (by decide +kernel) (by exact (Nat.le_of_ble_eq_true rfl)) (by rfl) (by rfl) (by rfl) ?_
  refine V_aload_n (q := 1) dX8_restore_0 rfl rfl rfl ?_
  refine GX8_258 (q := 4) rfl dX8_restore_1 rfl (by first | assumption | exact up_eq | exact (up_ne (by omega)).trans (by first | assumption | exact up_eq | exact (up_ne (by omega)).trans (by first | assumption | exact up_eq | exact (up_ne (by omega)).trans (by first | assumption | exact up_eq)))) (by omega) (by rfl) ?_
  refine V_topi hsv ?_
  refine V_ifN_ne (q := 7) (tgt := 10) dX8_restore_4 (by decide) rfl (by omega) (fun hz => ?_) (fun hz => ?_)
  · skip
    rw [if_neg hz]
    have hR2 := hSv (by omega)
    refine V_aload_n (q := 11) dX8_restore_10 rfl rfl rfl ?_
    refine GX8_13 (q := 14) rfl dX8_restore_11 rfl (by first | assumption | exact up_eq | exact (up_ne (by omega)).trans (by first | assumption | exact up_eq | exact (up_ne (by omega)).trans (by first | assumption | exact up_eq | exact (up_ne (by omega)).trans (by first | assumption | exact up_eq)))) (by omega) (by rfl) ?_
    refine V_aload_n (q := 15) dX8_restore_14 rfl rfl rfl ?_
    refine GX8_9 (q := 18) rfl dX8_restore_15 rfl (by first | assumption | exact up_eq | exact (up_ne (by omega)).trans (by first | assumption | exact up_eq | exact (up_ne (by omega)).trans (by first | assumption | exact up_eq | exact (up_ne (by omega)).trans (by first | assumption | exact up_eq)))) (by omega) (by rfl) ?_
    refine CvX8_63 (q := 21) rfl dX8_restore_18 rfl (m_copyRow hfs h1 (by omega) (by omega) (by omega)) ⟨(Nat.le_of_ble_eq_true rfl), (Nat.le_of_ble_eq_true rfl)⟩ (Nat.le_of_ble_eq_true rfl) (Nat.zero_le _) (Nat.zero_le _) (fun w1 hw1 => ?_)
    obtain ⟨A', a1, hw1⟩ := hw1
    have fin := hX.now (F' := A')
    rw [← hw1] at fin
    have d0 := fin.1.1
    have fin2 := fin.1.kept (q := 0) (Hs' := (xP X).2) (by decide) (fun Hf _ i hi => absurd hi (Nat.not_lt_zero i))
    have d1 := fin.1.2.1
    have hRA := hR2.cong a1
    have f0 := hRA.1.1
    refine V_aload_n (q := 22) dX8_restore_21 rfl rfl rfl ?_
    refine V_iconst (q := 23) (v := nI 0) dX8_restore_22 rfl (by decide) ?_
    refine PX8_60 (q := 26) (fs' := [_, _, _, _, _, _, _, _, _, _, _, _, _, _, _, _, _, _, _, _, _, _, _, _, _, _]) rfl dX8_restore_23 rfl (by first | assumption | exact up_eq | exact (up_ne (by omega)).trans (by first | assumption | exact up_eq | exact (up_ne (by omega)).trans (by first | assumption | exact up_eq | exact (up_ne (by omega)).trans (by first | assumption | exact up_eq)))) (by omega) (by exact (Nat.le_of_ble_eq_true rfl)) (by rfl) ?_
    try rw [up_up]
    refine V_aload_n (q := 27) dX8_restore_26 rfl rfl rfl ?_
    refine GX8_9 (q := 30) rfl dX8_restore_27 rfl (by first | assumption | exact up_eq | exact (up_ne (by omega)).trans (by first | assumption | exact up_eq | exact (up_ne (by omega)).trans (by first | assumption | exact up_eq | exact (up_ne (by omega)).trans (by first | assumption | exact up_eq)))) (by omega) (by rfl) ?_
    refine V_iconst (q := 31) (v := nI 0) dX8_restore_30 rfl (by decide) ?_
    refine V_ialdN (q := 32) dX8_restore_31 rfl (by first | assumption | exact up_eq | exact (up_ne (by omega)).trans (by first | assumption | exact up_eq | exact (up_ne (by omega)).trans (by first | assumption | exact up_eq | exact (up_ne (by omega)).trans (by first | assumption | exact up_eq)))) (by omega) (by omega) (by omega) rfl f0 ?_
    exact V_iret dX8_restore_32 rfl (Nat.le_of_ble_eq_true rfl) (Nat.le_of_ble_eq_true rfl) (⟨rfl, _, rfl, rfl, ⟨_, A', Fs, Fb, C, T, fin2.1, hRA, hSv, hsv, hH, hIn, hL, hT, hRf⟩, fin.2.tr fin2.2⟩)
  · skip
    rw [if_pos hz]
    refine V_bipush (q := 9) (v := (-4)) dX8_restore_7 rfl (by decide) ?_
    exact V_iret dX8_restore_9 rfl (Nat.le_of_ble_eq_true rfl) (Nat.le_of_ble_eq_true rfl) (⟨rfl, _, rfl, h.same⟩)
noncomputable def sumW (N : StT) (k : Nat) : Nat → Nat := if k = 2 then lenS N else if k = 1 then cleanS N else ballsS N
theorem m_sumOver (h0 : w p = eO 8 (mfs g p K)) (h1 : w (p + 1) = eI g 63 F) (hn : p + 1 < n) (hR : RN F N) {k : Nat} (hk : k = 1 ∨ k = 2 ∨ k = 3) : CtR g l MX8_sumOver 3 [rf g p, .int (nI k)] w n (.int (nI (sumW N k (sC N)))) := by
  have f0 := hR.1.1
  have hc6 := hR.2.2.1.1
  refine Ct.ofs (M := MX8_sumOver) (ls := [some _, some _, none, none, none]) (by decide +kernel) (by exact (Nat.le_of_ble_eq_true rfl)) (by rfl) (by rfl) (by rfl) ?_
  refine V_iconst (q := 1) (v := nI 0) dX8_sumOver_0 rfl (by decide) ?_
  refine V_istore_n (q := 2) (ls' := [_, _, _, _, _]) dX8_sumOver_1 rfl (by decide) rfl ?_
  refine V_iconst (q := 3) (v := nI 0) dX8_sumOver_2 rfl (by decide) ?_
  refine V_istore_n (q := 4) (ls' := [_, _, _, _, _]) dX8_sumOver_3 rfl (by decide) rfl ?_
  have e0 : sumW N k 0 = 0 := by rcases hk with rfl | rfl | rfl <;> rfl
  suffices st : V g l MX8_sumOver (rmd 3 0 0) (FinM g (qR (.int (nI (sumW N k (sC N)))) w n) 0 0) 4 [some (rf g p), some (.int (nI k)), some (.int (nI (sumW N k 0))), some (.int (nI 0)), none] [] (w) n 0 0 by
    rw [e0] at st
    exact st
  refine loopU (fun i => V g l MX8_sumOver (rmd 3 0 0) (FinM g (qR (.int (nI (sumW N k (sC N)))) w n) 0 0) 4 [some (rf g p), some (.int (nI k)), some (.int (nI (sumW N k i))), some (.int (nI i)), none] [] (w) n 0 0) (sC N) ?_ ?_ 0 (Nat.zero_le _)
  · skip
    refine V_iload_n (q := 5) dX8_sumOver_4 rfl rfl ?_
    refine V_aload_n (q := 6) dX8_sumOver_5 rfl rfl rfl ?_
    refine GX8_9 (q := 9) rfl dX8_sumOver_6 rfl (by first | assumption | exact up_eq | exact (up_ne (by omega)).trans (by first | assumption | exact up_eq | exact (up_ne (by omega)).trans (by first | assumption | exact up_eq | exact (up_ne (by omega)).trans (by first | assumption | exact up_eq)))) (by omega) (by rfl) ?_
    refine V_iconst (q := 10) (v := nI 0) dX8_sumOver_9 rfl (by decide) ?_
    refine V_ialdN (q := 11) dX8_sumOver_10 rfl (by first | assumption | exact up_eq | exact (up_ne (by omega)).trans (by first | assumption | exact up_eq | exact (up_ne (by omega)).trans (by first | assumption | exact up_eq | exact (up_ne (by omega)).trans (by first | assumption | exact up_eq)))) (by omega) (by omega) (by omega) rfl f0 ?_
    refine V_icmpN_ge (q := 14) (tgt := 74) dX8_sumOver_11 (by decide) rfl (by omega) (by omega) (fun _ => ?_) (fun h9 => by first | exact h9.elim | (exfalso; omega))
    refine V_iload_n (q := 75) dX8_sumOver_74 rfl rfl ?_
    exact V_iret dX8_sumOver_75 rfl (Nat.le_of_ble_eq_true rfl) (Nat.le_of_ble_eq_true rfl) (⟨rfl, rfl, rfl⟩)
  · intro i hi ih
    obtain ⟨i0, i1, i2⟩ := hR.2.2.1.2 i hi
    refine V_iload_n (q := 5) dX8_sumOver_4 rfl rfl ?_
    refine V_aload_n (q := 6) dX8_sumOver_5 rfl rfl rfl ?_
    refine GX8_9 (q := 9) rfl dX8_sumOver_6 rfl (by first | assumption | exact up_eq | exact (up_ne (by omega)).trans (by first | assumption | exact up_eq | exact (up_ne (by omega)).trans (by first | assumption | exact up_eq | exact (up_ne (by omega)).trans (by first | assumption | exact up_eq)))) (by omega) (by rfl) ?_
    refine V_iconst (q := 10) (v := nI 0) dX8_sumOver_9 rfl (by decide) ?_
    refine V_ialdN (q := 11) dX8_sumOver_10 rfl (by first | assumption | exact up_eq | exact (up_ne (by omega)).trans (by first | assumption | exact up_eq | exact (up_ne (by omega)).trans (by first | assumption | exact up_eq | exact (up_ne (by omega)).trans (by first | assumption | exact up_eq)))) (by omega) (by omega) (by omega) rfl f0 ?_
    refine V_icmpN_ge (q := 14) (tgt := 74) dX8_sumOver_11 (by decide) rfl (by omega) (by omega) (fun h9 => by first | exact h9.elim | exact absurd h9 (by assumption) | (exfalso; omega)) (fun _ => ?_)
    refine V_aload_n (q := 15) dX8_sumOver_14 rfl rfl rfl ?_
    refine V_iload_n (q := 16) dX8_sumOver_15 rfl rfl ?_
    refine CrX8_83 (q := 19) rfl dX8_sumOver_16 rfl (m_clashOf h0 h1 hn hR hi) ⟨(Nat.le_of_ble_eq_true rfl), (Nat.le_of_ble_eq_true rfl)⟩ (Nat.le_of_ble_eq_true rfl) (by first | assumption | exact up_eq | exact (up_ne (by omega)).trans (by first | assumption | exact up_eq | exact (up_ne (by omega)).trans (by first | assumption | exact up_eq | exact (up_ne (by omega)).trans (by first | assumption | exact up_eq)))) (by omega) (Nat.zero_le _) (Nat.zero_le _) ?_
    by_cases hcl : clN (sR N i).2 (sR N i).1 = (sR N i).1
    · have hcn := clN_le (sR N i).2 (sR N i).1
      have e1 : cleanS N (i + 1) = cleanS N i + 1 := by rw [cleanS, if_pos hcl]
      have e3 : ballsS N (i + 1) = ballsS N i + sumN (sR N i).2 (sR N i).1 / (sR N i).1 := by rw [ballsS, if_pos hcl]
      refine V_topi (mcl_yes hcl) ?_
      refine V_if_ge (q := 22) (tgt := 26) dX8_sumOver_19 (by decide) rfl (fun h9 => absurd h9 (by decide)) (fun _ => ?_)
      refine V_iconst (q := 23) (v := nI 1) dX8_sumOver_22 rfl (by decide) ?_
      refine V_goto (tgt := 27) dX8_sumOver_23 (by decide) ?_
      refine V_istore (q := 29) (ls' := [_, _, _, _, _]) dX8_sumOver_27 rfl (by decide) rfl ?_
      refine V_iload_n (q := 30) dX8_sumOver_29 rfl rfl ?_
      refine V_iload_n (q := 31) dX8_sumOver_30 rfl rfl ?_
      refine V_iconst (q := 32) (v := nI 2) dX8_sumOver_31 rfl (by decide) ?_
      rcases hk with rfl | rfl | rfl
      · skip
        refine V_icmp_ne (q := 35) (tgt := 43) dX8_sumOver_32 (by decide) rfl (fun _ => ?_) (fun h9 => absurd h9 (by decide))
        refine V_iload (q := 45) dX8_sumOver_43 rfl rfl ?_
        refine V_if_ne (q := 48) (tgt := 52) dX8_sumOver_45 (by decide) rfl (fun _ => ?_) (fun h9 => absurd h9 (by decide))
        refine V_iload_n (q := 53) dX8_sumOver_52 rfl rfl ?_
        refine V_iconst (q := 54) (v := nI 1) dX8_sumOver_53 rfl (by decide) ?_
        refine V_icmp_ne (q := 57) (tgt := 61) dX8_sumOver_54 (by decide) rfl (fun h9 => absurd rfl h9) (fun _ => ?_)
        refine V_iconst (q := 58) (v := nI 1) dX8_sumOver_57 rfl (by decide) ?_
        refine V_goto (tgt := 66) dX8_sumOver_58 (by decide) ?_
        refine V_iadd (q := 67) dX8_sumOver_66 rfl (by first | exact nI_add _ _ | rfl) ?_
        refine V_istore_n (q := 68) (ls' := [_, _, _, _, _]) dX8_sumOver_67 rfl (by decide) rfl ?_
        refine V_iinc (q := 71) (ls' := [_, _, _, _, _]) dX8_sumOver_68 rfl (by decide) rfl (by first | exact inc1 _ | rfl) rfl ?_
        refine V_goto (tgt := 4) dX8_sumOver_71 (by decide) ?_
        refine V_fg 4 (ls2 := [_, _, _, _, none]) (by rfl) ?_
        rw [show sumW N 1 (i + 1) = sumW N 1 i + 1 from e1] at ih
        exact ih
      · skip
        refine V_icmp_ne (q := 35) (tgt := 43) dX8_sumOver_32 (by decide) rfl (fun h9 => absurd rfl h9) (fun _ => ?_)
        refine V_aload_n (q := 36) dX8_sumOver_35 rfl rfl rfl ?_
        refine V_iload_n (q := 37) dX8_sumOver_36 rfl rfl ?_
        refine CrX8_75 (q := 40) rfl dX8_sumOver_37 rfl (m_lengthOf h0 h1 hn hR hi) ⟨(Nat.le_of_ble_eq_true rfl), (Nat.le_of_ble_eq_true rfl)⟩ (Nat.le_of_ble_eq_true rfl) (by first | assumption | exact up_eq | exact (up_ne (by omega)).trans (by first | assumption | exact up_eq | exact (up_ne (by omega)).trans (by first | assumption | exact up_eq | exact (up_ne (by omega)).trans (by first | assumption | exact up_eq)))) (by omega) (Nat.zero_le _) (Nat.zero_le _) ?_
        refine V_goto (tgt := 66) dX8_sumOver_40 (by decide) ?_
        refine V_iadd (q := 67) dX8_sumOver_66 rfl (by first | exact nI_add _ _ | rfl) ?_
        refine V_istore_n (q := 68) (ls' := [_, _, _, _, _]) dX8_sumOver_67 rfl (by decide) rfl ?_
        refine V_iinc (q := 71) (ls' := [_, _, _, _, _]) dX8_sumOver_68 rfl (by decide) rfl (by first | exact inc1 _ | rfl) rfl ?_
        refine V_goto (tgt := 4) dX8_sumOver_71 (by decide) ?_
        refine V_fg 4 (ls2 := [_, _, _, _, none]) (by rfl) ?_
        exact ih
      · skip
        refine V_icmp_ne (q := 35) (tgt := 43) dX8_sumOver_32 (by decide) rfl (fun _ => ?_) (fun h9 => absurd h9 (by decide))
        refine V_iload (q := 45) dX8_sumOver_43 rfl rfl ?_
        refine V_if_ne (q := 48) (tgt := 52) dX8_sumOver_45 (by decide) rfl (fun _ => ?_) (fun h9 => absurd h9 (by decide))
        refine V_iload_n (q := 53) dX8_sumOver_52 rfl rfl ?_
        refine V_iconst (q := 54) (v := nI 1) dX8_sumOver_53 rfl (by decide) ?_
        refine V_icmp_ne (q := 57) (tgt := 61) dX8_sumOver_54 (by decide) rfl (fun _ => ?_) (fun h9 => absurd h9 (by decide))
        refine V_aload_n (q := 62) dX8_sumOver_61 rfl rfl rfl ?_
        refine V_iload_n (q := 63) dX8_sumOver_62 rfl rfl ?_
        refine CrX8_103 (q := 66) rfl dX8_sumOver_63 rfl (m_ballsOf h0 h1 hn hR hi) ⟨(Nat.le_of_ble_eq_true rfl), (Nat.le_of_ble_eq_true rfl)⟩ (Nat.le_of_ble_eq_true rfl) (by first | assumption | exact up_eq | exact (up_ne (by omega)).trans (by first | assumption | exact up_eq | exact (up_ne (by omega)).trans (by first | assumption | exact up_eq | exact (up_ne (by omega)).trans (by first | assumption | exact up_eq)))) (by omega) (Nat.zero_le _) (Nat.zero_le _) ?_
        refine V_topi (show mbaI (sR N i).2 (sR N i).1 = nI (sumN (sR N i).2 (sR N i).1 / (sR N i).1) from if_pos hcl) ?_
        refine V_iadd (q := 67) dX8_sumOver_66 rfl (by first | exact nI_add _ _ | rfl) ?_
        refine V_istore_n (q := 68) (ls' := [_, _, _, _, _]) dX8_sumOver_67 rfl (by decide) rfl ?_
        refine V_iinc (q := 71) (ls' := [_, _, _, _, _]) dX8_sumOver_68 rfl (by decide) rfl (by first | exact inc1 _ | rfl) rfl ?_
        refine V_goto (tgt := 4) dX8_sumOver_71 (by decide) ?_
        refine V_fg 4 (ls2 := [_, _, _, _, none]) (by rfl) ?_
        rw [show sumW N 3 (i + 1) = sumW N 3 i + sumN (sR N i).2 (sR N i).1 / (sR N i).1 from e3] at ih
        exact ih
    · have hcn := clN_le (sR N i).2 (sR N i).1
      have e1 : cleanS N (i + 1) = cleanS N i + 0 := by rw [cleanS, if_neg hcl]
      have e3 : ballsS N (i + 1) = ballsS N i + 0 := by rw [ballsS, if_neg hcl]
      refine V_topi (mcl_no hcl) ?_
      refine V_ifN_ge (q := 22) (tgt := 26) dX8_sumOver_19 (by decide) rfl (by omega) (fun _ => ?_) (fun h9 => by first | exact h9.elim | (exfalso; omega))
      refine V_iconst (q := 27) (v := nI 0) dX8_sumOver_26 rfl (by decide) ?_
      refine V_istore (q := 29) (ls' := [_, _, _, _, _]) dX8_sumOver_27 rfl (by decide) rfl ?_
      refine V_iload_n (q := 30) dX8_sumOver_29 rfl rfl ?_
      refine V_iload_n (q := 31) dX8_sumOver_30 rfl rfl ?_
      refine V_iconst (q := 32) (v := nI 2) dX8_sumOver_31 rfl (by decide) ?_
      rcases hk with rfl | rfl | rfl
      · skip
        refine V_icmp_ne (q := 35) (tgt := 43) dX8_sumOver_32 (by decide) rfl (fun _ => ?_) (fun h9 => absurd h9 (by decide))
        refine V_iload (q := 45) dX8_sumOver_43 rfl rfl ?_
        refine V_if_ne (q := 48) (tgt := 52) dX8_sumOver_45 (by decide) rfl (fun h9 => absurd rfl h9) (fun _ => ?_)
        refine V_iconst (q := 49) (v := nI 0) dX8_sumOver_48 rfl (by decide) ?_
        refine V_goto (tgt := 66) dX8_sumOver_49 (by decide) ?_
        refine V_iadd (q := 67) dX8_sumOver_66 rfl (by first | exact nI_add _ _ | rfl) ?_
        refine V_istore_n (q := 68) (ls' := [_, _, _, _, _]) dX8_sumOver_67 rfl (by decide) rfl ?_
        refine V_iinc (q := 71) (ls' := [_, _, _, _, _]) dX8_sumOver_68 rfl (by decide) rfl (by first | exact inc1 _ | rfl) rfl ?_
        refine V_goto (tgt := 4) dX8_sumOver_71 (by decide) ?_
        refine V_fg 4 (ls2 := [_, _, _, _, none]) (by rfl) ?_
        rw [show sumW N 1 (i + 1) = sumW N 1 i + 0 from e1] at ih
        exact ih
      · skip
        refine V_icmp_ne (q := 35) (tgt := 43) dX8_sumOver_32 (by decide) rfl (fun h9 => absurd rfl h9) (fun _ => ?_)
        refine V_aload_n (q := 36) dX8_sumOver_35 rfl rfl rfl ?_
        refine V_iload_n (q := 37) dX8_sumOver_36 rfl rfl ?_
        refine CrX8_75 (q := 40) rfl dX8_sumOver_37 rfl (m_lengthOf h0 h1 hn hR hi) ⟨(Nat.le_of_ble_eq_true rfl), (Nat.le_of_ble_eq_true rfl)⟩ (Nat.le_of_ble_eq_true rfl) (by first | assumption | exact up_eq | exact (up_ne (by omega)).trans (by first | assumption | exact up_eq | exact (up_ne (by omega)).trans (by first | assumption | exact up_eq | exact (up_ne (by omega)).trans (by first | assumption | exact up_eq)))) (by omega) (Nat.zero_le _) (Nat.zero_le _) ?_
        refine V_goto (tgt := 66) dX8_sumOver_40 (by decide) ?_
        refine V_iadd (q := 67) dX8_sumOver_66 rfl (by first | exact nI_add _ _ | rfl) ?_
        refine V_istore_n (q := 68) (ls' := [_, _, _, _, _]) dX8_sumOver_67 rfl (by decide) rfl ?_
        refine V_iinc (q := 71) (ls' := [_, _, _, _, _]) dX8_sumOver_68 rfl (by decide) rfl (by first | exact inc1 _ | rfl) rfl ?_
        refine V_goto (tgt := 4) dX8_sumOver_71 (by decide) ?_
        refine V_fg 4 (ls2 := [_, _, _, _, none]) (by rfl) ?_
        exact ih
      · skip
        refine V_icmp_ne (q := 35) (tgt := 43) dX8_sumOver_32 (by decide) rfl (fun _ => ?_) (fun h9 => absurd h9 (by decide))
        refine V_iload (q := 45) dX8_sumOver_43 rfl rfl ?_
        refine V_if_ne (q := 48) (tgt := 52) dX8_sumOver_45 (by decide) rfl (fun h9 => absurd rfl h9) (fun _ => ?_)
        refine V_iconst (q := 49) (v := nI 0) dX8_sumOver_48 rfl (by decide) ?_
        refine V_goto (tgt := 66) dX8_sumOver_49 (by decide) ?_
        refine V_iadd (q := 67) dX8_sumOver_66 rfl (by first | exact nI_add _ _ | rfl) ?_
        refine V_istore_n (q := 68) (ls' := [_, _, _, _, _]) dX8_sumOver_67 rfl (by decide) rfl ?_
        refine V_iinc (q := 71) (ls' := [_, _, _, _, _]) dX8_sumOver_68 rfl (by decide) rfl (by first | exact inc1 _ | rfl) rfl ?_
        refine V_goto (tgt := 4) dX8_sumOver_71 (by decide) ?_
        refine V_fg 4 (ls2 := [_, _, _, _, none]) (by rfl) ?_
        rw [show sumW N 3 (i + 1) = sumW N 3 i + 0 from e3] at ih
        exact ih
theorem Y_account (h : MW g w n p X) {x : Int32} : CtR g l MX8_account 4 [rf g p, .int x] w n (.int (accA x X)) := by
  obtain ⟨K, F, Fs, Fb, C, T, h⟩ := h
  obtain ⟨hX, hR, hSv, hsv, hH, hIn, hL, ⟨t1, t2, t3⟩, hRf⟩ := id h
  obtain ⟨h0, h1, hfs, hfb, hhi, hqq, hC, hTT, hn, hkp, hpk8⟩ := id hX
  obtain ⟨f0, f1, f2, f3, f4, f5, f6, f7, f8⟩ := id hR.1
  have hpn : p + 1 < n := by omega
  refine Ct.ofs (M := MX8_account) (ls := [some _, some _]) (by decide +kernel) (by exact (Nat.le_of_ble_eq_true rfl)) (by rfl) (by rfl) (by rfl) ?_
  refine V_iload_n (q := 1) dX8_account_0 rfl rfl ?_
  rcases i3_lt x 11 (by decide) with hy | ⟨k, hk, rfl⟩
  · rw [show accA x X = -2 by unfold accA; rw [idx_no hy]]
    refine V_tabOut (tgt := 94) dX8_account_1 (by have := out_int hy (by decide); omega) (by decide) ?_
    refine V_bipush (q := 96) (v := (-2)) dX8_account_94 rfl (by decide) ?_
    exact V_iret dX8_account_96 rfl (Nat.le_of_ble_eq_true rfl) (Nat.le_of_ble_eq_true rfl) (⟨rfl, rfl, rfl⟩)
  rw [show accA (nI k) X = accW X k by unfold accA; rw [idx_yes hk (by decide)]]
  rcases (by omega : k = 0 ∨ k = 1 ∨ k = 2 ∨ k = 3 ∨ k = 4 ∨ k = 5 ∨ k = 6 ∨ k = 7 ∨ k = 8 ∨ k = 9 ∨ k = 10) with rfl | rfl | rfl | rfl | rfl | rfl | rfl | rfl | rfl | rfl | rfl
  · skip
    refine V_tabIn (off := 59) (tgt := 60) dX8_account_1 (by decide) (by decide) (by decide) (by decide) ?_
    refine V_aload_n (q := 61) dX8_account_60 rfl rfl rfl ?_
    refine GX8_9 (q := 64) rfl dX8_account_61 rfl (by first | assumption | exact up_eq | exact (up_ne (by omega)).trans (by first | assumption | exact up_eq | exact (up_ne (by omega)).trans (by first | assumption | exact up_eq | exact (up_ne (by omega)).trans (by first | assumption | exact up_eq)))) (by omega) (by rfl) ?_
    refine V_iconst (q := 65) (v := nI 0) dX8_account_64 rfl (by decide) ?_
    refine V_ialdN (q := 66) dX8_account_65 rfl (by first | assumption | exact up_eq | exact (up_ne (by omega)).trans (by first | assumption | exact up_eq | exact (up_ne (by omega)).trans (by first | assumption | exact up_eq | exact (up_ne (by omega)).trans (by first | assumption | exact up_eq)))) (by omega) (by omega) (by omega) rfl f0 ?_
    exact V_iret dX8_account_66 rfl (Nat.le_of_ble_eq_true rfl) (Nat.le_of_ble_eq_true rfl) (⟨rfl, rfl, rfl⟩)
  · skip
    refine V_tabIn (off := 66) (tgt := 67) dX8_account_1 (by decide) (by decide) (by decide) (by decide) ?_
    refine V_aload_n (q := 68) dX8_account_67 rfl rfl rfl ?_
    refine V_iload_n (q := 69) dX8_account_68 rfl rfl ?_
    refine CrX8_249 (q := 72) rfl dX8_account_69 rfl (m_sumOver h0 h1 hpn hR (k := 1) (by decide)) ⟨(Nat.le_of_ble_eq_true rfl), (Nat.le_of_ble_eq_true rfl)⟩ (Nat.le_of_ble_eq_true rfl) (by first | assumption | exact up_eq | exact (up_ne (by omega)).trans (by first | assumption | exact up_eq | exact (up_ne (by omega)).trans (by first | assumption | exact up_eq | exact (up_ne (by omega)).trans (by first | assumption | exact up_eq)))) (by omega) (Nat.zero_le _) (Nat.zero_le _) ?_
    skip
    exact V_iret dX8_account_72 rfl (Nat.le_of_ble_eq_true rfl) (Nat.le_of_ble_eq_true rfl) (⟨rfl, rfl, rfl⟩)
  · skip
    refine V_tabIn (off := 66) (tgt := 67) dX8_account_1 (by decide) (by decide) (by decide) (by decide) ?_
    refine V_aload_n (q := 68) dX8_account_67 rfl rfl rfl ?_
    refine V_iload_n (q := 69) dX8_account_68 rfl rfl ?_
    refine CrX8_249 (q := 72) rfl dX8_account_69 rfl (m_sumOver h0 h1 hpn hR (k := 2) (by decide)) ⟨(Nat.le_of_ble_eq_true rfl), (Nat.le_of_ble_eq_true rfl)⟩ (Nat.le_of_ble_eq_true rfl) (by first | assumption | exact up_eq | exact (up_ne (by omega)).trans (by first | assumption | exact up_eq | exact (up_ne (by omega)).trans (by first | assumption | exact up_eq | exact (up_ne (by omega)).trans (by first | assumption | exact up_eq)))) (by omega) (Nat.zero_le _) (Nat.zero_le _) ?_
    skip
    exact V_iret dX8_account_72 rfl (Nat.le_of_ble_eq_true rfl) (Nat.le_of_ble_eq_true rfl) (⟨rfl, rfl, rfl⟩)
  · skip
    refine V_tabIn (off := 66) (tgt := 67) dX8_account_1 (by decide) (by decide) (by decide) (by decide) ?_
    refine V_aload_n (q := 68) dX8_account_67 rfl rfl rfl ?_
    refine V_iload_n (q := 69) dX8_account_68 rfl rfl ?_
    refine CrX8_249 (q := 72) rfl dX8_account_69 rfl (m_sumOver h0 h1 hpn hR (k := 3) (by decide)) ⟨(Nat.le_of_ble_eq_true rfl), (Nat.le_of_ble_eq_true rfl)⟩ (Nat.le_of_ble_eq_true rfl) (by first | assumption | exact up_eq | exact (up_ne (by omega)).trans (by first | assumption | exact up_eq | exact (up_ne (by omega)).trans (by first | assumption | exact up_eq | exact (up_ne (by omega)).trans (by first | assumption | exact up_eq)))) (by omega) (Nat.zero_le _) (Nat.zero_le _) ?_
    skip
    exact V_iret dX8_account_72 rfl (Nat.le_of_ble_eq_true rfl) (Nat.le_of_ble_eq_true rfl) (⟨rfl, rfl, rfl⟩)
  · skip
    refine V_tabIn (off := 72) (tgt := 73) dX8_account_1 (by decide) (by decide) (by decide) (by decide) ?_
    refine V_aload_n (q := 74) dX8_account_73 rfl rfl rfl ?_
    refine GX8_9 (q := 77) rfl dX8_account_74 rfl (by first | assumption | exact up_eq | exact (up_ne (by omega)).trans (by first | assumption | exact up_eq | exact (up_ne (by omega)).trans (by first | assumption | exact up_eq | exact (up_ne (by omega)).trans (by first | assumption | exact up_eq)))) (by omega) (by rfl) ?_
    refine V_iconst (q := 78) (v := nI 4) dX8_account_77 rfl (by decide) ?_
    refine V_iload_n (q := 79) dX8_account_78 rfl rfl ?_
    refine V_iadd (q := 80) dX8_account_79 rfl (by first | exact nI_add _ _ | rfl) ?_
    refine V_iconst (q := 81) (v := nI 4) dX8_account_80 rfl (by decide) ?_
    refine V_isub (q := 82) dX8_account_81 rfl (by first | exact pk_sub (by omega) | rfl) ?_
    refine V_ialdN (q := 83) dX8_account_82 rfl (by first | assumption | exact up_eq | exact (up_ne (by omega)).trans (by first | assumption | exact up_eq | exact (up_ne (by omega)).trans (by first | assumption | exact up_eq | exact (up_ne (by omega)).trans (by first | assumption | exact up_eq)))) (by omega) (by omega) (by omega) rfl f4 ?_
    exact V_iret dX8_account_83 rfl (Nat.le_of_ble_eq_true rfl) (Nat.le_of_ble_eq_true rfl) (⟨rfl, rfl, rfl⟩)
  · skip
    refine V_tabIn (off := 72) (tgt := 73) dX8_account_1 (by decide) (by decide) (by decide) (by decide) ?_
    refine V_aload_n (q := 74) dX8_account_73 rfl rfl rfl ?_
    refine GX8_9 (q := 77) rfl dX8_account_74 rfl (by first | assumption | exact up_eq | exact (up_ne (by omega)).trans (by first | assumption | exact up_eq | exact (up_ne (by omega)).trans (by first | assumption | exact up_eq | exact (up_ne (by omega)).trans (by first | assumption | exact up_eq)))) (by omega) (by rfl) ?_
    refine V_iconst (q := 78) (v := nI 4) dX8_account_77 rfl (by decide) ?_
    refine V_iload_n (q := 79) dX8_account_78 rfl rfl ?_
    refine V_iadd (q := 80) dX8_account_79 rfl (by first | exact nI_add _ _ | rfl) ?_
    refine V_iconst (q := 81) (v := nI 4) dX8_account_80 rfl (by decide) ?_
    refine V_isub (q := 82) dX8_account_81 rfl (by first | exact pk_sub (by omega) | rfl) ?_
    refine V_ialdN (q := 83) dX8_account_82 rfl (by first | assumption | exact up_eq | exact (up_ne (by omega)).trans (by first | assumption | exact up_eq | exact (up_ne (by omega)).trans (by first | assumption | exact up_eq | exact (up_ne (by omega)).trans (by first | assumption | exact up_eq)))) (by omega) (by omega) (by omega) rfl f5 ?_
    exact V_iret dX8_account_83 rfl (Nat.le_of_ble_eq_true rfl) (Nat.le_of_ble_eq_true rfl) (⟨rfl, rfl, rfl⟩)
  · skip
    refine V_tabIn (off := 72) (tgt := 73) dX8_account_1 (by decide) (by decide) (by decide) (by decide) ?_
    refine V_aload_n (q := 74) dX8_account_73 rfl rfl rfl ?_
    refine GX8_9 (q := 77) rfl dX8_account_74 rfl (by first | assumption | exact up_eq | exact (up_ne (by omega)).trans (by first | assumption | exact up_eq | exact (up_ne (by omega)).trans (by first | assumption | exact up_eq | exact (up_ne (by omega)).trans (by first | assumption | exact up_eq)))) (by omega) (by rfl) ?_
    refine V_iconst (q := 78) (v := nI 4) dX8_account_77 rfl (by decide) ?_
    refine V_iload_n (q := 79) dX8_account_78 rfl rfl ?_
    refine V_iadd (q := 80) dX8_account_79 rfl (by first | exact nI_add _ _ | rfl) ?_
    refine V_iconst (q := 81) (v := nI 4) dX8_account_80 rfl (by decide) ?_
    refine V_isub (q := 82) dX8_account_81 rfl (by first | exact pk_sub (by omega) | rfl) ?_
    refine V_ialdN (q := 83) dX8_account_82 rfl (by first | assumption | exact up_eq | exact (up_ne (by omega)).trans (by first | assumption | exact up_eq | exact (up_ne (by omega)).trans (by first | assumption | exact up_eq | exact (up_ne (by omega)).trans (by first | assumption | exact up_eq)))) (by omega) (by omega) (by omega) rfl f6 ?_
    exact V_iret dX8_account_83 rfl (Nat.le_of_ble_eq_true rfl) (Nat.le_of_ble_eq_true rfl) (⟨rfl, rfl, rfl⟩)
  · skip
    refine V_tabIn (off := 72) (tgt := 73) dX8_account_1 (by decide) (by decide) (by decide) (by decide) ?_
    refine V_aload_n (q := 74) dX8_account_73 rfl rfl rfl ?_
    refine GX8_9 (q := 77) rfl dX8_account_74 rfl (by first | assumption | exact up_eq | exact (up_ne (by omega)).trans (by first | assumption | exact up_eq | exact (up_ne (by omega)).trans (by first | assumption | exact up_eq | exact (up_ne (by omega)).trans (by first | assumption | exact up_eq)))) (by omega) (by rfl) ?_
    refine V_iconst (q := 78) (v := nI 4) dX8_account_77 rfl (by decide) ?_
    refine V_iload_n (q := 79) dX8_account_78 rfl rfl ?_
    refine V_iadd (q := 80) dX8_account_79 rfl (by first | exact nI_add _ _ | rfl) ?_
    refine V_iconst (q := 81) (v := nI 4) dX8_account_80 rfl (by decide) ?_
    refine V_isub (q := 82) dX8_account_81 rfl (by first | exact pk_sub (by omega) | rfl) ?_
    refine V_ialdN (q := 83) dX8_account_82 rfl (by first | assumption | exact up_eq | exact (up_ne (by omega)).trans (by first | assumption | exact up_eq | exact (up_ne (by omega)).trans (by first | assumption | exact up_eq | exact (up_ne (by omega)).trans (by first | assumption | exact up_eq)))) (by omega) (by omega) (by omega) rfl f7 ?_
    exact V_iret dX8_account_83 rfl (Nat.le_of_ble_eq_true rfl) (Nat.le_of_ble_eq_true rfl) (⟨rfl, rfl, rfl⟩)
  · skip
    refine V_tabIn (off := 72) (tgt := 73) dX8_account_1 (by decide) (by decide) (by decide) (by decide) ?_
    refine V_aload_n (q := 74) dX8_account_73 rfl rfl rfl ?_
    refine GX8_9 (q := 77) rfl dX8_account_74 rfl (by first | assumption | exact up_eq | exact (up_ne (by omega)).trans (by first | assumption | exact up_eq | exact (up_ne (by omega)).trans (by first | assumption | exact up_eq | exact (up_ne (by omega)).trans (by first | assumption | exact up_eq)))) (by omega) (by rfl) ?_
    refine V_iconst (q := 78) (v := nI 4) dX8_account_77 rfl (by decide) ?_
    refine V_iload_n (q := 79) dX8_account_78 rfl rfl ?_
    refine V_iadd (q := 80) dX8_account_79 rfl (by first | exact nI_add _ _ | rfl) ?_
    refine V_iconst (q := 81) (v := nI 4) dX8_account_80 rfl (by decide) ?_
    refine V_isub (q := 82) dX8_account_81 rfl (by first | exact pk_sub (by omega) | rfl) ?_
    refine V_ialdN (q := 83) dX8_account_82 rfl (by first | assumption | exact up_eq | exact (up_ne (by omega)).trans (by first | assumption | exact up_eq | exact (up_ne (by omega)).trans (by first | assumption | exact up_eq | exact (up_ne (by omega)).trans (by first | assumption | exact up_eq)))) (by omega) (by omega) (by omega) rfl f8 ?_
    exact V_iret dX8_account_83 rfl (Nat.le_of_ble_eq_true rfl) (Nat.le_of_ble_eq_true rfl) (⟨rfl, rfl, rfl⟩)
  · skip
    refine V_tabIn (off := 83) (tgt := 84) dX8_account_1 (by decide) (by decide) (by decide) (by decide) ?_
    refine V_aload_n (q := 85) dX8_account_84 rfl rfl rfl ?_
    refine GX8_176 (q := 88) rfl dX8_account_85 rfl (by first | assumption | exact up_eq | exact (up_ne (by omega)).trans (by first | assumption | exact up_eq | exact (up_ne (by omega)).trans (by first | assumption | exact up_eq | exact (up_ne (by omega)).trans (by first | assumption | exact up_eq)))) (by omega) (by rfl) ?_
    refine V_topi t1 ?_
    skip
    exact V_iret dX8_account_88 rfl (Nat.le_of_ble_eq_true rfl) (Nat.le_of_ble_eq_true rfl) (⟨rfl, rfl, rfl⟩)
  · skip
    refine V_tabIn (off := 88) (tgt := 89) dX8_account_1 (by decide) (by decide) (by decide) (by decide) ?_
    refine V_aload_n (q := 90) dX8_account_89 rfl rfl rfl ?_
    refine GX8_60 (q := 93) rfl dX8_account_90 rfl (by first | assumption | exact up_eq | exact (up_ne (by omega)).trans (by first | assumption | exact up_eq | exact (up_ne (by omega)).trans (by first | assumption | exact up_eq | exact (up_ne (by omega)).trans (by first | assumption | exact up_eq)))) (by omega) (by rfl) ?_
    refine V_topi hkp ?_
    skip
    exact V_iret dX8_account_93 rfl (Nat.le_of_ble_eq_true rfl) (Nat.le_of_ble_eq_true rfl) (⟨rfl, rfl, rfl⟩)
end MW
