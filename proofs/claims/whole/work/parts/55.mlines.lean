/-! the model: lines -/
def LWx (g : GG) (w1 : HW) (n p : Nat) (K : MS) (F Fs Fb T : Nat → Int32) (pk : Nat) (Hs : Nat → StT) (c : Nat → Nat) (q : Nat) (C1 : Nat → Int32) : Prop := MBd g w1 n p (setWr K (nI q)) F Fs Fb pk Hs C1 T ∧ ∀ i, i < q → C1 i = nI (c i)
section MW
variable {g : GG} {l : Launch} {w : HW} {n p : Nat} {X : XT} {K : MS} {F Fs Fb C T : Nat → Int32} {pk : Nat} {Hs : Nat → StT} {N : StT} {c : Nat → Nat}
theorem LWx.put {w' : HW} {q x : Nat} {C1 : Nat → Int32} (h : LWx g w n p K F Fs Fb T pk Hs c q C1) (hm : MBd g w' n p (setWr (setWr K (nI q)) (nI (q + 1))) F Fs Fb pk Hs (upd C1 q (nI x)) T) (hx : c q = x) : LWx g w' n p K F Fs Fb T pk Hs c (q + 1) (upd C1 q (nI x)) := by
  refine ⟨hm, fun i hi => ?_⟩
  by_cases e : i = q
  · rw [e, updI, hx]
  · rw [updN e]; exact h.2 i (by omega)
theorem LWx.fin {q : Nat} {w1 : HW} {C1 : Nat → Int32} (h : MWx g w n p X K F Fs Fb C T) (hl : LWx g w1 n p K F Fs Fb T (xP X).1 (xP X).2 c q C1) (hq : q ≤ 10) : MW g w1 n p (setL X (q, c)) := by
  obtain ⟨h0, h1, h2, h3, h4, h5, h6, h7, h8⟩ := h
  exact ⟨_, F, Fs, Fb, C1, T, hl.1, h1, h2, h3, h4, h5, ⟨rfl, hq, hl.2⟩, h7, h8⟩
theorem LWx.init (h : MBd g w n p K F Fs Fb pk Hs C T) : LWx g (va_up w p (eO 8 (mfs g p (setWr K (nI 0))))) n p K F Fs Fb T pk Hs c 0 C ∧ FrM w (va_up w p (eO 8 (mfs g p (setWr K (nI 0))))) p := by
  have := h.own (K' := setWr K (nI 0)) rfl
  exact ⟨⟨this.1, fun i hi => absurd hi (Nat.not_lt_zero i)⟩, this.2⟩
theorem Y_tellRow (h : MW g w n p X) {x : Int32} : CtI g l MX8_tellRow 3 [rf g p, .int x] w n (MP g w n p (tlrA x X)) := by
  obtain ⟨K, F, Fs, Fb, C, T, h⟩ := h
  obtain ⟨hX, hR, hSv, hsv, hH, hIn, hL, hT, hRf⟩ := id h
  obtain ⟨h0, h1, hfs, hfb, hhi, hqq, hC, hTT, hn, hkp, hpk8⟩ := id hX
  have hpn : p + 1 < n := by omega
  have hc6 := hR.2.2.1.1
  have hs := hR.2.2.2.1.1
  rcases i3_lt x (sC (xN X)) (by omega) with hx | ⟨i, hi, rfl⟩
  · rw [show tlrA x X = (-1, X) by unfold tlrA; rw [idx_no hx]]
    refine Ct.ofs (M := MX8_tellRow) (ls := [some _, some _, none]) (by decide +kernel) (by exact (Nat.le_of_ble_eq_true rfl)) (by rfl) (by rfl) (by rfl) ?_
    refine V_aload_n (q := 1) dX8_tellRow_0 rfl rfl rfl ?_
    refine V_iload_n (q := 2) dX8_tellRow_1 rfl rfl ?_
    refine CrX8_123 (q := 5) rfl dX8_tellRow_2 rfl (m_isRow_out h0 h1 hpn hR hx) ⟨(Nat.le_of_ble_eq_true rfl), (Nat.le_of_ble_eq_true rfl)⟩ (Nat.le_of_ble_eq_true rfl) (by first | assumption | exact up_eq | exact (up_ne (by omega)).trans (by first | assumption | exact up_eq | exact (up_ne (by omega)).trans (by first | assumption | exact up_eq | exact (up_ne (by omega)).trans (by first | assumption | exact up_eq)))) (by omega) (Nat.zero_le _) (Nat.zero_le _) ?_
    refine V_if_ne (q := 8) (tgt := 10) dX8_tellRow_5 (by decide) rfl (fun h9 => absurd rfl h9) (fun _ => ?_)
    refine V_iconst (q := 9) (v := (-1)) dX8_tellRow_8 rfl (by decide) ?_
    exact V_iret dX8_tellRow_9 rfl (Nat.le_of_ble_eq_true rfl) (Nat.le_of_ble_eq_true rfl) (⟨rfl, _, rfl, h.same⟩)
  obtain ⟨i0, i1, i2⟩ := hR.2.2.1.2 i hi
  rw [show tlrA (nI i) X = (nI ((sR (xN X) i).1 + 2), setL X ((sR (xN X) i).1 + 2, lnRow (sR (xN X) i))) by unfold tlrA; rw [idx_yes hi (by omega)]]
  have hd := divL_le i0 i2
  have hcn := clN_le (sR (xN X) i).2 (sR (xN X) i).1
  refine Ct.ofs (M := MX8_tellRow) (ls := [some _, some _, none]) (by decide +kernel) (by exact (Nat.le_of_ble_eq_true rfl)) (by rfl) (by rfl) (by rfl) ?_
  refine V_aload_n (q := 1) dX8_tellRow_0 rfl rfl rfl ?_
  refine V_iload_n (q := 2) dX8_tellRow_1 rfl rfl ?_
  refine CrX8_123 (q := 5) rfl dX8_tellRow_2 rfl (m_isRow_in h0 h1 hpn hR hi) ⟨(Nat.le_of_ble_eq_true rfl), (Nat.le_of_ble_eq_true rfl)⟩ (Nat.le_of_ble_eq_true rfl) (by first | assumption | exact up_eq | exact (up_ne (by omega)).trans (by first | assumption | exact up_eq | exact (up_ne (by omega)).trans (by first | assumption | exact up_eq | exact (up_ne (by omega)).trans (by first | assumption | exact up_eq)))) (by omega) (Nat.zero_le _) (Nat.zero_le _) ?_
  refine V_if_ne (q := 8) (tgt := 10) dX8_tellRow_5 (by decide) rfl (fun _ => ?_) (fun h9 => absurd h9 (by decide))
  refine V_aload_n (q := 11) dX8_tellRow_10 rfl rfl rfl ?_
  refine V_iconst (q := 12) (v := nI 0) dX8_tellRow_11 rfl (by decide) ?_
  refine PX8_170 (q := 15) (fs' := [_, _, _, _, _, _, _, _, _, _, _, _, _, _, _, _, _, _, _, _, _, _, _, _, _, _]) rfl dX8_tellRow_12 rfl (by first | assumption | exact up_eq | exact (up_ne (by omega)).trans (by first | assumption | exact up_eq | exact (up_ne (by omega)).trans (by first | assumption | exact up_eq | exact (up_ne (by omega)).trans (by first | assumption | exact up_eq)))) (by omega) (by exact (Nat.le_of_ble_eq_true rfl)) (by rfl) ?_
  try rw [up_up]
  refine V_iconst (q := 16) (v := nI 0) dX8_tellRow_15 rfl (by decide) ?_
  refine V_istore_n (q := 17) (ls' := [_, _, _]) dX8_tellRow_16 rfl (by decide) rfl ?_
  have key : ∀ k, k ≤ (sR (xN X) i).1 → ∀ w1 C1, LWx g w1 n p K F Fs Fb T (xP X).1 (xP X).2 (lnRow (sR (xN X) i)) k C1 → FrM w w1 p → V g l MX8_tellRow (rmd 3 0 0) (FinM g (qI (MP g w n p (nI ((sR (xN X) i).1 + 2), setL X ((sR (xN X) i).1 + 2, lnRow (sR (xN X) i)))) n) 0 0) 17 [some (rf g p), some (.int (nI i)), some (.int (nI k))] [] (w1) n 0 0 := by
    refine loopU (fun k => ∀ w1 C1, LWx g w1 n p K F Fs Fb T (xP X).1 (xP X).2 (lnRow (sR (xN X) i)) k C1 → FrM w w1 p → V g l MX8_tellRow (rmd 3 0 0) (FinM g (qI (MP g w n p (nI ((sR (xN X) i).1 + 2), setL X ((sR (xN X) i).1 + 2, lnRow (sR (xN X) i)))) n) 0 0) 17 [some (rf g p), some (.int (nI i)), some (.int (nI k))] [] (w1) n 0 0) (sR (xN X) i).1 ?_ ?_
    · intro w1 C1 hl hF
      have b0 := hl.1.1
      have b1 := hl.1.2.1
      refine V_iload_n (q := 18) dX8_tellRow_17 rfl rfl ?_
      refine V_aload_n (q := 19) dX8_tellRow_18 rfl rfl rfl ?_
      refine V_iload_n (q := 20) dX8_tellRow_19 rfl rfl ?_
      refine CrX8_75 (q := 23) rfl dX8_tellRow_20 rfl (m_lengthOf b0 b1 hpn hR hi) ⟨(Nat.le_of_ble_eq_true rfl), (Nat.le_of_ble_eq_true rfl)⟩ (Nat.le_of_ble_eq_true rfl) (by first | assumption | exact up_eq | exact (up_ne (by omega)).trans (by first | assumption | exact up_eq | exact (up_ne (by omega)).trans (by first | assumption | exact up_eq | exact (up_ne (by omega)).trans (by first | assumption | exact up_eq)))) (by omega) (Nat.zero_le _) (Nat.zero_le _) ?_
      refine V_icmpN_ge (q := 26) (tgt := 45) dX8_tellRow_23 (by decide) rfl (by omega) (by omega) (fun _ => ?_) (fun h9 => by first | exact h9.elim | (exfalso; omega))
      refine V_aload_n (q := 46) dX8_tellRow_45 rfl rfl rfl ?_
      refine V_iload_n (q := 47) dX8_tellRow_46 rfl rfl ?_
      refine CrX8_83 (q := 50) rfl dX8_tellRow_47 rfl (m_clashOf b0 b1 hpn hR hi) ⟨(Nat.le_of_ble_eq_true rfl), (Nat.le_of_ble_eq_true rfl)⟩ (Nat.le_of_ble_eq_true rfl) (by first | assumption | exact up_eq | exact (up_ne (by omega)).trans (by first | assumption | exact up_eq | exact (up_ne (by omega)).trans (by first | assumption | exact up_eq | exact (up_ne (by omega)).trans (by first | assumption | exact up_eq)))) (by omega) (Nat.zero_le _) (Nat.zero_le _) ?_
      by_cases hcl : clN (sR (xN X) i).2 (sR (xN X) i).1 = (sR (xN X) i).1
      · skip
        refine V_topi (mcl_yes hcl) ?_
        refine V_if_ge (q := 53) (tgt := 57) dX8_tellRow_50 (by decide) rfl (fun h9 => absurd h9 (by decide)) (fun _ => ?_)
        refine V_iconst (q := 54) (v := nI 1) dX8_tellRow_53 rfl (by decide) ?_
        refine V_goto (tgt := 58) dX8_tellRow_54 (by decide) ?_
        refine V_istore_n (q := 59) (ls' := [_, _, _]) dX8_tellRow_58 rfl (by decide) rfl ?_
        refine V_aload_n (q := 60) dX8_tellRow_59 rfl rfl rfl ?_
        refine V_iload_n (q := 61) dX8_tellRow_60 rfl rfl ?_
        refine V_if_eq (q := 64) (tgt := 69) dX8_tellRow_61 (by decide) rfl (fun h9 => absurd h9 (by decide)) (fun _ => ?_)
        refine V_bipush (q := 66) (v := nI 61) dX8_tellRow_64 rfl (by decide) ?_
        refine V_goto (tgt := 71) dX8_tellRow_66 (by decide) ?_
        refine CvX8_173 (q := 74) rfl dX8_tellRow_71 rfl (m_write hl.1 (q := (sR (xN X) i).1) (c := 61) rfl (by omega) (by decide)) ⟨(Nat.le_of_ble_eq_true rfl), (Nat.le_of_ble_eq_true rfl)⟩ (Nat.le_of_ble_eq_true rfl) (by first | assumption | exact up_eq | exact (up_ne (by omega)).trans (by first | assumption | exact up_eq | exact (up_ne (by omega)).trans (by first | assumption | exact up_eq | exact (up_ne (by omega)).trans (by first | assumption | exact up_eq)))) (by omega) (Nat.zero_le _) (Nat.zero_le _) (fun w2 hw2 => ?_)
        have hl2 := hl.put hw2.1 (by unfold lnRow; rw [if_neg (by omega), if_pos rfl, if_pos hcl])
        have c0 := hl2.1.1
        have c1 := hl2.1.2.1
        refine V_aload_n (q := 75) dX8_tellRow_74 rfl rfl rfl ?_
        refine V_bipush (q := 77) (v := nI 48) dX8_tellRow_75 rfl (by decide) ?_
        refine V_iload_n (q := 78) dX8_tellRow_77 rfl rfl ?_
        refine V_if_eq (q := 81) (tgt := 89) dX8_tellRow_78 (by decide) rfl (fun h9 => absurd h9 (by decide)) (fun _ => ?_)
        refine V_aload_n (q := 82) dX8_tellRow_81 rfl rfl rfl ?_
        refine V_iload_n (q := 83) dX8_tellRow_82 rfl rfl ?_
        refine CrX8_103 (q := 86) rfl dX8_tellRow_83 rfl (m_ballsOf c0 c1 hpn hR hi) ⟨(Nat.le_of_ble_eq_true rfl), (Nat.le_of_ble_eq_true rfl)⟩ (Nat.le_of_ble_eq_true rfl) (by first | assumption | exact up_eq | exact (up_ne (by omega)).trans (by first | assumption | exact up_eq | exact (up_ne (by omega)).trans (by first | assumption | exact up_eq | exact (up_ne (by omega)).trans (by first | assumption | exact up_eq)))) (by omega) (Nat.zero_le _) (Nat.zero_le _) ?_
        refine V_topi (show mbaI (sR (xN X) i).2 (sR (xN X) i).1 = nI (sumN (sR (xN X) i).2 (sR (xN X) i).1 / (sR (xN X) i).1) from if_pos hcl) ?_
        refine V_goto (tgt := 94) dX8_tellRow_86 (by decide) ?_
        refine V_iadd (q := 95) dX8_tellRow_94 rfl (by first | exact nI_add _ _ | rfl) ?_
        refine CvX8_173 (q := 98) rfl dX8_tellRow_95 rfl (m_write hl2.1 (q := (sR (xN X) i).1 + 1) (c := 48 + sumN (sR (xN X) i).2 (sR (xN X) i).1 / (sR (xN X) i).1) rfl (by omega) (by omega)) ⟨(Nat.le_of_ble_eq_true rfl), (Nat.le_of_ble_eq_true rfl)⟩ (Nat.le_of_ble_eq_true rfl) (by first | assumption | exact up_eq | exact (up_ne (by omega)).trans (by first | assumption | exact up_eq | exact (up_ne (by omega)).trans (by first | assumption | exact up_eq | exact (up_ne (by omega)).trans (by first | assumption | exact up_eq)))) (by omega) (Nat.zero_le _) (Nat.zero_le _) (fun w3 hw3 => ?_)
        have hl3 := hl2.put hw3.1 (by unfold lnRow; rw [if_neg (by omega), if_neg (by omega), if_pos hcl])
        have d0 := hl3.1.1
        refine V_aload_n (q := 99) dX8_tellRow_98 rfl rfl rfl ?_
        refine GX8_170 (q := 102) rfl dX8_tellRow_99 rfl (by first | assumption | exact up_eq | exact (up_ne (by omega)).trans (by first | assumption | exact up_eq | exact (up_ne (by omega)).trans (by first | assumption | exact up_eq | exact (up_ne (by omega)).trans (by first | assumption | exact up_eq)))) (by omega) (by rfl) ?_
        exact V_iret dX8_tellRow_102 rfl (Nat.le_of_ble_eq_true rfl) (Nat.le_of_ble_eq_true rfl) (⟨rfl, _, rfl, rfl, hl3.fin h (by omega), (hF.tr hw2.2.1).tr hw3.2.1⟩)
      · skip
        refine V_topi (mcl_no hcl) ?_
        refine V_ifN_ge (q := 53) (tgt := 57) dX8_tellRow_50 (by decide) rfl (by omega) (fun _ => ?_) (fun h9 => by first | exact h9.elim | (exfalso; omega))
        refine V_iconst (q := 58) (v := nI 0) dX8_tellRow_57 rfl (by decide) ?_
        refine V_istore_n (q := 59) (ls' := [_, _, _]) dX8_tellRow_58 rfl (by decide) rfl ?_
        refine V_aload_n (q := 60) dX8_tellRow_59 rfl rfl rfl ?_
        refine V_iload_n (q := 61) dX8_tellRow_60 rfl rfl ?_
        refine V_if_eq (q := 64) (tgt := 69) dX8_tellRow_61 (by decide) rfl (fun _ => ?_) (fun h9 => absurd rfl h9)
        refine V_bipush (q := 71) (v := nI 33) dX8_tellRow_69 rfl (by decide) ?_
        refine CvX8_173 (q := 74) rfl dX8_tellRow_71 rfl (m_write hl.1 (q := (sR (xN X) i).1) (c := 33) rfl (by omega) (by decide)) ⟨(Nat.le_of_ble_eq_true rfl), (Nat.le_of_ble_eq_true rfl)⟩ (Nat.le_of_ble_eq_true rfl) (by first | assumption | exact up_eq | exact (up_ne (by omega)).trans (by first | assumption | exact up_eq | exact (up_ne (by omega)).trans (by first | assumption | exact up_eq | exact (up_ne (by omega)).trans (by first | assumption | exact up_eq)))) (by omega) (Nat.zero_le _) (Nat.zero_le _) (fun w2 hw2 => ?_)
        have hl2 := hl.put hw2.1 (by unfold lnRow; rw [if_neg (by omega), if_pos rfl, if_neg hcl])
        have c0 := hl2.1.1
        have c1 := hl2.1.2.1
        refine V_aload_n (q := 75) dX8_tellRow_74 rfl rfl rfl ?_
        refine V_bipush (q := 77) (v := nI 48) dX8_tellRow_75 rfl (by decide) ?_
        refine V_iload_n (q := 78) dX8_tellRow_77 rfl rfl ?_
        refine V_if_eq (q := 81) (tgt := 89) dX8_tellRow_78 (by decide) rfl (fun _ => ?_) (fun h9 => absurd rfl h9)
        refine V_aload_n (q := 90) dX8_tellRow_89 rfl rfl rfl ?_
        refine V_iload_n (q := 91) dX8_tellRow_90 rfl rfl ?_
        refine CrX8_83 (q := 94) rfl dX8_tellRow_91 rfl (m_clashOf c0 c1 hpn hR hi) ⟨(Nat.le_of_ble_eq_true rfl), (Nat.le_of_ble_eq_true rfl)⟩ (Nat.le_of_ble_eq_true rfl) (by first | assumption | exact up_eq | exact (up_ne (by omega)).trans (by first | assumption | exact up_eq | exact (up_ne (by omega)).trans (by first | assumption | exact up_eq | exact (up_ne (by omega)).trans (by first | assumption | exact up_eq)))) (by omega) (Nat.zero_le _) (Nat.zero_le _) ?_
        refine V_topi (mcl_no hcl) ?_
        refine V_iadd (q := 95) dX8_tellRow_94 rfl (by first | exact nI_add _ _ | rfl) ?_
        refine CvX8_173 (q := 98) rfl dX8_tellRow_95 rfl (m_write hl2.1 (q := (sR (xN X) i).1 + 1) (c := 48 + clN (sR (xN X) i).2 (sR (xN X) i).1) rfl (by omega) (by omega)) ⟨(Nat.le_of_ble_eq_true rfl), (Nat.le_of_ble_eq_true rfl)⟩ (Nat.le_of_ble_eq_true rfl) (by first | assumption | exact up_eq | exact (up_ne (by omega)).trans (by first | assumption | exact up_eq | exact (up_ne (by omega)).trans (by first | assumption | exact up_eq | exact (up_ne (by omega)).trans (by first | assumption | exact up_eq)))) (by omega) (Nat.zero_le _) (Nat.zero_le _) (fun w3 hw3 => ?_)
        have hl3 := hl2.put hw3.1 (by unfold lnRow; rw [if_neg (by omega), if_neg (by omega), if_neg hcl])
        have d0 := hl3.1.1
        refine V_aload_n (q := 99) dX8_tellRow_98 rfl rfl rfl ?_
        refine GX8_170 (q := 102) rfl dX8_tellRow_99 rfl (by first | assumption | exact up_eq | exact (up_ne (by omega)).trans (by first | assumption | exact up_eq | exact (up_ne (by omega)).trans (by first | assumption | exact up_eq | exact (up_ne (by omega)).trans (by first | assumption | exact up_eq)))) (by omega) (by rfl) ?_
        exact V_iret dX8_tellRow_102 rfl (Nat.le_of_ble_eq_true rfl) (Nat.le_of_ble_eq_true rfl) (⟨rfl, _, rfl, rfl, hl3.fin h (by omega), (hF.tr hw2.2.1).tr hw3.2.1⟩)
    · intro k hk ih w1 C1 hl hF
      have b0 := hl.1.1
      have b1 := hl.1.2.1
      have hh := i2 k hk
      refine V_iload_n (q := 18) dX8_tellRow_17 rfl rfl ?_
      refine V_aload_n (q := 19) dX8_tellRow_18 rfl rfl rfl ?_
      refine V_iload_n (q := 20) dX8_tellRow_19 rfl rfl ?_
      refine CrX8_75 (q := 23) rfl dX8_tellRow_20 rfl (m_lengthOf b0 b1 hpn hR hi) ⟨(Nat.le_of_ble_eq_true rfl), (Nat.le_of_ble_eq_true rfl)⟩ (Nat.le_of_ble_eq_true rfl) (by first | assumption | exact up_eq | exact (up_ne (by omega)).trans (by first | assumption | exact up_eq | exact (up_ne (by omega)).trans (by first | assumption | exact up_eq | exact (up_ne (by omega)).trans (by first | assumption | exact up_eq)))) (by omega) (Nat.zero_le _) (Nat.zero_le _) ?_
      refine V_icmpN_ge (q := 26) (tgt := 45) dX8_tellRow_23 (by decide) rfl (by omega) (by omega) (fun h9 => by first | exact h9.elim | exact absurd h9 (by assumption) | (exfalso; omega)) (fun _ => ?_)
      refine V_aload_n (q := 27) dX8_tellRow_26 rfl rfl rfl ?_
      refine V_bipush (q := 29) (v := nI 48) dX8_tellRow_27 rfl (by decide) ?_
      refine V_aload_n (q := 30) dX8_tellRow_29 rfl rfl rfl ?_
      refine V_iload_n (q := 31) dX8_tellRow_30 rfl rfl ?_
      refine V_iload_n (q := 32) dX8_tellRow_31 rfl rfl ?_
      refine CrX8_79 (q := 35) rfl dX8_tellRow_32 rfl (m_thrown b0 b1 hpn hR hi hk) ⟨(Nat.le_of_ble_eq_true rfl), (Nat.le_of_ble_eq_true rfl)⟩ (Nat.le_of_ble_eq_true rfl) (by first | assumption | exact up_eq | exact (up_ne (by omega)).trans (by first | assumption | exact up_eq | exact (up_ne (by omega)).trans (by first | assumption | exact up_eq | exact (up_ne (by omega)).trans (by first | assumption | exact up_eq)))) (by omega) (Nat.zero_le _) (Nat.zero_le _) ?_
      refine V_iadd (q := 36) dX8_tellRow_35 rfl (by first | exact nI_add _ _ | rfl) ?_
      refine CvX8_173 (q := 39) rfl dX8_tellRow_36 rfl (m_write hl.1 (q := k) (c := 48 + (sR (xN X) i).2 k) rfl (by omega) (by omega)) ⟨(Nat.le_of_ble_eq_true rfl), (Nat.le_of_ble_eq_true rfl)⟩ (Nat.le_of_ble_eq_true rfl) (by first | assumption | exact up_eq | exact (up_ne (by omega)).trans (by first | assumption | exact up_eq | exact (up_ne (by omega)).trans (by first | assumption | exact up_eq | exact (up_ne (by omega)).trans (by first | assumption | exact up_eq)))) (by omega) (Nat.zero_le _) (Nat.zero_le _) (fun w2 hw2 => ?_)
      have hl2 := hl.put hw2.1 (by unfold lnRow; rw [if_pos hk])
      refine V_iinc (q := 42) (ls' := [_, _, _]) dX8_tellRow_39 rfl (by decide) rfl (by first | exact inc1 _ | rfl) rfl ?_
      refine V_goto (tgt := 17) dX8_tellRow_42 (by decide) ?_
      exact ih w2 _ hl2 (hF.tr hw2.2.1)
  have st := LWx.init (c := lnRow (sR (xN X) i)) hX
  exact key 0 (Nat.zero_le _) _ C st.1 st.2
theorem Y_tellState (h : MW g w n p X) : CtI g l MX8_tellState 1 [rf g p] w n (MP g w n p (tlsA X)) := by
  obtain ⟨K, F, Fs, Fb, C, T, h⟩ := h
  obtain ⟨hX, hR, hSv, hsv, hH, hIn, hL, hT, hRf⟩ := id h
  obtain ⟨h0, h1, hfs, hfb, hhi, hqq, hC, hTT, hn, hkp, hpk8⟩ := id hX
  have hpn : p + 1 < n := by omega
  have hc6 := hR.2.2.1.1
  have hs := hR.2.2.2.1.1
  have f1 := hR.1.2.1
  have hqle := fa_first_le (fun m => decide (sS (xN X) / 2 ^ (m + 1) = 0)) 8
  have hqno := fa_first_no (fun m => decide (sS (xN X) / 2 ^ (m + 1) = 0)) 8
  have hqye := fa_first_yes (fun m => decide (sS (xN X) / 2 ^ (m + 1) = 0)) 8
  unfold tlsA stL
  generalize fa_first (fun m => decide (sS (xN X) / 2 ^ (m + 1) = 0)) 8 = q at hqle hqno hqye ⊢
  have hend : sS (xN X) / 2 ^ (q + 1) = 0 := by
    rcases Nat.lt_or_ge q 8 with z | z
    · exact of_decide_eq_true (hqye z)
    · have e : q = 8 := by omega
      subst e
      exact Nat.div_eq_of_lt (by omega)
  refine Ct.ofs (M := MX8_tellState) (ls := [some _, none]) (by decide +kernel) (by exact (Nat.le_of_ble_eq_true rfl)) (by rfl) (by rfl) (by rfl) ?_
  refine V_aload_n (q := 1) dX8_tellState_0 rfl rfl rfl ?_
  refine V_iconst (q := 2) (v := nI 0) dX8_tellState_1 rfl (by decide) ?_
  refine PX8_170 (q := 5) (fs' := [_, _, _, _, _, _, _, _, _, _, _, _, _, _, _, _, _, _, _, _, _, _, _, _, _, _]) rfl dX8_tellState_2 rfl (by first | assumption | exact up_eq | exact (up_ne (by omega)).trans (by first | assumption | exact up_eq | exact (up_ne (by omega)).trans (by first | assumption | exact up_eq | exact (up_ne (by omega)).trans (by first | assumption | exact up_eq)))) (by omega) (by exact (Nat.le_of_ble_eq_true rfl)) (by rfl) ?_
  try rw [up_up]
  refine V_aload_n (q := 6) dX8_tellState_5 rfl rfl rfl ?_
  refine GX8_9 (q := 9) rfl dX8_tellState_6 rfl (by first | assumption | exact up_eq | exact (up_ne (by omega)).trans (by first | assumption | exact up_eq | exact (up_ne (by omega)).trans (by first | assumption | exact up_eq | exact (up_ne (by omega)).trans (by first | assumption | exact up_eq)))) (by omega) (by rfl) ?_
  refine V_iconst (q := 10) (v := nI 1) dX8_tellState_9 rfl (by decide) ?_
  refine V_ialdN (q := 11) dX8_tellState_10 rfl (by first | assumption | exact up_eq | exact (up_ne (by omega)).trans (by first | assumption | exact up_eq | exact (up_ne (by omega)).trans (by first | assumption | exact up_eq | exact (up_ne (by omega)).trans (by first | assumption | exact up_eq)))) (by omega) (by omega) (by omega) rfl f1 ?_
  refine V_istore_n (q := 12) (ls' := [_, _]) dX8_tellState_11 rfl (by decide) rfl ?_
  have key : ∀ k, k ≤ q + 1 → ∀ w1 C1, LWx g w1 n p K F Fs Fb T (xP X).1 (xP X).2 (lnSt (sS (xN X))) k C1 → FrM w w1 p → V g l MX8_tellState (rmd 1 0 0) (FinM g (qI (MP g w n p (nI (q + 1), setL X (q + 1, lnSt (sS (xN X))))) n) 0 0) 12 [some (rf g p), some (.int (nI (sS (xN X) / 2 ^ k)))] [] (w1) n 0 0 := by
    refine loopU (fun k => ∀ w1 C1, LWx g w1 n p K F Fs Fb T (xP X).1 (xP X).2 (lnSt (sS (xN X))) k C1 → FrM w w1 p → V g l MX8_tellState (rmd 1 0 0) (FinM g (qI (MP g w n p (nI (q + 1), setL X (q + 1, lnSt (sS (xN X))))) n) 0 0) 12 [some (rf g p), some (.int (nI (sS (xN X) / 2 ^ k)))] [] (w1) n 0 0) (q + 1) ?_ ?_
    · intro w1 C1 hl hF
      have b0 := hl.1.1
      rw [hend]
      refine V_iload_n (q := 13) dX8_tellState_12 rfl rfl ?_
      refine V_if_gt (q := 16) (tgt := 23) dX8_tellState_13 (by decide) rfl (fun h9 => absurd h9 (by decide)) (fun _ => ?_)
      refine V_aload_n (q := 17) dX8_tellState_16 rfl rfl rfl ?_
      refine GX8_170 (q := 20) rfl dX8_tellState_17 rfl (by first | assumption | exact up_eq | exact (up_ne (by omega)).trans (by first | assumption | exact up_eq | exact (up_ne (by omega)).trans (by first | assumption | exact up_eq | exact (up_ne (by omega)).trans (by first | assumption | exact up_eq)))) (by omega) (by rfl) ?_
      refine V_if_ne (q := 23) (tgt := 48) dX8_tellState_20 (by decide) rfl (fun _ => ?_) (fun h9 => absurd h9 (fun e => by have e : nI (q + 1) = 0 := e; rw [eq0 (by omega)] at e; omega))
      refine V_aload_n (q := 49) dX8_tellState_48 rfl rfl rfl ?_
      refine GX8_170 (q := 52) rfl dX8_tellState_49 rfl (by first | assumption | exact up_eq | exact (up_ne (by omega)).trans (by first | assumption | exact up_eq | exact (up_ne (by omega)).trans (by first | assumption | exact up_eq | exact (up_ne (by omega)).trans (by first | assumption | exact up_eq)))) (by omega) (by rfl) ?_
      exact V_iret dX8_tellState_52 rfl (Nat.le_of_ble_eq_true rfl) (Nat.le_of_ble_eq_true rfl) (⟨rfl, _, rfl, rfl, hl.fin h (by omega), hF⟩)
    · intro k hk ih w1 C1 hl hF
      have b0 := hl.1.1
      have hdl : sS (xN X) / 2 ^ k ≤ sS (xN X) := Nat.div_le_self _ _
      have hdd : sS (xN X) / 2 ^ k / 2 ^ 1 = sS (xN X) / 2 ^ (k + 1) := by rw [Nat.div_div_eq_div_mul, ← Nat.pow_add]
      have body : V g l MX8_tellState (rmd 1 0 0) (FinM g (qI (MP g w n p (nI (q + 1), setL X (q + 1, lnSt (sS (xN X))))) n) 0 0) 23 [some (rf g p), some (.int (nI (sS (xN X) / 2 ^ k)))] [] (w1) n 0 0 := by
        refine V_aload_n (q := 24) dX8_tellState_23 rfl rfl rfl ?_
        refine V_iload_n (q := 25) dX8_tellState_24 rfl rfl ?_
        refine V_iconst (q := 26) (v := nI 1) dX8_tellState_25 rfl (by decide) ?_
        refine V_iand (q := 27) dX8_tellState_26 rfl (and1 _) ?_
        refine V_iconst (q := 28) (v := nI 1) dX8_tellState_27 rfl (by decide) ?_
        refine V_icmpN_ne (q := 31) (tgt := 36) dX8_tellState_28 (by decide) rfl (by omega) (by omega) (fun hb => ?_) (fun hb => ?_)
        · skip
          have hc : lnSt (sS (xN X)) k = 45 := if_pos (by omega)
          refine V_bipush (q := 38) (v := nI 45) dX8_tellState_36 rfl (by decide) ?_
          refine CvX8_173 (q := 41) rfl dX8_tellState_38 rfl (m_write hl.1 (q := k) (c := 45) rfl (by omega) (by decide)) ⟨(Nat.le_of_ble_eq_true rfl), (Nat.le_of_ble_eq_true rfl)⟩ (Nat.le_of_ble_eq_true rfl) (by first | assumption | exact up_eq | exact (up_ne (by omega)).trans (by first | assumption | exact up_eq | exact (up_ne (by omega)).trans (by first | assumption | exact up_eq | exact (up_ne (by omega)).trans (by first | assumption | exact up_eq)))) (by omega) (Nat.zero_le _) (Nat.zero_le _) (fun w2 hw2 => ?_)
          refine V_iload_n (q := 42) dX8_tellState_41 rfl rfl ?_
          refine V_iconst (q := 43) (v := nI 1) dX8_tellState_42 rfl (by decide) ?_
          refine V_ishr (q := 44) dX8_tellState_43 rfl ((shr1 (k := 1) (by omega) (by omega)).trans (congrArg nI hdd)) ?_
          refine V_istore_n (q := 45) (ls' := [_, _]) dX8_tellState_44 rfl (by decide) rfl ?_
          refine V_goto (tgt := 12) dX8_tellState_45 (by decide) ?_
          exact ih w2 _ (hl.put hw2.1 hc) (hF.tr hw2.2.1)
        · skip
          have hc : lnSt (sS (xN X)) k = 120 := if_neg (by omega)
          refine V_bipush (q := 33) (v := nI 120) dX8_tellState_31 rfl (by decide) ?_
          refine V_goto (tgt := 38) dX8_tellState_33 (by decide) ?_
          refine CvX8_173 (q := 41) rfl dX8_tellState_38 rfl (m_write hl.1 (q := k) (c := 120) rfl (by omega) (by decide)) ⟨(Nat.le_of_ble_eq_true rfl), (Nat.le_of_ble_eq_true rfl)⟩ (Nat.le_of_ble_eq_true rfl) (by first | assumption | exact up_eq | exact (up_ne (by omega)).trans (by first | assumption | exact up_eq | exact (up_ne (by omega)).trans (by first | assumption | exact up_eq | exact (up_ne (by omega)).trans (by first | assumption | exact up_eq)))) (by omega) (Nat.zero_le _) (Nat.zero_le _) (fun w2 hw2 => ?_)
          refine V_iload_n (q := 42) dX8_tellState_41 rfl rfl ?_
          refine V_iconst (q := 43) (v := nI 1) dX8_tellState_42 rfl (by decide) ?_
          refine V_ishr (q := 44) dX8_tellState_43 rfl ((shr1 (k := 1) (by omega) (by omega)).trans (congrArg nI hdd)) ?_
          refine V_istore_n (q := 45) (ls' := [_, _]) dX8_tellState_44 rfl (by decide) rfl ?_
          refine V_goto (tgt := 12) dX8_tellState_45 (by decide) ?_
          exact ih w2 _ (hl.put hw2.1 hc) (hF.tr hw2.2.1)
      refine V_iload_n (q := 13) dX8_tellState_12 rfl rfl ?_
      refine V_ifN_gt (q := 16) (tgt := 23) dX8_tellState_13 (by decide) rfl (by omega) (fun hz => ?_) (fun hz => ?_)
      · skip
        exact body
      · skip
        have hk0 : k = 0 := by
          rcases Nat.eq_zero_or_pos k with z | z
          · exact z
          · have h9 := of_decide_eq_false (hqno (k - 1) (by omega))
            rw [show k - 1 + 1 = k by omega] at h9
            omega
        subst hk0
        refine V_aload_n (q := 17) dX8_tellState_16 rfl rfl rfl ?_
        refine GX8_170 (q := 20) rfl dX8_tellState_17 rfl (by first | assumption | exact up_eq | exact (up_ne (by omega)).trans (by first | assumption | exact up_eq | exact (up_ne (by omega)).trans (by first | assumption | exact up_eq | exact (up_ne (by omega)).trans (by first | assumption | exact up_eq)))) (by omega) (by rfl) ?_
        refine V_if_ne (q := 23) (tgt := 48) dX8_tellState_20 (by decide) rfl (fun h9 => absurd rfl h9) (fun _ => ?_)
        exact body
  have st := LWx.init (c := lnSt (sS (xN X))) hX
  have fin := key 0 (Nat.zero_le _) _ C st.1 st.2
  rw [Nat.pow_zero, Nat.div_one] at fin
  exact fin
theorem Y_tellJoin (h : MW g w n p X) {x : Int32} : CtI g l MX8_tellJoin 4 [rf g p, .int x] w n (MP g w n p (tljA x X)) := by
  obtain ⟨K, F, Fs, Fb, C, T, h⟩ := h
  obtain ⟨hX, hR, hSv, hsv, hH, hIn, hL, hT, hRf⟩ := id h
  obtain ⟨h0, h1, hfs, hfb, hhi, hqq, hC, hTT, hn, hkp, hpk8⟩ := id hX
  have hpn : p + 1 < n := by omega
  have hc6 := hR.2.2.1.1
  have hs := hR.2.2.2.1.1
  rcases i3_lt x (sC (xN X)) (by omega) with hx | ⟨i, hi, rfl⟩
  · rw [show tljA x X = (-1, X) by unfold tljA; rw [idx_no hx]]
    refine Ct.ofs (M := MX8_tellJoin) (ls := [some _, some _, none]) (by decide +kernel) (by exact (Nat.le_of_ble_eq_true rfl)) (by rfl) (by rfl) (by rfl) ?_
    refine V_aload_n (q := 1) dX8_tellJoin_0 rfl rfl rfl ?_
    refine V_iload_n (q := 2) dX8_tellJoin_1 rfl rfl ?_
    refine CrX8_123 (q := 5) rfl dX8_tellJoin_2 rfl (m_isRow_out h0 h1 hpn hR hx) ⟨(Nat.le_of_ble_eq_true rfl), (Nat.le_of_ble_eq_true rfl)⟩ (Nat.le_of_ble_eq_true rfl) (by first | assumption | exact up_eq | exact (up_ne (by omega)).trans (by first | assumption | exact up_eq | exact (up_ne (by omega)).trans (by first | assumption | exact up_eq | exact (up_ne (by omega)).trans (by first | assumption | exact up_eq)))) (by omega) (Nat.zero_le _) (Nat.zero_le _) ?_
    refine V_if_ne (q := 8) (tgt := 10) dX8_tellJoin_5 (by decide) rfl (fun h9 => absurd rfl h9) (fun _ => ?_)
    refine V_iconst (q := 9) (v := (-1)) dX8_tellJoin_8 rfl (by decide) ?_
    exact V_iret dX8_tellJoin_9 rfl (Nat.le_of_ble_eq_true rfl) (Nat.le_of_ble_eq_true rfl) (⟨rfl, _, rfl, h.same⟩)
  obtain ⟨i0, i1, i2⟩ := hR.2.2.1.2 i hi
  rw [show tljA (nI i) X = if ballI (sR (xN X) i).2 (sR (xN X) i).1 = nI (popc (sS (xN X))) then (nI (dstN (sS (xN X)) (stN (sR (xN X) i).2 (sR (xN X) i).1 0)), setL X (dstN (sS (xN X)) (stN (sR (xN X) i).2 (sR (xN X) i).1 0), fun a => 48 + digN (codN (sS (xN X)) (stN (sR (xN X) i).2 (sR (xN X) i).1 0)) (dstN (sS (xN X)) (stN (sR (xN X) i).2 (sR (xN X) i).1 0)) a)) else (-4, X) by unfold tljA; (rw [idx_yes hi (by omega)]) <;> rfl]
  refine Ct.ofs (M := MX8_tellJoin) (ls := [some _, some _, none]) (by decide +kernel) (by exact (Nat.le_of_ble_eq_true rfl)) (by rfl) (by rfl) (by rfl) ?_
  refine V_aload_n (q := 1) dX8_tellJoin_0 rfl rfl rfl ?_
  refine V_iload_n (q := 2) dX8_tellJoin_1 rfl rfl ?_
  refine CrX8_123 (q := 5) rfl dX8_tellJoin_2 rfl (m_isRow_in h0 h1 hpn hR hi) ⟨(Nat.le_of_ble_eq_true rfl), (Nat.le_of_ble_eq_true rfl)⟩ (Nat.le_of_ble_eq_true rfl) (by first | assumption | exact up_eq | exact (up_ne (by omega)).trans (by first | assumption | exact up_eq | exact (up_ne (by omega)).trans (by first | assumption | exact up_eq | exact (up_ne (by omega)).trans (by first | assumption | exact up_eq)))) (by omega) (Nat.zero_le _) (Nat.zero_le _) ?_
  refine V_if_ne (q := 8) (tgt := 10) dX8_tellJoin_5 (by decide) rfl (fun _ => ?_) (fun h9 => absurd h9 (by decide))
  refine V_aload_n (q := 11) dX8_tellJoin_10 rfl rfl rfl ?_
  refine V_iload_n (q := 12) dX8_tellJoin_11 rfl rfl ?_
  by_cases hj : ballI (sR (xN X) i).2 (sR (xN X) i).1 = nI (popc (sS (xN X)))
  · rw [if_pos hj]
    obtain ⟨hst, k, hk9, hk⟩ := reach_is i0 i2 hs hj
    rw [dstN_is hk]
    refine CiX8_139 (q := 15) rfl dX8_tellJoin_12 rfl (m_findJoinTo hX hR hi hj hk hk9) ⟨(Nat.le_of_ble_eq_true rfl), (Nat.le_of_ble_eq_true rfl)⟩ (Nat.le_of_ble_eq_true rfl) (by first | assumption | exact up_eq | exact (up_ne (by omega)).trans (by first | assumption | exact up_eq | exact (up_ne (by omega)).trans (by first | assumption | exact up_eq | exact (up_ne (by omega)).trans (by first | assumption | exact up_eq)))) (by omega) (Nat.zero_le _) (Nat.zero_le _) (fun u w1 hw1 => ?_)
    obtain ⟨rfl, ⟨J, hM1, hJ1, hdig⟩, hF1⟩ := hw1
    have b0 := hM1.1
    refine V_if_ne (q := 18) (tgt := 21) dX8_tellJoin_15 (by decide) rfl (fun _ => ?_) (fun h9 => absurd h9 (by decide))
    refine V_aload_n (q := 22) dX8_tellJoin_21 rfl rfl rfl ?_
    refine V_iconst (q := 23) (v := nI 0) dX8_tellJoin_22 rfl (by decide) ?_
    refine PX8_170 (q := 26) (fs' := [_, _, _, _, _, _, _, _, _, _, _, _, _, _, _, _, _, _, _, _, _, _, _, _, _, _]) rfl dX8_tellJoin_23 rfl (by first | assumption | exact up_eq | exact (up_ne (by omega)).trans (by first | assumption | exact up_eq | exact (up_ne (by omega)).trans (by first | assumption | exact up_eq | exact (up_ne (by omega)).trans (by first | assumption | exact up_eq)))) (by omega) (by exact (Nat.le_of_ble_eq_true rfl)) (by rfl) ?_
    try rw [up_up]
    refine V_iconst (q := 27) (v := nI 0) dX8_tellJoin_26 rfl (by decide) ?_
    refine V_istore_n (q := 28) (ls' := [_, _, _]) dX8_tellJoin_27 rfl (by decide) rfl ?_
    have key : ∀ q, q ≤ k → ∀ w2 C1, LWx g w2 n p (setLn K (nI k)) F Fs Fb T (xP X).1 (xP X).2 (fun a => 48 + digN (codN (sS (xN X)) (stN (sR (xN X) i).2 (sR (xN X) i).1 0)) k a) q C1 → w2 (p + 16) = eI g 512 J → FrM w w2 p → V g l MX8_tellJoin (rmd 4 0 0) (FinM g (qI (MP g w n p (nI k, setL X (k, fun a => 48 + digN (codN (sS (xN X)) (stN (sR (xN X) i).2 (sR (xN X) i).1 0)) k a))) n) 0 0) 28 [some (rf g p), some (.int (nI i)), some (.int (nI q))] [] (w2) n 0 0 := by
      refine loopU (fun q => ∀ w2 C1, LWx g w2 n p (setLn K (nI k)) F Fs Fb T (xP X).1 (xP X).2 (fun a => 48 + digN (codN (sS (xN X)) (stN (sR (xN X) i).2 (sR (xN X) i).1 0)) k a) q C1 → w2 (p + 16) = eI g 512 J → FrM w w2 p → V g l MX8_tellJoin (rmd 4 0 0) (FinM g (qI (MP g w n p (nI k, setL X (k, fun a => 48 + digN (codN (sS (xN X)) (stN (sR (xN X) i).2 (sR (xN X) i).1 0)) k a))) n) 0 0) 28 [some (rf g p), some (.int (nI i)), some (.int (nI q))] [] (w2) n 0 0) k ?_ ?_
      · intro w2 C1 hl hJ2 hF
        have c0 := hl.1.1
        refine V_iload_n (q := 29) dX8_tellJoin_28 rfl rfl ?_
        refine V_aload_n (q := 30) dX8_tellJoin_29 rfl rfl rfl ?_
        refine GX8_100 (q := 33) rfl dX8_tellJoin_30 rfl (by first | assumption | exact up_eq | exact (up_ne (by omega)).trans (by first | assumption | exact up_eq | exact (up_ne (by omega)).trans (by first | assumption | exact up_eq | exact (up_ne (by omega)).trans (by first | assumption | exact up_eq)))) (by omega) (by rfl) ?_
        refine V_icmpN_ge (q := 36) (tgt := 55) dX8_tellJoin_33 (by decide) rfl (by omega) (by omega) (fun _ => ?_) (fun h9 => by first | exact h9.elim | (exfalso; omega))
        refine V_aload_n (q := 56) dX8_tellJoin_55 rfl rfl rfl ?_
        refine GX8_170 (q := 59) rfl dX8_tellJoin_56 rfl (by first | assumption | exact up_eq | exact (up_ne (by omega)).trans (by first | assumption | exact up_eq | exact (up_ne (by omega)).trans (by first | assumption | exact up_eq | exact (up_ne (by omega)).trans (by first | assumption | exact up_eq)))) (by omega) (by rfl) ?_
        exact V_iret dX8_tellJoin_59 rfl (Nat.le_of_ble_eq_true rfl) (Nat.le_of_ble_eq_true rfl) (⟨rfl, _, rfl, rfl, ⟨_, F, Fs, Fb, C1, T, hl.1, hR, hSv, hsv, hH, hIn, ⟨rfl, by show k ≤ 10; omega, hl.2⟩, hT, hRf⟩, hF⟩)
      · intro q hq ih w2 C1 hl hJ2 hF
        have c0 := hl.1.1
        have hdq := hdig q hq
        have hdl := digN_le (codN (sS (xN X)) (stN (sR (xN X) i).2 (sR (xN X) i).1 0)) k q
        refine V_iload_n (q := 29) dX8_tellJoin_28 rfl rfl ?_
        refine V_aload_n (q := 30) dX8_tellJoin_29 rfl rfl rfl ?_
        refine GX8_100 (q := 33) rfl dX8_tellJoin_30 rfl (by first | assumption | exact up_eq | exact (up_ne (by omega)).trans (by first | assumption | exact up_eq | exact (up_ne (by omega)).trans (by first | assumption | exact up_eq | exact (up_ne (by omega)).trans (by first | assumption | exact up_eq)))) (by omega) (by rfl) ?_
        refine V_icmpN_ge (q := 36) (tgt := 55) dX8_tellJoin_33 (by decide) rfl (by omega) (by omega) (fun h9 => by first | exact h9.elim | exact absurd h9 (by assumption) | (exfalso; omega)) (fun _ => ?_)
        refine V_aload_n (q := 37) dX8_tellJoin_36 rfl rfl rfl ?_
        refine V_bipush (q := 39) (v := nI 48) dX8_tellJoin_37 rfl (by decide) ?_
        refine V_aload_n (q := 40) dX8_tellJoin_39 rfl rfl rfl ?_
        refine GX8_37 (q := 43) rfl dX8_tellJoin_40 rfl (by first | assumption | exact up_eq | exact (up_ne (by omega)).trans (by first | assumption | exact up_eq | exact (up_ne (by omega)).trans (by first | assumption | exact up_eq | exact (up_ne (by omega)).trans (by first | assumption | exact up_eq)))) (by omega) (by rfl) ?_
        refine V_iload_n (q := 44) dX8_tellJoin_43 rfl rfl ?_
        refine V_ialdN (q := 45) dX8_tellJoin_44 rfl (by first | assumption | exact up_eq | exact (up_ne (by omega)).trans (by first | assumption | exact up_eq | exact (up_ne (by omega)).trans (by first | assumption | exact up_eq | exact (up_ne (by omega)).trans (by first | assumption | exact up_eq)))) (by omega) (by omega) (by omega) rfl hdq ?_
        refine V_iadd (q := 46) dX8_tellJoin_45 rfl (by first | exact nI_add _ _ | rfl) ?_
        refine CvX8_173 (q := 49) rfl dX8_tellJoin_46 rfl (m_write hl.1 (q := q) (c := 48 + digN (codN (sS (xN X)) (stN (sR (xN X) i).2 (sR (xN X) i).1 0)) k q) rfl (by omega) (by omega)) ⟨(Nat.le_of_ble_eq_true rfl), (Nat.le_of_ble_eq_true rfl)⟩ (Nat.le_of_ble_eq_true rfl) (by first | assumption | exact up_eq | exact (up_ne (by omega)).trans (by first | assumption | exact up_eq | exact (up_ne (by omega)).trans (by first | assumption | exact up_eq | exact (up_ne (by omega)).trans (by first | assumption | exact up_eq)))) (by omega) (Nat.zero_le _) (Nat.zero_le _) (fun w3 hw3 => ?_)
        refine V_iinc (q := 52) (ls' := [_, _, _]) dX8_tellJoin_49 rfl (by decide) rfl (by first | exact inc1 _ | rfl) rfl ?_
        refine V_goto (tgt := 28) dX8_tellJoin_52 (by decide) ?_
        exact ih w3 _ (hl.put hw3.1 rfl) ((hw3.2.2 _ (by omega) (by omega)).trans hJ2) (hF.tr hw3.2.1)
    have st := LWx.init (c := fun a => 48 + digN (codN (sS (xN X)) (stN (sR (xN X) i).2 (sR (xN X) i).1 0)) k a) hM1
    exact key 0 (Nat.zero_le _) _ C st.1 ((up_ne (by omega)).trans hJ1) (hF1.tr st.2)
  · rw [if_neg hj]
    refine CiX8_139 (q := 15) rfl dX8_tellJoin_12 rfl (m_findJoinTo_no hX hR hi hj) ⟨(Nat.le_of_ble_eq_true rfl), (Nat.le_of_ble_eq_true rfl)⟩ (Nat.le_of_ble_eq_true rfl) (by first | assumption | exact up_eq | exact (up_ne (by omega)).trans (by first | assumption | exact up_eq | exact (up_ne (by omega)).trans (by first | assumption | exact up_eq | exact (up_ne (by omega)).trans (by first | assumption | exact up_eq)))) (by omega) (Nat.zero_le _) (Nat.zero_le _) (fun u w1 hw1 => ?_)
    obtain ⟨rfl, rfl⟩ := hw1
    refine V_if_ne (q := 18) (tgt := 21) dX8_tellJoin_15 (by decide) rfl (fun h9 => absurd rfl h9) (fun _ => ?_)
    refine V_bipush (q := 20) (v := (-4)) dX8_tellJoin_18 rfl (by decide) ?_
    exact V_iret dX8_tellJoin_20 rfl (Nat.le_of_ble_eq_true rfl) (Nat.le_of_ble_eq_true rfl) (⟨rfl, _, rfl, h.same⟩)
end MW
