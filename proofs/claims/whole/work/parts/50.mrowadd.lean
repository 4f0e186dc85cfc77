/-! the model: row, join, once -/
section MO
variable {g : GG} {l : Launch} {w : HW} {n p : Nat} {K : MS} {F Fs Fb : Nat → Int32} {pk : Nat} {Hs : Nat → StT} {C T : Nat → Int32} {N : StT}
theorem M_row (h : MBd g w n p K F Fs Fb pk Hs C T) (hI : kIn K = 0 ∨ kIn K = 1) (hR : RN F N) {x m : Int32} : CtI g l MX8_row 3 [rf g p, .int x, .int m] w n (MOP g w n p K Fs Fb pk Hs C T N (addA x m N)) := by
  have hX := h
  obtain ⟨h0, h1, -, -, -, -, -, -, hn, -⟩ := h
  have hc6 := hR.2.2.1.1
  have hpn : p + 1 < n := by omega
  have f0 := hR.1.1
  have badm : ∀ m : Int32, ¬ (nI 1 ≤ m ∧ m ≤ nI 8) → CtI g l MX8_row 3 [rf g p, .int x, .int m] w n (MOP g w n p K Fs Fb pk Hs C T N (-2, N, none)) := by
    intro m hm
    refine Ct.ofs (M := MX8_row) (ls := [some _, some _, some _, none, none, none]) (by decide +kernel) (by exact (Nat.le_of_ble_eq_true rfl)) (by rfl) (by rfl) (by rfl) ?_
    refine V_iload_n (q := 1) dX8_row_0 rfl rfl ?_
    refine V_iconst (q := 2) (v := nI 1) dX8_row_1 rfl (by decide) ?_
    refine V_bipush (q := 4) (v := nI 8) dX8_row_2 rfl (by decide) ?_
    refine CrX8_71 (q := 7) rfl dX8_row_4 rfl (c_between) ⟨(Nat.le_of_ble_eq_true rfl), (Nat.le_of_ble_eq_true rfl)⟩ (Nat.le_of_ble_eq_true rfl) (Nat.zero_le _) (Nat.zero_le _) ?_
    refine V_topi (if_neg hm) ?_
    refine V_if_eq (q := 10) (tgt := 14) dX8_row_7 (by decide) rfl (fun _ => ?_) (fun h9 => absurd rfl h9)
    refine V_bipush (q := 16) (v := (-2)) dX8_row_14 rfl (by decide) ?_
    exact V_iret dX8_row_16 rfl (Nat.le_of_ble_eq_true rfl) (Nat.le_of_ble_eq_true rfl) (⟨rfl, _, rfl, MOP.no hX hR (by decide)⟩)
  rcases i3_lt m 9 (by decide) with hm | ⟨k, hk, rfl⟩
  · rw [show addA x m N = (-2, N, none) by unfold addA; rw [idx_no hm]]
    exact badm m (fun q => hm.elim (fun hx => (fa_of_lt (fa_trans hx (by decide : (0 : Int32) ≤ nI 1))).2.1 q.1) (fun hx => (fa_of_lt (fa_trans (by decide : nI 8 < nI 9) hx)).2.1 q.2))
  by_cases hk0 : k = 0
  · rw [show addA x (nI k) N = (-2, N, none) by unfold addA; rw [idx_yes hk (by decide)]; exact if_pos hk0]
    exact badm (nI k) (fun q => by rw [hk0] at q; exact absurd q.1 (by decide))
  have h10 : 10 ^ k ≤ 10 ^ 8 := Nat.pow_le_pow_right (by decide) (by omega)
  have hkb : nI 1 ≤ nI k ∧ nI k ≤ nI 8 := ⟨(nI_leI (by decide) (by omega)).mpr (by omega), (nI_leI (by omega) (by decide)).mpr (by omega)⟩
  by_cases hx : x < 0
  · rw [show addA x (nI k) N = (-2, N, none) by unfold addA; rw [idx_yes hk (by decide)]; refine (if_neg hk0).trans ?_; rw [idx_no (Or.inl hx)]]
    refine Ct.ofs (M := MX8_row) (ls := [some _, some _, some _, none, none, none]) (by decide +kernel) (by exact (Nat.le_of_ble_eq_true rfl)) (by rfl) (by rfl) (by rfl) ?_
    refine V_iload_n (q := 1) dX8_row_0 rfl rfl ?_
    refine V_iconst (q := 2) (v := nI 1) dX8_row_1 rfl (by decide) ?_
    refine V_bipush (q := 4) (v := nI 8) dX8_row_2 rfl (by decide) ?_
    refine CrX8_71 (q := 7) rfl dX8_row_4 rfl (c_between) ⟨(Nat.le_of_ble_eq_true rfl), (Nat.le_of_ble_eq_true rfl)⟩ (Nat.le_of_ble_eq_true rfl) (Nat.zero_le _) (Nat.zero_le _) ?_
    refine V_topi (if_pos hkb) ?_
    refine V_if_eq (q := 10) (tgt := 14) dX8_row_7 (by decide) rfl (fun h9 => absurd h9 (by decide)) (fun _ => ?_)
    refine V_iload_n (q := 11) dX8_row_10 rfl rfl ?_
    refine V_if_ge (q := 14) (tgt := 17) dX8_row_11 (by decide) rfl (fun h9 => absurd h9 (fun q => (fa_of_lt hx).2.1 q)) (fun _ => ?_)
    refine V_bipush (q := 16) (v := (-2)) dX8_row_14 rfl (by decide) ?_
    exact V_iret dX8_row_16 rfl (Nat.le_of_ble_eq_true rfl) (Nat.le_of_ble_eq_true rfl) (⟨rfl, _, rfl, MOP.no hX hR (by decide)⟩)
  obtain ⟨t, ht, rfl⟩ := nonneg_is hx
  refine Ct.ofs (M := MX8_row) (ls := [some _, some _, some _, none, none, none]) (by decide +kernel) (by exact (Nat.le_of_ble_eq_true rfl)) (by rfl) (by rfl) (by rfl) ?_
  refine V_iload_n (q := 1) dX8_row_0 rfl rfl ?_
  refine V_iconst (q := 2) (v := nI 1) dX8_row_1 rfl (by decide) ?_
  refine V_bipush (q := 4) (v := nI 8) dX8_row_2 rfl (by decide) ?_
  refine CrX8_71 (q := 7) rfl dX8_row_4 rfl (c_between) ⟨(Nat.le_of_ble_eq_true rfl), (Nat.le_of_ble_eq_true rfl)⟩ (Nat.le_of_ble_eq_true rfl) (Nat.zero_le _) (Nat.zero_le _) ?_
  refine V_topi (if_pos hkb) ?_
  refine V_if_eq (q := 10) (tgt := 14) dX8_row_7 (by decide) rfl (fun h9 => absurd h9 (by decide)) (fun _ => ?_)
  refine V_iload_n (q := 11) dX8_row_10 rfl rfl ?_
  refine V_ifN_ge (q := 14) (tgt := 17) dX8_row_11 (by decide) rfl (by omega) (fun _ => ?_) (fun h9 => by first | exact h9.elim | (exfalso; omega))
  refine V_iload_n (q := 18) dX8_row_17 rfl rfl ?_
  refine V_istore_n (q := 19) (ls' := [_, _, _, _, _, _]) dX8_row_18 rfl (by decide) rfl ?_
  refine V_iconst (q := 20) (v := nI 0) dX8_row_19 rfl (by decide) ?_
  refine V_istore (q := 22) (ls' := [_, _, _, _, _, _]) dX8_row_20 rfl (by decide) rfl ?_
  have hdiv : ∀ j, t / 10 ^ j ≤ t := fun j => Nat.div_le_self _ _
  have after : V g l MX8_row (rmd 3 0 0) (FinM g (qI (MOP g w n p K Fs Fb pk Hs C T N (addA (nI t) (nI k) N)) n) 0 0) 39 [some (rf g p), some (.int (nI t)), some (.int (nI k)), some (.int (nI (t / 10 ^ k))), none, none] [] w n 0 0 := by
    have hdk := hdiv k
    rcases Nat.lt_or_ge t (10 ^ k) with hlt | hge
    · have hz : t / 10 ^ k = 0 := Nat.div_eq_of_lt hlt
      have ea : addA (nI t) (nI k) N = if 6 ≤ sC N then (-3, N, some (1, 6)) else (nI (sC N), appS N t k, none) := by
        unfold addA
        rw [idx_yes hk (by decide)]
        refine (if_neg hk0).trans ?_
        rw [idx_yes hlt (by omega)]
      rw [ea]
      refine V_iload_n (q := 40) dX8_row_39 rfl rfl ?_
      refine V_ifN_le (q := 43) (tgt := 46) dX8_row_40 (by decide) rfl (by omega) (fun _ => ?_) (fun h9 => by first | exact h9.elim | (exfalso; omega))
      refine V_aload_n (q := 47) dX8_row_46 rfl rfl rfl ?_
      refine V_aload_n (q := 48) dX8_row_47 rfl rfl rfl ?_
      refine GX8_9 (q := 51) rfl dX8_row_48 rfl (by first | assumption | exact up_eq | exact (up_ne (by omega)).trans (by first | assumption | exact up_eq | exact (up_ne (by omega)).trans (by first | assumption | exact up_eq | exact (up_ne (by omega)).trans (by first | assumption | exact up_eq)))) (by omega) (by rfl) ?_
      refine V_iconst (q := 52) (v := nI 0) dX8_row_51 rfl (by decide) ?_
      refine V_ialdN (q := 53) dX8_row_52 rfl (by first | assumption | exact up_eq | exact (up_ne (by omega)).trans (by first | assumption | exact up_eq | exact (up_ne (by omega)).trans (by first | assumption | exact up_eq | exact (up_ne (by omega)).trans (by first | assumption | exact up_eq)))) (by omega) (by omega) (by omega) rfl f0 ?_
      refine V_bipush (q := 55) (v := nI 6) dX8_row_53 rfl (by decide) ?_
      refine V_icmpN_ne (q := 58) (tgt := 62) dX8_row_55 (by decide) rfl (by omega) (by omega) (fun q6 => ?_) (fun q6 => ?_)
      · skip
        rw [if_neg (by omega)]
        refine V_iconst (q := 63) (v := nI 0) dX8_row_62 rfl (by decide) ?_
        refine V_iconst (q := 64) (v := nI 1) dX8_row_63 rfl (by decide) ?_
        refine V_bipush (q := 66) (v := nI 6) dX8_row_64 rfl (by decide) ?_
        refine CiX8_112 (q := 69) rfl dX8_row_66 rfl (m_refuse_no (by omega)) ⟨(Nat.le_of_ble_eq_true rfl), (Nat.le_of_ble_eq_true rfl)⟩ (Nat.le_of_ble_eq_true rfl) (by first | assumption | exact up_eq | exact (up_ne (by omega)).trans (by first | assumption | exact up_eq | exact (up_ne (by omega)).trans (by first | assumption | exact up_eq | exact (up_ne (by omega)).trans (by first | assumption | exact up_eq)))) (by omega) (Nat.zero_le _) (Nat.zero_le _) (fun u wr hwr => ?_)
        obtain ⟨rfl, rfl⟩ := hwr
        refine V_if_eq (q := 72) (tgt := 75) dX8_row_69 (by decide) rfl (fun _ => ?_) (fun h9 => absurd rfl h9)
        refine V_aload_n (q := 76) dX8_row_75 rfl rfl rfl ?_
        refine CvX8_116 (q := 79) rfl dX8_row_76 rfl (m_chg hX hI hR) ⟨(Nat.le_of_ble_eq_true rfl), (Nat.le_of_ble_eq_true rfl)⟩ (Nat.le_of_ble_eq_true rfl) (by first | assumption | exact up_eq | exact (up_ne (by omega)).trans (by first | assumption | exact up_eq | exact (up_ne (by omega)).trans (by first | assumption | exact up_eq | exact (up_ne (by omega)).trans (by first | assumption | exact up_eq)))) (by omega) (Nat.zero_le _) (Nat.zero_le _) (fun w1 hw1 => ?_)
        obtain ⟨hM1, hF1⟩ := hw1
        have b0 := hM1.1
        have b1 := hM1.2.1
        have hc5 : sC N < 6 := by omega
        refine V_aload_n (q := 80) dX8_row_79 rfl rfl rfl ?_
        refine GX8_9 (q := 83) rfl dX8_row_80 rfl (by first | assumption | exact up_eq | exact (up_ne (by omega)).trans (by first | assumption | exact up_eq | exact (up_ne (by omega)).trans (by first | assumption | exact up_eq | exact (up_ne (by omega)).trans (by first | assumption | exact up_eq)))) (by omega) (by rfl) ?_
        refine V_iconst (q := 84) (v := nI 0) dX8_row_83 rfl (by decide) ?_
        refine V_ialdN (q := 85) dX8_row_84 rfl (by first | assumption | exact up_eq | exact (up_ne (by omega)).trans (by first | assumption | exact up_eq | exact (up_ne (by omega)).trans (by first | assumption | exact up_eq | exact (up_ne (by omega)).trans (by first | assumption | exact up_eq)))) (by omega) (by omega) (by omega) rfl f0 ?_
        refine V_istore (q := 87) (ls' := [_, _, _, _, _, _]) dX8_row_85 rfl (by decide) rfl ?_
        refine V_aload_n (q := 88) dX8_row_87 rfl rfl rfl ?_
        refine GX8_9 (q := 91) rfl dX8_row_88 rfl (by first | assumption | exact up_eq | exact (up_ne (by omega)).trans (by first | assumption | exact up_eq | exact (up_ne (by omega)).trans (by first | assumption | exact up_eq | exact (up_ne (by omega)).trans (by first | assumption | exact up_eq)))) (by omega) (by rfl) ?_
        refine V_iconst (q := 92) (v := nI 0) dX8_row_91 rfl (by decide) ?_
        refine V_dup2 (q := 93) dX8_row_92 rfl rfl rfl ?_
        refine V_ialdN (q := 94) dX8_row_93 rfl (by first | assumption | exact up_eq | exact (up_ne (by omega)).trans (by first | assumption | exact up_eq | exact (up_ne (by omega)).trans (by first | assumption | exact up_eq | exact (up_ne (by omega)).trans (by first | assumption | exact up_eq)))) (by omega) (by omega) (by omega) rfl f0 ?_
        refine V_iconst (q := 95) (v := nI 1) dX8_row_94 rfl (by decide) ?_
        refine V_iadd (q := 96) dX8_row_95 rfl (by first | exact nI_add _ _ | rfl) ?_
        refine V_iastN (q := 97) dX8_row_96 rfl (by first | assumption | exact up_eq | exact (up_ne (by omega)).trans (by first | assumption | exact up_eq | exact (up_ne (by omega)).trans (by first | assumption | exact up_eq | exact (up_ne (by omega)).trans (by first | assumption | exact up_eq)))) (by omega) (by omega) (by omega) rfl (by rfl) ?_
        refine V_aload_n (q := 98) dX8_row_97 rfl rfl rfl ?_
        refine GX8_9 (q := 101) rfl dX8_row_98 rfl (by first | assumption | exact up_eq | exact (up_ne (by omega)).trans (by first | assumption | exact up_eq | exact (up_ne (by omega)).trans (by first | assumption | exact up_eq | exact (up_ne (by omega)).trans (by first | assumption | exact up_eq)))) (by omega) (by rfl) ?_
        refine V_bipush (q := 103) (v := nI 9) dX8_row_101 rfl (by decide) ?_
        refine V_bipush (q := 105) (v := nI 9) dX8_row_103 rfl (by decide) ?_
        refine V_iload (q := 107) dX8_row_105 rfl rfl ?_
        refine V_imul (q := 108) dX8_row_107 rfl (by first | exact pk_mul _ _ | rfl) ?_
        refine V_iadd (q := 109) dX8_row_108 rfl (by first | exact nI_add _ _ | rfl) ?_
        refine V_iload_n (q := 110) dX8_row_109 rfl rfl ?_
        refine V_iastN (q := 111) dX8_row_110 rfl (by first | assumption | exact up_eq | exact (up_ne (by omega)).trans (by first | assumption | exact up_eq | exact (up_ne (by omega)).trans (by first | assumption | exact up_eq | exact (up_ne (by omega)).trans (by first | assumption | exact up_eq)))) (by omega) (by omega) (by omega) rfl (by rfl) ?_
        refine V_iload_n (q := 112) dX8_row_111 rfl rfl ?_
        refine V_istore_n (q := 113) (ls' := [_, _, _, _, _, _]) dX8_row_112 rfl (by decide) rfl ?_
        refine V_bipush (q := 115) (v := nI 7) dX8_row_113 rfl (by decide) ?_
        refine V_istore (q := 117) (ls' := [_, _, _, _, _, _]) dX8_row_115 rfl (by decide) rfl ?_
        rw [up_up]
        have stop : ∀ F1 w2 v, F1 0 = nI (sC N + 1) → (∀ z, 0 < z → z < 9 + 9 * sC N → F1 z = F z) → F1 (9 + 9 * sC N) = nI k → (∀ j, j < k → F1 (9 + 9 * sC N + 1 + j) = nI (digN t k j)) → w2 (p + 1) = eI g 63 F1 → (∀ j, j ≠ p + 1 → w2 j = w1 j) → V g l MX8_row (rmd 3 0 0) (FinM g (qI (MOP g wr n p K Fs Fb pk Hs C T N (nI (sC N), appS N t k, none)) n) 0 0) 117 [some (rf g p), some (.int (nI t)), some (.int (nI k)), some (.int v), some (.int (nI (sC N))), some (.int (-1))] [] (w2) n 0 0 := by
          intro F1 w2 v a1 a2 a3 a4 a5 a6
          have fin := hM1.now (F' := F1)
          rw [← up_is a5 a6] at fin
          refine V_iload (q := 119) dX8_row_117 rfl rfl ?_
          refine V_if_lt (q := 122) (tgt := 165) dX8_row_119 (by decide) rfl (fun _ => ?_) (fun h9 => absurd (by decide) h9)
          refine V_iload (q := 167) dX8_row_165 rfl rfl ?_
          exact V_iret dX8_row_167 rfl (Nat.le_of_ble_eq_true rfl) (Nat.le_of_ble_eq_true rfl) (⟨rfl, _, rfl, MOP.yes (b := kLn K) fin.1 (RN.app hR hc5 (by omega) (by omega) a1 a2 a3 a4) (nIerr (by omega)) (hF1.tr fin.2)⟩)
        have key : ∀ b, b < 8 → ∀ F1 w2, F1 0 = nI (sC N + 1) → (∀ z, 0 < z → z < 9 + 9 * sC N → F1 z = F z) → F1 (9 + 9 * sC N) = nI k → (∀ j, b < j → j < k → F1 (9 + 9 * sC N + 1 + j) = nI (digN t k j)) → w2 (p + 1) = eI g 63 F1 → (∀ j, j ≠ p + 1 → w2 j = w1 j) → V g l MX8_row (rmd 3 0 0) (FinM g (qI (MOP g wr n p K Fs Fb pk Hs C T N (nI (sC N), appS N t k, none)) n) 0 0) 117 [some (rf g p), some (.int (nI t)), some (.int (nI k)), some (.int (nI (if b + 1 ≤ k then t / 10 ^ (k - (b + 1)) else t))), some (.int (nI (sC N))), some (.int (nI b))] [] (w2) n 0 0 := by
          intro b
          induction b with
          | zero =>
            intro hb F1 w2 a1 a2 a3 a4 a5 a6
            have c0 : w2 p = eO 8 (mfs g p (setKp K (nI (pkC K pk)))) := (a6 _ (by omega)).trans b0
            have hd1 := hdiv (k - (0 + 1))
            rw [if_pos (by omega)]
            refine V_iload (q := 119) dX8_row_117 rfl rfl ?_
            refine V_ifN_lt (q := 122) (tgt := 165) dX8_row_119 (by decide) rfl (by omega) (fun h9 => by first | exact h9.elim | exact absurd h9 (by assumption) | (exfalso; omega)) (fun _ => ?_)
            refine V_aload_n (q := 123) dX8_row_122 rfl rfl rfl ?_
            refine V_iload (q := 125) dX8_row_123 rfl rfl ?_
            refine V_iload (q := 127) dX8_row_125 rfl rfl ?_
            refine V_iload (q := 129) dX8_row_127 rfl rfl ?_
            refine V_iload_n (q := 130) dX8_row_129 rfl rfl ?_
            refine V_icmpN_ge (q := 133) (tgt := 140) dX8_row_130 (by decide) rfl (by omega) (by omega) (fun h9 => by first | exact h9.elim | exact absurd h9 (by assumption) | (exfalso; omega)) (fun _ => ?_)
            refine V_iload_n (q := 134) dX8_row_133 rfl rfl ?_
            refine V_bipush (q := 136) (v := nI 10) dX8_row_134 rfl (by decide) ?_
            refine V_irem (q := 137) dX8_row_136 rfl (nI_ne0 (by omega) (by omega)) (pk_rem (by omega) (by decide) (by decide)) ?_
            refine V_goto (tgt := 141) dX8_row_137 (by decide) ?_
            refine CvX8_119 (q := 144) rfl dX8_row_141 rfl (m_putThrow c0 a5 hn (i := sC N) (j := 0) (by omega) (by omega)) ⟨(Nat.le_of_ble_eq_true rfl), (Nat.le_of_ble_eq_true rfl)⟩ (Nat.le_of_ble_eq_true rfl) (by first | assumption | exact up_eq | exact (up_ne (by omega)).trans (by first | assumption | exact up_eq | exact (up_ne (by omega)).trans (by first | assumption | exact up_eq | exact (up_ne (by omega)).trans (by first | assumption | exact up_eq)))) (by omega) (Nat.zero_le _) (Nat.zero_le _) (fun w3 hw3 => ?_)
            subst hw3
            refine V_iload_n (q := 145) dX8_row_144 rfl rfl ?_
            refine V_iload (q := 147) dX8_row_145 rfl rfl ?_
            refine V_iload_n (q := 148) dX8_row_147 rfl rfl ?_
            refine V_icmpN_ge (q := 151) (tgt := 156) dX8_row_148 (by decide) rfl (by omega) (by omega) (fun h9 => by first | exact h9.elim | exact absurd h9 (by assumption) | (exfalso; omega)) (fun _ => ?_)
            refine V_bipush (q := 153) (v := nI 10) dX8_row_151 rfl (by decide) ?_
            refine V_goto (tgt := 157) dX8_row_153 (by decide) ?_
            refine V_idiv (q := 158) dX8_row_157 rfl (by decide) rfl ?_
            refine V_istore_n (q := 159) (ls' := [_, _, _, _, _, _]) dX8_row_158 rfl (by decide) rfl ?_
            refine V_iinc (q := 162) (ls' := [_, _, _, _, _, _]) dX8_row_159 rfl (by decide) rfl (show nI 0 + Int32.ofInt (-1) = -1 by decide) rfl ?_
            refine V_goto (tgt := 117) dX8_row_162 (by decide) ?_
            refine stop (upd F1 (9 + 9 * sC N + 1 + 0) (nI (t / 10 ^ (k - (0 + 1)) % 10))) _ _ (by rw [updN (by omega)]; exact a1) (fun z z1 z2 => by rw [updN (by omega)]; exact a2 z z1 z2) (by rw [updN (by omega)]; exact a3) (fun j hj => ?_) up_eq (fun j hj => (up_ne hj).trans (a6 j hj))
            by_cases e : j = 0
            · subst e
              rw [updI]
              unfold digN
              rfl
            · rw [updN (by omega)]; exact a4 j (by omega) hj
          | succ b ih =>
            intro hb F1 w2 a1 a2 a3 a4 a5 a6
            have c0 : w2 p = eO 8 (mfs g p (setKp K (nI (pkC K pk)))) := (a6 _ (by omega)).trans b0
            by_cases hbk : b + 1 + 1 ≤ k
            · have hd1 := hdiv (k - (b + 1 + 1))
              have e10 : t / 10 ^ (k - (b + 1 + 1)) / 10 = t / 10 ^ (k - (b + 1)) := by
                rw [show k - (b + 1) = (k - (b + 1 + 1)) + 1 by omega, Nat.pow_succ, Nat.div_div_eq_div_mul]
              rw [if_pos hbk]
              refine V_iload (q := 119) dX8_row_117 rfl rfl ?_
              refine V_ifN_lt (q := 122) (tgt := 165) dX8_row_119 (by decide) rfl (by omega) (fun h9 => by first | exact h9.elim | exact absurd h9 (by assumption) | (exfalso; omega)) (fun _ => ?_)
              refine V_aload_n (q := 123) dX8_row_122 rfl rfl rfl ?_
              refine V_iload (q := 125) dX8_row_123 rfl rfl ?_
              refine V_iload (q := 127) dX8_row_125 rfl rfl ?_
              refine V_iload (q := 129) dX8_row_127 rfl rfl ?_
              refine V_iload_n (q := 130) dX8_row_129 rfl rfl ?_
              refine V_icmpN_ge (q := 133) (tgt := 140) dX8_row_130 (by decide) rfl (by omega) (by omega) (fun h9 => by first | exact h9.elim | exact absurd h9 (by assumption) | (exfalso; omega)) (fun _ => ?_)
              refine V_iload_n (q := 134) dX8_row_133 rfl rfl ?_
              refine V_bipush (q := 136) (v := nI 10) dX8_row_134 rfl (by decide) ?_
              refine V_irem (q := 137) dX8_row_136 rfl (nI_ne0 (by omega) (by omega)) (pk_rem (by omega) (by decide) (by decide)) ?_
              refine V_goto (tgt := 141) dX8_row_137 (by decide) ?_
              refine CvX8_119 (q := 144) rfl dX8_row_141 rfl (m_putThrow c0 a5 hn (i := sC N) (j := b + 1) (by omega) (by omega)) ⟨(Nat.le_of_ble_eq_true rfl), (Nat.le_of_ble_eq_true rfl)⟩ (Nat.le_of_ble_eq_true rfl) (by first | assumption | exact up_eq | exact (up_ne (by omega)).trans (by first | assumption | exact up_eq | exact (up_ne (by omega)).trans (by first | assumption | exact up_eq | exact (up_ne (by omega)).trans (by first | assumption | exact up_eq)))) (by omega) (Nat.zero_le _) (Nat.zero_le _) (fun w3 hw3 => ?_)
              subst hw3
              refine V_iload_n (q := 145) dX8_row_144 rfl rfl ?_
              refine V_iload (q := 147) dX8_row_145 rfl rfl ?_
              refine V_iload_n (q := 148) dX8_row_147 rfl rfl ?_
              refine V_icmpN_ge (q := 151) (tgt := 156) dX8_row_148 (by decide) rfl (by omega) (by omega) (fun h9 => by first | exact h9.elim | exact absurd h9 (by assumption) | (exfalso; omega)) (fun _ => ?_)
              refine V_bipush (q := 153) (v := nI 10) dX8_row_151 rfl (by decide) ?_
              refine V_goto (tgt := 157) dX8_row_153 (by decide) ?_
              refine V_idiv (q := 158) dX8_row_157 rfl (by decide) ((pk_div (by omega) (by decide) (by decide)).trans (congrArg nI e10)) ?_
              refine V_istore_n (q := 159) (ls' := [_, _, _, _, _, _]) dX8_row_158 rfl (by decide) rfl ?_
              refine V_iinc (q := 162) (ls' := [_, _, _, _, _, _]) dX8_row_159 rfl (by decide) rfl (by first | exact dec1 _ | rfl) rfl ?_
              refine V_goto (tgt := 117) dX8_row_162 (by decide) ?_
              have ih2 := ih (by omega) (upd F1 (9 + 9 * sC N + 1 + (b + 1)) (nI (t / 10 ^ (k - (b + 1 + 1)) % 10))) _ (by rw [updN (by omega)]; exact a1) (fun z z1 z2 => by rw [updN (by omega)]; exact a2 z z1 z2) (by rw [updN (by omega)]; exact a3) (fun j j1 j2 => by
                by_cases e : j = b + 1
                · subst e
                  rw [updI]
                  unfold digN
                  rw [show k - (b + 1 + 1) = k - 1 - (b + 1) by omega]
                · rw [updN (by omega)]; exact a4 j (by omega) j2) up_eq (fun j hj => (up_ne hj).trans (a6 j hj))
              rw [if_pos (by omega)] at ih2
              exact ih2
            · rw [if_neg hbk]
              refine V_iload (q := 119) dX8_row_117 rfl rfl ?_
              refine V_ifN_lt (q := 122) (tgt := 165) dX8_row_119 (by decide) rfl (by omega) (fun h9 => by first | exact h9.elim | exact absurd h9 (by assumption) | (exfalso; omega)) (fun _ => ?_)
              refine V_aload_n (q := 123) dX8_row_122 rfl rfl rfl ?_
              refine V_iload (q := 125) dX8_row_123 rfl rfl ?_
              refine V_iload (q := 127) dX8_row_125 rfl rfl ?_
              refine V_iload (q := 129) dX8_row_127 rfl rfl ?_
              refine V_iload_n (q := 130) dX8_row_129 rfl rfl ?_
              refine V_icmpN_ge (q := 133) (tgt := 140) dX8_row_130 (by decide) rfl (by omega) (by omega) (fun _ => ?_) (fun h9 => by first | exact h9.elim | (exfalso; omega))
              refine V_iconst (q := 141) (v := nI 0) dX8_row_140 rfl (by decide) ?_
              refine CvX8_119 (q := 144) rfl dX8_row_141 rfl (m_putThrow c0 a5 hn (i := sC N) (j := b + 1) (by omega) (by omega)) ⟨(Nat.le_of_ble_eq_true rfl), (Nat.le_of_ble_eq_true rfl)⟩ (Nat.le_of_ble_eq_true rfl) (by first | assumption | exact up_eq | exact (up_ne (by omega)).trans (by first | assumption | exact up_eq | exact (up_ne (by omega)).trans (by first | assumption | exact up_eq | exact (up_ne (by omega)).trans (by first | assumption | exact up_eq)))) (by omega) (Nat.zero_le _) (Nat.zero_le _) (fun w3 hw3 => ?_)
              subst hw3
              refine V_iload_n (q := 145) dX8_row_144 rfl rfl ?_
              refine V_iload (q := 147) dX8_row_145 rfl rfl ?_
              refine V_iload_n (q := 148) dX8_row_147 rfl rfl ?_
              refine V_icmpN_ge (q := 151) (tgt := 156) dX8_row_148 (by decide) rfl (by omega) (by omega) (fun _ => ?_) (fun h9 => by first | exact h9.elim | (exfalso; omega))
              refine V_iconst (q := 157) (v := nI 1) dX8_row_156 rfl (by decide) ?_
              refine V_idiv (q := 158) dX8_row_157 rfl (by decide) ((pk_div (by omega) (by decide) (by decide)).trans (congrArg nI (Nat.div_one t))) ?_
              refine V_istore_n (q := 159) (ls' := [_, _, _, _, _, _]) dX8_row_158 rfl (by decide) rfl ?_
              refine V_iinc (q := 162) (ls' := [_, _, _, _, _, _]) dX8_row_159 rfl (by decide) rfl (by first | exact dec1 _ | rfl) rfl ?_
              refine V_goto (tgt := 117) dX8_row_162 (by decide) ?_
              have ih2 := ih (by omega) (upd F1 (9 + 9 * sC N + 1 + (b + 1)) (nI 0)) _ (by rw [updN (by omega)]; exact a1) (fun z z1 z2 => by rw [updN (by omega)]; exact a2 z z1 z2) (by rw [updN (by omega)]; exact a3) (fun j j1 j2 => by rw [updN (by omega)]; exact a4 j (by omega) j2) up_eq (fun j hj => (up_ne hj).trans (a6 j hj))
              have e3 : (if b + 1 ≤ k then t / 10 ^ (k - (b + 1)) else t) = t := by
                by_cases e : b + 1 ≤ k
                · rw [if_pos e, show k - (b + 1) = 0 by omega, Nat.pow_zero, Nat.div_one]
                · rw [if_neg e]
              rw [e3] at ih2
              exact ih2
        have st := key 7 (by decide) (upd (upd F 0 (nI (sC N + 1))) (9 + 9 * sC N) (nI k)) (va_up w1 (p + 1) (eI g 63 (upd (upd F 0 (nI (sC N + 1))) (9 + 9 * sC N) (nI k)))) (by rw [updN (by omega)]; exact updI) (fun z z1 z2 => by rw [updN (by omega), updN (by omega)]) updI (fun j j1 j2 => absurd j1 (by omega)) up_eq (fun j hj => up_ne hj)
        have e3 : (if 7 + 1 ≤ k then t / 10 ^ (k - (7 + 1)) else t) = t := by
          by_cases e : 7 + 1 ≤ k
          · rw [if_pos e, show k - (7 + 1) = 0 by omega, Nat.pow_zero, Nat.div_one]
          · rw [if_neg e]
        rw [e3] at st
        exact st
      · skip
        rw [if_pos (by omega)]
        refine V_iconst (q := 59) (v := nI 1) dX8_row_58 rfl (by decide) ?_
        refine V_goto (tgt := 63) dX8_row_59 (by decide) ?_
        refine V_iconst (q := 64) (v := nI 1) dX8_row_63 rfl (by decide) ?_
        refine V_bipush (q := 66) (v := nI 6) dX8_row_64 rfl (by decide) ?_
        refine CiX8_112 (q := 69) rfl dX8_row_66 rfl (m_refuse hX) ⟨(Nat.le_of_ble_eq_true rfl), (Nat.le_of_ble_eq_true rfl)⟩ (Nat.le_of_ble_eq_true rfl) (by first | assumption | exact up_eq | exact (up_ne (by omega)).trans (by first | assumption | exact up_eq | exact (up_ne (by omega)).trans (by first | assumption | exact up_eq | exact (up_ne (by omega)).trans (by first | assumption | exact up_eq)))) (by omega) (Nat.zero_le _) (Nat.zero_le _) (fun u w1 hw1 => ?_)
        obtain ⟨rfl, hM1, hF1⟩ := hw1
        refine V_if_eq (q := 72) (tgt := 75) dX8_row_69 (by decide) rfl (fun h9 => absurd h9 (by decide)) (fun _ => ?_)
        refine V_bipush (q := 74) (v := (-3)) dX8_row_72 rfl (by decide) ?_
        exact V_iret dX8_row_74 rfl (Nat.le_of_ble_eq_true rfl) (Nat.le_of_ble_eq_true rfl) (⟨rfl, _, rfl, MOP.ref hX hM1 hR hF1⟩)
    · have hpos : 0 < t / 10 ^ k := Nat.div_pos hge (Nat.pos_of_ne_zero (by have := Nat.pow_le_pow_right (n := 10) (by decide) (Nat.zero_le k); omega))
      rw [show addA (nI t) (nI k) N = (-2, N, none) by unfold addA; rw [idx_yes hk (by decide)]; refine (if_neg hk0).trans ?_; rw [idx_no (Or.inr ((nI_leI (by omega) ht).mpr hge))]]
      refine V_iload_n (q := 40) dX8_row_39 rfl rfl ?_
      refine V_ifN_le (q := 43) (tgt := 46) dX8_row_40 (by decide) rfl (by omega) (fun h9 => by first | exact h9.elim | exact absurd h9 (by assumption) | (exfalso; omega)) (fun _ => ?_)
      refine V_bipush (q := 45) (v := (-2)) dX8_row_43 rfl (by decide) ?_
      exact V_iret dX8_row_45 rfl (Nat.le_of_ble_eq_true rfl) (Nat.le_of_ble_eq_true rfl) (⟨rfl, _, rfl, MOP.no hX hR (by decide)⟩)
  have st : ∀ j, j ≤ k → V g l MX8_row (rmd 3 0 0) (FinM g (qI (MOP g w n p K Fs Fb pk Hs C T N (addA (nI t) (nI k) N)) n) 0 0) 22 [some (rf g p), some (.int (nI t)), some (.int (nI k)), some (.int (nI (t / 10 ^ j))), some (.int (nI j)), none] [] (w) n 0 0 := by
    refine loopU (fun j => V g l MX8_row (rmd 3 0 0) (FinM g (qI (MOP g w n p K Fs Fb pk Hs C T N (addA (nI t) (nI k) N)) n) 0 0) 22 [some (rf g p), some (.int (nI t)), some (.int (nI k)), some (.int (nI (t / 10 ^ j))), some (.int (nI j)), none] [] (w) n 0 0) k ?_ ?_
    · skip
      refine V_iload (q := 24) dX8_row_22 rfl rfl ?_
      refine V_iload_n (q := 25) dX8_row_24 rfl rfl ?_
      refine V_icmpN_ge (q := 28) (tgt := 39) dX8_row_25 (by decide) rfl (by omega) (by omega) (fun _ => ?_) (fun h9 => by first | exact h9.elim | (exfalso; omega))
      refine V_fg 4 (ls2 := [_, _, _, _, none, _]) (by rfl) ?_
      exact after
    · intro j hj ih
      have hdj := hdiv j
      refine V_iload (q := 24) dX8_row_22 rfl rfl ?_
      refine V_iload_n (q := 25) dX8_row_24 rfl rfl ?_
      refine V_icmpN_ge (q := 28) (tgt := 39) dX8_row_25 (by decide) rfl (by omega) (by omega) (fun h9 => by first | exact h9.elim | exact absurd h9 (by assumption) | (exfalso; omega)) (fun _ => ?_)
      refine V_iload_n (q := 29) dX8_row_28 rfl rfl ?_
      refine V_bipush (q := 31) (v := nI 10) dX8_row_29 rfl (by decide) ?_
      refine V_idiv (q := 32) dX8_row_31 rfl (by decide) ((pk_div (by omega) (by decide) (by decide)).trans (congrArg nI (show t / 10 ^ j / 10 = t / 10 ^ (j + 1) by rw [Nat.pow_succ, Nat.div_div_eq_div_mul]))) ?_
      refine V_istore_n (q := 33) (ls' := [_, _, _, _, _, _]) dX8_row_32 rfl (by decide) rfl ?_
      refine V_iinc (q := 36) (ls' := [_, _, _, _, _, _]) dX8_row_33 rfl (by decide) rfl (by first | exact inc1 _ | rfl) rfl ?_
      refine V_goto (tgt := 22) dX8_row_36 (by decide) ?_
      exact ih
  have st0 := st 0 (Nat.zero_le _)
  rw [Nat.pow_zero, Nat.div_one] at st0
  exact st0
end MO
