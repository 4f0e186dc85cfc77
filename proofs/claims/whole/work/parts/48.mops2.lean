/-! the model: rows changed -/
theorem RN.drop {F F' : Nat → Int32} {N : StT} (h : RN F N) {i : Nat} (hi : i < sC N) (h0 : F' 0 = nI (sC N - 1)) (h1 : ∀ k, 0 < k → k < 9 + 9 * i → F' k = F k) (h2 : ∀ k, 9 + 9 * i ≤ k → k < 9 + 9 * (sC N - 1) → F' k = F (k + 9)) : RN F' (remS N i) := by
  obtain ⟨⟨f0, f1, f2, f3, f4, f5, f6, f7, f8⟩, hr2, hN, hS, hB⟩ := h
  refine ⟨⟨h0, (h1 _ (by decide) (by omega)).trans f1, (h1 _ (by decide) (by omega)).trans f2, (h1 _ (by decide) (by omega)).trans f3, (h1 _ (by decide) (by omega)).trans f4, (h1 _ (by decide) (by omega)).trans f5, (h1 _ (by decide) (by omega)).trans f6, (h1 _ (by decide) (by omega)).trans f7, (h1 _ (by decide) (by omega)).trans f8⟩, fun k hk => ?_, ⟨show sC N - 1 ≤ 6 by have := hN.1; omega, fun k hk => ?_⟩, hS, hB⟩
  · have hk : k < sC N - 1 := hk
    show F' (9 + 9 * k) = nI (if k < i then sR N k else sR N (k + 1)).1 ∧ ∀ j, j < (if k < i then sR N k else sR N (k + 1)).1 → F' (9 + 9 * k + 1 + j) = nI ((if k < i then sR N k else sR N (k + 1)).2 j)
    by_cases e : k < i
    · have hL := (hN.2 k (by omega)).2.1
      rw [if_pos e]
      exact ⟨(h1 _ (by omega) (by omega)).trans (hr2 k (by omega)).1, fun j hj => (h1 _ (by omega) (by omega)).trans ((hr2 k (by omega)).2 j hj)⟩
    · have hL := (hN.2 (k + 1) (by omega)).2.1
      rw [if_neg e]
      refine ⟨(h2 _ (by omega) (by omega)).trans ?_, fun j hj => (h2 _ (by omega) (by omega)).trans ?_⟩
      · rw [show 9 + 9 * k + 9 = 9 + 9 * (k + 1) by omega]; exact (hr2 (k + 1) (by omega)).1
      · rw [show 9 + 9 * k + 1 + j + 9 = 9 + 9 * (k + 1) + 1 + j by omega]; exact (hr2 (k + 1) (by omega)).2 j hj
  · have hk : k < sC N - 1 := hk
    show 0 < (if k < i then sR N k else sR N (k + 1)).1 ∧ (if k < i then sR N k else sR N (k + 1)).1 ≤ 8 ∧ ∀ j, j < (if k < i then sR N k else sR N (k + 1)).1 → (if k < i then sR N k else sR N (k + 1)).2 j ≤ 9
    by_cases e : k < i
    · rw [if_pos e]; exact hN.2 k (by omega)
    · rw [if_neg e]; exact hN.2 (k + 1) (by omega)
theorem RN.app {F F' : Nat → Int32} {N : StT} (h : RN F N) (hc : sC N < 6) {t m : Nat} (hm0 : 0 < m) (hm : m ≤ 8) (h0 : F' 0 = nI (sC N + 1)) (h1 : ∀ k, 0 < k → k < 9 + 9 * sC N → F' k = F k) (h2 : F' (9 + 9 * sC N) = nI m) (h3 : ∀ j, j < m → F' (9 + 9 * sC N + 1 + j) = nI (digN t m j)) : RN F' (appS N t m) := by
  obtain ⟨⟨f0, f1, f2, f3, f4, f5, f6, f7, f8⟩, hr2, hN, hS, hB⟩ := h
  refine ⟨⟨h0, (h1 _ (by decide) (by omega)).trans f1, (h1 _ (by decide) (by omega)).trans f2, (h1 _ (by decide) (by omega)).trans f3, (h1 _ (by decide) (by omega)).trans f4, (h1 _ (by decide) (by omega)).trans f5, (h1 _ (by decide) (by omega)).trans f6, (h1 _ (by decide) (by omega)).trans f7, (h1 _ (by decide) (by omega)).trans f8⟩, fun k hk => ?_, ⟨show sC N + 1 ≤ 6 by omega, fun k hk => ?_⟩, hS, hB⟩
  · have hk : k < sC N + 1 := hk
    show F' (9 + 9 * k) = nI (if k = sC N then (m, digN t m) else sR N k).1 ∧ ∀ j, j < (if k = sC N then (m, digN t m) else sR N k).1 → F' (9 + 9 * k + 1 + j) = nI ((if k = sC N then (m, digN t m) else sR N k).2 j)
    by_cases e : k = sC N
    · rw [if_pos e, e]; exact ⟨h2, h3⟩
    · have hL := (hN.2 k (by omega)).2.1
      rw [if_neg e]
      exact ⟨(h1 _ (by omega) (by omega)).trans (hr2 k (by omega)).1, fun j hj => (h1 _ (by omega) (by omega)).trans ((hr2 k (by omega)).2 j hj)⟩
  · have hk : k < sC N + 1 := hk
    show 0 < (if k = sC N then (m, digN t m) else sR N k).1 ∧ (if k = sC N then (m, digN t m) else sR N k).1 ≤ 8 ∧ ∀ j, j < (if k = sC N then (m, digN t m) else sR N k).1 → (if k = sC N then (m, digN t m) else sR N k).2 j ≤ 9
    by_cases e : k = sC N
    · rw [if_pos e]; exact ⟨hm0, hm, fun j hj => digN_le t m j⟩
    · rw [if_neg e]; exact hN.2 k (by omega)
section MO
variable {g : GG} {l : Launch} {w : HW} {n p : Nat} {K : MS} {F Fs Fb : Nat → Int32} {pk : Nat} {Hs : Nat → StT} {C T : Nat → Int32} {N : StT}
theorem M_drop (h : MBd g w n p K F Fs Fb pk Hs C T) (hI : kIn K = 0 ∨ kIn K = 1) (hR : RN F N) {x : Int32} : CtI g l MX8_drop 3 [rf g p, .int x] w n (MOP g w n p K Fs Fb pk Hs C T N (dropA x N)) := by
  have hX := h
  obtain ⟨h0, h1, -, -, -, -, -, -, hn, -⟩ := h
  have hc6 := hR.2.2.1.1
  have hpn : p + 1 < n := by omega
  rcases i3_lt x (sC N) (by omega) with hx | ⟨i, hi, rfl⟩
  · rw [show dropA x N = (-1, N, none) by unfold dropA; rw [idx_no hx]]
    refine Ct.ofs (M := MX8_drop) (ls := [some _, some _, none]) (by decide +kernel) (by exact (Nat.le_of_ble_eq_true rfl)) (by rfl) (by rfl) (by rfl) ?_
    refine V_aload_n (q := 1) dX8_drop_0 rfl rfl rfl ?_
    refine V_iload_n (q := 2) dX8_drop_1 rfl rfl ?_
    refine CrX8_123 (q := 5) rfl dX8_drop_2 rfl (m_isRow_out h0 h1 (by omega) hR hx) ⟨(Nat.le_of_ble_eq_true rfl), (Nat.le_of_ble_eq_true rfl)⟩ (Nat.le_of_ble_eq_true rfl) (by first | assumption | exact up_eq | exact (up_ne (by omega)).trans (by first | assumption | exact up_eq | exact (up_ne (by omega)).trans (by first | assumption | exact up_eq | exact (up_ne (by omega)).trans (by first | assumption | exact up_eq)))) (by omega) (Nat.zero_le _) (Nat.zero_le _) ?_
    refine V_if_ne (q := 8) (tgt := 10) dX8_drop_5 (by decide) rfl (fun h9 => absurd rfl h9) (fun _ => ?_)
    refine V_iconst (q := 9) (v := (-1)) dX8_drop_8 rfl (by decide) ?_
    exact V_iret dX8_drop_9 rfl (Nat.le_of_ble_eq_true rfl) (Nat.le_of_ble_eq_true rfl) (⟨rfl, _, rfl, MOP.no hX hR (by decide)⟩)
  obtain ⟨i0, i1, i2⟩ := hR.2.2.1.2 i hi
  · rw [show dropA (nI i) N = (nI (sC N - 1), remS N i, none) by unfold dropA; rw [idx_yes hi (by omega)]]
    have f0 := hR.1.1
    refine Ct.ofs (M := MX8_drop) (ls := [some _, some _, none]) (by decide +kernel) (by exact (Nat.le_of_ble_eq_true rfl)) (by rfl) (by rfl) (by rfl) ?_
    refine V_aload_n (q := 1) dX8_drop_0 rfl rfl rfl ?_
    refine V_iload_n (q := 2) dX8_drop_1 rfl rfl ?_
    refine CrX8_123 (q := 5) rfl dX8_drop_2 rfl (m_isRow_in h0 h1 hpn hR hi) ⟨(Nat.le_of_ble_eq_true rfl), (Nat.le_of_ble_eq_true rfl)⟩ (Nat.le_of_ble_eq_true rfl) (by first | assumption | exact up_eq | exact (up_ne (by omega)).trans (by first | assumption | exact up_eq | exact (up_ne (by omega)).trans (by first | assumption | exact up_eq | exact (up_ne (by omega)).trans (by first | assumption | exact up_eq)))) (by omega) (Nat.zero_le _) (Nat.zero_le _) ?_
    refine V_if_ne (q := 8) (tgt := 10) dX8_drop_5 (by decide) rfl (fun _ => ?_) (fun h9 => absurd h9 (by decide))
    refine V_aload_n (q := 11) dX8_drop_10 rfl rfl rfl ?_
    refine CvX8_116 (q := 14) rfl dX8_drop_11 rfl (m_chg hX hI hR) ⟨(Nat.le_of_ble_eq_true rfl), (Nat.le_of_ble_eq_true rfl)⟩ (Nat.le_of_ble_eq_true rfl) (by first | assumption | exact up_eq | exact (up_ne (by omega)).trans (by first | assumption | exact up_eq | exact (up_ne (by omega)).trans (by first | assumption | exact up_eq | exact (up_ne (by omega)).trans (by first | assumption | exact up_eq)))) (by omega) (Nat.zero_le _) (Nat.zero_le _) (fun w1 hw1 => ?_)
    obtain ⟨hM1, hF1⟩ := hw1
    have b0 := hM1.1
    have b1 := hM1.2.1
    refine V_aload_n (q := 15) dX8_drop_14 rfl rfl rfl ?_
    refine GX8_9 (q := 18) rfl dX8_drop_15 rfl (by first | assumption | exact up_eq | exact (up_ne (by omega)).trans (by first | assumption | exact up_eq | exact (up_ne (by omega)).trans (by first | assumption | exact up_eq | exact (up_ne (by omega)).trans (by first | assumption | exact up_eq)))) (by omega) (by rfl) ?_
    refine V_iconst (q := 19) (v := nI 0) dX8_drop_18 rfl (by decide) ?_
    refine V_dup2 (q := 20) dX8_drop_19 rfl rfl rfl ?_
    refine V_ialdN (q := 21) dX8_drop_20 rfl (by first | assumption | exact up_eq | exact (up_ne (by omega)).trans (by first | assumption | exact up_eq | exact (up_ne (by omega)).trans (by first | assumption | exact up_eq | exact (up_ne (by omega)).trans (by first | assumption | exact up_eq)))) (by omega) (by omega) (by omega) rfl f0 ?_
    refine V_iconst (q := 22) (v := nI 1) dX8_drop_21 rfl (by decide) ?_
    refine V_isub (q := 23) dX8_drop_22 rfl (by first | exact pk_sub (by omega) | rfl) ?_
    refine V_iastN (q := 24) dX8_drop_23 rfl (by first | assumption | exact up_eq | exact (up_ne (by omega)).trans (by first | assumption | exact up_eq | exact (up_ne (by omega)).trans (by first | assumption | exact up_eq | exact (up_ne (by omega)).trans (by first | assumption | exact up_eq)))) (by omega) (by omega) (by omega) rfl (by rfl) ?_
    refine V_bipush (q := 26) (v := nI 9) dX8_drop_24 rfl (by decide) ?_
    refine V_bipush (q := 28) (v := nI 9) dX8_drop_26 rfl (by decide) ?_
    refine V_iload_n (q := 29) dX8_drop_28 rfl rfl ?_
    refine V_imul (q := 30) dX8_drop_29 rfl (by first | exact pk_mul _ _ | rfl) ?_
    refine V_iadd (q := 31) dX8_drop_30 rfl (by first | exact nI_add _ _ | rfl) ?_
    refine V_istore_n (q := 32) (ls' := [_, _, _]) dX8_drop_31 rfl (by decide) rfl ?_
    have key : ∀ k, k ≤ 9 + 9 * (sC N - 1) → ∀ F1 w2, 9 + 9 * i ≤ k → F1 0 = nI (sC N - 1) → (∀ j, 0 < j → j < 9 + 9 * i → F1 j = F j) → (∀ j, 9 + 9 * i ≤ j → j < k → F1 j = F (j + 9)) → (∀ j, k ≤ j → F1 j = F j) → w2 (p + 1) = eI g 63 F1 → (∀ j, j ≠ p + 1 → w2 j = w1 j) → V g l MX8_drop (rmd 3 0 0) (FinM g (qI (MOP g w n p K Fs Fb pk Hs C T N (nI (sC N - 1), remS N i, none)) n) 0 0) 32 [some (rf g p), some (.int (nI i)), some (.int (nI k))] [] (w2) n 0 0 := by
      refine loopU (fun k => ∀ F1 w2, 9 + 9 * i ≤ k → F1 0 = nI (sC N - 1) → (∀ j, 0 < j → j < 9 + 9 * i → F1 j = F j) → (∀ j, 9 + 9 * i ≤ j → j < k → F1 j = F (j + 9)) → (∀ j, k ≤ j → F1 j = F j) → w2 (p + 1) = eI g 63 F1 → (∀ j, j ≠ p + 1 → w2 j = w1 j) → V g l MX8_drop (rmd 3 0 0) (FinM g (qI (MOP g w n p K Fs Fb pk Hs C T N (nI (sC N - 1), remS N i, none)) n) 0 0) 32 [some (rf g p), some (.int (nI i)), some (.int (nI k))] [] (w2) n 0 0) (9 + 9 * (sC N - 1)) ?_ ?_
      · intro F1 w2 a1 a2 a3 a4 a5 a6 a7
        have c0 : w2 p = eO 8 (mfs g p (setKp K (nI (pkC K pk)))) := (a7 _ (by omega)).trans b0
        have fin := hM1.now (F' := F1)
        rw [← up_is a6 a7] at fin
        refine V_iload_n (q := 33) dX8_drop_32 rfl rfl ?_
        refine V_bipush (q := 35) (v := nI 9) dX8_drop_33 rfl (by decide) ?_
        refine V_bipush (q := 37) (v := nI 9) dX8_drop_35 rfl (by decide) ?_
        refine V_aload_n (q := 38) dX8_drop_37 rfl rfl rfl ?_
        refine GX8_9 (q := 41) rfl dX8_drop_38 rfl (by first | assumption | exact up_eq | exact (up_ne (by omega)).trans (by first | assumption | exact up_eq | exact (up_ne (by omega)).trans (by first | assumption | exact up_eq | exact (up_ne (by omega)).trans (by first | assumption | exact up_eq)))) (by omega) (by rfl) ?_
        refine V_iconst (q := 42) (v := nI 0) dX8_drop_41 rfl (by decide) ?_
        refine V_ialdN (q := 43) dX8_drop_42 rfl (by first | assumption | exact up_eq | exact (up_ne (by omega)).trans (by first | assumption | exact up_eq | exact (up_ne (by omega)).trans (by first | assumption | exact up_eq | exact (up_ne (by omega)).trans (by first | assumption | exact up_eq)))) (by omega) (by omega) (by omega) rfl a2 ?_
        refine V_imul (q := 44) dX8_drop_43 rfl (by first | exact pk_mul _ _ | rfl) ?_
        refine V_iadd (q := 45) dX8_drop_44 rfl (by first | exact nI_add _ _ | rfl) ?_
        refine V_icmpN_ge (q := 48) (tgt := 69) dX8_drop_45 (by decide) rfl (by omega) (by omega) (fun _ => ?_) (fun h9 => by first | exact h9.elim | (exfalso; omega))
        refine V_aload_n (q := 70) dX8_drop_69 rfl rfl rfl ?_
        refine GX8_9 (q := 73) rfl dX8_drop_70 rfl (by first | assumption | exact up_eq | exact (up_ne (by omega)).trans (by first | assumption | exact up_eq | exact (up_ne (by omega)).trans (by first | assumption | exact up_eq | exact (up_ne (by omega)).trans (by first | assumption | exact up_eq)))) (by omega) (by rfl) ?_
        refine V_iconst (q := 74) (v := nI 0) dX8_drop_73 rfl (by decide) ?_
        refine V_ialdN (q := 75) dX8_drop_74 rfl (by first | assumption | exact up_eq | exact (up_ne (by omega)).trans (by first | assumption | exact up_eq | exact (up_ne (by omega)).trans (by first | assumption | exact up_eq | exact (up_ne (by omega)).trans (by first | assumption | exact up_eq)))) (by omega) (by omega) (by omega) rfl a2 ?_
        exact V_iret dX8_drop_75 rfl (Nat.le_of_ble_eq_true rfl) (Nat.le_of_ble_eq_true rfl) (⟨rfl, _, rfl, MOP.yes (b := kLn K) fin.1 (RN.drop hR hi a2 a3 a4) (nIerr (by omega)) (hF1.tr fin.2)⟩)
      · intro k hk ih F1 w2 a1 a2 a3 a4 a5 a6 a7
        have c0 : w2 p = eO 8 (mfs g p (setKp K (nI (pkC K pk)))) := (a7 _ (by omega)).trans b0
        have e9 := a5 (k + 9) (by omega)
        refine V_iload_n (q := 33) dX8_drop_32 rfl rfl ?_
        refine V_bipush (q := 35) (v := nI 9) dX8_drop_33 rfl (by decide) ?_
        refine V_bipush (q := 37) (v := nI 9) dX8_drop_35 rfl (by decide) ?_
        refine V_aload_n (q := 38) dX8_drop_37 rfl rfl rfl ?_
        refine GX8_9 (q := 41) rfl dX8_drop_38 rfl (by first | assumption | exact up_eq | exact (up_ne (by omega)).trans (by first | assumption | exact up_eq | exact (up_ne (by omega)).trans (by first | assumption | exact up_eq | exact (up_ne (by omega)).trans (by first | assumption | exact up_eq)))) (by omega) (by rfl) ?_
        refine V_iconst (q := 42) (v := nI 0) dX8_drop_41 rfl (by decide) ?_
        refine V_ialdN (q := 43) dX8_drop_42 rfl (by first | assumption | exact up_eq | exact (up_ne (by omega)).trans (by first | assumption | exact up_eq | exact (up_ne (by omega)).trans (by first | assumption | exact up_eq | exact (up_ne (by omega)).trans (by first | assumption | exact up_eq)))) (by omega) (by omega) (by omega) rfl a2 ?_
        refine V_imul (q := 44) dX8_drop_43 rfl (by first | exact pk_mul _ _ | rfl) ?_
        refine V_iadd (q := 45) dX8_drop_44 rfl (by first | exact nI_add _ _ | rfl) ?_
        refine V_icmpN_ge (q := 48) (tgt := 69) dX8_drop_45 (by decide) rfl (by omega) (by omega) (fun h9 => by first | exact h9.elim | exact absurd h9 (by assumption) | (exfalso; omega)) (fun _ => ?_)
        refine V_aload_n (q := 49) dX8_drop_48 rfl rfl rfl ?_
        refine GX8_9 (q := 52) rfl dX8_drop_49 rfl (by first | assumption | exact up_eq | exact (up_ne (by omega)).trans (by first | assumption | exact up_eq | exact (up_ne (by omega)).trans (by first | assumption | exact up_eq | exact (up_ne (by omega)).trans (by first | assumption | exact up_eq)))) (by omega) (by rfl) ?_
        refine V_iload_n (q := 53) dX8_drop_52 rfl rfl ?_
        refine V_aload_n (q := 54) dX8_drop_53 rfl rfl rfl ?_
        refine GX8_9 (q := 57) rfl dX8_drop_54 rfl (by first | assumption | exact up_eq | exact (up_ne (by omega)).trans (by first | assumption | exact up_eq | exact (up_ne (by omega)).trans (by first | assumption | exact up_eq | exact (up_ne (by omega)).trans (by first | assumption | exact up_eq)))) (by omega) (by rfl) ?_
        refine V_iload_n (q := 58) dX8_drop_57 rfl rfl ?_
        refine V_bipush (q := 60) (v := nI 9) dX8_drop_58 rfl (by decide) ?_
        refine V_iadd (q := 61) dX8_drop_60 rfl (by first | exact nI_add _ _ | rfl) ?_
        refine V_ialdN (q := 62) dX8_drop_61 rfl (by first | assumption | exact up_eq | exact (up_ne (by omega)).trans (by first | assumption | exact up_eq | exact (up_ne (by omega)).trans (by first | assumption | exact up_eq | exact (up_ne (by omega)).trans (by first | assumption | exact up_eq)))) (by omega) (by omega) (by omega) rfl (by rfl) ?_
        refine V_iastN (q := 63) dX8_drop_62 rfl (by first | assumption | exact up_eq | exact (up_ne (by omega)).trans (by first | assumption | exact up_eq | exact (up_ne (by omega)).trans (by first | assumption | exact up_eq | exact (up_ne (by omega)).trans (by first | assumption | exact up_eq)))) (by omega) (by omega) (by omega) rfl (by rfl) ?_
        refine V_iinc (q := 66) (ls' := [_, _, _]) dX8_drop_63 rfl (by decide) rfl (by first | exact inc1 _ | rfl) rfl ?_
        refine V_goto (tgt := 32) dX8_drop_66 (by decide) ?_
        refine ih (upd F1 k (F1 (k + 9))) _ (by omega) (by rw [updN (by omega)]; exact a2) (fun j q1 q2 => by rw [updN (by omega)]; exact a3 j q1 q2) (fun j q1 q2 => ?_) (fun j q1 => by rw [updN (by omega)]; exact a5 j (by omega)) up_eq (fun j hj => (up_ne hj).trans (a7 j hj))
        by_cases e : j = k
        · rw [e, updI]; exact e9
        · rw [updN e]; exact a4 j q1 (by omega)
    exact key (9 + 9 * i) (by omega) (upd F 0 (nI (sC N - 1))) _ (Nat.le_refl _) updI (fun j q1 q2 => updN (by omega)) (fun j q1 q2 => absurd q1 (by omega)) (fun j q1 => updN (by omega)) up_eq (fun j hj => up_ne hj)
theorem M_turn (h : MBd g w n p K F Fs Fb pk Hs C T) (hI : kIn K = 0 ∨ kIn K = 1) (hR : RN F N) {x : Int32} : CtI g l MX8_turn 3 [rf g p, .int x] w n (MOP g w n p K Fs Fb pk Hs C T N (turnA x N)) := by
  have hX := h
  obtain ⟨h0, h1, -, -, -, -, -, -, hn, -⟩ := h
  have hc6 := hR.2.2.1.1
  have hpn : p + 1 < n := by omega
  rcases i3_lt x (sC N) (by omega) with hx | ⟨i, hi, rfl⟩
  · rw [show turnA x N = (-1, N, none) by unfold turnA; rw [idx_no hx]]
    refine Ct.ofs (M := MX8_turn) (ls := [some _, some _, none, none, none]) (by decide +kernel) (by exact (Nat.le_of_ble_eq_true rfl)) (by rfl) (by rfl) (by rfl) ?_
    refine V_aload_n (q := 1) dX8_turn_0 rfl rfl rfl ?_
    refine V_iload_n (q := 2) dX8_turn_1 rfl rfl ?_
    refine CrX8_123 (q := 5) rfl dX8_turn_2 rfl (m_isRow_out h0 h1 (by omega) hR hx) ⟨(Nat.le_of_ble_eq_true rfl), (Nat.le_of_ble_eq_true rfl)⟩ (Nat.le_of_ble_eq_true rfl) (by first | assumption | exact up_eq | exact (up_ne (by omega)).trans (by first | assumption | exact up_eq | exact (up_ne (by omega)).trans (by first | assumption | exact up_eq | exact (up_ne (by omega)).trans (by first | assumption | exact up_eq)))) (by omega) (Nat.zero_le _) (Nat.zero_le _) ?_
    refine V_if_ne (q := 8) (tgt := 10) dX8_turn_5 (by decide) rfl (fun h9 => absurd rfl h9) (fun _ => ?_)
    refine V_iconst (q := 9) (v := (-1)) dX8_turn_8 rfl (by decide) ?_
    exact V_iret dX8_turn_9 rfl (Nat.le_of_ble_eq_true rfl) (Nat.le_of_ble_eq_true rfl) (⟨rfl, _, rfl, MOP.no hX hR (by decide)⟩)
  obtain ⟨i0, i1, i2⟩ := hR.2.2.1.2 i hi
  · rw [show turnA (nI i) N = (nI (rotN (sR N i).2 (sR N i).1 0), setR N i ((sR N i).1, rotN (sR N i).2 (sR N i).1), none) by unfold turnA; rw [idx_yes hi (by omega)]]
    have hro := fun j => i2 _ (Nat.mod_lt (j + 1) i0)
    refine Ct.ofs (M := MX8_turn) (ls := [some _, some _, none, none, none]) (by decide +kernel) (by exact (Nat.le_of_ble_eq_true rfl)) (by rfl) (by rfl) (by rfl) ?_
    refine V_aload_n (q := 1) dX8_turn_0 rfl rfl rfl ?_
    refine V_iload_n (q := 2) dX8_turn_1 rfl rfl ?_
    refine CrX8_123 (q := 5) rfl dX8_turn_2 rfl (m_isRow_in h0 h1 hpn hR hi) ⟨(Nat.le_of_ble_eq_true rfl), (Nat.le_of_ble_eq_true rfl)⟩ (Nat.le_of_ble_eq_true rfl) (by first | assumption | exact up_eq | exact (up_ne (by omega)).trans (by first | assumption | exact up_eq | exact (up_ne (by omega)).trans (by first | assumption | exact up_eq | exact (up_ne (by omega)).trans (by first | assumption | exact up_eq)))) (by omega) (Nat.zero_le _) (Nat.zero_le _) ?_
    refine V_if_ne (q := 8) (tgt := 10) dX8_turn_5 (by decide) rfl (fun _ => ?_) (fun h9 => absurd h9 (by decide))
    refine V_aload_n (q := 11) dX8_turn_10 rfl rfl rfl ?_
    refine CvX8_116 (q := 14) rfl dX8_turn_11 rfl (m_chg hX hI hR) ⟨(Nat.le_of_ble_eq_true rfl), (Nat.le_of_ble_eq_true rfl)⟩ (Nat.le_of_ble_eq_true rfl) (by first | assumption | exact up_eq | exact (up_ne (by omega)).trans (by first | assumption | exact up_eq | exact (up_ne (by omega)).trans (by first | assumption | exact up_eq | exact (up_ne (by omega)).trans (by first | assumption | exact up_eq)))) (by omega) (Nat.zero_le _) (Nat.zero_le _) (fun w1 hw1 => ?_)
    obtain ⟨hM1, hF1⟩ := hw1
    have b0 := hM1.1
    have b1 := hM1.2.1
    refine V_aload_n (q := 15) dX8_turn_14 rfl rfl rfl ?_
    refine V_iload_n (q := 16) dX8_turn_15 rfl rfl ?_
    refine V_iconst (q := 17) (v := nI 0) dX8_turn_16 rfl (by decide) ?_
    refine CrX8_79 (q := 20) rfl dX8_turn_17 rfl (m_thrown b0 b1 hpn hR hi i0) ⟨(Nat.le_of_ble_eq_true rfl), (Nat.le_of_ble_eq_true rfl)⟩ (Nat.le_of_ble_eq_true rfl) (by first | assumption | exact up_eq | exact (up_ne (by omega)).trans (by first | assumption | exact up_eq | exact (up_ne (by omega)).trans (by first | assumption | exact up_eq | exact (up_ne (by omega)).trans (by first | assumption | exact up_eq)))) (by omega) (Nat.zero_le _) (Nat.zero_le _) ?_
    refine V_istore_n (q := 21) (ls' := [_, _, _, _, _]) dX8_turn_20 rfl (by decide) rfl ?_
    refine V_aload_n (q := 22) dX8_turn_21 rfl rfl rfl ?_
    refine V_iload_n (q := 23) dX8_turn_22 rfl rfl ?_
    refine CrX8_75 (q := 26) rfl dX8_turn_23 rfl (m_lengthOf b0 b1 hpn hR hi) ⟨(Nat.le_of_ble_eq_true rfl), (Nat.le_of_ble_eq_true rfl)⟩ (Nat.le_of_ble_eq_true rfl) (by first | assumption | exact up_eq | exact (up_ne (by omega)).trans (by first | assumption | exact up_eq | exact (up_ne (by omega)).trans (by first | assumption | exact up_eq | exact (up_ne (by omega)).trans (by first | assumption | exact up_eq)))) (by omega) (Nat.zero_le _) (Nat.zero_le _) ?_
    refine V_iconst (q := 27) (v := nI 1) dX8_turn_26 rfl (by decide) ?_
    refine V_isub (q := 28) dX8_turn_27 rfl (by first | exact pk_sub (by omega) | rfl) ?_
    refine V_istore_n (q := 29) (ls' := [_, _, _, _, _]) dX8_turn_28 rfl (by decide) rfl ?_
    refine V_iconst (q := 30) (v := nI 0) dX8_turn_29 rfl (by decide) ?_
    refine V_istore (q := 32) (ls' := [_, _, _, _, _]) dX8_turn_30 rfl (by decide) rfl ?_
    have key : ∀ k, k ≤ (sR N i).1 - 1 → ∀ F1 w2, (∀ j, (j < 9 + 9 * i + 1 ∨ 9 + 9 * i + 1 + k ≤ j) → F1 j = F j) → (∀ j, j < k → F1 (9 + 9 * i + 1 + j) = nI (rotN (sR N i).2 (sR N i).1 j)) → w2 (p + 1) = eI g 63 F1 → (∀ j, j ≠ p + 1 → w2 j = w1 j) → V g l MX8_turn (rmd 3 0 0) (FinM g (qI (MOP g w n p K Fs Fb pk Hs C T N (nI (rotN (sR N i).2 (sR N i).1 0), setR N i ((sR N i).1, rotN (sR N i).2 (sR N i).1), none)) n) 0 0) 32 [some (rf g p), some (.int (nI i)), some (.int (nI ((sR N i).2 0))), some (.int (nI ((sR N i).1 - 1))), some (.int (nI k))] [] (w2) n 0 0 := by
      refine loopU (fun k => ∀ F1 w2, (∀ j, (j < 9 + 9 * i + 1 ∨ 9 + 9 * i + 1 + k ≤ j) → F1 j = F j) → (∀ j, j < k → F1 (9 + 9 * i + 1 + j) = nI (rotN (sR N i).2 (sR N i).1 j)) → w2 (p + 1) = eI g 63 F1 → (∀ j, j ≠ p + 1 → w2 j = w1 j) → V g l MX8_turn (rmd 3 0 0) (FinM g (qI (MOP g w n p K Fs Fb pk Hs C T N (nI (rotN (sR N i).2 (sR N i).1 0), setR N i ((sR N i).1, rotN (sR N i).2 (sR N i).1), none)) n) 0 0) 32 [some (rf g p), some (.int (nI i)), some (.int (nI ((sR N i).2 0))), some (.int (nI ((sR N i).1 - 1))), some (.int (nI k))] [] (w2) n 0 0) ((sR N i).1 - 1) ?_ ?_
      · intro F1 w2 a1 a2 a3 a4
        have c0 : w2 p = eO 8 (mfs g p (setKp K (nI (pkC K pk)))) := (a4 _ (by omega)).trans b0
        have hlast : rotN (sR N i).2 (sR N i).1 ((sR N i).1 - 1) = (sR N i).2 0 := by unfold rotN; rw [show (sR N i).1 - 1 + 1 = (sR N i).1 by omega, Nat.mod_self]
        refine V_iload (q := 34) dX8_turn_32 rfl rfl ?_
        refine V_iload_n (q := 35) dX8_turn_34 rfl rfl ?_
        refine V_icmpN_ge (q := 38) (tgt := 60) dX8_turn_35 (by decide) rfl (by omega) (by omega) (fun _ => ?_) (fun h9 => by first | exact h9.elim | (exfalso; omega))
        refine V_aload_n (q := 61) dX8_turn_60 rfl rfl rfl ?_
        refine V_iload_n (q := 62) dX8_turn_61 rfl rfl ?_
        refine V_iload_n (q := 63) dX8_turn_62 rfl rfl ?_
        refine V_iload_n (q := 64) dX8_turn_63 rfl rfl ?_
        refine CvX8_119 (q := 67) rfl dX8_turn_64 rfl (m_putThrow c0 a3 hn (i := i) (j := (sR N i).1 - 1) (by omega) (by omega)) ⟨(Nat.le_of_ble_eq_true rfl), (Nat.le_of_ble_eq_true rfl)⟩ (Nat.le_of_ble_eq_true rfl) (by first | assumption | exact up_eq | exact (up_ne (by omega)).trans (by first | assumption | exact up_eq | exact (up_ne (by omega)).trans (by first | assumption | exact up_eq | exact (up_ne (by omega)).trans (by first | assumption | exact up_eq)))) (by omega) (Nat.zero_le _) (Nat.zero_le _) (fun w3 hw3 => ?_)
        have hw4 : w3 = va_up w1 (p + 1) (eI g 63 (upd F1 (9 + 9 * i + 1 + ((sR N i).1 - 1)) (nI ((sR N i).2 0)))) := by
          refine up_is (by rw [hw3]; exact up_eq) (fun j hj => ?_)
          rw [hw3]
          exact (up_ne hj).trans (a4 j hj)
        have fin := hM1.now (F' := upd F1 (9 + 9 * i + 1 + ((sR N i).1 - 1)) (nI ((sR N i).2 0)))
        rw [← hw4] at fin
        have hRf := RN.row hR hi (F' := upd F1 (9 + 9 * i + 1 + ((sR N i).1 - 1)) (nI ((sR N i).2 0))) (h' := rotN (sR N i).2 (sR N i).1) (fun k hk => by rw [updN (by omega)]; exact a1 k (by omega)) (fun j hj => ⟨by
          by_cases e : j = (sR N i).1 - 1
          · rw [e, updI, hlast]
          · rw [updN (by omega)]; exact a2 j (by omega), hro j⟩)
        have d0 := fin.1.1
        have d1 := fin.1.2.1
        have hc1 : i < sC (setR N i ((sR N i).1, rotN (sR N i).2 (sR N i).1)) := hi
        have hrow : sR (setR N i ((sR N i).1, rotN (sR N i).2 (sR N i).1)) i = ((sR N i).1, rotN (sR N i).2 (sR N i).1) := if_pos rfl
        have hth := m_thrown (l := l) d0 d1 hpn hRf (i := i) (j := 0) hc1 (by rw [hrow]; exact i0)
        rw [hrow] at hth
        refine V_aload_n (q := 68) dX8_turn_67 rfl rfl rfl ?_
        refine V_iload_n (q := 69) dX8_turn_68 rfl rfl ?_
        refine V_iconst (q := 70) (v := nI 0) dX8_turn_69 rfl (by decide) ?_
        refine CrX8_79 (q := 73) rfl dX8_turn_70 rfl (hth) ⟨(Nat.le_of_ble_eq_true rfl), (Nat.le_of_ble_eq_true rfl)⟩ (Nat.le_of_ble_eq_true rfl) (by first | assumption | exact up_eq | exact (up_ne (by omega)).trans (by first | assumption | exact up_eq | exact (up_ne (by omega)).trans (by first | assumption | exact up_eq | exact (up_ne (by omega)).trans (by first | assumption | exact up_eq)))) (by omega) (Nat.zero_le _) (Nat.zero_le _) ?_
        skip
        exact V_iret dX8_turn_73 rfl (Nat.le_of_ble_eq_true rfl) (Nat.le_of_ble_eq_true rfl) (⟨rfl, _, rfl, MOP.yes (b := kLn K) fin.1 hRf (nIerr (by have := hro 0; show rotN _ _ 0 < _; unfold rotN; omega)) (hF1.tr fin.2)⟩)
      · intro k hk ih F1 w2 a1 a2 a3 a4
        have c0 : w2 p = eO 8 (mfs g p (setKp K (nI (pkC K pk)))) := (a4 _ (by omega)).trans b0
        have ev : F1 (9 + 9 * i + 1 + (k + 1)) = nI ((sR N i).2 (k + 1)) := (a1 _ (by omega)).trans ((hR.2.1 i hi).2 (k + 1) (by omega))
        have hrk : rotN (sR N i).2 (sR N i).1 k = (sR N i).2 (k + 1) := by unfold rotN; rw [Nat.mod_eq_of_lt (by omega)]
        have hth : CtR g l MX8_thrown 0 [rf g p, .int (nI i), .int (nI (k + 1))] w2 n (.int (nI ((sR N i).2 (k + 1)))) := by
          refine Ct.ofs (M := MX8_thrown) (ls := [some _, some _, some _]) (by decide +kernel) (by exact (Nat.le_of_ble_eq_true rfl)) (by rfl) (by rfl) (by rfl) ?_
          refine V_aload_n (q := 1) dX8_thrown_0 rfl rfl rfl ?_
          refine GX8_9 (q := 4) rfl dX8_thrown_1 rfl (by first | assumption | exact up_eq | exact (up_ne (by omega)).trans (by first | assumption | exact up_eq | exact (up_ne (by omega)).trans (by first | assumption | exact up_eq | exact (up_ne (by omega)).trans (by first | assumption | exact up_eq)))) (by omega) (by rfl) ?_
          refine V_bipush (q := 6) (v := nI 9) dX8_thrown_4 rfl (by decide) ?_
          refine V_bipush (q := 8) (v := nI 9) dX8_thrown_6 rfl (by decide) ?_
          refine V_iload_n (q := 9) dX8_thrown_8 rfl rfl ?_
          refine V_imul (q := 10) dX8_thrown_9 rfl (by first | exact pk_mul _ _ | rfl) ?_
          refine V_iadd (q := 11) dX8_thrown_10 rfl (by first | exact nI_add _ _ | rfl) ?_
          refine V_iconst (q := 12) (v := nI 1) dX8_thrown_11 rfl (by decide) ?_
          refine V_iadd (q := 13) dX8_thrown_12 rfl (by first | exact nI_add _ _ | rfl) ?_
          refine V_iload_n (q := 14) dX8_thrown_13 rfl rfl ?_
          refine V_iadd (q := 15) dX8_thrown_14 rfl (by first | exact nI_add _ _ | rfl) ?_
          refine V_ialdN (q := 16) dX8_thrown_15 rfl (by first | assumption | exact up_eq | exact (up_ne (by omega)).trans (by first | assumption | exact up_eq | exact (up_ne (by omega)).trans (by first | assumption | exact up_eq | exact (up_ne (by omega)).trans (by first | assumption | exact up_eq)))) (by omega) (by omega) (by omega) rfl ev ?_
          exact V_iret dX8_thrown_16 rfl (Nat.le_of_ble_eq_true rfl) (Nat.le_of_ble_eq_true rfl) (⟨rfl, rfl, rfl⟩)
        refine V_iload (q := 34) dX8_turn_32 rfl rfl ?_
        refine V_iload_n (q := 35) dX8_turn_34 rfl rfl ?_
        refine V_icmpN_ge (q := 38) (tgt := 60) dX8_turn_35 (by decide) rfl (by omega) (by omega) (fun h9 => by first | exact h9.elim | exact absurd h9 (by assumption) | (exfalso; omega)) (fun _ => ?_)
        refine V_aload_n (q := 39) dX8_turn_38 rfl rfl rfl ?_
        refine V_iload_n (q := 40) dX8_turn_39 rfl rfl ?_
        refine V_iload (q := 42) dX8_turn_40 rfl rfl ?_
        refine V_aload_n (q := 43) dX8_turn_42 rfl rfl rfl ?_
        refine V_iload_n (q := 44) dX8_turn_43 rfl rfl ?_
        refine V_iload (q := 46) dX8_turn_44 rfl rfl ?_
        refine V_iconst (q := 47) (v := nI 1) dX8_turn_46 rfl (by decide) ?_
        refine V_iadd (q := 48) dX8_turn_47 rfl (by first | exact nI_add _ _ | rfl) ?_
        refine CrX8_79 (q := 51) rfl dX8_turn_48 rfl (hth) ⟨(Nat.le_of_ble_eq_true rfl), (Nat.le_of_ble_eq_true rfl)⟩ (Nat.le_of_ble_eq_true rfl) (by first | assumption | exact up_eq | exact (up_ne (by omega)).trans (by first | assumption | exact up_eq | exact (up_ne (by omega)).trans (by first | assumption | exact up_eq | exact (up_ne (by omega)).trans (by first | assumption | exact up_eq)))) (by omega) (Nat.zero_le _) (Nat.zero_le _) ?_
        skip
        refine CvX8_119 (q := 54) rfl dX8_turn_51 rfl (m_putThrow c0 a3 hn (i := i) (j := k) (by omega) (by omega)) ⟨(Nat.le_of_ble_eq_true rfl), (Nat.le_of_ble_eq_true rfl)⟩ (Nat.le_of_ble_eq_true rfl) (by first | assumption | exact up_eq | exact (up_ne (by omega)).trans (by first | assumption | exact up_eq | exact (up_ne (by omega)).trans (by first | assumption | exact up_eq | exact (up_ne (by omega)).trans (by first | assumption | exact up_eq)))) (by omega) (Nat.zero_le _) (Nat.zero_le _) (fun w3 hw3 => ?_)
        subst hw3
        refine V_iinc (q := 57) (ls' := [_, _, _, _, _]) dX8_turn_54 rfl (by decide) rfl (by first | exact inc1 _ | rfl) rfl ?_
        refine V_goto (tgt := 32) dX8_turn_57 (by decide) ?_
        refine ih (upd F1 (9 + 9 * i + 1 + k) (nI ((sR N i).2 (k + 1)))) _ (fun j hj => by rw [updN (by omega)]; exact a1 j (by omega)) (fun j hj => ?_) up_eq (fun j hj => (up_ne hj).trans (a4 j hj))
        by_cases e : j = k
        · rw [e, updI, hrk]
        · rw [updN (by omega)]; exact a2 j (by omega)
    exact key 0 (Nat.zero_le _) F w1 (fun _ _ => rfl) (fun j hj => absurd hj (Nat.not_lt_zero j)) b1 (fun _ _ => rfl)
end MO
