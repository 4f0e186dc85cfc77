/-! the model: the text read -/
def setAW (K : MS) (a x : Int32) : MS := (kKp K, kRe K, kDe K, kIT K, kCm K, kSv K, kIn K, kLn K, kWr K, kRd K, a, kWh K, kOn K, kOt K, kTh K, x)
def TxK (K : MS) (T : Nat → Int32) (tl : Nat) (t : Nat → Nat) : Prop := kRd K = nI tl ∧ tl ≤ 70 ∧ ∀ i, i < tl → T i = nI (t i) ∧ 32 ≤ t i ∧ t i ≤ 126
section MT
variable {g : GG} {l : Launch} {w : HW} {n p : Nat} {K : MS} {F Fs Fb C T : Nat → Int32} {pk : Nat} {Hs : Nat → StT} {tl : Nat} {t : Nat → Nat}
theorem m_sees1 (h : MBd g w n p K F Fs Fb pk Hs C T) (hw : kWg K = 1) {x y : Int32} : CtR g l MX8_sees 1 [rf g p, .int x, .int y] w n (.int 0) := by
  obtain ⟨h0, -, -, -, -, -, -, hTT, hn, -⟩ := h
  refine Ct.ofs (M := MX8_sees) (ls := [some _, some _, some _]) (by decide +kernel) (by exact (Nat.le_of_ble_eq_true rfl)) (by rfl) (by rfl) (by rfl) ?_
  refine V_aload_n (q := 1) dX8_sees_0 rfl rfl rfl ?_
  refine GX8_179 (q := 4) rfl dX8_sees_1 rfl (by first | assumption | exact up_eq | exact (up_ne (by omega)).trans (by first | assumption | exact up_eq | exact (up_ne (by omega)).trans (by first | assumption | exact up_eq | exact (up_ne (by omega)).trans (by first | assumption | exact up_eq)))) (by omega) (by rfl) ?_
  refine V_topi hw ?_
  refine V_if_ne (q := 7) (tgt := 39) dX8_sees_4 (by decide) rfl (fun _ => ?_) (fun h9 => absurd h9 (by decide))
  refine V_iconst (q := 40) (v := nI 0) dX8_sees_39 rfl (by decide) ?_
  exact V_zret dX8_sees_40 rfl (rfl) (Nat.le_of_ble_eq_true rfl) (Nat.le_of_ble_eq_true rfl) (⟨rfl, rfl, rfl⟩)
theorem m_sees0 (h : MBd g w n p K F Fs Fb pk Hs C T) (hT : TxK K T tl t) (hw : kWg K = 0) {a lo hi : Nat} (ha : kAt K = nI a) (hal : a ≤ tl) (hlo : lo < 2 ^ 31) (hhi : hi < 2 ^ 31) : CtR g l MX8_sees 1 [rf g p, .int (nI lo), .int (nI hi)] w n (.int (if a < tl ∧ lo ≤ t a ∧ t a ≤ hi then 1 else 0)) := by
  obtain ⟨h0, -, -, -, -, -, -, hTT, hn, -⟩ := h
  obtain ⟨t1, t2, t3⟩ := hT
  refine Ct.ofs (M := MX8_sees) (ls := [some _, some _, some _]) (by decide +kernel) (by exact (Nat.le_of_ble_eq_true rfl)) (by rfl) (by rfl) (by rfl) ?_
  refine V_aload_n (q := 1) dX8_sees_0 rfl rfl rfl ?_
  refine GX8_179 (q := 4) rfl dX8_sees_1 rfl (by first | assumption | exact up_eq | exact (up_ne (by omega)).trans (by first | assumption | exact up_eq | exact (up_ne (by omega)).trans (by first | assumption | exact up_eq | exact (up_ne (by omega)).trans (by first | assumption | exact up_eq)))) (by omega) (by rfl) ?_
  refine V_topi hw ?_
  refine V_if_ne (q := 7) (tgt := 39) dX8_sees_4 (by decide) rfl (fun h9 => absurd rfl h9) (fun _ => ?_)
  refine V_aload_n (q := 8) dX8_sees_7 rfl rfl rfl ?_
  refine GX8_182 (q := 11) rfl dX8_sees_8 rfl (by first | assumption | exact up_eq | exact (up_ne (by omega)).trans (by first | assumption | exact up_eq | exact (up_ne (by omega)).trans (by first | assumption | exact up_eq | exact (up_ne (by omega)).trans (by first | assumption | exact up_eq)))) (by omega) (by rfl) ?_
  refine V_topi ha ?_
  refine V_aload_n (q := 12) dX8_sees_11 rfl rfl rfl ?_
  refine GX8_176 (q := 15) rfl dX8_sees_12 rfl (by first | assumption | exact up_eq | exact (up_ne (by omega)).trans (by first | assumption | exact up_eq | exact (up_ne (by omega)).trans (by first | assumption | exact up_eq | exact (up_ne (by omega)).trans (by first | assumption | exact up_eq)))) (by omega) (by rfl) ?_
  refine V_topi t1 ?_
  refine V_icmpN_ge (q := 18) (tgt := 39) dX8_sees_15 (by decide) rfl (by omega) (by omega) (fun hq => ?_) (fun hq => ?_)
  · skip
    rw [if_neg (by omega)]
    refine V_iconst (q := 40) (v := nI 0) dX8_sees_39 rfl (by decide) ?_
    exact V_zret dX8_sees_40 rfl (rfl) (Nat.le_of_ble_eq_true rfl) (Nat.le_of_ble_eq_true rfl) (⟨rfl, rfl, rfl⟩)
  · skip
    obtain ⟨e1, e2, e3⟩ := t3 a hq
    refine V_aload_n (q := 19) dX8_sees_18 rfl rfl rfl ?_
    refine GX8_44 (q := 22) rfl dX8_sees_19 rfl (by first | assumption | exact up_eq | exact (up_ne (by omega)).trans (by first | assumption | exact up_eq | exact (up_ne (by omega)).trans (by first | assumption | exact up_eq | exact (up_ne (by omega)).trans (by first | assumption | exact up_eq)))) (by omega) (by rfl) ?_
    refine V_aload_n (q := 23) dX8_sees_22 rfl rfl rfl ?_
    refine GX8_182 (q := 26) rfl dX8_sees_23 rfl (by first | assumption | exact up_eq | exact (up_ne (by omega)).trans (by first | assumption | exact up_eq | exact (up_ne (by omega)).trans (by first | assumption | exact up_eq | exact (up_ne (by omega)).trans (by first | assumption | exact up_eq)))) (by omega) (by rfl) ?_
    refine V_topi ha ?_
    refine V_ialdN (q := 27) dX8_sees_26 rfl (by first | assumption | exact up_eq | exact (up_ne (by omega)).trans (by first | assumption | exact up_eq | exact (up_ne (by omega)).trans (by first | assumption | exact up_eq | exact (up_ne (by omega)).trans (by first | assumption | exact up_eq)))) (by omega) (by omega) (by omega) rfl e1 ?_
    refine V_iload_n (q := 28) dX8_sees_27 rfl rfl ?_
    refine V_iload_n (q := 29) dX8_sees_28 rfl rfl ?_
    refine CrX8_71 (q := 32) rfl dX8_sees_29 rfl (c_between) ⟨(Nat.le_of_ble_eq_true rfl), (Nat.le_of_ble_eq_true rfl)⟩ (Nat.le_of_ble_eq_true rfl) (Nat.zero_le _) (Nat.zero_le _) ?_
    by_cases hb : lo ≤ t a ∧ t a ≤ hi
    · rw [if_pos (show a < tl ∧ lo ≤ t a ∧ t a ≤ hi from ⟨hq, hb⟩)]
      refine V_topi (if_pos ⟨(nI_leI hlo (by omega)).mpr hb.1, (nI_leI (by omega) hhi).mpr hb.2⟩) ?_
      refine V_if_eq (q := 35) (tgt := 39) dX8_sees_32 (by decide) rfl (fun h9 => absurd h9 (by decide)) (fun _ => ?_)
      refine V_iconst (q := 36) (v := nI 1) dX8_sees_35 rfl (by decide) ?_
      refine V_goto (tgt := 40) dX8_sees_36 (by decide) ?_
      exact V_zret dX8_sees_40 rfl (rfl) (Nat.le_of_ble_eq_true rfl) (Nat.le_of_ble_eq_true rfl) (⟨rfl, rfl, rfl⟩)
    · rw [if_neg (fun q => hb q.2)]
      refine V_topi (if_neg (fun q => hb ⟨(nI_leI hlo (by omega)).mp q.1, (nI_leI (by omega) hhi).mp q.2⟩)) ?_
      refine V_if_eq (q := 35) (tgt := 39) dX8_sees_32 (by decide) rfl (fun _ => ?_) (fun h9 => absurd rfl h9)
      refine V_iconst (q := 40) (v := nI 0) dX8_sees_39 rfl (by decide) ?_
      exact V_zret dX8_sees_40 rfl (rfl) (Nat.le_of_ble_eq_true rfl) (Nat.le_of_ble_eq_true rfl) (⟨rfl, rfl, rfl⟩)
theorem dgA_yes {a d : Nat} (h : dgA t tl a = some d) : (a < tl ∧ 48 ≤ t a ∧ t a ≤ 57) ∧ d = t a - 48 := by
  unfold dgA at h
  by_cases q : a < tl ∧ 48 ≤ t a ∧ t a ≤ 57
  · rw [if_pos q] at h; cases h; exact ⟨q, rfl⟩
  · rw [if_neg q] at h; cases h
theorem dgA_no {a : Nat} (h : dgA t tl a = none) : ¬ (a < tl ∧ 48 ≤ t a ∧ t a ≤ 57) := fun q => by
  unfold dgA at h
  rw [if_pos q] at h
  cases h
theorem m_digit_yes (h : MBd g w n p K F Fs Fb pk Hs C T) (hT : TxK K T tl t) (hw : kWg K = 0) {a d : Nat} (ha : kAt K = nI a) (hal : a ≤ tl) (hd : dgA t tl a = some d) : CtI g l MX8_readDigit 2 [rf g p] w n (fun y w' => y = nI d ∧ MBd g w' n p (setAW K (nI (a + 1)) 0) F Fs Fb pk Hs C T ∧ FrM w w' p) := by
  have hX := h
  obtain ⟨h0, -, -, -, -, -, -, hTT, hn, -⟩ := h
  have hT' := hT
  obtain ⟨t1, t2, t3⟩ := hT
  obtain ⟨hq, rfl⟩ := dgA_yes hd
  obtain ⟨e1, e2, e3⟩ := t3 a hq.1
  refine Ct.ofs (M := MX8_readDigit) (ls := [some _, none]) (by decide +kernel) (by exact (Nat.le_of_ble_eq_true rfl)) (by rfl) (by rfl) (by rfl) ?_
  refine V_aload_n (q := 1) dX8_readDigit_0 rfl rfl rfl ?_
  refine V_dup (q := 2) dX8_readDigit_1 rfl rfl ?_
  refine GX8_179 (q := 5) rfl dX8_readDigit_2 rfl (by first | assumption | exact up_eq | exact (up_ne (by omega)).trans (by first | assumption | exact up_eq | exact (up_ne (by omega)).trans (by first | assumption | exact up_eq | exact (up_ne (by omega)).trans (by first | assumption | exact up_eq)))) (by omega) (by rfl) ?_
  refine V_topi hw ?_
  refine V_aload_n (q := 6) dX8_readDigit_5 rfl rfl rfl ?_
  refine V_bipush (q := 8) (v := nI 48) dX8_readDigit_6 rfl (by decide) ?_
  refine V_bipush (q := 10) (v := nI 57) dX8_readDigit_8 rfl (by decide) ?_
  refine CrX8_185 (q := 13) rfl dX8_readDigit_10 rfl (m_sees0 hX hT' hw (lo := 48) (hi := 57) ha hal (by decide) (by decide)) ⟨(Nat.le_of_ble_eq_true rfl), (Nat.le_of_ble_eq_true rfl)⟩ (Nat.le_of_ble_eq_true rfl) (by first | assumption | exact up_eq | exact (up_ne (by omega)).trans (by first | assumption | exact up_eq | exact (up_ne (by omega)).trans (by first | assumption | exact up_eq | exact (up_ne (by omega)).trans (by first | assumption | exact up_eq)))) (by omega) (Nat.zero_le _) (Nat.zero_le _) ?_
  refine V_topi (if_pos hq) ?_
  refine V_if_ne (q := 16) (tgt := 20) dX8_readDigit_13 (by decide) rfl (fun _ => ?_) (fun h9 => absurd h9 (by decide))
  refine V_iconst (q := 21) (v := nI 0) dX8_readDigit_20 rfl (by decide) ?_
  refine V_ior (q := 22) dX8_readDigit_21 rfl (show (0 : Int32) ||| nI 0 = 0 by decide) ?_
  refine PX8_179 (q := 25) (fs' := [_, _, _, _, _, _, _, _, _, _, _, _, _, _, _, _, _, _, _, _, _, _, _, _, _, _]) rfl dX8_readDigit_22 rfl rfl rfl (by first | assumption | exact up_eq | exact (up_ne (by omega)).trans (by first | assumption | exact up_eq | exact (up_ne (by omega)).trans (by first | assumption | exact up_eq | exact (up_ne (by omega)).trans (by first | assumption | exact up_eq)))) (by omega) (by exact (Nat.le_of_ble_eq_true rfl)) (by rfl) ?_
  try rw [up_up]
  refine V_aload_n (q := 26) dX8_readDigit_25 rfl rfl rfl ?_
  refine GX8_179 (q := 29) rfl dX8_readDigit_26 rfl (by first | assumption | exact up_eq | exact (up_ne (by omega)).trans (by first | assumption | exact up_eq | exact (up_ne (by omega)).trans (by first | assumption | exact up_eq | exact (up_ne (by omega)).trans (by first | assumption | exact up_eq)))) (by omega) (by rfl) ?_
  refine V_if_eq (q := 32) (tgt := 36) dX8_readDigit_29 (by decide) rfl (fun _ => ?_) (fun h9 => absurd rfl h9)
  refine V_aload_n (q := 37) dX8_readDigit_36 rfl rfl rfl ?_
  refine GX8_44 (q := 40) rfl dX8_readDigit_37 rfl (by first | assumption | exact up_eq | exact (up_ne (by omega)).trans (by first | assumption | exact up_eq | exact (up_ne (by omega)).trans (by first | assumption | exact up_eq | exact (up_ne (by omega)).trans (by first | assumption | exact up_eq)))) (by omega) (by rfl) ?_
  refine V_aload_n (q := 41) dX8_readDigit_40 rfl rfl rfl ?_
  refine GX8_182 (q := 44) rfl dX8_readDigit_41 rfl (by first | assumption | exact up_eq | exact (up_ne (by omega)).trans (by first | assumption | exact up_eq | exact (up_ne (by omega)).trans (by first | assumption | exact up_eq | exact (up_ne (by omega)).trans (by first | assumption | exact up_eq)))) (by omega) (by rfl) ?_
  refine V_topi ha ?_
  refine V_ialdN (q := 45) dX8_readDigit_44 rfl (by first | assumption | exact up_eq | exact (up_ne (by omega)).trans (by first | assumption | exact up_eq | exact (up_ne (by omega)).trans (by first | assumption | exact up_eq | exact (up_ne (by omega)).trans (by first | assumption | exact up_eq)))) (by omega) (by omega) (by omega) rfl e1 ?_
  refine V_bipush (q := 47) (v := nI 48) dX8_readDigit_45 rfl (by decide) ?_
  refine V_isub (q := 48) dX8_readDigit_47 rfl (by first | exact pk_sub (by omega) | rfl) ?_
  refine V_istore_n (q := 49) (ls' := [_, _]) dX8_readDigit_48 rfl (by decide) rfl ?_
  refine V_aload_n (q := 50) dX8_readDigit_49 rfl rfl rfl ?_
  refine V_dup (q := 51) dX8_readDigit_50 rfl rfl ?_
  refine GX8_182 (q := 54) rfl dX8_readDigit_51 rfl (by first | assumption | exact up_eq | exact (up_ne (by omega)).trans (by first | assumption | exact up_eq | exact (up_ne (by omega)).trans (by first | assumption | exact up_eq | exact (up_ne (by omega)).trans (by first | assumption | exact up_eq)))) (by omega) (by rfl) ?_
  refine V_topi ha ?_
  refine V_aload_n (q := 55) dX8_readDigit_54 rfl rfl rfl ?_
  refine GX8_179 (q := 58) rfl dX8_readDigit_55 rfl (by first | assumption | exact up_eq | exact (up_ne (by omega)).trans (by first | assumption | exact up_eq | exact (up_ne (by omega)).trans (by first | assumption | exact up_eq | exact (up_ne (by omega)).trans (by first | assumption | exact up_eq)))) (by omega) (by rfl) ?_
  refine V_if_eq (q := 61) (tgt := 65) dX8_readDigit_58 (by decide) rfl (fun _ => ?_) (fun h9 => absurd rfl h9)
  refine V_iconst (q := 66) (v := nI 1) dX8_readDigit_65 rfl (by decide) ?_
  refine V_iadd (q := 67) dX8_readDigit_66 rfl (by first | exact nI_add _ _ | rfl) ?_
  refine PX8_182 (q := 70) (fs' := [_, _, _, _, _, _, _, _, _, _, _, _, _, _, _, _, _, _, _, _, _, _, _, _, _, _]) rfl dX8_readDigit_67 rfl (by first | assumption | exact up_eq | exact (up_ne (by omega)).trans (by first | assumption | exact up_eq | exact (up_ne (by omega)).trans (by first | assumption | exact up_eq | exact (up_ne (by omega)).trans (by first | assumption | exact up_eq)))) (by omega) (by exact (Nat.le_of_ble_eq_true rfl)) (by rfl) ?_
  try rw [up_up]
  refine V_iload_n (q := 71) dX8_readDigit_70 rfl rfl ?_
  exact V_iret dX8_readDigit_71 rfl (Nat.le_of_ble_eq_true rfl) (Nat.le_of_ble_eq_true rfl) (⟨rfl, _, rfl, rfl, hX.own (K' := setAW K (nI (a + 1)) 0) rfl⟩)
theorem m_digit_no (h : MBd g w n p K F Fs Fb pk Hs C T) (hT : TxK K T tl t) (hw : kWg K = 0) {a : Nat} (ha : kAt K = nI a) (hal : a ≤ tl) (hd : dgA t tl a = none) : CtI g l MX8_readDigit 2 [rf g p] w n (fun y w' => y = 0 ∧ MBd g w' n p (setAW K (nI a) 1) F Fs Fb pk Hs C T ∧ FrM w w' p) := by
  have hX := h
  obtain ⟨h0, -, -, -, -, -, -, hTT, hn, -⟩ := h
  have hT' := hT
  obtain ⟨t1, t2, t3⟩ := hT
  have hq := dgA_no hd
  refine Ct.ofs (M := MX8_readDigit) (ls := [some _, none]) (by decide +kernel) (by exact (Nat.le_of_ble_eq_true rfl)) (by rfl) (by rfl) (by rfl) ?_
  refine V_aload_n (q := 1) dX8_readDigit_0 rfl rfl rfl ?_
  refine V_dup (q := 2) dX8_readDigit_1 rfl rfl ?_
  refine GX8_179 (q := 5) rfl dX8_readDigit_2 rfl (by first | assumption | exact up_eq | exact (up_ne (by omega)).trans (by first | assumption | exact up_eq | exact (up_ne (by omega)).trans (by first | assumption | exact up_eq | exact (up_ne (by omega)).trans (by first | assumption | exact up_eq)))) (by omega) (by rfl) ?_
  refine V_topi hw ?_
  refine V_aload_n (q := 6) dX8_readDigit_5 rfl rfl rfl ?_
  refine V_bipush (q := 8) (v := nI 48) dX8_readDigit_6 rfl (by decide) ?_
  refine V_bipush (q := 10) (v := nI 57) dX8_readDigit_8 rfl (by decide) ?_
  refine CrX8_185 (q := 13) rfl dX8_readDigit_10 rfl (m_sees0 hX hT' hw (lo := 48) (hi := 57) ha hal (by decide) (by decide)) ⟨(Nat.le_of_ble_eq_true rfl), (Nat.le_of_ble_eq_true rfl)⟩ (Nat.le_of_ble_eq_true rfl) (by first | assumption | exact up_eq | exact (up_ne (by omega)).trans (by first | assumption | exact up_eq | exact (up_ne (by omega)).trans (by first | assumption | exact up_eq | exact (up_ne (by omega)).trans (by first | assumption | exact up_eq)))) (by omega) (Nat.zero_le _) (Nat.zero_le _) ?_
  refine V_topi (if_neg hq) ?_
  refine V_if_ne (q := 16) (tgt := 20) dX8_readDigit_13 (by decide) rfl (fun h9 => absurd rfl h9) (fun _ => ?_)
  refine V_iconst (q := 17) (v := nI 1) dX8_readDigit_16 rfl (by decide) ?_
  refine V_goto (tgt := 21) dX8_readDigit_17 (by decide) ?_
  refine V_ior (q := 22) dX8_readDigit_21 rfl (show (0 : Int32) ||| nI 1 = 1 by decide) ?_
  refine PX8_179 (q := 25) (fs' := [_, _, _, _, _, _, _, _, _, _, _, _, _, _, _, _, _, _, _, _, _, _, _, _, _, _]) rfl dX8_readDigit_22 rfl rfl rfl (by first | assumption | exact up_eq | exact (up_ne (by omega)).trans (by first | assumption | exact up_eq | exact (up_ne (by omega)).trans (by first | assumption | exact up_eq | exact (up_ne (by omega)).trans (by first | assumption | exact up_eq)))) (by omega) (by exact (Nat.le_of_ble_eq_true rfl)) (by rfl) ?_
  try rw [up_up]
  refine V_aload_n (q := 26) dX8_readDigit_25 rfl rfl rfl ?_
  refine GX8_179 (q := 29) rfl dX8_readDigit_26 rfl (by first | assumption | exact up_eq | exact (up_ne (by omega)).trans (by first | assumption | exact up_eq | exact (up_ne (by omega)).trans (by first | assumption | exact up_eq | exact (up_ne (by omega)).trans (by first | assumption | exact up_eq)))) (by omega) (by rfl) ?_
  refine V_if_eq (q := 32) (tgt := 36) dX8_readDigit_29 (by decide) rfl (fun h9 => absurd h9 (by decide)) (fun _ => ?_)
  refine V_iconst (q := 33) (v := nI 0) dX8_readDigit_32 rfl (by decide) ?_
  refine V_goto (tgt := 48) dX8_readDigit_33 (by decide) ?_
  refine V_istore_n (q := 49) (ls' := [_, _]) dX8_readDigit_48 rfl (by decide) rfl ?_
  refine V_aload_n (q := 50) dX8_readDigit_49 rfl rfl rfl ?_
  refine V_dup (q := 51) dX8_readDigit_50 rfl rfl ?_
  refine GX8_182 (q := 54) rfl dX8_readDigit_51 rfl (by first | assumption | exact up_eq | exact (up_ne (by omega)).trans (by first | assumption | exact up_eq | exact (up_ne (by omega)).trans (by first | assumption | exact up_eq | exact (up_ne (by omega)).trans (by first | assumption | exact up_eq)))) (by omega) (by rfl) ?_
  refine V_topi ha ?_
  refine V_aload_n (q := 55) dX8_readDigit_54 rfl rfl rfl ?_
  refine GX8_179 (q := 58) rfl dX8_readDigit_55 rfl (by first | assumption | exact up_eq | exact (up_ne (by omega)).trans (by first | assumption | exact up_eq | exact (up_ne (by omega)).trans (by first | assumption | exact up_eq | exact (up_ne (by omega)).trans (by first | assumption | exact up_eq)))) (by omega) (by rfl) ?_
  refine V_if_eq (q := 61) (tgt := 65) dX8_readDigit_58 (by decide) rfl (fun h9 => absurd h9 (by decide)) (fun _ => ?_)
  refine V_iconst (q := 62) (v := nI 0) dX8_readDigit_61 rfl (by decide) ?_
  refine V_goto (tgt := 66) dX8_readDigit_62 (by decide) ?_
  refine V_iadd (q := 67) dX8_readDigit_66 rfl (by first | exact nI_add _ _ | rfl) ?_
  refine PX8_182 (q := 70) (fs' := [_, _, _, _, _, _, _, _, _, _, _, _, _, _, _, _, _, _, _, _, _, _, _, _, _, _]) rfl dX8_readDigit_67 rfl (by first | assumption | exact up_eq | exact (up_ne (by omega)).trans (by first | assumption | exact up_eq | exact (up_ne (by omega)).trans (by first | assumption | exact up_eq | exact (up_ne (by omega)).trans (by first | assumption | exact up_eq)))) (by omega) (by exact (Nat.le_of_ble_eq_true rfl)) (by rfl) ?_
  try rw [up_up]
  refine V_iload_n (q := 71) dX8_readDigit_70 rfl rfl ?_
  exact V_iret dX8_readDigit_71 rfl (Nat.le_of_ble_eq_true rfl) (Nat.le_of_ble_eq_true rfl) (⟨rfl, _, rfl, rfl, hX.own (K' := setAW K (nI a) 1) rfl⟩)
theorem m_digit_off (h : MBd g w n p K F Fs Fb pk Hs C T) (hw : kWg K = 1) {a : Nat} (ha : kAt K = nI a) : CtI g l MX8_readDigit 2 [rf g p] w n (fun y w' => y = 0 ∧ MBd g w' n p (setAW K (nI a) 1) F Fs Fb pk Hs C T ∧ FrM w w' p) := by
  have hX := h
  obtain ⟨h0, -, -, -, -, -, -, hTT, hn, -⟩ := h
  refine Ct.ofs (M := MX8_readDigit) (ls := [some _, none]) (by decide +kernel) (by exact (Nat.le_of_ble_eq_true rfl)) (by rfl) (by rfl) (by rfl) ?_
  refine V_aload_n (q := 1) dX8_readDigit_0 rfl rfl rfl ?_
  refine V_dup (q := 2) dX8_readDigit_1 rfl rfl ?_
  refine GX8_179 (q := 5) rfl dX8_readDigit_2 rfl (by first | assumption | exact up_eq | exact (up_ne (by omega)).trans (by first | assumption | exact up_eq | exact (up_ne (by omega)).trans (by first | assumption | exact up_eq | exact (up_ne (by omega)).trans (by first | assumption | exact up_eq)))) (by omega) (by rfl) ?_
  refine V_topi hw ?_
  refine V_aload_n (q := 6) dX8_readDigit_5 rfl rfl rfl ?_
  refine V_bipush (q := 8) (v := nI 48) dX8_readDigit_6 rfl (by decide) ?_
  refine V_bipush (q := 10) (v := nI 57) dX8_readDigit_8 rfl (by decide) ?_
  refine CrX8_185 (q := 13) rfl dX8_readDigit_10 rfl (m_sees1 hX hw) ⟨(Nat.le_of_ble_eq_true rfl), (Nat.le_of_ble_eq_true rfl)⟩ (Nat.le_of_ble_eq_true rfl) (by first | assumption | exact up_eq | exact (up_ne (by omega)).trans (by first | assumption | exact up_eq | exact (up_ne (by omega)).trans (by first | assumption | exact up_eq | exact (up_ne (by omega)).trans (by first | assumption | exact up_eq)))) (by omega) (Nat.zero_le _) (Nat.zero_le _) ?_
  refine V_if_ne (q := 16) (tgt := 20) dX8_readDigit_13 (by decide) rfl (fun h9 => absurd rfl h9) (fun _ => ?_)
  refine V_iconst (q := 17) (v := nI 1) dX8_readDigit_16 rfl (by decide) ?_
  refine V_goto (tgt := 21) dX8_readDigit_17 (by decide) ?_
  refine V_ior (q := 22) dX8_readDigit_21 rfl (show (1 : Int32) ||| nI 1 = 1 by decide) ?_
  refine PX8_179 (q := 25) (fs' := [_, _, _, _, _, _, _, _, _, _, _, _, _, _, _, _, _, _, _, _, _, _, _, _, _, _]) rfl dX8_readDigit_22 rfl rfl rfl (by first | assumption | exact up_eq | exact (up_ne (by omega)).trans (by first | assumption | exact up_eq | exact (up_ne (by omega)).trans (by first | assumption | exact up_eq | exact (up_ne (by omega)).trans (by first | assumption | exact up_eq)))) (by omega) (by exact (Nat.le_of_ble_eq_true rfl)) (by rfl) ?_
  try rw [up_up]
  refine V_aload_n (q := 26) dX8_readDigit_25 rfl rfl rfl ?_
  refine GX8_179 (q := 29) rfl dX8_readDigit_26 rfl (by first | assumption | exact up_eq | exact (up_ne (by omega)).trans (by first | assumption | exact up_eq | exact (up_ne (by omega)).trans (by first | assumption | exact up_eq | exact (up_ne (by omega)).trans (by first | assumption | exact up_eq)))) (by omega) (by rfl) ?_
  refine V_if_eq (q := 32) (tgt := 36) dX8_readDigit_29 (by decide) rfl (fun h9 => absurd h9 (by decide)) (fun _ => ?_)
  refine V_iconst (q := 33) (v := nI 0) dX8_readDigit_32 rfl (by decide) ?_
  refine V_goto (tgt := 48) dX8_readDigit_33 (by decide) ?_
  refine V_istore_n (q := 49) (ls' := [_, _]) dX8_readDigit_48 rfl (by decide) rfl ?_
  refine V_aload_n (q := 50) dX8_readDigit_49 rfl rfl rfl ?_
  refine V_dup (q := 51) dX8_readDigit_50 rfl rfl ?_
  refine GX8_182 (q := 54) rfl dX8_readDigit_51 rfl (by first | assumption | exact up_eq | exact (up_ne (by omega)).trans (by first | assumption | exact up_eq | exact (up_ne (by omega)).trans (by first | assumption | exact up_eq | exact (up_ne (by omega)).trans (by first | assumption | exact up_eq)))) (by omega) (by rfl) ?_
  refine V_topi ha ?_
  refine V_aload_n (q := 55) dX8_readDigit_54 rfl rfl rfl ?_
  refine GX8_179 (q := 58) rfl dX8_readDigit_55 rfl (by first | assumption | exact up_eq | exact (up_ne (by omega)).trans (by first | assumption | exact up_eq | exact (up_ne (by omega)).trans (by first | assumption | exact up_eq | exact (up_ne (by omega)).trans (by first | assumption | exact up_eq)))) (by omega) (by rfl) ?_
  refine V_if_eq (q := 61) (tgt := 65) dX8_readDigit_58 (by decide) rfl (fun h9 => absurd h9 (by decide)) (fun _ => ?_)
  refine V_iconst (q := 62) (v := nI 0) dX8_readDigit_61 rfl (by decide) ?_
  refine V_goto (tgt := 66) dX8_readDigit_62 (by decide) ?_
  refine V_iadd (q := 67) dX8_readDigit_66 rfl (by first | exact nI_add _ _ | rfl) ?_
  refine PX8_182 (q := 70) (fs' := [_, _, _, _, _, _, _, _, _, _, _, _, _, _, _, _, _, _, _, _, _, _, _, _, _, _]) rfl dX8_readDigit_67 rfl (by first | assumption | exact up_eq | exact (up_ne (by omega)).trans (by first | assumption | exact up_eq | exact (up_ne (by omega)).trans (by first | assumption | exact up_eq | exact (up_ne (by omega)).trans (by first | assumption | exact up_eq)))) (by omega) (by exact (Nat.le_of_ble_eq_true rfl)) (by rfl) ?_
  try rw [up_up]
  refine V_iload_n (q := 71) dX8_readDigit_70 rfl rfl ?_
  exact V_iret dX8_readDigit_71 rfl (Nat.le_of_ble_eq_true rfl) (Nat.le_of_ble_eq_true rfl) (⟨rfl, _, rfl, rfl, hX.own (K' := setAW K (nI a) 1) rfl⟩)
end MT
