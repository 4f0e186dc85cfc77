/-! the model: the commands of a text counted -/
def cntN (t : Nat → Nat) (tl : Nat) : Nat → Nat → Nat
  | 0, _ => 0
  | f + 1, i => if nxN t tl i = tl then 1 else cntN t tl f (nxN t tl i + 1) + 1
theorem fltN_bad {t : Nat → Nat} {tl f i : Nat} (h : bdN t tl i = 1) : fltN t tl (f + 1) i = some (nxN t tl i) := by
  rw [fltN, if_pos]
  unfold bdN at h
  split at h
  next q => exact q
  next => cases h
theorem fltN_ok {t : Nat → Nat} {tl f i : Nat} (h : bdN t tl i = 0) : fltN t tl (f + 1) i = if nxN t tl i = tl then none else if t (nxN t tl i) = 59 then fltN t tl f (nxN t tl i + 1) else some (nxN t tl i) := by
  rw [fltN, if_neg]
  unfold bdN at h
  split at h
  next => cases h
  next q => exact q
theorem bdN_01 (t : Nat → Nat) (tl i : Nat) : bdN t tl i = 0 ∨ bdN t tl i = 1 := by
  unfold bdN
  split
  · exact Or.inr rfl
  · exact Or.inl rfl
def CcQ (g : GG) (n p : Nat) (F Fs Fb : Nat → Int32) (pk : Nat) (Hs : Nat → StT) (C T : Nat → Int32) (w0 : HW) (K0 : MS) (r : Option Nat) (m : Nat) (y : Int32) (w' : HW) : Prop := ∃ (A B : Nat) (b c d e : Int32), Rk g n p F Fs Fb pk Hs C T w0 K0 (nI A) b c d e (nI B) w' ∧ (∀ q, r = some q → A = q ∧ B = 1) ∧ (r = none → B = 0 ∧ y = nI m)
section MT
variable {g : GG} {l : Launch} {w0 : HW} {n p : Nat} {K0 : MS} {F Fs Fb C T : Nat → Int32} {pk : Nat} {Hs : Nat → StT} {tl : Nat} {t : Nat → Nat}
theorem m_ccLoop (hT : TxK K0 T tl t) : ∀ f i k w1, i ≤ tl → tl < i + f → RcQ g n p F Fs Fb pk Hs C T w0 K0 t tl i 0 w1 → V g l MX8_countCommands (rmd 8 0 0) (FinM g (qI (CcQ g n p F Fs Fb pk Hs C T w0 K0 (fltN t tl f i) (k + cntN t tl f i)) n) 0 0) 16 [some (rf g p), some (.int (nI (k + 1)))] [] (w1) n 0 0 := by
  have htl := hT.2.1
  intro f
  induction f with
  | zero => intro i k w1 a1 a2; omega
  | succ f ih =>
    intro i k w1 a1 a2 hQ
    obtain ⟨A, B, b, c, d, e, hR, q1, -⟩ := hQ
    obtain ⟨rfl, rfl, q3⟩ := q1 rfl
    obtain ⟨K1, m1, f1, b1, e1, e2, e3, e4, e5, e6⟩ := hR
    have c1 := m1.1
    have hn := m1.2.2.2.2.2.2.2.2.1
    have t1 := (hT.bas b1).1
    have nx := nxN_le (t := t) a1
    have bd := bdN_01 t tl i
    have fb := fltN_bad (t := t) (tl := tl) (f := f) (i := i)
    have fo := fltN_ok (t := t) (tl := tl) (f := f) (i := i)
    have cn : cntN t tl (f + 1) i = if nxN t tl i = tl then 1 else cntN t tl f (nxN t tl i + 1) + 1 := rfl
    have nx0 : i ≤ nxN t tl i := by unfold nxN; omega
    generalize nxN t tl i = A at e1 nx fb fo cn nx0
    generalize bdN t tl i = B at e6 bd fb fo
    rcases bd with rfl | rfl
    · rw [fo rfl, cn]
      refine V_aload_n (q := 17) dX8_countCommands_16 rfl rfl rfl ?_
      refine GX8_179 (q := 20) rfl dX8_countCommands_17 rfl (by first | assumption | exact up_eq | exact (up_ne (by omega)).trans (by first | assumption | exact up_eq | exact (up_ne (by omega)).trans (by first | assumption | exact up_eq | exact (up_ne (by omega)).trans (by first | assumption | exact up_eq)))) (by omega) (by rfl) ?_
      refine V_topi e6 ?_
      refine V_ifN_ne (q := 23) (tgt := 85) dX8_countCommands_20 (by decide) rfl (by omega) (fun h9 => by first | exact h9.elim | exact absurd h9 (by assumption) | (exfalso; omega)) (fun _ => ?_)
      refine V_aload_n (q := 24) dX8_countCommands_23 rfl rfl rfl ?_
      refine GX8_182 (q := 27) rfl dX8_countCommands_24 rfl (by first | assumption | exact up_eq | exact (up_ne (by omega)).trans (by first | assumption | exact up_eq | exact (up_ne (by omega)).trans (by first | assumption | exact up_eq | exact (up_ne (by omega)).trans (by first | assumption | exact up_eq)))) (by omega) (by rfl) ?_
      refine V_topi e1 ?_
      refine V_aload_n (q := 28) dX8_countCommands_27 rfl rfl rfl ?_
      refine GX8_176 (q := 31) rfl dX8_countCommands_28 rfl (by first | assumption | exact up_eq | exact (up_ne (by omega)).trans (by first | assumption | exact up_eq | exact (up_ne (by omega)).trans (by first | assumption | exact up_eq | exact (up_ne (by omega)).trans (by first | assumption | exact up_eq)))) (by omega) (by rfl) ?_
      refine V_topi t1 ?_
      refine V_icmpN_ge (q := 34) (tgt := 85) dX8_countCommands_31 (by decide) rfl (by omega) (by omega) (fun hq => ?_) (fun hq => ?_)
      · skip
        have hA : A = tl := by omega
        rw [if_pos hA, if_pos hA]
        refine V_iload_n (q := 86) dX8_countCommands_85 rfl rfl ?_
        exact V_iret dX8_countCommands_86 rfl (Nat.le_of_ble_eq_true rfl) (Nat.le_of_ble_eq_true rfl) (⟨rfl, _, rfl, A, 0, _, _, _, _, ⟨K1, m1, f1, b1, e1, rfl, rfl, rfl, rfl, e6⟩, fun q z => by (cases z), fun _ => ⟨rfl, rfl⟩⟩)
      · skip
        rw [if_neg (show ¬ A = tl by omega), if_neg (show ¬ A = tl by omega)]
        refine V_aload_n (q := 35) dX8_countCommands_34 rfl rfl rfl ?_
        refine V_aload_n (q := 36) dX8_countCommands_35 rfl rfl rfl ?_
        refine V_bipush (q := 38) (v := nI 59) dX8_countCommands_36 rfl (by decide) ?_
        refine V_bipush (q := 40) (v := nI 59) dX8_countCommands_38 rfl (by decide) ?_
        refine CrX8_185 (q := 43) rfl dX8_countCommands_40 rfl (m_sees0 m1 (hT.bas b1) (e6.trans nI_0'.symm) (a := A) (lo := 59) (hi := 59) e1 nx (by decide) (by decide)) ⟨(Nat.le_of_ble_eq_true rfl), (Nat.le_of_ble_eq_true rfl)⟩ (Nat.le_of_ble_eq_true rfl) (by first | assumption | exact up_eq | exact (up_ne (by omega)).trans (by first | assumption | exact up_eq | exact (up_ne (by omega)).trans (by first | assumption | exact up_eq | exact (up_ne (by omega)).trans (by first | assumption | exact up_eq)))) (by omega) (Nat.zero_le _) (Nat.zero_le _) ?_
        by_cases h59 : t A = 59
        · rw [if_pos h59]
          refine V_topi (if_pos ⟨hq, by omega, by omega⟩) ?_
          refine V_if_ne (q := 46) (tgt := 50) dX8_countCommands_43 (by decide) rfl (fun _ => ?_) (fun h9 => absurd h9 (by decide))
          refine V_iconst (q := 51) (v := nI 0) dX8_countCommands_50 rfl (by decide) ?_
          refine PX8_179 (q := 54) (fs' := [_, _, _, _, _, _, _, _, _, _, _, _, _, _, _, _, _, _, _, _, _, _, _, _, _, _]) rfl dX8_countCommands_51 rfl rfl rfl (by first | assumption | exact up_eq | exact (up_ne (by omega)).trans (by first | assumption | exact up_eq | exact (up_ne (by omega)).trans (by first | assumption | exact up_eq | exact (up_ne (by omega)).trans (by first | assumption | exact up_eq)))) (by omega) (by exact (Nat.le_of_ble_eq_true rfl)) (by rfl) ?_
          try rw [up_up]
          refine V_rk m1 f1 b1 (kAt K1) (kWh K1) (kOn K1) (kOt K1) (kTh K1) (nI 0) (fun w2 r2 => ?_)
          obtain ⟨K2, m2, f2, b2, g1, g2, g3, g4, g5, g6⟩ := r2
          have c2 := m2.1
          refine V_aload_n (q := 55) dX8_countCommands_54 rfl rfl rfl ?_
          refine V_dup (q := 56) dX8_countCommands_55 rfl rfl ?_
          refine GX8_182 (q := 59) rfl dX8_countCommands_56 rfl (by first | assumption | exact up_eq | exact (up_ne (by omega)).trans (by first | assumption | exact up_eq | exact (up_ne (by omega)).trans (by first | assumption | exact up_eq | exact (up_ne (by omega)).trans (by first | assumption | exact up_eq)))) (by omega) (by rfl) ?_
          refine V_topi (g1.trans e1) ?_
          refine V_aload_n (q := 60) dX8_countCommands_59 rfl rfl rfl ?_
          refine GX8_179 (q := 63) rfl dX8_countCommands_60 rfl (by first | assumption | exact up_eq | exact (up_ne (by omega)).trans (by first | assumption | exact up_eq | exact (up_ne (by omega)).trans (by first | assumption | exact up_eq | exact (up_ne (by omega)).trans (by first | assumption | exact up_eq)))) (by omega) (by rfl) ?_
          refine V_topi g6 ?_
          refine V_if_eq (q := 66) (tgt := 70) dX8_countCommands_63 (by decide) rfl (fun _ => ?_) (fun h9 => absurd rfl h9)
          refine V_iconst (q := 71) (v := nI 1) dX8_countCommands_70 rfl (by decide) ?_
          refine V_iadd (q := 72) dX8_countCommands_71 rfl (by first | exact nI_add _ _ | rfl) ?_
          refine PX8_182 (q := 75) (fs' := [_, _, _, _, _, _, _, _, _, _, _, _, _, _, _, _, _, _, _, _, _, _, _, _, _, _]) rfl dX8_countCommands_72 rfl (by first | assumption | exact up_eq | exact (up_ne (by omega)).trans (by first | assumption | exact up_eq | exact (up_ne (by omega)).trans (by first | assumption | exact up_eq | exact (up_ne (by omega)).trans (by first | assumption | exact up_eq)))) (by omega) (by exact (Nat.le_of_ble_eq_true rfl)) (by rfl) ?_
          try rw [up_up]
          refine V_rk m2 f2 b2 (nI (A + 1)) (kWh K2) (kOn K2) (kOt K2) (kTh K2) (kWg K2) (fun w3 r3 => ?_)
          obtain ⟨K3, m3, f3, b3, j1, j2, j3, j4, j5, j6⟩ := r3
          have c3 := m3.1
          refine V_aload_n (q := 76) dX8_countCommands_75 rfl rfl rfl ?_
          refine CvX8_213 (q := 79) rfl dX8_countCommands_76 rfl (m_readCommand (x := 0) (a := A + 1) hT (by decide) (by omega) ⟨K3, m3, f3, b3, j1, rfl, rfl, rfl, rfl, j6.trans g6⟩) ⟨(Nat.le_of_ble_eq_true rfl), (Nat.le_of_ble_eq_true rfl)⟩ (Nat.le_of_ble_eq_true rfl) (by first | assumption | exact up_eq | exact (up_ne (by omega)).trans (by first | assumption | exact up_eq | exact (up_ne (by omega)).trans (by first | assumption | exact up_eq | exact (up_ne (by omega)).trans (by first | assumption | exact up_eq)))) (by omega) (Nat.zero_le _) (Nat.zero_le _) (fun w4 hw4 => ?_)
          refine V_iinc (q := 82) (ls' := [_, _]) dX8_countCommands_79 rfl (by decide) rfl (by first | exact inc1 _ | rfl) rfl ?_
          refine V_goto (tgt := 16) dX8_countCommands_82 (by decide) ?_
          have := ih (A + 1) (k + 1) w4 (by omega) (by omega) hw4
          rw [show k + 1 + cntN t tl f (A + 1) = k + (cntN t tl f (A + 1) + 1) by omega] at this
          exact this
        · rw [if_neg h59]
          refine V_topi (if_neg (fun z => h59 (by omega))) ?_
          refine V_if_ne (q := 46) (tgt := 50) dX8_countCommands_43 (by decide) rfl (fun h9 => absurd rfl h9) (fun _ => ?_)
          refine V_iconst (q := 47) (v := nI 1) dX8_countCommands_46 rfl (by decide) ?_
          refine V_goto (tgt := 51) dX8_countCommands_47 (by decide) ?_
          refine PX8_179 (q := 54) (fs' := [_, _, _, _, _, _, _, _, _, _, _, _, _, _, _, _, _, _, _, _, _, _, _, _, _, _]) rfl dX8_countCommands_51 rfl rfl rfl (by first | assumption | exact up_eq | exact (up_ne (by omega)).trans (by first | assumption | exact up_eq | exact (up_ne (by omega)).trans (by first | assumption | exact up_eq | exact (up_ne (by omega)).trans (by first | assumption | exact up_eq)))) (by omega) (by exact (Nat.le_of_ble_eq_true rfl)) (by rfl) ?_
          try rw [up_up]
          refine V_rk m1 f1 b1 (kAt K1) (kWh K1) (kOn K1) (kOt K1) (kTh K1) (nI 1) (fun w2 r2 => ?_)
          obtain ⟨K2, m2, f2, b2, g1, g2, g3, g4, g5, g6⟩ := r2
          have c2 := m2.1
          refine V_aload_n (q := 55) dX8_countCommands_54 rfl rfl rfl ?_
          refine V_dup (q := 56) dX8_countCommands_55 rfl rfl ?_
          refine GX8_182 (q := 59) rfl dX8_countCommands_56 rfl (by first | assumption | exact up_eq | exact (up_ne (by omega)).trans (by first | assumption | exact up_eq | exact (up_ne (by omega)).trans (by first | assumption | exact up_eq | exact (up_ne (by omega)).trans (by first | assumption | exact up_eq)))) (by omega) (by rfl) ?_
          refine V_topi (g1.trans e1) ?_
          refine V_aload_n (q := 60) dX8_countCommands_59 rfl rfl rfl ?_
          refine GX8_179 (q := 63) rfl dX8_countCommands_60 rfl (by first | assumption | exact up_eq | exact (up_ne (by omega)).trans (by first | assumption | exact up_eq | exact (up_ne (by omega)).trans (by first | assumption | exact up_eq | exact (up_ne (by omega)).trans (by first | assumption | exact up_eq)))) (by omega) (by rfl) ?_
          refine V_topi g6 ?_
          refine V_if_eq (q := 66) (tgt := 70) dX8_countCommands_63 (by decide) rfl (fun h9 => absurd h9 (by decide)) (fun _ => ?_)
          refine V_iconst (q := 67) (v := nI 0) dX8_countCommands_66 rfl (by decide) ?_
          refine V_goto (tgt := 71) dX8_countCommands_67 (by decide) ?_
          refine V_iadd (q := 72) dX8_countCommands_71 rfl (by first | exact nI_add _ _ | rfl) ?_
          refine PX8_182 (q := 75) (fs' := [_, _, _, _, _, _, _, _, _, _, _, _, _, _, _, _, _, _, _, _, _, _, _, _, _, _]) rfl dX8_countCommands_72 rfl (by first | assumption | exact up_eq | exact (up_ne (by omega)).trans (by first | assumption | exact up_eq | exact (up_ne (by omega)).trans (by first | assumption | exact up_eq | exact (up_ne (by omega)).trans (by first | assumption | exact up_eq)))) (by omega) (by exact (Nat.le_of_ble_eq_true rfl)) (by rfl) ?_
          try rw [up_up]
          refine V_rk m2 f2 b2 (nI A) (kWh K2) (kOn K2) (kOt K2) (kTh K2) (kWg K2) (fun w3 r3 => ?_)
          obtain ⟨K3, m3, f3, b3, j1, j2, j3, j4, j5, j6⟩ := r3
          have c3 := m3.1
          refine V_aload_n (q := 76) dX8_countCommands_75 rfl rfl rfl ?_
          refine CvX8_213 (q := 79) rfl dX8_countCommands_76 rfl (m_readCommand (x := 1) (a := A) hT (by decide) nx ⟨K3, m3, f3, b3, j1, rfl, rfl, rfl, rfl, j6.trans g6⟩) ⟨(Nat.le_of_ble_eq_true rfl), (Nat.le_of_ble_eq_true rfl)⟩ (Nat.le_of_ble_eq_true rfl) (by first | assumption | exact up_eq | exact (up_ne (by omega)).trans (by first | assumption | exact up_eq | exact (up_ne (by omega)).trans (by first | assumption | exact up_eq | exact (up_ne (by omega)).trans (by first | assumption | exact up_eq)))) (by omega) (Nat.zero_le _) (Nat.zero_le _) (fun w4 hw4 => ?_)
          obtain ⟨A4, B4, b4, c4, d4, e4, hR4, -, q5⟩ := hw4
          obtain ⟨rfl, rfl⟩ := q5 rfl
          have hR4' := hR4
          obtain ⟨K4, m4, f4, b4, u1, u2, u3, u4, u5, u6⟩ := hR4
          have c4' := m4.1
          refine V_iinc (q := 82) (ls' := [_, _]) dX8_countCommands_79 rfl (by decide) rfl (by first | exact inc1 _ | rfl) rfl ?_
          refine V_goto (tgt := 16) dX8_countCommands_82 (by decide) ?_
          refine V_aload_n (q := 17) dX8_countCommands_16 rfl rfl rfl ?_
          refine GX8_179 (q := 20) rfl dX8_countCommands_17 rfl (by first | assumption | exact up_eq | exact (up_ne (by omega)).trans (by first | assumption | exact up_eq | exact (up_ne (by omega)).trans (by first | assumption | exact up_eq | exact (up_ne (by omega)).trans (by first | assumption | exact up_eq)))) (by omega) (by rfl) ?_
          refine V_topi u6 ?_
          refine V_if_ne (q := 23) (tgt := 85) dX8_countCommands_20 (by decide) rfl (fun _ => ?_) (fun h9 => absurd h9 (by decide))
          refine V_iload_n (q := 86) dX8_countCommands_85 rfl rfl ?_
          exact V_iret dX8_countCommands_86 rfl (Nat.le_of_ble_eq_true rfl) (Nat.le_of_ble_eq_true rfl) (⟨rfl, _, rfl, A4, 1, _, _, _, _, hR4', fun q z => ⟨by (cases z; rfl), rfl⟩, fun z => by (cases z)⟩)
    · rw [fb rfl]
      refine V_aload_n (q := 17) dX8_countCommands_16 rfl rfl rfl ?_
      refine GX8_179 (q := 20) rfl dX8_countCommands_17 rfl (by first | assumption | exact up_eq | exact (up_ne (by omega)).trans (by first | assumption | exact up_eq | exact (up_ne (by omega)).trans (by first | assumption | exact up_eq | exact (up_ne (by omega)).trans (by first | assumption | exact up_eq)))) (by omega) (by rfl) ?_
      refine V_topi e6 ?_
      refine V_if_ne (q := 23) (tgt := 85) dX8_countCommands_20 (by decide) rfl (fun _ => ?_) (fun h9 => absurd h9 (by decide))
      refine V_iload_n (q := 86) dX8_countCommands_85 rfl rfl ?_
      exact V_iret dX8_countCommands_86 rfl (Nat.le_of_ble_eq_true rfl) (Nat.le_of_ble_eq_true rfl) (⟨rfl, _, rfl, A, 1, _, _, _, _, ⟨K1, m1, f1, b1, e1, rfl, rfl, rfl, rfl, e6⟩, fun q z => ⟨by (cases z; rfl), rfl⟩, fun z => by (cases z)⟩)
theorem m_countCommands (h : MBd g w0 n p K0 F Fs Fb pk Hs C T) (hT : TxK K0 T tl t) {f : Nat} (hf : tl < f) : CtI g l MX8_countCommands 8 [rf g p] w0 n (CcQ g n p F Fs Fb pk Hs C T w0 K0 (fltN t tl f 0) (cntN t tl f 0)) := by
  have c0 := h.1
  have hn := h.2.2.2.2.2.2.2.2.1
  refine Ct.ofs (M := MX8_countCommands) (ls := [some _, none]) (by decide +kernel) (by exact (Nat.le_of_ble_eq_true rfl)) (by rfl) (by rfl) (by rfl) ?_
  refine V_aload_n (q := 1) dX8_countCommands_0 rfl rfl rfl ?_
  refine V_iconst (q := 2) (v := nI 0) dX8_countCommands_1 rfl (by decide) ?_
  refine PX8_182 (q := 5) (fs' := [_, _, _, _, _, _, _, _, _, _, _, _, _, _, _, _, _, _, _, _, _, _, _, _, _, _]) rfl dX8_countCommands_2 rfl (by first | assumption | exact up_eq | exact (up_ne (by omega)).trans (by first | assumption | exact up_eq | exact (up_ne (by omega)).trans (by first | assumption | exact up_eq | exact (up_ne (by omega)).trans (by first | assumption | exact up_eq)))) (by omega) (by exact (Nat.le_of_ble_eq_true rfl)) (by rfl) ?_
  try rw [up_up]
  refine V_rk h FrM.rf rfl (nI 0) (kWh K0) (kOn K0) (kOt K0) (kTh K0) (kWg K0) (fun w2 r2 => ?_)
  obtain ⟨K2, m2, f2, b2, g1, g2, g3, g4, g5, g6⟩ := r2
  have c2 := m2.1
  refine V_aload_n (q := 6) dX8_countCommands_5 rfl rfl rfl ?_
  refine V_iconst (q := 7) (v := nI 0) dX8_countCommands_6 rfl (by decide) ?_
  refine PX8_179 (q := 10) (fs' := [_, _, _, _, _, _, _, _, _, _, _, _, _, _, _, _, _, _, _, _, _, _, _, _, _, _]) rfl dX8_countCommands_7 rfl rfl rfl (by first | assumption | exact up_eq | exact (up_ne (by omega)).trans (by first | assumption | exact up_eq | exact (up_ne (by omega)).trans (by first | assumption | exact up_eq | exact (up_ne (by omega)).trans (by first | assumption | exact up_eq)))) (by omega) (by exact (Nat.le_of_ble_eq_true rfl)) (by rfl) ?_
  try rw [up_up]
  refine V_rk m2 f2 b2 (kAt K2) (kWh K2) (kOn K2) (kOt K2) (kTh K2) (nI 0) (fun w3 r3 => ?_)
  obtain ⟨K3, m3, f3, b3, j1, j2, j3, j4, j5, j6⟩ := r3
  have c3 := m3.1
  refine V_iconst (q := 11) (v := nI 1) dX8_countCommands_10 rfl (by decide) ?_
  refine V_istore_n (q := 12) (ls' := [_, _]) dX8_countCommands_11 rfl (by decide) rfl ?_
  refine V_aload_n (q := 13) dX8_countCommands_12 rfl rfl rfl ?_
  refine CvX8_213 (q := 16) rfl dX8_countCommands_13 rfl (m_readCommand (x := 0) (a := 0) hT (by decide) (Nat.zero_le _) ⟨K3, m3, f3, b3, j1.trans g1, rfl, rfl, rfl, rfl, j6⟩) ⟨(Nat.le_of_ble_eq_true rfl), (Nat.le_of_ble_eq_true rfl)⟩ (Nat.le_of_ble_eq_true rfl) (by first | assumption | exact up_eq | exact (up_ne (by omega)).trans (by first | assumption | exact up_eq | exact (up_ne (by omega)).trans (by first | assumption | exact up_eq | exact (up_ne (by omega)).trans (by first | assumption | exact up_eq)))) (by omega) (Nat.zero_le _) (Nat.zero_le _) (fun w4 hw4 => ?_)
  have := m_ccLoop (l := l) hT f 0 0 w4 (Nat.zero_le _) (by omega) hw4
  rw [Nat.zero_add] at this
  exact this
end MT
