/-! the model: read -/
section MRD
variable {g : GG} {l : Launch} {w : HW} {n p : Nat} {K : MS} {F Fs Fb C T : Nat → Int32} {pk : Nat} {Hs : Nat → StT} {tl f : Nat} {t : Nat → Nat} {N : StT} {X : XT}
theorem cntN_le {t : Nat → Nat} {tl : Nat} : ∀ f i, cntN t tl f i ≤ f
  | 0, i => Nat.le_refl 0
  | f + 1, i => by
    have := cntN_le (t := t) (tl := tl) f (nxN t tl i + 1)
    rw [cntN]
    split <;> omega
theorem m_read_bad (h : MBd g w n p K F Fs Fb pk Hs C T) (hT : TxK K T tl t) (hf : tl < f) {q : Nat} (hq : fltN t tl f 0 = some q) : CtI g l MX8_read 9 [rf g p] w n (fun y w' => y = -100 - nI q ∧ (∃ K', MBd g w' n p K' F Fs Fb pk Hs C T ∧ rf3 K' = rf3 K ∧ kSv K' = kSv K ∧ kIn K' = kIn K ∧ kWr K' = kWr K ∧ kRd K' = nI 0) ∧ FrM w w' p) := by
  have hX := h
  have h0 := h.1
  have hn := h.2.2.2.2.2.2.2.2.1
  refine Ct.ofs (M := MX8_read) (ls := [some _, none, none, none]) (by decide +kernel) (by exact (Nat.le_of_ble_eq_true rfl)) (by rfl) (by rfl) (by rfl) ?_
  refine V_aload_n (q := 1) dX8_read_0 rfl rfl rfl ?_
  refine CiX8_243 (q := 4) rfl dX8_read_1 rfl (m_countCommands hX hT hf) ⟨(Nat.le_of_ble_eq_true rfl), (Nat.le_of_ble_eq_true rfl)⟩ (Nat.le_of_ble_eq_true rfl) (by first | assumption | exact up_eq | exact (up_ne (by omega)).trans (by first | assumption | exact up_eq | exact (up_ne (by omega)).trans (by first | assumption | exact up_eq | exact (up_ne (by omega)).trans (by first | assumption | exact up_eq)))) (by omega) (Nat.zero_le _) (Nat.zero_le _) (fun y w1 hw1 => ?_)
  obtain ⟨A, B, b, c, d, e, hR, q1, -⟩ := hw1
  obtain ⟨rfl, rfl⟩ := q1 q hq
  obtain ⟨K1, m1, f1, b1, e1, e2, e3, e4, e5, e6⟩ := hR
  have c1 := m1.1
  refine V_istore_n (q := 5) (ls' := [_, _, _, _]) dX8_read_4 rfl (by decide) rfl ?_
  refine V_aload_n (q := 6) dX8_read_5 rfl rfl rfl ?_
  refine GX8_179 (q := 9) rfl dX8_read_6 rfl (by first | assumption | exact up_eq | exact (up_ne (by omega)).trans (by first | assumption | exact up_eq | exact (up_ne (by omega)).trans (by first | assumption | exact up_eq | exact (up_ne (by omega)).trans (by first | assumption | exact up_eq)))) (by omega) (by rfl) ?_
  refine V_topi e6 ?_
  refine V_if_eq (q := 12) (tgt := 25) dX8_read_9 (by decide) rfl (fun h9 => absurd h9 (by decide)) (fun _ => ?_)
  refine V_aload_n (q := 13) dX8_read_12 rfl rfl rfl ?_
  refine V_iconst (q := 14) (v := nI 0) dX8_read_13 rfl (by decide) ?_
  refine PX8_176 (q := 17) (fs' := [_, _, _, _, _, _, _, _, _, _, _, _, _, _, _, _, _, _, _, _, _, _, _, _, _, _]) rfl dX8_read_14 rfl (by first | assumption | exact up_eq | exact (up_ne (by omega)).trans (by first | assumption | exact up_eq | exact (up_ne (by omega)).trans (by first | assumption | exact up_eq | exact (up_ne (by omega)).trans (by first | assumption | exact up_eq)))) (by omega) (by exact (Nat.le_of_ble_eq_true rfl)) (by rfl) ?_
  try rw [up_up]
  refine V_ownE (K' := setRd K1 (nI 0)) m1 rfl (fun w2 K2 hK2 m2 f2 => ?_)
  have c2 := m2.1
  have g2 : kAt K2 = kAt K1 ∧ rf3 K2 = rf3 K1 ∧ kSv K2 = kSv K1 ∧ kIn K2 = kIn K1 ∧ kWr K2 = kWr K1 ∧ kRd K2 = nI 0 := by rw [hK2]; exact ⟨rfl, rfl, rfl, rfl, rfl, rfl⟩
  refine V_bipush (q := 19) (v := (-100)) dX8_read_17 rfl (by decide) ?_
  refine V_aload_n (q := 20) dX8_read_19 rfl rfl rfl ?_
  refine GX8_182 (q := 23) rfl dX8_read_20 rfl (by first | assumption | exact up_eq | exact (up_ne (by omega)).trans (by first | assumption | exact up_eq | exact (up_ne (by omega)).trans (by first | assumption | exact up_eq | exact (up_ne (by omega)).trans (by first | assumption | exact up_eq)))) (by omega) (by rfl) ?_
  refine V_topi (g2.1.trans e1) ?_
  refine V_isub (q := 24) dX8_read_23 rfl rfl ?_
  exact V_iret dX8_read_24 rfl (Nat.le_of_ble_eq_true rfl) (Nat.le_of_ble_eq_true rfl) (⟨rfl, _, rfl, rfl, ⟨K2, m2, g2.2.1.trans (congrArg (fun q => (q.2.1, q.2.2.1, q.2.2.2.1)) b1), g2.2.2.1.trans (congrArg (fun q => q.2.2.2.2.2.1) b1), g2.2.2.2.1.trans (congrArg (fun q => q.2.2.2.2.2.2.1) b1), g2.2.2.2.2.1.trans (congrArg (fun q => q.2.2.2.2.2.2.2.2.1) b1), g2.2.2.2.2.2⟩, f1.tr f2⟩)
theorem m_read_ok (h : MBd g w n p K F Fs Fb pk Hs C T) (hI : kIn K = 0) (hR : RN F N) (hb : sB N + 4000 < 2 ^ 30) (hT : TxK K T tl t) (hf : tl < f) (hf2 : f < 100) (hq : fltN t tl f 0 = none) : CtI g l MX8_read 9 [rf g p] w n (MRQ g w n p K Fs pk Hs C T N (sB N + 900) (runN t tl N f 0 0 N)) := by
  have hX := h
  have h0 := h.1
  have hn := h.2.2.2.2.2.2.2.2.1
  have hcl := cntN_le (t := t) (tl := tl) f 0
  refine Ct.ofs (M := MX8_read) (ls := [some _, none, none, none]) (by decide +kernel) (by exact (Nat.le_of_ble_eq_true rfl)) (by rfl) (by rfl) (by rfl) ?_
  refine V_aload_n (q := 1) dX8_read_0 rfl rfl rfl ?_
  refine CiX8_243 (q := 4) rfl dX8_read_1 rfl (m_countCommands hX hT hf) ⟨(Nat.le_of_ble_eq_true rfl), (Nat.le_of_ble_eq_true rfl)⟩ (Nat.le_of_ble_eq_true rfl) (by first | assumption | exact up_eq | exact (up_ne (by omega)).trans (by first | assumption | exact up_eq | exact (up_ne (by omega)).trans (by first | assumption | exact up_eq | exact (up_ne (by omega)).trans (by first | assumption | exact up_eq)))) (by omega) (Nat.zero_le _) (Nat.zero_le _) (fun y w1 hw1 => ?_)
  obtain ⟨A, B, b, c, d, e, hR1, -, q2⟩ := hw1
  obtain ⟨rfl, rfl⟩ := q2 hq
  obtain ⟨K1, m1, f1, b1, e1, e2, e3, e4, e5, e6⟩ := hR1
  have c1 := m1.1
  refine V_istore_n (q := 5) (ls' := [_, _, _, _]) dX8_read_4 rfl (by decide) rfl ?_
  refine V_aload_n (q := 6) dX8_read_5 rfl rfl rfl ?_
  refine GX8_179 (q := 9) rfl dX8_read_6 rfl (by first | assumption | exact up_eq | exact (up_ne (by omega)).trans (by first | assumption | exact up_eq | exact (up_ne (by omega)).trans (by first | assumption | exact up_eq | exact (up_ne (by omega)).trans (by first | assumption | exact up_eq)))) (by omega) (by rfl) ?_
  refine V_topi e6 ?_
  refine V_if_eq (q := 12) (tgt := 25) dX8_read_9 (by decide) rfl (fun _ => ?_) (fun h9 => absurd rfl h9)
  refine V_aload_n (q := 26) dX8_read_25 rfl rfl rfl ?_
  refine GX8_9 (q := 29) rfl dX8_read_26 rfl (by first | assumption | exact up_eq | exact (up_ne (by omega)).trans (by first | assumption | exact up_eq | exact (up_ne (by omega)).trans (by first | assumption | exact up_eq | exact (up_ne (by omega)).trans (by first | assumption | exact up_eq)))) (by omega) (by rfl) ?_
  refine V_aload_n (q := 30) dX8_read_29 rfl rfl rfl ?_
  refine GX8_16 (q := 33) rfl dX8_read_30 rfl (by first | assumption | exact up_eq | exact (up_ne (by omega)).trans (by first | assumption | exact up_eq | exact (up_ne (by omega)).trans (by first | assumption | exact up_eq | exact (up_ne (by omega)).trans (by first | assumption | exact up_eq)))) (by omega) (by rfl) ?_
  refine CvX8_63 (q := 36) rfl dX8_read_33 rfl (m_copyRow m1.2.1 m1.2.2.2.1 (by omega) (by omega) (by omega)) ⟨(Nat.le_of_ble_eq_true rfl), (Nat.le_of_ble_eq_true rfl)⟩ (Nat.le_of_ble_eq_true rfl) (Nat.zero_le _) (Nat.zero_le _) (fun w2 hw2 => ?_)
  obtain ⟨A', hA', hw⟩ := hw2
  have m2 := m1.bef (F' := A')
  rw [← hw] at m2
  obtain ⟨m2, f2⟩ := m2
  have c2 := m2.1
  refine V_aload_n (q := 37) dX8_read_36 rfl rfl rfl ?_
  refine V_iconst (q := 38) (v := nI 1) dX8_read_37 rfl (by decide) ?_
  refine PX8_53 (q := 41) (fs' := [_, _, _, _, _, _, _, _, _, _, _, _, _, _, _, _, _, _, _, _, _, _, _, _, _, _]) rfl dX8_read_38 rfl rfl rfl (by first | assumption | exact up_eq | exact (up_ne (by omega)).trans (by first | assumption | exact up_eq | exact (up_ne (by omega)).trans (by first | assumption | exact up_eq | exact (up_ne (by omega)).trans (by first | assumption | exact up_eq)))) (by omega) (by exact (Nat.le_of_ble_eq_true rfl)) (by rfl) ?_
  try rw [up_up]
  refine V_ownE (K' := setIn K1 (nI 1)) m2 rfl (fun w3 K3 hK3 m3 f3 => ?_)
  have c3 := m3.1
  have g3 : fx K3 = fx K1 ∧ kIn K3 = nI 1 ∧ kWg K3 = kWg K1 := by rw [hK3]; exact ⟨rfl, rfl, rfl⟩
  refine V_iconst (q := 42) (v := nI 0) dX8_read_41 rfl (by decide) ?_
  refine V_istore_n (q := 43) (ls' := [_, _, _, _]) dX8_read_42 rfl (by decide) rfl ?_
  refine V_aload_n (q := 44) dX8_read_43 rfl rfl rfl ?_
  refine V_iconst (q := 45) (v := nI 0) dX8_read_44 rfl (by decide) ?_
  refine PX8_182 (q := 48) (fs' := [_, _, _, _, _, _, _, _, _, _, _, _, _, _, _, _, _, _, _, _, _, _, _, _, _, _]) rfl dX8_read_45 rfl (by first | assumption | exact up_eq | exact (up_ne (by omega)).trans (by first | assumption | exact up_eq | exact (up_ne (by omega)).trans (by first | assumption | exact up_eq | exact (up_ne (by omega)).trans (by first | assumption | exact up_eq)))) (by omega) (by exact (Nat.le_of_ble_eq_true rfl)) (by rfl) ?_
  try rw [up_up]
  refine V_rk m3 ((f1.tr f2).tr f3) rfl (nI 0) (kWh K3) (kOn K3) (kOt K3) (kTh K3) (kWg K3) (fun w4 r4 => ?_)
  obtain ⟨K4, m4, f4, b4, v1, v2, v3, v4, v5, v6⟩ := r4
  have x4 : fx K4 = fx K := by
    have a1 := congrArg (fun q => (q.2.1, q.2.2.1, q.2.2.2.1, q.2.2.2.2.2.1, q.2.2.2.2.2.2.2.2.1, q.2.2.2.2.2.2.2.2.2)) b4
    have a2 := congrArg (fun q => (q.2.1, q.2.2.1, q.2.2.2.1, q.2.2.2.2.2.1, q.2.2.2.2.2.2.2.2.1, q.2.2.2.2.2.2.2.2.2)) b1
    have a1 : fx K4 = fx K3 := a1
    have a2 : fx K1 = fx K := a2
    exact a1.trans (g3.1.trans a2)
  have in4 : kIn K4 = 1 := (congrArg (fun q => q.2.2.2.2.2.2.1) b4).trans g3.2.1
  refine V_iconst (q := 49) (v := nI 0) dX8_read_48 rfl (by decide) ?_
  refine V_istore_n (q := 50) (ls' := [_, _, _, _]) dX8_read_49 rfl (by decide) rfl ?_
  exact m_rdLoop (l := l) (w := w) (Bm := sB N + 900) hT (hR.cong hA') (Nat.le_add_right _ _) (m := cntN t tl f 0) (by omega) f 0 0 N F w4 0 K4 (Nat.zero_le _) (by omega) hq (Nat.zero_add _) (by omega) (by omega) hR m4 f4 x4 in4 v1 (v6.trans (g3.2.2.trans e6)) (by decide)
theorem Y_read (h : MW g w n p X) (hb : sB (xN X) + 4000 < 2 ^ 30) : CtI g l MX8_read 9 [rf g p] w n (fun y w' => MP g w n p (reaA X) y w' ∧ sB (xN (reaA X).2) ≤ sB (xN X) + 900) := by
  obtain ⟨K, F, Fs, Fb, C, T, h⟩ := h
  obtain ⟨hX, hR, hSv, hsv, hH, hIn, hL, hT, hRf⟩ := id h
  have hTx : TxK K T (xT X).1 (xT X).2 := hT
  unfold reaA
  obtain ⟨f, hf⟩ : ∃ f, f = 71 := ⟨_, rfl⟩
  have hf1 : (xT X).1 < f := by have := hT.2.1; omega
  rw [← hf]
  cases hq : fltN (xT X).2 (xT X).1 f 0 with
  | some q =>
    refine (m_read_bad hX hTx hf1 hq).mono (fun v w' n' z => ?_)
    obtain ⟨z1, y, z2, z3, ⟨K', z4, z5, z6, z7, z8, z9⟩, z10⟩ := z
    obtain ⟨r1, r2, r3, r4⟩ := hRf
    have i1 : kRe K' = kRe K := congrArg (fun q => q.1) z5
    have i2 : kDe K' = kDe K := congrArg (fun q => q.2.1) z5
    have i3 : kIT K' = kIT K := congrArg (fun q => q.2.2) z5
    refine ⟨z1, y, z2, ⟨z3, ⟨K', F, Fs, Fb, C, T, z4, hR, hSv, z6.trans hsv, hH, z7.trans hIn, ⟨z8.trans hL.1, hL.2⟩, ⟨z9, Nat.zero_le _, fun i hi => absurd hi (Nat.not_lt_zero i)⟩, ?_⟩, z10⟩, Nat.le_add_right _ _⟩
    refine ⟨i1.trans r1, i2.trans r2, rfl, fun z => ?_⟩
    rw [i3]
    exact r4 z
  | none =>
    refine (m_read_ok hX hIn hR hb hTx hf1 (by omega) hq).mono (fun v w' n' z => ?_)
    obtain ⟨z1, y, z2, z3, zB, ⟨K', F', Fb', pk', Hs', k1, k2, k3, k4, k5, k6, k7, k8⟩, z10⟩ := z
    generalize runN (xT X).2 (xT X).1 (xN X) f 0 0 (xN X) = res at z3 zB k2 k7 k8 ⊢
    refine ⟨z1, y, z2, ⟨z3, ?_, z10⟩, zB⟩
    obtain ⟨r1, r2, r3, r4⟩ := hRf
    have hrf : RfR K' (rfC (xR X) (-4) res.2.2) := by
      cases hd : res.2.2 with
      | none =>
        rw [hd] at k7
        have i1 : kRe K' = kRe K := congrArg (fun q => q.1) k7
        have i2 : kDe K' = kDe K := congrArg (fun q => q.2.1) k7
        have i3 : kIT K' = kIT K := congrArg (fun q => q.2.2) k7
        refine ⟨i1.trans r1, i2.trans r2, rfl, fun z => ?_⟩
        rw [i3]
        exact r4 z
      | some q =>
        rw [hd] at k7
        obtain ⟨k7, i, hi, hqi⟩ := k7
        have i1 : kRe K' = q.1 := congrArg (fun q => q.1) k7
        have i2 : kDe K' = q.2.1 := congrArg (fun q => q.2.1) k7
        have i3 : kIT K' = q.2.2 := congrArg (fun q => q.2.2) k7
        exact ⟨i1, i2, rfl, fun _ => Or.inr ⟨by rw [i3, hqi]; exact nI_pos hi, i3.symm⟩⟩
    have hmw : ∀ PP : Nat × (Nat → StT), (pk', Hs') = PP → MW g w' n p (res.2.1, xS X, xH X, PP, xL X, (0, (xT X).2), rfC (xR X) (-4) res.2.2) := by
      rintro PP rfl
      exact ⟨K', F', Fs, Fb', C, T, k1, k2, hSv, k3.trans hsv, hH, k4, ⟨k5.trans hL.1, hL.2⟩, ⟨k6, Nat.zero_le _, fun i hi => absurd hi (Nat.not_lt_zero i)⟩, hrf⟩
    exact hmw _ k8
end MRD
