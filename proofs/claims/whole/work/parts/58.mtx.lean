/-! texts: what a command wants, and what the model makes of it -/
def setTx (K : MS) (a b c d e x : Int32) : MS := (kKp K, kRe K, kDe K, kIT K, kCm K, kSv K, kIn K, kLn K, kWr K, kRd K, a, b, c, d, e, x)
def bdN (t : Nat → Nat) (tl i : Nat) : Nat := if dN t tl i = 0 ∨ dN t tl i < wAN t tl i then 1 else 0
/-- a digit read: its value, the place behind it, whether it is wrong -/
def rdA (t : Nat → Nat) (tl a x : Nat) : Nat × Nat × Nat := if x = 0 then (match dgA t tl a with | some d => (d, a + 1, 0) | none => (0, a, 1)) else (0, a, 1)
def CmdF (b c d e : Int32) (t : Nat → Nat) (tl a : Nat) : Prop := (wAN t tl a = 0 → b = nI 48 ∧ c = nI (numN t a (dgs t tl a 8)) ∧ d = nI (dgs t tl a 8)) ∧ (0 < wAN t tl a → b = nI (t a) ∧ c = tI (dgA t tl (a + 1))) ∧ (wAN t tl a = 3 → d = tI (dgA t tl (a + 2)) ∧ e = tI (dgA t tl (a + 3)))
section PT
variable {t : Nat → Nat} {tl a m k x : Nat}
theorem dgs_tl (ha : a ≤ tl) (hk : k ≤ dgs t tl a m) : a + k ≤ tl := by
  rcases Nat.eq_zero_or_pos k with z | z
  · omega
  · have := (dgs_dig (t := t) (tl := tl) (s := a) (m := m) (k := k - 1) (by omega)).1
    omega
theorem dgA_lt {d : Nat} (h : dgA t tl a = some d) : a < tl ∧ d < 10 ∧ 48 ≤ t a ∧ t a ≤ 57 := by
  unfold dgA at h
  by_cases q : a < tl ∧ 48 ≤ t a ∧ t a ≤ 57
  · rw [if_pos q] at h
    cases h
    omega
  · rw [if_neg q] at h
    cases h
theorem rd_no (h : dgA t tl a = none) : rdA t tl a 0 = (0, a, 1) := by
  unfold rdA
  rw [if_pos rfl, h]
theorem rd_yes {d : Nat} (h : dgA t tl a = some d) : rdA t tl a 0 = (d, a + 1, 0) := by
  unfold rdA
  rw [if_pos rfl, h]
theorem rd_off : rdA t tl a 1 = (0, a, 1) := if_neg (by decide)
theorem rd_le (ha : a ≤ tl) (hx : x ≤ 1) : (rdA t tl a x).2.1 ≤ tl ∧ (rdA t tl a x).2.2 ≤ 1 ∧ (rdA t tl a x).1 < 10 := by
  by_cases h : x = 0
  · subst h
    cases hd : dgA t tl a with
    | none => rw [rd_no hd]; exact ⟨ha, Nat.le_refl 1, Nat.succ_pos 9⟩
    | some d =>
      have := dgA_lt hd
      rw [rd_yes hd]
      exact ⟨this.1, Nat.zero_le 1, this.2.1⟩
  · obtain rfl : x = 1 := by omega
    rw [rd_off]
    exact ⟨ha, Nat.le_refl 1, Nat.succ_pos 9⟩
theorem want_dig {c : Nat} (h1 : 48 ≤ c) (h2 : c ≤ 57) : wantN c = 0 := by
  unfold wantN
  rw [if_neg (by omega), if_neg (by omega)]
theorem wA_in (h : a < tl) : wAN t tl a = wantN (t a) := by
  unfold wAN cdA
  rw [if_pos h]
  rfl
theorem wA_out (h : ¬ a < tl) : wAN t tl a = 0 := by
  unfold wAN cdA
  rw [if_neg h]
  rfl
theorem rc_zero (h : wAN t tl a = 0) : ltN t tl a = 0 ∧ dN t tl a = dgs t tl a 8 ∧ nxN t tl a = a + dgs t tl a 8 := by
  have e1 : ltN t tl a = 0 := by unfold ltN; rw [if_neg (by omega)]
  have e2 : dN t tl a = dgs t tl a 8 := by unfold dN; rw [e1, if_neg (by omega), Nat.add_zero]
  refine ⟨e1, e2, ?_⟩
  unfold nxN
  rw [e1, e2, Nat.zero_add]
theorem rc_pos (h : 0 < wAN t tl a) : ltN t tl a = 1 ∧ dN t tl a = dgs t tl (a + 1) (wAN t tl a) ∧ nxN t tl a = a + (1 + dgs t tl (a + 1) (wAN t tl a)) := by
  have e1 : ltN t tl a = 1 := by unfold ltN; rw [if_pos h]
  have e2 : dN t tl a = dgs t tl (a + 1) (wAN t tl a) := by unfold dN; rw [e1, if_pos h]
  refine ⟨e1, e2, ?_⟩
  unfold nxN
  rw [e1, e2]
theorem dgs_no (h : dgA t tl a = none) : dgs t tl a m = 0 := dgs_is (Nat.zero_le _) (fun i hi => absurd hi (Nat.not_lt_zero i)) (fun _ => h)
theorem dgs_yes (h : dgA t tl a ≠ none) (hm : 0 < m) : 0 < dgs t tl a m := by
  rcases Nat.eq_zero_or_pos (dgs t tl a m) with z | z
  · have := dgs_end (t := t) (tl := tl) (s := a) (m := m) (by omega)
    rw [z] at this
    exact absurd this h
  · exact z
theorem dgs_1 {d : Nat} (h : dgA t tl a = some d) : dgs t tl a 1 = 1 := by
  have h1 := dgs_le t tl a 1
  have h2 := dgs_yes (t := t) (tl := tl) (a := a) (m := 1) (by rw [h]; exact fun z => by cases z) (by decide)
  omega
theorem bd_is {D W : Nat} (h1 : dN t tl a = D) (h2 : wAN t tl a = W) : bdN t tl a = if D = 0 ∨ D < W then 1 else 0 := by
  unfold bdN
  rw [h1, h2]
theorem rc_one (ha : a < tl) (hw : wantN (t a) = 1) {r : Nat × Nat × Nat} (hr : r = rdA t tl (a + 1) 0) : nxN t tl a = r.2.1 ∧ bdN t tl a = r.2.2 ∧ (bdN t tl a = 0 → nI r.1 = tI (dgA t tl (a + 1))) := by
  have hW : wAN t tl a = 1 := (wA_in ha).trans hw
  obtain ⟨e1, e2, e3⟩ := rc_pos (t := t) (tl := tl) (a := a) (by omega)
  rw [hW] at e2 e3
  cases hd : dgA t tl (a + 1) with
  | none =>
    rw [rd_no hd] at hr
    rw [dgs_no hd] at e2 e3
    have hb : bdN t tl a = 1 := by rw [bd_is e2 hW]; rfl
    rw [hr, e3, hb]
    exact ⟨rfl, rfl, fun z => by cases z⟩
  | some d =>
    rw [rd_yes hd] at hr
    rw [dgs_1 hd] at e2 e3
    have hb : bdN t tl a = 0 := by rw [bd_is e2 hW]; rfl
    rw [hr, e3, hb]
    exact ⟨rfl, rfl, fun _ => rfl⟩
theorem rc_three (ha : a < tl) (hw : wantN (t a) = 3) {r r2 r3 : Nat × Nat × Nat} (hr : r = rdA t tl (a + 1) 0) (hr2 : r2 = rdA t tl r.2.1 r.2.2) (hr3 : r3 = rdA t tl r2.2.1 r2.2.2) : nxN t tl a = r3.2.1 ∧ bdN t tl a = r3.2.2 ∧ (bdN t tl a = 0 → nI r.1 = tI (dgA t tl (a + 1)) ∧ nI r2.1 = tI (dgA t tl (a + 2)) ∧ nI r3.1 = tI (dgA t tl (a + 3))) := by
  have hW : wAN t tl a = 3 := (wA_in ha).trans hw
  obtain ⟨e1, e2, e3⟩ := rc_pos (t := t) (tl := tl) (a := a) (by omega)
  rw [hW] at e2 e3
  cases hd : dgA t tl (a + 1) with
  | none =>
    rw [rd_no hd] at hr
    rw [hr] at hr2
    have hr2 := hr2.trans rd_off
    rw [hr2] at hr3
    have hr3 := hr3.trans rd_off
    rw [dgs_no hd] at e2 e3
    have hb : bdN t tl a = 1 := by rw [bd_is e2 hW]; rfl
    rw [hr3, e3, hb]
    exact ⟨rfl, rfl, fun z => by cases z⟩
  | some d =>
    rw [rd_yes hd] at hr
    rw [hr] at hr2
    have hr2 : r2 = rdA t tl (a + 2) 0 := hr2
    cases hd2 : dgA t tl (a + 2) with
    | none =>
      rw [rd_no hd2] at hr2
      rw [hr2] at hr3
      have hr3 := hr3.trans rd_off
      have hs : dgs t tl (a + 1) 3 = 1 := dgs_is (by decide) (fun i hi => by
        have z : i = 0 := by omega
        rw [z, Nat.add_zero, hd]
        exact fun z => by cases z) (fun _ => hd2)
      rw [hs] at e2 e3
      have hb : bdN t tl a = 1 := by rw [bd_is e2 hW]; rfl
      rw [hr3, e3, hb]
      exact ⟨rfl, rfl, fun z => by cases z⟩
    | some d2 =>
      rw [rd_yes hd2] at hr2
      rw [hr2] at hr3
      have hr3 : r3 = rdA t tl (a + 3) 0 := hr3
      have two : ∀ i, i < 2 → dgA t tl (a + 1 + i) ≠ none := by
        intro i hi
        rcases (by omega : i = 0 ∨ i = 1) with z | z
        · rw [z, Nat.add_zero, hd]; exact fun z => by cases z
        · rw [z, show a + 1 + 1 = a + 2 from rfl, hd2]; exact fun z => by cases z
      cases hd3 : dgA t tl (a + 3) with
      | none =>
        rw [rd_no hd3] at hr3
        have hs : dgs t tl (a + 1) 3 = 2 := dgs_is (by decide) two (fun _ => hd3)
        rw [hs] at e2 e3
        have hb : bdN t tl a = 1 := by rw [bd_is e2 hW]; rfl
        rw [hr3, e3, hb]
        exact ⟨rfl, rfl, fun z => by cases z⟩
      | some d3 =>
        rw [rd_yes hd3] at hr3
        have hs : dgs t tl (a + 1) 3 = 3 := dgs_is (by decide) (fun i hi => by
          by_cases z : i < 2
          · exact two i z
          · obtain rfl : i = 2 := by omega
            rw [show a + 1 + 2 = a + 3 from rfl, hd3]
            exact fun z => by cases z) (fun z => absurd z (by decide))
        rw [hs] at e2 e3
        have hb : bdN t tl a = 0 := by rw [bd_is e2 hW]; rfl
        rw [hr3, hr2, hr, e3, hb]
        exact ⟨rfl, rfl, fun _ => ⟨rfl, rfl, rfl⟩⟩
theorem want_13 (c : Nat) (h : 0 < wantN c) : (c = 115 ∧ wantN c = 3) ∨ (c ≠ 115 ∧ wantN c = 1) := by
  unfold wantN at h ⊢
  by_cases z : c = 115
  · rw [if_pos z]; exact Or.inl ⟨z, rfl⟩
  · rw [if_neg z] at h ⊢
    by_cases y : c = 120 ∨ c = 116 ∨ c = 108 ∨ c = 98 ∨ c = 106 ∨ c = 99 ∨ c = 114
    · rw [if_pos y]; exact Or.inr ⟨z, rfl⟩
    · rw [if_neg y] at h; omega
end PT
section MT
variable {g : GG} {l : Launch} {w : HW} {n p : Nat} {K K' : MS} {F Fs Fb C T : Nat → Int32} {pk : Nat} {Hs : Nat → StT} {tl : Nat} {t : Nat → Nat} {M : MI} {R : Room} {FN : FinT} {pc : Nat} {ls : LO} {st : List Value} {cs sl : Nat}
theorem V_own (h : MBd g w n p K F Fs Fb pk Hs C T) (hk : kKp K' = kKp K) (k : ∀ w1, MBd g w1 n p K' F Fs Fb pk Hs C T → FrM w w1 p → V g l M R FN pc ls st w1 n cs sl) : V g l M R FN pc ls st (va_up w p (eO 8 (mfs g p K'))) n cs sl := k _ (h.own hk).1 (h.own hk).2
theorem m_digit (h : MBd g w n p K F Fs Fb pk Hs C T) (hT : TxK K T tl t) {x : Nat} (hx : x ≤ 1) (hw : kWg K = nI x) {a : Nat} (ha : kAt K = nI a) (hal : a ≤ tl) : CtI g l MX8_readDigit 2 [rf g p] w n (fun y w' => y = nI (rdA t tl a x).1 ∧ MBd g w' n p (setAW K (nI (rdA t tl a x).2.1) (nI (rdA t tl a x).2.2)) F Fs Fb pk Hs C T ∧ FrM w w' p) := by
  by_cases hx0 : x = 0
  · subst hx0
    cases hd : dgA t tl a with
    | none =>
      rw [rd_no hd]
      exact m_digit_no h hT (hw.trans nI_0'.symm) ha hal hd
    | some d =>
      rw [rd_yes hd]
      exact m_digit_yes h hT (hw.trans nI_0'.symm) ha hal hd
  · obtain rfl : x = 1 := by omega
    rw [rd_off]
    exact m_digit_off h hw ha
def bas (K : MS) : Int32 × Int32 × Int32 × Int32 × Int32 × Int32 × Int32 × Int32 × Int32 × Int32 := (kKp K, kRe K, kDe K, kIT K, kCm K, kSv K, kIn K, kLn K, kWr K, kRd K)
/-- the model's world while it reads: its six fields of reading, all others as K0 has them -/
def Rk (g : GG) (n p : Nat) (F Fs Fb : Nat → Int32) (pk : Nat) (Hs : Nat → StT) (C T : Nat → Int32) (w0 : HW) (K0 : MS) (a b c d e x : Int32) (w1 : HW) : Prop := ∃ K1, MBd g w1 n p K1 F Fs Fb pk Hs C T ∧ FrM w0 w1 p ∧ bas K1 = bas K0 ∧ kAt K1 = a ∧ kWh K1 = b ∧ kOn K1 = c ∧ kOt K1 = d ∧ kTh K1 = e ∧ kWg K1 = x
theorem TxK.bas {K0 K1 : MS} (hT : TxK K0 T tl t) (hb : bas K1 = bas K0) : TxK K1 T tl t := ⟨(congrArg (fun q => q.2.2.2.2.2.2.2.2.2) hb).trans hT.1, hT.2⟩
theorem V_rk {w0 w1 : HW} {K0 K1 : MS} (m1 : MBd g w1 n p K1 F Fs Fb pk Hs C T) (f1 : FrM w0 w1 p) (b1 : bas K1 = bas K0) (a b c d e x : Int32) (k : ∀ w2, Rk g n p F Fs Fb pk Hs C T w0 K0 a b c d e x w2 → V g l M R FN pc ls st w2 n cs sl) : V g l M R FN pc ls st (va_up w1 p (eO 8 (mfs g p (setTx K1 a b c d e x)))) n cs sl := by
  have q := m1.own (K' := setTx K1 a b c d e x) rfl
  exact k _ ⟨setTx K1 a b c d e x, q.1, f1.tr q.2, b1, rfl, rfl, rfl, rfl, rfl, rfl⟩
theorem r_digit {w0 w1 : HW} {K0 K1 : MS} (m1 : MBd g w1 n p K1 F Fs Fb pk Hs C T) (f1 : FrM w0 w1 p) (b1 : bas K1 = bas K0) (hT : TxK K0 T tl t) {x : Nat} (hx : x ≤ 1) (hw : kWg K1 = nI x) {a : Nat} (ha : kAt K1 = nI a) (hal : a ≤ tl) : CtI g l MX8_readDigit 2 [rf g p] w1 n (fun y w2 => y = nI (rdA t tl a x).1 ∧ Rk g n p F Fs Fb pk Hs C T w0 K0 (nI (rdA t tl a x).2.1) (kWh K1) (kOn K1) (kOt K1) (kTh K1) (nI (rdA t tl a x).2.2) w2) := by
  refine (m_digit m1 (hT.bas b1) hx hw ha hal).mono (fun v w' n' q => ?_)
  obtain ⟨q1, y, q2, q3, q4, q5⟩ := q
  exact ⟨q1, y, q2, q3, ⟨_, q4, f1.tr q5, b1, rfl, rfl, rfl, rfl, rfl, rfl⟩⟩
theorem r_digit_yes {w0 w1 : HW} {K0 K1 : MS} (m1 : MBd g w1 n p K1 F Fs Fb pk Hs C T) (f1 : FrM w0 w1 p) (b1 : bas K1 = bas K0) (hT : TxK K0 T tl t) (hw : kWg K1 = 0) {a d : Nat} (ha : kAt K1 = nI a) (hal : a ≤ tl) (hd : dgA t tl a = some d) : CtI g l MX8_readDigit 2 [rf g p] w1 n (fun y w2 => y = nI d ∧ Rk g n p F Fs Fb pk Hs C T w0 K0 (nI (a + 1)) (kWh K1) (kOn K1) (kOt K1) (kTh K1) 0 w2) := by
  refine (m_digit_yes m1 (hT.bas b1) hw ha hal hd).mono (fun v w' n' q => ?_)
  obtain ⟨q1, y, q2, q3, q4, q5⟩ := q
  exact ⟨q1, y, q2, q3, ⟨_, q4, f1.tr q5, b1, rfl, rfl, rfl, rfl, rfl, rfl⟩⟩
theorem r_digit_off {w0 w1 : HW} {K0 K1 : MS} (m1 : MBd g w1 n p K1 F Fs Fb pk Hs C T) (f1 : FrM w0 w1 p) (b1 : bas K1 = bas K0) (hw : kWg K1 = 1) {a : Nat} (ha : kAt K1 = nI a) : CtI g l MX8_readDigit 2 [rf g p] w1 n (fun y w2 => y = 0 ∧ Rk g n p F Fs Fb pk Hs C T w0 K0 (nI a) (kWh K1) (kOn K1) (kOt K1) (kTh K1) 1 w2) := by
  refine (m_digit_off m1 hw ha).mono (fun v w' n' q => ?_)
  obtain ⟨q1, y, q2, q3, q4, q5⟩ := q
  exact ⟨q1, y, q2, q3, ⟨_, q4, f1.tr q5, b1, rfl, rfl, rfl, rfl, rfl, rfl⟩⟩
theorem m_rrStep {w0 w1 : HW} {K0 : MS} {b e : Int32} (hT : TxK K0 T tl t) {A N0 N1 k dv : Nat} {PP : HW → Prop} (hR : Rk g n p F Fs Fb pk Hs C T w0 K0 (nI A) b (nI N0) (nI k) e 0 w1) (hd : dgA t tl A = some dv) (hnum : nI (10 * N0) + nI dv = nI N1) (hk : k < 8) (hA : A ≤ tl) (ih : ∀ w4, Rk g n p F Fs Fb pk Hs C T w0 K0 (nI (A + 1)) b (nI N1) (nI (k + 1)) e 0 w4 → V g l MX8_readRow (rmd 3 0 0) (FinM g (qV PP n) 0 0) 10 [some (rf g p)] [] (w4) n 0 0) : V g l MX8_readRow (rmd 3 0 0) (FinM g (qV PP n) 0 0) 10 [some (rf g p)] [] (w1) n 0 0 := by
  obtain ⟨K1, m1, f1, b1, e1, e2, e3, e4, e5, e6⟩ := hR
  have c1 := m1.1
  have hn := m1.2.2.2.2.2.2.2.2.1
  have hy := (dgA_yes hd).1
  refine V_aload_n (q := 11) dX8_readRow_10 rfl rfl rfl ?_
  refine GX8_191 (q := 14) rfl dX8_readRow_11 rfl (by first | assumption | exact up_eq | exact (up_ne (by omega)).trans (by first | assumption | exact up_eq | exact (up_ne (by omega)).trans (by first | assumption | exact up_eq | exact (up_ne (by omega)).trans (by first | assumption | exact up_eq)))) (by omega) (by rfl) ?_
  refine V_topi e4 ?_
  refine V_bipush (q := 16) (v := nI 8) dX8_readRow_14 rfl (by decide) ?_
  refine V_icmpN_ge (q := 19) (tgt := 59) dX8_readRow_16 (by decide) rfl (by omega) (by omega) (fun h9 => by first | exact h9.elim | exact absurd h9 (by assumption) | (exfalso; omega)) (fun _ => ?_)
  refine V_aload_n (q := 20) dX8_readRow_19 rfl rfl rfl ?_
  refine V_bipush (q := 22) (v := nI 48) dX8_readRow_20 rfl (by decide) ?_
  refine V_bipush (q := 24) (v := nI 57) dX8_readRow_22 rfl (by decide) ?_
  refine CrX8_185 (q := 27) rfl dX8_readRow_24 rfl (m_sees0 m1 (hT.bas b1) e6 (a := A) (lo := 48) (hi := 57) e1 hA (by decide) (by decide)) ⟨(Nat.le_of_ble_eq_true rfl), (Nat.le_of_ble_eq_true rfl)⟩ (Nat.le_of_ble_eq_true rfl) (by first | assumption | exact up_eq | exact (up_ne (by omega)).trans (by first | assumption | exact up_eq | exact (up_ne (by omega)).trans (by first | assumption | exact up_eq | exact (up_ne (by omega)).trans (by first | assumption | exact up_eq)))) (by omega) (Nat.zero_le _) (Nat.zero_le _) ?_
  refine V_topi (if_pos hy) ?_
  refine V_if_eq (q := 30) (tgt := 59) dX8_readRow_27 (by decide) rfl (fun h9 => absurd h9 (by decide)) (fun _ => ?_)
  refine V_aload_n (q := 31) dX8_readRow_30 rfl rfl rfl ?_
  refine V_bipush (q := 33) (v := nI 10) dX8_readRow_31 rfl (by decide) ?_
  refine V_aload_n (q := 34) dX8_readRow_33 rfl rfl rfl ?_
  refine GX8_188 (q := 37) rfl dX8_readRow_34 rfl (by first | assumption | exact up_eq | exact (up_ne (by omega)).trans (by first | assumption | exact up_eq | exact (up_ne (by omega)).trans (by first | assumption | exact up_eq | exact (up_ne (by omega)).trans (by first | assumption | exact up_eq)))) (by omega) (by rfl) ?_
  refine V_topi e3 ?_
  refine V_imul (q := 38) dX8_readRow_37 rfl (by first | exact pk_mul _ _ | rfl) ?_
  refine V_aload_n (q := 39) dX8_readRow_38 rfl rfl rfl ?_
  refine CiX8_194 (q := 42) rfl dX8_readRow_39 rfl (r_digit_yes m1 f1 b1 hT e6 (a := A) (d := dv) e1 hA hd) ⟨(Nat.le_of_ble_eq_true rfl), (Nat.le_of_ble_eq_true rfl)⟩ (Nat.le_of_ble_eq_true rfl) (by first | assumption | exact up_eq | exact (up_ne (by omega)).trans (by first | assumption | exact up_eq | exact (up_ne (by omega)).trans (by first | assumption | exact up_eq | exact (up_ne (by omega)).trans (by first | assumption | exact up_eq)))) (by omega) (Nat.zero_le _) (Nat.zero_le _) (fun y w2 hw2 => ?_)
  obtain ⟨rfl, K2, m2, f2, b2, g1, g2, g3, g4, g5, g6⟩ := hw2
  have c2 := m2.1
  refine V_iadd (q := 43) dX8_readRow_42 rfl hnum ?_
  refine PX8_188 (q := 46) (fs' := [_, _, _, _, _, _, _, _, _, _, _, _, _, _, _, _, _, _, _, _, _, _, _, _, _, _]) rfl dX8_readRow_43 rfl (by first | assumption | exact up_eq | exact (up_ne (by omega)).trans (by first | assumption | exact up_eq | exact (up_ne (by omega)).trans (by first | assumption | exact up_eq | exact (up_ne (by omega)).trans (by first | assumption | exact up_eq)))) (by omega) (by exact (Nat.le_of_ble_eq_true rfl)) (by rfl) ?_
  try rw [up_up]
  refine V_rk m2 f2 b2 (kAt K2) (kWh K2) (nI N1) (kOt K2) (kTh K2) (kWg K2) (fun w3 r3 => ?_)
  obtain ⟨K3, m3, f3, b3, i1, i2, i3, i4, i5, i6⟩ := r3
  have c3 := m3.1
  refine V_aload_n (q := 47) dX8_readRow_46 rfl rfl rfl ?_
  refine V_dup (q := 48) dX8_readRow_47 rfl rfl ?_
  refine GX8_191 (q := 51) rfl dX8_readRow_48 rfl (by first | assumption | exact up_eq | exact (up_ne (by omega)).trans (by first | assumption | exact up_eq | exact (up_ne (by omega)).trans (by first | assumption | exact up_eq | exact (up_ne (by omega)).trans (by first | assumption | exact up_eq)))) (by omega) (by rfl) ?_
  refine V_topi (i4.trans (g4.trans e4)) ?_
  refine V_iconst (q := 52) (v := nI 1) dX8_readRow_51 rfl (by decide) ?_
  refine V_iadd (q := 53) dX8_readRow_52 rfl (by first | exact nI_add _ _ | rfl) ?_
  refine PX8_191 (q := 56) (fs' := [_, _, _, _, _, _, _, _, _, _, _, _, _, _, _, _, _, _, _, _, _, _, _, _, _, _]) rfl dX8_readRow_53 rfl (by first | assumption | exact up_eq | exact (up_ne (by omega)).trans (by first | assumption | exact up_eq | exact (up_ne (by omega)).trans (by first | assumption | exact up_eq | exact (up_ne (by omega)).trans (by first | assumption | exact up_eq)))) (by omega) (by exact (Nat.le_of_ble_eq_true rfl)) (by rfl) ?_
  try rw [up_up]
  refine V_rk m3 f3 b3 (kAt K3) (kWh K3) (kOn K3) (nI (k + 1)) (kTh K3) (kWg K3) (fun w4 r4 => ?_)
  obtain ⟨K4, m4, f4, b4, j1, j2, j3, j4, j5, j6⟩ := r4
  refine V_goto (tgt := 10) dX8_readRow_56 (by decide) ?_
  exact ih w4 ⟨K4, m4, f4, b4, j1.trans (i1.trans g1), j2.trans (i2.trans (g2.trans e2)), j3.trans i3, j4, j5.trans (i5.trans (g5.trans e5)), j6.trans (i6.trans g6)⟩
theorem m_rrEnd {w0 w1 : HW} {K0 : MS} {b e : Int32} (hT : TxK K0 T tl t) {A N0 k : Nat} {PP : HW → Prop} (hR : Rk g n p F Fs Fb pk Hs C T w0 K0 (nI A) b (nI N0) (nI k) e 0 w1) (hk : k ≤ 8) (hd : k < 8 → dgA t tl A = none) (hA : A ≤ tl) (hP : PP w1) : V g l MX8_readRow (rmd 3 0 0) (FinM g (qV PP n) 0 0) 10 [some (rf g p)] [] (w1) n 0 0 := by
  obtain ⟨K1, m1, f1, b1, e1, e2, e3, e4, e5, e6⟩ := hR
  have c1 := m1.1
  have hn := m1.2.2.2.2.2.2.2.2.1
  by_cases h8 : k < 8
  · have hno := dgA_no (hd h8)
    refine V_aload_n (q := 11) dX8_readRow_10 rfl rfl rfl ?_
    refine GX8_191 (q := 14) rfl dX8_readRow_11 rfl (by first | assumption | exact up_eq | exact (up_ne (by omega)).trans (by first | assumption | exact up_eq | exact (up_ne (by omega)).trans (by first | assumption | exact up_eq | exact (up_ne (by omega)).trans (by first | assumption | exact up_eq)))) (by omega) (by rfl) ?_
    refine V_topi e4 ?_
    refine V_bipush (q := 16) (v := nI 8) dX8_readRow_14 rfl (by decide) ?_
    refine V_icmpN_ge (q := 19) (tgt := 59) dX8_readRow_16 (by decide) rfl (by omega) (by omega) (fun h9 => by first | exact h9.elim | exact absurd h9 (by assumption) | (exfalso; omega)) (fun _ => ?_)
    refine V_aload_n (q := 20) dX8_readRow_19 rfl rfl rfl ?_
    refine V_bipush (q := 22) (v := nI 48) dX8_readRow_20 rfl (by decide) ?_
    refine V_bipush (q := 24) (v := nI 57) dX8_readRow_22 rfl (by decide) ?_
    refine CrX8_185 (q := 27) rfl dX8_readRow_24 rfl (m_sees0 m1 (hT.bas b1) e6 (a := A) (lo := 48) (hi := 57) e1 hA (by decide) (by decide)) ⟨(Nat.le_of_ble_eq_true rfl), (Nat.le_of_ble_eq_true rfl)⟩ (Nat.le_of_ble_eq_true rfl) (by first | assumption | exact up_eq | exact (up_ne (by omega)).trans (by first | assumption | exact up_eq | exact (up_ne (by omega)).trans (by first | assumption | exact up_eq | exact (up_ne (by omega)).trans (by first | assumption | exact up_eq)))) (by omega) (Nat.zero_le _) (Nat.zero_le _) ?_
    refine V_topi (if_neg hno) ?_
    refine V_if_eq (q := 30) (tgt := 59) dX8_readRow_27 (by decide) rfl (fun _ => ?_) (fun h9 => absurd rfl h9)
    skip
    exact V_vret dX8_readRow_59 rfl (Nat.le_of_ble_eq_true rfl) (Nat.le_of_ble_eq_true rfl) (⟨rfl, rfl, hP⟩)
  · skip
    refine V_aload_n (q := 11) dX8_readRow_10 rfl rfl rfl ?_
    refine GX8_191 (q := 14) rfl dX8_readRow_11 rfl (by first | assumption | exact up_eq | exact (up_ne (by omega)).trans (by first | assumption | exact up_eq | exact (up_ne (by omega)).trans (by first | assumption | exact up_eq | exact (up_ne (by omega)).trans (by first | assumption | exact up_eq)))) (by omega) (by rfl) ?_
    refine V_topi e4 ?_
    refine V_bipush (q := 16) (v := nI 8) dX8_readRow_14 rfl (by decide) ?_
    refine V_icmpN_ge (q := 19) (tgt := 59) dX8_readRow_16 (by decide) rfl (by omega) (by omega) (fun _ => ?_) (fun h9 => by first | exact h9.elim | (exfalso; omega))
    skip
    exact V_vret dX8_readRow_59 rfl (Nat.le_of_ble_eq_true rfl) (Nat.le_of_ble_eq_true rfl) (⟨rfl, rfl, hP⟩)
theorem m_readRow {w0 w1 : HW} {K0 : MS} {a D : Nat} {b c d e : Int32} {num : Nat → Nat} (hR : Rk g n p F Fs Fb pk Hs C T w0 K0 (nI a) b c d e 0 w1) (hT : TxK K0 T tl t) (hal : a ≤ tl) (hD8 : D ≤ 8) (hle : a + D ≤ tl) (hn0 : num 0 = 0) (hdig : ∀ k, k < D → ∃ dv, dgA t tl (a + k) = some dv ∧ nI (10 * num k) + nI dv = nI (num (k + 1))) (hend : D < 8 → dgA t tl (a + D) = none) : CtV g l MX8_readRow 3 [rf g p] w1 n (Rk g n p F Fs Fb pk Hs C T w0 K0 (nI (a + D)) b (nI (num D)) (nI D) e 0) := by
  obtain ⟨K1, m1, f1, b1, e1, e2, e3, e4, e5, e6⟩ := hR
  have c1 := m1.1
  have hn := m1.2.2.2.2.2.2.2.2.1
  refine Ct.ofs (M := MX8_readRow) (ls := [some _]) (by decide +kernel) (by exact (Nat.le_of_ble_eq_true rfl)) (by rfl) (by rfl) (by rfl) ?_
  refine V_aload_n (q := 1) dX8_readRow_0 rfl rfl rfl ?_
  refine V_iconst (q := 2) (v := nI 0) dX8_readRow_1 rfl (by decide) ?_
  refine PX8_188 (q := 5) (fs' := [_, _, _, _, _, _, _, _, _, _, _, _, _, _, _, _, _, _, _, _, _, _, _, _, _, _]) rfl dX8_readRow_2 rfl (by first | assumption | exact up_eq | exact (up_ne (by omega)).trans (by first | assumption | exact up_eq | exact (up_ne (by omega)).trans (by first | assumption | exact up_eq | exact (up_ne (by omega)).trans (by first | assumption | exact up_eq)))) (by omega) (by exact (Nat.le_of_ble_eq_true rfl)) (by rfl) ?_
  try rw [up_up]
  refine V_rk m1 f1 b1 (kAt K1) (kWh K1) (nI 0) (kOt K1) (kTh K1) (kWg K1) (fun w2 r2 => ?_)
  obtain ⟨K2, m2, f2, b2, g1, g2, g3, g4, g5, g6⟩ := r2
  have c2 := m2.1
  refine V_aload_n (q := 6) dX8_readRow_5 rfl rfl rfl ?_
  refine V_iconst (q := 7) (v := nI 0) dX8_readRow_6 rfl (by decide) ?_
  refine PX8_191 (q := 10) (fs' := [_, _, _, _, _, _, _, _, _, _, _, _, _, _, _, _, _, _, _, _, _, _, _, _, _, _]) rfl dX8_readRow_7 rfl (by first | assumption | exact up_eq | exact (up_ne (by omega)).trans (by first | assumption | exact up_eq | exact (up_ne (by omega)).trans (by first | assumption | exact up_eq | exact (up_ne (by omega)).trans (by first | assumption | exact up_eq)))) (by omega) (by exact (Nat.le_of_ble_eq_true rfl)) (by rfl) ?_
  try rw [up_up]
  refine V_rk m2 f2 b2 (kAt K2) (kWh K2) (kOn K2) (nI 0) (kTh K2) (kWg K2) (fun w3 r3 => ?_)
  obtain ⟨K3, m3, f3, b3, i1, i2, i3, i4, i5, i6⟩ := r3
  have key : ∀ k, k ≤ D → ∀ w1, Rk g n p F Fs Fb pk Hs C T w0 K0 (nI (a + k)) b (nI (num k)) (nI k) e 0 w1 → V g l MX8_readRow (rmd 3 0 0) (FinM g (qV (Rk g n p F Fs Fb pk Hs C T w0 K0 (nI (a + D)) b (nI (num D)) (nI D) e 0) n) 0 0) 10 [some (rf g p)] [] (w1) n 0 0 := by
    refine loopU (fun k => ∀ w1, Rk g n p F Fs Fb pk Hs C T w0 K0 (nI (a + k)) b (nI (num k)) (nI k) e 0 w1 → V g l MX8_readRow (rmd 3 0 0) (FinM g (qV (Rk g n p F Fs Fb pk Hs C T w0 K0 (nI (a + D)) b (nI (num D)) (nI D) e 0) n) 0 0) 10 [some (rf g p)] [] (w1) n 0 0) D ?_ ?_
    · intro w1 hR
      exact m_rrEnd hT hR hD8 hend hle hR
    · intro k hk ih w1 hR
      obtain ⟨dv, d1, d2⟩ := hdig k hk
      exact m_rrStep hT hR d1 d2 (by omega) (by omega) ih
  have k0 := key 0 (Nat.zero_le _) w3
  rw [hn0, Nat.add_zero] at k0
  exact k0 ⟨K3, m3, f3, b3, i1.trans (g1.trans e1), i2.trans (g2.trans e2), i3.trans g3, i4, i5.trans (g5.trans e5), i6.trans (g6.trans e6)⟩
end MT
