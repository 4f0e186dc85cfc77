/-! the model: a text read -/
def setCm (K : MS) (x : Int32) : MS := (kKp K, kRe K, kDe K, kIT K, x, kSv K, kIn K, kLn K, kWr K, kRd K, kAt K, kWh K, kOn K, kOt K, kTh K, kWg K)
def setIn (K : MS) (x : Int32) : MS := (kKp K, kRe K, kDe K, kIT K, kCm K, kSv K, x, kLn K, kWr K, kRd K, kAt K, kWh K, kOn K, kOt K, kTh K, kWg K)
def rf3 (K : MS) : Int32 × Int32 × Int32 := (kRe K, kDe K, kIT K)
def RfD (K K' : MS) (d : Option (Int32 × Int32 × Int32)) : Prop := match d with
  | none => rf3 K' = rf3 K
  | some q => rf3 K' = q ∧ ∃ i, i < 2 ^ 31 ∧ q.2.2 = nI i
theorem RfD.cong {K K1 K2 : MS} {d : Option (Int32 × Int32 × Int32)} (h : RfD K K1 d) (e : rf3 K2 = rf3 K1) : RfD K K2 d := by
  cases d with
  | none => exact e.trans h
  | some q => exact ⟨e.trans h.1, h.2⟩
def fx (K : MS) : Int32 × Int32 × Int32 × Int32 × Int32 × Int32 := (kRe K, kDe K, kIT K, kSv K, kWr K, kRd K)
def MRQ (g : GG) (w : HW) (n p : Nat) (K : MS) (Fs : Nat → Int32) (pk : Nat) (Hs : Nat → StT) (C T : Nat → Int32) (N : StT) (Bm : Nat) (res : Int32 × StT × Option (Int32 × Int32 × Int32)) (y : Int32) (w' : HW) : Prop := y = res.1 ∧ sB res.2.1 ≤ Bm ∧ (∃ K' F' Fb' pk' Hs', MBd g w' n p K' F' Fs Fb' pk' Hs' C T ∧ RN F' res.2.1 ∧ kSv K' = kSv K ∧ kIn K' = nI 0 ∧ kWr K' = kWr K ∧ kRd K' = nI 0 ∧ RfD K K' res.2.2 ∧ (pk', Hs') = (if isErr res.1 then (pk, Hs) else (min (pk + 1) 8, conS N Hs))) ∧ FrM w w' p
section MRD
variable {g : GG} {l : Launch} {w w1 : HW} {n p : Nat} {K Kq K' : MS} {F Fs Fb C T F1 Fb1 : Nat → Int32} {pk : Nat} {Hs : Nat → StT} {tl s : Nat} {t : Nat → Nat} {N N0 N1 : StT} {Bm : Nat} {M : MI} {R : Room} {FN : FinT} {pc : Nat} {ls : LO} {st : List Value} {cs sl : Nat}
theorem V_ownE (h : MBd g w n p K F Fs Fb pk Hs C T) (hk : kKp K' = kKp K) (k : ∀ w1 K1, K1 = K' → MBd g w1 n p K1 F Fs Fb pk Hs C T → FrM w w1 p → V g l M R FN pc ls st w1 n cs sl) : V g l M R FN pc ls st (va_up w p (eO 8 (mfs g p K'))) n cs sl := k _ _ rfl (h.own hk).1 (h.own hk).2
theorem m_rdFinE {y m k : Int32} {d : Option (Int32 × Int32 × Int32)} (m1 : MBd g w1 n p Kq F1 Fs Fb1 pk Hs C T) (f1 : FrM w w1 p) (hRb : RN Fb1 N0) (hBm : sB N0 ≤ Bm) (e1 : kSv Kq = kSv K) (e2 : kWr Kq = kWr K) (e3 : RfD K Kq d) (he : isErr y) : V g l MX8_read (rmd 9 0 0) (FinM g (qI (MRQ g w n p K Fs pk Hs C T N0 Bm ((if y = -3 then -3 else -2), N0, d)) n) 0 0) 89 [some (rf g p), some (.int m), some (.int y), some (.int k)] [] (w1) n 0 0 := by
  have c1 := m1.1
  have hn := m1.2.2.2.2.2.2.2.2.1
  have hlt : y < 0 := by
    rcases he with z | z | z <;> (rw [z]; decide)
  refine V_aload_n (q := 90) dX8_read_89 rfl rfl rfl ?_
  refine V_iconst (q := 91) (v := nI 0) dX8_read_90 rfl (by decide) ?_
  refine PX8_53 (q := 94) (fs' := [_, _, _, _, _, _, _, _, _, _, _, _, _, _, _, _, _, _, _, _, _, _, _, _, _, _]) rfl dX8_read_91 rfl rfl rfl (by first | assumption | exact up_eq | exact (up_ne (by omega)).trans (by first | assumption | exact up_eq | exact (up_ne (by omega)).trans (by first | assumption | exact up_eq | exact (up_ne (by omega)).trans (by first | assumption | exact up_eq)))) (by omega) (by exact (Nat.le_of_ble_eq_true rfl)) (by rfl) ?_
  try rw [up_up]
  refine V_ownE (K' := setIn Kq (nI 0)) m1 rfl (fun w2 K2 hK2 m2 f2 => ?_)
  have c2 := m2.1
  have g1 : kSv K2 = kSv Kq ∧ kWr K2 = kWr Kq ∧ rf3 K2 = rf3 Kq ∧ kIn K2 = nI 0 := by rw [hK2]; exact ⟨rfl, rfl, rfl, rfl⟩
  refine V_aload_n (q := 95) dX8_read_94 rfl rfl rfl ?_
  refine V_iconst (q := 96) (v := nI 0) dX8_read_95 rfl (by decide) ?_
  refine PX8_176 (q := 99) (fs' := [_, _, _, _, _, _, _, _, _, _, _, _, _, _, _, _, _, _, _, _, _, _, _, _, _, _]) rfl dX8_read_96 rfl (by first | assumption | exact up_eq | exact (up_ne (by omega)).trans (by first | assumption | exact up_eq | exact (up_ne (by omega)).trans (by first | assumption | exact up_eq | exact (up_ne (by omega)).trans (by first | assumption | exact up_eq)))) (by omega) (by exact (Nat.le_of_ble_eq_true rfl)) (by rfl) ?_
  try rw [up_up]
  refine V_ownE (K' := setRd K2 (nI 0)) m2 rfl (fun w3 K3 hK3 m3 f3 => ?_)
  have c3 := m3.1
  have i1 : kSv K3 = kSv K2 ∧ kWr K3 = kWr K2 ∧ rf3 K3 = rf3 K2 ∧ kIn K3 = kIn K2 ∧ kRd K3 = nI 0 := by rw [hK3]; exact ⟨rfl, rfl, rfl, rfl, rfl⟩
  refine V_iload_n (q := 100) dX8_read_99 rfl rfl ?_
  refine V_if_ge (q := 103) (tgt := 128) dX8_read_100 (by decide) rfl (fun h9 => absurd h9 (fun q => (fa_of_lt hlt).2.1 q)) (fun _ => ?_)
  refine V_aload_n (q := 104) dX8_read_103 rfl rfl rfl ?_
  refine GX8_16 (q := 107) rfl dX8_read_104 rfl (by first | assumption | exact up_eq | exact (up_ne (by omega)).trans (by first | assumption | exact up_eq | exact (up_ne (by omega)).trans (by first | assumption | exact up_eq | exact (up_ne (by omega)).trans (by first | assumption | exact up_eq)))) (by omega) (by rfl) ?_
  refine V_aload_n (q := 108) dX8_read_107 rfl rfl rfl ?_
  refine GX8_9 (q := 111) rfl dX8_read_108 rfl (by first | assumption | exact up_eq | exact (up_ne (by omega)).trans (by first | assumption | exact up_eq | exact (up_ne (by omega)).trans (by first | assumption | exact up_eq | exact (up_ne (by omega)).trans (by first | assumption | exact up_eq)))) (by omega) (by rfl) ?_
  refine CvX8_63 (q := 114) rfl dX8_read_111 rfl (m_copyRow m3.2.2.2.1 m3.2.1 (by omega) (by omega) (by omega)) ⟨(Nat.le_of_ble_eq_true rfl), (Nat.le_of_ble_eq_true rfl)⟩ (Nat.le_of_ble_eq_true rfl) (Nat.zero_le _) (Nat.zero_le _) (fun w4 hw4 => ?_)
  obtain ⟨A', hA', hw⟩ := hw4
  have m4 := m3.now (F' := A')
  rw [← hw] at m4
  have last : ∃ K' F' Fb' pk' Hs', MBd g w4 n p K' F' Fs Fb' pk' Hs' C T ∧ RN F' N0 ∧ kSv K' = kSv K ∧ kIn K' = nI 0 ∧ kWr K' = kWr K ∧ kRd K' = nI 0 ∧ RfD K K' d ∧ (pk', Hs') = (pk, Hs) :=
    ⟨K3, A', Fb1, pk, Hs, m4.1, hRb.cong hA', i1.1.trans (g1.1.trans e1), i1.2.2.2.1.trans g1.2.2.2, i1.2.1.trans (g1.2.1.trans e2), i1.2.2.2.2, e3.cong (i1.2.2.1.trans g1.2.2.1), rfl⟩
  have hiserr : isErr (if y = -3 then (-3 : Int32) else -2) := by
    by_cases q3 : y = -3
    · rw [if_pos q3]; decide
    · rw [if_neg q3]; decide
  refine V_iload_n (q := 115) dX8_read_114 rfl rfl ?_
  refine V_bipush (q := 117) (v := (-3)) dX8_read_115 rfl (by decide) ?_
  refine V_icmp_ne (q := 120) (tgt := 125) dX8_read_117 (by decide) rfl (fun q3 => ?_) (fun q3 => ?_)
  · skip
    have fin : MRQ g w n p K Fs pk Hs C T N0 Bm ((if y = -3 then -3 else -2), N0, d) (-2) w4 := ⟨(if_neg q3).symm, hBm, by rw [if_pos hiserr]; exact last, (((f1.tr f2).tr f3).tr m4.2)⟩
    refine V_bipush (q := 127) (v := (-2)) dX8_read_125 rfl (by decide) ?_
    exact V_iret dX8_read_127 rfl (Nat.le_of_ble_eq_true rfl) (Nat.le_of_ble_eq_true rfl) (⟨rfl, _, rfl, fin⟩)
  · skip
    have fin : MRQ g w n p K Fs pk Hs C T N0 Bm ((if y = -3 then -3 else -2), N0, d) (-3) w4 := ⟨(if_pos q3).symm, hBm, by rw [if_pos hiserr]; exact last, (((f1.tr f2).tr f3).tr m4.2)⟩
    refine V_bipush (q := 122) (v := (-3)) dX8_read_120 rfl (by decide) ?_
    refine V_goto (tgt := 127) dX8_read_122 (by decide) ?_
    exact V_iret dX8_read_127 rfl (Nat.le_of_ble_eq_true rfl) (Nat.le_of_ble_eq_true rfl) (⟨rfl, _, rfl, fin⟩)
theorem m_rdFinS {k : Int32} {j m : Nat} (hm : m < 2 ^ 31) (hj : j < 2 ^ 31) (m1 : MBd g w1 n p Kq F1 Fs Fb1 pk Hs C T) (f1 : FrM w w1 p) (hR : RN F1 N1) (hRb : RN Fb1 N0) (hBm : sB N1 ≤ Bm) (e1 : kSv Kq = kSv K) (e2 : kWr Kq = kWr K) (e3 : rf3 Kq = rf3 K) : V g l MX8_read (rmd 9 0 0) (FinM g (qI (MRQ g w n p K Fs pk Hs C T N0 Bm (nI m, N1, none)) n) 0 0) 89 [some (rf g p), some (.int (nI m)), some (.int (nI j)), some (.int k)] [] (w1) n 0 0 := by
  have c1 := m1.1
  have hn := m1.2.2.2.2.2.2.2.2.1
  refine V_aload_n (q := 90) dX8_read_89 rfl rfl rfl ?_
  refine V_iconst (q := 91) (v := nI 0) dX8_read_90 rfl (by decide) ?_
  refine PX8_53 (q := 94) (fs' := [_, _, _, _, _, _, _, _, _, _, _, _, _, _, _, _, _, _, _, _, _, _, _, _, _, _]) rfl dX8_read_91 rfl rfl rfl (by first | assumption | exact up_eq | exact (up_ne (by omega)).trans (by first | assumption | exact up_eq | exact (up_ne (by omega)).trans (by first | assumption | exact up_eq | exact (up_ne (by omega)).trans (by first | assumption | exact up_eq)))) (by omega) (by exact (Nat.le_of_ble_eq_true rfl)) (by rfl) ?_
  try rw [up_up]
  refine V_ownE (K' := setIn Kq (nI 0)) m1 rfl (fun w2 K2 hK2 m2 f2 => ?_)
  have c2 := m2.1
  have g1 : kSv K2 = kSv Kq ∧ kWr K2 = kWr Kq ∧ rf3 K2 = rf3 Kq ∧ kIn K2 = nI 0 := by rw [hK2]; exact ⟨rfl, rfl, rfl, rfl⟩
  refine V_aload_n (q := 95) dX8_read_94 rfl rfl rfl ?_
  refine V_iconst (q := 96) (v := nI 0) dX8_read_95 rfl (by decide) ?_
  refine PX8_176 (q := 99) (fs' := [_, _, _, _, _, _, _, _, _, _, _, _, _, _, _, _, _, _, _, _, _, _, _, _, _, _]) rfl dX8_read_96 rfl (by first | assumption | exact up_eq | exact (up_ne (by omega)).trans (by first | assumption | exact up_eq | exact (up_ne (by omega)).trans (by first | assumption | exact up_eq | exact (up_ne (by omega)).trans (by first | assumption | exact up_eq)))) (by omega) (by exact (Nat.le_of_ble_eq_true rfl)) (by rfl) ?_
  try rw [up_up]
  refine V_ownE (K' := setRd K2 (nI 0)) m2 rfl (fun w3 K3 hK3 m3 f3 => ?_)
  have c3 := m3.1
  have i1 : kSv K3 = kSv K2 ∧ kWr K3 = kWr K2 ∧ rf3 K3 = rf3 K2 ∧ kIn K3 = kIn K2 ∧ kRd K3 = nI 0 := by rw [hK3]; exact ⟨rfl, rfl, rfl, rfl, rfl⟩
  refine V_iload_n (q := 100) dX8_read_99 rfl rfl ?_
  refine V_ifN_ge (q := 103) (tgt := 128) dX8_read_100 (by decide) rfl (by omega) (fun _ => ?_) (fun h9 => by first | exact h9.elim | (exfalso; omega))
  refine V_aload_n (q := 129) dX8_read_128 rfl rfl rfl ?_
  refine V_aload_n (q := 130) dX8_read_129 rfl rfl rfl ?_
  refine GX8_16 (q := 133) rfl dX8_read_130 rfl (by first | assumption | exact up_eq | exact (up_ne (by omega)).trans (by first | assumption | exact up_eq | exact (up_ne (by omega)).trans (by first | assumption | exact up_eq | exact (up_ne (by omega)).trans (by first | assumption | exact up_eq)))) (by omega) (by rfl) ?_
  refine CvX8_67 (q := 136) rfl dX8_read_133 rfl (m_remember m3 m3.2.2.2.1 (Or.inr rfl) hRb) ⟨(Nat.le_of_ble_eq_true rfl), (Nat.le_of_ble_eq_true rfl)⟩ (Nat.le_of_ble_eq_true rfl) (by first | assumption | exact up_eq | exact (up_ne (by omega)).trans (by first | assumption | exact up_eq | exact (up_ne (by omega)).trans (by first | assumption | exact up_eq | exact (up_ne (by omega)).trans (by first | assumption | exact up_eq)))) (by omega) (Nat.zero_le _) (Nat.zero_le _) (fun w4 hw4 => ?_)
  obtain ⟨m4, f4⟩ := hw4
  obtain ⟨K4, hK4⟩ : ∃ q, q = setKp K3 (nI (min (pk + 1) 8)) := ⟨_, rfl⟩
  rw [← hK4] at m4
  have j1 : kSv K4 = kSv K3 ∧ kWr K4 = kWr K3 ∧ rf3 K4 = rf3 K3 ∧ kIn K4 = kIn K3 ∧ kRd K4 = kRd K3 := by rw [hK4]; exact ⟨rfl, rfl, rfl, rfl, rfl⟩
  have fin : MRQ g w n p K Fs pk Hs C T N0 Bm (nI m, N1, none) (nI m) w4 := ⟨rfl, hBm, ⟨K4, F1, Fb1, min (pk + 1) 8, conS N0 Hs, m4, hR, j1.1.trans (i1.1.trans (g1.1.trans e1)), j1.2.2.2.1.trans (i1.2.2.2.1.trans g1.2.2.2), j1.2.1.trans (i1.2.1.trans (g1.2.1.trans e2)), j1.2.2.2.2.trans i1.2.2.2.2, j1.2.2.1.trans (i1.2.2.1.trans (g1.2.2.1.trans e3)), by rw [if_neg (nI_nerr hm)]⟩, (((f1.tr f2).tr f3).tr f4)⟩
  refine V_iload_n (q := 137) dX8_read_136 rfl rfl ?_
  exact V_iret dX8_read_137 rfl (Nat.le_of_ble_eq_true rfl) (Nat.le_of_ble_eq_true rfl) (⟨rfl, _, rfl, fin⟩)
theorem m_rdLoop (hT : TxK K T tl t) (hRb : RN Fb1 N0) (hB0 : sB N0 ≤ Bm) {m : Nat} (hm : m < 2 ^ 31) : ∀ f k s N1 F1 w1 j Kq, s ≤ tl → tl < s + f → fltN t tl f s = none → k + cntN t tl f s = m → sB N1 + 20 * f + 100 < 2 ^ 30 → sB N1 + 9 * f ≤ Bm → RN F1 N1 → MBd g w1 n p Kq F1 Fs Fb1 pk Hs C T → FrM w w1 p → fx Kq = fx K → kIn Kq = 1 → kAt Kq = nI s → kWg Kq = nI 0 → j < 2 ^ 31 → V g l MX8_read (rmd 9 0 0) (FinM g (qI (MRQ g w n p K Fs pk Hs C T N0 Bm (runN t tl N0 f k s N1)) n) 0 0) 50 [some (rf g p), some (.int (nI m)), some (.int (nI j)), some (.int (nI k))] [] (w1) n 0 0 := by
  have htl := hT.2.1
  intro f
  induction f with
  | zero => intro k s N1 F1 w1 j Kq a1 a2; omega
  | succ f ih =>
    intro k s N1 F1 w1 j Kq a1 a2 hflt hcnt hB hBm hR m1 f1 hfx hin hat hwg hj
    have c1 := m1.1
    have hn := m1.2.2.2.2.2.2.2.2.1
    have hbd : bdN t tl s = 0 := by
      rcases bdN_01 t tl s with z | z
      · exact z
      · rw [fltN_bad z] at hflt; cases hflt
    rw [fltN_ok hbd] at hflt
    have hE : nxN t tl s = tl ∨ (t (nxN t tl s) = 59 ∧ fltN t tl f (nxN t tl s + 1) = none) := by
      by_cases z : nxN t tl s = tl
      · exact Or.inl z
      · rw [if_neg z] at hflt
        by_cases y : t (nxN t tl s) = 59
        · rw [if_pos y] at hflt; exact Or.inr ⟨y, hflt⟩
        · rw [if_neg y] at hflt; cases hflt
    have nx := nxN_le (t := t) a1
    obtain ⟨hend, hlt⟩ := nx_end a1 hbd (hE.elim Or.inl (fun z => Or.inr z.1))
    have hs : s < tl := by omega
    have cn : cntN t tl (f + 1) s = if nxN t tl s = tl then 1 else cntN t tl f (nxN t tl s + 1) + 1 := rfl
    have hkm : k < m := by
      rw [cn] at hcnt
      by_cases z : nxN t tl s = tl
      · rw [if_pos z] at hcnt; omega
      · rw [if_neg z] at hcnt; omega
    have er : runN t tl N0 (f + 1) k s N1 = if isErr (cmdN t tl s N1).1 then ((if (cmdN t tl s N1).1 = -3 then -3 else -2), N0, (cmdN t tl s N1).2.2.map (fun p => (p.1, p.2, nI k))) else runN t tl N0 f (k + 1) (endN t tl s + 1) (cmdN t tl s N1).2.1 := if_pos hs
    have hgd := cmdN_ok (t := t) (tl := tl) (s := s) hR.2.2.2.1 hR.2.2.1
    have hgg := cmdN_g (t := t) (tl := tl) (s := s) hR.2.2.2.1 hR.2.2.1
    refine V_iload_n (q := 51) dX8_read_50 rfl rfl ?_
    refine V_iload_n (q := 52) dX8_read_51 rfl rfl ?_
    refine V_icmpN_ge (q := 55) (tgt := 89) dX8_read_52 (by decide) rfl (by omega) (by omega) (fun h9 => by first | exact h9.elim | exact absurd h9 (by assumption) | (exfalso; omega)) (fun _ => ?_)
    refine V_iload_n (q := 56) dX8_read_55 rfl rfl ?_
    refine V_ifN_lt (q := 59) (tgt := 89) dX8_read_56 (by decide) rfl (by omega) (fun h9 => by first | exact h9.elim | exact absurd h9 (by assumption) | (exfalso; omega)) (fun _ => ?_)
    refine V_aload_n (q := 60) dX8_read_59 rfl rfl rfl ?_
    refine V_iload_n (q := 61) dX8_read_60 rfl rfl ?_
    refine PX8_57 (q := 64) (fs' := [_, _, _, _, _, _, _, _, _, _, _, _, _, _, _, _, _, _, _, _, _, _, _, _, _, _]) rfl dX8_read_61 rfl (by first | assumption | exact up_eq | exact (up_ne (by omega)).trans (by first | assumption | exact up_eq | exact (up_ne (by omega)).trans (by first | assumption | exact up_eq | exact (up_ne (by omega)).trans (by first | assumption | exact up_eq)))) (by omega) (by exact (Nat.le_of_ble_eq_true rfl)) (by rfl) ?_
    try rw [up_up]
    refine V_ownE (K' := setCm Kq (nI k)) m1 rfl (fun w2 K2 hK2 m2 f2 => ?_)
    have c2 := m2.1
    have g2 : fx K2 = fx Kq ∧ kIn K2 = kIn Kq ∧ kAt K2 = kAt Kq ∧ kWg K2 = kWg Kq ∧ kCm K2 = nI k := by rw [hK2]; exact ⟨rfl, rfl, rfl, rfl, rfl⟩
    obtain ⟨g21, g22, g23, g24, g25⟩ := g2
    have hT2 : TxK K2 T tl t := ⟨(congrArg (fun q => q.2.2.2.2.2) (g21.trans hfx)).trans hT.1, hT.2⟩
    refine V_aload_n (q := 65) dX8_read_64 rfl rfl rfl ?_
    refine CvX8_213 (q := 68) rfl dX8_read_65 rfl (m_readCommand (w0 := w2) (K0 := K2) (x := 0) (a := s) hT2 (by decide) a1 ⟨K2, m2, FrM.rf, rfl, g23.trans hat, rfl, rfl, rfl, rfl, g24.trans hwg⟩) ⟨(Nat.le_of_ble_eq_true rfl), (Nat.le_of_ble_eq_true rfl)⟩ (Nat.le_of_ble_eq_true rfl) (by first | assumption | exact up_eq | exact (up_ne (by omega)).trans (by first | assumption | exact up_eq | exact (up_ne (by omega)).trans (by first | assumption | exact up_eq | exact (up_ne (by omega)).trans (by first | assumption | exact up_eq)))) (by omega) (Nat.zero_le _) (Nat.zero_le _) (fun w3 hw3 => ?_)
    obtain ⟨A, B, b, c, d, e, hR3, q1, -⟩ := hw3
    obtain ⟨eA, eB, q3⟩ := q1 rfl
    have hcf := q3 hbd
    rw [hbd] at eB
    subst eB
    obtain ⟨K3, m3, f3, b3, u1, u2, u3, u4, u5, u6⟩ := hR3
    have c3 := m3.1
    refine V_aload_n (q := 69) dX8_read_68 rfl rfl rfl ?_
    refine V_dup (q := 70) dX8_read_69 rfl rfl ?_
    refine GX8_182 (q := 73) rfl dX8_read_70 rfl (by first | assumption | exact up_eq | exact (up_ne (by omega)).trans (by first | assumption | exact up_eq | exact (up_ne (by omega)).trans (by first | assumption | exact up_eq | exact (up_ne (by omega)).trans (by first | assumption | exact up_eq)))) (by omega) (by rfl) ?_
    refine V_topi u1 ?_
    refine V_iconst (q := 74) (v := nI 1) dX8_read_73 rfl (by decide) ?_
    refine V_iadd (q := 75) dX8_read_74 rfl (by first | exact nI_add _ _ | rfl) ?_
    refine PX8_182 (q := 78) (fs' := [_, _, _, _, _, _, _, _, _, _, _, _, _, _, _, _, _, _, _, _, _, _, _, _, _, _]) rfl dX8_read_75 rfl (by first | assumption | exact up_eq | exact (up_ne (by omega)).trans (by first | assumption | exact up_eq | exact (up_ne (by omega)).trans (by first | assumption | exact up_eq | exact (up_ne (by omega)).trans (by first | assumption | exact up_eq)))) (by omega) (by exact (Nat.le_of_ble_eq_true rfl)) (by rfl) ?_
    try rw [up_up]
    refine V_rk m3 f3 b3 (nI (A + 1)) (kWh K3) (kOn K3) (kOt K3) (kTh K3) (kWg K3) (fun w4 r4 => ?_)
    obtain ⟨K4, m4, f4, b4, v1, v2, v3, v4, v5, v6⟩ := r4
    have c4 := m4.1
    have x4 : fx K4 = fx K2 := by
      have := congrArg (fun q => (q.2.1, q.2.2.1, q.2.2.2.1, q.2.2.2.2.2.1, q.2.2.2.2.2.2.2.2.1, q.2.2.2.2.2.2.2.2.2)) b4
      exact this
    have in4 : kIn K4 = 1 := (congrArg (fun q => q.2.2.2.2.2.2.1) b4).trans (g22.trans hin)
    have cm4 : kCm K4 = nI k := (congrArg (fun q => q.2.2.2.2.1) b4).trans g25
    have hcf4 : CmdF (kWh K4) (kOn K4) (kOt K4) (kTh K4) t tl s := by
      rw [v2, v3, v4, v5, u2, u3, u4, u5]
      exact hcf
    refine V_aload_n (q := 79) dX8_read_78 rfl rfl rfl ?_
    refine CiX8_246 (q := 82) rfl dX8_read_79 rfl (m_carryOut m4 (Or.inr in4) hR (by omega) hbd hcf4 hs hend) ⟨(Nat.le_of_ble_eq_true rfl), (Nat.le_of_ble_eq_true rfl)⟩ (Nat.le_of_ble_eq_true rfl) (by first | assumption | exact up_eq | exact (up_ne (by omega)).trans (by first | assumption | exact up_eq | exact (up_ne (by omega)).trans (by first | assumption | exact up_eq | exact (up_ne (by omega)).trans (by first | assumption | exact up_eq)))) (by omega) (Nat.zero_le _) (Nat.zero_le _) (fun y w5 hw5 => ?_)
    obtain ⟨rfl, -, ⟨b5, F5, pk5, Hs5, m5, hR5, e5⟩, f5⟩ := hw5
    have hpk : pkC K4 pk = pk := if_pos in4
    have hhs : hsC K4 N1 Hs = Hs := if_pos in4
    rw [hpk, hhs] at e5
    have e5 : (pk5, Hs5) = (pk, Hs) := by
      by_cases z : isErr (cmdN t tl s N1).1
      · rw [if_pos z] at e5; exact e5
      · rw [if_neg z] at e5; exact e5
    have ep : pk5 = pk := congrArg Prod.fst e5
    have eh : Hs5 = Hs := congrArg Prod.snd e5
    subst ep
    subst eh
    have fr5 : FrM w w5 p := ((f1.tr f2).tr f4).tr f5
    have fx4 : fx K4 = fx K := x4.trans (g21.trans hfx)
    generalize hres : cmdN t tl s N1 = res at er hgd hgg m5 hR5
    by_cases he : isErr res.1
    · rw [er, if_pos he]
      have ez : z4 res.1 = res.1 := z4_no (Or.inl he)
      rw [ez]
      obtain ⟨K5, hK5⟩ : ∃ q, q = kOp K4 res.2.2 (nI pk5) b5 := ⟨_, rfl⟩
      rw [← hK5] at m5
      have k5 : kSv K5 = kSv K4 ∧ kWr K5 = kWr K4 := by
        rw [hK5]
        cases res.2.2 with
        | none => exact ⟨rfl, rfl⟩
        | some q => exact ⟨rfl, rfl⟩
      have r5 : RfD K K5 (res.2.2.map (fun p => (p.1, p.2, nI k))) := by
        cases hd : res.2.2 with
        | none =>
          rw [hd] at hK5
          show rf3 K5 = rf3 K
          rw [hK5]
          exact congrArg (fun q => (q.1, q.2.1, q.2.2.1)) fx4
        | some q =>
          rw [hd] at hK5
          refine ⟨?_, k, by omega, rfl⟩
          rw [hK5]
          show (q.1, q.2, (if kIn K4 = 0 then (-1 : Int32) else kCm K4)) = (q.1, q.2, nI k)
          rw [in4, if_neg (by decide), cm4]
      have fin := fun m k => m_rdFinE (l := l) (y := res.1) (m := m) (k := k) m5 fr5 hRb hB0 (k5.1.trans (congrArg (fun q => q.2.2.2.1) fx4)) (k5.2.trans (congrArg (fun q => q.2.2.2.2.1) fx4)) r5 he
      have hlt : res.1 < 0 := by
        rcases he with z | z | z <;> (rw [z]; decide)
      refine V_istore_n (q := 83) (ls' := [_, _, _, _]) dX8_read_82 rfl (by decide) rfl ?_
      refine V_iinc (q := 86) (ls' := [_, _, _, _]) dX8_read_83 rfl (by decide) rfl (by first | exact inc1 _ | rfl) rfl ?_
      refine V_goto (tgt := 50) dX8_read_86 (by decide) ?_
      refine V_iload_n (q := 51) dX8_read_50 rfl rfl ?_
      refine V_iload_n (q := 52) dX8_read_51 rfl rfl ?_
      refine V_icmpN_ge (q := 55) (tgt := 89) dX8_read_52 (by decide) rfl (by omega) (by omega) (fun h1 => ?_) (fun h1 => ?_)
      · skip
        exact fin _ _
      · skip
        refine V_iload_n (q := 56) dX8_read_55 rfl rfl ?_
        refine V_if_lt (q := 59) (tgt := 89) dX8_read_56 (by decide) rfl (fun _ => ?_) (fun h9 => absurd hlt h9)
        exact fin _ _
    · rw [er, if_neg he]
      have hno : res.2.2 = none := hgd.2.1.elim (fun q => q) (fun q => absurd (Or.inr (Or.inr q)) he)
      obtain ⟨j2, hj2, ez⟩ : ∃ j2, j2 < 2 ^ 31 ∧ z4 res.1 = nI j2 := by
        rcases hgg.1 with (z | ⟨j2, z1, z2⟩) | z
        · exact absurd z he
        · exact ⟨j2, z1, (z4_no (Or.inr ⟨j2, z1, z2⟩)).trans z2⟩
        · exact ⟨0, by decide, if_pos z⟩
      rw [ez]
      obtain ⟨K5, hK5⟩ : ∃ q, q = kOp K4 res.2.2 (nI pk5) b5 := ⟨_, rfl⟩
      rw [← hK5] at m5
      rw [hno] at hK5
      have k5 : fx K5 = fx K4 ∧ kIn K5 = kIn K4 ∧ kAt K5 = kAt K4 ∧ kWg K5 = kWg K4 := by rw [hK5]; exact ⟨rfl, rfl, rfl, rfl⟩
      have fx5 := k5.1.trans fx4
      refine V_istore_n (q := 83) (ls' := [_, _, _, _]) dX8_read_82 rfl (by decide) rfl ?_
      refine V_iinc (q := 86) (ls' := [_, _, _, _]) dX8_read_83 rfl (by decide) rfl (by first | exact inc1 _ | rfl) rfl ?_
      refine V_goto (tgt := 50) dX8_read_86 (by decide) ?_
      rcases hE with hz | ⟨hz, hfl⟩
      · rw [cn, if_pos hz] at hcnt
        have hrn : runN t tl N0 f (k + 1) (endN t tl s + 1) res.2.1 = (nI (k + 1), res.2.1, none) := by
          cases f with
          | zero => rfl
          | succ f => exact if_neg (by omega)
        rw [hrn]
        subst hcnt
        refine V_iload_n (q := 51) dX8_read_50 rfl rfl ?_
        refine V_iload_n (q := 52) dX8_read_51 rfl rfl ?_
        refine V_icmpN_ge (q := 55) (tgt := 89) dX8_read_52 (by decide) rfl (by omega) (by omega) (fun _ => ?_) (fun h9 => by first | exact h9.elim | (exfalso; omega))
        exact m_rdFinS hm hj2 m5 fr5 hR5 hRb (by have := hgg.2; omega) (congrArg (fun q => q.2.2.2.1) fx5) (congrArg (fun q => q.2.2.2.2.1) fx5) (congrArg (fun q => (q.1, q.2.1, q.2.2.1)) fx5)
      · have hzn : ¬ nxN t tl s = tl := by
          intro z
          rw [z] at hfl
          cases f with
          | zero => cases hfl
          | succ f =>
            have hb2 : bdN t tl (tl + 1) = 1 := by
              have hW : wAN t tl (tl + 1) = 0 := wA_out (by omega)
              obtain ⟨-, d2, -⟩ := rc_zero hW
              rw [dgs_no (if_neg (by omega))] at d2
              rw [bd_is d2 hW]
              rfl
            rw [fltN_bad hb2] at hfl
            cases hfl
        rw [cn, if_neg hzn] at hcnt
        rw [hend]
        have eA1 : A = nxN t tl s := eA
        exact ih (k + 1) (nxN t tl s + 1) res.2.1 F5 w5 j2 K5 (by omega) (by omega) hfl (by omega) (by have := hgg.2; omega) (by have := hgg.2; omega) hR5 m5 fr5 fx5 (k5.2.1.trans in4) (k5.2.2.1.trans (by rw [v1, eA1])) (k5.2.2.2.trans (v6.trans u6)) hj2
end MRD
