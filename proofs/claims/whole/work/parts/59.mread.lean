/-! the model: a command read -/
def RcQ (g : GG) (n p : Nat) (F Fs Fb : Nat → Int32) (pk : Nat) (Hs : Nat → StT) (C T : Nat → Int32) (w0 : HW) (K0 : MS) (t : Nat → Nat) (tl a x : Nat) (w' : HW) : Prop := ∃ (A B : Nat) (b c d e : Int32), Rk g n p F Fs Fb pk Hs C T w0 K0 (nI A) b c d e (nI B) w' ∧ (x = 0 → A = nxN t tl a ∧ B = bdN t tl a ∧ (bdN t tl a = 0 → CmdF b c d e t tl a)) ∧ (x = 1 → A = a ∧ B = 1)
section MT
variable {g : GG} {l : Launch} {w0 w1 : HW} {n p : Nat} {K0 : MS} {F Fs Fb C T : Nat → Int32} {pk : Nat} {Hs : Nat → StT} {tl : Nat} {t : Nat → Nat}
theorem m_rcLet {a c : Nat} {i3 i4 i5 : Int32} (hT : TxK K0 T tl t) (hR : Rk g n p F Fs Fb pk Hs C T w0 K0 (nI a) (nI c) i3 i4 i5 (nI 0) w1) (hal : a < tl) (hc : c = t a) (hw : 0 < wantN c) (hc7 : c < 127) : V g l MX8_readCommand (rmd 7 0 0) (FinM g (qV (RcQ g n p F Fs Fb pk Hs C T w0 K0 t tl a 0) n) 0 0) 85 [some (rf g p)] [] (w1) n 0 0 := by
  have h1 : a + 1 ≤ tl := hal
  obtain ⟨K1, m1, f1, b1, e1, e2, e3, e4, e5, e6⟩ := hR
  have c1 := m1.1
  have hn := m1.2.2.2.2.2.2.2.2.1
  refine V_aload_n (q := 86) dX8_readCommand_85 rfl rfl rfl ?_
  refine V_dup (q := 87) dX8_readCommand_86 rfl rfl ?_
  refine GX8_182 (q := 90) rfl dX8_readCommand_87 rfl (by first | assumption | exact up_eq | exact (up_ne (by omega)).trans (by first | assumption | exact up_eq | exact (up_ne (by omega)).trans (by first | assumption | exact up_eq | exact (up_ne (by omega)).trans (by first | assumption | exact up_eq)))) (by omega) (by rfl) ?_
  refine V_topi e1 ?_
  refine V_aload_n (q := 91) dX8_readCommand_90 rfl rfl rfl ?_
  refine GX8_179 (q := 94) rfl dX8_readCommand_91 rfl (by first | assumption | exact up_eq | exact (up_ne (by omega)).trans (by first | assumption | exact up_eq | exact (up_ne (by omega)).trans (by first | assumption | exact up_eq | exact (up_ne (by omega)).trans (by first | assumption | exact up_eq)))) (by omega) (by rfl) ?_
  refine V_topi e6 ?_
  refine V_if_eq (q := 97) (tgt := 101) dX8_readCommand_94 (by decide) rfl (fun _ => ?_) (fun h9 => absurd rfl h9)
  refine V_iconst (q := 102) (v := nI 1) dX8_readCommand_101 rfl (by decide) ?_
  refine V_iadd (q := 103) dX8_readCommand_102 rfl (by first | exact nI_add _ _ | rfl) ?_
  refine PX8_182 (q := 106) (fs' := [_, _, _, _, _, _, _, _, _, _, _, _, _, _, _, _, _, _, _, _, _, _, _, _, _, _]) rfl dX8_readCommand_103 rfl (by first | assumption | exact up_eq | exact (up_ne (by omega)).trans (by first | assumption | exact up_eq | exact (up_ne (by omega)).trans (by first | assumption | exact up_eq | exact (up_ne (by omega)).trans (by first | assumption | exact up_eq)))) (by omega) (by exact (Nat.le_of_ble_eq_true rfl)) (by rfl) ?_
  try rw [up_up]
  refine V_rk m1 f1 b1 (nI (a + 1)) (kWh K1) (kOn K1) (kOt K1) (kTh K1) (kWg K1) (fun w2 r2 => ?_)
  obtain ⟨K2, m2, f2, b2, g1, g2, g3, g4, g5, g6⟩ := r2
  have c2 := m2.1
  obtain ⟨r, hr⟩ : ∃ r, r = rdA t tl (a + 1) 0 := ⟨_, rfl⟩
  have rl := rd_le (t := t) (x := 0) h1 (by decide)
  refine V_aload_n (q := 107) dX8_readCommand_106 rfl rfl rfl ?_
  refine V_aload_n (q := 108) dX8_readCommand_107 rfl rfl rfl ?_
  refine CiX8_194 (q := 111) rfl dX8_readCommand_108 rfl (r_digit m2 f2 b2 hT (x := 0) (by decide) (g6.trans e6) (a := a + 1) g1 h1) ⟨(Nat.le_of_ble_eq_true rfl), (Nat.le_of_ble_eq_true rfl)⟩ (Nat.le_of_ble_eq_true rfl) (by first | assumption | exact up_eq | exact (up_ne (by omega)).trans (by first | assumption | exact up_eq | exact (up_ne (by omega)).trans (by first | assumption | exact up_eq | exact (up_ne (by omega)).trans (by first | assumption | exact up_eq)))) (by omega) (Nat.zero_le _) (Nat.zero_le _) (fun y w3 hw3 => ?_)
  rw [← hr] at hw3 rl
  obtain ⟨rfl, K3, m3, f3, b3, j1, j2, j3, j4, j5, j6⟩ := hw3
  have c3 := m3.1
  refine PX8_188 (q := 114) (fs' := [_, _, _, _, _, _, _, _, _, _, _, _, _, _, _, _, _, _, _, _, _, _, _, _, _, _]) rfl dX8_readCommand_111 rfl (by first | assumption | exact up_eq | exact (up_ne (by omega)).trans (by first | assumption | exact up_eq | exact (up_ne (by omega)).trans (by first | assumption | exact up_eq | exact (up_ne (by omega)).trans (by first | assumption | exact up_eq)))) (by omega) (by exact (Nat.le_of_ble_eq_true rfl)) (by rfl) ?_
  try rw [up_up]
  refine V_rk m3 f3 b3 (kAt K3) (kWh K3) (nI r.1) (kOt K3) (kTh K3) (kWg K3) (fun w4 r4 => ?_)
  obtain ⟨K4, m4, f4, b4, k1, k2, k3, k4, k5, k6⟩ := r4
  have c4 := m4.1
  have l1 := k1.trans j1
  have l2 := k2.trans (j2.trans (g2.trans e2))
  have l6 := k6.trans j6
  refine V_aload_n (q := 115) dX8_readCommand_114 rfl rfl rfl ?_
  refine GX8_197 (q := 118) rfl dX8_readCommand_115 rfl (by first | assumption | exact up_eq | exact (up_ne (by omega)).trans (by first | assumption | exact up_eq | exact (up_ne (by omega)).trans (by first | assumption | exact up_eq | exact (up_ne (by omega)).trans (by first | assumption | exact up_eq)))) (by omega) (by rfl) ?_
  refine V_topi l2 ?_
  refine V_bipush (q := 120) (v := nI 115) dX8_readCommand_118 rfl (by decide) ?_
  refine V_icmpN_ne (q := 123) (tgt := 139) dX8_readCommand_120 (by decide) rfl (by omega) (by omega) (fun hs => ?_) (fun hs => ?_)
  · skip
    have hw1 : wantN (t a) = 1 := by
      rw [← hc]
      rcases want_13 c hw with z | z
      · exact absurd z.1 hs
      · exact z.2
    obtain ⟨x1, x2, x3⟩ := rc_one hal hw1 hr
    skip
    exact V_vret dX8_readCommand_139 rfl (Nat.le_of_ble_eq_true rfl) (Nat.le_of_ble_eq_true rfl) (⟨rfl, rfl, r.2.1, r.2.2, _, _, _, _, ⟨K4, m4, f4, b4, l1, l2, k3, rfl, rfl, l6⟩, fun _ => ⟨x1.symm, x2.symm, fun z => ⟨fun q => absurd q (by rw [wA_in hal, hw1]; decide), fun _ => ⟨by rw [hc], x3 z⟩, fun q => absurd q (by rw [wA_in hal, hw1]; decide)⟩⟩, fun z => by cases z⟩)
  · skip
    have hw3 : wantN (t a) = 3 := by
      rw [← hc, hs]
      rfl
    obtain ⟨r2, hr2⟩ : ∃ q, q = rdA t tl r.2.1 r.2.2 := ⟨_, rfl⟩
    obtain ⟨r3, hr3⟩ : ∃ q, q = rdA t tl r2.2.1 r2.2.2 := ⟨_, rfl⟩
    have rl2 := rd_le (t := t) (x := r.2.2) rl.1 rl.2.1
    refine V_aload_n (q := 124) dX8_readCommand_123 rfl rfl rfl ?_
    refine V_aload_n (q := 125) dX8_readCommand_124 rfl rfl rfl ?_
    refine CiX8_194 (q := 128) rfl dX8_readCommand_125 rfl (r_digit m4 f4 b4 hT (x := r.2.2) rl.2.1 l6 (a := r.2.1) l1 rl.1) ⟨(Nat.le_of_ble_eq_true rfl), (Nat.le_of_ble_eq_true rfl)⟩ (Nat.le_of_ble_eq_true rfl) (by first | assumption | exact up_eq | exact (up_ne (by omega)).trans (by first | assumption | exact up_eq | exact (up_ne (by omega)).trans (by first | assumption | exact up_eq | exact (up_ne (by omega)).trans (by first | assumption | exact up_eq)))) (by omega) (Nat.zero_le _) (Nat.zero_le _) (fun y w5 hw5 => ?_)
    rw [← hr2] at hw5 rl2
    obtain ⟨rfl, K5, m5, f5, b5, o1, o2, o3, o4, o5, o6⟩ := hw5
    have c5 := m5.1
    refine PX8_191 (q := 131) (fs' := [_, _, _, _, _, _, _, _, _, _, _, _, _, _, _, _, _, _, _, _, _, _, _, _, _, _]) rfl dX8_readCommand_128 rfl (by first | assumption | exact up_eq | exact (up_ne (by omega)).trans (by first | assumption | exact up_eq | exact (up_ne (by omega)).trans (by first | assumption | exact up_eq | exact (up_ne (by omega)).trans (by first | assumption | exact up_eq)))) (by omega) (by exact (Nat.le_of_ble_eq_true rfl)) (by rfl) ?_
    try rw [up_up]
    refine V_rk m5 f5 b5 (kAt K5) (kWh K5) (kOn K5) (nI r2.1) (kTh K5) (kWg K5) (fun w6 r6 => ?_)
    obtain ⟨K6, m6, f6, b6, u1, u2, u3, u4, u5, u6⟩ := r6
    have c6 := m6.1
    refine V_aload_n (q := 132) dX8_readCommand_131 rfl rfl rfl ?_
    refine V_aload_n (q := 133) dX8_readCommand_132 rfl rfl rfl ?_
    refine CiX8_194 (q := 136) rfl dX8_readCommand_133 rfl (r_digit m6 f6 b6 hT (x := r2.2.2) rl2.2.1 (u6.trans o6) (a := r2.2.1) (u1.trans o1) rl2.1) ⟨(Nat.le_of_ble_eq_true rfl), (Nat.le_of_ble_eq_true rfl)⟩ (Nat.le_of_ble_eq_true rfl) (by first | assumption | exact up_eq | exact (up_ne (by omega)).trans (by first | assumption | exact up_eq | exact (up_ne (by omega)).trans (by first | assumption | exact up_eq | exact (up_ne (by omega)).trans (by first | assumption | exact up_eq)))) (by omega) (Nat.zero_le _) (Nat.zero_le _) (fun y w7 hw7 => ?_)
    rw [← hr3] at hw7
    obtain ⟨rfl, K7, m7, f7, b7, v1, v2, v3, v4, v5, v6⟩ := hw7
    have c7 := m7.1
    refine PX8_210 (q := 139) (fs' := [_, _, _, _, _, _, _, _, _, _, _, _, _, _, _, _, _, _, _, _, _, _, _, _, _, _]) rfl dX8_readCommand_136 rfl (by first | assumption | exact up_eq | exact (up_ne (by omega)).trans (by first | assumption | exact up_eq | exact (up_ne (by omega)).trans (by first | assumption | exact up_eq | exact (up_ne (by omega)).trans (by first | assumption | exact up_eq)))) (by omega) (by exact (Nat.le_of_ble_eq_true rfl)) (by rfl) ?_
    try rw [up_up]
    refine V_rk m7 f7 b7 (kAt K7) (kWh K7) (kOn K7) (kOt K7) (nI r3.1) (kWg K7) (fun w8 r8 => ?_)
    obtain ⟨K8, m8, f8, b8, z1, z2, z3, z4, z5, z6⟩ := r8
    obtain ⟨x1, x2, x3⟩ := rc_three hal hw3 hr hr2 hr3
    have y2 := z2.trans (v2.trans (u2.trans (o2.trans l2)))
    have y3 := z3.trans (v3.trans (u3.trans (o3.trans k3)))
    have y4 := z4.trans (v4.trans u4)
    exact V_vret dX8_readCommand_139 rfl (Nat.le_of_ble_eq_true rfl) (Nat.le_of_ble_eq_true rfl) (⟨rfl, rfl, r3.2.1, r3.2.2, _, _, _, _, ⟨K8, m8, f8, b8, z1.trans v1, y2, y3, y4, z5, z6.trans v6⟩, fun _ => ⟨x1.symm, x2.symm, fun z => ⟨fun q => absurd q (by rw [wA_in hal, hw3]; decide), fun _ => ⟨by rw [hc], (x3 z).1⟩, fun _ => (x3 z).2⟩⟩, fun z => by cases z⟩)
theorem m_rcBad {a c x : Nat} {i3 i4 i5 : Int32} (hR : Rk g n p F Fs Fb pk Hs C T w0 K0 (nI a) (nI c) i3 i4 i5 (nI 1) w1) (hc : c ≠ 115) (hc7 : c < 127) (hx : x = 0 → a = nxN t tl a ∧ 1 = bdN t tl a) : V g l MX8_readCommand (rmd 7 0 0) (FinM g (qV (RcQ g n p F Fs Fb pk Hs C T w0 K0 t tl a x) n) 0 0) 85 [some (rf g p)] [] (w1) n 0 0 := by
  obtain ⟨K1, m1, f1, b1, e1, e2, e3, e4, e5, e6⟩ := hR
  have c1 := m1.1
  have hn := m1.2.2.2.2.2.2.2.2.1
  refine V_aload_n (q := 86) dX8_readCommand_85 rfl rfl rfl ?_
  refine V_dup (q := 87) dX8_readCommand_86 rfl rfl ?_
  refine GX8_182 (q := 90) rfl dX8_readCommand_87 rfl (by first | assumption | exact up_eq | exact (up_ne (by omega)).trans (by first | assumption | exact up_eq | exact (up_ne (by omega)).trans (by first | assumption | exact up_eq | exact (up_ne (by omega)).trans (by first | assumption | exact up_eq)))) (by omega) (by rfl) ?_
  refine V_topi e1 ?_
  refine V_aload_n (q := 91) dX8_readCommand_90 rfl rfl rfl ?_
  refine GX8_179 (q := 94) rfl dX8_readCommand_91 rfl (by first | assumption | exact up_eq | exact (up_ne (by omega)).trans (by first | assumption | exact up_eq | exact (up_ne (by omega)).trans (by first | assumption | exact up_eq | exact (up_ne (by omega)).trans (by first | assumption | exact up_eq)))) (by omega) (by rfl) ?_
  refine V_topi e6 ?_
  refine V_if_eq (q := 97) (tgt := 101) dX8_readCommand_94 (by decide) rfl (fun h9 => absurd h9 (by decide)) (fun _ => ?_)
  refine V_iconst (q := 98) (v := nI 0) dX8_readCommand_97 rfl (by decide) ?_
  refine V_goto (tgt := 102) dX8_readCommand_98 (by decide) ?_
  refine V_iadd (q := 103) dX8_readCommand_102 rfl (by first | exact nI_add _ _ | rfl) ?_
  refine PX8_182 (q := 106) (fs' := [_, _, _, _, _, _, _, _, _, _, _, _, _, _, _, _, _, _, _, _, _, _, _, _, _, _]) rfl dX8_readCommand_103 rfl (by first | assumption | exact up_eq | exact (up_ne (by omega)).trans (by first | assumption | exact up_eq | exact (up_ne (by omega)).trans (by first | assumption | exact up_eq | exact (up_ne (by omega)).trans (by first | assumption | exact up_eq)))) (by omega) (by exact (Nat.le_of_ble_eq_true rfl)) (by rfl) ?_
  try rw [up_up]
  refine V_rk m1 f1 b1 (nI a) (kWh K1) (kOn K1) (kOt K1) (kTh K1) (kWg K1) (fun w2 r2 => ?_)
  obtain ⟨K2, m2, f2, b2, g1, g2, g3, g4, g5, g6⟩ := r2
  have c2 := m2.1
  refine V_aload_n (q := 107) dX8_readCommand_106 rfl rfl rfl ?_
  refine V_aload_n (q := 108) dX8_readCommand_107 rfl rfl rfl ?_
  refine CiX8_194 (q := 111) rfl dX8_readCommand_108 rfl (r_digit_off m2 f2 b2 (g6.trans e6) (a := a) g1) ⟨(Nat.le_of_ble_eq_true rfl), (Nat.le_of_ble_eq_true rfl)⟩ (Nat.le_of_ble_eq_true rfl) (by first | assumption | exact up_eq | exact (up_ne (by omega)).trans (by first | assumption | exact up_eq | exact (up_ne (by omega)).trans (by first | assumption | exact up_eq | exact (up_ne (by omega)).trans (by first | assumption | exact up_eq)))) (by omega) (Nat.zero_le _) (Nat.zero_le _) (fun y w3 hw3 => ?_)
  obtain ⟨rfl, K3, m3, f3, b3, j1, j2, j3, j4, j5, j6⟩ := hw3
  have c3 := m3.1
  refine PX8_188 (q := 114) (fs' := [_, _, _, _, _, _, _, _, _, _, _, _, _, _, _, _, _, _, _, _, _, _, _, _, _, _]) rfl dX8_readCommand_111 rfl (by first | assumption | exact up_eq | exact (up_ne (by omega)).trans (by first | assumption | exact up_eq | exact (up_ne (by omega)).trans (by first | assumption | exact up_eq | exact (up_ne (by omega)).trans (by first | assumption | exact up_eq)))) (by omega) (by exact (Nat.le_of_ble_eq_true rfl)) (by rfl) ?_
  try rw [up_up]
  refine V_rk m3 f3 b3 (kAt K3) (kWh K3) 0 (kOt K3) (kTh K3) (kWg K3) (fun w4 r4 => ?_)
  obtain ⟨K4, m4, f4, b4, k1, k2, k3, k4, k5, k6⟩ := r4
  have c4 := m4.1
  have l2 := k2.trans (j2.trans (g2.trans e2))
  refine V_aload_n (q := 115) dX8_readCommand_114 rfl rfl rfl ?_
  refine GX8_197 (q := 118) rfl dX8_readCommand_115 rfl (by first | assumption | exact up_eq | exact (up_ne (by omega)).trans (by first | assumption | exact up_eq | exact (up_ne (by omega)).trans (by first | assumption | exact up_eq | exact (up_ne (by omega)).trans (by first | assumption | exact up_eq)))) (by omega) (by rfl) ?_
  refine V_topi l2 ?_
  refine V_bipush (q := 120) (v := nI 115) dX8_readCommand_118 rfl (by decide) ?_
  refine V_icmpN_ne (q := 123) (tgt := 139) dX8_readCommand_120 (by decide) rfl (by omega) (by omega) (fun _ => ?_) (fun h9 => by first | exact h9.elim | (exfalso; omega))
  skip
  exact V_vret dX8_readCommand_139 rfl (Nat.le_of_ble_eq_true rfl) (Nat.le_of_ble_eq_true rfl) (⟨rfl, rfl, a, 1, _, _, _, _, ⟨K4, m4, f4, b4, k1.trans j1, l2, k3, rfl, rfl, k6.trans j6⟩, fun z => ⟨(hx z).1, (hx z).2, fun q => absurd ((hx z).2.trans q) (by decide)⟩, fun _ => ⟨rfl, rfl⟩⟩)
theorem m_rcGo {a x c : Nat} {i3 i4 i5 : Int32} (hT : TxK K0 T tl t) (hx : x ≤ 1) (hal : a ≤ tl) (hc7 : c < 127) (hc0 : x = 0 → (a < tl ∧ c = t a) ∨ (¬ a < tl ∧ c = 32)) (hc1 : x = 1 → c = 32) (hR : Rk g n p F Fs Fb pk Hs C T w0 K0 (nI a) (nI c) i3 i4 i5 (nI x) w1) : V g l MX8_readCommand (rmd 7 0 0) (FinM g (qV (RcQ g n p F Fs Fb pk Hs C T w0 K0 t tl a x) n) 0 0) 36 [some (rf g p)] [] (w1) n 0 0 := by
  obtain ⟨K1, m1, f1, b1, e1, e2, e3, e4, e5, e6⟩ := hR
  have c1 := m1.1
  have hn := m1.2.2.2.2.2.2.2.2.1
  by_cases q : x = 0 ∧ a < tl ∧ 48 ≤ t a ∧ t a ≤ 57
  · obtain ⟨rfl, q⟩ := q
    have hW : wAN t tl a = 0 := (wA_in q.1).trans (want_dig q.2.1 q.2.2)
    obtain ⟨-, d2, d3⟩ := rc_zero hW
    have hd0 : dgA t tl a = some (t a - 48) := if_pos q
    have hpos := dgs_yes (t := t) (tl := tl) (a := a) (m := 8) (by rw [hd0]; exact fun z => by cases z) (by decide)
    have hD8 := dgs_le t tl a 8
    have hle := dgs_tl (t := t) (m := 8) hal (Nat.le_refl _)
    have hdig : ∀ k, k < dgs t tl a 8 → ∃ dv, dgA t tl (a + k) = some dv ∧ nI (10 * numN t a k) + nI dv = nI (numN t a (k + 1)) := fun k hk => ⟨_, (dgs_dig hk).2.2.2, by rw [nI_add, Nat.mul_comm]; rfl⟩
    have hn0 : numN t a 0 = 0 := rfl
    have hend := dgs_end (t := t) (tl := tl) (s := a) (m := 8)
    have hcf : ∀ e, CmdF (nI 48) (nI (numN t a (dgs t tl a 8))) (nI (dgs t tl a 8)) e t tl a := fun e => ⟨fun _ => ⟨rfl, rfl, rfl⟩, fun z => absurd z (by omega), fun z => absurd z (by omega)⟩
    have hbd := bd_is d2 hW
    generalize numN t a = num at hdig hn0 hcf
    generalize dgs t tl a 8 = D at hpos hD8 hle hdig hend hcf d2 d3 hbd
    have hbd : bdN t tl a = 0 := by rw [hbd, if_neg (by omega)]
    refine V_aload_n (q := 37) dX8_readCommand_36 rfl rfl rfl ?_
    refine V_bipush (q := 39) (v := nI 48) dX8_readCommand_37 rfl (by decide) ?_
    refine V_bipush (q := 41) (v := nI 57) dX8_readCommand_39 rfl (by decide) ?_
    refine CrX8_185 (q := 44) rfl dX8_readCommand_41 rfl (m_sees0 m1 (hT.bas b1) (e6.trans nI_0'.symm) (a := a) (lo := 48) (hi := 57) e1 hal (by decide) (by decide)) ⟨(Nat.le_of_ble_eq_true rfl), (Nat.le_of_ble_eq_true rfl)⟩ (Nat.le_of_ble_eq_true rfl) (by first | assumption | exact up_eq | exact (up_ne (by omega)).trans (by first | assumption | exact up_eq | exact (up_ne (by omega)).trans (by first | assumption | exact up_eq | exact (up_ne (by omega)).trans (by first | assumption | exact up_eq)))) (by omega) (Nat.zero_le _) (Nat.zero_le _) ?_
    refine V_topi (if_pos q) ?_
    refine V_if_eq (q := 47) (tgt := 58) dX8_readCommand_44 (by decide) rfl (fun h9 => absurd h9 (by decide)) (fun _ => ?_)
    refine V_aload_n (q := 48) dX8_readCommand_47 rfl rfl rfl ?_
    refine V_bipush (q := 50) (v := nI 48) dX8_readCommand_48 rfl (by decide) ?_
    refine PX8_197 (q := 53) (fs' := [_, _, _, _, _, _, _, _, _, _, _, _, _, _, _, _, _, _, _, _, _, _, _, _, _, _]) rfl dX8_readCommand_50 rfl (by first | assumption | exact up_eq | exact (up_ne (by omega)).trans (by first | assumption | exact up_eq | exact (up_ne (by omega)).trans (by first | assumption | exact up_eq | exact (up_ne (by omega)).trans (by first | assumption | exact up_eq)))) (by omega) (by exact (Nat.le_of_ble_eq_true rfl)) (by rfl) ?_
    try rw [up_up]
    refine V_rk m1 f1 b1 (kAt K1) (nI 48) (kOn K1) (kOt K1) (kTh K1) (kWg K1) (fun w2 r2 => ?_)
    obtain ⟨K2, m2, f2, b2, g1, g2, g3, g4, g5, g6⟩ := r2
    have c2 := m2.1
    refine V_aload_n (q := 54) dX8_readCommand_53 rfl rfl rfl ?_
    refine CvX8_200 (q := 57) rfl dX8_readCommand_54 rfl (m_readRow (w0 := w0) (K0 := K0) ⟨K2, m2, f2, b2, g1.trans e1, g2, rfl, rfl, rfl, g6.trans (e6.trans nI_0'.symm)⟩ hT hal hD8 hle hn0 hdig hend) ⟨(Nat.le_of_ble_eq_true rfl), (Nat.le_of_ble_eq_true rfl)⟩ (Nat.le_of_ble_eq_true rfl) (by first | assumption | exact up_eq | exact (up_ne (by omega)).trans (by first | assumption | exact up_eq | exact (up_ne (by omega)).trans (by first | assumption | exact up_eq | exact (up_ne (by omega)).trans (by first | assumption | exact up_eq)))) (by omega) (Nat.zero_le _) (Nat.zero_le _) (fun w3 hw3 => ?_)
    skip
    exact V_vret dX8_readCommand_57 rfl (Nat.le_of_ble_eq_true rfl) (Nat.le_of_ble_eq_true rfl) (⟨rfl, rfl, a + D, 0, _, _, _, _, hw3, fun _ => ⟨d3.symm, hbd.symm, fun _ => hcf _⟩, fun z => by cases z⟩)
  · have see : CtR g l MX8_sees 1 [rf g p, .int (nI 48), .int (nI 57)] w1 n (.int 0) := by
      by_cases hx0 : x = 0
      · subst hx0
        have := m_sees0 (l := l) m1 (hT.bas b1) (e6.trans nI_0'.symm) (a := a) (lo := 48) (hi := 57) e1 hal (by decide) (by decide)
        rw [if_neg (fun z => q ⟨rfl, z⟩)] at this
        exact this
      · obtain rfl : x = 1 := by omega
        exact m_sees1 m1 e6
    refine V_aload_n (q := 37) dX8_readCommand_36 rfl rfl rfl ?_
    refine V_bipush (q := 39) (v := nI 48) dX8_readCommand_37 rfl (by decide) ?_
    refine V_bipush (q := 41) (v := nI 57) dX8_readCommand_39 rfl (by decide) ?_
    refine CrX8_185 (q := 44) rfl dX8_readCommand_41 rfl (see) ⟨(Nat.le_of_ble_eq_true rfl), (Nat.le_of_ble_eq_true rfl)⟩ (Nat.le_of_ble_eq_true rfl) (by first | assumption | exact up_eq | exact (up_ne (by omega)).trans (by first | assumption | exact up_eq | exact (up_ne (by omega)).trans (by first | assumption | exact up_eq | exact (up_ne (by omega)).trans (by first | assumption | exact up_eq)))) (by omega) (Nat.zero_le _) (Nat.zero_le _) ?_
    refine V_if_eq (q := 47) (tgt := 58) dX8_readCommand_44 (by decide) rfl (fun _ => ?_) (fun h9 => absurd rfl h9)
    refine V_aload_n (q := 59) dX8_readCommand_58 rfl rfl rfl ?_
    refine V_dup (q := 60) dX8_readCommand_59 rfl rfl ?_
    refine GX8_179 (q := 63) rfl dX8_readCommand_60 rfl (by first | assumption | exact up_eq | exact (up_ne (by omega)).trans (by first | assumption | exact up_eq | exact (up_ne (by omega)).trans (by first | assumption | exact up_eq | exact (up_ne (by omega)).trans (by first | assumption | exact up_eq)))) (by omega) (by rfl) ?_
    refine V_topi e6 ?_
    refine V_ldcS (q := 65) dX8_readCommand_63 rfl rfl ?_
    refine V_aload_n (q := 66) dX8_readCommand_65 rfl rfl rfl ?_
    refine GX8_197 (q := 69) rfl dX8_readCommand_66 rfl (by first | assumption | exact up_eq | exact (up_ne (by omega)).trans (by first | assumption | exact up_eq | exact (up_ne (by omega)).trans (by first | assumption | exact up_eq | exact (up_ne (by omega)).trans (by first | assumption | exact up_eq)))) (by omega) (by rfl) ?_
    refine V_topi e2 ?_
    refine V_i2c (q := 70) dX8_readCommand_69 rfl (i2cN (by omega)) ?_
    refine CrX8_205 (q := 73) rfl dX8_readCommand_70 rfl (c_indexOf hc7) ⟨(Nat.le_of_ble_eq_true rfl), (Nat.le_of_ble_eq_true rfl)⟩ (Nat.le_of_ble_eq_true rfl) (Nat.zero_le _) (Nat.zero_le _) ?_
    by_cases hl : ixS c < 8
    · have hwp := (ixS_want c hc7).mp hl
      have hx0 : x = 0 := by
        by_cases z : x = 0
        · exact z
        · rw [hc1 (by omega)] at hwp
          exact absurd hwp (by decide)
      subst hx0
      have hca : a < tl ∧ c = t a := by
        rcases hc0 rfl with z | z
        · exact z
        · rw [z.2] at hwp
          exact absurd hwp (by decide)
      generalize ixS c = ix at hl ⊢
      refine V_topi (if_pos hl) ?_
      refine V_ifN_ge (q := 76) (tgt := 80) dX8_readCommand_73 (by decide) rfl (by omega) (fun _ => ?_) (fun h9 => by first | exact h9.elim | (exfalso; omega))
      refine V_iconst (q := 81) (v := nI 0) dX8_readCommand_80 rfl (by decide) ?_
      refine V_ior (q := 82) dX8_readCommand_81 rfl (show nI 0 ||| nI 0 = nI 0 by decide) ?_
      refine PX8_179 (q := 85) (fs' := [_, _, _, _, _, _, _, _, _, _, _, _, _, _, _, _, _, _, _, _, _, _, _, _, _, _]) rfl dX8_readCommand_82 rfl rfl rfl (by first | assumption | exact up_eq | exact (up_ne (by omega)).trans (by first | assumption | exact up_eq | exact (up_ne (by omega)).trans (by first | assumption | exact up_eq | exact (up_ne (by omega)).trans (by first | assumption | exact up_eq)))) (by omega) (by exact (Nat.le_of_ble_eq_true rfl)) (by rfl) ?_
      try rw [up_up]
      refine V_rk m1 f1 b1 (kAt K1) (kWh K1) (kOn K1) (kOt K1) (kTh K1) (nI 0) (fun w2 r2 => ?_)
      obtain ⟨K2, m2, f2, b2, g1, g2, g3, g4, g5, g6⟩ := r2
      exact m_rcLet hT ⟨K2, m2, f2, b2, g1.trans e1, g2.trans e2, rfl, rfl, rfl, g6⟩ hca.1 hca.2 hwp hc7
    · have hwz : ¬ 0 < wantN c := fun z => hl ((ixS_want c hc7).mpr z)
      have hor : nI x ||| nI 1 = nI 1 := by
        rcases (by omega : x = 0 ∨ x = 1) with z | z
        · rw [z]; decide
        · rw [z]; decide
      have hcs : c ≠ 115 := fun z => hwz (by rw [z]; decide)
      have hx9 : x = 0 → a = nxN t tl a ∧ 1 = bdN t tl a := by
        intro hx0
        have hW : wAN t tl a = 0 := by
          rcases hc0 hx0 with z | z
          · rw [wA_in z.1, ← z.2]; omega
          · exact wA_out z.1
        obtain ⟨-, d2, d3⟩ := rc_zero hW
        have hdn : dgA t tl a = none := if_neg (fun z => q ⟨hx0, z⟩)
        rw [dgs_no hdn] at d2 d3
        exact ⟨d3.symm, by rw [bd_is d2 hW]; rfl⟩
      generalize ixS c = ix at hl ⊢
      refine V_topi (if_neg hl) ?_
      refine V_if_ge (q := 76) (tgt := 80) dX8_readCommand_73 (by decide) rfl (fun h9 => absurd h9 (by decide)) (fun _ => ?_)
      refine V_iconst (q := 77) (v := nI 1) dX8_readCommand_76 rfl (by decide) ?_
      refine V_goto (tgt := 81) dX8_readCommand_77 (by decide) ?_
      refine V_ior (q := 82) dX8_readCommand_81 rfl hor ?_
      refine PX8_179 (q := 85) (fs' := [_, _, _, _, _, _, _, _, _, _, _, _, _, _, _, _, _, _, _, _, _, _, _, _, _, _]) rfl dX8_readCommand_82 rfl rfl rfl (by first | assumption | exact up_eq | exact (up_ne (by omega)).trans (by first | assumption | exact up_eq | exact (up_ne (by omega)).trans (by first | assumption | exact up_eq | exact (up_ne (by omega)).trans (by first | assumption | exact up_eq)))) (by omega) (by exact (Nat.le_of_ble_eq_true rfl)) (by rfl) ?_
      try rw [up_up]
      refine V_rk m1 f1 b1 (kAt K1) (kWh K1) (kOn K1) (kOt K1) (kTh K1) (nI 1) (fun w2 r2 => ?_)
      obtain ⟨K2, m2, f2, b2, g1, g2, g3, g4, g5, g6⟩ := r2
      exact m_rcBad ⟨K2, m2, f2, b2, g1.trans e1, g2.trans e2, rfl, rfl, rfl, g6⟩ hcs hc7 hx9
theorem m_readCommand {x a : Nat} {i2 i3 i4 i5 : Int32} (hT : TxK K0 T tl t) (hx : x ≤ 1) (hal : a ≤ tl) (hR : Rk g n p F Fs Fb pk Hs C T w0 K0 (nI a) i2 i3 i4 i5 (nI x) w1) : CtV g l MX8_readCommand 7 [rf g p] w1 n (RcQ g n p F Fs Fb pk Hs C T w0 K0 t tl a x) := by
  obtain ⟨K1, m1, f1, b1, e1, e2, e3, e4, e5, e6⟩ := hR
  have c1 := m1.1
  have hn := m1.2.2.2.2.2.2.2.2.1
  have hTT := m1.2.2.2.2.2.2.2.1
  obtain ⟨t1, t2, t3⟩ := hT.bas b1
  have blank : (x = 0 → ¬ a < tl) → V g l MX8_readCommand (rmd 7 0 0) (FinM g (qV (RcQ g n p F Fs Fb pk Hs C T w0 K0 t tl a x) n) 0 0) 31 [some (rf g p)] [rf g p] (w1) n 0 0 := by
    intro hb
    refine V_bipush (q := 33) (v := nI 32) dX8_readCommand_31 rfl (by decide) ?_
    refine PX8_197 (q := 36) (fs' := [_, _, _, _, _, _, _, _, _, _, _, _, _, _, _, _, _, _, _, _, _, _, _, _, _, _]) rfl dX8_readCommand_33 rfl (by first | assumption | exact up_eq | exact (up_ne (by omega)).trans (by first | assumption | exact up_eq | exact (up_ne (by omega)).trans (by first | assumption | exact up_eq | exact (up_ne (by omega)).trans (by first | assumption | exact up_eq)))) (by omega) (by exact (Nat.le_of_ble_eq_true rfl)) (by rfl) ?_
    try rw [up_up]
    refine V_rk m1 f1 b1 (kAt K1) (nI 32) (kOn K1) (kOt K1) (kTh K1) (kWg K1) (fun w2 r2 => ?_)
    obtain ⟨K2, m2, f2, b2, g1, g2, g3, g4, g5, g6⟩ := r2
    exact m_rcGo hT hx hal (by decide) (fun z => Or.inr ⟨hb z, rfl⟩) (fun _ => rfl) ⟨K2, m2, f2, b2, g1.trans e1, g2, rfl, rfl, rfl, g6.trans e6⟩
  refine Ct.ofs (M := MX8_readCommand) (ls := [some _]) (by decide +kernel) (by exact (Nat.le_of_ble_eq_true rfl)) (by rfl) (by rfl) (by rfl) ?_
  refine V_aload_n (q := 1) dX8_readCommand_0 rfl rfl rfl ?_
  refine V_aload_n (q := 2) dX8_readCommand_1 rfl rfl rfl ?_
  refine GX8_179 (q := 5) rfl dX8_readCommand_2 rfl (by first | assumption | exact up_eq | exact (up_ne (by omega)).trans (by first | assumption | exact up_eq | exact (up_ne (by omega)).trans (by first | assumption | exact up_eq | exact (up_ne (by omega)).trans (by first | assumption | exact up_eq)))) (by omega) (by rfl) ?_
  refine V_topi e6 ?_
  by_cases hx0 : x = 0
  · subst hx0
    refine V_if_ne (q := 8) (tgt := 31) dX8_readCommand_5 (by decide) rfl (fun h9 => absurd rfl h9) (fun _ => ?_)
    refine V_aload_n (q := 9) dX8_readCommand_8 rfl rfl rfl ?_
    refine GX8_182 (q := 12) rfl dX8_readCommand_9 rfl (by first | assumption | exact up_eq | exact (up_ne (by omega)).trans (by first | assumption | exact up_eq | exact (up_ne (by omega)).trans (by first | assumption | exact up_eq | exact (up_ne (by omega)).trans (by first | assumption | exact up_eq)))) (by omega) (by rfl) ?_
    refine V_topi e1 ?_
    refine V_aload_n (q := 13) dX8_readCommand_12 rfl rfl rfl ?_
    refine GX8_176 (q := 16) rfl dX8_readCommand_13 rfl (by first | assumption | exact up_eq | exact (up_ne (by omega)).trans (by first | assumption | exact up_eq | exact (up_ne (by omega)).trans (by first | assumption | exact up_eq | exact (up_ne (by omega)).trans (by first | assumption | exact up_eq)))) (by omega) (by rfl) ?_
    refine V_topi t1 ?_
    refine V_icmpN_ge (q := 19) (tgt := 31) dX8_readCommand_16 (by decide) rfl (by omega) (by omega) (fun hq => ?_) (fun hq => ?_)
    · skip
      exact blank (fun _ => by omega)
    · skip
      obtain ⟨y1, y2, y3⟩ := t3 a hq
      refine V_aload_n (q := 20) dX8_readCommand_19 rfl rfl rfl ?_
      refine GX8_44 (q := 23) rfl dX8_readCommand_20 rfl (by first | assumption | exact up_eq | exact (up_ne (by omega)).trans (by first | assumption | exact up_eq | exact (up_ne (by omega)).trans (by first | assumption | exact up_eq | exact (up_ne (by omega)).trans (by first | assumption | exact up_eq)))) (by omega) (by rfl) ?_
      refine V_aload_n (q := 24) dX8_readCommand_23 rfl rfl rfl ?_
      refine GX8_182 (q := 27) rfl dX8_readCommand_24 rfl (by first | assumption | exact up_eq | exact (up_ne (by omega)).trans (by first | assumption | exact up_eq | exact (up_ne (by omega)).trans (by first | assumption | exact up_eq | exact (up_ne (by omega)).trans (by first | assumption | exact up_eq)))) (by omega) (by rfl) ?_
      refine V_topi e1 ?_
      refine V_ialdN (q := 28) dX8_readCommand_27 rfl (by first | assumption | exact up_eq | exact (up_ne (by omega)).trans (by first | assumption | exact up_eq | exact (up_ne (by omega)).trans (by first | assumption | exact up_eq | exact (up_ne (by omega)).trans (by first | assumption | exact up_eq)))) (by omega) (by omega) (by omega) rfl y1 ?_
      refine V_goto (tgt := 33) dX8_readCommand_28 (by decide) ?_
      refine PX8_197 (q := 36) (fs' := [_, _, _, _, _, _, _, _, _, _, _, _, _, _, _, _, _, _, _, _, _, _, _, _, _, _]) rfl dX8_readCommand_33 rfl (by first | assumption | exact up_eq | exact (up_ne (by omega)).trans (by first | assumption | exact up_eq | exact (up_ne (by omega)).trans (by first | assumption | exact up_eq | exact (up_ne (by omega)).trans (by first | assumption | exact up_eq)))) (by omega) (by exact (Nat.le_of_ble_eq_true rfl)) (by rfl) ?_
      try rw [up_up]
      refine V_rk m1 f1 b1 (kAt K1) (nI (t a)) (kOn K1) (kOt K1) (kTh K1) (kWg K1) (fun w2 r2 => ?_)
      obtain ⟨K2, m2, f2, b2, g1, g2, g3, g4, g5, g6⟩ := r2
      exact m_rcGo hT hx hal (by omega) (fun z => Or.inl ⟨hq, rfl⟩) (fun z => by cases z) ⟨K2, m2, f2, b2, g1.trans e1, g2, rfl, rfl, rfl, g6.trans e6⟩
  · obtain rfl : x = 1 := by omega
    refine V_if_ne (q := 8) (tgt := 31) dX8_readCommand_5 (by decide) rfl (fun _ => ?_) (fun h9 => absurd h9 (by decide))
    exact blank (fun z => by cases z)
end MT
