/-! the model: answers that change nothing -/
theorem sub2 (x a b : Int32) : x - a - b = x - (a + b) := by
  first
  | exact Int32.sub_sub x a b
  | (rw [Int32.sub_eq_add_neg, Int32.sub_eq_add_neg, Int32.sub_eq_add_neg, Int32.neg_add, Int32.add_assoc])
theorem sub0 {x a : Int32} : x - a = 0 ↔ a = x := by
  constructor
  · intro h
    have := Int32.sub_add_cancel x a
    rw [h, Int32.zero_add] at this
    exact this
  · intro h
    rw [h, Int32.sub_self]
theorem neg2 (x : Int32) : - - x = x := Int32.neg_neg
abbrev MS : Type := Int32 × Int32 × Int32 × Int32 × Int32 × Int32 × Int32 × Int32 × Int32 × Int32 × Int32 × Int32 × Int32 × Int32 × Int32 × Int32
abbrev kKp (K : MS) : Int32 := K.1
abbrev kRe (K : MS) : Int32 := K.2.1
abbrev kDe (K : MS) : Int32 := K.2.2.1
abbrev kIT (K : MS) : Int32 := K.2.2.2.1
abbrev kCm (K : MS) : Int32 := K.2.2.2.2.1
abbrev kSv (K : MS) : Int32 := K.2.2.2.2.2.1
abbrev kIn (K : MS) : Int32 := K.2.2.2.2.2.2.1
abbrev kLn (K : MS) : Int32 := K.2.2.2.2.2.2.2.1
abbrev kWr (K : MS) : Int32 := K.2.2.2.2.2.2.2.2.1
abbrev kRd (K : MS) : Int32 := K.2.2.2.2.2.2.2.2.2.1
abbrev kAt (K : MS) : Int32 := K.2.2.2.2.2.2.2.2.2.2.1
abbrev kWh (K : MS) : Int32 := K.2.2.2.2.2.2.2.2.2.2.2.1
abbrev kOn (K : MS) : Int32 := K.2.2.2.2.2.2.2.2.2.2.2.2.1
abbrev kOt (K : MS) : Int32 := K.2.2.2.2.2.2.2.2.2.2.2.2.2.1
abbrev kTh (K : MS) : Int32 := K.2.2.2.2.2.2.2.2.2.2.2.2.2.2.1
abbrev kWg (K : MS) : Int32 := K.2.2.2.2.2.2.2.2.2.2.2.2.2.2.2
abbrev mfs (g : GG) (p : Nat) (K : MS) : List Value := [rf g (p + 1), rf g (p + 2), rf g (p + 3), rf g (p + 4), .int (kKp K), .int (kRe K), .int (kDe K), .int (kIT K), .int (kCm K), .int (kSv K), .int (kIn K), rf g (p + 13), rf g (p + 14), rf g (p + 15), rf g (p + 16), .int (kLn K), rf g (p + 17), .int (kWr K), rf g (p + 18), .int (kRd K), .int (kAt K), .int (kWh K), .int (kOn K), .int (kOt K), .int (kTh K), .int (kWg K)]
noncomputable def wKI (k : Nat) (row : RowT) : Int32 := if k = 0 then - nI row.1 else if k = 1 then mbaI row.2 row.1 else - nI (maxN row.2 row.1)
def Sml (v : Int32) : Prop := ∃ a, a < 20 ∧ v = nI a - nI 10
theorem sml_pos : ∀ a, a < 10 → nI a = nI (a + 10) - nI 10 ∧ - nI a = nI (10 - a) - nI 10 := by decide +kernel
theorem sml_cmp0 : ∀ a, a < 20 → ∀ b, b < 20 → ((0 < (nI a - nI 10) - (nI b - nI 10)) ↔ -(nI a - nI 10) < -(nI b - nI 10)) ∧ (((nI a - nI 10) - (nI b - nI 10) = 0) ↔ -(nI a - nI 10) = -(nI b - nI 10)) := by decide +kernel
theorem sml_cmp {u v : Int32} (hu : Sml u) (hv : Sml v) : ((0 < u - v) ↔ -u < -v) ∧ ((u - v = 0) ↔ -u = -v) := by
  obtain ⟨a, ha, rfl⟩ := hu
  obtain ⟨b, hb, rfl⟩ := hv
  exact sml_cmp0 a ha b hb
theorem wKI_sml {k : Nat} {row : RowT} (h0 : 0 < row.1) (h8 : row.1 ≤ 8) (hh : ∀ j, j < row.1 → row.2 j ≤ 9) : Sml (wKI k row) := by
  have hm := maxN_le hh
  have hd := divL_le h0 hh
  unfold wKI
  by_cases a : k = 0
  · rw [if_pos a]; exact ⟨10 - row.1, by omega, (sml_pos _ (by omega)).2⟩
  · rw [if_neg a]
    by_cases b : k = 1
    · rw [if_pos b]
      unfold mbaI
      by_cases c : clN row.2 row.1 = row.1
      · rw [if_pos c]; exact ⟨sumN row.2 row.1 / row.1 + 10, by omega, (sml_pos _ (by omega)).1⟩
      · rw [if_neg c]; exact ⟨9, by decide, by decide⟩
    · rw [if_neg b]; exact ⟨10 - maxN row.2 row.1, by omega, (sml_pos _ (by omega)).2⟩
theorem rkK_neg {k : Nat} {row : RowT} (hk : k < 3) (h0 : 0 < row.1) (hh : ∀ j, j < row.1 → row.2 j ≤ 9) : rkK k row = - wKI k row := by
  have hd := divL_le h0 hh
  unfold rkK wKI
  by_cases a : k = 0
  · rw [if_pos a, if_pos a, neg2]
  · rw [if_neg a, if_neg a]
    by_cases b : k = 1
    · rw [if_neg (by omega), if_pos b]
      unfold ballI mbaI
      by_cases c : clN row.2 row.1 = row.1
      · rw [if_pos c, if_pos c, if_neg (nI_m4 (by omega))]
      · rw [if_neg c, if_neg c, if_pos rfl]; decide
    · rw [if_pos (by omega), if_neg b, neg2]
section MA
variable {g : GG} {l : Launch} {w : HW} {n p : Nat} {F : Nat → Int32} {N : StT} {fs : List Value}
theorem M_rowOf (h0 : w p = eO 8 (rf g (p + 1) :: fs)) (h1 : w (p + 1) = eI g 63 F) (hn : p + 1 < n) (hR : RN F N) {x y : Int32} : CtR g l MX8_rowOf 4 [rf g p, .int x, .int y] w n (.int (rowA x y N)) := by
  have hc6 := hR.2.2.1.1
  rcases i3_lt x (sC N) (by omega) with hx | ⟨i, hi, rfl⟩
  · rw [show rowA x y N = -1 by unfold rowA; rw [idx_no hx]]
    refine Ct.ofs (M := MX8_rowOf) (ls := [some _, some _, some _]) (by decide +kernel) (by exact (Nat.le_of_ble_eq_true rfl)) (by rfl) (by rfl) (by rfl) ?_
    refine V_aload_n (q := 1) dX8_rowOf_0 rfl rfl rfl ?_
    refine V_iload_n (q := 2) dX8_rowOf_1 rfl rfl ?_
    refine CrX8_123 (q := 5) rfl dX8_rowOf_2 rfl (m_isRow_out h0 h1 hn hR hx) ⟨(Nat.le_of_ble_eq_true rfl), (Nat.le_of_ble_eq_true rfl)⟩ (Nat.le_of_ble_eq_true rfl) (by first | assumption | exact up_eq | exact (up_ne (by omega)).trans (by first | assumption | exact up_eq | exact (up_ne (by omega)).trans (by first | assumption | exact up_eq | exact (up_ne (by omega)).trans (by first | assumption | exact up_eq)))) (by omega) (Nat.zero_le _) (Nat.zero_le _) ?_
    refine V_if_ne (q := 8) (tgt := 10) dX8_rowOf_5 (by decide) rfl (fun h9 => absurd rfl h9) (fun _ => ?_)
    refine V_iconst (q := 9) (v := (-1)) dX8_rowOf_8 rfl (by decide) ?_
    exact V_iret dX8_rowOf_9 rfl (Nat.le_of_ble_eq_true rfl) (Nat.le_of_ble_eq_true rfl) (⟨rfl, rfl, rfl⟩)
  obtain ⟨e0, e1, e2⟩ := hR.2.2.1.2 i hi
  refine Ct.ofs (M := MX8_rowOf) (ls := [some _, some _, some _]) (by decide +kernel) (by exact (Nat.le_of_ble_eq_true rfl)) (by rfl) (by rfl) (by rfl) ?_
  refine V_aload_n (q := 1) dX8_rowOf_0 rfl rfl rfl ?_
  refine V_iload_n (q := 2) dX8_rowOf_1 rfl rfl ?_
  refine CrX8_123 (q := 5) rfl dX8_rowOf_2 rfl (m_isRow_in h0 h1 hn hR hi) ⟨(Nat.le_of_ble_eq_true rfl), (Nat.le_of_ble_eq_true rfl)⟩ (Nat.le_of_ble_eq_true rfl) (by first | assumption | exact up_eq | exact (up_ne (by omega)).trans (by first | assumption | exact up_eq | exact (up_ne (by omega)).trans (by first | assumption | exact up_eq | exact (up_ne (by omega)).trans (by first | assumption | exact up_eq)))) (by omega) (Nat.zero_le _) (Nat.zero_le _) ?_
  refine V_if_ne (q := 8) (tgt := 10) dX8_rowOf_5 (by decide) rfl (fun _ => ?_) (fun h9 => absurd h9 (by decide))
  refine V_iload_n (q := 11) dX8_rowOf_10 rfl rfl ?_
  rcases i3_lt y 8 (by decide) with hy | ⟨k, hk, rfl⟩
  · rw [show rowA (nI i) y N = -2 by unfold rowA; rw [idx_yes hi (by omega)]; show (match idx y 8 with | none => _ | some k => _) = _; rw [idx_no hy]]
    refine V_tabOut (tgt := 110) dX8_rowOf_11 (by have := out_int hy (by decide); omega) (by decide) ?_
    refine V_bipush (q := 112) (v := (-2)) dX8_rowOf_110 rfl (by decide) ?_
    exact V_iret dX8_rowOf_112 rfl (Nat.le_of_ble_eq_true rfl) (Nat.le_of_ble_eq_true rfl) (⟨rfl, rfl, rfl⟩)
  rw [show rowA (nI i) (nI k) N = rowW (sR N i) k by unfold rowA; rw [idx_yes hi (by omega)]; show (match idx (nI k) 8 with | none => _ | some k => _) = _; rw [idx_yes hk (by decide)]]
  rcases (by omega : k = 0 ∨ k = 1 ∨ k = 2 ∨ k = 3 ∨ k = 4 ∨ k = 5 ∨ k = 6 ∨ k = 7) with rfl | rfl | rfl | rfl | rfl | rfl | rfl | rfl
  · skip
    refine V_tabIn (off := 45) (tgt := 56) dX8_rowOf_11 (by decide) (by decide) (by decide) (by decide) ?_
    refine V_aload_n (q := 57) dX8_rowOf_56 rfl rfl rfl ?_
    refine V_iload_n (q := 58) dX8_rowOf_57 rfl rfl ?_
    refine CrX8_75 (q := 61) rfl dX8_rowOf_58 rfl (m_lengthOf h0 h1 hn hR hi) ⟨(Nat.le_of_ble_eq_true rfl), (Nat.le_of_ble_eq_true rfl)⟩ (Nat.le_of_ble_eq_true rfl) (by first | assumption | exact up_eq | exact (up_ne (by omega)).trans (by first | assumption | exact up_eq | exact (up_ne (by omega)).trans (by first | assumption | exact up_eq | exact (up_ne (by omega)).trans (by first | assumption | exact up_eq)))) (by omega) (Nat.zero_le _) (Nat.zero_le _) ?_
    skip
    exact V_iret dX8_rowOf_61 rfl (Nat.le_of_ble_eq_true rfl) (Nat.le_of_ble_eq_true rfl) (⟨rfl, rfl, rfl⟩)
  · skip
    refine V_tabIn (off := 51) (tgt := 62) dX8_rowOf_11 (by decide) (by decide) (by decide) (by decide) ?_
    refine V_aload_n (q := 63) dX8_rowOf_62 rfl rfl rfl ?_
    refine V_iload_n (q := 64) dX8_rowOf_63 rfl rfl ?_
    refine CrX8_86 (q := 67) rfl dX8_rowOf_64 rfl (m_sumOf h0 h1 hn hR hi) ⟨(Nat.le_of_ble_eq_true rfl), (Nat.le_of_ble_eq_true rfl)⟩ (Nat.le_of_ble_eq_true rfl) (by first | assumption | exact up_eq | exact (up_ne (by omega)).trans (by first | assumption | exact up_eq | exact (up_ne (by omega)).trans (by first | assumption | exact up_eq | exact (up_ne (by omega)).trans (by first | assumption | exact up_eq)))) (by omega) (Nat.zero_le _) (Nat.zero_le _) ?_
    skip
    exact V_iret dX8_rowOf_67 rfl (Nat.le_of_ble_eq_true rfl) (Nat.le_of_ble_eq_true rfl) (⟨rfl, rfl, rfl⟩)
  · skip
    refine V_tabIn (off := 57) (tgt := 68) dX8_rowOf_11 (by decide) (by decide) (by decide) (by decide) ?_
    refine V_aload_n (q := 69) dX8_rowOf_68 rfl rfl rfl ?_
    refine V_iload_n (q := 70) dX8_rowOf_69 rfl rfl ?_
    refine CrX8_103 (q := 73) rfl dX8_rowOf_70 rfl (m_ballsOf h0 h1 hn hR hi) ⟨(Nat.le_of_ble_eq_true rfl), (Nat.le_of_ble_eq_true rfl)⟩ (Nat.le_of_ble_eq_true rfl) (by first | assumption | exact up_eq | exact (up_ne (by omega)).trans (by first | assumption | exact up_eq | exact (up_ne (by omega)).trans (by first | assumption | exact up_eq | exact (up_ne (by omega)).trans (by first | assumption | exact up_eq)))) (by omega) (Nat.zero_le _) (Nat.zero_le _) ?_
    skip
    refine CrX8_130 (q := 76) rfl dX8_rowOf_73 rfl (m_orNothing) ⟨(Nat.le_of_ble_eq_true rfl), (Nat.le_of_ble_eq_true rfl)⟩ (Nat.le_of_ble_eq_true rfl) (Nat.zero_le _) (Nat.zero_le _) ?_
    refine V_topi (orN_ba e0 e2) ?_
    skip
    exact V_iret dX8_rowOf_76 rfl (Nat.le_of_ble_eq_true rfl) (Nat.le_of_ble_eq_true rfl) (⟨rfl, rfl, rfl⟩)
  · skip
    refine V_tabIn (off := 66) (tgt := 77) dX8_rowOf_11 (by decide) (by decide) (by decide) (by decide) ?_
    refine V_aload_n (q := 78) dX8_rowOf_77 rfl rfl rfl ?_
    refine V_iload_n (q := 79) dX8_rowOf_78 rfl rfl ?_
    refine CrX8_83 (q := 82) rfl dX8_rowOf_79 rfl (m_clashOf h0 h1 hn hR hi) ⟨(Nat.le_of_ble_eq_true rfl), (Nat.le_of_ble_eq_true rfl)⟩ (Nat.le_of_ble_eq_true rfl) (by first | assumption | exact up_eq | exact (up_ne (by omega)).trans (by first | assumption | exact up_eq | exact (up_ne (by omega)).trans (by first | assumption | exact up_eq | exact (up_ne (by omega)).trans (by first | assumption | exact up_eq)))) (by omega) (Nat.zero_le _) (Nat.zero_le _) ?_
    skip
    refine CrX8_130 (q := 85) rfl dX8_rowOf_82 rfl (m_orNothing) ⟨(Nat.le_of_ble_eq_true rfl), (Nat.le_of_ble_eq_true rfl)⟩ (Nat.le_of_ble_eq_true rfl) (Nat.zero_le _) (Nat.zero_le _) ?_
    refine V_topi (orN_cl (by omega)) ?_
    skip
    exact V_iret dX8_rowOf_85 rfl (Nat.le_of_ble_eq_true rfl) (Nat.le_of_ble_eq_true rfl) (⟨rfl, rfl, rfl⟩)
  · skip
    refine V_tabIn (off := 75) (tgt := 86) dX8_rowOf_11 (by decide) (by decide) (by decide) (by decide) ?_
    refine V_aload_n (q := 87) dX8_rowOf_86 rfl rfl rfl ?_
    refine V_iload_n (q := 88) dX8_rowOf_87 rfl rfl ?_
    refine CrX8_145 (q := 91) rfl dX8_rowOf_88 rfl (m_periodOf h0 h1 hn hR hi) ⟨(Nat.le_of_ble_eq_true rfl), (Nat.le_of_ble_eq_true rfl)⟩ (Nat.le_of_ble_eq_true rfl) (by first | assumption | exact up_eq | exact (up_ne (by omega)).trans (by first | assumption | exact up_eq | exact (up_ne (by omega)).trans (by first | assumption | exact up_eq | exact (up_ne (by omega)).trans (by first | assumption | exact up_eq)))) (by omega) (Nat.zero_le _) (Nat.zero_le _) ?_
    skip
    exact V_iret dX8_rowOf_91 rfl (Nat.le_of_ble_eq_true rfl) (Nat.le_of_ble_eq_true rfl) (⟨rfl, rfl, rfl⟩)
  · skip
    refine V_tabIn (off := 81) (tgt := 92) dX8_rowOf_11 (by decide) (by decide) (by decide) (by decide) ?_
    refine V_aload_n (q := 93) dX8_rowOf_92 rfl rfl rfl ?_
    refine V_iload_n (q := 94) dX8_rowOf_93 rfl rfl ?_
    refine CrX8_148 (q := 97) rfl dX8_rowOf_94 rfl (m_greatestOf h0 h1 hn hR hi) ⟨(Nat.le_of_ble_eq_true rfl), (Nat.le_of_ble_eq_true rfl)⟩ (Nat.le_of_ble_eq_true rfl) (by first | assumption | exact up_eq | exact (up_ne (by omega)).trans (by first | assumption | exact up_eq | exact (up_ne (by omega)).trans (by first | assumption | exact up_eq | exact (up_ne (by omega)).trans (by first | assumption | exact up_eq)))) (by omega) (Nat.zero_le _) (Nat.zero_le _) ?_
    skip
    exact V_iret dX8_rowOf_97 rfl (Nat.le_of_ble_eq_true rfl) (Nat.le_of_ble_eq_true rfl) (⟨rfl, rfl, rfl⟩)
  · skip
    refine V_tabIn (off := 87) (tgt := 98) dX8_rowOf_11 (by decide) (by decide) (by decide) (by decide) ?_
    refine V_aload_n (q := 99) dX8_rowOf_98 rfl rfl rfl ?_
    refine V_iload_n (q := 100) dX8_rowOf_99 rfl rfl ?_
    refine CrX8_151 (q := 103) rfl dX8_rowOf_100 rfl (m_oddOf h0 h1 hn hR hi) ⟨(Nat.le_of_ble_eq_true rfl), (Nat.le_of_ble_eq_true rfl)⟩ (Nat.le_of_ble_eq_true rfl) (by first | assumption | exact up_eq | exact (up_ne (by omega)).trans (by first | assumption | exact up_eq | exact (up_ne (by omega)).trans (by first | assumption | exact up_eq | exact (up_ne (by omega)).trans (by first | assumption | exact up_eq)))) (by omega) (Nat.zero_le _) (Nat.zero_le _) ?_
    skip
    exact V_iret dX8_rowOf_103 rfl (Nat.le_of_ble_eq_true rfl) (Nat.le_of_ble_eq_true rfl) (⟨rfl, rfl, rfl⟩)
  · skip
    refine V_tabIn (off := 93) (tgt := 104) dX8_rowOf_11 (by decide) (by decide) (by decide) (by decide) ?_
    refine V_aload_n (q := 105) dX8_rowOf_104 rfl rfl rfl ?_
    refine V_iload_n (q := 106) dX8_rowOf_105 rfl rfl ?_
    refine CrX8_154 (q := 109) rfl dX8_rowOf_106 rfl (m_isPrime h0 h1 hn hR hi) ⟨(Nat.le_of_ble_eq_true rfl), (Nat.le_of_ble_eq_true rfl)⟩ (Nat.le_of_ble_eq_true rfl) (by first | assumption | exact up_eq | exact (up_ne (by omega)).trans (by first | assumption | exact up_eq | exact (up_ne (by omega)).trans (by first | assumption | exact up_eq | exact (up_ne (by omega)).trans (by first | assumption | exact up_eq)))) (by omega) (Nat.zero_le _) (Nat.zero_le _) ?_
    skip
    exact V_iret dX8_rowOf_109 rfl (Nat.le_of_ble_eq_true rfl) (Nat.le_of_ble_eq_true rfl) (⟨rfl, rfl, rfl⟩)
theorem M_throwAt (h0 : w p = eO 8 (rf g (p + 1) :: fs)) (h1 : w (p + 1) = eI g 63 F) (hn : p + 1 < n) (hR : RN F N) {x y : Int32} : CtR g l MX8_throwAt 2 [rf g p, .int x, .int y] w n (.int (thrAt x y N)) := by
  have hc6 := hR.2.2.1.1
  rcases i3_lt x (sC N) (by omega) with hx | ⟨i, hi, rfl⟩
  · rw [show thrAt x y N = -1 by unfold thrAt; rw [idx_no hx]]
    refine Ct.ofs (M := MX8_throwAt) (ls := [some _, some _, some _]) (by decide +kernel) (by exact (Nat.le_of_ble_eq_true rfl)) (by rfl) (by rfl) (by rfl) ?_
    refine V_aload_n (q := 1) dX8_throwAt_0 rfl rfl rfl ?_
    refine V_iload_n (q := 2) dX8_throwAt_1 rfl rfl ?_
    refine CrX8_123 (q := 5) rfl dX8_throwAt_2 rfl (m_isRow_out h0 h1 hn hR hx) ⟨(Nat.le_of_ble_eq_true rfl), (Nat.le_of_ble_eq_true rfl)⟩ (Nat.le_of_ble_eq_true rfl) (by first | assumption | exact up_eq | exact (up_ne (by omega)).trans (by first | assumption | exact up_eq | exact (up_ne (by omega)).trans (by first | assumption | exact up_eq | exact (up_ne (by omega)).trans (by first | assumption | exact up_eq)))) (by omega) (Nat.zero_le _) (Nat.zero_le _) ?_
    refine V_if_eq (q := 8) (tgt := 26) dX8_throwAt_5 (by decide) rfl (fun _ => ?_) (fun h9 => absurd rfl h9)
    refine V_iconst (q := 27) (v := (-1)) dX8_throwAt_26 rfl (by decide) ?_
    exact V_iret dX8_throwAt_27 rfl (Nat.le_of_ble_eq_true rfl) (Nat.le_of_ble_eq_true rfl) (⟨rfl, rfl, rfl⟩)
  obtain ⟨e0, e1, e2⟩ := hR.2.2.1.2 i hi
  refine Ct.ofs (M := MX8_throwAt) (ls := [some _, some _, some _]) (by decide +kernel) (by exact (Nat.le_of_ble_eq_true rfl)) (by rfl) (by rfl) (by rfl) ?_
  refine V_aload_n (q := 1) dX8_throwAt_0 rfl rfl rfl ?_
  refine V_iload_n (q := 2) dX8_throwAt_1 rfl rfl ?_
  refine CrX8_123 (q := 5) rfl dX8_throwAt_2 rfl (m_isRow_in h0 h1 hn hR hi) ⟨(Nat.le_of_ble_eq_true rfl), (Nat.le_of_ble_eq_true rfl)⟩ (Nat.le_of_ble_eq_true rfl) (by first | assumption | exact up_eq | exact (up_ne (by omega)).trans (by first | assumption | exact up_eq | exact (up_ne (by omega)).trans (by first | assumption | exact up_eq | exact (up_ne (by omega)).trans (by first | assumption | exact up_eq)))) (by omega) (Nat.zero_le _) (Nat.zero_le _) ?_
  refine V_if_eq (q := 8) (tgt := 26) dX8_throwAt_5 (by decide) rfl (fun h9 => absurd h9 (by decide)) (fun _ => ?_)
  refine V_aload_n (q := 9) dX8_throwAt_8 rfl rfl rfl ?_
  refine V_iload_n (q := 10) dX8_throwAt_9 rfl rfl ?_
  refine V_iload_n (q := 11) dX8_throwAt_10 rfl rfl ?_
  rcases i3_lt y (sR N i).1 (by omega) with hy | ⟨k, hk, rfl⟩
  · rw [show thrAt (nI i) y N = -1 by unfold thrAt; rw [idx_yes hi (by omega)]; show (match idx y (sR N i).1 with | none => _ | some k => _) = _; rw [idx_no hy]]
    refine CrX8_127 (q := 14) rfl dX8_throwAt_11 rfl (m_isBeat_out h0 h1 hn hR hi hy) ⟨(Nat.le_of_ble_eq_true rfl), (Nat.le_of_ble_eq_true rfl)⟩ (Nat.le_of_ble_eq_true rfl) (by first | assumption | exact up_eq | exact (up_ne (by omega)).trans (by first | assumption | exact up_eq | exact (up_ne (by omega)).trans (by first | assumption | exact up_eq | exact (up_ne (by omega)).trans (by first | assumption | exact up_eq)))) (by omega) (Nat.zero_le _) (Nat.zero_le _) ?_
    refine V_if_eq (q := 17) (tgt := 26) dX8_throwAt_14 (by decide) rfl (fun _ => ?_) (fun h9 => absurd rfl h9)
    refine V_iconst (q := 27) (v := (-1)) dX8_throwAt_26 rfl (by decide) ?_
    exact V_iret dX8_throwAt_27 rfl (Nat.le_of_ble_eq_true rfl) (Nat.le_of_ble_eq_true rfl) (⟨rfl, rfl, rfl⟩)
  rw [show thrAt (nI i) (nI k) N = nI ((sR N i).2 k) by unfold thrAt; rw [idx_yes hi (by omega)]; show (match idx (nI k) (sR N i).1 with | none => _ | some k => _) = _; rw [idx_yes hk (by omega)]]
  refine CrX8_127 (q := 14) rfl dX8_throwAt_11 rfl (m_isBeat_in h0 h1 hn hR hi hk) ⟨(Nat.le_of_ble_eq_true rfl), (Nat.le_of_ble_eq_true rfl)⟩ (Nat.le_of_ble_eq_true rfl) (by first | assumption | exact up_eq | exact (up_ne (by omega)).trans (by first | assumption | exact up_eq | exact (up_ne (by omega)).trans (by first | assumption | exact up_eq | exact (up_ne (by omega)).trans (by first | assumption | exact up_eq)))) (by omega) (Nat.zero_le _) (Nat.zero_le _) ?_
  refine V_if_eq (q := 17) (tgt := 26) dX8_throwAt_14 (by decide) rfl (fun h9 => absurd h9 (by decide)) (fun _ => ?_)
  refine V_aload_n (q := 18) dX8_throwAt_17 rfl rfl rfl ?_
  refine V_iload_n (q := 19) dX8_throwAt_18 rfl rfl ?_
  refine V_iload_n (q := 20) dX8_throwAt_19 rfl rfl ?_
  refine CrX8_79 (q := 23) rfl dX8_throwAt_20 rfl (m_thrown h0 h1 hn hR hi hk) ⟨(Nat.le_of_ble_eq_true rfl), (Nat.le_of_ble_eq_true rfl)⟩ (Nat.le_of_ble_eq_true rfl) (by first | assumption | exact up_eq | exact (up_ne (by omega)).trans (by first | assumption | exact up_eq | exact (up_ne (by omega)).trans (by first | assumption | exact up_eq | exact (up_ne (by omega)).trans (by first | assumption | exact up_eq)))) (by omega) (Nat.zero_le _) (Nat.zero_le _) ?_
  refine V_goto (tgt := 27) dX8_throwAt_23 (by decide) ?_
  exact V_iret dX8_throwAt_27 rfl (Nat.le_of_ble_eq_true rfl) (Nat.le_of_ble_eq_true rfl) (⟨rfl, rfl, rfl⟩)
theorem M_isClean (h0 : w p = eO 8 (rf g (p + 1) :: fs)) (h1 : w (p + 1) = eI g 63 F) (hn : p + 1 < n) (hR : RN F N) {x : Int32} : CtR g l MX8_isClean 2 [rf g p, .int x] w n (.int (clnA x N)) := by
  have hc6 := hR.2.2.1.1
  rcases i3_lt x (sC N) (by omega) with hx | ⟨i, hi, rfl⟩
  · rw [show clnA x N = -1 by unfold clnA; rw [idx_no hx]]
    refine Ct.ofs (M := MX8_isClean) (ls := [some _, some _]) (by decide +kernel) (by exact (Nat.le_of_ble_eq_true rfl)) (by rfl) (by rfl) (by rfl) ?_
    refine V_aload_n (q := 1) dX8_isClean_0 rfl rfl rfl ?_
    refine V_iload_n (q := 2) dX8_isClean_1 rfl rfl ?_
    refine CrX8_123 (q := 5) rfl dX8_isClean_2 rfl (m_isRow_out h0 h1 hn hR hx) ⟨(Nat.le_of_ble_eq_true rfl), (Nat.le_of_ble_eq_true rfl)⟩ (Nat.le_of_ble_eq_true rfl) (by first | assumption | exact up_eq | exact (up_ne (by omega)).trans (by first | assumption | exact up_eq | exact (up_ne (by omega)).trans (by first | assumption | exact up_eq | exact (up_ne (by omega)).trans (by first | assumption | exact up_eq)))) (by omega) (Nat.zero_le _) (Nat.zero_le _) ?_
    refine V_if_ne (q := 8) (tgt := 12) dX8_isClean_5 (by decide) rfl (fun h9 => absurd rfl h9) (fun _ => ?_)
    refine V_iconst (q := 9) (v := (-1)) dX8_isClean_8 rfl (by decide) ?_
    refine V_goto (tgt := 25) dX8_isClean_9 (by decide) ?_
    exact V_iret dX8_isClean_25 rfl (Nat.le_of_ble_eq_true rfl) (Nat.le_of_ble_eq_true rfl) (⟨rfl, rfl, rfl⟩)
  obtain ⟨e0, e1, e2⟩ := hR.2.2.1.2 i hi
  rw [show clnA (nI i) N = if clN (sR N i).2 (sR N i).1 = (sR N i).1 then 1 else 0 by unfold clnA; rw [idx_yes hi (by omega)]]
  refine Ct.ofs (M := MX8_isClean) (ls := [some _, some _]) (by decide +kernel) (by exact (Nat.le_of_ble_eq_true rfl)) (by rfl) (by rfl) (by rfl) ?_
  refine V_aload_n (q := 1) dX8_isClean_0 rfl rfl rfl ?_
  refine V_iload_n (q := 2) dX8_isClean_1 rfl rfl ?_
  refine CrX8_123 (q := 5) rfl dX8_isClean_2 rfl (m_isRow_in h0 h1 hn hR hi) ⟨(Nat.le_of_ble_eq_true rfl), (Nat.le_of_ble_eq_true rfl)⟩ (Nat.le_of_ble_eq_true rfl) (by first | assumption | exact up_eq | exact (up_ne (by omega)).trans (by first | assumption | exact up_eq | exact (up_ne (by omega)).trans (by first | assumption | exact up_eq | exact (up_ne (by omega)).trans (by first | assumption | exact up_eq)))) (by omega) (Nat.zero_le _) (Nat.zero_le _) ?_
  refine V_if_ne (q := 8) (tgt := 12) dX8_isClean_5 (by decide) rfl (fun _ => ?_) (fun h9 => absurd h9 (by decide))
  refine V_aload_n (q := 13) dX8_isClean_12 rfl rfl rfl ?_
  refine V_iload_n (q := 14) dX8_isClean_13 rfl rfl ?_
  refine CrX8_83 (q := 17) rfl dX8_isClean_14 rfl (m_clashOf h0 h1 hn hR hi) ⟨(Nat.le_of_ble_eq_true rfl), (Nat.le_of_ble_eq_true rfl)⟩ (Nat.le_of_ble_eq_true rfl) (by first | assumption | exact up_eq | exact (up_ne (by omega)).trans (by first | assumption | exact up_eq | exact (up_ne (by omega)).trans (by first | assumption | exact up_eq | exact (up_ne (by omega)).trans (by first | assumption | exact up_eq)))) (by omega) (Nat.zero_le _) (Nat.zero_le _) ?_
  by_cases hcl : clN (sR N i).2 (sR N i).1 = (sR N i).1
  · rw [if_pos hcl]
    refine V_topi (mcl_yes hcl) ?_
    refine V_if_ge (q := 20) (tgt := 24) dX8_isClean_17 (by decide) rfl (fun h9 => absurd h9 (by decide)) (fun _ => ?_)
    refine V_iconst (q := 21) (v := nI 1) dX8_isClean_20 rfl (by decide) ?_
    refine V_goto (tgt := 25) dX8_isClean_21 (by decide) ?_
    exact V_iret dX8_isClean_25 rfl (Nat.le_of_ble_eq_true rfl) (Nat.le_of_ble_eq_true rfl) (⟨rfl, rfl, rfl⟩)
  · rw [if_neg hcl]
    have := clN_le (sR N i).2 (sR N i).1
    refine V_topi (mcl_no hcl) ?_
    refine V_ifN_ge (q := 20) (tgt := 24) dX8_isClean_17 (by decide) rfl (by omega) (fun _ => ?_) (fun h9 => by first | exact h9.elim | (exfalso; omega))
    refine V_iconst (q := 25) (v := nI 0) dX8_isClean_24 rfl (by decide) ?_
    exact V_iret dX8_isClean_25 rfl (Nat.le_of_ble_eq_true rfl) (Nat.le_of_ble_eq_true rfl) (⟨rfl, rfl, rfl⟩)
theorem M_isCleanAgain (h0 : w p = eO 8 (rf g (p + 1) :: fs)) (h1 : w (p + 1) = eI g 63 F) (hn : p + 1 < n) (hR : RN F N) {x : Int32} : CtR g l MX8_isCleanAgain 3 [rf g p, .int x] w n (.int (clnA x N)) := by
  refine Ct.ofs (M := MX8_isCleanAgain) (ls := [some _, some _]) (by decide +kernel) (by exact (Nat.le_of_ble_eq_true rfl)) (by rfl) (by rfl) (by rfl) ?_
  refine V_aload_n (q := 1) dX8_isCleanAgain_0 rfl rfl rfl ?_
  refine V_iload_n (q := 2) dX8_isCleanAgain_1 rfl rfl ?_
  refine CrX8_157 (q := 5) rfl dX8_isCleanAgain_2 rfl (M_isClean h0 h1 hn hR) ⟨(Nat.le_of_ble_eq_true rfl), (Nat.le_of_ble_eq_true rfl)⟩ (Nat.le_of_ble_eq_true rfl) (by first | assumption | exact up_eq | exact (up_ne (by omega)).trans (by first | assumption | exact up_eq | exact (up_ne (by omega)).trans (by first | assumption | exact up_eq | exact (up_ne (by omega)).trans (by first | assumption | exact up_eq)))) (by omega) (Nat.zero_le _) (Nat.zero_le _) ?_
  skip
  exact V_iret dX8_isCleanAgain_5 rfl (Nat.le_of_ble_eq_true rfl) (Nat.le_of_ble_eq_true rfl) (⟨rfl, rfl, rfl⟩)
theorem M_stateOf (h0 : w p = eO 8 (rf g (p + 1) :: fs)) (h1 : w (p + 1) = eI g 63 F) (hn : p + 1 < n) (hR : RN F N) {x y : Int32} : CtR g l MX8_stateOf 2 [rf g p, .int x, .int y] w n (.int (stoA x y N)) := by
  have hc6 := hR.2.2.1.1
  rcases i3_lt x (sC N) (by omega) with hx | ⟨i, hi, rfl⟩
  · rw [show stoA x y N = -1 by unfold stoA; rw [idx_no hx]]
    refine Ct.ofs (M := MX8_stateOf) (ls := [some _, some _, some _]) (by decide +kernel) (by exact (Nat.le_of_ble_eq_true rfl)) (by rfl) (by rfl) (by rfl) ?_
    refine V_aload_n (q := 1) dX8_stateOf_0 rfl rfl rfl ?_
    refine V_iload_n (q := 2) dX8_stateOf_1 rfl rfl ?_
    refine CrX8_123 (q := 5) rfl dX8_stateOf_2 rfl (m_isRow_out h0 h1 hn hR hx) ⟨(Nat.le_of_ble_eq_true rfl), (Nat.le_of_ble_eq_true rfl)⟩ (Nat.le_of_ble_eq_true rfl) (by first | assumption | exact up_eq | exact (up_ne (by omega)).trans (by first | assumption | exact up_eq | exact (up_ne (by omega)).trans (by first | assumption | exact up_eq | exact (up_ne (by omega)).trans (by first | assumption | exact up_eq)))) (by omega) (Nat.zero_le _) (Nat.zero_le _) ?_
    refine V_if_eq (q := 8) (tgt := 17) dX8_stateOf_5 (by decide) rfl (fun _ => ?_) (fun h9 => absurd rfl h9)
    refine V_iconst (q := 18) (v := (-1)) dX8_stateOf_17 rfl (by decide) ?_
    refine V_goto (tgt := 40) dX8_stateOf_18 (by decide) ?_
    exact V_iret dX8_stateOf_40 rfl (Nat.le_of_ble_eq_true rfl) (Nat.le_of_ble_eq_true rfl) (⟨rfl, rfl, rfl⟩)
  obtain ⟨e0, e1, e2⟩ := hR.2.2.1.2 i hi
  refine Ct.ofs (M := MX8_stateOf) (ls := [some _, some _, some _]) (by decide +kernel) (by exact (Nat.le_of_ble_eq_true rfl)) (by rfl) (by rfl) (by rfl) ?_
  refine V_aload_n (q := 1) dX8_stateOf_0 rfl rfl rfl ?_
  refine V_iload_n (q := 2) dX8_stateOf_1 rfl rfl ?_
  refine CrX8_123 (q := 5) rfl dX8_stateOf_2 rfl (m_isRow_in h0 h1 hn hR hi) ⟨(Nat.le_of_ble_eq_true rfl), (Nat.le_of_ble_eq_true rfl)⟩ (Nat.le_of_ble_eq_true rfl) (by first | assumption | exact up_eq | exact (up_ne (by omega)).trans (by first | assumption | exact up_eq | exact (up_ne (by omega)).trans (by first | assumption | exact up_eq | exact (up_ne (by omega)).trans (by first | assumption | exact up_eq)))) (by omega) (Nat.zero_le _) (Nat.zero_le _) ?_
  refine V_if_eq (q := 8) (tgt := 17) dX8_stateOf_5 (by decide) rfl (fun h9 => absurd h9 (by decide)) (fun _ => ?_)
  refine V_aload_n (q := 9) dX8_stateOf_8 rfl rfl rfl ?_
  refine V_iload_n (q := 10) dX8_stateOf_9 rfl rfl ?_
  refine V_iload_n (q := 11) dX8_stateOf_10 rfl rfl ?_
  rcases i3_lt y (sR N i).1 (by omega) with hy | ⟨k, hk, rfl⟩
  · rw [show stoA (nI i) y N = -1 by unfold stoA; rw [idx_yes hi (by omega)]; show (match idx y (sR N i).1 with | none => _ | some k => _) = _; rw [idx_no hy]]
    refine CrX8_127 (q := 14) rfl dX8_stateOf_11 rfl (m_isBeat_out h0 h1 hn hR hi hy) ⟨(Nat.le_of_ble_eq_true rfl), (Nat.le_of_ble_eq_true rfl)⟩ (Nat.le_of_ble_eq_true rfl) (by first | assumption | exact up_eq | exact (up_ne (by omega)).trans (by first | assumption | exact up_eq | exact (up_ne (by omega)).trans (by first | assumption | exact up_eq | exact (up_ne (by omega)).trans (by first | assumption | exact up_eq)))) (by omega) (Nat.zero_le _) (Nat.zero_le _) ?_
    refine V_if_ne (q := 17) (tgt := 21) dX8_stateOf_14 (by decide) rfl (fun h9 => absurd rfl h9) (fun _ => ?_)
    refine V_iconst (q := 18) (v := (-1)) dX8_stateOf_17 rfl (by decide) ?_
    refine V_goto (tgt := 40) dX8_stateOf_18 (by decide) ?_
    exact V_iret dX8_stateOf_40 rfl (Nat.le_of_ble_eq_true rfl) (Nat.le_of_ble_eq_true rfl) (⟨rfl, rfl, rfl⟩)
  rw [show stoA (nI i) (nI k) N = if clN (sR N i).2 (sR N i).1 = (sR N i).1 then nI (stN (sR N i).2 (sR N i).1 k) else -4 by unfold stoA; rw [idx_yes hi (by omega)]; show (match idx (nI k) (sR N i).1 with | none => _ | some k => _) = _; rw [idx_yes hk (by omega)]]
  refine CrX8_127 (q := 14) rfl dX8_stateOf_11 rfl (m_isBeat_in h0 h1 hn hR hi hk) ⟨(Nat.le_of_ble_eq_true rfl), (Nat.le_of_ble_eq_true rfl)⟩ (Nat.le_of_ble_eq_true rfl) (by first | assumption | exact up_eq | exact (up_ne (by omega)).trans (by first | assumption | exact up_eq | exact (up_ne (by omega)).trans (by first | assumption | exact up_eq | exact (up_ne (by omega)).trans (by first | assumption | exact up_eq)))) (by omega) (Nat.zero_le _) (Nat.zero_le _) ?_
  refine V_if_ne (q := 17) (tgt := 21) dX8_stateOf_14 (by decide) rfl (fun _ => ?_) (fun h9 => absurd h9 (by decide))
  refine V_aload_n (q := 22) dX8_stateOf_21 rfl rfl rfl ?_
  refine V_iload_n (q := 23) dX8_stateOf_22 rfl rfl ?_
  refine CrX8_83 (q := 26) rfl dX8_stateOf_23 rfl (m_clashOf h0 h1 hn hR hi) ⟨(Nat.le_of_ble_eq_true rfl), (Nat.le_of_ble_eq_true rfl)⟩ (Nat.le_of_ble_eq_true rfl) (by first | assumption | exact up_eq | exact (up_ne (by omega)).trans (by first | assumption | exact up_eq | exact (up_ne (by omega)).trans (by first | assumption | exact up_eq | exact (up_ne (by omega)).trans (by first | assumption | exact up_eq)))) (by omega) (Nat.zero_le _) (Nat.zero_le _) ?_
  by_cases hcl : clN (sR N i).2 (sR N i).1 = (sR N i).1
  · rw [if_pos hcl]
    refine V_topi (mcl_yes hcl) ?_
    refine V_if_lt (q := 29) (tgt := 34) dX8_stateOf_26 (by decide) rfl (fun _ => ?_) (fun h9 => absurd (by decide) h9)
    refine V_aload_n (q := 35) dX8_stateOf_34 rfl rfl rfl ?_
    refine V_iload_n (q := 36) dX8_stateOf_35 rfl rfl ?_
    refine V_iload_n (q := 37) dX8_stateOf_36 rfl rfl ?_
    refine CrX8_106 (q := 40) rfl dX8_stateOf_37 rfl (m_stateAt h0 h1 hn hR hi hk) ⟨(Nat.le_of_ble_eq_true rfl), (Nat.le_of_ble_eq_true rfl)⟩ (Nat.le_of_ble_eq_true rfl) (by first | assumption | exact up_eq | exact (up_ne (by omega)).trans (by first | assumption | exact up_eq | exact (up_ne (by omega)).trans (by first | assumption | exact up_eq | exact (up_ne (by omega)).trans (by first | assumption | exact up_eq)))) (by omega) (Nat.zero_le _) (Nat.zero_le _) ?_
    skip
    exact V_iret dX8_stateOf_40 rfl (Nat.le_of_ble_eq_true rfl) (Nat.le_of_ble_eq_true rfl) (⟨rfl, rfl, rfl⟩)
  · rw [if_neg hcl]
    have := clN_le (sR N i).2 (sR N i).1
    refine V_topi (mcl_no hcl) ?_
    refine V_ifN_lt (q := 29) (tgt := 34) dX8_stateOf_26 (by decide) rfl (by omega) (fun h9 => by first | exact h9.elim | exact absurd h9 (by assumption) | (exfalso; omega)) (fun _ => ?_)
    refine V_bipush (q := 31) (v := (-4)) dX8_stateOf_29 rfl (by decide) ?_
    refine V_goto (tgt := 40) dX8_stateOf_31 (by decide) ?_
    exact V_iret dX8_stateOf_40 rfl (Nat.le_of_ble_eq_true rfl) (Nat.le_of_ble_eq_true rfl) (⟨rfl, rfl, rfl⟩)
theorem m_throwsNow (h0 : w p = eO 8 (rf g (p + 1) :: fs)) (h1 : w (p + 1) = eI g 63 F) (hn : p + 1 < n) (hR : RN F N) : CtR g l MX8_throwsNow 1 [rf g p] w n (.int (nI (canC (sS N) 10))) := by
  have hs := hR.2.2.2.1.1
  have e1 := hR.1.2.1
  refine Ct.ofs (M := MX8_throwsNow) (ls := [some _, none, none]) (by decide +kernel) (by exact (Nat.le_of_ble_eq_true rfl)) (by rfl) (by rfl) (by rfl) ?_
  refine V_iconst (q := 1) (v := nI 0) dX8_throwsNow_0 rfl (by decide) ?_
  refine V_istore_n (q := 2) (ls' := [_, _, _]) dX8_throwsNow_1 rfl (by decide) rfl ?_
  refine V_iconst (q := 3) (v := nI 0) dX8_throwsNow_2 rfl (by decide) ?_
  refine V_istore_n (q := 4) (ls' := [_, _, _]) dX8_throwsNow_3 rfl (by decide) rfl ?_
  refine loopU (fun k => V g l MX8_throwsNow (rmd 1 0 0) (FinM g (qR (.int (nI (canC (sS N) 10))) w n) 0 0) 4 [some (rf g p), some (.int (nI (canC (sS N) k))), some (.int (nI k))] [] (w) n 0 0) 10 ?_ ?_ 0 (Nat.zero_le _)
  · skip
    refine V_iload_n (q := 5) dX8_throwsNow_4 rfl rfl ?_
    refine V_bipush (q := 7) (v := nI 9) dX8_throwsNow_5 rfl (by decide) ?_
    refine V_icmpN_gt (q := 10) (tgt := 37) dX8_throwsNow_7 (by decide) rfl (by omega) (by omega) (fun _ => ?_) (fun h9 => by first | exact h9.elim | (exfalso; omega))
    refine V_iload_n (q := 38) dX8_throwsNow_37 rfl rfl ?_
    exact V_iret dX8_throwsNow_38 rfl (Nat.le_of_ble_eq_true rfl) (Nat.le_of_ble_eq_true rfl) (⟨rfl, rfl, rfl⟩)
  · intro k hk ih
    refine V_iload_n (q := 5) dX8_throwsNow_4 rfl rfl ?_
    refine V_bipush (q := 7) (v := nI 9) dX8_throwsNow_5 rfl (by decide) ?_
    refine V_icmpN_gt (q := 10) (tgt := 37) dX8_throwsNow_7 (by decide) rfl (by omega) (by omega) (fun h9 => by first | exact h9.elim | exact absurd h9 (by assumption) | (exfalso; omega)) (fun _ => ?_)
    refine V_iload_n (q := 11) dX8_throwsNow_10 rfl rfl ?_
    refine V_aload_n (q := 12) dX8_throwsNow_11 rfl rfl rfl ?_
    refine GX8_9 (q := 15) rfl dX8_throwsNow_12 rfl (by first | assumption | exact up_eq | exact (up_ne (by omega)).trans (by first | assumption | exact up_eq | exact (up_ne (by omega)).trans (by first | assumption | exact up_eq | exact (up_ne (by omega)).trans (by first | assumption | exact up_eq)))) (by omega) (by rfl) ?_
    refine V_iconst (q := 16) (v := nI 1) dX8_throwsNow_15 rfl (by decide) ?_
    refine V_ialdN (q := 17) dX8_throwsNow_16 rfl (by first | assumption | exact up_eq | exact (up_ne (by omega)).trans (by first | assumption | exact up_eq | exact (up_ne (by omega)).trans (by first | assumption | exact up_eq | exact (up_ne (by omega)).trans (by first | assumption | exact up_eq)))) (by omega) (by omega) (by omega) rfl e1 ?_
    refine V_iload_n (q := 18) dX8_throwsNow_17 rfl rfl ?_
    refine CrX8_92 (q := 21) rfl dX8_throwsNow_18 rfl (m_can hs (h := k) (by omega)) ⟨(Nat.le_of_ble_eq_true rfl), (Nat.le_of_ble_eq_true rfl)⟩ (Nat.le_of_ble_eq_true rfl) (Nat.zero_le _) (Nat.zero_le _) ?_
    by_cases hc : canN (sS N) k
    · skip
      refine V_topi (if_pos hc) ?_
      rw [show canC (sS N) (k + 1) = canC (sS N) k + 1 from fa_cnt_yes (canK_t.mpr hc)] at ih
      refine V_if_eq (q := 24) (tgt := 28) dX8_throwsNow_21 (by decide) rfl (fun h9 => absurd h9 (by decide)) (fun _ => ?_)
      refine V_iconst (q := 25) (v := nI 1) dX8_throwsNow_24 rfl (by decide) ?_
      refine V_goto (tgt := 29) dX8_throwsNow_25 (by decide) ?_
      refine V_iadd (q := 30) dX8_throwsNow_29 rfl (by first | exact nI_add _ _ | rfl) ?_
      refine V_istore_n (q := 31) (ls' := [_, _, _]) dX8_throwsNow_30 rfl (by decide) rfl ?_
      refine V_iinc (q := 34) (ls' := [_, _, _]) dX8_throwsNow_31 rfl (by decide) rfl (by first | exact inc1 _ | rfl) rfl ?_
      refine V_goto (tgt := 4) dX8_throwsNow_34 (by decide) ?_
      exact ih
    · skip
      refine V_topi (if_neg hc) ?_
      rw [show canC (sS N) (k + 1) = canC (sS N) k from fa_cnt_no (canK_f.mpr hc)] at ih
      refine V_if_eq (q := 24) (tgt := 28) dX8_throwsNow_21 (by decide) rfl (fun _ => ?_) (fun h9 => absurd rfl h9)
      refine V_iconst (q := 29) (v := nI 0) dX8_throwsNow_28 rfl (by decide) ?_
      refine V_iadd (q := 30) dX8_throwsNow_29 rfl (by first | exact nI_add _ _ | rfl) ?_
      refine V_istore_n (q := 31) (ls' := [_, _, _]) dX8_throwsNow_30 rfl (by decide) rfl ?_
      refine V_iinc (q := 34) (ls' := [_, _, _]) dX8_throwsNow_31 rfl (by decide) rfl (by first | exact inc1 _ | rfl) rfl ?_
      refine V_goto (tgt := 4) dX8_throwsNow_34 (by decide) ?_
      exact ih
theorem M_juggler (h0 : w p = eO 8 (rf g (p + 1) :: fs)) (h1 : w (p + 1) = eI g 63 F) (hn : p + 1 < n) (hR : RN F N) {x : Int32} : CtR g l MX8_juggler 2 [rf g p, .int x] w n (.int (jugA x N)) := by
  have hs := hR.2.2.2.1.1
  have hb := hR.2.2.2.2
  obtain ⟨f0, f1, f2, f3, f4, f5, f6, f7, f8⟩ := hR.1
  refine Ct.ofs (M := MX8_juggler) (ls := [some _, some _]) (by decide +kernel) (by exact (Nat.le_of_ble_eq_true rfl)) (by rfl) (by rfl) (by rfl) ?_
  refine V_iload_n (q := 1) dX8_juggler_0 rfl rfl ?_
  rcases i3_lt x 6 (by decide) with hy | ⟨k, hk, rfl⟩
  · rw [show jugA x N = -2 by unfold jugA; rw [idx_no hy]]
    refine V_tabOut (tgt := 72) dX8_juggler_1 (by have := out_int hy (by decide); omega) (by decide) ?_
    refine V_bipush (q := 74) (v := (-2)) dX8_juggler_72 rfl (by decide) ?_
    exact V_iret dX8_juggler_74 rfl (Nat.le_of_ble_eq_true rfl) (Nat.le_of_ble_eq_true rfl) (⟨rfl, rfl, rfl⟩)
  rw [show jugA (nI k) N = jugW N k by unfold jugA; rw [idx_yes hk (by decide)]]
  rcases (by omega : k = 0 ∨ k = 1 ∨ k = 2 ∨ k = 3 ∨ k = 4 ∨ k = 5) with rfl | rfl | rfl | rfl | rfl | rfl
  · skip
    refine V_tabIn (off := 39) (tgt := 40) dX8_juggler_1 (by decide) (by decide) (by decide) (by decide) ?_
    refine V_aload_n (q := 41) dX8_juggler_40 rfl rfl rfl ?_
    refine GX8_9 (q := 44) rfl dX8_juggler_41 rfl (by first | assumption | exact up_eq | exact (up_ne (by omega)).trans (by first | assumption | exact up_eq | exact (up_ne (by omega)).trans (by first | assumption | exact up_eq | exact (up_ne (by omega)).trans (by first | assumption | exact up_eq)))) (by omega) (by rfl) ?_
    refine V_iconst (q := 45) (v := nI 1) dX8_juggler_44 rfl (by decide) ?_
    refine V_iload_n (q := 46) dX8_juggler_45 rfl rfl ?_
    refine V_iadd (q := 47) dX8_juggler_46 rfl (by first | exact nI_add _ _ | rfl) ?_
    refine V_ialdN (q := 48) dX8_juggler_47 rfl (by first | assumption | exact up_eq | exact (up_ne (by omega)).trans (by first | assumption | exact up_eq | exact (up_ne (by omega)).trans (by first | assumption | exact up_eq | exact (up_ne (by omega)).trans (by first | assumption | exact up_eq)))) (by omega) (by omega) (by omega) rfl f1 ?_
    exact V_iret dX8_juggler_48 rfl (Nat.le_of_ble_eq_true rfl) (Nat.le_of_ble_eq_true rfl) (⟨rfl, rfl, rfl⟩)
  · skip
    refine V_tabIn (off := 39) (tgt := 40) dX8_juggler_1 (by decide) (by decide) (by decide) (by decide) ?_
    refine V_aload_n (q := 41) dX8_juggler_40 rfl rfl rfl ?_
    refine GX8_9 (q := 44) rfl dX8_juggler_41 rfl (by first | assumption | exact up_eq | exact (up_ne (by omega)).trans (by first | assumption | exact up_eq | exact (up_ne (by omega)).trans (by first | assumption | exact up_eq | exact (up_ne (by omega)).trans (by first | assumption | exact up_eq)))) (by omega) (by rfl) ?_
    refine V_iconst (q := 45) (v := nI 1) dX8_juggler_44 rfl (by decide) ?_
    refine V_iload_n (q := 46) dX8_juggler_45 rfl rfl ?_
    refine V_iadd (q := 47) dX8_juggler_46 rfl (by first | exact nI_add _ _ | rfl) ?_
    refine V_ialdN (q := 48) dX8_juggler_47 rfl (by first | assumption | exact up_eq | exact (up_ne (by omega)).trans (by first | assumption | exact up_eq | exact (up_ne (by omega)).trans (by first | assumption | exact up_eq | exact (up_ne (by omega)).trans (by first | assumption | exact up_eq)))) (by omega) (by omega) (by omega) rfl f2 ?_
    exact V_iret dX8_juggler_48 rfl (Nat.le_of_ble_eq_true rfl) (Nat.le_of_ble_eq_true rfl) (⟨rfl, rfl, rfl⟩)
  · skip
    refine V_tabIn (off := 39) (tgt := 40) dX8_juggler_1 (by decide) (by decide) (by decide) (by decide) ?_
    refine V_aload_n (q := 41) dX8_juggler_40 rfl rfl rfl ?_
    refine GX8_9 (q := 44) rfl dX8_juggler_41 rfl (by first | assumption | exact up_eq | exact (up_ne (by omega)).trans (by first | assumption | exact up_eq | exact (up_ne (by omega)).trans (by first | assumption | exact up_eq | exact (up_ne (by omega)).trans (by first | assumption | exact up_eq)))) (by omega) (by rfl) ?_
    refine V_iconst (q := 45) (v := nI 1) dX8_juggler_44 rfl (by decide) ?_
    refine V_iload_n (q := 46) dX8_juggler_45 rfl rfl ?_
    refine V_iadd (q := 47) dX8_juggler_46 rfl (by first | exact nI_add _ _ | rfl) ?_
    refine V_ialdN (q := 48) dX8_juggler_47 rfl (by first | assumption | exact up_eq | exact (up_ne (by omega)).trans (by first | assumption | exact up_eq | exact (up_ne (by omega)).trans (by first | assumption | exact up_eq | exact (up_ne (by omega)).trans (by first | assumption | exact up_eq)))) (by omega) (by omega) (by omega) rfl f3 ?_
    exact V_iret dX8_juggler_48 rfl (Nat.le_of_ble_eq_true rfl) (Nat.le_of_ble_eq_true rfl) (⟨rfl, rfl, rfl⟩)
  · skip
    refine V_tabIn (off := 48) (tgt := 49) dX8_juggler_1 (by decide) (by decide) (by decide) (by decide) ?_
    refine V_aload_n (q := 50) dX8_juggler_49 rfl rfl rfl ?_
    refine GX8_9 (q := 53) rfl dX8_juggler_50 rfl (by first | assumption | exact up_eq | exact (up_ne (by omega)).trans (by first | assumption | exact up_eq | exact (up_ne (by omega)).trans (by first | assumption | exact up_eq | exact (up_ne (by omega)).trans (by first | assumption | exact up_eq)))) (by omega) (by rfl) ?_
    refine V_iconst (q := 54) (v := nI 3) dX8_juggler_53 rfl (by decide) ?_
    refine V_ialdN (q := 55) dX8_juggler_54 rfl (by first | assumption | exact up_eq | exact (up_ne (by omega)).trans (by first | assumption | exact up_eq | exact (up_ne (by omega)).trans (by first | assumption | exact up_eq | exact (up_ne (by omega)).trans (by first | assumption | exact up_eq)))) (by omega) (by omega) (by omega) rfl f3 ?_
    refine V_iconst (q := 56) (v := nI 2) dX8_juggler_55 rfl (by decide) ?_
    refine V_irem (q := 57) dX8_juggler_56 rfl (nI_ne0 (by omega) (by omega)) (by first | exact pk_rem (by omega) (by omega) (by omega) | rfl) ?_
    exact V_iret dX8_juggler_57 rfl (Nat.le_of_ble_eq_true rfl) (Nat.le_of_ble_eq_true rfl) (⟨rfl, rfl, rfl⟩)
  · skip
    refine V_tabIn (off := 57) (tgt := 58) dX8_juggler_1 (by decide) (by decide) (by decide) (by decide) ?_
    refine V_aload_n (q := 59) dX8_juggler_58 rfl rfl rfl ?_
    refine GX8_9 (q := 62) rfl dX8_juggler_59 rfl (by first | assumption | exact up_eq | exact (up_ne (by omega)).trans (by first | assumption | exact up_eq | exact (up_ne (by omega)).trans (by first | assumption | exact up_eq | exact (up_ne (by omega)).trans (by first | assumption | exact up_eq)))) (by omega) (by rfl) ?_
    refine V_iconst (q := 63) (v := nI 1) dX8_juggler_62 rfl (by decide) ?_
    refine V_ialdN (q := 64) dX8_juggler_63 rfl (by first | assumption | exact up_eq | exact (up_ne (by omega)).trans (by first | assumption | exact up_eq | exact (up_ne (by omega)).trans (by first | assumption | exact up_eq | exact (up_ne (by omega)).trans (by first | assumption | exact up_eq)))) (by omega) (by omega) (by omega) rfl f1 ?_
    refine V_iconst (q := 65) (v := nI 1) dX8_juggler_64 rfl (by decide) ?_
    refine V_iand (q := 66) dX8_juggler_65 rfl (and1 _) ?_
    exact V_iret dX8_juggler_66 rfl (Nat.le_of_ble_eq_true rfl) (Nat.le_of_ble_eq_true rfl) (⟨rfl, rfl, rfl⟩)
  · skip
    refine V_tabIn (off := 66) (tgt := 67) dX8_juggler_1 (by decide) (by decide) (by decide) (by decide) ?_
    refine V_aload_n (q := 68) dX8_juggler_67 rfl rfl rfl ?_
    refine CrX8_160 (q := 71) rfl dX8_juggler_68 rfl (m_throwsNow h0 h1 hn hR) ⟨(Nat.le_of_ble_eq_true rfl), (Nat.le_of_ble_eq_true rfl)⟩ (Nat.le_of_ble_eq_true rfl) (by first | assumption | exact up_eq | exact (up_ne (by omega)).trans (by first | assumption | exact up_eq | exact (up_ne (by omega)).trans (by first | assumption | exact up_eq | exact (up_ne (by omega)).trans (by first | assumption | exact up_eq)))) (by omega) (Nat.zero_le _) (Nat.zero_le _) ?_
    skip
    exact V_iret dX8_juggler_71 rfl (Nat.le_of_ble_eq_true rfl) (Nat.le_of_ble_eq_true rfl) (⟨rfl, rfl, rfl⟩)
theorem M_could (h0 : w p = eO 8 (rf g (p + 1) :: fs)) (h1 : w (p + 1) = eI g 63 F) (hn : p + 1 < n) (hR : RN F N) {x : Int32} : CtR g l MX8_could 1 [rf g p, .int x] w n (.int (couA x N)) := by
  have hs := hR.2.2.2.1.1
  have e1 := hR.1.2.1
  have hple := fa_first_le (couB x (sS N)) 10
  have hpno := fa_first_no (couB x (sS N)) 10
  have hpye := fa_first_yes (couB x (sS N)) 10
  unfold couA
  generalize fa_first (couB x (sS N)) 10 = q at hple hpno hpye ⊢
  refine Ct.ofs (M := MX8_could) (ls := [some _, some _, none, none, none]) (by decide +kernel) (by exact (Nat.le_of_ble_eq_true rfl)) (by rfl) (by rfl) (by rfl) ?_
  refine V_iload_n (q := 1) dX8_could_0 rfl rfl ?_
  refine V_istore_n (q := 2) (ls' := [_, _, _, _, _]) dX8_could_1 rfl (by decide) rfl ?_
  refine V_iconst (q := 3) (v := nI 0) dX8_could_2 rfl (by decide) ?_
  refine V_istore_n (q := 4) (ls' := [_, _, _, _, _]) dX8_could_3 rfl (by decide) rfl ?_
  have key : ∀ k, k ≤ q → ∀ v : Int32, v = x - nI (canC (sS N) k) → V g l MX8_could (rmd 1 0 0) (FinM g (qR (.int (if q < 10 then nI q else -1)) w n) 0 0) 4 [some (rf g p), some (.int x), some (.int v), some (.int (nI k)), none] [] (w) n 0 0 := by
    refine loopU (fun k => ∀ v : Int32, v = x - nI (canC (sS N) k) → V g l MX8_could (rmd 1 0 0) (FinM g (qR (.int (if q < 10 then nI q else -1)) w n) 0 0) 4 [some (rf g p), some (.int x), some (.int v), some (.int (nI k)), none] [] (w) n 0 0) q ?_ ?_
    · intro v hv
      by_cases hp : q < 10
      · rw [if_pos hp]
        have hy := hpye hp
        unfold couB at hy
        rw [Bool.and_eq_true] at hy
        have hv0 : v = 0 := by rw [hv]; exact sub0.mpr (of_decide_eq_true hy.2)
        refine V_iload_n (q := 5) dX8_could_4 rfl rfl ?_
        refine V_bipush (q := 7) (v := nI 9) dX8_could_5 rfl (by decide) ?_
        refine V_icmpN_gt (q := 10) (tgt := 52) dX8_could_7 (by decide) rfl (by omega) (by omega) (fun h9 => by first | exact h9.elim | exact absurd h9 (by assumption) | (exfalso; omega)) (fun _ => ?_)
        refine V_aload_n (q := 11) dX8_could_10 rfl rfl rfl ?_
        refine GX8_9 (q := 14) rfl dX8_could_11 rfl (by first | assumption | exact up_eq | exact (up_ne (by omega)).trans (by first | assumption | exact up_eq | exact (up_ne (by omega)).trans (by first | assumption | exact up_eq | exact (up_ne (by omega)).trans (by first | assumption | exact up_eq)))) (by omega) (by rfl) ?_
        refine V_iconst (q := 15) (v := nI 1) dX8_could_14 rfl (by decide) ?_
        refine V_ialdN (q := 16) dX8_could_15 rfl (by first | assumption | exact up_eq | exact (up_ne (by omega)).trans (by first | assumption | exact up_eq | exact (up_ne (by omega)).trans (by first | assumption | exact up_eq | exact (up_ne (by omega)).trans (by first | assumption | exact up_eq)))) (by omega) (by omega) (by omega) rfl e1 ?_
        refine V_iload_n (q := 17) dX8_could_16 rfl rfl ?_
        refine CrX8_92 (q := 20) rfl dX8_could_17 rfl (m_can hs (h := q) (by omega)) ⟨(Nat.le_of_ble_eq_true rfl), (Nat.le_of_ble_eq_true rfl)⟩ (Nat.le_of_ble_eq_true rfl) (Nat.zero_le _) (Nat.zero_le _) ?_
        refine V_topi (if_pos (canK_t.mp hy.1)) ?_
        refine V_istore (q := 22) (ls' := [_, _, _, _, _]) dX8_could_20 rfl (by decide) rfl ?_
        refine V_iload (q := 24) dX8_could_22 rfl rfl ?_
        refine V_if_eq (q := 27) (tgt := 33) dX8_could_24 (by decide) rfl (fun h9 => absurd h9 (by decide)) (fun _ => ?_)
        refine V_iload_n (q := 28) dX8_could_27 rfl rfl ?_
        refine V_if_ne (q := 31) (tgt := 33) dX8_could_28 (by decide) rfl (fun h9 => absurd hv0 h9) (fun _ => ?_)
        refine V_iload_n (q := 32) dX8_could_31 rfl rfl ?_
        exact V_iret dX8_could_32 rfl (Nat.le_of_ble_eq_true rfl) (Nat.le_of_ble_eq_true rfl) (⟨rfl, rfl, rfl⟩)
      · rw [if_neg hp]
        refine V_iload_n (q := 5) dX8_could_4 rfl rfl ?_
        refine V_bipush (q := 7) (v := nI 9) dX8_could_5 rfl (by decide) ?_
        refine V_icmpN_gt (q := 10) (tgt := 52) dX8_could_7 (by decide) rfl (by omega) (by omega) (fun _ => ?_) (fun h9 => by first | exact h9.elim | (exfalso; omega))
        refine V_iconst (q := 53) (v := (-1)) dX8_could_52 rfl (by decide) ?_
        exact V_iret dX8_could_53 rfl (Nat.le_of_ble_eq_true rfl) (Nat.le_of_ble_eq_true rfl) (⟨rfl, rfl, rfl⟩)
    · intro k hk ih v hv
      have hno := hpno k hk
      refine V_iload_n (q := 5) dX8_could_4 rfl rfl ?_
      refine V_bipush (q := 7) (v := nI 9) dX8_could_5 rfl (by decide) ?_
      refine V_icmpN_gt (q := 10) (tgt := 52) dX8_could_7 (by decide) rfl (by omega) (by omega) (fun h9 => by first | exact h9.elim | exact absurd h9 (by assumption) | (exfalso; omega)) (fun _ => ?_)
      refine V_aload_n (q := 11) dX8_could_10 rfl rfl rfl ?_
      refine GX8_9 (q := 14) rfl dX8_could_11 rfl (by first | assumption | exact up_eq | exact (up_ne (by omega)).trans (by first | assumption | exact up_eq | exact (up_ne (by omega)).trans (by first | assumption | exact up_eq | exact (up_ne (by omega)).trans (by first | assumption | exact up_eq)))) (by omega) (by rfl) ?_
      refine V_iconst (q := 15) (v := nI 1) dX8_could_14 rfl (by decide) ?_
      refine V_ialdN (q := 16) dX8_could_15 rfl (by first | assumption | exact up_eq | exact (up_ne (by omega)).trans (by first | assumption | exact up_eq | exact (up_ne (by omega)).trans (by first | assumption | exact up_eq | exact (up_ne (by omega)).trans (by first | assumption | exact up_eq)))) (by omega) (by omega) (by omega) rfl e1 ?_
      refine V_iload_n (q := 17) dX8_could_16 rfl rfl ?_
      refine CrX8_92 (q := 20) rfl dX8_could_17 rfl (m_can hs (h := k) (by omega)) ⟨(Nat.le_of_ble_eq_true rfl), (Nat.le_of_ble_eq_true rfl)⟩ (Nat.le_of_ble_eq_true rfl) (Nat.zero_le _) (Nat.zero_le _) ?_
      by_cases hc : canN (sS N) k
      · skip
        refine V_topi (if_pos hc) ?_
        have hne : ¬ v = 0 := by
          intro e
          rw [hv] at e
          unfold couB at hno
          rw [canK_t.mpr hc, decide_eq_true (sub0.mp e)] at hno
          cases hno
        have hv' : v - nI 1 = x - nI (canC (sS N) (k + 1)) := by
          rw [show canC (sS N) (k + 1) = canC (sS N) k + 1 from fa_cnt_yes (canK_t.mpr hc), hv, sub2, nI_add]
        refine V_istore (q := 22) (ls' := [_, _, _, _, _]) dX8_could_20 rfl (by decide) rfl ?_
        refine V_iload (q := 24) dX8_could_22 rfl rfl ?_
        refine V_if_eq (q := 27) (tgt := 33) dX8_could_24 (by decide) rfl (fun h9 => absurd h9 (by decide)) (fun _ => ?_)
        refine V_iload_n (q := 28) dX8_could_27 rfl rfl ?_
        refine V_if_ne (q := 31) (tgt := 33) dX8_could_28 (by decide) rfl (fun _ => ?_) (fun h9 => absurd h9 hne)
        refine V_iload_n (q := 34) dX8_could_33 rfl rfl ?_
        refine V_iload (q := 36) dX8_could_34 rfl rfl ?_
        refine V_if_eq (q := 39) (tgt := 43) dX8_could_36 (by decide) rfl (fun h9 => absurd h9 (by decide)) (fun _ => ?_)
        refine V_iconst (q := 40) (v := nI 1) dX8_could_39 rfl (by decide) ?_
        refine V_goto (tgt := 44) dX8_could_40 (by decide) ?_
        refine V_isub (q := 45) dX8_could_44 rfl rfl ?_
        refine V_istore_n (q := 46) (ls' := [_, _, _, _, _]) dX8_could_45 rfl (by decide) rfl ?_
        refine V_iinc (q := 49) (ls' := [_, _, _, _, _]) dX8_could_46 rfl (by decide) rfl (by first | exact inc1 _ | rfl) rfl ?_
        refine V_goto (tgt := 4) dX8_could_49 (by decide) ?_
        refine V_fg 4 (ls2 := [_, _, _, _, none]) (by rfl) ?_
        exact ih _ hv'
      · skip
        refine V_topi (if_neg hc) ?_
        have hv' : v - nI 0 = x - nI (canC (sS N) (k + 1)) := by
          rw [show canC (sS N) (k + 1) = canC (sS N) k from fa_cnt_no (canK_f.mpr hc), hv, sub2, nI_add, Nat.add_zero]
        refine V_istore (q := 22) (ls' := [_, _, _, _, _]) dX8_could_20 rfl (by decide) rfl ?_
        refine V_iload (q := 24) dX8_could_22 rfl rfl ?_
        refine V_if_eq (q := 27) (tgt := 33) dX8_could_24 (by decide) rfl (fun _ => ?_) (fun h9 => absurd rfl h9)
        refine V_iload_n (q := 34) dX8_could_33 rfl rfl ?_
        refine V_iload (q := 36) dX8_could_34 rfl rfl ?_
        refine V_if_eq (q := 39) (tgt := 43) dX8_could_36 (by decide) rfl (fun _ => ?_) (fun h9 => absurd rfl h9)
        refine V_iconst (q := 44) (v := nI 0) dX8_could_43 rfl (by decide) ?_
        refine V_isub (q := 45) dX8_could_44 rfl rfl ?_
        refine V_istore_n (q := 46) (ls' := [_, _, _, _, _]) dX8_could_45 rfl (by decide) rfl ?_
        refine V_iinc (q := 49) (ls' := [_, _, _, _, _]) dX8_could_46 rfl (by decide) rfl (by first | exact inc1 _ | rfl) rfl ?_
        refine V_goto (tgt := 4) dX8_could_49 (by decide) ?_
        refine V_fg 4 (ls2 := [_, _, _, _, none]) (by rfl) ?_
        exact ih _ hv'
  exact key 0 (Nat.zero_le _) x (by rw [show canC (sS N) 0 = 0 from rfl]; exact (Int32.sub_zero x).symm)
theorem m_worth (h0 : w p = eO 8 (rf g (p + 1) :: fs)) (h1 : w (p + 1) = eI g 63 F) (hn : p + 1 < n) (hR : RN F N) {i k : Nat} (hi : i < sC N) (hk : k < 3) : CtR g l MX8_worth 3 [rf g p, .int (nI k), .int (nI i)] w n (.int (wKI k (sR N i))) := by
  unfold wKI
  refine Ct.ofs (M := MX8_worth) (ls := [some _, some _, some _]) (by decide +kernel) (by exact (Nat.le_of_ble_eq_true rfl)) (by rfl) (by rfl) (by rfl) ?_
  refine V_iload_n (q := 1) dX8_worth_0 rfl rfl ?_
  refine V_ifN_ne (q := 4) (tgt := 13) dX8_worth_1 (by decide) rfl (by omega) (fun c0 => ?_) (fun c0 => ?_)
  · skip
    rw [if_neg c0]
    refine V_iload_n (q := 14) dX8_worth_13 rfl rfl ?_
    refine V_iconst (q := 15) (v := nI 1) dX8_worth_14 rfl (by decide) ?_
    refine V_icmpN_ne (q := 18) (tgt := 26) dX8_worth_15 (by decide) rfl (by omega) (by omega) (fun c1 => ?_) (fun c1 => ?_)
    · skip
      rw [if_neg c1]
      refine V_aload_n (q := 27) dX8_worth_26 rfl rfl rfl ?_
      refine V_iload_n (q := 28) dX8_worth_27 rfl rfl ?_
      refine CrX8_148 (q := 31) rfl dX8_worth_28 rfl (m_greatestOf h0 h1 hn hR hi) ⟨(Nat.le_of_ble_eq_true rfl), (Nat.le_of_ble_eq_true rfl)⟩ (Nat.le_of_ble_eq_true rfl) (by first | assumption | exact up_eq | exact (up_ne (by omega)).trans (by first | assumption | exact up_eq | exact (up_ne (by omega)).trans (by first | assumption | exact up_eq | exact (up_ne (by omega)).trans (by first | assumption | exact up_eq)))) (by omega) (Nat.zero_le _) (Nat.zero_le _) ?_
      refine V_ineg (q := 32) dX8_worth_31 rfl rfl ?_
      exact V_iret dX8_worth_32 rfl (Nat.le_of_ble_eq_true rfl) (Nat.le_of_ble_eq_true rfl) (⟨rfl, rfl, rfl⟩)
    · skip
      rw [if_pos c1]
      refine V_aload_n (q := 19) dX8_worth_18 rfl rfl rfl ?_
      refine V_iload_n (q := 20) dX8_worth_19 rfl rfl ?_
      refine CrX8_103 (q := 23) rfl dX8_worth_20 rfl (m_ballsOf h0 h1 hn hR hi) ⟨(Nat.le_of_ble_eq_true rfl), (Nat.le_of_ble_eq_true rfl)⟩ (Nat.le_of_ble_eq_true rfl) (by first | assumption | exact up_eq | exact (up_ne (by omega)).trans (by first | assumption | exact up_eq | exact (up_ne (by omega)).trans (by first | assumption | exact up_eq | exact (up_ne (by omega)).trans (by first | assumption | exact up_eq)))) (by omega) (Nat.zero_le _) (Nat.zero_le _) ?_
      refine V_goto (tgt := 32) dX8_worth_23 (by decide) ?_
      exact V_iret dX8_worth_32 rfl (Nat.le_of_ble_eq_true rfl) (Nat.le_of_ble_eq_true rfl) (⟨rfl, rfl, rfl⟩)
  · skip
    rw [if_pos c0]
    refine V_aload_n (q := 5) dX8_worth_4 rfl rfl rfl ?_
    refine V_iload_n (q := 6) dX8_worth_5 rfl rfl ?_
    refine CrX8_75 (q := 9) rfl dX8_worth_6 rfl (m_lengthOf h0 h1 hn hR hi) ⟨(Nat.le_of_ble_eq_true rfl), (Nat.le_of_ble_eq_true rfl)⟩ (Nat.le_of_ble_eq_true rfl) (by first | assumption | exact up_eq | exact (up_ne (by omega)).trans (by first | assumption | exact up_eq | exact (up_ne (by omega)).trans (by first | assumption | exact up_eq | exact (up_ne (by omega)).trans (by first | assumption | exact up_eq)))) (by omega) (Nat.zero_le _) (Nat.zero_le _) ?_
    refine V_ineg (q := 10) dX8_worth_9 rfl rfl ?_
    refine V_goto (tgt := 32) dX8_worth_10 (by decide) ?_
    exact V_iret dX8_worth_32 rfl (Nat.le_of_ble_eq_true rfl) (Nat.le_of_ble_eq_true rfl) (⟨rfl, rfl, rfl⟩)
theorem rnk_lt {key : Nat → Int32} {c i : Nat} (hi : i < c) : rnkN key c i < c := by
  have hf : ahB key i i = false := decide_eq_false (fun q => q.elim (fun q => (fa_of_lt q).2.2.2.1 rfl) (fun q => Nat.lt_irrefl _ q.2))
  have : ∀ c, i < c → rnkN key c i < c := by
    intro c
    induction c with
    | zero => intro h; exact absurd h (Nat.not_lt_zero _)
    | succ c ih =>
      intro h
      by_cases e : i = c
      · subst e
        have h1 : rnkN key (i + 1) i = rnkN key i i := fa_cnt_no hf
        have h2 : rnkN key i i ≤ i := fa_cnt_le _ _
        omega
      · have h1 : rnkN key (c + 1) i ≤ rnkN key c i + 1 := by
          by_cases q : ahB key c i = true
          · exact Nat.le_of_eq (fa_cnt_yes q)
          · have := fa_cnt_no (p := fun j => ahB key j i) (n := c) (Bool.eq_false_iff.mpr q)
            exact Nat.le_trans (Nat.le_of_eq this) (Nat.le_succ _)
        have := ih (by omega)
        omega
  exact this c hi
theorem M_ranked (h0 : w p = eO 8 (rf g (p + 1) :: fs)) (h1 : w (p + 1) = eI g 63 F) (hn : p + 1 < n) (hR : RN F N) {x y : Int32} : CtR g l MX8_ranked 4 [rf g p, .int x, .int y] w n (.int (rnkA x y N)) := by
  have hc6 := hR.2.2.1.1
  have f0 := hR.1.1
  rcases i3_lt x 3 (by decide) with hx | ⟨k, hk, rfl⟩
  · rw [show rnkA x y N = -2 by unfold rnkA; rw [idx_no hx]]
    refine Ct.ofs (M := MX8_ranked) (ls := [some _, some _, some _, none, none, none, none]) (by decide +kernel) (by exact (Nat.le_of_ble_eq_true rfl)) (by rfl) (by rfl) (by rfl) ?_
    refine V_iload_n (q := 1) dX8_ranked_0 rfl rfl ?_
    refine V_iconst (q := 2) (v := nI 0) dX8_ranked_1 rfl (by decide) ?_
    refine V_iconst (q := 3) (v := nI 2) dX8_ranked_2 rfl (by decide) ?_
    refine CrX8_71 (q := 6) rfl dX8_ranked_3 rfl (c_between) ⟨(Nat.le_of_ble_eq_true rfl), (Nat.le_of_ble_eq_true rfl)⟩ (Nat.le_of_ble_eq_true rfl) (Nat.zero_le _) (Nat.zero_le _) ?_
    refine V_topi (if_neg (bet_out (c := 3) hx (by decide))) ?_
    refine V_if_ne (q := 9) (tgt := 12) dX8_ranked_6 (by decide) rfl (fun h9 => absurd rfl h9) (fun _ => ?_)
    refine V_bipush (q := 11) (v := (-2)) dX8_ranked_9 rfl (by decide) ?_
    exact V_iret dX8_ranked_11 rfl (Nat.le_of_ble_eq_true rfl) (Nat.le_of_ble_eq_true rfl) (⟨rfl, rfl, rfl⟩)
  refine Ct.ofs (M := MX8_ranked) (ls := [some _, some _, some _, none, none, none, none]) (by decide +kernel) (by exact (Nat.le_of_ble_eq_true rfl)) (by rfl) (by rfl) (by rfl) ?_
  refine V_iload_n (q := 1) dX8_ranked_0 rfl rfl ?_
  refine V_iconst (q := 2) (v := nI 0) dX8_ranked_1 rfl (by decide) ?_
  refine V_iconst (q := 3) (v := nI 2) dX8_ranked_2 rfl (by decide) ?_
  refine CrX8_71 (q := 6) rfl dX8_ranked_3 rfl (c_between) ⟨(Nat.le_of_ble_eq_true rfl), (Nat.le_of_ble_eq_true rfl)⟩ (Nat.le_of_ble_eq_true rfl) (Nat.zero_le _) (Nat.zero_le _) ?_
  refine V_topi (if_pos (bet_in (c := 3) hk (by decide))) ?_
  refine V_if_ne (q := 9) (tgt := 12) dX8_ranked_6 (by decide) rfl (fun _ => ?_) (fun h9 => absurd h9 (by decide))
  refine V_iconst (q := 13) (v := nI 0) dX8_ranked_12 rfl (by decide) ?_
  refine V_istore_n (q := 14) (ls' := [_, _, _, _, _, _, _]) dX8_ranked_13 rfl (by decide) rfl ?_
  generalize hkey : (fun j => rkK k (sR N j)) = key
  have inner : ∀ i, i < sC N → (∀ (W : Value → Prop), True) → (V g l MX8_ranked (rmd 4 0 0) (FinM g (qR (.int (rnkA (nI k) y N)) w n) 0 0) 89 [some (rf g p), some (.int (nI k)), some (.int y), some (.int (nI i)), some (.int (nI (rnkN key (sC N) i))), none, none] [] (w) n 0 0) → V g l MX8_ranked (rmd 4 0 0) (FinM g (qR (.int (rnkA (nI k) y N)) w n) 0 0) 24 [some (rf g p), some (.int (nI k)), some (.int y), some (.int (nI i)), none, none, none] [] (w) n 0 0 := by
    intro i hi _ hk89
    obtain ⟨i0, i1, i2⟩ := hR.2.2.1.2 i hi
    refine V_iconst (q := 25) (v := nI 0) dX8_ranked_24 rfl (by decide) ?_
    refine V_istore (q := 27) (ls' := [_, _, _, _, _, _, _]) dX8_ranked_25 rfl (by decide) rfl ?_
    refine V_iconst (q := 28) (v := nI 0) dX8_ranked_27 rfl (by decide) ?_
    refine V_istore (q := 30) (ls' := [_, _, _, _, _, _, _]) dX8_ranked_28 rfl (by decide) rfl ?_
    refine loopU (fun j => V g l MX8_ranked (rmd 4 0 0) (FinM g (qR (.int (rnkA (nI k) y N)) w n) 0 0) 30 [some (rf g p), some (.int (nI k)), some (.int y), some (.int (nI i)), some (.int (nI (rnkN key j i))), some (.int (nI j)), none] [] (w) n 0 0) (sC N) ?_ ?_ 0 (Nat.zero_le _)
    · skip
      refine V_iload (q := 32) dX8_ranked_30 rfl rfl ?_
      refine V_aload_n (q := 33) dX8_ranked_32 rfl rfl rfl ?_
      refine GX8_9 (q := 36) rfl dX8_ranked_33 rfl (by first | assumption | exact up_eq | exact (up_ne (by omega)).trans (by first | assumption | exact up_eq | exact (up_ne (by omega)).trans (by first | assumption | exact up_eq | exact (up_ne (by omega)).trans (by first | assumption | exact up_eq)))) (by omega) (by rfl) ?_
      refine V_iconst (q := 37) (v := nI 0) dX8_ranked_36 rfl (by decide) ?_
      refine V_ialdN (q := 38) dX8_ranked_37 rfl (by first | assumption | exact up_eq | exact (up_ne (by omega)).trans (by first | assumption | exact up_eq | exact (up_ne (by omega)).trans (by first | assumption | exact up_eq | exact (up_ne (by omega)).trans (by first | assumption | exact up_eq)))) (by omega) (by omega) (by omega) rfl f0 ?_
      refine V_icmpN_ge (q := 41) (tgt := 89) dX8_ranked_38 (by decide) rfl (by omega) (by omega) (fun _ => ?_) (fun h9 => by first | exact h9.elim | (exfalso; omega))
      refine V_fg 5 (ls2 := [_, _, _, _, _, none, _]) (by rfl) ?_
      exact hk89
    · intro j hj ih
      obtain ⟨j0, j1, j2⟩ := hR.2.2.1.2 j hj
      have hcmp := sml_cmp (wKI_sml (k := k) j0 j1 j2) (wKI_sml (k := k) i0 i1 i2)
      rw [← rkK_neg hk j0 j2, ← rkK_neg hk i0 i2] at hcmp
      have kj : key j = rkK k (sR N j) := by rw [← hkey]
      have ki : key i = rkK k (sR N i) := by rw [← hkey]
      rw [← kj, ← ki] at hcmp
      refine V_iload (q := 32) dX8_ranked_30 rfl rfl ?_
      refine V_aload_n (q := 33) dX8_ranked_32 rfl rfl rfl ?_
      refine GX8_9 (q := 36) rfl dX8_ranked_33 rfl (by first | assumption | exact up_eq | exact (up_ne (by omega)).trans (by first | assumption | exact up_eq | exact (up_ne (by omega)).trans (by first | assumption | exact up_eq | exact (up_ne (by omega)).trans (by first | assumption | exact up_eq)))) (by omega) (by rfl) ?_
      refine V_iconst (q := 37) (v := nI 0) dX8_ranked_36 rfl (by decide) ?_
      refine V_ialdN (q := 38) dX8_ranked_37 rfl (by first | assumption | exact up_eq | exact (up_ne (by omega)).trans (by first | assumption | exact up_eq | exact (up_ne (by omega)).trans (by first | assumption | exact up_eq | exact (up_ne (by omega)).trans (by first | assumption | exact up_eq)))) (by omega) (by omega) (by omega) rfl f0 ?_
      refine V_icmpN_ge (q := 41) (tgt := 89) dX8_ranked_38 (by decide) rfl (by omega) (by omega) (fun h9 => by first | exact h9.elim | exact absurd h9 (by assumption) | (exfalso; omega)) (fun _ => ?_)
      refine V_aload_n (q := 42) dX8_ranked_41 rfl rfl rfl ?_
      refine V_iload_n (q := 43) dX8_ranked_42 rfl rfl ?_
      refine V_iload (q := 45) dX8_ranked_43 rfl rfl ?_
      refine CrX8_167 (q := 48) rfl dX8_ranked_45 rfl (m_worth h0 h1 hn hR hj hk) ⟨(Nat.le_of_ble_eq_true rfl), (Nat.le_of_ble_eq_true rfl)⟩ (Nat.le_of_ble_eq_true rfl) (by first | assumption | exact up_eq | exact (up_ne (by omega)).trans (by first | assumption | exact up_eq | exact (up_ne (by omega)).trans (by first | assumption | exact up_eq | exact (up_ne (by omega)).trans (by first | assumption | exact up_eq)))) (by omega) (Nat.zero_le _) (Nat.zero_le _) ?_
      refine V_aload_n (q := 49) dX8_ranked_48 rfl rfl rfl ?_
      refine V_iload_n (q := 50) dX8_ranked_49 rfl rfl ?_
      refine V_iload_n (q := 51) dX8_ranked_50 rfl rfl ?_
      refine CrX8_167 (q := 54) rfl dX8_ranked_51 rfl (m_worth h0 h1 hn hR hi hk) ⟨(Nat.le_of_ble_eq_true rfl), (Nat.le_of_ble_eq_true rfl)⟩ (Nat.le_of_ble_eq_true rfl) (by first | assumption | exact up_eq | exact (up_ne (by omega)).trans (by first | assumption | exact up_eq | exact (up_ne (by omega)).trans (by first | assumption | exact up_eq | exact (up_ne (by omega)).trans (by first | assumption | exact up_eq)))) (by omega) (Nat.zero_le _) (Nat.zero_le _) ?_
      refine V_isub (q := 55) dX8_ranked_54 rfl rfl ?_
      refine V_istore (q := 57) (ls' := [_, _, _, _, _, _, _]) dX8_ranked_55 rfl (by decide) rfl ?_
      refine V_iload (q := 59) dX8_ranked_57 rfl rfl ?_
      refine V_iload (q := 61) dX8_ranked_59 rfl rfl ?_
      have yes : (key j < key i ∨ (key j = key i ∧ j < i)) → V g l MX8_ranked (rmd 4 0 0) (FinM g (qR (.int (rnkA (nI k) y N)) w n) 0 0) 75 [some (rf g p), some (.int (nI k)), some (.int y), some (.int (nI i)), some (.int (nI (rnkN key j i))), some (.int (nI j)), some (.int (wKI k (sR N j) - wKI k (sR N i)))] [.int (nI (rnkN key j i))] (w) n 0 0 := by
        intro q
        have q2 : ahB key j i = true := decide_eq_true q
        rw [show rnkN key (j + 1) i = rnkN key j i + 1 from fa_cnt_yes q2] at ih
        refine V_iconst (q := 76) (v := nI 1) dX8_ranked_75 rfl (by decide) ?_
        refine V_goto (tgt := 80) dX8_ranked_76 (by decide) ?_
        refine V_iadd (q := 81) dX8_ranked_80 rfl (by first | exact nI_add _ _ | rfl) ?_
        refine V_istore (q := 83) (ls' := [_, _, _, _, _, _, _]) dX8_ranked_81 rfl (by decide) rfl ?_
        refine V_iinc (q := 86) (ls' := [_, _, _, _, _, _, _]) dX8_ranked_83 rfl (by decide) rfl (by first | exact inc1 _ | rfl) rfl ?_
        refine V_goto (tgt := 30) dX8_ranked_86 (by decide) ?_
        refine V_fg 6 (ls2 := [_, _, _, _, _, _, none]) (by rfl) ?_
        exact ih
      have no : ¬ (key j < key i ∨ (key j = key i ∧ j < i)) → V g l MX8_ranked (rmd 4 0 0) (FinM g (qR (.int (rnkA (nI k) y N)) w n) 0 0) 79 [some (rf g p), some (.int (nI k)), some (.int y), some (.int (nI i)), some (.int (nI (rnkN key j i))), some (.int (nI j)), some (.int (wKI k (sR N j) - wKI k (sR N i)))] [.int (nI (rnkN key j i))] (w) n 0 0 := by
        intro q
        have q2 : ahB key j i = false := decide_eq_false q
        rw [show rnkN key (j + 1) i = rnkN key j i from fa_cnt_no q2] at ih
        refine V_iconst (q := 80) (v := nI 0) dX8_ranked_79 rfl (by decide) ?_
        refine V_iadd (q := 81) dX8_ranked_80 rfl (by first | exact nI_add _ _ | rfl) ?_
        refine V_istore (q := 83) (ls' := [_, _, _, _, _, _, _]) dX8_ranked_81 rfl (by decide) rfl ?_
        refine V_iinc (q := 86) (ls' := [_, _, _, _, _, _, _]) dX8_ranked_83 rfl (by decide) rfl (by first | exact inc1 _ | rfl) rfl ?_
        refine V_goto (tgt := 30) dX8_ranked_86 (by decide) ?_
        refine V_fg 6 (ls2 := [_, _, _, _, _, _, none]) (by rfl) ?_
        exact ih
      refine V_if_gt (q := 64) (tgt := 75) dX8_ranked_61 (by decide) rfl (fun c1 => ?_) (fun c1 => ?_)
      · skip
        exact yes (Or.inl (hcmp.1.mp c1))
      · skip
        refine V_iload (q := 66) dX8_ranked_64 rfl rfl ?_
        refine V_if_ne (q := 69) (tgt := 79) dX8_ranked_66 (by decide) rfl (fun c2 => ?_) (fun c2 => ?_)
        · skip
          exact no (fun q => q.elim (fun q => c1 (hcmp.1.mpr q)) (fun q => c2 (hcmp.2.mpr q.1)))
        · skip
          refine V_iload (q := 71) dX8_ranked_69 rfl rfl ?_
          refine V_iload_n (q := 72) dX8_ranked_71 rfl rfl ?_
          refine V_icmpN_ge (q := 75) (tgt := 79) dX8_ranked_72 (by decide) rfl (by omega) (by omega) (fun c3 => ?_) (fun c3 => ?_)
          · skip
            exact no (fun q => q.elim (fun q => c1 (hcmp.1.mpr q)) (fun q => by omega))
          · skip
            exact yes (Or.inr ⟨hcmp.2.mp c2, c3⟩)
  have fin : ∀ q, q ≤ sC N → (∀ i, i < q → nI (rnkN key (sC N) i) ≠ y) → (q < sC N → nI (rnkN key (sC N) q) = y) → rnkA (nI k) y N = (if q < sC N then nI q else -1) → V g l MX8_ranked (rmd 4 0 0) (FinM g (qR (.int (rnkA (nI k) y N)) w n) 0 0) 14 [some (rf g p), some (.int (nI k)), some (.int y), some (.int (nI 0)), none, none, none] [] (w) n 0 0 := by
    intro q hq hno hye hans
    refine loopU (fun i => V g l MX8_ranked (rmd 4 0 0) (FinM g (qR (.int (rnkA (nI k) y N)) w n) 0 0) 14 [some (rf g p), some (.int (nI k)), some (.int y), some (.int (nI i)), none, none, none] [] (w) n 0 0) q ?_ ?_ 0 (Nat.zero_le _)
    · by_cases hqc : q < sC N
      · skip
        refine V_iload_n (q := 15) dX8_ranked_14 rfl rfl ?_
        refine V_aload_n (q := 16) dX8_ranked_15 rfl rfl rfl ?_
        refine GX8_9 (q := 19) rfl dX8_ranked_16 rfl (by first | assumption | exact up_eq | exact (up_ne (by omega)).trans (by first | assumption | exact up_eq | exact (up_ne (by omega)).trans (by first | assumption | exact up_eq | exact (up_ne (by omega)).trans (by first | assumption | exact up_eq)))) (by omega) (by rfl) ?_
        refine V_iconst (q := 20) (v := nI 0) dX8_ranked_19 rfl (by decide) ?_
        refine V_ialdN (q := 21) dX8_ranked_20 rfl (by first | assumption | exact up_eq | exact (up_ne (by omega)).trans (by first | assumption | exact up_eq | exact (up_ne (by omega)).trans (by first | assumption | exact up_eq | exact (up_ne (by omega)).trans (by first | assumption | exact up_eq)))) (by omega) (by omega) (by omega) rfl f0 ?_
        refine V_icmpN_ge (q := 24) (tgt := 103) dX8_ranked_21 (by decide) rfl (by omega) (by omega) (fun h9 => by first | exact h9.elim | exact absurd h9 (by assumption) | (exfalso; omega)) (fun _ => ?_)
        refine inner q hqc (fun _ => trivial) ?_
        rw [hans, if_pos hqc]
        refine V_iload (q := 91) dX8_ranked_89 rfl rfl ?_
        refine V_iload_n (q := 92) dX8_ranked_91 rfl rfl ?_
        refine V_icmp_ne (q := 95) (tgt := 97) dX8_ranked_92 (by decide) rfl (fun h9 => absurd (hye hqc) h9) (fun _ => ?_)
        refine V_iload_n (q := 96) dX8_ranked_95 rfl rfl ?_
        exact V_iret dX8_ranked_96 rfl (Nat.le_of_ble_eq_true rfl) (Nat.le_of_ble_eq_true rfl) (⟨rfl, rfl, rfl⟩)
      · rw [hans, if_neg hqc]
        refine V_iload_n (q := 15) dX8_ranked_14 rfl rfl ?_
        refine V_aload_n (q := 16) dX8_ranked_15 rfl rfl rfl ?_
        refine GX8_9 (q := 19) rfl dX8_ranked_16 rfl (by first | assumption | exact up_eq | exact (up_ne (by omega)).trans (by first | assumption | exact up_eq | exact (up_ne (by omega)).trans (by first | assumption | exact up_eq | exact (up_ne (by omega)).trans (by first | assumption | exact up_eq)))) (by omega) (by rfl) ?_
        refine V_iconst (q := 20) (v := nI 0) dX8_ranked_19 rfl (by decide) ?_
        refine V_ialdN (q := 21) dX8_ranked_20 rfl (by first | assumption | exact up_eq | exact (up_ne (by omega)).trans (by first | assumption | exact up_eq | exact (up_ne (by omega)).trans (by first | assumption | exact up_eq | exact (up_ne (by omega)).trans (by first | assumption | exact up_eq)))) (by omega) (by omega) (by omega) rfl f0 ?_
        refine V_icmpN_ge (q := 24) (tgt := 103) dX8_ranked_21 (by decide) rfl (by omega) (by omega) (fun _ => ?_) (fun h9 => by first | exact h9.elim | (exfalso; omega))
        refine V_iconst (q := 104) (v := (-1)) dX8_ranked_103 rfl (by decide) ?_
        exact V_iret dX8_ranked_104 rfl (Nat.le_of_ble_eq_true rfl) (Nat.le_of_ble_eq_true rfl) (⟨rfl, rfl, rfl⟩)
    · intro i hi ih
      refine V_iload_n (q := 15) dX8_ranked_14 rfl rfl ?_
      refine V_aload_n (q := 16) dX8_ranked_15 rfl rfl rfl ?_
      refine GX8_9 (q := 19) rfl dX8_ranked_16 rfl (by first | assumption | exact up_eq | exact (up_ne (by omega)).trans (by first | assumption | exact up_eq | exact (up_ne (by omega)).trans (by first | assumption | exact up_eq | exact (up_ne (by omega)).trans (by first | assumption | exact up_eq)))) (by omega) (by rfl) ?_
      refine V_iconst (q := 20) (v := nI 0) dX8_ranked_19 rfl (by decide) ?_
      refine V_ialdN (q := 21) dX8_ranked_20 rfl (by first | assumption | exact up_eq | exact (up_ne (by omega)).trans (by first | assumption | exact up_eq | exact (up_ne (by omega)).trans (by first | assumption | exact up_eq | exact (up_ne (by omega)).trans (by first | assumption | exact up_eq)))) (by omega) (by omega) (by omega) rfl f0 ?_
      refine V_icmpN_ge (q := 24) (tgt := 103) dX8_ranked_21 (by decide) rfl (by omega) (by omega) (fun h9 => by first | exact h9.elim | exact absurd h9 (by assumption) | (exfalso; omega)) (fun _ => ?_)
      refine inner i (by omega) (fun _ => trivial) ?_
      refine V_iload (q := 91) dX8_ranked_89 rfl rfl ?_
      refine V_iload_n (q := 92) dX8_ranked_91 rfl rfl ?_
      refine V_icmp_ne (q := 95) (tgt := 97) dX8_ranked_92 (by decide) rfl (fun _ => ?_) (fun h9 => absurd h9 (hno i hi))
      refine V_iinc (q := 100) (ls' := [_, _, _, _, _, _, _]) dX8_ranked_97 rfl (by decide) rfl (by first | exact inc1 _ | rfl) rfl ?_
      refine V_goto (tgt := 14) dX8_ranked_100 (by decide) ?_
      refine V_fg 4 (ls2 := [_, _, _, _, none, _, _]) (by rfl) ?_
      exact ih
  rcases i3_lt y (sC N) (by omega) with hy | ⟨q, hq, rfl⟩
  · have ea : rnkA (nI k) y N = -1 := by
      unfold rnkA
      rw [idx_yes hk (by decide)]
      show (match idx y (sC N) with | none => _ | some k => _) = _
      rw [idx_no hy]
    refine fin (sC N) (Nat.le_refl _) (fun i hi e => ?_) (fun z => absurd z (Nat.lt_irrefl _)) (by rw [ea, if_neg (Nat.lt_irrefl _)])
    have hl := rnk_lt (key := key) hi
    rw [← e] at hy
    rcases hy with hy | hy
    · exact nI_pos (by omega) hy
    · rw [nI_leI (by omega) (by omega)] at hy
      omega
  · have ea : rnkA (nI k) (nI q) N = if fa_first (fun i => decide (rnkN key (sC N) i = q)) (sC N) < sC N then nI (fa_first (fun i => decide (rnkN key (sC N) i = q)) (sC N)) else -1 := by
      rw [← hkey]
      unfold rnkA
      rw [idx_yes hk (by decide)]
      show (match idx (nI q) (sC N) with | none => _ | some k => _) = _
      rw [idx_yes hq (by omega)]
    refine fin _ (fa_first_le (fun i => decide (rnkN key (sC N) i = q)) (sC N)) (fun i hi e => ?_) (fun z => congrArg nI (of_decide_eq_true (fa_first_yes _ _ z))) ea
    have h9 := of_decide_eq_false (fa_first_no _ _ i hi)
    have hl : rnkN key (sC N) i ≤ sC N := fa_cnt_le _ _
    rw [nI_eq (by omega) (by omega)] at e
    exact h9 e
end MA
