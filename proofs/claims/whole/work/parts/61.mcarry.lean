/-! the model: a command carried out -/
/-- an error, or a number that is not below 0 -/
def Sg (x : Int32) : Prop := isErr x ∨ ∃ k, k < 2 ^ 31 ∧ x = nI k
theorem Sg.n4 {x : Int32} (h : Sg x) : x ≠ -4 := by
  rcases h with (h | h | h) | ⟨k, hk, h⟩
  · rw [h]; decide
  · rw [h]; decide
  · rw [h]; decide
  · rw [h]; exact nI_m4 hk
def CmG (N : StT) (res : OpR) : Prop := Sg res.1 ∧ sB res.2.1 ≤ sB N + 9
theorem CmG.no {N : StT} {x : Int32} {d : Option (Int32 × Int32)} (h : isErr x) : CmG N (x, N, d) := ⟨Or.inl h, Nat.le_add_right _ _⟩
theorem CmG.yes {N N' : StT} {k : Nat} (hk : k < 2 ^ 31) (h : sB N' ≤ sB N + 9) : CmG N (nI k, N', none) := ⟨Or.inr ⟨k, hk, rfl⟩, h⟩
theorem e1m : isErr (-1 : Int32) := Or.inl rfl
theorem e2m : isErr (-2 : Int32) := Or.inr (Or.inl rfl)
theorem e3m : isErr (-3 : Int32) := Or.inr (Or.inr rfl)
theorem addA_g {x m : Int32} {N : StT} (h2 : OkN N) : CmG N (addA x m N) := by
  have := h2.1
  unfold addA
  repeat' split
  all_goals first | exact CmG.no e2m | exact CmG.no e3m | exact CmG.yes (by omega) (Nat.le_add_right _ _)
theorem dropA_g {x : Int32} {N : StT} (h2 : OkN N) : CmG N (dropA x N) := by
  have := h2.1
  unfold dropA
  repeat' split
  all_goals first | exact CmG.no e1m | exact CmG.yes (by omega) (Nat.le_add_right _ _)
theorem turnA_g {x : Int32} {N : StT} (h2 : OkN N) : CmG N (turnA x N) := by
  unfold turnA
  split
  · exact CmG.no e1m
  · rename_i i hi
    have hi2 := idx_lt (by have := h2.1; omega) hi
    obtain ⟨q1, q2, q3⟩ := h2.2 i hi2
    have := q3 _ (Nat.mod_lt (0 + 1) q1)
    exact CmG.yes (by unfold rotN; omega) (Nat.le_add_right _ _)
theorem swapA_g {x y z : Int32} {N : StT} : CmG N (swapA x y z N) := by
  unfold swapA
  repeat' split
  all_goals first | exact CmG.no e1m | exact CmG.no e3m | exact CmG.yes (by omega) (Nat.le_add_right _ _)
theorem beginA_g {x : Int32} {N : StT} : CmG N (beginA x N) := by
  unfold beginA
  split
  · exact CmG.no e2m
  · rename_i k hk
    have hk2 := idx_lt (by decide) hk
    split
    · exact CmG.no e2m
    · have h3 : 2 ^ k < 2 ^ 9 := Nat.pow_lt_pow_right (by decide) hk2
      exact CmG.yes (by omega) (Nat.zero_le _)
theorem tossA_g {x : Int32} {N : StT} : CmG N (tossA x N) := by
  unfold tossA
  split
  · exact CmG.no e2m
  · split
    · exact CmG.no e3m
    · split
      · exact CmG.yes (by omega) (show sB N + 1 ≤ sB N + 9 by omega)
      · exact CmG.no e3m
theorem joinA_g {x : Int32} {N : StT} (h : OkS N) (h2 : OkN N) : CmG N (joinA x N) := by
  unfold joinA
  split
  · exact CmG.no e1m
  · rename_i i hi
    have hi2 := idx_lt (by have := h2.1; omega) hi
    obtain ⟨q1, q2, q3⟩ := h2.2 i hi2
    split
    · exact CmG.no e3m
    · rename_i hd
      obtain ⟨hcl, hsm⟩ := outA_none hd
      have hst := stN_lt (L := (sR N i).1) (b := 0) q1 q3
      obtain ⟨k, hk9, hk⟩ := nine h.1 hst (by rw [balls_ok q1 q3 hcl, hsm])
      rw [dstN_is hk]
      refine CmG.yes (by omega) ?_
      show sB (thrA N _ k) ≤ sB N + 9
      rw [thrA_B]
      omega
theorem onceA_g {x : Int32} {N : StT} (h2 : OkN N) : CmG N (onceA x N) := by
  unfold onceA
  split
  · exact CmG.no e1m
  · rename_i i hi
    have hi2 := idx_lt (by have := h2.1; omega) hi
    obtain ⟨q1, q2, q3⟩ := h2.2 i hi2
    split
    · exact CmG.no e3m
    · split
      · refine CmG.yes (by omega) ?_
        rw [thrA_B]
        omega
      · exact CmG.no e3m
theorem liftA_g {x : Int32} {N : StT} (h2 : OkN N) : (Sg (liftA x N).1 ∨ (liftA x N).1 = -4) ∧ sB (liftA x N).2.1 ≤ sB N + 9 := by
  unfold liftA
  split
  · exact ⟨Or.inl (Or.inl e1m), Nat.le_add_right _ _⟩
  · rename_i i hi
    have hi2 := idx_lt (by have := h2.1; omega) hi
    obtain ⟨q1, q2, q3⟩ := h2.2 i hi2
    split
    · exact ⟨Or.inl (Or.inl e3m), Nat.le_add_right _ _⟩
    · rename_i hf
      refine ⟨?_, Nat.le_add_right _ _⟩
      show Sg (ballI (upN (sR N i).2) (sR N i).1) ∨ ballI (upN (sR N i).2) (sR N i).1 = -4
      unfold ballI
      by_cases hc : clN (upN (sR N i).2) (sR N i).1 = (sR N i).1
      · rw [if_pos hc]
        have hd : sumN (upN (sR N i).2) (sR N i).1 / (sR N i).1 ≤ 9 := divL_le q1 (fun j hj => by
          have h9 := fa_first_no (fun k => decide (9 ≤ (sR N i).2 k)) (sR N i).1 j (by omega)
          have := of_decide_eq_false h9
          show (sR N i).2 j + 1 ≤ 9
          omega)
        exact Or.inl (Or.inr ⟨_, by omega, rfl⟩)
      · rw [if_neg hc]
        exact Or.inr rfl
theorem cmdN_g {t : Nat → Nat} {tl s : Nat} {N : StT} (h : OkS N) (h2 : OkN N) : (Sg (cmdN t tl s N).1 ∨ (cmdN t tl s N).1 = -4) ∧ sB (cmdN t tl s N).2.1 ≤ sB N + 9 := by
  unfold cmdN
  split
  · exact ⟨Or.inl (dropA_g h2).1, (dropA_g h2).2⟩
  split
  · exact ⟨Or.inl (turnA_g h2).1, (turnA_g h2).2⟩
  split
  · exact ⟨Or.inl swapA_g.1, swapA_g.2⟩
  split
  · exact liftA_g h2
  split
  · exact ⟨Or.inl beginA_g.1, beginA_g.2⟩
  split
  · exact ⟨Or.inl tossA_g.1, tossA_g.2⟩
  split
  · exact ⟨Or.inl (joinA_g h h2).1, (joinA_g h h2).2⟩
  split
  · exact ⟨Or.inl (onceA_g h2).1, (onceA_g h2).2⟩
  exact ⟨Or.inl (addA_g h2).1, (addA_g h2).2⟩
def z4 (x : Int32) : Int32 := if x = -4 then 0 else x
theorem z4_no {x : Int32} (h : Sg x) : z4 x = x := if_neg h.n4
theorem nx_end {t : Nat → Nat} {tl s : Nat} (hs : s ≤ tl) (hb : bdN t tl s = 0) (hE : nxN t tl s = tl ∨ t (nxN t tl s) = 59) : endN t tl s = nxN t tl s ∧ s < nxN t tl s := by
  obtain ⟨n1, n2, n3, n4⟩ := endN_ok (t := t) hs
  have nx := nxN_le (t := t) hs
  have hD : 0 < dN t tl s := by
    unfold bdN at hb
    split at hb
    next => cases hb
    next q => omega
  have hlt : s < nxN t tl s := by unfold nxN; omega
  have hno : ∀ i, s ≤ i → i < nxN t tl s → t i ≠ 59 := by
    intro i a1 a2
    rcases Nat.eq_zero_or_pos (wAN t tl s) with hW | hW
    · obtain ⟨d1, d2, d3⟩ := rc_zero hW
      have := dgs_dig (t := t) (tl := tl) (s := s) (m := 8) (k := i - s) (by omega)
      rw [show s + (i - s) = i by omega] at this
      omega
    · obtain ⟨d1, d2, d3⟩ := rc_pos hW
      by_cases hi : i = s
      · rw [hi]
        intro h59
        have hlt2 : s < tl := by omega
        rw [wA_in hlt2, h59] at hW
        exact absurd hW (by decide)
      · have := dgs_dig (t := t) (tl := tl) (s := s + 1) (m := wAN t tl s) (k := i - s - 1) (by omega)
        rw [show s + 1 + (i - s - 1) = i by omega] at this
        omega
  refine ⟨?_, hlt⟩
  rcases Nat.lt_trichotomy (endN t tl s) (nxN t tl s) with q | q | q
  · exact absurd (n4 (by omega)) (hno _ n1 q)
  · exact q
  · rcases hE with e | e
    · omega
    · exact absurd e (n3 _ (by omega) q)
section MC
variable {g : GG} {l : Launch} {w : HW} {n p : Nat} {K : MS} {F Fs Fb C T : Nat → Int32} {pk : Nat} {Hs : Nat → StT} {tl s : Nat} {t : Nat → Nat} {N : StT}
theorem m_carryOut (h : MBd g w n p K F Fs Fb pk Hs C T) (hI : kIn K = 0 ∨ kIn K = 1) (hR : RN F N) (hb : sB N + 100 < 2 ^ 30) (hbd : bdN t tl s = 0) (hcf : CmdF (kWh K) (kOn K) (kOt K) (kTh K) t tl s) (hs : s < tl) (hend : endN t tl s = nxN t tl s) : CtI g l MX8_carryOut 5 [rf g p] w n (fun y w' => y = z4 (cmdN t tl s N).1 ∧ MOP g w n p K Fs Fb pk Hs C T N (cmdN t tl s N) (cmdN t tl s N).1 w') := by
  have h0 := h.1
  have hn := h.2.2.2.2.2.2.2.2.1
  have h2 := hR.2.2.1
  have hS := hR.2.2.2.1
  obtain ⟨cf0, cf1, cf3⟩ := hcf
  have hwl := wA_in (t := t) hs
  rcases Nat.eq_zero_or_pos (wAN t tl s) with hW | hW
  · obtain ⟨k1, k2, k3⟩ := cf0 hW
    obtain ⟨d1, d2, d3⟩ := rc_zero hW
    have hne : t s ≠ 120 ∧ t s ≠ 116 ∧ t s ≠ 115 ∧ t s ≠ 108 ∧ t s ≠ 98 ∧ t s ≠ 106 ∧ t s ≠ 99 ∧ t s ≠ 114 := by
      rw [hwl] at hW
      refine ⟨?_, ?_, ?_, ?_, ?_, ?_, ?_, ?_⟩ <;> (intro z; rw [z] at hW; exact absurd hW (by decide))
    obtain ⟨z1, z2, z3, z4, z5, z6, z7, z8⟩ := hne
    have ec : cmdN t tl s N = addA (kOn K) (kOt K) N := by
      unfold cmdN
      rw [if_neg z1, if_neg z2, if_neg z3, if_neg z4, if_neg z5, if_neg z6, if_neg z7, if_neg z8, k2, k3, hend, d3, Nat.add_sub_cancel_left]
    rw [ec, z4_no (addA_g h2).1]
    refine Ct.ofs (M := MX8_carryOut) (ls := [some _, none]) (by decide +kernel) (by exact (Nat.le_of_ble_eq_true rfl)) (by rfl) (by rfl) (by rfl) ?_
    refine V_aload_n (q := 1) dX8_carryOut_0 rfl rfl rfl ?_
    refine GX8_197 (q := 4) rfl dX8_carryOut_1 rfl (by first | assumption | exact up_eq | exact (up_ne (by omega)).trans (by first | assumption | exact up_eq | exact (up_ne (by omega)).trans (by first | assumption | exact up_eq | exact (up_ne (by omega)).trans (by first | assumption | exact up_eq)))) (by omega) (by rfl) ?_
    refine V_topi k1 ?_
    refine V_look (off := 76) (tgt := 80) dX8_carryOut_4 (by decide +kernel) (by decide +kernel) (by decide) ?_
    refine V_aload_n (q := 81) dX8_carryOut_80 rfl rfl rfl ?_
    refine V_aload_n (q := 82) dX8_carryOut_81 rfl rfl rfl ?_
    refine GX8_188 (q := 85) rfl dX8_carryOut_82 rfl (by first | assumption | exact up_eq | exact (up_ne (by omega)).trans (by first | assumption | exact up_eq | exact (up_ne (by omega)).trans (by first | assumption | exact up_eq | exact (up_ne (by omega)).trans (by first | assumption | exact up_eq)))) (by omega) (by rfl) ?_
    refine V_aload_n (q := 86) dX8_carryOut_85 rfl rfl rfl ?_
    refine GX8_191 (q := 89) rfl dX8_carryOut_86 rfl (by first | assumption | exact up_eq | exact (up_ne (by omega)).trans (by first | assumption | exact up_eq | exact (up_ne (by omega)).trans (by first | assumption | exact up_eq | exact (up_ne (by omega)).trans (by first | assumption | exact up_eq)))) (by omega) (by rfl) ?_
    refine CiX8_216 (q := 92) rfl dX8_carryOut_89 rfl (M_row h hI hR) ⟨(Nat.le_of_ble_eq_true rfl), (Nat.le_of_ble_eq_true rfl)⟩ (Nat.le_of_ble_eq_true rfl) (by first | assumption | exact up_eq | exact (up_ne (by omega)).trans (by first | assumption | exact up_eq | exact (up_ne (by omega)).trans (by first | assumption | exact up_eq | exact (up_ne (by omega)).trans (by first | assumption | exact up_eq)))) (by omega) (Nat.zero_le _) (Nat.zero_le _) (fun y w1 hw1 => ?_)
    skip
    exact V_iret dX8_carryOut_92 rfl (Nat.le_of_ble_eq_true rfl) (Nat.le_of_ble_eq_true rfl) (⟨rfl, _, rfl, hw1.1, hw1.1 ▸ hw1⟩)
  obtain ⟨k1, k2⟩ := cf1 hW
  by_cases z120 : t s = 120
  · have ec : cmdN t tl s N = dropA (kOn K) N := by
      unfold cmdN
      rw [if_pos z120, k2]
    rw [ec, z4_no (dropA_g h2).1]
    rw [z120] at k1
    refine Ct.ofs (M := MX8_carryOut) (ls := [some _, none]) (by decide +kernel) (by exact (Nat.le_of_ble_eq_true rfl)) (by rfl) (by rfl) (by rfl) ?_
    refine V_aload_n (q := 1) dX8_carryOut_0 rfl rfl rfl ?_
    refine GX8_197 (q := 4) rfl dX8_carryOut_1 rfl (by first | assumption | exact up_eq | exact (up_ne (by omega)).trans (by first | assumption | exact up_eq | exact (up_ne (by omega)).trans (by first | assumption | exact up_eq | exact (up_ne (by omega)).trans (by first | assumption | exact up_eq)))) (by omega) (by rfl) ?_
    refine V_topi k1 ?_
    refine V_look (off := 89) (tgt := 93) dX8_carryOut_4 (by decide +kernel) (by decide +kernel) (by decide) ?_
    refine V_aload_n (q := 94) dX8_carryOut_93 rfl rfl rfl ?_
    refine V_aload_n (q := 95) dX8_carryOut_94 rfl rfl rfl ?_
    refine GX8_188 (q := 98) rfl dX8_carryOut_95 rfl (by first | assumption | exact up_eq | exact (up_ne (by omega)).trans (by first | assumption | exact up_eq | exact (up_ne (by omega)).trans (by first | assumption | exact up_eq | exact (up_ne (by omega)).trans (by first | assumption | exact up_eq)))) (by omega) (by rfl) ?_
    refine CiX8_219 (q := 101) rfl dX8_carryOut_98 rfl (M_drop h hI hR) ⟨(Nat.le_of_ble_eq_true rfl), (Nat.le_of_ble_eq_true rfl)⟩ (Nat.le_of_ble_eq_true rfl) (by first | assumption | exact up_eq | exact (up_ne (by omega)).trans (by first | assumption | exact up_eq | exact (up_ne (by omega)).trans (by first | assumption | exact up_eq | exact (up_ne (by omega)).trans (by first | assumption | exact up_eq)))) (by omega) (Nat.zero_le _) (Nat.zero_le _) (fun y w1 hw1 => ?_)
    skip
    exact V_iret dX8_carryOut_101 rfl (Nat.le_of_ble_eq_true rfl) (Nat.le_of_ble_eq_true rfl) (⟨rfl, _, rfl, hw1.1, hw1.1 ▸ hw1⟩)
  by_cases z116 : t s = 116
  · have ec : cmdN t tl s N = turnA (kOn K) N := by
      unfold cmdN
      rw [if_neg (by omega : ¬ t s = 120), if_pos z116, k2]
    rw [ec, z4_no (turnA_g h2).1]
    rw [z116] at k1
    refine Ct.ofs (M := MX8_carryOut) (ls := [some _, none]) (by decide +kernel) (by exact (Nat.le_of_ble_eq_true rfl)) (by rfl) (by rfl) (by rfl) ?_
    refine V_aload_n (q := 1) dX8_carryOut_0 rfl rfl rfl ?_
    refine GX8_197 (q := 4) rfl dX8_carryOut_1 rfl (by first | assumption | exact up_eq | exact (up_ne (by omega)).trans (by first | assumption | exact up_eq | exact (up_ne (by omega)).trans (by first | assumption | exact up_eq | exact (up_ne (by omega)).trans (by first | assumption | exact up_eq)))) (by omega) (by rfl) ?_
    refine V_topi k1 ?_
    refine V_look (off := 98) (tgt := 102) dX8_carryOut_4 (by decide +kernel) (by decide +kernel) (by decide) ?_
    refine V_aload_n (q := 103) dX8_carryOut_102 rfl rfl rfl ?_
    refine V_aload_n (q := 104) dX8_carryOut_103 rfl rfl rfl ?_
    refine GX8_188 (q := 107) rfl dX8_carryOut_104 rfl (by first | assumption | exact up_eq | exact (up_ne (by omega)).trans (by first | assumption | exact up_eq | exact (up_ne (by omega)).trans (by first | assumption | exact up_eq | exact (up_ne (by omega)).trans (by first | assumption | exact up_eq)))) (by omega) (by rfl) ?_
    refine CiX8_222 (q := 110) rfl dX8_carryOut_107 rfl (M_turn h hI hR) ⟨(Nat.le_of_ble_eq_true rfl), (Nat.le_of_ble_eq_true rfl)⟩ (Nat.le_of_ble_eq_true rfl) (by first | assumption | exact up_eq | exact (up_ne (by omega)).trans (by first | assumption | exact up_eq | exact (up_ne (by omega)).trans (by first | assumption | exact up_eq | exact (up_ne (by omega)).trans (by first | assumption | exact up_eq)))) (by omega) (Nat.zero_le _) (Nat.zero_le _) (fun y w1 hw1 => ?_)
    skip
    exact V_iret dX8_carryOut_110 rfl (Nat.le_of_ble_eq_true rfl) (Nat.le_of_ble_eq_true rfl) (⟨rfl, _, rfl, hw1.1, hw1.1 ▸ hw1⟩)
  by_cases z115 : t s = 115
  · obtain ⟨k3, k4⟩ := cf3 (by rw [hwl, z115]; rfl)
    have ec : cmdN t tl s N = swapA (kOn K) (kOt K) (kTh K) N := by
      unfold cmdN
      rw [if_neg (by omega : ¬ t s = 120), if_neg (by omega : ¬ t s = 116), if_pos z115, k2, k3, k4]
    rw [ec, z4_no swapA_g.1]
    rw [z115] at k1
    refine Ct.ofs (M := MX8_carryOut) (ls := [some _, none]) (by decide +kernel) (by exact (Nat.le_of_ble_eq_true rfl)) (by rfl) (by rfl) (by rfl) ?_
    refine V_aload_n (q := 1) dX8_carryOut_0 rfl rfl rfl ?_
    refine GX8_197 (q := 4) rfl dX8_carryOut_1 rfl (by first | assumption | exact up_eq | exact (up_ne (by omega)).trans (by first | assumption | exact up_eq | exact (up_ne (by omega)).trans (by first | assumption | exact up_eq | exact (up_ne (by omega)).trans (by first | assumption | exact up_eq)))) (by omega) (by rfl) ?_
    refine V_topi k1 ?_
    refine V_look (off := 107) (tgt := 111) dX8_carryOut_4 (by decide +kernel) (by decide +kernel) (by decide) ?_
    refine V_aload_n (q := 112) dX8_carryOut_111 rfl rfl rfl ?_
    refine V_aload_n (q := 113) dX8_carryOut_112 rfl rfl rfl ?_
    refine GX8_188 (q := 116) rfl dX8_carryOut_113 rfl (by first | assumption | exact up_eq | exact (up_ne (by omega)).trans (by first | assumption | exact up_eq | exact (up_ne (by omega)).trans (by first | assumption | exact up_eq | exact (up_ne (by omega)).trans (by first | assumption | exact up_eq)))) (by omega) (by rfl) ?_
    refine V_aload_n (q := 117) dX8_carryOut_116 rfl rfl rfl ?_
    refine GX8_191 (q := 120) rfl dX8_carryOut_117 rfl (by first | assumption | exact up_eq | exact (up_ne (by omega)).trans (by first | assumption | exact up_eq | exact (up_ne (by omega)).trans (by first | assumption | exact up_eq | exact (up_ne (by omega)).trans (by first | assumption | exact up_eq)))) (by omega) (by rfl) ?_
    refine V_aload_n (q := 121) dX8_carryOut_120 rfl rfl rfl ?_
    refine GX8_210 (q := 124) rfl dX8_carryOut_121 rfl (by first | assumption | exact up_eq | exact (up_ne (by omega)).trans (by first | assumption | exact up_eq | exact (up_ne (by omega)).trans (by first | assumption | exact up_eq | exact (up_ne (by omega)).trans (by first | assumption | exact up_eq)))) (by omega) (by rfl) ?_
    refine CiX8_225 (q := 127) rfl dX8_carryOut_124 rfl (M_swap h hI hR) ⟨(Nat.le_of_ble_eq_true rfl), (Nat.le_of_ble_eq_true rfl)⟩ (Nat.le_of_ble_eq_true rfl) (by first | assumption | exact up_eq | exact (up_ne (by omega)).trans (by first | assumption | exact up_eq | exact (up_ne (by omega)).trans (by first | assumption | exact up_eq | exact (up_ne (by omega)).trans (by first | assumption | exact up_eq)))) (by omega) (Nat.zero_le _) (Nat.zero_le _) (fun y w1 hw1 => ?_)
    skip
    exact V_iret dX8_carryOut_127 rfl (Nat.le_of_ble_eq_true rfl) (Nat.le_of_ble_eq_true rfl) (⟨rfl, _, rfl, hw1.1, hw1.1 ▸ hw1⟩)
  by_cases z108 : t s = 108
  · have ec : cmdN t tl s N = liftA (kOn K) N := by
      unfold cmdN
      rw [if_neg (by omega : ¬ t s = 120), if_neg (by omega : ¬ t s = 116), if_neg (by omega : ¬ t s = 115), if_pos z108, k2]
    rw [ec]
    rw [z108] at k1
    refine Ct.ofs (M := MX8_carryOut) (ls := [some _, none]) (by decide +kernel) (by exact (Nat.le_of_ble_eq_true rfl)) (by rfl) (by rfl) (by rfl) ?_
    refine V_aload_n (q := 1) dX8_carryOut_0 rfl rfl rfl ?_
    refine GX8_197 (q := 4) rfl dX8_carryOut_1 rfl (by first | assumption | exact up_eq | exact (up_ne (by omega)).trans (by first | assumption | exact up_eq | exact (up_ne (by omega)).trans (by first | assumption | exact up_eq | exact (up_ne (by omega)).trans (by first | assumption | exact up_eq)))) (by omega) (by rfl) ?_
    refine V_topi k1 ?_
    refine V_look (off := 124) (tgt := 128) dX8_carryOut_4 (by decide +kernel) (by decide +kernel) (by decide) ?_
    refine V_aload_n (q := 129) dX8_carryOut_128 rfl rfl rfl ?_
    refine V_aload_n (q := 130) dX8_carryOut_129 rfl rfl rfl ?_
    refine GX8_188 (q := 133) rfl dX8_carryOut_130 rfl (by first | assumption | exact up_eq | exact (up_ne (by omega)).trans (by first | assumption | exact up_eq | exact (up_ne (by omega)).trans (by first | assumption | exact up_eq | exact (up_ne (by omega)).trans (by first | assumption | exact up_eq)))) (by omega) (by rfl) ?_
    refine CiX8_229 (q := 136) rfl dX8_carryOut_133 rfl (M_lift h hI hR) ⟨(Nat.le_of_ble_eq_true rfl), (Nat.le_of_ble_eq_true rfl)⟩ (Nat.le_of_ble_eq_true rfl) (by first | assumption | exact up_eq | exact (up_ne (by omega)).trans (by first | assumption | exact up_eq | exact (up_ne (by omega)).trans (by first | assumption | exact up_eq | exact (up_ne (by omega)).trans (by first | assumption | exact up_eq)))) (by omega) (Nat.zero_le _) (Nat.zero_le _) (fun y w1 hw1 => ?_)
    have e1 := hw1.1
    subst e1
    unfold z4
    refine V_istore_n (q := 137) (ls' := [_, _]) dX8_carryOut_136 rfl (by decide) rfl ?_
    refine V_iload_n (q := 138) dX8_carryOut_137 rfl rfl ?_
    refine V_bipush (q := 140) (v := (-4)) dX8_carryOut_138 rfl (by decide) ?_
    refine V_icmp_ne (q := 143) (tgt := 147) dX8_carryOut_140 (by decide) rfl (fun q4 => ?_) (fun q4 => ?_)
    · skip
      rw [if_neg q4]
      refine V_iload_n (q := 148) dX8_carryOut_147 rfl rfl ?_
      exact V_iret dX8_carryOut_148 rfl (Nat.le_of_ble_eq_true rfl) (Nat.le_of_ble_eq_true rfl) (⟨rfl, _, rfl, rfl, hw1⟩)
    · skip
      rw [if_pos q4]
      refine V_iconst (q := 144) (v := nI 0) dX8_carryOut_143 rfl (by decide) ?_
      refine V_goto (tgt := 148) dX8_carryOut_144 (by decide) ?_
      exact V_iret dX8_carryOut_148 rfl (Nat.le_of_ble_eq_true rfl) (Nat.le_of_ble_eq_true rfl) (⟨rfl, _, rfl, rfl, hw1⟩)
  by_cases z98 : t s = 98
  · have ec : cmdN t tl s N = beginA (kOn K) N := by
      unfold cmdN
      rw [if_neg (by omega : ¬ t s = 120), if_neg (by omega : ¬ t s = 116), if_neg (by omega : ¬ t s = 115), if_neg (by omega : ¬ t s = 108), if_pos z98, k2]
    rw [ec, z4_no beginA_g.1]
    rw [z98] at k1
    refine Ct.ofs (M := MX8_carryOut) (ls := [some _, none]) (by decide +kernel) (by exact (Nat.le_of_ble_eq_true rfl)) (by rfl) (by rfl) (by rfl) ?_
    refine V_aload_n (q := 1) dX8_carryOut_0 rfl rfl rfl ?_
    refine GX8_197 (q := 4) rfl dX8_carryOut_1 rfl (by first | assumption | exact up_eq | exact (up_ne (by omega)).trans (by first | assumption | exact up_eq | exact (up_ne (by omega)).trans (by first | assumption | exact up_eq | exact (up_ne (by omega)).trans (by first | assumption | exact up_eq)))) (by omega) (by rfl) ?_
    refine V_topi k1 ?_
    refine V_look (off := 145) (tgt := 149) dX8_carryOut_4 (by decide +kernel) (by decide +kernel) (by decide) ?_
    refine V_aload_n (q := 150) dX8_carryOut_149 rfl rfl rfl ?_
    refine V_aload_n (q := 151) dX8_carryOut_150 rfl rfl rfl ?_
    refine GX8_188 (q := 154) rfl dX8_carryOut_151 rfl (by first | assumption | exact up_eq | exact (up_ne (by omega)).trans (by first | assumption | exact up_eq | exact (up_ne (by omega)).trans (by first | assumption | exact up_eq | exact (up_ne (by omega)).trans (by first | assumption | exact up_eq)))) (by omega) (by rfl) ?_
    refine CiX8_232 (q := 157) rfl dX8_carryOut_154 rfl (M_begin h hI hR) ⟨(Nat.le_of_ble_eq_true rfl), (Nat.le_of_ble_eq_true rfl)⟩ (Nat.le_of_ble_eq_true rfl) (by first | assumption | exact up_eq | exact (up_ne (by omega)).trans (by first | assumption | exact up_eq | exact (up_ne (by omega)).trans (by first | assumption | exact up_eq | exact (up_ne (by omega)).trans (by first | assumption | exact up_eq)))) (by omega) (Nat.zero_le _) (Nat.zero_le _) (fun y w1 hw1 => ?_)
    skip
    exact V_iret dX8_carryOut_157 rfl (Nat.le_of_ble_eq_true rfl) (Nat.le_of_ble_eq_true rfl) (⟨rfl, _, rfl, hw1.1, hw1.1 ▸ hw1⟩)
  by_cases z106 : t s = 106
  · have ec : cmdN t tl s N = tossA (kOn K) N := by
      unfold cmdN
      rw [if_neg (by omega : ¬ t s = 120), if_neg (by omega : ¬ t s = 116), if_neg (by omega : ¬ t s = 115), if_neg (by omega : ¬ t s = 108), if_neg (by omega : ¬ t s = 98), if_pos z106, k2]
    rw [ec, z4_no tossA_g.1]
    rw [z106] at k1
    refine Ct.ofs (M := MX8_carryOut) (ls := [some _, none]) (by decide +kernel) (by exact (Nat.le_of_ble_eq_true rfl)) (by rfl) (by rfl) (by rfl) ?_
    refine V_aload_n (q := 1) dX8_carryOut_0 rfl rfl rfl ?_
    refine GX8_197 (q := 4) rfl dX8_carryOut_1 rfl (by first | assumption | exact up_eq | exact (up_ne (by omega)).trans (by first | assumption | exact up_eq | exact (up_ne (by omega)).trans (by first | assumption | exact up_eq | exact (up_ne (by omega)).trans (by first | assumption | exact up_eq)))) (by omega) (by rfl) ?_
    refine V_topi k1 ?_
    refine V_look (off := 154) (tgt := 158) dX8_carryOut_4 (by decide +kernel) (by decide +kernel) (by decide) ?_
    refine V_aload_n (q := 159) dX8_carryOut_158 rfl rfl rfl ?_
    refine V_aload_n (q := 160) dX8_carryOut_159 rfl rfl rfl ?_
    refine GX8_188 (q := 163) rfl dX8_carryOut_160 rfl (by first | assumption | exact up_eq | exact (up_ne (by omega)).trans (by first | assumption | exact up_eq | exact (up_ne (by omega)).trans (by first | assumption | exact up_eq | exact (up_ne (by omega)).trans (by first | assumption | exact up_eq)))) (by omega) (by rfl) ?_
    refine CiX8_235 (q := 166) rfl dX8_carryOut_163 rfl (M_toss h hI hR (by omega)) ⟨(Nat.le_of_ble_eq_true rfl), (Nat.le_of_ble_eq_true rfl)⟩ (Nat.le_of_ble_eq_true rfl) (by first | assumption | exact up_eq | exact (up_ne (by omega)).trans (by first | assumption | exact up_eq | exact (up_ne (by omega)).trans (by first | assumption | exact up_eq | exact (up_ne (by omega)).trans (by first | assumption | exact up_eq)))) (by omega) (Nat.zero_le _) (Nat.zero_le _) (fun y w1 hw1 => ?_)
    skip
    exact V_iret dX8_carryOut_166 rfl (Nat.le_of_ble_eq_true rfl) (Nat.le_of_ble_eq_true rfl) (⟨rfl, _, rfl, hw1.1, hw1.1 ▸ hw1⟩)
  by_cases z99 : t s = 99
  · have ec : cmdN t tl s N = joinA (kOn K) N := by
      unfold cmdN
      rw [if_neg (by omega : ¬ t s = 120), if_neg (by omega : ¬ t s = 116), if_neg (by omega : ¬ t s = 115), if_neg (by omega : ¬ t s = 108), if_neg (by omega : ¬ t s = 98), if_neg (by omega : ¬ t s = 106), if_pos z99, k2]
    rw [ec, z4_no (joinA_g hS h2).1]
    rw [z99] at k1
    refine Ct.ofs (M := MX8_carryOut) (ls := [some _, none]) (by decide +kernel) (by exact (Nat.le_of_ble_eq_true rfl)) (by rfl) (by rfl) (by rfl) ?_
    refine V_aload_n (q := 1) dX8_carryOut_0 rfl rfl rfl ?_
    refine GX8_197 (q := 4) rfl dX8_carryOut_1 rfl (by first | assumption | exact up_eq | exact (up_ne (by omega)).trans (by first | assumption | exact up_eq | exact (up_ne (by omega)).trans (by first | assumption | exact up_eq | exact (up_ne (by omega)).trans (by first | assumption | exact up_eq)))) (by omega) (by rfl) ?_
    refine V_topi k1 ?_
    refine V_look (off := 163) (tgt := 167) dX8_carryOut_4 (by decide +kernel) (by decide +kernel) (by decide) ?_
    refine V_aload_n (q := 168) dX8_carryOut_167 rfl rfl rfl ?_
    refine V_aload_n (q := 169) dX8_carryOut_168 rfl rfl rfl ?_
    refine GX8_188 (q := 172) rfl dX8_carryOut_169 rfl (by first | assumption | exact up_eq | exact (up_ne (by omega)).trans (by first | assumption | exact up_eq | exact (up_ne (by omega)).trans (by first | assumption | exact up_eq | exact (up_ne (by omega)).trans (by first | assumption | exact up_eq)))) (by omega) (by rfl) ?_
    refine CiX8_238 (q := 175) rfl dX8_carryOut_172 rfl (M_join h hI hR (by omega)) ⟨(Nat.le_of_ble_eq_true rfl), (Nat.le_of_ble_eq_true rfl)⟩ (Nat.le_of_ble_eq_true rfl) (by first | assumption | exact up_eq | exact (up_ne (by omega)).trans (by first | assumption | exact up_eq | exact (up_ne (by omega)).trans (by first | assumption | exact up_eq | exact (up_ne (by omega)).trans (by first | assumption | exact up_eq)))) (by omega) (Nat.zero_le _) (Nat.zero_le _) (fun y w1 hw1 => ?_)
    skip
    exact V_iret dX8_carryOut_175 rfl (Nat.le_of_ble_eq_true rfl) (Nat.le_of_ble_eq_true rfl) (⟨rfl, _, rfl, hw1.1, hw1.1 ▸ hw1⟩)
  by_cases z114 : t s = 114
  · have ec : cmdN t tl s N = onceA (kOn K) N := by
      unfold cmdN
      rw [if_neg (by omega : ¬ t s = 120), if_neg (by omega : ¬ t s = 116), if_neg (by omega : ¬ t s = 115), if_neg (by omega : ¬ t s = 108), if_neg (by omega : ¬ t s = 98), if_neg (by omega : ¬ t s = 106), if_neg (by omega : ¬ t s = 99), if_pos z114, k2]
    rw [ec, z4_no (onceA_g h2).1]
    rw [z114] at k1
    refine Ct.ofs (M := MX8_carryOut) (ls := [some _, none]) (by decide +kernel) (by exact (Nat.le_of_ble_eq_true rfl)) (by rfl) (by rfl) (by rfl) ?_
    refine V_aload_n (q := 1) dX8_carryOut_0 rfl rfl rfl ?_
    refine GX8_197 (q := 4) rfl dX8_carryOut_1 rfl (by first | assumption | exact up_eq | exact (up_ne (by omega)).trans (by first | assumption | exact up_eq | exact (up_ne (by omega)).trans (by first | assumption | exact up_eq | exact (up_ne (by omega)).trans (by first | assumption | exact up_eq)))) (by omega) (by rfl) ?_
    refine V_topi k1 ?_
    refine V_look (off := 172) (tgt := 176) dX8_carryOut_4 (by decide +kernel) (by decide +kernel) (by decide) ?_
    refine V_aload_n (q := 177) dX8_carryOut_176 rfl rfl rfl ?_
    refine V_aload_n (q := 178) dX8_carryOut_177 rfl rfl rfl ?_
    refine GX8_188 (q := 181) rfl dX8_carryOut_178 rfl (by first | assumption | exact up_eq | exact (up_ne (by omega)).trans (by first | assumption | exact up_eq | exact (up_ne (by omega)).trans (by first | assumption | exact up_eq | exact (up_ne (by omega)).trans (by first | assumption | exact up_eq)))) (by omega) (by rfl) ?_
    refine CiX8_240 (q := 184) rfl dX8_carryOut_181 rfl (M_once h hI hR (by omega)) ⟨(Nat.le_of_ble_eq_true rfl), (Nat.le_of_ble_eq_true rfl)⟩ (Nat.le_of_ble_eq_true rfl) (by first | assumption | exact up_eq | exact (up_ne (by omega)).trans (by first | assumption | exact up_eq | exact (up_ne (by omega)).trans (by first | assumption | exact up_eq | exact (up_ne (by omega)).trans (by first | assumption | exact up_eq)))) (by omega) (Nat.zero_le _) (Nat.zero_le _) (fun y w1 hw1 => ?_)
    skip
    exact V_iret dX8_carryOut_184 rfl (Nat.le_of_ble_eq_true rfl) (Nat.le_of_ble_eq_true rfl) (⟨rfl, _, rfl, hw1.1, hw1.1 ▸ hw1⟩)
  exfalso
  rw [hwl] at hW
  unfold wantN at hW
  rw [if_neg z115, if_neg (by omega)] at hW
  omega
end MC
