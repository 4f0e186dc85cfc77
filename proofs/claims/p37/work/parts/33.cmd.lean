/-! commands -/
def OkN (N : StT) : Prop := sC N ≤ 6 ∧ ∀ i, i < sC N → 0 < (sR N i).1 ∧ (sR N i).1 ≤ 8 ∧ ∀ j, j < (sR N i).1 → (sR N i).2 j ≤ 9
theorem SdF.okn {g : GG} {w : HW} {n a : Nat} {N : StT} {G : Nat → Option Nat} {π LL : Nat → Nat} {FF : Nat → Nat → Int32} (hF : SdF g w n a N G π LL FF) : OkN N := by
  obtain ⟨h0, h1, hn, hc, hG, hd, hR⟩ := hF
  refine ⟨hc, fun i hi => ?_⟩
  obtain ⟨e1, e2, e3⟩ := hR i hi
  obtain ⟨k1, k2, k3, k4⟩ := hG i (by omega)
  rw [e1] at e2 e3 k4
  exact ⟨e2, k4.2.2.2, fun j hj => (e3 j hj).2⟩
theorem Sd.okn {g : GG} {w : HW} {n a : Nat} {N : StT} (h : Sd g w n a N) : OkN N := by
  obtain ⟨G, π, LL, FF, hF⟩ := h
  exact hF.okn
theorem idx_lt {x : Int32} {c i : Nat} (hc : c < 2 ^ 31) (h : idx x c = some i) : i < c := by
  rcases i3_lt x c hc with hx | ⟨k, hk, rfl⟩
  · rw [idx_no hx] at h; cases h
  · rw [idx_yes hk hc] at h; cases h; exact hk
def GdR (N : StT) (res : OpR) : Prop := OkS res.2.1 ∧ (res.2.2 = none ∨ res.1 = -3) ∧ (res.1 = -1 ∨ res.1 = -2 ∨ res.1 = -3 → res.2.1 = N)
theorem GdR.no {N : StT} (h : OkS N) {x : Int32} : GdR N (x, N, none) := ⟨h, Or.inl rfl, fun _ => rfl⟩
theorem GdR.ref {N : StT} (h : OkS N) {d : Int32 × Int32} : GdR N (-3, N, some d) := ⟨h, Or.inr rfl, fun _ => rfl⟩
theorem nIerr {k : Nat} (hk : k < 2 ^ 31) : ¬ (nI k = -1 ∨ nI k = -2 ∨ nI k = -3) := fun q => by
  have h := nI_pos hk
  rcases q with q | q | q <;> (rw [q] at h; exact h (by decide))
theorem GdR.yes {N N' : StT} {k : Nat} (hk : k < 2 ^ 31) (h : OkS N') : GdR N (nI k, N', none) := ⟨h, Or.inl rfl, fun q => absurd q (nIerr hk)⟩
theorem addA_ok {x m : Int32} {N : StT} (h : OkS N) (h2 : OkN N) : GdR N (addA x m N) := by
  have := h2.1
  unfold addA
  repeat' split
  all_goals first | exact GdR.no h | exact GdR.ref h | exact GdR.yes (by omega) h
theorem dropA_ok {x : Int32} {N : StT} (h : OkS N) (h2 : OkN N) : GdR N (dropA x N) := by
  have := h2.1
  unfold dropA
  repeat' split
  all_goals first | exact GdR.no h | exact GdR.yes (by omega) h
theorem turnA_ok {x : Int32} {N : StT} (h : OkS N) (h2 : OkN N) : GdR N (turnA x N) := by
  unfold turnA
  split
  · exact GdR.no h
  · rename_i i hi
    have hi2 := idx_lt (by have := h2.1; omega) hi
    obtain ⟨q1, q2, q3⟩ := h2.2 i hi2
    have := q3 _ (Nat.mod_lt (0 + 1) q1)
    exact GdR.yes (by unfold rotN; omega) h
theorem swapA_ok {x y z : Int32} {N : StT} (h : OkS N) (h2 : OkN N) : GdR N (swapA x y z N) := by
  unfold swapA
  repeat' split
  all_goals first | exact GdR.no h | exact GdR.ref h | exact GdR.yes (by omega) h
theorem liftA_ok {x : Int32} {N : StT} (h : OkS N) (h2 : OkN N) : GdR N (liftA x N) := by
  unfold liftA
  split
  · exact GdR.no h
  · rename_i i hi
    have hi2 := idx_lt (by have := h2.1; omega) hi
    obtain ⟨q1, q2, q3⟩ := h2.2 i hi2
    split
    · exact GdR.ref h
    · rename_i hf
      refine ⟨h, Or.inl rfl, fun q => ?_⟩
      exfalso
      unfold ballI at q
      by_cases hc : clN (upN (sR N i).2) (sR N i).1 = (sR N i).1
      · rw [if_pos hc] at q
        have hd : sumN (upN (sR N i).2) (sR N i).1 / (sR N i).1 ≤ 9 := divL_le q1 (fun j hj => by
          have h9 := fa_first_no (fun k => decide (9 ≤ (sR N i).2 k)) (sR N i).1 j (by omega)
          have := of_decide_eq_false h9
          show (sR N i).2 j + 1 ≤ 9
          omega)
        exact nIerr (by omega) q
      · rw [if_neg hc] at q
        exact absurd (show (-4 : Int32) = -1 ∨ (-4 : Int32) = -2 ∨ (-4 : Int32) = -3 from q) (by decide)
theorem beginA_ok {x : Int32} {N : StT} (h : OkS N) (h2 : OkN N) : GdR N (beginA x N) := by
  unfold beginA
  split
  · exact GdR.no h
  · rename_i k hk
    have hk2 := idx_lt (by decide) hk
    split
    · exact GdR.no h
    · have h3 : 2 ^ k < 2 ^ 9 := Nat.pow_lt_pow_right (by decide) hk2
      exact GdR.yes (by omega) ⟨show 2 ^ k - 1 < 512 by omega, h.2⟩
theorem tossA_ok {x : Int32} {N : StT} (h : OkS N) (h2 : OkN N) : GdR N (tossA x N) := by
  unfold tossA
  split
  · exact GdR.no h
  · rename_i k hk
    have hk2 := idx_lt (by decide) hk
    split
    · exact GdR.ref h
    · split
      · exact GdR.yes (by omega) (h.thr (by omega))
      · exact GdR.ref h
theorem joinA_ok {x : Int32} {N : StT} (h : OkS N) (h2 : OkN N) : GdR N (joinA x N) := by
  unfold joinA
  split
  · exact GdR.no h
  · rename_i i hi
    have hi2 := idx_lt (by have := h2.1; omega) hi
    obtain ⟨q1, q2, q3⟩ := h2.2 i hi2
    split
    · exact GdR.ref h
    · rename_i hd
      obtain ⟨hcl, hsm⟩ := outA_none hd
      have hst := stN_lt (L := (sR N i).1) (b := 0) q1 q3
      obtain ⟨k, hk9, hk⟩ := nine h.1 hst (by rw [balls_ok q1 q3 hcl, hsm])
      rw [dstN_is hk]
      exact GdR.yes (by omega) (h.thrA (fun j _ => digN_le _ k j))
theorem onceA_ok {x : Int32} {N : StT} (h : OkS N) (h2 : OkN N) : GdR N (onceA x N) := by
  unfold onceA
  split
  · exact GdR.no h
  · rename_i i hi
    have hi2 := idx_lt (by have := h2.1; omega) hi
    obtain ⟨q1, q2, q3⟩ := h2.2 i hi2
    split
    · exact GdR.ref h
    · split
      · exact GdR.yes (by omega) (h.thrA q3)
      · exact GdR.ref h
def endN (t : Nat → Nat) (tl s : Nat) : Nat := s + fa_first (fun k => decide (t (s + k) = 59)) (tl - s)
theorem endN_ok {t : Nat → Nat} {tl s : Nat} (hs : s ≤ tl) : s ≤ endN t tl s ∧ endN t tl s ≤ tl ∧ (∀ i, s ≤ i → i < endN t tl s → t i ≠ 59) ∧ (endN t tl s < tl → t (endN t tl s) = 59) := by
  have h1 := fa_first_le (fun k => decide (t (s + k) = 59)) (tl - s)
  have h2 := fa_first_no (fun k => decide (t (s + k) = 59)) (tl - s)
  have h3 := fa_first_yes (fun k => decide (t (s + k) = 59)) (tl - s)
  unfold endN
  refine ⟨by omega, by omega, fun i a1 a2 => ?_, fun a => of_decide_eq_true (h3 (by omega))⟩
  have := of_decide_eq_false (h2 (i - s) (by omega))
  rw [show s + (i - s) = i by omega] at this
  exact this
noncomputable def cmdN (t : Nat → Nat) (tl s : Nat) (N : StT) : OpR := if t s = 120 then dropA (tI (dgA t tl (s + 1))) N else if t s = 116 then turnA (tI (dgA t tl (s + 1))) N else if t s = 115 then swapA (tI (dgA t tl (s + 1))) (tI (dgA t tl (s + 2))) (tI (dgA t tl (s + 3))) N else if t s = 108 then liftA (tI (dgA t tl (s + 1))) N else if t s = 98 then beginA (tI (dgA t tl (s + 1))) N else if t s = 106 then tossA (tI (dgA t tl (s + 1))) N else if t s = 99 then joinA (tI (dgA t tl (s + 1))) N else if t s = 114 then onceA (tI (dgA t tl (s + 1))) N else addA (nI (numN t s (dgs t tl s 8))) (nI (endN t tl s - s)) N
theorem cmdN_ok {t : Nat → Nat} {tl s : Nat} {N : StT} (h : OkS N) (h2 : OkN N) : GdR N (cmdN t tl s N) := by
  unfold cmdN
  split
  · exact dropA_ok h h2
  split
  · exact turnA_ok h h2
  split
  · exact swapA_ok h h2
  split
  · exact liftA_ok h h2
  split
  · exact beginA_ok h h2
  split
  · exact tossA_ok h h2
  split
  · exact joinA_ok h h2
  split
  · exact onceA_ok h h2
  exact addA_ok h h2
section CMD
variable {g : GG} {l : Launch} {w : HW} {n o : Nat} {X : XT} {b : Int32} {N : StT} {r : Int32 × Int32 × Int32 × Int32} {t : Nat → Nat} {tl : Nat}
theorem c_carryOut (hO : OW g w n o b N r) (hT : TxF g w n (o + 163) tl t) (hK : OkS N) {s : Nat} (hs : s < tl) : CtI g l MX7_carryOut 5 [rf g o, .int (nI s)] w n (OP g w n o b r (cmdN t tl s N)) := by
  obtain ⟨ho, hl⟩ := hT.obj
  have h0 := hO.1
  have h10 := hO.2.2.2.2
  have hcd : cdA t tl s = some (t s) := if_pos hs
  obtain ⟨C, -, -, -, -, e5⟩ := id hT
  have ht := (e5 s hs).2
  obtain ⟨n1, n2, n3, n4⟩ := endN_ok (t := t) (Nat.le_of_lt hs)
  refine Ct.ofs (M := MX7_carryOut) (ls := [some _, some _, none]) (by decide +kernel) (by exact (Nat.le_of_ble_eq_true rfl)) (by rfl) (by rfl) (by rfl) ?_
  refine V_aload_n (q := 1) dX7_carryOut_0 rfl rfl rfl ?_
  refine GX7_46 (q := 4) rfl dX7_carryOut_1 rfl (by first | assumption | exact up_eq | exact (up_ne (by omega)).trans (by first | assumption | exact up_eq | exact (up_ne (by omega)).trans (by first | assumption | exact up_eq | exact (up_ne (by omega)).trans (by first | assumption | exact up_eq)))) (by omega) (by rfl) ?_
  refine V_iload_n (q := 5) dX7_carryOut_4 rfl rfl ?_
  refine V_iconst (q := 6) (v := nI 1) dX7_carryOut_5 rfl (by decide) ?_
  refine V_iadd (q := 7) dX7_carryOut_6 rfl (by first | exact nI_add _ _ | rfl) ?_
  refine CrX7_303 (q := 10) rfl dX7_carryOut_7 rfl (c_tdigit hT (i := s + 1) (by omega)) ⟨(Nat.le_of_ble_eq_true rfl), (Nat.le_of_ble_eq_true rfl)⟩ (Nat.le_of_ble_eq_true rfl) (by first | assumption | exact up_eq | exact (up_ne (by omega)).trans (by first | assumption | exact up_eq | exact (up_ne (by omega)).trans (by first | assumption | exact up_eq | exact (up_ne (by omega)).trans (by first | assumption | exact up_eq)))) (by omega) (Nat.zero_le _) (Nat.zero_le _) ?_
  refine V_istore_n (q := 11) (ls' := [_, _, _]) dX7_carryOut_10 rfl (by decide) (by rfl) rfl ?_
  refine V_aload_n (q := 12) dX7_carryOut_11 rfl rfl rfl ?_
  refine GX7_46 (q := 15) rfl dX7_carryOut_12 rfl (by first | assumption | exact up_eq | exact (up_ne (by omega)).trans (by first | assumption | exact up_eq | exact (up_ne (by omega)).trans (by first | assumption | exact up_eq | exact (up_ne (by omega)).trans (by first | assumption | exact up_eq)))) (by omega) (by rfl) ?_
  refine V_iload_n (q := 16) dX7_carryOut_15 rfl rfl ?_
  refine CrX7_306 (q := 19) rfl dX7_carryOut_16 rfl (c_tcode hT (i := s) (by omega)) ⟨(Nat.le_of_ble_eq_true rfl), (Nat.le_of_ble_eq_true rfl)⟩ (Nat.le_of_ble_eq_true rfl) (by first | assumption | exact up_eq | exact (up_ne (by omega)).trans (by first | assumption | exact up_eq | exact (up_ne (by omega)).trans (by first | assumption | exact up_eq | exact (up_ne (by omega)).trans (by first | assumption | exact up_eq)))) (by omega) (Nat.zero_le _) (Nat.zero_le _) ?_
  rw [hcd]
  have dflt : (t s ≠ 120 ∧ t s ≠ 116 ∧ t s ≠ 115 ∧ t s ≠ 108 ∧ t s ≠ 98 ∧ t s ≠ 106 ∧ t s ≠ 99 ∧ t s ≠ 114) → V g l MX7_carryOut (rmd 5 0 0) (FinM g (qI (OP g w n o b r (cmdN t tl s N)) n) 0 0) 192 [some (rf g o), some (.int (nI s)), some (.int (tI (dgA t tl (s + 1))))] [] (w) n 0 0 := by
    rintro ⟨z1, z2, z3, z4, z5, z6, z7, z8⟩
    rw [show cmdN t tl s N = addA (nI (numN t s (dgs t tl s 8))) (nI (endN t tl s - s)) N by unfold cmdN; rw [if_neg z1, if_neg z2, if_neg z3, if_neg z4, if_neg z5, if_neg z6, if_neg z7, if_neg z8]]
    refine V_aload_n (q := 193) dX7_carryOut_192 rfl rfl rfl ?_
    refine V_aload_n (q := 194) dX7_carryOut_193 rfl rfl rfl ?_
    refine GX7_46 (q := 197) rfl dX7_carryOut_194 rfl (by first | assumption | exact up_eq | exact (up_ne (by omega)).trans (by first | assumption | exact up_eq | exact (up_ne (by omega)).trans (by first | assumption | exact up_eq | exact (up_ne (by omega)).trans (by first | assumption | exact up_eq)))) (by omega) (by rfl) ?_
    refine V_iload_n (q := 198) dX7_carryOut_197 rfl rfl ?_
    refine CrX7_307 (q := 201) rfl dX7_carryOut_198 rfl (c_tnumber hT (s := s) (by omega)) ⟨(Nat.le_of_ble_eq_true rfl), (Nat.le_of_ble_eq_true rfl)⟩ (Nat.le_of_ble_eq_true rfl) (by first | assumption | exact up_eq | exact (up_ne (by omega)).trans (by first | assumption | exact up_eq | exact (up_ne (by omega)).trans (by first | assumption | exact up_eq | exact (up_ne (by omega)).trans (by first | assumption | exact up_eq)))) (by omega) (Nat.zero_le _) (Nat.zero_le _) ?_
    refine V_aload_n (q := 202) dX7_carryOut_201 rfl rfl rfl ?_
    refine GX7_46 (q := 205) rfl dX7_carryOut_202 rfl (by first | assumption | exact up_eq | exact (up_ne (by omega)).trans (by first | assumption | exact up_eq | exact (up_ne (by omega)).trans (by first | assumption | exact up_eq | exact (up_ne (by omega)).trans (by first | assumption | exact up_eq)))) (by omega) (by rfl) ?_
    refine V_iload_n (q := 206) dX7_carryOut_205 rfl rfl ?_
    refine CrX7_300 (q := 209) rfl dX7_carryOut_206 rfl (c_tend hT n1 n2 n3 n4) ⟨(Nat.le_of_ble_eq_true rfl), (Nat.le_of_ble_eq_true rfl)⟩ (Nat.le_of_ble_eq_true rfl) (by first | assumption | exact up_eq | exact (up_ne (by omega)).trans (by first | assumption | exact up_eq | exact (up_ne (by omega)).trans (by first | assumption | exact up_eq | exact (up_ne (by omega)).trans (by first | assumption | exact up_eq)))) (by omega) (Nat.zero_le _) (Nat.zero_le _) ?_
    refine V_iload_n (q := 210) dX7_carryOut_209 rfl rfl ?_
    refine V_isub (q := 211) dX7_carryOut_210 rfl (by first | exact pk_sub (by omega) | rfl) ?_
    refine CiX7_65 (q := 214) rfl dX7_carryOut_211 rfl (c_addRow hO) ⟨(Nat.le_of_ble_eq_true rfl), (Nat.le_of_ble_eq_true rfl)⟩ (Nat.le_of_ble_eq_true rfl) (by first | assumption | exact up_eq | exact (up_ne (by omega)).trans (by first | assumption | exact up_eq | exact (up_ne (by omega)).trans (by first | assumption | exact up_eq | exact (up_ne (by omega)).trans (by first | assumption | exact up_eq)))) (by omega) (Nat.zero_le _) (Nat.zero_le _) (fun y w1 hw1 => ?_)
    skip
    exact V_iret dX7_carryOut_214 rfl (Nat.le_of_ble_eq_true rfl) (Nat.le_of_ble_eq_true rfl) (⟨rfl, _, rfl, hw1⟩)
  by_cases z120 : t s = 120
  · rw [show cmdN t tl s N = dropA (tI (dgA t tl (s + 1))) N by unfold cmdN; rw [if_pos z120]]
    refine V_topi (show tI (some (t s)) = nI 120 from congrArg nI z120) ?_
    refine V_tabIn (off := 105) (tgt := 124) dX7_carryOut_19 (by decide) (by decide) (by decide) (by decide) ?_
    refine V_aload_n (q := 125) dX7_carryOut_124 rfl rfl rfl ?_
    refine V_iload_n (q := 126) dX7_carryOut_125 rfl rfl ?_
    refine CiX7_73 (q := 129) rfl dX7_carryOut_126 rfl (c_dropRow hO) ⟨(Nat.le_of_ble_eq_true rfl), (Nat.le_of_ble_eq_true rfl)⟩ (Nat.le_of_ble_eq_true rfl) (by first | assumption | exact up_eq | exact (up_ne (by omega)).trans (by first | assumption | exact up_eq | exact (up_ne (by omega)).trans (by first | assumption | exact up_eq | exact (up_ne (by omega)).trans (by first | assumption | exact up_eq)))) (by omega) (Nat.zero_le _) (Nat.zero_le _) (fun y w1 hw1 => ?_)
    skip
    exact V_iret dX7_carryOut_129 rfl (Nat.le_of_ble_eq_true rfl) (Nat.le_of_ble_eq_true rfl) (⟨rfl, _, rfl, hw1⟩)
  by_cases z116 : t s = 116
  · rw [show cmdN t tl s N = turnA (tI (dgA t tl (s + 1))) N by unfold cmdN; rw [if_neg (by omega : ¬ t s = 120), if_pos z116]]
    refine V_topi (show tI (some (t s)) = nI 116 from congrArg nI z116) ?_
    refine V_tabIn (off := 111) (tgt := 130) dX7_carryOut_19 (by decide) (by decide) (by decide) (by decide) ?_
    refine V_aload_n (q := 131) dX7_carryOut_130 rfl rfl rfl ?_
    refine V_iload_n (q := 132) dX7_carryOut_131 rfl rfl ?_
    refine CiX7_76 (q := 135) rfl dX7_carryOut_132 rfl (c_turnRow hO) ⟨(Nat.le_of_ble_eq_true rfl), (Nat.le_of_ble_eq_true rfl)⟩ (Nat.le_of_ble_eq_true rfl) (by first | assumption | exact up_eq | exact (up_ne (by omega)).trans (by first | assumption | exact up_eq | exact (up_ne (by omega)).trans (by first | assumption | exact up_eq | exact (up_ne (by omega)).trans (by first | assumption | exact up_eq)))) (by omega) (Nat.zero_le _) (Nat.zero_le _) (fun y w1 hw1 => ?_)
    skip
    exact V_iret dX7_carryOut_135 rfl (Nat.le_of_ble_eq_true rfl) (Nat.le_of_ble_eq_true rfl) (⟨rfl, _, rfl, hw1⟩)
  by_cases z115 : t s = 115
  · rw [show cmdN t tl s N = swapA (tI (dgA t tl (s + 1))) (tI (dgA t tl (s + 2))) (tI (dgA t tl (s + 3))) N by unfold cmdN; rw [if_neg (by omega : ¬ t s = 120), if_neg (by omega : ¬ t s = 116), if_pos z115]]
    refine V_topi (show tI (some (t s)) = nI 115 from congrArg nI z115) ?_
    refine V_tabIn (off := 117) (tgt := 136) dX7_carryOut_19 (by decide) (by decide) (by decide) (by decide) ?_
    refine V_aload_n (q := 137) dX7_carryOut_136 rfl rfl rfl ?_
    refine V_iload_n (q := 138) dX7_carryOut_137 rfl rfl ?_
    refine V_aload_n (q := 139) dX7_carryOut_138 rfl rfl rfl ?_
    refine GX7_46 (q := 142) rfl dX7_carryOut_139 rfl (by first | assumption | exact up_eq | exact (up_ne (by omega)).trans (by first | assumption | exact up_eq | exact (up_ne (by omega)).trans (by first | assumption | exact up_eq | exact (up_ne (by omega)).trans (by first | assumption | exact up_eq)))) (by omega) (by rfl) ?_
    refine V_iload_n (q := 143) dX7_carryOut_142 rfl rfl ?_
    refine V_iconst (q := 144) (v := nI 2) dX7_carryOut_143 rfl (by decide) ?_
    refine V_iadd (q := 145) dX7_carryOut_144 rfl (by first | exact nI_add _ _ | rfl) ?_
    refine CrX7_303 (q := 148) rfl dX7_carryOut_145 rfl (c_tdigit hT (i := s + 2) (by omega)) ⟨(Nat.le_of_ble_eq_true rfl), (Nat.le_of_ble_eq_true rfl)⟩ (Nat.le_of_ble_eq_true rfl) (by first | assumption | exact up_eq | exact (up_ne (by omega)).trans (by first | assumption | exact up_eq | exact (up_ne (by omega)).trans (by first | assumption | exact up_eq | exact (up_ne (by omega)).trans (by first | assumption | exact up_eq)))) (by omega) (Nat.zero_le _) (Nat.zero_le _) ?_
    refine V_aload_n (q := 149) dX7_carryOut_148 rfl rfl rfl ?_
    refine GX7_46 (q := 152) rfl dX7_carryOut_149 rfl (by first | assumption | exact up_eq | exact (up_ne (by omega)).trans (by first | assumption | exact up_eq | exact (up_ne (by omega)).trans (by first | assumption | exact up_eq | exact (up_ne (by omega)).trans (by first | assumption | exact up_eq)))) (by omega) (by rfl) ?_
    refine V_iload_n (q := 153) dX7_carryOut_152 rfl rfl ?_
    refine V_iconst (q := 154) (v := nI 3) dX7_carryOut_153 rfl (by decide) ?_
    refine V_iadd (q := 155) dX7_carryOut_154 rfl (by first | exact nI_add _ _ | rfl) ?_
    refine CrX7_303 (q := 158) rfl dX7_carryOut_155 rfl (c_tdigit hT (i := s + 3) (by omega)) ⟨(Nat.le_of_ble_eq_true rfl), (Nat.le_of_ble_eq_true rfl)⟩ (Nat.le_of_ble_eq_true rfl) (by first | assumption | exact up_eq | exact (up_ne (by omega)).trans (by first | assumption | exact up_eq | exact (up_ne (by omega)).trans (by first | assumption | exact up_eq | exact (up_ne (by omega)).trans (by first | assumption | exact up_eq)))) (by omega) (Nat.zero_le _) (Nat.zero_le _) ?_
    skip
    refine CiX7_79 (q := 161) rfl dX7_carryOut_158 rfl (c_swapBeats hO) ⟨(Nat.le_of_ble_eq_true rfl), (Nat.le_of_ble_eq_true rfl)⟩ (Nat.le_of_ble_eq_true rfl) (by first | assumption | exact up_eq | exact (up_ne (by omega)).trans (by first | assumption | exact up_eq | exact (up_ne (by omega)).trans (by first | assumption | exact up_eq | exact (up_ne (by omega)).trans (by first | assumption | exact up_eq)))) (by omega) (Nat.zero_le _) (Nat.zero_le _) (fun y w1 hw1 => ?_)
    skip
    exact V_iret dX7_carryOut_161 rfl (Nat.le_of_ble_eq_true rfl) (Nat.le_of_ble_eq_true rfl) (⟨rfl, _, rfl, hw1⟩)
  by_cases z108 : t s = 108
  · rw [show cmdN t tl s N = liftA (tI (dgA t tl (s + 1))) N by unfold cmdN; rw [if_neg (by omega : ¬ t s = 120), if_neg (by omega : ¬ t s = 116), if_neg (by omega : ¬ t s = 115), if_pos z108]]
    refine V_topi (show tI (some (t s)) = nI 108 from congrArg nI z108) ?_
    refine V_tabIn (off := 143) (tgt := 162) dX7_carryOut_19 (by decide) (by decide) (by decide) (by decide) ?_
    refine V_aload_n (q := 163) dX7_carryOut_162 rfl rfl rfl ?_
    refine V_iload_n (q := 164) dX7_carryOut_163 rfl rfl ?_
    refine CiX7_83 (q := 167) rfl dX7_carryOut_164 rfl (c_liftRow hO) ⟨(Nat.le_of_ble_eq_true rfl), (Nat.le_of_ble_eq_true rfl)⟩ (Nat.le_of_ble_eq_true rfl) (by first | assumption | exact up_eq | exact (up_ne (by omega)).trans (by first | assumption | exact up_eq | exact (up_ne (by omega)).trans (by first | assumption | exact up_eq | exact (up_ne (by omega)).trans (by first | assumption | exact up_eq)))) (by omega) (Nat.zero_le _) (Nat.zero_le _) (fun y w1 hw1 => ?_)
    skip
    exact V_iret dX7_carryOut_167 rfl (Nat.le_of_ble_eq_true rfl) (Nat.le_of_ble_eq_true rfl) (⟨rfl, _, rfl, hw1⟩)
  by_cases z98 : t s = 98
  · rw [show cmdN t tl s N = beginA (tI (dgA t tl (s + 1))) N by unfold cmdN; rw [if_neg (by omega : ¬ t s = 120), if_neg (by omega : ¬ t s = 116), if_neg (by omega : ¬ t s = 115), if_neg (by omega : ¬ t s = 108), if_pos z98]]
    refine V_topi (show tI (some (t s)) = nI 98 from congrArg nI z98) ?_
    refine V_tabIn (off := 149) (tgt := 168) dX7_carryOut_19 (by decide) (by decide) (by decide) (by decide) ?_
    refine V_aload_n (q := 169) dX7_carryOut_168 rfl rfl rfl ?_
    refine V_iload_n (q := 170) dX7_carryOut_169 rfl rfl ?_
    refine CiX7_86 (q := 173) rfl dX7_carryOut_170 rfl (c_beginWith hO) ⟨(Nat.le_of_ble_eq_true rfl), (Nat.le_of_ble_eq_true rfl)⟩ (Nat.le_of_ble_eq_true rfl) (by first | assumption | exact up_eq | exact (up_ne (by omega)).trans (by first | assumption | exact up_eq | exact (up_ne (by omega)).trans (by first | assumption | exact up_eq | exact (up_ne (by omega)).trans (by first | assumption | exact up_eq)))) (by omega) (Nat.zero_le _) (Nat.zero_le _) (fun y w1 hw1 => ?_)
    skip
    exact V_iret dX7_carryOut_173 rfl (Nat.le_of_ble_eq_true rfl) (Nat.le_of_ble_eq_true rfl) (⟨rfl, _, rfl, hw1⟩)
  by_cases z106 : t s = 106
  · rw [show cmdN t tl s N = tossA (tI (dgA t tl (s + 1))) N by unfold cmdN; rw [if_neg (by omega : ¬ t s = 120), if_neg (by omega : ¬ t s = 116), if_neg (by omega : ¬ t s = 115), if_neg (by omega : ¬ t s = 108), if_neg (by omega : ¬ t s = 98), if_pos z106]]
    refine V_topi (show tI (some (t s)) = nI 106 from congrArg nI z106) ?_
    refine V_tabIn (off := 155) (tgt := 174) dX7_carryOut_19 (by decide) (by decide) (by decide) (by decide) ?_
    refine V_aload_n (q := 175) dX7_carryOut_174 rfl rfl rfl ?_
    refine V_iload_n (q := 176) dX7_carryOut_175 rfl rfl ?_
    refine CiX7_89 (q := 179) rfl dX7_carryOut_176 rfl (c_makeThrow hO hK) ⟨(Nat.le_of_ble_eq_true rfl), (Nat.le_of_ble_eq_true rfl)⟩ (Nat.le_of_ble_eq_true rfl) (by first | assumption | exact up_eq | exact (up_ne (by omega)).trans (by first | assumption | exact up_eq | exact (up_ne (by omega)).trans (by first | assumption | exact up_eq | exact (up_ne (by omega)).trans (by first | assumption | exact up_eq)))) (by omega) (Nat.zero_le _) (Nat.zero_le _) (fun y w1 hw1 => ?_)
    skip
    exact V_iret dX7_carryOut_179 rfl (Nat.le_of_ble_eq_true rfl) (Nat.le_of_ble_eq_true rfl) (⟨rfl, _, rfl, hw1⟩)
  by_cases z99 : t s = 99
  · rw [show cmdN t tl s N = joinA (tI (dgA t tl (s + 1))) N by unfold cmdN; rw [if_neg (by omega : ¬ t s = 120), if_neg (by omega : ¬ t s = 116), if_neg (by omega : ¬ t s = 115), if_neg (by omega : ¬ t s = 108), if_neg (by omega : ¬ t s = 98), if_neg (by omega : ¬ t s = 106), if_pos z99]]
    refine V_topi (show tI (some (t s)) = nI 99 from congrArg nI z99) ?_
    refine V_tabIn (off := 161) (tgt := 180) dX7_carryOut_19 (by decide) (by decide) (by decide) (by decide) ?_
    refine V_aload_n (q := 181) dX7_carryOut_180 rfl rfl rfl ?_
    refine V_iload_n (q := 182) dX7_carryOut_181 rfl rfl ?_
    refine CiX7_92 (q := 185) rfl dX7_carryOut_182 rfl (c_makeJoin hO hK) ⟨(Nat.le_of_ble_eq_true rfl), (Nat.le_of_ble_eq_true rfl)⟩ (Nat.le_of_ble_eq_true rfl) (by first | assumption | exact up_eq | exact (up_ne (by omega)).trans (by first | assumption | exact up_eq | exact (up_ne (by omega)).trans (by first | assumption | exact up_eq | exact (up_ne (by omega)).trans (by first | assumption | exact up_eq)))) (by omega) (Nat.zero_le _) (Nat.zero_le _) (fun y w1 hw1 => ?_)
    skip
    exact V_iret dX7_carryOut_185 rfl (Nat.le_of_ble_eq_true rfl) (Nat.le_of_ble_eq_true rfl) (⟨rfl, _, rfl, hw1⟩)
  by_cases z114 : t s = 114
  · rw [show cmdN t tl s N = onceA (tI (dgA t tl (s + 1))) N by unfold cmdN; rw [if_neg (by omega : ¬ t s = 120), if_neg (by omega : ¬ t s = 116), if_neg (by omega : ¬ t s = 115), if_neg (by omega : ¬ t s = 108), if_neg (by omega : ¬ t s = 98), if_neg (by omega : ¬ t s = 106), if_neg (by omega : ¬ t s = 99), if_pos z114]]
    refine V_topi (show tI (some (t s)) = nI 114 from congrArg nI z114) ?_
    refine V_tabIn (off := 167) (tgt := 186) dX7_carryOut_19 (by decide) (by decide) (by decide) (by decide) ?_
    refine V_aload_n (q := 187) dX7_carryOut_186 rfl rfl rfl ?_
    refine V_iload_n (q := 188) dX7_carryOut_187 rfl rfl ?_
    refine CiX7_95 (q := 191) rfl dX7_carryOut_188 rfl (c_makeOnce hO hK) ⟨(Nat.le_of_ble_eq_true rfl), (Nat.le_of_ble_eq_true rfl)⟩ (Nat.le_of_ble_eq_true rfl) (by first | assumption | exact up_eq | exact (up_ne (by omega)).trans (by first | assumption | exact up_eq | exact (up_ne (by omega)).trans (by first | assumption | exact up_eq | exact (up_ne (by omega)).trans (by first | assumption | exact up_eq)))) (by omega) (Nat.zero_le _) (Nat.zero_le _) (fun y w1 hw1 => ?_)
    skip
    exact V_iret dX7_carryOut_191 rfl (Nat.le_of_ble_eq_true rfl) (Nat.le_of_ble_eq_true rfl) (⟨rfl, _, rfl, hw1⟩)
  have d := dflt ⟨z120, z116, z115, z108, z98, z106, z99, z114⟩
  by_cases z100 : t s = 100
  · skip
    refine V_topi (show tI (some (t s)) = nI 100 from congrArg nI z100) ?_
    refine V_tabIn (off := 173) (tgt := 192) dX7_carryOut_19 (by decide) (by decide) (by decide) (by decide) ?_
    exact d
  by_cases z101 : t s = 101
  · skip
    refine V_topi (show tI (some (t s)) = nI 101 from congrArg nI z101) ?_
    refine V_tabIn (off := 173) (tgt := 192) dX7_carryOut_19 (by decide) (by decide) (by decide) (by decide) ?_
    exact d
  by_cases z102 : t s = 102
  · skip
    refine V_topi (show tI (some (t s)) = nI 102 from congrArg nI z102) ?_
    refine V_tabIn (off := 173) (tgt := 192) dX7_carryOut_19 (by decide) (by decide) (by decide) (by decide) ?_
    exact d
  by_cases z103 : t s = 103
  · skip
    refine V_topi (show tI (some (t s)) = nI 103 from congrArg nI z103) ?_
    refine V_tabIn (off := 173) (tgt := 192) dX7_carryOut_19 (by decide) (by decide) (by decide) (by decide) ?_
    exact d
  by_cases z104 : t s = 104
  · skip
    refine V_topi (show tI (some (t s)) = nI 104 from congrArg nI z104) ?_
    refine V_tabIn (off := 173) (tgt := 192) dX7_carryOut_19 (by decide) (by decide) (by decide) (by decide) ?_
    exact d
  by_cases z105 : t s = 105
  · skip
    refine V_topi (show tI (some (t s)) = nI 105 from congrArg nI z105) ?_
    refine V_tabIn (off := 173) (tgt := 192) dX7_carryOut_19 (by decide) (by decide) (by decide) (by decide) ?_
    exact d
  by_cases z107 : t s = 107
  · skip
    refine V_topi (show tI (some (t s)) = nI 107 from congrArg nI z107) ?_
    refine V_tabIn (off := 173) (tgt := 192) dX7_carryOut_19 (by decide) (by decide) (by decide) (by decide) ?_
    exact d
  by_cases z109 : t s = 109
  · skip
    refine V_topi (show tI (some (t s)) = nI 109 from congrArg nI z109) ?_
    refine V_tabIn (off := 173) (tgt := 192) dX7_carryOut_19 (by decide) (by decide) (by decide) (by decide) ?_
    exact d
  by_cases z110 : t s = 110
  · skip
    refine V_topi (show tI (some (t s)) = nI 110 from congrArg nI z110) ?_
    refine V_tabIn (off := 173) (tgt := 192) dX7_carryOut_19 (by decide) (by decide) (by decide) (by decide) ?_
    exact d
  by_cases z111 : t s = 111
  · skip
    refine V_topi (show tI (some (t s)) = nI 111 from congrArg nI z111) ?_
    refine V_tabIn (off := 173) (tgt := 192) dX7_carryOut_19 (by decide) (by decide) (by decide) (by decide) ?_
    exact d
  by_cases z112 : t s = 112
  · skip
    refine V_topi (show tI (some (t s)) = nI 112 from congrArg nI z112) ?_
    refine V_tabIn (off := 173) (tgt := 192) dX7_carryOut_19 (by decide) (by decide) (by decide) (by decide) ?_
    exact d
  by_cases z113 : t s = 113
  · skip
    refine V_topi (show tI (some (t s)) = nI 113 from congrArg nI z113) ?_
    refine V_tabIn (off := 173) (tgt := 192) dX7_carryOut_19 (by decide) (by decide) (by decide) (by decide) ?_
    exact d
  by_cases z117 : t s = 117
  · skip
    refine V_topi (show tI (some (t s)) = nI 117 from congrArg nI z117) ?_
    refine V_tabIn (off := 173) (tgt := 192) dX7_carryOut_19 (by decide) (by decide) (by decide) (by decide) ?_
    exact d
  by_cases z118 : t s = 118
  · skip
    refine V_topi (show tI (some (t s)) = nI 118 from congrArg nI z118) ?_
    refine V_tabIn (off := 173) (tgt := 192) dX7_carryOut_19 (by decide) (by decide) (by decide) (by decide) ?_
    exact d
  by_cases z119 : t s = 119
  · skip
    refine V_topi (show tI (some (t s)) = nI 119 from congrArg nI z119) ?_
    refine V_tabIn (off := 173) (tgt := 192) dX7_carryOut_19 (by decide) (by decide) (by decide) (by decide) ?_
    exact d
  refine V_topi (show tI (some (t s)) = nI (t s) from rfl) ?_
  refine V_tabOut (tgt := 192) dX7_carryOut_19 (by rw [nI_toInt (by omega)]; omega) (by decide) ?_
  exact d
end CMD
