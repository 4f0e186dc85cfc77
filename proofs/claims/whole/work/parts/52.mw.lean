/-! the model as a whole -/
def RfR (K : MS) (r : Int32 × Int32 × Int32 × Int32) : Prop := kRe K = r.1 ∧ kDe K = r.2.1 ∧ r.2.2.2 = -4 ∧ (r.1 ≠ 0 → (kIT K < 0 ∧ r.2.2.1 = -4) ∨ (¬ kIT K < 0 ∧ r.2.2.1 = kIT K))
def MWx (g : GG) (w : HW) (n p : Nat) (X : XT) (K : MS) (F Fs Fb C T : Nat → Int32) : Prop := MBd g w n p K F Fs Fb (xP X).1 (xP X).2 C T ∧ RN F (xN X) ∧ (xH X = 1 → RN Fs (xS X)) ∧ kSv K = nI (xH X) ∧ xH X ≤ 1 ∧ kIn K = 0 ∧ (kWr K = nI (xL X).1 ∧ (xL X).1 ≤ 10 ∧ ∀ i, i < (xL X).1 → C i = nI ((xL X).2 i)) ∧ (kRd K = nI (xT X).1 ∧ (xT X).1 ≤ 70 ∧ ∀ i, i < (xT X).1 → T i = nI ((xT X).2 i) ∧ 32 ≤ (xT X).2 i ∧ (xT X).2 i ≤ 126) ∧ RfR K (xR X)
def MW (g : GG) (w : HW) (n p : Nat) (X : XT) : Prop := ∃ K F Fs Fb C T, MWx g w n p X K F Fs Fb C T
def MP (g : GG) (w : HW) (n p : Nat) (res : Int32 × XT) : Int32 → HW → Prop := fun y w' => y = res.1 ∧ MW g w' n p res.2 ∧ FrM w w' p
section MW
variable {g : GG} {l : Launch} {w : HW} {n p : Nat} {X : XT} {K : MS} {F Fs Fb C T : Nat → Int32}
theorem MWx.chg {w' : HW} {res : OpR} {y : Int32} (h : MWx g w n p X K F Fs Fb C T) (hm : MOP g w n p K Fs Fb (xP X).1 (xP X).2 C T (xN X) res y w') : MP g w n p (chgX X res) y w' := by
  obtain ⟨h0, h1, h2, h3, h4, h5, h6, h7, h8⟩ := h
  obtain ⟨e, ⟨b, F', pk', Hs', m1, m2, m3⟩, m4⟩ := hm
  have hno : ¬ kIn K = 1 := by rw [h5]; decide
  have hpk : pkC K (xP X).1 = min ((xP X).1 + 1) 8 := if_neg hno
  have hhs : hsC K (xN X) (xP X).2 = conS (xN X) (xP X).2 := if_neg hno
  rw [hpk, hhs] at m3
  have hK : ∀ d, kSv (kOp K d (nI pk') b) = kSv K ∧ kIn (kOp K d (nI pk') b) = kIn K ∧ kWr (kOp K d (nI pk') b) = kWr K ∧ kRd (kOp K d (nI pk') b) = kRd K := fun d => by cases d <;> exact ⟨rfl, rfl, rfl, rfl⟩
  obtain ⟨k1, k2, k3, k4⟩ := hK res.2.2
  have hrf : RfR (kOp K res.2.2 (nI pk') b) (rfR (xR X) res.2.2) := by
    cases hd : res.2.2 with
    | none => exact h8
    | some q =>
      obtain ⟨-, -, r4, -⟩ := h8
      refine ⟨rfl, rfl, r4, fun _ => Or.inl ⟨?_, r4⟩⟩
      show (if kIn K = 0 then (-1 : Int32) else kCm K) < 0
      rw [if_pos h5]
      decide
  refine ⟨e, ?_, m4⟩
  by_cases he : isErr res.1
  · rw [if_pos he] at m3
    have e1 : pk' = (xP X).1 := congrArg Prod.fst m3
    have e2 : Hs' = (xP X).2 := congrArg Prod.snd m3
    subst e1
    subst e2
    rw [show chgX X res = (res.1, opX X res) by unfold chgX; rw [if_pos he]]
    exact ⟨_, F', Fs, Fb, C, T, m1, m2, h2, k1.trans h3, h4, k2.trans h5, ⟨k3.trans h6.1, h6.2⟩, ⟨k4.trans h7.1, h7.2⟩, hrf⟩
  · rw [if_neg he] at m3
    have e1 : pk' = min ((xP X).1 + 1) 8 := congrArg Prod.fst m3
    have e2 : Hs' = conS (xN X) (xP X).2 := congrArg Prod.snd m3
    subst e1
    subst e2
    rw [show chgX X res = (res.1, pushP (opX X res) (xN X)) by unfold chgX; rw [if_neg he]]
    exact ⟨_, F', Fs, Fb, C, T, m1, m2, h2, k1.trans h3, h4, k2.trans h5, ⟨k3.trans h6.1, h6.2⟩, ⟨k4.trans h7.1, h7.2⟩, hrf⟩
theorem Y_row (h : MW g w n p X) {x y : Int32} : CtI g l MX8_row 3 [rf g p, .int x, .int y] w n (MP g w n p (chgX X (addA x y (xN X)))) := by
  obtain ⟨K, F, Fs, Fb, C, T, h⟩ := h
  refine (M_row h.1 (Or.inl h.2.2.2.2.2.1) h.2.1).mono (fun v w' n' q => ?_)
  obtain ⟨q1, y, q2, q3⟩ := q
  exact ⟨q1, y, q2, h.chg q3⟩
theorem Y_drop (h : MW g w n p X) {x : Int32} : CtI g l MX8_drop 3 [rf g p, .int x] w n (MP g w n p (chgX X (dropA x (xN X)))) := by
  obtain ⟨K, F, Fs, Fb, C, T, h⟩ := h
  refine (M_drop h.1 (Or.inl h.2.2.2.2.2.1) h.2.1).mono (fun v w' n' q => ?_)
  obtain ⟨q1, y, q2, q3⟩ := q
  exact ⟨q1, y, q2, h.chg q3⟩
theorem Y_turn (h : MW g w n p X) {x : Int32} : CtI g l MX8_turn 3 [rf g p, .int x] w n (MP g w n p (chgX X (turnA x (xN X)))) := by
  obtain ⟨K, F, Fs, Fb, C, T, h⟩ := h
  refine (M_turn h.1 (Or.inl h.2.2.2.2.2.1) h.2.1).mono (fun v w' n' q => ?_)
  obtain ⟨q1, y, q2, q3⟩ := q
  exact ⟨q1, y, q2, h.chg q3⟩
theorem Y_swap (h : MW g w n p X) {x y z : Int32} : CtI g l MX8_swap 3 [rf g p, .int x, .int y, .int z] w n (MP g w n p (chgX X (swapA x y z (xN X)))) := by
  obtain ⟨K, F, Fs, Fb, C, T, h⟩ := h
  refine (M_swap h.1 (Or.inl h.2.2.2.2.2.1) h.2.1).mono (fun v w' n' q => ?_)
  obtain ⟨q1, y, q2, q3⟩ := q
  exact ⟨q1, y, q2, h.chg q3⟩
theorem Y_lift (h : MW g w n p X) {x : Int32} : CtI g l MX8_lift 3 [rf g p, .int x] w n (MP g w n p (chgX X (liftA x (xN X)))) := by
  obtain ⟨K, F, Fs, Fb, C, T, h⟩ := h
  refine (M_lift h.1 (Or.inl h.2.2.2.2.2.1) h.2.1).mono (fun v w' n' q => ?_)
  obtain ⟨q1, y, q2, q3⟩ := q
  exact ⟨q1, y, q2, h.chg q3⟩
theorem Y_begin (h : MW g w n p X) {x : Int32} : CtI g l MX8_begin 3 [rf g p, .int x] w n (MP g w n p (chgX X (beginA x (xN X)))) := by
  obtain ⟨K, F, Fs, Fb, C, T, h⟩ := h
  refine (M_begin h.1 (Or.inl h.2.2.2.2.2.1) h.2.1).mono (fun v w' n' q => ?_)
  obtain ⟨q1, y, q2, q3⟩ := q
  exact ⟨q1, y, q2, h.chg q3⟩
theorem Y_toss (h : MW g w n p X) (hb : sB (xN X) + 100 < 2 ^ 30) {x : Int32} : CtI g l MX8_toss 3 [rf g p, .int x] w n (MP g w n p (chgX X (tossA x (xN X)))) := by
  obtain ⟨K, F, Fs, Fb, C, T, h⟩ := h
  refine (M_toss h.1 (Or.inl h.2.2.2.2.2.1) h.2.1 (by omega)).mono (fun v w' n' q => ?_)
  obtain ⟨q1, y, q2, q3⟩ := q
  exact ⟨q1, y, q2, h.chg q3⟩
theorem Y_join (h : MW g w n p X) (hb : sB (xN X) + 100 < 2 ^ 30) {x : Int32} : CtI g l MX8_join 4 [rf g p, .int x] w n (MP g w n p (chgX X (joinA x (xN X)))) := by
  obtain ⟨K, F, Fs, Fb, C, T, h⟩ := h
  refine (M_join h.1 (Or.inl h.2.2.2.2.2.1) h.2.1 (by omega)).mono (fun v w' n' q => ?_)
  obtain ⟨q1, y, q2, q3⟩ := q
  exact ⟨q1, y, q2, h.chg q3⟩
theorem Y_once (h : MW g w n p X) (hb : sB (xN X) + 100 < 2 ^ 30) {x : Int32} : CtI g l MX8_once 4 [rf g p, .int x] w n (MP g w n p (chgX X (onceA x (xN X)))) := by
  obtain ⟨K, F, Fs, Fb, C, T, h⟩ := h
  refine (M_once h.1 (Or.inl h.2.2.2.2.2.1) h.2.1 (by omega)).mono (fun v w' n' q => ?_)
  obtain ⟨q1, y, q2, q3⟩ := q
  exact ⟨q1, y, q2, h.chg q3⟩
theorem MWx.find {w' : HW} {b : Int32} (h : MWx g w n p X K F Fs Fb C T) (hm : MBd g w' n p (setLn K b) F Fs Fb (xP X).1 (xP X).2 C T) : MW g w' n p X := by
  obtain ⟨h0, h1, h2, h3, h4, h5, h6, h7, h8⟩ := h
  exact ⟨_, F, Fs, Fb, C, T, hm, h1, h2, h3, h4, h5, h6, h7, h8⟩
theorem MWx.same (h : MWx g w n p X K F Fs Fb C T) {x : Int32} : MP g w n p (x, X) x w := ⟨rfl, ⟨K, F, Fs, Fb, C, T, h⟩, FrM.rf⟩
theorem Y_joinTo (h : MW g w n p X) {x : Int32} : CtI g l MX8_joinTo 4 [rf g p, .int x] w n (MP g w n p (joiA x (xN X), X)) := by
  obtain ⟨K, F, Fs, Fb, C, T, h⟩ := h
  obtain ⟨hX, hR, hSv, hsv, hH, hIn, hL, hT, hRf⟩ := id h
  obtain ⟨h0, h1, hfs, hfb, hhi, hqq, hC, hTT, hn, hkp, hpk8⟩ := id hX
  have hpn : p + 1 < n := by omega
  have hc6 := hR.2.2.1.1
  have hs := hR.2.2.2.1.1
  rcases i3_lt x (sC (xN X)) (by omega) with hx | ⟨i, hi, rfl⟩
  · rw [show joiA x (xN X) = -1 by unfold joiA; rw [idx_no hx]]
    refine Ct.ofs (M := MX8_joinTo) (ls := [some _, some _]) (by decide +kernel) (by exact (Nat.le_of_ble_eq_true rfl)) (by rfl) (by rfl) (by rfl) ?_
    refine V_aload_n (q := 1) dX8_joinTo_0 rfl rfl rfl ?_
    refine V_iload_n (q := 2) dX8_joinTo_1 rfl rfl ?_
    refine CrX8_123 (q := 5) rfl dX8_joinTo_2 rfl (m_isRow_out h0 h1 hpn hR hx) ⟨(Nat.le_of_ble_eq_true rfl), (Nat.le_of_ble_eq_true rfl)⟩ (Nat.le_of_ble_eq_true rfl) (by first | assumption | exact up_eq | exact (up_ne (by omega)).trans (by first | assumption | exact up_eq | exact (up_ne (by omega)).trans (by first | assumption | exact up_eq | exact (up_ne (by omega)).trans (by first | assumption | exact up_eq)))) (by omega) (Nat.zero_le _) (Nat.zero_le _) ?_
    refine V_if_ne (q := 8) (tgt := 12) dX8_joinTo_5 (by decide) rfl (fun h9 => absurd rfl h9) (fun _ => ?_)
    refine V_iconst (q := 9) (v := (-1)) dX8_joinTo_8 rfl (by decide) ?_
    refine V_goto (tgt := 29) dX8_joinTo_9 (by decide) ?_
    exact V_iret dX8_joinTo_29 rfl (Nat.le_of_ble_eq_true rfl) (Nat.le_of_ble_eq_true rfl) (⟨rfl, _, rfl, h.same⟩)
  obtain ⟨i0, i1, i2⟩ := hR.2.2.1.2 i hi
  rw [show joiA (nI i) (xN X) = if ballI (sR (xN X) i).2 (sR (xN X) i).1 = nI (popc (sS (xN X))) then nI (dstN (sS (xN X)) (stN (sR (xN X) i).2 (sR (xN X) i).1 0)) else -4 by unfold joiA; rw [idx_yes hi (by omega)]]
  refine Ct.ofs (M := MX8_joinTo) (ls := [some _, some _]) (by decide +kernel) (by exact (Nat.le_of_ble_eq_true rfl)) (by rfl) (by rfl) (by rfl) ?_
  refine V_aload_n (q := 1) dX8_joinTo_0 rfl rfl rfl ?_
  refine V_iload_n (q := 2) dX8_joinTo_1 rfl rfl ?_
  refine CrX8_123 (q := 5) rfl dX8_joinTo_2 rfl (m_isRow_in h0 h1 hpn hR hi) ⟨(Nat.le_of_ble_eq_true rfl), (Nat.le_of_ble_eq_true rfl)⟩ (Nat.le_of_ble_eq_true rfl) (by first | assumption | exact up_eq | exact (up_ne (by omega)).trans (by first | assumption | exact up_eq | exact (up_ne (by omega)).trans (by first | assumption | exact up_eq | exact (up_ne (by omega)).trans (by first | assumption | exact up_eq)))) (by omega) (Nat.zero_le _) (Nat.zero_le _) ?_
  refine V_if_ne (q := 8) (tgt := 12) dX8_joinTo_5 (by decide) rfl (fun _ => ?_) (fun h9 => absurd h9 (by decide))
  refine V_aload_n (q := 13) dX8_joinTo_12 rfl rfl rfl ?_
  refine V_iload_n (q := 14) dX8_joinTo_13 rfl rfl ?_
  by_cases hj : ballI (sR (xN X) i).2 (sR (xN X) i).1 = nI (popc (sS (xN X)))
  · rw [if_pos hj]
    obtain ⟨hst, k, hk9, hk⟩ := reach_is i0 i2 hs hj
    rw [dstN_is hk]
    refine CiX8_139 (q := 17) rfl dX8_joinTo_14 rfl (m_findJoinTo hX hR hi hj hk hk9) ⟨(Nat.le_of_ble_eq_true rfl), (Nat.le_of_ble_eq_true rfl)⟩ (Nat.le_of_ble_eq_true rfl) (by first | assumption | exact up_eq | exact (up_ne (by omega)).trans (by first | assumption | exact up_eq | exact (up_ne (by omega)).trans (by first | assumption | exact up_eq | exact (up_ne (by omega)).trans (by first | assumption | exact up_eq)))) (by omega) (Nat.zero_le _) (Nat.zero_le _) (fun u w1 hw1 => ?_)
    obtain ⟨rfl, ⟨J, hM1, -, -⟩, hF1⟩ := hw1
    have b0 := hM1.1
    refine V_if_eq (q := 20) (tgt := 27) dX8_joinTo_17 (by decide) rfl (fun h9 => absurd h9 (by decide)) (fun _ => ?_)
    refine V_aload_n (q := 21) dX8_joinTo_20 rfl rfl rfl ?_
    refine GX8_100 (q := 24) rfl dX8_joinTo_21 rfl (by first | assumption | exact up_eq | exact (up_ne (by omega)).trans (by first | assumption | exact up_eq | exact (up_ne (by omega)).trans (by first | assumption | exact up_eq | exact (up_ne (by omega)).trans (by first | assumption | exact up_eq)))) (by omega) (by rfl) ?_
    refine V_goto (tgt := 29) dX8_joinTo_24 (by decide) ?_
    exact V_iret dX8_joinTo_29 rfl (Nat.le_of_ble_eq_true rfl) (Nat.le_of_ble_eq_true rfl) (⟨rfl, _, rfl, rfl, h.find hM1, hF1⟩)
  · rw [if_neg hj]
    refine CiX8_139 (q := 17) rfl dX8_joinTo_14 rfl (m_findJoinTo_no hX hR hi hj) ⟨(Nat.le_of_ble_eq_true rfl), (Nat.le_of_ble_eq_true rfl)⟩ (Nat.le_of_ble_eq_true rfl) (by first | assumption | exact up_eq | exact (up_ne (by omega)).trans (by first | assumption | exact up_eq | exact (up_ne (by omega)).trans (by first | assumption | exact up_eq | exact (up_ne (by omega)).trans (by first | assumption | exact up_eq)))) (by omega) (Nat.zero_le _) (Nat.zero_le _) (fun u w1 hw1 => ?_)
    obtain ⟨rfl, rfl⟩ := hw1
    refine V_if_eq (q := 20) (tgt := 27) dX8_joinTo_17 (by decide) rfl (fun _ => ?_) (fun h9 => absurd rfl h9)
    refine V_bipush (q := 29) (v := (-4)) dX8_joinTo_27 rfl (by decide) ?_
    exact V_iret dX8_joinTo_29 rfl (Nat.le_of_ble_eq_true rfl) (Nat.le_of_ble_eq_true rfl) (⟨rfl, _, rfl, h.same⟩)
theorem Y_joinAgain (h : MW g w n p X) {x : Int32} : CtI g l MX8_joinAgain 5 [rf g p, .int x] w n (MP g w n p (joiA x (xN X), X)) := by
  have h' := h
  obtain ⟨K, F, Fs, Fb, C, T, h⟩ := h
  have h0 := h.1.1
  have hn := h.1.2.2.2.2.2.2.2.2.1
  refine Ct.ofs (M := MX8_joinAgain) (ls := [some _, some _]) (by decide +kernel) (by exact (Nat.le_of_ble_eq_true rfl)) (by rfl) (by rfl) (by rfl) ?_
  refine V_aload_n (q := 1) dX8_joinAgain_0 rfl rfl rfl ?_
  refine V_iload_n (q := 2) dX8_joinAgain_1 rfl rfl ?_
  refine CiX8_164 (q := 5) rfl dX8_joinAgain_2 rfl (Y_joinTo h') ⟨(Nat.le_of_ble_eq_true rfl), (Nat.le_of_ble_eq_true rfl)⟩ (Nat.le_of_ble_eq_true rfl) (by first | assumption | exact up_eq | exact (up_ne (by omega)).trans (by first | assumption | exact up_eq | exact (up_ne (by omega)).trans (by first | assumption | exact up_eq | exact (up_ne (by omega)).trans (by first | assumption | exact up_eq)))) (by omega) (Nat.zero_le _) (Nat.zero_le _) (fun u w1 hw1 => ?_)
  skip
  exact V_iret dX8_joinAgain_5 rfl (Nat.le_of_ble_eq_true rfl) (Nat.le_of_ble_eq_true rfl) (⟨rfl, _, rfl, hw1⟩)
theorem Y_joinThrow (h : MW g w n p X) {x y : Int32} : CtI g l MX8_joinThrow 4 [rf g p, .int x, .int y] w n (MP g w n p (jthA x y (xN X), X)) := by
  obtain ⟨K, F, Fs, Fb, C, T, h⟩ := h
  obtain ⟨hX, hR, hSv, hsv, hH, hIn, hL, hT, hRf⟩ := id h
  obtain ⟨h0, h1, hfs, hfb, hhi, hqq, hC, hTT, hn, hkp, hpk8⟩ := id hX
  have hpn : p + 1 < n := by omega
  have hc6 := hR.2.2.1.1
  have hs := hR.2.2.2.1.1
  rcases i3_lt x (sC (xN X)) (by omega) with hx | ⟨i, hi, rfl⟩
  · rw [show jthA x y (xN X) = -1 by unfold jthA; rw [idx_no hx]]
    refine Ct.ofs (M := MX8_joinThrow) (ls := [some _, some _, some _]) (by decide +kernel) (by exact (Nat.le_of_ble_eq_true rfl)) (by rfl) (by rfl) (by rfl) ?_
    refine V_aload_n (q := 1) dX8_joinThrow_0 rfl rfl rfl ?_
    refine V_iload_n (q := 2) dX8_joinThrow_1 rfl rfl ?_
    refine CrX8_123 (q := 5) rfl dX8_joinThrow_2 rfl (m_isRow_out h0 h1 hpn hR hx) ⟨(Nat.le_of_ble_eq_true rfl), (Nat.le_of_ble_eq_true rfl)⟩ (Nat.le_of_ble_eq_true rfl) (by first | assumption | exact up_eq | exact (up_ne (by omega)).trans (by first | assumption | exact up_eq | exact (up_ne (by omega)).trans (by first | assumption | exact up_eq | exact (up_ne (by omega)).trans (by first | assumption | exact up_eq)))) (by omega) (Nat.zero_le _) (Nat.zero_le _) ?_
    refine V_if_ne (q := 8) (tgt := 10) dX8_joinThrow_5 (by decide) rfl (fun h9 => absurd rfl h9) (fun _ => ?_)
    refine V_iconst (q := 9) (v := (-1)) dX8_joinThrow_8 rfl (by decide) ?_
    exact V_iret dX8_joinThrow_9 rfl (Nat.le_of_ble_eq_true rfl) (Nat.le_of_ble_eq_true rfl) (⟨rfl, _, rfl, h.same⟩)
  obtain ⟨i0, i1, i2⟩ := hR.2.2.1.2 i hi
  rw [show jthA (nI i) y (xN X) = if ballI (sR (xN X) i).2 (sR (xN X) i).1 = nI (popc (sS (xN X))) then (match idx y (dstN (sS (xN X)) (stN (sR (xN X) i).2 (sR (xN X) i).1 0)) with | none => -1 | some k => nI (digN (codN (sS (xN X)) (stN (sR (xN X) i).2 (sR (xN X) i).1 0)) (dstN (sS (xN X)) (stN (sR (xN X) i).2 (sR (xN X) i).1 0)) k)) else -4 by unfold jthA; (rw [idx_yes hi (by omega)]) <;> rfl]
  refine Ct.ofs (M := MX8_joinThrow) (ls := [some _, some _, some _]) (by decide +kernel) (by exact (Nat.le_of_ble_eq_true rfl)) (by rfl) (by rfl) (by rfl) ?_
  refine V_aload_n (q := 1) dX8_joinThrow_0 rfl rfl rfl ?_
  refine V_iload_n (q := 2) dX8_joinThrow_1 rfl rfl ?_
  refine CrX8_123 (q := 5) rfl dX8_joinThrow_2 rfl (m_isRow_in h0 h1 hpn hR hi) ⟨(Nat.le_of_ble_eq_true rfl), (Nat.le_of_ble_eq_true rfl)⟩ (Nat.le_of_ble_eq_true rfl) (by first | assumption | exact up_eq | exact (up_ne (by omega)).trans (by first | assumption | exact up_eq | exact (up_ne (by omega)).trans (by first | assumption | exact up_eq | exact (up_ne (by omega)).trans (by first | assumption | exact up_eq)))) (by omega) (Nat.zero_le _) (Nat.zero_le _) ?_
  refine V_if_ne (q := 8) (tgt := 10) dX8_joinThrow_5 (by decide) rfl (fun _ => ?_) (fun h9 => absurd h9 (by decide))
  refine V_aload_n (q := 11) dX8_joinThrow_10 rfl rfl rfl ?_
  refine V_iload_n (q := 12) dX8_joinThrow_11 rfl rfl ?_
  by_cases hj : ballI (sR (xN X) i).2 (sR (xN X) i).1 = nI (popc (sS (xN X)))
  · rw [if_pos hj]
    obtain ⟨hst, k, hk9, hk⟩ := reach_is i0 i2 hs hj
    rw [dstN_is hk]
    refine CiX8_139 (q := 15) rfl dX8_joinThrow_12 rfl (m_findJoinTo hX hR hi hj hk hk9) ⟨(Nat.le_of_ble_eq_true rfl), (Nat.le_of_ble_eq_true rfl)⟩ (Nat.le_of_ble_eq_true rfl) (by first | assumption | exact up_eq | exact (up_ne (by omega)).trans (by first | assumption | exact up_eq | exact (up_ne (by omega)).trans (by first | assumption | exact up_eq | exact (up_ne (by omega)).trans (by first | assumption | exact up_eq)))) (by omega) (Nat.zero_le _) (Nat.zero_le _) (fun u w1 hw1 => ?_)
    obtain ⟨rfl, ⟨J, hM1, hJ1, hdig⟩, hF1⟩ := hw1
    have b0 := hM1.1
    refine V_if_ne (q := 18) (tgt := 23) dX8_joinThrow_15 (by decide) rfl (fun _ => ?_) (fun h9 => absurd h9 (by decide))
    refine V_iload_n (q := 24) dX8_joinThrow_23 rfl rfl ?_
    refine V_iconst (q := 25) (v := nI 0) dX8_joinThrow_24 rfl (by decide) ?_
    refine V_aload_n (q := 26) dX8_joinThrow_25 rfl rfl rfl ?_
    refine GX8_100 (q := 29) rfl dX8_joinThrow_26 rfl (by first | assumption | exact up_eq | exact (up_ne (by omega)).trans (by first | assumption | exact up_eq | exact (up_ne (by omega)).trans (by first | assumption | exact up_eq | exact (up_ne (by omega)).trans (by first | assumption | exact up_eq)))) (by omega) (by rfl) ?_
    refine V_iconst (q := 30) (v := nI 1) dX8_joinThrow_29 rfl (by decide) ?_
    refine V_isub (q := 31) dX8_joinThrow_30 rfl rfl ?_
    refine CrX8_71 (q := 34) rfl dX8_joinThrow_31 rfl (c_between) ⟨(Nat.le_of_ble_eq_true rfl), (Nat.le_of_ble_eq_true rfl)⟩ (Nat.le_of_ble_eq_true rfl) (Nat.zero_le _) (Nat.zero_le _) ?_
    rcases i3_lt y k (by omega) with hy | ⟨q, hq, rfl⟩
    · rw [idx_no hy]
      refine V_topi (if_neg (bet_out hy (by omega))) ?_
      refine V_if_eq (q := 37) (tgt := 46) dX8_joinThrow_34 (by decide) rfl (fun _ => ?_) (fun h9 => absurd rfl h9)
      refine V_iconst (q := 47) (v := (-1)) dX8_joinThrow_46 rfl (by decide) ?_
      exact V_iret dX8_joinThrow_47 rfl (Nat.le_of_ble_eq_true rfl) (Nat.le_of_ble_eq_true rfl) (⟨rfl, _, rfl, rfl, h.find hM1, hF1⟩)
    · rw [idx_yes hq (by omega)]
      have hdq := hdig q hq
      refine V_topi (if_pos (bet_in hq (by omega))) ?_
      refine V_if_eq (q := 37) (tgt := 46) dX8_joinThrow_34 (by decide) rfl (fun h9 => absurd h9 (by decide)) (fun _ => ?_)
      refine V_aload_n (q := 38) dX8_joinThrow_37 rfl rfl rfl ?_
      refine GX8_37 (q := 41) rfl dX8_joinThrow_38 rfl (by first | assumption | exact up_eq | exact (up_ne (by omega)).trans (by first | assumption | exact up_eq | exact (up_ne (by omega)).trans (by first | assumption | exact up_eq | exact (up_ne (by omega)).trans (by first | assumption | exact up_eq)))) (by omega) (by rfl) ?_
      refine V_iload_n (q := 42) dX8_joinThrow_41 rfl rfl ?_
      refine V_ialdN (q := 43) dX8_joinThrow_42 rfl (by first | assumption | exact up_eq | exact (up_ne (by omega)).trans (by first | assumption | exact up_eq | exact (up_ne (by omega)).trans (by first | assumption | exact up_eq | exact (up_ne (by omega)).trans (by first | assumption | exact up_eq)))) (by omega) (by omega) (by omega) rfl hdq ?_
      refine V_goto (tgt := 47) dX8_joinThrow_43 (by decide) ?_
      exact V_iret dX8_joinThrow_47 rfl (Nat.le_of_ble_eq_true rfl) (Nat.le_of_ble_eq_true rfl) (⟨rfl, _, rfl, rfl, h.find hM1, hF1⟩)
  · rw [if_neg hj]
    refine CiX8_139 (q := 15) rfl dX8_joinThrow_12 rfl (m_findJoinTo_no hX hR hi hj) ⟨(Nat.le_of_ble_eq_true rfl), (Nat.le_of_ble_eq_true rfl)⟩ (Nat.le_of_ble_eq_true rfl) (by first | assumption | exact up_eq | exact (up_ne (by omega)).trans (by first | assumption | exact up_eq | exact (up_ne (by omega)).trans (by first | assumption | exact up_eq | exact (up_ne (by omega)).trans (by first | assumption | exact up_eq)))) (by omega) (Nat.zero_le _) (Nat.zero_le _) (fun u w1 hw1 => ?_)
    obtain ⟨rfl, rfl⟩ := hw1
    refine V_if_ne (q := 18) (tgt := 23) dX8_joinThrow_15 (by decide) rfl (fun h9 => absurd rfl h9) (fun _ => ?_)
    refine V_bipush (q := 20) (v := (-4)) dX8_joinThrow_18 rfl (by decide) ?_
    refine V_goto (tgt := 47) dX8_joinThrow_20 (by decide) ?_
    exact V_iret dX8_joinThrow_47 rfl (Nat.le_of_ble_eq_true rfl) (Nat.le_of_ble_eq_true rfl) (⟨rfl, _, rfl, h.same⟩)
theorem Y_between (h : MW g w n p X) {x y : Int32} : CtI g l MX8_between 3 [rf g p, .int x, .int y] w n (MP g w n p (betA x y (xN X), X)) := by
  obtain ⟨K, F, Fs, Fb, C, T, h⟩ := h
  obtain ⟨hX, hR, hSv, hsv, hH, hIn, hL, hT, hRf⟩ := id h
  obtain ⟨h0, h1, hfs, hfb, hhi, hqq, hC, hTT, hn, hkp, hpk8⟩ := id hX
  have hpn : p + 1 < n := by omega
  have hc6 := hR.2.2.1.1
  have hs := hR.2.2.2.1.1
  rcases i3_lt x (sC (xN X)) (by omega) with hx | ⟨i, hi, rfl⟩
  · rw [show betA x y (xN X) = -1 by unfold betA; rw [idx_no hx]]
    refine Ct.ofs (M := MX8_between) (ls := [some _, some _, some _, none]) (by decide +kernel) (by exact (Nat.le_of_ble_eq_true rfl)) (by rfl) (by rfl) (by rfl) ?_
    refine V_aload_n (q := 1) dX8_between_0 rfl rfl rfl ?_
    refine V_iload_n (q := 2) dX8_between_1 rfl rfl ?_
    refine CrX8_123 (q := 5) rfl dX8_between_2 rfl (m_isRow_out h0 h1 hpn hR hx) ⟨(Nat.le_of_ble_eq_true rfl), (Nat.le_of_ble_eq_true rfl)⟩ (Nat.le_of_ble_eq_true rfl) (by first | assumption | exact up_eq | exact (up_ne (by omega)).trans (by first | assumption | exact up_eq | exact (up_ne (by omega)).trans (by first | assumption | exact up_eq | exact (up_ne (by omega)).trans (by first | assumption | exact up_eq)))) (by omega) (Nat.zero_le _) (Nat.zero_le _) ?_
    refine V_if_eq (q := 8) (tgt := 16) dX8_between_5 (by decide) rfl (fun _ => ?_) (fun h9 => absurd rfl h9)
    refine V_iconst (q := 17) (v := (-1)) dX8_between_16 rfl (by decide) ?_
    exact V_iret dX8_between_17 rfl (Nat.le_of_ble_eq_true rfl) (Nat.le_of_ble_eq_true rfl) (⟨rfl, _, rfl, h.same⟩)
  obtain ⟨i0, i1, i2⟩ := hR.2.2.1.2 i hi
  refine Ct.ofs (M := MX8_between) (ls := [some _, some _, some _, none]) (by decide +kernel) (by exact (Nat.le_of_ble_eq_true rfl)) (by rfl) (by rfl) (by rfl) ?_
  refine V_aload_n (q := 1) dX8_between_0 rfl rfl rfl ?_
  refine V_iload_n (q := 2) dX8_between_1 rfl rfl ?_
  refine CrX8_123 (q := 5) rfl dX8_between_2 rfl (m_isRow_in h0 h1 hpn hR hi) ⟨(Nat.le_of_ble_eq_true rfl), (Nat.le_of_ble_eq_true rfl)⟩ (Nat.le_of_ble_eq_true rfl) (by first | assumption | exact up_eq | exact (up_ne (by omega)).trans (by first | assumption | exact up_eq | exact (up_ne (by omega)).trans (by first | assumption | exact up_eq | exact (up_ne (by omega)).trans (by first | assumption | exact up_eq)))) (by omega) (Nat.zero_le _) (Nat.zero_le _) ?_
  refine V_if_eq (q := 8) (tgt := 16) dX8_between_5 (by decide) rfl (fun h9 => absurd h9 (by decide)) (fun _ => ?_)
  refine V_aload_n (q := 9) dX8_between_8 rfl rfl rfl ?_
  refine V_iload_n (q := 10) dX8_between_9 rfl rfl ?_
  rcases i3_lt y (sC (xN X)) (by omega) with hy | ⟨j, hj, rfl⟩
  · rw [show betA (nI i) y (xN X) = -1 by unfold betA; rw [idx_yes hi (by omega)]; show (match idx y (sC (xN X)) with | none => _ | some k => _) = _; rw [idx_no hy]]
    refine CrX8_123 (q := 13) rfl dX8_between_10 rfl (m_isRow_out h0 h1 hpn hR hy) ⟨(Nat.le_of_ble_eq_true rfl), (Nat.le_of_ble_eq_true rfl)⟩ (Nat.le_of_ble_eq_true rfl) (by first | assumption | exact up_eq | exact (up_ne (by omega)).trans (by first | assumption | exact up_eq | exact (up_ne (by omega)).trans (by first | assumption | exact up_eq | exact (up_ne (by omega)).trans (by first | assumption | exact up_eq)))) (by omega) (Nat.zero_le _) (Nat.zero_le _) ?_
    refine V_if_ne (q := 16) (tgt := 18) dX8_between_13 (by decide) rfl (fun h9 => absurd rfl h9) (fun _ => ?_)
    refine V_iconst (q := 17) (v := (-1)) dX8_between_16 rfl (by decide) ?_
    exact V_iret dX8_between_17 rfl (Nat.le_of_ble_eq_true rfl) (Nat.le_of_ble_eq_true rfl) (⟨rfl, _, rfl, h.same⟩)
  obtain ⟨j0, j1, j2⟩ := hR.2.2.1.2 j hj
  rw [show betA (nI i) (nI j) (xN X) = if ballI (sR (xN X) i).2 (sR (xN X) i).1 = -4 ∨ ballI (sR (xN X) i).2 (sR (xN X) i).1 ≠ ballI (sR (xN X) j).2 (sR (xN X) j).1 then -4 else nI (dstN (stN (sR (xN X) i).2 (sR (xN X) i).1 0) (stN (sR (xN X) j).2 (sR (xN X) j).1 0)) by unfold betA; rw [idx_yes hi (by omega)]; show (match idx (nI j) (sC (xN X)) with | none => _ | some k => _) = _; rw [idx_yes hj (by omega)]]
  have d1 := divL_le i0 i2
  have d2 := divL_le j0 j2
  refine CrX8_123 (q := 13) rfl dX8_between_10 rfl (m_isRow_in h0 h1 hpn hR hj) ⟨(Nat.le_of_ble_eq_true rfl), (Nat.le_of_ble_eq_true rfl)⟩ (Nat.le_of_ble_eq_true rfl) (by first | assumption | exact up_eq | exact (up_ne (by omega)).trans (by first | assumption | exact up_eq | exact (up_ne (by omega)).trans (by first | assumption | exact up_eq | exact (up_ne (by omega)).trans (by first | assumption | exact up_eq)))) (by omega) (Nat.zero_le _) (Nat.zero_le _) ?_
  refine V_if_ne (q := 16) (tgt := 18) dX8_between_13 (by decide) rfl (fun _ => ?_) (fun h9 => absurd h9 (by decide))
  refine V_aload_n (q := 19) dX8_between_18 rfl rfl rfl ?_
  refine V_iload_n (q := 20) dX8_between_19 rfl rfl ?_
  refine CrX8_103 (q := 23) rfl dX8_between_20 rfl (m_ballsOf h0 h1 hpn hR hi) ⟨(Nat.le_of_ble_eq_true rfl), (Nat.le_of_ble_eq_true rfl)⟩ (Nat.le_of_ble_eq_true rfl) (by first | assumption | exact up_eq | exact (up_ne (by omega)).trans (by first | assumption | exact up_eq | exact (up_ne (by omega)).trans (by first | assumption | exact up_eq | exact (up_ne (by omega)).trans (by first | assumption | exact up_eq)))) (by omega) (Nat.zero_le _) (Nat.zero_le _) ?_
  by_cases hcl : clN (sR (xN X) i).2 (sR (xN X) i).1 = (sR (xN X) i).1
  · have eb : ballI (sR (xN X) i).2 (sR (xN X) i).1 = nI (sumN (sR (xN X) i).2 (sR (xN X) i).1 / (sR (xN X) i).1) := if_pos hcl
    have em : mbaI (sR (xN X) i).2 (sR (xN X) i).1 = nI (sumN (sR (xN X) i).2 (sR (xN X) i).1 / (sR (xN X) i).1) := if_pos hcl
    refine V_topi em ?_
    refine V_ifN_lt (q := 26) (tgt := 62) dX8_between_23 (by decide) rfl (by omega) (fun h9 => by first | exact h9.elim | exact absurd h9 (by assumption) | (exfalso; omega)) (fun _ => ?_)
    refine V_aload_n (q := 27) dX8_between_26 rfl rfl rfl ?_
    refine V_iload_n (q := 28) dX8_between_27 rfl rfl ?_
    refine CrX8_103 (q := 31) rfl dX8_between_28 rfl (m_ballsOf h0 h1 hpn hR hi) ⟨(Nat.le_of_ble_eq_true rfl), (Nat.le_of_ble_eq_true rfl)⟩ (Nat.le_of_ble_eq_true rfl) (by first | assumption | exact up_eq | exact (up_ne (by omega)).trans (by first | assumption | exact up_eq | exact (up_ne (by omega)).trans (by first | assumption | exact up_eq | exact (up_ne (by omega)).trans (by first | assumption | exact up_eq)))) (by omega) (Nat.zero_le _) (Nat.zero_le _) ?_
    refine V_topi em ?_
    refine V_aload_n (q := 32) dX8_between_31 rfl rfl rfl ?_
    refine V_iload_n (q := 33) dX8_between_32 rfl rfl ?_
    refine CrX8_103 (q := 36) rfl dX8_between_33 rfl (m_ballsOf h0 h1 hpn hR hj) ⟨(Nat.le_of_ble_eq_true rfl), (Nat.le_of_ble_eq_true rfl)⟩ (Nat.le_of_ble_eq_true rfl) (by first | assumption | exact up_eq | exact (up_ne (by omega)).trans (by first | assumption | exact up_eq | exact (up_ne (by omega)).trans (by first | assumption | exact up_eq | exact (up_ne (by omega)).trans (by first | assumption | exact up_eq)))) (by omega) (Nat.zero_le _) (Nat.zero_le _) ?_
    refine V_icmp_ne (q := 39) (tgt := 62) dX8_between_36 (by decide) rfl (fun hq => ?_) (fun hq => ?_)
    · skip
      rw [if_pos (Or.inr (fun e => hq (by rw [eb] at e; exact ((mba_ball (by omega)).mpr e.symm).symm)))]
      refine V_iconst (q := 63) (v := nI 0) dX8_between_62 rfl (by decide) ?_
      refine V_istore_n (q := 64) (ls' := [_, _, _, _]) dX8_between_63 rfl (by decide) rfl ?_
      refine V_iload_n (q := 65) dX8_between_64 rfl rfl ?_
      refine V_if_eq (q := 68) (tgt := 75) dX8_between_65 (by decide) rfl (fun _ => ?_) (fun h9 => absurd rfl h9)
      refine V_bipush (q := 77) (v := (-4)) dX8_between_75 rfl (by decide) ?_
      exact V_iret dX8_between_77 rfl (Nat.le_of_ble_eq_true rfl) (Nat.le_of_ble_eq_true rfl) (⟨rfl, _, rfl, h.same⟩)
    · skip
      have hbe : ballI (sR (xN X) j).2 (sR (xN X) j).1 = nI (sumN (sR (xN X) i).2 (sR (xN X) i).1 / (sR (xN X) i).1) := (mba_ball (by omega)).mp hq.symm
      obtain ⟨hcl2, he2⟩ := ballI_is (by omega) hbe
      rw [nI_eq (by omega) (by omega)] at he2
      have hst := stN_lt (L := (sR (xN X) i).1) (b := 0) i0 i2
      have hst2 := stN_lt (L := (sR (xN X) j).1) (b := 0) j0 j2
      obtain ⟨k, hk9, hk⟩ := nine hst hst2 (by rw [balls_ok i0 i2 hcl, balls_ok j0 j2 hcl2, he2])
      rw [if_neg (fun q => q.elim (fun q => nI_m4 (by omega) (eb.symm.trans q)) (fun q => q (eb.trans hbe.symm))), dstN_is hk]
      obtain ⟨Q, P, B, J, q1, q2, q3, q4⟩ := hqq
      refine V_aload_n (q := 40) dX8_between_39 rfl rfl rfl ?_
      refine V_aload_n (q := 41) dX8_between_40 rfl rfl rfl ?_
      refine V_iload_n (q := 42) dX8_between_41 rfl rfl ?_
      refine V_iconst (q := 43) (v := nI 0) dX8_between_42 rfl (by decide) ?_
      refine CrX8_106 (q := 46) rfl dX8_between_43 rfl (m_stateAt h0 h1 hpn hR hi i0) ⟨(Nat.le_of_ble_eq_true rfl), (Nat.le_of_ble_eq_true rfl)⟩ (Nat.le_of_ble_eq_true rfl) (by first | assumption | exact up_eq | exact (up_ne (by omega)).trans (by first | assumption | exact up_eq | exact (up_ne (by omega)).trans (by first | assumption | exact up_eq | exact (up_ne (by omega)).trans (by first | assumption | exact up_eq)))) (by omega) (Nat.zero_le _) (Nat.zero_le _) ?_
      refine V_aload_n (q := 47) dX8_between_46 rfl rfl rfl ?_
      refine V_iload_n (q := 48) dX8_between_47 rfl rfl ?_
      refine V_iconst (q := 49) (v := nI 0) dX8_between_48 rfl (by decide) ?_
      refine CrX8_106 (q := 52) rfl dX8_between_49 rfl (m_stateAt h0 h1 hpn hR hj j0) ⟨(Nat.le_of_ble_eq_true rfl), (Nat.le_of_ble_eq_true rfl)⟩ (Nat.le_of_ble_eq_true rfl) (by first | assumption | exact up_eq | exact (up_ne (by omega)).trans (by first | assumption | exact up_eq | exact (up_ne (by omega)).trans (by first | assumption | exact up_eq | exact (up_ne (by omega)).trans (by first | assumption | exact up_eq)))) (by omega) (Nat.zero_le _) (Nat.zero_le _) ?_
      skip
      refine CiX8_109 (q := 55) rfl dX8_between_52 rfl (m_findJoin ⟨h0, q1, q2, q3, q4, hn⟩ hst hst2 hk hk9) ⟨(Nat.le_of_ble_eq_true rfl), (Nat.le_of_ble_eq_true rfl)⟩ (Nat.le_of_ble_eq_true rfl) (by first | assumption | exact up_eq | exact (up_ne (by omega)).trans (by first | assumption | exact up_eq | exact (up_ne (by omega)).trans (by first | assumption | exact up_eq | exact (up_ne (by omega)).trans (by first | assumption | exact up_eq)))) (by omega) (Nat.zero_le _) (Nat.zero_le _) (fun u w1 hw1 => ?_)
      obtain ⟨rfl, ⟨Q', P', B', J', hM, -⟩, hF⟩ := hw1
      have fin := hX.find (K' := setLn K (nI k)) rfl hM hF
      have b0 := fin.1.1
      refine V_if_eq (q := 58) (tgt := 62) dX8_between_55 (by decide) rfl (fun h9 => absurd h9 (by decide)) (fun _ => ?_)
      refine V_iconst (q := 59) (v := nI 1) dX8_between_58 rfl (by decide) ?_
      refine V_goto (tgt := 63) dX8_between_59 (by decide) ?_
      refine V_istore_n (q := 64) (ls' := [_, _, _, _]) dX8_between_63 rfl (by decide) rfl ?_
      refine V_iload_n (q := 65) dX8_between_64 rfl rfl ?_
      refine V_if_eq (q := 68) (tgt := 75) dX8_between_65 (by decide) rfl (fun h9 => absurd h9 (by decide)) (fun _ => ?_)
      refine V_aload_n (q := 69) dX8_between_68 rfl rfl rfl ?_
      refine GX8_100 (q := 72) rfl dX8_between_69 rfl (by first | assumption | exact up_eq | exact (up_ne (by omega)).trans (by first | assumption | exact up_eq | exact (up_ne (by omega)).trans (by first | assumption | exact up_eq | exact (up_ne (by omega)).trans (by first | assumption | exact up_eq)))) (by omega) (by rfl) ?_
      refine V_goto (tgt := 77) dX8_between_72 (by decide) ?_
      exact V_iret dX8_between_77 rfl (Nat.le_of_ble_eq_true rfl) (Nat.le_of_ble_eq_true rfl) (⟨rfl, _, rfl, rfl, h.find fin.1, fin.2⟩)
  · have eb : ballI (sR (xN X) i).2 (sR (xN X) i).1 = -4 := if_neg hcl
    have em : mbaI (sR (xN X) i).2 (sR (xN X) i).1 = -1 := if_neg hcl
    rw [if_pos (Or.inl eb)]
    refine V_topi em ?_
    refine V_if_lt (q := 26) (tgt := 62) dX8_between_23 (by decide) rfl (fun _ => ?_) (fun h9 => absurd (by decide) h9)
    refine V_iconst (q := 63) (v := nI 0) dX8_between_62 rfl (by decide) ?_
    refine V_istore_n (q := 64) (ls' := [_, _, _, _]) dX8_between_63 rfl (by decide) rfl ?_
    refine V_iload_n (q := 65) dX8_between_64 rfl rfl ?_
    refine V_if_eq (q := 68) (tgt := 75) dX8_between_65 (by decide) rfl (fun _ => ?_) (fun h9 => absurd rfl h9)
    refine V_bipush (q := 77) (v := (-4)) dX8_between_75 rfl (by decide) ?_
    exact V_iret dX8_between_77 rfl (Nat.le_of_ble_eq_true rfl) (Nat.le_of_ble_eq_true rfl) (⟨rfl, _, rfl, h.same⟩)
end MW
