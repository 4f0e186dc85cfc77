/-! answers about joins and orders -/
noncomputable def joiA (x : Int32) (N : StT) : Int32 := match idx x (sC N) with
  | none => -1
  | some i => if ballI (sR N i).2 (sR N i).1 = nI (popc (sS N)) then nI (dstN (sS N) (stN (sR N i).2 (sR N i).1 0)) else -4
noncomputable def jthA (x y : Int32) (N : StT) : Int32 := match idx x (sC N) with
  | none => -1
  | some i => if ballI (sR N i).2 (sR N i).1 = nI (popc (sS N)) then (match idx y (dstN (sS N) (stN (sR N i).2 (sR N i).1 0)) with
    | none => -1
    | some k => nI (digN (codN (sS N) (stN (sR N i).2 (sR N i).1 0)) (dstN (sS N) (stN (sR N i).2 (sR N i).1 0)) k)) else -4
noncomputable def betA (x y : Int32) (N : StT) : Int32 := match idx x (sC N) with
  | none => -1
  | some i => match idx y (sC N) with
    | none => -1
    | some j => if ballI (sR N i).2 (sR N i).1 = -4 ∨ ballI (sR N i).2 (sR N i).1 ≠ ballI (sR N j).2 (sR N j).1 then -4 else nI (dstN (stN (sR N i).2 (sR N i).1 0) (stN (sR N j).2 (sR N j).1 0))
theorem ballI_is {h : Nat → Nat} {L b : Nat} (hb : b < 2 ^ 31) (e : ballI h L = nI b) : clN h L = L ∧ nI (sumN h L / L) = nI b := by
  unfold ballI at e
  by_cases hc : clN h L = L
  · rw [if_pos hc] at e
    exact ⟨hc, e⟩
  · rw [if_neg hc] at e
    exact absurd e.symm (nI_m4 hb)
theorem ballI_no {h : Nat → Nat} {L : Nat} (e : ¬ ballI h L = -4) : clN h L = L := by
  by_cases hc : clN h L = L
  · exact hc
  · exact absurd (if_neg hc) e
theorem divL_le {h : Nat → Nat} {L : Nat} (h0 : 0 < L) (hh : ∀ i, i < L → h i ≤ 9) : sumN h L / L ≤ 9 := by
  have hs9 := sumN_le hh
  rw [Nat.div_le_iff_le_mul_add_pred h0]
  rw [Nat.mul_comm] at hs9
  omega
theorem reach_is {h : Nat → Nat} {L s : Nat} (h0 : 0 < L) (hh : ∀ i, i < L → h i ≤ 9) (hs : s < 512) (e : ballI h L = nI (popc s)) : stN h L 0 < 512 ∧ ∃ k, k ≤ 9 ∧ Dst s (stN h L 0) k := by
  have hp := popc_le s
  obtain ⟨hc, e2⟩ := ballI_is (by omega) e
  have hd := divL_le h0 hh
  rw [nI_eq (by omega) (by omega)] at e2
  have hst := stN_lt (L := L) (b := 0) h0 hh
  exact ⟨hst, nine hs hst (by rw [balls_ok h0 hh hc, e2])⟩
section JA
variable {g : GG} {l : Launch} {w : HW} {n o : Nat} {X : XT}
theorem XWB.joi {B : StT} {w' : HW} (h : XWB g w n o X B) (h1 : Jn g w' n (o + 157)) (hF : FrJ w w' (o + 157)) : XWB g w' n o X B ∧ FrX w w' o := by
  obtain ⟨h0, k1, h2, h3, h4, h5, h6, h7, h8, ⟨F, h9⟩, h10⟩ := h
  exact ⟨⟨(hF _ (by omega)).trans h0, k1.frame (fun i _ _ => hF i (by omega)), h2.frame (fun i _ _ => hF i (by omega)), h3.frame (fun i _ _ => hF i (by omega)), h4.frame (fun i _ _ => hF i (by omega)), h1, h6.frame (hF _ (by omega)) (hF _ (by omega)), h7.frame (hF _ (by omega)) (hF _ (by omega)), (hF _ (by omega)).trans h8, ⟨F, (hF _ (by omega)).trans h9⟩, h10⟩, fun i hi => hF i (by omega)⟩
theorem c_hasJoin {N : StT} {G : Nat → Option Nat} {π LL : Nat → Nat} {FF : Nat → Nat → Int32} {b : Int32} {L : Nat} {hh : Nat → Nat} {F : Nat → Int32} {r : Nat} (h0 : w o = eO 7 (xfs g o b)) (hn : o + 167 ≤ n) (hF : SdF g w n (o + 1) N G π LL FF) (hs : sS N < 512) (k4 : RwF g w n r L F) (e3 : Fh F L hh) (e2 : 0 < L) : CtR g l MX7_hasJoin 3 [rf g o, rf g r] w n (.int (if ballI hh L = nI (popc (sS N)) then 1 else 0)) := by
  have hso := hF.1
  have hrow := k4.1
  have hrn := k4.2.2.1
  have hsn := hF.2.2.1
  refine Ct.ofs (M := MX7_hasJoin) (ls := [some _, some _]) (by decide +kernel) (by exact (Nat.le_of_ble_eq_true rfl)) (by rfl) (by rfl) (by rfl) ?_
  refine V_aload_n (q := 1) dX7_hasJoin_0 rfl rfl rfl ?_
  refine CrX7_112 (q := 4) rfl dX7_hasJoin_1 rfl (c_rballs k4 e3 e2) ⟨(Nat.le_of_ble_eq_true rfl), (Nat.le_of_ble_eq_true rfl)⟩ (Nat.le_of_ble_eq_true rfl) (by first | assumption | exact up_eq | exact (up_ne (by omega)).trans (by first | assumption | exact up_eq | exact (up_ne (by omega)).trans (by first | assumption | exact up_eq | exact (up_ne (by omega)).trans (by first | assumption | exact up_eq)))) (by omega) (Nat.zero_le _) (Nat.zero_le _) ?_
  refine V_aload_n (q := 5) dX7_hasJoin_4 rfl rfl rfl ?_
  refine GX7_10 (q := 8) rfl dX7_hasJoin_5 rfl (by first | assumption | exact up_eq | exact (up_ne (by omega)).trans (by first | assumption | exact up_eq | exact (up_ne (by omega)).trans (by first | assumption | exact up_eq | exact (up_ne (by omega)).trans (by first | assumption | exact up_eq)))) (by omega) (by rfl) ?_
  refine CrX7_147 (q := 11) rfl dX7_hasJoin_8 rfl (c_sballs hF hs) ⟨(Nat.le_of_ble_eq_true rfl), (Nat.le_of_ble_eq_true rfl)⟩ (Nat.le_of_ble_eq_true rfl) (by first | assumption | exact up_eq | exact (up_ne (by omega)).trans (by first | assumption | exact up_eq | exact (up_ne (by omega)).trans (by first | assumption | exact up_eq | exact (up_ne (by omega)).trans (by first | assumption | exact up_eq)))) (by omega) (Nat.zero_le _) (Nat.zero_le _) ?_
  refine V_icmp_ne (q := 14) (tgt := 18) dX7_hasJoin_11 (by decide) rfl (fun hq => ?_) (fun hq => ?_)
  · skip
    rw [if_neg hq]
    refine V_iconst (q := 19) (v := nI 0) dX7_hasJoin_18 rfl (by decide) ?_
    exact V_zret dX7_hasJoin_19 rfl (rfl) (Nat.le_of_ble_eq_true rfl) (Nat.le_of_ble_eq_true rfl) (⟨rfl, rfl, rfl⟩)
  · skip
    rw [if_pos hq]
    refine V_iconst (q := 15) (v := nI 1) dX7_hasJoin_14 rfl (by decide) ?_
    refine V_goto (tgt := 19) dX7_hasJoin_15 (by decide) ?_
    exact V_zret dX7_hasJoin_19 rfl (rfl) (Nat.le_of_ble_eq_true rfl) (Nat.le_of_ble_eq_true rfl) (⟨rfl, rfl, rfl⟩)
theorem X_joinTo (h : XW g w n o X) (hK : OkS (xN X)) {x : Int32} : CtI g l MX7_joinTo 4 [rf g o, .int x] w n (XP g w n o (joiA x (xN X), X)) := by
  obtain ⟨B, hX⟩ := h
  have hX0 := hX
  obtain ⟨h0, hS, h2, h3, h4, h5, h6, h7, h8, h9, h10⟩ := hX
  obtain ⟨hso, hsn⟩ := hS.obj
  obtain ⟨T0, Qa0, m0, Hh0, hJ0⟩ := id h5
  have hjo := hJ0.1
  obtain ⟨G, π, LL, FF, hF⟩ := hS
  have hc6 := hF.2.2.2.1
  have hs5 := hK.1
  have hpb := popc_le (sS (xN X))
  rcases i3_lt x (sC (xN X)) (by omega) with hx | ⟨i, hi, rfl⟩
  · rw [show joiA x (xN X) = -1 by unfold joiA; rw [idx_no hx]]
    refine Ct.ofs (M := MX7_joinTo) (ls := [some _, some _, none]) (by decide +kernel) (by exact (Nat.le_of_ble_eq_true rfl)) (by rfl) (by rfl) (by rfl) ?_
    refine V_aload_n (q := 1) dX7_joinTo_0 rfl rfl rfl ?_
    refine GX7_10 (q := 4) rfl dX7_joinTo_1 rfl (by first | assumption | exact up_eq | exact (up_ne (by omega)).trans (by first | assumption | exact up_eq | exact (up_ne (by omega)).trans (by first | assumption | exact up_eq | exact (up_ne (by omega)).trans (by first | assumption | exact up_eq)))) (by omega) (by rfl) ?_
    refine V_iload_n (q := 5) dX7_joinTo_4 rfl rfl ?_
    refine CrX7_98 (q := 8) rfl dX7_joinTo_5 rfl (c_rowNum_out hF hx) ⟨(Nat.le_of_ble_eq_true rfl), (Nat.le_of_ble_eq_true rfl)⟩ (Nat.le_of_ble_eq_true rfl) (by first | assumption | exact up_eq | exact (up_ne (by omega)).trans (by first | assumption | exact up_eq | exact (up_ne (by omega)).trans (by first | assumption | exact up_eq | exact (up_ne (by omega)).trans (by first | assumption | exact up_eq)))) (by omega) (Nat.zero_le _) (Nat.zero_le _) ?_
    refine V_astore_n (q := 9) (ls' := [_, _, _]) dX7_joinTo_8 rfl (by decide) (by rfl) rfl rfl ?_
    refine V_aload_n (q := 10) dX7_joinTo_9 rfl rfl rfl ?_
    refine V_ifnonnullN (q := 13) dX7_joinTo_10 rfl ?_
    refine V_iconst (q := 14) (v := (-1)) dX7_joinTo_13 rfl (by decide) ?_
    exact V_iret dX7_joinTo_14 rfl (Nat.le_of_ble_eq_true rfl) (Nat.le_of_ble_eq_true rfl) (⟨rfl, _, rfl, rfl, ⟨B, hX0⟩, fun _ _ => rfl⟩)
  obtain ⟨k1, k2, k3, k4⟩ := hF.2.2.2.2.1 i (by omega)
  obtain ⟨e1, e2, e3⟩ := hF.2.2.2.2.2.2 i hi
  have hrow := k4.1
  have hL8 := k4.2.2.2
  rw [e1] at k4 e3 e2 hL8 hrow
  rw [show joiA (nI i) (xN X) = if ballI (sR (xN X) i).2 (sR (xN X) i).1 = nI (popc (sS (xN X))) then nI (dstN (sS (xN X)) (stN (sR (xN X) i).2 (sR (xN X) i).1 0)) else -4 by unfold joiA; rw [idx_yes hi (by omega)]]
  refine Ct.ofs (M := MX7_joinTo) (ls := [some _, some _, none]) (by decide +kernel) (by exact (Nat.le_of_ble_eq_true rfl)) (by rfl) (by rfl) (by rfl) ?_
  refine V_aload_n (q := 1) dX7_joinTo_0 rfl rfl rfl ?_
  refine GX7_10 (q := 4) rfl dX7_joinTo_1 rfl (by first | assumption | exact up_eq | exact (up_ne (by omega)).trans (by first | assumption | exact up_eq | exact (up_ne (by omega)).trans (by first | assumption | exact up_eq | exact (up_ne (by omega)).trans (by first | assumption | exact up_eq)))) (by omega) (by rfl) ?_
  refine V_iload_n (q := 5) dX7_joinTo_4 rfl rfl ?_
  refine CrX7_98 (q := 8) rfl dX7_joinTo_5 rfl (c_rowNum_in hF hi) ⟨(Nat.le_of_ble_eq_true rfl), (Nat.le_of_ble_eq_true rfl)⟩ (Nat.le_of_ble_eq_true rfl) (by first | assumption | exact up_eq | exact (up_ne (by omega)).trans (by first | assumption | exact up_eq | exact (up_ne (by omega)).trans (by first | assumption | exact up_eq | exact (up_ne (by omega)).trans (by first | assumption | exact up_eq)))) (by omega) (Nat.zero_le _) (Nat.zero_le _) ?_
  refine V_astore_n (q := 9) (ls' := [_, _, _]) dX7_joinTo_8 rfl (by decide) (by rfl) rfl rfl ?_
  refine V_aload_n (q := 10) dX7_joinTo_9 rfl rfl rfl ?_
  refine V_ifnonnull (tgt := 15) dX7_joinTo_10 (by decide) ?_
  refine V_aload_n (q := 16) dX7_joinTo_15 rfl rfl rfl ?_
  refine V_aload_n (q := 17) dX7_joinTo_16 rfl rfl rfl ?_
  refine CrX7_158 (q := 20) rfl dX7_joinTo_17 rfl (c_hasJoin h0 h10 hF hK.1 k4 e3 e2) ⟨(Nat.le_of_ble_eq_true rfl), (Nat.le_of_ble_eq_true rfl)⟩ (Nat.le_of_ble_eq_true rfl) (by first | assumption | exact up_eq | exact (up_ne (by omega)).trans (by first | assumption | exact up_eq | exact (up_ne (by omega)).trans (by first | assumption | exact up_eq | exact (up_ne (by omega)).trans (by first | assumption | exact up_eq)))) (by omega) (Nat.zero_le _) (Nat.zero_le _) ?_
  by_cases hj : ballI (sR (xN X) i).2 (sR (xN X) i).1 = nI (popc (sS (xN X)))
  · skip
    refine V_topi (if_pos hj) ?_
    rw [if_pos hj]
    obtain ⟨hst, k, hk9, hk⟩ := reach_is e2 (fun j hj => (e3 j hj).2) hK.1 hj
    rw [dstN_is hk]
    refine V_if_eq (q := 23) (tgt := 45) dX7_joinTo_20 (by decide) rfl (fun h9 => absurd h9 (by decide)) (fun _ => ?_)
    refine V_aload_n (q := 24) dX7_joinTo_23 rfl rfl rfl ?_
    refine GX7_32 (q := 27) rfl dX7_joinTo_24 rfl (by first | assumption | exact up_eq | exact (up_ne (by omega)).trans (by first | assumption | exact up_eq | exact (up_ne (by omega)).trans (by first | assumption | exact up_eq | exact (up_ne (by omega)).trans (by first | assumption | exact up_eq)))) (by omega) (by rfl) ?_
    refine V_aload_n (q := 28) dX7_joinTo_27 rfl rfl rfl ?_
    refine GX7_10 (q := 31) rfl dX7_joinTo_28 rfl (by first | assumption | exact up_eq | exact (up_ne (by omega)).trans (by first | assumption | exact up_eq | exact (up_ne (by omega)).trans (by first | assumption | exact up_eq | exact (up_ne (by omega)).trans (by first | assumption | exact up_eq)))) (by omega) (by rfl) ?_
    refine GX7_144 (q := 34) rfl dX7_joinTo_31 rfl (by first | assumption | exact up_eq | exact (up_ne (by omega)).trans (by first | assumption | exact up_eq | exact (up_ne (by omega)).trans (by first | assumption | exact up_eq | exact (up_ne (by omega)).trans (by first | assumption | exact up_eq)))) (by omega) (by rfl) ?_
    refine V_aload_n (q := 35) dX7_joinTo_34 rfl rfl rfl ?_
    refine V_iconst (q := 36) (v := nI 0) dX7_joinTo_35 rfl (by decide) ?_
    refine CrX7_141 (q := 39) rfl dX7_joinTo_36 rfl (c_stateAt k4 e3 e2 e2) ⟨(Nat.le_of_ble_eq_true rfl), (Nat.le_of_ble_eq_true rfl)⟩ (Nat.le_of_ble_eq_true rfl) (by first | assumption | exact up_eq | exact (up_ne (by omega)).trans (by first | assumption | exact up_eq | exact (up_ne (by omega)).trans (by first | assumption | exact up_eq | exact (up_ne (by omega)).trans (by first | assumption | exact up_eq)))) (by omega) (Nat.zero_le _) (Nat.zero_le _) ?_
    skip
    refine CiX7_162 (q := 42) rfl dX7_joinTo_39 rfl (c_countOnward h5 hK.1 hst hk) ⟨(Nat.le_of_ble_eq_true rfl), (Nat.le_of_ble_eq_true rfl)⟩ (Nat.le_of_ble_eq_true rfl) (by first | assumption | exact up_eq | exact (up_ne (by omega)).trans (by first | assumption | exact up_eq | exact (up_ne (by omega)).trans (by first | assumption | exact up_eq | exact (up_ne (by omega)).trans (by first | assumption | exact up_eq)))) (by omega) (Nat.zero_le _) (Nat.zero_le _) (fun u w1 hw1 => ?_)
    obtain ⟨rfl, hJ1, hF1⟩ := hw1
    refine V_goto (tgt := 47) dX7_joinTo_42 (by decide) ?_
    exact V_iret dX7_joinTo_47 rfl (Nat.le_of_ble_eq_true rfl) (Nat.le_of_ble_eq_true rfl) (⟨rfl, _, rfl, rfl, ⟨B, (hX0.joi hJ1 hF1).1⟩, (hX0.joi hJ1 hF1).2⟩)
  · skip
    refine V_topi (if_neg hj) ?_
    rw [if_neg hj]
    refine V_if_eq (q := 23) (tgt := 45) dX7_joinTo_20 (by decide) rfl (fun _ => ?_) (fun h9 => absurd rfl h9)
    refine V_bipush (q := 47) (v := (-4)) dX7_joinTo_45 rfl (by decide) ?_
    exact V_iret dX7_joinTo_47 rfl (Nat.le_of_ble_eq_true rfl) (Nat.le_of_ble_eq_true rfl) (⟨rfl, _, rfl, rfl, ⟨B, hX0⟩, fun _ _ => rfl⟩)
theorem X_joinAgain (h : XW g w n o X) (hK : OkS (xN X)) {x : Int32} : CtI g l MX7_joinAgain 4 [rf g o, .int x] w n (XP g w n o (joiA x (xN X), X)) := by
  obtain ⟨B, hX⟩ := h
  have hX0 := hX
  obtain ⟨h0, hS, h2, h3, h4, h5, h6, h7, h8, h9, h10⟩ := hX
  obtain ⟨hso, hsn⟩ := hS.obj
  obtain ⟨T0, Qa0, m0, Hh0, hJ0⟩ := id h5
  have hjo := hJ0.1
  obtain ⟨G, π, LL, FF, hF⟩ := hS
  have hc6 := hF.2.2.2.1
  have hs5 := hK.1
  have hpb := popc_le (sS (xN X))
  rcases i3_lt x (sC (xN X)) (by omega) with hx | ⟨i, hi, rfl⟩
  · rw [show joiA x (xN X) = -1 by unfold joiA; rw [idx_no hx]]
    refine Ct.ofs (M := MX7_joinAgain) (ls := [some _, some _, none]) (by decide +kernel) (by exact (Nat.le_of_ble_eq_true rfl)) (by rfl) (by rfl) (by rfl) ?_
    refine V_aload_n (q := 1) dX7_joinAgain_0 rfl rfl rfl ?_
    refine GX7_10 (q := 4) rfl dX7_joinAgain_1 rfl (by first | assumption | exact up_eq | exact (up_ne (by omega)).trans (by first | assumption | exact up_eq | exact (up_ne (by omega)).trans (by first | assumption | exact up_eq | exact (up_ne (by omega)).trans (by first | assumption | exact up_eq)))) (by omega) (by rfl) ?_
    refine V_iload_n (q := 5) dX7_joinAgain_4 rfl rfl ?_
    refine CrX7_98 (q := 8) rfl dX7_joinAgain_5 rfl (c_rowNum_out hF hx) ⟨(Nat.le_of_ble_eq_true rfl), (Nat.le_of_ble_eq_true rfl)⟩ (Nat.le_of_ble_eq_true rfl) (by first | assumption | exact up_eq | exact (up_ne (by omega)).trans (by first | assumption | exact up_eq | exact (up_ne (by omega)).trans (by first | assumption | exact up_eq | exact (up_ne (by omega)).trans (by first | assumption | exact up_eq)))) (by omega) (Nat.zero_le _) (Nat.zero_le _) ?_
    refine V_astore_n (q := 9) (ls' := [_, _, _]) dX7_joinAgain_8 rfl (by decide) (by rfl) rfl rfl ?_
    refine V_aload_n (q := 10) dX7_joinAgain_9 rfl rfl rfl ?_
    refine V_ifnonnullN (q := 13) dX7_joinAgain_10 rfl ?_
    refine V_iconst (q := 14) (v := (-1)) dX7_joinAgain_13 rfl (by decide) ?_
    exact V_iret dX7_joinAgain_14 rfl (Nat.le_of_ble_eq_true rfl) (Nat.le_of_ble_eq_true rfl) (⟨rfl, _, rfl, rfl, ⟨B, hX0⟩, fun _ _ => rfl⟩)
  obtain ⟨k1, k2, k3, k4⟩ := hF.2.2.2.2.1 i (by omega)
  obtain ⟨e1, e2, e3⟩ := hF.2.2.2.2.2.2 i hi
  have hrow := k4.1
  have hL8 := k4.2.2.2
  rw [e1] at k4 e3 e2 hL8 hrow
  rw [show joiA (nI i) (xN X) = if ballI (sR (xN X) i).2 (sR (xN X) i).1 = nI (popc (sS (xN X))) then nI (dstN (sS (xN X)) (stN (sR (xN X) i).2 (sR (xN X) i).1 0)) else -4 by unfold joiA; rw [idx_yes hi (by omega)]]
  refine Ct.ofs (M := MX7_joinAgain) (ls := [some _, some _, none]) (by decide +kernel) (by exact (Nat.le_of_ble_eq_true rfl)) (by rfl) (by rfl) (by rfl) ?_
  refine V_aload_n (q := 1) dX7_joinAgain_0 rfl rfl rfl ?_
  refine GX7_10 (q := 4) rfl dX7_joinAgain_1 rfl (by first | assumption | exact up_eq | exact (up_ne (by omega)).trans (by first | assumption | exact up_eq | exact (up_ne (by omega)).trans (by first | assumption | exact up_eq | exact (up_ne (by omega)).trans (by first | assumption | exact up_eq)))) (by omega) (by rfl) ?_
  refine V_iload_n (q := 5) dX7_joinAgain_4 rfl rfl ?_
  refine CrX7_98 (q := 8) rfl dX7_joinAgain_5 rfl (c_rowNum_in hF hi) ⟨(Nat.le_of_ble_eq_true rfl), (Nat.le_of_ble_eq_true rfl)⟩ (Nat.le_of_ble_eq_true rfl) (by first | assumption | exact up_eq | exact (up_ne (by omega)).trans (by first | assumption | exact up_eq | exact (up_ne (by omega)).trans (by first | assumption | exact up_eq | exact (up_ne (by omega)).trans (by first | assumption | exact up_eq)))) (by omega) (Nat.zero_le _) (Nat.zero_le _) ?_
  refine V_astore_n (q := 9) (ls' := [_, _, _]) dX7_joinAgain_8 rfl (by decide) (by rfl) rfl rfl ?_
  refine V_aload_n (q := 10) dX7_joinAgain_9 rfl rfl rfl ?_
  refine V_ifnonnull (tgt := 15) dX7_joinAgain_10 (by decide) ?_
  refine V_aload_n (q := 16) dX7_joinAgain_15 rfl rfl rfl ?_
  refine V_aload_n (q := 17) dX7_joinAgain_16 rfl rfl rfl ?_
  refine CrX7_158 (q := 20) rfl dX7_joinAgain_17 rfl (c_hasJoin h0 h10 hF hK.1 k4 e3 e2) ⟨(Nat.le_of_ble_eq_true rfl), (Nat.le_of_ble_eq_true rfl)⟩ (Nat.le_of_ble_eq_true rfl) (by first | assumption | exact up_eq | exact (up_ne (by omega)).trans (by first | assumption | exact up_eq | exact (up_ne (by omega)).trans (by first | assumption | exact up_eq | exact (up_ne (by omega)).trans (by first | assumption | exact up_eq)))) (by omega) (Nat.zero_le _) (Nat.zero_le _) ?_
  by_cases hj : ballI (sR (xN X) i).2 (sR (xN X) i).1 = nI (popc (sS (xN X)))
  · skip
    refine V_topi (if_pos hj) ?_
    rw [if_pos hj]
    obtain ⟨hst, k, hk9, hk⟩ := reach_is e2 (fun j hj => (e3 j hj).2) hK.1 hj
    rw [dstN_is hk]
    refine V_if_eq (q := 23) (tgt := 45) dX7_joinAgain_20 (by decide) rfl (fun h9 => absurd h9 (by decide)) (fun _ => ?_)
    refine V_aload_n (q := 24) dX7_joinAgain_23 rfl rfl rfl ?_
    refine GX7_32 (q := 27) rfl dX7_joinAgain_24 rfl (by first | assumption | exact up_eq | exact (up_ne (by omega)).trans (by first | assumption | exact up_eq | exact (up_ne (by omega)).trans (by first | assumption | exact up_eq | exact (up_ne (by omega)).trans (by first | assumption | exact up_eq)))) (by omega) (by rfl) ?_
    refine V_aload_n (q := 28) dX7_joinAgain_27 rfl rfl rfl ?_
    refine GX7_10 (q := 31) rfl dX7_joinAgain_28 rfl (by first | assumption | exact up_eq | exact (up_ne (by omega)).trans (by first | assumption | exact up_eq | exact (up_ne (by omega)).trans (by first | assumption | exact up_eq | exact (up_ne (by omega)).trans (by first | assumption | exact up_eq)))) (by omega) (by rfl) ?_
    refine GX7_144 (q := 34) rfl dX7_joinAgain_31 rfl (by first | assumption | exact up_eq | exact (up_ne (by omega)).trans (by first | assumption | exact up_eq | exact (up_ne (by omega)).trans (by first | assumption | exact up_eq | exact (up_ne (by omega)).trans (by first | assumption | exact up_eq)))) (by omega) (by rfl) ?_
    refine V_aload_n (q := 35) dX7_joinAgain_34 rfl rfl rfl ?_
    refine V_iconst (q := 36) (v := nI 0) dX7_joinAgain_35 rfl (by decide) ?_
    refine CrX7_141 (q := 39) rfl dX7_joinAgain_36 rfl (c_stateAt k4 e3 e2 e2) ⟨(Nat.le_of_ble_eq_true rfl), (Nat.le_of_ble_eq_true rfl)⟩ (Nat.le_of_ble_eq_true rfl) (by first | assumption | exact up_eq | exact (up_ne (by omega)).trans (by first | assumption | exact up_eq | exact (up_ne (by omega)).trans (by first | assumption | exact up_eq | exact (up_ne (by omega)).trans (by first | assumption | exact up_eq)))) (by omega) (Nat.zero_le _) (Nat.zero_le _) ?_
    skip
    refine CiX7_165 (q := 42) rfl dX7_joinAgain_39 rfl (c_countBack h5 hK.1 hst hk) ⟨(Nat.le_of_ble_eq_true rfl), (Nat.le_of_ble_eq_true rfl)⟩ (Nat.le_of_ble_eq_true rfl) (by first | assumption | exact up_eq | exact (up_ne (by omega)).trans (by first | assumption | exact up_eq | exact (up_ne (by omega)).trans (by first | assumption | exact up_eq | exact (up_ne (by omega)).trans (by first | assumption | exact up_eq)))) (by omega) (Nat.zero_le _) (Nat.zero_le _) (fun u w1 hw1 => ?_)
    obtain ⟨rfl, hJ1, hF1⟩ := hw1
    refine V_goto (tgt := 47) dX7_joinAgain_42 (by decide) ?_
    exact V_iret dX7_joinAgain_47 rfl (Nat.le_of_ble_eq_true rfl) (Nat.le_of_ble_eq_true rfl) (⟨rfl, _, rfl, rfl, ⟨B, (hX0.joi (by obtain ⟨T, Qa, m, Hh, q, -⟩ := hJ1; exact ⟨T, Qa, m, Hh, q⟩) hF1).1⟩, (hX0.joi (by obtain ⟨T, Qa, m, Hh, q, -⟩ := hJ1; exact ⟨T, Qa, m, Hh, q⟩) hF1).2⟩)
  · skip
    refine V_topi (if_neg hj) ?_
    rw [if_neg hj]
    refine V_if_eq (q := 23) (tgt := 45) dX7_joinAgain_20 (by decide) rfl (fun _ => ?_) (fun h9 => absurd rfl h9)
    refine V_bipush (q := 47) (v := (-4)) dX7_joinAgain_45 rfl (by decide) ?_
    exact V_iret dX7_joinAgain_47 rfl (Nat.le_of_ble_eq_true rfl) (Nat.le_of_ble_eq_true rfl) (⟨rfl, _, rfl, rfl, ⟨B, hX0⟩, fun _ _ => rfl⟩)
theorem X_joinThrow (h : XW g w n o X) (hK : OkS (xN X)) {x y : Int32} : CtI g l MX7_joinThrow 4 [rf g o, .int x, .int y] w n (XP g w n o (jthA x y (xN X), X)) := by
  obtain ⟨B, hX⟩ := h
  have hX0 := hX
  obtain ⟨h0, hS, h2, h3, h4, h5, h6, h7, h8, h9, h10⟩ := hX
  obtain ⟨hso, hsn⟩ := hS.obj
  obtain ⟨T0, Qa0, m0, Hh0, hJ0⟩ := id h5
  have hjo := hJ0.1
  obtain ⟨G, π, LL, FF, hF⟩ := hS
  have hc6 := hF.2.2.2.1
  have hs5 := hK.1
  have hpb := popc_le (sS (xN X))
  rcases i3_lt x (sC (xN X)) (by omega) with hx | ⟨i, hi, rfl⟩
  · rw [show jthA x y (xN X) = -1 by unfold jthA; rw [idx_no hx]]
    refine Ct.ofs (M := MX7_joinThrow) (ls := [some _, some _, some _, none, none]) (by decide +kernel) (by exact (Nat.le_of_ble_eq_true rfl)) (by rfl) (by rfl) (by rfl) ?_
    refine V_aload_n (q := 1) dX7_joinThrow_0 rfl rfl rfl ?_
    refine GX7_10 (q := 4) rfl dX7_joinThrow_1 rfl (by first | assumption | exact up_eq | exact (up_ne (by omega)).trans (by first | assumption | exact up_eq | exact (up_ne (by omega)).trans (by first | assumption | exact up_eq | exact (up_ne (by omega)).trans (by first | assumption | exact up_eq)))) (by omega) (by rfl) ?_
    refine V_iload_n (q := 5) dX7_joinThrow_4 rfl rfl ?_
    refine CrX7_98 (q := 8) rfl dX7_joinThrow_5 rfl (c_rowNum_out hF hx) ⟨(Nat.le_of_ble_eq_true rfl), (Nat.le_of_ble_eq_true rfl)⟩ (Nat.le_of_ble_eq_true rfl) (by first | assumption | exact up_eq | exact (up_ne (by omega)).trans (by first | assumption | exact up_eq | exact (up_ne (by omega)).trans (by first | assumption | exact up_eq | exact (up_ne (by omega)).trans (by first | assumption | exact up_eq)))) (by omega) (Nat.zero_le _) (Nat.zero_le _) ?_
    refine V_astore_n (q := 9) (ls' := [_, _, _, _, _]) dX7_joinThrow_8 rfl (by decide) (by rfl) rfl rfl ?_
    refine V_aload_n (q := 10) dX7_joinThrow_9 rfl rfl rfl ?_
    refine V_ifnonnullN (q := 13) dX7_joinThrow_10 rfl ?_
    refine V_iconst (q := 14) (v := (-1)) dX7_joinThrow_13 rfl (by decide) ?_
    exact V_iret dX7_joinThrow_14 rfl (Nat.le_of_ble_eq_true rfl) (Nat.le_of_ble_eq_true rfl) (⟨rfl, _, rfl, rfl, ⟨B, hX0⟩, fun _ _ => rfl⟩)
  obtain ⟨k1, k2, k3, k4⟩ := hF.2.2.2.2.1 i (by omega)
  obtain ⟨e1, e2, e3⟩ := hF.2.2.2.2.2.2 i hi
  have hrow := k4.1
  have hL8 := k4.2.2.2
  rw [e1] at k4 e3 e2 hL8 hrow
  rw [show jthA (nI i) y (xN X) = if ballI (sR (xN X) i).2 (sR (xN X) i).1 = nI (popc (sS (xN X))) then (match idx y (dstN (sS (xN X)) (stN (sR (xN X) i).2 (sR (xN X) i).1 0)) with | none => -1 | some k => nI (digN (codN (sS (xN X)) (stN (sR (xN X) i).2 (sR (xN X) i).1 0)) (dstN (sS (xN X)) (stN (sR (xN X) i).2 (sR (xN X) i).1 0)) k)) else -4 by unfold jthA; rw [idx_yes hi (by omega)]]
  refine Ct.ofs (M := MX7_joinThrow) (ls := [some _, some _, some _, none, none]) (by decide +kernel) (by exact (Nat.le_of_ble_eq_true rfl)) (by rfl) (by rfl) (by rfl) ?_
  refine V_aload_n (q := 1) dX7_joinThrow_0 rfl rfl rfl ?_
  refine GX7_10 (q := 4) rfl dX7_joinThrow_1 rfl (by first | assumption | exact up_eq | exact (up_ne (by omega)).trans (by first | assumption | exact up_eq | exact (up_ne (by omega)).trans (by first | assumption | exact up_eq | exact (up_ne (by omega)).trans (by first | assumption | exact up_eq)))) (by omega) (by rfl) ?_
  refine V_iload_n (q := 5) dX7_joinThrow_4 rfl rfl ?_
  refine CrX7_98 (q := 8) rfl dX7_joinThrow_5 rfl (c_rowNum_in hF hi) ⟨(Nat.le_of_ble_eq_true rfl), (Nat.le_of_ble_eq_true rfl)⟩ (Nat.le_of_ble_eq_true rfl) (by first | assumption | exact up_eq | exact (up_ne (by omega)).trans (by first | assumption | exact up_eq | exact (up_ne (by omega)).trans (by first | assumption | exact up_eq | exact (up_ne (by omega)).trans (by first | assumption | exact up_eq)))) (by omega) (Nat.zero_le _) (Nat.zero_le _) ?_
  refine V_astore_n (q := 9) (ls' := [_, _, _, _, _]) dX7_joinThrow_8 rfl (by decide) (by rfl) rfl rfl ?_
  refine V_aload_n (q := 10) dX7_joinThrow_9 rfl rfl rfl ?_
  refine V_ifnonnull (tgt := 15) dX7_joinThrow_10 (by decide) ?_
  refine V_aload_n (q := 16) dX7_joinThrow_15 rfl rfl rfl ?_
  refine V_aload_n (q := 17) dX7_joinThrow_16 rfl rfl rfl ?_
  refine CrX7_158 (q := 20) rfl dX7_joinThrow_17 rfl (c_hasJoin h0 h10 hF hK.1 k4 e3 e2) ⟨(Nat.le_of_ble_eq_true rfl), (Nat.le_of_ble_eq_true rfl)⟩ (Nat.le_of_ble_eq_true rfl) (by first | assumption | exact up_eq | exact (up_ne (by omega)).trans (by first | assumption | exact up_eq | exact (up_ne (by omega)).trans (by first | assumption | exact up_eq | exact (up_ne (by omega)).trans (by first | assumption | exact up_eq)))) (by omega) (Nat.zero_le _) (Nat.zero_le _) ?_
  by_cases hj : ballI (sR (xN X) i).2 (sR (xN X) i).1 = nI (popc (sS (xN X)))
  · skip
    refine V_topi (if_pos hj) ?_
    rw [if_pos hj]
    obtain ⟨hst, k, hk9, hk⟩ := reach_is e2 (fun j hj => (e3 j hj).2) hK.1 hj
    rw [dstN_is hk]
    refine V_if_ne (q := 23) (tgt := 26) dX7_joinThrow_20 (by decide) rfl (fun _ => ?_) (fun h9 => absurd h9 (by decide))
    refine V_aload_n (q := 27) dX7_joinThrow_26 rfl rfl rfl ?_
    refine GX7_32 (q := 30) rfl dX7_joinThrow_27 rfl (by first | assumption | exact up_eq | exact (up_ne (by omega)).trans (by first | assumption | exact up_eq | exact (up_ne (by omega)).trans (by first | assumption | exact up_eq | exact (up_ne (by omega)).trans (by first | assumption | exact up_eq)))) (by omega) (by rfl) ?_
    refine V_aload_n (q := 31) dX7_joinThrow_30 rfl rfl rfl ?_
    refine GX7_10 (q := 34) rfl dX7_joinThrow_31 rfl (by first | assumption | exact up_eq | exact (up_ne (by omega)).trans (by first | assumption | exact up_eq | exact (up_ne (by omega)).trans (by first | assumption | exact up_eq | exact (up_ne (by omega)).trans (by first | assumption | exact up_eq)))) (by omega) (by rfl) ?_
    refine GX7_144 (q := 37) rfl dX7_joinThrow_34 rfl (by first | assumption | exact up_eq | exact (up_ne (by omega)).trans (by first | assumption | exact up_eq | exact (up_ne (by omega)).trans (by first | assumption | exact up_eq | exact (up_ne (by omega)).trans (by first | assumption | exact up_eq)))) (by omega) (by rfl) ?_
    refine V_aload_n (q := 38) dX7_joinThrow_37 rfl rfl rfl ?_
    refine V_iconst (q := 39) (v := nI 0) dX7_joinThrow_38 rfl (by decide) ?_
    refine CrX7_141 (q := 42) rfl dX7_joinThrow_39 rfl (c_stateAt k4 e3 e2 e2) ⟨(Nat.le_of_ble_eq_true rfl), (Nat.le_of_ble_eq_true rfl)⟩ (Nat.le_of_ble_eq_true rfl) (by first | assumption | exact up_eq | exact (up_ne (by omega)).trans (by first | assumption | exact up_eq | exact (up_ne (by omega)).trans (by first | assumption | exact up_eq | exact (up_ne (by omega)).trans (by first | assumption | exact up_eq)))) (by omega) (Nat.zero_le _) (Nat.zero_le _) ?_
    skip
    refine CiX7_168 (q := 45) rfl dX7_joinThrow_42 rfl (c_find h5 hK.1 hst hk hk9) ⟨(Nat.le_of_ble_eq_true rfl), (Nat.le_of_ble_eq_true rfl)⟩ (Nat.le_of_ble_eq_true rfl) (by first | assumption | exact up_eq | exact (up_ne (by omega)).trans (by first | assumption | exact up_eq | exact (up_ne (by omega)).trans (by first | assumption | exact up_eq | exact (up_ne (by omega)).trans (by first | assumption | exact up_eq)))) (by omega) (Nat.zero_le _) (Nat.zero_le _) (fun u w1 hw1 => ?_)
    obtain ⟨rfl, ⟨c, hlow, hJ1⟩, hF1⟩ := hw1
    rw [codN_is hk hlow]
    have hfin := hX0.joi hJ1.jn hF1
    have b0 := hfin.1.1
    obtain ⟨T, Qa, m, Hh, hJ2, hdig⟩ := hJ1
    have hjo1 := hJ2.1
    refine V_istore (q := 47) (ls' := [_, _, _, _, _]) dX7_joinThrow_45 rfl (by decide) (by rfl) rfl ?_
    refine V_iload_n (q := 48) dX7_joinThrow_47 rfl rfl ?_
    rcases i3_lt y k (by omega) with hy | ⟨q, hq, rfl⟩
    · rw [idx_no hy]
      refine V_if_lt (q := 51) (tgt := 68) dX7_joinThrow_48 (by decide) rfl (fun hc => ?_) (fun hc => ?_)
      · skip
        refine V_iconst (q := 69) (v := (-1)) dX7_joinThrow_68 rfl (by decide) ?_
        exact V_iret dX7_joinThrow_69 rfl (Nat.le_of_ble_eq_true rfl) (Nat.le_of_ble_eq_true rfl) (⟨rfl, _, rfl, rfl, ⟨B, hfin.1⟩, hfin.2⟩)
      · skip
        refine V_iload_n (q := 52) dX7_joinThrow_51 rfl rfl ?_
        refine V_iload (q := 54) dX7_joinThrow_52 rfl rfl ?_
        refine V_icmp_ge (q := 57) (tgt := 68) dX7_joinThrow_54 (by decide) rfl (fun _ => ?_) (fun h9 => absurd (hy.resolve_left hc) h9)
        refine V_iconst (q := 69) (v := (-1)) dX7_joinThrow_68 rfl (by decide) ?_
        exact V_iret dX7_joinThrow_69 rfl (Nat.le_of_ble_eq_true rfl) (Nat.le_of_ble_eq_true rfl) (⟨rfl, _, rfl, rfl, ⟨B, hfin.1⟩, hfin.2⟩)
    · rw [idx_yes hq (by omega)]
      refine V_ifN_lt (q := 51) (tgt := 68) dX7_joinThrow_48 (by decide) rfl (by omega) (fun h9 => by first | exact h9.elim | exact absurd h9 (by assumption) | (exfalso; omega)) (fun _ => ?_)
      refine V_iload_n (q := 52) dX7_joinThrow_51 rfl rfl ?_
      refine V_iload (q := 54) dX7_joinThrow_52 rfl rfl ?_
      refine V_icmpN_ge (q := 57) (tgt := 68) dX7_joinThrow_54 (by decide) rfl (by omega) (by omega) (fun h9 => by first | exact h9.elim | exact absurd h9 (by assumption) | (exfalso; omega)) (fun _ => ?_)
      refine V_aload_n (q := 58) dX7_joinThrow_57 rfl rfl rfl ?_
      refine GX7_32 (q := 61) rfl dX7_joinThrow_58 rfl (by first | assumption | exact up_eq | exact (up_ne (by omega)).trans (by first | assumption | exact up_eq | exact (up_ne (by omega)).trans (by first | assumption | exact up_eq | exact (up_ne (by omega)).trans (by first | assumption | exact up_eq)))) (by omega) (by rfl) ?_
      refine V_iload_n (q := 62) dX7_joinThrow_61 rfl rfl ?_
      refine CrX7_171 (q := 65) rfl dX7_joinThrow_62 rfl (c_jheightAt hJ2 (i := q) (by omega)) ⟨(Nat.le_of_ble_eq_true rfl), (Nat.le_of_ble_eq_true rfl)⟩ (Nat.le_of_ble_eq_true rfl) (by first | assumption | exact up_eq | exact (up_ne (by omega)).trans (by first | assumption | exact up_eq | exact (up_ne (by omega)).trans (by first | assumption | exact up_eq | exact (up_ne (by omega)).trans (by first | assumption | exact up_eq)))) (by omega) (Nat.zero_le _) (Nat.zero_le _) ?_
      refine V_topi (hdig q hq) ?_
      refine V_goto (tgt := 69) dX7_joinThrow_65 (by decide) ?_
      exact V_iret dX7_joinThrow_69 rfl (Nat.le_of_ble_eq_true rfl) (Nat.le_of_ble_eq_true rfl) (⟨rfl, _, rfl, rfl, ⟨B, hfin.1⟩, hfin.2⟩)
  · skip
    refine V_topi (if_neg hj) ?_
    rw [if_neg hj]
    refine V_if_ne (q := 23) (tgt := 26) dX7_joinThrow_20 (by decide) rfl (fun h9 => absurd rfl h9) (fun _ => ?_)
    refine V_bipush (q := 25) (v := (-4)) dX7_joinThrow_23 rfl (by decide) ?_
    exact V_iret dX7_joinThrow_25 rfl (Nat.le_of_ble_eq_true rfl) (Nat.le_of_ble_eq_true rfl) (⟨rfl, _, rfl, rfl, ⟨B, hX0⟩, fun _ _ => rfl⟩)
theorem X_between (h : XW g w n o X) {x y : Int32} : CtI g l MX7_between 3 [rf g o, .int x, .int y] w n (XP g w n o (betA x y (xN X), X)) := by
  obtain ⟨B, hX⟩ := h
  have hX0 := hX
  obtain ⟨h0, hS, h2, h3, h4, h5, h6, h7, h8, h9, h10⟩ := hX
  obtain ⟨hso, hsn⟩ := hS.obj
  obtain ⟨T0, Qa0, m0, Hh0, hJ0⟩ := id h5
  have hjo := hJ0.1
  obtain ⟨G, π, LL, FF, hF⟩ := hS
  have hc6 := hF.2.2.2.1
  rcases i3_lt x (sC (xN X)) (by omega) with hx | ⟨i, hi, rfl⟩
  · rw [show betA x y (xN X) = -1 by unfold betA; rw [idx_no hx]]
    refine Ct.ofs (M := MX7_between) (ls := [some _, some _, some _, none, none, none]) (by decide +kernel) (by exact (Nat.le_of_ble_eq_true rfl)) (by rfl) (by rfl) (by rfl) ?_
    refine V_aload_n (q := 1) dX7_between_0 rfl rfl rfl ?_
    refine GX7_10 (q := 4) rfl dX7_between_1 rfl (by first | assumption | exact up_eq | exact (up_ne (by omega)).trans (by first | assumption | exact up_eq | exact (up_ne (by omega)).trans (by first | assumption | exact up_eq | exact (up_ne (by omega)).trans (by first | assumption | exact up_eq)))) (by omega) (by rfl) ?_
    refine V_iload_n (q := 5) dX7_between_4 rfl rfl ?_
    refine CrX7_98 (q := 8) rfl dX7_between_5 rfl (c_rowNum_out hF hx) ⟨(Nat.le_of_ble_eq_true rfl), (Nat.le_of_ble_eq_true rfl)⟩ (Nat.le_of_ble_eq_true rfl) (by first | assumption | exact up_eq | exact (up_ne (by omega)).trans (by first | assumption | exact up_eq | exact (up_ne (by omega)).trans (by first | assumption | exact up_eq | exact (up_ne (by omega)).trans (by first | assumption | exact up_eq)))) (by omega) (Nat.zero_le _) (Nat.zero_le _) ?_
    rcases i3_lt y (sC (xN X)) (by omega) with hy | ⟨j, hj, rfl⟩
    · skip
      refine V_astore_n (q := 9) (ls' := [_, _, _, _, _, _]) dX7_between_8 rfl (by decide) (by rfl) rfl rfl ?_
      refine V_aload_n (q := 10) dX7_between_9 rfl rfl rfl ?_
      refine GX7_10 (q := 13) rfl dX7_between_10 rfl (by first | assumption | exact up_eq | exact (up_ne (by omega)).trans (by first | assumption | exact up_eq | exact (up_ne (by omega)).trans (by first | assumption | exact up_eq | exact (up_ne (by omega)).trans (by first | assumption | exact up_eq)))) (by omega) (by rfl) ?_
      refine V_iload_n (q := 14) dX7_between_13 rfl rfl ?_
      refine CrX7_98 (q := 17) rfl dX7_between_14 rfl (c_rowNum_out hF hy) ⟨(Nat.le_of_ble_eq_true rfl), (Nat.le_of_ble_eq_true rfl)⟩ (Nat.le_of_ble_eq_true rfl) (by first | assumption | exact up_eq | exact (up_ne (by omega)).trans (by first | assumption | exact up_eq | exact (up_ne (by omega)).trans (by first | assumption | exact up_eq | exact (up_ne (by omega)).trans (by first | assumption | exact up_eq)))) (by omega) (Nat.zero_le _) (Nat.zero_le _) ?_
      refine V_astore (q := 19) (ls' := [_, _, _, _, _, _]) dX7_between_17 rfl (by decide) (by rfl) rfl rfl ?_
      refine V_aload_n (q := 20) dX7_between_19 rfl rfl rfl ?_
      refine V_ifnullN (tgt := 28) dX7_between_20 (by decide) ?_
      refine V_iconst (q := 29) (v := (-1)) dX7_between_28 rfl (by decide) ?_
      exact V_iret dX7_between_29 rfl (Nat.le_of_ble_eq_true rfl) (Nat.le_of_ble_eq_true rfl) (⟨rfl, _, rfl, rfl, ⟨B, hX0⟩, fun _ _ => rfl⟩)
    · skip
      refine V_astore_n (q := 9) (ls' := [_, _, _, _, _, _]) dX7_between_8 rfl (by decide) (by rfl) rfl rfl ?_
      refine V_aload_n (q := 10) dX7_between_9 rfl rfl rfl ?_
      refine GX7_10 (q := 13) rfl dX7_between_10 rfl (by first | assumption | exact up_eq | exact (up_ne (by omega)).trans (by first | assumption | exact up_eq | exact (up_ne (by omega)).trans (by first | assumption | exact up_eq | exact (up_ne (by omega)).trans (by first | assumption | exact up_eq)))) (by omega) (by rfl) ?_
      refine V_iload_n (q := 14) dX7_between_13 rfl rfl ?_
      refine CrX7_98 (q := 17) rfl dX7_between_14 rfl (c_rowNum_in hF hj) ⟨(Nat.le_of_ble_eq_true rfl), (Nat.le_of_ble_eq_true rfl)⟩ (Nat.le_of_ble_eq_true rfl) (by first | assumption | exact up_eq | exact (up_ne (by omega)).trans (by first | assumption | exact up_eq | exact (up_ne (by omega)).trans (by first | assumption | exact up_eq | exact (up_ne (by omega)).trans (by first | assumption | exact up_eq)))) (by omega) (Nat.zero_le _) (Nat.zero_le _) ?_
      refine V_astore (q := 19) (ls' := [_, _, _, _, _, _]) dX7_between_17 rfl (by decide) (by rfl) rfl rfl ?_
      refine V_aload_n (q := 20) dX7_between_19 rfl rfl rfl ?_
      refine V_ifnullN (tgt := 28) dX7_between_20 (by decide) ?_
      refine V_iconst (q := 29) (v := (-1)) dX7_between_28 rfl (by decide) ?_
      exact V_iret dX7_between_29 rfl (Nat.le_of_ble_eq_true rfl) (Nat.le_of_ble_eq_true rfl) (⟨rfl, _, rfl, rfl, ⟨B, hX0⟩, fun _ _ => rfl⟩)
  obtain ⟨k1, k2, k3, k4⟩ := hF.2.2.2.2.1 i (by omega)
  obtain ⟨e1, e2, e3⟩ := hF.2.2.2.2.2.2 i hi
  have hrow := k4.1
  have hL8 := k4.2.2.2
  rw [e1] at k4 e3 e2 hL8 hrow
  rcases i3_lt y (sC (xN X)) (by omega) with hy | ⟨j, hj, rfl⟩
  · rw [show betA (nI i) y (xN X) = -1 by unfold betA; rw [idx_yes hi (by omega)]; show (match idx y (sC (xN X)) with | none => _ | some k => _) = _; rw [idx_no hy]]
    refine Ct.ofs (M := MX7_between) (ls := [some _, some _, some _, none, none, none]) (by decide +kernel) (by exact (Nat.le_of_ble_eq_true rfl)) (by rfl) (by rfl) (by rfl) ?_
    refine V_aload_n (q := 1) dX7_between_0 rfl rfl rfl ?_
    refine GX7_10 (q := 4) rfl dX7_between_1 rfl (by first | assumption | exact up_eq | exact (up_ne (by omega)).trans (by first | assumption | exact up_eq | exact (up_ne (by omega)).trans (by first | assumption | exact up_eq | exact (up_ne (by omega)).trans (by first | assumption | exact up_eq)))) (by omega) (by rfl) ?_
    refine V_iload_n (q := 5) dX7_between_4 rfl rfl ?_
    refine CrX7_98 (q := 8) rfl dX7_between_5 rfl (c_rowNum_in hF hi) ⟨(Nat.le_of_ble_eq_true rfl), (Nat.le_of_ble_eq_true rfl)⟩ (Nat.le_of_ble_eq_true rfl) (by first | assumption | exact up_eq | exact (up_ne (by omega)).trans (by first | assumption | exact up_eq | exact (up_ne (by omega)).trans (by first | assumption | exact up_eq | exact (up_ne (by omega)).trans (by first | assumption | exact up_eq)))) (by omega) (Nat.zero_le _) (Nat.zero_le _) ?_
    refine V_astore_n (q := 9) (ls' := [_, _, _, _, _, _]) dX7_between_8 rfl (by decide) (by rfl) rfl rfl ?_
    refine V_aload_n (q := 10) dX7_between_9 rfl rfl rfl ?_
    refine GX7_10 (q := 13) rfl dX7_between_10 rfl (by first | assumption | exact up_eq | exact (up_ne (by omega)).trans (by first | assumption | exact up_eq | exact (up_ne (by omega)).trans (by first | assumption | exact up_eq | exact (up_ne (by omega)).trans (by first | assumption | exact up_eq)))) (by omega) (by rfl) ?_
    refine V_iload_n (q := 14) dX7_between_13 rfl rfl ?_
    refine CrX7_98 (q := 17) rfl dX7_between_14 rfl (c_rowNum_out hF hy) ⟨(Nat.le_of_ble_eq_true rfl), (Nat.le_of_ble_eq_true rfl)⟩ (Nat.le_of_ble_eq_true rfl) (by first | assumption | exact up_eq | exact (up_ne (by omega)).trans (by first | assumption | exact up_eq | exact (up_ne (by omega)).trans (by first | assumption | exact up_eq | exact (up_ne (by omega)).trans (by first | assumption | exact up_eq)))) (by omega) (Nat.zero_le _) (Nat.zero_le _) ?_
    refine V_astore (q := 19) (ls' := [_, _, _, _, _, _]) dX7_between_17 rfl (by decide) (by rfl) rfl rfl ?_
    refine V_aload_n (q := 20) dX7_between_19 rfl rfl rfl ?_
    refine V_ifnull (q := 23) dX7_between_20 rfl ?_
    refine V_aload (q := 25) dX7_between_23 rfl rfl rfl ?_
    refine V_ifnonnullN (q := 28) dX7_between_25 rfl ?_
    refine V_iconst (q := 29) (v := (-1)) dX7_between_28 rfl (by decide) ?_
    exact V_iret dX7_between_29 rfl (Nat.le_of_ble_eq_true rfl) (Nat.le_of_ble_eq_true rfl) (⟨rfl, _, rfl, rfl, ⟨B, hX0⟩, fun _ _ => rfl⟩)
  obtain ⟨m1, m2, m3, m4⟩ := hF.2.2.2.2.1 j (by omega)
  obtain ⟨f1, f2, f3⟩ := hF.2.2.2.2.2.2 j hj
  have hrow2 := m4.1
  have hM8 := m4.2.2.2
  rw [f1] at m4 f3 f2 hM8 hrow2
  rw [show betA (nI i) (nI j) (xN X) = if ballI (sR (xN X) i).2 (sR (xN X) i).1 = -4 ∨ ballI (sR (xN X) i).2 (sR (xN X) i).1 ≠ ballI (sR (xN X) j).2 (sR (xN X) j).1 then -4 else nI (dstN (stN (sR (xN X) i).2 (sR (xN X) i).1 0) (stN (sR (xN X) j).2 (sR (xN X) j).1 0)) by unfold betA; rw [idx_yes hi (by omega)]; show (match idx (nI j) (sC (xN X)) with | none => _ | some k => _) = _; rw [idx_yes hj (by omega)]]
  refine Ct.ofs (M := MX7_between) (ls := [some _, some _, some _, none, none, none]) (by decide +kernel) (by exact (Nat.le_of_ble_eq_true rfl)) (by rfl) (by rfl) (by rfl) ?_
  refine V_aload_n (q := 1) dX7_between_0 rfl rfl rfl ?_
  refine GX7_10 (q := 4) rfl dX7_between_1 rfl (by first | assumption | exact up_eq | exact (up_ne (by omega)).trans (by first | assumption | exact up_eq | exact (up_ne (by omega)).trans (by first | assumption | exact up_eq | exact (up_ne (by omega)).trans (by first | assumption | exact up_eq)))) (by omega) (by rfl) ?_
  refine V_iload_n (q := 5) dX7_between_4 rfl rfl ?_
  refine CrX7_98 (q := 8) rfl dX7_between_5 rfl (c_rowNum_in hF hi) ⟨(Nat.le_of_ble_eq_true rfl), (Nat.le_of_ble_eq_true rfl)⟩ (Nat.le_of_ble_eq_true rfl) (by first | assumption | exact up_eq | exact (up_ne (by omega)).trans (by first | assumption | exact up_eq | exact (up_ne (by omega)).trans (by first | assumption | exact up_eq | exact (up_ne (by omega)).trans (by first | assumption | exact up_eq)))) (by omega) (Nat.zero_le _) (Nat.zero_le _) ?_
  refine V_astore_n (q := 9) (ls' := [_, _, _, _, _, _]) dX7_between_8 rfl (by decide) (by rfl) rfl rfl ?_
  refine V_aload_n (q := 10) dX7_between_9 rfl rfl rfl ?_
  refine GX7_10 (q := 13) rfl dX7_between_10 rfl (by first | assumption | exact up_eq | exact (up_ne (by omega)).trans (by first | assumption | exact up_eq | exact (up_ne (by omega)).trans (by first | assumption | exact up_eq | exact (up_ne (by omega)).trans (by first | assumption | exact up_eq)))) (by omega) (by rfl) ?_
  refine V_iload_n (q := 14) dX7_between_13 rfl rfl ?_
  refine CrX7_98 (q := 17) rfl dX7_between_14 rfl (c_rowNum_in hF hj) ⟨(Nat.le_of_ble_eq_true rfl), (Nat.le_of_ble_eq_true rfl)⟩ (Nat.le_of_ble_eq_true rfl) (by first | assumption | exact up_eq | exact (up_ne (by omega)).trans (by first | assumption | exact up_eq | exact (up_ne (by omega)).trans (by first | assumption | exact up_eq | exact (up_ne (by omega)).trans (by first | assumption | exact up_eq)))) (by omega) (Nat.zero_le _) (Nat.zero_le _) ?_
  refine V_astore (q := 19) (ls' := [_, _, _, _, _, _]) dX7_between_17 rfl (by decide) (by rfl) rfl rfl ?_
  refine V_aload_n (q := 20) dX7_between_19 rfl rfl rfl ?_
  refine V_ifnull (q := 23) dX7_between_20 rfl ?_
  refine V_aload (q := 25) dX7_between_23 rfl rfl rfl ?_
  refine V_ifnonnull (tgt := 30) dX7_between_25 (by decide) ?_
  refine V_aload_n (q := 31) dX7_between_30 rfl rfl rfl ?_
  refine CrX7_112 (q := 34) rfl dX7_between_31 rfl (c_rballs k4 e3 e2) ⟨(Nat.le_of_ble_eq_true rfl), (Nat.le_of_ble_eq_true rfl)⟩ (Nat.le_of_ble_eq_true rfl) (by first | assumption | exact up_eq | exact (up_ne (by omega)).trans (by first | assumption | exact up_eq | exact (up_ne (by omega)).trans (by first | assumption | exact up_eq | exact (up_ne (by omega)).trans (by first | assumption | exact up_eq)))) (by omega) (Nat.zero_le _) (Nat.zero_le _) ?_
  refine V_istore (q := 36) (ls' := [_, _, _, _, _, _]) dX7_between_34 rfl (by decide) (by rfl) rfl ?_
  refine V_iload (q := 38) dX7_between_36 rfl rfl ?_
  refine V_bipush (q := 40) (v := (-4)) dX7_between_38 rfl (by decide) ?_
  refine V_icmp_eq (q := 43) (tgt := 53) dX7_between_40 (by decide) rfl (fun q1 => ?_) (fun q1 => ?_)
  · skip
    rw [if_pos (Or.inl q1)]
    refine V_bipush (q := 55) (v := (-4)) dX7_between_53 rfl (by decide) ?_
    exact V_iret dX7_between_55 rfl (Nat.le_of_ble_eq_true rfl) (Nat.le_of_ble_eq_true rfl) (⟨rfl, _, rfl, rfl, ⟨B, hX0⟩, fun _ _ => rfl⟩)
  · skip
    refine V_iload (q := 45) dX7_between_43 rfl rfl ?_
    refine V_aload (q := 47) dX7_between_45 rfl rfl rfl ?_
    refine CrX7_112 (q := 50) rfl dX7_between_47 rfl (c_rballs m4 f3 f2) ⟨(Nat.le_of_ble_eq_true rfl), (Nat.le_of_ble_eq_true rfl)⟩ (Nat.le_of_ble_eq_true rfl) (by first | assumption | exact up_eq | exact (up_ne (by omega)).trans (by first | assumption | exact up_eq | exact (up_ne (by omega)).trans (by first | assumption | exact up_eq | exact (up_ne (by omega)).trans (by first | assumption | exact up_eq)))) (by omega) (Nat.zero_le _) (Nat.zero_le _) ?_
    refine V_icmp_eq (q := 53) (tgt := 56) dX7_between_50 (by decide) rfl (fun q2 => ?_) (fun q2 => ?_)
    · skip
      have hcl := ballI_no q1
      have hcl2 := ballI_no (by rw [← q2]; exact q1)
      have hst := stN_lt (L := (sR (xN X) i).1) (b := 0) e2 (fun j hj => (e3 j hj).2)
      have hst2 := stN_lt (L := (sR (xN X) j).1) (b := 0) f2 (fun j hj => (f3 j hj).2)
      have d1 := divL_le e2 (fun j hj => (e3 j hj).2)
      have d2 := divL_le f2 (fun j hj => (f3 j hj).2)
      have q3 : nI (sumN (sR (xN X) i).2 (sR (xN X) i).1 / (sR (xN X) i).1) = nI (sumN (sR (xN X) j).2 (sR (xN X) j).1 / (sR (xN X) j).1) := by
        have a1 : ballI (sR (xN X) i).2 (sR (xN X) i).1 = _ := if_pos hcl
        have a2 : ballI (sR (xN X) j).2 (sR (xN X) j).1 = _ := if_pos hcl2
        rw [← a1, ← a2, q2]
      rw [nI_eq (by omega) (by omega)] at q3
      obtain ⟨k, hk9, hk⟩ := nine hst hst2 (by rw [balls_ok e2 (fun j hj => (e3 j hj).2) hcl, balls_ok f2 (fun j hj => (f3 j hj).2) hcl2, q3])
      rw [if_neg (fun q => q.elim q1 (fun q => q q2)), dstN_is hk]
      refine V_aload_n (q := 57) dX7_between_56 rfl rfl rfl ?_
      refine GX7_32 (q := 60) rfl dX7_between_57 rfl (by first | assumption | exact up_eq | exact (up_ne (by omega)).trans (by first | assumption | exact up_eq | exact (up_ne (by omega)).trans (by first | assumption | exact up_eq | exact (up_ne (by omega)).trans (by first | assumption | exact up_eq)))) (by omega) (by rfl) ?_
      refine V_aload_n (q := 61) dX7_between_60 rfl rfl rfl ?_
      refine V_iconst (q := 62) (v := nI 0) dX7_between_61 rfl (by decide) ?_
      refine CrX7_141 (q := 65) rfl dX7_between_62 rfl (c_stateAt k4 e3 e2 e2) ⟨(Nat.le_of_ble_eq_true rfl), (Nat.le_of_ble_eq_true rfl)⟩ (Nat.le_of_ble_eq_true rfl) (by first | assumption | exact up_eq | exact (up_ne (by omega)).trans (by first | assumption | exact up_eq | exact (up_ne (by omega)).trans (by first | assumption | exact up_eq | exact (up_ne (by omega)).trans (by first | assumption | exact up_eq)))) (by omega) (Nat.zero_le _) (Nat.zero_le _) ?_
      refine V_aload (q := 67) dX7_between_65 rfl rfl rfl ?_
      refine V_iconst (q := 68) (v := nI 0) dX7_between_67 rfl (by decide) ?_
      refine CrX7_141 (q := 71) rfl dX7_between_68 rfl (c_stateAt m4 f3 f2 f2) ⟨(Nat.le_of_ble_eq_true rfl), (Nat.le_of_ble_eq_true rfl)⟩ (Nat.le_of_ble_eq_true rfl) (by first | assumption | exact up_eq | exact (up_ne (by omega)).trans (by first | assumption | exact up_eq | exact (up_ne (by omega)).trans (by first | assumption | exact up_eq | exact (up_ne (by omega)).trans (by first | assumption | exact up_eq)))) (by omega) (Nat.zero_le _) (Nat.zero_le _) ?_
      skip
      refine CiX7_162 (q := 74) rfl dX7_between_71 rfl (c_countOnward h5 hst hst2 hk) ⟨(Nat.le_of_ble_eq_true rfl), (Nat.le_of_ble_eq_true rfl)⟩ (Nat.le_of_ble_eq_true rfl) (by first | assumption | exact up_eq | exact (up_ne (by omega)).trans (by first | assumption | exact up_eq | exact (up_ne (by omega)).trans (by first | assumption | exact up_eq | exact (up_ne (by omega)).trans (by first | assumption | exact up_eq)))) (by omega) (Nat.zero_le _) (Nat.zero_le _) (fun u w1 hw1 => ?_)
      obtain ⟨rfl, hJ1, hF1⟩ := hw1
      skip
      exact V_iret dX7_between_74 rfl (Nat.le_of_ble_eq_true rfl) (Nat.le_of_ble_eq_true rfl) (⟨rfl, _, rfl, rfl, ⟨B, (hX0.joi hJ1 hF1).1⟩, (hX0.joi hJ1 hF1).2⟩)
    · skip
      rw [if_pos (Or.inr q2)]
      refine V_bipush (q := 55) (v := (-4)) dX7_between_53 rfl (by decide) ?_
      exact V_iret dX7_between_55 rfl (Nat.le_of_ble_eq_true rfl) (Nat.le_of_ble_eq_true rfl) (⟨rfl, _, rfl, rfl, ⟨B, hX0⟩, fun _ _ => rfl⟩)
end JA
