/-! join, once -/
section OPS
variable {g : GG} {l : Launch} {w : HW} {n o : Nat} {b : Int32} {N : StT} {r : Int32 × Int32 × Int32 × Int32}
def OutP (g : GG) (w : HW) (n o : Nat) (b : Int32) (r : Int32 × Int32 × Int32 × Int32) (N : StT) (d : Option (Int32 × Int32)) : Int32 → HW → Prop := fun x w' => (d = none ∧ x = 0 ∧ w' = w) ∨ (∃ p, d = some p ∧ x = 1 ∧ OP g w n o b r (-3, N, some p) (-3) w')
theorem clshI_no {h : Nat → Nat} {L : Nat} (hc : clN h L = L) : clshI h L = -4 := if_pos hc
theorem clshI_yes {h : Nat → Nat} {L : Nat} (hc : ¬ clN h L = L) : clshI h L = nI (clN h L) := if_neg hc
theorem nI_m4 {k : Nat} (h : k < 2 ^ 31) : nI k ≠ -4 := fun e => by
  have := nI_pos h
  rw [e] at this
  exact this (by decide)
theorem c_isOut (h : OW g w n o b N r) (hK : OkS N) {G : Nat → Option Nat} {π LL : Nat → Nat} {FF : Nat → Nat → Int32} (hF : SdF g w n (o + 1) N G π LL FF) {i : Nat} (hi : i < sC N) : CtI g l MX7_isOutOfReach 3 [rf g o, rf g (π i)] w n (OutP g w n o b r N (outA N (sR N i))) := by
  have hO := h
  obtain ⟨h0, hS, hJ, hr, hn⟩ := h
  obtain ⟨hso, hsn⟩ := hS.obj
  have hc6 := hF.2.2.2.1
  obtain ⟨k1, k2, k3, k4⟩ := hF.2.2.2.2.1 i (by omega)
  obtain ⟨e1, e2, e3⟩ := hF.2.2.2.2.2.2 i hi
  have hrow := k4.1
  have hL8 := k4.2.2.2
  have hpb := popc_le (sS N)
  unfold outA
  refine Ct.ofs (M := MX7_isOutOfReach) (ls := [some _, some _, none, none]) (by decide +kernel) (by exact (Nat.le_of_ble_eq_true rfl)) (by rfl) (by rfl) (by rfl) ?_
  refine V_aload_n (q := 1) dX7_isOutOfReach_0 rfl rfl rfl ?_
  refine GX7_10 (q := 4) rfl dX7_isOutOfReach_1 rfl (by first | assumption | exact up_eq | exact (up_ne (by omega)).trans (by first | assumption | exact up_eq | exact (up_ne (by omega)).trans (by first | assumption | exact up_eq | exact (up_ne (by omega)).trans (by first | assumption | exact up_eq)))) (by omega) (by rfl) ?_
  refine CrX7_147 (q := 7) rfl dX7_isOutOfReach_4 rfl (c_sballs hF hK.1) ⟨(Nat.le_of_ble_eq_true rfl), (Nat.le_of_ble_eq_true rfl)⟩ (Nat.le_of_ble_eq_true rfl) (by first | assumption | exact up_eq | exact (up_ne (by omega)).trans (by first | assumption | exact up_eq | exact (up_ne (by omega)).trans (by first | assumption | exact up_eq | exact (up_ne (by omega)).trans (by first | assumption | exact up_eq)))) (by omega) (Nat.zero_le _) (Nat.zero_le _) ?_
  refine V_ifN_ne (q := 10) (tgt := 29) dX7_isOutOfReach_7 (by decide) rfl (by omega) (fun hc => ?_) (fun hc => ?_)
  · skip
    rw [if_neg hc]
    refine V_aload_n (q := 30) dX7_isOutOfReach_29 rfl rfl rfl ?_
    refine CrX7_115 (q := 33) rfl dX7_isOutOfReach_30 rfl (c_clash k4 e3) ⟨(Nat.le_of_ble_eq_true rfl), (Nat.le_of_ble_eq_true rfl)⟩ (Nat.le_of_ble_eq_true rfl) (by first | assumption | exact up_eq | exact (up_ne (by omega)).trans (by first | assumption | exact up_eq | exact (up_ne (by omega)).trans (by first | assumption | exact up_eq | exact (up_ne (by omega)).trans (by first | assumption | exact up_eq)))) (by omega) (Nat.zero_le _) (Nat.zero_le _) ?_
    have hcl9 := clN_le (sR N i).2 (LL i)
    have hs9 := sumN_le (h := (sR N i).2) (L := LL i) (fun j hj => (e3 j hj).2)
    have hsd : sumN (sR N i).2 (LL i) / LL i ≤ 9 := by
      rw [Nat.div_le_iff_le_mul_add_pred e2]
      rw [Nat.mul_comm] at hs9
      omega
    by_cases hcl : clN (sR N i).2 (LL i) = LL i
    · rw [← e1, if_pos hcl]
      refine V_topi (clshI_no hcl) ?_
      refine V_istore_n (q := 34) (ls' := [_, _, _, _]) dX7_isOutOfReach_33 rfl (by decide) (by rfl) rfl ?_
      refine V_iload_n (q := 35) dX7_isOutOfReach_34 rfl rfl ?_
      refine V_bipush (q := 37) (v := (-4)) dX7_isOutOfReach_35 rfl (by decide) ?_
      refine V_icmp_eq (q := 40) (tgt := 52) dX7_isOutOfReach_37 (by decide) rfl (fun _ => ?_) (fun h9 => absurd rfl h9)
      refine V_aload_n (q := 53) dX7_isOutOfReach_52 rfl rfl rfl ?_
      refine CrX7_112 (q := 56) rfl dX7_isOutOfReach_53 rfl (c_rballs k4 e3 e2) ⟨(Nat.le_of_ble_eq_true rfl), (Nat.le_of_ble_eq_true rfl)⟩ (Nat.le_of_ble_eq_true rfl) (by first | assumption | exact up_eq | exact (up_ne (by omega)).trans (by first | assumption | exact up_eq | exact (up_ne (by omega)).trans (by first | assumption | exact up_eq | exact (up_ne (by omega)).trans (by first | assumption | exact up_eq)))) (by omega) (Nat.zero_le _) (Nat.zero_le _) ?_
      refine V_topi (show ballI (sR N i).2 (LL i) = nI (sumN (sR N i).2 (LL i) / LL i) from if_pos hcl) ?_
      refine V_istore_n (q := 57) (ls' := [_, _, _, _]) dX7_isOutOfReach_56 rfl (by decide) (by rfl) rfl ?_
      refine V_iload_n (q := 58) dX7_isOutOfReach_57 rfl rfl ?_
      refine V_aload_n (q := 59) dX7_isOutOfReach_58 rfl rfl rfl ?_
      refine GX7_10 (q := 62) rfl dX7_isOutOfReach_59 rfl (by first | assumption | exact up_eq | exact (up_ne (by omega)).trans (by first | assumption | exact up_eq | exact (up_ne (by omega)).trans (by first | assumption | exact up_eq | exact (up_ne (by omega)).trans (by first | assumption | exact up_eq)))) (by omega) (by rfl) ?_
      refine CrX7_147 (q := 65) rfl dX7_isOutOfReach_62 rfl (c_sballs hF hK.1) ⟨(Nat.le_of_ble_eq_true rfl), (Nat.le_of_ble_eq_true rfl)⟩ (Nat.le_of_ble_eq_true rfl) (by first | assumption | exact up_eq | exact (up_ne (by omega)).trans (by first | assumption | exact up_eq | exact (up_ne (by omega)).trans (by first | assumption | exact up_eq | exact (up_ne (by omega)).trans (by first | assumption | exact up_eq)))) (by omega) (Nat.zero_le _) (Nat.zero_le _) ?_
      refine V_icmpN_eq (q := 68) (tgt := 80) dX7_isOutOfReach_65 (by decide) rfl (by omega) (by omega) (fun hq => ?_) (fun hq => ?_)
      · skip
        rw [if_pos hq]
        refine V_iconst (q := 81) (v := nI 0) dX7_isOutOfReach_80 rfl (by decide) ?_
        exact V_zret dX7_isOutOfReach_81 rfl (rfl) (Nat.le_of_ble_eq_true rfl) (Nat.le_of_ble_eq_true rfl) (⟨rfl, _, rfl, Or.inl ⟨rfl, rfl, rfl⟩⟩)
      · skip
        rw [if_neg hq]
        refine V_aload_n (q := 69) dX7_isOutOfReach_68 rfl rfl rfl ?_
        refine GX7_53 (q := 72) rfl dX7_isOutOfReach_69 rfl (by first | assumption | exact up_eq | exact (up_ne (by omega)).trans (by first | assumption | exact up_eq | exact (up_ne (by omega)).trans (by first | assumption | exact up_eq | exact (up_ne (by omega)).trans (by first | assumption | exact up_eq)))) (by omega) (by rfl) ?_
        refine V_iconst (q := 73) (v := nI 5) dX7_isOutOfReach_72 rfl (by decide) ?_
        refine V_iload_n (q := 74) dX7_isOutOfReach_73 rfl rfl ?_
        refine CiX7_269 (q := 77) rfl dX7_isOutOfReach_74 rfl (c_refuse hr (by omega)) ⟨(Nat.le_of_ble_eq_true rfl), (Nat.le_of_ble_eq_true rfl)⟩ (Nat.le_of_ble_eq_true rfl) (by first | assumption | exact up_eq | exact (up_ne (by omega)).trans (by first | assumption | exact up_eq | exact (up_ne (by omega)).trans (by first | assumption | exact up_eq | exact (up_ne (by omega)).trans (by first | assumption | exact up_eq)))) (by omega) (Nat.zero_le _) (Nat.zero_le _) (fun y w1 hw1 => ?_)
        obtain ⟨rfl, rfl⟩ := hw1
        refine V_pop (q := 78) dX7_isOutOfReach_77 rfl rfl ?_
        refine V_iconst (q := 79) (v := nI 1) dX7_isOutOfReach_78 rfl (by decide) ?_
        exact V_zret dX7_isOutOfReach_79 rfl (rfl) (Nat.le_of_ble_eq_true rfl) (Nat.le_of_ble_eq_true rfl) (⟨rfl, _, rfl, Or.inr ⟨_, rfl, rfl, hO.ref⟩⟩)
    · rw [← e1, if_neg hcl]
      refine V_topi (clshI_yes hcl) ?_
      refine V_istore_n (q := 34) (ls' := [_, _, _, _]) dX7_isOutOfReach_33 rfl (by decide) (by rfl) rfl ?_
      refine V_iload_n (q := 35) dX7_isOutOfReach_34 rfl rfl ?_
      refine V_bipush (q := 37) (v := (-4)) dX7_isOutOfReach_35 rfl (by decide) ?_
      refine V_icmp_eq (q := 40) (tgt := 52) dX7_isOutOfReach_37 (by decide) rfl (fun h9 => absurd h9 (nI_m4 (by omega))) (fun _ => ?_)
      refine V_aload_n (q := 41) dX7_isOutOfReach_40 rfl rfl rfl ?_
      refine GX7_53 (q := 44) rfl dX7_isOutOfReach_41 rfl (by first | assumption | exact up_eq | exact (up_ne (by omega)).trans (by first | assumption | exact up_eq | exact (up_ne (by omega)).trans (by first | assumption | exact up_eq | exact (up_ne (by omega)).trans (by first | assumption | exact up_eq)))) (by omega) (by rfl) ?_
      refine V_iconst (q := 45) (v := nI 3) dX7_isOutOfReach_44 rfl (by decide) ?_
      refine V_iload_n (q := 46) dX7_isOutOfReach_45 rfl rfl ?_
      refine CiX7_269 (q := 49) rfl dX7_isOutOfReach_46 rfl (c_refuse hr (by omega)) ⟨(Nat.le_of_ble_eq_true rfl), (Nat.le_of_ble_eq_true rfl)⟩ (Nat.le_of_ble_eq_true rfl) (by first | assumption | exact up_eq | exact (up_ne (by omega)).trans (by first | assumption | exact up_eq | exact (up_ne (by omega)).trans (by first | assumption | exact up_eq | exact (up_ne (by omega)).trans (by first | assumption | exact up_eq)))) (by omega) (Nat.zero_le _) (Nat.zero_le _) (fun y w1 hw1 => ?_)
      obtain ⟨rfl, rfl⟩ := hw1
      refine V_pop (q := 50) dX7_isOutOfReach_49 rfl rfl ?_
      refine V_iconst (q := 51) (v := nI 1) dX7_isOutOfReach_50 rfl (by decide) ?_
      exact V_zret dX7_isOutOfReach_51 rfl (rfl) (Nat.le_of_ble_eq_true rfl) (Nat.le_of_ble_eq_true rfl) (⟨rfl, _, rfl, Or.inr ⟨_, rfl, rfl, hO.ref⟩⟩)
  · skip
    rw [if_pos hc]
    refine V_aload_n (q := 11) dX7_isOutOfReach_10 rfl rfl rfl ?_
    refine GX7_53 (q := 14) rfl dX7_isOutOfReach_11 rfl (by first | assumption | exact up_eq | exact (up_ne (by omega)).trans (by first | assumption | exact up_eq | exact (up_ne (by omega)).trans (by first | assumption | exact up_eq | exact (up_ne (by omega)).trans (by first | assumption | exact up_eq)))) (by omega) (by rfl) ?_
    refine V_bipush (q := 16) (v := nI 6) dX7_isOutOfReach_14 rfl (by decide) ?_
    refine V_aload_n (q := 17) dX7_isOutOfReach_16 rfl rfl rfl ?_
    refine GX7_10 (q := 20) rfl dX7_isOutOfReach_17 rfl (by first | assumption | exact up_eq | exact (up_ne (by omega)).trans (by first | assumption | exact up_eq | exact (up_ne (by omega)).trans (by first | assumption | exact up_eq | exact (up_ne (by omega)).trans (by first | assumption | exact up_eq)))) (by omega) (by rfl) ?_
    refine GX7_148 (q := 23) rfl dX7_isOutOfReach_20 rfl (by first | assumption | exact up_eq | exact (up_ne (by omega)).trans (by first | assumption | exact up_eq | exact (up_ne (by omega)).trans (by first | assumption | exact up_eq | exact (up_ne (by omega)).trans (by first | assumption | exact up_eq)))) (by omega) (by rfl) ?_
    refine CiX7_269 (q := 26) rfl dX7_isOutOfReach_23 rfl (c_refuse hr (by omega)) ⟨(Nat.le_of_ble_eq_true rfl), (Nat.le_of_ble_eq_true rfl)⟩ (Nat.le_of_ble_eq_true rfl) (by first | assumption | exact up_eq | exact (up_ne (by omega)).trans (by first | assumption | exact up_eq | exact (up_ne (by omega)).trans (by first | assumption | exact up_eq | exact (up_ne (by omega)).trans (by first | assumption | exact up_eq)))) (by omega) (Nat.zero_le _) (Nat.zero_le _) (fun y w1 hw1 => ?_)
    obtain ⟨rfl, rfl⟩ := hw1
    refine V_pop (q := 27) dX7_isOutOfReach_26 rfl rfl ?_
    refine V_iconst (q := 28) (v := nI 1) dX7_isOutOfReach_27 rfl (by decide) ?_
    exact V_zret dX7_isOutOfReach_28 rfl (rfl) (Nat.le_of_ble_eq_true rfl) (Nat.le_of_ble_eq_true rfl) (⟨rfl, _, rfl, Or.inr ⟨_, rfl, rfl, hO.ref⟩⟩)
theorem outA_none {N : StT} {row : RowT} (h : outA N row = none) : clN row.2 row.1 = row.1 ∧ sumN row.2 row.1 / row.1 = popc (sS N) := by
  unfold outA at h
  by_cases h1 : popc (sS N) = 0
  · rw [if_pos h1] at h; cases h
  rw [if_neg h1] at h
  by_cases h2 : clN row.2 row.1 = row.1
  · rw [if_pos h2] at h
    by_cases h3 : sumN row.2 row.1 / row.1 = popc (sS N)
    · exact ⟨h2, h3⟩
    · rw [if_neg h3] at h; cases h
  · rw [if_neg h2] at h; cases h
theorem thr_walk {G : Nat → Option Nat} {π LL : Nat → Nat} {FF : Nat → Nat → Int32} {a : Nat} {M : StT} (hF : SdF g w n a M G π LL FF) (S' : StT) (h1 : sC S' = sC M) (h2 : sR S' = sR M) {w1 : HW} (hw : w1 = va_up w a (eO 5 (sfs g a S'))) : SdF g w1 n a S' G π LL FF := by rw [hw]; exact hF.nums h1 h2
theorem c_makeJoin (h : OW g w n o b N r) (hK : OkS N) {x : Int32} : CtI g l MX7_makeJoin 4 [rf g o, .int x] w n (OP g w n o b r (joinA x N)) := by
  have hO := h
  obtain ⟨h0, hS, hJ, hr, hn⟩ := h
  obtain ⟨hso, hsn⟩ := hS.obj
  obtain ⟨T0, Qa0, m0, Hh0, hJ0⟩ := hJ
  have hjo := hJ0.1
  have hS' := hS
  obtain ⟨G, π, LL, FF, hF⟩ := hS'
  have hc6 := hF.2.2.2.1
  rcases i3_lt x (sC N) (by omega) with hx | ⟨i, hi, rfl⟩
  · rw [show joinA x N = (-1, N, none) by unfold joinA; rw [idx_no hx]]
    refine Ct.ofs (M := MX7_makeJoin) (ls := [some _, some _, none, none, none]) (by decide +kernel) (by exact (Nat.le_of_ble_eq_true rfl)) (by rfl) (by rfl) (by rfl) ?_
    refine V_aload_n (q := 1) dX7_makeJoin_0 rfl rfl rfl ?_
    refine GX7_10 (q := 4) rfl dX7_makeJoin_1 rfl (by first | assumption | exact up_eq | exact (up_ne (by omega)).trans (by first | assumption | exact up_eq | exact (up_ne (by omega)).trans (by first | assumption | exact up_eq | exact (up_ne (by omega)).trans (by first | assumption | exact up_eq)))) (by omega) (by rfl) ?_
    refine V_iload_n (q := 5) dX7_makeJoin_4 rfl rfl ?_
    refine CrX7_98 (q := 8) rfl dX7_makeJoin_5 rfl (c_rowNum_out hF hx) ⟨(Nat.le_of_ble_eq_true rfl), (Nat.le_of_ble_eq_true rfl)⟩ (Nat.le_of_ble_eq_true rfl) (by first | assumption | exact up_eq | exact (up_ne (by omega)).trans (by first | assumption | exact up_eq | exact (up_ne (by omega)).trans (by first | assumption | exact up_eq | exact (up_ne (by omega)).trans (by first | assumption | exact up_eq)))) (by omega) (Nat.zero_le _) (Nat.zero_le _) ?_
    refine V_astore_n (q := 9) (ls' := [_, _, _, _, _]) dX7_makeJoin_8 rfl (by decide) (by rfl) rfl rfl ?_
    refine V_aload_n (q := 10) dX7_makeJoin_9 rfl rfl rfl ?_
    refine V_ifnonnullN (q := 13) dX7_makeJoin_10 rfl ?_
    refine V_iconst (q := 14) (v := (-1)) dX7_makeJoin_13 rfl (by decide) ?_
    exact V_iret dX7_makeJoin_14 rfl (Nat.le_of_ble_eq_true rfl) (Nat.le_of_ble_eq_true rfl) (⟨rfl, _, rfl, hO.fit⟩)
  · obtain ⟨k1, k2, k3, k4⟩ := hF.2.2.2.2.1 i (by omega)
    obtain ⟨e1, e2, e3⟩ := hF.2.2.2.2.2.2 i hi
    have hrow := k4.1
    have hL8 := k4.2.2.2
    refine Ct.ofs (M := MX7_makeJoin) (ls := [some _, some _, none, none, none]) (by decide +kernel) (by exact (Nat.le_of_ble_eq_true rfl)) (by rfl) (by rfl) (by rfl) ?_
    refine V_aload_n (q := 1) dX7_makeJoin_0 rfl rfl rfl ?_
    refine GX7_10 (q := 4) rfl dX7_makeJoin_1 rfl (by first | assumption | exact up_eq | exact (up_ne (by omega)).trans (by first | assumption | exact up_eq | exact (up_ne (by omega)).trans (by first | assumption | exact up_eq | exact (up_ne (by omega)).trans (by first | assumption | exact up_eq)))) (by omega) (by rfl) ?_
    refine V_iload_n (q := 5) dX7_makeJoin_4 rfl rfl ?_
    refine CrX7_98 (q := 8) rfl dX7_makeJoin_5 rfl (c_rowNum_in hF hi) ⟨(Nat.le_of_ble_eq_true rfl), (Nat.le_of_ble_eq_true rfl)⟩ (Nat.le_of_ble_eq_true rfl) (by first | assumption | exact up_eq | exact (up_ne (by omega)).trans (by first | assumption | exact up_eq | exact (up_ne (by omega)).trans (by first | assumption | exact up_eq | exact (up_ne (by omega)).trans (by first | assumption | exact up_eq)))) (by omega) (Nat.zero_le _) (Nat.zero_le _) ?_
    refine V_astore_n (q := 9) (ls' := [_, _, _, _, _]) dX7_makeJoin_8 rfl (by decide) (by rfl) rfl rfl ?_
    refine V_aload_n (q := 10) dX7_makeJoin_9 rfl rfl rfl ?_
    refine V_ifnonnull (tgt := 15) dX7_makeJoin_10 (by decide) ?_
    refine V_aload_n (q := 16) dX7_makeJoin_15 rfl rfl rfl ?_
    refine V_aload_n (q := 17) dX7_makeJoin_16 rfl rfl rfl ?_
    refine CiX7_288 (q := 20) rfl dX7_makeJoin_17 rfl (c_isOut hO hK hF hi) ⟨(Nat.le_of_ble_eq_true rfl), (Nat.le_of_ble_eq_true rfl)⟩ (Nat.le_of_ble_eq_true rfl) (by first | assumption | exact up_eq | exact (up_ne (by omega)).trans (by first | assumption | exact up_eq | exact (up_ne (by omega)).trans (by first | assumption | exact up_eq | exact (up_ne (by omega)).trans (by first | assumption | exact up_eq)))) (by omega) (Nat.zero_le _) (Nat.zero_le _) (fun y w1 hw1 => ?_)
    rcases hw1 with ⟨hd, rfl, rfl⟩ | ⟨p, hd, rfl, hw1⟩
    · skip
      obtain ⟨hcl, hsm⟩ := outA_none hd
      rw [e1] at k4 e3 e2
      have hst : stN (sR N i).2 (sR N i).1 0 < 512 := stN_lt e2 (fun j hj => (e3 j hj).2)
      obtain ⟨k, hk9, hk⟩ := nine hK.1 hst (by rw [balls_ok e2 (fun j hj => (e3 j hj).2) hcl, hsm])
      have hdn := dstN_is hk
      have ea : joinA (nI i) N = (nI k, joiS (thrA N (digN (codN (sS N) (stN (sR N i).2 (sR N i).1 0)) k) k), none) := by
        unfold joinA
        rw [idx_yes hi (by omega)]
        show (match outA N (sR N i) with | some d => _ | none => _) = _
        rw [hd, ← hdn]
      rw [ea]
      refine V_if_eq (q := 23) (tgt := 26) dX7_makeJoin_20 (by decide) rfl (fun _ => ?_) (fun h9 => absurd rfl h9)
      refine V_aload_n (q := 27) dX7_makeJoin_26 rfl rfl rfl ?_
      refine GX7_32 (q := 30) rfl dX7_makeJoin_27 rfl (by first | assumption | exact up_eq | exact (up_ne (by omega)).trans (by first | assumption | exact up_eq | exact (up_ne (by omega)).trans (by first | assumption | exact up_eq | exact (up_ne (by omega)).trans (by first | assumption | exact up_eq)))) (by omega) (by rfl) ?_
      refine V_aload_n (q := 31) dX7_makeJoin_30 rfl rfl rfl ?_
      refine GX7_10 (q := 34) rfl dX7_makeJoin_31 rfl (by first | assumption | exact up_eq | exact (up_ne (by omega)).trans (by first | assumption | exact up_eq | exact (up_ne (by omega)).trans (by first | assumption | exact up_eq | exact (up_ne (by omega)).trans (by first | assumption | exact up_eq)))) (by omega) (by rfl) ?_
      refine GX7_144 (q := 37) rfl dX7_makeJoin_34 rfl (by first | assumption | exact up_eq | exact (up_ne (by omega)).trans (by first | assumption | exact up_eq | exact (up_ne (by omega)).trans (by first | assumption | exact up_eq | exact (up_ne (by omega)).trans (by first | assumption | exact up_eq)))) (by omega) (by rfl) ?_
      refine V_aload_n (q := 38) dX7_makeJoin_37 rfl rfl rfl ?_
      refine V_iconst (q := 39) (v := nI 0) dX7_makeJoin_38 rfl (by decide) ?_
      refine CrX7_141 (q := 42) rfl dX7_makeJoin_39 rfl (c_stateAt k4 e3 e2 e2) ⟨(Nat.le_of_ble_eq_true rfl), (Nat.le_of_ble_eq_true rfl)⟩ (Nat.le_of_ble_eq_true rfl) (by first | assumption | exact up_eq | exact (up_ne (by omega)).trans (by first | assumption | exact up_eq | exact (up_ne (by omega)).trans (by first | assumption | exact up_eq | exact (up_ne (by omega)).trans (by first | assumption | exact up_eq)))) (by omega) (Nat.zero_le _) (Nat.zero_le _) ?_
      skip
      refine CiX7_168 (q := 45) rfl dX7_makeJoin_42 rfl (c_find hO.2.2.1 hK.1 hst hk hk9) ⟨(Nat.le_of_ble_eq_true rfl), (Nat.le_of_ble_eq_true rfl)⟩ (Nat.le_of_ble_eq_true rfl) (by first | assumption | exact up_eq | exact (up_ne (by omega)).trans (by first | assumption | exact up_eq | exact (up_ne (by omega)).trans (by first | assumption | exact up_eq | exact (up_ne (by omega)).trans (by first | assumption | exact up_eq)))) (by omega) (Nat.zero_le _) (Nat.zero_le _) (fun y w2 hw2 => ?_)
      obtain ⟨rfl, ⟨c, hlow, T, Qa, m, Hh, hJ2, hdig⟩, hF2⟩ := hw2
      rw [codN_is hk hlow]
      refine V_istore_n (q := 46) (ls' := [_, _, _, _, _]) dX7_makeJoin_45 rfl (by decide) (by rfl) rfl ?_
      refine V_iconst (q := 47) (v := nI 0) dX7_makeJoin_46 rfl (by decide) ?_
      refine V_istore (q := 49) (ls' := [_, _, _, _, _]) dX7_makeJoin_47 rfl (by decide) (by rfl) rfl ?_
      have c0 : w2 o = eO 7 (xfs g o b) := (hF2 _ (by omega)).trans h0
      have cF : SdF g w2 n (o + 1) N G π LL FF := hF.frame (fun j _ _ => hF2 j (by omega))
      have cr : w2 (o + 165) = eO 3 (rfs r) := (hF2 _ (by omega)).trans hr
      have key : ∀ q, q ≤ k → ∀ w3, w3 o = eO 7 (xfs g o b) → w3 (o + 1) = eO 5 (sfs g (o + 1) (thrA N (digN c k) q)) → SdF g w3 n (o + 1) (thrA N (digN c k) q) G π LL FF → JnF g w3 n (o + 157) T Qa m Hh → (∀ j, (j < o + 1 ∨ o + 15 ≤ j) → w3 j = w2 j) → V g l MX7_makeJoin (rmd 4 0 0) (FinM g (qI (OP g w1 n o b r (nI k, joiS (thrA N (digN c k) k), none)) n) 0 0) 49 [some (rf g o), some (.int (nI i)), some (rf g (π i)), some (.int (nI k)), some (.int (nI q))] [] (w3) n 0 0 := by
        refine loopU (fun q => ∀ w3, w3 o = eO 7 (xfs g o b) → w3 (o + 1) = eO 5 (sfs g (o + 1) (thrA N (digN c k) q)) → SdF g w3 n (o + 1) (thrA N (digN c k) q) G π LL FF → JnF g w3 n (o + 157) T Qa m Hh → (∀ j, (j < o + 1 ∨ o + 15 ≤ j) → w3 j = w2 j) → V g l MX7_makeJoin (rmd 4 0 0) (FinM g (qI (OP g w1 n o b r (nI k, joiS (thrA N (digN c k) k), none)) n) 0 0) 49 [some (rf g o), some (.int (nI i)), some (rf g (π i)), some (.int (nI k)), some (.int (nI q))] [] (w3) n 0 0) k ?_ ?_
        · intro w3 b0 b1 b2 b3 b4
          refine V_iload (q := 51) dX7_makeJoin_49 rfl rfl ?_
          refine V_iload_n (q := 52) dX7_makeJoin_51 rfl rfl ?_
          refine V_icmpN_ge (q := 55) (tgt := 77) dX7_makeJoin_52 (by decide) rfl (by omega) (by omega) (fun _ => ?_) (fun h9 => by first | exact h9.elim | (exfalso; omega))
          refine V_aload_n (q := 78) dX7_makeJoin_77 rfl rfl rfl ?_
          refine GX7_10 (q := 81) rfl dX7_makeJoin_78 rfl (by first | assumption | exact up_eq | exact (up_ne (by omega)).trans (by first | assumption | exact up_eq | exact (up_ne (by omega)).trans (by first | assumption | exact up_eq | exact (up_ne (by omega)).trans (by first | assumption | exact up_eq)))) (by omega) (by rfl) ?_
          refine V_dup (q := 82) dX7_makeJoin_81 rfl rfl ?_
          refine GX7_236 (q := 85) rfl dX7_makeJoin_82 rfl (by first | assumption | exact up_eq | exact (up_ne (by omega)).trans (by first | assumption | exact up_eq | exact (up_ne (by omega)).trans (by first | assumption | exact up_eq | exact (up_ne (by omega)).trans (by first | assumption | exact up_eq)))) (by omega) (by rfl) ?_
          refine V_iconst (q := 86) (v := nI 1) dX7_makeJoin_85 rfl (by decide) ?_
          refine V_iadd (q := 87) dX7_makeJoin_86 rfl (by first | exact nI_add _ _ | rfl) ?_
          refine PX7_236 (q := 90) (fs' := [_, _, _, _, _, _, _, _, _]) rfl dX7_makeJoin_87 rfl (by first | assumption | exact up_eq | exact (up_ne (by omega)).trans (by first | assumption | exact up_eq | exact (up_ne (by omega)).trans (by first | assumption | exact up_eq | exact (up_ne (by omega)).trans (by first | assumption | exact up_eq)))) (by omega) (by exact (Nat.le_of_ble_eq_true rfl)) (by rfl) ?_
          try rw [up_up]
          refine V_iload_n (q := 91) dX7_makeJoin_90 rfl rfl ?_
          exact V_iret dX7_makeJoin_91 rfl (Nat.le_of_ble_eq_true rfl) (Nat.le_of_ble_eq_true rfl) (⟨rfl, _, rfl, rfl, ⟨(up_ne (by omega)).trans b0, ⟨G, π, LL, FF, b2.nums (S' := joiS (thrA N (digN c k) k)) rfl rfl⟩, ⟨T, Qa, m, Hh, b3.frame (fun j _ _ => up_ne (by omega))⟩, (up_ne (by omega)).trans ((b4 _ (by omega)).trans cr), hn⟩, fun j a1 a2 a3 => (up_ne (by omega)).trans ((b4 _ (by omega)).trans (hF2 j (by omega)))⟩)
        · intro q hq ih w3 b0 b1 b2 b3 b4
          have hjo3 := b3.1
          have hok : OkS (thrA N (digN c k) q) := hK.thrA (fun j _ => digN_le c k j)
          refine V_iload (q := 51) dX7_makeJoin_49 rfl rfl ?_
          refine V_iload_n (q := 52) dX7_makeJoin_51 rfl rfl ?_
          refine V_icmpN_ge (q := 55) (tgt := 77) dX7_makeJoin_52 (by decide) rfl (by omega) (by omega) (fun h9 => by first | exact h9.elim | exact absurd h9 (by assumption) | (exfalso; omega)) (fun _ => ?_)
          refine V_aload_n (q := 56) dX7_makeJoin_55 rfl rfl rfl ?_
          refine GX7_10 (q := 59) rfl dX7_makeJoin_56 rfl (by first | assumption | exact up_eq | exact (up_ne (by omega)).trans (by first | assumption | exact up_eq | exact (up_ne (by omega)).trans (by first | assumption | exact up_eq | exact (up_ne (by omega)).trans (by first | assumption | exact up_eq)))) (by omega) (by rfl) ?_
          refine V_aload_n (q := 60) dX7_makeJoin_59 rfl rfl rfl ?_
          refine GX7_32 (q := 63) rfl dX7_makeJoin_60 rfl (by first | assumption | exact up_eq | exact (up_ne (by omega)).trans (by first | assumption | exact up_eq | exact (up_ne (by omega)).trans (by first | assumption | exact up_eq | exact (up_ne (by omega)).trans (by first | assumption | exact up_eq)))) (by omega) (by rfl) ?_
          refine V_iload (q := 65) dX7_makeJoin_63 rfl rfl ?_
          refine CrX7_171 (q := 68) rfl dX7_makeJoin_65 rfl (c_jheightAt b3 (i := q) (by omega)) ⟨(Nat.le_of_ble_eq_true rfl), (Nat.le_of_ble_eq_true rfl)⟩ (Nat.le_of_ble_eq_true rfl) (by first | assumption | exact up_eq | exact (up_ne (by omega)).trans (by first | assumption | exact up_eq | exact (up_ne (by omega)).trans (by first | assumption | exact up_eq | exact (up_ne (by omega)).trans (by first | assumption | exact up_eq)))) (by omega) (Nat.zero_le _) (Nat.zero_le _) ?_
          refine V_topi (hdig q hq) ?_
          skip
          refine CvX7_285 (q := 71) rfl dX7_makeJoin_68 rfl (c_throwOne b2 hok.1 (digN_le c k q) hok.2) ⟨(Nat.le_of_ble_eq_true rfl), (Nat.le_of_ble_eq_true rfl)⟩ (Nat.le_of_ble_eq_true rfl) (by first | assumption | exact up_eq | exact (up_ne (by omega)).trans (by first | assumption | exact up_eq | exact (up_ne (by omega)).trans (by first | assumption | exact up_eq | exact (up_ne (by omega)).trans (by first | assumption | exact up_eq)))) (by omega) (Nat.zero_le _) (Nat.zero_le _) (fun w4 hw4 => ?_)
          refine V_iinc (q := 74) (ls' := [_, _, _, _, _]) dX7_makeJoin_71 rfl (by decide) (by rfl) rfl (by first | exact inc1 _ | rfl) rfl ?_
          refine V_goto (tgt := 49) dX7_makeJoin_74 (by decide) ?_
          exact ih w4 (by rw [hw4]; exact (up_ne (by omega)).trans b0) (by rw [hw4]; exact up_eq) (thr_walk b2 (thrS (thrA N (digN c k) q) (digN c k q)) rfl rfl hw4) (b3.frame (fun j _ _ => by rw [hw4]; exact up_ne (by omega))) (fun j hj => by rw [hw4]; exact (up_ne (by omega)).trans (b4 j hj))
      exact key 0 (Nat.zero_le _) w2 c0 ((hF2 _ (by omega)).trans hso) cF hJ2 (fun _ _ => rfl)
    · have ea : joinA (nI i) N = (-3, N, some p) := by
        unfold joinA
        rw [idx_yes hi (by omega)]
        show (match outA N (sR N i) with | some d => _ | none => _) = _
        rw [hd]
      rw [ea]
      refine V_if_eq (q := 23) (tgt := 26) dX7_makeJoin_20 (by decide) rfl (fun h9 => absurd h9 (by decide)) (fun _ => ?_)
      refine V_bipush (q := 25) (v := (-3)) dX7_makeJoin_23 rfl (by decide) ?_
      exact V_iret dX7_makeJoin_25 rfl (Nat.le_of_ble_eq_true rfl) (Nat.le_of_ble_eq_true rfl) (⟨rfl, _, rfl, hw1⟩)
theorem c_makeOnce (h : OW g w n o b N r) (hK : OkS N) {x : Int32} : CtI g l MX7_makeRowOnce 4 [rf g o, .int x] w n (OP g w n o b r (onceA x N)) := by
  have hO := h
  obtain ⟨h0, hS, hJ, hr, hn⟩ := h
  obtain ⟨hso, hsn⟩ := hS.obj
  have hS' := hS
  obtain ⟨G, π, LL, FF, hF⟩ := hS'
  have hc6 := hF.2.2.2.1
  rcases i3_lt x (sC N) (by omega) with hx | ⟨i, hi, rfl⟩
  · rw [show onceA x N = (-1, N, none) by unfold onceA; rw [idx_no hx]]
    refine Ct.ofs (M := MX7_makeRowOnce) (ls := [some _, some _, none, none]) (by decide +kernel) (by exact (Nat.le_of_ble_eq_true rfl)) (by rfl) (by rfl) (by rfl) ?_
    refine V_aload_n (q := 1) dX7_makeRowOnce_0 rfl rfl rfl ?_
    refine GX7_10 (q := 4) rfl dX7_makeRowOnce_1 rfl (by first | assumption | exact up_eq | exact (up_ne (by omega)).trans (by first | assumption | exact up_eq | exact (up_ne (by omega)).trans (by first | assumption | exact up_eq | exact (up_ne (by omega)).trans (by first | assumption | exact up_eq)))) (by omega) (by rfl) ?_
    refine V_iload_n (q := 5) dX7_makeRowOnce_4 rfl rfl ?_
    refine CrX7_98 (q := 8) rfl dX7_makeRowOnce_5 rfl (c_rowNum_out hF hx) ⟨(Nat.le_of_ble_eq_true rfl), (Nat.le_of_ble_eq_true rfl)⟩ (Nat.le_of_ble_eq_true rfl) (by first | assumption | exact up_eq | exact (up_ne (by omega)).trans (by first | assumption | exact up_eq | exact (up_ne (by omega)).trans (by first | assumption | exact up_eq | exact (up_ne (by omega)).trans (by first | assumption | exact up_eq)))) (by omega) (Nat.zero_le _) (Nat.zero_le _) ?_
    refine V_astore_n (q := 9) (ls' := [_, _, _, _]) dX7_makeRowOnce_8 rfl (by decide) (by rfl) rfl rfl ?_
    refine V_aload_n (q := 10) dX7_makeRowOnce_9 rfl rfl rfl ?_
    refine V_ifnonnullN (q := 13) dX7_makeRowOnce_10 rfl ?_
    refine V_iconst (q := 14) (v := (-1)) dX7_makeRowOnce_13 rfl (by decide) ?_
    exact V_iret dX7_makeRowOnce_14 rfl (Nat.le_of_ble_eq_true rfl) (Nat.le_of_ble_eq_true rfl) (⟨rfl, _, rfl, hO.fit⟩)
  · obtain ⟨k1, k2, k3, k4⟩ := hF.2.2.2.2.1 i (by omega)
    obtain ⟨e1, e2, e3⟩ := hF.2.2.2.2.2.2 i hi
    have hrow := k4.1
    have hL8 := k4.2.2.2
    refine Ct.ofs (M := MX7_makeRowOnce) (ls := [some _, some _, none, none]) (by decide +kernel) (by exact (Nat.le_of_ble_eq_true rfl)) (by rfl) (by rfl) (by rfl) ?_
    refine V_aload_n (q := 1) dX7_makeRowOnce_0 rfl rfl rfl ?_
    refine GX7_10 (q := 4) rfl dX7_makeRowOnce_1 rfl (by first | assumption | exact up_eq | exact (up_ne (by omega)).trans (by first | assumption | exact up_eq | exact (up_ne (by omega)).trans (by first | assumption | exact up_eq | exact (up_ne (by omega)).trans (by first | assumption | exact up_eq)))) (by omega) (by rfl) ?_
    refine V_iload_n (q := 5) dX7_makeRowOnce_4 rfl rfl ?_
    refine CrX7_98 (q := 8) rfl dX7_makeRowOnce_5 rfl (c_rowNum_in hF hi) ⟨(Nat.le_of_ble_eq_true rfl), (Nat.le_of_ble_eq_true rfl)⟩ (Nat.le_of_ble_eq_true rfl) (by first | assumption | exact up_eq | exact (up_ne (by omega)).trans (by first | assumption | exact up_eq | exact (up_ne (by omega)).trans (by first | assumption | exact up_eq | exact (up_ne (by omega)).trans (by first | assumption | exact up_eq)))) (by omega) (Nat.zero_le _) (Nat.zero_le _) ?_
    refine V_astore_n (q := 9) (ls' := [_, _, _, _]) dX7_makeRowOnce_8 rfl (by decide) (by rfl) rfl rfl ?_
    refine V_aload_n (q := 10) dX7_makeRowOnce_9 rfl rfl rfl ?_
    refine V_ifnonnull (tgt := 15) dX7_makeRowOnce_10 (by decide) ?_
    refine V_aload_n (q := 16) dX7_makeRowOnce_15 rfl rfl rfl ?_
    refine V_aload_n (q := 17) dX7_makeRowOnce_16 rfl rfl rfl ?_
    refine CiX7_288 (q := 20) rfl dX7_makeRowOnce_17 rfl (c_isOut hO hK hF hi) ⟨(Nat.le_of_ble_eq_true rfl), (Nat.le_of_ble_eq_true rfl)⟩ (Nat.le_of_ble_eq_true rfl) (by first | assumption | exact up_eq | exact (up_ne (by omega)).trans (by first | assumption | exact up_eq | exact (up_ne (by omega)).trans (by first | assumption | exact up_eq | exact (up_ne (by omega)).trans (by first | assumption | exact up_eq)))) (by omega) (Nat.zero_le _) (Nat.zero_le _) (fun y w1 hw1 => ?_)
    rcases hw1 with ⟨hd, rfl, rfl⟩ | ⟨p, hd, rfl, hw1⟩
    · skip
      rw [e1] at k4 e3 e2 hL8 hrow
      have hst : stN (sR N i).2 (sR N i).1 0 < 512 := stN_lt e2 (fun j hj => (e3 j hj).2)
      have hs5 := hK.1
      have ea : onceA (nI i) N = if sS N = stN (sR N i).2 (sR N i).1 0 then (nI (sR N i).1, thrA N (sR N i).2 (sR N i).1, none) else (-3, N, some (4, nI (sS N))) := by
        unfold onceA
        rw [idx_yes hi (by omega)]
        show (match outA N (sR N i) with | some d => _ | none => _) = _
        rw [hd]
      rw [ea]
      refine V_if_eq (q := 23) (tgt := 26) dX7_makeRowOnce_20 (by decide) rfl (fun _ => ?_) (fun h9 => absurd rfl h9)
      refine V_aload_n (q := 27) dX7_makeRowOnce_26 rfl rfl rfl ?_
      refine GX7_10 (q := 30) rfl dX7_makeRowOnce_27 rfl (by first | assumption | exact up_eq | exact (up_ne (by omega)).trans (by first | assumption | exact up_eq | exact (up_ne (by omega)).trans (by first | assumption | exact up_eq | exact (up_ne (by omega)).trans (by first | assumption | exact up_eq)))) (by omega) (by rfl) ?_
      refine GX7_144 (q := 33) rfl dX7_makeRowOnce_30 rfl (by first | assumption | exact up_eq | exact (up_ne (by omega)).trans (by first | assumption | exact up_eq | exact (up_ne (by omega)).trans (by first | assumption | exact up_eq | exact (up_ne (by omega)).trans (by first | assumption | exact up_eq)))) (by omega) (by rfl) ?_
      refine V_aload_n (q := 34) dX7_makeRowOnce_33 rfl rfl rfl ?_
      refine V_iconst (q := 35) (v := nI 0) dX7_makeRowOnce_34 rfl (by decide) ?_
      refine CrX7_141 (q := 38) rfl dX7_makeRowOnce_35 rfl (c_stateAt k4 e3 e2 e2) ⟨(Nat.le_of_ble_eq_true rfl), (Nat.le_of_ble_eq_true rfl)⟩ (Nat.le_of_ble_eq_true rfl) (by first | assumption | exact up_eq | exact (up_ne (by omega)).trans (by first | assumption | exact up_eq | exact (up_ne (by omega)).trans (by first | assumption | exact up_eq | exact (up_ne (by omega)).trans (by first | assumption | exact up_eq)))) (by omega) (Nat.zero_le _) (Nat.zero_le _) ?_
      refine V_icmpN_eq (q := 41) (tgt := 57) dX7_makeRowOnce_38 (by decide) rfl (by omega) (by omega) (fun hq => ?_) (fun hq => ?_)
      · skip
        rw [if_pos hq]
        refine V_iconst (q := 58) (v := nI 0) dX7_makeRowOnce_57 rfl (by decide) ?_
        refine V_istore_n (q := 59) (ls' := [_, _, _, _]) dX7_makeRowOnce_58 rfl (by decide) (by rfl) rfl ?_
        have key : ∀ q, q ≤ (sR N i).1 → ∀ w3, w3 o = eO 7 (xfs g o b) → w3 (π i) = eO 4 [.int (nI (sR N i).1), rf g (π i + 1)] → w3 (o + 1) = eO 5 (sfs g (o + 1) (thrA N (sR N i).2 q)) → SdF g w3 n (o + 1) (thrA N (sR N i).2 q) G π LL FF → (∀ j, j ≠ o + 1 → w3 j = w1 j) → V g l MX7_makeRowOnce (rmd 4 0 0) (FinM g (qI (OP g w1 n o b r (nI (sR N i).1, thrA N (sR N i).2 (sR N i).1, none)) n) 0 0) 59 [some (rf g o), some (.int (nI i)), some (rf g (π i)), some (.int (nI q))] [] (w3) n 0 0 := by
          refine loopU (fun q => ∀ w3, w3 o = eO 7 (xfs g o b) → w3 (π i) = eO 4 [.int (nI (sR N i).1), rf g (π i + 1)] → w3 (o + 1) = eO 5 (sfs g (o + 1) (thrA N (sR N i).2 q)) → SdF g w3 n (o + 1) (thrA N (sR N i).2 q) G π LL FF → (∀ j, j ≠ o + 1 → w3 j = w1 j) → V g l MX7_makeRowOnce (rmd 4 0 0) (FinM g (qI (OP g w1 n o b r (nI (sR N i).1, thrA N (sR N i).2 (sR N i).1, none)) n) 0 0) 59 [some (rf g o), some (.int (nI i)), some (rf g (π i)), some (.int (nI q))] [] (w3) n 0 0) (sR N i).1 ?_ ?_
          · intro w3 b0 br b1 b2 b3
            refine V_iload_n (q := 60) dX7_makeRowOnce_59 rfl rfl ?_
            refine V_aload_n (q := 61) dX7_makeRowOnce_60 rfl rfl rfl ?_
            refine GX7_102 (q := 64) rfl dX7_makeRowOnce_61 rfl (by first | assumption | exact up_eq | exact (up_ne (by omega)).trans (by first | assumption | exact up_eq | exact (up_ne (by omega)).trans (by first | assumption | exact up_eq | exact (up_ne (by omega)).trans (by first | assumption | exact up_eq)))) (by omega) (by rfl) ?_
            refine V_icmpN_ge (q := 67) (tgt := 85) dX7_makeRowOnce_64 (by decide) rfl (by omega) (by omega) (fun _ => ?_) (fun h9 => by first | exact h9.elim | (exfalso; omega))
            refine V_aload_n (q := 86) dX7_makeRowOnce_85 rfl rfl rfl ?_
            refine GX7_102 (q := 89) rfl dX7_makeRowOnce_86 rfl (by first | assumption | exact up_eq | exact (up_ne (by omega)).trans (by first | assumption | exact up_eq | exact (up_ne (by omega)).trans (by first | assumption | exact up_eq | exact (up_ne (by omega)).trans (by first | assumption | exact up_eq)))) (by omega) (by rfl) ?_
            exact V_iret dX7_makeRowOnce_89 rfl (Nat.le_of_ble_eq_true rfl) (Nat.le_of_ble_eq_true rfl) (⟨rfl, _, rfl, hO.now ⟨G, π, LL, FF, b2⟩ (fun j hj => b3 j (by omega))⟩)
          · intro q hq2 ih w3 b0 br b1 b2 b3
            have hok : OkS (thrA N (sR N i).2 q) := hK.thrA (fun j hj => (e3 j (by omega)).2)
            have k5 : RwF g w3 n (π i) (sR N i).1 (FF i) := k4.frame (b3 _ (by omega)) (b3 _ (by omega))
            refine V_iload_n (q := 60) dX7_makeRowOnce_59 rfl rfl ?_
            refine V_aload_n (q := 61) dX7_makeRowOnce_60 rfl rfl rfl ?_
            refine GX7_102 (q := 64) rfl dX7_makeRowOnce_61 rfl (by first | assumption | exact up_eq | exact (up_ne (by omega)).trans (by first | assumption | exact up_eq | exact (up_ne (by omega)).trans (by first | assumption | exact up_eq | exact (up_ne (by omega)).trans (by first | assumption | exact up_eq)))) (by omega) (by rfl) ?_
            refine V_icmpN_ge (q := 67) (tgt := 85) dX7_makeRowOnce_64 (by decide) rfl (by omega) (by omega) (fun h9 => by first | exact h9.elim | exact absurd h9 (by assumption) | (exfalso; omega)) (fun _ => ?_)
            refine V_aload_n (q := 68) dX7_makeRowOnce_67 rfl rfl rfl ?_
            refine GX7_10 (q := 71) rfl dX7_makeRowOnce_68 rfl (by first | assumption | exact up_eq | exact (up_ne (by omega)).trans (by first | assumption | exact up_eq | exact (up_ne (by omega)).trans (by first | assumption | exact up_eq | exact (up_ne (by omega)).trans (by first | assumption | exact up_eq)))) (by omega) (by rfl) ?_
            refine V_aload_n (q := 72) dX7_makeRowOnce_71 rfl rfl rfl ?_
            refine V_iload_n (q := 73) dX7_makeRowOnce_72 rfl rfl ?_
            refine CrX7_134 (q := 76) rfl dX7_makeRowOnce_73 rfl (c_heightAt k5 e3 hq2) ⟨(Nat.le_of_ble_eq_true rfl), (Nat.le_of_ble_eq_true rfl)⟩ (Nat.le_of_ble_eq_true rfl) (by first | assumption | exact up_eq | exact (up_ne (by omega)).trans (by first | assumption | exact up_eq | exact (up_ne (by omega)).trans (by first | assumption | exact up_eq | exact (up_ne (by omega)).trans (by first | assumption | exact up_eq)))) (by omega) (Nat.zero_le _) (Nat.zero_le _) ?_
            skip
            refine CvX7_285 (q := 79) rfl dX7_makeRowOnce_76 rfl (c_throwOne b2 hok.1 (e3 q hq2).2 hok.2) ⟨(Nat.le_of_ble_eq_true rfl), (Nat.le_of_ble_eq_true rfl)⟩ (Nat.le_of_ble_eq_true rfl) (by first | assumption | exact up_eq | exact (up_ne (by omega)).trans (by first | assumption | exact up_eq | exact (up_ne (by omega)).trans (by first | assumption | exact up_eq | exact (up_ne (by omega)).trans (by first | assumption | exact up_eq)))) (by omega) (Nat.zero_le _) (Nat.zero_le _) (fun w4 hw4 => ?_)
            refine V_iinc (q := 82) (ls' := [_, _, _, _]) dX7_makeRowOnce_79 rfl (by decide) (by rfl) rfl (by first | exact inc1 _ | rfl) rfl ?_
            refine V_goto (tgt := 59) dX7_makeRowOnce_82 (by decide) ?_
            exact ih w4 (by rw [hw4]; exact (up_ne (by omega)).trans b0) (by rw [hw4]; exact (up_ne (by omega)).trans br) (by rw [hw4]; exact up_eq) (thr_walk b2 (thrS (thrA N (sR N i).2 q) ((sR N i).2 q)) rfl rfl hw4) (fun j hj => by rw [hw4]; exact (up_ne hj).trans (b3 j hj))
        exact key 0 (Nat.zero_le _) w1 h0 hrow hso hF (fun _ _ => rfl)
      · skip
        rw [if_neg hq]
        refine V_aload_n (q := 42) dX7_makeRowOnce_41 rfl rfl rfl ?_
        refine GX7_53 (q := 45) rfl dX7_makeRowOnce_42 rfl (by first | assumption | exact up_eq | exact (up_ne (by omega)).trans (by first | assumption | exact up_eq | exact (up_ne (by omega)).trans (by first | assumption | exact up_eq | exact (up_ne (by omega)).trans (by first | assumption | exact up_eq)))) (by omega) (by rfl) ?_
        refine V_iconst (q := 46) (v := nI 4) dX7_makeRowOnce_45 rfl (by decide) ?_
        refine V_aload_n (q := 47) dX7_makeRowOnce_46 rfl rfl rfl ?_
        refine GX7_10 (q := 50) rfl dX7_makeRowOnce_47 rfl (by first | assumption | exact up_eq | exact (up_ne (by omega)).trans (by first | assumption | exact up_eq | exact (up_ne (by omega)).trans (by first | assumption | exact up_eq | exact (up_ne (by omega)).trans (by first | assumption | exact up_eq)))) (by omega) (by rfl) ?_
        refine GX7_144 (q := 53) rfl dX7_makeRowOnce_50 rfl (by first | assumption | exact up_eq | exact (up_ne (by omega)).trans (by first | assumption | exact up_eq | exact (up_ne (by omega)).trans (by first | assumption | exact up_eq | exact (up_ne (by omega)).trans (by first | assumption | exact up_eq)))) (by omega) (by rfl) ?_
        refine CiX7_269 (q := 56) rfl dX7_makeRowOnce_53 rfl (c_refuse hr (by omega)) ⟨(Nat.le_of_ble_eq_true rfl), (Nat.le_of_ble_eq_true rfl)⟩ (Nat.le_of_ble_eq_true rfl) (by first | assumption | exact up_eq | exact (up_ne (by omega)).trans (by first | assumption | exact up_eq | exact (up_ne (by omega)).trans (by first | assumption | exact up_eq | exact (up_ne (by omega)).trans (by first | assumption | exact up_eq)))) (by omega) (Nat.zero_le _) (Nat.zero_le _) (fun y w2 hw2 => ?_)
        obtain ⟨rfl, rfl⟩ := hw2
        skip
        exact V_iret dX7_makeRowOnce_56 rfl (Nat.le_of_ble_eq_true rfl) (Nat.le_of_ble_eq_true rfl) (⟨rfl, _, rfl, hO.ref⟩)
    · have ea : onceA (nI i) N = (-3, N, some p) := by
        unfold onceA
        rw [idx_yes hi (by omega)]
        show (match outA N (sR N i) with | some d => _ | none => _) = _
        rw [hd]
      rw [ea]
      refine V_if_eq (q := 23) (tgt := 26) dX7_makeRowOnce_20 (by decide) rfl (fun h9 => absurd h9 (by decide)) (fun _ => ?_)
      refine V_bipush (q := 25) (v := (-3)) dX7_makeRowOnce_23 rfl (by decide) ?_
      exact V_iret dX7_makeRowOnce_25 rfl (Nat.le_of_ble_eq_true rfl) (Nat.le_of_ble_eq_true rfl) (⟨rfl, _, rfl, hw1⟩)
end OPS
