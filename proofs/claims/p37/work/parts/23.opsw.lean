/-! the walks of the changes -/
abbrev xfs (g : GG) (o : Nat) (b : Int32) : List Value := [rf g (o + 1), rf g (o + 15), rf g (o + 29), .int b, rf g (o + 43), rf g (o + 157), rf g (o + 161), rf g (o + 163), rf g (o + 165), rf g (o + 166)]
def OW (g : GG) (w : HW) (n o : Nat) (b : Int32) (N : StT) (r : Int32 × Int32 × Int32 × Int32) : Prop := w o = eO 7 (xfs g o b) ∧ Sd g w n (o + 1) N ∧ Jn g w n (o + 157) ∧ w (o + 165) = eO 3 (rfs r) ∧ o + 167 ≤ n
def FrO (w w' : HW) (o : Nat) : Prop := ∀ i, (i < o + 1 ∨ o + 15 ≤ i) → (i < o + 157 ∨ o + 161 ≤ i) → i ≠ o + 165 → w' i = w i
def OP (g : GG) (w : HW) (n o : Nat) (b : Int32) (r : Int32 × Int32 × Int32 × Int32) (res : OpR) : Int32 → HW → Prop := fun x w' => x = res.1 ∧ OW g w' n o b res.2.1 (rfR r res.2.2) ∧ FrO w w' o
section OPS
variable {g : GG} {l : Launch} {w : HW} {n o : Nat} {b : Int32} {N : StT} {r : Int32 × Int32 × Int32 × Int32}
theorem FrO.tr {w1 w2 : HW} (h : FrO w w1 o) (h2 : FrO w1 w2 o) : FrO w w2 o := fun i a1 a2 a3 => (h2 i a1 a2 a3).trans (h i a1 a2 a3)
theorem OW.fit {x : Int32} (h : OW g w n o b N r) : OP g w n o b r (x, N, none) x w := ⟨rfl, h, fun _ _ _ _ => rfl⟩
theorem OW.ref (h : OW g w n o b N r) {y z : Int32} : OP g w n o b r (-3, N, some (y, z)) (-3) (va_up w (o + 165) (eO 3 (rfs (y, z, r.2.2.2, r.2.2.2)))) := by
  obtain ⟨h0, h1, h2, h3, h4⟩ := h
  exact ⟨rfl, ⟨(up_ne (by omega)).trans h0, h1.frame (fun i _ _ => up_ne (by omega)), h2.frame (fun i _ _ => up_ne (by omega)), up_eq, h4⟩, fun i _ _ a3 => up_ne a3⟩
theorem OW.now {w' : HW} {N' : StT} {x : Int32} (h : OW g w n o b N r) (h1 : Sd g w' n (o + 1) N') (hF : Fr w w' (o + 1)) : OP g w n o b r (x, N', none) x w' := by
  obtain ⟨h0, -, h2, h3, h4⟩ := h
  exact ⟨rfl, ⟨(hF _ (by omega)).trans h0, h1, h2.frame (fun i _ _ => hF i (by omega)), (hF _ (by omega)).trans h3, h4⟩, fun i a1 _ _ => hF i (by omega)⟩
theorem c_pow10 {k : Nat} (hk : k ≤ 8) : CtR g l MX7_powerOfTen 0 [.int (nI k)] w n (.int (nI (10 ^ k))) := by
  refine Ct.ofs (M := MX7_powerOfTen) (ls := [some _, none, none]) (by decide +kernel) (by exact (Nat.le_of_ble_eq_true rfl)) (by rfl) (by rfl) (by rfl) ?_
  refine V_iconst (q := 1) (v := nI 1) dX7_powerOfTen_0 rfl (by decide) ?_
  refine V_istore_n (q := 2) (ls' := [_, _, _]) dX7_powerOfTen_1 rfl (by decide) (by rfl) rfl ?_
  refine V_iconst (q := 3) (v := nI 0) dX7_powerOfTen_2 rfl (by decide) ?_
  refine V_istore_n (q := 4) (ls' := [_, _, _]) dX7_powerOfTen_3 rfl (by decide) (by rfl) rfl ?_
  refine loopU (fun i => V g l MX7_powerOfTen (rmd 0 0 0) (FinM g (qR (.int (nI (10 ^ k))) w n) 0 0) 4 [some (.int (nI k)), some (.int (nI (10 ^ i))), some (.int (nI i))] [] (w) n 0 0) k ?_ ?_ 0 (Nat.zero_le _)
  · skip
    refine V_iload_n (q := 5) dX7_powerOfTen_4 rfl rfl ?_
    refine V_iload_n (q := 6) dX7_powerOfTen_5 rfl rfl ?_
    refine V_icmpN_ge (q := 9) (tgt := 26) dX7_powerOfTen_6 (by decide) rfl (by omega) (by omega) (fun _ => ?_) (fun h9 => by first | exact h9.elim | (exfalso; omega))
    refine V_iload_n (q := 27) dX7_powerOfTen_26 rfl rfl ?_
    exact V_iret dX7_powerOfTen_27 rfl (Nat.le_of_ble_eq_true rfl) (Nat.le_of_ble_eq_true rfl) (⟨rfl, rfl, rfl⟩)
  · intro i hi ih
    refine V_iload_n (q := 5) dX7_powerOfTen_4 rfl rfl ?_
    refine V_iload_n (q := 6) dX7_powerOfTen_5 rfl rfl ?_
    refine V_icmpN_ge (q := 9) (tgt := 26) dX7_powerOfTen_6 (by decide) rfl (by omega) (by omega) (fun h9 => by first | exact h9.elim | exact absurd h9 (by assumption) | (exfalso; omega)) (fun _ => ?_)
    refine V_iload_n (q := 10) dX7_powerOfTen_9 rfl rfl ?_
    refine V_bipush (q := 12) (v := nI 8) dX7_powerOfTen_10 rfl (by decide) ?_
    refine V_icmpN_ge (q := 15) (tgt := 26) dX7_powerOfTen_12 (by decide) rfl (by omega) (by omega) (fun h9 => by first | exact h9.elim | exact absurd h9 (by assumption) | (exfalso; omega)) (fun _ => ?_)
    refine V_iload_n (q := 16) dX7_powerOfTen_15 rfl rfl ?_
    refine V_bipush (q := 18) (v := nI 10) dX7_powerOfTen_16 rfl (by decide) ?_
    refine V_imul (q := 19) dX7_powerOfTen_18 rfl ((pk_mul _ _).trans (congrArg nI (Nat.pow_succ 10 i).symm)) ?_
    refine V_istore_n (q := 20) (ls' := [_, _, _]) dX7_powerOfTen_19 rfl (by decide) (by rfl) rfl ?_
    refine V_iinc (q := 23) (ls' := [_, _, _]) dX7_powerOfTen_20 rfl (by decide) (by rfl) rfl (by first | exact inc1 _ | rfl) rfl ?_
    refine V_goto (tgt := 4) dX7_powerOfTen_23 (by decide) ?_
    exact ih
theorem c_addRow (h : OW g w n o b N r) {x m : Int32} : CtI g l MX7_addRow 3 [rf g o, .int x, .int m] w n (OP g w n o b r (addA x m N)) := by
  have hO := h
  obtain ⟨h0, hS, hJ, hr, hn⟩ := h
  obtain ⟨hso, hsn⟩ := hS.obj
  obtain ⟨G, π, LL, FF, hF⟩ := hS
  have hc6' := hF.2.2.2.1
  rcases i3_lt m 9 (by decide) with hm | ⟨k, hk, rfl⟩
  · rw [show addA x m N = (-2, N, none) by unfold addA; rw [idx_no hm]]
    refine Ct.ofs (M := MX7_addRow) (ls := [some _, some _, some _]) (by decide +kernel) (by exact (Nat.le_of_ble_eq_true rfl)) (by rfl) (by rfl) (by rfl) ?_
    refine V_iload_n (q := 1) dX7_addRow_0 rfl rfl ?_
    refine V_iconst (q := 2) (v := nI 1) dX7_addRow_1 rfl (by decide) ?_
    refine V_icmp_lt (q := 5) (tgt := 23) dX7_addRow_2 (by decide) rfl (fun hc => ?_) (fun hc => ?_)
    · skip
      refine V_bipush (q := 25) (v := (-2)) dX7_addRow_23 rfl (by decide) ?_
      exact V_iret dX7_addRow_25 rfl (Nat.le_of_ble_eq_true rfl) (Nat.le_of_ble_eq_true rfl) (⟨rfl, _, rfl, hO.fit⟩)
    · skip
      refine V_iload_n (q := 6) dX7_addRow_5 rfl rfl ?_
      refine V_bipush (q := 8) (v := nI 8) dX7_addRow_6 rfl (by decide) ?_
      refine V_icmp_gt (q := 11) (tgt := 23) dX7_addRow_8 (by decide) rfl (fun hc2 => ?_) (fun hc2 => ?_)
      · skip
        refine V_bipush (q := 25) (v := (-2)) dX7_addRow_23 rfl (by decide) ?_
        exact V_iret dX7_addRow_25 rfl (Nat.le_of_ble_eq_true rfl) (Nat.le_of_ble_eq_true rfl) (⟨rfl, _, rfl, hO.fit⟩)
      · skip
        exfalso
        rcases hm with hm | hm
        · exact hc (fa_trans hm (by decide))
        · exact hc2 (fa_trans (by decide : nI 8 < nI 9) hm)
  · refine Ct.ofs (M := MX7_addRow) (ls := [some _, some _, some _]) (by decide +kernel) (by exact (Nat.le_of_ble_eq_true rfl)) (by rfl) (by rfl) (by rfl) ?_
    refine V_iload_n (q := 1) dX7_addRow_0 rfl rfl ?_
    refine V_iconst (q := 2) (v := nI 1) dX7_addRow_1 rfl (by decide) ?_
    refine V_icmpN_lt (q := 5) (tgt := 23) dX7_addRow_2 (by decide) rfl (by omega) (by omega) (fun hc => ?_) (fun hc => ?_)
    · skip
      rw [show addA x (nI k) N = (-2, N, none) by unfold addA; rw [idx_yes hk (by decide)]; exact if_pos (by omega)]
      refine V_bipush (q := 25) (v := (-2)) dX7_addRow_23 rfl (by decide) ?_
      exact V_iret dX7_addRow_25 rfl (Nat.le_of_ble_eq_true rfl) (Nat.le_of_ble_eq_true rfl) (⟨rfl, _, rfl, hO.fit⟩)
    · skip
      have hk0 : ¬ k = 0 := by omega
      have h10 : 10 ^ k ≤ 10 ^ 8 := Nat.pow_le_pow_right (by decide) (by omega)
      refine V_iload_n (q := 6) dX7_addRow_5 rfl rfl ?_
      refine V_bipush (q := 8) (v := nI 8) dX7_addRow_6 rfl (by decide) ?_
      refine V_icmpN_gt (q := 11) (tgt := 23) dX7_addRow_8 (by decide) rfl (by omega) (by omega) (fun h9 => by first | exact h9.elim | exact absurd h9 (by assumption) | (exfalso; omega)) (fun _ => ?_)
      rcases i3_lt x (10 ^ k) (by omega) with hx | ⟨t, ht, rfl⟩
      · rw [show addA x (nI k) N = (-2, N, none) by unfold addA; rw [idx_yes hk (by decide)]; refine (if_neg hk0).trans ?_; rw [idx_no hx]]
        refine V_iload_n (q := 12) dX7_addRow_11 rfl rfl ?_
        refine V_if_lt (q := 15) (tgt := 23) dX7_addRow_12 (by decide) rfl (fun hc2 => ?_) (fun hc2 => ?_)
        · skip
          refine V_bipush (q := 25) (v := (-2)) dX7_addRow_23 rfl (by decide) ?_
          exact V_iret dX7_addRow_25 rfl (Nat.le_of_ble_eq_true rfl) (Nat.le_of_ble_eq_true rfl) (⟨rfl, _, rfl, hO.fit⟩)
        · skip
          refine V_iload_n (q := 16) dX7_addRow_15 rfl rfl ?_
          refine V_iload_n (q := 17) dX7_addRow_16 rfl rfl ?_
          refine CrX7_266 (q := 20) rfl dX7_addRow_17 rfl (c_pow10 (k := k) (by omega)) ⟨(Nat.le_of_ble_eq_true rfl), (Nat.le_of_ble_eq_true rfl)⟩ (Nat.le_of_ble_eq_true rfl) (Nat.zero_le _) (Nat.zero_le _) ?_
          skip
          refine V_icmp_lt (q := 23) (tgt := 26) dX7_addRow_20 (by decide) rfl (fun h9 => absurd h9 (fun q => (fa_of_lt q).2.1 (hx.resolve_left hc2))) (fun _ => ?_)
          refine V_bipush (q := 25) (v := (-2)) dX7_addRow_23 rfl (by decide) ?_
          exact V_iret dX7_addRow_25 rfl (Nat.le_of_ble_eq_true rfl) (Nat.le_of_ble_eq_true rfl) (⟨rfl, _, rfl, hO.fit⟩)
      · have ea : addA (nI t) (nI k) N = if 6 ≤ sC N then (-3, N, some (1, 6)) else (nI (sC N), appS N t k, none) := by
          unfold addA
          rw [idx_yes hk (by decide)]
          refine (if_neg hk0).trans ?_
          rw [idx_yes ht (by omega)]
        rw [ea]
        refine V_iload_n (q := 12) dX7_addRow_11 rfl rfl ?_
        refine V_ifN_lt (q := 15) (tgt := 23) dX7_addRow_12 (by decide) rfl (by omega) (fun h9 => by first | exact h9.elim | exact absurd h9 (by assumption) | (exfalso; omega)) (fun _ => ?_)
        refine V_iload_n (q := 16) dX7_addRow_15 rfl rfl ?_
        refine V_iload_n (q := 17) dX7_addRow_16 rfl rfl ?_
        refine CrX7_266 (q := 20) rfl dX7_addRow_17 rfl (c_pow10 (k := k) (by omega)) ⟨(Nat.le_of_ble_eq_true rfl), (Nat.le_of_ble_eq_true rfl)⟩ (Nat.le_of_ble_eq_true rfl) (Nat.zero_le _) (Nat.zero_le _) ?_
        skip
        refine V_icmpN_lt (q := 23) (tgt := 26) dX7_addRow_20 (by decide) rfl (by omega) (by omega) (fun _ => ?_) (fun h9 => by first | exact h9.elim | (exfalso; omega))
        refine V_aload_n (q := 27) dX7_addRow_26 rfl rfl rfl ?_
        refine GX7_10 (q := 30) rfl dX7_addRow_27 rfl (by first | assumption | exact up_eq | exact (up_ne (by omega)).trans (by first | assumption | exact up_eq | exact (up_ne (by omega)).trans (by first | assumption | exact up_eq | exact (up_ne (by omega)).trans (by first | assumption | exact up_eq)))) (by omega) (by rfl) ?_
        refine GX7_172 (q := 33) rfl dX7_addRow_30 rfl (by first | assumption | exact up_eq | exact (up_ne (by omega)).trans (by first | assumption | exact up_eq | exact (up_ne (by omega)).trans (by first | assumption | exact up_eq | exact (up_ne (by omega)).trans (by first | assumption | exact up_eq)))) (by omega) (by rfl) ?_
        refine V_bipush (q := 35) (v := nI 6) dX7_addRow_33 rfl (by decide) ?_
        refine V_icmpN_lt (q := 38) (tgt := 49) dX7_addRow_35 (by decide) rfl (by omega) (by omega) (fun hc6 => ?_) (fun hc6 => ?_)
        · skip
          rw [if_neg (by omega)]
          refine V_aload_n (q := 50) dX7_addRow_49 rfl rfl rfl ?_
          refine GX7_10 (q := 53) rfl dX7_addRow_50 rfl (by first | assumption | exact up_eq | exact (up_ne (by omega)).trans (by first | assumption | exact up_eq | exact (up_ne (by omega)).trans (by first | assumption | exact up_eq | exact (up_ne (by omega)).trans (by first | assumption | exact up_eq)))) (by omega) (by rfl) ?_
          refine V_iload_n (q := 54) dX7_addRow_53 rfl rfl ?_
          refine V_iload_n (q := 55) dX7_addRow_54 rfl rfl ?_
          refine CiX7_272 (q := 58) rfl dX7_addRow_55 rfl (c_appendRow hF hc6 (by omega) (by omega) (by omega)) ⟨(Nat.le_of_ble_eq_true rfl), (Nat.le_of_ble_eq_true rfl)⟩ (Nat.le_of_ble_eq_true rfl) (by first | assumption | exact up_eq | exact (up_ne (by omega)).trans (by first | assumption | exact up_eq | exact (up_ne (by omega)).trans (by first | assumption | exact up_eq | exact (up_ne (by omega)).trans (by first | assumption | exact up_eq)))) (by omega) (Nat.zero_le _) (Nat.zero_le _) (fun y w1 hw1 => ?_)
          obtain ⟨rfl, hS1, hF1⟩ := hw1
          skip
          exact V_iret dX7_addRow_58 rfl (Nat.le_of_ble_eq_true rfl) (Nat.le_of_ble_eq_true rfl) (⟨rfl, _, rfl, hO.now hS1 hF1⟩)
        · skip
          rw [if_pos hc6]
          refine V_aload_n (q := 39) dX7_addRow_38 rfl rfl rfl ?_
          refine GX7_53 (q := 42) rfl dX7_addRow_39 rfl (by first | assumption | exact up_eq | exact (up_ne (by omega)).trans (by first | assumption | exact up_eq | exact (up_ne (by omega)).trans (by first | assumption | exact up_eq | exact (up_ne (by omega)).trans (by first | assumption | exact up_eq)))) (by omega) (by rfl) ?_
          refine V_iconst (q := 43) (v := nI 1) dX7_addRow_42 rfl (by decide) ?_
          refine V_bipush (q := 45) (v := nI 6) dX7_addRow_43 rfl (by decide) ?_
          refine CiX7_269 (q := 48) rfl dX7_addRow_45 rfl (c_refuse hr (by omega)) ⟨(Nat.le_of_ble_eq_true rfl), (Nat.le_of_ble_eq_true rfl)⟩ (Nat.le_of_ble_eq_true rfl) (by first | assumption | exact up_eq | exact (up_ne (by omega)).trans (by first | assumption | exact up_eq | exact (up_ne (by omega)).trans (by first | assumption | exact up_eq | exact (up_ne (by omega)).trans (by first | assumption | exact up_eq)))) (by omega) (Nat.zero_le _) (Nat.zero_le _) (fun y w1 hw1 => ?_)
          obtain ⟨rfl, rfl⟩ := hw1
          skip
          exact V_iret dX7_addRow_48 rfl (Nat.le_of_ble_eq_true rfl) (Nat.le_of_ble_eq_true rfl) (⟨rfl, _, rfl, hO.ref⟩)
theorem c_dropRow (h : OW g w n o b N r) {x : Int32} : CtI g l MX7_dropRow 2 [rf g o, .int x] w n (OP g w n o b r (dropA x N)) := by
  have hO := h
  obtain ⟨h0, hS, hJ, hr, hn⟩ := h
  obtain ⟨hso, hsn⟩ := hS.obj
  obtain ⟨G, π, LL, FF, hF⟩ := hS
  have hc6 := hF.2.2.2.1
  rcases i3_lt x (sC N) (by omega) with hx | ⟨i, hi, rfl⟩
  · rw [show dropA x N = (-1, N, none) by unfold dropA; rw [idx_no hx]]
    refine Ct.ofs (M := MX7_dropRow) (ls := [some _, some _]) (by decide +kernel) (by exact (Nat.le_of_ble_eq_true rfl)) (by rfl) (by rfl) (by rfl) ?_
    refine V_aload_n (q := 1) dX7_dropRow_0 rfl rfl rfl ?_
    refine GX7_10 (q := 4) rfl dX7_dropRow_1 rfl (by first | assumption | exact up_eq | exact (up_ne (by omega)).trans (by first | assumption | exact up_eq | exact (up_ne (by omega)).trans (by first | assumption | exact up_eq | exact (up_ne (by omega)).trans (by first | assumption | exact up_eq)))) (by omega) (by rfl) ?_
    refine V_iload_n (q := 5) dX7_dropRow_4 rfl rfl ?_
    refine CiX7_275 (q := 8) rfl dX7_dropRow_5 rfl (c_removeRow_out hF hx) ⟨(Nat.le_of_ble_eq_true rfl), (Nat.le_of_ble_eq_true rfl)⟩ (Nat.le_of_ble_eq_true rfl) (by first | assumption | exact up_eq | exact (up_ne (by omega)).trans (by first | assumption | exact up_eq | exact (up_ne (by omega)).trans (by first | assumption | exact up_eq | exact (up_ne (by omega)).trans (by first | assumption | exact up_eq)))) (by omega) (Nat.zero_le _) (Nat.zero_le _) (fun y w1 hw1 => ?_)
    obtain ⟨rfl, rfl⟩ := hw1
    skip
    refine V_if_eq (q := 11) (tgt := 21) dX7_dropRow_8 (by decide) rfl (fun _ => ?_) (fun h9 => absurd rfl h9)
    refine V_iconst (q := 22) (v := (-1)) dX7_dropRow_21 rfl (by decide) ?_
    exact V_iret dX7_dropRow_22 rfl (Nat.le_of_ble_eq_true rfl) (Nat.le_of_ble_eq_true rfl) (⟨rfl, _, rfl, hO.fit⟩)
  · rw [show dropA (nI i) N = (nI (sC N - 1), remS N i, none) by unfold dropA; rw [idx_yes hi (by omega)]]
    refine Ct.ofs (M := MX7_dropRow) (ls := [some _, some _]) (by decide +kernel) (by exact (Nat.le_of_ble_eq_true rfl)) (by rfl) (by rfl) (by rfl) ?_
    refine V_aload_n (q := 1) dX7_dropRow_0 rfl rfl rfl ?_
    refine GX7_10 (q := 4) rfl dX7_dropRow_1 rfl (by first | assumption | exact up_eq | exact (up_ne (by omega)).trans (by first | assumption | exact up_eq | exact (up_ne (by omega)).trans (by first | assumption | exact up_eq | exact (up_ne (by omega)).trans (by first | assumption | exact up_eq)))) (by omega) (by rfl) ?_
    refine V_iload_n (q := 5) dX7_dropRow_4 rfl rfl ?_
    refine CiX7_275 (q := 8) rfl dX7_dropRow_5 rfl (c_removeRow_in hF hi) ⟨(Nat.le_of_ble_eq_true rfl), (Nat.le_of_ble_eq_true rfl)⟩ (Nat.le_of_ble_eq_true rfl) (by first | assumption | exact up_eq | exact (up_ne (by omega)).trans (by first | assumption | exact up_eq | exact (up_ne (by omega)).trans (by first | assumption | exact up_eq | exact (up_ne (by omega)).trans (by first | assumption | exact up_eq)))) (by omega) (Nat.zero_le _) (Nat.zero_le _) (fun y w1 hw1 => ?_)
    obtain ⟨rfl, hS1, hF1⟩ := hw1
    obtain ⟨hso1, hsn1⟩ := hS1.obj
    have b0 : w1 o = eO 7 (xfs g o b) := (hF1 _ (by omega)).trans h0
    skip
    refine V_if_eq (q := 11) (tgt := 21) dX7_dropRow_8 (by decide) rfl (fun h9 => absurd h9 (by decide)) (fun _ => ?_)
    refine V_aload_n (q := 12) dX7_dropRow_11 rfl rfl rfl ?_
    refine GX7_10 (q := 15) rfl dX7_dropRow_12 rfl (by first | assumption | exact up_eq | exact (up_ne (by omega)).trans (by first | assumption | exact up_eq | exact (up_ne (by omega)).trans (by first | assumption | exact up_eq | exact (up_ne (by omega)).trans (by first | assumption | exact up_eq)))) (by omega) (by rfl) ?_
    refine GX7_172 (q := 18) rfl dX7_dropRow_15 rfl (by first | assumption | exact up_eq | exact (up_ne (by omega)).trans (by first | assumption | exact up_eq | exact (up_ne (by omega)).trans (by first | assumption | exact up_eq | exact (up_ne (by omega)).trans (by first | assumption | exact up_eq)))) (by omega) (by rfl) ?_
    refine V_goto (tgt := 22) dX7_dropRow_18 (by decide) ?_
    exact V_iret dX7_dropRow_22 rfl (Nat.le_of_ble_eq_true rfl) (Nat.le_of_ble_eq_true rfl) (⟨rfl, _, rfl, hO.now hS1 hF1⟩)
/-- one row set, at its place -/
theorem Sd.setRow {G : Nat → Option Nat} {π LL : Nat → Nat} {FF : Nat → Nat → Int32} {a : Nat} (hF : SdF g w n a N G π LL FF) {i : Nat} (hi : i < sC N) {F' : Nat → Int32} {h' : Nat → Nat} (hh : Fh F' (sR N i).1 h') : Sd g (va_up w (π i + 1) (eI g 8 F')) n a (setR N i ((sR N i).1, h')) ∧ Fr w (va_up w (π i + 1) (eI g 8 F')) a := by
  obtain ⟨h0, h1, hn, hc, hG, hd, hR⟩ := hF
  obtain ⟨k1, k2, k3, k4⟩ := hG i (by omega)
  refine ⟨⟨G, π, LL, fun k => if k = i then F' else FF k, (up_ne (by omega)).trans h0, (up_ne (by omega)).trans h1, hn, hc, fun k hk => ?_, hd, fun k hk => ?_⟩, fun j hj => up_ne (by omega)⟩
  · obtain ⟨q1, q2, q3, q4⟩ := hG k hk
    refine ⟨q1, q2, q3, ?_⟩
    show RwF g _ n (π k) (LL k) (if k = i then F' else FF k)
    by_cases e : k = i
    · subst e
      rw [if_pos rfl]
      exact ⟨(up_ne (by omega)).trans k4.1, up_eq, k4.2.2.1, k4.2.2.2⟩
    · have dj := hd k i hk (by omega) e
      rw [if_neg e]
      exact q4.frame (up_ne (by omega)) (up_ne (by omega))
  · obtain ⟨e1, e2, e3⟩ := hR k hk
    show LL k = (if k = i then ((sR N i).1, h') else sR N k).1 ∧ 0 < LL k ∧ Fh (if k = i then F' else FF k) (LL k) (if k = i then ((sR N i).1, h') else sR N k).2
    by_cases e : k = i
    · subst e
      rw [if_pos rfl, if_pos rfl]
      exact ⟨e1, e2, by rw [e1]; exact hh⟩
    · rw [if_neg e, if_neg e]
      exact ⟨e1, e2, e3⟩
theorem c_turnRow (h : OW g w n o b N r) {x : Int32} : CtI g l MX7_turnRow 2 [rf g o, .int x] w n (OP g w n o b r (turnA x N)) := by
  have hO := h
  obtain ⟨h0, hS, hJ, hr, hn⟩ := h
  obtain ⟨hso, hsn⟩ := hS.obj
  obtain ⟨G, π, LL, FF, hF⟩ := hS
  have hc6 := hF.2.2.2.1
  rcases i3_lt x (sC N) (by omega) with hx | ⟨i, hi, rfl⟩
  · rw [show turnA x N = (-1, N, none) by unfold turnA; rw [idx_no hx]]
    refine Ct.ofs (M := MX7_turnRow) (ls := [some _, some _, none]) (by decide +kernel) (by exact (Nat.le_of_ble_eq_true rfl)) (by rfl) (by rfl) (by rfl) ?_
    refine V_aload_n (q := 1) dX7_turnRow_0 rfl rfl rfl ?_
    refine GX7_10 (q := 4) rfl dX7_turnRow_1 rfl (by first | assumption | exact up_eq | exact (up_ne (by omega)).trans (by first | assumption | exact up_eq | exact (up_ne (by omega)).trans (by first | assumption | exact up_eq | exact (up_ne (by omega)).trans (by first | assumption | exact up_eq)))) (by omega) (by rfl) ?_
    refine V_iload_n (q := 5) dX7_turnRow_4 rfl rfl ?_
    refine CrX7_98 (q := 8) rfl dX7_turnRow_5 rfl (c_rowNum_out hF hx) ⟨(Nat.le_of_ble_eq_true rfl), (Nat.le_of_ble_eq_true rfl)⟩ (Nat.le_of_ble_eq_true rfl) (by first | assumption | exact up_eq | exact (up_ne (by omega)).trans (by first | assumption | exact up_eq | exact (up_ne (by omega)).trans (by first | assumption | exact up_eq | exact (up_ne (by omega)).trans (by first | assumption | exact up_eq)))) (by omega) (Nat.zero_le _) (Nat.zero_le _) ?_
    refine V_astore_n (q := 9) (ls' := [_, _, _]) dX7_turnRow_8 rfl (by decide) (by rfl) rfl rfl ?_
    refine V_aload_n (q := 10) dX7_turnRow_9 rfl rfl rfl ?_
    refine V_ifnonnullN (q := 13) dX7_turnRow_10 rfl ?_
    refine V_iconst (q := 14) (v := (-1)) dX7_turnRow_13 rfl (by decide) ?_
    exact V_iret dX7_turnRow_14 rfl (Nat.le_of_ble_eq_true rfl) (Nat.le_of_ble_eq_true rfl) (⟨rfl, _, rfl, hO.fit⟩)
  · rw [show turnA (nI i) N = (nI (rotN (sR N i).2 (sR N i).1 0), setR N i ((sR N i).1, rotN (sR N i).2 (sR N i).1), none) by unfold turnA; rw [idx_yes hi (by omega)]]
    obtain ⟨k1, k2, k3, k4⟩ := hF.2.2.2.2.1 i (by omega)
    obtain ⟨e1, e2, e3⟩ := hF.2.2.2.2.2.2 i hi
    have hrow := k4.1
    have hL8 := k4.2.2.2
    refine Ct.ofs (M := MX7_turnRow) (ls := [some _, some _, none]) (by decide +kernel) (by exact (Nat.le_of_ble_eq_true rfl)) (by rfl) (by rfl) (by rfl) ?_
    refine V_aload_n (q := 1) dX7_turnRow_0 rfl rfl rfl ?_
    refine GX7_10 (q := 4) rfl dX7_turnRow_1 rfl (by first | assumption | exact up_eq | exact (up_ne (by omega)).trans (by first | assumption | exact up_eq | exact (up_ne (by omega)).trans (by first | assumption | exact up_eq | exact (up_ne (by omega)).trans (by first | assumption | exact up_eq)))) (by omega) (by rfl) ?_
    refine V_iload_n (q := 5) dX7_turnRow_4 rfl rfl ?_
    refine CrX7_98 (q := 8) rfl dX7_turnRow_5 rfl (c_rowNum_in hF hi) ⟨(Nat.le_of_ble_eq_true rfl), (Nat.le_of_ble_eq_true rfl)⟩ (Nat.le_of_ble_eq_true rfl) (by first | assumption | exact up_eq | exact (up_ne (by omega)).trans (by first | assumption | exact up_eq | exact (up_ne (by omega)).trans (by first | assumption | exact up_eq | exact (up_ne (by omega)).trans (by first | assumption | exact up_eq)))) (by omega) (Nat.zero_le _) (Nat.zero_le _) ?_
    refine V_astore_n (q := 9) (ls' := [_, _, _]) dX7_turnRow_8 rfl (by decide) (by rfl) rfl rfl ?_
    refine V_aload_n (q := 10) dX7_turnRow_9 rfl rfl rfl ?_
    refine V_ifnonnull (tgt := 15) dX7_turnRow_10 (by decide) ?_
    refine V_aload_n (q := 16) dX7_turnRow_15 rfl rfl rfl ?_
    refine CvX7_278 (q := 19) rfl dX7_turnRow_16 rfl (c_moveFirst k4 e2) ⟨(Nat.le_of_ble_eq_true rfl), (Nat.le_of_ble_eq_true rfl)⟩ (Nat.le_of_ble_eq_true rfl) (by first | assumption | exact up_eq | exact (up_ne (by omega)).trans (by first | assumption | exact up_eq | exact (up_ne (by omega)).trans (by first | assumption | exact up_eq | exact (up_ne (by omega)).trans (by first | assumption | exact up_eq)))) (by omega) (Nat.zero_le _) (Nat.zero_le _) (fun w1 hw1 => ?_)
    obtain ⟨F', f1, f2, rfl⟩ := hw1
    have hh : Fh F' (sR N i).1 (rotN (sR N i).2 (sR N i).1) := by
      intro j hj
      rw [← e1] at hj ⊢
      unfold rotN
      by_cases z : j + 1 < LL i
      · rw [Nat.mod_eq_of_lt z, f1 j z]
        exact e3 (j + 1) z
      · have z2 : j = LL i - 1 := by omega
        rw [show j + 1 = LL i by omega, Nat.mod_self, z2, f2]
        exact e3 0 e2
    obtain ⟨s1, s2⟩ := Sd.setRow hF hi hh
    have k5 : RwF g (va_up w (π i + 1) (eI g 8 F')) n (π i) (LL i) F' := ⟨(up_ne (by omega)).trans k4.1, up_eq, k4.2.2.1, k4.2.2.2⟩
    refine V_aload_n (q := 20) dX7_turnRow_19 rfl rfl rfl ?_
    refine V_iconst (q := 21) (v := nI 0) dX7_turnRow_20 rfl (by decide) ?_
    refine CrX7_134 (q := 24) rfl dX7_turnRow_21 rfl (c_heightAt k5 (by rw [e1]; exact hh) e2) ⟨(Nat.le_of_ble_eq_true rfl), (Nat.le_of_ble_eq_true rfl)⟩ (Nat.le_of_ble_eq_true rfl) (by first | assumption | exact up_eq | exact (up_ne (by omega)).trans (by first | assumption | exact up_eq | exact (up_ne (by omega)).trans (by first | assumption | exact up_eq | exact (up_ne (by omega)).trans (by first | assumption | exact up_eq)))) (by omega) (Nat.zero_le _) (Nat.zero_le _) ?_
    skip
    exact V_iret dX7_turnRow_24 rfl (Nat.le_of_ble_eq_true rfl) (Nat.le_of_ble_eq_true rfl) (⟨rfl, _, rfl, hO.now s1 s2⟩)
end OPS
