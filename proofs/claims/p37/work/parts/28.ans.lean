/-! answers about rows and the juggler -/
noncomputable def rowW (row : RowT) (k : Nat) : Int32 := if k = 0 then nI row.1 else if k = 1 then nI (sumN row.2 row.1) else if k = 2 then ballI row.2 row.1 else if k = 3 then clshI row.2 row.1 else if k = 4 then nI (perN row.2 row.1) else if k = 5 then nI (maxN row.2 row.1) else if k = 6 then nI (oddN row.2 row.1) else primI row.2 row.1
noncomputable def rowA (x y : Int32) (N : StT) : Int32 := match idx x (sC N) with
  | none => -1
  | some i => match idx y 8 with
    | none => -2
    | some k => rowW (sR N i) k
def thrAt (x y : Int32) (N : StT) : Int32 := match idx x (sC N) with
  | none => -1
  | some i => match idx y (sR N i).1 with
    | none => -1
    | some k => nI ((sR N i).2 k)
noncomputable def clnA (x : Int32) (N : StT) : Int32 := match idx x (sC N) with
  | none => -1
  | some i => if clN (sR N i).2 (sR N i).1 = (sR N i).1 then 1 else 0
noncomputable def stoA (x y : Int32) (N : StT) : Int32 := match idx x (sC N) with
  | none => -1
  | some i => match idx y (sR N i).1 with
    | none => -1
    | some k => if clN (sR N i).2 (sR N i).1 = (sR N i).1 then nI (stN (sR N i).2 (sR N i).1 k) else -4
noncomputable def canK (s h : Nat) : Bool := @decide (canN s h) (Classical.propDecidable _)
noncomputable def canC (s : Nat) : Nat → Nat := fa_cnt (canK s)
noncomputable def jugW (N : StT) (k : Nat) : Int32 := if k = 0 then nI (sS N) else if k = 1 then nI (popc (sS N)) else if k = 2 then nI (sB N) else if k = 3 then nI (sB N % 2) else if k = 4 then nI (sS N % 2) else nI (canC (sS N) 10)
noncomputable def jugA (x : Int32) (N : StT) : Int32 := match idx x 6 with
  | none => -2
  | some k => jugW N k
noncomputable def couB (x : Int32) (s h : Nat) : Bool := canK s h && decide (nI (canC s h) = x)
noncomputable def couA (x : Int32) (N : StT) : Int32 := if fa_first (couB x (sS N)) 10 < 10 then nI (fa_first (couB x (sS N)) 10) else -1
theorem canK_t {s h : Nat} : canK s h = true ↔ canN s h := by unfold canK; exact @decide_eq_true_iff _ (Classical.propDecidable _)
theorem canK_f {s h : Nat} : canK s h = false ↔ ¬ canN s h := by unfold canK; exact @decide_eq_false_iff_not _ (Classical.propDecidable _)
theorem out_int {x : Int32} {c : Nat} (h : x < 0 ∨ nI c ≤ x) (hc : c < 2 ^ 31) : x.toInt < 0 ∨ (c : Int) ≤ x.toInt := by
  have e : (nI c).toInt = (c : Int) := nI_toInt hc
  have e0 : (0 : Int32).toInt = 0 := by decide
  rcases h with h | h
  · rw [fa_lt, e0] at h; exact Or.inl h
  · rw [fa_le, e] at h; exact Or.inr h
section AN
variable {g : GG} {l : Launch} {w : HW} {n o : Nat} {X : XT}
theorem X_rowOf (h : XW g w n o X) {x y : Int32} : CtR g l MX7_rowOf 4 [rf g o, .int x, .int y] w n (.int (rowA x y (xN X))) := by
  obtain ⟨B, hX⟩ := h
  obtain ⟨h0, hS, h2, h3, h4, h5, h6, h7, h8, h9, h10⟩ := hX
  obtain ⟨hso, hsn⟩ := hS.obj
  obtain ⟨G, π, LL, FF, hF⟩ := hS
  have hc6 := hF.2.2.2.1
  rcases i3_lt x (sC (xN X)) (by omega) with hx | ⟨i, hi, rfl⟩
  · rw [show rowA x y (xN X) = -1 by unfold rowA; rw [idx_no hx]]
    refine Ct.ofs (M := MX7_rowOf) (ls := [some _, some _, some _, none]) (by decide +kernel) (by exact (Nat.le_of_ble_eq_true rfl)) (by rfl) (by rfl) (by rfl) ?_
    refine V_aload_n (q := 1) dX7_rowOf_0 rfl rfl rfl ?_
    refine GX7_10 (q := 4) rfl dX7_rowOf_1 rfl (by first | assumption | exact up_eq | exact (up_ne (by omega)).trans (by first | assumption | exact up_eq | exact (up_ne (by omega)).trans (by first | assumption | exact up_eq | exact (up_ne (by omega)).trans (by first | assumption | exact up_eq)))) (by omega) (by rfl) ?_
    refine V_iload_n (q := 5) dX7_rowOf_4 rfl rfl ?_
    refine CrX7_98 (q := 8) rfl dX7_rowOf_5 rfl (c_rowNum_out hF hx) ⟨(Nat.le_of_ble_eq_true rfl), (Nat.le_of_ble_eq_true rfl)⟩ (Nat.le_of_ble_eq_true rfl) (by first | assumption | exact up_eq | exact (up_ne (by omega)).trans (by first | assumption | exact up_eq | exact (up_ne (by omega)).trans (by first | assumption | exact up_eq | exact (up_ne (by omega)).trans (by first | assumption | exact up_eq)))) (by omega) (Nat.zero_le _) (Nat.zero_le _) ?_
    refine V_astore_n (q := 9) (ls' := [_, _, _, _]) dX7_rowOf_8 rfl (by decide) (by rfl) rfl rfl ?_
    refine V_aload_n (q := 10) dX7_rowOf_9 rfl rfl rfl ?_
    refine V_ifnonnullN (q := 13) dX7_rowOf_10 rfl ?_
    refine V_iconst (q := 14) (v := (-1)) dX7_rowOf_13 rfl (by decide) ?_
    exact V_iret dX7_rowOf_14 rfl (Nat.le_of_ble_eq_true rfl) (Nat.le_of_ble_eq_true rfl) (⟨rfl, rfl, rfl⟩)
  obtain ⟨k1, k2, k3, k4⟩ := hF.2.2.2.2.1 i (by omega)
  obtain ⟨e1, e2, e3⟩ := hF.2.2.2.2.2.2 i hi
  have hrow := k4.1
  have hL8 := k4.2.2.2
  rw [e1] at k4 e3 e2 hL8 hrow
  refine Ct.ofs (M := MX7_rowOf) (ls := [some _, some _, some _, none]) (by decide +kernel) (by exact (Nat.le_of_ble_eq_true rfl)) (by rfl) (by rfl) (by rfl) ?_
  refine V_aload_n (q := 1) dX7_rowOf_0 rfl rfl rfl ?_
  refine GX7_10 (q := 4) rfl dX7_rowOf_1 rfl (by first | assumption | exact up_eq | exact (up_ne (by omega)).trans (by first | assumption | exact up_eq | exact (up_ne (by omega)).trans (by first | assumption | exact up_eq | exact (up_ne (by omega)).trans (by first | assumption | exact up_eq)))) (by omega) (by rfl) ?_
  refine V_iload_n (q := 5) dX7_rowOf_4 rfl rfl ?_
  refine CrX7_98 (q := 8) rfl dX7_rowOf_5 rfl (c_rowNum_in hF hi) ⟨(Nat.le_of_ble_eq_true rfl), (Nat.le_of_ble_eq_true rfl)⟩ (Nat.le_of_ble_eq_true rfl) (by first | assumption | exact up_eq | exact (up_ne (by omega)).trans (by first | assumption | exact up_eq | exact (up_ne (by omega)).trans (by first | assumption | exact up_eq | exact (up_ne (by omega)).trans (by first | assumption | exact up_eq)))) (by omega) (Nat.zero_le _) (Nat.zero_le _) ?_
  refine V_astore_n (q := 9) (ls' := [_, _, _, _]) dX7_rowOf_8 rfl (by decide) (by rfl) rfl rfl ?_
  refine V_aload_n (q := 10) dX7_rowOf_9 rfl rfl rfl ?_
  refine V_ifnonnull (tgt := 15) dX7_rowOf_10 (by decide) ?_
  refine V_iload_n (q := 16) dX7_rowOf_15 rfl rfl ?_
  rcases i3_lt y 8 (by decide) with hy | ⟨k, hk, rfl⟩
  · rw [show rowA (nI i) y (xN X) = -2 by unfold rowA; rw [idx_yes hi (by omega)]; show (match idx y 8 with | none => _ | some k => _) = _; rw [idx_no hy]]
    refine V_tabOut (tgt := 104) dX7_rowOf_16 (by have := out_int hy (by decide); omega) (by decide) ?_
    refine V_bipush (q := 106) (v := (-2)) dX7_rowOf_104 rfl (by decide) ?_
    exact V_iret dX7_rowOf_106 rfl (Nat.le_of_ble_eq_true rfl) (Nat.le_of_ble_eq_true rfl) (⟨rfl, rfl, rfl⟩)
  rw [show rowA (nI i) (nI k) (xN X) = rowW (sR (xN X) i) k by unfold rowA; rw [idx_yes hi (by omega)]; show (match idx (nI k) 8 with | none => _ | some k => _) = _; rw [idx_yes hk (by decide)]]
  rcases (by omega : k = 0 ∨ k = 1 ∨ k = 2 ∨ k = 3 ∨ k = 4 ∨ k = 5 ∨ k = 6 ∨ k = 7) with rfl | rfl | rfl | rfl | rfl | rfl | rfl | rfl
  · skip
    refine V_tabIn (off := 48) (tgt := 64) dX7_rowOf_16 (by decide) (by decide) (by decide) (by decide) ?_
    refine V_aload_n (q := 65) dX7_rowOf_64 rfl rfl rfl ?_
    refine GX7_102 (q := 68) rfl dX7_rowOf_65 rfl (by first | assumption | exact up_eq | exact (up_ne (by omega)).trans (by first | assumption | exact up_eq | exact (up_ne (by omega)).trans (by first | assumption | exact up_eq | exact (up_ne (by omega)).trans (by first | assumption | exact up_eq)))) (by omega) (by rfl) ?_
    exact V_iret dX7_rowOf_68 rfl (Nat.le_of_ble_eq_true rfl) (Nat.le_of_ble_eq_true rfl) (⟨rfl, rfl, rfl⟩)
  · skip
    refine V_tabIn (off := 53) (tgt := 69) dX7_rowOf_16 (by decide) (by decide) (by decide) (by decide) ?_
    refine V_aload_n (q := 70) dX7_rowOf_69 rfl rfl rfl ?_
    refine CrX7_108 (q := 73) rfl dX7_rowOf_70 rfl (c_rsum k4 e3) ⟨(Nat.le_of_ble_eq_true rfl), (Nat.le_of_ble_eq_true rfl)⟩ (Nat.le_of_ble_eq_true rfl) (by first | assumption | exact up_eq | exact (up_ne (by omega)).trans (by first | assumption | exact up_eq | exact (up_ne (by omega)).trans (by first | assumption | exact up_eq | exact (up_ne (by omega)).trans (by first | assumption | exact up_eq)))) (by omega) (Nat.zero_le _) (Nat.zero_le _) ?_
    skip
    exact V_iret dX7_rowOf_73 rfl (Nat.le_of_ble_eq_true rfl) (Nat.le_of_ble_eq_true rfl) (⟨rfl, rfl, rfl⟩)
  · skip
    refine V_tabIn (off := 58) (tgt := 74) dX7_rowOf_16 (by decide) (by decide) (by decide) (by decide) ?_
    refine V_aload_n (q := 75) dX7_rowOf_74 rfl rfl rfl ?_
    refine CrX7_112 (q := 78) rfl dX7_rowOf_75 rfl (c_rballs k4 e3 e2) ⟨(Nat.le_of_ble_eq_true rfl), (Nat.le_of_ble_eq_true rfl)⟩ (Nat.le_of_ble_eq_true rfl) (by first | assumption | exact up_eq | exact (up_ne (by omega)).trans (by first | assumption | exact up_eq | exact (up_ne (by omega)).trans (by first | assumption | exact up_eq | exact (up_ne (by omega)).trans (by first | assumption | exact up_eq)))) (by omega) (Nat.zero_le _) (Nat.zero_le _) ?_
    skip
    exact V_iret dX7_rowOf_78 rfl (Nat.le_of_ble_eq_true rfl) (Nat.le_of_ble_eq_true rfl) (⟨rfl, rfl, rfl⟩)
  · skip
    refine V_tabIn (off := 63) (tgt := 79) dX7_rowOf_16 (by decide) (by decide) (by decide) (by decide) ?_
    refine V_aload_n (q := 80) dX7_rowOf_79 rfl rfl rfl ?_
    refine CrX7_115 (q := 83) rfl dX7_rowOf_80 rfl (c_clash k4 e3) ⟨(Nat.le_of_ble_eq_true rfl), (Nat.le_of_ble_eq_true rfl)⟩ (Nat.le_of_ble_eq_true rfl) (by first | assumption | exact up_eq | exact (up_ne (by omega)).trans (by first | assumption | exact up_eq | exact (up_ne (by omega)).trans (by first | assumption | exact up_eq | exact (up_ne (by omega)).trans (by first | assumption | exact up_eq)))) (by omega) (Nat.zero_le _) (Nat.zero_le _) ?_
    skip
    exact V_iret dX7_rowOf_83 rfl (Nat.le_of_ble_eq_true rfl) (Nat.le_of_ble_eq_true rfl) (⟨rfl, rfl, rfl⟩)
  · skip
    refine V_tabIn (off := 68) (tgt := 84) dX7_rowOf_16 (by decide) (by decide) (by decide) (by decide) ?_
    refine V_aload_n (q := 85) dX7_rowOf_84 rfl rfl rfl ?_
    refine CrX7_118 (q := 88) rfl dX7_rowOf_85 rfl (c_period k4 e3 e2) ⟨(Nat.le_of_ble_eq_true rfl), (Nat.le_of_ble_eq_true rfl)⟩ (Nat.le_of_ble_eq_true rfl) (by first | assumption | exact up_eq | exact (up_ne (by omega)).trans (by first | assumption | exact up_eq | exact (up_ne (by omega)).trans (by first | assumption | exact up_eq | exact (up_ne (by omega)).trans (by first | assumption | exact up_eq)))) (by omega) (Nat.zero_le _) (Nat.zero_le _) ?_
    skip
    exact V_iret dX7_rowOf_88 rfl (Nat.le_of_ble_eq_true rfl) (Nat.le_of_ble_eq_true rfl) (⟨rfl, rfl, rfl⟩)
  · skip
    refine V_tabIn (off := 73) (tgt := 89) dX7_rowOf_16 (by decide) (by decide) (by decide) (by decide) ?_
    refine V_aload_n (q := 90) dX7_rowOf_89 rfl rfl rfl ?_
    refine CrX7_121 (q := 93) rfl dX7_rowOf_90 rfl (c_rmax k4 e3) ⟨(Nat.le_of_ble_eq_true rfl), (Nat.le_of_ble_eq_true rfl)⟩ (Nat.le_of_ble_eq_true rfl) (by first | assumption | exact up_eq | exact (up_ne (by omega)).trans (by first | assumption | exact up_eq | exact (up_ne (by omega)).trans (by first | assumption | exact up_eq | exact (up_ne (by omega)).trans (by first | assumption | exact up_eq)))) (by omega) (Nat.zero_le _) (Nat.zero_le _) ?_
    skip
    exact V_iret dX7_rowOf_93 rfl (Nat.le_of_ble_eq_true rfl) (Nat.le_of_ble_eq_true rfl) (⟨rfl, rfl, rfl⟩)
  · skip
    refine V_tabIn (off := 78) (tgt := 94) dX7_rowOf_16 (by decide) (by decide) (by decide) (by decide) ?_
    refine V_aload_n (q := 95) dX7_rowOf_94 rfl rfl rfl ?_
    refine CrX7_124 (q := 98) rfl dX7_rowOf_95 rfl (c_rodd k4 e3) ⟨(Nat.le_of_ble_eq_true rfl), (Nat.le_of_ble_eq_true rfl)⟩ (Nat.le_of_ble_eq_true rfl) (by first | assumption | exact up_eq | exact (up_ne (by omega)).trans (by first | assumption | exact up_eq | exact (up_ne (by omega)).trans (by first | assumption | exact up_eq | exact (up_ne (by omega)).trans (by first | assumption | exact up_eq)))) (by omega) (Nat.zero_le _) (Nat.zero_le _) ?_
    skip
    exact V_iret dX7_rowOf_98 rfl (Nat.le_of_ble_eq_true rfl) (Nat.le_of_ble_eq_true rfl) (⟨rfl, rfl, rfl⟩)
  · skip
    refine V_tabIn (off := 83) (tgt := 99) dX7_rowOf_16 (by decide) (by decide) (by decide) (by decide) ?_
    refine V_aload_n (q := 100) dX7_rowOf_99 rfl rfl rfl ?_
    refine CrX7_127 (q := 103) rfl dX7_rowOf_100 rfl (c_statesDiffer k4 e3 e2) ⟨(Nat.le_of_ble_eq_true rfl), (Nat.le_of_ble_eq_true rfl)⟩ (Nat.le_of_ble_eq_true rfl) (by first | assumption | exact up_eq | exact (up_ne (by omega)).trans (by first | assumption | exact up_eq | exact (up_ne (by omega)).trans (by first | assumption | exact up_eq | exact (up_ne (by omega)).trans (by first | assumption | exact up_eq)))) (by omega) (Nat.zero_le _) (Nat.zero_le _) ?_
    skip
    exact V_iret dX7_rowOf_103 rfl (Nat.le_of_ble_eq_true rfl) (Nat.le_of_ble_eq_true rfl) (⟨rfl, rfl, rfl⟩)
theorem X_throwAt (h : XW g w n o X) {x y : Int32} : CtR g l MX7_throwAt 1 [rf g o, .int x, .int y] w n (.int (thrAt x y (xN X))) := by
  obtain ⟨B, hX⟩ := h
  obtain ⟨h0, hS, h2, h3, h4, h5, h6, h7, h8, h9, h10⟩ := hX
  obtain ⟨hso, hsn⟩ := hS.obj
  obtain ⟨G, π, LL, FF, hF⟩ := hS
  have hc6 := hF.2.2.2.1
  rcases i3_lt x (sC (xN X)) (by omega) with hx | ⟨i, hi, rfl⟩
  · rw [show thrAt x y (xN X) = -1 by unfold thrAt; rw [idx_no hx]]
    refine Ct.ofs (M := MX7_throwAt) (ls := [some _, some _, some _, none]) (by decide +kernel) (by exact (Nat.le_of_ble_eq_true rfl)) (by rfl) (by rfl) (by rfl) ?_
    refine V_aload_n (q := 1) dX7_throwAt_0 rfl rfl rfl ?_
    refine GX7_10 (q := 4) rfl dX7_throwAt_1 rfl (by first | assumption | exact up_eq | exact (up_ne (by omega)).trans (by first | assumption | exact up_eq | exact (up_ne (by omega)).trans (by first | assumption | exact up_eq | exact (up_ne (by omega)).trans (by first | assumption | exact up_eq)))) (by omega) (by rfl) ?_
    refine V_iload_n (q := 5) dX7_throwAt_4 rfl rfl ?_
    refine CrX7_98 (q := 8) rfl dX7_throwAt_5 rfl (c_rowNum_out hF hx) ⟨(Nat.le_of_ble_eq_true rfl), (Nat.le_of_ble_eq_true rfl)⟩ (Nat.le_of_ble_eq_true rfl) (by first | assumption | exact up_eq | exact (up_ne (by omega)).trans (by first | assumption | exact up_eq | exact (up_ne (by omega)).trans (by first | assumption | exact up_eq | exact (up_ne (by omega)).trans (by first | assumption | exact up_eq)))) (by omega) (Nat.zero_le _) (Nat.zero_le _) ?_
    refine V_astore_n (q := 9) (ls' := [_, _, _, _]) dX7_throwAt_8 rfl (by decide) (by rfl) rfl rfl ?_
    refine V_aload_n (q := 10) dX7_throwAt_9 rfl rfl rfl ?_
    refine V_ifnullN (tgt := 21) dX7_throwAt_10 (by decide) ?_
    refine V_iconst (q := 22) (v := (-1)) dX7_throwAt_21 rfl (by decide) ?_
    exact V_iret dX7_throwAt_22 rfl (Nat.le_of_ble_eq_true rfl) (Nat.le_of_ble_eq_true rfl) (⟨rfl, rfl, rfl⟩)
  obtain ⟨k1, k2, k3, k4⟩ := hF.2.2.2.2.1 i (by omega)
  obtain ⟨e1, e2, e3⟩ := hF.2.2.2.2.2.2 i hi
  have hrow := k4.1
  have hL8 := k4.2.2.2
  rw [e1] at k4 e3 e2 hL8 hrow
  refine Ct.ofs (M := MX7_throwAt) (ls := [some _, some _, some _, none]) (by decide +kernel) (by exact (Nat.le_of_ble_eq_true rfl)) (by rfl) (by rfl) (by rfl) ?_
  refine V_aload_n (q := 1) dX7_throwAt_0 rfl rfl rfl ?_
  refine GX7_10 (q := 4) rfl dX7_throwAt_1 rfl (by first | assumption | exact up_eq | exact (up_ne (by omega)).trans (by first | assumption | exact up_eq | exact (up_ne (by omega)).trans (by first | assumption | exact up_eq | exact (up_ne (by omega)).trans (by first | assumption | exact up_eq)))) (by omega) (by rfl) ?_
  refine V_iload_n (q := 5) dX7_throwAt_4 rfl rfl ?_
  refine CrX7_98 (q := 8) rfl dX7_throwAt_5 rfl (c_rowNum_in hF hi) ⟨(Nat.le_of_ble_eq_true rfl), (Nat.le_of_ble_eq_true rfl)⟩ (Nat.le_of_ble_eq_true rfl) (by first | assumption | exact up_eq | exact (up_ne (by omega)).trans (by first | assumption | exact up_eq | exact (up_ne (by omega)).trans (by first | assumption | exact up_eq | exact (up_ne (by omega)).trans (by first | assumption | exact up_eq)))) (by omega) (Nat.zero_le _) (Nat.zero_le _) ?_
  refine V_astore_n (q := 9) (ls' := [_, _, _, _]) dX7_throwAt_8 rfl (by decide) (by rfl) rfl rfl ?_
  refine V_aload_n (q := 10) dX7_throwAt_9 rfl rfl rfl ?_
  refine V_ifnull (q := 13) dX7_throwAt_10 rfl ?_
  refine V_aload_n (q := 14) dX7_throwAt_13 rfl rfl rfl ?_
  refine V_iload_n (q := 15) dX7_throwAt_14 rfl rfl ?_
  rcases i3_lt y (sR (xN X) i).1 (by omega) with hy | ⟨k, hk, rfl⟩
  · rw [show thrAt (nI i) y (xN X) = -1 by unfold thrAt; rw [idx_yes hi (by omega)]; show (match idx y (sR (xN X) i).1 with | none => _ | some k => _) = _; rw [idx_no hy]]
    refine CrX7_130 (q := 18) rfl dX7_throwAt_15 rfl (c_hasBeat_out k4 hy) ⟨(Nat.le_of_ble_eq_true rfl), (Nat.le_of_ble_eq_true rfl)⟩ (Nat.le_of_ble_eq_true rfl) (by first | assumption | exact up_eq | exact (up_ne (by omega)).trans (by first | assumption | exact up_eq | exact (up_ne (by omega)).trans (by first | assumption | exact up_eq | exact (up_ne (by omega)).trans (by first | assumption | exact up_eq)))) (by omega) (Nat.zero_le _) (Nat.zero_le _) ?_
    refine V_if_ne (q := 21) (tgt := 23) dX7_throwAt_18 (by decide) rfl (fun h9 => absurd (by decide) h9) (fun _ => ?_)
    refine V_iconst (q := 22) (v := (-1)) dX7_throwAt_21 rfl (by decide) ?_
    exact V_iret dX7_throwAt_22 rfl (Nat.le_of_ble_eq_true rfl) (Nat.le_of_ble_eq_true rfl) (⟨rfl, rfl, rfl⟩)
  rw [show thrAt (nI i) (nI k) (xN X) = nI ((sR (xN X) i).2 k) by unfold thrAt; rw [idx_yes hi (by omega)]; show (match idx (nI k) (sR (xN X) i).1 with | none => _ | some k => _) = _; rw [idx_yes hk (by omega)]]
  refine CrX7_130 (q := 18) rfl dX7_throwAt_15 rfl (c_hasBeat_in k4 hk) ⟨(Nat.le_of_ble_eq_true rfl), (Nat.le_of_ble_eq_true rfl)⟩ (Nat.le_of_ble_eq_true rfl) (by first | assumption | exact up_eq | exact (up_ne (by omega)).trans (by first | assumption | exact up_eq | exact (up_ne (by omega)).trans (by first | assumption | exact up_eq | exact (up_ne (by omega)).trans (by first | assumption | exact up_eq)))) (by omega) (Nat.zero_le _) (Nat.zero_le _) ?_
  refine V_if_ne (q := 21) (tgt := 23) dX7_throwAt_18 (by decide) rfl (fun _ => ?_) (fun h9 => absurd h9 (by decide))
  refine V_aload_n (q := 24) dX7_throwAt_23 rfl rfl rfl ?_
  refine V_iload_n (q := 25) dX7_throwAt_24 rfl rfl ?_
  refine CrX7_134 (q := 28) rfl dX7_throwAt_25 rfl (c_heightAt k4 e3 hk) ⟨(Nat.le_of_ble_eq_true rfl), (Nat.le_of_ble_eq_true rfl)⟩ (Nat.le_of_ble_eq_true rfl) (by first | assumption | exact up_eq | exact (up_ne (by omega)).trans (by first | assumption | exact up_eq | exact (up_ne (by omega)).trans (by first | assumption | exact up_eq | exact (up_ne (by omega)).trans (by first | assumption | exact up_eq)))) (by omega) (Nat.zero_le _) (Nat.zero_le _) ?_
  skip
  exact V_iret dX7_throwAt_28 rfl (Nat.le_of_ble_eq_true rfl) (Nat.le_of_ble_eq_true rfl) (⟨rfl, rfl, rfl⟩)
theorem X_isClean (h : XW g w n o X) {x : Int32} : CtR g l MX7_isClean 2 [rf g o, .int x] w n (.int (clnA x (xN X))) := by
  obtain ⟨B, hX⟩ := h
  obtain ⟨h0, hS, h2, h3, h4, h5, h6, h7, h8, h9, h10⟩ := hX
  obtain ⟨hso, hsn⟩ := hS.obj
  obtain ⟨G, π, LL, FF, hF⟩ := hS
  have hc6 := hF.2.2.2.1
  rcases i3_lt x (sC (xN X)) (by omega) with hx | ⟨i, hi, rfl⟩
  · rw [show clnA x (xN X) = -1 by unfold clnA; rw [idx_no hx]]
    refine Ct.ofs (M := MX7_isClean) (ls := [some _, some _, none]) (by decide +kernel) (by exact (Nat.le_of_ble_eq_true rfl)) (by rfl) (by rfl) (by rfl) ?_
    refine V_aload_n (q := 1) dX7_isClean_0 rfl rfl rfl ?_
    refine GX7_10 (q := 4) rfl dX7_isClean_1 rfl (by first | assumption | exact up_eq | exact (up_ne (by omega)).trans (by first | assumption | exact up_eq | exact (up_ne (by omega)).trans (by first | assumption | exact up_eq | exact (up_ne (by omega)).trans (by first | assumption | exact up_eq)))) (by omega) (by rfl) ?_
    refine V_iload_n (q := 5) dX7_isClean_4 rfl rfl ?_
    refine CrX7_98 (q := 8) rfl dX7_isClean_5 rfl (c_rowNum_out hF hx) ⟨(Nat.le_of_ble_eq_true rfl), (Nat.le_of_ble_eq_true rfl)⟩ (Nat.le_of_ble_eq_true rfl) (by first | assumption | exact up_eq | exact (up_ne (by omega)).trans (by first | assumption | exact up_eq | exact (up_ne (by omega)).trans (by first | assumption | exact up_eq | exact (up_ne (by omega)).trans (by first | assumption | exact up_eq)))) (by omega) (Nat.zero_le _) (Nat.zero_le _) ?_
    refine V_astore_n (q := 9) (ls' := [_, _, _]) dX7_isClean_8 rfl (by decide) (by rfl) rfl rfl ?_
    refine V_aload_n (q := 10) dX7_isClean_9 rfl rfl rfl ?_
    refine V_ifnonnullN (q := 13) dX7_isClean_10 rfl ?_
    refine V_iconst (q := 14) (v := (-1)) dX7_isClean_13 rfl (by decide) ?_
    exact V_iret dX7_isClean_14 rfl (Nat.le_of_ble_eq_true rfl) (Nat.le_of_ble_eq_true rfl) (⟨rfl, rfl, rfl⟩)
  obtain ⟨k1, k2, k3, k4⟩ := hF.2.2.2.2.1 i (by omega)
  obtain ⟨e1, e2, e3⟩ := hF.2.2.2.2.2.2 i hi
  have hrow := k4.1
  have hL8 := k4.2.2.2
  rw [e1] at k4 e3 e2 hL8 hrow
  rw [show clnA (nI i) (xN X) = if clN (sR (xN X) i).2 (sR (xN X) i).1 = (sR (xN X) i).1 then 1 else 0 by unfold clnA; rw [idx_yes hi (by omega)]]
  refine Ct.ofs (M := MX7_isClean) (ls := [some _, some _, none]) (by decide +kernel) (by exact (Nat.le_of_ble_eq_true rfl)) (by rfl) (by rfl) (by rfl) ?_
  refine V_aload_n (q := 1) dX7_isClean_0 rfl rfl rfl ?_
  refine GX7_10 (q := 4) rfl dX7_isClean_1 rfl (by first | assumption | exact up_eq | exact (up_ne (by omega)).trans (by first | assumption | exact up_eq | exact (up_ne (by omega)).trans (by first | assumption | exact up_eq | exact (up_ne (by omega)).trans (by first | assumption | exact up_eq)))) (by omega) (by rfl) ?_
  refine V_iload_n (q := 5) dX7_isClean_4 rfl rfl ?_
  refine CrX7_98 (q := 8) rfl dX7_isClean_5 rfl (c_rowNum_in hF hi) ⟨(Nat.le_of_ble_eq_true rfl), (Nat.le_of_ble_eq_true rfl)⟩ (Nat.le_of_ble_eq_true rfl) (by first | assumption | exact up_eq | exact (up_ne (by omega)).trans (by first | assumption | exact up_eq | exact (up_ne (by omega)).trans (by first | assumption | exact up_eq | exact (up_ne (by omega)).trans (by first | assumption | exact up_eq)))) (by omega) (Nat.zero_le _) (Nat.zero_le _) ?_
  refine V_astore_n (q := 9) (ls' := [_, _, _]) dX7_isClean_8 rfl (by decide) (by rfl) rfl rfl ?_
  refine V_aload_n (q := 10) dX7_isClean_9 rfl rfl rfl ?_
  refine V_ifnonnull (tgt := 15) dX7_isClean_10 (by decide) ?_
  refine V_aload_n (q := 16) dX7_isClean_15 rfl rfl rfl ?_
  refine CrX7_137 (q := 19) rfl dX7_isClean_16 rfl (c_marks k4 e3 e2) ⟨(Nat.le_of_ble_eq_true rfl), (Nat.le_of_ble_eq_true rfl)⟩ (Nat.le_of_ble_eq_true rfl) (by first | assumption | exact up_eq | exact (up_ne (by omega)).trans (by first | assumption | exact up_eq | exact (up_ne (by omega)).trans (by first | assumption | exact up_eq | exact (up_ne (by omega)).trans (by first | assumption | exact up_eq)))) (by omega) (Nat.zero_le _) (Nat.zero_le _) ?_
  by_cases hcl : clN (sR (xN X) i).2 (sR (xN X) i).1 = (sR (xN X) i).1
  · rw [if_pos hcl]
    refine V_if_eq (q := 22) (tgt := 26) dX7_isClean_19 (by decide) rfl (fun h9 => absurd h9 (by decide)) (fun _ => ?_)
    refine V_iconst (q := 23) (v := nI 1) dX7_isClean_22 rfl (by decide) ?_
    refine V_goto (tgt := 27) dX7_isClean_23 (by decide) ?_
    exact V_iret dX7_isClean_27 rfl (Nat.le_of_ble_eq_true rfl) (Nat.le_of_ble_eq_true rfl) (⟨rfl, rfl, rfl⟩)
  · rw [if_neg hcl]
    refine V_if_eq (q := 22) (tgt := 26) dX7_isClean_19 (by decide) rfl (fun _ => ?_) (fun h9 => absurd rfl h9)
    refine V_iconst (q := 27) (v := nI 0) dX7_isClean_26 rfl (by decide) ?_
    exact V_iret dX7_isClean_27 rfl (Nat.le_of_ble_eq_true rfl) (Nat.le_of_ble_eq_true rfl) (⟨rfl, rfl, rfl⟩)
theorem X_isCleanAgain (h : XW g w n o X) {x : Int32} : CtR g l MX7_isCleanAgain 2 [rf g o, .int x] w n (.int (clnA x (xN X))) := by
  obtain ⟨B, hX⟩ := h
  obtain ⟨h0, hS, h2, h3, h4, h5, h6, h7, h8, h9, h10⟩ := hX
  obtain ⟨hso, hsn⟩ := hS.obj
  obtain ⟨G, π, LL, FF, hF⟩ := hS
  have hc6 := hF.2.2.2.1
  rcases i3_lt x (sC (xN X)) (by omega) with hx | ⟨i, hi, rfl⟩
  · rw [show clnA x (xN X) = -1 by unfold clnA; rw [idx_no hx]]
    refine Ct.ofs (M := MX7_isCleanAgain) (ls := [some _, some _, none]) (by decide +kernel) (by exact (Nat.le_of_ble_eq_true rfl)) (by rfl) (by rfl) (by rfl) ?_
    refine V_aload_n (q := 1) dX7_isCleanAgain_0 rfl rfl rfl ?_
    refine GX7_10 (q := 4) rfl dX7_isCleanAgain_1 rfl (by first | assumption | exact up_eq | exact (up_ne (by omega)).trans (by first | assumption | exact up_eq | exact (up_ne (by omega)).trans (by first | assumption | exact up_eq | exact (up_ne (by omega)).trans (by first | assumption | exact up_eq)))) (by omega) (by rfl) ?_
    refine V_iload_n (q := 5) dX7_isCleanAgain_4 rfl rfl ?_
    refine CrX7_98 (q := 8) rfl dX7_isCleanAgain_5 rfl (c_rowNum_out hF hx) ⟨(Nat.le_of_ble_eq_true rfl), (Nat.le_of_ble_eq_true rfl)⟩ (Nat.le_of_ble_eq_true rfl) (by first | assumption | exact up_eq | exact (up_ne (by omega)).trans (by first | assumption | exact up_eq | exact (up_ne (by omega)).trans (by first | assumption | exact up_eq | exact (up_ne (by omega)).trans (by first | assumption | exact up_eq)))) (by omega) (Nat.zero_le _) (Nat.zero_le _) ?_
    refine V_astore_n (q := 9) (ls' := [_, _, _]) dX7_isCleanAgain_8 rfl (by decide) (by rfl) rfl rfl ?_
    refine V_aload_n (q := 10) dX7_isCleanAgain_9 rfl rfl rfl ?_
    refine V_ifnonnullN (q := 13) dX7_isCleanAgain_10 rfl ?_
    refine V_iconst (q := 14) (v := (-1)) dX7_isCleanAgain_13 rfl (by decide) ?_
    exact V_iret dX7_isCleanAgain_14 rfl (Nat.le_of_ble_eq_true rfl) (Nat.le_of_ble_eq_true rfl) (⟨rfl, rfl, rfl⟩)
  obtain ⟨k1, k2, k3, k4⟩ := hF.2.2.2.2.1 i (by omega)
  obtain ⟨e1, e2, e3⟩ := hF.2.2.2.2.2.2 i hi
  have hrow := k4.1
  have hL8 := k4.2.2.2
  rw [e1] at k4 e3 e2 hL8 hrow
  rw [show clnA (nI i) (xN X) = if clN (sR (xN X) i).2 (sR (xN X) i).1 = (sR (xN X) i).1 then 1 else 0 by unfold clnA; rw [idx_yes hi (by omega)]]
  refine Ct.ofs (M := MX7_isCleanAgain) (ls := [some _, some _, none]) (by decide +kernel) (by exact (Nat.le_of_ble_eq_true rfl)) (by rfl) (by rfl) (by rfl) ?_
  refine V_aload_n (q := 1) dX7_isCleanAgain_0 rfl rfl rfl ?_
  refine GX7_10 (q := 4) rfl dX7_isCleanAgain_1 rfl (by first | assumption | exact up_eq | exact (up_ne (by omega)).trans (by first | assumption | exact up_eq | exact (up_ne (by omega)).trans (by first | assumption | exact up_eq | exact (up_ne (by omega)).trans (by first | assumption | exact up_eq)))) (by omega) (by rfl) ?_
  refine V_iload_n (q := 5) dX7_isCleanAgain_4 rfl rfl ?_
  refine CrX7_98 (q := 8) rfl dX7_isCleanAgain_5 rfl (c_rowNum_in hF hi) ⟨(Nat.le_of_ble_eq_true rfl), (Nat.le_of_ble_eq_true rfl)⟩ (Nat.le_of_ble_eq_true rfl) (by first | assumption | exact up_eq | exact (up_ne (by omega)).trans (by first | assumption | exact up_eq | exact (up_ne (by omega)).trans (by first | assumption | exact up_eq | exact (up_ne (by omega)).trans (by first | assumption | exact up_eq)))) (by omega) (Nat.zero_le _) (Nat.zero_le _) ?_
  refine V_astore_n (q := 9) (ls' := [_, _, _]) dX7_isCleanAgain_8 rfl (by decide) (by rfl) rfl rfl ?_
  refine V_aload_n (q := 10) dX7_isCleanAgain_9 rfl rfl rfl ?_
  refine V_ifnonnull (tgt := 15) dX7_isCleanAgain_10 (by decide) ?_
  refine V_aload_n (q := 16) dX7_isCleanAgain_15 rfl rfl rfl ?_
  refine CrX7_115 (q := 19) rfl dX7_isCleanAgain_16 rfl (c_clash k4 e3) ⟨(Nat.le_of_ble_eq_true rfl), (Nat.le_of_ble_eq_true rfl)⟩ (Nat.le_of_ble_eq_true rfl) (by first | assumption | exact up_eq | exact (up_ne (by omega)).trans (by first | assumption | exact up_eq | exact (up_ne (by omega)).trans (by first | assumption | exact up_eq | exact (up_ne (by omega)).trans (by first | assumption | exact up_eq)))) (by omega) (Nat.zero_le _) (Nat.zero_le _) ?_
  by_cases hcl : clN (sR (xN X) i).2 (sR (xN X) i).1 = (sR (xN X) i).1
  · rw [if_pos hcl]
    refine V_topi (clshI_no hcl) ?_
    refine V_bipush (q := 21) (v := (-4)) dX7_isCleanAgain_19 rfl (by decide) ?_
    refine V_icmp_ne (q := 24) (tgt := 28) dX7_isCleanAgain_21 (by decide) rfl (fun h9 => absurd (by decide) h9) (fun _ => ?_)
    refine V_iconst (q := 25) (v := nI 1) dX7_isCleanAgain_24 rfl (by decide) ?_
    refine V_goto (tgt := 29) dX7_isCleanAgain_25 (by decide) ?_
    exact V_iret dX7_isCleanAgain_29 rfl (Nat.le_of_ble_eq_true rfl) (Nat.le_of_ble_eq_true rfl) (⟨rfl, rfl, rfl⟩)
  · rw [if_neg hcl]
    have := clN_le (sR (xN X) i).2 (sR (xN X) i).1
    refine V_topi (clshI_yes hcl) ?_
    refine V_bipush (q := 21) (v := (-4)) dX7_isCleanAgain_19 rfl (by decide) ?_
    refine V_icmp_ne (q := 24) (tgt := 28) dX7_isCleanAgain_21 (by decide) rfl (fun _ => ?_) (fun h9 => absurd h9 (nI_m4 (by omega)))
    refine V_iconst (q := 29) (v := nI 0) dX7_isCleanAgain_28 rfl (by decide) ?_
    exact V_iret dX7_isCleanAgain_29 rfl (Nat.le_of_ble_eq_true rfl) (Nat.le_of_ble_eq_true rfl) (⟨rfl, rfl, rfl⟩)
theorem X_stateOf (h : XW g w n o X) {x y : Int32} : CtR g l MX7_stateOf 2 [rf g o, .int x, .int y] w n (.int (stoA x y (xN X))) := by
  obtain ⟨B, hX⟩ := h
  obtain ⟨h0, hS, h2, h3, h4, h5, h6, h7, h8, h9, h10⟩ := hX
  obtain ⟨hso, hsn⟩ := hS.obj
  obtain ⟨G, π, LL, FF, hF⟩ := hS
  have hc6 := hF.2.2.2.1
  rcases i3_lt x (sC (xN X)) (by omega) with hx | ⟨i, hi, rfl⟩
  · rw [show stoA x y (xN X) = -1 by unfold stoA; rw [idx_no hx]]
    refine Ct.ofs (M := MX7_stateOf) (ls := [some _, some _, some _, none]) (by decide +kernel) (by exact (Nat.le_of_ble_eq_true rfl)) (by rfl) (by rfl) (by rfl) ?_
    refine V_aload_n (q := 1) dX7_stateOf_0 rfl rfl rfl ?_
    refine GX7_10 (q := 4) rfl dX7_stateOf_1 rfl (by first | assumption | exact up_eq | exact (up_ne (by omega)).trans (by first | assumption | exact up_eq | exact (up_ne (by omega)).trans (by first | assumption | exact up_eq | exact (up_ne (by omega)).trans (by first | assumption | exact up_eq)))) (by omega) (by rfl) ?_
    refine V_iload_n (q := 5) dX7_stateOf_4 rfl rfl ?_
    refine CrX7_98 (q := 8) rfl dX7_stateOf_5 rfl (c_rowNum_out hF hx) ⟨(Nat.le_of_ble_eq_true rfl), (Nat.le_of_ble_eq_true rfl)⟩ (Nat.le_of_ble_eq_true rfl) (by first | assumption | exact up_eq | exact (up_ne (by omega)).trans (by first | assumption | exact up_eq | exact (up_ne (by omega)).trans (by first | assumption | exact up_eq | exact (up_ne (by omega)).trans (by first | assumption | exact up_eq)))) (by omega) (Nat.zero_le _) (Nat.zero_le _) ?_
    refine V_astore_n (q := 9) (ls' := [_, _, _, _]) dX7_stateOf_8 rfl (by decide) (by rfl) rfl rfl ?_
    refine V_aload_n (q := 10) dX7_stateOf_9 rfl rfl rfl ?_
    refine V_ifnullN (tgt := 21) dX7_stateOf_10 (by decide) ?_
    refine V_iconst (q := 22) (v := (-1)) dX7_stateOf_21 rfl (by decide) ?_
    exact V_iret dX7_stateOf_22 rfl (Nat.le_of_ble_eq_true rfl) (Nat.le_of_ble_eq_true rfl) (⟨rfl, rfl, rfl⟩)
  obtain ⟨k1, k2, k3, k4⟩ := hF.2.2.2.2.1 i (by omega)
  obtain ⟨e1, e2, e3⟩ := hF.2.2.2.2.2.2 i hi
  have hrow := k4.1
  have hL8 := k4.2.2.2
  rw [e1] at k4 e3 e2 hL8 hrow
  refine Ct.ofs (M := MX7_stateOf) (ls := [some _, some _, some _, none]) (by decide +kernel) (by exact (Nat.le_of_ble_eq_true rfl)) (by rfl) (by rfl) (by rfl) ?_
  refine V_aload_n (q := 1) dX7_stateOf_0 rfl rfl rfl ?_
  refine GX7_10 (q := 4) rfl dX7_stateOf_1 rfl (by first | assumption | exact up_eq | exact (up_ne (by omega)).trans (by first | assumption | exact up_eq | exact (up_ne (by omega)).trans (by first | assumption | exact up_eq | exact (up_ne (by omega)).trans (by first | assumption | exact up_eq)))) (by omega) (by rfl) ?_
  refine V_iload_n (q := 5) dX7_stateOf_4 rfl rfl ?_
  refine CrX7_98 (q := 8) rfl dX7_stateOf_5 rfl (c_rowNum_in hF hi) ⟨(Nat.le_of_ble_eq_true rfl), (Nat.le_of_ble_eq_true rfl)⟩ (Nat.le_of_ble_eq_true rfl) (by first | assumption | exact up_eq | exact (up_ne (by omega)).trans (by first | assumption | exact up_eq | exact (up_ne (by omega)).trans (by first | assumption | exact up_eq | exact (up_ne (by omega)).trans (by first | assumption | exact up_eq)))) (by omega) (Nat.zero_le _) (Nat.zero_le _) ?_
  refine V_astore_n (q := 9) (ls' := [_, _, _, _]) dX7_stateOf_8 rfl (by decide) (by rfl) rfl rfl ?_
  refine V_aload_n (q := 10) dX7_stateOf_9 rfl rfl rfl ?_
  refine V_ifnull (q := 13) dX7_stateOf_10 rfl ?_
  refine V_aload_n (q := 14) dX7_stateOf_13 rfl rfl rfl ?_
  refine V_iload_n (q := 15) dX7_stateOf_14 rfl rfl ?_
  rcases i3_lt y (sR (xN X) i).1 (by omega) with hy | ⟨k, hk, rfl⟩
  · rw [show stoA (nI i) y (xN X) = -1 by unfold stoA; rw [idx_yes hi (by omega)]; show (match idx y (sR (xN X) i).1 with | none => _ | some k => _) = _; rw [idx_no hy]]
    refine CrX7_130 (q := 18) rfl dX7_stateOf_15 rfl (c_hasBeat_out k4 hy) ⟨(Nat.le_of_ble_eq_true rfl), (Nat.le_of_ble_eq_true rfl)⟩ (Nat.le_of_ble_eq_true rfl) (by first | assumption | exact up_eq | exact (up_ne (by omega)).trans (by first | assumption | exact up_eq | exact (up_ne (by omega)).trans (by first | assumption | exact up_eq | exact (up_ne (by omega)).trans (by first | assumption | exact up_eq)))) (by omega) (Nat.zero_le _) (Nat.zero_le _) ?_
    refine V_if_ne (q := 21) (tgt := 23) dX7_stateOf_18 (by decide) rfl (fun h9 => absurd (by decide) h9) (fun _ => ?_)
    refine V_iconst (q := 22) (v := (-1)) dX7_stateOf_21 rfl (by decide) ?_
    exact V_iret dX7_stateOf_22 rfl (Nat.le_of_ble_eq_true rfl) (Nat.le_of_ble_eq_true rfl) (⟨rfl, rfl, rfl⟩)
  rw [show stoA (nI i) (nI k) (xN X) = if clN (sR (xN X) i).2 (sR (xN X) i).1 = (sR (xN X) i).1 then nI (stN (sR (xN X) i).2 (sR (xN X) i).1 k) else -4 by unfold stoA; rw [idx_yes hi (by omega)]; show (match idx (nI k) (sR (xN X) i).1 with | none => _ | some k => _) = _; rw [idx_yes hk (by omega)]]
  refine CrX7_130 (q := 18) rfl dX7_stateOf_15 rfl (c_hasBeat_in k4 hk) ⟨(Nat.le_of_ble_eq_true rfl), (Nat.le_of_ble_eq_true rfl)⟩ (Nat.le_of_ble_eq_true rfl) (by first | assumption | exact up_eq | exact (up_ne (by omega)).trans (by first | assumption | exact up_eq | exact (up_ne (by omega)).trans (by first | assumption | exact up_eq | exact (up_ne (by omega)).trans (by first | assumption | exact up_eq)))) (by omega) (Nat.zero_le _) (Nat.zero_le _) ?_
  refine V_if_ne (q := 21) (tgt := 23) dX7_stateOf_18 (by decide) rfl (fun _ => ?_) (fun h9 => absurd h9 (by decide))
  refine V_aload_n (q := 24) dX7_stateOf_23 rfl rfl rfl ?_
  refine CrX7_137 (q := 27) rfl dX7_stateOf_24 rfl (c_marks k4 e3 e2) ⟨(Nat.le_of_ble_eq_true rfl), (Nat.le_of_ble_eq_true rfl)⟩ (Nat.le_of_ble_eq_true rfl) (by first | assumption | exact up_eq | exact (up_ne (by omega)).trans (by first | assumption | exact up_eq | exact (up_ne (by omega)).trans (by first | assumption | exact up_eq | exact (up_ne (by omega)).trans (by first | assumption | exact up_eq)))) (by omega) (Nat.zero_le _) (Nat.zero_le _) ?_
  by_cases hcl : clN (sR (xN X) i).2 (sR (xN X) i).1 = (sR (xN X) i).1
  · rw [if_pos hcl]
    refine V_topi (if_pos hcl) ?_
    refine V_if_eq (q := 30) (tgt := 38) dX7_stateOf_27 (by decide) rfl (fun h9 => absurd h9 (by decide)) (fun _ => ?_)
    refine V_aload_n (q := 31) dX7_stateOf_30 rfl rfl rfl ?_
    refine V_iload_n (q := 32) dX7_stateOf_31 rfl rfl ?_
    refine CrX7_141 (q := 35) rfl dX7_stateOf_32 rfl (c_stateAt k4 e3 e2 hk) ⟨(Nat.le_of_ble_eq_true rfl), (Nat.le_of_ble_eq_true rfl)⟩ (Nat.le_of_ble_eq_true rfl) (by first | assumption | exact up_eq | exact (up_ne (by omega)).trans (by first | assumption | exact up_eq | exact (up_ne (by omega)).trans (by first | assumption | exact up_eq | exact (up_ne (by omega)).trans (by first | assumption | exact up_eq)))) (by omega) (Nat.zero_le _) (Nat.zero_le _) ?_
    refine V_goto (tgt := 40) dX7_stateOf_35 (by decide) ?_
    exact V_iret dX7_stateOf_40 rfl (Nat.le_of_ble_eq_true rfl) (Nat.le_of_ble_eq_true rfl) (⟨rfl, rfl, rfl⟩)
  · rw [if_neg hcl]
    refine V_topi (if_neg hcl) ?_
    refine V_if_eq (q := 30) (tgt := 38) dX7_stateOf_27 (by decide) rfl (fun _ => ?_) (fun h9 => absurd rfl h9)
    refine V_bipush (q := 40) (v := (-4)) dX7_stateOf_38 rfl (by decide) ?_
    exact V_iret dX7_stateOf_40 rfl (Nat.le_of_ble_eq_true rfl) (Nat.le_of_ble_eq_true rfl) (⟨rfl, rfl, rfl⟩)
theorem c_countPossible {s : Nat} (hs : s < 512) : CtR g l MX7_countPossible 1 [.int (nI s)] w n (.int (nI (canC s 10))) := by
  refine Ct.ofs (M := MX7_countPossible) (ls := [some _, none, none]) (by decide +kernel) (by exact (Nat.le_of_ble_eq_true rfl)) (by rfl) (by rfl) (by rfl) ?_
  refine V_iconst (q := 1) (v := nI 0) dX7_countPossible_0 rfl (by decide) ?_
  refine V_istore_n (q := 2) (ls' := [_, _, _]) dX7_countPossible_1 rfl (by decide) (by rfl) rfl ?_
  refine V_iconst (q := 3) (v := nI 0) dX7_countPossible_2 rfl (by decide) ?_
  refine V_istore_n (q := 4) (ls' := [_, _, _]) dX7_countPossible_3 rfl (by decide) (by rfl) rfl ?_
  refine loopU (fun k => V g l MX7_countPossible (rmd 1 0 0) (FinM g (qR (.int (nI (canC s 10))) w n) 0 0) 4 [some (.int (nI s)), some (.int (nI (canC s k))), some (.int (nI k))] [] (w) n 0 0) 10 ?_ ?_ 0 (Nat.zero_le _)
  · skip
    refine V_iload_n (q := 5) dX7_countPossible_4 rfl rfl ?_
    refine V_bipush (q := 7) (v := nI 9) dX7_countPossible_5 rfl (by decide) ?_
    refine V_icmpN_gt (q := 10) (tgt := 27) dX7_countPossible_7 (by decide) rfl (by omega) (by omega) (fun _ => ?_) (fun h9 => by first | exact h9.elim | (exfalso; omega))
    refine V_iload_n (q := 28) dX7_countPossible_27 rfl rfl ?_
    exact V_iret dX7_countPossible_28 rfl (Nat.le_of_ble_eq_true rfl) (Nat.le_of_ble_eq_true rfl) (⟨rfl, rfl, rfl⟩)
  · intro k hk ih
    refine V_iload_n (q := 5) dX7_countPossible_4 rfl rfl ?_
    refine V_bipush (q := 7) (v := nI 9) dX7_countPossible_5 rfl (by decide) ?_
    refine V_icmpN_gt (q := 10) (tgt := 27) dX7_countPossible_7 (by decide) rfl (by omega) (by omega) (fun h9 => by first | exact h9.elim | exact absurd h9 (by assumption) | (exfalso; omega)) (fun _ => ?_)
    refine V_iload_n (q := 11) dX7_countPossible_10 rfl rfl ?_
    refine V_iload_n (q := 12) dX7_countPossible_11 rfl rfl ?_
    refine CrX7_154 (q := 15) rfl dX7_countPossible_12 rfl (c_canMake hs (by omega)) ⟨(Nat.le_of_ble_eq_true rfl), (Nat.le_of_ble_eq_true rfl)⟩ (Nat.le_of_ble_eq_true rfl) (Nat.zero_le _) (Nat.zero_le _) ?_
    by_cases hc : canN s k
    · skip
      refine V_topi (if_pos hc) ?_
      rw [show canC s (k + 1) = canC s k + 1 from fa_cnt_yes (canK_t.mpr hc)] at ih
      refine V_if_eq (q := 18) (tgt := 21) dX7_countPossible_15 (by decide) rfl (fun h9 => absurd h9 (by decide)) (fun _ => ?_)
      refine V_iinc (q := 21) (ls' := [_, _, _]) dX7_countPossible_18 rfl (by decide) (by rfl) rfl (by first | exact inc1 _ | rfl) rfl ?_
      refine V_iinc (q := 24) (ls' := [_, _, _]) dX7_countPossible_21 rfl (by decide) (by rfl) rfl (by first | exact inc1 _ | rfl) rfl ?_
      refine V_goto (tgt := 4) dX7_countPossible_24 (by decide) ?_
      exact ih
    · skip
      refine V_topi (if_neg hc) ?_
      rw [show canC s (k + 1) = canC s k from fa_cnt_no (canK_f.mpr hc)] at ih
      refine V_if_eq (q := 18) (tgt := 21) dX7_countPossible_15 (by decide) rfl (fun _ => ?_) (fun h9 => absurd rfl h9)
      refine V_iinc (q := 24) (ls' := [_, _, _]) dX7_countPossible_21 rfl (by decide) (by rfl) rfl (by first | exact inc1 _ | rfl) rfl ?_
      refine V_goto (tgt := 4) dX7_countPossible_24 (by decide) ?_
      exact ih
theorem X_juggler (h : XW g w n o X) (hK : OkS (xN X)) {x : Int32} : CtR g l MX7_juggler 2 [rf g o, .int x] w n (.int (jugA x (xN X))) := by
  obtain ⟨B, hX⟩ := h
  obtain ⟨h0, hS, h2, h3, h4, h5, h6, h7, h8, h9, h10⟩ := hX
  obtain ⟨hso, hsn⟩ := hS.obj
  obtain ⟨G, π, LL, FF, hF⟩ := hS
  have hc6 := hF.2.2.2.1
  refine Ct.ofs (M := MX7_juggler) (ls := [some _, some _]) (by decide +kernel) (by exact (Nat.le_of_ble_eq_true rfl)) (by rfl) (by rfl) (by rfl) ?_
  refine V_iload_n (q := 1) dX7_juggler_0 rfl rfl ?_
  rcases i3_lt x 6 (by decide) with hy | ⟨k, hk, rfl⟩
  · rw [show jugA x (xN X) = -2 by unfold jugA; rw [idx_no hy]]
    refine V_tabOut (tgt := 95) dX7_juggler_1 (by have := out_int hy (by decide); omega) (by decide) ?_
    refine V_bipush (q := 97) (v := (-2)) dX7_juggler_95 rfl (by decide) ?_
    exact V_iret dX7_juggler_97 rfl (Nat.le_of_ble_eq_true rfl) (Nat.le_of_ble_eq_true rfl) (⟨rfl, rfl, rfl⟩)
  rw [show jugA (nI k) (xN X) = jugW (xN X) k by unfold jugA; rw [idx_yes hk (by decide)]]
  rcases (by omega : k = 0 ∨ k = 1 ∨ k = 2 ∨ k = 3 ∨ k = 4 ∨ k = 5) with rfl | rfl | rfl | rfl | rfl | rfl
  · skip
    refine V_tabIn (off := 39) (tgt := 40) dX7_juggler_1 (by decide) (by decide) (by decide) (by decide) ?_
    refine V_aload_n (q := 41) dX7_juggler_40 rfl rfl rfl ?_
    refine GX7_10 (q := 44) rfl dX7_juggler_41 rfl (by first | assumption | exact up_eq | exact (up_ne (by omega)).trans (by first | assumption | exact up_eq | exact (up_ne (by omega)).trans (by first | assumption | exact up_eq | exact (up_ne (by omega)).trans (by first | assumption | exact up_eq)))) (by omega) (by rfl) ?_
    refine GX7_144 (q := 47) rfl dX7_juggler_44 rfl (by first | assumption | exact up_eq | exact (up_ne (by omega)).trans (by first | assumption | exact up_eq | exact (up_ne (by omega)).trans (by first | assumption | exact up_eq | exact (up_ne (by omega)).trans (by first | assumption | exact up_eq)))) (by omega) (by rfl) ?_
    exact V_iret dX7_juggler_47 rfl (Nat.le_of_ble_eq_true rfl) (Nat.le_of_ble_eq_true rfl) (⟨rfl, rfl, rfl⟩)
  · skip
    refine V_tabIn (off := 47) (tgt := 48) dX7_juggler_1 (by decide) (by decide) (by decide) (by decide) ?_
    refine V_aload_n (q := 49) dX7_juggler_48 rfl rfl rfl ?_
    refine GX7_10 (q := 52) rfl dX7_juggler_49 rfl (by first | assumption | exact up_eq | exact (up_ne (by omega)).trans (by first | assumption | exact up_eq | exact (up_ne (by omega)).trans (by first | assumption | exact up_eq | exact (up_ne (by omega)).trans (by first | assumption | exact up_eq)))) (by omega) (by rfl) ?_
    refine CrX7_147 (q := 55) rfl dX7_juggler_52 rfl (c_sballs hF hK.1) ⟨(Nat.le_of_ble_eq_true rfl), (Nat.le_of_ble_eq_true rfl)⟩ (Nat.le_of_ble_eq_true rfl) (by first | assumption | exact up_eq | exact (up_ne (by omega)).trans (by first | assumption | exact up_eq | exact (up_ne (by omega)).trans (by first | assumption | exact up_eq | exact (up_ne (by omega)).trans (by first | assumption | exact up_eq)))) (by omega) (Nat.zero_le _) (Nat.zero_le _) ?_
    skip
    exact V_iret dX7_juggler_55 rfl (Nat.le_of_ble_eq_true rfl) (Nat.le_of_ble_eq_true rfl) (⟨rfl, rfl, rfl⟩)
  · skip
    refine V_tabIn (off := 55) (tgt := 56) dX7_juggler_1 (by decide) (by decide) (by decide) (by decide) ?_
    refine V_aload_n (q := 57) dX7_juggler_56 rfl rfl rfl ?_
    refine GX7_10 (q := 60) rfl dX7_juggler_57 rfl (by first | assumption | exact up_eq | exact (up_ne (by omega)).trans (by first | assumption | exact up_eq | exact (up_ne (by omega)).trans (by first | assumption | exact up_eq | exact (up_ne (by omega)).trans (by first | assumption | exact up_eq)))) (by omega) (by rfl) ?_
    refine GX7_148 (q := 63) rfl dX7_juggler_60 rfl (by first | assumption | exact up_eq | exact (up_ne (by omega)).trans (by first | assumption | exact up_eq | exact (up_ne (by omega)).trans (by first | assumption | exact up_eq | exact (up_ne (by omega)).trans (by first | assumption | exact up_eq)))) (by omega) (by rfl) ?_
    exact V_iret dX7_juggler_63 rfl (Nat.le_of_ble_eq_true rfl) (Nat.le_of_ble_eq_true rfl) (⟨rfl, rfl, rfl⟩)
  · skip
    refine V_tabIn (off := 63) (tgt := 64) dX7_juggler_1 (by decide) (by decide) (by decide) (by decide) ?_
    refine V_aload_n (q := 65) dX7_juggler_64 rfl rfl rfl ?_
    refine GX7_10 (q := 68) rfl dX7_juggler_65 rfl (by first | assumption | exact up_eq | exact (up_ne (by omega)).trans (by first | assumption | exact up_eq | exact (up_ne (by omega)).trans (by first | assumption | exact up_eq | exact (up_ne (by omega)).trans (by first | assumption | exact up_eq)))) (by omega) (by rfl) ?_
    refine GX7_148 (q := 71) rfl dX7_juggler_68 rfl (by first | assumption | exact up_eq | exact (up_ne (by omega)).trans (by first | assumption | exact up_eq | exact (up_ne (by omega)).trans (by first | assumption | exact up_eq | exact (up_ne (by omega)).trans (by first | assumption | exact up_eq)))) (by omega) (by rfl) ?_
    refine V_iconst (q := 72) (v := nI 1) dX7_juggler_71 rfl (by decide) ?_
    refine V_iand (q := 73) dX7_juggler_72 rfl ((fa_and _ 1).trans (congrArg nI (Nat.and_one_is_mod _))) ?_
    exact V_iret dX7_juggler_73 rfl (Nat.le_of_ble_eq_true rfl) (Nat.le_of_ble_eq_true rfl) (⟨rfl, rfl, rfl⟩)
  · skip
    refine V_tabIn (off := 73) (tgt := 74) dX7_juggler_1 (by decide) (by decide) (by decide) (by decide) ?_
    refine V_aload_n (q := 75) dX7_juggler_74 rfl rfl rfl ?_
    refine GX7_10 (q := 78) rfl dX7_juggler_75 rfl (by first | assumption | exact up_eq | exact (up_ne (by omega)).trans (by first | assumption | exact up_eq | exact (up_ne (by omega)).trans (by first | assumption | exact up_eq | exact (up_ne (by omega)).trans (by first | assumption | exact up_eq)))) (by omega) (by rfl) ?_
    refine GX7_144 (q := 81) rfl dX7_juggler_78 rfl (by first | assumption | exact up_eq | exact (up_ne (by omega)).trans (by first | assumption | exact up_eq | exact (up_ne (by omega)).trans (by first | assumption | exact up_eq | exact (up_ne (by omega)).trans (by first | assumption | exact up_eq)))) (by omega) (by rfl) ?_
    refine V_iconst (q := 82) (v := nI 1) dX7_juggler_81 rfl (by decide) ?_
    refine V_iand (q := 83) dX7_juggler_82 rfl ((fa_and _ 1).trans (congrArg nI (Nat.and_one_is_mod _))) ?_
    exact V_iret dX7_juggler_83 rfl (Nat.le_of_ble_eq_true rfl) (Nat.le_of_ble_eq_true rfl) (⟨rfl, rfl, rfl⟩)
  · skip
    refine V_tabIn (off := 83) (tgt := 84) dX7_juggler_1 (by decide) (by decide) (by decide) (by decide) ?_
    refine V_aload_n (q := 85) dX7_juggler_84 rfl rfl rfl ?_
    refine GX7_10 (q := 88) rfl dX7_juggler_85 rfl (by first | assumption | exact up_eq | exact (up_ne (by omega)).trans (by first | assumption | exact up_eq | exact (up_ne (by omega)).trans (by first | assumption | exact up_eq | exact (up_ne (by omega)).trans (by first | assumption | exact up_eq)))) (by omega) (by rfl) ?_
    refine GX7_144 (q := 91) rfl dX7_juggler_88 rfl (by first | assumption | exact up_eq | exact (up_ne (by omega)).trans (by first | assumption | exact up_eq | exact (up_ne (by omega)).trans (by first | assumption | exact up_eq | exact (up_ne (by omega)).trans (by first | assumption | exact up_eq)))) (by omega) (by rfl) ?_
    refine CrX7_151 (q := 94) rfl dX7_juggler_91 rfl (c_countPossible hK.1) ⟨(Nat.le_of_ble_eq_true rfl), (Nat.le_of_ble_eq_true rfl)⟩ (Nat.le_of_ble_eq_true rfl) (Nat.zero_le _) (Nat.zero_le _) ?_
    skip
    exact V_iret dX7_juggler_94 rfl (Nat.le_of_ble_eq_true rfl) (Nat.le_of_ble_eq_true rfl) (⟨rfl, rfl, rfl⟩)
theorem X_could (h : XW g w n o X) (hK : OkS (xN X)) {x : Int32} : CtR g l MX7_could 1 [rf g o, .int x] w n (.int (couA x (xN X))) := by
  obtain ⟨B, hX⟩ := h
  obtain ⟨h0, hS, h2, h3, h4, h5, h6, h7, h8, h9, h10⟩ := hX
  obtain ⟨hso, hsn⟩ := hS.obj
  obtain ⟨G, π, LL, FF, hF⟩ := hS
  have hc6 := hF.2.2.2.1
  have hs := hK.1
  have hple := fa_first_le (couB x (sS (xN X))) 10
  have hpno := fa_first_no (couB x (sS (xN X))) 10
  have hpye := fa_first_yes (couB x (sS (xN X))) 10
  unfold couA
  generalize fa_first (couB x (sS (xN X))) 10 = p at hple hpno hpye ⊢
  refine Ct.ofs (M := MX7_could) (ls := [some _, some _, none, none]) (by decide +kernel) (by exact (Nat.le_of_ble_eq_true rfl)) (by rfl) (by rfl) (by rfl) ?_
  refine V_iconst (q := 1) (v := nI 0) dX7_could_0 rfl (by decide) ?_
  refine V_istore_n (q := 2) (ls' := [_, _, _, _]) dX7_could_1 rfl (by decide) (by rfl) rfl ?_
  refine V_iconst (q := 3) (v := nI 0) dX7_could_2 rfl (by decide) ?_
  refine V_istore_n (q := 4) (ls' := [_, _, _, _]) dX7_could_3 rfl (by decide) (by rfl) rfl ?_
  refine loopU (fun k => V g l MX7_could (rmd 1 0 0) (FinM g (qR (.int (if p < 10 then nI p else -1)) w n) 0 0) 4 [some (rf g o), some (.int x), some (.int (nI (canC (sS (xN X)) k))), some (.int (nI k))] [] (w) n 0 0) p ?_ ?_ 0 (Nat.zero_le _)
  · by_cases hp : p < 10
    · rw [if_pos hp]
      have hy := hpye hp
      unfold couB at hy
      rw [Bool.and_eq_true] at hy
      refine V_iload_n (q := 5) dX7_could_4 rfl rfl ?_
      refine V_bipush (q := 7) (v := nI 9) dX7_could_5 rfl (by decide) ?_
      refine V_icmpN_gt (q := 10) (tgt := 40) dX7_could_7 (by decide) rfl (by omega) (by omega) (fun h9 => by first | exact h9.elim | exact absurd h9 (by assumption) | (exfalso; omega)) (fun _ => ?_)
      refine V_aload_n (q := 11) dX7_could_10 rfl rfl rfl ?_
      refine GX7_10 (q := 14) rfl dX7_could_11 rfl (by first | assumption | exact up_eq | exact (up_ne (by omega)).trans (by first | assumption | exact up_eq | exact (up_ne (by omega)).trans (by first | assumption | exact up_eq | exact (up_ne (by omega)).trans (by first | assumption | exact up_eq)))) (by omega) (by rfl) ?_
      refine GX7_144 (q := 17) rfl dX7_could_14 rfl (by first | assumption | exact up_eq | exact (up_ne (by omega)).trans (by first | assumption | exact up_eq | exact (up_ne (by omega)).trans (by first | assumption | exact up_eq | exact (up_ne (by omega)).trans (by first | assumption | exact up_eq)))) (by omega) (by rfl) ?_
      refine V_iload_n (q := 18) dX7_could_17 rfl rfl ?_
      refine CrX7_154 (q := 21) rfl dX7_could_18 rfl (c_canMake hs (by omega)) ⟨(Nat.le_of_ble_eq_true rfl), (Nat.le_of_ble_eq_true rfl)⟩ (Nat.le_of_ble_eq_true rfl) (Nat.zero_le _) (Nat.zero_le _) ?_
      refine V_topi (if_pos (canK_t.mp hy.1)) ?_
      refine V_if_eq (q := 24) (tgt := 34) dX7_could_21 (by decide) rfl (fun h9 => absurd h9 (by decide)) (fun _ => ?_)
      refine V_iload_n (q := 25) dX7_could_24 rfl rfl ?_
      refine V_iload_n (q := 26) dX7_could_25 rfl rfl ?_
      refine V_icmp_ne (q := 29) (tgt := 31) dX7_could_26 (by decide) rfl (fun h9 => absurd (of_decide_eq_true hy.2) h9) (fun _ => ?_)
      refine V_iload_n (q := 30) dX7_could_29 rfl rfl ?_
      exact V_iret dX7_could_30 rfl (Nat.le_of_ble_eq_true rfl) (Nat.le_of_ble_eq_true rfl) (⟨rfl, rfl, rfl⟩)
    · rw [if_neg hp]
      refine V_iload_n (q := 5) dX7_could_4 rfl rfl ?_
      refine V_bipush (q := 7) (v := nI 9) dX7_could_5 rfl (by decide) ?_
      refine V_icmpN_gt (q := 10) (tgt := 40) dX7_could_7 (by decide) rfl (by omega) (by omega) (fun _ => ?_) (fun h9 => by first | exact h9.elim | (exfalso; omega))
      refine V_iconst (q := 41) (v := (-1)) dX7_could_40 rfl (by decide) ?_
      exact V_iret dX7_could_41 rfl (Nat.le_of_ble_eq_true rfl) (Nat.le_of_ble_eq_true rfl) (⟨rfl, rfl, rfl⟩)
  · intro k hk ih
    have hn := hpno k hk
    refine V_iload_n (q := 5) dX7_could_4 rfl rfl ?_
    refine V_bipush (q := 7) (v := nI 9) dX7_could_5 rfl (by decide) ?_
    refine V_icmpN_gt (q := 10) (tgt := 40) dX7_could_7 (by decide) rfl (by omega) (by omega) (fun h9 => by first | exact h9.elim | exact absurd h9 (by assumption) | (exfalso; omega)) (fun _ => ?_)
    refine V_aload_n (q := 11) dX7_could_10 rfl rfl rfl ?_
    refine GX7_10 (q := 14) rfl dX7_could_11 rfl (by first | assumption | exact up_eq | exact (up_ne (by omega)).trans (by first | assumption | exact up_eq | exact (up_ne (by omega)).trans (by first | assumption | exact up_eq | exact (up_ne (by omega)).trans (by first | assumption | exact up_eq)))) (by omega) (by rfl) ?_
    refine GX7_144 (q := 17) rfl dX7_could_14 rfl (by first | assumption | exact up_eq | exact (up_ne (by omega)).trans (by first | assumption | exact up_eq | exact (up_ne (by omega)).trans (by first | assumption | exact up_eq | exact (up_ne (by omega)).trans (by first | assumption | exact up_eq)))) (by omega) (by rfl) ?_
    refine V_iload_n (q := 18) dX7_could_17 rfl rfl ?_
    refine CrX7_154 (q := 21) rfl dX7_could_18 rfl (c_canMake hs (by omega)) ⟨(Nat.le_of_ble_eq_true rfl), (Nat.le_of_ble_eq_true rfl)⟩ (Nat.le_of_ble_eq_true rfl) (Nat.zero_le _) (Nat.zero_le _) ?_
    by_cases hc : canN (sS (xN X)) k
    · skip
      refine V_topi (if_pos hc) ?_
      rw [show canC (sS (xN X)) (k + 1) = canC (sS (xN X)) k + 1 from fa_cnt_yes (canK_t.mpr hc)] at ih
      have hne : ¬ nI (canC (sS (xN X)) k) = x := by
        intro e
        unfold couB at hn
        rw [canK_t.mpr hc, e, decide_eq_true rfl] at hn
        cases hn
      refine V_if_eq (q := 24) (tgt := 34) dX7_could_21 (by decide) rfl (fun h9 => absurd h9 (by decide)) (fun _ => ?_)
      refine V_iload_n (q := 25) dX7_could_24 rfl rfl ?_
      refine V_iload_n (q := 26) dX7_could_25 rfl rfl ?_
      refine V_icmp_ne (q := 29) (tgt := 31) dX7_could_26 (by decide) rfl (fun _ => ?_) (fun h9 => absurd h9 hne)
      refine V_iinc (q := 34) (ls' := [_, _, _, _]) dX7_could_31 rfl (by decide) (by rfl) rfl (by first | exact inc1 _ | rfl) rfl ?_
      refine V_iinc (q := 37) (ls' := [_, _, _, _]) dX7_could_34 rfl (by decide) (by rfl) rfl (by first | exact inc1 _ | rfl) rfl ?_
      refine V_goto (tgt := 4) dX7_could_37 (by decide) ?_
      exact ih
    · skip
      refine V_topi (if_neg hc) ?_
      rw [show canC (sS (xN X)) (k + 1) = canC (sS (xN X)) k from fa_cnt_no (canK_f.mpr hc)] at ih
      refine V_if_eq (q := 24) (tgt := 34) dX7_could_21 (by decide) rfl (fun _ => ?_) (fun h9 => absurd rfl h9)
      refine V_iinc (q := 37) (ls' := [_, _, _, _]) dX7_could_34 rfl (by decide) (by rfl) rfl (by first | exact inc1 _ | rfl) rfl ?_
      refine V_goto (tgt := 4) dX7_could_37 (by decide) ?_
      exact ih
end AN
