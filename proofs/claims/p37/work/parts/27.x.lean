/-! the whole object -/
abbrev XT : Type := StT × StT × Nat × (Nat × (Nat → StT)) × (Nat × (Nat → Nat)) × (Nat × (Nat → Nat)) × (Int32 × Int32 × Int32 × Int32)
abbrev xN (X : XT) : StT := X.1
abbrev xS (X : XT) : StT := X.2.1
abbrev xH (X : XT) : Nat := X.2.2.1
abbrev xP (X : XT) : Nat × (Nat → StT) := X.2.2.2.1
abbrev xL (X : XT) : Nat × (Nat → Nat) := X.2.2.2.2.1
abbrev xT (X : XT) : Nat × (Nat → Nat) := X.2.2.2.2.2.1
abbrev xR (X : XT) : Int32 × Int32 × Int32 × Int32 := X.2.2.2.2.2.2
def XWB (g : GG) (w : HW) (n o : Nat) (X : XT) (B : StT) : Prop := w o = eO 7 (xfs g o (nI (xH X))) ∧ Sd g w n (o + 1) (xN X) ∧ Sd g w n (o + 15) B ∧ Sd g w n (o + 29) (xS X) ∧ PaF g w n (o + 43) (xP X).1 (xP X).2 ∧ Jn g w n (o + 157) ∧ LnF g w n (o + 161) (xL X).1 (xL X).2 ∧ TxF g w n (o + 163) (xT X).1 (xT X).2 ∧ w (o + 165) = eO 3 (rfs (xR X)) ∧ (∃ F, w (o + 166) = eI g 6 F) ∧ o + 167 ≤ n
def XW (g : GG) (w : HW) (n o : Nat) (X : XT) : Prop := ∃ B, XWB g w n o X B
def FrX (w w' : HW) (o : Nat) : Prop := ∀ i, (i < o ∨ o + 167 ≤ i) → w' i = w i
def XP (g : GG) (w : HW) (n o : Nat) (res : Int32 × XT) : Int32 → HW → Prop := fun y w' => y = res.1 ∧ XW g w' n o res.2 ∧ FrX w w' o
abbrev isErr (y : Int32) : Prop := y = -1 ∨ y = -2 ∨ y = -3
def opX (X : XT) (res : OpR) : XT := (res.2.1, xS X, xH X, xP X, xL X, xT X, rfR (xR X) res.2.2)
def pushP (X : XT) (B : StT) : XT := (xN X, xS X, xH X, (min ((xP X).1 + 1) 8, conS B (xP X).2), xL X, xT X, xR X)
def chgX (X : XT) (res : OpR) : Int32 × XT := (res.1, if isErr res.1 then opX X res else pushP (opX X res) (xN X))
section XS
variable {g : GG} {l : Launch} {w : HW} {n o : Nat} {X : XT} {B : StT}
theorem FrX.tr {w1 w2 : HW} (h : FrX w w1 o) (h2 : FrX w1 w2 o) : FrX w w2 o := fun i hi => (h2 i hi).trans (h i hi)
theorem XWB.ow (h : XWB g w n o X B) : OW g w n o (nI (xH X)) (xN X) (xR X) := by
  obtain ⟨h0, h1, h2, h3, h4, h5, h6, h7, h8, h9, h10⟩ := h
  exact ⟨h0, h1, h5, h8, h10⟩
theorem XWB.op {w' : HW} {res : OpR} {x : Int32} (h : XWB g w n o X B) (hp : OP g w n o (nI (xH X)) (xR X) res x w') : x = res.1 ∧ XWB g w' n o (opX X res) B ∧ FrX w w' o := by
  obtain ⟨h0, h1, h2, h3, h4, h5, h6, h7, h8, h9, h10⟩ := h
  obtain ⟨p0, ⟨q0, q1, q2, q3, q4⟩, hF⟩ := hp
  have fr : ∀ i, o + 15 ≤ i → i < o + 157 → w' i = w i := fun i a1 a2 => hF i (by omega) (by omega) (by omega)
  exact ⟨p0, ⟨q0, q1, h2.frame (fun i a1 a2 => fr i (by omega) (by omega)), h3.frame (fun i a1 a2 => fr i (by omega) (by omega)), h4.frame (fun i a1 a2 => fr i (by omega) (by omega)), q2, h6.frame (hF _ (by omega) (by omega) (by omega)) (hF _ (by omega) (by omega) (by omega)), h7.frame (hF _ (by omega) (by omega) (by omega)) (hF _ (by omega) (by omega) (by omega)), q3, by obtain ⟨F, hF9⟩ := h9; exact ⟨F, (hF _ (by omega) (by omega) (by omega)).trans hF9⟩, h10⟩, fun i hi => hF i (by omega) (by omega) (by omega)⟩
/-- a stand of it written anew -/
theorem XWB.bef {w' : HW} {B' : StT} (h : XWB g w n o X B) (h1 : Sd g w' n (o + 15) B') (hF : Fr w w' (o + 15)) : XWB g w' n o X B' ∧ FrX w w' o := by
  obtain ⟨h0, k1, h2, h3, h4, h5, h6, h7, h8, ⟨F, h9⟩, h10⟩ := h
  exact ⟨⟨(hF _ (by omega)).trans h0, k1.frame (fun i _ _ => hF i (by omega)), h1, h3.frame (fun i _ _ => hF i (by omega)), h4.frame (fun i _ _ => hF i (by omega)), h5.frame (fun i _ _ => hF i (by omega)), h6.frame (hF _ (by omega)) (hF _ (by omega)), h7.frame (hF _ (by omega)) (hF _ (by omega)), (hF _ (by omega)).trans h8, ⟨F, (hF _ (by omega)).trans h9⟩, h10⟩, fun i hi => hF i (by omega)⟩
theorem XWB.cur {w' : HW} {N' : StT} (h : XWB g w n o X B) (h1 : Sd g w' n (o + 1) N') (hF : Fr w w' (o + 1)) : XWB g w' n o (N', xS X, xH X, xP X, xL X, xT X, xR X) B ∧ FrX w w' o := by
  obtain ⟨h0, k1, h2, h3, h4, h5, h6, h7, h8, ⟨F, h9⟩, h10⟩ := h
  exact ⟨⟨(hF _ (by omega)).trans h0, h1, h2.frame (fun i _ _ => hF i (by omega)), h3.frame (fun i _ _ => hF i (by omega)), h4.frame (fun i _ _ => hF i (by omega)), h5.frame (fun i _ _ => hF i (by omega)), h6.frame (hF _ (by omega)) (hF _ (by omega)), h7.frame (hF _ (by omega)) (hF _ (by omega)), (hF _ (by omega)).trans h8, ⟨F, (hF _ (by omega)).trans h9⟩, h10⟩, fun i hi => hF i (by omega)⟩
theorem XWB.past {w' : HW} {pk : Nat} {Hs : Nat → StT} (h : XWB g w n o X B) (h1 : PaF g w' n (o + 43) pk Hs) (hF : FrP w w' (o + 43)) : XWB g w' n o (xN X, xS X, xH X, (pk, Hs), xL X, xT X, xR X) B ∧ FrX w w' o := by
  obtain ⟨h0, k1, h2, h3, h4, h5, h6, h7, h8, ⟨F, h9⟩, h10⟩ := h
  exact ⟨⟨(hF _ (by omega)).trans h0, k1.frame (fun i _ _ => hF i (by omega)), h2.frame (fun i _ _ => hF i (by omega)), h3.frame (fun i _ _ => hF i (by omega)), h1, h5.frame (fun i _ _ => hF i (by omega)), h6.frame (hF _ (by omega)) (hF _ (by omega)), h7.frame (hF _ (by omega)) (hF _ (by omega)), (hF _ (by omega)).trans h8, ⟨F, (hF _ (by omega)).trans h9⟩, h10⟩, fun i hi => hF i (by omega)⟩
theorem c_isError {y : Int32} : CtR g l MX7_isError 0 [.int y] w n (.int (if isErr y then 1 else 0)) := by
  refine Ct.ofs (M := MX7_isError) (ls := [some _]) (by decide +kernel) (by exact (Nat.le_of_ble_eq_true rfl)) (by rfl) (by rfl) (by rfl) ?_
  refine V_iload_n (q := 1) dX7_isError_0 rfl rfl ?_
  refine V_iconst (q := 2) (v := (-1)) dX7_isError_1 rfl (by decide) ?_
  refine V_icmp_eq (q := 5) (tgt := 17) dX7_isError_2 (by decide) rfl (fun h1 => ?_) (fun h1 => ?_)
  · skip
    refine V_iconst (q := 18) (v := nI 1) dX7_isError_17 rfl (by decide) ?_
    refine V_goto (tgt := 22) dX7_isError_18 (by decide) ?_
    exact V_zret dX7_isError_22 rfl (rfl) (Nat.le_of_ble_eq_true rfl) (Nat.le_of_ble_eq_true rfl) (⟨rfl, by rw [if_pos (Or.inl h1)]; rfl, rfl⟩)
  · skip
    refine V_iload_n (q := 6) dX7_isError_5 rfl rfl ?_
    refine V_bipush (q := 8) (v := (-2)) dX7_isError_6 rfl (by decide) ?_
    refine V_icmp_eq (q := 11) (tgt := 17) dX7_isError_8 (by decide) rfl (fun h2 => ?_) (fun h2 => ?_)
    · skip
      refine V_iconst (q := 18) (v := nI 1) dX7_isError_17 rfl (by decide) ?_
      refine V_goto (tgt := 22) dX7_isError_18 (by decide) ?_
      exact V_zret dX7_isError_22 rfl (rfl) (Nat.le_of_ble_eq_true rfl) (Nat.le_of_ble_eq_true rfl) (⟨rfl, by rw [if_pos (Or.inr (Or.inl h2))]; rfl, rfl⟩)
    · skip
      refine V_iload_n (q := 12) dX7_isError_11 rfl rfl ?_
      refine V_bipush (q := 14) (v := (-3)) dX7_isError_12 rfl (by decide) ?_
      refine V_icmp_ne (q := 17) (tgt := 21) dX7_isError_14 (by decide) rfl (fun h3 => ?_) (fun h3 => ?_)
      · skip
        refine V_iconst (q := 22) (v := nI 0) dX7_isError_21 rfl (by decide) ?_
        exact V_zret dX7_isError_22 rfl (rfl) (Nat.le_of_ble_eq_true rfl) (Nat.le_of_ble_eq_true rfl) (⟨rfl, by rw [if_neg (fun q => q.elim h1 (fun q => q.elim h2 h3))]; rfl, rfl⟩)
      · skip
        refine V_iconst (q := 18) (v := nI 1) dX7_isError_17 rfl (by decide) ?_
        refine V_goto (tgt := 22) dX7_isError_18 (by decide) ?_
        exact V_zret dX7_isError_22 rfl (rfl) (Nat.le_of_ble_eq_true rfl) (Nat.le_of_ble_eq_true rfl) (⟨rfl, by rw [if_pos (Or.inr (Or.inr h3))]; rfl, rfl⟩)
theorem c_keepChange (h : XWB g w n o X B) {y : Int32} : CtI g l MX7_keepChange 4 [rf g o, .int y] w n (fun z w' => z = y ∧ XW g w' n o (if isErr y then X else pushP X B) ∧ FrX w w' o) := by
  have hO := h
  obtain ⟨h0, h1, h2, h3, h4, h5, h6, h7, h8, h9, h10⟩ := h
  have h4' := h4
  obtain ⟨pn, G, PS, p0, p1, -⟩ := h4'
  refine Ct.ofs (M := MX7_keepChange) (ls := [some _, some _]) (by decide +kernel) (by exact (Nat.le_of_ble_eq_true rfl)) (by rfl) (by rfl) (by rfl) ?_
  refine V_iload_n (q := 1) dX7_keepChange_0 rfl rfl ?_
  refine CrX7_291 (q := 4) rfl dX7_keepChange_1 rfl (c_isError) ⟨(Nat.le_of_ble_eq_true rfl), (Nat.le_of_ble_eq_true rfl)⟩ (Nat.le_of_ble_eq_true rfl) (Nat.zero_le _) (Nat.zero_le _) ?_
  by_cases he : isErr y
  · skip
    refine V_topi (if_pos he) ?_
    refine V_if_ne (q := 7) (tgt := 18) dX7_keepChange_4 (by decide) rfl (fun _ => ?_) (fun h9 => absurd h9 (by decide))
    refine V_iload_n (q := 19) dX7_keepChange_18 rfl rfl ?_
    exact V_iret dX7_keepChange_19 rfl (Nat.le_of_ble_eq_true rfl) (Nat.le_of_ble_eq_true rfl) (⟨rfl, _, rfl, rfl, by rw [if_pos he]; exact ⟨B, hO⟩, fun _ _ => rfl⟩)
  · skip
    refine V_topi (if_neg he) ?_
    refine V_if_ne (q := 7) (tgt := 18) dX7_keepChange_4 (by decide) rfl (fun h9 => absurd rfl h9) (fun _ => ?_)
    refine V_aload_n (q := 8) dX7_keepChange_7 rfl rfl rfl ?_
    refine GX7_25 (q := 11) rfl dX7_keepChange_8 rfl (by first | assumption | exact up_eq | exact (up_ne (by omega)).trans (by first | assumption | exact up_eq | exact (up_ne (by omega)).trans (by first | assumption | exact up_eq | exact (up_ne (by omega)).trans (by first | assumption | exact up_eq)))) (by omega) (by rfl) ?_
    refine V_aload_n (q := 12) dX7_keepChange_11 rfl rfl rfl ?_
    refine GX7_16 (q := 15) rfl dX7_keepChange_12 rfl (by first | assumption | exact up_eq | exact (up_ne (by omega)).trans (by first | assumption | exact up_eq | exact (up_ne (by omega)).trans (by first | assumption | exact up_eq | exact (up_ne (by omega)).trans (by first | assumption | exact up_eq)))) (by omega) (by rfl) ?_
    refine CvX7_294 (q := 18) rfl dX7_keepChange_15 rfl (c_keep h4 h2 (by omega)) ⟨(Nat.le_of_ble_eq_true rfl), (Nat.le_of_ble_eq_true rfl)⟩ (Nat.le_of_ble_eq_true rfl) (by first | assumption | exact up_eq | exact (up_ne (by omega)).trans (by first | assumption | exact up_eq | exact (up_ne (by omega)).trans (by first | assumption | exact up_eq | exact (up_ne (by omega)).trans (by first | assumption | exact up_eq)))) (by omega) (Nat.zero_le _) (Nat.zero_le _) (fun w1 hw1 => ?_)
    refine V_iload_n (q := 19) dX7_keepChange_18 rfl rfl ?_
    exact V_iret dX7_keepChange_19 rfl (Nat.le_of_ble_eq_true rfl) (Nat.le_of_ble_eq_true rfl) (⟨rfl, _, rfl, rfl, by rw [if_neg he]; exact ⟨B, (hO.past hw1.1 hw1.2).1⟩, (hO.past hw1.1 hw1.2).2⟩)
theorem XW.chg {w1 w2 w3 : HW} {res : OpR} {x y : Int32} (hX : XWB g w1 n o X (xN X)) (hF1 : FrX w w1 o) (h1 : OP g w1 n o (nI (xH X)) (xR X) res x w2) (h2 : y = x ∧ XW g w3 n o (if isErr x then opX X res else pushP (opX X res) (xN X)) ∧ FrX w2 w3 o) : XP g w n o (chgX X res) y w3 := by
  obtain ⟨e1, e2, e3⟩ := hX.op h1
  obtain ⟨f1, f2, f3⟩ := h2
  subst e1
  exact ⟨f1, f2, (hF1.tr e3).tr f3⟩
theorem X_row (h : XW g w n o X) {x y : Int32} : CtI g l MX7_row 5 [rf g o, .int x, .int y] w n (XP g w n o (chgX X (addA x y (xN X)))) := by
  obtain ⟨B, hX⟩ := h
  have hO := hX
  obtain ⟨h0, h1, h2, h3, h4, h5, h6, h7, h8, h9, h10⟩ := hX
  obtain ⟨so, sn⟩ := h1.obj
  obtain ⟨so2, sn2⟩ := h2.obj
  refine Ct.ofs (M := MX7_row) (ls := [some _, some _, some _]) (by decide +kernel) (by exact (Nat.le_of_ble_eq_true rfl)) (by rfl) (by rfl) (by rfl) ?_
  refine V_aload_n (q := 1) dX7_row_0 rfl rfl rfl ?_
  refine GX7_16 (q := 4) rfl dX7_row_1 rfl (by first | assumption | exact up_eq | exact (up_ne (by omega)).trans (by first | assumption | exact up_eq | exact (up_ne (by omega)).trans (by first | assumption | exact up_eq | exact (up_ne (by omega)).trans (by first | assumption | exact up_eq)))) (by omega) (by rfl) ?_
  refine V_aload_n (q := 5) dX7_row_4 rfl rfl rfl ?_
  refine GX7_10 (q := 8) rfl dX7_row_5 rfl (by first | assumption | exact up_eq | exact (up_ne (by omega)).trans (by first | assumption | exact up_eq | exact (up_ne (by omega)).trans (by first | assumption | exact up_eq | exact (up_ne (by omega)).trans (by first | assumption | exact up_eq)))) (by omega) (by rfl) ?_
  refine CvX7_61 (q := 11) rfl dX7_row_8 rfl (c_copyFrom h2 h1 (by omega)) ⟨(Nat.le_of_ble_eq_true rfl), (Nat.le_of_ble_eq_true rfl)⟩ (Nat.le_of_ble_eq_true rfl) (by first | assumption | exact up_eq | exact (up_ne (by omega)).trans (by first | assumption | exact up_eq | exact (up_ne (by omega)).trans (by first | assumption | exact up_eq | exact (up_ne (by omega)).trans (by first | assumption | exact up_eq)))) (by omega) (Nat.zero_le _) (Nat.zero_le _) (fun w1 hw1 => ?_)
  obtain ⟨hO1, hF1⟩ := hO.bef hw1.1 hw1.2
  have b0 := hO1.1
  refine V_aload_n (q := 12) dX7_row_11 rfl rfl rfl ?_
  refine V_aload_n (q := 13) dX7_row_12 rfl rfl rfl ?_
  refine V_iload_n (q := 14) dX7_row_13 rfl rfl ?_
  refine V_iload_n (q := 15) dX7_row_14 rfl rfl ?_
  refine CiX7_65 (q := 18) rfl dX7_row_15 rfl (c_addRow hO1.ow) ⟨(Nat.le_of_ble_eq_true rfl), (Nat.le_of_ble_eq_true rfl)⟩ (Nat.le_of_ble_eq_true rfl) (by first | assumption | exact up_eq | exact (up_ne (by omega)).trans (by first | assumption | exact up_eq | exact (up_ne (by omega)).trans (by first | assumption | exact up_eq | exact (up_ne (by omega)).trans (by first | assumption | exact up_eq)))) (by omega) (Nat.zero_le _) (Nat.zero_le _) (fun u w2 hw2 => ?_)
  obtain ⟨-, hO2, -⟩ := hO1.op hw2
  have c0 := hO2.1
  skip
  refine CiX7_69 (q := 21) rfl dX7_row_18 rfl (c_keepChange hO2) ⟨(Nat.le_of_ble_eq_true rfl), (Nat.le_of_ble_eq_true rfl)⟩ (Nat.le_of_ble_eq_true rfl) (by first | assumption | exact up_eq | exact (up_ne (by omega)).trans (by first | assumption | exact up_eq | exact (up_ne (by omega)).trans (by first | assumption | exact up_eq | exact (up_ne (by omega)).trans (by first | assumption | exact up_eq)))) (by omega) (Nat.zero_le _) (Nat.zero_le _) (fun u2 w3 hw3 => ?_)
  skip
  exact V_iret dX7_row_21 rfl (Nat.le_of_ble_eq_true rfl) (Nat.le_of_ble_eq_true rfl) (⟨rfl, _, rfl, XW.chg hO1 hF1 hw2 hw3⟩)
theorem X_drop (h : XW g w n o X) {x : Int32} : CtI g l MX7_drop 5 [rf g o, .int x] w n (XP g w n o (chgX X (dropA x (xN X)))) := by
  obtain ⟨B, hX⟩ := h
  have hO := hX
  obtain ⟨h0, h1, h2, h3, h4, h5, h6, h7, h8, h9, h10⟩ := hX
  obtain ⟨so, sn⟩ := h1.obj
  obtain ⟨so2, sn2⟩ := h2.obj
  refine Ct.ofs (M := MX7_drop) (ls := [some _, some _]) (by decide +kernel) (by exact (Nat.le_of_ble_eq_true rfl)) (by rfl) (by rfl) (by rfl) ?_
  refine V_aload_n (q := 1) dX7_drop_0 rfl rfl rfl ?_
  refine GX7_16 (q := 4) rfl dX7_drop_1 rfl (by first | assumption | exact up_eq | exact (up_ne (by omega)).trans (by first | assumption | exact up_eq | exact (up_ne (by omega)).trans (by first | assumption | exact up_eq | exact (up_ne (by omega)).trans (by first | assumption | exact up_eq)))) (by omega) (by rfl) ?_
  refine V_aload_n (q := 5) dX7_drop_4 rfl rfl rfl ?_
  refine GX7_10 (q := 8) rfl dX7_drop_5 rfl (by first | assumption | exact up_eq | exact (up_ne (by omega)).trans (by first | assumption | exact up_eq | exact (up_ne (by omega)).trans (by first | assumption | exact up_eq | exact (up_ne (by omega)).trans (by first | assumption | exact up_eq)))) (by omega) (by rfl) ?_
  refine CvX7_61 (q := 11) rfl dX7_drop_8 rfl (c_copyFrom h2 h1 (by omega)) ⟨(Nat.le_of_ble_eq_true rfl), (Nat.le_of_ble_eq_true rfl)⟩ (Nat.le_of_ble_eq_true rfl) (by first | assumption | exact up_eq | exact (up_ne (by omega)).trans (by first | assumption | exact up_eq | exact (up_ne (by omega)).trans (by first | assumption | exact up_eq | exact (up_ne (by omega)).trans (by first | assumption | exact up_eq)))) (by omega) (Nat.zero_le _) (Nat.zero_le _) (fun w1 hw1 => ?_)
  obtain ⟨hO1, hF1⟩ := hO.bef hw1.1 hw1.2
  have b0 := hO1.1
  refine V_aload_n (q := 12) dX7_drop_11 rfl rfl rfl ?_
  refine V_aload_n (q := 13) dX7_drop_12 rfl rfl rfl ?_
  refine V_iload_n (q := 14) dX7_drop_13 rfl rfl ?_
  refine CiX7_73 (q := 17) rfl dX7_drop_14 rfl (c_dropRow hO1.ow) ⟨(Nat.le_of_ble_eq_true rfl), (Nat.le_of_ble_eq_true rfl)⟩ (Nat.le_of_ble_eq_true rfl) (by first | assumption | exact up_eq | exact (up_ne (by omega)).trans (by first | assumption | exact up_eq | exact (up_ne (by omega)).trans (by first | assumption | exact up_eq | exact (up_ne (by omega)).trans (by first | assumption | exact up_eq)))) (by omega) (Nat.zero_le _) (Nat.zero_le _) (fun u w2 hw2 => ?_)
  obtain ⟨-, hO2, -⟩ := hO1.op hw2
  have c0 := hO2.1
  skip
  refine CiX7_69 (q := 20) rfl dX7_drop_17 rfl (c_keepChange hO2) ⟨(Nat.le_of_ble_eq_true rfl), (Nat.le_of_ble_eq_true rfl)⟩ (Nat.le_of_ble_eq_true rfl) (by first | assumption | exact up_eq | exact (up_ne (by omega)).trans (by first | assumption | exact up_eq | exact (up_ne (by omega)).trans (by first | assumption | exact up_eq | exact (up_ne (by omega)).trans (by first | assumption | exact up_eq)))) (by omega) (Nat.zero_le _) (Nat.zero_le _) (fun u2 w3 hw3 => ?_)
  skip
  exact V_iret dX7_drop_20 rfl (Nat.le_of_ble_eq_true rfl) (Nat.le_of_ble_eq_true rfl) (⟨rfl, _, rfl, XW.chg hO1 hF1 hw2 hw3⟩)
theorem X_turn (h : XW g w n o X) {x : Int32} : CtI g l MX7_turn 5 [rf g o, .int x] w n (XP g w n o (chgX X (turnA x (xN X)))) := by
  obtain ⟨B, hX⟩ := h
  have hO := hX
  obtain ⟨h0, h1, h2, h3, h4, h5, h6, h7, h8, h9, h10⟩ := hX
  obtain ⟨so, sn⟩ := h1.obj
  obtain ⟨so2, sn2⟩ := h2.obj
  refine Ct.ofs (M := MX7_turn) (ls := [some _, some _]) (by decide +kernel) (by exact (Nat.le_of_ble_eq_true rfl)) (by rfl) (by rfl) (by rfl) ?_
  refine V_aload_n (q := 1) dX7_turn_0 rfl rfl rfl ?_
  refine GX7_16 (q := 4) rfl dX7_turn_1 rfl (by first | assumption | exact up_eq | exact (up_ne (by omega)).trans (by first | assumption | exact up_eq | exact (up_ne (by omega)).trans (by first | assumption | exact up_eq | exact (up_ne (by omega)).trans (by first | assumption | exact up_eq)))) (by omega) (by rfl) ?_
  refine V_aload_n (q := 5) dX7_turn_4 rfl rfl rfl ?_
  refine GX7_10 (q := 8) rfl dX7_turn_5 rfl (by first | assumption | exact up_eq | exact (up_ne (by omega)).trans (by first | assumption | exact up_eq | exact (up_ne (by omega)).trans (by first | assumption | exact up_eq | exact (up_ne (by omega)).trans (by first | assumption | exact up_eq)))) (by omega) (by rfl) ?_
  refine CvX7_61 (q := 11) rfl dX7_turn_8 rfl (c_copyFrom h2 h1 (by omega)) ⟨(Nat.le_of_ble_eq_true rfl), (Nat.le_of_ble_eq_true rfl)⟩ (Nat.le_of_ble_eq_true rfl) (by first | assumption | exact up_eq | exact (up_ne (by omega)).trans (by first | assumption | exact up_eq | exact (up_ne (by omega)).trans (by first | assumption | exact up_eq | exact (up_ne (by omega)).trans (by first | assumption | exact up_eq)))) (by omega) (Nat.zero_le _) (Nat.zero_le _) (fun w1 hw1 => ?_)
  obtain ⟨hO1, hF1⟩ := hO.bef hw1.1 hw1.2
  have b0 := hO1.1
  refine V_aload_n (q := 12) dX7_turn_11 rfl rfl rfl ?_
  refine V_aload_n (q := 13) dX7_turn_12 rfl rfl rfl ?_
  refine V_iload_n (q := 14) dX7_turn_13 rfl rfl ?_
  refine CiX7_76 (q := 17) rfl dX7_turn_14 rfl (c_turnRow hO1.ow) ⟨(Nat.le_of_ble_eq_true rfl), (Nat.le_of_ble_eq_true rfl)⟩ (Nat.le_of_ble_eq_true rfl) (by first | assumption | exact up_eq | exact (up_ne (by omega)).trans (by first | assumption | exact up_eq | exact (up_ne (by omega)).trans (by first | assumption | exact up_eq | exact (up_ne (by omega)).trans (by first | assumption | exact up_eq)))) (by omega) (Nat.zero_le _) (Nat.zero_le _) (fun u w2 hw2 => ?_)
  obtain ⟨-, hO2, -⟩ := hO1.op hw2
  have c0 := hO2.1
  skip
  refine CiX7_69 (q := 20) rfl dX7_turn_17 rfl (c_keepChange hO2) ⟨(Nat.le_of_ble_eq_true rfl), (Nat.le_of_ble_eq_true rfl)⟩ (Nat.le_of_ble_eq_true rfl) (by first | assumption | exact up_eq | exact (up_ne (by omega)).trans (by first | assumption | exact up_eq | exact (up_ne (by omega)).trans (by first | assumption | exact up_eq | exact (up_ne (by omega)).trans (by first | assumption | exact up_eq)))) (by omega) (Nat.zero_le _) (Nat.zero_le _) (fun u2 w3 hw3 => ?_)
  skip
  exact V_iret dX7_turn_20 rfl (Nat.le_of_ble_eq_true rfl) (Nat.le_of_ble_eq_true rfl) (⟨rfl, _, rfl, XW.chg hO1 hF1 hw2 hw3⟩)
theorem X_swap (h : XW g w n o X) {x y z : Int32} : CtI g l MX7_swap 5 [rf g o, .int x, .int y, .int z] w n (XP g w n o (chgX X (swapA x y z (xN X)))) := by
  obtain ⟨B, hX⟩ := h
  have hO := hX
  obtain ⟨h0, h1, h2, h3, h4, h5, h6, h7, h8, h9, h10⟩ := hX
  obtain ⟨so, sn⟩ := h1.obj
  obtain ⟨so2, sn2⟩ := h2.obj
  refine Ct.ofs (M := MX7_swap) (ls := [some _, some _, some _, some _]) (by decide +kernel) (by exact (Nat.le_of_ble_eq_true rfl)) (by rfl) (by rfl) (by rfl) ?_
  refine V_aload_n (q := 1) dX7_swap_0 rfl rfl rfl ?_
  refine GX7_16 (q := 4) rfl dX7_swap_1 rfl (by first | assumption | exact up_eq | exact (up_ne (by omega)).trans (by first | assumption | exact up_eq | exact (up_ne (by omega)).trans (by first | assumption | exact up_eq | exact (up_ne (by omega)).trans (by first | assumption | exact up_eq)))) (by omega) (by rfl) ?_
  refine V_aload_n (q := 5) dX7_swap_4 rfl rfl rfl ?_
  refine GX7_10 (q := 8) rfl dX7_swap_5 rfl (by first | assumption | exact up_eq | exact (up_ne (by omega)).trans (by first | assumption | exact up_eq | exact (up_ne (by omega)).trans (by first | assumption | exact up_eq | exact (up_ne (by omega)).trans (by first | assumption | exact up_eq)))) (by omega) (by rfl) ?_
  refine CvX7_61 (q := 11) rfl dX7_swap_8 rfl (c_copyFrom h2 h1 (by omega)) ⟨(Nat.le_of_ble_eq_true rfl), (Nat.le_of_ble_eq_true rfl)⟩ (Nat.le_of_ble_eq_true rfl) (by first | assumption | exact up_eq | exact (up_ne (by omega)).trans (by first | assumption | exact up_eq | exact (up_ne (by omega)).trans (by first | assumption | exact up_eq | exact (up_ne (by omega)).trans (by first | assumption | exact up_eq)))) (by omega) (Nat.zero_le _) (Nat.zero_le _) (fun w1 hw1 => ?_)
  obtain ⟨hO1, hF1⟩ := hO.bef hw1.1 hw1.2
  have b0 := hO1.1
  refine V_aload_n (q := 12) dX7_swap_11 rfl rfl rfl ?_
  refine V_aload_n (q := 13) dX7_swap_12 rfl rfl rfl ?_
  refine V_iload_n (q := 14) dX7_swap_13 rfl rfl ?_
  refine V_iload_n (q := 15) dX7_swap_14 rfl rfl ?_
  refine V_iload_n (q := 16) dX7_swap_15 rfl rfl ?_
  refine CiX7_79 (q := 19) rfl dX7_swap_16 rfl (c_swapBeats hO1.ow) ⟨(Nat.le_of_ble_eq_true rfl), (Nat.le_of_ble_eq_true rfl)⟩ (Nat.le_of_ble_eq_true rfl) (by first | assumption | exact up_eq | exact (up_ne (by omega)).trans (by first | assumption | exact up_eq | exact (up_ne (by omega)).trans (by first | assumption | exact up_eq | exact (up_ne (by omega)).trans (by first | assumption | exact up_eq)))) (by omega) (Nat.zero_le _) (Nat.zero_le _) (fun u w2 hw2 => ?_)
  obtain ⟨-, hO2, -⟩ := hO1.op hw2
  have c0 := hO2.1
  skip
  refine CiX7_69 (q := 22) rfl dX7_swap_19 rfl (c_keepChange hO2) ⟨(Nat.le_of_ble_eq_true rfl), (Nat.le_of_ble_eq_true rfl)⟩ (Nat.le_of_ble_eq_true rfl) (by first | assumption | exact up_eq | exact (up_ne (by omega)).trans (by first | assumption | exact up_eq | exact (up_ne (by omega)).trans (by first | assumption | exact up_eq | exact (up_ne (by omega)).trans (by first | assumption | exact up_eq)))) (by omega) (Nat.zero_le _) (Nat.zero_le _) (fun u2 w3 hw3 => ?_)
  skip
  exact V_iret dX7_swap_22 rfl (Nat.le_of_ble_eq_true rfl) (Nat.le_of_ble_eq_true rfl) (⟨rfl, _, rfl, XW.chg hO1 hF1 hw2 hw3⟩)
theorem X_lift (h : XW g w n o X) {x : Int32} : CtI g l MX7_lift 5 [rf g o, .int x] w n (XP g w n o (chgX X (liftA x (xN X)))) := by
  obtain ⟨B, hX⟩ := h
  have hO := hX
  obtain ⟨h0, h1, h2, h3, h4, h5, h6, h7, h8, h9, h10⟩ := hX
  obtain ⟨so, sn⟩ := h1.obj
  obtain ⟨so2, sn2⟩ := h2.obj
  refine Ct.ofs (M := MX7_lift) (ls := [some _, some _]) (by decide +kernel) (by exact (Nat.le_of_ble_eq_true rfl)) (by rfl) (by rfl) (by rfl) ?_
  refine V_aload_n (q := 1) dX7_lift_0 rfl rfl rfl ?_
  refine GX7_16 (q := 4) rfl dX7_lift_1 rfl (by first | assumption | exact up_eq | exact (up_ne (by omega)).trans (by first | assumption | exact up_eq | exact (up_ne (by omega)).trans (by first | assumption | exact up_eq | exact (up_ne (by omega)).trans (by first | assumption | exact up_eq)))) (by omega) (by rfl) ?_
  refine V_aload_n (q := 5) dX7_lift_4 rfl rfl rfl ?_
  refine GX7_10 (q := 8) rfl dX7_lift_5 rfl (by first | assumption | exact up_eq | exact (up_ne (by omega)).trans (by first | assumption | exact up_eq | exact (up_ne (by omega)).trans (by first | assumption | exact up_eq | exact (up_ne (by omega)).trans (by first | assumption | exact up_eq)))) (by omega) (by rfl) ?_
  refine CvX7_61 (q := 11) rfl dX7_lift_8 rfl (c_copyFrom h2 h1 (by omega)) ⟨(Nat.le_of_ble_eq_true rfl), (Nat.le_of_ble_eq_true rfl)⟩ (Nat.le_of_ble_eq_true rfl) (by first | assumption | exact up_eq | exact (up_ne (by omega)).trans (by first | assumption | exact up_eq | exact (up_ne (by omega)).trans (by first | assumption | exact up_eq | exact (up_ne (by omega)).trans (by first | assumption | exact up_eq)))) (by omega) (Nat.zero_le _) (Nat.zero_le _) (fun w1 hw1 => ?_)
  obtain ⟨hO1, hF1⟩ := hO.bef hw1.1 hw1.2
  have b0 := hO1.1
  refine V_aload_n (q := 12) dX7_lift_11 rfl rfl rfl ?_
  refine V_aload_n (q := 13) dX7_lift_12 rfl rfl rfl ?_
  refine V_iload_n (q := 14) dX7_lift_13 rfl rfl ?_
  refine CiX7_83 (q := 17) rfl dX7_lift_14 rfl (c_liftRow hO1.ow) ⟨(Nat.le_of_ble_eq_true rfl), (Nat.le_of_ble_eq_true rfl)⟩ (Nat.le_of_ble_eq_true rfl) (by first | assumption | exact up_eq | exact (up_ne (by omega)).trans (by first | assumption | exact up_eq | exact (up_ne (by omega)).trans (by first | assumption | exact up_eq | exact (up_ne (by omega)).trans (by first | assumption | exact up_eq)))) (by omega) (Nat.zero_le _) (Nat.zero_le _) (fun u w2 hw2 => ?_)
  obtain ⟨-, hO2, -⟩ := hO1.op hw2
  have c0 := hO2.1
  skip
  refine CiX7_69 (q := 20) rfl dX7_lift_17 rfl (c_keepChange hO2) ⟨(Nat.le_of_ble_eq_true rfl), (Nat.le_of_ble_eq_true rfl)⟩ (Nat.le_of_ble_eq_true rfl) (by first | assumption | exact up_eq | exact (up_ne (by omega)).trans (by first | assumption | exact up_eq | exact (up_ne (by omega)).trans (by first | assumption | exact up_eq | exact (up_ne (by omega)).trans (by first | assumption | exact up_eq)))) (by omega) (Nat.zero_le _) (Nat.zero_le _) (fun u2 w3 hw3 => ?_)
  skip
  exact V_iret dX7_lift_20 rfl (Nat.le_of_ble_eq_true rfl) (Nat.le_of_ble_eq_true rfl) (⟨rfl, _, rfl, XW.chg hO1 hF1 hw2 hw3⟩)
theorem X_begin (h : XW g w n o X) {x : Int32} : CtI g l MX7_begin 5 [rf g o, .int x] w n (XP g w n o (chgX X (beginA x (xN X)))) := by
  obtain ⟨B, hX⟩ := h
  have hO := hX
  obtain ⟨h0, h1, h2, h3, h4, h5, h6, h7, h8, h9, h10⟩ := hX
  obtain ⟨so, sn⟩ := h1.obj
  obtain ⟨so2, sn2⟩ := h2.obj
  refine Ct.ofs (M := MX7_begin) (ls := [some _, some _]) (by decide +kernel) (by exact (Nat.le_of_ble_eq_true rfl)) (by rfl) (by rfl) (by rfl) ?_
  refine V_aload_n (q := 1) dX7_begin_0 rfl rfl rfl ?_
  refine GX7_16 (q := 4) rfl dX7_begin_1 rfl (by first | assumption | exact up_eq | exact (up_ne (by omega)).trans (by first | assumption | exact up_eq | exact (up_ne (by omega)).trans (by first | assumption | exact up_eq | exact (up_ne (by omega)).trans (by first | assumption | exact up_eq)))) (by omega) (by rfl) ?_
  refine V_aload_n (q := 5) dX7_begin_4 rfl rfl rfl ?_
  refine GX7_10 (q := 8) rfl dX7_begin_5 rfl (by first | assumption | exact up_eq | exact (up_ne (by omega)).trans (by first | assumption | exact up_eq | exact (up_ne (by omega)).trans (by first | assumption | exact up_eq | exact (up_ne (by omega)).trans (by first | assumption | exact up_eq)))) (by omega) (by rfl) ?_
  refine CvX7_61 (q := 11) rfl dX7_begin_8 rfl (c_copyFrom h2 h1 (by omega)) ⟨(Nat.le_of_ble_eq_true rfl), (Nat.le_of_ble_eq_true rfl)⟩ (Nat.le_of_ble_eq_true rfl) (by first | assumption | exact up_eq | exact (up_ne (by omega)).trans (by first | assumption | exact up_eq | exact (up_ne (by omega)).trans (by first | assumption | exact up_eq | exact (up_ne (by omega)).trans (by first | assumption | exact up_eq)))) (by omega) (Nat.zero_le _) (Nat.zero_le _) (fun w1 hw1 => ?_)
  obtain ⟨hO1, hF1⟩ := hO.bef hw1.1 hw1.2
  have b0 := hO1.1
  refine V_aload_n (q := 12) dX7_begin_11 rfl rfl rfl ?_
  refine V_aload_n (q := 13) dX7_begin_12 rfl rfl rfl ?_
  refine V_iload_n (q := 14) dX7_begin_13 rfl rfl ?_
  refine CiX7_86 (q := 17) rfl dX7_begin_14 rfl (c_beginWith hO1.ow) ⟨(Nat.le_of_ble_eq_true rfl), (Nat.le_of_ble_eq_true rfl)⟩ (Nat.le_of_ble_eq_true rfl) (by first | assumption | exact up_eq | exact (up_ne (by omega)).trans (by first | assumption | exact up_eq | exact (up_ne (by omega)).trans (by first | assumption | exact up_eq | exact (up_ne (by omega)).trans (by first | assumption | exact up_eq)))) (by omega) (Nat.zero_le _) (Nat.zero_le _) (fun u w2 hw2 => ?_)
  obtain ⟨-, hO2, -⟩ := hO1.op hw2
  have c0 := hO2.1
  skip
  refine CiX7_69 (q := 20) rfl dX7_begin_17 rfl (c_keepChange hO2) ⟨(Nat.le_of_ble_eq_true rfl), (Nat.le_of_ble_eq_true rfl)⟩ (Nat.le_of_ble_eq_true rfl) (by first | assumption | exact up_eq | exact (up_ne (by omega)).trans (by first | assumption | exact up_eq | exact (up_ne (by omega)).trans (by first | assumption | exact up_eq | exact (up_ne (by omega)).trans (by first | assumption | exact up_eq)))) (by omega) (Nat.zero_le _) (Nat.zero_le _) (fun u2 w3 hw3 => ?_)
  skip
  exact V_iret dX7_begin_20 rfl (Nat.le_of_ble_eq_true rfl) (Nat.le_of_ble_eq_true rfl) (⟨rfl, _, rfl, XW.chg hO1 hF1 hw2 hw3⟩)
theorem X_toss (h : XW g w n o X) (hK : OkS (xN X)) {x : Int32} : CtI g l MX7_toss 5 [rf g o, .int x] w n (XP g w n o (chgX X (tossA x (xN X)))) := by
  obtain ⟨B, hX⟩ := h
  have hO := hX
  obtain ⟨h0, h1, h2, h3, h4, h5, h6, h7, h8, h9, h10⟩ := hX
  obtain ⟨so, sn⟩ := h1.obj
  obtain ⟨so2, sn2⟩ := h2.obj
  refine Ct.ofs (M := MX7_toss) (ls := [some _, some _]) (by decide +kernel) (by exact (Nat.le_of_ble_eq_true rfl)) (by rfl) (by rfl) (by rfl) ?_
  refine V_aload_n (q := 1) dX7_toss_0 rfl rfl rfl ?_
  refine GX7_16 (q := 4) rfl dX7_toss_1 rfl (by first | assumption | exact up_eq | exact (up_ne (by omega)).trans (by first | assumption | exact up_eq | exact (up_ne (by omega)).trans (by first | assumption | exact up_eq | exact (up_ne (by omega)).trans (by first | assumption | exact up_eq)))) (by omega) (by rfl) ?_
  refine V_aload_n (q := 5) dX7_toss_4 rfl rfl rfl ?_
  refine GX7_10 (q := 8) rfl dX7_toss_5 rfl (by first | assumption | exact up_eq | exact (up_ne (by omega)).trans (by first | assumption | exact up_eq | exact (up_ne (by omega)).trans (by first | assumption | exact up_eq | exact (up_ne (by omega)).trans (by first | assumption | exact up_eq)))) (by omega) (by rfl) ?_
  refine CvX7_61 (q := 11) rfl dX7_toss_8 rfl (c_copyFrom h2 h1 (by omega)) ⟨(Nat.le_of_ble_eq_true rfl), (Nat.le_of_ble_eq_true rfl)⟩ (Nat.le_of_ble_eq_true rfl) (by first | assumption | exact up_eq | exact (up_ne (by omega)).trans (by first | assumption | exact up_eq | exact (up_ne (by omega)).trans (by first | assumption | exact up_eq | exact (up_ne (by omega)).trans (by first | assumption | exact up_eq)))) (by omega) (Nat.zero_le _) (Nat.zero_le _) (fun w1 hw1 => ?_)
  obtain ⟨hO1, hF1⟩ := hO.bef hw1.1 hw1.2
  have b0 := hO1.1
  refine V_aload_n (q := 12) dX7_toss_11 rfl rfl rfl ?_
  refine V_aload_n (q := 13) dX7_toss_12 rfl rfl rfl ?_
  refine V_iload_n (q := 14) dX7_toss_13 rfl rfl ?_
  refine CiX7_89 (q := 17) rfl dX7_toss_14 rfl (c_makeThrow hO1.ow hK) ⟨(Nat.le_of_ble_eq_true rfl), (Nat.le_of_ble_eq_true rfl)⟩ (Nat.le_of_ble_eq_true rfl) (by first | assumption | exact up_eq | exact (up_ne (by omega)).trans (by first | assumption | exact up_eq | exact (up_ne (by omega)).trans (by first | assumption | exact up_eq | exact (up_ne (by omega)).trans (by first | assumption | exact up_eq)))) (by omega) (Nat.zero_le _) (Nat.zero_le _) (fun u w2 hw2 => ?_)
  obtain ⟨-, hO2, -⟩ := hO1.op hw2
  have c0 := hO2.1
  skip
  refine CiX7_69 (q := 20) rfl dX7_toss_17 rfl (c_keepChange hO2) ⟨(Nat.le_of_ble_eq_true rfl), (Nat.le_of_ble_eq_true rfl)⟩ (Nat.le_of_ble_eq_true rfl) (by first | assumption | exact up_eq | exact (up_ne (by omega)).trans (by first | assumption | exact up_eq | exact (up_ne (by omega)).trans (by first | assumption | exact up_eq | exact (up_ne (by omega)).trans (by first | assumption | exact up_eq)))) (by omega) (Nat.zero_le _) (Nat.zero_le _) (fun u2 w3 hw3 => ?_)
  skip
  exact V_iret dX7_toss_20 rfl (Nat.le_of_ble_eq_true rfl) (Nat.le_of_ble_eq_true rfl) (⟨rfl, _, rfl, XW.chg hO1 hF1 hw2 hw3⟩)
theorem X_join (h : XW g w n o X) (hK : OkS (xN X)) {x : Int32} : CtI g l MX7_join 5 [rf g o, .int x] w n (XP g w n o (chgX X (joinA x (xN X)))) := by
  obtain ⟨B, hX⟩ := h
  have hO := hX
  obtain ⟨h0, h1, h2, h3, h4, h5, h6, h7, h8, h9, h10⟩ := hX
  obtain ⟨so, sn⟩ := h1.obj
  obtain ⟨so2, sn2⟩ := h2.obj
  refine Ct.ofs (M := MX7_join) (ls := [some _, some _]) (by decide +kernel) (by exact (Nat.le_of_ble_eq_true rfl)) (by rfl) (by rfl) (by rfl) ?_
  refine V_aload_n (q := 1) dX7_join_0 rfl rfl rfl ?_
  refine GX7_16 (q := 4) rfl dX7_join_1 rfl (by first | assumption | exact up_eq | exact (up_ne (by omega)).trans (by first | assumption | exact up_eq | exact (up_ne (by omega)).trans (by first | assumption | exact up_eq | exact (up_ne (by omega)).trans (by first | assumption | exact up_eq)))) (by omega) (by rfl) ?_
  refine V_aload_n (q := 5) dX7_join_4 rfl rfl rfl ?_
  refine GX7_10 (q := 8) rfl dX7_join_5 rfl (by first | assumption | exact up_eq | exact (up_ne (by omega)).trans (by first | assumption | exact up_eq | exact (up_ne (by omega)).trans (by first | assumption | exact up_eq | exact (up_ne (by omega)).trans (by first | assumption | exact up_eq)))) (by omega) (by rfl) ?_
  refine CvX7_61 (q := 11) rfl dX7_join_8 rfl (c_copyFrom h2 h1 (by omega)) ⟨(Nat.le_of_ble_eq_true rfl), (Nat.le_of_ble_eq_true rfl)⟩ (Nat.le_of_ble_eq_true rfl) (by first | assumption | exact up_eq | exact (up_ne (by omega)).trans (by first | assumption | exact up_eq | exact (up_ne (by omega)).trans (by first | assumption | exact up_eq | exact (up_ne (by omega)).trans (by first | assumption | exact up_eq)))) (by omega) (Nat.zero_le _) (Nat.zero_le _) (fun w1 hw1 => ?_)
  obtain ⟨hO1, hF1⟩ := hO.bef hw1.1 hw1.2
  have b0 := hO1.1
  refine V_aload_n (q := 12) dX7_join_11 rfl rfl rfl ?_
  refine V_aload_n (q := 13) dX7_join_12 rfl rfl rfl ?_
  refine V_iload_n (q := 14) dX7_join_13 rfl rfl ?_
  refine CiX7_92 (q := 17) rfl dX7_join_14 rfl (c_makeJoin hO1.ow hK) ⟨(Nat.le_of_ble_eq_true rfl), (Nat.le_of_ble_eq_true rfl)⟩ (Nat.le_of_ble_eq_true rfl) (by first | assumption | exact up_eq | exact (up_ne (by omega)).trans (by first | assumption | exact up_eq | exact (up_ne (by omega)).trans (by first | assumption | exact up_eq | exact (up_ne (by omega)).trans (by first | assumption | exact up_eq)))) (by omega) (Nat.zero_le _) (Nat.zero_le _) (fun u w2 hw2 => ?_)
  obtain ⟨-, hO2, -⟩ := hO1.op hw2
  have c0 := hO2.1
  skip
  refine CiX7_69 (q := 20) rfl dX7_join_17 rfl (c_keepChange hO2) ⟨(Nat.le_of_ble_eq_true rfl), (Nat.le_of_ble_eq_true rfl)⟩ (Nat.le_of_ble_eq_true rfl) (by first | assumption | exact up_eq | exact (up_ne (by omega)).trans (by first | assumption | exact up_eq | exact (up_ne (by omega)).trans (by first | assumption | exact up_eq | exact (up_ne (by omega)).trans (by first | assumption | exact up_eq)))) (by omega) (Nat.zero_le _) (Nat.zero_le _) (fun u2 w3 hw3 => ?_)
  skip
  exact V_iret dX7_join_20 rfl (Nat.le_of_ble_eq_true rfl) (Nat.le_of_ble_eq_true rfl) (⟨rfl, _, rfl, XW.chg hO1 hF1 hw2 hw3⟩)
theorem X_once (h : XW g w n o X) (hK : OkS (xN X)) {x : Int32} : CtI g l MX7_once 5 [rf g o, .int x] w n (XP g w n o (chgX X (onceA x (xN X)))) := by
  obtain ⟨B, hX⟩ := h
  have hO := hX
  obtain ⟨h0, h1, h2, h3, h4, h5, h6, h7, h8, h9, h10⟩ := hX
  obtain ⟨so, sn⟩ := h1.obj
  obtain ⟨so2, sn2⟩ := h2.obj
  refine Ct.ofs (M := MX7_once) (ls := [some _, some _]) (by decide +kernel) (by exact (Nat.le_of_ble_eq_true rfl)) (by rfl) (by rfl) (by rfl) ?_
  refine V_aload_n (q := 1) dX7_once_0 rfl rfl rfl ?_
  refine GX7_16 (q := 4) rfl dX7_once_1 rfl (by first | assumption | exact up_eq | exact (up_ne (by omega)).trans (by first | assumption | exact up_eq | exact (up_ne (by omega)).trans (by first | assumption | exact up_eq | exact (up_ne (by omega)).trans (by first | assumption | exact up_eq)))) (by omega) (by rfl) ?_
  refine V_aload_n (q := 5) dX7_once_4 rfl rfl rfl ?_
  refine GX7_10 (q := 8) rfl dX7_once_5 rfl (by first | assumption | exact up_eq | exact (up_ne (by omega)).trans (by first | assumption | exact up_eq | exact (up_ne (by omega)).trans (by first | assumption | exact up_eq | exact (up_ne (by omega)).trans (by first | assumption | exact up_eq)))) (by omega) (by rfl) ?_
  refine CvX7_61 (q := 11) rfl dX7_once_8 rfl (c_copyFrom h2 h1 (by omega)) ⟨(Nat.le_of_ble_eq_true rfl), (Nat.le_of_ble_eq_true rfl)⟩ (Nat.le_of_ble_eq_true rfl) (by first | assumption | exact up_eq | exact (up_ne (by omega)).trans (by first | assumption | exact up_eq | exact (up_ne (by omega)).trans (by first | assumption | exact up_eq | exact (up_ne (by omega)).trans (by first | assumption | exact up_eq)))) (by omega) (Nat.zero_le _) (Nat.zero_le _) (fun w1 hw1 => ?_)
  obtain ⟨hO1, hF1⟩ := hO.bef hw1.1 hw1.2
  have b0 := hO1.1
  refine V_aload_n (q := 12) dX7_once_11 rfl rfl rfl ?_
  refine V_aload_n (q := 13) dX7_once_12 rfl rfl rfl ?_
  refine V_iload_n (q := 14) dX7_once_13 rfl rfl ?_
  refine CiX7_95 (q := 17) rfl dX7_once_14 rfl (c_makeOnce hO1.ow hK) ⟨(Nat.le_of_ble_eq_true rfl), (Nat.le_of_ble_eq_true rfl)⟩ (Nat.le_of_ble_eq_true rfl) (by first | assumption | exact up_eq | exact (up_ne (by omega)).trans (by first | assumption | exact up_eq | exact (up_ne (by omega)).trans (by first | assumption | exact up_eq | exact (up_ne (by omega)).trans (by first | assumption | exact up_eq)))) (by omega) (Nat.zero_le _) (Nat.zero_le _) (fun u w2 hw2 => ?_)
  obtain ⟨-, hO2, -⟩ := hO1.op hw2
  have c0 := hO2.1
  skip
  refine CiX7_69 (q := 20) rfl dX7_once_17 rfl (c_keepChange hO2) ⟨(Nat.le_of_ble_eq_true rfl), (Nat.le_of_ble_eq_true rfl)⟩ (Nat.le_of_ble_eq_true rfl) (by first | assumption | exact up_eq | exact (up_ne (by omega)).trans (by first | assumption | exact up_eq | exact (up_ne (by omega)).trans (by first | assumption | exact up_eq | exact (up_ne (by omega)).trans (by first | assumption | exact up_eq)))) (by omega) (Nat.zero_le _) (Nat.zero_le _) (fun u2 w3 hw3 => ?_)
  skip
  exact V_iret dX7_once_20 rfl (Nat.le_of_ble_eq_true rfl) (Nat.le_of_ble_eq_true rfl) (⟨rfl, _, rfl, XW.chg hO1 hF1 hw2 hw3⟩)
end XS
