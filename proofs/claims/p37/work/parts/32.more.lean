/-! the other answers -/
def sgnA (x : Int32) (X : XT) : Int32 := match idx x (xL X).1 with
  | none => -1
  | some i => nI ((xL X).2 i)
def setT (X : XT) (v : Nat × (Nat → Nat)) : XT := (xN X, xS X, xH X, xP X, xL X, v, xR X)
def appA (x : Int32) (X : XT) : Int32 × XT := match idx x 127 with
  | none => (-2, X)
  | some k => if k < 32 ∨ (xT X).1 = 70 then (-2, X) else (nI ((xT X).1 + 1), setT X ((xT X).1 + 1, putN (xT X).2 (xT X).1 k))
def refA (x : Int32) (X : XT) : Int32 := match idx x 3 with
  | none => -2
  | some k => if (xR X).1 = 0 then -4 else if k = 0 then (xR X).1 else if k = 1 then (xR X).2.1 else (xR X).2.2.1
noncomputable def accW (X : XT) (k : Nat) : Int32 := if k = 0 then nI (sC (xN X)) else if k = 1 then nI (cleanS (xN X) (sC (xN X))) else if k = 2 then nI (lenS (xN X) (sC (xN X))) else if k = 3 then nI (ballsS (xN X) (sC (xN X))) else if k = 4 then nI (sT (xN X)) else if k = 5 then nI (sU (xN X)) else if k = 6 then nI (sH (xN X)) else if k = 7 then nI (sJ (xN X)) else if k = 8 then nI (sG (xN X)) else if k = 9 then nI (xT X).1 else nI (xP X).1
noncomputable def accA (x : Int32) (X : XT) : Int32 := match idx x 11 with
  | none => -2
  | some k => accW X k
def undA (X : XT) : Int32 × XT := if (xP X).1 = 0 then (-4, X) else (nI ((xP X).1 - 1), ((xP X).2 0, xS X, xH X, ((xP X).1 - 1, fun i => (xP X).2 (i + 1)), xL X, xT X, xR X))
def savA (X : XT) : Int32 × XT := (nI (sC (xN X)), (xN X, xN X, 1, xP X, xL X, xT X, xR X))
def resA (X : XT) : Int32 × XT := if xH X = 0 then (-4, X) else (nI (sC (xS X)), (xS X, xS X, xH X, (0, (xP X).2), xL X, xT X, xR X))
section AN2
variable {g : GG} {l : Launch} {w : HW} {n o : Nat} {X : XT}
theorem TxF.obj {b tl : Nat} {t : Nat → Nat} (h : TxF g w n b tl t) : w b = eO 6 [.int (nI tl), rf g (b + 1)] ∧ tl ≤ 70 := by
  obtain ⟨C, e1, e2, e3, e4, e5⟩ := h
  exact ⟨e1, e4⟩
theorem PaF.obj {p pk : Nat} {Hs : Nat → StT} (h : PaF g w n p pk Hs) : pk ≤ 8 ∧ ∃ pn, w p = eO 2 [rf g (p + 1), .int (nI pn), .int (nI pk)] := by
  obtain ⟨pn, G, PS, h0, h1, h2, h3, h4, h5, h6, h7⟩ := h
  exact ⟨h5, pn, h1⟩
theorem XWB.txt {B : StT} {w' : HW} {tl : Nat} {t : Nat → Nat} (h : XWB g w n o X B) (h1 : TxF g w' n (o + 163) tl t) (hF : Fr2 w w' (o + 163)) : XWB g w' n o (setT X (tl, t)) B ∧ FrX w w' o := by
  obtain ⟨h0, k1, h2, h3, h4, h5, h6, h7, h8, ⟨F, h9⟩, h10⟩ := h
  exact ⟨⟨(hF _ (by omega) (by omega)).trans h0, k1.frame (fun i _ _ => hF i (by omega) (by omega)), h2.frame (fun i _ _ => hF i (by omega) (by omega)), h3.frame (fun i _ _ => hF i (by omega) (by omega)), h4.frame (fun i _ _ => hF i (by omega) (by omega)), h5.frame (fun i _ _ => hF i (by omega) (by omega)), h6.frame (hF _ (by omega) (by omega)) (hF _ (by omega) (by omega)), h1, (hF _ (by omega) (by omega)).trans h8, ⟨F, (hF _ (by omega) (by omega)).trans h9⟩, h10⟩, fun i hi => hF i (by omega) (by omega)⟩
theorem XWB.snap {B S' : StT} {w' : HW} (h : XWB g w n o X B) (h1 : Sd g w' n (o + 29) S') (hF : Fr w w' (o + 29)) : XWB g w' n o (xN X, S', xH X, xP X, xL X, xT X, xR X) B ∧ FrX w w' o := by
  obtain ⟨h0, k1, h2, h3, h4, h5, h6, h7, h8, ⟨F, h9⟩, h10⟩ := h
  exact ⟨⟨(hF _ (by omega)).trans h0, k1.frame (fun i _ _ => hF i (by omega)), h2.frame (fun i _ _ => hF i (by omega)), h1, h4.frame (fun i _ _ => hF i (by omega)), h5.frame (fun i _ _ => hF i (by omega)), h6.frame (hF _ (by omega)) (hF _ (by omega)), h7.frame (hF _ (by omega)) (hF _ (by omega)), (hF _ (by omega)).trans h8, ⟨F, (hF _ (by omega)).trans h9⟩, h10⟩, fun i hi => hF i (by omega)⟩
theorem XWB.flag {B : StT} {k : Nat} (h : XWB g w n o X B) : XWB g (va_up w o (eO 7 (xfs g o (nI k)))) n o (xN X, xS X, k, xP X, xL X, xT X, xR X) B ∧ FrX w (va_up w o (eO 7 (xfs g o (nI k)))) o := by
  obtain ⟨h0, k1, h2, h3, h4, h5, h6, h7, h8, ⟨F, h9⟩, h10⟩ := h
  exact ⟨⟨up_eq, k1.frame (fun i _ _ => up_ne (by omega)), h2.frame (fun i _ _ => up_ne (by omega)), h3.frame (fun i _ _ => up_ne (by omega)), h4.frame (fun i _ _ => up_ne (by omega)), h5.frame (fun i _ _ => up_ne (by omega)), h6.frame (up_ne (by omega)) (up_ne (by omega)), h7.frame (up_ne (by omega)) (up_ne (by omega)), (up_ne (by omega)).trans h8, ⟨F, (up_ne (by omega)).trans h9⟩, h10⟩, fun i hi => up_ne (by omega)⟩
theorem X_append (h : XW g w n o X) {x : Int32} : CtI g l MX7_append 1 [rf g o, .int x] w n (XP g w n o (appA x X)) := by
  obtain ⟨B, hX⟩ := h
  have hX0 := hX
  obtain ⟨h0, hS, h2, h3, h4, h5, h6, h7, h8, h9, h10⟩ := hX
  obtain ⟨ho, hl⟩ := h7.obj
  have no : ∀ (x : Int32), (x < nI 32 ∨ nI 126 < x ∨ (xT X).1 = 70) → CtI g l MX7_append 1 [rf g o, .int x] w n (XP g w n o (-2, X)) := by
    intro x hx
    refine Ct.ofs (M := MX7_append) (ls := [some _, some _]) (by decide +kernel) (by exact (Nat.le_of_ble_eq_true rfl)) (by rfl) (by rfl) (by rfl) ?_
    refine V_aload_n (q := 1) dX7_append_0 rfl rfl rfl ?_
    refine GX7_46 (q := 4) rfl dX7_append_1 rfl (by first | assumption | exact up_eq | exact (up_ne (by omega)).trans (by first | assumption | exact up_eq | exact (up_ne (by omega)).trans (by first | assumption | exact up_eq | exact (up_ne (by omega)).trans (by first | assumption | exact up_eq)))) (by omega) (by rfl) ?_
    refine V_iload_n (q := 5) dX7_append_4 rfl rfl ?_
    refine CiX7_196 (q := 8) rfl dX7_append_5 rfl (c_tput_no h7 hx) ⟨(Nat.le_of_ble_eq_true rfl), (Nat.le_of_ble_eq_true rfl)⟩ (Nat.le_of_ble_eq_true rfl) (by first | assumption | exact up_eq | exact (up_ne (by omega)).trans (by first | assumption | exact up_eq | exact (up_ne (by omega)).trans (by first | assumption | exact up_eq | exact (up_ne (by omega)).trans (by first | assumption | exact up_eq)))) (by omega) (Nat.zero_le _) (Nat.zero_le _) (fun y w1 hw1 => ?_)
    obtain ⟨rfl, rfl⟩ := hw1
    refine V_if_eq (q := 11) (tgt := 21) dX7_append_8 (by decide) rfl (fun _ => ?_) (fun h9 => absurd rfl h9)
    refine V_bipush (q := 23) (v := (-2)) dX7_append_21 rfl (by decide) ?_
    exact V_iret dX7_append_23 rfl (Nat.le_of_ble_eq_true rfl) (Nat.le_of_ble_eq_true rfl) (⟨rfl, _, rfl, rfl, ⟨B, hX0⟩, fun _ _ => rfl⟩)
  rcases i3_lt x 127 (by decide) with hx | ⟨k, hk, rfl⟩
  · rw [show appA x X = (-2, X) by unfold appA; rw [idx_no hx]]
    exact no x (hx.elim (fun q => Or.inl (fa_trans q (by decide))) (fun q => Or.inr (Or.inl (fa_trans (by decide : nI 126 < nI 127) q))))
  · have ea : appA (nI k) X = if k < 32 ∨ (xT X).1 = 70 then (-2, X) else (nI ((xT X).1 + 1), setT X ((xT X).1 + 1, putN (xT X).2 (xT X).1 k)) := by
      unfold appA
      rw [idx_yes hk (by decide)]
    rw [ea]
    by_cases q : k < 32 ∨ (xT X).1 = 70
    · rw [if_pos q]
      exact no (nI k) (q.elim (fun q => Or.inl ((nI_ltI (by omega) (by decide)).mpr q)) (fun q => Or.inr (Or.inr q)))
    · rw [if_neg q]
      refine Ct.ofs (M := MX7_append) (ls := [some _, some _]) (by decide +kernel) (by exact (Nat.le_of_ble_eq_true rfl)) (by rfl) (by rfl) (by rfl) ?_
      refine V_aload_n (q := 1) dX7_append_0 rfl rfl rfl ?_
      refine GX7_46 (q := 4) rfl dX7_append_1 rfl (by first | assumption | exact up_eq | exact (up_ne (by omega)).trans (by first | assumption | exact up_eq | exact (up_ne (by omega)).trans (by first | assumption | exact up_eq | exact (up_ne (by omega)).trans (by first | assumption | exact up_eq)))) (by omega) (by rfl) ?_
      refine V_iload_n (q := 5) dX7_append_4 rfl rfl ?_
      refine CiX7_196 (q := 8) rfl dX7_append_5 rfl (c_tput h7 (by omega) (x := k) (by omega) (by omega)) ⟨(Nat.le_of_ble_eq_true rfl), (Nat.le_of_ble_eq_true rfl)⟩ (Nat.le_of_ble_eq_true rfl) (by first | assumption | exact up_eq | exact (up_ne (by omega)).trans (by first | assumption | exact up_eq | exact (up_ne (by omega)).trans (by first | assumption | exact up_eq | exact (up_ne (by omega)).trans (by first | assumption | exact up_eq)))) (by omega) (Nat.zero_le _) (Nat.zero_le _) (fun y w1 hw1 => ?_)
      obtain ⟨rfl, hT1, hF1⟩ := hw1
      have fin := hX0.txt hT1 hF1
      have b0 := fin.1.1
      obtain ⟨d1, d2⟩ := hT1.obj
      have b0 : w1 o = eO 7 (xfs g o (nI (xH X))) := (hF1 _ (by omega) (by omega)).trans h0
      refine V_if_eq (q := 11) (tgt := 21) dX7_append_8 (by decide) rfl (fun h9 => absurd h9 (by decide)) (fun _ => ?_)
      refine V_aload_n (q := 12) dX7_append_11 rfl rfl rfl ?_
      refine GX7_46 (q := 15) rfl dX7_append_12 rfl (by first | assumption | exact up_eq | exact (up_ne (by omega)).trans (by first | assumption | exact up_eq | exact (up_ne (by omega)).trans (by first | assumption | exact up_eq | exact (up_ne (by omega)).trans (by first | assumption | exact up_eq)))) (by omega) (by rfl) ?_
      refine GX7_198 (q := 18) rfl dX7_append_15 rfl (by first | assumption | exact up_eq | exact (up_ne (by omega)).trans (by first | assumption | exact up_eq | exact (up_ne (by omega)).trans (by first | assumption | exact up_eq | exact (up_ne (by omega)).trans (by first | assumption | exact up_eq)))) (by omega) (by rfl) ?_
      refine V_goto (tgt := 23) dX7_append_18 (by decide) ?_
      exact V_iret dX7_append_23 rfl (Nat.le_of_ble_eq_true rfl) (Nat.le_of_ble_eq_true rfl) (⟨rfl, _, rfl, rfl, ⟨B, fin.1⟩, fin.2⟩)
theorem X_account (h : XW g w n o X) {x : Int32} : CtR g l MX7_account 4 [rf g o, .int x] w n (.int (accA x X)) := by
  obtain ⟨B, hX⟩ := h
  obtain ⟨h0, hS, h2, h3, h4, h5, h6, h7, h8, h9, h10⟩ := hX
  obtain ⟨hso, hsn⟩ := hS.obj
  obtain ⟨G, π, LL, FF, hF⟩ := hS
  obtain ⟨ho, hl⟩ := h7.obj
  obtain ⟨hp8, pn, hpo⟩ := h4.obj
  refine Ct.ofs (M := MX7_account) (ls := [some _, some _]) (by decide +kernel) (by exact (Nat.le_of_ble_eq_true rfl)) (by rfl) (by rfl) (by rfl) ?_
  refine V_iload_n (q := 1) dX7_account_0 rfl rfl ?_
  rcases i3_lt x 11 (by decide) with hy | ⟨k, hk, rfl⟩
  · rw [show accA x X = -2 by unfold accA; rw [idx_no hy]]
    refine V_tabOut (tgt := 148) dX7_account_1 (by have := out_int hy (by decide); omega) (by decide) ?_
    refine V_bipush (q := 150) (v := (-2)) dX7_account_148 rfl (by decide) ?_
    exact V_iret dX7_account_150 rfl (Nat.le_of_ble_eq_true rfl) (Nat.le_of_ble_eq_true rfl) (⟨rfl, rfl, rfl⟩)
  rw [show accA (nI k) X = accW X k by unfold accA; rw [idx_yes hk (by decide)]]
  rcases (by omega : k = 0 ∨ k = 1 ∨ k = 2 ∨ k = 3 ∨ k = 4 ∨ k = 5 ∨ k = 6 ∨ k = 7 ∨ k = 8 ∨ k = 9 ∨ k = 10) with rfl | rfl | rfl | rfl | rfl | rfl | rfl | rfl | rfl | rfl | rfl
  · skip
    refine V_tabIn (off := 59) (tgt := 60) dX7_account_1 (by decide) (by decide) (by decide) (by decide) ?_
    refine V_aload_n (q := 61) dX7_account_60 rfl rfl rfl ?_
    refine GX7_10 (q := 64) rfl dX7_account_61 rfl (by first | assumption | exact up_eq | exact (up_ne (by omega)).trans (by first | assumption | exact up_eq | exact (up_ne (by omega)).trans (by first | assumption | exact up_eq | exact (up_ne (by omega)).trans (by first | assumption | exact up_eq)))) (by omega) (by rfl) ?_
    refine GX7_172 (q := 67) rfl dX7_account_64 rfl (by first | assumption | exact up_eq | exact (up_ne (by omega)).trans (by first | assumption | exact up_eq | exact (up_ne (by omega)).trans (by first | assumption | exact up_eq | exact (up_ne (by omega)).trans (by first | assumption | exact up_eq)))) (by omega) (by rfl) ?_
    exact V_iret dX7_account_67 rfl (Nat.le_of_ble_eq_true rfl) (Nat.le_of_ble_eq_true rfl) (⟨rfl, rfl, rfl⟩)
  · skip
    refine V_tabIn (off := 67) (tgt := 68) dX7_account_1 (by decide) (by decide) (by decide) (by decide) ?_
    refine V_aload_n (q := 69) dX7_account_68 rfl rfl rfl ?_
    refine GX7_10 (q := 72) rfl dX7_account_69 rfl (by first | assumption | exact up_eq | exact (up_ne (by omega)).trans (by first | assumption | exact up_eq | exact (up_ne (by omega)).trans (by first | assumption | exact up_eq | exact (up_ne (by omega)).trans (by first | assumption | exact up_eq)))) (by omega) (by rfl) ?_
    refine CrX7_218 (q := 75) rfl dX7_account_72 rfl (c_countClean hF) ⟨(Nat.le_of_ble_eq_true rfl), (Nat.le_of_ble_eq_true rfl)⟩ (Nat.le_of_ble_eq_true rfl) (by first | assumption | exact up_eq | exact (up_ne (by omega)).trans (by first | assumption | exact up_eq | exact (up_ne (by omega)).trans (by first | assumption | exact up_eq | exact (up_ne (by omega)).trans (by first | assumption | exact up_eq)))) (by omega) (Nat.zero_le _) (Nat.zero_le _) ?_
    skip
    exact V_iret dX7_account_75 rfl (Nat.le_of_ble_eq_true rfl) (Nat.le_of_ble_eq_true rfl) (⟨rfl, rfl, rfl⟩)
  · skip
    refine V_tabIn (off := 75) (tgt := 76) dX7_account_1 (by decide) (by decide) (by decide) (by decide) ?_
    refine V_aload_n (q := 77) dX7_account_76 rfl rfl rfl ?_
    refine GX7_10 (q := 80) rfl dX7_account_77 rfl (by first | assumption | exact up_eq | exact (up_ne (by omega)).trans (by first | assumption | exact up_eq | exact (up_ne (by omega)).trans (by first | assumption | exact up_eq | exact (up_ne (by omega)).trans (by first | assumption | exact up_eq)))) (by omega) (by rfl) ?_
    refine CrX7_221 (q := 83) rfl dX7_account_80 rfl (c_countThrows hF) ⟨(Nat.le_of_ble_eq_true rfl), (Nat.le_of_ble_eq_true rfl)⟩ (Nat.le_of_ble_eq_true rfl) (by first | assumption | exact up_eq | exact (up_ne (by omega)).trans (by first | assumption | exact up_eq | exact (up_ne (by omega)).trans (by first | assumption | exact up_eq | exact (up_ne (by omega)).trans (by first | assumption | exact up_eq)))) (by omega) (Nat.zero_le _) (Nat.zero_le _) ?_
    skip
    exact V_iret dX7_account_83 rfl (Nat.le_of_ble_eq_true rfl) (Nat.le_of_ble_eq_true rfl) (⟨rfl, rfl, rfl⟩)
  · skip
    refine V_tabIn (off := 83) (tgt := 84) dX7_account_1 (by decide) (by decide) (by decide) (by decide) ?_
    refine V_aload_n (q := 85) dX7_account_84 rfl rfl rfl ?_
    refine GX7_10 (q := 88) rfl dX7_account_85 rfl (by first | assumption | exact up_eq | exact (up_ne (by omega)).trans (by first | assumption | exact up_eq | exact (up_ne (by omega)).trans (by first | assumption | exact up_eq | exact (up_ne (by omega)).trans (by first | assumption | exact up_eq)))) (by omega) (by rfl) ?_
    refine CrX7_224 (q := 91) rfl dX7_account_88 rfl (c_ballsOfClean hF) ⟨(Nat.le_of_ble_eq_true rfl), (Nat.le_of_ble_eq_true rfl)⟩ (Nat.le_of_ble_eq_true rfl) (by first | assumption | exact up_eq | exact (up_ne (by omega)).trans (by first | assumption | exact up_eq | exact (up_ne (by omega)).trans (by first | assumption | exact up_eq | exact (up_ne (by omega)).trans (by first | assumption | exact up_eq)))) (by omega) (Nat.zero_le _) (Nat.zero_le _) ?_
    skip
    exact V_iret dX7_account_91 rfl (Nat.le_of_ble_eq_true rfl) (Nat.le_of_ble_eq_true rfl) (⟨rfl, rfl, rfl⟩)
  · skip
    refine V_tabIn (off := 91) (tgt := 92) dX7_account_1 (by decide) (by decide) (by decide) (by decide) ?_
    refine V_aload_n (q := 93) dX7_account_92 rfl rfl rfl ?_
    refine GX7_10 (q := 96) rfl dX7_account_93 rfl (by first | assumption | exact up_eq | exact (up_ne (by omega)).trans (by first | assumption | exact up_eq | exact (up_ne (by omega)).trans (by first | assumption | exact up_eq | exact (up_ne (by omega)).trans (by first | assumption | exact up_eq)))) (by omega) (by rfl) ?_
    refine GX7_227 (q := 99) rfl dX7_account_96 rfl (by first | assumption | exact up_eq | exact (up_ne (by omega)).trans (by first | assumption | exact up_eq | exact (up_ne (by omega)).trans (by first | assumption | exact up_eq | exact (up_ne (by omega)).trans (by first | assumption | exact up_eq)))) (by omega) (by rfl) ?_
    exact V_iret dX7_account_99 rfl (Nat.le_of_ble_eq_true rfl) (Nat.le_of_ble_eq_true rfl) (⟨rfl, rfl, rfl⟩)
  · skip
    refine V_tabIn (off := 99) (tgt := 100) dX7_account_1 (by decide) (by decide) (by decide) (by decide) ?_
    refine V_aload_n (q := 101) dX7_account_100 rfl rfl rfl ?_
    refine GX7_10 (q := 104) rfl dX7_account_101 rfl (by first | assumption | exact up_eq | exact (up_ne (by omega)).trans (by first | assumption | exact up_eq | exact (up_ne (by omega)).trans (by first | assumption | exact up_eq | exact (up_ne (by omega)).trans (by first | assumption | exact up_eq)))) (by omega) (by rfl) ?_
    refine GX7_230 (q := 107) rfl dX7_account_104 rfl (by first | assumption | exact up_eq | exact (up_ne (by omega)).trans (by first | assumption | exact up_eq | exact (up_ne (by omega)).trans (by first | assumption | exact up_eq | exact (up_ne (by omega)).trans (by first | assumption | exact up_eq)))) (by omega) (by rfl) ?_
    exact V_iret dX7_account_107 rfl (Nat.le_of_ble_eq_true rfl) (Nat.le_of_ble_eq_true rfl) (⟨rfl, rfl, rfl⟩)
  · skip
    refine V_tabIn (off := 107) (tgt := 108) dX7_account_1 (by decide) (by decide) (by decide) (by decide) ?_
    refine V_aload_n (q := 109) dX7_account_108 rfl rfl rfl ?_
    refine GX7_10 (q := 112) rfl dX7_account_109 rfl (by first | assumption | exact up_eq | exact (up_ne (by omega)).trans (by first | assumption | exact up_eq | exact (up_ne (by omega)).trans (by first | assumption | exact up_eq | exact (up_ne (by omega)).trans (by first | assumption | exact up_eq)))) (by omega) (by rfl) ?_
    refine GX7_233 (q := 115) rfl dX7_account_112 rfl (by first | assumption | exact up_eq | exact (up_ne (by omega)).trans (by first | assumption | exact up_eq | exact (up_ne (by omega)).trans (by first | assumption | exact up_eq | exact (up_ne (by omega)).trans (by first | assumption | exact up_eq)))) (by omega) (by rfl) ?_
    exact V_iret dX7_account_115 rfl (Nat.le_of_ble_eq_true rfl) (Nat.le_of_ble_eq_true rfl) (⟨rfl, rfl, rfl⟩)
  · skip
    refine V_tabIn (off := 115) (tgt := 116) dX7_account_1 (by decide) (by decide) (by decide) (by decide) ?_
    refine V_aload_n (q := 117) dX7_account_116 rfl rfl rfl ?_
    refine GX7_10 (q := 120) rfl dX7_account_117 rfl (by first | assumption | exact up_eq | exact (up_ne (by omega)).trans (by first | assumption | exact up_eq | exact (up_ne (by omega)).trans (by first | assumption | exact up_eq | exact (up_ne (by omega)).trans (by first | assumption | exact up_eq)))) (by omega) (by rfl) ?_
    refine GX7_236 (q := 123) rfl dX7_account_120 rfl (by first | assumption | exact up_eq | exact (up_ne (by omega)).trans (by first | assumption | exact up_eq | exact (up_ne (by omega)).trans (by first | assumption | exact up_eq | exact (up_ne (by omega)).trans (by first | assumption | exact up_eq)))) (by omega) (by rfl) ?_
    exact V_iret dX7_account_123 rfl (Nat.le_of_ble_eq_true rfl) (Nat.le_of_ble_eq_true rfl) (⟨rfl, rfl, rfl⟩)
  · skip
    refine V_tabIn (off := 123) (tgt := 124) dX7_account_1 (by decide) (by decide) (by decide) (by decide) ?_
    refine V_aload_n (q := 125) dX7_account_124 rfl rfl rfl ?_
    refine GX7_10 (q := 128) rfl dX7_account_125 rfl (by first | assumption | exact up_eq | exact (up_ne (by omega)).trans (by first | assumption | exact up_eq | exact (up_ne (by omega)).trans (by first | assumption | exact up_eq | exact (up_ne (by omega)).trans (by first | assumption | exact up_eq)))) (by omega) (by rfl) ?_
    refine GX7_239 (q := 131) rfl dX7_account_128 rfl (by first | assumption | exact up_eq | exact (up_ne (by omega)).trans (by first | assumption | exact up_eq | exact (up_ne (by omega)).trans (by first | assumption | exact up_eq | exact (up_ne (by omega)).trans (by first | assumption | exact up_eq)))) (by omega) (by rfl) ?_
    exact V_iret dX7_account_131 rfl (Nat.le_of_ble_eq_true rfl) (Nat.le_of_ble_eq_true rfl) (⟨rfl, rfl, rfl⟩)
  · skip
    refine V_tabIn (off := 131) (tgt := 132) dX7_account_1 (by decide) (by decide) (by decide) (by decide) ?_
    refine V_aload_n (q := 133) dX7_account_132 rfl rfl rfl ?_
    refine GX7_46 (q := 136) rfl dX7_account_133 rfl (by first | assumption | exact up_eq | exact (up_ne (by omega)).trans (by first | assumption | exact up_eq | exact (up_ne (by omega)).trans (by first | assumption | exact up_eq | exact (up_ne (by omega)).trans (by first | assumption | exact up_eq)))) (by omega) (by rfl) ?_
    refine GX7_198 (q := 139) rfl dX7_account_136 rfl (by first | assumption | exact up_eq | exact (up_ne (by omega)).trans (by first | assumption | exact up_eq | exact (up_ne (by omega)).trans (by first | assumption | exact up_eq | exact (up_ne (by omega)).trans (by first | assumption | exact up_eq)))) (by omega) (by rfl) ?_
    exact V_iret dX7_account_139 rfl (Nat.le_of_ble_eq_true rfl) (Nat.le_of_ble_eq_true rfl) (⟨rfl, rfl, rfl⟩)
  · skip
    refine V_tabIn (off := 139) (tgt := 140) dX7_account_1 (by decide) (by decide) (by decide) (by decide) ?_
    refine V_aload_n (q := 141) dX7_account_140 rfl rfl rfl ?_
    refine GX7_25 (q := 144) rfl dX7_account_141 rfl (by first | assumption | exact up_eq | exact (up_ne (by omega)).trans (by first | assumption | exact up_eq | exact (up_ne (by omega)).trans (by first | assumption | exact up_eq | exact (up_ne (by omega)).trans (by first | assumption | exact up_eq)))) (by omega) (by rfl) ?_
    refine GX7_242 (q := 147) rfl dX7_account_144 rfl (by first | assumption | exact up_eq | exact (up_ne (by omega)).trans (by first | assumption | exact up_eq | exact (up_ne (by omega)).trans (by first | assumption | exact up_eq | exact (up_ne (by omega)).trans (by first | assumption | exact up_eq)))) (by omega) (by rfl) ?_
    exact V_iret dX7_account_147 rfl (Nat.le_of_ble_eq_true rfl) (Nat.le_of_ble_eq_true rfl) (⟨rfl, rfl, rfl⟩)
theorem X_undo (h : XW g w n o X) : CtI g l MX7_undo 4 [rf g o] w n (XP g w n o (undA X)) := by
  obtain ⟨B, hX⟩ := h
  have hX0 := hX
  obtain ⟨h0, hS, h2, h3, h4, h5, h6, h7, h8, h9, h10⟩ := hX
  obtain ⟨hso, hsn⟩ := hS.obj
  obtain ⟨hp8, pn, hpo⟩ := h4.obj
  unfold undA
  refine Ct.ofs (M := MX7_undo) (ls := [some _]) (by decide +kernel) (by exact (Nat.le_of_ble_eq_true rfl)) (by rfl) (by rfl) (by rfl) ?_
  refine V_aload_n (q := 1) dX7_undo_0 rfl rfl rfl ?_
  refine GX7_25 (q := 4) rfl dX7_undo_1 rfl (by first | assumption | exact up_eq | exact (up_ne (by omega)).trans (by first | assumption | exact up_eq | exact (up_ne (by omega)).trans (by first | assumption | exact up_eq | exact (up_ne (by omega)).trans (by first | assumption | exact up_eq)))) (by omega) (by rfl) ?_
  refine V_aload_n (q := 5) dX7_undo_4 rfl rfl rfl ?_
  refine GX7_10 (q := 8) rfl dX7_undo_5 rfl (by first | assumption | exact up_eq | exact (up_ne (by omega)).trans (by first | assumption | exact up_eq | exact (up_ne (by omega)).trans (by first | assumption | exact up_eq | exact (up_ne (by omega)).trans (by first | assumption | exact up_eq)))) (by omega) (by rfl) ?_
  by_cases hp : (xP X).1 = 0
  · rw [if_pos hp]
    rw [hp] at h4
    refine CiX7_255 (q := 11) rfl dX7_undo_8 rfl (c_takeBack_no h4) ⟨(Nat.le_of_ble_eq_true rfl), (Nat.le_of_ble_eq_true rfl)⟩ (Nat.le_of_ble_eq_true rfl) (by first | assumption | exact up_eq | exact (up_ne (by omega)).trans (by first | assumption | exact up_eq | exact (up_ne (by omega)).trans (by first | assumption | exact up_eq | exact (up_ne (by omega)).trans (by first | assumption | exact up_eq)))) (by omega) (Nat.zero_le _) (Nat.zero_le _) (fun y w1 hw1 => ?_)
    obtain ⟨rfl, rfl⟩ := hw1
    refine V_if_eq (q := 14) (tgt := 24) dX7_undo_11 (by decide) rfl (fun _ => ?_) (fun h9 => absurd rfl h9)
    refine V_bipush (q := 26) (v := (-4)) dX7_undo_24 rfl (by decide) ?_
    exact V_iret dX7_undo_26 rfl (Nat.le_of_ble_eq_true rfl) (Nat.le_of_ble_eq_true rfl) (⟨rfl, _, rfl, rfl, ⟨B, hX0⟩, fun _ _ => rfl⟩)
  · rw [if_neg hp]
    rw [show (xP X).1 = (xP X).1 - 1 + 1 by omega] at h4
    refine CiX7_255 (q := 11) rfl dX7_undo_8 rfl (c_takeBack h4 hS (by omega)) ⟨(Nat.le_of_ble_eq_true rfl), (Nat.le_of_ble_eq_true rfl)⟩ (Nat.le_of_ble_eq_true rfl) (by first | assumption | exact up_eq | exact (up_ne (by omega)).trans (by first | assumption | exact up_eq | exact (up_ne (by omega)).trans (by first | assumption | exact up_eq | exact (up_ne (by omega)).trans (by first | assumption | exact up_eq)))) (by omega) (Nat.zero_le _) (Nat.zero_le _) (fun y w1 hw1 => ?_)
    obtain ⟨rfl, hP1, hS1, hF1⟩ := hw1
    have b0 : w1 o = eO 7 (xfs g o (nI (xH X))) := (hF1 _ (by omega) (by omega)).trans h0
    obtain ⟨hp81, pn1, hpo1⟩ := hP1.obj
    obtain ⟨F, h9⟩ := h9
    refine V_if_eq (q := 14) (tgt := 24) dX7_undo_11 (by decide) rfl (fun h9 => absurd h9 (by decide)) (fun _ => ?_)
    refine V_aload_n (q := 15) dX7_undo_14 rfl rfl rfl ?_
    refine GX7_25 (q := 18) rfl dX7_undo_15 rfl (by first | assumption | exact up_eq | exact (up_ne (by omega)).trans (by first | assumption | exact up_eq | exact (up_ne (by omega)).trans (by first | assumption | exact up_eq | exact (up_ne (by omega)).trans (by first | assumption | exact up_eq)))) (by omega) (by rfl) ?_
    refine GX7_242 (q := 21) rfl dX7_undo_18 rfl (by first | assumption | exact up_eq | exact (up_ne (by omega)).trans (by first | assumption | exact up_eq | exact (up_ne (by omega)).trans (by first | assumption | exact up_eq | exact (up_ne (by omega)).trans (by first | assumption | exact up_eq)))) (by omega) (by rfl) ?_
    refine V_goto (tgt := 26) dX7_undo_21 (by decide) ?_
    exact V_iret dX7_undo_26 rfl (Nat.le_of_ble_eq_true rfl) (Nat.le_of_ble_eq_true rfl) (⟨rfl, _, rfl, rfl, ⟨B, b0, hS1, h2.frame (fun i _ _ => hF1 i (by omega) (by omega)), h3.frame (fun i _ _ => hF1 i (by omega) (by omega)), hP1, h5.frame (fun i _ _ => hF1 i (by omega) (by omega)), h6.frame (hF1 _ (by omega) (by omega)) (hF1 _ (by omega) (by omega)), h7.frame (hF1 _ (by omega) (by omega)) (hF1 _ (by omega) (by omega)), (hF1 _ (by omega) (by omega)).trans h8, ⟨F, (hF1 _ (by omega) (by omega)).trans h9⟩, h10⟩, fun i hi => hF1 i (by omega) (by omega)⟩)
theorem X_save (h : XW g w n o X) : CtI g l MX7_save 3 [rf g o] w n (XP g w n o (savA X)) := by
  obtain ⟨B, hX⟩ := h
  have hX0 := hX
  obtain ⟨h0, hS, h2, h3, h4, h5, h6, h7, h8, h9, h10⟩ := hX
  obtain ⟨hso, hsn⟩ := hS.obj
  obtain ⟨hso3, hsn3⟩ := h3.obj
  refine Ct.ofs (M := MX7_save) (ls := [some _]) (by decide +kernel) (by exact (Nat.le_of_ble_eq_true rfl)) (by rfl) (by rfl) (by rfl) ?_
  refine V_aload_n (q := 1) dX7_save_0 rfl rfl rfl ?_
  refine GX7_19 (q := 4) rfl dX7_save_1 rfl (by first | assumption | exact up_eq | exact (up_ne (by omega)).trans (by first | assumption | exact up_eq | exact (up_ne (by omega)).trans (by first | assumption | exact up_eq | exact (up_ne (by omega)).trans (by first | assumption | exact up_eq)))) (by omega) (by rfl) ?_
  refine V_aload_n (q := 5) dX7_save_4 rfl rfl rfl ?_
  refine GX7_10 (q := 8) rfl dX7_save_5 rfl (by first | assumption | exact up_eq | exact (up_ne (by omega)).trans (by first | assumption | exact up_eq | exact (up_ne (by omega)).trans (by first | assumption | exact up_eq | exact (up_ne (by omega)).trans (by first | assumption | exact up_eq)))) (by omega) (by rfl) ?_
  refine CvX7_61 (q := 11) rfl dX7_save_8 rfl (c_copyFrom h3 hS (by omega)) ⟨(Nat.le_of_ble_eq_true rfl), (Nat.le_of_ble_eq_true rfl)⟩ (Nat.le_of_ble_eq_true rfl) (by first | assumption | exact up_eq | exact (up_ne (by omega)).trans (by first | assumption | exact up_eq | exact (up_ne (by omega)).trans (by first | assumption | exact up_eq | exact (up_ne (by omega)).trans (by first | assumption | exact up_eq)))) (by omega) (Nat.zero_le _) (Nat.zero_le _) (fun w1 hw1 => ?_)
  obtain ⟨hS1, hF1⟩ := hw1
  have fin := hX0.snap hS1 hF1
  have fin2 := fin.1.flag (k := 1)
  have b0 : w1 o = eO 7 (xfs g o (nI (xH X))) := (hF1 _ (by omega)).trans h0
  have b1 : w1 (o + 1) = eO 5 (sfs g (o + 1) (xN X)) := (hF1 _ (by omega)).trans hso
  refine V_aload_n (q := 12) dX7_save_11 rfl rfl rfl ?_
  refine V_iconst (q := 13) (v := nI 1) dX7_save_12 rfl (by decide) ?_
  refine PX7_259 (q := 16) (fs' := [_, _, _, _, _, _, _, _, _, _]) rfl dX7_save_13 rfl rfl rfl (by first | assumption | exact up_eq | exact (up_ne (by omega)).trans (by first | assumption | exact up_eq | exact (up_ne (by omega)).trans (by first | assumption | exact up_eq | exact (up_ne (by omega)).trans (by first | assumption | exact up_eq)))) (by omega) (by exact (Nat.le_of_ble_eq_true rfl)) (by rfl) ?_
  try rw [up_up]
  refine V_aload_n (q := 17) dX7_save_16 rfl rfl rfl ?_
  refine GX7_10 (q := 20) rfl dX7_save_17 rfl (by first | assumption | exact up_eq | exact (up_ne (by omega)).trans (by first | assumption | exact up_eq | exact (up_ne (by omega)).trans (by first | assumption | exact up_eq | exact (up_ne (by omega)).trans (by first | assumption | exact up_eq)))) (by omega) (by rfl) ?_
  refine GX7_172 (q := 23) rfl dX7_save_20 rfl (by first | assumption | exact up_eq | exact (up_ne (by omega)).trans (by first | assumption | exact up_eq | exact (up_ne (by omega)).trans (by first | assumption | exact up_eq | exact (up_ne (by omega)).trans (by first | assumption | exact up_eq)))) (by omega) (by rfl) ?_
  exact V_iret dX7_save_23 rfl (Nat.le_of_ble_eq_true rfl) (Nat.le_of_ble_eq_true rfl) (⟨rfl, _, rfl, rfl, ⟨B, fin2.1⟩, fin.2.tr fin2.2⟩)
theorem X_restore (h : XW g w n o X) (hH : xH X ≤ 1) : CtI g l MX7_restore 3 [rf g o] w n (XP g w n o (resA X)) := by
  obtain ⟨B, hX⟩ := h
  have hX0 := hX
  obtain ⟨h0, hS, h2, h3, h4, h5, h6, h7, h8, h9, h10⟩ := hX
  obtain ⟨hso, hsn⟩ := hS.obj
  obtain ⟨hso3, hsn3⟩ := h3.obj
  obtain ⟨hp8, pn, hpo⟩ := h4.obj
  unfold resA
  refine Ct.ofs (M := MX7_restore) (ls := [some _]) (by decide +kernel) (by exact (Nat.le_of_ble_eq_true rfl)) (by rfl) (by rfl) (by rfl) ?_
  refine V_aload_n (q := 1) dX7_restore_0 rfl rfl rfl ?_
  refine GX7_259 (q := 4) rfl dX7_restore_1 rfl (by first | assumption | exact up_eq | exact (up_ne (by omega)).trans (by first | assumption | exact up_eq | exact (up_ne (by omega)).trans (by first | assumption | exact up_eq | exact (up_ne (by omega)).trans (by first | assumption | exact up_eq)))) (by omega) (by rfl) ?_
  refine V_ifN_ne (q := 7) (tgt := 10) dX7_restore_4 (by decide) rfl (by omega) (fun hh => ?_) (fun hh => ?_)
  · skip
    rw [if_neg hh]
    refine V_aload_n (q := 11) dX7_restore_10 rfl rfl rfl ?_
    refine GX7_10 (q := 14) rfl dX7_restore_11 rfl (by first | assumption | exact up_eq | exact (up_ne (by omega)).trans (by first | assumption | exact up_eq | exact (up_ne (by omega)).trans (by first | assumption | exact up_eq | exact (up_ne (by omega)).trans (by first | assumption | exact up_eq)))) (by omega) (by rfl) ?_
    refine V_aload_n (q := 15) dX7_restore_14 rfl rfl rfl ?_
    refine GX7_19 (q := 18) rfl dX7_restore_15 rfl (by first | assumption | exact up_eq | exact (up_ne (by omega)).trans (by first | assumption | exact up_eq | exact (up_ne (by omega)).trans (by first | assumption | exact up_eq | exact (up_ne (by omega)).trans (by first | assumption | exact up_eq)))) (by omega) (by rfl) ?_
    refine CvX7_61 (q := 21) rfl dX7_restore_18 rfl (c_copyFrom hS h3 (by omega)) ⟨(Nat.le_of_ble_eq_true rfl), (Nat.le_of_ble_eq_true rfl)⟩ (Nat.le_of_ble_eq_true rfl) (by first | assumption | exact up_eq | exact (up_ne (by omega)).trans (by first | assumption | exact up_eq | exact (up_ne (by omega)).trans (by first | assumption | exact up_eq | exact (up_ne (by omega)).trans (by first | assumption | exact up_eq)))) (by omega) (Nat.zero_le _) (Nat.zero_le _) (fun w1 hw1 => ?_)
    obtain ⟨hS1, hF1⟩ := hw1
    have fin := hX0.cur hS1 hF1
    obtain ⟨b0, b1, -, -, b4, -⟩ := id fin.1
    obtain ⟨b1o, -⟩ := b1.obj
    obtain ⟨-, pn1, bpo⟩ := b4.obj
    refine V_aload_n (q := 22) dX7_restore_21 rfl rfl rfl ?_
    refine GX7_25 (q := 25) rfl dX7_restore_22 rfl (by first | assumption | exact up_eq | exact (up_ne (by omega)).trans (by first | assumption | exact up_eq | exact (up_ne (by omega)).trans (by first | assumption | exact up_eq | exact (up_ne (by omega)).trans (by first | assumption | exact up_eq)))) (by omega) (by rfl) ?_
    refine CvX7_263 (q := 28) rfl dX7_restore_25 rfl (c_forget b4) ⟨(Nat.le_of_ble_eq_true rfl), (Nat.le_of_ble_eq_true rfl)⟩ (Nat.le_of_ble_eq_true rfl) (by first | assumption | exact up_eq | exact (up_ne (by omega)).trans (by first | assumption | exact up_eq | exact (up_ne (by omega)).trans (by first | assumption | exact up_eq | exact (up_ne (by omega)).trans (by first | assumption | exact up_eq)))) (by omega) (Nat.zero_le _) (Nat.zero_le _) (fun w2 hw2 => ?_)
    have fin2 := fin.1.past hw2.1 hw2.2
    have c0 : w2 o = eO 7 (xfs g o (nI (xH X))) := (hw2.2 _ (by omega)).trans b0
    have c1 : w2 (o + 1) = eO 5 (sfs g (o + 1) (xS X)) := (hw2.2 _ (by omega)).trans b1o
    refine V_aload_n (q := 29) dX7_restore_28 rfl rfl rfl ?_
    refine GX7_10 (q := 32) rfl dX7_restore_29 rfl (by first | assumption | exact up_eq | exact (up_ne (by omega)).trans (by first | assumption | exact up_eq | exact (up_ne (by omega)).trans (by first | assumption | exact up_eq | exact (up_ne (by omega)).trans (by first | assumption | exact up_eq)))) (by omega) (by rfl) ?_
    refine GX7_172 (q := 35) rfl dX7_restore_32 rfl (by first | assumption | exact up_eq | exact (up_ne (by omega)).trans (by first | assumption | exact up_eq | exact (up_ne (by omega)).trans (by first | assumption | exact up_eq | exact (up_ne (by omega)).trans (by first | assumption | exact up_eq)))) (by omega) (by rfl) ?_
    exact V_iret dX7_restore_35 rfl (Nat.le_of_ble_eq_true rfl) (Nat.le_of_ble_eq_true rfl) (⟨rfl, _, rfl, rfl, ⟨B, fin2.1⟩, fin.2.tr fin2.2⟩)
  · skip
    rw [if_pos hh]
    refine V_bipush (q := 9) (v := (-4)) dX7_restore_7 rfl (by decide) ?_
    exact V_iret dX7_restore_9 rfl (Nat.le_of_ble_eq_true rfl) (Nat.le_of_ble_eq_true rfl) (⟨rfl, _, rfl, rfl, ⟨B, hX0⟩, fun _ _ => rfl⟩)
theorem c_isRowWell {B : StT} (hX : XWB g w n o X B) (hK : OkS (xN X)) {G : Nat → Option Nat} {π LL : Nat → Nat} {FF : Nat → Nat → Int32} (hF : SdF g w n (o + 1) (xN X) G π LL FF) {i : Nat} (hi : i < sC (xN X)) : CtI g l MX7_isRowWell 4 [rf g o, rf g (π i)] w n (fun y w' => y = 1 ∧ Jn g w' n (o + 157) ∧ FrJ w w' (o + 157)) := by
  obtain ⟨h0, hS, h2, h3, h4, h5, h6, h7, h8, h9, h10⟩ := hX
  obtain ⟨hso, hsn⟩ := hS.obj
  obtain ⟨T0, Qa0, m0, Hh0, hJ0⟩ := id h5
  have hjo := hJ0.1
  have hc6 := hF.2.2.2.1
  obtain ⟨k1, k2, k3, k4⟩ := hF.2.2.2.2.1 i (by omega)
  obtain ⟨e1, e2, e3⟩ := hF.2.2.2.2.2.2 i hi
  have hrow := k4.1
  have hL8 := k4.2.2.2
  rw [e1] at k4 e3 e2 hL8 hrow
  have hcn := clN_le (sR (xN X) i).2 (sR (xN X) i).1
  refine Ct.ofs (M := MX7_isRowWell) (ls := [some _, some _, none, none]) (by decide +kernel) (by exact (Nat.le_of_ble_eq_true rfl)) (by rfl) (by rfl) (by rfl) ?_
  refine V_aload_n (q := 1) dX7_isRowWell_0 rfl rfl rfl ?_
  refine CrX7_137 (q := 4) rfl dX7_isRowWell_1 rfl (c_marks k4 e3 e2) ⟨(Nat.le_of_ble_eq_true rfl), (Nat.le_of_ble_eq_true rfl)⟩ (Nat.le_of_ble_eq_true rfl) (by first | assumption | exact up_eq | exact (up_ne (by omega)).trans (by first | assumption | exact up_eq | exact (up_ne (by omega)).trans (by first | assumption | exact up_eq | exact (up_ne (by omega)).trans (by first | assumption | exact up_eq)))) (by omega) (Nat.zero_le _) (Nat.zero_le _) ?_
  by_cases hcl : clN (sR (xN X) i).2 (sR (xN X) i).1 = (sR (xN X) i).1
  · skip
    refine V_topi (if_pos hcl) ?_
    refine V_istore_n (q := 5) (ls' := [_, _, _, _]) dX7_isRowWell_4 rfl (by decide) (by rfl) rfl ?_
    refine V_iload_n (q := 6) dX7_isRowWell_5 rfl rfl ?_
    refine V_aload_n (q := 7) dX7_isRowWell_6 rfl rfl rfl ?_
    refine CrX7_115 (q := 10) rfl dX7_isRowWell_7 rfl (c_clash k4 e3) ⟨(Nat.le_of_ble_eq_true rfl), (Nat.le_of_ble_eq_true rfl)⟩ (Nat.le_of_ble_eq_true rfl) (by first | assumption | exact up_eq | exact (up_ne (by omega)).trans (by first | assumption | exact up_eq | exact (up_ne (by omega)).trans (by first | assumption | exact up_eq | exact (up_ne (by omega)).trans (by first | assumption | exact up_eq)))) (by omega) (Nat.zero_le _) (Nat.zero_le _) ?_
    refine V_topi (clshI_no hcl) ?_
    refine V_bipush (q := 12) (v := (-4)) dX7_isRowWell_10 rfl (by decide) ?_
    refine V_icmp_ne (q := 15) (tgt := 19) dX7_isRowWell_12 (by decide) rfl (fun h9 => absurd (by decide) h9) (fun _ => ?_)
    refine V_iconst (q := 16) (v := nI 1) dX7_isRowWell_15 rfl (by decide) ?_
    refine V_goto (tgt := 20) dX7_isRowWell_16 (by decide) ?_
    refine V_icmp_eq (q := 23) (tgt := 25) dX7_isRowWell_20 (by decide) rfl (fun _ => ?_) (fun h9 => absurd rfl h9)
    refine V_iload_n (q := 26) dX7_isRowWell_25 rfl rfl ?_
    refine V_if_ne (q := 29) (tgt := 31) dX7_isRowWell_26 (by decide) rfl (fun _ => ?_) (fun h9 => absurd h9 (by decide))
    refine V_aload_n (q := 32) dX7_isRowWell_31 rfl rfl rfl ?_
    refine CrX7_313 (q := 35) rfl dX7_isRowWell_32 rfl (c_holdBalls k4 e3 e2 hcl) ⟨(Nat.le_of_ble_eq_true rfl), (Nat.le_of_ble_eq_true rfl)⟩ (Nat.le_of_ble_eq_true rfl) (by first | assumption | exact up_eq | exact (up_ne (by omega)).trans (by first | assumption | exact up_eq | exact (up_ne (by omega)).trans (by first | assumption | exact up_eq | exact (up_ne (by omega)).trans (by first | assumption | exact up_eq)))) (by omega) (Nat.zero_le _) (Nat.zero_le _) ?_
    refine V_if_ne (q := 38) (tgt := 40) dX7_isRowWell_35 (by decide) rfl (fun _ => ?_) (fun h9 => absurd h9 (by decide))
    refine V_aload_n (q := 41) dX7_isRowWell_40 rfl rfl rfl ?_
    refine V_aload_n (q := 42) dX7_isRowWell_41 rfl rfl rfl ?_
    refine CrX7_158 (q := 45) rfl dX7_isRowWell_42 rfl (c_hasJoin h0 h10 hF hK.1 k4 e3 e2) ⟨(Nat.le_of_ble_eq_true rfl), (Nat.le_of_ble_eq_true rfl)⟩ (Nat.le_of_ble_eq_true rfl) (by first | assumption | exact up_eq | exact (up_ne (by omega)).trans (by first | assumption | exact up_eq | exact (up_ne (by omega)).trans (by first | assumption | exact up_eq | exact (up_ne (by omega)).trans (by first | assumption | exact up_eq)))) (by omega) (Nat.zero_le _) (Nat.zero_le _) ?_
    by_cases hj : ballI (sR (xN X) i).2 (sR (xN X) i).1 = nI (popc (sS (xN X)))
    · skip
      refine V_topi (if_pos hj) ?_
      obtain ⟨hst, k, hk9, hk⟩ := reach_is e2 (fun j hj => (e3 j hj).2) hK.1 hj
      refine V_if_ne (q := 48) (tgt := 50) dX7_isRowWell_45 (by decide) rfl (fun _ => ?_) (fun h9 => absurd h9 (by decide))
      refine V_aload_n (q := 51) dX7_isRowWell_50 rfl rfl rfl ?_
      refine V_iconst (q := 52) (v := nI 0) dX7_isRowWell_51 rfl (by decide) ?_
      refine CrX7_141 (q := 55) rfl dX7_isRowWell_52 rfl (c_stateAt k4 e3 e2 e2) ⟨(Nat.le_of_ble_eq_true rfl), (Nat.le_of_ble_eq_true rfl)⟩ (Nat.le_of_ble_eq_true rfl) (by first | assumption | exact up_eq | exact (up_ne (by omega)).trans (by first | assumption | exact up_eq | exact (up_ne (by omega)).trans (by first | assumption | exact up_eq | exact (up_ne (by omega)).trans (by first | assumption | exact up_eq)))) (by omega) (Nat.zero_le _) (Nat.zero_le _) ?_
      refine V_istore_n (q := 56) (ls' := [_, _, _, _]) dX7_isRowWell_55 rfl (by decide) (by rfl) rfl ?_
      refine V_aload_n (q := 57) dX7_isRowWell_56 rfl rfl rfl ?_
      refine GX7_32 (q := 60) rfl dX7_isRowWell_57 rfl (by first | assumption | exact up_eq | exact (up_ne (by omega)).trans (by first | assumption | exact up_eq | exact (up_ne (by omega)).trans (by first | assumption | exact up_eq | exact (up_ne (by omega)).trans (by first | assumption | exact up_eq)))) (by omega) (by rfl) ?_
      refine V_aload_n (q := 61) dX7_isRowWell_60 rfl rfl rfl ?_
      refine GX7_10 (q := 64) rfl dX7_isRowWell_61 rfl (by first | assumption | exact up_eq | exact (up_ne (by omega)).trans (by first | assumption | exact up_eq | exact (up_ne (by omega)).trans (by first | assumption | exact up_eq | exact (up_ne (by omega)).trans (by first | assumption | exact up_eq)))) (by omega) (by rfl) ?_
      refine GX7_144 (q := 67) rfl dX7_isRowWell_64 rfl (by first | assumption | exact up_eq | exact (up_ne (by omega)).trans (by first | assumption | exact up_eq | exact (up_ne (by omega)).trans (by first | assumption | exact up_eq | exact (up_ne (by omega)).trans (by first | assumption | exact up_eq)))) (by omega) (by rfl) ?_
      refine V_iload_n (q := 68) dX7_isRowWell_67 rfl rfl ?_
      refine CiX7_162 (q := 71) rfl dX7_isRowWell_68 rfl (c_countOnward h5 hK.1 hst hk) ⟨(Nat.le_of_ble_eq_true rfl), (Nat.le_of_ble_eq_true rfl)⟩ (Nat.le_of_ble_eq_true rfl) (by first | assumption | exact up_eq | exact (up_ne (by omega)).trans (by first | assumption | exact up_eq | exact (up_ne (by omega)).trans (by first | assumption | exact up_eq | exact (up_ne (by omega)).trans (by first | assumption | exact up_eq)))) (by omega) (Nat.zero_le _) (Nat.zero_le _) (fun u w1 hw1 => ?_)
      obtain ⟨rfl, hJ1, hF1⟩ := hw1
      have b0 : w1 o = eO 7 (xfs g o (nI (xH X))) := (hF1 _ (by omega)).trans h0
      have bs : w1 (o + 1) = eO 5 (sfs g (o + 1) (xN X)) := (hF1 _ (by omega)).trans hso
      obtain ⟨T1, Qa1, m1, Hh1, hJ1'⟩ := id hJ1
      have hjo1 := hJ1'.1
      refine V_aload_n (q := 72) dX7_isRowWell_71 rfl rfl rfl ?_
      refine GX7_32 (q := 75) rfl dX7_isRowWell_72 rfl (by first | assumption | exact up_eq | exact (up_ne (by omega)).trans (by first | assumption | exact up_eq | exact (up_ne (by omega)).trans (by first | assumption | exact up_eq | exact (up_ne (by omega)).trans (by first | assumption | exact up_eq)))) (by omega) (by rfl) ?_
      refine V_aload_n (q := 76) dX7_isRowWell_75 rfl rfl rfl ?_
      refine GX7_10 (q := 79) rfl dX7_isRowWell_76 rfl (by first | assumption | exact up_eq | exact (up_ne (by omega)).trans (by first | assumption | exact up_eq | exact (up_ne (by omega)).trans (by first | assumption | exact up_eq | exact (up_ne (by omega)).trans (by first | assumption | exact up_eq)))) (by omega) (by rfl) ?_
      refine GX7_144 (q := 82) rfl dX7_isRowWell_79 rfl (by first | assumption | exact up_eq | exact (up_ne (by omega)).trans (by first | assumption | exact up_eq | exact (up_ne (by omega)).trans (by first | assumption | exact up_eq | exact (up_ne (by omega)).trans (by first | assumption | exact up_eq)))) (by omega) (by rfl) ?_
      refine V_iload_n (q := 83) dX7_isRowWell_82 rfl rfl ?_
      refine CiX7_165 (q := 86) rfl dX7_isRowWell_83 rfl (c_countBack hJ1 hK.1 hst hk) ⟨(Nat.le_of_ble_eq_true rfl), (Nat.le_of_ble_eq_true rfl)⟩ (Nat.le_of_ble_eq_true rfl) (by first | assumption | exact up_eq | exact (up_ne (by omega)).trans (by first | assumption | exact up_eq | exact (up_ne (by omega)).trans (by first | assumption | exact up_eq | exact (up_ne (by omega)).trans (by first | assumption | exact up_eq)))) (by omega) (Nat.zero_le _) (Nat.zero_le _) (fun u w2 hw2 => ?_)
      obtain ⟨rfl, ⟨T2, Qa2, m2, Hh2, hJ2, -⟩, hF2⟩ := hw2
      refine V_icmp_ne (q := 89) (tgt := 93) dX7_isRowWell_86 (by decide) rfl (fun h9 => absurd rfl h9) (fun _ => ?_)
      refine V_iconst (q := 90) (v := nI 1) dX7_isRowWell_89 rfl (by decide) ?_
      refine V_goto (tgt := 94) dX7_isRowWell_90 (by decide) ?_
      exact V_zret dX7_isRowWell_94 rfl (rfl) (Nat.le_of_ble_eq_true rfl) (Nat.le_of_ble_eq_true rfl) (⟨rfl, _, rfl, rfl, ⟨T2, Qa2, m2, Hh2, hJ2⟩, hF1.tr hF2⟩)
    · skip
      refine V_topi (if_neg hj) ?_
      refine V_if_ne (q := 48) (tgt := 50) dX7_isRowWell_45 (by decide) rfl (fun h9 => absurd rfl h9) (fun _ => ?_)
      refine V_iconst (q := 49) (v := nI 1) dX7_isRowWell_48 rfl (by decide) ?_
      exact V_zret dX7_isRowWell_49 rfl (rfl) (Nat.le_of_ble_eq_true rfl) (Nat.le_of_ble_eq_true rfl) (⟨rfl, _, rfl, rfl, h5, FrJ.rf⟩)
  · skip
    refine V_topi (if_neg hcl) ?_
    refine V_istore_n (q := 5) (ls' := [_, _, _, _]) dX7_isRowWell_4 rfl (by decide) (by rfl) rfl ?_
    refine V_iload_n (q := 6) dX7_isRowWell_5 rfl rfl ?_
    refine V_aload_n (q := 7) dX7_isRowWell_6 rfl rfl rfl ?_
    refine CrX7_115 (q := 10) rfl dX7_isRowWell_7 rfl (c_clash k4 e3) ⟨(Nat.le_of_ble_eq_true rfl), (Nat.le_of_ble_eq_true rfl)⟩ (Nat.le_of_ble_eq_true rfl) (by first | assumption | exact up_eq | exact (up_ne (by omega)).trans (by first | assumption | exact up_eq | exact (up_ne (by omega)).trans (by first | assumption | exact up_eq | exact (up_ne (by omega)).trans (by first | assumption | exact up_eq)))) (by omega) (Nat.zero_le _) (Nat.zero_le _) ?_
    refine V_topi (clshI_yes hcl) ?_
    refine V_bipush (q := 12) (v := (-4)) dX7_isRowWell_10 rfl (by decide) ?_
    refine V_icmp_ne (q := 15) (tgt := 19) dX7_isRowWell_12 (by decide) rfl (fun _ => ?_) (fun h9 => absurd h9 (nI_m4 (by omega)))
    refine V_iconst (q := 20) (v := nI 0) dX7_isRowWell_19 rfl (by decide) ?_
    refine V_icmp_eq (q := 23) (tgt := 25) dX7_isRowWell_20 (by decide) rfl (fun _ => ?_) (fun h9 => absurd rfl h9)
    refine V_iload_n (q := 26) dX7_isRowWell_25 rfl rfl ?_
    refine V_if_ne (q := 29) (tgt := 31) dX7_isRowWell_26 (by decide) rfl (fun h9 => absurd rfl h9) (fun _ => ?_)
    refine V_iconst (q := 30) (v := nI 1) dX7_isRowWell_29 rfl (by decide) ?_
    exact V_zret dX7_isRowWell_30 rfl (rfl) (Nat.le_of_ble_eq_true rfl) (Nat.le_of_ble_eq_true rfl) (⟨rfl, _, rfl, rfl, h5, FrJ.rf⟩)
theorem X_isWell (h : XW g w n o X) (hK : OkS (xN X)) : CtI g l MX7_isWell 5 [rf g o] w n (XP g w n o (1, X)) := by
  obtain ⟨B, hX⟩ := h
  have hX0 := hX
  obtain ⟨h0, hS, h2, h3, h4, h5, h6, h7, h8, h9, h10⟩ := hX
  obtain ⟨hso, hsn⟩ := hS.obj
  obtain ⟨G, π, LL, FF, hF⟩ := hS
  have hc6 := hF.2.2.2.1
  refine Ct.ofs (M := MX7_isWell) (ls := [some _, none, none]) (by decide +kernel) (by exact (Nat.le_of_ble_eq_true rfl)) (by rfl) (by rfl) (by rfl) ?_
  refine V_iconst (q := 1) (v := nI 0) dX7_isWell_0 rfl (by decide) ?_
  refine V_istore_n (q := 2) (ls' := [_, _, _]) dX7_isWell_1 rfl (by decide) (by rfl) rfl ?_
  have key : ∀ k, k ≤ sC (xN X) → ∀ w1, Jn g w1 n (o + 157) → FrJ w w1 (o + 157) → V g l MX7_isWell (rmd 5 0 0) (FinM g (qI (XP g w n o (1, X)) n) 0 0) 2 [some (rf g o), some (.int (nI k)), none] [] (w1) n 0 0 := by
    refine loopU (fun k => ∀ w1, Jn g w1 n (o + 157) → FrJ w w1 (o + 157) → V g l MX7_isWell (rmd 5 0 0) (FinM g (qI (XP g w n o (1, X)) n) 0 0) 2 [some (rf g o), some (.int (nI k)), none] [] (w1) n 0 0) (sC (xN X)) ?_ ?_
    · intro w1 b1 b2
      have fin := hX0.joi b1 b2
      have b0 := fin.1.1
      have bs : w1 (o + 1) = eO 5 (sfs g (o + 1) (xN X)) := (b2 _ (by omega)).trans hso
      refine V_iload_n (q := 3) dX7_isWell_2 rfl rfl ?_
      refine V_aload_n (q := 4) dX7_isWell_3 rfl rfl rfl ?_
      refine GX7_10 (q := 7) rfl dX7_isWell_4 rfl (by first | assumption | exact up_eq | exact (up_ne (by omega)).trans (by first | assumption | exact up_eq | exact (up_ne (by omega)).trans (by first | assumption | exact up_eq | exact (up_ne (by omega)).trans (by first | assumption | exact up_eq)))) (by omega) (by rfl) ?_
      refine GX7_172 (q := 10) rfl dX7_isWell_7 rfl (by first | assumption | exact up_eq | exact (up_ne (by omega)).trans (by first | assumption | exact up_eq | exact (up_ne (by omega)).trans (by first | assumption | exact up_eq | exact (up_ne (by omega)).trans (by first | assumption | exact up_eq)))) (by omega) (by rfl) ?_
      refine V_icmpN_ge (q := 13) (tgt := 42) dX7_isWell_10 (by decide) rfl (by omega) (by omega) (fun _ => ?_) (fun h9 => by first | exact h9.elim | (exfalso; omega))
      refine V_iconst (q := 43) (v := nI 1) dX7_isWell_42 rfl (by decide) ?_
      exact V_iret dX7_isWell_43 rfl (Nat.le_of_ble_eq_true rfl) (Nat.le_of_ble_eq_true rfl) (⟨rfl, _, rfl, rfl, ⟨B, fin.1⟩, fin.2⟩)
    · intro k hk ih w1 b1 b2
      have fin := hX0.joi b1 b2
      have b0 := fin.1.1
      have bs : w1 (o + 1) = eO 5 (sfs g (o + 1) (xN X)) := (b2 _ (by omega)).trans hso
      have bF : SdF g w1 n (o + 1) (xN X) G π LL FF := hF.frame (fun i _ _ => b2 i (by omega))
      have brow := (bF.2.2.2.2.1 k (by omega)).2.2.2.1
      refine V_iload_n (q := 3) dX7_isWell_2 rfl rfl ?_
      refine V_aload_n (q := 4) dX7_isWell_3 rfl rfl rfl ?_
      refine GX7_10 (q := 7) rfl dX7_isWell_4 rfl (by first | assumption | exact up_eq | exact (up_ne (by omega)).trans (by first | assumption | exact up_eq | exact (up_ne (by omega)).trans (by first | assumption | exact up_eq | exact (up_ne (by omega)).trans (by first | assumption | exact up_eq)))) (by omega) (by rfl) ?_
      refine GX7_172 (q := 10) rfl dX7_isWell_7 rfl (by first | assumption | exact up_eq | exact (up_ne (by omega)).trans (by first | assumption | exact up_eq | exact (up_ne (by omega)).trans (by first | assumption | exact up_eq | exact (up_ne (by omega)).trans (by first | assumption | exact up_eq)))) (by omega) (by rfl) ?_
      refine V_icmpN_ge (q := 13) (tgt := 42) dX7_isWell_10 (by decide) rfl (by omega) (by omega) (fun h9 => by first | exact h9.elim | exact absurd h9 (by assumption) | (exfalso; omega)) (fun _ => ?_)
      refine V_aload_n (q := 14) dX7_isWell_13 rfl rfl rfl ?_
      refine GX7_10 (q := 17) rfl dX7_isWell_14 rfl (by first | assumption | exact up_eq | exact (up_ne (by omega)).trans (by first | assumption | exact up_eq | exact (up_ne (by omega)).trans (by first | assumption | exact up_eq | exact (up_ne (by omega)).trans (by first | assumption | exact up_eq)))) (by omega) (by rfl) ?_
      refine V_iload_n (q := 18) dX7_isWell_17 rfl rfl ?_
      refine CrX7_98 (q := 21) rfl dX7_isWell_18 rfl (c_rowNum_in bF hk) ⟨(Nat.le_of_ble_eq_true rfl), (Nat.le_of_ble_eq_true rfl)⟩ (Nat.le_of_ble_eq_true rfl) (by first | assumption | exact up_eq | exact (up_ne (by omega)).trans (by first | assumption | exact up_eq | exact (up_ne (by omega)).trans (by first | assumption | exact up_eq | exact (up_ne (by omega)).trans (by first | assumption | exact up_eq)))) (by omega) (Nat.zero_le _) (Nat.zero_le _) ?_
      refine V_astore_n (q := 22) (ls' := [_, _, _]) dX7_isWell_21 rfl (by decide) (by rfl) rfl rfl ?_
      refine V_aload_n (q := 23) dX7_isWell_22 rfl rfl rfl ?_
      refine V_ifnull (q := 26) dX7_isWell_23 rfl ?_
      refine V_aload_n (q := 27) dX7_isWell_26 rfl rfl rfl ?_
      refine V_aload_n (q := 28) dX7_isWell_27 rfl rfl rfl ?_
      refine CiX7_245 (q := 31) rfl dX7_isWell_28 rfl (c_isRowWell fin.1 hK bF hk) ⟨(Nat.le_of_ble_eq_true rfl), (Nat.le_of_ble_eq_true rfl)⟩ (Nat.le_of_ble_eq_true rfl) (by first | assumption | exact up_eq | exact (up_ne (by omega)).trans (by first | assumption | exact up_eq | exact (up_ne (by omega)).trans (by first | assumption | exact up_eq | exact (up_ne (by omega)).trans (by first | assumption | exact up_eq)))) (by omega) (Nat.zero_le _) (Nat.zero_le _) (fun y w2 hw2 => ?_)
      obtain ⟨rfl, c1, c2⟩ := hw2
      refine V_if_ne (q := 34) (tgt := 36) dX7_isWell_31 (by decide) rfl (fun _ => ?_) (fun h9 => absurd h9 (by decide))
      refine V_iinc (q := 39) (ls' := [_, _, _]) dX7_isWell_36 rfl (by decide) (by rfl) rfl (by first | exact inc1 _ | rfl) rfl ?_
      refine V_goto (tgt := 2) dX7_isWell_39 (by decide) ?_
      refine V_fg 2 (ls2 := [_, _, none]) (by rfl) ?_
      exact ih w2 c1 (b2.tr c2)
  exact key 0 (Nat.zero_le _) w h5 FrJ.rf
end AN2
