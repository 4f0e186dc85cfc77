/-! lines -/
theorem LnF.cong {g : GG} {w : HW} {n b ll : Nat} {c c' : Nat → Nat} (h : LnF g w n b ll c) (hc : ∀ i, i < ll → c i = c' i) : LnF g w n b ll c' := by
  obtain ⟨C, e1, e2, e3, e4, e5⟩ := h
  exact ⟨C, e1, e2, e3, e4, fun i hi => by rw [e5 i hi, hc i hi]⟩
theorem LnF.put {g : GG} {w : HW} {n b ll x : Nat} {c : Nat → Nat} (h : LnF g w n b (ll + 1) (putN c ll x)) (hx : c ll = x) : LnF g w n b (ll + 1) c := h.cong (fun i hi => by
  unfold putN
  by_cases e : i = ll
  · rw [if_pos e, e, hx]
  · rw [if_neg e])
theorem Fr2.tr {w w1 w2 : HW} {b : Nat} (h : Fr2 w w1 b) (h2 : Fr2 w1 w2 b) : Fr2 w w2 b := fun i a1 a2 => (h2 i a1 a2).trans (h i a1 a2)
def setL (X : XT) (v : Nat × (Nat → Nat)) : XT := (xN X, xS X, xH X, xP X, v, xT X, xR X)
noncomputable def lnRow (row : RowT) : Nat → Nat := fun k => if k < row.1 then 48 + row.2 k else if k = row.1 then (if clN row.2 row.1 = row.1 then 61 else 33) else 48 + (if clN row.2 row.1 = row.1 then sumN row.2 row.1 / row.1 else clN row.2 row.1)
noncomputable def tlrA (x : Int32) (X : XT) : Int32 × XT := match idx x (sC (xN X)) with
  | none => (-1, X)
  | some i => (nI ((sR (xN X) i).1 + 2), setL X ((sR (xN X) i).1 + 2, lnRow (sR (xN X) i)))
def stL (s : Nat) : Nat := fa_first (fun m => decide (s / 2 ^ (m + 1) = 0)) 8 + 1
def lnSt (s : Nat) : Nat → Nat := fun k => if s / 2 ^ k % 2 = 0 then 45 else 120
def tlsA (X : XT) : Int32 × XT := (nI (stL (sS (xN X))), setL X (stL (sS (xN X)), lnSt (sS (xN X))))
noncomputable def tljA (x : Int32) (X : XT) : Int32 × XT := match idx x (sC (xN X)) with
  | none => (-1, X)
  | some i => if ballI (sR (xN X) i).2 (sR (xN X) i).1 = nI (popc (sS (xN X))) then (nI (dstN (sS (xN X)) (stN (sR (xN X) i).2 (sR (xN X) i).1 0)), setL X (dstN (sS (xN X)) (stN (sR (xN X) i).2 (sR (xN X) i).1 0), fun a => 48 + digN (codN (sS (xN X)) (stN (sR (xN X) i).2 (sR (xN X) i).1 0)) (dstN (sS (xN X)) (stN (sR (xN X) i).2 (sR (xN X) i).1 0)) a)) else (-4, X)
section LI
variable {g : GG} {l : Launch} {w : HW} {n o : Nat} {X : XT}
theorem XWB.lin {B : StT} {w' : HW} {ll : Nat} {c : Nat → Nat} (h : XWB g w n o X B) (h1 : LnF g w' n (o + 161) ll c) (hF : Fr2 w w' (o + 161)) : XWB g w' n o (setL X (ll, c)) B ∧ FrX w w' o := by
  obtain ⟨h0, k1, h2, h3, h4, h5, h6, h7, h8, ⟨F, h9⟩, h10⟩ := h
  exact ⟨⟨(hF _ (by omega) (by omega)).trans h0, k1.frame (fun i _ _ => hF i (by omega) (by omega)), h2.frame (fun i _ _ => hF i (by omega) (by omega)), h3.frame (fun i _ _ => hF i (by omega) (by omega)), h4.frame (fun i _ _ => hF i (by omega) (by omega)), h5.frame (fun i _ _ => hF i (by omega) (by omega)), h1, h7.frame (hF _ (by omega) (by omega)) (hF _ (by omega) (by omega)), (hF _ (by omega) (by omega)).trans h8, ⟨F, (hF _ (by omega) (by omega)).trans h9⟩, h10⟩, fun i hi => hF i (by omega) (by omega)⟩
theorem LnF.obj {b ll : Nat} {c : Nat → Nat} (h : LnF g w n b ll c) : w b = eO 1 [.int (nI ll), rf g (b + 1)] ∧ ll ≤ 10 := by
  obtain ⟨C, e1, e2, e3, e4, e5⟩ := h
  exact ⟨e1, e4⟩
theorem X_tellRow (h : XW g w n o X) {x : Int32} : CtI g l MX7_tellRow 3 [rf g o, .int x] w n (XP g w n o (tlrA x X)) := by
  obtain ⟨B, hX⟩ := h
  have hX0 := hX
  obtain ⟨h0, hS, h2, h3, h4, h5, h6, h7, h8, h9, h10⟩ := hX
  obtain ⟨hso, hsn⟩ := hS.obj
  obtain ⟨T0, Qa0, m0, Hh0, hJ0⟩ := id h5
  have hjo := hJ0.1
  obtain ⟨G, π, LL, FF, hF⟩ := hS
  have hc6 := hF.2.2.2.1
  have hpb := popc_le (sS (xN X))
  rcases i3_lt x (sC (xN X)) (by omega) with hx | ⟨i, hi, rfl⟩
  · rw [show tlrA x X = (-1, X) by unfold tlrA; rw [idx_no hx]]
    refine Ct.ofs (M := MX7_tellRow) (ls := [some _, some _, none, none]) (by decide +kernel) (by exact (Nat.le_of_ble_eq_true rfl)) (by rfl) (by rfl) (by rfl) ?_
    refine V_aload_n (q := 1) dX7_tellRow_0 rfl rfl rfl ?_
    refine GX7_10 (q := 4) rfl dX7_tellRow_1 rfl (by first | assumption | exact up_eq | exact (up_ne (by omega)).trans (by first | assumption | exact up_eq | exact (up_ne (by omega)).trans (by first | assumption | exact up_eq | exact (up_ne (by omega)).trans (by first | assumption | exact up_eq)))) (by omega) (by rfl) ?_
    refine V_iload_n (q := 5) dX7_tellRow_4 rfl rfl ?_
    refine CrX7_98 (q := 8) rfl dX7_tellRow_5 rfl (c_rowNum_out hF hx) ⟨(Nat.le_of_ble_eq_true rfl), (Nat.le_of_ble_eq_true rfl)⟩ (Nat.le_of_ble_eq_true rfl) (by first | assumption | exact up_eq | exact (up_ne (by omega)).trans (by first | assumption | exact up_eq | exact (up_ne (by omega)).trans (by first | assumption | exact up_eq | exact (up_ne (by omega)).trans (by first | assumption | exact up_eq)))) (by omega) (Nat.zero_le _) (Nat.zero_le _) ?_
    refine V_astore_n (q := 9) (ls' := [_, _, _, _]) dX7_tellRow_8 rfl (by decide) (by rfl) rfl rfl ?_
    refine V_aload_n (q := 10) dX7_tellRow_9 rfl rfl rfl ?_
    refine V_ifnonnullN (q := 13) dX7_tellRow_10 rfl ?_
    refine V_iconst (q := 14) (v := (-1)) dX7_tellRow_13 rfl (by decide) ?_
    exact V_iret dX7_tellRow_14 rfl (Nat.le_of_ble_eq_true rfl) (Nat.le_of_ble_eq_true rfl) (⟨rfl, _, rfl, rfl, ⟨B, hX0⟩, fun _ _ => rfl⟩)
  obtain ⟨k1, k2, k3, k4⟩ := hF.2.2.2.2.1 i (by omega)
  obtain ⟨e1, e2, e3⟩ := hF.2.2.2.2.2.2 i hi
  have hrow := k4.1
  have hL8 := k4.2.2.2
  rw [e1] at k4 e3 e2 hL8 hrow
  rw [show tlrA (nI i) X = (nI ((sR (xN X) i).1 + 2), setL X ((sR (xN X) i).1 + 2, lnRow (sR (xN X) i))) by unfold tlrA; rw [idx_yes hi (by omega)]]
  obtain ⟨ho1, hl10⟩ := h6.obj
  refine Ct.ofs (M := MX7_tellRow) (ls := [some _, some _, none, none]) (by decide +kernel) (by exact (Nat.le_of_ble_eq_true rfl)) (by rfl) (by rfl) (by rfl) ?_
  refine V_aload_n (q := 1) dX7_tellRow_0 rfl rfl rfl ?_
  refine GX7_10 (q := 4) rfl dX7_tellRow_1 rfl (by first | assumption | exact up_eq | exact (up_ne (by omega)).trans (by first | assumption | exact up_eq | exact (up_ne (by omega)).trans (by first | assumption | exact up_eq | exact (up_ne (by omega)).trans (by first | assumption | exact up_eq)))) (by omega) (by rfl) ?_
  refine V_iload_n (q := 5) dX7_tellRow_4 rfl rfl ?_
  refine CrX7_98 (q := 8) rfl dX7_tellRow_5 rfl (c_rowNum_in hF hi) ⟨(Nat.le_of_ble_eq_true rfl), (Nat.le_of_ble_eq_true rfl)⟩ (Nat.le_of_ble_eq_true rfl) (by first | assumption | exact up_eq | exact (up_ne (by omega)).trans (by first | assumption | exact up_eq | exact (up_ne (by omega)).trans (by first | assumption | exact up_eq | exact (up_ne (by omega)).trans (by first | assumption | exact up_eq)))) (by omega) (Nat.zero_le _) (Nat.zero_le _) ?_
  refine V_astore_n (q := 9) (ls' := [_, _, _, _]) dX7_tellRow_8 rfl (by decide) (by rfl) rfl rfl ?_
  refine V_aload_n (q := 10) dX7_tellRow_9 rfl rfl rfl ?_
  refine V_ifnonnull (tgt := 15) dX7_tellRow_10 (by decide) ?_
  refine V_aload_n (q := 16) dX7_tellRow_15 rfl rfl rfl ?_
  refine GX7_39 (q := 19) rfl dX7_tellRow_16 rfl (by first | assumption | exact up_eq | exact (up_ne (by omega)).trans (by first | assumption | exact up_eq | exact (up_ne (by omega)).trans (by first | assumption | exact up_eq | exact (up_ne (by omega)).trans (by first | assumption | exact up_eq)))) (by omega) (by rfl) ?_
  refine CvX7_181 (q := 22) rfl dX7_tellRow_19 rfl (c_lclear h6) ⟨(Nat.le_of_ble_eq_true rfl), (Nat.le_of_ble_eq_true rfl)⟩ (Nat.le_of_ble_eq_true rfl) (by first | assumption | exact up_eq | exact (up_ne (by omega)).trans (by first | assumption | exact up_eq | exact (up_ne (by omega)).trans (by first | assumption | exact up_eq | exact (up_ne (by omega)).trans (by first | assumption | exact up_eq)))) (by omega) (Nat.zero_le _) (Nat.zero_le _) (fun w0 hw0 => ?_)
  obtain ⟨hL0, hF0⟩ := hw0
  refine V_iconst (q := 23) (v := nI 0) dX7_tellRow_22 rfl (by decide) ?_
  refine V_istore_n (q := 24) (ls' := [_, _, _, _]) dX7_tellRow_23 rfl (by decide) (by rfl) rfl ?_
  have key : ∀ k, k ≤ (sR (xN X) i).1 → ∀ w1, Fr2 w w1 (o + 161) → LnF g w1 n (o + 161) k (lnRow (sR (xN X) i)) → V g l MX7_tellRow (rmd 3 0 0) (FinM g (qI (XP g w n o (nI ((sR (xN X) i).1 + 2), setL X ((sR (xN X) i).1 + 2, lnRow (sR (xN X) i)))) n) 0 0) 24 [some (rf g o), some (.int (nI i)), some (rf g (π i)), some (.int (nI k))] [] (w1) n 0 0 := by
    refine loopU (fun k => ∀ w1, Fr2 w w1 (o + 161) → LnF g w1 n (o + 161) k (lnRow (sR (xN X) i)) → V g l MX7_tellRow (rmd 3 0 0) (FinM g (qI (XP g w n o (nI ((sR (xN X) i).1 + 2), setL X ((sR (xN X) i).1 + 2, lnRow (sR (xN X) i)))) n) 0 0) 24 [some (rf g o), some (.int (nI i)), some (rf g (π i)), some (.int (nI k))] [] (w1) n 0 0) (sR (xN X) i).1 ?_ ?_
    · intro w1 b1 b2
      have b0 : w1 o = eO 7 (xfs g o (nI (xH X))) := (b1 _ (by omega) (by omega)).trans h0
      have c4 : RwF g w1 n (π i) (sR (xN X) i).1 (FF i) := k4.frame (b1 _ (by omega) (by omega)) (b1 _ (by omega) (by omega))
      have c5 := c4.1
      obtain ⟨b3, b4⟩ := b2.obj
      have hd := divL_le e2 (fun j hj => (e3 j hj).2)
      have hcn := clN_le (sR (xN X) i).2 (sR (xN X) i).1
      refine V_iload_n (q := 25) dX7_tellRow_24 rfl rfl ?_
      refine V_aload_n (q := 26) dX7_tellRow_25 rfl rfl rfl ?_
      refine GX7_102 (q := 29) rfl dX7_tellRow_26 rfl (by first | assumption | exact up_eq | exact (up_ne (by omega)).trans (by first | assumption | exact up_eq | exact (up_ne (by omega)).trans (by first | assumption | exact up_eq | exact (up_ne (by omega)).trans (by first | assumption | exact up_eq)))) (by omega) (by rfl) ?_
      refine V_icmpN_ge (q := 32) (tgt := 50) dX7_tellRow_29 (by decide) rfl (by omega) (by omega) (fun _ => ?_) (fun h9 => by first | exact h9.elim | (exfalso; omega))
      refine V_aload_n (q := 51) dX7_tellRow_50 rfl rfl rfl ?_
      refine CrX7_115 (q := 54) rfl dX7_tellRow_51 rfl (c_clash c4 e3) ⟨(Nat.le_of_ble_eq_true rfl), (Nat.le_of_ble_eq_true rfl)⟩ (Nat.le_of_ble_eq_true rfl) (by first | assumption | exact up_eq | exact (up_ne (by omega)).trans (by first | assumption | exact up_eq | exact (up_ne (by omega)).trans (by first | assumption | exact up_eq | exact (up_ne (by omega)).trans (by first | assumption | exact up_eq)))) (by omega) (Nat.zero_le _) (Nat.zero_le _) ?_
      by_cases hcl : clN (sR (xN X) i).2 (sR (xN X) i).1 = (sR (xN X) i).1
      · skip
        refine V_topi (clshI_no hcl) ?_
        refine V_istore_n (q := 55) (ls' := [_, _, _, _]) dX7_tellRow_54 rfl (by decide) (by rfl) rfl ?_
        refine V_iload_n (q := 56) dX7_tellRow_55 rfl rfl ?_
        refine V_bipush (q := 58) (v := (-4)) dX7_tellRow_56 rfl (by decide) ?_
        refine V_icmp_ne (q := 61) (tgt := 84) dX7_tellRow_58 (by decide) rfl (fun h9 => absurd (by decide) h9) (fun _ => ?_)
        refine V_aload_n (q := 62) dX7_tellRow_61 rfl rfl rfl ?_
        refine GX7_39 (q := 65) rfl dX7_tellRow_62 rfl (by first | assumption | exact up_eq | exact (up_ne (by omega)).trans (by first | assumption | exact up_eq | exact (up_ne (by omega)).trans (by first | assumption | exact up_eq | exact (up_ne (by omega)).trans (by first | assumption | exact up_eq)))) (by omega) (by rfl) ?_
        refine V_bipush (q := 67) (v := nI 61) dX7_tellRow_65 rfl (by decide) ?_
        refine CvX7_188 (q := 70) rfl dX7_tellRow_67 rfl (c_lput b2 (by omega) (x := 61) (by decide)) ⟨(Nat.le_of_ble_eq_true rfl), (Nat.le_of_ble_eq_true rfl)⟩ (Nat.le_of_ble_eq_true rfl) (by first | assumption | exact up_eq | exact (up_ne (by omega)).trans (by first | assumption | exact up_eq | exact (up_ne (by omega)).trans (by first | assumption | exact up_eq | exact (up_ne (by omega)).trans (by first | assumption | exact up_eq)))) (by omega) (Nat.zero_le _) (Nat.zero_le _) (fun w2 hw2 => ?_)
        obtain ⟨d1, d2⟩ := hw2
        have d3 : LnF g w2 n (o + 161) ((sR (xN X) i).1 + 1) (lnRow (sR (xN X) i)) := d1.put (by unfold lnRow; rw [if_neg (by omega), if_pos rfl, if_pos hcl])
        obtain ⟨d4, d5⟩ := d3.obj
        have d0 : w2 o = eO 7 (xfs g o (nI (xH X))) := (d2 _ (by omega) (by omega)).trans b0
        have f4 : RwF g w2 n (π i) (sR (xN X) i).1 (FF i) := c4.frame (d2 _ (by omega) (by omega)) (d2 _ (by omega) (by omega))
        have f5 := f4.1
        refine V_aload_n (q := 71) dX7_tellRow_70 rfl rfl rfl ?_
        refine GX7_39 (q := 74) rfl dX7_tellRow_71 rfl (by first | assumption | exact up_eq | exact (up_ne (by omega)).trans (by first | assumption | exact up_eq | exact (up_ne (by omega)).trans (by first | assumption | exact up_eq | exact (up_ne (by omega)).trans (by first | assumption | exact up_eq)))) (by omega) (by rfl) ?_
        refine V_aload_n (q := 75) dX7_tellRow_74 rfl rfl rfl ?_
        refine CrX7_112 (q := 78) rfl dX7_tellRow_75 rfl (c_rballs f4 e3 e2) ⟨(Nat.le_of_ble_eq_true rfl), (Nat.le_of_ble_eq_true rfl)⟩ (Nat.le_of_ble_eq_true rfl) (by first | assumption | exact up_eq | exact (up_ne (by omega)).trans (by first | assumption | exact up_eq | exact (up_ne (by omega)).trans (by first | assumption | exact up_eq | exact (up_ne (by omega)).trans (by first | assumption | exact up_eq)))) (by omega) (Nat.zero_le _) (Nat.zero_le _) ?_
        refine V_topi (show ballI (sR (xN X) i).2 (sR (xN X) i).1 = nI (sumN (sR (xN X) i).2 (sR (xN X) i).1 / (sR (xN X) i).1) from if_pos hcl) ?_
        skip
        refine CvX7_184 (q := 81) rfl dX7_tellRow_78 rfl (c_lputDigit d3 (by omega) (x := sumN (sR (xN X) i).2 (sR (xN X) i).1 / (sR (xN X) i).1) (by omega)) ⟨(Nat.le_of_ble_eq_true rfl), (Nat.le_of_ble_eq_true rfl)⟩ (Nat.le_of_ble_eq_true rfl) (by first | assumption | exact up_eq | exact (up_ne (by omega)).trans (by first | assumption | exact up_eq | exact (up_ne (by omega)).trans (by first | assumption | exact up_eq | exact (up_ne (by omega)).trans (by first | assumption | exact up_eq)))) (by omega) (Nat.zero_le _) (Nat.zero_le _) (fun w3 hw3 => ?_)
        obtain ⟨g1, g2⟩ := hw3
        have g3 : LnF g w3 n (o + 161) ((sR (xN X) i).1 + 1 + 1) (lnRow (sR (xN X) i)) := g1.put (by unfold lnRow; rw [if_neg (by omega), if_neg (by omega), if_pos hcl])
        obtain ⟨g4, g5⟩ := g3.obj
        have g0 : w3 o = eO 7 (xfs g o (nI (xH X))) := (g2 _ (by omega) (by omega)).trans d0
        have fin := hX0.lin g3 ((b1.tr d2).tr g2)
        refine V_goto (tgt := 101) dX7_tellRow_81 (by decide) ?_
        refine V_aload_n (q := 102) dX7_tellRow_101 rfl rfl rfl ?_
        refine GX7_39 (q := 105) rfl dX7_tellRow_102 rfl (by first | assumption | exact up_eq | exact (up_ne (by omega)).trans (by first | assumption | exact up_eq | exact (up_ne (by omega)).trans (by first | assumption | exact up_eq | exact (up_ne (by omega)).trans (by first | assumption | exact up_eq)))) (by omega) (by rfl) ?_
        refine GX7_192 (q := 108) rfl dX7_tellRow_105 rfl (by first | assumption | exact up_eq | exact (up_ne (by omega)).trans (by first | assumption | exact up_eq | exact (up_ne (by omega)).trans (by first | assumption | exact up_eq | exact (up_ne (by omega)).trans (by first | assumption | exact up_eq)))) (by omega) (by rfl) ?_
        exact V_iret dX7_tellRow_108 rfl (Nat.le_of_ble_eq_true rfl) (Nat.le_of_ble_eq_true rfl) (⟨rfl, _, rfl, rfl, ⟨B, fin.1⟩, fin.2⟩)
      · skip
        refine V_topi (clshI_yes hcl) ?_
        refine V_istore_n (q := 55) (ls' := [_, _, _, _]) dX7_tellRow_54 rfl (by decide) (by rfl) rfl ?_
        refine V_iload_n (q := 56) dX7_tellRow_55 rfl rfl ?_
        refine V_bipush (q := 58) (v := (-4)) dX7_tellRow_56 rfl (by decide) ?_
        refine V_icmp_ne (q := 61) (tgt := 84) dX7_tellRow_58 (by decide) rfl (fun _ => ?_) (fun h9 => absurd h9 (nI_m4 (by omega)))
        refine V_aload_n (q := 85) dX7_tellRow_84 rfl rfl rfl ?_
        refine GX7_39 (q := 88) rfl dX7_tellRow_85 rfl (by first | assumption | exact up_eq | exact (up_ne (by omega)).trans (by first | assumption | exact up_eq | exact (up_ne (by omega)).trans (by first | assumption | exact up_eq | exact (up_ne (by omega)).trans (by first | assumption | exact up_eq)))) (by omega) (by rfl) ?_
        refine V_bipush (q := 90) (v := nI 33) dX7_tellRow_88 rfl (by decide) ?_
        refine CvX7_188 (q := 93) rfl dX7_tellRow_90 rfl (c_lput b2 (by omega) (x := 33) (by decide)) ⟨(Nat.le_of_ble_eq_true rfl), (Nat.le_of_ble_eq_true rfl)⟩ (Nat.le_of_ble_eq_true rfl) (by first | assumption | exact up_eq | exact (up_ne (by omega)).trans (by first | assumption | exact up_eq | exact (up_ne (by omega)).trans (by first | assumption | exact up_eq | exact (up_ne (by omega)).trans (by first | assumption | exact up_eq)))) (by omega) (Nat.zero_le _) (Nat.zero_le _) (fun w2 hw2 => ?_)
        obtain ⟨d1, d2⟩ := hw2
        have d3 : LnF g w2 n (o + 161) ((sR (xN X) i).1 + 1) (lnRow (sR (xN X) i)) := d1.put (by unfold lnRow; rw [if_neg (by omega), if_pos rfl, if_neg hcl])
        obtain ⟨d4, d5⟩ := d3.obj
        have d0 : w2 o = eO 7 (xfs g o (nI (xH X))) := (d2 _ (by omega) (by omega)).trans b0
        refine V_aload_n (q := 94) dX7_tellRow_93 rfl rfl rfl ?_
        refine GX7_39 (q := 97) rfl dX7_tellRow_94 rfl (by first | assumption | exact up_eq | exact (up_ne (by omega)).trans (by first | assumption | exact up_eq | exact (up_ne (by omega)).trans (by first | assumption | exact up_eq | exact (up_ne (by omega)).trans (by first | assumption | exact up_eq)))) (by omega) (by rfl) ?_
        refine V_iload_n (q := 98) dX7_tellRow_97 rfl rfl ?_
        refine CvX7_184 (q := 101) rfl dX7_tellRow_98 rfl (c_lputDigit d3 (by omega) (x := clN (sR (xN X) i).2 (sR (xN X) i).1) (by omega)) ⟨(Nat.le_of_ble_eq_true rfl), (Nat.le_of_ble_eq_true rfl)⟩ (Nat.le_of_ble_eq_true rfl) (by first | assumption | exact up_eq | exact (up_ne (by omega)).trans (by first | assumption | exact up_eq | exact (up_ne (by omega)).trans (by first | assumption | exact up_eq | exact (up_ne (by omega)).trans (by first | assumption | exact up_eq)))) (by omega) (Nat.zero_le _) (Nat.zero_le _) (fun w3 hw3 => ?_)
        obtain ⟨g1, g2⟩ := hw3
        have g3 : LnF g w3 n (o + 161) ((sR (xN X) i).1 + 1 + 1) (lnRow (sR (xN X) i)) := g1.put (by unfold lnRow; rw [if_neg (by omega), if_neg (by omega), if_neg hcl])
        obtain ⟨g4, g5⟩ := g3.obj
        have g0 : w3 o = eO 7 (xfs g o (nI (xH X))) := (g2 _ (by omega) (by omega)).trans d0
        have fin := hX0.lin g3 ((b1.tr d2).tr g2)
        refine V_aload_n (q := 102) dX7_tellRow_101 rfl rfl rfl ?_
        refine GX7_39 (q := 105) rfl dX7_tellRow_102 rfl (by first | assumption | exact up_eq | exact (up_ne (by omega)).trans (by first | assumption | exact up_eq | exact (up_ne (by omega)).trans (by first | assumption | exact up_eq | exact (up_ne (by omega)).trans (by first | assumption | exact up_eq)))) (by omega) (by rfl) ?_
        refine GX7_192 (q := 108) rfl dX7_tellRow_105 rfl (by first | assumption | exact up_eq | exact (up_ne (by omega)).trans (by first | assumption | exact up_eq | exact (up_ne (by omega)).trans (by first | assumption | exact up_eq | exact (up_ne (by omega)).trans (by first | assumption | exact up_eq)))) (by omega) (by rfl) ?_
        exact V_iret dX7_tellRow_108 rfl (Nat.le_of_ble_eq_true rfl) (Nat.le_of_ble_eq_true rfl) (⟨rfl, _, rfl, rfl, ⟨B, fin.1⟩, fin.2⟩)
    · intro k hk ih w1 b1 b2
      have b0 : w1 o = eO 7 (xfs g o (nI (xH X))) := (b1 _ (by omega) (by omega)).trans h0
      have c4 : RwF g w1 n (π i) (sR (xN X) i).1 (FF i) := k4.frame (b1 _ (by omega) (by omega)) (b1 _ (by omega) (by omega))
      have c5 := c4.1
      obtain ⟨b3, b4⟩ := b2.obj
      have hh9 := (e3 k hk).2
      refine V_iload_n (q := 25) dX7_tellRow_24 rfl rfl ?_
      refine V_aload_n (q := 26) dX7_tellRow_25 rfl rfl rfl ?_
      refine GX7_102 (q := 29) rfl dX7_tellRow_26 rfl (by first | assumption | exact up_eq | exact (up_ne (by omega)).trans (by first | assumption | exact up_eq | exact (up_ne (by omega)).trans (by first | assumption | exact up_eq | exact (up_ne (by omega)).trans (by first | assumption | exact up_eq)))) (by omega) (by rfl) ?_
      refine V_icmpN_ge (q := 32) (tgt := 50) dX7_tellRow_29 (by decide) rfl (by omega) (by omega) (fun h9 => by first | exact h9.elim | exact absurd h9 (by assumption) | (exfalso; omega)) (fun _ => ?_)
      refine V_aload_n (q := 33) dX7_tellRow_32 rfl rfl rfl ?_
      refine GX7_39 (q := 36) rfl dX7_tellRow_33 rfl (by first | assumption | exact up_eq | exact (up_ne (by omega)).trans (by first | assumption | exact up_eq | exact (up_ne (by omega)).trans (by first | assumption | exact up_eq | exact (up_ne (by omega)).trans (by first | assumption | exact up_eq)))) (by omega) (by rfl) ?_
      refine V_aload_n (q := 37) dX7_tellRow_36 rfl rfl rfl ?_
      refine V_iload_n (q := 38) dX7_tellRow_37 rfl rfl ?_
      refine CrX7_134 (q := 41) rfl dX7_tellRow_38 rfl (c_heightAt c4 e3 hk) ⟨(Nat.le_of_ble_eq_true rfl), (Nat.le_of_ble_eq_true rfl)⟩ (Nat.le_of_ble_eq_true rfl) (by first | assumption | exact up_eq | exact (up_ne (by omega)).trans (by first | assumption | exact up_eq | exact (up_ne (by omega)).trans (by first | assumption | exact up_eq | exact (up_ne (by omega)).trans (by first | assumption | exact up_eq)))) (by omega) (Nat.zero_le _) (Nat.zero_le _) ?_
      skip
      refine CvX7_184 (q := 44) rfl dX7_tellRow_41 rfl (c_lputDigit b2 (by omega) (x := (sR (xN X) i).2 k) (by omega)) ⟨(Nat.le_of_ble_eq_true rfl), (Nat.le_of_ble_eq_true rfl)⟩ (Nat.le_of_ble_eq_true rfl) (by first | assumption | exact up_eq | exact (up_ne (by omega)).trans (by first | assumption | exact up_eq | exact (up_ne (by omega)).trans (by first | assumption | exact up_eq | exact (up_ne (by omega)).trans (by first | assumption | exact up_eq)))) (by omega) (Nat.zero_le _) (Nat.zero_le _) (fun w2 hw2 => ?_)
      obtain ⟨d1, d2⟩ := hw2
      refine V_iinc (q := 47) (ls' := [_, _, _, _]) dX7_tellRow_44 rfl (by decide) (by rfl) rfl (by first | exact inc1 _ | rfl) rfl ?_
      refine V_goto (tgt := 24) dX7_tellRow_47 (by decide) ?_
      exact ih w2 (b1.tr d2) (d1.put (by unfold lnRow; rw [if_pos hk]))
  exact key 0 (Nat.zero_le _) w0 hF0 (hL0.cong (fun i hi => absurd hi (Nat.not_lt_zero i)))
theorem X_tellState (h : XW g w n o X) (hK : OkS (xN X)) : CtI g l MX7_tellState 1 [rf g o] w n (XP g w n o (tlsA X)) := by
  obtain ⟨B, hX⟩ := h
  have hX0 := hX
  obtain ⟨h0, hS, h2, h3, h4, h5, h6, h7, h8, h9, h10⟩ := hX
  obtain ⟨hso, hsn⟩ := hS.obj
  have hs5 := hK.1
  obtain ⟨ho1, hl10⟩ := h6.obj
  have hqle := fa_first_le (fun m => decide (sS (xN X) / 2 ^ (m + 1) = 0)) 8
  have hqno := fa_first_no (fun m => decide (sS (xN X) / 2 ^ (m + 1) = 0)) 8
  have hqye := fa_first_yes (fun m => decide (sS (xN X) / 2 ^ (m + 1) = 0)) 8
  unfold tlsA stL
  generalize fa_first (fun m => decide (sS (xN X) / 2 ^ (m + 1) = 0)) 8 = q at hqle hqno hqye ⊢
  refine Ct.ofs (M := MX7_tellState) (ls := [some _, none, none]) (by decide +kernel) (by exact (Nat.le_of_ble_eq_true rfl)) (by rfl) (by rfl) (by rfl) ?_
  refine V_aload_n (q := 1) dX7_tellState_0 rfl rfl rfl ?_
  refine GX7_39 (q := 4) rfl dX7_tellState_1 rfl (by first | assumption | exact up_eq | exact (up_ne (by omega)).trans (by first | assumption | exact up_eq | exact (up_ne (by omega)).trans (by first | assumption | exact up_eq | exact (up_ne (by omega)).trans (by first | assumption | exact up_eq)))) (by omega) (by rfl) ?_
  refine CvX7_181 (q := 7) rfl dX7_tellState_4 rfl (c_lclear h6) ⟨(Nat.le_of_ble_eq_true rfl), (Nat.le_of_ble_eq_true rfl)⟩ (Nat.le_of_ble_eq_true rfl) (by first | assumption | exact up_eq | exact (up_ne (by omega)).trans (by first | assumption | exact up_eq | exact (up_ne (by omega)).trans (by first | assumption | exact up_eq | exact (up_ne (by omega)).trans (by first | assumption | exact up_eq)))) (by omega) (Nat.zero_le _) (Nat.zero_le _) (fun w0 hw0 => ?_)
  obtain ⟨hL0, hF0⟩ := hw0
  have b0 : w0 o = eO 7 (xfs g o (nI (xH X))) := (hF0 _ (by omega) (by omega)).trans h0
  have bs : w0 (o + 1) = eO 5 (sfs g (o + 1) (xN X)) := (hF0 _ (by omega) (by omega)).trans hso
  refine V_aload_n (q := 8) dX7_tellState_7 rfl rfl rfl ?_
  refine GX7_10 (q := 11) rfl dX7_tellState_8 rfl (by first | assumption | exact up_eq | exact (up_ne (by omega)).trans (by first | assumption | exact up_eq | exact (up_ne (by omega)).trans (by first | assumption | exact up_eq | exact (up_ne (by omega)).trans (by first | assumption | exact up_eq)))) (by omega) (by rfl) ?_
  refine GX7_144 (q := 14) rfl dX7_tellState_11 rfl (by first | assumption | exact up_eq | exact (up_ne (by omega)).trans (by first | assumption | exact up_eq | exact (up_ne (by omega)).trans (by first | assumption | exact up_eq | exact (up_ne (by omega)).trans (by first | assumption | exact up_eq)))) (by omega) (by rfl) ?_
  refine V_istore_n (q := 15) (ls' := [_, _, _]) dX7_tellState_14 rfl (by decide) (by rfl) rfl ?_
  refine V_iconst (q := 16) (v := nI 0) dX7_tellState_15 rfl (by decide) ?_
  refine V_istore_n (q := 17) (ls' := [_, _, _]) dX7_tellState_16 rfl (by decide) (by rfl) rfl ?_
  have key : ∀ k, k ≤ q + 1 → ∀ w1, Fr2 w w1 (o + 161) → LnF g w1 n (o + 161) k (lnSt (sS (xN X))) → V g l MX7_tellState (rmd 1 0 0) (FinM g (qI (XP g w n o (nI (q + 1), setL X (q + 1, lnSt (sS (xN X))))) n) 0 0) 17 [some (rf g o), some (.int (nI (sS (xN X) / 2 ^ k))), some (.int (nI k))] [] (w1) n 0 0 := by
    refine loopU (fun k => ∀ w1, Fr2 w w1 (o + 161) → LnF g w1 n (o + 161) k (lnSt (sS (xN X))) → V g l MX7_tellState (rmd 1 0 0) (FinM g (qI (XP g w n o (nI (q + 1), setL X (q + 1, lnSt (sS (xN X))))) n) 0 0) 17 [some (rf g o), some (.int (nI (sS (xN X) / 2 ^ k))), some (.int (nI k))] [] (w1) n 0 0) (q + 1) ?_ ?_
    · intro w1 b1 b2
      have b0 : w1 o = eO 7 (xfs g o (nI (xH X))) := (b1 _ (by omega) (by omega)).trans h0
      obtain ⟨b3, b4⟩ := b2.obj
      have fin := hX0.lin b2 b1
      rcases Nat.lt_or_ge q 8 with z | z
      · have hz := of_decide_eq_true (hqye z)
        refine V_iload_n (q := 18) dX7_tellState_17 rfl rfl ?_
        refine V_bipush (q := 20) (v := nI 9) dX7_tellState_18 rfl (by decide) ?_
        refine V_icmpN_ge (q := 23) (tgt := 61) dX7_tellState_20 (by decide) rfl (by omega) (by omega) (fun h9 => by first | exact h9.elim | exact absurd h9 (by assumption) | (exfalso; omega)) (fun _ => ?_)
        refine V_iload_n (q := 24) dX7_tellState_23 rfl rfl ?_
        refine V_ifN_eq (q := 27) (tgt := 31) dX7_tellState_24 (by decide) rfl (by omega) (fun h9 => by first | exact h9.elim | exact absurd h9 (by assumption) | (exfalso; omega)) (fun _ => ?_)
        rw [hz]
        refine V_iload_n (q := 28) dX7_tellState_27 rfl rfl ?_
        refine V_if_eq (q := 31) (tgt := 61) dX7_tellState_28 (by decide) rfl (fun _ => ?_) (fun h9 => absurd rfl h9)
        refine V_aload_n (q := 62) dX7_tellState_61 rfl rfl rfl ?_
        refine GX7_39 (q := 65) rfl dX7_tellState_62 rfl (by first | assumption | exact up_eq | exact (up_ne (by omega)).trans (by first | assumption | exact up_eq | exact (up_ne (by omega)).trans (by first | assumption | exact up_eq | exact (up_ne (by omega)).trans (by first | assumption | exact up_eq)))) (by omega) (by rfl) ?_
        refine GX7_192 (q := 68) rfl dX7_tellState_65 rfl (by first | assumption | exact up_eq | exact (up_ne (by omega)).trans (by first | assumption | exact up_eq | exact (up_ne (by omega)).trans (by first | assumption | exact up_eq | exact (up_ne (by omega)).trans (by first | assumption | exact up_eq)))) (by omega) (by rfl) ?_
        exact V_iret dX7_tellState_68 rfl (Nat.le_of_ble_eq_true rfl) (Nat.le_of_ble_eq_true rfl) (⟨rfl, _, rfl, rfl, ⟨B, fin.1⟩, fin.2⟩)
      · skip
        refine V_iload_n (q := 18) dX7_tellState_17 rfl rfl ?_
        refine V_bipush (q := 20) (v := nI 9) dX7_tellState_18 rfl (by decide) ?_
        refine V_icmpN_ge (q := 23) (tgt := 61) dX7_tellState_20 (by decide) rfl (by omega) (by omega) (fun _ => ?_) (fun h9 => by first | exact h9.elim | (exfalso; omega))
        refine V_aload_n (q := 62) dX7_tellState_61 rfl rfl rfl ?_
        refine GX7_39 (q := 65) rfl dX7_tellState_62 rfl (by first | assumption | exact up_eq | exact (up_ne (by omega)).trans (by first | assumption | exact up_eq | exact (up_ne (by omega)).trans (by first | assumption | exact up_eq | exact (up_ne (by omega)).trans (by first | assumption | exact up_eq)))) (by omega) (by rfl) ?_
        refine GX7_192 (q := 68) rfl dX7_tellState_65 rfl (by first | assumption | exact up_eq | exact (up_ne (by omega)).trans (by first | assumption | exact up_eq | exact (up_ne (by omega)).trans (by first | assumption | exact up_eq | exact (up_ne (by omega)).trans (by first | assumption | exact up_eq)))) (by omega) (by rfl) ?_
        exact V_iret dX7_tellState_68 rfl (Nat.le_of_ble_eq_true rfl) (Nat.le_of_ble_eq_true rfl) (⟨rfl, _, rfl, rfl, ⟨B, fin.1⟩, fin.2⟩)
    · intro k hk ih w1 b1 b2
      have b0 : w1 o = eO 7 (xfs g o (nI (xH X))) := (b1 _ (by omega) (by omega)).trans h0
      obtain ⟨b3, b4⟩ := b2.obj
      have hdl : sS (xN X) / 2 ^ k ≤ sS (xN X) := Nat.div_le_self _ _
      have hdd : sS (xN X) / 2 ^ k / 2 ^ 1 = sS (xN X) / 2 ^ (k + 1) := by rw [Nat.div_div_eq_div_mul, ← Nat.pow_add]
      have body : V g l MX7_tellState (rmd 1 0 0) (FinM g (qI (XP g w n o (nI (q + 1), setL X (q + 1, lnSt (sS (xN X))))) n) 0 0) 31 [some (rf g o), some (.int (nI (sS (xN X) / 2 ^ k))), some (.int (nI k))] [] w1 n 0 0 := by
        refine V_aload_n (q := 32) dX7_tellState_31 rfl rfl rfl ?_
        refine GX7_39 (q := 35) rfl dX7_tellState_32 rfl (by first | assumption | exact up_eq | exact (up_ne (by omega)).trans (by first | assumption | exact up_eq | exact (up_ne (by omega)).trans (by first | assumption | exact up_eq | exact (up_ne (by omega)).trans (by first | assumption | exact up_eq)))) (by omega) (by rfl) ?_
        refine V_iload_n (q := 36) dX7_tellState_35 rfl rfl ?_
        refine V_iconst (q := 37) (v := nI 1) dX7_tellState_36 rfl (by decide) ?_
        refine V_iand (q := 38) dX7_tellState_37 rfl ((fa_and _ 1).trans (congrArg nI (Nat.and_one_is_mod _))) ?_
        refine V_ifN_eq (q := 41) (tgt := 46) dX7_tellState_38 (by decide) rfl (by omega) (fun hb => ?_) (fun hb => ?_)
        · skip
          have hc : lnSt (sS (xN X)) k = 45 := if_pos hb
          refine V_bipush (q := 48) (v := nI 45) dX7_tellState_46 rfl (by decide) ?_
          refine CvX7_188 (q := 51) rfl dX7_tellState_48 rfl (c_lput b2 (by omega) (x := 45) (by decide)) ⟨(Nat.le_of_ble_eq_true rfl), (Nat.le_of_ble_eq_true rfl)⟩ (Nat.le_of_ble_eq_true rfl) (by first | assumption | exact up_eq | exact (up_ne (by omega)).trans (by first | assumption | exact up_eq | exact (up_ne (by omega)).trans (by first | assumption | exact up_eq | exact (up_ne (by omega)).trans (by first | assumption | exact up_eq)))) (by omega) (Nat.zero_le _) (Nat.zero_le _) (fun w2 hw2 => ?_)
          refine V_iload_n (q := 52) dX7_tellState_51 rfl rfl ?_
          refine V_iconst (q := 53) (v := nI 1) dX7_tellState_52 rfl (by decide) ?_
          refine V_ishr (q := 54) dX7_tellState_53 rfl ((shr1 (k := 1) (by omega) (by omega)).trans (congrArg nI hdd)) ?_
          refine V_istore_n (q := 55) (ls' := [_, _, _]) dX7_tellState_54 rfl (by decide) (by rfl) rfl ?_
          refine V_iinc (q := 58) (ls' := [_, _, _]) dX7_tellState_55 rfl (by decide) (by rfl) rfl (by first | exact inc1 _ | rfl) rfl ?_
          refine V_goto (tgt := 17) dX7_tellState_58 (by decide) ?_
          exact ih w2 (b1.tr hw2.2) (hw2.1.put hc)
        · skip
          have hc : lnSt (sS (xN X)) k = 120 := if_neg hb
          refine V_bipush (q := 43) (v := nI 120) dX7_tellState_41 rfl (by decide) ?_
          refine V_goto (tgt := 48) dX7_tellState_43 (by decide) ?_
          refine CvX7_188 (q := 51) rfl dX7_tellState_48 rfl (c_lput b2 (by omega) (x := 120) (by decide)) ⟨(Nat.le_of_ble_eq_true rfl), (Nat.le_of_ble_eq_true rfl)⟩ (Nat.le_of_ble_eq_true rfl) (by first | assumption | exact up_eq | exact (up_ne (by omega)).trans (by first | assumption | exact up_eq | exact (up_ne (by omega)).trans (by first | assumption | exact up_eq | exact (up_ne (by omega)).trans (by first | assumption | exact up_eq)))) (by omega) (Nat.zero_le _) (Nat.zero_le _) (fun w2 hw2 => ?_)
          refine V_iload_n (q := 52) dX7_tellState_51 rfl rfl ?_
          refine V_iconst (q := 53) (v := nI 1) dX7_tellState_52 rfl (by decide) ?_
          refine V_ishr (q := 54) dX7_tellState_53 rfl ((shr1 (k := 1) (by omega) (by omega)).trans (congrArg nI hdd)) ?_
          refine V_istore_n (q := 55) (ls' := [_, _, _]) dX7_tellState_54 rfl (by decide) (by rfl) rfl ?_
          refine V_iinc (q := 58) (ls' := [_, _, _]) dX7_tellState_55 rfl (by decide) (by rfl) rfl (by first | exact inc1 _ | rfl) rfl ?_
          refine V_goto (tgt := 17) dX7_tellState_58 (by decide) ?_
          exact ih w2 (b1.tr hw2.2) (hw2.1.put hc)
      refine V_iload_n (q := 18) dX7_tellState_17 rfl rfl ?_
      refine V_bipush (q := 20) (v := nI 9) dX7_tellState_18 rfl (by decide) ?_
      refine V_icmpN_ge (q := 23) (tgt := 61) dX7_tellState_20 (by decide) rfl (by omega) (by omega) (fun h9 => by first | exact h9.elim | exact absurd h9 (by assumption) | (exfalso; omega)) (fun _ => ?_)
      refine V_iload_n (q := 24) dX7_tellState_23 rfl rfl ?_
      refine V_ifN_eq (q := 27) (tgt := 31) dX7_tellState_24 (by decide) rfl (by omega) (fun hk0 => ?_) (fun hk0 => ?_)
      · skip
        exact body
      · skip
        have hz := of_decide_eq_false (hqno (k - 1) (by omega))
        rw [show k - 1 + 1 = k by omega] at hz
        refine V_iload_n (q := 28) dX7_tellState_27 rfl rfl ?_
        refine V_ifN_eq (q := 31) (tgt := 61) dX7_tellState_28 (by decide) rfl (by omega) (fun h9 => by first | exact h9.elim | exact absurd h9 (by assumption) | (exfalso; omega)) (fun _ => ?_)
        exact body
  have fin := key 0 (Nat.zero_le _) w0 hF0 (hL0.cong (fun i hi => absurd hi (Nat.not_lt_zero i)))
  rw [Nat.pow_zero, Nat.div_one] at fin
  exact fin
theorem X_tellJoin (h : XW g w n o X) (hK : OkS (xN X)) {x : Int32} : CtI g l MX7_tellJoin 4 [rf g o, .int x] w n (XP g w n o (tljA x X)) := by
  obtain ⟨B, hX⟩ := h
  have hX0 := hX
  obtain ⟨h0, hS, h2, h3, h4, h5, h6, h7, h8, h9, h10⟩ := hX
  obtain ⟨hso, hsn⟩ := hS.obj
  obtain ⟨T0, Qa0, m0, Hh0, hJ0⟩ := id h5
  have hjo := hJ0.1
  obtain ⟨G, π, LL, FF, hF⟩ := hS
  have hc6 := hF.2.2.2.1
  have hs5 := hK.1
  have hpb := popc_le (sS (xN X))
  rcases i3_lt x (sC (xN X)) (by omega) with hx | ⟨i, hi, rfl⟩
  · rw [show tljA x X = (-1, X) by unfold tljA; rw [idx_no hx]]
    refine Ct.ofs (M := MX7_tellJoin) (ls := [some _, some _, none, none, none]) (by decide +kernel) (by exact (Nat.le_of_ble_eq_true rfl)) (by rfl) (by rfl) (by rfl) ?_
    refine V_aload_n (q := 1) dX7_tellJoin_0 rfl rfl rfl ?_
    refine GX7_10 (q := 4) rfl dX7_tellJoin_1 rfl (by first | assumption | exact up_eq | exact (up_ne (by omega)).trans (by first | assumption | exact up_eq | exact (up_ne (by omega)).trans (by first | assumption | exact up_eq | exact (up_ne (by omega)).trans (by first | assumption | exact up_eq)))) (by omega) (by rfl) ?_
    refine V_iload_n (q := 5) dX7_tellJoin_4 rfl rfl ?_
    refine CrX7_98 (q := 8) rfl dX7_tellJoin_5 rfl (c_rowNum_out hF hx) ⟨(Nat.le_of_ble_eq_true rfl), (Nat.le_of_ble_eq_true rfl)⟩ (Nat.le_of_ble_eq_true rfl) (by first | assumption | exact up_eq | exact (up_ne (by omega)).trans (by first | assumption | exact up_eq | exact (up_ne (by omega)).trans (by first | assumption | exact up_eq | exact (up_ne (by omega)).trans (by first | assumption | exact up_eq)))) (by omega) (Nat.zero_le _) (Nat.zero_le _) ?_
    refine V_astore_n (q := 9) (ls' := [_, _, _, _, _]) dX7_tellJoin_8 rfl (by decide) (by rfl) rfl rfl ?_
    refine V_aload_n (q := 10) dX7_tellJoin_9 rfl rfl rfl ?_
    refine V_ifnonnullN (q := 13) dX7_tellJoin_10 rfl ?_
    refine V_iconst (q := 14) (v := (-1)) dX7_tellJoin_13 rfl (by decide) ?_
    exact V_iret dX7_tellJoin_14 rfl (Nat.le_of_ble_eq_true rfl) (Nat.le_of_ble_eq_true rfl) (⟨rfl, _, rfl, rfl, ⟨B, hX0⟩, fun _ _ => rfl⟩)
  obtain ⟨k1, k2, k3, k4⟩ := hF.2.2.2.2.1 i (by omega)
  obtain ⟨e1, e2, e3⟩ := hF.2.2.2.2.2.2 i hi
  have hrow := k4.1
  have hL8 := k4.2.2.2
  rw [e1] at k4 e3 e2 hL8 hrow
  rw [show tljA (nI i) X = if ballI (sR (xN X) i).2 (sR (xN X) i).1 = nI (popc (sS (xN X))) then (nI (dstN (sS (xN X)) (stN (sR (xN X) i).2 (sR (xN X) i).1 0)), setL X (dstN (sS (xN X)) (stN (sR (xN X) i).2 (sR (xN X) i).1 0), fun a => 48 + digN (codN (sS (xN X)) (stN (sR (xN X) i).2 (sR (xN X) i).1 0)) (dstN (sS (xN X)) (stN (sR (xN X) i).2 (sR (xN X) i).1 0)) a)) else (-4, X) by unfold tljA; rw [idx_yes hi (by omega)]]
  refine Ct.ofs (M := MX7_tellJoin) (ls := [some _, some _, none, none, none]) (by decide +kernel) (by exact (Nat.le_of_ble_eq_true rfl)) (by rfl) (by rfl) (by rfl) ?_
  refine V_aload_n (q := 1) dX7_tellJoin_0 rfl rfl rfl ?_
  refine GX7_10 (q := 4) rfl dX7_tellJoin_1 rfl (by first | assumption | exact up_eq | exact (up_ne (by omega)).trans (by first | assumption | exact up_eq | exact (up_ne (by omega)).trans (by first | assumption | exact up_eq | exact (up_ne (by omega)).trans (by first | assumption | exact up_eq)))) (by omega) (by rfl) ?_
  refine V_iload_n (q := 5) dX7_tellJoin_4 rfl rfl ?_
  refine CrX7_98 (q := 8) rfl dX7_tellJoin_5 rfl (c_rowNum_in hF hi) ⟨(Nat.le_of_ble_eq_true rfl), (Nat.le_of_ble_eq_true rfl)⟩ (Nat.le_of_ble_eq_true rfl) (by first | assumption | exact up_eq | exact (up_ne (by omega)).trans (by first | assumption | exact up_eq | exact (up_ne (by omega)).trans (by first | assumption | exact up_eq | exact (up_ne (by omega)).trans (by first | assumption | exact up_eq)))) (by omega) (Nat.zero_le _) (Nat.zero_le _) ?_
  refine V_astore_n (q := 9) (ls' := [_, _, _, _, _]) dX7_tellJoin_8 rfl (by decide) (by rfl) rfl rfl ?_
  refine V_aload_n (q := 10) dX7_tellJoin_9 rfl rfl rfl ?_
  refine V_ifnonnull (tgt := 15) dX7_tellJoin_10 (by decide) ?_
  refine V_aload_n (q := 16) dX7_tellJoin_15 rfl rfl rfl ?_
  refine V_aload_n (q := 17) dX7_tellJoin_16 rfl rfl rfl ?_
  refine CrX7_158 (q := 20) rfl dX7_tellJoin_17 rfl (c_hasJoin h0 h10 hF hK.1 k4 e3 e2) ⟨(Nat.le_of_ble_eq_true rfl), (Nat.le_of_ble_eq_true rfl)⟩ (Nat.le_of_ble_eq_true rfl) (by first | assumption | exact up_eq | exact (up_ne (by omega)).trans (by first | assumption | exact up_eq | exact (up_ne (by omega)).trans (by first | assumption | exact up_eq | exact (up_ne (by omega)).trans (by first | assumption | exact up_eq)))) (by omega) (Nat.zero_le _) (Nat.zero_le _) ?_
  by_cases hj : ballI (sR (xN X) i).2 (sR (xN X) i).1 = nI (popc (sS (xN X)))
  · skip
    refine V_topi (if_pos hj) ?_
    rw [if_pos hj]
    obtain ⟨hst, k, hk9, hk⟩ := reach_is e2 (fun j hj => (e3 j hj).2) hK.1 hj
    rw [dstN_is hk]
    refine V_if_ne (q := 23) (tgt := 26) dX7_tellJoin_20 (by decide) rfl (fun _ => ?_) (fun h9 => absurd h9 (by decide))
    refine V_aload_n (q := 27) dX7_tellJoin_26 rfl rfl rfl ?_
    refine GX7_32 (q := 30) rfl dX7_tellJoin_27 rfl (by first | assumption | exact up_eq | exact (up_ne (by omega)).trans (by first | assumption | exact up_eq | exact (up_ne (by omega)).trans (by first | assumption | exact up_eq | exact (up_ne (by omega)).trans (by first | assumption | exact up_eq)))) (by omega) (by rfl) ?_
    refine V_aload_n (q := 31) dX7_tellJoin_30 rfl rfl rfl ?_
    refine GX7_10 (q := 34) rfl dX7_tellJoin_31 rfl (by first | assumption | exact up_eq | exact (up_ne (by omega)).trans (by first | assumption | exact up_eq | exact (up_ne (by omega)).trans (by first | assumption | exact up_eq | exact (up_ne (by omega)).trans (by first | assumption | exact up_eq)))) (by omega) (by rfl) ?_
    refine GX7_144 (q := 37) rfl dX7_tellJoin_34 rfl (by first | assumption | exact up_eq | exact (up_ne (by omega)).trans (by first | assumption | exact up_eq | exact (up_ne (by omega)).trans (by first | assumption | exact up_eq | exact (up_ne (by omega)).trans (by first | assumption | exact up_eq)))) (by omega) (by rfl) ?_
    refine V_aload_n (q := 38) dX7_tellJoin_37 rfl rfl rfl ?_
    refine V_iconst (q := 39) (v := nI 0) dX7_tellJoin_38 rfl (by decide) ?_
    refine CrX7_141 (q := 42) rfl dX7_tellJoin_39 rfl (c_stateAt k4 e3 e2 e2) ⟨(Nat.le_of_ble_eq_true rfl), (Nat.le_of_ble_eq_true rfl)⟩ (Nat.le_of_ble_eq_true rfl) (by first | assumption | exact up_eq | exact (up_ne (by omega)).trans (by first | assumption | exact up_eq | exact (up_ne (by omega)).trans (by first | assumption | exact up_eq | exact (up_ne (by omega)).trans (by first | assumption | exact up_eq)))) (by omega) (Nat.zero_le _) (Nat.zero_le _) ?_
    skip
    refine CiX7_168 (q := 45) rfl dX7_tellJoin_42 rfl (c_find h5 hK.1 hst hk hk9) ⟨(Nat.le_of_ble_eq_true rfl), (Nat.le_of_ble_eq_true rfl)⟩ (Nat.le_of_ble_eq_true rfl) (by first | assumption | exact up_eq | exact (up_ne (by omega)).trans (by first | assumption | exact up_eq | exact (up_ne (by omega)).trans (by first | assumption | exact up_eq | exact (up_ne (by omega)).trans (by first | assumption | exact up_eq)))) (by omega) (Nat.zero_le _) (Nat.zero_le _) (fun u w1 hw1 => ?_)
    obtain ⟨rfl, ⟨c, hlow, hJ1⟩, hF1⟩ := hw1
    rw [codN_is hk hlow]
    have hfin := hX0.joi hJ1.jn hF1
    obtain ⟨b0, -, -, -, -, -, bL, -, -, -, -⟩ := id hfin.1
    obtain ⟨bo, bl⟩ := bL.obj
    obtain ⟨T, Qa, m, Hh, hJ2, hdig⟩ := hJ1
    refine V_istore_n (q := 46) (ls' := [_, _, _, _, _]) dX7_tellJoin_45 rfl (by decide) (by rfl) rfl ?_
    refine V_aload_n (q := 47) dX7_tellJoin_46 rfl rfl rfl ?_
    refine GX7_39 (q := 50) rfl dX7_tellJoin_47 rfl (by first | assumption | exact up_eq | exact (up_ne (by omega)).trans (by first | assumption | exact up_eq | exact (up_ne (by omega)).trans (by first | assumption | exact up_eq | exact (up_ne (by omega)).trans (by first | assumption | exact up_eq)))) (by omega) (by rfl) ?_
    refine CvX7_181 (q := 53) rfl dX7_tellJoin_50 rfl (c_lclear bL) ⟨(Nat.le_of_ble_eq_true rfl), (Nat.le_of_ble_eq_true rfl)⟩ (Nat.le_of_ble_eq_true rfl) (by first | assumption | exact up_eq | exact (up_ne (by omega)).trans (by first | assumption | exact up_eq | exact (up_ne (by omega)).trans (by first | assumption | exact up_eq | exact (up_ne (by omega)).trans (by first | assumption | exact up_eq)))) (by omega) (Nat.zero_le _) (Nat.zero_le _) (fun w0 hw0 => ?_)
    obtain ⟨hL0, hF0⟩ := hw0
    refine V_iconst (q := 54) (v := nI 0) dX7_tellJoin_53 rfl (by decide) ?_
    refine V_istore (q := 56) (ls' := [_, _, _, _, _]) dX7_tellJoin_54 rfl (by decide) (by rfl) rfl ?_
    have key : ∀ q, q ≤ k → ∀ w2, Fr2 w1 w2 (o + 161) → LnF g w2 n (o + 161) q (fun a => 48 + digN c k a) → V g l MX7_tellJoin (rmd 4 0 0) (FinM g (qI (XP g w n o (nI k, setL X (k, fun a => 48 + digN c k a))) n) 0 0) 56 [some (rf g o), some (.int (nI i)), some (rf g (π i)), some (.int (nI k)), some (.int (nI q))] [] (w2) n 0 0 := by
      refine loopU (fun q => ∀ w2, Fr2 w1 w2 (o + 161) → LnF g w2 n (o + 161) q (fun a => 48 + digN c k a) → V g l MX7_tellJoin (rmd 4 0 0) (FinM g (qI (XP g w n o (nI k, setL X (k, fun a => 48 + digN c k a))) n) 0 0) 56 [some (rf g o), some (.int (nI i)), some (rf g (π i)), some (.int (nI k)), some (.int (nI q))] [] (w2) n 0 0) k ?_ ?_
      · intro w2 b1 b2
        have c0 : w2 o = eO 7 (xfs g o (nI (xH X))) := (b1 _ (by omega) (by omega)).trans b0
        obtain ⟨b3, b4⟩ := b2.obj
        have fin := hfin.1.lin b2 b1
        refine V_iload (q := 58) dX7_tellJoin_56 rfl rfl ?_
        refine V_iload_n (q := 59) dX7_tellJoin_58 rfl rfl ?_
        refine V_icmpN_ge (q := 62) (tgt := 84) dX7_tellJoin_59 (by decide) rfl (by omega) (by omega) (fun _ => ?_) (fun h9 => by first | exact h9.elim | (exfalso; omega))
        refine V_aload_n (q := 85) dX7_tellJoin_84 rfl rfl rfl ?_
        refine GX7_39 (q := 88) rfl dX7_tellJoin_85 rfl (by first | assumption | exact up_eq | exact (up_ne (by omega)).trans (by first | assumption | exact up_eq | exact (up_ne (by omega)).trans (by first | assumption | exact up_eq | exact (up_ne (by omega)).trans (by first | assumption | exact up_eq)))) (by omega) (by rfl) ?_
        refine GX7_192 (q := 91) rfl dX7_tellJoin_88 rfl (by first | assumption | exact up_eq | exact (up_ne (by omega)).trans (by first | assumption | exact up_eq | exact (up_ne (by omega)).trans (by first | assumption | exact up_eq | exact (up_ne (by omega)).trans (by first | assumption | exact up_eq)))) (by omega) (by rfl) ?_
        exact V_iret dX7_tellJoin_91 rfl (Nat.le_of_ble_eq_true rfl) (Nat.le_of_ble_eq_true rfl) (⟨rfl, _, rfl, rfl, ⟨B, fin.1⟩, hfin.2.tr fin.2⟩)
      · intro q hq ih w2 b1 b2
        have c0 : w2 o = eO 7 (xfs g o (nI (xH X))) := (b1 _ (by omega) (by omega)).trans b0
        obtain ⟨b3, b4⟩ := b2.obj
        have hJ3 := hJ2.frame (w' := w2) (fun j _ _ => b1 j (by omega) (by omega))
        have hjo3 := hJ3.1
        have hdl := digN_le c k q
        refine V_iload (q := 58) dX7_tellJoin_56 rfl rfl ?_
        refine V_iload_n (q := 59) dX7_tellJoin_58 rfl rfl ?_
        refine V_icmpN_ge (q := 62) (tgt := 84) dX7_tellJoin_59 (by decide) rfl (by omega) (by omega) (fun h9 => by first | exact h9.elim | exact absurd h9 (by assumption) | (exfalso; omega)) (fun _ => ?_)
        refine V_aload_n (q := 63) dX7_tellJoin_62 rfl rfl rfl ?_
        refine GX7_39 (q := 66) rfl dX7_tellJoin_63 rfl (by first | assumption | exact up_eq | exact (up_ne (by omega)).trans (by first | assumption | exact up_eq | exact (up_ne (by omega)).trans (by first | assumption | exact up_eq | exact (up_ne (by omega)).trans (by first | assumption | exact up_eq)))) (by omega) (by rfl) ?_
        refine V_aload_n (q := 67) dX7_tellJoin_66 rfl rfl rfl ?_
        refine GX7_32 (q := 70) rfl dX7_tellJoin_67 rfl (by first | assumption | exact up_eq | exact (up_ne (by omega)).trans (by first | assumption | exact up_eq | exact (up_ne (by omega)).trans (by first | assumption | exact up_eq | exact (up_ne (by omega)).trans (by first | assumption | exact up_eq)))) (by omega) (by rfl) ?_
        refine V_iload (q := 72) dX7_tellJoin_70 rfl rfl ?_
        refine CrX7_171 (q := 75) rfl dX7_tellJoin_72 rfl (c_jheightAt hJ3 (i := q) (by omega)) ⟨(Nat.le_of_ble_eq_true rfl), (Nat.le_of_ble_eq_true rfl)⟩ (Nat.le_of_ble_eq_true rfl) (by first | assumption | exact up_eq | exact (up_ne (by omega)).trans (by first | assumption | exact up_eq | exact (up_ne (by omega)).trans (by first | assumption | exact up_eq | exact (up_ne (by omega)).trans (by first | assumption | exact up_eq)))) (by omega) (Nat.zero_le _) (Nat.zero_le _) ?_
        refine V_topi (hdig q hq) ?_
        skip
        refine CvX7_184 (q := 78) rfl dX7_tellJoin_75 rfl (c_lputDigit b2 (by omega) (x := digN c k q) (by omega)) ⟨(Nat.le_of_ble_eq_true rfl), (Nat.le_of_ble_eq_true rfl)⟩ (Nat.le_of_ble_eq_true rfl) (by first | assumption | exact up_eq | exact (up_ne (by omega)).trans (by first | assumption | exact up_eq | exact (up_ne (by omega)).trans (by first | assumption | exact up_eq | exact (up_ne (by omega)).trans (by first | assumption | exact up_eq)))) (by omega) (Nat.zero_le _) (Nat.zero_le _) (fun w3 hw3 => ?_)
        refine V_iinc (q := 81) (ls' := [_, _, _, _, _]) dX7_tellJoin_78 rfl (by decide) (by rfl) rfl (by first | exact inc1 _ | rfl) rfl ?_
        refine V_goto (tgt := 56) dX7_tellJoin_81 (by decide) ?_
        exact ih w3 (b1.tr hw3.2) (hw3.1.put rfl)
    exact key 0 (Nat.zero_le _) w0 hF0 (hL0.cong (fun i hi => absurd hi (Nat.not_lt_zero i)))
  · skip
    refine V_topi (if_neg hj) ?_
    rw [if_neg hj]
    refine V_if_ne (q := 23) (tgt := 26) dX7_tellJoin_20 (by decide) rfl (fun h9 => absurd rfl h9) (fun _ => ?_)
    refine V_bipush (q := 25) (v := (-4)) dX7_tellJoin_23 rfl (by decide) ?_
    exact V_iret dX7_tellJoin_25 rfl (Nat.le_of_ble_eq_true rfl) (Nat.le_of_ble_eq_true rfl) (⟨rfl, _, rfl, rfl, ⟨B, hX0⟩, fun _ _ => rfl⟩)
end LI
