/-! read -/
noncomputable def runN (t : Nat → Nat) (tl : Nat) (N0 : StT) : Nat → Nat → Nat → StT → Int32 × StT × Option (Int32 × Int32 × Int32)
  | 0, q, _, N => (nI q, N, none)
  | f + 1, q, s, N => if s < tl then (if isErr (cmdN t tl s N).1 then ((if (cmdN t tl s N).1 = -3 then -3 else -2), N0, (cmdN t tl s N).2.2.map (fun p => (p.1, p.2, nI q))) else runN t tl N0 f (q + 1) (endN t tl s + 1) (cmdN t tl s N).2.1) else (nI q, N, none)
def rfC (r : Int32 × Int32 × Int32 × Int32) (c : Int32) (d : Option (Int32 × Int32 × Int32)) : Int32 × Int32 × Int32 × Int32 := match d with
  | none => (r.1, r.2.1, r.2.2.1, c)
  | some p => (p.1, p.2.1, p.2.2, c)
def runX (X : XT) (c : Int32) (res : Int32 × StT × Option (Int32 × Int32 × Int32)) : XT := (res.2.1, xS X, xH X, (if isErr res.1 then xP X else (min ((xP X).1 + 1) 8, conS (xN X) (xP X).2)), xL X, xT X, rfC (xR X) c res.2.2)
noncomputable def reaA (X : XT) : Int32 × XT := match fltN (xT X).2 (xT X).1 71 0 with
  | some p => (-100 - nI p, (xN X, xS X, xH X, xP X, xL X, (0, (xT X).2), rfC (xR X) (-4) none))
  | none => ((runN (xT X).2 (xT X).1 (xN X) 71 0 0 (xN X)).1, setT (runX X (-4) (runN (xT X).2 (xT X).1 (xN X) 71 0 0 (xN X))) (0, (xT X).2))
def CAP (g : GG) (w : HW) (n o : Nat) (X : XT) (res : Int32 × StT × Option (Int32 × Int32 × Int32)) : Int32 → HW → Prop := fun y w' => y = res.1 ∧ (∃ c, XW g w' n o (runX X c res)) ∧ FrX w w' o
section RD
variable {g : GG} {l : Launch} {w : HW} {n o : Nat} {X : XT}
theorem XWB.rfs' {B : StT} {r : Int32 × Int32 × Int32 × Int32} (h : XWB g w n o X B) : XWB g (va_up w (o + 165) (eO 3 (rfs r))) n o (xN X, xS X, xH X, xP X, xL X, xT X, r) B ∧ FrX w (va_up w (o + 165) (eO 3 (rfs r))) o := by
  obtain ⟨h0, k1, h2, h3, h4, h5, h6, h7, h8, ⟨F, h9⟩, h10⟩ := h
  exact ⟨⟨(up_ne (by omega)).trans h0, k1.frame (fun i _ _ => up_ne (by omega)), h2.frame (fun i _ _ => up_ne (by omega)), h3.frame (fun i _ _ => up_ne (by omega)), h4.frame (fun i _ _ => up_ne (by omega)), h5.frame (fun i _ _ => up_ne (by omega)), h6.frame (up_ne (by omega)) (up_ne (by omega)), h7.frame (up_ne (by omega)) (up_ne (by omega)), up_eq, ⟨F, (up_ne (by omega)).trans h9⟩, h10⟩, fun i hi => up_ne (by omega)⟩
theorem nI_nerr {q : Nat} (hq : q < 2 ^ 31) : ¬ isErr (nI q) := nIerr hq
theorem c_carryOutAll (h : XW g w n o X) (hK : OkS (xN X)) : CtI g l MX7_carryOutAll 6 [rf g o] w n (CAP g w n o X (runN (xT X).2 (xT X).1 (xN X) 71 0 0 (xN X))) := by
  obtain ⟨B, hX⟩ := h
  have hX0 := hX
  obtain ⟨h0, hS, h2, h3, h4, h5, h6, h7, h8, h9, h10⟩ := hX
  obtain ⟨hso, hsn⟩ := hS.obj
  obtain ⟨hso2, hsn2⟩ := h2.obj
  refine Ct.ofs (M := MX7_carryOutAll) (ls := [some _, none, none, none, none]) (by decide +kernel) (by exact (Nat.le_of_ble_eq_true rfl)) (by rfl) (by rfl) (by rfl) ?_
  refine V_aload_n (q := 1) dX7_carryOutAll_0 rfl rfl rfl ?_
  refine GX7_16 (q := 4) rfl dX7_carryOutAll_1 rfl (by first | assumption | exact up_eq | exact (up_ne (by omega)).trans (by first | assumption | exact up_eq | exact (up_ne (by omega)).trans (by first | assumption | exact up_eq | exact (up_ne (by omega)).trans (by first | assumption | exact up_eq)))) (by omega) (by rfl) ?_
  refine V_aload_n (q := 5) dX7_carryOutAll_4 rfl rfl rfl ?_
  refine GX7_10 (q := 8) rfl dX7_carryOutAll_5 rfl (by first | assumption | exact up_eq | exact (up_ne (by omega)).trans (by first | assumption | exact up_eq | exact (up_ne (by omega)).trans (by first | assumption | exact up_eq | exact (up_ne (by omega)).trans (by first | assumption | exact up_eq)))) (by omega) (by rfl) ?_
  refine CvX7_61 (q := 11) rfl dX7_carryOutAll_8 rfl (c_copyFrom h2 hS (by omega)) ⟨(Nat.le_of_ble_eq_true rfl), (Nat.le_of_ble_eq_true rfl)⟩ (Nat.le_of_ble_eq_true rfl) (by first | assumption | exact up_eq | exact (up_ne (by omega)).trans (by first | assumption | exact up_eq | exact (up_ne (by omega)).trans (by first | assumption | exact up_eq | exact (up_ne (by omega)).trans (by first | assumption | exact up_eq)))) (by omega) (Nat.zero_le _) (Nat.zero_le _) (fun w1 hw1 => ?_)
  obtain ⟨hO1, hF1⟩ := hX0.bef hw1.1 hw1.2
  refine V_iconst (q := 12) (v := nI 0) dX7_carryOutAll_11 rfl (by decide) ?_
  refine V_istore_n (q := 13) (ls' := [_, _, _, _, _]) dX7_carryOutAll_12 rfl (by decide) (by rfl) rfl ?_
  refine V_iconst (q := 14) (v := nI 0) dX7_carryOutAll_13 rfl (by decide) ?_
  refine V_istore_n (q := 15) (ls' := [_, _, _, _, _]) dX7_carryOutAll_14 rfl (by decide) (by rfl) rfl ?_
  refine V_iconst (q := 16) (v := nI 0) dX7_carryOutAll_15 rfl (by decide) ?_
  refine V_istore_n (q := 17) (ls' := [_, _, _, _, _]) dX7_carryOutAll_16 rfl (by decide) (by rfl) rfl ?_
  have stop : ∀ q s N1 w2 c, q ≤ 71 → XWB g w2 n o (N1, xS X, xH X, xP X, xL X, xT X, ((xR X).1, (xR X).2.1, (xR X).2.2.1, c)) (xN X) → FrX w w2 o → V g l MX7_carryOutAll (rmd 6 0 0) (FinM g (qI (CAP g w n o X (nI q, N1, none)) n) 0 0) 103 [some (rf g o), some (.int (nI q)), some (.int (nI s)), some (.int (nI q)), none] [] (w2) n 0 0 := by
    intro q s N1 w2 c hq hX2 hF2
    have hX2' := hX2
    obtain ⟨b0, bS, b2, b3, b4, b5, b6, b7, b8, b9, b10⟩ := hX2
    obtain ⟨bso2, -⟩ := b2.obj
    obtain ⟨hp8, pn, hpo⟩ := b4.obj
    refine V_aload_n (q := 104) dX7_carryOutAll_103 rfl rfl rfl ?_
    refine GX7_25 (q := 107) rfl dX7_carryOutAll_104 rfl (by first | assumption | exact up_eq | exact (up_ne (by omega)).trans (by first | assumption | exact up_eq | exact (up_ne (by omega)).trans (by first | assumption | exact up_eq | exact (up_ne (by omega)).trans (by first | assumption | exact up_eq)))) (by omega) (by rfl) ?_
    refine V_aload_n (q := 108) dX7_carryOutAll_107 rfl rfl rfl ?_
    refine GX7_16 (q := 111) rfl dX7_carryOutAll_108 rfl (by first | assumption | exact up_eq | exact (up_ne (by omega)).trans (by first | assumption | exact up_eq | exact (up_ne (by omega)).trans (by first | assumption | exact up_eq | exact (up_ne (by omega)).trans (by first | assumption | exact up_eq)))) (by omega) (by rfl) ?_
    refine CvX7_294 (q := 114) rfl dX7_carryOutAll_111 rfl (c_keep b4 b2 (by omega)) ⟨(Nat.le_of_ble_eq_true rfl), (Nat.le_of_ble_eq_true rfl)⟩ (Nat.le_of_ble_eq_true rfl) (by first | assumption | exact up_eq | exact (up_ne (by omega)).trans (by first | assumption | exact up_eq | exact (up_ne (by omega)).trans (by first | assumption | exact up_eq | exact (up_ne (by omega)).trans (by first | assumption | exact up_eq)))) (by omega) (Nat.zero_le _) (Nat.zero_le _) (fun w3 hw3 => ?_)
    have fin := hX2'.past hw3.1 hw3.2
    refine V_iload_n (q := 115) dX7_carryOutAll_114 rfl rfl ?_
    exact V_iret dX7_carryOutAll_115 rfl (Nat.le_of_ble_eq_true rfl) (Nat.le_of_ble_eq_true rfl) (⟨rfl, _, rfl, rfl, ⟨c, xN X, by rw [runX, if_neg (nI_nerr (by omega))]; exact fin.1⟩, hF2.tr fin.2⟩)
  have key : ∀ f q s N1 w2 c, q + f = 71 → q ≤ s → s ≤ (xT X).1 + 1 → OkS N1 → XWB g w2 n o (N1, xS X, xH X, xP X, xL X, xT X, ((xR X).1, (xR X).2.1, (xR X).2.2.1, c)) (xN X) → FrX w w2 o → V g l MX7_carryOutAll (rmd 6 0 0) (FinM g (qI (CAP g w n o X (runN (xT X).2 (xT X).1 (xN X) f q s N1)) n) 0 0) 17 [some (rf g o), some (.int (nI q)), some (.int (nI s)), some (.int (nI q)), none] [] (w2) n 0 0 := by
    intro f
    induction f with
    | zero =>
      intro q s N1 w2 c a1 a2 a3 a4 hX2 hF2
      refine V_iload_n (q := 18) dX7_carryOutAll_17 rfl rfl ?_
      refine V_bipush (q := 20) (v := nI 70) dX7_carryOutAll_18 rfl (by decide) ?_
      refine V_icmpN_ge (q := 23) (tgt := 103) dX7_carryOutAll_20 (by decide) rfl (by omega) (by omega) (fun _ => ?_) (fun h9 => by first | exact h9.elim | (exfalso; omega))
      exact stop q s N1 w2 c (by omega) hX2 hF2
    | succ f ih =>
      intro q s N1 w2 c a1 a2 a3 a4 hX2 hF2
      have hX2' := hX2
      obtain ⟨b0, bS, b2, b3, b4, b5, b6, b7, b8, b9, b10⟩ := hX2
      have ho : w2 (o + 163) = eO 6 [.int (nI (xT X).1), rf g (o + 163 + 1)] := b7.obj.1
      have hl : (xT X).1 ≤ 70 := b7.obj.2
      obtain ⟨bso, -⟩ := bS.obj
      obtain ⟨bso2, -⟩ := b2.obj
      by_cases hq : q < 70
      · by_cases hs : s < (xT X).1
        · have er : runN (xT X).2 (xT X).1 (xN X) (f + 1) q s N1 = if isErr (cmdN (xT X).2 (xT X).1 s N1).1 then ((if (cmdN (xT X).2 (xT X).1 s N1).1 = -3 then -3 else -2), xN X, (cmdN (xT X).2 (xT X).1 s N1).2.2.map (fun p => (p.1, p.2, nI q))) else runN (xT X).2 (xT X).1 (xN X) f (q + 1) (endN (xT X).2 (xT X).1 s + 1) (cmdN (xT X).2 (xT X).1 s N1).2.1 := if_pos hs
          have hgd := cmdN_ok (t := (xT X).2) (tl := (xT X).1) (s := s) a4 bS.okn
          refine V_iload_n (q := 18) dX7_carryOutAll_17 rfl rfl ?_
          refine V_bipush (q := 20) (v := nI 70) dX7_carryOutAll_18 rfl (by decide) ?_
          refine V_icmpN_ge (q := 23) (tgt := 103) dX7_carryOutAll_20 (by decide) rfl (by omega) (by omega) (fun h9 => by first | exact h9.elim | exact absurd h9 (by assumption) | (exfalso; omega)) (fun _ => ?_)
          refine V_iload_n (q := 24) dX7_carryOutAll_23 rfl rfl ?_
          refine V_aload_n (q := 25) dX7_carryOutAll_24 rfl rfl rfl ?_
          refine GX7_46 (q := 28) rfl dX7_carryOutAll_25 rfl (by first | assumption | exact up_eq | exact (up_ne (by omega)).trans (by first | assumption | exact up_eq | exact (up_ne (by omega)).trans (by first | assumption | exact up_eq | exact (up_ne (by omega)).trans (by first | assumption | exact up_eq)))) (by omega) (by rfl) ?_
          refine GX7_198 (q := 31) rfl dX7_carryOutAll_28 rfl (by first | assumption | exact up_eq | exact (up_ne (by omega)).trans (by first | assumption | exact up_eq | exact (up_ne (by omega)).trans (by first | assumption | exact up_eq | exact (up_ne (by omega)).trans (by first | assumption | exact up_eq)))) (by omega) (by rfl) ?_
          refine V_icmpN_ge (q := 34) (tgt := 103) dX7_carryOutAll_31 (by decide) rfl (by omega) (by omega) (fun h9 => by first | exact h9.elim | exact absurd h9 (by assumption) | (exfalso; omega)) (fun _ => ?_)
          refine V_aload_n (q := 35) dX7_carryOutAll_34 rfl rfl rfl ?_
          refine GX7_53 (q := 38) rfl dX7_carryOutAll_35 rfl (by first | assumption | exact up_eq | exact (up_ne (by omega)).trans (by first | assumption | exact up_eq | exact (up_ne (by omega)).trans (by first | assumption | exact up_eq | exact (up_ne (by omega)).trans (by first | assumption | exact up_eq)))) (by omega) (by rfl) ?_
          refine V_iload_n (q := 39) dX7_carryOutAll_38 rfl rfl ?_
          refine PX7_205 (q := 42) (fs' := [_, _, _, _]) rfl dX7_carryOutAll_39 rfl (by first | assumption | exact up_eq | exact (up_ne (by omega)).trans (by first | assumption | exact up_eq | exact (up_ne (by omega)).trans (by first | assumption | exact up_eq | exact (up_ne (by omega)).trans (by first | assumption | exact up_eq)))) (by omega) (by exact (Nat.le_of_ble_eq_true rfl)) (by rfl) ?_
          try rw [up_up]
          refine V_aload_n (q := 43) dX7_carryOutAll_42 rfl rfl rfl ?_
          refine V_iload_n (q := 44) dX7_carryOutAll_43 rfl rfl ?_
          have hr2 := hX2'.rfs' (r := ((xR X).1, (xR X).2.1, (xR X).2.2.1, nI q))
          generalize hw3 : va_up w2 (o + 165) (eO 3 [.int (xR X).1, .int (xR X).2.1, .int (xR X).2.2.1, .int (nI q)]) = w3
          have hr3 : XWB g w3 n o (N1, xS X, xH X, xP X, xL X, xT X, ((xR X).1, (xR X).2.1, (xR X).2.2.1, nI q)) (xN X) ∧ FrX w2 w3 o := by rw [← hw3]; exact hr2
          obtain ⟨hr4, hf4⟩ := hr3
          have c0 := hr4.1
          refine CiX7_297 (q := 47) rfl dX7_carryOutAll_44 rfl (c_carryOut hr4.ow hr4.2.2.2.2.2.2.2.1 a4 hs) ⟨(Nat.le_of_ble_eq_true rfl), (Nat.le_of_ble_eq_true rfl)⟩ (Nat.le_of_ble_eq_true rfl) (by first | assumption | exact up_eq | exact (up_ne (by omega)).trans (by first | assumption | exact up_eq | exact (up_ne (by omega)).trans (by first | assumption | exact up_eq | exact (up_ne (by omega)).trans (by first | assumption | exact up_eq)))) (by omega) (Nat.zero_le _) (Nat.zero_le _) (fun y w4 hw4 => ?_)
          obtain ⟨rfl, hO4, hF4⟩ := hr4.op hw4
          have hO4' := hO4
          obtain ⟨d0, dS, d2, d3, d4, d5, d6, d7, d8, d9, d10⟩ := hO4
          obtain ⟨dso, -⟩ := dS.obj
          obtain ⟨dso2, -⟩ := d2.obj
          obtain ⟨dto, -⟩ := d7.obj
          refine V_istore (q := 49) (ls' := [_, _, _, _, _]) dX7_carryOutAll_47 rfl (by decide) (by rfl) rfl ?_
          refine V_iload (q := 51) dX7_carryOutAll_49 rfl rfl ?_
          refine CrX7_291 (q := 54) rfl dX7_carryOutAll_51 rfl (c_isError) ⟨(Nat.le_of_ble_eq_true rfl), (Nat.le_of_ble_eq_true rfl)⟩ (Nat.le_of_ble_eq_true rfl) (Nat.zero_le _) (Nat.zero_le _) ?_
          by_cases he : isErr (cmdN (xT X).2 (xT X).1 s N1).1
          · skip
            refine V_topi (if_pos he) ?_
            rw [er, if_pos he]
            refine V_if_eq (q := 57) (tgt := 83) dX7_carryOutAll_54 (by decide) rfl (fun h9 => absurd h9 (by decide)) (fun _ => ?_)
            refine V_aload_n (q := 58) dX7_carryOutAll_57 rfl rfl rfl ?_
            refine GX7_10 (q := 61) rfl dX7_carryOutAll_58 rfl (by first | assumption | exact up_eq | exact (up_ne (by omega)).trans (by first | assumption | exact up_eq | exact (up_ne (by omega)).trans (by first | assumption | exact up_eq | exact (up_ne (by omega)).trans (by first | assumption | exact up_eq)))) (by omega) (by rfl) ?_
            refine V_aload_n (q := 62) dX7_carryOutAll_61 rfl rfl rfl ?_
            refine GX7_16 (q := 65) rfl dX7_carryOutAll_62 rfl (by first | assumption | exact up_eq | exact (up_ne (by omega)).trans (by first | assumption | exact up_eq | exact (up_ne (by omega)).trans (by first | assumption | exact up_eq | exact (up_ne (by omega)).trans (by first | assumption | exact up_eq)))) (by omega) (by rfl) ?_
            refine CvX7_61 (q := 68) rfl dX7_carryOutAll_65 rfl (c_copyFrom dS d2 (by omega)) ⟨(Nat.le_of_ble_eq_true rfl), (Nat.le_of_ble_eq_true rfl)⟩ (Nat.le_of_ble_eq_true rfl) (by first | assumption | exact up_eq | exact (up_ne (by omega)).trans (by first | assumption | exact up_eq | exact (up_ne (by omega)).trans (by first | assumption | exact up_eq | exact (up_ne (by omega)).trans (by first | assumption | exact up_eq)))) (by omega) (Nat.zero_le _) (Nat.zero_le _) (fun w5 hw5 => ?_)
            have fin := hO4'.cur hw5.1 hw5.2
            have hiserr : isErr (if (cmdN (xT X).2 (xT X).1 s N1).1 = -3 then (-3 : Int32) else -2) := by
              by_cases q3 : (cmdN (xT X).2 (xT X).1 s N1).1 = -3
              · rw [if_pos q3]; decide
              · rw [if_neg q3]; decide
            have last : ∃ c, XW g w5 n o (runX X c ((if (cmdN (xT X).2 (xT X).1 s N1).1 = -3 then -3 else -2), xN X, (cmdN (xT X).2 (xT X).1 s N1).2.2.map (fun p => (p.1, p.2, nI q)))) := by
              refine ⟨nI q, xN X, ?_⟩
              rw [runX, if_pos hiserr]
              have f1 := fin.1
              cases hd : (cmdN (xT X).2 (xT X).1 s N1).2.2 with
              | none => rw [opX, hd] at f1; exact f1
              | some p => rw [opX, hd] at f1; exact f1
            refine V_iload (q := 70) dX7_carryOutAll_68 rfl rfl ?_
            refine V_bipush (q := 72) (v := (-3)) dX7_carryOutAll_70 rfl (by decide) ?_
            refine V_icmp_ne (q := 75) (tgt := 80) dX7_carryOutAll_72 (by decide) rfl (fun q3 => ?_) (fun q3 => ?_)
            · skip
              rw [if_neg q3] at last ⊢
              refine V_bipush (q := 82) (v := (-2)) dX7_carryOutAll_80 rfl (by decide) ?_
              exact V_iret dX7_carryOutAll_82 rfl (Nat.le_of_ble_eq_true rfl) (Nat.le_of_ble_eq_true rfl) (⟨rfl, _, rfl, rfl, last, ((hF2.tr hf4).tr hF4).tr fin.2⟩)
            · skip
              rw [if_pos q3] at last ⊢
              refine V_bipush (q := 77) (v := (-3)) dX7_carryOutAll_75 rfl (by decide) ?_
              refine V_goto (tgt := 82) dX7_carryOutAll_77 (by decide) ?_
              exact V_iret dX7_carryOutAll_82 rfl (Nat.le_of_ble_eq_true rfl) (Nat.le_of_ble_eq_true rfl) (⟨rfl, _, rfl, rfl, last, ((hF2.tr hf4).tr hF4).tr fin.2⟩)
          · skip
            refine V_topi (if_neg he) ?_
            rw [er, if_neg he]
            obtain ⟨n1, n2, n3, n4⟩ := endN_ok (t := (xT X).2) (Nat.le_of_lt hs)
            have hno : (cmdN (xT X).2 (xT X).1 s N1).2.2 = none := hgd.2.1.elim (fun q => q) (fun q => absurd (Or.inr (Or.inr q)) he)
            refine V_if_eq (q := 57) (tgt := 83) dX7_carryOutAll_54 (by decide) rfl (fun _ => ?_) (fun h9 => absurd rfl h9)
            refine V_aload_n (q := 84) dX7_carryOutAll_83 rfl rfl rfl ?_
            refine GX7_46 (q := 87) rfl dX7_carryOutAll_84 rfl (by first | assumption | exact up_eq | exact (up_ne (by omega)).trans (by first | assumption | exact up_eq | exact (up_ne (by omega)).trans (by first | assumption | exact up_eq | exact (up_ne (by omega)).trans (by first | assumption | exact up_eq)))) (by omega) (by rfl) ?_
            refine V_iload_n (q := 88) dX7_carryOutAll_87 rfl rfl ?_
            refine CrX7_300 (q := 91) rfl dX7_carryOutAll_88 rfl (c_tend d7 n1 n2 n3 n4) ⟨(Nat.le_of_ble_eq_true rfl), (Nat.le_of_ble_eq_true rfl)⟩ (Nat.le_of_ble_eq_true rfl) (by first | assumption | exact up_eq | exact (up_ne (by omega)).trans (by first | assumption | exact up_eq | exact (up_ne (by omega)).trans (by first | assumption | exact up_eq | exact (up_ne (by omega)).trans (by first | assumption | exact up_eq)))) (by omega) (Nat.zero_le _) (Nat.zero_le _) ?_
            refine V_iconst (q := 92) (v := nI 1) dX7_carryOutAll_91 rfl (by decide) ?_
            refine V_iadd (q := 93) dX7_carryOutAll_92 rfl (by first | exact nI_add _ _ | rfl) ?_
            refine V_istore_n (q := 94) (ls' := [_, _, _, _, _]) dX7_carryOutAll_93 rfl (by decide) (by rfl) rfl ?_
            refine V_iinc (q := 97) (ls' := [_, _, _, _, _]) dX7_carryOutAll_94 rfl (by decide) (by rfl) rfl (by first | exact inc1 _ | rfl) rfl ?_
            refine V_iinc (q := 100) (ls' := [_, _, _, _, _]) dX7_carryOutAll_97 rfl (by decide) (by rfl) rfl (by first | exact inc1 _ | rfl) rfl ?_
            refine V_goto (tgt := 17) dX7_carryOutAll_100 (by decide) ?_
            refine V_fg 4 (ls2 := [_, _, _, _, none]) (by rfl) ?_
            refine ih (q + 1) (endN (xT X).2 (xT X).1 s + 1) _ w4 (nI q) (by omega) (by omega) (by omega) hgd.1 ?_ ((hF2.tr hf4).tr hF4)
            have f1 := hO4'
            rw [opX, hno] at f1
            exact f1
        · skip
          refine V_iload_n (q := 18) dX7_carryOutAll_17 rfl rfl ?_
          refine V_bipush (q := 20) (v := nI 70) dX7_carryOutAll_18 rfl (by decide) ?_
          refine V_icmpN_ge (q := 23) (tgt := 103) dX7_carryOutAll_20 (by decide) rfl (by omega) (by omega) (fun h9 => by first | exact h9.elim | exact absurd h9 (by assumption) | (exfalso; omega)) (fun _ => ?_)
          refine V_iload_n (q := 24) dX7_carryOutAll_23 rfl rfl ?_
          refine V_aload_n (q := 25) dX7_carryOutAll_24 rfl rfl rfl ?_
          refine GX7_46 (q := 28) rfl dX7_carryOutAll_25 rfl (by first | assumption | exact up_eq | exact (up_ne (by omega)).trans (by first | assumption | exact up_eq | exact (up_ne (by omega)).trans (by first | assumption | exact up_eq | exact (up_ne (by omega)).trans (by first | assumption | exact up_eq)))) (by omega) (by rfl) ?_
          refine GX7_198 (q := 31) rfl dX7_carryOutAll_28 rfl (by first | assumption | exact up_eq | exact (up_ne (by omega)).trans (by first | assumption | exact up_eq | exact (up_ne (by omega)).trans (by first | assumption | exact up_eq | exact (up_ne (by omega)).trans (by first | assumption | exact up_eq)))) (by omega) (by rfl) ?_
          refine V_icmpN_ge (q := 34) (tgt := 103) dX7_carryOutAll_31 (by decide) rfl (by omega) (by omega) (fun _ => ?_) (fun h9 => by first | exact h9.elim | (exfalso; omega))
          rw [show runN (xT X).2 (xT X).1 (xN X) (f + 1) q s N1 = (nI q, N1, none) from if_neg hs]
          exact stop q s N1 w2 c (by omega) hX2' hF2
      · skip
        refine V_iload_n (q := 18) dX7_carryOutAll_17 rfl rfl ?_
        refine V_bipush (q := 20) (v := nI 70) dX7_carryOutAll_18 rfl (by decide) ?_
        refine V_icmpN_ge (q := 23) (tgt := 103) dX7_carryOutAll_20 (by decide) rfl (by omega) (by omega) (fun _ => ?_) (fun h9 => by first | exact h9.elim | (exfalso; omega))
        rw [show runN (xT X).2 (xT X).1 (xN X) (f + 1) q s N1 = (nI q, N1, none) from if_neg (by omega)]
        exact stop q s N1 w2 c (by omega) hX2' hF2
  exact key 71 0 0 (xN X) w1 (xR X).2.2.2 rfl (Nat.le_refl _) (Nat.zero_le _) hK hO1 hF1
theorem fltN_le {t : Nat → Nat} {tl : Nat} : ∀ {f i p : Nat}, i ≤ tl → fltN t tl f i = some p → p ≤ tl
  | 0, i, p, hi, h => by
    cases h
    exact hi
  | f + 1, i, p, hi, h => by
    have nx := nxN_le (t := t) hi
    rw [fltN] at h
    by_cases h1 : dN t tl i = 0 ∨ dN t tl i < wAN t tl i
    · rw [if_pos h1] at h; cases h; exact nx
    · rw [if_neg h1] at h
      by_cases h2 : nxN t tl i = tl
      · rw [if_pos h2] at h; cases h
      · rw [if_neg h2] at h
        by_cases h3 : t (nxN t tl i) = 59
        · rw [if_pos h3] at h; exact fltN_le (by omega) h
        · rw [if_neg h3] at h; cases h; exact nx
theorem X_read (h : XW g w n o X) (hK : OkS (xN X)) : CtI g l MX7_read 7 [rf g o] w n (XP g w n o (reaA X)) := by
  obtain ⟨B, hX⟩ := h
  have hX0 := hX
  obtain ⟨h0, hS, h2, h3, h4, h5, h6, h7, h8, h9, h10⟩ := hX
  obtain ⟨ho, hl⟩ := h7.obj
  have tail : ∀ (y : Int32) (X1 : XT) (c : Int32) (w1 : HW), XW g w1 n o X1 → FrX w w1 o → V g l MX7_read (rmd 7 0 0) (FinM g (qI (XP g w n o (y, (xN X1, xS X1, xH X1, xP X1, xL X1, (0, (xT X1).2), ((xR X1).1, (xR X1).2.1, (xR X1).2.2.1, -4)))) n) 0 0) 25 [some (rf g o), some (.int c), some (.int y)] [] (w1) n 0 0 := by
    intro y X1 c w1 hX1 hF1
    obtain ⟨B1, hX1⟩ := hX1
    have hr := hX1.rfs' (r := ((xR X1).1, (xR X1).2.1, (xR X1).2.2.1, -4))
    obtain ⟨b0, bS, b2, b3, b4, b5, b6, b7, b8, b9, b10⟩ := hX1
    obtain ⟨bto, -⟩ := b7.obj
    refine V_aload_n (q := 26) dX7_read_25 rfl rfl rfl ?_
    refine GX7_53 (q := 29) rfl dX7_read_26 rfl (by first | assumption | exact up_eq | exact (up_ne (by omega)).trans (by first | assumption | exact up_eq | exact (up_ne (by omega)).trans (by first | assumption | exact up_eq | exact (up_ne (by omega)).trans (by first | assumption | exact up_eq)))) (by omega) (by rfl) ?_
    refine V_bipush (q := 31) (v := (-4)) dX7_read_29 rfl (by decide) ?_
    refine PX7_205 (q := 34) (fs' := [_, _, _, _]) rfl dX7_read_31 rfl (by first | assumption | exact up_eq | exact (up_ne (by omega)).trans (by first | assumption | exact up_eq | exact (up_ne (by omega)).trans (by first | assumption | exact up_eq | exact (up_ne (by omega)).trans (by first | assumption | exact up_eq)))) (by omega) (by exact (Nat.le_of_ble_eq_true rfl)) (by rfl) ?_
    try rw [up_up]
    refine V_aload_n (q := 35) dX7_read_34 rfl rfl rfl ?_
    refine GX7_46 (q := 38) rfl dX7_read_35 rfl (by first | assumption | exact up_eq | exact (up_ne (by omega)).trans (by first | assumption | exact up_eq | exact (up_ne (by omega)).trans (by first | assumption | exact up_eq | exact (up_ne (by omega)).trans (by first | assumption | exact up_eq)))) (by omega) (by rfl) ?_
    generalize hw2 : va_up w1 (o + 165) (eO 3 [.int (xR X1).1, .int (xR X1).2.1, .int (xR X1).2.2.1, .int (-4)]) = w2
    have hr3 : XWB g w2 n o (xN X1, xS X1, xH X1, xP X1, xL X1, xT X1, ((xR X1).1, (xR X1).2.1, (xR X1).2.2.1, -4)) B1 ∧ FrX w1 w2 o := by rw [← hw2]; exact hr
    obtain ⟨hr4, hf4⟩ := hr3
    have c0 := hr4.1
    have c7 := hr4.2.2.2.2.2.2.2.1
    obtain ⟨cto, -⟩ := c7.obj
    skip
    refine CvX7_208 (q := 41) rfl dX7_read_38 rfl (c_tclear c7) ⟨(Nat.le_of_ble_eq_true rfl), (Nat.le_of_ble_eq_true rfl)⟩ (Nat.le_of_ble_eq_true rfl) (by first | assumption | exact up_eq | exact (up_ne (by omega)).trans (by first | assumption | exact up_eq | exact (up_ne (by omega)).trans (by first | assumption | exact up_eq | exact (up_ne (by omega)).trans (by first | assumption | exact up_eq)))) (by omega) (Nat.zero_le _) (Nat.zero_le _) (fun w3 hw3 => ?_)
    have fin := hr4.txt hw3.1 hw3.2
    refine V_iload_n (q := 42) dX7_read_41 rfl rfl ?_
    exact V_iret dX7_read_42 rfl (Nat.le_of_ble_eq_true rfl) (Nat.le_of_ble_eq_true rfl) (⟨rfl, _, rfl, rfl, ⟨B1, fin.1⟩, (hF1.tr hf4).tr fin.2⟩)
  unfold reaA
  refine Ct.ofs (M := MX7_read) (ls := [some _, none, none]) (by decide +kernel) (by exact (Nat.le_of_ble_eq_true rfl)) (by rfl) (by rfl) (by rfl) ?_
  refine V_aload_n (q := 1) dX7_read_0 rfl rfl rfl ?_
  refine GX7_46 (q := 4) rfl dX7_read_1 rfl (by first | assumption | exact up_eq | exact (up_ne (by omega)).trans (by first | assumption | exact up_eq | exact (up_ne (by omega)).trans (by first | assumption | exact up_eq | exact (up_ne (by omega)).trans (by first | assumption | exact up_eq)))) (by omega) (by rfl) ?_
  refine CrX7_199 (q := 7) rfl dX7_read_4 rfl (c_tfault h7) ⟨(Nat.le_of_ble_eq_true rfl), (Nat.le_of_ble_eq_true rfl)⟩ (Nat.le_of_ble_eq_true rfl) (by first | assumption | exact up_eq | exact (up_ne (by omega)).trans (by first | assumption | exact up_eq | exact (up_ne (by omega)).trans (by first | assumption | exact up_eq | exact (up_ne (by omega)).trans (by first | assumption | exact up_eq)))) (by omega) (Nat.zero_le _) (Nat.zero_le _) ?_
  cases hf : fltN (xT X).2 (xT X).1 71 0 with
  | none =>
    refine V_istore_n (q := 8) (ls' := [_, _, _]) dX7_read_7 rfl (by decide) (by rfl) rfl ?_
    refine V_iload_n (q := 9) dX7_read_8 rfl rfl ?_
    refine V_iconst (q := 10) (v := (-1)) dX7_read_9 rfl (by decide) ?_
    refine V_icmp_ne (q := 13) (tgt := 20) dX7_read_10 (by decide) rfl (fun h9 => absurd rfl h9) (fun _ => ?_)
    refine V_aload_n (q := 14) dX7_read_13 rfl rfl rfl ?_
    refine CiX7_202 (q := 17) rfl dX7_read_14 rfl (c_carryOutAll ⟨B, hX0⟩ hK) ⟨(Nat.le_of_ble_eq_true rfl), (Nat.le_of_ble_eq_true rfl)⟩ (Nat.le_of_ble_eq_true rfl) (by first | assumption | exact up_eq | exact (up_ne (by omega)).trans (by first | assumption | exact up_eq | exact (up_ne (by omega)).trans (by first | assumption | exact up_eq | exact (up_ne (by omega)).trans (by first | assumption | exact up_eq)))) (by omega) (Nat.zero_le _) (Nat.zero_le _) (fun y w1 hw1 => ?_)
    obtain ⟨rfl, ⟨c, hX1⟩, hF1⟩ := hw1
    refine V_goto (tgt := 24) dX7_read_17 (by decide) ?_
    refine V_istore_n (q := 25) (ls' := [_, _, _]) dX7_read_24 rfl (by decide) (by rfl) rfl ?_
    have tl := tail (runN (xT X).2 (xT X).1 (xN X) 71 0 0 (xN X)).1 _ (tI none) w1 hX1 hF1
    cases hd : (runN (xT X).2 (xT X).1 (xN X) 71 0 0 (xN X)).2.2 with
    | none => rw [runX, hd] at tl; rw [runX, hd]; exact tl
    | some p => rw [runX, hd] at tl; rw [runX, hd]; exact tl
  | some p =>
    have hp := fltN_le (Nat.zero_le _) hf
    refine V_istore_n (q := 8) (ls' := [_, _, _]) dX7_read_7 rfl (by decide) (by rfl) rfl ?_
    refine V_iload_n (q := 9) dX7_read_8 rfl rfl ?_
    refine V_iconst (q := 10) (v := (-1)) dX7_read_9 rfl (by decide) ?_
    refine V_icmp_ne (q := 13) (tgt := 20) dX7_read_10 (by decide) rfl (fun _ => ?_) (fun h9 => absurd h9 (nI_m1 (by omega)))
    refine V_bipush (q := 22) (v := (-100)) dX7_read_20 rfl (by decide) ?_
    refine V_iload_n (q := 23) dX7_read_22 rfl rfl ?_
    refine V_isub (q := 24) dX7_read_23 rfl rfl ?_
    refine V_istore_n (q := 25) (ls' := [_, _, _]) dX7_read_24 rfl (by decide) (by rfl) rfl ?_
    exact tail (-100 - nI p) X (tI (some p)) w ⟨B, hX0⟩ (fun _ _ => rfl)
end RD
