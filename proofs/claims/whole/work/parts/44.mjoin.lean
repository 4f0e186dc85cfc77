/-! the model: joins -/
def setLn (K : MS) (x : Int32) : MS := (kKp K, kRe K, kDe K, kIT K, kCm K, kSv K, kIn K, x, kWr K, kRd K, kAt K, kWh K, kOn K, kOt K, kTh K, kWg K)
def QMd (g : GG) (w : HW) (n p : Nat) (K : MS) (Q P B J : Nat → Int32) : Prop := w p = eO 8 (mfs g p K) ∧ w (p + 13) = eI g 512 Q ∧ w (p + 14) = eI g 512 P ∧ w (p + 15) = eI g 512 B ∧ w (p + 16) = eI g 512 J ∧ p + 19 ≤ n
def FrQ (w w' : HW) (p : Nat) : Prop := ∀ i, i ≠ p → (i < p + 13 ∨ p + 17 ≤ i) → w' i = w i
section MJ
variable {g : GG} {l : Launch} {w : HW} {n p : Nat} {K : MS} {Q P B J : Nat → Int32}
theorem FrQ.tr {w1 w2 : HW} (h : FrQ w w1 p) (h2 : FrQ w1 w2 p) : FrQ w w2 p := fun i a1 a2 => (h2 i a1 a2).trans (h i a1 a2)
theorem m_takeJoin {s t k m nx hc : Nat} {D : Nat → Option Nat} {q : Nat → Nat} {C : Nat → Nat} (hM : QMd g w n p K Q P B J) (hI : SIv s D q m nx hc C B P) (ht : t < 512) (hs : s < 512) (hD : D t = some k) (hk9 : k ≤ 9) : CtV g l MX8_takeJoin 0 [rf g p, .int (nI t)] w n (fun w' => (∃ J', QMd g w' n p (setLn K (nI k)) Q P B J' ∧ ∀ j, j < k → J' j = nI (digN (C t) k j)) ∧ FrQ w w' p) := by
  obtain ⟨h1, h2, h3, h4, h5, h6, h7⟩ := hI
  obtain ⟨m0, mQ, mP, mB, mJ, mn⟩ := hM
  have hDs : ∀ v, D v = some 0 → v = s := fun v hv => (h1.2.2.2.2.2.2.2.1 v 0 hv).symm
  have hlt : ∀ v r, D v = some r → v < 512 := fun v r hv => by
    obtain ⟨i, hi, e⟩ := h1.2.2.2.2.2.2.1 v r hv
    have := (h1.2.2.2.2.1 i hi).1
    omega
  have second : ∀ r, r ≤ k → ∀ v w1 J1, D v = some r → C v = C t / 10 ^ (k - r) → QMd g w1 n p (setLn K (nI k)) Q P B J1 → FrQ w w1 p → (∀ j, r ≤ j → j < k → J1 j = nI (digN (C t) k j)) → V g l MX8_takeJoin (rmd 0 0 0) (FinM g (qV (fun w' => (∃ J', QMd g w' n p (setLn K (nI k)) Q P B J' ∧ ∀ j, j < k → J' j = nI (digN (C t) k j)) ∧ FrQ w w' p) n) 0 0) 45 [some (rf g p), some (.int (nI t)), some (.int (nI r)), some (.int (nI v))] [] (w1) n 0 0 := by
    intro r
    induction r with
    | zero =>
      intro _ v w1 J1 hv hC hM1 hF hJ
      have e := hDs v hv
      subst e
      have hM1' := hM1
      obtain ⟨c0, cQ, cP, cB, cJ, cn⟩ := hM1
      refine V_aload_n (q := 46) dX8_takeJoin_45 rfl rfl rfl ?_
      refine GX8_34 (q := 49) rfl dX8_takeJoin_46 rfl (by first | assumption | exact up_eq | exact (up_ne (by omega)).trans (by first | assumption | exact up_eq | exact (up_ne (by omega)).trans (by first | assumption | exact up_eq | exact (up_ne (by omega)).trans (by first | assumption | exact up_eq)))) (by omega) (by rfl) ?_
      refine V_iload_n (q := 50) dX8_takeJoin_49 rfl rfl ?_
      refine V_ialdN (q := 51) dX8_takeJoin_50 rfl (by first | assumption | exact up_eq | exact (up_ne (by omega)).trans (by first | assumption | exact up_eq | exact (up_ne (by omega)).trans (by first | assumption | exact up_eq | exact (up_ne (by omega)).trans (by first | assumption | exact up_eq)))) (by omega) (by omega) (by omega) rfl h6 ?_
      refine V_bipush (q := 53) (v := nI 9) dX8_takeJoin_51 rfl (by decide) ?_
      refine V_icmpN_gt (q := 56) (tgt := 81) dX8_takeJoin_53 (by decide) rfl (by omega) (by omega) (fun _ => ?_) (fun h9 => by first | exact h9.elim | (exfalso; omega))
      skip
      exact V_vret dX8_takeJoin_81 rfl (Nat.le_of_ble_eq_true rfl) (Nat.le_of_ble_eq_true rfl) (⟨rfl, rfl, ⟨J1, hM1', fun j hj => hJ j (Nat.zero_le _) hj⟩, hF⟩)
    | succ r ih =>
      intro hr v w1 J1 hv hC hM1 hF hJ
      obtain ⟨a, y, a1, a2, a3, a4, a5, a6, a7, a8, a9, a10⟩ := h4 v r hv
      have hv5 := hlt v _ hv
      have hqa := hlt (q a) _ a3
      obtain ⟨c0, cQ, cP, cB, cJ, cn⟩ := hM1
      have hdig : y = digN (C t) k r := by
        unfold digN
        rw [show k - 1 - r = k - (r + 1) by omega, ← hC, a7]
        omega
      refine V_aload_n (q := 46) dX8_takeJoin_45 rfl rfl rfl ?_
      refine GX8_34 (q := 49) rfl dX8_takeJoin_46 rfl (by first | assumption | exact up_eq | exact (up_ne (by omega)).trans (by first | assumption | exact up_eq | exact (up_ne (by omega)).trans (by first | assumption | exact up_eq | exact (up_ne (by omega)).trans (by first | assumption | exact up_eq)))) (by omega) (by rfl) ?_
      refine V_iload_n (q := 50) dX8_takeJoin_49 rfl rfl ?_
      refine V_ialdN (q := 51) dX8_takeJoin_50 rfl (by first | assumption | exact up_eq | exact (up_ne (by omega)).trans (by first | assumption | exact up_eq | exact (up_ne (by omega)).trans (by first | assumption | exact up_eq | exact (up_ne (by omega)).trans (by first | assumption | exact up_eq)))) (by omega) (by omega) (by omega) rfl a9 ?_
      refine V_bipush (q := 53) (v := nI 9) dX8_takeJoin_51 rfl (by decide) ?_
      refine V_icmpN_gt (q := 56) (tgt := 81) dX8_takeJoin_53 (by decide) rfl (by omega) (by omega) (fun h9 => by first | exact h9.elim | exact absurd h9 (by assumption) | (exfalso; omega)) (fun _ => ?_)
      refine V_iinc (q := 59) (ls' := [_, _, _, _]) dX8_takeJoin_56 rfl (by decide) rfl (by first | exact dec1 _ | rfl) rfl ?_
      refine V_aload_n (q := 60) dX8_takeJoin_59 rfl rfl rfl ?_
      refine GX8_37 (q := 63) rfl dX8_takeJoin_60 rfl (by first | assumption | exact up_eq | exact (up_ne (by omega)).trans (by first | assumption | exact up_eq | exact (up_ne (by omega)).trans (by first | assumption | exact up_eq | exact (up_ne (by omega)).trans (by first | assumption | exact up_eq)))) (by omega) (by rfl) ?_
      refine V_iload_n (q := 64) dX8_takeJoin_63 rfl rfl ?_
      refine V_aload_n (q := 65) dX8_takeJoin_64 rfl rfl rfl ?_
      refine GX8_34 (q := 68) rfl dX8_takeJoin_65 rfl (by first | assumption | exact up_eq | exact (up_ne (by omega)).trans (by first | assumption | exact up_eq | exact (up_ne (by omega)).trans (by first | assumption | exact up_eq | exact (up_ne (by omega)).trans (by first | assumption | exact up_eq)))) (by omega) (by rfl) ?_
      refine V_iload_n (q := 69) dX8_takeJoin_68 rfl rfl ?_
      refine V_ialdN (q := 70) dX8_takeJoin_69 rfl (by first | assumption | exact up_eq | exact (up_ne (by omega)).trans (by first | assumption | exact up_eq | exact (up_ne (by omega)).trans (by first | assumption | exact up_eq | exact (up_ne (by omega)).trans (by first | assumption | exact up_eq)))) (by omega) (by omega) (by omega) rfl a9 ?_
      refine V_iastN (q := 71) dX8_takeJoin_70 rfl (by first | assumption | exact up_eq | exact (up_ne (by omega)).trans (by first | assumption | exact up_eq | exact (up_ne (by omega)).trans (by first | assumption | exact up_eq | exact (up_ne (by omega)).trans (by first | assumption | exact up_eq)))) (by omega) (by omega) (by omega) rfl (by rfl) ?_
      refine V_aload_n (q := 72) dX8_takeJoin_71 rfl rfl rfl ?_
      refine GX8_31 (q := 75) rfl dX8_takeJoin_72 rfl (by first | assumption | exact up_eq | exact (up_ne (by omega)).trans (by first | assumption | exact up_eq | exact (up_ne (by omega)).trans (by first | assumption | exact up_eq | exact (up_ne (by omega)).trans (by first | assumption | exact up_eq)))) (by omega) (by rfl) ?_
      refine V_iload_n (q := 76) dX8_takeJoin_75 rfl rfl ?_
      refine V_ialdN (q := 77) dX8_takeJoin_76 rfl (by first | assumption | exact up_eq | exact (up_ne (by omega)).trans (by first | assumption | exact up_eq | exact (up_ne (by omega)).trans (by first | assumption | exact up_eq | exact (up_ne (by omega)).trans (by first | assumption | exact up_eq)))) (by omega) (by omega) (by omega) rfl a10 ?_
      refine V_istore_n (q := 78) (ls' := [_, _, _, _]) dX8_takeJoin_77 rfl (by decide) rfl ?_
      refine V_goto (tgt := 45) dX8_takeJoin_78 (by decide) ?_
      refine ih (by omega) (q a) _ (upd J1 r (nI y)) a3 ?_ ⟨(up_ne (by omega)).trans c0, (up_ne (by omega)).trans cQ, (up_ne (by omega)).trans cP, (up_ne (by omega)).trans cB, up_eq, cn⟩ (fun i b1 b2 => (up_ne (by omega)).trans (hF i b1 b2)) (fun j b1 b2 => ?_)
      · have e : C t / 10 ^ (k - r) = C v / 10 := by
          rw [hC, show k - r = (k - (r + 1)) + 1 by omega, Nat.pow_succ, Nat.div_div_eq_div_mul]
        rw [e, a7]
        omega
      · by_cases e : j = r
        · rw [e, updI, hdig]
        · rw [updN e]; exact hJ j (by omega) b2
  have first : ∀ r, r ≤ k → ∀ v w1, D v = some r → QMd g w1 n p (setLn K (nI (k - r))) Q P B J → FrQ w w1 p → V g l MX8_takeJoin (rmd 0 0 0) (FinM g (qV (fun w' => (∃ J', QMd g w' n p (setLn K (nI k)) Q P B J' ∧ ∀ j, j < k → J' j = nI (digN (C t) k j)) ∧ FrQ w w' p) n) 0 0) 7 [some (rf g p), some (.int (nI t)), some (.int (nI v)), none] [] (w1) n 0 0 := by
    intro r
    induction r with
    | zero =>
      intro _ v w1 hv hM1 hF
      have e := hDs v hv
      subst e
      have hM1' := hM1
      obtain ⟨c0, cQ, cP, cB, cJ, cn⟩ := hM1
      refine V_aload_n (q := 8) dX8_takeJoin_7 rfl rfl rfl ?_
      refine GX8_34 (q := 11) rfl dX8_takeJoin_8 rfl (by first | assumption | exact up_eq | exact (up_ne (by omega)).trans (by first | assumption | exact up_eq | exact (up_ne (by omega)).trans (by first | assumption | exact up_eq | exact (up_ne (by omega)).trans (by first | assumption | exact up_eq)))) (by omega) (by rfl) ?_
      refine V_iload_n (q := 12) dX8_takeJoin_11 rfl rfl ?_
      refine V_ialdN (q := 13) dX8_takeJoin_12 rfl (by first | assumption | exact up_eq | exact (up_ne (by omega)).trans (by first | assumption | exact up_eq | exact (up_ne (by omega)).trans (by first | assumption | exact up_eq | exact (up_ne (by omega)).trans (by first | assumption | exact up_eq)))) (by omega) (by omega) (by omega) rfl h6 ?_
      refine V_bipush (q := 15) (v := nI 9) dX8_takeJoin_13 rfl (by decide) ?_
      refine V_icmpN_gt (q := 18) (tgt := 38) dX8_takeJoin_15 (by decide) rfl (by omega) (by omega) (fun _ => ?_) (fun h9 => by first | exact h9.elim | (exfalso; omega))
      refine V_aload_n (q := 39) dX8_takeJoin_38 rfl rfl rfl ?_
      refine GX8_100 (q := 42) rfl dX8_takeJoin_39 rfl (by first | assumption | exact up_eq | exact (up_ne (by omega)).trans (by first | assumption | exact up_eq | exact (up_ne (by omega)).trans (by first | assumption | exact up_eq | exact (up_ne (by omega)).trans (by first | assumption | exact up_eq)))) (by omega) (by rfl) ?_
      refine V_istore_n (q := 43) (ls' := [_, _, _, _]) dX8_takeJoin_42 rfl (by decide) rfl ?_
      refine V_iload_n (q := 44) dX8_takeJoin_43 rfl rfl ?_
      refine V_istore_n (q := 45) (ls' := [_, _, _, _]) dX8_takeJoin_44 rfl (by decide) rfl ?_
      exact second k (Nat.le_refl _) t w1 J hD (by rw [Nat.sub_self, Nat.pow_zero, Nat.div_one]) hM1' hF (fun j b1 b2 => absurd b2 (by omega))
    | succ r ih =>
      intro hr v w1 hv hM1 hF
      obtain ⟨a, y, a1, a2, a3, a4, a5, a6, a7, a8, a9, a10⟩ := h4 v r hv
      have hv5 := hlt v _ hv
      obtain ⟨c0, cQ, cP, cB, cJ, cn⟩ := hM1
      refine V_aload_n (q := 8) dX8_takeJoin_7 rfl rfl rfl ?_
      refine GX8_34 (q := 11) rfl dX8_takeJoin_8 rfl (by first | assumption | exact up_eq | exact (up_ne (by omega)).trans (by first | assumption | exact up_eq | exact (up_ne (by omega)).trans (by first | assumption | exact up_eq | exact (up_ne (by omega)).trans (by first | assumption | exact up_eq)))) (by omega) (by rfl) ?_
      refine V_iload_n (q := 12) dX8_takeJoin_11 rfl rfl ?_
      refine V_ialdN (q := 13) dX8_takeJoin_12 rfl (by first | assumption | exact up_eq | exact (up_ne (by omega)).trans (by first | assumption | exact up_eq | exact (up_ne (by omega)).trans (by first | assumption | exact up_eq | exact (up_ne (by omega)).trans (by first | assumption | exact up_eq)))) (by omega) (by omega) (by omega) rfl a9 ?_
      refine V_bipush (q := 15) (v := nI 9) dX8_takeJoin_13 rfl (by decide) ?_
      refine V_icmpN_gt (q := 18) (tgt := 38) dX8_takeJoin_15 (by decide) rfl (by omega) (by omega) (fun h9 => by first | exact h9.elim | exact absurd h9 (by assumption) | (exfalso; omega)) (fun _ => ?_)
      refine V_aload_n (q := 19) dX8_takeJoin_18 rfl rfl rfl ?_
      refine V_dup (q := 20) dX8_takeJoin_19 rfl rfl ?_
      refine GX8_100 (q := 23) rfl dX8_takeJoin_20 rfl (by first | assumption | exact up_eq | exact (up_ne (by omega)).trans (by first | assumption | exact up_eq | exact (up_ne (by omega)).trans (by first | assumption | exact up_eq | exact (up_ne (by omega)).trans (by first | assumption | exact up_eq)))) (by omega) (by rfl) ?_
      refine V_iconst (q := 24) (v := nI 1) dX8_takeJoin_23 rfl (by decide) ?_
      refine V_iadd (q := 25) dX8_takeJoin_24 rfl ((nI_add (k - (r + 1)) 1).trans (congrArg nI (by omega : k - (r + 1) + 1 = k - r))) ?_
      refine PX8_100 (q := 28) (fs' := [_, _, _, _, _, _, _, _, _, _, _, _, _, _, _, _, _, _, _, _, _, _, _, _, _, _]) rfl dX8_takeJoin_25 rfl (by first | assumption | exact up_eq | exact (up_ne (by omega)).trans (by first | assumption | exact up_eq | exact (up_ne (by omega)).trans (by first | assumption | exact up_eq | exact (up_ne (by omega)).trans (by first | assumption | exact up_eq)))) (by omega) (by exact (Nat.le_of_ble_eq_true rfl)) (by rfl) ?_
      try rw [up_up]
      refine V_aload_n (q := 29) dX8_takeJoin_28 rfl rfl rfl ?_
      refine GX8_31 (q := 32) rfl dX8_takeJoin_29 rfl (by first | assumption | exact up_eq | exact (up_ne (by omega)).trans (by first | assumption | exact up_eq | exact (up_ne (by omega)).trans (by first | assumption | exact up_eq | exact (up_ne (by omega)).trans (by first | assumption | exact up_eq)))) (by omega) (by rfl) ?_
      refine V_iload_n (q := 33) dX8_takeJoin_32 rfl rfl ?_
      refine V_ialdN (q := 34) dX8_takeJoin_33 rfl (by first | assumption | exact up_eq | exact (up_ne (by omega)).trans (by first | assumption | exact up_eq | exact (up_ne (by omega)).trans (by first | assumption | exact up_eq | exact (up_ne (by omega)).trans (by first | assumption | exact up_eq)))) (by omega) (by omega) (by omega) rfl a10 ?_
      refine V_istore_n (q := 35) (ls' := [_, _, _, _]) dX8_takeJoin_34 rfl (by decide) rfl ?_
      refine V_goto (tgt := 7) dX8_takeJoin_35 (by decide) ?_
      exact ih (by omega) (q a) _ a3 ⟨up_eq, (up_ne (by omega)).trans cQ, (up_ne (by omega)).trans cP, (up_ne (by omega)).trans cB, (up_ne (by omega)).trans cJ, cn⟩ (fun i b1 b2 => (up_ne (by omega)).trans (hF i b1 b2))
  refine Ct.ofs (M := MX8_takeJoin) (ls := [some _, some _, none, none]) (by decide +kernel) (by exact (Nat.le_of_ble_eq_true rfl)) (by rfl) (by rfl) (by rfl) ?_
  refine V_aload_n (q := 1) dX8_takeJoin_0 rfl rfl rfl ?_
  refine V_iconst (q := 2) (v := nI 0) dX8_takeJoin_1 rfl (by decide) ?_
  refine PX8_100 (q := 5) (fs' := [_, _, _, _, _, _, _, _, _, _, _, _, _, _, _, _, _, _, _, _, _, _, _, _, _, _]) rfl dX8_takeJoin_2 rfl (by first | assumption | exact up_eq | exact (up_ne (by omega)).trans (by first | assumption | exact up_eq | exact (up_ne (by omega)).trans (by first | assumption | exact up_eq | exact (up_ne (by omega)).trans (by first | assumption | exact up_eq)))) (by omega) (by exact (Nat.le_of_ble_eq_true rfl)) (by rfl) ?_
  try rw [up_up]
  refine V_iload_n (q := 6) dX8_takeJoin_5 rfl rfl ?_
  refine V_istore_n (q := 7) (ls' := [_, _, _, _]) dX8_takeJoin_6 rfl (by decide) rfl ?_
  exact first k (Nat.le_refl _) t _ hD ⟨by rw [Nat.sub_self]; exact up_eq, (up_ne (by omega)).trans mQ, (up_ne (by omega)).trans mP, (up_ne (by omega)).trans mB, (up_ne (by omega)).trans mJ, mn⟩ (fun i b1 b2 => up_ne (by omega))
theorem m_findJoin (hM : QMd g w n p K Q P B J) {s t k : Nat} (hs : s < 512) (ht : t < 512) (hk : Dst s t k) (hk9 : k ≤ 9) : CtI g l MX8_findJoin 1 [rf g p, .int (nI s), .int (nI t)] w n (fun y w' => y = 1 ∧ (∃ Q' P' B' J', QMd g w' n p (setLn K (nI k)) Q' P' B' J' ∧ ∀ j, j < k → J' j = nI (digN (codN s t) k j)) ∧ FrQ w w' p) := by
  have post : ∀ (D : Nat → Option Nat) (q : Nat → Nat) m nx hc C (Q1 P1 B1 : Nat → Int32) (w1 : HW) (x y : Value), SIv s D q m nx hc C B1 P1 → D t ≠ none → QMd g w1 n p K Q1 P1 B1 J → FrQ w w1 p → V g l MX8_findJoin (rmd 1 0 0) (FinM g (qI (fun y w' => y = 1 ∧ (∃ Q' P' B' J', QMd g w' n p (setLn K (nI k)) Q' P' B' J' ∧ ∀ j, j < k → J' j = nI (digN (codN s t) k j)) ∧ FrQ w w' p) n) 0 0) 152 [some (rf g p), some (.int (nI s)), some (.int (nI t)), none, none, none, none] [] w1 n 0 0 := by
    intro D q m nx hc C Q1 P1 B1 w1 x y hI hne hM1 hF
    obtain ⟨k', hk'⟩ : ∃ k', D t = some k' := by
      cases hh : D t with
      | none => exact absurd hh hne
      | some k' => exact ⟨k', rfl⟩
    obtain ⟨rfl, hcod⟩ := hI.goal hk hk'
    have hM1' := hM1
    obtain ⟨c0, cQ, cP, cB, cJ, cn⟩ := hM1
    rcases hI.by_neg ht with ⟨-, e⟩ | ⟨z, hz, hb, -⟩
    · exact absurd e hne
    refine V_aload_n (q := 153) dX8_findJoin_152 rfl rfl rfl ?_
    refine GX8_34 (q := 156) rfl dX8_findJoin_153 rfl (by first | assumption | exact up_eq | exact (up_ne (by omega)).trans (by first | assumption | exact up_eq | exact (up_ne (by omega)).trans (by first | assumption | exact up_eq | exact (up_ne (by omega)).trans (by first | assumption | exact up_eq)))) (by omega) (by rfl) ?_
    refine V_iload_n (q := 157) dX8_findJoin_156 rfl rfl ?_
    refine V_ialdN (q := 158) dX8_findJoin_157 rfl (by first | assumption | exact up_eq | exact (up_ne (by omega)).trans (by first | assumption | exact up_eq | exact (up_ne (by omega)).trans (by first | assumption | exact up_eq | exact (up_ne (by omega)).trans (by first | assumption | exact up_eq)))) (by omega) (by omega) (by omega) rfl hb ?_
    refine V_ifN_ge (q := 161) (tgt := 163) dX8_findJoin_158 (by decide) rfl (by omega) (fun _ => ?_) (fun h9 => by first | exact h9.elim | (exfalso; omega))
    refine V_aload_n (q := 164) dX8_findJoin_163 rfl rfl rfl ?_
    refine V_iload_n (q := 165) dX8_findJoin_164 rfl rfl ?_
    refine CvX8_96 (q := 168) rfl dX8_findJoin_165 rfl (m_takeJoin hM1' hI ht hs hk' hk9) ⟨(Nat.le_of_ble_eq_true rfl), (Nat.le_of_ble_eq_true rfl)⟩ (Nat.le_of_ble_eq_true rfl) (by first | assumption | exact up_eq | exact (up_ne (by omega)).trans (by first | assumption | exact up_eq | exact (up_ne (by omega)).trans (by first | assumption | exact up_eq | exact (up_ne (by omega)).trans (by first | assumption | exact up_eq)))) (by omega) (Nat.zero_le _) (Nat.zero_le _) (fun w2 hw2 => ?_)
    obtain ⟨⟨J', d1, d2⟩, d3⟩ := hw2
    refine V_iconst (q := 169) (v := nI 1) dX8_findJoin_168 rfl (by decide) ?_
    exact V_zret dX8_findJoin_169 rfl (rfl) (Nat.le_of_ble_eq_true rfl) (Nat.le_of_ble_eq_true rfl) (⟨rfl, _, rfl, rfl, ⟨Q1, P1, B1, J', d1, by rw [hcod]; exact d2⟩, hF.tr d3⟩)
  have main : ∀ nx, nx ≤ 512 → ∀ (D : Nat → Option Nat) (q : Nat → Nat) m C (Q1 P1 B1 : Nat → Int32) (w1 : HW), SIv s D q m nx 0 C B1 P1 → (∀ i, i < m → Q1 i = nI (q i)) → QMd g w1 n p K Q1 P1 B1 J → FrQ w w1 p → V g l MX8_findJoin (rmd 1 0 0) (FinM g (qI (fun y w' => y = 1 ∧ (∃ Q' P' B' J', QMd g w' n p (setLn K (nI k)) Q' P' B' J' ∧ ∀ j, j < k → J' j = nI (digN (codN s t) k j)) ∧ FrQ w w' p) n) 0 0) 42 [some (rf g p), some (.int (nI s)), some (.int (nI t)), some (.int (nI m)), some (.int (nI nx)), none, none] [] (w1) n 0 0 := by
    refine loopU (fun nx => ∀ (D : Nat → Option Nat) (q : Nat → Nat) m C (Q1 P1 B1 : Nat → Int32) (w1 : HW), SIv s D q m nx 0 C B1 P1 → (∀ i, i < m → Q1 i = nI (q i)) → QMd g w1 n p K Q1 P1 B1 J → FrQ w w1 p → V g l MX8_findJoin (rmd 1 0 0) (FinM g (qI (fun y w' => y = 1 ∧ (∃ Q' P' B' J', QMd g w' n p (setLn K (nI k)) Q' P' B' J' ∧ ∀ j, j < k → J' j = nI (digN (codN s t) k j)) ∧ FrQ w w' p) n) 0 0) 42 [some (rf g p), some (.int (nI s)), some (.int (nI t)), some (.int (nI m)), some (.int (nI nx)), none, none] [] (w1) n 0 0) 512 ?_ ?_
    · intro D q m C Q1 P1 B1 w1 hI hQ hM1 hF
      have hm := hI.1.m_le
      have hnm := hI.1.2.2.2.1
      have em : m = 512 := by omega
      subst em
      refine V_iload (q := 44) dX8_findJoin_42 rfl rfl ?_
      refine V_iload_n (q := 45) dX8_findJoin_44 rfl rfl ?_
      refine V_icmpN_ge (q := 48) (tgt := 152) dX8_findJoin_45 (by decide) rfl (by omega) (by omega) (fun _ => ?_) (fun h9 => by first | exact h9.elim | (exfalso; omega))
      refine V_fg 3 (ls2 := [_, _, _, none, _, _, _]) (by rfl) ?_
      refine V_fg 4 (ls2 := [_, _, _, _, none, _, _]) (by rfl) ?_
      exact post D q 512 512 0 C Q1 P1 B1 w1 .null .null hI (hI.found hk) hM1 hF
    · intro nx hnx ih D q m C Q1 P1 B1 w1 hI hQ hM1 hF
      have hm := hI.1.m_le
      have hnm := hI.1.2.2.2.1
      have hM1' := hM1
      obtain ⟨c0, cQ, cP, cB, cJ, cn⟩ := hM1
      rcases Nat.lt_or_ge nx m with z | z
      · rcases hI.by_neg ht with ⟨hb, hDt⟩ | ⟨x, hx, hb, kk, hDt⟩
        · skip
          refine V_iload (q := 44) dX8_findJoin_42 rfl rfl ?_
          refine V_iload_n (q := 45) dX8_findJoin_44 rfl rfl ?_
          refine V_icmpN_ge (q := 48) (tgt := 152) dX8_findJoin_45 (by decide) rfl (by omega) (by omega) (fun h9 => by first | exact h9.elim | exact absurd h9 (by assumption) | (exfalso; omega)) (fun _ => ?_)
          refine V_aload_n (q := 49) dX8_findJoin_48 rfl rfl rfl ?_
          refine GX8_34 (q := 52) rfl dX8_findJoin_49 rfl (by first | assumption | exact up_eq | exact (up_ne (by omega)).trans (by first | assumption | exact up_eq | exact (up_ne (by omega)).trans (by first | assumption | exact up_eq | exact (up_ne (by omega)).trans (by first | assumption | exact up_eq)))) (by omega) (by rfl) ?_
          refine V_iload_n (q := 53) dX8_findJoin_52 rfl rfl ?_
          refine V_ialdN (q := 54) dX8_findJoin_53 rfl (by first | assumption | exact up_eq | exact (up_ne (by omega)).trans (by first | assumption | exact up_eq | exact (up_ne (by omega)).trans (by first | assumption | exact up_eq | exact (up_ne (by omega)).trans (by first | assumption | exact up_eq)))) (by omega) (by omega) (by omega) rfl (by rfl) ?_
          refine V_if_ge (q := 57) (tgt := 152) dX8_findJoin_54 (by decide) rfl (fun h9 => absurd h9 (fun q => (fa_of_lt hb).2.1 q)) (fun _ => ?_)
          refine V_iconst (q := 58) (v := nI 0) dX8_findJoin_57 rfl (by decide) ?_
          refine V_istore (q := 60) (ls' := [_, _, _, _, _, _, _]) dX8_findJoin_58 rfl (by decide) rfl ?_
          have hu : q nx < 512 := (hI.1.2.2.2.2.1 nx z).1
          have inner : ∀ hc, hc ≤ 10 → ∀ (D1 : Nat → Option Nat) (q1 : Nat → Nat) m1 C1 (Q2 P2 B2 : Nat → Int32) (w2 : HW), nx < m1 → SIv s D1 q1 m1 nx hc C1 B2 P2 → (∀ i, i < m1 → Q2 i = nI (q1 i)) → QMd g w2 n p K Q2 P2 B2 J → FrQ w w2 p → V g l MX8_findJoin (rmd 1 0 0) (FinM g (qI (fun y w' => y = 1 ∧ (∃ Q' P' B' J', QMd g w' n p (setLn K (nI k)) Q' P' B' J' ∧ ∀ j, j < k → J' j = nI (digN (codN s t) k j)) ∧ FrQ w w' p) n) 0 0) 60 [some (rf g p), some (.int (nI s)), some (.int (nI t)), some (.int (nI m1)), some (.int (nI nx)), some (.int (nI hc)), none] [] (w2) n 0 0 := by
            refine loopU (fun hc => ∀ (D1 : Nat → Option Nat) (q1 : Nat → Nat) m1 C1 (Q2 P2 B2 : Nat → Int32) (w2 : HW), nx < m1 → SIv s D1 q1 m1 nx hc C1 B2 P2 → (∀ i, i < m1 → Q2 i = nI (q1 i)) → QMd g w2 n p K Q2 P2 B2 J → FrQ w w2 p → V g l MX8_findJoin (rmd 1 0 0) (FinM g (qI (fun y w' => y = 1 ∧ (∃ Q' P' B' J', QMd g w' n p (setLn K (nI k)) Q' P' B' J' ∧ ∀ j, j < k → J' j = nI (digN (codN s t) k j)) ∧ FrQ w w' p) n) 0 0) 60 [some (rf g p), some (.int (nI s)), some (.int (nI t)), some (.int (nI m1)), some (.int (nI nx)), some (.int (nI hc)), none] [] (w2) n 0 0) 10 ?_ ?_
            · intro D1 q1 m1 C1 Q2 P2 B2 w2 hnm1 hI1 hQ1 hM2 hF2
              refine V_iload (q := 62) dX8_findJoin_60 rfl rfl ?_
              refine V_bipush (q := 64) (v := nI 9) dX8_findJoin_62 rfl (by decide) ?_
              refine V_icmpN_gt (q := 67) (tgt := 146) dX8_findJoin_64 (by decide) rfl (by omega) (by omega) (fun _ => ?_) (fun h9 => by first | exact h9.elim | (exfalso; omega))
              refine V_iinc (q := 149) (ls' := [_, _, _, _, _, _, _]) dX8_findJoin_146 rfl (by decide) rfl (by first | exact inc1 _ | rfl) rfl ?_
              refine V_goto (tgt := 42) dX8_findJoin_149 (by decide) ?_
              refine V_fg 5 (ls2 := [_, _, _, _, _, none, _]) (by rfl) ?_
              exact ih D1 q1 m1 C1 Q2 P2 B2 w2 (hI1.next hnm1) hQ1 hM2 hF2
            · intro hc hhc ih2 D1 q1 m1 C1 Q2 P2 B2 w2 hnm1 hI1 hQ1 hM2 hF2
              have hm1 := hI1.1.m_le
              have hM2' := hM2
              obtain ⟨d0, dQ, dP, dB, dJ, dn⟩ := hM2
              have hu1 : q1 nx < 512 := (hI1.1.2.2.2.2.1 nx hnm1).1
              have hqn := hQ1 nx hnm1
              have hb5 : behN (q1 nx) hc < 512 := behN_lt hu1 (by omega)
              refine V_iload (q := 62) dX8_findJoin_60 rfl rfl ?_
              refine V_bipush (q := 64) (v := nI 9) dX8_findJoin_62 rfl (by decide) ?_
              refine V_icmpN_gt (q := 67) (tgt := 146) dX8_findJoin_64 (by decide) rfl (by omega) (by omega) (fun h9 => by first | exact h9.elim | exact absurd h9 (by assumption) | (exfalso; omega)) (fun _ => ?_)
              refine V_aload_n (q := 68) dX8_findJoin_67 rfl rfl rfl ?_
              refine GX8_28 (q := 71) rfl dX8_findJoin_68 rfl (by first | assumption | exact up_eq | exact (up_ne (by omega)).trans (by first | assumption | exact up_eq | exact (up_ne (by omega)).trans (by first | assumption | exact up_eq | exact (up_ne (by omega)).trans (by first | assumption | exact up_eq)))) (by omega) (by rfl) ?_
              refine V_iload (q := 73) dX8_findJoin_71 rfl rfl ?_
              refine V_ialdN (q := 74) dX8_findJoin_73 rfl (by first | assumption | exact up_eq | exact (up_ne (by omega)).trans (by first | assumption | exact up_eq | exact (up_ne (by omega)).trans (by first | assumption | exact up_eq | exact (up_ne (by omega)).trans (by first | assumption | exact up_eq)))) (by omega) (by omega) (by omega) rfl hqn ?_
              refine V_iload (q := 76) dX8_findJoin_74 rfl rfl ?_
              refine CrX8_89 (q := 79) rfl dX8_findJoin_76 rfl (m_behind hu1 (h := hc) (by omega)) ⟨(Nat.le_of_ble_eq_true rfl), (Nat.le_of_ble_eq_true rfl)⟩ (Nat.le_of_ble_eq_true rfl) (Nat.zero_le _) (Nat.zero_le _) ?_
              refine V_istore (q := 81) (ls' := [_, _, _, _, _, _, _]) dX8_findJoin_79 rfl (by decide) rfl ?_
              refine V_aload_n (q := 82) dX8_findJoin_81 rfl rfl rfl ?_
              refine GX8_28 (q := 85) rfl dX8_findJoin_82 rfl (by first | assumption | exact up_eq | exact (up_ne (by omega)).trans (by first | assumption | exact up_eq | exact (up_ne (by omega)).trans (by first | assumption | exact up_eq | exact (up_ne (by omega)).trans (by first | assumption | exact up_eq)))) (by omega) (by rfl) ?_
              refine V_iload (q := 87) dX8_findJoin_85 rfl rfl ?_
              refine V_ialdN (q := 88) dX8_findJoin_87 rfl (by first | assumption | exact up_eq | exact (up_ne (by omega)).trans (by first | assumption | exact up_eq | exact (up_ne (by omega)).trans (by first | assumption | exact up_eq | exact (up_ne (by omega)).trans (by first | assumption | exact up_eq)))) (by omega) (by omega) (by omega) rfl hqn ?_
              refine V_iload (q := 90) dX8_findJoin_88 rfl rfl ?_
              refine CrX8_92 (q := 93) rfl dX8_findJoin_90 rfl (m_can hu1 (h := hc) (by omega)) ⟨(Nat.le_of_ble_eq_true rfl), (Nat.le_of_ble_eq_true rfl)⟩ (Nat.le_of_ble_eq_true rfl) (Nat.zero_le _) (Nat.zero_le _) ?_
              by_cases hcan : canN (q1 nx) hc
              · skip
                refine V_topi (if_pos hcan) ?_
                refine V_if_eq (q := 96) (tgt := 140) dX8_findJoin_93 (by decide) rfl (fun h9 => absurd h9 (by decide)) (fun _ => ?_)
                rcases hI1.by_neg hb5 with ⟨hb2, hDn⟩ | ⟨x2, hx2, hb2, kk2, hDs2⟩
                · have hfree := hI1.1.free hb5 hDn
                  obtain ⟨dd, hdd⟩ := (hI1.1.2.2.2.2.1 nx hnm1).2
                  refine V_aload_n (q := 97) dX8_findJoin_96 rfl rfl rfl ?_
                  refine GX8_34 (q := 100) rfl dX8_findJoin_97 rfl (by first | assumption | exact up_eq | exact (up_ne (by omega)).trans (by first | assumption | exact up_eq | exact (up_ne (by omega)).trans (by first | assumption | exact up_eq | exact (up_ne (by omega)).trans (by first | assumption | exact up_eq)))) (by omega) (by rfl) ?_
                  refine V_iload (q := 102) dX8_findJoin_100 rfl rfl ?_
                  refine V_ialdN (q := 103) dX8_findJoin_102 rfl (by first | assumption | exact up_eq | exact (up_ne (by omega)).trans (by first | assumption | exact up_eq | exact (up_ne (by omega)).trans (by first | assumption | exact up_eq | exact (up_ne (by omega)).trans (by first | assumption | exact up_eq)))) (by omega) (by omega) (by omega) rfl (by rfl) ?_
                  refine V_if_ge (q := 106) (tgt := 140) dX8_findJoin_103 (by decide) rfl (fun h9 => absurd h9 (fun q => (fa_of_lt hb2).2.1 q)) (fun _ => ?_)
                  refine V_aload_n (q := 107) dX8_findJoin_106 rfl rfl rfl ?_
                  refine GX8_34 (q := 110) rfl dX8_findJoin_107 rfl (by first | assumption | exact up_eq | exact (up_ne (by omega)).trans (by first | assumption | exact up_eq | exact (up_ne (by omega)).trans (by first | assumption | exact up_eq | exact (up_ne (by omega)).trans (by first | assumption | exact up_eq)))) (by omega) (by rfl) ?_
                  refine V_iload (q := 112) dX8_findJoin_110 rfl rfl ?_
                  refine V_iload (q := 114) dX8_findJoin_112 rfl rfl ?_
                  refine V_iastN (q := 115) dX8_findJoin_114 rfl (by first | assumption | exact up_eq | exact (up_ne (by omega)).trans (by first | assumption | exact up_eq | exact (up_ne (by omega)).trans (by first | assumption | exact up_eq | exact (up_ne (by omega)).trans (by first | assumption | exact up_eq)))) (by omega) (by omega) (by omega) rfl (by rfl) ?_
                  refine V_aload_n (q := 116) dX8_findJoin_115 rfl rfl rfl ?_
                  refine GX8_31 (q := 119) rfl dX8_findJoin_116 rfl (by first | assumption | exact up_eq | exact (up_ne (by omega)).trans (by first | assumption | exact up_eq | exact (up_ne (by omega)).trans (by first | assumption | exact up_eq | exact (up_ne (by omega)).trans (by first | assumption | exact up_eq)))) (by omega) (by rfl) ?_
                  refine V_iload (q := 121) dX8_findJoin_119 rfl rfl ?_
                  refine V_aload_n (q := 122) dX8_findJoin_121 rfl rfl rfl ?_
                  refine GX8_28 (q := 125) rfl dX8_findJoin_122 rfl (by first | assumption | exact up_eq | exact (up_ne (by omega)).trans (by first | assumption | exact up_eq | exact (up_ne (by omega)).trans (by first | assumption | exact up_eq | exact (up_ne (by omega)).trans (by first | assumption | exact up_eq)))) (by omega) (by rfl) ?_
                  refine V_iload (q := 127) dX8_findJoin_125 rfl rfl ?_
                  refine V_ialdN (q := 128) dX8_findJoin_127 rfl (by first | assumption | exact up_eq | exact (up_ne (by omega)).trans (by first | assumption | exact up_eq | exact (up_ne (by omega)).trans (by first | assumption | exact up_eq | exact (up_ne (by omega)).trans (by first | assumption | exact up_eq)))) (by omega) (by omega) (by omega) rfl hqn ?_
                  refine V_iastN (q := 129) dX8_findJoin_128 rfl (by first | assumption | exact up_eq | exact (up_ne (by omega)).trans (by first | assumption | exact up_eq | exact (up_ne (by omega)).trans (by first | assumption | exact up_eq | exact (up_ne (by omega)).trans (by first | assumption | exact up_eq)))) (by omega) (by omega) (by omega) rfl (by rfl) ?_
                  refine V_aload_n (q := 130) dX8_findJoin_129 rfl rfl rfl ?_
                  refine GX8_28 (q := 133) rfl dX8_findJoin_130 rfl (by first | assumption | exact up_eq | exact (up_ne (by omega)).trans (by first | assumption | exact up_eq | exact (up_ne (by omega)).trans (by first | assumption | exact up_eq | exact (up_ne (by omega)).trans (by first | assumption | exact up_eq)))) (by omega) (by rfl) ?_
                  refine V_iload_n (q := 134) dX8_findJoin_133 rfl rfl ?_
                  refine V_iload (q := 136) dX8_findJoin_134 rfl rfl ?_
                  refine V_iastN (q := 137) dX8_findJoin_136 rfl (by first | assumption | exact up_eq | exact (up_ne (by omega)).trans (by first | assumption | exact up_eq | exact (up_ne (by omega)).trans (by first | assumption | exact up_eq | exact (up_ne (by omega)).trans (by first | assumption | exact up_eq)))) (by omega) (by omega) (by omega) rfl (by rfl) ?_
                  refine V_iinc (q := 140) (ls' := [_, _, _, _, _, _, _]) dX8_findJoin_137 rfl (by decide) rfl (by first | exact inc1 _ | rfl) rfl ?_
                  refine V_iinc (q := 143) (ls' := [_, _, _, _, _, _, _]) dX8_findJoin_140 rfl (by decide) rfl (by first | exact inc1 _ | rfl) rfl ?_
                  refine V_goto (tgt := 60) dX8_findJoin_143 (by decide) ?_
                  refine V_fg 6 (ls2 := [_, _, _, _, _, _, none]) (by rfl) ?_
                  have hadd := hI1.add hnm1 hdd (by omega) hcan hDn (By' := upd B2 (behN (q1 nx) hc) (nI hc)) (Fr' := upd P2 (behN (q1 nx) hc) (nI (q1 nx))) updI updI (fun v hv => updN hv) (fun v hv => updN hv)
                  refine ih2 _ _ (m1 + 1) _ (upd Q2 m1 (nI (behN (q1 nx) hc))) _ _ _ (by omega) hadd (fun i hi => ?_) ⟨?_, ?_, ?_, ?_, ?_, dn⟩ (fun i b1 b2 => ?_)
                  · unfold upQ
                    by_cases e : i = m1
                    · rw [e, updI, if_pos rfl]
                    · rw [updN e, if_neg e]; exact hQ1 i (by omega)
                  · exact (up_ne (by omega)).trans ((up_ne (by omega)).trans ((up_ne (by omega)).trans d0))
                  · exact up_eq
                  · exact (up_ne (by omega)).trans up_eq
                  · exact (up_ne (by omega)).trans ((up_ne (by omega)).trans up_eq)
                  · exact (up_ne (by omega)).trans ((up_ne (by omega)).trans ((up_ne (by omega)).trans dJ))
                  · exact (up_ne (by omega)).trans ((up_ne (by omega)).trans ((up_ne (by omega)).trans (hF2 i b1 b2)))
                · skip
                  refine V_aload_n (q := 97) dX8_findJoin_96 rfl rfl rfl ?_
                  refine GX8_34 (q := 100) rfl dX8_findJoin_97 rfl (by first | assumption | exact up_eq | exact (up_ne (by omega)).trans (by first | assumption | exact up_eq | exact (up_ne (by omega)).trans (by first | assumption | exact up_eq | exact (up_ne (by omega)).trans (by first | assumption | exact up_eq)))) (by omega) (by rfl) ?_
                  refine V_iload (q := 102) dX8_findJoin_100 rfl rfl ?_
                  refine V_ialdN (q := 103) dX8_findJoin_102 rfl (by first | assumption | exact up_eq | exact (up_ne (by omega)).trans (by first | assumption | exact up_eq | exact (up_ne (by omega)).trans (by first | assumption | exact up_eq | exact (up_ne (by omega)).trans (by first | assumption | exact up_eq)))) (by omega) (by omega) (by omega) rfl hb2 ?_
                  refine V_ifN_ge (q := 106) (tgt := 140) dX8_findJoin_103 (by decide) rfl (by omega) (fun _ => ?_) (fun h9 => by first | exact h9.elim | (exfalso; omega))
                  refine V_iinc (q := 143) (ls' := [_, _, _, _, _, _, _]) dX8_findJoin_140 rfl (by decide) rfl (by first | exact inc1 _ | rfl) rfl ?_
                  refine V_goto (tgt := 60) dX8_findJoin_143 (by decide) ?_
                  refine V_fg 6 (ls2 := [_, _, _, _, _, _, none]) (by rfl) ?_
                  exact ih2 D1 q1 m1 C1 Q2 P2 B2 w2 hnm1 (hI1.old (fun _ _ => by rw [hDs2]; exact fun q => by cases q)) hQ1 hM2' hF2
              · skip
                refine V_topi (if_neg hcan) ?_
                refine V_if_eq (q := 96) (tgt := 140) dX8_findJoin_93 (by decide) rfl (fun _ => ?_) (fun h9 => absurd rfl h9)
                refine V_iinc (q := 143) (ls' := [_, _, _, _, _, _, _]) dX8_findJoin_140 rfl (by decide) rfl (by first | exact inc1 _ | rfl) rfl ?_
                refine V_goto (tgt := 60) dX8_findJoin_143 (by decide) ?_
                refine V_fg 6 (ls2 := [_, _, _, _, _, _, none]) (by rfl) ?_
                exact ih2 D1 q1 m1 C1 Q2 P2 B2 w2 hnm1 (hI1.old (fun _ q => absurd q hcan)) hQ1 hM2' hF2
          exact inner 0 (Nat.zero_le _) D q m C Q1 P1 B1 w1 z hI hQ hM1' hF
        · skip
          refine V_iload (q := 44) dX8_findJoin_42 rfl rfl ?_
          refine V_iload_n (q := 45) dX8_findJoin_44 rfl rfl ?_
          refine V_icmpN_ge (q := 48) (tgt := 152) dX8_findJoin_45 (by decide) rfl (by omega) (by omega) (fun h9 => by first | exact h9.elim | exact absurd h9 (by assumption) | (exfalso; omega)) (fun _ => ?_)
          refine V_aload_n (q := 49) dX8_findJoin_48 rfl rfl rfl ?_
          refine GX8_34 (q := 52) rfl dX8_findJoin_49 rfl (by first | assumption | exact up_eq | exact (up_ne (by omega)).trans (by first | assumption | exact up_eq | exact (up_ne (by omega)).trans (by first | assumption | exact up_eq | exact (up_ne (by omega)).trans (by first | assumption | exact up_eq)))) (by omega) (by rfl) ?_
          refine V_iload_n (q := 53) dX8_findJoin_52 rfl rfl ?_
          refine V_ialdN (q := 54) dX8_findJoin_53 rfl (by first | assumption | exact up_eq | exact (up_ne (by omega)).trans (by first | assumption | exact up_eq | exact (up_ne (by omega)).trans (by first | assumption | exact up_eq | exact (up_ne (by omega)).trans (by first | assumption | exact up_eq)))) (by omega) (by omega) (by omega) rfl hb ?_
          refine V_ifN_ge (q := 57) (tgt := 152) dX8_findJoin_54 (by decide) rfl (by omega) (fun _ => ?_) (fun h9 => by first | exact h9.elim | (exfalso; omega))
          refine V_fg 3 (ls2 := [_, _, _, none, _, _, _]) (by rfl) ?_
          refine V_fg 4 (ls2 := [_, _, _, _, none, _, _]) (by rfl) ?_
          exact post D q m nx 0 C Q1 P1 B1 w1 .null .null hI (by rw [hDt]; exact fun q => by cases q) hM1' hF
      · have em : m = nx := by omega
        subst em
        refine V_iload (q := 44) dX8_findJoin_42 rfl rfl ?_
        refine V_iload_n (q := 45) dX8_findJoin_44 rfl rfl ?_
        refine V_icmpN_ge (q := 48) (tgt := 152) dX8_findJoin_45 (by decide) rfl (by omega) (by omega) (fun _ => ?_) (fun h9 => by first | exact h9.elim | (exfalso; omega))
        refine V_fg 3 (ls2 := [_, _, _, none, _, _, _]) (by rfl) ?_
        refine V_fg 4 (ls2 := [_, _, _, _, none, _, _]) (by rfl) ?_
        exact post D q m m 0 C Q1 P1 B1 w1 .null .null hI (hI.found hk) hM1' hF
  obtain ⟨m0, mQ, mP, mB, mJ, mn⟩ := hM
  refine Ct.ofs (M := MX8_findJoin) (ls := [some _, some _, some _, none, none, none, none]) (by decide +kernel) (by exact (Nat.le_of_ble_eq_true rfl)) (by rfl) (by rfl) (by rfl) ?_
  refine V_iconst (q := 1) (v := nI 0) dX8_findJoin_0 rfl (by decide) ?_
  refine V_istore_n (q := 2) (ls' := [_, _, _, _, _, _, _]) dX8_findJoin_1 rfl (by decide) rfl ?_
  have fill : ∀ i, i ≤ 512 → ∀ B1 w1, (∀ v, v < i → B1 v = -1) → QMd g w1 n p K Q P B1 J → FrQ w w1 p → V g l MX8_findJoin (rmd 1 0 0) (FinM g (qI (fun y w' => y = 1 ∧ (∃ Q' P' B' J', QMd g w' n p (setLn K (nI k)) Q' P' B' J' ∧ ∀ j, j < k → J' j = nI (digN (codN s t) k j)) ∧ FrQ w w' p) n) 0 0) 2 [some (rf g p), some (.int (nI s)), some (.int (nI t)), some (.int (nI i)), none, none, none] [] (w1) n 0 0 := by
    refine loopU (fun i => ∀ B1 w1, (∀ v, v < i → B1 v = -1) → QMd g w1 n p K Q P B1 J → FrQ w w1 p → V g l MX8_findJoin (rmd 1 0 0) (FinM g (qI (fun y w' => y = 1 ∧ (∃ Q' P' B' J', QMd g w' n p (setLn K (nI k)) Q' P' B' J' ∧ ∀ j, j < k → J' j = nI (digN (codN s t) k j)) ∧ FrQ w w' p) n) 0 0) 2 [some (rf g p), some (.int (nI s)), some (.int (nI t)), some (.int (nI i)), none, none, none] [] (w1) n 0 0) 512 ?_ ?_
    · intro B1 w1 hB hM1 hF
      obtain ⟨c0, cQ, cP, cB, cJ, cn⟩ := hM1
      refine V_iload_n (q := 3) dX8_findJoin_2 rfl rfl ?_
      refine V_sipush (q := 6) (v := nI 512) dX8_findJoin_3 rfl (by decide) ?_
      refine V_icmpN_ge (q := 9) (tgt := 22) dX8_findJoin_6 (by decide) rfl (by omega) (by omega) (fun _ => ?_) (fun h9 => by first | exact h9.elim | (exfalso; omega))
      refine V_aload_n (q := 23) dX8_findJoin_22 rfl rfl rfl ?_
      refine GX8_28 (q := 26) rfl dX8_findJoin_23 rfl (by first | assumption | exact up_eq | exact (up_ne (by omega)).trans (by first | assumption | exact up_eq | exact (up_ne (by omega)).trans (by first | assumption | exact up_eq | exact (up_ne (by omega)).trans (by first | assumption | exact up_eq)))) (by omega) (by rfl) ?_
      refine V_iconst (q := 27) (v := nI 0) dX8_findJoin_26 rfl (by decide) ?_
      refine V_iload_n (q := 28) dX8_findJoin_27 rfl rfl ?_
      refine V_iastN (q := 29) dX8_findJoin_28 rfl (by first | assumption | exact up_eq | exact (up_ne (by omega)).trans (by first | assumption | exact up_eq | exact (up_ne (by omega)).trans (by first | assumption | exact up_eq | exact (up_ne (by omega)).trans (by first | assumption | exact up_eq)))) (by omega) (by omega) (by omega) rfl (by rfl) ?_
      refine V_aload_n (q := 30) dX8_findJoin_29 rfl rfl rfl ?_
      refine GX8_34 (q := 33) rfl dX8_findJoin_30 rfl (by first | assumption | exact up_eq | exact (up_ne (by omega)).trans (by first | assumption | exact up_eq | exact (up_ne (by omega)).trans (by first | assumption | exact up_eq | exact (up_ne (by omega)).trans (by first | assumption | exact up_eq)))) (by omega) (by rfl) ?_
      refine V_iload_n (q := 34) dX8_findJoin_33 rfl rfl ?_
      refine V_bipush (q := 36) (v := nI 10) dX8_findJoin_34 rfl (by decide) ?_
      refine V_iastN (q := 37) dX8_findJoin_36 rfl (by first | assumption | exact up_eq | exact (up_ne (by omega)).trans (by first | assumption | exact up_eq | exact (up_ne (by omega)).trans (by first | assumption | exact up_eq | exact (up_ne (by omega)).trans (by first | assumption | exact up_eq)))) (by omega) (by omega) (by omega) rfl (by rfl) ?_
      refine V_iconst (q := 38) (v := nI 1) dX8_findJoin_37 rfl (by decide) ?_
      refine V_istore_n (q := 39) (ls' := [_, _, _, _, _, _, _]) dX8_findJoin_38 rfl (by decide) rfl ?_
      refine V_iconst (q := 40) (v := nI 0) dX8_findJoin_39 rfl (by decide) ?_
      refine V_istore (q := 42) (ls' := [_, _, _, _, _, _, _]) dX8_findJoin_40 rfl (by decide) rfl ?_
      refine main 0 (Nat.zero_le _) _ _ 1 _ (upd Q 0 (nI s)) P (upd B1 s (nI 10)) _ (SIv.init hs (fun _ => 0) (fun _ => 0) updI (fun v hv hne => by rw [updN hne]; exact hB v hv)) (fun i hi => ?_) ⟨?_, ?_, ?_, ?_, ?_, cn⟩ (fun i b1 b2 => ?_)
      · have e : i = 0 := by omega
        rw [e, updI]
        rfl
      · exact (up_ne (by omega)).trans ((up_ne (by omega)).trans c0)
      · exact (up_ne (by omega)).trans up_eq
      · exact (up_ne (by omega)).trans ((up_ne (by omega)).trans cP)
      · exact up_eq
      · exact (up_ne (by omega)).trans ((up_ne (by omega)).trans cJ)
      · exact (up_ne (by omega)).trans ((up_ne (by omega)).trans (hF i b1 b2))
    · intro i hi ih B1 w1 hB hM1 hF
      obtain ⟨c0, cQ, cP, cB, cJ, cn⟩ := hM1
      refine V_iload_n (q := 3) dX8_findJoin_2 rfl rfl ?_
      refine V_sipush (q := 6) (v := nI 512) dX8_findJoin_3 rfl (by decide) ?_
      refine V_icmpN_ge (q := 9) (tgt := 22) dX8_findJoin_6 (by decide) rfl (by omega) (by omega) (fun h9 => by first | exact h9.elim | exact absurd h9 (by assumption) | (exfalso; omega)) (fun _ => ?_)
      refine V_aload_n (q := 10) dX8_findJoin_9 rfl rfl rfl ?_
      refine GX8_34 (q := 13) rfl dX8_findJoin_10 rfl (by first | assumption | exact up_eq | exact (up_ne (by omega)).trans (by first | assumption | exact up_eq | exact (up_ne (by omega)).trans (by first | assumption | exact up_eq | exact (up_ne (by omega)).trans (by first | assumption | exact up_eq)))) (by omega) (by rfl) ?_
      refine V_iload_n (q := 14) dX8_findJoin_13 rfl rfl ?_
      refine V_iconst (q := 15) (v := (-1)) dX8_findJoin_14 rfl (by decide) ?_
      refine V_iastN (q := 16) dX8_findJoin_15 rfl (by first | assumption | exact up_eq | exact (up_ne (by omega)).trans (by first | assumption | exact up_eq | exact (up_ne (by omega)).trans (by first | assumption | exact up_eq | exact (up_ne (by omega)).trans (by first | assumption | exact up_eq)))) (by omega) (by omega) (by omega) rfl (by rfl) ?_
      refine V_iinc (q := 19) (ls' := [_, _, _, _, _, _, _]) dX8_findJoin_16 rfl (by decide) rfl (by first | exact inc1 _ | rfl) rfl ?_
      refine V_goto (tgt := 2) dX8_findJoin_19 (by decide) ?_
      refine ih (upd B1 i (-1)) _ (fun v hv => ?_) ⟨(up_ne (by omega)).trans c0, (up_ne (by omega)).trans cQ, (up_ne (by omega)).trans cP, up_eq, (up_ne (by omega)).trans cJ, cn⟩ (fun j b1 b2 => (up_ne (by omega)).trans (hF j b1 b2))
      by_cases e : v = i
      · rw [e, updI]
      · rw [updN e]; exact hB v (by omega)
  exact fill 0 (Nat.zero_le _) B w (fun v hv => absurd hv (Nat.not_lt_zero v)) ⟨m0, mQ, mP, mB, mJ, mn⟩ (fun _ _ _ => rfl)
end MJ
