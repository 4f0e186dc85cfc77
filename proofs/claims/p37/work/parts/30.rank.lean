/-! orders -/
noncomputable def rkK (k : Nat) (row : RowT) : Int32 := if k = 0 then nI row.1 else if k = 2 then nI (maxN row.2 row.1) else if ballI row.2 row.1 = -4 then 1 else - ballI row.2 row.1
def ahB (key : Nat → Int32) (j i : Nat) : Bool := decide (key j < key i ∨ (key j = key i ∧ j < i))
def rnkN (key : Nat → Int32) (c i : Nat) : Nat := fa_cnt (fun j => ahB key j i) c
noncomputable def rnkA (x y : Int32) (N : StT) : Int32 := match idx x 3 with
  | none => -2
  | some k => match idx y (sC N) with
    | none => -1
    | some p => if fa_first (fun i => decide (rnkN (fun j => rkK k (sR N j)) (sC N) i = p)) (sC N) < sC N then nI (fa_first (fun i => decide (rnkN (fun j => rkK k (sR N j)) (sC N) i = p)) (sC N)) else -1
section RK
variable {g : GG} {l : Launch} {w : HW} {n o : Nat} {X : XT} {b : Int32} {N : StT}
theorem c_rankKey {G : Nat → Option Nat} {π LL : Nat → Nat} {FF : Nat → Nat → Int32} (h0 : w o = eO 7 (xfs g o b)) (hn : o + 167 ≤ n) (hF : SdF g w n (o + 1) N G π LL FF) {i k : Nat} (hi : i < sC N) (hk : k < 3) : CtR g l MX7_rankKey 3 [rf g o, .int (nI k), .int (nI i)] w n (.int (rkK k (sR N i))) := by
  have hso := hF.1
  have hsn := hF.2.2.1
  have hc6 := hF.2.2.2.1
  obtain ⟨k1, k2, k3, k4⟩ := hF.2.2.2.2.1 i (by omega)
  obtain ⟨e1, e2, e3⟩ := hF.2.2.2.2.2.2 i hi
  have hrow := k4.1
  have hL8 := k4.2.2.2
  rw [e1] at k4 e3 e2 hL8 hrow
  refine Ct.ofs (M := MX7_rankKey) (ls := [some _, some _, some _, none, none]) (by decide +kernel) (by exact (Nat.le_of_ble_eq_true rfl)) (by rfl) (by rfl) (by rfl) ?_
  refine V_aload_n (q := 1) dX7_rankKey_0 rfl rfl rfl ?_
  refine GX7_10 (q := 4) rfl dX7_rankKey_1 rfl (by first | assumption | exact up_eq | exact (up_ne (by omega)).trans (by first | assumption | exact up_eq | exact (up_ne (by omega)).trans (by first | assumption | exact up_eq | exact (up_ne (by omega)).trans (by first | assumption | exact up_eq)))) (by omega) (by rfl) ?_
  refine V_iload_n (q := 5) dX7_rankKey_4 rfl rfl ?_
  refine CrX7_98 (q := 8) rfl dX7_rankKey_5 rfl (c_rowNum_in hF hi) ⟨(Nat.le_of_ble_eq_true rfl), (Nat.le_of_ble_eq_true rfl)⟩ (Nat.le_of_ble_eq_true rfl) (by first | assumption | exact up_eq | exact (up_ne (by omega)).trans (by first | assumption | exact up_eq | exact (up_ne (by omega)).trans (by first | assumption | exact up_eq | exact (up_ne (by omega)).trans (by first | assumption | exact up_eq)))) (by omega) (Nat.zero_le _) (Nat.zero_le _) ?_
  refine V_astore_n (q := 9) (ls' := [_, _, _, _, _]) dX7_rankKey_8 rfl (by decide) (by rfl) rfl rfl ?_
  refine V_aload_n (q := 10) dX7_rankKey_9 rfl rfl rfl ?_
  refine V_ifnonnull (tgt := 15) dX7_rankKey_10 (by decide) ?_
  refine V_iload_n (q := 16) dX7_rankKey_15 rfl rfl ?_
  unfold rkK
  refine V_ifN_ne (q := 19) (tgt := 24) dX7_rankKey_16 (by decide) rfl (by omega) (fun q0 => ?_) (fun q0 => ?_)
  · skip
    rw [if_neg q0]
    refine V_iload_n (q := 25) dX7_rankKey_24 rfl rfl ?_
    refine V_iconst (q := 26) (v := nI 2) dX7_rankKey_25 rfl (by decide) ?_
    refine V_icmpN_ne (q := 29) (tgt := 34) dX7_rankKey_26 (by decide) rfl (by omega) (by omega) (fun q2 => ?_) (fun q2 => ?_)
    · skip
      rw [if_neg q2]
      refine V_aload_n (q := 35) dX7_rankKey_34 rfl rfl rfl ?_
      refine CrX7_112 (q := 38) rfl dX7_rankKey_35 rfl (c_rballs k4 e3 e2) ⟨(Nat.le_of_ble_eq_true rfl), (Nat.le_of_ble_eq_true rfl)⟩ (Nat.le_of_ble_eq_true rfl) (by first | assumption | exact up_eq | exact (up_ne (by omega)).trans (by first | assumption | exact up_eq | exact (up_ne (by omega)).trans (by first | assumption | exact up_eq | exact (up_ne (by omega)).trans (by first | assumption | exact up_eq)))) (by omega) (Nat.zero_le _) (Nat.zero_le _) ?_
      refine V_istore (q := 40) (ls' := [_, _, _, _, _]) dX7_rankKey_38 rfl (by decide) (by rfl) rfl ?_
      refine V_iload (q := 42) dX7_rankKey_40 rfl rfl ?_
      refine V_bipush (q := 44) (v := (-4)) dX7_rankKey_42 rfl (by decide) ?_
      refine V_icmp_ne (q := 47) (tgt := 51) dX7_rankKey_44 (by decide) rfl (fun q4 => ?_) (fun q4 => ?_)
      · skip
        rw [if_neg q4]
        refine V_iload (q := 53) dX7_rankKey_51 rfl rfl ?_
        refine V_ineg (q := 54) dX7_rankKey_53 rfl rfl ?_
        exact V_iret dX7_rankKey_54 rfl (Nat.le_of_ble_eq_true rfl) (Nat.le_of_ble_eq_true rfl) (⟨rfl, rfl, rfl⟩)
      · skip
        rw [if_pos q4]
        refine V_iconst (q := 48) (v := nI 1) dX7_rankKey_47 rfl (by decide) ?_
        refine V_goto (tgt := 54) dX7_rankKey_48 (by decide) ?_
        exact V_iret dX7_rankKey_54 rfl (Nat.le_of_ble_eq_true rfl) (Nat.le_of_ble_eq_true rfl) (⟨rfl, rfl, rfl⟩)
    · skip
      rw [if_pos q2]
      refine V_aload_n (q := 30) dX7_rankKey_29 rfl rfl rfl ?_
      refine CrX7_121 (q := 33) rfl dX7_rankKey_30 rfl (c_rmax k4 e3) ⟨(Nat.le_of_ble_eq_true rfl), (Nat.le_of_ble_eq_true rfl)⟩ (Nat.le_of_ble_eq_true rfl) (by first | assumption | exact up_eq | exact (up_ne (by omega)).trans (by first | assumption | exact up_eq | exact (up_ne (by omega)).trans (by first | assumption | exact up_eq | exact (up_ne (by omega)).trans (by first | assumption | exact up_eq)))) (by omega) (Nat.zero_le _) (Nat.zero_le _) ?_
      skip
      exact V_iret dX7_rankKey_33 rfl (Nat.le_of_ble_eq_true rfl) (Nat.le_of_ble_eq_true rfl) (⟨rfl, rfl, rfl⟩)
  · skip
    rw [if_pos q0]
    refine V_aload_n (q := 20) dX7_rankKey_19 rfl rfl rfl ?_
    refine GX7_102 (q := 23) rfl dX7_rankKey_20 rfl (by first | assumption | exact up_eq | exact (up_ne (by omega)).trans (by first | assumption | exact up_eq | exact (up_ne (by omega)).trans (by first | assumption | exact up_eq | exact (up_ne (by omega)).trans (by first | assumption | exact up_eq)))) (by omega) (by rfl) ?_
    exact V_iret dX7_rankKey_23 rfl (Nat.le_of_ble_eq_true rfl) (Nat.le_of_ble_eq_true rfl) (⟨rfl, rfl, rfl⟩)
theorem c_isAhead {F : Nat → Int32} (h0 : w o = eO 7 (xfs g o b)) (hn : o + 167 ≤ n) (h9 : w (o + 166) = eI g 6 F) {i j : Nat} (hi : i < 6) (hj : j < 6) : CtR g l MX7_isAhead 0 [rf g o, .int (nI i), .int (nI j)] w n (.int (if F i < F j ∨ (F i = F j ∧ i < j) then 1 else 0)) := by
  refine Ct.ofs (M := MX7_isAhead) (ls := [some _, some _, some _]) (by decide +kernel) (by exact (Nat.le_of_ble_eq_true rfl)) (by rfl) (by rfl) (by rfl) ?_
  refine V_iload_n (q := 1) dX7_isAhead_0 rfl rfl ?_
  refine V_ifN_lt (q := 4) (tgt := 26) dX7_isAhead_1 (by decide) rfl (by omega) (fun h9 => by first | exact h9.elim | exact absurd h9 (by assumption) | (exfalso; omega)) (fun _ => ?_)
  refine V_iload_n (q := 5) dX7_isAhead_4 rfl rfl ?_
  refine V_aload_n (q := 6) dX7_isAhead_5 rfl rfl rfl ?_
  refine GX7_57 (q := 9) rfl dX7_isAhead_6 rfl (by first | assumption | exact up_eq | exact (up_ne (by omega)).trans (by first | assumption | exact up_eq | exact (up_ne (by omega)).trans (by first | assumption | exact up_eq | exact (up_ne (by omega)).trans (by first | assumption | exact up_eq)))) (by omega) (by rfl) ?_
  refine V_alenI (q := 10) dX7_isAhead_9 rfl (by first | assumption | exact up_eq | exact (up_ne (by omega)).trans (by first | assumption | exact up_eq | exact (up_ne (by omega)).trans (by first | assumption | exact up_eq | exact (up_ne (by omega)).trans (by first | assumption | exact up_eq)))) (by omega) ?_
  refine V_icmpN_ge (q := 13) (tgt := 26) dX7_isAhead_10 (by decide) rfl (by omega) (by omega) (fun h9 => by first | exact h9.elim | exact absurd h9 (by assumption) | (exfalso; omega)) (fun _ => ?_)
  refine V_iload_n (q := 14) dX7_isAhead_13 rfl rfl ?_
  refine V_ifN_lt (q := 17) (tgt := 26) dX7_isAhead_14 (by decide) rfl (by omega) (fun h9 => by first | exact h9.elim | exact absurd h9 (by assumption) | (exfalso; omega)) (fun _ => ?_)
  refine V_iload_n (q := 18) dX7_isAhead_17 rfl rfl ?_
  refine V_aload_n (q := 19) dX7_isAhead_18 rfl rfl rfl ?_
  refine GX7_57 (q := 22) rfl dX7_isAhead_19 rfl (by first | assumption | exact up_eq | exact (up_ne (by omega)).trans (by first | assumption | exact up_eq | exact (up_ne (by omega)).trans (by first | assumption | exact up_eq | exact (up_ne (by omega)).trans (by first | assumption | exact up_eq)))) (by omega) (by rfl) ?_
  refine V_alenI (q := 23) dX7_isAhead_22 rfl (by first | assumption | exact up_eq | exact (up_ne (by omega)).trans (by first | assumption | exact up_eq | exact (up_ne (by omega)).trans (by first | assumption | exact up_eq | exact (up_ne (by omega)).trans (by first | assumption | exact up_eq)))) (by omega) ?_
  refine V_icmpN_lt (q := 26) (tgt := 28) dX7_isAhead_23 (by decide) rfl (by omega) (by omega) (fun _ => ?_) (fun h9 => by first | exact h9.elim | (exfalso; omega))
  refine V_aload_n (q := 29) dX7_isAhead_28 rfl rfl rfl ?_
  refine GX7_57 (q := 32) rfl dX7_isAhead_29 rfl (by first | assumption | exact up_eq | exact (up_ne (by omega)).trans (by first | assumption | exact up_eq | exact (up_ne (by omega)).trans (by first | assumption | exact up_eq | exact (up_ne (by omega)).trans (by first | assumption | exact up_eq)))) (by omega) (by rfl) ?_
  refine V_iload_n (q := 33) dX7_isAhead_32 rfl rfl ?_
  refine V_ialdN (q := 34) dX7_isAhead_33 rfl (by first | assumption | exact up_eq | exact (up_ne (by omega)).trans (by first | assumption | exact up_eq | exact (up_ne (by omega)).trans (by first | assumption | exact up_eq | exact (up_ne (by omega)).trans (by first | assumption | exact up_eq)))) (by omega) (by omega) (by omega) rfl (by rfl) ?_
  refine V_aload_n (q := 35) dX7_isAhead_34 rfl rfl rfl ?_
  refine GX7_57 (q := 38) rfl dX7_isAhead_35 rfl (by first | assumption | exact up_eq | exact (up_ne (by omega)).trans (by first | assumption | exact up_eq | exact (up_ne (by omega)).trans (by first | assumption | exact up_eq | exact (up_ne (by omega)).trans (by first | assumption | exact up_eq)))) (by omega) (by rfl) ?_
  refine V_iload_n (q := 39) dX7_isAhead_38 rfl rfl ?_
  refine V_ialdN (q := 40) dX7_isAhead_39 rfl (by first | assumption | exact up_eq | exact (up_ne (by omega)).trans (by first | assumption | exact up_eq | exact (up_ne (by omega)).trans (by first | assumption | exact up_eq | exact (up_ne (by omega)).trans (by first | assumption | exact up_eq)))) (by omega) (by omega) (by omega) rfl (by rfl) ?_
  refine V_icmp_lt (q := 43) (tgt := 63) dX7_isAhead_40 (by decide) rfl (fun q1 => ?_) (fun q1 => ?_)
  · skip
    rw [if_pos (Or.inl q1)]
    refine V_iconst (q := 64) (v := nI 1) dX7_isAhead_63 rfl (by decide) ?_
    refine V_goto (tgt := 68) dX7_isAhead_64 (by decide) ?_
    exact V_zret dX7_isAhead_68 rfl (rfl) (Nat.le_of_ble_eq_true rfl) (Nat.le_of_ble_eq_true rfl) (⟨rfl, rfl, rfl⟩)
  · skip
    refine V_aload_n (q := 44) dX7_isAhead_43 rfl rfl rfl ?_
    refine GX7_57 (q := 47) rfl dX7_isAhead_44 rfl (by first | assumption | exact up_eq | exact (up_ne (by omega)).trans (by first | assumption | exact up_eq | exact (up_ne (by omega)).trans (by first | assumption | exact up_eq | exact (up_ne (by omega)).trans (by first | assumption | exact up_eq)))) (by omega) (by rfl) ?_
    refine V_iload_n (q := 48) dX7_isAhead_47 rfl rfl ?_
    refine V_ialdN (q := 49) dX7_isAhead_48 rfl (by first | assumption | exact up_eq | exact (up_ne (by omega)).trans (by first | assumption | exact up_eq | exact (up_ne (by omega)).trans (by first | assumption | exact up_eq | exact (up_ne (by omega)).trans (by first | assumption | exact up_eq)))) (by omega) (by omega) (by omega) rfl (by rfl) ?_
    refine V_aload_n (q := 50) dX7_isAhead_49 rfl rfl rfl ?_
    refine GX7_57 (q := 53) rfl dX7_isAhead_50 rfl (by first | assumption | exact up_eq | exact (up_ne (by omega)).trans (by first | assumption | exact up_eq | exact (up_ne (by omega)).trans (by first | assumption | exact up_eq | exact (up_ne (by omega)).trans (by first | assumption | exact up_eq)))) (by omega) (by rfl) ?_
    refine V_iload_n (q := 54) dX7_isAhead_53 rfl rfl ?_
    refine V_ialdN (q := 55) dX7_isAhead_54 rfl (by first | assumption | exact up_eq | exact (up_ne (by omega)).trans (by first | assumption | exact up_eq | exact (up_ne (by omega)).trans (by first | assumption | exact up_eq | exact (up_ne (by omega)).trans (by first | assumption | exact up_eq)))) (by omega) (by omega) (by omega) rfl (by rfl) ?_
    refine V_icmp_ne (q := 58) (tgt := 67) dX7_isAhead_55 (by decide) rfl (fun q2 => ?_) (fun q2 => ?_)
    · skip
      rw [if_neg (fun q => q.elim q1 (fun q => q2 q.1))]
      refine V_iconst (q := 68) (v := nI 0) dX7_isAhead_67 rfl (by decide) ?_
      exact V_zret dX7_isAhead_68 rfl (rfl) (Nat.le_of_ble_eq_true rfl) (Nat.le_of_ble_eq_true rfl) (⟨rfl, rfl, rfl⟩)
    · skip
      refine V_iload_n (q := 59) dX7_isAhead_58 rfl rfl ?_
      refine V_iload_n (q := 60) dX7_isAhead_59 rfl rfl ?_
      refine V_icmpN_ge (q := 63) (tgt := 67) dX7_isAhead_60 (by decide) rfl (by omega) (by omega) (fun q3 => ?_) (fun q3 => ?_)
      · skip
        rw [if_neg (fun q => q.elim q1 (fun q => by omega))]
        refine V_iconst (q := 68) (v := nI 0) dX7_isAhead_67 rfl (by decide) ?_
        exact V_zret dX7_isAhead_68 rfl (rfl) (Nat.le_of_ble_eq_true rfl) (Nat.le_of_ble_eq_true rfl) (⟨rfl, rfl, rfl⟩)
      · skip
        rw [if_pos (Or.inr ⟨q2, q3⟩)]
        refine V_iconst (q := 64) (v := nI 1) dX7_isAhead_63 rfl (by decide) ?_
        refine V_goto (tgt := 68) dX7_isAhead_64 (by decide) ?_
        exact V_zret dX7_isAhead_68 rfl (rfl) (Nat.le_of_ble_eq_true rfl) (Nat.le_of_ble_eq_true rfl) (⟨rfl, rfl, rfl⟩)
theorem c_countAhead {F key : Nat → Int32} (h0 : w o = eO 7 (xfs g o b)) (hn : o + 167 ≤ n) (hs : w (o + 1) = eO 5 (sfs g (o + 1) N)) (h9 : w (o + 166) = eI g 6 F) (hc : sC N ≤ 6) (hk : ∀ j, j < sC N → F j = key j) {i : Nat} (hi : i < sC N) : CtR g l MX7_countAhead 1 [rf g o, .int (nI i)] w n (.int (nI (rnkN key (sC N) i))) := by
  refine Ct.ofs (M := MX7_countAhead) (ls := [some _, some _, none, none]) (by decide +kernel) (by exact (Nat.le_of_ble_eq_true rfl)) (by rfl) (by rfl) (by rfl) ?_
  refine V_iconst (q := 1) (v := nI 0) dX7_countAhead_0 rfl (by decide) ?_
  refine V_istore_n (q := 2) (ls' := [_, _, _, _]) dX7_countAhead_1 rfl (by decide) (by rfl) rfl ?_
  refine V_iconst (q := 3) (v := nI 0) dX7_countAhead_2 rfl (by decide) ?_
  refine V_istore_n (q := 4) (ls' := [_, _, _, _]) dX7_countAhead_3 rfl (by decide) (by rfl) rfl ?_
  refine loopU (fun k => V g l MX7_countAhead (rmd 1 0 0) (FinM g (qR (.int (nI (rnkN key (sC N) i))) w n) 0 0) 4 [some (rf g o), some (.int (nI i)), some (.int (nI (rnkN key k i))), some (.int (nI k))] [] (w) n 0 0) (sC N) ?_ ?_ 0 (Nat.zero_le _)
  · skip
    refine V_iload_n (q := 5) dX7_countAhead_4 rfl rfl ?_
    refine V_aload_n (q := 6) dX7_countAhead_5 rfl rfl rfl ?_
    refine GX7_10 (q := 9) rfl dX7_countAhead_6 rfl (by first | assumption | exact up_eq | exact (up_ne (by omega)).trans (by first | assumption | exact up_eq | exact (up_ne (by omega)).trans (by first | assumption | exact up_eq | exact (up_ne (by omega)).trans (by first | assumption | exact up_eq)))) (by omega) (by rfl) ?_
    refine GX7_172 (q := 12) rfl dX7_countAhead_9 rfl (by first | assumption | exact up_eq | exact (up_ne (by omega)).trans (by first | assumption | exact up_eq | exact (up_ne (by omega)).trans (by first | assumption | exact up_eq | exact (up_ne (by omega)).trans (by first | assumption | exact up_eq)))) (by omega) (by rfl) ?_
    refine V_icmpN_ge (q := 15) (tgt := 33) dX7_countAhead_12 (by decide) rfl (by omega) (by omega) (fun _ => ?_) (fun h9 => by first | exact h9.elim | (exfalso; omega))
    refine V_iload_n (q := 34) dX7_countAhead_33 rfl rfl ?_
    exact V_iret dX7_countAhead_34 rfl (Nat.le_of_ble_eq_true rfl) (Nat.le_of_ble_eq_true rfl) (⟨rfl, rfl, rfl⟩)
  · intro k hk2 ih
    refine V_iload_n (q := 5) dX7_countAhead_4 rfl rfl ?_
    refine V_aload_n (q := 6) dX7_countAhead_5 rfl rfl rfl ?_
    refine GX7_10 (q := 9) rfl dX7_countAhead_6 rfl (by first | assumption | exact up_eq | exact (up_ne (by omega)).trans (by first | assumption | exact up_eq | exact (up_ne (by omega)).trans (by first | assumption | exact up_eq | exact (up_ne (by omega)).trans (by first | assumption | exact up_eq)))) (by omega) (by rfl) ?_
    refine GX7_172 (q := 12) rfl dX7_countAhead_9 rfl (by first | assumption | exact up_eq | exact (up_ne (by omega)).trans (by first | assumption | exact up_eq | exact (up_ne (by omega)).trans (by first | assumption | exact up_eq | exact (up_ne (by omega)).trans (by first | assumption | exact up_eq)))) (by omega) (by rfl) ?_
    refine V_icmpN_ge (q := 15) (tgt := 33) dX7_countAhead_12 (by decide) rfl (by omega) (by omega) (fun h9 => by first | exact h9.elim | exact absurd h9 (by assumption) | (exfalso; omega)) (fun _ => ?_)
    refine V_aload_n (q := 16) dX7_countAhead_15 rfl rfl rfl ?_
    refine V_iload_n (q := 17) dX7_countAhead_16 rfl rfl ?_
    refine V_iload_n (q := 18) dX7_countAhead_17 rfl rfl ?_
    refine CrX7_310 (q := 21) rfl dX7_countAhead_18 rfl (c_isAhead h0 hn h9 (i := k) (j := i) (by omega) (by omega)) ⟨(Nat.le_of_ble_eq_true rfl), (Nat.le_of_ble_eq_true rfl)⟩ (Nat.le_of_ble_eq_true rfl) (by first | assumption | exact up_eq | exact (up_ne (by omega)).trans (by first | assumption | exact up_eq | exact (up_ne (by omega)).trans (by first | assumption | exact up_eq | exact (up_ne (by omega)).trans (by first | assumption | exact up_eq)))) (by omega) (Nat.zero_le _) (Nat.zero_le _) ?_
    by_cases q : F k < F i ∨ (F k = F i ∧ k < i)
    · have q2 : ahB key k i = true := by
        unfold ahB
        rw [hk k hk2, hk i hi] at q
        exact decide_eq_true q
      rw [show rnkN key (k + 1) i = rnkN key k i + 1 from fa_cnt_yes q2] at ih
      refine V_topi (if_pos q) ?_
      refine V_if_eq (q := 24) (tgt := 27) dX7_countAhead_21 (by decide) rfl (fun h9 => absurd h9 (by decide)) (fun _ => ?_)
      refine V_iinc (q := 27) (ls' := [_, _, _, _]) dX7_countAhead_24 rfl (by decide) (by rfl) rfl (by first | exact inc1 _ | rfl) rfl ?_
      refine V_iinc (q := 30) (ls' := [_, _, _, _]) dX7_countAhead_27 rfl (by decide) (by rfl) rfl (by first | exact inc1 _ | rfl) rfl ?_
      refine V_goto (tgt := 4) dX7_countAhead_30 (by decide) ?_
      exact ih
    · have q2 : ahB key k i = false := by
        unfold ahB
        rw [hk k hk2, hk i hi] at q
        exact decide_eq_false q
      rw [show rnkN key (k + 1) i = rnkN key k i from fa_cnt_no q2] at ih
      refine V_topi (if_neg q) ?_
      refine V_if_eq (q := 24) (tgt := 27) dX7_countAhead_21 (by decide) rfl (fun _ => ?_) (fun h9 => absurd rfl h9)
      refine V_iinc (q := 30) (ls' := [_, _, _, _]) dX7_countAhead_27 rfl (by decide) (by rfl) rfl (by first | exact inc1 _ | rfl) rfl ?_
      refine V_goto (tgt := 4) dX7_countAhead_30 (by decide) ?_
      exact ih
theorem X_ranked (h : XW g w n o X) {x y : Int32} : CtI g l MX7_ranked 4 [rf g o, .int x, .int y] w n (XP g w n o (rnkA x y (xN X), X)) := by
  obtain ⟨B, hX⟩ := h
  have hX0 := hX
  obtain ⟨h0, hS, h2, h3, h4, h5, h6, h7, h8, ⟨F, h9⟩, h10⟩ := hX
  obtain ⟨hso, hsn⟩ := hS.obj
  obtain ⟨G, π, LL, FF, hF⟩ := hS
  have hc6 := hF.2.2.2.1
  rcases i3_lt x 3 (by decide) with hx | ⟨k, hk, rfl⟩
  · rw [show rnkA x y (xN X) = -2 by unfold rnkA; rw [idx_no hx]]
    refine Ct.ofs (M := MX7_ranked) (ls := [some _, some _, some _, none]) (by decide +kernel) (by exact (Nat.le_of_ble_eq_true rfl)) (by rfl) (by rfl) (by rfl) ?_
    refine V_iload_n (q := 1) dX7_ranked_0 rfl rfl ?_
    refine V_if_lt (q := 4) (tgt := 9) dX7_ranked_1 (by decide) rfl (fun hc => ?_) (fun hc => ?_)
    · skip
      refine V_bipush (q := 11) (v := (-2)) dX7_ranked_9 rfl (by decide) ?_
      exact V_iret dX7_ranked_11 rfl (Nat.le_of_ble_eq_true rfl) (Nat.le_of_ble_eq_true rfl) (⟨rfl, _, rfl, rfl, ⟨B, hX0⟩, fun _ _ => rfl⟩)
    · skip
      have hx := hx.resolve_left hc
      refine V_iload_n (q := 5) dX7_ranked_4 rfl rfl ?_
      refine V_iconst (q := 6) (v := nI 2) dX7_ranked_5 rfl (by decide) ?_
      refine V_icmp_le (q := 9) (tgt := 12) dX7_ranked_6 (by decide) rfl (fun h9 => absurd h9 (fun q => (fa_of_lt (fa_trans (by decide : nI 2 < nI 3) hx)).2.1 q)) (fun _ => ?_)
      refine V_bipush (q := 11) (v := (-2)) dX7_ranked_9 rfl (by decide) ?_
      exact V_iret dX7_ranked_11 rfl (Nat.le_of_ble_eq_true rfl) (Nat.le_of_ble_eq_true rfl) (⟨rfl, _, rfl, rfl, ⟨B, hX0⟩, fun _ _ => rfl⟩)
  refine Ct.ofs (M := MX7_ranked) (ls := [some _, some _, some _, none]) (by decide +kernel) (by exact (Nat.le_of_ble_eq_true rfl)) (by rfl) (by rfl) (by rfl) ?_
  refine V_iload_n (q := 1) dX7_ranked_0 rfl rfl ?_
  refine V_ifN_lt (q := 4) (tgt := 9) dX7_ranked_1 (by decide) rfl (by omega) (fun h9 => by first | exact h9.elim | exact absurd h9 (by assumption) | (exfalso; omega)) (fun _ => ?_)
  refine V_iload_n (q := 5) dX7_ranked_4 rfl rfl ?_
  refine V_iconst (q := 6) (v := nI 2) dX7_ranked_5 rfl (by decide) ?_
  refine V_icmpN_le (q := 9) (tgt := 12) dX7_ranked_6 (by decide) rfl (by omega) (by omega) (fun _ => ?_) (fun h9 => by first | exact h9.elim | (exfalso; omega))
  refine V_iload_n (q := 13) dX7_ranked_12 rfl rfl ?_
  rcases i3_lt y (sC (xN X)) (by omega) with hy | ⟨p, hp, rfl⟩
  · rw [show rnkA (nI k) y (xN X) = -1 by unfold rnkA; rw [idx_yes hk (by decide)]; show (match idx y (sC (xN X)) with | none => _ | some k => _) = _; rw [idx_no hy]]
    refine V_if_lt (q := 16) (tgt := 27) dX7_ranked_13 (by decide) rfl (fun hc => ?_) (fun hc => ?_)
    · skip
      refine V_iconst (q := 28) (v := (-1)) dX7_ranked_27 rfl (by decide) ?_
      exact V_iret dX7_ranked_28 rfl (Nat.le_of_ble_eq_true rfl) (Nat.le_of_ble_eq_true rfl) (⟨rfl, _, rfl, rfl, ⟨B, hX0⟩, fun _ _ => rfl⟩)
    · skip
      have hy := hy.resolve_left hc
      refine V_iload_n (q := 17) dX7_ranked_16 rfl rfl ?_
      refine V_aload_n (q := 18) dX7_ranked_17 rfl rfl rfl ?_
      refine GX7_10 (q := 21) rfl dX7_ranked_18 rfl (by first | assumption | exact up_eq | exact (up_ne (by omega)).trans (by first | assumption | exact up_eq | exact (up_ne (by omega)).trans (by first | assumption | exact up_eq | exact (up_ne (by omega)).trans (by first | assumption | exact up_eq)))) (by omega) (by rfl) ?_
      refine GX7_172 (q := 24) rfl dX7_ranked_21 rfl (by first | assumption | exact up_eq | exact (up_ne (by omega)).trans (by first | assumption | exact up_eq | exact (up_ne (by omega)).trans (by first | assumption | exact up_eq | exact (up_ne (by omega)).trans (by first | assumption | exact up_eq)))) (by omega) (by rfl) ?_
      refine V_icmp_lt (q := 27) (tgt := 29) dX7_ranked_24 (by decide) rfl (fun h9 => absurd h9 (fun q => (fa_of_lt q).2.1 hy)) (fun _ => ?_)
      refine V_iconst (q := 28) (v := (-1)) dX7_ranked_27 rfl (by decide) ?_
      exact V_iret dX7_ranked_28 rfl (Nat.le_of_ble_eq_true rfl) (Nat.le_of_ble_eq_true rfl) (⟨rfl, _, rfl, rfl, ⟨B, hX0⟩, fun _ _ => rfl⟩)
  generalize hkey : (fun j => rkK k (sR (xN X) j)) = key
  have ea : rnkA (nI k) (nI p) (xN X) = if fa_first (fun i => decide (rnkN key (sC (xN X)) i = p)) (sC (xN X)) < sC (xN X) then nI (fa_first (fun i => decide (rnkN key (sC (xN X)) i = p)) (sC (xN X))) else -1 := by
    rw [← hkey]
    unfold rnkA
    rw [idx_yes hk (by decide)]
    show (match idx (nI p) (sC (xN X)) with | none => _ | some k => _) = _
    rw [idx_yes hp (by omega)]
  have hqle := fa_first_le (fun i => decide (rnkN key (sC (xN X)) i = p)) (sC (xN X))
  have hqno := fa_first_no (fun i => decide (rnkN key (sC (xN X)) i = p)) (sC (xN X))
  have hqye := fa_first_yes (fun i => decide (rnkN key (sC (xN X)) i = p)) (sC (xN X))
  generalize fa_first (fun i => decide (rnkN key (sC (xN X)) i = p)) (sC (xN X)) = q at ea hqle hqno hqye
  rw [ea]
  refine V_ifN_lt (q := 16) (tgt := 27) dX7_ranked_13 (by decide) rfl (by omega) (fun h9 => by first | exact h9.elim | exact absurd h9 (by assumption) | (exfalso; omega)) (fun _ => ?_)
  refine V_iload_n (q := 17) dX7_ranked_16 rfl rfl ?_
  refine V_aload_n (q := 18) dX7_ranked_17 rfl rfl rfl ?_
  refine GX7_10 (q := 21) rfl dX7_ranked_18 rfl (by first | assumption | exact up_eq | exact (up_ne (by omega)).trans (by first | assumption | exact up_eq | exact (up_ne (by omega)).trans (by first | assumption | exact up_eq | exact (up_ne (by omega)).trans (by first | assumption | exact up_eq)))) (by omega) (by rfl) ?_
  refine GX7_172 (q := 24) rfl dX7_ranked_21 rfl (by first | assumption | exact up_eq | exact (up_ne (by omega)).trans (by first | assumption | exact up_eq | exact (up_ne (by omega)).trans (by first | assumption | exact up_eq | exact (up_ne (by omega)).trans (by first | assumption | exact up_eq)))) (by omega) (by rfl) ?_
  refine V_icmpN_lt (q := 27) (tgt := 29) dX7_ranked_24 (by decide) rfl (by omega) (by omega) (fun _ => ?_) (fun h9 => by first | exact h9.elim | (exfalso; omega))
  refine V_iconst (q := 30) (v := nI 0) dX7_ranked_29 rfl (by decide) ?_
  refine V_istore_n (q := 31) (ls' := [_, _, _, _]) dX7_ranked_30 rfl (by decide) (by rfl) rfl ?_
  have fill : ∀ i, i ≤ sC (xN X) → ∀ w1 F1, (∀ j, j ≠ o + 166 → w1 j = w j) → w1 (o + 166) = eI g 6 F1 → (∀ j, j < i → F1 j = key j) → V g l MX7_ranked (rmd 4 0 0) (FinM g (qI (XP g w n o (if q < sC (xN X) then nI q else -1, X)) n) 0 0) 31 [some (rf g o), some (.int (nI k)), some (.int (nI p)), some (.int (nI i))] [] (w1) n 0 0 := by
    refine loopU (fun i => ∀ w1 F1, (∀ j, j ≠ o + 166 → w1 j = w j) → w1 (o + 166) = eI g 6 F1 → (∀ j, j < i → F1 j = key j) → V g l MX7_ranked (rmd 4 0 0) (FinM g (qI (XP g w n o (if q < sC (xN X) then nI q else -1, X)) n) 0 0) 31 [some (rf g o), some (.int (nI k)), some (.int (nI p)), some (.int (nI i))] [] (w1) n 0 0) (sC (xN X)) ?_ ?_
    · intro w1 F1 b1 b2 b3
      have b0 : w1 o = eO 7 (xfs g o (nI (xH X))) := (b1 _ (by omega)).trans h0
      have bs : w1 (o + 1) = eO 5 (sfs g (o + 1) (xN X)) := (b1 _ (by omega)).trans hso
      have fin : XW g w1 n o X ∧ FrX w w1 o := ⟨⟨B, b0, Sd.frame ⟨G, π, LL, FF, hF⟩ (fun j _ _ => b1 j (by omega)), h2.frame (fun j _ _ => b1 j (by omega)), h3.frame (fun j _ _ => b1 j (by omega)), h4.frame (fun j _ _ => b1 j (by omega)), h5.frame (fun j _ _ => b1 j (by omega)), h6.frame (b1 _ (by omega)) (b1 _ (by omega)), h7.frame (b1 _ (by omega)) (b1 _ (by omega)), (b1 _ (by omega)).trans h8, ⟨F1, b2⟩, h10⟩, fun j hj => b1 j (by omega)⟩
      refine V_iload_n (q := 32) dX7_ranked_31 rfl rfl ?_
      refine V_aload_n (q := 33) dX7_ranked_32 rfl rfl rfl ?_
      refine GX7_10 (q := 36) rfl dX7_ranked_33 rfl (by first | assumption | exact up_eq | exact (up_ne (by omega)).trans (by first | assumption | exact up_eq | exact (up_ne (by omega)).trans (by first | assumption | exact up_eq | exact (up_ne (by omega)).trans (by first | assumption | exact up_eq)))) (by omega) (by rfl) ?_
      refine GX7_172 (q := 39) rfl dX7_ranked_36 rfl (by first | assumption | exact up_eq | exact (up_ne (by omega)).trans (by first | assumption | exact up_eq | exact (up_ne (by omega)).trans (by first | assumption | exact up_eq | exact (up_ne (by omega)).trans (by first | assumption | exact up_eq)))) (by omega) (by rfl) ?_
      refine V_icmpN_ge (q := 42) (tgt := 69) dX7_ranked_39 (by decide) rfl (by omega) (by omega) (fun _ => ?_) (fun h9 => by first | exact h9.elim | (exfalso; omega))
      refine V_iconst (q := 70) (v := nI 0) dX7_ranked_69 rfl (by decide) ?_
      refine V_istore_n (q := 71) (ls' := [_, _, _, _]) dX7_ranked_70 rfl (by decide) (by rfl) rfl ?_
      refine loopU (fun i => V g l MX7_ranked (rmd 4 0 0) (FinM g (qI (XP g w n o (if q < sC (xN X) then nI q else -1, X)) n) 0 0) 71 [some (rf g o), some (.int (nI k)), some (.int (nI p)), some (.int (nI i))] [] (w1) n 0 0) q ?_ ?_ 0 (Nat.zero_le _)
      · by_cases hq : q < sC (xN X)
        · rw [if_pos hq]
          refine V_iload_n (q := 72) dX7_ranked_71 rfl rfl ?_
          refine V_aload_n (q := 73) dX7_ranked_72 rfl rfl rfl ?_
          refine GX7_10 (q := 76) rfl dX7_ranked_73 rfl (by first | assumption | exact up_eq | exact (up_ne (by omega)).trans (by first | assumption | exact up_eq | exact (up_ne (by omega)).trans (by first | assumption | exact up_eq | exact (up_ne (by omega)).trans (by first | assumption | exact up_eq)))) (by omega) (by rfl) ?_
          refine GX7_172 (q := 79) rfl dX7_ranked_76 rfl (by first | assumption | exact up_eq | exact (up_ne (by omega)).trans (by first | assumption | exact up_eq | exact (up_ne (by omega)).trans (by first | assumption | exact up_eq | exact (up_ne (by omega)).trans (by first | assumption | exact up_eq)))) (by omega) (by rfl) ?_
          refine V_icmpN_ge (q := 82) (tgt := 99) dX7_ranked_79 (by decide) rfl (by omega) (by omega) (fun h9 => by first | exact h9.elim | exact absurd h9 (by assumption) | (exfalso; omega)) (fun _ => ?_)
          refine V_aload_n (q := 83) dX7_ranked_82 rfl rfl rfl ?_
          refine V_iload_n (q := 84) dX7_ranked_83 rfl rfl ?_
          refine CrX7_178 (q := 87) rfl dX7_ranked_84 rfl (c_countAhead b0 h10 bs b2 hc6 b3 hq) ⟨(Nat.le_of_ble_eq_true rfl), (Nat.le_of_ble_eq_true rfl)⟩ (Nat.le_of_ble_eq_true rfl) (by first | assumption | exact up_eq | exact (up_ne (by omega)).trans (by first | assumption | exact up_eq | exact (up_ne (by omega)).trans (by first | assumption | exact up_eq | exact (up_ne (by omega)).trans (by first | assumption | exact up_eq)))) (by omega) (Nat.zero_le _) (Nat.zero_le _) ?_
          refine V_topi (congrArg nI (of_decide_eq_true (hqye hq))) ?_
          refine V_iload_n (q := 88) dX7_ranked_87 rfl rfl ?_
          refine V_icmpN_ne (q := 91) (tgt := 93) dX7_ranked_88 (by decide) rfl (by omega) (by omega) (fun h9 => by first | exact h9.elim | exact absurd h9 (by assumption) | (exfalso; omega)) (fun _ => ?_)
          refine V_iload_n (q := 92) dX7_ranked_91 rfl rfl ?_
          exact V_iret dX7_ranked_92 rfl (Nat.le_of_ble_eq_true rfl) (Nat.le_of_ble_eq_true rfl) (⟨rfl, _, rfl, rfl, fin⟩)
        · rw [if_neg hq]
          refine V_iload_n (q := 72) dX7_ranked_71 rfl rfl ?_
          refine V_aload_n (q := 73) dX7_ranked_72 rfl rfl rfl ?_
          refine GX7_10 (q := 76) rfl dX7_ranked_73 rfl (by first | assumption | exact up_eq | exact (up_ne (by omega)).trans (by first | assumption | exact up_eq | exact (up_ne (by omega)).trans (by first | assumption | exact up_eq | exact (up_ne (by omega)).trans (by first | assumption | exact up_eq)))) (by omega) (by rfl) ?_
          refine GX7_172 (q := 79) rfl dX7_ranked_76 rfl (by first | assumption | exact up_eq | exact (up_ne (by omega)).trans (by first | assumption | exact up_eq | exact (up_ne (by omega)).trans (by first | assumption | exact up_eq | exact (up_ne (by omega)).trans (by first | assumption | exact up_eq)))) (by omega) (by rfl) ?_
          refine V_icmpN_ge (q := 82) (tgt := 99) dX7_ranked_79 (by decide) rfl (by omega) (by omega) (fun _ => ?_) (fun h9 => by first | exact h9.elim | (exfalso; omega))
          refine V_iconst (q := 100) (v := (-1)) dX7_ranked_99 rfl (by decide) ?_
          exact V_iret dX7_ranked_100 rfl (Nat.le_of_ble_eq_true rfl) (Nat.le_of_ble_eq_true rfl) (⟨rfl, _, rfl, rfl, fin⟩)
      · intro i hi ih
        have hne := of_decide_eq_false (hqno i hi)
        have hle : rnkN key (sC (xN X)) i ≤ sC (xN X) := fa_cnt_le _ _
        refine V_iload_n (q := 72) dX7_ranked_71 rfl rfl ?_
        refine V_aload_n (q := 73) dX7_ranked_72 rfl rfl rfl ?_
        refine GX7_10 (q := 76) rfl dX7_ranked_73 rfl (by first | assumption | exact up_eq | exact (up_ne (by omega)).trans (by first | assumption | exact up_eq | exact (up_ne (by omega)).trans (by first | assumption | exact up_eq | exact (up_ne (by omega)).trans (by first | assumption | exact up_eq)))) (by omega) (by rfl) ?_
        refine GX7_172 (q := 79) rfl dX7_ranked_76 rfl (by first | assumption | exact up_eq | exact (up_ne (by omega)).trans (by first | assumption | exact up_eq | exact (up_ne (by omega)).trans (by first | assumption | exact up_eq | exact (up_ne (by omega)).trans (by first | assumption | exact up_eq)))) (by omega) (by rfl) ?_
        refine V_icmpN_ge (q := 82) (tgt := 99) dX7_ranked_79 (by decide) rfl (by omega) (by omega) (fun h9 => by first | exact h9.elim | exact absurd h9 (by assumption) | (exfalso; omega)) (fun _ => ?_)
        refine V_aload_n (q := 83) dX7_ranked_82 rfl rfl rfl ?_
        refine V_iload_n (q := 84) dX7_ranked_83 rfl rfl ?_
        refine CrX7_178 (q := 87) rfl dX7_ranked_84 rfl (c_countAhead b0 h10 bs b2 hc6 b3 (i := i) (by omega)) ⟨(Nat.le_of_ble_eq_true rfl), (Nat.le_of_ble_eq_true rfl)⟩ (Nat.le_of_ble_eq_true rfl) (by first | assumption | exact up_eq | exact (up_ne (by omega)).trans (by first | assumption | exact up_eq | exact (up_ne (by omega)).trans (by first | assumption | exact up_eq | exact (up_ne (by omega)).trans (by first | assumption | exact up_eq)))) (by omega) (Nat.zero_le _) (Nat.zero_le _) ?_
        refine V_iload_n (q := 88) dX7_ranked_87 rfl rfl ?_
        refine V_icmpN_ne (q := 91) (tgt := 93) dX7_ranked_88 (by decide) rfl (by omega) (by omega) (fun _ => ?_) (fun h9 => by first | exact h9.elim | (exfalso; omega))
        refine V_iinc (q := 96) (ls' := [_, _, _, _]) dX7_ranked_93 rfl (by decide) (by rfl) rfl (by first | exact inc1 _ | rfl) rfl ?_
        refine V_goto (tgt := 71) dX7_ranked_96 (by decide) ?_
        exact ih
    · intro i hi ih w1 F1 b1 b2 b3
      have b0 : w1 o = eO 7 (xfs g o (nI (xH X))) := (b1 _ (by omega)).trans h0
      have bs : w1 (o + 1) = eO 5 (sfs g (o + 1) (xN X)) := (b1 _ (by omega)).trans hso
      have bF : SdF g w1 n (o + 1) (xN X) G π LL FF := hF.frame (fun j _ _ => b1 j (by omega))
      refine V_iload_n (q := 32) dX7_ranked_31 rfl rfl ?_
      refine V_aload_n (q := 33) dX7_ranked_32 rfl rfl rfl ?_
      refine GX7_10 (q := 36) rfl dX7_ranked_33 rfl (by first | assumption | exact up_eq | exact (up_ne (by omega)).trans (by first | assumption | exact up_eq | exact (up_ne (by omega)).trans (by first | assumption | exact up_eq | exact (up_ne (by omega)).trans (by first | assumption | exact up_eq)))) (by omega) (by rfl) ?_
      refine GX7_172 (q := 39) rfl dX7_ranked_36 rfl (by first | assumption | exact up_eq | exact (up_ne (by omega)).trans (by first | assumption | exact up_eq | exact (up_ne (by omega)).trans (by first | assumption | exact up_eq | exact (up_ne (by omega)).trans (by first | assumption | exact up_eq)))) (by omega) (by rfl) ?_
      refine V_icmpN_ge (q := 42) (tgt := 69) dX7_ranked_39 (by decide) rfl (by omega) (by omega) (fun h9 => by first | exact h9.elim | exact absurd h9 (by assumption) | (exfalso; omega)) (fun _ => ?_)
      refine V_iload_n (q := 43) dX7_ranked_42 rfl rfl ?_
      refine V_aload_n (q := 44) dX7_ranked_43 rfl rfl rfl ?_
      refine GX7_57 (q := 47) rfl dX7_ranked_44 rfl (by first | assumption | exact up_eq | exact (up_ne (by omega)).trans (by first | assumption | exact up_eq | exact (up_ne (by omega)).trans (by first | assumption | exact up_eq | exact (up_ne (by omega)).trans (by first | assumption | exact up_eq)))) (by omega) (by rfl) ?_
      refine V_alenI (q := 48) dX7_ranked_47 rfl (by first | assumption | exact up_eq | exact (up_ne (by omega)).trans (by first | assumption | exact up_eq | exact (up_ne (by omega)).trans (by first | assumption | exact up_eq | exact (up_ne (by omega)).trans (by first | assumption | exact up_eq)))) (by omega) ?_
      refine V_icmpN_ge (q := 51) (tgt := 69) dX7_ranked_48 (by decide) rfl (by omega) (by omega) (fun h9 => by first | exact h9.elim | exact absurd h9 (by assumption) | (exfalso; omega)) (fun _ => ?_)
      refine V_aload_n (q := 52) dX7_ranked_51 rfl rfl rfl ?_
      refine GX7_57 (q := 55) rfl dX7_ranked_52 rfl (by first | assumption | exact up_eq | exact (up_ne (by omega)).trans (by first | assumption | exact up_eq | exact (up_ne (by omega)).trans (by first | assumption | exact up_eq | exact (up_ne (by omega)).trans (by first | assumption | exact up_eq)))) (by omega) (by rfl) ?_
      refine V_iload_n (q := 56) dX7_ranked_55 rfl rfl ?_
      refine V_aload_n (q := 57) dX7_ranked_56 rfl rfl rfl ?_
      refine V_iload_n (q := 58) dX7_ranked_57 rfl rfl ?_
      refine V_iload_n (q := 59) dX7_ranked_58 rfl rfl ?_
      refine CrX7_175 (q := 62) rfl dX7_ranked_59 rfl (c_rankKey b0 h10 bF hi hk) ⟨(Nat.le_of_ble_eq_true rfl), (Nat.le_of_ble_eq_true rfl)⟩ (Nat.le_of_ble_eq_true rfl) (by first | assumption | exact up_eq | exact (up_ne (by omega)).trans (by first | assumption | exact up_eq | exact (up_ne (by omega)).trans (by first | assumption | exact up_eq | exact (up_ne (by omega)).trans (by first | assumption | exact up_eq)))) (by omega) (Nat.zero_le _) (Nat.zero_le _) ?_
      refine V_iastN (q := 63) dX7_ranked_62 rfl (by first | assumption | exact up_eq | exact (up_ne (by omega)).trans (by first | assumption | exact up_eq | exact (up_ne (by omega)).trans (by first | assumption | exact up_eq | exact (up_ne (by omega)).trans (by first | assumption | exact up_eq)))) (by omega) (by omega) (by omega) rfl (by rfl) ?_
      refine V_iinc (q := 66) (ls' := [_, _, _, _]) dX7_ranked_63 rfl (by decide) (by rfl) rfl (by first | exact inc1 _ | rfl) rfl ?_
      refine V_goto (tgt := 31) dX7_ranked_66 (by decide) ?_
      refine ih _ (upd F1 i (rkK k (sR (xN X) i))) (fun j hj => (up_ne hj).trans (b1 j hj)) up_eq (fun j hj => ?_)
      by_cases e : j = i
      · rw [e, updI, ← hkey]
      · rw [updN e]; exact b3 j (by omega)
  exact fill 0 (Nat.zero_le _) w F (fun _ _ => rfl) h9 (fun j hj => absurd hj (Nat.not_lt_zero j))
end RK
