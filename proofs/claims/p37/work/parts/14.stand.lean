/-! A STAND: the object at a, its row of rows at a + 1, the rows behind, in any order -/
abbrev RowT : Type := Nat × (Nat → Nat)
abbrev StT : Type := Nat × (Nat → RowT) × Nat × Nat × Nat × Nat × Nat × Nat × Nat
abbrev sC (S : StT) : Nat := S.1
abbrev sR (S : StT) : Nat → RowT := S.2.1
abbrev sS (S : StT) : Nat := S.2.2.1
abbrev sB (S : StT) : Nat := S.2.2.2.1
abbrev sT (S : StT) : Nat := S.2.2.2.2.1
abbrev sU (S : StT) : Nat := S.2.2.2.2.2.1
abbrev sH (S : StT) : Nat := S.2.2.2.2.2.2.1
abbrev sJ (S : StT) : Nat := S.2.2.2.2.2.2.2.1
abbrev sG (S : StT) : Nat := S.2.2.2.2.2.2.2.2
abbrev sfs (g : GG) (a : Nat) (S : StT) : List Value := [.int (nI (sC S)), rf g (a + 1), .int (nI (sS S)), .int (nI (sB S)), .int (nI (sT S)), .int (nI (sU S)), .int (nI (sH S)), .int (nI (sJ S)), .int (nI (sG S))]
def SdF (g : GG) (w : HW) (n a : Nat) (S : StT) (G : Nat → Option Nat) (π LL : Nat → Nat) (FF : Nat → Nat → Int32) : Prop :=
  w a = eO 5 (sfs g a S) ∧ w (a + 1) = eR g 6 G ∧ a + 14 ≤ n ∧ sC S ≤ 6 ∧ (∀ k, k < 6 → G k = some (g.1 + π k) ∧ a + 2 ≤ π k ∧ π k + 2 ≤ a + 14 ∧ RwF g w n (π k) (LL k) (FF k)) ∧ (∀ i j, i < 6 → j < 6 → i ≠ j → π i + 2 ≤ π j ∨ π j + 2 ≤ π i) ∧ ∀ k, k < sC S → LL k = (sR S k).1 ∧ 0 < LL k ∧ Fh (FF k) (LL k) (sR S k).2
def Sd (g : GG) (w : HW) (n a : Nat) (S : StT) : Prop := ∃ G π LL FF, SdF g w n a S G π LL FF
def Fr (w w' : HW) (a : Nat) : Prop := ∀ i, (i < a ∨ a + 14 ≤ i) → w' i = w i
theorem RwF.frame {g : GG} {w w' : HW} {n r L : Nat} {F : Nat → Int32} (h : RwF g w n r L F) (h1 : w' r = w r) (h2 : w' (r + 1) = w (r + 1)) : RwF g w' n r L F := ⟨h1.trans h.1, h2.trans h.2.1, h.2.2⟩
theorem SdF.frame {g : GG} {w w' : HW} {n a : Nat} {S : StT} {G : Nat → Option Nat} {π LL : Nat → Nat} {FF : Nat → Nat → Int32} (h : SdF g w n a S G π LL FF) (hw : ∀ i, a ≤ i → i < a + 14 → w' i = w i) : SdF g w' n a S G π LL FF := by
  obtain ⟨h0, h1, h2, h3, h4, h5, h6⟩ := h
  refine ⟨(hw a (by omega) (by omega)).trans h0, (hw (a + 1) (by omega) (by omega)).trans h1, h2, h3, fun k hk => ?_, h5, h6⟩
  obtain ⟨k1, k2, k3, k4⟩ := h4 k hk
  exact ⟨k1, k2, k3, k4.frame (hw _ (by omega) (by omega)) (hw _ (by omega) (by omega))⟩
theorem Sd.frame {g : GG} {w w' : HW} {n a : Nat} {S : StT} (h : Sd g w n a S) (hw : ∀ i, a ≤ i → i < a + 14 → w' i = w i) : Sd g w' n a S := by
  obtain ⟨G, π, LL, FF, h⟩ := h
  exact ⟨G, π, LL, FF, h.frame hw⟩
/-- other numbers, the same rows -/
theorem SdF.nums {g : GG} {w : HW} {n a : Nat} {S S' : StT} {G : Nat → Option Nat} {π LL : Nat → Nat} {FF : Nat → Nat → Int32} (h : SdF g w n a S G π LL FF) (h1 : sC S' = sC S) (h2 : sR S' = sR S) : SdF g (va_up w a (eO 5 (sfs g a S'))) n a S' G π LL FF := by
  obtain ⟨k0, k1, k2, k3, k4, k5, k6⟩ := h
  refine ⟨up_eq, (up_ne (by omega)).trans k1, k2, by rw [h1]; exact k3, fun k hk => ?_, k5, fun k hk => by rw [h2]; exact k6 k (by omega)⟩
  obtain ⟨m1, m2, m3, m4⟩ := k4 k hk
  exact ⟨m1, m2, m3, m4.frame (up_ne (by omega)) (up_ne (by omega))⟩
def behN (s h : Nat) : Nat := if h = 0 then s / 2 else s / 2 ||| 2 ^ (h - 1)
def canN (s h : Nat) : Prop := if h = 0 then s % 2 = 0 else s % 2 = 1 ∧ s &&& 2 ^ h = 0
def thrS (S : StT) (h : Nat) : StT := (sC S, sR S, behN (sS S) h, sB S + 1, sT S + 1, sU S + (if 0 < h then 1 else 0), max (sH S) h, sJ S, sG S)
noncomputable def cleanS (S : StT) : Nat → Nat
  | 0 => 0
  | k + 1 => cleanS S k + (if clN (sR S k).2 (sR S k).1 = (sR S k).1 then 1 else 0)
noncomputable def ballsS (S : StT) : Nat → Nat
  | 0 => 0
  | k + 1 => ballsS S k + (if clN (sR S k).2 (sR S k).1 = (sR S k).1 then sumN (sR S k).2 (sR S k).1 / (sR S k).1 else 0)
def lenS (S : StT) : Nat → Nat
  | 0 => 0
  | k + 1 => lenS S k + (sR S k).1
def thrownS (S : StT) : Nat → Nat
  | 0 => 0
  | k + 1 => thrownS S k + sumN (sR S k).2 (sR S k).1
section STAND
variable {g : GG} {l : Launch} {w : HW} {n a : Nat} {S : StT} {G : Nat → Option Nat} {π LL : Nat → Nat} {FF : Nat → Nat → Int32}
theorem c_rowNum_in0 {p : Nat} (h0 : w a = eO 5 (sfs g a S)) (h1 : w (a + 1) = eR g 6 G) (hn : a + 14 ≤ n) (hc : sC S ≤ 6) {i : Nat} (hi : i < sC S) (hGi : G i = some (g.1 + p)) : CtR g l MX5_rowNumbered 0 [rf g a, .int (nI i)] w n (rf g p) := by
  refine Ct.ofs (M := MX5_rowNumbered) (ls := [some _, some _]) (by decide +kernel) (by exact (Nat.le_of_ble_eq_true rfl)) (by rfl) (by rfl) (by rfl) ?_
  refine V_iload_n (q := 1) dX5_rowNumbered_0 rfl rfl ?_
  refine V_ifN_lt (q := 4) (tgt := 30) dX5_rowNumbered_1 (by decide) rfl (by omega) (fun h9 => by first | exact h9.elim | exact absurd h9 (by assumption) | (exfalso; omega)) (fun _ => ?_)
  refine V_iload_n (q := 5) dX5_rowNumbered_4 rfl rfl ?_
  refine V_aload_n (q := 6) dX5_rowNumbered_5 rfl rfl rfl ?_
  refine GX5_18 (q := 9) rfl dX5_rowNumbered_6 rfl (by first | assumption | exact up_eq | exact (up_ne (by omega)).trans (by first | assumption | exact up_eq | exact (up_ne (by omega)).trans (by first | assumption | exact up_eq | exact (up_ne (by omega)).trans (by first | assumption | exact up_eq)))) (by omega) (by rfl) ?_
  refine V_icmpN_ge (q := 12) (tgt := 30) dX5_rowNumbered_9 (by decide) rfl (by omega) (by omega) (fun h9 => by first | exact h9.elim | exact absurd h9 (by assumption) | (exfalso; omega)) (fun _ => ?_)
  refine V_iload_n (q := 13) dX5_rowNumbered_12 rfl rfl ?_
  refine V_aload_n (q := 14) dX5_rowNumbered_13 rfl rfl rfl ?_
  refine GX5_11 (q := 17) rfl dX5_rowNumbered_14 rfl (by first | assumption | exact up_eq | exact (up_ne (by omega)).trans (by first | assumption | exact up_eq | exact (up_ne (by omega)).trans (by first | assumption | exact up_eq | exact (up_ne (by omega)).trans (by first | assumption | exact up_eq)))) (by omega) (by rfl) ?_
  refine V_alenR (q := 18) dX5_rowNumbered_17 rfl (by first | assumption | exact up_eq | exact (up_ne (by omega)).trans (by first | assumption | exact up_eq | exact (up_ne (by omega)).trans (by first | assumption | exact up_eq | exact (up_ne (by omega)).trans (by first | assumption | exact up_eq)))) (by omega) ?_
  refine V_icmpN_ge (q := 21) (tgt := 30) dX5_rowNumbered_18 (by decide) rfl (by omega) (by omega) (fun h9 => by first | exact h9.elim | exact absurd h9 (by assumption) | (exfalso; omega)) (fun _ => ?_)
  refine V_aload_n (q := 22) dX5_rowNumbered_21 rfl rfl rfl ?_
  refine GX5_11 (q := 25) rfl dX5_rowNumbered_22 rfl (by first | assumption | exact up_eq | exact (up_ne (by omega)).trans (by first | assumption | exact up_eq | exact (up_ne (by omega)).trans (by first | assumption | exact up_eq | exact (up_ne (by omega)).trans (by first | assumption | exact up_eq)))) (by omega) (by rfl) ?_
  refine V_iload_n (q := 26) dX5_rowNumbered_25 rfl rfl ?_
  refine V_aaldR (q := 27) dX5_rowNumbered_26 rfl (by first | assumption | exact up_eq | exact (up_ne (by omega)).trans (by first | assumption | exact up_eq | exact (up_ne (by omega)).trans (by first | assumption | exact up_eq | exact (up_ne (by omega)).trans (by first | assumption | exact up_eq)))) (by omega) (by omega) (by omega) rfl (congrArg va_rf hGi) ?_
  refine V_goto (tgt := 31) dX5_rowNumbered_27 (by decide) ?_
  exact V_aret dX5_rowNumbered_31 rfl (Or.inr ⟨_, rfl⟩) (Nat.le_of_ble_eq_true rfl) (Nat.le_of_ble_eq_true rfl) (⟨rfl, rfl, rfl⟩)
theorem c_rowNum_in (hS : SdF g w n a S G π LL FF) {i : Nat} (hi : i < sC S) : CtR g l MX5_rowNumbered 0 [rf g a, .int (nI i)] w n (rf g (π i)) :=
  c_rowNum_in0 hS.1 hS.2.1 hS.2.2.1 hS.2.2.2.1 hi (hS.2.2.2.2.1 i (Nat.lt_of_lt_of_le hi hS.2.2.2.1)).1
theorem c_rowNum_out (hS : SdF g w n a S G π LL FF) {x : Int32} (hx : x < 0 ∨ nI (sC S) ≤ x) : CtR g l MX5_rowNumbered 0 [rf g a, .int x] w n .null := by
  obtain ⟨h0, h1, hn, hc, hG, hd, hR⟩ := hS
  refine Ct.ofs (M := MX5_rowNumbered) (ls := [some _, some _]) (by decide +kernel) (by exact (Nat.le_of_ble_eq_true rfl)) (by rfl) (by rfl) (by rfl) ?_
  refine V_iload_n (q := 1) dX5_rowNumbered_0 rfl rfl ?_
  refine V_if_lt (q := 4) (tgt := 30) dX5_rowNumbered_1 (by decide) rfl (fun hcc => ?_) (fun hcc => ?_)
  · skip
    refine V_null (q := 31) dX5_rowNumbered_30 rfl ?_
    exact V_aret dX5_rowNumbered_31 rfl (Or.inl rfl) (Nat.le_of_ble_eq_true rfl) (Nat.le_of_ble_eq_true rfl) (⟨rfl, rfl, rfl⟩)
  · skip
    refine V_iload_n (q := 5) dX5_rowNumbered_4 rfl rfl ?_
    refine V_aload_n (q := 6) dX5_rowNumbered_5 rfl rfl rfl ?_
    refine GX5_18 (q := 9) rfl dX5_rowNumbered_6 rfl (by first | assumption | exact up_eq | exact (up_ne (by omega)).trans (by first | assumption | exact up_eq | exact (up_ne (by omega)).trans (by first | assumption | exact up_eq | exact (up_ne (by omega)).trans (by first | assumption | exact up_eq)))) (by omega) (by rfl) ?_
    refine V_icmp_ge (q := 12) (tgt := 30) dX5_rowNumbered_9 (by decide) rfl (fun _ => ?_) (fun h9 => absurd (hx.resolve_left hcc) h9)
    refine V_null (q := 31) dX5_rowNumbered_30 rfl ?_
    exact V_aret dX5_rowNumbered_31 rfl (Or.inl rfl) (Nat.le_of_ble_eq_true rfl) (Nat.le_of_ble_eq_true rfl) (⟨rfl, rfl, rfl⟩)
theorem c_sballs (hS : SdF g w n a S G π LL FF) (hs : sS S < 512) : CtR g l MX5_balls 1 [rf g a] w n (.int (nI (popc (sS S)))) := by
  obtain ⟨h0, h1, hn, hc, hG, hd, hR⟩ := hS
  refine Ct.ofs (M := MX5_balls) (ls := [some _]) (by decide +kernel) (by exact (Nat.le_of_ble_eq_true rfl)) (by rfl) (by rfl) (by rfl) ?_
  refine V_aload_n (q := 1) dX5_balls_0 rfl rfl rfl ?_
  refine GX5_26 (q := 4) rfl dX5_balls_1 rfl (by first | assumption | exact up_eq | exact (up_ne (by omega)).trans (by first | assumption | exact up_eq | exact (up_ne (by omega)).trans (by first | assumption | exact up_eq | exact (up_ne (by omega)).trans (by first | assumption | exact up_eq)))) (by omega) (by rfl) ?_
  refine CrX5_55 (q := 7) rfl dX5_balls_4 rfl (c_bitCount hs) ⟨(Nat.le_of_ble_eq_true rfl), (Nat.le_of_ble_eq_true rfl)⟩ (Nat.le_of_ble_eq_true rfl) (Nat.zero_le _) (Nat.zero_le _) ?_
  exact V_iret dX5_balls_7 rfl (Nat.le_of_ble_eq_true rfl) (Nat.le_of_ble_eq_true rfl) (⟨rfl, rfl, rfl⟩)
theorem c_countThrows (hS : SdF g w n a S G π LL FF) : CtR g l MX5_countThrows 1 [rf g a] w n (.int (nI (lenS S (sC S)))) := by
  have hS0 := hS
  obtain ⟨h0, h1, hn, hc, hG, hd, hR⟩ := hS
  refine Ct.ofs (M := MX5_countThrows) (ls := [some _, none, none, none]) (by decide +kernel) (by exact (Nat.le_of_ble_eq_true rfl)) (by rfl) (by rfl) (by rfl) ?_
  refine V_iconst (q := 1) (v := nI 0) dX5_countThrows_0 rfl (by decide) ?_
  refine V_istore_n (q := 2) (ls' := [_, _, _, _]) dX5_countThrows_1 rfl (by decide) (by rfl) rfl ?_
  refine V_iconst (q := 3) (v := nI 0) dX5_countThrows_2 rfl (by decide) ?_
  refine V_istore_n (q := 4) (ls' := [_, _, _, _]) dX5_countThrows_3 rfl (by decide) (by rfl) rfl ?_
  refine loopU (fun i => V g l MX5_countThrows (rmd 1 0 0) (FinM g (qR (.int (nI (lenS S (sC S)))) w n) 0 0) 4 [some (rf g a), some (.int (nI (lenS S i))), some (.int (nI i)), none] [] (w) n 0 0) (sC S) ?_ ?_ 0 (Nat.zero_le _)
  · skip
    refine V_iload_n (q := 5) dX5_countThrows_4 rfl rfl ?_
    refine V_aload_n (q := 6) dX5_countThrows_5 rfl rfl rfl ?_
    refine GX5_18 (q := 9) rfl dX5_countThrows_6 rfl (by first | assumption | exact up_eq | exact (up_ne (by omega)).trans (by first | assumption | exact up_eq | exact (up_ne (by omega)).trans (by first | assumption | exact up_eq | exact (up_ne (by omega)).trans (by first | assumption | exact up_eq)))) (by omega) (by rfl) ?_
    refine V_icmpN_ge (q := 12) (tgt := 35) dX5_countThrows_9 (by decide) rfl (by omega) (by omega) (fun _ => ?_) (fun h9 => by first | exact h9.elim | (exfalso; omega))
    refine V_iload_n (q := 36) dX5_countThrows_35 rfl rfl ?_
    exact V_iret dX5_countThrows_36 rfl (Nat.le_of_ble_eq_true rfl) (Nat.le_of_ble_eq_true rfl) (⟨rfl, rfl, rfl⟩)
  · intro i hi ih
    obtain ⟨k1, k2, k3, k4, k5, k6, k7⟩ := hG i (by omega)
    have e1 := (hR i hi).1
    refine V_iload_n (q := 5) dX5_countThrows_4 rfl rfl ?_
    refine V_aload_n (q := 6) dX5_countThrows_5 rfl rfl rfl ?_
    refine GX5_18 (q := 9) rfl dX5_countThrows_6 rfl (by first | assumption | exact up_eq | exact (up_ne (by omega)).trans (by first | assumption | exact up_eq | exact (up_ne (by omega)).trans (by first | assumption | exact up_eq | exact (up_ne (by omega)).trans (by first | assumption | exact up_eq)))) (by omega) (by rfl) ?_
    refine V_icmpN_ge (q := 12) (tgt := 35) dX5_countThrows_9 (by decide) rfl (by omega) (by omega) (fun h9 => by first | exact h9.elim | exact absurd h9 (by assumption) | (exfalso; omega)) (fun _ => ?_)
    refine V_aload_n (q := 13) dX5_countThrows_12 rfl rfl rfl ?_
    refine V_iload_n (q := 14) dX5_countThrows_13 rfl rfl ?_
    refine CrX5_47 (q := 17) rfl dX5_countThrows_14 rfl (c_rowNum_in hS0 hi) ⟨(Nat.le_of_ble_eq_true rfl), (Nat.le_of_ble_eq_true rfl)⟩ (Nat.le_of_ble_eq_true rfl) (by first | assumption | exact up_eq | exact (up_ne (by omega)).trans (by first | assumption | exact up_eq | exact (up_ne (by omega)).trans (by first | assumption | exact up_eq | exact (up_ne (by omega)).trans (by first | assumption | exact up_eq)))) (by omega) (Nat.zero_le _) (Nat.zero_le _) ?_
    refine V_astore_n (q := 18) (ls' := [_, _, _, _]) dX5_countThrows_17 rfl (by decide) (by rfl) rfl rfl ?_
    refine V_aload_n (q := 19) dX5_countThrows_18 rfl rfl rfl ?_
    refine V_ifnull (q := 22) dX5_countThrows_19 rfl ?_
    refine V_iload_n (q := 23) dX5_countThrows_22 rfl rfl ?_
    refine V_aload_n (q := 24) dX5_countThrows_23 rfl rfl rfl ?_
    refine GX5_78 (q := 27) rfl dX5_countThrows_24 rfl (by first | assumption | exact up_eq | exact (up_ne (by omega)).trans (by first | assumption | exact up_eq | exact (up_ne (by omega)).trans (by first | assumption | exact up_eq | exact (up_ne (by omega)).trans (by first | assumption | exact up_eq)))) (by omega) (by rfl) ?_
    refine V_iadd (q := 28) dX5_countThrows_27 rfl ((congrArg (fun z => nI (lenS S i) + nI z) e1).trans (nI_add _ _)) ?_
    refine V_istore_n (q := 29) (ls' := [_, _, _, _]) dX5_countThrows_28 rfl (by decide) (by rfl) rfl ?_
    refine V_iinc (q := 32) (ls' := [_, _, _, _]) dX5_countThrows_29 rfl (by decide) (by rfl) rfl (by first | exact inc1 _ | rfl) rfl ?_
    refine V_goto (tgt := 4) dX5_countThrows_32 (by decide) ?_
    refine V_fg 3 (ls2 := [_, _, _, none]) (by rfl) ?_
    exact ih
theorem c_sumOfThrows (hS : SdF g w n a S G π LL FF) : CtR g l MX5_sumOfThrows 2 [rf g a] w n (.int (nI (thrownS S (sC S)))) := by
  have hS0 := hS
  obtain ⟨h0, h1, hn, hc, hG, hd, hR⟩ := hS
  refine Ct.ofs (M := MX5_sumOfThrows) (ls := [some _, none, none, none]) (by decide +kernel) (by exact (Nat.le_of_ble_eq_true rfl)) (by rfl) (by rfl) (by rfl) ?_
  refine V_iconst (q := 1) (v := nI 0) dX5_sumOfThrows_0 rfl (by decide) ?_
  refine V_istore_n (q := 2) (ls' := [_, _, _, _]) dX5_sumOfThrows_1 rfl (by decide) (by rfl) rfl ?_
  refine V_iconst (q := 3) (v := nI 0) dX5_sumOfThrows_2 rfl (by decide) ?_
  refine V_istore_n (q := 4) (ls' := [_, _, _, _]) dX5_sumOfThrows_3 rfl (by decide) (by rfl) rfl ?_
  refine loopU (fun i => V g l MX5_sumOfThrows (rmd 2 0 0) (FinM g (qR (.int (nI (thrownS S (sC S)))) w n) 0 0) 4 [some (rf g a), some (.int (nI (thrownS S i))), some (.int (nI i)), none] [] (w) n 0 0) (sC S) ?_ ?_ 0 (Nat.zero_le _)
  · skip
    refine V_iload_n (q := 5) dX5_sumOfThrows_4 rfl rfl ?_
    refine V_aload_n (q := 6) dX5_sumOfThrows_5 rfl rfl rfl ?_
    refine GX5_18 (q := 9) rfl dX5_sumOfThrows_6 rfl (by first | assumption | exact up_eq | exact (up_ne (by omega)).trans (by first | assumption | exact up_eq | exact (up_ne (by omega)).trans (by first | assumption | exact up_eq | exact (up_ne (by omega)).trans (by first | assumption | exact up_eq)))) (by omega) (by rfl) ?_
    refine V_icmpN_ge (q := 12) (tgt := 35) dX5_sumOfThrows_9 (by decide) rfl (by omega) (by omega) (fun _ => ?_) (fun h9 => by first | exact h9.elim | (exfalso; omega))
    refine V_iload_n (q := 36) dX5_sumOfThrows_35 rfl rfl ?_
    exact V_iret dX5_sumOfThrows_36 rfl (Nat.le_of_ble_eq_true rfl) (Nat.le_of_ble_eq_true rfl) (⟨rfl, rfl, rfl⟩)
  · intro i hi ih
    obtain ⟨k1, k2, k3, k4⟩ := hG i (by omega)
    obtain ⟨e1, e2, e3⟩ := hR i hi
    have hrow := k4.1
    have e4 : sumN (sR S i).2 (LL i) = sumN (sR S i).2 (sR S i).1 := by rw [e1]
    refine V_iload_n (q := 5) dX5_sumOfThrows_4 rfl rfl ?_
    refine V_aload_n (q := 6) dX5_sumOfThrows_5 rfl rfl rfl ?_
    refine GX5_18 (q := 9) rfl dX5_sumOfThrows_6 rfl (by first | assumption | exact up_eq | exact (up_ne (by omega)).trans (by first | assumption | exact up_eq | exact (up_ne (by omega)).trans (by first | assumption | exact up_eq | exact (up_ne (by omega)).trans (by first | assumption | exact up_eq)))) (by omega) (by rfl) ?_
    refine V_icmpN_ge (q := 12) (tgt := 35) dX5_sumOfThrows_9 (by decide) rfl (by omega) (by omega) (fun h9 => by first | exact h9.elim | exact absurd h9 (by assumption) | (exfalso; omega)) (fun _ => ?_)
    refine V_aload_n (q := 13) dX5_sumOfThrows_12 rfl rfl rfl ?_
    refine V_iload_n (q := 14) dX5_sumOfThrows_13 rfl rfl ?_
    refine CrX5_47 (q := 17) rfl dX5_sumOfThrows_14 rfl (c_rowNum_in hS0 hi) ⟨(Nat.le_of_ble_eq_true rfl), (Nat.le_of_ble_eq_true rfl)⟩ (Nat.le_of_ble_eq_true rfl) (by first | assumption | exact up_eq | exact (up_ne (by omega)).trans (by first | assumption | exact up_eq | exact (up_ne (by omega)).trans (by first | assumption | exact up_eq | exact (up_ne (by omega)).trans (by first | assumption | exact up_eq)))) (by omega) (Nat.zero_le _) (Nat.zero_le _) ?_
    refine V_astore_n (q := 18) (ls' := [_, _, _, _]) dX5_sumOfThrows_17 rfl (by decide) (by rfl) rfl rfl ?_
    refine V_aload_n (q := 19) dX5_sumOfThrows_18 rfl rfl rfl ?_
    refine V_ifnull (q := 22) dX5_sumOfThrows_19 rfl ?_
    refine V_iload_n (q := 23) dX5_sumOfThrows_22 rfl rfl ?_
    refine V_aload_n (q := 24) dX5_sumOfThrows_23 rfl rfl rfl ?_
    refine CrX5_81 (q := 27) rfl dX5_sumOfThrows_24 rfl (c_rsum k4 e3) ⟨(Nat.le_of_ble_eq_true rfl), (Nat.le_of_ble_eq_true rfl)⟩ (Nat.le_of_ble_eq_true rfl) (by first | assumption | exact up_eq | exact (up_ne (by omega)).trans (by first | assumption | exact up_eq | exact (up_ne (by omega)).trans (by first | assumption | exact up_eq | exact (up_ne (by omega)).trans (by first | assumption | exact up_eq)))) (by omega) (Nat.zero_le _) (Nat.zero_le _) ?_
    refine V_iadd (q := 28) dX5_sumOfThrows_27 rfl ((congrArg (fun z => nI (thrownS S i) + nI z) e4).trans (nI_add _ _)) ?_
    refine V_istore_n (q := 29) (ls' := [_, _, _, _]) dX5_sumOfThrows_28 rfl (by decide) (by rfl) rfl ?_
    refine V_iinc (q := 32) (ls' := [_, _, _, _]) dX5_sumOfThrows_29 rfl (by decide) (by rfl) rfl (by first | exact inc1 _ | rfl) rfl ?_
    refine V_goto (tgt := 4) dX5_sumOfThrows_32 (by decide) ?_
    refine V_fg 3 (ls2 := [_, _, _, none]) (by rfl) ?_
    exact ih
theorem c_countClean (hS : SdF g w n a S G π LL FF) : CtR g l MX5_countClean 2 [rf g a] w n (.int (nI (cleanS S (sC S)))) := by
  have hS0 := hS
  obtain ⟨h0, h1, hn, hc, hG, hd, hR⟩ := hS
  refine Ct.ofs (M := MX5_countClean) (ls := [some _, none, none, none]) (by decide +kernel) (by exact (Nat.le_of_ble_eq_true rfl)) (by rfl) (by rfl) (by rfl) ?_
  refine V_iconst (q := 1) (v := nI 0) dX5_countClean_0 rfl (by decide) ?_
  refine V_istore_n (q := 2) (ls' := [_, _, _, _]) dX5_countClean_1 rfl (by decide) (by rfl) rfl ?_
  refine V_iconst (q := 3) (v := nI 0) dX5_countClean_2 rfl (by decide) ?_
  refine V_istore_n (q := 4) (ls' := [_, _, _, _]) dX5_countClean_3 rfl (by decide) (by rfl) rfl ?_
  refine loopU (fun i => V g l MX5_countClean (rmd 2 0 0) (FinM g (qR (.int (nI (cleanS S (sC S)))) w n) 0 0) 4 [some (rf g a), some (.int (nI (cleanS S i))), some (.int (nI i)), none] [] (w) n 0 0) (sC S) ?_ ?_ 0 (Nat.zero_le _)
  · skip
    refine V_iload_n (q := 5) dX5_countClean_4 rfl rfl ?_
    refine V_aload_n (q := 6) dX5_countClean_5 rfl rfl rfl ?_
    refine GX5_18 (q := 9) rfl dX5_countClean_6 rfl (by first | assumption | exact up_eq | exact (up_ne (by omega)).trans (by first | assumption | exact up_eq | exact (up_ne (by omega)).trans (by first | assumption | exact up_eq | exact (up_ne (by omega)).trans (by first | assumption | exact up_eq)))) (by omega) (by rfl) ?_
    refine V_icmpN_ge (q := 12) (tgt := 38) dX5_countClean_9 (by decide) rfl (by omega) (by omega) (fun _ => ?_) (fun h9 => by first | exact h9.elim | (exfalso; omega))
    refine V_iload_n (q := 39) dX5_countClean_38 rfl rfl ?_
    exact V_iret dX5_countClean_39 rfl (Nat.le_of_ble_eq_true rfl) (Nat.le_of_ble_eq_true rfl) (⟨rfl, rfl, rfl⟩)
  · intro i hi ih
    obtain ⟨k1, k2, k3, k4⟩ := hG i (by omega)
    obtain ⟨e1, e2, e3⟩ := hR i hi
    have hrow := k4.1
    rw [cleanS] at ih
    rw [e1] at k4 e3 e2
    refine V_iload_n (q := 5) dX5_countClean_4 rfl rfl ?_
    refine V_aload_n (q := 6) dX5_countClean_5 rfl rfl rfl ?_
    refine GX5_18 (q := 9) rfl dX5_countClean_6 rfl (by first | assumption | exact up_eq | exact (up_ne (by omega)).trans (by first | assumption | exact up_eq | exact (up_ne (by omega)).trans (by first | assumption | exact up_eq | exact (up_ne (by omega)).trans (by first | assumption | exact up_eq)))) (by omega) (by rfl) ?_
    refine V_icmpN_ge (q := 12) (tgt := 38) dX5_countClean_9 (by decide) rfl (by omega) (by omega) (fun h9 => by first | exact h9.elim | exact absurd h9 (by assumption) | (exfalso; omega)) (fun _ => ?_)
    refine V_aload_n (q := 13) dX5_countClean_12 rfl rfl rfl ?_
    refine V_iload_n (q := 14) dX5_countClean_13 rfl rfl ?_
    refine CrX5_47 (q := 17) rfl dX5_countClean_14 rfl (c_rowNum_in hS0 hi) ⟨(Nat.le_of_ble_eq_true rfl), (Nat.le_of_ble_eq_true rfl)⟩ (Nat.le_of_ble_eq_true rfl) (by first | assumption | exact up_eq | exact (up_ne (by omega)).trans (by first | assumption | exact up_eq | exact (up_ne (by omega)).trans (by first | assumption | exact up_eq | exact (up_ne (by omega)).trans (by first | assumption | exact up_eq)))) (by omega) (Nat.zero_le _) (Nat.zero_le _) ?_
    refine V_astore_n (q := 18) (ls' := [_, _, _, _]) dX5_countClean_17 rfl (by decide) (by rfl) rfl rfl ?_
    refine V_aload_n (q := 19) dX5_countClean_18 rfl rfl rfl ?_
    refine V_ifnull (q := 22) dX5_countClean_19 rfl ?_
    refine V_aload_n (q := 23) dX5_countClean_22 rfl rfl rfl ?_
    refine CrX5_70 (q := 26) rfl dX5_countClean_23 rfl (c_marks k4 e3 e2) ⟨(Nat.le_of_ble_eq_true rfl), (Nat.le_of_ble_eq_true rfl)⟩ (Nat.le_of_ble_eq_true rfl) (by first | assumption | exact up_eq | exact (up_ne (by omega)).trans (by first | assumption | exact up_eq | exact (up_ne (by omega)).trans (by first | assumption | exact up_eq | exact (up_ne (by omega)).trans (by first | assumption | exact up_eq)))) (by omega) (Nat.zero_le _) (Nat.zero_le _) ?_
    by_cases hcl : clN (sR S i).2 (sR S i).1 = (sR S i).1
    · skip
      rw [if_pos hcl] at ih
      refine V_topi (if_pos hcl) ?_
      refine V_if_eq (q := 29) (tgt := 32) dX5_countClean_26 (by decide) rfl (fun h9 => absurd h9 (by decide)) (fun _ => ?_)
      refine V_iinc (q := 32) (ls' := [_, _, _, _]) dX5_countClean_29 rfl (by decide) (by rfl) rfl (by first | exact inc1 _ | rfl) rfl ?_
      refine V_iinc (q := 35) (ls' := [_, _, _, _]) dX5_countClean_32 rfl (by decide) (by rfl) rfl (by first | exact inc1 _ | rfl) rfl ?_
      refine V_goto (tgt := 4) dX5_countClean_35 (by decide) ?_
      refine V_fg 3 (ls2 := [_, _, _, none]) (by rfl) ?_
      exact ih
    · skip
      rw [if_neg hcl] at ih
      refine V_topi (if_neg hcl) ?_
      refine V_if_eq (q := 29) (tgt := 32) dX5_countClean_26 (by decide) rfl (fun _ => ?_) (fun h9 => absurd rfl h9)
      refine V_iinc (q := 35) (ls' := [_, _, _, _]) dX5_countClean_32 rfl (by decide) (by rfl) rfl (by first | exact inc1 _ | rfl) rfl ?_
      refine V_goto (tgt := 4) dX5_countClean_35 (by decide) ?_
      refine V_fg 3 (ls2 := [_, _, _, none]) (by rfl) ?_
      exact ih
theorem c_ballsOfClean (hS : SdF g w n a S G π LL FF) : CtR g l MX5_ballsOfCleanRows 3 [rf g a] w n (.int (nI (ballsS S (sC S)))) := by
  have hS0 := hS
  obtain ⟨h0, h1, hn, hc, hG, hd, hR⟩ := hS
  refine Ct.ofs (M := MX5_ballsOfCleanRows) (ls := [some _, none, none, none]) (by decide +kernel) (by exact (Nat.le_of_ble_eq_true rfl)) (by rfl) (by rfl) (by rfl) ?_
  refine V_iconst (q := 1) (v := nI 0) dX5_ballsOfCleanRows_0 rfl (by decide) ?_
  refine V_istore_n (q := 2) (ls' := [_, _, _, _]) dX5_ballsOfCleanRows_1 rfl (by decide) (by rfl) rfl ?_
  refine V_iconst (q := 3) (v := nI 0) dX5_ballsOfCleanRows_2 rfl (by decide) ?_
  refine V_istore_n (q := 4) (ls' := [_, _, _, _]) dX5_ballsOfCleanRows_3 rfl (by decide) (by rfl) rfl ?_
  refine loopU (fun i => V g l MX5_ballsOfCleanRows (rmd 3 0 0) (FinM g (qR (.int (nI (ballsS S (sC S)))) w n) 0 0) 4 [some (rf g a), some (.int (nI (ballsS S i))), some (.int (nI i)), none] [] (w) n 0 0) (sC S) ?_ ?_ 0 (Nat.zero_le _)
  · skip
    refine V_iload_n (q := 5) dX5_ballsOfCleanRows_4 rfl rfl ?_
    refine V_aload_n (q := 6) dX5_ballsOfCleanRows_5 rfl rfl rfl ?_
    refine GX5_18 (q := 9) rfl dX5_ballsOfCleanRows_6 rfl (by first | assumption | exact up_eq | exact (up_ne (by omega)).trans (by first | assumption | exact up_eq | exact (up_ne (by omega)).trans (by first | assumption | exact up_eq | exact (up_ne (by omega)).trans (by first | assumption | exact up_eq)))) (by omega) (by rfl) ?_
    refine V_icmpN_ge (q := 12) (tgt := 42) dX5_ballsOfCleanRows_9 (by decide) rfl (by omega) (by omega) (fun _ => ?_) (fun h9 => by first | exact h9.elim | (exfalso; omega))
    refine V_iload_n (q := 43) dX5_ballsOfCleanRows_42 rfl rfl ?_
    exact V_iret dX5_ballsOfCleanRows_43 rfl (Nat.le_of_ble_eq_true rfl) (Nat.le_of_ble_eq_true rfl) (⟨rfl, rfl, rfl⟩)
  · intro i hi ih
    obtain ⟨k1, k2, k3, k4⟩ := hG i (by omega)
    obtain ⟨e1, e2, e3⟩ := hR i hi
    have hrow := k4.1
    rw [ballsS] at ih
    rw [e1] at k4 e3 e2
    refine V_iload_n (q := 5) dX5_ballsOfCleanRows_4 rfl rfl ?_
    refine V_aload_n (q := 6) dX5_ballsOfCleanRows_5 rfl rfl rfl ?_
    refine GX5_18 (q := 9) rfl dX5_ballsOfCleanRows_6 rfl (by first | assumption | exact up_eq | exact (up_ne (by omega)).trans (by first | assumption | exact up_eq | exact (up_ne (by omega)).trans (by first | assumption | exact up_eq | exact (up_ne (by omega)).trans (by first | assumption | exact up_eq)))) (by omega) (by rfl) ?_
    refine V_icmpN_ge (q := 12) (tgt := 42) dX5_ballsOfCleanRows_9 (by decide) rfl (by omega) (by omega) (fun h9 => by first | exact h9.elim | exact absurd h9 (by assumption) | (exfalso; omega)) (fun _ => ?_)
    refine V_aload_n (q := 13) dX5_ballsOfCleanRows_12 rfl rfl rfl ?_
    refine V_iload_n (q := 14) dX5_ballsOfCleanRows_13 rfl rfl ?_
    refine CrX5_47 (q := 17) rfl dX5_ballsOfCleanRows_14 rfl (c_rowNum_in hS0 hi) ⟨(Nat.le_of_ble_eq_true rfl), (Nat.le_of_ble_eq_true rfl)⟩ (Nat.le_of_ble_eq_true rfl) (by first | assumption | exact up_eq | exact (up_ne (by omega)).trans (by first | assumption | exact up_eq | exact (up_ne (by omega)).trans (by first | assumption | exact up_eq | exact (up_ne (by omega)).trans (by first | assumption | exact up_eq)))) (by omega) (Nat.zero_le _) (Nat.zero_le _) ?_
    refine V_astore_n (q := 18) (ls' := [_, _, _, _]) dX5_ballsOfCleanRows_17 rfl (by decide) (by rfl) rfl rfl ?_
    refine V_aload_n (q := 19) dX5_ballsOfCleanRows_18 rfl rfl rfl ?_
    refine V_ifnull (q := 22) dX5_ballsOfCleanRows_19 rfl ?_
    refine V_aload_n (q := 23) dX5_ballsOfCleanRows_22 rfl rfl rfl ?_
    refine CrX5_70 (q := 26) rfl dX5_ballsOfCleanRows_23 rfl (c_marks k4 e3 e2) ⟨(Nat.le_of_ble_eq_true rfl), (Nat.le_of_ble_eq_true rfl)⟩ (Nat.le_of_ble_eq_true rfl) (by first | assumption | exact up_eq | exact (up_ne (by omega)).trans (by first | assumption | exact up_eq | exact (up_ne (by omega)).trans (by first | assumption | exact up_eq | exact (up_ne (by omega)).trans (by first | assumption | exact up_eq)))) (by omega) (Nat.zero_le _) (Nat.zero_le _) ?_
    by_cases hcl : clN (sR S i).2 (sR S i).1 = (sR S i).1
    · skip
      rw [if_pos hcl] at ih
      refine V_topi (if_pos hcl) ?_
      refine V_if_eq (q := 29) (tgt := 36) dX5_ballsOfCleanRows_26 (by decide) rfl (fun h9 => absurd h9 (by decide)) (fun _ => ?_)
      refine V_iload_n (q := 30) dX5_ballsOfCleanRows_29 rfl rfl ?_
      refine V_aload_n (q := 31) dX5_ballsOfCleanRows_30 rfl rfl rfl ?_
      refine CrX5_74 (q := 34) rfl dX5_ballsOfCleanRows_31 rfl (c_rballs k4 e3 e2) ⟨(Nat.le_of_ble_eq_true rfl), (Nat.le_of_ble_eq_true rfl)⟩ (Nat.le_of_ble_eq_true rfl) (by first | assumption | exact up_eq | exact (up_ne (by omega)).trans (by first | assumption | exact up_eq | exact (up_ne (by omega)).trans (by first | assumption | exact up_eq | exact (up_ne (by omega)).trans (by first | assumption | exact up_eq)))) (by omega) (Nat.zero_le _) (Nat.zero_le _) ?_
      refine V_topi (show ballI (sR S i).2 (sR S i).1 = _ from if_pos hcl) ?_
      refine V_iadd (q := 35) dX5_ballsOfCleanRows_34 rfl (by first | exact nI_add _ _ | rfl) ?_
      refine V_istore_n (q := 36) (ls' := [_, _, _, _]) dX5_ballsOfCleanRows_35 rfl (by decide) (by rfl) rfl ?_
      refine V_iinc (q := 39) (ls' := [_, _, _, _]) dX5_ballsOfCleanRows_36 rfl (by decide) (by rfl) rfl (by first | exact inc1 _ | rfl) rfl ?_
      refine V_goto (tgt := 4) dX5_ballsOfCleanRows_39 (by decide) ?_
      refine V_fg 3 (ls2 := [_, _, _, none]) (by rfl) ?_
      exact ih
    · skip
      rw [if_neg hcl] at ih
      refine V_topi (if_neg hcl) ?_
      refine V_if_eq (q := 29) (tgt := 36) dX5_ballsOfCleanRows_26 (by decide) rfl (fun _ => ?_) (fun h9 => absurd rfl h9)
      refine V_iinc (q := 39) (ls' := [_, _, _, _]) dX5_ballsOfCleanRows_36 rfl (by decide) (by rfl) rfl (by first | exact inc1 _ | rfl) rfl ?_
      refine V_goto (tgt := 4) dX5_ballsOfCleanRows_39 (by decide) ?_
      refine V_fg 3 (ls2 := [_, _, _, none]) (by rfl) ?_
      exact ih
theorem c_behind {s h : Nat} (hs : s < 512) (hh : h ≤ 9) : CtR g l MX7_stateBehind 0 [.int (nI s), .int (nI h)] w n (.int (nI (behN s h))) := by
  refine Ct.ofs (M := MX7_stateBehind) (ls := [some _, some _, none]) (by decide +kernel) (by exact (Nat.le_of_ble_eq_true rfl)) (by rfl) (by rfl) (by rfl) ?_
  refine V_iload_n (q := 1) dX7_stateBehind_0 rfl rfl ?_
  refine V_iconst (q := 2) (v := nI 1) dX7_stateBehind_1 rfl (by decide) ?_
  refine V_ishr (q := 3) dX7_stateBehind_2 rfl (shr1 (by omega) (by omega)) ?_
  refine V_istore_n (q := 4) (ls' := [_, _, _]) dX7_stateBehind_3 rfl (by decide) (by rfl) rfl ?_
  refine V_iload_n (q := 5) dX7_stateBehind_4 rfl rfl ?_
  refine V_ifN_ne (q := 8) (tgt := 12) dX7_stateBehind_5 (by decide) rfl (by omega) (fun hc => ?_) (fun hc => ?_)
  · skip
    refine V_iload_n (q := 13) dX7_stateBehind_12 rfl rfl ?_
    refine V_iconst (q := 14) (v := nI 1) dX7_stateBehind_13 rfl (by decide) ?_
    refine V_iload_n (q := 15) dX7_stateBehind_14 rfl rfl ?_
    refine V_iconst (q := 16) (v := nI 1) dX7_stateBehind_15 rfl (by decide) ?_
    refine V_isub (q := 17) dX7_stateBehind_16 rfl (by first | exact pk_sub (by omega) | rfl) ?_
    refine V_ishl (q := 18) dX7_stateBehind_17 rfl (shl1 (by omega)) ?_
    refine V_ior (q := 19) dX7_stateBehind_18 rfl (by first | exact fa_or _ _ | rfl) ?_
    exact V_iret dX7_stateBehind_19 rfl (Nat.le_of_ble_eq_true rfl) (Nat.le_of_ble_eq_true rfl) (⟨rfl, by rw [behN, if_neg hc]; try rfl, rfl⟩)
  · skip
    refine V_iload_n (q := 9) dX7_stateBehind_8 rfl rfl ?_
    refine V_goto (tgt := 19) dX7_stateBehind_9 (by decide) ?_
    exact V_iret dX7_stateBehind_19 rfl (Nat.le_of_ble_eq_true rfl) (Nat.le_of_ble_eq_true rfl) (⟨rfl, by rw [behN, if_pos hc]; try rfl, rfl⟩)
theorem c_canMake {s h : Nat} (hs : s < 512) (hh : h ≤ 9) : CtR g l MX7_canMake 0 [.int (nI s), .int (nI h)] w n (.int (@ite _ (canN s h) (Classical.propDecidable _) 1 0)) := by
  have hp : 2 ^ h < 1024 := Nat.lt_of_le_of_lt (Nat.pow_le_pow_right (by decide) hh) (by decide)
  have hand : s &&& 2 ^ h ≤ s := Nat.and_le_left
  refine Ct.ofs (M := MX7_canMake) (ls := [some _, some _, none]) (by decide +kernel) (by exact (Nat.le_of_ble_eq_true rfl)) (by rfl) (by rfl) (by rfl) ?_
  refine V_iload_n (q := 1) dX7_canMake_0 rfl rfl ?_
  refine V_iconst (q := 2) (v := nI 1) dX7_canMake_1 rfl (by decide) ?_
  refine V_iand (q := 3) dX7_canMake_2 rfl ((fa_and s 1).trans (congrArg nI (Nat.and_one_is_mod s))) ?_
  refine V_ifN_eq (q := 6) (tgt := 10) dX7_canMake_3 (by decide) rfl (by omega) (fun hc => ?_) (fun hc => ?_)
  · skip
    refine V_iconst (q := 11) (v := nI 0) dX7_canMake_10 rfl (by decide) ?_
    refine V_istore_n (q := 12) (ls' := [_, _, _]) dX7_canMake_11 rfl (by decide) (by rfl) rfl ?_
    refine V_iload_n (q := 13) dX7_canMake_12 rfl rfl ?_
    refine V_ifN_ne (q := 16) (tgt := 26) dX7_canMake_13 (by decide) rfl (by omega) (fun hc2 => ?_) (fun hc2 => ?_)
    · skip
      refine V_iload_n (q := 27) dX7_canMake_26 rfl rfl ?_
      refine V_ifN_eq (q := 30) (tgt := 42) dX7_canMake_27 (by decide) rfl (by omega) (fun _ => ?_) (fun h9 => by first | exact h9.elim | (exfalso; omega))
      refine V_iconst (q := 43) (v := nI 0) dX7_canMake_42 rfl (by decide) ?_
      exact V_zret dX7_canMake_43 rfl (rfl) (Nat.le_of_ble_eq_true rfl) (Nat.le_of_ble_eq_true rfl) (⟨rfl, by rw [if_neg (fun q => by rw [canN, if_neg hc2] at q; omega)]; try rfl, rfl⟩)
    · skip
      refine V_iload_n (q := 17) dX7_canMake_16 rfl rfl ?_
      refine V_ifN_ne (q := 20) (tgt := 24) dX7_canMake_17 (by decide) rfl (by omega) (fun h9 => by first | exact h9.elim | exact absurd h9 (by assumption) | (exfalso; omega)) (fun _ => ?_)
      refine V_iconst (q := 21) (v := nI 1) dX7_canMake_20 rfl (by decide) ?_
      refine V_goto (tgt := 25) dX7_canMake_21 (by decide) ?_
      exact V_zret dX7_canMake_25 rfl (rfl) (Nat.le_of_ble_eq_true rfl) (Nat.le_of_ble_eq_true rfl) (⟨rfl, by rw [if_pos (by rw [canN, if_pos hc2]; exact hc)]; try rfl, rfl⟩)
  · skip
    refine V_iconst (q := 7) (v := nI 1) dX7_canMake_6 rfl (by decide) ?_
    refine V_goto (tgt := 11) dX7_canMake_7 (by decide) ?_
    refine V_istore_n (q := 12) (ls' := [_, _, _]) dX7_canMake_11 rfl (by decide) (by rfl) rfl ?_
    refine V_iload_n (q := 13) dX7_canMake_12 rfl rfl ?_
    refine V_ifN_ne (q := 16) (tgt := 26) dX7_canMake_13 (by decide) rfl (by omega) (fun hc2 => ?_) (fun hc2 => ?_)
    · skip
      refine V_iload_n (q := 27) dX7_canMake_26 rfl rfl ?_
      refine V_ifN_eq (q := 30) (tgt := 42) dX7_canMake_27 (by decide) rfl (by omega) (fun h9 => by first | exact h9.elim | exact absurd h9 (by assumption) | (exfalso; omega)) (fun _ => ?_)
      refine V_iload_n (q := 31) dX7_canMake_30 rfl rfl ?_
      refine V_iconst (q := 32) (v := nI 1) dX7_canMake_31 rfl (by decide) ?_
      refine V_iload_n (q := 33) dX7_canMake_32 rfl rfl ?_
      refine V_ishl (q := 34) dX7_canMake_33 rfl (shl1 (by omega)) ?_
      refine V_iand (q := 35) dX7_canMake_34 rfl (by first | exact fa_and _ _ | rfl) ?_
      refine V_ifN_ne (q := 38) (tgt := 42) dX7_canMake_35 (by decide) rfl (by omega) (fun hc3 => ?_) (fun hc3 => ?_)
      · skip
        refine V_iconst (q := 43) (v := nI 0) dX7_canMake_42 rfl (by decide) ?_
        exact V_zret dX7_canMake_43 rfl (rfl) (Nat.le_of_ble_eq_true rfl) (Nat.le_of_ble_eq_true rfl) (⟨rfl, by rw [if_neg (fun q => by rw [canN, if_neg hc2] at q; exact hc3 q.2)]; try rfl, rfl⟩)
      · skip
        refine V_iconst (q := 39) (v := nI 1) dX7_canMake_38 rfl (by decide) ?_
        refine V_goto (tgt := 43) dX7_canMake_39 (by decide) ?_
        exact V_zret dX7_canMake_43 rfl (rfl) (Nat.le_of_ble_eq_true rfl) (Nat.le_of_ble_eq_true rfl) (⟨rfl, by rw [if_pos (by rw [canN, if_neg hc2]; exact ⟨by omega, hc3⟩)]; try rfl, rfl⟩)
    · skip
      refine V_iload_n (q := 17) dX7_canMake_16 rfl rfl ?_
      refine V_ifN_ne (q := 20) (tgt := 24) dX7_canMake_17 (by decide) rfl (by omega) (fun _ => ?_) (fun h9 => by first | exact h9.elim | (exfalso; omega))
      refine V_iconst (q := 25) (v := nI 0) dX7_canMake_24 rfl (by decide) ?_
      exact V_zret dX7_canMake_25 rfl (rfl) (Nat.le_of_ble_eq_true rfl) (Nat.le_of_ble_eq_true rfl) (⟨rfl, by rw [if_neg (fun q => by rw [canN, if_pos hc2] at q; omega)]; try rfl, rfl⟩)
theorem c_throwOne (hS : SdF g w n a S G π LL FF) (hs : sS S < 512) {h : Nat} (hh : h ≤ 9) (hH : sH S ≤ 9) : CtV g l MX5_throwOne 1 [rf g a, .int (nI h)] w n (fun w' => w' = va_up w a (eO 5 (sfs g a (thrS S h)))) := by
  obtain ⟨h0, h1, hn, hc, hG, hd, hR⟩ := hS
  have e3 : (if nI (sH S) < nI h then nI h else nI (sH S)) = nI (max (sH S) h) := by
    by_cases q : sH S < h
    · rw [if_pos ((nI_ltI (by omega) (by omega)).mpr q), Nat.max_eq_right (by omega)]
    · rw [if_neg (mt (nI_ltI (by omega) (by omega)).mp q), Nat.max_eq_left (by omega)]
  refine Ct.ofs (M := MX5_throwOne) (ls := [some _, some _]) (by decide +kernel) (by exact (Nat.le_of_ble_eq_true rfl)) (by rfl) (by rfl) (by rfl) ?_
  refine V_aload_n (q := 1) dX5_throwOne_0 rfl rfl rfl ?_
  refine V_aload_n (q := 2) dX5_throwOne_1 rfl rfl rfl ?_
  refine GX5_26 (q := 5) rfl dX5_throwOne_2 rfl (by first | assumption | exact up_eq | exact (up_ne (by omega)).trans (by first | assumption | exact up_eq | exact (up_ne (by omega)).trans (by first | assumption | exact up_eq | exact (up_ne (by omega)).trans (by first | assumption | exact up_eq)))) (by omega) (by rfl) ?_
  refine V_iload_n (q := 6) dX5_throwOne_5 rfl rfl ?_
  refine CrX5_61 (q := 9) rfl dX5_throwOne_6 rfl (c_behind hs hh) ⟨(Nat.le_of_ble_eq_true rfl), (Nat.le_of_ble_eq_true rfl)⟩ (Nat.le_of_ble_eq_true rfl) (Nat.zero_le _) (Nat.zero_le _) ?_
  refine PX5_26 (q := 12) (fs' := [_, _, _, _, _, _, _, _, _]) rfl dX5_throwOne_9 rfl (by first | assumption | exact up_eq | exact (up_ne (by omega)).trans (by first | assumption | exact up_eq | exact (up_ne (by omega)).trans (by first | assumption | exact up_eq | exact (up_ne (by omega)).trans (by first | assumption | exact up_eq)))) (by omega) (by exact (Nat.le_of_ble_eq_true rfl)) (by rfl) ?_
  try rw [up_up]
  refine V_aload_n (q := 13) dX5_throwOne_12 rfl rfl rfl ?_
  refine V_dup (q := 14) dX5_throwOne_13 rfl rfl ?_
  refine GX5_29 (q := 17) rfl dX5_throwOne_14 rfl (by first | assumption | exact up_eq | exact (up_ne (by omega)).trans (by first | assumption | exact up_eq | exact (up_ne (by omega)).trans (by first | assumption | exact up_eq | exact (up_ne (by omega)).trans (by first | assumption | exact up_eq)))) (by omega) (by rfl) ?_
  refine V_iconst (q := 18) (v := nI 1) dX5_throwOne_17 rfl (by decide) ?_
  refine V_iadd (q := 19) dX5_throwOne_18 rfl (by first | exact nI_add _ _ | rfl) ?_
  refine PX5_29 (q := 22) (fs' := [_, _, _, _, _, _, _, _, _]) rfl dX5_throwOne_19 rfl (by first | assumption | exact up_eq | exact (up_ne (by omega)).trans (by first | assumption | exact up_eq | exact (up_ne (by omega)).trans (by first | assumption | exact up_eq | exact (up_ne (by omega)).trans (by first | assumption | exact up_eq)))) (by omega) (by exact (Nat.le_of_ble_eq_true rfl)) (by rfl) ?_
  try rw [up_up]
  refine V_aload_n (q := 23) dX5_throwOne_22 rfl rfl rfl ?_
  refine V_dup (q := 24) dX5_throwOne_23 rfl rfl ?_
  refine GX5_32 (q := 27) rfl dX5_throwOne_24 rfl (by first | assumption | exact up_eq | exact (up_ne (by omega)).trans (by first | assumption | exact up_eq | exact (up_ne (by omega)).trans (by first | assumption | exact up_eq | exact (up_ne (by omega)).trans (by first | assumption | exact up_eq)))) (by omega) (by rfl) ?_
  refine V_iconst (q := 28) (v := nI 1) dX5_throwOne_27 rfl (by decide) ?_
  refine V_iadd (q := 29) dX5_throwOne_28 rfl (by first | exact nI_add _ _ | rfl) ?_
  refine PX5_32 (q := 32) (fs' := [_, _, _, _, _, _, _, _, _]) rfl dX5_throwOne_29 rfl (by first | assumption | exact up_eq | exact (up_ne (by omega)).trans (by first | assumption | exact up_eq | exact (up_ne (by omega)).trans (by first | assumption | exact up_eq | exact (up_ne (by omega)).trans (by first | assumption | exact up_eq)))) (by omega) (by exact (Nat.le_of_ble_eq_true rfl)) (by rfl) ?_
  try rw [up_up]
  refine V_iload_n (q := 33) dX5_throwOne_32 rfl rfl ?_
  refine V_ifN_le (q := 36) (tgt := 46) dX5_throwOne_33 (by decide) rfl (by omega) (fun hz => ?_) (fun hz => ?_)
  · skip
    refine V_aload_n (q := 47) dX5_throwOne_46 rfl rfl rfl ?_
    refine V_aload_n (q := 48) dX5_throwOne_47 rfl rfl rfl ?_
    refine GX5_38 (q := 51) rfl dX5_throwOne_48 rfl (by first | assumption | exact up_eq | exact (up_ne (by omega)).trans (by first | assumption | exact up_eq | exact (up_ne (by omega)).trans (by first | assumption | exact up_eq | exact (up_ne (by omega)).trans (by first | assumption | exact up_eq)))) (by omega) (by rfl) ?_
    refine V_iload_n (q := 52) dX5_throwOne_51 rfl rfl ?_
    refine XX5_65 (q := 55) rfl dX5_throwOne_52 rfl (Nat.le_of_ble_eq_true rfl) (Nat.le_of_ble_eq_true rfl) (Nat.zero_le _) (Nat.zero_le _) e3 ?_
    refine PX5_38 (q := 58) (fs' := [_, _, _, _, _, _, _, _, _]) rfl dX5_throwOne_55 rfl (by first | assumption | exact up_eq | exact (up_ne (by omega)).trans (by first | assumption | exact up_eq | exact (up_ne (by omega)).trans (by first | assumption | exact up_eq | exact (up_ne (by omega)).trans (by first | assumption | exact up_eq)))) (by omega) (by exact (Nat.le_of_ble_eq_true rfl)) (by rfl) ?_
    try rw [up_up]
    exact V_vret dX5_throwOne_58 rfl (Nat.le_of_ble_eq_true rfl) (Nat.le_of_ble_eq_true rfl) (⟨rfl, rfl, by rw [thrS, if_neg (by omega)]; try rfl⟩)
  · skip
    refine V_aload_n (q := 37) dX5_throwOne_36 rfl rfl rfl ?_
    refine V_dup (q := 38) dX5_throwOne_37 rfl rfl ?_
    refine GX5_35 (q := 41) rfl dX5_throwOne_38 rfl (by first | assumption | exact up_eq | exact (up_ne (by omega)).trans (by first | assumption | exact up_eq | exact (up_ne (by omega)).trans (by first | assumption | exact up_eq | exact (up_ne (by omega)).trans (by first | assumption | exact up_eq)))) (by omega) (by rfl) ?_
    refine V_iconst (q := 42) (v := nI 1) dX5_throwOne_41 rfl (by decide) ?_
    refine V_iadd (q := 43) dX5_throwOne_42 rfl (by first | exact nI_add _ _ | rfl) ?_
    refine PX5_35 (q := 46) (fs' := [_, _, _, _, _, _, _, _, _]) rfl dX5_throwOne_43 rfl (by first | assumption | exact up_eq | exact (up_ne (by omega)).trans (by first | assumption | exact up_eq | exact (up_ne (by omega)).trans (by first | assumption | exact up_eq | exact (up_ne (by omega)).trans (by first | assumption | exact up_eq)))) (by omega) (by exact (Nat.le_of_ble_eq_true rfl)) (by rfl) ?_
    try rw [up_up]
    refine V_aload_n (q := 47) dX5_throwOne_46 rfl rfl rfl ?_
    refine V_aload_n (q := 48) dX5_throwOne_47 rfl rfl rfl ?_
    refine GX5_38 (q := 51) rfl dX5_throwOne_48 rfl (by first | assumption | exact up_eq | exact (up_ne (by omega)).trans (by first | assumption | exact up_eq | exact (up_ne (by omega)).trans (by first | assumption | exact up_eq | exact (up_ne (by omega)).trans (by first | assumption | exact up_eq)))) (by omega) (by rfl) ?_
    refine V_iload_n (q := 52) dX5_throwOne_51 rfl rfl ?_
    refine XX5_65 (q := 55) rfl dX5_throwOne_52 rfl (Nat.le_of_ble_eq_true rfl) (Nat.le_of_ble_eq_true rfl) (Nat.zero_le _) (Nat.zero_le _) e3 ?_
    refine PX5_38 (q := 58) (fs' := [_, _, _, _, _, _, _, _, _]) rfl dX5_throwOne_55 rfl (by first | assumption | exact up_eq | exact (up_ne (by omega)).trans (by first | assumption | exact up_eq | exact (up_ne (by omega)).trans (by first | assumption | exact up_eq | exact (up_ne (by omega)).trans (by first | assumption | exact up_eq)))) (by omega) (by exact (Nat.le_of_ble_eq_true rfl)) (by rfl) ?_
    try rw [up_up]
    exact V_vret dX5_throwOne_58 rfl (Nat.le_of_ble_eq_true rfl) (Nat.le_of_ble_eq_true rfl) (⟨rfl, rfl, by rw [thrS, if_pos hz]; try rfl⟩)
end STAND
