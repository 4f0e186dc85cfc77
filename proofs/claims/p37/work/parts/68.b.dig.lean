/-! the law's can, behind, digest -/
theorem rowA_at {N : StT} {i k : Nat} (h : OkN N) (hi : i < sC N) (hk : k < 8) : rowA (nI i) (nI k) N = rowW (sR N i) k := by
  have h6 := h.1
  unfold rowA
  rw [idx_yes hi (by omega)]
  show (match idx (nI k) 8 with | none => -2 | some k => rowW (sR N i) k) = _
  rw [idx_yes hk (by decide)]
theorem thrAt_at {N : StT} {i k : Nat} (h : OkN N) (hi : i < sC N) (hk : k < (sR N i).1) : thrAt (nI i) (nI k) N = nI ((sR N i).2 k) := by
  have h6 := h.1
  obtain ⟨q1, q2, q3⟩ := h.2 i hi
  unfold thrAt
  rw [idx_yes hi (by omega)]
  show (match idx (nI k) (sR N i).1 with | none => -1 | some k => nI ((sR N i).2 k)) = _
  rw [idx_yes hk (by omega)]
theorem thrAt_end {N : StT} {i : Nat} (h : OkN N) (hi : i < sC N) : thrAt (nI i) (nI (sR N i).1) N = -1 := by
  have h6 := h.1
  obtain ⟨q1, q2, q3⟩ := h.2 i hi
  unfold thrAt
  rw [idx_yes hi (by omega)]
  show (match idx (nI (sR N i).1) (sR N i).1 with | none => -1 | some k => nI ((sR N i).2 k)) = _
  rw [idx_no (Or.inr (by rw [nI_leI (by omega) (by omega)]; omega))]
theorem clnA_at {N : StT} {i : Nat} (h : OkN N) (hi : i < sC N) : clnA (nI i) N = if clN (sR N i).2 (sR N i).1 = (sR N i).1 then 1 else 0 := by
  have h6 := h.1
  unfold clnA
  rw [idx_yes hi (by omega)]
theorem stoA_at {N : StT} {i k : Nat} (h : OkN N) (hi : i < sC N) (hk : k < (sR N i).1) : stoA (nI i) (nI k) N = if clN (sR N i).2 (sR N i).1 = (sR N i).1 then nI (stN (sR N i).2 (sR N i).1 k) else -4 := by
  have h6 := h.1
  obtain ⟨q1, q2, q3⟩ := h.2 i hi
  unfold stoA
  rw [idx_yes hi (by omega)]
  show (match idx (nI k) (sR N i).1 with | none => -1 | some k => if clN (sR N i).2 (sR N i).1 = (sR N i).1 then nI (stN (sR N i).2 (sR N i).1 k) else -4) = _
  rw [idx_yes hk (by omega)]
theorem accA_at {X : XT} {k : Nat} (hk : k < 11) : accA (nI k) X = accW X k := by
  unfold accA
  rw [idx_yes hk (by decide)]
theorem jugA_at {N : StT} {k : Nat} (hk : k < 6) : jugA (nI k) N = jugW N k := by
  unfold jugA
  rw [idx_yes hk (by decide)]
theorem tlr_at {X : XT} {i : Nat} (h : OkN (xN X)) (hi : i < sC (xN X)) : tlrA (nI i) X = (nI ((sR (xN X) i).1 + 2), setL X ((sR (xN X) i).1 + 2, lnRow (sR (xN X) i))) := by
  have h6 := h.1
  unfold tlrA
  rw [idx_yes hi (by omega)]
theorem joiA_at {N : StT} {i : Nat} (h : OkN N) (hi : i < sC N) : joiA (nI i) N = if ballI (sR N i).2 (sR N i).1 = nI (popc (sS N)) then nI (dstN (sS N) (stN (sR N i).2 (sR N i).1 0)) else -4 := by
  have h6 := h.1
  unfold joiA
  rw [idx_yes hi (by omega)]
theorem XW.okn {g : GG} {w : HW} {n o : Nat} {X : XT} (h : XW g w n o X) : OkN (xN X) := by
  obtain ⟨B, k0, k1, k2⟩ := h
  exact k1.okn
theorem XW.oks {g : GG} {w : HW} {n o : Nat} {X : XT} (h : XW g w n o X) : OkN (xS X) := by
  obtain ⟨B, k0, k1, k2, k3, k4⟩ := h
  exact k3.okn
/-- the digest -/
def dgF (f : Nat → Int32) : Nat → Int64 → Int64
  | 0, h => h
  | k + 1, h => 31 * dgF f k h + (f k).toInt64
def dgR (N : StT) : Nat → Int64 → Int64
  | 0, h => h
  | r + 1, h => dgF (fun b => nI ((sR N r).2 b)) (sR N r).1 (dgR N r h)
noncomputable def digX (X : XT) : Int64 := dgR (xN X) (sC (xN X)) (dgF (jugW (xN X)) 3 (dgF (accW X) 9 7))
section DIG
variable {g : GG} {l : Launch} {w : HW} {n o : Nat} {X : XT}
theorem c_can {s k : Nat} (hs : s < 512) (hk : k ≤ 9) : CtR g l ML_can 0 [.int (nI s), .int (nI k)] w n (.int (@ite _ (canN s k) (Classical.propDecidable _) 1 0)) := by
  have e1 : nI s &&& nI 1 = nI (s % 2) := fa_mask s 1
  by_cases hc : canN s k
  · rw [if_pos hc]
    by_cases h0 : k = 0
    · subst h0
      have h2 : s % 2 = 0 := by unfold canN at hc; rwa [if_pos rfl] at hc
      refine Ct.ofs (M := ML_can) (ls := [some _, some _]) (by decide +kernel) (by exact (Nat.le_of_ble_eq_true rfl)) (by rfl) (by rfl) (by rfl) ?_
      refine V_iload_n (q := 1) dL_can_0 rfl rfl ?_
      refine V_ifN_ne (q := 4) (tgt := 18) dL_can_1 (by decide) rfl (by omega) (fun h9 => by first | exact h9.elim | exact absurd h9 (by assumption) | (exfalso; omega)) (fun _ => ?_)
      refine V_iload_n (q := 5) dL_can_4 rfl rfl ?_
      refine V_iconst (q := 6) (v := nI 1) dL_can_5 rfl (by decide) ?_
      refine V_iand (q := 7) dL_can_6 rfl e1 ?_
      refine V_ifN_ne (q := 10) (tgt := 14) dL_can_7 (by decide) rfl (by omega) (fun h9 => by first | exact h9.elim | exact absurd h9 (by assumption) | (exfalso; omega)) (fun _ => ?_)
      refine V_iconst (q := 11) (v := nI 1) dL_can_10 rfl (by decide) ?_
      refine V_goto (tgt := 38) dL_can_11 (by decide) ?_
      exact V_zret dL_can_38 rfl (rfl) (Nat.le_of_ble_eq_true rfl) (Nat.le_of_ble_eq_true rfl) (⟨rfl, rfl, rfl⟩)
    · obtain ⟨h1, h2⟩ := (canN_pos (by omega)).mp hc
      have e2 : nI s >>> (nI k &&& 31) = nI (s / 2 ^ k) := shr1 (by omega) (by omega)
      have e3 : nI (s / 2 ^ k) &&& nI 1 = nI (s / 2 ^ k % 2) := fa_mask _ 1
      refine Ct.ofs (M := ML_can) (ls := [some _, some _]) (by decide +kernel) (by exact (Nat.le_of_ble_eq_true rfl)) (by rfl) (by rfl) (by rfl) ?_
      refine V_iload_n (q := 1) dL_can_0 rfl rfl ?_
      refine V_ifN_ne (q := 4) (tgt := 18) dL_can_1 (by decide) rfl (by omega) (fun _ => ?_) (fun h9 => by first | exact h9.elim | (exfalso; omega))
      refine V_iload_n (q := 19) dL_can_18 rfl rfl ?_
      refine V_iconst (q := 20) (v := nI 1) dL_can_19 rfl (by decide) ?_
      refine V_iand (q := 21) dL_can_20 rfl e1 ?_
      refine V_iconst (q := 22) (v := nI 1) dL_can_21 rfl (by decide) ?_
      refine V_icmpN_ne (q := 25) (tgt := 37) dL_can_22 (by decide) rfl (by omega) (by omega) (fun h9 => by first | exact h9.elim | exact absurd h9 (by assumption) | (exfalso; omega)) (fun _ => ?_)
      refine V_iload_n (q := 26) dL_can_25 rfl rfl ?_
      refine V_iload_n (q := 27) dL_can_26 rfl rfl ?_
      refine V_ishr (q := 28) dL_can_27 rfl e2 ?_
      refine V_iconst (q := 29) (v := nI 1) dL_can_28 rfl (by decide) ?_
      refine V_iand (q := 30) dL_can_29 rfl e3 ?_
      refine V_ifN_ne (q := 33) (tgt := 37) dL_can_30 (by decide) rfl (by omega) (fun h9 => by first | exact h9.elim | exact absurd h9 (by assumption) | (exfalso; omega)) (fun _ => ?_)
      refine V_iconst (q := 34) (v := nI 1) dL_can_33 rfl (by decide) ?_
      refine V_goto (tgt := 38) dL_can_34 (by decide) ?_
      exact V_zret dL_can_38 rfl (rfl) (Nat.le_of_ble_eq_true rfl) (Nat.le_of_ble_eq_true rfl) (⟨rfl, rfl, rfl⟩)
  · rw [if_neg hc]
    by_cases h0 : k = 0
    · subst h0
      have h2 : ¬ s % 2 = 0 := fun e => hc (by unfold canN; rwa [if_pos rfl])
      refine Ct.ofs (M := ML_can) (ls := [some _, some _]) (by decide +kernel) (by exact (Nat.le_of_ble_eq_true rfl)) (by rfl) (by rfl) (by rfl) ?_
      refine V_iload_n (q := 1) dL_can_0 rfl rfl ?_
      refine V_ifN_ne (q := 4) (tgt := 18) dL_can_1 (by decide) rfl (by omega) (fun h9 => by first | exact h9.elim | exact absurd h9 (by assumption) | (exfalso; omega)) (fun _ => ?_)
      refine V_iload_n (q := 5) dL_can_4 rfl rfl ?_
      refine V_iconst (q := 6) (v := nI 1) dL_can_5 rfl (by decide) ?_
      refine V_iand (q := 7) dL_can_6 rfl e1 ?_
      refine V_ifN_ne (q := 10) (tgt := 14) dL_can_7 (by decide) rfl (by omega) (fun _ => ?_) (fun h9 => by first | exact h9.elim | (exfalso; omega))
      refine V_iconst (q := 15) (v := nI 0) dL_can_14 rfl (by decide) ?_
      refine V_goto (tgt := 38) dL_can_15 (by decide) ?_
      exact V_zret dL_can_38 rfl (rfl) (Nat.le_of_ble_eq_true rfl) (Nat.le_of_ble_eq_true rfl) (⟨rfl, rfl, rfl⟩)
    · have hn : ¬ (s % 2 = 1 ∧ s / 2 ^ k % 2 = 0) := fun e => hc ((canN_pos (by omega)).mpr e)
      have e2 : nI s >>> (nI k &&& 31) = nI (s / 2 ^ k) := shr1 (by omega) (by omega)
      have e3 : nI (s / 2 ^ k) &&& nI 1 = nI (s / 2 ^ k % 2) := fa_mask _ 1
      refine Ct.ofs (M := ML_can) (ls := [some _, some _]) (by decide +kernel) (by exact (Nat.le_of_ble_eq_true rfl)) (by rfl) (by rfl) (by rfl) ?_
      refine V_iload_n (q := 1) dL_can_0 rfl rfl ?_
      refine V_ifN_ne (q := 4) (tgt := 18) dL_can_1 (by decide) rfl (by omega) (fun _ => ?_) (fun h9 => by first | exact h9.elim | (exfalso; omega))
      refine V_iload_n (q := 19) dL_can_18 rfl rfl ?_
      refine V_iconst (q := 20) (v := nI 1) dL_can_19 rfl (by decide) ?_
      refine V_iand (q := 21) dL_can_20 rfl e1 ?_
      refine V_iconst (q := 22) (v := nI 1) dL_can_21 rfl (by decide) ?_
      refine V_icmpN_ne (q := 25) (tgt := 37) dL_can_22 (by decide) rfl (by omega) (by omega) (fun h1 => ?_) (fun h1 => ?_)
      · skip
        refine V_iconst (q := 38) (v := nI 0) dL_can_37 rfl (by decide) ?_
        exact V_zret dL_can_38 rfl (rfl) (Nat.le_of_ble_eq_true rfl) (Nat.le_of_ble_eq_true rfl) (⟨rfl, rfl, rfl⟩)
      · skip
        refine V_iload_n (q := 26) dL_can_25 rfl rfl ?_
        refine V_iload_n (q := 27) dL_can_26 rfl rfl ?_
        refine V_ishr (q := 28) dL_can_27 rfl e2 ?_
        refine V_iconst (q := 29) (v := nI 1) dL_can_28 rfl (by decide) ?_
        refine V_iand (q := 30) dL_can_29 rfl e3 ?_
        refine V_ifN_ne (q := 33) (tgt := 37) dL_can_30 (by decide) rfl (by omega) (fun _ => ?_) (fun h9 => by first | exact h9.elim | (exfalso; omega))
        refine V_iconst (q := 38) (v := nI 0) dL_can_37 rfl (by decide) ?_
        exact V_zret dL_can_38 rfl (rfl) (Nat.le_of_ble_eq_true rfl) (Nat.le_of_ble_eq_true rfl) (⟨rfl, rfl, rfl⟩)
theorem c_behindL {s k : Nat} (hs : s < 512) (hk : k ≤ 9) : CtR g l ML_behind 0 [.int (nI s), .int (nI k)] w n (.int (nI (behN s k))) := by
  have e1 : nI s >>> (nI 1 &&& 31) = nI (s / 2) := shr1 (k := 1) (by decide) (by omega)
  by_cases h0 : k = 0
  · subst h0
    have e2 : nI (s / 2) ||| nI 0 = nI (behN s 0) := by
      rw [fa_or, Nat.or_zero]
      unfold behN
      rw [if_pos rfl]
    refine Ct.ofs (M := ML_behind) (ls := [some _, some _]) (by decide +kernel) (by exact (Nat.le_of_ble_eq_true rfl)) (by rfl) (by rfl) (by rfl) ?_
    refine V_iload_n (q := 1) dL_behind_0 rfl rfl ?_
    refine V_iconst (q := 2) (v := nI 1) dL_behind_1 rfl (by decide) ?_
    refine V_ishr (q := 3) dL_behind_2 rfl e1 ?_
    refine V_iload_n (q := 4) dL_behind_3 rfl rfl ?_
    refine V_ifN_ne (q := 7) (tgt := 11) dL_behind_4 (by decide) rfl (by omega) (fun h9 => by first | exact h9.elim | exact absurd h9 (by assumption) | (exfalso; omega)) (fun _ => ?_)
    refine V_iconst (q := 8) (v := nI 0) dL_behind_7 rfl (by decide) ?_
    refine V_goto (tgt := 16) dL_behind_8 (by decide) ?_
    refine V_ior (q := 17) dL_behind_16 rfl e2 ?_
    exact V_iret dL_behind_17 rfl (Nat.le_of_ble_eq_true rfl) (Nat.le_of_ble_eq_true rfl) (⟨rfl, rfl, rfl⟩)
  · have e3 : nI 1 <<< (nI (k - 1) &&& 31) = nI (2 ^ (k - 1)) := shl1 (by omega)
    have e2 : nI (s / 2) ||| nI (2 ^ (k - 1)) = nI (behN s k) := by
      rw [fa_or]
      unfold behN
      rw [if_neg h0]
    refine Ct.ofs (M := ML_behind) (ls := [some _, some _]) (by decide +kernel) (by exact (Nat.le_of_ble_eq_true rfl)) (by rfl) (by rfl) (by rfl) ?_
    refine V_iload_n (q := 1) dL_behind_0 rfl rfl ?_
    refine V_iconst (q := 2) (v := nI 1) dL_behind_1 rfl (by decide) ?_
    refine V_ishr (q := 3) dL_behind_2 rfl e1 ?_
    refine V_iload_n (q := 4) dL_behind_3 rfl rfl ?_
    refine V_ifN_ne (q := 7) (tgt := 11) dL_behind_4 (by decide) rfl (by omega) (fun _ => ?_) (fun h9 => by first | exact h9.elim | (exfalso; omega))
    refine V_iconst (q := 12) (v := nI 1) dL_behind_11 rfl (by decide) ?_
    refine V_iload_n (q := 13) dL_behind_12 rfl rfl ?_
    refine V_iconst (q := 14) (v := nI 1) dL_behind_13 rfl (by decide) ?_
    refine V_isub (q := 15) dL_behind_14 rfl (by first | exact pk_sub (by omega) | rfl) ?_
    refine V_ishl (q := 16) dL_behind_15 rfl e3 ?_
    refine V_ior (q := 17) dL_behind_16 rfl e2 ?_
    exact V_iret dL_behind_17 rfl (Nat.le_of_ble_eq_true rfl) (Nat.le_of_ble_eq_true rfl) (⟨rfl, rfl, rfl⟩)
theorem c_digest (hX : XW g w n o X) (hK : OkS (xN X)) : CtR g l ML_digest 5 [rf g o] w n (.long (digX X)) := by
  have hN := hX.okn
  obtain ⟨hob, hn⟩ := hX.obj
  have h6 := hN.1
  have loop3 : ∀ r H, r < sC (xN X) → ∀ f k, k + f = (sR (xN X) r).1 → V g l ML_digest (rmd 5 0 0) (FinM g (qR (.long (digX X)) w n) 0 0) 59 [some (rf g o), some (.long (dgF (fun b => nI ((sR (xN X) r).2 b)) (sR (xN X) r).1 H)), none, some (.int (nI (r + 1))), none] [] (w) n 0 0 → V g l ML_digest (rmd 5 0 0) (FinM g (qR (.long (digX X)) w n) 0 0) 71 [some (rf g o), some (.long (dgF (fun b => nI ((sR (xN X) r).2 b)) k H)), none, some (.int (nI r)), some (.int (nI k))] [] (w) n 0 0 := by
    intro r H hr f
    obtain ⟨q1, q2, q3⟩ := hN.2 r hr
    induction f with
    | zero =>
      intro k hf hgo
      obtain rfl : k = (sR (xN X) r).1 := by omega
      refine V_iload (q := 73) dL_digest_71 rfl rfl ?_
      refine V_aload_n (q := 74) dL_digest_73 rfl rfl rfl ?_
      refine V_iload_n (q := 75) dL_digest_74 rfl rfl ?_
      refine V_iconst (q := 76) (v := nI 0) dL_digest_75 rfl (by decide) ?_
      refine CrL_85 (q := 79) rfl dL_digest_76 rfl (X_rowOf hX) ⟨(Nat.le_of_ble_eq_true rfl), (Nat.le_of_ble_eq_true rfl)⟩ (Nat.le_of_ble_eq_true rfl) (by first | assumption | exact up_eq | exact (up_ne (by omega)).trans (by first | assumption | exact up_eq | exact (up_ne (by omega)).trans (by first | assumption | exact up_eq | exact (up_ne (by omega)).trans (by first | assumption | exact up_eq)))) (by omega) (Nat.zero_le _) (Nat.zero_le _) ?_
      refine V_topi ((rowA_at hN hr (by decide))) ?_
      refine V_topi ((show rowW (sR (xN X) r) 0 = nI (sR (xN X) r).1 from if_pos rfl)) ?_
      refine V_icmpN_ge (q := 82) (tgt := 103) dL_digest_79 (by decide) rfl (by omega) (by omega) (fun _ => ?_) (fun h9 => by first | exact h9.elim | (exfalso; omega))
      refine V_fg 4 (ls2 := [_, _, _, _, none]) (by rfl) ?_
      refine V_iinc (q := 106) (ls' := [_, _, _, _, _]) dL_digest_103 rfl (by decide) (by rfl) rfl (by first | exact inc1 _ | rfl) rfl ?_
      refine V_goto (tgt := 59) dL_digest_106 (by decide) ?_
      exact hgo
    | succ f ih =>
      intro k hf hgo
      refine V_iload (q := 73) dL_digest_71 rfl rfl ?_
      refine V_aload_n (q := 74) dL_digest_73 rfl rfl rfl ?_
      refine V_iload_n (q := 75) dL_digest_74 rfl rfl ?_
      refine V_iconst (q := 76) (v := nI 0) dL_digest_75 rfl (by decide) ?_
      refine CrL_85 (q := 79) rfl dL_digest_76 rfl (X_rowOf hX) ⟨(Nat.le_of_ble_eq_true rfl), (Nat.le_of_ble_eq_true rfl)⟩ (Nat.le_of_ble_eq_true rfl) (by first | assumption | exact up_eq | exact (up_ne (by omega)).trans (by first | assumption | exact up_eq | exact (up_ne (by omega)).trans (by first | assumption | exact up_eq | exact (up_ne (by omega)).trans (by first | assumption | exact up_eq)))) (by omega) (Nat.zero_le _) (Nat.zero_le _) ?_
      refine V_topi ((rowA_at hN hr (by decide))) ?_
      refine V_topi ((show rowW (sR (xN X) r) 0 = nI (sR (xN X) r).1 from if_pos rfl)) ?_
      refine V_icmpN_ge (q := 82) (tgt := 103) dL_digest_79 (by decide) rfl (by omega) (by omega) (fun h9 => by first | exact h9.elim | exact absurd h9 (by assumption) | (exfalso; omega)) (fun _ => ?_)
      refine V_ldc2 (q := 85) (v := 31) dL_digest_82 rfl wd_167 ?_
      refine V_lload_n (q := 86) dL_digest_85 rfl rfl ?_
      refine V_lmul (q := 87) dL_digest_86 rfl rfl ?_
      refine V_aload_n (q := 88) dL_digest_87 rfl rfl rfl ?_
      refine V_iload_n (q := 89) dL_digest_88 rfl rfl ?_
      refine V_iload (q := 91) dL_digest_89 rfl rfl ?_
      refine CrL_88 (q := 94) rfl dL_digest_91 rfl (X_throwAt hX) ⟨(Nat.le_of_ble_eq_true rfl), (Nat.le_of_ble_eq_true rfl)⟩ (Nat.le_of_ble_eq_true rfl) (by first | assumption | exact up_eq | exact (up_ne (by omega)).trans (by first | assumption | exact up_eq | exact (up_ne (by omega)).trans (by first | assumption | exact up_eq | exact (up_ne (by omega)).trans (by first | assumption | exact up_eq)))) (by omega) (Nat.zero_le _) (Nat.zero_le _) ?_
      refine V_topi ((thrAt_at hN hr (by omega))) ?_
      refine V_i2l (q := 95) dL_digest_94 rfl rfl ?_
      refine V_ladd (q := 96) dL_digest_95 rfl rfl ?_
      refine V_lstore_n (q := 97) (ls' := [_, _, _, _, _]) dL_digest_96 rfl (by decide) (by rfl) rfl ?_
      refine V_iinc (q := 100) (ls' := [_, _, _, _, _]) dL_digest_97 rfl (by decide) (by rfl) rfl (by first | exact inc1 _ | rfl) rfl ?_
      refine V_goto (tgt := 71) dL_digest_100 (by decide) ?_
      exact ih (k + 1) (by omega) hgo
  have loop2 : ∀ f r, r + f = sC (xN X) → V g l ML_digest (rmd 5 0 0) (FinM g (qR (.long (digX X)) w n) 0 0) 59 [some (rf g o), some (.long (dgR (xN X) r (dgF (jugW (xN X)) 3 (dgF (accW X) 9 7)))), none, some (.int (nI r)), none] [] (w) n 0 0 := by
    intro f
    induction f with
    | zero =>
      intro r hf
      obtain rfl : r = sC (xN X) := by omega
      refine V_iload_n (q := 60) dL_digest_59 rfl rfl ?_
      refine V_aload_n (q := 61) dL_digest_60 rfl rfl rfl ?_
      refine V_iconst (q := 62) (v := nI 0) dL_digest_61 rfl (by decide) ?_
      refine CrL_79 (q := 65) rfl dL_digest_62 rfl (X_account hX) ⟨(Nat.le_of_ble_eq_true rfl), (Nat.le_of_ble_eq_true rfl)⟩ (Nat.le_of_ble_eq_true rfl) (by first | assumption | exact up_eq | exact (up_ne (by omega)).trans (by first | assumption | exact up_eq | exact (up_ne (by omega)).trans (by first | assumption | exact up_eq | exact (up_ne (by omega)).trans (by first | assumption | exact up_eq)))) (by omega) (Nat.zero_le _) (Nat.zero_le _) ?_
      refine V_topi ((accA_at (by decide))) ?_
      refine V_topi ((show accW X 0 = nI (sC (xN X)) from if_pos rfl)) ?_
      refine V_icmpN_ge (q := 68) (tgt := 109) dL_digest_65 (by decide) rfl (by omega) (by omega) (fun _ => ?_) (fun h9 => by first | exact h9.elim | (exfalso; omega))
      refine V_lload_n (q := 110) dL_digest_109 rfl rfl ?_
      exact V_jret dL_digest_110 rfl (Nat.le_of_ble_eq_true rfl) (Nat.le_of_ble_eq_true rfl) (⟨rfl, rfl, rfl⟩)
    | succ f ih =>
      intro r hf
      refine V_iload_n (q := 60) dL_digest_59 rfl rfl ?_
      refine V_aload_n (q := 61) dL_digest_60 rfl rfl rfl ?_
      refine V_iconst (q := 62) (v := nI 0) dL_digest_61 rfl (by decide) ?_
      refine CrL_79 (q := 65) rfl dL_digest_62 rfl (X_account hX) ⟨(Nat.le_of_ble_eq_true rfl), (Nat.le_of_ble_eq_true rfl)⟩ (Nat.le_of_ble_eq_true rfl) (by first | assumption | exact up_eq | exact (up_ne (by omega)).trans (by first | assumption | exact up_eq | exact (up_ne (by omega)).trans (by first | assumption | exact up_eq | exact (up_ne (by omega)).trans (by first | assumption | exact up_eq)))) (by omega) (Nat.zero_le _) (Nat.zero_le _) ?_
      refine V_topi ((accA_at (by decide))) ?_
      refine V_topi ((show accW X 0 = nI (sC (xN X)) from if_pos rfl)) ?_
      refine V_icmpN_ge (q := 68) (tgt := 109) dL_digest_65 (by decide) rfl (by omega) (by omega) (fun h9 => by first | exact h9.elim | exact absurd h9 (by assumption) | (exfalso; omega)) (fun _ => ?_)
      refine V_iconst (q := 69) (v := nI 0) dL_digest_68 rfl (by decide) ?_
      refine V_istore (q := 71) (ls' := [_, _, _, _, _]) dL_digest_69 rfl (by decide) (by rfl) rfl ?_
      exact loop3 r _ (by omega) _ 0 (Nat.zero_add _) (ih (r + 1) (by omega))
  have loop1 : ∀ f k, k + f = 3 → V g l ML_digest (rmd 5 0 0) (FinM g (qR (.long (digX X)) w n) 0 0) 33 [some (rf g o), some (.long (dgF (jugW (xN X)) k (dgF (accW X) 9 7))), none, some (.int (nI k)), none] [] (w) n 0 0 := by
    intro f
    induction f with
    | zero =>
      intro k hf
      obtain rfl : k = 3 := by omega
      refine V_iload_n (q := 34) dL_digest_33 rfl rfl ?_
      refine V_iconst (q := 35) (v := nI 3) dL_digest_34 rfl (by decide) ?_
      refine V_icmpN_ge (q := 38) (tgt := 57) dL_digest_35 (by decide) rfl (by omega) (by omega) (fun _ => ?_) (fun h9 => by first | exact h9.elim | (exfalso; omega))
      refine V_iconst (q := 58) (v := nI 0) dL_digest_57 rfl (by decide) ?_
      refine V_istore_n (q := 59) (ls' := [_, _, _, _, _]) dL_digest_58 rfl (by decide) (by rfl) rfl ?_
      exact loop2 _ 0 (Nat.zero_add _)
    | succ f ih =>
      intro k hf
      refine V_iload_n (q := 34) dL_digest_33 rfl rfl ?_
      refine V_iconst (q := 35) (v := nI 3) dL_digest_34 rfl (by decide) ?_
      refine V_icmpN_ge (q := 38) (tgt := 57) dL_digest_35 (by decide) rfl (by omega) (by omega) (fun h9 => by first | exact h9.elim | exact absurd h9 (by assumption) | (exfalso; omega)) (fun _ => ?_)
      refine V_ldc2 (q := 41) (v := 31) dL_digest_38 rfl wd_167 ?_
      refine V_lload_n (q := 42) dL_digest_41 rfl rfl ?_
      refine V_lmul (q := 43) dL_digest_42 rfl rfl ?_
      refine V_aload_n (q := 44) dL_digest_43 rfl rfl rfl ?_
      refine V_iload_n (q := 45) dL_digest_44 rfl rfl ?_
      refine CrL_82 (q := 48) rfl dL_digest_45 rfl (X_juggler hX hK) ⟨(Nat.le_of_ble_eq_true rfl), (Nat.le_of_ble_eq_true rfl)⟩ (Nat.le_of_ble_eq_true rfl) (by first | assumption | exact up_eq | exact (up_ne (by omega)).trans (by first | assumption | exact up_eq | exact (up_ne (by omega)).trans (by first | assumption | exact up_eq | exact (up_ne (by omega)).trans (by first | assumption | exact up_eq)))) (by omega) (Nat.zero_le _) (Nat.zero_le _) ?_
      refine V_topi ((jugA_at (by omega))) ?_
      refine V_i2l (q := 49) dL_digest_48 rfl rfl ?_
      refine V_ladd (q := 50) dL_digest_49 rfl rfl ?_
      refine V_lstore_n (q := 51) (ls' := [_, _, _, _, _]) dL_digest_50 rfl (by decide) (by rfl) rfl ?_
      refine V_iinc (q := 54) (ls' := [_, _, _, _, _]) dL_digest_51 rfl (by decide) (by rfl) rfl (by first | exact inc1 _ | rfl) rfl ?_
      refine V_goto (tgt := 33) dL_digest_54 (by decide) ?_
      exact ih (k + 1) (by omega)
  have loop0 : ∀ f k, k + f = 9 → V g l ML_digest (rmd 5 0 0) (FinM g (qR (.long (digX X)) w n) 0 0) 6 [some (rf g o), some (.long (dgF (accW X) k 7)), none, some (.int (nI k)), none] [] (w) n 0 0 := by
    intro f
    induction f with
    | zero =>
      intro k hf
      obtain rfl : k = 9 := by omega
      refine V_iload_n (q := 7) dL_digest_6 rfl rfl ?_
      refine V_bipush (q := 9) (v := nI 9) dL_digest_7 rfl (by decide) ?_
      refine V_icmpN_ge (q := 12) (tgt := 31) dL_digest_9 (by decide) rfl (by omega) (by omega) (fun _ => ?_) (fun h9 => by first | exact h9.elim | (exfalso; omega))
      refine V_iconst (q := 32) (v := nI 0) dL_digest_31 rfl (by decide) ?_
      refine V_istore_n (q := 33) (ls' := [_, _, _, _, _]) dL_digest_32 rfl (by decide) (by rfl) rfl ?_
      exact loop1 _ 0 (Nat.zero_add _)
    | succ f ih =>
      intro k hf
      refine V_iload_n (q := 7) dL_digest_6 rfl rfl ?_
      refine V_bipush (q := 9) (v := nI 9) dL_digest_7 rfl (by decide) ?_
      refine V_icmpN_ge (q := 12) (tgt := 31) dL_digest_9 (by decide) rfl (by omega) (by omega) (fun h9 => by first | exact h9.elim | exact absurd h9 (by assumption) | (exfalso; omega)) (fun _ => ?_)
      refine V_ldc2 (q := 15) (v := 31) dL_digest_12 rfl wd_167 ?_
      refine V_lload_n (q := 16) dL_digest_15 rfl rfl ?_
      refine V_lmul (q := 17) dL_digest_16 rfl rfl ?_
      refine V_aload_n (q := 18) dL_digest_17 rfl rfl rfl ?_
      refine V_iload_n (q := 19) dL_digest_18 rfl rfl ?_
      refine CrL_79 (q := 22) rfl dL_digest_19 rfl (X_account hX) ⟨(Nat.le_of_ble_eq_true rfl), (Nat.le_of_ble_eq_true rfl)⟩ (Nat.le_of_ble_eq_true rfl) (by first | assumption | exact up_eq | exact (up_ne (by omega)).trans (by first | assumption | exact up_eq | exact (up_ne (by omega)).trans (by first | assumption | exact up_eq | exact (up_ne (by omega)).trans (by first | assumption | exact up_eq)))) (by omega) (Nat.zero_le _) (Nat.zero_le _) ?_
      refine V_topi ((accA_at (by omega))) ?_
      refine V_i2l (q := 23) dL_digest_22 rfl rfl ?_
      refine V_ladd (q := 24) dL_digest_23 rfl rfl ?_
      refine V_lstore_n (q := 25) (ls' := [_, _, _, _, _]) dL_digest_24 rfl (by decide) (by rfl) rfl ?_
      refine V_iinc (q := 28) (ls' := [_, _, _, _, _]) dL_digest_25 rfl (by decide) (by rfl) rfl (by first | exact inc1 _ | rfl) rfl ?_
      refine V_goto (tgt := 6) dL_digest_28 (by decide) ?_
      exact ih (k + 1) (by omega)
  refine Ct.ofs (M := ML_digest) (ls := [some _, none, none, none, none]) (by decide +kernel) (by exact (Nat.le_of_ble_eq_true rfl)) (by rfl) (by rfl) (by rfl) ?_
  refine V_ldc2 (q := 3) (v := 7) dL_digest_0 rfl wd_166 ?_
  refine V_lstore_n (q := 4) (ls' := [_, _, _, _, _]) dL_digest_3 rfl (by decide) (by rfl) rfl ?_
  refine V_iconst (q := 5) (v := nI 0) dL_digest_4 rfl (by decide) ?_
  refine V_istore_n (q := 6) (ls' := [_, _, _, _, _]) dL_digest_5 rfl (by decide) (by rfl) rfl ?_
  exact loop0 _ 0 (Nat.zero_add _)
end DIG
