/-! the law's texts: length, charAt, write; cell -/
def txN : List (List Nat) := bytT.map (fun l => l.map (fun b => b.toInt.toNat))
def txc (i k : Nat) : Nat := (txN.getD i []).getD k 0
theorem tx_ok : ∀ i, i < 26 → lenT.getD i 0 < 12 ∧ ∀ k, k < lenT.getD i 0 → (bytT.getD i []).getD k 0 = nI (txc i k) ∧ nI (txc i k) &&& nI 255 = nI (txc i k) ∧ 32 ≤ txc i k ∧ txc i k ≤ 126 := by decide +kernel
section STR
variable {g : GG} {l : Launch} {w : HW} {n o i : Nat} {X : XT}
theorem c_isLatin (hi : i < 26) : CtR g l MJ0_isLatin1_aae02 0 [.ref (sK g i)] w n (.int 1) := by
  refine Ct.ofs (M := MJ0_isLatin1_aae02) (ls := [some _]) (by decide +kernel) (by exact (Nat.le_of_ble_eq_true rfl)) (by rfl) (by rfl) (by rfl) ?_
  refine V_getSt (q := 3) dJ0_isLatin1_aae02_0 rfl wd_415 ?_
  refine V_if_eq (q := 6) (tgt := 17) dJ0_isLatin1_aae02_3 (by decide) rfl (fun h9 => absurd h9 (by decide)) (fun _ => ?_)
  refine V_aload_n (q := 7) dJ0_isLatin1_aae02_6 rfl rfl rfl ?_
  refine V_getS (q := 10) (by assumption) (fun U H h => ((h.1 _ (by assumption)).1 0 (by decide)).2.1) dJ0_isLatin1_aae02_7 rfl wd_416 ?_
  refine V_if_ne (q := 13) (tgt := 17) dJ0_isLatin1_aae02_10 (by decide) rfl (fun h9 => absurd rfl h9) (fun _ => ?_)
  refine V_iconst (q := 14) (v := nI 1) dJ0_isLatin1_aae02_13 rfl (by decide) ?_
  refine V_goto (tgt := 18) dJ0_isLatin1_aae02_14 (by decide) ?_
  exact V_zret dJ0_isLatin1_aae02_18 rfl (rfl) (Nat.le_of_ble_eq_true rfl) (Nat.le_of_ble_eq_true rfl) (⟨rfl, rfl, rfl⟩)
theorem c_coder (hi : i < 26) : CtR g l MJ0_coder_7d493 0 [.ref (sK g i)] w n (.int 0) := by
  refine Ct.ofs (M := MJ0_coder_7d493) (ls := [some _]) (by decide +kernel) (by exact (Nat.le_of_ble_eq_true rfl)) (by rfl) (by rfl) (by rfl) ?_
  refine V_getSt (q := 3) dJ0_coder_7d493_0 rfl wd_415 ?_
  refine V_if_eq (q := 6) (tgt := 13) dJ0_coder_7d493_3 (by decide) rfl (fun h9 => absurd h9 (by decide)) (fun _ => ?_)
  refine V_aload_n (q := 7) dJ0_coder_7d493_6 rfl rfl rfl ?_
  refine V_getS (q := 10) (by assumption) (fun U H h => ((h.1 _ (by assumption)).1 0 (by decide)).2.1) dJ0_coder_7d493_7 rfl wd_416 ?_
  refine V_goto (tgt := 14) dJ0_coder_7d493_10 (by decide) ?_
  exact V_zret dJ0_coder_7d493_14 rfl (rfl) (Nat.le_of_ble_eq_true rfl) (Nat.le_of_ble_eq_true rfl) (⟨rfl, rfl, rfl⟩)
theorem c_slen (hi : i < 26) : CtR g l MJ0_length_8abf5 1 [.ref (sK g i)] w n (.int (nI (lenT.getD i 0))) := by
  have hl := (tx_ok i hi).1
  refine Ct.ofs (M := MJ0_length_8abf5) (ls := [some _]) (by decide +kernel) (by exact (Nat.le_of_ble_eq_true rfl)) (by rfl) (by rfl) (by rfl) ?_
  refine V_aload_n (q := 1) dJ0_length_8abf5_0 rfl rfl rfl ?_
  refine V_getS (q := 4) (by assumption) (fun U H h => ((h.1 _ (by assumption)).1 0 (by decide)).2.2.1) dJ0_length_8abf5_1 rfl wd_410 ?_
  refine V_blen (by assumption) (q := 5) dJ0_length_8abf5_4 rfl ?_
  refine V_aload_n (q := 6) dJ0_length_8abf5_5 rfl rfl rfl ?_
  refine CrJ0_335 (q := 9) rfl (by assumption) dJ0_length_8abf5_6 rfl (c_coder hi) ⟨(Nat.le_of_ble_eq_true rfl), (Nat.le_of_ble_eq_true rfl)⟩ (Nat.le_of_ble_eq_true rfl) (Nat.zero_le _) (Nat.zero_le _) ?_
  refine V_ishr (q := 10) dJ0_length_8abf5_9 rfl (shr1 (k := 0) (by decide) (by omega)) ?_
  refine V_topi (congrArg nI (Nat.div_one _)) ?_
  exact V_iret dJ0_length_8abf5_10 rfl (Nat.le_of_ble_eq_true rfl) (Nat.le_of_ble_eq_true rfl) (⟨rfl, rfl, rfl⟩)
theorem c_pCheckN {k N : Nat} (hk : k < N) (hN : N < 2 ^ 31) : CtR g l MJ3_checkIndex_8e157 0 [.int (nI k), .int (nI N), .null] w n (.int (nI k)) := by
  refine Ct.ofs (M := MJ3_checkIndex_8e157) (ls := [some _, some _, some _]) (by decide +kernel) (by exact (Nat.le_of_ble_eq_true rfl)) (by rfl) (by rfl) (by rfl) ?_
  refine V_iload_n (q := 1) dJ3_checkIndex_8e157_0 rfl rfl ?_
  refine V_ifN_lt (q := 4) (tgt := 9) dJ3_checkIndex_8e157_1 (by decide) rfl (by omega) (fun h9 => by first | exact h9.elim | exact absurd h9 (by assumption) | (exfalso; omega)) (fun _ => ?_)
  refine V_iload_n (q := 5) dJ3_checkIndex_8e157_4 rfl rfl ?_
  refine V_iload_n (q := 6) dJ3_checkIndex_8e157_5 rfl rfl ?_
  refine V_icmpN_lt (q := 9) (tgt := 16) dJ3_checkIndex_8e157_6 (by decide) rfl (by omega) (by omega) (fun _ => ?_) (fun h9 => by first | exact h9.elim | (exfalso; omega))
  refine V_iload_n (q := 17) dJ3_checkIndex_8e157_16 rfl rfl ?_
  exact V_iret dJ3_checkIndex_8e157_17 rfl (Nat.le_of_ble_eq_true rfl) (Nat.le_of_ble_eq_true rfl) (⟨rfl, rfl, rfl⟩)
theorem c_pCheckR {k N a : Nat} (hk : k < N) (hN : N < 2 ^ 31) : CtR g l MJ3_checkIndex_8e157 0 [.int (nI k), .int (nI N), .ref a] w n (.int (nI k)) := by
  refine Ct.ofs (M := MJ3_checkIndex_8e157) (ls := [some _, some _, some _]) (by decide +kernel) (by exact (Nat.le_of_ble_eq_true rfl)) (by rfl) (by rfl) (by rfl) ?_
  refine V_iload_n (q := 1) dJ3_checkIndex_8e157_0 rfl rfl ?_
  refine V_ifN_lt (q := 4) (tgt := 9) dJ3_checkIndex_8e157_1 (by decide) rfl (by omega) (fun h9 => by first | exact h9.elim | exact absurd h9 (by assumption) | (exfalso; omega)) (fun _ => ?_)
  refine V_iload_n (q := 5) dJ3_checkIndex_8e157_4 rfl rfl ?_
  refine V_iload_n (q := 6) dJ3_checkIndex_8e157_5 rfl rfl ?_
  refine V_icmpN_lt (q := 9) (tgt := 16) dJ3_checkIndex_8e157_6 (by decide) rfl (by omega) (by omega) (fun _ => ?_) (fun h9 => by first | exact h9.elim | (exfalso; omega))
  refine V_iload_n (q := 17) dJ3_checkIndex_8e157_16 rfl rfl ?_
  exact V_iret dJ3_checkIndex_8e157_17 rfl (Nat.le_of_ble_eq_true rfl) (Nat.le_of_ble_eq_true rfl) (⟨rfl, rfl, rfl⟩)
theorem c_sCheck {k N : Nat} (hk : k < N) (hN : N < 2 ^ 31) : CtV g l MJ0_checkIndex_df160 1 [.int (nI k), .int (nI N)] w n (fun w' => w' = w) := by
  refine Ct.ofs (M := MJ0_checkIndex_df160) (ls := [some _, some _]) (by decide +kernel) (by exact (Nat.le_of_ble_eq_true rfl)) (by rfl) (by rfl) (by rfl) ?_
  refine V_iload_n (q := 1) dJ0_checkIndex_df160_0 rfl rfl ?_
  refine V_iload_n (q := 2) dJ0_checkIndex_df160_1 rfl rfl ?_
  refine V_getFm (q := 5) dJ0_checkIndex_df160_2 rfl wd_432 (fun v hv => ?_)
  rcases hv with rfl | ⟨a, rfl⟩
  · skip
    refine CrJ0_1059 (q := 8) rfl dJ0_checkIndex_df160_5 rfl (c_pCheckN hk hN) ⟨(Nat.le_of_ble_eq_true rfl), (Nat.le_of_ble_eq_true rfl)⟩ (Nat.le_of_ble_eq_true rfl) (Nat.zero_le _) (Nat.zero_le _) ?_
    refine V_pop (q := 9) dJ0_checkIndex_df160_8 rfl rfl ?_
    exact V_vret dJ0_checkIndex_df160_9 rfl (Nat.le_of_ble_eq_true rfl) (Nat.le_of_ble_eq_true rfl) (⟨rfl, rfl, rfl⟩)
  · skip
    refine CrJ0_1059 (q := 8) rfl dJ0_checkIndex_df160_5 rfl (c_pCheckR hk hN) ⟨(Nat.le_of_ble_eq_true rfl), (Nat.le_of_ble_eq_true rfl)⟩ (Nat.le_of_ble_eq_true rfl) (Nat.zero_le _) (Nat.zero_le _) ?_
    refine V_pop (q := 9) dJ0_checkIndex_df160_8 rfl rfl ?_
    exact V_vret dJ0_checkIndex_df160_9 rfl (Nat.le_of_ble_eq_true rfl) (Nat.le_of_ble_eq_true rfl) (⟨rfl, rfl, rfl⟩)
theorem nar_ch {c : Nat} (h : c < 65536) : narrow .char (.int (nI c)) = .int (nI c) := congrArg Value.int (narC h)
theorem c_l1char {k : Nat} (hi : i < 26) (hk : k < lenT.getD i 0) : CtR g l MJ1_charAt_3b067 2 [.ref (sV g i), .int (nI k)] w n (.int (nI (txc i k))) := by
  have hl := (tx_ok i hi).1
  obtain ⟨e1, e2, e3, e4⟩ := (tx_ok i hi).2 k hk
  refine Ct.ofs (M := MJ1_charAt_3b067) (ls := [some _, some _]) (by decide +kernel) (by exact (Nat.le_of_ble_eq_true rfl)) (by rfl) (by rfl) (by rfl) ?_
  refine V_iload_n (q := 1) dJ1_charAt_3b067_0 rfl rfl ?_
  refine V_aload_n (q := 2) dJ1_charAt_3b067_1 rfl rfl rfl ?_
  refine V_blen (by assumption) (q := 3) dJ1_charAt_3b067_2 rfl ?_
  refine CvJ1_9 (q := 6) rfl dJ1_charAt_3b067_3 rfl ((c_sCheck hk (by omega))) ⟨(Nat.le_of_ble_eq_true rfl), (Nat.le_of_ble_eq_true rfl)⟩ (Nat.le_of_ble_eq_true rfl) (Nat.zero_le _) (Nat.zero_le _) (fun w1 h1 => ?_)
  subst h1
  refine V_aload_n (q := 7) dJ1_charAt_3b067_6 rfl rfl rfl ?_
  refine V_iload_n (q := 8) dJ1_charAt_3b067_7 rfl rfl ?_
  refine V_bald (by assumption) (q := 9) dJ1_charAt_3b067_8 rfl (by omega) (by omega) rfl e1 ?_
  refine V_sipush (q := 12) (v := nI 255) dJ1_charAt_3b067_9 rfl (by decide) ?_
  refine V_iand (q := 13) dJ1_charAt_3b067_12 rfl e2 ?_
  refine V_i2c (q := 14) dJ1_charAt_3b067_13 rfl (i2cN (by omega)) ?_
  exact V_zret dJ1_charAt_3b067_14 rfl (nar_ch (by omega)) (Nat.le_of_ble_eq_true rfl) (Nat.le_of_ble_eq_true rfl) (⟨rfl, rfl, rfl⟩)
theorem c_charAt {k : Nat} (hi : i < 26) (hk : k < lenT.getD i 0) : CtR g l MJ0_charAt_5068e 4 [.ref (sK g i), .int (nI k)] w n (.int (nI (txc i k))) := by
  obtain ⟨e1, e2, e3, e4⟩ := (tx_ok i hi).2 k hk
  refine Ct.ofs (M := MJ0_charAt_5068e) (ls := [some _, some _]) (by decide +kernel) (by exact (Nat.le_of_ble_eq_true rfl)) (by rfl) (by rfl) (by rfl) ?_
  refine V_aload_n (q := 1) dJ0_charAt_5068e_0 rfl rfl rfl ?_
  refine CrJ0_492 (q := 4) rfl (by assumption) dJ0_charAt_5068e_1 rfl (c_isLatin hi) ⟨(Nat.le_of_ble_eq_true rfl), (Nat.le_of_ble_eq_true rfl)⟩ (Nat.le_of_ble_eq_true rfl) (Nat.zero_le _) (Nat.zero_le _) ?_
  refine V_if_eq (q := 7) (tgt := 16) dJ0_charAt_5068e_4 (by decide) rfl (fun h9 => absurd h9 (by decide)) (fun _ => ?_)
  refine V_aload_n (q := 8) dJ0_charAt_5068e_7 rfl rfl rfl ?_
  refine V_getS (q := 11) (by assumption) (fun U H h => ((h.1 _ (by assumption)).1 0 (by decide)).2.2.1) dJ0_charAt_5068e_8 rfl wd_410 ?_
  refine V_iload_n (q := 12) dJ0_charAt_5068e_11 rfl rfl ?_
  refine CrJ0_495 (q := 15) rfl dJ0_charAt_5068e_12 rfl (c_l1char hi hk) ⟨(Nat.le_of_ble_eq_true rfl), (Nat.le_of_ble_eq_true rfl)⟩ (Nat.le_of_ble_eq_true rfl) (Nat.zero_le _) (Nat.zero_le _) ?_
  exact V_zret dJ0_charAt_5068e_15 rfl (nar_ch (by omega)) (Nat.le_of_ble_eq_true rfl) (Nat.le_of_ble_eq_true rfl) (⟨rfl, rfl, rfl⟩)
theorem XW.obj (h : XW g w n o X) : w o = eO 7 (xfs g o (nI (xH X))) ∧ o + 167 ≤ n := by
  obtain ⟨B, h0, h1, h2, h3, h4, h5, h6, h7, h8, h9, h10⟩ := h
  exact ⟨h0, h10⟩
theorem XW.txt0 {t : Nat → Nat} (h : XW g w n o X) (h0 : (xT X).1 = 0) : XW g w n o (setT X (0, t)) := by
  obtain ⟨B, k0, k1, k2, k3, k4, k5, k6, k7, k8, k9, k10⟩ := h
  refine ⟨B, k0, k1, k2, k3, k4, k5, k6, ?_, k8, k9, k10⟩
  obtain ⟨C, e1, e2, e3, e4, e5⟩ := k7
  rw [h0] at e1
  exact ⟨C, e1, e2, e3, Nat.zero_le _, fun j hj => absurd hj (Nat.not_lt_zero j)⟩
theorem putN_self (c : Nat → Nat) (k : Nat) : putN c k (c k) = c := by
  funext j
  unfold putN
  split
  · subst_vars; rfl
  · rfl
theorem app_tx {k : Nat} (hi : i < 26) (hk : k < lenT.getD i 0) : appA (nI (txc i k)) (setT X (k, txc i)) = (nI (k + 1), setT X (k + 1, txc i)) := by
  have hl := (tx_ok i hi).1
  obtain ⟨e1, e2, e3, e4⟩ := (tx_ok i hi).2 k hk
  unfold appA
  rw [idx_yes (c := 127) (by omega) (by decide)]
  show (if txc i k < 32 ∨ k = 70 then (-2, setT X (k, txc i)) else (nI (k + 1), setT (setT X (k, txc i)) (k + 1, putN (txc i) k (txc i k)))) = _
  rw [if_neg (by omega), putN_self]
  rfl
def WrQ (g : GG) (w : HW) (n o i : Nat) (X : XT) : QQ := fun v' w' n' => n' = n ∧ v' = some (rf g o) ∧ (XW g w' n o (setT X (lenT.getD i 0, txc i)) ∧ FrX w w' o)
theorem c_write (hi : i < 26) (hX : XW g w n o X) (h0 : (xT X).1 = 0) : Ct g l ML_write 5 [rf g o, .ref (sK g i)] w n (WrQ g w n o i X) 0 0 := by
  have hl := (tx_ok i hi).1
  have loop : ∀ f k w', k + f = lenT.getD i 0 → XW g w' n o (setT X (k, txc i)) → FrX w w' o → V g l ML_write (rmd 5 0 0) (FinM g (WrQ g w n o i X) 0 0) 2 [some (rf g o), some (.ref (sK g i)), some (.int (nI k))] [] (w') n 0 0 := by
    intro f
    induction f with
    | zero =>
      intro k w' hf hX' hF
      refine V_iload_n (q := 3) dL_write_2 rfl rfl ?_
      refine V_aload_n (q := 4) dL_write_3 rfl rfl rfl ?_
      refine CrL_8 (q := 7) rfl (by assumption) dL_write_4 rfl (c_slen hi) ⟨(Nat.le_of_ble_eq_true rfl), (Nat.le_of_ble_eq_true rfl)⟩ (Nat.le_of_ble_eq_true rfl) (Nat.zero_le _) (Nat.zero_le _) ?_
      refine V_icmpN_ge (q := 10) (tgt := 26) dL_write_7 (by decide) rfl (by omega) (by omega) (fun _ => ?_) (fun h9 => by first | exact h9.elim | (exfalso; omega))
      refine V_aload_n (q := 27) dL_write_26 rfl rfl rfl ?_
      obtain rfl : k = lenT.getD i 0 := by omega
      exact V_aret dL_write_27 rfl (Or.inr ⟨_, rfl⟩) (Nat.le_of_ble_eq_true rfl) (Nat.le_of_ble_eq_true rfl) (⟨rfl, rfl, hX', hF⟩)
    | succ f ih =>
      intro k w' hf hX' hF
      refine V_iload_n (q := 3) dL_write_2 rfl rfl ?_
      refine V_aload_n (q := 4) dL_write_3 rfl rfl rfl ?_
      refine CrL_8 (q := 7) rfl (by assumption) dL_write_4 rfl (c_slen hi) ⟨(Nat.le_of_ble_eq_true rfl), (Nat.le_of_ble_eq_true rfl)⟩ (Nat.le_of_ble_eq_true rfl) (Nat.zero_le _) (Nat.zero_le _) ?_
      refine V_icmpN_ge (q := 10) (tgt := 26) dL_write_7 (by decide) rfl (by omega) (by omega) (fun h9 => by first | exact h9.elim | exact absurd h9 (by assumption) | (exfalso; omega)) (fun _ => ?_)
      refine V_aload_n (q := 11) dL_write_10 rfl rfl rfl ?_
      refine V_aload_n (q := 12) dL_write_11 rfl rfl rfl ?_
      refine V_iload_n (q := 13) dL_write_12 rfl rfl ?_
      refine CrL_14 (q := 16) rfl (by assumption) dL_write_13 rfl (c_charAt hi (by omega)) ⟨(Nat.le_of_ble_eq_true rfl), (Nat.le_of_ble_eq_true rfl)⟩ (Nat.le_of_ble_eq_true rfl) (Nat.zero_le _) (Nat.zero_le _) ?_
      obtain ⟨hob, hn⟩ := hX'.obj
      refine CiL_18 (q := 19) rfl dL_write_16 rfl ((X_append hX')) ⟨(Nat.le_of_ble_eq_true rfl), (Nat.le_of_ble_eq_true rfl)⟩ (Nat.le_of_ble_eq_true rfl) (by first | assumption | exact up_eq | exact (up_ne (by omega)).trans (by first | assumption | exact up_eq | exact (up_ne (by omega)).trans (by first | assumption | exact up_eq | exact (up_ne (by omega)).trans (by first | assumption | exact up_eq)))) (by omega) (Nat.zero_le _) (Nat.zero_le _) (fun y w2 h2 => ?_)
      rw [app_tx hi (by omega)] at h2
      obtain ⟨-, hX2, hF2⟩ := h2
      refine V_pop (q := 20) dL_write_19 rfl rfl ?_
      refine V_iinc (q := 23) (ls' := [_, _, _]) dL_write_20 rfl (by decide) (by rfl) rfl (by first | exact inc1 _ | rfl) rfl ?_
      refine V_goto (tgt := 2) dL_write_23 (by decide) ?_
      exact ih (k + 1) w2 (by omega) hX2 (hF.tr hF2)
  refine Ct.ofs (M := ML_write) (ls := [some _, some _, none]) (by decide +kernel) (by exact (Nat.le_of_ble_eq_true rfl)) (by rfl) (by rfl) (by rfl) ?_
  refine V_iconst (q := 1) (v := nI 0) dL_write_0 rfl (by decide) ?_
  refine V_istore_n (q := 2) (ls' := [_, _, _]) dL_write_1 rfl (by decide) (by rfl) rfl ?_
  exact loop (lenT.getD i 0) 0 w (by omega) (hX.txt0 h0) (fun _ _ => rfl)
theorem c_cell {k : Nat} (hk : k < g.2.2.2.2.2.1) (hs : g.2.2.2.2.2.1 < 2 ^ 31) (hk2 : k < 65536) : CtR g l ML_cell 0 [.ref g.2.2.2.2.1, .int (nI k)] w n (.int (g.2.2.2.2.2.2 k)) := by
  have e1 : nI k &&& nI 65535 = nI k := by
    rw [fa_and, show 65535 = 2 ^ 16 - 1 by rfl, Nat.and_two_pow_sub_one_eq_mod, Nat.mod_eq_of_lt (by omega)]
  have e2 : nI k - nI k / nI g.2.2.2.2.2.1 * nI g.2.2.2.2.2.1 = nI k := by
    rw [pk_rem (by omega) (by omega) (by omega), Nat.mod_eq_of_lt hk]
  refine Ct.ofs (M := ML_cell) (ls := [some _, some _]) (by decide +kernel) (by exact (Nat.le_of_ble_eq_true rfl)) (by rfl) (by rfl) (by rfl) ?_
  refine V_aload_n (q := 1) dL_cell_0 rfl rfl rfl ?_
  refine V_slen (q := 2) dL_cell_1 rfl ?_
  refine V_ifN_ne (q := 5) (tgt := 13) dL_cell_2 (by decide) rfl (by omega) (fun _ => ?_) (fun h9 => absurd h9 (by omega))
  refine V_aload_n (q := 14) dL_cell_13 rfl rfl rfl ?_
  refine V_iload_n (q := 15) dL_cell_14 rfl rfl ?_
  refine V_ldc (q := 17) (v := nI 65535) dL_cell_15 rfl wd_285 ?_
  refine V_iand (q := 18) dL_cell_17 rfl e1 ?_
  refine V_aload_n (q := 19) dL_cell_18 rfl rfl rfl ?_
  refine V_slen (q := 20) dL_cell_19 rfl ?_
  refine V_irem (q := 21) dL_cell_20 rfl (nI_ne0 (by omega) (by omega)) e2 ?_
  refine V_sld (q := 22) dL_cell_21 rfl (vp_in_nI hk hs) rfl ?_
  rw [nI_clamp (by omega)]
  exact V_iret dL_cell_22 rfl (Nat.le_of_ble_eq_true rfl) (Nat.le_of_ble_eq_true rfl) (⟨rfl, rfl, rfl⟩)
end STR
