/-! the law's isJuggler, isJoin -/
theorem couA_at {N : StT} {k : Nat} (hk : k < 10) (hc : canN (sS N) k) : couA (nI (canC (sS N) k)) N = nI k := by
  unfold couA
  rw [cou_at hk (canK_t.mpr hc), if_pos hk]
theorem couA_m1 {N : StT} : couA (-1) N = -1 := by
  have h10 : canC (sS N) 10 ≤ 10 := fa_cnt_le _ _
  unfold couA
  rw [cou_no (fun i hi => nI_m1 (by omega)), if_neg (by omega)]
theorem couA_end {N : StT} : couA (nI (canC (sS N) 10)) N = -1 := by
  have h10 : canC (sS N) 10 ≤ 10 := fa_cnt_le _ _
  unfold couA
  rw [cou_no (fun i hi e => by rw [nI_eq (by omega) (by omega)] at e; omega), if_neg (by omega)]
theorem jthA_at {N : StT} {i j : Nat} (h : OkN N) (hi : i < sC N) (hb : ballI (sR N i).2 (sR N i).1 = nI (popc (sS N))) (h9 : dstN (sS N) (stN (sR N i).2 (sR N i).1 0) ≤ 9) (hj : j < dstN (sS N) (stN (sR N i).2 (sR N i).1 0)) : jthA (nI i) (nI j) N = nI (digN (codN (sS N) (stN (sR N i).2 (sR N i).1 0)) (dstN (sS N) (stN (sR N i).2 (sR N i).1 0)) j) := by
  have h6 := h.1
  unfold jthA
  rw [idx_yes hi (by omega)]
  show (if ballI (sR N i).2 (sR N i).1 = nI (popc (sS N)) then (match idx (nI j) (dstN (sS N) (stN (sR N i).2 (sR N i).1 0)) with | none => -1 | some k => nI (digN (codN (sS N) (stN (sR N i).2 (sR N i).1 0)) (dstN (sS N) (stN (sR N i).2 (sR N i).1 0)) k)) else -4) = _
  rw [if_pos hb, idx_yes hj (by omega)]
theorem jthA_end {N : StT} {i : Nat} (h : OkN N) (hi : i < sC N) (hb : ballI (sR N i).2 (sR N i).1 = nI (popc (sS N))) (h9 : dstN (sS N) (stN (sR N i).2 (sR N i).1 0) ≤ 9) : jthA (nI i) (nI (dstN (sS N) (stN (sR N i).2 (sR N i).1 0))) N = -1 := by
  have h6 := h.1
  unfold jthA
  rw [idx_yes hi (by omega)]
  show (if ballI (sR N i).2 (sR N i).1 = nI (popc (sS N)) then (match idx (nI (dstN (sS N) (stN (sR N i).2 (sR N i).1 0))) (dstN (sS N) (stN (sR N i).2 (sR N i).1 0)) with | none => -1 | some k => nI (digN (codN (sS N) (stN (sR N i).2 (sR N i).1 0)) (dstN (sS N) (stN (sR N i).2 (sR N i).1 0)) k)) else -4) = _
  rw [if_pos hb, idx_no (Or.inr (by rw [nI_leI (by omega) (by omega)]; omega))]
theorem jthA_no {N : StT} {i : Nat} {x : Int32} (h : OkN N) (hi : i < sC N) (hb : ¬ ballI (sR N i).2 (sR N i).1 = nI (popc (sS N))) : jthA (nI i) x N = -4 := by
  have h6 := h.1
  unfold jthA
  rw [idx_yes hi (by omega)]
  show (if ballI (sR N i).2 (sR N i).1 = nI (popc (sS N)) then _ else -4) = _
  rw [if_neg hb]
theorem tlj_yes {X : XT} {i : Nat} (h : OkN (xN X)) (hi : i < sC (xN X)) (hb : ballI (sR (xN X) i).2 (sR (xN X) i).1 = nI (popc (sS (xN X)))) : ∃ v, tljA (nI i) X = (nI (dstN (sS (xN X)) (stN (sR (xN X) i).2 (sR (xN X) i).1 0)), setL X v) := by
  have h6 := h.1
  unfold tljA
  rw [idx_yes hi (by omega)]
  show ∃ v, (if ballI (sR (xN X) i).2 (sR (xN X) i).1 = nI (popc (sS (xN X))) then _ else (-4, X)) = _
  rw [if_pos hb]
  exact ⟨_, rfl⟩
theorem tlj_no {X : XT} {i : Nat} (h : OkN (xN X)) (hi : i < sC (xN X)) (hb : ¬ ballI (sR (xN X) i).2 (sR (xN X) i).1 = nI (popc (sS (xN X)))) : tljA (nI i) X = (-4, X) := by
  have h6 := h.1
  unfold tljA
  rw [idx_yes hi (by omega)]
  show (if ballI (sR (xN X) i).2 (sR (xN X) i).1 = nI (popc (sS (xN X))) then _ else (-4, X)) = _
  rw [if_neg hb]
theorem stL_ok (s : Nat) : 1 ≤ stL s ∧ stL s ≤ 9 := by
  unfold stL
  have := fa_first_le (fun m => decide (s / 2 ^ (m + 1) = 0)) 8
  omega
section JUG
variable {g : GG} {l : Launch} {w : HW} {n o : Nat} {X : XT}
theorem c_isJuggler (hX : XW g w n o X) {K : Nat} (hv : Nv K (xN X)) (hK : K < 2 ^ 30) : CtI g l ML_isJuggler 5 [rf g o] w n (LQ g w n o X 1) := by
  obtain ⟨hob, hn⟩ := hX.obj
  obtain ⟨hS, hB, hU, hT⟩ := hv
  have hs := hS.1
  have loop : ∀ f k, k + f = 10 → V g l ML_isJuggler (rmd 5 0 0) (FinM g (qI (LQ g w n o X 1) n) 0 0) 77 [some (rf g o), some (.int (nI (sS (xN X)))), some (.int (nI (canC (sS (xN X)) k))), some (.int (nI 1)), some (.int (nI k)), none] [] (w) n 0 0 := by
    intro f
    induction f with
    | zero =>
      intro k hf
      obtain rfl : k = 10 := by omega
      obtain ⟨l1, l2⟩ := stL_ok (sS (xN X))
      refine V_iload_n (q := 78) dL_isJuggler_77 rfl rfl ?_
      refine V_if_eq (q := 81) (tgt := 136) dL_isJuggler_78 (by decide) rfl (fun h9 => absurd h9 (by decide)) (fun _ => ?_)
      refine V_iload (q := 83) dL_isJuggler_81 rfl rfl ?_
      refine V_bipush (q := 85) (v := nI 10) dL_isJuggler_83 rfl (by decide) ?_
      refine V_icmpN_ge (q := 88) (tgt := 136) dL_isJuggler_85 (by decide) rfl (by omega) (by omega) (fun _ => ?_) (fun h9 => by first | exact h9.elim | (exfalso; omega))
      refine V_iload_n (q := 137) dL_isJuggler_136 rfl rfl ?_
      refine V_if_eq (q := 140) (tgt := 170) dL_isJuggler_137 (by decide) rfl (fun h9 => absurd h9 (by decide)) (fun _ => ?_)
      refine V_aload_n (q := 141) dL_isJuggler_140 rfl rfl rfl ?_
      refine V_iconst (q := 142) (v := nI 5) dL_isJuggler_141 rfl (by decide) ?_
      refine CrL_82 (q := 145) rfl dL_isJuggler_142 rfl (X_juggler hX hS) ⟨(Nat.le_of_ble_eq_true rfl), (Nat.le_of_ble_eq_true rfl)⟩ (Nat.le_of_ble_eq_true rfl) (by first | assumption | exact up_eq | exact (up_ne (by omega)).trans (by first | assumption | exact up_eq | exact (up_ne (by omega)).trans (by first | assumption | exact up_eq | exact (up_ne (by omega)).trans (by first | assumption | exact up_eq)))) (by omega) (Nat.zero_le _) (Nat.zero_le _) ?_
      refine V_topi ((jugA_at (by decide))) ?_
      refine V_topi ((show jugW (xN X) 5 = nI (canC (sS (xN X)) 10) from rfl)) ?_
      refine V_iload_n (q := 146) dL_isJuggler_145 rfl rfl ?_
      refine V_icmp_ne (q := 149) (tgt := 170) dL_isJuggler_146 (by decide) rfl (fun h9 => absurd rfl h9) (fun _ => ?_)
      refine V_aload_n (q := 150) dL_isJuggler_149 rfl rfl rfl ?_
      refine V_iload_n (q := 151) dL_isJuggler_150 rfl rfl ?_
      refine CrL_120 (q := 154) rfl dL_isJuggler_151 rfl (X_could hX hS) ⟨(Nat.le_of_ble_eq_true rfl), (Nat.le_of_ble_eq_true rfl)⟩ (Nat.le_of_ble_eq_true rfl) (by first | assumption | exact up_eq | exact (up_ne (by omega)).trans (by first | assumption | exact up_eq | exact (up_ne (by omega)).trans (by first | assumption | exact up_eq | exact (up_ne (by omega)).trans (by first | assumption | exact up_eq)))) (by omega) (Nat.zero_le _) (Nat.zero_le _) ?_
      refine V_topi (couA_end) ?_
      refine V_iconst (q := 155) (v := (-1)) dL_isJuggler_154 rfl (by decide) ?_
      refine V_icmp_ne (q := 158) (tgt := 170) dL_isJuggler_155 (by decide) rfl (fun h9 => absurd rfl h9) (fun _ => ?_)
      refine V_aload_n (q := 159) dL_isJuggler_158 rfl rfl rfl ?_
      refine CiL_123 (q := 162) rfl dL_isJuggler_159 rfl ((X_tellState hX hS)) ⟨(Nat.le_of_ble_eq_true rfl), (Nat.le_of_ble_eq_true rfl)⟩ (Nat.le_of_ble_eq_true rfl) (by first | assumption | exact up_eq | exact (up_ne (by omega)).trans (by first | assumption | exact up_eq | exact (up_ne (by omega)).trans (by first | assumption | exact up_eq | exact (up_ne (by omega)).trans (by first | assumption | exact up_eq)))) (by omega) (Nat.zero_le _) (Nat.zero_le _) (fun y w1 h1 => ?_)
      obtain ⟨rfl, hX1, hF1⟩ := h1
      refine V_topi ((show (tlsA X).1 = nI (stL (sS (xN X))) from rfl)) ?_
      refine V_iconst (q := 163) (v := nI 1) dL_isJuggler_162 rfl (by decide) ?_
      refine V_icmpN_lt (q := 166) (tgt := 170) dL_isJuggler_163 (by decide) rfl (by omega) (by omega) (fun h9 => by first | exact h9.elim | exact absurd h9 (by assumption) | (exfalso; omega)) (fun _ => ?_)
      refine V_iconst (q := 167) (v := nI 1) dL_isJuggler_166 rfl (by decide) ?_
      refine V_goto (tgt := 171) dL_isJuggler_167 (by decide) ?_
      exact V_zret dL_isJuggler_171 rfl (rfl) (Nat.le_of_ble_eq_true rfl) (Nat.le_of_ble_eq_true rfl) (⟨rfl, _, rfl, rfl, ⟨_, hX1⟩, hF1⟩)
    | succ f ih =>
      intro k hf
      have ih' := ih (k + 1) (by omega)
      refine V_iload_n (q := 78) dL_isJuggler_77 rfl rfl ?_
      refine V_if_eq (q := 81) (tgt := 136) dL_isJuggler_78 (by decide) rfl (fun h9 => absurd h9 (by decide)) (fun _ => ?_)
      refine V_iload (q := 83) dL_isJuggler_81 rfl rfl ?_
      refine V_bipush (q := 85) (v := nI 10) dL_isJuggler_83 rfl (by decide) ?_
      refine V_icmpN_ge (q := 88) (tgt := 136) dL_isJuggler_85 (by decide) rfl (by omega) (by omega) (fun h9 => by first | exact h9.elim | exact absurd h9 (by assumption) | (exfalso; omega)) (fun _ => ?_)
      refine V_iload_n (q := 89) dL_isJuggler_88 rfl rfl ?_
      refine V_iload (q := 91) dL_isJuggler_89 rfl rfl ?_
      refine CrL_113 (q := 94) rfl dL_isJuggler_91 rfl (c_can hs (by omega)) ⟨(Nat.le_of_ble_eq_true rfl), (Nat.le_of_ble_eq_true rfl)⟩ (Nat.le_of_ble_eq_true rfl) (Nat.zero_le _) (Nat.zero_le _) ?_
      by_cases hc : canN (sS (xN X)) k
      · rw [show canC (sS (xN X)) (k + 1) = canC (sS (xN X)) k + 1 from fa_cnt_yes (canK_t.mpr hc)] at ih'
        refine V_topi ((if_pos hc)) ?_
        refine V_istore (q := 96) (ls' := [_, _, _, _, _, _]) dL_isJuggler_94 rfl (by decide) (by rfl) rfl ?_
        refine V_iload (q := 98) dL_isJuggler_96 rfl rfl ?_
        refine V_if_eq (q := 101) (tgt := 111) dL_isJuggler_98 (by decide) rfl (fun h9 => absurd h9 (by decide)) (fun _ => ?_)
        refine V_aload_n (q := 102) dL_isJuggler_101 rfl rfl rfl ?_
        refine V_iload_n (q := 103) dL_isJuggler_102 rfl rfl ?_
        refine CrL_120 (q := 106) rfl dL_isJuggler_103 rfl (X_could hX hS) ⟨(Nat.le_of_ble_eq_true rfl), (Nat.le_of_ble_eq_true rfl)⟩ (Nat.le_of_ble_eq_true rfl) (by first | assumption | exact up_eq | exact (up_ne (by omega)).trans (by first | assumption | exact up_eq | exact (up_ne (by omega)).trans (by first | assumption | exact up_eq | exact (up_ne (by omega)).trans (by first | assumption | exact up_eq)))) (by omega) (Nat.zero_le _) (Nat.zero_le _) ?_
        refine V_topi ((couA_at (by omega) hc)) ?_
        refine V_iload (q := 108) dL_isJuggler_106 rfl rfl ?_
        refine V_icmp_ne (q := 111) (tgt := 115) dL_isJuggler_108 (by decide) rfl (fun h9 => absurd rfl h9) (fun _ => ?_)
        refine V_iconst (q := 112) (v := nI 1) dL_isJuggler_111 rfl (by decide) ?_
        refine V_goto (tgt := 116) dL_isJuggler_112 (by decide) ?_
        refine V_istore_n (q := 117) (ls' := [_, _, _, _, _, _]) dL_isJuggler_116 rfl (by decide) (by rfl) rfl ?_
        refine V_iload_n (q := 118) dL_isJuggler_117 rfl rfl ?_
        refine V_iload (q := 120) dL_isJuggler_118 rfl rfl ?_
        refine V_if_eq (q := 123) (tgt := 127) dL_isJuggler_120 (by decide) rfl (fun h9 => absurd h9 (by decide)) (fun _ => ?_)
        refine V_iconst (q := 124) (v := nI 1) dL_isJuggler_123 rfl (by decide) ?_
        refine V_goto (tgt := 128) dL_isJuggler_124 (by decide) ?_
        refine V_iadd (q := 129) dL_isJuggler_128 rfl (by first | exact nI_add _ _ | rfl) ?_
        refine V_istore_n (q := 130) (ls' := [_, _, _, _, _, _]) dL_isJuggler_129 rfl (by decide) (by rfl) rfl ?_
        refine V_iinc (q := 133) (ls' := [_, _, _, _, _, _]) dL_isJuggler_130 rfl (by decide) (by rfl) rfl (by first | exact inc1 _ | rfl) rfl ?_
        refine V_goto (tgt := 77) dL_isJuggler_133 (by decide) ?_
        refine V_fg 5 (ls2 := [_, _, _, _, _, none]) (by rfl) ?_
        exact ih'
      · rw [show canC (sS (xN X)) (k + 1) = canC (sS (xN X)) k from fa_cnt_no (canK_f.mpr hc)] at ih'
        refine V_topi ((if_neg hc)) ?_
        refine V_istore (q := 96) (ls' := [_, _, _, _, _, _]) dL_isJuggler_94 rfl (by decide) (by rfl) rfl ?_
        refine V_iload (q := 98) dL_isJuggler_96 rfl rfl ?_
        refine V_if_eq (q := 101) (tgt := 111) dL_isJuggler_98 (by decide) rfl (fun _ => ?_) (fun h9 => absurd (by decide) h9)
        refine V_iconst (q := 112) (v := nI 1) dL_isJuggler_111 rfl (by decide) ?_
        refine V_goto (tgt := 116) dL_isJuggler_112 (by decide) ?_
        refine V_istore_n (q := 117) (ls' := [_, _, _, _, _, _]) dL_isJuggler_116 rfl (by decide) (by rfl) rfl ?_
        refine V_iload_n (q := 118) dL_isJuggler_117 rfl rfl ?_
        refine V_iload (q := 120) dL_isJuggler_118 rfl rfl ?_
        refine V_if_eq (q := 123) (tgt := 127) dL_isJuggler_120 (by decide) rfl (fun _ => ?_) (fun h9 => absurd (by decide) h9)
        refine V_iconst (q := 128) (v := nI 0) dL_isJuggler_127 rfl (by decide) ?_
        refine V_iadd (q := 129) dL_isJuggler_128 rfl (by first | exact nI_add _ _ | rfl) ?_
        refine V_istore_n (q := 130) (ls' := [_, _, _, _, _, _]) dL_isJuggler_129 rfl (by decide) (by rfl) rfl ?_
        refine V_iinc (q := 133) (ls' := [_, _, _, _, _, _]) dL_isJuggler_130 rfl (by decide) (by rfl) rfl (by first | exact inc1 _ | rfl) rfl ?_
        refine V_goto (tgt := 77) dL_isJuggler_133 (by decide) ?_
        refine V_fg 5 (ls2 := [_, _, _, _, _, none]) (by rfl) ?_
        exact ih'
  refine Ct.ofs (M := ML_isJuggler) (ls := [some _, none, none, none, none, none]) (by decide +kernel) (by exact (Nat.le_of_ble_eq_true rfl)) (by rfl) (by rfl) (by rfl) ?_
  refine V_aload_n (q := 1) dL_isJuggler_0 rfl rfl rfl ?_
  refine V_iconst (q := 2) (v := nI 0) dL_isJuggler_1 rfl (by decide) ?_
  refine CrL_82 (q := 5) rfl dL_isJuggler_2 rfl (X_juggler hX hS) ⟨(Nat.le_of_ble_eq_true rfl), (Nat.le_of_ble_eq_true rfl)⟩ (Nat.le_of_ble_eq_true rfl) (by first | assumption | exact up_eq | exact (up_ne (by omega)).trans (by first | assumption | exact up_eq | exact (up_ne (by omega)).trans (by first | assumption | exact up_eq | exact (up_ne (by omega)).trans (by first | assumption | exact up_eq)))) (by omega) (Nat.zero_le _) (Nat.zero_le _) ?_
  refine V_topi ((jugA_at (by decide))) ?_
  refine V_topi ((show jugW (xN X) 0 = nI (sS (xN X)) from rfl)) ?_
  refine V_istore_n (q := 6) (ls' := [_, _, _, _, _, _]) dL_isJuggler_5 rfl (by decide) (by rfl) rfl ?_
  refine V_iconst (q := 7) (v := nI 0) dL_isJuggler_6 rfl (by decide) ?_
  refine V_istore_n (q := 8) (ls' := [_, _, _, _, _, _]) dL_isJuggler_7 rfl (by decide) (by rfl) rfl ?_
  refine V_iload_n (q := 9) dL_isJuggler_8 rfl rfl ?_
  refine CrL_108 (q := 12) rfl dL_isJuggler_9 rfl (c_bitCount hs) ⟨(Nat.le_of_ble_eq_true rfl), (Nat.le_of_ble_eq_true rfl)⟩ (Nat.le_of_ble_eq_true rfl) (Nat.zero_le _) (Nat.zero_le _) ?_
  refine V_aload_n (q := 13) dL_isJuggler_12 rfl rfl rfl ?_
  refine V_iconst (q := 14) (v := nI 1) dL_isJuggler_13 rfl (by decide) ?_
  refine CrL_82 (q := 17) rfl dL_isJuggler_14 rfl (X_juggler hX hS) ⟨(Nat.le_of_ble_eq_true rfl), (Nat.le_of_ble_eq_true rfl)⟩ (Nat.le_of_ble_eq_true rfl) (by first | assumption | exact up_eq | exact (up_ne (by omega)).trans (by first | assumption | exact up_eq | exact (up_ne (by omega)).trans (by first | assumption | exact up_eq | exact (up_ne (by omega)).trans (by first | assumption | exact up_eq)))) (by omega) (Nat.zero_le _) (Nat.zero_le _) ?_
  refine V_topi ((jugA_at (by decide))) ?_
  refine V_topi ((show jugW (xN X) 1 = nI (popc (sS (xN X))) from rfl)) ?_
  refine V_icmp_ne (q := 20) (tgt := 72) dL_isJuggler_17 (by decide) rfl (fun h9 => absurd rfl h9) (fun _ => ?_)
  refine V_aload_n (q := 21) dL_isJuggler_20 rfl rfl rfl ?_
  refine V_iconst (q := 22) (v := nI 4) dL_isJuggler_21 rfl (by decide) ?_
  refine CrL_82 (q := 25) rfl dL_isJuggler_22 rfl (X_juggler hX hS) ⟨(Nat.le_of_ble_eq_true rfl), (Nat.le_of_ble_eq_true rfl)⟩ (Nat.le_of_ble_eq_true rfl) (by first | assumption | exact up_eq | exact (up_ne (by omega)).trans (by first | assumption | exact up_eq | exact (up_ne (by omega)).trans (by first | assumption | exact up_eq | exact (up_ne (by omega)).trans (by first | assumption | exact up_eq)))) (by omega) (Nat.zero_le _) (Nat.zero_le _) ?_
  refine V_topi ((jugA_at (by decide))) ?_
  refine V_topi ((show jugW (xN X) 4 = nI (sS (xN X) % 2) from rfl)) ?_
  refine V_iload_n (q := 26) dL_isJuggler_25 rfl rfl ?_
  refine V_iconst (q := 27) (v := nI 1) dL_isJuggler_26 rfl (by decide) ?_
  refine V_iand (q := 28) dL_isJuggler_27 rfl (fa_mask _ 1) ?_
  refine V_icmp_ne (q := 31) (tgt := 72) dL_isJuggler_28 (by decide) rfl (fun h9 => absurd rfl h9) (fun _ => ?_)
  refine V_aload_n (q := 32) dL_isJuggler_31 rfl rfl rfl ?_
  refine V_iconst (q := 33) (v := nI 3) dL_isJuggler_32 rfl (by decide) ?_
  refine CrL_82 (q := 36) rfl dL_isJuggler_33 rfl (X_juggler hX hS) ⟨(Nat.le_of_ble_eq_true rfl), (Nat.le_of_ble_eq_true rfl)⟩ (Nat.le_of_ble_eq_true rfl) (by first | assumption | exact up_eq | exact (up_ne (by omega)).trans (by first | assumption | exact up_eq | exact (up_ne (by omega)).trans (by first | assumption | exact up_eq | exact (up_ne (by omega)).trans (by first | assumption | exact up_eq)))) (by omega) (Nat.zero_le _) (Nat.zero_le _) ?_
  refine V_topi ((jugA_at (by decide))) ?_
  refine V_topi ((show jugW (xN X) 3 = nI (sB (xN X) % 2) from rfl)) ?_
  refine V_aload_n (q := 37) dL_isJuggler_36 rfl rfl rfl ?_
  refine V_iconst (q := 38) (v := nI 2) dL_isJuggler_37 rfl (by decide) ?_
  refine CrL_82 (q := 41) rfl dL_isJuggler_38 rfl (X_juggler hX hS) ⟨(Nat.le_of_ble_eq_true rfl), (Nat.le_of_ble_eq_true rfl)⟩ (Nat.le_of_ble_eq_true rfl) (by first | assumption | exact up_eq | exact (up_ne (by omega)).trans (by first | assumption | exact up_eq | exact (up_ne (by omega)).trans (by first | assumption | exact up_eq | exact (up_ne (by omega)).trans (by first | assumption | exact up_eq)))) (by omega) (Nat.zero_le _) (Nat.zero_le _) ?_
  refine V_topi ((jugA_at (by decide))) ?_
  refine V_topi ((show jugW (xN X) 2 = nI (sB (xN X)) from rfl)) ?_
  refine V_iconst (q := 42) (v := nI 2) dL_isJuggler_41 rfl (by decide) ?_
  refine V_irem (q := 43) dL_isJuggler_42 rfl (nI_ne0 (by omega) (by omega)) (by first | exact pk_rem (by omega) (by omega) (by omega) | rfl) ?_
  refine V_icmp_ne (q := 46) (tgt := 72) dL_isJuggler_43 (by decide) rfl (fun h9 => absurd rfl h9) (fun _ => ?_)
  refine V_aload_n (q := 47) dL_isJuggler_46 rfl rfl rfl ?_
  refine V_iconst (q := 48) (v := (-1)) dL_isJuggler_47 rfl (by decide) ?_
  refine CrL_120 (q := 51) rfl dL_isJuggler_48 rfl (X_could hX hS) ⟨(Nat.le_of_ble_eq_true rfl), (Nat.le_of_ble_eq_true rfl)⟩ (Nat.le_of_ble_eq_true rfl) (by first | assumption | exact up_eq | exact (up_ne (by omega)).trans (by first | assumption | exact up_eq | exact (up_ne (by omega)).trans (by first | assumption | exact up_eq | exact (up_ne (by omega)).trans (by first | assumption | exact up_eq)))) (by omega) (Nat.zero_le _) (Nat.zero_le _) ?_
  refine V_topi (couA_m1) ?_
  refine V_iconst (q := 52) (v := (-1)) dL_isJuggler_51 rfl (by decide) ?_
  refine V_icmp_ne (q := 55) (tgt := 72) dL_isJuggler_52 (by decide) rfl (fun h9 => absurd rfl h9) (fun _ => ?_)
  refine V_aload_n (q := 56) dL_isJuggler_55 rfl rfl rfl ?_
  refine V_iconst (q := 57) (v := nI 5) dL_isJuggler_56 rfl (by decide) ?_
  refine CrL_79 (q := 60) rfl dL_isJuggler_57 rfl (X_account hX) ⟨(Nat.le_of_ble_eq_true rfl), (Nat.le_of_ble_eq_true rfl)⟩ (Nat.le_of_ble_eq_true rfl) (by first | assumption | exact up_eq | exact (up_ne (by omega)).trans (by first | assumption | exact up_eq | exact (up_ne (by omega)).trans (by first | assumption | exact up_eq | exact (up_ne (by omega)).trans (by first | assumption | exact up_eq)))) (by omega) (Nat.zero_le _) (Nat.zero_le _) ?_
  refine V_topi ((accA_at (by decide))) ?_
  refine V_topi ((show accW X 5 = nI (sU (xN X)) from rfl)) ?_
  refine V_aload_n (q := 61) dL_isJuggler_60 rfl rfl rfl ?_
  refine V_iconst (q := 62) (v := nI 4) dL_isJuggler_61 rfl (by decide) ?_
  refine CrL_79 (q := 65) rfl dL_isJuggler_62 rfl (X_account hX) ⟨(Nat.le_of_ble_eq_true rfl), (Nat.le_of_ble_eq_true rfl)⟩ (Nat.le_of_ble_eq_true rfl) (by first | assumption | exact up_eq | exact (up_ne (by omega)).trans (by first | assumption | exact up_eq | exact (up_ne (by omega)).trans (by first | assumption | exact up_eq | exact (up_ne (by omega)).trans (by first | assumption | exact up_eq)))) (by omega) (Nat.zero_le _) (Nat.zero_le _) ?_
  refine V_topi ((accA_at (by decide))) ?_
  refine V_topi ((show accW X 4 = nI (sT (xN X)) from rfl)) ?_
  refine V_icmpN_gt (q := 68) (tgt := 72) dL_isJuggler_65 (by decide) rfl (by omega) (by omega) (fun h9 => by first | exact h9.elim | exact absurd h9 (by assumption) | (exfalso; omega)) (fun _ => ?_)
  refine V_iconst (q := 69) (v := nI 1) dL_isJuggler_68 rfl (by decide) ?_
  refine V_goto (tgt := 73) dL_isJuggler_69 (by decide) ?_
  refine V_istore_n (q := 74) (ls' := [_, _, _, _, _, _]) dL_isJuggler_73 rfl (by decide) (by rfl) rfl ?_
  refine V_iconst (q := 75) (v := nI 0) dL_isJuggler_74 rfl (by decide) ?_
  refine V_istore (q := 77) (ls' := [_, _, _, _, _, _]) dL_isJuggler_75 rfl (by decide) (by rfl) rfl ?_
  exact loop 10 0 (Nat.zero_add _)
theorem c_isJoin (hX : XW g w n o X) (hS : OkS (xN X)) {i : Nat} (hi : i < sC (xN X)) : CtI g l ML_isJoin 5 [rf g o, .int (nI i)] w n (LQ g w n o X 1) := by
  have hN := hX.okn
  obtain ⟨hob, hn⟩ := hX.obj
  have h6 := hN.1
  obtain ⟨q1, q2, q3⟩ := hN.2 i hi
  have hp := popc_le (sS (xN X))
  by_cases hb : ballI (sR (xN X) i).2 (sR (xN X) i).1 = nI (popc (sS (xN X)))
  · obtain ⟨hc, -⟩ := ballI_is (by omega) hb
    obtain ⟨hst, k, hk9, hD⟩ := reach_is q1 q3 hS.1 hb
    have ek := dstN_is hD
    have hcod := cod_low hD
    have ej : joiA (nI i) (xN X) = nI k := by rw [joiA_at hN hi, if_pos hb, ek]
    have e2 : rowA (nI i) (nI 2) (xN X) = nI (popc (sS (xN X))) := by
      rw [rowA_at hN hi (by decide), ← hb]
      rfl
    have ecl : clnA (nI i) (xN X) = 1 := by rw [clnA_at hN hi, if_pos hc]
    have est : stoA (nI i) (nI 0) (xN X) = nI (stN (sR (xN X) i).2 (sR (xN X) i).1 0) := by rw [stoA_at hN hi q1, if_pos hc]
    have ejt : ∀ j, j < k → jthA (nI i) (nI j) (xN X) = nI (digN (codN (sS (xN X)) (stN (sR (xN X) i).2 (sR (xN X) i).1 0)) k j) := fun j hj => by
      rw [jthA_at hN hi hb (by rw [ek]; exact hk9) (by rw [ek]; exact hj), ek]
    have eje : jthA (nI i) (nI k) (xN X) = -1 := by
      have := jthA_end hN hi hb (by rw [ek]; exact hk9)
      rwa [ek] at this
    obtain ⟨v, etl⟩ := tlj_yes hN hi hb
    rw [ek] at etl
    generalize codN (sS (xN X)) (stN (sR (xN X) i).2 (sR (xN X) i).1 0) = c at *
    generalize stN (sR (xN X) i).2 (sR (xN X) i).1 0 = t at *
    have loop : ∀ f j w' u, j + f = k → XW g w' n o (setL X v) → FrX w w' o → PC j (sS (xN X)) u (c / 10 ^ (k - j)) → V g l ML_isJoin (rmd 5 0 0) (FinM g (qI (LQ g w n o X 1) n) 0 0) 135 [some (rf g o), some (.int (nI i)), some (.int (nI k)), some (.int (nI u)), none, some (.int (nI 1)), some (.int (nI j)), none] [] (w') n 0 0 := by
      intro f
      induction f with
      | zero =>
        intro j w' u hf hX' hF hP
        obtain rfl : j = k := by omega
        obtain ⟨hob', hn'⟩ := hX'.obj
        have hut : u = t := PC_end hcod.1 hP
        refine V_iload (q := 137) dL_isJoin_135 rfl rfl ?_
        refine V_if_eq (q := 140) (tgt := 194) dL_isJoin_137 (by decide) rfl (fun h9 => absurd h9 (by decide)) (fun _ => ?_)
        refine V_iload (q := 142) dL_isJoin_140 rfl rfl ?_
        refine V_iload_n (q := 143) dL_isJoin_142 rfl rfl ?_
        refine V_icmpN_ge (q := 146) (tgt := 194) dL_isJoin_143 (by decide) rfl (by omega) (by omega) (fun _ => ?_) (fun h9 => by first | exact h9.elim | (exfalso; omega))
        refine V_iload (q := 196) dL_isJoin_194 rfl rfl ?_
        refine V_if_eq (q := 199) (tgt := 213) dL_isJoin_196 (by decide) rfl (fun h9 => absurd h9 (by decide)) (fun _ => ?_)
        refine V_iload_n (q := 200) dL_isJoin_199 rfl rfl ?_
        refine V_aload_n (q := 201) dL_isJoin_200 rfl rfl rfl ?_
        refine V_iload_n (q := 202) dL_isJoin_201 rfl rfl ?_
        refine V_iconst (q := 203) (v := nI 0) dL_isJoin_202 rfl (by decide) ?_
        refine CrL_105 (q := 206) rfl dL_isJoin_203 rfl (X_stateOf hX') ⟨(Nat.le_of_ble_eq_true rfl), (Nat.le_of_ble_eq_true rfl)⟩ (Nat.le_of_ble_eq_true rfl) (by first | assumption | exact up_eq | exact (up_ne (by omega)).trans (by first | assumption | exact up_eq | exact (up_ne (by omega)).trans (by first | assumption | exact up_eq | exact (up_ne (by omega)).trans (by first | assumption | exact up_eq)))) (by omega) (Nat.zero_le _) (Nat.zero_le _) ?_
        refine V_topi (est) ?_
        refine V_icmp_ne (q := 209) (tgt := 213) dL_isJoin_206 (by decide) rfl (fun h9 => absurd (congrArg nI hut) h9) (fun _ => ?_)
        refine V_iconst (q := 210) (v := nI 1) dL_isJoin_209 rfl (by decide) ?_
        refine V_goto (tgt := 214) dL_isJoin_210 (by decide) ?_
        exact V_zret dL_isJoin_214 rfl (rfl) (Nat.le_of_ble_eq_true rfl) (Nat.le_of_ble_eq_true rfl) (⟨rfl, _, rfl, rfl, ⟨v, hX'⟩, hF⟩)
      | succ f ih =>
        intro j w' u hf hX' hF hP
        have hjk : j < k := by omega
        obtain ⟨hob', hn'⟩ := hX'.obj
        have hu := PE_lt hS.1 (PC_PE hP)
        obtain ⟨s1, s2⟩ := PC_step hcod.1 hjk hP
        have hne := PC_ne (c := 0) hD hjk hP
        have hd9 := digN_le c k j
        refine V_iload (q := 137) dL_isJoin_135 rfl rfl ?_
        refine V_if_eq (q := 140) (tgt := 194) dL_isJoin_137 (by decide) rfl (fun h9 => absurd h9 (by decide)) (fun _ => ?_)
        refine V_iload (q := 142) dL_isJoin_140 rfl rfl ?_
        refine V_iload_n (q := 143) dL_isJoin_142 rfl rfl ?_
        refine V_icmpN_ge (q := 146) (tgt := 194) dL_isJoin_143 (by decide) rfl (by omega) (by omega) (fun h9 => by first | exact h9.elim | exact absurd h9 (by assumption) | (exfalso; omega)) (fun _ => ?_)
        refine V_aload_n (q := 147) dL_isJoin_146 rfl rfl rfl ?_
        refine V_iload_n (q := 148) dL_isJoin_147 rfl rfl ?_
        refine V_iload (q := 150) dL_isJoin_148 rfl rfl ?_
        refine CiL_132 (q := 153) rfl dL_isJoin_150 rfl ((X_joinThrow hX' hS)) ⟨(Nat.le_of_ble_eq_true rfl), (Nat.le_of_ble_eq_true rfl)⟩ (Nat.le_of_ble_eq_true rfl) (by first | assumption | exact up_eq | exact (up_ne (by omega)).trans (by first | assumption | exact up_eq | exact (up_ne (by omega)).trans (by first | assumption | exact up_eq | exact (up_ne (by omega)).trans (by first | assumption | exact up_eq)))) (by omega) (Nat.zero_le _) (Nat.zero_le _) (fun y w1 h1 => ?_)
        obtain ⟨rfl, hX1, hF1⟩ := h1
        obtain ⟨hob1, hn1⟩ := hX1.obj
        refine V_topi ((ejt j hjk)) ?_
        refine V_istore (q := 155) (ls' := [_, _, _, _, _, _, _, _]) dL_isJoin_153 rfl (by decide) (by rfl) rfl ?_
        refine V_iload_n (q := 156) dL_isJoin_155 rfl rfl ?_
        refine V_iload (q := 158) dL_isJoin_156 rfl rfl ?_
        refine CrL_113 (q := 161) rfl dL_isJoin_158 rfl (c_can hu hd9) ⟨(Nat.le_of_ble_eq_true rfl), (Nat.le_of_ble_eq_true rfl)⟩ (Nat.le_of_ble_eq_true rfl) (Nat.zero_le _) (Nat.zero_le _) ?_
        refine V_topi ((if_pos s1)) ?_
        refine V_if_eq (q := 164) (tgt := 178) dL_isJoin_161 (by decide) rfl (fun h9 => absurd h9 (by decide)) (fun _ => ?_)
        refine V_iload_n (q := 165) dL_isJoin_164 rfl rfl ?_
        refine V_aload_n (q := 166) dL_isJoin_165 rfl rfl rfl ?_
        refine V_iload_n (q := 167) dL_isJoin_166 rfl rfl ?_
        refine V_iconst (q := 168) (v := nI 0) dL_isJoin_167 rfl (by decide) ?_
        refine CrL_105 (q := 171) rfl dL_isJoin_168 rfl (X_stateOf hX1) ⟨(Nat.le_of_ble_eq_true rfl), (Nat.le_of_ble_eq_true rfl)⟩ (Nat.le_of_ble_eq_true rfl) (by first | assumption | exact up_eq | exact (up_ne (by omega)).trans (by first | assumption | exact up_eq | exact (up_ne (by omega)).trans (by first | assumption | exact up_eq | exact (up_ne (by omega)).trans (by first | assumption | exact up_eq)))) (by omega) (Nat.zero_le _) (Nat.zero_le _) ?_
        refine V_topi (est) ?_
        refine V_icmp_eq (q := 174) (tgt := 178) dL_isJoin_171 (by decide) rfl (fun h9 => absurd h9 (fun e => hne (by rwa [nI_eq (by omega) (by omega)] at e))) (fun _ => ?_)
        refine V_iconst (q := 175) (v := nI 1) dL_isJoin_174 rfl (by decide) ?_
        refine V_goto (tgt := 179) dL_isJoin_175 (by decide) ?_
        refine V_istore (q := 181) (ls' := [_, _, _, _, _, _, _, _]) dL_isJoin_179 rfl (by decide) (by rfl) rfl ?_
        refine V_iload_n (q := 182) dL_isJoin_181 rfl rfl ?_
        refine V_iload (q := 184) dL_isJoin_182 rfl rfl ?_
        refine CrL_117 (q := 187) rfl dL_isJoin_184 rfl (c_behindL hu hd9) ⟨(Nat.le_of_ble_eq_true rfl), (Nat.le_of_ble_eq_true rfl)⟩ (Nat.le_of_ble_eq_true rfl) (Nat.zero_le _) (Nat.zero_le _) ?_
        refine V_fg 7 (ls2 := [_, _, _, _, _, _, _, none]) (by rfl) ?_
        refine V_istore_n (q := 188) (ls' := [_, _, _, _, _, _, _, _]) dL_isJoin_187 rfl (by decide) (by rfl) rfl ?_
        refine V_iinc (q := 191) (ls' := [_, _, _, _, _, _, _, _]) dL_isJoin_188 rfl (by decide) (by rfl) rfl (by first | exact inc1 _ | rfl) rfl ?_
        refine V_goto (tgt := 135) dL_isJoin_191 (by decide) ?_
        exact ih (j + 1) w1 _ (by omega) hX1 (hF.tr hF1) s2
    refine Ct.ofs (M := ML_isJoin) (ls := [some _, some _, none, none, none, none, none, none]) (by decide +kernel) (by exact (Nat.le_of_ble_eq_true rfl)) (by rfl) (by rfl) (by rfl) ?_
    refine V_aload_n (q := 1) dL_isJoin_0 rfl rfl rfl ?_
    refine V_iload_n (q := 2) dL_isJoin_1 rfl rfl ?_
    refine CiL_126 (q := 5) rfl dL_isJoin_2 rfl ((X_joinTo hX hS)) ⟨(Nat.le_of_ble_eq_true rfl), (Nat.le_of_ble_eq_true rfl)⟩ (Nat.le_of_ble_eq_true rfl) (by first | assumption | exact up_eq | exact (up_ne (by omega)).trans (by first | assumption | exact up_eq | exact (up_ne (by omega)).trans (by first | assumption | exact up_eq | exact (up_ne (by omega)).trans (by first | assumption | exact up_eq)))) (by omega) (Nat.zero_le _) (Nat.zero_le _) (fun y w1 h1 => ?_)
    obtain ⟨rfl, hX1, hF1⟩ := h1
    obtain ⟨hob1, hn1⟩ := hX1.obj
    refine V_topi (ej) ?_
    refine V_istore_n (q := 6) (ls' := [_, _, _, _, _, _, _, _]) dL_isJoin_5 rfl (by decide) (by rfl) rfl ?_
    refine V_aload_n (q := 7) dL_isJoin_6 rfl rfl rfl ?_
    refine V_iconst (q := 8) (v := nI 0) dL_isJoin_7 rfl (by decide) ?_
    refine CrL_82 (q := 11) rfl dL_isJoin_8 rfl (X_juggler hX1 hS) ⟨(Nat.le_of_ble_eq_true rfl), (Nat.le_of_ble_eq_true rfl)⟩ (Nat.le_of_ble_eq_true rfl) (by first | assumption | exact up_eq | exact (up_ne (by omega)).trans (by first | assumption | exact up_eq | exact (up_ne (by omega)).trans (by first | assumption | exact up_eq | exact (up_ne (by omega)).trans (by first | assumption | exact up_eq)))) (by omega) (Nat.zero_le _) (Nat.zero_le _) ?_
    refine V_topi ((jugA_at (by decide))) ?_
    refine V_topi ((show jugW (xN X) 0 = nI (sS (xN X)) from rfl)) ?_
    refine V_istore_n (q := 12) (ls' := [_, _, _, _, _, _, _, _]) dL_isJoin_11 rfl (by decide) (by rfl) rfl ?_
    refine V_aload_n (q := 13) dL_isJoin_12 rfl rfl rfl ?_
    refine V_iload_n (q := 14) dL_isJoin_13 rfl rfl ?_
    refine CrL_96 (q := 17) rfl dL_isJoin_14 rfl (X_isClean hX1) ⟨(Nat.le_of_ble_eq_true rfl), (Nat.le_of_ble_eq_true rfl)⟩ (Nat.le_of_ble_eq_true rfl) (by first | assumption | exact up_eq | exact (up_ne (by omega)).trans (by first | assumption | exact up_eq | exact (up_ne (by omega)).trans (by first | assumption | exact up_eq | exact (up_ne (by omega)).trans (by first | assumption | exact up_eq)))) (by omega) (Nat.zero_le _) (Nat.zero_le _) ?_
    refine V_topi (ecl) ?_
    refine V_iconst (q := 18) (v := nI 1) dL_isJoin_17 rfl (by decide) ?_
    refine V_icmp_ne (q := 21) (tgt := 39) dL_isJoin_18 (by decide) rfl (fun h9 => absurd (by decide) h9) (fun _ => ?_)
    refine V_aload_n (q := 22) dL_isJoin_21 rfl rfl rfl ?_
    refine V_iload_n (q := 23) dL_isJoin_22 rfl rfl ?_
    refine V_iconst (q := 24) (v := nI 2) dL_isJoin_23 rfl (by decide) ?_
    refine CrL_85 (q := 27) rfl dL_isJoin_24 rfl (X_rowOf hX1) ⟨(Nat.le_of_ble_eq_true rfl), (Nat.le_of_ble_eq_true rfl)⟩ (Nat.le_of_ble_eq_true rfl) (by first | assumption | exact up_eq | exact (up_ne (by omega)).trans (by first | assumption | exact up_eq | exact (up_ne (by omega)).trans (by first | assumption | exact up_eq | exact (up_ne (by omega)).trans (by first | assumption | exact up_eq)))) (by omega) (Nat.zero_le _) (Nat.zero_le _) ?_
    refine V_topi (e2) ?_
    refine V_aload_n (q := 28) dL_isJoin_27 rfl rfl rfl ?_
    refine V_iconst (q := 29) (v := nI 1) dL_isJoin_28 rfl (by decide) ?_
    refine CrL_82 (q := 32) rfl dL_isJoin_29 rfl (X_juggler hX1 hS) ⟨(Nat.le_of_ble_eq_true rfl), (Nat.le_of_ble_eq_true rfl)⟩ (Nat.le_of_ble_eq_true rfl) (by first | assumption | exact up_eq | exact (up_ne (by omega)).trans (by first | assumption | exact up_eq | exact (up_ne (by omega)).trans (by first | assumption | exact up_eq | exact (up_ne (by omega)).trans (by first | assumption | exact up_eq)))) (by omega) (Nat.zero_le _) (Nat.zero_le _) ?_
    refine V_topi ((jugA_at (by decide))) ?_
    refine V_topi ((show jugW (xN X) 1 = nI (popc (sS (xN X))) from rfl)) ?_
    refine V_icmp_ne (q := 35) (tgt := 39) dL_isJoin_32 (by decide) rfl (fun h9 => absurd rfl h9) (fun _ => ?_)
    refine V_iconst (q := 36) (v := nI 1) dL_isJoin_35 rfl (by decide) ?_
    refine V_goto (tgt := 40) dL_isJoin_36 (by decide) ?_
    refine V_istore (q := 42) (ls' := [_, _, _, _, _, _, _, _]) dL_isJoin_40 rfl (by decide) (by rfl) rfl ?_
    refine V_iload (q := 44) dL_isJoin_42 rfl rfl ?_
    refine V_if_ne (q := 47) (tgt := 87) dL_isJoin_44 (by decide) rfl (fun _ => ?_) (fun h9 => absurd h9 (by decide))
    refine V_iload_n (q := 88) dL_isJoin_87 rfl rfl ?_
    refine V_ifN_lt (q := 91) (tgt := 129) dL_isJoin_88 (by decide) rfl (by omega) (fun h9 => by first | exact h9.elim | exact absurd h9 (by assumption) | (exfalso; omega)) (fun _ => ?_)
    refine V_iload_n (q := 92) dL_isJoin_91 rfl rfl ?_
    refine V_bipush (q := 94) (v := nI 9) dL_isJoin_92 rfl (by decide) ?_
    refine V_icmpN_gt (q := 97) (tgt := 129) dL_isJoin_94 (by decide) rfl (by omega) (by omega) (fun h9 => by first | exact h9.elim | exact absurd h9 (by assumption) | (exfalso; omega)) (fun _ => ?_)
    refine V_aload_n (q := 98) dL_isJoin_97 rfl rfl rfl ?_
    refine V_iload_n (q := 99) dL_isJoin_98 rfl rfl ?_
    refine CiL_129 (q := 102) rfl dL_isJoin_99 rfl ((X_joinAgain hX1 hS)) ⟨(Nat.le_of_ble_eq_true rfl), (Nat.le_of_ble_eq_true rfl)⟩ (Nat.le_of_ble_eq_true rfl) (by first | assumption | exact up_eq | exact (up_ne (by omega)).trans (by first | assumption | exact up_eq | exact (up_ne (by omega)).trans (by first | assumption | exact up_eq | exact (up_ne (by omega)).trans (by first | assumption | exact up_eq)))) (by omega) (Nat.zero_le _) (Nat.zero_le _) (fun y w2 h2 => ?_)
    obtain ⟨rfl, hX2, hF2⟩ := h2
    obtain ⟨hob2, hn2⟩ := hX2.obj
    refine V_topi (ej) ?_
    refine V_iload_n (q := 103) dL_isJoin_102 rfl rfl ?_
    refine V_icmp_ne (q := 106) (tgt := 129) dL_isJoin_103 (by decide) rfl (fun h9 => absurd rfl h9) (fun _ => ?_)
    refine V_aload_n (q := 107) dL_isJoin_106 rfl rfl rfl ?_
    refine V_iload_n (q := 108) dL_isJoin_107 rfl rfl ?_
    refine CiL_135 (q := 111) rfl dL_isJoin_108 rfl ((X_tellJoin hX2 hS)) ⟨(Nat.le_of_ble_eq_true rfl), (Nat.le_of_ble_eq_true rfl)⟩ (Nat.le_of_ble_eq_true rfl) (by first | assumption | exact up_eq | exact (up_ne (by omega)).trans (by first | assumption | exact up_eq | exact (up_ne (by omega)).trans (by first | assumption | exact up_eq | exact (up_ne (by omega)).trans (by first | assumption | exact up_eq)))) (by omega) (Nat.zero_le _) (Nat.zero_le _) (fun y w3 h3 => ?_)
    rw [etl] at h3
    obtain ⟨rfl, hX3, hF3⟩ := h3
    obtain ⟨hob3, hn3⟩ := hX3.obj
    refine V_iload_n (q := 112) dL_isJoin_111 rfl rfl ?_
    refine V_icmp_ne (q := 115) (tgt := 129) dL_isJoin_112 (by decide) rfl (fun h9 => absurd rfl h9) (fun _ => ?_)
    refine V_aload_n (q := 116) dL_isJoin_115 rfl rfl rfl ?_
    refine V_iload_n (q := 117) dL_isJoin_116 rfl rfl ?_
    refine V_iload_n (q := 118) dL_isJoin_117 rfl rfl ?_
    refine CiL_132 (q := 121) rfl dL_isJoin_118 rfl ((X_joinThrow hX3 hS)) ⟨(Nat.le_of_ble_eq_true rfl), (Nat.le_of_ble_eq_true rfl)⟩ (Nat.le_of_ble_eq_true rfl) (by first | assumption | exact up_eq | exact (up_ne (by omega)).trans (by first | assumption | exact up_eq | exact (up_ne (by omega)).trans (by first | assumption | exact up_eq | exact (up_ne (by omega)).trans (by first | assumption | exact up_eq)))) (by omega) (Nat.zero_le _) (Nat.zero_le _) (fun y w4 h4 => ?_)
    obtain ⟨rfl, hX4, hF4⟩ := h4
    refine V_topi (eje) ?_
    refine V_iconst (q := 122) (v := (-1)) dL_isJoin_121 rfl (by decide) ?_
    refine V_icmp_ne (q := 125) (tgt := 129) dL_isJoin_122 (by decide) rfl (fun h9 => absurd rfl h9) (fun _ => ?_)
    refine V_fg 4 (ls2 := [_, _, _, _, none, _, _, _]) (by rfl) ?_
    refine V_iconst (q := 126) (v := nI 1) dL_isJoin_125 rfl (by decide) ?_
    refine V_goto (tgt := 130) dL_isJoin_126 (by decide) ?_
    refine V_istore (q := 132) (ls' := [_, _, _, _, _, _, _, _]) dL_isJoin_130 rfl (by decide) (by rfl) rfl ?_
    refine V_iconst (q := 133) (v := nI 0) dL_isJoin_132 rfl (by decide) ?_
    refine V_istore (q := 135) (ls' := [_, _, _, _, _, _, _, _]) dL_isJoin_133 rfl (by decide) (by rfl) rfl ?_
    exact loop k 0 w4 (sS (xN X)) (Nat.zero_add _) hX4 (((hF1.tr hF2).tr hF3).tr hF4) (PC_beg hcod.1)
  · have ej : joiA (nI i) (xN X) = -4 := by rw [joiA_at hN hi, if_neg hb]
    have ejt : ∀ x, jthA (nI i) x (xN X) = -4 := fun x => jthA_no hN hi hb
    have etl := tlj_no hN hi hb
    have e2 : rowA (nI i) (nI 2) (xN X) = ballI (sR (xN X) i).2 (sR (xN X) i).1 := by rw [rowA_at hN hi (by decide)]; rfl
    have ecl := clnA_at hN hi
    have rest : ∀ w1, XW g w1 n o X → FrX w w1 o → V g l ML_isJoin (rmd 5 0 0) (FinM g (qI (LQ g w n o X 1) n) 0 0) 39 [some (rf g o), some (.int (nI i)), some (.int (-4)), some (.int (nI (sS (xN X)))), none, none, none, none] [] (w1) n 0 0 := by
      intro w1 hX1 hF1
      obtain ⟨hob1, hn1⟩ := hX1.obj
      refine V_iconst (q := 40) (v := nI 0) dL_isJoin_39 rfl (by decide) ?_
      refine V_istore (q := 42) (ls' := [_, _, _, _, _, _, _, _]) dL_isJoin_40 rfl (by decide) (by rfl) rfl ?_
      refine V_iload (q := 44) dL_isJoin_42 rfl rfl ?_
      refine V_if_ne (q := 47) (tgt := 87) dL_isJoin_44 (by decide) rfl (fun h9 => absurd (by decide) h9) (fun _ => ?_)
      refine V_iload_n (q := 48) dL_isJoin_47 rfl rfl ?_
      refine V_bipush (q := 50) (v := (-4)) dL_isJoin_48 rfl (by decide) ?_
      refine V_icmp_ne (q := 53) (tgt := 85) dL_isJoin_50 (by decide) rfl (fun h9 => absurd rfl h9) (fun _ => ?_)
      refine V_aload_n (q := 54) dL_isJoin_53 rfl rfl rfl ?_
      refine V_iload_n (q := 55) dL_isJoin_54 rfl rfl ?_
      refine CiL_129 (q := 58) rfl dL_isJoin_55 rfl ((X_joinAgain hX1 hS)) ⟨(Nat.le_of_ble_eq_true rfl), (Nat.le_of_ble_eq_true rfl)⟩ (Nat.le_of_ble_eq_true rfl) (by first | assumption | exact up_eq | exact (up_ne (by omega)).trans (by first | assumption | exact up_eq | exact (up_ne (by omega)).trans (by first | assumption | exact up_eq | exact (up_ne (by omega)).trans (by first | assumption | exact up_eq)))) (by omega) (Nat.zero_le _) (Nat.zero_le _) (fun y w2 h2 => ?_)
      obtain ⟨rfl, hX2, hF2⟩ := h2
      obtain ⟨hob2, hn2⟩ := hX2.obj
      refine V_topi (ej) ?_
      refine V_iload_n (q := 59) dL_isJoin_58 rfl rfl ?_
      refine V_icmp_ne (q := 62) (tgt := 85) dL_isJoin_59 (by decide) rfl (fun h9 => absurd rfl h9) (fun _ => ?_)
      refine V_aload_n (q := 63) dL_isJoin_62 rfl rfl rfl ?_
      refine V_iload_n (q := 64) dL_isJoin_63 rfl rfl ?_
      refine V_iconst (q := 65) (v := nI 0) dL_isJoin_64 rfl (by decide) ?_
      refine CiL_132 (q := 68) rfl dL_isJoin_65 rfl ((X_joinThrow hX2 hS)) ⟨(Nat.le_of_ble_eq_true rfl), (Nat.le_of_ble_eq_true rfl)⟩ (Nat.le_of_ble_eq_true rfl) (by first | assumption | exact up_eq | exact (up_ne (by omega)).trans (by first | assumption | exact up_eq | exact (up_ne (by omega)).trans (by first | assumption | exact up_eq | exact (up_ne (by omega)).trans (by first | assumption | exact up_eq)))) (by omega) (Nat.zero_le _) (Nat.zero_le _) (fun y w3 h3 => ?_)
      obtain ⟨rfl, hX3, hF3⟩ := h3
      obtain ⟨hob3, hn3⟩ := hX3.obj
      refine V_topi ((ejt _)) ?_
      refine V_iload_n (q := 69) dL_isJoin_68 rfl rfl ?_
      refine V_icmp_ne (q := 72) (tgt := 85) dL_isJoin_69 (by decide) rfl (fun h9 => absurd rfl h9) (fun _ => ?_)
      refine V_aload_n (q := 73) dL_isJoin_72 rfl rfl rfl ?_
      refine V_iload_n (q := 74) dL_isJoin_73 rfl rfl ?_
      refine CiL_135 (q := 77) rfl dL_isJoin_74 rfl ((X_tellJoin hX3 hS)) ⟨(Nat.le_of_ble_eq_true rfl), (Nat.le_of_ble_eq_true rfl)⟩ (Nat.le_of_ble_eq_true rfl) (by first | assumption | exact up_eq | exact (up_ne (by omega)).trans (by first | assumption | exact up_eq | exact (up_ne (by omega)).trans (by first | assumption | exact up_eq | exact (up_ne (by omega)).trans (by first | assumption | exact up_eq)))) (by omega) (Nat.zero_le _) (Nat.zero_le _) (fun y w4 h4 => ?_)
      rw [etl] at h4
      obtain ⟨rfl, hX4, hF4⟩ := h4
      refine V_iload_n (q := 78) dL_isJoin_77 rfl rfl ?_
      refine V_icmp_ne (q := 81) (tgt := 85) dL_isJoin_78 (by decide) rfl (fun h9 => absurd rfl h9) (fun _ => ?_)
      refine V_iconst (q := 82) (v := nI 1) dL_isJoin_81 rfl (by decide) ?_
      refine V_goto (tgt := 86) dL_isJoin_82 (by decide) ?_
      exact V_zret dL_isJoin_86 rfl (rfl) (Nat.le_of_ble_eq_true rfl) (Nat.le_of_ble_eq_true rfl) (⟨rfl, _, rfl, rfl, ⟨_, hX4⟩, ((hF1.tr hF2).tr hF3).tr hF4⟩)
    refine Ct.ofs (M := ML_isJoin) (ls := [some _, some _, none, none, none, none, none, none]) (by decide +kernel) (by exact (Nat.le_of_ble_eq_true rfl)) (by rfl) (by rfl) (by rfl) ?_
    refine V_aload_n (q := 1) dL_isJoin_0 rfl rfl rfl ?_
    refine V_iload_n (q := 2) dL_isJoin_1 rfl rfl ?_
    refine CiL_126 (q := 5) rfl dL_isJoin_2 rfl ((X_joinTo hX hS)) ⟨(Nat.le_of_ble_eq_true rfl), (Nat.le_of_ble_eq_true rfl)⟩ (Nat.le_of_ble_eq_true rfl) (by first | assumption | exact up_eq | exact (up_ne (by omega)).trans (by first | assumption | exact up_eq | exact (up_ne (by omega)).trans (by first | assumption | exact up_eq | exact (up_ne (by omega)).trans (by first | assumption | exact up_eq)))) (by omega) (Nat.zero_le _) (Nat.zero_le _) (fun y w1 h1 => ?_)
    obtain ⟨rfl, hX1, hF1⟩ := h1
    obtain ⟨hob1, hn1⟩ := hX1.obj
    refine V_topi (ej) ?_
    refine V_istore_n (q := 6) (ls' := [_, _, _, _, _, _, _, _]) dL_isJoin_5 rfl (by decide) (by rfl) rfl ?_
    refine V_aload_n (q := 7) dL_isJoin_6 rfl rfl rfl ?_
    refine V_iconst (q := 8) (v := nI 0) dL_isJoin_7 rfl (by decide) ?_
    refine CrL_82 (q := 11) rfl dL_isJoin_8 rfl (X_juggler hX1 hS) ⟨(Nat.le_of_ble_eq_true rfl), (Nat.le_of_ble_eq_true rfl)⟩ (Nat.le_of_ble_eq_true rfl) (by first | assumption | exact up_eq | exact (up_ne (by omega)).trans (by first | assumption | exact up_eq | exact (up_ne (by omega)).trans (by first | assumption | exact up_eq | exact (up_ne (by omega)).trans (by first | assumption | exact up_eq)))) (by omega) (Nat.zero_le _) (Nat.zero_le _) ?_
    refine V_topi ((jugA_at (by decide))) ?_
    refine V_topi ((show jugW (xN X) 0 = nI (sS (xN X)) from rfl)) ?_
    refine V_istore_n (q := 12) (ls' := [_, _, _, _, _, _, _, _]) dL_isJoin_11 rfl (by decide) (by rfl) rfl ?_
    refine V_aload_n (q := 13) dL_isJoin_12 rfl rfl rfl ?_
    refine V_iload_n (q := 14) dL_isJoin_13 rfl rfl ?_
    refine CrL_96 (q := 17) rfl dL_isJoin_14 rfl (X_isClean hX1) ⟨(Nat.le_of_ble_eq_true rfl), (Nat.le_of_ble_eq_true rfl)⟩ (Nat.le_of_ble_eq_true rfl) (by first | assumption | exact up_eq | exact (up_ne (by omega)).trans (by first | assumption | exact up_eq | exact (up_ne (by omega)).trans (by first | assumption | exact up_eq | exact (up_ne (by omega)).trans (by first | assumption | exact up_eq)))) (by omega) (Nat.zero_le _) (Nat.zero_le _) ?_
    refine V_topi (ecl) ?_
    by_cases hc : clN (sR (xN X) i).2 (sR (xN X) i).1 = (sR (xN X) i).1
    · skip
      refine V_topi ((if_pos hc)) ?_
      refine V_iconst (q := 18) (v := nI 1) dL_isJoin_17 rfl (by decide) ?_
      refine V_icmp_ne (q := 21) (tgt := 39) dL_isJoin_18 (by decide) rfl (fun h9 => absurd (by decide) h9) (fun _ => ?_)
      refine V_aload_n (q := 22) dL_isJoin_21 rfl rfl rfl ?_
      refine V_iload_n (q := 23) dL_isJoin_22 rfl rfl ?_
      refine V_iconst (q := 24) (v := nI 2) dL_isJoin_23 rfl (by decide) ?_
      refine CrL_85 (q := 27) rfl dL_isJoin_24 rfl (X_rowOf hX1) ⟨(Nat.le_of_ble_eq_true rfl), (Nat.le_of_ble_eq_true rfl)⟩ (Nat.le_of_ble_eq_true rfl) (by first | assumption | exact up_eq | exact (up_ne (by omega)).trans (by first | assumption | exact up_eq | exact (up_ne (by omega)).trans (by first | assumption | exact up_eq | exact (up_ne (by omega)).trans (by first | assumption | exact up_eq)))) (by omega) (Nat.zero_le _) (Nat.zero_le _) ?_
      refine V_topi (e2) ?_
      refine V_aload_n (q := 28) dL_isJoin_27 rfl rfl rfl ?_
      refine V_iconst (q := 29) (v := nI 1) dL_isJoin_28 rfl (by decide) ?_
      refine CrL_82 (q := 32) rfl dL_isJoin_29 rfl (X_juggler hX1 hS) ⟨(Nat.le_of_ble_eq_true rfl), (Nat.le_of_ble_eq_true rfl)⟩ (Nat.le_of_ble_eq_true rfl) (by first | assumption | exact up_eq | exact (up_ne (by omega)).trans (by first | assumption | exact up_eq | exact (up_ne (by omega)).trans (by first | assumption | exact up_eq | exact (up_ne (by omega)).trans (by first | assumption | exact up_eq)))) (by omega) (Nat.zero_le _) (Nat.zero_le _) ?_
      refine V_topi ((jugA_at (by decide))) ?_
      refine V_topi ((show jugW (xN X) 1 = nI (popc (sS (xN X))) from rfl)) ?_
      refine V_icmp_ne (q := 35) (tgt := 39) dL_isJoin_32 (by decide) rfl (fun _ => ?_) (fun h9 => absurd h9 hb)
      exact rest w1 hX1 hF1
    · skip
      refine V_topi ((if_neg hc)) ?_
      refine V_iconst (q := 18) (v := nI 1) dL_isJoin_17 rfl (by decide) ?_
      refine V_icmp_ne (q := 21) (tgt := 39) dL_isJoin_18 (by decide) rfl (fun _ => ?_) (fun h9 => absurd h9 (by decide))
      exact rest w1 hX1 hF1
end JUG
