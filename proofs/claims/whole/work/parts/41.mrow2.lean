/-! the model: states, periods, answers about rows -/
theorem srcN_ok {L b k : Nat} (hL : 0 < L) : (b + 16 * L - k) % L = srcN L b k := rfl
theorem perN_rep {h : Nat → Nat} {L m : Nat} (hL : 0 < L) (hm : 0 < m) (hm2 : m ≤ L) : PerN h L m ↔ (L % m = 0 ∧ ∀ b, b < L → h b = h ((b + m) % L)) := by
  constructor
  · rintro ⟨_, _, h3, h4⟩
    refine ⟨h3, fun b hb => ?_⟩
    by_cases z : b + m < L
    · rw [Nat.mod_eq_of_lt z]; exact h4 b z
    · -- from the end back to the beginning, step by step
      have e : (b + m) % L = b + m - L := by
        rw [Nat.mod_eq_sub_mod (by omega), Nat.mod_eq_of_lt (by omega)]
      rw [e]
      have down : ∀ q x, x + q * m < L → h x = h (x + q * m) := by
        intro q
        induction q with
        | zero => intro x _; rw [Nat.zero_mul, Nat.add_zero]
        | succ q ih =>
          intro x hx
          rw [Nat.succ_mul] at hx
          rw [ih x (by omega), h4 (x + q * m) (by omega)]
          rw [Nat.succ_mul]
          congr 1
          omega
      obtain ⟨q, hq⟩ : ∃ q, L = m * q := ⟨L / m, by have := Nat.div_add_mod L m; omega⟩
      obtain ⟨r, hr⟩ : ∃ r, q = r + 1 := ⟨q - 1, by
        rcases Nat.eq_zero_or_pos q with z2 | z2
        · rw [z2, Nat.mul_zero] at hq; omega
        · omega⟩
      have e2 : L = r * m + m := by rw [hq, hr, Nat.mul_add, Nat.mul_one, Nat.mul_comm]
      have e3 := down r (b + m - L) (by omega)
      rw [e3]
      congr 1
      omega
  · rintro ⟨h3, h4⟩
    refine ⟨hm, hm2, h3, fun b hb => ?_⟩
    have := h4 b (by omega)
    rwa [Nat.mod_eq_of_lt hb] at this
section MR
variable {g : GG} {l : Launch} {w : HW} {n p : Nat} {F : Nat → Int32} {N : StT} {fs : List Value}
theorem m_stateAt (h0 : w p = eO 8 (rf g (p + 1) :: fs)) (h1 : w (p + 1) = eI g 63 F) (hn : p + 1 < n) (hR : RN F N) {i b : Nat} (hi : i < sC N) (hb : b < (sR N i).1) : CtR g l MX8_stateAt 1 [rf g p, .int (nI i), .int (nI b)] w n (.int (nI (stN (sR N i).2 (sR N i).1 b))) := by
  obtain ⟨e0, e1, e2⟩ := hR.2.2.1.2 i hi
  refine Ct.ofs (M := MX8_stateAt) (ls := [some _, some _, some _, none, none, none, none]) (by decide +kernel) (by exact (Nat.le_of_ble_eq_true rfl)) (by rfl) (by rfl) (by rfl) ?_
  refine V_aload_n (q := 1) dX8_stateAt_0 rfl rfl rfl ?_
  refine V_iload_n (q := 2) dX8_stateAt_1 rfl rfl ?_
  refine CrX8_75 (q := 5) rfl dX8_stateAt_2 rfl (m_lengthOf h0 h1 hn hR hi) ⟨(Nat.le_of_ble_eq_true rfl), (Nat.le_of_ble_eq_true rfl)⟩ (Nat.le_of_ble_eq_true rfl) (by first | assumption | exact up_eq | exact (up_ne (by omega)).trans (by first | assumption | exact up_eq | exact (up_ne (by omega)).trans (by first | assumption | exact up_eq | exact (up_ne (by omega)).trans (by first | assumption | exact up_eq)))) (by omega) (Nat.zero_le _) (Nat.zero_le _) ?_
  refine V_istore_n (q := 6) (ls' := [_, _, _, _, _, _, _]) dX8_stateAt_5 rfl (by decide) rfl ?_
  refine V_iconst (q := 7) (v := nI 0) dX8_stateAt_6 rfl (by decide) ?_
  refine V_istore (q := 9) (ls' := [_, _, _, _, _, _, _]) dX8_stateAt_7 rfl (by decide) rfl ?_
  refine V_iconst (q := 10) (v := nI 1) dX8_stateAt_9 rfl (by decide) ?_
  refine V_istore (q := 12) (ls' := [_, _, _, _, _, _, _]) dX8_stateAt_10 rfl (by decide) rfl ?_
  refine loopU (fun k => V g l MX8_stateAt (rmd 1 0 0) (FinM g (qR (.int (nI (stN (sR N i).2 (sR N i).1 b))) w n) 0 0) 12 [some (rf g p), some (.int (nI i)), some (.int (nI b)), some (.int (nI (sR N i).1)), some (.int (nI (stA (sR N i).2 (sR N i).1 b k))), some (.int (nI (k + 1))), none] [] (w) n 0 0) 9 ?_ ?_ 0 (Nat.zero_le _)
  · skip
    refine V_iload (q := 14) dX8_stateAt_12 rfl rfl ?_
    refine V_bipush (q := 16) (v := nI 9) dX8_stateAt_14 rfl (by decide) ?_
    refine V_icmpN_gt (q := 19) (tgt := 64) dX8_stateAt_16 (by decide) rfl (by omega) (by omega) (fun _ => ?_) (fun h9 => by first | exact h9.elim | (exfalso; omega))
    refine V_iload (q := 66) dX8_stateAt_64 rfl rfl ?_
    exact V_iret dX8_stateAt_66 rfl (Nat.le_of_ble_eq_true rfl) (Nat.le_of_ble_eq_true rfl) (⟨rfl, rfl, rfl⟩)
  · intro k hk ih
    have hsl := srcN_lt (b := b) (k := k + 1) e0
    have hs9 := e2 _ hsl
    have hst : stA (sR N i).2 (sR N i).1 b (k + 1) = stA (sR N i).2 (sR N i).1 b k ||| stB (sR N i).2 (sR N i).1 b (k + 1) := rfl
    refine V_iload (q := 14) dX8_stateAt_12 rfl rfl ?_
    refine V_bipush (q := 16) (v := nI 9) dX8_stateAt_14 rfl (by decide) ?_
    refine V_icmpN_gt (q := 19) (tgt := 64) dX8_stateAt_16 (by decide) rfl (by omega) (by omega) (fun h9 => by first | exact h9.elim | exact absurd h9 (by assumption) | (exfalso; omega)) (fun _ => ?_)
    refine V_aload_n (q := 20) dX8_stateAt_19 rfl rfl rfl ?_
    refine V_iload_n (q := 21) dX8_stateAt_20 rfl rfl ?_
    refine V_iload_n (q := 22) dX8_stateAt_21 rfl rfl ?_
    refine V_bipush (q := 24) (v := nI 16) dX8_stateAt_22 rfl (by decide) ?_
    refine V_iload_n (q := 25) dX8_stateAt_24 rfl rfl ?_
    refine V_imul (q := 26) dX8_stateAt_25 rfl (by first | exact pk_mul _ _ | rfl) ?_
    refine V_iadd (q := 27) dX8_stateAt_26 rfl (by first | exact nI_add _ _ | rfl) ?_
    refine V_iload (q := 29) dX8_stateAt_27 rfl rfl ?_
    refine V_isub (q := 30) dX8_stateAt_29 rfl (by first | exact pk_sub (by omega) | rfl) ?_
    refine V_iload_n (q := 31) dX8_stateAt_30 rfl rfl ?_
    refine V_irem (q := 32) dX8_stateAt_31 rfl (nI_ne0 (by omega) (by omega)) (by first | exact pk_rem (by omega) (by omega) (by omega) | rfl) ?_
    by_cases q : k + 1 ≤ (sR N i).2 (srcN (sR N i).1 b (k + 1))
    · have hsb : stB (sR N i).2 (sR N i).1 b (k + 1) = 2 ^ ((sR N i).2 (srcN (sR N i).1 b (k + 1)) - (k + 1)) := if_pos q
      refine V_topi (show nI ((b + 16 * (sR N i).1 - (k + 1)) % (sR N i).1) = nI (srcN (sR N i).1 b (k + 1)) from rfl) ?_
      refine CrX8_79 (q := 35) rfl dX8_stateAt_32 rfl (m_thrown h0 h1 hn hR hi hsl) ⟨(Nat.le_of_ble_eq_true rfl), (Nat.le_of_ble_eq_true rfl)⟩ (Nat.le_of_ble_eq_true rfl) (by first | assumption | exact up_eq | exact (up_ne (by omega)).trans (by first | assumption | exact up_eq | exact (up_ne (by omega)).trans (by first | assumption | exact up_eq | exact (up_ne (by omega)).trans (by first | assumption | exact up_eq)))) (by omega) (Nat.zero_le _) (Nat.zero_le _) ?_
      refine V_iload (q := 37) dX8_stateAt_35 rfl rfl ?_
      refine V_isub (q := 38) dX8_stateAt_37 rfl (by first | exact pk_sub (by omega) | rfl) ?_
      refine V_istore (q := 40) (ls' := [_, _, _, _, _, _, _]) dX8_stateAt_38 rfl (by decide) rfl ?_
      refine V_iload (q := 42) dX8_stateAt_40 rfl rfl ?_
      refine V_iload (q := 44) dX8_stateAt_42 rfl rfl ?_
      refine V_ifN_lt (q := 47) (tgt := 54) dX8_stateAt_44 (by decide) rfl (by omega) (fun h9 => by first | exact h9.elim | exact absurd h9 (by assumption) | (exfalso; omega)) (fun _ => ?_)
      refine V_iconst (q := 48) (v := nI 1) dX8_stateAt_47 rfl (by decide) ?_
      refine V_iload (q := 50) dX8_stateAt_48 rfl rfl ?_
      refine V_ishl (q := 51) dX8_stateAt_50 rfl (shl1 (by omega)) ?_
      refine V_goto (tgt := 55) dX8_stateAt_51 (by decide) ?_
      refine V_ior (q := 56) dX8_stateAt_55 rfl (by first | exact fa_or _ _ | rfl) ?_
      refine V_istore (q := 58) (ls' := [_, _, _, _, _, _, _]) dX8_stateAt_56 rfl (by decide) rfl ?_
      refine V_iinc (q := 61) (ls' := [_, _, _, _, _, _, _]) dX8_stateAt_58 rfl (by decide) rfl (by first | exact inc1 _ | rfl) rfl ?_
      refine V_goto (tgt := 12) dX8_stateAt_61 (by decide) ?_
      rw [← hsb, ← hst]
      refine V_fg 6 (ls2 := [_, _, _, _, _, _, none]) (by rfl) ?_
      exact ih
    · have hsb : stB (sR N i).2 (sR N i).1 b (k + 1) = 0 := if_neg q
      rw [hst, hsb] at ih
      refine V_topi (show nI ((b + 16 * (sR N i).1 - (k + 1)) % (sR N i).1) = nI (srcN (sR N i).1 b (k + 1)) from rfl) ?_
      refine CrX8_79 (q := 35) rfl dX8_stateAt_32 rfl (m_thrown h0 h1 hn hR hi hsl) ⟨(Nat.le_of_ble_eq_true rfl), (Nat.le_of_ble_eq_true rfl)⟩ (Nat.le_of_ble_eq_true rfl) (by first | assumption | exact up_eq | exact (up_ne (by omega)).trans (by first | assumption | exact up_eq | exact (up_ne (by omega)).trans (by first | assumption | exact up_eq | exact (up_ne (by omega)).trans (by first | assumption | exact up_eq)))) (by omega) (Nat.zero_le _) (Nat.zero_le _) ?_
      refine V_iload (q := 37) dX8_stateAt_35 rfl rfl ?_
      refine V_isub (q := 38) dX8_stateAt_37 rfl rfl ?_
      refine V_istore (q := 40) (ls' := [_, _, _, _, _, _, _]) dX8_stateAt_38 rfl (by decide) rfl ?_
      refine V_iload (q := 42) dX8_stateAt_40 rfl rfl ?_
      refine V_iload (q := 44) dX8_stateAt_42 rfl rfl ?_
      refine V_if_lt (q := 47) (tgt := 54) dX8_stateAt_44 (by decide) rfl (fun _ => ?_) (fun h9 => absurd (sub_neg _ (by omega) _ (by omega) (by omega)) h9)
      refine V_iconst (q := 55) (v := nI 0) dX8_stateAt_54 rfl (by decide) ?_
      refine V_ior (q := 56) dX8_stateAt_55 rfl (by first | exact fa_or _ _ | rfl) ?_
      refine V_istore (q := 58) (ls' := [_, _, _, _, _, _, _]) dX8_stateAt_56 rfl (by decide) rfl ?_
      refine V_iinc (q := 61) (ls' := [_, _, _, _, _, _, _]) dX8_stateAt_58 rfl (by decide) rfl (by first | exact inc1 _ | rfl) rfl ?_
      refine V_goto (tgt := 12) dX8_stateAt_61 (by decide) ?_
      refine V_fg 6 (ls2 := [_, _, _, _, _, _, none]) (by rfl) ?_
      exact ih
theorem m_orNothing {x : Int32} : CtR g l MX8_orNothing 0 [.int x] w n (.int (if x < 0 then -4 else x)) := by
  refine Ct.ofs (M := MX8_orNothing) (ls := [some _]) (by decide +kernel) (by exact (Nat.le_of_ble_eq_true rfl)) (by rfl) (by rfl) (by rfl) ?_
  refine V_iload_n (q := 1) dX8_orNothing_0 rfl rfl ?_
  refine V_if_ge (q := 4) (tgt := 9) dX8_orNothing_1 (by decide) rfl (fun h1 => ?_) (fun h1 => ?_)
  · skip
    rw [if_neg (fun q => (fa_of_lt q).2.1 h1)]
    refine V_iload_n (q := 10) dX8_orNothing_9 rfl rfl ?_
    exact V_iret dX8_orNothing_10 rfl (Nat.le_of_ble_eq_true rfl) (Nat.le_of_ble_eq_true rfl) (⟨rfl, rfl, rfl⟩)
  · skip
    rw [if_pos (fa_of_nle h1)]
    refine V_bipush (q := 6) (v := (-4)) dX8_orNothing_4 rfl (by decide) ?_
    refine V_goto (tgt := 10) dX8_orNothing_6 (by decide) ?_
    exact V_iret dX8_orNothing_10 rfl (Nat.le_of_ble_eq_true rfl) (Nat.le_of_ble_eq_true rfl) (⟨rfl, rfl, rfl⟩)
theorem orN_cl {h : Nat → Nat} {L : Nat} (hL : L < 2 ^ 31) : (if mclI h L < 0 then (-4 : Int32) else mclI h L) = clshI h L := by
  have := clN_le h L
  unfold mclI clshI
  by_cases hc : clN h L = L
  · rw [if_pos hc, if_pos hc]; rfl
  · rw [if_neg hc, if_neg hc, if_neg (nI_pos (by omega))]
theorem orN_ba {h : Nat → Nat} {L : Nat} (h0 : 0 < L) (hh : ∀ i, i < L → h i ≤ 9) : (if mbaI h L < 0 then (-4 : Int32) else mbaI h L) = ballI h L := by
  have := divL_le h0 hh
  unfold mbaI ballI
  by_cases hc : clN h L = L
  · rw [if_pos hc, if_pos hc, if_neg (nI_pos (by omega))]
  · rw [if_neg hc, if_neg hc]; rfl
theorem m_repeatsBy (h0 : w p = eO 8 (rf g (p + 1) :: fs)) (h1 : w (p + 1) = eI g 63 F) (hn : p + 1 < n) (hR : RN F N) {i m : Nat} (hi : i < sC N) (hm : 0 < m) (hm2 : m ≤ (sR N i).1) : CtR g l MX8_repeatsBy 1 [rf g p, .int (nI i), .int (nI m)] w n (.int (@ite _ (PerN (sR N i).2 (sR N i).1 m) (Classical.propDecidable _) 1 0)) := by
  obtain ⟨e0, e1, e2⟩ := hR.2.2.1.2 i hi
  have hpr := perN_rep (h := (sR N i).2) e0 hm hm2
  refine Ct.ofs (M := MX8_repeatsBy) (ls := [some _, some _, some _, none, none, none]) (by decide +kernel) (by exact (Nat.le_of_ble_eq_true rfl)) (by rfl) (by rfl) (by rfl) ?_
  refine V_aload_n (q := 1) dX8_repeatsBy_0 rfl rfl rfl ?_
  refine V_iload_n (q := 2) dX8_repeatsBy_1 rfl rfl ?_
  refine CrX8_75 (q := 5) rfl dX8_repeatsBy_2 rfl (m_lengthOf h0 h1 hn hR hi) ⟨(Nat.le_of_ble_eq_true rfl), (Nat.le_of_ble_eq_true rfl)⟩ (Nat.le_of_ble_eq_true rfl) (by first | assumption | exact up_eq | exact (up_ne (by omega)).trans (by first | assumption | exact up_eq | exact (up_ne (by omega)).trans (by first | assumption | exact up_eq | exact (up_ne (by omega)).trans (by first | assumption | exact up_eq)))) (by omega) (Nat.zero_le _) (Nat.zero_le _) ?_
  refine V_istore_n (q := 6) (ls' := [_, _, _, _, _, _]) dX8_repeatsBy_5 rfl (by decide) rfl ?_
  refine V_iload_n (q := 7) dX8_repeatsBy_6 rfl rfl ?_
  refine V_iload_n (q := 8) dX8_repeatsBy_7 rfl rfl ?_
  refine V_irem (q := 9) dX8_repeatsBy_8 rfl (nI_ne0 (by omega) (by omega)) (by first | exact pk_rem (by omega) (by omega) (by omega) | rfl) ?_
  have loop : ∀ k, k ≤ (sR N i).1 → ∀ v : Nat, (v = 0 ∨ v = 1) → (v = 1 ↔ ((sR N i).1 % m = 0 ∧ ∀ b, b < k → (sR N i).2 b = (sR N i).2 ((b + m) % (sR N i).1))) → V g l MX8_repeatsBy (rmd 1 0 0) (FinM g (qR (.int (@ite _ (PerN (sR N i).2 (sR N i).1 m) (Classical.propDecidable _) 1 0)) w n) 0 0) 22 [some (rf g p), some (.int (nI i)), some (.int (nI m)), some (.int (nI (sR N i).1)), some (.int (nI v)), some (.int (nI k))] [] (w) n 0 0 := by
    refine loopU (fun k => ∀ v : Nat, (v = 0 ∨ v = 1) → (v = 1 ↔ ((sR N i).1 % m = 0 ∧ ∀ b, b < k → (sR N i).2 b = (sR N i).2 ((b + m) % (sR N i).1))) → V g l MX8_repeatsBy (rmd 1 0 0) (FinM g (qR (.int (@ite _ (PerN (sR N i).2 (sR N i).1 m) (Classical.propDecidable _) 1 0)) w n) 0 0) 22 [some (rf g p), some (.int (nI i)), some (.int (nI m)), some (.int (nI (sR N i).1)), some (.int (nI v)), some (.int (nI k))] [] (w) n 0 0) (sR N i).1 ?_ ?_
    · intro v hv hiff
      rcases hv with rfl | rfl
      · rw [if_neg (fun q => absurd (hiff.mpr (hpr.mp q)) (by decide))]
        refine V_iload (q := 24) dX8_repeatsBy_22 rfl rfl ?_
        refine V_iload_n (q := 25) dX8_repeatsBy_24 rfl rfl ?_
        refine V_icmpN_ge (q := 28) (tgt := 65) dX8_repeatsBy_25 (by decide) rfl (by omega) (by omega) (fun _ => ?_) (fun h9 => by first | exact h9.elim | (exfalso; omega))
        refine V_iload (q := 67) dX8_repeatsBy_65 rfl rfl ?_
        exact V_zret dX8_repeatsBy_67 rfl (rfl) (Nat.le_of_ble_eq_true rfl) (Nat.le_of_ble_eq_true rfl) (⟨rfl, rfl, rfl⟩)
      · rw [if_pos (hpr.mpr (hiff.mp rfl))]
        refine V_iload (q := 24) dX8_repeatsBy_22 rfl rfl ?_
        refine V_iload_n (q := 25) dX8_repeatsBy_24 rfl rfl ?_
        refine V_icmpN_ge (q := 28) (tgt := 65) dX8_repeatsBy_25 (by decide) rfl (by omega) (by omega) (fun _ => ?_) (fun h9 => by first | exact h9.elim | (exfalso; omega))
        refine V_iload (q := 67) dX8_repeatsBy_65 rfl rfl ?_
        exact V_zret dX8_repeatsBy_67 rfl (rfl) (Nat.le_of_ble_eq_true rfl) (Nat.le_of_ble_eq_true rfl) (⟨rfl, rfl, rfl⟩)
    · intro k hk ih v hv hiff
      have hml : (k + m) % (sR N i).1 < (sR N i).1 := Nat.mod_lt _ e0
      have a1 := e2 k hk
      have a2 := e2 _ hml
      refine V_iload (q := 24) dX8_repeatsBy_22 rfl rfl ?_
      refine V_iload_n (q := 25) dX8_repeatsBy_24 rfl rfl ?_
      refine V_icmpN_ge (q := 28) (tgt := 65) dX8_repeatsBy_25 (by decide) rfl (by omega) (by omega) (fun h9 => by first | exact h9.elim | exact absurd h9 (by assumption) | (exfalso; omega)) (fun _ => ?_)
      refine V_iload (q := 30) dX8_repeatsBy_28 rfl rfl ?_
      refine V_aload_n (q := 31) dX8_repeatsBy_30 rfl rfl rfl ?_
      refine V_iload_n (q := 32) dX8_repeatsBy_31 rfl rfl ?_
      refine V_iload (q := 34) dX8_repeatsBy_32 rfl rfl ?_
      refine CrX8_79 (q := 37) rfl dX8_repeatsBy_34 rfl (m_thrown h0 h1 hn hR hi hk) ⟨(Nat.le_of_ble_eq_true rfl), (Nat.le_of_ble_eq_true rfl)⟩ (Nat.le_of_ble_eq_true rfl) (by first | assumption | exact up_eq | exact (up_ne (by omega)).trans (by first | assumption | exact up_eq | exact (up_ne (by omega)).trans (by first | assumption | exact up_eq | exact (up_ne (by omega)).trans (by first | assumption | exact up_eq)))) (by omega) (Nat.zero_le _) (Nat.zero_le _) ?_
      refine V_aload_n (q := 38) dX8_repeatsBy_37 rfl rfl rfl ?_
      refine V_iload_n (q := 39) dX8_repeatsBy_38 rfl rfl ?_
      refine V_iload (q := 41) dX8_repeatsBy_39 rfl rfl ?_
      refine V_iload_n (q := 42) dX8_repeatsBy_41 rfl rfl ?_
      refine V_iadd (q := 43) dX8_repeatsBy_42 rfl (by first | exact nI_add _ _ | rfl) ?_
      refine V_iload_n (q := 44) dX8_repeatsBy_43 rfl rfl ?_
      refine V_irem (q := 45) dX8_repeatsBy_44 rfl (nI_ne0 (by omega) (by omega)) (by first | exact pk_rem (by omega) (by omega) (by omega) | rfl) ?_
      refine CrX8_79 (q := 48) rfl dX8_repeatsBy_45 rfl (m_thrown h0 h1 hn hR hi hml) ⟨(Nat.le_of_ble_eq_true rfl), (Nat.le_of_ble_eq_true rfl)⟩ (Nat.le_of_ble_eq_true rfl) (by first | assumption | exact up_eq | exact (up_ne (by omega)).trans (by first | assumption | exact up_eq | exact (up_ne (by omega)).trans (by first | assumption | exact up_eq | exact (up_ne (by omega)).trans (by first | assumption | exact up_eq)))) (by omega) (Nat.zero_le _) (Nat.zero_le _) ?_
      refine V_icmpN_ne (q := 51) (tgt := 55) dX8_repeatsBy_48 (by decide) rfl (by omega) (by omega) (fun hq => ?_) (fun hq => ?_)
      · skip
        refine V_iconst (q := 56) (v := nI 0) dX8_repeatsBy_55 rfl (by decide) ?_
        refine V_iand (q := 57) dX8_repeatsBy_56 rfl (by first | exact fa_and _ _ | rfl) ?_
        refine V_istore (q := 59) (ls' := [_, _, _, _, _, _]) dX8_repeatsBy_57 rfl (by decide) rfl ?_
        refine V_iinc (q := 62) (ls' := [_, _, _, _, _, _]) dX8_repeatsBy_59 rfl (by decide) rfl (by first | exact inc1 _ | rfl) rfl ?_
        refine V_goto (tgt := 22) dX8_repeatsBy_62 (by decide) ?_
        refine ih (v &&& 0) (Or.inl (Nat.and_zero v)) ?_
        rw [Nat.and_zero]
        exact ⟨fun z => absurd z (by decide), fun z => absurd (z.2 k (Nat.lt_succ_self k)) hq⟩
      · skip
        refine V_iconst (q := 52) (v := nI 1) dX8_repeatsBy_51 rfl (by decide) ?_
        refine V_goto (tgt := 56) dX8_repeatsBy_52 (by decide) ?_
        refine V_iand (q := 57) dX8_repeatsBy_56 rfl (by first | exact fa_and _ _ | rfl) ?_
        refine V_istore (q := 59) (ls' := [_, _, _, _, _, _]) dX8_repeatsBy_57 rfl (by decide) rfl ?_
        refine V_iinc (q := 62) (ls' := [_, _, _, _, _, _]) dX8_repeatsBy_59 rfl (by decide) rfl (by first | exact inc1 _ | rfl) rfl ?_
        refine V_goto (tgt := 22) dX8_repeatsBy_62 (by decide) ?_
        refine ih (v &&& 1) (by rcases hv with rfl | rfl; exact Or.inl rfl; exact Or.inr rfl) ?_
        rw [show v &&& 1 = v by rcases hv with rfl | rfl <;> rfl, hiff]
        constructor
        · rintro ⟨z1, z2⟩
          refine ⟨z1, fun b hb => ?_⟩
          by_cases e : b = k
          · rw [e]; exact hq
          · exact z2 b (by omega)
        · rintro ⟨z1, z2⟩
          exact ⟨z1, fun b hb => z2 b (by omega)⟩
  have hmod : (sR N i).1 % m < m := Nat.mod_lt _ hm
  refine V_ifN_ne (q := 12) (tgt := 16) dX8_repeatsBy_9 (by decide) rfl (by omega) (fun hz => ?_) (fun hz => ?_)
  · skip
    refine V_iconst (q := 17) (v := nI 0) dX8_repeatsBy_16 rfl (by decide) ?_
    refine V_istore (q := 19) (ls' := [_, _, _, _, _, _]) dX8_repeatsBy_17 rfl (by decide) rfl ?_
    refine V_iconst (q := 20) (v := nI 0) dX8_repeatsBy_19 rfl (by decide) ?_
    refine V_istore (q := 22) (ls' := [_, _, _, _, _, _]) dX8_repeatsBy_20 rfl (by decide) rfl ?_
    exact loop 0 (Nat.zero_le _) 0 (Or.inl rfl) ⟨fun z => absurd z (by decide), fun z => absurd z.1 hz⟩
  · skip
    refine V_iconst (q := 13) (v := nI 1) dX8_repeatsBy_12 rfl (by decide) ?_
    refine V_goto (tgt := 17) dX8_repeatsBy_13 (by decide) ?_
    refine V_istore (q := 19) (ls' := [_, _, _, _, _, _]) dX8_repeatsBy_17 rfl (by decide) rfl ?_
    refine V_iconst (q := 20) (v := nI 0) dX8_repeatsBy_19 rfl (by decide) ?_
    refine V_istore (q := 22) (ls' := [_, _, _, _, _, _]) dX8_repeatsBy_20 rfl (by decide) rfl ?_
    exact loop 0 (Nat.zero_le _) 1 (Or.inr rfl) ⟨fun _ => ⟨hz, fun b hb => absurd hb (Nat.not_lt_zero b)⟩, fun _ => rfl⟩
theorem m_periodOf (h0 : w p = eO 8 (rf g (p + 1) :: fs)) (h1 : w (p + 1) = eI g 63 F) (hn : p + 1 < n) (hR : RN F N) {i : Nat} (hi : i < sC N) : CtR g l MX8_periodOf 2 [rf g p, .int (nI i)] w n (.int (nI (perN (sR N i).2 (sR N i).1))) := by
  obtain ⟨e0, e1, e2⟩ := hR.2.2.1.2 i hi
  have hp := perN_ok (h := (sR N i).2) e0
  have hno : ∀ k, k < perN (sR N i).2 (sR N i).1 → ¬ PerN (sR N i).2 (sR N i).1 k := fun k hk => @of_decide_eq_false _ (Classical.propDecidable _) (fa_first_no _ _ _ hk)
  generalize perN (sR N i).2 (sR N i).1 = P at hp hno ⊢
  refine Ct.ofs (M := MX8_periodOf) (ls := [some _, some _, none]) (by decide +kernel) (by exact (Nat.le_of_ble_eq_true rfl)) (by rfl) (by rfl) (by rfl) ?_
  refine V_iconst (q := 1) (v := nI 1) dX8_periodOf_0 rfl (by decide) ?_
  refine V_istore_n (q := 2) (ls' := [_, _, _]) dX8_periodOf_1 rfl (by decide) rfl ?_
  refine loopU (fun k => 0 < k → V g l MX8_periodOf (rmd 2 0 0) (FinM g (qR (.int (nI P)) w n) 0 0) 2 [some (rf g p), some (.int (nI i)), some (.int (nI k))] [] (w) n 0 0) P ?_ ?_ 1 hp.1 (by decide)
  · intro _
    refine V_aload_n (q := 3) dX8_periodOf_2 rfl rfl rfl ?_
    refine V_iload_n (q := 4) dX8_periodOf_3 rfl rfl ?_
    refine V_iload_n (q := 5) dX8_periodOf_4 rfl rfl ?_
    refine CrX8_142 (q := 8) rfl dX8_periodOf_5 rfl (m_repeatsBy h0 h1 hn hR hi hp.1 hp.2.1) ⟨(Nat.le_of_ble_eq_true rfl), (Nat.le_of_ble_eq_true rfl)⟩ (Nat.le_of_ble_eq_true rfl) (by first | assumption | exact up_eq | exact (up_ne (by omega)).trans (by first | assumption | exact up_eq | exact (up_ne (by omega)).trans (by first | assumption | exact up_eq | exact (up_ne (by omega)).trans (by first | assumption | exact up_eq)))) (by omega) (Nat.zero_le _) (Nat.zero_le _) ?_
    refine V_topi (if_pos hp) ?_
    refine V_if_ne (q := 11) (tgt := 17) dX8_periodOf_8 (by decide) rfl (fun _ => ?_) (fun h9 => absurd h9 (by decide))
    refine V_iload_n (q := 18) dX8_periodOf_17 rfl rfl ?_
    exact V_iret dX8_periodOf_18 rfl (Nat.le_of_ble_eq_true rfl) (Nat.le_of_ble_eq_true rfl) (⟨rfl, rfl, rfl⟩)
  · intro k hk ih hk0
    have := hp.2.1
    refine V_aload_n (q := 3) dX8_periodOf_2 rfl rfl rfl ?_
    refine V_iload_n (q := 4) dX8_periodOf_3 rfl rfl ?_
    refine V_iload_n (q := 5) dX8_periodOf_4 rfl rfl ?_
    refine CrX8_142 (q := 8) rfl dX8_periodOf_5 rfl (m_repeatsBy h0 h1 hn hR hi (m := k) hk0 (by omega)) ⟨(Nat.le_of_ble_eq_true rfl), (Nat.le_of_ble_eq_true rfl)⟩ (Nat.le_of_ble_eq_true rfl) (by first | assumption | exact up_eq | exact (up_ne (by omega)).trans (by first | assumption | exact up_eq | exact (up_ne (by omega)).trans (by first | assumption | exact up_eq | exact (up_ne (by omega)).trans (by first | assumption | exact up_eq)))) (by omega) (Nat.zero_le _) (Nat.zero_le _) ?_
    refine V_topi (if_neg (hno k hk)) ?_
    refine V_if_ne (q := 11) (tgt := 17) dX8_periodOf_8 (by decide) rfl (fun h9 => absurd rfl h9) (fun _ => ?_)
    refine V_iinc (q := 14) (ls' := [_, _, _]) dX8_periodOf_11 rfl (by decide) rfl (by first | exact inc1 _ | rfl) rfl ?_
    refine V_goto (tgt := 2) dX8_periodOf_14 (by decide) ?_
    exact ih (by omega)
theorem m_greatestOf (h0 : w p = eO 8 (rf g (p + 1) :: fs)) (h1 : w (p + 1) = eI g 63 F) (hn : p + 1 < n) (hR : RN F N) {i : Nat} (hi : i < sC N) : CtR g l MX8_greatestOf 1 [rf g p, .int (nI i)] w n (.int (nI (maxN (sR N i).2 (sR N i).1))) := by
  obtain ⟨e0, e1, e2⟩ := hR.2.2.1.2 i hi
  refine Ct.ofs (M := MX8_greatestOf) (ls := [some _, some _, none, none]) (by decide +kernel) (by exact (Nat.le_of_ble_eq_true rfl)) (by rfl) (by rfl) (by rfl) ?_
  refine V_iconst (q := 1) (v := nI 0) dX8_greatestOf_0 rfl (by decide) ?_
  refine V_istore_n (q := 2) (ls' := [_, _, _, _]) dX8_greatestOf_1 rfl (by decide) rfl ?_
  refine V_iconst (q := 3) (v := nI 0) dX8_greatestOf_2 rfl (by decide) ?_
  refine V_istore_n (q := 4) (ls' := [_, _, _, _]) dX8_greatestOf_3 rfl (by decide) rfl ?_
  refine loopU (fun k => V g l MX8_greatestOf (rmd 1 0 0) (FinM g (qR (.int (nI (maxN (sR N i).2 (sR N i).1))) w n) 0 0) 4 [some (rf g p), some (.int (nI i)), some (.int (nI (maxN (sR N i).2 k))), some (.int (nI k))] [] (w) n 0 0) (sR N i).1 ?_ ?_ 0 (Nat.zero_le _)
  · skip
    refine V_iload_n (q := 5) dX8_greatestOf_4 rfl rfl ?_
    refine V_aload_n (q := 6) dX8_greatestOf_5 rfl rfl rfl ?_
    refine V_iload_n (q := 7) dX8_greatestOf_6 rfl rfl ?_
    refine CrX8_75 (q := 10) rfl dX8_greatestOf_7 rfl (m_lengthOf h0 h1 hn hR hi) ⟨(Nat.le_of_ble_eq_true rfl), (Nat.le_of_ble_eq_true rfl)⟩ (Nat.le_of_ble_eq_true rfl) (by first | assumption | exact up_eq | exact (up_ne (by omega)).trans (by first | assumption | exact up_eq | exact (up_ne (by omega)).trans (by first | assumption | exact up_eq | exact (up_ne (by omega)).trans (by first | assumption | exact up_eq)))) (by omega) (Nat.zero_le _) (Nat.zero_le _) ?_
    refine V_icmpN_ge (q := 13) (tgt := 40) dX8_greatestOf_10 (by decide) rfl (by omega) (by omega) (fun _ => ?_) (fun h9 => by first | exact h9.elim | (exfalso; omega))
    refine V_iload_n (q := 41) dX8_greatestOf_40 rfl rfl ?_
    exact V_iret dX8_greatestOf_41 rfl (Nat.le_of_ble_eq_true rfl) (Nat.le_of_ble_eq_true rfl) (⟨rfl, rfl, rfl⟩)
  · intro k hk ih
    have a1 := e2 k hk
    have a2 : maxN (sR N i).2 k ≤ 9 := maxN_le (fun j hj => e2 j (by omega))
    have a3 : maxN (sR N i).2 (k + 1) = max (maxN (sR N i).2 k) ((sR N i).2 k) := rfl
    refine V_iload_n (q := 5) dX8_greatestOf_4 rfl rfl ?_
    refine V_aload_n (q := 6) dX8_greatestOf_5 rfl rfl rfl ?_
    refine V_iload_n (q := 7) dX8_greatestOf_6 rfl rfl ?_
    refine CrX8_75 (q := 10) rfl dX8_greatestOf_7 rfl (m_lengthOf h0 h1 hn hR hi) ⟨(Nat.le_of_ble_eq_true rfl), (Nat.le_of_ble_eq_true rfl)⟩ (Nat.le_of_ble_eq_true rfl) (by first | assumption | exact up_eq | exact (up_ne (by omega)).trans (by first | assumption | exact up_eq | exact (up_ne (by omega)).trans (by first | assumption | exact up_eq | exact (up_ne (by omega)).trans (by first | assumption | exact up_eq)))) (by omega) (Nat.zero_le _) (Nat.zero_le _) ?_
    refine V_icmpN_ge (q := 13) (tgt := 40) dX8_greatestOf_10 (by decide) rfl (by omega) (by omega) (fun h9 => by first | exact h9.elim | exact absurd h9 (by assumption) | (exfalso; omega)) (fun _ => ?_)
    refine V_aload_n (q := 14) dX8_greatestOf_13 rfl rfl rfl ?_
    refine V_iload_n (q := 15) dX8_greatestOf_14 rfl rfl ?_
    refine V_iload_n (q := 16) dX8_greatestOf_15 rfl rfl ?_
    refine CrX8_79 (q := 19) rfl dX8_greatestOf_16 rfl (m_thrown h0 h1 hn hR hi hk) ⟨(Nat.le_of_ble_eq_true rfl), (Nat.le_of_ble_eq_true rfl)⟩ (Nat.le_of_ble_eq_true rfl) (by first | assumption | exact up_eq | exact (up_ne (by omega)).trans (by first | assumption | exact up_eq | exact (up_ne (by omega)).trans (by first | assumption | exact up_eq | exact (up_ne (by omega)).trans (by first | assumption | exact up_eq)))) (by omega) (Nat.zero_le _) (Nat.zero_le _) ?_
    refine V_iload_n (q := 20) dX8_greatestOf_19 rfl rfl ?_
    refine V_icmpN_le (q := 23) (tgt := 32) dX8_greatestOf_20 (by decide) rfl (by omega) (by omega) (fun hq => ?_) (fun hq => ?_)
    · skip
      rw [a3, Nat.max_eq_left hq] at ih
      refine V_iload_n (q := 33) dX8_greatestOf_32 rfl rfl ?_
      refine V_istore_n (q := 34) (ls' := [_, _, _, _]) dX8_greatestOf_33 rfl (by decide) rfl ?_
      refine V_iinc (q := 37) (ls' := [_, _, _, _]) dX8_greatestOf_34 rfl (by decide) rfl (by first | exact inc1 _ | rfl) rfl ?_
      refine V_goto (tgt := 4) dX8_greatestOf_37 (by decide) ?_
      exact ih
    · skip
      rw [a3, Nat.max_eq_right (by omega)] at ih
      refine V_aload_n (q := 24) dX8_greatestOf_23 rfl rfl rfl ?_
      refine V_iload_n (q := 25) dX8_greatestOf_24 rfl rfl ?_
      refine V_iload_n (q := 26) dX8_greatestOf_25 rfl rfl ?_
      refine CrX8_79 (q := 29) rfl dX8_greatestOf_26 rfl (m_thrown h0 h1 hn hR hi hk) ⟨(Nat.le_of_ble_eq_true rfl), (Nat.le_of_ble_eq_true rfl)⟩ (Nat.le_of_ble_eq_true rfl) (by first | assumption | exact up_eq | exact (up_ne (by omega)).trans (by first | assumption | exact up_eq | exact (up_ne (by omega)).trans (by first | assumption | exact up_eq | exact (up_ne (by omega)).trans (by first | assumption | exact up_eq)))) (by omega) (Nat.zero_le _) (Nat.zero_le _) ?_
      refine V_goto (tgt := 33) dX8_greatestOf_29 (by decide) ?_
      refine V_istore_n (q := 34) (ls' := [_, _, _, _]) dX8_greatestOf_33 rfl (by decide) rfl ?_
      refine V_iinc (q := 37) (ls' := [_, _, _, _]) dX8_greatestOf_34 rfl (by decide) rfl (by first | exact inc1 _ | rfl) rfl ?_
      refine V_goto (tgt := 4) dX8_greatestOf_37 (by decide) ?_
      exact ih
theorem m_oddOf (h0 : w p = eO 8 (rf g (p + 1) :: fs)) (h1 : w (p + 1) = eI g 63 F) (hn : p + 1 < n) (hR : RN F N) {i : Nat} (hi : i < sC N) : CtR g l MX8_oddOf 1 [rf g p, .int (nI i)] w n (.int (nI (oddN (sR N i).2 (sR N i).1))) := by
  obtain ⟨e0, e1, e2⟩ := hR.2.2.1.2 i hi
  refine Ct.ofs (M := MX8_oddOf) (ls := [some _, some _, none, none]) (by decide +kernel) (by exact (Nat.le_of_ble_eq_true rfl)) (by rfl) (by rfl) (by rfl) ?_
  refine V_iconst (q := 1) (v := nI 0) dX8_oddOf_0 rfl (by decide) ?_
  refine V_istore_n (q := 2) (ls' := [_, _, _, _]) dX8_oddOf_1 rfl (by decide) rfl ?_
  refine V_iconst (q := 3) (v := nI 0) dX8_oddOf_2 rfl (by decide) ?_
  refine V_istore_n (q := 4) (ls' := [_, _, _, _]) dX8_oddOf_3 rfl (by decide) rfl ?_
  refine loopU (fun k => V g l MX8_oddOf (rmd 1 0 0) (FinM g (qR (.int (nI (oddN (sR N i).2 (sR N i).1))) w n) 0 0) 4 [some (rf g p), some (.int (nI i)), some (.int (nI (oddN (sR N i).2 k))), some (.int (nI k))] [] (w) n 0 0) (sR N i).1 ?_ ?_ 0 (Nat.zero_le _)
  · skip
    refine V_iload_n (q := 5) dX8_oddOf_4 rfl rfl ?_
    refine V_aload_n (q := 6) dX8_oddOf_5 rfl rfl rfl ?_
    refine V_iload_n (q := 7) dX8_oddOf_6 rfl rfl ?_
    refine CrX8_75 (q := 10) rfl dX8_oddOf_7 rfl (m_lengthOf h0 h1 hn hR hi) ⟨(Nat.le_of_ble_eq_true rfl), (Nat.le_of_ble_eq_true rfl)⟩ (Nat.le_of_ble_eq_true rfl) (by first | assumption | exact up_eq | exact (up_ne (by omega)).trans (by first | assumption | exact up_eq | exact (up_ne (by omega)).trans (by first | assumption | exact up_eq | exact (up_ne (by omega)).trans (by first | assumption | exact up_eq)))) (by omega) (Nat.zero_le _) (Nat.zero_le _) ?_
    refine V_icmpN_ge (q := 13) (tgt := 30) dX8_oddOf_10 (by decide) rfl (by omega) (by omega) (fun _ => ?_) (fun h9 => by first | exact h9.elim | (exfalso; omega))
    refine V_iload_n (q := 31) dX8_oddOf_30 rfl rfl ?_
    exact V_iret dX8_oddOf_31 rfl (Nat.le_of_ble_eq_true rfl) (Nat.le_of_ble_eq_true rfl) (⟨rfl, rfl, rfl⟩)
  · intro k hk ih
    have a1 := e2 k hk
    refine V_iload_n (q := 5) dX8_oddOf_4 rfl rfl ?_
    refine V_aload_n (q := 6) dX8_oddOf_5 rfl rfl rfl ?_
    refine V_iload_n (q := 7) dX8_oddOf_6 rfl rfl ?_
    refine CrX8_75 (q := 10) rfl dX8_oddOf_7 rfl (m_lengthOf h0 h1 hn hR hi) ⟨(Nat.le_of_ble_eq_true rfl), (Nat.le_of_ble_eq_true rfl)⟩ (Nat.le_of_ble_eq_true rfl) (by first | assumption | exact up_eq | exact (up_ne (by omega)).trans (by first | assumption | exact up_eq | exact (up_ne (by omega)).trans (by first | assumption | exact up_eq | exact (up_ne (by omega)).trans (by first | assumption | exact up_eq)))) (by omega) (Nat.zero_le _) (Nat.zero_le _) ?_
    refine V_icmpN_ge (q := 13) (tgt := 30) dX8_oddOf_10 (by decide) rfl (by omega) (by omega) (fun h9 => by first | exact h9.elim | exact absurd h9 (by assumption) | (exfalso; omega)) (fun _ => ?_)
    refine V_iload_n (q := 14) dX8_oddOf_13 rfl rfl ?_
    refine V_aload_n (q := 15) dX8_oddOf_14 rfl rfl rfl ?_
    refine V_iload_n (q := 16) dX8_oddOf_15 rfl rfl ?_
    refine V_iload_n (q := 17) dX8_oddOf_16 rfl rfl ?_
    refine CrX8_79 (q := 20) rfl dX8_oddOf_17 rfl (m_thrown h0 h1 hn hR hi hk) ⟨(Nat.le_of_ble_eq_true rfl), (Nat.le_of_ble_eq_true rfl)⟩ (Nat.le_of_ble_eq_true rfl) (by first | assumption | exact up_eq | exact (up_ne (by omega)).trans (by first | assumption | exact up_eq | exact (up_ne (by omega)).trans (by first | assumption | exact up_eq | exact (up_ne (by omega)).trans (by first | assumption | exact up_eq)))) (by omega) (Nat.zero_le _) (Nat.zero_le _) ?_
    refine V_iconst (q := 21) (v := nI 2) dX8_oddOf_20 rfl (by decide) ?_
    refine V_irem (q := 22) dX8_oddOf_21 rfl (nI_ne0 (by omega) (by omega)) (by first | exact pk_rem (by omega) (by omega) (by omega) | rfl) ?_
    refine V_iadd (q := 23) dX8_oddOf_22 rfl (by first | exact nI_add _ _ | rfl) ?_
    refine V_istore_n (q := 24) (ls' := [_, _, _, _]) dX8_oddOf_23 rfl (by decide) rfl ?_
    refine V_iinc (q := 27) (ls' := [_, _, _, _]) dX8_oddOf_24 rfl (by decide) rfl (by first | exact inc1 _ | rfl) rfl ?_
    refine V_goto (tgt := 4) dX8_oddOf_27 (by decide) ?_
    exact ih
theorem m_isPrime (h0 : w p = eO 8 (rf g (p + 1) :: fs)) (h1 : w (p + 1) = eI g 63 F) (hn : p + 1 < n) (hR : RN F N) {i : Nat} (hi : i < sC N) : CtR g l MX8_isPrime 3 [rf g p, .int (nI i)] w n (.int (primI (sR N i).2 (sR N i).1)) := by
  obtain ⟨e0, e1, e2⟩ := hR.2.2.1.2 i hi
  have hcn := clN_le (sR N i).2 (sR N i).1
  have hp := perN_ok (h := (sR N i).2) e0
  have hst := fun b => stN_lt (h := (sR N i).2) (L := (sR N i).1) (b := b) e0 e2
  unfold primI
  refine Ct.ofs (M := MX8_isPrime) (ls := [some _, some _, none, none, none]) (by decide +kernel) (by exact (Nat.le_of_ble_eq_true rfl)) (by rfl) (by rfl) (by rfl) ?_
  refine V_aload_n (q := 1) dX8_isPrime_0 rfl rfl rfl ?_
  refine V_iload_n (q := 2) dX8_isPrime_1 rfl rfl ?_
  refine CrX8_83 (q := 5) rfl dX8_isPrime_2 rfl (m_clashOf h0 h1 hn hR hi) ⟨(Nat.le_of_ble_eq_true rfl), (Nat.le_of_ble_eq_true rfl)⟩ (Nat.le_of_ble_eq_true rfl) (by first | assumption | exact up_eq | exact (up_ne (by omega)).trans (by first | assumption | exact up_eq | exact (up_ne (by omega)).trans (by first | assumption | exact up_eq | exact (up_ne (by omega)).trans (by first | assumption | exact up_eq)))) (by omega) (Nat.zero_le _) (Nat.zero_le _) ?_
  by_cases hc : clN (sR N i).2 (sR N i).1 = (sR N i).1
  · rw [if_pos hc]
    refine V_topi (mcl_yes hc) ?_
    refine V_if_lt (q := 8) (tgt := 11) dX8_isPrime_5 (by decide) rfl (fun _ => ?_) (fun h9 => absurd (by decide) h9)
    refine V_aload_n (q := 12) dX8_isPrime_11 rfl rfl rfl ?_
    refine V_iload_n (q := 13) dX8_isPrime_12 rfl rfl ?_
    refine CrX8_145 (q := 16) rfl dX8_isPrime_13 rfl (m_periodOf h0 h1 hn hR hi) ⟨(Nat.le_of_ble_eq_true rfl), (Nat.le_of_ble_eq_true rfl)⟩ (Nat.le_of_ble_eq_true rfl) (by first | assumption | exact up_eq | exact (up_ne (by omega)).trans (by first | assumption | exact up_eq | exact (up_ne (by omega)).trans (by first | assumption | exact up_eq | exact (up_ne (by omega)).trans (by first | assumption | exact up_eq)))) (by omega) (Nat.zero_le _) (Nat.zero_le _) ?_
    generalize perN (sR N i).2 (sR N i).1 = P at hp ⊢
    have hPL := hp.2.1
    refine V_istore_n (q := 17) (ls' := [_, _, _, _, _]) dX8_isPrime_16 rfl (by decide) rfl ?_
    refine V_iconst (q := 18) (v := nI 0) dX8_isPrime_17 rfl (by decide) ?_
    refine V_istore_n (q := 19) (ls' := [_, _, _, _, _]) dX8_isPrime_18 rfl (by decide) rfl ?_
    have out : ∀ a, a ≤ P → (∀ k j, k < a → k < j → j < P → stN (sR N i).2 (sR N i).1 k ≠ stN (sR N i).2 (sR N i).1 j) → V g l MX8_isPrime (rmd 3 0 0) (FinM g (qR (.int (@ite _ (SamN (sR N i).2 (sR N i).1 P) (Classical.propDecidable _) 0 1)) w n) 0 0) 19 [some (rf g p), some (.int (nI i)), some (.int (nI P)), some (.int (nI a)), none] [] (w) n 0 0 := by
      refine loopU (fun a => (∀ k j, k < a → k < j → j < P → stN (sR N i).2 (sR N i).1 k ≠ stN (sR N i).2 (sR N i).1 j) → V g l MX8_isPrime (rmd 3 0 0) (FinM g (qR (.int (@ite _ (SamN (sR N i).2 (sR N i).1 P) (Classical.propDecidable _) 0 1)) w n) 0 0) 19 [some (rf g p), some (.int (nI i)), some (.int (nI P)), some (.int (nI a)), none] [] (w) n 0 0) P ?_ ?_
      · intro hno
        rw [if_neg (fun ⟨k, j, j1, j2, j3⟩ => hno k j (by omega) j1 j2 j3)]
        refine V_iload_n (q := 20) dX8_isPrime_19 rfl rfl ?_
        refine V_iload_n (q := 21) dX8_isPrime_20 rfl rfl ?_
        refine V_icmpN_ge (q := 24) (tgt := 65) dX8_isPrime_21 (by decide) rfl (by omega) (by omega) (fun _ => ?_) (fun h9 => by first | exact h9.elim | (exfalso; omega))
        refine V_iconst (q := 66) (v := nI 1) dX8_isPrime_65 rfl (by decide) ?_
        exact V_iret dX8_isPrime_66 rfl (Nat.le_of_ble_eq_true rfl) (Nat.le_of_ble_eq_true rfl) (⟨rfl, rfl, rfl⟩)
      · intro a ha ih hno
        refine V_iload_n (q := 20) dX8_isPrime_19 rfl rfl ?_
        refine V_iload_n (q := 21) dX8_isPrime_20 rfl rfl ?_
        refine V_icmpN_ge (q := 24) (tgt := 65) dX8_isPrime_21 (by decide) rfl (by omega) (by omega) (fun h9 => by first | exact h9.elim | exact absurd h9 (by assumption) | (exfalso; omega)) (fun _ => ?_)
        refine V_iload_n (q := 25) dX8_isPrime_24 rfl rfl ?_
        refine V_iconst (q := 26) (v := nI 1) dX8_isPrime_25 rfl (by decide) ?_
        refine V_iadd (q := 27) dX8_isPrime_26 rfl (by first | exact nI_add _ _ | rfl) ?_
        refine V_istore (q := 29) (ls' := [_, _, _, _, _]) dX8_isPrime_27 rfl (by decide) rfl ?_
        refine loopU (fun q => (∀ j, a < j → j < q → stN (sR N i).2 (sR N i).1 a ≠ stN (sR N i).2 (sR N i).1 j) → a < q → V g l MX8_isPrime (rmd 3 0 0) (FinM g (qR (.int (@ite _ (SamN (sR N i).2 (sR N i).1 P) (Classical.propDecidable _) 0 1)) w n) 0 0) 29 [some (rf g p), some (.int (nI i)), some (.int (nI P)), some (.int (nI a)), some (.int (nI q))] [] (w) n 0 0) P ?_ ?_ (a + 1) ha (fun k z1 z2 => absurd z1 (by omega)) (Nat.lt_succ_self a)
        · intro hq hlt
          refine V_iload (q := 31) dX8_isPrime_29 rfl rfl ?_
          refine V_iload_n (q := 32) dX8_isPrime_31 rfl rfl ?_
          refine V_icmpN_ge (q := 35) (tgt := 59) dX8_isPrime_32 (by decide) rfl (by omega) (by omega) (fun _ => ?_) (fun h9 => by first | exact h9.elim | (exfalso; omega))
          refine V_iinc (q := 62) (ls' := [_, _, _, _, _]) dX8_isPrime_59 rfl (by decide) rfl (by first | exact inc1 _ | rfl) rfl ?_
          refine V_goto (tgt := 19) dX8_isPrime_62 (by decide) ?_
          refine V_fg 4 (ls2 := [_, _, _, _, none]) (by rfl) ?_
          refine ih (fun k j hk hkj hj => ?_)
          by_cases e : k = a
          · rw [e]; exact hq j (by omega) hj
          · exact hno k j (by omega) hkj hj
        · intro q hq ih2 hqn hlt
          have s1 := hst a
          have s2 := hst q
          refine V_iload (q := 31) dX8_isPrime_29 rfl rfl ?_
          refine V_iload_n (q := 32) dX8_isPrime_31 rfl rfl ?_
          refine V_icmpN_ge (q := 35) (tgt := 59) dX8_isPrime_32 (by decide) rfl (by omega) (by omega) (fun h9 => by first | exact h9.elim | exact absurd h9 (by assumption) | (exfalso; omega)) (fun _ => ?_)
          refine V_aload_n (q := 36) dX8_isPrime_35 rfl rfl rfl ?_
          refine V_iload_n (q := 37) dX8_isPrime_36 rfl rfl ?_
          refine V_iload_n (q := 38) dX8_isPrime_37 rfl rfl ?_
          refine CrX8_106 (q := 41) rfl dX8_isPrime_38 rfl (m_stateAt h0 h1 hn hR hi (b := a) (by omega)) ⟨(Nat.le_of_ble_eq_true rfl), (Nat.le_of_ble_eq_true rfl)⟩ (Nat.le_of_ble_eq_true rfl) (by first | assumption | exact up_eq | exact (up_ne (by omega)).trans (by first | assumption | exact up_eq | exact (up_ne (by omega)).trans (by first | assumption | exact up_eq | exact (up_ne (by omega)).trans (by first | assumption | exact up_eq)))) (by omega) (Nat.zero_le _) (Nat.zero_le _) ?_
          refine V_aload_n (q := 42) dX8_isPrime_41 rfl rfl rfl ?_
          refine V_iload_n (q := 43) dX8_isPrime_42 rfl rfl ?_
          refine V_iload (q := 45) dX8_isPrime_43 rfl rfl ?_
          refine CrX8_106 (q := 48) rfl dX8_isPrime_45 rfl (m_stateAt h0 h1 hn hR hi (b := q) (by omega)) ⟨(Nat.le_of_ble_eq_true rfl), (Nat.le_of_ble_eq_true rfl)⟩ (Nat.le_of_ble_eq_true rfl) (by first | assumption | exact up_eq | exact (up_ne (by omega)).trans (by first | assumption | exact up_eq | exact (up_ne (by omega)).trans (by first | assumption | exact up_eq | exact (up_ne (by omega)).trans (by first | assumption | exact up_eq)))) (by omega) (Nat.zero_le _) (Nat.zero_le _) ?_
          refine V_icmpN_ne (q := 51) (tgt := 53) dX8_isPrime_48 (by decide) rfl (by omega) (by omega) (fun hl => ?_) (fun hl => ?_)
          · skip
            refine V_iinc (q := 56) (ls' := [_, _, _, _, _]) dX8_isPrime_53 rfl (by decide) rfl (by first | exact inc1 _ | rfl) rfl ?_
            refine V_goto (tgt := 29) dX8_isPrime_56 (by decide) ?_
            refine ih2 (fun j a1 a2 => ?_) (by omega)
            by_cases e : j = q
            · rw [e]; exact hl
            · exact hqn j a1 (by omega)
          · skip
            rw [if_pos ⟨a, q, hlt, hq, hl⟩]
            refine V_iconst (q := 52) (v := nI 0) dX8_isPrime_51 rfl (by decide) ?_
            exact V_iret dX8_isPrime_52 rfl (Nat.le_of_ble_eq_true rfl) (Nat.le_of_ble_eq_true rfl) (⟨rfl, rfl, rfl⟩)
    exact out 0 (Nat.zero_le _) (fun k j hk => absurd hk (Nat.not_lt_zero k))
  · rw [if_neg hc]
    refine V_topi (mcl_no hc) ?_
    refine V_ifN_lt (q := 8) (tgt := 11) dX8_isPrime_5 (by decide) rfl (by omega) (fun h9 => by first | exact h9.elim | exact absurd h9 (by assumption) | (exfalso; omega)) (fun _ => ?_)
    refine V_bipush (q := 10) (v := (-4)) dX8_isPrime_8 rfl (by decide) ?_
    exact V_iret dX8_isPrime_10 rfl (Nat.le_of_ble_eq_true rfl) (Nat.le_of_ble_eq_true rfl) (⟨rfl, rfl, rfl⟩)
end MR
