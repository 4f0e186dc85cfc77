/-! lift, begin, toss -/
theorem popc_le (x : Nat) : popc x ≤ 9 := fb_ct_le _ 9
section OPS
variable {g : GG} {l : Launch} {w : HW} {n o : Nat} {b : Int32} {N : StT} {r : Int32 × Int32 × Int32 × Int32}
theorem up_is {w w1 : HW} {a : Nat} {e : va_E} (h1 : w1 a = e) (h2 : ∀ j, j ≠ a → w1 j = w j) : w1 = va_up w a e := by
  funext j
  by_cases z : j = a
  · rw [z, up_eq, h1]
  · rw [up_ne z, h2 j z]
theorem c_liftRow (h : OW g w n o b N r) {x : Int32} : CtI g l MX7_liftRow 3 [rf g o, .int x] w n (OP g w n o b r (liftA x N)) := by
  have hO := h
  obtain ⟨h0, hS, hJ, hr, hn⟩ := h
  obtain ⟨hso, hsn⟩ := hS.obj
  obtain ⟨G, π, LL, FF, hF⟩ := hS
  have hc6 := hF.2.2.2.1
  rcases i3_lt x (sC N) (by omega) with hx | ⟨i, hi, rfl⟩
  · rw [show liftA x N = (-1, N, none) by unfold liftA; rw [idx_no hx]]
    refine Ct.ofs (M := MX7_liftRow) (ls := [some _, some _, none, none]) (by decide +kernel) (by exact (Nat.le_of_ble_eq_true rfl)) (by rfl) (by rfl) (by rfl) ?_
    refine V_aload_n (q := 1) dX7_liftRow_0 rfl rfl rfl ?_
    refine GX7_10 (q := 4) rfl dX7_liftRow_1 rfl (by first | assumption | exact up_eq | exact (up_ne (by omega)).trans (by first | assumption | exact up_eq | exact (up_ne (by omega)).trans (by first | assumption | exact up_eq | exact (up_ne (by omega)).trans (by first | assumption | exact up_eq)))) (by omega) (by rfl) ?_
    refine V_iload_n (q := 5) dX7_liftRow_4 rfl rfl ?_
    refine CrX7_98 (q := 8) rfl dX7_liftRow_5 rfl (c_rowNum_out hF hx) ⟨(Nat.le_of_ble_eq_true rfl), (Nat.le_of_ble_eq_true rfl)⟩ (Nat.le_of_ble_eq_true rfl) (by first | assumption | exact up_eq | exact (up_ne (by omega)).trans (by first | assumption | exact up_eq | exact (up_ne (by omega)).trans (by first | assumption | exact up_eq | exact (up_ne (by omega)).trans (by first | assumption | exact up_eq)))) (by omega) (Nat.zero_le _) (Nat.zero_le _) ?_
    refine V_astore_n (q := 9) (ls' := [_, _, _, _]) dX7_liftRow_8 rfl (by decide) (by rfl) rfl rfl ?_
    refine V_aload_n (q := 10) dX7_liftRow_9 rfl rfl rfl ?_
    refine V_ifnonnullN (q := 13) dX7_liftRow_10 rfl ?_
    refine V_iconst (q := 14) (v := (-1)) dX7_liftRow_13 rfl (by decide) ?_
    exact V_iret dX7_liftRow_14 rfl (Nat.le_of_ble_eq_true rfl) (Nat.le_of_ble_eq_true rfl) (⟨rfl, _, rfl, hO.fit⟩)
  · obtain ⟨k1, k2, k3, k4⟩ := hF.2.2.2.2.1 i (by omega)
    obtain ⟨e1, e2, e3⟩ := hF.2.2.2.2.2.2 i hi
    have hrow := k4.1
    have hL8 := k4.2.2.2
    have ea : liftA (nI i) N = if fa_first (fun k => decide (9 ≤ (sR N i).2 k)) (sR N i).1 < (sR N i).1 then (-3, N, some (2, nI (fa_first (fun k => decide (9 ≤ (sR N i).2 k)) (sR N i).1))) else (ballI (upN (sR N i).2) (sR N i).1, setR N i ((sR N i).1, upN (sR N i).2), none) := by
      unfold liftA
      rw [idx_yes hi (by omega)]
    rw [← e1] at ea
    have hple := fa_first_le (fun k => decide (9 ≤ (sR N i).2 k)) (LL i)
    have hpno := fa_first_no (fun k => decide (9 ≤ (sR N i).2 k)) (LL i)
    have hpye := fa_first_yes (fun k => decide (9 ≤ (sR N i).2 k)) (LL i)
    generalize hp : fa_first (fun k => decide (9 ≤ (sR N i).2 k)) (LL i) = p at ea hple hpno hpye
    rw [ea]
    refine Ct.ofs (M := MX7_liftRow) (ls := [some _, some _, none, none]) (by decide +kernel) (by exact (Nat.le_of_ble_eq_true rfl)) (by rfl) (by rfl) (by rfl) ?_
    refine V_aload_n (q := 1) dX7_liftRow_0 rfl rfl rfl ?_
    refine GX7_10 (q := 4) rfl dX7_liftRow_1 rfl (by first | assumption | exact up_eq | exact (up_ne (by omega)).trans (by first | assumption | exact up_eq | exact (up_ne (by omega)).trans (by first | assumption | exact up_eq | exact (up_ne (by omega)).trans (by first | assumption | exact up_eq)))) (by omega) (by rfl) ?_
    refine V_iload_n (q := 5) dX7_liftRow_4 rfl rfl ?_
    refine CrX7_98 (q := 8) rfl dX7_liftRow_5 rfl (c_rowNum_in hF hi) ⟨(Nat.le_of_ble_eq_true rfl), (Nat.le_of_ble_eq_true rfl)⟩ (Nat.le_of_ble_eq_true rfl) (by first | assumption | exact up_eq | exact (up_ne (by omega)).trans (by first | assumption | exact up_eq | exact (up_ne (by omega)).trans (by first | assumption | exact up_eq | exact (up_ne (by omega)).trans (by first | assumption | exact up_eq)))) (by omega) (Nat.zero_le _) (Nat.zero_le _) ?_
    refine V_astore_n (q := 9) (ls' := [_, _, _, _]) dX7_liftRow_8 rfl (by decide) (by rfl) rfl rfl ?_
    refine V_aload_n (q := 10) dX7_liftRow_9 rfl rfl rfl ?_
    refine V_ifnonnull (tgt := 15) dX7_liftRow_10 (by decide) ?_
    refine V_iconst (q := 16) (v := nI 0) dX7_liftRow_15 rfl (by decide) ?_
    refine V_istore_n (q := 17) (ls' := [_, _, _, _]) dX7_liftRow_16 rfl (by decide) (by rfl) rfl ?_
    refine loopU (fun k => V g l MX7_liftRow (rmd 3 0 0) (FinM g (qI (OP g w n o b r (if p < LL i then (-3, N, some (2, nI p)) else (ballI (upN (sR N i).2) (LL i), setR N i (LL i, upN (sR N i).2), none))) n) 0 0) 17 [some (rf g o), some (.int (nI i)), some (rf g (π i)), some (.int (nI k))] [] (w) n 0 0) p ?_ ?_ 0 (Nat.zero_le _)
    · rcases Nat.lt_or_ge p (LL i) with q | q
      · have h9 : 9 ≤ (sR N i).2 p := of_decide_eq_true (hpye q)
        have h92 := (e3 p q).2
        rw [if_pos q]
        refine V_iload_n (q := 18) dX7_liftRow_17 rfl rfl ?_
        refine V_aload_n (q := 19) dX7_liftRow_18 rfl rfl rfl ?_
        refine GX7_102 (q := 22) rfl dX7_liftRow_19 rfl (by first | assumption | exact up_eq | exact (up_ne (by omega)).trans (by first | assumption | exact up_eq | exact (up_ne (by omega)).trans (by first | assumption | exact up_eq | exact (up_ne (by omega)).trans (by first | assumption | exact up_eq)))) (by omega) (by rfl) ?_
        refine V_icmpN_ge (q := 25) (tgt := 51) dX7_liftRow_22 (by decide) rfl (by omega) (by omega) (fun h9 => by first | exact h9.elim | exact absurd h9 (by assumption) | (exfalso; omega)) (fun _ => ?_)
        refine V_aload_n (q := 26) dX7_liftRow_25 rfl rfl rfl ?_
        refine V_iload_n (q := 27) dX7_liftRow_26 rfl rfl ?_
        refine CrX7_134 (q := 30) rfl dX7_liftRow_27 rfl (c_heightAt k4 e3 q) ⟨(Nat.le_of_ble_eq_true rfl), (Nat.le_of_ble_eq_true rfl)⟩ (Nat.le_of_ble_eq_true rfl) (by first | assumption | exact up_eq | exact (up_ne (by omega)).trans (by first | assumption | exact up_eq | exact (up_ne (by omega)).trans (by first | assumption | exact up_eq | exact (up_ne (by omega)).trans (by first | assumption | exact up_eq)))) (by omega) (Nat.zero_le _) (Nat.zero_le _) ?_
        refine V_bipush (q := 32) (v := nI 9) dX7_liftRow_30 rfl (by decide) ?_
        refine V_icmpN_lt (q := 35) (tgt := 45) dX7_liftRow_32 (by decide) rfl (by omega) (by omega) (fun h9 => by first | exact h9.elim | exact absurd h9 (by assumption) | (exfalso; omega)) (fun _ => ?_)
        refine V_aload_n (q := 36) dX7_liftRow_35 rfl rfl rfl ?_
        refine GX7_53 (q := 39) rfl dX7_liftRow_36 rfl (by first | assumption | exact up_eq | exact (up_ne (by omega)).trans (by first | assumption | exact up_eq | exact (up_ne (by omega)).trans (by first | assumption | exact up_eq | exact (up_ne (by omega)).trans (by first | assumption | exact up_eq)))) (by omega) (by rfl) ?_
        refine V_iconst (q := 40) (v := nI 2) dX7_liftRow_39 rfl (by decide) ?_
        refine V_iload_n (q := 41) dX7_liftRow_40 rfl rfl ?_
        refine CiX7_269 (q := 44) rfl dX7_liftRow_41 rfl (c_refuse hr (by omega)) ⟨(Nat.le_of_ble_eq_true rfl), (Nat.le_of_ble_eq_true rfl)⟩ (Nat.le_of_ble_eq_true rfl) (by first | assumption | exact up_eq | exact (up_ne (by omega)).trans (by first | assumption | exact up_eq | exact (up_ne (by omega)).trans (by first | assumption | exact up_eq | exact (up_ne (by omega)).trans (by first | assumption | exact up_eq)))) (by omega) (Nat.zero_le _) (Nat.zero_le _) (fun y w1 hw1 => ?_)
        obtain ⟨rfl, rfl⟩ := hw1
        skip
        exact V_iret dX7_liftRow_44 rfl (Nat.le_of_ble_eq_true rfl) (Nat.le_of_ble_eq_true rfl) (⟨rfl, _, rfl, hO.ref⟩)
      · have hpe : p = LL i := by omega
        rw [if_neg (by omega)]
        refine V_iload_n (q := 18) dX7_liftRow_17 rfl rfl ?_
        refine V_aload_n (q := 19) dX7_liftRow_18 rfl rfl rfl ?_
        refine GX7_102 (q := 22) rfl dX7_liftRow_19 rfl (by first | assumption | exact up_eq | exact (up_ne (by omega)).trans (by first | assumption | exact up_eq | exact (up_ne (by omega)).trans (by first | assumption | exact up_eq | exact (up_ne (by omega)).trans (by first | assumption | exact up_eq)))) (by omega) (by rfl) ?_
        refine V_icmpN_ge (q := 25) (tgt := 51) dX7_liftRow_22 (by decide) rfl (by omega) (by omega) (fun _ => ?_) (fun h9 => by first | exact h9.elim | (exfalso; omega))
        refine V_iconst (q := 52) (v := nI 0) dX7_liftRow_51 rfl (by decide) ?_
        refine V_istore_n (q := 53) (ls' := [_, _, _, _]) dX7_liftRow_52 rfl (by decide) (by rfl) rfl ?_
        have key : ∀ k, k ≤ LL i → ∀ (F1 : Nat → Int32) (w1 : HW), w1 (π i + 1) = eI g 8 F1 → (∀ j, j ≠ π i + 1 → w1 j = w j) → (∀ j, j < k → F1 j = nI ((sR N i).2 j + 1)) → (∀ j, k ≤ j → F1 j = FF i j) → V g l MX7_liftRow (rmd 3 0 0) (FinM g (qI (OP g w n o b r (ballI (upN (sR N i).2) (LL i), setR N i (LL i, upN (sR N i).2), none)) n) 0 0) 53 [some (rf g o), some (.int (nI i)), some (rf g (π i)), some (.int (nI k))] [] (w1) n 0 0 := by
          refine loopU (fun k => ∀ (F1 : Nat → Int32) (w1 : HW), w1 (π i + 1) = eI g 8 F1 → (∀ j, j ≠ π i + 1 → w1 j = w j) → (∀ j, j < k → F1 j = nI ((sR N i).2 j + 1)) → (∀ j, k ≤ j → F1 j = FF i j) → V g l MX7_liftRow (rmd 3 0 0) (FinM g (qI (OP g w n o b r (ballI (upN (sR N i).2) (LL i), setR N i (LL i, upN (sR N i).2), none)) n) 0 0) 53 [some (rf g o), some (.int (nI i)), some (rf g (π i)), some (.int (nI k))] [] (w1) n 0 0) (LL i) ?_ ?_
          · intro F1 w1 b1 b2 b3 b4
            have hw := up_is b1 b2
            have hh : Fh F1 (sR N i).1 (upN (sR N i).2) := by
              intro j hj
              rw [← e1] at hj
              refine ⟨b3 j hj, ?_⟩
              have := of_decide_eq_false (hpno j (by omega))
              show (sR N i).2 j + 1 ≤ 9
              omega
            obtain ⟨s1, s2⟩ := Sd.setRow hF hi hh
            have c0 : w1 (π i) = eO 4 [.int (nI (LL i)), rf g (π i + 1)] := (b2 _ (by omega)).trans k4.1
            have k5 : RwF g w1 n (π i) (LL i) F1 := ⟨c0, b1, k4.2.2.1, k4.2.2.2⟩
            refine V_iload_n (q := 54) dX7_liftRow_53 rfl rfl ?_
            refine V_aload_n (q := 55) dX7_liftRow_54 rfl rfl rfl ?_
            refine GX7_102 (q := 58) rfl dX7_liftRow_55 rfl (by first | assumption | exact up_eq | exact (up_ne (by omega)).trans (by first | assumption | exact up_eq | exact (up_ne (by omega)).trans (by first | assumption | exact up_eq | exact (up_ne (by omega)).trans (by first | assumption | exact up_eq)))) (by omega) (by rfl) ?_
            refine V_icmpN_ge (q := 61) (tgt := 79) dX7_liftRow_58 (by decide) rfl (by omega) (by omega) (fun _ => ?_) (fun h9 => by first | exact h9.elim | (exfalso; omega))
            refine V_aload_n (q := 80) dX7_liftRow_79 rfl rfl rfl ?_
            refine CrX7_112 (q := 83) rfl dX7_liftRow_80 rfl (c_rballs k5 (by rw [e1]; exact hh) e2) ⟨(Nat.le_of_ble_eq_true rfl), (Nat.le_of_ble_eq_true rfl)⟩ (Nat.le_of_ble_eq_true rfl) (by first | assumption | exact up_eq | exact (up_ne (by omega)).trans (by first | assumption | exact up_eq | exact (up_ne (by omega)).trans (by first | assumption | exact up_eq | exact (up_ne (by omega)).trans (by first | assumption | exact up_eq)))) (by omega) (Nat.zero_le _) (Nat.zero_le _) ?_
            skip
            exact V_iret dX7_liftRow_83 rfl (Nat.le_of_ble_eq_true rfl) (Nat.le_of_ble_eq_true rfl) (⟨rfl, _, rfl, by rw [← hw, ← e1] at s1; rw [← hw] at s2; exact hO.now s1 s2⟩)
          · intro k hk ih F1 w1 b1 b2 b3 b4
            have c0 : w1 (π i) = eO 4 [.int (nI (LL i)), rf g (π i + 1)] := (b2 _ (by omega)).trans k4.1
            have k5 : RwF g w1 n (π i) (LL i) F1 := ⟨c0, b1, k4.2.2.1, k4.2.2.2⟩
            have b5 := b4 k (Nat.le_refl _)
            have b6 := (e3 k hk).1
            refine V_iload_n (q := 54) dX7_liftRow_53 rfl rfl ?_
            refine V_aload_n (q := 55) dX7_liftRow_54 rfl rfl rfl ?_
            refine GX7_102 (q := 58) rfl dX7_liftRow_55 rfl (by first | assumption | exact up_eq | exact (up_ne (by omega)).trans (by first | assumption | exact up_eq | exact (up_ne (by omega)).trans (by first | assumption | exact up_eq | exact (up_ne (by omega)).trans (by first | assumption | exact up_eq)))) (by omega) (by rfl) ?_
            refine V_icmpN_ge (q := 61) (tgt := 79) dX7_liftRow_58 (by decide) rfl (by omega) (by omega) (fun h9 => by first | exact h9.elim | exact absurd h9 (by assumption) | (exfalso; omega)) (fun _ => ?_)
            refine V_aload_n (q := 62) dX7_liftRow_61 rfl rfl rfl ?_
            refine V_iload_n (q := 63) dX7_liftRow_62 rfl rfl ?_
            refine V_aload_n (q := 64) dX7_liftRow_63 rfl rfl rfl ?_
            refine V_iload_n (q := 65) dX7_liftRow_64 rfl rfl ?_
            refine CrX7_134 (q := 68) rfl dX7_liftRow_65 rfl (c_heightAtF k5 (i := k) (by omega)) ⟨(Nat.le_of_ble_eq_true rfl), (Nat.le_of_ble_eq_true rfl)⟩ (Nat.le_of_ble_eq_true rfl) (by first | assumption | exact up_eq | exact (up_ne (by omega)).trans (by first | assumption | exact up_eq | exact (up_ne (by omega)).trans (by first | assumption | exact up_eq | exact (up_ne (by omega)).trans (by first | assumption | exact up_eq)))) (by omega) (Nat.zero_le _) (Nat.zero_le _) ?_
            refine V_topi (b5.trans b6) ?_
            refine V_iconst (q := 69) (v := nI 1) dX7_liftRow_68 rfl (by decide) ?_
            refine V_iadd (q := 70) dX7_liftRow_69 rfl (by first | exact nI_add _ _ | rfl) ?_
            refine CvX7_281 (q := 73) rfl dX7_liftRow_70 rfl (c_setHeight k5 (i := k) (by omega)) ⟨(Nat.le_of_ble_eq_true rfl), (Nat.le_of_ble_eq_true rfl)⟩ (Nat.le_of_ble_eq_true rfl) (by first | assumption | exact up_eq | exact (up_ne (by omega)).trans (by first | assumption | exact up_eq | exact (up_ne (by omega)).trans (by first | assumption | exact up_eq | exact (up_ne (by omega)).trans (by first | assumption | exact up_eq)))) (by omega) (Nat.zero_le _) (Nat.zero_le _) (fun w2 hw2 => ?_)
            refine V_iinc (q := 76) (ls' := [_, _, _, _]) dX7_liftRow_73 rfl (by decide) (by rfl) rfl (by first | exact inc1 _ | rfl) rfl ?_
            refine V_goto (tgt := 53) dX7_liftRow_76 (by decide) ?_
            refine ih (upd F1 k (nI ((sR N i).2 k + 1))) w2 (by rw [hw2]; exact up_eq) (fun j hj => by rw [hw2]; exact (up_ne hj).trans (b2 j hj)) (fun j hj => ?_) (fun j hj => ?_)
            · by_cases z : j = k
              · rw [z, updI]
              · rw [updN z]; exact b3 j (by omega)
            · rw [updN (by omega)]; exact b4 j (by omega)
        exact key 0 (Nat.zero_le _) (FF i) w k4.2.1 (fun _ _ => rfl) (fun j hj => absurd hj (Nat.not_lt_zero j)) (fun _ _ => rfl)
    · intro k hk ih
      have hkL : k < LL i := by omega
      have := of_decide_eq_false (hpno k hk)
      refine V_iload_n (q := 18) dX7_liftRow_17 rfl rfl ?_
      refine V_aload_n (q := 19) dX7_liftRow_18 rfl rfl rfl ?_
      refine GX7_102 (q := 22) rfl dX7_liftRow_19 rfl (by first | assumption | exact up_eq | exact (up_ne (by omega)).trans (by first | assumption | exact up_eq | exact (up_ne (by omega)).trans (by first | assumption | exact up_eq | exact (up_ne (by omega)).trans (by first | assumption | exact up_eq)))) (by omega) (by rfl) ?_
      refine V_icmpN_ge (q := 25) (tgt := 51) dX7_liftRow_22 (by decide) rfl (by omega) (by omega) (fun h9 => by first | exact h9.elim | exact absurd h9 (by assumption) | (exfalso; omega)) (fun _ => ?_)
      refine V_aload_n (q := 26) dX7_liftRow_25 rfl rfl rfl ?_
      refine V_iload_n (q := 27) dX7_liftRow_26 rfl rfl ?_
      refine CrX7_134 (q := 30) rfl dX7_liftRow_27 rfl (c_heightAt k4 e3 hkL) ⟨(Nat.le_of_ble_eq_true rfl), (Nat.le_of_ble_eq_true rfl)⟩ (Nat.le_of_ble_eq_true rfl) (by first | assumption | exact up_eq | exact (up_ne (by omega)).trans (by first | assumption | exact up_eq | exact (up_ne (by omega)).trans (by first | assumption | exact up_eq | exact (up_ne (by omega)).trans (by first | assumption | exact up_eq)))) (by omega) (Nat.zero_le _) (Nat.zero_le _) ?_
      refine V_bipush (q := 32) (v := nI 9) dX7_liftRow_30 rfl (by decide) ?_
      refine V_icmpN_lt (q := 35) (tgt := 45) dX7_liftRow_32 (by decide) rfl (by omega) (by omega) (fun _ => ?_) (fun h9 => by first | exact h9.elim | (exfalso; omega))
      refine V_iinc (q := 48) (ls' := [_, _, _, _]) dX7_liftRow_45 rfl (by decide) (by rfl) rfl (by first | exact inc1 _ | rfl) rfl ?_
      refine V_goto (tgt := 17) dX7_liftRow_48 (by decide) ?_
      exact ih
theorem c_beginWith (h : OW g w n o b N r) {x : Int32} : CtI g l MX7_beginWith 0 [rf g o, .int x] w n (OP g w n o b r (beginA x N)) := by
  have hO := h
  obtain ⟨h0, hS, hJ, hr, hn⟩ := h
  obtain ⟨hso, hsn⟩ := hS.obj
  obtain ⟨G, π, LL, FF, hF⟩ := hS
  rcases i3_lt x 9 (by decide) with hm | ⟨k, hk, rfl⟩
  · rw [show beginA x N = (-2, N, none) by unfold beginA; rw [idx_no hm]]
    refine Ct.ofs (M := MX7_beginWith) (ls := [some _, some _]) (by decide +kernel) (by exact (Nat.le_of_ble_eq_true rfl)) (by rfl) (by rfl) (by rfl) ?_
    refine V_iload_n (q := 1) dX7_beginWith_0 rfl rfl ?_
    refine V_iconst (q := 2) (v := nI 1) dX7_beginWith_1 rfl (by decide) ?_
    refine V_icmp_lt (q := 5) (tgt := 11) dX7_beginWith_2 (by decide) rfl (fun hc => ?_) (fun hc => ?_)
    · skip
      refine V_bipush (q := 13) (v := (-2)) dX7_beginWith_11 rfl (by decide) ?_
      exact V_iret dX7_beginWith_13 rfl (Nat.le_of_ble_eq_true rfl) (Nat.le_of_ble_eq_true rfl) (⟨rfl, _, rfl, hO.fit⟩)
    · skip
      refine V_iload_n (q := 6) dX7_beginWith_5 rfl rfl ?_
      refine V_bipush (q := 8) (v := nI 8) dX7_beginWith_6 rfl (by decide) ?_
      refine V_icmp_le (q := 11) (tgt := 14) dX7_beginWith_8 (by decide) rfl (fun hc2 => ?_) (fun hc2 => ?_)
      · skip
        exfalso
        rcases hm with hm | hm
        · exact hc (fa_trans hm (by decide))
        · exact (fa_of_lt (fa_trans (by decide : nI 8 < nI 9) hm)).2.1 hc2
      · skip
        refine V_bipush (q := 13) (v := (-2)) dX7_beginWith_11 rfl (by decide) ?_
        exact V_iret dX7_beginWith_13 rfl (Nat.le_of_ble_eq_true rfl) (Nat.le_of_ble_eq_true rfl) (⟨rfl, _, rfl, hO.fit⟩)
  · refine Ct.ofs (M := MX7_beginWith) (ls := [some _, some _]) (by decide +kernel) (by exact (Nat.le_of_ble_eq_true rfl)) (by rfl) (by rfl) (by rfl) ?_
    refine V_iload_n (q := 1) dX7_beginWith_0 rfl rfl ?_
    refine V_iconst (q := 2) (v := nI 1) dX7_beginWith_1 rfl (by decide) ?_
    refine V_icmpN_lt (q := 5) (tgt := 11) dX7_beginWith_2 (by decide) rfl (by omega) (by omega) (fun hc => ?_) (fun hc => ?_)
    · skip
      rw [show beginA (nI k) N = (-2, N, none) by unfold beginA; rw [idx_yes hk (by decide)]; exact if_pos (by omega)]
      refine V_bipush (q := 13) (v := (-2)) dX7_beginWith_11 rfl (by decide) ?_
      exact V_iret dX7_beginWith_13 rfl (Nat.le_of_ble_eq_true rfl) (Nat.le_of_ble_eq_true rfl) (⟨rfl, _, rfl, hO.fit⟩)
    · skip
      rw [show beginA (nI k) N = (nI (2 ^ k - 1), begS N k, none) by unfold beginA; rw [idx_yes hk (by decide)]; exact if_neg (by omega)]
      have hp := Nat.two_pow_pos k
      refine V_iload_n (q := 6) dX7_beginWith_5 rfl rfl ?_
      refine V_bipush (q := 8) (v := nI 8) dX7_beginWith_6 rfl (by decide) ?_
      refine V_icmpN_le (q := 11) (tgt := 14) dX7_beginWith_8 (by decide) rfl (by omega) (by omega) (fun _ => ?_) (fun h9 => by first | exact h9.elim | (exfalso; omega))
      refine V_aload_n (q := 15) dX7_beginWith_14 rfl rfl rfl ?_
      refine GX7_10 (q := 18) rfl dX7_beginWith_15 rfl (by first | assumption | exact up_eq | exact (up_ne (by omega)).trans (by first | assumption | exact up_eq | exact (up_ne (by omega)).trans (by first | assumption | exact up_eq | exact (up_ne (by omega)).trans (by first | assumption | exact up_eq)))) (by omega) (by rfl) ?_
      refine V_iconst (q := 19) (v := nI 1) dX7_beginWith_18 rfl (by decide) ?_
      refine V_iload_n (q := 20) dX7_beginWith_19 rfl rfl ?_
      refine V_ishl (q := 21) dX7_beginWith_20 rfl (shl1 (by omega)) ?_
      refine V_iconst (q := 22) (v := nI 1) dX7_beginWith_21 rfl (by decide) ?_
      refine V_isub (q := 23) dX7_beginWith_22 rfl (by first | exact pk_sub (by omega) | rfl) ?_
      refine PX7_144 (q := 26) (fs' := [_, _, _, _, _, _, _, _, _]) rfl dX7_beginWith_23 rfl (by first | assumption | exact up_eq | exact (up_ne (by omega)).trans (by first | assumption | exact up_eq | exact (up_ne (by omega)).trans (by first | assumption | exact up_eq | exact (up_ne (by omega)).trans (by first | assumption | exact up_eq)))) (by omega) (by exact (Nat.le_of_ble_eq_true rfl)) (by rfl) ?_
      try rw [up_up]
      refine V_aload_n (q := 27) dX7_beginWith_26 rfl rfl rfl ?_
      refine GX7_10 (q := 30) rfl dX7_beginWith_27 rfl (by first | assumption | exact up_eq | exact (up_ne (by omega)).trans (by first | assumption | exact up_eq | exact (up_ne (by omega)).trans (by first | assumption | exact up_eq | exact (up_ne (by omega)).trans (by first | assumption | exact up_eq)))) (by omega) (by rfl) ?_
      refine V_iconst (q := 31) (v := nI 0) dX7_beginWith_30 rfl (by decide) ?_
      refine PX7_148 (q := 34) (fs' := [_, _, _, _, _, _, _, _, _]) rfl dX7_beginWith_31 rfl (by first | assumption | exact up_eq | exact (up_ne (by omega)).trans (by first | assumption | exact up_eq | exact (up_ne (by omega)).trans (by first | assumption | exact up_eq | exact (up_ne (by omega)).trans (by first | assumption | exact up_eq)))) (by omega) (by exact (Nat.le_of_ble_eq_true rfl)) (by rfl) ?_
      try rw [up_up]
      refine V_aload_n (q := 35) dX7_beginWith_34 rfl rfl rfl ?_
      refine GX7_10 (q := 38) rfl dX7_beginWith_35 rfl (by first | assumption | exact up_eq | exact (up_ne (by omega)).trans (by first | assumption | exact up_eq | exact (up_ne (by omega)).trans (by first | assumption | exact up_eq | exact (up_ne (by omega)).trans (by first | assumption | exact up_eq)))) (by omega) (by rfl) ?_
      refine V_dup (q := 39) dX7_beginWith_38 rfl rfl ?_
      refine GX7_239 (q := 42) rfl dX7_beginWith_39 rfl (by first | assumption | exact up_eq | exact (up_ne (by omega)).trans (by first | assumption | exact up_eq | exact (up_ne (by omega)).trans (by first | assumption | exact up_eq | exact (up_ne (by omega)).trans (by first | assumption | exact up_eq)))) (by omega) (by rfl) ?_
      refine V_iconst (q := 43) (v := nI 1) dX7_beginWith_42 rfl (by decide) ?_
      refine V_iadd (q := 44) dX7_beginWith_43 rfl (by first | exact nI_add _ _ | rfl) ?_
      refine PX7_239 (q := 47) (fs' := [_, _, _, _, _, _, _, _, _]) rfl dX7_beginWith_44 rfl (by first | assumption | exact up_eq | exact (up_ne (by omega)).trans (by first | assumption | exact up_eq | exact (up_ne (by omega)).trans (by first | assumption | exact up_eq | exact (up_ne (by omega)).trans (by first | assumption | exact up_eq)))) (by omega) (by exact (Nat.le_of_ble_eq_true rfl)) (by rfl) ?_
      try rw [up_up]
      refine V_aload_n (q := 48) dX7_beginWith_47 rfl rfl rfl ?_
      refine GX7_10 (q := 51) rfl dX7_beginWith_48 rfl (by first | assumption | exact up_eq | exact (up_ne (by omega)).trans (by first | assumption | exact up_eq | exact (up_ne (by omega)).trans (by first | assumption | exact up_eq | exact (up_ne (by omega)).trans (by first | assumption | exact up_eq)))) (by omega) (by rfl) ?_
      refine GX7_144 (q := 54) rfl dX7_beginWith_51 rfl (by first | assumption | exact up_eq | exact (up_ne (by omega)).trans (by first | assumption | exact up_eq | exact (up_ne (by omega)).trans (by first | assumption | exact up_eq | exact (up_ne (by omega)).trans (by first | assumption | exact up_eq)))) (by omega) (by rfl) ?_
      exact V_iret dX7_beginWith_54 rfl (Nat.le_of_ble_eq_true rfl) (Nat.le_of_ble_eq_true rfl) (⟨rfl, _, rfl, hO.now ⟨G, π, LL, FF, hF.nums (S' := begS N k) rfl rfl⟩ (fun i hi => up_ne (by omega))⟩)
theorem c_makeThrow (h : OW g w n o b N r) (hK : OkS N) {x : Int32} : CtI g l MX7_makeThrow 2 [rf g o, .int x] w n (OP g w n o b r (tossA x N)) := by
  have hO := h
  obtain ⟨h0, hS, hJ, hr, hn⟩ := h
  obtain ⟨hso, hsn⟩ := hS.obj
  obtain ⟨G, π, LL, FF, hF⟩ := hS
  rcases i3_lt x 10 (by decide) with hm | ⟨k, hk, rfl⟩
  · rw [show tossA x N = (-2, N, none) by unfold tossA; rw [idx_no hm]]
    refine Ct.ofs (M := MX7_makeThrow) (ls := [some _, some _, none]) (by decide +kernel) (by exact (Nat.le_of_ble_eq_true rfl)) (by rfl) (by rfl) (by rfl) ?_
    refine V_iload_n (q := 1) dX7_makeThrow_0 rfl rfl ?_
    refine V_if_lt (q := 4) (tgt := 10) dX7_makeThrow_1 (by decide) rfl (fun hc => ?_) (fun hc => ?_)
    · skip
      refine V_bipush (q := 12) (v := (-2)) dX7_makeThrow_10 rfl (by decide) ?_
      exact V_iret dX7_makeThrow_12 rfl (Nat.le_of_ble_eq_true rfl) (Nat.le_of_ble_eq_true rfl) (⟨rfl, _, rfl, hO.fit⟩)
    · skip
      have hm := hm.resolve_left hc
      refine V_iload_n (q := 5) dX7_makeThrow_4 rfl rfl ?_
      refine V_bipush (q := 7) (v := nI 9) dX7_makeThrow_5 rfl (by decide) ?_
      refine V_icmp_le (q := 10) (tgt := 13) dX7_makeThrow_7 (by decide) rfl (fun h9 => absurd h9 (fun q => (fa_of_lt (fa_trans (by decide : nI 9 < nI 10) hm)).2.1 q)) (fun _ => ?_)
      refine V_bipush (q := 12) (v := (-2)) dX7_makeThrow_10 rfl (by decide) ?_
      exact V_iret dX7_makeThrow_12 rfl (Nat.le_of_ble_eq_true rfl) (Nat.le_of_ble_eq_true rfl) (⟨rfl, _, rfl, hO.fit⟩)
  · have ea : tossA (nI k) N = if popc (sS N) = 0 then (-3, N, some (6, nI (sB N))) else @ite _ (canN (sS N) k) (Classical.propDecidable _) (nI (sB N % 2), thrS N k, none) (-3, N, some (4, nI (sS N))) := by
      unfold tossA
      rw [idx_yes hk (by decide)]
    rw [ea]
    have hpb := popc_le (sS N)
    refine Ct.ofs (M := MX7_makeThrow) (ls := [some _, some _, none]) (by decide +kernel) (by exact (Nat.le_of_ble_eq_true rfl)) (by rfl) (by rfl) (by rfl) ?_
    refine V_iload_n (q := 1) dX7_makeThrow_0 rfl rfl ?_
    refine V_ifN_lt (q := 4) (tgt := 10) dX7_makeThrow_1 (by decide) rfl (by omega) (fun h9 => by first | exact h9.elim | exact absurd h9 (by assumption) | (exfalso; omega)) (fun _ => ?_)
    refine V_iload_n (q := 5) dX7_makeThrow_4 rfl rfl ?_
    refine V_bipush (q := 7) (v := nI 9) dX7_makeThrow_5 rfl (by decide) ?_
    refine V_icmpN_le (q := 10) (tgt := 13) dX7_makeThrow_7 (by decide) rfl (by omega) (by omega) (fun _ => ?_) (fun h9 => by first | exact h9.elim | (exfalso; omega))
    refine V_aload_n (q := 14) dX7_makeThrow_13 rfl rfl rfl ?_
    refine GX7_10 (q := 17) rfl dX7_makeThrow_14 rfl (by first | assumption | exact up_eq | exact (up_ne (by omega)).trans (by first | assumption | exact up_eq | exact (up_ne (by omega)).trans (by first | assumption | exact up_eq | exact (up_ne (by omega)).trans (by first | assumption | exact up_eq)))) (by omega) (by rfl) ?_
    refine CrX7_147 (q := 20) rfl dX7_makeThrow_17 rfl (c_sballs hF hK.1) ⟨(Nat.le_of_ble_eq_true rfl), (Nat.le_of_ble_eq_true rfl)⟩ (Nat.le_of_ble_eq_true rfl) (by first | assumption | exact up_eq | exact (up_ne (by omega)).trans (by first | assumption | exact up_eq | exact (up_ne (by omega)).trans (by first | assumption | exact up_eq | exact (up_ne (by omega)).trans (by first | assumption | exact up_eq)))) (by omega) (Nat.zero_le _) (Nat.zero_le _) ?_
    refine V_ifN_ne (q := 23) (tgt := 40) dX7_makeThrow_20 (by decide) rfl (by omega) (fun hc => ?_) (fun hc => ?_)
    · skip
      rw [if_neg hc]
      refine V_aload_n (q := 41) dX7_makeThrow_40 rfl rfl rfl ?_
      refine GX7_10 (q := 44) rfl dX7_makeThrow_41 rfl (by first | assumption | exact up_eq | exact (up_ne (by omega)).trans (by first | assumption | exact up_eq | exact (up_ne (by omega)).trans (by first | assumption | exact up_eq | exact (up_ne (by omega)).trans (by first | assumption | exact up_eq)))) (by omega) (by rfl) ?_
      refine GX7_144 (q := 47) rfl dX7_makeThrow_44 rfl (by first | assumption | exact up_eq | exact (up_ne (by omega)).trans (by first | assumption | exact up_eq | exact (up_ne (by omega)).trans (by first | assumption | exact up_eq | exact (up_ne (by omega)).trans (by first | assumption | exact up_eq)))) (by omega) (by rfl) ?_
      refine V_iload_n (q := 48) dX7_makeThrow_47 rfl rfl ?_
      refine CrX7_154 (q := 51) rfl dX7_makeThrow_48 rfl (c_canMake hK.1 (by omega)) ⟨(Nat.le_of_ble_eq_true rfl), (Nat.le_of_ble_eq_true rfl)⟩ (Nat.le_of_ble_eq_true rfl) (Nat.zero_le _) (Nat.zero_le _) ?_
      by_cases hcan : canN (sS N) k
      · rw [if_pos hcan]
        refine V_topi (if_pos hcan) ?_
        refine V_if_ne (q := 54) (tgt := 70) dX7_makeThrow_51 (by decide) rfl (fun _ => ?_) (fun h9 => absurd h9 (by decide))
        refine V_aload_n (q := 71) dX7_makeThrow_70 rfl rfl rfl ?_
        refine GX7_10 (q := 74) rfl dX7_makeThrow_71 rfl (by first | assumption | exact up_eq | exact (up_ne (by omega)).trans (by first | assumption | exact up_eq | exact (up_ne (by omega)).trans (by first | assumption | exact up_eq | exact (up_ne (by omega)).trans (by first | assumption | exact up_eq)))) (by omega) (by rfl) ?_
        refine GX7_148 (q := 77) rfl dX7_makeThrow_74 rfl (by first | assumption | exact up_eq | exact (up_ne (by omega)).trans (by first | assumption | exact up_eq | exact (up_ne (by omega)).trans (by first | assumption | exact up_eq | exact (up_ne (by omega)).trans (by first | assumption | exact up_eq)))) (by omega) (by rfl) ?_
        refine V_iconst (q := 78) (v := nI 1) dX7_makeThrow_77 rfl (by decide) ?_
        refine V_iand (q := 79) dX7_makeThrow_78 rfl ((fa_and (sB N) 1).trans (congrArg nI (Nat.and_one_is_mod (sB N)))) ?_
        refine V_istore_n (q := 80) (ls' := [_, _, _]) dX7_makeThrow_79 rfl (by decide) (by rfl) rfl ?_
        refine V_aload_n (q := 81) dX7_makeThrow_80 rfl rfl rfl ?_
        refine GX7_10 (q := 84) rfl dX7_makeThrow_81 rfl (by first | assumption | exact up_eq | exact (up_ne (by omega)).trans (by first | assumption | exact up_eq | exact (up_ne (by omega)).trans (by first | assumption | exact up_eq | exact (up_ne (by omega)).trans (by first | assumption | exact up_eq)))) (by omega) (by rfl) ?_
        refine V_iload_n (q := 85) dX7_makeThrow_84 rfl rfl ?_
        refine CvX7_285 (q := 88) rfl dX7_makeThrow_85 rfl (c_throwOne hF hK.1 (by omega) hK.2) ⟨(Nat.le_of_ble_eq_true rfl), (Nat.le_of_ble_eq_true rfl)⟩ (Nat.le_of_ble_eq_true rfl) (by first | assumption | exact up_eq | exact (up_ne (by omega)).trans (by first | assumption | exact up_eq | exact (up_ne (by omega)).trans (by first | assumption | exact up_eq | exact (up_ne (by omega)).trans (by first | assumption | exact up_eq)))) (by omega) (Nat.zero_le _) (Nat.zero_le _) (fun w1 hw1 => ?_)
        subst hw1
        refine V_iload_n (q := 89) dX7_makeThrow_88 rfl rfl ?_
        exact V_iret dX7_makeThrow_89 rfl (Nat.le_of_ble_eq_true rfl) (Nat.le_of_ble_eq_true rfl) (⟨rfl, _, rfl, hO.now ⟨G, π, LL, FF, hF.nums (S' := thrS N k) rfl rfl⟩ (fun i hi => up_ne (by omega))⟩)
      · rw [if_neg hcan]
        refine V_topi (if_neg hcan) ?_
        refine V_if_ne (q := 54) (tgt := 70) dX7_makeThrow_51 (by decide) rfl (fun h9 => absurd rfl h9) (fun _ => ?_)
        refine V_aload_n (q := 55) dX7_makeThrow_54 rfl rfl rfl ?_
        refine GX7_53 (q := 58) rfl dX7_makeThrow_55 rfl (by first | assumption | exact up_eq | exact (up_ne (by omega)).trans (by first | assumption | exact up_eq | exact (up_ne (by omega)).trans (by first | assumption | exact up_eq | exact (up_ne (by omega)).trans (by first | assumption | exact up_eq)))) (by omega) (by rfl) ?_
        refine V_iconst (q := 59) (v := nI 4) dX7_makeThrow_58 rfl (by decide) ?_
        refine V_aload_n (q := 60) dX7_makeThrow_59 rfl rfl rfl ?_
        refine GX7_10 (q := 63) rfl dX7_makeThrow_60 rfl (by first | assumption | exact up_eq | exact (up_ne (by omega)).trans (by first | assumption | exact up_eq | exact (up_ne (by omega)).trans (by first | assumption | exact up_eq | exact (up_ne (by omega)).trans (by first | assumption | exact up_eq)))) (by omega) (by rfl) ?_
        refine GX7_144 (q := 66) rfl dX7_makeThrow_63 rfl (by first | assumption | exact up_eq | exact (up_ne (by omega)).trans (by first | assumption | exact up_eq | exact (up_ne (by omega)).trans (by first | assumption | exact up_eq | exact (up_ne (by omega)).trans (by first | assumption | exact up_eq)))) (by omega) (by rfl) ?_
        refine CiX7_269 (q := 69) rfl dX7_makeThrow_66 rfl (c_refuse hr (by omega)) ⟨(Nat.le_of_ble_eq_true rfl), (Nat.le_of_ble_eq_true rfl)⟩ (Nat.le_of_ble_eq_true rfl) (by first | assumption | exact up_eq | exact (up_ne (by omega)).trans (by first | assumption | exact up_eq | exact (up_ne (by omega)).trans (by first | assumption | exact up_eq | exact (up_ne (by omega)).trans (by first | assumption | exact up_eq)))) (by omega) (Nat.zero_le _) (Nat.zero_le _) (fun y w1 hw1 => ?_)
        obtain ⟨rfl, rfl⟩ := hw1
        skip
        exact V_iret dX7_makeThrow_69 rfl (Nat.le_of_ble_eq_true rfl) (Nat.le_of_ble_eq_true rfl) (⟨rfl, _, rfl, hO.ref⟩)
    · skip
      rw [if_pos hc]
      refine V_aload_n (q := 24) dX7_makeThrow_23 rfl rfl rfl ?_
      refine GX7_53 (q := 27) rfl dX7_makeThrow_24 rfl (by first | assumption | exact up_eq | exact (up_ne (by omega)).trans (by first | assumption | exact up_eq | exact (up_ne (by omega)).trans (by first | assumption | exact up_eq | exact (up_ne (by omega)).trans (by first | assumption | exact up_eq)))) (by omega) (by rfl) ?_
      refine V_bipush (q := 29) (v := nI 6) dX7_makeThrow_27 rfl (by decide) ?_
      refine V_aload_n (q := 30) dX7_makeThrow_29 rfl rfl rfl ?_
      refine GX7_10 (q := 33) rfl dX7_makeThrow_30 rfl (by first | assumption | exact up_eq | exact (up_ne (by omega)).trans (by first | assumption | exact up_eq | exact (up_ne (by omega)).trans (by first | assumption | exact up_eq | exact (up_ne (by omega)).trans (by first | assumption | exact up_eq)))) (by omega) (by rfl) ?_
      refine GX7_148 (q := 36) rfl dX7_makeThrow_33 rfl (by first | assumption | exact up_eq | exact (up_ne (by omega)).trans (by first | assumption | exact up_eq | exact (up_ne (by omega)).trans (by first | assumption | exact up_eq | exact (up_ne (by omega)).trans (by first | assumption | exact up_eq)))) (by omega) (by rfl) ?_
      refine CiX7_269 (q := 39) rfl dX7_makeThrow_36 rfl (c_refuse hr (by omega)) ⟨(Nat.le_of_ble_eq_true rfl), (Nat.le_of_ble_eq_true rfl)⟩ (Nat.le_of_ble_eq_true rfl) (by first | assumption | exact up_eq | exact (up_ne (by omega)).trans (by first | assumption | exact up_eq | exact (up_ne (by omega)).trans (by first | assumption | exact up_eq | exact (up_ne (by omega)).trans (by first | assumption | exact up_eq)))) (by omega) (Nat.zero_le _) (Nat.zero_le _) (fun y w1 hw1 => ?_)
      obtain ⟨rfl, rfl⟩ := hw1
      skip
      exact V_iret dX7_makeThrow_39 rfl (Nat.le_of_ble_eq_true rfl) (Nat.le_of_ble_eq_true rfl) (⟨rfl, _, rfl, hO.ref⟩)
end OPS
