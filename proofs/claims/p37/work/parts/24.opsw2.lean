/-! swap and lift -/
theorem sub_neg : ∀ a, a < 10 → ∀ b, b < 10 → a < b → nI a - nI b < 0 := by decide +kernel
section OPS
variable {g : GG} {l : Launch} {w : HW} {n o : Nat} {b : Int32} {N : StT} {r : Int32 × Int32 × Int32 × Int32}
theorem c_swapBeats (h : OW g w n o b N r) {x y z : Int32} : CtI g l MX7_swapBeats 1 [rf g o, .int x, .int y, .int z] w n (OP g w n o b r (swapA x y z N)) := by
  have hO := h
  obtain ⟨h0, hS, hJ, hr, hn⟩ := h
  obtain ⟨hso, hsn⟩ := hS.obj
  obtain ⟨G, π, LL, FF, hF⟩ := hS
  have hc6 := hF.2.2.2.1
  rcases i3_lt x (sC N) (by omega) with hx | ⟨i, hi, rfl⟩
  · rw [show swapA x y z N = (-1, N, none) by unfold swapA; rw [idx_no hx]]
    refine Ct.ofs (M := MX7_swapBeats) (ls := [some _, some _, some _, some _, none, none, none]) (by decide +kernel) (by exact (Nat.le_of_ble_eq_true rfl)) (by rfl) (by rfl) (by rfl) ?_
    refine V_aload_n (q := 1) dX7_swapBeats_0 rfl rfl rfl ?_
    refine GX7_10 (q := 4) rfl dX7_swapBeats_1 rfl (by first | assumption | exact up_eq | exact (up_ne (by omega)).trans (by first | assumption | exact up_eq | exact (up_ne (by omega)).trans (by first | assumption | exact up_eq | exact (up_ne (by omega)).trans (by first | assumption | exact up_eq)))) (by omega) (by rfl) ?_
    refine V_iload_n (q := 5) dX7_swapBeats_4 rfl rfl ?_
    refine CrX7_98 (q := 8) rfl dX7_swapBeats_5 rfl (c_rowNum_out hF hx) ⟨(Nat.le_of_ble_eq_true rfl), (Nat.le_of_ble_eq_true rfl)⟩ (Nat.le_of_ble_eq_true rfl) (by first | assumption | exact up_eq | exact (up_ne (by omega)).trans (by first | assumption | exact up_eq | exact (up_ne (by omega)).trans (by first | assumption | exact up_eq | exact (up_ne (by omega)).trans (by first | assumption | exact up_eq)))) (by omega) (Nat.zero_le _) (Nat.zero_le _) ?_
    refine V_astore (q := 10) (ls' := [_, _, _, _, _, _, _]) dX7_swapBeats_8 rfl (by decide) (by rfl) rfl rfl ?_
    refine V_aload (q := 12) dX7_swapBeats_10 rfl rfl rfl ?_
    refine V_ifnullN (tgt := 33) dX7_swapBeats_12 (by decide) ?_
    refine V_iconst (q := 34) (v := (-1)) dX7_swapBeats_33 rfl (by decide) ?_
    exact V_iret dX7_swapBeats_34 rfl (Nat.le_of_ble_eq_true rfl) (Nat.le_of_ble_eq_true rfl) (⟨rfl, _, rfl, hO.fit⟩)
  · obtain ⟨k1, k2, k3, k4⟩ := hF.2.2.2.2.1 i (by omega)
    obtain ⟨e1, e2, e3⟩ := hF.2.2.2.2.2.2 i hi
    have hrow := k4.1
    have hrow2 := k4.2.1
    have hL8 := k4.2.2.2
    refine Ct.ofs (M := MX7_swapBeats) (ls := [some _, some _, some _, some _, none, none, none]) (by decide +kernel) (by exact (Nat.le_of_ble_eq_true rfl)) (by rfl) (by rfl) (by rfl) ?_
    refine V_aload_n (q := 1) dX7_swapBeats_0 rfl rfl rfl ?_
    refine GX7_10 (q := 4) rfl dX7_swapBeats_1 rfl (by first | assumption | exact up_eq | exact (up_ne (by omega)).trans (by first | assumption | exact up_eq | exact (up_ne (by omega)).trans (by first | assumption | exact up_eq | exact (up_ne (by omega)).trans (by first | assumption | exact up_eq)))) (by omega) (by rfl) ?_
    refine V_iload_n (q := 5) dX7_swapBeats_4 rfl rfl ?_
    refine CrX7_98 (q := 8) rfl dX7_swapBeats_5 rfl (c_rowNum_in hF hi) ⟨(Nat.le_of_ble_eq_true rfl), (Nat.le_of_ble_eq_true rfl)⟩ (Nat.le_of_ble_eq_true rfl) (by first | assumption | exact up_eq | exact (up_ne (by omega)).trans (by first | assumption | exact up_eq | exact (up_ne (by omega)).trans (by first | assumption | exact up_eq | exact (up_ne (by omega)).trans (by first | assumption | exact up_eq)))) (by omega) (Nat.zero_le _) (Nat.zero_le _) ?_
    refine V_astore (q := 10) (ls' := [_, _, _, _, _, _, _]) dX7_swapBeats_8 rfl (by decide) (by rfl) rfl rfl ?_
    refine V_aload (q := 12) dX7_swapBeats_10 rfl rfl rfl ?_
    refine V_ifnull (q := 15) dX7_swapBeats_12 rfl ?_
    refine V_aload (q := 17) dX7_swapBeats_15 rfl rfl rfl ?_
    refine V_iload_n (q := 18) dX7_swapBeats_17 rfl rfl ?_
    rcases i3_lt y (LL i) (by omega) with hy | ⟨a, ha, rfl⟩
    · rw [show swapA (nI i) y z N = (-1, N, none) by unfold swapA; rw [idx_yes hi (by omega)]; show (match idx y (sR N i).1 with | none => _ | some a => _) = _; rw [← e1, idx_no hy]]
      refine CrX7_130 (q := 21) rfl dX7_swapBeats_18 rfl (c_hasBeat_out k4 hy) ⟨(Nat.le_of_ble_eq_true rfl), (Nat.le_of_ble_eq_true rfl)⟩ (Nat.le_of_ble_eq_true rfl) (by first | assumption | exact up_eq | exact (up_ne (by omega)).trans (by first | assumption | exact up_eq | exact (up_ne (by omega)).trans (by first | assumption | exact up_eq | exact (up_ne (by omega)).trans (by first | assumption | exact up_eq)))) (by omega) (Nat.zero_le _) (Nat.zero_le _) ?_
      refine V_if_eq (q := 24) (tgt := 33) dX7_swapBeats_21 (by decide) rfl (fun _ => ?_) (fun h9 => absurd rfl h9)
      refine V_iconst (q := 34) (v := (-1)) dX7_swapBeats_33 rfl (by decide) ?_
      exact V_iret dX7_swapBeats_34 rfl (Nat.le_of_ble_eq_true rfl) (Nat.le_of_ble_eq_true rfl) (⟨rfl, _, rfl, hO.fit⟩)
    refine CrX7_130 (q := 21) rfl dX7_swapBeats_18 rfl (c_hasBeat_in k4 ha) ⟨(Nat.le_of_ble_eq_true rfl), (Nat.le_of_ble_eq_true rfl)⟩ (Nat.le_of_ble_eq_true rfl) (by first | assumption | exact up_eq | exact (up_ne (by omega)).trans (by first | assumption | exact up_eq | exact (up_ne (by omega)).trans (by first | assumption | exact up_eq | exact (up_ne (by omega)).trans (by first | assumption | exact up_eq)))) (by omega) (Nat.zero_le _) (Nat.zero_le _) ?_
    refine V_if_eq (q := 24) (tgt := 33) dX7_swapBeats_21 (by decide) rfl (fun h9 => absurd h9 (by decide)) (fun _ => ?_)
    refine V_aload (q := 26) dX7_swapBeats_24 rfl rfl rfl ?_
    refine V_iload_n (q := 27) dX7_swapBeats_26 rfl rfl ?_
    rcases i3_lt z (LL i) (by omega) with hz | ⟨c, hc, rfl⟩
    · rw [show swapA (nI i) (nI a) z N = (-1, N, none) by
        unfold swapA
        rw [idx_yes hi (by omega)]
        show (match idx (nI a) (sR N i).1 with | none => _ | some a => _) = _
        rw [← e1, idx_yes ha (by omega)]
        show (match idx z (LL i) with | none => _ | some b => _) = _
        rw [idx_no hz]]
      refine CrX7_130 (q := 30) rfl dX7_swapBeats_27 rfl (c_hasBeat_out k4 hz) ⟨(Nat.le_of_ble_eq_true rfl), (Nat.le_of_ble_eq_true rfl)⟩ (Nat.le_of_ble_eq_true rfl) (by first | assumption | exact up_eq | exact (up_ne (by omega)).trans (by first | assumption | exact up_eq | exact (up_ne (by omega)).trans (by first | assumption | exact up_eq | exact (up_ne (by omega)).trans (by first | assumption | exact up_eq)))) (by omega) (Nat.zero_le _) (Nat.zero_le _) ?_
      refine V_if_ne (q := 33) (tgt := 35) dX7_swapBeats_30 (by decide) rfl (fun h9 => absurd (by decide) h9) (fun _ => ?_)
      refine V_iconst (q := 34) (v := (-1)) dX7_swapBeats_33 rfl (by decide) ?_
      exact V_iret dX7_swapBeats_34 rfl (Nat.le_of_ble_eq_true rfl) (Nat.le_of_ble_eq_true rfl) (⟨rfl, _, rfl, hO.fit⟩)
    refine CrX7_130 (q := 30) rfl dX7_swapBeats_27 rfl (c_hasBeat_in k4 hc) ⟨(Nat.le_of_ble_eq_true rfl), (Nat.le_of_ble_eq_true rfl)⟩ (Nat.le_of_ble_eq_true rfl) (by first | assumption | exact up_eq | exact (up_ne (by omega)).trans (by first | assumption | exact up_eq | exact (up_ne (by omega)).trans (by first | assumption | exact up_eq | exact (up_ne (by omega)).trans (by first | assumption | exact up_eq)))) (by omega) (Nat.zero_le _) (Nat.zero_le _) ?_
    refine V_if_ne (q := 33) (tgt := 35) dX7_swapBeats_30 (by decide) rfl (fun _ => ?_) (fun h9 => absurd h9 (by decide))
    have ea : swapA (nI i) (nI a) (nI c) N = if c ≤ a then (-3, N, some (7, nI a)) else if 9 < (sR N i).2 c + (c - a) then (-3, N, some (2, nI a)) else if (sR N i).2 a < c - a then (-3, N, some (2, nI c)) else (nI ((sR N i).2 c + (c - a)), setR N i ((sR N i).1, swpN (sR N i).2 a c), none) := by
      unfold swapA
      rw [idx_yes hi (by omega)]
      show (match idx (nI a) (sR N i).1 with | none => _ | some a => _) = _
      rw [idx_yes (by omega) (by omega)]
      show (match idx (nI c) (sR N i).1 with | none => _ | some b => _) = _
      rw [idx_yes (by omega) (by omega)]
    obtain ⟨hha, hha9⟩ := e3 a ha
    obtain ⟨hhc, hhc9⟩ := e3 c hc
    rw [ea]
    refine V_iload_n (q := 36) dX7_swapBeats_35 rfl rfl ?_
    refine V_iload_n (q := 37) dX7_swapBeats_36 rfl rfl ?_
    refine V_icmpN_lt (q := 40) (tgt := 51) dX7_swapBeats_37 (by decide) rfl (by omega) (by omega) (fun q1 => ?_) (fun q1 => ?_)
    · skip
      rw [if_neg (by omega)]
      refine V_aload (q := 53) dX7_swapBeats_51 rfl rfl rfl ?_
      refine V_iload_n (q := 54) dX7_swapBeats_53 rfl rfl ?_
      refine CrX7_134 (q := 57) rfl dX7_swapBeats_54 rfl (c_heightAt k4 e3 hc) ⟨(Nat.le_of_ble_eq_true rfl), (Nat.le_of_ble_eq_true rfl)⟩ (Nat.le_of_ble_eq_true rfl) (by first | assumption | exact up_eq | exact (up_ne (by omega)).trans (by first | assumption | exact up_eq | exact (up_ne (by omega)).trans (by first | assumption | exact up_eq | exact (up_ne (by omega)).trans (by first | assumption | exact up_eq)))) (by omega) (Nat.zero_le _) (Nat.zero_le _) ?_
      refine V_iload_n (q := 58) dX7_swapBeats_57 rfl rfl ?_
      refine V_iload_n (q := 59) dX7_swapBeats_58 rfl rfl ?_
      refine V_isub (q := 60) dX7_swapBeats_59 rfl (by first | exact pk_sub (by omega) | rfl) ?_
      refine V_iadd (q := 61) dX7_swapBeats_60 rfl (by first | exact nI_add _ _ | rfl) ?_
      refine V_istore (q := 63) (ls' := [_, _, _, _, _, _, _]) dX7_swapBeats_61 rfl (by decide) (by rfl) rfl ?_
      refine V_aload (q := 65) dX7_swapBeats_63 rfl rfl rfl ?_
      refine V_iload_n (q := 66) dX7_swapBeats_65 rfl rfl ?_
      by_cases q3 : (sR N i).2 a < c - a
      · skip
        refine CrX7_134 (q := 69) rfl dX7_swapBeats_66 rfl (c_heightAt k4 e3 ha) ⟨(Nat.le_of_ble_eq_true rfl), (Nat.le_of_ble_eq_true rfl)⟩ (Nat.le_of_ble_eq_true rfl) (by first | assumption | exact up_eq | exact (up_ne (by omega)).trans (by first | assumption | exact up_eq | exact (up_ne (by omega)).trans (by first | assumption | exact up_eq | exact (up_ne (by omega)).trans (by first | assumption | exact up_eq)))) (by omega) (Nat.zero_le _) (Nat.zero_le _) ?_
        refine V_iload_n (q := 70) dX7_swapBeats_69 rfl rfl ?_
        refine V_iload_n (q := 71) dX7_swapBeats_70 rfl rfl ?_
        refine V_isub (q := 72) dX7_swapBeats_71 rfl (by first | exact pk_sub (by omega) | rfl) ?_
        refine V_isub (q := 73) dX7_swapBeats_72 rfl rfl ?_
        refine V_istore (q := 75) (ls' := [_, _, _, _, _, _, _]) dX7_swapBeats_73 rfl (by decide) (by rfl) rfl ?_
        refine V_iload (q := 77) dX7_swapBeats_75 rfl rfl ?_
        refine V_bipush (q := 79) (v := nI 9) dX7_swapBeats_77 rfl (by decide) ?_
        refine V_icmpN_le (q := 82) (tgt := 92) dX7_swapBeats_79 (by decide) rfl (by omega) (by omega) (fun q2 => ?_) (fun q2 => ?_)
        · skip
          rw [if_neg (by omega), if_pos q3]
          refine V_iload (q := 94) dX7_swapBeats_92 rfl rfl ?_
          refine V_if_ge (q := 97) (tgt := 107) dX7_swapBeats_94 (by decide) rfl (fun h9 => absurd h9 (fun q => (fa_of_lt (sub_neg _ (by omega) _ (by omega) q3)).2.1 q)) (fun _ => ?_)
          refine V_aload_n (q := 98) dX7_swapBeats_97 rfl rfl rfl ?_
          refine GX7_53 (q := 101) rfl dX7_swapBeats_98 rfl (by first | assumption | exact up_eq | exact (up_ne (by omega)).trans (by first | assumption | exact up_eq | exact (up_ne (by omega)).trans (by first | assumption | exact up_eq | exact (up_ne (by omega)).trans (by first | assumption | exact up_eq)))) (by omega) (by rfl) ?_
          refine V_iconst (q := 102) (v := nI 2) dX7_swapBeats_101 rfl (by decide) ?_
          refine V_iload_n (q := 103) dX7_swapBeats_102 rfl rfl ?_
          refine CiX7_269 (q := 106) rfl dX7_swapBeats_103 rfl (c_refuse hr (by omega)) ⟨(Nat.le_of_ble_eq_true rfl), (Nat.le_of_ble_eq_true rfl)⟩ (Nat.le_of_ble_eq_true rfl) (by first | assumption | exact up_eq | exact (up_ne (by omega)).trans (by first | assumption | exact up_eq | exact (up_ne (by omega)).trans (by first | assumption | exact up_eq | exact (up_ne (by omega)).trans (by first | assumption | exact up_eq)))) (by omega) (Nat.zero_le _) (Nat.zero_le _) (fun y w1 hw1 => ?_)
          obtain ⟨rfl, rfl⟩ := hw1
          skip
          exact V_iret dX7_swapBeats_106 rfl (Nat.le_of_ble_eq_true rfl) (Nat.le_of_ble_eq_true rfl) (⟨rfl, _, rfl, hO.ref⟩)
        · skip
          rw [if_pos (by omega)]
          refine V_aload_n (q := 83) dX7_swapBeats_82 rfl rfl rfl ?_
          refine GX7_53 (q := 86) rfl dX7_swapBeats_83 rfl (by first | assumption | exact up_eq | exact (up_ne (by omega)).trans (by first | assumption | exact up_eq | exact (up_ne (by omega)).trans (by first | assumption | exact up_eq | exact (up_ne (by omega)).trans (by first | assumption | exact up_eq)))) (by omega) (by rfl) ?_
          refine V_iconst (q := 87) (v := nI 2) dX7_swapBeats_86 rfl (by decide) ?_
          refine V_iload_n (q := 88) dX7_swapBeats_87 rfl rfl ?_
          refine CiX7_269 (q := 91) rfl dX7_swapBeats_88 rfl (c_refuse hr (by omega)) ⟨(Nat.le_of_ble_eq_true rfl), (Nat.le_of_ble_eq_true rfl)⟩ (Nat.le_of_ble_eq_true rfl) (by first | assumption | exact up_eq | exact (up_ne (by omega)).trans (by first | assumption | exact up_eq | exact (up_ne (by omega)).trans (by first | assumption | exact up_eq | exact (up_ne (by omega)).trans (by first | assumption | exact up_eq)))) (by omega) (Nat.zero_le _) (Nat.zero_le _) (fun y w1 hw1 => ?_)
          obtain ⟨rfl, rfl⟩ := hw1
          skip
          exact V_iret dX7_swapBeats_91 rfl (Nat.le_of_ble_eq_true rfl) (Nat.le_of_ble_eq_true rfl) (⟨rfl, _, rfl, hO.ref⟩)
      · skip
        refine CrX7_134 (q := 69) rfl dX7_swapBeats_66 rfl (c_heightAt k4 e3 ha) ⟨(Nat.le_of_ble_eq_true rfl), (Nat.le_of_ble_eq_true rfl)⟩ (Nat.le_of_ble_eq_true rfl) (by first | assumption | exact up_eq | exact (up_ne (by omega)).trans (by first | assumption | exact up_eq | exact (up_ne (by omega)).trans (by first | assumption | exact up_eq | exact (up_ne (by omega)).trans (by first | assumption | exact up_eq)))) (by omega) (Nat.zero_le _) (Nat.zero_le _) ?_
        refine V_iload_n (q := 70) dX7_swapBeats_69 rfl rfl ?_
        refine V_iload_n (q := 71) dX7_swapBeats_70 rfl rfl ?_
        refine V_isub (q := 72) dX7_swapBeats_71 rfl (by first | exact pk_sub (by omega) | rfl) ?_
        refine V_isub (q := 73) dX7_swapBeats_72 rfl (by first | exact pk_sub (by omega) | rfl) ?_
        refine V_istore (q := 75) (ls' := [_, _, _, _, _, _, _]) dX7_swapBeats_73 rfl (by decide) (by rfl) rfl ?_
        refine V_iload (q := 77) dX7_swapBeats_75 rfl rfl ?_
        refine V_bipush (q := 79) (v := nI 9) dX7_swapBeats_77 rfl (by decide) ?_
        refine V_icmpN_le (q := 82) (tgt := 92) dX7_swapBeats_79 (by decide) rfl (by omega) (by omega) (fun q2 => ?_) (fun q2 => ?_)
        · skip
          rw [if_neg (by omega), if_neg q3]
          refine V_iload (q := 94) dX7_swapBeats_92 rfl rfl ?_
          refine V_ifN_ge (q := 97) (tgt := 107) dX7_swapBeats_94 (by decide) rfl (by omega) (fun _ => ?_) (fun h9 => by first | exact h9.elim | (exfalso; omega))
          refine V_aload (q := 109) dX7_swapBeats_107 rfl rfl rfl ?_
          refine V_iload_n (q := 110) dX7_swapBeats_109 rfl rfl ?_
          refine V_iload (q := 112) dX7_swapBeats_110 rfl rfl ?_
          refine CvX7_281 (q := 115) rfl dX7_swapBeats_112 rfl (c_setHeight k4 (by omega)) ⟨(Nat.le_of_ble_eq_true rfl), (Nat.le_of_ble_eq_true rfl)⟩ (Nat.le_of_ble_eq_true rfl) (by first | assumption | exact up_eq | exact (up_ne (by omega)).trans (by first | assumption | exact up_eq | exact (up_ne (by omega)).trans (by first | assumption | exact up_eq | exact (up_ne (by omega)).trans (by first | assumption | exact up_eq)))) (by omega) (Nat.zero_le _) (Nat.zero_le _) (fun w1 hw1 => ?_)
          subst hw1
          have k5 : RwF g (va_up w (π i + 1) (eI g 8 (upd (FF i) a (nI ((sR N i).2 c + (c - a)))))) n (π i) (LL i) _ := ⟨(up_ne (by omega)).trans k4.1, up_eq, k4.2.2.1, k4.2.2.2⟩
          refine V_aload (q := 117) dX7_swapBeats_115 rfl rfl rfl ?_
          refine V_iload_n (q := 118) dX7_swapBeats_117 rfl rfl ?_
          refine V_iload (q := 120) dX7_swapBeats_118 rfl rfl ?_
          refine CvX7_281 (q := 123) rfl dX7_swapBeats_120 rfl (c_setHeight k5 (by omega)) ⟨(Nat.le_of_ble_eq_true rfl), (Nat.le_of_ble_eq_true rfl)⟩ (Nat.le_of_ble_eq_true rfl) (by first | assumption | exact up_eq | exact (up_ne (by omega)).trans (by first | assumption | exact up_eq | exact (up_ne (by omega)).trans (by first | assumption | exact up_eq | exact (up_ne (by omega)).trans (by first | assumption | exact up_eq)))) (by omega) (Nat.zero_le _) (Nat.zero_le _) (fun w1 hw1 => ?_)
          subst hw1
          rw [up_up]
          have hh : Fh (upd (upd (FF i) a (nI ((sR N i).2 c + (c - a)))) c (nI ((sR N i).2 a - (c - a)))) (sR N i).1 (swpN (sR N i).2 a c) := by
            intro j hj
            unfold swpN
            by_cases z1 : j = c
            · subst z1
              rw [updI, if_neg (by omega), if_pos rfl]
              exact ⟨rfl, by omega⟩
            · rw [updN z1]
              by_cases z2 : j = a
              · subst z2
                rw [updI, if_pos rfl]
                exact ⟨rfl, by omega⟩
              · rw [updN z2, if_neg z2, if_neg z1]
                exact e3 j (by omega)
          obtain ⟨s1, s2⟩ := Sd.setRow hF hi hh
          refine V_iload (q := 125) dX7_swapBeats_123 rfl rfl ?_
          exact V_iret dX7_swapBeats_125 rfl (Nat.le_of_ble_eq_true rfl) (Nat.le_of_ble_eq_true rfl) (⟨rfl, _, rfl, hO.now s1 s2⟩)
        · skip
          rw [if_pos (by omega)]
          refine V_aload_n (q := 83) dX7_swapBeats_82 rfl rfl rfl ?_
          refine GX7_53 (q := 86) rfl dX7_swapBeats_83 rfl (by first | assumption | exact up_eq | exact (up_ne (by omega)).trans (by first | assumption | exact up_eq | exact (up_ne (by omega)).trans (by first | assumption | exact up_eq | exact (up_ne (by omega)).trans (by first | assumption | exact up_eq)))) (by omega) (by rfl) ?_
          refine V_iconst (q := 87) (v := nI 2) dX7_swapBeats_86 rfl (by decide) ?_
          refine V_iload_n (q := 88) dX7_swapBeats_87 rfl rfl ?_
          refine CiX7_269 (q := 91) rfl dX7_swapBeats_88 rfl (c_refuse hr (by omega)) ⟨(Nat.le_of_ble_eq_true rfl), (Nat.le_of_ble_eq_true rfl)⟩ (Nat.le_of_ble_eq_true rfl) (by first | assumption | exact up_eq | exact (up_ne (by omega)).trans (by first | assumption | exact up_eq | exact (up_ne (by omega)).trans (by first | assumption | exact up_eq | exact (up_ne (by omega)).trans (by first | assumption | exact up_eq)))) (by omega) (Nat.zero_le _) (Nat.zero_le _) (fun y w1 hw1 => ?_)
          obtain ⟨rfl, rfl⟩ := hw1
          skip
          exact V_iret dX7_swapBeats_91 rfl (Nat.le_of_ble_eq_true rfl) (Nat.le_of_ble_eq_true rfl) (⟨rfl, _, rfl, hO.ref⟩)
    · skip
      rw [if_pos q1]
      refine V_aload_n (q := 41) dX7_swapBeats_40 rfl rfl rfl ?_
      refine GX7_53 (q := 44) rfl dX7_swapBeats_41 rfl (by first | assumption | exact up_eq | exact (up_ne (by omega)).trans (by first | assumption | exact up_eq | exact (up_ne (by omega)).trans (by first | assumption | exact up_eq | exact (up_ne (by omega)).trans (by first | assumption | exact up_eq)))) (by omega) (by rfl) ?_
      refine V_bipush (q := 46) (v := nI 7) dX7_swapBeats_44 rfl (by decide) ?_
      refine V_iload_n (q := 47) dX7_swapBeats_46 rfl rfl ?_
      refine CiX7_269 (q := 50) rfl dX7_swapBeats_47 rfl (c_refuse hr (by omega)) ⟨(Nat.le_of_ble_eq_true rfl), (Nat.le_of_ble_eq_true rfl)⟩ (Nat.le_of_ble_eq_true rfl) (by first | assumption | exact up_eq | exact (up_ne (by omega)).trans (by first | assumption | exact up_eq | exact (up_ne (by omega)).trans (by first | assumption | exact up_eq | exact (up_ne (by omega)).trans (by first | assumption | exact up_eq)))) (by omega) (Nat.zero_le _) (Nat.zero_le _) (fun y w1 hw1 => ?_)
      obtain ⟨rfl, rfl⟩ := hw1
      skip
      exact V_iret dX7_swapBeats_50 rfl (Nat.le_of_ble_eq_true rfl) (Nat.le_of_ble_eq_true rfl) (⟨rfl, _, rfl, hO.ref⟩)
end OPS
