/-! the law: its loop, its start -/
/-- the law's end is reached, if it was begun with this script -/
def FinL (bq : Nat) : FinT := fun below args s t => args = #[Value.ref bq] → lw_Z below #[Value.ref bq] s t
theorem XW.up {g : GG} {w : HW} {n n' o : Nat} {X : XT} (h : XW g w n o X) (hn : n ≤ n') : XW g w n' o X := by
  obtain ⟨B, h0, k1, h2, h3, h4, h5, h6, h7, h8, h9, h10⟩ := h
  exact ⟨B, h0, k1.up hn, h2.up hn, h3.up hn, h4.up hn, h5.up hn, h6.up hn, h7.up hn, h8, h9, by omega⟩
section LL
variable {g : GG} {l : Launch} {bq : Nat}
theorem V_lret {pc : Nat} {ls : LO} {w : HW} {n sl : Nat} (d : decode Mlaw.2.1 pc = .ok (.ireturn, 1)) (hc : n ≤ 600000) (hs : sl ≤ 7302250) : V g l Mlaw room_1 (FinL bq) pc ls [.int 1] w n n sl := by
  intro p e s m args below meth c H locs la hC hL hP hS hn
  obtain ⟨hx, hb, hr, hlk, hml, hown, hts, hK, hb0, hin⟩ := id hC
  by_cases ha : args = #[Value.ref bq]
  · subst ha
    refine va_forget (fun q hq => ?_) ?_
    · have h1 : g.1 ≤ q.base := hS.2.2 q hq
      omega
    · refine W.widen hc hs ?_
      have key := lw_ret (l := l) (p := p) (e := e) (s := s) (m := m) (below := below) (meth := meth) (c := c) (b := bq) (d0 := s.drawn) (Drawn.sameBut.refl s.drawn lw_cs) hx hb hr hlk (pc := pc) (H := H) (ls := la) d
      intro T hT X
      obtain ⟨t, a1, a2⟩ := key T hT X
      exact ⟨t, a1, fun _ => a2⟩
  · intro T hT X
    exact ⟨_, Steps.refl _, fun h => absurd h ha⟩
theorem gt_out {i L : Nat} (hi : i ≤ 3000) (hL : L ≤ 2048) (h : L < i + 4) : nI L - nI 4 < nI i := by
  have e1 : (nI L).toInt = (L : Int) := nI_toInt (by omega)
  have e4 : (nI 4).toInt = (4 : Int) := nI_toInt (by decide)
  have ei : (nI i).toInt = (i : Int) := nI_toInt (by omega)
  rw [fa_lt, fb_subI (by omega) (by omega), e1, e4, ei]
  omega
theorem law_loop {L : Nat} (hL : g.2.2.2.2.2.1 = L) (hL2 : L ≤ 2048) : ∀ f i X w, L < i + 4 * f + 4 → i ≤ L → XW g w 186 0 X → MW g w 186 167 X → Bd X i → V g l Mlaw room_1 (FinL bq) 18 [some (.ref g.2.2.2.2.1), some (rf g 0), some (rf g 167), some (.int (nI i))] [] w 186 186 5422 := by
  intro f
  induction f with
  | zero =>
    intro i X w hf hi hX hY hB
    refine V_iload_n (q := 19) dL_law_18 rfl rfl ?_
    refine V_aload_n (q := 20) dL_law_19 rfl rfl rfl ?_
    refine V_slen (q := 21) dL_law_20 rfl ?_
    refine V_iconst (q := 22) (v := nI 4) dL_law_21 rfl (by decide) ?_
    refine V_isub (q := 23) dL_law_22 rfl rfl ?_
    refine V_topi (congrArg (fun q => nI q - nI 4) hL) ?_
    refine V_icmp_gt (q := 26) (tgt := 992) dL_law_23 (by decide) rfl (fun _ => ?_) (fun h9 => absurd (gt_out (by omega) hL2 (by omega)) h9)
    refine V_iconst (q := 993) (v := nI 1) dL_law_992 rfl (by decide) ?_
    exact V_lret dL_law_993 (Nat.le_of_ble_eq_true rfl) (Nat.le_of_ble_eq_true rfl)
  | succ f ih =>
    intro i X w hf hi hX hY hB
    by_cases hc : i + 4 ≤ L
    · have next : ∀ X' w', XW g w' 186 0 X' → MW g w' 186 167 X' → Bd X' (i + 4) → V g l Mlaw room_1 (FinL bq) 986 [some (.ref g.2.2.2.2.1), some (rf g 0), some (rf g 167), some (.int (nI i))] [] w' 186 186 5422 := by
        intro X' w' hX' hY' hB'
        refine V_iinc (q := 989) (ls' := [_, _, _, _]) dL_law_986 rfl (by decide) rfl (inc4 i) rfl ?_
        refine V_goto (tgt := 18) dL_law_989 (by decide) ?_
        exact ih (i + 4) X' w' (by omega) hc hX' hY' hB'
      have hno : ¬ nI L - nI 4 < nI i := by
        have e : nI L - nI 4 = nI (L - 4) := pk_sub (by omega)
        rw [e, nI_ltI (by omega) (by omega)]
        omega
      have in0 : vp_in (nI i) g.2.2.2.2.2.1 := by rw [hL]; exact vp_in_nI (by omega) (by omega)
      obtain ⟨k, hk, hand⟩ := and63 (g.2.2.2.2.2.2 (nI i).toNatClampNeg)
      refine V_iload_n (q := 19) dL_law_18 rfl rfl ?_
      refine V_aload_n (q := 20) dL_law_19 rfl rfl rfl ?_
      refine V_slen (q := 21) dL_law_20 rfl ?_
      refine V_iconst (q := 22) (v := nI 4) dL_law_21 rfl (by decide) ?_
      refine V_isub (q := 23) dL_law_22 rfl rfl ?_
      refine V_topi (congrArg (fun q => nI q - nI 4) hL) ?_
      refine V_icmp_gt (q := 26) (tgt := 992) dL_law_23 (by decide) rfl (fun h9 => absurd h9 hno) (fun _ => ?_)
      refine V_aload_n (q := 27) dL_law_26 rfl rfl rfl ?_
      refine V_iload_n (q := 28) dL_law_27 rfl rfl ?_
      refine V_sld (q := 29) dL_law_28 rfl in0 rfl ?_
      refine V_bipush (q := 31) (v := nI 63) dL_law_29 rfl (by decide) ?_
      refine V_iand (q := 32) dL_law_31 rfl hand ?_
      rcases (by omega : 34 ≤ k ∨ k = 0 ∨ k = 1 ∨ k = 2 ∨ k = 3 ∨ k = 4 ∨ k = 5 ∨ k = 6 ∨ k = 7 ∨ k = 8 ∨ k = 9 ∨ k = 10 ∨ k = 11 ∨ k = 12 ∨ k = 13 ∨ k = 14 ∨ k = 15 ∨ k = 16 ∨ k = 17 ∨ k = 18 ∨ k = 19 ∨ k = 20 ∨ k = 21 ∨ k = 22 ∨ k = 23 ∨ k = 24 ∨ k = 25 ∨ k = 26 ∨ k = 27 ∨ k = 28 ∨ k = 29 ∨ k = 30 ∨ k = 31 ∨ k = 32 ∨ k = 33) with hk34 | rfl | rfl | rfl | rfl | rfl | rfl | rfl | rfl | rfl | rfl | rfl | rfl | rfl | rfl | rfl | rfl | rfl | rfl | rfl | rfl | rfl | rfl | rfl | rfl | rfl | rfl | rfl | rfl | rfl | rfl | rfl | rfl | rfl | rfl
      · skip
        refine V_tabOut (tgt := 986) dL_law_32 (by rw [nI_toInt (by omega)]; omega) (by decide) ?_
        exact next X w hX hY (hB.same rfl rfl rfl)
      · skip
        refine V_tabIn (off := 152) (tgt := 184) dL_law_32 (by decide) (by decide) (by decide) (by decide) ?_
        exact law_0 hL hL2 hc hX hY hB next
      · skip
        refine V_tabIn (off := 185) (tgt := 217) dL_law_32 (by decide) (by decide) (by decide) (by decide) ?_
        exact law_1 hL hL2 hc hX hY hB next
      · skip
        refine V_tabIn (off := 208) (tgt := 240) dL_law_32 (by decide) (by decide) (by decide) (by decide) ?_
        exact law_2 hL hL2 hc hX hY hB next
      · skip
        refine V_tabIn (off := 231) (tgt := 263) dL_law_32 (by decide) (by decide) (by decide) (by decide) ?_
        exact law_3 hL hL2 hc hX hY hB next
      · skip
        refine V_tabIn (off := 274) (tgt := 306) dL_law_32 (by decide) (by decide) (by decide) (by decide) ?_
        exact law_4 hL hL2 hc hX hY hB next
      · skip
        refine V_tabIn (off := 297) (tgt := 329) dL_law_32 (by decide) (by decide) (by decide) (by decide) ?_
        exact law_5 hL hL2 hc hX hY hB next
      · skip
        refine V_tabIn (off := 320) (tgt := 352) dL_law_32 (by decide) (by decide) (by decide) (by decide) ?_
        exact law_6 hL hL2 hc hX hY hB next
      · skip
        refine V_tabIn (off := 343) (tgt := 375) dL_law_32 (by decide) (by decide) (by decide) (by decide) ?_
        exact law_7 hL hL2 hc hX hY hB next
      · skip
        refine V_tabIn (off := 366) (tgt := 398) dL_law_32 (by decide) (by decide) (by decide) (by decide) ?_
        exact law_8 hL hL2 hc hX hY hB next
      · skip
        refine V_tabIn (off := 389) (tgt := 421) dL_law_32 (by decide) (by decide) (by decide) (by decide) ?_
        exact law_9 hL hL2 hc hX hY hB next
      · skip
        refine V_tabIn (off := 422) (tgt := 454) dL_law_32 (by decide) (by decide) (by decide) (by decide) ?_
        exact law_10 hL hL2 hc hX hY hB next
      · skip
        refine V_tabIn (off := 455) (tgt := 487) dL_law_32 (by decide) (by decide) (by decide) (by decide) ?_
        exact law_11 hL hL2 hc hX hY hB next
      · skip
        refine V_tabIn (off := 478) (tgt := 510) dL_law_32 (by decide) (by decide) (by decide) (by decide) ?_
        exact law_12 hL hL2 hc hX hY hB next
      · skip
        refine V_tabIn (off := 501) (tgt := 533) dL_law_32 (by decide) (by decide) (by decide) (by decide) ?_
        exact law_13 hL hL2 hc hX hY hB next
      · skip
        refine V_tabIn (off := 534) (tgt := 566) dL_law_32 (by decide) (by decide) (by decide) (by decide) ?_
        exact law_14 hL hL2 hc hX hY hB next
      · skip
        refine V_tabIn (off := 557) (tgt := 589) dL_law_32 (by decide) (by decide) (by decide) (by decide) ?_
        exact law_15 hL hL2 hc hX hY hB next
      · skip
        refine V_tabIn (off := 580) (tgt := 612) dL_law_32 (by decide) (by decide) (by decide) (by decide) ?_
        exact law_16 hL hL2 hc hX hY hB next
      · skip
        refine V_tabIn (off := 603) (tgt := 635) dL_law_32 (by decide) (by decide) (by decide) (by decide) ?_
        exact law_17 hL hL2 hc hX hY hB next
      · skip
        refine V_tabIn (off := 626) (tgt := 658) dL_law_32 (by decide) (by decide) (by decide) (by decide) ?_
        exact law_18 hL hL2 hc hX hY hB next
      · skip
        refine V_tabIn (off := 659) (tgt := 691) dL_law_32 (by decide) (by decide) (by decide) (by decide) ?_
        exact law_19 hL hL2 hc hX hY hB next
      · skip
        refine V_tabIn (off := 692) (tgt := 724) dL_law_32 (by decide) (by decide) (by decide) (by decide) ?_
        exact law_20 hL hL2 hc hX hY hB next
      · skip
        refine V_tabIn (off := 725) (tgt := 757) dL_law_32 (by decide) (by decide) (by decide) (by decide) ?_
        exact law_21 hL hL2 hc hX hY hB next
      · skip
        refine V_tabIn (off := 748) (tgt := 780) dL_law_32 (by decide) (by decide) (by decide) (by decide) ?_
        exact law_22 hL hL2 hc hX hY hB next
      · skip
        refine V_tabIn (off := 761) (tgt := 793) dL_law_32 (by decide) (by decide) (by decide) (by decide) ?_
        exact law_23 hL hL2 hc hX hY hB next
      · skip
        refine V_tabIn (off := 784) (tgt := 816) dL_law_32 (by decide) (by decide) (by decide) (by decide) ?_
        exact law_24 hL hL2 hc hX hY hB next
      · skip
        refine V_tabIn (off := 807) (tgt := 839) dL_law_32 (by decide) (by decide) (by decide) (by decide) ?_
        exact law_25 hL hL2 hc hX hY hB next
      · skip
        refine V_tabIn (off := 830) (tgt := 862) dL_law_32 (by decide) (by decide) (by decide) (by decide) ?_
        exact law_26 hL hL2 hc hX hY hB next
      · skip
        refine V_tabIn (off := 843) (tgt := 875) dL_law_32 (by decide) (by decide) (by decide) (by decide) ?_
        exact law_27 hL hL2 hc hX hY hB next
      · skip
        refine V_tabIn (off := 866) (tgt := 898) dL_law_32 (by decide) (by decide) (by decide) (by decide) ?_
        exact law_28 hL hL2 hc hX hY hB next
      · skip
        refine V_tabIn (off := 889) (tgt := 921) dL_law_32 (by decide) (by decide) (by decide) (by decide) ?_
        exact law_29 hL hL2 hc hX hY hB next
      · skip
        refine V_tabIn (off := 902) (tgt := 934) dL_law_32 (by decide) (by decide) (by decide) (by decide) ?_
        exact law_30 hL hL2 hc hX hY hB next
      · skip
        refine V_tabIn (off := 915) (tgt := 947) dL_law_32 (by decide) (by decide) (by decide) (by decide) ?_
        exact law_31 hL hL2 hc hX hY hB next
      · skip
        refine V_tabIn (off := 928) (tgt := 960) dL_law_32 (by decide) (by decide) (by decide) (by decide) ?_
        exact law_32 hL hL2 hc hX hY hB next
      · skip
        refine V_tabIn (off := 941) (tgt := 973) dL_law_32 (by decide) (by decide) (by decide) (by decide) ?_
        exact law_33 hL hL2 hc hX hY hB next
    · skip
      refine V_iload_n (q := 19) dL_law_18 rfl rfl ?_
      refine V_aload_n (q := 20) dL_law_19 rfl rfl rfl ?_
      refine V_slen (q := 21) dL_law_20 rfl ?_
      refine V_iconst (q := 22) (v := nI 4) dL_law_21 rfl (by decide) ?_
      refine V_isub (q := 23) dL_law_22 rfl rfl ?_
      refine V_topi (congrArg (fun q => nI q - nI 4) hL) ?_
      refine V_icmp_gt (q := 26) (tgt := 992) dL_law_23 (by decide) rfl (fun _ => ?_) (fun h9 => absurd (gt_out (by omega) hL2 (by omega)) h9)
      refine V_iconst (q := 993) (v := nI 1) dL_law_992 rfl (by decide) ?_
      exact V_lret dL_law_993 (Nat.le_of_ble_eq_true rfl) (Nat.le_of_ble_eq_true rfl)
theorem law_main {L : Nat} {w : HW} (hL : g.2.2.2.2.2.1 = L) (hL2 : L ≤ 2048) : V g l Mlaw room_1 (FinL bq) 0 [some (.ref g.2.2.2.2.1), none, none, none] [] w 0 0 0 := by
  refine NL_7 (q := 3) rfl dL_law_0 rfl (Nat.le_of_ble_eq_true rfl) (Nat.le_of_ble_eq_true rfl) ?_
  refine V_dup (q := 4) dL_law_3 rfl rfl ?_
  refine IL_9 (q := 7) rfl dL_law_4 rfl (c_xInit up_eq) ⟨(Nat.le_of_ble_eq_true rfl), (Nat.le_of_ble_eq_true rfl)⟩ (Nat.le_of_ble_eq_true rfl) (Nat.le_of_ble_eq_true rfl) (Nat.le_of_ble_eq_true rfl) (fun w1 hw1 => ?_)
  obtain ⟨hX, hF⟩ := hw1
  have hX1 : XW g w1 167 0 X0e := hX
  refine V_astore_n (q := 8) (ls' := [_, _, _, _]) dL_law_7 rfl (by decide) rfl rfl ?_
  refine NL_10 (q := 11) rfl dL_law_8 rfl (Nat.le_of_ble_eq_true rfl) (Nat.le_of_ble_eq_true rfl) ?_
  refine V_dup (q := 12) dL_law_11 rfl rfl ?_
  refine IL_12 (q := 15) rfl dL_law_12 rfl (c_mInit up_eq) ⟨(Nat.le_of_ble_eq_true rfl), (Nat.le_of_ble_eq_true rfl)⟩ (Nat.le_of_ble_eq_true rfl) (Nat.le_of_ble_eq_true rfl) (Nat.le_of_ble_eq_true rfl) (fun w2 hw2 => ?_)
  obtain ⟨hY, hF2⟩ := hw2
  have hX2 : XW g w2 186 0 X0e := (hX1.up (by decide)).frame (fun i a1 a2 => (hF2 i (by omega)).trans (up_ne (by omega)))
  refine V_astore_n (q := 16) (ls' := [_, _, _, _]) dL_law_15 rfl (by decide) rfl rfl ?_
  refine V_iconst (q := 17) (v := nI 0) dL_law_16 rfl (by decide) ?_
  refine V_istore_n (q := 18) (ls' := [_, _, _, _]) dL_law_17 rfl (by decide) rfl ?_
  exact law_loop hL hL2 513 0 X0e w2 (by omega) (Nat.zero_le _) hX2 hY ⟨Nat.zero_le _, Nat.zero_le _, fun k hk => absurd hk (Nat.not_lt_zero k)⟩
end LL
/-! what holds at the start -/
theorem arr_prim {s : State} {A : Array Value} {ty : FieldType} (h : (Cond.arrayClass ty).before A s = true) : ∃ cA, ArrOfT s cA ty ∧ s.vm.findClass ("[" ++ ty.toString) = some cA := by
  obtain ⟨c, k, comp, h1, h2, h3⟩ := Cond.arrayClass_spec h
  exact ⟨c, fun N z => ⟨(fun q hq => by cases hq), k, h2, comp, h3⟩, h1⟩
theorem arr_obj {s : State} {A : Array Value} {C : String} (h : (Cond.arrayOver (.object C)).before A s = true) : ∃ cA, ArrOfT s cA (.object C) ∧ va_RA s cA (.object C) := by
  obtain ⟨comp, c, k, h1, h2, h3, h4, h5⟩ := Cond.arrayOver_spec h
  exact ⟨c, fun N z => ⟨(fun q hq => by cases hq), k, h3, comp, h4⟩, k, comp, h3, h4, h1, h5⟩
theorem arr_arr {s : State} {A : Array Value} (h : (Cond.arrayOver (.array .int)).before A s = true) : ∃ cA, ArrOfT s cA (.array .int) ∧ s.vm.findClass ("[" ++ (FieldType.array .int).toString) = some cA := by
  obtain ⟨comp, c, k, h1, h2, h3, h4, h5⟩ := Jvm.Stand.arrayOver_specB h
  exact ⟨c, fun N z => ⟨(fun q hq => by cases hq), k, h3, comp, h4⟩, h5⟩
theorem nest_tbl : ∀ w ∈ nestW, w ∈ lw_tbl := by decide +kernel
theorem nest_on : ∀ w ∈ nestW, w.onTables = true := by decide +kernel
theorem Kt_start {p : Program} {s : State} {m : MethodId} {meth : Method} {c : Code} {b L : Nat} {xs : Nat → Int32} (C0 : lw_At p s m meth c b L xs) : ∃ g : GG, g.1 = s.heap.size ∧ g.2.2.2.2.1 = b ∧ g.2.2.2.2.2.1 = L ∧ Kt g s s.heap := by
  obtain ⟨hx, hb, hr, hml, hown, hts, hX, hbl, hlocks, hgv⟩ := id C0
  have hs := flat_of_before _ hgv
  have hA : ∀ a : Nat, a < s.heap.size → ¬ (fun q : Nat => s.heap.size ≤ q) a := fun a ha h => absurd ha (Nat.not_lt.mpr h)
  obtain ⟨c0, i0, k0⟩ := u_known (C := RX0) (T := TX0) (N := 4) (n := 4) hts inX0 (hts (.instantiable RX0 4) (by decide +kernel))
  obtain ⟨c1, i1, k1⟩ := u_known (C := RX1) (T := TX1) (N := 2) (n := 2) hts inX1 (hts (.instantiable RX1 2) (by decide +kernel))
  obtain ⟨c2, i2, k2⟩ := u_known (C := RX2) (T := TX2) (N := 3) (n := 3) hts inX2 (hts (.instantiable RX2 3) (by decide +kernel))
  obtain ⟨c3, i3, k3⟩ := u_known (C := RX3) (T := TX3) (N := 4) (n := 4) hts inX3 (hts (.instantiable RX3 4) (by decide +kernel))
  obtain ⟨c4, i4, k4⟩ := u_known (C := RX4) (T := TX4) (N := 2) (n := 2) hts inX4 (hts (.instantiable RX4 2) (by decide +kernel))
  obtain ⟨c5, i5, k5⟩ := u_known (C := RX5) (T := TX5) (N := 9) (n := 9) hts inX5 (hts (.instantiable RX5 9) (by decide +kernel))
  obtain ⟨c6, i6, k6⟩ := u_known (C := RX6) (T := TX6) (N := 2) (n := 2) hts inX6 (hts (.instantiable RX6 2) (by decide +kernel))
  obtain ⟨c7, i7, k7⟩ := u_known (C := RX7) (T := TX7) (N := 10) (n := 10) hts inX7 (hts (.instantiable RX7 10) (by decide +kernel))
  obtain ⟨c8, i8, k8⟩ := u_known (C := RX8) (T := TX8) (N := 26) (n := 26) hts inX8 (hts (.instantiable RX8 26) (by decide +kernel))
  obtain ⟨a0, r0, f0⟩ := arr_prim (hts (.arrayClass .int) (by decide +kernel))
  obtain ⟨a1, r1, f1⟩ := arr_prim (hts (.arrayClass .char) (by decide +kernel))
  have o2 := hts (.arrayOver (.object "JugglingRows$Row")) (by decide +kernel)
  have o3 := hts (.arrayOver (.object "JugglingRows$Stand")) (by decide +kernel)
  have o4 := hts (.arrayOver (.array .int)) (by decide +kernel)
  obtain ⟨a2, r2, f2⟩ := arr_obj o2
  obtain ⟨a3, r3, f3⟩ := arr_obj o3
  obtain ⟨a4, r4, f4⟩ := arr_arr o4
  obtain ⟨adK, adV, hSof, hev⟩ := vk_Sof (args := #[Value.ref b]) (s := s) (N := 1) (tm := fun _ => .string "JugglingRowsModel" 203) (len := [8]) (byt := [[120, 116, 115, 108, 98, 106, 99, 114]]) (A := fun q => s.heap.size ≤ q)
    (fun i hi => by obtain rfl : i = 0 := by omega
                    decide)
    (fun i hi => hs _ (by decide +kernel))
    (fun i hi => hs _ (by decide +kernel))
    (fun i hi => hs _ (by decide +kernel))
    (fun i hi => by
      obtain rfl : i = 0 := by omega
      exact hs (.eq (.length (.field (.string "JugglingRowsModel" 203) "java/lang/String" "value" "[B")) (.int 8)) (by decide +kernel))
    (fun i hi j hj => by
      obtain rfl : i = 0 := by omega
      have hj : j < 8 := hj
      rcases (by omega : j = 0 ∨ j = 1 ∨ j = 2 ∨ j = 3 ∨ j = 4 ∨ j = 5 ∨ j = 6 ∨ j = 7) with rfl | rfl | rfl | rfl | rfl | rfl | rfl | rfl
      · exact hs (.eq (.elem (.field (.string "JugglingRowsModel" 203) "java/lang/String" "value" "[B") (.int 0)) (.int 120)) (by decide +kernel)
      · exact hs (.eq (.elem (.field (.string "JugglingRowsModel" 203) "java/lang/String" "value" "[B") (.int 1)) (.int 116)) (by decide +kernel)
      · exact hs (.eq (.elem (.field (.string "JugglingRowsModel" 203) "java/lang/String" "value" "[B") (.int 2)) (.int 115)) (by decide +kernel)
      · exact hs (.eq (.elem (.field (.string "JugglingRowsModel" 203) "java/lang/String" "value" "[B") (.int 3)) (.int 108)) (by decide +kernel)
      · exact hs (.eq (.elem (.field (.string "JugglingRowsModel" 203) "java/lang/String" "value" "[B") (.int 4)) (.int 98)) (by decide +kernel)
      · exact hs (.eq (.elem (.field (.string "JugglingRowsModel" 203) "java/lang/String" "value" "[B") (.int 5)) (.int 106)) (by decide +kernel)
      · exact hs (.eq (.elem (.field (.string "JugglingRowsModel" 203) "java/lang/String" "value" "[B") (.int 6)) (.int 99)) (by decide +kernel)
      · exact hs (.eq (.elem (.field (.string "JugglingRowsModel" 203) "java/lang/String" "value" "[B") (.int 7)) (.int 114)) (by decide +kernel))
    (fun i j hi hj hij => absurd (show i = j by omega) hij) hA
  have hZ := va_Zof (A := fun q => s.heap.size ≤ q) (hts (.laysStatic "java/lang/String" "COMPACT_STRINGS" "Z") (by decide +kernel)) (hts (.initialized "java/lang/String") (by decide +kernel)) (va_eqt (hs (.eq (.static "java/lang/String" "COMPACT_STRINGS" "Z") (.int 1)) (by decide +kernel))) hA
  refine ⟨(s.heap.size, (fun k => ([c0, c1, c2, c3, c4, c5, c6, c7, c8] : List ClassId).getD k c0, fun k => if k = 0 then i0 else if k = 1 then i1 else if k = 2 then i2 else if k = 3 then i3 else if k = 4 then i4 else if k = 5 then i5 else if k = 6 then i6 else if k = 7 then i7 else i8), fun k => ([a0, a1, a2, a3, a4] : List ClassId).getD k a0, (adK 0, adV 0), (b, L, xs)), rfl, rfl, rfl, ⟨fun k q hq => ?_, fun k q hq => ?_⟩, ⟨⟨fun i hi => ?_, fun i j hi hj _ => by omega⟩, hZ⟩, vk_R.of (hts (.stringRef "JugglingRowsModel" 203 "xtslbjcr") (by decide +kernel)) (hev 0 (by decide)), hX, hbl, hA b hbl, ⟨fun w hw => va_Nw.of (nest_on w hw) (hts w (nest_tbl w hw)), va_AO.of o2, va_AO.of o3, o4⟩⟩
  · match k, hq with
    | 0, hq => cases hq; exact k0
    | 1, hq => cases hq; exact k1
    | 2, hq => cases hq; exact k2
    | 3, hq => cases hq; exact k3
    | 4, hq => cases hq; exact k4
    | 5, hq => cases hq; exact k5
    | 6, hq => cases hq; exact k6
    | 7, hq => cases hq; exact k7
    | 8, hq => cases hq; exact k8
    | k + 9, hq => simp [vwCl] at hq
  · match k, hq with
    | 0, hq => cases hq; exact ⟨r0, f0⟩
    | 1, hq => cases hq; exact ⟨r1, f1⟩
    | 2, hq => cases hq; exact ⟨r2, f2⟩
    | 3, hq => cases hq; exact ⟨r3, f3⟩
    | 4, hq => cases hq; exact ⟨r4, f4⟩
    | k + 5, hq => simp [tysG] at hq
  · obtain rfl : i = 0 := by omega
    exact hSof.1 0 hi
theorem whole_start {p : Program} {e : Env} {s : State} {m : MethodId} {below : List Frame} {meth : Method} {c : Code} (l : Launch) (hflags : l.flags = flags0) {b L : Nat} {xs : Nat → Int32} (hL : L ≤ 2048) (C0 : lw_At p s m meth c b L xs) : W p l e room_1 s m #[Value.ref b] below meth c s.heap [] 0 0 (lw_Z below #[Value.ref b] s) (entryFrame m ([Value.ref b] : List Value).toArray 4) := by
  obtain ⟨g, g1, g2, g3, hK⟩ := Kt_start C0
  obtain ⟨hx, hb, hr, hml, hown, hts, hX, hbl, hlocks, hgv⟩ := id C0
  have hl := lv_entry ([.ref b]) (n := 4) (Nat.le_of_ble_eq_true rfl)
  rw [lg_entry_eq]
  generalize (lg_sl ([.ref b]) ++ List.replicate (4 - (lg_sl ([.ref b])).length) Slot.unset).toArray = la at hl ⊢
  have hl : lv_has la 4 [(0, .ref b)] := hl
  have hV := law_main (g := g) (l := l) (bq := b) (w := fun _ => .inr (0, [])) g3 hL
  rw [g2] at hV
  have hLv : Lv la 4 [some (.ref b), none, none, none] := by
    refine ⟨rfl, hl, fun i v hi => ?_⟩
    match i, hi with
    | 0, hi => cases hi; rfl
    | 1, hi => cases hi
    | 2, hi => cases hi
    | 3, hi => cases hi
    | i + 4, hi => simp at hi
  have hW := hV p e s m #[Value.ref b] below meth c s.heap [] la ⟨hx, hb, hr, hlocks, hml, hown, fun w hw => hts w (wsL_law_in w hw), hK, by rw [g1]; exact Nat.le_refl _, fun hn => absurd hn (by decide)⟩ hLv (fun k q hq => by simp [wl] at hq) va_S.rf (by rw [g1])
  intro T hT X
  obtain ⟨t, a1, a2⟩ := hW T hT X
  exact ⟨t, a1, a2 rfl⟩
