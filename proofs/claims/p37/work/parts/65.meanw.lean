/-! the mean, walked -/
theorem wf_316 : Cond.constantFloat RX7 316 (1258291200) ∈ wsL_law := wd_r27 _ (List.mem_of_getElem? (i := 3) rfl)
theorem chk_all {k s : Nat} (h0 : 0 < k) (h48 : k ≤ 48) (hs : s ≤ 9 * k) : chkQ s k = true := by
  have go : ∀ a c, allB (fun k => allB (fun s => chkQ s (a + k + 1)) (9 * (a + k + 1) + 1)) c = true → a < k → k ≤ a + c → chkQ s k = true := by
    intro a c h h1 h2
    have q := allB_is h (k := k - a - 1) (by omega)
    have e : a + (k - a - 1) + 1 = k := by omega
    have q2 : allB (fun s => chkQ s k) (9 * k + 1) = true := by
      have : allB (fun s => chkQ s (a + (k - a - 1) + 1)) (9 * (a + (k - a - 1) + 1) + 1) = true := q
      rw [e] at this
      exact this
    exact allB_is (p := fun s => chkQ s k) (n := 9 * k + 1) q2 (by omega)
  rcases (by omega : k ≤ 16 ∨ (16 < k ∧ k ≤ 23) ∨ (23 < k ∧ k ≤ 28) ∨ (28 < k ∧ k ≤ 33) ∨ (33 < k ∧ k ≤ 37) ∨ (37 < k ∧ k ≤ 41) ∨ (41 < k ∧ k ≤ 45) ∨ 45 < k) with z | z | z | z | z | z | z | z
  · exact go 0 16 chk_t0 (by omega) (by omega)
  · exact go 16 7 chk_t1 (by omega) (by omega)
  · exact go 23 5 chk_t2 (by omega) (by omega)
  · exact go 28 5 chk_t3 (by omega) (by omega)
  · exact go 33 4 chk_t4 (by omega) (by omega)
  · exact go 37 4 chk_t5 (by omega) (by omega)
  · exact go 41 4 chk_t6 (by omega) (by omega)
  · exact go 45 3 chk_t7 (by omega) (by omega)
noncomputable def meaQ (N : StT) : UInt32 := FP.fdiv (FP.i2f (nI (thrownS N (sC N)))) (FP.i2f (nI (lenS N (sC N))))
noncomputable def meaA (N : StT) : Int32 := if sC N = 0 then -4 else (meaQ N).toInt32
section ME
variable {g : GG} {l : Launch} {w : HW} {n o p : Nat} {X : XT} {N : StT}
theorem nnB_is {r : UInt32} (h : nnB r = true) : vf_n32 r := by
  have q : r &&& 0x7fffffff ≤ 0x7f800000 := of_decide_eq_true h
  exact q
theorem lenS_ok (h : OkN N) : ∀ c, c ≤ sC N → c ≤ lenS N c ∧ lenS N c ≤ 8 * c ∧ thrownS N c ≤ 9 * lenS N c
  | 0, _ => ⟨Nat.le_refl _, Nat.le_refl _, Nat.le_refl _⟩
  | c + 1, hc => by
    obtain ⟨a1, a2, a3⟩ := lenS_ok h c (by omega)
    obtain ⟨b1, b2, b3⟩ := h.2 c (by omega)
    have b4 := sumN_le b3
    show c + 1 ≤ lenS N c + (sR N c).1 ∧ lenS N c + (sR N c).1 ≤ 8 * (c + 1) ∧ thrownS N c + sumN (sR N c).2 (sR N c).1 ≤ 9 * (lenS N c + (sR N c).1)
    omega
theorem c_bitsLoop2 {v0 R : Int32} {u0 : UInt32} : ∀ f v x i, i + f ≤ 100 → B2 f v x R = true → V g l MX7_bitsOf (rmd 0 0 0) (FinM g (qR (.int R) w n) 0 0) 42 [some (.float u0), some (.float v), some (.int x), some (.int (nI i))] [] (w) n 0 0 := by
  intro f
  induction f with
  | zero => intro v x i _ h; cases h
  | succ f ih =>
    intro v x i hi h
    rw [B2] at h
    refine V_iload_n (q := 43) dX7_bitsOf_42 rfl rfl ?_
    refine V_bipush (q := 45) (v := nI 126) dX7_bitsOf_43 rfl (by decide) ?_
    refine V_icmpN_ge (q := 48) (tgt := 67) dX7_bitsOf_45 (by decide) rfl (by omega) (by omega) (fun h9 => by first | exact h9.elim | exact absurd h9 (by assumption) | (exfalso; omega)) (fun _ => ?_)
    refine V_fload_n (q := 49) dX7_bitsOf_48 rfl rfl ?_
    refine V_fconst1 (q := 50) dX7_bitsOf_49 rfl ?_
    refine V_fcmp (q := 51) dX7_bitsOf_50 rfl rfl ?_
    refine V_if_ge (q := 54) (tgt := 67) dX7_bitsOf_51 (by decide) rfl (fun hc => ?_) (fun hc => ?_)
    · skip
      rw [if_pos hc] at h
      unfold finB at h
      rw [Bool.and_eq_true, Bool.and_eq_true] at h
      have h1 := nnB_is h.1
      have h2 := nnB_is h.2.1
      have h3 := of_decide_eq_true h.2.2
      refine V_iload_n (q := 68) dX7_bitsOf_67 rfl rfl ?_
      refine V_bipush (q := 70) (v := nI 23) dX7_bitsOf_68 rfl (by decide) ?_
      refine V_ishl (q := 71) dX7_bitsOf_70 rfl rfl ?_
      refine V_fload_n (q := 72) dX7_bitsOf_71 rfl rfl ?_
      refine V_fconst1 (q := 73) dX7_bitsOf_72 rfl ?_
      refine V_fsub (q := 74) dX7_bitsOf_73 rfl rfl (by assumption) ?_
      refine V_ldcf (q := 77) (v := 1258291200) dX7_bitsOf_74 rfl wf_316 ?_
      refine V_fmul (q := 78) dX7_bitsOf_77 rfl rfl (by assumption) ?_
      refine V_f2i (q := 79) dX7_bitsOf_78 rfl rfl ?_
      refine V_ior (q := 80) dX7_bitsOf_79 rfl h3 ?_
      exact V_iret dX7_bitsOf_80 rfl (Nat.le_of_ble_eq_true rfl) (Nat.le_of_ble_eq_true rfl) (⟨rfl, rfl, rfl⟩)
    · skip
      rw [if_neg hc, Bool.and_eq_true] at h
      have h1 := nnB_is h.1
      refine V_fload_n (q := 55) dX7_bitsOf_54 rfl rfl ?_
      refine V_fconst2 (q := 56) dX7_bitsOf_55 rfl ?_
      refine V_fmul (q := 57) dX7_bitsOf_56 rfl rfl (by assumption) ?_
      refine V_fstore_n (q := 58) (ls' := [_, _, _, _]) dX7_bitsOf_57 rfl (by decide) (by rfl) rfl ?_
      refine V_iinc (q := 61) (ls' := [_, _, _, _]) dX7_bitsOf_58 rfl (by decide) (by rfl) rfl rfl rfl ?_
      refine V_iinc (q := 64) (ls' := [_, _, _, _]) dX7_bitsOf_61 rfl (by decide) (by rfl) rfl (by first | exact inc1 _ | rfl) rfl ?_
      refine V_goto (tgt := 42) dX7_bitsOf_64 (by decide) ?_
      exact ih _ _ (i + 1) (by omega) h.2
theorem c_bitsLoop1 {R : Int32} {u0 : UInt32} : ∀ f v x i, i + f ≤ 100 → B1 f v x R = true → V g l MX7_bitsOf (rmd 0 0 0) (FinM g (qR (.int R) w n) 0 0) 15 [some (.float u0), some (.float v), some (.int x), some (.int (nI i))] [] (w) n 0 0 := by
  intro f
  induction f with
  | zero => intro v x i _ h; cases h
  | succ f ih =>
    intro v x i hi h
    rw [B1] at h
    refine V_iload_n (q := 16) dX7_bitsOf_15 rfl rfl ?_
    refine V_bipush (q := 18) (v := nI 127) dX7_bitsOf_16 rfl (by decide) ?_
    refine V_icmpN_ge (q := 21) (tgt := 40) dX7_bitsOf_18 (by decide) rfl (by omega) (by omega) (fun h9 => by first | exact h9.elim | exact absurd h9 (by assumption) | (exfalso; omega)) (fun _ => ?_)
    refine V_fload_n (q := 22) dX7_bitsOf_21 rfl rfl ?_
    refine V_fconst2 (q := 23) dX7_bitsOf_22 rfl ?_
    refine V_fcmp (q := 24) dX7_bitsOf_23 rfl rfl ?_
    refine V_if_lt (q := 27) (tgt := 40) dX7_bitsOf_24 (by decide) rfl (fun hc => ?_) (fun hc => ?_)
    · skip
      rw [if_pos hc] at h
      refine V_iconst (q := 41) (v := nI 0) dX7_bitsOf_40 rfl (by decide) ?_
      refine V_istore_n (q := 42) (ls' := [_, _, _, _]) dX7_bitsOf_41 rfl (by decide) (by rfl) rfl ?_
      exact c_bitsLoop2 (v0 := 0) 7 v x 0 (by decide) h
    · skip
      rw [if_neg hc, Bool.and_eq_true] at h
      have h1 := nnB_is h.1
      refine V_fload_n (q := 28) dX7_bitsOf_27 rfl rfl ?_
      refine V_fconst2 (q := 29) dX7_bitsOf_28 rfl ?_
      refine V_fdiv (q := 30) dX7_bitsOf_29 rfl rfl (by assumption) ?_
      refine V_fstore_n (q := 31) (ls' := [_, _, _, _]) dX7_bitsOf_30 rfl (by decide) (by rfl) rfl ?_
      refine V_iinc (q := 34) (ls' := [_, _, _, _]) dX7_bitsOf_31 rfl (by decide) (by rfl) rfl rfl rfl ?_
      refine V_iinc (q := 37) (ls' := [_, _, _, _]) dX7_bitsOf_34 rfl (by decide) (by rfl) rfl (by first | exact inc1 _ | rfl) rfl ?_
      refine V_goto (tgt := 15) dX7_bitsOf_37 (by decide) ?_
      exact ih _ _ (i + 1) (by omega) h.2
theorem c_bitsOf {v : UInt32} {R : Int32} (h : BB v R = true) : CtR g l MX7_bitsOf 0 [.float v] w n (.int R) := by
  unfold BB at h
  refine Ct.ofs (M := MX7_bitsOf) (ls := [some _, none, none, none]) (by decide +kernel) (by exact (Nat.le_of_ble_eq_true rfl)) (by rfl) (by rfl) (by rfl) ?_
  refine V_fload_n (q := 1) dX7_bitsOf_0 rfl rfl ?_
  refine V_fconst0 (q := 2) dX7_bitsOf_1 rfl ?_
  refine V_fcmp (q := 3) dX7_bitsOf_2 rfl rfl ?_
  refine V_if_gt (q := 6) (tgt := 8) dX7_bitsOf_3 (by decide) rfl (fun hc => ?_) (fun hc => ?_)
  · skip
    rw [if_pos hc] at h
    refine V_fload_n (q := 9) dX7_bitsOf_8 rfl rfl ?_
    refine V_fstore_n (q := 10) (ls' := [_, _, _, _]) dX7_bitsOf_9 rfl (by decide) (by rfl) rfl ?_
    refine V_bipush (q := 12) (v := nI 127) dX7_bitsOf_10 rfl (by decide) ?_
    refine V_istore_n (q := 13) (ls' := [_, _, _, _]) dX7_bitsOf_12 rfl (by decide) (by rfl) rfl ?_
    refine V_iconst (q := 14) (v := nI 0) dX7_bitsOf_13 rfl (by decide) ?_
    refine V_istore_n (q := 15) (ls' := [_, _, _, _]) dX7_bitsOf_14 rfl (by decide) (by rfl) rfl ?_
    exact c_bitsLoop1 5 v (nI 127) 0 (by decide) h
  · skip
    rw [if_neg hc] at h
    have e := of_decide_eq_true h
    refine V_iconst (q := 7) (v := nI 0) dX7_bitsOf_6 rfl (by decide) ?_
    exact V_iret dX7_bitsOf_7 rfl (Nat.le_of_ble_eq_true rfl) (Nat.le_of_ble_eq_true rfl) (⟨rfl, congrArg (fun q => some (Value.int q)) e, rfl⟩)
theorem c_isNaN {v : UInt32} (h : Op.cmpValue (FP.fcmp v v) .l = 0) : CtR g l MJxf58ca_isNaN_12338 0 [.float v] w n (.int 0) := by
  refine Ct.ofsF (M := MJxf58ca_isNaN_12338) (ls := [some _]) (by decide +kernel) (Nat.le_of_ble_eq_true rfl) (by rfl) (by rfl) (by rfl) ?_
  refine V_fload_n (q := 1) dJxf58ca_isNaN_12338_0 rfl rfl ?_
  refine V_fload_n (q := 2) dJxf58ca_isNaN_12338_1 rfl rfl ?_
  refine V_fcmp (q := 3) dJxf58ca_isNaN_12338_2 rfl h ?_
  refine V_if_eq (q := 6) (tgt := 10) dJxf58ca_isNaN_12338_3 (by decide) rfl (fun _ => ?_) (fun h9 => absurd rfl h9)
  refine V_iconst (q := 11) (v := nI 0) dJxf58ca_isNaN_12338_10 rfl (by decide) ?_
  exact V_zret dJxf58ca_isNaN_12338_11 rfl (rfl) (Nat.le_of_ble_eq_true rfl) (Nat.le_of_ble_eq_true rfl) (⟨rfl, rfl, rfl⟩)
theorem c_f2bits {v : UInt32} (h : Op.cmpValue (FP.fcmp v v) .l = 0) : CtR g l MJxf58ca_floatToIntBits_5c35a 1 [.float v] w n (.int v.toInt32) := by
  refine Ct.ofsF (M := MJxf58ca_floatToIntBits_5c35a) (ls := [some _]) (by decide +kernel) (Nat.le_of_ble_eq_true rfl) (by rfl) (by rfl) (by rfl) ?_
  refine V_fload_n (q := 1) dJxf58ca_floatToIntBits_5c35a_0 rfl rfl ?_
  refine CrJxf58ca_59 (q := 4) rfl dJxf58ca_floatToIntBits_5c35a_1 rfl (c_isNaN h) ⟨(Nat.le_of_ble_eq_true rfl), (Nat.le_of_ble_eq_true rfl)⟩ (Nat.le_of_ble_eq_true rfl) (Nat.zero_le _) (Nat.zero_le _) ?_
  refine V_if_ne (q := 7) (tgt := 12) dJxf58ca_floatToIntBits_5c35a_4 (by decide) rfl (fun h9 => absurd (by decide) h9) (fun _ => ?_)
  refine V_fload_n (q := 8) dJxf58ca_floatToIntBits_5c35a_7 rfl rfl ?_
  refine RJxf58ca_74 (q := 11) rfl dJxf58ca_floatToIntBits_5c35a_8 rfl (Nat.le_of_ble_eq_true rfl) (Nat.le_of_ble_eq_true rfl) ?_
  skip
  exact V_iret dJxf58ca_floatToIntBits_5c35a_11 rfl (Nat.le_of_ble_eq_true rfl) (Nat.le_of_ble_eq_true rfl) (⟨rfl, rfl, rfl⟩)
theorem chkQ_is {s k : Nat} (h : chkQ s k = true) : vf_n32 (FP.fdiv (FP.i2f (nI s)) (FP.i2f (nI k))) ∧ Op.cmpValue (FP.fcmp (FP.fdiv (FP.i2f (nI s)) (FP.i2f (nI k))) (FP.fdiv (FP.i2f (nI s)) (FP.i2f (nI k)))) .l = 0 ∧ BB (FP.fdiv (FP.i2f (nI s)) (FP.i2f (nI k))) (FP.fdiv (FP.i2f (nI s)) (FP.i2f (nI k))).toInt32 = true := by
  unfold chkQ at h
  rw [Bool.and_eq_true, Bool.and_eq_true] at h
  exact ⟨nnB_is h.1, of_decide_eq_true h.2.1, h.2.2⟩
theorem X_mean (h : XW g w n o X) : CtR g l MX7_mean 3 [rf g o] w n (.int (meaA (xN X))) := by
  obtain ⟨B, hX⟩ := h
  obtain ⟨h0, hS, h2, h3, h4, h5, h6, h7, h8, h9, h10⟩ := hX
  have hok := hS.okn
  obtain ⟨l1, l2, l3⟩ := lenS_ok hok (sC (xN X)) (Nat.le_refl _)
  have hc6 := hok.1
  obtain ⟨so, sn⟩ := hS.obj
  obtain ⟨G, π, LL, FF, hF⟩ := hS
  refine Ct.ofs (M := MX7_mean) (ls := [some _, none]) (by decide +kernel) (by exact (Nat.le_of_ble_eq_true rfl)) (by rfl) (by rfl) (by rfl) ?_
  refine V_aload_n (q := 1) dX7_mean_0 rfl rfl rfl ?_
  refine GX7_10 (q := 4) rfl dX7_mean_1 rfl (by first | assumption | exact up_eq | exact (up_ne (by omega)).trans (by first | assumption | exact up_eq | exact (up_ne (by omega)).trans (by first | assumption | exact up_eq | exact (up_ne (by omega)).trans (by first | assumption | exact up_eq)))) (by omega) (by rfl) ?_
  refine CrX7_221 (q := 7) rfl dX7_mean_4 rfl (c_countThrows hF) ⟨(Nat.le_of_ble_eq_true rfl), (Nat.le_of_ble_eq_true rfl)⟩ (Nat.le_of_ble_eq_true rfl) (by first | assumption | exact up_eq | exact (up_ne (by omega)).trans (by first | assumption | exact up_eq | exact (up_ne (by omega)).trans (by first | assumption | exact up_eq | exact (up_ne (by omega)).trans (by first | assumption | exact up_eq)))) (by omega) (Nat.zero_le _) (Nat.zero_le _) ?_
  by_cases hz : sC (xN X) = 0
  · rw [show meaA (xN X) = -4 from if_pos hz]
    refine V_istore_n (q := 8) (ls' := [_, _]) dX7_mean_7 rfl (by decide) (by rfl) rfl ?_
    refine V_iload_n (q := 9) dX7_mean_8 rfl rfl ?_
    refine V_ifN_gt (q := 12) (tgt := 15) dX7_mean_9 (by decide) rfl (by omega) (fun h9 => by first | exact h9.elim | exact absurd h9 (by assumption) | (exfalso; omega)) (fun _ => ?_)
    refine V_bipush (q := 14) (v := (-4)) dX7_mean_12 rfl (by decide) ?_
    exact V_iret dX7_mean_14 rfl (Nat.le_of_ble_eq_true rfl) (Nat.le_of_ble_eq_true rfl) (⟨rfl, rfl, rfl⟩)
  · rw [show meaA (xN X) = (meaQ (xN X)).toInt32 from if_neg hz]
    obtain ⟨q1, q2, q3⟩ := chkQ_is (chk_all (k := lenS (xN X) (sC (xN X))) (s := thrownS (xN X) (sC (xN X))) (by omega) (by omega) l3)
    refine V_istore_n (q := 8) (ls' := [_, _]) dX7_mean_7 rfl (by decide) (by rfl) rfl ?_
    refine V_iload_n (q := 9) dX7_mean_8 rfl rfl ?_
    refine V_ifN_gt (q := 12) (tgt := 15) dX7_mean_9 (by decide) rfl (by omega) (fun _ => ?_) (fun h9 => by first | exact h9.elim | (exfalso; omega))
    refine V_aload_n (q := 16) dX7_mean_15 rfl rfl rfl ?_
    refine GX7_10 (q := 19) rfl dX7_mean_16 rfl (by first | assumption | exact up_eq | exact (up_ne (by omega)).trans (by first | assumption | exact up_eq | exact (up_ne (by omega)).trans (by first | assumption | exact up_eq | exact (up_ne (by omega)).trans (by first | assumption | exact up_eq)))) (by omega) (by rfl) ?_
    refine CrX7_248 (q := 22) rfl dX7_mean_19 rfl (c_sumOfThrows hF) ⟨(Nat.le_of_ble_eq_true rfl), (Nat.le_of_ble_eq_true rfl)⟩ (Nat.le_of_ble_eq_true rfl) (by first | assumption | exact up_eq | exact (up_ne (by omega)).trans (by first | assumption | exact up_eq | exact (up_ne (by omega)).trans (by first | assumption | exact up_eq | exact (up_ne (by omega)).trans (by first | assumption | exact up_eq)))) (by omega) (Nat.zero_le _) (Nat.zero_le _) ?_
    refine V_i2f (q := 23) dX7_mean_22 rfl rfl ?_
    refine V_iload_n (q := 24) dX7_mean_23 rfl rfl ?_
    refine V_i2f (q := 25) dX7_mean_24 rfl rfl ?_
    refine V_fdiv (q := 26) dX7_mean_25 rfl rfl (by assumption) ?_
    refine CrX7_251 (q := 29) rfl dX7_mean_26 rfl (c_bitsOf q3) ⟨(Nat.le_of_ble_eq_true rfl), (Nat.le_of_ble_eq_true rfl)⟩ (Nat.le_of_ble_eq_true rfl) (Nat.zero_le _) (Nat.zero_le _) ?_
    skip
    exact V_iret dX7_mean_29 rfl (Nat.le_of_ble_eq_true rfl) (Nat.le_of_ble_eq_true rfl) (⟨rfl, rfl, rfl⟩)
end ME
