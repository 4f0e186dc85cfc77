def popc (x : Nat) : Nat := fb_ct (fun k => x.testBit k) 9
def ushI (x k : Int32) : Int32 := (x.toUInt32 >>> (k.toUInt32 &&& Int32.toUInt32 31)).toInt32
def bc1 (x : Int32) : Int32 := x - (ushI x (nI 1) &&& 1431655765)
def bc2 (x : Int32) : Int32 := (x &&& 858993459) + (ushI x (nI 2) &&& 858993459)
def bc3 (x : Int32) : Int32 := (x + ushI x (nI 4)) &&& 252645135
def bc4 (x : Int32) : Int32 := x + ushI x (nI 8)
def bc5 (x : Int32) : Int32 := x + ushI x (nI 16)
theorem bc_ok : ∀ x, x < 512 → bc5 (bc4 (bc3 (bc2 (bc1 (nI x))))) &&& nI 63 = nI (popc x) := by decide +kernel
theorem wk_265 : Cond.constant RJ6 265 (1431655765) ∈ wsL_law := wd_r10 _ (List.mem_of_getElem? (i := 8) rfl)
theorem wk_266 : Cond.constant RJ6 266 (858993459) ∈ wsL_law := wd_r10 _ (List.mem_of_getElem? (i := 9) rfl)
theorem wk_267 : Cond.constant RJ6 267 (252645135) ∈ wsL_law := wd_r10 _ (List.mem_of_getElem? (i := 10) rfl)
section ROW
variable {g : GG} {l : Launch} {w : HW} {n r L : Nat} {h : Nat → Nat} {F : Nat → Int32}
theorem c_bitCount {x : Nat} (hx : x < 512) : CtR g l MJ6_bitCount_0f7a4 0 [.int (nI x)] w n (.int (nI (popc x))) := by
  refine Ct.ofs (M := MJ6_bitCount_0f7a4) (ls := [some _]) (by decide +kernel) (by exact (Nat.le_of_ble_eq_true rfl)) (by rfl) (by rfl) (by rfl) ?_
  refine V_iload_n (q := 1) dJ6_bitCount_0f7a4_0 rfl rfl ?_
  refine V_iload_n (q := 2) dJ6_bitCount_0f7a4_1 rfl rfl ?_
  refine V_iconst (q := 3) (v := nI 1) dJ6_bitCount_0f7a4_2 rfl (by decide) ?_
  refine V_iushr (q := 4) dJ6_bitCount_0f7a4_3 rfl rfl ?_
  refine V_ldcw (q := 7) dJ6_bitCount_0f7a4_4 rfl wk_265 ?_
  refine V_iand (q := 8) dJ6_bitCount_0f7a4_7 rfl rfl ?_
  refine V_isub (q := 9) dJ6_bitCount_0f7a4_8 rfl rfl ?_
  refine V_istore_n (q := 10) (ls' := [_]) dJ6_bitCount_0f7a4_9 rfl (by decide) (by rfl) rfl ?_
  refine V_iload_n (q := 11) dJ6_bitCount_0f7a4_10 rfl rfl ?_
  refine V_ldcw (q := 14) dJ6_bitCount_0f7a4_11 rfl wk_266 ?_
  refine V_iand (q := 15) dJ6_bitCount_0f7a4_14 rfl rfl ?_
  refine V_iload_n (q := 16) dJ6_bitCount_0f7a4_15 rfl rfl ?_
  refine V_iconst (q := 17) (v := nI 2) dJ6_bitCount_0f7a4_16 rfl (by decide) ?_
  refine V_iushr (q := 18) dJ6_bitCount_0f7a4_17 rfl rfl ?_
  refine V_ldcw (q := 21) dJ6_bitCount_0f7a4_18 rfl wk_266 ?_
  refine V_iand (q := 22) dJ6_bitCount_0f7a4_21 rfl rfl ?_
  refine V_iadd (q := 23) dJ6_bitCount_0f7a4_22 rfl rfl ?_
  refine V_istore_n (q := 24) (ls' := [_]) dJ6_bitCount_0f7a4_23 rfl (by decide) (by rfl) rfl ?_
  refine V_iload_n (q := 25) dJ6_bitCount_0f7a4_24 rfl rfl ?_
  refine V_iload_n (q := 26) dJ6_bitCount_0f7a4_25 rfl rfl ?_
  refine V_iconst (q := 27) (v := nI 4) dJ6_bitCount_0f7a4_26 rfl (by decide) ?_
  refine V_iushr (q := 28) dJ6_bitCount_0f7a4_27 rfl rfl ?_
  refine V_iadd (q := 29) dJ6_bitCount_0f7a4_28 rfl rfl ?_
  refine V_ldcw (q := 32) dJ6_bitCount_0f7a4_29 rfl wk_267 ?_
  refine V_iand (q := 33) dJ6_bitCount_0f7a4_32 rfl rfl ?_
  refine V_istore_n (q := 34) (ls' := [_]) dJ6_bitCount_0f7a4_33 rfl (by decide) (by rfl) rfl ?_
  refine V_iload_n (q := 35) dJ6_bitCount_0f7a4_34 rfl rfl ?_
  refine V_iload_n (q := 36) dJ6_bitCount_0f7a4_35 rfl rfl ?_
  refine V_bipush (q := 38) (v := nI 8) dJ6_bitCount_0f7a4_36 rfl (by decide) ?_
  refine V_iushr (q := 39) dJ6_bitCount_0f7a4_38 rfl rfl ?_
  refine V_iadd (q := 40) dJ6_bitCount_0f7a4_39 rfl rfl ?_
  refine V_istore_n (q := 41) (ls' := [_]) dJ6_bitCount_0f7a4_40 rfl (by decide) (by rfl) rfl ?_
  refine V_iload_n (q := 42) dJ6_bitCount_0f7a4_41 rfl rfl ?_
  refine V_iload_n (q := 43) dJ6_bitCount_0f7a4_42 rfl rfl ?_
  refine V_bipush (q := 45) (v := nI 16) dJ6_bitCount_0f7a4_43 rfl (by decide) ?_
  refine V_iushr (q := 46) dJ6_bitCount_0f7a4_45 rfl rfl ?_
  refine V_iadd (q := 47) dJ6_bitCount_0f7a4_46 rfl rfl ?_
  refine V_istore_n (q := 48) (ls' := [_]) dJ6_bitCount_0f7a4_47 rfl (by decide) (by rfl) rfl ?_
  refine V_iload_n (q := 49) dJ6_bitCount_0f7a4_48 rfl rfl ?_
  refine V_bipush (q := 51) (v := nI 63) dJ6_bitCount_0f7a4_49 rfl (by decide) ?_
  refine V_iand (q := 52) dJ6_bitCount_0f7a4_51 rfl rfl ?_
  exact V_iret dJ6_bitCount_0f7a4_52 rfl (Nat.le_of_ble_eq_true rfl) (Nat.le_of_ble_eq_true rfl) (⟨rfl, congrArg (fun z => some (Value.int z)) (bc_ok x hx), rfl⟩)
theorem c_stateAt (hR : RwF g w n r L F) (hF : Fh F L h) (hL0 : 0 < L) {b : Nat} (hb : b < L) : CtR g l MX4_stateAt 1 [rf g r, .int (nI b)] w n (.int (nI (stN h L b))) := by
  have hR0 := hR
  obtain ⟨h0, h1, hn, hL⟩ := hR
  have hst := fun i => stA_lt (b := b) hL0 (fun i hi => (hF i hi).2) i
  have e0 : srcN L b 0 = b := by
    unfold srcN
    rw [Nat.sub_zero, Nat.add_mul_mod_self_right]
    exact Nat.mod_eq_of_lt hb
  refine Ct.ofs (M := MX4_stateAt) (ls := [some _, some _, none, none, none, none]) (by decide +kernel) (by exact (Nat.le_of_ble_eq_true rfl)) (by rfl) (by rfl) (by rfl) ?_
  refine V_iconst (q := 1) (v := nI 0) dX4_stateAt_0 rfl (by decide) ?_
  refine V_istore_n (q := 2) (ls' := [_, _, _, _, _, _]) dX4_stateAt_1 rfl (by decide) (by rfl) rfl ?_
  refine V_iload_n (q := 3) dX4_stateAt_2 rfl rfl ?_
  refine V_istore_n (q := 4) (ls' := [_, _, _, _, _, _]) dX4_stateAt_3 rfl (by decide) (by rfl) rfl ?_
  refine V_iconst (q := 5) (v := nI 1) dX4_stateAt_4 rfl (by decide) ?_
  refine V_istore (q := 7) (ls' := [_, _, _, _, _, _]) dX4_stateAt_5 rfl (by decide) (by rfl) rfl ?_
  suffices hs : V g l MX4_stateAt (rmd 1 0 0) (FinM g (qR (.int (nI (stN h L b))) w n) 0 0) 7 [some (rf g r), some (.int (nI b)), some (.int (nI (stA h L b 0))), some (.int (nI (srcN L b 0))), some (.int (nI (0 + 1))), none] [] (w) n 0 0 by
    rw [e0] at hs
    exact hs
  refine loopU (fun i => V g l MX4_stateAt (rmd 1 0 0) (FinM g (qR (.int (nI (stN h L b))) w n) 0 0) 7 [some (rf g r), some (.int (nI b)), some (.int (nI (stA h L b i))), some (.int (nI (srcN L b i))), some (.int (nI (i + 1))), none] [] (w) n 0 0) 9 ?_ ?_ 0 (Nat.zero_le _)
  · skip
    refine V_iload (q := 9) dX4_stateAt_7 rfl rfl ?_
    refine V_bipush (q := 11) (v := nI 9) dX4_stateAt_9 rfl (by decide) ?_
    refine V_icmpN_gt (q := 14) (tgt := 59) dX4_stateAt_11 (by decide) rfl (by omega) (by omega) (fun _ => ?_) (fun h9 => by first | exact h9.elim | (exfalso; omega))
    refine V_iload_n (q := 60) dX4_stateAt_59 rfl rfl ?_
    exact V_iret dX4_stateAt_60 rfl (Nat.le_of_ble_eq_true rfl) (Nat.le_of_ble_eq_true rfl) (⟨rfl, rfl, rfl⟩)
  · intro i hi ih
    have hs1 := srcN_lt (b := b) (k := i) hL0
    have hs2 := srcN_lt (b := b) (k := i + 1) hL0
    have hs3 := srcN_step (b := b) hL0 hi
    have hh := (hF _ hs2).2
    refine V_iload (q := 9) dX4_stateAt_7 rfl rfl ?_
    refine V_bipush (q := 11) (v := nI 9) dX4_stateAt_9 rfl (by decide) ?_
    refine V_icmpN_gt (q := 14) (tgt := 59) dX4_stateAt_11 (by decide) rfl (by omega) (by omega) (fun h9 => by first | exact h9.elim | exact absurd h9 (by assumption) | (exfalso; omega)) (fun _ => ?_)
    have join : V g l MX4_stateAt (rmd 1 0 0) (FinM g (qR (.int (nI (stN h L b))) w n) 0 0) 30 [some (rf g r), some (.int (nI b)), some (.int (nI (stA h L b i))), some (.int (nI (srcN L b i))), some (.int (nI (i + 1))), none] [.int (nI (srcN L b (i + 1)))] (w) n 0 0 := by
      refine V_istore_n (q := 31) (ls' := [_, _, _, _, _, _]) dX4_stateAt_30 rfl (by decide) (by rfl) rfl ?_
      refine V_aload_n (q := 32) dX4_stateAt_31 rfl rfl rfl ?_
      refine V_iload_n (q := 33) dX4_stateAt_32 rfl rfl ?_
      refine CrX4_29 (q := 36) rfl dX4_stateAt_33 rfl (c_heightAt hR0 hF hs2) ⟨(Nat.le_of_ble_eq_true rfl), (Nat.le_of_ble_eq_true rfl)⟩ (Nat.le_of_ble_eq_true rfl) (by first | assumption | exact up_eq | exact (up_ne (by omega)).trans (by first | assumption | exact up_eq | exact (up_ne (by omega)).trans (by first | assumption | exact up_eq | exact (up_ne (by omega)).trans (by first | assumption | exact up_eq)))) (by omega) (Nat.zero_le _) (Nat.zero_le _) ?_
      by_cases hk : i + 1 ≤ h (srcN L b (i + 1))
      · skip
        have e : stA h L b (i + 1) = stA h L b i ||| 2 ^ (h (srcN L b (i + 1)) - (i + 1)) := by rw [stA, stB, if_pos hk]
        refine V_iload (q := 38) dX4_stateAt_36 rfl rfl ?_
        refine V_isub (q := 39) dX4_stateAt_38 rfl (pk_sub hk) ?_
        refine V_istore (q := 41) (ls' := [_, _, _, _, _, _]) dX4_stateAt_39 rfl (by decide) (by rfl) rfl ?_
        refine V_iload (q := 43) dX4_stateAt_41 rfl rfl ?_
        refine V_ifN_lt (q := 46) (tgt := 53) dX4_stateAt_43 (by decide) rfl (by omega) (fun h9 => by first | exact h9.elim | exact absurd h9 (by assumption) | (exfalso; omega)) (fun _ => ?_)
        refine V_iload_n (q := 47) dX4_stateAt_46 rfl rfl ?_
        refine V_iconst (q := 48) (v := nI 1) dX4_stateAt_47 rfl (by decide) ?_
        refine V_iload (q := 50) dX4_stateAt_48 rfl rfl ?_
        refine V_ishl (q := 51) dX4_stateAt_50 rfl (shl1 (by omega)) ?_
        refine V_ior (q := 52) dX4_stateAt_51 rfl ((fa_or _ _).trans (congrArg nI e.symm)) ?_
        refine V_istore_n (q := 53) (ls' := [_, _, _, _, _, _]) dX4_stateAt_52 rfl (by decide) (by rfl) rfl ?_
        refine V_iinc (q := 56) (ls' := [_, _, _, _, _, _]) dX4_stateAt_53 rfl (by decide) (by rfl) rfl (by first | exact inc1 _ | rfl) rfl ?_
        refine V_goto (tgt := 7) dX4_stateAt_56 (by decide) ?_
        refine V_fg 5 (ls2 := [_, _, _, _, _, none]) (by rfl) ?_
        exact ih
      · skip
        have e : stA h L b (i + 1) = stA h L b i := by rw [stA, stB, if_neg hk, Nat.or_zero]
        refine V_iload (q := 38) dX4_stateAt_36 rfl rfl ?_
        refine V_isub (q := 39) dX4_stateAt_38 rfl rfl ?_
        refine V_istore (q := 41) (ls' := [_, _, _, _, _, _]) dX4_stateAt_39 rfl (by decide) (by rfl) rfl ?_
        refine V_iload (q := 43) dX4_stateAt_41 rfl rfl ?_
        refine V_if_lt (q := 46) (tgt := 53) dX4_stateAt_43 (by decide) rfl (fun _ => ?_) (fun h9 => absurd (pk_sneg (by omega) (by omega)) h9)
        refine V_iinc (q := 56) (ls' := [_, _, _, _, _, _]) dX4_stateAt_53 rfl (by decide) (by rfl) rfl (by first | exact inc1 _ | rfl) rfl ?_
        refine V_goto (tgt := 7) dX4_stateAt_56 (by decide) ?_
        refine V_fg 5 (ls2 := [_, _, _, _, _, none]) (by rfl) ?_
        rw [e] at ih
        exact ih
    refine V_iload_n (q := 15) dX4_stateAt_14 rfl rfl ?_
    refine V_ifN_le (q := 18) (tgt := 24) dX4_stateAt_15 (by decide) rfl (by omega) (fun hc => ?_) (fun hc => ?_)
    · skip
      refine V_aload_n (q := 25) dX4_stateAt_24 rfl rfl rfl ?_
      refine GX4_15 (q := 28) rfl dX4_stateAt_25 rfl (by first | assumption | exact up_eq | exact (up_ne (by omega)).trans (by first | assumption | exact up_eq | exact (up_ne (by omega)).trans (by first | assumption | exact up_eq | exact (up_ne (by omega)).trans (by first | assumption | exact up_eq)))) (by omega) (by rfl) ?_
      refine V_iconst (q := 29) (v := nI 1) dX4_stateAt_28 rfl (by decide) ?_
      refine V_isub (q := 30) dX4_stateAt_29 rfl (by first | exact pk_sub (by omega) | rfl) ?_
      rw [hs3, if_neg (by omega)] at join
      exact join
    · skip
      refine V_iload_n (q := 19) dX4_stateAt_18 rfl rfl ?_
      refine V_iconst (q := 20) (v := nI 1) dX4_stateAt_19 rfl (by decide) ?_
      refine V_isub (q := 21) dX4_stateAt_20 rfl (by first | exact pk_sub (by omega) | rfl) ?_
      refine V_goto (tgt := 30) dX4_stateAt_21 (by decide) ?_
      rw [hs3, if_pos hc] at join
      exact join
theorem c_repeatsBy (hR : RwF g w n r L F) (hF : Fh F L h) {m : Nat} (hm : m ≤ L) : CtR g l MX4_repeatsBy 1 [rf g r, .int (nI m)] w n (.int (@ite _ (RepN h L m) (Classical.propDecidable _) 1 0)) := by
  have hR0 := hR
  obtain ⟨h0, h1, hn, hL⟩ := hR
  refine Ct.ofs (M := MX4_repeatsBy) (ls := [some _, some _, none]) (by decide +kernel) (by exact (Nat.le_of_ble_eq_true rfl)) (by rfl) (by rfl) (by rfl) ?_
  refine V_iconst (q := 1) (v := nI 0) dX4_repeatsBy_0 rfl (by decide) ?_
  refine V_istore_n (q := 2) (ls' := [_, _, _]) dX4_repeatsBy_1 rfl (by decide) (by rfl) rfl ?_
  have key : ∀ i, i ≤ L - m → (∀ k, k < i → h k = h (k + m)) → V g l MX4_repeatsBy (rmd 1 0 0) (FinM g (qR (.int (@ite _ (RepN h L m) (Classical.propDecidable _) 1 0)) w n) 0 0) 2 [some (rf g r), some (.int (nI m)), some (.int (nI i))] [] (w) n 0 0 := by
    refine loopU (fun i => (∀ k, k < i → h k = h (k + m)) → V g l MX4_repeatsBy (rmd 1 0 0) (FinM g (qR (.int (@ite _ (RepN h L m) (Classical.propDecidable _) 1 0)) w n) 0 0) 2 [some (rf g r), some (.int (nI m)), some (.int (nI i))] [] (w) n 0 0) (L - m) ?_ ?_
    · intro hk
      refine V_iload_n (q := 3) dX4_repeatsBy_2 rfl rfl ?_
      refine V_iload_n (q := 4) dX4_repeatsBy_3 rfl rfl ?_
      refine V_iadd (q := 5) dX4_repeatsBy_4 rfl (by first | exact nI_add _ _ | rfl) ?_
      refine V_aload_n (q := 6) dX4_repeatsBy_5 rfl rfl rfl ?_
      refine GX4_15 (q := 9) rfl dX4_repeatsBy_6 rfl (by first | assumption | exact up_eq | exact (up_ne (by omega)).trans (by first | assumption | exact up_eq | exact (up_ne (by omega)).trans (by first | assumption | exact up_eq | exact (up_ne (by omega)).trans (by first | assumption | exact up_eq)))) (by omega) (by rfl) ?_
      refine V_icmpN_ge (q := 12) (tgt := 35) dX4_repeatsBy_9 (by decide) rfl (by omega) (by omega) (fun _ => ?_) (fun h9 => by first | exact h9.elim | (exfalso; omega))
      refine V_iconst (q := 36) (v := nI 1) dX4_repeatsBy_35 rfl (by decide) ?_
      exact V_zret dX4_repeatsBy_36 rfl (rfl) (Nat.le_of_ble_eq_true rfl) (Nat.le_of_ble_eq_true rfl) (⟨rfl, by rw [if_pos (show RepN h L m from fun b hb => hk b (by omega))]; rfl, rfl⟩)
    · intro i hi ih hk
      have e1 := (hF i (by omega)).2
      have e2 := (hF (i + m) (by omega)).2
      refine V_iload_n (q := 3) dX4_repeatsBy_2 rfl rfl ?_
      refine V_iload_n (q := 4) dX4_repeatsBy_3 rfl rfl ?_
      refine V_iadd (q := 5) dX4_repeatsBy_4 rfl (by first | exact nI_add _ _ | rfl) ?_
      refine V_aload_n (q := 6) dX4_repeatsBy_5 rfl rfl rfl ?_
      refine GX4_15 (q := 9) rfl dX4_repeatsBy_6 rfl (by first | assumption | exact up_eq | exact (up_ne (by omega)).trans (by first | assumption | exact up_eq | exact (up_ne (by omega)).trans (by first | assumption | exact up_eq | exact (up_ne (by omega)).trans (by first | assumption | exact up_eq)))) (by omega) (by rfl) ?_
      refine V_icmpN_ge (q := 12) (tgt := 35) dX4_repeatsBy_9 (by decide) rfl (by omega) (by omega) (fun h9 => by first | exact h9.elim | exact absurd h9 (by assumption) | (exfalso; omega)) (fun _ => ?_)
      refine V_aload_n (q := 13) dX4_repeatsBy_12 rfl rfl rfl ?_
      refine V_iload_n (q := 14) dX4_repeatsBy_13 rfl rfl ?_
      refine CrX4_29 (q := 17) rfl dX4_repeatsBy_14 rfl (c_heightAt hR0 hF (by omega)) ⟨(Nat.le_of_ble_eq_true rfl), (Nat.le_of_ble_eq_true rfl)⟩ (Nat.le_of_ble_eq_true rfl) (by first | assumption | exact up_eq | exact (up_ne (by omega)).trans (by first | assumption | exact up_eq | exact (up_ne (by omega)).trans (by first | assumption | exact up_eq | exact (up_ne (by omega)).trans (by first | assumption | exact up_eq)))) (by omega) (Nat.zero_le _) (Nat.zero_le _) ?_
      refine V_aload_n (q := 18) dX4_repeatsBy_17 rfl rfl rfl ?_
      refine V_iload_n (q := 19) dX4_repeatsBy_18 rfl rfl ?_
      refine V_iload_n (q := 20) dX4_repeatsBy_19 rfl rfl ?_
      refine V_iadd (q := 21) dX4_repeatsBy_20 rfl (by first | exact nI_add _ _ | rfl) ?_
      refine CrX4_29 (q := 24) rfl dX4_repeatsBy_21 rfl (c_heightAt hR0 hF (by omega)) ⟨(Nat.le_of_ble_eq_true rfl), (Nat.le_of_ble_eq_true rfl)⟩ (Nat.le_of_ble_eq_true rfl) (by first | assumption | exact up_eq | exact (up_ne (by omega)).trans (by first | assumption | exact up_eq | exact (up_ne (by omega)).trans (by first | assumption | exact up_eq | exact (up_ne (by omega)).trans (by first | assumption | exact up_eq)))) (by omega) (Nat.zero_le _) (Nat.zero_le _) ?_
      refine V_icmpN_eq (q := 27) (tgt := 29) dX4_repeatsBy_24 (by decide) rfl (by omega) (by omega) (fun hc => ?_) (fun hc => ?_)
      · skip
        refine V_iinc (q := 32) (ls' := [_, _, _]) dX4_repeatsBy_29 rfl (by decide) (by rfl) rfl (by first | exact inc1 _ | rfl) rfl ?_
        refine V_goto (tgt := 2) dX4_repeatsBy_32 (by decide) ?_
        refine ih fun k hk2 => ?_
        rcases Nat.lt_or_ge k i with q | q
        · exact hk k q
        · obtain rfl : k = i := by omega
          exact hc
      · skip
        refine V_iconst (q := 28) (v := nI 0) dX4_repeatsBy_27 rfl (by decide) ?_
        exact V_zret dX4_repeatsBy_28 rfl (rfl) (Nat.le_of_ble_eq_true rfl) (Nat.le_of_ble_eq_true rfl) (⟨rfl, by rw [if_neg (fun q => hc (q i (by omega)))]; rfl, rfl⟩)
  exact key 0 (Nat.zero_le _) (fun k hk => absurd hk (Nat.not_lt_zero k))
theorem c_period (hR : RwF g w n r L F) (hF : Fh F L h) (hL0 : 0 < L) : CtR g l MX4_period 2 [rf g r] w n (.int (nI (perN h L))) := by
  have hR0 := hR
  obtain ⟨h0, h1, hn, hL⟩ := hR
  refine Ct.ofs (M := MX4_period) (ls := [some _, none]) (by decide +kernel) (by exact (Nat.le_of_ble_eq_true rfl)) (by rfl) (by rfl) (by rfl) ?_
  refine V_iconst (q := 1) (v := nI 1) dX4_period_0 rfl (by decide) ?_
  refine V_istore_n (q := 2) (ls' := [_, _]) dX4_period_1 rfl (by decide) (by rfl) rfl ?_
  have key : ∀ m, m ≤ L → 0 < m → (∀ k, k < m → ¬ PerN h L k) → V g l MX4_period (rmd 2 0 0) (FinM g (qR (.int (nI (perN h L))) w n) 0 0) 2 [some (rf g r), some (.int (nI m))] [] (w) n 0 0 := by
    refine loopU (fun m => 0 < m → (∀ k, k < m → ¬ PerN h L k) → V g l MX4_period (rmd 2 0 0) (FinM g (qR (.int (nI (perN h L))) w n) 0 0) 2 [some (rf g r), some (.int (nI m))] [] (w) n 0 0) L ?_ ?_
    · intro hm hk
      refine V_iload_n (q := 3) dX4_period_2 rfl rfl ?_
      refine V_aload_n (q := 4) dX4_period_3 rfl rfl rfl ?_
      refine GX4_15 (q := 7) rfl dX4_period_4 rfl (by first | assumption | exact up_eq | exact (up_ne (by omega)).trans (by first | assumption | exact up_eq | exact (up_ne (by omega)).trans (by first | assumption | exact up_eq | exact (up_ne (by omega)).trans (by first | assumption | exact up_eq)))) (by omega) (by rfl) ?_
      refine V_icmpN_ge (q := 10) (tgt := 35) dX4_period_7 (by decide) rfl (by omega) (by omega) (fun _ => ?_) (fun h9 => by first | exact h9.elim | (exfalso; omega))
      refine V_aload_n (q := 36) dX4_period_35 rfl rfl rfl ?_
      refine GX4_15 (q := 39) rfl dX4_period_36 rfl (by first | assumption | exact up_eq | exact (up_ne (by omega)).trans (by first | assumption | exact up_eq | exact (up_ne (by omega)).trans (by first | assumption | exact up_eq | exact (up_ne (by omega)).trans (by first | assumption | exact up_eq)))) (by omega) (by rfl) ?_
      exact V_iret dX4_period_39 rfl (Nat.le_of_ble_eq_true rfl) (Nat.le_of_ble_eq_true rfl) (⟨rfl, by rw [perN_is (PerN_L h hL0) hk], rfl⟩)
    · intro m hmL ih hm hk
      have hmod := Nat.mod_lt L hm
      refine V_iload_n (q := 3) dX4_period_2 rfl rfl ?_
      refine V_aload_n (q := 4) dX4_period_3 rfl rfl rfl ?_
      refine GX4_15 (q := 7) rfl dX4_period_4 rfl (by first | assumption | exact up_eq | exact (up_ne (by omega)).trans (by first | assumption | exact up_eq | exact (up_ne (by omega)).trans (by first | assumption | exact up_eq | exact (up_ne (by omega)).trans (by first | assumption | exact up_eq)))) (by omega) (by rfl) ?_
      refine V_icmpN_ge (q := 10) (tgt := 35) dX4_period_7 (by decide) rfl (by omega) (by omega) (fun h9 => by first | exact h9.elim | exact absurd h9 (by assumption) | (exfalso; omega)) (fun _ => ?_)
      refine V_aload_n (q := 11) dX4_period_10 rfl rfl rfl ?_
      refine GX4_15 (q := 14) rfl dX4_period_11 rfl (by first | assumption | exact up_eq | exact (up_ne (by omega)).trans (by first | assumption | exact up_eq | exact (up_ne (by omega)).trans (by first | assumption | exact up_eq | exact (up_ne (by omega)).trans (by first | assumption | exact up_eq)))) (by omega) (by rfl) ?_
      refine V_iload_n (q := 15) dX4_period_14 rfl rfl ?_
      refine V_irem (q := 16) dX4_period_15 rfl (nI_ne0 (by omega) (by omega)) (by first | exact pk_rem (by omega) (by omega) (by omega) | rfl) ?_
      have nxt : ¬ PerN h L m → V g l MX4_period (rmd 2 0 0) (FinM g (qR (.int (nI (perN h L))) w n) 0 0) 29 [some (rf g r), some (.int (nI m))] [] (w) n 0 0 := by
        intro hno
        refine V_iinc (q := 32) (ls' := [_, _]) dX4_period_29 rfl (by decide) (by rfl) rfl (by first | exact inc1 _ | rfl) rfl ?_
        refine V_goto (tgt := 2) dX4_period_32 (by decide) ?_
        refine ih (by omega) fun k hk2 => ?_
        rcases Nat.lt_or_ge k m with q | q
        · exact hk k q
        · obtain rfl : k = m := by omega
          exact hno
      refine V_ifN_ne (q := 19) (tgt := 29) dX4_period_16 (by decide) rfl (by omega) (fun hc => ?_) (fun hc => ?_)
      · skip
        exact nxt (fun q => hc q.2.2.1)
      · skip
        refine V_aload_n (q := 20) dX4_period_19 rfl rfl rfl ?_
        refine V_iload_n (q := 21) dX4_period_20 rfl rfl ?_
        refine CrX4_50 (q := 24) rfl dX4_period_21 rfl (c_repeatsBy hR0 hF (by omega)) ⟨(Nat.le_of_ble_eq_true rfl), (Nat.le_of_ble_eq_true rfl)⟩ (Nat.le_of_ble_eq_true rfl) (by first | assumption | exact up_eq | exact (up_ne (by omega)).trans (by first | assumption | exact up_eq | exact (up_ne (by omega)).trans (by first | assumption | exact up_eq | exact (up_ne (by omega)).trans (by first | assumption | exact up_eq)))) (by omega) (Nat.zero_le _) (Nat.zero_le _) ?_
        by_cases hrep : RepN h L m
        · skip
          refine V_topi (if_pos hrep) ?_
          refine V_if_eq (q := 27) (tgt := 29) dX4_period_24 (by decide) rfl (fun h9 => absurd h9 (by decide)) (fun _ => ?_)
          refine V_iload_n (q := 28) dX4_period_27 rfl rfl ?_
          exact V_iret dX4_period_28 rfl (Nat.le_of_ble_eq_true rfl) (Nat.le_of_ble_eq_true rfl) (⟨rfl, by rw [perN_is ⟨hm, by omega, hc, hrep⟩ hk], rfl⟩)
        · skip
          refine V_topi (if_neg hrep) ?_
          refine V_if_eq (q := 27) (tgt := 29) dX4_period_24 (by decide) rfl (fun _ => ?_) (fun h9 => absurd rfl h9)
          exact nxt (fun q => hrep q.2.2.2)
  exact key 1 hL0 (by omega) (fun k hk q => absurd q.1 (by omega))
theorem c_statesDiffer (hR : RwF g w n r L F) (hF : Fh F L h) (hL0 : 0 < L) : CtR g l MX4_statesDiffer 3 [rf g r] w n (.int (primI h L)) := by
  have hR0 := hR
  obtain ⟨h0, h1, hn, hL⟩ := hR
  have hp := perN_ok (h := h) hL0
  have hp2 := hp.2.1
  have hst := fun b => stN_lt (b := b) hL0 (fun i hi => (hF i hi).2)
  refine Ct.ofs (M := MX4_statesDiffer) (ls := [some _, none, none, none]) (by decide +kernel) (by exact (Nat.le_of_ble_eq_true rfl)) (by rfl) (by rfl) (by rfl) ?_
  refine V_aload_n (q := 1) dX4_statesDiffer_0 rfl rfl rfl ?_
  refine CrX4_42 (q := 4) rfl dX4_statesDiffer_1 rfl (c_marks hR0 hF hL0) ⟨(Nat.le_of_ble_eq_true rfl), (Nat.le_of_ble_eq_true rfl)⟩ (Nat.le_of_ble_eq_true rfl) (by first | assumption | exact up_eq | exact (up_ne (by omega)).trans (by first | assumption | exact up_eq | exact (up_ne (by omega)).trans (by first | assumption | exact up_eq | exact (up_ne (by omega)).trans (by first | assumption | exact up_eq)))) (by omega) (Nat.zero_le _) (Nat.zero_le _) ?_
  by_cases hcl : clN h L = L
  · skip
    refine V_topi (if_pos hcl) ?_
    refine V_if_ne (q := 7) (tgt := 10) dX4_statesDiffer_4 (by decide) rfl (fun _ => ?_) (fun h9 => absurd h9 (by decide))
    refine V_aload_n (q := 11) dX4_statesDiffer_10 rfl rfl rfl ?_
    refine CrX4_54 (q := 14) rfl dX4_statesDiffer_11 rfl (c_period hR0 hF hL0) ⟨(Nat.le_of_ble_eq_true rfl), (Nat.le_of_ble_eq_true rfl)⟩ (Nat.le_of_ble_eq_true rfl) (by first | assumption | exact up_eq | exact (up_ne (by omega)).trans (by first | assumption | exact up_eq | exact (up_ne (by omega)).trans (by first | assumption | exact up_eq | exact (up_ne (by omega)).trans (by first | assumption | exact up_eq)))) (by omega) (Nat.zero_le _) (Nat.zero_le _) ?_
    refine V_istore_n (q := 15) (ls' := [_, _, _, _]) dX4_statesDiffer_14 rfl (by decide) (by rfl) rfl ?_
    refine V_iconst (q := 16) (v := nI 0) dX4_statesDiffer_15 rfl (by decide) ?_
    refine V_istore_n (q := 17) (ls' := [_, _, _, _]) dX4_statesDiffer_16 rfl (by decide) (by rfl) rfl ?_
    have outer : ∀ i, i ≤ perN h L → (∀ a b, a < i → a < b → b < perN h L → stN h L a ≠ stN h L b) → V g l MX4_statesDiffer (rmd 3 0 0) (FinM g (qR (.int (primI h L)) w n) 0 0) 17 [some (rf g r), some (.int (nI (perN h L))), some (.int (nI i)), none] [] (w) n 0 0 := by
      refine loopU (fun i => (∀ a b, a < i → a < b → b < perN h L → stN h L a ≠ stN h L b) → V g l MX4_statesDiffer (rmd 3 0 0) (FinM g (qR (.int (primI h L)) w n) 0 0) 17 [some (rf g r), some (.int (nI (perN h L))), some (.int (nI i)), none] [] (w) n 0 0) (perN h L) ?_ ?_
      · intro hk
        refine V_iload_n (q := 18) dX4_statesDiffer_17 rfl rfl ?_
        refine V_iload_n (q := 19) dX4_statesDiffer_18 rfl rfl ?_
        refine V_icmpN_ge (q := 22) (tgt := 58) dX4_statesDiffer_19 (by decide) rfl (by omega) (by omega) (fun _ => ?_) (fun h9 => by first | exact h9.elim | (exfalso; omega))
        refine V_iconst (q := 59) (v := nI 1) dX4_statesDiffer_58 rfl (by decide) ?_
        exact V_iret dX4_statesDiffer_59 rfl (Nat.le_of_ble_eq_true rfl) (Nat.le_of_ble_eq_true rfl) (⟨rfl, by rw [primI, if_pos hcl, if_neg (fun q => by obtain ⟨a, b, q1, q2, q3⟩ := q; exact hk a b (by omega) q1 q2 q3)]; rfl, rfl⟩)
      · intro i hi ih hk
        have hiL : i < L := by omega
        have s1 := hst i
        refine V_iload_n (q := 18) dX4_statesDiffer_17 rfl rfl ?_
        refine V_iload_n (q := 19) dX4_statesDiffer_18 rfl rfl ?_
        refine V_icmpN_ge (q := 22) (tgt := 58) dX4_statesDiffer_19 (by decide) rfl (by omega) (by omega) (fun h9 => by first | exact h9.elim | exact absurd h9 (by assumption) | (exfalso; omega)) (fun _ => ?_)
        refine V_iload_n (q := 23) dX4_statesDiffer_22 rfl rfl ?_
        refine V_iconst (q := 24) (v := nI 1) dX4_statesDiffer_23 rfl (by decide) ?_
        refine V_iadd (q := 25) dX4_statesDiffer_24 rfl (by first | exact nI_add _ _ | rfl) ?_
        refine V_istore_n (q := 26) (ls' := [_, _, _, _]) dX4_statesDiffer_25 rfl (by decide) (by rfl) rfl ?_
        have inner : ∀ j, j ≤ perN h L → i < j → (∀ b, i < b → b < j → stN h L i ≠ stN h L b) → V g l MX4_statesDiffer (rmd 3 0 0) (FinM g (qR (.int (primI h L)) w n) 0 0) 26 [some (rf g r), some (.int (nI (perN h L))), some (.int (nI i)), some (.int (nI j))] [] (w) n 0 0 := by
          refine loopU (fun j => i < j → (∀ b, i < b → b < j → stN h L i ≠ stN h L b) → V g l MX4_statesDiffer (rmd 3 0 0) (FinM g (qR (.int (primI h L)) w n) 0 0) 26 [some (rf g r), some (.int (nI (perN h L))), some (.int (nI i)), some (.int (nI j))] [] (w) n 0 0) (perN h L) ?_ ?_
          · intro _ hne
            refine V_iload_n (q := 27) dX4_statesDiffer_26 rfl rfl ?_
            refine V_iload_n (q := 28) dX4_statesDiffer_27 rfl rfl ?_
            refine V_icmpN_ge (q := 31) (tgt := 52) dX4_statesDiffer_28 (by decide) rfl (by omega) (by omega) (fun _ => ?_) (fun h9 => by first | exact h9.elim | (exfalso; omega))
            refine V_iinc (q := 55) (ls' := [_, _, _, _]) dX4_statesDiffer_52 rfl (by decide) (by rfl) rfl (by first | exact inc1 _ | rfl) rfl ?_
            refine V_goto (tgt := 17) dX4_statesDiffer_55 (by decide) ?_
            refine V_fg 3 (ls2 := [_, _, _, none]) (by rfl) ?_
            refine ih fun a b ha hab hb => ?_
            rcases Nat.lt_or_ge a i with q | q
            · exact hk a b q hab hb
            · obtain rfl : a = i := by omega
              exact hne b hab hb
          · intro j hj ih2 hij hne
            have s2 := hst j
            refine V_iload_n (q := 27) dX4_statesDiffer_26 rfl rfl ?_
            refine V_iload_n (q := 28) dX4_statesDiffer_27 rfl rfl ?_
            refine V_icmpN_ge (q := 31) (tgt := 52) dX4_statesDiffer_28 (by decide) rfl (by omega) (by omega) (fun h9 => by first | exact h9.elim | exact absurd h9 (by assumption) | (exfalso; omega)) (fun _ => ?_)
            refine V_aload_n (q := 32) dX4_statesDiffer_31 rfl rfl rfl ?_
            refine V_iload_n (q := 33) dX4_statesDiffer_32 rfl rfl ?_
            refine CrX4_57 (q := 36) rfl dX4_statesDiffer_33 rfl (c_stateAt hR0 hF hL0 hiL) ⟨(Nat.le_of_ble_eq_true rfl), (Nat.le_of_ble_eq_true rfl)⟩ (Nat.le_of_ble_eq_true rfl) (by first | assumption | exact up_eq | exact (up_ne (by omega)).trans (by first | assumption | exact up_eq | exact (up_ne (by omega)).trans (by first | assumption | exact up_eq | exact (up_ne (by omega)).trans (by first | assumption | exact up_eq)))) (by omega) (Nat.zero_le _) (Nat.zero_le _) ?_
            refine V_aload_n (q := 37) dX4_statesDiffer_36 rfl rfl rfl ?_
            refine V_iload_n (q := 38) dX4_statesDiffer_37 rfl rfl ?_
            refine CrX4_57 (q := 41) rfl dX4_statesDiffer_38 rfl (c_stateAt hR0 hF hL0 (by omega)) ⟨(Nat.le_of_ble_eq_true rfl), (Nat.le_of_ble_eq_true rfl)⟩ (Nat.le_of_ble_eq_true rfl) (by first | assumption | exact up_eq | exact (up_ne (by omega)).trans (by first | assumption | exact up_eq | exact (up_ne (by omega)).trans (by first | assumption | exact up_eq | exact (up_ne (by omega)).trans (by first | assumption | exact up_eq)))) (by omega) (Nat.zero_le _) (Nat.zero_le _) ?_
            refine V_icmpN_ne (q := 44) (tgt := 46) dX4_statesDiffer_41 (by decide) rfl (by omega) (by omega) (fun hc => ?_) (fun hc => ?_)
            · skip
              refine V_iinc (q := 49) (ls' := [_, _, _, _]) dX4_statesDiffer_46 rfl (by decide) (by rfl) rfl (by first | exact inc1 _ | rfl) rfl ?_
              refine V_goto (tgt := 26) dX4_statesDiffer_49 (by decide) ?_
              refine ih2 (by omega) fun b hb1 hb2 => ?_
              rcases Nat.lt_or_ge b j with q | q
              · exact hne b hb1 q
              · obtain rfl : b = j := by omega
                exact hc
            · skip
              refine V_iconst (q := 45) (v := nI 0) dX4_statesDiffer_44 rfl (by decide) ?_
              exact V_iret dX4_statesDiffer_45 rfl (Nat.le_of_ble_eq_true rfl) (Nat.le_of_ble_eq_true rfl) (⟨rfl, by rw [primI, if_pos hcl, if_pos ⟨i, j, hij, hj, hc⟩]; rfl, rfl⟩)
        exact inner (i + 1) (by omega) (by omega) (fun b h1 h2 => absurd h1 (by omega))
    exact outer 0 (Nat.zero_le _) (fun a b ha => absurd ha (Nat.not_lt_zero a))
  · skip
    refine V_topi (if_neg hcl) ?_
    refine V_if_ne (q := 7) (tgt := 10) dX4_statesDiffer_4 (by decide) rfl (fun h9 => absurd rfl h9) (fun _ => ?_)
    refine V_bipush (q := 9) (v := (-4)) dX4_statesDiffer_7 rfl (by decide) ?_
    exact V_iret dX4_statesDiffer_9 rfl (Nat.le_of_ble_eq_true rfl) (Nat.le_of_ble_eq_true rfl) (⟨rfl, by rw [primI, if_neg hcl], rfl⟩)
/-- writes -/
theorem c_copyThrows {r2 L2 : Nat} {F2 : Nat → Int32} (hR : RwF g w n r L F) (hR2 : RwF g w n r2 L2 F2) (hne : r + 1 < r2 ∨ r2 + 1 < r) : CtV g l MX4_copyThrows 1 [rf g r, rf g r2] w n (fun w' => ∃ F', (∀ i, i < 8 → F' i = F2 i) ∧ w' = va_up (va_up w r (eO 4 [.int (nI L2), rf g (r + 1)])) (r + 1) (eI g 8 F')) := by
  obtain ⟨h0, h1, hn, hL⟩ := hR
  obtain ⟨k0, k1, kn, kL⟩ := hR2
  refine Ct.ofs (M := MX4_copyThrows) (ls := [some _, some _]) (by decide +kernel) (by exact (Nat.le_of_ble_eq_true rfl)) (by rfl) (by rfl) (by rfl) ?_
  refine V_aload_n (q := 1) dX4_copyThrows_0 rfl rfl rfl ?_
  refine V_aload_n (q := 2) dX4_copyThrows_1 rfl rfl rfl ?_
  refine GX4_15 (q := 5) rfl dX4_copyThrows_2 rfl (by first | assumption | exact up_eq | exact (up_ne (by omega)).trans (by first | assumption | exact up_eq | exact (up_ne (by omega)).trans (by first | assumption | exact up_eq | exact (up_ne (by omega)).trans (by first | assumption | exact up_eq)))) (by omega) (by rfl) ?_
  refine PX4_15 (q := 8) (fs' := [_, _]) rfl dX4_copyThrows_5 rfl (by first | assumption | exact up_eq | exact (up_ne (by omega)).trans (by first | assumption | exact up_eq | exact (up_ne (by omega)).trans (by first | assumption | exact up_eq | exact (up_ne (by omega)).trans (by first | assumption | exact up_eq)))) (by omega) (by exact (Nat.le_of_ble_eq_true rfl)) (by rfl) ?_
  try rw [up_up]
  refine V_aload_n (q := 9) dX4_copyThrows_8 rfl rfl rfl ?_
  refine GX4_9 (q := 12) rfl dX4_copyThrows_9 rfl (by first | assumption | exact up_eq | exact (up_ne (by omega)).trans (by first | assumption | exact up_eq | exact (up_ne (by omega)).trans (by first | assumption | exact up_eq | exact (up_ne (by omega)).trans (by first | assumption | exact up_eq)))) (by omega) (by rfl) ?_
  refine V_iconst (q := 13) (v := nI 0) dX4_copyThrows_12 rfl (by decide) ?_
  refine V_aload_n (q := 14) dX4_copyThrows_13 rfl rfl rfl ?_
  refine GX4_9 (q := 17) rfl dX4_copyThrows_14 rfl (by first | assumption | exact up_eq | exact (up_ne (by omega)).trans (by first | assumption | exact up_eq | exact (up_ne (by omega)).trans (by first | assumption | exact up_eq | exact (up_ne (by omega)).trans (by first | assumption | exact up_eq)))) (by omega) (by rfl) ?_
  refine V_iconst (q := 18) (v := nI 0) dX4_copyThrows_17 rfl (by decide) ?_
  refine V_bipush (q := 20) (v := nI 8) dX4_copyThrows_18 rfl (by decide) ?_
  have hz : (nI 0).toNatClampNeg = 0 := nI_clamp (by decide)
  have h8 : (nI 8).toNatClampNeg = 8 := nI_clamp (by decide)
  refine AX4_19 (q := 23) rfl dX4_copyThrows_20 rfl (by first | assumption | exact (up_ne (by omega)).trans (by assumption)) (by omega) (by first | assumption | exact (up_ne (by omega)).trans (by assumption)) (by omega) (by decide) (by decide) (by decide) (by rw [hz, h8]; decide) (by rw [hz, h8]; decide) (Nat.le_of_ble_eq_true rfl) (by decide) rfl ?_
  exact V_vret dX4_copyThrows_23 rfl (Nat.le_of_ble_eq_true rfl) (Nat.le_of_ble_eq_true rfl) (⟨rfl, rfl, _, fun i hi => by rw [hz, h8]; exact (pk_cpy_in (Nat.zero_le _) (by omega)).trans (by simp), rfl⟩)
theorem c_moveFirst (hR : RwF g w n r L F) (hL0 : 0 < L) : CtV g l MX4_moveFirstToEnd 1 [rf g r] w n (fun w' => ∃ F', (∀ i, i + 1 < L → F' i = F (i + 1)) ∧ F' (L - 1) = F 0 ∧ w' = va_up w (r + 1) (eI g 8 F')) := by
  have hR0 := hR
  obtain ⟨h0, h1, hn, hL⟩ := hR
  refine Ct.ofs (M := MX4_moveFirstToEnd) (ls := [some _, none, none]) (by decide +kernel) (by exact (Nat.le_of_ble_eq_true rfl)) (by rfl) (by rfl) (by rfl) ?_
  refine V_aload_n (q := 1) dX4_moveFirstToEnd_0 rfl rfl rfl ?_
  refine V_iconst (q := 2) (v := nI 0) dX4_moveFirstToEnd_1 rfl (by decide) ?_
  refine CrX4_29 (q := 5) rfl dX4_moveFirstToEnd_2 rfl (c_heightAtF hR0 (by omega)) ⟨(Nat.le_of_ble_eq_true rfl), (Nat.le_of_ble_eq_true rfl)⟩ (Nat.le_of_ble_eq_true rfl) (by first | assumption | exact up_eq | exact (up_ne (by omega)).trans (by first | assumption | exact up_eq | exact (up_ne (by omega)).trans (by first | assumption | exact up_eq | exact (up_ne (by omega)).trans (by first | assumption | exact up_eq)))) (by omega) (Nat.zero_le _) (Nat.zero_le _) ?_
  refine V_istore_n (q := 6) (ls' := [_, _, _]) dX4_moveFirstToEnd_5 rfl (by decide) (by rfl) rfl ?_
  refine V_iconst (q := 7) (v := nI 1) dX4_moveFirstToEnd_6 rfl (by decide) ?_
  refine V_istore_n (q := 8) (ls' := [_, _, _]) dX4_moveFirstToEnd_7 rfl (by decide) (by rfl) rfl ?_
  have key : ∀ i, i ≤ L → 0 < i → ∀ F1 : Nat → Int32, (∀ k, k + 1 < i → F1 k = F (k + 1)) → (∀ k, i ≤ k → F1 k = F k) → ∀ w1, w1 = va_up w (r + 1) (eI g 8 F1) → V g l MX4_moveFirstToEnd (rmd 1 0 0) (FinM g (qV (fun w' => ∃ F', (∀ i, i + 1 < L → F' i = F (i + 1)) ∧ F' (L - 1) = F 0 ∧ w' = va_up w (r + 1) (eI g 8 F')) n) 0 0) 8 [some (rf g r), some (.int (F 0)), some (.int (nI i))] [] (w1) n 0 0 := by
    refine loopU (fun i => 0 < i → ∀ F1 : Nat → Int32, (∀ k, k + 1 < i → F1 k = F (k + 1)) → (∀ k, i ≤ k → F1 k = F k) → ∀ w1, w1 = va_up w (r + 1) (eI g 8 F1) → V g l MX4_moveFirstToEnd (rmd 1 0 0) (FinM g (qV (fun w' => ∃ F', (∀ i, i + 1 < L → F' i = F (i + 1)) ∧ F' (L - 1) = F 0 ∧ w' = va_up w (r + 1) (eI g 8 F')) n) 0 0) 8 [some (rf g r), some (.int (F 0)), some (.int (nI i))] [] (w1) n 0 0) L ?_ ?_
    · intro _ F1 a1 a2 w1 hw
      have hR1 : RwF g w1 n r L F1 := by rw [hw]; exact ⟨(up_ne (by omega)).trans h0, up_eq, hn, hL⟩
      have b0 := hR1.1
      refine V_iload_n (q := 9) dX4_moveFirstToEnd_8 rfl rfl ?_
      refine V_aload_n (q := 10) dX4_moveFirstToEnd_9 rfl rfl rfl ?_
      refine GX4_15 (q := 13) rfl dX4_moveFirstToEnd_10 rfl (by first | assumption | exact up_eq | exact (up_ne (by omega)).trans (by first | assumption | exact up_eq | exact (up_ne (by omega)).trans (by first | assumption | exact up_eq | exact (up_ne (by omega)).trans (by first | assumption | exact up_eq)))) (by omega) (by rfl) ?_
      refine V_icmpN_ge (q := 16) (tgt := 34) dX4_moveFirstToEnd_13 (by decide) rfl (by omega) (by omega) (fun _ => ?_) (fun h9 => by first | exact h9.elim | (exfalso; omega))
      refine V_aload_n (q := 35) dX4_moveFirstToEnd_34 rfl rfl rfl ?_
      refine V_aload_n (q := 36) dX4_moveFirstToEnd_35 rfl rfl rfl ?_
      refine GX4_15 (q := 39) rfl dX4_moveFirstToEnd_36 rfl (by first | assumption | exact up_eq | exact (up_ne (by omega)).trans (by first | assumption | exact up_eq | exact (up_ne (by omega)).trans (by first | assumption | exact up_eq | exact (up_ne (by omega)).trans (by first | assumption | exact up_eq)))) (by omega) (by rfl) ?_
      refine V_iconst (q := 40) (v := nI 1) dX4_moveFirstToEnd_39 rfl (by decide) ?_
      refine V_isub (q := 41) dX4_moveFirstToEnd_40 rfl (by first | exact pk_sub (by omega) | rfl) ?_
      refine V_iload_n (q := 42) dX4_moveFirstToEnd_41 rfl rfl ?_
      refine CvX4_25 (q := 45) rfl dX4_moveFirstToEnd_42 rfl (c_setHeight hR1 (by omega)) ⟨(Nat.le_of_ble_eq_true rfl), (Nat.le_of_ble_eq_true rfl)⟩ (Nat.le_of_ble_eq_true rfl) (by first | assumption | exact up_eq | exact (up_ne (by omega)).trans (by first | assumption | exact up_eq | exact (up_ne (by omega)).trans (by first | assumption | exact up_eq | exact (up_ne (by omega)).trans (by first | assumption | exact up_eq)))) (by omega) (Nat.zero_le _) (Nat.zero_le _) (fun w2 hw2 => ?_)
      exact V_vret dX4_moveFirstToEnd_45 rfl (Nat.le_of_ble_eq_true rfl) (Nat.le_of_ble_eq_true rfl) (⟨rfl, rfl, upd F1 (L - 1) (F 0), fun i hi => (updN (by omega)).trans (a1 i hi), updI, by rw [hw2, hw, up_up]⟩)
    · intro i hi ih hi0 F1 a1 a2 w1 hw
      have hR1 : RwF g w1 n r L F1 := by rw [hw]; exact ⟨(up_ne (by omega)).trans h0, up_eq, hn, hL⟩
      have b0 := hR1.1
      refine V_iload_n (q := 9) dX4_moveFirstToEnd_8 rfl rfl ?_
      refine V_aload_n (q := 10) dX4_moveFirstToEnd_9 rfl rfl rfl ?_
      refine GX4_15 (q := 13) rfl dX4_moveFirstToEnd_10 rfl (by first | assumption | exact up_eq | exact (up_ne (by omega)).trans (by first | assumption | exact up_eq | exact (up_ne (by omega)).trans (by first | assumption | exact up_eq | exact (up_ne (by omega)).trans (by first | assumption | exact up_eq)))) (by omega) (by rfl) ?_
      refine V_icmpN_ge (q := 16) (tgt := 34) dX4_moveFirstToEnd_13 (by decide) rfl (by omega) (by omega) (fun h9 => by first | exact h9.elim | exact absurd h9 (by assumption) | (exfalso; omega)) (fun _ => ?_)
      refine V_aload_n (q := 17) dX4_moveFirstToEnd_16 rfl rfl rfl ?_
      refine V_iload_n (q := 18) dX4_moveFirstToEnd_17 rfl rfl ?_
      refine V_iconst (q := 19) (v := nI 1) dX4_moveFirstToEnd_18 rfl (by decide) ?_
      refine V_isub (q := 20) dX4_moveFirstToEnd_19 rfl (by first | exact pk_sub (by omega) | rfl) ?_
      refine V_aload_n (q := 21) dX4_moveFirstToEnd_20 rfl rfl rfl ?_
      refine V_iload_n (q := 22) dX4_moveFirstToEnd_21 rfl rfl ?_
      refine CrX4_29 (q := 25) rfl dX4_moveFirstToEnd_22 rfl (c_heightAtF hR1 (by omega)) ⟨(Nat.le_of_ble_eq_true rfl), (Nat.le_of_ble_eq_true rfl)⟩ (Nat.le_of_ble_eq_true rfl) (by first | assumption | exact up_eq | exact (up_ne (by omega)).trans (by first | assumption | exact up_eq | exact (up_ne (by omega)).trans (by first | assumption | exact up_eq | exact (up_ne (by omega)).trans (by first | assumption | exact up_eq)))) (by omega) (Nat.zero_le _) (Nat.zero_le _) ?_
      refine CvX4_25 (q := 28) rfl dX4_moveFirstToEnd_25 rfl (c_setHeight hR1 (by omega)) ⟨(Nat.le_of_ble_eq_true rfl), (Nat.le_of_ble_eq_true rfl)⟩ (Nat.le_of_ble_eq_true rfl) (by first | assumption | exact up_eq | exact (up_ne (by omega)).trans (by first | assumption | exact up_eq | exact (up_ne (by omega)).trans (by first | assumption | exact up_eq | exact (up_ne (by omega)).trans (by first | assumption | exact up_eq)))) (by omega) (Nat.zero_le _) (Nat.zero_le _) (fun w2 hw2 => ?_)
      refine V_iinc (q := 31) (ls' := [_, _, _]) dX4_moveFirstToEnd_28 rfl (by decide) (by rfl) rfl (by first | exact inc1 _ | rfl) rfl ?_
      refine V_goto (tgt := 8) dX4_moveFirstToEnd_31 (by decide) ?_
      refine ih (by omega) (upd F1 (i - 1) (F1 i)) (fun k hk => ?_) (fun k hk => ?_) w2 (by rw [hw2, hw, up_up])
      · by_cases e : k = i - 1
        · subst e
          rw [updI, a2 i (Nat.le_refl _), show i - 1 + 1 = i by omega]
        · rw [updN e]
          exact a1 k (by omega)
      · rw [updN (by omega)]
        exact a2 k (by omega)
  exact key 1 hL0 (by omega) F (fun k hk => absurd hk (by omega)) (fun k _ => rfl) w (by funext j; by_cases e : j = r + 1 <;> simp [va_up, e, h1])
theorem c_fill (hR : RwF g w n r L F) {t m : Nat} (ht : t < 2 ^ 31) (hm : m ≤ 8) (hm0 : 0 < m) : CtV g l MX4_fill 1 [rf g r, .int (nI t), .int (nI m)] w n (fun w' => ∃ F', (∀ i, i < m → F' i = nI (t / 10 ^ (m - 1 - i) % 10)) ∧ w' = va_up (va_up w r (eO 4 [.int (nI m), rf g (r + 1)])) (r + 1) (eI g 8 F')) := by
  obtain ⟨h0, h1, hn, hL⟩ := hR
  refine Ct.ofs (M := MX4_fill) (ls := [some _, some _, some _, none, none]) (by decide +kernel) (by exact (Nat.le_of_ble_eq_true rfl)) (by rfl) (by rfl) (by rfl) ?_
  refine V_aload_n (q := 1) dX4_fill_0 rfl rfl rfl ?_
  refine V_iload_n (q := 2) dX4_fill_1 rfl rfl ?_
  refine PX4_15 (q := 5) (fs' := [_, _]) rfl dX4_fill_2 rfl (by first | assumption | exact up_eq | exact (up_ne (by omega)).trans (by first | assumption | exact up_eq | exact (up_ne (by omega)).trans (by first | assumption | exact up_eq | exact (up_ne (by omega)).trans (by first | assumption | exact up_eq)))) (by omega) (by exact (Nat.le_of_ble_eq_true rfl)) (by rfl) ?_
  try rw [up_up]
  refine V_iload_n (q := 6) dX4_fill_5 rfl rfl ?_
  refine V_istore_n (q := 7) (ls' := [_, _, _, _, _]) dX4_fill_6 rfl (by decide) (by rfl) rfl ?_
  refine V_iload_n (q := 8) dX4_fill_7 rfl rfl ?_
  refine V_iconst (q := 9) (v := nI 1) dX4_fill_8 rfl (by decide) ?_
  refine V_isub (q := 10) dX4_fill_9 rfl (by first | exact pk_sub (by omega) | rfl) ?_
  refine V_istore (q := 12) (ls' := [_, _, _, _, _]) dX4_fill_10 rfl (by decide) (by rfl) rfl ?_
  generalize hw0 : va_up w r (eO 4 [.int (nI m), rf g (r + 1)]) = w0
  have b0 : w0 r = eO 4 [.int (nI m), rf g (r + 1)] := by rw [← hw0]; exact up_eq
  have b1 : w0 (r + 1) = eI g 8 F := by rw [← hw0]; exact (up_ne (by omega)).trans h1
  have key : ∀ j, j ≤ m → ∀ F1 : Nat → Int32, (∀ i, i < m → m - j ≤ i → F1 i = nI (t / 10 ^ (m - 1 - i) % 10)) → ∀ w1, w1 = va_up w0 (r + 1) (eI g 8 F1) → V g l MX4_fill (rmd 1 0 0) (FinM g (qV (fun w' => ∃ F', (∀ i, i < m → F' i = nI (t / 10 ^ (m - 1 - i) % 10)) ∧ w' = va_up w0 (r + 1) (eI g 8 F')) n) 0 0) 12 [some (rf g r), some (.int (nI t)), some (.int (nI m)), some (.int (nI (t / 10 ^ j))), some (.int (nI (m - j) - 1))] [] w1 n 0 0 := by
    refine loopU (fun j => ∀ F1 : Nat → Int32, (∀ i, i < m → m - j ≤ i → F1 i = nI (t / 10 ^ (m - 1 - i) % 10)) → ∀ w1, w1 = va_up w0 (r + 1) (eI g 8 F1) → V g l MX4_fill (rmd 1 0 0) (FinM g (qV (fun w' => ∃ F', (∀ i, i < m → F' i = nI (t / 10 ^ (m - 1 - i) % 10)) ∧ w' = va_up w0 (r + 1) (eI g 8 F')) n) 0 0) 12 [some (rf g r), some (.int (nI t)), some (.int (nI m)), some (.int (nI (t / 10 ^ j))), some (.int (nI (m - j) - 1))] [] w1 n 0 0) m ?_ ?_
    · intro F1 a1 w1 hw
      refine V_iload (q := 14) dX4_fill_12 rfl rfl ?_
      refine V_topi (show nI (m - m) - 1 = (-1 : Int32) by rw [Nat.sub_self]; decide) ?_
      refine V_if_lt (q := 17) (tgt := 38) dX4_fill_14 (by decide) rfl (fun _ => ?_) (fun h9 => absurd (by decide) h9)
      exact V_vret dX4_fill_38 rfl (Nat.le_of_ble_eq_true rfl) (Nat.le_of_ble_eq_true rfl) (⟨rfl, rfl, F1, fun i hi => a1 i hi (by omega), hw⟩)
    · intro j hj ih F1 a1 w1 hw
      have hR1 : RwF g w1 n r m F1 := by rw [hw]; exact ⟨(up_ne (by omega)).trans b0, up_eq, hn, hm⟩
      have c0 := hR1.1
      have ed : t / 10 ^ j < 2 ^ 31 := Nat.lt_of_le_of_lt (Nat.div_le_self _ _) ht
      have e1 : nI (m - j) - 1 = nI (m - j - 1) := pk_sub (b := 1) (by omega)
      rw [e1]
      refine V_iload (q := 14) dX4_fill_12 rfl rfl ?_
      refine V_ifN_lt (q := 17) (tgt := 38) dX4_fill_14 (by decide) rfl (by omega) (fun h9 => by first | exact h9.elim | exact absurd h9 (by assumption) | (exfalso; omega)) (fun _ => ?_)
      refine V_aload_n (q := 18) dX4_fill_17 rfl rfl rfl ?_
      refine V_iload (q := 20) dX4_fill_18 rfl rfl ?_
      refine V_iload_n (q := 21) dX4_fill_20 rfl rfl ?_
      refine V_bipush (q := 23) (v := nI 10) dX4_fill_21 rfl (by decide) ?_
      refine V_irem (q := 24) dX4_fill_23 rfl (nI_ne0 (by omega) (by omega)) (by first | exact pk_rem (by omega) (by omega) (by omega) | rfl) ?_
      have e2 : nI (m - j - 1) + Int32.ofInt (-1) = nI (m - (j + 1)) - 1 := by
        rw [show m - (j + 1) = m - j - 1 by omega]
        rw [show Int32.ofInt (-1) = (-1 : Int32) by decide]
        exact (Int32.sub_eq_add_neg _ _).symm
      refine CvX4_25 (q := 27) rfl dX4_fill_24 rfl (c_setHeight hR1 (by omega)) ⟨(Nat.le_of_ble_eq_true rfl), (Nat.le_of_ble_eq_true rfl)⟩ (Nat.le_of_ble_eq_true rfl) (by first | assumption | exact up_eq | exact (up_ne (by omega)).trans (by first | assumption | exact up_eq | exact (up_ne (by omega)).trans (by first | assumption | exact up_eq | exact (up_ne (by omega)).trans (by first | assumption | exact up_eq)))) (by omega) (Nat.zero_le _) (Nat.zero_le _) (fun w2 hw2 => ?_)
      refine V_iload_n (q := 28) dX4_fill_27 rfl rfl ?_
      refine V_bipush (q := 30) (v := nI 10) dX4_fill_28 rfl (by decide) ?_
      refine V_idiv (q := 31) dX4_fill_30 rfl (nI_ne0 (by omega) (by omega)) (by first | exact pk_div (by omega) (by omega) (by omega) | rfl) ?_
      refine V_istore_n (q := 32) (ls' := [_, _, _, _, _]) dX4_fill_31 rfl (by decide) (by rfl) rfl ?_
      refine V_iinc (q := 35) (ls' := [_, _, _, _, _]) dX4_fill_32 rfl (by decide) (by rfl) rfl e2 rfl ?_
      refine V_goto (tgt := 12) dX4_fill_35 (by decide) ?_
      rw [show t / 10 ^ j / 10 = t / 10 ^ (j + 1) by rw [Nat.div_div_eq_div_mul, Nat.pow_succ]]
      refine ih (upd F1 (m - j - 1) (nI (t / 10 ^ j % 10))) (fun i hi hij => ?_) w2 (by rw [hw2, hw, up_up])
      by_cases e : i = m - j - 1
      · subst e
        rw [updI, show m - 1 - (m - j - 1) = j by omega]
      · rw [updN e]
        exact a1 i hi (by omega)
  have e0 : nI (m - 0) - 1 = nI (m - 1) := pk_sub (b := 1) (by omega)
  have fin := key 0 (Nat.zero_le _) F (fun i hi h2 => absurd h2 (by omega)) w0 ?_
  · rw [e0, Nat.pow_zero, Nat.div_one] at fin
    exact fin
  funext j; by_cases e : j = r + 1 <;> simp [va_up, e, b1]
end ROW
