/-! String.indexOf over the letters of the commands -/
theorem wd_803 : Cond.fieldLink RJ0 9 "java/lang/String" "value" "[B" ∈ wsL_law := wd_r34 _ (List.mem_of_getElem? (i := 11) rfl)
theorem wd_808 : Cond.fieldLink RJ0 38 "java/lang/String" "COMPACT_STRINGS" "Z" ∈ wsL_law := wd_r34 _ (List.mem_of_getElem? (i := 16) rfl)
theorem wd_809 : Cond.fieldLink RJ0 15 "java/lang/String" "coder" "B" ∈ wsL_law := wd_r34 _ (List.mem_of_getElem? (i := 17) rfl)
section RL
variable {g : GG} {l : Launch} {M : MI} {R : Room} {FN : FinT} {pc q : Nat} {ls ls' : LO} {st : List Value} {w : HW} {n cs sl : Nat}
theorem CrJ0_633 {a0 a1 : Value} {v : Value} (hM : M.1.cls = RJ0) (d : decode M.2.1 pc = .ok (.invokevirtual 633, 3)) (hq : pc + 3 = q) (hCt : Ct g l MJ0_indexOf_7cf53 5 (.ref g.2.2.2.1.1 :: [a0, a1]) w n (fun v' w' n' => n' = n ∧ v' = some v ∧ w' = w) 0 0) (hR : 5 + 1 ≤ R.frames ∧ 8 + (3 + 11) + 36 * 5 ≤ R.locals) (hcat : (st.map fun v => v.category).sum ≤ 8) (hc : cs ≤ R.cells) (hs : sl ≤ R.slots) (k : V g l M R FN q ls (v :: st) w n cs sl) : V g l M R FN pc ls (a1 :: a0 :: .ref g.2.2.2.1.1 :: st) w n cs sl :=
  V_callVS (M' := MJ0_indexOf_7cf53) (as := [a0, a1]) (mc := 0) (ms := 0) d hq rfl hCt (by rw [hM]; exact wd_799) wd_802 wd_797 ⟨by decide, by decide, by show _ = some 2; decide +kernel⟩ hR (wd_r34 _ (List.mem_of_getElem? (i := 8) rfl)) (wd_r34 _ (List.mem_of_getElem? (i := 9) rfl)) rfl hcat hc hs (fun v' w' n' h => by obtain ⟨rfl, rfl, rfl⟩ := h; simpa using k) (fun v' w' n' h => h.1)
theorem CrX8_205 {a0 : Value} {v : Value} (hM : M.1.cls = RX8) (d : decode M.2.1 pc = .ok (.invokevirtual 205, 3)) (hq : pc + 3 = q) (hCt : Ct g l MJ0_indexOf_0f7a4 6 (.ref g.2.2.2.1.1 :: [a0]) w n (fun v' w' n' => n' = n ∧ v' = some v ∧ w' = w) 0 0) (hR : 6 + 1 ≤ R.frames ∧ 8 + (2 + 11) + 36 * 6 ≤ R.locals) (hcat : (st.map fun v => v.category).sum ≤ 8) (hc : cs ≤ R.cells) (hs : sl ≤ R.slots) (k : V g l M R FN q ls (v :: st) w n cs sl) : V g l M R FN pc ls (a0 :: .ref g.2.2.2.1.1 :: st) w n cs sl :=
  V_callVS (M' := MJ0_indexOf_0f7a4) (as := [a0]) (mc := 0) (ms := 0) d hq rfl hCt (by rw [hM]; exact wd_794) wd_798 wd_797 ⟨by decide, by decide, by show _ = some 1; decide +kernel⟩ hR (wd_r34 _ (List.mem_of_getElem? (i := 3) rfl)) (wd_r34 _ (List.mem_of_getElem? (i := 4) rfl)) rfl hcat hc hs (fun v' w' n' h => by obtain ⟨rfl, rfl, rfl⟩ := h; simpa using k) (fun v' w' n' h => h.1)
end RL
def ltS (k : Nat) : Nat := ([120, 116, 115, 108, 98, 106, 99, 114] : List Nat).getD k 0
def ixS (x : Nat) : Nat := fa_first (fun k => decide (ltS k = x)) 8
theorem ltS_get : ∀ k, k < 8 → ([120, 116, 115, 108, 98, 106, 99, 114] : List Int32).getD (nI k).toNatClampNeg 0 = nI (ltS k) := by decide +kernel
theorem ixS_want : ∀ x, x < 127 → (ixS x < 8 ↔ 0 < wantN x) := by decide +kernel
theorem bld : ∀ k, k < 8 → vp_in (nI k) 8 := fun _ h => vp_in_nI h (by decide)
section IX
variable {g : GG} {l : Launch} {w : HW} {n : Nat}
theorem c_canEnc {x : Nat} (hx : x < 127) : CtR g l MJ1_canEncode_9a6ad 0 [.int (nI x)] w n (.int 1) := by
  refine Ct.ofs (M := MJ1_canEncode_9a6ad) (ls := [some _]) (by decide +kernel) (by exact (Nat.le_of_ble_eq_true rfl)) (by rfl) (by rfl) (by rfl) ?_
  refine V_iload_n (q := 1) dJ1_canEncode_9a6ad_0 rfl rfl ?_
  refine V_ifN_lt (q := 4) (tgt := 15) dJ1_canEncode_9a6ad_1 (by decide) rfl (by omega) (fun h9 => by first | exact h9.elim | exact absurd h9 (by assumption) | (exfalso; omega)) (fun _ => ?_)
  refine V_iload_n (q := 5) dJ1_canEncode_9a6ad_4 rfl rfl ?_
  refine V_sipush (q := 8) (v := nI 255) dJ1_canEncode_9a6ad_5 rfl (by decide) ?_
  refine V_icmpN_gt (q := 11) (tgt := 15) dJ1_canEncode_9a6ad_8 (by decide) rfl (by omega) (by omega) (fun h9 => by first | exact h9.elim | exact absurd h9 (by assumption) | (exfalso; omega)) (fun _ => ?_)
  refine V_iconst (q := 12) (v := nI 1) dJ1_canEncode_9a6ad_11 rfl (by decide) ?_
  refine V_goto (tgt := 16) dJ1_canEncode_9a6ad_12 (by decide) ?_
  exact V_zret dJ1_canEncode_9a6ad_16 rfl (rfl) (Nat.le_of_ble_eq_true rfl) (Nat.le_of_ble_eq_true rfl) (⟨rfl, rfl, rfl⟩)
theorem i2bN : ∀ x, x < 127 → (nI x).toInt8.toInt32 = nI x := by decide +kernel
theorem c_isLatin : CtR g l MJ0_isLatin1_aae02 0 [.ref g.2.2.2.1.1] w n (.int 1) := by
  refine Ct.ofs (M := MJ0_isLatin1_aae02) (ls := [some _]) (by decide +kernel) (by exact (Nat.le_of_ble_eq_true rfl)) (by rfl) (by rfl) (by rfl) ?_
  refine V_getSt (q := 3) dJ0_isLatin1_aae02_0 rfl wd_808 ?_
  refine V_if_eq (q := 6) (tgt := 17) dJ0_isLatin1_aae02_3 (by decide) rfl (fun h9 => absurd h9 (by decide)) (fun _ => ?_)
  refine V_aload_n (q := 7) dJ0_isLatin1_aae02_6 rfl rfl rfl ?_
  refine V_getS (q := 10) (fun U H h => (h.1.1 0 (by decide)).2.1) dJ0_isLatin1_aae02_7 rfl wd_809 ?_
  refine V_if_ne (q := 13) (tgt := 17) dJ0_isLatin1_aae02_10 (by decide) rfl (fun h9 => absurd rfl h9) (fun _ => ?_)
  refine V_iconst (q := 14) (v := nI 1) dJ0_isLatin1_aae02_13 rfl (by decide) ?_
  refine V_goto (tgt := 18) dJ0_isLatin1_aae02_14 (by decide) ?_
  exact V_zret dJ0_isLatin1_aae02_18 rfl (rfl) (Nat.le_of_ble_eq_true rfl) (Nat.le_of_ble_eq_true rfl) (⟨rfl, rfl, rfl⟩)
theorem c_coder : CtR g l MJ0_coder_7d493 0 [.ref g.2.2.2.1.1] w n (.int 0) := by
  refine Ct.ofs (M := MJ0_coder_7d493) (ls := [some _]) (by decide +kernel) (by exact (Nat.le_of_ble_eq_true rfl)) (by rfl) (by rfl) (by rfl) ?_
  refine V_getSt (q := 3) dJ0_coder_7d493_0 rfl wd_808 ?_
  refine V_if_eq (q := 6) (tgt := 13) dJ0_coder_7d493_3 (by decide) rfl (fun h9 => absurd h9 (by decide)) (fun _ => ?_)
  refine V_aload_n (q := 7) dJ0_coder_7d493_6 rfl rfl rfl ?_
  refine V_getS (q := 10) (fun U H h => (h.1.1 0 (by decide)).2.1) dJ0_coder_7d493_7 rfl wd_809 ?_
  refine V_goto (tgt := 14) dJ0_coder_7d493_10 (by decide) ?_
  exact V_zret dJ0_coder_7d493_14 rfl (rfl) (Nat.le_of_ble_eq_true rfl) (Nat.le_of_ble_eq_true rfl) (⟨rfl, rfl, rfl⟩)
theorem c_slen : CtR g l MJ0_length_8abf5 1 [.ref g.2.2.2.1.1] w n (.int 8) := by
  refine Ct.ofs (M := MJ0_length_8abf5) (ls := [some _]) (by decide +kernel) (by exact (Nat.le_of_ble_eq_true rfl)) (by rfl) (by rfl) (by rfl) ?_
  refine V_aload_n (q := 1) dJ0_length_8abf5_0 rfl rfl rfl ?_
  refine V_getS (q := 4) (fun U H h => (h.1.1 0 (by decide)).2.2.1) dJ0_length_8abf5_1 rfl wd_803 ?_
  refine V_blen (q := 5) dJ0_length_8abf5_4 rfl ?_
  refine V_aload_n (q := 6) dJ0_length_8abf5_5 rfl rfl rfl ?_
  refine CrJ0_335 (q := 9) rfl dJ0_length_8abf5_6 rfl (c_coder) ⟨(Nat.le_of_ble_eq_true rfl), (Nat.le_of_ble_eq_true rfl)⟩ (Nat.le_of_ble_eq_true rfl) (Nat.zero_le _) (Nat.zero_le _) ?_
  refine V_ishr (q := 10) dJ0_length_8abf5_9 rfl rfl ?_
  exact V_iret dJ0_length_8abf5_10 rfl (Nat.le_of_ble_eq_true rfl) (Nat.le_of_ble_eq_true rfl) (⟨rfl, rfl, rfl⟩)
theorem c_ixChar {x : Nat} (hx : x < 127) : CtR g l MJ1_indexOfChar_4cfef 0 [.ref g.2.2.2.1.2, .int (nI x), .int (nI 0), .int (nI 8)] w n (.int (if ixS x < 8 then nI (ixS x) else -1)) := by
  have hple := fa_first_le (fun k => decide (ltS k = x)) 8
  have hpno := fa_first_no (fun k => decide (ltS k = x)) 8
  have hpye := fa_first_yes (fun k => decide (ltS k = x)) 8
  unfold ixS
  generalize fa_first (fun k => decide (ltS k = x)) 8 = p at hple hpno hpye ⊢
  have hbl : ∀ k, k < 8 → ltS k < 127 := by decide
  refine Ct.ofs (M := MJ1_indexOfChar_4cfef) (ls := [some _, some _, some _, some _, none, none]) (by decide +kernel) (by exact (Nat.le_of_ble_eq_true rfl)) (by rfl) (by rfl) (by rfl) ?_
  refine V_iload_n (q := 1) dJ1_indexOfChar_4cfef_0 rfl rfl ?_
  refine V_i2b (q := 2) dJ1_indexOfChar_4cfef_1 rfl (i2bN x hx) ?_
  refine V_istore (q := 4) (ls' := [_, _, _, _, _, _]) dJ1_indexOfChar_4cfef_2 rfl (by decide) rfl ?_
  refine V_iload_n (q := 5) dJ1_indexOfChar_4cfef_4 rfl rfl ?_
  refine V_istore (q := 7) (ls' := [_, _, _, _, _, _]) dJ1_indexOfChar_4cfef_5 rfl (by decide) rfl ?_
  refine loopU (fun k => V g l MJ1_indexOfChar_4cfef (rmd 0 0 0) (FinM g (qR (.int (if p < 8 then nI p else -1)) w n) 0 0) 7 [some (.ref g.2.2.2.1.2), some (.int (nI x)), some (.int (nI 0)), some (.int (nI 8)), some (.int (nI x)), some (.int (nI k))] [] (w) n 0 0) p ?_ ?_ 0 (Nat.zero_le _)
  · by_cases hp : p < 8
    · rw [if_pos hp]
      have e := of_decide_eq_true (hpye hp)
      refine V_iload (q := 9) dJ1_indexOfChar_4cfef_7 rfl rfl ?_
      refine V_iload_n (q := 10) dJ1_indexOfChar_4cfef_9 rfl rfl ?_
      refine V_icmpN_ge (q := 13) (tgt := 31) dJ1_indexOfChar_4cfef_10 (by decide) rfl (by omega) (by omega) (fun h9 => by first | exact h9.elim | exact absurd h9 (by assumption) | (exfalso; omega)) (fun _ => ?_)
      refine V_aload_n (q := 14) dJ1_indexOfChar_4cfef_13 rfl rfl rfl ?_
      refine V_iload (q := 16) dJ1_indexOfChar_4cfef_14 rfl rfl ?_
      refine V_bald (q := 17) dJ1_indexOfChar_4cfef_16 rfl (bld p hp) (ltS_get p hp) ?_
      refine V_iload (q := 19) dJ1_indexOfChar_4cfef_17 rfl rfl ?_
      refine V_icmp_ne (q := 22) (tgt := 25) dJ1_indexOfChar_4cfef_19 (by decide) rfl (fun h9 => absurd (congrArg nI e) h9) (fun _ => ?_)
      refine V_iload (q := 24) dJ1_indexOfChar_4cfef_22 rfl rfl ?_
      exact V_iret dJ1_indexOfChar_4cfef_24 rfl (Nat.le_of_ble_eq_true rfl) (Nat.le_of_ble_eq_true rfl) (⟨rfl, rfl, rfl⟩)
    · rw [if_neg hp]
      refine V_iload (q := 9) dJ1_indexOfChar_4cfef_7 rfl rfl ?_
      refine V_iload_n (q := 10) dJ1_indexOfChar_4cfef_9 rfl rfl ?_
      refine V_icmpN_ge (q := 13) (tgt := 31) dJ1_indexOfChar_4cfef_10 (by decide) rfl (by omega) (by omega) (fun _ => ?_) (fun h9 => by first | exact h9.elim | (exfalso; omega))
      refine V_iconst (q := 32) (v := (-1)) dJ1_indexOfChar_4cfef_31 rfl (by decide) ?_
      exact V_iret dJ1_indexOfChar_4cfef_32 rfl (Nat.le_of_ble_eq_true rfl) (Nat.le_of_ble_eq_true rfl) (⟨rfl, rfl, rfl⟩)
  · intro k hk ih
    have e := of_decide_eq_false (hpno k hk)
    have hb := hbl k (by omega)
    refine V_iload (q := 9) dJ1_indexOfChar_4cfef_7 rfl rfl ?_
    refine V_iload_n (q := 10) dJ1_indexOfChar_4cfef_9 rfl rfl ?_
    refine V_icmpN_ge (q := 13) (tgt := 31) dJ1_indexOfChar_4cfef_10 (by decide) rfl (by omega) (by omega) (fun h9 => by first | exact h9.elim | exact absurd h9 (by assumption) | (exfalso; omega)) (fun _ => ?_)
    refine V_aload_n (q := 14) dJ1_indexOfChar_4cfef_13 rfl rfl rfl ?_
    refine V_iload (q := 16) dJ1_indexOfChar_4cfef_14 rfl rfl ?_
    refine V_bald (q := 17) dJ1_indexOfChar_4cfef_16 rfl (bld k (by omega)) (ltS_get k (by omega)) ?_
    refine V_iload (q := 19) dJ1_indexOfChar_4cfef_17 rfl rfl ?_
    refine V_icmpN_ne (q := 22) (tgt := 25) dJ1_indexOfChar_4cfef_19 (by decide) rfl (by omega) (by omega) (fun _ => ?_) (fun h9 => by first | exact h9.elim | (exfalso; omega))
    refine V_iinc (q := 28) (ls' := [_, _, _, _, _, _]) dJ1_indexOfChar_4cfef_25 rfl (by decide) rfl (by first | exact inc1 _ | rfl) rfl ?_
    refine V_goto (tgt := 7) dJ1_indexOfChar_4cfef_28 (by decide) ?_
    exact ih
theorem c_indexOf3 {x : Nat} (hx : x < 127) : CtR g l MJ1_indexOf_4cfef 1 [.ref g.2.2.2.1.2, .int (nI x), .int (nI 0), .int 8] w n (.int (if ixS x < 8 then nI (ixS x) else -1)) := by
  refine Ct.ofs (M := MJ1_indexOf_4cfef) (ls := [some _, some _, some _, some _]) (by decide +kernel) (by exact (Nat.le_of_ble_eq_true rfl)) (by rfl) (by rfl) (by rfl) ?_
  refine V_iload_n (q := 1) dJ1_indexOf_4cfef_0 rfl rfl ?_
  refine CrJ1_88 (q := 4) rfl dJ1_indexOf_4cfef_1 rfl (c_canEnc hx) ⟨(Nat.le_of_ble_eq_true rfl), (Nat.le_of_ble_eq_true rfl)⟩ (Nat.le_of_ble_eq_true rfl) (Nat.zero_le _) (Nat.zero_le _) ?_
  refine V_if_ne (q := 7) (tgt := 9) dJ1_indexOf_4cfef_4 (by decide) rfl (fun _ => ?_) (fun h9 => absurd h9 (by decide))
  refine V_iload_n (q := 10) dJ1_indexOf_4cfef_9 rfl rfl ?_
  refine V_iconst (q := 11) (v := nI 0) dJ1_indexOf_4cfef_10 rfl (by decide) ?_
  have emx : (if nI 0 < nI 0 then nI 0 else nI 0) = nI 0 := if_neg (by decide)
  have emn : (if (8 : Int32) < 8 then (8 : Int32) else 8) = nI 8 := by decide
  refine XJ1_92 (q := 14) rfl dJ1_indexOf_4cfef_11 rfl (Nat.le_of_ble_eq_true rfl) (Nat.le_of_ble_eq_true rfl) (Nat.zero_le _) (Nat.zero_le _) emx ?_
  refine V_istore_n (q := 15) (ls' := [_, _, _, _]) dJ1_indexOf_4cfef_14 rfl (by decide) rfl ?_
  refine V_iload_n (q := 16) dJ1_indexOf_4cfef_15 rfl rfl ?_
  refine V_aload_n (q := 17) dJ1_indexOf_4cfef_16 rfl rfl rfl ?_
  refine V_blen (q := 18) dJ1_indexOf_4cfef_17 rfl ?_
  refine XJ1_38 (q := 21) rfl dJ1_indexOf_4cfef_18 rfl (Nat.le_of_ble_eq_true rfl) (Nat.le_of_ble_eq_true rfl) (Nat.zero_le _) (Nat.zero_le _) emn ?_
  refine V_istore_n (q := 22) (ls' := [_, _, _, _]) dJ1_indexOf_4cfef_21 rfl (by decide) rfl ?_
  refine V_iload_n (q := 23) dJ1_indexOf_4cfef_22 rfl rfl ?_
  refine V_iload_n (q := 24) dJ1_indexOf_4cfef_23 rfl rfl ?_
  refine V_icmpN_lt (q := 27) (tgt := 29) dJ1_indexOf_4cfef_24 (by decide) rfl (by omega) (by omega) (fun _ => ?_) (fun h9 => by first | exact h9.elim | (exfalso; omega))
  refine V_aload_n (q := 30) dJ1_indexOf_4cfef_29 rfl rfl rfl ?_
  refine V_iload_n (q := 31) dJ1_indexOf_4cfef_30 rfl rfl ?_
  refine V_iload_n (q := 32) dJ1_indexOf_4cfef_31 rfl rfl ?_
  refine V_iload_n (q := 33) dJ1_indexOf_4cfef_32 rfl rfl ?_
  refine CrJ1_95 (q := 36) rfl dJ1_indexOf_4cfef_33 rfl (c_ixChar hx) ⟨(Nat.le_of_ble_eq_true rfl), (Nat.le_of_ble_eq_true rfl)⟩ (Nat.le_of_ble_eq_true rfl) (Nat.zero_le _) (Nat.zero_le _) ?_
  skip
  exact V_iret dJ1_indexOf_4cfef_36 rfl (Nat.le_of_ble_eq_true rfl) (Nat.le_of_ble_eq_true rfl) (⟨rfl, rfl, rfl⟩)
theorem c_indexOf2 {x : Nat} (hx : x < 127) : CtR g l MJ0_indexOf_7cf53 5 [.ref g.2.2.2.1.1, .int (nI x), .int (nI 0)] w n (.int (if ixS x < 8 then nI (ixS x) else -1)) := by
  refine Ct.ofs (M := MJ0_indexOf_7cf53) (ls := [some _, some _, some _]) (by decide +kernel) (by exact (Nat.le_of_ble_eq_true rfl)) (by rfl) (by rfl) (by rfl) ?_
  refine V_aload_n (q := 1) dJ0_indexOf_7cf53_0 rfl rfl rfl ?_
  refine CrJ0_492 (q := 4) rfl dJ0_indexOf_7cf53_1 rfl (c_isLatin) ⟨(Nat.le_of_ble_eq_true rfl), (Nat.le_of_ble_eq_true rfl)⟩ (Nat.le_of_ble_eq_true rfl) (Nat.zero_le _) (Nat.zero_le _) ?_
  refine V_if_eq (q := 7) (tgt := 23) dJ0_indexOf_7cf53_4 (by decide) rfl (fun h9 => absurd h9 (by decide)) (fun _ => ?_)
  refine V_aload_n (q := 8) dJ0_indexOf_7cf53_7 rfl rfl rfl ?_
  refine V_getS (q := 11) (fun U H h => (h.1.1 0 (by decide)).2.2.1) dJ0_indexOf_7cf53_8 rfl wd_803 ?_
  refine V_iload_n (q := 12) dJ0_indexOf_7cf53_11 rfl rfl ?_
  refine V_iload_n (q := 13) dJ0_indexOf_7cf53_12 rfl rfl ?_
  refine V_aload_n (q := 14) dJ0_indexOf_7cf53_13 rfl rfl rfl ?_
  refine CrJ0_505 (q := 17) rfl dJ0_indexOf_7cf53_14 rfl (c_slen) ⟨(Nat.le_of_ble_eq_true rfl), (Nat.le_of_ble_eq_true rfl)⟩ (Nat.le_of_ble_eq_true rfl) (Nat.zero_le _) (Nat.zero_le _) ?_
  skip
  refine CrJ0_637 (q := 20) rfl dJ0_indexOf_7cf53_17 rfl (c_indexOf3 hx) ⟨(Nat.le_of_ble_eq_true rfl), (Nat.le_of_ble_eq_true rfl)⟩ (Nat.le_of_ble_eq_true rfl) (Nat.zero_le _) (Nat.zero_le _) ?_
  refine V_goto (tgt := 36) dJ0_indexOf_7cf53_20 (by decide) ?_
  exact V_iret dJ0_indexOf_7cf53_36 rfl (Nat.le_of_ble_eq_true rfl) (Nat.le_of_ble_eq_true rfl) (⟨rfl, rfl, rfl⟩)
theorem c_indexOf {x : Nat} (hx : x < 127) : CtR g l MJ0_indexOf_0f7a4 6 [.ref g.2.2.2.1.1, .int (nI x)] w n (.int (if ixS x < 8 then nI (ixS x) else -1)) := by
  refine Ct.ofs (M := MJ0_indexOf_0f7a4) (ls := [some _, some _]) (by decide +kernel) (by exact (Nat.le_of_ble_eq_true rfl)) (by rfl) (by rfl) (by rfl) ?_
  refine V_aload_n (q := 1) dJ0_indexOf_0f7a4_0 rfl rfl rfl ?_
  refine V_iload_n (q := 2) dJ0_indexOf_0f7a4_1 rfl rfl ?_
  refine V_iconst (q := 3) (v := nI 0) dJ0_indexOf_0f7a4_2 rfl (by decide) ?_
  refine CrJ0_633 (q := 6) rfl dJ0_indexOf_0f7a4_3 rfl (c_indexOf2 hx) ⟨(Nat.le_of_ble_eq_true rfl), (Nat.le_of_ble_eq_true rfl)⟩ (Nat.le_of_ble_eq_true rfl) (Nat.zero_le _) (Nat.zero_le _) ?_
  skip
  exact V_iret dJ0_indexOf_0f7a4_6 rfl (Nat.le_of_ble_eq_true rfl) (Nat.le_of_ble_eq_true rfl) (⟨rfl, rfl, rfl⟩)
end IX
