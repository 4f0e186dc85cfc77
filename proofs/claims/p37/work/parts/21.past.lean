/-! the fault position of a text; the past -/
def wAN (t : Nat → Nat) (tl i : Nat) : Nat := wantA (cdA t tl i)
def ltN (t : Nat → Nat) (tl i : Nat) : Nat := if 0 < wAN t tl i then 1 else 0
def dN (t : Nat → Nat) (tl i : Nat) : Nat := dgs t tl (i + ltN t tl i) (if 0 < wAN t tl i then wAN t tl i else 8)
def nxN (t : Nat → Nat) (tl i : Nat) : Nat := i + (ltN t tl i + dN t tl i)
def fltN (t : Nat → Nat) (tl : Nat) : Nat → Nat → Option Nat
  | 0, i => some i
  | f + 1, i => if dN t tl i = 0 ∨ dN t tl i < wAN t tl i then some (nxN t tl i) else if nxN t tl i = tl then none else if t (nxN t tl i) = 59 then fltN t tl f (nxN t tl i + 1) else some (nxN t tl i)
theorem wantN_le (c : Nat) : wantN c ≤ 3 := by unfold wantN; split <;> (try split) <;> omega
theorem wAN_le (t : Nat → Nat) (tl i : Nat) : wAN t tl i ≤ 3 := by
  unfold wAN wantA
  split
  · omega
  · exact wantN_le _
theorem ltN_le {t : Nat → Nat} {tl i : Nat} (hi : i ≤ tl) : i + ltN t tl i ≤ tl := by
  unfold ltN wAN cdA
  by_cases h : i < tl
  · by_cases q : 0 < wantA (if i < tl then some (t i) else none)
    · rw [if_pos q]; omega
    · rw [if_neg q]; omega
  · rw [if_neg h]
    show i + (if 0 < 0 then 1 else 0) ≤ tl
    simpa using hi
theorem nxN_le {t : Nat → Nat} {tl i : Nat} (hi : i ≤ tl) : nxN t tl i ≤ tl := by
  have h1 := ltN_le (t := t) hi
  unfold nxN
  rcases Nat.eq_zero_or_pos (dN t tl i) with z | z
  · omega
  · have h2 := (dgs_dig (t := t) (tl := tl) (s := i + ltN t tl i) (m := if 0 < wAN t tl i then wAN t tl i else 8) (k := dN t tl i - 1) (by show _ < dN t tl i; omega)).1
    omega
section PAST
variable {g : GG} {l : Launch} {w : HW} {n b tl p : Nat} {t : Nat → Nat}
theorem c_tfault (hT : TxF g w n b tl t) : CtR g l MX6_faultPosition 3 [rf g b] w n (.int (tI (fltN t tl 71 0))) := by
  have hT0 := hT
  obtain ⟨C, e1, e2, e3, e4, e5⟩ := hT
  refine Ct.ofs (M := MX6_faultPosition) (ls := [some _, none, none, none, none, none]) (by decide +kernel) (by exact (Nat.le_of_ble_eq_true rfl)) (by rfl) (by rfl) (by rfl) ?_
  refine V_iconst (q := 1) (v := nI 0) dX6_faultPosition_0 rfl (by decide) ?_
  refine V_istore_n (q := 2) (ls' := [_, _, _, _, _, _]) dX6_faultPosition_1 rfl (by decide) (by rfl) rfl ?_
  refine V_iconst (q := 3) (v := nI 0) dX6_faultPosition_2 rfl (by decide) ?_
  refine V_istore_n (q := 4) (ls' := [_, _, _, _, _, _]) dX6_faultPosition_3 rfl (by decide) (by rfl) rfl ?_
  have key : ∀ k, k ≤ 71 → ∀ i, i ≤ tl → V g l MX6_faultPosition (rmd 3 0 0) (FinM g (qR (.int (tI (fltN t tl (71 - k) i))) w n) 0 0) 4 [some (rf g b), some (.int (nI i)), some (.int (nI k)), none, none, none] [] w n 0 0 := by
    refine loopU (fun k => ∀ i, i ≤ tl → V g l MX6_faultPosition (rmd 3 0 0) (FinM g (qR (.int (tI (fltN t tl (71 - k) i))) w n) 0 0) 4 [some (rf g b), some (.int (nI i)), some (.int (nI k)), none, none, none] [] w n 0 0) 71 ?_ ?_
    · intro i hi
      refine V_iload_n (q := 5) dX6_faultPosition_4 rfl rfl ?_
      refine V_bipush (q := 7) (v := nI 70) dX6_faultPosition_5 rfl (by decide) ?_
      refine V_icmpN_gt (q := 10) (tgt := 102) dX6_faultPosition_7 (by decide) rfl (by omega) (by omega) (fun _ => ?_) (fun h9 => by first | exact h9.elim | (exfalso; omega))
      refine V_iload_n (q := 103) dX6_faultPosition_102 rfl rfl ?_
      exact V_iret dX6_faultPosition_103 rfl (Nat.le_of_ble_eq_true rfl) (Nat.le_of_ble_eq_true rfl) (⟨rfl, rfl, rfl⟩)
    · intro k hk ih i hi
      have w3 := wAN_le t tl i
      have nx := nxN_le (t := t) hi
      have hl := ltN_le (t := t) hi
      obtain ⟨f, hf⟩ : ∃ f, 71 - k = f + 1 := ⟨70 - k, by omega⟩
      have hcd : ∀ q, cdA t tl i = some q → q ≤ 126 := by
        intro q hq
        unfold cdA at hq
        by_cases z : i < tl
        · rw [if_pos z] at hq
          cases hq
          exact (e5 i z).2.2
        · rw [if_neg z] at hq
          cases hq
      have d8 : dN t tl i ≤ 8 := by
        unfold dN
        refine Nat.le_trans (dgs_le _ _ _ _) ?_
        split <;> omega
      refine V_iload_n (q := 5) dX6_faultPosition_4 rfl rfl ?_
      refine V_bipush (q := 7) (v := nI 70) dX6_faultPosition_5 rfl (by decide) ?_
      refine V_icmpN_gt (q := 10) (tgt := 102) dX6_faultPosition_7 (by decide) rfl (by omega) (by omega) (fun h9 => by first | exact h9.elim | exact absurd h9 (by assumption) | (exfalso; omega)) (fun _ => ?_)
      refine V_aload_n (q := 11) dX6_faultPosition_10 rfl rfl rfl ?_
      refine V_iload_n (q := 12) dX6_faultPosition_11 rfl rfl ?_
      refine CrX6_19 (q := 15) rfl dX6_faultPosition_12 rfl (c_tcode hT0 (by omega)) ⟨(Nat.le_of_ble_eq_true rfl), (Nat.le_of_ble_eq_true rfl)⟩ (Nat.le_of_ble_eq_true rfl) (by first | assumption | exact up_eq | exact (up_ne (by omega)).trans (by first | assumption | exact up_eq | exact (up_ne (by omega)).trans (by first | assumption | exact up_eq | exact (up_ne (by omega)).trans (by first | assumption | exact up_eq)))) (by omega) (Nat.zero_le _) (Nat.zero_le _) ?_
      refine CrX6_26 (q := 18) rfl dX6_faultPosition_15 rfl (c_twant hcd) ⟨(Nat.le_of_ble_eq_true rfl), (Nat.le_of_ble_eq_true rfl)⟩ (Nat.le_of_ble_eq_true rfl) (Nat.zero_le _) (Nat.zero_le _) ?_
      refine V_topi (show nI (wantA (cdA t tl i)) = nI (wAN t tl i) from rfl) ?_
      refine V_istore_n (q := 19) (ls' := [_, _, _, _, _, _]) dX6_faultPosition_18 rfl (by decide) (by rfl) rfl ?_
      refine V_iload_n (q := 20) dX6_faultPosition_19 rfl rfl ?_
      -- behind the digits
      have tail : V g l MX6_faultPosition (rmd 3 0 0) (FinM g (qR (.int (tI (fltN t tl (71 - k) i))) w n) 0 0) 48 [some (rf g b), some (.int (nI i)), some (.int (nI k)), some (.int (nI (wAN t tl i))), some (.int (nI (ltN t tl i))), none] [.int (nI (dN t tl i))] w n 0 0 := by
        refine V_istore (q := 50) (ls' := [_, _, _, _, _, _]) dX6_faultPosition_48 rfl (by decide) (by rfl) rfl ?_
        refine V_iload_n (q := 51) dX6_faultPosition_50 rfl rfl ?_
        refine V_iload (q := 53) dX6_faultPosition_51 rfl rfl ?_
        refine V_iload (q := 55) dX6_faultPosition_53 rfl rfl ?_
        refine V_iadd (q := 56) dX6_faultPosition_55 rfl (by first | exact nI_add _ _ | rfl) ?_
        refine V_iadd (q := 57) dX6_faultPosition_56 rfl (by first | exact nI_add _ _ | rfl) ?_
        refine V_istore_n (q := 58) (ls' := [_, _, _, _, _, _]) dX6_faultPosition_57 rfl (by decide) (by rfl) rfl ?_
        refine V_iload (q := 60) dX6_faultPosition_58 rfl rfl ?_
        refine V_weak (ls2 := [some (rf g b), some (.int (nI (nxN t tl i))), some (.int (nI k)), some (.int (nI (wAN t tl i))), some (.int (nI (ltN t tl i))), some (.int (nI (dN t tl i)))]) rfl (fun i v h => h) ?_
        have bad : (dN t tl i = 0 ∨ dN t tl i < wAN t tl i) → V g l MX6_faultPosition (rmd 3 0 0) (FinM g (qR (.int (tI (fltN t tl (71 - k) i))) w n) 0 0) 69 [some (rf g b), some (.int (nI (nxN t tl i))), some (.int (nI k)), some (.int (nI (wAN t tl i))), some (.int (nI (ltN t tl i))), some (.int (nI (dN t tl i)))] [] w n 0 0 := by
          intro hbad
          refine V_iload_n (q := 70) dX6_faultPosition_69 rfl rfl ?_
          exact V_iret dX6_faultPosition_70 rfl (Nat.le_of_ble_eq_true rfl) (Nat.le_of_ble_eq_true rfl) (⟨rfl, by rw [hf, fltN, if_pos hbad]; rfl, rfl⟩)
        refine V_ifN_eq (q := 63) (tgt := 69) dX6_faultPosition_60 (by decide) rfl (by omega) (fun h1 => ?_) (fun h1 => ?_)
        · skip
          exact bad (Or.inl h1)
        · skip
          refine V_iload (q := 65) dX6_faultPosition_63 rfl rfl ?_
          refine V_iload_n (q := 66) dX6_faultPosition_65 rfl rfl ?_
          refine V_icmpN_ge (q := 69) (tgt := 71) dX6_faultPosition_66 (by decide) rfl (by omega) (by omega) (fun h2 => ?_) (fun h2 => ?_)
          · skip
            refine V_iload_n (q := 72) dX6_faultPosition_71 rfl rfl ?_
            refine V_aload_n (q := 73) dX6_faultPosition_72 rfl rfl rfl ?_
            refine GX6_15 (q := 76) rfl dX6_faultPosition_73 rfl (by first | assumption | exact up_eq | exact (up_ne (by omega)).trans (by first | assumption | exact up_eq | exact (up_ne (by omega)).trans (by first | assumption | exact up_eq | exact (up_ne (by omega)).trans (by first | assumption | exact up_eq)))) (by omega) (by rfl) ?_
            refine V_icmpN_ne (q := 79) (tgt := 81) dX6_faultPosition_76 (by decide) rfl (by omega) (by omega) (fun h3 => ?_) (fun h3 => ?_)
            · skip
              by_cases hlt : nxN t tl i < tl
              · skip
                refine V_aload_n (q := 82) dX6_faultPosition_81 rfl rfl rfl ?_
                refine V_iload_n (q := 83) dX6_faultPosition_82 rfl rfl ?_
                refine CrX6_19 (q := 86) rfl dX6_faultPosition_83 rfl (c_tcode hT0 (by omega)) ⟨(Nat.le_of_ble_eq_true rfl), (Nat.le_of_ble_eq_true rfl)⟩ (Nat.le_of_ble_eq_true rfl) (by first | assumption | exact up_eq | exact (up_ne (by omega)).trans (by first | assumption | exact up_eq | exact (up_ne (by omega)).trans (by first | assumption | exact up_eq | exact (up_ne (by omega)).trans (by first | assumption | exact up_eq)))) (by omega) (Nat.zero_le _) (Nat.zero_le _) ?_
                refine V_topi (show tI (cdA t tl (nxN t tl i)) = nI (t (nxN t tl i)) by unfold cdA; rw [if_pos hlt]; rfl) ?_
                have := e5 _ hlt
                refine V_bipush (q := 88) (v := nI 59) dX6_faultPosition_86 rfl (by decide) ?_
                refine V_icmpN_eq (q := 91) (tgt := 93) dX6_faultPosition_88 (by decide) rfl (by omega) (by omega) (fun h4 => ?_) (fun h4 => ?_)
                · skip
                  refine V_iinc (q := 96) (ls' := [_, _, _, _, _, _]) dX6_faultPosition_93 rfl (by decide) (by rfl) rfl (by first | exact inc1 _ | rfl) rfl ?_
                  refine V_iinc (q := 99) (ls' := [_, _, _, _, _, _]) dX6_faultPosition_96 rfl (by decide) (by rfl) rfl (by first | exact inc1 _ | rfl) rfl ?_
                  refine V_goto (tgt := 4) dX6_faultPosition_99 (by decide) ?_
                  have ih2 := ih (nxN t tl i + 1) hlt
                  rw [show 71 - (k + 1) = f by omega] at ih2
                  refine V_fg 3 (ls2 := [_, _, _, none, _, _]) (by rfl) ?_
                  refine V_fg 4 (ls2 := [_, _, _, _, none, _]) (by rfl) ?_
                  refine V_fg 5 (ls2 := [_, _, _, _, _, none]) (by rfl) ?_
                  rw [hf, fltN, if_neg (by omega), if_neg h3, if_pos h4]
                  exact ih2
                · skip
                  refine V_iload_n (q := 92) dX6_faultPosition_91 rfl rfl ?_
                  exact V_iret dX6_faultPosition_92 rfl (Nat.le_of_ble_eq_true rfl) (Nat.le_of_ble_eq_true rfl) (⟨rfl, by rw [hf, fltN, if_neg (by omega), if_neg h3, if_neg h4]; rfl, rfl⟩)
              · exact absurd (by omega : nxN t tl i = tl) h3
            · skip
              refine V_iconst (q := 80) (v := (-1)) dX6_faultPosition_79 rfl (by decide) ?_
              exact V_iret dX6_faultPosition_80 rfl (Nat.le_of_ble_eq_true rfl) (Nat.le_of_ble_eq_true rfl) (⟨rfl, by rw [hf, fltN, if_neg (by omega), if_pos h3]; rfl, rfl⟩)
          · skip
            exact bad (Or.inr h2)
      refine V_ifN_le (q := 23) (tgt := 27) dX6_faultPosition_20 (by decide) rfl (by omega) (fun h1 => ?_) (fun h1 => ?_)
      · skip
        have hw : wAN t tl i = 0 := by omega
        have hlt : ltN t tl i = 0 := by unfold ltN; rw [if_neg (by omega)]
        have hdn : dgs t tl (i + 0) 8 = dN t tl i := by unfold dN; rw [hlt, if_neg (by omega)]
        refine V_iconst (q := 28) (v := nI 0) dX6_faultPosition_27 rfl (by decide) ?_
        refine V_istore (q := 30) (ls' := [_, _, _, _, _, _]) dX6_faultPosition_28 rfl (by decide) (by rfl) rfl ?_
        refine V_aload_n (q := 31) dX6_faultPosition_30 rfl rfl rfl ?_
        refine V_iload_n (q := 32) dX6_faultPosition_31 rfl rfl ?_
        refine V_iload (q := 34) dX6_faultPosition_32 rfl rfl ?_
        refine V_iadd (q := 35) dX6_faultPosition_34 rfl (nI_add i 0) ?_
        refine V_iload_n (q := 36) dX6_faultPosition_35 rfl rfl ?_
        refine V_ifN_le (q := 39) (tgt := 43) dX6_faultPosition_36 (by decide) rfl (by omega) (fun _ => ?_) (fun h9 => by first | exact h9.elim | (exfalso; omega))
        refine V_bipush (q := 45) (v := nI 8) dX6_faultPosition_43 rfl (by decide) ?_
        refine CrX6_29 (q := 48) rfl dX6_faultPosition_45 rfl (c_tdigits hT0 (by omega) (by omega)) ⟨(Nat.le_of_ble_eq_true rfl), (Nat.le_of_ble_eq_true rfl)⟩ (Nat.le_of_ble_eq_true rfl) (by first | assumption | exact up_eq | exact (up_ne (by omega)).trans (by first | assumption | exact up_eq | exact (up_ne (by omega)).trans (by first | assumption | exact up_eq | exact (up_ne (by omega)).trans (by first | assumption | exact up_eq)))) (by omega) (Nat.zero_le _) (Nat.zero_le _) ?_
        rw [hdn]
        rw [hlt] at tail
        exact tail
      · skip
        have hlt : ltN t tl i = 1 := by unfold ltN; rw [if_pos h1]
        have hdn : dgs t tl (i + 1) (wAN t tl i) = dN t tl i := by unfold dN; rw [hlt, if_pos h1]
        refine V_iconst (q := 24) (v := nI 1) dX6_faultPosition_23 rfl (by decide) ?_
        refine V_goto (tgt := 28) dX6_faultPosition_24 (by decide) ?_
        refine V_istore (q := 30) (ls' := [_, _, _, _, _, _]) dX6_faultPosition_28 rfl (by decide) (by rfl) rfl ?_
        refine V_aload_n (q := 31) dX6_faultPosition_30 rfl rfl rfl ?_
        refine V_iload_n (q := 32) dX6_faultPosition_31 rfl rfl ?_
        refine V_iload (q := 34) dX6_faultPosition_32 rfl rfl ?_
        refine V_iadd (q := 35) dX6_faultPosition_34 rfl (by first | exact nI_add _ _ | rfl) ?_
        refine V_iload_n (q := 36) dX6_faultPosition_35 rfl rfl ?_
        refine V_ifN_le (q := 39) (tgt := 43) dX6_faultPosition_36 (by decide) rfl (by omega) (fun h9 => by first | exact h9.elim | exact absurd h9 (by assumption) | (exfalso; omega)) (fun _ => ?_)
        refine V_iload_n (q := 40) dX6_faultPosition_39 rfl rfl ?_
        refine V_goto (tgt := 45) dX6_faultPosition_40 (by decide) ?_
        refine CrX6_29 (q := 48) rfl dX6_faultPosition_45 rfl (c_tdigits hT0 (by omega) (by omega)) ⟨(Nat.le_of_ble_eq_true rfl), (Nat.le_of_ble_eq_true rfl)⟩ (Nat.le_of_ble_eq_true rfl) (by first | assumption | exact up_eq | exact (up_ne (by omega)).trans (by first | assumption | exact up_eq | exact (up_ne (by omega)).trans (by first | assumption | exact up_eq | exact (up_ne (by omega)).trans (by first | assumption | exact up_eq)))) (by omega) (Nat.zero_le _) (Nat.zero_le _) ?_
        rw [hdn]
        rw [hlt] at tail
        exact tail
  exact key 0 (Nat.zero_le _) 0 (Nat.zero_le _)
/-- the past at p: the i-th latest of the pk stands kept is Hs i -/
def PaF (g : GG) (w : HW) (n p pk : Nat) (Hs : Nat → StT) : Prop := ∃ (pn : Nat) (G : Nat → Option Nat) (PS : Nat → StT), pn < 8 ∧ w p = eO 2 [rf g (p + 1), .int (nI pn), .int (nI pk)] ∧ w (p + 1) = eS g 8 G ∧ (∀ k, k < 8 → G k = some (g.1 + (p + 2 + 14 * k))) ∧ (∀ k, k < 8 → Sd g w n (p + 2 + 14 * k) (PS k)) ∧ pk ≤ 8 ∧ (∀ i, i < pk → PS ((pn + 7 - i) % 8) = Hs i) ∧ p + 114 ≤ n
def FrP (w w' : HW) (p : Nat) : Prop := ∀ i, (i < p ∨ p + 114 ≤ i) → w' i = w i
theorem PaF.frame {w' : HW} {pk : Nat} {Hs : Nat → StT} (h : PaF g w n p pk Hs) (hw : ∀ i, p ≤ i → i < p + 114 → w' i = w i) : PaF g w' n p pk Hs := by
  obtain ⟨pn, G, PS, h0, h1, h2, h3, h4, h5, h6, h7⟩ := h
  exact ⟨pn, G, PS, h0, (hw _ (by omega) (by omega)).trans h1, (hw _ (by omega) (by omega)).trans h2, h3, fun k hk => (h4 k hk).frame (fun i h1 h2 => hw i (by omega) (by omega)), h5, h6, h7⟩
def conS (S : StT) (Hs : Nat → StT) : Nat → StT := fun i => if i = 0 then S else Hs (i - 1)
theorem Sd.obj {a : Nat} {S : StT} (h : Sd g w n a S) : w a = eO 5 (sfs g a S) ∧ a + 14 ≤ n := by
  obtain ⟨G, π, LL, FF, h0, h1, h2, h3⟩ := h
  exact ⟨h0, h2⟩
theorem c_keep {pk : Nat} {Hs : Nat → StT} {S : StT} (hP : PaF g w n p pk Hs) (hS : Sd g w n b S) (hb : b + 14 ≤ p ∨ p + 114 ≤ b) : CtV g l MX2_keep 3 [rf g p, rf g b] w n (fun w' => PaF g w' n p (min (pk + 1) 8) (conS S Hs) ∧ FrP w w' p) := by
  obtain ⟨pn, G, PS, h0, h1, h2, h3, h4, h5, h6, h7⟩ := hP
  have hq := h4 pn h0
  obtain ⟨hqo, hqn⟩ := hq.obj
  have emin : (if nI 8 < nI (pk + 1) then nI 8 else nI (pk + 1)) = nI (min (pk + 1) 8) := by
    by_cases q : 8 < pk + 1
    · rw [if_pos ((nI_ltI (by omega) (by omega)).mpr q), Nat.min_eq_right (by omega)]
    · rw [if_neg (mt (nI_ltI (by omega) (by omega)).mp q), Nat.min_eq_left (by omega)]
  refine Ct.ofs (M := MX2_keep) (ls := [some _, some _, none]) (by decide +kernel) (by exact (Nat.le_of_ble_eq_true rfl)) (by rfl) (by rfl) (by rfl) ?_
  refine V_aload_n (q := 1) dX2_keep_0 rfl rfl rfl ?_
  refine GX2_18 (q := 4) rfl dX2_keep_1 rfl (by first | assumption | exact up_eq | exact (up_ne (by omega)).trans (by first | assumption | exact up_eq | exact (up_ne (by omega)).trans (by first | assumption | exact up_eq | exact (up_ne (by omega)).trans (by first | assumption | exact up_eq)))) (by omega) (by rfl) ?_
  refine V_ifN_lt (q := 7) (tgt := 19) dX2_keep_4 (by decide) rfl (by omega) (fun h9 => by first | exact h9.elim | exact absurd h9 (by assumption) | (exfalso; omega)) (fun _ => ?_)
  refine V_aload_n (q := 8) dX2_keep_7 rfl rfl rfl ?_
  refine GX2_18 (q := 11) rfl dX2_keep_8 rfl (by first | assumption | exact up_eq | exact (up_ne (by omega)).trans (by first | assumption | exact up_eq | exact (up_ne (by omega)).trans (by first | assumption | exact up_eq | exact (up_ne (by omega)).trans (by first | assumption | exact up_eq)))) (by omega) (by rfl) ?_
  refine V_aload_n (q := 12) dX2_keep_11 rfl rfl rfl ?_
  refine GX2_11 (q := 15) rfl dX2_keep_12 rfl (by first | assumption | exact up_eq | exact (up_ne (by omega)).trans (by first | assumption | exact up_eq | exact (up_ne (by omega)).trans (by first | assumption | exact up_eq | exact (up_ne (by omega)).trans (by first | assumption | exact up_eq)))) (by omega) (by rfl) ?_
  refine V_alenS (q := 16) dX2_keep_15 rfl (by first | assumption | exact up_eq | exact (up_ne (by omega)).trans (by first | assumption | exact up_eq | exact (up_ne (by omega)).trans (by first | assumption | exact up_eq | exact (up_ne (by omega)).trans (by first | assumption | exact up_eq)))) (by omega) ?_
  refine V_icmpN_lt (q := 19) (tgt := 20) dX2_keep_16 (by decide) rfl (by omega) (by omega) (fun _ => ?_) (fun h9 => by first | exact h9.elim | (exfalso; omega))
  refine V_aload_n (q := 21) dX2_keep_20 rfl rfl rfl ?_
  refine GX2_11 (q := 24) rfl dX2_keep_21 rfl (by first | assumption | exact up_eq | exact (up_ne (by omega)).trans (by first | assumption | exact up_eq | exact (up_ne (by omega)).trans (by first | assumption | exact up_eq | exact (up_ne (by omega)).trans (by first | assumption | exact up_eq)))) (by omega) (by rfl) ?_
  refine V_aload_n (q := 25) dX2_keep_24 rfl rfl rfl ?_
  refine GX2_18 (q := 28) rfl dX2_keep_25 rfl (by first | assumption | exact up_eq | exact (up_ne (by omega)).trans (by first | assumption | exact up_eq | exact (up_ne (by omega)).trans (by first | assumption | exact up_eq | exact (up_ne (by omega)).trans (by first | assumption | exact up_eq)))) (by omega) (by rfl) ?_
  refine V_aaldS (q := 29) dX2_keep_28 rfl (by first | assumption | exact up_eq | exact (up_ne (by omega)).trans (by first | assumption | exact up_eq | exact (up_ne (by omega)).trans (by first | assumption | exact up_eq | exact (up_ne (by omega)).trans (by first | assumption | exact up_eq)))) (by omega) (by omega) (by omega) rfl (congrArg va_rf (h3 pn h0)) ?_
  refine V_astore_n (q := 30) (ls' := [_, _, _]) dX2_keep_29 rfl (by decide) (by rfl) rfl rfl ?_
  refine V_aload_n (q := 31) dX2_keep_30 rfl rfl rfl ?_
  refine V_ifnonnull (tgt := 35) dX2_keep_31 (by decide) ?_
  refine V_aload_n (q := 36) dX2_keep_35 rfl rfl rfl ?_
  refine V_aload_n (q := 37) dX2_keep_36 rfl rfl rfl ?_
  refine CvX2_22 (q := 40) rfl dX2_keep_37 rfl (c_copyFrom hq hS (by omega)) ⟨(Nat.le_of_ble_eq_true rfl), (Nat.le_of_ble_eq_true rfl)⟩ (Nat.le_of_ble_eq_true rfl) (by first | assumption | exact up_eq | exact (up_ne (by omega)).trans (by first | assumption | exact up_eq | exact (up_ne (by omega)).trans (by first | assumption | exact up_eq | exact (up_ne (by omega)).trans (by first | assumption | exact up_eq)))) (by omega) (Nat.zero_le _) (Nat.zero_le _) (fun w1 hw1 => ?_)
  obtain ⟨hS1, hF1⟩ := hw1
  have b0 : w1 p = eO 2 [rf g (p + 1), .int (nI pn), .int (nI pk)] := (hF1 p (by omega)).trans h1
  have b1 : w1 (p + 1) = eS g 8 G := (hF1 (p + 1) (by omega)).trans h2
  have fin : ∀ pn', pn' < 8 → pn' % 8 = (pn + 1) % 8 → ∀ w2, w2 = va_up w1 p (eO 2 [rf g (p + 1), .int (nI pn'), .int (nI (min (pk + 1) 8))]) → PaF g w2 n p (min (pk + 1) 8) (conS S Hs) ∧ FrP w w2 p := by
    intro pn' hpn hmod w2 hw2
    refine ⟨⟨pn', G, fun k => if k = pn then S else PS k, hpn, by rw [hw2]; exact up_eq, by rw [hw2]; exact (up_ne (by omega)).trans b1, h3, fun k hk => ?_, by omega, fun i hi => ?_, h7⟩, fun i hi => by rw [hw2]; exact (up_ne (by omega)).trans (hF1 i (by omega))⟩
    · show Sd g w2 n (p + 2 + 14 * k) (if k = pn then S else PS k)
      by_cases e : k = pn
      · rw [if_pos e, e, hw2]
        exact hS1.frame (fun i z1 z2 => up_ne (by omega))
      · rw [if_neg e, hw2]
        exact (h4 k hk).frame (fun i z1 z2 => (up_ne (by omega)).trans (hF1 i (by omega)))
    · unfold conS
      show (if (pn' + 7 - i) % 8 = pn then S else PS ((pn' + 7 - i) % 8)) = _
      by_cases e : i = 0
      · rw [if_pos e, if_pos (by omega)]
      · rw [if_neg e]
        have e2 : (pn' + 7 - i) % 8 = (pn + 7 - (i - 1)) % 8 := by omega
        show (if (pn' + 7 - i) % 8 = pn then S else PS ((pn' + 7 - i) % 8)) = _
        rw [if_neg (by omega), e2]
        exact h6 (i - 1) (by omega)
  refine V_aload_n (q := 41) dX2_keep_40 rfl rfl rfl ?_
  refine V_aload_n (q := 42) dX2_keep_41 rfl rfl rfl ?_
  refine GX2_18 (q := 45) rfl dX2_keep_42 rfl (by first | assumption | exact up_eq | exact (up_ne (by omega)).trans (by first | assumption | exact up_eq | exact (up_ne (by omega)).trans (by first | assumption | exact up_eq | exact (up_ne (by omega)).trans (by first | assumption | exact up_eq)))) (by omega) (by rfl) ?_
  refine V_iconst (q := 46) (v := nI 1) dX2_keep_45 rfl (by decide) ?_
  refine V_iadd (q := 47) dX2_keep_46 rfl (by first | exact nI_add _ _ | rfl) ?_
  refine V_aload_n (q := 48) dX2_keep_47 rfl rfl rfl ?_
  refine GX2_11 (q := 51) rfl dX2_keep_48 rfl (by first | assumption | exact up_eq | exact (up_ne (by omega)).trans (by first | assumption | exact up_eq | exact (up_ne (by omega)).trans (by first | assumption | exact up_eq | exact (up_ne (by omega)).trans (by first | assumption | exact up_eq)))) (by omega) (by rfl) ?_
  refine V_alenS (q := 52) dX2_keep_51 rfl (by first | assumption | exact up_eq | exact (up_ne (by omega)).trans (by first | assumption | exact up_eq | exact (up_ne (by omega)).trans (by first | assumption | exact up_eq | exact (up_ne (by omega)).trans (by first | assumption | exact up_eq)))) (by omega) ?_
  refine V_icmpN_ge (q := 55) (tgt := 64) dX2_keep_52 (by decide) rfl (by omega) (by omega) (fun hc => ?_) (fun hc => ?_)
  · skip
    refine V_iconst (q := 65) (v := nI 0) dX2_keep_64 rfl (by decide) ?_
    refine PX2_18 (q := 68) (fs' := [_, _, _]) rfl dX2_keep_65 rfl (by first | assumption | exact up_eq | exact (up_ne (by omega)).trans (by first | assumption | exact up_eq | exact (up_ne (by omega)).trans (by first | assumption | exact up_eq | exact (up_ne (by omega)).trans (by first | assumption | exact up_eq)))) (by omega) (by exact (Nat.le_of_ble_eq_true rfl)) (by rfl) ?_
    try rw [up_up]
    refine V_aload_n (q := 69) dX2_keep_68 rfl rfl rfl ?_
    refine V_aload_n (q := 70) dX2_keep_69 rfl rfl rfl ?_
    refine GX2_26 (q := 73) rfl dX2_keep_70 rfl (by first | assumption | exact up_eq | exact (up_ne (by omega)).trans (by first | assumption | exact up_eq | exact (up_ne (by omega)).trans (by first | assumption | exact up_eq | exact (up_ne (by omega)).trans (by first | assumption | exact up_eq)))) (by omega) (by rfl) ?_
    refine V_iconst (q := 74) (v := nI 1) dX2_keep_73 rfl (by decide) ?_
    refine V_iadd (q := 75) dX2_keep_74 rfl (by first | exact nI_add _ _ | rfl) ?_
    refine V_bipush (q := 77) (v := nI 8) dX2_keep_75 rfl (by decide) ?_
    refine XX2_29 (q := 80) rfl dX2_keep_77 rfl (Nat.le_of_ble_eq_true rfl) (Nat.le_of_ble_eq_true rfl) (Nat.zero_le _) (Nat.zero_le _) emin ?_
    refine PX2_26 (q := 83) (fs' := [_, _, _]) rfl dX2_keep_80 rfl (by first | assumption | exact up_eq | exact (up_ne (by omega)).trans (by first | assumption | exact up_eq | exact (up_ne (by omega)).trans (by first | assumption | exact up_eq | exact (up_ne (by omega)).trans (by first | assumption | exact up_eq)))) (by omega) (by exact (Nat.le_of_ble_eq_true rfl)) (by rfl) ?_
    try rw [up_up]
    exact V_vret dX2_keep_83 rfl (Nat.le_of_ble_eq_true rfl) (Nat.le_of_ble_eq_true rfl) (⟨rfl, rfl, fin 0 (by decide) (by omega) _ rfl⟩)
  · skip
    refine V_aload_n (q := 56) dX2_keep_55 rfl rfl rfl ?_
    refine GX2_18 (q := 59) rfl dX2_keep_56 rfl (by first | assumption | exact up_eq | exact (up_ne (by omega)).trans (by first | assumption | exact up_eq | exact (up_ne (by omega)).trans (by first | assumption | exact up_eq | exact (up_ne (by omega)).trans (by first | assumption | exact up_eq)))) (by omega) (by rfl) ?_
    refine V_iconst (q := 60) (v := nI 1) dX2_keep_59 rfl (by decide) ?_
    refine V_iadd (q := 61) dX2_keep_60 rfl (by first | exact nI_add _ _ | rfl) ?_
    refine V_goto (tgt := 65) dX2_keep_61 (by decide) ?_
    refine PX2_18 (q := 68) (fs' := [_, _, _]) rfl dX2_keep_65 rfl (by first | assumption | exact up_eq | exact (up_ne (by omega)).trans (by first | assumption | exact up_eq | exact (up_ne (by omega)).trans (by first | assumption | exact up_eq | exact (up_ne (by omega)).trans (by first | assumption | exact up_eq)))) (by omega) (by exact (Nat.le_of_ble_eq_true rfl)) (by rfl) ?_
    try rw [up_up]
    refine V_aload_n (q := 69) dX2_keep_68 rfl rfl rfl ?_
    refine V_aload_n (q := 70) dX2_keep_69 rfl rfl rfl ?_
    refine GX2_26 (q := 73) rfl dX2_keep_70 rfl (by first | assumption | exact up_eq | exact (up_ne (by omega)).trans (by first | assumption | exact up_eq | exact (up_ne (by omega)).trans (by first | assumption | exact up_eq | exact (up_ne (by omega)).trans (by first | assumption | exact up_eq)))) (by omega) (by rfl) ?_
    refine V_iconst (q := 74) (v := nI 1) dX2_keep_73 rfl (by decide) ?_
    refine V_iadd (q := 75) dX2_keep_74 rfl (by first | exact nI_add _ _ | rfl) ?_
    refine V_bipush (q := 77) (v := nI 8) dX2_keep_75 rfl (by decide) ?_
    refine XX2_29 (q := 80) rfl dX2_keep_77 rfl (Nat.le_of_ble_eq_true rfl) (Nat.le_of_ble_eq_true rfl) (Nat.zero_le _) (Nat.zero_le _) emin ?_
    refine PX2_26 (q := 83) (fs' := [_, _, _]) rfl dX2_keep_80 rfl (by first | assumption | exact up_eq | exact (up_ne (by omega)).trans (by first | assumption | exact up_eq | exact (up_ne (by omega)).trans (by first | assumption | exact up_eq | exact (up_ne (by omega)).trans (by first | assumption | exact up_eq)))) (by omega) (by exact (Nat.le_of_ble_eq_true rfl)) (by rfl) ?_
    try rw [up_up]
    exact V_vret dX2_keep_83 rfl (Nat.le_of_ble_eq_true rfl) (Nat.le_of_ble_eq_true rfl) (⟨rfl, rfl, fin (pn + 1) (by omega) rfl _ rfl⟩)
theorem c_takeBack_no {Hs : Nat → StT} {x : Nat} (hP : PaF g w n p 0 Hs) : CtI g l MX2_takeBack 3 [rf g p, .ref x] w n (fun y w' => y = 0 ∧ w' = w) := by
  obtain ⟨pn, G, PS, h0, h1, h2, h3, h4, h5, h6, h7⟩ := hP
  refine Ct.ofs (M := MX2_takeBack) (ls := [some _, some _, none, none]) (by decide +kernel) (by exact (Nat.le_of_ble_eq_true rfl)) (by rfl) (by rfl) (by rfl) ?_
  refine V_aload_n (q := 1) dX2_takeBack_0 rfl rfl rfl ?_
  refine GX2_18 (q := 4) rfl dX2_takeBack_1 rfl (by first | assumption | exact up_eq | exact (up_ne (by omega)).trans (by first | assumption | exact up_eq | exact (up_ne (by omega)).trans (by first | assumption | exact up_eq | exact (up_ne (by omega)).trans (by first | assumption | exact up_eq)))) (by omega) (by rfl) ?_
  refine V_ifN_le (q := 7) (tgt := 16) dX2_takeBack_4 (by decide) rfl (by omega) (fun hc => ?_) (fun hc => ?_)
  · skip
    refine V_aload_n (q := 17) dX2_takeBack_16 rfl rfl rfl ?_
    refine GX2_11 (q := 20) rfl dX2_takeBack_17 rfl (by first | assumption | exact up_eq | exact (up_ne (by omega)).trans (by first | assumption | exact up_eq | exact (up_ne (by omega)).trans (by first | assumption | exact up_eq | exact (up_ne (by omega)).trans (by first | assumption | exact up_eq)))) (by omega) (by rfl) ?_
    refine V_alenS (q := 21) dX2_takeBack_20 rfl (by first | assumption | exact up_eq | exact (up_ne (by omega)).trans (by first | assumption | exact up_eq | exact (up_ne (by omega)).trans (by first | assumption | exact up_eq | exact (up_ne (by omega)).trans (by first | assumption | exact up_eq)))) (by omega) ?_
    refine V_iconst (q := 22) (v := nI 1) dX2_takeBack_21 rfl (by decide) ?_
    refine V_isub (q := 23) dX2_takeBack_22 rfl (by first | exact pk_sub (by omega) | rfl) ?_
    refine V_istore_n (q := 24) (ls' := [_, _, _, _]) dX2_takeBack_23 rfl (by decide) (by rfl) rfl ?_
    refine V_aload_n (q := 25) dX2_takeBack_24 rfl rfl rfl ?_
    refine GX2_26 (q := 28) rfl dX2_takeBack_25 rfl (by first | assumption | exact up_eq | exact (up_ne (by omega)).trans (by first | assumption | exact up_eq | exact (up_ne (by omega)).trans (by first | assumption | exact up_eq | exact (up_ne (by omega)).trans (by first | assumption | exact up_eq)))) (by omega) (by rfl) ?_
    refine V_ifN_le (q := 31) (tgt := 40) dX2_takeBack_28 (by decide) rfl (by omega) (fun _ => ?_) (fun h9 => by first | exact h9.elim | (exfalso; omega))
    refine V_iconst (q := 41) (v := nI 0) dX2_takeBack_40 rfl (by decide) ?_
    exact V_zret dX2_takeBack_41 rfl (rfl) (Nat.le_of_ble_eq_true rfl) (Nat.le_of_ble_eq_true rfl) (⟨rfl, _, rfl, rfl, rfl⟩)
  · skip
    refine V_aload_n (q := 8) dX2_takeBack_7 rfl rfl rfl ?_
    refine GX2_18 (q := 11) rfl dX2_takeBack_8 rfl (by first | assumption | exact up_eq | exact (up_ne (by omega)).trans (by first | assumption | exact up_eq | exact (up_ne (by omega)).trans (by first | assumption | exact up_eq | exact (up_ne (by omega)).trans (by first | assumption | exact up_eq)))) (by omega) (by rfl) ?_
    refine V_iconst (q := 12) (v := nI 1) dX2_takeBack_11 rfl (by decide) ?_
    refine V_isub (q := 13) dX2_takeBack_12 rfl (by first | exact pk_sub (by omega) | rfl) ?_
    refine V_goto (tgt := 23) dX2_takeBack_13 (by decide) ?_
    refine V_istore_n (q := 24) (ls' := [_, _, _, _]) dX2_takeBack_23 rfl (by decide) (by rfl) rfl ?_
    refine V_aload_n (q := 25) dX2_takeBack_24 rfl rfl rfl ?_
    refine GX2_26 (q := 28) rfl dX2_takeBack_25 rfl (by first | assumption | exact up_eq | exact (up_ne (by omega)).trans (by first | assumption | exact up_eq | exact (up_ne (by omega)).trans (by first | assumption | exact up_eq | exact (up_ne (by omega)).trans (by first | assumption | exact up_eq)))) (by omega) (by rfl) ?_
    refine V_ifN_le (q := 31) (tgt := 40) dX2_takeBack_28 (by decide) rfl (by omega) (fun _ => ?_) (fun h9 => by first | exact h9.elim | (exfalso; omega))
    refine V_iconst (q := 41) (v := nI 0) dX2_takeBack_40 rfl (by decide) ?_
    exact V_zret dX2_takeBack_41 rfl (rfl) (Nat.le_of_ble_eq_true rfl) (Nat.le_of_ble_eq_true rfl) (⟨rfl, _, rfl, rfl, rfl⟩)
theorem c_takeBack {pk : Nat} {Hs : Nat → StT} {S : StT} (hP : PaF g w n p (pk + 1) Hs) (hS : Sd g w n b S) (hb : b + 14 ≤ p ∨ p + 114 ≤ b) : CtI g l MX2_takeBack 3 [rf g p, rf g b] w n (fun y w' => y = 1 ∧ PaF g w' n p pk (fun i => Hs (i + 1)) ∧ Sd g w' n b (Hs 0) ∧ ∀ i, (i < p ∨ p + 114 ≤ i) → (i < b ∨ b + 14 ≤ i) → w' i = w i) := by
  obtain ⟨pn, G, PS, h0, h1, h2, h3, h4, h5, h6, h7⟩ := hP
  have tail : ∀ q, q < 8 → q = (pn + 7) % 8 → V g l MX2_takeBack (rmd 3 0 0) (FinM g (qI (fun y w' => y = 1 ∧ PaF g w' n p pk (fun i => Hs (i + 1)) ∧ Sd g w' n b (Hs 0) ∧ ∀ i, (i < p ∨ p + 114 ≤ i) → (i < b ∨ b + 14 ≤ i) → w' i = w i) n) 0 0) 24 [some (rf g p), some (rf g b), some (.int (nI q)), none] [] (w) n 0 0 := by
    intro q hq8 hq
    have hqs := h4 q hq8
    obtain ⟨hqo, hqn⟩ := hqs.obj
    obtain ⟨hso, hsn⟩ := hS.obj
    have e0 : PS q = Hs 0 := by
      rw [hq]
      exact h6 0 (by omega)
    refine V_aload_n (q := 25) dX2_takeBack_24 rfl rfl rfl ?_
    refine GX2_26 (q := 28) rfl dX2_takeBack_25 rfl (by first | assumption | exact up_eq | exact (up_ne (by omega)).trans (by first | assumption | exact up_eq | exact (up_ne (by omega)).trans (by first | assumption | exact up_eq | exact (up_ne (by omega)).trans (by first | assumption | exact up_eq)))) (by omega) (by rfl) ?_
    refine V_ifN_le (q := 31) (tgt := 40) dX2_takeBack_28 (by decide) rfl (by omega) (fun h9 => by first | exact h9.elim | exact absurd h9 (by assumption) | (exfalso; omega)) (fun _ => ?_)
    refine V_iload_n (q := 32) dX2_takeBack_31 rfl rfl ?_
    refine V_aload_n (q := 33) dX2_takeBack_32 rfl rfl rfl ?_
    refine GX2_11 (q := 36) rfl dX2_takeBack_33 rfl (by first | assumption | exact up_eq | exact (up_ne (by omega)).trans (by first | assumption | exact up_eq | exact (up_ne (by omega)).trans (by first | assumption | exact up_eq | exact (up_ne (by omega)).trans (by first | assumption | exact up_eq)))) (by omega) (by rfl) ?_
    refine V_alenS (q := 37) dX2_takeBack_36 rfl (by first | assumption | exact up_eq | exact (up_ne (by omega)).trans (by first | assumption | exact up_eq | exact (up_ne (by omega)).trans (by first | assumption | exact up_eq | exact (up_ne (by omega)).trans (by first | assumption | exact up_eq)))) (by omega) ?_
    refine V_icmpN_lt (q := 40) (tgt := 42) dX2_takeBack_37 (by decide) rfl (by omega) (by omega) (fun _ => ?_) (fun h9 => by first | exact h9.elim | (exfalso; omega))
    refine V_aload_n (q := 43) dX2_takeBack_42 rfl rfl rfl ?_
    refine GX2_11 (q := 46) rfl dX2_takeBack_43 rfl (by first | assumption | exact up_eq | exact (up_ne (by omega)).trans (by first | assumption | exact up_eq | exact (up_ne (by omega)).trans (by first | assumption | exact up_eq | exact (up_ne (by omega)).trans (by first | assumption | exact up_eq)))) (by omega) (by rfl) ?_
    refine V_iload_n (q := 47) dX2_takeBack_46 rfl rfl ?_
    refine V_aaldS (q := 48) dX2_takeBack_47 rfl (by first | assumption | exact up_eq | exact (up_ne (by omega)).trans (by first | assumption | exact up_eq | exact (up_ne (by omega)).trans (by first | assumption | exact up_eq | exact (up_ne (by omega)).trans (by first | assumption | exact up_eq)))) (by omega) (by omega) (by omega) rfl (congrArg va_rf (h3 q hq8)) ?_
    refine V_astore_n (q := 49) (ls' := [_, _, _, _]) dX2_takeBack_48 rfl (by decide) (by rfl) rfl rfl ?_
    refine V_aload_n (q := 50) dX2_takeBack_49 rfl rfl rfl ?_
    refine V_ifnonnull (tgt := 55) dX2_takeBack_50 (by decide) ?_
    refine V_aload_n (q := 56) dX2_takeBack_55 rfl rfl rfl ?_
    refine V_aload_n (q := 57) dX2_takeBack_56 rfl rfl rfl ?_
    refine CvX2_22 (q := 60) rfl dX2_takeBack_57 rfl (c_copyFrom hS hqs (by omega)) ⟨(Nat.le_of_ble_eq_true rfl), (Nat.le_of_ble_eq_true rfl)⟩ (Nat.le_of_ble_eq_true rfl) (by first | assumption | exact up_eq | exact (up_ne (by omega)).trans (by first | assumption | exact up_eq | exact (up_ne (by omega)).trans (by first | assumption | exact up_eq | exact (up_ne (by omega)).trans (by first | assumption | exact up_eq)))) (by omega) (Nat.zero_le _) (Nat.zero_le _) (fun w1 hw1 => ?_)
    obtain ⟨hS1, hF1⟩ := hw1
    have b0 : w1 p = eO 2 [rf g (p + 1), .int (nI pn), .int (nI (pk + 1))] := (hF1 p (by omega)).trans h1
    have b1 : w1 (p + 1) = eS g 8 G := (hF1 (p + 1) (by omega)).trans h2
    refine V_aload_n (q := 61) dX2_takeBack_60 rfl rfl rfl ?_
    refine V_iload_n (q := 62) dX2_takeBack_61 rfl rfl ?_
    refine PX2_18 (q := 65) (fs' := [_, _, _]) rfl dX2_takeBack_62 rfl (by first | assumption | exact up_eq | exact (up_ne (by omega)).trans (by first | assumption | exact up_eq | exact (up_ne (by omega)).trans (by first | assumption | exact up_eq | exact (up_ne (by omega)).trans (by first | assumption | exact up_eq)))) (by omega) (by exact (Nat.le_of_ble_eq_true rfl)) (by rfl) ?_
    try rw [up_up]
    refine V_aload_n (q := 66) dX2_takeBack_65 rfl rfl rfl ?_
    refine V_dup (q := 67) dX2_takeBack_66 rfl rfl ?_
    refine GX2_26 (q := 70) rfl dX2_takeBack_67 rfl (by first | assumption | exact up_eq | exact (up_ne (by omega)).trans (by first | assumption | exact up_eq | exact (up_ne (by omega)).trans (by first | assumption | exact up_eq | exact (up_ne (by omega)).trans (by first | assumption | exact up_eq)))) (by omega) (by rfl) ?_
    refine V_iconst (q := 71) (v := nI 1) dX2_takeBack_70 rfl (by decide) ?_
    refine V_isub (q := 72) dX2_takeBack_71 rfl (by first | exact pk_sub (by omega) | rfl) ?_
    refine PX2_26 (q := 75) (fs' := [_, _, _]) rfl dX2_takeBack_72 rfl (by first | assumption | exact up_eq | exact (up_ne (by omega)).trans (by first | assumption | exact up_eq | exact (up_ne (by omega)).trans (by first | assumption | exact up_eq | exact (up_ne (by omega)).trans (by first | assumption | exact up_eq)))) (by omega) (by exact (Nat.le_of_ble_eq_true rfl)) (by rfl) ?_
    try rw [up_up]
    refine V_iconst (q := 76) (v := nI 1) dX2_takeBack_75 rfl (by decide) ?_
    exact V_zret dX2_takeBack_76 rfl (rfl) (Nat.le_of_ble_eq_true rfl) (Nat.le_of_ble_eq_true rfl) (⟨rfl, _, rfl, rfl, ⟨q, G, PS, hq8, up_eq, (up_ne (by omega)).trans b1, h3, fun k hk => (h4 k hk).frame (fun i z1 z2 => (up_ne (by omega)).trans (hF1 i (by omega))), by omega, fun i hi => by rw [show (q + 7 - i) % 8 = (pn + 7 - (i + 1)) % 8 by omega]; exact h6 (i + 1) (by omega), h7⟩, by rw [e0] at hS1; exact hS1.frame (fun i z1 z2 => up_ne (by omega)), fun i z1 z2 => (up_ne (by omega)).trans (hF1 i z2)⟩)
  refine Ct.ofs (M := MX2_takeBack) (ls := [some _, some _, none, none]) (by decide +kernel) (by exact (Nat.le_of_ble_eq_true rfl)) (by rfl) (by rfl) (by rfl) ?_
  refine V_aload_n (q := 1) dX2_takeBack_0 rfl rfl rfl ?_
  refine GX2_18 (q := 4) rfl dX2_takeBack_1 rfl (by first | assumption | exact up_eq | exact (up_ne (by omega)).trans (by first | assumption | exact up_eq | exact (up_ne (by omega)).trans (by first | assumption | exact up_eq | exact (up_ne (by omega)).trans (by first | assumption | exact up_eq)))) (by omega) (by rfl) ?_
  refine V_ifN_le (q := 7) (tgt := 16) dX2_takeBack_4 (by decide) rfl (by omega) (fun hc => ?_) (fun hc => ?_)
  · skip
    refine V_aload_n (q := 17) dX2_takeBack_16 rfl rfl rfl ?_
    refine GX2_11 (q := 20) rfl dX2_takeBack_17 rfl (by first | assumption | exact up_eq | exact (up_ne (by omega)).trans (by first | assumption | exact up_eq | exact (up_ne (by omega)).trans (by first | assumption | exact up_eq | exact (up_ne (by omega)).trans (by first | assumption | exact up_eq)))) (by omega) (by rfl) ?_
    refine V_alenS (q := 21) dX2_takeBack_20 rfl (by first | assumption | exact up_eq | exact (up_ne (by omega)).trans (by first | assumption | exact up_eq | exact (up_ne (by omega)).trans (by first | assumption | exact up_eq | exact (up_ne (by omega)).trans (by first | assumption | exact up_eq)))) (by omega) ?_
    refine V_iconst (q := 22) (v := nI 1) dX2_takeBack_21 rfl (by decide) ?_
    refine V_isub (q := 23) dX2_takeBack_22 rfl (by first | exact pk_sub (by omega) | rfl) ?_
    refine V_istore_n (q := 24) (ls' := [_, _, _, _]) dX2_takeBack_23 rfl (by decide) (by rfl) rfl ?_
    exact tail 7 (by decide) (by omega)
  · skip
    refine V_aload_n (q := 8) dX2_takeBack_7 rfl rfl rfl ?_
    refine GX2_18 (q := 11) rfl dX2_takeBack_8 rfl (by first | assumption | exact up_eq | exact (up_ne (by omega)).trans (by first | assumption | exact up_eq | exact (up_ne (by omega)).trans (by first | assumption | exact up_eq | exact (up_ne (by omega)).trans (by first | assumption | exact up_eq)))) (by omega) (by rfl) ?_
    refine V_iconst (q := 12) (v := nI 1) dX2_takeBack_11 rfl (by decide) ?_
    refine V_isub (q := 13) dX2_takeBack_12 rfl (by first | exact pk_sub (by omega) | rfl) ?_
    refine V_goto (tgt := 23) dX2_takeBack_13 (by decide) ?_
    refine V_istore_n (q := 24) (ls' := [_, _, _, _]) dX2_takeBack_23 rfl (by decide) (by rfl) rfl ?_
    exact tail (pn - 1) (by omega) (by omega)
theorem c_forget {pk : Nat} {Hs : Nat → StT} (hP : PaF g w n p pk Hs) : CtV g l MX2_forget 0 [rf g p] w n (fun w' => PaF g w' n p 0 Hs ∧ FrP w w' p) := by
  obtain ⟨pn, G, PS, h0, h1, h2, h3, h4, h5, h6, h7⟩ := hP
  refine Ct.ofs (M := MX2_forget) (ls := [some _]) (by decide +kernel) (by exact (Nat.le_of_ble_eq_true rfl)) (by rfl) (by rfl) (by rfl) ?_
  refine V_aload_n (q := 1) dX2_forget_0 rfl rfl rfl ?_
  refine V_iconst (q := 2) (v := nI 0) dX2_forget_1 rfl (by decide) ?_
  refine PX2_26 (q := 5) (fs' := [_, _, _]) rfl dX2_forget_2 rfl (by first | assumption | exact up_eq | exact (up_ne (by omega)).trans (by first | assumption | exact up_eq | exact (up_ne (by omega)).trans (by first | assumption | exact up_eq | exact (up_ne (by omega)).trans (by first | assumption | exact up_eq)))) (by omega) (by exact (Nat.le_of_ble_eq_true rfl)) (by rfl) ?_
  try rw [up_up]
  exact V_vret dX2_forget_5 rfl (Nat.le_of_ble_eq_true rfl) (Nat.le_of_ble_eq_true rfl) (⟨rfl, rfl, ⟨pn, G, PS, h0, up_eq, (up_ne (by omega)).trans h2, h3, fun k hk => (h4 k hk).frame (fun i z1 z2 => up_ne (by omega)), by omega, fun i hi => absurd hi (Nat.not_lt_zero i), h7⟩, fun i hi => up_ne (by omega)⟩)
end PAST
