section JOINS
variable {g : GG} {l : Launch} {w : HW} {n j m : Nat} {T Qa Hh : Nat → Int32}
theorem Bdg_lt {u v : Nat} (h : Bdg u v) : v < 512 := h.1
/-- no distance goes far -/
theorem JB.small {E : Nat → Nat → Prop} {s m nx v k : Nat} {D : Nat → Option Nat} {q : Nat → Nat} (h4 : BI E s D q m nx) (hD : D v = some k) : k < 512 := by
  have key : ∀ i, i < m → ∀ k, D (q i) = some k → k ≤ i := by
    intro i
    induction i with
    | zero =>
      intro _ k hk
      rw [h4.2.1, h4.1] at hk
      cases hk
      exact Nat.le_refl _
    | succ i ih =>
      intro hi k hk
      obtain ⟨c, hc⟩ := (h4.2.2.2.2.1 i (by omega)).2
      have h1 := ih (by omega) c hc
      rcases Nat.lt_or_ge (c + 1) k with z | z
      · exfalso
        have hp := h4.2.2.2.2.2.2.2.1 _ _ hk
        obtain ⟨k1, e1⟩ : ∃ k1, k = k1 + 1 := ⟨k - 1, by omega⟩
        subst e1
        obtain ⟨u, p1, p2⟩ := hp
        have hk1 : ∃ k', D u = some k' ∧ k' ≤ k1 := h4.near p1 (fun hn c' hc' => by
          have := h4.2.2.2.2.2.2.2.2.2.2 c' hn hc' (i + 1) (k1 + 1) hi hk
          omega)
        obtain ⟨k', a1, a2⟩ := hk1
        obtain ⟨i', b1, b2⟩ := h4.2.2.2.2.2.2.1 u k' a1
        have e3 : k1 ≤ k' := by
          rcases Nat.lt_or_ge k' k1 with y | y
          · exfalso
            have hpu := h4.2.2.2.2.2.2.2.1 u k' a1
            have := h4.exact hk (k := k' + 1) ⟨u, hpu, p2⟩
            omega
          · exact y
        have e4 : k' = k1 := by omega
        rcases Nat.lt_or_ge i i' with y | y
        · rcases Nat.lt_or_ge i' (i + 1) with y2 | y2
          · omega
          · have := h4.2.2.2.2.2.2.2.2.1 (i + 1) i' (k1 + 1) k' y2 b1 hk (by rw [b2]; exact a1)
            omega
        · have := h4.2.2.2.2.2.2.2.2.1 i' i k' c y (by omega) (by rw [b2]; exact a1) hc
          omega
      · omega
  obtain ⟨i, hi, e⟩ := h4.2.2.2.2.2.2.1 v k hD
  have h1 := key i hi k (by rw [e]; exact hD)
  have h2 := h4.m_le
  omega
theorem c_countOnward (hJ : Jn g w n j) {s t k : Nat} (hs : s < 512) (ht : t < 512) (hk : Dst s t k) : CtI g l MX0_countOnward 2 [rf g j, .int (nI s), .int (nI t)] w n (fun x w' => x = nI k ∧ Jn g w' n j ∧ FrJ w w' j) := by
  obtain ⟨T0, Qa0, m0, Hh, hJ0⟩ := hJ
  have hobj := hJ0.1
  have hnn := hJ0.2.2.2.2
  refine Ct.ofs (M := MX0_countOnward) (ls := [some _, some _, some _, none]) (by decide +kernel) (by exact (Nat.le_of_ble_eq_true rfl)) (by rfl) (by rfl) (by rfl) ?_
  refine V_iload_n (q := 1) dX0_countOnward_0 rfl rfl ?_
  refine CrX0_21 (q := 4) rfl dX0_countOnward_1 rfl (c_isState hs) ⟨(Nat.le_of_ble_eq_true rfl), (Nat.le_of_ble_eq_true rfl)⟩ (Nat.le_of_ble_eq_true rfl) (Nat.zero_le _) (Nat.zero_le _) ?_
  refine V_if_eq (q := 7) (tgt := 14) dX0_countOnward_4 (by decide) rfl (fun h9 => absurd h9 (by decide)) (fun _ => ?_)
  refine V_iload_n (q := 8) dX0_countOnward_7 rfl rfl ?_
  refine CrX0_21 (q := 11) rfl dX0_countOnward_8 rfl (c_isState ht) ⟨(Nat.le_of_ble_eq_true rfl), (Nat.le_of_ble_eq_true rfl)⟩ (Nat.le_of_ble_eq_true rfl) (Nat.zero_le _) (Nat.zero_le _) ?_
  refine V_if_ne (q := 14) (tgt := 17) dX0_countOnward_11 (by decide) rfl (fun _ => ?_) (fun h9 => absurd h9 (by decide))
  refine V_aload_n (q := 18) dX0_countOnward_17 rfl rfl rfl ?_
  refine V_iload_n (q := 19) dX0_countOnward_18 rfl rfl ?_
  refine CvX0_25 (q := 22) rfl dX0_countOnward_19 rfl (c_startAt Edg hJ0 hs) ⟨(Nat.le_of_ble_eq_true rfl), (Nat.le_of_ble_eq_true rfl)⟩ (Nat.le_of_ble_eq_true rfl) (by first | assumption | exact up_eq | exact (up_ne (by omega)).trans (by first | assumption | exact up_eq | exact (up_ne (by omega)).trans (by first | assumption | exact up_eq | exact (up_ne (by omega)).trans (by first | assumption | exact up_eq)))) (by omega) (Nat.zero_le _) (Nat.zero_le _) (fun w1 hw1 => ?_)
  obtain ⟨D0, q0, hB0, hF0⟩ := hw1
  refine V_iconst (q := 23) (v := nI 0) dX0_countOnward_22 rfl (by decide) ?_
  refine V_istore_n (q := 24) (ls' := [_, _, _, _]) dX0_countOnward_23 rfl (by decide) (by rfl) rfl ?_
  have fin : ∀ (w1 : HW) (D : Nat → Option Nat) (q : Nat → Nat) (m nx : Nat), JB g w1 n j Hh Edg s D q m nx → (D t ≠ none ∨ m ≤ nx) → FrJ w w1 j → V g l MX0_countOnward (rmd 2 0 0) (FinM g (qI (fun x w' => x = nI k ∧ Jn g w' n j ∧ FrJ w w' j) n) 0 0) 67 [some (rf g j), some (.int (nI s)), some (.int (nI t)), some (.int (nI nx))] [] (w1) n 0 0 := by
    intro w1 D q m nx b1 b2 b3
    obtain ⟨T1, Qa1, c1, c2, c3, c4⟩ := b1
    have c1' := c1
    obtain ⟨e0, e1, e2, e3, e4⟩ := c1
    have hD : D t = some k := by
      cases hd : D t with
      | none =>
        exfalso
        rcases b2 with z | z
        · exact z hd
        · obtain ⟨k', y1, y2⟩ := c4.near hk.1 (fun hn => by omega)
          rw [hd] at y1; cases y1
      | some d =>
        have a1 := c4.exact hd hk.1
        have a2 := hk.2 _ (c4.2.2.2.2.2.2.2.1 t d hd)
        rw [show d = k by omega]
    have hsm := JB.small c4 hD
    have hT : T1 t = nI k := (c2 t ht).trans (tI_some hD)
    refine V_aload_n (q := 68) dX0_countOnward_67 rfl rfl rfl ?_
    refine GX0_9 (q := 71) rfl dX0_countOnward_68 rfl (by first | assumption | exact up_eq | exact (up_ne (by omega)).trans (by first | assumption | exact up_eq | exact (up_ne (by omega)).trans (by first | assumption | exact up_eq | exact (up_ne (by omega)).trans (by first | assumption | exact up_eq)))) (by omega) (by rfl) ?_
    refine V_iload_n (q := 72) dX0_countOnward_71 rfl rfl ?_
    refine V_ialdN (q := 73) dX0_countOnward_72 rfl (by first | assumption | exact up_eq | exact (up_ne (by omega)).trans (by first | assumption | exact up_eq | exact (up_ne (by omega)).trans (by first | assumption | exact up_eq | exact (up_ne (by omega)).trans (by first | assumption | exact up_eq)))) (by omega) (by omega) (by omega) rfl hT ?_
    refine V_iconst (q := 74) (v := (-1)) dX0_countOnward_73 rfl (by decide) ?_
    refine V_icmp_ne (q := 77) (tgt := 82) dX0_countOnward_74 (by decide) rfl (fun _ => ?_) (fun h9 => absurd h9 (nI_m1 (by omega)))
    refine V_aload_n (q := 83) dX0_countOnward_82 rfl rfl rfl ?_
    refine GX0_9 (q := 86) rfl dX0_countOnward_83 rfl (by first | assumption | exact up_eq | exact (up_ne (by omega)).trans (by first | assumption | exact up_eq | exact (up_ne (by omega)).trans (by first | assumption | exact up_eq | exact (up_ne (by omega)).trans (by first | assumption | exact up_eq)))) (by omega) (by rfl) ?_
    refine V_iload_n (q := 87) dX0_countOnward_86 rfl rfl ?_
    refine V_ialdN (q := 88) dX0_countOnward_87 rfl (by first | assumption | exact up_eq | exact (up_ne (by omega)).trans (by first | assumption | exact up_eq | exact (up_ne (by omega)).trans (by first | assumption | exact up_eq | exact (up_ne (by omega)).trans (by first | assumption | exact up_eq)))) (by omega) (by omega) (by omega) rfl hT ?_
    exact V_iret dX0_countOnward_88 rfl (Nat.le_of_ble_eq_true rfl) (Nat.le_of_ble_eq_true rfl) (⟨rfl, _, rfl, rfl, ⟨T1, Qa1, m, Hh, c1'⟩, b3⟩)
  have key : ∀ nx, nx ≤ 512 → ∀ (w1 : HW) (D : Nat → Option Nat) (q : Nat → Nat) (m : Nat), JB g w1 n j Hh Edg s D q m nx → FrJ w w1 j → V g l MX0_countOnward (rmd 2 0 0) (FinM g (qI (fun x w' => x = nI k ∧ Jn g w' n j ∧ FrJ w w' j) n) 0 0) 24 [some (rf g j), some (.int (nI s)), some (.int (nI t)), some (.int (nI nx))] [] (w1) n 0 0 := by
    refine loopU (fun nx => ∀ (w1 : HW) (D : Nat → Option Nat) (q : Nat → Nat) (m : Nat), JB g w1 n j Hh Edg s D q m nx → FrJ w w1 j → V g l MX0_countOnward (rmd 2 0 0) (FinM g (qI (fun x w' => x = nI k ∧ Jn g w' n j ∧ FrJ w w' j) n) 0 0) 24 [some (rf g j), some (.int (nI s)), some (.int (nI t)), some (.int (nI nx))] [] (w1) n 0 0) 512 ?_ ?_
    · intro w1 D q m b1 b3
      have b1' := b1
      obtain ⟨T1, Qa1, c1, c2, c3, c4⟩ := b1
      obtain ⟨e0, e1, e2, e3, e4⟩ := c1
      have hm := c4.m_le
      refine V_iload_n (q := 25) dX0_countOnward_24 rfl rfl ?_
      refine V_aload_n (q := 26) dX0_countOnward_25 rfl rfl rfl ?_
      refine GX0_29 (q := 29) rfl dX0_countOnward_26 rfl (by first | assumption | exact up_eq | exact (up_ne (by omega)).trans (by first | assumption | exact up_eq | exact (up_ne (by omega)).trans (by first | assumption | exact up_eq | exact (up_ne (by omega)).trans (by first | assumption | exact up_eq)))) (by omega) (by rfl) ?_
      refine V_icmpN_ge (q := 32) (tgt := 67) dX0_countOnward_29 (by decide) rfl (by omega) (by omega) (fun _ => ?_) (fun h9 => by first | exact h9.elim | (exfalso; omega))
      exact fin w1 D q m 512 b1' (Or.inr hm) b3
    · intro nx hnx ih w1 D q m b1 b3
      have b1' := b1
      obtain ⟨T1, Qa1, c1, c2, c3, c4⟩ := b1
      obtain ⟨e0, e1, e2, e3, e4⟩ := c1
      have hm := c4.m_le
      refine V_iload_n (q := 25) dX0_countOnward_24 rfl rfl ?_
      refine V_aload_n (q := 26) dX0_countOnward_25 rfl rfl rfl ?_
      refine GX0_29 (q := 29) rfl dX0_countOnward_26 rfl (by first | assumption | exact up_eq | exact (up_ne (by omega)).trans (by first | assumption | exact up_eq | exact (up_ne (by omega)).trans (by first | assumption | exact up_eq | exact (up_ne (by omega)).trans (by first | assumption | exact up_eq)))) (by omega) (by rfl) ?_
      refine V_icmpN_ge (q := 32) (tgt := 67) dX0_countOnward_29 (by decide) rfl (by omega) (by omega) (fun hc => ?_) (fun hc => ?_)
      · skip
        exact fin w1 D q m nx b1' (Or.inr hc) b3
      · skip
        refine V_iload_n (q := 33) dX0_countOnward_32 rfl rfl ?_
        refine V_aload_n (q := 34) dX0_countOnward_33 rfl rfl rfl ?_
        refine GX0_15 (q := 37) rfl dX0_countOnward_34 rfl (by first | assumption | exact up_eq | exact (up_ne (by omega)).trans (by first | assumption | exact up_eq | exact (up_ne (by omega)).trans (by first | assumption | exact up_eq | exact (up_ne (by omega)).trans (by first | assumption | exact up_eq)))) (by omega) (by rfl) ?_
        refine V_alenI (q := 38) dX0_countOnward_37 rfl (by first | assumption | exact up_eq | exact (up_ne (by omega)).trans (by first | assumption | exact up_eq | exact (up_ne (by omega)).trans (by first | assumption | exact up_eq | exact (up_ne (by omega)).trans (by first | assumption | exact up_eq)))) (by omega) ?_
        refine V_icmpN_ge (q := 41) (tgt := 67) dX0_countOnward_38 (by decide) rfl (by omega) (by omega) (fun h9 => by first | exact h9.elim | exact absurd h9 (by assumption) | (exfalso; omega)) (fun _ => ?_)
        refine V_aload_n (q := 42) dX0_countOnward_41 rfl rfl rfl ?_
        refine GX0_9 (q := 45) rfl dX0_countOnward_42 rfl (by first | assumption | exact up_eq | exact (up_ne (by omega)).trans (by first | assumption | exact up_eq | exact (up_ne (by omega)).trans (by first | assumption | exact up_eq | exact (up_ne (by omega)).trans (by first | assumption | exact up_eq)))) (by omega) (by rfl) ?_
        refine V_iload_n (q := 46) dX0_countOnward_45 rfl rfl ?_
        refine V_ialdN (q := 47) dX0_countOnward_46 rfl (by first | assumption | exact up_eq | exact (up_ne (by omega)).trans (by first | assumption | exact up_eq | exact (up_ne (by omega)).trans (by first | assumption | exact up_eq | exact (up_ne (by omega)).trans (by first | assumption | exact up_eq)))) (by omega) (by omega) (by omega) rfl (by rfl) ?_
        refine V_iconst (q := 48) (v := (-1)) dX0_countOnward_47 rfl (by decide) ?_
        refine V_icmp_ne (q := 51) (tgt := 67) dX0_countOnward_48 (by decide) rfl (fun hc2 => ?_) (fun hc2 => ?_)
        · skip
          refine fin w1 D q m nx b1' (Or.inl fun hd => hc2 ?_) b3
          rw [c2 t ht, tI_none hd]
        · skip
          obtain ⟨hu, d, hd⟩ := c4.2.2.2.2.1 nx hc
          have hsm := JB.small c4 hd
          refine V_aload_n (q := 52) dX0_countOnward_51 rfl rfl rfl ?_
          refine V_aload_n (q := 53) dX0_countOnward_52 rfl rfl rfl ?_
          refine GX0_15 (q := 56) rfl dX0_countOnward_53 rfl (by first | assumption | exact up_eq | exact (up_ne (by omega)).trans (by first | assumption | exact up_eq | exact (up_ne (by omega)).trans (by first | assumption | exact up_eq | exact (up_ne (by omega)).trans (by first | assumption | exact up_eq)))) (by omega) (by rfl) ?_
          refine V_iload_n (q := 57) dX0_countOnward_56 rfl rfl ?_
          refine V_ialdN (q := 58) dX0_countOnward_57 rfl (by first | assumption | exact up_eq | exact (up_ne (by omega)).trans (by first | assumption | exact up_eq | exact (up_ne (by omega)).trans (by first | assumption | exact up_eq | exact (up_ne (by omega)).trans (by first | assumption | exact up_eq)))) (by omega) (by omega) (by omega) rfl (c3 nx hc) ?_
          refine CvX0_33 (q := 61) rfl dX0_countOnward_58 rfl (c_spreadOnward b1' hc rfl hd hu (by omega)) ⟨(Nat.le_of_ble_eq_true rfl), (Nat.le_of_ble_eq_true rfl)⟩ (Nat.le_of_ble_eq_true rfl) (by first | assumption | exact up_eq | exact (up_ne (by omega)).trans (by first | assumption | exact up_eq | exact (up_ne (by omega)).trans (by first | assumption | exact up_eq | exact (up_ne (by omega)).trans (by first | assumption | exact up_eq)))) (by omega) (Nat.zero_le _) (Nat.zero_le _) (fun w2 hw2 => ?_)
          obtain ⟨D2, q2, m2, f1, f2⟩ := hw2
          refine V_iinc (q := 64) (ls' := [_, _, _, _]) dX0_countOnward_61 rfl (by decide) (by rfl) rfl (by first | exact inc1 _ | rfl) rfl ?_
          refine V_goto (tgt := 24) dX0_countOnward_64 (by decide) ?_
          exact ih w2 D2 q2 m2 f1 (b3.tr f2)
  exact key 0 (Nat.zero_le _) w1 D0 q0 1 hB0 hF0
/-- what countBack leaves in the steps: how far each state nearer than k is -/
def Far (T : Nat → Int32) (t k : Nat) : Prop := (∀ v r, v < 512 → r < 512 → T v = nI r → PE Edg r v t) ∧ (∀ v r, v < 512 → r < k → PE Edg r v t → ∃ r', r' ≤ r ∧ T v = nI r')
theorem c_countBack (hJ : Jn g w n j) {s t k : Nat} (hs : s < 512) (ht : t < 512) (hk : Dst s t k) : CtI g l MX0_countBack 2 [rf g j, .int (nI s), .int (nI t)] w n (fun x w' => x = nI k ∧ (∃ T Qa m Hh, JnF g w' n j T Qa m Hh ∧ Far T t k) ∧ FrJ w w' j) := by
  obtain ⟨T0, Qa0, m0, Hh, hJ0⟩ := hJ
  have hobj := hJ0.1
  have hnn := hJ0.2.2.2.2
  have hkB : PE Bdg k t s := PE_fwd hs hk.1
  refine Ct.ofs (M := MX0_countBack) (ls := [some _, some _, some _, none]) (by decide +kernel) (by exact (Nat.le_of_ble_eq_true rfl)) (by rfl) (by rfl) (by rfl) ?_
  refine V_iload_n (q := 1) dX0_countBack_0 rfl rfl ?_
  refine CrX0_21 (q := 4) rfl dX0_countBack_1 rfl (c_isState hs) ⟨(Nat.le_of_ble_eq_true rfl), (Nat.le_of_ble_eq_true rfl)⟩ (Nat.le_of_ble_eq_true rfl) (Nat.zero_le _) (Nat.zero_le _) ?_
  refine V_if_eq (q := 7) (tgt := 14) dX0_countBack_4 (by decide) rfl (fun h9 => absurd h9 (by decide)) (fun _ => ?_)
  refine V_iload_n (q := 8) dX0_countBack_7 rfl rfl ?_
  refine CrX0_21 (q := 11) rfl dX0_countBack_8 rfl (c_isState ht) ⟨(Nat.le_of_ble_eq_true rfl), (Nat.le_of_ble_eq_true rfl)⟩ (Nat.le_of_ble_eq_true rfl) (Nat.zero_le _) (Nat.zero_le _) ?_
  refine V_if_ne (q := 14) (tgt := 17) dX0_countBack_11 (by decide) rfl (fun _ => ?_) (fun h9 => absurd h9 (by decide))
  refine V_aload_n (q := 18) dX0_countBack_17 rfl rfl rfl ?_
  refine V_iload_n (q := 19) dX0_countBack_18 rfl rfl ?_
  refine CvX0_25 (q := 22) rfl dX0_countBack_19 rfl (c_startAt Bdg hJ0 ht) ⟨(Nat.le_of_ble_eq_true rfl), (Nat.le_of_ble_eq_true rfl)⟩ (Nat.le_of_ble_eq_true rfl) (by first | assumption | exact up_eq | exact (up_ne (by omega)).trans (by first | assumption | exact up_eq | exact (up_ne (by omega)).trans (by first | assumption | exact up_eq | exact (up_ne (by omega)).trans (by first | assumption | exact up_eq)))) (by omega) (Nat.zero_le _) (Nat.zero_le _) (fun w1 hw1 => ?_)
  obtain ⟨D0, q0, hB0, hF0⟩ := hw1
  refine V_iconst (q := 23) (v := nI 0) dX0_countBack_22 rfl (by decide) ?_
  refine V_istore_n (q := 24) (ls' := [_, _, _, _]) dX0_countBack_23 rfl (by decide) (by rfl) rfl ?_
  have fin : ∀ (w1 : HW) (D : Nat → Option Nat) (q : Nat → Nat) (m nx : Nat), JB g w1 n j Hh Bdg t D q m nx → (D s ≠ none ∨ m ≤ nx) → FrJ w w1 j → V g l MX0_countBack (rmd 2 0 0) (FinM g (qI (fun x w' => x = nI k ∧ (∃ T Qa m Hh, JnF g w' n j T Qa m Hh ∧ Far T t k) ∧ FrJ w w' j) n) 0 0) 67 [some (rf g j), some (.int (nI s)), some (.int (nI t)), some (.int (nI nx))] [] (w1) n 0 0 := by
    intro w1 D q m nx b1 b2 b3
    obtain ⟨T1, Qa1, c1, c2, c3, c4⟩ := b1
    have c1' := c1
    obtain ⟨e0, e1, e2, e3, e4⟩ := c1
    have hD : D s = some k := by
      cases hd : D s with
      | none =>
        exfalso
        rcases b2 with z | z
        · exact z hd
        · obtain ⟨k', y1, y2⟩ := c4.near hkB (fun hn => by omega)
          rw [hd] at y1; cases y1
      | some d =>
        have a1 := c4.exact hd hkB
        have a2 := hk.2 _ (PE_back (c4.2.2.2.2.2.2.2.1 s d hd))
        rw [show d = k by omega]
    have hsm := JB.small c4 hD
    have hT : T1 s = nI k := (c2 s hs).trans (tI_some hD)
    have far : Far T1 t k := by
      refine ⟨fun v r hv hr hTv => ?_, fun v r hv hr hp => ?_⟩
      · rw [c2 v hv] at hTv
        cases hd : D v with
        | none => rw [tI_none hd] at hTv; exact absurd hTv.symm (nI_m1 (by omega))
        | some d =>
          rw [tI_some hd] at hTv
          have hd2 := JB.small c4 hd
          have := (nI_eq (by omega) (by omega)).mp hTv
          rw [← this]
          exact PE_back (c4.2.2.2.2.2.2.2.1 v d hd)
      · obtain ⟨k', y1, y2⟩ := c4.near (PE_fwd hv hp) (fun hn c hc => by
          obtain ⟨i, hi, hq⟩ := c4.2.2.2.2.2.2.1 s k hD
          have := c4.2.2.2.2.2.2.2.2.2.2 c hn hc i k hi (by rw [hq]; exact hD)
          omega)
        exact ⟨k', y2, (c2 v hv).trans (tI_some y1)⟩
    refine V_aload_n (q := 68) dX0_countBack_67 rfl rfl rfl ?_
    refine GX0_9 (q := 71) rfl dX0_countBack_68 rfl (by first | assumption | exact up_eq | exact (up_ne (by omega)).trans (by first | assumption | exact up_eq | exact (up_ne (by omega)).trans (by first | assumption | exact up_eq | exact (up_ne (by omega)).trans (by first | assumption | exact up_eq)))) (by omega) (by rfl) ?_
    refine V_iload_n (q := 72) dX0_countBack_71 rfl rfl ?_
    refine V_ialdN (q := 73) dX0_countBack_72 rfl (by first | assumption | exact up_eq | exact (up_ne (by omega)).trans (by first | assumption | exact up_eq | exact (up_ne (by omega)).trans (by first | assumption | exact up_eq | exact (up_ne (by omega)).trans (by first | assumption | exact up_eq)))) (by omega) (by omega) (by omega) rfl hT ?_
    refine V_iconst (q := 74) (v := (-1)) dX0_countBack_73 rfl (by decide) ?_
    refine V_icmp_ne (q := 77) (tgt := 82) dX0_countBack_74 (by decide) rfl (fun _ => ?_) (fun h9 => absurd h9 (nI_m1 (by omega)))
    refine V_aload_n (q := 83) dX0_countBack_82 rfl rfl rfl ?_
    refine GX0_9 (q := 86) rfl dX0_countBack_83 rfl (by first | assumption | exact up_eq | exact (up_ne (by omega)).trans (by first | assumption | exact up_eq | exact (up_ne (by omega)).trans (by first | assumption | exact up_eq | exact (up_ne (by omega)).trans (by first | assumption | exact up_eq)))) (by omega) (by rfl) ?_
    refine V_iload_n (q := 87) dX0_countBack_86 rfl rfl ?_
    refine V_ialdN (q := 88) dX0_countBack_87 rfl (by first | assumption | exact up_eq | exact (up_ne (by omega)).trans (by first | assumption | exact up_eq | exact (up_ne (by omega)).trans (by first | assumption | exact up_eq | exact (up_ne (by omega)).trans (by first | assumption | exact up_eq)))) (by omega) (by omega) (by omega) rfl hT ?_
    exact V_iret dX0_countBack_88 rfl (Nat.le_of_ble_eq_true rfl) (Nat.le_of_ble_eq_true rfl) (⟨rfl, _, rfl, rfl, ⟨T1, Qa1, m, Hh, c1', far⟩, b3⟩)
  have key : ∀ nx, nx ≤ 512 → ∀ (w1 : HW) (D : Nat → Option Nat) (q : Nat → Nat) (m : Nat), JB g w1 n j Hh Bdg t D q m nx → FrJ w w1 j → V g l MX0_countBack (rmd 2 0 0) (FinM g (qI (fun x w' => x = nI k ∧ (∃ T Qa m Hh, JnF g w' n j T Qa m Hh ∧ Far T t k) ∧ FrJ w w' j) n) 0 0) 24 [some (rf g j), some (.int (nI s)), some (.int (nI t)), some (.int (nI nx))] [] (w1) n 0 0 := by
    refine loopU (fun nx => ∀ (w1 : HW) (D : Nat → Option Nat) (q : Nat → Nat) (m : Nat), JB g w1 n j Hh Bdg t D q m nx → FrJ w w1 j → V g l MX0_countBack (rmd 2 0 0) (FinM g (qI (fun x w' => x = nI k ∧ (∃ T Qa m Hh, JnF g w' n j T Qa m Hh ∧ Far T t k) ∧ FrJ w w' j) n) 0 0) 24 [some (rf g j), some (.int (nI s)), some (.int (nI t)), some (.int (nI nx))] [] (w1) n 0 0) 512 ?_ ?_
    · intro w1 D q m b1 b3
      have b1' := b1
      obtain ⟨T1, Qa1, c1, c2, c3, c4⟩ := b1
      obtain ⟨e0, e1, e2, e3, e4⟩ := c1
      have hm := c4.m_le
      refine V_iload_n (q := 25) dX0_countBack_24 rfl rfl ?_
      refine V_aload_n (q := 26) dX0_countBack_25 rfl rfl rfl ?_
      refine GX0_29 (q := 29) rfl dX0_countBack_26 rfl (by first | assumption | exact up_eq | exact (up_ne (by omega)).trans (by first | assumption | exact up_eq | exact (up_ne (by omega)).trans (by first | assumption | exact up_eq | exact (up_ne (by omega)).trans (by first | assumption | exact up_eq)))) (by omega) (by rfl) ?_
      refine V_icmpN_ge (q := 32) (tgt := 67) dX0_countBack_29 (by decide) rfl (by omega) (by omega) (fun _ => ?_) (fun h9 => by first | exact h9.elim | (exfalso; omega))
      exact fin w1 D q m 512 b1' (Or.inr hm) b3
    · intro nx hnx ih w1 D q m b1 b3
      have b1' := b1
      obtain ⟨T1, Qa1, c1, c2, c3, c4⟩ := b1
      obtain ⟨e0, e1, e2, e3, e4⟩ := c1
      have hm := c4.m_le
      refine V_iload_n (q := 25) dX0_countBack_24 rfl rfl ?_
      refine V_aload_n (q := 26) dX0_countBack_25 rfl rfl rfl ?_
      refine GX0_29 (q := 29) rfl dX0_countBack_26 rfl (by first | assumption | exact up_eq | exact (up_ne (by omega)).trans (by first | assumption | exact up_eq | exact (up_ne (by omega)).trans (by first | assumption | exact up_eq | exact (up_ne (by omega)).trans (by first | assumption | exact up_eq)))) (by omega) (by rfl) ?_
      refine V_icmpN_ge (q := 32) (tgt := 67) dX0_countBack_29 (by decide) rfl (by omega) (by omega) (fun hc => ?_) (fun hc => ?_)
      · skip
        exact fin w1 D q m nx b1' (Or.inr hc) b3
      · skip
        refine V_iload_n (q := 33) dX0_countBack_32 rfl rfl ?_
        refine V_aload_n (q := 34) dX0_countBack_33 rfl rfl rfl ?_
        refine GX0_15 (q := 37) rfl dX0_countBack_34 rfl (by first | assumption | exact up_eq | exact (up_ne (by omega)).trans (by first | assumption | exact up_eq | exact (up_ne (by omega)).trans (by first | assumption | exact up_eq | exact (up_ne (by omega)).trans (by first | assumption | exact up_eq)))) (by omega) (by rfl) ?_
        refine V_alenI (q := 38) dX0_countBack_37 rfl (by first | assumption | exact up_eq | exact (up_ne (by omega)).trans (by first | assumption | exact up_eq | exact (up_ne (by omega)).trans (by first | assumption | exact up_eq | exact (up_ne (by omega)).trans (by first | assumption | exact up_eq)))) (by omega) ?_
        refine V_icmpN_ge (q := 41) (tgt := 67) dX0_countBack_38 (by decide) rfl (by omega) (by omega) (fun h9 => by first | exact h9.elim | exact absurd h9 (by assumption) | (exfalso; omega)) (fun _ => ?_)
        refine V_aload_n (q := 42) dX0_countBack_41 rfl rfl rfl ?_
        refine GX0_9 (q := 45) rfl dX0_countBack_42 rfl (by first | assumption | exact up_eq | exact (up_ne (by omega)).trans (by first | assumption | exact up_eq | exact (up_ne (by omega)).trans (by first | assumption | exact up_eq | exact (up_ne (by omega)).trans (by first | assumption | exact up_eq)))) (by omega) (by rfl) ?_
        refine V_iload_n (q := 46) dX0_countBack_45 rfl rfl ?_
        refine V_ialdN (q := 47) dX0_countBack_46 rfl (by first | assumption | exact up_eq | exact (up_ne (by omega)).trans (by first | assumption | exact up_eq | exact (up_ne (by omega)).trans (by first | assumption | exact up_eq | exact (up_ne (by omega)).trans (by first | assumption | exact up_eq)))) (by omega) (by omega) (by omega) rfl (by rfl) ?_
        refine V_iconst (q := 48) (v := (-1)) dX0_countBack_47 rfl (by decide) ?_
        refine V_icmp_ne (q := 51) (tgt := 67) dX0_countBack_48 (by decide) rfl (fun hc2 => ?_) (fun hc2 => ?_)
        · skip
          refine fin w1 D q m nx b1' (Or.inl fun hd => hc2 ?_) b3
          rw [c2 s hs, tI_none hd]
        · skip
          obtain ⟨hu, d, hd⟩ := c4.2.2.2.2.1 nx hc
          have hsm := JB.small c4 hd
          refine V_aload_n (q := 52) dX0_countBack_51 rfl rfl rfl ?_
          refine V_aload_n (q := 53) dX0_countBack_52 rfl rfl rfl ?_
          refine GX0_15 (q := 56) rfl dX0_countBack_53 rfl (by first | assumption | exact up_eq | exact (up_ne (by omega)).trans (by first | assumption | exact up_eq | exact (up_ne (by omega)).trans (by first | assumption | exact up_eq | exact (up_ne (by omega)).trans (by first | assumption | exact up_eq)))) (by omega) (by rfl) ?_
          refine V_iload_n (q := 57) dX0_countBack_56 rfl rfl ?_
          refine V_ialdN (q := 58) dX0_countBack_57 rfl (by first | assumption | exact up_eq | exact (up_ne (by omega)).trans (by first | assumption | exact up_eq | exact (up_ne (by omega)).trans (by first | assumption | exact up_eq | exact (up_ne (by omega)).trans (by first | assumption | exact up_eq)))) (by omega) (by omega) (by omega) rfl (c3 nx hc) ?_
          refine CvX0_36 (q := 61) rfl dX0_countBack_58 rfl (c_spreadBack b1' hc rfl hd hu (by omega)) ⟨(Nat.le_of_ble_eq_true rfl), (Nat.le_of_ble_eq_true rfl)⟩ (Nat.le_of_ble_eq_true rfl) (by first | assumption | exact up_eq | exact (up_ne (by omega)).trans (by first | assumption | exact up_eq | exact (up_ne (by omega)).trans (by first | assumption | exact up_eq | exact (up_ne (by omega)).trans (by first | assumption | exact up_eq)))) (by omega) (Nat.zero_le _) (Nat.zero_le _) (fun w2 hw2 => ?_)
          obtain ⟨D2, q2, m2, f1, f2⟩ := hw2
          refine V_iinc (q := 64) (ls' := [_, _, _, _]) dX0_countBack_61 rfl (by decide) (by rfl) rfl (by first | exact inc1 _ | rfl) rfl ?_
          refine V_goto (tgt := 24) dX0_countBack_64 (by decide) ?_
          exact ih w2 D2 q2 m2 f1 (b3.tr f2)
  exact key 0 (Nat.zero_le _) w1 D0 q0 1 hB0 hF0
theorem c_lowestNearer (hJ : JnF g w n j T Qa m Hh) {v r h : Nat} (hv : v < 512) (hr : r < 2 ^ 31) (hh : h ≤ 9) (hc : canN v h) (hT : T (behN v h) = nI r) (hmin : ∀ h', h' < h → canN v h' → T (behN v h') ≠ nI r) : CtR g l MX0_lowestNearer 1 [rf g j, .int (nI v), .int (nI r)] w n (.int (nI h)) := by
  obtain ⟨e0, e1, e2, e3, e4⟩ := hJ
  refine Ct.ofs (M := MX0_lowestNearer) (ls := [some _, some _, some _, none, none]) (by decide +kernel) (by exact (Nat.le_of_ble_eq_true rfl)) (by rfl) (by rfl) (by rfl) ?_
  refine V_iconst (q := 1) (v := nI 0) dX0_lowestNearer_0 rfl (by decide) ?_
  refine V_istore_n (q := 2) (ls' := [_, _, _, _, _]) dX0_lowestNearer_1 rfl (by decide) (by rfl) rfl ?_
  have key : ∀ i, i ≤ h → V g l MX0_lowestNearer (rmd 1 0 0) (FinM g (qR (.int (nI h)) w n) 0 0) 2 [some (rf g j), some (.int (nI v)), some (.int (nI r)), some (.int (nI i)), none] [] (w) n 0 0 := by
    refine loopU (fun i => V g l MX0_lowestNearer (rmd 1 0 0) (FinM g (qR (.int (nI h)) w n) 0 0) 2 [some (rf g j), some (.int (nI v)), some (.int (nI r)), some (.int (nI i)), none] [] (w) n 0 0) h ?_ ?_
    · have hb := (edge_at hv hh hc).1
      refine V_iload_n (q := 3) dX0_lowestNearer_2 rfl rfl ?_
      refine V_bipush (q := 5) (v := nI 9) dX0_lowestNearer_3 rfl (by decide) ?_
      refine V_icmpN_gt (q := 8) (tgt := 50) dX0_lowestNearer_5 (by decide) rfl (by omega) (by omega) (fun h9 => by first | exact h9.elim | exact absurd h9 (by assumption) | (exfalso; omega)) (fun _ => ?_)
      refine V_iload_n (q := 9) dX0_lowestNearer_8 rfl rfl ?_
      refine V_iload_n (q := 10) dX0_lowestNearer_9 rfl rfl ?_
      refine CrX0_49 (q := 13) rfl dX0_lowestNearer_10 rfl (c_canMake hv hh) ⟨(Nat.le_of_ble_eq_true rfl), (Nat.le_of_ble_eq_true rfl)⟩ (Nat.le_of_ble_eq_true rfl) (Nat.zero_le _) (Nat.zero_le _) ?_
      refine V_topi (if_pos hc) ?_
      refine V_if_eq (q := 16) (tgt := 44) dX0_lowestNearer_13 (by decide) rfl (fun h9 => absurd h9 (by decide)) (fun _ => ?_)
      refine V_iload_n (q := 17) dX0_lowestNearer_16 rfl rfl ?_
      refine V_iload_n (q := 18) dX0_lowestNearer_17 rfl rfl ?_
      refine CrX0_46 (q := 21) rfl dX0_lowestNearer_18 rfl (c_behind hv hh) ⟨(Nat.le_of_ble_eq_true rfl), (Nat.le_of_ble_eq_true rfl)⟩ (Nat.le_of_ble_eq_true rfl) (Nat.zero_le _) (Nat.zero_le _) ?_
      refine V_istore (q := 23) (ls' := [_, _, _, _, _]) dX0_lowestNearer_21 rfl (by decide) (by rfl) rfl ?_
      refine V_iload (q := 25) dX0_lowestNearer_23 rfl rfl ?_
      refine CrX0_21 (q := 28) rfl dX0_lowestNearer_25 rfl (c_isState hb) ⟨(Nat.le_of_ble_eq_true rfl), (Nat.le_of_ble_eq_true rfl)⟩ (Nat.le_of_ble_eq_true rfl) (Nat.zero_le _) (Nat.zero_le _) ?_
      refine V_if_eq (q := 31) (tgt := 44) dX0_lowestNearer_28 (by decide) rfl (fun h9 => absurd h9 (by decide)) (fun _ => ?_)
      refine V_aload_n (q := 32) dX0_lowestNearer_31 rfl rfl rfl ?_
      refine GX0_9 (q := 35) rfl dX0_lowestNearer_32 rfl (by first | assumption | exact up_eq | exact (up_ne (by omega)).trans (by first | assumption | exact up_eq | exact (up_ne (by omega)).trans (by first | assumption | exact up_eq | exact (up_ne (by omega)).trans (by first | assumption | exact up_eq)))) (by omega) (by rfl) ?_
      refine V_iload (q := 37) dX0_lowestNearer_35 rfl rfl ?_
      refine V_ialdN (q := 38) dX0_lowestNearer_37 rfl (by first | assumption | exact up_eq | exact (up_ne (by omega)).trans (by first | assumption | exact up_eq | exact (up_ne (by omega)).trans (by first | assumption | exact up_eq | exact (up_ne (by omega)).trans (by first | assumption | exact up_eq)))) (by omega) (by omega) (by omega) rfl hT ?_
      refine V_iload_n (q := 39) dX0_lowestNearer_38 rfl rfl ?_
      refine V_icmpN_ne (q := 42) (tgt := 44) dX0_lowestNearer_39 (by decide) rfl (by omega) (by omega) (fun h9 => by first | exact h9.elim | exact absurd h9 (by assumption) | (exfalso; omega)) (fun _ => ?_)
      refine V_iload_n (q := 43) dX0_lowestNearer_42 rfl rfl ?_
      exact V_iret dX0_lowestNearer_43 rfl (Nat.le_of_ble_eq_true rfl) (Nat.le_of_ble_eq_true rfl) (⟨rfl, rfl, rfl⟩)
    · intro i hi ih
      refine V_iload_n (q := 3) dX0_lowestNearer_2 rfl rfl ?_
      refine V_bipush (q := 5) (v := nI 9) dX0_lowestNearer_3 rfl (by decide) ?_
      refine V_icmpN_gt (q := 8) (tgt := 50) dX0_lowestNearer_5 (by decide) rfl (by omega) (by omega) (fun h9 => by first | exact h9.elim | exact absurd h9 (by assumption) | (exfalso; omega)) (fun _ => ?_)
      refine V_iload_n (q := 9) dX0_lowestNearer_8 rfl rfl ?_
      refine V_iload_n (q := 10) dX0_lowestNearer_9 rfl rfl ?_
      refine CrX0_49 (q := 13) rfl dX0_lowestNearer_10 rfl (c_canMake hv (by omega)) ⟨(Nat.le_of_ble_eq_true rfl), (Nat.le_of_ble_eq_true rfl)⟩ (Nat.le_of_ble_eq_true rfl) (Nat.zero_le _) (Nat.zero_le _) ?_
      by_cases hci : canN v i
      · skip
        have hb := (edge_at hv (by omega) hci).1
        refine V_topi (if_pos hci) ?_
        refine V_if_eq (q := 16) (tgt := 44) dX0_lowestNearer_13 (by decide) rfl (fun h9 => absurd h9 (by decide)) (fun _ => ?_)
        refine V_iload_n (q := 17) dX0_lowestNearer_16 rfl rfl ?_
        refine V_iload_n (q := 18) dX0_lowestNearer_17 rfl rfl ?_
        refine CrX0_46 (q := 21) rfl dX0_lowestNearer_18 rfl (c_behind hv (by omega)) ⟨(Nat.le_of_ble_eq_true rfl), (Nat.le_of_ble_eq_true rfl)⟩ (Nat.le_of_ble_eq_true rfl) (Nat.zero_le _) (Nat.zero_le _) ?_
        refine V_istore (q := 23) (ls' := [_, _, _, _, _]) dX0_lowestNearer_21 rfl (by decide) (by rfl) rfl ?_
        refine V_iload (q := 25) dX0_lowestNearer_23 rfl rfl ?_
        refine CrX0_21 (q := 28) rfl dX0_lowestNearer_25 rfl (c_isState hb) ⟨(Nat.le_of_ble_eq_true rfl), (Nat.le_of_ble_eq_true rfl)⟩ (Nat.le_of_ble_eq_true rfl) (Nat.zero_le _) (Nat.zero_le _) ?_
        refine V_if_eq (q := 31) (tgt := 44) dX0_lowestNearer_28 (by decide) rfl (fun h9 => absurd h9 (by decide)) (fun _ => ?_)
        refine V_aload_n (q := 32) dX0_lowestNearer_31 rfl rfl rfl ?_
        refine GX0_9 (q := 35) rfl dX0_lowestNearer_32 rfl (by first | assumption | exact up_eq | exact (up_ne (by omega)).trans (by first | assumption | exact up_eq | exact (up_ne (by omega)).trans (by first | assumption | exact up_eq | exact (up_ne (by omega)).trans (by first | assumption | exact up_eq)))) (by omega) (by rfl) ?_
        refine V_iload (q := 37) dX0_lowestNearer_35 rfl rfl ?_
        refine V_ialdN (q := 38) dX0_lowestNearer_37 rfl (by first | assumption | exact up_eq | exact (up_ne (by omega)).trans (by first | assumption | exact up_eq | exact (up_ne (by omega)).trans (by first | assumption | exact up_eq | exact (up_ne (by omega)).trans (by first | assumption | exact up_eq)))) (by omega) (by omega) (by omega) rfl (by rfl) ?_
        refine V_iload_n (q := 39) dX0_lowestNearer_38 rfl rfl ?_
        refine V_icmp_ne (q := 42) (tgt := 44) dX0_lowestNearer_39 (by decide) rfl (fun _ => ?_) (fun h9 => absurd h9 (hmin i hi hci))
        refine V_iinc (q := 47) (ls' := [_, _, _, _, _]) dX0_lowestNearer_44 rfl (by decide) (by rfl) rfl (by first | exact inc1 _ | rfl) rfl ?_
        refine V_goto (tgt := 2) dX0_lowestNearer_47 (by decide) ?_
        refine V_fg 4 (ls2 := [_, _, _, _, none]) (by rfl) ?_
        exact ih
      · skip
        refine V_topi (if_neg hci) ?_
        refine V_if_eq (q := 16) (tgt := 44) dX0_lowestNearer_13 (by decide) rfl (fun _ => ?_) (fun h9 => absurd rfl h9)
        refine V_iinc (q := 47) (ls' := [_, _, _, _, _]) dX0_lowestNearer_44 rfl (by decide) (by rfl) rfl (by first | exact inc1 _ | rfl) rfl ?_
        refine V_goto (tgt := 2) dX0_lowestNearer_47 (by decide) ?_
        exact ih
  exact key 0 (Nat.zero_le _)
theorem c_jheightAt (hJ : JnF g w n j T Qa m Hh) {i : Nat} (hi : i < 9) : CtR g l MX0_heightAt 0 [rf g j, .int (nI i)] w n (.int (Hh i)) := by
  obtain ⟨e0, e1, e2, e3, e4⟩ := hJ
  refine Ct.ofs (M := MX0_heightAt) (ls := [some _, some _]) (by decide +kernel) (by exact (Nat.le_of_ble_eq_true rfl)) (by rfl) (by rfl) (by rfl) ?_
  refine V_iload_n (q := 1) dX0_heightAt_0 rfl rfl ?_
  refine V_ifN_lt (q := 4) (tgt := 22) dX0_heightAt_1 (by decide) rfl (by omega) (fun h9 => by first | exact h9.elim | exact absurd h9 (by assumption) | (exfalso; omega)) (fun _ => ?_)
  refine V_iload_n (q := 5) dX0_heightAt_4 rfl rfl ?_
  refine V_aload_n (q := 6) dX0_heightAt_5 rfl rfl rfl ?_
  refine GX0_18 (q := 9) rfl dX0_heightAt_6 rfl (by first | assumption | exact up_eq | exact (up_ne (by omega)).trans (by first | assumption | exact up_eq | exact (up_ne (by omega)).trans (by first | assumption | exact up_eq | exact (up_ne (by omega)).trans (by first | assumption | exact up_eq)))) (by omega) (by rfl) ?_
  refine V_alenI (q := 10) dX0_heightAt_9 rfl (by first | assumption | exact up_eq | exact (up_ne (by omega)).trans (by first | assumption | exact up_eq | exact (up_ne (by omega)).trans (by first | assumption | exact up_eq | exact (up_ne (by omega)).trans (by first | assumption | exact up_eq)))) (by omega) ?_
  refine V_icmpN_ge (q := 13) (tgt := 22) dX0_heightAt_10 (by decide) rfl (by omega) (by omega) (fun h9 => by first | exact h9.elim | exact absurd h9 (by assumption) | (exfalso; omega)) (fun _ => ?_)
  refine V_aload_n (q := 14) dX0_heightAt_13 rfl rfl rfl ?_
  refine GX0_18 (q := 17) rfl dX0_heightAt_14 rfl (by first | assumption | exact up_eq | exact (up_ne (by omega)).trans (by first | assumption | exact up_eq | exact (up_ne (by omega)).trans (by first | assumption | exact up_eq | exact (up_ne (by omega)).trans (by first | assumption | exact up_eq)))) (by omega) (by rfl) ?_
  refine V_iload_n (q := 18) dX0_heightAt_17 rfl rfl ?_
  refine V_ialdN (q := 19) dX0_heightAt_18 rfl (by first | assumption | exact up_eq | exact (up_ne (by omega)).trans (by first | assumption | exact up_eq | exact (up_ne (by omega)).trans (by first | assumption | exact up_eq | exact (up_ne (by omega)).trans (by first | assumption | exact up_eq)))) (by omega) (by omega) (by omega) rfl (by rfl) ?_
  refine V_goto (tgt := 23) dX0_heightAt_19 (by decide) ?_
  exact V_iret dX0_heightAt_23 rfl (Nat.le_of_ble_eq_true rfl) (Nat.le_of_ble_eq_true rfl) (⟨rfl, rfl, rfl⟩)
/-- the joins behind find: the heights tell the lowest code -/
def JnH (g : GG) (w : HW) (n j k c : Nat) : Prop := ∃ T Qa m Hh, JnF g w n j T Qa m Hh ∧ ∀ a, a < k → Hh a = nI (digN c k a)
theorem JnH.jn {k c : Nat} (h : JnH g w n j k c) : Jn g w n j := by
  obtain ⟨T, Qa, m, Hh, h1, -⟩ := h
  exact ⟨T, Qa, m, Hh, h1⟩
theorem dig_snoc {c h i a : Nat} (hh : h ≤ 9) (ha : a < i) : digN (c * 10 + h) (i + 1) a = digN c i a := by
  unfold digN
  rw [show i + 1 - 1 - a = (i - 1 - a) + 1 by omega, Nat.pow_succ, Nat.mul_comm (10 ^ (i - 1 - a)) 10, ← Nat.div_div_eq_div_mul, show (c * 10 + h) / 10 = c by omega]
theorem dig_last {c h i : Nat} (hh : h ≤ 9) : digN (c * 10 + h) (i + 1) i = h := by
  unfold digN
  rw [show i + 1 - 1 - i = 0 by omega, Nat.pow_zero, Nat.div_one]
  omega
theorem c_find (hJ : Jn g w n j) {s t k : Nat} (hs : s < 512) (ht : t < 512) (hk : Dst s t k) (hk9 : k ≤ 9) : CtI g l MX0_find 3 [rf g j, .int (nI s), .int (nI t)] w n (fun x w' => x = nI k ∧ (∃ c, LowC s t k c ∧ JnH g w' n j k c) ∧ FrJ w w' j) := by
  have hJ' := hJ
  obtain ⟨T0, Qa0, m0, Hh0, hJ0⟩ := hJ
  have hobj := hJ0.1
  have hnn := hJ0.2.2.2.2
  refine Ct.ofs (M := MX0_find) (ls := [some _, some _, some _, none, none, none, none]) (by decide +kernel) (by exact (Nat.le_of_ble_eq_true rfl)) (by rfl) (by rfl) (by rfl) ?_
  refine V_aload_n (q := 1) dX0_find_0 rfl rfl rfl ?_
  refine V_iload_n (q := 2) dX0_find_1 rfl rfl ?_
  refine V_iload_n (q := 3) dX0_find_2 rfl rfl ?_
  refine CiX0_39 (q := 6) rfl dX0_find_3 rfl (c_countBack hJ' hs ht hk) ⟨(Nat.le_of_ble_eq_true rfl), (Nat.le_of_ble_eq_true rfl)⟩ (Nat.le_of_ble_eq_true rfl) (by first | assumption | exact up_eq | exact (up_ne (by omega)).trans (by first | assumption | exact up_eq | exact (up_ne (by omega)).trans (by first | assumption | exact up_eq | exact (up_ne (by omega)).trans (by first | assumption | exact up_eq)))) (by omega) (Nat.zero_le _) (Nat.zero_le _) (fun x w1 hw1 => ?_)
  obtain ⟨rfl, ⟨T, Qa, m, Hh, hJ1, far⟩, hF1⟩ := hw1
  refine V_istore_n (q := 7) (ls' := [_, _, _, _, _, _, _]) dX0_find_6 rfl (by decide) (by rfl) rfl ?_
  refine V_iload_n (q := 8) dX0_find_7 rfl rfl ?_
  refine V_istore (q := 10) (ls' := [_, _, _, _, _, _, _]) dX0_find_8 rfl (by decide) (by rfl) rfl ?_
  refine V_iconst (q := 11) (v := nI 0) dX0_find_10 rfl (by decide) ?_
  refine V_istore (q := 13) (ls' := [_, _, _, _, _, _, _]) dX0_find_11 rfl (by decide) (by rfl) rfl ?_
  have key : ∀ i, i ≤ k → ∀ (p c : Nat) (Hh : Nat → Int32) (w2 : HW), JnF g w2 n j T Qa m Hh → FrJ w w2 j → PC i s p c → PE Edg (k - i) p t → (∀ c', PC k s t c' → c ≤ c' / 10 ^ (k - i)) → (∀ a, a < i → Hh a = nI (digN c i a)) → V g l MX0_find (rmd 3 0 0) (FinM g (qI (fun x w' => x = nI k ∧ (∃ c, LowC s t k c ∧ JnH g w' n j k c) ∧ FrJ w w' j) n) 0 0) 13 [some (rf g j), some (.int (nI s)), some (.int (nI t)), some (.int (nI k)), some (.int (nI p)), some (.int (nI i)), none] [] (w2) n 0 0 := by
    refine loopU (fun i => ∀ (p c : Nat) (Hh : Nat → Int32) (w2 : HW), JnF g w2 n j T Qa m Hh → FrJ w w2 j → PC i s p c → PE Edg (k - i) p t → (∀ c', PC k s t c' → c ≤ c' / 10 ^ (k - i)) → (∀ a, a < i → Hh a = nI (digN c i a)) → V g l MX0_find (rmd 3 0 0) (FinM g (qI (fun x w' => x = nI k ∧ (∃ c, LowC s t k c ∧ JnH g w' n j k c) ∧ FrJ w w' j) n) 0 0) 13 [some (rf g j), some (.int (nI s)), some (.int (nI t)), some (.int (nI k)), some (.int (nI p)), some (.int (nI i)), none] [] (w2) n 0 0) k ?_ ?_
    · intro p c Hh w2 b1 b2 b3 b4 b5 b6
      rw [Nat.sub_self] at b4 b5
      have b4 : p = t := b4
      subst b4
      refine V_iload (q := 15) dX0_find_13 rfl rfl ?_
      refine V_iload_n (q := 16) dX0_find_15 rfl rfl ?_
      refine V_icmpN_ge (q := 19) (tgt := 67) dX0_find_16 (by decide) rfl (by omega) (by omega) (fun _ => ?_) (fun h9 => by first | exact h9.elim | (exfalso; omega))
      refine V_iload_n (q := 68) dX0_find_67 rfl rfl ?_
      exact V_iret dX0_find_68 rfl (Nat.le_of_ble_eq_true rfl) (Nat.le_of_ble_eq_true rfl) (⟨rfl, _, rfl, rfl, ⟨c, ⟨b3, fun c' hc' => by have := b5 c' hc'; rwa [Nat.pow_zero, Nat.div_one] at this⟩, T, Qa, m, Hh, b1, b6⟩, b2⟩)
    · intro i hi ih p c Hh w2 b1 b2 b3 b4 b5 b6
      have b1' := b1
      obtain ⟨e0, e1, e2, e3, e4⟩ := b1
      have hp : p < 512 := PE_lt hs (PC_PE b3)
      obtain ⟨r, hr⟩ : ∃ r, k - i = r + 1 := ⟨k - i - 1, by omega⟩
      rw [hr] at b4
      obtain ⟨u, hu1, hu2⟩ := PE_uncons b4
      -- a throw is good if it comes nearer
      have good : ∀ h, h ≤ 9 → canN p h → (T (behN p h) = nI r ↔ PE Edg r (behN p h) t) := by
        intro h hh hc
        have hb := (edge_at hp hh hc).1
        constructor
        · intro e
          exact far.1 _ _ hb (by omega) e
        · intro e
          obtain ⟨r', a1, a2⟩ := far.2 _ r hb (by omega) e
          have a3 := far.1 _ r' hb (by omega) a2
          rcases Nat.lt_or_ge r' r with z | z
          · exfalso
            have hp2 : PE Edg (r' + 1) p t := PE_cons ⟨h, hh, hc, rfl⟩ a3
            have cat : ∀ {b a x y z : Nat}, PE Edg a x y → PE Edg b y z → PE Edg (a + b) x z := by
              intro b
              induction b with
              | zero => intro a x y z q1 q2; have q2 : y = z := q2; rw [← q2]; exact q1
              | succ b ihb => intro a x y z q1 q2; obtain ⟨o, o1, o2⟩ := q2; exact ⟨o, ihb q1 o1, o2⟩
            have := hk.2 _ (cat (PC_PE b3) hp2)
            omega
          · rw [a2, show r' = r by omega]
      obtain ⟨x0, hx1, hx2, hx3⟩ := hu1
      obtain ⟨h, ⟨hh1, hh2, hh3⟩, hmin⟩ := pk_least (fun h => h ≤ 9 ∧ canN p h ∧ PE Edg r (behN p h) t) ⟨x0, hx1, hx2, by rw [hx3]; exact hu2⟩
      have hTh : T (behN p h) = nI r := (good h hh1 hh2).mpr hh3
      refine V_iload (q := 15) dX0_find_13 rfl rfl ?_
      refine V_iload_n (q := 16) dX0_find_15 rfl rfl ?_
      refine V_icmpN_ge (q := 19) (tgt := 67) dX0_find_16 (by decide) rfl (by omega) (by omega) (fun h9 => by first | exact h9.elim | exact absurd h9 (by assumption) | (exfalso; omega)) (fun _ => ?_)
      refine V_iload (q := 21) dX0_find_19 rfl rfl ?_
      refine V_aload_n (q := 22) dX0_find_21 rfl rfl rfl ?_
      refine GX0_18 (q := 25) rfl dX0_find_22 rfl (by first | assumption | exact up_eq | exact (up_ne (by omega)).trans (by first | assumption | exact up_eq | exact (up_ne (by omega)).trans (by first | assumption | exact up_eq | exact (up_ne (by omega)).trans (by first | assumption | exact up_eq)))) (by omega) (by rfl) ?_
      refine V_alenI (q := 26) dX0_find_25 rfl (by first | assumption | exact up_eq | exact (up_ne (by omega)).trans (by first | assumption | exact up_eq | exact (up_ne (by omega)).trans (by first | assumption | exact up_eq | exact (up_ne (by omega)).trans (by first | assumption | exact up_eq)))) (by omega) ?_
      refine V_icmpN_ge (q := 29) (tgt := 67) dX0_find_26 (by decide) rfl (by omega) (by omega) (fun h9 => by first | exact h9.elim | exact absurd h9 (by assumption) | (exfalso; omega)) (fun _ => ?_)
      refine V_aload_n (q := 30) dX0_find_29 rfl rfl rfl ?_
      refine V_iload (q := 32) dX0_find_30 rfl rfl ?_
      refine V_iload_n (q := 33) dX0_find_32 rfl rfl ?_
      refine V_iload (q := 35) dX0_find_33 rfl rfl ?_
      refine V_isub (q := 36) dX0_find_35 rfl (by first | exact pk_sub (by omega) | rfl) ?_
      refine V_iconst (q := 37) (v := nI 1) dX0_find_36 rfl (by decide) ?_
      refine V_isub (q := 38) dX0_find_37 rfl ((pk_sub (a := k - i) (b := 1) (by omega)).trans (congrArg nI (by omega : k - i - 1 = r))) ?_
      refine CrX0_43 (q := 41) rfl dX0_find_38 rfl (c_lowestNearer b1' hp (by omega) hh1 hh2 hTh (fun h' hh' hc' e => hmin h' hh' ⟨by omega, hc', (good h' (by omega) hc').mp e⟩)) ⟨(Nat.le_of_ble_eq_true rfl), (Nat.le_of_ble_eq_true rfl)⟩ (Nat.le_of_ble_eq_true rfl) (by first | assumption | exact up_eq | exact (up_ne (by omega)).trans (by first | assumption | exact up_eq | exact (up_ne (by omega)).trans (by first | assumption | exact up_eq | exact (up_ne (by omega)).trans (by first | assumption | exact up_eq)))) (by omega) (Nat.zero_le _) (Nat.zero_le _) ?_
      refine V_istore (q := 43) (ls' := [_, _, _, _, _, _, _]) dX0_find_41 rfl (by decide) (by rfl) rfl ?_
      refine V_aload_n (q := 44) dX0_find_43 rfl rfl rfl ?_
      refine GX0_18 (q := 47) rfl dX0_find_44 rfl (by first | assumption | exact up_eq | exact (up_ne (by omega)).trans (by first | assumption | exact up_eq | exact (up_ne (by omega)).trans (by first | assumption | exact up_eq | exact (up_ne (by omega)).trans (by first | assumption | exact up_eq)))) (by omega) (by rfl) ?_
      refine V_iload (q := 49) dX0_find_47 rfl rfl ?_
      refine V_iload (q := 51) dX0_find_49 rfl rfl ?_
      refine V_iastN (q := 52) dX0_find_51 rfl (by first | assumption | exact up_eq | exact (up_ne (by omega)).trans (by first | assumption | exact up_eq | exact (up_ne (by omega)).trans (by first | assumption | exact up_eq | exact (up_ne (by omega)).trans (by first | assumption | exact up_eq)))) (by omega) (by omega) (by omega) rfl (by rfl) ?_
      refine V_iload (q := 54) dX0_find_52 rfl rfl ?_
      refine V_iload (q := 56) dX0_find_54 rfl rfl ?_
      refine CrX0_46 (q := 59) rfl dX0_find_56 rfl (c_behind hp hh1) ⟨(Nat.le_of_ble_eq_true rfl), (Nat.le_of_ble_eq_true rfl)⟩ (Nat.le_of_ble_eq_true rfl) (Nat.zero_le _) (Nat.zero_le _) ?_
      refine V_istore (q := 61) (ls' := [_, _, _, _, _, _, _]) dX0_find_59 rfl (by decide) (by rfl) rfl ?_
      refine V_iinc (q := 64) (ls' := [_, _, _, _, _, _, _]) dX0_find_61 rfl (by decide) (by rfl) rfl (by first | exact inc1 _ | rfl) rfl ?_
      refine V_goto (tgt := 13) dX0_find_64 (by decide) ?_
      refine V_fg 6 (ls2 := [_, _, _, _, _, _, none]) (by rfl) ?_
      refine ih (behN p h) (c * 10 + h) (upd Hh i (nI h)) _ ⟨(up_ne (by omega)).trans e0, (up_ne (by omega)).trans e1, (up_ne (by omega)).trans e2, up_eq, e4⟩ (fun y hy => (up_ne (by omega)).trans (b2 y hy)) ⟨p, c, h, b3, hh1, hh2, rfl, rfl⟩ (by rw [show k - (i + 1) = r by omega]; exact hh3) (fun c' hc' => ?_) (fun a ha => ?_)
      · have hle := b5 c' hc'
        rw [show k - (i + 1) = r by omega]
        rw [hr] at hle
        have hc2 : PC ((i + 1) + r) s t c' := by rw [show i + 1 + r = k by omega]; exact hc'
        obtain ⟨v, v1, v2⟩ := PC_cut hc2
        obtain ⟨p', c1, h', y1, y2, y3, y4, y5⟩ := v1
        have hc1 : c1 = c' / 10 ^ (r + 1) := by
          rw [Nat.pow_succ, ← Nat.div_div_eq_div_mul, y5]
          omega
        rw [y5]
        rcases Nat.lt_or_ge c c1 with z | z
        · omega
        · have e5 : c1 = c := by omega
          subst e5
          have e6 := PC_det y1 b3
          subst e6
          rcases Nat.lt_or_ge h' h with z2 | z2
          · exact absurd ⟨y2, y3, by rw [y4]; exact v2⟩ (hmin h' z2)
          · omega
      · by_cases e : a = i
        · rw [e, updI, dig_last hh1]
        · rw [updN e, dig_snoc hh1 (by omega)]
          exact b6 a (by omega)
  exact key 0 (Nat.zero_le _) s 0 Hh w1 hJ1 hF1 ⟨rfl, rfl⟩ hk.1 (fun c' _ => Nat.zero_le _) (fun a ha => absurd ha (Nat.not_lt_zero a))
end JOINS
