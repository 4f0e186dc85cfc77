/-! the model's constructor -/
/-- the outer array, filled up to its i-th row -/
theorem mo_outer (c : ClassId) (N h0 : Nat) : ∀ i : Nat, Jvm.Free.Multi.outerC c N h0 i = arrV c N (fun j => if j < i then .ref (h0 + 1 + j) else .null) := by
  intro i
  induction i with
  | zero =>
    show ({ cls := c, slots := Array.replicate N .null, vm := .none } : Cell) = _
    rw [arrV_new]
    exact congrArg (arrV c N) (funext fun j => (if_neg (Nat.not_lt_zero j)).symm)
  | succ i ih =>
    show (Jvm.Free.Multi.outerC c N h0 i).setSlot i (.ref (h0 + 1 + i)) = _
    rw [ih, arrV_store]
    refine congrArg (arrV c N) (funext fun j => ?_)
    show (if j = i then Value.ref (h0 + 1 + i) else if j < i then Value.ref (h0 + 1 + j) else .null) = if j < i + 1 then Value.ref (h0 + 1 + j) else .null
    rcases Nat.lt_trichotomy j i with h | h | h
    · rw [if_neg (by omega), if_pos h, if_pos (by omega)]
    · rw [if_pos h, if_pos (by omega), h]
    · rw [if_neg (by omega), if_neg (by omega), if_neg (by omega)]
section RMN
variable {g : GG} {l : Launch} {M : MI} {R : Room} {FN : FinT} {pc q : Nat} {ls : LO} {st : List Value} {w : HW} {n cs sl : Nat}
theorem V_mna {index : Nat} {N K : Nat} (d : decode M.2.1 pc = .ok (.multianewarray index 2, 4)) (hq : pc + 4 = q) (hcl : Jvm.Cond.classLink M.1.cls index "[[I" ∈ wsL_law) (harr : Jvm.Cond.arrayClass .int ∈ wsL_law) (hN : N ≤ 1000) (hK0 : K ≤ 1000) (hcells : cs + (1 + N) ≤ R.cells) (hslots : sl + (N + N * K) ≤ R.slots)
    (k : ∀ w' : HW, w' n = eA g N (fun i => if i < N then some (g.1 + n + 1 + i) else none) → (∀ i, i < N → w' (n + 1 + i) = eI g K (fun _ => 0)) → (∀ i, i < n → w' i = w i) → V g l M R FN q ls (rf g n :: st) w' (n + 1 + N) (cs + 1 + N) (sl + N + N * K)) : V g l M R FN pc ls (.int (nI K) :: .int (nI N) :: st) w n cs sl := by
  subst hq
  intro p e s m args below meth c H locs la hC hL hP hS hn
  obtain ⟨hx, hb, hr, hlk, hml, hown, hts, hK, hb0, hin⟩ := id hC
  refine W_sz fun hsz => ?_
  have hH : H.size = g.1 + n := Nat.le_antisymm (by omega) (hP.sz (Nat.le_trans hb0 hS.1))
  have cN : (nI N).toNatClampNeg = N := nI_clamp (by omega)
  have cK : (nI K).toNatClampNeg = K := nI_clamp (by omega)
  intro T hT Xs
  have hbt : componentBytes FieldType.int = 4 := rfl
  obtain ⟨vm₁, cA, comp, -, fA, fC, hO, -, X', step⟩ := Xs.multianewarray2F hx hown (index := index) (ty := .int) (hts _ hcl) (vAOA.use hK.2.2.2.2.2.2.2.2.2) (hts _ harr) (g := F0 m pc la (.int (nI K) :: .int (nI N) :: st)) rfl (by rw [hb]; exact d) rfl (nI_pos (by omega)) (nI_pos (by omega)) (by rw [cN]; omega) (by rw [cK, hbt]; omega) (by rw [cK]; omega) rfl rfl (by rw [cN]; exact hcells) (by rw [cN, cK]; exact hslots)
  rw [cN, cK] at X' step
  have hcA : cA = g.2.2.1 4 := Option.some.inj (fA.symm.trans (hK.1.2 4 _ rfl).2)
  have hcC : comp = g.2.2.1 0 := Option.some.inj (fC.symm.trans (hK.1.2 0 _ rfl).2)
  subst hcA
  subst hcC
  generalize hF : Jvm.Free.Multi.fill (T.setVm vm₁) (g.2.2.1 4) (g.2.2.1 0) N K (defaultValue .int) N = F at X' step
  have hTh : (T.setVm vm₁).heap = H := hT
  obtain ⟨f1, f2, -, -⟩ := Jvm.Free.Multi.fill_facts (T.setVm vm₁) (g.2.2.1 4) (g.2.2.1 0) N K (defaultValue .int) N
  rw [hF, hTh] at f1 f2
  have hold : ∀ x : Nat, x < H.size → F.heap[x]? = H[x]? := fun x hx => by
    have := Jvm.Free.Multi.fill_old (T.setVm vm₁) (g.2.2.1 4) (g.2.2.1 0) N K (defaultValue .int) (a := x) (by rw [hTh]; exact hx) N
    rw [hF, hTh] at this
    exact this
  have hrow : ∀ j : Nat, j < N → F.heap[H.size + 1 + j]? = some (Jvm.Free.Multi.innerC (g.2.2.1 0) K (defaultValue .int)) := fun j hj => by
    have := Jvm.Free.Multi.fill_inner (T.setVm vm₁) (g.2.2.1 4) (g.2.2.1 0) N K (defaultValue .int) N j hj
    rw [hF, hTh] at this
    exact this
  rw [mo_outer] at f2
  have hin0 : Jvm.Free.Multi.innerC (g.2.2.1 0) K (defaultValue .int) = arrV (g.2.2.1 0) K (fun _ => .int 0) := arrV_new _ _ _
  obtain ⟨w', hw'⟩ : ∃ w' : HW, w' = fun i => if i < n then w i else if i = n then eA g N (fun i => if i < N then some (g.1 + n + 1 + i) else none) else eI g K (fun _ => 0) := ⟨_, rfl⟩
  have w1 : ∀ i, i < n → w' i = w i := fun i hi => by rw [hw']; exact if_pos hi
  have w2 : w' n = eA g N (fun i => if i < N then some (g.1 + n + 1 + i) else none) := by rw [hw']; exact (if_neg (Nat.lt_irrefl n)).trans (if_pos rfl)
  have w3 : ∀ i, i < N → w' (n + 1 + i) = eI g K (fun _ => 0) := fun i hi => by rw [hw']; exact (if_neg (by omega)).trans (if_neg (by omega))
  have hP1 : Wd g w' (n + 1 + N) F.heap := by
    intro k9 x hx
    obtain ⟨hk9, rfl⟩ := wl_inv hx
    rcases Nat.lt_trichotomy k9 n with z | z | z
    · rw [w1 k9 z]
      exact (hP k9 _ (wl_get z)).kept (hold _ (hP k9 _ (wl_get z)).lt)
    · subst z
      rw [w2]
      show F.heap[g.1 + k9]? = some (vp_cell (g.2.2.1 4) (N, .inr (.inr (.inr (.inr _)))))
      rw [vp_cell_q, ← hH, f2]
      refine congrArg some (congrArg (arrV (g.2.2.1 4) N) (funext fun j => ?_))
      by_cases y : j < N
      · rw [if_pos y, if_pos y]
        rfl
      · rw [if_neg y, if_neg y]
        rfl
    · have hj := w3 (k9 - n - 1) (by omega)
      rw [show n + 1 + (k9 - n - 1) = k9 by omega] at hj
      rw [hj]
      show F.heap[g.1 + k9]? = some (vp_cell (g.2.2.1 0) (K, .inl (fun _ => 0)))
      have hh := hrow (k9 - n - 1) (by omega)
      rw [show H.size + 1 + (k9 - n - 1) = g.1 + k9 by omega] at hh
      rw [hh, hin0]
      rfl
  have hS1 : va_S (vA g) s.heap F.heap locs := ⟨by rw [f1]; exact Nat.le_trans hS.1 (by omega), fun x h1 h2 => (hold x (Nat.lt_of_lt_of_le h1 hS.1)).trans (hS.2.1 x h1 h2), hS.2.2⟩
  obtain ⟨t, a1, a2⟩ := k w' w2 w3 w1 p e s m args below meth c F.heap locs la hC hL hP1 hS1 (by omega) F rfl X'
  refine ⟨t, step t ?_, a2⟩
  have eT : T.heap.size = g.1 + n := by rw [← hH]; exact congrArg Array.size hT
  rw [eT]
  exact a1
end RMN
def Ke : MS := (0, 0, 0, -1, 0, 0, 0, 0, 0, 0, 0, 0, 0, 0, 0, 0)
theorem RN_e {F : Nat → Int32} (h : ∀ k, k < 9 → F k = 0) : RN F S0e := by
  have e0 : (0 : Int32) = nI 0 := by decide
  have ep : popc 0 = 0 := by decide
  refine ⟨⟨(h 0 (by decide)).trans e0, (h 1 (by decide)).trans e0, ?_, (h 3 (by decide)).trans e0, (h 4 (by decide)).trans e0, (h 5 (by decide)).trans e0, (h 6 (by decide)).trans e0, (h 7 (by decide)).trans e0, (h 8 (by decide)).trans e0⟩, fun i hi => absurd hi (Nat.not_lt_zero i), ⟨Nat.zero_le _, fun i hi => absurd hi (Nat.not_lt_zero i)⟩, ⟨(by decide : 0 < 512), Nat.zero_le _⟩, (by decide : 0 < 2 ^ 30)⟩
  show F 2 = nI (popc 0)
  rw [ep]
  exact (h 2 (by decide)).trans e0
section MINI
variable {g : GG} {l : Launch} {w : HW} {p : Nat}
theorem c_mInit (h0 : w p = eO 8 [.null, .null, .null, .null, .int 0, .int 0, .int 0, .int 0, .int 0, .int 0, .int 0, .null, .null, .null, .null, .int 0, .null, .int 0, .null, .int 0, .int 0, .int 0, .int 0, .int 0, .int 0, .int 0]) : Ct g l MX8_init 1 [rf g p] w (p + 1) (qN (fun w' => MW g w' (p + 19) p X0e ∧ ∀ i, i < p → w' i = w i) (p + 1) 18) 18 3419 := by
  refine Ct.ofs (M := MX8_init) (ls := [some _]) (by decide +kernel) (by exact (Nat.le_of_ble_eq_true rfl)) (by rfl) (by rfl) (by rfl) ?_
  refine V_aload_n (q := 1) dX8_init_0 rfl rfl rfl ?_
  refine OX8_3 (q := 4) rfl dX8_init_1 rfl (Nat.le_of_ble_eq_true rfl) (Nat.le_of_ble_eq_true rfl) ?_
  refine V_aload_n (q := 5) dX8_init_4 rfl rfl rfl ?_
  refine V_bipush (q := 7) (v := nI 63) dX8_init_5 rfl (by decide) ?_
  refine V_newI (q := 9) dX8_init_7 rfl wd_38 rfl (Nat.le_of_ble_eq_true rfl) (Nat.le_of_ble_eq_true rfl) (Nat.le_of_ble_eq_true rfl) ?_
  refine PX8_9 (q := 12) (fs' := [_, _, _, _, _, _, _, _, _, _, _, _, _, _, _, _, _, _, _, _, _, _, _, _, _, _]) rfl rfl dX8_init_9 rfl (by first | assumption | exact up_eq | exact (up_ne (by omega)).trans (by first | assumption | exact up_eq | exact (up_ne (by omega)).trans (by first | assumption | exact up_eq | exact (up_ne (by omega)).trans (by first | assumption | exact up_eq)))) (by omega) (by exact (Nat.le_of_ble_eq_true rfl)) (by rfl) ?_
  try rw [up_up]
  obtain ⟨v1, hv1⟩ : ∃ v, v = va_up (va_up w (p + 1) (eI g 63 (fun _ => 0))) p (eO 8 [rf g (p + 1), .null, .null, .null, .int 0, .int 0, .int 0, .int 0, .int 0, .int 0, .int 0, .null, .null, .null, .null, .int 0, .null, .int 0, .null, .int 0, .int 0, .int 0, .int 0, .int 0, .int 0, .int 0]) := ⟨_, rfl⟩
  refine V_wd (w' := v1) hv1.symm ?_
  have t1 : ∀ i, i ≠ p → i < p + 1 → v1 i = w i := fun i a1 a2 => by rw [hv1]; exact (up_ne a1).trans (up_ne (by omega))
  have c1 : v1 p = eO 8 [rf g (p + 1), .null, .null, .null, .int 0, .int 0, .int 0, .int 0, .int 0, .int 0, .int 0, .null, .null, .null, .null, .int 0, .null, .int 0, .null, .int 0, .int 0, .int 0, .int 0, .int 0, .int 0, .int 0] := by rw [hv1]; exact up_eq
  have n1 : v1 (p + 1) = eI g 63 (fun _ => 0) := by rw [hv1]; exact (up_ne (by omega)).trans up_eq
  have old1 : ∀ i, i < p → v1 i = w i := fun i hi => (t1 i (by omega) (by omega)).trans (rfl)
  refine V_aload_n (q := 13) dX8_init_12 rfl rfl rfl ?_
  refine V_bipush (q := 15) (v := nI 63) dX8_init_13 rfl (by decide) ?_
  refine V_newI (q := 17) dX8_init_15 rfl wd_38 rfl (Nat.le_of_ble_eq_true rfl) (Nat.le_of_ble_eq_true rfl) (Nat.le_of_ble_eq_true rfl) ?_
  refine PX8_13 (q := 20) (fs' := [_, _, _, _, _, _, _, _, _, _, _, _, _, _, _, _, _, _, _, _, _, _, _, _, _, _]) rfl rfl dX8_init_17 rfl (by first | assumption | exact up_eq | exact (up_ne (by omega)).trans (by first | assumption | exact up_eq | exact (up_ne (by omega)).trans (by first | assumption | exact up_eq | exact (up_ne (by omega)).trans (by first | assumption | exact up_eq)))) (by omega) (by exact (Nat.le_of_ble_eq_true rfl)) (by rfl) ?_
  try rw [up_up]
  obtain ⟨v2, hv2⟩ : ∃ v, v = va_up (va_up v1 (p + 2) (eI g 63 (fun _ => 0))) p (eO 8 [rf g (p + 1), rf g (p + 2), .null, .null, .int 0, .int 0, .int 0, .int 0, .int 0, .int 0, .int 0, .null, .null, .null, .null, .int 0, .null, .int 0, .null, .int 0, .int 0, .int 0, .int 0, .int 0, .int 0, .int 0]) := ⟨_, rfl⟩
  refine V_wd (w' := v2) hv2.symm ?_
  have t2 : ∀ i, i ≠ p → i < p + 2 → v2 i = v1 i := fun i a1 a2 => by rw [hv2]; exact (up_ne a1).trans (up_ne (by omega))
  have c2 : v2 p = eO 8 [rf g (p + 1), rf g (p + 2), .null, .null, .int 0, .int 0, .int 0, .int 0, .int 0, .int 0, .int 0, .null, .null, .null, .null, .int 0, .null, .int 0, .null, .int 0, .int 0, .int 0, .int 0, .int 0, .int 0, .int 0] := by rw [hv2]; exact up_eq
  have n2 : v2 (p + 2) = eI g 63 (fun _ => 0) := by rw [hv2]; exact (up_ne (by omega)).trans up_eq
  have g2_1 := (t2 _ (by omega) (by omega)).trans n1
  have old2 : ∀ i, i < p → v2 i = w i := fun i hi => (t2 i (by omega) (by omega)).trans (old1 i hi)
  refine V_aload_n (q := 21) dX8_init_20 rfl rfl rfl ?_
  refine V_bipush (q := 23) (v := nI 63) dX8_init_21 rfl (by decide) ?_
  refine V_newI (q := 25) dX8_init_23 rfl wd_38 rfl (Nat.le_of_ble_eq_true rfl) (Nat.le_of_ble_eq_true rfl) (Nat.le_of_ble_eq_true rfl) ?_
  refine PX8_16 (q := 28) (fs' := [_, _, _, _, _, _, _, _, _, _, _, _, _, _, _, _, _, _, _, _, _, _, _, _, _, _]) rfl rfl dX8_init_25 rfl (by first | assumption | exact up_eq | exact (up_ne (by omega)).trans (by first | assumption | exact up_eq | exact (up_ne (by omega)).trans (by first | assumption | exact up_eq | exact (up_ne (by omega)).trans (by first | assumption | exact up_eq)))) (by omega) (by exact (Nat.le_of_ble_eq_true rfl)) (by rfl) ?_
  try rw [up_up]
  obtain ⟨v3, hv3⟩ : ∃ v, v = va_up (va_up v2 (p + 3) (eI g 63 (fun _ => 0))) p (eO 8 [rf g (p + 1), rf g (p + 2), rf g (p + 3), .null, .int 0, .int 0, .int 0, .int 0, .int 0, .int 0, .int 0, .null, .null, .null, .null, .int 0, .null, .int 0, .null, .int 0, .int 0, .int 0, .int 0, .int 0, .int 0, .int 0]) := ⟨_, rfl⟩
  refine V_wd (w' := v3) hv3.symm ?_
  have t3 : ∀ i, i ≠ p → i < p + 3 → v3 i = v2 i := fun i a1 a2 => by rw [hv3]; exact (up_ne a1).trans (up_ne (by omega))
  have c3 : v3 p = eO 8 [rf g (p + 1), rf g (p + 2), rf g (p + 3), .null, .int 0, .int 0, .int 0, .int 0, .int 0, .int 0, .int 0, .null, .null, .null, .null, .int 0, .null, .int 0, .null, .int 0, .int 0, .int 0, .int 0, .int 0, .int 0, .int 0] := by rw [hv3]; exact up_eq
  have n3 : v3 (p + 3) = eI g 63 (fun _ => 0) := by rw [hv3]; exact (up_ne (by omega)).trans up_eq
  have g3_1 := (t3 _ (by omega) (by omega)).trans g2_1
  have g3_2 := (t3 _ (by omega) (by omega)).trans n2
  have old3 : ∀ i, i < p → v3 i = w i := fun i hi => (t3 i (by omega) (by omega)).trans (old2 i hi)
  refine V_aload_n (q := 29) dX8_init_28 rfl rfl rfl ?_
  refine V_bipush (q := 31) (v := nI 8) dX8_init_29 rfl (by decide) ?_
  refine V_bipush (q := 33) (v := nI 63) dX8_init_31 rfl (by decide) ?_
  refine V_mna (q := 37) (N := 8) (K := 63) dX8_init_33 rfl wd_85 wd_38 (by decide) (by decide) (Nat.le_of_ble_eq_true rfl) (Nat.le_of_ble_eq_true rfl) (fun u hu1 hu2 hu3 => ?_)
  have cu : u p = eO 8 [rf g (p + 1), rf g (p + 2), rf g (p + 3), .null, .int 0, .int 0, .int 0, .int 0, .int 0, .int 0, .int 0, .null, .null, .null, .null, .int 0, .null, .int 0, .null, .int 0, .int 0, .int 0, .int 0, .int 0, .int 0, .int 0] := (hu3 _ (by omega)).trans c3
  refine PX8_21 (q := 40) (fs' := [_, _, _, _, _, _, _, _, _, _, _, _, _, _, _, _, _, _, _, _, _, _, _, _, _, _]) rfl rfl dX8_init_37 rfl (by first | assumption | exact up_eq | exact (up_ne (by omega)).trans (by first | assumption | exact up_eq | exact (up_ne (by omega)).trans (by first | assumption | exact up_eq | exact (up_ne (by omega)).trans (by first | assumption | exact up_eq)))) (by omega) (by exact (Nat.le_of_ble_eq_true rfl)) (by rfl) ?_
  try rw [up_up]
  obtain ⟨v4, hv4⟩ : ∃ v, v = va_up u p (eO 8 [rf g (p + 1), rf g (p + 2), rf g (p + 3), rf g (p + 4), .int 0, .int 0, .int 0, .int 0, .int 0, .int 0, .int 0, .null, .null, .null, .null, .int 0, .null, .int 0, .null, .int 0, .int 0, .int 0, .int 0, .int 0, .int 0, .int 0]) := ⟨_, rfl⟩
  refine V_wd (w' := v4) hv4.symm ?_
  have t4 : ∀ i, i ≠ p → i < p + 4 → v4 i = v3 i := fun i a1 a2 => by rw [hv4]; exact (up_ne a1).trans (hu3 _ (by omega))
  have c4 : v4 p = eO 8 [rf g (p + 1), rf g (p + 2), rf g (p + 3), rf g (p + 4), .int 0, .int 0, .int 0, .int 0, .int 0, .int 0, .int 0, .null, .null, .null, .null, .int 0, .null, .int 0, .null, .int 0, .int 0, .int 0, .int 0, .int 0, .int 0, .int 0] := by rw [hv4]; exact up_eq
  have n4 : v4 (p + 4) = eA g 8 (fun i => if i < 8 then some (g.1 + (p + 4) + 1 + i) else none) := by rw [hv4]; exact (up_ne (by omega)).trans hu1
  have y4 : ∀ i, i < 8 → v4 (p + 5 + i) = eI g 63 (fun _ => 0) := fun i hi => by rw [hv4]; exact (up_ne (by omega)).trans (hu2 i hi)
  have g4_1 := (t4 _ (by omega) (by omega)).trans g3_1
  have g4_2 := (t4 _ (by omega) (by omega)).trans g3_2
  have g4_3 := (t4 _ (by omega) (by omega)).trans n3
  have old4 : ∀ i, i < p → v4 i = w i := fun i hi => (t4 i (by omega) (by omega)).trans (old3 i hi)
  refine V_aload_n (q := 41) dX8_init_40 rfl rfl rfl ?_
  refine V_iconst (q := 42) (v := (-1)) dX8_init_41 rfl (by decide) ?_
  refine PX8_24 (q := 45) (fs' := [_, _, _, _, _, _, _, _, _, _, _, _, _, _, _, _, _, _, _, _, _, _, _, _, _, _]) rfl dX8_init_42 rfl (by first | assumption | exact up_eq | exact (up_ne (by omega)).trans (by first | assumption | exact up_eq | exact (up_ne (by omega)).trans (by first | assumption | exact up_eq | exact (up_ne (by omega)).trans (by first | assumption | exact up_eq)))) (by omega) (by exact (Nat.le_of_ble_eq_true rfl)) (by rfl) ?_
  try rw [up_up]
  obtain ⟨v5, hv5⟩ : ∃ v, v = va_up v4 p (eO 8 [rf g (p + 1), rf g (p + 2), rf g (p + 3), rf g (p + 4), .int 0, .int 0, .int 0, .int (-1), .int 0, .int 0, .int 0, .null, .null, .null, .null, .int 0, .null, .int 0, .null, .int 0, .int 0, .int 0, .int 0, .int 0, .int 0, .int 0]) := ⟨_, rfl⟩
  refine V_wd (w' := v5) hv5.symm ?_
  have t5 : ∀ i, i ≠ p → i < p + 13 → v5 i = v4 i := fun i a1 a2 => by rw [hv5]; exact up_ne a1
  have c5 : v5 p = eO 8 [rf g (p + 1), rf g (p + 2), rf g (p + 3), rf g (p + 4), .int 0, .int 0, .int 0, .int (-1), .int 0, .int 0, .int 0, .null, .null, .null, .null, .int 0, .null, .int 0, .null, .int 0, .int 0, .int 0, .int 0, .int 0, .int 0, .int 0] := by rw [hv5]; exact up_eq
  have g5_1 := (t5 _ (by omega) (by omega)).trans g4_1
  have g5_2 := (t5 _ (by omega) (by omega)).trans g4_2
  have g5_3 := (t5 _ (by omega) (by omega)).trans g4_3
  have g5_4 := (t5 _ (by omega) (by omega)).trans n4
  have y5 : ∀ i, i < 8 → v5 (p + 5 + i) = eI g 63 (fun _ => 0) := fun i hi => (t5 _ (by omega) (by omega)).trans (y4 i hi)
  have old5 : ∀ i, i < p → v5 i = w i := fun i hi => (t5 i (by omega) (by omega)).trans (old4 i hi)
  refine V_aload_n (q := 46) dX8_init_45 rfl rfl rfl ?_
  refine V_sipush (q := 49) (v := nI 512) dX8_init_46 rfl (by decide) ?_
  refine V_newI (q := 51) dX8_init_49 rfl wd_38 rfl (Nat.le_of_ble_eq_true rfl) (Nat.le_of_ble_eq_true rfl) (Nat.le_of_ble_eq_true rfl) ?_
  refine PX8_28 (q := 54) (fs' := [_, _, _, _, _, _, _, _, _, _, _, _, _, _, _, _, _, _, _, _, _, _, _, _, _, _]) rfl rfl dX8_init_51 rfl (by first | assumption | exact up_eq | exact (up_ne (by omega)).trans (by first | assumption | exact up_eq | exact (up_ne (by omega)).trans (by first | assumption | exact up_eq | exact (up_ne (by omega)).trans (by first | assumption | exact up_eq)))) (by omega) (by exact (Nat.le_of_ble_eq_true rfl)) (by rfl) ?_
  try rw [up_up]
  obtain ⟨v6, hv6⟩ : ∃ v, v = va_up (va_up v5 (p + 13) (eI g 512 (fun _ => 0))) p (eO 8 [rf g (p + 1), rf g (p + 2), rf g (p + 3), rf g (p + 4), .int 0, .int 0, .int 0, .int (-1), .int 0, .int 0, .int 0, rf g (p + 13), .null, .null, .null, .int 0, .null, .int 0, .null, .int 0, .int 0, .int 0, .int 0, .int 0, .int 0, .int 0]) := ⟨_, rfl⟩
  refine V_wd (w' := v6) hv6.symm ?_
  have t6 : ∀ i, i ≠ p → i < p + 13 → v6 i = v5 i := fun i a1 a2 => by rw [hv6]; exact (up_ne a1).trans (up_ne (by omega))
  have c6 : v6 p = eO 8 [rf g (p + 1), rf g (p + 2), rf g (p + 3), rf g (p + 4), .int 0, .int 0, .int 0, .int (-1), .int 0, .int 0, .int 0, rf g (p + 13), .null, .null, .null, .int 0, .null, .int 0, .null, .int 0, .int 0, .int 0, .int 0, .int 0, .int 0, .int 0] := by rw [hv6]; exact up_eq
  have n6 : v6 (p + 13) = eI g 512 (fun _ => 0) := by rw [hv6]; exact (up_ne (by omega)).trans up_eq
  have g6_1 := (t6 _ (by omega) (by omega)).trans g5_1
  have g6_2 := (t6 _ (by omega) (by omega)).trans g5_2
  have g6_3 := (t6 _ (by omega) (by omega)).trans g5_3
  have g6_4 := (t6 _ (by omega) (by omega)).trans g5_4
  have y6 : ∀ i, i < 8 → v6 (p + 5 + i) = eI g 63 (fun _ => 0) := fun i hi => (t6 _ (by omega) (by omega)).trans (y5 i hi)
  have old6 : ∀ i, i < p → v6 i = w i := fun i hi => (t6 i (by omega) (by omega)).trans (old5 i hi)
  refine V_aload_n (q := 55) dX8_init_54 rfl rfl rfl ?_
  refine V_sipush (q := 58) (v := nI 512) dX8_init_55 rfl (by decide) ?_
  refine V_newI (q := 60) dX8_init_58 rfl wd_38 rfl (Nat.le_of_ble_eq_true rfl) (Nat.le_of_ble_eq_true rfl) (Nat.le_of_ble_eq_true rfl) ?_
  refine PX8_31 (q := 63) (fs' := [_, _, _, _, _, _, _, _, _, _, _, _, _, _, _, _, _, _, _, _, _, _, _, _, _, _]) rfl rfl dX8_init_60 rfl (by first | assumption | exact up_eq | exact (up_ne (by omega)).trans (by first | assumption | exact up_eq | exact (up_ne (by omega)).trans (by first | assumption | exact up_eq | exact (up_ne (by omega)).trans (by first | assumption | exact up_eq)))) (by omega) (by exact (Nat.le_of_ble_eq_true rfl)) (by rfl) ?_
  try rw [up_up]
  obtain ⟨v7, hv7⟩ : ∃ v, v = va_up (va_up v6 (p + 14) (eI g 512 (fun _ => 0))) p (eO 8 [rf g (p + 1), rf g (p + 2), rf g (p + 3), rf g (p + 4), .int 0, .int 0, .int 0, .int (-1), .int 0, .int 0, .int 0, rf g (p + 13), rf g (p + 14), .null, .null, .int 0, .null, .int 0, .null, .int 0, .int 0, .int 0, .int 0, .int 0, .int 0, .int 0]) := ⟨_, rfl⟩
  refine V_wd (w' := v7) hv7.symm ?_
  have t7 : ∀ i, i ≠ p → i < p + 14 → v7 i = v6 i := fun i a1 a2 => by rw [hv7]; exact (up_ne a1).trans (up_ne (by omega))
  have c7 : v7 p = eO 8 [rf g (p + 1), rf g (p + 2), rf g (p + 3), rf g (p + 4), .int 0, .int 0, .int 0, .int (-1), .int 0, .int 0, .int 0, rf g (p + 13), rf g (p + 14), .null, .null, .int 0, .null, .int 0, .null, .int 0, .int 0, .int 0, .int 0, .int 0, .int 0, .int 0] := by rw [hv7]; exact up_eq
  have n7 : v7 (p + 14) = eI g 512 (fun _ => 0) := by rw [hv7]; exact (up_ne (by omega)).trans up_eq
  have g7_1 := (t7 _ (by omega) (by omega)).trans g6_1
  have g7_2 := (t7 _ (by omega) (by omega)).trans g6_2
  have g7_3 := (t7 _ (by omega) (by omega)).trans g6_3
  have g7_4 := (t7 _ (by omega) (by omega)).trans g6_4
  have g7_13 := (t7 _ (by omega) (by omega)).trans n6
  have y7 : ∀ i, i < 8 → v7 (p + 5 + i) = eI g 63 (fun _ => 0) := fun i hi => (t7 _ (by omega) (by omega)).trans (y6 i hi)
  have old7 : ∀ i, i < p → v7 i = w i := fun i hi => (t7 i (by omega) (by omega)).trans (old6 i hi)
  refine V_aload_n (q := 64) dX8_init_63 rfl rfl rfl ?_
  refine V_sipush (q := 67) (v := nI 512) dX8_init_64 rfl (by decide) ?_
  refine V_newI (q := 69) dX8_init_67 rfl wd_38 rfl (Nat.le_of_ble_eq_true rfl) (Nat.le_of_ble_eq_true rfl) (Nat.le_of_ble_eq_true rfl) ?_
  refine PX8_34 (q := 72) (fs' := [_, _, _, _, _, _, _, _, _, _, _, _, _, _, _, _, _, _, _, _, _, _, _, _, _, _]) rfl rfl dX8_init_69 rfl (by first | assumption | exact up_eq | exact (up_ne (by omega)).trans (by first | assumption | exact up_eq | exact (up_ne (by omega)).trans (by first | assumption | exact up_eq | exact (up_ne (by omega)).trans (by first | assumption | exact up_eq)))) (by omega) (by exact (Nat.le_of_ble_eq_true rfl)) (by rfl) ?_
  try rw [up_up]
  obtain ⟨v8, hv8⟩ : ∃ v, v = va_up (va_up v7 (p + 15) (eI g 512 (fun _ => 0))) p (eO 8 [rf g (p + 1), rf g (p + 2), rf g (p + 3), rf g (p + 4), .int 0, .int 0, .int 0, .int (-1), .int 0, .int 0, .int 0, rf g (p + 13), rf g (p + 14), rf g (p + 15), .null, .int 0, .null, .int 0, .null, .int 0, .int 0, .int 0, .int 0, .int 0, .int 0, .int 0]) := ⟨_, rfl⟩
  refine V_wd (w' := v8) hv8.symm ?_
  have t8 : ∀ i, i ≠ p → i < p + 15 → v8 i = v7 i := fun i a1 a2 => by rw [hv8]; exact (up_ne a1).trans (up_ne (by omega))
  have c8 : v8 p = eO 8 [rf g (p + 1), rf g (p + 2), rf g (p + 3), rf g (p + 4), .int 0, .int 0, .int 0, .int (-1), .int 0, .int 0, .int 0, rf g (p + 13), rf g (p + 14), rf g (p + 15), .null, .int 0, .null, .int 0, .null, .int 0, .int 0, .int 0, .int 0, .int 0, .int 0, .int 0] := by rw [hv8]; exact up_eq
  have n8 : v8 (p + 15) = eI g 512 (fun _ => 0) := by rw [hv8]; exact (up_ne (by omega)).trans up_eq
  have g8_1 := (t8 _ (by omega) (by omega)).trans g7_1
  have g8_2 := (t8 _ (by omega) (by omega)).trans g7_2
  have g8_3 := (t8 _ (by omega) (by omega)).trans g7_3
  have g8_4 := (t8 _ (by omega) (by omega)).trans g7_4
  have g8_13 := (t8 _ (by omega) (by omega)).trans g7_13
  have g8_14 := (t8 _ (by omega) (by omega)).trans n7
  have y8 : ∀ i, i < 8 → v8 (p + 5 + i) = eI g 63 (fun _ => 0) := fun i hi => (t8 _ (by omega) (by omega)).trans (y7 i hi)
  have old8 : ∀ i, i < p → v8 i = w i := fun i hi => (t8 i (by omega) (by omega)).trans (old7 i hi)
  refine V_aload_n (q := 73) dX8_init_72 rfl rfl rfl ?_
  refine V_sipush (q := 76) (v := nI 512) dX8_init_73 rfl (by decide) ?_
  refine V_newI (q := 78) dX8_init_76 rfl wd_38 rfl (Nat.le_of_ble_eq_true rfl) (Nat.le_of_ble_eq_true rfl) (Nat.le_of_ble_eq_true rfl) ?_
  refine PX8_37 (q := 81) (fs' := [_, _, _, _, _, _, _, _, _, _, _, _, _, _, _, _, _, _, _, _, _, _, _, _, _, _]) rfl rfl dX8_init_78 rfl (by first | assumption | exact up_eq | exact (up_ne (by omega)).trans (by first | assumption | exact up_eq | exact (up_ne (by omega)).trans (by first | assumption | exact up_eq | exact (up_ne (by omega)).trans (by first | assumption | exact up_eq)))) (by omega) (by exact (Nat.le_of_ble_eq_true rfl)) (by rfl) ?_
  try rw [up_up]
  obtain ⟨v9, hv9⟩ : ∃ v, v = va_up (va_up v8 (p + 16) (eI g 512 (fun _ => 0))) p (eO 8 [rf g (p + 1), rf g (p + 2), rf g (p + 3), rf g (p + 4), .int 0, .int 0, .int 0, .int (-1), .int 0, .int 0, .int 0, rf g (p + 13), rf g (p + 14), rf g (p + 15), rf g (p + 16), .int 0, .null, .int 0, .null, .int 0, .int 0, .int 0, .int 0, .int 0, .int 0, .int 0]) := ⟨_, rfl⟩
  refine V_wd (w' := v9) hv9.symm ?_
  have t9 : ∀ i, i ≠ p → i < p + 16 → v9 i = v8 i := fun i a1 a2 => by rw [hv9]; exact (up_ne a1).trans (up_ne (by omega))
  have c9 : v9 p = eO 8 [rf g (p + 1), rf g (p + 2), rf g (p + 3), rf g (p + 4), .int 0, .int 0, .int 0, .int (-1), .int 0, .int 0, .int 0, rf g (p + 13), rf g (p + 14), rf g (p + 15), rf g (p + 16), .int 0, .null, .int 0, .null, .int 0, .int 0, .int 0, .int 0, .int 0, .int 0, .int 0] := by rw [hv9]; exact up_eq
  have n9 : v9 (p + 16) = eI g 512 (fun _ => 0) := by rw [hv9]; exact (up_ne (by omega)).trans up_eq
  have g9_1 := (t9 _ (by omega) (by omega)).trans g8_1
  have g9_2 := (t9 _ (by omega) (by omega)).trans g8_2
  have g9_3 := (t9 _ (by omega) (by omega)).trans g8_3
  have g9_4 := (t9 _ (by omega) (by omega)).trans g8_4
  have g9_13 := (t9 _ (by omega) (by omega)).trans g8_13
  have g9_14 := (t9 _ (by omega) (by omega)).trans g8_14
  have g9_15 := (t9 _ (by omega) (by omega)).trans n8
  have y9 : ∀ i, i < 8 → v9 (p + 5 + i) = eI g 63 (fun _ => 0) := fun i hi => (t9 _ (by omega) (by omega)).trans (y8 i hi)
  have old9 : ∀ i, i < p → v9 i = w i := fun i hi => (t9 i (by omega) (by omega)).trans (old8 i hi)
  refine V_aload_n (q := 82) dX8_init_81 rfl rfl rfl ?_
  refine V_sipush (q := 85) (v := nI 600) dX8_init_82 rfl (by decide) ?_
  refine V_newC (q := 87) dX8_init_85 rfl wd_68 rfl (Nat.le_of_ble_eq_true rfl) (Nat.le_of_ble_eq_true rfl) (Nat.le_of_ble_eq_true rfl) ?_
  refine PX8_40 (q := 90) (fs' := [_, _, _, _, _, _, _, _, _, _, _, _, _, _, _, _, _, _, _, _, _, _, _, _, _, _]) rfl rfl dX8_init_87 rfl (by first | assumption | exact up_eq | exact (up_ne (by omega)).trans (by first | assumption | exact up_eq | exact (up_ne (by omega)).trans (by first | assumption | exact up_eq | exact (up_ne (by omega)).trans (by first | assumption | exact up_eq)))) (by omega) (by exact (Nat.le_of_ble_eq_true rfl)) (by rfl) ?_
  try rw [up_up]
  obtain ⟨v10, hv10⟩ : ∃ v, v = va_up (va_up v9 (p + 17) (eC g 600 (fun _ => 0))) p (eO 8 [rf g (p + 1), rf g (p + 2), rf g (p + 3), rf g (p + 4), .int 0, .int 0, .int 0, .int (-1), .int 0, .int 0, .int 0, rf g (p + 13), rf g (p + 14), rf g (p + 15), rf g (p + 16), .int 0, rf g (p + 17), .int 0, .null, .int 0, .int 0, .int 0, .int 0, .int 0, .int 0, .int 0]) := ⟨_, rfl⟩
  refine V_wd (w' := v10) hv10.symm ?_
  have t10 : ∀ i, i ≠ p → i < p + 17 → v10 i = v9 i := fun i a1 a2 => by rw [hv10]; exact (up_ne a1).trans (up_ne (by omega))
  have c10 : v10 p = eO 8 [rf g (p + 1), rf g (p + 2), rf g (p + 3), rf g (p + 4), .int 0, .int 0, .int 0, .int (-1), .int 0, .int 0, .int 0, rf g (p + 13), rf g (p + 14), rf g (p + 15), rf g (p + 16), .int 0, rf g (p + 17), .int 0, .null, .int 0, .int 0, .int 0, .int 0, .int 0, .int 0, .int 0] := by rw [hv10]; exact up_eq
  have n10 : v10 (p + 17) = eC g 600 (fun _ => 0) := by rw [hv10]; exact (up_ne (by omega)).trans up_eq
  have g10_1 := (t10 _ (by omega) (by omega)).trans g9_1
  have g10_2 := (t10 _ (by omega) (by omega)).trans g9_2
  have g10_3 := (t10 _ (by omega) (by omega)).trans g9_3
  have g10_4 := (t10 _ (by omega) (by omega)).trans g9_4
  have g10_13 := (t10 _ (by omega) (by omega)).trans g9_13
  have g10_14 := (t10 _ (by omega) (by omega)).trans g9_14
  have g10_15 := (t10 _ (by omega) (by omega)).trans g9_15
  have g10_16 := (t10 _ (by omega) (by omega)).trans n9
  have y10 : ∀ i, i < 8 → v10 (p + 5 + i) = eI g 63 (fun _ => 0) := fun i hi => (t10 _ (by omega) (by omega)).trans (y9 i hi)
  have old10 : ∀ i, i < p → v10 i = w i := fun i hi => (t10 i (by omega) (by omega)).trans (old9 i hi)
  refine V_aload_n (q := 91) dX8_init_90 rfl rfl rfl ?_
  refine V_bipush (q := 93) (v := nI 70) dX8_init_91 rfl (by decide) ?_
  refine V_newI (q := 95) dX8_init_93 rfl wd_38 rfl (Nat.le_of_ble_eq_true rfl) (Nat.le_of_ble_eq_true rfl) (Nat.le_of_ble_eq_true rfl) ?_
  refine PX8_44 (q := 98) (fs' := [_, _, _, _, _, _, _, _, _, _, _, _, _, _, _, _, _, _, _, _, _, _, _, _, _, _]) rfl rfl dX8_init_95 rfl (by first | assumption | exact up_eq | exact (up_ne (by omega)).trans (by first | assumption | exact up_eq | exact (up_ne (by omega)).trans (by first | assumption | exact up_eq | exact (up_ne (by omega)).trans (by first | assumption | exact up_eq)))) (by omega) (by exact (Nat.le_of_ble_eq_true rfl)) (by rfl) ?_
  try rw [up_up]
  obtain ⟨v11, hv11⟩ : ∃ v, v = va_up (va_up v10 (p + 18) (eI g 70 (fun _ => 0))) p (eO 8 [rf g (p + 1), rf g (p + 2), rf g (p + 3), rf g (p + 4), .int 0, .int 0, .int 0, .int (-1), .int 0, .int 0, .int 0, rf g (p + 13), rf g (p + 14), rf g (p + 15), rf g (p + 16), .int 0, rf g (p + 17), .int 0, rf g (p + 18), .int 0, .int 0, .int 0, .int 0, .int 0, .int 0, .int 0]) := ⟨_, rfl⟩
  refine V_wd (w' := v11) hv11.symm ?_
  have t11 : ∀ i, i ≠ p → i < p + 18 → v11 i = v10 i := fun i a1 a2 => by rw [hv11]; exact (up_ne a1).trans (up_ne (by omega))
  have c11 : v11 p = eO 8 [rf g (p + 1), rf g (p + 2), rf g (p + 3), rf g (p + 4), .int 0, .int 0, .int 0, .int (-1), .int 0, .int 0, .int 0, rf g (p + 13), rf g (p + 14), rf g (p + 15), rf g (p + 16), .int 0, rf g (p + 17), .int 0, rf g (p + 18), .int 0, .int 0, .int 0, .int 0, .int 0, .int 0, .int 0] := by rw [hv11]; exact up_eq
  have n11 : v11 (p + 18) = eI g 70 (fun _ => 0) := by rw [hv11]; exact (up_ne (by omega)).trans up_eq
  have g11_1 := (t11 _ (by omega) (by omega)).trans g10_1
  have g11_2 := (t11 _ (by omega) (by omega)).trans g10_2
  have g11_3 := (t11 _ (by omega) (by omega)).trans g10_3
  have g11_4 := (t11 _ (by omega) (by omega)).trans g10_4
  have g11_13 := (t11 _ (by omega) (by omega)).trans g10_13
  have g11_14 := (t11 _ (by omega) (by omega)).trans g10_14
  have g11_15 := (t11 _ (by omega) (by omega)).trans g10_15
  have g11_16 := (t11 _ (by omega) (by omega)).trans g10_16
  have g11_17 := (t11 _ (by omega) (by omega)).trans n10
  have y11 : ∀ i, i < 8 → v11 (p + 5 + i) = eI g 63 (fun _ => 0) := fun i hi => (t11 _ (by omega) (by omega)).trans (y10 i hi)
  have old11 : ∀ i, i < p → v11 i = w i := fun i hi => (t11 i (by omega) (by omega)).trans (old10 i hi)
  have hm : MBd g v11 (p + 19) p Ke (fun _ => 0) (fun _ => 0) (fun _ => 0) 0 (fun _ => S0e) (fun _ => 0) (fun _ => 0) := ⟨c11, g11_1, g11_2, g11_3, ⟨fun _ _ => 0, ⟨⟨_, g11_4, fun k hk => (if_pos hk).trans (congrArg some (by omega))⟩, y11⟩, fun i hi => absurd hi (Nat.not_lt_zero i)⟩, ⟨_, _, _, _, g11_13, g11_14, g11_15, g11_16⟩, g11_17, n11, Nat.le_refl _, rfl, Nat.zero_le _⟩
  have hr : RN (fun _ => 0) S0e := RN_e (fun _ _ => rfl)
  have fin : MW g v11 (p + 19) p X0e := ⟨Ke, _, _, _, _, _, hm, hr, fun z => absurd z (by decide), rfl, Nat.zero_le _, rfl, ⟨rfl, Nat.zero_le _, fun i hi => absurd hi (Nat.not_lt_zero i)⟩, ⟨rfl, Nat.zero_le _, fun i hi => absurd hi (Nat.not_lt_zero i)⟩, ⟨rfl, rfl, rfl, fun z => absurd rfl z⟩⟩
  skip
  exact V_vret dX8_init_98 rfl (Nat.le_of_ble_eq_true rfl) (Nat.le_of_ble_eq_true rfl) (⟨rfl, rfl, fin, old11⟩)
end MINI
