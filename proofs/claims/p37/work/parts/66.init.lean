/-! the constructors -/
theorem wk_r4 : Cond.classLink RX5 9 RX4 ∈ wsL_law := wd_r2 _ (List.mem_of_getElem? (i := 19) rfl)
theorem wk_r5 : Cond.classLink RX2 9 RX5 ∈ wsL_law := wd_r3 _ (List.mem_of_getElem? (i := 7) rfl)
abbrev qN (PP : HW → Prop) (n mc : Nat) : QQ := fun v' w' n' => n' = n + mc ∧ v' = none ∧ PP w'
def S0e : StT := (0, (fun _ => (0, fun _ => 0)), 0, 0, 0, 0, 0, 0, 0)
section INI
variable {g : GG} {l : Launch} {w : HW} {n n' a b p : Nat}
theorem Sd.up {S : StT} (h : Sd g w n a S) (hn : n ≤ n') : Sd g w n' a S := by
  obtain ⟨G, π, LL, FF, h0, h1, h2, h3, h4, h5, h6⟩ := h
  exact ⟨G, π, LL, FF, h0, h1, by omega, h3, fun k hk => by
    obtain ⟨k1, k2, k3, k4, k5, k6, k7⟩ := h4 k hk
    exact ⟨k1, k2, k3, k4, k5, by omega, k7⟩, h5, h6⟩
theorem PaF.up {pk : Nat} {Hs : Nat → StT} (h : PaF g w n p pk Hs) (hn : n ≤ n') : PaF g w n' p pk Hs := by
  obtain ⟨pn, G, PS, h0, h1, h2, h3, h4, h5, h6, h7⟩ := h
  exact ⟨pn, G, PS, h0, h1, h2, h3, fun k hk => (h4 k hk).up hn, h5, h6, by omega⟩
theorem Jn.up (h : Jn g w n p) (hn : n ≤ n') : Jn g w n' p := by
  obtain ⟨T, Qa, m, Hh, h0, h1, h2, h3, h4⟩ := h
  exact ⟨T, Qa, m, Hh, h0, h1, h2, h3, by omega⟩
theorem LnF.up {ll : Nat} {c : Nat → Nat} (h : LnF g w n b ll c) (hn : n ≤ n') : LnF g w n' b ll c := by
  obtain ⟨C, e1, e2, e3, e4⟩ := h
  exact ⟨C, e1, e2, by omega, e4⟩
theorem TxF.up {ll : Nat} {c : Nat → Nat} (h : TxF g w n b ll c) (hn : n ≤ n') : TxF g w n' b ll c := by
  obtain ⟨C, e1, e2, e3, e4⟩ := h
  exact ⟨C, e1, e2, by omega, e4⟩
theorem c_rowInit (h0 : w a = eO 4 [.int 0, .null]) : Ct g l MX4_init 1 [rf g a] w (a + 1) (qN (fun w' => w' a = eO 4 [.int 0, rf g (a + 1)] ∧ w' (a + 1) = eI g 8 (fun _ => 0) ∧ ∀ i, i < a → w' i = w i) (a + 1) 1) 1 8 := by
  refine Ct.ofs (M := MX4_init) (ls := [some _]) (by decide +kernel) (by exact (Nat.le_of_ble_eq_true rfl)) (by rfl) (by rfl) (by rfl) ?_
  refine V_aload_n (q := 1) dX4_init_0 rfl rfl rfl ?_
  refine OX4_3 (q := 4) rfl dX4_init_1 rfl (Nat.le_of_ble_eq_true rfl) (Nat.le_of_ble_eq_true rfl) ?_
  refine V_aload_n (q := 5) dX4_init_4 rfl rfl rfl ?_
  refine V_bipush (q := 7) (v := nI 8) dX4_init_5 rfl (by decide) ?_
  refine V_newI (q := 9) dX4_init_7 rfl wd_37 rfl (Nat.le_of_ble_eq_true rfl) (Nat.le_of_ble_eq_true rfl) (Nat.le_of_ble_eq_true rfl) ?_
  refine PX4_9 (q := 12) (fs' := [_, _]) rfl rfl dX4_init_9 rfl (by first | assumption | exact up_eq | exact (up_ne (by omega)).trans (by first | assumption | exact up_eq | exact (up_ne (by omega)).trans (by first | assumption | exact up_eq | exact (up_ne (by omega)).trans (by first | assumption | exact up_eq)))) (by omega) (by exact (Nat.le_of_ble_eq_true rfl)) (by rfl) ?_
  try rw [up_up]
  exact V_vret dX4_init_12 rfl (Nat.le_of_ble_eq_true rfl) (Nat.le_of_ble_eq_true rfl) (⟨rfl, rfl, up_eq, (up_ne (by omega)).trans up_eq, fun i hi => (up_ne (by omega)).trans (up_ne (by omega))⟩)
theorem c_lineInit (h0 : w a = eO 1 [.int 0, .null]) : Ct g l MX1_init 1 [rf g a] w (a + 1) (qN (fun w' => LnF g w' (a + 2) a 0 (fun _ => 0) ∧ ∀ i, i < a → w' i = w i) (a + 1) 1) 1 10 := by
  refine Ct.ofs (M := MX1_init) (ls := [some _]) (by decide +kernel) (by exact (Nat.le_of_ble_eq_true rfl)) (by rfl) (by rfl) (by rfl) ?_
  refine V_aload_n (q := 1) dX1_init_0 rfl rfl rfl ?_
  refine OX1_3 (q := 4) rfl dX1_init_1 rfl (Nat.le_of_ble_eq_true rfl) (Nat.le_of_ble_eq_true rfl) ?_
  refine V_aload_n (q := 5) dX1_init_4 rfl rfl rfl ?_
  refine V_bipush (q := 7) (v := nI 10) dX1_init_5 rfl (by decide) ?_
  refine V_newC (q := 9) dX1_init_7 rfl wd_67 rfl (Nat.le_of_ble_eq_true rfl) (Nat.le_of_ble_eq_true rfl) (Nat.le_of_ble_eq_true rfl) ?_
  refine PX1_9 (q := 12) (fs' := [_, _]) rfl rfl dX1_init_9 rfl (by first | assumption | exact up_eq | exact (up_ne (by omega)).trans (by first | assumption | exact up_eq | exact (up_ne (by omega)).trans (by first | assumption | exact up_eq | exact (up_ne (by omega)).trans (by first | assumption | exact up_eq)))) (by omega) (by exact (Nat.le_of_ble_eq_true rfl)) (by rfl) ?_
  try rw [up_up]
  exact V_vret dX1_init_12 rfl (Nat.le_of_ble_eq_true rfl) (Nat.le_of_ble_eq_true rfl) (⟨rfl, rfl, ⟨fun _ => 0, up_eq, (up_ne (by omega)).trans up_eq, by omega, Nat.zero_le _, fun i hi => absurd hi (Nat.not_lt_zero i)⟩, fun i hi => (up_ne (by omega)).trans (up_ne (by omega))⟩)
theorem c_textInit (h0 : w a = eO 6 [.int 0, .null]) : Ct g l MX6_init 1 [rf g a] w (a + 1) (qN (fun w' => TxF g w' (a + 2) a 0 (fun _ => 0) ∧ ∀ i, i < a → w' i = w i) (a + 1) 1) 1 70 := by
  refine Ct.ofs (M := MX6_init) (ls := [some _]) (by decide +kernel) (by exact (Nat.le_of_ble_eq_true rfl)) (by rfl) (by rfl) (by rfl) ?_
  refine V_aload_n (q := 1) dX6_init_0 rfl rfl rfl ?_
  refine OX6_3 (q := 4) rfl dX6_init_1 rfl (Nat.le_of_ble_eq_true rfl) (Nat.le_of_ble_eq_true rfl) ?_
  refine V_aload_n (q := 5) dX6_init_4 rfl rfl rfl ?_
  refine V_bipush (q := 7) (v := nI 70) dX6_init_5 rfl (by decide) ?_
  refine V_newC (q := 9) dX6_init_7 rfl wd_67 rfl (Nat.le_of_ble_eq_true rfl) (Nat.le_of_ble_eq_true rfl) (Nat.le_of_ble_eq_true rfl) ?_
  refine PX6_9 (q := 12) (fs' := [_, _]) rfl rfl dX6_init_9 rfl (by first | assumption | exact up_eq | exact (up_ne (by omega)).trans (by first | assumption | exact up_eq | exact (up_ne (by omega)).trans (by first | assumption | exact up_eq | exact (up_ne (by omega)).trans (by first | assumption | exact up_eq)))) (by omega) (by exact (Nat.le_of_ble_eq_true rfl)) (by rfl) ?_
  try rw [up_up]
  exact V_vret dX6_init_12 rfl (Nat.le_of_ble_eq_true rfl) (Nat.le_of_ble_eq_true rfl) (⟨rfl, rfl, ⟨fun _ => 0, up_eq, (up_ne (by omega)).trans up_eq, by omega, Nat.zero_le _, fun i hi => absurd hi (Nat.not_lt_zero i)⟩, fun i hi => (up_ne (by omega)).trans (up_ne (by omega))⟩)
theorem c_refInit (h0 : w a = eO 3 [.int 0, .int 0, .int 0, .int 0]) : Ct g l MX3_init 1 [rf g a] w (a + 1) (qN (fun w' => w' a = eO 3 (rfs (0, 0, 0, -4)) ∧ ∀ i, i < a → w' i = w i) (a + 1) 0) 0 0 := by
  refine Ct.ofs (M := MX3_init) (ls := [some _]) (by decide +kernel) (by exact (Nat.le_of_ble_eq_true rfl)) (by rfl) (by rfl) (by rfl) ?_
  refine V_aload_n (q := 1) dX3_init_0 rfl rfl rfl ?_
  refine OX3_3 (q := 4) rfl dX3_init_1 rfl (Nat.le_of_ble_eq_true rfl) (Nat.le_of_ble_eq_true rfl) ?_
  refine V_aload_n (q := 5) dX3_init_4 rfl rfl rfl ?_
  refine V_bipush (q := 7) (v := (-4)) dX3_init_5 rfl (by decide) ?_
  refine PX3_9 (q := 10) (fs' := [_, _, _, _]) rfl dX3_init_7 rfl (by first | assumption | exact up_eq | exact (up_ne (by omega)).trans (by first | assumption | exact up_eq | exact (up_ne (by omega)).trans (by first | assumption | exact up_eq | exact (up_ne (by omega)).trans (by first | assumption | exact up_eq)))) (by omega) (by exact (Nat.le_of_ble_eq_true rfl)) (by rfl) ?_
  try rw [up_up]
  exact V_vret dX3_init_10 rfl (Nat.le_of_ble_eq_true rfl) (Nat.le_of_ble_eq_true rfl) (⟨rfl, rfl, up_eq, fun i hi => up_ne (by omega)⟩)
theorem c_joinsInit (h0 : w a = eO 0 [.null, .null, .int 0, .null]) : Ct g l MX0_init 1 [rf g a] w (a + 1) (qN (fun w' => Jn g w' (a + 4) a ∧ ∀ i, i < a → w' i = w i) (a + 1) 3) 3 1033 := by
  refine Ct.ofs (M := MX0_init) (ls := [some _]) (by decide +kernel) (by exact (Nat.le_of_ble_eq_true rfl)) (by rfl) (by rfl) (by rfl) ?_
  refine V_aload_n (q := 1) dX0_init_0 rfl rfl rfl ?_
  refine OX0_3 (q := 4) rfl dX0_init_1 rfl (Nat.le_of_ble_eq_true rfl) (Nat.le_of_ble_eq_true rfl) ?_
  refine V_aload_n (q := 5) dX0_init_4 rfl rfl rfl ?_
  refine V_sipush (q := 8) (v := nI 512) dX0_init_5 rfl (by decide) ?_
  refine V_newI (q := 10) dX0_init_8 rfl wd_37 rfl (Nat.le_of_ble_eq_true rfl) (Nat.le_of_ble_eq_true rfl) (Nat.le_of_ble_eq_true rfl) ?_
  refine PX0_9 (q := 13) (fs' := [_, _, _, _]) rfl rfl dX0_init_10 rfl (by first | assumption | exact up_eq | exact (up_ne (by omega)).trans (by first | assumption | exact up_eq | exact (up_ne (by omega)).trans (by first | assumption | exact up_eq | exact (up_ne (by omega)).trans (by first | assumption | exact up_eq)))) (by omega) (by exact (Nat.le_of_ble_eq_true rfl)) (by rfl) ?_
  try rw [up_up]
  refine V_aload_n (q := 14) dX0_init_13 rfl rfl rfl ?_
  refine V_sipush (q := 17) (v := nI 512) dX0_init_14 rfl (by decide) ?_
  refine V_newI (q := 19) dX0_init_17 rfl wd_37 rfl (Nat.le_of_ble_eq_true rfl) (Nat.le_of_ble_eq_true rfl) (Nat.le_of_ble_eq_true rfl) ?_
  refine PX0_15 (q := 22) (fs' := [_, _, _, _]) rfl rfl dX0_init_19 rfl (by first | assumption | exact up_eq | exact (up_ne (by omega)).trans (by first | assumption | exact up_eq | exact (up_ne (by omega)).trans (by first | assumption | exact up_eq | exact (up_ne (by omega)).trans (by first | assumption | exact up_eq)))) (by omega) (by exact (Nat.le_of_ble_eq_true rfl)) (by rfl) ?_
  try rw [up_up]
  refine V_aload_n (q := 23) dX0_init_22 rfl rfl rfl ?_
  refine V_bipush (q := 25) (v := nI 9) dX0_init_23 rfl (by decide) ?_
  refine V_newI (q := 27) dX0_init_25 rfl wd_37 rfl (Nat.le_of_ble_eq_true rfl) (Nat.le_of_ble_eq_true rfl) (Nat.le_of_ble_eq_true rfl) ?_
  refine PX0_18 (q := 30) (fs' := [_, _, _, _]) rfl rfl dX0_init_27 rfl (by first | assumption | exact up_eq | exact (up_ne (by omega)).trans (by first | assumption | exact up_eq | exact (up_ne (by omega)).trans (by first | assumption | exact up_eq | exact (up_ne (by omega)).trans (by first | assumption | exact up_eq)))) (by omega) (by exact (Nat.le_of_ble_eq_true rfl)) (by rfl) ?_
  try rw [up_up]
  have up3 : ∀ {v : HW} {A B : Nat} {X Y Z : va_E} {i : Nat}, i ≠ a → va_up (va_up v A X) a Y i = va_up v A X i := fun h => up_ne h
  refine V_vret dX0_init_30 rfl (Nat.le_of_ble_eq_true rfl) (Nat.le_of_ble_eq_true rfl) (⟨rfl, rfl, ⟨fun _ => 0, fun _ => 0, 0, fun _ => 0, up_eq, ?_, ?_, ?_, by omega⟩, fun i hi => ?_⟩)
  · exact (up_ne (by omega)).trans ((up_ne (by omega)).trans ((up_ne (by omega)).trans ((up_ne (by omega)).trans ((up_ne (by omega)).trans up_eq))))
  · exact (up_ne (by omega)).trans ((up_ne (by omega)).trans ((up_ne (by omega)).trans up_eq))
  · exact (up_ne (by omega)).trans up_eq
  · exact (up_ne (by omega)).trans ((up_ne (by omega)).trans ((up_ne (by omega)).trans ((up_ne (by omega)).trans ((up_ne (by omega)).trans (up_ne (by omega))))))
abbrev st0 : List Value := [.int 0, .null, .int 0, .int 0, .int 0, .int 0, .int 0, .int 0, .int 0]
abbrev st1 (g : GG) (a : Nat) : List Value := [.int 0, rf g (a + 1), .int 0, .int 0, .int 0, .int 0, .int 0, .int 0, .int 0]
theorem c_standInit (h0 : w a = eO 5 st0) : Ct g l MX5_init 2 [rf g a] w (a + 1) (qN (fun w' => Sd g w' (a + 14) a S0e ∧ ∀ i, i < a → w' i = w i) (a + 1) 13) 13 66 := by
  have key : ∀ i, i ≤ 6 → ∀ nn cs sl w1 f, nn = a + 2 + 2 * i → cs = 1 + 2 * i → sl = 6 + 10 * i → w1 a = eO 5 (st1 g a) → w1 (a + 1) = eR g 6 f → (∀ k, k < i → f k = some (g.1 + (a + 2 + 2 * k))) → (∀ k, k < i → w1 (a + 2 + 2 * k) = eO 4 [.int 0, rf g (a + 2 + 2 * k + 1)] ∧ w1 (a + 2 + 2 * k + 1) = eI g 8 (fun _ => 0)) → (∀ j, j < a → w1 j = w j) → V g l MX5_init (rmd 2 13 66) (FinM g (qN (fun w' => Sd g w' (a + 14) a S0e ∧ ∀ i, i < a → w' i = w i) (a + 1) 13) 13 66) 15 [some (rf g a), some (.int (nI i))] [] w1 nn cs sl := by
    refine loopU (fun i => ∀ nn cs sl w1 f, nn = a + 2 + 2 * i → cs = 1 + 2 * i → sl = 6 + 10 * i → w1 a = eO 5 (st1 g a) → w1 (a + 1) = eR g 6 f → (∀ k, k < i → f k = some (g.1 + (a + 2 + 2 * k))) → (∀ k, k < i → w1 (a + 2 + 2 * k) = eO 4 [.int 0, rf g (a + 2 + 2 * k + 1)] ∧ w1 (a + 2 + 2 * k + 1) = eI g 8 (fun _ => 0)) → (∀ j, j < a → w1 j = w j) → V g l MX5_init (rmd 2 13 66) (FinM g (qN (fun w' => Sd g w' (a + 14) a S0e ∧ ∀ i, i < a → w' i = w i) (a + 1) 13) 13 66) 15 [some (rf g a), some (.int (nI i))] [] w1 nn cs sl) 6 ?_ ?_
    · intro nn cs sl w1 f e1 e2 e3 c0 c1 hf hr hw
      subst e1; subst e2; subst e3
      refine V_iload_n (q := 16) dX5_init_15 rfl rfl ?_
      refine V_aload_n (q := 17) dX5_init_16 rfl rfl rfl ?_
      refine GX5_11 (q := 20) rfl dX5_init_17 rfl (by first | assumption | exact up_eq | exact (up_ne (by omega)).trans (by first | assumption | exact up_eq | exact (up_ne (by omega)).trans (by first | assumption | exact up_eq | exact (up_ne (by omega)).trans (by first | assumption | exact up_eq)))) (by omega) (by rfl) ?_
      refine V_alenR (q := 21) dX5_init_20 rfl (by first | assumption | exact up_eq | exact (up_ne (by omega)).trans (by first | assumption | exact up_eq | exact (up_ne (by omega)).trans (by first | assumption | exact up_eq | exact (up_ne (by omega)).trans (by first | assumption | exact up_eq)))) (by omega) ?_
      refine V_icmpN_ge (q := 24) (tgt := 43) dX5_init_21 (by decide) rfl (by omega) (by omega) (fun _ => ?_) (fun h9 => by first | exact h9.elim | (exfalso; omega))
      skip
      exact V_vret dX5_init_43 rfl (Nat.le_of_ble_eq_true rfl) (Nat.le_of_ble_eq_true rfl) (⟨rfl, rfl, ⟨f, fun k => a + 2 + 2 * k, fun _ => 0, fun _ _ => 0, c0, c1, Nat.le_refl _, Nat.zero_le _, fun k hk => ⟨hf k hk, (show a + 2 ≤ a + 2 + 2 * k by omega), (show a + 2 + 2 * k + 2 ≤ a + 14 by omega), (hr k hk).1, (hr k hk).2, (show a + 2 + 2 * k + 1 < a + 14 by omega), Nat.zero_le _⟩, fun i j hi hj hij => (show a + 2 + 2 * i + 2 ≤ a + 2 + 2 * j ∨ a + 2 + 2 * j + 2 ≤ a + 2 + 2 * i by omega), fun k hk => absurd hk (Nat.not_lt_zero k)⟩, hw⟩)
    · intro i hi ih nn cs sl w1 f e1 e2 e3 c0 c1 hf hr hw
      refine V_iload_n (q := 16) dX5_init_15 rfl rfl ?_
      refine V_aload_n (q := 17) dX5_init_16 rfl rfl rfl ?_
      refine GX5_11 (q := 20) rfl dX5_init_17 rfl (by first | assumption | exact up_eq | exact (up_ne (by omega)).trans (by first | assumption | exact up_eq | exact (up_ne (by omega)).trans (by first | assumption | exact up_eq | exact (up_ne (by omega)).trans (by first | assumption | exact up_eq)))) (by omega) (by rfl) ?_
      refine V_alenR (q := 21) dX5_init_20 rfl (by first | assumption | exact up_eq | exact (up_ne (by omega)).trans (by first | assumption | exact up_eq | exact (up_ne (by omega)).trans (by first | assumption | exact up_eq | exact (up_ne (by omega)).trans (by first | assumption | exact up_eq)))) (by omega) ?_
      refine V_icmpN_ge (q := 24) (tgt := 43) dX5_init_21 (by decide) rfl (by omega) (by omega) (fun h9 => by first | exact h9.elim | exact absurd h9 (by assumption) | (exfalso; omega)) (fun _ => ?_)
      refine V_aload_n (q := 25) dX5_init_24 rfl rfl rfl ?_
      refine GX5_11 (q := 28) rfl dX5_init_25 rfl (by first | assumption | exact up_eq | exact (up_ne (by omega)).trans (by first | assumption | exact up_eq | exact (up_ne (by omega)).trans (by first | assumption | exact up_eq | exact (up_ne (by omega)).trans (by first | assumption | exact up_eq)))) (by omega) (by rfl) ?_
      refine V_iload_n (q := 29) dX5_init_28 rfl rfl ?_
      refine NX5_9 (q := 32) rfl dX5_init_29 rfl (by show cs + 1 ≤ 13; omega) (by show sl + 2 ≤ 66; omega) ?_
      refine V_dup (q := 33) dX5_init_32 rfl rfl ?_
      refine IX5_17 (q := 36) rfl dX5_init_33 rfl (c_rowInit up_eq) ⟨(Nat.le_of_ble_eq_true rfl), (Nat.le_of_ble_eq_true rfl)⟩ (Nat.le_of_ble_eq_true rfl) (by show cs + 1 + 1 ≤ 13; omega) (by show sl + 2 + 8 ≤ 66; omega) (fun w2 hw2 => ?_)
      obtain ⟨r1, r2, r3⟩ := hw2
      have q0 : w2 a = eO 5 (st1 g a) := (r3 _ (by omega)).trans ((up_ne (by omega)).trans c0)
      have q1 : w2 (a + 1) = eR g 6 f := (r3 _ (by omega)).trans ((up_ne (by omega)).trans c1)
      refine V_aastR (q := 37) dX5_init_36 rfl (by first | assumption | exact up_eq | exact (up_ne (by omega)).trans (by first | assumption | exact up_eq | exact (up_ne (by omega)).trans (by first | assumption | exact up_eq | exact (up_ne (by omega)).trans (by first | assumption | exact up_eq)))) (by omega) (by omega) (by omega) rfl (by first | assumption | exact up_eq | exact (up_ne (by omega)).trans (by first | assumption | exact up_eq | exact (up_ne (by omega)).trans (by first | assumption | exact up_eq | exact (up_ne (by omega)).trans (by first | assumption | exact up_eq)))) (by omega) (by rfl) ?_
      refine V_iinc (q := 40) (ls' := [_, _]) dX5_init_37 rfl (by decide) (by rfl) rfl (by first | exact inc1 _ | rfl) rfl ?_
      refine V_goto (tgt := 15) dX5_init_40 (by decide) ?_
      refine ih (nn + 1 + 1) (cs + 1 + 1) (sl + 2 + 8) _ _ (by omega) (by omega) (by omega) ((up_ne (by omega)).trans q0) up_eq (fun k hk => ?_) (fun k hk => ?_) (fun j hj => (up_ne (by omega)).trans ((r3 _ (by omega)).trans ((up_ne (by omega)).trans (hw j hj))))
      · by_cases z : k = i
        · rw [z]
          show (if i = i then some (g.1 + nn) else f i) = _
          rw [if_pos rfl, e1]
        · show (if k = i then some (g.1 + nn) else f k) = _
          rw [if_neg z]
          exact hf k (by omega)
      · by_cases z : k = i
        · rw [z]
          rw [← e1]
          exact ⟨(up_ne (by omega)).trans r1, (up_ne (by omega)).trans r2⟩
        · obtain ⟨z1, z2⟩ := hr k (by omega)
          exact ⟨(up_ne (by omega)).trans ((r3 _ (by omega)).trans ((up_ne (by omega)).trans z1)), (up_ne (by omega)).trans ((r3 _ (by omega)).trans ((up_ne (by omega)).trans z2))⟩
  refine Ct.ofs (M := MX5_init) (ls := [some _, none]) (by decide +kernel) (by exact (Nat.le_of_ble_eq_true rfl)) (by rfl) (by rfl) (by rfl) ?_
  refine V_aload_n (q := 1) dX5_init_0 rfl rfl rfl ?_
  refine OX5_3 (q := 4) rfl dX5_init_1 rfl (Nat.le_of_ble_eq_true rfl) (Nat.le_of_ble_eq_true rfl) ?_
  refine V_aload_n (q := 5) dX5_init_4 rfl rfl rfl ?_
  refine V_bipush (q := 7) (v := nI 6) dX5_init_5 rfl (by decide) ?_
  refine V_newR (q := 10) dX5_init_7 rfl wk_r4 rfl (Nat.le_of_ble_eq_true rfl) (Nat.le_of_ble_eq_true rfl) (Nat.le_of_ble_eq_true rfl) ?_
  refine PX5_11 (q := 13) (fs' := [_, _, _, _, _, _, _, _, _]) rfl rfl dX5_init_10 rfl (by first | assumption | exact up_eq | exact (up_ne (by omega)).trans (by first | assumption | exact up_eq | exact (up_ne (by omega)).trans (by first | assumption | exact up_eq | exact (up_ne (by omega)).trans (by first | assumption | exact up_eq)))) (by omega) (by exact (Nat.le_of_ble_eq_true rfl)) (by rfl) ?_
  try rw [up_up]
  refine V_iconst (q := 14) (v := nI 0) dX5_init_13 rfl (by decide) ?_
  refine V_istore_n (q := 15) (ls' := [_, _]) dX5_init_14 rfl (by decide) (by rfl) rfl ?_
  exact key 0 (Nat.zero_le _) _ _ _ _ (fun _ => none) rfl rfl rfl up_eq ((up_ne (by omega)).trans up_eq) (fun k hk => absurd hk (Nat.not_lt_zero k)) (fun k hk => absurd hk (Nat.not_lt_zero k)) (fun j hj => (up_ne (by omega)).trans (up_ne (by omega)))
theorem c_pastInit (h0 : w p = eO 2 [.null, .int 0, .int 0]) : Ct g l MX2_init 3 [rf g p] w (p + 1) (qN (fun w' => PaF g w' (p + 114) p 0 (fun _ => S0e) ∧ ∀ i, i < p → w' i = w i) (p + 1) 113) 113 608 := by
  have key : ∀ i, i ≤ 8 → ∀ nn cs sl w1 f, nn = p + 2 + 14 * i → cs = 1 + 14 * i → sl = 8 + 75 * i → w1 p = eO 2 [rf g (p + 1), .int 0, .int 0] → w1 (p + 1) = eS g 8 f → (∀ k, k < i → f k = some (g.1 + (p + 2 + 14 * k))) → (∀ k, k < i → Sd g w1 nn (p + 2 + 14 * k) S0e) → (∀ j, j < p → w1 j = w j) → V g l MX2_init (rmd 3 113 608) (FinM g (qN (fun w' => PaF g w' (p + 114) p 0 (fun _ => S0e) ∧ ∀ i, i < p → w' i = w i) (p + 1) 113) 113 608) 15 [some (rf g p), some (.int (nI i))] [] w1 nn cs sl := by
    refine loopU (fun i => ∀ nn cs sl w1 f, nn = p + 2 + 14 * i → cs = 1 + 14 * i → sl = 8 + 75 * i → w1 p = eO 2 [rf g (p + 1), .int 0, .int 0] → w1 (p + 1) = eS g 8 f → (∀ k, k < i → f k = some (g.1 + (p + 2 + 14 * k))) → (∀ k, k < i → Sd g w1 nn (p + 2 + 14 * k) S0e) → (∀ j, j < p → w1 j = w j) → V g l MX2_init (rmd 3 113 608) (FinM g (qN (fun w' => PaF g w' (p + 114) p 0 (fun _ => S0e) ∧ ∀ i, i < p → w' i = w i) (p + 1) 113) 113 608) 15 [some (rf g p), some (.int (nI i))] [] w1 nn cs sl) 8 ?_ ?_
    · intro nn cs sl w1 f e1 e2 e3 c0 c1 hf hr hw
      subst e1; subst e2; subst e3
      refine V_iload_n (q := 16) dX2_init_15 rfl rfl ?_
      refine V_aload_n (q := 17) dX2_init_16 rfl rfl rfl ?_
      refine GX2_11 (q := 20) rfl dX2_init_17 rfl (by first | assumption | exact up_eq | exact (up_ne (by omega)).trans (by first | assumption | exact up_eq | exact (up_ne (by omega)).trans (by first | assumption | exact up_eq | exact (up_ne (by omega)).trans (by first | assumption | exact up_eq)))) (by omega) (by rfl) ?_
      refine V_alenS (q := 21) dX2_init_20 rfl (by first | assumption | exact up_eq | exact (up_ne (by omega)).trans (by first | assumption | exact up_eq | exact (up_ne (by omega)).trans (by first | assumption | exact up_eq | exact (up_ne (by omega)).trans (by first | assumption | exact up_eq)))) (by omega) ?_
      refine V_icmpN_ge (q := 24) (tgt := 43) dX2_init_21 (by decide) rfl (by omega) (by omega) (fun _ => ?_) (fun h9 => by first | exact h9.elim | (exfalso; omega))
      skip
      exact V_vret dX2_init_43 rfl (Nat.le_of_ble_eq_true rfl) (Nat.le_of_ble_eq_true rfl) (⟨rfl, rfl, ⟨0, f, fun _ => S0e, by decide, c0, c1, hf, hr, Nat.zero_le _, fun i hi => absurd hi (Nat.not_lt_zero i), Nat.le_refl _⟩, hw⟩)
    · intro i hi ih nn cs sl w1 f e1 e2 e3 c0 c1 hf hr hw
      refine V_iload_n (q := 16) dX2_init_15 rfl rfl ?_
      refine V_aload_n (q := 17) dX2_init_16 rfl rfl rfl ?_
      refine GX2_11 (q := 20) rfl dX2_init_17 rfl (by first | assumption | exact up_eq | exact (up_ne (by omega)).trans (by first | assumption | exact up_eq | exact (up_ne (by omega)).trans (by first | assumption | exact up_eq | exact (up_ne (by omega)).trans (by first | assumption | exact up_eq)))) (by omega) (by rfl) ?_
      refine V_alenS (q := 21) dX2_init_20 rfl (by first | assumption | exact up_eq | exact (up_ne (by omega)).trans (by first | assumption | exact up_eq | exact (up_ne (by omega)).trans (by first | assumption | exact up_eq | exact (up_ne (by omega)).trans (by first | assumption | exact up_eq)))) (by omega) ?_
      refine V_icmpN_ge (q := 24) (tgt := 43) dX2_init_21 (by decide) rfl (by omega) (by omega) (fun h9 => by first | exact h9.elim | exact absurd h9 (by assumption) | (exfalso; omega)) (fun _ => ?_)
      refine V_aload_n (q := 25) dX2_init_24 rfl rfl rfl ?_
      refine GX2_11 (q := 28) rfl dX2_init_25 rfl (by first | assumption | exact up_eq | exact (up_ne (by omega)).trans (by first | assumption | exact up_eq | exact (up_ne (by omega)).trans (by first | assumption | exact up_eq | exact (up_ne (by omega)).trans (by first | assumption | exact up_eq)))) (by omega) (by rfl) ?_
      refine V_iload_n (q := 29) dX2_init_28 rfl rfl ?_
      refine NX2_9 (q := 32) rfl dX2_init_29 rfl (by show cs + 1 ≤ 113; omega) (by show sl + 9 ≤ 608; omega) ?_
      refine V_dup (q := 33) dX2_init_32 rfl rfl ?_
      refine IX2_17 (q := 36) rfl dX2_init_33 rfl (c_standInit up_eq) ⟨(Nat.le_of_ble_eq_true rfl), (Nat.le_of_ble_eq_true rfl)⟩ (Nat.le_of_ble_eq_true rfl) (by show cs + 1 + 13 ≤ 113; omega) (by show sl + 9 + 66 ≤ 608; omega) (fun w2 hw2 => ?_)
      obtain ⟨r1, r3⟩ := hw2
      have q0 : w2 p = eO 2 [rf g (p + 1), .int 0, .int 0] := (r3 _ (by omega)).trans ((up_ne (by omega)).trans c0)
      have q1 : w2 (p + 1) = eS g 8 f := (r3 _ (by omega)).trans ((up_ne (by omega)).trans c1)
      obtain ⟨q2, q3⟩ := r1.obj
      refine V_aastS (q := 37) dX2_init_36 rfl (by first | assumption | exact up_eq | exact (up_ne (by omega)).trans (by first | assumption | exact up_eq | exact (up_ne (by omega)).trans (by first | assumption | exact up_eq | exact (up_ne (by omega)).trans (by first | assumption | exact up_eq)))) (by omega) (by omega) (by omega) rfl (by first | assumption | exact up_eq | exact (up_ne (by omega)).trans (by first | assumption | exact up_eq | exact (up_ne (by omega)).trans (by first | assumption | exact up_eq | exact (up_ne (by omega)).trans (by first | assumption | exact up_eq)))) (by omega) (by rfl) ?_
      refine V_iinc (q := 40) (ls' := [_, _]) dX2_init_37 rfl (by decide) (by rfl) rfl (by first | exact inc1 _ | rfl) rfl ?_
      refine V_goto (tgt := 15) dX2_init_40 (by decide) ?_
      refine ih (nn + 1 + 13) (cs + 1 + 13) (sl + 9 + 66) _ _ (by omega) (by omega) (by omega) ((up_ne (by omega)).trans q0) up_eq (fun k hk => ?_) (fun k hk => ?_) (fun j hj => (up_ne (by omega)).trans ((r3 _ (by omega)).trans ((up_ne (by omega)).trans (hw j hj))))
      · by_cases z : k = i
        · rw [z]
          show (if i = i then some (g.1 + nn) else f i) = _
          rw [if_pos rfl, e1]
        · show (if k = i then some (g.1 + nn) else f k) = _
          rw [if_neg z]
          exact hf k (by omega)
      · by_cases z : k = i
        · rw [z, ← e1]
          exact (r1.up (by omega)).frame (fun j a1 a2 => up_ne (by omega))
        · exact (((hr k (by omega)).frame (w' := w2) (fun j a1 a2 => (r3 _ (by omega)).trans (up_ne (by omega)))).up (by omega)).frame (fun j a1 a2 => up_ne (by omega))
  refine Ct.ofs (M := MX2_init) (ls := [some _, none]) (by decide +kernel) (by exact (Nat.le_of_ble_eq_true rfl)) (by rfl) (by rfl) (by rfl) ?_
  refine V_aload_n (q := 1) dX2_init_0 rfl rfl rfl ?_
  refine OX2_3 (q := 4) rfl dX2_init_1 rfl (Nat.le_of_ble_eq_true rfl) (Nat.le_of_ble_eq_true rfl) ?_
  refine V_aload_n (q := 5) dX2_init_4 rfl rfl rfl ?_
  refine V_bipush (q := 7) (v := nI 8) dX2_init_5 rfl (by decide) ?_
  refine V_newS (q := 10) dX2_init_7 rfl wk_r5 rfl (Nat.le_of_ble_eq_true rfl) (Nat.le_of_ble_eq_true rfl) (Nat.le_of_ble_eq_true rfl) ?_
  refine PX2_11 (q := 13) (fs' := [_, _, _]) rfl rfl dX2_init_10 rfl (by first | assumption | exact up_eq | exact (up_ne (by omega)).trans (by first | assumption | exact up_eq | exact (up_ne (by omega)).trans (by first | assumption | exact up_eq | exact (up_ne (by omega)).trans (by first | assumption | exact up_eq)))) (by omega) (by exact (Nat.le_of_ble_eq_true rfl)) (by rfl) ?_
  try rw [up_up]
  refine V_iconst (q := 14) (v := nI 0) dX2_init_13 rfl (by decide) ?_
  refine V_istore_n (q := 15) (ls' := [_, _]) dX2_init_14 rfl (by decide) (by rfl) rfl ?_
  exact key 0 (Nat.zero_le _) _ _ _ _ (fun _ => none) rfl rfl rfl up_eq ((up_ne (by omega)).trans up_eq) (fun k hk => absurd hk (Nat.not_lt_zero k)) (fun k hk => absurd hk (Nat.not_lt_zero k)) (fun j hj => (up_ne (by omega)).trans (up_ne (by omega)))
def X0e : XT := (S0e, S0e, 0, (0, fun _ => S0e), (0, fun _ => 0), (0, fun _ => 0), (0, 0, 0, -4))
theorem c_xInit {o : Nat} (h0 : w o = eO 7 [.null, .null, .null, .int 0, .null, .null, .null, .null, .null, .null]) : Ct g l MX7_init 4 [rf g o] w (o + 1) (qN (fun w' => XW g w' (o + 167) o X0e ∧ ∀ i, i < o → w' i = w i) (o + 1) 166) 166 1967 := by
  refine Ct.ofs (M := MX7_init) (ls := [some _]) (by decide +kernel) (by exact (Nat.le_of_ble_eq_true rfl)) (by rfl) (by rfl) (by rfl) ?_
  refine V_aload_n (q := 1) dX7_init_0 rfl rfl rfl ?_
  refine OX7_1 (q := 4) rfl dX7_init_1 rfl (Nat.le_of_ble_eq_true rfl) (Nat.le_of_ble_eq_true rfl) ?_
  refine V_aload_n (q := 5) dX7_init_4 rfl rfl rfl ?_
  refine NX7_7 (q := 8) rfl dX7_init_5 rfl (Nat.le_of_ble_eq_true rfl) (Nat.le_of_ble_eq_true rfl) ?_
  refine V_dup (q := 9) dX7_init_8 rfl rfl ?_
  refine IX7_9 (q := 12) rfl dX7_init_9 rfl (c_standInit up_eq) ⟨(Nat.le_of_ble_eq_true rfl), (Nat.le_of_ble_eq_true rfl)⟩ (Nat.le_of_ble_eq_true rfl) (Nat.le_of_ble_eq_true rfl) (Nat.le_of_ble_eq_true rfl) (fun w1 hw1 => ?_)
  obtain ⟨r1, s1⟩ := hw1
  have b1 : w1 o = eO 7 [.null, .null, .null, .int 0, .null, .null, .null, .null, .null, .null] := (s1 _ (by omega)).trans ((up_ne (by omega)).trans h0)
  refine PX7_10 (q := 15) (fs' := [_, _, _, _, _, _, _, _, _, _]) rfl rfl dX7_init_12 rfl (by first | assumption | exact up_eq | exact (up_ne (by omega)).trans (by first | assumption | exact up_eq | exact (up_ne (by omega)).trans (by first | assumption | exact up_eq | exact (up_ne (by omega)).trans (by first | assumption | exact up_eq)))) (by omega) (by exact (Nat.le_of_ble_eq_true rfl)) (by rfl) ?_
  try rw [up_up]
  obtain ⟨v1, hv1⟩ : ∃ v, v = va_up w1 o (eO 7 [rf g (o + 1), .null, .null, .int 0, .null, .null, .null, .null, .null, .null]) := ⟨_, rfl⟩
  refine V_wd (w' := v1) hv1.symm ?_
  have t1 : ∀ i, i ≠ o → v1 i = w1 i := fun i hi => by rw [hv1]; exact up_ne hi
  have c1 : v1 o = eO 7 [rf g (o + 1), .null, .null, .int 0, .null, .null, .null, .null, .null, .null] := by rw [hv1]; exact up_eq
  have old1 : ∀ i, i < o → v1 i = w i := fun i hi => (t1 i (by omega)).trans ((s1 i (by omega)).trans ((up_ne (by omega)).trans (rfl)))
  have f1_1 : Sd g v1 (o + 167) (o + 1) S0e := (r1.up (by omega)).frame (fun i a1 a2 => t1 i (by omega))
  refine V_aload_n (q := 16) dX7_init_15 rfl rfl rfl ?_
  refine NX7_7 (q := 19) rfl dX7_init_16 rfl (Nat.le_of_ble_eq_true rfl) (Nat.le_of_ble_eq_true rfl) ?_
  refine V_dup (q := 20) dX7_init_19 rfl rfl ?_
  refine IX7_9 (q := 23) rfl dX7_init_20 rfl (c_standInit up_eq) ⟨(Nat.le_of_ble_eq_true rfl), (Nat.le_of_ble_eq_true rfl)⟩ (Nat.le_of_ble_eq_true rfl) (Nat.le_of_ble_eq_true rfl) (Nat.le_of_ble_eq_true rfl) (fun w2 hw2 => ?_)
  obtain ⟨r2, s2⟩ := hw2
  have b2 : w2 o = eO 7 [rf g (o + 1), .null, .null, .int 0, .null, .null, .null, .null, .null, .null] := (s2 _ (by omega)).trans ((up_ne (by omega)).trans c1)
  refine PX7_16 (q := 26) (fs' := [_, _, _, _, _, _, _, _, _, _]) rfl rfl dX7_init_23 rfl (by first | assumption | exact up_eq | exact (up_ne (by omega)).trans (by first | assumption | exact up_eq | exact (up_ne (by omega)).trans (by first | assumption | exact up_eq | exact (up_ne (by omega)).trans (by first | assumption | exact up_eq)))) (by omega) (by exact (Nat.le_of_ble_eq_true rfl)) (by rfl) ?_
  try rw [up_up]
  obtain ⟨v2, hv2⟩ : ∃ v, v = va_up w2 o (eO 7 [rf g (o + 1), rf g (o + 15), .null, .int 0, .null, .null, .null, .null, .null, .null]) := ⟨_, rfl⟩
  refine V_wd (w' := v2) hv2.symm ?_
  have t2 : ∀ i, i ≠ o → v2 i = w2 i := fun i hi => by rw [hv2]; exact up_ne hi
  have c2 : v2 o = eO 7 [rf g (o + 1), rf g (o + 15), .null, .int 0, .null, .null, .null, .null, .null, .null] := by rw [hv2]; exact up_eq
  have old2 : ∀ i, i < o → v2 i = w i := fun i hi => (t2 i (by omega)).trans ((s2 i (by omega)).trans ((up_ne (by omega)).trans (old1 i hi)))
  have f2_1 := f1_1.frame (w' := v2) (fun i a1 a2 => (t2 i (by omega)).trans ((s2 i (by omega)).trans (up_ne (by omega))))
  have f2_15 : Sd g v2 (o + 167) (o + 15) S0e := (r2.up (by omega)).frame (fun i a1 a2 => t2 i (by omega))
  refine V_aload_n (q := 27) dX7_init_26 rfl rfl rfl ?_
  refine NX7_7 (q := 30) rfl dX7_init_27 rfl (Nat.le_of_ble_eq_true rfl) (Nat.le_of_ble_eq_true rfl) ?_
  refine V_dup (q := 31) dX7_init_30 rfl rfl ?_
  refine IX7_9 (q := 34) rfl dX7_init_31 rfl (c_standInit up_eq) ⟨(Nat.le_of_ble_eq_true rfl), (Nat.le_of_ble_eq_true rfl)⟩ (Nat.le_of_ble_eq_true rfl) (Nat.le_of_ble_eq_true rfl) (Nat.le_of_ble_eq_true rfl) (fun w3 hw3 => ?_)
  obtain ⟨r3, s3⟩ := hw3
  have b3 : w3 o = eO 7 [rf g (o + 1), rf g (o + 15), .null, .int 0, .null, .null, .null, .null, .null, .null] := (s3 _ (by omega)).trans ((up_ne (by omega)).trans c2)
  refine PX7_19 (q := 37) (fs' := [_, _, _, _, _, _, _, _, _, _]) rfl rfl dX7_init_34 rfl (by first | assumption | exact up_eq | exact (up_ne (by omega)).trans (by first | assumption | exact up_eq | exact (up_ne (by omega)).trans (by first | assumption | exact up_eq | exact (up_ne (by omega)).trans (by first | assumption | exact up_eq)))) (by omega) (by exact (Nat.le_of_ble_eq_true rfl)) (by rfl) ?_
  try rw [up_up]
  obtain ⟨v3, hv3⟩ : ∃ v, v = va_up w3 o (eO 7 [rf g (o + 1), rf g (o + 15), rf g (o + 29), .int 0, .null, .null, .null, .null, .null, .null]) := ⟨_, rfl⟩
  refine V_wd (w' := v3) hv3.symm ?_
  have t3 : ∀ i, i ≠ o → v3 i = w3 i := fun i hi => by rw [hv3]; exact up_ne hi
  have c3 : v3 o = eO 7 [rf g (o + 1), rf g (o + 15), rf g (o + 29), .int 0, .null, .null, .null, .null, .null, .null] := by rw [hv3]; exact up_eq
  have old3 : ∀ i, i < o → v3 i = w i := fun i hi => (t3 i (by omega)).trans ((s3 i (by omega)).trans ((up_ne (by omega)).trans (old2 i hi)))
  have f3_1 := f2_1.frame (w' := v3) (fun i a1 a2 => (t3 i (by omega)).trans ((s3 i (by omega)).trans (up_ne (by omega))))
  have f3_15 := f2_15.frame (w' := v3) (fun i a1 a2 => (t3 i (by omega)).trans ((s3 i (by omega)).trans (up_ne (by omega))))
  have f3_29 : Sd g v3 (o + 167) (o + 29) S0e := (r3.up (by omega)).frame (fun i a1 a2 => t3 i (by omega))
  refine V_aload_n (q := 38) dX7_init_37 rfl rfl rfl ?_
  refine NX7_22 (q := 41) rfl dX7_init_38 rfl (Nat.le_of_ble_eq_true rfl) (Nat.le_of_ble_eq_true rfl) ?_
  refine V_dup (q := 42) dX7_init_41 rfl rfl ?_
  refine IX7_24 (q := 45) rfl dX7_init_42 rfl (c_pastInit up_eq) ⟨(Nat.le_of_ble_eq_true rfl), (Nat.le_of_ble_eq_true rfl)⟩ (Nat.le_of_ble_eq_true rfl) (Nat.le_of_ble_eq_true rfl) (Nat.le_of_ble_eq_true rfl) (fun w4 hw4 => ?_)
  obtain ⟨r4, s4⟩ := hw4
  have b4 : w4 o = eO 7 [rf g (o + 1), rf g (o + 15), rf g (o + 29), .int 0, .null, .null, .null, .null, .null, .null] := (s4 _ (by omega)).trans ((up_ne (by omega)).trans c3)
  refine PX7_25 (q := 48) (fs' := [_, _, _, _, _, _, _, _, _, _]) rfl rfl dX7_init_45 rfl (by first | assumption | exact up_eq | exact (up_ne (by omega)).trans (by first | assumption | exact up_eq | exact (up_ne (by omega)).trans (by first | assumption | exact up_eq | exact (up_ne (by omega)).trans (by first | assumption | exact up_eq)))) (by omega) (by exact (Nat.le_of_ble_eq_true rfl)) (by rfl) ?_
  try rw [up_up]
  obtain ⟨v4, hv4⟩ : ∃ v, v = va_up w4 o (eO 7 [rf g (o + 1), rf g (o + 15), rf g (o + 29), .int 0, rf g (o + 43), .null, .null, .null, .null, .null]) := ⟨_, rfl⟩
  refine V_wd (w' := v4) hv4.symm ?_
  have t4 : ∀ i, i ≠ o → v4 i = w4 i := fun i hi => by rw [hv4]; exact up_ne hi
  have c4 : v4 o = eO 7 [rf g (o + 1), rf g (o + 15), rf g (o + 29), .int 0, rf g (o + 43), .null, .null, .null, .null, .null] := by rw [hv4]; exact up_eq
  have old4 : ∀ i, i < o → v4 i = w i := fun i hi => (t4 i (by omega)).trans ((s4 i (by omega)).trans ((up_ne (by omega)).trans (old3 i hi)))
  have f4_1 := f3_1.frame (w' := v4) (fun i a1 a2 => (t4 i (by omega)).trans ((s4 i (by omega)).trans (up_ne (by omega))))
  have f4_15 := f3_15.frame (w' := v4) (fun i a1 a2 => (t4 i (by omega)).trans ((s4 i (by omega)).trans (up_ne (by omega))))
  have f4_29 := f3_29.frame (w' := v4) (fun i a1 a2 => (t4 i (by omega)).trans ((s4 i (by omega)).trans (up_ne (by omega))))
  have f4_43 : PaF g v4 (o + 167) (o + 43) 0 (fun _ => S0e) := (r4.up (by omega)).frame (fun i a1 a2 => t4 i (by omega))
  refine V_aload_n (q := 49) dX7_init_48 rfl rfl rfl ?_
  refine NX7_29 (q := 52) rfl dX7_init_49 rfl (Nat.le_of_ble_eq_true rfl) (Nat.le_of_ble_eq_true rfl) ?_
  refine V_dup (q := 53) dX7_init_52 rfl rfl ?_
  refine IX7_31 (q := 56) rfl dX7_init_53 rfl (c_joinsInit up_eq) ⟨(Nat.le_of_ble_eq_true rfl), (Nat.le_of_ble_eq_true rfl)⟩ (Nat.le_of_ble_eq_true rfl) (Nat.le_of_ble_eq_true rfl) (Nat.le_of_ble_eq_true rfl) (fun w5 hw5 => ?_)
  obtain ⟨r5, s5⟩ := hw5
  have b5 : w5 o = eO 7 [rf g (o + 1), rf g (o + 15), rf g (o + 29), .int 0, rf g (o + 43), .null, .null, .null, .null, .null] := (s5 _ (by omega)).trans ((up_ne (by omega)).trans c4)
  refine PX7_32 (q := 59) (fs' := [_, _, _, _, _, _, _, _, _, _]) rfl rfl dX7_init_56 rfl (by first | assumption | exact up_eq | exact (up_ne (by omega)).trans (by first | assumption | exact up_eq | exact (up_ne (by omega)).trans (by first | assumption | exact up_eq | exact (up_ne (by omega)).trans (by first | assumption | exact up_eq)))) (by omega) (by exact (Nat.le_of_ble_eq_true rfl)) (by rfl) ?_
  try rw [up_up]
  obtain ⟨v5, hv5⟩ : ∃ v, v = va_up w5 o (eO 7 [rf g (o + 1), rf g (o + 15), rf g (o + 29), .int 0, rf g (o + 43), rf g (o + 157), .null, .null, .null, .null]) := ⟨_, rfl⟩
  refine V_wd (w' := v5) hv5.symm ?_
  have t5 : ∀ i, i ≠ o → v5 i = w5 i := fun i hi => by rw [hv5]; exact up_ne hi
  have c5 : v5 o = eO 7 [rf g (o + 1), rf g (o + 15), rf g (o + 29), .int 0, rf g (o + 43), rf g (o + 157), .null, .null, .null, .null] := by rw [hv5]; exact up_eq
  have old5 : ∀ i, i < o → v5 i = w i := fun i hi => (t5 i (by omega)).trans ((s5 i (by omega)).trans ((up_ne (by omega)).trans (old4 i hi)))
  have f5_1 := f4_1.frame (w' := v5) (fun i a1 a2 => (t5 i (by omega)).trans ((s5 i (by omega)).trans (up_ne (by omega))))
  have f5_15 := f4_15.frame (w' := v5) (fun i a1 a2 => (t5 i (by omega)).trans ((s5 i (by omega)).trans (up_ne (by omega))))
  have f5_29 := f4_29.frame (w' := v5) (fun i a1 a2 => (t5 i (by omega)).trans ((s5 i (by omega)).trans (up_ne (by omega))))
  have f5_43 := f4_43.frame (w' := v5) (fun i a1 a2 => (t5 i (by omega)).trans ((s5 i (by omega)).trans (up_ne (by omega))))
  have f5_157 : Jn g v5 (o + 167) (o + 157) := (r5.up (by omega)).frame (fun i a1 a2 => t5 i (by omega))
  refine V_aload_n (q := 60) dX7_init_59 rfl rfl rfl ?_
  refine NX7_36 (q := 63) rfl dX7_init_60 rfl (Nat.le_of_ble_eq_true rfl) (Nat.le_of_ble_eq_true rfl) ?_
  refine V_dup (q := 64) dX7_init_63 rfl rfl ?_
  refine IX7_38 (q := 67) rfl dX7_init_64 rfl (c_lineInit up_eq) ⟨(Nat.le_of_ble_eq_true rfl), (Nat.le_of_ble_eq_true rfl)⟩ (Nat.le_of_ble_eq_true rfl) (Nat.le_of_ble_eq_true rfl) (Nat.le_of_ble_eq_true rfl) (fun w6 hw6 => ?_)
  obtain ⟨r6, s6⟩ := hw6
  have b6 : w6 o = eO 7 [rf g (o + 1), rf g (o + 15), rf g (o + 29), .int 0, rf g (o + 43), rf g (o + 157), .null, .null, .null, .null] := (s6 _ (by omega)).trans ((up_ne (by omega)).trans c5)
  refine PX7_39 (q := 70) (fs' := [_, _, _, _, _, _, _, _, _, _]) rfl rfl dX7_init_67 rfl (by first | assumption | exact up_eq | exact (up_ne (by omega)).trans (by first | assumption | exact up_eq | exact (up_ne (by omega)).trans (by first | assumption | exact up_eq | exact (up_ne (by omega)).trans (by first | assumption | exact up_eq)))) (by omega) (by exact (Nat.le_of_ble_eq_true rfl)) (by rfl) ?_
  try rw [up_up]
  obtain ⟨v6, hv6⟩ : ∃ v, v = va_up w6 o (eO 7 [rf g (o + 1), rf g (o + 15), rf g (o + 29), .int 0, rf g (o + 43), rf g (o + 157), rf g (o + 161), .null, .null, .null]) := ⟨_, rfl⟩
  refine V_wd (w' := v6) hv6.symm ?_
  have t6 : ∀ i, i ≠ o → v6 i = w6 i := fun i hi => by rw [hv6]; exact up_ne hi
  have c6 : v6 o = eO 7 [rf g (o + 1), rf g (o + 15), rf g (o + 29), .int 0, rf g (o + 43), rf g (o + 157), rf g (o + 161), .null, .null, .null] := by rw [hv6]; exact up_eq
  have old6 : ∀ i, i < o → v6 i = w i := fun i hi => (t6 i (by omega)).trans ((s6 i (by omega)).trans ((up_ne (by omega)).trans (old5 i hi)))
  have f6_1 := f5_1.frame (w' := v6) (fun i a1 a2 => (t6 i (by omega)).trans ((s6 i (by omega)).trans (up_ne (by omega))))
  have f6_15 := f5_15.frame (w' := v6) (fun i a1 a2 => (t6 i (by omega)).trans ((s6 i (by omega)).trans (up_ne (by omega))))
  have f6_29 := f5_29.frame (w' := v6) (fun i a1 a2 => (t6 i (by omega)).trans ((s6 i (by omega)).trans (up_ne (by omega))))
  have f6_43 := f5_43.frame (w' := v6) (fun i a1 a2 => (t6 i (by omega)).trans ((s6 i (by omega)).trans (up_ne (by omega))))
  have f6_157 := f5_157.frame (w' := v6) (fun i a1 a2 => (t6 i (by omega)).trans ((s6 i (by omega)).trans (up_ne (by omega))))
  have f6_161 : LnF g v6 (o + 167) (o + 161) 0 (fun _ => 0) := (r6.up (by omega)).frame (t6 _ (by omega)) (t6 _ (by omega))
  refine V_aload_n (q := 71) dX7_init_70 rfl rfl rfl ?_
  refine NX7_43 (q := 74) rfl dX7_init_71 rfl (Nat.le_of_ble_eq_true rfl) (Nat.le_of_ble_eq_true rfl) ?_
  refine V_dup (q := 75) dX7_init_74 rfl rfl ?_
  refine IX7_45 (q := 78) rfl dX7_init_75 rfl (c_textInit up_eq) ⟨(Nat.le_of_ble_eq_true rfl), (Nat.le_of_ble_eq_true rfl)⟩ (Nat.le_of_ble_eq_true rfl) (Nat.le_of_ble_eq_true rfl) (Nat.le_of_ble_eq_true rfl) (fun w7 hw7 => ?_)
  obtain ⟨r7, s7⟩ := hw7
  have b7 : w7 o = eO 7 [rf g (o + 1), rf g (o + 15), rf g (o + 29), .int 0, rf g (o + 43), rf g (o + 157), rf g (o + 161), .null, .null, .null] := (s7 _ (by omega)).trans ((up_ne (by omega)).trans c6)
  refine PX7_46 (q := 81) (fs' := [_, _, _, _, _, _, _, _, _, _]) rfl rfl dX7_init_78 rfl (by first | assumption | exact up_eq | exact (up_ne (by omega)).trans (by first | assumption | exact up_eq | exact (up_ne (by omega)).trans (by first | assumption | exact up_eq | exact (up_ne (by omega)).trans (by first | assumption | exact up_eq)))) (by omega) (by exact (Nat.le_of_ble_eq_true rfl)) (by rfl) ?_
  try rw [up_up]
  obtain ⟨v7, hv7⟩ : ∃ v, v = va_up w7 o (eO 7 [rf g (o + 1), rf g (o + 15), rf g (o + 29), .int 0, rf g (o + 43), rf g (o + 157), rf g (o + 161), rf g (o + 163), .null, .null]) := ⟨_, rfl⟩
  refine V_wd (w' := v7) hv7.symm ?_
  have t7 : ∀ i, i ≠ o → v7 i = w7 i := fun i hi => by rw [hv7]; exact up_ne hi
  have c7 : v7 o = eO 7 [rf g (o + 1), rf g (o + 15), rf g (o + 29), .int 0, rf g (o + 43), rf g (o + 157), rf g (o + 161), rf g (o + 163), .null, .null] := by rw [hv7]; exact up_eq
  have old7 : ∀ i, i < o → v7 i = w i := fun i hi => (t7 i (by omega)).trans ((s7 i (by omega)).trans ((up_ne (by omega)).trans (old6 i hi)))
  have f7_1 := f6_1.frame (w' := v7) (fun i a1 a2 => (t7 i (by omega)).trans ((s7 i (by omega)).trans (up_ne (by omega))))
  have f7_15 := f6_15.frame (w' := v7) (fun i a1 a2 => (t7 i (by omega)).trans ((s7 i (by omega)).trans (up_ne (by omega))))
  have f7_29 := f6_29.frame (w' := v7) (fun i a1 a2 => (t7 i (by omega)).trans ((s7 i (by omega)).trans (up_ne (by omega))))
  have f7_43 := f6_43.frame (w' := v7) (fun i a1 a2 => (t7 i (by omega)).trans ((s7 i (by omega)).trans (up_ne (by omega))))
  have f7_157 := f6_157.frame (w' := v7) (fun i a1 a2 => (t7 i (by omega)).trans ((s7 i (by omega)).trans (up_ne (by omega))))
  have f7_161 := f6_161.frame (w' := v7) ((t7 _ (by omega)).trans ((s7 _ (by omega)).trans (up_ne (by omega)))) ((t7 _ (by omega)).trans ((s7 _ (by omega)).trans (up_ne (by omega))))
  have f7_163 : TxF g v7 (o + 167) (o + 163) 0 (fun _ => 0) := (r7.up (by omega)).frame (t7 _ (by omega)) (t7 _ (by omega))
  refine V_aload_n (q := 82) dX7_init_81 rfl rfl rfl ?_
  refine NX7_50 (q := 85) rfl dX7_init_82 rfl (Nat.le_of_ble_eq_true rfl) (Nat.le_of_ble_eq_true rfl) ?_
  refine V_dup (q := 86) dX7_init_85 rfl rfl ?_
  refine IX7_52 (q := 89) rfl dX7_init_86 rfl (c_refInit up_eq) ⟨(Nat.le_of_ble_eq_true rfl), (Nat.le_of_ble_eq_true rfl)⟩ (Nat.le_of_ble_eq_true rfl) (Nat.le_of_ble_eq_true rfl) (Nat.le_of_ble_eq_true rfl) (fun w8 hw8 => ?_)
  obtain ⟨r8, s8⟩ := hw8
  have b8 : w8 o = eO 7 [rf g (o + 1), rf g (o + 15), rf g (o + 29), .int 0, rf g (o + 43), rf g (o + 157), rf g (o + 161), rf g (o + 163), .null, .null] := (s8 _ (by omega)).trans ((up_ne (by omega)).trans c7)
  refine PX7_53 (q := 92) (fs' := [_, _, _, _, _, _, _, _, _, _]) rfl rfl dX7_init_89 rfl (by first | assumption | exact up_eq | exact (up_ne (by omega)).trans (by first | assumption | exact up_eq | exact (up_ne (by omega)).trans (by first | assumption | exact up_eq | exact (up_ne (by omega)).trans (by first | assumption | exact up_eq)))) (by omega) (by exact (Nat.le_of_ble_eq_true rfl)) (by rfl) ?_
  try rw [up_up]
  obtain ⟨v8, hv8⟩ : ∃ v, v = va_up w8 o (eO 7 [rf g (o + 1), rf g (o + 15), rf g (o + 29), .int 0, rf g (o + 43), rf g (o + 157), rf g (o + 161), rf g (o + 163), rf g (o + 165), .null]) := ⟨_, rfl⟩
  refine V_wd (w' := v8) hv8.symm ?_
  have t8 : ∀ i, i ≠ o → v8 i = w8 i := fun i hi => by rw [hv8]; exact up_ne hi
  have c8 : v8 o = eO 7 [rf g (o + 1), rf g (o + 15), rf g (o + 29), .int 0, rf g (o + 43), rf g (o + 157), rf g (o + 161), rf g (o + 163), rf g (o + 165), .null] := by rw [hv8]; exact up_eq
  have old8 : ∀ i, i < o → v8 i = w i := fun i hi => (t8 i (by omega)).trans ((s8 i (by omega)).trans ((up_ne (by omega)).trans (old7 i hi)))
  have f8_1 := f7_1.frame (w' := v8) (fun i a1 a2 => (t8 i (by omega)).trans ((s8 i (by omega)).trans (up_ne (by omega))))
  have f8_15 := f7_15.frame (w' := v8) (fun i a1 a2 => (t8 i (by omega)).trans ((s8 i (by omega)).trans (up_ne (by omega))))
  have f8_29 := f7_29.frame (w' := v8) (fun i a1 a2 => (t8 i (by omega)).trans ((s8 i (by omega)).trans (up_ne (by omega))))
  have f8_43 := f7_43.frame (w' := v8) (fun i a1 a2 => (t8 i (by omega)).trans ((s8 i (by omega)).trans (up_ne (by omega))))
  have f8_157 := f7_157.frame (w' := v8) (fun i a1 a2 => (t8 i (by omega)).trans ((s8 i (by omega)).trans (up_ne (by omega))))
  have f8_161 := f7_161.frame (w' := v8) ((t8 _ (by omega)).trans ((s8 _ (by omega)).trans (up_ne (by omega)))) ((t8 _ (by omega)).trans ((s8 _ (by omega)).trans (up_ne (by omega))))
  have f8_163 := f7_163.frame (w' := v8) ((t8 _ (by omega)).trans ((s8 _ (by omega)).trans (up_ne (by omega)))) ((t8 _ (by omega)).trans ((s8 _ (by omega)).trans (up_ne (by omega))))
  have f8_165 : v8 (o + 165) = eO 3 (rfs (0, 0, 0, -4)) := (t8 _ (by omega)).trans r8
  refine V_aload_n (q := 93) dX7_init_92 rfl rfl rfl ?_
  refine V_bipush (q := 95) (v := nI 6) dX7_init_93 rfl (by decide) ?_
  refine V_newI (q := 97) dX7_init_95 rfl wd_37 rfl (Nat.le_of_ble_eq_true rfl) (Nat.le_of_ble_eq_true rfl) (Nat.le_of_ble_eq_true rfl) ?_
  refine PX7_57 (q := 100) (fs' := [_, _, _, _, _, _, _, _, _, _]) rfl rfl dX7_init_97 rfl (by first | assumption | exact up_eq | exact (up_ne (by omega)).trans (by first | assumption | exact up_eq | exact (up_ne (by omega)).trans (by first | assumption | exact up_eq | exact (up_ne (by omega)).trans (by first | assumption | exact up_eq)))) (by omega) (by exact (Nat.le_of_ble_eq_true rfl)) (by rfl) ?_
  try rw [up_up]
  have u : ∀ i, i ≠ o → i < o + 166 → va_up (va_up v8 (o + 166) (eI g 6 (fun _ => 0))) o (eO 7 [rf g (o + 1), rf g (o + 15), rf g (o + 29), .int 0, rf g (o + 43), rf g (o + 157), rf g (o + 161), rf g (o + 163), rf g (o + 165), rf g (o + 166)]) i = v8 i := fun i a1 a2 => (up_ne a1).trans (up_ne (by omega))
  refine V_vret dX7_init_100 rfl (Nat.le_of_ble_eq_true rfl) (Nat.le_of_ble_eq_true rfl) (⟨rfl, rfl, ⟨S0e, up_eq, ?_, ?_, ?_, ?_, ?_, ?_, ?_, ?_, ⟨fun _ => 0, (up_ne (by omega)).trans up_eq⟩, Nat.le_refl _⟩, fun i hi => (u i (by omega) (by omega)).trans (old8 i hi)⟩)
  · exact f8_1.frame (fun i a1 a2 => u i (by omega) (by omega))
  · exact f8_15.frame (fun i a1 a2 => u i (by omega) (by omega))
  · exact f8_29.frame (fun i a1 a2 => u i (by omega) (by omega))
  · exact f8_43.frame (fun i a1 a2 => u i (by omega) (by omega))
  · exact f8_157.frame (fun i a1 a2 => u i (by omega) (by omega))
  · exact f8_161.frame (u _ (by omega) (by omega)) (u _ (by omega) (by omega))
  · exact f8_163.frame (u _ (by omega) (by omega)) (u _ (by omega) (by omega))
  · exact (u _ (by omega) (by omega)).trans f8_165
end INI
