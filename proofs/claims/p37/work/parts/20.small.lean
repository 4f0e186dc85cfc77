/-! THE LINE, THE TEXT, THE REFUSALS, THE PAST -/
theorem narC {c : Nat} (h : c < 65536) : vp_nar .char (nI c) = nI c := by
  unfold vp_nar
  rw [(pk_charN h).1]
theorem i2cN {c : Nat} (h : c < 65536) : ((nI c).toUInt32 % 65536).toInt32 = nI c := by
  rw [pk_char, pk_tn (by omega), Nat.mod_eq_of_lt h]
def LnF (g : GG) (w : HW) (n b ll : Nat) (c : Nat → Nat) : Prop := ∃ C : Nat → Int32, w b = eO 1 [.int (nI ll), rf g (b + 1)] ∧ w (b + 1) = eC g 10 C ∧ b + 1 < n ∧ ll ≤ 10 ∧ ∀ i, i < ll → C i = nI (c i)
def TxF (g : GG) (w : HW) (n b tl : Nat) (t : Nat → Nat) : Prop := ∃ C : Nat → Int32, w b = eO 6 [.int (nI tl), rf g (b + 1)] ∧ w (b + 1) = eC g 70 C ∧ b + 1 < n ∧ tl ≤ 70 ∧ ∀ i, i < tl → C i = nI (t i) ∧ 32 ≤ t i ∧ t i ≤ 126
def Fr2 (w w' : HW) (b : Nat) : Prop := ∀ i, i ≠ b → i ≠ b + 1 → w' i = w i
theorem LnF.frame {g : GG} {w w' : HW} {n b ll : Nat} {c : Nat → Nat} (h : LnF g w n b ll c) (h1 : w' b = w b) (h2 : w' (b + 1) = w (b + 1)) : LnF g w' n b ll c := by
  obtain ⟨C, e1, e2, e3⟩ := h
  exact ⟨C, h1.trans e1, h2.trans e2, e3⟩
theorem TxF.frame {g : GG} {w w' : HW} {n b ll : Nat} {c : Nat → Nat} (h : TxF g w n b ll c) (h1 : w' b = w b) (h2 : w' (b + 1) = w (b + 1)) : TxF g w' n b ll c := by
  obtain ⟨C, e1, e2, e3⟩ := h
  exact ⟨C, h1.trans e1, h2.trans e2, e3⟩
def putN (c : Nat → Nat) (k x : Nat) : Nat → Nat := fun i => if i = k then x else c i
/-- the digit at an index of a text, if there is one -/
def dgA (t : Nat → Nat) (tl i : Nat) : Option Nat := if i < tl ∧ 48 ≤ t i ∧ t i ≤ 57 then some (t i - 48) else none
def cdA (t : Nat → Nat) (tl i : Nat) : Option Nat := if i < tl then some (t i) else none
/-- how many digits stand from s on, at most m -/
def dgs (t : Nat → Nat) (tl s m : Nat) : Nat := fa_first (fun k => (dgA t tl (s + k)).isNone) m
def numN (t : Nat → Nat) (s : Nat) : Nat → Nat
  | 0 => 0
  | k + 1 => numN t s k * 10 + (t (s + k) - 48)
def wantN (c : Nat) : Nat := if c = 115 then 3 else if c = 120 ∨ c = 116 ∨ c = 108 ∨ c = 98 ∨ c = 106 ∨ c = 99 ∨ c = 114 then 1 else 0
def wantA (o : Option Nat) : Nat := match o with
  | none => 0
  | some c => wantN c
theorem dgs_le (t : Nat → Nat) (tl s m : Nat) : dgs t tl s m ≤ m := fa_first_le _ _
theorem dgs_dig {t : Nat → Nat} {tl s m k : Nat} (hk : k < dgs t tl s m) : s + k < tl ∧ 48 ≤ t (s + k) ∧ t (s + k) ≤ 57 ∧ dgA t tl (s + k) = some (t (s + k) - 48) := by
  have h := fa_first_no _ _ k hk
  unfold dgA at h ⊢
  split at h
  next q => exact ⟨q.1, q.2.1, q.2.2, if_pos q⟩
  next => simp at h
theorem dgs_end {t : Nat → Nat} {tl s m : Nat} (h : dgs t tl s m < m) : dgA t tl (s + dgs t tl s m) = none := by
  have := fa_first_yes _ _ h
  exact Option.isNone_iff_eq_none.mp this
theorem dgs_is {t : Nat → Nat} {tl s m k : Nat} (hk : k ≤ m) (h1 : ∀ i, i < k → dgA t tl (s + i) ≠ none) (h2 : k < m → dgA t tl (s + k) = none) : dgs t tl s m = k := by
  rcases Nat.lt_trichotomy (dgs t tl s m) k with q | q | q
  · exact absurd (dgs_end (Nat.lt_of_lt_of_le q hk)) (h1 _ q)
  · exact q
  · have a := (dgs_dig q).2.2.2
    rw [h2 (Nat.lt_of_lt_of_le q (dgs_le _ _ _ _))] at a
    cases a
section SMALL
variable {g : GG} {l : Launch} {w : HW} {n b ll tl : Nat} {c t : Nat → Nat}
theorem c_lclear (hL : LnF g w n b ll c) : CtV g l MX1_clear 0 [rf g b] w n (fun w' => LnF g w' n b 0 c ∧ Fr2 w w' b) := by
  obtain ⟨C, e1, e2, e3, e4, e5⟩ := hL
  refine Ct.ofs (M := MX1_clear) (ls := [some _]) (by decide +kernel) (by exact (Nat.le_of_ble_eq_true rfl)) (by rfl) (by rfl) (by rfl) ?_
  refine V_aload_n (q := 1) dX1_clear_0 rfl rfl rfl ?_
  refine V_iconst (q := 2) (v := nI 0) dX1_clear_1 rfl (by decide) ?_
  refine PX1_15 (q := 5) (fs' := [_, _]) rfl dX1_clear_2 rfl (by first | assumption | exact up_eq | exact (up_ne (by omega)).trans (by first | assumption | exact up_eq | exact (up_ne (by omega)).trans (by first | assumption | exact up_eq | exact (up_ne (by omega)).trans (by first | assumption | exact up_eq)))) (by omega) (by exact (Nat.le_of_ble_eq_true rfl)) (by rfl) ?_
  try rw [up_up]
  exact V_vret dX1_clear_5 rfl (Nat.le_of_ble_eq_true rfl) (Nat.le_of_ble_eq_true rfl) (⟨rfl, rfl, ⟨C, up_eq, (up_ne (by omega)).trans e2, e3, by omega, fun i hi => absurd hi (Nat.not_lt_zero i)⟩, fun i h1 h2 => up_ne h1⟩)
theorem c_lput (hL : LnF g w n b ll c) (hl : ll < 10) {x : Nat} (hx : x < 65536) : CtV g l MX1_put 0 [rf g b, .int (nI x)] w n (fun w' => LnF g w' n b (ll + 1) (putN c ll x) ∧ Fr2 w w' b) := by
  obtain ⟨C, e1, e2, e3, e4, e5⟩ := hL
  have hnr := narC hx
  refine Ct.ofs (M := MX1_put) (ls := [some _, some _]) (by decide +kernel) (by exact (Nat.le_of_ble_eq_true rfl)) (by rfl) (by rfl) (by rfl) ?_
  refine V_aload_n (q := 1) dX1_put_0 rfl rfl rfl ?_
  refine GX1_15 (q := 4) rfl dX1_put_1 rfl (by first | assumption | exact up_eq | exact (up_ne (by omega)).trans (by first | assumption | exact up_eq | exact (up_ne (by omega)).trans (by first | assumption | exact up_eq | exact (up_ne (by omega)).trans (by first | assumption | exact up_eq)))) (by omega) (by rfl) ?_
  refine V_ifN_lt (q := 7) (tgt := 39) dX1_put_4 (by decide) rfl (by omega) (fun h9 => by first | exact h9.elim | exact absurd h9 (by assumption) | (exfalso; omega)) (fun _ => ?_)
  refine V_aload_n (q := 8) dX1_put_7 rfl rfl rfl ?_
  refine GX1_15 (q := 11) rfl dX1_put_8 rfl (by first | assumption | exact up_eq | exact (up_ne (by omega)).trans (by first | assumption | exact up_eq | exact (up_ne (by omega)).trans (by first | assumption | exact up_eq | exact (up_ne (by omega)).trans (by first | assumption | exact up_eq)))) (by omega) (by rfl) ?_
  refine V_aload_n (q := 12) dX1_put_11 rfl rfl rfl ?_
  refine GX1_9 (q := 15) rfl dX1_put_12 rfl (by first | assumption | exact up_eq | exact (up_ne (by omega)).trans (by first | assumption | exact up_eq | exact (up_ne (by omega)).trans (by first | assumption | exact up_eq | exact (up_ne (by omega)).trans (by first | assumption | exact up_eq)))) (by omega) (by rfl) ?_
  refine V_alenC (q := 16) dX1_put_15 rfl (by first | assumption | exact up_eq | exact (up_ne (by omega)).trans (by first | assumption | exact up_eq | exact (up_ne (by omega)).trans (by first | assumption | exact up_eq | exact (up_ne (by omega)).trans (by first | assumption | exact up_eq)))) (by omega) ?_
  refine V_icmpN_ge (q := 19) (tgt := 39) dX1_put_16 (by decide) rfl (by omega) (by omega) (fun h9 => by first | exact h9.elim | exact absurd h9 (by assumption) | (exfalso; omega)) (fun _ => ?_)
  refine V_aload_n (q := 20) dX1_put_19 rfl rfl rfl ?_
  refine GX1_9 (q := 23) rfl dX1_put_20 rfl (by first | assumption | exact up_eq | exact (up_ne (by omega)).trans (by first | assumption | exact up_eq | exact (up_ne (by omega)).trans (by first | assumption | exact up_eq | exact (up_ne (by omega)).trans (by first | assumption | exact up_eq)))) (by omega) (by rfl) ?_
  refine V_aload_n (q := 24) dX1_put_23 rfl rfl rfl ?_
  refine GX1_15 (q := 27) rfl dX1_put_24 rfl (by first | assumption | exact up_eq | exact (up_ne (by omega)).trans (by first | assumption | exact up_eq | exact (up_ne (by omega)).trans (by first | assumption | exact up_eq | exact (up_ne (by omega)).trans (by first | assumption | exact up_eq)))) (by omega) (by rfl) ?_
  refine V_iload_n (q := 28) dX1_put_27 rfl rfl ?_
  refine V_castN (q := 29) dX1_put_28 rfl (by first | assumption | exact up_eq | exact (up_ne (by omega)).trans (by first | assumption | exact up_eq | exact (up_ne (by omega)).trans (by first | assumption | exact up_eq | exact (up_ne (by omega)).trans (by first | assumption | exact up_eq)))) (by omega) (by omega) (by omega) rfl (by assumption) (by rfl) ?_
  refine V_aload_n (q := 30) dX1_put_29 rfl rfl rfl ?_
  refine V_dup (q := 31) dX1_put_30 rfl rfl ?_
  refine GX1_15 (q := 34) rfl dX1_put_31 rfl (by first | assumption | exact up_eq | exact (up_ne (by omega)).trans (by first | assumption | exact up_eq | exact (up_ne (by omega)).trans (by first | assumption | exact up_eq | exact (up_ne (by omega)).trans (by first | assumption | exact up_eq)))) (by omega) (by rfl) ?_
  refine V_iconst (q := 35) (v := nI 1) dX1_put_34 rfl (by decide) ?_
  refine V_iadd (q := 36) dX1_put_35 rfl (by first | exact nI_add _ _ | rfl) ?_
  refine PX1_15 (q := 39) (fs' := [_, _]) rfl dX1_put_36 rfl (by first | assumption | exact up_eq | exact (up_ne (by omega)).trans (by first | assumption | exact up_eq | exact (up_ne (by omega)).trans (by first | assumption | exact up_eq | exact (up_ne (by omega)).trans (by first | assumption | exact up_eq)))) (by omega) (by exact (Nat.le_of_ble_eq_true rfl)) (by rfl) ?_
  try rw [up_up]
  refine V_vret dX1_put_39 rfl (Nat.le_of_ble_eq_true rfl) (Nat.le_of_ble_eq_true rfl) (⟨rfl, rfl, ⟨upd C ll (nI x), up_eq, (up_ne (by omega)).trans up_eq, e3, by omega, fun i hi => ?_⟩, fun i h1 h2 => (up_ne h1).trans (up_ne h2)⟩)
  unfold putN
  by_cases e : i = ll
  · rw [e, updI, if_pos rfl]
  · rw [updN e, if_neg e]
    exact e5 i (by omega)
theorem c_lputDigit (hL : LnF g w n b ll c) (hl : ll < 10) {x : Nat} (hx : x < 60000) : CtV g l MX1_putDigit 1 [rf g b, .int (nI x)] w n (fun w' => LnF g w' n b (ll + 1) (putN c ll (48 + x)) ∧ Fr2 w w' b) := by
  have hL0 := hL
  obtain ⟨C, e1, e2, e3, e4, e5⟩ := hL
  refine Ct.ofs (M := MX1_putDigit) (ls := [some _, some _]) (by decide +kernel) (by exact (Nat.le_of_ble_eq_true rfl)) (by rfl) (by rfl) (by rfl) ?_
  refine V_aload_n (q := 1) dX1_putDigit_0 rfl rfl rfl ?_
  refine V_bipush (q := 3) (v := nI 48) dX1_putDigit_1 rfl (by decide) ?_
  refine V_iload_n (q := 4) dX1_putDigit_3 rfl rfl ?_
  refine V_iadd (q := 5) dX1_putDigit_4 rfl (by first | exact nI_add _ _ | rfl) ?_
  refine V_i2c (q := 6) dX1_putDigit_5 rfl (i2cN (by omega)) ?_
  refine CvX1_19 (q := 9) rfl dX1_putDigit_6 rfl (c_lput hL0 hl (by omega)) ⟨(Nat.le_of_ble_eq_true rfl), (Nat.le_of_ble_eq_true rfl)⟩ (Nat.le_of_ble_eq_true rfl) (by first | assumption | exact up_eq | exact (up_ne (by omega)).trans (by first | assumption | exact up_eq | exact (up_ne (by omega)).trans (by first | assumption | exact up_eq | exact (up_ne (by omega)).trans (by first | assumption | exact up_eq)))) (by omega) (Nat.zero_le _) (Nat.zero_le _) (fun w1 h1 => ?_)
  exact V_vret dX1_putDigit_9 rfl (Nat.le_of_ble_eq_true rfl) (Nat.le_of_ble_eq_true rfl) (⟨rfl, rfl, h1⟩)
theorem c_tclear (hT : TxF g w n b tl t) : CtV g l MX6_clear 0 [rf g b] w n (fun w' => TxF g w' n b 0 t ∧ Fr2 w w' b) := by
  obtain ⟨C, e1, e2, e3, e4, e5⟩ := hT
  refine Ct.ofs (M := MX6_clear) (ls := [some _]) (by decide +kernel) (by exact (Nat.le_of_ble_eq_true rfl)) (by rfl) (by rfl) (by rfl) ?_
  refine V_aload_n (q := 1) dX6_clear_0 rfl rfl rfl ?_
  refine V_iconst (q := 2) (v := nI 0) dX6_clear_1 rfl (by decide) ?_
  refine PX6_15 (q := 5) (fs' := [_, _]) rfl dX6_clear_2 rfl (by first | assumption | exact up_eq | exact (up_ne (by omega)).trans (by first | assumption | exact up_eq | exact (up_ne (by omega)).trans (by first | assumption | exact up_eq | exact (up_ne (by omega)).trans (by first | assumption | exact up_eq)))) (by omega) (by exact (Nat.le_of_ble_eq_true rfl)) (by rfl) ?_
  try rw [up_up]
  exact V_vret dX6_clear_5 rfl (Nat.le_of_ble_eq_true rfl) (Nat.le_of_ble_eq_true rfl) (⟨rfl, rfl, ⟨C, up_eq, (up_ne (by omega)).trans e2, e3, by omega, fun i hi => absurd hi (Nat.not_lt_zero i)⟩, fun i h1 h2 => up_ne h1⟩)
theorem c_tput_no (hT : TxF g w n b tl t) {x : Int32} (hx : x < nI 32 ∨ nI 126 < x ∨ tl = 70) : CtI g l MX6_put 0 [rf g b, .int x] w n (fun y w' => y = 0 ∧ w' = w) := by
  obtain ⟨C, e1, e2, e3, e4, e5⟩ := hT
  refine Ct.ofs (M := MX6_put) (ls := [some _, some _]) (by decide +kernel) (by exact (Nat.le_of_ble_eq_true rfl)) (by rfl) (by rfl) (by rfl) ?_
  refine V_iload_n (q := 1) dX6_put_0 rfl rfl ?_
  refine V_bipush (q := 3) (v := nI 32) dX6_put_1 rfl (by decide) ?_
  refine V_icmp_lt (q := 6) (tgt := 31) dX6_put_3 (by decide) rfl (fun h1 => ?_) (fun h1 => ?_)
  · skip
    refine V_iconst (q := 32) (v := nI 0) dX6_put_31 rfl (by decide) ?_
    exact V_zret dX6_put_32 rfl (rfl) (Nat.le_of_ble_eq_true rfl) (Nat.le_of_ble_eq_true rfl) (⟨rfl, _, rfl, rfl, rfl⟩)
  · skip
    refine V_iload_n (q := 7) dX6_put_6 rfl rfl ?_
    refine V_bipush (q := 9) (v := nI 126) dX6_put_7 rfl (by decide) ?_
    refine V_icmp_gt (q := 12) (tgt := 31) dX6_put_9 (by decide) rfl (fun h2 => ?_) (fun h2 => ?_)
    · skip
      refine V_iconst (q := 32) (v := nI 0) dX6_put_31 rfl (by decide) ?_
      exact V_zret dX6_put_32 rfl (rfl) (Nat.le_of_ble_eq_true rfl) (Nat.le_of_ble_eq_true rfl) (⟨rfl, _, rfl, rfl, rfl⟩)
    · skip
      have h3 : tl = 70 := (hx.resolve_left h1).resolve_left h2
      refine V_aload_n (q := 13) dX6_put_12 rfl rfl rfl ?_
      refine GX6_15 (q := 16) rfl dX6_put_13 rfl (by first | assumption | exact up_eq | exact (up_ne (by omega)).trans (by first | assumption | exact up_eq | exact (up_ne (by omega)).trans (by first | assumption | exact up_eq | exact (up_ne (by omega)).trans (by first | assumption | exact up_eq)))) (by omega) (by rfl) ?_
      refine V_ifN_lt (q := 19) (tgt := 31) dX6_put_16 (by decide) rfl (by omega) (fun h9 => by first | exact h9.elim | exact absurd h9 (by assumption) | (exfalso; omega)) (fun _ => ?_)
      refine V_aload_n (q := 20) dX6_put_19 rfl rfl rfl ?_
      refine GX6_15 (q := 23) rfl dX6_put_20 rfl (by first | assumption | exact up_eq | exact (up_ne (by omega)).trans (by first | assumption | exact up_eq | exact (up_ne (by omega)).trans (by first | assumption | exact up_eq | exact (up_ne (by omega)).trans (by first | assumption | exact up_eq)))) (by omega) (by rfl) ?_
      refine V_aload_n (q := 24) dX6_put_23 rfl rfl rfl ?_
      refine GX6_9 (q := 27) rfl dX6_put_24 rfl (by first | assumption | exact up_eq | exact (up_ne (by omega)).trans (by first | assumption | exact up_eq | exact (up_ne (by omega)).trans (by first | assumption | exact up_eq | exact (up_ne (by omega)).trans (by first | assumption | exact up_eq)))) (by omega) (by rfl) ?_
      refine V_alenC (q := 28) dX6_put_27 rfl (by first | assumption | exact up_eq | exact (up_ne (by omega)).trans (by first | assumption | exact up_eq | exact (up_ne (by omega)).trans (by first | assumption | exact up_eq | exact (up_ne (by omega)).trans (by first | assumption | exact up_eq)))) (by omega) ?_
      refine V_icmpN_lt (q := 31) (tgt := 33) dX6_put_28 (by decide) rfl (by omega) (by omega) (fun h9 => by first | exact h9.elim | exact absurd h9 (by assumption) | (exfalso; omega)) (fun _ => ?_)
      refine V_iconst (q := 32) (v := nI 0) dX6_put_31 rfl (by decide) ?_
      exact V_zret dX6_put_32 rfl (rfl) (Nat.le_of_ble_eq_true rfl) (Nat.le_of_ble_eq_true rfl) (⟨rfl, _, rfl, rfl, rfl⟩)
theorem c_tput (hT : TxF g w n b tl t) (hl : tl < 70) {x : Nat} (h32 : 32 ≤ x) (hx : x ≤ 126) : CtI g l MX6_put 0 [rf g b, .int (nI x)] w n (fun y w' => y = 1 ∧ TxF g w' n b (tl + 1) (putN t tl x) ∧ Fr2 w w' b) := by
  obtain ⟨C, e1, e2, e3, e4, e5⟩ := hT
  have hnr := narC (c := x) (by omega)
  refine Ct.ofs (M := MX6_put) (ls := [some _, some _]) (by decide +kernel) (by exact (Nat.le_of_ble_eq_true rfl)) (by rfl) (by rfl) (by rfl) ?_
  refine V_iload_n (q := 1) dX6_put_0 rfl rfl ?_
  refine V_bipush (q := 3) (v := nI 32) dX6_put_1 rfl (by decide) ?_
  refine V_icmpN_lt (q := 6) (tgt := 31) dX6_put_3 (by decide) rfl (by omega) (by omega) (fun h9 => by first | exact h9.elim | exact absurd h9 (by assumption) | (exfalso; omega)) (fun _ => ?_)
  refine V_iload_n (q := 7) dX6_put_6 rfl rfl ?_
  refine V_bipush (q := 9) (v := nI 126) dX6_put_7 rfl (by decide) ?_
  refine V_icmpN_gt (q := 12) (tgt := 31) dX6_put_9 (by decide) rfl (by omega) (by omega) (fun h9 => by first | exact h9.elim | exact absurd h9 (by assumption) | (exfalso; omega)) (fun _ => ?_)
  refine V_aload_n (q := 13) dX6_put_12 rfl rfl rfl ?_
  refine GX6_15 (q := 16) rfl dX6_put_13 rfl (by first | assumption | exact up_eq | exact (up_ne (by omega)).trans (by first | assumption | exact up_eq | exact (up_ne (by omega)).trans (by first | assumption | exact up_eq | exact (up_ne (by omega)).trans (by first | assumption | exact up_eq)))) (by omega) (by rfl) ?_
  refine V_ifN_lt (q := 19) (tgt := 31) dX6_put_16 (by decide) rfl (by omega) (fun h9 => by first | exact h9.elim | exact absurd h9 (by assumption) | (exfalso; omega)) (fun _ => ?_)
  refine V_aload_n (q := 20) dX6_put_19 rfl rfl rfl ?_
  refine GX6_15 (q := 23) rfl dX6_put_20 rfl (by first | assumption | exact up_eq | exact (up_ne (by omega)).trans (by first | assumption | exact up_eq | exact (up_ne (by omega)).trans (by first | assumption | exact up_eq | exact (up_ne (by omega)).trans (by first | assumption | exact up_eq)))) (by omega) (by rfl) ?_
  refine V_aload_n (q := 24) dX6_put_23 rfl rfl rfl ?_
  refine GX6_9 (q := 27) rfl dX6_put_24 rfl (by first | assumption | exact up_eq | exact (up_ne (by omega)).trans (by first | assumption | exact up_eq | exact (up_ne (by omega)).trans (by first | assumption | exact up_eq | exact (up_ne (by omega)).trans (by first | assumption | exact up_eq)))) (by omega) (by rfl) ?_
  refine V_alenC (q := 28) dX6_put_27 rfl (by first | assumption | exact up_eq | exact (up_ne (by omega)).trans (by first | assumption | exact up_eq | exact (up_ne (by omega)).trans (by first | assumption | exact up_eq | exact (up_ne (by omega)).trans (by first | assumption | exact up_eq)))) (by omega) ?_
  refine V_icmpN_lt (q := 31) (tgt := 33) dX6_put_28 (by decide) rfl (by omega) (by omega) (fun _ => ?_) (fun h9 => by first | exact h9.elim | (exfalso; omega))
  refine V_aload_n (q := 34) dX6_put_33 rfl rfl rfl ?_
  refine GX6_9 (q := 37) rfl dX6_put_34 rfl (by first | assumption | exact up_eq | exact (up_ne (by omega)).trans (by first | assumption | exact up_eq | exact (up_ne (by omega)).trans (by first | assumption | exact up_eq | exact (up_ne (by omega)).trans (by first | assumption | exact up_eq)))) (by omega) (by rfl) ?_
  refine V_aload_n (q := 38) dX6_put_37 rfl rfl rfl ?_
  refine GX6_15 (q := 41) rfl dX6_put_38 rfl (by first | assumption | exact up_eq | exact (up_ne (by omega)).trans (by first | assumption | exact up_eq | exact (up_ne (by omega)).trans (by first | assumption | exact up_eq | exact (up_ne (by omega)).trans (by first | assumption | exact up_eq)))) (by omega) (by rfl) ?_
  refine V_iload_n (q := 42) dX6_put_41 rfl rfl ?_
  refine V_i2c (q := 43) dX6_put_42 rfl (i2cN (by omega)) ?_
  refine V_castN (q := 44) dX6_put_43 rfl (by first | assumption | exact up_eq | exact (up_ne (by omega)).trans (by first | assumption | exact up_eq | exact (up_ne (by omega)).trans (by first | assumption | exact up_eq | exact (up_ne (by omega)).trans (by first | assumption | exact up_eq)))) (by omega) (by omega) (by omega) rfl (by assumption) (by rfl) ?_
  refine V_aload_n (q := 45) dX6_put_44 rfl rfl rfl ?_
  refine V_dup (q := 46) dX6_put_45 rfl rfl ?_
  refine GX6_15 (q := 49) rfl dX6_put_46 rfl (by first | assumption | exact up_eq | exact (up_ne (by omega)).trans (by first | assumption | exact up_eq | exact (up_ne (by omega)).trans (by first | assumption | exact up_eq | exact (up_ne (by omega)).trans (by first | assumption | exact up_eq)))) (by omega) (by rfl) ?_
  refine V_iconst (q := 50) (v := nI 1) dX6_put_49 rfl (by decide) ?_
  refine V_iadd (q := 51) dX6_put_50 rfl (by first | exact nI_add _ _ | rfl) ?_
  refine PX6_15 (q := 54) (fs' := [_, _]) rfl dX6_put_51 rfl (by first | assumption | exact up_eq | exact (up_ne (by omega)).trans (by first | assumption | exact up_eq | exact (up_ne (by omega)).trans (by first | assumption | exact up_eq | exact (up_ne (by omega)).trans (by first | assumption | exact up_eq)))) (by omega) (by exact (Nat.le_of_ble_eq_true rfl)) (by rfl) ?_
  try rw [up_up]
  refine V_iconst (q := 55) (v := nI 1) dX6_put_54 rfl (by decide) ?_
  refine V_zret dX6_put_55 rfl (rfl) (Nat.le_of_ble_eq_true rfl) (Nat.le_of_ble_eq_true rfl) (⟨rfl, _, rfl, rfl, ⟨upd C tl (nI x), up_eq, (up_ne (by omega)).trans up_eq, e3, by omega, fun i hi => ?_⟩, fun i h1 h2 => (up_ne h1).trans (up_ne h2)⟩)
  unfold putN
  by_cases e : i = tl
  · rw [e, updI, if_pos rfl]
    exact ⟨rfl, h32, hx⟩
  · rw [updN e, if_neg e]
    exact e5 i (by omega)
theorem c_tcode (hT : TxF g w n b tl t) {i : Nat} (hi : i < 2 ^ 31) : CtR g l MX6_codeAt 0 [rf g b, .int (nI i)] w n (.int (tI (cdA t tl i))) := by
  obtain ⟨C, e1, e2, e3, e4, e5⟩ := hT
  unfold cdA
  by_cases h : i < tl
  · skip
    rw [if_pos h]
    refine Ct.ofs (M := MX6_codeAt) (ls := [some _, some _]) (by decide +kernel) (by exact (Nat.le_of_ble_eq_true rfl)) (by rfl) (by rfl) (by rfl) ?_
    refine V_iload_n (q := 1) dX6_codeAt_0 rfl rfl ?_
    refine V_ifN_lt (q := 4) (tgt := 30) dX6_codeAt_1 (by decide) rfl (by omega) (fun h9 => by first | exact h9.elim | exact absurd h9 (by assumption) | (exfalso; omega)) (fun _ => ?_)
    refine V_iload_n (q := 5) dX6_codeAt_4 rfl rfl ?_
    refine V_aload_n (q := 6) dX6_codeAt_5 rfl rfl rfl ?_
    refine GX6_15 (q := 9) rfl dX6_codeAt_6 rfl (by first | assumption | exact up_eq | exact (up_ne (by omega)).trans (by first | assumption | exact up_eq | exact (up_ne (by omega)).trans (by first | assumption | exact up_eq | exact (up_ne (by omega)).trans (by first | assumption | exact up_eq)))) (by omega) (by rfl) ?_
    refine V_icmpN_ge (q := 12) (tgt := 30) dX6_codeAt_9 (by decide) rfl (by omega) (by omega) (fun h9 => by first | exact h9.elim | exact absurd h9 (by assumption) | (exfalso; omega)) (fun _ => ?_)
    refine V_iload_n (q := 13) dX6_codeAt_12 rfl rfl ?_
    refine V_aload_n (q := 14) dX6_codeAt_13 rfl rfl rfl ?_
    refine GX6_9 (q := 17) rfl dX6_codeAt_14 rfl (by first | assumption | exact up_eq | exact (up_ne (by omega)).trans (by first | assumption | exact up_eq | exact (up_ne (by omega)).trans (by first | assumption | exact up_eq | exact (up_ne (by omega)).trans (by first | assumption | exact up_eq)))) (by omega) (by rfl) ?_
    refine V_alenC (q := 18) dX6_codeAt_17 rfl (by first | assumption | exact up_eq | exact (up_ne (by omega)).trans (by first | assumption | exact up_eq | exact (up_ne (by omega)).trans (by first | assumption | exact up_eq | exact (up_ne (by omega)).trans (by first | assumption | exact up_eq)))) (by omega) ?_
    refine V_icmpN_ge (q := 21) (tgt := 30) dX6_codeAt_18 (by decide) rfl (by omega) (by omega) (fun h9 => by first | exact h9.elim | exact absurd h9 (by assumption) | (exfalso; omega)) (fun _ => ?_)
    refine V_aload_n (q := 22) dX6_codeAt_21 rfl rfl rfl ?_
    refine GX6_9 (q := 25) rfl dX6_codeAt_22 rfl (by first | assumption | exact up_eq | exact (up_ne (by omega)).trans (by first | assumption | exact up_eq | exact (up_ne (by omega)).trans (by first | assumption | exact up_eq | exact (up_ne (by omega)).trans (by first | assumption | exact up_eq)))) (by omega) (by rfl) ?_
    refine V_iload_n (q := 26) dX6_codeAt_25 rfl rfl ?_
    refine V_caldN (q := 27) dX6_codeAt_26 rfl (by first | assumption | exact up_eq | exact (up_ne (by omega)).trans (by first | assumption | exact up_eq | exact (up_ne (by omega)).trans (by first | assumption | exact up_eq | exact (up_ne (by omega)).trans (by first | assumption | exact up_eq)))) (by omega) (by omega) (by omega) rfl ((e5 i h).1) ?_
    refine V_goto (tgt := 31) dX6_codeAt_27 (by decide) ?_
    exact V_iret dX6_codeAt_31 rfl (Nat.le_of_ble_eq_true rfl) (Nat.le_of_ble_eq_true rfl) (⟨rfl, rfl, rfl⟩)
  · skip
    rw [if_neg h]
    refine Ct.ofs (M := MX6_codeAt) (ls := [some _, some _]) (by decide +kernel) (by exact (Nat.le_of_ble_eq_true rfl)) (by rfl) (by rfl) (by rfl) ?_
    refine V_iload_n (q := 1) dX6_codeAt_0 rfl rfl ?_
    refine V_ifN_lt (q := 4) (tgt := 30) dX6_codeAt_1 (by decide) rfl (by omega) (fun h9 => by first | exact h9.elim | exact absurd h9 (by assumption) | (exfalso; omega)) (fun _ => ?_)
    refine V_iload_n (q := 5) dX6_codeAt_4 rfl rfl ?_
    refine V_aload_n (q := 6) dX6_codeAt_5 rfl rfl rfl ?_
    refine GX6_15 (q := 9) rfl dX6_codeAt_6 rfl (by first | assumption | exact up_eq | exact (up_ne (by omega)).trans (by first | assumption | exact up_eq | exact (up_ne (by omega)).trans (by first | assumption | exact up_eq | exact (up_ne (by omega)).trans (by first | assumption | exact up_eq)))) (by omega) (by rfl) ?_
    refine V_icmpN_ge (q := 12) (tgt := 30) dX6_codeAt_9 (by decide) rfl (by omega) (by omega) (fun _ => ?_) (fun h9 => by first | exact h9.elim | (exfalso; omega))
    refine V_iconst (q := 31) (v := (-1)) dX6_codeAt_30 rfl (by decide) ?_
    exact V_iret dX6_codeAt_31 rfl (Nat.le_of_ble_eq_true rfl) (Nat.le_of_ble_eq_true rfl) (⟨rfl, rfl, rfl⟩)
theorem c_tdigit (hT : TxF g w n b tl t) {i : Nat} (hi : i < 2 ^ 31) : CtR g l MX6_digitAt 1 [rf g b, .int (nI i)] w n (.int (tI (dgA t tl i))) := by
  have hT0 := hT
  obtain ⟨C, e1, e2, e3, e4, e5⟩ := hT
  refine Ct.ofs (M := MX6_digitAt) (ls := [some _, some _, none]) (by decide +kernel) (by exact (Nat.le_of_ble_eq_true rfl)) (by rfl) (by rfl) (by rfl) ?_
  refine V_aload_n (q := 1) dX6_digitAt_0 rfl rfl rfl ?_
  refine V_iload_n (q := 2) dX6_digitAt_1 rfl rfl ?_
  refine CrX6_19 (q := 5) rfl dX6_digitAt_2 rfl (c_tcode hT0 hi) ⟨(Nat.le_of_ble_eq_true rfl), (Nat.le_of_ble_eq_true rfl)⟩ (Nat.le_of_ble_eq_true rfl) (by first | assumption | exact up_eq | exact (up_ne (by omega)).trans (by first | assumption | exact up_eq | exact (up_ne (by omega)).trans (by first | assumption | exact up_eq | exact (up_ne (by omega)).trans (by first | assumption | exact up_eq)))) (by omega) (Nat.zero_le _) (Nat.zero_le _) ?_
  by_cases h : i < tl
  · obtain ⟨a1, a2, a3⟩ := e5 i h
    refine V_topi (show tI (cdA t tl i) = nI (t i) by unfold cdA; rw [if_pos h]; rfl) ?_
    refine V_istore_n (q := 6) (ls' := [_, _, _]) dX6_digitAt_5 rfl (by decide) (by rfl) rfl ?_
    refine V_iload_n (q := 7) dX6_digitAt_6 rfl rfl ?_
    refine V_bipush (q := 9) (v := nI 48) dX6_digitAt_7 rfl (by decide) ?_
    refine V_icmpN_lt (q := 12) (tgt := 25) dX6_digitAt_9 (by decide) rfl (by omega) (by omega) (fun h1 => ?_) (fun h1 => ?_)
    · skip
      refine V_iconst (q := 26) (v := (-1)) dX6_digitAt_25 rfl (by decide) ?_
      exact V_iret dX6_digitAt_26 rfl (Nat.le_of_ble_eq_true rfl) (Nat.le_of_ble_eq_true rfl) (⟨rfl, by unfold dgA; rw [if_neg (by omega)]; rfl, rfl⟩)
    · skip
      refine V_iload_n (q := 13) dX6_digitAt_12 rfl rfl ?_
      refine V_bipush (q := 15) (v := nI 57) dX6_digitAt_13 rfl (by decide) ?_
      refine V_icmpN_gt (q := 18) (tgt := 25) dX6_digitAt_15 (by decide) rfl (by omega) (by omega) (fun h2 => ?_) (fun h2 => ?_)
      · skip
        refine V_iconst (q := 26) (v := (-1)) dX6_digitAt_25 rfl (by decide) ?_
        exact V_iret dX6_digitAt_26 rfl (Nat.le_of_ble_eq_true rfl) (Nat.le_of_ble_eq_true rfl) (⟨rfl, by unfold dgA; rw [if_neg (by omega)]; rfl, rfl⟩)
      · skip
        refine V_iload_n (q := 19) dX6_digitAt_18 rfl rfl ?_
        refine V_bipush (q := 21) (v := nI 48) dX6_digitAt_19 rfl (by decide) ?_
        refine V_isub (q := 22) dX6_digitAt_21 rfl (by first | exact pk_sub (by omega) | rfl) ?_
        refine V_goto (tgt := 26) dX6_digitAt_22 (by decide) ?_
        exact V_iret dX6_digitAt_26 rfl (Nat.le_of_ble_eq_true rfl) (Nat.le_of_ble_eq_true rfl) (⟨rfl, by unfold dgA; rw [if_pos ⟨h, h1, h2⟩]; rfl, rfl⟩)
  · skip
    refine V_topi (show tI (cdA t tl i) = -1 by unfold cdA; rw [if_neg h]; rfl) ?_
    refine V_istore_n (q := 6) (ls' := [_, _, _]) dX6_digitAt_5 rfl (by decide) (by rfl) rfl ?_
    refine V_iload_n (q := 7) dX6_digitAt_6 rfl rfl ?_
    refine V_bipush (q := 9) (v := nI 48) dX6_digitAt_7 rfl (by decide) ?_
    refine V_icmp_lt (q := 12) (tgt := 25) dX6_digitAt_9 (by decide) rfl (fun _ => ?_) (fun h9 => absurd (by decide) h9)
    refine V_iconst (q := 26) (v := (-1)) dX6_digitAt_25 rfl (by decide) ?_
    exact V_iret dX6_digitAt_26 rfl (Nat.le_of_ble_eq_true rfl) (Nat.le_of_ble_eq_true rfl) (⟨rfl, by unfold dgA; rw [if_neg (by omega)]; rfl, rfl⟩)
theorem c_tdigits (hT : TxF g w n b tl t) {s m : Nat} (hs : s < 1000) (hm : m ≤ 8) : CtR g l MX6_digitsFrom 2 [rf g b, .int (nI s), .int (nI m)] w n (.int (nI (dgs t tl s m))) := by
  have hT0 := hT
  obtain ⟨C, e1, e2, e3, e4, e5⟩ := hT
  refine Ct.ofs (M := MX6_digitsFrom) (ls := [some _, some _, some _, none]) (by decide +kernel) (by exact (Nat.le_of_ble_eq_true rfl)) (by rfl) (by rfl) (by rfl) ?_
  refine V_iconst (q := 1) (v := nI 0) dX6_digitsFrom_0 rfl (by decide) ?_
  refine V_istore_n (q := 2) (ls' := [_, _, _, _]) dX6_digitsFrom_1 rfl (by decide) (by rfl) rfl ?_
  have key : ∀ k, k ≤ m → (∀ i, i < k → dgA t tl (s + i) ≠ none) → V g l MX6_digitsFrom (rmd 2 0 0) (FinM g (qR (.int (nI (dgs t tl s m))) w n) 0 0) 2 [some (rf g b), some (.int (nI s)), some (.int (nI m)), some (.int (nI k))] [] (w) n 0 0 := by
    refine loopU (fun k => (∀ i, i < k → dgA t tl (s + i) ≠ none) → V g l MX6_digitsFrom (rmd 2 0 0) (FinM g (qR (.int (nI (dgs t tl s m))) w n) 0 0) 2 [some (rf g b), some (.int (nI s)), some (.int (nI m)), some (.int (nI k))] [] (w) n 0 0) m ?_ ?_
    · intro h1
      refine V_iload_n (q := 3) dX6_digitsFrom_2 rfl rfl ?_
      refine V_iload_n (q := 4) dX6_digitsFrom_3 rfl rfl ?_
      refine V_icmpN_ge (q := 7) (tgt := 24) dX6_digitsFrom_4 (by decide) rfl (by omega) (by omega) (fun _ => ?_) (fun h9 => by first | exact h9.elim | (exfalso; omega))
      refine V_iload_n (q := 25) dX6_digitsFrom_24 rfl rfl ?_
      exact V_iret dX6_digitsFrom_25 rfl (Nat.le_of_ble_eq_true rfl) (Nat.le_of_ble_eq_true rfl) (⟨rfl, by rw [dgs_is (Nat.le_refl m) h1 (fun z => absurd z (Nat.lt_irrefl m))], rfl⟩)
    · intro k hk ih h1
      refine V_iload_n (q := 3) dX6_digitsFrom_2 rfl rfl ?_
      refine V_iload_n (q := 4) dX6_digitsFrom_3 rfl rfl ?_
      refine V_icmpN_ge (q := 7) (tgt := 24) dX6_digitsFrom_4 (by decide) rfl (by omega) (by omega) (fun h9 => by first | exact h9.elim | exact absurd h9 (by assumption) | (exfalso; omega)) (fun _ => ?_)
      refine V_aload_n (q := 8) dX6_digitsFrom_7 rfl rfl rfl ?_
      refine V_iload_n (q := 9) dX6_digitsFrom_8 rfl rfl ?_
      refine V_iload_n (q := 10) dX6_digitsFrom_9 rfl rfl ?_
      refine V_iadd (q := 11) dX6_digitsFrom_10 rfl (by first | exact nI_add _ _ | rfl) ?_
      refine CrX6_23 (q := 14) rfl dX6_digitsFrom_11 rfl (c_tdigit hT0 (by omega)) ⟨(Nat.le_of_ble_eq_true rfl), (Nat.le_of_ble_eq_true rfl)⟩ (Nat.le_of_ble_eq_true rfl) (by first | assumption | exact up_eq | exact (up_ne (by omega)).trans (by first | assumption | exact up_eq | exact (up_ne (by omega)).trans (by first | assumption | exact up_eq | exact (up_ne (by omega)).trans (by first | assumption | exact up_eq)))) (by omega) (Nat.zero_le _) (Nat.zero_le _) ?_
      cases hd : dgA t tl (s + k) with
      | none =>
        refine V_iconst (q := 15) (v := (-1)) dX6_digitsFrom_14 rfl (by decide) ?_
        refine V_icmp_eq (q := 18) (tgt := 24) dX6_digitsFrom_15 (by decide) rfl (fun _ => ?_) (fun h9 => absurd rfl h9)
        refine V_iload_n (q := 25) dX6_digitsFrom_24 rfl rfl ?_
        exact V_iret dX6_digitsFrom_25 rfl (Nat.le_of_ble_eq_true rfl) (Nat.le_of_ble_eq_true rfl) (⟨rfl, by rw [dgs_is (by omega) h1 (fun _ => hd)], rfl⟩)
      | some d =>
        have hd9 : d < 2 ^ 31 := by
          unfold dgA at hd
          split at hd
          next q => cases hd; omega
          next => cases hd
        refine V_iconst (q := 15) (v := (-1)) dX6_digitsFrom_14 rfl (by decide) ?_
        refine V_icmp_eq (q := 18) (tgt := 24) dX6_digitsFrom_15 (by decide) rfl (fun h9 => absurd h9 (nI_m1 hd9)) (fun _ => ?_)
        refine V_iinc (q := 21) (ls' := [_, _, _, _]) dX6_digitsFrom_18 rfl (by decide) (by rfl) rfl (by first | exact inc1 _ | rfl) rfl ?_
        refine V_goto (tgt := 2) dX6_digitsFrom_21 (by decide) ?_
        refine ih fun i hi => ?_
        rcases Nat.lt_or_ge i k with q | q
        · exact h1 i q
        · obtain rfl : i = k := by omega
          rw [hd]
          exact fun z => by cases z
  exact key 0 (Nat.zero_le _) (fun i hi => absurd hi (Nat.not_lt_zero i))
theorem c_twant {o : Option Nat} (ho : ∀ q, o = some q → q ≤ 126) : CtR g l MX6_digitsBehind 0 [.int (tI o)] w n (.int (nI (wantA o))) := by
  cases o with
  | none =>
    refine Ct.ofs (M := MX6_digitsBehind) (ls := [some _]) (by decide +kernel) (by exact (Nat.le_of_ble_eq_true rfl)) (by rfl) (by rfl) (by rfl) ?_
    refine V_iload_n (q := 1) dX6_digitsBehind_0 rfl rfl ?_
    refine V_tabOut (tgt := 112) dX6_digitsBehind_1 (Or.inl (by decide)) (by decide) ?_
    refine V_iconst (q := 113) (v := nI 0) dX6_digitsBehind_112 rfl (by decide) ?_
    exact V_iret dX6_digitsBehind_113 rfl (Nat.le_of_ble_eq_true rfl) (Nat.le_of_ble_eq_true rfl) (⟨rfl, rfl, rfl⟩)
  | some q =>
    have hq := ho q rfl
    by_cases h : 98 ≤ q ∧ q ≤ 120
    · rcases (by omega : q = 98 ∨ q = 99 ∨ q = 100 ∨ q = 101 ∨ q = 102 ∨ q = 103 ∨ q = 104 ∨ q = 105 ∨ q = 106 ∨ q = 107 ∨ q = 108 ∨ q = 109 ∨ q = 110 ∨ q = 111 ∨ q = 112 ∨ q = 113 ∨ q = 114 ∨ q = 115 ∨ q = 116 ∨ q = 117 ∨ q = 118 ∨ q = 119 ∨ q = 120) with rfl | rfl | rfl | rfl | rfl | rfl | rfl | rfl | rfl | rfl | rfl | rfl | rfl | rfl | rfl | rfl | rfl | rfl | rfl | rfl | rfl | rfl | rfl
      · skip
        refine Ct.ofs (M := MX6_digitsBehind) (ls := [some _]) (by decide +kernel) (by exact (Nat.le_of_ble_eq_true rfl)) (by rfl) (by rfl) (by rfl) ?_
        refine V_iload_n (q := 1) dX6_digitsBehind_0 rfl rfl ?_
        refine V_tabIn (off := 107) (tgt := 108) dX6_digitsBehind_1 (by decide) (by decide) (by decide) (by decide) ?_
        refine V_iconst (q := 109) (v := nI 1) dX6_digitsBehind_108 rfl (by decide) ?_
        exact V_iret dX6_digitsBehind_109 rfl (Nat.le_of_ble_eq_true rfl) (Nat.le_of_ble_eq_true rfl) (⟨rfl, rfl, rfl⟩)
      · skip
        refine Ct.ofs (M := MX6_digitsBehind) (ls := [some _]) (by decide +kernel) (by exact (Nat.le_of_ble_eq_true rfl)) (by rfl) (by rfl) (by rfl) ?_
        refine V_iload_n (q := 1) dX6_digitsBehind_0 rfl rfl ?_
        refine V_tabIn (off := 107) (tgt := 108) dX6_digitsBehind_1 (by decide) (by decide) (by decide) (by decide) ?_
        refine V_iconst (q := 109) (v := nI 1) dX6_digitsBehind_108 rfl (by decide) ?_
        exact V_iret dX6_digitsBehind_109 rfl (Nat.le_of_ble_eq_true rfl) (Nat.le_of_ble_eq_true rfl) (⟨rfl, rfl, rfl⟩)
      · skip
        refine Ct.ofs (M := MX6_digitsBehind) (ls := [some _]) (by decide +kernel) (by exact (Nat.le_of_ble_eq_true rfl)) (by rfl) (by rfl) (by rfl) ?_
        refine V_iload_n (q := 1) dX6_digitsBehind_0 rfl rfl ?_
        refine V_tabIn (off := 111) (tgt := 112) dX6_digitsBehind_1 (by decide) (by decide) (by decide) (by decide) ?_
        refine V_iconst (q := 113) (v := nI 0) dX6_digitsBehind_112 rfl (by decide) ?_
        exact V_iret dX6_digitsBehind_113 rfl (Nat.le_of_ble_eq_true rfl) (Nat.le_of_ble_eq_true rfl) (⟨rfl, rfl, rfl⟩)
      · skip
        refine Ct.ofs (M := MX6_digitsBehind) (ls := [some _]) (by decide +kernel) (by exact (Nat.le_of_ble_eq_true rfl)) (by rfl) (by rfl) (by rfl) ?_
        refine V_iload_n (q := 1) dX6_digitsBehind_0 rfl rfl ?_
        refine V_tabIn (off := 111) (tgt := 112) dX6_digitsBehind_1 (by decide) (by decide) (by decide) (by decide) ?_
        refine V_iconst (q := 113) (v := nI 0) dX6_digitsBehind_112 rfl (by decide) ?_
        exact V_iret dX6_digitsBehind_113 rfl (Nat.le_of_ble_eq_true rfl) (Nat.le_of_ble_eq_true rfl) (⟨rfl, rfl, rfl⟩)
      · skip
        refine Ct.ofs (M := MX6_digitsBehind) (ls := [some _]) (by decide +kernel) (by exact (Nat.le_of_ble_eq_true rfl)) (by rfl) (by rfl) (by rfl) ?_
        refine V_iload_n (q := 1) dX6_digitsBehind_0 rfl rfl ?_
        refine V_tabIn (off := 111) (tgt := 112) dX6_digitsBehind_1 (by decide) (by decide) (by decide) (by decide) ?_
        refine V_iconst (q := 113) (v := nI 0) dX6_digitsBehind_112 rfl (by decide) ?_
        exact V_iret dX6_digitsBehind_113 rfl (Nat.le_of_ble_eq_true rfl) (Nat.le_of_ble_eq_true rfl) (⟨rfl, rfl, rfl⟩)
      · skip
        refine Ct.ofs (M := MX6_digitsBehind) (ls := [some _]) (by decide +kernel) (by exact (Nat.le_of_ble_eq_true rfl)) (by rfl) (by rfl) (by rfl) ?_
        refine V_iload_n (q := 1) dX6_digitsBehind_0 rfl rfl ?_
        refine V_tabIn (off := 111) (tgt := 112) dX6_digitsBehind_1 (by decide) (by decide) (by decide) (by decide) ?_
        refine V_iconst (q := 113) (v := nI 0) dX6_digitsBehind_112 rfl (by decide) ?_
        exact V_iret dX6_digitsBehind_113 rfl (Nat.le_of_ble_eq_true rfl) (Nat.le_of_ble_eq_true rfl) (⟨rfl, rfl, rfl⟩)
      · skip
        refine Ct.ofs (M := MX6_digitsBehind) (ls := [some _]) (by decide +kernel) (by exact (Nat.le_of_ble_eq_true rfl)) (by rfl) (by rfl) (by rfl) ?_
        refine V_iload_n (q := 1) dX6_digitsBehind_0 rfl rfl ?_
        refine V_tabIn (off := 111) (tgt := 112) dX6_digitsBehind_1 (by decide) (by decide) (by decide) (by decide) ?_
        refine V_iconst (q := 113) (v := nI 0) dX6_digitsBehind_112 rfl (by decide) ?_
        exact V_iret dX6_digitsBehind_113 rfl (Nat.le_of_ble_eq_true rfl) (Nat.le_of_ble_eq_true rfl) (⟨rfl, rfl, rfl⟩)
      · skip
        refine Ct.ofs (M := MX6_digitsBehind) (ls := [some _]) (by decide +kernel) (by exact (Nat.le_of_ble_eq_true rfl)) (by rfl) (by rfl) (by rfl) ?_
        refine V_iload_n (q := 1) dX6_digitsBehind_0 rfl rfl ?_
        refine V_tabIn (off := 111) (tgt := 112) dX6_digitsBehind_1 (by decide) (by decide) (by decide) (by decide) ?_
        refine V_iconst (q := 113) (v := nI 0) dX6_digitsBehind_112 rfl (by decide) ?_
        exact V_iret dX6_digitsBehind_113 rfl (Nat.le_of_ble_eq_true rfl) (Nat.le_of_ble_eq_true rfl) (⟨rfl, rfl, rfl⟩)
      · skip
        refine Ct.ofs (M := MX6_digitsBehind) (ls := [some _]) (by decide +kernel) (by exact (Nat.le_of_ble_eq_true rfl)) (by rfl) (by rfl) (by rfl) ?_
        refine V_iload_n (q := 1) dX6_digitsBehind_0 rfl rfl ?_
        refine V_tabIn (off := 107) (tgt := 108) dX6_digitsBehind_1 (by decide) (by decide) (by decide) (by decide) ?_
        refine V_iconst (q := 109) (v := nI 1) dX6_digitsBehind_108 rfl (by decide) ?_
        exact V_iret dX6_digitsBehind_109 rfl (Nat.le_of_ble_eq_true rfl) (Nat.le_of_ble_eq_true rfl) (⟨rfl, rfl, rfl⟩)
      · skip
        refine Ct.ofs (M := MX6_digitsBehind) (ls := [some _]) (by decide +kernel) (by exact (Nat.le_of_ble_eq_true rfl)) (by rfl) (by rfl) (by rfl) ?_
        refine V_iload_n (q := 1) dX6_digitsBehind_0 rfl rfl ?_
        refine V_tabIn (off := 111) (tgt := 112) dX6_digitsBehind_1 (by decide) (by decide) (by decide) (by decide) ?_
        refine V_iconst (q := 113) (v := nI 0) dX6_digitsBehind_112 rfl (by decide) ?_
        exact V_iret dX6_digitsBehind_113 rfl (Nat.le_of_ble_eq_true rfl) (Nat.le_of_ble_eq_true rfl) (⟨rfl, rfl, rfl⟩)
      · skip
        refine Ct.ofs (M := MX6_digitsBehind) (ls := [some _]) (by decide +kernel) (by exact (Nat.le_of_ble_eq_true rfl)) (by rfl) (by rfl) (by rfl) ?_
        refine V_iload_n (q := 1) dX6_digitsBehind_0 rfl rfl ?_
        refine V_tabIn (off := 107) (tgt := 108) dX6_digitsBehind_1 (by decide) (by decide) (by decide) (by decide) ?_
        refine V_iconst (q := 109) (v := nI 1) dX6_digitsBehind_108 rfl (by decide) ?_
        exact V_iret dX6_digitsBehind_109 rfl (Nat.le_of_ble_eq_true rfl) (Nat.le_of_ble_eq_true rfl) (⟨rfl, rfl, rfl⟩)
      · skip
        refine Ct.ofs (M := MX6_digitsBehind) (ls := [some _]) (by decide +kernel) (by exact (Nat.le_of_ble_eq_true rfl)) (by rfl) (by rfl) (by rfl) ?_
        refine V_iload_n (q := 1) dX6_digitsBehind_0 rfl rfl ?_
        refine V_tabIn (off := 111) (tgt := 112) dX6_digitsBehind_1 (by decide) (by decide) (by decide) (by decide) ?_
        refine V_iconst (q := 113) (v := nI 0) dX6_digitsBehind_112 rfl (by decide) ?_
        exact V_iret dX6_digitsBehind_113 rfl (Nat.le_of_ble_eq_true rfl) (Nat.le_of_ble_eq_true rfl) (⟨rfl, rfl, rfl⟩)
      · skip
        refine Ct.ofs (M := MX6_digitsBehind) (ls := [some _]) (by decide +kernel) (by exact (Nat.le_of_ble_eq_true rfl)) (by rfl) (by rfl) (by rfl) ?_
        refine V_iload_n (q := 1) dX6_digitsBehind_0 rfl rfl ?_
        refine V_tabIn (off := 111) (tgt := 112) dX6_digitsBehind_1 (by decide) (by decide) (by decide) (by decide) ?_
        refine V_iconst (q := 113) (v := nI 0) dX6_digitsBehind_112 rfl (by decide) ?_
        exact V_iret dX6_digitsBehind_113 rfl (Nat.le_of_ble_eq_true rfl) (Nat.le_of_ble_eq_true rfl) (⟨rfl, rfl, rfl⟩)
      · skip
        refine Ct.ofs (M := MX6_digitsBehind) (ls := [some _]) (by decide +kernel) (by exact (Nat.le_of_ble_eq_true rfl)) (by rfl) (by rfl) (by rfl) ?_
        refine V_iload_n (q := 1) dX6_digitsBehind_0 rfl rfl ?_
        refine V_tabIn (off := 111) (tgt := 112) dX6_digitsBehind_1 (by decide) (by decide) (by decide) (by decide) ?_
        refine V_iconst (q := 113) (v := nI 0) dX6_digitsBehind_112 rfl (by decide) ?_
        exact V_iret dX6_digitsBehind_113 rfl (Nat.le_of_ble_eq_true rfl) (Nat.le_of_ble_eq_true rfl) (⟨rfl, rfl, rfl⟩)
      · skip
        refine Ct.ofs (M := MX6_digitsBehind) (ls := [some _]) (by decide +kernel) (by exact (Nat.le_of_ble_eq_true rfl)) (by rfl) (by rfl) (by rfl) ?_
        refine V_iload_n (q := 1) dX6_digitsBehind_0 rfl rfl ?_
        refine V_tabIn (off := 111) (tgt := 112) dX6_digitsBehind_1 (by decide) (by decide) (by decide) (by decide) ?_
        refine V_iconst (q := 113) (v := nI 0) dX6_digitsBehind_112 rfl (by decide) ?_
        exact V_iret dX6_digitsBehind_113 rfl (Nat.le_of_ble_eq_true rfl) (Nat.le_of_ble_eq_true rfl) (⟨rfl, rfl, rfl⟩)
      · skip
        refine Ct.ofs (M := MX6_digitsBehind) (ls := [some _]) (by decide +kernel) (by exact (Nat.le_of_ble_eq_true rfl)) (by rfl) (by rfl) (by rfl) ?_
        refine V_iload_n (q := 1) dX6_digitsBehind_0 rfl rfl ?_
        refine V_tabIn (off := 111) (tgt := 112) dX6_digitsBehind_1 (by decide) (by decide) (by decide) (by decide) ?_
        refine V_iconst (q := 113) (v := nI 0) dX6_digitsBehind_112 rfl (by decide) ?_
        exact V_iret dX6_digitsBehind_113 rfl (Nat.le_of_ble_eq_true rfl) (Nat.le_of_ble_eq_true rfl) (⟨rfl, rfl, rfl⟩)
      · skip
        refine Ct.ofs (M := MX6_digitsBehind) (ls := [some _]) (by decide +kernel) (by exact (Nat.le_of_ble_eq_true rfl)) (by rfl) (by rfl) (by rfl) ?_
        refine V_iload_n (q := 1) dX6_digitsBehind_0 rfl rfl ?_
        refine V_tabIn (off := 107) (tgt := 108) dX6_digitsBehind_1 (by decide) (by decide) (by decide) (by decide) ?_
        refine V_iconst (q := 109) (v := nI 1) dX6_digitsBehind_108 rfl (by decide) ?_
        exact V_iret dX6_digitsBehind_109 rfl (Nat.le_of_ble_eq_true rfl) (Nat.le_of_ble_eq_true rfl) (⟨rfl, rfl, rfl⟩)
      · skip
        refine Ct.ofs (M := MX6_digitsBehind) (ls := [some _]) (by decide +kernel) (by exact (Nat.le_of_ble_eq_true rfl)) (by rfl) (by rfl) (by rfl) ?_
        refine V_iload_n (q := 1) dX6_digitsBehind_0 rfl rfl ?_
        refine V_tabIn (off := 109) (tgt := 110) dX6_digitsBehind_1 (by decide) (by decide) (by decide) (by decide) ?_
        refine V_iconst (q := 111) (v := nI 3) dX6_digitsBehind_110 rfl (by decide) ?_
        exact V_iret dX6_digitsBehind_111 rfl (Nat.le_of_ble_eq_true rfl) (Nat.le_of_ble_eq_true rfl) (⟨rfl, rfl, rfl⟩)
      · skip
        refine Ct.ofs (M := MX6_digitsBehind) (ls := [some _]) (by decide +kernel) (by exact (Nat.le_of_ble_eq_true rfl)) (by rfl) (by rfl) (by rfl) ?_
        refine V_iload_n (q := 1) dX6_digitsBehind_0 rfl rfl ?_
        refine V_tabIn (off := 107) (tgt := 108) dX6_digitsBehind_1 (by decide) (by decide) (by decide) (by decide) ?_
        refine V_iconst (q := 109) (v := nI 1) dX6_digitsBehind_108 rfl (by decide) ?_
        exact V_iret dX6_digitsBehind_109 rfl (Nat.le_of_ble_eq_true rfl) (Nat.le_of_ble_eq_true rfl) (⟨rfl, rfl, rfl⟩)
      · skip
        refine Ct.ofs (M := MX6_digitsBehind) (ls := [some _]) (by decide +kernel) (by exact (Nat.le_of_ble_eq_true rfl)) (by rfl) (by rfl) (by rfl) ?_
        refine V_iload_n (q := 1) dX6_digitsBehind_0 rfl rfl ?_
        refine V_tabIn (off := 111) (tgt := 112) dX6_digitsBehind_1 (by decide) (by decide) (by decide) (by decide) ?_
        refine V_iconst (q := 113) (v := nI 0) dX6_digitsBehind_112 rfl (by decide) ?_
        exact V_iret dX6_digitsBehind_113 rfl (Nat.le_of_ble_eq_true rfl) (Nat.le_of_ble_eq_true rfl) (⟨rfl, rfl, rfl⟩)
      · skip
        refine Ct.ofs (M := MX6_digitsBehind) (ls := [some _]) (by decide +kernel) (by exact (Nat.le_of_ble_eq_true rfl)) (by rfl) (by rfl) (by rfl) ?_
        refine V_iload_n (q := 1) dX6_digitsBehind_0 rfl rfl ?_
        refine V_tabIn (off := 111) (tgt := 112) dX6_digitsBehind_1 (by decide) (by decide) (by decide) (by decide) ?_
        refine V_iconst (q := 113) (v := nI 0) dX6_digitsBehind_112 rfl (by decide) ?_
        exact V_iret dX6_digitsBehind_113 rfl (Nat.le_of_ble_eq_true rfl) (Nat.le_of_ble_eq_true rfl) (⟨rfl, rfl, rfl⟩)
      · skip
        refine Ct.ofs (M := MX6_digitsBehind) (ls := [some _]) (by decide +kernel) (by exact (Nat.le_of_ble_eq_true rfl)) (by rfl) (by rfl) (by rfl) ?_
        refine V_iload_n (q := 1) dX6_digitsBehind_0 rfl rfl ?_
        refine V_tabIn (off := 111) (tgt := 112) dX6_digitsBehind_1 (by decide) (by decide) (by decide) (by decide) ?_
        refine V_iconst (q := 113) (v := nI 0) dX6_digitsBehind_112 rfl (by decide) ?_
        exact V_iret dX6_digitsBehind_113 rfl (Nat.le_of_ble_eq_true rfl) (Nat.le_of_ble_eq_true rfl) (⟨rfl, rfl, rfl⟩)
      · skip
        refine Ct.ofs (M := MX6_digitsBehind) (ls := [some _]) (by decide +kernel) (by exact (Nat.le_of_ble_eq_true rfl)) (by rfl) (by rfl) (by rfl) ?_
        refine V_iload_n (q := 1) dX6_digitsBehind_0 rfl rfl ?_
        refine V_tabIn (off := 107) (tgt := 108) dX6_digitsBehind_1 (by decide) (by decide) (by decide) (by decide) ?_
        refine V_iconst (q := 109) (v := nI 1) dX6_digitsBehind_108 rfl (by decide) ?_
        exact V_iret dX6_digitsBehind_109 rfl (Nat.le_of_ble_eq_true rfl) (Nat.le_of_ble_eq_true rfl) (⟨rfl, rfl, rfl⟩)
    · skip
      have h0 : wantA (some q) = 0 := by
        show wantN q = 0
        unfold wantN
        rw [if_neg (by omega), if_neg (by omega)]
      have hi : (nI q).toInt = (q : Int) := nI_toInt (by omega)
      rw [h0]
      refine Ct.ofs (M := MX6_digitsBehind) (ls := [some _]) (by decide +kernel) (by exact (Nat.le_of_ble_eq_true rfl)) (by rfl) (by rfl) (by rfl) ?_
      refine V_iload_n (q := 1) dX6_digitsBehind_0 rfl rfl ?_
      refine V_tabOut (tgt := 112) dX6_digitsBehind_1 (by show (nI q).toInt < 98 ∨ 120 < (nI q).toInt; omega) (by decide) ?_
      refine V_iconst (q := 113) (v := nI 0) dX6_digitsBehind_112 rfl (by decide) ?_
      exact V_iret dX6_digitsBehind_113 rfl (Nat.le_of_ble_eq_true rfl) (Nat.le_of_ble_eq_true rfl) (⟨rfl, rfl, rfl⟩)
theorem c_tend (hT : TxF g w n b tl t) {s e : Nat} (hse : s ≤ e) (he : e ≤ tl) (h1 : ∀ i, s ≤ i → i < e → t i ≠ 59) (h2 : e < tl → t e = 59) : CtR g l MX6_endOfCommand 1 [rf g b, .int (nI s)] w n (.int (nI e)) := by
  have hT0 := hT
  obtain ⟨C, e1, e2, e3, e4, e5⟩ := hT
  refine Ct.ofs (M := MX6_endOfCommand) (ls := [some _, some _, none]) (by decide +kernel) (by exact (Nat.le_of_ble_eq_true rfl)) (by rfl) (by rfl) (by rfl) ?_
  refine V_iload_n (q := 1) dX6_endOfCommand_0 rfl rfl ?_
  refine V_istore_n (q := 2) (ls' := [_, _, _]) dX6_endOfCommand_1 rfl (by decide) (by rfl) rfl ?_
  have key : ∀ i, i ≤ e → s ≤ i → V g l MX6_endOfCommand (rmd 1 0 0) (FinM g (qR (.int (nI e)) w n) 0 0) 2 [some (rf g b), some (.int (nI s)), some (.int (nI i))] [] (w) n 0 0 := by
    refine loopU (fun i => s ≤ i → V g l MX6_endOfCommand (rmd 1 0 0) (FinM g (qR (.int (nI e)) w n) 0 0) 2 [some (rf g b), some (.int (nI s)), some (.int (nI i))] [] (w) n 0 0) e ?_ ?_
    · intro _
      refine V_iload_n (q := 3) dX6_endOfCommand_2 rfl rfl ?_
      refine V_aload_n (q := 4) dX6_endOfCommand_3 rfl rfl rfl ?_
      refine GX6_15 (q := 7) rfl dX6_endOfCommand_4 rfl (by first | assumption | exact up_eq | exact (up_ne (by omega)).trans (by first | assumption | exact up_eq | exact (up_ne (by omega)).trans (by first | assumption | exact up_eq | exact (up_ne (by omega)).trans (by first | assumption | exact up_eq)))) (by omega) (by rfl) ?_
      refine V_icmpN_ge (q := 10) (tgt := 26) dX6_endOfCommand_7 (by decide) rfl (by omega) (by omega) (fun hc => ?_) (fun hc => ?_)
      · skip
        refine V_iload_n (q := 27) dX6_endOfCommand_26 rfl rfl ?_
        exact V_iret dX6_endOfCommand_27 rfl (Nat.le_of_ble_eq_true rfl) (Nat.le_of_ble_eq_true rfl) (⟨rfl, rfl, rfl⟩)
      · skip
        refine V_aload_n (q := 11) dX6_endOfCommand_10 rfl rfl rfl ?_
        refine V_iload_n (q := 12) dX6_endOfCommand_11 rfl rfl ?_
        refine CrX6_19 (q := 15) rfl dX6_endOfCommand_12 rfl (c_tcode hT0 (by omega)) ⟨(Nat.le_of_ble_eq_true rfl), (Nat.le_of_ble_eq_true rfl)⟩ (Nat.le_of_ble_eq_true rfl) (by first | assumption | exact up_eq | exact (up_ne (by omega)).trans (by first | assumption | exact up_eq | exact (up_ne (by omega)).trans (by first | assumption | exact up_eq | exact (up_ne (by omega)).trans (by first | assumption | exact up_eq)))) (by omega) (Nat.zero_le _) (Nat.zero_le _) ?_
        refine V_topi (show tI (cdA t tl e) = nI (t e) by unfold cdA; rw [if_pos hc]; rfl) ?_
        have := e5 e hc
        have := h2 hc
        refine V_bipush (q := 17) (v := nI 59) dX6_endOfCommand_15 rfl (by decide) ?_
        refine V_icmpN_eq (q := 20) (tgt := 26) dX6_endOfCommand_17 (by decide) rfl (by omega) (by omega) (fun _ => ?_) (fun h9 => by first | exact h9.elim | (exfalso; omega))
        refine V_iload_n (q := 27) dX6_endOfCommand_26 rfl rfl ?_
        exact V_iret dX6_endOfCommand_27 rfl (Nat.le_of_ble_eq_true rfl) (Nat.le_of_ble_eq_true rfl) (⟨rfl, rfl, rfl⟩)
    · intro i hi ih hsi
      have a1 := e5 i (by omega)
      have a2 := h1 i hsi hi
      refine V_iload_n (q := 3) dX6_endOfCommand_2 rfl rfl ?_
      refine V_aload_n (q := 4) dX6_endOfCommand_3 rfl rfl rfl ?_
      refine GX6_15 (q := 7) rfl dX6_endOfCommand_4 rfl (by first | assumption | exact up_eq | exact (up_ne (by omega)).trans (by first | assumption | exact up_eq | exact (up_ne (by omega)).trans (by first | assumption | exact up_eq | exact (up_ne (by omega)).trans (by first | assumption | exact up_eq)))) (by omega) (by rfl) ?_
      refine V_icmpN_ge (q := 10) (tgt := 26) dX6_endOfCommand_7 (by decide) rfl (by omega) (by omega) (fun h9 => by first | exact h9.elim | exact absurd h9 (by assumption) | (exfalso; omega)) (fun _ => ?_)
      refine V_aload_n (q := 11) dX6_endOfCommand_10 rfl rfl rfl ?_
      refine V_iload_n (q := 12) dX6_endOfCommand_11 rfl rfl ?_
      refine CrX6_19 (q := 15) rfl dX6_endOfCommand_12 rfl (c_tcode hT0 (by omega)) ⟨(Nat.le_of_ble_eq_true rfl), (Nat.le_of_ble_eq_true rfl)⟩ (Nat.le_of_ble_eq_true rfl) (by first | assumption | exact up_eq | exact (up_ne (by omega)).trans (by first | assumption | exact up_eq | exact (up_ne (by omega)).trans (by first | assumption | exact up_eq | exact (up_ne (by omega)).trans (by first | assumption | exact up_eq)))) (by omega) (Nat.zero_le _) (Nat.zero_le _) ?_
      refine V_topi (show tI (cdA t tl i) = nI (t i) by unfold cdA; rw [if_pos (by omega)]; rfl) ?_
      refine V_bipush (q := 17) (v := nI 59) dX6_endOfCommand_15 rfl (by decide) ?_
      refine V_icmpN_eq (q := 20) (tgt := 26) dX6_endOfCommand_17 (by decide) rfl (by omega) (by omega) (fun h9 => by first | exact h9.elim | exact absurd h9 (by assumption) | (exfalso; omega)) (fun _ => ?_)
      refine V_iinc (q := 23) (ls' := [_, _, _]) dX6_endOfCommand_20 rfl (by decide) (by rfl) rfl (by first | exact inc1 _ | rfl) rfl ?_
      refine V_goto (tgt := 2) dX6_endOfCommand_23 (by decide) ?_
      exact ih (by omega)
  exact key s hse (Nat.le_refl s)
theorem numN_lt {t : Nat → Nat} {s : Nat} : ∀ {k : Nat}, (∀ i, i < k → t (s + i) ≤ 57) → numN t s k < 10 ^ k
  | 0, _ => by show 0 < 10 ^ 0; decide
  | k + 1, h => by
    have a := numN_lt (t := t) (s := s) (k := k) (fun i hi => h i (by omega))
    have b := h k (by omega)
    rw [numN, Nat.pow_succ]
    omega
theorem c_tnumber (hT : TxF g w n b tl t) {s : Nat} (hs : s < 1000) : CtR g l MX6_numberAt 3 [rf g b, .int (nI s)] w n (.int (nI (numN t s (dgs t tl s 8)))) := by
  have hT0 := hT
  obtain ⟨C, e1, e2, e3, e4, e5⟩ := hT
  have hd8 := dgs_le t tl s 8
  refine Ct.ofs (M := MX6_numberAt) (ls := [some _, some _, none, none, none]) (by decide +kernel) (by exact (Nat.le_of_ble_eq_true rfl)) (by rfl) (by rfl) (by rfl) ?_
  refine V_iconst (q := 1) (v := nI 0) dX6_numberAt_0 rfl (by decide) ?_
  refine V_istore_n (q := 2) (ls' := [_, _, _, _, _]) dX6_numberAt_1 rfl (by decide) (by rfl) rfl ?_
  refine V_aload_n (q := 3) dX6_numberAt_2 rfl rfl rfl ?_
  refine V_iload_n (q := 4) dX6_numberAt_3 rfl rfl ?_
  refine V_bipush (q := 6) (v := nI 8) dX6_numberAt_4 rfl (by decide) ?_
  refine CrX6_29 (q := 9) rfl dX6_numberAt_6 rfl (c_tdigits hT0 hs (Nat.le_refl 8)) ⟨(Nat.le_of_ble_eq_true rfl), (Nat.le_of_ble_eq_true rfl)⟩ (Nat.le_of_ble_eq_true rfl) (by first | assumption | exact up_eq | exact (up_ne (by omega)).trans (by first | assumption | exact up_eq | exact (up_ne (by omega)).trans (by first | assumption | exact up_eq | exact (up_ne (by omega)).trans (by first | assumption | exact up_eq)))) (by omega) (Nat.zero_le _) (Nat.zero_le _) ?_
  refine V_istore_n (q := 10) (ls' := [_, _, _, _, _]) dX6_numberAt_9 rfl (by decide) (by rfl) rfl ?_
  refine V_iconst (q := 11) (v := nI 0) dX6_numberAt_10 rfl (by decide) ?_
  refine V_istore (q := 13) (ls' := [_, _, _, _, _]) dX6_numberAt_11 rfl (by decide) (by rfl) rfl ?_
  refine loopU (fun k => V g l MX6_numberAt (rmd 3 0 0) (FinM g (qR (.int (nI (numN t s (dgs t tl s 8)))) w n) 0 0) 13 [some (rf g b), some (.int (nI s)), some (.int (nI (numN t s k))), some (.int (nI (dgs t tl s 8))), some (.int (nI k))] [] (w) n 0 0) (dgs t tl s 8) ?_ ?_ 0 (Nat.zero_le _)
  · skip
    refine V_iload (q := 15) dX6_numberAt_13 rfl rfl ?_
    refine V_iload_n (q := 16) dX6_numberAt_15 rfl rfl ?_
    refine V_icmpN_ge (q := 19) (tgt := 39) dX6_numberAt_16 (by decide) rfl (by omega) (by omega) (fun _ => ?_) (fun h9 => by first | exact h9.elim | (exfalso; omega))
    refine V_iload_n (q := 40) dX6_numberAt_39 rfl rfl ?_
    exact V_iret dX6_numberAt_40 rfl (Nat.le_of_ble_eq_true rfl) (Nat.le_of_ble_eq_true rfl) (⟨rfl, rfl, rfl⟩)
  · intro k hk ih
    obtain ⟨q1, q2, q3, q4⟩ := dgs_dig hk
    refine V_iload (q := 15) dX6_numberAt_13 rfl rfl ?_
    refine V_iload_n (q := 16) dX6_numberAt_15 rfl rfl ?_
    refine V_icmpN_ge (q := 19) (tgt := 39) dX6_numberAt_16 (by decide) rfl (by omega) (by omega) (fun h9 => by first | exact h9.elim | exact absurd h9 (by assumption) | (exfalso; omega)) (fun _ => ?_)
    refine V_iload_n (q := 20) dX6_numberAt_19 rfl rfl ?_
    refine V_bipush (q := 22) (v := nI 10) dX6_numberAt_20 rfl (by decide) ?_
    refine V_imul (q := 23) dX6_numberAt_22 rfl (by first | exact pk_mul _ _ | rfl) ?_
    refine V_aload_n (q := 24) dX6_numberAt_23 rfl rfl rfl ?_
    refine V_iload_n (q := 25) dX6_numberAt_24 rfl rfl ?_
    refine V_iload (q := 27) dX6_numberAt_25 rfl rfl ?_
    refine V_iadd (q := 28) dX6_numberAt_27 rfl (by first | exact nI_add _ _ | rfl) ?_
    refine CrX6_23 (q := 31) rfl dX6_numberAt_28 rfl (c_tdigit hT0 (by omega)) ⟨(Nat.le_of_ble_eq_true rfl), (Nat.le_of_ble_eq_true rfl)⟩ (Nat.le_of_ble_eq_true rfl) (by first | assumption | exact up_eq | exact (up_ne (by omega)).trans (by first | assumption | exact up_eq | exact (up_ne (by omega)).trans (by first | assumption | exact up_eq | exact (up_ne (by omega)).trans (by first | assumption | exact up_eq)))) (by omega) (Nat.zero_le _) (Nat.zero_le _) ?_
    refine V_topi (show tI (dgA t tl (s + k)) = nI (t (s + k) - 48) by rw [q4]; rfl) ?_
    refine V_iadd (q := 32) dX6_numberAt_31 rfl (by first | exact nI_add _ _ | rfl) ?_
    refine V_istore_n (q := 33) (ls' := [_, _, _, _, _]) dX6_numberAt_32 rfl (by decide) (by rfl) rfl ?_
    refine V_iinc (q := 36) (ls' := [_, _, _, _, _]) dX6_numberAt_33 rfl (by decide) (by rfl) rfl (by first | exact inc1 _ | rfl) rfl ?_
    refine V_goto (tgt := 13) dX6_numberAt_36 (by decide) ?_
    exact ih
/-- the refusals' object -/
abbrev rfs (r : Int32 × Int32 × Int32 × Int32) : List Value := [.int r.1, .int r.2.1, .int r.2.2.1, .int r.2.2.2]
theorem c_refuse {r : Int32 × Int32 × Int32 × Int32} (h : w b = eO 3 (rfs r)) (hb : b < n) {x y : Int32} : CtI g l MX3_refuse 0 [rf g b, .int x, .int y] w n (fun z w' => z = -3 ∧ w' = va_up w b (eO 3 (rfs (x, y, r.2.2.2, r.2.2.2)))) := by
  refine Ct.ofs (M := MX3_refuse) (ls := [some _, some _, some _]) (by decide +kernel) (by exact (Nat.le_of_ble_eq_true rfl)) (by rfl) (by rfl) (by rfl) ?_
  refine V_aload_n (q := 1) dX3_refuse_0 rfl rfl rfl ?_
  refine V_iload_n (q := 2) dX3_refuse_1 rfl rfl ?_
  refine PX3_15 (q := 5) (fs' := [_, _, _, _]) rfl dX3_refuse_2 rfl (by first | assumption | exact up_eq | exact (up_ne (by omega)).trans (by first | assumption | exact up_eq | exact (up_ne (by omega)).trans (by first | assumption | exact up_eq | exact (up_ne (by omega)).trans (by first | assumption | exact up_eq)))) (by omega) (by exact (Nat.le_of_ble_eq_true rfl)) (by rfl) ?_
  try rw [up_up]
  refine V_aload_n (q := 6) dX3_refuse_5 rfl rfl rfl ?_
  refine V_iload_n (q := 7) dX3_refuse_6 rfl rfl ?_
  refine PX3_18 (q := 10) (fs' := [_, _, _, _]) rfl dX3_refuse_7 rfl (by first | assumption | exact up_eq | exact (up_ne (by omega)).trans (by first | assumption | exact up_eq | exact (up_ne (by omega)).trans (by first | assumption | exact up_eq | exact (up_ne (by omega)).trans (by first | assumption | exact up_eq)))) (by omega) (by exact (Nat.le_of_ble_eq_true rfl)) (by rfl) ?_
  try rw [up_up]
  refine V_aload_n (q := 11) dX3_refuse_10 rfl rfl rfl ?_
  refine V_aload_n (q := 12) dX3_refuse_11 rfl rfl rfl ?_
  refine GX3_9 (q := 15) rfl dX3_refuse_12 rfl (by first | assumption | exact up_eq | exact (up_ne (by omega)).trans (by first | assumption | exact up_eq | exact (up_ne (by omega)).trans (by first | assumption | exact up_eq | exact (up_ne (by omega)).trans (by first | assumption | exact up_eq)))) (by omega) (by rfl) ?_
  refine PX3_21 (q := 18) (fs' := [_, _, _, _]) rfl dX3_refuse_15 rfl (by first | assumption | exact up_eq | exact (up_ne (by omega)).trans (by first | assumption | exact up_eq | exact (up_ne (by omega)).trans (by first | assumption | exact up_eq | exact (up_ne (by omega)).trans (by first | assumption | exact up_eq)))) (by omega) (by exact (Nat.le_of_ble_eq_true rfl)) (by rfl) ?_
  try rw [up_up]
  refine V_bipush (q := 20) (v := (-3)) dX3_refuse_18 rfl (by decide) ?_
  exact V_iret dX3_refuse_20 rfl (Nat.le_of_ble_eq_true rfl) (Nat.le_of_ble_eq_true rfl) (⟨rfl, _, rfl, rfl, rfl⟩)
end SMALL
