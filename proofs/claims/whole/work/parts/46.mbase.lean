/-! the model: what changes -/
theorem RN.cong {F F' : Nat → Int32} {N : StT} (h : RN F N) (hc : ∀ k, k < 63 → F' k = F k) : RN F' N := by
  obtain ⟨⟨f0, f1, f2, f3, f4, f5, f6, f7, f8⟩, hr, hN, hS, hB⟩ := h
  refine ⟨⟨(hc 0 (by decide)).trans f0, (hc 1 (by decide)).trans f1, (hc 2 (by decide)).trans f2, (hc 3 (by decide)).trans f3, (hc 4 (by decide)).trans f4, (hc 5 (by decide)).trans f5, (hc 6 (by decide)).trans f6, (hc 7 (by decide)).trans f7, (hc 8 (by decide)).trans f8⟩, fun i hi => ?_, hN, hS, hB⟩
  have h6 := hN.1
  have h8 := (hN.2 i hi).2.1
  exact ⟨(hc _ (by omega)).trans (hr i hi).1, fun j hj => (hc _ (by omega)).trans ((hr i hi).2 j hj)⟩
def HR (pk : Nat) (Hf : Nat → Nat → Int32) (Hs : Nat → StT) : Prop := ∀ i, i < pk → RN (Hf (pk - 1 - i)) (Hs i)
def MHi (g : GG) (w : HW) (p : Nat) (Hf : Nat → Nat → Int32) : Prop := (∃ G : Nat → Option Nat, w (p + 4) = eA g 8 G ∧ ∀ k, k < 8 → G k = some (g.1 + (p + 5 + k))) ∧ ∀ k, k < 8 → w (p + 5 + k) = eI g 63 (Hf k)
def MBd (g : GG) (w : HW) (n p : Nat) (K : MS) (F Fs Fb : Nat → Int32) (pk : Nat) (Hs : Nat → StT) (C T : Nat → Int32) : Prop := w p = eO 8 (mfs g p K) ∧ w (p + 1) = eI g 63 F ∧ w (p + 2) = eI g 63 Fs ∧ w (p + 3) = eI g 63 Fb ∧ (∃ Hf, MHi g w p Hf ∧ HR pk Hf Hs) ∧ (∃ Q P B J, w (p + 13) = eI g 512 Q ∧ w (p + 14) = eI g 512 P ∧ w (p + 15) = eI g 512 B ∧ w (p + 16) = eI g 512 J) ∧ w (p + 17) = eC g 600 C ∧ w (p + 18) = eI g 70 T ∧ p + 19 ≤ n ∧ kKp K = nI pk ∧ pk ≤ 8
def FrM (w w' : HW) (p : Nat) : Prop := ∀ i, (i < p ∨ p + 19 ≤ i) → w' i = w i
def setKp (K : MS) (x : Int32) : MS := (x, kRe K, kDe K, kIT K, kCm K, kSv K, kIn K, kLn K, kWr K, kRd K, kAt K, kWh K, kOn K, kOt K, kTh K, kWg K)
def setRf (K : MS) (a b c : Int32) : MS := (kKp K, a, b, c, kCm K, kSv K, kIn K, kLn K, kWr K, kRd K, kAt K, kWh K, kOn K, kOt K, kTh K, kWg K)
section MB
variable {g : GG} {l : Launch} {w : HW} {n p : Nat} {K : MS} {F Fs Fb : Nat → Int32} {pk : Nat} {Hs : Nat → StT} {C T : Nat → Int32} {N : StT}
theorem FrM.rf : FrM w w p := fun _ _ => rfl
theorem FrM.tr {w1 w2 : HW} (h : FrM w w1 p) (h2 : FrM w1 w2 p) : FrM w w2 p := fun i hi => (h2 i hi).trans (h i hi)
theorem MHi.frame {w' : HW} {Hf : Nat → Nat → Int32} (h : MHi g w p Hf) (hw : ∀ i, p + 4 ≤ i → i < p + 13 → w' i = w i) : MHi g w' p Hf := by
  obtain ⟨⟨G, h1, h2⟩, h3⟩ := h
  exact ⟨⟨G, (hw _ (by omega) (by omega)).trans h1, h2⟩, fun k hk => (hw _ (by omega) (by omega)).trans (h3 k hk)⟩
/-- the numbers now written anew -/
theorem MBd.now {F' : Nat → Int32} (h : MBd g w n p K F Fs Fb pk Hs C T) : MBd g (va_up w (p + 1) (eI g 63 F')) n p K F' Fs Fb pk Hs C T ∧ FrM w (va_up w (p + 1) (eI g 63 F')) p := by
  obtain ⟨h0, h1, h2, h3, ⟨Hf, h4, h5⟩, ⟨Q, P, B, J, q1, q2, q3, q4⟩, h7, h8, h9, h10, h11⟩ := h
  exact ⟨⟨(up_ne (by omega)).trans h0, up_eq, (up_ne (by omega)).trans h2, (up_ne (by omega)).trans h3, ⟨Hf, h4.frame (fun i _ _ => up_ne (by omega)), h5⟩, ⟨Q, P, B, J, (up_ne (by omega)).trans q1, (up_ne (by omega)).trans q2, (up_ne (by omega)).trans q3, (up_ne (by omega)).trans q4⟩, (up_ne (by omega)).trans h7, (up_ne (by omega)).trans h8, h9, h10, h11⟩, fun i hi => up_ne (by omega)⟩
theorem MBd.sav {F' : Nat → Int32} (h : MBd g w n p K F Fs Fb pk Hs C T) : MBd g (va_up w (p + 2) (eI g 63 F')) n p K F F' Fb pk Hs C T ∧ FrM w (va_up w (p + 2) (eI g 63 F')) p := by
  obtain ⟨h0, h1, h2, h3, ⟨Hf, h4, h5⟩, ⟨Q, P, B, J, q1, q2, q3, q4⟩, h7, h8, h9, h10, h11⟩ := h
  exact ⟨⟨(up_ne (by omega)).trans h0, (up_ne (by omega)).trans h1, up_eq, (up_ne (by omega)).trans h3, ⟨Hf, h4.frame (fun i _ _ => up_ne (by omega)), h5⟩, ⟨Q, P, B, J, (up_ne (by omega)).trans q1, (up_ne (by omega)).trans q2, (up_ne (by omega)).trans q3, (up_ne (by omega)).trans q4⟩, (up_ne (by omega)).trans h7, (up_ne (by omega)).trans h8, h9, h10, h11⟩, fun i hi => up_ne (by omega)⟩
theorem MBd.bef {F' : Nat → Int32} (h : MBd g w n p K F Fs Fb pk Hs C T) : MBd g (va_up w (p + 3) (eI g 63 F')) n p K F Fs F' pk Hs C T ∧ FrM w (va_up w (p + 3) (eI g 63 F')) p := by
  obtain ⟨h0, h1, h2, h3, ⟨Hf, h4, h5⟩, ⟨Q, P, B, J, q1, q2, q3, q4⟩, h7, h8, h9, h10, h11⟩ := h
  exact ⟨⟨(up_ne (by omega)).trans h0, (up_ne (by omega)).trans h1, (up_ne (by omega)).trans h2, up_eq, ⟨Hf, h4.frame (fun i _ _ => up_ne (by omega)), h5⟩, ⟨Q, P, B, J, (up_ne (by omega)).trans q1, (up_ne (by omega)).trans q2, (up_ne (by omega)).trans q3, (up_ne (by omega)).trans q4⟩, (up_ne (by omega)).trans h7, (up_ne (by omega)).trans h8, h9, h10, h11⟩, fun i hi => up_ne (by omega)⟩
/-- its own numbers written anew -/
theorem MBd.own {K' : MS} (h : MBd g w n p K F Fs Fb pk Hs C T) (hk : kKp K' = kKp K) : MBd g (va_up w p (eO 8 (mfs g p K'))) n p K' F Fs Fb pk Hs C T ∧ FrM w (va_up w p (eO 8 (mfs g p K'))) p := by
  obtain ⟨h0, h1, h2, h3, ⟨Hf, h4, h5⟩, ⟨Q, P, B, J, q1, q2, q3, q4⟩, h7, h8, h9, h10, h11⟩ := h
  exact ⟨⟨up_eq, (up_ne (by omega)).trans h1, (up_ne (by omega)).trans h2, (up_ne (by omega)).trans h3, ⟨Hf, h4.frame (fun i _ _ => up_ne (by omega)), h5⟩, ⟨Q, P, B, J, (up_ne (by omega)).trans q1, (up_ne (by omega)).trans q2, (up_ne (by omega)).trans q3, (up_ne (by omega)).trans q4⟩, (up_ne (by omega)).trans h7, (up_ne (by omega)).trans h8, h9, hk.trans h10, h11⟩, fun i hi => up_ne (by omega)⟩
/-- behind a search -/
theorem MBd.find {w' : HW} {K' : MS} {Q P B J : Nat → Int32} (h : MBd g w n p K F Fs Fb pk Hs C T) (hk : kKp K' = kKp K) (hM : QMd g w' n p K' Q P B J) (hF : FrQ w w' p) : MBd g w' n p K' F Fs Fb pk Hs C T ∧ FrM w w' p := by
  obtain ⟨h0, h1, h2, h3, ⟨Hf, h4, h5⟩, h6, h7, h8, h9, h10, h11⟩ := h
  obtain ⟨c0, c1, c2, c3, c4, c5⟩ := hM
  exact ⟨⟨c0, (hF _ (by omega) (by omega)).trans h1, (hF _ (by omega) (by omega)).trans h2, (hF _ (by omega) (by omega)).trans h3, ⟨Hf, h4.frame (fun i _ _ => hF i (by omega) (by omega)), h5⟩, ⟨Q, P, B, J, c1, c2, c3, c4⟩, (hF _ (by omega) (by omega)).trans h7, (hF _ (by omega) (by omega)).trans h8, h9, hk.trans h10, h11⟩, fun i hi => hF i (by omega) (by omega)⟩
theorem m_refuse_no (hn : p < n) {x y : Int32} : CtI g l MX8_refuse 0 [rf g p, .int 0, .int x, .int y] w n (fun z w' => z = 0 ∧ w' = w) := by
  refine Ct.ofs (M := MX8_refuse) (ls := [some _, some _, some _, some _]) (by decide +kernel) (by exact (Nat.le_of_ble_eq_true rfl)) (by rfl) (by rfl) (by rfl) ?_
  refine V_iload_n (q := 1) dX8_refuse_0 rfl rfl ?_
  refine V_if_eq (q := 4) (tgt := 33) dX8_refuse_1 (by decide) rfl (fun _ => ?_) (fun h9 => absurd rfl h9)
  refine V_iload_n (q := 34) dX8_refuse_33 rfl rfl ?_
  exact V_zret dX8_refuse_34 rfl (rfl) (Nat.le_of_ble_eq_true rfl) (Nat.le_of_ble_eq_true rfl) (⟨rfl, _, rfl, rfl, rfl⟩)
theorem m_refuse (h : MBd g w n p K F Fs Fb pk Hs C T) {x y : Int32} : CtI g l MX8_refuse 0 [rf g p, .int 1, .int x, .int y] w n (fun z w' => z = 1 ∧ MBd g w' n p (setRf K x y (if kIn K = 0 then -1 else kCm K)) F Fs Fb pk Hs C T ∧ FrM w w' p) := by
  have hX := h
  obtain ⟨h0, -, -, -, -, -, -, -, hn, -⟩ := h
  refine Ct.ofs (M := MX8_refuse) (ls := [some _, some _, some _, some _]) (by decide +kernel) (by exact (Nat.le_of_ble_eq_true rfl)) (by rfl) (by rfl) (by rfl) ?_
  refine V_iload_n (q := 1) dX8_refuse_0 rfl rfl ?_
  refine V_if_eq (q := 4) (tgt := 33) dX8_refuse_1 (by decide) rfl (fun h9 => absurd h9 (by decide)) (fun _ => ?_)
  refine V_aload_n (q := 5) dX8_refuse_4 rfl rfl rfl ?_
  refine V_iload_n (q := 6) dX8_refuse_5 rfl rfl ?_
  refine PX8_47 (q := 9) (fs' := [_, _, _, _, _, _, _, _, _, _, _, _, _, _, _, _, _, _, _, _, _, _, _, _, _, _]) rfl dX8_refuse_6 rfl (by first | assumption | exact up_eq | exact (up_ne (by omega)).trans (by first | assumption | exact up_eq | exact (up_ne (by omega)).trans (by first | assumption | exact up_eq | exact (up_ne (by omega)).trans (by first | assumption | exact up_eq)))) (by omega) (by exact (Nat.le_of_ble_eq_true rfl)) (by rfl) ?_
  try rw [up_up]
  refine V_aload_n (q := 10) dX8_refuse_9 rfl rfl rfl ?_
  refine V_iload_n (q := 11) dX8_refuse_10 rfl rfl ?_
  refine PX8_50 (q := 14) (fs' := [_, _, _, _, _, _, _, _, _, _, _, _, _, _, _, _, _, _, _, _, _, _, _, _, _, _]) rfl dX8_refuse_11 rfl (by first | assumption | exact up_eq | exact (up_ne (by omega)).trans (by first | assumption | exact up_eq | exact (up_ne (by omega)).trans (by first | assumption | exact up_eq | exact (up_ne (by omega)).trans (by first | assumption | exact up_eq)))) (by omega) (by exact (Nat.le_of_ble_eq_true rfl)) (by rfl) ?_
  try rw [up_up]
  refine V_aload_n (q := 15) dX8_refuse_14 rfl rfl rfl ?_
  refine V_aload_n (q := 16) dX8_refuse_15 rfl rfl rfl ?_
  refine GX8_53 (q := 19) rfl dX8_refuse_16 rfl (by first | assumption | exact up_eq | exact (up_ne (by omega)).trans (by first | assumption | exact up_eq | exact (up_ne (by omega)).trans (by first | assumption | exact up_eq | exact (up_ne (by omega)).trans (by first | assumption | exact up_eq)))) (by omega) (by rfl) ?_
  refine V_if_eq (q := 22) (tgt := 29) dX8_refuse_19 (by decide) rfl (fun hi => ?_) (fun hi => ?_)
  · skip
    have fin := hX.own (K' := setRf K x y (if kIn K = 0 then -1 else kCm K)) rfl
    rw [if_pos hi] at fin ⊢
    refine V_iconst (q := 30) (v := (-1)) dX8_refuse_29 rfl (by decide) ?_
    refine PX8_24 (q := 33) (fs' := [_, _, _, _, _, _, _, _, _, _, _, _, _, _, _, _, _, _, _, _, _, _, _, _, _, _]) rfl dX8_refuse_30 rfl (by first | assumption | exact up_eq | exact (up_ne (by omega)).trans (by first | assumption | exact up_eq | exact (up_ne (by omega)).trans (by first | assumption | exact up_eq | exact (up_ne (by omega)).trans (by first | assumption | exact up_eq)))) (by omega) (by exact (Nat.le_of_ble_eq_true rfl)) (by rfl) ?_
    try rw [up_up]
    refine V_iload_n (q := 34) dX8_refuse_33 rfl rfl ?_
    exact V_zret dX8_refuse_34 rfl (rfl) (Nat.le_of_ble_eq_true rfl) (Nat.le_of_ble_eq_true rfl) (⟨rfl, _, rfl, rfl, fin⟩)
  · skip
    have fin := hX.own (K' := setRf K x y (if kIn K = 0 then -1 else kCm K)) rfl
    rw [if_neg hi] at fin ⊢
    refine V_aload_n (q := 23) dX8_refuse_22 rfl rfl rfl ?_
    refine GX8_57 (q := 26) rfl dX8_refuse_23 rfl (by first | assumption | exact up_eq | exact (up_ne (by omega)).trans (by first | assumption | exact up_eq | exact (up_ne (by omega)).trans (by first | assumption | exact up_eq | exact (up_ne (by omega)).trans (by first | assumption | exact up_eq)))) (by omega) (by rfl) ?_
    refine V_goto (tgt := 30) dX8_refuse_26 (by decide) ?_
    refine PX8_24 (q := 33) (fs' := [_, _, _, _, _, _, _, _, _, _, _, _, _, _, _, _, _, _, _, _, _, _, _, _, _, _]) rfl dX8_refuse_30 rfl (by first | assumption | exact up_eq | exact (up_ne (by omega)).trans (by first | assumption | exact up_eq | exact (up_ne (by omega)).trans (by first | assumption | exact up_eq | exact (up_ne (by omega)).trans (by first | assumption | exact up_eq)))) (by omega) (by exact (Nat.le_of_ble_eq_true rfl)) (by rfl) ?_
    try rw [up_up]
    refine V_iload_n (q := 34) dX8_refuse_33 rfl rfl ?_
    exact V_zret dX8_refuse_34 rfl (rfl) (Nat.le_of_ble_eq_true rfl) (Nat.le_of_ble_eq_true rfl) (⟨rfl, _, rfl, rfl, fin⟩)
theorem m_copyRow {a b : Nat} {A Bq : Nat → Int32} (ha : w a = eI g 63 A) (hb : w b = eI g 63 Bq) (han : a < n) (hbn : b < n) (hne : a ≠ b) : CtV g l MX8_copyRow 0 [rf g a, rf g b] w n (fun w' => ∃ A', (∀ k, k < 63 → A' k = A k) ∧ w' = va_up w b (eI g 63 A')) := by
  refine Ct.ofs (M := MX8_copyRow) (ls := [some _, some _, none]) (by decide +kernel) (by exact (Nat.le_of_ble_eq_true rfl)) (by rfl) (by rfl) (by rfl) ?_
  refine V_iconst (q := 1) (v := nI 0) dX8_copyRow_0 rfl (by decide) ?_
  refine V_istore_n (q := 2) (ls' := [_, _, _]) dX8_copyRow_1 rfl (by decide) rfl ?_
  have key : ∀ i, i ≤ 63 → ∀ A' w1, (∀ k, k < i → A' k = A k) → w1 b = eI g 63 A' → (∀ j, j ≠ b → w1 j = w j) → V g l MX8_copyRow (rmd 0 0 0) (FinM g (qV (fun w' => ∃ A', (∀ k, k < 63 → A' k = A k) ∧ w' = va_up w b (eI g 63 A')) n) 0 0) 2 [some (rf g a), some (rf g b), some (.int (nI i))] [] (w1) n 0 0 := by
    refine loopU (fun i => ∀ A' w1, (∀ k, k < i → A' k = A k) → w1 b = eI g 63 A' → (∀ j, j ≠ b → w1 j = w j) → V g l MX8_copyRow (rmd 0 0 0) (FinM g (qV (fun w' => ∃ A', (∀ k, k < 63 → A' k = A k) ∧ w' = va_up w b (eI g 63 A')) n) 0 0) 2 [some (rf g a), some (rf g b), some (.int (nI i))] [] (w1) n 0 0) 63 ?_ ?_
    · intro A' w1 h1 h2 h3
      refine V_iload_n (q := 3) dX8_copyRow_2 rfl rfl ?_
      refine V_bipush (q := 5) (v := nI 63) dX8_copyRow_3 rfl (by decide) ?_
      refine V_icmpN_ge (q := 8) (tgt := 20) dX8_copyRow_5 (by decide) rfl (by omega) (by omega) (fun _ => ?_) (fun h9 => by first | exact h9.elim | (exfalso; omega))
      skip
      exact V_vret dX8_copyRow_20 rfl (Nat.le_of_ble_eq_true rfl) (Nat.le_of_ble_eq_true rfl) (⟨rfl, rfl, A', h1, up_is h2 h3⟩)
    · intro i hi ih A' w1 h1 h2 h3
      have ha1 : w1 a = eI g 63 A := (h3 a hne).trans ha
      refine V_iload_n (q := 3) dX8_copyRow_2 rfl rfl ?_
      refine V_bipush (q := 5) (v := nI 63) dX8_copyRow_3 rfl (by decide) ?_
      refine V_icmpN_ge (q := 8) (tgt := 20) dX8_copyRow_5 (by decide) rfl (by omega) (by omega) (fun h9 => by first | exact h9.elim | exact absurd h9 (by assumption) | (exfalso; omega)) (fun _ => ?_)
      refine V_aload_n (q := 9) dX8_copyRow_8 rfl rfl rfl ?_
      refine V_iload_n (q := 10) dX8_copyRow_9 rfl rfl ?_
      refine V_aload_n (q := 11) dX8_copyRow_10 rfl rfl rfl ?_
      refine V_iload_n (q := 12) dX8_copyRow_11 rfl rfl ?_
      refine V_ialdN (q := 13) dX8_copyRow_12 rfl (by first | assumption | exact up_eq | exact (up_ne (by omega)).trans (by first | assumption | exact up_eq | exact (up_ne (by omega)).trans (by first | assumption | exact up_eq | exact (up_ne (by omega)).trans (by first | assumption | exact up_eq)))) (by omega) (by omega) (by omega) rfl (by rfl) ?_
      refine V_iastN (q := 14) dX8_copyRow_13 rfl (by first | assumption | exact up_eq | exact (up_ne (by omega)).trans (by first | assumption | exact up_eq | exact (up_ne (by omega)).trans (by first | assumption | exact up_eq | exact (up_ne (by omega)).trans (by first | assumption | exact up_eq)))) (by omega) (by omega) (by omega) rfl (by rfl) ?_
      refine V_iinc (q := 17) (ls' := [_, _, _]) dX8_copyRow_14 rfl (by decide) rfl (by first | exact inc1 _ | rfl) rfl ?_
      refine V_goto (tgt := 2) dX8_copyRow_17 (by decide) ?_
      refine ih (upd A' i (A i)) _ (fun k hk => ?_) up_eq (fun j hj => (up_ne hj).trans (h3 j hj))
      by_cases e : k = i
      · rw [e, updI]
      · rw [updN e]; exact h1 k (by omega)
  exact key 0 (Nat.zero_le _) Bq w (fun k hk => absurd hk (Nat.not_lt_zero k)) hb (fun _ _ => rfl)
theorem m_remember (h : MBd g w n p K F Fs Fb pk Hs C T) {a : Nat} {A : Nat → Int32} (ha : w a = eI g 63 A) (hap : a = p + 1 ∨ a = p + 3) (hA : RN A N) : CtV g l MX8_remember 1 [rf g p, rf g a] w n (fun w' => MBd g w' n p (setKp K (nI (min (pk + 1) 8))) F Fs Fb (min (pk + 1) 8) (conS N Hs) C T ∧ FrM w w' p) := by
  have hX := h
  obtain ⟨h0, h1, h2, h3, ⟨Hf, h4, h5⟩, ⟨Q, P, B, J, q1, q2, q3, q4⟩, h7, h8, h9, h10, h11⟩ := h
  have tail : ∀ q Hf1 w1, q < 8 → q + 1 = min (pk + 1) 8 → HR q Hf1 Hs → MHi g w1 p Hf1 → w1 p = eO 8 (mfs g p (setKp K (nI q))) → (∀ i, i ≠ p → (i < p + 4 ∨ p + 13 ≤ i) → w1 i = w i) → V g l MX8_remember (rmd 1 0 0) (FinM g (qV (fun w' => MBd g w' n p (setKp K (nI (min (pk + 1) 8))) F Fs Fb (min (pk + 1) 8) (conS N Hs) C T ∧ FrM w w' p) n) 0 0) 52 [some (rf g p), some (rf g a), none] [] (w1) n 0 0 := by
    intro q Hf1 w1 hq8 hq hHR hMH c0 hF
    obtain ⟨⟨G, g1, g2⟩, g3⟩ := id hMH
    have ca : w1 a = eI g 63 A := (hF a (by omega) (by omega)).trans ha
    refine V_aload_n (q := 53) dX8_remember_52 rfl rfl rfl ?_
    refine V_aload_n (q := 54) dX8_remember_53 rfl rfl rfl ?_
    refine GX8_21 (q := 57) rfl dX8_remember_54 rfl (by first | assumption | exact up_eq | exact (up_ne (by omega)).trans (by first | assumption | exact up_eq | exact (up_ne (by omega)).trans (by first | assumption | exact up_eq | exact (up_ne (by omega)).trans (by first | assumption | exact up_eq)))) (by omega) (by rfl) ?_
    refine V_aload_n (q := 58) dX8_remember_57 rfl rfl rfl ?_
    refine GX8_60 (q := 61) rfl dX8_remember_58 rfl (by first | assumption | exact up_eq | exact (up_ne (by omega)).trans (by first | assumption | exact up_eq | exact (up_ne (by omega)).trans (by first | assumption | exact up_eq | exact (up_ne (by omega)).trans (by first | assumption | exact up_eq)))) (by omega) (by rfl) ?_
    refine V_aaldA (q := 62) dX8_remember_61 rfl (by first | assumption | exact up_eq | exact (up_ne (by omega)).trans (by first | assumption | exact up_eq | exact (up_ne (by omega)).trans (by first | assumption | exact up_eq | exact (up_ne (by omega)).trans (by first | assumption | exact up_eq)))) (by omega) (by omega) (by omega) rfl (congrArg va_rf (g2 q hq8)) ?_
    refine CvX8_63 (q := 65) rfl dX8_remember_62 rfl (m_copyRow ca (g3 q hq8) (by omega) (by omega) (by omega)) ⟨(Nat.le_of_ble_eq_true rfl), (Nat.le_of_ble_eq_true rfl)⟩ (Nat.le_of_ble_eq_true rfl) (Nat.zero_le _) (Nat.zero_le _) (fun w2 hw2 => ?_)
    obtain ⟨A', a1, rfl⟩ := hw2
    have d0 : va_up w1 (p + 5 + q) (eI g 63 A') p = eO 8 (mfs g p (setKp K (nI q))) := (up_ne (by omega)).trans c0
    rw [← hq]
    refine V_aload_n (q := 66) dX8_remember_65 rfl rfl rfl ?_
    refine V_dup (q := 67) dX8_remember_66 rfl rfl ?_
    refine GX8_60 (q := 70) rfl dX8_remember_67 rfl (by first | assumption | exact up_eq | exact (up_ne (by omega)).trans (by first | assumption | exact up_eq | exact (up_ne (by omega)).trans (by first | assumption | exact up_eq | exact (up_ne (by omega)).trans (by first | assumption | exact up_eq)))) (by omega) (by rfl) ?_
    refine V_iconst (q := 71) (v := nI 1) dX8_remember_70 rfl (by decide) ?_
    refine V_iadd (q := 72) dX8_remember_71 rfl (by first | exact nI_add _ _ | rfl) ?_
    refine PX8_60 (q := 75) (fs' := [_, _, _, _, _, _, _, _, _, _, _, _, _, _, _, _, _, _, _, _, _, _, _, _, _, _]) rfl dX8_remember_72 rfl (by first | assumption | exact up_eq | exact (up_ne (by omega)).trans (by first | assumption | exact up_eq | exact (up_ne (by omega)).trans (by first | assumption | exact up_eq | exact (up_ne (by omega)).trans (by first | assumption | exact up_eq)))) (by omega) (by exact (Nat.le_of_ble_eq_true rfl)) (by rfl) ?_
    try rw [up_up]
    have hn2 : ∀ i, i ≠ p → (i < p + 4 ∨ p + 13 ≤ i) → va_up (va_up w1 (p + 5 + q) (eI g 63 A')) p (eO 8 (mfs g p (setKp K (nI (q + 1))))) i = w i := fun i b1 b2 => (up_ne b1).trans ((up_ne (by omega)).trans (hF i b1 b2))
    refine V_vret dX8_remember_75 rfl (Nat.le_of_ble_eq_true rfl) (Nat.le_of_ble_eq_true rfl) (⟨rfl, rfl, ⟨up_eq, (hn2 _ (by omega) (by omega)).trans h1, (hn2 _ (by omega) (by omega)).trans h2, (hn2 _ (by omega) (by omega)).trans h3, ⟨fun j => if j = q then A' else Hf1 j, ⟨⟨G, (up_ne (by omega)).trans ((up_ne (by omega)).trans g1), g2⟩, fun k hk => ?_⟩, fun i hi => ?_⟩, ⟨Q, P, B, J, (hn2 _ (by omega) (by omega)).trans q1, (hn2 _ (by omega) (by omega)).trans q2, (hn2 _ (by omega) (by omega)).trans q3, (hn2 _ (by omega) (by omega)).trans q4⟩, (hn2 _ (by omega) (by omega)).trans h7, (hn2 _ (by omega) (by omega)).trans h8, h9, rfl, by omega⟩, fun i hi => hn2 i (by omega) (by omega)⟩)
    · show _ = eI g 63 (if k = q then A' else Hf1 k)
      by_cases e : k = q
      · rw [if_pos e, e]
        exact (up_ne (by omega)).trans up_eq
      · rw [if_neg e]
        exact (up_ne (by omega)).trans ((up_ne (by omega)).trans (g3 k hk))
    · show RN (if q + 1 - 1 - i = q then A' else Hf1 (q + 1 - 1 - i)) (conS N Hs i)
      unfold conS
      by_cases e : i = 0
      · rw [if_pos e, if_pos (by omega)]
        exact hA.cong a1
      · rw [if_neg e, if_neg (by omega)]
        have := hHR (i - 1) (by omega)
        rw [show q - 1 - (i - 1) = q + 1 - 1 - i by omega] at this
        exact this
  refine Ct.ofs (M := MX8_remember) (ls := [some _, some _, none]) (by decide +kernel) (by exact (Nat.le_of_ble_eq_true rfl)) (by rfl) (by rfl) (by rfl) ?_
  refine V_aload_n (q := 1) dX8_remember_0 rfl rfl rfl ?_
  refine GX8_60 (q := 4) rfl dX8_remember_1 rfl (by first | assumption | exact up_eq | exact (up_ne (by omega)).trans (by first | assumption | exact up_eq | exact (up_ne (by omega)).trans (by first | assumption | exact up_eq | exact (up_ne (by omega)).trans (by first | assumption | exact up_eq)))) (by omega) (by rfl) ?_
  refine V_topi h10 ?_
  refine V_bipush (q := 6) (v := nI 8) dX8_remember_4 rfl (by decide) ?_
  refine V_icmpN_ne (q := 9) (tgt := 52) dX8_remember_6 (by decide) rfl (by omega) (by omega) (fun c8 => ?_) (fun c8 => ?_)
  · skip
    exact tail pk Hf w (by omega) (by omega) h5 h4 (by rw [← h10]; exact h0) (fun _ _ _ => rfl)
  · skip
    refine V_aload_n (q := 10) dX8_remember_9 rfl rfl rfl ?_
    refine V_dup (q := 11) dX8_remember_10 rfl rfl ?_
    refine GX8_60 (q := 14) rfl dX8_remember_11 rfl (by first | assumption | exact up_eq | exact (up_ne (by omega)).trans (by first | assumption | exact up_eq | exact (up_ne (by omega)).trans (by first | assumption | exact up_eq | exact (up_ne (by omega)).trans (by first | assumption | exact up_eq)))) (by omega) (by rfl) ?_
    refine V_iconst (q := 15) (v := nI 1) dX8_remember_14 rfl (by decide) ?_
    refine V_isub (q := 16) dX8_remember_15 rfl (show kKp K - nI 1 = nI 7 by rw [h10, c8]; rfl) ?_
    refine PX8_60 (q := 19) (fs' := [_, _, _, _, _, _, _, _, _, _, _, _, _, _, _, _, _, _, _, _, _, _, _, _, _, _]) rfl dX8_remember_16 rfl (by first | assumption | exact up_eq | exact (up_ne (by omega)).trans (by first | assumption | exact up_eq | exact (up_ne (by omega)).trans (by first | assumption | exact up_eq | exact (up_ne (by omega)).trans (by first | assumption | exact up_eq)))) (by omega) (by exact (Nat.le_of_ble_eq_true rfl)) (by rfl) ?_
    try rw [up_up]
    refine V_iconst (q := 20) (v := nI 0) dX8_remember_19 rfl (by decide) ?_
    refine V_istore_n (q := 21) (ls' := [_, _, _]) dX8_remember_20 rfl (by decide) rfl ?_
    have loop : ∀ k, k ≤ 7 → ∀ Hf1 w1, MHi g w1 p Hf1 → (∀ j, j < k → RN (Hf1 j) (Hs (6 - j))) → (∀ j, k ≤ j → j < 8 → Hf1 j = Hf j) → w1 p = eO 8 (mfs g p (setKp K (nI 7))) → (∀ i, i ≠ p → (i < p + 4 ∨ p + 13 ≤ i) → w1 i = w i) → V g l MX8_remember (rmd 1 0 0) (FinM g (qV (fun w' => MBd g w' n p (setKp K (nI (min (pk + 1) 8))) F Fs Fb (min (pk + 1) 8) (conS N Hs) C T ∧ FrM w w' p) n) 0 0) 21 [some (rf g p), some (rf g a), some (.int (nI k))] [] (w1) n 0 0 := by
      refine loopU (fun k => ∀ Hf1 w1, MHi g w1 p Hf1 → (∀ j, j < k → RN (Hf1 j) (Hs (6 - j))) → (∀ j, k ≤ j → j < 8 → Hf1 j = Hf j) → w1 p = eO 8 (mfs g p (setKp K (nI 7))) → (∀ i, i ≠ p → (i < p + 4 ∨ p + 13 ≤ i) → w1 i = w i) → V g l MX8_remember (rmd 1 0 0) (FinM g (qV (fun w' => MBd g w' n p (setKp K (nI (min (pk + 1) 8))) F Fs Fb (min (pk + 1) 8) (conS N Hs) C T ∧ FrM w w' p) n) 0 0) 21 [some (rf g p), some (rf g a), some (.int (nI k))] [] (w1) n 0 0) 7 ?_ ?_
      · intro Hf1 w1 hMH hd hs c0 hF
        refine V_iload_n (q := 22) dX8_remember_21 rfl rfl ?_
        refine V_aload_n (q := 23) dX8_remember_22 rfl rfl rfl ?_
        refine GX8_60 (q := 26) rfl dX8_remember_23 rfl (by first | assumption | exact up_eq | exact (up_ne (by omega)).trans (by first | assumption | exact up_eq | exact (up_ne (by omega)).trans (by first | assumption | exact up_eq | exact (up_ne (by omega)).trans (by first | assumption | exact up_eq)))) (by omega) (by rfl) ?_
        refine V_icmpN_ge (q := 29) (tgt := 52) dX8_remember_26 (by decide) rfl (by omega) (by omega) (fun _ => ?_) (fun h9 => by first | exact h9.elim | (exfalso; omega))
        refine V_fg 2 (ls2 := [_, _, none]) (by rfl) ?_
        exact tail 7 Hf1 w1 (by decide) (by omega) (fun i hi => by have := hd (6 - i) (by omega); rw [show 6 - (6 - i) = i by omega] at this; exact this) hMH c0 hF
      · intro k hk ih Hf1 w1 hMH hd hs c0 hF
        obtain ⟨⟨G, g1, g2⟩, g3⟩ := id hMH
        have gk := g3 k (by omega)
        have gk1 := g3 (k + 1) (by omega)
        refine V_iload_n (q := 22) dX8_remember_21 rfl rfl ?_
        refine V_aload_n (q := 23) dX8_remember_22 rfl rfl rfl ?_
        refine GX8_60 (q := 26) rfl dX8_remember_23 rfl (by first | assumption | exact up_eq | exact (up_ne (by omega)).trans (by first | assumption | exact up_eq | exact (up_ne (by omega)).trans (by first | assumption | exact up_eq | exact (up_ne (by omega)).trans (by first | assumption | exact up_eq)))) (by omega) (by rfl) ?_
        refine V_icmpN_ge (q := 29) (tgt := 52) dX8_remember_26 (by decide) rfl (by omega) (by omega) (fun h9 => by first | exact h9.elim | exact absurd h9 (by assumption) | (exfalso; omega)) (fun _ => ?_)
        refine V_aload_n (q := 30) dX8_remember_29 rfl rfl rfl ?_
        refine GX8_21 (q := 33) rfl dX8_remember_30 rfl (by first | assumption | exact up_eq | exact (up_ne (by omega)).trans (by first | assumption | exact up_eq | exact (up_ne (by omega)).trans (by first | assumption | exact up_eq | exact (up_ne (by omega)).trans (by first | assumption | exact up_eq)))) (by omega) (by rfl) ?_
        refine V_iload_n (q := 34) dX8_remember_33 rfl rfl ?_
        refine V_iconst (q := 35) (v := nI 1) dX8_remember_34 rfl (by decide) ?_
        refine V_iadd (q := 36) dX8_remember_35 rfl (by first | exact nI_add _ _ | rfl) ?_
        refine V_aaldA (q := 37) dX8_remember_36 rfl (by first | assumption | exact up_eq | exact (up_ne (by omega)).trans (by first | assumption | exact up_eq | exact (up_ne (by omega)).trans (by first | assumption | exact up_eq | exact (up_ne (by omega)).trans (by first | assumption | exact up_eq)))) (by omega) (by omega) (by omega) rfl (congrArg va_rf (g2 (k + 1) (by omega))) ?_
        refine V_aload_n (q := 38) dX8_remember_37 rfl rfl rfl ?_
        refine GX8_21 (q := 41) rfl dX8_remember_38 rfl (by first | assumption | exact up_eq | exact (up_ne (by omega)).trans (by first | assumption | exact up_eq | exact (up_ne (by omega)).trans (by first | assumption | exact up_eq | exact (up_ne (by omega)).trans (by first | assumption | exact up_eq)))) (by omega) (by rfl) ?_
        refine V_iload_n (q := 42) dX8_remember_41 rfl rfl ?_
        refine V_aaldA (q := 43) dX8_remember_42 rfl (by first | assumption | exact up_eq | exact (up_ne (by omega)).trans (by first | assumption | exact up_eq | exact (up_ne (by omega)).trans (by first | assumption | exact up_eq | exact (up_ne (by omega)).trans (by first | assumption | exact up_eq)))) (by omega) (by omega) (by omega) rfl (congrArg va_rf (g2 k (by omega))) ?_
        refine CvX8_63 (q := 46) rfl dX8_remember_43 rfl (m_copyRow gk1 gk (by omega) (by omega) (by omega)) ⟨(Nat.le_of_ble_eq_true rfl), (Nat.le_of_ble_eq_true rfl)⟩ (Nat.le_of_ble_eq_true rfl) (Nat.zero_le _) (Nat.zero_le _) (fun w2 hw2 => ?_)
        obtain ⟨A', a1, rfl⟩ := hw2
        refine V_iinc (q := 49) (ls' := [_, _, _]) dX8_remember_46 rfl (by decide) rfl (by first | exact inc1 _ | rfl) rfl ?_
        refine V_goto (tgt := 21) dX8_remember_49 (by decide) ?_
        refine ih (fun j => if j = k then A' else Hf1 j) _ ⟨⟨G, (up_ne (by omega)).trans g1, g2⟩, fun j hj => ?_⟩ (fun j hj => ?_) (fun j b1 b2 => ?_) ((up_ne (by omega)).trans c0) (fun i b1 b2 => (up_ne (by omega)).trans (hF i b1 b2))
        · show _ = eI g 63 (if j = k then A' else Hf1 j)
          by_cases e : j = k
          · rw [if_pos e, e]; exact up_eq
          · rw [if_neg e]; exact (up_ne (by omega)).trans (g3 j hj)
        · show RN (if j = k then A' else Hf1 j) (Hs (6 - j))
          by_cases e : j = k
          · rw [if_pos e, e]
            have h1 := h5 (6 - k) (by omega)
            rw [show pk - 1 - (6 - k) = k + 1 by omega] at h1
            rw [hs (k + 1) (by omega) (by omega)] at a1
            exact h1.cong a1
          · rw [if_neg e]; exact hd j (by omega)
        · show (if j = k then A' else Hf1 j) = Hf j
          rw [if_neg (by omega)]
          exact hs j (by omega) b2
    exact loop 0 (Nat.zero_le _) Hf _ (h4.frame (fun i _ _ => up_ne (by omega))) (fun j hj => absurd hj (Nat.not_lt_zero j)) (fun _ _ _ => rfl) up_eq (fun i b1 b2 => up_ne b1)
theorem m_change_in (h : MBd g w n p K F Fs Fb pk Hs C T) (hi : kIn K = 1) : CtV g l MX8_change 2 [rf g p] w n (fun w' => w' = w) := by
  obtain ⟨h0, -, -, -, -, -, -, -, hn, -⟩ := h
  refine Ct.ofs (M := MX8_change) (ls := [some _]) (by decide +kernel) (by exact (Nat.le_of_ble_eq_true rfl)) (by rfl) (by rfl) (by rfl) ?_
  refine V_aload_n (q := 1) dX8_change_0 rfl rfl rfl ?_
  refine GX8_53 (q := 4) rfl dX8_change_1 rfl (by first | assumption | exact up_eq | exact (up_ne (by omega)).trans (by first | assumption | exact up_eq | exact (up_ne (by omega)).trans (by first | assumption | exact up_eq | exact (up_ne (by omega)).trans (by first | assumption | exact up_eq)))) (by omega) (by rfl) ?_
  refine V_topi hi ?_
  refine V_if_ne (q := 7) (tgt := 15) dX8_change_4 (by decide) rfl (fun _ => ?_) (fun h9 => absurd h9 (by decide))
  skip
  exact V_vret dX8_change_15 rfl (Nat.le_of_ble_eq_true rfl) (Nat.le_of_ble_eq_true rfl) (⟨rfl, rfl, rfl⟩)
theorem m_change (h : MBd g w n p K F Fs Fb pk Hs C T) (hi : kIn K = 0) (hA : RN F N) : CtV g l MX8_change 2 [rf g p] w n (fun w' => MBd g w' n p (setKp K (nI (min (pk + 1) 8))) F Fs Fb (min (pk + 1) 8) (conS N Hs) C T ∧ FrM w w' p) := by
  have hX := h
  obtain ⟨h0, h1, -, -, -, -, -, -, hn, -⟩ := h
  refine Ct.ofs (M := MX8_change) (ls := [some _]) (by decide +kernel) (by exact (Nat.le_of_ble_eq_true rfl)) (by rfl) (by rfl) (by rfl) ?_
  refine V_aload_n (q := 1) dX8_change_0 rfl rfl rfl ?_
  refine GX8_53 (q := 4) rfl dX8_change_1 rfl (by first | assumption | exact up_eq | exact (up_ne (by omega)).trans (by first | assumption | exact up_eq | exact (up_ne (by omega)).trans (by first | assumption | exact up_eq | exact (up_ne (by omega)).trans (by first | assumption | exact up_eq)))) (by omega) (by rfl) ?_
  refine V_topi hi ?_
  refine V_if_ne (q := 7) (tgt := 15) dX8_change_4 (by decide) rfl (fun h9 => absurd rfl h9) (fun _ => ?_)
  refine V_aload_n (q := 8) dX8_change_7 rfl rfl rfl ?_
  refine V_aload_n (q := 9) dX8_change_8 rfl rfl rfl ?_
  refine GX8_9 (q := 12) rfl dX8_change_9 rfl (by first | assumption | exact up_eq | exact (up_ne (by omega)).trans (by first | assumption | exact up_eq | exact (up_ne (by omega)).trans (by first | assumption | exact up_eq | exact (up_ne (by omega)).trans (by first | assumption | exact up_eq)))) (by omega) (by rfl) ?_
  refine CvX8_67 (q := 15) rfl dX8_change_12 rfl (m_remember hX h1 (Or.inl rfl) hA) ⟨(Nat.le_of_ble_eq_true rfl), (Nat.le_of_ble_eq_true rfl)⟩ (Nat.le_of_ble_eq_true rfl) (by first | assumption | exact up_eq | exact (up_ne (by omega)).trans (by first | assumption | exact up_eq | exact (up_ne (by omega)).trans (by first | assumption | exact up_eq | exact (up_ne (by omega)).trans (by first | assumption | exact up_eq)))) (by omega) (Nat.zero_le _) (Nat.zero_le _) (fun w1 hw1 => ?_)
  skip
  exact V_vret dX8_change_15 rfl (Nat.le_of_ble_eq_true rfl) (Nat.le_of_ble_eq_true rfl) (⟨rfl, rfl, hw1⟩)
theorem m_putThrow (h0 : w p = eO 8 (mfs g p K)) (h1 : w (p + 1) = eI g 63 F) (hn : p + 19 ≤ n) {i j : Nat} {x : Int32} (hi : i < 6) (hj : j < 8) : CtV g l MX8_putThrow 0 [rf g p, .int (nI i), .int (nI j), .int x] w n (fun w' => w' = va_up w (p + 1) (eI g 63 (upd F (9 + 9 * i + 1 + j) x))) := by
  refine Ct.ofs (M := MX8_putThrow) (ls := [some _, some _, some _, some _]) (by decide +kernel) (by exact (Nat.le_of_ble_eq_true rfl)) (by rfl) (by rfl) (by rfl) ?_
  refine V_aload_n (q := 1) dX8_putThrow_0 rfl rfl rfl ?_
  refine GX8_9 (q := 4) rfl dX8_putThrow_1 rfl (by first | assumption | exact up_eq | exact (up_ne (by omega)).trans (by first | assumption | exact up_eq | exact (up_ne (by omega)).trans (by first | assumption | exact up_eq | exact (up_ne (by omega)).trans (by first | assumption | exact up_eq)))) (by omega) (by rfl) ?_
  refine V_bipush (q := 6) (v := nI 9) dX8_putThrow_4 rfl (by decide) ?_
  refine V_bipush (q := 8) (v := nI 9) dX8_putThrow_6 rfl (by decide) ?_
  refine V_iload_n (q := 9) dX8_putThrow_8 rfl rfl ?_
  refine V_imul (q := 10) dX8_putThrow_9 rfl (by first | exact pk_mul _ _ | rfl) ?_
  refine V_iadd (q := 11) dX8_putThrow_10 rfl (by first | exact nI_add _ _ | rfl) ?_
  refine V_iconst (q := 12) (v := nI 1) dX8_putThrow_11 rfl (by decide) ?_
  refine V_iadd (q := 13) dX8_putThrow_12 rfl (by first | exact nI_add _ _ | rfl) ?_
  refine V_iload_n (q := 14) dX8_putThrow_13 rfl rfl ?_
  refine V_iadd (q := 15) dX8_putThrow_14 rfl (by first | exact nI_add _ _ | rfl) ?_
  refine V_iload_n (q := 16) dX8_putThrow_15 rfl rfl ?_
  refine V_iastN (q := 17) dX8_putThrow_16 rfl (by first | assumption | exact up_eq | exact (up_ne (by omega)).trans (by first | assumption | exact up_eq | exact (up_ne (by omega)).trans (by first | assumption | exact up_eq | exact (up_ne (by omega)).trans (by first | assumption | exact up_eq)))) (by omega) (by omega) (by omega) rfl (by rfl) ?_
  exact V_vret dX8_putThrow_17 rfl (Nat.le_of_ble_eq_true rfl) (Nat.le_of_ble_eq_true rfl) (⟨rfl, rfl, rfl⟩)
theorem m_makeThrow (h0 : w p = eO 8 (mfs g p K)) (h1 : w (p + 1) = eI g 63 F) (hn : p + 19 ≤ n) (hR : RN F N) {h : Nat} (hh : h ≤ 9) (hc : canN (sS N) h) (hb : sB N + 1 < 2 ^ 30) : CtV g l MX8_makeThrow 1 [rf g p, .int (nI h)] w n (fun w' => ∃ F', RN F' (thrS N h) ∧ w' = va_up w (p + 1) (eI g 63 F')) := by
  obtain ⟨⟨f0, f1, f2, f3, f4, f5, f6, f7, f8⟩, hr, hN, hS, hB⟩ := hR
  have hs := hS.1
  have hH := hS.2
  have hpc : popc (behN (sS N) h) = popc (sS N) := (edge_at hs hh hc).2.1
  have hok := OkS.thr hS hh
  have fin : ∀ F', F' 0 = F 0 → F' 1 = nI (behN (sS N) h) → F' 2 = F 2 → F' 3 = nI (sB N + 1) → F' 4 = nI (sT N + 1) → F' 5 = nI (sU N + (if 0 < h then 1 else 0)) → F' 6 = nI (max (sH N) h) → F' 7 = F 7 → F' 8 = F 8 → (∀ k, 9 ≤ k → F' k = F k) → RN F' (thrS N h) := by
    intro F' e0 e1 e2 e3 e4 e5 e6 e7 e8 e9
    refine ⟨⟨e0.trans f0, e1, ?_, e3, e4, e5, e6, e7.trans f7, e8.trans f8⟩, fun i hi => ⟨(e9 _ (by omega)).trans (hr i hi).1, fun j hj => (e9 _ (by omega)).trans ((hr i hi).2 j hj)⟩, hN, hok, hb⟩
    rw [e2, f2]
    show _ = nI (popc (behN (sS N) h))
    rw [hpc]
  refine Ct.ofs (M := MX8_makeThrow) (ls := [some _, some _]) (by decide +kernel) (by exact (Nat.le_of_ble_eq_true rfl)) (by rfl) (by rfl) (by rfl) ?_
  refine V_aload_n (q := 1) dX8_makeThrow_0 rfl rfl rfl ?_
  refine GX8_9 (q := 4) rfl dX8_makeThrow_1 rfl (by first | assumption | exact up_eq | exact (up_ne (by omega)).trans (by first | assumption | exact up_eq | exact (up_ne (by omega)).trans (by first | assumption | exact up_eq | exact (up_ne (by omega)).trans (by first | assumption | exact up_eq)))) (by omega) (by rfl) ?_
  refine V_iconst (q := 5) (v := nI 1) dX8_makeThrow_4 rfl (by decide) ?_
  refine V_aload_n (q := 6) dX8_makeThrow_5 rfl rfl rfl ?_
  refine GX8_9 (q := 9) rfl dX8_makeThrow_6 rfl (by first | assumption | exact up_eq | exact (up_ne (by omega)).trans (by first | assumption | exact up_eq | exact (up_ne (by omega)).trans (by first | assumption | exact up_eq | exact (up_ne (by omega)).trans (by first | assumption | exact up_eq)))) (by omega) (by rfl) ?_
  refine V_iconst (q := 10) (v := nI 1) dX8_makeThrow_9 rfl (by decide) ?_
  refine V_ialdN (q := 11) dX8_makeThrow_10 rfl (by first | assumption | exact up_eq | exact (up_ne (by omega)).trans (by first | assumption | exact up_eq | exact (up_ne (by omega)).trans (by first | assumption | exact up_eq | exact (up_ne (by omega)).trans (by first | assumption | exact up_eq)))) (by omega) (by omega) (by omega) rfl f1 ?_
  refine V_iload_n (q := 12) dX8_makeThrow_11 rfl rfl ?_
  refine CrX8_89 (q := 15) rfl dX8_makeThrow_12 rfl (m_behind hs hh) ⟨(Nat.le_of_ble_eq_true rfl), (Nat.le_of_ble_eq_true rfl)⟩ (Nat.le_of_ble_eq_true rfl) (Nat.zero_le _) (Nat.zero_le _) ?_
  have fin2 : ∀ d e, d = nI (sU N + (if 0 < h then 1 else 0)) → e = nI (max (sH N) h) → RN (upd (upd (upd (upd (upd F 1 (nI (behN (sS N) h))) 3 (nI (sB N + 1))) 4 (nI (sT N + 1))) 5 d) 6 e) (thrS N h) := by
    intro d e hd he
    refine fin _ ((updN (by decide)).trans ((updN (by decide)).trans ((updN (by decide)).trans ((updN (by decide)).trans ((updN (by decide)).trans (rfl)))))) ((updN (by decide)).trans ((updN (by decide)).trans ((updN (by decide)).trans ((updN (by decide)).trans (updI))))) ((updN (by decide)).trans ((updN (by decide)).trans ((updN (by decide)).trans ((updN (by decide)).trans ((updN (by decide)).trans (rfl)))))) ((updN (by decide)).trans ((updN (by decide)).trans ((updN (by decide)).trans (updI)))) ((updN (by decide)).trans ((updN (by decide)).trans (updI))) ((updN (by decide)).trans (updI.trans hd)) (updI.trans he) ((updN (by decide)).trans ((updN (by decide)).trans ((updN (by decide)).trans ((updN (by decide)).trans ((updN (by decide)).trans (rfl)))))) ((updN (by decide)).trans ((updN (by decide)).trans ((updN (by decide)).trans ((updN (by decide)).trans ((updN (by decide)).trans (rfl)))))) (fun k hk => ?_)
    rw [updN (by omega), updN (by omega), updN (by omega), updN (by omega), updN (by omega)]
  refine V_iastN (q := 16) dX8_makeThrow_15 rfl (by first | assumption | exact up_eq | exact (up_ne (by omega)).trans (by first | assumption | exact up_eq | exact (up_ne (by omega)).trans (by first | assumption | exact up_eq | exact (up_ne (by omega)).trans (by first | assumption | exact up_eq)))) (by omega) (by omega) (by omega) rfl (by rfl) ?_
  refine V_aload_n (q := 17) dX8_makeThrow_16 rfl rfl rfl ?_
  refine GX8_9 (q := 20) rfl dX8_makeThrow_17 rfl (by first | assumption | exact up_eq | exact (up_ne (by omega)).trans (by first | assumption | exact up_eq | exact (up_ne (by omega)).trans (by first | assumption | exact up_eq | exact (up_ne (by omega)).trans (by first | assumption | exact up_eq)))) (by omega) (by rfl) ?_
  refine V_iconst (q := 21) (v := nI 3) dX8_makeThrow_20 rfl (by decide) ?_
  refine V_dup2 (q := 22) dX8_makeThrow_21 rfl rfl rfl ?_
  refine V_ialdN (q := 23) dX8_makeThrow_22 rfl (by first | assumption | exact up_eq | exact (up_ne (by omega)).trans (by first | assumption | exact up_eq | exact (up_ne (by omega)).trans (by first | assumption | exact up_eq | exact (up_ne (by omega)).trans (by first | assumption | exact up_eq)))) (by omega) (by omega) (by omega) rfl ((updN (by decide)).trans (f3)) ?_
  refine V_iconst (q := 24) (v := nI 1) dX8_makeThrow_23 rfl (by decide) ?_
  refine V_iadd (q := 25) dX8_makeThrow_24 rfl (by first | exact nI_add _ _ | rfl) ?_
  refine V_iastN (q := 26) dX8_makeThrow_25 rfl (by first | assumption | exact up_eq | exact (up_ne (by omega)).trans (by first | assumption | exact up_eq | exact (up_ne (by omega)).trans (by first | assumption | exact up_eq | exact (up_ne (by omega)).trans (by first | assumption | exact up_eq)))) (by omega) (by omega) (by omega) rfl (by rfl) ?_
  refine V_aload_n (q := 27) dX8_makeThrow_26 rfl rfl rfl ?_
  refine GX8_9 (q := 30) rfl dX8_makeThrow_27 rfl (by first | assumption | exact up_eq | exact (up_ne (by omega)).trans (by first | assumption | exact up_eq | exact (up_ne (by omega)).trans (by first | assumption | exact up_eq | exact (up_ne (by omega)).trans (by first | assumption | exact up_eq)))) (by omega) (by rfl) ?_
  refine V_iconst (q := 31) (v := nI 4) dX8_makeThrow_30 rfl (by decide) ?_
  refine V_dup2 (q := 32) dX8_makeThrow_31 rfl rfl rfl ?_
  refine V_ialdN (q := 33) dX8_makeThrow_32 rfl (by first | assumption | exact up_eq | exact (up_ne (by omega)).trans (by first | assumption | exact up_eq | exact (up_ne (by omega)).trans (by first | assumption | exact up_eq | exact (up_ne (by omega)).trans (by first | assumption | exact up_eq)))) (by omega) (by omega) (by omega) rfl ((updN (by decide)).trans ((updN (by decide)).trans (f4))) ?_
  refine V_iconst (q := 34) (v := nI 1) dX8_makeThrow_33 rfl (by decide) ?_
  refine V_iadd (q := 35) dX8_makeThrow_34 rfl (by first | exact nI_add _ _ | rfl) ?_
  refine V_iastN (q := 36) dX8_makeThrow_35 rfl (by first | assumption | exact up_eq | exact (up_ne (by omega)).trans (by first | assumption | exact up_eq | exact (up_ne (by omega)).trans (by first | assumption | exact up_eq | exact (up_ne (by omega)).trans (by first | assumption | exact up_eq)))) (by omega) (by omega) (by omega) rfl (by rfl) ?_
  rw [up_up, up_up]
  refine V_aload_n (q := 37) dX8_makeThrow_36 rfl rfl rfl ?_
  refine GX8_9 (q := 40) rfl dX8_makeThrow_37 rfl (by first | assumption | exact up_eq | exact (up_ne (by omega)).trans (by first | assumption | exact up_eq | exact (up_ne (by omega)).trans (by first | assumption | exact up_eq | exact (up_ne (by omega)).trans (by first | assumption | exact up_eq)))) (by omega) (by rfl) ?_
  refine V_iconst (q := 41) (v := nI 5) dX8_makeThrow_40 rfl (by decide) ?_
  refine V_dup2 (q := 42) dX8_makeThrow_41 rfl rfl rfl ?_
  refine V_ialdN (q := 43) dX8_makeThrow_42 rfl (by first | assumption | exact up_eq | exact (up_ne (by omega)).trans (by first | assumption | exact up_eq | exact (up_ne (by omega)).trans (by first | assumption | exact up_eq | exact (up_ne (by omega)).trans (by first | assumption | exact up_eq)))) (by omega) (by omega) (by omega) rfl ((updN (by decide)).trans ((updN (by decide)).trans ((updN (by decide)).trans (f5)))) ?_
  refine V_iload_n (q := 44) dX8_makeThrow_43 rfl rfl ?_
  refine V_ifN_le (q := 47) (tgt := 51) dX8_makeThrow_44 (by decide) rfl (by omega) (fun q1 => ?_) (fun q1 => ?_)
  · skip
    refine V_iconst (q := 52) (v := nI 0) dX8_makeThrow_51 rfl (by decide) ?_
    refine V_iadd (q := 53) dX8_makeThrow_52 rfl (by first | exact nI_add _ _ | rfl) ?_
    refine V_iastN (q := 54) dX8_makeThrow_53 rfl (by first | assumption | exact up_eq | exact (up_ne (by omega)).trans (by first | assumption | exact up_eq | exact (up_ne (by omega)).trans (by first | assumption | exact up_eq | exact (up_ne (by omega)).trans (by first | assumption | exact up_eq)))) (by omega) (by omega) (by omega) rfl (by rfl) ?_
    refine V_aload_n (q := 55) dX8_makeThrow_54 rfl rfl rfl ?_
    refine GX8_9 (q := 58) rfl dX8_makeThrow_55 rfl (by first | assumption | exact up_eq | exact (up_ne (by omega)).trans (by first | assumption | exact up_eq | exact (up_ne (by omega)).trans (by first | assumption | exact up_eq | exact (up_ne (by omega)).trans (by first | assumption | exact up_eq)))) (by omega) (by rfl) ?_
    refine V_bipush (q := 60) (v := nI 6) dX8_makeThrow_58 rfl (by decide) ?_
    refine V_iload_n (q := 61) dX8_makeThrow_60 rfl rfl ?_
    refine V_aload_n (q := 62) dX8_makeThrow_61 rfl rfl rfl ?_
    refine GX8_9 (q := 65) rfl dX8_makeThrow_62 rfl (by first | assumption | exact up_eq | exact (up_ne (by omega)).trans (by first | assumption | exact up_eq | exact (up_ne (by omega)).trans (by first | assumption | exact up_eq | exact (up_ne (by omega)).trans (by first | assumption | exact up_eq)))) (by omega) (by rfl) ?_
    refine V_bipush (q := 67) (v := nI 6) dX8_makeThrow_65 rfl (by decide) ?_
    refine V_ialdN (q := 68) dX8_makeThrow_67 rfl (by first | assumption | exact up_eq | exact (up_ne (by omega)).trans (by first | assumption | exact up_eq | exact (up_ne (by omega)).trans (by first | assumption | exact up_eq | exact (up_ne (by omega)).trans (by first | assumption | exact up_eq)))) (by omega) (by omega) (by omega) rfl ((updN (by decide)).trans ((updN (by decide)).trans ((updN (by decide)).trans ((updN (by decide)).trans (f6))))) ?_
    refine V_icmpN_le (q := 71) (tgt := 75) dX8_makeThrow_68 (by decide) rfl (by omega) (by omega) (fun q2 => ?_) (fun q2 => ?_)
    · skip
      refine V_aload_n (q := 76) dX8_makeThrow_75 rfl rfl rfl ?_
      refine GX8_9 (q := 79) rfl dX8_makeThrow_76 rfl (by first | assumption | exact up_eq | exact (up_ne (by omega)).trans (by first | assumption | exact up_eq | exact (up_ne (by omega)).trans (by first | assumption | exact up_eq | exact (up_ne (by omega)).trans (by first | assumption | exact up_eq)))) (by omega) (by rfl) ?_
      refine V_bipush (q := 81) (v := nI 6) dX8_makeThrow_79 rfl (by decide) ?_
      refine V_ialdN (q := 82) dX8_makeThrow_81 rfl (by first | assumption | exact up_eq | exact (up_ne (by omega)).trans (by first | assumption | exact up_eq | exact (up_ne (by omega)).trans (by first | assumption | exact up_eq | exact (up_ne (by omega)).trans (by first | assumption | exact up_eq)))) (by omega) (by omega) (by omega) rfl ((updN (by decide)).trans ((updN (by decide)).trans ((updN (by decide)).trans ((updN (by decide)).trans (f6))))) ?_
      refine V_iastN (q := 83) dX8_makeThrow_82 rfl (by first | assumption | exact up_eq | exact (up_ne (by omega)).trans (by first | assumption | exact up_eq | exact (up_ne (by omega)).trans (by first | assumption | exact up_eq | exact (up_ne (by omega)).trans (by first | assumption | exact up_eq)))) (by omega) (by omega) (by omega) rfl (by rfl) ?_
      exact V_vret dX8_makeThrow_83 rfl (Nat.le_of_ble_eq_true rfl) (Nat.le_of_ble_eq_true rfl) (⟨rfl, rfl, _, fin2 _ _ (by rw [if_neg (by omega)]) (by rw [Nat.max_eq_left (by omega)]), by rw [up_up, up_up]⟩)
    · skip
      refine V_iload_n (q := 72) dX8_makeThrow_71 rfl rfl ?_
      refine V_goto (tgt := 82) dX8_makeThrow_72 (by decide) ?_
      refine V_iastN (q := 83) dX8_makeThrow_82 rfl (by first | assumption | exact up_eq | exact (up_ne (by omega)).trans (by first | assumption | exact up_eq | exact (up_ne (by omega)).trans (by first | assumption | exact up_eq | exact (up_ne (by omega)).trans (by first | assumption | exact up_eq)))) (by omega) (by omega) (by omega) rfl (by rfl) ?_
      exact V_vret dX8_makeThrow_83 rfl (Nat.le_of_ble_eq_true rfl) (Nat.le_of_ble_eq_true rfl) (⟨rfl, rfl, _, fin2 _ _ (by rw [if_neg (by omega)]) (by rw [Nat.max_eq_right (by omega)]), by rw [up_up, up_up]⟩)
  · skip
    refine V_iconst (q := 48) (v := nI 1) dX8_makeThrow_47 rfl (by decide) ?_
    refine V_goto (tgt := 52) dX8_makeThrow_48 (by decide) ?_
    refine V_iadd (q := 53) dX8_makeThrow_52 rfl (by first | exact nI_add _ _ | rfl) ?_
    refine V_iastN (q := 54) dX8_makeThrow_53 rfl (by first | assumption | exact up_eq | exact (up_ne (by omega)).trans (by first | assumption | exact up_eq | exact (up_ne (by omega)).trans (by first | assumption | exact up_eq | exact (up_ne (by omega)).trans (by first | assumption | exact up_eq)))) (by omega) (by omega) (by omega) rfl (by rfl) ?_
    refine V_aload_n (q := 55) dX8_makeThrow_54 rfl rfl rfl ?_
    refine GX8_9 (q := 58) rfl dX8_makeThrow_55 rfl (by first | assumption | exact up_eq | exact (up_ne (by omega)).trans (by first | assumption | exact up_eq | exact (up_ne (by omega)).trans (by first | assumption | exact up_eq | exact (up_ne (by omega)).trans (by first | assumption | exact up_eq)))) (by omega) (by rfl) ?_
    refine V_bipush (q := 60) (v := nI 6) dX8_makeThrow_58 rfl (by decide) ?_
    refine V_iload_n (q := 61) dX8_makeThrow_60 rfl rfl ?_
    refine V_aload_n (q := 62) dX8_makeThrow_61 rfl rfl rfl ?_
    refine GX8_9 (q := 65) rfl dX8_makeThrow_62 rfl (by first | assumption | exact up_eq | exact (up_ne (by omega)).trans (by first | assumption | exact up_eq | exact (up_ne (by omega)).trans (by first | assumption | exact up_eq | exact (up_ne (by omega)).trans (by first | assumption | exact up_eq)))) (by omega) (by rfl) ?_
    refine V_bipush (q := 67) (v := nI 6) dX8_makeThrow_65 rfl (by decide) ?_
    refine V_ialdN (q := 68) dX8_makeThrow_67 rfl (by first | assumption | exact up_eq | exact (up_ne (by omega)).trans (by first | assumption | exact up_eq | exact (up_ne (by omega)).trans (by first | assumption | exact up_eq | exact (up_ne (by omega)).trans (by first | assumption | exact up_eq)))) (by omega) (by omega) (by omega) rfl ((updN (by decide)).trans ((updN (by decide)).trans ((updN (by decide)).trans ((updN (by decide)).trans (f6))))) ?_
    refine V_icmpN_le (q := 71) (tgt := 75) dX8_makeThrow_68 (by decide) rfl (by omega) (by omega) (fun q2 => ?_) (fun q2 => ?_)
    · skip
      refine V_aload_n (q := 76) dX8_makeThrow_75 rfl rfl rfl ?_
      refine GX8_9 (q := 79) rfl dX8_makeThrow_76 rfl (by first | assumption | exact up_eq | exact (up_ne (by omega)).trans (by first | assumption | exact up_eq | exact (up_ne (by omega)).trans (by first | assumption | exact up_eq | exact (up_ne (by omega)).trans (by first | assumption | exact up_eq)))) (by omega) (by rfl) ?_
      refine V_bipush (q := 81) (v := nI 6) dX8_makeThrow_79 rfl (by decide) ?_
      refine V_ialdN (q := 82) dX8_makeThrow_81 rfl (by first | assumption | exact up_eq | exact (up_ne (by omega)).trans (by first | assumption | exact up_eq | exact (up_ne (by omega)).trans (by first | assumption | exact up_eq | exact (up_ne (by omega)).trans (by first | assumption | exact up_eq)))) (by omega) (by omega) (by omega) rfl ((updN (by decide)).trans ((updN (by decide)).trans ((updN (by decide)).trans ((updN (by decide)).trans (f6))))) ?_
      refine V_iastN (q := 83) dX8_makeThrow_82 rfl (by first | assumption | exact up_eq | exact (up_ne (by omega)).trans (by first | assumption | exact up_eq | exact (up_ne (by omega)).trans (by first | assumption | exact up_eq | exact (up_ne (by omega)).trans (by first | assumption | exact up_eq)))) (by omega) (by omega) (by omega) rfl (by rfl) ?_
      exact V_vret dX8_makeThrow_83 rfl (Nat.le_of_ble_eq_true rfl) (Nat.le_of_ble_eq_true rfl) (⟨rfl, rfl, _, fin2 _ _ (by rw [if_pos q1]) (by rw [Nat.max_eq_left (by omega)]), by rw [up_up, up_up]⟩)
    · skip
      refine V_iload_n (q := 72) dX8_makeThrow_71 rfl rfl ?_
      refine V_goto (tgt := 82) dX8_makeThrow_72 (by decide) ?_
      refine V_iastN (q := 83) dX8_makeThrow_82 rfl (by first | assumption | exact up_eq | exact (up_ne (by omega)).trans (by first | assumption | exact up_eq | exact (up_ne (by omega)).trans (by first | assumption | exact up_eq | exact (up_ne (by omega)).trans (by first | assumption | exact up_eq)))) (by omega) (by omega) (by omega) rfl (by rfl) ?_
      exact V_vret dX8_makeThrow_83 rfl (Nat.le_of_ble_eq_true rfl) (Nat.le_of_ble_eq_true rfl) (⟨rfl, rfl, _, fin2 _ _ (by rw [if_pos q1]) (by rw [Nat.max_eq_right (by omega)]), by rw [up_up, up_up]⟩)
end MB
