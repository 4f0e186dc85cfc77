/-! the model: changes -/
def pkC (K : MS) (pk : Nat) : Nat := if kIn K = 1 then pk else min (pk + 1) 8
def hsC (K : MS) (N : StT) (Hs : Nat → StT) : Nat → StT := if kIn K = 1 then Hs else conS N Hs
def kOp (K : MS) (d : Option (Int32 × Int32)) (a b : Int32) : MS := match d with
  | none => (a, kRe K, kDe K, kIT K, kCm K, kSv K, kIn K, b, kWr K, kRd K, kAt K, kWh K, kOn K, kOt K, kTh K, kWg K)
  | some x => (a, x.1, x.2, (if kIn K = 0 then -1 else kCm K), kCm K, kSv K, kIn K, b, kWr K, kRd K, kAt K, kWh K, kOn K, kOt K, kTh K, kWg K)
def MOP (g : GG) (w : HW) (n p : Nat) (K : MS) (Fs Fb : Nat → Int32) (pk : Nat) (Hs : Nat → StT) (C T : Nat → Int32) (N : StT) (res : OpR) : Int32 → HW → Prop := fun y w' => y = res.1 ∧ (∃ b F' pk' Hs', MBd g w' n p (kOp K res.2.2 (nI pk') b) F' Fs Fb pk' Hs' C T ∧ RN F' res.2.1 ∧ (pk', Hs') = (if isErr res.1 then (pk, Hs) else (pkC K pk, hsC K N Hs))) ∧ FrM w w' p
theorem RN.row {F F' : Nat → Int32} {N : StT} (h : RN F N) {i : Nat} (hi : i < sC N) {h' : Nat → Nat} (hF : ∀ k, (k < 9 + 9 * i + 1 ∨ 9 + 9 * i + 1 + (sR N i).1 ≤ k) → F' k = F k) (hr : ∀ j, j < (sR N i).1 → F' (9 + 9 * i + 1 + j) = nI (h' j) ∧ h' j ≤ 9) : RN F' (setR N i ((sR N i).1, h')) := by
  obtain ⟨⟨f0, f1, f2, f3, f4, f5, f6, f7, f8⟩, hr2, hN, hS, hB⟩ := h
  have hLi := (hN.2 i hi).2.1
  refine ⟨⟨(hF _ (by omega)).trans f0, (hF _ (by omega)).trans f1, (hF _ (by omega)).trans f2, (hF _ (by omega)).trans f3, (hF _ (by omega)).trans f4, (hF _ (by omega)).trans f5, (hF _ (by omega)).trans f6, (hF _ (by omega)).trans f7, (hF _ (by omega)).trans f8⟩, fun k hk => ?_, ⟨hN.1, fun k hk => ?_⟩, hS, hB⟩
  · have hLk := (hN.2 k hk).2.1
    show F' (9 + 9 * k) = nI (if k = i then ((sR N i).1, h') else sR N k).1 ∧ ∀ j, j < (if k = i then ((sR N i).1, h') else sR N k).1 → F' (9 + 9 * k + 1 + j) = nI ((if k = i then ((sR N i).1, h') else sR N k).2 j)
    by_cases e : k = i
    · subst e
      rw [if_pos rfl]
      exact ⟨(hF _ (by omega)).trans (hr2 k hk).1, fun j hj => (hr j hj).1⟩
    · rw [if_neg e]
      exact ⟨(hF _ (by omega)).trans (hr2 k hk).1, fun j hj => (hF _ (by omega)).trans ((hr2 k hk).2 j hj)⟩
  · show 0 < (if k = i then ((sR N i).1, h') else sR N k).1 ∧ (if k = i then ((sR N i).1, h') else sR N k).1 ≤ 8 ∧ ∀ j, j < (if k = i then ((sR N i).1, h') else sR N k).1 → (if k = i then ((sR N i).1, h') else sR N k).2 j ≤ 9
    by_cases e : k = i
    · subst e
      rw [if_pos rfl]
      exact ⟨(hN.2 k hk).1, (hN.2 k hk).2.1, fun j hj => (hr j hj).2⟩
    · rw [if_neg e]
      exact hN.2 k hk
section MO
variable {g : GG} {l : Launch} {w : HW} {n p : Nat} {K : MS} {F Fs Fb : Nat → Int32} {pk : Nat} {Hs : Nat → StT} {C T : Nat → Int32} {N : StT}
theorem MBd.kk (h : MBd g w n p K F Fs Fb pk Hs C T) : MBd g w n p (kOp K none (nI pk) (kLn K)) F Fs Fb pk Hs C T := by
  have e := h.2.2.2.2.2.2.2.2.2.1
  rw [← e]
  exact h
theorem MOP.no (h : MBd g w n p K F Fs Fb pk Hs C T) (hR : RN F N) {x : Int32} (hx : isErr x) : MOP g w n p K Fs Fb pk Hs C T N (x, N, none) x w := ⟨rfl, ⟨kLn K, F, pk, Hs, h.kk, hR, by rw [if_pos hx]⟩, FrM.rf⟩
theorem MOP.ref {w' : HW} (h0 : MBd g w n p K F Fs Fb pk Hs C T) {x y : Int32} (h : MBd g w' n p (setRf K x y (if kIn K = 0 then -1 else kCm K)) F Fs Fb pk Hs C T) (hR : RN F N) (hF : FrM w w' p) : MOP g w n p K Fs Fb pk Hs C T N (-3, N, some (x, y)) (-3) w' := by
  refine ⟨rfl, ⟨kLn K, F, pk, Hs, ?_, hR, by rw [if_pos (show isErr (-3 : Int32) by decide)]⟩, hF⟩
  have e := h0.2.2.2.2.2.2.2.2.2.1
  show MBd g w' n p (nI pk, x, y, _, _, _, _, _, _, _, _, _, _, _, _, _) F Fs Fb pk Hs C T
  rw [← e]
  exact h
theorem MOP.yes {w' : HW} {F' : Nat → Int32} {N' : StT} {x b : Int32} (h : MBd g w' n p (setLn (setKp K (nI (pkC K pk))) b) F' Fs Fb (pkC K pk) (hsC K N Hs) C T) (hR : RN F' N') (hx : ¬ isErr x) (hF : FrM w w' p) : MOP g w n p K Fs Fb pk Hs C T N (x, N', none) x w' := ⟨rfl, ⟨b, F', pkC K pk, hsC K N Hs, h, hR, by rw [if_neg hx]⟩, hF⟩
theorem m_chg (h : MBd g w n p K F Fs Fb pk Hs C T) (hI : kIn K = 0 ∨ kIn K = 1) (hR : RN F N) : CtV g l MX8_change 2 [rf g p] w n (fun w' => MBd g w' n p (setKp K (nI (pkC K pk))) F Fs Fb (pkC K pk) (hsC K N Hs) C T ∧ FrM w w' p) := by
  rcases hI with hI | hI
  · have e1 : pkC K pk = min (pk + 1) 8 := if_neg (by rw [hI]; decide)
    have e2 : hsC K N Hs = conS N Hs := if_neg (by rw [hI]; decide)
    rw [e1, e2]
    exact m_change h hI hR
  · have e1 : pkC K pk = pk := if_pos hI
    have e2 : hsC K N Hs = Hs := if_pos hI
    rw [e1, e2]
    refine (m_change_in (l := l) h hI).mono (fun v w' n' q => ?_)
    obtain ⟨q1, q2, rfl⟩ := q
    have e := h.2.2.2.2.2.2.2.2.2.1
    refine ⟨q1, q2, ?_, FrM.rf⟩
    rw [← e]
    exact h
theorem pop_all : ∀ k, k < 9 → popc (2 ^ k - 1) = k := by decide +kernel
theorem M_begin (h : MBd g w n p K F Fs Fb pk Hs C T) (hI : kIn K = 0 ∨ kIn K = 1) (hR : RN F N) {x : Int32} : CtI g l MX8_begin 3 [rf g p, .int x] w n (MOP g w n p K Fs Fb pk Hs C T N (beginA x N)) := by
  have h0 := h.1
  have hn := h.2.2.2.2.2.2.2.2.1
  rcases i3_lt x 9 (by decide) with hx | ⟨k, hk, rfl⟩
  · rw [show beginA x N = (-2, N, none) by unfold beginA; rw [idx_no hx]]
    refine Ct.ofs (M := MX8_begin) (ls := [some _, some _]) (by decide +kernel) (by exact (Nat.le_of_ble_eq_true rfl)) (by rfl) (by rfl) (by rfl) ?_
    refine V_iload_n (q := 1) dX8_begin_0 rfl rfl ?_
    refine V_iconst (q := 2) (v := nI 1) dX8_begin_1 rfl (by decide) ?_
    refine V_bipush (q := 4) (v := nI 8) dX8_begin_2 rfl (by decide) ?_
    refine CrX8_71 (q := 7) rfl dX8_begin_4 rfl (c_between) ⟨(Nat.le_of_ble_eq_true rfl), (Nat.le_of_ble_eq_true rfl)⟩ (Nat.le_of_ble_eq_true rfl) (Nat.zero_le _) (Nat.zero_le _) ?_
    refine V_topi (if_neg (fun q => ?_)) ?_
    · rcases hx with hx | hx
      · exact (fa_of_lt (fa_trans hx (by decide : (0 : Int32) ≤ nI 1))).2.1 q.1
      · exact (fa_of_lt (fa_trans (by decide : nI 8 < nI 9) hx)).2.1 q.2
    refine V_if_ne (q := 10) (tgt := 13) dX8_begin_7 (by decide) rfl (fun h9 => absurd rfl h9) (fun _ => ?_)
    refine V_bipush (q := 12) (v := (-2)) dX8_begin_10 rfl (by decide) ?_
    exact V_iret dX8_begin_12 rfl (Nat.le_of_ble_eq_true rfl) (Nat.le_of_ble_eq_true rfl) (⟨rfl, _, rfl, MOP.no h hR (by decide)⟩)
  by_cases hk0 : k = 0
  · rw [show beginA (nI k) N = (-2, N, none) by unfold beginA; rw [idx_yes hk (by decide)]; exact if_pos hk0]
    refine Ct.ofs (M := MX8_begin) (ls := [some _, some _]) (by decide +kernel) (by exact (Nat.le_of_ble_eq_true rfl)) (by rfl) (by rfl) (by rfl) ?_
    refine V_iload_n (q := 1) dX8_begin_0 rfl rfl ?_
    refine V_iconst (q := 2) (v := nI 1) dX8_begin_1 rfl (by decide) ?_
    refine V_bipush (q := 4) (v := nI 8) dX8_begin_2 rfl (by decide) ?_
    refine CrX8_71 (q := 7) rfl dX8_begin_4 rfl (c_between) ⟨(Nat.le_of_ble_eq_true rfl), (Nat.le_of_ble_eq_true rfl)⟩ (Nat.le_of_ble_eq_true rfl) (Nat.zero_le _) (Nat.zero_le _) ?_
    refine V_topi (if_neg (fun q => ?_)) ?_
    · rw [hk0] at q
      exact absurd q.1 (by decide)
    refine V_if_ne (q := 10) (tgt := 13) dX8_begin_7 (by decide) rfl (fun h9 => absurd rfl h9) (fun _ => ?_)
    refine V_bipush (q := 12) (v := (-2)) dX8_begin_10 rfl (by decide) ?_
    exact V_iret dX8_begin_12 rfl (Nat.le_of_ble_eq_true rfl) (Nat.le_of_ble_eq_true rfl) (⟨rfl, _, rfl, MOP.no h hR (by decide)⟩)
  · rw [show beginA (nI k) N = (nI (2 ^ k - 1), begS N k, none) by unfold beginA; rw [idx_yes hk (by decide)]; exact if_neg hk0]
    have hp : 2 ^ k < 2 ^ 9 := Nat.pow_lt_pow_right (by decide) hk
    have hp0 := Nat.two_pow_pos k
    refine Ct.ofs (M := MX8_begin) (ls := [some _, some _]) (by decide +kernel) (by exact (Nat.le_of_ble_eq_true rfl)) (by rfl) (by rfl) (by rfl) ?_
    refine V_iload_n (q := 1) dX8_begin_0 rfl rfl ?_
    refine V_iconst (q := 2) (v := nI 1) dX8_begin_1 rfl (by decide) ?_
    refine V_bipush (q := 4) (v := nI 8) dX8_begin_2 rfl (by decide) ?_
    refine CrX8_71 (q := 7) rfl dX8_begin_4 rfl (c_between) ⟨(Nat.le_of_ble_eq_true rfl), (Nat.le_of_ble_eq_true rfl)⟩ (Nat.le_of_ble_eq_true rfl) (Nat.zero_le _) (Nat.zero_le _) ?_
    refine V_topi (if_pos ⟨(nI_leI (by decide) (by omega)).mpr (by omega), (nI_leI (by omega) (by decide)).mpr (by omega)⟩) ?_
    refine V_if_ne (q := 10) (tgt := 13) dX8_begin_7 (by decide) rfl (fun _ => ?_) (fun h9 => absurd h9 (by decide))
    refine V_aload_n (q := 14) dX8_begin_13 rfl rfl rfl ?_
    refine CvX8_116 (q := 17) rfl dX8_begin_14 rfl (m_chg h hI hR) ⟨(Nat.le_of_ble_eq_true rfl), (Nat.le_of_ble_eq_true rfl)⟩ (Nat.le_of_ble_eq_true rfl) (by first | assumption | exact up_eq | exact (up_ne (by omega)).trans (by first | assumption | exact up_eq | exact (up_ne (by omega)).trans (by first | assumption | exact up_eq | exact (up_ne (by omega)).trans (by first | assumption | exact up_eq)))) (by omega) (Nat.zero_le _) (Nat.zero_le _) (fun w1 hw1 => ?_)
    obtain ⟨hM1, hF1⟩ := hw1
    have b0 := hM1.1
    have b1 := hM1.2.1
    obtain ⟨⟨f0, f1, f2, f3, f4, f5, f6, f7, f8⟩, hr, hN, hS, hB⟩ := hR
    refine V_aload_n (q := 18) dX8_begin_17 rfl rfl rfl ?_
    refine GX8_9 (q := 21) rfl dX8_begin_18 rfl (by first | assumption | exact up_eq | exact (up_ne (by omega)).trans (by first | assumption | exact up_eq | exact (up_ne (by omega)).trans (by first | assumption | exact up_eq | exact (up_ne (by omega)).trans (by first | assumption | exact up_eq)))) (by omega) (by rfl) ?_
    refine V_iconst (q := 22) (v := nI 1) dX8_begin_21 rfl (by decide) ?_
    refine V_iconst (q := 23) (v := nI 1) dX8_begin_22 rfl (by decide) ?_
    refine V_iload_n (q := 24) dX8_begin_23 rfl rfl ?_
    refine V_ishl (q := 25) dX8_begin_24 rfl (shl1 (by omega)) ?_
    refine V_iconst (q := 26) (v := nI 1) dX8_begin_25 rfl (by decide) ?_
    refine V_isub (q := 27) dX8_begin_26 rfl (by first | exact pk_sub (by omega) | rfl) ?_
    refine V_iastN (q := 28) dX8_begin_27 rfl (by first | assumption | exact up_eq | exact (up_ne (by omega)).trans (by first | assumption | exact up_eq | exact (up_ne (by omega)).trans (by first | assumption | exact up_eq | exact (up_ne (by omega)).trans (by first | assumption | exact up_eq)))) (by omega) (by omega) (by omega) rfl (by rfl) ?_
    refine V_aload_n (q := 29) dX8_begin_28 rfl rfl rfl ?_
    refine GX8_9 (q := 32) rfl dX8_begin_29 rfl (by first | assumption | exact up_eq | exact (up_ne (by omega)).trans (by first | assumption | exact up_eq | exact (up_ne (by omega)).trans (by first | assumption | exact up_eq | exact (up_ne (by omega)).trans (by first | assumption | exact up_eq)))) (by omega) (by rfl) ?_
    refine V_iconst (q := 33) (v := nI 2) dX8_begin_32 rfl (by decide) ?_
    refine V_iload_n (q := 34) dX8_begin_33 rfl rfl ?_
    refine V_iastN (q := 35) dX8_begin_34 rfl (by first | assumption | exact up_eq | exact (up_ne (by omega)).trans (by first | assumption | exact up_eq | exact (up_ne (by omega)).trans (by first | assumption | exact up_eq | exact (up_ne (by omega)).trans (by first | assumption | exact up_eq)))) (by omega) (by omega) (by omega) rfl (by rfl) ?_
    refine V_aload_n (q := 36) dX8_begin_35 rfl rfl rfl ?_
    refine GX8_9 (q := 39) rfl dX8_begin_36 rfl (by first | assumption | exact up_eq | exact (up_ne (by omega)).trans (by first | assumption | exact up_eq | exact (up_ne (by omega)).trans (by first | assumption | exact up_eq | exact (up_ne (by omega)).trans (by first | assumption | exact up_eq)))) (by omega) (by rfl) ?_
    refine V_iconst (q := 40) (v := nI 3) dX8_begin_39 rfl (by decide) ?_
    refine V_iconst (q := 41) (v := nI 0) dX8_begin_40 rfl (by decide) ?_
    refine V_iastN (q := 42) dX8_begin_41 rfl (by first | assumption | exact up_eq | exact (up_ne (by omega)).trans (by first | assumption | exact up_eq | exact (up_ne (by omega)).trans (by first | assumption | exact up_eq | exact (up_ne (by omega)).trans (by first | assumption | exact up_eq)))) (by omega) (by omega) (by omega) rfl (by rfl) ?_
    rw [up_up, up_up]
    refine V_aload_n (q := 43) dX8_begin_42 rfl rfl rfl ?_
    refine GX8_9 (q := 46) rfl dX8_begin_43 rfl (by first | assumption | exact up_eq | exact (up_ne (by omega)).trans (by first | assumption | exact up_eq | exact (up_ne (by omega)).trans (by first | assumption | exact up_eq | exact (up_ne (by omega)).trans (by first | assumption | exact up_eq)))) (by omega) (by rfl) ?_
    refine V_bipush (q := 48) (v := nI 8) dX8_begin_46 rfl (by decide) ?_
    refine V_dup2 (q := 49) dX8_begin_48 rfl rfl rfl ?_
    refine V_ialdN (q := 50) dX8_begin_49 rfl (by first | assumption | exact up_eq | exact (up_ne (by omega)).trans (by first | assumption | exact up_eq | exact (up_ne (by omega)).trans (by first | assumption | exact up_eq | exact (up_ne (by omega)).trans (by first | assumption | exact up_eq)))) (by omega) (by omega) (by omega) rfl ((updN (by decide)).trans ((updN (by decide)).trans ((updN (by decide)).trans f8))) ?_
    refine V_iconst (q := 51) (v := nI 1) dX8_begin_50 rfl (by decide) ?_
    refine V_iadd (q := 52) dX8_begin_51 rfl (by first | exact nI_add _ _ | rfl) ?_
    refine V_iastN (q := 53) dX8_begin_52 rfl (by first | assumption | exact up_eq | exact (up_ne (by omega)).trans (by first | assumption | exact up_eq | exact (up_ne (by omega)).trans (by first | assumption | exact up_eq | exact (up_ne (by omega)).trans (by first | assumption | exact up_eq)))) (by omega) (by omega) (by omega) rfl (by rfl) ?_
    refine V_aload_n (q := 54) dX8_begin_53 rfl rfl rfl ?_
    refine GX8_9 (q := 57) rfl dX8_begin_54 rfl (by first | assumption | exact up_eq | exact (up_ne (by omega)).trans (by first | assumption | exact up_eq | exact (up_ne (by omega)).trans (by first | assumption | exact up_eq | exact (up_ne (by omega)).trans (by first | assumption | exact up_eq)))) (by omega) (by rfl) ?_
    refine V_iconst (q := 58) (v := nI 1) dX8_begin_57 rfl (by decide) ?_
    refine V_ialdN (q := 59) dX8_begin_58 rfl (by first | assumption | exact up_eq | exact (up_ne (by omega)).trans (by first | assumption | exact up_eq | exact (up_ne (by omega)).trans (by first | assumption | exact up_eq | exact (up_ne (by omega)).trans (by first | assumption | exact up_eq)))) (by omega) (by omega) (by omega) rfl ((updN (by decide)).trans ((updN (by decide)).trans ((updN (by decide)).trans updI))) ?_
    rw [up_up]
    have fin := hM1.now (F' := upd (upd (upd (upd F 1 (nI (2 ^ k - 1))) 2 (nI k)) 3 (nI 0)) 8 (nI (sG N + 1)))
    refine V_iret dX8_begin_59 rfl (Nat.le_of_ble_eq_true rfl) (Nat.le_of_ble_eq_true rfl) (⟨rfl, _, rfl, MOP.yes (b := kLn K) fin.1 ?_ (nIerr (by omega)) (hF1.tr fin.2)⟩)
    refine ⟨⟨?_, ?_, ?_, ?_, ?_, ?_, ?_, ?_, ?_⟩, fun i hi => ?_, hN, ⟨show 2 ^ k - 1 < 512 by omega, hS.2⟩, show 0 < 2 ^ 30 by decide⟩
    · rw [updN (by decide), updN (by decide), updN (by decide), updN (by decide)]; exact f0
    · rw [updN (by decide), updN (by decide), updN (by decide), updI]; rfl
    · rw [updN (by decide), updN (by decide), updI]
      show nI k = nI (popc (2 ^ k - 1))
      rw [pop_all k hk]
    · rw [updN (by decide), updI]; rfl
    · rw [updN (by decide), updN (by decide), updN (by decide), updN (by decide)]; exact f4
    · rw [updN (by decide), updN (by decide), updN (by decide), updN (by decide)]; exact f5
    · rw [updN (by decide), updN (by decide), updN (by decide), updN (by decide)]; exact f6
    · rw [updN (by decide), updN (by decide), updN (by decide), updN (by decide)]; exact f7
    · rw [updI]; rfl
    · refine ⟨?_, fun j hj => ?_⟩
      · rw [updN (by omega), updN (by omega), updN (by omega), updN (by omega)]; exact (hr i hi).1
      · rw [updN (by omega), updN (by omega), updN (by omega), updN (by omega)]; exact (hr i hi).2 j hj
theorem popc0 {s : Nat} : popc s < 2 ^ 31 := Nat.lt_of_le_of_lt (popc_le s) (by decide)
theorem M_toss (h : MBd g w n p K F Fs Fb pk Hs C T) (hI : kIn K = 0 ∨ kIn K = 1) (hR : RN F N) (hb : sB N + 2 < 2 ^ 30) {x : Int32} : CtI g l MX8_toss 3 [rf g p, .int x] w n (MOP g w n p K Fs Fb pk Hs C T N (tossA x N)) := by
  have hX := h
  obtain ⟨h0, h1, -, -, -, -, -, -, hn, -⟩ := h
  have hR' := hR
  obtain ⟨⟨f0, f1, f2, f3, f4, f5, f6, f7, f8⟩, hr, hN, hS, hB⟩ := hR
  have hpl := popc0 (s := sS N)
  rcases i3_lt x 10 (by decide) with hx | ⟨k, hk, rfl⟩
  · rw [show tossA x N = (-2, N, none) by unfold tossA; rw [idx_no hx]]
    refine Ct.ofs (M := MX8_toss) (ls := [some _, some _]) (by decide +kernel) (by exact (Nat.le_of_ble_eq_true rfl)) (by rfl) (by rfl) (by rfl) ?_
    refine V_iload_n (q := 1) dX8_toss_0 rfl rfl ?_
    refine V_iconst (q := 2) (v := nI 0) dX8_toss_1 rfl (by decide) ?_
    refine V_bipush (q := 4) (v := nI 9) dX8_toss_2 rfl (by decide) ?_
    refine CrX8_71 (q := 7) rfl dX8_toss_4 rfl (c_between) ⟨(Nat.le_of_ble_eq_true rfl), (Nat.le_of_ble_eq_true rfl)⟩ (Nat.le_of_ble_eq_true rfl) (Nat.zero_le _) (Nat.zero_le _) ?_
    refine V_topi (if_neg (bet_out (c := 10) hx (by decide))) ?_
    refine V_if_ne (q := 10) (tgt := 13) dX8_toss_7 (by decide) rfl (fun h9 => absurd rfl h9) (fun _ => ?_)
    refine V_bipush (q := 12) (v := (-2)) dX8_toss_10 rfl (by decide) ?_
    exact V_iret dX8_toss_12 rfl (Nat.le_of_ble_eq_true rfl) (Nat.le_of_ble_eq_true rfl) (⟨rfl, _, rfl, MOP.no hX hR' (by decide)⟩)
  · have ea : tossA (nI k) N = if popc (sS N) = 0 then (-3, N, some (6, nI (sB N))) else @ite _ (canN (sS N) k) (Classical.propDecidable _) (nI (sB N % 2), thrS N k, none) (-3, N, some (4, nI (sS N))) := by
      unfold tossA
      rw [idx_yes hk (by decide)]
    rw [ea]
    refine Ct.ofs (M := MX8_toss) (ls := [some _, some _]) (by decide +kernel) (by exact (Nat.le_of_ble_eq_true rfl)) (by rfl) (by rfl) (by rfl) ?_
    refine V_iload_n (q := 1) dX8_toss_0 rfl rfl ?_
    refine V_iconst (q := 2) (v := nI 0) dX8_toss_1 rfl (by decide) ?_
    refine V_bipush (q := 4) (v := nI 9) dX8_toss_2 rfl (by decide) ?_
    refine CrX8_71 (q := 7) rfl dX8_toss_4 rfl (c_between) ⟨(Nat.le_of_ble_eq_true rfl), (Nat.le_of_ble_eq_true rfl)⟩ (Nat.le_of_ble_eq_true rfl) (Nat.zero_le _) (Nat.zero_le _) ?_
    refine V_topi (if_pos (bet_in (c := 10) hk (by decide))) ?_
    refine V_if_ne (q := 10) (tgt := 13) dX8_toss_7 (by decide) rfl (fun _ => ?_) (fun h9 => absurd h9 (by decide))
    refine V_aload_n (q := 14) dX8_toss_13 rfl rfl rfl ?_
    refine V_aload_n (q := 15) dX8_toss_14 rfl rfl rfl ?_
    refine GX8_9 (q := 18) rfl dX8_toss_15 rfl (by first | assumption | exact up_eq | exact (up_ne (by omega)).trans (by first | assumption | exact up_eq | exact (up_ne (by omega)).trans (by first | assumption | exact up_eq | exact (up_ne (by omega)).trans (by first | assumption | exact up_eq)))) (by omega) (by rfl) ?_
    refine V_iconst (q := 19) (v := nI 2) dX8_toss_18 rfl (by decide) ?_
    refine V_ialdN (q := 20) dX8_toss_19 rfl (by first | assumption | exact up_eq | exact (up_ne (by omega)).trans (by first | assumption | exact up_eq | exact (up_ne (by omega)).trans (by first | assumption | exact up_eq | exact (up_ne (by omega)).trans (by first | assumption | exact up_eq)))) (by omega) (by omega) (by omega) rfl f2 ?_
    refine V_ifN_ne (q := 23) (tgt := 27) dX8_toss_20 (by decide) rfl (by omega) (fun q0 => ?_) (fun q0 => ?_)
    · skip
      rw [if_neg q0]
      refine V_iconst (q := 28) (v := nI 0) dX8_toss_27 rfl (by decide) ?_
      refine V_bipush (q := 30) (v := nI 6) dX8_toss_28 rfl (by decide) ?_
      refine V_aload_n (q := 31) dX8_toss_30 rfl rfl rfl ?_
      refine GX8_9 (q := 34) rfl dX8_toss_31 rfl (by first | assumption | exact up_eq | exact (up_ne (by omega)).trans (by first | assumption | exact up_eq | exact (up_ne (by omega)).trans (by first | assumption | exact up_eq | exact (up_ne (by omega)).trans (by first | assumption | exact up_eq)))) (by omega) (by rfl) ?_
      refine V_iconst (q := 35) (v := nI 3) dX8_toss_34 rfl (by decide) ?_
      refine V_ialdN (q := 36) dX8_toss_35 rfl (by first | assumption | exact up_eq | exact (up_ne (by omega)).trans (by first | assumption | exact up_eq | exact (up_ne (by omega)).trans (by first | assumption | exact up_eq | exact (up_ne (by omega)).trans (by first | assumption | exact up_eq)))) (by omega) (by omega) (by omega) rfl f3 ?_
      refine CiX8_112 (q := 39) rfl dX8_toss_36 rfl (m_refuse_no (by omega)) ⟨(Nat.le_of_ble_eq_true rfl), (Nat.le_of_ble_eq_true rfl)⟩ (Nat.le_of_ble_eq_true rfl) (by first | assumption | exact up_eq | exact (up_ne (by omega)).trans (by first | assumption | exact up_eq | exact (up_ne (by omega)).trans (by first | assumption | exact up_eq | exact (up_ne (by omega)).trans (by first | assumption | exact up_eq)))) (by omega) (Nat.zero_le _) (Nat.zero_le _) (fun z w1 hw1 => ?_)
      obtain ⟨rfl, rfl⟩ := hw1
      refine V_if_ne (q := 42) (tgt := 74) dX8_toss_39 (by decide) rfl (fun h9 => absurd rfl h9) (fun _ => ?_)
      refine V_aload_n (q := 43) dX8_toss_42 rfl rfl rfl ?_
      refine V_aload_n (q := 44) dX8_toss_43 rfl rfl rfl ?_
      refine GX8_9 (q := 47) rfl dX8_toss_44 rfl (by first | assumption | exact up_eq | exact (up_ne (by omega)).trans (by first | assumption | exact up_eq | exact (up_ne (by omega)).trans (by first | assumption | exact up_eq | exact (up_ne (by omega)).trans (by first | assumption | exact up_eq)))) (by omega) (by rfl) ?_
      refine V_iconst (q := 48) (v := nI 1) dX8_toss_47 rfl (by decide) ?_
      refine V_ialdN (q := 49) dX8_toss_48 rfl (by first | assumption | exact up_eq | exact (up_ne (by omega)).trans (by first | assumption | exact up_eq | exact (up_ne (by omega)).trans (by first | assumption | exact up_eq | exact (up_ne (by omega)).trans (by first | assumption | exact up_eq)))) (by omega) (by omega) (by omega) rfl f1 ?_
      refine V_iload_n (q := 50) dX8_toss_49 rfl rfl ?_
      refine CrX8_92 (q := 53) rfl dX8_toss_50 rfl (m_can hS.1 (h := k) (by omega)) ⟨(Nat.le_of_ble_eq_true rfl), (Nat.le_of_ble_eq_true rfl)⟩ (Nat.le_of_ble_eq_true rfl) (Nat.zero_le _) (Nat.zero_le _) ?_
      by_cases hcan : canN (sS N) k
      · rw [if_pos hcan]
        refine V_topi (if_pos hcan) ?_
        refine V_if_ne (q := 56) (tgt := 60) dX8_toss_53 (by decide) rfl (fun _ => ?_) (fun h9 => absurd h9 (by decide))
        refine V_iconst (q := 61) (v := nI 0) dX8_toss_60 rfl (by decide) ?_
        refine V_iconst (q := 62) (v := nI 4) dX8_toss_61 rfl (by decide) ?_
        refine V_aload_n (q := 63) dX8_toss_62 rfl rfl rfl ?_
        refine GX8_9 (q := 66) rfl dX8_toss_63 rfl (by first | assumption | exact up_eq | exact (up_ne (by omega)).trans (by first | assumption | exact up_eq | exact (up_ne (by omega)).trans (by first | assumption | exact up_eq | exact (up_ne (by omega)).trans (by first | assumption | exact up_eq)))) (by omega) (by rfl) ?_
        refine V_iconst (q := 67) (v := nI 1) dX8_toss_66 rfl (by decide) ?_
        refine V_ialdN (q := 68) dX8_toss_67 rfl (by first | assumption | exact up_eq | exact (up_ne (by omega)).trans (by first | assumption | exact up_eq | exact (up_ne (by omega)).trans (by first | assumption | exact up_eq | exact (up_ne (by omega)).trans (by first | assumption | exact up_eq)))) (by omega) (by omega) (by omega) rfl f1 ?_
        refine CiX8_112 (q := 71) rfl dX8_toss_68 rfl (m_refuse_no (by omega)) ⟨(Nat.le_of_ble_eq_true rfl), (Nat.le_of_ble_eq_true rfl)⟩ (Nat.le_of_ble_eq_true rfl) (by first | assumption | exact up_eq | exact (up_ne (by omega)).trans (by first | assumption | exact up_eq | exact (up_ne (by omega)).trans (by first | assumption | exact up_eq | exact (up_ne (by omega)).trans (by first | assumption | exact up_eq)))) (by omega) (Nat.zero_le _) (Nat.zero_le _) (fun z w2 hw2 => ?_)
        obtain ⟨rfl, rfl⟩ := hw2
        refine V_if_eq (q := 74) (tgt := 77) dX8_toss_71 (by decide) rfl (fun _ => ?_) (fun h9 => absurd rfl h9)
        refine V_aload_n (q := 78) dX8_toss_77 rfl rfl rfl ?_
        refine CvX8_116 (q := 81) rfl dX8_toss_78 rfl (m_chg hX hI hR') ⟨(Nat.le_of_ble_eq_true rfl), (Nat.le_of_ble_eq_true rfl)⟩ (Nat.le_of_ble_eq_true rfl) (by first | assumption | exact up_eq | exact (up_ne (by omega)).trans (by first | assumption | exact up_eq | exact (up_ne (by omega)).trans (by first | assumption | exact up_eq | exact (up_ne (by omega)).trans (by first | assumption | exact up_eq)))) (by omega) (Nat.zero_le _) (Nat.zero_le _) (fun w3 hw3 => ?_)
        obtain ⟨hM3, hF3⟩ := hw3
        have d0 := hM3.1
        have d1 := hM3.2.1
        refine V_aload_n (q := 82) dX8_toss_81 rfl rfl rfl ?_
        refine V_iload_n (q := 83) dX8_toss_82 rfl rfl ?_
        refine CvX8_133 (q := 86) rfl dX8_toss_83 rfl (m_makeThrow hM3.1 hM3.2.1 hn hR' (h := k) (by omega) hcan (by omega)) ⟨(Nat.le_of_ble_eq_true rfl), (Nat.le_of_ble_eq_true rfl)⟩ (Nat.le_of_ble_eq_true rfl) (by first | assumption | exact up_eq | exact (up_ne (by omega)).trans (by first | assumption | exact up_eq | exact (up_ne (by omega)).trans (by first | assumption | exact up_eq | exact (up_ne (by omega)).trans (by first | assumption | exact up_eq)))) (by omega) (Nat.zero_le _) (Nat.zero_le _) (fun w4 hw4 => ?_)
        obtain ⟨F', hR4, rfl⟩ := hw4
        have fin := hM3.now (F' := F')
        have c0 := fin.1.1
        have c1 := fin.1.2.1
        have c3 : F' 3 = nI (sB N + 1) := hR4.1.2.2.2.1
        refine V_aload_n (q := 87) dX8_toss_86 rfl rfl rfl ?_
        refine GX8_9 (q := 90) rfl dX8_toss_87 rfl (by first | assumption | exact up_eq | exact (up_ne (by omega)).trans (by first | assumption | exact up_eq | exact (up_ne (by omega)).trans (by first | assumption | exact up_eq | exact (up_ne (by omega)).trans (by first | assumption | exact up_eq)))) (by omega) (by rfl) ?_
        refine V_iconst (q := 91) (v := nI 3) dX8_toss_90 rfl (by decide) ?_
        refine V_ialdN (q := 92) dX8_toss_91 rfl (by first | assumption | exact up_eq | exact (up_ne (by omega)).trans (by first | assumption | exact up_eq | exact (up_ne (by omega)).trans (by first | assumption | exact up_eq | exact (up_ne (by omega)).trans (by first | assumption | exact up_eq)))) (by omega) (by omega) (by omega) rfl c3 ?_
        refine V_iconst (q := 93) (v := nI 1) dX8_toss_92 rfl (by decide) ?_
        refine V_iadd (q := 94) dX8_toss_93 rfl (by first | exact nI_add _ _ | rfl) ?_
        refine V_iconst (q := 95) (v := nI 2) dX8_toss_94 rfl (by decide) ?_
        refine V_irem (q := 96) dX8_toss_95 rfl (nI_ne0 (by omega) (by omega)) ((pk_rem (by omega) (by decide) (by decide)).trans (congrArg nI (by omega : (sB N + 1 + 1) % 2 = sB N % 2))) ?_
        exact V_iret dX8_toss_96 rfl (Nat.le_of_ble_eq_true rfl) (Nat.le_of_ble_eq_true rfl) (⟨rfl, _, rfl, MOP.yes (b := kLn K) fin.1 hR4 (nIerr (by omega)) (hF3.tr fin.2)⟩)
      · rw [if_neg hcan]
        refine V_topi (if_neg hcan) ?_
        refine V_if_ne (q := 56) (tgt := 60) dX8_toss_53 (by decide) rfl (fun h9 => absurd rfl h9) (fun _ => ?_)
        refine V_iconst (q := 57) (v := nI 1) dX8_toss_56 rfl (by decide) ?_
        refine V_goto (tgt := 61) dX8_toss_57 (by decide) ?_
        refine V_iconst (q := 62) (v := nI 4) dX8_toss_61 rfl (by decide) ?_
        refine V_aload_n (q := 63) dX8_toss_62 rfl rfl rfl ?_
        refine GX8_9 (q := 66) rfl dX8_toss_63 rfl (by first | assumption | exact up_eq | exact (up_ne (by omega)).trans (by first | assumption | exact up_eq | exact (up_ne (by omega)).trans (by first | assumption | exact up_eq | exact (up_ne (by omega)).trans (by first | assumption | exact up_eq)))) (by omega) (by rfl) ?_
        refine V_iconst (q := 67) (v := nI 1) dX8_toss_66 rfl (by decide) ?_
        refine V_ialdN (q := 68) dX8_toss_67 rfl (by first | assumption | exact up_eq | exact (up_ne (by omega)).trans (by first | assumption | exact up_eq | exact (up_ne (by omega)).trans (by first | assumption | exact up_eq | exact (up_ne (by omega)).trans (by first | assumption | exact up_eq)))) (by omega) (by omega) (by omega) rfl f1 ?_
        refine CiX8_112 (q := 71) rfl dX8_toss_68 rfl (m_refuse hX) ⟨(Nat.le_of_ble_eq_true rfl), (Nat.le_of_ble_eq_true rfl)⟩ (Nat.le_of_ble_eq_true rfl) (by first | assumption | exact up_eq | exact (up_ne (by omega)).trans (by first | assumption | exact up_eq | exact (up_ne (by omega)).trans (by first | assumption | exact up_eq | exact (up_ne (by omega)).trans (by first | assumption | exact up_eq)))) (by omega) (Nat.zero_le _) (Nat.zero_le _) (fun z w2 hw2 => ?_)
        obtain ⟨rfl, hM2, hF2⟩ := hw2
        refine V_if_eq (q := 74) (tgt := 77) dX8_toss_71 (by decide) rfl (fun h9 => absurd h9 (by decide)) (fun _ => ?_)
        refine V_bipush (q := 76) (v := (-3)) dX8_toss_74 rfl (by decide) ?_
        exact V_iret dX8_toss_76 rfl (Nat.le_of_ble_eq_true rfl) (Nat.le_of_ble_eq_true rfl) (⟨rfl, _, rfl, MOP.ref hX hM2 hR' hF2⟩)
    · skip
      rw [if_pos q0]
      refine V_iconst (q := 24) (v := nI 1) dX8_toss_23 rfl (by decide) ?_
      refine V_goto (tgt := 28) dX8_toss_24 (by decide) ?_
      refine V_bipush (q := 30) (v := nI 6) dX8_toss_28 rfl (by decide) ?_
      refine V_aload_n (q := 31) dX8_toss_30 rfl rfl rfl ?_
      refine GX8_9 (q := 34) rfl dX8_toss_31 rfl (by first | assumption | exact up_eq | exact (up_ne (by omega)).trans (by first | assumption | exact up_eq | exact (up_ne (by omega)).trans (by first | assumption | exact up_eq | exact (up_ne (by omega)).trans (by first | assumption | exact up_eq)))) (by omega) (by rfl) ?_
      refine V_iconst (q := 35) (v := nI 3) dX8_toss_34 rfl (by decide) ?_
      refine V_ialdN (q := 36) dX8_toss_35 rfl (by first | assumption | exact up_eq | exact (up_ne (by omega)).trans (by first | assumption | exact up_eq | exact (up_ne (by omega)).trans (by first | assumption | exact up_eq | exact (up_ne (by omega)).trans (by first | assumption | exact up_eq)))) (by omega) (by omega) (by omega) rfl f3 ?_
      refine CiX8_112 (q := 39) rfl dX8_toss_36 rfl (m_refuse hX) ⟨(Nat.le_of_ble_eq_true rfl), (Nat.le_of_ble_eq_true rfl)⟩ (Nat.le_of_ble_eq_true rfl) (by first | assumption | exact up_eq | exact (up_ne (by omega)).trans (by first | assumption | exact up_eq | exact (up_ne (by omega)).trans (by first | assumption | exact up_eq | exact (up_ne (by omega)).trans (by first | assumption | exact up_eq)))) (by omega) (Nat.zero_le _) (Nat.zero_le _) (fun z w2 hw2 => ?_)
      obtain ⟨rfl, hM2, hF2⟩ := hw2
      refine V_if_ne (q := 42) (tgt := 74) dX8_toss_39 (by decide) rfl (fun _ => ?_) (fun h9 => absurd h9 (by decide))
      refine V_bipush (q := 76) (v := (-3)) dX8_toss_74 rfl (by decide) ?_
      exact V_iret dX8_toss_76 rfl (Nat.le_of_ble_eq_true rfl) (Nat.le_of_ble_eq_true rfl) (⟨rfl, _, rfl, MOP.ref hX hM2 hR' hF2⟩)
end MO
