def digN (t m i : Nat) : Nat := t / 10 ^ (m - 1 - i) % 10
def appS (S : StT) (t m : Nat) : StT := (sC S + 1, (fun k => if k = sC S then (m, digN t m) else sR S k), sS S, sB S, sT S, sU S, sH S, sJ S, sG S)
def remS (S : StT) (i : Nat) : StT := (sC S - 1, (fun k => if k < i then sR S k else sR S (k + 1)), sS S, sB S, sT S, sU S, sH S, sJ S, sG S)
def cntS (S : StT) (c : Nat) : StT := (c, sR S, sS S, sB S, sT S, sU S, sH S, sJ S, sG S)
/-- where the k-th row comes from when the i-th of c is dropped -/
def sgN (i c k : Nat) : Nat := if k < i then k else if k + 1 < c then k + 1 else if k + 1 = c then i else k
theorem sgN_lt {i c k : Nat} (hc : c ≤ 6) (hi : i < c) (hk : k < 6) : sgN i c k < 6 := by unfold sgN; split <;> (try split) <;> (try split) <;> omega
theorem sgN_inj {i c k j : Nat} (hc : c ≤ 6) (hi : i < c) (h : k ≠ j) : sgN i c k ≠ sgN i c j := by
  unfold sgN
  repeat' split
  all_goals omega
section STAND
variable {g : GG} {l : Launch} {w : HW} {n a : Nat} {S : StT} {G : Nat → Option Nat} {π LL : Nat → Nat} {FF : Nat → Nat → Int32}
theorem c_appendRow (hS : SdF g w n a S G π LL FF) (hc6 : sC S < 6) {t m : Nat} (ht : t < 2 ^ 31) (hm : m ≤ 8) (hm0 : 0 < m) : CtI g l MX5_appendRow 2 [rf g a, .int (nI t), .int (nI m)] w n (fun x w' => x = nI (sC S) ∧ Sd g w' n a (appS S t m) ∧ Fr w w' a) := by
  have hS0 := hS
  obtain ⟨h0, h1, hn, hc, hG, hd, hR⟩ := hS
  obtain ⟨k1, k2, k3, k4⟩ := hG (sC S) hc6
  refine Ct.ofs (M := MX5_appendRow) (ls := [some _, some _, some _, none]) (by decide +kernel) (by exact (Nat.le_of_ble_eq_true rfl)) (by rfl) (by rfl) (by rfl) ?_
  refine V_aload_n (q := 1) dX5_appendRow_0 rfl rfl rfl ?_
  refine V_dup (q := 2) dX5_appendRow_1 rfl rfl ?_
  refine GX5_18 (q := 5) rfl dX5_appendRow_2 rfl (by first | assumption | exact up_eq | exact (up_ne (by omega)).trans (by first | assumption | exact up_eq | exact (up_ne (by omega)).trans (by first | assumption | exact up_eq | exact (up_ne (by omega)).trans (by first | assumption | exact up_eq)))) (by omega) (by rfl) ?_
  refine V_iconst (q := 6) (v := nI 1) dX5_appendRow_5 rfl (by decide) ?_
  refine V_iadd (q := 7) dX5_appendRow_6 rfl (by first | exact nI_add _ _ | rfl) ?_
  refine PX5_18 (q := 10) (fs' := [_, _, _, _, _, _, _, _, _]) rfl dX5_appendRow_7 rfl (by first | assumption | exact up_eq | exact (up_ne (by omega)).trans (by first | assumption | exact up_eq | exact (up_ne (by omega)).trans (by first | assumption | exact up_eq | exact (up_ne (by omega)).trans (by first | assumption | exact up_eq)))) (by omega) (by exact (Nat.le_of_ble_eq_true rfl)) (by rfl) ?_
  try rw [up_up]
  refine V_aload_n (q := 11) dX5_appendRow_10 rfl rfl rfl ?_
  refine V_aload_n (q := 12) dX5_appendRow_11 rfl rfl rfl ?_
  refine GX5_18 (q := 15) rfl dX5_appendRow_12 rfl (by first | assumption | exact up_eq | exact (up_ne (by omega)).trans (by first | assumption | exact up_eq | exact (up_ne (by omega)).trans (by first | assumption | exact up_eq | exact (up_ne (by omega)).trans (by first | assumption | exact up_eq)))) (by omega) (by rfl) ?_
  refine V_iconst (q := 16) (v := nI 1) dX5_appendRow_15 rfl (by decide) ?_
  refine V_isub (q := 17) dX5_appendRow_16 rfl (by first | exact pk_sub (by omega) | rfl) ?_
  generalize hw1 : va_up w a (eO 5 [.int (nI (sC S + 1)), rf g (a + 1), .int (nI (sS S)), .int (nI (sB S)), .int (nI (sT S)), .int (nI (sU S)), .int (nI (sH S)), .int (nI (sJ S)), .int (nI (sG S))]) = w1
  have b0 : w1 a = eO 5 (sfs g a (cntS S (sC S + 1))) := by rw [← hw1]; exact up_eq
  have b1 : w1 (a + 1) = eR g 6 G := by rw [← hw1]; exact (up_ne (by omega)).trans h1
  have b2 : RwF g w1 n (π (sC S)) (LL (sC S)) (FF (sC S)) := by rw [← hw1]; exact k4.frame (up_ne (by omega)) (up_ne (by omega))
  have b3 := b2.1
  refine CrX5_47 (q := 20) rfl dX5_appendRow_17 rfl (c_rowNum_in0 (S := cntS S (sC S + 1)) b0 b1 hn hc6 (Nat.lt_succ_self _) k1) ⟨(Nat.le_of_ble_eq_true rfl), (Nat.le_of_ble_eq_true rfl)⟩ (Nat.le_of_ble_eq_true rfl) (by first | assumption | exact up_eq | exact (up_ne (by omega)).trans (by first | assumption | exact up_eq | exact (up_ne (by omega)).trans (by first | assumption | exact up_eq | exact (up_ne (by omega)).trans (by first | assumption | exact up_eq)))) (by omega) (Nat.zero_le _) (Nat.zero_le _) ?_
  refine V_astore_n (q := 21) (ls' := [_, _, _, _]) dX5_appendRow_20 rfl (by decide) (by rfl) rfl rfl ?_
  refine V_aload_n (q := 22) dX5_appendRow_21 rfl rfl rfl ?_
  refine V_ifnull (q := 25) dX5_appendRow_22 rfl ?_
  refine V_aload_n (q := 26) dX5_appendRow_25 rfl rfl rfl ?_
  refine V_iload_n (q := 27) dX5_appendRow_26 rfl rfl ?_
  refine V_iload_n (q := 28) dX5_appendRow_27 rfl rfl ?_
  refine CvX5_51 (q := 31) rfl dX5_appendRow_28 rfl (c_fill b2 ht hm hm0) ⟨(Nat.le_of_ble_eq_true rfl), (Nat.le_of_ble_eq_true rfl)⟩ (Nat.le_of_ble_eq_true rfl) (by first | assumption | exact up_eq | exact (up_ne (by omega)).trans (by first | assumption | exact up_eq | exact (up_ne (by omega)).trans (by first | assumption | exact up_eq | exact (up_ne (by omega)).trans (by first | assumption | exact up_eq)))) (by omega) (Nat.zero_le _) (Nat.zero_le _) (fun w2 hw2 => ?_)
  obtain ⟨F', hF', hw2⟩ := hw2
  have c0 : w2 a = eO 5 (sfs g a (cntS S (sC S + 1))) := by rw [hw2]; exact (up_ne (by omega)).trans ((up_ne (by omega)).trans b0)
  refine V_aload_n (q := 32) dX5_appendRow_31 rfl rfl rfl ?_
  refine GX5_18 (q := 35) rfl dX5_appendRow_32 rfl (by first | assumption | exact up_eq | exact (up_ne (by omega)).trans (by first | assumption | exact up_eq | exact (up_ne (by omega)).trans (by first | assumption | exact up_eq | exact (up_ne (by omega)).trans (by first | assumption | exact up_eq)))) (by omega) (by rfl) ?_
  refine V_iconst (q := 36) (v := nI 1) dX5_appendRow_35 rfl (by decide) ?_
  refine V_isub (q := 37) dX5_appendRow_36 rfl (pk_sub (a := sC S + 1) (b := 1) (by omega)) ?_
  refine V_iret dX5_appendRow_37 rfl (Nat.le_of_ble_eq_true rfl) (Nat.le_of_ble_eq_true rfl) (⟨rfl, _, rfl, rfl, ⟨G, π, fun k => if k = sC S then m else LL k, fun k => if k = sC S then F' else FF k, c0, ?_, hn, hc6, ?_, hd, ?_⟩, ?_⟩)
  · rw [hw2]; exact (up_ne (by omega)).trans ((up_ne (by omega)).trans b1)
  · intro k hk
    obtain ⟨q1, q2, q3, q4⟩ := hG k hk
    refine ⟨q1, q2, q3, ?_⟩
    by_cases e : k = sC S
    · subst e
      show RwF g w2 n (π (sC S)) (if sC S = sC S then m else LL (sC S)) (if sC S = sC S then F' else FF (sC S))
      rw [if_pos rfl, if_pos rfl, hw2]
      exact ⟨(up_ne (by omega)).trans up_eq, up_eq, k4.2.2.1, hm⟩
    · have dj := hd k (sC S) hk hc6 e
      show RwF g w2 n (π k) (if k = sC S then m else LL k) (if k = sC S then F' else FF k)
      rw [if_neg e, if_neg e, hw2, ← hw1]
      exact q4.frame ((up_ne (by omega)).trans ((up_ne (by omega)).trans (up_ne (by omega)))) ((up_ne (by omega)).trans ((up_ne (by omega)).trans (up_ne (by omega))))
  · intro k hk
    by_cases e : k = sC S
    · subst e
      show (if sC S = sC S then m else LL (sC S)) = (if sC S = sC S then (m, digN t m) else sR S (sC S)).1 ∧ 0 < (if sC S = sC S then m else LL (sC S)) ∧ Fh (if sC S = sC S then F' else FF (sC S)) (if sC S = sC S then m else LL (sC S)) (if sC S = sC S then (m, digN t m) else sR S (sC S)).2
      rw [if_pos rfl, if_pos rfl, if_pos rfl]
      refine ⟨rfl, hm0, fun i hi => ⟨hF' i hi, ?_⟩⟩
      show digN t m i ≤ 9
      unfold digN
      omega
    · have hk2 : k < sC S := by
        have : k < sC S + 1 := hk
        omega
      show (if k = sC S then m else LL k) = (if k = sC S then (m, digN t m) else sR S k).1 ∧ 0 < (if k = sC S then m else LL k) ∧ Fh (if k = sC S then F' else FF k) (if k = sC S then m else LL k) (if k = sC S then (m, digN t m) else sR S k).2
      rw [if_neg e, if_neg e, if_neg e]
      exact hR k hk2
  · intro i hi
    rw [hw2, ← hw1]
    exact (up_ne (by omega)).trans ((up_ne (by omega)).trans (up_ne (by omega)))
theorem c_removeRow_out (hS : SdF g w n a S G π LL FF) {x : Int32} (hx : x < 0 ∨ nI (sC S) ≤ x) : CtI g l MX5_removeRow 1 [rf g a, .int x] w n (fun y w' => y = 0 ∧ w' = w) := by
  have hS0 := hS
  obtain ⟨h0, h1, hn, hc, hG, hd, hR⟩ := hS
  refine Ct.ofs (M := MX5_removeRow) (ls := [some _, some _, none, none]) (by decide +kernel) (by exact (Nat.le_of_ble_eq_true rfl)) (by rfl) (by rfl) (by rfl) ?_
  refine V_aload_n (q := 1) dX5_removeRow_0 rfl rfl rfl ?_
  refine V_iload_n (q := 2) dX5_removeRow_1 rfl rfl ?_
  refine CrX5_47 (q := 5) rfl dX5_removeRow_2 rfl (c_rowNum_out hS0 hx) ⟨(Nat.le_of_ble_eq_true rfl), (Nat.le_of_ble_eq_true rfl)⟩ (Nat.le_of_ble_eq_true rfl) (by first | assumption | exact up_eq | exact (up_ne (by omega)).trans (by first | assumption | exact up_eq | exact (up_ne (by omega)).trans (by first | assumption | exact up_eq | exact (up_ne (by omega)).trans (by first | assumption | exact up_eq)))) (by omega) (Nat.zero_le _) (Nat.zero_le _) ?_
  refine V_astore_n (q := 6) (ls' := [_, _, _, _]) dX5_removeRow_5 rfl (by decide) (by rfl) rfl rfl ?_
  refine V_aload_n (q := 7) dX5_removeRow_6 rfl rfl rfl ?_
  refine V_ifnonnullN (q := 10) dX5_removeRow_7 rfl ?_
  refine V_iconst (q := 11) (v := nI 0) dX5_removeRow_10 rfl (by decide) ?_
  exact V_zret dX5_removeRow_11 rfl (rfl) (Nat.le_of_ble_eq_true rfl) (Nat.le_of_ble_eq_true rfl) (⟨rfl, _, rfl, rfl, rfl⟩)
theorem c_removeRow_in (hS : SdF g w n a S G π LL FF) {i : Nat} (hi : i < sC S) : CtI g l MX5_removeRow 1 [rf g a, .int (nI i)] w n (fun y w' => y = 1 ∧ Sd g w' n a (remS S i) ∧ Fr w w' a) := by
  have hS0 := hS
  obtain ⟨h0, h1, hn, hc, hG, hd, hR⟩ := hS
  refine Ct.ofs (M := MX5_removeRow) (ls := [some _, some _, none, none]) (by decide +kernel) (by exact (Nat.le_of_ble_eq_true rfl)) (by rfl) (by rfl) (by rfl) ?_
  refine V_aload_n (q := 1) dX5_removeRow_0 rfl rfl rfl ?_
  refine V_iload_n (q := 2) dX5_removeRow_1 rfl rfl ?_
  refine CrX5_47 (q := 5) rfl dX5_removeRow_2 rfl (c_rowNum_in hS0 hi) ⟨(Nat.le_of_ble_eq_true rfl), (Nat.le_of_ble_eq_true rfl)⟩ (Nat.le_of_ble_eq_true rfl) (by first | assumption | exact up_eq | exact (up_ne (by omega)).trans (by first | assumption | exact up_eq | exact (up_ne (by omega)).trans (by first | assumption | exact up_eq | exact (up_ne (by omega)).trans (by first | assumption | exact up_eq)))) (by omega) (Nat.zero_le _) (Nat.zero_le _) ?_
  refine V_astore_n (q := 6) (ls' := [_, _, _, _]) dX5_removeRow_5 rfl (by decide) (by rfl) rfl rfl ?_
  refine V_aload_n (q := 7) dX5_removeRow_6 rfl rfl rfl ?_
  refine V_ifnonnull (tgt := 12) dX5_removeRow_7 (by decide) ?_
  refine V_iload_n (q := 13) dX5_removeRow_12 rfl rfl ?_
  refine V_iconst (q := 14) (v := nI 1) dX5_removeRow_13 rfl (by decide) ?_
  refine V_iadd (q := 15) dX5_removeRow_14 rfl (by first | exact nI_add _ _ | rfl) ?_
  refine V_istore_n (q := 16) (ls' := [_, _, _, _]) dX5_removeRow_15 rfl (by decide) (by rfl) rfl ?_
  have key : ∀ j, j ≤ sC S → i < j → ∀ (G1 : Nat → Option Nat) (w1 : HW), (∀ k, G1 k = if i ≤ k ∧ k + 1 < j then G (k + 1) else G k) → w1 = va_up w (a + 1) (eR g 6 G1) → V g l MX5_removeRow (rmd 1 0 0) (FinM g (qI (fun y w' => y = 1 ∧ Sd g w' n a (remS S i) ∧ Fr w w' a) n) 0 0) 16 [some (rf g a), some (.int (nI i)), some (rf g (π i)), some (.int (nI j))] [] (w1) n 0 0 := by
    refine loopU (fun j => i < j → ∀ (G1 : Nat → Option Nat) (w1 : HW), (∀ k, G1 k = if i ≤ k ∧ k + 1 < j then G (k + 1) else G k) → w1 = va_up w (a + 1) (eR g 6 G1) → V g l MX5_removeRow (rmd 1 0 0) (FinM g (qI (fun y w' => y = 1 ∧ Sd g w' n a (remS S i) ∧ Fr w w' a) n) 0 0) 16 [some (rf g a), some (.int (nI i)), some (rf g (π i)), some (.int (nI j))] [] (w1) n 0 0) (sC S) ?_ ?_
    · intro _ G1 w1 hG1 hw1
      have b0 : w1 a = eO 5 (sfs g a S) := by rw [hw1]; exact (up_ne (by omega)).trans h0
      have b1 : w1 (a + 1) = eR g 6 G1 := by rw [hw1]; exact up_eq
      obtain ⟨k1, k2, k3, k4⟩ := hG i (by omega)
      have b2 : w1 (π i) = eO 4 [.int (nI (LL i)), rf g (π i + 1)] := by rw [hw1]; exact (up_ne (by omega)).trans k4.1
      refine V_iload_n (q := 17) dX5_removeRow_16 rfl rfl ?_
      refine V_aload_n (q := 18) dX5_removeRow_17 rfl rfl rfl ?_
      refine GX5_18 (q := 21) rfl dX5_removeRow_18 rfl (by first | assumption | exact up_eq | exact (up_ne (by omega)).trans (by first | assumption | exact up_eq | exact (up_ne (by omega)).trans (by first | assumption | exact up_eq | exact (up_ne (by omega)).trans (by first | assumption | exact up_eq)))) (by omega) (by rfl) ?_
      refine V_icmpN_ge (q := 24) (tgt := 53) dX5_removeRow_21 (by decide) rfl (by omega) (by omega) (fun _ => ?_) (fun h9 => by first | exact h9.elim | (exfalso; omega))
      refine V_aload_n (q := 54) dX5_removeRow_53 rfl rfl rfl ?_
      refine V_dup (q := 55) dX5_removeRow_54 rfl rfl ?_
      refine GX5_18 (q := 58) rfl dX5_removeRow_55 rfl (by first | assumption | exact up_eq | exact (up_ne (by omega)).trans (by first | assumption | exact up_eq | exact (up_ne (by omega)).trans (by first | assumption | exact up_eq | exact (up_ne (by omega)).trans (by first | assumption | exact up_eq)))) (by omega) (by rfl) ?_
      refine V_iconst (q := 59) (v := nI 1) dX5_removeRow_58 rfl (by decide) ?_
      refine V_isub (q := 60) dX5_removeRow_59 rfl (by first | exact pk_sub (by omega) | rfl) ?_
      refine PX5_18 (q := 63) (fs' := [_, _, _, _, _, _, _, _, _]) rfl dX5_removeRow_60 rfl (by first | assumption | exact up_eq | exact (up_ne (by omega)).trans (by first | assumption | exact up_eq | exact (up_ne (by omega)).trans (by first | assumption | exact up_eq | exact (up_ne (by omega)).trans (by first | assumption | exact up_eq)))) (by omega) (by exact (Nat.le_of_ble_eq_true rfl)) (by rfl) ?_
      try rw [up_up]
      refine V_aload_n (q := 64) dX5_removeRow_63 rfl rfl rfl ?_
      refine GX5_18 (q := 67) rfl dX5_removeRow_64 rfl (by first | assumption | exact up_eq | exact (up_ne (by omega)).trans (by first | assumption | exact up_eq | exact (up_ne (by omega)).trans (by first | assumption | exact up_eq | exact (up_ne (by omega)).trans (by first | assumption | exact up_eq)))) (by omega) (by rfl) ?_
      refine V_ifN_lt (q := 70) (tgt := 92) dX5_removeRow_67 (by decide) rfl (by omega) (fun h9 => by first | exact h9.elim | exact absurd h9 (by assumption) | (exfalso; omega)) (fun _ => ?_)
      refine V_aload_n (q := 71) dX5_removeRow_70 rfl rfl rfl ?_
      refine GX5_18 (q := 74) rfl dX5_removeRow_71 rfl (by first | assumption | exact up_eq | exact (up_ne (by omega)).trans (by first | assumption | exact up_eq | exact (up_ne (by omega)).trans (by first | assumption | exact up_eq | exact (up_ne (by omega)).trans (by first | assumption | exact up_eq)))) (by omega) (by rfl) ?_
      refine V_aload_n (q := 75) dX5_removeRow_74 rfl rfl rfl ?_
      refine GX5_11 (q := 78) rfl dX5_removeRow_75 rfl (by first | assumption | exact up_eq | exact (up_ne (by omega)).trans (by first | assumption | exact up_eq | exact (up_ne (by omega)).trans (by first | assumption | exact up_eq | exact (up_ne (by omega)).trans (by first | assumption | exact up_eq)))) (by omega) (by rfl) ?_
      refine V_alenR (q := 79) dX5_removeRow_78 rfl (by first | assumption | exact up_eq | exact (up_ne (by omega)).trans (by first | assumption | exact up_eq | exact (up_ne (by omega)).trans (by first | assumption | exact up_eq | exact (up_ne (by omega)).trans (by first | assumption | exact up_eq)))) (by omega) ?_
      refine V_icmpN_ge (q := 82) (tgt := 92) dX5_removeRow_79 (by decide) rfl (by omega) (by omega) (fun h9 => by first | exact h9.elim | exact absurd h9 (by assumption) | (exfalso; omega)) (fun _ => ?_)
      refine V_aload_n (q := 83) dX5_removeRow_82 rfl rfl rfl ?_
      refine GX5_11 (q := 86) rfl dX5_removeRow_83 rfl (by first | assumption | exact up_eq | exact (up_ne (by omega)).trans (by first | assumption | exact up_eq | exact (up_ne (by omega)).trans (by first | assumption | exact up_eq | exact (up_ne (by omega)).trans (by first | assumption | exact up_eq)))) (by omega) (by rfl) ?_
      refine V_aload_n (q := 87) dX5_removeRow_86 rfl rfl rfl ?_
      refine GX5_18 (q := 90) rfl dX5_removeRow_87 rfl (by first | assumption | exact up_eq | exact (up_ne (by omega)).trans (by first | assumption | exact up_eq | exact (up_ne (by omega)).trans (by first | assumption | exact up_eq | exact (up_ne (by omega)).trans (by first | assumption | exact up_eq)))) (by omega) (by rfl) ?_
      refine V_aload_n (q := 91) dX5_removeRow_90 rfl rfl rfl ?_
      refine V_aastR (q := 92) dX5_removeRow_91 rfl (by first | assumption | exact up_eq | exact (up_ne (by omega)).trans (by first | assumption | exact up_eq | exact (up_ne (by omega)).trans (by first | assumption | exact up_eq | exact (up_ne (by omega)).trans (by first | assumption | exact up_eq)))) (by omega) (by omega) (by omega) rfl (by first | assumption | exact up_eq | exact (up_ne (by omega)).trans (by first | assumption | exact up_eq | exact (up_ne (by omega)).trans (by first | assumption | exact up_eq | exact (up_ne (by omega)).trans (by first | assumption | exact up_eq)))) (by omega) (by rfl) ?_
      refine V_iconst (q := 93) (v := nI 1) dX5_removeRow_92 rfl (by decide) ?_
      refine V_zret dX5_removeRow_93 rfl (rfl) (Nat.le_of_ble_eq_true rfl) (Nat.le_of_ble_eq_true rfl) (⟨rfl, _, rfl, rfl, ⟨va_up G1 (sC S - 1) (some (g.1 + π i)), fun k => π (sgN i (sC S) k), fun k => LL (sgN i (sC S) k), fun k => FF (sgN i (sC S) k), ?_, up_eq, hn, ?_, ?_, ?_, ?_⟩, ?_⟩)
      · exact (up_ne (by omega)).trans up_eq
      · show sC S - 1 ≤ 6
        omega
      · intro k hk
        have hsl := sgN_lt hc hi hk
        obtain ⟨q1, q2, q3, q4⟩ := hG _ hsl
        refine ⟨?_, q2, q3, ?_⟩
        · rw [← q1]
          by_cases e : k = sC S - 1
          · subst e
            rw [show va_up G1 (sC S - 1) (some (g.1 + π i)) (sC S - 1) = some (g.1 + π i) from if_pos rfl, ← k1]
            congr 1
            unfold sgN
            split <;> (try split) <;> (try split) <;> omega
          · rw [show va_up G1 (sC S - 1) (some (g.1 + π i)) k = G1 k from if_neg e, hG1]
            unfold sgN
            by_cases q : i ≤ k ∧ k + 1 < sC S
            · rw [if_pos q, if_neg (by omega), if_pos q.2]
            · rw [if_neg q]
              congr 1
              split <;> (try split) <;> (try split) <;> omega
        · rw [hw1]
          exact q4.frame ((up_ne (by omega)).trans ((up_ne (by omega)).trans (up_ne (by omega)))) ((up_ne (by omega)).trans ((up_ne (by omega)).trans (up_ne (by omega))))
      · intro k j hk hj hkj
        exact hd _ _ (sgN_lt hc hi hk) (sgN_lt hc hi hj) (sgN_inj hc hi hkj)
      · intro k hk
        have hk2 : k < sC S - 1 := hk
        show LL (sgN i (sC S) k) = (if k < i then sR S k else sR S (k + 1)).1 ∧ _ ∧ Fh _ _ (if k < i then sR S k else sR S (k + 1)).2
        by_cases e : k < i
        · show LL (sgN i (sC S) k) = _ ∧ 0 < LL (sgN i (sC S) k) ∧ Fh (FF (sgN i (sC S) k)) (LL (sgN i (sC S) k)) _
          rw [show sgN i (sC S) k = k by unfold sgN; exact if_pos e, if_pos e]
          exact hR k (by omega)
        · show LL (sgN i (sC S) k) = _ ∧ 0 < LL (sgN i (sC S) k) ∧ Fh (FF (sgN i (sC S) k)) (LL (sgN i (sC S) k)) _
          rw [show sgN i (sC S) k = k + 1 by unfold sgN; rw [if_neg e, if_pos (by omega)], if_neg e]
          exact hR (k + 1) (by omega)
      · intro k hk
        rw [hw1]
        exact (up_ne (by omega)).trans ((up_ne (by omega)).trans (up_ne (by omega)))
    · intro j hj ih hij G1 w1 hG1 hw1
      have b0 : w1 a = eO 5 (sfs g a S) := by rw [hw1]; exact (up_ne (by omega)).trans h0
      have b1 : w1 (a + 1) = eR g 6 G1 := by rw [hw1]; exact up_eq
      obtain ⟨k1, k2, k3, k4⟩ := hG j (by omega)
      have b2 : w1 (π j) = eO 4 [.int (nI (LL j)), rf g (π j + 1)] := by rw [hw1]; exact (up_ne (by omega)).trans k4.1
      have b3 : G1 j = some (g.1 + π j) := by rw [hG1, if_neg (by omega), k1]
      refine V_iload_n (q := 17) dX5_removeRow_16 rfl rfl ?_
      refine V_aload_n (q := 18) dX5_removeRow_17 rfl rfl rfl ?_
      refine GX5_18 (q := 21) rfl dX5_removeRow_18 rfl (by first | assumption | exact up_eq | exact (up_ne (by omega)).trans (by first | assumption | exact up_eq | exact (up_ne (by omega)).trans (by first | assumption | exact up_eq | exact (up_ne (by omega)).trans (by first | assumption | exact up_eq)))) (by omega) (by rfl) ?_
      refine V_icmpN_ge (q := 24) (tgt := 53) dX5_removeRow_21 (by decide) rfl (by omega) (by omega) (fun h9 => by first | exact h9.elim | exact absurd h9 (by assumption) | (exfalso; omega)) (fun _ => ?_)
      refine V_iload_n (q := 25) dX5_removeRow_24 rfl rfl ?_
      refine V_aload_n (q := 26) dX5_removeRow_25 rfl rfl rfl ?_
      refine GX5_11 (q := 29) rfl dX5_removeRow_26 rfl (by first | assumption | exact up_eq | exact (up_ne (by omega)).trans (by first | assumption | exact up_eq | exact (up_ne (by omega)).trans (by first | assumption | exact up_eq | exact (up_ne (by omega)).trans (by first | assumption | exact up_eq)))) (by omega) (by rfl) ?_
      refine V_alenR (q := 30) dX5_removeRow_29 rfl (by first | assumption | exact up_eq | exact (up_ne (by omega)).trans (by first | assumption | exact up_eq | exact (up_ne (by omega)).trans (by first | assumption | exact up_eq | exact (up_ne (by omega)).trans (by first | assumption | exact up_eq)))) (by omega) ?_
      refine V_icmpN_ge (q := 33) (tgt := 53) dX5_removeRow_30 (by decide) rfl (by omega) (by omega) (fun h9 => by first | exact h9.elim | exact absurd h9 (by assumption) | (exfalso; omega)) (fun _ => ?_)
      refine V_aload_n (q := 34) dX5_removeRow_33 rfl rfl rfl ?_
      refine GX5_11 (q := 37) rfl dX5_removeRow_34 rfl (by first | assumption | exact up_eq | exact (up_ne (by omega)).trans (by first | assumption | exact up_eq | exact (up_ne (by omega)).trans (by first | assumption | exact up_eq | exact (up_ne (by omega)).trans (by first | assumption | exact up_eq)))) (by omega) (by rfl) ?_
      refine V_iload_n (q := 38) dX5_removeRow_37 rfl rfl ?_
      refine V_iconst (q := 39) (v := nI 1) dX5_removeRow_38 rfl (by decide) ?_
      refine V_isub (q := 40) dX5_removeRow_39 rfl (by first | exact pk_sub (by omega) | rfl) ?_
      refine V_aload_n (q := 41) dX5_removeRow_40 rfl rfl rfl ?_
      refine GX5_11 (q := 44) rfl dX5_removeRow_41 rfl (by first | assumption | exact up_eq | exact (up_ne (by omega)).trans (by first | assumption | exact up_eq | exact (up_ne (by omega)).trans (by first | assumption | exact up_eq | exact (up_ne (by omega)).trans (by first | assumption | exact up_eq)))) (by omega) (by rfl) ?_
      refine V_iload_n (q := 45) dX5_removeRow_44 rfl rfl ?_
      refine V_aaldR (q := 46) dX5_removeRow_45 rfl (by first | assumption | exact up_eq | exact (up_ne (by omega)).trans (by first | assumption | exact up_eq | exact (up_ne (by omega)).trans (by first | assumption | exact up_eq | exact (up_ne (by omega)).trans (by first | assumption | exact up_eq)))) (by omega) (by omega) (by omega) rfl (congrArg va_rf b3) ?_
      refine V_aastR (q := 47) dX5_removeRow_46 rfl (by first | assumption | exact up_eq | exact (up_ne (by omega)).trans (by first | assumption | exact up_eq | exact (up_ne (by omega)).trans (by first | assumption | exact up_eq | exact (up_ne (by omega)).trans (by first | assumption | exact up_eq)))) (by omega) (by omega) (by omega) rfl (by first | assumption | exact up_eq | exact (up_ne (by omega)).trans (by first | assumption | exact up_eq | exact (up_ne (by omega)).trans (by first | assumption | exact up_eq | exact (up_ne (by omega)).trans (by first | assumption | exact up_eq)))) (by omega) (by rfl) ?_
      refine V_iinc (q := 50) (ls' := [_, _, _, _]) dX5_removeRow_47 rfl (by decide) (by rfl) rfl (by first | exact inc1 _ | rfl) rfl ?_
      refine V_goto (tgt := 16) dX5_removeRow_50 (by decide) ?_
      refine ih (by omega) (va_up G1 (j - 1) (some (g.1 + π j))) _ (fun k => ?_) (by rw [hw1, up_up])
      by_cases e : k = j - 1
      · subst e
        rw [if_pos (by omega), show j - 1 + 1 = j by omega, k1]
        exact if_pos rfl
      · rw [show va_up G1 (j - 1) (some (g.1 + π j)) k = G1 k from if_neg e, hG1]
        by_cases q : i ≤ k ∧ k + 1 < j
        · rw [if_pos q, if_pos (by omega)]
        · rw [if_neg q, if_neg (by omega)]
  exact key (i + 1) hi (Nat.lt_succ_self i) G w (fun k => by rw [if_neg (by omega)]) (by funext j; by_cases e : j = a + 1 <;> simp [va_up, e, h1])
theorem c_copyFrom {b : Nat} {S2 : StT} (hS : Sd g w n a S) (hS2 : Sd g w n b S2) (hab : a + 14 ≤ b ∨ b + 14 ≤ a) : CtV g l MX5_copyFrom 2 [rf g a, rf g b] w n (fun w' => Sd g w' n a S2 ∧ Fr w w' a) := by
  obtain ⟨G, π, LL, FF, h0, h1, hn, hc, hG, hd, hR⟩ := hS
  obtain ⟨G2, π2, LL2, FF2, m0, m1, mn, mc, mG, md, mR⟩ := hS2
  refine Ct.ofs (M := MX5_copyFrom) (ls := [some _, some _, none, none, none]) (by decide +kernel) (by exact (Nat.le_of_ble_eq_true rfl)) (by rfl) (by rfl) (by rfl) ?_
  refine V_aload_n (q := 1) dX5_copyFrom_0 rfl rfl rfl ?_
  refine V_aload_n (q := 2) dX5_copyFrom_1 rfl rfl rfl ?_
  refine GX5_18 (q := 5) rfl dX5_copyFrom_2 rfl (by first | assumption | exact up_eq | exact (up_ne (by omega)).trans (by first | assumption | exact up_eq | exact (up_ne (by omega)).trans (by first | assumption | exact up_eq | exact (up_ne (by omega)).trans (by first | assumption | exact up_eq)))) (by omega) (by rfl) ?_
  refine PX5_18 (q := 8) (fs' := [_, _, _, _, _, _, _, _, _]) rfl dX5_copyFrom_5 rfl (by first | assumption | exact up_eq | exact (up_ne (by omega)).trans (by first | assumption | exact up_eq | exact (up_ne (by omega)).trans (by first | assumption | exact up_eq | exact (up_ne (by omega)).trans (by first | assumption | exact up_eq)))) (by omega) (by exact (Nat.le_of_ble_eq_true rfl)) (by rfl) ?_
  try rw [up_up]
  refine V_iconst (q := 9) (v := nI 0) dX5_copyFrom_8 rfl (by decide) ?_
  refine V_istore_n (q := 10) (ls' := [_, _, _, _, _]) dX5_copyFrom_9 rfl (by decide) (by rfl) rfl ?_
  have key : ∀ k, k ≤ 6 → ∀ (w1 : HW) (LL1 : Nat → Nat) (FF1 : Nat → Nat → Int32), w1 a = eO 5 (sfs g a (cntS S (sC S2))) → w1 (a + 1) = eR g 6 G → (∀ j, j < 6 → RwF g w1 n (π j) (LL1 j) (FF1 j)) → (∀ j, j < k → LL1 j = LL2 j ∧ ∀ i, i < 8 → FF1 j i = FF2 j i) → Fr w w1 a → V g l MX5_copyFrom (rmd 2 0 0) (FinM g (qV (fun w' => Sd g w' n a S2 ∧ Fr w w' a) n) 0 0) 10 [some (rf g a), some (rf g b), some (.int (nI k)), none, none] [] w1 n 0 0 := by
    refine loopU (fun k => ∀ (w1 : HW) (LL1 : Nat → Nat) (FF1 : Nat → Nat → Int32), w1 a = eO 5 (sfs g a (cntS S (sC S2))) → w1 (a + 1) = eR g 6 G → (∀ j, j < 6 → RwF g w1 n (π j) (LL1 j) (FF1 j)) → (∀ j, j < k → LL1 j = LL2 j ∧ ∀ i, i < 8 → FF1 j i = FF2 j i) → Fr w w1 a → V g l MX5_copyFrom (rmd 2 0 0) (FinM g (qV (fun w' => Sd g w' n a S2 ∧ Fr w w' a) n) 0 0) 10 [some (rf g a), some (rf g b), some (.int (nI k)), none, none] [] w1 n 0 0) 6 ?_ ?_
    · intro w1 LL1 FF1 b0 b1 b2 b3 b4
      have c0 : w1 b = eO 5 (sfs g b S2) := (b4 b (by omega)).trans m0
      refine V_iload_n (q := 11) dX5_copyFrom_10 rfl rfl ?_
      refine V_aload_n (q := 12) dX5_copyFrom_11 rfl rfl rfl ?_
      refine GX5_11 (q := 15) rfl dX5_copyFrom_12 rfl (by first | assumption | exact up_eq | exact (up_ne (by omega)).trans (by first | assumption | exact up_eq | exact (up_ne (by omega)).trans (by first | assumption | exact up_eq | exact (up_ne (by omega)).trans (by first | assumption | exact up_eq)))) (by omega) (by rfl) ?_
      refine V_alenR (q := 16) dX5_copyFrom_15 rfl (by first | assumption | exact up_eq | exact (up_ne (by omega)).trans (by first | assumption | exact up_eq | exact (up_ne (by omega)).trans (by first | assumption | exact up_eq | exact (up_ne (by omega)).trans (by first | assumption | exact up_eq)))) (by omega) ?_
      refine V_icmpN_ge (q := 19) (tgt := 64) dX5_copyFrom_16 (by decide) rfl (by omega) (by omega) (fun _ => ?_) (fun h9 => by first | exact h9.elim | (exfalso; omega))
      refine V_aload_n (q := 65) dX5_copyFrom_64 rfl rfl rfl ?_
      refine V_aload_n (q := 66) dX5_copyFrom_65 rfl rfl rfl ?_
      refine GX5_26 (q := 69) rfl dX5_copyFrom_66 rfl (by first | assumption | exact up_eq | exact (up_ne (by omega)).trans (by first | assumption | exact up_eq | exact (up_ne (by omega)).trans (by first | assumption | exact up_eq | exact (up_ne (by omega)).trans (by first | assumption | exact up_eq)))) (by omega) (by rfl) ?_
      refine PX5_26 (q := 72) (fs' := [_, _, _, _, _, _, _, _, _]) rfl dX5_copyFrom_69 rfl (by first | assumption | exact up_eq | exact (up_ne (by omega)).trans (by first | assumption | exact up_eq | exact (up_ne (by omega)).trans (by first | assumption | exact up_eq | exact (up_ne (by omega)).trans (by first | assumption | exact up_eq)))) (by omega) (by exact (Nat.le_of_ble_eq_true rfl)) (by rfl) ?_
      try rw [up_up]
      refine V_aload_n (q := 73) dX5_copyFrom_72 rfl rfl rfl ?_
      refine V_aload_n (q := 74) dX5_copyFrom_73 rfl rfl rfl ?_
      refine GX5_29 (q := 77) rfl dX5_copyFrom_74 rfl (by first | assumption | exact up_eq | exact (up_ne (by omega)).trans (by first | assumption | exact up_eq | exact (up_ne (by omega)).trans (by first | assumption | exact up_eq | exact (up_ne (by omega)).trans (by first | assumption | exact up_eq)))) (by omega) (by rfl) ?_
      refine PX5_29 (q := 80) (fs' := [_, _, _, _, _, _, _, _, _]) rfl dX5_copyFrom_77 rfl (by first | assumption | exact up_eq | exact (up_ne (by omega)).trans (by first | assumption | exact up_eq | exact (up_ne (by omega)).trans (by first | assumption | exact up_eq | exact (up_ne (by omega)).trans (by first | assumption | exact up_eq)))) (by omega) (by exact (Nat.le_of_ble_eq_true rfl)) (by rfl) ?_
      try rw [up_up]
      refine V_aload_n (q := 81) dX5_copyFrom_80 rfl rfl rfl ?_
      refine V_aload_n (q := 82) dX5_copyFrom_81 rfl rfl rfl ?_
      refine GX5_32 (q := 85) rfl dX5_copyFrom_82 rfl (by first | assumption | exact up_eq | exact (up_ne (by omega)).trans (by first | assumption | exact up_eq | exact (up_ne (by omega)).trans (by first | assumption | exact up_eq | exact (up_ne (by omega)).trans (by first | assumption | exact up_eq)))) (by omega) (by rfl) ?_
      refine PX5_32 (q := 88) (fs' := [_, _, _, _, _, _, _, _, _]) rfl dX5_copyFrom_85 rfl (by first | assumption | exact up_eq | exact (up_ne (by omega)).trans (by first | assumption | exact up_eq | exact (up_ne (by omega)).trans (by first | assumption | exact up_eq | exact (up_ne (by omega)).trans (by first | assumption | exact up_eq)))) (by omega) (by exact (Nat.le_of_ble_eq_true rfl)) (by rfl) ?_
      try rw [up_up]
      refine V_aload_n (q := 89) dX5_copyFrom_88 rfl rfl rfl ?_
      refine V_aload_n (q := 90) dX5_copyFrom_89 rfl rfl rfl ?_
      refine GX5_35 (q := 93) rfl dX5_copyFrom_90 rfl (by first | assumption | exact up_eq | exact (up_ne (by omega)).trans (by first | assumption | exact up_eq | exact (up_ne (by omega)).trans (by first | assumption | exact up_eq | exact (up_ne (by omega)).trans (by first | assumption | exact up_eq)))) (by omega) (by rfl) ?_
      refine PX5_35 (q := 96) (fs' := [_, _, _, _, _, _, _, _, _]) rfl dX5_copyFrom_93 rfl (by first | assumption | exact up_eq | exact (up_ne (by omega)).trans (by first | assumption | exact up_eq | exact (up_ne (by omega)).trans (by first | assumption | exact up_eq | exact (up_ne (by omega)).trans (by first | assumption | exact up_eq)))) (by omega) (by exact (Nat.le_of_ble_eq_true rfl)) (by rfl) ?_
      try rw [up_up]
      refine V_aload_n (q := 97) dX5_copyFrom_96 rfl rfl rfl ?_
      refine V_aload_n (q := 98) dX5_copyFrom_97 rfl rfl rfl ?_
      refine GX5_38 (q := 101) rfl dX5_copyFrom_98 rfl (by first | assumption | exact up_eq | exact (up_ne (by omega)).trans (by first | assumption | exact up_eq | exact (up_ne (by omega)).trans (by first | assumption | exact up_eq | exact (up_ne (by omega)).trans (by first | assumption | exact up_eq)))) (by omega) (by rfl) ?_
      refine PX5_38 (q := 104) (fs' := [_, _, _, _, _, _, _, _, _]) rfl dX5_copyFrom_101 rfl (by first | assumption | exact up_eq | exact (up_ne (by omega)).trans (by first | assumption | exact up_eq | exact (up_ne (by omega)).trans (by first | assumption | exact up_eq | exact (up_ne (by omega)).trans (by first | assumption | exact up_eq)))) (by omega) (by exact (Nat.le_of_ble_eq_true rfl)) (by rfl) ?_
      try rw [up_up]
      refine V_aload_n (q := 105) dX5_copyFrom_104 rfl rfl rfl ?_
      refine V_aload_n (q := 106) dX5_copyFrom_105 rfl rfl rfl ?_
      refine GX5_41 (q := 109) rfl dX5_copyFrom_106 rfl (by first | assumption | exact up_eq | exact (up_ne (by omega)).trans (by first | assumption | exact up_eq | exact (up_ne (by omega)).trans (by first | assumption | exact up_eq | exact (up_ne (by omega)).trans (by first | assumption | exact up_eq)))) (by omega) (by rfl) ?_
      refine PX5_41 (q := 112) (fs' := [_, _, _, _, _, _, _, _, _]) rfl dX5_copyFrom_109 rfl (by first | assumption | exact up_eq | exact (up_ne (by omega)).trans (by first | assumption | exact up_eq | exact (up_ne (by omega)).trans (by first | assumption | exact up_eq | exact (up_ne (by omega)).trans (by first | assumption | exact up_eq)))) (by omega) (by exact (Nat.le_of_ble_eq_true rfl)) (by rfl) ?_
      try rw [up_up]
      refine V_aload_n (q := 113) dX5_copyFrom_112 rfl rfl rfl ?_
      refine V_aload_n (q := 114) dX5_copyFrom_113 rfl rfl rfl ?_
      refine GX5_44 (q := 117) rfl dX5_copyFrom_114 rfl (by first | assumption | exact up_eq | exact (up_ne (by omega)).trans (by first | assumption | exact up_eq | exact (up_ne (by omega)).trans (by first | assumption | exact up_eq | exact (up_ne (by omega)).trans (by first | assumption | exact up_eq)))) (by omega) (by rfl) ?_
      refine PX5_44 (q := 120) (fs' := [_, _, _, _, _, _, _, _, _]) rfl dX5_copyFrom_117 rfl (by first | assumption | exact up_eq | exact (up_ne (by omega)).trans (by first | assumption | exact up_eq | exact (up_ne (by omega)).trans (by first | assumption | exact up_eq | exact (up_ne (by omega)).trans (by first | assumption | exact up_eq)))) (by omega) (by exact (Nat.le_of_ble_eq_true rfl)) (by rfl) ?_
      try rw [up_up]
      refine V_vret dX5_copyFrom_120 rfl (Nat.le_of_ble_eq_true rfl) (Nat.le_of_ble_eq_true rfl) (⟨rfl, rfl, ?_, ?_⟩)
      · refine ⟨G, π, LL1, FF1, ?_, ?_, hn, mc, fun j hj => ?_, hd, fun j hj => ?_⟩
        · exact up_eq
        · exact (up_ne (by omega)).trans b1
        · obtain ⟨q1, q2, q3, q4⟩ := hG j hj
          exact ⟨q1, q2, q3, (b2 j hj).frame (up_ne (by omega)) (up_ne (by omega))⟩
        · obtain ⟨q1, q2⟩ := b3 j (by omega)
          obtain ⟨p1, p2, p3⟩ := mR j hj
          have p4 := (mG j (by omega)).2.2.2.2.2.2
          rw [q1]
          exact ⟨p1, p2, fun i hi => by rw [q2 i (by omega)]; exact p3 i hi⟩
      · intro i hi
        exact (up_ne (by omega)).trans (b4 i hi)
    · intro k hk ih w1 LL1 FF1 b0 b1 b2 b3 b4
      obtain ⟨k1, k2, k3, k4⟩ := hG k hk
      obtain ⟨p1, p2, p3, p4⟩ := mG k hk
      have c0 : w1 b = eO 5 (sfs g b S2) := (b4 b (by omega)).trans m0
      have c1 : w1 (b + 1) = eR g 6 G2 := (b4 _ (by omega)).trans m1
      have c2 : RwF g w1 n (π2 k) (LL2 k) (FF2 k) := p4.frame (b4 _ (by omega)) (b4 _ (by omega))
      have d2 := b2 k hk
      have d3 := d2.1
      refine V_iload_n (q := 11) dX5_copyFrom_10 rfl rfl ?_
      refine V_aload_n (q := 12) dX5_copyFrom_11 rfl rfl rfl ?_
      refine GX5_11 (q := 15) rfl dX5_copyFrom_12 rfl (by first | assumption | exact up_eq | exact (up_ne (by omega)).trans (by first | assumption | exact up_eq | exact (up_ne (by omega)).trans (by first | assumption | exact up_eq | exact (up_ne (by omega)).trans (by first | assumption | exact up_eq)))) (by omega) (by rfl) ?_
      refine V_alenR (q := 16) dX5_copyFrom_15 rfl (by first | assumption | exact up_eq | exact (up_ne (by omega)).trans (by first | assumption | exact up_eq | exact (up_ne (by omega)).trans (by first | assumption | exact up_eq | exact (up_ne (by omega)).trans (by first | assumption | exact up_eq)))) (by omega) ?_
      refine V_icmpN_ge (q := 19) (tgt := 64) dX5_copyFrom_16 (by decide) rfl (by omega) (by omega) (fun h9 => by first | exact h9.elim | exact absurd h9 (by assumption) | (exfalso; omega)) (fun _ => ?_)
      refine V_iload_n (q := 20) dX5_copyFrom_19 rfl rfl ?_
      refine V_aload_n (q := 21) dX5_copyFrom_20 rfl rfl rfl ?_
      refine GX5_11 (q := 24) rfl dX5_copyFrom_21 rfl (by first | assumption | exact up_eq | exact (up_ne (by omega)).trans (by first | assumption | exact up_eq | exact (up_ne (by omega)).trans (by first | assumption | exact up_eq | exact (up_ne (by omega)).trans (by first | assumption | exact up_eq)))) (by omega) (by rfl) ?_
      refine V_alenR (q := 25) dX5_copyFrom_24 rfl (by first | assumption | exact up_eq | exact (up_ne (by omega)).trans (by first | assumption | exact up_eq | exact (up_ne (by omega)).trans (by first | assumption | exact up_eq | exact (up_ne (by omega)).trans (by first | assumption | exact up_eq)))) (by omega) ?_
      refine V_icmpN_ge (q := 28) (tgt := 64) dX5_copyFrom_25 (by decide) rfl (by omega) (by omega) (fun h9 => by first | exact h9.elim | exact absurd h9 (by assumption) | (exfalso; omega)) (fun _ => ?_)
      refine V_aload_n (q := 29) dX5_copyFrom_28 rfl rfl rfl ?_
      refine GX5_11 (q := 32) rfl dX5_copyFrom_29 rfl (by first | assumption | exact up_eq | exact (up_ne (by omega)).trans (by first | assumption | exact up_eq | exact (up_ne (by omega)).trans (by first | assumption | exact up_eq | exact (up_ne (by omega)).trans (by first | assumption | exact up_eq)))) (by omega) (by rfl) ?_
      refine V_iload_n (q := 33) dX5_copyFrom_32 rfl rfl ?_
      refine V_aaldR (q := 34) dX5_copyFrom_33 rfl (by first | assumption | exact up_eq | exact (up_ne (by omega)).trans (by first | assumption | exact up_eq | exact (up_ne (by omega)).trans (by first | assumption | exact up_eq | exact (up_ne (by omega)).trans (by first | assumption | exact up_eq)))) (by omega) (by omega) (by omega) rfl (congrArg va_rf k1) ?_
      refine V_astore_n (q := 35) (ls' := [_, _, _, _, _]) dX5_copyFrom_34 rfl (by decide) (by rfl) rfl rfl ?_
      refine V_aload_n (q := 36) dX5_copyFrom_35 rfl rfl rfl ?_
      refine GX5_11 (q := 39) rfl dX5_copyFrom_36 rfl (by first | assumption | exact up_eq | exact (up_ne (by omega)).trans (by first | assumption | exact up_eq | exact (up_ne (by omega)).trans (by first | assumption | exact up_eq | exact (up_ne (by omega)).trans (by first | assumption | exact up_eq)))) (by omega) (by rfl) ?_
      refine V_iload_n (q := 40) dX5_copyFrom_39 rfl rfl ?_
      refine V_aaldR (q := 41) dX5_copyFrom_40 rfl (by first | assumption | exact up_eq | exact (up_ne (by omega)).trans (by first | assumption | exact up_eq | exact (up_ne (by omega)).trans (by first | assumption | exact up_eq | exact (up_ne (by omega)).trans (by first | assumption | exact up_eq)))) (by omega) (by omega) (by omega) rfl (congrArg va_rf p1) ?_
      refine V_astore (q := 43) (ls' := [_, _, _, _, _]) dX5_copyFrom_41 rfl (by decide) (by rfl) rfl rfl ?_
      refine V_aload_n (q := 44) dX5_copyFrom_43 rfl rfl rfl ?_
      refine V_ifnull (q := 47) dX5_copyFrom_44 rfl ?_
      refine V_aload (q := 49) dX5_copyFrom_47 rfl rfl rfl ?_
      refine V_ifnull (q := 52) dX5_copyFrom_49 rfl ?_
      refine V_aload_n (q := 53) dX5_copyFrom_52 rfl rfl rfl ?_
      refine V_aload (q := 55) dX5_copyFrom_53 rfl rfl rfl ?_
      refine CvX5_22 (q := 58) rfl dX5_copyFrom_55 rfl (c_copyThrows d2 c2 (by omega)) ⟨(Nat.le_of_ble_eq_true rfl), (Nat.le_of_ble_eq_true rfl)⟩ (Nat.le_of_ble_eq_true rfl) (by first | assumption | exact up_eq | exact (up_ne (by omega)).trans (by first | assumption | exact up_eq | exact (up_ne (by omega)).trans (by first | assumption | exact up_eq | exact (up_ne (by omega)).trans (by first | assumption | exact up_eq)))) (by omega) (Nat.zero_le _) (Nat.zero_le _) (fun w2 hw2 => ?_)
      obtain ⟨F', hF', hw2⟩ := hw2
      refine V_iinc (q := 61) (ls' := [_, _, _, _, _]) dX5_copyFrom_58 rfl (by decide) (by rfl) rfl (by first | exact inc1 _ | rfl) rfl ?_
      refine V_goto (tgt := 10) dX5_copyFrom_61 (by decide) ?_
      refine V_fg 3 (ls2 := [_, _, _, none, _]) (by rfl) ?_
      refine V_fg 4 (ls2 := [_, _, _, _, none]) (by rfl) ?_
      refine ih w2 (fun j => if j = k then LL2 k else LL1 j) (fun j => if j = k then F' else FF1 j) ?_ ?_ (fun j hj => ?_) (fun j hj => ?_) (fun i hi => ?_)
      · rw [hw2]; exact (up_ne (by omega)).trans ((up_ne (by omega)).trans b0)
      · rw [hw2]; exact (up_ne (by omega)).trans ((up_ne (by omega)).trans b1)
      · by_cases e : j = k
        · subst e
          rw [if_pos rfl, if_pos rfl, hw2]
          exact ⟨(up_ne (by omega)).trans up_eq, up_eq, d2.2.2.1, c2.2.2.2⟩
        · have dj := hd j k hj hk e
          rw [if_neg e, if_neg e, hw2]
          exact (b2 j hj).frame ((up_ne (by omega)).trans (up_ne (by omega))) ((up_ne (by omega)).trans (up_ne (by omega)))
      · by_cases e : j = k
        · subst e
          rw [if_pos rfl, if_pos rfl]
          exact ⟨rfl, hF'⟩
        · rw [if_neg e, if_neg e]
          exact b3 j (by omega)
      · rw [hw2]
        exact ((up_ne (by omega)).trans (up_ne (by omega))).trans (b4 i hi)
  refine key 0 (Nat.zero_le _) _ LL FF ?_ ?_ (fun j hj => ?_) (fun j hj => absurd hj (Nat.not_lt_zero j)) (fun i hi => ?_)
  · exact up_eq
  · exact (up_ne (by omega)).trans h1
  · have := hG j hj
    exact this.2.2.2.frame (up_ne (by omega)) (up_ne (by omega))
  · exact up_ne (by omega)
end STAND
