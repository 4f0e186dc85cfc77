/-! A ROW OF THROWS: the object at r, its heights at r + 1 -/
def Rw (g : GG) (w : HW) (n r L : Nat) (h : Nat → Nat) : Prop := ∃ F : Nat → Int32, w r = eO 4 [.int (nI L), rf g (r + 1)] ∧ w (r + 1) = eI g 8 F ∧ r + 1 < n ∧ L ≤ 8 ∧ ∀ i, i < L → F i = nI (h i) ∧ h i ≤ 9
def sumN (h : Nat → Nat) : Nat → Nat
  | 0 => 0
  | k + 1 => sumN h k + h k
def bI (p : Prop) [Decidable p] : Int32 := if p then 1 else 0
section ROW
variable {g : GG} {l : Launch} {w : HW} {n r L : Nat} {h : Nat → Nat}
theorem c_hasBeat_in (hR : Rw g w n r L h) {i : Nat} (hi : i < L) : CtR g l MX4_hasBeat 0 [rf g r, .int (nI i)] w n (.int 1) := by
  obtain ⟨F, h0, h1, hn, hL, hF⟩ := hR
  refine Ct.ofs (M := MX4_hasBeat) (ls := [some _, some _]) (by decide +kernel) (by exact (Nat.le_of_ble_eq_true rfl)) (by rfl) (by rfl) (by rfl) ?_
  refine V_iload_n (q := 1) dX4_hasBeat_0 rfl rfl ?_
  refine V_ifN_lt (q := 4) (tgt := 16) dX4_hasBeat_1 (by decide) rfl (by omega) (fun h9 => by first | exact h9.elim | exact absurd h9 (by assumption) | (exfalso; omega)) (fun _ => ?_)
  refine V_iload_n (q := 5) dX4_hasBeat_4 rfl rfl ?_
  refine V_aload_n (q := 6) dX4_hasBeat_5 rfl rfl rfl ?_
  refine GX4_15 (q := 9) rfl dX4_hasBeat_6 rfl (by first | assumption | exact up_eq | exact (up_ne (by omega)).trans (by first | assumption | exact up_eq | exact (up_ne (by omega)).trans (by first | assumption | exact up_eq | exact (up_ne (by omega)).trans (by first | assumption | exact up_eq)))) (by omega) (by rfl) ?_
  refine V_icmpN_ge (q := 12) (tgt := 16) dX4_hasBeat_9 (by decide) rfl (by omega) (by omega) (fun h9 => by first | exact h9.elim | exact absurd h9 (by assumption) | (exfalso; omega)) (fun _ => ?_)
  refine V_iconst (q := 13) (v := nI 1) dX4_hasBeat_12 rfl (by decide) ?_
  refine V_goto (tgt := 17) dX4_hasBeat_13 (by decide) ?_
  exact V_zret dX4_hasBeat_17 rfl (rfl) (Nat.le_of_ble_eq_true rfl) (Nat.le_of_ble_eq_true rfl) (⟨rfl, rfl, rfl⟩)
theorem c_hasBeat_out (hR : Rw g w n r L h) {x : Int32} (hx : x < 0 ∨ nI L ≤ x) : CtR g l MX4_hasBeat 0 [rf g r, .int x] w n (.int 0) := by
  obtain ⟨F, h0, h1, hn, hL, hF⟩ := hR
  refine Ct.ofs (M := MX4_hasBeat) (ls := [some _, some _]) (by decide +kernel) (by exact (Nat.le_of_ble_eq_true rfl)) (by rfl) (by rfl) (by rfl) ?_
  refine V_iload_n (q := 1) dX4_hasBeat_0 rfl rfl ?_
  refine V_if_lt (q := 4) (tgt := 16) dX4_hasBeat_1 (by decide) rfl (fun hc => ?_) (fun hc => ?_)
  · skip
    refine V_iconst (q := 17) (v := nI 0) dX4_hasBeat_16 rfl (by decide) ?_
    exact V_zret dX4_hasBeat_17 rfl (rfl) (Nat.le_of_ble_eq_true rfl) (Nat.le_of_ble_eq_true rfl) (⟨rfl, rfl, rfl⟩)
  · skip
    refine V_iload_n (q := 5) dX4_hasBeat_4 rfl rfl ?_
    refine V_aload_n (q := 6) dX4_hasBeat_5 rfl rfl rfl ?_
    refine GX4_15 (q := 9) rfl dX4_hasBeat_6 rfl (by first | assumption | exact up_eq | exact (up_ne (by omega)).trans (by first | assumption | exact up_eq | exact (up_ne (by omega)).trans (by first | assumption | exact up_eq | exact (up_ne (by omega)).trans (by first | assumption | exact up_eq)))) (by omega) (by rfl) ?_
    refine V_icmp_ge (q := 12) (tgt := 16) dX4_hasBeat_9 (by decide) rfl (fun _ => ?_) (fun h9 => absurd (hx.resolve_left hc) h9)
    refine V_iconst (q := 17) (v := nI 0) dX4_hasBeat_16 rfl (by decide) ?_
    exact V_zret dX4_hasBeat_17 rfl (rfl) (Nat.le_of_ble_eq_true rfl) (Nat.le_of_ble_eq_true rfl) (⟨rfl, rfl, rfl⟩)
theorem c_heightAt (hR : Rw g w n r L h) {i : Nat} (hi : i < L) : CtR g l MX4_heightAt 0 [rf g r, .int (nI i)] w n (.int (nI (h i))) := by
  obtain ⟨F, h0, h1, hn, hL, hF⟩ := hR
  refine Ct.ofs (M := MX4_heightAt) (ls := [some _, some _]) (by decide +kernel) (by exact (Nat.le_of_ble_eq_true rfl)) (by rfl) (by rfl) (by rfl) ?_
  refine V_iload_n (q := 1) dX4_heightAt_0 rfl rfl ?_
  refine V_ifN_lt (q := 4) (tgt := 22) dX4_heightAt_1 (by decide) rfl (by omega) (fun h9 => by first | exact h9.elim | exact absurd h9 (by assumption) | (exfalso; omega)) (fun _ => ?_)
  refine V_iload_n (q := 5) dX4_heightAt_4 rfl rfl ?_
  refine V_aload_n (q := 6) dX4_heightAt_5 rfl rfl rfl ?_
  refine GX4_9 (q := 9) rfl dX4_heightAt_6 rfl (by first | assumption | exact up_eq | exact (up_ne (by omega)).trans (by first | assumption | exact up_eq | exact (up_ne (by omega)).trans (by first | assumption | exact up_eq | exact (up_ne (by omega)).trans (by first | assumption | exact up_eq)))) (by omega) (by rfl) ?_
  refine V_alenI (q := 10) dX4_heightAt_9 rfl (by first | assumption | exact up_eq | exact (up_ne (by omega)).trans (by first | assumption | exact up_eq | exact (up_ne (by omega)).trans (by first | assumption | exact up_eq | exact (up_ne (by omega)).trans (by first | assumption | exact up_eq)))) (by omega) ?_
  refine V_icmpN_ge (q := 13) (tgt := 22) dX4_heightAt_10 (by decide) rfl (by omega) (by omega) (fun h9 => by first | exact h9.elim | exact absurd h9 (by assumption) | (exfalso; omega)) (fun _ => ?_)
  refine V_aload_n (q := 14) dX4_heightAt_13 rfl rfl rfl ?_
  refine GX4_9 (q := 17) rfl dX4_heightAt_14 rfl (by first | assumption | exact up_eq | exact (up_ne (by omega)).trans (by first | assumption | exact up_eq | exact (up_ne (by omega)).trans (by first | assumption | exact up_eq | exact (up_ne (by omega)).trans (by first | assumption | exact up_eq)))) (by omega) (by rfl) ?_
  refine V_iload_n (q := 18) dX4_heightAt_17 rfl rfl ?_
  refine V_ialdN (q := 19) dX4_heightAt_18 rfl (by first | assumption | exact up_eq | exact (up_ne (by omega)).trans (by first | assumption | exact up_eq | exact (up_ne (by omega)).trans (by first | assumption | exact up_eq | exact (up_ne (by omega)).trans (by first | assumption | exact up_eq)))) (by omega) (by omega) (by omega) rfl ((hF i hi).1) ?_
  refine V_goto (tgt := 23) dX4_heightAt_19 (by decide) ?_
  exact V_iret dX4_heightAt_23 rfl (Nat.le_of_ble_eq_true rfl) (Nat.le_of_ble_eq_true rfl) (⟨rfl, rfl, rfl⟩)
theorem c_landing (hR : Rw g w n r L h) {i : Nat} (hi : i < L) : CtR g l MX4_landing 0 [rf g r, .int (nI i)] w n (.int (nI ((i + h i) % L))) := by
  obtain ⟨F, h0, h1, hn, hL, hF⟩ := hR
  have h9 := (hF i hi).2
  refine Ct.ofs (M := MX4_landing) (ls := [some _, some _]) (by decide +kernel) (by exact (Nat.le_of_ble_eq_true rfl)) (by rfl) (by rfl) (by rfl) ?_
  refine V_aload_n (q := 1) dX4_landing_0 rfl rfl rfl ?_
  refine GX4_15 (q := 4) rfl dX4_landing_1 rfl (by first | assumption | exact up_eq | exact (up_ne (by omega)).trans (by first | assumption | exact up_eq | exact (up_ne (by omega)).trans (by first | assumption | exact up_eq | exact (up_ne (by omega)).trans (by first | assumption | exact up_eq)))) (by omega) (by rfl) ?_
  refine V_ifN_le (q := 7) (tgt := 20) dX4_landing_4 (by decide) rfl (by omega) (fun h9 => by first | exact h9.elim | exact absurd h9 (by assumption) | (exfalso; omega)) (fun _ => ?_)
  refine V_iload_n (q := 8) dX4_landing_7 rfl rfl ?_
  refine V_ifN_lt (q := 11) (tgt := 20) dX4_landing_8 (by decide) rfl (by omega) (fun h9 => by first | exact h9.elim | exact absurd h9 (by assumption) | (exfalso; omega)) (fun _ => ?_)
  refine V_iload_n (q := 12) dX4_landing_11 rfl rfl ?_
  refine V_aload_n (q := 13) dX4_landing_12 rfl rfl rfl ?_
  refine GX4_9 (q := 16) rfl dX4_landing_13 rfl (by first | assumption | exact up_eq | exact (up_ne (by omega)).trans (by first | assumption | exact up_eq | exact (up_ne (by omega)).trans (by first | assumption | exact up_eq | exact (up_ne (by omega)).trans (by first | assumption | exact up_eq)))) (by omega) (by rfl) ?_
  refine V_alenI (q := 17) dX4_landing_16 rfl (by first | assumption | exact up_eq | exact (up_ne (by omega)).trans (by first | assumption | exact up_eq | exact (up_ne (by omega)).trans (by first | assumption | exact up_eq | exact (up_ne (by omega)).trans (by first | assumption | exact up_eq)))) (by omega) ?_
  refine V_icmpN_lt (q := 20) (tgt := 22) dX4_landing_17 (by decide) rfl (by omega) (by omega) (fun _ => ?_) (fun h9 => by first | exact h9.elim | (exfalso; omega))
  refine V_iload_n (q := 23) dX4_landing_22 rfl rfl ?_
  refine V_aload_n (q := 24) dX4_landing_23 rfl rfl rfl ?_
  refine GX4_9 (q := 27) rfl dX4_landing_24 rfl (by first | assumption | exact up_eq | exact (up_ne (by omega)).trans (by first | assumption | exact up_eq | exact (up_ne (by omega)).trans (by first | assumption | exact up_eq | exact (up_ne (by omega)).trans (by first | assumption | exact up_eq)))) (by omega) (by rfl) ?_
  refine V_iload_n (q := 28) dX4_landing_27 rfl rfl ?_
  refine V_ialdN (q := 29) dX4_landing_28 rfl (by first | assumption | exact up_eq | exact (up_ne (by omega)).trans (by first | assumption | exact up_eq | exact (up_ne (by omega)).trans (by first | assumption | exact up_eq | exact (up_ne (by omega)).trans (by first | assumption | exact up_eq)))) (by omega) (by omega) (by omega) rfl ((hF i hi).1) ?_
  refine V_iadd (q := 30) dX4_landing_29 rfl (by first | exact nI_add _ _ | rfl) ?_
  refine V_aload_n (q := 31) dX4_landing_30 rfl rfl rfl ?_
  refine GX4_15 (q := 34) rfl dX4_landing_31 rfl (by first | assumption | exact up_eq | exact (up_ne (by omega)).trans (by first | assumption | exact up_eq | exact (up_ne (by omega)).trans (by first | assumption | exact up_eq | exact (up_ne (by omega)).trans (by first | assumption | exact up_eq)))) (by omega) (by rfl) ?_
  refine V_irem (q := 35) dX4_landing_34 rfl (nI_ne0 (by omega) (by omega)) (by first | exact pk_rem (by omega) (by omega) (by omega) | rfl) ?_
  exact V_iret dX4_landing_35 rfl (Nat.le_of_ble_eq_true rfl) (Nat.le_of_ble_eq_true rfl) (⟨rfl, rfl, rfl⟩)
theorem c_rsum (hR : Rw g w n r L h) : CtR g l MX4_sum 1 [rf g r] w n (.int (nI (sumN h L))) := by
  have hR0 := hR
  obtain ⟨F, h0, h1, hn, hL, hF⟩ := hR
  refine Ct.ofs (M := MX4_sum) (ls := [some _, none, none]) (by decide +kernel) (by exact (Nat.le_of_ble_eq_true rfl)) (by rfl) (by rfl) (by rfl) ?_
  refine V_iconst (q := 1) (v := nI 0) dX4_sum_0 rfl (by decide) ?_
  refine V_istore_n (q := 2) (ls' := [_, _, _]) dX4_sum_1 rfl (by decide) rfl ?_
  refine V_iconst (q := 3) (v := nI 0) dX4_sum_2 rfl (by decide) ?_
  refine V_istore_n (q := 4) (ls' := [_, _, _]) dX4_sum_3 rfl (by decide) rfl ?_
  have loop : ∀ k i : Nat, i ≤ L → L - i ≤ k → V g l MX4_sum (rmd 1 0 0) (FinM g (fun v' w' n' => n' = n ∧ v' = some (.int (nI (sumN h L))) ∧ w' = w) 0 0) 4 [some (rf g r), some (.int (nI (sumN h i))), some (.int (nI i))] [] w n 0 0 := by
    intro k
    induction k with
    | zero =>
      intro i hi hk
      obtain rfl : i = L := by omega
      refine V_iload_n (q := 5) dX4_sum_4 rfl rfl ?_
      refine V_aload_n (q := 6) dX4_sum_5 rfl rfl rfl ?_
      refine GX4_15 (q := 9) rfl dX4_sum_6 rfl (by first | assumption | exact up_eq | exact (up_ne (by omega)).trans (by first | assumption | exact up_eq | exact (up_ne (by omega)).trans (by first | assumption | exact up_eq | exact (up_ne (by omega)).trans (by first | assumption | exact up_eq)))) (by omega) (by rfl) ?_
      refine V_icmpN_ge (q := 12) (tgt := 26) dX4_sum_9 (by decide) rfl (by omega) (by omega) (fun _ => ?_) (fun h9 => by first | exact h9.elim | (exfalso; omega))
      refine V_iload_n (q := 27) dX4_sum_26 rfl rfl ?_
      exact V_iret dX4_sum_27 rfl (Nat.le_of_ble_eq_true rfl) (Nat.le_of_ble_eq_true rfl) (⟨rfl, rfl, rfl⟩)
    | succ k ih =>
      intro i hi hk
      refine V_iload_n (q := 5) dX4_sum_4 rfl rfl ?_
      refine V_aload_n (q := 6) dX4_sum_5 rfl rfl rfl ?_
      refine GX4_15 (q := 9) rfl dX4_sum_6 rfl (by first | assumption | exact up_eq | exact (up_ne (by omega)).trans (by first | assumption | exact up_eq | exact (up_ne (by omega)).trans (by first | assumption | exact up_eq | exact (up_ne (by omega)).trans (by first | assumption | exact up_eq)))) (by omega) (by rfl) ?_
      refine V_icmpN_ge (q := 12) (tgt := 26) dX4_sum_9 (by decide) rfl (by omega) (by omega) (fun hc => ?_) (fun hc => ?_)
      · skip
        obtain rfl : i = L := by omega
        refine V_iload_n (q := 27) dX4_sum_26 rfl rfl ?_
        exact V_iret dX4_sum_27 rfl (Nat.le_of_ble_eq_true rfl) (Nat.le_of_ble_eq_true rfl) (⟨rfl, rfl, rfl⟩)
      · skip
        refine V_iload_n (q := 13) dX4_sum_12 rfl rfl ?_
        refine V_aload_n (q := 14) dX4_sum_13 rfl rfl rfl ?_
        refine V_iload_n (q := 15) dX4_sum_14 rfl rfl ?_
        refine CrX4_29 (q := 18) rfl dX4_sum_15 rfl (c_heightAt hR0 hc) ⟨(Nat.le_of_ble_eq_true rfl), (Nat.le_of_ble_eq_true rfl)⟩ (Nat.le_of_ble_eq_true rfl) (by first | assumption | exact up_eq | exact (up_ne (by omega)).trans (by first | assumption | exact up_eq | exact (up_ne (by omega)).trans (by first | assumption | exact up_eq | exact (up_ne (by omega)).trans (by first | assumption | exact up_eq)))) (by omega) (Nat.zero_le _) (Nat.zero_le _) ?_
        refine V_iadd (q := 19) dX4_sum_18 rfl (by first | exact nI_add _ _ | rfl) ?_
        refine V_istore_n (q := 20) (ls' := [_, _, _]) dX4_sum_19 rfl (by decide) rfl ?_
        refine V_iinc (q := 23) (ls' := [_, _, _]) dX4_sum_20 rfl (by decide) rfl (by first | exact inc1 _ | rfl) rfl ?_
        refine V_goto (tgt := 4) dX4_sum_23 (by decide) ?_
        exact ih (i + 1) hc (by omega)
  exact loop L 0 (Nat.zero_le _) (by omega)
end ROW
