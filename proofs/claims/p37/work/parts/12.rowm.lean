section ROW
variable {g : GG} {l : Launch} {w : HW} {n r L : Nat} {h : Nat → Nat} {F : Nat → Int32}
theorem c_hasBeat_in (hR : RwF g w n r L F) {i : Nat} (hi : i < L) : CtR g l MX4_hasBeat 0 [rf g r, .int (nI i)] w n (.int 1) := by
  obtain ⟨h0, h1, hn, hL⟩ := hR
  refine Ct.ofs (M := MX4_hasBeat) (ls := [some _, some _]) (by decide +kernel) (by exact (Nat.le_of_ble_eq_true rfl)) (by rfl) (by rfl) (by rfl) ?_
  refine V_iload_n (q := 1) dX4_hasBeat_0 rfl rfl ?_
  refine V_ifN_lt (q := 4) (tgt := 16) dX4_hasBeat_1 (by decide) rfl (by omega) (fun h9 => by first | exact h9.elim | exact absurd h9 (by assumption) | (exfalso; omega)) (fun _ => ?_)
  refine V_iload_n (q := 5) dX4_hasBeat_4 rfl rfl ?_
  refine V_aload_n (q := 6) dX4_hasBeat_5 rfl rfl rfl ?_
  refine GX4_15 (q := 9) rfl dX4_hasBeat_6 rfl (by first | assumption | exact up_eq | exact (up_ne (by omega)).trans (by first | assumption | exact up_eq | exact (up_ne (by omega)).trans (by first | assumption | exact up_eq | exact (up_ne (by omega)).trans (by first | assumption | exact up_eq)))) (by omega) (by rfl) ?_
  refine V_icmpN_ge (q := 12) (tgt := 16) dX4_hasBeat_9 (by decide) rfl (by omega) (by omega) (fun h9 => by first | exact h9.elim | exact absurd h9 (by assumption) | (exfalso; omega)) (fun _ => ?_)
  refine V_iconst (q := 13) (v := nI 1) dX4_hasBeat_12 rfl (by decide) ?_
  refine V_goto (tgt := 17) dX4_hasBeat_13 (by decide) ?_
  exact V_zret dX4_hasBeat_17 rfl (rfl) (Nat.le_of_ble_eq_true rfl) (Nat.le_of_ble_eq_true rfl) (⟨rfl, rfl, rfl⟩)
theorem c_hasBeat_out (hR : RwF g w n r L F) {x : Int32} (hx : x < 0 ∨ nI L ≤ x) : CtR g l MX4_hasBeat 0 [rf g r, .int x] w n (.int 0) := by
  obtain ⟨h0, h1, hn, hL⟩ := hR
  refine Ct.ofs (M := MX4_hasBeat) (ls := [some _, some _]) (by decide +kernel) (by exact (Nat.le_of_ble_eq_true rfl)) (by rfl) (by rfl) (by rfl) ?_
  refine V_iload_n (q := 1) dX4_hasBeat_0 rfl rfl ?_
  refine V_if_lt (q := 4) (tgt := 16) dX4_hasBeat_1 (by decide) rfl (fun hc => ?_) (fun hc => ?_)
  · skip
    refine V_iconst (q := 17) (v := nI 0) dX4_hasBeat_16 rfl (by decide) ?_
    exact V_zret dX4_hasBeat_17 rfl (rfl) (Nat.le_of_ble_eq_true rfl) (Nat.le_of_ble_eq_true rfl) (⟨rfl, rfl, rfl⟩)
  · skip
    refine V_iload_n (q := 5) dX4_hasBeat_4 rfl rfl ?_
    refine V_aload_n (q := 6) dX4_hasBeat_5 rfl rfl rfl ?_
    refine GX4_15 (q := 9) rfl dX4_hasBeat_6 rfl (by first | assumption | exact up_eq | exact (up_ne (by omega)).trans (by first | assumption | exact up_eq | exact (up_ne (by omega)).trans (by first | assumption | exact up_eq | exact (up_ne (by omega)).trans (by first | assumption | exact up_eq)))) (by omega) (by rfl) ?_
    refine V_icmp_ge (q := 12) (tgt := 16) dX4_hasBeat_9 (by decide) rfl (fun _ => ?_) (fun h9 => absurd (hx.resolve_left hc) h9)
    refine V_iconst (q := 17) (v := nI 0) dX4_hasBeat_16 rfl (by decide) ?_
    exact V_zret dX4_hasBeat_17 rfl (rfl) (Nat.le_of_ble_eq_true rfl) (Nat.le_of_ble_eq_true rfl) (⟨rfl, rfl, rfl⟩)
theorem c_heightAt (hR : RwF g w n r L F) (hF : Fh F L h) {i : Nat} (hi : i < L) : CtR g l MX4_heightAt 0 [rf g r, .int (nI i)] w n (.int (nI (h i))) := by
  obtain ⟨h0, h1, hn, hL⟩ := hR
  refine Ct.ofs (M := MX4_heightAt) (ls := [some _, some _]) (by decide +kernel) (by exact (Nat.le_of_ble_eq_true rfl)) (by rfl) (by rfl) (by rfl) ?_
  refine V_iload_n (q := 1) dX4_heightAt_0 rfl rfl ?_
  refine V_ifN_lt (q := 4) (tgt := 22) dX4_heightAt_1 (by decide) rfl (by omega) (fun h9 => by first | exact h9.elim | exact absurd h9 (by assumption) | (exfalso; omega)) (fun _ => ?_)
  refine V_iload_n (q := 5) dX4_heightAt_4 rfl rfl ?_
  refine V_aload_n (q := 6) dX4_heightAt_5 rfl rfl rfl ?_
  refine GX4_9 (q := 9) rfl dX4_heightAt_6 rfl (by first | assumption | exact up_eq | exact (up_ne (by omega)).trans (by first | assumption | exact up_eq | exact (up_ne (by omega)).trans (by first | assumption | exact up_eq | exact (up_ne (by omega)).trans (by first | assumption | exact up_eq)))) (by omega) (by rfl) ?_
  refine V_alenI (q := 10) dX4_heightAt_9 rfl (by first | assumption | exact up_eq | exact (up_ne (by omega)).trans (by first | assumption | exact up_eq | exact (up_ne (by omega)).trans (by first | assumption | exact up_eq | exact (up_ne (by omega)).trans (by first | assumption | exact up_eq)))) (by omega) ?_
  refine V_icmpN_ge (q := 13) (tgt := 22) dX4_heightAt_10 (by decide) rfl (by omega) (by omega) (fun h9 => by first | exact h9.elim | exact absurd h9 (by assumption) | (exfalso; omega)) (fun _ => ?_)
  refine V_aload_n (q := 14) dX4_heightAt_13 rfl rfl rfl ?_
  refine GX4_9 (q := 17) rfl dX4_heightAt_14 rfl (by first | assumption | exact up_eq | exact (up_ne (by omega)).trans (by first | assumption | exact up_eq | exact (up_ne (by omega)).trans (by first | assumption | exact up_eq | exact (up_ne (by omega)).trans (by first | assumption | exact up_eq)))) (by omega) (by rfl) ?_
  refine V_iload_n (q := 18) dX4_heightAt_17 rfl rfl ?_
  refine V_ialdN (q := 19) dX4_heightAt_18 rfl (by first | assumption | exact up_eq | exact (up_ne (by omega)).trans (by first | assumption | exact up_eq | exact (up_ne (by omega)).trans (by first | assumption | exact up_eq | exact (up_ne (by omega)).trans (by first | assumption | exact up_eq)))) (by omega) (by omega) (by omega) rfl ((hF i hi).1) ?_
  refine V_goto (tgt := 23) dX4_heightAt_19 (by decide) ?_
  exact V_iret dX4_heightAt_23 rfl (Nat.le_of_ble_eq_true rfl) (Nat.le_of_ble_eq_true rfl) (⟨rfl, rfl, rfl⟩)
theorem c_heightAtF (hR : RwF g w n r L F) {i : Nat} (hi : i < 8) : CtR g l MX4_heightAt 0 [rf g r, .int (nI i)] w n (.int (F i)) := by
  obtain ⟨h0, h1, hn, hL⟩ := hR
  refine Ct.ofs (M := MX4_heightAt) (ls := [some _, some _]) (by decide +kernel) (by exact (Nat.le_of_ble_eq_true rfl)) (by rfl) (by rfl) (by rfl) ?_
  refine V_iload_n (q := 1) dX4_heightAt_0 rfl rfl ?_
  refine V_ifN_lt (q := 4) (tgt := 22) dX4_heightAt_1 (by decide) rfl (by omega) (fun h9 => by first | exact h9.elim | exact absurd h9 (by assumption) | (exfalso; omega)) (fun _ => ?_)
  refine V_iload_n (q := 5) dX4_heightAt_4 rfl rfl ?_
  refine V_aload_n (q := 6) dX4_heightAt_5 rfl rfl rfl ?_
  refine GX4_9 (q := 9) rfl dX4_heightAt_6 rfl (by first | assumption | exact up_eq | exact (up_ne (by omega)).trans (by first | assumption | exact up_eq | exact (up_ne (by omega)).trans (by first | assumption | exact up_eq | exact (up_ne (by omega)).trans (by first | assumption | exact up_eq)))) (by omega) (by rfl) ?_
  refine V_alenI (q := 10) dX4_heightAt_9 rfl (by first | assumption | exact up_eq | exact (up_ne (by omega)).trans (by first | assumption | exact up_eq | exact (up_ne (by omega)).trans (by first | assumption | exact up_eq | exact (up_ne (by omega)).trans (by first | assumption | exact up_eq)))) (by omega) ?_
  refine V_icmpN_ge (q := 13) (tgt := 22) dX4_heightAt_10 (by decide) rfl (by omega) (by omega) (fun h9 => by first | exact h9.elim | exact absurd h9 (by assumption) | (exfalso; omega)) (fun _ => ?_)
  refine V_aload_n (q := 14) dX4_heightAt_13 rfl rfl rfl ?_
  refine GX4_9 (q := 17) rfl dX4_heightAt_14 rfl (by first | assumption | exact up_eq | exact (up_ne (by omega)).trans (by first | assumption | exact up_eq | exact (up_ne (by omega)).trans (by first | assumption | exact up_eq | exact (up_ne (by omega)).trans (by first | assumption | exact up_eq)))) (by omega) (by rfl) ?_
  refine V_iload_n (q := 18) dX4_heightAt_17 rfl rfl ?_
  refine V_ialdN (q := 19) dX4_heightAt_18 rfl (by first | assumption | exact up_eq | exact (up_ne (by omega)).trans (by first | assumption | exact up_eq | exact (up_ne (by omega)).trans (by first | assumption | exact up_eq | exact (up_ne (by omega)).trans (by first | assumption | exact up_eq)))) (by omega) (by omega) (by omega) rfl (by rfl) ?_
  refine V_goto (tgt := 23) dX4_heightAt_19 (by decide) ?_
  exact V_iret dX4_heightAt_23 rfl (Nat.le_of_ble_eq_true rfl) (Nat.le_of_ble_eq_true rfl) (⟨rfl, rfl, rfl⟩)
theorem c_setHeight (hR : RwF g w n r L F) {i : Nat} (hi : i < 8) {x : Int32} : CtV g l MX4_setHeight 0 [rf g r, .int (nI i), .int x] w n (fun w' => w' = va_up w (r + 1) (eI g 8 (upd F i x))) := by
  obtain ⟨h0, h1, hn, hL⟩ := hR
  refine Ct.ofs (M := MX4_setHeight) (ls := [some _, some _, some _]) (by decide +kernel) (by exact (Nat.le_of_ble_eq_true rfl)) (by rfl) (by rfl) (by rfl) ?_
  refine V_iload_n (q := 1) dX4_setHeight_0 rfl rfl ?_
  refine V_ifN_lt (q := 4) (tgt := 20) dX4_setHeight_1 (by decide) rfl (by omega) (fun h9 => by first | exact h9.elim | exact absurd h9 (by assumption) | (exfalso; omega)) (fun _ => ?_)
  refine V_iload_n (q := 5) dX4_setHeight_4 rfl rfl ?_
  refine V_aload_n (q := 6) dX4_setHeight_5 rfl rfl rfl ?_
  refine GX4_9 (q := 9) rfl dX4_setHeight_6 rfl (by first | assumption | exact up_eq | exact (up_ne (by omega)).trans (by first | assumption | exact up_eq | exact (up_ne (by omega)).trans (by first | assumption | exact up_eq | exact (up_ne (by omega)).trans (by first | assumption | exact up_eq)))) (by omega) (by rfl) ?_
  refine V_alenI (q := 10) dX4_setHeight_9 rfl (by first | assumption | exact up_eq | exact (up_ne (by omega)).trans (by first | assumption | exact up_eq | exact (up_ne (by omega)).trans (by first | assumption | exact up_eq | exact (up_ne (by omega)).trans (by first | assumption | exact up_eq)))) (by omega) ?_
  refine V_icmpN_ge (q := 13) (tgt := 20) dX4_setHeight_10 (by decide) rfl (by omega) (by omega) (fun h9 => by first | exact h9.elim | exact absurd h9 (by assumption) | (exfalso; omega)) (fun _ => ?_)
  refine V_aload_n (q := 14) dX4_setHeight_13 rfl rfl rfl ?_
  refine GX4_9 (q := 17) rfl dX4_setHeight_14 rfl (by first | assumption | exact up_eq | exact (up_ne (by omega)).trans (by first | assumption | exact up_eq | exact (up_ne (by omega)).trans (by first | assumption | exact up_eq | exact (up_ne (by omega)).trans (by first | assumption | exact up_eq)))) (by omega) (by rfl) ?_
  refine V_iload_n (q := 18) dX4_setHeight_17 rfl rfl ?_
  refine V_iload_n (q := 19) dX4_setHeight_18 rfl rfl ?_
  refine V_iastN (q := 20) dX4_setHeight_19 rfl (by first | assumption | exact up_eq | exact (up_ne (by omega)).trans (by first | assumption | exact up_eq | exact (up_ne (by omega)).trans (by first | assumption | exact up_eq | exact (up_ne (by omega)).trans (by first | assumption | exact up_eq)))) (by omega) (by omega) (by omega) rfl (by rfl) ?_
  exact V_vret dX4_setHeight_20 rfl (Nat.le_of_ble_eq_true rfl) (Nat.le_of_ble_eq_true rfl) (⟨rfl, rfl, rfl⟩)
theorem c_landing (hR : RwF g w n r L F) (hF : Fh F L h) {i : Nat} (hi : i < L) : CtR g l MX4_landing 0 [rf g r, .int (nI i)] w n (.int (nI (landN h L i))) := by
  obtain ⟨h0, h1, hn, hL⟩ := hR
  have h9 := (hF i hi).2
  refine Ct.ofs (M := MX4_landing) (ls := [some _, some _]) (by decide +kernel) (by exact (Nat.le_of_ble_eq_true rfl)) (by rfl) (by rfl) (by rfl) ?_
  refine V_aload_n (q := 1) dX4_landing_0 rfl rfl rfl ?_
  refine GX4_15 (q := 4) rfl dX4_landing_1 rfl (by first | assumption | exact up_eq | exact (up_ne (by omega)).trans (by first | assumption | exact up_eq | exact (up_ne (by omega)).trans (by first | assumption | exact up_eq | exact (up_ne (by omega)).trans (by first | assumption | exact up_eq)))) (by omega) (by rfl) ?_
  refine V_ifN_le (q := 7) (tgt := 20) dX4_landing_4 (by decide) rfl (by omega) (fun h9 => by first | exact h9.elim | exact absurd h9 (by assumption) | (exfalso; omega)) (fun _ => ?_)
  refine V_iload_n (q := 8) dX4_landing_7 rfl rfl ?_
  refine V_ifN_lt (q := 11) (tgt := 20) dX4_landing_8 (by decide) rfl (by omega) (fun h9 => by first | exact h9.elim | exact absurd h9 (by assumption) | (exfalso; omega)) (fun _ => ?_)
  refine V_iload_n (q := 12) dX4_landing_11 rfl rfl ?_
  refine V_aload_n (q := 13) dX4_landing_12 rfl rfl rfl ?_
  refine GX4_9 (q := 16) rfl dX4_landing_13 rfl (by first | assumption | exact up_eq | exact (up_ne (by omega)).trans (by first | assumption | exact up_eq | exact (up_ne (by omega)).trans (by first | assumption | exact up_eq | exact (up_ne (by omega)).trans (by first | assumption | exact up_eq)))) (by omega) (by rfl) ?_
  refine V_alenI (q := 17) dX4_landing_16 rfl (by first | assumption | exact up_eq | exact (up_ne (by omega)).trans (by first | assumption | exact up_eq | exact (up_ne (by omega)).trans (by first | assumption | exact up_eq | exact (up_ne (by omega)).trans (by first | assumption | exact up_eq)))) (by omega) ?_
  refine V_icmpN_lt (q := 20) (tgt := 22) dX4_landing_17 (by decide) rfl (by omega) (by omega) (fun _ => ?_) (fun h9 => by first | exact h9.elim | (exfalso; omega))
  refine V_iload_n (q := 23) dX4_landing_22 rfl rfl ?_
  refine V_aload_n (q := 24) dX4_landing_23 rfl rfl rfl ?_
  refine GX4_9 (q := 27) rfl dX4_landing_24 rfl (by first | assumption | exact up_eq | exact (up_ne (by omega)).trans (by first | assumption | exact up_eq | exact (up_ne (by omega)).trans (by first | assumption | exact up_eq | exact (up_ne (by omega)).trans (by first | assumption | exact up_eq)))) (by omega) (by rfl) ?_
  refine V_iload_n (q := 28) dX4_landing_27 rfl rfl ?_
  refine V_ialdN (q := 29) dX4_landing_28 rfl (by first | assumption | exact up_eq | exact (up_ne (by omega)).trans (by first | assumption | exact up_eq | exact (up_ne (by omega)).trans (by first | assumption | exact up_eq | exact (up_ne (by omega)).trans (by first | assumption | exact up_eq)))) (by omega) (by omega) (by omega) rfl ((hF i hi).1) ?_
  refine V_iadd (q := 30) dX4_landing_29 rfl (by first | exact nI_add _ _ | rfl) ?_
  refine V_aload_n (q := 31) dX4_landing_30 rfl rfl rfl ?_
  refine GX4_15 (q := 34) rfl dX4_landing_31 rfl (by first | assumption | exact up_eq | exact (up_ne (by omega)).trans (by first | assumption | exact up_eq | exact (up_ne (by omega)).trans (by first | assumption | exact up_eq | exact (up_ne (by omega)).trans (by first | assumption | exact up_eq)))) (by omega) (by rfl) ?_
  refine V_irem (q := 35) dX4_landing_34 rfl (nI_ne0 (by omega) (by omega)) (by first | exact pk_rem (by omega) (by omega) (by omega) | rfl) ?_
  exact V_iret dX4_landing_35 rfl (Nat.le_of_ble_eq_true rfl) (Nat.le_of_ble_eq_true rfl) (⟨rfl, rfl, rfl⟩)
theorem c_rsum (hR : RwF g w n r L F) (hF : Fh F L h) : CtR g l MX4_sum 1 [rf g r] w n (.int (nI (sumN h L))) := by
  have hR0 := hR
  obtain ⟨h0, h1, hn, hL⟩ := hR
  refine Ct.ofs (M := MX4_sum) (ls := [some _, none, none]) (by decide +kernel) (by exact (Nat.le_of_ble_eq_true rfl)) (by rfl) (by rfl) (by rfl) ?_
  refine V_iconst (q := 1) (v := nI 0) dX4_sum_0 rfl (by decide) ?_
  refine V_istore_n (q := 2) (ls' := [_, _, _]) dX4_sum_1 rfl (by decide) (by rfl) rfl ?_
  refine V_iconst (q := 3) (v := nI 0) dX4_sum_2 rfl (by decide) ?_
  refine V_istore_n (q := 4) (ls' := [_, _, _]) dX4_sum_3 rfl (by decide) (by rfl) rfl ?_
  refine loopU (fun i => V g l MX4_sum (rmd 1 0 0) (FinM g (qR (.int (nI (sumN h L))) w n) 0 0) 4 [some (rf g r), some (.int (nI (sumN h i))), some (.int (nI i))] [] (w) n 0 0) L ?_ ?_ 0 (Nat.zero_le _)
  · refine V_iload_n (q := 5) dX4_sum_4 rfl rfl ?_
    refine V_aload_n (q := 6) dX4_sum_5 rfl rfl rfl ?_
    refine GX4_15 (q := 9) rfl dX4_sum_6 rfl (by first | assumption | exact up_eq | exact (up_ne (by omega)).trans (by first | assumption | exact up_eq | exact (up_ne (by omega)).trans (by first | assumption | exact up_eq | exact (up_ne (by omega)).trans (by first | assumption | exact up_eq)))) (by omega) (by rfl) ?_
    refine V_icmpN_ge (q := 12) (tgt := 26) dX4_sum_9 (by decide) rfl (by omega) (by omega) (fun _ => ?_) (fun h9 => by first | exact h9.elim | (exfalso; omega))
    refine V_iload_n (q := 27) dX4_sum_26 rfl rfl ?_
    exact V_iret dX4_sum_27 rfl (Nat.le_of_ble_eq_true rfl) (Nat.le_of_ble_eq_true rfl) (⟨rfl, rfl, rfl⟩)
  · intro i hi ih
    refine V_iload_n (q := 5) dX4_sum_4 rfl rfl ?_
    refine V_aload_n (q := 6) dX4_sum_5 rfl rfl rfl ?_
    refine GX4_15 (q := 9) rfl dX4_sum_6 rfl (by first | assumption | exact up_eq | exact (up_ne (by omega)).trans (by first | assumption | exact up_eq | exact (up_ne (by omega)).trans (by first | assumption | exact up_eq | exact (up_ne (by omega)).trans (by first | assumption | exact up_eq)))) (by omega) (by rfl) ?_
    refine V_icmpN_ge (q := 12) (tgt := 26) dX4_sum_9 (by decide) rfl (by omega) (by omega) (fun h9 => by first | exact h9.elim | exact absurd h9 (by assumption) | (exfalso; omega)) (fun _ => ?_)
    refine V_iload_n (q := 13) dX4_sum_12 rfl rfl ?_
    refine V_aload_n (q := 14) dX4_sum_13 rfl rfl rfl ?_
    refine V_iload_n (q := 15) dX4_sum_14 rfl rfl ?_
    refine CrX4_29 (q := 18) rfl dX4_sum_15 rfl (c_heightAt hR0 hF hi) ⟨(Nat.le_of_ble_eq_true rfl), (Nat.le_of_ble_eq_true rfl)⟩ (Nat.le_of_ble_eq_true rfl) (by first | assumption | exact up_eq | exact (up_ne (by omega)).trans (by first | assumption | exact up_eq | exact (up_ne (by omega)).trans (by first | assumption | exact up_eq | exact (up_ne (by omega)).trans (by first | assumption | exact up_eq)))) (by omega) (Nat.zero_le _) (Nat.zero_le _) ?_
    refine V_iadd (q := 19) dX4_sum_18 rfl (by first | exact nI_add _ _ | rfl) ?_
    refine V_istore_n (q := 20) (ls' := [_, _, _]) dX4_sum_19 rfl (by decide) (by rfl) rfl ?_
    refine V_iinc (q := 23) (ls' := [_, _, _]) dX4_sum_20 rfl (by decide) (by rfl) rfl (by first | exact inc1 _ | rfl) rfl ?_
    refine V_goto (tgt := 4) dX4_sum_23 (by decide) ?_
    exact ih
theorem c_rmax (hR : RwF g w n r L F) (hF : Fh F L h) : CtR g l MX4_greatest 1 [rf g r] w n (.int (nI (maxN h L))) := by
  have hR0 := hR
  obtain ⟨h0, h1, hn, hL⟩ := hR
  have h9 : ∀ i, i ≤ L → maxN h i ≤ 9 := fun i hi => maxN_le (fun j hj => (hF j (by omega)).2)
  refine Ct.ofs (M := MX4_greatest) (ls := [some _, none, none]) (by decide +kernel) (by exact (Nat.le_of_ble_eq_true rfl)) (by rfl) (by rfl) (by rfl) ?_
  refine V_iconst (q := 1) (v := nI 0) dX4_greatest_0 rfl (by decide) ?_
  refine V_istore_n (q := 2) (ls' := [_, _, _]) dX4_greatest_1 rfl (by decide) (by rfl) rfl ?_
  refine V_iconst (q := 3) (v := nI 0) dX4_greatest_2 rfl (by decide) ?_
  refine V_istore_n (q := 4) (ls' := [_, _, _]) dX4_greatest_3 rfl (by decide) (by rfl) rfl ?_
  refine loopU (fun i => V g l MX4_greatest (rmd 1 0 0) (FinM g (qR (.int (nI (maxN h L))) w n) 0 0) 4 [some (rf g r), some (.int (nI (maxN h i))), some (.int (nI i))] [] (w) n 0 0) L ?_ ?_ 0 (Nat.zero_le _)
  · refine V_iload_n (q := 5) dX4_greatest_4 rfl rfl ?_
    refine V_aload_n (q := 6) dX4_greatest_5 rfl rfl rfl ?_
    refine GX4_15 (q := 9) rfl dX4_greatest_6 rfl (by first | assumption | exact up_eq | exact (up_ne (by omega)).trans (by first | assumption | exact up_eq | exact (up_ne (by omega)).trans (by first | assumption | exact up_eq | exact (up_ne (by omega)).trans (by first | assumption | exact up_eq)))) (by omega) (by rfl) ?_
    refine V_icmpN_ge (q := 12) (tgt := 28) dX4_greatest_9 (by decide) rfl (by omega) (by omega) (fun _ => ?_) (fun h9 => by first | exact h9.elim | (exfalso; omega))
    refine V_iload_n (q := 29) dX4_greatest_28 rfl rfl ?_
    exact V_iret dX4_greatest_29 rfl (Nat.le_of_ble_eq_true rfl) (Nat.le_of_ble_eq_true rfl) (⟨rfl, rfl, rfl⟩)
  · intro i hi ih
    have e1 := h9 i (by omega)
    have e2 := (hF i hi).2
    have e3 : (if nI (maxN h i) < nI (h i) then nI (h i) else nI (maxN h i)) = nI (maxN h (i + 1)) := by
      rw [maxN]
      by_cases q : maxN h i < h i
      · rw [if_pos ((nI_ltI (by omega) (by omega)).mpr q), Nat.max_eq_right (by omega)]
      · rw [if_neg (mt (nI_ltI (by omega) (by omega)).mp q), Nat.max_eq_left (by omega)]
    refine V_iload_n (q := 5) dX4_greatest_4 rfl rfl ?_
    refine V_aload_n (q := 6) dX4_greatest_5 rfl rfl rfl ?_
    refine GX4_15 (q := 9) rfl dX4_greatest_6 rfl (by first | assumption | exact up_eq | exact (up_ne (by omega)).trans (by first | assumption | exact up_eq | exact (up_ne (by omega)).trans (by first | assumption | exact up_eq | exact (up_ne (by omega)).trans (by first | assumption | exact up_eq)))) (by omega) (by rfl) ?_
    refine V_icmpN_ge (q := 12) (tgt := 28) dX4_greatest_9 (by decide) rfl (by omega) (by omega) (fun h9 => by first | exact h9.elim | exact absurd h9 (by assumption) | (exfalso; omega)) (fun _ => ?_)
    refine V_iload_n (q := 13) dX4_greatest_12 rfl rfl ?_
    refine V_aload_n (q := 14) dX4_greatest_13 rfl rfl rfl ?_
    refine V_iload_n (q := 15) dX4_greatest_14 rfl rfl ?_
    refine CrX4_29 (q := 18) rfl dX4_greatest_15 rfl (c_heightAt hR0 hF hi) ⟨(Nat.le_of_ble_eq_true rfl), (Nat.le_of_ble_eq_true rfl)⟩ (Nat.le_of_ble_eq_true rfl) (by first | assumption | exact up_eq | exact (up_ne (by omega)).trans (by first | assumption | exact up_eq | exact (up_ne (by omega)).trans (by first | assumption | exact up_eq | exact (up_ne (by omega)).trans (by first | assumption | exact up_eq)))) (by omega) (Nat.zero_le _) (Nat.zero_le _) ?_
    refine XX4_33 (q := 21) rfl dX4_greatest_18 rfl (Nat.le_of_ble_eq_true rfl) (Nat.le_of_ble_eq_true rfl) (Nat.zero_le _) (Nat.zero_le _) e3 ?_
    refine V_istore_n (q := 22) (ls' := [_, _, _]) dX4_greatest_21 rfl (by decide) (by rfl) rfl ?_
    refine V_iinc (q := 25) (ls' := [_, _, _]) dX4_greatest_22 rfl (by decide) (by rfl) rfl (by first | exact inc1 _ | rfl) rfl ?_
    refine V_goto (tgt := 4) dX4_greatest_25 (by decide) ?_
    exact ih
theorem c_rodd (hR : RwF g w n r L F) (hF : Fh F L h) : CtR g l MX4_throwsToOtherHand 1 [rf g r] w n (.int (nI (oddN h L))) := by
  have hR0 := hR
  obtain ⟨h0, h1, hn, hL⟩ := hR
  refine Ct.ofs (M := MX4_throwsToOtherHand) (ls := [some _, none, none]) (by decide +kernel) (by exact (Nat.le_of_ble_eq_true rfl)) (by rfl) (by rfl) (by rfl) ?_
  refine V_iconst (q := 1) (v := nI 0) dX4_throwsToOtherHand_0 rfl (by decide) ?_
  refine V_istore_n (q := 2) (ls' := [_, _, _]) dX4_throwsToOtherHand_1 rfl (by decide) (by rfl) rfl ?_
  refine V_iconst (q := 3) (v := nI 0) dX4_throwsToOtherHand_2 rfl (by decide) ?_
  refine V_istore_n (q := 4) (ls' := [_, _, _]) dX4_throwsToOtherHand_3 rfl (by decide) (by rfl) rfl ?_
  refine loopU (fun i => V g l MX4_throwsToOtherHand (rmd 1 0 0) (FinM g (qR (.int (nI (oddN h L))) w n) 0 0) 4 [some (rf g r), some (.int (nI (oddN h i))), some (.int (nI i))] [] (w) n 0 0) L ?_ ?_ 0 (Nat.zero_le _)
  · refine V_iload_n (q := 5) dX4_throwsToOtherHand_4 rfl rfl ?_
    refine V_aload_n (q := 6) dX4_throwsToOtherHand_5 rfl rfl rfl ?_
    refine GX4_15 (q := 9) rfl dX4_throwsToOtherHand_6 rfl (by first | assumption | exact up_eq | exact (up_ne (by omega)).trans (by first | assumption | exact up_eq | exact (up_ne (by omega)).trans (by first | assumption | exact up_eq | exact (up_ne (by omega)).trans (by first | assumption | exact up_eq)))) (by omega) (by rfl) ?_
    refine V_icmpN_ge (q := 12) (tgt := 28) dX4_throwsToOtherHand_9 (by decide) rfl (by omega) (by omega) (fun _ => ?_) (fun h9 => by first | exact h9.elim | (exfalso; omega))
    refine V_iload_n (q := 29) dX4_throwsToOtherHand_28 rfl rfl ?_
    exact V_iret dX4_throwsToOtherHand_29 rfl (Nat.le_of_ble_eq_true rfl) (Nat.le_of_ble_eq_true rfl) (⟨rfl, rfl, rfl⟩)
  · intro i hi ih
    refine V_iload_n (q := 5) dX4_throwsToOtherHand_4 rfl rfl ?_
    refine V_aload_n (q := 6) dX4_throwsToOtherHand_5 rfl rfl rfl ?_
    refine GX4_15 (q := 9) rfl dX4_throwsToOtherHand_6 rfl (by first | assumption | exact up_eq | exact (up_ne (by omega)).trans (by first | assumption | exact up_eq | exact (up_ne (by omega)).trans (by first | assumption | exact up_eq | exact (up_ne (by omega)).trans (by first | assumption | exact up_eq)))) (by omega) (by rfl) ?_
    refine V_icmpN_ge (q := 12) (tgt := 28) dX4_throwsToOtherHand_9 (by decide) rfl (by omega) (by omega) (fun h9 => by first | exact h9.elim | exact absurd h9 (by assumption) | (exfalso; omega)) (fun _ => ?_)
    refine V_iload_n (q := 13) dX4_throwsToOtherHand_12 rfl rfl ?_
    refine V_aload_n (q := 14) dX4_throwsToOtherHand_13 rfl rfl rfl ?_
    refine V_iload_n (q := 15) dX4_throwsToOtherHand_14 rfl rfl ?_
    refine CrX4_29 (q := 18) rfl dX4_throwsToOtherHand_15 rfl (c_heightAt hR0 hF hi) ⟨(Nat.le_of_ble_eq_true rfl), (Nat.le_of_ble_eq_true rfl)⟩ (Nat.le_of_ble_eq_true rfl) (by first | assumption | exact up_eq | exact (up_ne (by omega)).trans (by first | assumption | exact up_eq | exact (up_ne (by omega)).trans (by first | assumption | exact up_eq | exact (up_ne (by omega)).trans (by first | assumption | exact up_eq)))) (by omega) (Nat.zero_le _) (Nat.zero_le _) ?_
    refine V_iconst (q := 19) (v := nI 1) dX4_throwsToOtherHand_18 rfl (by decide) ?_
    refine V_iand (q := 20) dX4_throwsToOtherHand_19 rfl ((fa_and (h i) 1).trans (congrArg nI (Nat.and_one_is_mod (h i)))) ?_
    refine V_iadd (q := 21) dX4_throwsToOtherHand_20 rfl (by first | exact nI_add _ _ | rfl) ?_
    refine V_istore_n (q := 22) (ls' := [_, _, _]) dX4_throwsToOtherHand_21 rfl (by decide) (by rfl) rfl ?_
    refine V_iinc (q := 25) (ls' := [_, _, _]) dX4_throwsToOtherHand_22 rfl (by decide) (by rfl) rfl (by first | exact inc1 _ | rfl) rfl ?_
    refine V_goto (tgt := 4) dX4_throwsToOtherHand_25 (by decide) ?_
    exact ih
theorem c_marks (hR : RwF g w n r L F) (hF : Fh F L h) (hL0 : 0 < L) : CtR g l MX4_marksEachLanding 1 [rf g r] w n (.int (if clN h L = L then 1 else 0)) := by
  have hR0 := hR
  obtain ⟨h0, h1, hn, hL⟩ := hR
  have hor : ∀ i, orN h L i < 256 := fun i => Nat.lt_of_lt_of_le (orN_lt h hL0 i) (Nat.pow_le_pow_right (n := 2) (by decide) hL)
  refine Ct.ofs (M := MX4_marksEachLanding) (ls := [some _, none, none]) (by decide +kernel) (by exact (Nat.le_of_ble_eq_true rfl)) (by rfl) (by rfl) (by rfl) ?_
  refine V_iconst (q := 1) (v := nI 0) dX4_marksEachLanding_0 rfl (by decide) ?_
  refine V_istore_n (q := 2) (ls' := [_, _, _]) dX4_marksEachLanding_1 rfl (by decide) (by rfl) rfl ?_
  refine V_iconst (q := 3) (v := nI 0) dX4_marksEachLanding_2 rfl (by decide) ?_
  refine V_istore_n (q := 4) (ls' := [_, _, _]) dX4_marksEachLanding_3 rfl (by decide) (by rfl) rfl ?_
  refine loopU (fun i => V g l MX4_marksEachLanding (rmd 1 0 0) (FinM g (qR (.int (if clN h L = L then 1 else 0)) w n) 0 0) 4 [some (rf g r), some (.int (nI (orN h L i))), some (.int (nI i))] [] (w) n 0 0) L ?_ ?_ 0 (Nat.zero_le _)
  · have hp1 : 1 ≤ 2 ^ L := Nat.one_le_two_pow
    have hp2 : 2 ^ L ≤ 2 ^ 8 := Nat.pow_le_pow_right (by decide) hL
    have hoL := hor L
    refine V_iload_n (q := 5) dX4_marksEachLanding_4 rfl rfl ?_
    refine V_aload_n (q := 6) dX4_marksEachLanding_5 rfl rfl rfl ?_
    refine GX4_15 (q := 9) rfl dX4_marksEachLanding_6 rfl (by first | assumption | exact up_eq | exact (up_ne (by omega)).trans (by first | assumption | exact up_eq | exact (up_ne (by omega)).trans (by first | assumption | exact up_eq | exact (up_ne (by omega)).trans (by first | assumption | exact up_eq)))) (by omega) (by rfl) ?_
    refine V_icmpN_ge (q := 12) (tgt := 28) dX4_marksEachLanding_9 (by decide) rfl (by omega) (by omega) (fun _ => ?_) (fun h9 => by first | exact h9.elim | (exfalso; omega))
    refine V_iload_n (q := 29) dX4_marksEachLanding_28 rfl rfl ?_
    refine V_iconst (q := 30) (v := nI 1) dX4_marksEachLanding_29 rfl (by decide) ?_
    refine V_aload_n (q := 31) dX4_marksEachLanding_30 rfl rfl rfl ?_
    refine GX4_15 (q := 34) rfl dX4_marksEachLanding_31 rfl (by first | assumption | exact up_eq | exact (up_ne (by omega)).trans (by first | assumption | exact up_eq | exact (up_ne (by omega)).trans (by first | assumption | exact up_eq | exact (up_ne (by omega)).trans (by first | assumption | exact up_eq)))) (by omega) (by rfl) ?_
    refine V_ishl (q := 35) dX4_marksEachLanding_34 rfl (shl1 (by omega)) ?_
    refine V_iconst (q := 36) (v := nI 1) dX4_marksEachLanding_35 rfl (by decide) ?_
    refine V_isub (q := 37) dX4_marksEachLanding_36 rfl (by first | exact pk_sub (by omega) | rfl) ?_
    refine V_icmpN_ne (q := 40) (tgt := 44) dX4_marksEachLanding_37 (by decide) rfl (by omega) (by omega) (fun hc => ?_) (fun hc => ?_)
    · skip
      refine V_iconst (q := 45) (v := nI 0) dX4_marksEachLanding_44 rfl (by decide) ?_
      exact V_zret dX4_marksEachLanding_45 rfl (rfl) (Nat.le_of_ble_eq_true rfl) (Nat.le_of_ble_eq_true rfl) (⟨rfl, by rw [if_neg (fun q => hc ((orN_full h hL0).mpr q))]; rfl, rfl⟩)
    · skip
      refine V_iconst (q := 41) (v := nI 1) dX4_marksEachLanding_40 rfl (by decide) ?_
      refine V_goto (tgt := 45) dX4_marksEachLanding_41 (by decide) ?_
      exact V_zret dX4_marksEachLanding_45 rfl (rfl) (Nat.le_of_ble_eq_true rfl) (Nat.le_of_ble_eq_true rfl) (⟨rfl, by rw [if_pos ((orN_full h hL0).mp hc)]; rfl, rfl⟩)
  · intro i hi ih
    have e1 := landN_lt (h := h) (i := i) hL0
    refine V_iload_n (q := 5) dX4_marksEachLanding_4 rfl rfl ?_
    refine V_aload_n (q := 6) dX4_marksEachLanding_5 rfl rfl rfl ?_
    refine GX4_15 (q := 9) rfl dX4_marksEachLanding_6 rfl (by first | assumption | exact up_eq | exact (up_ne (by omega)).trans (by first | assumption | exact up_eq | exact (up_ne (by omega)).trans (by first | assumption | exact up_eq | exact (up_ne (by omega)).trans (by first | assumption | exact up_eq)))) (by omega) (by rfl) ?_
    refine V_icmpN_ge (q := 12) (tgt := 28) dX4_marksEachLanding_9 (by decide) rfl (by omega) (by omega) (fun h9 => by first | exact h9.elim | exact absurd h9 (by assumption) | (exfalso; omega)) (fun _ => ?_)
    refine V_iload_n (q := 13) dX4_marksEachLanding_12 rfl rfl ?_
    refine V_iconst (q := 14) (v := nI 1) dX4_marksEachLanding_13 rfl (by decide) ?_
    refine V_aload_n (q := 15) dX4_marksEachLanding_14 rfl rfl rfl ?_
    refine V_iload_n (q := 16) dX4_marksEachLanding_15 rfl rfl ?_
    refine CrX4_39 (q := 19) rfl dX4_marksEachLanding_16 rfl (c_landing hR0 hF hi) ⟨(Nat.le_of_ble_eq_true rfl), (Nat.le_of_ble_eq_true rfl)⟩ (Nat.le_of_ble_eq_true rfl) (by first | assumption | exact up_eq | exact (up_ne (by omega)).trans (by first | assumption | exact up_eq | exact (up_ne (by omega)).trans (by first | assumption | exact up_eq | exact (up_ne (by omega)).trans (by first | assumption | exact up_eq)))) (by omega) (Nat.zero_le _) (Nat.zero_le _) ?_
    refine V_ishl (q := 20) dX4_marksEachLanding_19 rfl (shl1 (by omega)) ?_
    refine V_ior (q := 21) dX4_marksEachLanding_20 rfl (by first | exact fa_or _ _ | rfl) ?_
    refine V_istore_n (q := 22) (ls' := [_, _, _]) dX4_marksEachLanding_21 rfl (by decide) (by rfl) rfl ?_
    refine V_iinc (q := 25) (ls' := [_, _, _]) dX4_marksEachLanding_22 rfl (by decide) (by rfl) rfl (by first | exact inc1 _ | rfl) rfl ?_
    refine V_goto (tgt := 4) dX4_marksEachLanding_25 (by decide) ?_
    exact ih
theorem c_clash (hR : RwF g w n r L F) (hF : Fh F L h) : CtR g l MX4_lowestClash 1 [rf g r] w n (.int (clshI h L)) := by
  have hR0 := hR
  obtain ⟨h0, h1, hn, hL⟩ := hR
  refine Ct.ofs (M := MX4_lowestClash) (ls := [some _, none, none]) (by decide +kernel) (by exact (Nat.le_of_ble_eq_true rfl)) (by rfl) (by rfl) (by rfl) ?_
  refine V_iconst (q := 1) (v := nI 0) dX4_lowestClash_0 rfl (by decide) ?_
  refine V_istore_n (q := 2) (ls' := [_, _, _]) dX4_lowestClash_1 rfl (by decide) (by rfl) rfl ?_
  have outer : ∀ i, i ≤ L → (∀ k, k < i → ¬ ClN h L k) → V g l MX4_lowestClash (rmd 1 0 0) (FinM g (qR (.int (clshI h L)) w n) 0 0) 2 [some (rf g r), some (.int (nI i)), none] [] (w) n 0 0 := by
    refine loopU (fun i => (∀ k, k < i → ¬ ClN h L k) → V g l MX4_lowestClash (rmd 1 0 0) (FinM g (qR (.int (clshI h L)) w n) 0 0) 2 [some (rf g r), some (.int (nI i)), none] [] (w) n 0 0) L ?_ ?_
    · intro hno
      refine V_iload_n (q := 3) dX4_lowestClash_2 rfl rfl ?_
      refine V_aload_n (q := 4) dX4_lowestClash_3 rfl rfl rfl ?_
      refine GX4_15 (q := 7) rfl dX4_lowestClash_4 rfl (by first | assumption | exact up_eq | exact (up_ne (by omega)).trans (by first | assumption | exact up_eq | exact (up_ne (by omega)).trans (by first | assumption | exact up_eq | exact (up_ne (by omega)).trans (by first | assumption | exact up_eq)))) (by omega) (by rfl) ?_
      refine V_icmpN_ge (q := 10) (tgt := 49) dX4_lowestClash_7 (by decide) rfl (by omega) (by omega) (fun _ => ?_) (fun h9 => by first | exact h9.elim | (exfalso; omega))
      refine V_bipush (q := 51) (v := (-4)) dX4_lowestClash_49 rfl (by decide) ?_
      exact V_iret dX4_lowestClash_51 rfl (Nat.le_of_ble_eq_true rfl) (Nat.le_of_ble_eq_true rfl) (⟨rfl, by rw [clshI, if_pos (clN_none hno)], rfl⟩)
    · intro i hi ih hno
      refine V_iload_n (q := 3) dX4_lowestClash_2 rfl rfl ?_
      refine V_aload_n (q := 4) dX4_lowestClash_3 rfl rfl rfl ?_
      refine GX4_15 (q := 7) rfl dX4_lowestClash_4 rfl (by first | assumption | exact up_eq | exact (up_ne (by omega)).trans (by first | assumption | exact up_eq | exact (up_ne (by omega)).trans (by first | assumption | exact up_eq | exact (up_ne (by omega)).trans (by first | assumption | exact up_eq)))) (by omega) (by rfl) ?_
      refine V_icmpN_ge (q := 10) (tgt := 49) dX4_lowestClash_7 (by decide) rfl (by omega) (by omega) (fun h9 => by first | exact h9.elim | exact absurd h9 (by assumption) | (exfalso; omega)) (fun _ => ?_)
      refine V_iload_n (q := 11) dX4_lowestClash_10 rfl rfl ?_
      refine V_iconst (q := 12) (v := nI 1) dX4_lowestClash_11 rfl (by decide) ?_
      refine V_iadd (q := 13) dX4_lowestClash_12 rfl (by first | exact nI_add _ _ | rfl) ?_
      refine V_istore_n (q := 14) (ls' := [_, _, _]) dX4_lowestClash_13 rfl (by decide) (by rfl) rfl ?_
      have inner : ∀ j, j ≤ L → i < j → (∀ k, i < k → k < j → landN h L i ≠ landN h L k) → V g l MX4_lowestClash (rmd 1 0 0) (FinM g (qR (.int (clshI h L)) w n) 0 0) 14 [some (rf g r), some (.int (nI i)), some (.int (nI j))] [] (w) n 0 0 := by
        refine loopU (fun j => i < j → (∀ k, i < k → k < j → landN h L i ≠ landN h L k) → V g l MX4_lowestClash (rmd 1 0 0) (FinM g (qR (.int (clshI h L)) w n) 0 0) 14 [some (rf g r), some (.int (nI i)), some (.int (nI j))] [] (w) n 0 0) L ?_ ?_
        · intro _ hne
          refine V_iload_n (q := 15) dX4_lowestClash_14 rfl rfl ?_
          refine V_aload_n (q := 16) dX4_lowestClash_15 rfl rfl rfl ?_
          refine GX4_15 (q := 19) rfl dX4_lowestClash_16 rfl (by first | assumption | exact up_eq | exact (up_ne (by omega)).trans (by first | assumption | exact up_eq | exact (up_ne (by omega)).trans (by first | assumption | exact up_eq | exact (up_ne (by omega)).trans (by first | assumption | exact up_eq)))) (by omega) (by rfl) ?_
          refine V_icmpN_ge (q := 22) (tgt := 43) dX4_lowestClash_19 (by decide) rfl (by omega) (by omega) (fun _ => ?_) (fun h9 => by first | exact h9.elim | (exfalso; omega))
          refine V_iinc (q := 46) (ls' := [_, _, _]) dX4_lowestClash_43 rfl (by decide) (by rfl) rfl (by first | exact inc1 _ | rfl) rfl ?_
          refine V_goto (tgt := 2) dX4_lowestClash_46 (by decide) ?_
          refine V_weak (ls2 := [some (rf g r), some (.int (nI (i + 1))), none]) rfl ?_ (ih ?_)
          · intro k v hk
            match k, hk with
            | 0, hk => exact hk
            | 1, hk => exact hk
            | 2, hk => cases hk
            | k + 3, hk => cases hk
          · intro k hk hcl
            rcases Nat.lt_or_ge k i with q | q
            · exact hno k q hcl
            · obtain rfl : k = i := by omega
              obtain ⟨j, hj, hij, e⟩ := hcl
              exact hne j hij hj e
        · intro j hj ih2 hij hne
          have e1 := landN_lt (h := h) (i := i) (show 0 < L by omega)
          have e2 := landN_lt (h := h) (i := j) (show 0 < L by omega)
          refine V_iload_n (q := 15) dX4_lowestClash_14 rfl rfl ?_
          refine V_aload_n (q := 16) dX4_lowestClash_15 rfl rfl rfl ?_
          refine GX4_15 (q := 19) rfl dX4_lowestClash_16 rfl (by first | assumption | exact up_eq | exact (up_ne (by omega)).trans (by first | assumption | exact up_eq | exact (up_ne (by omega)).trans (by first | assumption | exact up_eq | exact (up_ne (by omega)).trans (by first | assumption | exact up_eq)))) (by omega) (by rfl) ?_
          refine V_icmpN_ge (q := 22) (tgt := 43) dX4_lowestClash_19 (by decide) rfl (by omega) (by omega) (fun h9 => by first | exact h9.elim | exact absurd h9 (by assumption) | (exfalso; omega)) (fun _ => ?_)
          refine V_aload_n (q := 23) dX4_lowestClash_22 rfl rfl rfl ?_
          refine V_iload_n (q := 24) dX4_lowestClash_23 rfl rfl ?_
          refine CrX4_39 (q := 27) rfl dX4_lowestClash_24 rfl (c_landing hR0 hF hi) ⟨(Nat.le_of_ble_eq_true rfl), (Nat.le_of_ble_eq_true rfl)⟩ (Nat.le_of_ble_eq_true rfl) (by first | assumption | exact up_eq | exact (up_ne (by omega)).trans (by first | assumption | exact up_eq | exact (up_ne (by omega)).trans (by first | assumption | exact up_eq | exact (up_ne (by omega)).trans (by first | assumption | exact up_eq)))) (by omega) (Nat.zero_le _) (Nat.zero_le _) ?_
          refine V_aload_n (q := 28) dX4_lowestClash_27 rfl rfl rfl ?_
          refine V_iload_n (q := 29) dX4_lowestClash_28 rfl rfl ?_
          refine CrX4_39 (q := 32) rfl dX4_lowestClash_29 rfl (c_landing hR0 hF hj) ⟨(Nat.le_of_ble_eq_true rfl), (Nat.le_of_ble_eq_true rfl)⟩ (Nat.le_of_ble_eq_true rfl) (by first | assumption | exact up_eq | exact (up_ne (by omega)).trans (by first | assumption | exact up_eq | exact (up_ne (by omega)).trans (by first | assumption | exact up_eq | exact (up_ne (by omega)).trans (by first | assumption | exact up_eq)))) (by omega) (Nat.zero_le _) (Nat.zero_le _) ?_
          refine V_icmpN_ne (q := 35) (tgt := 37) dX4_lowestClash_32 (by decide) rfl (by omega) (by omega) (fun hc => ?_) (fun hc => ?_)
          · skip
            refine V_iinc (q := 40) (ls' := [_, _, _]) dX4_lowestClash_37 rfl (by decide) (by rfl) rfl (by first | exact inc1 _ | rfl) rfl ?_
            refine V_goto (tgt := 14) dX4_lowestClash_40 (by decide) ?_
            refine ih2 (by omega) fun k hk1 hk2 => ?_
            rcases Nat.lt_or_ge k j with q | q
            · exact hne k hk1 q
            · obtain rfl : k = j := by omega
              exact hc
          · skip
            have hcl : clN h L = i := clN_is hi ⟨j, hj, hij, hc⟩ hno
            refine V_iload_n (q := 36) dX4_lowestClash_35 rfl rfl ?_
            exact V_iret dX4_lowestClash_36 rfl (Nat.le_of_ble_eq_true rfl) (Nat.le_of_ble_eq_true rfl) (⟨rfl, by rw [clshI, if_neg (by omega), hcl], rfl⟩)
      exact inner (i + 1) (by omega) (by omega) (fun k h1 h2 => absurd h1 (by omega))
  exact outer 0 (Nat.zero_le _) (fun k hk => absurd hk (Nat.not_lt_zero k))
theorem c_rballs (hR : RwF g w n r L F) (hF : Fh F L h) (hL0 : 0 < L) : CtR g l MX4_balls 2 [rf g r] w n (.int (ballI h L)) := by
  have hR0 := hR
  obtain ⟨h0, h1, hn, hL⟩ := hR
  have hs := sumN_le (fun i hi => (hF i hi).2)
  refine Ct.ofs (M := MX4_balls) (ls := [some _]) (by decide +kernel) (by exact (Nat.le_of_ble_eq_true rfl)) (by rfl) (by rfl) (by rfl) ?_
  refine V_aload_n (q := 1) dX4_balls_0 rfl rfl rfl ?_
  refine GX4_15 (q := 4) rfl dX4_balls_1 rfl (by first | assumption | exact up_eq | exact (up_ne (by omega)).trans (by first | assumption | exact up_eq | exact (up_ne (by omega)).trans (by first | assumption | exact up_eq | exact (up_ne (by omega)).trans (by first | assumption | exact up_eq)))) (by omega) (by rfl) ?_
  refine V_ifN_le (q := 7) (tgt := 26) dX4_balls_4 (by decide) rfl (by omega) (fun h9 => by first | exact h9.elim | exact absurd h9 (by assumption) | (exfalso; omega)) (fun _ => ?_)
  refine V_aload_n (q := 8) dX4_balls_7 rfl rfl rfl ?_
  refine CrX4_42 (q := 11) rfl dX4_balls_8 rfl (c_marks hR0 hF hL0) ⟨(Nat.le_of_ble_eq_true rfl), (Nat.le_of_ble_eq_true rfl)⟩ (Nat.le_of_ble_eq_true rfl) (by first | assumption | exact up_eq | exact (up_ne (by omega)).trans (by first | assumption | exact up_eq | exact (up_ne (by omega)).trans (by first | assumption | exact up_eq | exact (up_ne (by omega)).trans (by first | assumption | exact up_eq)))) (by omega) (Nat.zero_le _) (Nat.zero_le _) ?_
  by_cases hc : clN h L = L
  · refine V_topi (if_pos hc) ?_
    refine V_if_eq (q := 14) (tgt := 26) dX4_balls_11 (by decide) rfl (fun h9 => absurd h9 (by decide)) (fun _ => ?_)
    refine V_aload_n (q := 15) dX4_balls_14 rfl rfl rfl ?_
    refine CrX4_46 (q := 18) rfl dX4_balls_15 rfl (c_rsum hR0 hF) ⟨(Nat.le_of_ble_eq_true rfl), (Nat.le_of_ble_eq_true rfl)⟩ (Nat.le_of_ble_eq_true rfl) (by first | assumption | exact up_eq | exact (up_ne (by omega)).trans (by first | assumption | exact up_eq | exact (up_ne (by omega)).trans (by first | assumption | exact up_eq | exact (up_ne (by omega)).trans (by first | assumption | exact up_eq)))) (by omega) (Nat.zero_le _) (Nat.zero_le _) ?_
    refine V_aload_n (q := 19) dX4_balls_18 rfl rfl rfl ?_
    refine GX4_15 (q := 22) rfl dX4_balls_19 rfl (by first | assumption | exact up_eq | exact (up_ne (by omega)).trans (by first | assumption | exact up_eq | exact (up_ne (by omega)).trans (by first | assumption | exact up_eq | exact (up_ne (by omega)).trans (by first | assumption | exact up_eq)))) (by omega) (by rfl) ?_
    refine V_idiv (q := 23) dX4_balls_22 rfl (nI_ne0 (by omega) (by omega)) (by first | exact pk_div (by omega) (by omega) (by omega) | rfl) ?_
    refine V_goto (tgt := 28) dX4_balls_23 (by decide) ?_
    exact V_iret dX4_balls_28 rfl (Nat.le_of_ble_eq_true rfl) (Nat.le_of_ble_eq_true rfl) (⟨rfl, by rw [ballI, if_pos hc], rfl⟩)
  · skip
    refine V_topi (if_neg hc) ?_
    refine V_if_eq (q := 14) (tgt := 26) dX4_balls_11 (by decide) rfl (fun _ => ?_) (fun h9 => absurd rfl h9)
    refine V_bipush (q := 28) (v := (-4)) dX4_balls_26 rfl (by decide) ?_
    exact V_iret dX4_balls_28 rfl (Nat.le_of_ble_eq_true rfl) (Nat.le_of_ble_eq_true rfl) (⟨rfl, by rw [ballI, if_neg hc], rfl⟩)
end ROW
