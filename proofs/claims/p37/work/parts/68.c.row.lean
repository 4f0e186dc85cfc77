/-! the law's isRow -/
/-- the answer is y; nothing but the line has changed -/
def LQ (g : GG) (w : HW) (n o : Nat) (X : XT) (y : Int32) : Int32 → HW → Prop := fun x w' => x = y ∧ (∃ v, XW g w' n o (setL X v)) ∧ FrX w w' o
theorem setL_self (X : XT) : setL X (xL X) = X := rfl
theorem LQ.rf {g : GG} {w : HW} {n o : Nat} {X : XT} {y : Int32} (h : XW g w n o X) : LQ g w n o X y y w := ⟨rfl, ⟨xL X, h⟩, fun _ _ => rfl⟩
theorem sum_mono (h : Nat → Nat) {a b : Nat} (hab : a ≤ b) : sumN h a ≤ sumN h b := by
  obtain ⟨d, rfl⟩ : ∃ d, b = a + d := ⟨b - a, by omega⟩
  induction d with
  | zero => exact Nat.le_refl _
  | succ d ih =>
    have := ih (by omega)
    show sumN h a ≤ sumN h (a + d) + h (a + d)
    omega
theorem sub1 (x : Int32) : x + Int32.ofInt (-1) = x - nI 1 := by
  rw [Int32.sub_eq_add_neg]
  congr 1
/-- what is known of the clash that the law has found among the beats from j on -/
def CsN (h : Nat → Nat) (L j : Nat) (C : Int32) : Prop := (C = -4 ∧ ∀ x, j ≤ x → x < L → ¬ ClN h L x) ∨ ∃ c, C = nI c ∧ j ≤ c ∧ c < L ∧ ClN h L c ∧ ∀ x, j ≤ x → x < c → ¬ ClN h L x
theorem CsN.fin {h : Nat → Nat} {L : Nat} {C : Int32} (hC : CsN h L 0 C) : C = clshI h L := by
  unfold clshI
  rcases hC with ⟨rfl, h2⟩ | ⟨c, rfl, h1, h2, h3, h4⟩
  · rw [if_pos (clN_none (fun k hk => h2 k (Nat.zero_le _) hk))]
  · have e : clN h L = c := clN_is h2 h3 (fun k hk => h4 k (Nat.zero_le _) hk)
    rw [if_neg (by omega), e]
theorem maxI {a b : Nat} (ha : a < 2 ^ 31) (hb : b < 2 ^ 31) : (if nI a < nI b then nI b else nI a) = nI (max a b) := by
  by_cases e : a < b
  · rw [if_pos ((nI_ltI ha hb).mpr e), Nat.max_eq_right (by omega)]
  · rw [if_neg (fun q => e ((nI_ltI ha hb).mp q)), Nat.max_eq_left (by omega)]
section ROW
variable {g : GG} {l : Launch} {w : HW} {n o : Nat} {X : XT}
theorem c_isRow (hX : XW g w n o X) {i : Nat} (hi : i < sC (xN X)) : CtI g l ML_isRow 5 [rf g o, .int (nI i)] w n (LQ g w n o X 1) := by
  have hN := hX.okn
  obtain ⟨hob, hn⟩ := hX.obj
  have h6 := hN.1
  obtain ⟨q1, q2, q3⟩ := hN.2 i hi
  have rw0 : ∀ k, k < 8 → rowA (nI i) (nI k) (xN X) = rowW (sR (xN X) i) k := fun k hk => rowA_at hN hi hk
  have tat : ∀ k, k < (sR (xN X) i).1 → thrAt (nI i) (nI k) (xN X) = nI ((sR (xN X) i).2 k) := fun k hk => thrAt_at hN hi hk
  have tend : thrAt (nI i) (nI (sR (xN X) i).1) (xN X) = -1 := thrAt_end hN hi
  have cln : clnA (nI i) (xN X) = if clN (sR (xN X) i).2 (sR (xN X) i).1 = (sR (xN X) i).1 then 1 else 0 := clnA_at hN hi
  have sto : ∀ k, k < (sR (xN X) i).1 → stoA (nI i) (nI k) (xN X) = if clN (sR (xN X) i).2 (sR (xN X) i).1 = (sR (xN X) i).1 then nI (stN (sR (xN X) i).2 (sR (xN X) i).1 k) else -4 := fun k hk => stoA_at hN hi hk
  have tlr := tlr_at (X := X) hN hi
  obtain ⟨p1, p2, p3, -⟩ := perN_ok (h := (sR (xN X) i).2) q1
  have hmx := maxN_le (h := (sR (xN X) i).2) q3
  have hod := oddN_le (h := (sR (xN X) i).2) (L := (sR (xN X) i).1)
  have hcle := clN_le (sR (xN X) i).2 (sR (xN X) i).1
  have hbn := balls_ok (h := (sR (xN X) i).2) q1 q3
  have hcm := clean_mod (h := (sR (xN X) i).2) q1 q3
  have hcc := fun (hc : clN (sR (xN X) i).2 (sR (xN X) i).1 = (sR (xN X) i).1) b (hb : b < (sR (xN X) i).1) => clean_can q1 q3 hc hb
  have hnx := fun b (hb : b < (sR (xN X) i).1) => stN_next (h := (sR (xN X) i).2) q1 q3 hb
  have hst := fun b => stN_lt (h := (sR (xN X) i).2) (b := b) q1 q3
  have hsum := sumN_le (h := (sR (xN X) i).2) q3
  have hrw : ∀ k, rowW (sR (xN X) i) k = if k = 0 then nI (sR (xN X) i).1 else if k = 1 then nI (sumN (sR (xN X) i).2 (sR (xN X) i).1) else if k = 2 then ballI (sR (xN X) i).2 (sR (xN X) i).1 else if k = 3 then clshI (sR (xN X) i).2 (sR (xN X) i).1 else if k = 4 then nI (perN (sR (xN X) i).2 (sR (xN X) i).1) else if k = 5 then nI (maxN (sR (xN X) i).2 (sR (xN X) i).1) else if k = 6 then nI (oddN (sR (xN X) i).2 (sR (xN X) i).1) else primI (sR (xN X) i).2 (sR (xN X) i).1 := fun k => rfl
  generalize (sR (xN X) i).2 = h at *
  generalize (sR (xN X) i).1 = L at *
  have e0 : rowA (nI i) (nI 0) (xN X) = nI L := by rw [rw0 0 (by decide), hrw]; rfl
  have e1 : rowA (nI i) (nI 1) (xN X) = nI (sumN h L) := by rw [rw0 1 (by decide), hrw]; rfl
  have e2 : rowA (nI i) (nI 2) (xN X) = ballI h L := by rw [rw0 2 (by decide), hrw]; rfl
  have e3 : rowA (nI i) (nI 3) (xN X) = clshI h L := by rw [rw0 3 (by decide), hrw]; rfl
  have e4 : rowA (nI i) (nI 4) (xN X) = nI (perN h L) := by rw [rw0 4 (by decide), hrw]; rfl
  have e5 : rowA (nI i) (nI 5) (xN X) = nI (maxN h L) := by rw [rw0 5 (by decide), hrw]; rfl
  have e6 : rowA (nI i) (nI 6) (xN X) = nI (oddN h L) := by rw [rw0 6 (by decide), hrw]; rfl
  clear rw0 hrw
  -- the states of a clean row
  have loopC : ∀ (w' : HW) (v : Nat × (Nat → Nat)), XW g w' n o (setL X v) → FrX w w' o → clN h L = L → ∀ f k, k + f = L → V g l ML_isRow (rmd 5 0 0) (FinM g (qI (LQ g w n o X 1) n) 0 0) 284 [some (rf g o), some (.int (nI i)), some (.int (nI L)), some (.int (nI (sumN h L))), none, none, none, none, some (.int (nI 1)), some (.int (nI 1)), some (.int (nI k)), none, none] [] (w') n 0 0 := by
    intro w' v hX' hF hc f
    obtain ⟨hob', hn'⟩ := hX'.obj
    induction f with
    | zero =>
      intro k hf
      obtain rfl : k = L := by omega
      refine V_iload (q := 286) dL_isRow_284 rfl rfl ?_
      refine V_if_eq (q := 289) (tgt := 388) dL_isRow_286 (by decide) rfl (fun h9 => absurd h9 (by decide)) (fun _ => ?_)
      refine V_iload (q := 291) dL_isRow_289 rfl rfl ?_
      refine V_iload_n (q := 292) dL_isRow_291 rfl rfl ?_
      refine V_icmpN_ge (q := 295) (tgt := 388) dL_isRow_292 (by decide) rfl (by omega) (by omega) (fun _ => ?_) (fun h9 => by first | exact h9.elim | (exfalso; omega))
      refine V_iload (q := 390) dL_isRow_388 rfl rfl ?_
      exact V_zret dL_isRow_390 rfl (rfl) (Nat.le_of_ble_eq_true rfl) (Nat.le_of_ble_eq_true rfl) (⟨rfl, _, rfl, rfl, ⟨v, hX'⟩, hF⟩)
    | succ f ih =>
      intro k hf
      have hk : k < L := by omega
      refine V_iload (q := 286) dL_isRow_284 rfl rfl ?_
      refine V_if_eq (q := 289) (tgt := 388) dL_isRow_286 (by decide) rfl (fun h9 => absurd h9 (by decide)) (fun _ => ?_)
      refine V_iload (q := 291) dL_isRow_289 rfl rfl ?_
      refine V_iload_n (q := 292) dL_isRow_291 rfl rfl ?_
      refine V_icmpN_ge (q := 295) (tgt := 388) dL_isRow_292 (by decide) rfl (by omega) (by omega) (fun h9 => by first | exact h9.elim | exact absurd h9 (by assumption) | (exfalso; omega)) (fun _ => ?_)
      refine V_aload_n (q := 296) dL_isRow_295 rfl rfl rfl ?_
      refine V_iload_n (q := 297) dL_isRow_296 rfl rfl ?_
      refine V_iload (q := 299) dL_isRow_297 rfl rfl ?_
      refine CrL_105 (q := 302) rfl dL_isRow_299 rfl (X_stateOf hX') ⟨(Nat.le_of_ble_eq_true rfl), (Nat.le_of_ble_eq_true rfl)⟩ (Nat.le_of_ble_eq_true rfl) (by first | assumption | exact up_eq | exact (up_ne (by omega)).trans (by first | assumption | exact up_eq | exact (up_ne (by omega)).trans (by first | assumption | exact up_eq | exact (up_ne (by omega)).trans (by first | assumption | exact up_eq)))) (by omega) (Nat.zero_le _) (Nat.zero_le _) ?_
      refine V_topi ((sto k hk)) ?_
      refine V_topi ((if_pos hc)) ?_
      refine V_istore (q := 304) (ls' := [_, _, _, _, _, _, _, _, _, _, _, _, _]) dL_isRow_302 rfl (by decide) (by rfl) rfl ?_
      refine V_aload_n (q := 305) dL_isRow_304 rfl rfl rfl ?_
      refine V_iload_n (q := 306) dL_isRow_305 rfl rfl ?_
      refine V_iload (q := 308) dL_isRow_306 rfl rfl ?_
      refine CrL_88 (q := 311) rfl dL_isRow_308 rfl (X_throwAt hX') ⟨(Nat.le_of_ble_eq_true rfl), (Nat.le_of_ble_eq_true rfl)⟩ (Nat.le_of_ble_eq_true rfl) (by first | assumption | exact up_eq | exact (up_ne (by omega)).trans (by first | assumption | exact up_eq | exact (up_ne (by omega)).trans (by first | assumption | exact up_eq | exact (up_ne (by omega)).trans (by first | assumption | exact up_eq)))) (by omega) (Nat.zero_le _) (Nat.zero_le _) ?_
      refine V_topi ((tat k hk)) ?_
      refine V_istore (q := 313) (ls' := [_, _, _, _, _, _, _, _, _, _, _, _, _]) dL_isRow_311 rfl (by decide) (by rfl) rfl ?_
      refine V_iload (q := 315) dL_isRow_313 rfl rfl ?_
      refine V_if_eq (q := 318) (tgt := 368) dL_isRow_315 (by decide) rfl (fun h9 => absurd h9 (by decide)) (fun _ => ?_)
      refine V_iload (q := 320) dL_isRow_318 rfl rfl ?_
      refine CrL_108 (q := 323) rfl dL_isRow_320 rfl (c_bitCount (hst k)) ⟨(Nat.le_of_ble_eq_true rfl), (Nat.le_of_ble_eq_true rfl)⟩ (Nat.le_of_ble_eq_true rfl) (Nat.zero_le _) (Nat.zero_le _) ?_
      refine V_topi ((congrArg nI (hbn hc k))) ?_
      refine V_iload_n (q := 324) dL_isRow_323 rfl rfl ?_
      refine V_iload_n (q := 325) dL_isRow_324 rfl rfl ?_
      refine V_idiv (q := 326) dL_isRow_325 rfl (nI_ne0 (by omega) (by omega)) (pk_div (by omega) (by omega) (by omega)) ?_
      refine V_icmp_ne (q := 329) (tgt := 364) dL_isRow_326 (by decide) rfl (fun h9 => absurd rfl h9) (fun _ => ?_)
      refine V_iload (q := 331) dL_isRow_329 rfl rfl ?_
      refine V_iload (q := 333) dL_isRow_331 rfl rfl ?_
      refine CrL_113 (q := 336) rfl dL_isRow_333 rfl (c_can (hst k) (q3 k hk)) ⟨(Nat.le_of_ble_eq_true rfl), (Nat.le_of_ble_eq_true rfl)⟩ (Nat.le_of_ble_eq_true rfl) (Nat.zero_le _) (Nat.zero_le _) ?_
      refine V_topi ((if_pos (hcc hc k hk))) ?_
      refine V_if_eq (q := 339) (tgt := 364) dL_isRow_336 (by decide) rfl (fun h9 => absurd h9 (by decide)) (fun _ => ?_)
      refine V_iload (q := 341) dL_isRow_339 rfl rfl ?_
      refine V_iload (q := 343) dL_isRow_341 rfl rfl ?_
      refine CrL_117 (q := 346) rfl dL_isRow_343 rfl (c_behindL (hst k) (q3 k hk)) ⟨(Nat.le_of_ble_eq_true rfl), (Nat.le_of_ble_eq_true rfl)⟩ (Nat.le_of_ble_eq_true rfl) (Nat.zero_le _) (Nat.zero_le _) ?_
      refine V_topi ((congrArg nI (hnx k hk))) ?_
      refine V_aload_n (q := 347) dL_isRow_346 rfl rfl rfl ?_
      refine V_iload_n (q := 348) dL_isRow_347 rfl rfl ?_
      refine V_iload (q := 350) dL_isRow_348 rfl rfl ?_
      refine V_iconst (q := 351) (v := nI 1) dL_isRow_350 rfl (by decide) ?_
      refine V_iadd (q := 352) dL_isRow_351 rfl (by first | exact nI_add _ _ | rfl) ?_
      refine V_iload_n (q := 353) dL_isRow_352 rfl rfl ?_
      refine V_irem (q := 354) dL_isRow_353 rfl (nI_ne0 (by omega) (by omega)) (by first | exact pk_rem (by omega) (by omega) (by omega) | rfl) ?_
      refine CrL_105 (q := 357) rfl dL_isRow_354 rfl (X_stateOf hX') ⟨(Nat.le_of_ble_eq_true rfl), (Nat.le_of_ble_eq_true rfl)⟩ (Nat.le_of_ble_eq_true rfl) (by first | assumption | exact up_eq | exact (up_ne (by omega)).trans (by first | assumption | exact up_eq | exact (up_ne (by omega)).trans (by first | assumption | exact up_eq | exact (up_ne (by omega)).trans (by first | assumption | exact up_eq)))) (by omega) (Nat.zero_le _) (Nat.zero_le _) ?_
      refine V_topi ((sto ((k + 1) % L) (Nat.mod_lt _ q1))) ?_
      refine V_topi ((if_pos hc)) ?_
      refine V_icmp_ne (q := 360) (tgt := 364) dL_isRow_357 (by decide) rfl (fun h9 => absurd rfl h9) (fun _ => ?_)
      refine V_fg 11 (ls2 := [_, _, _, _, _, _, _, _, _, _, _, none, _]) (by rfl) ?_
      refine V_fg 12 (ls2 := [_, _, _, _, _, _, _, _, _, _, _, _, none]) (by rfl) ?_
      refine V_iconst (q := 361) (v := nI 1) dL_isRow_360 rfl (by decide) ?_
      refine V_goto (tgt := 380) dL_isRow_361 (by decide) ?_
      refine V_istore (q := 382) (ls' := [_, _, _, _, _, _, _, _, _, _, _, _, _]) dL_isRow_380 rfl (by decide) (by rfl) rfl ?_
      refine V_iinc (q := 385) (ls' := [_, _, _, _, _, _, _, _, _, _, _, _, _]) dL_isRow_382 rfl (by decide) (by rfl) rfl (by first | exact inc1 _ | rfl) rfl ?_
      refine V_goto (tgt := 284) dL_isRow_385 (by decide) ?_
      exact ih (k + 1) (by omega)
  have loopU : ∀ (w' : HW) (v : Nat × (Nat → Nat)), XW g w' n o (setL X v) → FrX w w' o → ¬ clN h L = L → ∀ f k, k + f = L → V g l ML_isRow (rmd 5 0 0) (FinM g (qI (LQ g w n o X 1) n) 0 0) 284 [some (rf g o), some (.int (nI i)), some (.int (nI L)), some (.int (nI (sumN h L))), none, none, none, none, some (.int (nI 0)), some (.int (nI 1)), some (.int (nI k)), none, none] [] (w') n 0 0 := by
    intro w' v hX' hF hc f
    obtain ⟨hob', hn'⟩ := hX'.obj
    induction f with
    | zero =>
      intro k hf
      obtain rfl : k = L := by omega
      refine V_iload (q := 286) dL_isRow_284 rfl rfl ?_
      refine V_if_eq (q := 289) (tgt := 388) dL_isRow_286 (by decide) rfl (fun h9 => absurd h9 (by decide)) (fun _ => ?_)
      refine V_iload (q := 291) dL_isRow_289 rfl rfl ?_
      refine V_iload_n (q := 292) dL_isRow_291 rfl rfl ?_
      refine V_icmpN_ge (q := 295) (tgt := 388) dL_isRow_292 (by decide) rfl (by omega) (by omega) (fun _ => ?_) (fun h9 => by first | exact h9.elim | (exfalso; omega))
      refine V_iload (q := 390) dL_isRow_388 rfl rfl ?_
      exact V_zret dL_isRow_390 rfl (rfl) (Nat.le_of_ble_eq_true rfl) (Nat.le_of_ble_eq_true rfl) (⟨rfl, _, rfl, rfl, ⟨v, hX'⟩, hF⟩)
    | succ f ih =>
      intro k hf
      have hk : k < L := by omega
      refine V_iload (q := 286) dL_isRow_284 rfl rfl ?_
      refine V_if_eq (q := 289) (tgt := 388) dL_isRow_286 (by decide) rfl (fun h9 => absurd h9 (by decide)) (fun _ => ?_)
      refine V_iload (q := 291) dL_isRow_289 rfl rfl ?_
      refine V_iload_n (q := 292) dL_isRow_291 rfl rfl ?_
      refine V_icmpN_ge (q := 295) (tgt := 388) dL_isRow_292 (by decide) rfl (by omega) (by omega) (fun h9 => by first | exact h9.elim | exact absurd h9 (by assumption) | (exfalso; omega)) (fun _ => ?_)
      refine V_aload_n (q := 296) dL_isRow_295 rfl rfl rfl ?_
      refine V_iload_n (q := 297) dL_isRow_296 rfl rfl ?_
      refine V_iload (q := 299) dL_isRow_297 rfl rfl ?_
      refine CrL_105 (q := 302) rfl dL_isRow_299 rfl (X_stateOf hX') ⟨(Nat.le_of_ble_eq_true rfl), (Nat.le_of_ble_eq_true rfl)⟩ (Nat.le_of_ble_eq_true rfl) (by first | assumption | exact up_eq | exact (up_ne (by omega)).trans (by first | assumption | exact up_eq | exact (up_ne (by omega)).trans (by first | assumption | exact up_eq | exact (up_ne (by omega)).trans (by first | assumption | exact up_eq)))) (by omega) (Nat.zero_le _) (Nat.zero_le _) ?_
      refine V_topi ((sto k hk)) ?_
      refine V_topi ((if_neg hc)) ?_
      refine V_istore (q := 304) (ls' := [_, _, _, _, _, _, _, _, _, _, _, _, _]) dL_isRow_302 rfl (by decide) (by rfl) rfl ?_
      refine V_aload_n (q := 305) dL_isRow_304 rfl rfl rfl ?_
      refine V_iload_n (q := 306) dL_isRow_305 rfl rfl ?_
      refine V_iload (q := 308) dL_isRow_306 rfl rfl ?_
      refine CrL_88 (q := 311) rfl dL_isRow_308 rfl (X_throwAt hX') ⟨(Nat.le_of_ble_eq_true rfl), (Nat.le_of_ble_eq_true rfl)⟩ (Nat.le_of_ble_eq_true rfl) (by first | assumption | exact up_eq | exact (up_ne (by omega)).trans (by first | assumption | exact up_eq | exact (up_ne (by omega)).trans (by first | assumption | exact up_eq | exact (up_ne (by omega)).trans (by first | assumption | exact up_eq)))) (by omega) (Nat.zero_le _) (Nat.zero_le _) ?_
      refine V_istore (q := 313) (ls' := [_, _, _, _, _, _, _, _, _, _, _, _, _]) dL_isRow_311 rfl (by decide) (by rfl) rfl ?_
      refine V_iload (q := 315) dL_isRow_313 rfl rfl ?_
      refine V_if_eq (q := 318) (tgt := 368) dL_isRow_315 (by decide) rfl (fun _ => ?_) (fun h9 => absurd rfl h9)
      refine V_iload (q := 370) dL_isRow_368 rfl rfl ?_
      refine V_bipush (q := 372) (v := (-4)) dL_isRow_370 rfl (by decide) ?_
      refine V_icmp_ne (q := 375) (tgt := 379) dL_isRow_372 (by decide) rfl (fun h9 => absurd rfl h9) (fun _ => ?_)
      refine V_fg 11 (ls2 := [_, _, _, _, _, _, _, _, _, _, _, none, _]) (by rfl) ?_
      refine V_fg 12 (ls2 := [_, _, _, _, _, _, _, _, _, _, _, _, none]) (by rfl) ?_
      refine V_iconst (q := 376) (v := nI 1) dL_isRow_375 rfl (by decide) ?_
      refine V_goto (tgt := 380) dL_isRow_376 (by decide) ?_
      refine V_istore (q := 382) (ls' := [_, _, _, _, _, _, _, _, _, _, _, _, _]) dL_isRow_380 rfl (by decide) (by rfl) rfl ?_
      refine V_iinc (q := 385) (ls' := [_, _, _, _, _, _, _, _, _, _, _, _, _]) dL_isRow_382 rfl (by decide) (by rfl) rfl (by first | exact inc1 _ | rfl) rfl ?_
      refine V_goto (tgt := 284) dL_isRow_385 (by decide) ?_
      exact ih (k + 1) (by omega)
  have fin : V g l ML_isRow (rmd 5 0 0) (FinM g (qI (LQ g w n o X 1) n) 0 0) 108 [some (rf g o), some (.int (nI i)), some (.int (nI L)), some (.int (nI (sumN h L))), some (.int (nI (maxN h L))), some (.int (nI (oddN h L))), none, some (.int (clshI h L)), none, none, none, none, none] [] (w) n 0 0 := by
    by_cases hc : clN h L = L
    · have ec : clshI h L = -4 := if_pos hc
      rw [if_pos hc] at cln
      rw [ec] at e3 ⊢
      refine V_iload (q := 110) dL_isRow_108 rfl rfl ?_
      refine V_bipush (q := 112) (v := (-4)) dL_isRow_110 rfl (by decide) ?_
      refine V_icmp_ne (q := 115) (tgt := 119) dL_isRow_112 (by decide) rfl (fun h9 => absurd rfl h9) (fun _ => ?_)
      refine V_iconst (q := 116) (v := nI 1) dL_isRow_115 rfl (by decide) ?_
      refine V_goto (tgt := 120) dL_isRow_116 (by decide) ?_
      refine V_istore (q := 122) (ls' := [_, _, _, _, _, _, _, _, _, _, _, _, _]) dL_isRow_120 rfl (by decide) (by rfl) rfl ?_
      refine V_aload_n (q := 123) dL_isRow_122 rfl rfl rfl ?_
      refine V_iload_n (q := 124) dL_isRow_123 rfl rfl ?_
      refine V_iconst (q := 125) (v := nI 1) dL_isRow_124 rfl (by decide) ?_
      refine CrL_85 (q := 128) rfl dL_isRow_125 rfl (X_rowOf hX) ⟨(Nat.le_of_ble_eq_true rfl), (Nat.le_of_ble_eq_true rfl)⟩ (Nat.le_of_ble_eq_true rfl) (by first | assumption | exact up_eq | exact (up_ne (by omega)).trans (by first | assumption | exact up_eq | exact (up_ne (by omega)).trans (by first | assumption | exact up_eq | exact (up_ne (by omega)).trans (by first | assumption | exact up_eq)))) (by omega) (Nat.zero_le _) (Nat.zero_le _) ?_
      refine V_topi (e1) ?_
      refine V_iload_n (q := 129) dL_isRow_128 rfl rfl ?_
      refine V_icmp_ne (q := 132) (tgt := 211) dL_isRow_129 (by decide) rfl (fun h9 => absurd rfl h9) (fun _ => ?_)
      refine V_aload_n (q := 133) dL_isRow_132 rfl rfl rfl ?_
      refine V_iload_n (q := 134) dL_isRow_133 rfl rfl ?_
      refine V_iconst (q := 135) (v := nI 5) dL_isRow_134 rfl (by decide) ?_
      refine CrL_85 (q := 138) rfl dL_isRow_135 rfl (X_rowOf hX) ⟨(Nat.le_of_ble_eq_true rfl), (Nat.le_of_ble_eq_true rfl)⟩ (Nat.le_of_ble_eq_true rfl) (by first | assumption | exact up_eq | exact (up_ne (by omega)).trans (by first | assumption | exact up_eq | exact (up_ne (by omega)).trans (by first | assumption | exact up_eq | exact (up_ne (by omega)).trans (by first | assumption | exact up_eq)))) (by omega) (Nat.zero_le _) (Nat.zero_le _) ?_
      refine V_topi (e5) ?_
      refine V_iload (q := 140) dL_isRow_138 rfl rfl ?_
      refine V_icmp_ne (q := 143) (tgt := 211) dL_isRow_140 (by decide) rfl (fun h9 => absurd rfl h9) (fun _ => ?_)
      refine V_aload_n (q := 144) dL_isRow_143 rfl rfl rfl ?_
      refine V_iload_n (q := 145) dL_isRow_144 rfl rfl ?_
      refine V_bipush (q := 147) (v := nI 6) dL_isRow_145 rfl (by decide) ?_
      refine CrL_85 (q := 150) rfl dL_isRow_147 rfl (X_rowOf hX) ⟨(Nat.le_of_ble_eq_true rfl), (Nat.le_of_ble_eq_true rfl)⟩ (Nat.le_of_ble_eq_true rfl) (by first | assumption | exact up_eq | exact (up_ne (by omega)).trans (by first | assumption | exact up_eq | exact (up_ne (by omega)).trans (by first | assumption | exact up_eq | exact (up_ne (by omega)).trans (by first | assumption | exact up_eq)))) (by omega) (Nat.zero_le _) (Nat.zero_le _) ?_
      refine V_topi (e6) ?_
      refine V_iload (q := 152) dL_isRow_150 rfl rfl ?_
      refine V_icmp_ne (q := 155) (tgt := 211) dL_isRow_152 (by decide) rfl (fun h9 => absurd rfl h9) (fun _ => ?_)
      refine V_aload_n (q := 156) dL_isRow_155 rfl rfl rfl ?_
      refine V_iload_n (q := 157) dL_isRow_156 rfl rfl ?_
      refine V_iconst (q := 158) (v := nI 3) dL_isRow_157 rfl (by decide) ?_
      refine CrL_85 (q := 161) rfl dL_isRow_158 rfl (X_rowOf hX) ⟨(Nat.le_of_ble_eq_true rfl), (Nat.le_of_ble_eq_true rfl)⟩ (Nat.le_of_ble_eq_true rfl) (by first | assumption | exact up_eq | exact (up_ne (by omega)).trans (by first | assumption | exact up_eq | exact (up_ne (by omega)).trans (by first | assumption | exact up_eq | exact (up_ne (by omega)).trans (by first | assumption | exact up_eq)))) (by omega) (Nat.zero_le _) (Nat.zero_le _) ?_
      refine V_topi (e3) ?_
      refine V_iload (q := 163) dL_isRow_161 rfl rfl ?_
      refine V_icmp_ne (q := 166) (tgt := 211) dL_isRow_163 (by decide) rfl (fun h9 => absurd rfl h9) (fun _ => ?_)
      refine V_aload_n (q := 167) dL_isRow_166 rfl rfl rfl ?_
      refine V_iload_n (q := 168) dL_isRow_167 rfl rfl ?_
      refine CrL_96 (q := 171) rfl dL_isRow_168 rfl (X_isClean hX) ⟨(Nat.le_of_ble_eq_true rfl), (Nat.le_of_ble_eq_true rfl)⟩ (Nat.le_of_ble_eq_true rfl) (by first | assumption | exact up_eq | exact (up_ne (by omega)).trans (by first | assumption | exact up_eq | exact (up_ne (by omega)).trans (by first | assumption | exact up_eq | exact (up_ne (by omega)).trans (by first | assumption | exact up_eq)))) (by omega) (Nat.zero_le _) (Nat.zero_le _) ?_
      refine V_topi (cln) ?_
      refine V_iload (q := 173) dL_isRow_171 rfl rfl ?_
      refine V_if_eq (q := 176) (tgt := 180) dL_isRow_173 (by decide) rfl (fun h9 => absurd h9 (by decide)) (fun _ => ?_)
      refine V_iconst (q := 177) (v := nI 1) dL_isRow_176 rfl (by decide) ?_
      refine V_goto (tgt := 181) dL_isRow_177 (by decide) ?_
      refine V_icmp_ne (q := 184) (tgt := 211) dL_isRow_181 (by decide) rfl (fun h9 => absurd rfl h9) (fun _ => ?_)
      refine V_aload_n (q := 185) dL_isRow_184 rfl rfl rfl ?_
      refine V_iload_n (q := 186) dL_isRow_185 rfl rfl ?_
      refine CrL_99 (q := 189) rfl dL_isRow_186 rfl (X_isCleanAgain hX) ⟨(Nat.le_of_ble_eq_true rfl), (Nat.le_of_ble_eq_true rfl)⟩ (Nat.le_of_ble_eq_true rfl) (by first | assumption | exact up_eq | exact (up_ne (by omega)).trans (by first | assumption | exact up_eq | exact (up_ne (by omega)).trans (by first | assumption | exact up_eq | exact (up_ne (by omega)).trans (by first | assumption | exact up_eq)))) (by omega) (Nat.zero_le _) (Nat.zero_le _) ?_
      refine V_aload_n (q := 190) dL_isRow_189 rfl rfl rfl ?_
      refine V_iload_n (q := 191) dL_isRow_190 rfl rfl ?_
      refine CrL_96 (q := 194) rfl dL_isRow_191 rfl (X_isClean hX) ⟨(Nat.le_of_ble_eq_true rfl), (Nat.le_of_ble_eq_true rfl)⟩ (Nat.le_of_ble_eq_true rfl) (by first | assumption | exact up_eq | exact (up_ne (by omega)).trans (by first | assumption | exact up_eq | exact (up_ne (by omega)).trans (by first | assumption | exact up_eq | exact (up_ne (by omega)).trans (by first | assumption | exact up_eq)))) (by omega) (Nat.zero_le _) (Nat.zero_le _) ?_
      refine V_icmp_ne (q := 197) (tgt := 211) dL_isRow_194 (by decide) rfl (fun h9 => absurd rfl h9) (fun _ => ?_)
      refine V_aload_n (q := 198) dL_isRow_197 rfl rfl rfl ?_
      refine V_iload_n (q := 199) dL_isRow_198 rfl rfl ?_
      refine V_iload_n (q := 200) dL_isRow_199 rfl rfl ?_
      refine CrL_88 (q := 203) rfl dL_isRow_200 rfl (X_throwAt hX) ⟨(Nat.le_of_ble_eq_true rfl), (Nat.le_of_ble_eq_true rfl)⟩ (Nat.le_of_ble_eq_true rfl) (by first | assumption | exact up_eq | exact (up_ne (by omega)).trans (by first | assumption | exact up_eq | exact (up_ne (by omega)).trans (by first | assumption | exact up_eq | exact (up_ne (by omega)).trans (by first | assumption | exact up_eq)))) (by omega) (Nat.zero_le _) (Nat.zero_le _) ?_
      refine V_topi (tend) ?_
      refine V_iconst (q := 204) (v := (-1)) dL_isRow_203 rfl (by decide) ?_
      refine V_icmp_ne (q := 207) (tgt := 211) dL_isRow_204 (by decide) rfl (fun h9 => absurd rfl h9) (fun _ => ?_)
      refine V_iconst (q := 208) (v := nI 1) dL_isRow_207 rfl (by decide) ?_
      refine V_goto (tgt := 212) dL_isRow_208 (by decide) ?_
      refine V_istore (q := 214) (ls' := [_, _, _, _, _, _, _, _, _, _, _, _, _]) dL_isRow_212 rfl (by decide) (by rfl) rfl ?_
      refine V_iload (q := 216) dL_isRow_214 rfl rfl ?_
      refine V_if_eq (q := 219) (tgt := 278) dL_isRow_216 (by decide) rfl (fun h9 => absurd h9 (by decide)) (fun _ => ?_)
      refine V_aload_n (q := 220) dL_isRow_219 rfl rfl rfl ?_
      refine V_iload_n (q := 221) dL_isRow_220 rfl rfl ?_
      refine V_iconst (q := 222) (v := nI 2) dL_isRow_221 rfl (by decide) ?_
      refine CrL_85 (q := 225) rfl dL_isRow_222 rfl (X_rowOf hX) ⟨(Nat.le_of_ble_eq_true rfl), (Nat.le_of_ble_eq_true rfl)⟩ (Nat.le_of_ble_eq_true rfl) (by first | assumption | exact up_eq | exact (up_ne (by omega)).trans (by first | assumption | exact up_eq | exact (up_ne (by omega)).trans (by first | assumption | exact up_eq | exact (up_ne (by omega)).trans (by first | assumption | exact up_eq)))) (by omega) (Nat.zero_le _) (Nat.zero_le _) ?_
      refine V_topi (e2) ?_
      refine V_topi ((if_pos hc)) ?_
      refine V_iload (q := 227) dL_isRow_225 rfl rfl ?_
      refine V_if_eq (q := 230) (tgt := 236) dL_isRow_227 (by decide) rfl (fun h9 => absurd h9 (by decide)) (fun _ => ?_)
      refine V_iload_n (q := 231) dL_isRow_230 rfl rfl ?_
      refine V_iload_n (q := 232) dL_isRow_231 rfl rfl ?_
      refine V_idiv (q := 233) dL_isRow_232 rfl (nI_ne0 (by omega) (by omega)) (pk_div (by omega) (by omega) (by omega)) ?_
      refine V_goto (tgt := 238) dL_isRow_233 (by decide) ?_
      refine V_icmp_ne (q := 241) (tgt := 278) dL_isRow_238 (by decide) rfl (fun h9 => absurd rfl h9) (fun _ => ?_)
      refine V_iload (q := 243) dL_isRow_241 rfl rfl ?_
      refine V_if_eq (q := 246) (tgt := 252) dL_isRow_243 (by decide) rfl (fun h9 => absurd h9 (by decide)) (fun _ => ?_)
      refine V_iload_n (q := 247) dL_isRow_246 rfl rfl ?_
      refine V_iload_n (q := 248) dL_isRow_247 rfl rfl ?_
      refine V_irem (q := 249) dL_isRow_248 rfl (nI_ne0 (by omega) (by omega)) (pk_rem (by omega) (by omega) (by omega)) ?_
      refine V_ifN_ne (q := 252) (tgt := 278) dL_isRow_249 (by decide) rfl (by omega) (fun h9 => absurd h9 (by rw [hcm hc]; exact fun e => e rfl)) (fun _ => ?_)
      refine V_iload_n (q := 253) dL_isRow_252 rfl rfl ?_
      refine V_aload_n (q := 254) dL_isRow_253 rfl rfl rfl ?_
      refine V_iload_n (q := 255) dL_isRow_254 rfl rfl ?_
      refine V_iconst (q := 256) (v := nI 4) dL_isRow_255 rfl (by decide) ?_
      refine CrL_85 (q := 259) rfl dL_isRow_256 rfl (X_rowOf hX) ⟨(Nat.le_of_ble_eq_true rfl), (Nat.le_of_ble_eq_true rfl)⟩ (Nat.le_of_ble_eq_true rfl) (by first | assumption | exact up_eq | exact (up_ne (by omega)).trans (by first | assumption | exact up_eq | exact (up_ne (by omega)).trans (by first | assumption | exact up_eq | exact (up_ne (by omega)).trans (by first | assumption | exact up_eq)))) (by omega) (Nat.zero_le _) (Nat.zero_le _) ?_
      refine V_topi (e4) ?_
      refine V_irem (q := 260) dL_isRow_259 rfl (nI_ne0 (by omega) (by omega)) (by first | exact pk_rem (by omega) (by omega) (by omega) | rfl) ?_
      refine V_ifN_ne (q := 263) (tgt := 278) dL_isRow_260 (by decide) rfl (by omega) (fun h9 => absurd h9 (by rw [p3]; exact fun e => e rfl)) (fun _ => ?_)
      refine V_aload_n (q := 264) dL_isRow_263 rfl rfl rfl ?_
      refine V_iload_n (q := 265) dL_isRow_264 rfl rfl ?_
      refine CiL_102 (q := 268) rfl dL_isRow_265 rfl ((X_tellRow hX)) ⟨(Nat.le_of_ble_eq_true rfl), (Nat.le_of_ble_eq_true rfl)⟩ (Nat.le_of_ble_eq_true rfl) (by first | assumption | exact up_eq | exact (up_ne (by omega)).trans (by first | assumption | exact up_eq | exact (up_ne (by omega)).trans (by first | assumption | exact up_eq | exact (up_ne (by omega)).trans (by first | assumption | exact up_eq)))) (by omega) (Nat.zero_le _) (Nat.zero_le _) (fun y w1 h1 => ?_)
      rw [tlr] at h1
      obtain ⟨rfl, hX1, hF1⟩ := h1
      refine V_iload_n (q := 269) dL_isRow_268 rfl rfl ?_
      refine V_iconst (q := 270) (v := nI 2) dL_isRow_269 rfl (by decide) ?_
      refine V_iadd (q := 271) dL_isRow_270 rfl (by first | exact nI_add _ _ | rfl) ?_
      refine V_icmp_ne (q := 274) (tgt := 278) dL_isRow_271 (by decide) rfl (fun h9 => absurd rfl h9) (fun _ => ?_)
      refine V_fg 4 (ls2 := [_, _, _, _, none, _, _, _, _, _, _, _, _]) (by rfl) ?_
      refine V_fg 5 (ls2 := [_, _, _, _, _, none, _, _, _, _, _, _, _]) (by rfl) ?_
      refine V_fg 7 (ls2 := [_, _, _, _, _, _, _, none, _, _, _, _, _]) (by rfl) ?_
      refine V_iconst (q := 275) (v := nI 1) dL_isRow_274 rfl (by decide) ?_
      refine V_goto (tgt := 279) dL_isRow_275 (by decide) ?_
      refine V_istore (q := 281) (ls' := [_, _, _, _, _, _, _, _, _, _, _, _, _]) dL_isRow_279 rfl (by decide) (by rfl) rfl ?_
      refine V_iconst (q := 282) (v := nI 0) dL_isRow_281 rfl (by decide) ?_
      refine V_istore (q := 284) (ls' := [_, _, _, _, _, _, _, _, _, _, _, _, _]) dL_isRow_282 rfl (by decide) (by rfl) rfl ?_
      exact loopC w1 _ hX1 hF1 hc L 0 (Nat.zero_add _)
    · have ec : clshI h L = nI (clN h L) := if_neg hc
      rw [if_neg hc] at cln
      rw [ec] at e3 ⊢
      refine V_iload (q := 110) dL_isRow_108 rfl rfl ?_
      refine V_bipush (q := 112) (v := (-4)) dL_isRow_110 rfl (by decide) ?_
      refine V_icmp_ne (q := 115) (tgt := 119) dL_isRow_112 (by decide) rfl (fun _ => ?_) (fun h9 => absurd h9 (nI_m4 (by omega)))
      refine V_iconst (q := 120) (v := nI 0) dL_isRow_119 rfl (by decide) ?_
      refine V_istore (q := 122) (ls' := [_, _, _, _, _, _, _, _, _, _, _, _, _]) dL_isRow_120 rfl (by decide) (by rfl) rfl ?_
      refine V_aload_n (q := 123) dL_isRow_122 rfl rfl rfl ?_
      refine V_iload_n (q := 124) dL_isRow_123 rfl rfl ?_
      refine V_iconst (q := 125) (v := nI 1) dL_isRow_124 rfl (by decide) ?_
      refine CrL_85 (q := 128) rfl dL_isRow_125 rfl (X_rowOf hX) ⟨(Nat.le_of_ble_eq_true rfl), (Nat.le_of_ble_eq_true rfl)⟩ (Nat.le_of_ble_eq_true rfl) (by first | assumption | exact up_eq | exact (up_ne (by omega)).trans (by first | assumption | exact up_eq | exact (up_ne (by omega)).trans (by first | assumption | exact up_eq | exact (up_ne (by omega)).trans (by first | assumption | exact up_eq)))) (by omega) (Nat.zero_le _) (Nat.zero_le _) ?_
      refine V_topi (e1) ?_
      refine V_iload_n (q := 129) dL_isRow_128 rfl rfl ?_
      refine V_icmp_ne (q := 132) (tgt := 211) dL_isRow_129 (by decide) rfl (fun h9 => absurd rfl h9) (fun _ => ?_)
      refine V_aload_n (q := 133) dL_isRow_132 rfl rfl rfl ?_
      refine V_iload_n (q := 134) dL_isRow_133 rfl rfl ?_
      refine V_iconst (q := 135) (v := nI 5) dL_isRow_134 rfl (by decide) ?_
      refine CrL_85 (q := 138) rfl dL_isRow_135 rfl (X_rowOf hX) ⟨(Nat.le_of_ble_eq_true rfl), (Nat.le_of_ble_eq_true rfl)⟩ (Nat.le_of_ble_eq_true rfl) (by first | assumption | exact up_eq | exact (up_ne (by omega)).trans (by first | assumption | exact up_eq | exact (up_ne (by omega)).trans (by first | assumption | exact up_eq | exact (up_ne (by omega)).trans (by first | assumption | exact up_eq)))) (by omega) (Nat.zero_le _) (Nat.zero_le _) ?_
      refine V_topi (e5) ?_
      refine V_iload (q := 140) dL_isRow_138 rfl rfl ?_
      refine V_icmp_ne (q := 143) (tgt := 211) dL_isRow_140 (by decide) rfl (fun h9 => absurd rfl h9) (fun _ => ?_)
      refine V_aload_n (q := 144) dL_isRow_143 rfl rfl rfl ?_
      refine V_iload_n (q := 145) dL_isRow_144 rfl rfl ?_
      refine V_bipush (q := 147) (v := nI 6) dL_isRow_145 rfl (by decide) ?_
      refine CrL_85 (q := 150) rfl dL_isRow_147 rfl (X_rowOf hX) ⟨(Nat.le_of_ble_eq_true rfl), (Nat.le_of_ble_eq_true rfl)⟩ (Nat.le_of_ble_eq_true rfl) (by first | assumption | exact up_eq | exact (up_ne (by omega)).trans (by first | assumption | exact up_eq | exact (up_ne (by omega)).trans (by first | assumption | exact up_eq | exact (up_ne (by omega)).trans (by first | assumption | exact up_eq)))) (by omega) (Nat.zero_le _) (Nat.zero_le _) ?_
      refine V_topi (e6) ?_
      refine V_iload (q := 152) dL_isRow_150 rfl rfl ?_
      refine V_icmp_ne (q := 155) (tgt := 211) dL_isRow_152 (by decide) rfl (fun h9 => absurd rfl h9) (fun _ => ?_)
      refine V_aload_n (q := 156) dL_isRow_155 rfl rfl rfl ?_
      refine V_iload_n (q := 157) dL_isRow_156 rfl rfl ?_
      refine V_iconst (q := 158) (v := nI 3) dL_isRow_157 rfl (by decide) ?_
      refine CrL_85 (q := 161) rfl dL_isRow_158 rfl (X_rowOf hX) ⟨(Nat.le_of_ble_eq_true rfl), (Nat.le_of_ble_eq_true rfl)⟩ (Nat.le_of_ble_eq_true rfl) (by first | assumption | exact up_eq | exact (up_ne (by omega)).trans (by first | assumption | exact up_eq | exact (up_ne (by omega)).trans (by first | assumption | exact up_eq | exact (up_ne (by omega)).trans (by first | assumption | exact up_eq)))) (by omega) (Nat.zero_le _) (Nat.zero_le _) ?_
      refine V_topi (e3) ?_
      refine V_iload (q := 163) dL_isRow_161 rfl rfl ?_
      refine V_icmp_ne (q := 166) (tgt := 211) dL_isRow_163 (by decide) rfl (fun h9 => absurd rfl h9) (fun _ => ?_)
      refine V_aload_n (q := 167) dL_isRow_166 rfl rfl rfl ?_
      refine V_iload_n (q := 168) dL_isRow_167 rfl rfl ?_
      refine CrL_96 (q := 171) rfl dL_isRow_168 rfl (X_isClean hX) ⟨(Nat.le_of_ble_eq_true rfl), (Nat.le_of_ble_eq_true rfl)⟩ (Nat.le_of_ble_eq_true rfl) (by first | assumption | exact up_eq | exact (up_ne (by omega)).trans (by first | assumption | exact up_eq | exact (up_ne (by omega)).trans (by first | assumption | exact up_eq | exact (up_ne (by omega)).trans (by first | assumption | exact up_eq)))) (by omega) (Nat.zero_le _) (Nat.zero_le _) ?_
      refine V_topi (cln) ?_
      refine V_iload (q := 173) dL_isRow_171 rfl rfl ?_
      refine V_if_eq (q := 176) (tgt := 180) dL_isRow_173 (by decide) rfl (fun _ => ?_) (fun h9 => absurd (by decide) h9)
      refine V_iconst (q := 181) (v := nI 0) dL_isRow_180 rfl (by decide) ?_
      refine V_icmp_ne (q := 184) (tgt := 211) dL_isRow_181 (by decide) rfl (fun h9 => absurd rfl h9) (fun _ => ?_)
      refine V_aload_n (q := 185) dL_isRow_184 rfl rfl rfl ?_
      refine V_iload_n (q := 186) dL_isRow_185 rfl rfl ?_
      refine CrL_99 (q := 189) rfl dL_isRow_186 rfl (X_isCleanAgain hX) ⟨(Nat.le_of_ble_eq_true rfl), (Nat.le_of_ble_eq_true rfl)⟩ (Nat.le_of_ble_eq_true rfl) (by first | assumption | exact up_eq | exact (up_ne (by omega)).trans (by first | assumption | exact up_eq | exact (up_ne (by omega)).trans (by first | assumption | exact up_eq | exact (up_ne (by omega)).trans (by first | assumption | exact up_eq)))) (by omega) (Nat.zero_le _) (Nat.zero_le _) ?_
      refine V_aload_n (q := 190) dL_isRow_189 rfl rfl rfl ?_
      refine V_iload_n (q := 191) dL_isRow_190 rfl rfl ?_
      refine CrL_96 (q := 194) rfl dL_isRow_191 rfl (X_isClean hX) ⟨(Nat.le_of_ble_eq_true rfl), (Nat.le_of_ble_eq_true rfl)⟩ (Nat.le_of_ble_eq_true rfl) (by first | assumption | exact up_eq | exact (up_ne (by omega)).trans (by first | assumption | exact up_eq | exact (up_ne (by omega)).trans (by first | assumption | exact up_eq | exact (up_ne (by omega)).trans (by first | assumption | exact up_eq)))) (by omega) (Nat.zero_le _) (Nat.zero_le _) ?_
      refine V_icmp_ne (q := 197) (tgt := 211) dL_isRow_194 (by decide) rfl (fun h9 => absurd rfl h9) (fun _ => ?_)
      refine V_aload_n (q := 198) dL_isRow_197 rfl rfl rfl ?_
      refine V_iload_n (q := 199) dL_isRow_198 rfl rfl ?_
      refine V_iload_n (q := 200) dL_isRow_199 rfl rfl ?_
      refine CrL_88 (q := 203) rfl dL_isRow_200 rfl (X_throwAt hX) ⟨(Nat.le_of_ble_eq_true rfl), (Nat.le_of_ble_eq_true rfl)⟩ (Nat.le_of_ble_eq_true rfl) (by first | assumption | exact up_eq | exact (up_ne (by omega)).trans (by first | assumption | exact up_eq | exact (up_ne (by omega)).trans (by first | assumption | exact up_eq | exact (up_ne (by omega)).trans (by first | assumption | exact up_eq)))) (by omega) (Nat.zero_le _) (Nat.zero_le _) ?_
      refine V_topi (tend) ?_
      refine V_iconst (q := 204) (v := (-1)) dL_isRow_203 rfl (by decide) ?_
      refine V_icmp_ne (q := 207) (tgt := 211) dL_isRow_204 (by decide) rfl (fun h9 => absurd rfl h9) (fun _ => ?_)
      refine V_iconst (q := 208) (v := nI 1) dL_isRow_207 rfl (by decide) ?_
      refine V_goto (tgt := 212) dL_isRow_208 (by decide) ?_
      refine V_istore (q := 214) (ls' := [_, _, _, _, _, _, _, _, _, _, _, _, _]) dL_isRow_212 rfl (by decide) (by rfl) rfl ?_
      refine V_iload (q := 216) dL_isRow_214 rfl rfl ?_
      refine V_if_eq (q := 219) (tgt := 278) dL_isRow_216 (by decide) rfl (fun h9 => absurd h9 (by decide)) (fun _ => ?_)
      refine V_aload_n (q := 220) dL_isRow_219 rfl rfl rfl ?_
      refine V_iload_n (q := 221) dL_isRow_220 rfl rfl ?_
      refine V_iconst (q := 222) (v := nI 2) dL_isRow_221 rfl (by decide) ?_
      refine CrL_85 (q := 225) rfl dL_isRow_222 rfl (X_rowOf hX) ⟨(Nat.le_of_ble_eq_true rfl), (Nat.le_of_ble_eq_true rfl)⟩ (Nat.le_of_ble_eq_true rfl) (by first | assumption | exact up_eq | exact (up_ne (by omega)).trans (by first | assumption | exact up_eq | exact (up_ne (by omega)).trans (by first | assumption | exact up_eq | exact (up_ne (by omega)).trans (by first | assumption | exact up_eq)))) (by omega) (Nat.zero_le _) (Nat.zero_le _) ?_
      refine V_topi (e2) ?_
      refine V_topi ((if_neg hc)) ?_
      refine V_iload (q := 227) dL_isRow_225 rfl rfl ?_
      refine V_if_eq (q := 230) (tgt := 236) dL_isRow_227 (by decide) rfl (fun _ => ?_) (fun h9 => absurd (by decide) h9)
      refine V_bipush (q := 238) (v := (-4)) dL_isRow_236 rfl (by decide) ?_
      refine V_icmp_ne (q := 241) (tgt := 278) dL_isRow_238 (by decide) rfl (fun h9 => absurd rfl h9) (fun _ => ?_)
      refine V_iload (q := 243) dL_isRow_241 rfl rfl ?_
      refine V_if_eq (q := 246) (tgt := 252) dL_isRow_243 (by decide) rfl (fun _ => ?_) (fun h9 => absurd (by decide) h9)
      refine V_iload_n (q := 253) dL_isRow_252 rfl rfl ?_
      refine V_aload_n (q := 254) dL_isRow_253 rfl rfl rfl ?_
      refine V_iload_n (q := 255) dL_isRow_254 rfl rfl ?_
      refine V_iconst (q := 256) (v := nI 4) dL_isRow_255 rfl (by decide) ?_
      refine CrL_85 (q := 259) rfl dL_isRow_256 rfl (X_rowOf hX) ⟨(Nat.le_of_ble_eq_true rfl), (Nat.le_of_ble_eq_true rfl)⟩ (Nat.le_of_ble_eq_true rfl) (by first | assumption | exact up_eq | exact (up_ne (by omega)).trans (by first | assumption | exact up_eq | exact (up_ne (by omega)).trans (by first | assumption | exact up_eq | exact (up_ne (by omega)).trans (by first | assumption | exact up_eq)))) (by omega) (Nat.zero_le _) (Nat.zero_le _) ?_
      refine V_topi (e4) ?_
      refine V_irem (q := 260) dL_isRow_259 rfl (nI_ne0 (by omega) (by omega)) (by first | exact pk_rem (by omega) (by omega) (by omega) | rfl) ?_
      refine V_ifN_ne (q := 263) (tgt := 278) dL_isRow_260 (by decide) rfl (by omega) (fun h9 => absurd h9 (by rw [p3]; exact fun e => e rfl)) (fun _ => ?_)
      refine V_aload_n (q := 264) dL_isRow_263 rfl rfl rfl ?_
      refine V_iload_n (q := 265) dL_isRow_264 rfl rfl ?_
      refine CiL_102 (q := 268) rfl dL_isRow_265 rfl ((X_tellRow hX)) ⟨(Nat.le_of_ble_eq_true rfl), (Nat.le_of_ble_eq_true rfl)⟩ (Nat.le_of_ble_eq_true rfl) (by first | assumption | exact up_eq | exact (up_ne (by omega)).trans (by first | assumption | exact up_eq | exact (up_ne (by omega)).trans (by first | assumption | exact up_eq | exact (up_ne (by omega)).trans (by first | assumption | exact up_eq)))) (by omega) (Nat.zero_le _) (Nat.zero_le _) (fun y w1 h1 => ?_)
      rw [tlr] at h1
      obtain ⟨rfl, hX1, hF1⟩ := h1
      refine V_iload_n (q := 269) dL_isRow_268 rfl rfl ?_
      refine V_iconst (q := 270) (v := nI 2) dL_isRow_269 rfl (by decide) ?_
      refine V_iadd (q := 271) dL_isRow_270 rfl (by first | exact nI_add _ _ | rfl) ?_
      refine V_icmp_ne (q := 274) (tgt := 278) dL_isRow_271 (by decide) rfl (fun h9 => absurd rfl h9) (fun _ => ?_)
      refine V_fg 4 (ls2 := [_, _, _, _, none, _, _, _, _, _, _, _, _]) (by rfl) ?_
      refine V_fg 5 (ls2 := [_, _, _, _, _, none, _, _, _, _, _, _, _]) (by rfl) ?_
      refine V_fg 7 (ls2 := [_, _, _, _, _, _, _, none, _, _, _, _, _]) (by rfl) ?_
      refine V_iconst (q := 275) (v := nI 1) dL_isRow_274 rfl (by decide) ?_
      refine V_goto (tgt := 279) dL_isRow_275 (by decide) ?_
      refine V_istore (q := 281) (ls' := [_, _, _, _, _, _, _, _, _, _, _, _, _]) dL_isRow_279 rfl (by decide) (by rfl) rfl ?_
      refine V_iconst (q := 282) (v := nI 0) dL_isRow_281 rfl (by decide) ?_
      refine V_istore (q := 284) (ls' := [_, _, _, _, _, _, _, _, _, _, _, _, _]) dL_isRow_282 rfl (by decide) (by rfl) rfl ?_
      exact loopU w1 _ hX1 hF1 hc L 0 (Nat.zero_add _)
  have loopS : ∀ j S G O E C, j ≤ L → S + sumN h j = sumN h L → max G (maxN h j) = maxN h L → O + oddN h j = oddN h L → E < 256 → (∀ b, E.testBit b = true ↔ ∃ x, j ≤ x ∧ x < L ∧ landN h L x = b) → CsN h L j C → V g l ML_isRow (rmd 5 0 0) (FinM g (qI (LQ g w n o X 1) n) 0 0) 27 [some (rf g o), some (.int (nI i)), some (.int (nI L)), some (.int (nI S)), some (.int (nI G)), some (.int (nI O)), some (.int (nI E)), some (.int C), some (.int (nI j - nI 1)), none, none, none, none] [] (w) n 0 0 := by
    intro j
    induction j with
    | zero =>
      intro S G O E C hj hS hG hO hE2 hE hC
      obtain rfl : S = sumN h L := hS
      obtain rfl : G = maxN h L := by
        have : max G 0 = maxN h L := hG
        omega
      obtain rfl : O = oddN h L := hO
      obtain rfl := hC.fin
      refine V_iload (q := 29) dL_isRow_27 rfl rfl ?_
      refine V_if_lt (q := 32) (tgt := 108) dL_isRow_29 (by decide) rfl (fun _ => ?_) (fun h9 => absurd (by decide) h9)
      refine V_fg 6 (ls2 := [_, _, _, _, _, _, none, _, _, _, _, _, _]) (by rfl) ?_
      refine V_fg 8 (ls2 := [_, _, _, _, _, _, _, _, none, _, _, _, _]) (by rfl) ?_
      exact fin
    | succ j ih =>
      intro S G O E C hj hS hG hO hE2 hE hC
      have hjL : j < L := by omega
      have h9 := q3 j hjL
      have hS' : S + h j + sumN h j = sumN h L := by
        have : S + (sumN h j + h j) = sumN h L := hS
        omega
      have hG' : max G (max (maxN h j) (h j)) = maxN h L := hG
      have hO' : O + h j % 2 + oddN h j = oddN h L := by
        have : O + (oddN h j + h j % 2) = oddN h L := hO
        omega
      have hld := landN_lt (h := h) (i := j) q1
      have hld2 : (j + h j) % L = landN h L j := rfl
      have hmxI : (if nI G < nI (h j) then nI (h j) else nI G) = nI (max G (h j)) := by
        exact maxI (by omega) (by omega)
      have hbit : E.testBit (landN h L j) = true ↔ ClN h L j := by
        rw [hE]
        constructor
        · rintro ⟨x, x1, x2, x3⟩
          exact ⟨x, x2, by omega, x3.symm⟩
        · rintro ⟨x, x1, x2, x3⟩
          exact ⟨x, by omega, x1, x3.symm⟩
      have hbit2 : E.testBit (landN h L j) = decide (E / 2 ^ landN h L j % 2 = 1) := Nat.testBit_eq_decide_div_mod_eq
      have hp8 : 2 ^ landN h L j < 256 := Nat.pow_lt_pow_right (n := 8) (by decide) (by omega)
      have hEn : E ||| 2 ^ landN h L j < 256 := Nat.or_lt_two_pow (n := 8) hE2 hp8
      have hEb : ∀ b, (E ||| 2 ^ landN h L j).testBit b = true ↔ ∃ x, j ≤ x ∧ x < L ∧ landN h L x = b := by
        intro b
        rw [Nat.testBit_or, Bool.or_eq_true, hE, Nat.testBit_two_pow, decide_eq_true_iff]
        constructor
        · rintro (⟨x, x1, x2, x3⟩ | e)
          · exact ⟨x, by omega, x2, x3⟩
          · exact ⟨j, Nat.le_refl _, hjL, e⟩
        · rintro ⟨x, x1, x2, x3⟩
          by_cases e : x = j
          · subst e; exact Or.inr x3
          · exact Or.inl ⟨x, by omega, x2, x3⟩
      have rest : ∀ C', CsN h L j C' → V g l ML_isRow (rmd 5 0 0) (FinM g (qI (LQ g w n o X 1) n) 0 0) 91 [some (rf g o), some (.int (nI i)), some (.int (nI L)), some (.int (nI (S + h j))), some (.int (nI (max G (h j)))), some (.int (nI (O + h j % 2))), some (.int (nI E)), some (.int C), some (.int (nI j)), some (.int (nI (h j))), some (.int (nI (landN h L j))), none, none] [.int C'] (w) n 0 0 := by
        intro C' hC'
        refine V_istore (q := 93) (ls' := [_, _, _, _, _, _, _, _, _, _, _, _, _]) dL_isRow_91 rfl (by decide) (by rfl) rfl ?_
        refine V_iload (q := 95) dL_isRow_93 rfl rfl ?_
        refine V_iconst (q := 96) (v := nI 1) dL_isRow_95 rfl (by decide) ?_
        refine V_iload (q := 98) dL_isRow_96 rfl rfl ?_
        refine V_ishl (q := 99) dL_isRow_98 rfl (shl1 (by omega)) ?_
        refine V_ior (q := 100) dL_isRow_99 rfl (by first | exact fa_or _ _ | rfl) ?_
        refine V_istore (q := 102) (ls' := [_, _, _, _, _, _, _, _, _, _, _, _, _]) dL_isRow_100 rfl (by decide) (by rfl) rfl ?_
        refine V_iinc (q := 105) (ls' := [_, _, _, _, _, _, _, _, _, _, _, _, _]) dL_isRow_102 rfl (by decide) (by rfl) rfl (sub1 _) rfl ?_
        refine V_goto (tgt := 27) dL_isRow_105 (by decide) ?_
        refine V_fg 9 (ls2 := [_, _, _, _, _, _, _, _, _, none, _, _, _]) (by rfl) ?_
        refine V_fg 10 (ls2 := [_, _, _, _, _, _, _, _, _, _, none, _, _]) (by rfl) ?_
        exact ih _ _ _ _ _ (by omega) hS' (by omega) hO' hEn hEb hC'
      have ej : nI (j + 1) - nI 1 = nI j := pk_sub (by omega)
      rw [ej]
      refine V_iload (q := 29) dL_isRow_27 rfl rfl ?_
      refine V_ifN_lt (q := 32) (tgt := 108) dL_isRow_29 (by decide) rfl (by omega) (fun h9 => by first | exact h9.elim | exact absurd h9 (by assumption) | (exfalso; omega)) (fun _ => ?_)
      refine V_aload_n (q := 33) dL_isRow_32 rfl rfl rfl ?_
      refine V_iload_n (q := 34) dL_isRow_33 rfl rfl ?_
      refine V_iload (q := 36) dL_isRow_34 rfl rfl ?_
      refine CrL_88 (q := 39) rfl dL_isRow_36 rfl (X_throwAt hX) ⟨(Nat.le_of_ble_eq_true rfl), (Nat.le_of_ble_eq_true rfl)⟩ (Nat.le_of_ble_eq_true rfl) (by first | assumption | exact up_eq | exact (up_ne (by omega)).trans (by first | assumption | exact up_eq | exact (up_ne (by omega)).trans (by first | assumption | exact up_eq | exact (up_ne (by omega)).trans (by first | assumption | exact up_eq)))) (by omega) (Nat.zero_le _) (Nat.zero_le _) ?_
      refine V_topi ((tat j hjL)) ?_
      refine V_istore (q := 41) (ls' := [_, _, _, _, _, _, _, _, _, _, _, _, _]) dL_isRow_39 rfl (by decide) (by rfl) rfl ?_
      refine V_iload (q := 43) dL_isRow_41 rfl rfl ?_
      refine V_iload (q := 45) dL_isRow_43 rfl rfl ?_
      refine V_iadd (q := 46) dL_isRow_45 rfl (by first | exact nI_add _ _ | rfl) ?_
      refine V_iload_n (q := 47) dL_isRow_46 rfl rfl ?_
      refine V_irem (q := 48) dL_isRow_47 rfl (nI_ne0 (by omega) (by omega)) (by first | exact pk_rem (by omega) (by omega) (by omega) | rfl) ?_
      refine V_istore (q := 50) (ls' := [_, _, _, _, _, _, _, _, _, _, _, _, _]) dL_isRow_48 rfl (by decide) (by rfl) rfl ?_
      refine V_iload_n (q := 51) dL_isRow_50 rfl rfl ?_
      refine V_iload (q := 53) dL_isRow_51 rfl rfl ?_
      refine V_iadd (q := 54) dL_isRow_53 rfl (by first | exact nI_add _ _ | rfl) ?_
      refine V_istore_n (q := 55) (ls' := [_, _, _, _, _, _, _, _, _, _, _, _, _]) dL_isRow_54 rfl (by decide) (by rfl) rfl ?_
      refine V_iload (q := 57) dL_isRow_55 rfl rfl ?_
      refine V_iload (q := 59) dL_isRow_57 rfl rfl ?_
      refine XL_91 (q := 62) rfl dL_isRow_59 rfl (Nat.le_of_ble_eq_true rfl) (Nat.le_of_ble_eq_true rfl) (Nat.zero_le _) (Nat.zero_le _) hmxI ?_
      refine V_istore (q := 64) (ls' := [_, _, _, _, _, _, _, _, _, _, _, _, _]) dL_isRow_62 rfl (by decide) (by rfl) rfl ?_
      refine V_iload (q := 66) dL_isRow_64 rfl rfl ?_
      refine V_iload (q := 68) dL_isRow_66 rfl rfl ?_
      refine V_iconst (q := 69) (v := nI 2) dL_isRow_68 rfl (by decide) ?_
      refine V_irem (q := 70) dL_isRow_69 rfl (nI_ne0 (by omega) (by omega)) (by first | exact pk_rem (by omega) (by omega) (by omega) | rfl) ?_
      refine V_iadd (q := 71) dL_isRow_70 rfl (by first | exact nI_add _ _ | rfl) ?_
      refine V_istore (q := 73) (ls' := [_, _, _, _, _, _, _, _, _, _, _, _, _]) dL_isRow_71 rfl (by decide) (by rfl) rfl ?_
      refine V_iload (q := 75) dL_isRow_73 rfl rfl ?_
      refine V_iload (q := 77) dL_isRow_75 rfl rfl ?_
      refine V_ishr (q := 78) dL_isRow_77 rfl (shr1 (by omega) (by omega)) ?_
      refine V_iconst (q := 79) (v := nI 1) dL_isRow_78 rfl (by decide) ?_
      refine V_iand (q := 80) dL_isRow_79 rfl (fa_mask _ 1) ?_
      refine V_iconst (q := 81) (v := nI 1) dL_isRow_80 rfl (by decide) ?_
      refine V_icmpN_ne (q := 84) (tgt := 89) dL_isRow_81 (by decide) rfl (by omega) (by omega) (fun hb => ?_) (fun hb => ?_)
      · skip
        refine V_iload (q := 91) dL_isRow_89 rfl rfl ?_
        refine rest C ?_
        have hno : ¬ ClN h L j := fun q => by
          rw [hbit2] at hbit
          exact hb (of_decide_eq_true (hbit.mpr q))
        rcases hC with ⟨r1, r2⟩ | ⟨c, r1, r2, r3, r4, r5⟩
        · refine Or.inl ⟨r1, fun x x1 x2 => ?_⟩
          by_cases e : x = j
          · subst e; exact hno
          · exact r2 x (by omega) x2
        · refine Or.inr ⟨c, r1, by omega, r3, r4, fun x x1 x2 => ?_⟩
          by_cases e : x = j
          · subst e; exact hno
          · exact r5 x (by omega) x2
      · skip
        refine V_iload (q := 86) dL_isRow_84 rfl rfl ?_
        refine V_goto (tgt := 91) dL_isRow_86 (by decide) ?_
        refine rest (nI j) (Or.inr ⟨j, rfl, Nat.le_refl _, hjL, ?_, fun x x1 x2 => by omega⟩)
        rw [hbit2] at hbit
        exact hbit.mp (decide_eq_true hb)
  refine Ct.ofs (M := ML_isRow) (ls := [some _, some _, none, none, none, none, none, none, none, none, none, none, none]) (by decide +kernel) (by exact (Nat.le_of_ble_eq_true rfl)) (by rfl) (by rfl) (by rfl) ?_
  refine V_aload_n (q := 1) dL_isRow_0 rfl rfl rfl ?_
  refine V_iload_n (q := 2) dL_isRow_1 rfl rfl ?_
  refine V_iconst (q := 3) (v := nI 0) dL_isRow_2 rfl (by decide) ?_
  refine CrL_85 (q := 6) rfl dL_isRow_3 rfl (X_rowOf hX) ⟨(Nat.le_of_ble_eq_true rfl), (Nat.le_of_ble_eq_true rfl)⟩ (Nat.le_of_ble_eq_true rfl) (by first | assumption | exact up_eq | exact (up_ne (by omega)).trans (by first | assumption | exact up_eq | exact (up_ne (by omega)).trans (by first | assumption | exact up_eq | exact (up_ne (by omega)).trans (by first | assumption | exact up_eq)))) (by omega) (Nat.zero_le _) (Nat.zero_le _) ?_
  refine V_topi (e0) ?_
  refine V_istore_n (q := 7) (ls' := [_, _, _, _, _, _, _, _, _, _, _, _, _]) dL_isRow_6 rfl (by decide) (by rfl) rfl ?_
  refine V_iconst (q := 8) (v := nI 0) dL_isRow_7 rfl (by decide) ?_
  refine V_istore_n (q := 9) (ls' := [_, _, _, _, _, _, _, _, _, _, _, _, _]) dL_isRow_8 rfl (by decide) (by rfl) rfl ?_
  refine V_iconst (q := 10) (v := nI 0) dL_isRow_9 rfl (by decide) ?_
  refine V_istore (q := 12) (ls' := [_, _, _, _, _, _, _, _, _, _, _, _, _]) dL_isRow_10 rfl (by decide) (by rfl) rfl ?_
  refine V_iconst (q := 13) (v := nI 0) dL_isRow_12 rfl (by decide) ?_
  refine V_istore (q := 15) (ls' := [_, _, _, _, _, _, _, _, _, _, _, _, _]) dL_isRow_13 rfl (by decide) (by rfl) rfl ?_
  refine V_iconst (q := 16) (v := nI 0) dL_isRow_15 rfl (by decide) ?_
  refine V_istore (q := 18) (ls' := [_, _, _, _, _, _, _, _, _, _, _, _, _]) dL_isRow_16 rfl (by decide) (by rfl) rfl ?_
  refine V_bipush (q := 20) (v := (-4)) dL_isRow_18 rfl (by decide) ?_
  refine V_istore (q := 22) (ls' := [_, _, _, _, _, _, _, _, _, _, _, _, _]) dL_isRow_20 rfl (by decide) (by rfl) rfl ?_
  refine V_iload_n (q := 23) dL_isRow_22 rfl rfl ?_
  refine V_iconst (q := 24) (v := nI 1) dL_isRow_23 rfl (by decide) ?_
  refine V_isub (q := 25) dL_isRow_24 rfl rfl ?_
  refine V_istore (q := 27) (ls' := [_, _, _, _, _, _, _, _, _, _, _, _, _]) dL_isRow_25 rfl (by decide) (by rfl) rfl ?_
  refine loopS L 0 0 0 0 (-4) (Nat.le_refl _) (Nat.zero_add _) (Nat.zero_max _) (Nat.zero_add _) (by decide) (fun b => ?_) (Or.inl ⟨rfl, fun x x1 x2 => by omega⟩)
  rw [Nat.zero_testBit]
  constructor
  · intro e; cases e
  · rintro ⟨x, x1, x2, x3⟩
    omega
end ROW
