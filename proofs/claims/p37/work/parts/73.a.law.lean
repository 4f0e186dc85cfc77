/-! the law, walked -/
abbrev Mlaw : MI := (x, cL_law, 9, ret)
/-- the law's end is reached, if it was begun with this script -/
def FinL (bq : Nat) : FinT := fun below args s t => args = #[Value.ref bq] → lw_Z below #[Value.ref bq] s t
abbrev VL (g : GG) (l : Launch) (bq pc : Nat) (ls : LO) (st : List Value) (w : HW) : Prop := V g l Mlaw room_1 (FinL bq) pc ls st w 167 167 1977
/-- the object at rest: its numbers keep in bounds, its text is empty -/
def LZ (g : GG) (w : HW) (K : Nat) (X : XT) : Prop := XW g w 167 0 X ∧ IX K X ∧ (xT X).1 = 0
theorem LZ.up {g : GG} {w : HW} {K K' : Nat} {X : XT} (h : LZ g w K X) (hk : K ≤ K') : LZ g w K' X := ⟨h.1, h.2.1.up hk, h.2.2⟩
theorem LZ.chg {g : GG} {w w' : HW} {K : Nat} {X : XT} {res : OpR} {y : Int32} (h : LZ g w K X) (h1 : GdR (xN X) res) (h2 : Op9 (xN X) res) (hP : XP g w 167 0 (chgX X res) y w') : LZ g w' (K + 9) (chgX X res).2 := by
  obtain ⟨a1, a2, a3⟩ := h
  exact ⟨hP.2.1, a2.chg h1 h2, by rw [chg_T]; exact a3⟩
theorem LZ.lin {g : GG} {w w' : HW} {K : Nat} {X : XT} {y z : Int32} (h : LZ g w K X) (hP : LQ g w 167 0 X z y w') : ∃ v, LZ g w' K (setL X v) ∧ y = z := by
  obtain ⟨a1, a2, a3⟩ := h
  obtain ⟨b1, ⟨v, b2⟩, b3⟩ := hP
  exact ⟨v, ⟨b2, a2, a3⟩, b1⟩
theorem LZ.okn {g : GG} {w : HW} {K : Nat} {X : XT} (h : LZ g w K X) : OkN (xN X) := h.1.okn
theorem LZ.oks {g : GG} {w : HW} {K : Nat} {X : XT} (h : LZ g w K X) : OkS (xN X) := h.2.1.1.1
theorem LZ.obj {g : GG} {w : HW} {K : Nat} {X : XT} (h : LZ g w K X) : w 0 = eO 7 (xfs g 0 (nI (xH X))) := h.1.obj.1
theorem chg_S {X : XT} {res : OpR} : xS (chgX X res).2 = xS X ∧ xH (chgX X res).2 = xH X := by
  unfold chgX
  by_cases e : isErr res.1
  · rw [if_pos e]; exact ⟨rfl, rfl⟩
  · rw [if_neg e]; exact ⟨rfl, rfl⟩
theorem IX0 : IX 0 X0e := ⟨⟨⟨by decide, by decide⟩, Nat.le_refl _, Nat.le_refl _, Nat.le_refl _⟩, ⟨⟨by decide, by decide⟩, Nat.le_refl _, Nat.le_refl _, Nat.le_refl _⟩, fun k hk => absurd hk (Nat.not_lt_zero k), by decide, by decide⟩
theorem tx_right : ∀ k, k < 26 → fltN (txc k) (lenT.getD k 0) 71 0 = none := by decide +kernel
/-- a right text, read: refused, it leaves the stand; carried out, it can be undone -/
theorem rea_tx {X : XT} {K k : Nat} (hk : k < 26) (hI : IX K X) (hN : OkN (xN X)) : xS (reaA (setT X (lenT.getD k 0, txc k))).2 = xS X ∧ xH (reaA (setT X (lenT.getD k 0, txc k))).2 = xH X ∧ ((reaA (setT X (lenT.getD k 0, txc k))).1 < 0 ∧ ¬ (reaA (setT X (lenT.getD k 0, txc k))).1 < -3 ∧ xN (reaA (setT X (lenT.getD k 0, txc k))).2 = xN X ∨ ¬ (reaA (setT X (lenT.getD k 0, txc k))).1 < 0 ∧ xP (reaA (setT X (lenT.getD k 0, txc k))).2 = (min ((xP X).1 + 1) 8, conS (xN X) (xP X).2)) := by
  unfold reaA
  rw [show fltN (xT (setT X (lenT.getD k 0, txc k))).2 (xT (setT X (lenT.getD k 0, txc k))).1 71 0 = none from tx_right k hk]
  dsimp only
  refine ⟨rfl, rfl, ?_⟩
  obtain ⟨h3, h4⟩ := runN_nv (t := txc k) (tl := lenT.getD k 0) hI.1 71 0 0 (xN X) (by omega) hI.1 hN
  show (runN (txc k) (lenT.getD k 0) (xN X) 71 0 0 (xN X)).1 < 0 ∧ ¬ (runN (txc k) (lenT.getD k 0) (xN X) 71 0 0 (xN X)).1 < -3 ∧ (runN (txc k) (lenT.getD k 0) (xN X) 71 0 0 (xN X)).2.1 = xN X ∨ ¬ (runN (txc k) (lenT.getD k 0) (xN X) 71 0 0 (xN X)).1 < 0 ∧ (if isErr (runN (txc k) (lenT.getD k 0) (xN X) 71 0 0 (xN X)).1 then xP X else (min ((xP X).1 + 1) 8, conS (xN X) (xP X).2)) = (min ((xP X).1 + 1) 8, conS (xN X) (xP X).2)
  generalize runN (txc k) (lenT.getD k 0) (xN X) 71 0 0 (xN X) = res at h3 h4
  rcases h4 with ⟨e1, e2, e3⟩ | ⟨e1, e2⟩
  · refine Or.inl ⟨?_, e3, e2⟩
    rcases e1 with e | e | e <;> (rw [e]; decide)
  · exact Or.inr ⟨e2, if_neg e1⟩
section LAW
variable {g : GG} {l : Launch} {bq : Nat}
theorem V_lret {pc : Nat} {ls : LO} {w : HW} {n sl : Nat} (d : decode Mlaw.2.1 pc = .ok (.ireturn, 1)) (hc : n ≤ 600000) (hs : sl ≤ 7302250) : V g l Mlaw room_1 (FinL bq) pc ls [.int 1] w n n sl := by
  intro p e s m args below meth c H locs la hC hL hP hS hn
  obtain ⟨hx, hb, hr, hlk, hml, hown, hts, hK, hb0, hin⟩ := id hC
  by_cases ha : args = #[Value.ref bq]
  · subst ha
    refine va_forget (fun q hq => ?_) ?_
    · have h1 : g.1 ≤ q.base := hS.2.2 q hq
      omega
    · refine W.widen hc hs ?_
      have key := lw_ret (l := l) (p := p) (e := e) (s := s) (m := m) (below := below) (meth := meth) (c := c) (b := bq) (d0 := s.drawn) (Drawn.sameBut.refl s.drawn lw_cs) hx hb hr hlk (pc := pc) (H := H) (ls := la) d
      intro T hT X
      obtain ⟨t, a1, a2⟩ := key T hT X
      exact ⟨t, a1, fun _ => a2⟩
  · intro T hT X
    exact ⟨_, Steps.refl _, fun h => absurd h ha⟩
/-- the end: what was saved is restored -/
theorem law_G {A K : Nat} {X X1 : XT} {w : HW} (hX : LZ g w K X) (h1 : xS X = xN X1) (h2 : xH X = 1) : VL g l bq 333 [some (.ref g.2.2.2.2.1), some (rf g 0), some (.int (nI A)), some (.int (nI 1)), some (.long (digX X1)), none, some (.int (nI (sC (xN X1)))), none, none] [] w := by
  obtain ⟨hXW, hI, hT⟩ := hX
  have hob := hXW.obj.1
  have e1 : (resA X).1 = nI (sC (xN X1)) := by
    unfold resA
    rw [if_neg (by rw [h2]; decide), h1]
  have e2 : xN (resA X).2 = xN X1 := by
    unfold resA
    rw [if_neg (by rw [h2]; decide)]
    exact h1
  have e3 : (xP (resA X).2).1 = 0 := by
    unfold resA
    rw [if_neg (by rw [h2]; decide)]
  obtain ⟨hI2, -⟩ := hI.res hXW.oks.1
  have e4 : (undA (resA X).2).1 = -4 := by
    unfold undA
    rw [if_pos e3]
  refine V_iload_n (q := 334) dL_law_333 rfl rfl ?_
  refine V_if_eq (q := 337) (tgt := 369) dL_law_334 (by decide) rfl (fun h9 => absurd h9 (by decide)) (fun _ => ?_)
  refine V_aload_n (q := 338) dL_law_337 rfl rfl rfl ?_
  refine CiL_69 (q := 341) rfl dL_law_338 rfl ((X_restore hXW hI.2.2.2.1)) ⟨(Nat.le_of_ble_eq_true rfl), (Nat.le_of_ble_eq_true rfl)⟩ (Nat.le_of_ble_eq_true rfl) (by first | assumption | exact up_eq | exact (up_ne (by omega)).trans (by first | assumption | exact up_eq | exact (up_ne (by omega)).trans (by first | assumption | exact up_eq | exact (up_ne (by omega)).trans (by first | assumption | exact up_eq)))) (by omega) (Nat.le_of_ble_eq_true rfl) (Nat.le_of_ble_eq_true rfl) (fun y w1 h1 => ?_)
  obtain ⟨rfl, hX1, hF1⟩ := h1
  have hob1 := hX1.obj.1
  generalize resA X = r at *
  refine V_topi (e1) ?_
  refine V_iload (q := 343) dL_law_341 rfl rfl ?_
  refine V_icmp_ne (q := 346) (tgt := 369) dL_law_343 (by decide) rfl (fun h9 => absurd rfl h9) (fun _ => ?_)
  refine V_aload_n (q := 347) dL_law_346 rfl rfl rfl ?_
  refine CrL_177 (q := 350) rfl dL_law_347 rfl (c_digest hX1 hI2.1.1) ⟨(Nat.le_of_ble_eq_true rfl), (Nat.le_of_ble_eq_true rfl)⟩ (Nat.le_of_ble_eq_true rfl) (Nat.le_of_ble_eq_true rfl) (Nat.le_of_ble_eq_true rfl) ?_
  refine V_lload (q := 352) dL_law_350 rfl rfl ?_
  refine V_lcmp (q := 353) dL_law_352 rfl (lcmp0 (digX_same e2)) ?_
  refine V_if_ne (q := 356) (tgt := 369) dL_law_353 (by decide) rfl (fun h9 => absurd rfl h9) (fun _ => ?_)
  refine V_aload_n (q := 357) dL_law_356 rfl rfl rfl ?_
  refine CiL_72 (q := 360) rfl dL_law_357 rfl ((X_undo hX1)) ⟨(Nat.le_of_ble_eq_true rfl), (Nat.le_of_ble_eq_true rfl)⟩ (Nat.le_of_ble_eq_true rfl) (by first | assumption | exact up_eq | exact (up_ne (by omega)).trans (by first | assumption | exact up_eq | exact (up_ne (by omega)).trans (by first | assumption | exact up_eq | exact (up_ne (by omega)).trans (by first | assumption | exact up_eq)))) (by omega) (Nat.le_of_ble_eq_true rfl) (Nat.le_of_ble_eq_true rfl) (fun y w2 h2 => ?_)
  obtain ⟨rfl, hX2, hF2⟩ := h2
  refine V_topi (e4) ?_
  refine V_bipush (q := 362) (v := (-4)) dL_law_360 rfl (by decide) ?_
  refine V_icmp_ne (q := 365) (tgt := 369) dL_law_362 (by decide) rfl (fun h9 => absurd rfl h9) (fun _ => ?_)
  refine V_iconst (q := 366) (v := nI 1) dL_law_365 rfl (by decide) ?_
  refine V_goto (tgt := 370) dL_law_366 (by decide) ?_
  exact V_lret dL_law_370 (Nat.le_of_ble_eq_true rfl) (Nat.le_of_ble_eq_true rfl)
/-- some turns: begun, added, joined, made, swapped -/
theorem law_F {A : Nat} {X1 : XT} : ∀ f k K X w, k + f = 4 → K + 1000 * f < 2 ^ 29 → LZ g w K X → xS X = xN X1 → xH X = 1 → VL g l bq 265 [some (.ref g.2.2.2.2.1), some (rf g 0), some (.int (nI A)), some (.int (nI 1)), some (.long (digX X1)), none, some (.int (nI (sC (xN X1)))), some (.int (nI k)), none] [] w := by
  intro f
  induction f with
  | zero =>
    intro k K X w hf hK hX h1 h2
    refine V_iload_n (q := 266) dL_law_265 rfl rfl ?_
    refine V_if_eq (q := 269) (tgt := 333) dL_law_266 (by decide) rfl (fun h9 => absurd h9 (by decide)) (fun _ => ?_)
    refine V_iload (q := 271) dL_law_269 rfl rfl ?_
    refine V_iconst (q := 272) (v := nI 4) dL_law_271 rfl (by decide) ?_
    refine V_icmpN_ge (q := 275) (tgt := 333) dL_law_272 (by decide) rfl (by omega) (by omega) (fun _ => ?_) (fun h9 => by first | exact h9.elim | (exfalso; omega))
    refine V_fg 7 (ls2 := [_, _, _, _, _, _, _, none, _]) (by rfl) ?_
    exact law_G hX h1 h2
  | succ f ih =>
    intro k K X w hf hK hX h1 h2
    have hob := hX.obj
    refine V_iload_n (q := 266) dL_law_265 rfl rfl ?_
    refine V_if_eq (q := 269) (tgt := 333) dL_law_266 (by decide) rfl (fun h9 => absurd h9 (by decide)) (fun _ => ?_)
    refine V_iload (q := 271) dL_law_269 rfl rfl ?_
    refine V_iconst (q := 272) (v := nI 4) dL_law_271 rfl (by decide) ?_
    refine V_icmpN_ge (q := 275) (tgt := 333) dL_law_272 (by decide) rfl (by omega) (by omega) (fun h9 => by first | exact h9.elim | exact absurd h9 (by assumption) | (exfalso; omega)) (fun _ => ?_)
    refine V_aload_n (q := 276) dL_law_275 rfl rfl rfl ?_
    refine V_iconst (q := 277) (v := nI 2) dL_law_276 rfl (by decide) ?_
    refine V_iload (q := 279) dL_law_277 rfl rfl ?_
    refine V_iadd (q := 280) dL_law_279 rfl (by first | exact nI_add _ _ | rfl) ?_
    refine CiL_41 (q := 283) rfl dL_law_280 rfl ((X_begin hX.1)) ⟨(Nat.le_of_ble_eq_true rfl), (Nat.le_of_ble_eq_true rfl)⟩ (Nat.le_of_ble_eq_true rfl) (by first | assumption | exact up_eq | exact (up_ne (by omega)).trans (by first | assumption | exact up_eq | exact (up_ne (by omega)).trans (by first | assumption | exact up_eq | exact (up_ne (by omega)).trans (by first | assumption | exact up_eq)))) (by omega) (Nat.le_of_ble_eq_true rfl) (Nat.le_of_ble_eq_true rfl) (fun y w1 p1 => ?_)
    have hX1 := hX.chg (beginA_ok hX.oks hX.okn) (beginA_9 hX.okn).1 p1
    have s1 := chg_S (X := X) (res := beginA (nI (2 + k)) (xN X))
    generalize chgX X (beginA (nI (2 + k)) (xN X)) = r1 at hX1 s1
    have hob1 := hX1.obj
    refine V_pop (q := 284) dL_law_283 rfl rfl ?_
    refine V_aload_n (q := 285) dL_law_284 rfl rfl rfl ?_
    refine V_sipush (q := 288) (v := nI 4413) dL_law_285 rfl (by decide) ?_
    refine V_bipush (q := 290) (v := nI 111) dL_law_288 rfl (by decide) ?_
    refine V_iload (q := 292) dL_law_290 rfl rfl ?_
    refine V_imul (q := 293) dL_law_292 rfl (by first | exact pk_mul _ _ | rfl) ?_
    refine V_iadd (q := 294) dL_law_293 rfl (by first | exact nI_add _ _ | rfl) ?_
    refine V_iconst (q := 295) (v := nI 4) dL_law_294 rfl (by decide) ?_
    refine CiL_24 (q := 298) rfl dL_law_295 rfl ((X_row hX1.1)) ⟨(Nat.le_of_ble_eq_true rfl), (Nat.le_of_ble_eq_true rfl)⟩ (Nat.le_of_ble_eq_true rfl) (by first | assumption | exact up_eq | exact (up_ne (by omega)).trans (by first | assumption | exact up_eq | exact (up_ne (by omega)).trans (by first | assumption | exact up_eq | exact (up_ne (by omega)).trans (by first | assumption | exact up_eq)))) (by omega) (Nat.le_of_ble_eq_true rfl) (Nat.le_of_ble_eq_true rfl) (fun y w2 p2 => ?_)
    have hX2 := hX1.chg (addA_ok hX1.oks hX1.okn) (addA_9 hX1.okn).1 p2
    have s2 := chg_S (X := r1.2) (res := addA (nI (4413 + 111 * k)) (nI 4) (xN r1.2))
    generalize chgX r1.2 (addA (nI (4413 + 111 * k)) (nI 4) (xN r1.2)) = r2 at hX2 s2
    have hob2 := hX2.obj
    refine V_pop (q := 299) dL_law_298 rfl rfl ?_
    refine V_aload_n (q := 300) dL_law_299 rfl rfl rfl ?_
    refine V_iload (q := 302) dL_law_300 rfl rfl ?_
    refine CiL_47 (q := 305) rfl dL_law_302 rfl ((X_join hX2.1 hX2.oks)) ⟨(Nat.le_of_ble_eq_true rfl), (Nat.le_of_ble_eq_true rfl)⟩ (Nat.le_of_ble_eq_true rfl) (by first | assumption | exact up_eq | exact (up_ne (by omega)).trans (by first | assumption | exact up_eq | exact (up_ne (by omega)).trans (by first | assumption | exact up_eq | exact (up_ne (by omega)).trans (by first | assumption | exact up_eq)))) (by omega) (Nat.le_of_ble_eq_true rfl) (Nat.le_of_ble_eq_true rfl) (fun y w3 p3 => ?_)
    have hX3 := hX2.chg (joinA_ok hX2.oks hX2.okn) (joinA_9 hX2.oks hX2.okn).1 p3
    have s3 := chg_S (X := r2.2) (res := joinA (nI k) (xN r2.2))
    generalize chgX r2.2 (joinA (nI k) (xN r2.2)) = r3 at hX3 s3
    have hob3 := hX3.obj
    refine V_pop (q := 306) dL_law_305 rfl rfl ?_
    refine V_aload_n (q := 307) dL_law_306 rfl rfl rfl ?_
    refine V_iload (q := 309) dL_law_307 rfl rfl ?_
    refine CiL_50 (q := 312) rfl dL_law_309 rfl ((X_once hX3.1 hX3.oks)) ⟨(Nat.le_of_ble_eq_true rfl), (Nat.le_of_ble_eq_true rfl)⟩ (Nat.le_of_ble_eq_true rfl) (by first | assumption | exact up_eq | exact (up_ne (by omega)).trans (by first | assumption | exact up_eq | exact (up_ne (by omega)).trans (by first | assumption | exact up_eq | exact (up_ne (by omega)).trans (by first | assumption | exact up_eq)))) (by omega) (Nat.le_of_ble_eq_true rfl) (Nat.le_of_ble_eq_true rfl) (fun y w4 p4 => ?_)
    have hX4 := hX3.chg (onceA_ok hX3.oks hX3.okn) (onceA_9 hX3.okn).1 p4
    have s4 := chg_S (X := r3.2) (res := onceA (nI k) (xN r3.2))
    generalize chgX r3.2 (onceA (nI k) (xN r3.2)) = r4 at hX4 s4
    have hob4 := hX4.obj
    refine V_pop (q := 313) dL_law_312 rfl rfl ?_
    refine V_aload_n (q := 314) dL_law_313 rfl rfl rfl ?_
    refine V_iload (q := 316) dL_law_314 rfl rfl ?_
    refine V_iconst (q := 317) (v := nI 0) dL_law_316 rfl (by decide) ?_
    refine V_iconst (q := 318) (v := nI 1) dL_law_317 rfl (by decide) ?_
    refine CiL_34 (q := 321) rfl dL_law_318 rfl ((X_swap hX4.1)) ⟨(Nat.le_of_ble_eq_true rfl), (Nat.le_of_ble_eq_true rfl)⟩ (Nat.le_of_ble_eq_true rfl) (by first | assumption | exact up_eq | exact (up_ne (by omega)).trans (by first | assumption | exact up_eq | exact (up_ne (by omega)).trans (by first | assumption | exact up_eq | exact (up_ne (by omega)).trans (by first | assumption | exact up_eq)))) (by omega) (Nat.le_of_ble_eq_true rfl) (Nat.le_of_ble_eq_true rfl) (fun y w5 p5 => ?_)
    have hX5 := hX4.chg (swapA_ok hX4.oks hX4.okn) (swapA_9 hX4.okn).1 p5
    have s5 := chg_S (X := r4.2) (res := swapA (nI k) (nI 0) (nI 1) (xN r4.2))
    generalize chgX r4.2 (swapA (nI k) (nI 0) (nI 1) (xN r4.2)) = r5 at hX5 s5
    have hob5 := hX5.obj
    refine V_pop (q := 322) dL_law_321 rfl rfl ?_
    refine V_aload_n (q := 323) dL_law_322 rfl rfl rfl ?_
    refine CiL_191 (q := 326) rfl dL_law_323 rfl ((c_isFit hX5.1 hX5.2.1.1 (by omega))) ⟨(Nat.le_of_ble_eq_true rfl), (Nat.le_of_ble_eq_true rfl)⟩ (Nat.le_of_ble_eq_true rfl) (Nat.le_of_ble_eq_true rfl) (Nat.le_of_ble_eq_true rfl) (fun y w6 p6 => ?_)
    obtain ⟨v, hX6, rfl⟩ := hX5.lin p6
    refine V_istore_n (q := 327) (ls' := [_, _, _, _, _, _, _, _, _]) dL_law_326 rfl (by decide) (by rfl) rfl ?_
    refine V_iinc (q := 330) (ls' := [_, _, _, _, _, _, _, _, _]) dL_law_327 rfl (by decide) (by rfl) rfl (by first | exact inc1 _ | rfl) rfl ?_
    refine V_goto (tgt := 265) dL_law_330 (by decide) ?_
    refine ih (k + 1) (K + 9 + 9 + 9 + 9 + 9) (setL r5.2 v) w6 (by omega) (by omega) hX6 ?_ ?_
    · show xS r5.2 = _
      rw [s5.1, s4.1, s3.1, s2.1, s1.1]
      exact h1
    · show xH r5.2 = _
      rw [s5.2, s4.2, s3.2, s2.2, s1.2]
      exact h2
/-- the twenty-six texts -/
theorem law_E {A : Nat} {X1 : XT} : ∀ f k K X w, k + f = 26 → K + 1000 * f < 2 ^ 28 → LZ g w K X → xN X = xN X1 → xS X = xN X1 → xH X = 1 → VL g l bq 183 [some (.ref g.2.2.2.2.1), some (rf g 0), some (.int (nI A)), some (.int (nI 1)), some (.long (digX X1)), none, some (.int (nI (sC (xN X1)))), some (.int (nI k)), none] [] w := by
  intro f
  induction f with
  | zero =>
    intro k K X w hf hK hX h0 h1 h2
    refine V_iload_n (q := 184) dL_law_183 rfl rfl ?_
    refine V_if_eq (q := 187) (tgt := 262) dL_law_184 (by decide) rfl (fun h9 => absurd h9 (by decide)) (fun _ => ?_)
    refine V_iload (q := 189) dL_law_187 rfl rfl ?_
    refine V_getTx (q := 192) dL_law_189 rfl wd_4 ?_
    refine V_txlen (q := 193) dL_law_192 rfl ?_
    refine V_icmpN_ge (q := 196) (tgt := 262) dL_law_193 (by decide) rfl (by omega) (by omega) (fun _ => ?_) (fun h9 => by first | exact h9.elim | (exfalso; omega))
    refine V_iconst (q := 263) (v := nI 0) dL_law_262 rfl (by decide) ?_
    refine V_istore (q := 265) (ls' := [_, _, _, _, _, _, _, _, _]) dL_law_263 rfl (by decide) (by rfl) rfl ?_
    exact law_F 4 0 K X w rfl (by omega) hX h1 h2
  | succ f ih =>
    intro k K X w hf hK hX h0 h1 h2
    have hk : k < 26 := by omega
    have hKK : K + 639 < 2 ^ 30 := Nat.lt_trans (Nat.lt_of_le_of_lt (Nat.add_le_add_left (show 639 ≤ 1000 * (f + 1) by omega) K) hK) (Nat.pow_lt_pow_right (by decide) (by decide))
    have hob := hX.obj
    obtain ⟨hXW, hI, hT⟩ := hX
    have hN := hXW.okn
    have hI1 : IX K (setT X (lenT.getD k 0, txc k)) := hI.same rfl rfl rfl rfl
    obtain ⟨r1, -⟩ := hI1.rea hN
    obtain ⟨t1, t2, t3⟩ := rea_tx hk hI hN
    have hT2 := rea_T (X := setT X (lenT.getD k 0, txc k))
    -- behind the checks of the answer
    have rest : ∀ X' w', LZ g w' (K + 639) X' → xN X' = xN X1 → xS X' = xN X1 → xH X' = 1 → ∀ z : Int32, VL g l bq 240 [some (.ref g.2.2.2.2.1), some (rf g 0), some (.int (nI A)), some (.int (nI 1)), some (.long (digX X1)), none, some (.int (nI (sC (xN X1)))), some (.int (nI k)), some (.int z)] [] w' := by
      intro X' w' hX' a0 a1 a2 z
      have hob' := hX'.obj
      refine V_aload_n (q := 241) dL_law_240 rfl rfl rfl ?_
      refine CrL_177 (q := 244) rfl dL_law_241 rfl (c_digest hX'.1 hX'.oks) ⟨(Nat.le_of_ble_eq_true rfl), (Nat.le_of_ble_eq_true rfl)⟩ (Nat.le_of_ble_eq_true rfl) (Nat.le_of_ble_eq_true rfl) (Nat.le_of_ble_eq_true rfl) ?_
      refine V_lload (q := 246) dL_law_244 rfl rfl ?_
      refine V_lcmp (q := 247) dL_law_246 rfl (lcmp0 (digX_same a0)) ?_
      refine V_if_ne (q := 250) (tgt := 254) dL_law_247 (by decide) rfl (fun h9 => absurd rfl h9) (fun _ => ?_)
      refine V_fg 8 (ls2 := [_, _, _, _, _, _, _, _, none]) (by rfl) ?_
      refine V_iconst (q := 251) (v := nI 1) dL_law_250 rfl (by decide) ?_
      refine V_goto (tgt := 255) dL_law_251 (by decide) ?_
      refine V_istore_n (q := 256) (ls' := [_, _, _, _, _, _, _, _, _]) dL_law_255 rfl (by decide) (by rfl) rfl ?_
      refine V_iinc (q := 259) (ls' := [_, _, _, _, _, _, _, _, _]) dL_law_256 rfl (by decide) (by rfl) rfl (by first | exact inc1 _ | rfl) rfl ?_
      refine V_goto (tgt := 183) dL_law_259 (by decide) ?_
      exact ih (k + 1) (K + 639) X' w' (by omega) (by omega) hX' a0 a1 a2
    refine V_iload_n (q := 184) dL_law_183 rfl rfl ?_
    refine V_if_eq (q := 187) (tgt := 262) dL_law_184 (by decide) rfl (fun h9 => absurd h9 (by decide)) (fun _ => ?_)
    refine V_iload (q := 189) dL_law_187 rfl rfl ?_
    refine V_getTx (q := 192) dL_law_189 rfl wd_4 ?_
    refine V_txlen (q := 193) dL_law_192 rfl ?_
    refine V_icmpN_ge (q := 196) (tgt := 262) dL_law_193 (by decide) rfl (by omega) (by omega) (fun h9 => by first | exact h9.elim | exact absurd h9 (by assumption) | (exfalso; omega)) (fun _ => ?_)
    refine V_aload_n (q := 197) dL_law_196 rfl rfl rfl ?_
    refine V_getTx (q := 200) dL_law_197 rfl wd_4 ?_
    refine V_iload (q := 202) dL_law_200 rfl rfl ?_
    refine V_txald (q := 203) dL_law_202 rfl (by omega) rfl ?_
    refine CoL_59 (q := 206) rfl dL_law_203 rfl ((c_write hk hXW hT)) ⟨(Nat.le_of_ble_eq_true rfl), (Nat.le_of_ble_eq_true rfl)⟩ (Nat.le_of_ble_eq_true rfl) (Nat.le_of_ble_eq_true rfl) (Nat.le_of_ble_eq_true rfl) (fun w1 p1 => ?_)
    obtain ⟨hX1, hF1⟩ := p1
    have hob1 := hX1.obj.1
    skip
    refine CiL_63 (q := 209) rfl dL_law_206 rfl ((X_read hX1 hI.1.1)) ⟨(Nat.le_of_ble_eq_true rfl), (Nat.le_of_ble_eq_true rfl)⟩ (Nat.le_of_ble_eq_true rfl) (by first | assumption | exact up_eq | exact (up_ne (by omega)).trans (by first | assumption | exact up_eq | exact (up_ne (by omega)).trans (by first | assumption | exact up_eq | exact (up_ne (by omega)).trans (by first | assumption | exact up_eq)))) (by omega) (Nat.le_of_ble_eq_true rfl) (Nat.le_of_ble_eq_true rfl) (fun y w2 p2 => ?_)
    obtain ⟨rfl, hX2, hF2⟩ := p2
    generalize reaA (setT X (lenT.getD k 0, txc k)) = r at *
    refine V_istore (q := 211) (ls' := [_, _, _, _, _, _, _, _, _]) dL_law_209 rfl (by decide) (by rfl) rfl ?_
    refine V_iload (q := 213) dL_law_211 rfl rfl ?_
    rcases t3 with ⟨n1, n2, n3⟩ | ⟨n1, n2⟩
    · skip
      refine V_if_ge (q := 216) (tgt := 226) dL_law_213 (by decide) rfl (fun h9 => absurd h9 (fun q => by rw [fa_le] at q; rw [fa_lt] at n1; have e0 : (0 : Int32).toInt = 0 := rfl; omega)) (fun _ => ?_)
      refine V_iload (q := 218) dL_law_216 rfl rfl ?_
      refine V_bipush (q := 220) (v := (-3)) dL_law_218 rfl (by decide) ?_
      refine V_icmp_lt (q := 223) (tgt := 254) dL_law_220 (by decide) rfl (fun h9 => absurd h9 n2) (fun _ => ?_)
      refine V_goto (tgt := 240) dL_law_223 (by decide) ?_
      exact rest r.2 w2 ⟨hX2, r1, hT2⟩ (n3.trans h0) (t1.trans h1) (t2.trans h2) _
    · have hob2 := hX2.obj.1
      have hp0 : (xP r.2).1 ≠ 0 := by
        rw [n2]
        show min ((xP X).1 + 1) 8 ≠ 0
        omega
      have hl8 : (xP r.2).1 ≤ 8 := by rw [n2]; exact Nat.min_le_right _ _
      refine V_if_ge (q := 216) (tgt := 226) dL_law_213 (by decide) rfl (fun _ => ?_) (fun h9 => absurd (by rw [fa_le]; rw [fa_lt] at n1; have e0 : (0 : Int32).toInt = 0 := rfl; omega) h9)
      refine V_aload_n (q := 227) dL_law_226 rfl rfl rfl ?_
      refine CiL_168 (q := 230) rfl dL_law_227 rfl ((c_isJuggler (K := K + 639) hX2 r1.1 hKK)) ⟨(Nat.le_of_ble_eq_true rfl), (Nat.le_of_ble_eq_true rfl)⟩ (Nat.le_of_ble_eq_true rfl) (Nat.le_of_ble_eq_true rfl) (Nat.le_of_ble_eq_true rfl) (fun y w3 p3 => ?_)
      obtain ⟨rfl, ⟨v, hX3⟩, hF3⟩ := p3
      have hob3 := hX3.obj.1
      refine V_if_eq (q := 233) (tgt := 254) dL_law_230 (by decide) rfl (fun h9 => absurd h9 (by decide)) (fun _ => ?_)
      refine V_aload_n (q := 234) dL_law_233 rfl rfl rfl ?_
      refine CiL_72 (q := 237) rfl dL_law_234 rfl ((X_undo hX3)) ⟨(Nat.le_of_ble_eq_true rfl), (Nat.le_of_ble_eq_true rfl)⟩ (Nat.le_of_ble_eq_true rfl) (by first | assumption | exact up_eq | exact (up_ne (by omega)).trans (by first | assumption | exact up_eq | exact (up_ne (by omega)).trans (by first | assumption | exact up_eq | exact (up_ne (by omega)).trans (by first | assumption | exact up_eq)))) (by omega) (Nat.le_of_ble_eq_true rfl) (Nat.le_of_ble_eq_true rfl) (fun y w4 p4 => ?_)
      obtain ⟨rfl, hX4, hF4⟩ := p4
      obtain ⟨u1, u2, -⟩ := und_facts (X := setL r.2 v) hp0
      have e1 : (undA (setL r.2 v)).1 = nI ((xP r.2).1 - 1) := u1
      have r3 : IX (K + 639) (setL r.2 v) := r1
      obtain ⟨r4, -⟩ := r3.und
      have e2 : xN (undA (setL r.2 v)).2 = xN X1 := by
        rw [u2]
        show (xP r.2).2 0 = _
        rw [n2]
        exact h0
      have e3 : xS (undA (setL r.2 v)).2 = xN X1 ∧ xH (undA (setL r.2 v)).2 = 1 := by
        unfold undA
        split <;> exact ⟨t1.trans h1, t2.trans h2⟩
      have e4 : (xT (undA (setL r.2 v)).2).1 = 0 := by rw [und_T]; exact hT2
      generalize undA (setL r.2 v) = r5 at *
      refine V_topi (e1) ?_
      refine V_ifN_lt (q := 240) (tgt := 254) dL_law_237 (by decide) rfl (by omega) (fun h9 => by first | exact h9.elim | exact absurd h9 (by assumption) | (exfalso; omega)) (fun _ => ?_)
      exact rest r5.2 w4 ⟨hX4, r4, e4⟩ e2 e3.1 e3.2 _
/-- the text that is left is read, the rows are saved -/
theorem law_D {A K : Nat} {X : XT} {w : HW} (hX : LZ g w K X) (hK : K + 50000 < 2 ^ 28) : VL g l bq 163 [some (.ref g.2.2.2.2.1), some (rf g 0), some (.int (nI A)), some (.int (nI 1)), none, none, none, none, none] [] w := by
  obtain ⟨hXW, hI, hT⟩ := hX
  have hob := hXW.obj.1
  obtain ⟨r1, -⟩ := hI.rea hXW.okn
  have hT2 := rea_T (X := X)
  refine V_aload_n (q := 164) dL_law_163 rfl rfl rfl ?_
  refine CiL_63 (q := 167) rfl dL_law_164 rfl ((X_read hXW hI.1.1)) ⟨(Nat.le_of_ble_eq_true rfl), (Nat.le_of_ble_eq_true rfl)⟩ (Nat.le_of_ble_eq_true rfl) (by first | assumption | exact up_eq | exact (up_ne (by omega)).trans (by first | assumption | exact up_eq | exact (up_ne (by omega)).trans (by first | assumption | exact up_eq | exact (up_ne (by omega)).trans (by first | assumption | exact up_eq)))) (by omega) (Nat.le_of_ble_eq_true rfl) (Nat.le_of_ble_eq_true rfl) (fun y w1 p1 => ?_)
  obtain ⟨rfl, hX1, hF1⟩ := p1
  have hob1 := hX1.obj.1
  generalize reaA X = r at *
  refine V_pop (q := 168) dL_law_167 rfl rfl ?_
  refine V_aload_n (q := 169) dL_law_168 rfl rfl rfl ?_
  refine CrL_177 (q := 172) rfl dL_law_169 rfl (c_digest hX1 r1.1.1) ⟨(Nat.le_of_ble_eq_true rfl), (Nat.le_of_ble_eq_true rfl)⟩ (Nat.le_of_ble_eq_true rfl) (Nat.le_of_ble_eq_true rfl) (Nat.le_of_ble_eq_true rfl) ?_
  refine V_lstore (q := 174) (ls' := [_, _, _, _, _, _, _, _, _]) dL_law_172 rfl (by decide) (by rfl) rfl ?_
  refine V_aload_n (q := 175) dL_law_174 rfl rfl rfl ?_
  refine CiL_66 (q := 178) rfl dL_law_175 rfl ((X_save hX1)) ⟨(Nat.le_of_ble_eq_true rfl), (Nat.le_of_ble_eq_true rfl)⟩ (Nat.le_of_ble_eq_true rfl) (by first | assumption | exact up_eq | exact (up_ne (by omega)).trans (by first | assumption | exact up_eq | exact (up_ne (by omega)).trans (by first | assumption | exact up_eq | exact (up_ne (by omega)).trans (by first | assumption | exact up_eq)))) (by omega) (Nat.le_of_ble_eq_true rfl) (Nat.le_of_ble_eq_true rfl) (fun y w2 p2 => ?_)
  obtain ⟨rfl, hX2, hF2⟩ := p2
  refine V_istore (q := 180) (ls' := [_, _, _, _, _, _, _, _, _]) dL_law_178 rfl (by decide) (by rfl) rfl ?_
  refine V_iconst (q := 181) (v := nI 0) dL_law_180 rfl (by decide) ?_
  refine V_istore (q := 183) (ls' := [_, _, _, _, _, _, _, _, _]) dL_law_181 rfl (by decide) (by rfl) rfl ?_
  exact law_E (X1 := r.2) 26 0 (K + 639) (savA r.2).2 w2 rfl (by omega) ⟨hX2, r1.sav, hT2⟩ rfl rfl rfl
/-- each row is joined, made, undone, turned all around -/
theorem law_C {A : Nat} : ∀ f r K X w, r + f = 7 → K + 1000 * f + 50000 < 2 ^ 28 → LZ g w K X → VL g l bq 136 [some (.ref g.2.2.2.2.1), some (rf g 0), some (.int (nI A)), some (.int (nI 1)), some (.int (nI r)), none, none, none, none] [] w := by
  intro f
  induction f with
  | zero =>
    intro r K X w hf hK hX
    have hob := hX.obj
    have h6 := hX.okn.1
    refine V_iload_n (q := 137) dL_law_136 rfl rfl ?_
    refine V_if_eq (q := 140) (tgt := 163) dL_law_137 (by decide) rfl (fun h9 => absurd h9 (by decide)) (fun _ => ?_)
    refine V_iload (q := 142) dL_law_140 rfl rfl ?_
    refine V_aload_n (q := 143) dL_law_142 rfl rfl rfl ?_
    refine V_iconst (q := 144) (v := nI 0) dL_law_143 rfl (by decide) ?_
    refine CrL_79 (q := 147) rfl dL_law_144 rfl (X_account hX.1) ⟨(Nat.le_of_ble_eq_true rfl), (Nat.le_of_ble_eq_true rfl)⟩ (Nat.le_of_ble_eq_true rfl) (by first | assumption | exact up_eq | exact (up_ne (by omega)).trans (by first | assumption | exact up_eq | exact (up_ne (by omega)).trans (by first | assumption | exact up_eq | exact (up_ne (by omega)).trans (by first | assumption | exact up_eq)))) (by omega) (Nat.le_of_ble_eq_true rfl) (Nat.le_of_ble_eq_true rfl) ?_
    refine V_topi ((accA_at (by decide))) ?_
    refine V_topi ((show accW X 0 = nI (sC (xN X)) from rfl)) ?_
    refine V_icmpN_ge (q := 150) (tgt := 163) dL_law_147 (by decide) rfl (by omega) (by omega) (fun _ => ?_) (fun h9 => by first | exact h9.elim | (exfalso; omega))
    refine V_fg 4 (ls2 := [_, _, _, _, none, _, _, _, _]) (by rfl) ?_
    exact law_D hX (by omega)
  | succ f ih =>
    intro r K X w hf hK hX
    have hob := hX.obj
    have h6 := hX.okn.1
    refine V_iload_n (q := 137) dL_law_136 rfl rfl ?_
    refine V_if_eq (q := 140) (tgt := 163) dL_law_137 (by decide) rfl (fun h9 => absurd h9 (by decide)) (fun _ => ?_)
    refine V_iload (q := 142) dL_law_140 rfl rfl ?_
    refine V_aload_n (q := 143) dL_law_142 rfl rfl rfl ?_
    refine V_iconst (q := 144) (v := nI 0) dL_law_143 rfl (by decide) ?_
    refine CrL_79 (q := 147) rfl dL_law_144 rfl (X_account hX.1) ⟨(Nat.le_of_ble_eq_true rfl), (Nat.le_of_ble_eq_true rfl)⟩ (Nat.le_of_ble_eq_true rfl) (by first | assumption | exact up_eq | exact (up_ne (by omega)).trans (by first | assumption | exact up_eq | exact (up_ne (by omega)).trans (by first | assumption | exact up_eq | exact (up_ne (by omega)).trans (by first | assumption | exact up_eq)))) (by omega) (Nat.le_of_ble_eq_true rfl) (Nat.le_of_ble_eq_true rfl) ?_
    refine V_topi ((accA_at (by decide))) ?_
    refine V_topi ((show accW X 0 = nI (sC (xN X)) from rfl)) ?_
    refine V_icmpN_ge (q := 150) (tgt := 163) dL_law_147 (by decide) rfl (by omega) (by omega) (fun hr => ?_) (fun hr => ?_)
    · skip
      refine V_fg 4 (ls2 := [_, _, _, _, none, _, _, _, _]) (by rfl) ?_
      exact law_D hX (by omega)
    · skip
      refine V_aload_n (q := 151) dL_law_150 rfl rfl rfl ?_
      refine V_iload (q := 153) dL_law_151 rfl rfl ?_
      refine CiL_194 (q := 156) rfl dL_law_153 rfl ((c_isMade hX.1 hX.2.1 hX.2.2 (by omega) hr)) ⟨(Nat.le_of_ble_eq_true rfl), (Nat.le_of_ble_eq_true rfl)⟩ (Nat.le_of_ble_eq_true rfl) (Nat.le_of_ble_eq_true rfl) (Nat.le_of_ble_eq_true rfl) (fun y w1 p1 => ?_)
      obtain ⟨rfl, X', hX1, hF1, hI1, hT1⟩ := p1
      refine V_istore_n (q := 157) (ls' := [_, _, _, _, _, _, _, _, _]) dL_law_156 rfl (by decide) (by rfl) rfl ?_
      refine V_iinc (q := 160) (ls' := [_, _, _, _, _, _, _, _, _]) dL_law_157 rfl (by decide) (by rfl) rfl (by first | exact inc1 _ | rfl) rfl ?_
      refine V_goto (tgt := 136) dL_law_160 (by decide) ?_
      exact ih (r + 1) (K + 100) X' w1 (by omega) (by omega) ⟨hX1, hI1, hT1⟩
/-- the calls that the script chooses -/
theorem law_A {A : Nat} (hA : A ≤ 40) (hAL : A ≤ g.2.2.2.2.2.1) (hL : g.2.2.2.2.2.1 < 2 ^ 31) : ∀ f i K X w, i + f = A → K + 1000 * f + 100000 < 2 ^ 28 → LZ g w K X → VL g l bq 63 [some (.ref g.2.2.2.2.1), some (rf g 0), some (.int (nI A)), some (.int (nI i)), none, none, none, none, none] [] w := by
  intro f
  induction f with
  | zero =>
    intro i K X w hf hK hX
    have hob := hX.obj
    refine V_iload_n (q := 64) dL_law_63 rfl rfl ?_
    refine V_iload_n (q := 65) dL_law_64 rfl rfl ?_
    refine V_icmpN_ge (q := 68) (tgt := 128) dL_law_65 (by decide) rfl (by omega) (by omega) (fun _ => ?_) (fun h9 => by first | exact h9.elim | (exfalso; omega))
    refine V_aload_n (q := 129) dL_law_128 rfl rfl rfl ?_
    refine CiL_191 (q := 132) rfl dL_law_129 rfl ((c_isFit hX.1 hX.2.1.1 (by omega))) ⟨(Nat.le_of_ble_eq_true rfl), (Nat.le_of_ble_eq_true rfl)⟩ (Nat.le_of_ble_eq_true rfl) (Nat.le_of_ble_eq_true rfl) (Nat.le_of_ble_eq_true rfl) (fun y w1 p1 => ?_)
    obtain ⟨v, hX1, rfl⟩ := hX.lin p1
    refine V_istore_n (q := 133) (ls' := [_, _, _, _, _, _, _, _, _]) dL_law_132 rfl (by decide) (by rfl) rfl ?_
    refine V_iconst (q := 134) (v := nI 0) dL_law_133 rfl (by decide) ?_
    refine V_istore (q := 136) (ls' := [_, _, _, _, _, _, _, _, _]) dL_law_134 rfl (by decide) (by rfl) rfl ?_
    exact law_C 7 0 K (setL X v) w1 rfl (by omega) hX1
  | succ f ih =>
    intro i K X w hf hK hX
    have hob := hX.obj
    have next : ∀ X' w' z, LZ g w' (K + 639) X' → VL g l bq 122 [some (.ref g.2.2.2.2.1), some (rf g 0), some (.int (nI A)), some (.int (nI i)), some (.long z), none, none, none, none] [] w' := by
      intro X' w' z hX'
      refine V_fg 4 (ls2 := [_, _, _, _, none, _, _, _, _]) (by rfl) ?_
      refine V_iinc (q := 125) (ls' := [_, _, _, _, _, _, _, _, _]) dL_law_122 rfl (by decide) (by rfl) rfl (by first | exact inc1 _ | rfl) rfl ?_
      refine V_goto (tgt := 63) dL_law_125 (by decide) ?_
      exact ih (i + 1) (K + 639) X' w' (by omega) (by omega) hX'
    refine V_iload_n (q := 64) dL_law_63 rfl rfl ?_
    refine V_iload_n (q := 65) dL_law_64 rfl rfl ?_
    refine V_icmpN_ge (q := 68) (tgt := 128) dL_law_65 (by decide) rfl (by omega) (by omega) (fun h9 => by first | exact h9.elim | exact absurd h9 (by assumption) | (exfalso; omega)) (fun _ => ?_)
    refine V_aload_n (q := 69) dL_law_68 rfl rfl rfl ?_
    refine CrL_177 (q := 72) rfl dL_law_69 rfl (c_digest hX.1 hX.oks) ⟨(Nat.le_of_ble_eq_true rfl), (Nat.le_of_ble_eq_true rfl)⟩ (Nat.le_of_ble_eq_true rfl) (Nat.le_of_ble_eq_true rfl) (Nat.le_of_ble_eq_true rfl) ?_
    refine V_lstore (q := 74) (ls' := [_, _, _, _, _, _, _, _, _]) dL_law_72 rfl (by decide) (by rfl) rfl ?_
    refine V_aload_n (q := 75) dL_law_74 rfl rfl rfl ?_
    refine V_aload_n (q := 76) dL_law_75 rfl rfl rfl ?_
    refine V_iload_n (q := 77) dL_law_76 rfl rfl ?_
    refine CrL_183 (q := 80) rfl dL_law_77 rfl (c_cell (show i < g.2.2.2.2.2.1 by omega) hL (by omega)) ⟨(Nat.le_of_ble_eq_true rfl), (Nat.le_of_ble_eq_true rfl)⟩ (Nat.le_of_ble_eq_true rfl) (Nat.le_of_ble_eq_true rfl) (Nat.le_of_ble_eq_true rfl) ?_
    refine CiL_187 (q := 83) rfl dL_law_80 rfl ((c_act hX.1 hX.2.1 hX.2.2)) ⟨(Nat.le_of_ble_eq_true rfl), (Nat.le_of_ble_eq_true rfl)⟩ (Nat.le_of_ble_eq_true rfl) (Nat.le_of_ble_eq_true rfl) (Nat.le_of_ble_eq_true rfl) (fun y w1 p1 => ?_)
    obtain ⟨X', hX1, hF1, hI1, hT1, hneg⟩ := p1
    have hob1 := hX1.obj.1
    refine V_if_ge (q := 86) (tgt := 122) dL_law_83 (by decide) rfl (fun hy => ?_) (fun hy => ?_)
    · skip
      exact next X' w1 _ ⟨hX1, hI1, hT1⟩
    · skip
      have hy2 : y < 0 := by
        rw [fa_le] at hy
        rw [fa_lt]
        omega
      refine V_aload_n (q := 87) dL_law_86 rfl rfl rfl ?_
      refine CrL_177 (q := 90) rfl dL_law_87 rfl (c_digest hX1 hI1.1.1) ⟨(Nat.le_of_ble_eq_true rfl), (Nat.le_of_ble_eq_true rfl)⟩ (Nat.le_of_ble_eq_true rfl) (Nat.le_of_ble_eq_true rfl) (Nat.le_of_ble_eq_true rfl) ?_
      rcases hneg hy2 with e | e
      · skip
        refine V_lload (q := 92) dL_law_90 rfl rfl ?_
        refine V_lcmp (q := 93) dL_law_92 rfl (lcmp0 (digX_same e)) ?_
        refine V_if_eq (q := 96) (tgt := 122) dL_law_93 (by decide) rfl (fun _ => ?_) (fun h9 => absurd rfl h9)
        exact next X' w1 _ ⟨hX1, hI1, hT1⟩
      · skip
        refine V_lload (q := 92) dL_law_90 rfl rfl ?_
        refine V_lcmp (q := 93) dL_law_92 rfl rfl ?_
        refine V_if_eq (q := 96) (tgt := 122) dL_law_93 (by decide) rfl (fun hz => ?_) (fun hz => ?_)
        · skip
          exact next X' w1 _ ⟨hX1, hI1, hT1⟩
        · skip
          refine V_aload_n (q := 97) dL_law_96 rfl rfl rfl ?_
          refine V_iload_n (q := 98) dL_law_97 rfl rfl ?_
          refine CrL_183 (q := 101) rfl dL_law_98 rfl (c_cell (show i < g.2.2.2.2.2.1 by omega) hL (by omega)) ⟨(Nat.le_of_ble_eq_true rfl), (Nat.le_of_ble_eq_true rfl)⟩ (Nat.le_of_ble_eq_true rfl) (Nat.le_of_ble_eq_true rfl) (Nat.le_of_ble_eq_true rfl) ?_
          refine V_bipush (q := 103) (v := nI 15) dL_law_101 rfl (by decide) ?_
          refine V_iand (q := 104) dL_law_103 rfl e ?_
          refine V_iconst (q := 105) (v := nI 5) dL_law_104 rfl (by decide) ?_
          refine V_icmp_ne (q := 108) (tgt := 112) dL_law_105 (by decide) rfl (fun h9 => absurd rfl h9) (fun _ => ?_)
          refine V_iconst (q := 109) (v := nI 1) dL_law_108 rfl (by decide) ?_
          refine V_goto (tgt := 113) dL_law_109 (by decide) ?_
          refine V_istore (q := 115) (ls' := [_, _, _, _, _, _, _, _, _]) dL_law_113 rfl (by decide) (by rfl) rfl ?_
          refine V_iload (q := 117) dL_law_115 rfl rfl ?_
          refine V_if_ne (q := 120) (tgt := 122) dL_law_117 (by decide) rfl (fun _ => ?_) (fun h9 => absurd h9 (by decide))
          refine V_fg 6 (ls2 := [_, _, _, _, _, _, none, _, _]) (by rfl) ?_
          exact next X' w1 _ ⟨hX1, hI1, hT1⟩
theorem law_main {L : Nat} {w : HW} (hL : g.2.2.2.2.2.1 = L) (hL2 : L ≤ 260) : V g l Mlaw room_1 (FinL bq) 0 [some (.ref g.2.2.2.2.1), none, none, none, none, none, none, none, none] [] w 0 0 0 := by
  refine NL_19 (q := 3) rfl dL_law_0 rfl (Nat.le_of_ble_eq_true rfl) (Nat.le_of_ble_eq_true rfl) ?_
  refine V_dup (q := 4) dL_law_3 rfl rfl ?_
  refine IL_181 (q := 7) rfl dL_law_4 rfl (c_xInit up_eq) ⟨(Nat.le_of_ble_eq_true rfl), (Nat.le_of_ble_eq_true rfl)⟩ (Nat.le_of_ble_eq_true rfl) (Nat.le_of_ble_eq_true rfl) (Nat.le_of_ble_eq_true rfl) (fun w1 hw1 => ?_)
  obtain ⟨hX, hF⟩ := hw1
  have hX1 : LZ g w1 0 X0e := ⟨hX, IX0, rfl⟩
  have hob1 := hX1.obj
  refine V_astore_n (q := 8) (ls' := [_, _, _, _, _, _, _, _, _]) dL_law_7 rfl (by decide) (by rfl) rfl rfl ?_
  refine V_aload_n (q := 9) dL_law_8 rfl rfl rfl ?_
  refine V_iconst (q := 10) (v := nI 3) dL_law_9 rfl (by decide) ?_
  refine CiL_41 (q := 13) rfl dL_law_10 rfl ((X_begin hX1.1)) ⟨(Nat.le_of_ble_eq_true rfl), (Nat.le_of_ble_eq_true rfl)⟩ (Nat.le_of_ble_eq_true rfl) (by first | assumption | exact up_eq | exact (up_ne (by omega)).trans (by first | assumption | exact up_eq | exact (up_ne (by omega)).trans (by first | assumption | exact up_eq | exact (up_ne (by omega)).trans (by first | assumption | exact up_eq)))) (by omega) (Nat.le_of_ble_eq_true rfl) (Nat.le_of_ble_eq_true rfl) (fun y w2 p2 => ?_)
  have hX2 := hX1.chg (beginA_ok hX1.oks hX1.okn) (beginA_9 hX1.okn).1 p2
  generalize chgX X0e (beginA (nI 3) (xN X0e)) = r2 at hX2
  have hob2 := hX2.obj
  refine V_pop (q := 14) dL_law_13 rfl rfl ?_
  refine V_aload_n (q := 15) dL_law_14 rfl rfl rfl ?_
  refine V_sipush (q := 18) (v := nI 531) dL_law_15 rfl (by decide) ?_
  refine V_iconst (q := 19) (v := nI 3) dL_law_18 rfl (by decide) ?_
  refine CiL_24 (q := 22) rfl dL_law_19 rfl ((X_row hX2.1)) ⟨(Nat.le_of_ble_eq_true rfl), (Nat.le_of_ble_eq_true rfl)⟩ (Nat.le_of_ble_eq_true rfl) (by first | assumption | exact up_eq | exact (up_ne (by omega)).trans (by first | assumption | exact up_eq | exact (up_ne (by omega)).trans (by first | assumption | exact up_eq | exact (up_ne (by omega)).trans (by first | assumption | exact up_eq)))) (by omega) (Nat.le_of_ble_eq_true rfl) (Nat.le_of_ble_eq_true rfl) (fun y w3 p3 => ?_)
  have hX3 := hX2.chg (addA_ok hX2.oks hX2.okn) (addA_9 hX2.okn).1 p3
  generalize chgX r2.2 (addA (nI 531) (nI 3) (xN r2.2)) = r3 at hX3
  have hob3 := hX3.obj
  refine V_pop (q := 23) dL_law_22 rfl rfl ?_
  refine V_aload_n (q := 24) dL_law_23 rfl rfl rfl ?_
  refine V_iconst (q := 25) (v := nI 3) dL_law_24 rfl (by decide) ?_
  refine V_iconst (q := 26) (v := nI 1) dL_law_25 rfl (by decide) ?_
  refine CiL_24 (q := 29) rfl dL_law_26 rfl ((X_row hX3.1)) ⟨(Nat.le_of_ble_eq_true rfl), (Nat.le_of_ble_eq_true rfl)⟩ (Nat.le_of_ble_eq_true rfl) (by first | assumption | exact up_eq | exact (up_ne (by omega)).trans (by first | assumption | exact up_eq | exact (up_ne (by omega)).trans (by first | assumption | exact up_eq | exact (up_ne (by omega)).trans (by first | assumption | exact up_eq)))) (by omega) (Nat.le_of_ble_eq_true rfl) (Nat.le_of_ble_eq_true rfl) (fun y w4 p4 => ?_)
  have hX4 := hX3.chg (addA_ok hX3.oks hX3.okn) (addA_9 hX3.okn).1 p4
  generalize chgX r3.2 (addA (nI 3) (nI 1) (xN r3.2)) = r4 at hX4
  have hob4 := hX4.obj
  refine V_pop (q := 30) dL_law_29 rfl rfl ?_
  refine V_aload_n (q := 31) dL_law_30 rfl rfl rfl ?_
  refine V_ldc (q := 33) (v := nI 97531) dL_law_31 rfl wd_3 ?_
  refine V_iconst (q := 34) (v := nI 5) dL_law_33 rfl (by decide) ?_
  refine CiL_24 (q := 37) rfl dL_law_34 rfl ((X_row hX4.1)) ⟨(Nat.le_of_ble_eq_true rfl), (Nat.le_of_ble_eq_true rfl)⟩ (Nat.le_of_ble_eq_true rfl) (by first | assumption | exact up_eq | exact (up_ne (by omega)).trans (by first | assumption | exact up_eq | exact (up_ne (by omega)).trans (by first | assumption | exact up_eq | exact (up_ne (by omega)).trans (by first | assumption | exact up_eq)))) (by omega) (Nat.le_of_ble_eq_true rfl) (Nat.le_of_ble_eq_true rfl) (fun y w5 p5 => ?_)
  have hX5 := hX4.chg (addA_ok hX4.oks hX4.okn) (addA_9 hX4.okn).1 p5
  generalize chgX r4.2 (addA (nI 97531) (nI 5) (xN r4.2)) = r5 at hX5
  have hob5 := hX5.obj
  refine V_pop (q := 38) dL_law_37 rfl rfl ?_
  refine V_aload_n (q := 39) dL_law_38 rfl rfl rfl ?_
  refine V_bipush (q := 41) (v := nI 51) dL_law_39 rfl (by decide) ?_
  refine V_iconst (q := 42) (v := nI 2) dL_law_41 rfl (by decide) ?_
  refine CiL_24 (q := 45) rfl dL_law_42 rfl ((X_row hX5.1)) ⟨(Nat.le_of_ble_eq_true rfl), (Nat.le_of_ble_eq_true rfl)⟩ (Nat.le_of_ble_eq_true rfl) (by first | assumption | exact up_eq | exact (up_ne (by omega)).trans (by first | assumption | exact up_eq | exact (up_ne (by omega)).trans (by first | assumption | exact up_eq | exact (up_ne (by omega)).trans (by first | assumption | exact up_eq)))) (by omega) (Nat.le_of_ble_eq_true rfl) (Nat.le_of_ble_eq_true rfl) (fun y w6 p6 => ?_)
  have hX6 := hX5.chg (addA_ok hX5.oks hX5.okn) (addA_9 hX5.okn).1 p6
  generalize chgX r5.2 (addA (nI 51) (nI 2) (xN r5.2)) = r6 at hX6
  have hg : g.2.2.2.2.2.1 < 2 ^ 31 := by omega
  refine V_pop (q := 46) dL_law_45 rfl rfl ?_
  refine V_aload_n (q := 47) dL_law_46 rfl rfl rfl ?_
  refine V_slen (q := 48) dL_law_47 rfl ?_
  refine V_bipush (q := 50) (v := nI 40) dL_law_48 rfl (by decide) ?_
  refine V_icmpN_ge (q := 53) (tgt := 58) dL_law_50 (by decide) rfl (by omega) (by omega) (fun h40 => ?_) (fun h40 => ?_)
  · skip
    refine V_bipush (q := 60) (v := nI 40) dL_law_58 rfl (by decide) ?_
    refine V_istore_n (q := 61) (ls' := [_, _, _, _, _, _, _, _, _]) dL_law_60 rfl (by decide) (by rfl) rfl ?_
    refine V_iconst (q := 62) (v := nI 0) dL_law_61 rfl (by decide) ?_
    refine V_istore_n (q := 63) (ls' := [_, _, _, _, _, _, _, _, _]) dL_law_62 rfl (by decide) (by rfl) rfl ?_
    exact law_A (A := 40) (by omega) (by omega) hg 40 0 _ _ w6 rfl (by omega) hX6
  · skip
    refine V_aload_n (q := 54) dL_law_53 rfl rfl rfl ?_
    refine V_slen (q := 55) dL_law_54 rfl ?_
    refine V_goto (tgt := 60) dL_law_55 (by decide) ?_
    refine V_istore_n (q := 61) (ls' := [_, _, _, _, _, _, _, _, _]) dL_law_60 rfl (by decide) (by rfl) rfl ?_
    refine V_iconst (q := 62) (v := nI 0) dL_law_61 rfl (by decide) ?_
    refine V_istore_n (q := 63) (ls' := [_, _, _, _, _, _, _, _, _]) dL_law_62 rfl (by decide) (by rfl) rfl ?_
    exact law_A (A := g.2.2.2.2.2.1) (by omega) (Nat.le_refl _) hg _ 0 _ _ w6 (Nat.zero_add _) (by omega) hX6
end LAW
