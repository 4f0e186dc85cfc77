/-! the law's isMade -/
/-- two stands that show the same -/
def VEq (N N' : StT) : Prop := sC N = sC N' ∧ (∀ r, r < sC N → (sR N r).1 = (sR N' r).1 ∧ ∀ k, k < (sR N r).1 → (sR N r).2 k = (sR N' r).2 k) ∧ sS N = sS N' ∧ sB N = sB N' ∧ sT N = sT N' ∧ sU N = sU N' ∧ sH N = sH N' ∧ sJ N = sJ N' ∧ sG N = sG N'
theorem VEq.rf (N : StT) : VEq N N := ⟨rfl, fun _ _ => ⟨rfl, fun _ _ => rfl⟩, rfl, rfl, rfl, rfl, rfl, rfl, rfl⟩
theorem dgF_cong {f f' : Nat → Int32} {h : Int64} : ∀ {k : Nat}, (∀ i, i < k → f i = f' i) → dgF f k h = dgF f' k h
  | 0, _ => rfl
  | k + 1, e => by
    show 31 * dgF f k h + (f k).toInt64 = 31 * dgF f' k h + (f' k).toInt64
    rw [dgF_cong (fun i hi => e i (by omega)), e k (by omega)]
theorem clN_cong {h h' : Nat → Nat} {L : Nat} (e : ∀ k, k < L → h k = h' k) (hc : clN h L = L) : clN h' L = L := by
  refine clN_none (fun k hk => ?_)
  rintro ⟨j, j1, j2, j3⟩
  refine clN_inj hc k j j2 j1 ?_
  unfold landN at j3 ⊢
  rw [e k hk, e j j1]
  exact j3
theorem sumN_cong {h h' : Nat → Nat} : ∀ {L : Nat}, (∀ k, k < L → h k = h' k) → sumN h L = sumN h' L
  | 0, _ => rfl
  | L + 1, e => by
    show sumN h L + h L = sumN h' L + h' L
    rw [sumN_cong (fun k hk => e k (by omega)), e L (by omega)]
theorem VEq.sums {N N' : StT} (h : VEq N N') : ∀ c, c ≤ sC N → cleanS N c = cleanS N' c ∧ ballsS N c = ballsS N' c ∧ lenS N c = lenS N' c
  | 0, _ => ⟨rfl, rfl, rfl⟩
  | c + 1, hc => by
    obtain ⟨i1, i2, i3⟩ := VEq.sums h c (by omega)
    obtain ⟨e1, e2⟩ := h.2.1 c (by omega)
    have es := sumN_cong e2
    have ec : (clN (sR N c).2 (sR N c).1 = (sR N c).1) ↔ (clN (sR N' c).2 (sR N' c).1 = (sR N' c).1) := by
      rw [← e1]
      exact ⟨fun q => clN_cong e2 q, fun q => clN_cong (fun k hk => (e2 k hk).symm) q⟩
    refine ⟨?_, ?_, ?_⟩
    · show cleanS N c + (if clN (sR N c).2 (sR N c).1 = (sR N c).1 then 1 else 0) = cleanS N' c + (if clN (sR N' c).2 (sR N' c).1 = (sR N' c).1 then 1 else 0)
      rw [i1]
      by_cases q : clN (sR N c).2 (sR N c).1 = (sR N c).1
      · rw [if_pos q, if_pos (ec.mp q)]
      · rw [if_neg q, if_neg (fun z => q (ec.mpr z))]
    · show ballsS N c + (if clN (sR N c).2 (sR N c).1 = (sR N c).1 then sumN (sR N c).2 (sR N c).1 / (sR N c).1 else 0) = ballsS N' c + (if clN (sR N' c).2 (sR N' c).1 = (sR N' c).1 then sumN (sR N' c).2 (sR N' c).1 / (sR N' c).1 else 0)
      rw [i2]
      by_cases q : clN (sR N c).2 (sR N c).1 = (sR N c).1
      · rw [if_pos q, if_pos (ec.mp q), es, e1]
      · rw [if_neg q, if_neg (fun z => q (ec.mpr z))]
    · show lenS N c + (sR N c).1 = lenS N' c + (sR N' c).1
      rw [i3, e1]
theorem dgR_cong {N N' : StT} {h : Int64} : ∀ {c : Nat}, (∀ r, r < c → (sR N r).1 = (sR N' r).1 ∧ ∀ k, k < (sR N r).1 → (sR N r).2 k = (sR N' r).2 k) → dgR N c h = dgR N' c h
  | 0, _ => rfl
  | c + 1, e => by
    obtain ⟨e1, e2⟩ := e c (by omega)
    show dgF (fun b => nI ((sR N c).2 b)) (sR N c).1 (dgR N c h) = dgF (fun b => nI ((sR N' c).2 b)) (sR N' c).1 (dgR N' c h)
    rw [dgR_cong (c := c) (fun r hr => e r (by omega)), ← e1]
    exact dgF_cong (fun k hk => congrArg nI (e2 k hk))
theorem digX_cong {X X' : XT} (h : VEq (xN X) (xN X')) : digX X = digX X' := by
  obtain ⟨s1, s2, s3⟩ := h.sums _ (Nat.le_refl _)
  obtain ⟨h1, h2, h3, h4, h5, h6, h7, h8, h9⟩ := h
  unfold digX
  have ea : dgF (accW X) 9 7 = dgF (accW X') 9 7 := dgF_cong (fun k hk => by
    unfold accW
    rw [← h1, s1, s2, s3, h5, h6, h7, h8, h9]
    repeat' split
    all_goals first | rfl | omega)
  have ej : dgF (jugW (xN X)) 3 (dgF (accW X') 9 7) = dgF (jugW (xN X')) 3 (dgF (accW X') 9 7) := dgF_cong (fun k hk => by
    unfold jugW
    rw [h3, h4])
  rw [ea, ej, ← h1]
  exact dgR_cong h2
theorem digX_same {X X' : XT} (h : xN X' = xN X) : digX X' = digX X := digX_cong (by rw [h]; exact VEq.rf _)
theorem lcmp0 {x y : Int64} (h : x = y) : lg_cmp x y = 0 := by subst h; simp [lg_cmp]
/-- a change that succeeds -/
theorem chg_facts {X : XT} {res : OpR} (h : ¬ isErr res.1) : (chgX X res).1 = res.1 ∧ xN (chgX X res).2 = res.2.1 ∧ xP (chgX X res).2 = (min ((xP X).1 + 1) 8, conS (xN X) (xP X).2) := by
  unfold chgX
  rw [if_neg h]
  exact ⟨rfl, rfl, rfl⟩
theorem und_facts {X : XT} (h : (xP X).1 ≠ 0) : (undA X).1 = nI ((xP X).1 - 1) ∧ xN (undA X).2 = (xP X).2 0 ∧ xP (undA X).2 = ((xP X).1 - 1, fun i => (xP X).2 (i + 1)) := by
  unfold undA
  rw [if_neg h]
  exact ⟨rfl, rfl, rfl⟩
theorem joinA_no {N : StT} {i : Nat} {d : Int32 × Int32} (h : OkN N) (hi : i < sC N) (hd : outA N (sR N i) = some d) : joinA (nI i) N = (-3, N, some d) := by
  have h6 := h.1
  unfold joinA
  rw [idx_yes hi (by omega)]
  dsimp only
  rw [hd]
theorem joinA_yes {N : StT} {i : Nat} (h : OkN N) (hi : i < sC N) (hd : outA N (sR N i) = none) : joinA (nI i) N = (nI (dstN (sS N) (stN (sR N i).2 (sR N i).1 0)), joiS (thrA N (digN (codN (sS N) (stN (sR N i).2 (sR N i).1 0)) (dstN (sS N) (stN (sR N i).2 (sR N i).1 0))) (dstN (sS N) (stN (sR N i).2 (sR N i).1 0))), none) := by
  have h6 := h.1
  unfold joinA
  rw [idx_yes hi (by omega)]
  dsimp only
  rw [hd]
theorem onceA_yes {N : StT} {i : Nat} (h : OkN N) (hi : i < sC N) (hd : outA N (sR N i) = none) (hs : sS N = stN (sR N i).2 (sR N i).1 0) : onceA (nI i) N = (nI (sR N i).1, thrA N (sR N i).2 (sR N i).1, none) := by
  have h6 := h.1
  unfold onceA
  rw [idx_yes hi (by omega)]
  dsimp only
  rw [hd]
  dsimp only
  rw [if_pos hs]
theorem turnA_yes {N : StT} {i : Nat} (h : OkN N) (hi : i < sC N) : turnA (nI i) N = (nI (rotN (sR N i).2 (sR N i).1 0), setR N i ((sR N i).1, rotN (sR N i).2 (sR N i).1), none) := by
  have h6 := h.1
  unfold turnA
  rw [idx_yes hi (by omega)]
theorem thr_join {N : StT} {k t c : Nat} (hP : PC k (sS N) t c) : ∀ j, j ≤ k → PC j (sS N) (sS (thrA N (digN c k) j)) (c / 10 ^ (k - j))
  | 0, _ => PC_beg hP
  | j + 1, hj => (PC_step hP (by omega) (thr_join hP j (by omega))).2
theorem thr_once {N : StT} {h : Nat → Nat} {L : Nat} (hL : 0 < L) (hh : ∀ i, i < L → h i ≤ 9) (hs : sS N = stN h L 0) : ∀ j, j ≤ L → sS (thrA N h j) = stN h L (j % L)
  | 0, _ => by rw [Nat.zero_mod]; exact hs
  | j + 1, hj => by
    show behN (sS (thrA N h j)) (h j) = _
    rw [thr_once hL hh hs j (by omega), Nat.mod_eq_of_lt (show j < L by omega), stN_next hL hh (by omega)]
/-- row i has been turned j times -/
def TurnR (N N' : StT) (i j : Nat) : Prop := sC N' = sC N ∧ sS N' = sS N ∧ sB N' = sB N ∧ sT N' = sT N ∧ sU N' = sU N ∧ sH N' = sH N ∧ sJ N' = sJ N ∧ sG N' = sG N ∧ (∀ r, r ≠ i → sR N' r = sR N r) ∧ (sR N' i).1 = (sR N i).1 ∧ ∀ k, k < (sR N i).1 → (sR N' i).2 k = (sR N i).2 ((k + j) % (sR N i).1)
theorem TurnR.zero {N : StT} {i : Nat} : TurnR N N i 0 := ⟨rfl, rfl, rfl, rfl, rfl, rfl, rfl, rfl, fun _ _ => rfl, rfl, fun k hk => by rw [Nat.add_zero, Nat.mod_eq_of_lt hk]⟩
theorem TurnR.step {N N' : StT} {i j : Nat} (h : TurnR N N' i j) (hL : 0 < (sR N i).1) : TurnR N (setR N' i ((sR N' i).1, rotN (sR N' i).2 (sR N' i).1)) i (j + 1) := by
  obtain ⟨h1, h2, h3, h4, h5, h6, h7, h8, h9, h10, h11⟩ := h
  refine ⟨h1, h2, h3, h4, h5, h6, h7, h8, fun r hr => ?_, ?_, fun k hk => ?_⟩
  · show (if r = i then _ else sR N' r) = sR N r
    rw [if_neg hr]
    exact h9 r hr
  · show (if i = i then ((sR N' i).1, rotN (sR N' i).2 (sR N' i).1) else sR N' i).1 = _
    rw [if_pos rfl]
    exact h10
  · show (if i = i then ((sR N' i).1, rotN (sR N' i).2 (sR N' i).1) else sR N' i).2 k = _
    rw [if_pos rfl]
    show (sR N' i).2 ((k + 1) % (sR N' i).1) = _
    rw [h10, h11 _ (Nat.mod_lt _ hL), Nat.mod_add_mod, show k + 1 + j = k + (j + 1) by omega]
theorem TurnR.veq {N N' : StT} {i : Nat} (h : TurnR N N' i (sR N i).1) : VEq N' N := by
  obtain ⟨h1, h2, h3, h4, h5, h6, h7, h8, h9, h10, h11⟩ := h
  refine ⟨h1, fun r hr => ?_, h2, h3, h4, h5, h6, h7, h8⟩
  by_cases e : r = i
  · subst e
    refine ⟨h10, fun k hk => ?_⟩
    rw [h10] at hk
    rw [h11 k hk, Nat.add_mod_right, Nat.mod_eq_of_lt hk]
  · rw [h9 r e]
    exact ⟨rfl, fun _ _ => rfl⟩
/-- what isMade leaves -/
def MaP (g : GG) (w : HW) (n o K : Nat) : Int32 → HW → Prop := fun y w' => y = 1 ∧ ∃ X', XW g w' n o X' ∧ FrX w w' o ∧ IX (K + 100) X' ∧ (xT X').1 = 0
section MADE
variable {g : GG} {l : Launch} {w : HW} {n o K i : Nat} {X : XT}
theorem c_isMade (hX : XW g w n o X) (hI : IX K X) (h0 : (xT X).1 = 0) (hK : K + 1000 < 2 ^ 30) (hi : i < sC (xN X)) : CtI g l ML_isMade 6 [rf g o, .int (nI i)] w n (MaP g w n o K) := by
  have hN := hX.okn
  obtain ⟨hob, hn⟩ := hX.obj
  have h6 := hN.1
  obtain ⟨q1, q2, q3⟩ := hN.2 i hi
  obtain ⟨hS, hB, hU, hT⟩ := hI.1
  have e0 : rowA (nI i) (nI 0) (xN X) = nI (sR (xN X) i).1 := by rw [rowA_at hN hi (by decide)]; rfl
  have loopT : ∀ f j X' w', j + f = (sR (xN X) i).1 → XW g w' n o X' → FrX w w' o → IX (K + 18 + 9 * j) X' → (xT X').1 = 0 → TurnR (xN X) (xN X') i j → V g l ML_isMade (rmd 6 0 0) (FinM g (qI (MaP g w n o K) n) 0 0) 170 [some (rf g o), some (.int (nI i)), some (.long (digX X)), none, some (.int (nI (sR (xN X) i).1)), none, none, none, some (.int (nI 1)), some (.int (nI j))] [] (w') n 0 0 := by
    intro f
    induction f with
    | zero =>
      intro j X' w' hf hX' hF hI' hT' hR
      obtain rfl : j = (sR (xN X) i).1 := by omega
      obtain ⟨hob', hn'⟩ := hX'.obj
      refine V_iload (q := 172) dL_isMade_170 rfl rfl ?_
      refine V_if_eq (q := 175) (tgt := 209) dL_isMade_172 (by decide) rfl (fun h9 => absurd h9 (by decide)) (fun _ => ?_)
      refine V_iload (q := 177) dL_isMade_175 rfl rfl ?_
      refine V_iload (q := 179) dL_isMade_177 rfl rfl ?_
      refine V_icmpN_ge (q := 182) (tgt := 209) dL_isMade_179 (by decide) rfl (by omega) (by omega) (fun _ => ?_) (fun h9 => by first | exact h9.elim | (exfalso; omega))
      refine V_iload (q := 211) dL_isMade_209 rfl rfl ?_
      refine V_if_eq (q := 214) (tgt := 227) dL_isMade_211 (by decide) rfl (fun h9 => absurd h9 (by decide)) (fun _ => ?_)
      refine V_aload_n (q := 215) dL_isMade_214 rfl rfl rfl ?_
      refine CrL_177 (q := 218) rfl dL_isMade_215 rfl (c_digest hX' hI'.1.1) ⟨(Nat.le_of_ble_eq_true rfl), (Nat.le_of_ble_eq_true rfl)⟩ (Nat.le_of_ble_eq_true rfl) (Nat.zero_le _) (Nat.zero_le _) ?_
      refine V_lload_n (q := 219) dL_isMade_218 rfl rfl ?_
      refine V_lcmp (q := 220) dL_isMade_219 rfl (lcmp0 (digX_cong hR.veq)) ?_
      refine V_if_ne (q := 223) (tgt := 227) dL_isMade_220 (by decide) rfl (fun h9 => absurd rfl h9) (fun _ => ?_)
      refine V_iconst (q := 224) (v := nI 1) dL_isMade_223 rfl (by decide) ?_
      refine V_goto (tgt := 228) dL_isMade_224 (by decide) ?_
      exact V_zret dL_isMade_228 rfl (rfl) (Nat.le_of_ble_eq_true rfl) (Nat.le_of_ble_eq_true rfl) (⟨rfl, _, rfl, rfl, X', hX', hF, hI'.up (by omega), hT'⟩)
    | succ f ih =>
      intro j X' w' hf hX' hF hI' hT' hR
      obtain ⟨hob', hn'⟩ := hX'.obj
      have hN' := hX'.okn
      have hi' : i < sC (xN X') := by rw [hR.1]; exact hi
      have eL := hR.2.2.2.2.2.2.2.2.2.1
      obtain ⟨r1, r2, r3⟩ := hN'.2 i hi'
      have et := turnA_yes hN' hi'
      have h9 : rotN (sR (xN X') i).2 (sR (xN X') i).1 0 ≤ 9 := r3 _ (Nat.mod_lt _ r1)
      obtain ⟨c1, c2, c3⟩ := chg_facts (X := X') (res := turnA (nI i) (xN X')) (by rw [et]; exact nI_nerr (by omega))
      have hI2 := hI'.chg (turnA_ok (x := nI i) hI'.1.1 hN') (turnA_9 hN').1
      have hT2 : (xT (chgX X' (turnA (nI i) (xN X'))).2).1 = 0 := by rw [chg_T]; exact hT'
      have hR2 : TurnR (xN X) (xN (chgX X' (turnA (nI i) (xN X'))).2) i (j + 1) := by
        rw [c2, et]
        exact hR.step q1
      have ea : (chgX X' (turnA (nI i) (xN X'))).1 = nI (rotN (sR (xN X') i).2 (sR (xN X') i).1 0) := by rw [c1, et]
      have eb : (sR (xN (chgX X' (turnA (nI i) (xN X'))).2) i).2 0 = rotN (sR (xN X') i).2 (sR (xN X') i).1 0 := by
        rw [c2, et]
        show (if i = i then ((sR (xN X') i).1, rotN (sR (xN X') i).2 (sR (xN X') i).1) else sR (xN X') i).2 0 = _
        rw [if_pos rfl]
      refine V_iload (q := 172) dL_isMade_170 rfl rfl ?_
      refine V_if_eq (q := 175) (tgt := 209) dL_isMade_172 (by decide) rfl (fun h9 => absurd h9 (by decide)) (fun _ => ?_)
      refine V_iload (q := 177) dL_isMade_175 rfl rfl ?_
      refine V_iload (q := 179) dL_isMade_177 rfl rfl ?_
      refine V_icmpN_ge (q := 182) (tgt := 209) dL_isMade_179 (by decide) rfl (by omega) (by omega) (fun h9 => by first | exact h9.elim | exact absurd h9 (by assumption) | (exfalso; omega)) (fun _ => ?_)
      refine V_aload_n (q := 183) dL_isMade_182 rfl rfl rfl ?_
      refine V_iload_n (q := 184) dL_isMade_183 rfl rfl ?_
      refine CiL_31 (q := 187) rfl dL_isMade_184 rfl ((X_turn hX')) ⟨(Nat.le_of_ble_eq_true rfl), (Nat.le_of_ble_eq_true rfl)⟩ (Nat.le_of_ble_eq_true rfl) (by first | assumption | exact up_eq | exact (up_ne (by omega)).trans (by first | assumption | exact up_eq | exact (up_ne (by omega)).trans (by first | assumption | exact up_eq | exact (up_ne (by omega)).trans (by first | assumption | exact up_eq)))) (by omega) (Nat.zero_le _) (Nat.zero_le _) (fun y w1 h1 => ?_)
      obtain ⟨rfl, hX1, hF1⟩ := h1
      obtain ⟨hob1, hn1⟩ := hX1.obj
      generalize chgX X' (turnA (nI i) (xN X')) = r at *
      refine V_topi (ea) ?_
      refine V_aload_n (q := 188) dL_isMade_187 rfl rfl rfl ?_
      refine V_iload_n (q := 189) dL_isMade_188 rfl rfl ?_
      refine V_iconst (q := 190) (v := nI 0) dL_isMade_189 rfl (by decide) ?_
      refine CrL_88 (q := 193) rfl dL_isMade_190 rfl (X_throwAt hX1) ⟨(Nat.le_of_ble_eq_true rfl), (Nat.le_of_ble_eq_true rfl)⟩ (Nat.le_of_ble_eq_true rfl) (by first | assumption | exact up_eq | exact (up_ne (by omega)).trans (by first | assumption | exact up_eq | exact (up_ne (by omega)).trans (by first | assumption | exact up_eq | exact (up_ne (by omega)).trans (by first | assumption | exact up_eq)))) (by omega) (Nat.zero_le _) (Nat.zero_le _) ?_
      refine V_topi ((thrAt_at hX1.okn (by rw [hR2.1]; exact hi) (by rw [hR2.2.2.2.2.2.2.2.2.2.1]; exact q1))) ?_
      refine V_topi ((congrArg nI eb)) ?_
      refine V_icmp_ne (q := 196) (tgt := 200) dL_isMade_193 (by decide) rfl (fun h9 => absurd rfl h9) (fun _ => ?_)
      refine V_iconst (q := 197) (v := nI 1) dL_isMade_196 rfl (by decide) ?_
      refine V_goto (tgt := 201) dL_isMade_197 (by decide) ?_
      refine V_istore (q := 203) (ls' := [_, _, _, _, _, _, _, _, _, _]) dL_isMade_201 rfl (by decide) (by rfl) rfl ?_
      refine V_iinc (q := 206) (ls' := [_, _, _, _, _, _, _, _, _, _]) dL_isMade_203 rfl (by decide) (by rfl) rfl (by first | exact inc1 _ | rfl) rfl ?_
      refine V_goto (tgt := 170) dL_isMade_206 (by decide) ?_
      exact ih (j + 1) r.2 w1 (by omega) hX1 (hF.tr hF1) (hI2.up (by omega)) hT2 hR2
  refine Ct.ofs (M := ML_isMade) (ls := [some _, some _, none, none, none, none, none, none, none, none]) (by decide +kernel) (by exact (Nat.le_of_ble_eq_true rfl)) (by rfl) (by rfl) (by rfl) ?_
  refine V_aload_n (q := 1) dL_isMade_0 rfl rfl rfl ?_
  refine CrL_177 (q := 4) rfl dL_isMade_1 rfl (c_digest hX hS) ⟨(Nat.le_of_ble_eq_true rfl), (Nat.le_of_ble_eq_true rfl)⟩ (Nat.le_of_ble_eq_true rfl) (Nat.zero_le _) (Nat.zero_le _) ?_
  refine V_lstore_n (q := 5) (ls' := [_, _, _, _, _, _, _, _, _, _]) dL_isMade_4 rfl (by decide) (by rfl) rfl ?_
  refine V_aload_n (q := 6) dL_isMade_5 rfl rfl rfl ?_
  refine V_iload_n (q := 7) dL_isMade_6 rfl rfl ?_
  refine V_iconst (q := 8) (v := nI 0) dL_isMade_7 rfl (by decide) ?_
  refine CrL_85 (q := 11) rfl dL_isMade_8 rfl (X_rowOf hX) ⟨(Nat.le_of_ble_eq_true rfl), (Nat.le_of_ble_eq_true rfl)⟩ (Nat.le_of_ble_eq_true rfl) (by first | assumption | exact up_eq | exact (up_ne (by omega)).trans (by first | assumption | exact up_eq | exact (up_ne (by omega)).trans (by first | assumption | exact up_eq | exact (up_ne (by omega)).trans (by first | assumption | exact up_eq)))) (by omega) (Nat.zero_le _) (Nat.zero_le _) ?_
  refine V_topi (e0) ?_
  refine V_istore (q := 13) (ls' := [_, _, _, _, _, _, _, _, _, _]) dL_isMade_11 rfl (by decide) (by rfl) rfl ?_
  refine V_aload_n (q := 14) dL_isMade_13 rfl rfl rfl ?_
  refine V_iload_n (q := 15) dL_isMade_14 rfl rfl ?_
  refine CiL_126 (q := 18) rfl dL_isMade_15 rfl ((X_joinTo hX hS)) ⟨(Nat.le_of_ble_eq_true rfl), (Nat.le_of_ble_eq_true rfl)⟩ (Nat.le_of_ble_eq_true rfl) (by first | assumption | exact up_eq | exact (up_ne (by omega)).trans (by first | assumption | exact up_eq | exact (up_ne (by omega)).trans (by first | assumption | exact up_eq | exact (up_ne (by omega)).trans (by first | assumption | exact up_eq)))) (by omega) (Nat.zero_le _) (Nat.zero_le _) (fun y w1 h1 => ?_)
  obtain ⟨rfl, hX1, hF1⟩ := h1
  obtain ⟨hob1, hn1⟩ := hX1.obj
  refine V_istore (q := 20) (ls' := [_, _, _, _, _, _, _, _, _, _]) dL_isMade_18 rfl (by decide) (by rfl) rfl ?_
  refine V_aload_n (q := 21) dL_isMade_20 rfl rfl rfl ?_
  refine V_iconst (q := 22) (v := nI 4) dL_isMade_21 rfl (by decide) ?_
  refine CrL_79 (q := 25) rfl dL_isMade_22 rfl (X_account hX1) ⟨(Nat.le_of_ble_eq_true rfl), (Nat.le_of_ble_eq_true rfl)⟩ (Nat.le_of_ble_eq_true rfl) (by first | assumption | exact up_eq | exact (up_ne (by omega)).trans (by first | assumption | exact up_eq | exact (up_ne (by omega)).trans (by first | assumption | exact up_eq | exact (up_ne (by omega)).trans (by first | assumption | exact up_eq)))) (by omega) (Nat.zero_le _) (Nat.zero_le _) ?_
  refine V_topi ((accA_at (by decide))) ?_
  refine V_topi ((show accW X 4 = nI (sT (xN X)) from rfl)) ?_
  refine V_istore (q := 27) (ls' := [_, _, _, _, _, _, _, _, _, _]) dL_isMade_25 rfl (by decide) (by rfl) rfl ?_
  refine V_aload_n (q := 28) dL_isMade_27 rfl rfl rfl ?_
  refine V_iload_n (q := 29) dL_isMade_28 rfl rfl ?_
  refine CiL_47 (q := 32) rfl dL_isMade_29 rfl ((X_join hX1 hS)) ⟨(Nat.le_of_ble_eq_true rfl), (Nat.le_of_ble_eq_true rfl)⟩ (Nat.le_of_ble_eq_true rfl) (by first | assumption | exact up_eq | exact (up_ne (by omega)).trans (by first | assumption | exact up_eq | exact (up_ne (by omega)).trans (by first | assumption | exact up_eq | exact (up_ne (by omega)).trans (by first | assumption | exact up_eq)))) (by omega) (Nat.zero_le _) (Nat.zero_le _) (fun y w2 h2 => ?_)
  obtain ⟨rfl, hX2, hF2⟩ := h2
  obtain ⟨hob2, hn2⟩ := hX2.obj
  have hI2 := hI.chg (joinA_ok (x := nI i) hS hN) (joinA_9 hS hN).1
  have hT2 : (xT (chgX X (joinA (nI i) (xN X))).2).1 = 0 := by rw [chg_T]; exact h0
  cases hd : outA (xN X) (sR (xN X) i) with
  | some d =>
    have ej := joinA_no hN hi hd
    have ea : (chgX X (joinA (nI i) (xN X))).1 = -3 := by rw [ej]; rfl
    have eN : xN (chgX X (joinA (nI i) (xN X))).2 = xN X := chg_neg (joinA_ok hS hN) (joinA_9 hS hN).2 (by rw [ea]; decide)
    generalize chgX X (joinA (nI i) (xN X)) = r at *
    refine V_topi (ea) ?_
    refine V_istore (q := 34) (ls' := [_, _, _, _, _, _, _, _, _, _]) dL_isMade_32 rfl (by decide) (by rfl) rfl ?_
    refine V_iload (q := 36) dL_isMade_34 rfl rfl ?_
    refine V_if_ge (q := 39) (tgt := 63) dL_isMade_36 (by decide) rfl (fun h9 => absurd h9 (by decide)) (fun _ => ?_)
    refine V_iload (q := 41) dL_isMade_39 rfl rfl ?_
    refine V_bipush (q := 43) (v := (-3)) dL_isMade_41 rfl (by decide) ?_
    refine V_icmp_ne (q := 46) (tgt := 59) dL_isMade_43 (by decide) rfl (fun h9 => absurd rfl h9) (fun _ => ?_)
    refine V_aload_n (q := 47) dL_isMade_46 rfl rfl rfl ?_
    refine CrL_177 (q := 50) rfl dL_isMade_47 rfl (c_digest hX2 hI2.1.1) ⟨(Nat.le_of_ble_eq_true rfl), (Nat.le_of_ble_eq_true rfl)⟩ (Nat.le_of_ble_eq_true rfl) (Nat.zero_le _) (Nat.zero_le _) ?_
    refine V_lload_n (q := 51) dL_isMade_50 rfl rfl ?_
    refine V_lcmp (q := 52) dL_isMade_51 rfl (lcmp0 (digX_same eN)) ?_
    refine V_if_ne (q := 55) (tgt := 59) dL_isMade_52 (by decide) rfl (fun h9 => absurd rfl h9) (fun _ => ?_)
    refine V_fg 5 (ls2 := [_, _, _, _, _, none, _, _, _, _]) (by rfl) ?_
    refine V_fg 6 (ls2 := [_, _, _, _, _, _, none, _, _, _]) (by rfl) ?_
    refine V_fg 7 (ls2 := [_, _, _, _, _, _, _, none, _, _]) (by rfl) ?_
    refine V_iconst (q := 56) (v := nI 1) dL_isMade_55 rfl (by decide) ?_
    refine V_goto (tgt := 165) dL_isMade_56 (by decide) ?_
    refine V_istore (q := 167) (ls' := [_, _, _, _, _, _, _, _, _, _]) dL_isMade_165 rfl (by decide) (by rfl) rfl ?_
    refine V_iconst (q := 168) (v := nI 0) dL_isMade_167 rfl (by decide) ?_
    refine V_istore (q := 170) (ls' := [_, _, _, _, _, _, _, _, _, _]) dL_isMade_168 rfl (by decide) (by rfl) rfl ?_
    exact loopT _ 0 r.2 w2 (Nat.zero_add _) hX2 (hF1.tr hF2) (hI2.up (by omega)) hT2 (by rw [eN]; exact TurnR.zero)
  | none =>
    obtain ⟨hcl, hsm, hst, hd9, hD⟩ := out_dst hS hN hi hd
    have hnz : popc (sS (xN X)) ≠ 0 := fun e => by
      unfold outA at hd
      rw [if_pos e] at hd
      cases hd
    have hcod := cod_low hD
    have ej := joinA_yes hN hi hd
    have etold : joiA (nI i) (xN X) = nI (dstN (sS (xN X)) (stN (sR (xN X) i).2 (sR (xN X) i).1 0)) := by
      rw [joiA_at hN hi, if_pos (by rw [← hsm]; exact if_pos hcl)]
    obtain ⟨c1, c2, c3⟩ := chg_facts (X := X) (res := joinA (nI i) (xN X)) (by rw [ej]; exact nI_nerr (by omega))
    obtain ⟨t1, t2, t3⟩ := thrA_n (xN X) (digN (codN (sS (xN X)) (stN (sR (xN X) i).2 (sR (xN X) i).1 0)) (dstN (sS (xN X)) (stN (sR (xN X) i).2 (sR (xN X) i).1 0))) (dstN (sS (xN X)) (stN (sR (xN X) i).2 (sR (xN X) i).1 0))
    obtain ⟨f1, f2⟩ := thrA_C (xN X) (digN (codN (sS (xN X)) (stN (sR (xN X) i).2 (sR (xN X) i).1 0)) (dstN (sS (xN X)) (stN (sR (xN X) i).2 (sR (xN X) i).1 0))) (dstN (sS (xN X)) (stN (sR (xN X) i).2 (sR (xN X) i).1 0))
    have hend := PC_end hcod.1 (thr_join hcod.1 _ (Nat.le_refl _))
    rw [ej] at c1 c2
    generalize dstN (sS (xN X)) (stN (sR (xN X) i).2 (sR (xN X) i).1 0) = d at *
    generalize codN (sS (xN X)) (stN (sR (xN X) i).2 (sR (xN X) i).1 0) = c at *
    have n1 : sC (xN (chgX X (joinA (nI i) (xN X))).2) = sC (xN X) := by rw [ej, c2]; exact f1
    have n2 : sR (xN (chgX X (joinA (nI i) (xN X))).2) = sR (xN X) := by rw [ej, c2]; exact f2
    have n3 : sS (xN (chgX X (joinA (nI i) (xN X))).2) = stN (sR (xN X) i).2 (sR (xN X) i).1 0 := by rw [ej, c2]; exact hend
    have n4 : sT (xN (chgX X (joinA (nI i) (xN X))).2) = sT (xN X) + d := by rw [ej, c2]; exact t2
    have ea : (chgX X (joinA (nI i) (xN X))).1 = nI d := by rw [ej]; exact c1
    generalize chgX X (joinA (nI i) (xN X)) = r at *
    have hS2 := hI2.1.1
    have hN2 := hX2.okn
    have hi2 : i < sC (xN r.2) := by rw [n1]; exact hi
    have hd2 : outA (xN r.2) (sR (xN r.2) i) = none := by
      unfold outA
      rw [n2, n3, balls_ok q1 q3 hcl, hsm, if_neg hnz, if_pos hcl, if_pos rfl]
    have eo := onceA_yes hN2 hi2 hd2 (by rw [n2]; exact n3)
    have est : stoA (nI i) (nI 0) (xN r.2) = nI (stN (sR (xN X) i).2 (sR (xN X) i).1 0) := by
      rw [stoA_at hN2 hi2 (by rw [n2]; exact q1), n2, if_pos hcl]
    rw [n2] at eo
    obtain ⟨g1, g2, g3⟩ := chg_facts (X := r.2) (res := onceA (nI i) (xN r.2)) (by rw [eo]; exact nI_nerr (by omega))
    have hI3 := hI2.chg (onceA_ok (x := nI i) hS2 hN2) (onceA_9 hN2).1
    have hT3 : (xT (chgX r.2 (onceA (nI i) (xN r.2))).2).1 = 0 := by rw [chg_T]; exact hT2
    obtain ⟨u1, u2, u3⟩ := thrA_n (xN r.2) (sR (xN X) i).2 (sR (xN X) i).1
    obtain ⟨v1, v2⟩ := thrA_C (xN r.2) (sR (xN X) i).2 (sR (xN X) i).1
    have hend2 := thr_once (N := xN r.2) q1 q3 n3 _ (Nat.le_refl _)
    rw [Nat.mod_self] at hend2
    have m1 : sC (xN (chgX r.2 (onceA (nI i) (xN r.2))).2) = sC (xN X) := by rw [g2, eo]; exact v1.trans n1
    have m2 : sR (xN (chgX r.2 (onceA (nI i) (xN r.2))).2) = sR (xN X) := by rw [g2, eo]; exact v2.trans n2
    have m3 : sS (xN (chgX r.2 (onceA (nI i) (xN r.2))).2) = stN (sR (xN X) i).2 (sR (xN X) i).1 0 := by rw [g2, eo]; exact hend2
    have m4 : sT (xN (chgX r.2 (onceA (nI i) (xN r.2))).2) = sT (xN X) + d + (sR (xN X) i).1 := by rw [g2, eo]; exact u2.trans (by rw [n4])
    have eb : (chgX r.2 (onceA (nI i) (xN r.2))).1 = nI (sR (xN X) i).1 := by rw [g1, eo]
    refine V_topi (ea) ?_
    refine V_istore (q := 34) (ls' := [_, _, _, _, _, _, _, _, _, _]) dL_isMade_32 rfl (by decide) (by rfl) rfl ?_
    refine V_iload (q := 36) dL_isMade_34 rfl rfl ?_
    refine V_ifN_ge (q := 39) (tgt := 63) dL_isMade_36 (by decide) rfl (by omega) (fun _ => ?_) (fun h9 => by first | exact h9.elim | (exfalso; omega))
    refine V_iload (q := 65) dL_isMade_63 rfl rfl ?_
    refine V_iload (q := 67) dL_isMade_65 rfl rfl ?_
    refine V_icmp_ne (q := 70) (tgt := 164) dL_isMade_67 (by decide) rfl (fun h9 => absurd (by rw [etold]) h9) (fun _ => ?_)
    refine V_aload_n (q := 71) dL_isMade_70 rfl rfl rfl ?_
    refine V_iconst (q := 72) (v := nI 4) dL_isMade_71 rfl (by decide) ?_
    refine CrL_79 (q := 75) rfl dL_isMade_72 rfl (X_account hX2) ⟨(Nat.le_of_ble_eq_true rfl), (Nat.le_of_ble_eq_true rfl)⟩ (Nat.le_of_ble_eq_true rfl) (by first | assumption | exact up_eq | exact (up_ne (by omega)).trans (by first | assumption | exact up_eq | exact (up_ne (by omega)).trans (by first | assumption | exact up_eq | exact (up_ne (by omega)).trans (by first | assumption | exact up_eq)))) (by omega) (Nat.zero_le _) (Nat.zero_le _) ?_
    refine V_topi ((accA_at (by decide))) ?_
    refine V_topi ((show accW r.2 4 = nI (sT (xN r.2)) from rfl)) ?_
    refine V_topi ((congrArg nI n4)) ?_
    rw [etold]
    refine V_iload (q := 77) dL_isMade_75 rfl rfl ?_
    refine V_iload (q := 79) dL_isMade_77 rfl rfl ?_
    refine V_iadd (q := 80) dL_isMade_79 rfl (by first | exact nI_add _ _ | rfl) ?_
    refine V_icmp_ne (q := 83) (tgt := 164) dL_isMade_80 (by decide) rfl (fun h9 => absurd rfl h9) (fun _ => ?_)
    refine V_aload_n (q := 84) dL_isMade_83 rfl rfl rfl ?_
    refine V_iconst (q := 85) (v := nI 0) dL_isMade_84 rfl (by decide) ?_
    refine CrL_82 (q := 88) rfl dL_isMade_85 rfl (X_juggler hX2 hS2) ⟨(Nat.le_of_ble_eq_true rfl), (Nat.le_of_ble_eq_true rfl)⟩ (Nat.le_of_ble_eq_true rfl) (by first | assumption | exact up_eq | exact (up_ne (by omega)).trans (by first | assumption | exact up_eq | exact (up_ne (by omega)).trans (by first | assumption | exact up_eq | exact (up_ne (by omega)).trans (by first | assumption | exact up_eq)))) (by omega) (Nat.zero_le _) (Nat.zero_le _) ?_
    refine V_topi ((jugA_at (by decide))) ?_
    refine V_topi ((show jugW (xN r.2) 0 = nI (sS (xN r.2)) from rfl)) ?_
    refine V_topi ((congrArg nI n3)) ?_
    refine V_aload_n (q := 89) dL_isMade_88 rfl rfl rfl ?_
    refine V_iload_n (q := 90) dL_isMade_89 rfl rfl ?_
    refine V_iconst (q := 91) (v := nI 0) dL_isMade_90 rfl (by decide) ?_
    refine CrL_105 (q := 94) rfl dL_isMade_91 rfl (X_stateOf hX2) ⟨(Nat.le_of_ble_eq_true rfl), (Nat.le_of_ble_eq_true rfl)⟩ (Nat.le_of_ble_eq_true rfl) (by first | assumption | exact up_eq | exact (up_ne (by omega)).trans (by first | assumption | exact up_eq | exact (up_ne (by omega)).trans (by first | assumption | exact up_eq | exact (up_ne (by omega)).trans (by first | assumption | exact up_eq)))) (by omega) (Nat.zero_le _) (Nat.zero_le _) ?_
    refine V_topi (est) ?_
    refine V_icmp_ne (q := 97) (tgt := 164) dL_isMade_94 (by decide) rfl (fun h9 => absurd rfl h9) (fun _ => ?_)
    refine V_aload_n (q := 98) dL_isMade_97 rfl rfl rfl ?_
    refine V_iload_n (q := 99) dL_isMade_98 rfl rfl ?_
    refine CiL_50 (q := 102) rfl dL_isMade_99 rfl ((X_once hX2 hS2)) ⟨(Nat.le_of_ble_eq_true rfl), (Nat.le_of_ble_eq_true rfl)⟩ (Nat.le_of_ble_eq_true rfl) (by first | assumption | exact up_eq | exact (up_ne (by omega)).trans (by first | assumption | exact up_eq | exact (up_ne (by omega)).trans (by first | assumption | exact up_eq | exact (up_ne (by omega)).trans (by first | assumption | exact up_eq)))) (by omega) (Nat.zero_le _) (Nat.zero_le _) (fun y w3 h3 => ?_)
    obtain ⟨rfl, hX3, hF3⟩ := h3
    obtain ⟨hob3, hn3⟩ := hX3.obj
    generalize chgX r.2 (onceA (nI i) (xN r.2)) = r3 at *
    have hS3 := hI3.1.1
    have hN3 := hX3.okn
    have est3 : stoA (nI i) (nI 0) (xN r3.2) = nI (stN (sR (xN X) i).2 (sR (xN X) i).1 0) := by
      rw [stoA_at hN3 (by rw [m1]; exact hi) (by rw [m2]; exact q1), m2, if_pos hcl]
    refine V_topi (eb) ?_
    refine V_iload (q := 104) dL_isMade_102 rfl rfl ?_
    refine V_icmp_ne (q := 107) (tgt := 164) dL_isMade_104 (by decide) rfl (fun h9 => absurd rfl h9) (fun _ => ?_)
    refine V_aload_n (q := 108) dL_isMade_107 rfl rfl rfl ?_
    refine V_iconst (q := 109) (v := nI 0) dL_isMade_108 rfl (by decide) ?_
    refine CrL_82 (q := 112) rfl dL_isMade_109 rfl (X_juggler hX3 hS3) ⟨(Nat.le_of_ble_eq_true rfl), (Nat.le_of_ble_eq_true rfl)⟩ (Nat.le_of_ble_eq_true rfl) (by first | assumption | exact up_eq | exact (up_ne (by omega)).trans (by first | assumption | exact up_eq | exact (up_ne (by omega)).trans (by first | assumption | exact up_eq | exact (up_ne (by omega)).trans (by first | assumption | exact up_eq)))) (by omega) (Nat.zero_le _) (Nat.zero_le _) ?_
    refine V_topi ((jugA_at (by decide))) ?_
    refine V_topi ((show jugW (xN r3.2) 0 = nI (sS (xN r3.2)) from rfl)) ?_
    refine V_topi ((congrArg nI m3)) ?_
    refine V_aload_n (q := 113) dL_isMade_112 rfl rfl rfl ?_
    refine V_iload_n (q := 114) dL_isMade_113 rfl rfl ?_
    refine V_iconst (q := 115) (v := nI 0) dL_isMade_114 rfl (by decide) ?_
    refine CrL_105 (q := 118) rfl dL_isMade_115 rfl (X_stateOf hX3) ⟨(Nat.le_of_ble_eq_true rfl), (Nat.le_of_ble_eq_true rfl)⟩ (Nat.le_of_ble_eq_true rfl) (by first | assumption | exact up_eq | exact (up_ne (by omega)).trans (by first | assumption | exact up_eq | exact (up_ne (by omega)).trans (by first | assumption | exact up_eq | exact (up_ne (by omega)).trans (by first | assumption | exact up_eq)))) (by omega) (Nat.zero_le _) (Nat.zero_le _) ?_
    refine V_topi (est3) ?_
    refine V_icmp_ne (q := 121) (tgt := 164) dL_isMade_118 (by decide) rfl (fun h9 => absurd rfl h9) (fun _ => ?_)
    refine V_aload_n (q := 122) dL_isMade_121 rfl rfl rfl ?_
    refine V_iconst (q := 123) (v := nI 4) dL_isMade_122 rfl (by decide) ?_
    refine CrL_79 (q := 126) rfl dL_isMade_123 rfl (X_account hX3) ⟨(Nat.le_of_ble_eq_true rfl), (Nat.le_of_ble_eq_true rfl)⟩ (Nat.le_of_ble_eq_true rfl) (by first | assumption | exact up_eq | exact (up_ne (by omega)).trans (by first | assumption | exact up_eq | exact (up_ne (by omega)).trans (by first | assumption | exact up_eq | exact (up_ne (by omega)).trans (by first | assumption | exact up_eq)))) (by omega) (Nat.zero_le _) (Nat.zero_le _) ?_
    refine V_topi ((accA_at (by decide))) ?_
    refine V_topi ((show accW r3.2 4 = nI (sT (xN r3.2)) from rfl)) ?_
    refine V_topi ((congrArg nI m4)) ?_
    refine V_iload (q := 128) dL_isMade_126 rfl rfl ?_
    refine V_iload (q := 130) dL_isMade_128 rfl rfl ?_
    refine V_iadd (q := 131) dL_isMade_130 rfl (by first | exact nI_add _ _ | rfl) ?_
    refine V_iload (q := 133) dL_isMade_131 rfl rfl ?_
    refine V_iadd (q := 134) dL_isMade_133 rfl (by first | exact nI_add _ _ | rfl) ?_
    refine V_icmp_ne (q := 137) (tgt := 164) dL_isMade_134 (by decide) rfl (fun h9 => absurd rfl h9) (fun _ => ?_)
    have p3 : (xP r3.2).1 = min ((xP r.2).1 + 1) 8 := by rw [g3]
    have p1 : (xP r.2).1 = min ((xP X).1 + 1) 8 := by rw [c3]
    obtain ⟨a1, a2, a3⟩ := und_facts (X := r3.2) (by rw [p3]; omega)
    obtain ⟨hI4, -⟩ := hI3.und
    have hT4 : (xT (undA r3.2).2).1 = 0 := by rw [und_T]; exact hT3
    refine V_aload_n (q := 138) dL_isMade_137 rfl rfl rfl ?_
    refine CiL_72 (q := 141) rfl dL_isMade_138 rfl ((X_undo hX3)) ⟨(Nat.le_of_ble_eq_true rfl), (Nat.le_of_ble_eq_true rfl)⟩ (Nat.le_of_ble_eq_true rfl) (by first | assumption | exact up_eq | exact (up_ne (by omega)).trans (by first | assumption | exact up_eq | exact (up_ne (by omega)).trans (by first | assumption | exact up_eq | exact (up_ne (by omega)).trans (by first | assumption | exact up_eq)))) (by omega) (Nat.zero_le _) (Nat.zero_le _) (fun y w4 h4 => ?_)
    obtain ⟨rfl, hX4, hF4⟩ := h4
    obtain ⟨hob4, hn4⟩ := hX4.obj
    generalize undA r3.2 = r4 at *
    refine V_topi (a1) ?_
    have hl8 : (xP r3.2).1 ≤ 8 := by rw [p3]; omega
    refine V_ifN_lt (q := 144) (tgt := 164) dL_isMade_141 (by decide) rfl (by omega) (fun h9 => by first | exact h9.elim | exact absurd h9 (by assumption) | (exfalso; omega)) (fun _ => ?_)
    have p4 : (xP r4.2).1 = (xP r3.2).1 - 1 := by rw [a3]
    obtain ⟨b1, b2, b3⟩ := und_facts (X := r4.2) (by rw [p4, p3]; omega)
    obtain ⟨hI5, -⟩ := hI4.und
    have hT5 : (xT (undA r4.2).2).1 = 0 := by rw [und_T]; exact hT4
    have eN : xN (undA r4.2).2 = xN X := by
      rw [b2, a3]
      show (xP r3.2).2 (0 + 1) = _
      rw [g3]
      show (xP r.2).2 0 = _
      rw [c3]
      rfl
    refine V_aload_n (q := 145) dL_isMade_144 rfl rfl rfl ?_
    refine CiL_72 (q := 148) rfl dL_isMade_145 rfl ((X_undo hX4)) ⟨(Nat.le_of_ble_eq_true rfl), (Nat.le_of_ble_eq_true rfl)⟩ (Nat.le_of_ble_eq_true rfl) (by first | assumption | exact up_eq | exact (up_ne (by omega)).trans (by first | assumption | exact up_eq | exact (up_ne (by omega)).trans (by first | assumption | exact up_eq | exact (up_ne (by omega)).trans (by first | assumption | exact up_eq)))) (by omega) (Nat.zero_le _) (Nat.zero_le _) (fun y w5 h5 => ?_)
    obtain ⟨rfl, hX5, hF5⟩ := h5
    obtain ⟨hob5, hn5⟩ := hX5.obj
    generalize undA r4.2 = r5 at *
    refine V_topi (b1) ?_
    have hl9 : (xP r4.2).1 ≤ 8 := by rw [p4]; omega
    refine V_ifN_lt (q := 151) (tgt := 164) dL_isMade_148 (by decide) rfl (by omega) (fun h9 => by first | exact h9.elim | exact absurd h9 (by assumption) | (exfalso; omega)) (fun _ => ?_)
    refine V_aload_n (q := 152) dL_isMade_151 rfl rfl rfl ?_
    refine CrL_177 (q := 155) rfl dL_isMade_152 rfl (c_digest hX5 hI5.1.1) ⟨(Nat.le_of_ble_eq_true rfl), (Nat.le_of_ble_eq_true rfl)⟩ (Nat.le_of_ble_eq_true rfl) (Nat.zero_le _) (Nat.zero_le _) ?_
    refine V_lload_n (q := 156) dL_isMade_155 rfl rfl ?_
    refine V_lcmp (q := 157) dL_isMade_156 rfl (lcmp0 (digX_same eN)) ?_
    refine V_if_ne (q := 160) (tgt := 164) dL_isMade_157 (by decide) rfl (fun h9 => absurd rfl h9) (fun _ => ?_)
    refine V_fg 5 (ls2 := [_, _, _, _, _, none, _, _, _, _]) (by rfl) ?_
    refine V_fg 6 (ls2 := [_, _, _, _, _, _, none, _, _, _]) (by rfl) ?_
    refine V_fg 7 (ls2 := [_, _, _, _, _, _, _, none, _, _]) (by rfl) ?_
    refine V_iconst (q := 161) (v := nI 1) dL_isMade_160 rfl (by decide) ?_
    refine V_goto (tgt := 165) dL_isMade_161 (by decide) ?_
    refine V_istore (q := 167) (ls' := [_, _, _, _, _, _, _, _, _, _]) dL_isMade_165 rfl (by decide) (by rfl) rfl ?_
    refine V_iconst (q := 168) (v := nI 0) dL_isMade_167 rfl (by decide) ?_
    refine V_istore (q := 170) (ls' := [_, _, _, _, _, _, _, _, _, _]) dL_isMade_168 rfl (by decide) (by rfl) rfl ?_
    exact loopT _ 0 r5.2 w5 (Nat.zero_add _) hX5 ((((hF1.tr hF2).tr hF3).tr hF4).tr hF5) (hI5.up (by omega)) hT5 (by rw [eN]; exact TurnR.zero)
end MADE
