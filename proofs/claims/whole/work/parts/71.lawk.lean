/-! the law: its cases -/
abbrev Mlaw : MI := (x, cL_law, 4, ret)
section YY
variable {g : GG} {l : Launch} {w : HW} {n o p : Nat} {X : XT}
theorem XW.ob (h : XW g w n o X) : ∃ b, w o = eO 7 (xfs g o b) ∧ o + 167 ≤ n := by
  obtain ⟨B, h0, -, -, -, -, -, -, -, -, -, h10⟩ := h
  exact ⟨_, h0, h10⟩
theorem MW.ob (h : MW g w n p X) : ∃ K, w p = eO 8 (mfs g p K) ∧ p + 19 ≤ n := by
  obtain ⟨K, F, Fs, Fb, C, T, hX, -⟩ := h
  exact ⟨K, hX.1, hX.2.2.2.2.2.2.2.2.1⟩
theorem Y_rowOf (h : MW g w n p X) {x y : Int32} : CtR g l MX8_rowOf 4 [rf g p, .int x, .int y] w n (.int (rowA x y (xN X))) := by
  obtain ⟨K, F, Fs, Fb, C, T, hX, hR, -⟩ := h
  have hn := hX.2.2.2.2.2.2.2.2.1
  exact M_rowOf hX.1 hX.2.1 (by omega) hR
theorem Y_throwAt (h : MW g w n p X) {x y : Int32} : CtR g l MX8_throwAt 2 [rf g p, .int x, .int y] w n (.int (thrAt x y (xN X))) := by
  obtain ⟨K, F, Fs, Fb, C, T, hX, hR, -⟩ := h
  have hn := hX.2.2.2.2.2.2.2.2.1
  exact M_throwAt hX.1 hX.2.1 (by omega) hR
theorem Y_isClean (h : MW g w n p X) {x : Int32} : CtR g l MX8_isClean 2 [rf g p, .int x] w n (.int (clnA x (xN X))) := by
  obtain ⟨K, F, Fs, Fb, C, T, hX, hR, -⟩ := h
  have hn := hX.2.2.2.2.2.2.2.2.1
  exact M_isClean hX.1 hX.2.1 (by omega) hR
theorem Y_isCleanAgain (h : MW g w n p X) {x : Int32} : CtR g l MX8_isCleanAgain 3 [rf g p, .int x] w n (.int (clnA x (xN X))) := by
  obtain ⟨K, F, Fs, Fb, C, T, hX, hR, -⟩ := h
  have hn := hX.2.2.2.2.2.2.2.2.1
  exact M_isCleanAgain hX.1 hX.2.1 (by omega) hR
theorem Y_stateOf (h : MW g w n p X) {x y : Int32} : CtR g l MX8_stateOf 2 [rf g p, .int x, .int y] w n (.int (stoA x y (xN X))) := by
  obtain ⟨K, F, Fs, Fb, C, T, hX, hR, -⟩ := h
  have hn := hX.2.2.2.2.2.2.2.2.1
  exact M_stateOf hX.1 hX.2.1 (by omega) hR
theorem Y_juggler (h : MW g w n p X) {x : Int32} : CtR g l MX8_juggler 2 [rf g p, .int x] w n (.int (jugA x (xN X))) := by
  obtain ⟨K, F, Fs, Fb, C, T, hX, hR, -⟩ := h
  have hn := hX.2.2.2.2.2.2.2.2.1
  exact M_juggler hX.1 hX.2.1 (by omega) hR
theorem Y_could (h : MW g w n p X) {x : Int32} : CtR g l MX8_could 1 [rf g p, .int x] w n (.int (couA x (xN X))) := by
  obtain ⟨K, F, Fs, Fb, C, T, hX, hR, -⟩ := h
  have hn := hX.2.2.2.2.2.2.2.2.1
  exact M_could hX.1 hX.2.1 (by omega) hR
theorem Y_ranked (h : MW g w n p X) {x y : Int32} : CtR g l MX8_ranked 4 [rf g p, .int x, .int y] w n (.int (rnkA x y (xN X))) := by
  obtain ⟨K, F, Fs, Fb, C, T, hX, hR, -⟩ := h
  have hn := hX.2.2.2.2.2.2.2.2.1
  exact M_ranked hX.1 hX.2.1 (by omega) hR
end YY
section LK
variable {g : GG} {l : Launch} {FN : FinT}
theorem inc4 (i : Nat) : nI i + Int32.ofInt 4 = nI (i + 4) := nI_add i 4
theorem law_0 {X : XT} {w : HW} {i L : Nat} (hL : g.2.2.2.2.2.1 = L) (hL2 : L ≤ 2048) (hi : i + 4 ≤ L) (hX : XW g w 186 0 X) (hY : MW g w 186 167 X) (hB : Bd X i) (next : ∀ X' w', XW g w' 186 0 X' → MW g w' 186 167 X' → Bd X' (i + 4) → V g l Mlaw room_1 FN 986 [some (.ref g.2.2.2.2.1), some (rf g 0), some (rf g 167), some (.int (nI i))] [] w' 186 186 5422) : V g l Mlaw room_1 FN 184 [some (.ref g.2.2.2.2.1), some (rf g 0), some (rf g 167), some (.int (nI i))] [] w 186 186 5422 := by
  have in1 : vp_in (nI (i + 1)) g.2.2.2.2.2.1 := by rw [hL]; exact vp_in_nI (by omega) (by omega)
  have in2 : vp_in (nI (i + 2)) g.2.2.2.2.2.1 := by rw [hL]; exact vp_in_nI (by omega) (by omega)
  obtain ⟨b0, ox, -⟩ := hX.ob
  obtain ⟨K0, oy, -⟩ := hY.ob
  obtain ⟨hK, hN, hH⟩ := hY.oks
  refine V_aload_n (q := 185) dL_law_184 rfl rfl rfl ?_
  refine V_aload_n (q := 186) dL_law_185 rfl rfl rfl ?_
  refine V_iload_n (q := 187) dL_law_186 rfl rfl ?_
  refine V_iconst (q := 188) (v := nI 1) dL_law_187 rfl (by decide) ?_
  refine V_iadd (q := 189) dL_law_188 rfl (by first | exact nI_add _ _ | rfl) ?_
  refine V_sld (q := 190) dL_law_189 rfl in1 rfl ?_
  refine V_aload_n (q := 191) dL_law_190 rfl rfl rfl ?_
  refine V_iload_n (q := 192) dL_law_191 rfl rfl ?_
  refine V_iconst (q := 193) (v := nI 2) dL_law_192 rfl (by decide) ?_
  refine V_iadd (q := 194) dL_law_193 rfl (by first | exact nI_add _ _ | rfl) ?_
  refine V_sld (q := 195) dL_law_194 rfl in2 rfl ?_
  refine CiL_13 (q := 198) rfl dL_law_195 rfl (X_row hX) ⟨(Nat.le_of_ble_eq_true rfl), (Nat.le_of_ble_eq_true rfl)⟩ (Nat.le_of_ble_eq_true rfl) (by first | assumption | exact up_eq | exact (up_ne (by omega)).trans (by first | assumption | exact up_eq | exact (up_ne (by omega)).trans (by first | assumption | exact up_eq | exact (up_ne (by omega)).trans (by first | assumption | exact up_eq)))) (by omega) (Nat.le_of_ble_eq_true rfl) (Nat.le_of_ble_eq_true rfl) (fun y w1 hw1 => ?_)
  obtain ⟨rfl, hX1, hF1⟩ := hw1
  have hY1 := hY.frame (w' := w1) (fun j a1 a2 => hF1 j (by omega))
  obtain ⟨K1, oy1, -⟩ := hY1.ob
  refine V_aload_n (q := 199) dL_law_198 rfl rfl rfl ?_
  refine V_aload_n (q := 200) dL_law_199 rfl rfl rfl ?_
  refine V_iload_n (q := 201) dL_law_200 rfl rfl ?_
  refine V_iconst (q := 202) (v := nI 1) dL_law_201 rfl (by decide) ?_
  refine V_iadd (q := 203) dL_law_202 rfl (by first | exact nI_add _ _ | rfl) ?_
  refine V_sld (q := 204) dL_law_203 rfl in1 rfl ?_
  refine V_aload_n (q := 205) dL_law_204 rfl rfl rfl ?_
  refine V_iload_n (q := 206) dL_law_205 rfl rfl ?_
  refine V_iconst (q := 207) (v := nI 2) dL_law_206 rfl (by decide) ?_
  refine V_iadd (q := 208) dL_law_207 rfl (by first | exact nI_add _ _ | rfl) ?_
  refine V_sld (q := 209) dL_law_208 rfl in2 rfl ?_
  refine CiL_17 (q := 212) rfl dL_law_209 rfl (Y_row hY1) ⟨(Nat.le_of_ble_eq_true rfl), (Nat.le_of_ble_eq_true rfl)⟩ (Nat.le_of_ble_eq_true rfl) (by first | assumption | exact up_eq | exact (up_ne (by omega)).trans (by first | assumption | exact up_eq | exact (up_ne (by omega)).trans (by first | assumption | exact up_eq | exact (up_ne (by omega)).trans (by first | assumption | exact up_eq)))) (by omega) (Nat.le_of_ble_eq_true rfl) (Nat.le_of_ble_eq_true rfl) (fun y2 w2 hw2 => ?_)
  obtain ⟨rfl, hY2, hF2⟩ := hw2
  have hX2 := hX1.frame (w' := w2) (fun j a1 a2 => hF2 j (by omega))
  refine V_icmp_eq (q := 215) (tgt := 986) dL_law_212 (by decide) rfl (fun _ => ?_) (fun h9 => absurd rfl h9)
  exact next _ _ hX2 hY2 (hB.chg (addA_g hN).2)
theorem law_1 {X : XT} {w : HW} {i L : Nat} (hL : g.2.2.2.2.2.1 = L) (hL2 : L ≤ 2048) (hi : i + 4 ≤ L) (hX : XW g w 186 0 X) (hY : MW g w 186 167 X) (hB : Bd X i) (next : ∀ X' w', XW g w' 186 0 X' → MW g w' 186 167 X' → Bd X' (i + 4) → V g l Mlaw room_1 FN 986 [some (.ref g.2.2.2.2.1), some (rf g 0), some (rf g 167), some (.int (nI i))] [] w' 186 186 5422) : V g l Mlaw room_1 FN 217 [some (.ref g.2.2.2.2.1), some (rf g 0), some (rf g 167), some (.int (nI i))] [] w 186 186 5422 := by
  have in1 : vp_in (nI (i + 1)) g.2.2.2.2.2.1 := by rw [hL]; exact vp_in_nI (by omega) (by omega)
  obtain ⟨b0, ox, -⟩ := hX.ob
  obtain ⟨K0, oy, -⟩ := hY.ob
  obtain ⟨hK, hN, hH⟩ := hY.oks
  refine V_aload_n (q := 218) dL_law_217 rfl rfl rfl ?_
  refine V_aload_n (q := 219) dL_law_218 rfl rfl rfl ?_
  refine V_iload_n (q := 220) dL_law_219 rfl rfl ?_
  refine V_iconst (q := 221) (v := nI 1) dL_law_220 rfl (by decide) ?_
  refine V_iadd (q := 222) dL_law_221 rfl (by first | exact nI_add _ _ | rfl) ?_
  refine V_sld (q := 223) dL_law_222 rfl in1 rfl ?_
  refine CiL_18 (q := 226) rfl dL_law_223 rfl (X_drop hX) ⟨(Nat.le_of_ble_eq_true rfl), (Nat.le_of_ble_eq_true rfl)⟩ (Nat.le_of_ble_eq_true rfl) (by first | assumption | exact up_eq | exact (up_ne (by omega)).trans (by first | assumption | exact up_eq | exact (up_ne (by omega)).trans (by first | assumption | exact up_eq | exact (up_ne (by omega)).trans (by first | assumption | exact up_eq)))) (by omega) (Nat.le_of_ble_eq_true rfl) (Nat.le_of_ble_eq_true rfl) (fun y w1 hw1 => ?_)
  obtain ⟨rfl, hX1, hF1⟩ := hw1
  have hY1 := hY.frame (w' := w1) (fun j a1 a2 => hF1 j (by omega))
  obtain ⟨K1, oy1, -⟩ := hY1.ob
  refine V_aload_n (q := 227) dL_law_226 rfl rfl rfl ?_
  refine V_aload_n (q := 228) dL_law_227 rfl rfl rfl ?_
  refine V_iload_n (q := 229) dL_law_228 rfl rfl ?_
  refine V_iconst (q := 230) (v := nI 1) dL_law_229 rfl (by decide) ?_
  refine V_iadd (q := 231) dL_law_230 rfl (by first | exact nI_add _ _ | rfl) ?_
  refine V_sld (q := 232) dL_law_231 rfl in1 rfl ?_
  refine CiL_22 (q := 235) rfl dL_law_232 rfl (Y_drop hY1) ⟨(Nat.le_of_ble_eq_true rfl), (Nat.le_of_ble_eq_true rfl)⟩ (Nat.le_of_ble_eq_true rfl) (by first | assumption | exact up_eq | exact (up_ne (by omega)).trans (by first | assumption | exact up_eq | exact (up_ne (by omega)).trans (by first | assumption | exact up_eq | exact (up_ne (by omega)).trans (by first | assumption | exact up_eq)))) (by omega) (Nat.le_of_ble_eq_true rfl) (Nat.le_of_ble_eq_true rfl) (fun y2 w2 hw2 => ?_)
  obtain ⟨rfl, hY2, hF2⟩ := hw2
  have hX2 := hX1.frame (w' := w2) (fun j a1 a2 => hF2 j (by omega))
  refine V_icmp_eq (q := 238) (tgt := 986) dL_law_235 (by decide) rfl (fun _ => ?_) (fun h9 => absurd rfl h9)
  exact next _ _ hX2 hY2 (hB.chg (dropA_g hN).2)
theorem law_2 {X : XT} {w : HW} {i L : Nat} (hL : g.2.2.2.2.2.1 = L) (hL2 : L ≤ 2048) (hi : i + 4 ≤ L) (hX : XW g w 186 0 X) (hY : MW g w 186 167 X) (hB : Bd X i) (next : ∀ X' w', XW g w' 186 0 X' → MW g w' 186 167 X' → Bd X' (i + 4) → V g l Mlaw room_1 FN 986 [some (.ref g.2.2.2.2.1), some (rf g 0), some (rf g 167), some (.int (nI i))] [] w' 186 186 5422) : V g l Mlaw room_1 FN 240 [some (.ref g.2.2.2.2.1), some (rf g 0), some (rf g 167), some (.int (nI i))] [] w 186 186 5422 := by
  have in1 : vp_in (nI (i + 1)) g.2.2.2.2.2.1 := by rw [hL]; exact vp_in_nI (by omega) (by omega)
  obtain ⟨b0, ox, -⟩ := hX.ob
  obtain ⟨K0, oy, -⟩ := hY.ob
  obtain ⟨hK, hN, hH⟩ := hY.oks
  refine V_aload_n (q := 241) dL_law_240 rfl rfl rfl ?_
  refine V_aload_n (q := 242) dL_law_241 rfl rfl rfl ?_
  refine V_iload_n (q := 243) dL_law_242 rfl rfl ?_
  refine V_iconst (q := 244) (v := nI 1) dL_law_243 rfl (by decide) ?_
  refine V_iadd (q := 245) dL_law_244 rfl (by first | exact nI_add _ _ | rfl) ?_
  refine V_sld (q := 246) dL_law_245 rfl in1 rfl ?_
  refine CiL_23 (q := 249) rfl dL_law_246 rfl (X_turn hX) ⟨(Nat.le_of_ble_eq_true rfl), (Nat.le_of_ble_eq_true rfl)⟩ (Nat.le_of_ble_eq_true rfl) (by first | assumption | exact up_eq | exact (up_ne (by omega)).trans (by first | assumption | exact up_eq | exact (up_ne (by omega)).trans (by first | assumption | exact up_eq | exact (up_ne (by omega)).trans (by first | assumption | exact up_eq)))) (by omega) (Nat.le_of_ble_eq_true rfl) (Nat.le_of_ble_eq_true rfl) (fun y w1 hw1 => ?_)
  obtain ⟨rfl, hX1, hF1⟩ := hw1
  have hY1 := hY.frame (w' := w1) (fun j a1 a2 => hF1 j (by omega))
  obtain ⟨K1, oy1, -⟩ := hY1.ob
  refine V_aload_n (q := 250) dL_law_249 rfl rfl rfl ?_
  refine V_aload_n (q := 251) dL_law_250 rfl rfl rfl ?_
  refine V_iload_n (q := 252) dL_law_251 rfl rfl ?_
  refine V_iconst (q := 253) (v := nI 1) dL_law_252 rfl (by decide) ?_
  refine V_iadd (q := 254) dL_law_253 rfl (by first | exact nI_add _ _ | rfl) ?_
  refine V_sld (q := 255) dL_law_254 rfl in1 rfl ?_
  refine CiL_26 (q := 258) rfl dL_law_255 rfl (Y_turn hY1) ⟨(Nat.le_of_ble_eq_true rfl), (Nat.le_of_ble_eq_true rfl)⟩ (Nat.le_of_ble_eq_true rfl) (by first | assumption | exact up_eq | exact (up_ne (by omega)).trans (by first | assumption | exact up_eq | exact (up_ne (by omega)).trans (by first | assumption | exact up_eq | exact (up_ne (by omega)).trans (by first | assumption | exact up_eq)))) (by omega) (Nat.le_of_ble_eq_true rfl) (Nat.le_of_ble_eq_true rfl) (fun y2 w2 hw2 => ?_)
  obtain ⟨rfl, hY2, hF2⟩ := hw2
  have hX2 := hX1.frame (w' := w2) (fun j a1 a2 => hF2 j (by omega))
  refine V_icmp_eq (q := 261) (tgt := 986) dL_law_258 (by decide) rfl (fun _ => ?_) (fun h9 => absurd rfl h9)
  exact next _ _ hX2 hY2 (hB.chg (turnA_g hN).2)
theorem law_3 {X : XT} {w : HW} {i L : Nat} (hL : g.2.2.2.2.2.1 = L) (hL2 : L ≤ 2048) (hi : i + 4 ≤ L) (hX : XW g w 186 0 X) (hY : MW g w 186 167 X) (hB : Bd X i) (next : ∀ X' w', XW g w' 186 0 X' → MW g w' 186 167 X' → Bd X' (i + 4) → V g l Mlaw room_1 FN 986 [some (.ref g.2.2.2.2.1), some (rf g 0), some (rf g 167), some (.int (nI i))] [] w' 186 186 5422) : V g l Mlaw room_1 FN 263 [some (.ref g.2.2.2.2.1), some (rf g 0), some (rf g 167), some (.int (nI i))] [] w 186 186 5422 := by
  have in1 : vp_in (nI (i + 1)) g.2.2.2.2.2.1 := by rw [hL]; exact vp_in_nI (by omega) (by omega)
  have in2 : vp_in (nI (i + 2)) g.2.2.2.2.2.1 := by rw [hL]; exact vp_in_nI (by omega) (by omega)
  have in3 : vp_in (nI (i + 3)) g.2.2.2.2.2.1 := by rw [hL]; exact vp_in_nI (by omega) (by omega)
  obtain ⟨b0, ox, -⟩ := hX.ob
  obtain ⟨K0, oy, -⟩ := hY.ob
  obtain ⟨hK, hN, hH⟩ := hY.oks
  refine V_aload_n (q := 264) dL_law_263 rfl rfl rfl ?_
  refine V_aload_n (q := 265) dL_law_264 rfl rfl rfl ?_
  refine V_iload_n (q := 266) dL_law_265 rfl rfl ?_
  refine V_iconst (q := 267) (v := nI 1) dL_law_266 rfl (by decide) ?_
  refine V_iadd (q := 268) dL_law_267 rfl (by first | exact nI_add _ _ | rfl) ?_
  refine V_sld (q := 269) dL_law_268 rfl in1 rfl ?_
  refine V_aload_n (q := 270) dL_law_269 rfl rfl rfl ?_
  refine V_iload_n (q := 271) dL_law_270 rfl rfl ?_
  refine V_iconst (q := 272) (v := nI 2) dL_law_271 rfl (by decide) ?_
  refine V_iadd (q := 273) dL_law_272 rfl (by first | exact nI_add _ _ | rfl) ?_
  refine V_sld (q := 274) dL_law_273 rfl in2 rfl ?_
  refine V_aload_n (q := 275) dL_law_274 rfl rfl rfl ?_
  refine V_iload_n (q := 276) dL_law_275 rfl rfl ?_
  refine V_iconst (q := 277) (v := nI 3) dL_law_276 rfl (by decide) ?_
  refine V_iadd (q := 278) dL_law_277 rfl (by first | exact nI_add _ _ | rfl) ?_
  refine V_sld (q := 279) dL_law_278 rfl in3 rfl ?_
  refine CiL_27 (q := 282) rfl dL_law_279 rfl (X_swap hX) ⟨(Nat.le_of_ble_eq_true rfl), (Nat.le_of_ble_eq_true rfl)⟩ (Nat.le_of_ble_eq_true rfl) (by first | assumption | exact up_eq | exact (up_ne (by omega)).trans (by first | assumption | exact up_eq | exact (up_ne (by omega)).trans (by first | assumption | exact up_eq | exact (up_ne (by omega)).trans (by first | assumption | exact up_eq)))) (by omega) (Nat.le_of_ble_eq_true rfl) (Nat.le_of_ble_eq_true rfl) (fun y w1 hw1 => ?_)
  obtain ⟨rfl, hX1, hF1⟩ := hw1
  have hY1 := hY.frame (w' := w1) (fun j a1 a2 => hF1 j (by omega))
  obtain ⟨K1, oy1, -⟩ := hY1.ob
  refine V_aload_n (q := 283) dL_law_282 rfl rfl rfl ?_
  refine V_aload_n (q := 284) dL_law_283 rfl rfl rfl ?_
  refine V_iload_n (q := 285) dL_law_284 rfl rfl ?_
  refine V_iconst (q := 286) (v := nI 1) dL_law_285 rfl (by decide) ?_
  refine V_iadd (q := 287) dL_law_286 rfl (by first | exact nI_add _ _ | rfl) ?_
  refine V_sld (q := 288) dL_law_287 rfl in1 rfl ?_
  refine V_aload_n (q := 289) dL_law_288 rfl rfl rfl ?_
  refine V_iload_n (q := 290) dL_law_289 rfl rfl ?_
  refine V_iconst (q := 291) (v := nI 2) dL_law_290 rfl (by decide) ?_
  refine V_iadd (q := 292) dL_law_291 rfl (by first | exact nI_add _ _ | rfl) ?_
  refine V_sld (q := 293) dL_law_292 rfl in2 rfl ?_
  refine V_aload_n (q := 294) dL_law_293 rfl rfl rfl ?_
  refine V_iload_n (q := 295) dL_law_294 rfl rfl ?_
  refine V_iconst (q := 296) (v := nI 3) dL_law_295 rfl (by decide) ?_
  refine V_iadd (q := 297) dL_law_296 rfl (by first | exact nI_add _ _ | rfl) ?_
  refine V_sld (q := 298) dL_law_297 rfl in3 rfl ?_
  refine CiL_31 (q := 301) rfl dL_law_298 rfl (Y_swap hY1) ⟨(Nat.le_of_ble_eq_true rfl), (Nat.le_of_ble_eq_true rfl)⟩ (Nat.le_of_ble_eq_true rfl) (by first | assumption | exact up_eq | exact (up_ne (by omega)).trans (by first | assumption | exact up_eq | exact (up_ne (by omega)).trans (by first | assumption | exact up_eq | exact (up_ne (by omega)).trans (by first | assumption | exact up_eq)))) (by omega) (Nat.le_of_ble_eq_true rfl) (Nat.le_of_ble_eq_true rfl) (fun y2 w2 hw2 => ?_)
  obtain ⟨rfl, hY2, hF2⟩ := hw2
  have hX2 := hX1.frame (w' := w2) (fun j a1 a2 => hF2 j (by omega))
  refine V_icmp_eq (q := 304) (tgt := 986) dL_law_301 (by decide) rfl (fun _ => ?_) (fun h9 => absurd rfl h9)
  exact next _ _ hX2 hY2 (hB.chg swapA_g.2)
theorem law_4 {X : XT} {w : HW} {i L : Nat} (hL : g.2.2.2.2.2.1 = L) (hL2 : L ≤ 2048) (hi : i + 4 ≤ L) (hX : XW g w 186 0 X) (hY : MW g w 186 167 X) (hB : Bd X i) (next : ∀ X' w', XW g w' 186 0 X' → MW g w' 186 167 X' → Bd X' (i + 4) → V g l Mlaw room_1 FN 986 [some (.ref g.2.2.2.2.1), some (rf g 0), some (rf g 167), some (.int (nI i))] [] w' 186 186 5422) : V g l Mlaw room_1 FN 306 [some (.ref g.2.2.2.2.1), some (rf g 0), some (rf g 167), some (.int (nI i))] [] w 186 186 5422 := by
  have in1 : vp_in (nI (i + 1)) g.2.2.2.2.2.1 := by rw [hL]; exact vp_in_nI (by omega) (by omega)
  obtain ⟨b0, ox, -⟩ := hX.ob
  obtain ⟨K0, oy, -⟩ := hY.ob
  obtain ⟨hK, hN, hH⟩ := hY.oks
  refine V_aload_n (q := 307) dL_law_306 rfl rfl rfl ?_
  refine V_aload_n (q := 308) dL_law_307 rfl rfl rfl ?_
  refine V_iload_n (q := 309) dL_law_308 rfl rfl ?_
  refine V_iconst (q := 310) (v := nI 1) dL_law_309 rfl (by decide) ?_
  refine V_iadd (q := 311) dL_law_310 rfl (by first | exact nI_add _ _ | rfl) ?_
  refine V_sld (q := 312) dL_law_311 rfl in1 rfl ?_
  refine CiL_32 (q := 315) rfl dL_law_312 rfl (X_lift hX) ⟨(Nat.le_of_ble_eq_true rfl), (Nat.le_of_ble_eq_true rfl)⟩ (Nat.le_of_ble_eq_true rfl) (by first | assumption | exact up_eq | exact (up_ne (by omega)).trans (by first | assumption | exact up_eq | exact (up_ne (by omega)).trans (by first | assumption | exact up_eq | exact (up_ne (by omega)).trans (by first | assumption | exact up_eq)))) (by omega) (Nat.le_of_ble_eq_true rfl) (Nat.le_of_ble_eq_true rfl) (fun y w1 hw1 => ?_)
  obtain ⟨rfl, hX1, hF1⟩ := hw1
  have hY1 := hY.frame (w' := w1) (fun j a1 a2 => hF1 j (by omega))
  obtain ⟨K1, oy1, -⟩ := hY1.ob
  refine V_aload_n (q := 316) dL_law_315 rfl rfl rfl ?_
  refine V_aload_n (q := 317) dL_law_316 rfl rfl rfl ?_
  refine V_iload_n (q := 318) dL_law_317 rfl rfl ?_
  refine V_iconst (q := 319) (v := nI 1) dL_law_318 rfl (by decide) ?_
  refine V_iadd (q := 320) dL_law_319 rfl (by first | exact nI_add _ _ | rfl) ?_
  refine V_sld (q := 321) dL_law_320 rfl in1 rfl ?_
  refine CiL_35 (q := 324) rfl dL_law_321 rfl (Y_lift hY1) ⟨(Nat.le_of_ble_eq_true rfl), (Nat.le_of_ble_eq_true rfl)⟩ (Nat.le_of_ble_eq_true rfl) (by first | assumption | exact up_eq | exact (up_ne (by omega)).trans (by first | assumption | exact up_eq | exact (up_ne (by omega)).trans (by first | assumption | exact up_eq | exact (up_ne (by omega)).trans (by first | assumption | exact up_eq)))) (by omega) (Nat.le_of_ble_eq_true rfl) (Nat.le_of_ble_eq_true rfl) (fun y2 w2 hw2 => ?_)
  obtain ⟨rfl, hY2, hF2⟩ := hw2
  have hX2 := hX1.frame (w' := w2) (fun j a1 a2 => hF2 j (by omega))
  refine V_icmp_eq (q := 327) (tgt := 986) dL_law_324 (by decide) rfl (fun _ => ?_) (fun h9 => absurd rfl h9)
  exact next _ _ hX2 hY2 (hB.chg (liftA_g hN).2)
theorem law_5 {X : XT} {w : HW} {i L : Nat} (hL : g.2.2.2.2.2.1 = L) (hL2 : L ≤ 2048) (hi : i + 4 ≤ L) (hX : XW g w 186 0 X) (hY : MW g w 186 167 X) (hB : Bd X i) (next : ∀ X' w', XW g w' 186 0 X' → MW g w' 186 167 X' → Bd X' (i + 4) → V g l Mlaw room_1 FN 986 [some (.ref g.2.2.2.2.1), some (rf g 0), some (rf g 167), some (.int (nI i))] [] w' 186 186 5422) : V g l Mlaw room_1 FN 329 [some (.ref g.2.2.2.2.1), some (rf g 0), some (rf g 167), some (.int (nI i))] [] w 186 186 5422 := by
  have in1 : vp_in (nI (i + 1)) g.2.2.2.2.2.1 := by rw [hL]; exact vp_in_nI (by omega) (by omega)
  obtain ⟨b0, ox, -⟩ := hX.ob
  obtain ⟨K0, oy, -⟩ := hY.ob
  obtain ⟨hK, hN, hH⟩ := hY.oks
  refine V_aload_n (q := 330) dL_law_329 rfl rfl rfl ?_
  refine V_aload_n (q := 331) dL_law_330 rfl rfl rfl ?_
  refine V_iload_n (q := 332) dL_law_331 rfl rfl ?_
  refine V_iconst (q := 333) (v := nI 1) dL_law_332 rfl (by decide) ?_
  refine V_iadd (q := 334) dL_law_333 rfl (by first | exact nI_add _ _ | rfl) ?_
  refine V_sld (q := 335) dL_law_334 rfl in1 rfl ?_
  refine CiL_36 (q := 338) rfl dL_law_335 rfl (X_begin hX) ⟨(Nat.le_of_ble_eq_true rfl), (Nat.le_of_ble_eq_true rfl)⟩ (Nat.le_of_ble_eq_true rfl) (by first | assumption | exact up_eq | exact (up_ne (by omega)).trans (by first | assumption | exact up_eq | exact (up_ne (by omega)).trans (by first | assumption | exact up_eq | exact (up_ne (by omega)).trans (by first | assumption | exact up_eq)))) (by omega) (Nat.le_of_ble_eq_true rfl) (Nat.le_of_ble_eq_true rfl) (fun y w1 hw1 => ?_)
  obtain ⟨rfl, hX1, hF1⟩ := hw1
  have hY1 := hY.frame (w' := w1) (fun j a1 a2 => hF1 j (by omega))
  obtain ⟨K1, oy1, -⟩ := hY1.ob
  refine V_aload_n (q := 339) dL_law_338 rfl rfl rfl ?_
  refine V_aload_n (q := 340) dL_law_339 rfl rfl rfl ?_
  refine V_iload_n (q := 341) dL_law_340 rfl rfl ?_
  refine V_iconst (q := 342) (v := nI 1) dL_law_341 rfl (by decide) ?_
  refine V_iadd (q := 343) dL_law_342 rfl (by first | exact nI_add _ _ | rfl) ?_
  refine V_sld (q := 344) dL_law_343 rfl in1 rfl ?_
  refine CiL_39 (q := 347) rfl dL_law_344 rfl (Y_begin hY1) ⟨(Nat.le_of_ble_eq_true rfl), (Nat.le_of_ble_eq_true rfl)⟩ (Nat.le_of_ble_eq_true rfl) (by first | assumption | exact up_eq | exact (up_ne (by omega)).trans (by first | assumption | exact up_eq | exact (up_ne (by omega)).trans (by first | assumption | exact up_eq | exact (up_ne (by omega)).trans (by first | assumption | exact up_eq)))) (by omega) (Nat.le_of_ble_eq_true rfl) (Nat.le_of_ble_eq_true rfl) (fun y2 w2 hw2 => ?_)
  obtain ⟨rfl, hY2, hF2⟩ := hw2
  have hX2 := hX1.frame (w' := w2) (fun j a1 a2 => hF2 j (by omega))
  refine V_icmp_eq (q := 350) (tgt := 986) dL_law_347 (by decide) rfl (fun _ => ?_) (fun h9 => absurd rfl h9)
  exact next _ _ hX2 hY2 (hB.chg beginA_g.2)
theorem law_6 {X : XT} {w : HW} {i L : Nat} (hL : g.2.2.2.2.2.1 = L) (hL2 : L ≤ 2048) (hi : i + 4 ≤ L) (hX : XW g w 186 0 X) (hY : MW g w 186 167 X) (hB : Bd X i) (next : ∀ X' w', XW g w' 186 0 X' → MW g w' 186 167 X' → Bd X' (i + 4) → V g l Mlaw room_1 FN 986 [some (.ref g.2.2.2.2.1), some (rf g 0), some (rf g 167), some (.int (nI i))] [] w' 186 186 5422) : V g l Mlaw room_1 FN 352 [some (.ref g.2.2.2.2.1), some (rf g 0), some (rf g 167), some (.int (nI i))] [] w 186 186 5422 := by
  have in1 : vp_in (nI (i + 1)) g.2.2.2.2.2.1 := by rw [hL]; exact vp_in_nI (by omega) (by omega)
  obtain ⟨b0, ox, -⟩ := hX.ob
  obtain ⟨K0, oy, -⟩ := hY.ob
  obtain ⟨hK, hN, hH⟩ := hY.oks
  refine V_aload_n (q := 353) dL_law_352 rfl rfl rfl ?_
  refine V_aload_n (q := 354) dL_law_353 rfl rfl rfl ?_
  refine V_iload_n (q := 355) dL_law_354 rfl rfl ?_
  refine V_iconst (q := 356) (v := nI 1) dL_law_355 rfl (by decide) ?_
  refine V_iadd (q := 357) dL_law_356 rfl (by first | exact nI_add _ _ | rfl) ?_
  refine V_sld (q := 358) dL_law_357 rfl in1 rfl ?_
  refine CiL_40 (q := 361) rfl dL_law_358 rfl (X_toss hX hK) ⟨(Nat.le_of_ble_eq_true rfl), (Nat.le_of_ble_eq_true rfl)⟩ (Nat.le_of_ble_eq_true rfl) (by first | assumption | exact up_eq | exact (up_ne (by omega)).trans (by first | assumption | exact up_eq | exact (up_ne (by omega)).trans (by first | assumption | exact up_eq | exact (up_ne (by omega)).trans (by first | assumption | exact up_eq)))) (by omega) (Nat.le_of_ble_eq_true rfl) (Nat.le_of_ble_eq_true rfl) (fun y w1 hw1 => ?_)
  obtain ⟨rfl, hX1, hF1⟩ := hw1
  have hY1 := hY.frame (w' := w1) (fun j a1 a2 => hF1 j (by omega))
  obtain ⟨K1, oy1, -⟩ := hY1.ob
  refine V_aload_n (q := 362) dL_law_361 rfl rfl rfl ?_
  refine V_aload_n (q := 363) dL_law_362 rfl rfl rfl ?_
  refine V_iload_n (q := 364) dL_law_363 rfl rfl ?_
  refine V_iconst (q := 365) (v := nI 1) dL_law_364 rfl (by decide) ?_
  refine V_iadd (q := 366) dL_law_365 rfl (by first | exact nI_add _ _ | rfl) ?_
  refine V_sld (q := 367) dL_law_366 rfl in1 rfl ?_
  refine CiL_43 (q := 370) rfl dL_law_367 rfl (Y_toss hY1 (by have := hB.1; omega)) ⟨(Nat.le_of_ble_eq_true rfl), (Nat.le_of_ble_eq_true rfl)⟩ (Nat.le_of_ble_eq_true rfl) (by first | assumption | exact up_eq | exact (up_ne (by omega)).trans (by first | assumption | exact up_eq | exact (up_ne (by omega)).trans (by first | assumption | exact up_eq | exact (up_ne (by omega)).trans (by first | assumption | exact up_eq)))) (by omega) (Nat.le_of_ble_eq_true rfl) (Nat.le_of_ble_eq_true rfl) (fun y2 w2 hw2 => ?_)
  obtain ⟨rfl, hY2, hF2⟩ := hw2
  have hX2 := hX1.frame (w' := w2) (fun j a1 a2 => hF2 j (by omega))
  refine V_icmp_eq (q := 373) (tgt := 986) dL_law_370 (by decide) rfl (fun _ => ?_) (fun h9 => absurd rfl h9)
  exact next _ _ hX2 hY2 (hB.chg tossA_g.2)
theorem law_7 {X : XT} {w : HW} {i L : Nat} (hL : g.2.2.2.2.2.1 = L) (hL2 : L ≤ 2048) (hi : i + 4 ≤ L) (hX : XW g w 186 0 X) (hY : MW g w 186 167 X) (hB : Bd X i) (next : ∀ X' w', XW g w' 186 0 X' → MW g w' 186 167 X' → Bd X' (i + 4) → V g l Mlaw room_1 FN 986 [some (.ref g.2.2.2.2.1), some (rf g 0), some (rf g 167), some (.int (nI i))] [] w' 186 186 5422) : V g l Mlaw room_1 FN 375 [some (.ref g.2.2.2.2.1), some (rf g 0), some (rf g 167), some (.int (nI i))] [] w 186 186 5422 := by
  have in1 : vp_in (nI (i + 1)) g.2.2.2.2.2.1 := by rw [hL]; exact vp_in_nI (by omega) (by omega)
  obtain ⟨b0, ox, -⟩ := hX.ob
  obtain ⟨K0, oy, -⟩ := hY.ob
  obtain ⟨hK, hN, hH⟩ := hY.oks
  refine V_aload_n (q := 376) dL_law_375 rfl rfl rfl ?_
  refine V_aload_n (q := 377) dL_law_376 rfl rfl rfl ?_
  refine V_iload_n (q := 378) dL_law_377 rfl rfl ?_
  refine V_iconst (q := 379) (v := nI 1) dL_law_378 rfl (by decide) ?_
  refine V_iadd (q := 380) dL_law_379 rfl (by first | exact nI_add _ _ | rfl) ?_
  refine V_sld (q := 381) dL_law_380 rfl in1 rfl ?_
  refine CiL_44 (q := 384) rfl dL_law_381 rfl (X_join hX hK) ⟨(Nat.le_of_ble_eq_true rfl), (Nat.le_of_ble_eq_true rfl)⟩ (Nat.le_of_ble_eq_true rfl) (by first | assumption | exact up_eq | exact (up_ne (by omega)).trans (by first | assumption | exact up_eq | exact (up_ne (by omega)).trans (by first | assumption | exact up_eq | exact (up_ne (by omega)).trans (by first | assumption | exact up_eq)))) (by omega) (Nat.le_of_ble_eq_true rfl) (Nat.le_of_ble_eq_true rfl) (fun y w1 hw1 => ?_)
  obtain ⟨rfl, hX1, hF1⟩ := hw1
  have hY1 := hY.frame (w' := w1) (fun j a1 a2 => hF1 j (by omega))
  obtain ⟨K1, oy1, -⟩ := hY1.ob
  refine V_aload_n (q := 385) dL_law_384 rfl rfl rfl ?_
  refine V_aload_n (q := 386) dL_law_385 rfl rfl rfl ?_
  refine V_iload_n (q := 387) dL_law_386 rfl rfl ?_
  refine V_iconst (q := 388) (v := nI 1) dL_law_387 rfl (by decide) ?_
  refine V_iadd (q := 389) dL_law_388 rfl (by first | exact nI_add _ _ | rfl) ?_
  refine V_sld (q := 390) dL_law_389 rfl in1 rfl ?_
  refine CiL_47 (q := 393) rfl dL_law_390 rfl (Y_join hY1 (by have := hB.1; omega)) ⟨(Nat.le_of_ble_eq_true rfl), (Nat.le_of_ble_eq_true rfl)⟩ (Nat.le_of_ble_eq_true rfl) (by first | assumption | exact up_eq | exact (up_ne (by omega)).trans (by first | assumption | exact up_eq | exact (up_ne (by omega)).trans (by first | assumption | exact up_eq | exact (up_ne (by omega)).trans (by first | assumption | exact up_eq)))) (by omega) (Nat.le_of_ble_eq_true rfl) (Nat.le_of_ble_eq_true rfl) (fun y2 w2 hw2 => ?_)
  obtain ⟨rfl, hY2, hF2⟩ := hw2
  have hX2 := hX1.frame (w' := w2) (fun j a1 a2 => hF2 j (by omega))
  refine V_icmp_eq (q := 396) (tgt := 986) dL_law_393 (by decide) rfl (fun _ => ?_) (fun h9 => absurd rfl h9)
  exact next _ _ hX2 hY2 (hB.chg (joinA_g hK hN).2)
theorem law_8 {X : XT} {w : HW} {i L : Nat} (hL : g.2.2.2.2.2.1 = L) (hL2 : L ≤ 2048) (hi : i + 4 ≤ L) (hX : XW g w 186 0 X) (hY : MW g w 186 167 X) (hB : Bd X i) (next : ∀ X' w', XW g w' 186 0 X' → MW g w' 186 167 X' → Bd X' (i + 4) → V g l Mlaw room_1 FN 986 [some (.ref g.2.2.2.2.1), some (rf g 0), some (rf g 167), some (.int (nI i))] [] w' 186 186 5422) : V g l Mlaw room_1 FN 398 [some (.ref g.2.2.2.2.1), some (rf g 0), some (rf g 167), some (.int (nI i))] [] w 186 186 5422 := by
  have in1 : vp_in (nI (i + 1)) g.2.2.2.2.2.1 := by rw [hL]; exact vp_in_nI (by omega) (by omega)
  obtain ⟨b0, ox, -⟩ := hX.ob
  obtain ⟨K0, oy, -⟩ := hY.ob
  obtain ⟨hK, hN, hH⟩ := hY.oks
  refine V_aload_n (q := 399) dL_law_398 rfl rfl rfl ?_
  refine V_aload_n (q := 400) dL_law_399 rfl rfl rfl ?_
  refine V_iload_n (q := 401) dL_law_400 rfl rfl ?_
  refine V_iconst (q := 402) (v := nI 1) dL_law_401 rfl (by decide) ?_
  refine V_iadd (q := 403) dL_law_402 rfl (by first | exact nI_add _ _ | rfl) ?_
  refine V_sld (q := 404) dL_law_403 rfl in1 rfl ?_
  refine CiL_48 (q := 407) rfl dL_law_404 rfl (X_once hX hK) ⟨(Nat.le_of_ble_eq_true rfl), (Nat.le_of_ble_eq_true rfl)⟩ (Nat.le_of_ble_eq_true rfl) (by first | assumption | exact up_eq | exact (up_ne (by omega)).trans (by first | assumption | exact up_eq | exact (up_ne (by omega)).trans (by first | assumption | exact up_eq | exact (up_ne (by omega)).trans (by first | assumption | exact up_eq)))) (by omega) (Nat.le_of_ble_eq_true rfl) (Nat.le_of_ble_eq_true rfl) (fun y w1 hw1 => ?_)
  obtain ⟨rfl, hX1, hF1⟩ := hw1
  have hY1 := hY.frame (w' := w1) (fun j a1 a2 => hF1 j (by omega))
  obtain ⟨K1, oy1, -⟩ := hY1.ob
  refine V_aload_n (q := 408) dL_law_407 rfl rfl rfl ?_
  refine V_aload_n (q := 409) dL_law_408 rfl rfl rfl ?_
  refine V_iload_n (q := 410) dL_law_409 rfl rfl ?_
  refine V_iconst (q := 411) (v := nI 1) dL_law_410 rfl (by decide) ?_
  refine V_iadd (q := 412) dL_law_411 rfl (by first | exact nI_add _ _ | rfl) ?_
  refine V_sld (q := 413) dL_law_412 rfl in1 rfl ?_
  refine CiL_51 (q := 416) rfl dL_law_413 rfl (Y_once hY1 (by have := hB.1; omega)) ⟨(Nat.le_of_ble_eq_true rfl), (Nat.le_of_ble_eq_true rfl)⟩ (Nat.le_of_ble_eq_true rfl) (by first | assumption | exact up_eq | exact (up_ne (by omega)).trans (by first | assumption | exact up_eq | exact (up_ne (by omega)).trans (by first | assumption | exact up_eq | exact (up_ne (by omega)).trans (by first | assumption | exact up_eq)))) (by omega) (Nat.le_of_ble_eq_true rfl) (Nat.le_of_ble_eq_true rfl) (fun y2 w2 hw2 => ?_)
  obtain ⟨rfl, hY2, hF2⟩ := hw2
  have hX2 := hX1.frame (w' := w2) (fun j a1 a2 => hF2 j (by omega))
  refine V_icmp_eq (q := 419) (tgt := 986) dL_law_416 (by decide) rfl (fun _ => ?_) (fun h9 => absurd rfl h9)
  exact next _ _ hX2 hY2 (hB.chg (onceA_g hN).2)
theorem law_9 {X : XT} {w : HW} {i L : Nat} (hL : g.2.2.2.2.2.1 = L) (hL2 : L ≤ 2048) (hi : i + 4 ≤ L) (hX : XW g w 186 0 X) (hY : MW g w 186 167 X) (hB : Bd X i) (next : ∀ X' w', XW g w' 186 0 X' → MW g w' 186 167 X' → Bd X' (i + 4) → V g l Mlaw room_1 FN 986 [some (.ref g.2.2.2.2.1), some (rf g 0), some (rf g 167), some (.int (nI i))] [] w' 186 186 5422) : V g l Mlaw room_1 FN 421 [some (.ref g.2.2.2.2.1), some (rf g 0), some (rf g 167), some (.int (nI i))] [] w 186 186 5422 := by
  have in1 : vp_in (nI (i + 1)) g.2.2.2.2.2.1 := by rw [hL]; exact vp_in_nI (by omega) (by omega)
  have in2 : vp_in (nI (i + 2)) g.2.2.2.2.2.1 := by rw [hL]; exact vp_in_nI (by omega) (by omega)
  obtain ⟨b0, ox, -⟩ := hX.ob
  obtain ⟨K0, oy, -⟩ := hY.ob
  obtain ⟨hK, hN, hH⟩ := hY.oks
  refine V_aload_n (q := 422) dL_law_421 rfl rfl rfl ?_
  refine V_aload_n (q := 423) dL_law_422 rfl rfl rfl ?_
  refine V_iload_n (q := 424) dL_law_423 rfl rfl ?_
  refine V_iconst (q := 425) (v := nI 1) dL_law_424 rfl (by decide) ?_
  refine V_iadd (q := 426) dL_law_425 rfl (by first | exact nI_add _ _ | rfl) ?_
  refine V_sld (q := 427) dL_law_426 rfl in1 rfl ?_
  refine V_aload_n (q := 428) dL_law_427 rfl rfl rfl ?_
  refine V_iload_n (q := 429) dL_law_428 rfl rfl ?_
  refine V_iconst (q := 430) (v := nI 2) dL_law_429 rfl (by decide) ?_
  refine V_iadd (q := 431) dL_law_430 rfl (by first | exact nI_add _ _ | rfl) ?_
  refine V_sld (q := 432) dL_law_431 rfl in2 rfl ?_
  refine CrL_52 (q := 435) rfl dL_law_432 rfl (X_rowOf hX) ⟨(Nat.le_of_ble_eq_true rfl), (Nat.le_of_ble_eq_true rfl)⟩ (Nat.le_of_ble_eq_true rfl) (by first | assumption | exact up_eq | exact (up_ne (by omega)).trans (by first | assumption | exact up_eq | exact (up_ne (by omega)).trans (by first | assumption | exact up_eq | exact (up_ne (by omega)).trans (by first | assumption | exact up_eq)))) (by omega) (Nat.le_of_ble_eq_true rfl) (Nat.le_of_ble_eq_true rfl) ?_
  have hX1 := hX
  have hY1 := hY
  have oy1 := oy
  refine V_aload_n (q := 436) dL_law_435 rfl rfl rfl ?_
  refine V_aload_n (q := 437) dL_law_436 rfl rfl rfl ?_
  refine V_iload_n (q := 438) dL_law_437 rfl rfl ?_
  refine V_iconst (q := 439) (v := nI 1) dL_law_438 rfl (by decide) ?_
  refine V_iadd (q := 440) dL_law_439 rfl (by first | exact nI_add _ _ | rfl) ?_
  refine V_sld (q := 441) dL_law_440 rfl in1 rfl ?_
  refine V_aload_n (q := 442) dL_law_441 rfl rfl rfl ?_
  refine V_iload_n (q := 443) dL_law_442 rfl rfl ?_
  refine V_iconst (q := 444) (v := nI 2) dL_law_443 rfl (by decide) ?_
  refine V_iadd (q := 445) dL_law_444 rfl (by first | exact nI_add _ _ | rfl) ?_
  refine V_sld (q := 446) dL_law_445 rfl in2 rfl ?_
  refine CrL_55 (q := 449) rfl dL_law_446 rfl (Y_rowOf hY1) ⟨(Nat.le_of_ble_eq_true rfl), (Nat.le_of_ble_eq_true rfl)⟩ (Nat.le_of_ble_eq_true rfl) (by first | assumption | exact up_eq | exact (up_ne (by omega)).trans (by first | assumption | exact up_eq | exact (up_ne (by omega)).trans (by first | assumption | exact up_eq | exact (up_ne (by omega)).trans (by first | assumption | exact up_eq)))) (by omega) (Nat.le_of_ble_eq_true rfl) (Nat.le_of_ble_eq_true rfl) ?_
  have hX2 := hX1
  have hY2 := hY1
  refine V_icmp_eq (q := 452) (tgt := 986) dL_law_449 (by decide) rfl (fun _ => ?_) (fun h9 => absurd rfl h9)
  exact next _ _ hX2 hY2 (hB.same rfl rfl rfl)
theorem law_10 {X : XT} {w : HW} {i L : Nat} (hL : g.2.2.2.2.2.1 = L) (hL2 : L ≤ 2048) (hi : i + 4 ≤ L) (hX : XW g w 186 0 X) (hY : MW g w 186 167 X) (hB : Bd X i) (next : ∀ X' w', XW g w' 186 0 X' → MW g w' 186 167 X' → Bd X' (i + 4) → V g l Mlaw room_1 FN 986 [some (.ref g.2.2.2.2.1), some (rf g 0), some (rf g 167), some (.int (nI i))] [] w' 186 186 5422) : V g l Mlaw room_1 FN 454 [some (.ref g.2.2.2.2.1), some (rf g 0), some (rf g 167), some (.int (nI i))] [] w 186 186 5422 := by
  have in1 : vp_in (nI (i + 1)) g.2.2.2.2.2.1 := by rw [hL]; exact vp_in_nI (by omega) (by omega)
  have in2 : vp_in (nI (i + 2)) g.2.2.2.2.2.1 := by rw [hL]; exact vp_in_nI (by omega) (by omega)
  obtain ⟨b0, ox, -⟩ := hX.ob
  obtain ⟨K0, oy, -⟩ := hY.ob
  obtain ⟨hK, hN, hH⟩ := hY.oks
  refine V_aload_n (q := 455) dL_law_454 rfl rfl rfl ?_
  refine V_aload_n (q := 456) dL_law_455 rfl rfl rfl ?_
  refine V_iload_n (q := 457) dL_law_456 rfl rfl ?_
  refine V_iconst (q := 458) (v := nI 1) dL_law_457 rfl (by decide) ?_
  refine V_iadd (q := 459) dL_law_458 rfl (by first | exact nI_add _ _ | rfl) ?_
  refine V_sld (q := 460) dL_law_459 rfl in1 rfl ?_
  refine V_aload_n (q := 461) dL_law_460 rfl rfl rfl ?_
  refine V_iload_n (q := 462) dL_law_461 rfl rfl ?_
  refine V_iconst (q := 463) (v := nI 2) dL_law_462 rfl (by decide) ?_
  refine V_iadd (q := 464) dL_law_463 rfl (by first | exact nI_add _ _ | rfl) ?_
  refine V_sld (q := 465) dL_law_464 rfl in2 rfl ?_
  refine CrL_56 (q := 468) rfl dL_law_465 rfl (X_throwAt hX) ⟨(Nat.le_of_ble_eq_true rfl), (Nat.le_of_ble_eq_true rfl)⟩ (Nat.le_of_ble_eq_true rfl) (by first | assumption | exact up_eq | exact (up_ne (by omega)).trans (by first | assumption | exact up_eq | exact (up_ne (by omega)).trans (by first | assumption | exact up_eq | exact (up_ne (by omega)).trans (by first | assumption | exact up_eq)))) (by omega) (Nat.le_of_ble_eq_true rfl) (Nat.le_of_ble_eq_true rfl) ?_
  have hX1 := hX
  have hY1 := hY
  have oy1 := oy
  refine V_aload_n (q := 469) dL_law_468 rfl rfl rfl ?_
  refine V_aload_n (q := 470) dL_law_469 rfl rfl rfl ?_
  refine V_iload_n (q := 471) dL_law_470 rfl rfl ?_
  refine V_iconst (q := 472) (v := nI 1) dL_law_471 rfl (by decide) ?_
  refine V_iadd (q := 473) dL_law_472 rfl (by first | exact nI_add _ _ | rfl) ?_
  refine V_sld (q := 474) dL_law_473 rfl in1 rfl ?_
  refine V_aload_n (q := 475) dL_law_474 rfl rfl rfl ?_
  refine V_iload_n (q := 476) dL_law_475 rfl rfl ?_
  refine V_iconst (q := 477) (v := nI 2) dL_law_476 rfl (by decide) ?_
  refine V_iadd (q := 478) dL_law_477 rfl (by first | exact nI_add _ _ | rfl) ?_
  refine V_sld (q := 479) dL_law_478 rfl in2 rfl ?_
  refine CrL_59 (q := 482) rfl dL_law_479 rfl (Y_throwAt hY1) ⟨(Nat.le_of_ble_eq_true rfl), (Nat.le_of_ble_eq_true rfl)⟩ (Nat.le_of_ble_eq_true rfl) (by first | assumption | exact up_eq | exact (up_ne (by omega)).trans (by first | assumption | exact up_eq | exact (up_ne (by omega)).trans (by first | assumption | exact up_eq | exact (up_ne (by omega)).trans (by first | assumption | exact up_eq)))) (by omega) (Nat.le_of_ble_eq_true rfl) (Nat.le_of_ble_eq_true rfl) ?_
  have hX2 := hX1
  have hY2 := hY1
  refine V_icmp_eq (q := 485) (tgt := 986) dL_law_482 (by decide) rfl (fun _ => ?_) (fun h9 => absurd rfl h9)
  exact next _ _ hX2 hY2 (hB.same rfl rfl rfl)
theorem law_11 {X : XT} {w : HW} {i L : Nat} (hL : g.2.2.2.2.2.1 = L) (hL2 : L ≤ 2048) (hi : i + 4 ≤ L) (hX : XW g w 186 0 X) (hY : MW g w 186 167 X) (hB : Bd X i) (next : ∀ X' w', XW g w' 186 0 X' → MW g w' 186 167 X' → Bd X' (i + 4) → V g l Mlaw room_1 FN 986 [some (.ref g.2.2.2.2.1), some (rf g 0), some (rf g 167), some (.int (nI i))] [] w' 186 186 5422) : V g l Mlaw room_1 FN 487 [some (.ref g.2.2.2.2.1), some (rf g 0), some (rf g 167), some (.int (nI i))] [] w 186 186 5422 := by
  have in1 : vp_in (nI (i + 1)) g.2.2.2.2.2.1 := by rw [hL]; exact vp_in_nI (by omega) (by omega)
  obtain ⟨b0, ox, -⟩ := hX.ob
  obtain ⟨K0, oy, -⟩ := hY.ob
  obtain ⟨hK, hN, hH⟩ := hY.oks
  refine V_aload_n (q := 488) dL_law_487 rfl rfl rfl ?_
  refine V_aload_n (q := 489) dL_law_488 rfl rfl rfl ?_
  refine V_iload_n (q := 490) dL_law_489 rfl rfl ?_
  refine V_iconst (q := 491) (v := nI 1) dL_law_490 rfl (by decide) ?_
  refine V_iadd (q := 492) dL_law_491 rfl (by first | exact nI_add _ _ | rfl) ?_
  refine V_sld (q := 493) dL_law_492 rfl in1 rfl ?_
  refine CrL_60 (q := 496) rfl dL_law_493 rfl (X_isClean hX) ⟨(Nat.le_of_ble_eq_true rfl), (Nat.le_of_ble_eq_true rfl)⟩ (Nat.le_of_ble_eq_true rfl) (by first | assumption | exact up_eq | exact (up_ne (by omega)).trans (by first | assumption | exact up_eq | exact (up_ne (by omega)).trans (by first | assumption | exact up_eq | exact (up_ne (by omega)).trans (by first | assumption | exact up_eq)))) (by omega) (Nat.le_of_ble_eq_true rfl) (Nat.le_of_ble_eq_true rfl) ?_
  have hX1 := hX
  have hY1 := hY
  have oy1 := oy
  refine V_aload_n (q := 497) dL_law_496 rfl rfl rfl ?_
  refine V_aload_n (q := 498) dL_law_497 rfl rfl rfl ?_
  refine V_iload_n (q := 499) dL_law_498 rfl rfl ?_
  refine V_iconst (q := 500) (v := nI 1) dL_law_499 rfl (by decide) ?_
  refine V_iadd (q := 501) dL_law_500 rfl (by first | exact nI_add _ _ | rfl) ?_
  refine V_sld (q := 502) dL_law_501 rfl in1 rfl ?_
  refine CrL_63 (q := 505) rfl dL_law_502 rfl (Y_isClean hY1) ⟨(Nat.le_of_ble_eq_true rfl), (Nat.le_of_ble_eq_true rfl)⟩ (Nat.le_of_ble_eq_true rfl) (by first | assumption | exact up_eq | exact (up_ne (by omega)).trans (by first | assumption | exact up_eq | exact (up_ne (by omega)).trans (by first | assumption | exact up_eq | exact (up_ne (by omega)).trans (by first | assumption | exact up_eq)))) (by omega) (Nat.le_of_ble_eq_true rfl) (Nat.le_of_ble_eq_true rfl) ?_
  have hX2 := hX1
  have hY2 := hY1
  refine V_icmp_eq (q := 508) (tgt := 986) dL_law_505 (by decide) rfl (fun _ => ?_) (fun h9 => absurd rfl h9)
  exact next _ _ hX2 hY2 (hB.same rfl rfl rfl)
theorem law_12 {X : XT} {w : HW} {i L : Nat} (hL : g.2.2.2.2.2.1 = L) (hL2 : L ≤ 2048) (hi : i + 4 ≤ L) (hX : XW g w 186 0 X) (hY : MW g w 186 167 X) (hB : Bd X i) (next : ∀ X' w', XW g w' 186 0 X' → MW g w' 186 167 X' → Bd X' (i + 4) → V g l Mlaw room_1 FN 986 [some (.ref g.2.2.2.2.1), some (rf g 0), some (rf g 167), some (.int (nI i))] [] w' 186 186 5422) : V g l Mlaw room_1 FN 510 [some (.ref g.2.2.2.2.1), some (rf g 0), some (rf g 167), some (.int (nI i))] [] w 186 186 5422 := by
  have in1 : vp_in (nI (i + 1)) g.2.2.2.2.2.1 := by rw [hL]; exact vp_in_nI (by omega) (by omega)
  obtain ⟨b0, ox, -⟩ := hX.ob
  obtain ⟨K0, oy, -⟩ := hY.ob
  obtain ⟨hK, hN, hH⟩ := hY.oks
  refine V_aload_n (q := 511) dL_law_510 rfl rfl rfl ?_
  refine V_aload_n (q := 512) dL_law_511 rfl rfl rfl ?_
  refine V_iload_n (q := 513) dL_law_512 rfl rfl ?_
  refine V_iconst (q := 514) (v := nI 1) dL_law_513 rfl (by decide) ?_
  refine V_iadd (q := 515) dL_law_514 rfl (by first | exact nI_add _ _ | rfl) ?_
  refine V_sld (q := 516) dL_law_515 rfl in1 rfl ?_
  refine CrL_64 (q := 519) rfl dL_law_516 rfl (X_isCleanAgain hX) ⟨(Nat.le_of_ble_eq_true rfl), (Nat.le_of_ble_eq_true rfl)⟩ (Nat.le_of_ble_eq_true rfl) (by first | assumption | exact up_eq | exact (up_ne (by omega)).trans (by first | assumption | exact up_eq | exact (up_ne (by omega)).trans (by first | assumption | exact up_eq | exact (up_ne (by omega)).trans (by first | assumption | exact up_eq)))) (by omega) (Nat.le_of_ble_eq_true rfl) (Nat.le_of_ble_eq_true rfl) ?_
  have hX1 := hX
  have hY1 := hY
  have oy1 := oy
  refine V_aload_n (q := 520) dL_law_519 rfl rfl rfl ?_
  refine V_aload_n (q := 521) dL_law_520 rfl rfl rfl ?_
  refine V_iload_n (q := 522) dL_law_521 rfl rfl ?_
  refine V_iconst (q := 523) (v := nI 1) dL_law_522 rfl (by decide) ?_
  refine V_iadd (q := 524) dL_law_523 rfl (by first | exact nI_add _ _ | rfl) ?_
  refine V_sld (q := 525) dL_law_524 rfl in1 rfl ?_
  refine CrL_67 (q := 528) rfl dL_law_525 rfl (Y_isCleanAgain hY1) ⟨(Nat.le_of_ble_eq_true rfl), (Nat.le_of_ble_eq_true rfl)⟩ (Nat.le_of_ble_eq_true rfl) (by first | assumption | exact up_eq | exact (up_ne (by omega)).trans (by first | assumption | exact up_eq | exact (up_ne (by omega)).trans (by first | assumption | exact up_eq | exact (up_ne (by omega)).trans (by first | assumption | exact up_eq)))) (by omega) (Nat.le_of_ble_eq_true rfl) (Nat.le_of_ble_eq_true rfl) ?_
  have hX2 := hX1
  have hY2 := hY1
  refine V_icmp_eq (q := 531) (tgt := 986) dL_law_528 (by decide) rfl (fun _ => ?_) (fun h9 => absurd rfl h9)
  exact next _ _ hX2 hY2 (hB.same rfl rfl rfl)
theorem law_13 {X : XT} {w : HW} {i L : Nat} (hL : g.2.2.2.2.2.1 = L) (hL2 : L ≤ 2048) (hi : i + 4 ≤ L) (hX : XW g w 186 0 X) (hY : MW g w 186 167 X) (hB : Bd X i) (next : ∀ X' w', XW g w' 186 0 X' → MW g w' 186 167 X' → Bd X' (i + 4) → V g l Mlaw room_1 FN 986 [some (.ref g.2.2.2.2.1), some (rf g 0), some (rf g 167), some (.int (nI i))] [] w' 186 186 5422) : V g l Mlaw room_1 FN 533 [some (.ref g.2.2.2.2.1), some (rf g 0), some (rf g 167), some (.int (nI i))] [] w 186 186 5422 := by
  have in1 : vp_in (nI (i + 1)) g.2.2.2.2.2.1 := by rw [hL]; exact vp_in_nI (by omega) (by omega)
  have in2 : vp_in (nI (i + 2)) g.2.2.2.2.2.1 := by rw [hL]; exact vp_in_nI (by omega) (by omega)
  obtain ⟨b0, ox, -⟩ := hX.ob
  obtain ⟨K0, oy, -⟩ := hY.ob
  obtain ⟨hK, hN, hH⟩ := hY.oks
  refine V_aload_n (q := 534) dL_law_533 rfl rfl rfl ?_
  refine V_aload_n (q := 535) dL_law_534 rfl rfl rfl ?_
  refine V_iload_n (q := 536) dL_law_535 rfl rfl ?_
  refine V_iconst (q := 537) (v := nI 1) dL_law_536 rfl (by decide) ?_
  refine V_iadd (q := 538) dL_law_537 rfl (by first | exact nI_add _ _ | rfl) ?_
  refine V_sld (q := 539) dL_law_538 rfl in1 rfl ?_
  refine V_aload_n (q := 540) dL_law_539 rfl rfl rfl ?_
  refine V_iload_n (q := 541) dL_law_540 rfl rfl ?_
  refine V_iconst (q := 542) (v := nI 2) dL_law_541 rfl (by decide) ?_
  refine V_iadd (q := 543) dL_law_542 rfl (by first | exact nI_add _ _ | rfl) ?_
  refine V_sld (q := 544) dL_law_543 rfl in2 rfl ?_
  refine CrL_68 (q := 547) rfl dL_law_544 rfl (X_stateOf hX) ⟨(Nat.le_of_ble_eq_true rfl), (Nat.le_of_ble_eq_true rfl)⟩ (Nat.le_of_ble_eq_true rfl) (by first | assumption | exact up_eq | exact (up_ne (by omega)).trans (by first | assumption | exact up_eq | exact (up_ne (by omega)).trans (by first | assumption | exact up_eq | exact (up_ne (by omega)).trans (by first | assumption | exact up_eq)))) (by omega) (Nat.le_of_ble_eq_true rfl) (Nat.le_of_ble_eq_true rfl) ?_
  have hX1 := hX
  have hY1 := hY
  have oy1 := oy
  refine V_aload_n (q := 548) dL_law_547 rfl rfl rfl ?_
  refine V_aload_n (q := 549) dL_law_548 rfl rfl rfl ?_
  refine V_iload_n (q := 550) dL_law_549 rfl rfl ?_
  refine V_iconst (q := 551) (v := nI 1) dL_law_550 rfl (by decide) ?_
  refine V_iadd (q := 552) dL_law_551 rfl (by first | exact nI_add _ _ | rfl) ?_
  refine V_sld (q := 553) dL_law_552 rfl in1 rfl ?_
  refine V_aload_n (q := 554) dL_law_553 rfl rfl rfl ?_
  refine V_iload_n (q := 555) dL_law_554 rfl rfl ?_
  refine V_iconst (q := 556) (v := nI 2) dL_law_555 rfl (by decide) ?_
  refine V_iadd (q := 557) dL_law_556 rfl (by first | exact nI_add _ _ | rfl) ?_
  refine V_sld (q := 558) dL_law_557 rfl in2 rfl ?_
  refine CrL_71 (q := 561) rfl dL_law_558 rfl (Y_stateOf hY1) ⟨(Nat.le_of_ble_eq_true rfl), (Nat.le_of_ble_eq_true rfl)⟩ (Nat.le_of_ble_eq_true rfl) (by first | assumption | exact up_eq | exact (up_ne (by omega)).trans (by first | assumption | exact up_eq | exact (up_ne (by omega)).trans (by first | assumption | exact up_eq | exact (up_ne (by omega)).trans (by first | assumption | exact up_eq)))) (by omega) (Nat.le_of_ble_eq_true rfl) (Nat.le_of_ble_eq_true rfl) ?_
  have hX2 := hX1
  have hY2 := hY1
  refine V_icmp_eq (q := 564) (tgt := 986) dL_law_561 (by decide) rfl (fun _ => ?_) (fun h9 => absurd rfl h9)
  exact next _ _ hX2 hY2 (hB.same rfl rfl rfl)
theorem law_14 {X : XT} {w : HW} {i L : Nat} (hL : g.2.2.2.2.2.1 = L) (hL2 : L ≤ 2048) (hi : i + 4 ≤ L) (hX : XW g w 186 0 X) (hY : MW g w 186 167 X) (hB : Bd X i) (next : ∀ X' w', XW g w' 186 0 X' → MW g w' 186 167 X' → Bd X' (i + 4) → V g l Mlaw room_1 FN 986 [some (.ref g.2.2.2.2.1), some (rf g 0), some (rf g 167), some (.int (nI i))] [] w' 186 186 5422) : V g l Mlaw room_1 FN 566 [some (.ref g.2.2.2.2.1), some (rf g 0), some (rf g 167), some (.int (nI i))] [] w 186 186 5422 := by
  have in1 : vp_in (nI (i + 1)) g.2.2.2.2.2.1 := by rw [hL]; exact vp_in_nI (by omega) (by omega)
  obtain ⟨b0, ox, -⟩ := hX.ob
  obtain ⟨K0, oy, -⟩ := hY.ob
  obtain ⟨hK, hN, hH⟩ := hY.oks
  refine V_aload_n (q := 567) dL_law_566 rfl rfl rfl ?_
  refine V_aload_n (q := 568) dL_law_567 rfl rfl rfl ?_
  refine V_iload_n (q := 569) dL_law_568 rfl rfl ?_
  refine V_iconst (q := 570) (v := nI 1) dL_law_569 rfl (by decide) ?_
  refine V_iadd (q := 571) dL_law_570 rfl (by first | exact nI_add _ _ | rfl) ?_
  refine V_sld (q := 572) dL_law_571 rfl in1 rfl ?_
  refine CrL_72 (q := 575) rfl dL_law_572 rfl (X_juggler hX hK) ⟨(Nat.le_of_ble_eq_true rfl), (Nat.le_of_ble_eq_true rfl)⟩ (Nat.le_of_ble_eq_true rfl) (by first | assumption | exact up_eq | exact (up_ne (by omega)).trans (by first | assumption | exact up_eq | exact (up_ne (by omega)).trans (by first | assumption | exact up_eq | exact (up_ne (by omega)).trans (by first | assumption | exact up_eq)))) (by omega) (Nat.le_of_ble_eq_true rfl) (Nat.le_of_ble_eq_true rfl) ?_
  have hX1 := hX
  have hY1 := hY
  have oy1 := oy
  refine V_aload_n (q := 576) dL_law_575 rfl rfl rfl ?_
  refine V_aload_n (q := 577) dL_law_576 rfl rfl rfl ?_
  refine V_iload_n (q := 578) dL_law_577 rfl rfl ?_
  refine V_iconst (q := 579) (v := nI 1) dL_law_578 rfl (by decide) ?_
  refine V_iadd (q := 580) dL_law_579 rfl (by first | exact nI_add _ _ | rfl) ?_
  refine V_sld (q := 581) dL_law_580 rfl in1 rfl ?_
  refine CrL_75 (q := 584) rfl dL_law_581 rfl (Y_juggler hY1) ⟨(Nat.le_of_ble_eq_true rfl), (Nat.le_of_ble_eq_true rfl)⟩ (Nat.le_of_ble_eq_true rfl) (by first | assumption | exact up_eq | exact (up_ne (by omega)).trans (by first | assumption | exact up_eq | exact (up_ne (by omega)).trans (by first | assumption | exact up_eq | exact (up_ne (by omega)).trans (by first | assumption | exact up_eq)))) (by omega) (Nat.le_of_ble_eq_true rfl) (Nat.le_of_ble_eq_true rfl) ?_
  have hX2 := hX1
  have hY2 := hY1
  refine V_icmp_eq (q := 587) (tgt := 986) dL_law_584 (by decide) rfl (fun _ => ?_) (fun h9 => absurd rfl h9)
  exact next _ _ hX2 hY2 (hB.same rfl rfl rfl)
theorem law_15 {X : XT} {w : HW} {i L : Nat} (hL : g.2.2.2.2.2.1 = L) (hL2 : L ≤ 2048) (hi : i + 4 ≤ L) (hX : XW g w 186 0 X) (hY : MW g w 186 167 X) (hB : Bd X i) (next : ∀ X' w', XW g w' 186 0 X' → MW g w' 186 167 X' → Bd X' (i + 4) → V g l Mlaw room_1 FN 986 [some (.ref g.2.2.2.2.1), some (rf g 0), some (rf g 167), some (.int (nI i))] [] w' 186 186 5422) : V g l Mlaw room_1 FN 589 [some (.ref g.2.2.2.2.1), some (rf g 0), some (rf g 167), some (.int (nI i))] [] w 186 186 5422 := by
  have in1 : vp_in (nI (i + 1)) g.2.2.2.2.2.1 := by rw [hL]; exact vp_in_nI (by omega) (by omega)
  obtain ⟨b0, ox, -⟩ := hX.ob
  obtain ⟨K0, oy, -⟩ := hY.ob
  obtain ⟨hK, hN, hH⟩ := hY.oks
  refine V_aload_n (q := 590) dL_law_589 rfl rfl rfl ?_
  refine V_aload_n (q := 591) dL_law_590 rfl rfl rfl ?_
  refine V_iload_n (q := 592) dL_law_591 rfl rfl ?_
  refine V_iconst (q := 593) (v := nI 1) dL_law_592 rfl (by decide) ?_
  refine V_iadd (q := 594) dL_law_593 rfl (by first | exact nI_add _ _ | rfl) ?_
  refine V_sld (q := 595) dL_law_594 rfl in1 rfl ?_
  refine CrL_76 (q := 598) rfl dL_law_595 rfl (X_could hX hK) ⟨(Nat.le_of_ble_eq_true rfl), (Nat.le_of_ble_eq_true rfl)⟩ (Nat.le_of_ble_eq_true rfl) (by first | assumption | exact up_eq | exact (up_ne (by omega)).trans (by first | assumption | exact up_eq | exact (up_ne (by omega)).trans (by first | assumption | exact up_eq | exact (up_ne (by omega)).trans (by first | assumption | exact up_eq)))) (by omega) (Nat.le_of_ble_eq_true rfl) (Nat.le_of_ble_eq_true rfl) ?_
  have hX1 := hX
  have hY1 := hY
  have oy1 := oy
  refine V_aload_n (q := 599) dL_law_598 rfl rfl rfl ?_
  refine V_aload_n (q := 600) dL_law_599 rfl rfl rfl ?_
  refine V_iload_n (q := 601) dL_law_600 rfl rfl ?_
  refine V_iconst (q := 602) (v := nI 1) dL_law_601 rfl (by decide) ?_
  refine V_iadd (q := 603) dL_law_602 rfl (by first | exact nI_add _ _ | rfl) ?_
  refine V_sld (q := 604) dL_law_603 rfl in1 rfl ?_
  refine CrL_79 (q := 607) rfl dL_law_604 rfl (Y_could hY1) ⟨(Nat.le_of_ble_eq_true rfl), (Nat.le_of_ble_eq_true rfl)⟩ (Nat.le_of_ble_eq_true rfl) (by first | assumption | exact up_eq | exact (up_ne (by omega)).trans (by first | assumption | exact up_eq | exact (up_ne (by omega)).trans (by first | assumption | exact up_eq | exact (up_ne (by omega)).trans (by first | assumption | exact up_eq)))) (by omega) (Nat.le_of_ble_eq_true rfl) (Nat.le_of_ble_eq_true rfl) ?_
  have hX2 := hX1
  have hY2 := hY1
  refine V_icmp_eq (q := 610) (tgt := 986) dL_law_607 (by decide) rfl (fun _ => ?_) (fun h9 => absurd rfl h9)
  exact next _ _ hX2 hY2 (hB.same rfl rfl rfl)
theorem law_16 {X : XT} {w : HW} {i L : Nat} (hL : g.2.2.2.2.2.1 = L) (hL2 : L ≤ 2048) (hi : i + 4 ≤ L) (hX : XW g w 186 0 X) (hY : MW g w 186 167 X) (hB : Bd X i) (next : ∀ X' w', XW g w' 186 0 X' → MW g w' 186 167 X' → Bd X' (i + 4) → V g l Mlaw room_1 FN 986 [some (.ref g.2.2.2.2.1), some (rf g 0), some (rf g 167), some (.int (nI i))] [] w' 186 186 5422) : V g l Mlaw room_1 FN 612 [some (.ref g.2.2.2.2.1), some (rf g 0), some (rf g 167), some (.int (nI i))] [] w 186 186 5422 := by
  have in1 : vp_in (nI (i + 1)) g.2.2.2.2.2.1 := by rw [hL]; exact vp_in_nI (by omega) (by omega)
  obtain ⟨b0, ox, -⟩ := hX.ob
  obtain ⟨K0, oy, -⟩ := hY.ob
  obtain ⟨hK, hN, hH⟩ := hY.oks
  refine V_aload_n (q := 613) dL_law_612 rfl rfl rfl ?_
  refine V_aload_n (q := 614) dL_law_613 rfl rfl rfl ?_
  refine V_iload_n (q := 615) dL_law_614 rfl rfl ?_
  refine V_iconst (q := 616) (v := nI 1) dL_law_615 rfl (by decide) ?_
  refine V_iadd (q := 617) dL_law_616 rfl (by first | exact nI_add _ _ | rfl) ?_
  refine V_sld (q := 618) dL_law_617 rfl in1 rfl ?_
  refine CiL_80 (q := 621) rfl dL_law_618 rfl (X_joinTo hX hK) ⟨(Nat.le_of_ble_eq_true rfl), (Nat.le_of_ble_eq_true rfl)⟩ (Nat.le_of_ble_eq_true rfl) (by first | assumption | exact up_eq | exact (up_ne (by omega)).trans (by first | assumption | exact up_eq | exact (up_ne (by omega)).trans (by first | assumption | exact up_eq | exact (up_ne (by omega)).trans (by first | assumption | exact up_eq)))) (by omega) (Nat.le_of_ble_eq_true rfl) (Nat.le_of_ble_eq_true rfl) (fun y w1 hw1 => ?_)
  obtain ⟨rfl, hX1, hF1⟩ := hw1
  have hY1 := hY.frame (w' := w1) (fun j a1 a2 => hF1 j (by omega))
  obtain ⟨K1, oy1, -⟩ := hY1.ob
  refine V_aload_n (q := 622) dL_law_621 rfl rfl rfl ?_
  refine V_aload_n (q := 623) dL_law_622 rfl rfl rfl ?_
  refine V_iload_n (q := 624) dL_law_623 rfl rfl ?_
  refine V_iconst (q := 625) (v := nI 1) dL_law_624 rfl (by decide) ?_
  refine V_iadd (q := 626) dL_law_625 rfl (by first | exact nI_add _ _ | rfl) ?_
  refine V_sld (q := 627) dL_law_626 rfl in1 rfl ?_
  refine CiL_83 (q := 630) rfl dL_law_627 rfl (Y_joinTo hY1) ⟨(Nat.le_of_ble_eq_true rfl), (Nat.le_of_ble_eq_true rfl)⟩ (Nat.le_of_ble_eq_true rfl) (by first | assumption | exact up_eq | exact (up_ne (by omega)).trans (by first | assumption | exact up_eq | exact (up_ne (by omega)).trans (by first | assumption | exact up_eq | exact (up_ne (by omega)).trans (by first | assumption | exact up_eq)))) (by omega) (Nat.le_of_ble_eq_true rfl) (Nat.le_of_ble_eq_true rfl) (fun y2 w2 hw2 => ?_)
  obtain ⟨rfl, hY2, hF2⟩ := hw2
  have hX2 := hX1.frame (w' := w2) (fun j a1 a2 => hF2 j (by omega))
  refine V_icmp_eq (q := 633) (tgt := 986) dL_law_630 (by decide) rfl (fun _ => ?_) (fun h9 => absurd rfl h9)
  exact next _ _ hX2 hY2 (hB.same rfl rfl rfl)
theorem law_17 {X : XT} {w : HW} {i L : Nat} (hL : g.2.2.2.2.2.1 = L) (hL2 : L ≤ 2048) (hi : i + 4 ≤ L) (hX : XW g w 186 0 X) (hY : MW g w 186 167 X) (hB : Bd X i) (next : ∀ X' w', XW g w' 186 0 X' → MW g w' 186 167 X' → Bd X' (i + 4) → V g l Mlaw room_1 FN 986 [some (.ref g.2.2.2.2.1), some (rf g 0), some (rf g 167), some (.int (nI i))] [] w' 186 186 5422) : V g l Mlaw room_1 FN 635 [some (.ref g.2.2.2.2.1), some (rf g 0), some (rf g 167), some (.int (nI i))] [] w 186 186 5422 := by
  have in1 : vp_in (nI (i + 1)) g.2.2.2.2.2.1 := by rw [hL]; exact vp_in_nI (by omega) (by omega)
  obtain ⟨b0, ox, -⟩ := hX.ob
  obtain ⟨K0, oy, -⟩ := hY.ob
  obtain ⟨hK, hN, hH⟩ := hY.oks
  refine V_aload_n (q := 636) dL_law_635 rfl rfl rfl ?_
  refine V_aload_n (q := 637) dL_law_636 rfl rfl rfl ?_
  refine V_iload_n (q := 638) dL_law_637 rfl rfl ?_
  refine V_iconst (q := 639) (v := nI 1) dL_law_638 rfl (by decide) ?_
  refine V_iadd (q := 640) dL_law_639 rfl (by first | exact nI_add _ _ | rfl) ?_
  refine V_sld (q := 641) dL_law_640 rfl in1 rfl ?_
  refine CiL_84 (q := 644) rfl dL_law_641 rfl (X_joinAgain hX hK) ⟨(Nat.le_of_ble_eq_true rfl), (Nat.le_of_ble_eq_true rfl)⟩ (Nat.le_of_ble_eq_true rfl) (by first | assumption | exact up_eq | exact (up_ne (by omega)).trans (by first | assumption | exact up_eq | exact (up_ne (by omega)).trans (by first | assumption | exact up_eq | exact (up_ne (by omega)).trans (by first | assumption | exact up_eq)))) (by omega) (Nat.le_of_ble_eq_true rfl) (Nat.le_of_ble_eq_true rfl) (fun y w1 hw1 => ?_)
  obtain ⟨rfl, hX1, hF1⟩ := hw1
  have hY1 := hY.frame (w' := w1) (fun j a1 a2 => hF1 j (by omega))
  obtain ⟨K1, oy1, -⟩ := hY1.ob
  refine V_aload_n (q := 645) dL_law_644 rfl rfl rfl ?_
  refine V_aload_n (q := 646) dL_law_645 rfl rfl rfl ?_
  refine V_iload_n (q := 647) dL_law_646 rfl rfl ?_
  refine V_iconst (q := 648) (v := nI 1) dL_law_647 rfl (by decide) ?_
  refine V_iadd (q := 649) dL_law_648 rfl (by first | exact nI_add _ _ | rfl) ?_
  refine V_sld (q := 650) dL_law_649 rfl in1 rfl ?_
  refine CiL_87 (q := 653) rfl dL_law_650 rfl (Y_joinAgain hY1) ⟨(Nat.le_of_ble_eq_true rfl), (Nat.le_of_ble_eq_true rfl)⟩ (Nat.le_of_ble_eq_true rfl) (by first | assumption | exact up_eq | exact (up_ne (by omega)).trans (by first | assumption | exact up_eq | exact (up_ne (by omega)).trans (by first | assumption | exact up_eq | exact (up_ne (by omega)).trans (by first | assumption | exact up_eq)))) (by omega) (Nat.le_of_ble_eq_true rfl) (Nat.le_of_ble_eq_true rfl) (fun y2 w2 hw2 => ?_)
  obtain ⟨rfl, hY2, hF2⟩ := hw2
  have hX2 := hX1.frame (w' := w2) (fun j a1 a2 => hF2 j (by omega))
  refine V_icmp_eq (q := 656) (tgt := 986) dL_law_653 (by decide) rfl (fun _ => ?_) (fun h9 => absurd rfl h9)
  exact next _ _ hX2 hY2 (hB.same rfl rfl rfl)
theorem law_18 {X : XT} {w : HW} {i L : Nat} (hL : g.2.2.2.2.2.1 = L) (hL2 : L ≤ 2048) (hi : i + 4 ≤ L) (hX : XW g w 186 0 X) (hY : MW g w 186 167 X) (hB : Bd X i) (next : ∀ X' w', XW g w' 186 0 X' → MW g w' 186 167 X' → Bd X' (i + 4) → V g l Mlaw room_1 FN 986 [some (.ref g.2.2.2.2.1), some (rf g 0), some (rf g 167), some (.int (nI i))] [] w' 186 186 5422) : V g l Mlaw room_1 FN 658 [some (.ref g.2.2.2.2.1), some (rf g 0), some (rf g 167), some (.int (nI i))] [] w 186 186 5422 := by
  have in1 : vp_in (nI (i + 1)) g.2.2.2.2.2.1 := by rw [hL]; exact vp_in_nI (by omega) (by omega)
  have in2 : vp_in (nI (i + 2)) g.2.2.2.2.2.1 := by rw [hL]; exact vp_in_nI (by omega) (by omega)
  obtain ⟨b0, ox, -⟩ := hX.ob
  obtain ⟨K0, oy, -⟩ := hY.ob
  obtain ⟨hK, hN, hH⟩ := hY.oks
  refine V_aload_n (q := 659) dL_law_658 rfl rfl rfl ?_
  refine V_aload_n (q := 660) dL_law_659 rfl rfl rfl ?_
  refine V_iload_n (q := 661) dL_law_660 rfl rfl ?_
  refine V_iconst (q := 662) (v := nI 1) dL_law_661 rfl (by decide) ?_
  refine V_iadd (q := 663) dL_law_662 rfl (by first | exact nI_add _ _ | rfl) ?_
  refine V_sld (q := 664) dL_law_663 rfl in1 rfl ?_
  refine V_aload_n (q := 665) dL_law_664 rfl rfl rfl ?_
  refine V_iload_n (q := 666) dL_law_665 rfl rfl ?_
  refine V_iconst (q := 667) (v := nI 2) dL_law_666 rfl (by decide) ?_
  refine V_iadd (q := 668) dL_law_667 rfl (by first | exact nI_add _ _ | rfl) ?_
  refine V_sld (q := 669) dL_law_668 rfl in2 rfl ?_
  refine CiL_88 (q := 672) rfl dL_law_669 rfl (X_joinThrow hX hK) ⟨(Nat.le_of_ble_eq_true rfl), (Nat.le_of_ble_eq_true rfl)⟩ (Nat.le_of_ble_eq_true rfl) (by first | assumption | exact up_eq | exact (up_ne (by omega)).trans (by first | assumption | exact up_eq | exact (up_ne (by omega)).trans (by first | assumption | exact up_eq | exact (up_ne (by omega)).trans (by first | assumption | exact up_eq)))) (by omega) (Nat.le_of_ble_eq_true rfl) (Nat.le_of_ble_eq_true rfl) (fun y w1 hw1 => ?_)
  obtain ⟨rfl, hX1, hF1⟩ := hw1
  have hY1 := hY.frame (w' := w1) (fun j a1 a2 => hF1 j (by omega))
  obtain ⟨K1, oy1, -⟩ := hY1.ob
  refine V_aload_n (q := 673) dL_law_672 rfl rfl rfl ?_
  refine V_aload_n (q := 674) dL_law_673 rfl rfl rfl ?_
  refine V_iload_n (q := 675) dL_law_674 rfl rfl ?_
  refine V_iconst (q := 676) (v := nI 1) dL_law_675 rfl (by decide) ?_
  refine V_iadd (q := 677) dL_law_676 rfl (by first | exact nI_add _ _ | rfl) ?_
  refine V_sld (q := 678) dL_law_677 rfl in1 rfl ?_
  refine V_aload_n (q := 679) dL_law_678 rfl rfl rfl ?_
  refine V_iload_n (q := 680) dL_law_679 rfl rfl ?_
  refine V_iconst (q := 681) (v := nI 2) dL_law_680 rfl (by decide) ?_
  refine V_iadd (q := 682) dL_law_681 rfl (by first | exact nI_add _ _ | rfl) ?_
  refine V_sld (q := 683) dL_law_682 rfl in2 rfl ?_
  refine CiL_91 (q := 686) rfl dL_law_683 rfl (Y_joinThrow hY1) ⟨(Nat.le_of_ble_eq_true rfl), (Nat.le_of_ble_eq_true rfl)⟩ (Nat.le_of_ble_eq_true rfl) (by first | assumption | exact up_eq | exact (up_ne (by omega)).trans (by first | assumption | exact up_eq | exact (up_ne (by omega)).trans (by first | assumption | exact up_eq | exact (up_ne (by omega)).trans (by first | assumption | exact up_eq)))) (by omega) (Nat.le_of_ble_eq_true rfl) (Nat.le_of_ble_eq_true rfl) (fun y2 w2 hw2 => ?_)
  obtain ⟨rfl, hY2, hF2⟩ := hw2
  have hX2 := hX1.frame (w' := w2) (fun j a1 a2 => hF2 j (by omega))
  refine V_icmp_eq (q := 689) (tgt := 986) dL_law_686 (by decide) rfl (fun _ => ?_) (fun h9 => absurd rfl h9)
  exact next _ _ hX2 hY2 (hB.same rfl rfl rfl)
theorem law_19 {X : XT} {w : HW} {i L : Nat} (hL : g.2.2.2.2.2.1 = L) (hL2 : L ≤ 2048) (hi : i + 4 ≤ L) (hX : XW g w 186 0 X) (hY : MW g w 186 167 X) (hB : Bd X i) (next : ∀ X' w', XW g w' 186 0 X' → MW g w' 186 167 X' → Bd X' (i + 4) → V g l Mlaw room_1 FN 986 [some (.ref g.2.2.2.2.1), some (rf g 0), some (rf g 167), some (.int (nI i))] [] w' 186 186 5422) : V g l Mlaw room_1 FN 691 [some (.ref g.2.2.2.2.1), some (rf g 0), some (rf g 167), some (.int (nI i))] [] w 186 186 5422 := by
  have in1 : vp_in (nI (i + 1)) g.2.2.2.2.2.1 := by rw [hL]; exact vp_in_nI (by omega) (by omega)
  have in2 : vp_in (nI (i + 2)) g.2.2.2.2.2.1 := by rw [hL]; exact vp_in_nI (by omega) (by omega)
  obtain ⟨b0, ox, -⟩ := hX.ob
  obtain ⟨K0, oy, -⟩ := hY.ob
  obtain ⟨hK, hN, hH⟩ := hY.oks
  refine V_aload_n (q := 692) dL_law_691 rfl rfl rfl ?_
  refine V_aload_n (q := 693) dL_law_692 rfl rfl rfl ?_
  refine V_iload_n (q := 694) dL_law_693 rfl rfl ?_
  refine V_iconst (q := 695) (v := nI 1) dL_law_694 rfl (by decide) ?_
  refine V_iadd (q := 696) dL_law_695 rfl (by first | exact nI_add _ _ | rfl) ?_
  refine V_sld (q := 697) dL_law_696 rfl in1 rfl ?_
  refine V_aload_n (q := 698) dL_law_697 rfl rfl rfl ?_
  refine V_iload_n (q := 699) dL_law_698 rfl rfl ?_
  refine V_iconst (q := 700) (v := nI 2) dL_law_699 rfl (by decide) ?_
  refine V_iadd (q := 701) dL_law_700 rfl (by first | exact nI_add _ _ | rfl) ?_
  refine V_sld (q := 702) dL_law_701 rfl in2 rfl ?_
  refine CiL_92 (q := 705) rfl dL_law_702 rfl (X_between hX) ⟨(Nat.le_of_ble_eq_true rfl), (Nat.le_of_ble_eq_true rfl)⟩ (Nat.le_of_ble_eq_true rfl) (by first | assumption | exact up_eq | exact (up_ne (by omega)).trans (by first | assumption | exact up_eq | exact (up_ne (by omega)).trans (by first | assumption | exact up_eq | exact (up_ne (by omega)).trans (by first | assumption | exact up_eq)))) (by omega) (Nat.le_of_ble_eq_true rfl) (Nat.le_of_ble_eq_true rfl) (fun y w1 hw1 => ?_)
  obtain ⟨rfl, hX1, hF1⟩ := hw1
  have hY1 := hY.frame (w' := w1) (fun j a1 a2 => hF1 j (by omega))
  obtain ⟨K1, oy1, -⟩ := hY1.ob
  refine V_aload_n (q := 706) dL_law_705 rfl rfl rfl ?_
  refine V_aload_n (q := 707) dL_law_706 rfl rfl rfl ?_
  refine V_iload_n (q := 708) dL_law_707 rfl rfl ?_
  refine V_iconst (q := 709) (v := nI 1) dL_law_708 rfl (by decide) ?_
  refine V_iadd (q := 710) dL_law_709 rfl (by first | exact nI_add _ _ | rfl) ?_
  refine V_sld (q := 711) dL_law_710 rfl in1 rfl ?_
  refine V_aload_n (q := 712) dL_law_711 rfl rfl rfl ?_
  refine V_iload_n (q := 713) dL_law_712 rfl rfl ?_
  refine V_iconst (q := 714) (v := nI 2) dL_law_713 rfl (by decide) ?_
  refine V_iadd (q := 715) dL_law_714 rfl (by first | exact nI_add _ _ | rfl) ?_
  refine V_sld (q := 716) dL_law_715 rfl in2 rfl ?_
  refine CiL_95 (q := 719) rfl dL_law_716 rfl (Y_between hY1) ⟨(Nat.le_of_ble_eq_true rfl), (Nat.le_of_ble_eq_true rfl)⟩ (Nat.le_of_ble_eq_true rfl) (by first | assumption | exact up_eq | exact (up_ne (by omega)).trans (by first | assumption | exact up_eq | exact (up_ne (by omega)).trans (by first | assumption | exact up_eq | exact (up_ne (by omega)).trans (by first | assumption | exact up_eq)))) (by omega) (Nat.le_of_ble_eq_true rfl) (Nat.le_of_ble_eq_true rfl) (fun y2 w2 hw2 => ?_)
  obtain ⟨rfl, hY2, hF2⟩ := hw2
  have hX2 := hX1.frame (w' := w2) (fun j a1 a2 => hF2 j (by omega))
  refine V_icmp_eq (q := 722) (tgt := 986) dL_law_719 (by decide) rfl (fun _ => ?_) (fun h9 => absurd rfl h9)
  exact next _ _ hX2 hY2 (hB.same rfl rfl rfl)
theorem law_20 {X : XT} {w : HW} {i L : Nat} (hL : g.2.2.2.2.2.1 = L) (hL2 : L ≤ 2048) (hi : i + 4 ≤ L) (hX : XW g w 186 0 X) (hY : MW g w 186 167 X) (hB : Bd X i) (next : ∀ X' w', XW g w' 186 0 X' → MW g w' 186 167 X' → Bd X' (i + 4) → V g l Mlaw room_1 FN 986 [some (.ref g.2.2.2.2.1), some (rf g 0), some (rf g 167), some (.int (nI i))] [] w' 186 186 5422) : V g l Mlaw room_1 FN 724 [some (.ref g.2.2.2.2.1), some (rf g 0), some (rf g 167), some (.int (nI i))] [] w 186 186 5422 := by
  have in1 : vp_in (nI (i + 1)) g.2.2.2.2.2.1 := by rw [hL]; exact vp_in_nI (by omega) (by omega)
  have in2 : vp_in (nI (i + 2)) g.2.2.2.2.2.1 := by rw [hL]; exact vp_in_nI (by omega) (by omega)
  obtain ⟨b0, ox, -⟩ := hX.ob
  obtain ⟨K0, oy, -⟩ := hY.ob
  obtain ⟨hK, hN, hH⟩ := hY.oks
  refine V_aload_n (q := 725) dL_law_724 rfl rfl rfl ?_
  refine V_aload_n (q := 726) dL_law_725 rfl rfl rfl ?_
  refine V_iload_n (q := 727) dL_law_726 rfl rfl ?_
  refine V_iconst (q := 728) (v := nI 1) dL_law_727 rfl (by decide) ?_
  refine V_iadd (q := 729) dL_law_728 rfl (by first | exact nI_add _ _ | rfl) ?_
  refine V_sld (q := 730) dL_law_729 rfl in1 rfl ?_
  refine V_aload_n (q := 731) dL_law_730 rfl rfl rfl ?_
  refine V_iload_n (q := 732) dL_law_731 rfl rfl ?_
  refine V_iconst (q := 733) (v := nI 2) dL_law_732 rfl (by decide) ?_
  refine V_iadd (q := 734) dL_law_733 rfl (by first | exact nI_add _ _ | rfl) ?_
  refine V_sld (q := 735) dL_law_734 rfl in2 rfl ?_
  refine CiL_96 (q := 738) rfl dL_law_735 rfl (X_ranked hX) ⟨(Nat.le_of_ble_eq_true rfl), (Nat.le_of_ble_eq_true rfl)⟩ (Nat.le_of_ble_eq_true rfl) (by first | assumption | exact up_eq | exact (up_ne (by omega)).trans (by first | assumption | exact up_eq | exact (up_ne (by omega)).trans (by first | assumption | exact up_eq | exact (up_ne (by omega)).trans (by first | assumption | exact up_eq)))) (by omega) (Nat.le_of_ble_eq_true rfl) (Nat.le_of_ble_eq_true rfl) (fun y w1 hw1 => ?_)
  obtain ⟨rfl, hX1, hF1⟩ := hw1
  have hY1 := hY.frame (w' := w1) (fun j a1 a2 => hF1 j (by omega))
  obtain ⟨K1, oy1, -⟩ := hY1.ob
  refine V_aload_n (q := 739) dL_law_738 rfl rfl rfl ?_
  refine V_aload_n (q := 740) dL_law_739 rfl rfl rfl ?_
  refine V_iload_n (q := 741) dL_law_740 rfl rfl ?_
  refine V_iconst (q := 742) (v := nI 1) dL_law_741 rfl (by decide) ?_
  refine V_iadd (q := 743) dL_law_742 rfl (by first | exact nI_add _ _ | rfl) ?_
  refine V_sld (q := 744) dL_law_743 rfl in1 rfl ?_
  refine V_aload_n (q := 745) dL_law_744 rfl rfl rfl ?_
  refine V_iload_n (q := 746) dL_law_745 rfl rfl ?_
  refine V_iconst (q := 747) (v := nI 2) dL_law_746 rfl (by decide) ?_
  refine V_iadd (q := 748) dL_law_747 rfl (by first | exact nI_add _ _ | rfl) ?_
  refine V_sld (q := 749) dL_law_748 rfl in2 rfl ?_
  refine CrL_99 (q := 752) rfl dL_law_749 rfl (Y_ranked hY1) ⟨(Nat.le_of_ble_eq_true rfl), (Nat.le_of_ble_eq_true rfl)⟩ (Nat.le_of_ble_eq_true rfl) (by first | assumption | exact up_eq | exact (up_ne (by omega)).trans (by first | assumption | exact up_eq | exact (up_ne (by omega)).trans (by first | assumption | exact up_eq | exact (up_ne (by omega)).trans (by first | assumption | exact up_eq)))) (by omega) (Nat.le_of_ble_eq_true rfl) (Nat.le_of_ble_eq_true rfl) ?_
  have hX2 := hX1
  have hY2 := hY1
  refine V_icmp_eq (q := 755) (tgt := 986) dL_law_752 (by decide) rfl (fun _ => ?_) (fun h9 => absurd rfl h9)
  exact next _ _ hX2 hY2 (hB.same rfl rfl rfl)
theorem law_21 {X : XT} {w : HW} {i L : Nat} (hL : g.2.2.2.2.2.1 = L) (hL2 : L ≤ 2048) (hi : i + 4 ≤ L) (hX : XW g w 186 0 X) (hY : MW g w 186 167 X) (hB : Bd X i) (next : ∀ X' w', XW g w' 186 0 X' → MW g w' 186 167 X' → Bd X' (i + 4) → V g l Mlaw room_1 FN 986 [some (.ref g.2.2.2.2.1), some (rf g 0), some (rf g 167), some (.int (nI i))] [] w' 186 186 5422) : V g l Mlaw room_1 FN 757 [some (.ref g.2.2.2.2.1), some (rf g 0), some (rf g 167), some (.int (nI i))] [] w 186 186 5422 := by
  have in1 : vp_in (nI (i + 1)) g.2.2.2.2.2.1 := by rw [hL]; exact vp_in_nI (by omega) (by omega)
  obtain ⟨b0, ox, -⟩ := hX.ob
  obtain ⟨K0, oy, -⟩ := hY.ob
  obtain ⟨hK, hN, hH⟩ := hY.oks
  refine V_aload_n (q := 758) dL_law_757 rfl rfl rfl ?_
  refine V_aload_n (q := 759) dL_law_758 rfl rfl rfl ?_
  refine V_iload_n (q := 760) dL_law_759 rfl rfl ?_
  refine V_iconst (q := 761) (v := nI 1) dL_law_760 rfl (by decide) ?_
  refine V_iadd (q := 762) dL_law_761 rfl (by first | exact nI_add _ _ | rfl) ?_
  refine V_sld (q := 763) dL_law_762 rfl in1 rfl ?_
  refine CiL_100 (q := 766) rfl dL_law_763 rfl (X_tellRow hX) ⟨(Nat.le_of_ble_eq_true rfl), (Nat.le_of_ble_eq_true rfl)⟩ (Nat.le_of_ble_eq_true rfl) (by first | assumption | exact up_eq | exact (up_ne (by omega)).trans (by first | assumption | exact up_eq | exact (up_ne (by omega)).trans (by first | assumption | exact up_eq | exact (up_ne (by omega)).trans (by first | assumption | exact up_eq)))) (by omega) (Nat.le_of_ble_eq_true rfl) (Nat.le_of_ble_eq_true rfl) (fun y w1 hw1 => ?_)
  obtain ⟨rfl, hX1, hF1⟩ := hw1
  have hY1 := hY.frame (w' := w1) (fun j a1 a2 => hF1 j (by omega))
  obtain ⟨K1, oy1, -⟩ := hY1.ob
  refine V_aload_n (q := 767) dL_law_766 rfl rfl rfl ?_
  refine V_aload_n (q := 768) dL_law_767 rfl rfl rfl ?_
  refine V_iload_n (q := 769) dL_law_768 rfl rfl ?_
  refine V_iconst (q := 770) (v := nI 1) dL_law_769 rfl (by decide) ?_
  refine V_iadd (q := 771) dL_law_770 rfl (by first | exact nI_add _ _ | rfl) ?_
  refine V_sld (q := 772) dL_law_771 rfl in1 rfl ?_
  refine CiL_103 (q := 775) rfl dL_law_772 rfl (Y_tellRow hY1) ⟨(Nat.le_of_ble_eq_true rfl), (Nat.le_of_ble_eq_true rfl)⟩ (Nat.le_of_ble_eq_true rfl) (by first | assumption | exact up_eq | exact (up_ne (by omega)).trans (by first | assumption | exact up_eq | exact (up_ne (by omega)).trans (by first | assumption | exact up_eq | exact (up_ne (by omega)).trans (by first | assumption | exact up_eq)))) (by omega) (Nat.le_of_ble_eq_true rfl) (Nat.le_of_ble_eq_true rfl) (fun y2 w2 hw2 => ?_)
  obtain ⟨rfl, hY2, hF2⟩ := hw2
  have hX2 := hX1.frame (w' := w2) (fun j a1 a2 => hF2 j (by omega))
  refine V_icmp_eq (q := 778) (tgt := 986) dL_law_775 (by decide) rfl (fun _ => ?_) (fun h9 => absurd rfl h9)
  exact next _ _ hX2 hY2 (hB.tlr)
theorem law_22 {X : XT} {w : HW} {i L : Nat} (hL : g.2.2.2.2.2.1 = L) (hL2 : L ≤ 2048) (hi : i + 4 ≤ L) (hX : XW g w 186 0 X) (hY : MW g w 186 167 X) (hB : Bd X i) (next : ∀ X' w', XW g w' 186 0 X' → MW g w' 186 167 X' → Bd X' (i + 4) → V g l Mlaw room_1 FN 986 [some (.ref g.2.2.2.2.1), some (rf g 0), some (rf g 167), some (.int (nI i))] [] w' 186 186 5422) : V g l Mlaw room_1 FN 780 [some (.ref g.2.2.2.2.1), some (rf g 0), some (rf g 167), some (.int (nI i))] [] w 186 186 5422 := by
  obtain ⟨b0, ox, -⟩ := hX.ob
  obtain ⟨K0, oy, -⟩ := hY.ob
  obtain ⟨hK, hN, hH⟩ := hY.oks
  refine V_aload_n (q := 781) dL_law_780 rfl rfl rfl ?_
  refine CiL_104 (q := 784) rfl dL_law_781 rfl (X_tellState hX hK) ⟨(Nat.le_of_ble_eq_true rfl), (Nat.le_of_ble_eq_true rfl)⟩ (Nat.le_of_ble_eq_true rfl) (by first | assumption | exact up_eq | exact (up_ne (by omega)).trans (by first | assumption | exact up_eq | exact (up_ne (by omega)).trans (by first | assumption | exact up_eq | exact (up_ne (by omega)).trans (by first | assumption | exact up_eq)))) (by omega) (Nat.le_of_ble_eq_true rfl) (Nat.le_of_ble_eq_true rfl) (fun y w1 hw1 => ?_)
  obtain ⟨rfl, hX1, hF1⟩ := hw1
  have hY1 := hY.frame (w' := w1) (fun j a1 a2 => hF1 j (by omega))
  obtain ⟨K1, oy1, -⟩ := hY1.ob
  refine V_aload_n (q := 785) dL_law_784 rfl rfl rfl ?_
  refine CiL_108 (q := 788) rfl dL_law_785 rfl (Y_tellState hY1) ⟨(Nat.le_of_ble_eq_true rfl), (Nat.le_of_ble_eq_true rfl)⟩ (Nat.le_of_ble_eq_true rfl) (by first | assumption | exact up_eq | exact (up_ne (by omega)).trans (by first | assumption | exact up_eq | exact (up_ne (by omega)).trans (by first | assumption | exact up_eq | exact (up_ne (by omega)).trans (by first | assumption | exact up_eq)))) (by omega) (Nat.le_of_ble_eq_true rfl) (Nat.le_of_ble_eq_true rfl) (fun y2 w2 hw2 => ?_)
  obtain ⟨rfl, hY2, hF2⟩ := hw2
  have hX2 := hX1.frame (w' := w2) (fun j a1 a2 => hF2 j (by omega))
  refine V_icmp_eq (q := 791) (tgt := 986) dL_law_788 (by decide) rfl (fun _ => ?_) (fun h9 => absurd rfl h9)
  exact next _ _ hX2 hY2 (hB.tls)
theorem law_23 {X : XT} {w : HW} {i L : Nat} (hL : g.2.2.2.2.2.1 = L) (hL2 : L ≤ 2048) (hi : i + 4 ≤ L) (hX : XW g w 186 0 X) (hY : MW g w 186 167 X) (hB : Bd X i) (next : ∀ X' w', XW g w' 186 0 X' → MW g w' 186 167 X' → Bd X' (i + 4) → V g l Mlaw room_1 FN 986 [some (.ref g.2.2.2.2.1), some (rf g 0), some (rf g 167), some (.int (nI i))] [] w' 186 186 5422) : V g l Mlaw room_1 FN 793 [some (.ref g.2.2.2.2.1), some (rf g 0), some (rf g 167), some (.int (nI i))] [] w 186 186 5422 := by
  have in1 : vp_in (nI (i + 1)) g.2.2.2.2.2.1 := by rw [hL]; exact vp_in_nI (by omega) (by omega)
  obtain ⟨b0, ox, -⟩ := hX.ob
  obtain ⟨K0, oy, -⟩ := hY.ob
  obtain ⟨hK, hN, hH⟩ := hY.oks
  refine V_aload_n (q := 794) dL_law_793 rfl rfl rfl ?_
  refine V_aload_n (q := 795) dL_law_794 rfl rfl rfl ?_
  refine V_iload_n (q := 796) dL_law_795 rfl rfl ?_
  refine V_iconst (q := 797) (v := nI 1) dL_law_796 rfl (by decide) ?_
  refine V_iadd (q := 798) dL_law_797 rfl (by first | exact nI_add _ _ | rfl) ?_
  refine V_sld (q := 799) dL_law_798 rfl in1 rfl ?_
  refine CiL_109 (q := 802) rfl dL_law_799 rfl (X_tellJoin hX hK) ⟨(Nat.le_of_ble_eq_true rfl), (Nat.le_of_ble_eq_true rfl)⟩ (Nat.le_of_ble_eq_true rfl) (by first | assumption | exact up_eq | exact (up_ne (by omega)).trans (by first | assumption | exact up_eq | exact (up_ne (by omega)).trans (by first | assumption | exact up_eq | exact (up_ne (by omega)).trans (by first | assumption | exact up_eq)))) (by omega) (Nat.le_of_ble_eq_true rfl) (Nat.le_of_ble_eq_true rfl) (fun y w1 hw1 => ?_)
  obtain ⟨rfl, hX1, hF1⟩ := hw1
  have hY1 := hY.frame (w' := w1) (fun j a1 a2 => hF1 j (by omega))
  obtain ⟨K1, oy1, -⟩ := hY1.ob
  refine V_aload_n (q := 803) dL_law_802 rfl rfl rfl ?_
  refine V_aload_n (q := 804) dL_law_803 rfl rfl rfl ?_
  refine V_iload_n (q := 805) dL_law_804 rfl rfl ?_
  refine V_iconst (q := 806) (v := nI 1) dL_law_805 rfl (by decide) ?_
  refine V_iadd (q := 807) dL_law_806 rfl (by first | exact nI_add _ _ | rfl) ?_
  refine V_sld (q := 808) dL_law_807 rfl in1 rfl ?_
  refine CiL_112 (q := 811) rfl dL_law_808 rfl (Y_tellJoin hY1) ⟨(Nat.le_of_ble_eq_true rfl), (Nat.le_of_ble_eq_true rfl)⟩ (Nat.le_of_ble_eq_true rfl) (by first | assumption | exact up_eq | exact (up_ne (by omega)).trans (by first | assumption | exact up_eq | exact (up_ne (by omega)).trans (by first | assumption | exact up_eq | exact (up_ne (by omega)).trans (by first | assumption | exact up_eq)))) (by omega) (Nat.le_of_ble_eq_true rfl) (Nat.le_of_ble_eq_true rfl) (fun y2 w2 hw2 => ?_)
  obtain ⟨rfl, hY2, hF2⟩ := hw2
  have hX2 := hX1.frame (w' := w2) (fun j a1 a2 => hF2 j (by omega))
  refine V_icmp_eq (q := 814) (tgt := 986) dL_law_811 (by decide) rfl (fun _ => ?_) (fun h9 => absurd rfl h9)
  exact next _ _ hX2 hY2 (hB.tlj)
theorem law_24 {X : XT} {w : HW} {i L : Nat} (hL : g.2.2.2.2.2.1 = L) (hL2 : L ≤ 2048) (hi : i + 4 ≤ L) (hX : XW g w 186 0 X) (hY : MW g w 186 167 X) (hB : Bd X i) (next : ∀ X' w', XW g w' 186 0 X' → MW g w' 186 167 X' → Bd X' (i + 4) → V g l Mlaw room_1 FN 986 [some (.ref g.2.2.2.2.1), some (rf g 0), some (rf g 167), some (.int (nI i))] [] w' 186 186 5422) : V g l Mlaw room_1 FN 816 [some (.ref g.2.2.2.2.1), some (rf g 0), some (rf g 167), some (.int (nI i))] [] w 186 186 5422 := by
  have in1 : vp_in (nI (i + 1)) g.2.2.2.2.2.1 := by rw [hL]; exact vp_in_nI (by omega) (by omega)
  obtain ⟨b0, ox, -⟩ := hX.ob
  obtain ⟨K0, oy, -⟩ := hY.ob
  obtain ⟨hK, hN, hH⟩ := hY.oks
  refine V_aload_n (q := 817) dL_law_816 rfl rfl rfl ?_
  refine V_aload_n (q := 818) dL_law_817 rfl rfl rfl ?_
  refine V_iload_n (q := 819) dL_law_818 rfl rfl ?_
  refine V_iconst (q := 820) (v := nI 1) dL_law_819 rfl (by decide) ?_
  refine V_iadd (q := 821) dL_law_820 rfl (by first | exact nI_add _ _ | rfl) ?_
  refine V_sld (q := 822) dL_law_821 rfl in1 rfl ?_
  refine CrL_113 (q := 825) rfl dL_law_822 rfl (X_sign hX) ⟨(Nat.le_of_ble_eq_true rfl), (Nat.le_of_ble_eq_true rfl)⟩ (Nat.le_of_ble_eq_true rfl) (by first | assumption | exact up_eq | exact (up_ne (by omega)).trans (by first | assumption | exact up_eq | exact (up_ne (by omega)).trans (by first | assumption | exact up_eq | exact (up_ne (by omega)).trans (by first | assumption | exact up_eq)))) (by omega) (Nat.le_of_ble_eq_true rfl) (Nat.le_of_ble_eq_true rfl) ?_
  have hX1 := hX
  have hY1 := hY
  have oy1 := oy
  refine V_aload_n (q := 826) dL_law_825 rfl rfl rfl ?_
  refine V_aload_n (q := 827) dL_law_826 rfl rfl rfl ?_
  refine V_iload_n (q := 828) dL_law_827 rfl rfl ?_
  refine V_iconst (q := 829) (v := nI 1) dL_law_828 rfl (by decide) ?_
  refine V_iadd (q := 830) dL_law_829 rfl (by first | exact nI_add _ _ | rfl) ?_
  refine V_sld (q := 831) dL_law_830 rfl in1 rfl ?_
  refine CrL_116 (q := 834) rfl dL_law_831 rfl (Y_sign hY1) ⟨(Nat.le_of_ble_eq_true rfl), (Nat.le_of_ble_eq_true rfl)⟩ (Nat.le_of_ble_eq_true rfl) (by first | assumption | exact up_eq | exact (up_ne (by omega)).trans (by first | assumption | exact up_eq | exact (up_ne (by omega)).trans (by first | assumption | exact up_eq | exact (up_ne (by omega)).trans (by first | assumption | exact up_eq)))) (by omega) (Nat.le_of_ble_eq_true rfl) (Nat.le_of_ble_eq_true rfl) ?_
  have hX2 := hX1
  have hY2 := hY1
  refine V_icmp_eq (q := 837) (tgt := 986) dL_law_834 (by decide) rfl (fun _ => ?_) (fun h9 => absurd rfl h9)
  exact next _ _ hX2 hY2 (hB.same rfl rfl rfl)
theorem law_25 {X : XT} {w : HW} {i L : Nat} (hL : g.2.2.2.2.2.1 = L) (hL2 : L ≤ 2048) (hi : i + 4 ≤ L) (hX : XW g w 186 0 X) (hY : MW g w 186 167 X) (hB : Bd X i) (next : ∀ X' w', XW g w' 186 0 X' → MW g w' 186 167 X' → Bd X' (i + 4) → V g l Mlaw room_1 FN 986 [some (.ref g.2.2.2.2.1), some (rf g 0), some (rf g 167), some (.int (nI i))] [] w' 186 186 5422) : V g l Mlaw room_1 FN 839 [some (.ref g.2.2.2.2.1), some (rf g 0), some (rf g 167), some (.int (nI i))] [] w 186 186 5422 := by
  have in1 : vp_in (nI (i + 1)) g.2.2.2.2.2.1 := by rw [hL]; exact vp_in_nI (by omega) (by omega)
  obtain ⟨b0, ox, -⟩ := hX.ob
  obtain ⟨K0, oy, -⟩ := hY.ob
  obtain ⟨hK, hN, hH⟩ := hY.oks
  refine V_aload_n (q := 840) dL_law_839 rfl rfl rfl ?_
  refine V_aload_n (q := 841) dL_law_840 rfl rfl rfl ?_
  refine V_iload_n (q := 842) dL_law_841 rfl rfl ?_
  refine V_iconst (q := 843) (v := nI 1) dL_law_842 rfl (by decide) ?_
  refine V_iadd (q := 844) dL_law_843 rfl (by first | exact nI_add _ _ | rfl) ?_
  refine V_sld (q := 845) dL_law_844 rfl in1 rfl ?_
  refine CiL_117 (q := 848) rfl dL_law_845 rfl (X_append hX) ⟨(Nat.le_of_ble_eq_true rfl), (Nat.le_of_ble_eq_true rfl)⟩ (Nat.le_of_ble_eq_true rfl) (by first | assumption | exact up_eq | exact (up_ne (by omega)).trans (by first | assumption | exact up_eq | exact (up_ne (by omega)).trans (by first | assumption | exact up_eq | exact (up_ne (by omega)).trans (by first | assumption | exact up_eq)))) (by omega) (Nat.le_of_ble_eq_true rfl) (Nat.le_of_ble_eq_true rfl) (fun y w1 hw1 => ?_)
  obtain ⟨rfl, hX1, hF1⟩ := hw1
  have hY1 := hY.frame (w' := w1) (fun j a1 a2 => hF1 j (by omega))
  obtain ⟨K1, oy1, -⟩ := hY1.ob
  refine V_aload_n (q := 849) dL_law_848 rfl rfl rfl ?_
  refine V_aload_n (q := 850) dL_law_849 rfl rfl rfl ?_
  refine V_iload_n (q := 851) dL_law_850 rfl rfl ?_
  refine V_iconst (q := 852) (v := nI 1) dL_law_851 rfl (by decide) ?_
  refine V_iadd (q := 853) dL_law_852 rfl (by first | exact nI_add _ _ | rfl) ?_
  refine V_sld (q := 854) dL_law_853 rfl in1 rfl ?_
  refine CiL_120 (q := 857) rfl dL_law_854 rfl (Y_append hY1) ⟨(Nat.le_of_ble_eq_true rfl), (Nat.le_of_ble_eq_true rfl)⟩ (Nat.le_of_ble_eq_true rfl) (by first | assumption | exact up_eq | exact (up_ne (by omega)).trans (by first | assumption | exact up_eq | exact (up_ne (by omega)).trans (by first | assumption | exact up_eq | exact (up_ne (by omega)).trans (by first | assumption | exact up_eq)))) (by omega) (Nat.le_of_ble_eq_true rfl) (Nat.le_of_ble_eq_true rfl) (fun y2 w2 hw2 => ?_)
  obtain ⟨rfl, hY2, hF2⟩ := hw2
  have hX2 := hX1.frame (w' := w2) (fun j a1 a2 => hF2 j (by omega))
  refine V_icmp_eq (q := 860) (tgt := 986) dL_law_857 (by decide) rfl (fun _ => ?_) (fun h9 => absurd rfl h9)
  exact next _ _ hX2 hY2 (hB.app)
theorem law_26 {X : XT} {w : HW} {i L : Nat} (hL : g.2.2.2.2.2.1 = L) (hL2 : L ≤ 2048) (hi : i + 4 ≤ L) (hX : XW g w 186 0 X) (hY : MW g w 186 167 X) (hB : Bd X i) (next : ∀ X' w', XW g w' 186 0 X' → MW g w' 186 167 X' → Bd X' (i + 4) → V g l Mlaw room_1 FN 986 [some (.ref g.2.2.2.2.1), some (rf g 0), some (rf g 167), some (.int (nI i))] [] w' 186 186 5422) : V g l Mlaw room_1 FN 862 [some (.ref g.2.2.2.2.1), some (rf g 0), some (rf g 167), some (.int (nI i))] [] w 186 186 5422 := by
  obtain ⟨b0, ox, -⟩ := hX.ob
  obtain ⟨K0, oy, -⟩ := hY.ob
  obtain ⟨hK, hN, hH⟩ := hY.oks
  refine V_aload_n (q := 863) dL_law_862 rfl rfl rfl ?_
  refine CiL_121 (q := 866) rfl dL_law_863 rfl (X_read hX hK) ⟨(Nat.le_of_ble_eq_true rfl), (Nat.le_of_ble_eq_true rfl)⟩ (Nat.le_of_ble_eq_true rfl) (by first | assumption | exact up_eq | exact (up_ne (by omega)).trans (by first | assumption | exact up_eq | exact (up_ne (by omega)).trans (by first | assumption | exact up_eq | exact (up_ne (by omega)).trans (by first | assumption | exact up_eq)))) (by omega) (Nat.le_of_ble_eq_true rfl) (Nat.le_of_ble_eq_true rfl) (fun y w1 hw1 => ?_)
  obtain ⟨rfl, hX1, hF1⟩ := hw1
  have hY1 := hY.frame (w' := w1) (fun j a1 a2 => hF1 j (by omega))
  obtain ⟨K1, oy1, -⟩ := hY1.ob
  refine V_aload_n (q := 867) dL_law_866 rfl rfl rfl ?_
  refine CiL_124 (q := 870) rfl dL_law_867 rfl (Y_read hY1 (by have := hB.1; omega)) ⟨(Nat.le_of_ble_eq_true rfl), (Nat.le_of_ble_eq_true rfl)⟩ (Nat.le_of_ble_eq_true rfl) (by first | assumption | exact up_eq | exact (up_ne (by omega)).trans (by first | assumption | exact up_eq | exact (up_ne (by omega)).trans (by first | assumption | exact up_eq | exact (up_ne (by omega)).trans (by first | assumption | exact up_eq)))) (by omega) (Nat.le_of_ble_eq_true rfl) (Nat.le_of_ble_eq_true rfl) (fun y2 w2 hw2 => ?_)
  obtain ⟨hw2, hrb⟩ := hw2
  obtain ⟨rfl, hY2, hF2⟩ := hw2
  have hX2 := hX1.frame (w' := w2) (fun j a1 a2 => hF2 j (by omega))
  refine V_icmp_eq (q := 873) (tgt := 986) dL_law_870 (by decide) rfl (fun _ => ?_) (fun h9 => absurd rfl h9)
  exact next _ _ hX2 hY2 (hB.rea hrb)
theorem law_27 {X : XT} {w : HW} {i L : Nat} (hL : g.2.2.2.2.2.1 = L) (hL2 : L ≤ 2048) (hi : i + 4 ≤ L) (hX : XW g w 186 0 X) (hY : MW g w 186 167 X) (hB : Bd X i) (next : ∀ X' w', XW g w' 186 0 X' → MW g w' 186 167 X' → Bd X' (i + 4) → V g l Mlaw room_1 FN 986 [some (.ref g.2.2.2.2.1), some (rf g 0), some (rf g 167), some (.int (nI i))] [] w' 186 186 5422) : V g l Mlaw room_1 FN 875 [some (.ref g.2.2.2.2.1), some (rf g 0), some (rf g 167), some (.int (nI i))] [] w 186 186 5422 := by
  have in1 : vp_in (nI (i + 1)) g.2.2.2.2.2.1 := by rw [hL]; exact vp_in_nI (by omega) (by omega)
  obtain ⟨b0, ox, -⟩ := hX.ob
  obtain ⟨K0, oy, -⟩ := hY.ob
  obtain ⟨hK, hN, hH⟩ := hY.oks
  refine V_aload_n (q := 876) dL_law_875 rfl rfl rfl ?_
  refine V_aload_n (q := 877) dL_law_876 rfl rfl rfl ?_
  refine V_iload_n (q := 878) dL_law_877 rfl rfl ?_
  refine V_iconst (q := 879) (v := nI 1) dL_law_878 rfl (by decide) ?_
  refine V_iadd (q := 880) dL_law_879 rfl (by first | exact nI_add _ _ | rfl) ?_
  refine V_sld (q := 881) dL_law_880 rfl in1 rfl ?_
  refine CrL_125 (q := 884) rfl dL_law_881 rfl (X_refusal hX) ⟨(Nat.le_of_ble_eq_true rfl), (Nat.le_of_ble_eq_true rfl)⟩ (Nat.le_of_ble_eq_true rfl) (by first | assumption | exact up_eq | exact (up_ne (by omega)).trans (by first | assumption | exact up_eq | exact (up_ne (by omega)).trans (by first | assumption | exact up_eq | exact (up_ne (by omega)).trans (by first | assumption | exact up_eq)))) (by omega) (Nat.le_of_ble_eq_true rfl) (Nat.le_of_ble_eq_true rfl) ?_
  have hX1 := hX
  have hY1 := hY
  have oy1 := oy
  refine V_aload_n (q := 885) dL_law_884 rfl rfl rfl ?_
  refine V_aload_n (q := 886) dL_law_885 rfl rfl rfl ?_
  refine V_iload_n (q := 887) dL_law_886 rfl rfl ?_
  refine V_iconst (q := 888) (v := nI 1) dL_law_887 rfl (by decide) ?_
  refine V_iadd (q := 889) dL_law_888 rfl (by first | exact nI_add _ _ | rfl) ?_
  refine V_sld (q := 890) dL_law_889 rfl in1 rfl ?_
  refine CrL_128 (q := 893) rfl dL_law_890 rfl (Y_refusal hY1) ⟨(Nat.le_of_ble_eq_true rfl), (Nat.le_of_ble_eq_true rfl)⟩ (Nat.le_of_ble_eq_true rfl) (by first | assumption | exact up_eq | exact (up_ne (by omega)).trans (by first | assumption | exact up_eq | exact (up_ne (by omega)).trans (by first | assumption | exact up_eq | exact (up_ne (by omega)).trans (by first | assumption | exact up_eq)))) (by omega) (Nat.le_of_ble_eq_true rfl) (Nat.le_of_ble_eq_true rfl) ?_
  have hX2 := hX1
  have hY2 := hY1
  refine V_icmp_eq (q := 896) (tgt := 986) dL_law_893 (by decide) rfl (fun _ => ?_) (fun h9 => absurd rfl h9)
  exact next _ _ hX2 hY2 (hB.same rfl rfl rfl)
theorem law_28 {X : XT} {w : HW} {i L : Nat} (hL : g.2.2.2.2.2.1 = L) (hL2 : L ≤ 2048) (hi : i + 4 ≤ L) (hX : XW g w 186 0 X) (hY : MW g w 186 167 X) (hB : Bd X i) (next : ∀ X' w', XW g w' 186 0 X' → MW g w' 186 167 X' → Bd X' (i + 4) → V g l Mlaw room_1 FN 986 [some (.ref g.2.2.2.2.1), some (rf g 0), some (rf g 167), some (.int (nI i))] [] w' 186 186 5422) : V g l Mlaw room_1 FN 898 [some (.ref g.2.2.2.2.1), some (rf g 0), some (rf g 167), some (.int (nI i))] [] w 186 186 5422 := by
  have in1 : vp_in (nI (i + 1)) g.2.2.2.2.2.1 := by rw [hL]; exact vp_in_nI (by omega) (by omega)
  obtain ⟨b0, ox, -⟩ := hX.ob
  obtain ⟨K0, oy, -⟩ := hY.ob
  obtain ⟨hK, hN, hH⟩ := hY.oks
  refine V_aload_n (q := 899) dL_law_898 rfl rfl rfl ?_
  refine V_aload_n (q := 900) dL_law_899 rfl rfl rfl ?_
  refine V_iload_n (q := 901) dL_law_900 rfl rfl ?_
  refine V_iconst (q := 902) (v := nI 1) dL_law_901 rfl (by decide) ?_
  refine V_iadd (q := 903) dL_law_902 rfl (by first | exact nI_add _ _ | rfl) ?_
  refine V_sld (q := 904) dL_law_903 rfl in1 rfl ?_
  refine CrL_129 (q := 907) rfl dL_law_904 rfl (X_account hX) ⟨(Nat.le_of_ble_eq_true rfl), (Nat.le_of_ble_eq_true rfl)⟩ (Nat.le_of_ble_eq_true rfl) (by first | assumption | exact up_eq | exact (up_ne (by omega)).trans (by first | assumption | exact up_eq | exact (up_ne (by omega)).trans (by first | assumption | exact up_eq | exact (up_ne (by omega)).trans (by first | assumption | exact up_eq)))) (by omega) (Nat.le_of_ble_eq_true rfl) (Nat.le_of_ble_eq_true rfl) ?_
  have hX1 := hX
  have hY1 := hY
  have oy1 := oy
  refine V_aload_n (q := 908) dL_law_907 rfl rfl rfl ?_
  refine V_aload_n (q := 909) dL_law_908 rfl rfl rfl ?_
  refine V_iload_n (q := 910) dL_law_909 rfl rfl ?_
  refine V_iconst (q := 911) (v := nI 1) dL_law_910 rfl (by decide) ?_
  refine V_iadd (q := 912) dL_law_911 rfl (by first | exact nI_add _ _ | rfl) ?_
  refine V_sld (q := 913) dL_law_912 rfl in1 rfl ?_
  refine CrL_132 (q := 916) rfl dL_law_913 rfl (Y_account hY1) ⟨(Nat.le_of_ble_eq_true rfl), (Nat.le_of_ble_eq_true rfl)⟩ (Nat.le_of_ble_eq_true rfl) (by first | assumption | exact up_eq | exact (up_ne (by omega)).trans (by first | assumption | exact up_eq | exact (up_ne (by omega)).trans (by first | assumption | exact up_eq | exact (up_ne (by omega)).trans (by first | assumption | exact up_eq)))) (by omega) (Nat.le_of_ble_eq_true rfl) (Nat.le_of_ble_eq_true rfl) ?_
  have hX2 := hX1
  have hY2 := hY1
  refine V_icmp_eq (q := 919) (tgt := 986) dL_law_916 (by decide) rfl (fun _ => ?_) (fun h9 => absurd rfl h9)
  exact next _ _ hX2 hY2 (hB.same rfl rfl rfl)
theorem law_29 {X : XT} {w : HW} {i L : Nat} (hL : g.2.2.2.2.2.1 = L) (hL2 : L ≤ 2048) (hi : i + 4 ≤ L) (hX : XW g w 186 0 X) (hY : MW g w 186 167 X) (hB : Bd X i) (next : ∀ X' w', XW g w' 186 0 X' → MW g w' 186 167 X' → Bd X' (i + 4) → V g l Mlaw room_1 FN 986 [some (.ref g.2.2.2.2.1), some (rf g 0), some (rf g 167), some (.int (nI i))] [] w' 186 186 5422) : V g l Mlaw room_1 FN 921 [some (.ref g.2.2.2.2.1), some (rf g 0), some (rf g 167), some (.int (nI i))] [] w 186 186 5422 := by
  obtain ⟨b0, ox, -⟩ := hX.ob
  obtain ⟨K0, oy, -⟩ := hY.ob
  obtain ⟨hK, hN, hH⟩ := hY.oks
  refine V_aload_n (q := 922) dL_law_921 rfl rfl rfl ?_
  refine CiL_133 (q := 925) rfl dL_law_922 rfl (X_isWell hX hK) ⟨(Nat.le_of_ble_eq_true rfl), (Nat.le_of_ble_eq_true rfl)⟩ (Nat.le_of_ble_eq_true rfl) (by first | assumption | exact up_eq | exact (up_ne (by omega)).trans (by first | assumption | exact up_eq | exact (up_ne (by omega)).trans (by first | assumption | exact up_eq | exact (up_ne (by omega)).trans (by first | assumption | exact up_eq)))) (by omega) (Nat.le_of_ble_eq_true rfl) (Nat.le_of_ble_eq_true rfl) (fun y w1 hw1 => ?_)
  obtain ⟨rfl, hX1, hF1⟩ := hw1
  have hY1 := hY.frame (w' := w1) (fun j a1 a2 => hF1 j (by omega))
  obtain ⟨K1, oy1, -⟩ := hY1.ob
  refine V_aload_n (q := 926) dL_law_925 rfl rfl rfl ?_
  refine CrL_136 (q := 929) rfl dL_law_926 rfl (Y_isWell hY1) ⟨(Nat.le_of_ble_eq_true rfl), (Nat.le_of_ble_eq_true rfl)⟩ (Nat.le_of_ble_eq_true rfl) (by first | assumption | exact up_eq | exact (up_ne (by omega)).trans (by first | assumption | exact up_eq | exact (up_ne (by omega)).trans (by first | assumption | exact up_eq | exact (up_ne (by omega)).trans (by first | assumption | exact up_eq)))) (by omega) (Nat.le_of_ble_eq_true rfl) (Nat.le_of_ble_eq_true rfl) ?_
  have hX2 := hX1
  have hY2 := hY1
  refine V_icmp_eq (q := 932) (tgt := 986) dL_law_929 (by decide) rfl (fun _ => ?_) (fun h9 => absurd rfl h9)
  exact next _ _ hX2 hY2 (hB.same rfl rfl rfl)
theorem law_30 {X : XT} {w : HW} {i L : Nat} (hL : g.2.2.2.2.2.1 = L) (hL2 : L ≤ 2048) (hi : i + 4 ≤ L) (hX : XW g w 186 0 X) (hY : MW g w 186 167 X) (hB : Bd X i) (next : ∀ X' w', XW g w' 186 0 X' → MW g w' 186 167 X' → Bd X' (i + 4) → V g l Mlaw room_1 FN 986 [some (.ref g.2.2.2.2.1), some (rf g 0), some (rf g 167), some (.int (nI i))] [] w' 186 186 5422) : V g l Mlaw room_1 FN 934 [some (.ref g.2.2.2.2.1), some (rf g 0), some (rf g 167), some (.int (nI i))] [] w 186 186 5422 := by
  obtain ⟨b0, ox, -⟩ := hX.ob
  obtain ⟨K0, oy, -⟩ := hY.ob
  obtain ⟨hK, hN, hH⟩ := hY.oks
  refine V_aload_n (q := 935) dL_law_934 rfl rfl rfl ?_
  refine CrL_137 (q := 938) rfl dL_law_935 rfl (X_mean hX) ⟨(Nat.le_of_ble_eq_true rfl), (Nat.le_of_ble_eq_true rfl)⟩ (Nat.le_of_ble_eq_true rfl) (by first | assumption | exact up_eq | exact (up_ne (by omega)).trans (by first | assumption | exact up_eq | exact (up_ne (by omega)).trans (by first | assumption | exact up_eq | exact (up_ne (by omega)).trans (by first | assumption | exact up_eq)))) (by omega) (Nat.le_of_ble_eq_true rfl) (Nat.le_of_ble_eq_true rfl) ?_
  have hX1 := hX
  have hY1 := hY
  have oy1 := oy
  refine V_aload_n (q := 939) dL_law_938 rfl rfl rfl ?_
  refine CrL_140 (q := 942) rfl dL_law_939 rfl (Y_mean hY1) ⟨(Nat.le_of_ble_eq_true rfl), (Nat.le_of_ble_eq_true rfl)⟩ (Nat.le_of_ble_eq_true rfl) (by first | assumption | exact up_eq | exact (up_ne (by omega)).trans (by first | assumption | exact up_eq | exact (up_ne (by omega)).trans (by first | assumption | exact up_eq | exact (up_ne (by omega)).trans (by first | assumption | exact up_eq)))) (by omega) (Nat.le_of_ble_eq_true rfl) (Nat.le_of_ble_eq_true rfl) ?_
  have hX2 := hX1
  have hY2 := hY1
  refine V_icmp_eq (q := 945) (tgt := 986) dL_law_942 (by decide) rfl (fun _ => ?_) (fun h9 => absurd rfl h9)
  exact next _ _ hX2 hY2 (hB.same rfl rfl rfl)
theorem law_31 {X : XT} {w : HW} {i L : Nat} (hL : g.2.2.2.2.2.1 = L) (hL2 : L ≤ 2048) (hi : i + 4 ≤ L) (hX : XW g w 186 0 X) (hY : MW g w 186 167 X) (hB : Bd X i) (next : ∀ X' w', XW g w' 186 0 X' → MW g w' 186 167 X' → Bd X' (i + 4) → V g l Mlaw room_1 FN 986 [some (.ref g.2.2.2.2.1), some (rf g 0), some (rf g 167), some (.int (nI i))] [] w' 186 186 5422) : V g l Mlaw room_1 FN 947 [some (.ref g.2.2.2.2.1), some (rf g 0), some (rf g 167), some (.int (nI i))] [] w 186 186 5422 := by
  obtain ⟨b0, ox, -⟩ := hX.ob
  obtain ⟨K0, oy, -⟩ := hY.ob
  obtain ⟨hK, hN, hH⟩ := hY.oks
  refine V_aload_n (q := 948) dL_law_947 rfl rfl rfl ?_
  refine CiL_141 (q := 951) rfl dL_law_948 rfl (X_undo hX) ⟨(Nat.le_of_ble_eq_true rfl), (Nat.le_of_ble_eq_true rfl)⟩ (Nat.le_of_ble_eq_true rfl) (by first | assumption | exact up_eq | exact (up_ne (by omega)).trans (by first | assumption | exact up_eq | exact (up_ne (by omega)).trans (by first | assumption | exact up_eq | exact (up_ne (by omega)).trans (by first | assumption | exact up_eq)))) (by omega) (Nat.le_of_ble_eq_true rfl) (Nat.le_of_ble_eq_true rfl) (fun y w1 hw1 => ?_)
  obtain ⟨rfl, hX1, hF1⟩ := hw1
  have hY1 := hY.frame (w' := w1) (fun j a1 a2 => hF1 j (by omega))
  obtain ⟨K1, oy1, -⟩ := hY1.ob
  refine V_aload_n (q := 952) dL_law_951 rfl rfl rfl ?_
  refine CiL_144 (q := 955) rfl dL_law_952 rfl (Y_undo hY1) ⟨(Nat.le_of_ble_eq_true rfl), (Nat.le_of_ble_eq_true rfl)⟩ (Nat.le_of_ble_eq_true rfl) (by first | assumption | exact up_eq | exact (up_ne (by omega)).trans (by first | assumption | exact up_eq | exact (up_ne (by omega)).trans (by first | assumption | exact up_eq | exact (up_ne (by omega)).trans (by first | assumption | exact up_eq)))) (by omega) (Nat.le_of_ble_eq_true rfl) (Nat.le_of_ble_eq_true rfl) (fun y2 w2 hw2 => ?_)
  obtain ⟨rfl, hY2, hF2⟩ := hw2
  have hX2 := hX1.frame (w' := w2) (fun j a1 a2 => hF2 j (by omega))
  refine V_icmp_eq (q := 958) (tgt := 986) dL_law_955 (by decide) rfl (fun _ => ?_) (fun h9 => absurd rfl h9)
  exact next _ _ hX2 hY2 (hB.und)
theorem law_32 {X : XT} {w : HW} {i L : Nat} (hL : g.2.2.2.2.2.1 = L) (hL2 : L ≤ 2048) (hi : i + 4 ≤ L) (hX : XW g w 186 0 X) (hY : MW g w 186 167 X) (hB : Bd X i) (next : ∀ X' w', XW g w' 186 0 X' → MW g w' 186 167 X' → Bd X' (i + 4) → V g l Mlaw room_1 FN 986 [some (.ref g.2.2.2.2.1), some (rf g 0), some (rf g 167), some (.int (nI i))] [] w' 186 186 5422) : V g l Mlaw room_1 FN 960 [some (.ref g.2.2.2.2.1), some (rf g 0), some (rf g 167), some (.int (nI i))] [] w 186 186 5422 := by
  obtain ⟨b0, ox, -⟩ := hX.ob
  obtain ⟨K0, oy, -⟩ := hY.ob
  obtain ⟨hK, hN, hH⟩ := hY.oks
  refine V_aload_n (q := 961) dL_law_960 rfl rfl rfl ?_
  refine CiL_145 (q := 964) rfl dL_law_961 rfl (X_save hX) ⟨(Nat.le_of_ble_eq_true rfl), (Nat.le_of_ble_eq_true rfl)⟩ (Nat.le_of_ble_eq_true rfl) (by first | assumption | exact up_eq | exact (up_ne (by omega)).trans (by first | assumption | exact up_eq | exact (up_ne (by omega)).trans (by first | assumption | exact up_eq | exact (up_ne (by omega)).trans (by first | assumption | exact up_eq)))) (by omega) (Nat.le_of_ble_eq_true rfl) (Nat.le_of_ble_eq_true rfl) (fun y w1 hw1 => ?_)
  obtain ⟨rfl, hX1, hF1⟩ := hw1
  have hY1 := hY.frame (w' := w1) (fun j a1 a2 => hF1 j (by omega))
  obtain ⟨K1, oy1, -⟩ := hY1.ob
  refine V_aload_n (q := 965) dL_law_964 rfl rfl rfl ?_
  refine CiL_148 (q := 968) rfl dL_law_965 rfl (Y_save hY1) ⟨(Nat.le_of_ble_eq_true rfl), (Nat.le_of_ble_eq_true rfl)⟩ (Nat.le_of_ble_eq_true rfl) (by first | assumption | exact up_eq | exact (up_ne (by omega)).trans (by first | assumption | exact up_eq | exact (up_ne (by omega)).trans (by first | assumption | exact up_eq | exact (up_ne (by omega)).trans (by first | assumption | exact up_eq)))) (by omega) (Nat.le_of_ble_eq_true rfl) (Nat.le_of_ble_eq_true rfl) (fun y2 w2 hw2 => ?_)
  obtain ⟨rfl, hY2, hF2⟩ := hw2
  have hX2 := hX1.frame (w' := w2) (fun j a1 a2 => hF2 j (by omega))
  refine V_icmp_eq (q := 971) (tgt := 986) dL_law_968 (by decide) rfl (fun _ => ?_) (fun h9 => absurd rfl h9)
  exact next _ _ hX2 hY2 (hB.sav)
theorem law_33 {X : XT} {w : HW} {i L : Nat} (hL : g.2.2.2.2.2.1 = L) (hL2 : L ≤ 2048) (hi : i + 4 ≤ L) (hX : XW g w 186 0 X) (hY : MW g w 186 167 X) (hB : Bd X i) (next : ∀ X' w', XW g w' 186 0 X' → MW g w' 186 167 X' → Bd X' (i + 4) → V g l Mlaw room_1 FN 986 [some (.ref g.2.2.2.2.1), some (rf g 0), some (rf g 167), some (.int (nI i))] [] w' 186 186 5422) : V g l Mlaw room_1 FN 973 [some (.ref g.2.2.2.2.1), some (rf g 0), some (rf g 167), some (.int (nI i))] [] w 186 186 5422 := by
  obtain ⟨b0, ox, -⟩ := hX.ob
  obtain ⟨K0, oy, -⟩ := hY.ob
  obtain ⟨hK, hN, hH⟩ := hY.oks
  refine V_aload_n (q := 974) dL_law_973 rfl rfl rfl ?_
  refine CiL_149 (q := 977) rfl dL_law_974 rfl (X_restore hX hH) ⟨(Nat.le_of_ble_eq_true rfl), (Nat.le_of_ble_eq_true rfl)⟩ (Nat.le_of_ble_eq_true rfl) (by first | assumption | exact up_eq | exact (up_ne (by omega)).trans (by first | assumption | exact up_eq | exact (up_ne (by omega)).trans (by first | assumption | exact up_eq | exact (up_ne (by omega)).trans (by first | assumption | exact up_eq)))) (by omega) (Nat.le_of_ble_eq_true rfl) (Nat.le_of_ble_eq_true rfl) (fun y w1 hw1 => ?_)
  obtain ⟨rfl, hX1, hF1⟩ := hw1
  have hY1 := hY.frame (w' := w1) (fun j a1 a2 => hF1 j (by omega))
  obtain ⟨K1, oy1, -⟩ := hY1.ob
  refine V_aload_n (q := 978) dL_law_977 rfl rfl rfl ?_
  refine CiL_152 (q := 981) rfl dL_law_978 rfl (Y_restore hY1) ⟨(Nat.le_of_ble_eq_true rfl), (Nat.le_of_ble_eq_true rfl)⟩ (Nat.le_of_ble_eq_true rfl) (by first | assumption | exact up_eq | exact (up_ne (by omega)).trans (by first | assumption | exact up_eq | exact (up_ne (by omega)).trans (by first | assumption | exact up_eq | exact (up_ne (by omega)).trans (by first | assumption | exact up_eq)))) (by omega) (Nat.le_of_ble_eq_true rfl) (Nat.le_of_ble_eq_true rfl) (fun y2 w2 hw2 => ?_)
  obtain ⟨rfl, hY2, hF2⟩ := hw2
  have hX2 := hX1.frame (w' := w2) (fun j a1 a2 => hF2 j (by omega))
  refine V_icmp_eq (q := 984) (tgt := 986) dL_law_981 (by decide) rfl (fun _ => ?_) (fun h9 => absurd rfl h9)
  exact next _ _ hX2 hY2 (hB.res)
end LK
