/-! the law's act -/
theorem all_nI (x : Int32) : ∃ m, x = nI m := ⟨x.toBitVec.toNat, by
  apply Int32.toBitVec_inj.mp
  simp [nI]⟩
theorem andM (x : Int32) (k : Nat) : ∃ j, j < 2 ^ k ∧ x &&& nI (2 ^ k - 1) = nI j := by
  obtain ⟨m, rfl⟩ := all_nI x
  exact ⟨m % 2 ^ k, Nat.mod_lt _ (Nat.two_pow_pos k), fa_mask m k⟩
/-- what an act leaves -/
def AcP (g : GG) (w : HW) (n o K : Nat) (X : XT) (x : Int32) : Int32 → HW → Prop := fun y w' => ∃ X', XW g w' n o X' ∧ FrX w w' o ∧ IX (K + 639) X' ∧ (xT X').1 = 0 ∧ (y < 0 → xN X' = xN X ∨ x &&& nI 15 = nI 5)
theorem chg_T {X : XT} {res : OpR} : xT (chgX X res).2 = xT X := by
  unfold chgX
  by_cases e : isErr res.1
  · rw [if_pos e]; rfl
  · rw [if_neg e]; rfl
theorem rea_T {X : XT} : (xT (reaA X).2).1 = 0 := by
  unfold reaA
  split <;> rfl
theorem und_T {X : XT} : xT (undA X).2 = xT X := by
  unfold undA
  split <;> rfl
theorem res_T {X : XT} : xT (resA X).2 = xT X := by
  unfold resA
  split <;> rfl
section ACT
variable {g : GG} {l : Launch} {w : HW} {n o K : Nat} {X : XT} {x : Int32}
theorem AcP.chg {w' : HW} {y : Int32} {res : OpR} (hI : IX K X) (h0 : (xT X).1 = 0) (h1 : GdR (xN X) res) (h2 : Op9 (xN X) res ∧ Neg3 res) (hP : XP g w n o (chgX X res) y w') : AcP g w n o K X x y w' := by
  obtain ⟨rfl, hX, hF⟩ := hP
  exact ⟨_, hX, hF, (hI.chg h1 h2.1).up (by omega), by rw [chg_T]; exact h0, fun hn => Or.inl (chg_neg h1 h2.2 hn)⟩
theorem c_act (hX : XW g w n o X) (hI : IX K X) (h0 : (xT X).1 = 0) : CtI g l ML_act 8 [rf g o, .int x] w n (AcP g w n o K X x) := by
  have hN := hX.okn
  have hNS := hX.oks
  obtain ⟨hob, hn⟩ := hX.obj
  have hS := hI.1.1
  obtain ⟨k, hk, ek⟩ := andM x 4
  have ek : x &&& nI 15 = nI k := ek
  have hk : k < 16 := hk
  obtain ⟨Y, hY, eY⟩ := andM (x >>> (nI 4 &&& 31)) 16
  have eY : x >>> (nI 4 &&& 31) &&& nI 65535 = nI Y := eY
  have hY : Y < 65536 := hY
  have h26 : Y % 26 < 26 := Nat.mod_lt _ (by decide)
  have cJoin : V g l ML_act (rmd 8 0 0) (FinM g (qI (AcP g w n o K X x) n) 0 0) 211 [some (rf g o), some (.int x), some (.int (nI Y)), some (.int (nI (Y % 7)))] [] (w) n 0 0 := by
    refine V_aload_n (q := 212) dL_act_211 rfl rfl rfl ?_
    refine V_iload_n (q := 213) dL_act_212 rfl rfl ?_
    refine CiL_47 (q := 216) rfl dL_act_213 rfl ((X_join hX hS)) ⟨(Nat.le_of_ble_eq_true rfl), (Nat.le_of_ble_eq_true rfl)⟩ (Nat.le_of_ble_eq_true rfl) (by first | assumption | exact up_eq | exact (up_ne (by omega)).trans (by first | assumption | exact up_eq | exact (up_ne (by omega)).trans (by first | assumption | exact up_eq | exact (up_ne (by omega)).trans (by first | assumption | exact up_eq)))) (by omega) (Nat.zero_le _) (Nat.zero_le _) (fun y w1 h1 => ?_)
    exact V_iret dL_act_216 rfl (Nat.le_of_ble_eq_true rfl) (Nat.le_of_ble_eq_true rfl) (⟨rfl, _, rfl, AcP.chg hI h0 (joinA_ok hS hN) (joinA_9 hS hN) h1⟩)
  have cToss : V g l ML_act (rmd 8 0 0) (FinM g (qI (AcP g w n o K X x) n) 0 0) 200 [some (rf g o), some (.int x), some (.int (nI Y)), some (.int (nI (Y % 7)))] [] (w) n 0 0 := by
    refine V_aload_n (q := 201) dL_act_200 rfl rfl rfl ?_
    refine V_iload_n (q := 202) dL_act_201 rfl rfl ?_
    refine V_iconst (q := 203) (v := nI 4) dL_act_202 rfl (by decide) ?_
    refine V_ishr (q := 204) dL_act_203 rfl (shr1 (k := 4) (by decide) (by omega)) ?_
    refine V_bipush (q := 206) (v := nI 11) dL_act_204 rfl (by decide) ?_
    refine V_irem (q := 207) dL_act_206 rfl (nI_ne0 (by omega) (by omega)) (by first | exact pk_rem (by omega) (by omega) (by omega) | rfl) ?_
    refine CiL_44 (q := 210) rfl dL_act_207 rfl ((X_toss hX hS)) ⟨(Nat.le_of_ble_eq_true rfl), (Nat.le_of_ble_eq_true rfl)⟩ (Nat.le_of_ble_eq_true rfl) (by first | assumption | exact up_eq | exact (up_ne (by omega)).trans (by first | assumption | exact up_eq | exact (up_ne (by omega)).trans (by first | assumption | exact up_eq | exact (up_ne (by omega)).trans (by first | assumption | exact up_eq)))) (by omega) (Nat.zero_le _) (Nat.zero_le _) (fun y w1 h1 => ?_)
    exact V_iret dL_act_210 rfl (Nat.le_of_ble_eq_true rfl) (Nat.le_of_ble_eq_true rfl) (⟨rfl, _, rfl, AcP.chg hI h0 (tossA_ok hS hN) (tossA_9 hN) h1⟩)
  have cSwap : V g l ML_act (rmd 8 0 0) (FinM g (qI (AcP g w n o K X x) n) 0 0) 155 [some (rf g o), some (.int x), some (.int (nI Y)), some (.int (nI (Y % 7)))] [] (w) n 0 0 := by
    refine V_aload_n (q := 156) dL_act_155 rfl rfl rfl ?_
    refine V_iload_n (q := 157) dL_act_156 rfl rfl ?_
    refine V_iload_n (q := 158) dL_act_157 rfl rfl ?_
    refine V_iconst (q := 159) (v := nI 4) dL_act_158 rfl (by decide) ?_
    refine V_ishr (q := 160) dL_act_159 rfl (shr1 (k := 4) (by decide) (by omega)) ?_
    refine V_iconst (q := 161) (v := nI 4) dL_act_160 rfl (by decide) ?_
    refine V_irem (q := 162) dL_act_161 rfl (nI_ne0 (by omega) (by omega)) (by first | exact pk_rem (by omega) (by omega) (by omega) | rfl) ?_
    refine V_iload_n (q := 163) dL_act_162 rfl rfl ?_
    refine V_bipush (q := 165) (v := nI 7) dL_act_163 rfl (by decide) ?_
    refine V_ishr (q := 166) dL_act_165 rfl (shr1 (k := 7) (by decide) (by omega)) ?_
    refine V_iconst (q := 167) (v := nI 5) dL_act_166 rfl (by decide) ?_
    refine V_irem (q := 168) dL_act_167 rfl (nI_ne0 (by omega) (by omega)) (by first | exact pk_rem (by omega) (by omega) (by omega) | rfl) ?_
    refine CiL_34 (q := 171) rfl dL_act_168 rfl ((X_swap hX)) ⟨(Nat.le_of_ble_eq_true rfl), (Nat.le_of_ble_eq_true rfl)⟩ (Nat.le_of_ble_eq_true rfl) (by first | assumption | exact up_eq | exact (up_ne (by omega)).trans (by first | assumption | exact up_eq | exact (up_ne (by omega)).trans (by first | assumption | exact up_eq | exact (up_ne (by omega)).trans (by first | assumption | exact up_eq)))) (by omega) (Nat.zero_le _) (Nat.zero_le _) (fun y w1 h1 => ?_)
    exact V_iret dL_act_171 rfl (Nat.le_of_ble_eq_true rfl) (Nat.le_of_ble_eq_true rfl) (⟨rfl, _, rfl, AcP.chg hI h0 (swapA_ok hS hN) (swapA_9 hN) h1⟩)
  have cRead : V g l ML_act (rmd 8 0 0) (FinM g (qI (AcP g w n o K X x) n) 0 0) 223 [some (rf g o), some (.int x), some (.int (nI Y)), some (.int (nI (Y % 7)))] [] (w) n 0 0 := by
    refine V_aload_n (q := 224) dL_act_223 rfl rfl rfl ?_
    refine V_getTx (q := 227) dL_act_224 rfl wd_4 ?_
    refine V_iload_n (q := 228) dL_act_227 rfl rfl ?_
    refine V_getTx (q := 231) dL_act_228 rfl wd_4 ?_
    refine V_txlen (q := 232) dL_act_231 rfl ?_
    refine V_irem (q := 233) dL_act_232 rfl (nI_ne0 (by omega) (by omega)) (by first | exact pk_rem (by omega) (by omega) (by omega) | rfl) ?_
    refine V_txald (q := 234) dL_act_233 rfl (by omega) rfl ?_
    refine CoL_59 (q := 237) rfl dL_act_234 rfl ((c_write h26 hX h0)) ⟨(Nat.le_of_ble_eq_true rfl), (Nat.le_of_ble_eq_true rfl)⟩ (Nat.le_of_ble_eq_true rfl) (Nat.zero_le _) (Nat.zero_le _) (fun w1 h1 => ?_)
    obtain ⟨hX1, hF1⟩ := h1
    obtain ⟨hob1, hn1⟩ := hX1.obj
    skip
    refine CiL_63 (q := 240) rfl dL_act_237 rfl ((X_read hX1 hS)) ⟨(Nat.le_of_ble_eq_true rfl), (Nat.le_of_ble_eq_true rfl)⟩ (Nat.le_of_ble_eq_true rfl) (by first | assumption | exact up_eq | exact (up_ne (by omega)).trans (by first | assumption | exact up_eq | exact (up_ne (by omega)).trans (by first | assumption | exact up_eq | exact (up_ne (by omega)).trans (by first | assumption | exact up_eq)))) (by omega) (Nat.zero_le _) (Nat.zero_le _) (fun y w2 h2 => ?_)
    obtain ⟨rfl, hX2, hF2⟩ := h2
    have hI1 : IX K (setT X (lenT.getD (Y % 26) 0, txc (Y % 26))) := hI.same rfl rfl rfl rfl
    obtain ⟨r1, r2⟩ := hI1.rea hN
    exact V_iret dL_act_240 rfl (Nat.le_of_ble_eq_true rfl) (Nat.le_of_ble_eq_true rfl) (⟨rfl, _, rfl, _, hX2, hF1.tr hF2, r1, rea_T, fun hn => Or.inl (r2 hn)⟩)
  refine Ct.ofs (M := ML_act) (ls := [some _, some _, none, none]) (by decide +kernel) (by exact (Nat.le_of_ble_eq_true rfl)) (by rfl) (by rfl) (by rfl) ?_
  refine V_iload_n (q := 1) dL_act_0 rfl rfl ?_
  refine V_iconst (q := 2) (v := nI 4) dL_act_1 rfl (by decide) ?_
  refine V_ishr (q := 3) dL_act_2 rfl rfl ?_
  refine V_ldc (q := 5) (v := nI 65535) dL_act_3 rfl wd_285 ?_
  refine V_iand (q := 6) dL_act_5 rfl eY ?_
  refine V_istore_n (q := 7) (ls' := [_, _, _, _]) dL_act_6 rfl (by decide) (by rfl) rfl ?_
  refine V_iload_n (q := 8) dL_act_7 rfl rfl ?_
  refine V_bipush (q := 10) (v := nI 7) dL_act_8 rfl (by decide) ?_
  refine V_irem (q := 11) dL_act_10 rfl (nI_ne0 (by omega) (by omega)) (by first | exact pk_rem (by omega) (by omega) (by omega) | rfl) ?_
  refine V_istore_n (q := 12) (ls' := [_, _, _, _]) dL_act_11 rfl (by decide) (by rfl) rfl ?_
  refine V_iload_n (q := 13) dL_act_12 rfl rfl ?_
  refine V_bipush (q := 15) (v := nI 15) dL_act_13 rfl (by decide) ?_
  refine V_iand (q := 16) dL_act_15 rfl ek ?_
  rcases (by omega : k = 0 ∨ k = 1 ∨ k = 2 ∨ k = 3 ∨ k = 4 ∨ k = 5 ∨ k = 6 ∨ k = 7 ∨ k = 8 ∨ k = 9 ∨ k = 10 ∨ k = 11 ∨ k = 12 ∨ k = 13 ∨ k = 14 ∨ k = 15) with rfl | rfl | rfl | rfl | rfl | rfl | rfl | rfl | rfl | rfl | rfl | rfl | rfl | rfl | rfl | rfl
  · skip
    refine V_tabIn (off := 76) (tgt := 92) dL_act_16 (by decide) (by decide) (by decide) (by decide) ?_
    refine V_aload_n (q := 93) dL_act_92 rfl rfl rfl ?_
    refine V_iload_n (q := 94) dL_act_93 rfl rfl ?_
    refine V_iconst (q := 95) (v := nI 3) dL_act_94 rfl (by decide) ?_
    refine V_ishr (q := 96) dL_act_95 rfl (shr1 (k := 3) (by decide) (by omega)) ?_
    refine V_sipush (q := 99) (v := nI 1000) dL_act_96 rfl (by decide) ?_
    refine V_irem (q := 100) dL_act_99 rfl (nI_ne0 (by omega) (by omega)) (by first | exact pk_rem (by omega) (by omega) (by omega) | rfl) ?_
    refine V_iconst (q := 101) (v := nI 1) dL_act_100 rfl (by decide) ?_
    refine V_iload_n (q := 102) dL_act_101 rfl rfl ?_
    refine V_iconst (q := 103) (v := nI 3) dL_act_102 rfl (by decide) ?_
    refine V_ishr (q := 104) dL_act_103 rfl (shr1 (k := 3) (by decide) (by omega)) ?_
    refine V_iconst (q := 105) (v := nI 4) dL_act_104 rfl (by decide) ?_
    refine V_irem (q := 106) dL_act_105 rfl (nI_ne0 (by omega) (by omega)) (by first | exact pk_rem (by omega) (by omega) (by omega) | rfl) ?_
    refine V_iadd (q := 107) dL_act_106 rfl (by first | exact nI_add _ _ | rfl) ?_
    refine CiL_24 (q := 110) rfl dL_act_107 rfl ((X_row hX)) ⟨(Nat.le_of_ble_eq_true rfl), (Nat.le_of_ble_eq_true rfl)⟩ (Nat.le_of_ble_eq_true rfl) (by first | assumption | exact up_eq | exact (up_ne (by omega)).trans (by first | assumption | exact up_eq | exact (up_ne (by omega)).trans (by first | assumption | exact up_eq | exact (up_ne (by omega)).trans (by first | assumption | exact up_eq)))) (by omega) (Nat.zero_le _) (Nat.zero_le _) (fun y w1 h1 => ?_)
    exact V_iret dL_act_110 rfl (Nat.le_of_ble_eq_true rfl) (Nat.le_of_ble_eq_true rfl) (⟨rfl, _, rfl, AcP.chg hI h0 (addA_ok hS hN) (addA_9 hN) h1⟩)
  · skip
    refine V_tabIn (off := 95) (tgt := 111) dL_act_16 (by decide) (by decide) (by decide) (by decide) ?_
    refine V_iload_n (q := 112) dL_act_111 rfl rfl ?_
    refine V_bipush (q := 114) (v := nI 8) dL_act_112 rfl (by decide) ?_
    refine V_ishr (q := 115) dL_act_114 rfl (shr1 (k := 8) (by decide) (by omega)) ?_
    refine V_iconst (q := 116) (v := nI 1) dL_act_115 rfl (by decide) ?_
    refine V_iand (q := 117) dL_act_116 rfl (by first | exact fa_and _ _ | rfl) ?_
    refine V_if_ne (q := 120) (tgt := 143) dL_act_117 (by decide) rfl (fun h1 => ?_) (fun h1 => ?_)
    · skip
      refine V_aload_n (q := 144) dL_act_143 rfl rfl rfl ?_
      refine V_iload_n (q := 145) dL_act_144 rfl rfl ?_
      refine CiL_28 (q := 148) rfl dL_act_145 rfl ((X_drop hX)) ⟨(Nat.le_of_ble_eq_true rfl), (Nat.le_of_ble_eq_true rfl)⟩ (Nat.le_of_ble_eq_true rfl) (by first | assumption | exact up_eq | exact (up_ne (by omega)).trans (by first | assumption | exact up_eq | exact (up_ne (by omega)).trans (by first | assumption | exact up_eq | exact (up_ne (by omega)).trans (by first | assumption | exact up_eq)))) (by omega) (Nat.zero_le _) (Nat.zero_le _) (fun y w1 h1 => ?_)
      exact V_iret dL_act_148 rfl (Nat.le_of_ble_eq_true rfl) (Nat.le_of_ble_eq_true rfl) (⟨rfl, _, rfl, AcP.chg hI h0 (dropA_ok hS hN) (dropA_9 hN) h1⟩)
    · skip
      refine V_aload_n (q := 121) dL_act_120 rfl rfl rfl ?_
      refine V_iload_n (q := 122) dL_act_121 rfl rfl ?_
      refine V_iconst (q := 123) (v := nI 1) dL_act_122 rfl (by decide) ?_
      refine V_iand (q := 124) dL_act_123 rfl (by first | exact fa_and _ _ | rfl) ?_
      refine V_if_ne (q := 127) (tgt := 133) dL_act_124 (by decide) rfl (fun h2 => ?_) (fun h2 => ?_)
      · skip
        refine V_sipush (q := 136) (v := nI 531) dL_act_133 rfl (by decide) ?_
        refine V_iconst (q := 137) (v := nI 3) dL_act_136 rfl (by decide) ?_
        refine CiL_24 (q := 140) rfl dL_act_137 rfl ((X_row hX)) ⟨(Nat.le_of_ble_eq_true rfl), (Nat.le_of_ble_eq_true rfl)⟩ (Nat.le_of_ble_eq_true rfl) (by first | assumption | exact up_eq | exact (up_ne (by omega)).trans (by first | assumption | exact up_eq | exact (up_ne (by omega)).trans (by first | assumption | exact up_eq | exact (up_ne (by omega)).trans (by first | assumption | exact up_eq)))) (by omega) (Nat.zero_le _) (Nat.zero_le _) (fun y w1 h1 => ?_)
        refine V_goto (tgt := 148) dL_act_140 (by decide) ?_
        exact V_iret dL_act_148 rfl (Nat.le_of_ble_eq_true rfl) (Nat.le_of_ble_eq_true rfl) (⟨rfl, _, rfl, AcP.chg hI h0 (addA_ok hS hN) (addA_9 hN) h1⟩)
      · skip
        refine V_sipush (q := 130) (v := nI 441) dL_act_127 rfl (by decide) ?_
        refine V_goto (tgt := 136) dL_act_130 (by decide) ?_
        refine V_iconst (q := 137) (v := nI 3) dL_act_136 rfl (by decide) ?_
        refine CiL_24 (q := 140) rfl dL_act_137 rfl ((X_row hX)) ⟨(Nat.le_of_ble_eq_true rfl), (Nat.le_of_ble_eq_true rfl)⟩ (Nat.le_of_ble_eq_true rfl) (by first | assumption | exact up_eq | exact (up_ne (by omega)).trans (by first | assumption | exact up_eq | exact (up_ne (by omega)).trans (by first | assumption | exact up_eq | exact (up_ne (by omega)).trans (by first | assumption | exact up_eq)))) (by omega) (Nat.zero_le _) (Nat.zero_le _) (fun y w1 h1 => ?_)
        refine V_goto (tgt := 148) dL_act_140 (by decide) ?_
        exact V_iret dL_act_148 rfl (Nat.le_of_ble_eq_true rfl) (Nat.le_of_ble_eq_true rfl) (⟨rfl, _, rfl, AcP.chg hI h0 (addA_ok hS hN) (addA_9 hN) h1⟩)
  · skip
    refine V_tabIn (off := 133) (tgt := 149) dL_act_16 (by decide) (by decide) (by decide) (by decide) ?_
    refine V_aload_n (q := 150) dL_act_149 rfl rfl rfl ?_
    refine V_iload_n (q := 151) dL_act_150 rfl rfl ?_
    refine CiL_31 (q := 154) rfl dL_act_151 rfl ((X_turn hX)) ⟨(Nat.le_of_ble_eq_true rfl), (Nat.le_of_ble_eq_true rfl)⟩ (Nat.le_of_ble_eq_true rfl) (by first | assumption | exact up_eq | exact (up_ne (by omega)).trans (by first | assumption | exact up_eq | exact (up_ne (by omega)).trans (by first | assumption | exact up_eq | exact (up_ne (by omega)).trans (by first | assumption | exact up_eq)))) (by omega) (Nat.zero_le _) (Nat.zero_le _) (fun y w1 h1 => ?_)
    exact V_iret dL_act_154 rfl (Nat.le_of_ble_eq_true rfl) (Nat.le_of_ble_eq_true rfl) (⟨rfl, _, rfl, AcP.chg hI h0 (turnA_ok hS hN) (turnA_9 hN) h1⟩)
  · skip
    refine V_tabIn (off := 139) (tgt := 155) dL_act_16 (by decide) (by decide) (by decide) (by decide) ?_
    exact cSwap
  · skip
    refine V_tabIn (off := 139) (tgt := 155) dL_act_16 (by decide) (by decide) (by decide) (by decide) ?_
    exact cSwap
  · skip
    refine V_tabIn (off := 156) (tgt := 172) dL_act_16 (by decide) (by decide) (by decide) (by decide) ?_
    refine V_iload_n (q := 173) dL_act_172 rfl rfl ?_
    refine V_bipush (q := 175) (v := nI 8) dL_act_173 rfl (by decide) ?_
    refine V_ishr (q := 176) dL_act_175 rfl (shr1 (k := 8) (by decide) (by omega)) ?_
    refine V_iconst (q := 177) (v := nI 1) dL_act_176 rfl (by decide) ?_
    refine V_iand (q := 178) dL_act_177 rfl (by first | exact fa_and _ _ | rfl) ?_
    refine V_if_ne (q := 181) (tgt := 189) dL_act_178 (by decide) rfl (fun h1 => ?_) (fun h1 => ?_)
    · skip
      refine V_aload_n (q := 190) dL_act_189 rfl rfl rfl ?_
      refine V_iload_n (q := 191) dL_act_190 rfl rfl ?_
      refine V_iconst (q := 192) (v := nI 4) dL_act_191 rfl (by decide) ?_
      refine V_ishr (q := 193) dL_act_192 rfl (shr1 (k := 4) (by decide) (by omega)) ?_
      refine V_bipush (q := 195) (v := nI 10) dL_act_193 rfl (by decide) ?_
      refine V_irem (q := 196) dL_act_195 rfl (nI_ne0 (by omega) (by omega)) (by first | exact pk_rem (by omega) (by omega) (by omega) | rfl) ?_
      refine CiL_41 (q := 199) rfl dL_act_196 rfl ((X_begin hX)) ⟨(Nat.le_of_ble_eq_true rfl), (Nat.le_of_ble_eq_true rfl)⟩ (Nat.le_of_ble_eq_true rfl) (by first | assumption | exact up_eq | exact (up_ne (by omega)).trans (by first | assumption | exact up_eq | exact (up_ne (by omega)).trans (by first | assumption | exact up_eq | exact (up_ne (by omega)).trans (by first | assumption | exact up_eq)))) (by omega) (Nat.zero_le _) (Nat.zero_le _) (fun y w1 h1 => ?_)
      skip
      exact V_iret dL_act_199 rfl (Nat.le_of_ble_eq_true rfl) (Nat.le_of_ble_eq_true rfl) (⟨rfl, _, rfl, AcP.chg hI h0 (beginA_ok hS hN) (beginA_9 hN) h1⟩)
    · skip
      refine V_aload_n (q := 182) dL_act_181 rfl rfl rfl ?_
      refine V_iload_n (q := 183) dL_act_182 rfl rfl ?_
      refine CiL_38 (q := 186) rfl dL_act_183 rfl ((X_lift hX)) ⟨(Nat.le_of_ble_eq_true rfl), (Nat.le_of_ble_eq_true rfl)⟩ (Nat.le_of_ble_eq_true rfl) (by first | assumption | exact up_eq | exact (up_ne (by omega)).trans (by first | assumption | exact up_eq | exact (up_ne (by omega)).trans (by first | assumption | exact up_eq | exact (up_ne (by omega)).trans (by first | assumption | exact up_eq)))) (by omega) (Nat.zero_le _) (Nat.zero_le _) (fun y w1 h1 => ?_)
      obtain ⟨rfl, hX1, hF1⟩ := h1
      refine V_goto (tgt := 199) dL_act_186 (by decide) ?_
      exact V_iret dL_act_199 rfl (Nat.le_of_ble_eq_true rfl) (Nat.le_of_ble_eq_true rfl) (⟨rfl, _, rfl, _, hX1, hF1, (hI.chg (liftA_ok hS hN) (liftA_9 hN)).up (by omega), by rw [chg_T]; exact h0, fun _ => Or.inr ek⟩)
  · skip
    refine V_tabIn (off := 184) (tgt := 200) dL_act_16 (by decide) (by decide) (by decide) (by decide) ?_
    exact cToss
  · skip
    refine V_tabIn (off := 184) (tgt := 200) dL_act_16 (by decide) (by decide) (by decide) (by decide) ?_
    exact cToss
  · skip
    refine V_tabIn (off := 184) (tgt := 200) dL_act_16 (by decide) (by decide) (by decide) (by decide) ?_
    exact cToss
  · skip
    refine V_tabIn (off := 195) (tgt := 211) dL_act_16 (by decide) (by decide) (by decide) (by decide) ?_
    exact cJoin
  · skip
    refine V_tabIn (off := 195) (tgt := 211) dL_act_16 (by decide) (by decide) (by decide) (by decide) ?_
    exact cJoin
  · skip
    refine V_tabIn (off := 195) (tgt := 211) dL_act_16 (by decide) (by decide) (by decide) (by decide) ?_
    exact cJoin
  · skip
    refine V_tabIn (off := 201) (tgt := 217) dL_act_16 (by decide) (by decide) (by decide) (by decide) ?_
    refine V_aload_n (q := 218) dL_act_217 rfl rfl rfl ?_
    refine V_iload_n (q := 219) dL_act_218 rfl rfl ?_
    refine CiL_50 (q := 222) rfl dL_act_219 rfl ((X_once hX hS)) ⟨(Nat.le_of_ble_eq_true rfl), (Nat.le_of_ble_eq_true rfl)⟩ (Nat.le_of_ble_eq_true rfl) (by first | assumption | exact up_eq | exact (up_ne (by omega)).trans (by first | assumption | exact up_eq | exact (up_ne (by omega)).trans (by first | assumption | exact up_eq | exact (up_ne (by omega)).trans (by first | assumption | exact up_eq)))) (by omega) (Nat.zero_le _) (Nat.zero_le _) (fun y w1 h1 => ?_)
    exact V_iret dL_act_222 rfl (Nat.le_of_ble_eq_true rfl) (Nat.le_of_ble_eq_true rfl) (⟨rfl, _, rfl, AcP.chg hI h0 (onceA_ok hS hN) (onceA_9 hN) h1⟩)
  · skip
    refine V_tabIn (off := 207) (tgt := 223) dL_act_16 (by decide) (by decide) (by decide) (by decide) ?_
    exact cRead
  · skip
    refine V_tabIn (off := 207) (tgt := 223) dL_act_16 (by decide) (by decide) (by decide) (by decide) ?_
    exact cRead
  · skip
    refine V_tabOut (tgt := 241) dL_act_16 (by decide) (by decide) ?_
    refine V_iload_n (q := 242) dL_act_241 rfl rfl ?_
    refine V_iconst (q := 243) (v := nI 3) dL_act_242 rfl (by decide) ?_
    refine V_iand (q := 244) dL_act_243 rfl (by first | exact fa_and _ _ | rfl) ?_
    refine V_if_ne (q := 247) (tgt := 254) dL_act_244 (by decide) rfl (fun h1 => ?_) (fun h1 => ?_)
    · skip
      refine V_iload_n (q := 255) dL_act_254 rfl rfl ?_
      refine V_iconst (q := 256) (v := nI 3) dL_act_255 rfl (by decide) ?_
      refine V_iand (q := 257) dL_act_256 rfl (by first | exact fa_and _ _ | rfl) ?_
      refine V_iconst (q := 258) (v := nI 1) dL_act_257 rfl (by decide) ?_
      refine V_icmp_ne (q := 261) (tgt := 268) dL_act_258 (by decide) rfl (fun h2 => ?_) (fun h2 => ?_)
      · skip
        refine V_aload_n (q := 269) dL_act_268 rfl rfl rfl ?_
        refine CiL_72 (q := 272) rfl dL_act_269 rfl ((X_undo hX)) ⟨(Nat.le_of_ble_eq_true rfl), (Nat.le_of_ble_eq_true rfl)⟩ (Nat.le_of_ble_eq_true rfl) (by first | assumption | exact up_eq | exact (up_ne (by omega)).trans (by first | assumption | exact up_eq | exact (up_ne (by omega)).trans (by first | assumption | exact up_eq | exact (up_ne (by omega)).trans (by first | assumption | exact up_eq)))) (by omega) (Nat.zero_le _) (Nat.zero_le _) (fun y w1 h1 => ?_)
        obtain ⟨rfl, hX1, hF1⟩ := h1
        obtain ⟨r1, r2⟩ := hI.und
        skip
        exact V_iret dL_act_272 rfl (Nat.le_of_ble_eq_true rfl) (Nat.le_of_ble_eq_true rfl) (⟨rfl, _, rfl, _, hX1, hF1, r1.up (by omega), by rw [und_T]; exact h0, fun hn => Or.inl (r2 hn)⟩)
      · skip
        refine V_aload_n (q := 262) dL_act_261 rfl rfl rfl ?_
        refine CiL_69 (q := 265) rfl dL_act_262 rfl ((X_restore hX hI.2.2.2.1)) ⟨(Nat.le_of_ble_eq_true rfl), (Nat.le_of_ble_eq_true rfl)⟩ (Nat.le_of_ble_eq_true rfl) (by first | assumption | exact up_eq | exact (up_ne (by omega)).trans (by first | assumption | exact up_eq | exact (up_ne (by omega)).trans (by first | assumption | exact up_eq | exact (up_ne (by omega)).trans (by first | assumption | exact up_eq)))) (by omega) (Nat.zero_le _) (Nat.zero_le _) (fun y w1 h1 => ?_)
        obtain ⟨rfl, hX1, hF1⟩ := h1
        obtain ⟨r1, r2⟩ := hI.res hNS.1
        refine V_goto (tgt := 272) dL_act_265 (by decide) ?_
        exact V_iret dL_act_272 rfl (Nat.le_of_ble_eq_true rfl) (Nat.le_of_ble_eq_true rfl) (⟨rfl, _, rfl, _, hX1, hF1, r1.up (by omega), by rw [res_T]; exact h0, fun hn => Or.inl (r2 hn)⟩)
    · skip
      refine V_aload_n (q := 248) dL_act_247 rfl rfl rfl ?_
      refine CiL_66 (q := 251) rfl dL_act_248 rfl ((X_save hX)) ⟨(Nat.le_of_ble_eq_true rfl), (Nat.le_of_ble_eq_true rfl)⟩ (Nat.le_of_ble_eq_true rfl) (by first | assumption | exact up_eq | exact (up_ne (by omega)).trans (by first | assumption | exact up_eq | exact (up_ne (by omega)).trans (by first | assumption | exact up_eq | exact (up_ne (by omega)).trans (by first | assumption | exact up_eq)))) (by omega) (Nat.zero_le _) (Nat.zero_le _) (fun y w1 h1 => ?_)
      obtain ⟨rfl, hX1, hF1⟩ := h1
      refine V_goto (tgt := 272) dL_act_251 (by decide) ?_
      exact V_iret dL_act_272 rfl (Nat.le_of_ble_eq_true rfl) (Nat.le_of_ble_eq_true rfl) (⟨rfl, _, rfl, _, hX1, hF1, hI.sav.up (by omega), h0, fun _ => Or.inl rfl⟩)
end ACT
