/-! THE RULES: one instruction each, over V. q is the next instruction's place. -/
section RU
variable {g : GG} {l : Launch} {M : MI} {R : Room} {FN : FinT} {pc q : Nat} {ls ls' : LO} {st : List Value} {w : HW} {n cs sl : Nat}
theorem V_iconst {v0 : Int} {v : Int32} (d : decode M.2.1 pc = .ok (.iconst v0, 1)) (hq : pc + 1 = q) (hv : Int32.ofInt v0 = v) (k : V g l M R FN q ls (.int v :: st) w n cs sl) : V g l M R FN pc ls st w n cs sl := by
  subst hq
  intro p e s m args below meth c H locs la hC hL hP hS hn
  obtain ⟨hx, hb, hr, hlk, hml, hown, hts, hK, hb0, hin⟩ := id hC
  refine lv_iconst hx hb d hv ?_
  exact k p e s m args below meth c H locs la hC hL hP hS hn
theorem V_bipush {v0 : Int} {v : Int32} (d : decode M.2.1 pc = .ok (.bipush v0, 2)) (hq : pc + 2 = q) (hv : (Int8.ofInt v0).toInt32 = v) (k : V g l M R FN q ls (.int v :: st) w n cs sl) : V g l M R FN pc ls st w n cs sl := by
  subst hq
  intro p e s m args below meth c H locs la hC hL hP hS hn
  obtain ⟨hx, hb, hr, hlk, hml, hown, hts, hK, hb0, hin⟩ := id hC
  refine lv_bipush hx hb d hv ?_
  exact k p e s m args below meth c H locs la hC hL hP hS hn
theorem V_sipush {v0 : Int} {v : Int32} (d : decode M.2.1 pc = .ok (.sipush v0, 3)) (hq : pc + 3 = q) (hv : (Int16.ofInt v0).toInt32 = v) (k : V g l M R FN q ls (.int v :: st) w n cs sl) : V g l M R FN pc ls st w n cs sl := by
  subst hq
  intro p e s m args below meth c H locs la hC hL hP hS hn
  obtain ⟨hx, hb, hr, hlk, hml, hown, hts, hK, hb0, hin⟩ := id hC
  refine lv_sipush hx hb d hv ?_
  exact k p e s m args below meth c H locs la hC hL hP hS hn
theorem V_null (d : decode M.2.1 pc = .ok (.aconst_null, 1)) (hq : pc + 1 = q) (k : V g l M R FN q ls (.null :: st) w n cs sl) : V g l M R FN pc ls st w n cs sl := by
  subst hq
  intro p e s m args below meth c H locs la hC hL hP hS hn
  obtain ⟨hx, hb, hr, hlk, hml, hown, hts, hK, hb0, hin⟩ := id hC
  refine lv_null hx hb d ?_
  exact k p e s m args below meth c H locs la hC hL hP hS hn
theorem V_iload_n {i : Fin 4} {x : Int32} (d : decode M.2.1 pc = .ok (.iload_n i, 1)) (hq : pc + 1 = q) (hl : ls[(i : Nat)]? = some (some (.int x))) (k : V g l M R FN q ls (.int x :: st) w n cs sl) : V g l M R FN pc ls st w n cs sl := by
  subst hq
  intro p e s m args below meth c H locs la hC hL hP hS hn
  obtain ⟨hx, hb, hr, hlk, hml, hown, hts, hK, hb0, hin⟩ := id hC
  refine lv_iload_n hx hb d rfl (hL.at' hl) ?_
  exact k p e s m args below meth c H locs la hC hL hP hS hn
theorem V_iload {i : Nat} {x : Int32} (d : decode M.2.1 pc = .ok (.iload i, 2)) (hq : pc + 2 = q) (hl : ls[i]? = some (some (.int x))) (k : V g l M R FN q ls (.int x :: st) w n cs sl) : V g l M R FN pc ls st w n cs sl := by
  subst hq
  intro p e s m args below meth c H locs la hC hL hP hS hn
  obtain ⟨hx, hb, hr, hlk, hml, hown, hts, hK, hb0, hin⟩ := id hC
  refine lv_iload hx hb d (hL.at' hl) ?_
  exact k p e s m args below meth c H locs la hC hL hP hS hn
theorem V_fload_n {i : Fin 4} {x : UInt32} (d : decode M.2.1 pc = .ok (.fload_n i, 1)) (hq : pc + 1 = q) (hl : ls[(i : Nat)]? = some (some (.float x))) (k : V g l M R FN q ls (.float x :: st) w n cs sl) : V g l M R FN pc ls st w n cs sl := by
  subst hq
  intro p e s m args below meth c H locs la hC hL hP hS hn
  obtain ⟨hx, hb, hr, hlk, hml, hown, hts, hK, hb0, hin⟩ := id hC
  refine lv_fload_n hx hb d rfl (hL.at' hl) ?_
  exact k p e s m args below meth c H locs la hC hL hP hS hn
theorem V_fload {i : Nat} {x : UInt32} (d : decode M.2.1 pc = .ok (.fload i, 2)) (hq : pc + 2 = q) (hl : ls[i]? = some (some (.float x))) (k : V g l M R FN q ls (.float x :: st) w n cs sl) : V g l M R FN pc ls st w n cs sl := by
  subst hq
  intro p e s m args below meth c H locs la hC hL hP hS hn
  obtain ⟨hx, hb, hr, hlk, hml, hown, hts, hK, hb0, hin⟩ := id hC
  refine lv_fload hx hb d (hL.at' hl) ?_
  exact k p e s m args below meth c H locs la hC hL hP hS hn
theorem V_aload_n {i : Fin 4} {v : Value} (d : decode M.2.1 pc = .ok (.aload_n i, 1)) (hq : pc + 1 = q) (hl : ls[(i : Nat)]? = some (some v)) (hv : v.isRef = true) (k : V g l M R FN q ls (v :: st) w n cs sl) : V g l M R FN pc ls st w n cs sl := by
  subst hq
  intro p e s m args below meth c H locs la hC hL hP hS hn
  obtain ⟨hx, hb, hr, hlk, hml, hown, hts, hK, hb0, hin⟩ := id hC
  cases v with
  | null => refine lv_aload_nN hx hb d rfl (hL.at' hl) ?_; exact k p e s m args below meth c H locs la hC hL hP hS hn
  | ref a => refine lv_aload_n hx hb d rfl (hL.at' hl) ?_; exact k p e s m args below meth c H locs la hC hL hP hS hn
  | _ => cases hv
theorem V_aload {i : Nat} {v : Value} (d : decode M.2.1 pc = .ok (.aload i, 2)) (hq : pc + 2 = q) (hl : ls[i]? = some (some v)) (hv : v.isRef = true) (k : V g l M R FN q ls (v :: st) w n cs sl) : V g l M R FN pc ls st w n cs sl := by
  subst hq
  intro p e s m args below meth c H locs la hC hL hP hS hn
  obtain ⟨hx, hb, hr, hlk, hml, hown, hts, hK, hb0, hin⟩ := id hC
  cases v with
  | null => refine lv_aloadN hx hb d (hL.at' hl) ?_; exact k p e s m args below meth c H locs la hC hL hP hS hn
  | ref a => refine lv_aload hx hb d (hL.at' hl) ?_; exact k p e s m args below meth c H locs la hC hL hP hS hn
  | _ => cases hv
theorem V_istore_n {i : Fin 4} {x : Int32} (d : decode M.2.1 pc = .ok (.istore_n i, 1)) (hq : pc + 1 = q) (hi : (i : Nat) < M.2.2.1) (hok : lok ls (i : Nat) = true) (he : ls.set (i : Nat) (some (.int x)) = ls') (k : V g l M R FN q ls' st w n cs sl) : V g l M R FN pc ls (.int x :: st) w n cs sl := by
  subst hq
  intro p e s m args below meth c H locs la hC hL hP hS hn
  obtain ⟨hx, hb, hr, hlk, hml, hown, hts, hK, hb0, hin⟩ := id hC
  refine lv_istore_n hx hb d rfl hL.2.1 hi rfl fun la' h2 => ?_
  exact k p e s m args below meth c H locs la' hC (hL.put hi hok he h2) hP hS hn
theorem V_istore {i : Nat} {x : Int32} (d : decode M.2.1 pc = .ok (.istore i, 2)) (hq : pc + 2 = q) (hi : i < M.2.2.1) (hok : lok ls i = true) (he : ls.set i (some (.int x)) = ls') (k : V g l M R FN q ls' st w n cs sl) : V g l M R FN pc ls (.int x :: st) w n cs sl := by
  subst hq
  intro p e s m args below meth c H locs la hC hL hP hS hn
  obtain ⟨hx, hb, hr, hlk, hml, hown, hts, hK, hb0, hin⟩ := id hC
  refine lv_istore hx hb d hL.2.1 hi rfl fun la' h2 => ?_
  exact k p e s m args below meth c H locs la' hC (hL.put hi hok he h2) hP hS hn
theorem V_fstore_n {i : Fin 4} {x : UInt32} (d : decode M.2.1 pc = .ok (.fstore_n i, 1)) (hq : pc + 1 = q) (hi : (i : Nat) < M.2.2.1) (hok : lok ls (i : Nat) = true) (he : ls.set (i : Nat) (some (.float x)) = ls') (k : V g l M R FN q ls' st w n cs sl) : V g l M R FN pc ls (.float x :: st) w n cs sl := by
  subst hq
  intro p e s m args below meth c H locs la hC hL hP hS hn
  obtain ⟨hx, hb, hr, hlk, hml, hown, hts, hK, hb0, hin⟩ := id hC
  refine lv_fstore_n hx hb d rfl hL.2.1 hi rfl fun la' h2 => ?_
  exact k p e s m args below meth c H locs la' hC (hL.put hi hok he h2) hP hS hn
theorem V_fstore {i : Nat} {x : UInt32} (d : decode M.2.1 pc = .ok (.fstore i, 2)) (hq : pc + 2 = q) (hi : i < M.2.2.1) (hok : lok ls i = true) (he : ls.set i (some (.float x)) = ls') (k : V g l M R FN q ls' st w n cs sl) : V g l M R FN pc ls (.float x :: st) w n cs sl := by
  subst hq
  intro p e s m args below meth c H locs la hC hL hP hS hn
  obtain ⟨hx, hb, hr, hlk, hml, hown, hts, hK, hb0, hin⟩ := id hC
  refine lv_fstore hx hb d hL.2.1 hi rfl fun la' h2 => ?_
  exact k p e s m args below meth c H locs la' hC (hL.put hi hok he h2) hP hS hn
theorem V_astore_n {i : Fin 4} {v : Value} (d : decode M.2.1 pc = .ok (.astore_n i, 1)) (hq : pc + 1 = q) (hi : (i : Nat) < M.2.2.1) (hok : lok ls (i : Nat) = true) (hv : v.isRef = true) (he : ls.set (i : Nat) (some v) = ls') (k : V g l M R FN q ls' st w n cs sl) : V g l M R FN pc ls (v :: st) w n cs sl := by
  subst hq
  intro p e s m args below meth c H locs la hC hL hP hS hn
  obtain ⟨hx, hb, hr, hlk, hml, hown, hts, hK, hb0, hin⟩ := id hC
  cases v with
  | null => refine lv_astore_nN hx hb d rfl hL.2.1 hi rfl fun la' h2 => ?_; exact k p e s m args below meth c H locs la' hC (hL.put hi hok he h2) hP hS hn
  | ref a => refine lv_astore_n hx hb d rfl hL.2.1 hi rfl fun la' h2 => ?_; exact k p e s m args below meth c H locs la' hC (hL.put hi hok he h2) hP hS hn
  | _ => cases hv
theorem V_astore {i : Nat} {v : Value} (d : decode M.2.1 pc = .ok (.astore i, 2)) (hq : pc + 2 = q) (hi : i < M.2.2.1) (hok : lok ls i = true) (hv : v.isRef = true) (he : ls.set i (some v) = ls') (k : V g l M R FN q ls' st w n cs sl) : V g l M R FN pc ls (v :: st) w n cs sl := by
  subst hq
  intro p e s m args below meth c H locs la hC hL hP hS hn
  obtain ⟨hx, hb, hr, hlk, hml, hown, hts, hK, hb0, hin⟩ := id hC
  cases v with
  | null => refine lv_astoreN hx hb d hL.2.1 hi rfl fun la' h2 => ?_; exact k p e s m args below meth c H locs la' hC (hL.put hi hok he h2) hP hS hn
  | ref a => refine lv_astore hx hb d hL.2.1 hi rfl fun la' h2 => ?_; exact k p e s m args below meth c H locs la' hC (hL.put hi hok he h2) hP hS hn
  | _ => cases hv
theorem V_iinc {i : Nat} {z : Int} {x v : Int32} (d : decode M.2.1 pc = .ok (.iinc i z, 3)) (hq : pc + 3 = q) (hi : i < M.2.2.1) (hok : lok ls i = true) (hl : ls[i]? = some (some (.int x))) (hv : x + Int32.ofInt z = v) (he : ls.set i (some (.int v)) = ls') (k : V g l M R FN q ls' st w n cs sl) : V g l M R FN pc ls st w n cs sl := by
  subst hq
  intro p e s m args below meth c H locs la hC hL hP hS hn
  obtain ⟨hx, hb, hr, hlk, hml, hown, hts, hK, hb0, hin⟩ := id hC
  obtain ⟨k0, hk0⟩ := List.getElem?_of_mem (lvp_mem.mpr hl)
  refine lv_iinc hx hb d hL.2.1 hk0 hv hi rfl fun la' h2 => ?_
  exact k p e s m args below meth c H locs la' hC (hL.put hi hok he h2) hP hS hn
theorem V_iadd {x y z : Int32} (d : decode M.2.1 pc = .ok (.iadd, 1)) (hq : pc + 1 = q) (hz : x + y = z) (k : V g l M R FN q ls (.int z :: st) w n cs sl) : V g l M R FN pc ls (.int y :: .int x :: st) w n cs sl := by
  subst hq; subst hz
  intro p e s m args below meth c H locs la hC hL hP hS hn
  obtain ⟨hx, hb, hr, hlk, hml, hown, hts, hK, hb0, hin⟩ := id hC
  refine lv_iadd hx hb d ?_
  exact k p e s m args below meth c H locs la hC hL hP hS hn
theorem V_isub {x y z : Int32} (d : decode M.2.1 pc = .ok (.isub, 1)) (hq : pc + 1 = q) (hz : x - y = z) (k : V g l M R FN q ls (.int z :: st) w n cs sl) : V g l M R FN pc ls (.int y :: .int x :: st) w n cs sl := by
  subst hq; subst hz
  intro p e s m args below meth c H locs la hC hL hP hS hn
  obtain ⟨hx, hb, hr, hlk, hml, hown, hts, hK, hb0, hin⟩ := id hC
  refine lv_isub hx hb d ?_
  exact k p e s m args below meth c H locs la hC hL hP hS hn
theorem V_imul {x y z : Int32} (d : decode M.2.1 pc = .ok (.imul, 1)) (hq : pc + 1 = q) (hz : x * y = z) (k : V g l M R FN q ls (.int z :: st) w n cs sl) : V g l M R FN pc ls (.int y :: .int x :: st) w n cs sl := by
  subst hq; subst hz
  intro p e s m args below meth c H locs la hC hL hP hS hn
  obtain ⟨hx, hb, hr, hlk, hml, hown, hts, hK, hb0, hin⟩ := id hC
  refine lv_imul hx hb d ?_
  exact k p e s m args below meth c H locs la hC hL hP hS hn
theorem V_iand {x y z : Int32} (d : decode M.2.1 pc = .ok (.iand, 1)) (hq : pc + 1 = q) (hz : x &&& y = z) (k : V g l M R FN q ls (.int z :: st) w n cs sl) : V g l M R FN pc ls (.int y :: .int x :: st) w n cs sl := by
  subst hq; subst hz
  intro p e s m args below meth c H locs la hC hL hP hS hn
  obtain ⟨hx, hb, hr, hlk, hml, hown, hts, hK, hb0, hin⟩ := id hC
  refine lv_iand hx hb d ?_
  exact k p e s m args below meth c H locs la hC hL hP hS hn
theorem V_ior {x y z : Int32} (d : decode M.2.1 pc = .ok (.ior, 1)) (hq : pc + 1 = q) (hz : x ||| y = z) (k : V g l M R FN q ls (.int z :: st) w n cs sl) : V g l M R FN pc ls (.int y :: .int x :: st) w n cs sl := by
  subst hq; subst hz
  intro p e s m args below meth c H locs la hC hL hP hS hn
  obtain ⟨hx, hb, hr, hlk, hml, hown, hts, hK, hb0, hin⟩ := id hC
  refine lv_ior hx hb d ?_
  exact k p e s m args below meth c H locs la hC hL hP hS hn
theorem V_ishl {x y z : Int32} (d : decode M.2.1 pc = .ok (.ishl, 1)) (hq : pc + 1 = q) (hz : x <<< (y &&& 31) = z) (k : V g l M R FN q ls (.int z :: st) w n cs sl) : V g l M R FN pc ls (.int y :: .int x :: st) w n cs sl := by
  subst hq; subst hz
  intro p e s m args below meth c H locs la hC hL hP hS hn
  obtain ⟨hx, hb, hr, hlk, hml, hown, hts, hK, hb0, hin⟩ := id hC
  refine lv_ishl hx hb d ?_
  exact k p e s m args below meth c H locs la hC hL hP hS hn
theorem V_ishr {x y z : Int32} (d : decode M.2.1 pc = .ok (.ishr, 1)) (hq : pc + 1 = q) (hz : x >>> (y &&& 31) = z) (k : V g l M R FN q ls (.int z :: st) w n cs sl) : V g l M R FN pc ls (.int y :: .int x :: st) w n cs sl := by
  subst hq; subst hz
  intro p e s m args below meth c H locs la hC hL hP hS hn
  obtain ⟨hx, hb, hr, hlk, hml, hown, hts, hK, hb0, hin⟩ := id hC
  refine lv_ishr hx hb d ?_
  exact k p e s m args below meth c H locs la hC hL hP hS hn
theorem V_iushr {x y z : Int32} (d : decode M.2.1 pc = .ok (.iushr, 1)) (hq : pc + 1 = q) (hz : (x.toUInt32 >>> (y.toUInt32 &&& Int32.toUInt32 31)).toInt32 = z) (k : V g l M R FN q ls (.int z :: st) w n cs sl) : V g l M R FN pc ls (.int y :: .int x :: st) w n cs sl := by
  subst hq
  intro p e s m args below meth c H locs la hC hL hP hS hn
  obtain ⟨hx, hb, hr, hlk, hml, hown, hts, hK, hb0, hin⟩ := id hC
  refine lv_iushr hx hb d hz ?_
  exact k p e s m args below meth c H locs la hC hL hP hS hn
theorem V_idiv {x y z : Int32} (d : decode M.2.1 pc = .ok (.idiv, 1)) (hq : pc + 1 = q) (hne : ¬ y = 0) (hz : x / y = z) (k : V g l M R FN q ls (.int z :: st) w n cs sl) : V g l M R FN pc ls (.int y :: .int x :: st) w n cs sl := by
  subst hq; subst hz
  intro p e s m args below meth c H locs la hC hL hP hS hn
  obtain ⟨hx, hb, hr, hlk, hml, hown, hts, hK, hb0, hin⟩ := id hC
  refine lv_idiv hx hb d hne ?_
  exact k p e s m args below meth c H locs la hC hL hP hS hn
theorem V_irem {x y z : Int32} (d : decode M.2.1 pc = .ok (.irem, 1)) (hq : pc + 1 = q) (hne : ¬ y = 0) (hz : x - x / y * y = z) (k : V g l M R FN q ls (.int z :: st) w n cs sl) : V g l M R FN pc ls (.int y :: .int x :: st) w n cs sl := by
  subst hq; subst hz
  intro p e s m args below meth c H locs la hC hL hP hS hn
  obtain ⟨hx, hb, hr, hlk, hml, hown, hts, hK, hb0, hin⟩ := id hC
  refine lv_irem hx hb d hne ?_
  exact k p e s m args below meth c H locs la hC hL hP hS hn
theorem V_ineg {x z : Int32} (d : decode M.2.1 pc = .ok (.ineg, 1)) (hq : pc + 1 = q) (hz : -x = z) (k : V g l M R FN q ls (.int z :: st) w n cs sl) : V g l M R FN pc ls (.int x :: st) w n cs sl := by
  subst hq; subst hz
  intro p e s m args below meth c H locs la hC hL hP hS hn
  obtain ⟨hx, hb, hr, hlk, hml, hown, hts, hK, hb0, hin⟩ := id hC
  refine lv_ineg hx hb d ?_
  exact k p e s m args below meth c H locs la hC hL hP hS hn
theorem V_i2c {x z : Int32} (d : decode M.2.1 pc = .ok (.i2c, 1)) (hq : pc + 1 = q) (hz : (x.toUInt32 % 65536).toInt32 = z) (k : V g l M R FN q ls (.int z :: st) w n cs sl) : V g l M R FN pc ls (.int x :: st) w n cs sl := by
  subst hq
  intro p e s m args below meth c H locs la hC hL hP hS hn
  obtain ⟨hx, hb, hr, hlk, hml, hown, hts, hK, hb0, hin⟩ := id hC
  refine lv_i2c hx hb d hz ?_
  exact k p e s m args below meth c H locs la hC hL hP hS hn
theorem V_i2b {x z : Int32} (d : decode M.2.1 pc = .ok (.i2b, 1)) (hq : pc + 1 = q) (hz : x.toInt8.toInt32 = z) (k : V g l M R FN q ls (.int z :: st) w n cs sl) : V g l M R FN pc ls (.int x :: st) w n cs sl := by
  subst hq
  intro p e s m args below meth c H locs la hC hL hP hS hn
  obtain ⟨hx, hb, hr, hlk, hml, hown, hts, hK, hb0, hin⟩ := id hC
  refine lv_i2b hx hb d hz ?_
  exact k p e s m args below meth c H locs la hC hL hP hS hn
theorem V_top {v v' : Value} (h : v = v') (k : V g l M R FN pc ls (v' :: st) w n cs sl) : V g l M R FN pc ls (v :: st) w n cs sl := by rw [h]; exact k
theorem V_topi {x x' : Int32} (h : x = x') (k : V g l M R FN pc ls (.int x' :: st) w n cs sl) : V g l M R FN pc ls (.int x :: st) w n cs sl := by rw [h]; exact k
theorem V_wd {w' : HW} (h : w = w') (k : V g l M R FN pc ls st w' n cs sl) : V g l M R FN pc ls st w n cs sl := by rw [h]; exact k
theorem V_weak {ls2 : LO} (hl : ls2.length = ls.length) (hs : ∀ (i : Nat) (v : Value), ls2[i]? = some (some v) → ls[i]? = some (some v)) (k : V g l M R FN pc ls2 st w n cs sl) : V g l M R FN pc ls st w n cs sl :=
  fun p e s m args below meth c H locs la hC hL hP hS hn => k p e s m args below meth c H locs la hC (hL.weak hl hs) hP hS hn
theorem V_dup {v : Value} (d : decode M.2.1 pc = .ok (.dup, 1)) (hq : pc + 1 = q) (hv : v.category = 1) (k : V g l M R FN q ls (v :: v :: st) w n cs sl) : V g l M R FN pc ls (v :: st) w n cs sl := by
  subst hq
  intro p e s m args below meth c H locs la hC hL hP hS hn
  obtain ⟨hx, hb, hr, hlk, hml, hown, hts, hK, hb0, hin⟩ := id hC
  refine lv_dup hx hb d hv ?_
  exact k p e s m args below meth c H locs la hC hL hP hS hn
theorem V_dup2 {v u : Value} (d : decode M.2.1 pc = .ok (.dup2, 1)) (hq : pc + 1 = q) (hv : v.category = 1) (hu : u.category = 1) (k : V g l M R FN q ls (v :: u :: v :: u :: st) w n cs sl) : V g l M R FN pc ls (v :: u :: st) w n cs sl := by
  subst hq
  intro p e s m args below meth c H locs la hC hL hP hS hn
  obtain ⟨hx, hb, hr, hlk, hml, hown, hts, hK, hb0, hin⟩ := id hC
  refine lv_dup2_11 hx hb d hv hu ?_
  exact k p e s m args below meth c H locs la hC hL hP hS hn
theorem V_dupx1 {v u : Value} (d : decode M.2.1 pc = .ok (.dup_x1, 1)) (hq : pc + 1 = q) (hv : v.category = 1) (hu : u.category = 1) (k : V g l M R FN q ls (v :: u :: v :: st) w n cs sl) : V g l M R FN pc ls (v :: u :: st) w n cs sl := by
  subst hq
  intro p e s m args below meth c H locs la hC hL hP hS hn
  obtain ⟨hx, hb, hr, hlk, hml, hown, hts, hK, hb0, hin⟩ := id hC
  refine lv_dup_x1 hx hb d hv hu ?_
  exact k p e s m args below meth c H locs la hC hL hP hS hn
theorem V_pop {v : Value} (d : decode M.2.1 pc = .ok (.pop, 1)) (hq : pc + 1 = q) (hv : v.category = 1) (k : V g l M R FN q ls st w n cs sl) : V g l M R FN pc ls (v :: st) w n cs sl := by
  subst hq
  intro p e s m args below meth c H locs la hC hL hP hS hn
  obtain ⟨hx, hb, hr, hlk, hml, hown, hts, hK, hb0, hin⟩ := id hC
  refine lv_pop hx hb d hv ?_
  exact k p e s m args below meth c H locs la hC hL hP hS hn
theorem V_if_eq {x : Int32} {off : Int} {tgt : Nat} (d : decode M.2.1 pc = .ok (.ifCond .eq off, 3)) (ht : (pc : Int) + off = (tgt : Int)) (hq : pc + 3 = q) (kt : x = 0 → V g l M R FN tgt ls st w n cs sl) (kf : ¬ (x = 0) → V g l M R FN q ls st w n cs sl) : V g l M R FN pc ls (.int x :: st) w n cs sl := by
  subst hq
  intro p e s m args below meth c H locs la hC hL hP hS hn
  obtain ⟨hx, hb, hr, hlk, hml, hown, hts, hK, hb0, hin⟩ := id hC
  refine lv_if_eq hx hb d ht (fun h => ?_) (fun h => ?_)
  · exact kt h p e s m args below meth c H locs la hC hL hP hS hn
  · exact kf h p e s m args below meth c H locs la hC hL hP hS hn
theorem V_if_ne {x : Int32} {off : Int} {tgt : Nat} (d : decode M.2.1 pc = .ok (.ifCond .ne off, 3)) (ht : (pc : Int) + off = (tgt : Int)) (hq : pc + 3 = q) (kt : ¬ x = 0 → V g l M R FN tgt ls st w n cs sl) (kf : x = 0 → V g l M R FN q ls st w n cs sl) : V g l M R FN pc ls (.int x :: st) w n cs sl := by
  subst hq
  intro p e s m args below meth c H locs la hC hL hP hS hn
  obtain ⟨hx, hb, hr, hlk, hml, hown, hts, hK, hb0, hin⟩ := id hC
  refine lv_if_ne hx hb d ht (fun h => ?_) (fun h => ?_)
  · exact kt h p e s m args below meth c H locs la hC hL hP hS hn
  · exact kf h p e s m args below meth c H locs la hC hL hP hS hn
theorem V_if_lt {x : Int32} {off : Int} {tgt : Nat} (d : decode M.2.1 pc = .ok (.ifCond .lt off, 3)) (ht : (pc : Int) + off = (tgt : Int)) (hq : pc + 3 = q) (kt : x < 0 → V g l M R FN tgt ls st w n cs sl) (kf : ¬ (x < 0) → V g l M R FN q ls st w n cs sl) : V g l M R FN pc ls (.int x :: st) w n cs sl := by
  subst hq
  intro p e s m args below meth c H locs la hC hL hP hS hn
  obtain ⟨hx, hb, hr, hlk, hml, hown, hts, hK, hb0, hin⟩ := id hC
  refine lv_if_lt hx hb d ht (fun h => ?_) (fun h => ?_)
  · exact kt h p e s m args below meth c H locs la hC hL hP hS hn
  · exact kf h p e s m args below meth c H locs la hC hL hP hS hn
theorem V_if_ge {x : Int32} {off : Int} {tgt : Nat} (d : decode M.2.1 pc = .ok (.ifCond .ge off, 3)) (ht : (pc : Int) + off = (tgt : Int)) (hq : pc + 3 = q) (kt : 0 ≤ x → V g l M R FN tgt ls st w n cs sl) (kf : ¬ (0 ≤ x) → V g l M R FN q ls st w n cs sl) : V g l M R FN pc ls (.int x :: st) w n cs sl := by
  subst hq
  intro p e s m args below meth c H locs la hC hL hP hS hn
  obtain ⟨hx, hb, hr, hlk, hml, hown, hts, hK, hb0, hin⟩ := id hC
  refine lv_if_ge hx hb d ht (fun h => ?_) (fun h => ?_)
  · exact kt h p e s m args below meth c H locs la hC hL hP hS hn
  · exact kf h p e s m args below meth c H locs la hC hL hP hS hn
theorem V_if_gt {x : Int32} {off : Int} {tgt : Nat} (d : decode M.2.1 pc = .ok (.ifCond .gt off, 3)) (ht : (pc : Int) + off = (tgt : Int)) (hq : pc + 3 = q) (kt : 0 < x → V g l M R FN tgt ls st w n cs sl) (kf : ¬ (0 < x) → V g l M R FN q ls st w n cs sl) : V g l M R FN pc ls (.int x :: st) w n cs sl := by
  subst hq
  intro p e s m args below meth c H locs la hC hL hP hS hn
  obtain ⟨hx, hb, hr, hlk, hml, hown, hts, hK, hb0, hin⟩ := id hC
  refine lv_if_gt hx hb d ht (fun h => ?_) (fun h => ?_)
  · exact kt h p e s m args below meth c H locs la hC hL hP hS hn
  · exact kf h p e s m args below meth c H locs la hC hL hP hS hn
theorem V_if_le {x : Int32} {off : Int} {tgt : Nat} (d : decode M.2.1 pc = .ok (.ifCond .le off, 3)) (ht : (pc : Int) + off = (tgt : Int)) (hq : pc + 3 = q) (kt : x ≤ 0 → V g l M R FN tgt ls st w n cs sl) (kf : ¬ (x ≤ 0) → V g l M R FN q ls st w n cs sl) : V g l M R FN pc ls (.int x :: st) w n cs sl := by
  subst hq
  intro p e s m args below meth c H locs la hC hL hP hS hn
  obtain ⟨hx, hb, hr, hlk, hml, hown, hts, hK, hb0, hin⟩ := id hC
  refine lv_if_le hx hb d ht (fun h => ?_) (fun h => ?_)
  · exact kt h p e s m args below meth c H locs la hC hL hP hS hn
  · exact kf h p e s m args below meth c H locs la hC hL hP hS hn
theorem V_icmp_eq {x y : Int32} {off : Int} {tgt : Nat} (d : decode M.2.1 pc = .ok (.if_icmp .eq off, 3)) (ht : (pc : Int) + off = (tgt : Int)) (hq : pc + 3 = q) (kt : x = y → V g l M R FN tgt ls st w n cs sl) (kf : ¬ (x = y) → V g l M R FN q ls st w n cs sl) : V g l M R FN pc ls (.int y :: .int x :: st) w n cs sl := by
  subst hq
  intro p e s m args below meth c H locs la hC hL hP hS hn
  obtain ⟨hx, hb, hr, hlk, hml, hown, hts, hK, hb0, hin⟩ := id hC
  refine lv_icmp_eq hx hb d ht (fun h => ?_) (fun h => ?_)
  · exact kt h p e s m args below meth c H locs la hC hL hP hS hn
  · exact kf h p e s m args below meth c H locs la hC hL hP hS hn
theorem V_icmp_ne {x y : Int32} {off : Int} {tgt : Nat} (d : decode M.2.1 pc = .ok (.if_icmp .ne off, 3)) (ht : (pc : Int) + off = (tgt : Int)) (hq : pc + 3 = q) (kt : ¬ x = y → V g l M R FN tgt ls st w n cs sl) (kf : x = y → V g l M R FN q ls st w n cs sl) : V g l M R FN pc ls (.int y :: .int x :: st) w n cs sl := by
  subst hq
  intro p e s m args below meth c H locs la hC hL hP hS hn
  obtain ⟨hx, hb, hr, hlk, hml, hown, hts, hK, hb0, hin⟩ := id hC
  refine lv_icmp_ne hx hb d ht (fun h => ?_) (fun h => ?_)
  · exact kt h p e s m args below meth c H locs la hC hL hP hS hn
  · exact kf h p e s m args below meth c H locs la hC hL hP hS hn
theorem V_icmp_lt {x y : Int32} {off : Int} {tgt : Nat} (d : decode M.2.1 pc = .ok (.if_icmp .lt off, 3)) (ht : (pc : Int) + off = (tgt : Int)) (hq : pc + 3 = q) (kt : x < y → V g l M R FN tgt ls st w n cs sl) (kf : ¬ (x < y) → V g l M R FN q ls st w n cs sl) : V g l M R FN pc ls (.int y :: .int x :: st) w n cs sl := by
  subst hq
  intro p e s m args below meth c H locs la hC hL hP hS hn
  obtain ⟨hx, hb, hr, hlk, hml, hown, hts, hK, hb0, hin⟩ := id hC
  refine lv_icmp_lt hx hb d ht (fun h => ?_) (fun h => ?_)
  · exact kt h p e s m args below meth c H locs la hC hL hP hS hn
  · exact kf h p e s m args below meth c H locs la hC hL hP hS hn
theorem V_icmp_ge {x y : Int32} {off : Int} {tgt : Nat} (d : decode M.2.1 pc = .ok (.if_icmp .ge off, 3)) (ht : (pc : Int) + off = (tgt : Int)) (hq : pc + 3 = q) (kt : y ≤ x → V g l M R FN tgt ls st w n cs sl) (kf : ¬ (y ≤ x) → V g l M R FN q ls st w n cs sl) : V g l M R FN pc ls (.int y :: .int x :: st) w n cs sl := by
  subst hq
  intro p e s m args below meth c H locs la hC hL hP hS hn
  obtain ⟨hx, hb, hr, hlk, hml, hown, hts, hK, hb0, hin⟩ := id hC
  refine lv_icmp_ge hx hb d ht (fun h => ?_) (fun h => ?_)
  · exact kt h p e s m args below meth c H locs la hC hL hP hS hn
  · exact kf h p e s m args below meth c H locs la hC hL hP hS hn
theorem V_icmp_gt {x y : Int32} {off : Int} {tgt : Nat} (d : decode M.2.1 pc = .ok (.if_icmp .gt off, 3)) (ht : (pc : Int) + off = (tgt : Int)) (hq : pc + 3 = q) (kt : y < x → V g l M R FN tgt ls st w n cs sl) (kf : ¬ (y < x) → V g l M R FN q ls st w n cs sl) : V g l M R FN pc ls (.int y :: .int x :: st) w n cs sl := by
  subst hq
  intro p e s m args below meth c H locs la hC hL hP hS hn
  obtain ⟨hx, hb, hr, hlk, hml, hown, hts, hK, hb0, hin⟩ := id hC
  refine lv_icmp_gt hx hb d ht (fun h => ?_) (fun h => ?_)
  · exact kt h p e s m args below meth c H locs la hC hL hP hS hn
  · exact kf h p e s m args below meth c H locs la hC hL hP hS hn
theorem V_icmp_le {x y : Int32} {off : Int} {tgt : Nat} (d : decode M.2.1 pc = .ok (.if_icmp .le off, 3)) (ht : (pc : Int) + off = (tgt : Int)) (hq : pc + 3 = q) (kt : x ≤ y → V g l M R FN tgt ls st w n cs sl) (kf : ¬ (x ≤ y) → V g l M R FN q ls st w n cs sl) : V g l M R FN pc ls (.int y :: .int x :: st) w n cs sl := by
  subst hq
  intro p e s m args below meth c H locs la hC hL hP hS hn
  obtain ⟨hx, hb, hr, hlk, hml, hown, hts, hK, hb0, hin⟩ := id hC
  refine lv_icmp_le hx hb d ht (fun h => ?_) (fun h => ?_)
  · exact kt h p e s m args below meth c H locs la hC hL hP hS hn
  · exact kf h p e s m args below meth c H locs la hC hL hP hS hn
theorem V_goto {off : Int} {tgt : Nat} (d : decode M.2.1 pc = .ok (.goto off, 3)) (ht : (pc : Int) + off = (tgt : Int)) (k : V g l M R FN tgt ls st w n cs sl) : V g l M R FN pc ls st w n cs sl := by
  intro p e s m args below meth c H locs la hC hL hP hS hn
  obtain ⟨hx, hb, hr, hlk, hml, hown, hts, hK, hb0, hin⟩ := id hC
  refine lv_goto hx hb d ht ?_
  exact k p e s m args below meth c H locs la hC hL hP hS hn
theorem V_ifnull {a : Nat} {off : Int} (d : decode M.2.1 pc = .ok (.ifnull off, 3)) (hq : pc + 3 = q) (k : V g l M R FN q ls st w n cs sl) : V g l M R FN pc ls (.ref a :: st) w n cs sl := by
  subst hq
  intro p e s m args below meth c H locs la hC hL hP hS hn
  obtain ⟨hx, hb, hr, hlk, hml, hown, hts, hK, hb0, hin⟩ := id hC
  refine lv_ifnull hx hb d ?_
  exact k p e s m args below meth c H locs la hC hL hP hS hn
theorem V_ifnullN {off : Int} {tgt : Nat} (d : decode M.2.1 pc = .ok (.ifnull off, 3)) (ht : (pc : Int) + off = (tgt : Int)) (k : V g l M R FN tgt ls st w n cs sl) : V g l M R FN pc ls (.null :: st) w n cs sl := by
  intro p e s m args below meth c H locs la hC hL hP hS hn
  obtain ⟨hx, hb, hr, hlk, hml, hown, hts, hK, hb0, hin⟩ := id hC
  refine lv_ifnullN hx hb d ht ?_
  exact k p e s m args below meth c H locs la hC hL hP hS hn
theorem V_ifnonnull {a : Nat} {off : Int} {tgt : Nat} (d : decode M.2.1 pc = .ok (.ifnonnull off, 3)) (ht : (pc : Int) + off = (tgt : Int)) (k : V g l M R FN tgt ls st w n cs sl) : V g l M R FN pc ls (.ref a :: st) w n cs sl := by
  intro p e s m args below meth c H locs la hC hL hP hS hn
  obtain ⟨hx, hb, hr, hlk, hml, hown, hts, hK, hb0, hin⟩ := id hC
  refine lv_ifnonnull hx hb d ht ?_
  exact k p e s m args below meth c H locs la hC hL hP hS hn
theorem V_ifnonnullN {off : Int} (d : decode M.2.1 pc = .ok (.ifnonnull off, 3)) (hq : pc + 3 = q) (k : V g l M R FN q ls st w n cs sl) : V g l M R FN pc ls (.null :: st) w n cs sl := by
  subst hq
  intro p e s m args below meth c H locs la hC hL hP hS hn
  obtain ⟨hx, hb, hr, hlk, hml, hown, hts, hK, hb0, hin⟩ := id hC
  refine lv_ifnonnullN hx hb d ?_
  exact k p e s m args below meth c H locs la hC hL hP hS hn
theorem V_tabIn {dflt lo hi : Int} {offs : Array Int} {len : Nat} {x : Int32} {off : Int} {tgt : Nat} (d : decode M.2.1 pc = .ok (.tableswitch dflt lo hi offs, len)) (h1 : ¬ x.toInt < lo) (h2 : ¬ hi < x.toInt) (ho : offs[(x.toInt - lo).toNat]? = some off) (ht : (pc : Int) + off = (tgt : Int)) (k : V g l M R FN tgt ls st w n cs sl) : V g l M R FN pc ls (.int x :: st) w n cs sl := by
  intro p e s m args below meth c H locs la hC hL hP hS hn
  obtain ⟨hx, hb, hr, hlk, hml, hown, hts, hK, hb0, hin⟩ := id hC
  refine lv_tableIn hx hb d h1 h2 ho ht ?_
  exact k p e s m args below meth c H locs la hC hL hP hS hn
theorem V_tabOut {dflt lo hi : Int} {offs : Array Int} {len : Nat} {x : Int32} {tgt : Nat} (d : decode M.2.1 pc = .ok (.tableswitch dflt lo hi offs, len)) (h : x.toInt < lo ∨ hi < x.toInt) (ht : (pc : Int) + dflt = (tgt : Int)) (k : V g l M R FN tgt ls st w n cs sl) : V g l M R FN pc ls (.int x :: st) w n cs sl := by
  intro p e s m args below meth c H locs la hC hL hP hS hn
  obtain ⟨hx, hb, hr, hlk, hml, hown, hts, hK, hb0, hin⟩ := id hC
  refine lv_tableOut hx hb d h ht ?_
  exact k p e s m args below meth c H locs la hC hL hP hS hn
theorem V_look {dflt : Int} {ps : Array (Int × Int)} {len : Nat} {x : Int32} {off : Int} {tgt : Nat} (d : decode M.2.1 pc = .ok (.lookupswitch dflt ps, len)) (hp : (ps.toList.zip (ps.toList.drop 1)).all (fun (a, next) => a.1 < next.1) = true) (ho : Op.lookupswitch.offset ps.toList dflt x.toInt = off) (ht : (pc : Int) + off = (tgt : Int)) (k : V g l M R FN tgt ls st w n cs sl) : V g l M R FN pc ls (.int x :: st) w n cs sl := by
  intro p e s m args below meth c H locs la hC hL hP hS hn
  obtain ⟨hx, hb, hr, hlk, hml, hown, hts, hK, hb0, hin⟩ := id hC
  refine lv_lookup hx hb d hp ho ht ?_
  exact k p e s m args below meth c H locs la hC hL hP hS hn
theorem V_fconst0 (d : decode M.2.1 pc = .ok (.fconst 0, 1)) (hq : pc + 1 = q) (k : V g l M R FN q ls (.float FP.fconst0 :: st) w n cs sl) : V g l M R FN pc ls st w n cs sl := by
  subst hq
  intro p e s m args below meth c H locs la hC hL hP hS hn
  obtain ⟨hx, hb, hr, hlk, hml, hown, hts, hK, hb0, hin⟩ := id hC
  refine lv_fconst0 hx hb d ?_
  exact k p e s m args below meth c H locs la hC hL hP hS hn
theorem V_fconst1 (d : decode M.2.1 pc = .ok (.fconst 1, 1)) (hq : pc + 1 = q) (k : V g l M R FN q ls (.float FP.fconst1 :: st) w n cs sl) : V g l M R FN pc ls st w n cs sl := by
  subst hq
  intro p e s m args below meth c H locs la hC hL hP hS hn
  obtain ⟨hx, hb, hr, hlk, hml, hown, hts, hK, hb0, hin⟩ := id hC
  refine lv_fconst1 hx hb d ?_
  exact k p e s m args below meth c H locs la hC hL hP hS hn
theorem V_fconst2 (d : decode M.2.1 pc = .ok (.fconst 2, 1)) (hq : pc + 1 = q) (k : V g l M R FN q ls (.float FP.fconst2 :: st) w n cs sl) : V g l M R FN pc ls st w n cs sl := by
  subst hq
  intro p e s m args below meth c H locs la hC hL hP hS hn
  obtain ⟨hx, hb, hr, hlk, hml, hown, hts, hK, hb0, hin⟩ := id hC
  refine lv_fconst2 hx hb d ?_
  exact k p e s m args below meth c H locs la hC hL hP hS hn
theorem V_fdiv {x y z : UInt32} (d : decode M.2.1 pc = .ok (.fdiv, 1)) (hq : pc + 1 = q) (hz : FP.fdiv x y = z) (hne : vf_n32 z) (k : V g l M R FN q ls (.float z :: st) w n cs sl) : V g l M R FN pc ls (.float y :: .float x :: st) w n cs sl := by
  subst hq; subst hz
  intro p e s m args below meth c H locs la hC hL hP hS hn
  obtain ⟨hx, hb, hr, hlk, hml, hown, hts, hK, hb0, hin⟩ := id hC
  refine lv_fdiv hx hb d hne ?_
  exact k p e s m args below meth c H locs la hC hL hP hS hn
theorem V_fmul {x y z : UInt32} (d : decode M.2.1 pc = .ok (.fmul, 1)) (hq : pc + 1 = q) (hz : FP.fmul x y = z) (hne : vf_n32 z) (k : V g l M R FN q ls (.float z :: st) w n cs sl) : V g l M R FN pc ls (.float y :: .float x :: st) w n cs sl := by
  subst hq; subst hz
  intro p e s m args below meth c H locs la hC hL hP hS hn
  obtain ⟨hx, hb, hr, hlk, hml, hown, hts, hK, hb0, hin⟩ := id hC
  refine lv_fmul hx hb d hne ?_
  exact k p e s m args below meth c H locs la hC hL hP hS hn
theorem V_fsub {x y z : UInt32} (d : decode M.2.1 pc = .ok (.fsub, 1)) (hq : pc + 1 = q) (hz : FP.fsub x y = z) (hne : vf_n32 z) (k : V g l M R FN q ls (.float z :: st) w n cs sl) : V g l M R FN pc ls (.float y :: .float x :: st) w n cs sl := by
  subst hq; subst hz
  intro p e s m args below meth c H locs la hC hL hP hS hn
  obtain ⟨hx, hb, hr, hlk, hml, hown, hts, hK, hb0, hin⟩ := id hC
  refine lv_fsub hx hb d hne ?_
  exact k p e s m args below meth c H locs la hC hL hP hS hn
theorem V_fcmp {x y : UInt32} {op : CmpOp} {z : Int32} (d : decode M.2.1 pc = .ok (.fcmp op, 1)) (hq : pc + 1 = q) (hz : Op.cmpValue (FP.fcmp x y) op = z) (k : V g l M R FN q ls (.int z :: st) w n cs sl) : V g l M R FN pc ls (.float y :: .float x :: st) w n cs sl := by
  subst hq; subst hz
  intro p e s m args below meth c H locs la hC hL hP hS hn
  obtain ⟨hx, hb, hr, hlk, hml, hown, hts, hK, hb0, hin⟩ := id hC
  refine lv_fcmp hx hb d ?_
  exact k p e s m args below meth c H locs la hC hL hP hS hn
theorem V_i2f {x : Int32} {z : UInt32} (d : decode M.2.1 pc = .ok (.i2f, 1)) (hq : pc + 1 = q) (hz : FP.i2f x = z) (k : V g l M R FN q ls (.float z :: st) w n cs sl) : V g l M R FN pc ls (.int x :: st) w n cs sl := by
  subst hq; subst hz
  intro p e s m args below meth c H locs la hC hL hP hS hn
  obtain ⟨hx, hb, hr, hlk, hml, hown, hts, hK, hb0, hin⟩ := id hC
  refine lv_i2f hx hb d ?_
  exact k p e s m args below meth c H locs la hC hL hP hS hn
theorem V_f2i {x : UInt32} {z : Int32} (d : decode M.2.1 pc = .ok (.f2i, 1)) (hq : pc + 1 = q) (hz : FP.f2i x = z) (k : V g l M R FN q ls (.int z :: st) w n cs sl) : V g l M R FN pc ls (.float x :: st) w n cs sl := by
  subst hq; subst hz
  intro p e s m args below meth c H locs la hC hL hP hS hn
  obtain ⟨hx, hb, hr, hlk, hml, hown, hts, hK, hb0, hin⟩ := id hC
  refine lv_f2i hx hb d ?_
  exact k p e s m args below meth c H locs la hC hL hP hS hn
theorem V_ldc {index : Nat} {v : Int32} (d : decode M.2.1 pc = .ok (.ldc index, 2)) (hq : pc + 2 = q) (hc : Jvm.Cond.constant M.1.cls index v ∈ wsL_law) (k : V g l M R FN q ls (.int v :: st) w n cs sl) : V g l M R FN pc ls st w n cs sl := by
  subst hq
  intro p e s m args below meth c H locs la hC hL hP hS hn
  obtain ⟨hx, hb, hr, hlk, hml, hown, hts, hK, hb0, hin⟩ := id hC
  refine lv_ldc hx hb hown (hts _ hc) d ?_
  exact k p e s m args below meth c H locs la hC hL hP hS hn
theorem V_ldcw {index : Nat} {v : Int32} (d : decode M.2.1 pc = .ok (.ldc_w index, 3)) (hq : pc + 3 = q) (hc : Jvm.Cond.constant M.1.cls index v ∈ wsL_law) (k : V g l M R FN q ls (.int v :: st) w n cs sl) : V g l M R FN pc ls st w n cs sl := by
  subst hq
  intro p e s m args below meth c H locs la hC hL hP hS hn
  obtain ⟨hx, hb, hr, hlk, hml, hown, hts, hK, hb0, hin⟩ := id hC
  refine lv_ldcw hx hb hown (hts _ hc) d ?_
  exact k p e s m args below meth c H locs la hC hL hP hS hn
theorem V_lload_n {i : Fin 4} {x : Int64} (d : decode M.2.1 pc = .ok (.lload_n i, 1)) (hq : pc + 1 = q) (hl : ls[(i : Nat)]? = some (some (.long x))) (k : V g l M R FN q ls (.long x :: st) w n cs sl) : V g l M R FN pc ls st w n cs sl := by
  subst hq
  intro p e s m args below meth c H locs la hC hL hP hS hn
  obtain ⟨hx, hb, hr, hlk, hml, hown, hts, hK, hb0, hin⟩ := id hC
  refine lv_lload_n hx hb d rfl (hL.at' hl) ?_
  exact k p e s m args below meth c H locs la hC hL hP hS hn
theorem V_lload {i : Nat} {x : Int64} (d : decode M.2.1 pc = .ok (.lload i, 2)) (hq : pc + 2 = q) (hl : ls[i]? = some (some (.long x))) (k : V g l M R FN q ls (.long x :: st) w n cs sl) : V g l M R FN pc ls st w n cs sl := by
  subst hq
  intro p e s m args below meth c H locs la hC hL hP hS hn
  obtain ⟨hx, hb, hr, hlk, hml, hown, hts, hK, hb0, hin⟩ := id hC
  refine lv_lload hx hb d (hL.at' hl) ?_
  exact k p e s m args below meth c H locs la hC hL hP hS hn
theorem V_lstore_n {i : Fin 4} {x : Int64} (d : decode M.2.1 pc = .ok (.lstore_n i, 1)) (hq : pc + 1 = q) (hi : (i : Nat) + 1 < M.2.2.1) (hok : lok ls (i : Nat) = true) (he : (ls.set (i : Nat) (some (.long x))).set ((i : Nat) + 1) none = ls') (k : V g l M R FN q ls' st w n cs sl) : V g l M R FN pc ls (.long x :: st) w n cs sl := by
  subst hq
  intro p e s m args below meth c H locs la hC hL hP hS hn
  obtain ⟨hx, hb, hr, hlk, hml, hown, hts, hK, hb0, hin⟩ := id hC
  refine lv_lstore_n hx hb d rfl hL.2.1 hi rfl fun la' h2 => ?_
  exact k p e s m args below meth c H locs la' hC (hL.put2 hi hok he h2) hP hS hn
theorem V_lstore {i : Nat} {x : Int64} (d : decode M.2.1 pc = .ok (.lstore i, 2)) (hq : pc + 2 = q) (hi : i + 1 < M.2.2.1) (hok : lok ls i = true) (he : (ls.set i (some (.long x))).set (i + 1) none = ls') (k : V g l M R FN q ls' st w n cs sl) : V g l M R FN pc ls (.long x :: st) w n cs sl := by
  subst hq
  intro p e s m args below meth c H locs la hC hL hP hS hn
  obtain ⟨hx, hb, hr, hlk, hml, hown, hts, hK, hb0, hin⟩ := id hC
  refine lv_lstore hx hb d hL.2.1 hi rfl fun la' h2 => ?_
  exact k p e s m args below meth c H locs la' hC (hL.put2 hi hok he h2) hP hS hn
theorem V_ladd {x y z : Int64} (d : decode M.2.1 pc = .ok (.ladd, 1)) (hq : pc + 1 = q) (hz : x + y = z) (k : V g l M R FN q ls (.long z :: st) w n cs sl) : V g l M R FN pc ls (.long y :: .long x :: st) w n cs sl := by
  subst hq; subst hz
  intro p e s m args below meth c H locs la hC hL hP hS hn
  obtain ⟨hx, hb, hr, hlk, hml, hown, hts, hK, hb0, hin⟩ := id hC
  refine lv_ladd hx hb d ?_
  exact k p e s m args below meth c H locs la hC hL hP hS hn
theorem V_lmul {x y z : Int64} (d : decode M.2.1 pc = .ok (.lmul, 1)) (hq : pc + 1 = q) (hz : x * y = z) (k : V g l M R FN q ls (.long z :: st) w n cs sl) : V g l M R FN pc ls (.long y :: .long x :: st) w n cs sl := by
  subst hq; subst hz
  intro p e s m args below meth c H locs la hC hL hP hS hn
  obtain ⟨hx, hb, hr, hlk, hml, hown, hts, hK, hb0, hin⟩ := id hC
  refine lv_lmul hx hb d ?_
  exact k p e s m args below meth c H locs la hC hL hP hS hn
theorem V_i2l {x : Int32} {z : Int64} (d : decode M.2.1 pc = .ok (.i2l, 1)) (hq : pc + 1 = q) (hz : x.toInt64 = z) (k : V g l M R FN q ls (.long z :: st) w n cs sl) : V g l M R FN pc ls (.int x :: st) w n cs sl := by
  subst hq
  intro p e s m args below meth c H locs la hC hL hP hS hn
  obtain ⟨hx, hb, hr, hlk, hml, hown, hts, hK, hb0, hin⟩ := id hC
  refine lv_i2l hx hb d hz ?_
  exact k p e s m args below meth c H locs la hC hL hP hS hn
theorem V_ldc2 {index : Nat} {v : Int64} (d : decode M.2.1 pc = .ok (.ldc2_w index, 3)) (hq : pc + 3 = q) (hc : Jvm.Cond.constantLong M.1.cls index v ∈ wsL_law) (k : V g l M R FN q ls (.long v :: st) w n cs sl) : V g l M R FN pc ls st w n cs sl := by
  subst hq
  intro p e s m args below meth c H locs la hC hL hP hS hn
  obtain ⟨hx, hb, hr, hlk, hml, hown, hts, hK, hb0, hin⟩ := id hC
  refine lv_ldc2 hx hb hown (hts _ hc) d ?_
  exact k p e s m args below meth c H locs la hC hL hP hS hn
theorem V_lcmp {x y : Int64} {z : Int32} (d : decode M.2.1 pc = .ok (.lcmp, 1)) (hq : pc + 1 = q) (hz : lg_cmp x y = z) (k : V g l M R FN q ls (.int z :: st) w n cs sl) : V g l M R FN pc ls (.long y :: .long x :: st) w n cs sl := by
  subst hq; subst hz
  intro p e s m args below meth c H locs la hC hL hP hS hn
  obtain ⟨hx, hb, hr, hlk, hml, hown, hts, hK, hb0, hin⟩ := id hC
  refine W.lcmp hx hb d ?_
  exact k p e s m args below meth c H locs la hC hL hP hS hn
end RU
