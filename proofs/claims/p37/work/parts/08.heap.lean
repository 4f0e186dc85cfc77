/-! THE RULES of the heap, calls and ends -/
section RH
variable {g : GG} {l : Launch} {M : MI} {R : Room} {FN : FinT} {pc q : Nat} {ls ls' : LO} {st : List Value} {w : HW} {n cs sl : Nat}
theorem V_getf {ref C : String} {T : u_T} {N ci index i : Nat} {fs : List Value} {v : Value} (d : decode M.2.1 pc = .ok (.getfield index, 3)) (hq : pc + 3 = q) (hin0 : ∀ w ∈ u_ws C T N, w ∈ wsL_law) (hc : vwCl[ci]? = some (C, T, N)) (k0 : Nat) (hk0 : k0 < N) (hl : Jvm.Cond.fieldLink M.1.cls index ref (T k0).2.1 (T k0).2.2.1 ∈ wsL_law) (href : (T k0).1 = ref) (he : w i = eO ci fs) (hi : i < n) (hv : fs[k0]? = some v) (k : V g l M R FN q ls (v :: st) w n cs sl) : V g l M R FN pc ls (rf g i :: st) w n cs sl := by
  subst hq
  intro p e s m args below meth c H locs la hC hL hP hS hn
  obtain ⟨hx, hb, hr, hlk, hml, hown, hts, hK, hb0, hin⟩ := id hC
  refine va_get (D := g.2.1) (ci := ci) (v := v) (C := C) (T := T) (N := N) hx hb hts hin0 hown hK.1 hP i (fs := fs) (by rw [wl_get hi, he]) hc k0 hk0 (hts _ hl) (fun x hx9 => by rw [← href]; exact hx9) hv d ?_
  exact k p e s m args below meth c H locs la hC hL hP hS hn
theorem V_putf {ref C : String} {T : u_T} {N ci index i : Nat} {fs fs' : List Value} {v : Value} {ty : FieldType} (d : decode M.2.1 pc = .ok (.putfield index, 3)) (hq : pc + 3 = q) (hin0 : ∀ w ∈ u_ws C T N, w ∈ wsL_law) (ty0 : Nat → FieldType) (hty : ∀ k, k < N → parseFieldDescriptor (T k).2.2.1 = some (ty0 k)) (hnm : ∀ a, a < N → ∀ b, b < N → a ≠ b → (T a).2.1 ≠ (T b).2.1) (hc : vwCl[ci]? = some (C, T, N)) (k0 : Nat) (hk0 : k0 < N) (hl : Jvm.Cond.fieldLink M.1.cls index ref (T k0).2.1 (T k0).2.2.1 ∈ wsL_law) (href : (T k0).1 = ref) (hfin : (T k0).2.2.2 = false) (hd : parseFieldDescriptor (T k0).2.2.1 = some ty) (hnr : narrow ty v = v) (hfit : fits ty v = true) (he : w i = eO ci fs) (hi : i < n) (hlen : k0 < fs.length) (hfs : fs.set k0 v = fs') (k : V g l M R FN q ls st (va_up w i (eO ci fs')) n cs sl) : V g l M R FN pc ls (v :: rf g i :: st) w n cs sl := by
  subst hq; subst hfs
  intro p e s m args below meth c H locs la hC hL hP hS hn
  obtain ⟨hx, hb, hr, hlk, hml, hown, hts, hK, hb0, hin⟩ := id hC
  refine va_put (D := g.2.1) (ci := ci) (v := v) (ty := ty) (C := C) (T := T) (N := N) hx hb hts hin0 ty0 hty hnm hown hK.1 hP wl_D hS i (fs := fs) (by rw [wl_get hi, he]) hc k0 hk0 (hts _ hl) (fun x hx9 => by rw [← href]; exact hx9) hfin hd hnr hfit hlen d (fun H1 locs1 hP1 hD1 hS1 => ?_)
  rw [wl_set _ hi] at hP1
  exact k p e s m args below meth c H1 locs1 la hC hL hP1 hS1 hn
theorem V_putF {ref C : String} {T : u_T} {N ci index i : Nat} {fs fs' : List Value} {v : Value} {ty : FieldType} (d : decode M.2.1 pc = .ok (.putfield index, 3)) (hq : pc + 3 = q) (hin0 : ∀ w ∈ u_ws C T N, w ∈ wsL_law) (ty0 : Nat → FieldType) (hty : ∀ k, k < N → parseFieldDescriptor (T k).2.2.1 = some (ty0 k)) (hnm : ∀ a, a < N → ∀ b, b < N → a ≠ b → (T a).2.1 ≠ (T b).2.1) (hc : vwCl[ci]? = some (C, T, N)) (k0 : Nat) (hk0 : k0 < N) (hl : Jvm.Cond.fieldLink M.1.cls index ref (T k0).2.1 (T k0).2.2.1 ∈ wsL_law) (href : (T k0).1 = ref) (hfin : (T k0).2.2.2 = true) (hin2 : M.1.name = "<init>") (hdecl : (T k0).1 = M.1.cls) (hd : parseFieldDescriptor (T k0).2.2.1 = some ty) (hnr : narrow ty v = v) (hfit : fits ty v = true) (he : w i = eO ci fs) (hi : i < n) (hlen : k0 < fs.length) (hfs : fs.set k0 v = fs') (k : V g l M R FN q ls st (va_up w i (eO ci fs')) n cs sl) : V g l M R FN pc ls (v :: rf g i :: st) w n cs sl := by
  subst hq; subst hfs
  intro p e s m args below meth c H locs la hC hL hP hS hn
  obtain ⟨hx, hb, hr, hlk, hml, hown, hts, hK, hb0, hin⟩ := id hC
  refine va_putF (D := g.2.1) (ci := ci) (v := v) (ty := ty) (C := C) (T := T) (N := N) hx hb hts hin0 ty0 hty hnm hown hK.1 hP wl_D hS i (fs := fs) (by rw [wl_get hi, he]) hc k0 hk0 (hts _ hl) (fun x hx9 => by rw [← href]; exact hx9) hfin (hin hin2) hdecl hd hnr hfit hlen d (fun H1 locs1 hP1 hD1 hS1 => ?_)
  rw [wl_set _ hi] at hP1
  exact k p e s m args below meth c H1 locs1 la hC hL hP1 hS1 hn
theorem V_iald {i N : Nat} {f : Nat → Int32} {j x : Int32} (d : decode M.2.1 pc = .ok (.iaload, 1)) (hq : pc + 1 = q) (he : w i = eI g N f) (hi : i < n) (hj : vp_in j N) (hv : f j.toNatClampNeg = x) (k : V g l M R FN q ls (.int x :: st) w n cs sl) : V g l M R FN pc ls (.int j :: rf g i :: st) w n cs sl := by
  subst hq; subst hv
  intro p e s m args below meth c H locs la hC hL hP hS hn
  obtain ⟨hx, hb, hr, hlk, hml, hown, hts, hK, hb0, hin⟩ := id hC
  refine va_iald hx hb hK.1 hP i 0 (cA := g.2.2.1 0) (n := N) (f := f) (by rw [wl_get hi, he]) rfl hj d ?_
  exact k p e s m args below meth c H locs la hC hL hP hS hn
theorem V_ialdN {i N a : Nat} {f : Nat → Int32} {j x : Int32} (d : decode M.2.1 pc = .ok (.iaload, 1)) (hq : pc + 1 = q) (he : w i = eI g N f) (hi : i < n) (hN : N < 2 ^ 31) (ha : a < N) (hj : j = nI a) (hv : f a = x) (k : V g l M R FN q ls (.int x :: st) w n cs sl) : V g l M R FN pc ls (.int j :: rf g i :: st) w n cs sl := by
  subst hj
  exact V_iald d hq he hi (vp_in_nI ha hN) (by rw [nI_clamp (by omega)]; exact hv) k
theorem V_cald {i N : Nat} {f : Nat → Int32} {j x : Int32} (d : decode M.2.1 pc = .ok (.caload, 1)) (hq : pc + 1 = q) (he : w i = eC g N f) (hi : i < n) (hj : vp_in j N) (hv : f j.toNatClampNeg = x) (k : V g l M R FN q ls (.int x :: st) w n cs sl) : V g l M R FN pc ls (.int j :: rf g i :: st) w n cs sl := by
  subst hq; subst hv
  intro p e s m args below meth c H locs la hC hL hP hS hn
  obtain ⟨hx, hb, hr, hlk, hml, hown, hts, hK, hb0, hin⟩ := id hC
  refine va_cald hx hb hK.1 hP i 1 (cA := g.2.2.1 1) (n := N) (f := f) (by rw [wl_get hi, he]) rfl hj d ?_
  exact k p e s m args below meth c H locs la hC hL hP hS hn
theorem V_caldN {i N a : Nat} {f : Nat → Int32} {j x : Int32} (d : decode M.2.1 pc = .ok (.caload, 1)) (hq : pc + 1 = q) (he : w i = eC g N f) (hi : i < n) (hN : N < 2 ^ 31) (ha : a < N) (hj : j = nI a) (hv : f a = x) (k : V g l M R FN q ls (.int x :: st) w n cs sl) : V g l M R FN pc ls (.int j :: rf g i :: st) w n cs sl := by
  subst hj
  exact V_cald d hq he hi (vp_in_nI ha hN) (by rw [nI_clamp (by omega)]; exact hv) k
theorem V_iast {i N : Nat} {f f' : Nat → Int32} {j x : Int32} (d : decode M.2.1 pc = .ok (.iastore, 1)) (hq : pc + 1 = q) (he : w i = eI g N f) (hi : i < n) (hj : vp_in j N) (hf : upd f j.toNatClampNeg x = f') (k : V g l M R FN q ls st (va_up w i (eI g N f')) n cs sl) : V g l M R FN pc ls (.int x :: .int j :: rf g i :: st) w n cs sl := by
  subst hq; subst hf
  intro p e s m args below meth c H locs la hC hL hP hS hn
  obtain ⟨hx, hb, hr, hlk, hml, hown, hts, hK, hb0, hin⟩ := id hC
  refine va_iast hx hb hK.1 hP wl_D hS i 0 (cA := g.2.2.1 0) (n := N) (f := f) (by rw [wl_get hi, he]) rfl hj d (fun H1 locs1 hP1 hD1 hS1 => ?_)
  rw [wl_set _ hi] at hP1
  exact k p e s m args below meth c H1 locs1 la hC hL hP1 hS1 hn
theorem V_iastN {i N a : Nat} {f f' : Nat → Int32} {j x : Int32} (d : decode M.2.1 pc = .ok (.iastore, 1)) (hq : pc + 1 = q) (he : w i = eI g N f) (hi : i < n) (hN : N < 2 ^ 31) (ha : a < N) (hj : j = nI a) (hf : upd f a x = f') (k : V g l M R FN q ls st (va_up w i (eI g N f')) n cs sl) : V g l M R FN pc ls (.int x :: .int j :: rf g i :: st) w n cs sl := by
  subst hj
  exact V_iast d hq he hi (vp_in_nI ha hN) (by rw [nI_clamp (by omega)]; exact hf) k
theorem V_castN {i N a : Nat} {f f' : Nat → Int32} {j x : Int32} (d : decode M.2.1 pc = .ok (.castore, 1)) (hq : pc + 1 = q) (he : w i = eC g N f) (hi : i < n) (hN : N < 2 ^ 31) (ha : a < N) (hj : j = nI a) (hnr : vp_nar .char x = x) (hf : upd f a x = f') (k : V g l M R FN q ls st (va_up w i (eC g N f')) n cs sl) : V g l M R FN pc ls (.int x :: .int j :: rf g i :: st) w n cs sl := by
  subst hj; subst hq; subst hf
  intro p e s m args below meth c H locs la hC hL hP hS hn
  obtain ⟨hx, hb, hr, hlk, hml, hown, hts, hK, hb0, hin⟩ := id hC
  refine va_cast hx hb hK.1 hP wl_D hS i 1 (cA := g.2.2.1 1) (n := N) (f := f) (by rw [wl_get hi, he]) rfl (vp_in_nI ha hN) d (fun H1 locs1 hP1 hD1 hS1 => ?_)
  rw [wl_set _ hi, nI_clamp (by omega), hnr] at hP1
  exact k p e s m args below meth c H1 locs1 la hC hL hP1 hS1 hn
theorem V_aaldR {i N a : Nat} {f : Nat → Option Nat} {j : Int32} {v : Value} (d : decode M.2.1 pc = .ok (.aaload, 1)) (hq : pc + 1 = q) (he : w i = eR g N f) (hi : i < n) (hN : N < 2 ^ 31) (ha : a < N) (hj : j = nI a) (hv : va_rf (f a) = v) (k : V g l M R FN q ls (v :: st) w n cs sl) : V g l M R FN pc ls (.int j :: rf g i :: st) w n cs sl := by
  subst hj; subst hq; subst hv
  intro p e s m args below meth c H locs la hC hL hP hS hn
  obtain ⟨hx, hb, hr, hlk, hml, hown, hts, hK, hb0, hin⟩ := id hC
  refine va_aldq hx hb hK.1 hP i 2 (cA := g.2.2.1 2) (C := "JugglingRows$Row") (n := N) (f := f) (by rw [wl_get hi, he]) rfl (vp_in_nI ha hN) d ?_
  rw [nI_clamp (by omega)]
  exact k p e s m args below meth c H locs la hC hL hP hS hn
theorem V_aaldS {i N a : Nat} {f : Nat → Option Nat} {j : Int32} {v : Value} (d : decode M.2.1 pc = .ok (.aaload, 1)) (hq : pc + 1 = q) (he : w i = eS g N f) (hi : i < n) (hN : N < 2 ^ 31) (ha : a < N) (hj : j = nI a) (hv : va_rf (f a) = v) (k : V g l M R FN q ls (v :: st) w n cs sl) : V g l M R FN pc ls (.int j :: rf g i :: st) w n cs sl := by
  subst hj; subst hq; subst hv
  intro p e s m args below meth c H locs la hC hL hP hS hn
  obtain ⟨hx, hb, hr, hlk, hml, hown, hts, hK, hb0, hin⟩ := id hC
  refine va_aldq hx hb hK.1 hP i 3 (cA := g.2.2.1 3) (C := "JugglingRows$Stand") (n := N) (f := f) (by rw [wl_get hi, he]) rfl (vp_in_nI ha hN) d ?_
  rw [nI_clamp (by omega)]
  exact k p e s m args below meth c H locs la hC hL hP hS hn
theorem V_aastR {i N a b : Nat} {f f' : Nat → Option Nat} {j : Int32} {fs : List Value} (d : decode M.2.1 pc = .ok (.aastore, 1)) (hq : pc + 1 = q) (he : w i = eR g N f) (hi : i < n) (hN : N < 2 ^ 31) (ha : a < N) (hj : j = nI a) (hb2 : w b = eO 4 fs) (hbn : b < n) (hf : va_up f a (some (g.1 + b)) = f') (k : V g l M R FN q ls st (va_up w i (eR g N f')) n cs sl) : V g l M R FN pc ls (rf g b :: .int j :: rf g i :: st) w n cs sl := by
  subst hj; subst hq; subst hf
  intro p e s m args below meth c H locs la hC hL hP hS hn
  obtain ⟨hx, hb, hr, hlk, hml, hown, hts, hK, hb0, hin⟩ := id hC
  refine va_astq (r := (RX4, TX4, 2)) hx hb hK.1 hP wl_D hS i 2 b 4 (cA := g.2.2.1 2) (n := N) (f := f) (vs := fs) (by rw [wl_get hi, he]) rfl (by rw [wl_get hbn, hb2]) rfl (vp_in_nI ha hN) d (fun H1 locs1 hP1 hD1 hS1 => ?_)
  rw [wl_set _ hi, nI_clamp (by omega)] at hP1
  exact k p e s m args below meth c H1 locs1 la hC hL hP1 hS1 hn
theorem V_aastS {i N a b : Nat} {f f' : Nat → Option Nat} {j : Int32} {fs : List Value} (d : decode M.2.1 pc = .ok (.aastore, 1)) (hq : pc + 1 = q) (he : w i = eS g N f) (hi : i < n) (hN : N < 2 ^ 31) (ha : a < N) (hj : j = nI a) (hb2 : w b = eO 5 fs) (hbn : b < n) (hf : va_up f a (some (g.1 + b)) = f') (k : V g l M R FN q ls st (va_up w i (eS g N f')) n cs sl) : V g l M R FN pc ls (rf g b :: .int j :: rf g i :: st) w n cs sl := by
  subst hj; subst hq; subst hf
  intro p e s m args below meth c H locs la hC hL hP hS hn
  obtain ⟨hx, hb, hr, hlk, hml, hown, hts, hK, hb0, hin⟩ := id hC
  refine va_astq (r := (RX5, TX5, 9)) hx hb hK.1 hP wl_D hS i 3 b 5 (cA := g.2.2.1 3) (n := N) (f := f) (vs := fs) (by rw [wl_get hi, he]) rfl (by rw [wl_get hbn, hb2]) rfl (vp_in_nI ha hN) d (fun H1 locs1 hP1 hD1 hS1 => ?_)
  rw [wl_set _ hi, nI_clamp (by omega)] at hP1
  exact k p e s m args below meth c H1 locs1 la hC hL hP1 hS1 hn
theorem V_alen {i : Nat} {cA : ClassId} {x : vp_A} {t0 : Nat} {ty : FieldType} {v : Int32} (d : decode M.2.1 pc = .ok (.arraylength, 1)) (hq : pc + 1 = q) (he : w i = .inl (cA, x)) (hi : i < n) (ht : (tysG g)[t0]? = some (cA, ty)) (hv : nI x.1 = v) (k : V g l M R FN q ls (.int v :: st) w n cs sl) : V g l M R FN pc ls (rf g i :: st) w n cs sl := by
  subst hq
  intro p e s m args below meth c H locs la hC hL hP hS hn
  obtain ⟨hx, hb, hr, hlk, hml, hown, hts, hK, hb0, hin⟩ := id hC
  refine va_alen hx hb hK.1 hP i t0 (cA := cA) (x := x) (by rw [wl_get hi, he]) ht hv d ?_
  exact k p e s m args below meth c H locs la hC hL hP hS hn
theorem V_alenI {i N : Nat} {f : Nat → Int32} (d : decode M.2.1 pc = .ok (.arraylength, 1)) (hq : pc + 1 = q) (he : w i = eI g N f) (hi : i < n) (k : V g l M R FN q ls (.int (nI N) :: st) w n cs sl) : V g l M R FN pc ls (rf g i :: st) w n cs sl := V_alen (t0 := 0) d hq he hi rfl rfl k
theorem V_alenC {i N : Nat} {f : Nat → Int32} (d : decode M.2.1 pc = .ok (.arraylength, 1)) (hq : pc + 1 = q) (he : w i = eC g N f) (hi : i < n) (k : V g l M R FN q ls (.int (nI N) :: st) w n cs sl) : V g l M R FN pc ls (rf g i :: st) w n cs sl := V_alen (t0 := 1) d hq he hi rfl rfl k
theorem V_alenR {i N : Nat} {f : Nat → Option Nat} (d : decode M.2.1 pc = .ok (.arraylength, 1)) (hq : pc + 1 = q) (he : w i = eR g N f) (hi : i < n) (k : V g l M R FN q ls (.int (nI N) :: st) w n cs sl) : V g l M R FN pc ls (rf g i :: st) w n cs sl := V_alen (t0 := 2) d hq he hi rfl rfl k
theorem V_alenS {i N : Nat} {f : Nat → Option Nat} (d : decode M.2.1 pc = .ok (.arraylength, 1)) (hq : pc + 1 = q) (he : w i = eS g N f) (hi : i < n) (k : V g l M R FN q ls (.int (nI N) :: st) w n cs sl) : V g l M R FN pc ls (rf g i :: st) w n cs sl := V_alen (t0 := 3) d hq he hi rfl rfl k
theorem V_sld {j x : Int32} (d : decode M.2.1 pc = .ok (.iaload, 1)) (hq : pc + 1 = q) (hj : vp_in j g.2.2.2.2.2.1) (hv : g.2.2.2.2.2.2 j.toNatClampNeg = x) (k : V g l M R FN q ls (.int x :: st) w n cs sl) : V g l M R FN pc ls (.int j :: .ref g.2.2.2.2.1 :: st) w n cs sl := by
  subst hq; subst hv
  intro p e s m args below meth c H locs la hC hL hP hS hn
  obtain ⟨hx, hb, hr, hlk, hml, hown, hts, hK, hb0, hin⟩ := id hC
  obtain ⟨hK1, -, -, hX, hbl, hbA, -⟩ := hK
  refine va_sld hx hb hX hbl hbA hS hj d ?_
  exact k p e s m args below meth c H locs la hC hL hP hS hn
theorem V_slen (d : decode M.2.1 pc = .ok (.arraylength, 1)) (hq : pc + 1 = q) (k : V g l M R FN q ls (.int (nI g.2.2.2.2.2.1) :: st) w n cs sl) : V g l M R FN pc ls (.ref g.2.2.2.2.1 :: st) w n cs sl := by
  subst hq
  intro p e s m args below meth c H locs la hC hL hP hS hn
  obtain ⟨hx, hb, hr, hlk, hml, hown, hts, hK, hb0, hin⟩ := id hC
  obtain ⟨hK1, -, -, hX, hbl, hbA, -⟩ := hK
  refine va_slen hx hb hX hbl hbA hS d ?_
  exact k p e s m args below meth c H locs la hC hL hP hS hn
theorem V_getS {index i : Nat} {nm ds : String} {v : Value} (hi : i < 26) (hf : ∀ U H, Sx g U H → va_OF "java/lang/String" nm ds v (sK g i) (vA g) U H) (d : decode M.2.1 pc = .ok (.getfield index, 3)) (hq : pc + 3 = q) (hl : Jvm.Cond.fieldLink M.1.cls index "java/lang/String" nm ds ∈ wsL_law) (k : V g l M R FN q ls (v :: st) w n cs sl) : V g l M R FN pc ls (.ref (sK g i) :: st) w n cs sl := by
  subst hq
  intro p e s m args below meth c H locs la hC hL hP hS hn
  obtain ⟨hx, hb, hr, hlk, hml, hown, hts, hK, hb0, hin⟩ := id hC
  obtain ⟨cf, kf, fi, f, cell, h1, h2, h3, h4, h5, h6⟩ := (hf _ _ hK.2.1).kept hS.2.1
  refine W.getf hx hb hown (hts _ hl) h1 h2 h3 h4 (v := v) h5 rfl rfl d ?_
  exact k p e s m args below meth c H locs la hC hL hP hS hn
theorem V_getSt {index : Nat} (d : decode M.2.1 pc = .ok (.getstatic index, 3)) (hq : pc + 3 = q) (hl : Jvm.Cond.fieldLink M.1.cls index "java/lang/String" "COMPACT_STRINGS" "Z" ∈ wsL_law) (k : V g l M R FN q ls (.int 1 :: st) w n cs sl) : V g l M R FN pc ls st w n cs sl := by
  subst hq
  intro p e s m args below meth c H locs la hC hL hP hS hn
  obtain ⟨hx, hb, hr, hlk, hml, hown, hts, hK, hb0, hin⟩ := id hC
  refine va_gets hx hb hK.2.1.2.1 hS hown (hts _ hl) (fun x h => h) d ?_
  exact k p e s m args below meth c H locs la hC hL hP hS hn
theorem V_getTx {index : Nat} (d : decode M.2.1 pc = .ok (.getstatic index, 3)) (hq : pc + 3 = q) (hl : Jvm.Cond.fieldLink M.1.cls index "JugglingRowsLaw" "TEXTS" "[Ljava/lang/String;" ∈ wsL_law) (k : V g l M R FN q ls (.ref (sX g) :: st) w n cs sl) : V g l M R FN pc ls st w n cs sl := by
  subst hq
  intro p e s m args below meth c H locs la hC hL hP hS hn
  obtain ⟨hx, hb, hr, hlk, hml, hown, hts, hK, hb0, hin⟩ := id hC
  refine va_gets hx hb hK.2.1.2.2.1 hS hown (hts _ hl) (fun x h => h) d ?_
  exact k p e s m args below meth c H locs la hC hL hP hS hn
theorem V_getFm {index : Nat} (d : decode M.2.1 pc = .ok (.getstatic index, 3)) (hq : pc + 3 = q) (hl : Jvm.Cond.fieldLink M.1.cls index "jdk/internal/util/Preconditions" "SIOOBE_FORMATTER" "Ljava/util/function/BiFunction;" ∈ wsL_law) (k : ∀ v : Value, v = .null ∨ (∃ a, v = .ref a) → V g l M R FN q ls (v :: st) w n cs sl) : V g l M R FN pc ls st w n cs sl := by
  subst hq
  intro p e s m args below meth c H locs la hC hL hP hS hn
  obtain ⟨hx, hb, hr, hlk, hml, hown, hts, hK, hb0, hin⟩ := id hC
  rcases hK.2.1.2.2.2.2 with hz | ⟨t, hz⟩
  · refine va_gets hx hb hz hS hown (hts _ hl) (fun x h => h) d ?_
    exact k _ (Or.inl rfl) p e s m args below meth c H locs la hC hL hP hS hn
  · refine va_gets hx hb hz hS hown (hts _ hl) (fun x h => h) d ?_
    exact k _ (Or.inr ⟨_, rfl⟩) p e s m args below meth c H locs la hC hL hP hS hn
theorem V_txlen (d : decode M.2.1 pc = .ok (.arraylength, 1)) (hq : pc + 1 = q) (k : V g l M R FN q ls (.int (nI 26) :: st) w n cs sl) : V g l M R FN pc ls (.ref (sX g) :: st) w n cs sl := by
  subst hq
  intro p e s m args below meth c H locs la hC hL hP hS hn
  obtain ⟨hx, hb, hr, hlk, hml, hown, hts, hK, hb0, hin⟩ := id hC
  refine va_tlen hx hb hK.2.1.2.2.2.1 hS (v := nI 26) rfl d ?_
  exact k p e s m args below meth c H locs la hC hL hP hS hn
theorem V_txald {a : Nat} {j : Int32} (d : decode M.2.1 pc = .ok (.aaload, 1)) (hq : pc + 1 = q) (ha : a < 26) (hj : j = nI a) (k : V g l M R FN q ls (.ref (sK g a) :: st) w n cs sl) : V g l M R FN pc ls (.int j :: .ref (sX g) :: st) w n cs sl := by
  subst hq; subst hj
  intro p e s m args below meth c H locs la hC hL hP hS hn
  obtain ⟨hx, hb, hr, hlk, hml, hown, hts, hK, hb0, hin⟩ := id hC
  refine vb_tq hx hb hK.2.1.2.2.2.1 hS (vp_in_nI ha (by omega)) (v := .ref (sK g a)) (by rw [nI_clamp (by omega)]) d ?_
  exact k p e s m args below meth c H locs la hC hL hP hS hn
theorem V_bald {i a : Nat} {j x : Int32} (hi : i < 26) (d : decode M.2.1 pc = .ok (.baload, 1)) (hq : pc + 1 = q) (hL2 : lenT.getD i 0 < 2 ^ 31) (ha : a < lenT.getD i 0) (hj : j = nI a) (hv : (bytT.getD i []).getD a 0 = x) (k : V g l M R FN q ls (.int x :: st) w n cs sl) : V g l M R FN pc ls (.int j :: .ref (sV g i) :: st) w n cs sl := by
  subst hq; subst hj
  intro p e s m args below meth c H locs la hC hL hP hS hn
  obtain ⟨hx, hb, hr, hlk, hml, hown, hts, hK, hb0, hin⟩ := id hC
  refine va_tb hx hb ((hK.2.1.1 i hi).1 0 (by decide)).2.2.2 hS (i := nI a) (by show vp_in (nI a) (lenT.getD i 0); exact vp_in_nI ha hL2) (v := .int x) (by rw [nI_clamp (by omega), ← hv]; rfl) d ?_
  exact k p e s m args below meth c H locs la hC hL hP hS hn
theorem V_blen {i : Nat} (hi : i < 26) (d : decode M.2.1 pc = .ok (.arraylength, 1)) (hq : pc + 1 = q) (k : V g l M R FN q ls (.int (nI (lenT.getD i 0)) :: st) w n cs sl) : V g l M R FN pc ls (.ref (sV g i) :: st) w n cs sl := by
  subst hq
  intro p e s m args below meth c H locs la hC hL hP hS hn
  obtain ⟨hx, hb, hr, hlk, hml, hown, hts, hK, hb0, hin⟩ := id hC
  refine va_tlen hx hb ((hK.2.1.1 i hi).1 0 (by decide)).2.2.2 hS (v := nI (lenT.getD i 0)) rfl d ?_
  exact k p e s m args below meth c H locs la hC hL hP hS hn
theorem V_new {C : String} {T : u_T} {N ci index : Nat} {fs : List Value} (d : decode M.2.1 pc = .ok (.new index, 3)) (hq : pc + 3 = q) (hin0 : ∀ w ∈ u_ws C T N, w ∈ wsL_law) (ty : Nat → FieldType) (hty : ∀ k, k < N → parseFieldDescriptor (T k).2.2.1 = some (ty k)) (hcl : Jvm.Cond.classLink M.1.cls index C ∈ wsL_law) (hinst : Jvm.Cond.instantiable C N ∈ wsL_law) (hini : Jvm.Cond.initialized C ∈ wsL_law) (hc : vwCl[ci]? = some (C, T, N)) (hfs : ∀ j, j < N → defaultValue (ty j) = vp_V fs j) (hcells : cs + 1 ≤ R.cells) (hslots : sl + N ≤ R.slots) (k : V g l M R FN q ls (rf g n :: st) (va_up w n (eO ci fs)) (n + 1) (cs + 1) (sl + N)) : V g l M R FN pc ls st w n cs sl := by
  subst hq
  intro p e s m args below meth c H locs la hC hL hP hS hn
  obtain ⟨hx, hb, hr, hlk, hml, hown, hts, hK, hb0, hin⟩ := id hC
  refine W_sz fun hsz => ?_
  have hH : H.size = g.1 + n := Nat.le_antisymm (by omega) (hP.sz (Nat.le_trans hb0 hS.1))
  have hKn := hK.1.1 ci _ hc
  refine W.newcK hx hb hown (hts _ hcl) (hts _ hinst) (hts _ hini) rfl d hcells hslots hKn.2.1 hH fun H1 kC hkC e1 z1 o1 => ?_
  have hk : ∀ (k : Nat) (x : Nat × va_E), (wl g w n)[k]? = some x → H1[x.1]? = H[x.1]? := fun k x hx => o1 x.1 (by rw [← hH]; exact (hP k x hx).lt)
  refine k p e s m args below meth c H1 locs la hC hL ?_ ⟨Nat.le_trans hS.1 (by omega), fun x h1 h2 => (o1 x (by rw [← hH]; exact Nat.lt_of_lt_of_le h1 hS.1)).trans (hS.2.1 x h1 h2), hS.2.2⟩ (by omega)
  show va_P _ _ _ _
  rw [← wl_push]
  refine (hP.kept hk).app (fun k x hx => ?_)
  have hz : k < 1 := (List.getElem?_eq_some_iff.mp hx).1
  rw [show k = 0 by omega] at hx
  cases hx
  exact ⟨_, hc, (u_born ty hts hin0 hKn hkC e1 hty).to hfs⟩
theorem V_newI {j : Int32} {N : Nat} (d : decode M.2.1 pc = .ok (.newarray .int, 2)) (hq : pc + 2 = q) (harr : Jvm.Cond.arrayClass .int ∈ wsL_law) (hj : j = nI N) (hN : N ≤ 1000) (hcells : cs + 1 ≤ R.cells) (hslots : sl + N ≤ R.slots) (k : V g l M R FN q ls (rf g n :: st) (va_up w n (eI g N (fun _ => 0))) (n + 1) (cs + 1) (sl + N)) : V g l M R FN pc ls (.int j :: st) w n cs sl := by
  subst hq; subst hj
  intro p e s m args below meth c H locs la hC hL hP hS hn
  obtain ⟨hx, hb, hr, hlk, hml, hown, hts, hK, hb0, hin⟩ := id hC
  refine W_sz fun hsz => ?_
  have hH : H.size = g.1 + n := Nat.le_antisymm (by omega) (hP.sz (Nat.le_trans hb0 hS.1))
  have hclp : (nI N).toNatClampNeg = N := nI_clamp (by omega)
  refine va_newaK hx hb (atype := .int) (hts _ harr) rfl d rfl (nI_pos (by omega)) hclp (by show N * _ ≤ _; simp [componentBytes, newarray.typeOf]; omega) hcells hslots hH fun H1 cA e1 z1 o1 hAr hNm => ?_
  have hcA : cA = g.2.2.1 0 := Option.some.inj (hNm.symm.trans (hK.1.2 0 _ rfl).2)
  subst hcA
  have hk : ∀ (k : Nat) (x : Nat × va_E), (wl g w n)[k]? = some x → H1[x.1]? = H[x.1]? := fun k x hx => o1 x.1 (by rw [← hH]; exact (hP k x hx).lt)
  refine k p e s m args below meth c H1 locs la hC hL ?_ ⟨Nat.le_trans hS.1 (by omega), fun x h1 h2 => (o1 x (by rw [← hH]; exact Nat.lt_of_lt_of_le h1 hS.1)).trans (hS.2.1 x h1 h2), hS.2.2⟩ (by omega)
  show va_P _ _ _ _
  rw [← wl_push]
  refine (hP.kept hk).app (fun k x hx => ?_)
  have hz : k < 1 := (List.getElem?_eq_some_iff.mp hx).1
  rw [show k = 0 by omega] at hx
  cases hx
  exact e1
theorem V_newC {j : Int32} {N : Nat} (d : decode M.2.1 pc = .ok (.newarray .char, 2)) (hq : pc + 2 = q) (harr : Jvm.Cond.arrayClass .char ∈ wsL_law) (hj : j = nI N) (hN : N ≤ 1000) (hcells : cs + 1 ≤ R.cells) (hslots : sl + N ≤ R.slots) (k : V g l M R FN q ls (rf g n :: st) (va_up w n (eC g N (fun _ => 0))) (n + 1) (cs + 1) (sl + N)) : V g l M R FN pc ls (.int j :: st) w n cs sl := by
  subst hq; subst hj
  intro p e s m args below meth c H locs la hC hL hP hS hn
  obtain ⟨hx, hb, hr, hlk, hml, hown, hts, hK, hb0, hin⟩ := id hC
  refine W_sz fun hsz => ?_
  have hH : H.size = g.1 + n := Nat.le_antisymm (by omega) (hP.sz (Nat.le_trans hb0 hS.1))
  have hclp : (nI N).toNatClampNeg = N := nI_clamp (by omega)
  refine va_newaK hx hb (atype := .char) (hts _ harr) rfl d rfl (nI_pos (by omega)) hclp (by show N * _ ≤ _; simp [componentBytes, newarray.typeOf]; omega) hcells hslots hH fun H1 cA e1 z1 o1 hAr hNm => ?_
  have hcA : cA = g.2.2.1 1 := Option.some.inj (hNm.symm.trans (hK.1.2 1 _ rfl).2)
  subst hcA
  have hk : ∀ (k : Nat) (x : Nat × va_E), (wl g w n)[k]? = some x → H1[x.1]? = H[x.1]? := fun k x hx => o1 x.1 (by rw [← hH]; exact (hP k x hx).lt)
  refine k p e s m args below meth c H1 locs la hC hL ?_ ⟨Nat.le_trans hS.1 (by omega), fun x h1 h2 => (o1 x (by rw [← hH]; exact Nat.lt_of_lt_of_le h1 hS.1)).trans (hS.2.1 x h1 h2), hS.2.2⟩ (by omega)
  show va_P _ _ _ _
  rw [← wl_push]
  refine (hP.kept hk).app (fun k x hx => ?_)
  have hz : k < 1 := (List.getElem?_eq_some_iff.mp hx).1
  rw [show k = 0 by omega] at hx
  cases hx
  exact e1
theorem V_newR {index : Nat} {j : Int32} {N : Nat} (d : decode M.2.1 pc = .ok (.anewarray index, 3)) (hq : pc + 3 = q) (hcl : Jvm.Cond.classLink M.1.cls index "JugglingRows$Row" ∈ wsL_law) (hj : j = nI N) (hN : N ≤ 1000) (hcells : cs + 1 ≤ R.cells) (hslots : sl + N ≤ R.slots) (k : V g l M R FN q ls (rf g n :: st) (va_up w n (eR g N (fun _ => none))) (n + 1) (cs + 1) (sl + N)) : V g l M R FN pc ls (.int j :: st) w n cs sl := by
  subst hq; subst hj
  intro p e s m args below meth c H locs la hC hL hP hS hn
  obtain ⟨hx, hb, hr, hlk, hml, hown, hts, hK, hb0, hin⟩ := id hC
  refine W_sz fun hsz => ?_
  have hH : H.size = g.1 + n := Nat.le_antisymm (by omega) (hP.sz (Nat.le_trans hb0 hS.1))
  have hclp : (nI N).toNatClampNeg = N := nI_clamp (by omega)
  refine W.anew hx hb hown (hts _ hcl) (va_AO.use hK.2.2.2.2.2.2.2.1) rfl d rfl (nI_pos (by omega)) (by rw [hclp]; omega) hcells (by rw [hclp]; exact hslots) fun cA kA comp f1 f2 f3 f4 => ?_
  obtain ⟨kA', comp', -, -, -, hNm⟩ := (hK.1.2 2 _ rfl).2
  have hcA : cA = g.2.2.1 2 := Option.some.inj (f1.symm.trans hNm)
  subst hcA
  rw [hclp]
  generalize hH1 : H.push ({ cls := g.2.2.1 2, slots := Array.replicate N .null, vm := .none } : Cell) = H1
  have z1 : H1.size = H.size + 1 := by rw [← hH1, Array.size_push]
  have e1 : H1[H.size]? = some (arrV (g.2.2.1 2) N (fun _ => .null)) := by rw [← hH1, Array.getElem?_push_size, ← arrV_new]
  have o1 : ∀ q : Nat, q < H.size → H1[q]? = H[q]? := fun q hq => by rw [← hH1, Array.getElem?_push, if_neg (Nat.ne_of_lt hq)]
  have hk : ∀ (k : Nat) (x : Nat × va_E), (wl g w n)[k]? = some x → H1[x.1]? = H[x.1]? := fun k x hx => o1 x.1 (hP k x hx).lt
  have hgo := k p e s m args below meth c H1 locs la hC hL (by
    show va_P _ _ _ _
    rw [← wl_push]
    refine (hP.kept hk).app (fun k x hx => ?_)
    have hz : k < 1 := (List.getElem?_eq_some_iff.mp hx).1
    rw [show k = 0 by omega] at hx
    cases hx
    show H1[g.1 + n]? = some (vp_cell _ _)
    rw [vp_cell_q, ← hH]
    exact e1) ⟨Nat.le_trans hS.1 (by omega), fun x h1 h2 => (o1 x (Nat.lt_of_lt_of_le h1 hS.1)).trans (hS.2.1 x h1 h2), hS.2.2⟩ (by omega)
  show W _ _ _ _ _ _ _ _ _ _ _ _ _ _ _ (F0 m (pc + 3) la (.ref H.size :: st))
  rw [hH]
  exact hgo
theorem V_newS {index : Nat} {j : Int32} {N : Nat} (d : decode M.2.1 pc = .ok (.anewarray index, 3)) (hq : pc + 3 = q) (hcl : Jvm.Cond.classLink M.1.cls index "JugglingRows$Stand" ∈ wsL_law) (hj : j = nI N) (hN : N ≤ 1000) (hcells : cs + 1 ≤ R.cells) (hslots : sl + N ≤ R.slots) (k : V g l M R FN q ls (rf g n :: st) (va_up w n (eS g N (fun _ => none))) (n + 1) (cs + 1) (sl + N)) : V g l M R FN pc ls (.int j :: st) w n cs sl := by
  subst hq; subst hj
  intro p e s m args below meth c H locs la hC hL hP hS hn
  obtain ⟨hx, hb, hr, hlk, hml, hown, hts, hK, hb0, hin⟩ := id hC
  refine W_sz fun hsz => ?_
  have hH : H.size = g.1 + n := Nat.le_antisymm (by omega) (hP.sz (Nat.le_trans hb0 hS.1))
  have hclp : (nI N).toNatClampNeg = N := nI_clamp (by omega)
  refine W.anew hx hb hown (hts _ hcl) (va_AO.use hK.2.2.2.2.2.2.2.2.1) rfl d rfl (nI_pos (by omega)) (by rw [hclp]; omega) hcells (by rw [hclp]; exact hslots) fun cA kA comp f1 f2 f3 f4 => ?_
  obtain ⟨kA', comp', -, -, -, hNm⟩ := (hK.1.2 3 _ rfl).2
  have hcA : cA = g.2.2.1 3 := Option.some.inj (f1.symm.trans hNm)
  subst hcA
  rw [hclp]
  generalize hH1 : H.push ({ cls := g.2.2.1 3, slots := Array.replicate N .null, vm := .none } : Cell) = H1
  have z1 : H1.size = H.size + 1 := by rw [← hH1, Array.size_push]
  have e1 : H1[H.size]? = some (arrV (g.2.2.1 3) N (fun _ => .null)) := by rw [← hH1, Array.getElem?_push_size, ← arrV_new]
  have o1 : ∀ q : Nat, q < H.size → H1[q]? = H[q]? := fun q hq => by rw [← hH1, Array.getElem?_push, if_neg (Nat.ne_of_lt hq)]
  have hk : ∀ (k : Nat) (x : Nat × va_E), (wl g w n)[k]? = some x → H1[x.1]? = H[x.1]? := fun k x hx => o1 x.1 (hP k x hx).lt
  have hgo := k p e s m args below meth c H1 locs la hC hL (by
    show va_P _ _ _ _
    rw [← wl_push]
    refine (hP.kept hk).app (fun k x hx => ?_)
    have hz : k < 1 := (List.getElem?_eq_some_iff.mp hx).1
    rw [show k = 0 by omega] at hx
    cases hx
    show H1[g.1 + n]? = some (vp_cell _ _)
    rw [vp_cell_q, ← hH]
    exact e1) ⟨Nat.le_trans hS.1 (by omega), fun x h1 h2 => (o1 x (Nat.lt_of_lt_of_le h1 hS.1)).trans (hS.2.1 x h1 h2), hS.2.2⟩ (by omega)
  show W _ _ _ _ _ _ _ _ _ _ _ _ _ _ _ (F0 m (pc + 3) la (.ref H.size :: st))
  rw [hH]
  exact hgo
theorem V_iret {x : Int32} {Q : QQ} {mc ms : Nat} (d : decode M.2.1 pc = .ok (.ireturn, 1)) (hty : M.2.2.2 = some .int) (hc : cs ≤ mc) (hs : sl ≤ ms) (hq : Q (some (.int x)) w n) : V g l M R (FinM g Q mc ms) pc ls [.int x] w n cs sl := by
  intro p e s m args below meth c H locs la hC hL hP hS hn
  obtain ⟨hx, hb, hr, hlk, hml, hown, hts, hK, hb0, hin⟩ := id hC
  refine W.widen hc hs ?_
  exact W.iret (v := x) hx hb (hr.trans hty) (fun t ht hW => ⟨⟨_, w, n, rfl, hq, by rw [ht]; exact hP⟩, hS.F ht⟩) hS.2.2 d hlk
theorem V_zret {x : Int32} {Q : QQ} {mc ms : Nat} {ty : FieldType} (d : decode M.2.1 pc = .ok (.ireturn, 1)) (hty : M.2.2.2 = some ty) (hnr : narrow ty (.int x) = .int x) (hc : cs ≤ mc) (hs : sl ≤ ms) (hq : Q (some (.int x)) w n) : V g l M R (FinM g Q mc ms) pc ls [.int x] w n cs sl := by
  intro p e s m args below meth c H locs la hC hL hP hS hn
  obtain ⟨hx, hb, hr, hlk, hml, hown, hts, hK, hb0, hin⟩ := id hC
  refine W.widen hc hs ?_
  exact W.zret (v := x) hx hb (hr.trans hty) hnr (fun t ht hW => ⟨⟨_, w, n, rfl, hq, by rw [ht]; exact hP⟩, hS.F ht⟩) hS.2.2 d hlk
theorem V_jret {x : Int64} {Q : QQ} {mc ms : Nat} (d : decode M.2.1 pc = .ok (.lreturn, 1)) (hty : M.2.2.2 = some .long) (hc : cs ≤ mc) (hs : sl ≤ ms) (hq : Q (some (.long x)) w n) : V g l M R (FinM g Q mc ms) pc ls [.long x] w n cs sl := by
  intro p e s m args below meth c H locs la hC hL hP hS hn
  obtain ⟨hx, hb, hr, hlk, hml, hown, hts, hK, hb0, hin⟩ := id hC
  refine W.widen hc hs ?_
  exact W.lret (v := x) hx hb (hr.trans hty) (fun t ht hW => ⟨⟨_, w, n, rfl, hq, by rw [ht]; exact hP⟩, hS.F ht⟩) hS.2.2 d hlk
theorem V_vret {Q : QQ} {mc ms : Nat} (d : decode M.2.1 pc = .ok (.return_, 1)) (hty : M.2.2.2 = none) (hc : cs ≤ mc) (hs : sl ≤ ms) (hq : Q none w n) : V g l M R (FinM g Q mc ms) pc ls [] w n cs sl := by
  intro p e s m args below meth c H locs la hC hL hP hS hn
  obtain ⟨hx, hb, hr, hlk, hml, hown, hts, hK, hb0, hin⟩ := id hC
  refine W.widen hc hs ?_
  exact W.vret hx hb (hr.trans hty) (fun t ht hW => ⟨⟨_, w, n, rfl, hq, by rw [ht]; exact hP⟩, hS.F ht⟩) hS.2.2 d hlk
theorem V_aret {v : Value} {C : String} {Q : QQ} {mc ms : Nat} (d : decode M.2.1 pc = .ok (.areturn, 1)) (hty : M.2.2.2 = some (.object C)) (hv : v = .null ∨ ∃ a, v = .ref a) (hc : cs ≤ mc) (hs : sl ≤ ms) (hq : Q (some v) w n) : V g l M R (FinM g Q mc ms) pc ls [v] w n cs sl := by
  intro p e s m args below meth c H locs la hC hL hP hS hn
  obtain ⟨hx, hb, hr, hlk, hml, hown, hts, hK, hb0, hin⟩ := id hC
  refine W.widen hc hs ?_
  exact W.aret (v := v) (rt := .object C) hx hb (hr.trans hty) (Or.inl ⟨_, rfl⟩) hv (fun t ht hW => ⟨⟨_, w, n, rfl, hq, by rw [ht]; exact hP⟩, hS.F ht⟩) hS.2.2 d hlk
theorem W_back {p : Program} {e : Env} {s : State} {m : MethodId} {args : Array Value} {below : List Frame} {meth : Method} {c : Code} {H : Heap} {locs : List Loc} {cells slots mc ms : Nat} {Qf : State → Prop} {la : Array Slot} {st0 rest : List Value} {a : Array Value} {Q : QQ}
    (hr : va_Run p l e R s m args below meth c H locs cells slots mc ms (F0 m pc la st0) rest (QcM g Q a) (vA g)) (hS : va_S (vA g) s.heap H locs)
    (kk : ∀ (v : Option Value) (w' : HW) (n' : Nat) (H1 : Heap) (locs1 : List Loc), Q v w' n' → Wd g w' n' H1 → va_S (vA g) s.heap H1 locs1 → H.size ≤ H1.size → W p l e R s m args below meth c H1 locs1 (cells + mc) (slots + ms) Qf (F0 m (pc + 3) la (v.toList ++ rest))) : W p l e R s m args below meth c H locs cells slots Qf (F0 m pc la st0) := by
  intro T hT X
  obtain ⟨v, st₀, t, T', L, h0, X', hL, e1, e2, ⟨⟨v', w', n', hv, hQ, hW⟩, hz, hk⟩, st⟩ := hr T hT X
  cases hv
  rw [h0] at hz hk
  obtain ⟨t2, a1, b1⟩ := kk v w' n' T'.heap (locs ++ L) hQ (by rw [e1]; exact hW)
    ⟨Nat.le_trans hS.1 (by rw [e1]; exact hz), fun q h1 h2 => by rw [e1, hk q (Nat.lt_of_lt_of_le h1 hS.1) h2]; exact hS.2.1 q h1 h2, fun q hq => by
      rcases List.mem_append.mp hq with h | h
      · exact hS.2.2 q h
      · exact hL q h⟩ (by rw [e1]; exact hz) T' rfl X'
  exact ⟨t2, st t2 a1, b1⟩
theorem good_mem {w0 : Cond} (h : w0 ∈ wsL_law) : ((w0.onTables && w0.keeps) = true ∨ ∃ ty, w0 = .arrayClass ty) := good_of_word (List.all_eq_true.mp ws_good w0 h)
theorem good_ws {M' : MI} (hcode : Jvm.Cond.code M'.1 M'.2.1 M'.2.2.1 M'.2.2.2 ∈ wsL_law) : GoodIn wsL_law (wsM M') := by
  intro w0 hw
  rcases List.mem_cons.mp hw with h | h
  · rw [h]
    exact ⟨hcode, good_mem hcode⟩
  · exact ⟨h, good_mem h⟩
theorem preB {av : List Value} {W0 : HW} {N0 : Nat} : FrameBlind (va_Pc av (fun U => Wd g W0 N0 U.heap ∧ Kt g U U.heap ∧ U.heap.size = g.1 + N0)) := fun a U gf mk hq => ⟨hq.1, hq.2.1, Kt.vmeq (s := U) rfl hq.2.2.1, hq.2.2.2⟩
theorem preU {s U : State} {H : Heap} {locs : List Loc} {av : List Value} (hP : Wd g w n H) (hK : Kt g s s.heap) (hS : va_S (vA g) s.heap H locs) (hz : H.size = g.1 + n) (hU : U.heap = H) (hW : s.WarmedH U.vm) : va_Pc av (fun U => Wd g w n U.heap ∧ Kt g U U.heap ∧ U.heap.size = g.1 + n) av.toArray U :=
  ⟨rfl, by rw [hU]; exact hP, by rw [hU]; exact (hK.warm hW).kept hS.1 hS.2.1, by rw [hU]; exact hz⟩
theorem V_callV {index d' i mc ms : Nat} {M' : MI} {T : u_T} {N ci : Nat} {fs : List Value} {as : List Value} {Q : QQ} (d : decode M.2.1 pc = .ok (.invokevirtual index, 3)) (hq : pc + 3 = q) {st0 : List Value} (hst : st0 = as.reverse ++ rf g i :: st) (hCt : Ct g l M' d' (rf g i :: as) w n Q mc ms) (hm : Jvm.Cond.methodLink M.1.cls index M'.1 ∈ wsL_law) (hcode : Jvm.Cond.code M'.1 M'.2.1 M'.2.2.1 M'.2.2.2 ∈ wsL_law) (hini : Jvm.Cond.initialized M'.1.cls ∈ wsL_law) (hnt : M'.1.cls ≠ "java/lang/invoke/MethodHandle" ∧ M'.1.cls ≠ "java/lang/invoke/VarHandle" ∧ (parseMethodDescriptor M'.1.desc).map (fun d => d.parameters.length) = some as.length) (hR : d' + 1 ≤ R.frames ∧ 8 + (M'.2.2.1 + 11) + 36 * d' ≤ R.locals) (him : Jvm.Cond.instanceMethod M'.1 ∈ wsL_law) (hse : Jvm.Cond.selects M'.1.cls M'.1 M'.1 ∈ wsL_law) (he : w i = eO ci fs) (hi : i < n) (hcls : vwCl[ci]? = some (M'.1.cls, T, N)) (hcat : (st.map fun v => v.category).sum ≤ 8) (hcl : cs + mc ≤ R.cells) (hsl : sl + ms ≤ R.slots)
    (k : ∀ (v : Option Value) (w' : HW) (n' : Nat), Q v w' n' → V g l M R FN q ls (v.toList ++ st) w' n' (cs + (n' - n)) (sl + ms)) (hmc : ∀ (v : Option Value) (w' : HW) (n' : Nat), Q v w' n' → n' = n + mc) : V g l M R FN pc ls st0 w n cs sl := by
  subst hq; subst hst
  intro p e s m args below meth c H locs la hC hL hP hS hn
  obtain ⟨hx, hb, hr, hlk, hml, hown, hts, hK, hb0, hin⟩ := id hC
  refine W_sz fun hsz => ?_
  have hH : H.size = g.1 + n := Nat.le_antisymm (by omega) (hP.sz (Nat.le_trans hb0 hS.1))
  have cw : CallW R s args M.1.cls M'.1.cls index M'.1 M'.2.1 M'.2.2.1 M'.2.2.2 (wsM M') (rmd d' mc ms) mc ms as.length := ⟨callB_of as.length hts (good_ws hcode) rfl rfl rfl (hts _ hini) (hts _ hm) hnt hR, hts _ him, hts _ hse⟩
  have hrun := va_runV (e := e) (below := below) (meth := meth) (locs := locs) (cells := cs) (slots := sl) (As := as) (rest := st) (g := F0 m pc la (as.reverse ++ .ref (g.1 + i) :: st)) ⟨hx, hb, hml, hown, hts⟩ hCt cw ⟨preB, va_recv hK.1 hP hcls (q0 := i) (fs := fs) (by rw [wl_get hi, he]), fun U hU hW => preU hP hK hS hH hU hW⟩ rfl rfl hL.2.1.1 rfl (lv_room hcat) d ⟨hcl, hsl⟩
  refine W_back hrun hS fun v w' n' H1 locs1 hQ hP1 hS1 hz1 => ?_
  have hn' := hmc v w' n' hQ
  have hgo := k v w' n' hQ p e s m args below meth c H1 locs1 la hC hL hP1 hS1 (by omega)
  rw [show n' - n = mc by omega] at hgo
  exact hgo
theorem V_callVS {index d' i mc ms : Nat} {M' : MI} {as : List Value} {Q : QQ} (hi : i < 26) (d : decode M.2.1 pc = .ok (.invokevirtual index, 3)) (hq : pc + 3 = q) {st0 : List Value} (hst : st0 = as.reverse ++ .ref (sK g i) :: st) (hCt : Ct g l M' d' (.ref (sK g i) :: as) w n Q mc ms) (hm : Jvm.Cond.methodLink M.1.cls index M'.1 ∈ wsL_law) (hcode : Jvm.Cond.code M'.1 M'.2.1 M'.2.2.1 M'.2.2.2 ∈ wsL_law) (hini : Jvm.Cond.initialized M'.1.cls ∈ wsL_law) (hnt : M'.1.cls ≠ "java/lang/invoke/MethodHandle" ∧ M'.1.cls ≠ "java/lang/invoke/VarHandle" ∧ (parseMethodDescriptor M'.1.desc).map (fun d => d.parameters.length) = some as.length) (hR : d' + 1 ≤ R.frames ∧ 8 + (M'.2.2.1 + 11) + 36 * d' ≤ R.locals) (him : Jvm.Cond.instanceMethod M'.1 ∈ wsL_law) (hse : Jvm.Cond.selects M'.1.cls M'.1 M'.1 ∈ wsL_law) (hcls : M'.1.cls = "java/lang/String") (hcat : (st.map fun v => v.category).sum ≤ 8) (hcl : cs + mc ≤ R.cells) (hsl : sl + ms ≤ R.slots)
    (k : ∀ (v : Option Value) (w' : HW) (n' : Nat), Q v w' n' → V g l M R FN q ls (v.toList ++ st) w' n' (cs + (n' - n)) (sl + ms)) (hmc : ∀ (v : Option Value) (w' : HW) (n' : Nat), Q v w' n' → n' = n + mc) : V g l M R FN pc ls st0 w n cs sl := by
  subst hq; subst hst
  intro p e s m args below meth c H locs la hC hL hP hS hn
  obtain ⟨hx, hb, hr, hlk, hml, hown, hts, hK, hb0, hin⟩ := id hC
  refine W_sz fun hsz => ?_
  have hH : H.size = g.1 + n := Nat.le_antisymm (by omega) (hP.sz (Nat.le_trans hb0 hS.1))
  have cw : CallW R s args M.1.cls M'.1.cls index M'.1 M'.2.1 M'.2.2.1 M'.2.2.2 (wsM M') (rmd d' mc ms) mc ms as.length := ⟨callB_of as.length hts (good_ws hcode) rfl rfl rfl (hts _ hini) (hts _ hm) hnt hR, hts _ him, hts _ hse⟩
  have hrec : ∃ cellB : Cell, H[sK g i]? = some cellB ∧ cellB.vm.isStatics = false ∧ s.vm.findClass M'.1.cls = some cellB.cls := by
    obtain ⟨cell, h1, h2, h3, h4⟩ := ((hK.2.1.1 i hi).1 0 (by decide)).1
    exact ⟨cell, by rw [hS.2.1 _ (Array.getElem?_eq_some_iff.mp h1).1 h4]; exact h1, h2, by rw [hcls]; exact h3⟩
  have hrun := va_runV (e := e) (below := below) (meth := meth) (locs := locs) (cells := cs) (slots := sl) (As := as) (rest := st) (g := F0 m pc la (as.reverse ++ .ref (sK g i) :: st)) ⟨hx, hb, hml, hown, hts⟩ hCt cw ⟨preB, hrec, fun U hU hW => preU hP hK hS hH hU hW⟩ rfl rfl hL.2.1.1 rfl (lv_room hcat) d ⟨hcl, hsl⟩
  refine W_back hrun hS fun v w' n' H1 locs1 hQ hP1 hS1 hz1 => ?_
  have hn' := hmc v w' n' hQ
  have hgo := k v w' n' hQ p e s m args below meth c H1 locs1 la hC hL hP1 hS1 (by omega)
  rw [show n' - n = mc by omega] at hgo
  exact hgo
theorem V_callS {index d' mc ms : Nat} {M' : MI} {as : List Value} {Q : QQ} (d : decode M.2.1 pc = .ok (.invokestatic index, 3)) (hq : pc + 3 = q) {st0 : List Value} (hst : st0 = as.reverse ++ st) (hCt : Ct g l M' d' as w n Q mc ms) (hm : Jvm.Cond.methodLink M.1.cls index M'.1 ∈ wsL_law) (hcode : Jvm.Cond.code M'.1 M'.2.1 M'.2.2.1 M'.2.2.2 ∈ wsL_law) (hini : Jvm.Cond.initialized M'.1.cls ∈ wsL_law) (hnt : M'.1.cls ≠ "java/lang/invoke/MethodHandle" ∧ M'.1.cls ≠ "java/lang/invoke/VarHandle" ∧ (parseMethodDescriptor M'.1.desc).map (fun d => d.parameters.length) = some as.length) (hR : d' + 1 ≤ R.frames ∧ 8 + (M'.2.2.1 + 11) + 36 * d' ≤ R.locals) (hstat : Jvm.Cond.static M'.1 ∈ wsL_law) (hcat : (st.map fun v => v.category).sum ≤ 8) (hcl : cs + mc ≤ R.cells) (hsl : sl + ms ≤ R.slots)
    (k : ∀ (v : Option Value) (w' : HW) (n' : Nat), Q v w' n' → V g l M R FN q ls (v.toList ++ st) w' n' (cs + (n' - n)) (sl + ms)) (hmc : ∀ (v : Option Value) (w' : HW) (n' : Nat), Q v w' n' → n' = n + mc) : V g l M R FN pc ls st0 w n cs sl := by
  subst hq; subst hst
  intro p e s m args below meth c H locs la hC hL hP hS hn
  obtain ⟨hx, hb, hr, hlk, hml, hown, hts, hK, hb0, hin⟩ := id hC
  refine W_sz fun hsz => ?_
  have hH : H.size = g.1 + n := Nat.le_antisymm (by omega) (hP.sz (Nat.le_trans hb0 hS.1))
  have hrun := va_runS (e := e) (below := below) (meth := meth) (locs := locs) (cells := cs) (slots := sl) (As := as) (rest := st) (g := F0 m pc la (as.reverse ++ st)) ⟨hx, hb, hml, hown, hts⟩ hCt ⟨callB_of as.length hts (good_ws hcode) rfl rfl rfl (hts _ hini) (hts _ hm) hnt hR, hts _ hstat⟩ ⟨preB, fun U hU hW => preU hP hK hS hH hU hW⟩ rfl rfl hL.2.1.1 rfl (lv_room hcat) d ⟨hcl, hsl⟩
  refine W_back hrun hS fun v w' n' H1 locs1 hQ hP1 hS1 hz1 => ?_
  have hn' := hmc v w' n' hQ
  have hgo := k v w' n' hQ p e s m args below meth c H1 locs1 la hC hL hP1 hS1 (by omega)
  rw [show n' - n = mc by omega] at hgo
  exact hgo
theorem V_callI {index d' i mc ms : Nat} {M' : MI} {as : List Value} {Q : QQ} (hret : M'.2.2.2 = none) (d : decode M.2.1 pc = .ok (.invokespecial index, 3)) (hq : pc + 3 = q) {st0 : List Value} (hst : st0 = as.reverse ++ rf g i :: st) (hCt : Ct g l M' d' (rf g i :: as) w n Q mc ms) (hm : Jvm.Cond.methodLink M.1.cls index M'.1 ∈ wsL_law) (hcode : Jvm.Cond.code M'.1 M'.2.1 M'.2.2.1 M'.2.2.2 ∈ wsL_law) (hini : Jvm.Cond.initialized M'.1.cls ∈ wsL_law) (hnt : M'.1.cls ≠ "java/lang/invoke/MethodHandle" ∧ M'.1.cls ≠ "java/lang/invoke/VarHandle" ∧ (parseMethodDescriptor M'.1.desc).map (fun d => d.parameters.length) = some as.length) (hR : d' + 1 ≤ R.frames ∧ 8 + (M'.2.2.1 + 11) + 36 * d' ≤ R.locals) (him : Jvm.Cond.instanceMethod M'.1 ∈ wsL_law) (hnm : M'.1.name = "<init>") (hcat : (st.map fun v => v.category).sum ≤ 8) (hcl : cs + mc ≤ R.cells) (hsl : sl + ms ≤ R.slots)
    (k : ∀ (v : Option Value) (w' : HW) (n' : Nat), Q v w' n' → V g l M R FN q ls (v.toList ++ st) w' n' (cs + (n' - n)) (sl + ms)) (hmc : ∀ (v : Option Value) (w' : HW) (n' : Nat), Q v w' n' → n' = n + mc) : V g l M R FN pc ls st0 w n cs sl := by
  subst hq; subst hst
  intro p e s m args below meth c H locs la hC hL hP hS hn
  obtain ⟨hx, hb, hr, hlk, hml, hown, hts, hK, hb0, hin⟩ := id hC
  refine W_sz fun hsz => ?_
  have hH : H.size = g.1 + n := Nat.le_antisymm (by omega) (hP.sz (Nat.le_trans hb0 hS.1))
  have cb := callB_of as.length (R := R) (rm := rmd d' mc ms) (mc := mc) (ms := ms) (own := M.1.cls) (index := index) hts (good_ws (M' := M') hcode) rfl rfl rfl (hts _ hini) (hts _ hm) hnt hR
  rw [hret] at cb
  have hrun := va_runI (e := e) (below := below) (meth := meth) (locs := locs) (cells := cs) (slots := sl) (As := as) (rest := st) (g := F0 m pc la (as.reverse ++ .ref (g.1 + i) :: st)) ⟨hx, hb, hml, hown, hts⟩ hCt ⟨cb, hnm, hts _ him⟩ ⟨preB, fun U hU hW => preU hP hK hS hH hU hW⟩ rfl rfl hL.2.1.1 rfl (lv_room hcat) d ⟨hcl, hsl⟩
  refine W_back hrun hS fun v w' n' H1 locs1 hQ hP1 hS1 hz1 => ?_
  have hn' := hmc v w' n' hQ
  have hgo := k v w' n' hQ p e s m args below meth c H1 locs1 la hC hL hP1 hS1 (by omega)
  rw [show n' - n = mc by omega] at hgo
  exact hgo
theorem V_objInit {index i : Nat} (d : decode M.2.1 pc = .ok (.invokespecial index, 3)) (hq : pc + 3 = q) (hm : Jvm.Cond.methodLink M.1.cls index objectInit ∈ wsL_law) (him : Jvm.Cond.instanceMethod objectInit ∈ wsL_law) (hcode : Jvm.Cond.code objectInit ⟨#[0xb1]⟩ 1 none ∈ wsL_law) (hf : 1 ≤ R.frames) (hlo : (st.map fun v => v.category).sum + 12 ≤ R.locals) (k : V g l M R FN q ls st w n cs sl) : V g l M R FN pc ls (rf g i :: st) w n cs sl := by
  subst hq
  intro p e s m args below meth c H locs la hC hL hP hS hn
  obtain ⟨hx, hb, hr, hlk, hml, hown, hts, hK, hb0, hin⟩ := id hC
  refine W.objInit hx hb hown (hts _ hm) (hts _ him) (hts _ hcode) rfl (by rw [hml]; exact hL.2.1.1) rfl d hf (by show 2 * 0 + _ + 12 ≤ _; omega) ?_
  exact k p e s m args below meth c H locs la hC hL hP hS hn
theorem V_copy {index i1 i2 N1 N2 : Nat} {f f2 f' : Nat → Int32} {a b z : Int32} (d : decode M.2.1 pc = .ok (.invokestatic index, 3)) (hq : pc + 3 = q) (hm : Jvm.Cond.methodLink M.1.cls index arraycopyName ∈ wsL_law) (hnat : Jvm.Cond.native arraycopyName ∈ wsL_law) (hstat : Jvm.Cond.static arraycopyName ∈ wsL_law) (hini : Jvm.Cond.initialized "java/lang/System" ∈ wsL_law) (he1 : w i1 = eI g N1 f) (hi1 : i1 < n) (he2 : w i2 = eI g N2 f2) (hi2 : i2 < n) (h1 : ¬ a < 0) (h2 : ¬ b < 0) (h3 : ¬ z < 0) (h4 : a.toNatClampNeg + z.toNatClampNeg ≤ N1) (h5 : b.toNatClampNeg + z.toNatClampNeg ≤ N2) (hf : 1 ≤ R.frames) (hlo : (st.map fun v => v.category).sum + (nativeFrameWords "java/lang/System" "arraycopy" 5 + 11) ≤ R.locals) (hf' : va_cpy f f2 a.toNatClampNeg b.toNatClampNeg z.toNatClampNeg = f') (k : V g l M R FN q ls st (va_up w i2 (eI g N2 f')) n cs sl) : V g l M R FN pc ls (.int z :: .int b :: rf g i2 :: .int a :: rf g i1 :: st) w n cs sl := by
  subst hq; subst hf'
  intro p e s m args below meth c H locs la hC hL hP hS hn
  obtain ⟨hx, hb, hr, hlk, hml, hown, hts, hK, hb0, hin⟩ := id hC
  refine va_copyi hx hb (by rw [hml]; exact hL.2.1.1.symm) hown (hts _ hm) (hts _ hnat) (hts _ hstat) (hts _ hini) hK.1 hP wl_D hS i1 i2 0 0 (c0 := g.2.2.1 0) (c1 := g.2.2.1 0) (n0 := N1) (n1 := N2) (f := f) (g := f2) (ty := .int) (by rw [wl_get hi1, he1]) (by rw [wl_get hi2, he2]) rfl rfl rfl h1 h2 h3 h4 h5 (fun i hi => rfl) hf hlo d (fun H1 locs1 hP1 hD1 hS1 => ?_)
  rw [wl_set _ hi2] at hP1
  exact k p e s m args below meth c H1 locs1 la hC hL hP1 hS1 hn
theorem V_mmax {index : Nat} {x y z : Int32} (d : decode M.2.1 pc = .ok (.invokestatic index, 3)) (hq : pc + 3 = q) (hm : Jvm.Cond.methodLink M.1.cls index Lib.Math.max.name ∈ wsL_law) (hstat : Jvm.Cond.static Lib.Math.max.name ∈ wsL_law) (hini : Jvm.Cond.initialized "java/lang/Math" ∈ wsL_law) (hcode : Jvm.Cond.code Lib.Math.max.name Lib.Math.max.code 2 (some .int) ∈ wsL_law) (hf : 1 ≤ R.frames) (hlo : (st.map fun v => v.category).sum + 13 ≤ R.locals) (hc : cs ≤ R.cells) (hs : sl ≤ R.slots) (hz : (if x < y then y else x) = z) (k : V g l M R FN q ls (.int z :: st) w n cs sl) : V g l M R FN pc ls (.int y :: .int x :: st) w n cs sl := by
  subst hq; subst hz
  intro p e s m args below meth c H locs la hC hL hP hS hn
  obtain ⟨hx, hb, hr, hlk, hml, hown, hts, hK, hb0, hin⟩ := id hC
  refine va_mmax hx hb (by rw [hml]; exact hL.2.1.1.symm) hown (hts _ hm) (hts _ hstat) (hts _ hini) (hts _ hcode) hf hlo hc hs d ?_
  exact k p e s m args below meth c H locs la hC hL hP hS hn
theorem V_mmin {index : Nat} {x y z : Int32} (d : decode M.2.1 pc = .ok (.invokestatic index, 3)) (hq : pc + 3 = q) (hm : Jvm.Cond.methodLink M.1.cls index Lib.Math.min.name ∈ wsL_law) (hstat : Jvm.Cond.static Lib.Math.min.name ∈ wsL_law) (hini : Jvm.Cond.initialized "java/lang/Math" ∈ wsL_law) (hcode : Jvm.Cond.code Lib.Math.min.name Lib.Math.min.code 2 (some .int) ∈ wsL_law) (hf : 1 ≤ R.frames) (hlo : (st.map fun v => v.category).sum + 13 ≤ R.locals) (hc : cs ≤ R.cells) (hs : sl ≤ R.slots) (hz : (if y < x then y else x) = z) (k : V g l M R FN q ls (.int z :: st) w n cs sl) : V g l M R FN pc ls (.int y :: .int x :: st) w n cs sl := by
  subst hq; subst hz
  intro p e s m args below meth c H locs la hC hL hP hS hn
  obtain ⟨hx, hb, hr, hlk, hml, hown, hts, hK, hb0, hin⟩ := id hC
  refine va_mmin hx hb (by rw [hml]; exact hL.2.1.1.symm) hown (hts _ hm) (hts _ hstat) (hts _ hini) (hts _ hcode) hf hlo hc hs d ?_
  exact k p e s m args below meth c H locs la hC hL hP hS hn
theorem V_ldcfw {p : Program} {e : Env} {s : State} {m : MethodId} {args : Array Value} {below : List Frame} {meth : Method} {c : Code} {locs : List Loc} {cells slots : Nat} {T : State} (X : Stand p l e R s m args below meth c T locs cells slots) (hexec : p.tables.exec = Jvm.exec) {own : String} {index : Nat} {b : UInt32} (hown : s.vm.findClass own = some m.cls)
    (hconst : (Cond.constantFloat own index b).before args s = true) {gf : JFrame} (hg : gf.method = m) (hdg : decode c.code gf.pc = .ok (.ldc_w index, 3)) :
    ∀ target, Steps p.tables e below (T.setTop { gf with pc := gf.pc + 3, stack := .float b :: gf.stack }) target → Steps p.tables e below (T.setTop gf) target := by
  obtain ⟨k, cf, hk, hcf, hcp⟩ := Cond.constantFloat_spec hown hconst
  obtain ⟨k', hk', he⟩ := X.warmed.alike.2.2 _ _ hk
  intro target hrest
  subst hg
  jvm_step X.here [hexec, hdg, ldc_w.wp_float (s := T) (f := gf) X.here.top hk' (by rw [he]; exact hcf) hcp]
  exact hrest
theorem V_raw {index : Nat} {b : UInt32} (d : decode M.2.1 pc = .ok (.invokestatic index, 3)) (hq : pc + 3 = q) (hm : Jvm.Cond.methodLink M.1.cls index ⟨"java/lang/Float", "floatToRawIntBits", "(F)I"⟩ ∈ wsL_law) (hnat : Jvm.Cond.native ⟨"java/lang/Float", "floatToRawIntBits", "(F)I"⟩ ∈ wsL_law) (hstat : Jvm.Cond.static ⟨"java/lang/Float", "floatToRawIntBits", "(F)I"⟩ ∈ wsL_law) (hini : Jvm.Cond.initialized "java/lang/Float" ∈ wsL_law) (hf : 1 ≤ R.frames) (hlo : (st.map fun v => v.category).sum + 15 ≤ R.locals) (k : V g l M R FN q ls (.int b.toInt32 :: st) w n cs sl) : V g l M R FN pc ls (.float b :: st) w n cs sl := by
  subst hq
  intro p e s m args below meth c H locs la hC hL hP hS hn
  obtain ⟨hx, hb, hr, hlk, hml, hown, hts, hK, hb0, hin⟩ := id hC
  refine vn_f2i hx hb (by rw [hml]; exact hL.2.1.1.symm) hown (hts _ hm) (hts _ hnat) (hts _ hstat) (hts _ hini) hf hlo d ?_
  exact k p e s m args below meth c H locs la hC hL hP hS hn
theorem V_ldcf {index : Nat} {v : UInt32} (d : decode M.2.1 pc = .ok (.ldc_w index, 3)) (hq : pc + 3 = q) (hc : Jvm.Cond.constantFloat M.1.cls index v ∈ wsL_law) (k : V g l M R FN q ls (.float v :: st) w n cs sl) : V g l M R FN pc ls st w n cs sl := by
  subst hq
  intro p e s m args below meth c H locs la hC hL hP hS hn
  obtain ⟨hx, hb, hr, hlk, hml, hown, hts, hK, hb0, hin⟩ := id hC
  intro T hT X
  obtain ⟨t, a, b⟩ := k p e s m args below meth c H locs la hC hL hP hS hn T hT X
  exact ⟨t, V_ldcfw X hx hown (hts _ hc) rfl (by rw [hb]; exact d) t a, b⟩
theorem V_callSN {index d' mc ms : Nat} {M' : MI} {as : List Value} {Q : QQ} (d : decode M.2.1 pc = .ok (.invokestatic index, 3)) (hq : pc + 3 = q) {st0 : List Value} (hst : st0 = as.reverse ++ st) (hCt : Ct g l M' d' as w n Q mc ms) (hm : Jvm.Cond.methodLinkNest M.1.cls index M'.1 "JugglingRows" ∈ nestW) (hcode : Jvm.Cond.code M'.1 M'.2.1 M'.2.2.1 M'.2.2.2 ∈ wsL_law) (hini : Jvm.Cond.initialized M'.1.cls ∈ wsL_law) (hnt : M'.1.cls ≠ "java/lang/invoke/MethodHandle" ∧ M'.1.cls ≠ "java/lang/invoke/VarHandle" ∧ (parseMethodDescriptor M'.1.desc).map (fun d => d.parameters.length) = some as.length) (hR : d' + 1 ≤ R.frames ∧ 8 + (M'.2.2.1 + 11) + 36 * d' ≤ R.locals) (hstat : Jvm.Cond.static M'.1 ∈ wsL_law) (hcat : (st.map fun v => v.category).sum ≤ 8) (hcl : cs + mc ≤ R.cells) (hsl : sl + ms ≤ R.slots)
    (k : ∀ (v : Option Value) (w' : HW) (n' : Nat), Q v w' n' → V g l M R FN q ls (v.toList ++ st) w' n' (cs + (n' - n)) (sl + ms)) (hmc : ∀ (v : Option Value) (w' : HW) (n' : Nat), Q v w' n' → n' = n + mc) : V g l M R FN pc ls st0 w n cs sl := by
  subst hq; subst hst
  intro p e s m args below meth c H locs la hC hL hP hS hn
  obtain ⟨hx, hb, hr, hlk, hml, hown, hts, hK, hb0, hin⟩ := id hC
  refine W_sz fun hsz => ?_
  have hH : H.size = g.1 + n := Nat.le_antisymm (by omega) (hP.sz (Nat.le_trans hb0 hS.1))
  have cb := va_cnB (s := s) (R := R) (rm := rmd d' mc ms) (mc := mc) (ms := ms) (own := M.1.cls) (index := index) (args := args) as.length hts (good_ws (M' := M') hcode) rfl rfl rfl (hK.2.2.2.2.2.2.1 _ hm) (hts _ hini) hnt hR
  have hrun := va_runSN (e := e) (below := below) (meth := meth) (locs := locs) (cells := cs) (slots := sl) (As := as) (rest := st) (g := F0 m pc la (as.reverse ++ st)) ⟨hx, hb, hml, hown, hts⟩ hCt ⟨cb, hts _ hstat, trivial⟩ ⟨preB, fun U hU hW => preU hP hK hS hH hU hW⟩ rfl rfl hL.2.1.1 rfl (lv_room hcat) d ⟨hcl, hsl⟩
  refine W_back hrun hS fun v w' n' H1 locs1 hQ hP1 hS1 hz1 => ?_
  have hn' := hmc v w' n' hQ
  have hgo := k v w' n' hQ p e s m args below meth c H1 locs1 la hC hL hP1 hS1 (by omega)
  rw [show n' - n = mc by omega] at hgo
  exact hgo
theorem V_callIN {index d' i mc ms : Nat} {M' : MI} {as : List Value} {Q : QQ} (hret : M'.2.2.2 = none) (d : decode M.2.1 pc = .ok (.invokespecial index, 3)) (hq : pc + 3 = q) {st0 : List Value} (hst : st0 = as.reverse ++ rf g i :: st) (hCt : Ct g l M' d' (rf g i :: as) w n Q mc ms) (hm : Jvm.Cond.methodLinkNest M.1.cls index M'.1 "JugglingRows" ∈ nestW) (hcode : Jvm.Cond.code M'.1 M'.2.1 M'.2.2.1 M'.2.2.2 ∈ wsL_law) (hini : Jvm.Cond.initialized M'.1.cls ∈ wsL_law) (hnt : M'.1.cls ≠ "java/lang/invoke/MethodHandle" ∧ M'.1.cls ≠ "java/lang/invoke/VarHandle" ∧ (parseMethodDescriptor M'.1.desc).map (fun d => d.parameters.length) = some as.length) (hR : d' + 1 ≤ R.frames ∧ 8 + (M'.2.2.1 + 11) + 36 * d' ≤ R.locals) (him : Jvm.Cond.instanceMethod M'.1 ∈ wsL_law) (hnm : M'.1.name = "<init>") (hcat : (st.map fun v => v.category).sum ≤ 8) (hcl : cs + mc ≤ R.cells) (hsl : sl + ms ≤ R.slots)
    (k : ∀ (v : Option Value) (w' : HW) (n' : Nat), Q v w' n' → V g l M R FN q ls (v.toList ++ st) w' n' (cs + (n' - n)) (sl + ms)) (hmc : ∀ (v : Option Value) (w' : HW) (n' : Nat), Q v w' n' → n' = n + mc) : V g l M R FN pc ls st0 w n cs sl := by
  subst hq; subst hst
  intro p e s m args below meth c H locs la hC hL hP hS hn
  obtain ⟨hx, hb, hr, hlk, hml, hown, hts, hK, hb0, hin⟩ := id hC
  refine W_sz fun hsz => ?_
  have hH : H.size = g.1 + n := Nat.le_antisymm (by omega) (hP.sz (Nat.le_trans hb0 hS.1))
  have cb := va_cnB (s := s) (R := R) (rm := rmd d' mc ms) (mc := mc) (ms := ms) (own := M.1.cls) (index := index) (args := args) as.length hts (good_ws (M' := M') hcode) rfl rfl rfl (hK.2.2.2.2.2.2.1 _ hm) (hts _ hini) hnt hR
  rw [hret] at cb
  have hrun := va_runIN (e := e) (below := below) (meth := meth) (locs := locs) (cells := cs) (slots := sl) (As := as) (rest := st) (g := F0 m pc la (as.reverse ++ .ref (g.1 + i) :: st)) ⟨hx, hb, hml, hown, hts⟩ hCt ⟨cb, hnm, hts _ him⟩ ⟨preB, fun U hU hW => preU hP hK hS hH hU hW⟩ rfl rfl hL.2.1.1 rfl (lv_room hcat) d ⟨hcl, hsl⟩
  refine W_back hrun hS fun v w' n' H1 locs1 hQ hP1 hS1 hz1 => ?_
  have hn' := hmc v w' n' hQ
  have hgo := k v w' n' hQ p e s m args below meth c H1 locs1 la hC hL hP1 hS1 (by omega)
  rw [show n' - n = mc by omega] at hgo
  exact hgo
end RH
