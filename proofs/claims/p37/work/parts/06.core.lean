/-! THE CORE: a walk over a world of numbered cells. The world is a function w : Nat → va_E (what the cell g.1 + i holds) and how many cells it has; V: from here the method comes to its end. -/
/-- the base address, the classes' numbers and slots, the array classes, the constant text's two addresses, the script -/
abbrev GG : Type := Nat × va_G × (Nat → ClassId) × ((Nat → Nat) × (Nat → Nat) × Nat) × (Nat × Nat × (Nat → Int32))
/-- the constant texts' addresses, their bytes' addresses, the static array's address -/
abbrev sK (g : GG) (i : Nat) : Nat := g.2.2.2.1.1 i
abbrev sV (g : GG) (i : Nat) : Nat := g.2.2.2.1.2.1 i
abbrev sX (g : GG) : Nat := g.2.2.2.1.2.2
def lenT : List Nat := [1, 3, 7, 2, 5, 2, 5, 4, 9, 2, 5, 2, 5, 2, 5, 2, 5, 2, 5, 2, 2, 4, 8, 2, 2, 2]
def bytT : List (List Int32) := [[51], [53, 51, 49], [57, 55, 53, 51, 49, 59, 48], [120, 48], [120, 49, 59, 120, 48], [116, 48], [116, 49, 59, 116, 49], [115, 48, 48, 49], [115, 48, 49, 50, 59, 115, 48, 49, 50], [108, 48], [108, 49, 59, 108, 49], [98, 51], [98, 53, 59, 106, 53], [106, 48], [106, 51, 59, 106, 51], [99, 48], [99, 49, 59, 99, 50], [114, 48], [99, 48, 59, 114, 48], [98, 48], [106, 57], [115, 49, 49, 48], [49, 50, 51, 52, 53, 54, 55, 56], [120, 57], [116, 57], [99, 57]]
abbrev MI : Type := MethodName × ByteArray × Nat × Option FieldType
abbrev HW : Type := Nat → va_E
abbrev LO : Type := List (Option Value)
abbrev rf (g : GG) (i : Nat) : Value := .ref (g.1 + i)
abbrev eI (g : GG) (n : Nat) (f : Nat → Int32) : va_E := .inl (g.2.2.1 0, n, .inl f)
abbrev eC (g : GG) (n : Nat) (f : Nat → Int32) : va_E := .inl (g.2.2.1 1, n, .inl f)
abbrev eR (g : GG) (n : Nat) (f : Nat → Option Nat) : va_E := .inl (g.2.2.1 2, n, .inr (.inr (.inr (.inr f))))
abbrev eS (g : GG) (n : Nat) (f : Nat → Option Nat) : va_E := .inl (g.2.2.1 3, n, .inr (.inr (.inr (.inr f))))
abbrev eO (ci : Nat) (fs : List Value) : va_E := .inr (ci, fs)
def tysG (g : GG) : List (ClassId × FieldType) := [(g.2.2.1 0, .int), (g.2.2.1 1, .char), (g.2.2.1 2, .object "JugglingRows$Row"), (g.2.2.1 3, .object "JugglingRows$Stand")]
def vA (g : GG) : Nat → Prop := fun q => g.1 ≤ q
def wl (g : GG) (w : HW) (n : Nat) : va_W := (List.range n).map fun i => (g.1 + i, w i)
def Wd (g : GG) (w : HW) (n : Nat) (H : Heap) : Prop := va_P g.2.1 vwCl (wl g w n) H
/-- the constant texts' facts, the static array of them, the flag of compact texts, the formatter -/
def Sx (g : GG) (U : State) (H : Heap) : Prop := (∀ i, i < 26 → vk_S 1 [lenT.getD i 0] [bytT.getD i []] (fun _ => sK g i) (fun _ => sV g i) (vA g) U H) ∧ va_Z "java/lang/String" "COMPACT_STRINGS" "Z" (.int 1) (vA g) U H ∧ va_Z "JugglingRowsLaw" "TEXTS" "[Ljava/lang/String;" (.ref (sX g)) (vA g) U H ∧ va_T (.object "java/lang/String") (sX g) 26 (fun j => .ref (sK g j)) (vA g) U H ∧ va_Zq "jdk/internal/util/Preconditions" "SIOOBE_FORMATTER" "Ljava/util/function/BiFunction;" (vA g) U H
theorem Sx.kept {g : GG} {U : State} {H H1 : Heap} (h : Sx g U H) (hq : ∀ a : Nat, a < H.size → ¬ vA g a → H1[a]? = H[a]?) : Sx g U H1 := by
  obtain ⟨h1, h2, h3, h4, h5⟩ := h
  exact ⟨fun i hi => (h1 i hi).kept hq, h2.kept hq, h3.kept hq, h4.kept hq, h5.kept hq⟩
theorem Sx.moved {g : GG} {u U : State} {H : Heap} (hvm : u.vm.Alike U.vm) (h : Sx g u H) : Sx g U H := by
  obtain ⟨h1, h2, h3, h4, h5⟩ := h
  exact ⟨fun i hi => (h1 i hi).moved hvm, h2.moved hvm, h3.moved hvm, va_T.moved hvm h4, h5.moved hvm⟩
/-- the links between nest mates -/
def nestW : List Cond := [.methodLinkNest RX5 61 yX7_stateBehind "JugglingRows", .methodLinkNest RX0 46 yX7_stateBehind "JugglingRows", .methodLinkNest RX0 49 yX7_canMake "JugglingRows", .methodLinkNest RX5 17 yX4_init "JugglingRows", .methodLinkNest RX7 31 yX0_init "JugglingRows", .methodLinkNest RX7 38 yX1_init "JugglingRows", .methodLinkNest RX7 45 yX6_init "JugglingRows", .methodLinkNest RX7 52 yX3_init "JugglingRows"]
theorem nestW_is {w : Cond} (h : w ∈ nestW) : ∃ (a : String) (i : Nat) (x : MethodName) (b : String), w = .methodLinkNest a i x b := by
  unfold nestW at h
  simp only [List.mem_cons, List.not_mem_nil, or_false] at h
  rcases h with rfl | rfl | rfl | rfl | rfl | rfl | rfl | rfl <;> exact ⟨_, _, _, _, rfl⟩
/-- arrays of references can be made -/
def AOs (U : State) : Prop := va_AO "JugglingRows$Row" U ∧ va_AO "JugglingRows$Stand" U ∧ True
theorem AOs.moved {u U : State} (hvm : u.vm.Alike U.vm) (h : AOs u) : AOs U := ⟨h.1.moved hvm, h.2.1.moved hvm, trivial⟩
def Nst (U : State) : Prop := (∀ w ∈ nestW, va_Nw w U) ∧ AOs U
theorem Nst.warm {s U : State} (hW : s.WarmedH U.vm) (h : Nst s) : Nst U := ⟨fun w hw => by
  obtain ⟨a, i, x, b, rfl⟩ := nestW_is hw
  exact va_Nw.warmM hW (h.1 _ hw), h.2.moved hW.alike⟩
theorem Nst.same {s U : State} (hv : U.vm = s.vm) (h : Nst s) : Nst U := ⟨fun w hw => by
  obtain ⟨a, i, x, b, rfl⟩ := nestW_is hw
  exact va_Nw.same rfl hv.symm (h.1 _ hw), h.2.moved (by rw [hv]; exact Vm.Alike.refl s.vm)⟩
def Kt (g : GG) (U : State) (H : Heap) : Prop := va_K g.2.1 vwCl (tysG g) U ∧ Sx g U H ∧ True ∧ va_X g.2.2.2.2.1 g.2.2.2.2.2.1 g.2.2.2.2.2.2 U H ∧ g.2.2.2.2.1 < H.size ∧ ¬ vA g g.2.2.2.2.1 ∧ Nst U
theorem Kt.kept {g : GG} {U : State} {H H1 : Heap} (h : Kt g U H) (hz : H.size ≤ H1.size) (hq : ∀ a : Nat, a < H.size → ¬ vA g a → H1[a]? = H[a]?) : Kt g U H1 := by
  obtain ⟨h1, h2, h3, h4, h5, h6, h7⟩ := h
  exact ⟨h1, h2.kept hq, h3, h4.kept (hq _ h5 h6), Nat.lt_of_lt_of_le h5 hz, h6, h7⟩
theorem Kt.warm {g : GG} {s U : State} {H : Heap} (hW : s.WarmedH U.vm) (h : Kt g s H) : Kt g U H := by
  obtain ⟨h1, h2, h3, h4, h5, h6, h7⟩ := h
  exact ⟨va_K.moved hW.alike h1, h2.moved hW.alike, h3, h4.moved hW.alike, h5, h6, h7.warm hW⟩
theorem Kt.vmeq {g : GG} {s U : State} {H : Heap} (hv : U.vm = s.vm) (h : Kt g s H) : Kt g U H := by
  obtain ⟨h1, h2, h3, h4, h5, h6, h7⟩ := h
  have hA : s.vm.Alike U.vm := by rw [hv]; exact Vm.Alike.refl s.vm
  exact ⟨va_K.moved hA h1, h2.moved hA, h3, h4.moved hA, h5, h6, h7.same hv⟩
/-! worlds as lists -/
theorem wl_get {g : GG} {w : HW} {n i : Nat} (h : i < n) : (wl g w n)[i]? = some (g.1 + i, w i) := by
  unfold wl
  rw [List.getElem?_map, List.getElem?_range h]
  rfl
theorem wl_inv {g : GG} {w : HW} {n k : Nat} {q : Nat × va_E} (h : (wl g w n)[k]? = some q) : k < n ∧ q = (g.1 + k, w k) := by
  have hk : k < n := by
    have := (List.getElem?_eq_some_iff.mp h).1
    unfold wl at this
    rwa [List.length_map, List.length_range] at this
  rw [wl_get hk] at h
  exact ⟨hk, (Option.some.inj h).symm⟩
theorem wl_set {g : GG} {w : HW} {n i : Nat} (e : va_E) (h : i < n) : (wl g w n).set i (g.1 + i, e) = wl g (va_up w i e) n := by
  apply List.ext_getElem?
  intro k
  by_cases hk : k < n
  · rw [wl_get hk]
    by_cases hi : k = i
    · subst hi
      rw [List.getElem?_set_self (by unfold wl; rw [List.length_map, List.length_range]; exact hk)]
      simp [va_up]
    · rw [List.getElem?_set_ne (Ne.symm hi), wl_get hk]
      simp [va_up, hi]
  · rw [List.getElem?_eq_none (by rw [List.length_set]; unfold wl; rw [List.length_map, List.length_range]; omega), List.getElem?_eq_none (by unfold wl; rw [List.length_map, List.length_range]; omega)]
theorem wl_push {g : GG} {w : HW} {n : Nat} (e : va_E) : wl g w n ++ [(g.1 + n, e)] = wl g (va_up w n e) (n + 1) := by
  apply List.ext_getElem?
  intro k
  have hl : (wl g w n).length = n := by unfold wl; rw [List.length_map, List.length_range]
  by_cases hk : k < n
  · rw [wl_get (by omega), List.getElem?_append_left (by omega), wl_get hk]
    simp [va_up, Nat.ne_of_lt hk]
  · rw [List.getElem?_append_right (by omega), hl]
    by_cases h : k = n
    · subst h
      rw [wl_get (by omega), Nat.sub_self]
      simp [va_up]
    · rw [List.getElem?_eq_none (by simp; omega), List.getElem?_eq_none (by unfold wl; rw [List.length_map, List.length_range]; omega)]
theorem wl_D {g : GG} {w : HW} {n : Nat} : va_D (vA g) (wl g w n) := by
  refine ⟨fun i j p q hi hj h => ?_, fun k q hk => ?_⟩
  · obtain ⟨-, rfl⟩ := wl_inv hi
    obtain ⟨-, rfl⟩ := wl_inv hj
    simp only at h
    omega
  · obtain ⟨-, rfl⟩ := wl_inv hk
    show g.1 ≤ g.1 + k
    omega
theorem Wd.sz {g : GG} {w : HW} {n : Nat} {H : Heap} (h : Wd g w n H) (hb : g.1 ≤ H.size) : g.1 + n ≤ H.size := by
  cases n with
  | zero => exact hb
  | succ n => exact (h n _ (wl_get (Nat.lt_succ_self n))).lt
theorem up_eq {w : HW} {i : Nat} {e : va_E} : va_up w i e i = e := if_pos rfl
theorem up_ne {w : HW} {i j : Nat} {e : va_E} (h : j ≠ i) : va_up w i e j = w j := if_neg h
/-! locals -/
def lvp (ls : LO) : List (Nat × Value) := (List.range ls.length).filterMap fun i => (ls[i]?.join).map fun v => (i, v)
theorem lvp_mem {ls : LO} {i : Nat} {v : Value} : (i, v) ∈ lvp ls ↔ ls[i]? = some (some v) := by
  unfold lvp
  rw [List.mem_filterMap]
  constructor
  · rintro ⟨j, -, hj⟩
    obtain ⟨u, hu, he⟩ := Option.map_eq_some_iff.mp hj
    cases he
    cases hh : ls[i]? with
    | none => rw [hh] at hu; cases hu
    | some o =>
      rw [hh] at hu
      exact congrArg some hu
  · intro h
    exact ⟨i, List.mem_range.mpr (List.getElem?_eq_some_iff.mp h).1, by rw [h]; rfl⟩
def Lv (la : Array Slot) (nL : Nat) (ls : LO) : Prop := ls.length = nL ∧ lv_has la nL (lvp ls) ∧ True
theorem Lv.at' {la : Array Slot} {nL i : Nat} {ls : LO} {v : Value} (h : Lv la nL ls) (hi : ls[i]? = some (some v)) : la[i]? = some (.val v) := h.2.1.2.2 (i, v) (lvp_mem.mpr hi)
/-- no long ends at this place -/
def lok (ls : LO) (i : Nat) : Bool := match i with
  | 0 => true
  | j + 1 => match ls[j]? with
    | some (some (.long _)) => false
    | some (some (.double _)) => false
    | _ => true
theorem lok_cat {ls : LO} {i j : Nat} {u : Value} (h : lok ls i = true) (hj : ls[j]? = some (some u)) (hc : u.category = 2) : ¬ j + 1 = i := by
  intro e
  subst e
  unfold lok at h
  cases u <;> first | (simp [hj] at h; done) | (simp [Value.category] at hc; done)
theorem Lv.put {la' : Array Slot} {nL i : Nat} {ls ls' : LO} {v : Value} {la : Array Slot} (h : Lv la nL ls) (hn : i < nL) (hok : lok ls i = true) (he : ls.set i (some v) = ls') (h2 : lv_has la' nL ((i, v) :: (lvp ls).filter (fun q => !(q.1 == i) && !(q.1 + 1 == i && q.2.category == 2)))) : Lv la' nL ls' := by
  subst he
  refine ⟨by rw [List.length_set]; exact h.1, ⟨h2.1, h2.2.1, fun q hq => ?_⟩, trivial⟩
  obtain ⟨j, u⟩ := q
  have hj := lvp_mem.mp hq
  by_cases hji : j = i
  · subst hji
    rw [List.getElem?_set_self (by rw [h.1]; exact hn)] at hj
    cases hj
    exact h2.2.2 _ List.mem_cons_self
  · rw [List.getElem?_set_ne (Ne.symm hji)] at hj
    refine h2.2.2 (j, u) (List.mem_cons_of_mem _ (List.mem_filter.mpr ⟨lvp_mem.mpr hj, ?_⟩))
    have hcu := fun hc => lok_cat hok hj hc
    by_cases e : j + 1 = i
    · have hc : ¬ u.category = 2 := fun hc => hcu hc e
      simp [hji, hc]
    · simp [hji, e]
theorem Lv.put2 {la' : Array Slot} {nL i : Nat} {ls ls' : LO} {v : Value} {la : Array Slot} (h : Lv la nL ls) (hn : i + 1 < nL) (hok : lok ls i = true) (he : (ls.set i (some v)).set (i + 1) none = ls') (h2 : lv_has la' nL ((i, v) :: (lvp ls).filter (fun q => !(q.1 == i) && (!(q.1 == i + 1) && !(q.1 + 1 == i && q.2.category == 2))))) : Lv la' nL ls' := by
  subst he
  refine ⟨by rw [List.length_set, List.length_set]; exact h.1, ⟨h2.1, h2.2.1, fun q hq => ?_⟩, trivial⟩
  obtain ⟨j, u⟩ := q
  have hj := lvp_mem.mp hq
  by_cases hj1 : j = i + 1
  · subst hj1
    rw [List.getElem?_set_self (by rw [List.length_set, h.1]; exact hn)] at hj
    cases hj
  rw [List.getElem?_set_ne (Ne.symm hj1)] at hj
  by_cases hji : j = i
  · subst hji
    rw [List.getElem?_set_self (by rw [h.1]; omega)] at hj
    cases hj
    exact h2.2.2 _ List.mem_cons_self
  · rw [List.getElem?_set_ne (Ne.symm hji)] at hj
    refine h2.2.2 (j, u) (List.mem_cons_of_mem _ (List.mem_filter.mpr ⟨lvp_mem.mpr hj, ?_⟩))
    have hcu := fun hc => lok_cat hok hj hc
    by_cases e : j + 1 = i
    · have hc : ¬ u.category = 2 := fun hc => hcu hc e
      simp [hji, hj1, hc]
    · simp [hji, hj1, e]
theorem Lv.weak {la : Array Slot} {nL : Nat} {ls ls' : LO} (h : Lv la nL ls) (hl : ls'.length = ls.length) (hs : ∀ (i : Nat) (v : Value), ls'[i]? = some (some v) → ls[i]? = some (some v)) : Lv la nL ls' :=
  ⟨hl.trans h.1, ⟨h.2.1.1, h.2.1.2.1, fun q hq => h.2.1.2.2 q (by obtain ⟨j, u⟩ := q; exact lvp_mem.mpr (hs j u (lvp_mem.mp hq)))⟩, trivial⟩
/-! contracts and walks -/
def rmd (d mc ms : Nat) : Room := { frames := d, cells := mc, slots := ms, locals := 36 * d }
abbrev QQ : Type := Option Value → HW → Nat → Prop
abbrev FinT : Type := List Frame → Array Value → State → State → Prop
def QcM (g : GG) (Q : QQ) : Array Value → State → Outcome → State → Prop := fun _ st o t => (∃ (v : Option Value) (w' : HW) (n' : Nat), o = .returned v ∧ Q v w' n' ∧ Wd g w' n' t.heap) ∧ va_F (vA g) st t
def FinM (g : GG) (Q : QQ) (mc ms : Nat) : FinT := fun below args s => MQ below (QcM g Q) args s mc ms (vA g)
def wsM (M : MI) : List Cond := .code M.1 M.2.1 M.2.2.1 M.2.2.2 :: wsL_law
/-- the contract: from the world w of n cells, with these arguments, the method ends, and Q holds of its answer and the world behind it -/
def Ct (g : GG) (l : Launch) (M : MI) (d : Nat) (av : List Value) (w : HW) (n : Nat) (Q : QQ) (mc ms : Nat) : Prop :=
  Met l M.1 (wsM M) (rmd d mc ms) (va_Pc av (fun U => Wd g w n U.heap ∧ Kt g U U.heap ∧ U.heap.size = g.1 + n)) (QcM g Q) mc ms (vA g)
def Cx (g : GG) (M : MI) (p : Program) (s : State) (m : MethodId) (args : Array Value) (meth : Method) (c : Code) : Prop :=
  p.tables.exec = Jvm.exec ∧ c.code = M.2.1 ∧ meth.sig.returnType = M.2.2.2 ∧ meth.locks = false ∧ c.maxLocals = M.2.2.1 ∧ s.vm.findClass M.1.cls = some m.cls ∧ (∀ w ∈ wsL_law, w.before args s = true) ∧ Kt g s s.heap ∧ g.1 ≤ s.heap.size ∧ (M.1.name = "<init>" → meth.name = "<init>")
def V (g : GG) (l : Launch) (M : MI) (R : Room) (Fin : FinT) (pc : Nat) (ls : LO) (st : List Value) (w : HW) (n : Nat) (cs sl : Nat) : Prop :=
  ∀ (p : Program) (e : Env) (s : State) (m : MethodId) (args : Array Value) (below : List Frame) (meth : Method) (c : Code) (H : Heap) (locs : List Loc) (la : Array Slot),
    Cx g M p s m args meth c → Lv la M.2.2.1 ls → Wd g w n H → va_S (vA g) s.heap H locs → g.1 + n = s.heap.size + cs →
    W p l e R s m args below meth c H locs cs sl (Fin below args s) (F0 m pc la st)
/-- the heap is no larger than its count says -/
theorem W_sz {p : Program} {l : Launch} {e : Env} {R : Room} {s : State} {m : MethodId} {args : Array Value} {below : List Frame} {meth : Method} {c : Code} {H : Heap} {locs : List Loc} {cells slots : Nat} {Q : State → Prop} {g : JFrame}
    (k : H.size ≤ s.heap.size + cells → W p l e R s m args below meth c H locs cells slots Q g) : W p l e R s m args below meth c H locs cells slots Q g := by
  intro T hT X
  have h1 := X.same.2.2.1
  have h2 : (T.setVm s.vm).heap.size = H.size := by rw [← hT]; rfl
  exact k (by rw [← h2]; exact h1) T hT X
theorem ws_good : wsL_law.all goodWord = true := by decide +kernel
theorem Ct.of {g : GG} {l : Launch} {M : MI} {d : Nat} {av : List Value} {w : HW} {n : Nat} {Q : QQ} {mc ms : Nat} (hy : plainName M.1.cls = true) (hav : (lg_sl av).length ≤ M.2.2.1) (hcat : ∀ v ∈ av, v.category = 1) {ls : LO} (hls : ls.length = M.2.2.1) (hl : ∀ (i : Nat) (v : Value), ls[i]? = some (some v) → av[i]? = some v)
    (k : V g l M (rmd d mc ms) (FinM g Q mc ms) 0 ls [] w n 0 0) : Ct g l M d av w n Q mc ms := by
  refine Met.ofW (cc := M.2.1) (maxL := M.2.2.1) (ret := M.2.2.2) hy rfl ?_
  intro p e s m args below meth c s₁ B hml hv
  obtain ⟨rfl, hP, hK, hz⟩ := hv
  have hts := atoms_spec (ws := wsM M) B.pre
  have hl0 := lv_entry av (n := M.2.2.1) hav
  rw [lg_entry_eq]
  refine k p e s m _ below meth c s.heap [] _ ⟨B.exec, B.bytes, B.returns, B.notSynchronized, hml, findClass_of_methodNamed B.named, fun w hw => hts w (List.mem_cons_of_mem _ hw), hK, by omega, fun hn => by rw [← hn]; exact (name_of_methodNamed B.named B.method).1⟩ ?_ hP va_S.rf (by omega)
  refine ⟨hls, ⟨hl0.1, hl0.2.1, fun q hq => ?_⟩, trivial⟩
  obtain ⟨i, v⟩ := q
  have hi := hl i v (lvp_mem.mp hq)
  refine hl0.2.2 (i, v) ?_
  have key : ∀ (vs : List Value) (j i : Nat) (v : Value), (∀ v ∈ vs, v.category = 1) → vs[i]? = some v → (j + i, v) ∈ lv_args j vs := by
    intro vs
    induction vs with
    | nil => intro j i v _ h; simp at h
    | cons u vs ih =>
      intro j i v hc h
      have hu := hc u List.mem_cons_self
      unfold lv_args
      rw [if_neg (by rw [hu]; decide)]
      cases i with
      | zero =>
        simp at h
        rw [h]
        exact List.mem_cons_self
      | succ i =>
        have := ih (j + 1) i v (fun v hv => hc v (List.mem_cons_of_mem _ hv)) (by simpa using h)
        rw [show j + (i + 1) = j + 1 + i by omega]
        exact List.mem_cons_of_mem _ this
  have := key av 0 i v hcat hi
  rwa [Nat.zero_add] at this
