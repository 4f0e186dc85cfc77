/-! methods of a class of which some methods are the machine's own (java/lang/Float) -/
theorem Met_ofWF {l : Launch} {y : MethodName} {ws ws' : List Cond} {rm : Room} {Pc : Array Value → State → Prop} {Qc : Array Value → State → Outcome → State → Prop} {mc ms : Nat} {free : Addr → Prop} {cc : ByteArray} {maxL : Nat} {rt : Option FieldType} (hy : plainFor y = true) (hw : ws = Cond.code y cc maxL rt :: ws')
    (body : ∀ p e s m args below meth c s₁, BodyLoose p l y (headSpec ws rm) cc maxL rt e s m args below meth c s₁ → c.maxLocals = maxL → Pc args s → W p l e (headSpec ws rm).room s m args below meth c s.heap [] 0 0 (MQ below Qc args s mc ms free) (entryFrame m args maxL)) : Met l y ws rm Pc Qc mc ms free := by
  refine MetFree.of_bodySF (code := cc) (maxLocals := maxL) (ret := rt) hy (fun args s m h hn => ?_) (fun p e s m args below meth c s₁ B hml hP _ => ?_)
  · obtain ⟨meth, c, q⟩ := Cond.code_spec hn (atoms_spec (ws := ws) h _ (by rw [hw]; exact List.mem_cons_self))
    exact ⟨meth, c, q.1, q.2.1, q.2.2.1, q.2.2.2.1, q.2.2.2.2.1, q.2.2.2.2.2.1⟩
  · have hh0 : s₁.heap = s.heap := by rw [B.state]; rfl
    obtain ⟨t, a1, o, b1, b2, b3⟩ := body p e s m args below meth c s₁ B hml hP s₁ hh0 (Stand.of_body B)
    exact ⟨t, o, a1, b1, b2, ⟨b3.1, b3.2⟩⟩
theorem Ct.ofF {g : GG} {l : Launch} {M : MI} {d : Nat} {av : List Value} {w : HW} {n : Nat} {Q : QQ} {mc ms : Nat} (hy : plainFor M.1 = true) (hav : (lg_sl av).length ≤ M.2.2.1) (hcat : ∀ v ∈ av, v.category = 1) {ls : LO} (hls : ls.length = M.2.2.1) (hl : ∀ (i : Nat) (v : Value), ls[i]? = some (some v) → av[i]? = some v)
    (k : V g l M (rmd d mc ms) (FinM g Q mc ms) 0 ls [] w n 0 0) : Ct g l M d av w n Q mc ms := by
  refine Met_ofWF (cc := M.2.1) (maxL := M.2.2.1) (rt := M.2.2.2) hy rfl ?_
  intro p e s m args below meth c s₁ B hml hv
  obtain ⟨rfl, hP, hK, hz⟩ := hv
  have hts := atoms_spec (ws := wsM M) B.pre
  have hl0 := lv_entry av (n := M.2.2.1) hav
  rw [lg_entry_eq]
  refine k p e s m _ below meth c s.heap [] _ ⟨B.exec, B.bytes, B.returns, B.notSynchronized, hml, findClass_of_methodNamed B.named, fun w hw => hts w (List.mem_cons_of_mem _ hw), hK, by omega, fun hn => by rw [← hn]; exact (name_of_methodNamed B.named B.method).1⟩ ?_ hP va_S.rf (by omega)
  refine ⟨hls, ⟨hl0.1, hl0.2.1, fun q hq => ?_⟩, trivial⟩
  obtain ⟨i, v⟩ := q
  have hi := hl i v (lvp_mem.mp hq)
  refine hl0.2.2 (i, v) ?_
  have key : ∀ (vs : List Value) (j i : Nat) (v : Value), (∀ v ∈ vs, v.category = 1) → vs[i]? = some v → (j + i, v) ∈ lv_args j vs := by
    intro vs
    induction vs with
    | nil => intro j i v _ h; simp at h
    | cons u vs ih =>
      intro j i v hc h
      have hu := hc u List.mem_cons_self
      unfold lv_args
      rw [if_neg (by rw [hu]; decide)]
      cases i with
      | zero =>
        simp at h
        rw [h]
        exact List.mem_cons_self
      | succ i =>
        have := ih (j + 1) i v (fun v hv => hc v (List.mem_cons_of_mem _ hv)) (by simpa using h)
        rw [show j + (i + 1) = j + 1 + i by omega]
        exact List.mem_cons_of_mem _ this
  have := key av 0 i v hcat hi
  rwa [Nat.zero_add] at this
section CTF
variable {g : GG} {l : Launch} {M : MI} {w : HW} {n : Nat} {ls : LO}
theorem Ct.ofsF {d : Nat} {av : List Value} {Q : QQ} {mc ms : Nat} (hy : plainFor M.1 = true) (hav : (lg_sl av).length ≤ M.2.2.1) (hcat : av.all (fun v => v.category == 1) = true) (hls : av.map some ++ List.replicate (M.2.2.1 - av.length) none = ls) (hlen : ls.length = M.2.2.1)
    (k : V g l M (rmd d mc ms) (FinM g Q mc ms) 0 ls [] w n 0 0) : Ct g l M d av w n Q mc ms := by
  refine Ct.ofF hy hav (fun v hv => ?_) hlen (fun i v h => ?_) k
  · have := List.all_eq_true.mp hcat v hv
    simpa using this
  · rw [← hls] at h
    by_cases hi : i < av.length
    · rw [List.getElem?_append_left (by rw [List.length_map]; exact hi), List.getElem?_map] at h
      cases hh : av[i]? with
      | none => rw [hh] at h; cases h
      | some u => rw [hh] at h; cases h; rfl
    · rw [List.getElem?_append_right (by rw [List.length_map]; omega)] at h
      have := List.eq_of_mem_replicate (List.mem_of_getElem? h)
      cases this
end CTF
