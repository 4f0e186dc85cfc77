/-! what holds at the start -/
theorem arr_prim {s : State} {A : Array Value} {ty : FieldType} (h : (Cond.arrayClass ty).before A s = true) : ∃ cA, ArrOfT s cA ty ∧ s.vm.findClass ("[" ++ ty.toString) = some cA := by
  obtain ⟨c, k, comp, h1, h2, h3⟩ := Cond.arrayClass_spec h
  exact ⟨c, fun N z => ⟨(fun q hq => by cases hq), k, h2, comp, h3⟩, h1⟩
theorem arr_obj {s : State} {A : Array Value} {C : String} (h : (Cond.arrayOver (.object C)).before A s = true) : ∃ cA, ArrOfT s cA (.object C) ∧ va_RA s cA (.object C) := by
  obtain ⟨comp, c, k, h1, h2, h3, h4, h5⟩ := Cond.arrayOver_spec h
  exact ⟨c, fun N z => ⟨(fun q hq => by cases hq), k, h3, comp, h4⟩, k, comp, h3, h4, h1, h5⟩
theorem nest_tbl : ∀ w ∈ nestW, w ∈ lw_tbl := by decide +kernel
theorem nest_on : ∀ w ∈ nestW, w.onTables = true := by decide +kernel
theorem cd_t : (Cond.laysStatic "java/lang/String" "COMPACT_STRINGS" "Z") ∈ lw_tbl ∧ (Cond.initialized "java/lang/String") ∈ lw_tbl ∧ (Cond.laysStatic "JugglingRowsLaw" "TEXTS" "[Ljava/lang/String;") ∈ lw_tbl ∧ (Cond.initialized "JugglingRowsLaw") ∈ lw_tbl ∧ (Cond.laysStatic "jdk/internal/util/Preconditions" "SIOOBE_FORMATTER" "Ljava/util/function/BiFunction;") ∈ lw_tbl ∧ (Cond.initialized "jdk/internal/util/Preconditions") ∈ lw_tbl ∧ (Cond.arrayClass .int) ∈ lw_tbl ∧ (Cond.arrayClass .char) ∈ lw_tbl ∧ (Cond.arrayOver (.object "JugglingRows$Row")) ∈ lw_tbl ∧ (Cond.arrayOver (.object "JugglingRows$Stand")) ∈ lw_tbl := by decide +kernel
theorem cd_i : (Cond.instantiable RX0 4) ∈ lw_tbl ∧ (Cond.instantiable RX1 2) ∈ lw_tbl ∧ (Cond.instantiable RX2 3) ∈ lw_tbl ∧ (Cond.instantiable RX3 4) ∈ lw_tbl ∧ (Cond.instantiable RX4 2) ∈ lw_tbl ∧ (Cond.instantiable RX5 9) ∈ lw_tbl ∧ (Cond.instantiable RX6 2) ∈ lw_tbl ∧ (Cond.instantiable RX7 10) ∈ lw_tbl := by decide +kernel
theorem Kt_start {p : Program} {s : State} {m : MethodId} {meth : Method} {c : Code} {b L : Nat} {xs : Nat → Int32} (C0 : lw_At p s m meth c b L xs) : ∃ g : GG, g.1 = s.heap.size ∧ g.2.2.2.2.1 = b ∧ g.2.2.2.2.2.1 = L ∧ Kt g s s.heap := by
  obtain ⟨hx, hb, hr, hml, hown, hts, hX, hbl, hlocks, hgv⟩ := id C0
  have hs : ∀ c ∈ flW, c.before #[Value.ref b] s = true := flat_of_before _ hgv
  have hA : ∀ a : Nat, a < s.heap.size → ¬ (fun q : Nat => s.heap.size ≤ q) a := fun a ha h => absurd ha (Nat.not_lt.mpr h)
  obtain ⟨j0, j1, j2, j3, j4, j5, j6, j7⟩ := cd_i
  obtain ⟨x0, x1, x2, x3⟩ := cd_x
  obtain ⟨t0, t1, t2, t3, t4, t5, t6, t7, t8, t9⟩ := cd_t
  obtain ⟨c0, i0, k0⟩ := u_known (C := RX0) (T := TX0) (N := 4) (n := 4) hts inX0 (hts _ j0)
  obtain ⟨c1, i1, k1⟩ := u_known (C := RX1) (T := TX1) (N := 2) (n := 2) hts inX1 (hts _ j1)
  obtain ⟨c2, i2, k2⟩ := u_known (C := RX2) (T := TX2) (N := 3) (n := 3) hts inX2 (hts _ j2)
  obtain ⟨c3, i3, k3⟩ := u_known (C := RX3) (T := TX3) (N := 4) (n := 4) hts inX3 (hts _ j3)
  obtain ⟨c4, i4, k4⟩ := u_known (C := RX4) (T := TX4) (N := 2) (n := 2) hts inX4 (hts _ j4)
  obtain ⟨c5, i5, k5⟩ := u_known (C := RX5) (T := TX5) (N := 9) (n := 9) hts inX5 (hts _ j5)
  obtain ⟨c6, i6, k6⟩ := u_known (C := RX6) (T := TX6) (N := 2) (n := 2) hts inX6 (hts _ j6)
  obtain ⟨c7, i7, k7⟩ := u_known (C := RX7) (T := TX7) (N := 10) (n := 10) hts inX7 (hts _ j7)
  obtain ⟨a0, r0, f0⟩ := arr_prim (hts _ t6)
  obtain ⟨a1, r1, f1⟩ := arr_prim (hts _ t7)
  have o2 := hts _ t8
  have o3 := hts _ t9
  obtain ⟨a2, r2, f2⟩ := arr_obj o2
  obtain ⟨a3, r3, f3⟩ := arr_obj o3
  have hst : ∀ k : Nat, ∃ q : Nat × Nat, k < 26 → vk_S 1 [lenT.getD k 0] [bytT.getD k []] (fun _ => q.1) (fun _ => q.2) (fun q => s.heap.size ≤ q) s s.heap ∧ (tmS k).eval #[Value.ref b] s none [] s = some (.ref q.1) := by
    intro k
    by_cases hk : k < 26
    · obtain ⟨d1, d2⟩ := cd_in k hk
      have hl := (tx_ok k hk).1
      obtain ⟨adK, adV, hSof, hev⟩ := vk_Sof (args := #[Value.ref b]) (s := s) (N := 1) (tm := fun _ => tmS k) (len := [lenT.getD k 0]) (byt := [bytT.getD k []]) (A := fun q => s.heap.size ≤ q)
        (fun i hi => by obtain rfl : i = 0 := by omega
                        show lenT.getD k 0 < 2 ^ 31
                        omega)
        (fun i hi => hs _ (d1 _ (List.mem_of_getElem? (i := 0) rfl)))
        (fun i hi => hs _ (d1 _ (List.mem_of_getElem? (i := 1) rfl)))
        (fun i hi => hs _ (d1 _ (List.mem_of_getElem? (i := 2) rfl)))
        (fun i hi => by
          obtain rfl : i = 0 := by omega
          exact hs _ (d1 _ (List.mem_of_getElem? (i := 3) rfl)))
        (fun i hi j hj => by
          obtain rfl : i = 0 := by omega
          exact hs _ (d2 j hj))
        (fun i j hi hj hij => absurd (show i = j by omega) hij) hA
      refine ⟨(adK 0, adV 0), fun _ => ⟨⟨fun i hi => ?_, fun i j hi hj _ => by omega⟩, hev 0 (by decide)⟩⟩
      obtain rfl : i = 0 := by omega
      exact hSof.1 0 hi
    · exact ⟨(0, 0), fun h => absurd h hk⟩
  obtain ⟨ad, had⟩ := Classical.axiomOfChoice hst
  obtain ⟨tx, etx, htx⟩ := va_Tof (args := #[Value.ref b]) (s := s) (tm := tmX) (ty := .object "java/lang/String") (N := 26) (f := fun j => .ref (ad j).1) (A := fun q => s.heap.size ≤ q) (by decide) (hs _ x0) (va_eqt (hs _ x1)) (fun j hj => va_eqv (hs _ ((cd_in j hj).1 _ (List.mem_of_getElem? (i := 4) rfl))) (had j hj).2) hA
  have hZ := va_Zof (A := fun q => s.heap.size ≤ q) (hts _ t0) (hts _ t1) (va_eqt (hs _ x3)) hA
  have hT := va_Zref (A := fun q => s.heap.size ≤ q) (hts _ t2) (hts _ t3) etx hA
  have hF := va_Zqof (A := fun q => s.heap.size ≤ q) (hts _ t4) (hts _ t5) (hs _ x2) hA
  refine ⟨(s.heap.size, (fun k => ([c0, c1, c2, c3, c4, c5, c6, c7] : List ClassId).getD k c0, fun k => if k = 0 then i0 else if k = 1 then i1 else if k = 2 then i2 else if k = 3 then i3 else if k = 4 then i4 else if k = 5 then i5 else if k = 6 then i6 else i7), fun k => ([a0, a1, a2, a3] : List ClassId).getD k a0, (fun k => (ad k).1, fun k => (ad k).2, tx), (b, L, xs)), rfl, rfl, rfl, ⟨fun k q hq => ?_, fun k q hq => ?_⟩, ⟨fun i hi => (had i hi).1, hZ, hT, htx, hF⟩, trivial, hX, hbl, hA b hbl, ⟨fun w hw => va_Nw.of (nest_on w hw) (hts w (nest_tbl w hw)), va_AO.of o2, va_AO.of o3, trivial⟩⟩
  · match k, hq with
    | 0, hq => cases hq; exact k0
    | 1, hq => cases hq; exact k1
    | 2, hq => cases hq; exact k2
    | 3, hq => cases hq; exact k3
    | 4, hq => cases hq; exact k4
    | 5, hq => cases hq; exact k5
    | 6, hq => cases hq; exact k6
    | 7, hq => cases hq; exact k7
    | k + 8, hq => simp [vwCl] at hq
  · match k, hq with
    | 0, hq => cases hq; exact ⟨r0, f0⟩
    | 1, hq => cases hq; exact ⟨r1, f1⟩
    | 2, hq => cases hq; exact ⟨r2, f2⟩
    | 3, hq => cases hq; exact ⟨r3, f3⟩
    | k + 4, hq => simp [tysG] at hq
theorem whole_start {p : Program} {e : Env} {s : State} {m : MethodId} {below : List Frame} {meth : Method} {c : Code} (l : Launch) (hflags : l.flags = flags0) {b L : Nat} {xs : Nat → Int32} (hL : L ≤ 260) (C0 : lw_At p s m meth c b L xs) : W p l e room_1 s m #[Value.ref b] below meth c s.heap [] 0 0 (lw_Z below #[Value.ref b] s) (entryFrame m ([Value.ref b] : List Value).toArray 9) := by
  obtain ⟨g, g1, g2, g3, hK⟩ := Kt_start C0
  obtain ⟨hx, hb, hr, hml, hown, hts, hX, hbl, hlocks, hgv⟩ := id C0
  have hl := lv_entry ([.ref b]) (n := 9) (Nat.le_of_ble_eq_true rfl)
  rw [lg_entry_eq]
  generalize (lg_sl ([.ref b]) ++ List.replicate (9 - (lg_sl ([.ref b])).length) Slot.unset).toArray = la at hl ⊢
  have hl : lv_has la 9 [(0, .ref b)] := hl
  have hV := law_main (g := g) (l := l) (bq := b) (w := fun _ => .inr (0, [])) g3 hL
  rw [g2] at hV
  have hLv : Lv la 9 [some (.ref b), none, none, none, none, none, none, none, none] := ⟨rfl, hl, trivial⟩
  have hW := hV p e s m #[Value.ref b] below meth c s.heap [] la ⟨hx, hb, hr, hlocks, hml, hown, fun w hw => hts w (wsL_law_in w hw), hK, by rw [g1]; exact Nat.le_refl _, fun hn => absurd hn (by decide)⟩ hLv (fun k q hq => by simp [wl] at hq) va_S.rf (by rw [g1])
  intro T hT X
  obtain ⟨t, a1, a2⟩ := hW T hT X
  exact ⟨t, a1, a2 rfl⟩
