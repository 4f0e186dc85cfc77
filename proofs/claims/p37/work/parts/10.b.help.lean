/-! help for the walks: entries, counters, comparisons of small numbers -/
section HP
variable {g : GG} {l : Launch} {M : MI} {R : Room} {FN : FinT} {pc q : Nat} {ls ls' : LO} {st : List Value} {w : HW} {n cs sl : Nat}
theorem Ct.ofs {d : Nat} {av : List Value} {Q : QQ} {mc ms : Nat} (hy : plainName M.1.cls = true) (hav : (lg_sl av).length ≤ M.2.2.1) (hcat : av.all (fun v => v.category == 1) = true) (hls : av.map some ++ List.replicate (M.2.2.1 - av.length) none = ls) (hlen : ls.length = M.2.2.1)
    (k : V g l M (rmd d mc ms) (FinM g Q mc ms) 0 ls [] w n 0 0) : Ct g l M d av w n Q mc ms := by
  refine Ct.of hy hav (fun v hv => ?_) hlen (fun i v h => ?_) k
  · have := List.all_eq_true.mp hcat v hv
    simpa using this
  · rw [← hls] at h
    by_cases hi : i < av.length
    · rw [List.getElem?_append_left (by rw [List.length_map]; exact hi), List.getElem?_map] at h
      cases hh : av[i]? with
      | none => rw [hh] at h; cases h
      | some u => rw [hh] at h; cases h; rfl
    · rw [List.getElem?_append_right (by rw [List.length_map]; omega)] at h
      have := List.eq_of_mem_replicate (List.mem_of_getElem? h)
      cases this
theorem Ct.mono {d : Nat} {av : List Value} {Q Q' : QQ} {mc ms : Nat} (h : ∀ v w' n', Q v w' n' → Q' v w' n') (hc : Ct g l M d av w n Q mc ms) : Ct g l M d av w n Q' mc ms := by
  intro p e a1 a2 a3 s m args below b1 b2 b3 b4
  obtain ⟨k, o, c1, c2, c3, ⟨⟨⟨v, w', n', d1, d2, d3⟩, d4⟩, L, d5⟩⟩ := hc p e a1 a2 a3 s m args below b1 b2 b3 b4
  exact ⟨k, o, c1, c2, c3, ⟨⟨⟨v, w', n', d1, h _ _ _ d2, d3⟩, d4⟩, L, d5⟩⟩
abbrev qR (v : Value) (w : HW) (n : Nat) : QQ := fun v' w' n' => n' = n ∧ v' = some v ∧ w' = w
abbrev qV (PP : HW → Prop) (n : Nat) : QQ := fun v' w' n' => n' = n ∧ v' = none ∧ PP w'
abbrev qI (PP : Int32 → HW → Prop) (n : Nat) : QQ := fun v' w' n' => n' = n ∧ ∃ x : Int32, v' = some (.int x) ∧ PP x w'
abbrev CtR (g : GG) (l : Launch) (M : MI) (d : Nat) (av : List Value) (w : HW) (n : Nat) (v : Value) : Prop := Ct g l M d av w n (qR v w n) 0 0
abbrev CtV (g : GG) (l : Launch) (M : MI) (d : Nat) (av : List Value) (w : HW) (n : Nat) (PP : HW → Prop) : Prop := Ct g l M d av w n (qV PP n) 0 0
abbrev CtI (g : GG) (l : Launch) (M : MI) (d : Nat) (av : List Value) (w : HW) (n : Nat) (PP : Int32 → HW → Prop) : Prop := Ct g l M d av w n (qI PP n) 0 0
theorem loopU (P : Nat → Prop) (e : Nat) (hx : P e) (hs : ∀ i, i < e → P (i + 1) → P i) : ∀ i, i ≤ e → P i := by
  have key : ∀ k i, i ≤ e → e - i = k → P i := by
    intro k
    induction k with
    | zero => intro i h1 h2; have e2 : i = e := by omega
              rw [e2]; exact hx
    | succ k ih => intro i h1 h2; exact hs i (by omega) (ih (i + 1) (by omega) (by omega))
  exact fun i h => key _ i h rfl
theorem up_up {w : HW} {i : Nat} {e e2 : va_E} : va_up (va_up w i e) i e2 = va_up w i e2 := bx_uu w i e e2
theorem shl_s : ∀ k, k < 31 → ((nI k &&& 31).toBitVec.smod 32).toNat = k := by decide +kernel
theorem shl1 {k : Nat} (h : k < 31) : nI 1 <<< (nI k &&& 31) = nI (2 ^ k) := by
  have h2 : 1 * 2 ^ k < 2 ^ 32 := by
    have := Nat.pow_lt_pow_right (a := 2) (by decide) (show k < 32 by omega)
    omega
  rw [pk_shlN _ k (shl_s k h) h2, Nat.one_mul]
theorem shr1 {a k : Nat} (h : k < 31) (ha : a < 2 ^ 31) : nI a >>> (nI k &&& 31) = nI (a / 2 ^ k) := pk_shrN ha _ k (shl_s k h)
theorem updI {f : Nat → Int32} {k : Nat} {x : Int32} : upd f k x k = x := pk_us
theorem updN {f : Nat → Int32} {k j : Nat} {x : Int32} (h : j ≠ k) : upd f k x j = f j := pk_un h
theorem V_fg (k0 : Nat) {ls2 : LO} (he : ls.set k0 none = ls2) (k : V g l M R FN pc ls2 st w n cs sl) : V g l M R FN pc ls st w n cs sl := by
  subst he
  refine V_weak (by rw [List.length_set]) (fun i v hi => ?_) k
  by_cases h : k0 = i
  · subst h
    by_cases h2 : k0 < ls.length
    · rw [List.getElem?_set_self h2] at hi; cases hi
    · rw [List.getElem?_eq_none (by rw [List.length_set]; omega)] at hi; cases hi
  · rwa [List.getElem?_set_ne h] at hi
theorem inc1 (a : Nat) : nI a + Int32.ofInt 1 = nI (a + 1) := nI_1 a
theorem dec1 (a : Nat) : nI (a + 1) + Int32.ofInt (-1) = nI a := pk_m1 a
theorem nI_0' : (0 : Int32) = nI 0 := by decide
theorem le0 {a : Nat} (h : a < 2 ^ 31) : nI a ≤ 0 ↔ a = 0 := by rw [nI_0', nI_leI h (by decide)]; omega
theorem lt0 {a : Nat} (h : a < 2 ^ 31) : 0 < nI a ↔ 0 < a := by rw [nI_0', nI_ltI (by decide) h]
theorem eq0 {a : Nat} (h : a < 2 ^ 31) : nI a = 0 ↔ a = 0 := by rw [nI_0', nI_eq h (by decide)]
theorem V_icmpN_eq {a b : Nat} {off : Int} {tgt : Nat} (d : decode M.2.1 pc = .ok (.if_icmp .eq off, 3)) (ht : (pc : Int) + off = (tgt : Int)) (hq : pc + 3 = q) (ha : a < 2 ^ 31) (hb : b < 2 ^ 31) (kt : a = b → V g l M R FN tgt ls st w n cs sl) (kf : ¬ a = b → V g l M R FN q ls st w n cs sl) : V g l M R FN pc ls (.int (nI b) :: .int (nI a) :: st) w n cs sl :=
  V_icmp_eq d ht hq (fun h => kt ((nI_eq ha hb).mp h)) (fun h => kf (mt (nI_eq ha hb).mpr h))
theorem V_icmpN_ne {a b : Nat} {off : Int} {tgt : Nat} (d : decode M.2.1 pc = .ok (.if_icmp .ne off, 3)) (ht : (pc : Int) + off = (tgt : Int)) (hq : pc + 3 = q) (ha : a < 2 ^ 31) (hb : b < 2 ^ 31) (kt : ¬ a = b → V g l M R FN tgt ls st w n cs sl) (kf : a = b → V g l M R FN q ls st w n cs sl) : V g l M R FN pc ls (.int (nI b) :: .int (nI a) :: st) w n cs sl :=
  V_icmp_ne d ht hq (fun h => kt (mt (nI_eq ha hb).mpr h)) (fun h => kf ((nI_eq ha hb).mp h))
theorem V_icmpN_lt {a b : Nat} {off : Int} {tgt : Nat} (d : decode M.2.1 pc = .ok (.if_icmp .lt off, 3)) (ht : (pc : Int) + off = (tgt : Int)) (hq : pc + 3 = q) (ha : a < 2 ^ 31) (hb : b < 2 ^ 31) (kt : a < b → V g l M R FN tgt ls st w n cs sl) (kf : b ≤ a → V g l M R FN q ls st w n cs sl) : V g l M R FN pc ls (.int (nI b) :: .int (nI a) :: st) w n cs sl :=
  V_icmp_lt d ht hq (fun h => kt ((nI_ltI ha hb).mp h)) (fun h => kf (Nat.not_lt.mp (mt (nI_ltI ha hb).mpr h)))
theorem V_icmpN_ge {a b : Nat} {off : Int} {tgt : Nat} (d : decode M.2.1 pc = .ok (.if_icmp .ge off, 3)) (ht : (pc : Int) + off = (tgt : Int)) (hq : pc + 3 = q) (ha : a < 2 ^ 31) (hb : b < 2 ^ 31) (kt : b ≤ a → V g l M R FN tgt ls st w n cs sl) (kf : a < b → V g l M R FN q ls st w n cs sl) : V g l M R FN pc ls (.int (nI b) :: .int (nI a) :: st) w n cs sl :=
  V_icmp_ge d ht hq (fun h => kt ((nI_leI hb ha).mp h)) (fun h => kf (Nat.not_le.mp (mt (nI_leI hb ha).mpr h)))
theorem V_icmpN_gt {a b : Nat} {off : Int} {tgt : Nat} (d : decode M.2.1 pc = .ok (.if_icmp .gt off, 3)) (ht : (pc : Int) + off = (tgt : Int)) (hq : pc + 3 = q) (ha : a < 2 ^ 31) (hb : b < 2 ^ 31) (kt : b < a → V g l M R FN tgt ls st w n cs sl) (kf : a ≤ b → V g l M R FN q ls st w n cs sl) : V g l M R FN pc ls (.int (nI b) :: .int (nI a) :: st) w n cs sl :=
  V_icmp_gt d ht hq (fun h => kt ((nI_ltI hb ha).mp h)) (fun h => kf (Nat.not_lt.mp (mt (nI_ltI hb ha).mpr h)))
theorem V_icmpN_le {a b : Nat} {off : Int} {tgt : Nat} (d : decode M.2.1 pc = .ok (.if_icmp .le off, 3)) (ht : (pc : Int) + off = (tgt : Int)) (hq : pc + 3 = q) (ha : a < 2 ^ 31) (hb : b < 2 ^ 31) (kt : a ≤ b → V g l M R FN tgt ls st w n cs sl) (kf : b < a → V g l M R FN q ls st w n cs sl) : V g l M R FN pc ls (.int (nI b) :: .int (nI a) :: st) w n cs sl :=
  V_icmp_le d ht hq (fun h => kt ((nI_leI ha hb).mp h)) (fun h => kf (Nat.not_le.mp (mt (nI_leI ha hb).mpr h)))
theorem V_ifN_eq {a : Nat} {off : Int} {tgt : Nat} (d : decode M.2.1 pc = .ok (.ifCond .eq off, 3)) (ht : (pc : Int) + off = (tgt : Int)) (hq : pc + 3 = q) (ha : a < 2 ^ 31) (kt : a = 0 → V g l M R FN tgt ls st w n cs sl) (kf : ¬ a = 0 → V g l M R FN q ls st w n cs sl) : V g l M R FN pc ls (.int (nI a) :: st) w n cs sl :=
  V_if_eq d ht hq (fun h => kt ((eq0 ha).mp h)) (fun h => kf (mt (eq0 ha).mpr h))
theorem V_ifN_ne {a : Nat} {off : Int} {tgt : Nat} (d : decode M.2.1 pc = .ok (.ifCond .ne off, 3)) (ht : (pc : Int) + off = (tgt : Int)) (hq : pc + 3 = q) (ha : a < 2 ^ 31) (kt : ¬ a = 0 → V g l M R FN tgt ls st w n cs sl) (kf : a = 0 → V g l M R FN q ls st w n cs sl) : V g l M R FN pc ls (.int (nI a) :: st) w n cs sl :=
  V_if_ne d ht hq (fun h => kt (mt (eq0 ha).mpr h)) (fun h => kf ((eq0 ha).mp h))
theorem V_ifN_lt {a : Nat} {off : Int} {tgt : Nat} (d : decode M.2.1 pc = .ok (.ifCond .lt off, 3)) (ht : (pc : Int) + off = (tgt : Int)) (hq : pc + 3 = q) (ha : a < 2 ^ 31) (kt : False → V g l M R FN tgt ls st w n cs sl) (kf : True → V g l M R FN q ls st w n cs sl) : V g l M R FN pc ls (.int (nI a) :: st) w n cs sl :=
  V_if_lt d ht hq (fun h => absurd h (nI_pos ha)) (fun _ => kf trivial)
theorem V_ifN_ge {a : Nat} {off : Int} {tgt : Nat} (d : decode M.2.1 pc = .ok (.ifCond .ge off, 3)) (ht : (pc : Int) + off = (tgt : Int)) (hq : pc + 3 = q) (ha : a < 2 ^ 31) (kt : True → V g l M R FN tgt ls st w n cs sl) (kf : False → V g l M R FN q ls st w n cs sl) : V g l M R FN pc ls (.int (nI a) :: st) w n cs sl :=
  V_if_ge d ht hq (fun _ => kt trivial) (fun h => absurd (nI_pos' ha) h)
theorem V_ifN_gt {a : Nat} {off : Int} {tgt : Nat} (d : decode M.2.1 pc = .ok (.ifCond .gt off, 3)) (ht : (pc : Int) + off = (tgt : Int)) (hq : pc + 3 = q) (ha : a < 2 ^ 31) (kt : 0 < a → V g l M R FN tgt ls st w n cs sl) (kf : a = 0 → V g l M R FN q ls st w n cs sl) : V g l M R FN pc ls (.int (nI a) :: st) w n cs sl :=
  V_if_gt d ht hq (fun h => kt ((lt0 ha).mp h)) (fun h => kf (Nat.eq_zero_of_not_pos (mt (lt0 ha).mpr h)))
theorem V_ifN_le {a : Nat} {off : Int} {tgt : Nat} (d : decode M.2.1 pc = .ok (.ifCond .le off, 3)) (ht : (pc : Int) + off = (tgt : Int)) (hq : pc + 3 = q) (ha : a < 2 ^ 31) (kt : a = 0 → V g l M R FN tgt ls st w n cs sl) (kf : 0 < a → V g l M R FN q ls st w n cs sl) : V g l M R FN pc ls (.int (nI a) :: st) w n cs sl :=
  V_if_le d ht hq (fun h => kt ((le0 ha).mp h)) (fun h => kf (Nat.pos_of_ne_zero (mt (le0 ha).mpr h)))
end HP
