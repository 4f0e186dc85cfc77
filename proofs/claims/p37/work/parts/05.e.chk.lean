/-! the mean: the bits of a quotient, by the program's own way and by the float's -/
def nnB (r : UInt32) : Bool := decide (r &&& 0x7fffffff ≤ 0x7f800000)
def finB (v : UInt32) (x R : Int32) : Bool := nnB (FP.fsub v FP.fconst1) && (nnB (FP.fmul (FP.fsub v FP.fconst1) 0x4b000000) && decide ((x <<< (nI 23 &&& 31)) ||| FP.f2i (FP.fmul (FP.fsub v FP.fconst1) 0x4b000000) = R))
def B2 : Nat → UInt32 → Int32 → Int32 → Bool
  | 0, _, _, _ => false
  | f + 1, v, x, R => if 0 ≤ Op.cmpValue (FP.fcmp v FP.fconst1) .g then finB v x R else (nnB (FP.fmul v FP.fconst2) && B2 f (FP.fmul v FP.fconst2) (x + Int32.ofInt (-1)) R)
def B1 : Nat → UInt32 → Int32 → Int32 → Bool
  | 0, _, _, _ => false
  | f + 1, v, x, R => if Op.cmpValue (FP.fcmp v FP.fconst2) .l < 0 then B2 7 v x R else (nnB (FP.fdiv v FP.fconst2) && B1 f (FP.fdiv v FP.fconst2) (x + Int32.ofInt 1) R)
def BB (v : UInt32) (R : Int32) : Bool := if 0 < Op.cmpValue (FP.fcmp v FP.fconst0) .l then B1 5 v (nI 127) R else decide (0 = R)
def chkQ (s k : Nat) : Bool := nnB (FP.fdiv (FP.i2f (nI s)) (FP.i2f (nI k))) && (decide (Op.cmpValue (FP.fcmp (FP.fdiv (FP.i2f (nI s)) (FP.i2f (nI k))) (FP.fdiv (FP.i2f (nI s)) (FP.i2f (nI k)))) .l = 0) && BB (FP.fdiv (FP.i2f (nI s)) (FP.i2f (nI k))) (FP.fdiv (FP.i2f (nI s)) (FP.i2f (nI k))).toInt32)
def allB (p : Nat → Bool) : Nat → Bool
  | 0 => true
  | n + 1 => p n && allB p n
theorem allB_is {p : Nat → Bool} : ∀ {n k : Nat}, allB p n = true → k < n → p k = true
  | n + 1, k, h, hk => by
    rw [allB, Bool.and_eq_true] at h
    rcases Nat.lt_or_ge k n with z | z
    · exact allB_is h.2 z
    · obtain rfl : k = n := by omega
      exact h.1
theorem chk_t0 : allB (fun k => allB (fun s => chkQ s (0 + k + 1)) (9 * (0 + k + 1) + 1)) 16 = true := by decide +kernel
theorem chk_t1 : allB (fun k => allB (fun s => chkQ s (16 + k + 1)) (9 * (16 + k + 1) + 1)) 7 = true := by decide +kernel
theorem chk_t2 : allB (fun k => allB (fun s => chkQ s (23 + k + 1)) (9 * (23 + k + 1) + 1)) 5 = true := by decide +kernel
theorem chk_t3 : allB (fun k => allB (fun s => chkQ s (28 + k + 1)) (9 * (28 + k + 1) + 1)) 5 = true := by decide +kernel
theorem chk_t4 : allB (fun k => allB (fun s => chkQ s (33 + k + 1)) (9 * (33 + k + 1) + 1)) 4 = true := by decide +kernel
theorem chk_t5 : allB (fun k => allB (fun s => chkQ s (37 + k + 1)) (9 * (37 + k + 1) + 1)) 4 = true := by decide +kernel
theorem chk_t6 : allB (fun k => allB (fun s => chkQ s (41 + k + 1)) (9 * (41 + k + 1) + 1)) 4 = true := by decide +kernel
theorem chk_t7 : allB (fun k => allB (fun s => chkQ s (45 + k + 1)) (9 * (45 + k + 1) + 1)) 3 = true := by decide +kernel
