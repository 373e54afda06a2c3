/-! bits of numbers -/
def bq (x : Int32) (k : Nat) : Bool := x.toBitVec.getLsbD k
theorem bq_or (x y : Int32) (k : Nat) : bq (x ||| y) k = (bq x k || bq y k) := by
  unfold bq
  rw [Int32.toBitVec_or, BitVec.getLsbD_or]
theorem bq_and (x y : Int32) (k : Nat) : bq (x &&& y) k = (bq x k && bq y k) := by
  unfold bq
  rw [Int32.toBitVec_and, BitVec.getLsbD_and]
theorem bq_ext {x y : Int32} (h : ∀ k, k < 32 → bq x k = bq y k) : x = y :=
  Int32.toBitVec.inj (BitVec.eq_of_getLsbD_eq (fun i hi => h i hi))
theorem bq_0 (k : Nat) : bq (nI 0) k = false := by
  show (0#32).getLsbD k = false
  exact BitVec.getLsbD_zero
theorem bq_z (k : Nat) : bq 0 k = false := bq_0 k
theorem bq_sh : ∀ q, q < 32 → ((nI q &&& 31).toBitVec.smod 32).toNat = q := by decide
theorem bq_one : ∀ q, q < 32 → ∀ k, k < 32 → bq (nI 1 <<< (nI q &&& 31)) k = decide (k = q) := by decide
theorem bq_n1 (k : Nat) : bq (nI 1) k = decide (k = 0) := by
  by_cases h : k < 32
  · have e : ∀ k, k < 32 → bq (nI 1) k = decide (k = 0) := by decide
    exact e k h
  · rw [decide_eq_false (by omega)]
    exact BitVec.getLsbD_of_ge _ _ (by omega)
theorem bq_sr (x : Int32) {q : Nat} (h : q < 32) : bq (x >>> (nI q &&& 31)) 0 = bq x q := by
  unfold bq
  rw [Int32.toBitVec_shiftRight, BitVec.sshiftRight_eq', bq_sh q h, BitVec.getLsbD_sshiftRight]
  simp [h]
theorem bq_tst0 (x : Int32) {q : Nat} (h : q < 32) : x >>> (nI q &&& 31) &&& nI 1 = 0 ↔ bq x q = false := by
  constructor
  · intro e
    have e2 := congrArg (fun z => bq z 0) e
    simp only [bq_and, bq_sr x h, bq_n1, bq_z] at e2
    simpa using e2
  · intro e
    refine bq_ext (fun k hk => ?_)
    rw [bq_and, bq_n1, bq_z]
    by_cases h0 : k = 0
    · subst h0
      rw [bq_sr x h, e]
      rfl
    · rw [decide_eq_false h0, Bool.and_false]
theorem bq_tst1 (x : Int32) {q : Nat} (h : q < 32) : x >>> (nI q &&& 31) &&& nI 1 = nI 1 ↔ bq x q = true := by
  constructor
  · intro e
    have e2 := congrArg (fun z => bq z 0) e
    simp only [bq_and, bq_sr x h, bq_n1] at e2
    simpa using e2
  · intro e
    refine bq_ext (fun k hk => ?_)
    rw [bq_and, bq_n1]
    by_cases h0 : k = 0
    · subst h0
      rw [bq_sr x h, e]
      rfl
    · rw [decide_eq_false h0, Bool.and_false]
theorem bq_not (x : Int32) {k : Nat} (h : k < 32) : bq (x ^^^ (-1)) k = !bq x k := by
  unfold bq
  rw [Int32.toBitVec_xor, BitVec.getLsbD_xor]
  have e : ∀ k, k < 32 → (-1 : Int32).toBitVec.getLsbD k = true := by decide
  rw [e k h, Bool.xor_true]
theorem bq_1024 : ∀ k, k < 32 → bq (nI 1024) k = decide (k = 10) := by decide
theorem bq_and0 {x y : Int32} : x &&& y = 0 ↔ ∀ k, k < 32 → (bq x k && bq y k) = false := by
  constructor
  · intro e k _
    rw [← bq_and, e, bq_z]
  · intro e
    exact bq_ext (fun k hk => by rw [bq_and, bq_z]; exact e k hk)
theorem bq_st (x : Int32) : x &&& nI 1024 = 0 ↔ bq x 10 = false := by
  rw [bq_and0]
  constructor
  · intro e
    have e2 := e 10 (by omega)
    rw [bq_1024 10 (by omega)] at e2
    simpa using e2
  · intro e k hk
    rw [bq_1024 k hk]
    by_cases h : k = 10
    · subst h
      rw [e]
      rfl
    · rw [decide_eq_false h, Bool.and_false]
/-- only bits below n -/
def bl (n : Nat) (x : Int32) : Prop := ∀ k, k < 32 → n ≤ k → bq x k = false
theorem bl_or {n : Nat} {x y : Int32} (hx : bl n x) (hy : bl n y) : bl n (x ||| y) := fun k hk h => by rw [bq_or, hx k hk h, hy k hk h]; rfl
theorem bl_0 (n : Nat) : bl n (nI 0) := fun k _ _ => bq_0 k
theorem bl_mono {n m : Nat} {x : Int32} (h : n ≤ m) (hx : bl n x) : bl m x := fun k hk h2 => hx k hk (by omega)
theorem bl_one {q : Nat} (h : q < 32) : bl (q + 1) (nI 1 <<< (nI q &&& 31)) := fun k hk h2 => by rw [bq_one q h k hk]; exact decide_eq_false (by omega)
