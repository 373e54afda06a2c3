/-! judging: what both sides add when the tree is known -/
def ikN (E : EL) : Nat := E.ik.toInt.toNat
def jq (pr fb al : Nat → Bool) (e : Nat → EL) (i : Nat) : List Nat := (if pr i = true ∧ al i = false then [(e i).bg * 8 + 7] else []) ++ ((if fb i = true ∧ ¬ (e i).ik = -1 then [ikN (e i) * 8 + 6] else []) ++ (if ¬ i = 0 ∧ pr i = false then [(e i).bg * 8 + 5] else []))
def j4 (e : Nat → EL) (i : Nat) : List Nat := if ¬ i = 0 ∧ (e i).ck = 0 then [k4 e i] else []
def gA (f : Nat → List Nat) : Nat → Nat → List Nat → List Nat
  | 0, _, A => A
  | k + 1, i, A => gA f k (i + 1) (f i ++ A)
theorem gA_out (f : Nat → List Nat) : ∀ k i A, gA f k i A = gA f k i [] ++ A := by
  intro k
  induction k with
  | zero => intro i A; rfl
  | succ k ih =>
    intro i A
    rw [gA, gA, ih (i + 1) (f i ++ A), ih (i + 1) (f i ++ []), List.append_nil, List.append_assoc]
theorem gA_two (u v : Nat → List Nat) : ∀ k i, (gA (fun q => u q ++ v q) k i []).Perm (gA u k i [] ++ gA v k i []) := by
  intro k
  induction k with
  | zero => intro i; exact List.Perm.refl _
  | succ k ih =>
    intro i
    rw [gA, gA, gA, List.append_nil, List.append_nil, List.append_nil, gA_out _ k (i + 1) (u i ++ v i), gA_out u k (i + 1) (u i), gA_out v k (i + 1) (v i)]
    refine (List.Perm.append_right _ (ih (i + 1))).trans ?_
    generalize gA u k (i + 1) [] = U
    generalize gA v k (i + 1) [] = V
    have e : U ++ u i ++ (V ++ v i) = U ++ (u i ++ V ++ v i) := by simp [List.append_assoc]
    have e2 : U ++ V ++ (u i ++ v i) = U ++ (V ++ u i ++ v i) := by simp [List.append_assoc]
    rw [e, e2]
    exact List.Perm.append_left _ (List.Perm.append_right _ List.perm_append_comm)
theorem gA_cg {u v : Nat → List Nat} : ∀ k i A, (∀ q, i ≤ q → q < i + k → u q = v q) → gA u k i A = gA v k i A := by
  intro k
  induction k with
  | zero => intros; rfl
  | succ k ih =>
    intro i A h
    rw [gA, gA, h i (Nat.le_refl _) (by omega)]
    exact ih _ _ (fun q h1 h2 => h q (by omega) (by omega))
theorem gA_clD (e : Nat → EL) (S : List Nat) : ∀ k i D, 0 < i → (∀ q, i ≤ q → q < i + k → (q ∈ S ↔ (e q).ck = 0)) → gA (j4 e) k i (D.map (k4 e)) = (clD S k i D).map (k4 e) := by
  intro k
  induction k with
  | zero => intros; rfl
  | succ k ih =>
    intro i D h0 h
    rw [gA, clD]
    unfold j4
    by_cases hi : i ∈ S
    · rw [if_pos hi, if_pos ⟨by omega, (h i (Nat.le_refl _) (by omega)).mp hi⟩]
      exact ih (i + 1) (i :: D) (by omega) (fun q h1 h2 => h q (by omega) (by omega))
    · rw [if_neg hi, if_neg (fun z => hi ((h i (Nat.le_refl _) (by omega)).mpr z.2))]
      exact ih (i + 1) D (by omega) (fun q h1 h2 => h q (by omega) (by omega))
theorem gA_br {T : TS} {p : Nat} (h : tI T p) (hs : T.stk = []) : (gA (j4 T.e) (T.cn + 1) 0 []).Perm (T.br.map (k4 T.e)) := by
  obtain ⟨b1, b2⟩ := h.2.2.2.2.1
  have hm : ∀ q, 1 ≤ q → q < 1 + T.cn → (q ∈ T.br ↔ (T.e q).ck = 0) := fun q h1 h2 => by
    rw [b2 q, hs]
    exact ⟨fun z => z.2.2.2, fun z => ⟨h1, by omega, List.not_mem_nil, z⟩⟩
  have e1 : gA (j4 T.e) (T.cn + 1) 0 [] = (clD T.br T.cn 1 []).map (k4 T.e) := by
    rw [gA]
    have e0 : j4 T.e 0 ++ [] = ([] : List Nat).map (k4 T.e) := by unfold j4; rw [if_neg (fun z => z.1 rfl)]; rfl
    rw [e0]
    exact gA_clD T.e T.br T.cn 1 [] (by omega) hm
  rw [e1]
  refine List.Perm.map _ ((List.perm_ext_iff_of_nodup (clD_nd _ _ _ _ List.nodup_nil (fun y hy => absurd hy List.not_mem_nil)) b1).mpr (fun y => ?_))
  rw [clD_mem]
  exact ⟨fun w => w.elim (fun v => absurd v List.not_mem_nil) (fun v => v.2.2), fun w => Or.inr ⟨((b2 y).mp w).1, by have := ((b2 y).mp w).2.1; omega, w⟩⟩
/-- the faults of both sides are the same row -/
theorem jd_same {T : TS} {p : Nat} {B : List Nat} (h : tI T p) (hs : T.stk = []) (hB : B.Perm (T.fl ++ T.br.map (k4 T.e))) (q : Nat → List Nat) : srt (gA (fun i => q i ++ j4 T.e i) (T.cn + 1) 0 T.fl) = srt (gA q (T.cn + 1) 0 B) ∧ (gA (fun i => q i ++ j4 T.e i) (T.cn + 1) 0 T.fl).length = (gA q (T.cn + 1) 0 B).length := by
  have hp : (gA (fun i => q i ++ j4 T.e i) (T.cn + 1) 0 T.fl).Perm (gA q (T.cn + 1) 0 B) := by
    rw [gA_out _ _ _ T.fl, gA_out q _ _ B]
    have p1 := List.Perm.append_right T.fl (gA_two q (j4 T.e) (T.cn + 1) 0)
    refine p1.trans ?_
    rw [List.append_assoc]
    refine List.Perm.append_left _ ?_
    exact (List.Perm.append_right _ (gA_br h hs)).trans (List.perm_append_comm.trans hB.symm)
  exact ⟨srt_perm hp, hp.length_eq⟩
theorem jq_len (pr fb al : Nat → Bool) (e : Nat → EL) (i : Nat) (hfb : fb i = true → pr i = true) : (jq pr fb al e i).length ≤ 2 ∧ (jq pr fb al e i ++ j4 e i).length ≤ 3 := by
  have h1 : (jq pr fb al e i).length ≤ 2 := by
    unfold jq
    cases hp : pr i with
    | true =>
      rw [if_neg (c := ¬ i = 0 ∧ true = false) (fun z => absurd z.2 (by decide))]
      split <;> split <;> simp
    | false =>
      rw [if_neg (fun z => absurd z.1 (by decide)), if_neg (fun z => by rw [hfb z.1] at hp; cases hp)]
      split <;> simp
  refine ⟨h1, ?_⟩
  rw [List.length_append]
  have : (j4 e i).length ≤ 1 := by unfold j4; split <;> simp
  omega
theorem gA_len {f : Nat → List Nat} {m : Nat} : ∀ k i A, (∀ q, i ≤ q → q < i + k → (f q).length ≤ m) → (gA f k i A).length ≤ A.length + m * k := by
  intro k
  induction k with
  | zero => intro i A _; rw [gA]; omega
  | succ k ih =>
    intro i A h
    rw [gA]
    have h1 := ih (i + 1) (f i ++ A) (fun q h1 h2 => h q (by omega) (by omega))
    have h2 := h i (Nat.le_refl _) (by omega)
    rw [List.length_append] at h1
    have : m * (k + 1) = m * k + m := Nat.mul_succ m k
    omega
