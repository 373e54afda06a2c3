/-! faults: rows of numbers in order, whatever the order in which they were added -/
def ins (k : Nat) : List Nat → List Nat
  | [] => [k]
  | a :: l => if k < a then k :: a :: l else a :: ins k l
def srt (A : List Nat) : List Nat := A.foldr ins []
def insP (k : Nat) : List Nat → Nat
  | [] => 0
  | a :: l => if k < a then 0 else insP k l + 1
theorem ins_len (k : Nat) : ∀ l, (ins k l).length = l.length + 1 := by
  intro l
  induction l with
  | nil => rfl
  | cons a l ih =>
    rw [ins]
    split
    · rfl
    · rw [List.length_cons, ih, List.length_cons]
theorem srt_len (A : List Nat) : (srt A).length = A.length := by
  induction A with
  | nil => rfl
  | cons a A ih => exact (ins_len a (srt A)).trans (by rw [ih]; rfl)
theorem insP_le (k : Nat) : ∀ l, insP k l ≤ l.length := by
  intro l
  induction l with
  | nil => exact Nat.le_refl _
  | cons a l ih =>
    rw [insP, List.length_cons]
    split <;> omega
theorem ins_get (k : Nat) : ∀ (l : List Nat) (i : Nat), (ins k l).getD i 0 = if i < insP k l then l.getD i 0 else if i = insP k l then k else l.getD (i - 1) 0 := by
  intro l
  induction l with
  | nil =>
    intro i
    rw [ins, insP]
    cases i with
    | zero => rfl
    | succ i => rfl
  | cons a l ih =>
    intro i
    rw [ins, insP]
    by_cases h : k < a
    · rw [if_pos h, if_pos h]
      cases i with
      | zero => rfl
      | succ i => rfl
    · rw [if_neg h, if_neg h]
      cases i with
      | zero => rw [if_pos (by omega)]; rfl
      | succ i =>
        show (ins k l).getD i 0 = _
        rw [ih i]
        by_cases h1 : i < insP k l
        · have h1' : i + 1 < insP k l + 1 := by omega
          rw [if_pos h1, if_pos h1']; rfl
        · have h1' : ¬ i + 1 < insP k l + 1 := by omega
          rw [if_neg h1, if_neg h1']
          by_cases h2 : i = insP k l
          · have h2' : i + 1 = insP k l + 1 := by omega
            rw [if_pos h2, if_pos h2']
          · have h2' : ¬ i + 1 = insP k l + 1 := by omega
            rw [if_neg h2, if_neg h2']
            obtain ⟨i', rfl⟩ : ∃ i', i = i' + 1 := ⟨i - 1, by omega⟩
            rfl
theorem ins_comm (a b : Nat) : ∀ l, ins a (ins b l) = ins b (ins a l) := by
  intro l
  induction l with
  | nil =>
    simp only [ins]
    by_cases h : a < b
    · rw [if_pos h, if_neg (by omega)]
    · rw [if_neg h]
      by_cases h2 : b < a
      · rw [if_pos h2]
      · rw [if_neg h2, show a = b by omega]
  | cons x l ih =>
    by_cases ha : a < x
    · by_cases hb : b < x
      · simp only [ins, if_pos ha, if_pos hb]
        by_cases h : a < b
        · rw [if_pos h, if_neg (by omega)]
        · rw [if_neg h]
          by_cases h2 : b < a
          · rw [if_pos h2]
          · rw [if_neg h2, show a = b by omega]
      · simp only [ins, if_pos ha, if_neg hb, if_neg (show ¬ b < a by omega)]
    · by_cases hb : b < x
      · simp only [ins, if_neg ha, if_pos hb, if_neg (show ¬ a < b by omega)]
      · simp only [ins, if_neg ha, if_neg hb, ih]
theorem srt_perm {A B : List Nat} (h : A.Perm B) : srt A = srt B := by
  induction h with
  | nil => rfl
  | cons x _ ih => exact congrArg (ins x) ih
  | swap x y l => exact ins_comm y x (srt l)
  | trans _ _ h1 h2 => exact h1.trans h2
theorem ins_mem (k : Nat) : ∀ (l : List Nat) (x : Nat), x ∈ ins k l ↔ x = k ∨ x ∈ l := by
  intro l
  induction l with
  | nil => intro x; simp [ins]
  | cons a l ih =>
    intro x
    rw [ins]
    split
    · simp
    · simp only [List.mem_cons, ih x]
      constructor
      · rintro (h | h | h)
        · exact Or.inr (Or.inl h)
        · exact Or.inl h
        · exact Or.inr (Or.inr h)
      · rintro (h | h | h)
        · exact Or.inr (Or.inl h)
        · exact Or.inl h
        · exact Or.inr (Or.inr h)
theorem srt_mem (A : List Nat) (x : Nat) : x ∈ srt A ↔ x ∈ A := by
  induction A with
  | nil => exact Iff.rfl
  | cons a A ih =>
    show x ∈ ins a (srt A) ↔ _
    rw [ins_mem, ih, List.mem_cons]
/-- in order -/
def inO (l : List Nat) : Prop := l.Pairwise (· ≤ ·)
theorem ins_inO (k : Nat) : ∀ l, inO l → inO (ins k l) := by
  intro l
  induction l with
  | nil => intro _; exact List.pairwise_singleton _ _
  | cons a l ih =>
    intro h
    have h' := List.pairwise_cons.mp h
    rw [ins]
    by_cases hk : k < a
    · rw [if_pos hk]
      refine List.pairwise_cons.mpr ⟨fun x hx => ?_, h⟩
      rcases List.mem_cons.mp hx with e | e
      · omega
      · have := h'.1 x e; omega
    · rw [if_neg hk]
      refine List.pairwise_cons.mpr ⟨fun x hx => ?_, ih h'.2⟩
      rcases (ins_mem k l x).mp hx with e | e
      · omega
      · exact h'.1 x e
theorem srt_inO (A : List Nat) : inO (srt A) := by
  induction A with
  | nil => exact List.Pairwise.nil
  | cons a A ih => exact ins_inO a _ ih
theorem getD_mem {l : List Nat} {i : Nat} (h : i < l.length) : l.getD i 0 ∈ l := by
  rw [List.getD_eq_getElem?_getD, List.getElem?_eq_getElem h]
  exact List.getElem_mem h
theorem insP_lo (k : Nat) : ∀ (l : List Nat) (i : Nat), i < insP k l → l.getD i 0 ≤ k := by
  intro l
  induction l with
  | nil => intro i h; exact absurd h (Nat.not_lt_zero _)
  | cons a l ih =>
    intro i h
    rw [insP] at h
    by_cases hk : k < a
    · rw [if_pos hk] at h; omega
    · rw [if_neg hk] at h
      cases i with
      | zero => show a ≤ k; omega
      | succ i => exact ih i (by omega)
theorem insP_hi (k : Nat) : ∀ (l : List Nat), inO l → ∀ (i : Nat), insP k l ≤ i → i < l.length → k < l.getD i 0 := by
  intro l
  induction l with
  | nil => intro _ i _ h; exact absurd h (Nat.not_lt_zero _)
  | cons a l ih =>
    intro ho i h hi
    have h' := List.pairwise_cons.mp ho
    rw [insP] at h
    by_cases hk : k < a
    · cases i with
      | zero => exact hk
      | succ i =>
        have hi' : i < l.length := by rw [List.length_cons] at hi; omega
        have := h'.1 _ (getD_mem hi')
        show k < l.getD i 0
        omega
    · rw [if_neg hk] at h
      cases i with
      | zero => omega
      | succ i => exact ih h'.2 i (by omega) (by rw [List.length_cons] at hi; omega)
/-- the place at which a row's insertion ends, for any test that says 'comes behind k' -/
theorem insAt_eq {f : Nat → Int32} {l : List Nat} {k : Nat} (ho : inO l) (hf : ∀ i, i < l.length → f i = nI (l.getD i 0)) (hb : ∀ a, a ∈ l → a ≤ 10000) (hk : k ≤ 10000) : ∀ i, i ≤ l.length → insAt f (nI k) i = if i ≤ insP k l then i else insP k l := by
  intro i
  induction i with
  | zero => intro _; rw [if_pos (Nat.zero_le _)]; rfl
  | succ i ih =>
    intro h
    rw [insAt, hf i (by omega)]
    have hm := hb _ (getD_mem (l := l) (i := i) (by omega))
    by_cases h1 : i < insP k l
    · have h2 := insP_lo k l i h1
      rw [if_neg (fun z => by have := (n_lt (by omega) (by omega)).mp z; omega), if_pos (by omega)]
    · have h2 := insP_hi k l ho i (by omega) (by omega)
      rw [if_pos ((n_lt (by omega) (by omega)).mpr h2), ih (by omega), if_neg (show ¬ i + 1 ≤ insP k l by omega)]
      by_cases h3 : i ≤ insP k l
      · rw [if_pos h3]; omega
      · rw [if_neg h3]
theorem insR_eq {fk fp : Nat → Int32} {l : List Nat} {kd pl : Nat} (ho : inO l) (hf : ∀ i, i < l.length → fk i = nI (l.getD i 0 % 8) ∧ fp i = nI (l.getD i 0 / 8)) (hb : ∀ a, a ∈ l → a ≤ 10000) (hk : kd < 8) (hp : pl ≤ 1000) : ∀ i, i ≤ l.length → insR fk fp (nI kd) (nI pl) i = if i ≤ insP (pl * 8 + kd) l then i else insP (pl * 8 + kd) l := by
  intro i
  induction i with
  | zero => intro _; rw [if_pos (Nat.zero_le _)]; rfl
  | succ i ih =>
    intro h
    rw [insR, (hf i (by omega)).1, (hf i (by omega)).2]
    have hm := hb _ (getD_mem (l := l) (i := i) (by omega))
    have hc : (nI pl < nI (l.getD i 0 / 8) ∨ (nI (l.getD i 0 / 8) = nI pl ∧ nI kd < nI (l.getD i 0 % 8))) ↔ pl * 8 + kd < l.getD i 0 := by
      rw [n_lt (by omega) (by omega), n_eq (by omega) (by omega), n_lt (by omega) (by omega)]
      omega
    by_cases h1 : i < insP (pl * 8 + kd) l
    · have h2 := insP_lo (pl * 8 + kd) l i h1
      rw [if_neg (fun z => by have := hc.mp z; omega), if_pos (by omega)]
    · have h2 := insP_hi (pl * 8 + kd) l ho i (by omega) (by omega)
      rw [if_pos (hc.mpr h2), ih (by omega), if_neg (show ¬ i + 1 ≤ insP (pl * 8 + kd) l by omega)]
      by_cases h3 : i ≤ insP (pl * 8 + kd) l
      · rw [if_pos h3]; omega
      · rw [if_neg h3]
/-- the class's and the reference's row of faults, by what was added -/
def FaC (iv : Nat → Nat → Int32) (A : List Nat) : Prop := iv 80 1 = nI A.length ∧ (∀ i, i < A.length → iv 81 i = nI ((srt A).getD i 0)) ∧ ∀ a, a ∈ A → a ≤ 10000
def FaR (iv : Nat → Nat → Int32) (A : List Nat) : Prop := iv 92 29 = nI A.length ∧ (∀ i, i < A.length → iv 119 i = nI ((srt A).getD i 0 % 8) ∧ iv 120 i = nI ((srt A).getD i 0 / 8)) ∧ ∀ a, a ∈ A → a ≤ 10000
theorem faAdd_o {iv : Nat → Nat → Int32} {n a j : Nat} {k : Int32} (h1 : a ≠ 81) (h2 : a ≠ 80 ∨ j ≠ 1) : faAdd iv n k a j = iv a j := by
  unfold faAdd
  rw [u2n h2, va_up_ne _ _ h1]
theorem rfFlt_o {iv : Nat → Nat → Int32} {n a j : Nat} {k p : Int32} (h1 : a ≠ 119) (h2 : a ≠ 120) (h3 : a ≠ 92 ∨ j ≠ 29) : rfFlt iv n k p a j = iv a j := by
  unfold rfFlt rfIn
  rw [u2n h3, va_up_ne _ _ h2, va_up_ne _ _ h1]
theorem mv_ins {f : Nat → Int32} {g : Nat → Nat} {l : List Nat} {k : Nat} {v : Int32} (hv : v = nI (g k)) (hf : ∀ i, i < l.length → f i = nI (g (l.getD i 0))) : ∀ i, i < l.length + 1 → va_up (mvU f (insP k l) l.length) (insP k l) v i = nI (g ((ins k l).getD i 0)) := by
  intro i hi
  rw [ins_get]
  have hp := insP_le k l
  by_cases h1 : i < insP k l
  · rw [if_pos h1, va_up_ne _ _ (by omega)]
    unfold mvU
    rw [if_neg (by omega)]
    exact hf i (by omega)
  · rw [if_neg h1]
    by_cases h2 : i = insP k l
    · rw [if_pos h2, h2, va_up_self]; exact hv
    · rw [if_neg h2, va_up_ne _ _ h2]
      unfold mvU
      rw [if_pos (by omega)]
      exact hf (i - 1) (by omega)
theorem faC_add {iv : Nat → Nat → Int32} {A : List Nat} (h : FaC iv A) {k : Nat} (hk : k ≤ 10000) : FaC (faAdd iv A.length (nI k)) (k :: A) := by
  obtain ⟨h1, h2, h3⟩ := h
  have hl := srt_len A
  have e : insAt (iv 81) (nI k) A.length = insP k (srt A) := by
    have := insAt_eq (f := iv 81) (l := srt A) (k := k) (srt_inO A) (fun i hi => h2 i (by omega)) (fun a ha => h3 a ((srt_mem A a).mp ha)) hk A.length (by omega)
    rw [this]
    have := insP_le k (srt A)
    by_cases hh : A.length ≤ insP k (srt A)
    · rw [if_pos hh]; omega
    · rw [if_neg hh]
  refine ⟨u2s, fun i hi => ?_, fun a ha => ?_⟩
  · unfold faAdd
    rw [u2n (Or.inl (by decide)), va_up_self]
    unfold insK
    rw [e, ← hl]
    exact mv_ins (g := fun z => z) rfl (fun i hi => h2 i (by omega)) i (by rw [List.length_cons] at hi; omega)
  · rcases List.mem_cons.mp ha with z | z
    · omega
    · exact h3 a z
theorem faR_add {iv : Nat → Nat → Int32} {A : List Nat} (h : FaR iv A) {kd pl : Nat} (hk : kd < 8) (hp : pl ≤ 1000) : FaR (rfFlt iv A.length (nI kd) (nI pl)) ((pl * 8 + kd) :: A) := by
  obtain ⟨h1, h2, h3⟩ := h
  have hl := srt_len A
  have e : rfAt iv A.length (nI kd) (nI pl) = insP (pl * 8 + kd) (srt A) := by
    unfold rfAt
    have := insR_eq (fk := iv 119) (fp := iv 120) (l := srt A) (srt_inO A) (fun i hi => h2 i (by omega)) (fun a ha => h3 a ((srt_mem A a).mp ha)) hk hp A.length (by omega)
    rw [this]
    have := insP_le (pl * 8 + kd) (srt A)
    by_cases hh : A.length ≤ insP (pl * 8 + kd) (srt A)
    · rw [if_pos hh]; omega
    · rw [if_neg hh]
  refine ⟨(by unfold rfFlt rfIn; exact u2s), fun i hi => ?_, fun a ha => ?_⟩
  · unfold rfFlt
    rw [e]
    unfold rfIn
    rw [← hl, u2n (Or.inl (by decide)), u2n (Or.inl (by decide)), va_up_ne _ _ (by decide), va_up_self, va_up_self]
    rw [List.length_cons] at hi
    exact ⟨mv_ins (g := fun z => z % 8) (k := pl * 8 + kd) (by rw [show (pl * 8 + kd) % 8 = kd by omega]) (fun i hi => (h2 i (by omega)).1) i (by omega),
      mv_ins (g := fun z => z / 8) (k := pl * 8 + kd) (by rw [show (pl * 8 + kd) / 8 = pl by omega]) (fun i hi => (h2 i (by omega)).2) i (by omega)⟩
  · rcases List.mem_cons.mp ha with z | z
    · omega
    · exact h3 a z
