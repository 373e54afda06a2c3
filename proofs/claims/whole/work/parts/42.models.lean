/-! the class's models and the reference's: the same sets of states -/
theorem orF_bq (F : Nat → Int32) (x : Int32) : ∀ (k i : Nat) (acc : Int32), i + k ≤ 32 → ∀ b, b < 32 → (bq (orF F x k i acc) b = true ↔ bq acc b = true ∨ ∃ q, i ≤ q ∧ q < i + k ∧ bq x q = true ∧ bq (F q) b = true) := by
  intro k
  induction k with
  | zero =>
    intro i acc h b hb
    rw [orF]
    exact ⟨Or.inl, fun z => z.elim id (fun ⟨q, h1, h2, _⟩ => by omega)⟩
  | succ k ih =>
    intro i acc h b hb
    rw [orF, ih (i + 1) _ (by omega) b hb]
    by_cases hx : bq x i = true
    · rw [if_neg (fun z => by rw [(bq_tst0 x (by omega)).mp z] at hx; cases hx), bq_or, Bool.or_eq_true]
      constructor
      · rintro ((h1 | h1) | ⟨q, h1, h2, h3⟩)
        · exact Or.inl h1
        · exact Or.inr ⟨i, Nat.le_refl _, by omega, hx, h1⟩
        · exact Or.inr ⟨q, by omega, by omega, h3⟩
      · rintro (h1 | ⟨q, h1, h2, h3, h4⟩)
        · exact Or.inl (Or.inl h1)
        · by_cases hq : q = i
          · subst hq; exact Or.inl (Or.inr h4)
          · exact Or.inr ⟨q, by omega, by omega, h3, h4⟩
    · rw [if_pos ((bq_tst0 x (by omega)).mpr (by simpa using hx))]
      constructor
      · rintro (h1 | ⟨q, h1, h2, h3⟩)
        · exact Or.inl h1
        · exact Or.inr ⟨q, by omega, by omega, h3⟩
      · rintro (h1 | ⟨q, h1, h2, h3, h4⟩)
        · exact Or.inl h1
        · by_cases hq : q = i
          · subst hq; exact absurd h3 hx
          · exact Or.inr ⟨q, by omega, by omega, h3, h4⟩
theorem orR_orF (F : Nat → Int32) (x : Int32) : ∀ (k i : Nat) (acc : Int32), i + k ≤ 32 → orR F x k i acc = orF F x k i acc := by
  intro k
  induction k with
  | zero => intros; rfl
  | succ k ih =>
    intro i acc h
    rw [orR, orF, ih (i + 1) _ (by omega)]
    by_cases hx : bq x i = true
    · rw [if_pos ((bq_tst1 x (by omega)).mpr hx), if_neg (fun z => by rw [(bq_tst0 x (by omega)).mp z] at hx; cases hx)]
    · rw [if_neg (fun z => hx ((bq_tst1 x (by omega)).mp z)), if_pos ((bq_tst0 x (by omega)).mpr (by simpa using hx))]
theorem msk_bq (N : Nat → Int32) (ns : Int32) : ∀ (k i : Nat) (acc : Int32), i + k ≤ 32 → (∀ q, i ≤ q → q < i + k → nmB (N q) = true) → ∀ b, b < 32 → (bq (mskF N ns k i acc) b = true ↔ bq acc b = true ∧ (i ≤ b → b < i + k → bq ns ((N b).toInt - 97).toNat = true)) := by
  intro k
  induction k with
  | zero =>
    intro i acc h hN b hb
    rw [mskF]
    exact ⟨fun z => ⟨z, fun h1 h2 => by omega⟩, fun z => z.1⟩
  | succ k ih =>
    intro i acc h hN b hb
    rw [mskF, ih (i + 1) _ (by omega) (fun q h1 h2 => hN q (by omega) (by omega)) b hb]
    have hi := hN i (Nat.le_refl _) (by omega)
    obtain ⟨q0, hq0, hc, hq1⟩ := nmQx hi
    have hsub : N i - nI 97 = nI q0 := by
      rw [hc]
      have e : ∀ q, q < 8 → nI (97 + q) - nI 97 = nI q := by decide
      exact e q0 hq0
    rw [hsub]
    by_cases hx : bq ns q0 = true
    · rw [if_neg (fun z => by rw [(bq_tst0 ns (by omega)).mp z] at hx; cases hx)]
      constructor
      · rintro ⟨h1, h2⟩
        refine ⟨h1, fun h3 h4 => ?_⟩
        by_cases hb2 : b = i
        · subst hb2; rw [hq1]; exact hx
        · exact h2 (by omega) (by omega)
      · rintro ⟨h1, h2⟩
        exact ⟨h1, fun h3 h4 => h2 (by omega) (by omega)⟩
    · rw [if_pos ((bq_tst0 ns (by omega)).mpr (by simpa using hx)), bq_and, Bool.and_eq_true, bq_not _ hb, bq_one i (by omega) b hb]
      constructor
      · rintro ⟨⟨h1, h2⟩, h3⟩
        have hbi : b ≠ i := by simpa using h2
        exact ⟨h1, fun h4 h5 => h3 (by omega) (by omega)⟩
      · rintro ⟨h1, h2⟩
        have hbi : b ≠ i := by
          intro z
          subst z
          have := h2 (Nat.le_refl _) (by omega)
          rw [hq1] at this
          exact hx this
        exact ⟨⟨h1, by simpa using hbi⟩, fun h4 h5 => h2 (by omega) (by omega)⟩
theorem spr_itr (g : Int32 → Int32) : ∀ k x, spr g k x = itr g k x := by
  have hfix : ∀ k x, g x = x → itr g k x = x := by
    intro k
    induction k with
    | zero => intros; rfl
    | succ k ih =>
      intro x h
      rw [itr, h]
      exact ih x h
  intro k
  induction k with
  | zero => intro x; rfl
  | succ k ih =>
    intro x
    rw [spr, itr]
    by_cases h : g x = x
    · rw [if_pos h, h, hfix k x h]
    · rw [if_neg h, ih]
theorem itr_cg {g g' : Int32 → Int32} (h : ∀ x, g x = g' x) (k : Nat) (x : Int32) : itr g k x = itr g' k x := by rw [show g = g' from funext h]
/-- the class's model j is the reference's model mm, which has n names -/
def MRel (iv : Nat → Nat → Int32) (j mm n : Nat) (pr : Bool) : Prop := n ≤ 10 ∧ iv 99 mm = nI n ∧ iv (9 + 3 * j) 0 = b2i pr ∧ iv 94 mm = b2i pr ∧ (pr = false → iv (9 + 3 * j) 5 = nI 0) ∧
  (pr = true → iv (9 + 3 * j) 1 = iv 95 mm ∧ iv (10 + 3 * j) 10 = iv 96 mm ∧ iv (9 + 3 * j) 5 = (if iv 98 mm = 0 then iv 97 mm else iv 97 mm ||| nI 1024) ∧ bl n (iv 96 mm) ∧ bl n (iv 97 mm) ∧
    (∀ q, q < 10 → iv (10 + 3 * j) q = if q < n then iv 101 (10 * mm + q) else nI 0) ∧ (∀ q, q < n → bl n (iv 101 (10 * mm + q))) ∧ nmR n (iv (11 + 3 * j)) (fun k => iv 100 (10 * mm + k)))
section MR
variable {iv : Nat → Nat → Int32} {j mm n : Nat}
theorem m_fol (h : MRel iv j mm n true) (x : Int32) : folF iv j x = nxtR iv mm n x := by
  obtain ⟨h0, h1, h2, h3, h4, h5⟩ := h
  obtain ⟨m1, m2, m3, m4, m5, m6, m7, m8⟩ := h5 rfl
  unfold folF nxtR
  rw [orR_orF _ _ _ _ _ (by omega)]
  refine bq_ext (fun b hb => Bool.eq_iff_iff.mpr ?_)
  rw [orF_bq _ _ _ _ _ (by omega) b hb, orF_bq _ _ _ _ _ (by omega) b hb]
  constructor
  · rintro (z | ⟨q, z1, z2, z3, z4⟩)
    · rw [bq_0] at z; cases z
    · by_cases hq : q = 10
      · subst hq
        refine Or.inl ?_
        rw [if_neg (fun z => by rw [(bq_st x).mp z] at z3; cases z3), ← m2]
        exact z4
      · rw [m6 q (by omega)] at z4
        by_cases hq2 : q < n
        · rw [if_pos hq2] at z4
          exact Or.inr ⟨q, by omega, by omega, z3, z4⟩
        · rw [if_neg hq2, bq_0] at z4
          cases z4
  · rintro (z | ⟨q, z1, z2, z3, z4⟩)
    · by_cases hx : x &&& nI 1024 = 0
      · rw [if_pos hx, bq_0] at z; cases z
      · rw [if_neg hx] at z
        refine Or.inr ⟨10, by omega, by omega, ?_, by rw [m2]; exact z⟩
        exact Classical.byContradiction (fun q => hx ((bq_st x).mpr (by simpa using q)))
    · exact Or.inr ⟨q, by omega, by omega, z3, by rw [m6 q (by omega), if_pos (by omega)]; exact z4⟩
theorem m_nbl (h : MRel iv j mm n true) (x : Int32) : bl n (nxtR iv mm n x) := by
  obtain ⟨h0, h1, h2, h3, h4, h5⟩ := h
  obtain ⟨m1, m2, m3, m4, m5, m6, m7, m8⟩ := h5 rfl
  intro b hb hn
  refine Bool.eq_false_iff.mpr (fun z => ?_)
  unfold nxtR at z
  rw [orR_orF _ _ _ _ _ (by omega)] at z
  rcases (orF_bq _ _ _ _ _ (by omega) b hb).mp z with z | ⟨q, z1, z2, z3, z4⟩
  · split at z
    · rw [bq_0] at z; cases z
    · rw [m4 b hb hn] at z; cases z
  · rw [m7 q (by omega) b hb hn] at z4
    cases z4
theorem m_stpN (h : MRel iv j mm n true) (x ns : Int32) : ∀ b, b < 32 → (bq (stpR iv mm n x ns) b = true ↔ bq (nxtR iv mm n x) b = true ∧ ∃ q, q < 8 ∧ bq ns q = true ∧ bq (iv (11 + 3 * j) q) b = true) := by
  have hbl := m_nbl h x
  obtain ⟨h0, h1, h2, h3, h4, h5⟩ := h
  obtain ⟨m1, m2, m3, m4, m5, m6, m7, m8⟩ := h5 rfl
  intro b hb
  unfold stpR
  rw [msk_bq _ _ _ _ _ (by omega) (fun q _ hq => m8.2 q (by omega)) b hb]
  have hbn : bq (nxtR iv mm n x) b = true → b < n := fun z => Classical.byContradiction (fun q => by rw [hbl b hb (by omega)] at z; cases z)
  constructor
  · rintro ⟨z1, z2⟩
    have hb2 := hbn z1
    have z3 := z2 (Nat.zero_le _) (by omega)
    obtain ⟨q0, hq0, hc, hq1⟩ := nmQx (m8.2 b hb2)
    refine ⟨z1, q0, hq0, ?_, ?_⟩
    · rw [← hq1]; exact z3
    · rw [m8.1 q0 hq0 b hb]; exact decide_eq_true ⟨hb2, hc⟩
  · rintro ⟨z1, q, hq, z2, z3⟩
    refine ⟨z1, fun _ hb2 => ?_⟩
    rw [m8.1 q hq b hb, decide_eq_true_eq] at z3
    have e : iv 100 (10 * mm + b) = nI (97 + q) := z3.2
    show bq ns ((iv 100 (10 * mm + b)).toInt - 97).toNat = true
    rw [e, nI_t (by omega), show ((97 + q : Nat) : Int) - 97 = (q : Int) by omega]
    exact z2
theorem m_stp (h : MRel iv j mm n true) (x : Int32) {y : Int32} (hy : nmB y = true) : stpF iv j x y = stpR iv mm n x (nI 1 <<< (nI (y.toInt - 97).toNat &&& 31)) := by
  refine bq_ext (fun b hb => Bool.eq_iff_iff.mpr ?_)
  obtain ⟨q0, hq0, hc, hq1⟩ := nmQx hy
  rw [m_stpN h x _ b hb]
  unfold stpF
  rw [if_pos hy, bq_and, Bool.and_eq_true, m_fol h x, hq1]
  refine and_congr_right (fun _ => ⟨fun z => ⟨q0, hq0, by rw [bq_one q0 (by omega) q0 (by omega)]; exact decide_eq_true rfl, z⟩, ?_⟩)
  rintro ⟨q, hq, z1, z2⟩
  rw [bq_one q0 (by omega) q (by omega), decide_eq_true_eq] at z1
  rw [← z1]
  exact z2
theorem m_spr (h : MRel iv j mm n true) (x ns : Int32) : sprF iv j x ns = stsR iv mm n x ns := by
  unfold sprF stsR
  rw [spr_itr]
  refine itr_cg (fun z => ?_) 11 x
  refine congrArg (z ||| ·) (bq_ext (fun b hb => Bool.eq_iff_iff.mpr ?_))
  rw [m_stpN h z ns b hb, bq_and, Bool.and_eq_true, m_fol h z]
  refine and_congr_right (fun _ => ?_)
  unfold usbF
  rw [orF_bq _ _ _ _ _ (by omega) b hb]
  constructor
  · rintro (z | ⟨q, z1, z2, z3, z4⟩)
    · rw [bq_0] at z; cases z
    · exact ⟨q, by omega, z3, z4⟩
  · rintro ⟨q, hq, z1, z2⟩
    exact Or.inr ⟨q, by omega, by omega, z1, z2⟩
theorem m_acc (h : MRel iv j mm n true) (x : Int32) : accF iv j x = accR iv mm x := by
  obtain ⟨h0, h1, h2, h3, h4, h5⟩ := h
  obtain ⟨m1, m2, m3, m4, m5, m6, m7, m8⟩ := h5 rfl
  unfold accF accR
  rw [m3]
  by_cases he : iv 98 mm = 0
  · rw [if_pos he, decide_eq_false (p := ¬ iv 98 mm = 0) (fun z => z he), Bool.and_false, Bool.or_false]
  · rw [if_neg he, decide_eq_true (p := ¬ iv 98 mm = 0) he, Bool.and_true, ← Bool.decide_or]
    refine decide_eq_decide.mpr ?_
    have e : x &&& (iv 97 mm ||| nI 1024) = (x &&& iv 97 mm) ||| (x &&& nI 1024) := bq_ext (fun b _ => by simp only [bq_and, bq_or]; cases bq x b <;> rfl)
    rw [e]
    constructor
    · intro z
      by_cases h1 : x &&& iv 97 mm = 0
      · refine Or.inr (fun h2 => z ?_)
        rw [h1, h2]
        rfl
      · exact Or.inl h1
    · rintro z1 z2
      have z3 : ∀ b, b < 32 → bq (x &&& iv 97 mm) b = false ∧ bq (x &&& nI 1024) b = false := by
        intro b hb
        have := congrArg (fun y => bq y b) z2
        simp only [bq_or, bq_z, Bool.or_eq_false_iff] at this
        exact this
      rcases z1 with z1 | z1
      · exact z1 (bq_ext (fun b hb => by rw [(z3 b hb).1, bq_z]))
      · exact z1 (bq_ext (fun b hb => by rw [(z3 b hb).2, bq_z]))
theorem m_no (h : MRel iv j mm n false) (x : Int32) : accF iv j x = false := by
  unfold accF
  rw [h.2.2.2.2.1 rfl]
  refine decide_eq_false (fun z => z (bq_ext (fun b _ => by rw [bq_and, bq_0, bq_z, Bool.and_false])))
end MR
/-! which names are fertile: eight rounds with a way out, or nine -/
def frcM (iv : Nat → Nat → Int32) (mp : Nat → Nat) : Nat → Nat → Int32 → Int32
  | 0, _, ns => ns
  | k + 1, i, ns => frcM iv mp k (i + 1) (if accF iv (mp i) (sprF iv (mp i) (nI 1024) ns) = true then ns ||| nI 1 <<< (nI i &&& 31) else ns)
def frcF (iv : Nat → Nat → Int32) (mp : Nat → Nat) : Int32 := spr (fun ns => frcM iv mp 8 0 ns) 8 (nI 0)
theorem frc_eq {iv : Nat → Nat → Int32} {mp mn : Nat → Nat} {pr : Nat → Bool} (h : ∀ i, i < 8 → MRel iv (mp i) i (mn i) (pr i)) : ∀ (k i : Nat) (ns : Int32), i + k ≤ 8 → frcM iv mp k i ns = frtM iv mn k i ns := by
  intro k
  induction k with
  | zero => intros; rfl
  | succ k ih =>
    intro i ns hi
    rw [frcM, frtM, ih (i + 1) _ (by omega)]
    refine congrArg (frtM iv mn k (i + 1)) ?_
    have hm := h i (by omega)
    unfold frt1
    cases hp : pr i with
    | true =>
      rw [hp] at hm
      rw [if_neg (show ¬ iv 94 i = 0 by rw [hm.2.2.2.1]; decide), m_acc hm, m_spr hm]
    | false =>
      rw [hp] at hm
      rw [if_pos (show iv 94 i = 0 by rw [hm.2.2.2.1]; rfl), m_no hm, if_neg (by decide)]
def bct (x : Int32) : Nat → Nat
  | 0 => 0
  | m + 1 => bct x m + (if bq x m = true then 1 else 0)
theorem bct_le (x : Int32) : ∀ m, bct x m ≤ m := by
  intro m
  induction m with
  | zero => exact Nat.le_refl _
  | succ m ih =>
    rw [bct]
    split <;> omega
theorem bct_mono {x y : Int32} (h : ∀ q, bq x q = true → bq y q = true) : ∀ m, bct x m ≤ bct y m := by
  intro m
  induction m with
  | zero => exact Nat.le_refl _
  | succ m ih =>
    rw [bct, bct]
    by_cases hx : bq x m = true
    · rw [if_pos hx, if_pos (h m hx)]; omega
    · rw [if_neg hx]; omega
theorem bct_lt {x y : Int32} (h : ∀ q, bq x q = true → bq y q = true) : ∀ m, (∃ q, q < m ∧ ¬ bq x q = true ∧ bq y q = true) → bct x m < bct y m := by
  intro m
  induction m with
  | zero => rintro ⟨q, h1, _⟩; omega
  | succ m ih =>
    rintro ⟨q, h1, h2, h3⟩
    rw [bct, bct]
    have hm := bct_mono h m
    by_cases hq : q = m
    · subst hq
      rw [if_neg h2, if_pos h3]; omega
    · have := ih ⟨q, by omega, h2, h3⟩
      by_cases hx : bq x m = true
      · rw [if_pos hx, if_pos (h m hx)]; omega
      · rw [if_neg hx]; omega
theorem itr_out (g : Int32 → Int32) : ∀ k x, itr g (k + 1) x = g (itr g k x) := by
  intro k
  induction k with
  | zero => intro x; rfl
  | succ k ih =>
    intro x
    rw [itr, ih (g x)]
    rfl
theorem itr_89 (g : Int32 → Int32) (hg : ∀ x, (∀ q, bq x q = true → bq (g x) q = true) ∧ (bl 8 x → bl 8 (g x))) : itr g 9 (nI 0) = itr g 8 (nI 0) := by
  have hb : ∀ k, bl 8 (itr g k (nI 0)) := by
    intro k
    induction k with
    | zero => exact bl_0 8
    | succ k ih =>
      rw [itr_out]
      exact (hg _).2 ih
  have hs : ∀ x, bl 8 x → g x = x ∨ bct x 8 < bct (g x) 8 := by
    intro x hx
    by_cases h : ∃ q, q < 8 ∧ ¬ bq x q = true ∧ bq (g x) q = true
    · exact Or.inr (bct_lt (hg x).1 8 h)
    · refine Or.inl (bq_ext (fun q hq => ?_))
      by_cases h8 : q < 8
      · by_cases hq1 : bq x q = true
        · rw [hq1, (hg x).1 q hq1]
        · have h2 : ¬ bq (g x) q = true := fun z => h ⟨q, h8, hq1, z⟩
          rw [Bool.eq_false_iff.mpr hq1, Bool.eq_false_iff.mpr h2]
      · rw [hx q hq (by omega), (hg x).2 hx q hq (by omega)]
  have hk : ∀ k, g (itr g k (nI 0)) = itr g k (nI 0) ∨ k < bct (itr g (k + 1) (nI 0)) 8 := by
    intro k
    induction k with
    | zero =>
      rcases hs (nI 0) (bl_0 8) with h | h
      · exact Or.inl h
      · exact Or.inr (Nat.lt_of_le_of_lt (Nat.zero_le _) h)
    | succ k ih =>
      rcases ih with h | h
      · refine Or.inl ?_
        rw [itr_out, h, h]
      · rcases hs (itr g (k + 1) (nI 0)) (hb _) with h2 | h2
        · exact Or.inl h2
        · refine Or.inr ?_
          rw [itr_out g (k + 1)]
          omega
  rw [itr_out]
  rcases hk 8 with h | h
  · exact h
  · have h' : 8 < bct (itr g 9 (nI 0)) 8 := h
    have := bct_le (itr g 9 (nI 0)) 8
    omega
theorem frcM_in (iv : Nat → Nat → Int32) (mp : Nat → Nat) : ∀ (k i : Nat) (ns : Int32), i + k ≤ 8 → (∀ q, bq ns q = true → bq (frcM iv mp k i ns) q = true) ∧ (bl 8 ns → bl 8 (frcM iv mp k i ns)) := by
  intro k
  induction k with
  | zero => intro i ns _; exact ⟨fun _ h => h, fun h => h⟩
  | succ k ih =>
    intro i ns hi
    rw [frcM]
    obtain ⟨a1, a2⟩ := ih (i + 1) (if accF iv (mp i) (sprF iv (mp i) (nI 1024) ns) = true then ns ||| nI 1 <<< (nI i &&& 31) else ns) (by omega)
    refine ⟨fun q hq => a1 q ?_, fun h => a2 ?_⟩
    · split
      · rw [bq_or, hq]; rfl
      · exact hq
    · split
      · exact bl_or h (bl_mono (by omega) (bl_one (by omega)))
      · exact h
theorem frt_all {iv : Nat → Nat → Int32} {mp mn : Nat → Nat} {pr : Nat → Bool} (h : ∀ i, i < 8 → MRel iv (mp i) i (mn i) (pr i)) : frcF iv mp = frtR iv mn := by
  unfold frcF frtR
  rw [spr_itr, ← itr_cg (fun x => frc_eq h 8 0 x (by omega)) 9 (nI 0)]
  exact (itr_89 _ (fun x => frcM_in iv mp 8 0 x (by omega))).symm
