/-! children's steps, offers: class and reference -/
def rstF (iv : Nat → Nat → Int32) (mm n : Nat) (e : Nat) (C : Nat → Bool) : Nat → Nat → Int32 → Int32
  | 0, _, acc => acc
  | k + 1, i, acc => rstF iv mm n e C k (i + 1) (if iv 108 i = nI e ∧ C i = true then stpR iv mm n acc (nI 1 <<< ((iv 107 i - nI 97) &&& 31)) else acc)
def isIn (iv : Nat → Nat → Int32) (x : Int32) (q : Nat) : Bool := decide (¬ iv 111 q < 0) && (decide (¬ x < iv 111 q) && decide (¬ iv 112 q < x))
def orr1 (iv : Nat → Nat → Int32) (mm n cn e : Nat) (x names : Int32) (i : Nat) : Bool := accR iv mm (rstF iv mm n e (fun q => decide (¬ iv 109 q < x)) cn 1 (stsR iv mm n (stpR iv mm n (rstF iv mm n e (fun q => decide (iv 109 q < x)) cn 1 (nI 1024)) (nI 1 <<< (nI i &&& 31))) names))
def orrF (iv : Nat → Nat → Int32) (mm n cn e : Nat) (x names : Int32) : Nat → Nat → Int32 → Int32
  | 0, _, acc => acc
  | k + 1, i, acc => orrF iv mm n cn e x names k (i + 1) (if names >>> (nI i &&& 31) &&& nI 1 = nI 1 then (if orr1 iv mm n cn e x names i = true then acc ||| nI 1 <<< (nI i &&& 31) else acc) else acc)
def wthR (iv : Nat → Nat → Int32) (n : Nat) (x : Int32) : Bool := decide (x < nI n) && (decide (¬ iv 116 x.toInt.toNat < 0) && decide (iv 116 x.toInt.toNat < x))
/-- the reference's number of an element's model -/
def moR (T : TS) (e : Nat) : Nat := rowN (T.e e).nm
/-- what the cells say of elements and tags alone -/
def RC3 (iv : Nat → Nat → Int32) (T : TS) : Prop := (∀ t, t < T.tn → tgR iv (T.tg t) t) ∧ (∀ i, i ≤ T.cn → elR iv (T.e i) (chC T.e T.cn i) i) ∧ ∀ i, 0 < i → i ≤ T.cn → i ∉ T.stk → elD iv (T.e i) i
def RR3 (iv : Nat → Nat → Int32) (T : TS) : Prop := (∀ i, i ≤ T.cn → erA iv (T.e i) i) ∧ (∀ i, 0 < i → i ≤ T.cn → i ∉ T.stk → erC iv (T.e i) i) ∧ erT iv T.tn T.tg
section OF
variable {iv : Nat → Nat → Int32} {n p : Nat} {T : TS}
theorem nmS {y : Int32} (h : nmB y = true) : y - nI 97 = nI (y.toInt - 97).toNat := by
  obtain ⟨q0, hq0, hc, hq1⟩ := nmQx h
  rw [hq1, hc]
  have e : ∀ q, q < 8 → nI (97 + q) - nI 97 = nI q := by decide
  exact e q0 hq0
theorem row_nm {y : Int32} (h : nmB y = true) : rowN y = (y.toInt - 97).toNat ∧ rowN y < 8 := by
  unfold rowN
  rw [if_pos h]
  obtain ⟨q0, hq0, hc, hq1⟩ := nmQx h
  exact ⟨rfl, by omega⟩
theorem row_doc : rowN (nI 46) = 8 := by decide
theorem moR_0 (h : tI T p) : moR T 0 = 8 := by unfold moR; rw [h.2.2.1.1]; exact row_doc
theorem moR_lt (h : tI T p) {e : Nat} (he : e ≤ T.cn) : moR T e < 9 := by
  by_cases h0 : e = 0
  · rw [h0, moR_0 h]; decide
  · have := (row_nm (h.2.2.2.1 e (by omega) he).1).2
    unfold moR
    omega
theorem stc_skip {j nu mm m : Nat} {fr to : Int32} {C : Nat → Bool} (hC : RC3 iv T) (hR : RR3 iv T) (h : tI T p) (hn : p ≤ 100) (hM : MRel iv j mm m true) (hnu : nu ≤ T.cn) (hCC : ∀ i, 0 < i → i ≤ T.cn → (C i = true ↔ ¬ iv (46 + i) 3 < fr ∧ ¬ to ≤ iv (46 + i) 3)) :
    (∀ k i acc, nu < i → i + k = T.cn + 1 → stcF iv j nu fr to k i acc = rstF iv mm m nu C k i acc) ∧ (∀ k i acc, 0 < i → i + k = nu + 1 → rstF iv mm m nu C k i acc = acc) := by
  have hcn : T.cn ≤ 33 := by have := h.1; omega
  constructor
  · intro k
    induction k with
    | zero => intros; rfl
    | succ k ih =>
      intro i acc hi hk
      rw [stcF, rstF, ih (i + 1) _ (by omega) (by omega)]
      refine congrArg (rstF iv mm m nu C k (i + 1)) ?_
      have e1 : iv (46 + i) 1 = iv 108 i := (hC.2.1 i (by omega)).2.1.trans (hR.1 i (by omega)).2.1.symm
      have e2 : iv (46 + i) 0 = iv 107 i := (hC.2.1 i (by omega)).1.trans (hR.1 i (by omega)).1.symm
      have hnm : nmB (iv 107 i) = true := by rw [(hR.1 i (by omega)).1]; exact (h.2.2.2.1 i (by omega) (by omega)).1
      by_cases hc : iv (46 + i) 1 = nI nu ∧ ¬ iv (46 + i) 3 < fr ∧ ¬ to ≤ iv (46 + i) 3
      · rw [if_pos hc, if_pos ⟨e1 ▸ hc.1, (hCC i (by omega) (by omega)).mpr hc.2⟩, e2, m_stp hM _ hnm, nmS hnm]
      · rw [if_neg hc, if_neg (fun z => hc ⟨e1.trans z.1, (hCC i (by omega) (by omega)).mp z.2⟩)]
  · intro k
    induction k with
    | zero => intros; rfl
    | succ k ih =>
      intro i acc hi hk
      rw [rstF, if_neg, ih (i + 1) _ (by omega) (by omega)]
      rintro ⟨z, _⟩
      rw [(hR.1 i (by omega)).2.1, if_neg (by omega)] at z
      have h1 := (h.2.2.2.1 i (by omega) (by omega)).2.1
      have h2 := (n_eq (by omega) (by omega)).mp z
      omega
theorem rst_app {mm m e : Nat} {C : Nat → Bool} : ∀ k k2 i acc, rstF iv mm m e C (k + k2) i acc = rstF iv mm m e C k2 (i + k) (rstF iv mm m e C k i acc) := by
  intro k
  induction k with
  | zero => intro k2 i acc; rw [Nat.zero_add, Nat.add_zero]; rfl
  | succ k ih =>
    intro k2 i acc
    rw [show k + 1 + k2 = (k + k2) + 1 by omega, rstF, rstF, ih, show i + 1 + k = i + (k + 1) by omega]
/-- an element's children, taken from its own number on or from the first one on -/
theorem stc_eq {j nu mm m : Nat} {fr to : Int32} {C : Nat → Bool} (hC : RC3 iv T) (hR : RR3 iv T) (h : tI T p) (hn : p ≤ 100) (hM : MRel iv j mm m true) (hnu : nu ≤ T.cn) (hCC : ∀ i, 0 < i → i ≤ T.cn → (C i = true ↔ ¬ iv (46 + i) 3 < fr ∧ ¬ to ≤ iv (46 + i) 3)) (acc : Int32) :
    stcF iv j nu fr to (T.cn - nu) (nu + 1) acc = rstF iv mm m nu C T.cn 1 acc := by
  obtain ⟨s1, s2⟩ := stc_skip hC hR h hn hM hnu hCC
  rw [s1 _ _ _ (by omega) (by omega)]
  have e := rst_app (iv := iv) (mm := mm) (m := m) (e := nu) (C := C) nu (T.cn - nu) 1 acc
  rw [show nu + (T.cn - nu) = T.cn by omega] at e
  rw [e, s2 nu 1 acc (by omega) (by omega), show 1 + nu = nu + 1 by omega]
theorem bg_a (hC : RC3 iv T) (hR : RR3 iv T) {i : Nat} (hi : i ≤ T.cn) : iv (46 + i) 3 = nI (T.e i).bg ∧ iv 109 i = nI (T.e i).bg := ⟨(hC.2.1 i hi).2.2.2.1, (hR.1 i hi).2.2.1⟩
theorem i_ge0 {k : Nat} (h : k ≤ 1000) : ¬ nI k < 0 := fun z => by have := (n_lt (a := k) (b := 0) (by omega) (by omega)).mp z; omega
/-- whether children fit: judging's question -/
theorem alw_eq {mp : Nat → Nat} {nu mm m : Nat} (hC : RC3 iv T) (hR : RR3 iv T) (h : tI T p) (hn : p ≤ 100) (hnu : nu ≤ T.cn) (hM : MRel iv (elMo iv mp nu) mm m true) : alwF iv mp T.cn nu = accR iv mm (rstF iv mm m nu (fun _ => true) T.cn 1 (nI 1024)) := by
  unfold alwF
  rw [m_acc hM, stc_eq hC hR h hn hM hnu (C := fun _ => true)]
  intro i h1 h2
  have hb := (h.2.2.2.1 i h1 h2).2.2.1
  rw [(bg_a hC hR h2).1]
  refine ⟨fun _ => ⟨i_ge0 (k := (T.e i).bg) (by omega), fun z => ?_⟩, fun _ => rfl⟩
  have := (n_ge (by omega) (by omega)).mp z
  omega
theorem ofr1_eq {j nu mm m x i : Nat} {names : Int32} (hC : RC3 iv T) (hR : RR3 iv T) (h : tI T p) (hn : p ≤ 100) (hnu : nu ≤ T.cn) (hM : MRel iv j mm m true) (hx : x ≤ 100) (hi : i < 8) (hnm : iv 7 2 = names) : ofr1 iv j T.cn nu (nI x) i = orr1 iv mm m T.cn nu (nI x) names i := by
  have hy : nmB (nI 97 + nI i) = true ∧ ((nI 97 + nI i).toInt - 97).toNat = i := by
    have e : ∀ i, i < 8 → nmB (nI 97 + nI i) = true ∧ ((nI 97 + nI i).toInt - 97).toNat = i := by decide
    exact e i hi
  unfold ofr1 orr1
  rw [m_acc hM, stc_eq hC hR h hn hM hnu (C := fun q => decide (¬ iv 109 q < nI x)), m_spr hM, m_stp hM _ hy.1, hy.2, stc_eq hC hR h hn hM hnu (C := fun q => decide (iv 109 q < nI x)), hnm]
  · intro q h1 h2
    have hb := (h.2.2.2.1 q h1 h2).2.2.1
    rw [(bg_a hC hR h2).1, (bg_a hC hR h2).2, decide_eq_true_eq]
    constructor
    · intro z
      refine ⟨i_ge0 (by omega), fun w => ?_⟩
      have z1 := (n_lt (by omega) (by omega)).mp z
      have z2 := (n_ge (by omega) (by omega)).mp w
      omega
    · rintro ⟨_, z⟩
      refine (n_lt (by omega) (by omega)).mpr ?_
      refine Classical.byContradiction (fun w => z ((n_ge (by omega) (by omega)).mpr (by omega)))
  · intro q h1 h2
    have hb := (h.2.2.2.1 q h1 h2).2.2.1
    rw [(bg_a hC hR h2).1, (bg_a hC hR h2).2, decide_eq_true_eq]
    refine ⟨fun z => ⟨z, fun w => ?_⟩, fun z => z.1⟩
    have z2 := (n_ge (by omega) (by omega)).mp w
    omega
theorem or_0 (x : Int32) : x ||| nI 0 = x := bq_ext (fun k _ => by rw [bq_or, bq_0, Bool.or_false])
theorem ofrF_eq {j nu mm m x : Nat} {names : Int32} (hC : RC3 iv T) (hR : RR3 iv T) (h : tI T p) (hn : p ≤ 100) (hnu : nu ≤ T.cn) (hM : MRel iv j mm m true) (hx : x ≤ 100) (hnm : iv 7 2 = names) : ∀ k i acc, i + k ≤ 8 → ofrF iv j T.cn nu (nI x) k i acc = orrF iv mm m T.cn nu (nI x) names k i acc := by
  intro k
  induction k with
  | zero => intros; rfl
  | succ k ih =>
    intro i acc hi
    rw [ofrF, orrF, ih (i + 1) _ (by omega), hnm]
    refine congrArg (orrF iv mm m T.cn nu (nI x) names k (i + 1)) ?_
    by_cases hb : bq names i = true
    · rw [if_neg (fun z => by rw [(bq_tst0 names (by omega)).mp z] at hb; cases hb), if_pos ((bq_tst1 names (by omega)).mpr hb), ofr1_eq hC hR h hn hnu hM hx (by omega) hnm, or_0]
    · rw [if_pos ((bq_tst0 names (by omega)).mpr (by simpa using hb)), if_neg (fun z => hb ((bq_tst1 names (by omega)).mp z))]
theorem ofrF_no {j nu mm m x : Nat} (hM : MRel iv j mm m false) : ∀ k i acc, ofrF iv j T.cn nu (nI x) k i acc = acc := by
  intro k
  induction k with
  | zero => intros; rfl
  | succ k ih =>
    intro i acc
    rw [ofrF, ih]
    have e : ofr1 iv j T.cn nu (nI x) i = false := m_no hM _
    rw [e, or_0]
    split
    · rfl
    · rw [if_neg (by decide)]
theorem in_eq (hC : RC3 iv T) (hR : RR3 iv T) (h : tI T p) (hs : T.stk = []) (hn : p ≤ 100) (x : Int32) : inEl iv T.cn x = insD (isIn iv x) T.cn := by
  unfold inEl
  refine insD_cg T.cn (fun q h1 h2 => ?_)
  have hns : q ∉ T.stk := by rw [hs]; exact List.not_mem_nil
  obtain ⟨d1, d2, d3⟩ := hC.2.2 q h1 h2 hns
  obtain ⟨e1, e2, e3, e4, e5⟩ := hR.2.1 q h1 h2 hns
  have c4 := (hC.2.1 q h2).2.2.2.2.1
  obtain ⟨b1, b2, b3, b4, b5⟩ := h.2.2.2.2.2.1 q h1 h2 hns
  have hiF : (T.e q).iF ≤ 1000 := by omega
  unfold hasIn isIn
  rw [d1, d3, c4, e3, e4]
  by_cases hk : (T.e q).ck = 2
  · rw [if_pos hk, hk, decide_eq_false (p := ¬ nI 2 = nI 2) (fun z => z rfl), decide_eq_false (p := ¬ (-1 : Int32) < 0) (by decide)]
    rfl
  · rw [if_neg hk, if_neg hk, decide_eq_true (p := ¬ nI (T.e q).ck = nI 2) (fun z => hk ((n_eq (by omega) (by omega)).mp z)), decide_eq_true (p := ¬ nI (T.e q).iF < 0) (i_ge0 hiF)]
theorem any_iff (P : Nat → Bool) : ∀ k i, anyF P k i = true ↔ ∃ q, i ≤ q ∧ q < i + k ∧ P q = true := by
  intro k
  induction k with
  | zero => intro i; rw [anyF]; exact ⟨fun z => (by cases z), fun ⟨q, h1, h2, _⟩ => (by omega)⟩
  | succ k ih =>
    intro i
    rw [anyF]
    by_cases h : P i = true
    · rw [if_pos h]; exact ⟨fun _ => ⟨i, Nat.le_refl _, by omega, h⟩, fun _ => rfl⟩
    · rw [if_neg h, ih]
      constructor
      · rintro ⟨q, h1, h2, h3⟩; exact ⟨q, by omega, by omega, h3⟩
      · rintro ⟨q, h1, h2, h3⟩
        by_cases e : q = i
        · subst e; exact absurd h3 h
        · exact ⟨q, by omega, by omega, h3⟩
theorem wth_eq (hC : RC3 iv T) (hR : RR3 iv T) (hJ : tJ T n) (hn : n ≤ 100) {x : Nat} (hx : x ≤ n) : anyF (witP iv (nI x)) T.tn 0 = wthR iv n (nI x) := by
  refine Bool.eq_iff_iff.mpr ?_
  rw [any_iff]
  have hxx : (nI x).toInt.toNat = x := by rw [nI_t (by omega)]; rfl
  unfold wthR
  rw [hxx, Bool.and_eq_true, Bool.and_eq_true, decide_eq_true_eq, decide_eq_true_eq, decide_eq_true_eq]
  constructor
  · rintro ⟨t, _, ht, hw⟩
    have ht' : t < T.tn := by omega
    obtain ⟨g1, g2, g3⟩ := hC.1 t ht'
    obtain ⟨j1, j2, j3⟩ := hJ t ht'
    unfold witP at hw
    rw [g1, g2, Bool.and_eq_true, decide_eq_true_eq, decide_eq_true_eq, n_ge (by omega) (by omega), n_ge (by omega) (by omega)] at hw
    obtain ⟨w1, w2⟩ := hR.2.2.2 t ht' x (by omega) (by omega)
    rw [w1, n_lt (by omega) (by omega), n_lt (by omega) (by omega)]
    exact ⟨by omega, i_ge0 (by omega), by omega⟩
  · rintro ⟨h1, h2, h3⟩
    have h1' := (n_lt (by omega) (by omega)).mp h1
    by_cases hc : ∃ t, t < T.tn ∧ (T.tg t).1 ≤ x ∧ x < (T.tg t).2.1
    · obtain ⟨t, ht, c1, c2⟩ := hc
      obtain ⟨g1, g2, g3⟩ := hC.1 t ht
      obtain ⟨j1, j2, j3⟩ := hJ t ht
      obtain ⟨w1, w2⟩ := hR.2.2.2 t ht x c1 c2
      rw [w1, n_lt (by omega) (by omega)] at h3
      refine ⟨t, Nat.zero_le _, by omega, ?_⟩
      unfold witP
      rw [g1, g2, Bool.and_eq_true, decide_eq_true_eq, decide_eq_true_eq, n_ge (by omega) (by omega), n_ge (by omega) (by omega)]
      omega
    · exact absurd (by rw [hR.2.2.1 x (by omega) (fun t ht z => hc ⟨t, ht, z⟩)]; decide) h2
end OF
