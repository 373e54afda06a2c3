/-! the form: the class's descent and the reference's walk write the same -/
def lnL (d : Nat) : List Int32 := nI 10 :: List.replicate d (nI 32)
section FM
variable (e : Nat → EL) (cn : Nat) (lo : Nat → Bool) (tx : Nat → Nat → List Int32)
def opL (i : Nat) : List Int32 := if lo i = true then tx (e i).bg (e i).iF else tx (e i).bg (e i).bh
def clL (i : Nat) : List Int32 := if lo i = true then lnL ((e i).dp - 1) ++ tx (e i).iT (e i).bh else []
def cS (g : Nat → List Int32) (c : Nat) : Nat → Nat → List Int32
  | 0, _ => []
  | k + 1, q => (if (e q).pr = c then lnL (e c).dp ++ g q else []) ++ cS g c k (q + 1)
def cF : Nat → Nat → List Int32
  | 0, i => tx (e i).bg (e i).bh
  | k + 1, i => if lo i = true then tx (e i).bg (e i).iF ++ (cS e (cF k) i (cn - i) (i + 1) ++ (lnL ((e i).dp - 1) ++ tx (e i).iT (e i).bh)) else tx (e i).bg (e i).bh
def cFF (i : Nat) : List Int32 := cF e cn lo tx (9 - (e i).dp) i
def cSS (c q : Nat) : List Int32 := cS e (cFF e cn lo tx) c (cn + 1 - q) q
def wIn : Nat → Nat → Nat → Bool
  | 0, u, o => decide (u = o)
  | k + 1, u, o => if o < u then wIn k (e u).pr o else decide (u = o)
def eRf : Nat → Nat → Nat → List Int32
  | 0, _, _ => []
  | k + 1, l, th => if l = 0 then [] else if th ≤ cn ∧ wIn e th th l = true then [] else clL e lo tx l ++ eRf k (e l).pr th
def laF : Nat → Nat → Bool
  | 0, u => lo u
  | k + 1, u => lo u && (if u = 0 then true else laF k (e u).pr)
def lad (i : Nat) : Bool := laF e lo i (e i).pr
def rLf : Nat → Nat → Nat → List Int32
  | 0, _, l => eRf e cn lo tx l l (cn + 1)
  | k + 1, q, l => if lad e lo q = true then eRf e cn lo tx l l q ++ (lnL ((e q).dp - 1) ++ (opL e lo tx q ++ rLf k (q + 1) q)) else rLf k (q + 1) l
def Kf : Nat → Nat → Nat → List Int32
  | 0, c, q => cSS e cn lo tx c q
  | k + 1, c, q => cSS e cn lo tx c q ++ (if c = 0 then [] else clL e lo tx c ++ Kf k (e c).pr q)
end FM
/-- what the order of the elements gives -/
def fOk (e : Nat → EL) (cn : Nat) : Prop := (e 0).pr = 0 ∧ (e 0).dp = 0 ∧ (∀ i, 0 < i → i ≤ cn → (e i).pr < i ∧ (e i).dp = (e (e i).pr).dp + 1 ∧ (e i).dp ≤ 8) ∧ ∀ i, i + 1 ≤ cn → anc e (e (i + 1)).pr i
section FM2
variable {e : Nat → EL} {cn : Nat} {lo : Nat → Bool} {tx : Nat → Nat → List Int32}
theorem fO_le (h : fOk e cn) : ∀ y, y ≤ cn → (e y).pr ≤ y := by
  intro y hy
  by_cases h0 : y = 0
  · rw [h0, h.1]; omega
  · have := (h.2.2.1 y (by omega) hy).1; omega
theorem anc_le (h : fOk e cn) : ∀ k y, y ≤ cn → prI e k y ≤ y := by
  intro k
  induction k with
  | zero => intro y _; exact Nat.le_refl _
  | succ k ih =>
    intro y hy
    rw [prI]
    have h1 := fO_le h y hy
    have h2 := ih (e y).pr (by omega)
    omega
theorem anc_le' (h : fOk e cn) {x y : Nat} (hy : y ≤ cn) (ha : anc e x y) : x ≤ y := by
  obtain ⟨k, hk⟩ := ha
  have := anc_le h k y hy
  omega
theorem anc_cmp {x y z : Nat} (h1 : anc e x z) (h2 : anc e y z) : anc e x y ∨ anc e y x := by
  obtain ⟨k, hk⟩ := h1
  obtain ⟨m, hm⟩ := h2
  by_cases h : k ≤ m
  · refine Or.inr ⟨m - k, ?_⟩
    rw [← hk, ← prI_add, show k + (m - k) = m by omega]; exact hm
  · refine Or.inl ⟨k - m, ?_⟩
    rw [← hm, ← prI_add, show m + (k - m) = k by omega]; exact hk
theorem anc_0 (h : fOk e cn) : ∀ y, y ≤ cn → anc e 0 y := by
  intro y
  induction y using Nat.strongRecOn with
  | ind y ih =>
    intro hy
    by_cases h0 : y = 0
    · rw [h0]; exact anc_r 0
    · have h1 := (h.2.2.1 y (by omega) hy).1
      exact anc_s (ih (e y).pr h1 (by omega))
/-- an element that isn't around q is around nothing behind it -/
theorem anc_no (h : fOk e cn) {c q : Nat} (hcq : c < q) (hn : ¬ anc e c q) : ∀ q', q ≤ q' → q' ≤ cn → ¬ anc e c q' := by
  intro q' hq
  induction q' with
  | zero => intro _; omega
  | succ k ih =>
    intro hk ha
    by_cases e1 : q = k + 1
    · rw [← e1] at ha; exact hn ha
    · have h1 := anc_c ha (by omega)
      exact ih (by omega) (by omega) (anc_t h1 (h.2.2.2 k hk))
theorem cS_cg {g g' : Nat → List Int32} {c : Nat} : ∀ k q, (∀ y, q ≤ y → y < q + k → (e y).pr = c → g y = g' y) → cS e g c k q = cS e g' c k q := by
  intro k
  induction k with
  | zero => intros; rfl
  | succ k ih =>
    intro q hq
    rw [cS, cS, ih (q + 1) (fun y h1 h2 => hq y (by omega) (by omega))]
    by_cases h : (e q).pr = c
    · rw [if_pos h, if_pos h, hq q (Nat.le_refl _) (by omega) h]
    · rw [if_neg h, if_neg h]
theorem cSS_st {c q : Nat} (hq : q ≤ cn) : cSS e cn lo tx c q = (if (e q).pr = c then lnL (e c).dp ++ cFF e cn lo tx q else []) ++ cSS e cn lo tx c (q + 1) := by
  unfold cSS
  rw [show cn + 1 - q = (cn + 1 - (q + 1)) + 1 by omega, cS]
theorem cSS_e {c : Nat} : cSS e cn lo tx c (cn + 1) = [] := by
  unfold cSS
  rw [show cn + 1 - (cn + 1) = 0 by omega]
  rfl
theorem cSS_no {c : Nat} : ∀ k q, q + k = cn + 1 → c < q → (∀ y, q ≤ y → y ≤ cn → ¬ (e y).pr = c) → cSS e cn lo tx c q = [] := by
  intro k
  induction k with
  | zero => intro q hk _ _; rw [show q = cn + 1 by omega]; exact cSS_e
  | succ k ih =>
    intro q hk hc hq
    rw [cSS_st (by omega), if_neg (hq q (Nat.le_refl _) (by omega)), ih (q + 1) (by omega) (by omega) (fun y h1 h2 => hq y (by omega) h2)]
    rfl
theorem cFF_st (h : fOk e cn) {i : Nat} (hi : i ≤ cn) (h0 : 0 < i) : cFF e cn lo tx i = if lo i = true then tx (e i).bg (e i).iF ++ (cSS e cn lo tx i (i + 1) ++ (lnL ((e i).dp - 1) ++ tx (e i).iT (e i).bh)) else tx (e i).bg (e i).bh := by
  have hd := (h.2.2.1 i h0 hi).2.2
  unfold cFF
  rw [show 9 - (e i).dp = (8 - (e i).dp) + 1 by omega, cF]
  have e1 : cS e (cF e cn lo tx (8 - (e i).dp)) i (cn - i) (i + 1) = cSS e cn lo tx i (i + 1) := by
    unfold cSS
    rw [show cn + 1 - (i + 1) = cn - i by omega]
    refine cS_cg _ _ (fun y h1 h2 h3 => ?_)
    unfold cFF
    rw [(h.2.2.1 y (by omega) (by omega)).2.1, h3, show 9 - ((e i).dp + 1) = 8 - (e i).dp by omega]
  rw [e1]
theorem wIn_iff (h : fOk e cn) : ∀ k u o, u ≤ k → u ≤ cn → (wIn e k u o = true ↔ anc e o u) := by
  intro k
  induction k with
  | zero =>
    intro u o hu hc
    rw [wIn, decide_eq_true_eq]
    constructor
    · intro z; rw [z]; exact anc_r o
    · intro z; have := anc_le' h hc z; omega
  | succ k ih =>
    intro u o hu hc
    rw [wIn]
    by_cases ho : o < u
    · have h1 := (h.2.2.1 u (by omega) hc).1
      rw [if_pos ho, ih (e u).pr o (by omega) (by omega)]
      exact ⟨anc_s, fun z => anc_c z (by omega)⟩
    · rw [if_neg ho, decide_eq_true_eq]
      constructor
      · intro z; rw [z]; exact anc_r o
      · intro z; have := anc_le' h hc z; omega
theorem eRf_fu (h : fOk e cn) {th : Nat} : ∀ k k2 l, l ≤ k → l ≤ k2 → l ≤ cn → eRf e cn lo tx k l th = eRf e cn lo tx k2 l th := by
  intro k
  induction k with
  | zero =>
    intro k2 l h1 h2 h3
    rw [show l = 0 by omega]
    cases k2 with
    | zero => rfl
    | succ k2 => rw [eRf, eRf, if_pos rfl]
  | succ k ih =>
    intro k2 l h1 h2 h3
    cases k2 with
    | zero => rw [show l = 0 by omega, eRf, eRf, if_pos rfl]
    | succ k2 =>
      rw [eRf, eRf]
      by_cases h0 : l = 0
      · rw [if_pos h0, if_pos h0]
      · have := (h.2.2.1 l (by omega) h3).1
        rw [if_neg h0, if_neg h0, ih k2 (e l).pr (by omega) (by omega) (by omega)]
theorem eR_st (h : fOk e cn) {th l : Nat} (h0 : 0 < l) (hl : l ≤ cn) : eRf e cn lo tx l l th = if th ≤ cn ∧ wIn e th th l = true then [] else clL e lo tx l ++ eRf e cn lo tx (e l).pr (e l).pr th := by
  obtain ⟨k, rfl⟩ : ∃ k, l = k + 1 := ⟨l - 1, by omega⟩
  have := (h.2.2.1 (k + 1) h0 hl).1
  rw [eRf, if_neg (by omega), eRf_fu h k (e (k + 1)).pr (e (k + 1)).pr (by omega) (Nat.le_refl _) (by omega)]
theorem eR_0 {th : Nat} : eRf e cn lo tx 0 0 th = [] := rfl
theorem Kf_fu (h : fOk e cn) {q : Nat} : ∀ k k2 c, c ≤ k → c ≤ k2 → c ≤ cn → Kf e cn lo tx k c q = Kf e cn lo tx k2 c q := by
  intro k
  induction k with
  | zero =>
    intro k2 c h1 h2 h3
    rw [show c = 0 by omega]
    cases k2 with
    | zero => rfl
    | succ k2 => rw [Kf, Kf, if_pos rfl, List.append_nil]
  | succ k ih =>
    intro k2 c h1 h2 h3
    cases k2 with
    | zero => rw [show c = 0 by omega, Kf, Kf, if_pos rfl, List.append_nil]
    | succ k2 =>
      rw [Kf, Kf]
      by_cases h0 : c = 0
      · rw [if_pos h0, if_pos h0]
      · have := (h.2.2.1 c (by omega) h3).1
        rw [if_neg h0, if_neg h0, ih k2 (e c).pr (by omega) (by omega) (by omega)]
theorem K_st (h : fOk e cn) {c q : Nat} (h0 : 0 < c) (hc : c ≤ cn) : Kf e cn lo tx c c q = cSS e cn lo tx c q ++ (clL e lo tx c ++ Kf e cn lo tx (e c).pr (e c).pr q) := by
  obtain ⟨k, rfl⟩ : ∃ k, c = k + 1 := ⟨c - 1, by omega⟩
  have := (h.2.2.1 (k + 1) h0 hc).1
  rw [Kf, if_neg (by omega), Kf_fu h k (e (k + 1)).pr (e (k + 1)).pr (by omega) (Nat.le_refl _) (by omega)]
theorem K_sk (h : fOk e cn) {q : Nat} (hq : q ≤ cn) : ∀ k c, c ≤ k → c ≤ cn → c < (e q).pr → Kf e cn lo tx c c q = Kf e cn lo tx c c (q + 1) := by
  intro k
  induction k with
  | zero =>
    intro c h1 h2 h3
    rw [show c = 0 by omega, Kf, Kf, cSS_st hq, if_neg (by omega)]
    rfl
  | succ k ih =>
    intro c h1 h2 h3
    by_cases h0 : c = 0
    · rw [h0, Kf, Kf, cSS_st hq, if_neg (by omega)]
      rfl
    · have := (h.2.2.1 c (by omega) h2).1
      rw [K_st h (by omega) h2, K_st h (by omega) h2, cSS_st hq, if_neg (by omega), ih (e c).pr (by omega) (by omega) (by omega)]
      rfl
/-- the closing lines up to the next element's parent -/
theorem er_K (h : fOk e cn) {q : Nat} (hq : q ≤ cn) : ∀ k l, l < q → prI e k l = (e q).pr → eRf e cn lo tx l l q ++ Kf e cn lo tx (e q).pr (e q).pr q = Kf e cn lo tx l l q := by
  intro k
  induction k with
  | zero =>
    intro l hl hk
    have hk' : l = (e q).pr := hk
    by_cases h0 : l = 0
    · rw [← hk', h0]; rfl
    · rw [eR_st h (by omega) (by omega), if_pos ⟨hq, (wIn_iff h q q l (Nat.le_refl _) hq).mpr (by rw [hk']; exact ⟨1, rfl⟩)⟩, ← hk']
      rfl
  | succ k ih =>
    intro l hl hk
    by_cases h0 : l = 0
    · have : prI e (k + 1) 0 = 0 := by have := anc_le h (k + 1) 0 (Nat.zero_le _); omega
      rw [h0] at hk ⊢
      rw [← hk, this]
      rfl
    · by_cases hd : l = (e q).pr
      · rw [eR_st h (by omega) (by omega), if_pos ⟨hq, (wIn_iff h q q l (Nat.le_refl _) hq).mpr (by rw [hd]; exact ⟨1, rfl⟩)⟩, ← hd]
        rfl
      · have hlt := (h.2.2.1 l (by omega) (by omega)).1
        have hdl : (e q).pr < l := by
          have hk' : prI e k (e l).pr = (e q).pr := hk
          have := anc_le h k (e l).pr (by omega)
          omega
        have hna : ¬ anc e l q := fun z => by
          have z1 := anc_c z (by omega)
          have := anc_le' h (show (e q).pr ≤ cn by omega) z1
          omega
        rw [eR_st h (by omega) (by omega), if_neg (fun z => hna ((wIn_iff h q q l (Nat.le_refl _) hq).mp z.2)), K_st (c := l) h (by omega) (by omega), cSS_no (cn + 1 - q) q (by omega) hl (fun y h1 h2 z => anc_no h hl hna y h1 h2 (by rw [← z]; exact ⟨1, rfl⟩)), List.append_assoc, ih (e l).pr (by omega) hk]
        rfl
theorem K_next (h : fOk e cn) {q : Nat} (hq : q ≤ cn) (h0 : 0 < q) : Kf e cn lo tx (e q).pr (e q).pr q = lnL ((e q).dp - 1) ++ (cFF e cn lo tx q ++ Kf e cn lo tx (e q).pr (e q).pr (q + 1)) := by
  obtain ⟨h1, h2, h3⟩ := h.2.2.1 q h0 hq
  have ed : (e q).dp - 1 = (e (e q).pr).dp := by omega
  by_cases hp : (e q).pr = 0
  · rw [hp, Kf, Kf, cSS_st hq, if_pos hp, ed, hp, List.append_assoc]
  · have hpp := (h.2.2.1 (e q).pr (by omega) (by omega)).1
    rw [K_st h (by omega) (by omega), K_st (q := q + 1) h (by omega) (by omega), cSS_st hq, if_pos rfl, ed, K_sk h hq (e (e q).pr).pr (e (e q).pr).pr (Nat.le_refl _) (by omega) (by omega)]
    simp only [List.append_assoc]
theorem laF_iff (h : fOk e cn) : ∀ k u, u ≤ k → u ≤ cn → (laF e lo k u = true ↔ ∀ x, anc e x u → lo x = true) := by
  intro k
  induction k with
  | zero =>
    intro u hu hc
    rw [laF]
    constructor
    · intro z x hx
      have := anc_le' h hc hx
      rw [show x = u by omega]; exact z
    · intro z; exact z u (anc_r u)
  | succ k ih =>
    intro u hu hc
    rw [laF, Bool.and_eq_true]
    by_cases h0 : u = 0
    · rw [if_pos h0]
      constructor
      · rintro ⟨z, _⟩ x hx
        have := anc_le' h hc hx
        rw [show x = u by omega]; exact z
      · intro z; exact ⟨z u (anc_r u), rfl⟩
    · have := (h.2.2.1 u (by omega) hc).1
      rw [if_neg h0, ih (e u).pr (by omega) (by omega)]
      constructor
      · rintro ⟨z1, z2⟩ x hx
        by_cases e1 : x = u
        · rw [e1]; exact z1
        · exact z2 x (anc_c hx e1)
      · intro z
        exact ⟨z u (anc_r u), fun x hx => z x (anc_s hx)⟩
theorem lad_iff (h : fOk e cn) {i : Nat} (h0 : 0 < i) (hi : i ≤ cn) : lad e lo i = true ↔ ∀ x, anc e x i → x ≠ i → lo x = true := by
  have := (h.2.2.1 i h0 hi).1
  unfold lad
  rw [laF_iff h i (e i).pr (by omega) (by omega)]
  exact ⟨fun z x hx hn => z x (anc_c hx hn), fun z x hx => z x (anc_s hx) (by have := anc_le' h (show (e i).pr ≤ cn by omega) hx; omega)⟩
/-- all around l is loose -/
def gdL (e : Nat → EL) (lo : Nat → Bool) (l : Nat) : Prop := ∀ x, anc e x l → x ≠ l → lo x = true
theorem rL_K (h : fOk e cn) : ∀ k q, q + k = cn + 1 → (∀ l, l + 1 = q → gdL e lo l → lo l = true → rLf e cn lo tx k q l = Kf e cn lo tx l l q) ∧ (∀ l, 0 < l → l < q → gdL e lo l → lo l = false → anc e l (q - 1) → rLf e cn lo tx k q l = Kf e cn lo tx (e l).pr (e l).pr q) := by
  intro k
  induction k with
  | zero =>
    intro q hq
    have hend : ∀ m l, l ≤ m → l ≤ cn → eRf e cn lo tx l l (cn + 1) = Kf e cn lo tx l l (cn + 1) := by
      intro m
      induction m with
      | zero =>
        intro l h1 h2
        rw [show l = 0 by omega, Kf, cSS_e]
        rfl
      | succ m ih =>
        intro l h1 h2
        by_cases h0 : l = 0
        · rw [h0, Kf, cSS_e]
          rfl
        · have := (h.2.2.1 l (by omega) h2).1
          rw [eR_st h (by omega) h2, if_neg (fun z => by have := z.1; omega), K_st h (by omega) h2, cSS_e, ih (e l).pr (by omega) (by omega)]
          rfl
    have hqe : q = cn + 1 := by omega
    subst hqe
    refine ⟨fun l hl _ _ => ?_, fun l h1 h2 _ hlo _ => ?_⟩
    · rw [rLf]; exact hend l l (Nat.le_refl _) (by omega)
    · have := (h.2.2.1 l h1 (by omega)).1
      rw [rLf, eR_st h h1 (by omega), if_neg (fun z => by have := z.1; omega), hend (e l).pr (e l).pr (Nat.le_refl _) (by omega)]
      unfold clL
      rw [if_neg (by rw [hlo]; decide)]
      rfl
  | succ k ih =>
    intro q hq
    obtain ⟨ih1, ih2⟩ := ih (q + 1) (by omega)
    have hqc : q ≤ cn := by omega
    -- the element q is written: its own piece, and all behind it
    have hwr : 0 < q → lad e lo q = true → opL e lo tx q ++ rLf e cn lo tx k (q + 1) q = cFF e cn lo tx q ++ Kf e cn lo tx (e q).pr (e q).pr (q + 1) := by
      intro h0 hl
      have hg : gdL e lo q := (lad_iff h h0 hqc).mp hl
      cases hlo : lo q with
      | true =>
        rw [ih1 q rfl hg hlo, K_st h h0 hqc, cFF_st h hqc h0, if_pos hlo]
        unfold opL clL
        rw [if_pos hlo, if_pos hlo]
        simp only [List.append_assoc]
      | false =>
        rw [ih2 q h0 (Nat.lt_succ_self _) hg hlo (anc_r q), cFF_st h hqc h0, if_neg (by rw [hlo]; decide)]
        unfold opL
        rw [if_neg (by rw [hlo]; decide)]
    refine ⟨fun l hl hg hlo => ?_, fun l h1 h2 hg hlo ha => ?_⟩
    · have hd : anc e (e q).pr l := by rw [← hl]; exact h.2.2.2 l (by omega)
      have hlad : lad e lo q = true := (lad_iff h (by omega) hqc).mpr (fun x hx hn => by
        have hx2 := anc_t (anc_c hx hn) hd
        by_cases e1 : x = l
        · rw [e1]; exact hlo
        · exact hg x hx2 e1)
      obtain ⟨m, hm⟩ := hd
      rw [rLf, if_pos hlad, hwr (by omega) hlad, ← er_K h hqc m l (by omega) hm, K_next h hqc (by omega)]
    · have hlt := (h.2.2.1 l h1 (by omega)).1
      by_cases hin : anc e l q
      · have hnl : ¬ lad e lo q = true := fun z => by
          have := (lad_iff h (by omega) hqc).mp z l hin (by omega)
          rw [hlo] at this
          cases this
        have hpl := anc_le' h (show (e q).pr ≤ cn by have := (h.2.2.1 q (by omega) hqc).1; omega) (anc_c hin (by omega))
        rw [rLf, if_neg hnl, ih2 l h1 (by omega) hg hlo (by rw [Nat.add_sub_cancel]; exact hin), K_sk h hqc (e l).pr (e l).pr (Nat.le_refl _) (by omega) (by omega)]
      · have hd0 : anc e (e q).pr (q - 1) := by
          have := h.2.2.2 (q - 1) (by omega)
          rw [show q - 1 + 1 = q by omega] at this
          exact this
        have hd : anc e (e q).pr l := by
          rcases anc_cmp hd0 ha with z | z
          · exact z
          · exact absurd (anc_s z) hin
        have hne : (e q).pr ≠ l := fun z => hin (by rw [← z]; exact ⟨1, rfl⟩)
        have hlad : lad e lo q = true := (lad_iff h (by omega) hqc).mpr (fun x hx hn => by
          have hx1 := anc_c hx hn
          have hx2 := anc_t hx1 hd
          refine hg x hx2 (fun z => ?_)
          have a1 := anc_le' h (show (e q).pr ≤ cn by have := (h.2.2.1 q (by omega) hqc).1; omega) hx1
          have a2 := anc_le' h (show l ≤ cn by omega) hd
          omega)
        obtain ⟨m, hm⟩ := hd
        rw [rLf, if_pos hlad, hwr (by omega) hlad]
        have hk := er_K (lo := lo) (tx := tx) h hqc m l (by omega) hm
        rw [K_st (c := l) h h1 (by omega), cSS_no (cn + 1 - q) q (by omega) h2 (fun y y1 y2 z => anc_no h h2 hin y y1 y2 (by rw [← z]; exact ⟨1, rfl⟩))] at hk
        have hcl : clL e lo tx l = [] := by unfold clL; rw [if_neg (by rw [hlo]; decide)]
        rw [hcl, K_next h hqc (by omega)] at hk
        exact hk
/-- the whole form of a document that is loose -/
theorem form_eq (h : fOk e cn) (h1 : 1 ≤ cn) (h0 : lo 0 = true) : opL e lo tx 1 ++ rLf e cn lo tx (cn - 1) 2 1 = cFF e cn lo tx 1 ++ cSS e cn lo tx 0 2 := by
  have hp : (e 1).pr = 0 := by have := (h.2.2.1 1 (by omega) h1).1; omega
  obtain ⟨i1, i2⟩ := rL_K (lo := lo) (tx := tx) h (cn - 1) 2 (by omega)
  have hg : gdL e lo 1 := fun x hx hn => by
    have := anc_le' h h1 hx
    rw [show x = 0 by omega]; exact h0
  rw [cFF_st h h1 (by omega)]
  cases hlo : lo 1 with
  | true =>
    rw [i1 1 rfl hg hlo, K_st h (by omega) h1, hp, if_pos rfl]
    unfold opL clL
    rw [if_pos hlo, if_pos hlo, Kf]
    simp only [List.append_assoc]
  | false =>
    rw [i2 1 (by omega) (by omega) hg hlo (anc_r 1), hp, if_neg (by decide), Kf]
    unfold opL
    rw [if_neg (by rw [hlo]; decide)]
end FM2
