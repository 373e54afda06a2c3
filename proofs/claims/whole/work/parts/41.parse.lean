/-! the draft's grammar: the class descends, the reference scans; both do the same -/
def scn (d : Nat → Int32) (n : Nat) : Nat → Nat → Nat → Bool → Bool → Bool
  | 0, _, L, it, _ => it && decide (L = 0)
  | k + 1, p, L, it, mq => if p < n then
      (if it = false then (if d p = nI 40 then scn d n k (p + 1) (L + 1) false false else if nmB (d p) = true then scn d n k (p + 1) L true false else false)
      else if d p = nI 63 ∨ d p = nI 42 ∨ d p = nI 43 then (if mq = true then false else scn d n k (p + 1) L true true)
      else if d p = nI 41 then (if L = 0 then false else scn d n k (p + 1) (L - 1) true false)
      else if d p = nI 124 ∨ d p = nI 44 then scn d n k (p + 1) L false mq else false)
    else it && decide (L = 0)
def scP (d : Nat → Int32) (n p L : Nat) (it mk : Bool) : Bool := scn d n (n - p) p L it mk
def ccn (Q : Int32 → Bool) (d : Nat → Int32) : Nat → Nat → Nat
  | 0, _ => 0
  | k + 1, p => (if Q (d p) = true then 1 else 0) + ccn Q d k (p + 1)
def cc (Q : Int32 → Bool) (d : Nat → Int32) (n p : Nat) : Nat := ccn Q d (n - p) p
def isP (x : Int32) : Bool := decide (x = nI 40)
abbrev Pt : Type := Bool × Int32 × Int32 × Bool
def pt0 : Pt := (false, nI 0, nI 0, false)
abbrev RS : Type := Nat × Nat × (Nat → Pt) × (Nat → Int32) × (Nat → Int32)
def RS.lv (R : RS) : Nat := R.1
def RS.n (R : RS) : Nat := R.2.1
def RS.P (R : RS) : Nat → Pt := R.2.2.1
def RS.fo (R : RS) : Nat → Int32 := R.2.2.2.1
def RS.nm (R : RS) : Nat → Int32 := R.2.2.2.2
def lkP (fo : Nat → Int32) (x y : Int32) : Nat → Int32 := fun q => if q < 10 ∧ x >>> (nI q &&& 31) &&& nI 1 = nI 1 then fo q ||| y else fo q
def apQ (q : Pt) (f l : Int32) (e : Bool) : Pt := if q.1 = true then (true, if q.2.2.2 = true then q.2.1 ||| f else q.2.1, if e = true then q.2.2.1 ||| l else l, q.2.2.2 && e) else (true, f, l, e)
def apFo (q : Pt) (fo : Nat → Int32) (f : Int32) : Nat → Int32 := if q.1 = true then lkP fo q.2.2.1 f else fo
def chQ (a s : Pt) : Pt := (true, if a.1 = true then a.2.1 ||| s.2.1 else s.2.1, if a.1 = true then a.2.2.1 ||| s.2.2.1 else s.2.2.1, (a.1 && a.2.2.2) || s.2.2.2)
def chPs (P : Nat → Pt) (L : Nat) : Nat → Pt := va_up (va_up P (2 * L) (chQ (P (2 * L)) (P (2 * L + 1)))) (2 * L + 1) pt0
def isAg (x : Int32) : Bool := decide (x = nI 42) || decide (x = nI 43)
def rdIt (d : Nat → Int32) (p L n : Nat) (P : Nat → Pt) (fo nm : Nat → Int32) (f l : Int32) (e : Bool) : Nat × RS :=
  (if isAg (d (p + 1)) = true ∨ d (p + 1) = nI 63 then p + 2 else p + 1,
   (L, n, va_up P (2 * L + 1) (apQ (P (2 * L + 1)) f l (e || decide (d (p + 1) = nI 42) || decide (d (p + 1) = nI 63))),
    apFo (P (2 * L + 1)) (if isAg (d (p + 1)) = true then lkP fo l f else fo) f, nm))
def rdS (d : Nat → Int32) (p : Nat) (R : RS) : Option (Nat × RS) :=
  if d p = nI 40 then (if R.lv < 6 then some (p + 1, (R.lv + 1, R.n, va_up (va_up R.P (2 * (R.lv + 1)) pt0) (2 * (R.lv + 1) + 1) pt0, R.fo, R.nm)) else none)
  else if d p = nI 124 then some (p + 1, (R.lv, R.n, chPs R.P R.lv, R.fo, R.nm))
  else if d p = nI 44 then some (p + 1, R)
  else if d p = nI 41 then (if R.lv = 0 then none else some (rdIt d p (R.lv - 1) R.n (chPs R.P R.lv) R.fo R.nm (chPs R.P R.lv (2 * R.lv)).2.1 (chPs R.P R.lv (2 * R.lv)).2.2.1 (chPs R.P R.lv (2 * R.lv)).2.2.2))
  else (if R.n < 10 then some (rdIt d p R.lv (R.n + 1) R.P R.fo (va_up R.nm R.n (d p)) (nI 1 <<< (nI R.n &&& 31)) (nI 1 <<< (nI R.n &&& 31)) false) else none)
def rdn (d : Nat → Int32) (n : Nat) : Nat → Nat → RS → Option RS
  | 0, _, R => some R
  | k + 1, p, R => if p < n then (rdS d p R).bind fun z => rdn d n k z.1 z.2 else some R
def rdP (d : Nat → Int32) (n p : Nat) (R : RS) : Option RS := rdn d n (n - p) p R
section PRS
variable {d : Nat → Int32} {n : Nat}
theorem rdS_gt {p : Nat} {R : RS} {z : Nat × RS} (h : rdS d p R = some z) : p < z.1 := by
  have hi : ∀ L m P fo nm f l e, p < (rdIt d p L m P fo nm f l e).1 := by
    intro L m P fo nm f l e
    unfold rdIt
    dsimp only
    split <;> omega
  unfold rdS at h
  split at h
  · split at h
    · cases h; exact Nat.lt_succ_self _
    · cases h
  · split at h
    · cases h; exact Nat.lt_succ_self _
    · split at h
      · cases h; exact Nat.lt_succ_self _
      · split at h
        · split at h
          · cases h
          · cases h; exact hi _ _ _ _ _ _ _ _
        · split at h
          · cases h; exact hi _ _ _ _ _ _ _ _
          · cases h
theorem rdn_end {k p : Nat} {R : RS} (h : n ≤ p) : rdn d n k p R = some R := by
  cases k with
  | zero => rfl
  | succ k =>
    rw [rdn, if_neg (by omega)]
theorem rdn_fuel : ∀ (k k2 p : Nat) (R : RS), n ≤ p + k → n ≤ p + k2 → rdn d n k p R = rdn d n k2 p R := by
  intro k
  induction k with
  | zero =>
    intro k2 p R h _
    rw [rdn_end (k := k2) (by omega)]
    rfl
  | succ k ih =>
    intro k2 p R h h2
    cases k2 with
    | zero =>
      rw [rdn_end (k := k + 1) (by omega)]
      rfl
    | succ k2 =>
      rw [rdn, rdn]
      by_cases hp : p < n
      · rw [if_pos hp, if_pos hp]
        cases hz : rdS d p R with
        | none => rfl
        | some z =>
          have := rdS_gt hz
          exact ih k2 z.1 z.2 (by omega) (by omega)
      · rw [if_neg hp, if_neg hp]
theorem rdP_end {p : Nat} {R : RS} (h : n ≤ p) : rdP d n p R = some R := rdn_end h
theorem rdP_st {p : Nat} {R : RS} {z : Nat × RS} (h : p < n) (e : rdS d p R = some z) : rdP d n p R = rdP d n z.1 z.2 := by
  have hz := rdS_gt e
  unfold rdP
  obtain ⟨k, hk⟩ : ∃ k, n - p = k + 1 := ⟨n - p - 1, by omega⟩
  rw [hk, rdn, if_pos h, e]
  exact rdn_fuel k (n - z.1) z.1 z.2 (by omega) (by omega)
theorem scP_end {p L : Nat} {it mk : Bool} (h : n ≤ p) : scP d n p L it mk = (it && decide (L = 0)) := by
  unfold scP
  rw [show n - p = 0 by omega]
  rfl
theorem scP_st {p L : Nat} {it mk : Bool} (h : p < n) : scP d n p L it mk =
      (if it = false then (if d p = nI 40 then scP d n (p + 1) (L + 1) false false else if nmB (d p) = true then scP d n (p + 1) L true false else false)
      else if d p = nI 63 ∨ d p = nI 42 ∨ d p = nI 43 then (if mk = true then false else scP d n (p + 1) L true true)
      else if d p = nI 41 then (if L = 0 then false else scP d n (p + 1) (L - 1) true false)
      else if d p = nI 124 ∨ d p = nI 44 then scP d n (p + 1) L false mk else false) := by
  unfold scP
  rw [show n - p = (n - (p + 1)) + 1 by omega, scn, if_pos h]
theorem cc_end {Q : Int32 → Bool} {p : Nat} (h : n ≤ p) : cc Q d n p = 0 := by
  unfold cc
  rw [show n - p = 0 by omega]
  rfl
theorem cc_st {Q : Int32 → Bool} {p : Nat} (h : p < n) : cc Q d n p = (if Q (d p) = true then 1 else 0) + cc Q d n (p + 1) := by
  unfold cc
  rw [show n - p = (n - (p + 1)) + 1 by omega, ccn]
theorem cc_le {Q : Int32 → Bool} {p : Nat} : cc Q d n (p + 1) ≤ cc Q d n p := by
  by_cases h : p < n
  · rw [cc_st h]; omega
  · rw [cc_end (by omega), cc_end (by omega)]; omega
theorem cc_hit {Q : Int32 → Bool} {p : Nat} (h : p < n) (hq : Q (d p) = true) : cc Q d n p = 1 + cc Q d n (p + 1) := by
  rw [cc_st h, if_pos hq]
end PRS
section PR2
variable {d : Nat → Int32} {n : Nat}
def isMk (x : Int32) : Prop := x = nI 63 ∨ x = nI 42 ∨ x = nI 43
/-- a scan behind an item: whether it was marked matters only before a mark -/
theorem scP_mk {p L : Nat} {mk : Bool} (h : mk = true ∨ ¬ isMk (d p)) : scP d n p L true mk = scP d n p L true true := by
  rcases h with h | h
  · rw [h]
  · by_cases hp : p < n
    · rw [scP_st hp, scP_st hp]
      have h' : ¬ (d p = nI 63 ∨ d p = nI 42 ∨ d p = nI 43) := h
      simp only [Bool.true_eq_false, if_false, if_neg h']
      by_cases h41 : d p = nI 41
      · simp only [if_pos h41]
      · simp only [if_neg h41]
        by_cases h2 : d p = nI 124 ∨ d p = nI 44
        · simp only [if_pos h2]
          by_cases hp2 : p + 1 < n
          · rw [scP_st hp2, scP_st hp2]
            simp only [if_true]
          · rw [scP_end (by omega), scP_end (by omega)]
        · simp only [if_neg h2]
    · rw [scP_end (by omega), scP_end (by omega)]
/-- the text goes on at p as if nothing of an expression came -/
theorem scP_no {p L : Nat} (h1 : ¬ d p = nI 41 ∨ L = 0) (h2 : ¬ d p = nI 124) (h3 : ¬ d p = nI 44) (h4 : p < n ∨ ¬ L = 0) : scP d n p L true true = false := by
  by_cases hp : p < n
  · rw [scP_st hp]
    simp only [Bool.true_eq_false, if_false, if_true]
    by_cases hm : d p = nI 63 ∨ d p = nI 42 ∨ d p = nI 43
    · rw [if_pos hm]
    · rw [if_neg hm]
      by_cases h41 : d p = nI 41
      · rw [if_pos h41, if_pos (h1.resolve_left (fun q => q h41))]
      · rw [if_neg h41, if_neg (fun z => z.elim h2 h3)]
  · rw [scP_end (by omega), decide_eq_false (h4.resolve_left hp)]
    rfl
def nmR (m : Nat) (sn nm : Nat → Int32) : Prop := (∀ q, q < 8 → ∀ k, k < 32 → bq (sn q) k = decide (k < m ∧ nm k = nI (97 + q))) ∧ ∀ k, k < m → nmB (nm k) = true
def blF (m : Nat) (fo : Nat → Int32) : Prop := (∀ q, q < 10 → bl m (fo q)) ∧ ∀ q, q < 10 → m ≤ q → fo q = nI 0
def bls (S : PS) : Prop := blF S.ns S.fo
theorem blF_up {m m2 : Nat} {fo : Nat → Int32} (h : blF m fo) (hm : m ≤ m2) : blF m2 fo := ⟨fun q hq => bl_mono hm (h.1 q hq), fun q hq h2 => h.2 q hq (by omega)⟩
def pPre (d : Nat → Int32) (n f : Nat) (S : PS) : Prop := S.pl ≤ n ∧ S.ns + cc nmB d n S.pl ≤ 10 ∧ cc isP d n S.pl < f ∧ bls S
def pPost (d : Nat → Int32) (n : Nat) (S S' : PS) : Prop := S.pl < S'.pl ∧ S'.pl ≤ n ∧ S'.ns + cc nmB d n S'.pl ≤ 10 ∧ cc isP d n S'.pl ≤ cc isP d n S.pl ∧ bls S' ∧ S.ns ≤ S'.ns ∧ bl S'.ns S'.fi ∧ bl S'.ns S'.la
def scOk (d : Nat → Int32) (n : Nat) (S S' : PS) : Prop := ∀ L mk, scP d n S.pl L false mk = scP d n S'.pl L true true
def scNo (d : Nat → Int32) (n : Nat) (S : PS) : Prop := ∀ L mk, scP d n S.pl L false mk = false
def rSim (S : PS) (R : RS) : Prop := R.n = S.ns ∧ (∀ q, q < 10 → R.fo q = S.fo q) ∧ nmR S.ns S.sn R.nm
def simI (d : Nat → Int32) (n : Nat) (S S' : PS) : Prop := ∀ R : RS, R.lv + cc isP d n S.pl ≤ 6 → rSim S R → ∃ R' : RS, rdP d n S.pl R = rdP d n S'.pl R' ∧ R'.lv = R.lv ∧ (∀ i, i ≤ 2 * R.lv → R'.P i = R.P i) ∧
  R'.P (2 * R.lv + 1) = apQ (R.P (2 * R.lv + 1)) S'.fi S'.la S'.sk ∧ R'.n = S'.ns ∧ (∀ q, q < 10 → R'.fo q = apFo (R.P (2 * R.lv + 1)) S'.fo S'.fi q) ∧ nmR S'.ns S'.sn R'.nm
def simQ (d : Nat → Int32) (n : Nat) (S S' : PS) : Prop := ∀ R : RS, R.lv + cc isP d n S.pl ≤ 6 → rSim S R → R.P (2 * R.lv + 1) = pt0 → ∃ R' : RS, rdP d n S.pl R = rdP d n S'.pl R' ∧ R'.lv = R.lv ∧ (∀ i, i ≤ 2 * R.lv → R'.P i = R.P i) ∧
  R'.P (2 * R.lv + 1) = (true, S'.fi, S'.la, S'.sk) ∧ rSim S' R'
def simE (d : Nat → Int32) (n : Nat) (S S' : PS) : Prop := ∀ R : RS, R.lv + cc isP d n S.pl ≤ 6 → rSim S R → R.P (2 * R.lv) = pt0 → R.P (2 * R.lv + 1) = pt0 → ∃ R' : RS, rdP d n S.pl R = rdP d n S'.pl R' ∧ R'.lv = R.lv ∧ (∀ i, i < 2 * R.lv → R'.P i = R.P i) ∧
  chQ (R'.P (2 * R.lv)) (R'.P (2 * R.lv + 1)) = (true, S'.fi, S'.la, S'.sk) ∧ rSim S' R'
/-- what is known of a piece's reader: it reads what the scan takes, and the reference's machine does the same -/
def gdI (d : Nat → Int32) (n f : Nat) (P : PS → Option PS) : Prop := ∀ S, pPre d n f S → (P S = none → scNo d n S) ∧ (∀ S', P S = some S' → pPost d n S S' ∧ scOk d n S S' ∧ simI d n S S')
def gdQ (d : Nat → Int32) (n f : Nat) (P : PS → Option PS) : Prop := ∀ S, pPre d n f S → (P S = none → scNo d n S) ∧ (∀ S', P S = some S' → pPost d n S S' ∧ scOk d n S S' ∧ ¬ d S'.pl = nI 44 ∧ simQ d n S S')
def gdE (d : Nat → Int32) (n f : Nat) (P : PS → Option PS) : Prop := ∀ S, pPre d n f S → (P S = none → scNo d n S) ∧ (∀ S', P S = some S' → pPost d n S S' ∧ scOk d n S S' ∧ ¬ d S'.pl = nI 44 ∧ ¬ d S'.pl = nI 124 ∧ simE d n S S')
theorem lk_jn {fo g : Nat → Int32} {x y : Int32} (h : ∀ q, q < 10 → g q = fo q) : ∀ q, q < 10 → lkP g x y q = jnF fo x y 11 q := by
  intro q hq
  unfold lkP jnF
  rw [h q hq]
  by_cases hb : bq x q = true
  · rw [if_pos ⟨hq, (bq_tst1 x (by omega)).mpr hb⟩, if_pos ⟨by omega, fun z => absurd ((bq_tst0 x (by omega)).mp z) (by rw [hb]; decide)⟩]
  · have hb' : bq x q = false := by simpa using hb
    rw [if_neg (fun z => hb ((bq_tst1 x (by omega)).mp z.2)), if_neg (fun z => z.2 ((bq_tst0 x (by omega)).mpr hb'))]
theorem lk_cg {fo g : Nat → Int32} {x y : Int32} (h : ∀ q, q < 10 → g q = fo q) : ∀ q, q < 10 → lkP g x y q = lkP fo x y q := by
  intro q hq
  unfold lkP
  rw [h q hq]
theorem jn_bl {m : Nat} {fo : Nat → Int32} {x y : Int32} (h : blF m fo) (hx : bl m x) (hy : bl m y) : blF m (jnF fo x y 11) := by
  refine ⟨fun q hq => ?_, fun q hq hm => ?_⟩
  · unfold jnF
    split
    · exact bl_or (h.1 q hq) hy
    · exact h.1 q hq
  · unfold jnF
    rw [if_neg (fun z => z.2 ((bq_tst0 x (by omega)).mpr (hx q (by omega) hm)))]
    exact h.2 q hq hm
end PR2
section PR3
variable {d : Nat → Int32} {n : Nat}
theorem ap_cg {q : Pt} {g fo : Nat → Int32} {f : Int32} (h : ∀ q, q < 10 → g q = fo q) : ∀ i, i < 10 → apFo q g f i = apFo q fo f i := by
  intro i hi
  unfold apFo
  split
  · exact lk_cg h i hi
  · exact h i hi
theorem mk_c (S : PS) : (d S.pl = nI 63 ∧ pMark d S = psM (S.pl + 1) S.fi S.la true S.ns S.fo S.sn) ∨ (d S.pl = nI 42 ∧ pMark d S = psM (S.pl + 1) S.fi S.la true S.ns (jnF S.fo S.la S.fi 11) S.sn)
    ∨ (d S.pl = nI 43 ∧ pMark d S = psM (S.pl + 1) S.fi S.la S.sk S.ns (jnF S.fo S.la S.fi 11) S.sn) ∨ (¬ isMk (d S.pl) ∧ pMark d S = S) := by
  unfold pMark
  by_cases h1 : d S.pl = nI 63
  · exact Or.inl ⟨h1, if_pos h1⟩
  · by_cases h2 : d S.pl = nI 42
    · exact Or.inr (Or.inl ⟨h2, by rw [if_neg h1, if_pos h2]⟩)
    · by_cases h3 : d S.pl = nI 43
      · exact Or.inr (Or.inr (Or.inl ⟨h3, by rw [if_neg h1, if_neg h2, if_pos h3]⟩))
      · exact Or.inr (Or.inr (Or.inr ⟨fun z => z.elim h1 (fun z => z.elim h2 h3), by rw [if_neg h1, if_neg h2, if_neg h3]⟩))
theorem lt_of_ch (hd : ∀ p, n ≤ p → d p = -1) {p : Nat} {c : Int32} (hc : ¬ c = -1) (h : d p = c) : p < n :=
  Classical.byContradiction (fun q => hc (h ▸ hd p (by omega)))
theorem mk_sc (hd : ∀ p, n ≤ p → d p = -1) (S : PS) (L : Nat) : scP d n S.pl L true false = scP d n (pMark d S).pl L true true := by
  have hm : ∀ c, d S.pl = c → ¬ c = -1 → isMk (d S.pl) → scP d n S.pl L true false = scP d n (S.pl + 1) L true true := by
    intro c h hc hk
    rw [scP_st (lt_of_ch hd hc h)]
    have hk' : d S.pl = nI 63 ∨ d S.pl = nI 42 ∨ d S.pl = nI 43 := hk
    simp only [Bool.true_eq_false, if_false, Bool.false_eq_true, if_pos hk']
  rcases mk_c (d := d) S with ⟨h, e⟩ | ⟨h, e⟩ | ⟨h, e⟩ | ⟨h, e⟩
  · rw [e]; exact hm _ h (by decide) (Or.inl h)
  · rw [e]; exact hm _ h (by decide) (Or.inr (Or.inl h))
  · rw [e]; exact hm _ h (by decide) (Or.inr (Or.inr h))
  · rw [e]; exact scP_mk (Or.inr h)
theorem mk_rd {p L m : Nat} {P : Nat → Pt} {fo nm : Nat → Int32} {S : PS} (hp : S.pl = p + 1) (hfo : ∀ q, q < 10 → fo q = S.fo q) :
    (rdIt d p L m P fo nm S.fi S.la S.sk).1 = (pMark d S).pl ∧ (rdIt d p L m P fo nm S.fi S.la S.sk).2.P = va_up P (2 * L + 1) (apQ (P (2 * L + 1)) (pMark d S).fi (pMark d S).la (pMark d S).sk) ∧
    (∀ q, q < 10 → (rdIt d p L m P fo nm S.fi S.la S.sk).2.fo q = apFo (P (2 * L + 1)) (pMark d S).fo (pMark d S).fi q) := by
  unfold rdIt
  rw [← hp]
  show (if isAg (d S.pl) = true ∨ d S.pl = nI 63 then p + 2 else S.pl) = (pMark d S).pl ∧ va_up P (2 * L + 1) (apQ (P (2 * L + 1)) S.fi S.la (S.sk || decide (d S.pl = nI 42) || decide (d S.pl = nI 63))) = va_up P (2 * L + 1) (apQ (P (2 * L + 1)) (pMark d S).fi (pMark d S).la (pMark d S).sk) ∧ (∀ q, q < 10 → apFo (P (2 * L + 1)) (if isAg (d S.pl) = true then lkP fo S.la S.fi else fo) S.fi q = apFo (P (2 * L + 1)) (pMark d S).fo (pMark d S).fi q)
  rcases mk_c (d := d) S with ⟨h, e⟩ | ⟨h, e⟩ | ⟨h, e⟩ | ⟨h, e⟩
  · rw [e, h]
    refine ⟨?_, ?_, ?_⟩
    · rw [if_pos (Or.inr rfl)]; show _ = S.pl + 1; omega
    · rw [decide_eq_true rfl, Bool.or_true]; rfl
    · intro q hq
      rw [if_neg (by decide)]
      exact ap_cg hfo q hq
  · rw [e, h]
    refine ⟨?_, ?_, ?_⟩
    · rw [if_pos (Or.inl (by decide))]; show _ = S.pl + 1; omega
    · rw [decide_eq_true rfl, Bool.or_true, Bool.true_or]; rfl
    · intro q hq
      rw [if_pos (by decide)]
      exact ap_cg (lk_jn hfo) q hq
  · rw [e, h]
    refine ⟨?_, ?_, ?_⟩
    · rw [if_pos (Or.inl (by decide))]; show _ = S.pl + 1; omega
    · rw [decide_eq_false (by decide), decide_eq_false (by decide), Bool.or_false, Bool.or_false]; rfl
    · intro q hq
      rw [if_pos (by decide)]
      exact ap_cg (lk_jn hfo) q hq
  · have a1 : ¬ d S.pl = nI 63 := fun z => h (Or.inl z)
    have a2 : ¬ d S.pl = nI 42 := fun z => h (Or.inr (Or.inl z))
    have a3 : ¬ d S.pl = nI 43 := fun z => h (Or.inr (Or.inr z))
    have a4 : isAg (d S.pl) = false := by unfold isAg; rw [decide_eq_false a2, decide_eq_false a3]; rfl
    rw [e, a4]
    refine ⟨?_, ?_, ?_⟩
    · rw [if_neg (fun z => z.elim (by decide) a1)]
    · rw [decide_eq_false a1, decide_eq_false a2, Bool.or_false, Bool.or_false]
    · intro q hq
      rw [if_neg (by decide)]
      exact ap_cg hfo q hq
theorem mk_po (hd : ∀ p, n ≤ p → d p = -1) {S : PS} (hp : S.pl ≤ n) (hb : bls S) (hf : bl S.ns S.fi) (hl : bl S.ns S.la) : S.pl ≤ (pMark d S).pl ∧ (pMark d S).pl ≤ n ∧ (pMark d S).ns = S.ns ∧ (pMark d S).sn = S.sn ∧ (pMark d S).fi = S.fi ∧ (pMark d S).la = S.la ∧ bls (pMark d S) ∧ (∀ Q, cc Q d n (pMark d S).pl ≤ cc Q d n S.pl) := by
  rcases mk_c (d := d) S with ⟨h, e⟩ | ⟨h, e⟩ | ⟨h, e⟩ | ⟨h, e⟩
  · have := lt_of_ch hd (by decide) h
    rw [e]; exact ⟨Nat.le_succ _, this, rfl, rfl, rfl, rfl, hb, fun Q => cc_le⟩
  · have := lt_of_ch hd (by decide) h
    rw [e]; exact ⟨Nat.le_succ _, this, rfl, rfl, rfl, rfl, jn_bl hb hl hf, fun Q => cc_le⟩
  · have := lt_of_ch hd (by decide) h
    rw [e]; exact ⟨Nat.le_succ _, this, rfl, rfl, rfl, rfl, jn_bl hb hl hf, fun Q => cc_le⟩
  · rw [e]; exact ⟨Nat.le_refl _, hp, rfl, rfl, rfl, rfl, hb, fun Q => Nat.le_refl _⟩
theorem pTk_c (c : Int32) (S : PS) : (d S.pl = c ∧ pTk d c S = some (psM (S.pl + 1) S.fi S.la S.sk S.ns S.fo S.sn)) ∨ (¬ d S.pl = c ∧ pTk d c S = none) := by
  unfold pTk
  by_cases h : d S.pl = c
  · exact Or.inl ⟨h, if_pos h⟩
  · exact Or.inr ⟨h, if_neg h⟩
theorem nm_no {c : Int32} (h : nmB c = true) : ¬ c = nI 40 ∧ ¬ c = nI 124 ∧ ¬ c = nI 44 ∧ ¬ c = nI 41 ∧ ¬ c = -1 := by
  refine ⟨?_, ?_, ?_, ?_, ?_⟩ <;> (intro z; rw [z] at h; exact absurd h (by decide))
theorem nmQx {c : Int32} (h : nmB c = true) : ∃ q, q < 8 ∧ c = nI (97 + q) ∧ (c.toInt - 97).toNat = q := by
  unfold nmB at h
  rw [Bool.and_eq_true, decide_eq_true_eq, decide_eq_true_eq] at h
  refine ⟨(c.toInt - 97).toNat, by omega, ?_, rfl⟩
  refine Int32.toInt_inj.mp ?_
  rw [nI_t (by omega)]
  omega
/-- a name's part -/
theorem gd_nm (hd : ∀ p, n ≤ p → d p = -1) {S : PS} (h : S.pl ≤ n ∧ S.ns + cc nmB d n S.pl ≤ 10 ∧ bls S) (hnm : nmB (d S.pl) = true) :
    pPost d n S (pMark d (pNam (d S.pl) S)) ∧ scOk d n S (pMark d (pNam (d S.pl) S)) ∧ simI d n S (pMark d (pNam (d S.pl) S)) ∧ S.ns < 10 := by
  obtain ⟨hpl, hns, hb⟩ := h
  have hlt : S.pl < n := lt_of_ch hd (nm_no hnm).2.2.2.2 rfl
  have hcc := cc_hit hlt hnm
  have hns9 : S.ns < 10 := by omega
  have hb1 : bls (pNam (d S.pl) S) := blF_up hb (Nat.le_succ _)
  have ho : bl (S.ns + 1) (nI 1 <<< (nI S.ns &&& 31)) := bl_one (by omega)
  have hpo := mk_po hd (S := pNam (d S.pl) S) hlt hb1 ho ho
  obtain ⟨o1, o2, o3, o4, o5, o6, o7, o8⟩ := hpo
  have e1 : (pNam (d S.pl) S).pl = S.pl + 1 := rfl
  refine ⟨⟨by omega, o2, ?_, ?_, o7, ?_, ?_, ?_⟩, ?_, ?_, hns9⟩
  · have := o8 nmB
    rw [o3]
    show S.ns + 1 + _ ≤ 10
    rw [e1] at this
    omega
  · exact Nat.le_trans (o8 isP) cc_le
  · rw [o3]; exact Nat.le_succ _
  · rw [o3, o5]; exact ho
  · rw [o3, o6]; exact ho
  · intro L mk
    rw [scP_st hlt, if_pos rfl, if_neg (nm_no hnm).1, if_pos hnm]
    exact mk_sc hd (pNam (d S.pl) S) L
  · intro R hl hR
    obtain ⟨r1, r2, r3⟩ := hR
    have hrd : rdS d S.pl R = some (rdIt d S.pl R.lv (R.n + 1) R.P R.fo (va_up R.nm R.n (d S.pl)) (nI 1 <<< (nI R.n &&& 31)) (nI 1 <<< (nI R.n &&& 31)) false) := by
      unfold rdS
      rw [if_neg (nm_no hnm).1, if_neg (nm_no hnm).2.1, if_neg (nm_no hnm).2.2.1, if_neg (nm_no hnm).2.2.2.1, if_pos (by omega)]
    rw [r1] at hrd
    have hm := mk_rd (d := d) (p := S.pl) (L := R.lv) (m := S.ns + 1) (P := R.P) (fo := R.fo) (nm := va_up R.nm S.ns (d S.pl)) (S := pNam (d S.pl) S) rfl r2
    refine ⟨(rdIt d S.pl R.lv (S.ns + 1) R.P R.fo (va_up R.nm S.ns (d S.pl)) (nI 1 <<< (nI S.ns &&& 31)) (nI 1 <<< (nI S.ns &&& 31)) false).2, ?_, rfl, ?_, ?_, ?_, hm.2.2, ?_⟩
    · rw [rdP_st hlt hrd]
      exact congrArg (fun z => rdP d n z _) hm.1
    · intro i hi
      refine (congrFun hm.2.1 i).trans (va_up_ne _ _ (by omega))
    · exact (congrFun hm.2.1 _).trans (va_up_self _ _ _)
    · rw [o3]; rfl
    · rw [o3, o4]
      obtain ⟨q0, hq0, hc, hq1⟩ := nmQx hnm
      refine ⟨?_, ?_⟩
      · intro q hq k hk
        show bq (va_up S.sn ((d S.pl).toInt - 97).toNat _ q) k = decide (k < S.ns + 1 ∧ va_up R.nm S.ns (d S.pl) k = nI (97 + q))
        rw [hq1]
        have a1 : (97 + q0 = 97 + q) ↔ q = q0 := by omega
        by_cases hqq : q = q0
        · subst hqq
          rw [va_up_self, bq_or, r3.1 q hq k hk, bq_one S.ns (by omega) k hk]
          by_cases hk2 : k = S.ns
          · subst hk2
            rw [va_up_self, hc]
            simp
          · rw [va_up_ne _ _ hk2]
            simp only [hk2, decide_false, Bool.or_false]
            exact decide_eq_decide.mpr ⟨fun z => ⟨by omega, z.2⟩, fun z => ⟨by omega, z.2⟩⟩
        · rw [va_up_ne _ _ hqq, r3.1 q hq k hk]
          by_cases hk2 : k = S.ns
          · subst hk2
            rw [va_up_self, hc, decide_eq_false (by omega), decide_eq_false]
            rintro ⟨_, z⟩
            exact hqq (a1.mp ((n_eq (by omega) (by omega)).mp z))
          · rw [va_up_ne _ _ hk2]
            exact decide_eq_decide.mpr ⟨fun z => ⟨by omega, z.2⟩, fun z => ⟨by omega, z.2⟩⟩
      · intro k hk
        show nmB (va_up R.nm S.ns (d S.pl) k) = true
        by_cases hk2 : k = S.ns
        · subst hk2
          rw [va_up_self]; exact hnm
        · rw [va_up_ne _ _ hk2]
          refine r3.2 k ?_
          have : k < S.ns + 1 := hk
          omega
end PR3
section PR4
variable {d : Nat → Int32} {n : Nat}
theorem chPs_a {P : Nat → Pt} {L : Nat} : chPs P L (2 * L) = chQ (P (2 * L)) (P (2 * L + 1)) := by
  unfold chPs
  rw [va_up_ne _ _ (by omega), va_up_self]
theorem chPs_s {P : Nat → Pt} {L : Nat} : chPs P L (2 * L + 1) = pt0 := va_up_self _ _ _
theorem chPs_o {P : Nat → Pt} {L i : Nat} (h : i < 2 * L) : chPs P L i = P i := by
  unfold chPs
  rw [va_up_ne _ _ (by omega), va_up_ne _ _ (by omega)]
theorem gd_it (hd : ∀ p, n ≤ p → d p = -1) {f : Nat} {E : PS → Option PS} (hE : gdE d n f E) : gdI d n (f + 1) (pItem d E) := by
  intro S hS
  obtain ⟨p1, p2, p3, p4⟩ := hS
  rcases pTk_c (d := d) (nI 40) S with ⟨h40, e40⟩ | ⟨h40, e40⟩
  · have hlt := lt_of_ch hd (by decide) h40
    have hcp : cc isP d n S.pl = 1 + cc isP d n (S.pl + 1) := cc_hit hlt (by rw [h40]; decide)
    have hcn : cc nmB d n (S.pl + 1) ≤ cc nmB d n S.pl := cc_le
    generalize hS1 : psM (S.pl + 1) S.fi S.la S.sk S.ns S.fo S.sn = S1 at e40
    have w1 : S1.pl = S.pl + 1 := by rw [← hS1]; rfl
    have w2 : S1.ns = S.ns := by rw [← hS1]; rfl
    have w3 : S1.fo = S.fo := by rw [← hS1]; rfl
    have w4 : S1.sn = S.sn := by rw [← hS1]; rfl
    have hE1 := hE S1 ⟨by omega, by rw [w1, w2]; omega, by rw [w1]; omega, by unfold bls; rw [w2, w3]; exact p4⟩
    have sc1 : ∀ L mk, scP d n S.pl L false mk = scP d n S1.pl (L + 1) false false := by
      intro L mk
      rw [scP_st hlt, if_pos rfl, if_pos h40, w1]
    have hit : pItem d E S = (E S1).bind fun S2 => (pTk d (nI 41) S2).bind fun S3 => some (pMark d S3) := by
      unfold pItem
      rw [e40]
    cases hes : E S1 with
    | none =>
      rw [hit, hes]
      refine ⟨fun _ L mk => ?_, fun S' z => (by cases z)⟩
      rw [sc1]
      exact hE1.1 hes _ _
    | some S2 =>
      obtain ⟨⟨q1, q2, q3, q4, q5, q6, q7, q8⟩, sc2, st1, st2, sm⟩ := hE1.2 S2 hes
      rw [hit, hes, Option.bind_some]
      rcases pTk_c (d := d) (nI 41) S2 with ⟨h41, e41⟩ | ⟨h41, e41⟩
      · rw [e41, Option.bind_some]
        refine ⟨fun z => (by cases z), fun S' z => ?_⟩
        cases z
        have hlt2 := lt_of_ch hd (by decide) h41
        generalize hS3 : psM (S2.pl + 1) S2.fi S2.la S2.sk S2.ns S2.fo S2.sn = S3
        have v1 : S3.pl = S2.pl + 1 := by rw [← hS3]; rfl
        have v2 : S3.ns = S2.ns := by rw [← hS3]; rfl
        have v3 : S3.fo = S2.fo := by rw [← hS3]; rfl
        have v4 : S3.sn = S2.sn := by rw [← hS3]; rfl
        have v5 : S3.fi = S2.fi := by rw [← hS3]; rfl
        have v6 : S3.la = S2.la := by rw [← hS3]; rfl
        have v7 : S3.sk = S2.sk := by rw [← hS3]; rfl
        obtain ⟨o1, o2, o3, o4, o5, o6, o7, o8⟩ := mk_po hd (S := S3) (by omega) (by unfold bls; rw [v2, v3]; exact q5) (by rw [v2, v5]; exact q7) (by rw [v2, v6]; exact q8)
        have c1 : cc nmB d n (pMark d S3).pl ≤ cc nmB d n S2.pl := Nat.le_trans (o8 nmB) (by rw [v1]; exact cc_le)
        have c2 : cc isP d n (pMark d S3).pl ≤ cc isP d n S2.pl := Nat.le_trans (o8 isP) (by rw [v1]; exact cc_le)
        refine ⟨⟨by omega, o2, by rw [o3, v2]; omega, by rw [w1] at q4; omega, o7, by rw [o3, v2]; omega, by rw [o3, o5, v2, v5]; exact q7, by rw [o3, o6, v2, v6]; exact q8⟩, ?_, ?_⟩
        · intro L mk
          rw [sc1, sc2, scP_st hlt2]
          simp only [Bool.true_eq_false, if_false, h41, if_neg (show ¬ (nI 41 = nI 63 ∨ nI 41 = nI 42 ∨ nI 41 = nI 43) by decide), if_true, if_neg (Nat.succ_ne_zero L), Nat.add_sub_cancel]
          rw [← v1]
          exact mk_sc hd S3 L
        · intro R hl hR
          obtain ⟨r1, r2, r3⟩ := hR
          have hrd : rdS d S.pl R = some (S.pl + 1, (R.lv + 1, R.n, va_up (va_up R.P (2 * (R.lv + 1)) pt0) (2 * (R.lv + 1) + 1) pt0, R.fo, R.nm)) := by
            unfold rdS
            rw [if_pos h40, if_pos (by omega)]
          obtain ⟨R2, a1, a2, a3, a4, a5, a6, a7⟩ := sm (R.lv + 1, R.n, va_up (va_up R.P (2 * (R.lv + 1)) pt0) (2 * (R.lv + 1) + 1) pt0, R.fo, R.nm) (by show R.lv + 1 + _ ≤ 6; rw [w1]; omega) ⟨by rw [w2]; exact r1, by rw [w3]; exact r2, by rw [w2, w4]; exact r3⟩ (by show va_up _ _ _ (2 * (R.lv + 1)) = pt0; rw [va_up_ne _ _ (by omega), va_up_self]) (va_up_self _ _ _)
          have b2 : R2.lv = R.lv + 1 := a2
          have b4 : chQ (R2.P (2 * R2.lv)) (R2.P (2 * R2.lv + 1)) = (true, S2.fi, S2.la, S2.sk) := by rw [b2]; exact a4
          have b3 : ∀ i, i < 2 * (R.lv + 1) → chPs R2.P R2.lv i = R.P i := by
            intro i hi
            rw [chPs_o (by rw [b2]; omega), a3 i hi]
            show va_up _ _ _ i = _
            rw [va_up_ne _ _ (by omega), va_up_ne _ _ (by omega)]
          have hrd2 : rdS d S2.pl R2 = some (rdIt d S2.pl R.lv S2.ns (chPs R2.P R2.lv) R2.fo R2.nm S3.fi S3.la S3.sk) := by
            unfold rdS
            rw [if_neg (by rw [h41]; decide), if_neg (by rw [h41]; decide), if_neg (by rw [h41]; decide), if_pos h41, if_neg (by omega), chPs_a, b4, a5, v5, v6, v7, b2]
            rfl
          have hm := mk_rd (d := d) (p := S2.pl) (L := R.lv) (m := S2.ns) (P := chPs R2.P R2.lv) (fo := R2.fo) (nm := R2.nm) (S := S3) v1 (by rw [v3]; exact a6)
          rw [b3 (2 * R.lv + 1) (by omega)] at hm
          refine ⟨_, (rdP_st hlt hrd).trans ?_, ?_, ?_, ?_, ?_, hm.2.2, ?_⟩
          · show rdP d n (S.pl + 1) _ = _
            rw [← w1, a1, rdP_st hlt2 hrd2]
            exact congrArg (fun z => rdP d n z _) hm.1
          · rfl
          · intro i hi
            rw [hm.2.1, va_up_ne _ _ (by omega)]
            exact b3 i (by omega)
          · rw [hm.2.1, va_up_self]
          · rw [o3, v2]; rfl
          · rw [o3, o4, v2, v4]; exact a7
      · rw [e41]
        refine ⟨fun _ L mk => ?_, fun S' z => (by cases z)⟩
        rw [sc1, sc2]
        exact scP_no (Or.inl h41) st2 st1 (Or.inr (by omega))
  · have hit : pItem d E S = (pName d S).bind fun S1 => some (pMark d S1) := by
      unfold pItem
      rw [e40]
    rw [hit]
    unfold pName
    by_cases hnm : nmB (d S.pl) = true
    · obtain ⟨g1, g2, g3, g4⟩ := gd_nm hd ⟨p1, p2, p4⟩ hnm
      rw [if_pos ⟨g4, hnm⟩, Option.bind_some]
      refine ⟨fun z => (by cases z), fun S' z => ?_⟩
      cases z
      exact ⟨g1, g2, g3⟩
    · rw [if_neg (fun z => hnm z.2)]
      refine ⟨fun _ L mk => ?_, fun S' z => (by cases z)⟩
      by_cases hp : S.pl < n
      · rw [scP_st hp, if_pos rfl, if_neg h40, if_neg hnm]
      · rw [scP_end (by omega)]
        rfl
/-- a list's rest: what stands behind the state S of a sequence -/
theorem gd_ql (hd : ∀ p, n ≤ p → d p = -1) {f : Nat} {I : PS → Option PS} (hI : gdI d n f I) : ∀ (k : Nat) (S0 S : PS), n < S.pl + k → pPost d n S0 S → scOk d n S0 S → cc isP d n S.pl < f →
    (pSeqL d I k S = none → scNo d n S0) ∧ (∀ S', pSeqL d I k S = some S' → pPost d n S0 S' ∧ scOk d n S0 S' ∧ ¬ d S'.pl = nI 44 ∧
      ∀ R : RS, R.lv + cc isP d n S.pl ≤ 6 → rSim S R → R.P (2 * R.lv + 1) = (true, S.fi, S.la, S.sk) → ∃ R' : RS, rdP d n S.pl R = rdP d n S'.pl R' ∧ R'.lv = R.lv ∧ (∀ i, i ≤ 2 * R.lv → R'.P i = R.P i) ∧ R'.P (2 * R.lv + 1) = (true, S'.fi, S'.la, S'.sk) ∧ rSim S' R') := by
  intro k
  induction k with
  | zero =>
    intro S0 S hk hp
    have := hp.2.1
    omega
  | succ k ih =>
    intro S0 S hk hp hsc hf
    rw [pSeqL]
    rcases pTk_c (d := d) (nI 44) S with ⟨h44, e44⟩ | ⟨h44, e44⟩
    · rw [e44]
      have hlt := lt_of_ch hd (by decide) h44
      generalize hS1 : psM (S.pl + 1) S.fi S.la S.sk S.ns S.fo S.sn = S1
      have w1 : S1.pl = S.pl + 1 := by rw [← hS1]; rfl
      have w2 : S1.ns = S.ns := by rw [← hS1]; rfl
      have w3 : S1.fo = S.fo := by rw [← hS1]; rfl
      have w4 : S1.sn = S.sn := by rw [← hS1]; rfl
      obtain ⟨p1, p2, p3, p4, p5, p6, p7, p8⟩ := hp
      have hcn : cc nmB d n (S.pl + 1) ≤ cc nmB d n S.pl := cc_le
      have hcp : cc isP d n (S.pl + 1) ≤ cc isP d n S.pl := cc_le
      have hI1 := hI S1 ⟨by omega, by rw [w1, w2]; omega, by rw [w1]; omega, by unfold bls; rw [w2, w3]; exact p5⟩
      have sc1 : ∀ L mk, scP d n S0.pl L false mk = scP d n S1.pl L false true := by
        intro L mk
        rw [hsc, scP_st hlt, w1]
        simp only [Bool.true_eq_false, if_false, h44, if_neg (show ¬ (nI 44 = nI 63 ∨ nI 44 = nI 42 ∨ nI 44 = nI 43) by decide), if_neg (show ¬ nI 44 = nI 41 by decide), or_true, if_true]
      dsimp only
      cases hes : I S1 with
      | none =>
        refine ⟨fun _ L mk => ?_, fun S' z => (by cases z)⟩
        rw [sc1]
        exact hI1.1 hes _ _
      | some S2 =>
        obtain ⟨⟨q1, q2, q3, q4, q5, q6, q7, q8⟩, sc2, sm⟩ := hI1.2 S2 hes
        rw [Option.bind_some]
        have z1 : (pSq S S2).pl = S2.pl := rfl
        have z2 : (pSq S S2).ns = S2.ns := rfl
        have hfi : bl S2.ns S.fi := bl_mono (by omega) p7
        have hla : bl S2.ns S.la := bl_mono (by omega) p8
        have ih1 := ih S0 (pSq S S2) (by rw [z1]; omega) ⟨by rw [z1]; omega, by rw [z1]; omega, by rw [z1, z2]; exact q3, by rw [z1]; rw [w1] at q4; omega, jn_bl q5 hla q7, by rw [z2]; omega, by
            show bl S2.ns (if S.sk = true then S.fi ||| S2.fi else S.fi)
            split
            · exact bl_or hfi q7
            · exact hfi, by
            show bl S2.ns (if S2.sk = true then S.la ||| S2.la else S2.la)
            split
            · exact bl_or hla q8
            · exact q8⟩ (by intro L mk; rw [sc1, sc2, z1]) (by rw [z1]; rw [w1] at q4; omega)
        refine ⟨ih1.1, fun S' hs => ?_⟩
        obtain ⟨y1, y2, y3, y4⟩ := ih1.2 S' hs
        refine ⟨y1, y2, y3, fun R hl hR hP => ?_⟩
        obtain ⟨r1, r2, r3⟩ := hR
        have hrd : rdS d S.pl R = some (S.pl + 1, R) := by
          unfold rdS
          rw [if_neg (by rw [h44]; decide), if_neg (by rw [h44]; decide), if_pos h44]
        obtain ⟨R2, a1, a2, a3, a4, a5, a6, a7⟩ := sm R (by rw [w1]; omega) ⟨by rw [w2]; exact r1, by rw [w3]; exact r2, by rw [w2, w4]; exact r3⟩
        rw [hP] at a4 a6
        obtain ⟨R3, b1, b2, b3, b4, b5⟩ := y4 R2 (by rw [a2, z1]; rw [w1] at q4; omega) ⟨a5, fun q hq => by rw [a6 q hq]; exact lk_jn (fun _ _ => rfl) q hq, a7⟩ (by rw [a2, a4]; unfold apQ; rw [if_pos rfl]; show (true, _, _, _) = (true, _, _, _); rw [Bool.and_comm]; rfl)
        refine ⟨R3, ?_, b2.trans a2, fun i hi => ?_, ?_, b5⟩
        · rw [rdP_st hlt hrd]
          show rdP d n (S.pl + 1) R = _
          rw [← w1, a1, ← z1, b1]
        · rw [b3 i (by omega), a3 i hi]
        · rw [← a2]; exact b4
    · rw [e44]
      refine ⟨fun z => (by cases z), fun S' z => ?_⟩
      cases z
      exact ⟨hp, hsc, h44, fun R _ hR hP => ⟨R, rfl, rfl, fun _ _ => rfl, hP, hR⟩⟩
end PR4
section PR5
variable {d : Nat → Int32} {n : Nat}
theorem gd_sq (hd : ∀ p, n ≤ p → d p = -1) (hn : n ≤ 40) {f : Nat} {I : PS → Option PS} (hI : gdI d n f I) : gdQ d n f (pSeq d I) := by
  intro S hS
  have hI1 := hI S hS
  unfold pSeq
  cases hes : I S with
  | none => exact ⟨fun _ => hI1.1 hes, fun S' z => (by cases z)⟩
  | some S1 =>
    rw [Option.bind_some]
    obtain ⟨po, sc, sm⟩ := hI1.2 S1 hes
    obtain ⟨q1, q2, q3, q4, q5, q6, q7, q8⟩ := po
    have hl := gd_ql hd hI 40 S S1 (by omega) ⟨q1, q2, q3, q4, q5, q6, q7, q8⟩ sc (Nat.lt_of_le_of_lt q4 hS.2.2.1)
    refine ⟨hl.1, fun S' z => ?_⟩
    obtain ⟨y1, y2, y3, y4⟩ := hl.2 S' z
    refine ⟨y1, y2, y3, fun R hlv hR hP => ?_⟩
    obtain ⟨R2, a1, a2, a3, a4, a5, a6, a7⟩ := sm R hlv hR
    rw [hP] at a4 a6
    obtain ⟨R3, b1, b2, b3, b4, b5⟩ := y4 R2 (by rw [a2]; omega) ⟨a5, a6, a7⟩ (by rw [a2]; exact a4)
    refine ⟨R3, a1.trans b1, b2.trans a2, fun i hi => ?_, ?_, b5⟩
    · rw [b3 i (by omega), a3 i hi]
    · rw [← a2]; exact b4
theorem gd_el (hd : ∀ p, n ≤ p → d p = -1) {f : Nat} {I : PS → Option PS} (hI : gdQ d n f I) : ∀ (k : Nat) (S0 S : PS), n < S.pl + k → pPost d n S0 S → scOk d n S0 S → ¬ d S.pl = nI 44 → cc isP d n S.pl < f →
    (pExpL d I k S = none → scNo d n S0) ∧ (∀ S', pExpL d I k S = some S' → pPost d n S0 S' ∧ scOk d n S0 S' ∧ ¬ d S'.pl = nI 44 ∧ ¬ d S'.pl = nI 124 ∧
      ∀ R : RS, R.lv + cc isP d n S.pl ≤ 6 → rSim S R → chQ (R.P (2 * R.lv)) (R.P (2 * R.lv + 1)) = (true, S.fi, S.la, S.sk) → ∃ R' : RS, rdP d n S.pl R = rdP d n S'.pl R' ∧ R'.lv = R.lv ∧ (∀ i, i < 2 * R.lv → R'.P i = R.P i) ∧ chQ (R'.P (2 * R.lv)) (R'.P (2 * R.lv + 1)) = (true, S'.fi, S'.la, S'.sk) ∧ rSim S' R') := by
  intro k
  induction k with
  | zero =>
    intro S0 S hk hp
    have := hp.2.1
    omega
  | succ k ih =>
    intro S0 S hk hp hsc h44 hf
    rw [pExpL]
    rcases pTk_c (d := d) (nI 124) S with ⟨h24, e24⟩ | ⟨h24, e24⟩
    · rw [e24]
      have hlt := lt_of_ch hd (by decide) h24
      generalize hS1 : psM (S.pl + 1) S.fi S.la S.sk S.ns S.fo S.sn = S1
      have w1 : S1.pl = S.pl + 1 := by rw [← hS1]; rfl
      have w2 : S1.ns = S.ns := by rw [← hS1]; rfl
      have w3 : S1.fo = S.fo := by rw [← hS1]; rfl
      have w4 : S1.sn = S.sn := by rw [← hS1]; rfl
      obtain ⟨p1, p2, p3, p4, p5, p6, p7, p8⟩ := hp
      have hcn : cc nmB d n (S.pl + 1) ≤ cc nmB d n S.pl := cc_le
      have hcp : cc isP d n (S.pl + 1) ≤ cc isP d n S.pl := cc_le
      have hI1 := hI S1 ⟨by omega, by rw [w1, w2]; omega, by rw [w1]; omega, by unfold bls; rw [w2, w3]; exact p5⟩
      have sc1 : ∀ L mk, scP d n S0.pl L false mk = scP d n S1.pl L false true := by
        intro L mk
        rw [hsc, scP_st hlt, w1]
        simp only [Bool.true_eq_false, if_false, h24, if_neg (show ¬ (nI 124 = nI 63 ∨ nI 124 = nI 42 ∨ nI 124 = nI 43) by decide), if_neg (show ¬ nI 124 = nI 41 by decide), true_or, if_true]
      dsimp only
      cases hes : I S1 with
      | none =>
        refine ⟨fun _ L mk => ?_, fun S' z => (by cases z)⟩
        rw [sc1]
        exact hI1.1 hes _ _
      | some S2 =>
        obtain ⟨⟨q1, q2, q3, q4, q5, q6, q7, q8⟩, sc2, st2, sm⟩ := hI1.2 S2 hes
        rw [Option.bind_some]
        have z1 : (pEx S S2).pl = S2.pl := rfl
        have z2 : (pEx S S2).ns = S2.ns := rfl
        have hfi : bl S2.ns S.fi := bl_mono (by omega) p7
        have hla : bl S2.ns S.la := bl_mono (by omega) p8
        have ih1 := ih S0 (pEx S S2) (by rw [z1]; omega) ⟨by rw [z1]; omega, by rw [z1]; omega, by rw [z1, z2]; exact q3, by rw [z1]; rw [w1] at q4; omega, q5, by rw [z2]; omega, bl_or q7 hfi, bl_or q8 hla⟩ (by intro L mk; rw [sc1, sc2, z1]) (by rw [z1]; exact st2) (by rw [z1]; rw [w1] at q4; omega)
        refine ⟨ih1.1, fun S' hs => ?_⟩
        obtain ⟨y1, y2, y3, y3', y4⟩ := ih1.2 S' hs
        refine ⟨y1, y2, y3, y3', fun R hl hR hP => ?_⟩
        obtain ⟨r1, r2, r3⟩ := hR
        have hrd : rdS d S.pl R = some (S.pl + 1, (R.lv, R.n, chPs R.P R.lv, R.fo, R.nm)) := by
          unfold rdS
          rw [if_neg (by rw [h24]; decide), if_pos h24]
        obtain ⟨R2, a1, a2, a3, a4, a5⟩ := sm (R.lv, R.n, chPs R.P R.lv, R.fo, R.nm) (by show R.lv + _ ≤ 6; rw [w1]; omega) ⟨by rw [w2]; exact r1, by rw [w3]; exact r2, by rw [w2, w4]; exact r3⟩ chPs_s
        have b2 : R2.lv = R.lv := a2
        have b3 : R2.P (2 * R.lv) = (true, S.fi, S.la, S.sk) := (a3 (2 * R.lv) (Nat.le_refl _)).trans (chPs_a.trans hP)
        have b4 : R2.P (2 * R.lv + 1) = (true, S2.fi, S2.la, S2.sk) := a4
        obtain ⟨R3, c1, c2, c3, c4, c5⟩ := y4 R2 (by rw [b2, z1]; rw [w1] at q4; omega) a5 (by
          rw [b2, b3, b4]
          show (true, S.fi ||| S2.fi, S.la ||| S2.la, (true && S.sk) || S2.sk) = (true, S2.fi ||| S.fi, S2.la ||| S.la, S2.sk || S.sk)
          rw [Int32.or_comm S.fi, Int32.or_comm S.la, Bool.true_and, Bool.or_comm S.sk])
        refine ⟨R3, ?_, c2.trans b2, fun i hi => ?_, ?_, c5⟩
        · rw [rdP_st hlt hrd]
          show rdP d n (S.pl + 1) _ = _
          rw [← w1, a1, ← z1, c1]
        · rw [c3 i (by omega), a3 i (Nat.le_of_lt hi)]
          exact chPs_o hi
        · rw [← b2]; exact c4
    · rw [e24]
      refine ⟨fun z => (by cases z), fun S' z => ?_⟩
      cases z
      exact ⟨hp, hsc, h44, h24, fun R _ hR hP => ⟨R, rfl, rfl, fun _ _ => rfl, hP, hR⟩⟩
theorem gd_ex (hd : ∀ p, n ≤ p → d p = -1) (hn : n ≤ 40) : ∀ f, gdE d n f (pExpr d f) := by
  intro f
  induction f with
  | zero =>
    intro S hS
    exact absurd hS.2.2.1 (by omega)
  | succ f ih =>
    have hQ := gd_sq hd hn (gd_it hd ih)
    intro S hS
    have hI1 := hQ S hS
    rw [pExpr]
    cases hes : pSeq d (pItem d (pExpr d f)) S with
    | none => exact ⟨fun _ => hI1.1 hes, fun S' z => (by cases z)⟩
    | some S1 =>
      rw [Option.bind_some]
      obtain ⟨po, sc, st, sm⟩ := hI1.2 S1 hes
      obtain ⟨q1, q2, q3, q4, q5, q6, q7, q8⟩ := po
      have hl := gd_el hd hQ 40 S S1 (by omega) ⟨q1, q2, q3, q4, q5, q6, q7, q8⟩ sc st (Nat.lt_of_le_of_lt q4 hS.2.2.1)
      refine ⟨hl.1, fun S' z => ?_⟩
      obtain ⟨y1, y2, y3, y3', y4⟩ := hl.2 S' z
      refine ⟨y1, y2, y3, y3', fun R hlv hR hP0 hP => ?_⟩
      obtain ⟨R2, a1, a2, a3, a4, a5⟩ := sm R hlv hR hP
      obtain ⟨R3, b1, b2, b3, b4, b5⟩ := y4 R2 (by rw [a2]; omega) a5 (by
        rw [a2, a4, a3 _ (Nat.le_refl _), hP0]
        rfl)
      refine ⟨R3, a1.trans b1, b2.trans a2, fun i hi => ?_, ?_, b5⟩
      · rw [b3 i (by omega), a3 i (by omega)]
      · rw [← a2]; exact b4
/-- the whole: a draft without too many names and parentheses is an expression where the class reads it to its end, and then both read the same -/
theorem parse_all (hd : ∀ p, n ≤ p → d p = -1) (hn : n ≤ 40) (fr : Nat) (hfr : fr < n) (hN : cc nmB d n fr ≤ 10) (hP : cc isP d n fr ≤ 6) (S : PS) (h1 : S.pl = fr) (h2 : S.ns = 0) (h3 : ∀ q, q < 10 → S.fo q = nI 0) (h4 : ∀ q, q < 8 → S.sn q = nI 0) :
    (scP d n fr 0 false false = true ↔ ∃ S', pExpr d 7 S = some S' ∧ S'.pl = n) ∧
    ∀ S', pExpr d 7 S = some S' → S'.pl = n → S'.ns ≤ 10 ∧ bls S' ∧ bl S'.ns S'.fi ∧ bl S'.ns S'.la ∧ ∀ R : RS, R.lv = 0 → R.n = 0 → (∀ q, q < 10 → R.fo q = nI 0) → R.P 0 = pt0 → R.P 1 = pt0 →
      ∃ R', rdP d n fr R = some R' ∧ R'.lv = 0 ∧ chQ (R'.P 0) (R'.P 1) = (true, S'.fi, S'.la, S'.sk) ∧ rSim S' R' := by
  subst h1
  have hb : bls S := ⟨fun q hq => by rw [h3 q hq]; exact bl_0 _, fun q hq _ => h3 q hq⟩
  have h := gd_ex hd hn 7 S ⟨by omega, by omega, by omega, hb⟩
  refine ⟨⟨fun hs => ?_, ?_⟩, ?_⟩
  · cases hes : pExpr d 7 S with
    | none =>
      rw [h.1 hes] at hs
      cases hs
    | some S' =>
      obtain ⟨y1, y2, y3, y4, y5⟩ := h.2 S' hes
      refine ⟨S', rfl, ?_⟩
      rw [y2] at hs
      refine Classical.byContradiction (fun hne => ?_)
      rw [scP_no (Or.inr rfl) y4 y3 (Or.inl (by have := y1.2.1; omega))] at hs
      cases hs
  · rintro ⟨S', hes, hpl⟩
    rw [(h.2 S' hes).2.1, scP_end (by omega)]
    rfl
  · intro S' hes hpl
    obtain ⟨⟨q1, q2, q3, q4, q5, q6, q7, q8⟩, y2, y3, y4, y5⟩ := h.2 S' hes
    refine ⟨by omega, q5, q7, q8, fun R r1 r2 r3 r4 r5 => ?_⟩
    obtain ⟨R', a1, a2, a3, a4, a5⟩ := y5 R (by rw [r1]; omega) ⟨r2.trans h2.symm, fun q hq => (r3 q hq).trans (h3 q hq).symm, fun q hq k hk => by rw [h4 q hq, bq_0, h2]; rfl, fun k hk => by rw [h2] at hk; omega⟩ (by rw [r1]; exact r4) (by rw [r1]; exact r5)
    rw [r1] at a4
    exact ⟨R', a1.trans (rdP_end (by omega)), a2.trans r1, a4, a5⟩
end PR5
