/-! the tree of a text, as both sides build it: elements, those that are open, tags, faults 1 to 3, elements closed bare -/
abbrev EL : Type := Int32 × Nat × Nat × Nat × Nat × Nat × Nat × Nat × Int32 × Nat × Nat
def EL.nm (E : EL) : Int32 := E.1
def EL.pr (E : EL) : Nat := E.2.1
def EL.dp (E : EL) : Nat := E.2.2.1
def EL.bg (E : EL) : Nat := E.2.2.2.1
def EL.iF (E : EL) : Nat := E.2.2.2.2.1
def EL.iT (E : EL) : Nat := E.2.2.2.2.2.1
def EL.bh (E : EL) : Nat := E.2.2.2.2.2.2.1
def EL.ck (E : EL) : Nat := E.2.2.2.2.2.2.2.1
def EL.ik (E : EL) : Int32 := E.2.2.2.2.2.2.2.2.1
def EL.si (E : EL) : Nat := E.2.2.2.2.2.2.2.2.2.1
def EL.ei (E : EL) : Nat := E.2.2.2.2.2.2.2.2.2.2
def elM (nm : Int32) (pr dp bg iF iT bh ck : Nat) (ik : Int32) (si ei : Nat) : EL := (nm, pr, dp, bg, iF, iT, bh, ck, ik, si, ei)
abbrev TS : Type := Nat × (Nat → EL) × List Nat × Nat × (Nat → Nat × Nat × Int32) × List Nat × List Nat
def TS.cn (T : TS) : Nat := T.1
def TS.e (T : TS) : Nat → EL := T.2.1
def TS.stk (T : TS) : List Nat := T.2.2.1
def TS.tn (T : TS) : Nat := T.2.2.2.1
def TS.tg (T : TS) : Nat → Nat × Nat × Int32 := T.2.2.2.2.1
def TS.fl (T : TS) : List Nat := T.2.2.2.2.2.1
def TS.br (T : TS) : List Nat := T.2.2.2.2.2.2
def tsM (cn : Nat) (e : Nat → EL) (stk : List Nat) (tn : Nat) (tg : Nat → Nat × Nat × Int32) (fl br : List Nat) : TS := (cn, e, stk, tn, tg, fl, br)
def TS.cur (T : TS) : Nat := T.stk.headD 0
def tKd (a : Nat → Int32) (p : Nat) : Nat := if a p = nI 60 then (if nmB (a (p + 1)) = true then (if a (p + 2) = nI 62 then 1 else if a (p + 2) = nI 47 ∧ a (p + 3) = nI 62 then 2 else 0) else if a (p + 1) = nI 47 ∧ nmB (a (p + 2)) = true ∧ a (p + 3) = nI 62 then 3 else 0) else 0
def elN (a : Nat → Int32) (T : TS) (p to : Nat) : EL := elM (a (p + 1)) T.cur ((T.e T.cur).dp + 1) p to 0 0 0 (-1) T.tn 0
def elC (E : EL) (ck to bh ei : Nat) : EL := elM E.nm E.pr E.dp E.bg E.iF to bh ck E.ik E.si ei
def elK (E : EL) (p : Nat) : EL := elM E.nm E.pr E.dp E.bg E.iF E.iT E.bh E.ck (nI p) E.si E.ei
def tDp (T : TS) (p to : Nat) (kd : Nat) : TS := tsM T.cn T.e T.stk (T.tn + 1) (va_up T.tg T.tn (p, to, -1)) ((p * 8 + kd) :: T.fl) T.br
def tSt (a : Nat → Int32) (T : TS) (p : Nat) : TS := tsM (T.cn + 1) (va_up T.e (T.cn + 1) (elN a T p (p + 3))) ((T.cn + 1) :: T.stk) (T.tn + 1) (va_up T.tg T.tn (p, p + 3, nI (T.cn + 1))) T.fl T.br
def tEm (a : Nat → Int32) (T : TS) (p : Nat) : TS := tsM (T.cn + 1) (va_up T.e (T.cn + 1) (elC (elN a T p (p + 4)) 2 (p + 4) (p + 4) 0)) T.stk (T.tn + 1) (va_up T.tg T.tn (p, p + 4, nI (T.cn + 1))) T.fl T.br
/-- the open elements within the one of the name, that one, and those around it -/
def spl (e : Nat → EL) (nm : Int32) : List Nat → List Nat × Nat × List Nat
  | [] => ([], 0, [])
  | x :: l => if (e x).nm = nm then ([], x, l) else (x :: (spl e nm l).1, (spl e nm l).2)
def tEn (T : TS) (p : Nat) (up : List Nat) (x : Nat) (rest : List Nat) : TS :=
  tsM T.cn (fun i => if i ∈ up then elC (T.e i) 0 p p 0 else if i = x then elC (T.e i) 3 p (p + 4) T.tn else T.e i) rest (T.tn + 1) (va_up T.tg T.tn (p, p + 4, nI x)) T.fl (up ++ T.br)
def tCh (a : Nat → Int32) (T : TS) (p : Nat) : TS := tsM T.cn (if ¬ a p = nI 32 ∧ (T.e T.cur).ik = -1 then va_up T.e T.cur (elK (T.e T.cur) p) else T.e) T.stk T.tn T.tg (if a p = nI 60 then (p * 8 + 1) :: T.fl else T.fl) T.br
def tSp (a : Nat → Int32) (T : TS) (p : Nat) : TS :=
  if tKd a p = 1 then (if T.stk.length < 8 then tSt a T p else tDp T p (p + 3) 2)
  else if tKd a p = 2 then (if T.stk.length < 8 then tEm a T p else tDp T p (p + 4) 2)
  else if tKd a p = 3 then (if (spl T.e (a (p + 2)) T.stk).2.1 = 0 then tDp T p (p + 4) 3 else tEn T p (spl T.e (a (p + 2)) T.stk).1 (spl T.e (a (p + 2)) T.stk).2.1 (spl T.e (a (p + 2)) T.stk).2.2)
  else tCh a T p
def tTo (a : Nat → Int32) (p : Nat) : Nat := if tKd a p = 1 then p + 3 else if tKd a p = 2 then p + 4 else if tKd a p = 3 then p + 4 else p + 1
def tRn (a : Nat → Int32) (n : Nat) : Nat → Nat → TS → TS
  | 0, _, T => T
  | k + 1, p, T => if p < n then tRn a n k (tTo a p) (tSp a T p) else T
def ts0 : TS := tsM 0 (fun _ => elM (nI 46) 0 0 0 0 0 0 0 (-1) 0 0) [] 0 (fun _ => (0, 0, -1)) [] []
def tFin (n : Nat) (T : TS) : TS := tsM T.cn (fun i => if i ∈ T.stk then elC (T.e i) 0 n n 0 else if i = 0 then elC (T.e i) 0 n n 0 else T.e i) [] T.tn T.tg T.fl (T.stk ++ T.br)
def tAll (a : Nat → Int32) (n : Nat) : TS := tFin n (tRn a n n 0 ts0)
/-- a chain of open elements: each the parent of the one before -/
def chn (e : Nat → EL) : List Nat → Prop
  | [] => True
  | x :: l => 0 < x ∧ (e x).pr = l.headD 0 ∧ (∀ y, y ∈ l → y < x) ∧ (e x).dp = l.length + 1 ∧ chn e l
theorem chn_cg {e e' : Nat → EL} : ∀ l : List Nat, (∀ x, x ∈ l → (e' x).pr = (e x).pr ∧ (e' x).dp = (e x).dp) → chn e l → chn e' l := by
  intro l
  induction l with
  | nil => intros; exact True.intro
  | cons x l ih =>
    intro h hc
    obtain ⟨h1, h2, h3, h4, h5⟩ := hc
    have hx := h x (List.mem_cons_self ..)
    exact ⟨h1, hx.1.trans h2, h3, hx.2.trans h4, ih (fun y hy => h y (List.mem_cons_of_mem _ hy)) h5⟩
theorem chn_dp {e : Nat → EL} (h0 : (e 0).dp = 0) : ∀ l : List Nat, chn e l → (e (l.headD 0)).dp = l.length := by
  intro l hc
  cases l with
  | nil => exact h0
  | cons x l => exact hc.2.2.2.1
/-- what always holds of a tree whose text was read up to p -/
def tI (T : TS) (p : Nat) : Prop :=
  (T.cn ≤ T.tn ∧ 3 * T.tn ≤ p ∧ T.fl.length + 3 * T.cn ≤ p ∧ ∀ x, x ∈ T.fl → x < 8 * p) ∧
  (chn T.e T.stk ∧ (∀ x, x ∈ T.stk → x ≤ T.cn) ∧ T.stk.length ≤ 8) ∧
  ((T.e 0).nm = nI 46 ∧ (T.e 0).dp = 0 ∧ (T.e 0).pr = 0 ∧ (T.e 0).bg = 0 ∧ (T.e 0).iF = 0) ∧
  (∀ i, 0 < i → i ≤ T.cn → nmB (T.e i).nm = true ∧ (T.e i).pr < i ∧ (T.e i).bg < p ∧ (T.e i).dp = (T.e (T.e i).pr).dp + 1 ∧ (T.e i).iF ≤ p ∧ (T.e i).bg + 3 ≤ (T.e i).iF) ∧
  (T.br.Nodup ∧ ∀ i, i ∈ T.br ↔ 0 < i ∧ i ≤ T.cn ∧ i ∉ T.stk ∧ (T.e i).ck = 0) ∧
  (∀ i, 0 < i → i ≤ T.cn → i ∉ T.stk → (T.e i).iT ≤ p ∧ (T.e i).bh ≤ p ∧ (T.e i).iF ≤ (T.e i).iT ∧ (T.e i).iT ≤ (T.e i).bh ∧ ((T.e i).ck = 0 ∨ (T.e i).ck = 2 ∨ (T.e i).ck = 3)) ∧
  (∀ i, i ≤ T.cn → (T.e i).ik = -1 ∨ ∃ q, q < p ∧ (T.e i).ik = nI q)
theorem tI_0 : tI ts0 0 := by
  refine ⟨⟨Nat.le_refl _, Nat.le_refl _, Nat.le_refl _, fun x hx => absurd hx List.not_mem_nil⟩, ⟨True.intro, fun x hx => absurd hx List.not_mem_nil, Nat.zero_le _⟩, ⟨rfl, rfl, rfl, rfl, rfl⟩, fun i h1 h2 => ?_, ⟨List.nodup_nil, fun i => ⟨fun h => absurd h List.not_mem_nil, fun h => ?_⟩⟩, fun i h1 h2 _ => ?_, fun i _ => Or.inl rfl⟩
  · have : i ≤ 0 := h2
    omega
  · have : i ≤ 0 := h.2.1
    omega
  · have : i ≤ 0 := h2
    omega
theorem tKd_r (a : Nat → Int32) (p : Nat) : tKd a p = 0 ∨ tKd a p = 1 ∨ tKd a p = 2 ∨ tKd a p = 3 := by
  unfold tKd
  repeat' split
  all_goals simp
section TR1
variable {a : Nat → Int32} {n : Nat}
theorem tKd_1 {p : Nat} (h : tKd a p = 1) : a p = nI 60 ∧ nmB (a (p + 1)) = true ∧ a (p + 2) = nI 62 := by
  unfold tKd at h
  split at h
  · split at h
    · split at h
      · exact ⟨by assumption, by assumption, by assumption⟩
      · split at h <;> cases h
    · split at h <;> cases h
  · cases h
theorem tKd_2 {p : Nat} (h : tKd a p = 2) : a p = nI 60 ∧ nmB (a (p + 1)) = true ∧ a (p + 2) = nI 47 ∧ a (p + 3) = nI 62 := by
  unfold tKd at h
  split at h
  · split at h
    · split at h
      · cases h
      · split at h
        · rename_i q; exact ⟨by assumption, by assumption, q.1, q.2⟩
        · cases h
    · split at h <;> cases h
  · cases h
theorem tKd_3 {p : Nat} (h : tKd a p = 3) : a p = nI 60 ∧ a (p + 1) = nI 47 ∧ nmB (a (p + 2)) = true ∧ a (p + 3) = nI 62 := by
  unfold tKd at h
  split at h
  · split at h
    · split at h
      · cases h
      · split at h <;> cases h
    · split at h
      · rename_i q; exact ⟨by assumption, q.1, q.2.1, q.2.2⟩
      · cases h
  · cases h
theorem tI_up {T : TS} {p p' : Nat} (h : tI T p) (hp : p ≤ p') : tI T p' := by
  obtain ⟨⟨a1, a2, a3, a4⟩, h2, h3, h4, h5, h6, h7⟩ := h
  refine ⟨⟨a1, by omega, by omega, fun x hx => by have := a4 x hx; omega⟩, h2, h3, fun i q1 q2 => ?_, h5, fun i q1 q2 q3 => ?_, fun i q1 => ?_⟩
  · obtain ⟨b1, b2, b3, b4, b5, b6⟩ := h4 i q1 q2
    exact ⟨b1, b2, by omega, b4, by omega, b6⟩
  · obtain ⟨b1, b2, b3, b4, b5⟩ := h6 i q1 q2 q3
    exact ⟨by omega, by omega, b3, b4, b5⟩
  · rcases h7 i q1 with b | ⟨q, b1, b2⟩
    · exact Or.inl b
    · exact Or.inr ⟨q, by omega, b2⟩
theorem tI_dp {T : TS} {p to kd : Nat} (h : tI T p) (hto : p + 3 ≤ to) (hk : kd < 8) : tI (tDp T p to kd) to := by
  have h' := tI_up h (show p ≤ to by omega)
  obtain ⟨⟨a1, a2, a3, a4⟩, h2, h3, h4, h5, h6, h7⟩ := h
  refine ⟨⟨?_, ?_, ?_, ?_⟩, h2, h3, h'.2.2.2.1, h5, h'.2.2.2.2.2.1, h'.2.2.2.2.2.2⟩
  · show T.cn ≤ T.tn + 1; omega
  · show 3 * (T.tn + 1) ≤ to; omega
  · show ((p * 8 + kd) :: T.fl).length + 3 * T.cn ≤ to
    rw [List.length_cons]; omega
  · intro x hx
    rcases List.mem_cons.mp hx with e | e
    · omega
    · have := a4 x e; omega
/-- a new element, open or closed at once -/
theorem tI_nw {T : TS} {p to : Nat} (h : tI T p) (hto : p + 3 ≤ to) (hnm : nmB (a (p + 1)) = true) (E : EL) (stk' : List Nat) (hE : E.nm = a (p + 1) ∧ E.pr = T.cur ∧ E.dp = (T.e T.cur).dp + 1 ∧ E.bg = p ∧ E.iF = to ∧ E.ik = -1) (tg' : Nat → Nat × Nat × Int32) (hl : T.stk.length < 8)
    (hs : stk' = (T.cn + 1) :: T.stk ∨ (stk' = T.stk ∧ E.iT = to ∧ E.bh = to ∧ E.ck = 2)) : tI (tsM (T.cn + 1) (va_up T.e (T.cn + 1) E) stk' (T.tn + 1) tg' T.fl T.br) to := by
  obtain ⟨⟨a1, a2, a3, a4⟩, ⟨c1, c2, c3⟩, ⟨d1, d2, d3, d4, d5⟩, h4, ⟨h5a, h5b⟩, h6, h7⟩ := h
  obtain ⟨e1, e2, e3, e4, e5, e6⟩ := hE
  have hold : ∀ i, i ≤ T.cn → va_up T.e (T.cn + 1) E i = T.e i := fun i hi => va_up_ne _ _ (by omega)
  have hcur : T.cur ≤ T.cn := by
    unfold TS.cur
    cases hs : T.stk with
    | nil => exact Nat.zero_le _
    | cons x l => exact c2 x (by rw [hs]; exact List.mem_cons_self ..)
  have hch : chn (va_up T.e (T.cn + 1) E) T.stk := chn_cg _ (fun x hx => by rw [hold x (c2 x hx)]; exact ⟨rfl, rfl⟩) c1
  have hdp := chn_dp d2 _ c1
  have hmem : ∀ i, i ≤ T.cn → (i ∉ stk' ↔ i ∉ T.stk) := by
    intro i hi
    rcases hs with z | ⟨z, _⟩
    · rw [z, List.mem_cons]
      exact ⟨fun w q => w (Or.inr q), fun w q => q.elim (fun e => by omega) w⟩
    · rw [z]
  refine ⟨⟨?_, ?_, ?_, ?_⟩, ?_, ?_, fun i q1 q2 => ?_, ⟨h5a, fun i => ?_⟩, fun i q1 q2 q3 => ?_, fun i q1 => ?_⟩
  · show T.cn + 1 ≤ T.tn + 1; omega
  · show 3 * (T.tn + 1) ≤ to; omega
  · show T.fl.length + 3 * (T.cn + 1) ≤ to; omega
  · intro x hx; have := a4 x hx; omega
  · rcases hs with z | ⟨z, _⟩
    · refine ⟨?_, ?_, ?_⟩
      · show chn (va_up T.e (T.cn + 1) E) stk'
        rw [z]
        refine ⟨Nat.succ_pos _, ?_, fun y hy => by have := c2 y hy; omega, ?_, hch⟩
        · rw [va_up_self]; exact e2
        · rw [va_up_self, e3]
          exact congrArg (· + 1) hdp
      · intro x hx
        have hx' : x ∈ stk' := hx
        rw [z] at hx'
        show x ≤ T.cn + 1
        rcases List.mem_cons.mp hx' with w | w
        · omega
        · have := c2 x w; omega
      · show stk'.length ≤ 8
        rw [z, List.length_cons]; omega
    · refine ⟨?_, ?_, ?_⟩
      · show chn (va_up T.e (T.cn + 1) E) stk'
        rw [z]; exact hch
      · intro x hx
        have hx' : x ∈ stk' := hx
        rw [z] at hx'
        show x ≤ T.cn + 1
        have := c2 x hx'; omega
      · show stk'.length ≤ 8
        rw [z]; exact c3
  · show ((va_up T.e (T.cn + 1) E) 0).nm = _ ∧ ((va_up T.e (T.cn + 1) E) 0).dp = _ ∧ ((va_up T.e (T.cn + 1) E) 0).pr = _ ∧ ((va_up T.e (T.cn + 1) E) 0).bg = _ ∧ ((va_up T.e (T.cn + 1) E) 0).iF = _
    rw [hold 0 (Nat.zero_le _)]
    exact ⟨d1, d2, d3, d4, d5⟩
  · show nmB ((va_up T.e (T.cn + 1) E) i).nm = true ∧ ((va_up T.e (T.cn + 1) E) i).pr < i ∧ ((va_up T.e (T.cn + 1) E) i).bg < to ∧ ((va_up T.e (T.cn + 1) E) i).dp = ((va_up T.e (T.cn + 1) E) ((va_up T.e (T.cn + 1) E) i).pr).dp + 1 ∧ ((va_up T.e (T.cn + 1) E) i).iF ≤ to ∧ ((va_up T.e (T.cn + 1) E) i).bg + 3 ≤ ((va_up T.e (T.cn + 1) E) i).iF
    by_cases hi : i = T.cn + 1
    · subst hi
      rw [va_up_self, e1, e2, e3, e4, e5, hold T.cur hcur]
      exact ⟨hnm, by omega, by omega, rfl, Nat.le_refl _, hto⟩
    · have hi2 : i ≤ T.cn := by
        have : i ≤ T.cn + 1 := q2
        omega
      obtain ⟨b1, b2, b3, b4, b5, b6⟩ := h4 i q1 hi2
      rw [hold i hi2, hold (T.e i).pr (by omega)]
      exact ⟨b1, b2, by omega, b4, by omega, b6⟩
  · show i ∈ T.br ↔ 0 < i ∧ i ≤ T.cn + 1 ∧ i ∉ stk' ∧ ((va_up T.e (T.cn + 1) E) i).ck = 0
    by_cases hi : i = T.cn + 1
    · subst hi
      rw [va_up_self, h5b]
      refine ⟨fun w => absurd w.2.1 (by omega), fun w => ?_⟩
      rcases hs with z | ⟨z, _, _, z2⟩
      · exact absurd (by rw [z]; exact List.mem_cons_self ..) w.2.2.1
      · have := w.2.2.2
        omega
    · rw [h5b]
      constructor
      · intro w
        exact ⟨w.1, by omega, (hmem i w.2.1).mpr w.2.2.1, by rw [hold i w.2.1]; exact w.2.2.2⟩
      · intro w
        have hi2 : i ≤ T.cn := by omega
        rw [hold i hi2] at w
        exact ⟨w.1, hi2, (hmem i hi2).mp w.2.2.1, w.2.2.2⟩
  · show ((va_up T.e (T.cn + 1) E) i).iT ≤ to ∧ ((va_up T.e (T.cn + 1) E) i).bh ≤ to ∧ ((va_up T.e (T.cn + 1) E) i).iF ≤ ((va_up T.e (T.cn + 1) E) i).iT ∧ ((va_up T.e (T.cn + 1) E) i).iT ≤ ((va_up T.e (T.cn + 1) E) i).bh ∧ (((va_up T.e (T.cn + 1) E) i).ck = 0 ∨ ((va_up T.e (T.cn + 1) E) i).ck = 2 ∨ ((va_up T.e (T.cn + 1) E) i).ck = 3)
    by_cases hi : i = T.cn + 1
    · subst hi
      rw [va_up_self]
      rcases hs with z | ⟨z, z1, z2, z3⟩
      · exact absurd (show T.cn + 1 ∈ stk' by rw [z]; exact List.mem_cons_self ..) q3
      · rw [z1, z2, z3, e5]
        exact ⟨Nat.le_refl _, Nat.le_refl _, Nat.le_refl _, Nat.le_refl _, Or.inr (Or.inl rfl)⟩
    · have hi2 : i ≤ T.cn := by
        have : i ≤ T.cn + 1 := q2
        omega
      obtain ⟨b1, b2, b3, b4, b5⟩ := h6 i q1 hi2 ((hmem i hi2).mp q3)
      rw [hold i hi2]
      exact ⟨by omega, by omega, b3, b4, b5⟩
  · show ((va_up T.e (T.cn + 1) E) i).ik = -1 ∨ ∃ q, q < to ∧ ((va_up T.e (T.cn + 1) E) i).ik = nI q
    by_cases hi : i = T.cn + 1
    · subst hi
      rw [va_up_self]
      exact Or.inl e6
    · have hi2 : i ≤ T.cn := by
        have : i ≤ T.cn + 1 := q1
        omega
      rw [hold i hi2]
      rcases h7 i hi2 with b | ⟨q, b1, b2⟩
      · exact Or.inl b
      · exact Or.inr ⟨q, by omega, b2⟩
end TR1
section TR2
variable {a : Nat → Int32} {n : Nat}
theorem spl_x (e : Nat → EL) (nm : Int32) : ∀ l : List Nat, (∀ y, y ∈ l → 0 < y) → (¬ (spl e nm l).2.1 = 0 → l = (spl e nm l).1 ++ (spl e nm l).2.1 :: (spl e nm l).2.2 ∧ (e (spl e nm l).2.1).nm = nm ∧ ∀ y, y ∈ (spl e nm l).1 → ¬ (e y).nm = nm) ∧ ((spl e nm l).2.1 = 0 → ∀ y, y ∈ l → ¬ (e y).nm = nm) := by
  intro l
  induction l with
  | nil => intro _; exact ⟨fun h => absurd rfl h, fun _ y hy => absurd hy List.not_mem_nil⟩
  | cons x l ih =>
    intro hp
    have ih' := ih (fun y hy => hp y (List.mem_cons_of_mem _ hy))
    rw [spl]
    by_cases h : (e x).nm = nm
    · rw [if_pos h]
      refine ⟨fun _ => ⟨rfl, h, fun y hy => absurd hy List.not_mem_nil⟩, fun h0 => ?_⟩
      have := hp x (List.mem_cons_self ..)
      have h0' : x = 0 := h0
      omega
    · rw [if_neg h]
      refine ⟨fun hx => ?_, fun h0 y hy => ?_⟩
      · obtain ⟨z1, z2, z3⟩ := ih'.1 hx
        refine ⟨congrArg (List.cons x) z1, z2, fun y hy => ?_⟩
        rcases List.mem_cons.mp hy with w | w
        · rw [w]; exact h
        · exact z3 y w
      · rcases List.mem_cons.mp hy with w | w
        · rw [w]; exact h
        · exact ih'.2 h0 y w
theorem chn_pos {e : Nat → EL} : ∀ l : List Nat, chn e l → ∀ y, y ∈ l → 0 < y := by
  intro l
  induction l with
  | nil => intro _ y hy; exact absurd hy List.not_mem_nil
  | cons x l ih =>
    intro hc y hy
    rcases List.mem_cons.mp hy with w | w
    · rw [w]; exact hc.1
    · exact ih hc.2.2.2.2 y w
theorem chn_app {e : Nat → EL} {x : Nat} {rest : List Nat} : ∀ up : List Nat, chn e (up ++ x :: rest) → chn e (x :: rest) ∧ (∀ y, y ∈ up → x < y) ∧ up.Nodup := by
  intro up
  induction up with
  | nil => intro h; exact ⟨h, fun y hy => absurd hy List.not_mem_nil, List.nodup_nil⟩
  | cons z up ih =>
    intro h
    obtain ⟨h1, h2, h3, h4, h5⟩ := h
    obtain ⟨a1, a2, a3⟩ := ih h5
    refine ⟨a1, fun y hy => ?_, List.nodup_cons.mpr ⟨fun hz => ?_, a3⟩⟩
    · rcases List.mem_cons.mp hy with w | w
      · rw [w]; exact h3 x (List.mem_append_right _ (List.mem_cons_self ..))
      · exact a2 y w
    · exact Nat.lt_irrefl _ (h3 z (List.mem_append_left _ hz))
theorem chn_nodup {e : Nat → EL} : ∀ l : List Nat, chn e l → l.Nodup := by
  intro l
  induction l with
  | nil => intro _; exact List.nodup_nil
  | cons x l ih => exact fun h => List.nodup_cons.mpr ⟨fun hx => Nat.lt_irrefl _ (h.2.2.1 x hx), ih h.2.2.2.2⟩
/-- elements are closed: the tree's other parts stay -/
theorem tI_cl {T : TS} {p to : Nat} (h : tI T p) (hto : p ≤ to) (e' : Nat → EL) (up : List Nat) (rest : List Nat) (tn' : Nat) (tg' : Nat → Nat × Nat × Int32) (htn : T.tn ≤ tn') (ht3 : 3 * tn' ≤ to)
    (hs1 : chn T.e rest) (hs2 : ∀ y, y ∈ rest → y ∈ T.stk) (hs3 : rest.length ≤ 8) (hup1 : up.Nodup) (hup2 : ∀ y, y ∈ up → y ∈ T.stk ∧ y ∉ rest)
    (hsame : ∀ i, (e' i).nm = (T.e i).nm ∧ (e' i).pr = (T.e i).pr ∧ (e' i).dp = (T.e i).dp ∧ (e' i).bg = (T.e i).bg ∧ (e' i).iF = (T.e i).iF ∧ (e' i).ik = (T.e i).ik)
    (hck : ∀ i, 0 < i → i ≤ T.cn → (i ∈ up → (e' i).ck = 0 ∧ (e' i).iT = p ∧ (e' i).bh = p) ∧ (i ∈ T.stk → i ∉ rest → i ∉ up → (e' i).ck = 3 ∧ (e' i).iT = p ∧ p ≤ (e' i).bh ∧ (e' i).bh ≤ to) ∧ (i ∉ T.stk → (e' i).ck = (T.e i).ck ∧ (e' i).iT = (T.e i).iT ∧ (e' i).bh = (T.e i).bh)) :
    tI (tsM T.cn e' rest tn' tg' T.fl (up ++ T.br)) to := by
  have hU := tI_up h hto
  obtain ⟨⟨a1, a2, a3, a4⟩, ⟨c1, c2, c3⟩, ⟨d1, d2, d3, d4, d5⟩, h4, ⟨h5a, h5b⟩, h6, h7⟩ := h
  have hpos := chn_pos _ c1
  refine ⟨⟨?_, ht3, ?_, ?_⟩, ⟨?_, fun x hx => c2 x (hs2 x hx), hs3⟩, ?_, fun i q1 q2 => ?_, ⟨?_, fun i => ?_⟩, fun i q1 q2 q3 => ?_, fun i q1 => ?_⟩
  · show T.cn ≤ tn'; omega
  · show T.fl.length + 3 * T.cn ≤ to; omega
  · intro x hx; have := a4 x hx; omega
  · exact chn_cg _ (fun x _ => ⟨(hsame x).2.1, (hsame x).2.2.1⟩) hs1
  · obtain ⟨s1, s2, s3, s4, s5, s6⟩ := hsame 0
    exact ⟨s1.trans d1, s3.trans d2, s2.trans d3, s4.trans d4, s5.trans d5⟩
  · obtain ⟨s1, s2, s3, s4, s5, s6⟩ := hsame i
    obtain ⟨b1, b2, b3, b4, b5, b6⟩ := h4 i q1 q2
    show nmB (e' i).nm = true ∧ (e' i).pr < i ∧ (e' i).bg < to ∧ (e' i).dp = (e' (e' i).pr).dp + 1 ∧ (e' i).iF ≤ to ∧ (e' i).bg + 3 ≤ (e' i).iF
    rw [s1, s2, s3, s4, s5, (hsame (T.e i).pr).2.2.1]
    exact ⟨b1, b2, by omega, b4, by omega, b6⟩
  · show (up ++ T.br).Nodup
    refine List.nodup_append.mpr ⟨hup1, h5a, fun x hx y hy e => ?_⟩
    subst e
    exact ((h5b x).mp hy).2.2.1 (hup2 x hx).1
  · show i ∈ up ++ T.br ↔ 0 < i ∧ i ≤ T.cn ∧ i ∉ rest ∧ (e' i).ck = 0
    rw [List.mem_append, h5b]
    constructor
    · rintro (w | ⟨w1, w2, w3, w4⟩)
      · have hi := hup2 i w
        have hc := c2 i hi.1
        exact ⟨hpos i hi.1, hc, hi.2, ((hck i (hpos i hi.1) hc).1 w).1⟩
      · exact ⟨w1, w2, fun z => w3 (hs2 i z), ((hck i w1 w2).2.2 w3).1.trans w4⟩
    · rintro ⟨w1, w2, w3, w4⟩
      by_cases hu : i ∈ up
      · exact Or.inl hu
      · by_cases hst : i ∈ T.stk
        · have := ((hck i w1 w2).2.1 hst w3 hu).1
          omega
        · exact Or.inr ⟨w1, w2, hst, ((hck i w1 w2).2.2 hst).1.symm.trans w4⟩
  · obtain ⟨s1, s2, s3, s4, s5, s6⟩ := hsame i
    obtain ⟨b1, b2, b3, b4, b5, b6⟩ := h4 i q1 q2
    show (e' i).iT ≤ to ∧ (e' i).bh ≤ to ∧ (e' i).iF ≤ (e' i).iT ∧ (e' i).iT ≤ (e' i).bh ∧ ((e' i).ck = 0 ∨ (e' i).ck = 2 ∨ (e' i).ck = 3)
    rw [s5]
    by_cases hu : i ∈ up
    · obtain ⟨k1, k2, k3⟩ := (hck i q1 q2).1 hu
      rw [k1, k2, k3]
      exact ⟨by omega, by omega, b5, Nat.le_refl _, Or.inl rfl⟩
    · by_cases hst : i ∈ T.stk
      · obtain ⟨k1, k2, k3, k4⟩ := (hck i q1 q2).2.1 hst q3 hu
        rw [k1, k2]
        exact ⟨by omega, k4, b5, k3, Or.inr (Or.inr rfl)⟩
      · obtain ⟨k1, k2, k3⟩ := (hck i q1 q2).2.2 hst
        obtain ⟨l1, l2, l3, l4, l5⟩ := h6 i q1 q2 hst
        rw [k1, k2, k3]
        exact ⟨by omega, by omega, l3, l4, l5⟩
  · show (e' i).ik = -1 ∨ ∃ q, q < to ∧ (e' i).ik = nI q
    rw [(hsame i).2.2.2.2.2]
    exact hU.2.2.2.2.2.2 i q1
theorem chn_sub {e : Nat → EL} {x : Nat} {rest : List Nat} (h : chn e (x :: rest)) : chn e rest ∧ ∀ y, y ∈ rest → y < x := ⟨h.2.2.2.2, h.2.2.1⟩
theorem tI_en {T : TS} {p x : Nat} {up rest : List Nat} (h : tI T p) (hs : T.stk = up ++ x :: rest) : tI (tEn T p up x rest) (p + 4) := by
  have hc := h.2.1.1
  rw [hs] at hc
  obtain ⟨c1, c2, c3⟩ := chn_app up hc
  obtain ⟨c4, c5⟩ := chn_sub c1
  have hr : ∀ y, y ∈ rest → y ∉ up := fun y hy z => by have := c5 y hy; have := c2 y z; omega
  have hlen : rest.length ≤ 8 := by
    have := h.2.1.2.2
    rw [hs, List.length_append, List.length_cons] at this
    omega
  have hmem : ∀ i, i ∈ T.stk ↔ i ∈ up ∨ i = x ∨ i ∈ rest := by intro i; rw [hs, List.mem_append, List.mem_cons]
  have hx : x ∉ up := fun z => Nat.lt_irrefl _ (c2 x z)
  refine tI_cl h (by omega) (fun i => if i ∈ up then elC (T.e i) 0 p p 0 else if i = x then elC (T.e i) 3 p (p + 4) T.tn else T.e i) up rest (T.tn + 1) _ (Nat.le_succ _) (by have := h.1.2.1; omega) c4 (fun y hy => (hmem y).mpr (Or.inr (Or.inr hy))) hlen c3 (fun y hy => ⟨(hmem y).mpr (Or.inl hy), fun z => hr y z hy⟩) (fun i => ?_) (fun i q1 q2 => ⟨fun hu => ?_, fun h1 h2 h3 => ?_, fun h1 => ?_⟩)
  · split
    · exact ⟨rfl, rfl, rfl, rfl, rfl, rfl⟩
    · split
      · exact ⟨rfl, rfl, rfl, rfl, rfl, rfl⟩
      · exact ⟨rfl, rfl, rfl, rfl, rfl, rfl⟩
  · rw [if_pos hu]
    exact ⟨rfl, rfl, rfl⟩
  · have hix : i = x := by
      rcases (hmem i).mp h1 with z | z | z
      · exact absurd z h3
      · exact z
      · exact absurd z h2
    rw [if_neg h3, if_pos hix]
    exact ⟨rfl, rfl, Nat.le_add_right _ _, Nat.le_refl _⟩
  · rw [if_neg (fun z => h1 ((hmem i).mpr (Or.inl z))), if_neg (fun z => h1 ((hmem i).mpr (Or.inr (Or.inl z))))]
    exact ⟨rfl, rfl, rfl⟩
theorem tI_ch {T : TS} {p : Nat} (h : tI T p) : tI (tCh a T p) (p + 1) := by
  have h' := tI_up h (Nat.le_succ p)
  obtain ⟨⟨a1, a2, a3, a4⟩, ⟨c1, c2, c3⟩, ⟨d1, d2, d3, d4, d5⟩, h4, ⟨h5a, h5b⟩, h6, h7⟩ := h
  have hs : ∀ i, ((tCh a T p).e i).nm = (T.e i).nm ∧ ((tCh a T p).e i).pr = (T.e i).pr ∧ ((tCh a T p).e i).dp = (T.e i).dp ∧ ((tCh a T p).e i).bg = (T.e i).bg ∧ ((tCh a T p).e i).iF = (T.e i).iF ∧ ((tCh a T p).e i).iT = (T.e i).iT ∧ ((tCh a T p).e i).bh = (T.e i).bh ∧ ((tCh a T p).e i).ck = (T.e i).ck ∧ (((tCh a T p).e i).ik = (T.e i).ik ∨ ((tCh a T p).e i).ik = nI p) := by
    intro i
    have e1 : (tCh a T p).e i = if ¬ a p = nI 32 ∧ (T.e T.cur).ik = -1 then va_up T.e T.cur (elK (T.e T.cur) p) i else T.e i := by
      show (if ¬ a p = nI 32 ∧ (T.e T.cur).ik = -1 then va_up T.e T.cur (elK (T.e T.cur) p) else T.e) i = _
      split <;> rfl
    rw [e1]
    split
    · by_cases hi : i = T.cur
      · rw [hi, va_up_self]
        exact ⟨rfl, rfl, rfl, rfl, rfl, rfl, rfl, rfl, Or.inr rfl⟩
      · rw [va_up_ne _ _ hi]
        exact ⟨rfl, rfl, rfl, rfl, rfl, rfl, rfl, rfl, Or.inl rfl⟩
    · exact ⟨rfl, rfl, rfl, rfl, rfl, rfl, rfl, rfl, Or.inl rfl⟩
  refine ⟨⟨a1, ?_, ?_, ?_⟩, ⟨chn_cg _ (fun x _ => ⟨(hs x).2.1, (hs x).2.2.1⟩) c1, c2, c3⟩, ?_, fun i q1 q2 => ?_, ⟨h5a, fun i => ?_⟩, fun i q1 q2 q3 => ?_, fun i q1 => ?_⟩
  · show 3 * T.tn ≤ p + 1; omega
  · show (if a p = nI 60 then (p * 8 + 1) :: T.fl else T.fl).length + 3 * T.cn ≤ p + 1
    split
    · rw [List.length_cons]; omega
    · omega
  · intro x hx
    have hx' : x ∈ (if a p = nI 60 then (p * 8 + 1) :: T.fl else T.fl) := hx
    split at hx'
    · rcases List.mem_cons.mp hx' with w | w
      · omega
      · have := a4 x w; omega
    · have := a4 x hx'; omega
  · obtain ⟨s1, s2, s3, s4, s5, _⟩ := hs 0
    exact ⟨s1.trans d1, s3.trans d2, s2.trans d3, s4.trans d4, s5.trans d5⟩
  · obtain ⟨s1, s2, s3, s4, s5, _⟩ := hs i
    rw [s1, s2, s3, s4, s5, (hs (T.e i).pr).2.2.1]
    exact h'.2.2.2.1 i q1 q2
  · rw [(hs i).2.2.2.2.2.2.2.1]
    exact h5b i
  · obtain ⟨s1, s2, s3, s4, s5, s6, s7, s8, _⟩ := hs i
    rw [s5, s6, s7, s8]
    exact h'.2.2.2.2.2.1 i q1 q2 q3
  · rcases (hs i).2.2.2.2.2.2.2.2 with w | w
    · rw [w]; exact h'.2.2.2.2.2.2 i q1
    · exact Or.inr ⟨p, Nat.lt_succ_self p, w⟩
theorem tI_sp {T : TS} {p : Nat} (h : tI T p) : tI (tSp a T p) (tTo a p) := by
  unfold tSp tTo
  by_cases k1 : tKd a p = 1
  · rw [if_pos k1, if_pos k1]
    by_cases hl : T.stk.length < 8
    · rw [if_pos hl]
      exact tI_nw h (show p + 3 ≤ p + 3 by omega) (tKd_1 k1).2.1 (elN a T p (p + 3)) _ ⟨rfl, rfl, rfl, rfl, rfl, rfl⟩ _ hl (Or.inl rfl)
    · rw [if_neg hl]
      exact tI_dp h (by omega) (by omega)
  · rw [if_neg k1, if_neg k1]
    by_cases k2 : tKd a p = 2
    · rw [if_pos k2, if_pos k2]
      by_cases hl : T.stk.length < 8
      · rw [if_pos hl]
        exact tI_nw h (show p + 3 ≤ p + 4 by omega) (tKd_2 k2).2.1 (elC (elN a T p (p + 4)) 2 (p + 4) (p + 4) 0) _ ⟨rfl, rfl, rfl, rfl, rfl, rfl⟩ _ hl (Or.inr ⟨rfl, rfl, rfl, rfl⟩)
      · rw [if_neg hl]
        exact tI_dp h (by omega) (by omega)
    · rw [if_neg k2, if_neg k2]
      by_cases k3 : tKd a p = 3
      · rw [if_pos k3, if_pos k3]
        by_cases h0 : (spl T.e (a (p + 2)) T.stk).2.1 = 0
        · rw [if_pos h0]
          exact tI_dp h (by omega) (by omega)
        · rw [if_neg h0]
          exact tI_en h ((spl_x T.e (a (p + 2)) T.stk (chn_pos _ h.2.1.1)).1 h0).1
      · rw [if_neg k3, if_neg k3]
        exact tI_ch h
theorem tTo_gt (a : Nat → Int32) (p : Nat) : p < tTo a p := by
  unfold tTo
  repeat' split
  all_goals omega
theorem tTo_le (ha : ∀ k, n ≤ k → a k = -1) {p : Nat} (h : p < n) : tTo a p ≤ n := by
  have hlt : ∀ k c, ¬ c = -1 → a k = c → k < n := fun k c hc e => Classical.byContradiction (fun q => hc (e ▸ ha k (by omega)))
  unfold tTo
  by_cases k1 : tKd a p = 1
  · rw [if_pos k1]
    have := hlt (p + 2) _ (by decide) (tKd_1 k1).2.2
    omega
  · rw [if_neg k1]
    by_cases k2 : tKd a p = 2
    · rw [if_pos k2]
      have := hlt (p + 3) _ (by decide) (tKd_2 k2).2.2.2
      omega
    · rw [if_neg k2]
      by_cases k3 : tKd a p = 3
      · rw [if_pos k3]
        have := hlt (p + 3) _ (by decide) (tKd_3 k3).2.2.2
        omega
      · rw [if_neg k3]
        omega
theorem tI_rn (ha : ∀ k, n ≤ k → a k = -1) : ∀ (k p : Nat) (T : TS), p ≤ n → n ≤ p + k → tI T p → tI (tRn a n k p T) n := by
  intro k
  induction k with
  | zero =>
    intro p T h1 h2 h
    rw [tRn, show n = p by omega]
    exact h
  | succ k ih =>
    intro p T h1 h2 h
    rw [tRn]
    by_cases hp : p < n
    · rw [if_pos hp]
      have := tTo_gt a p
      exact ih _ _ (tTo_le ha hp) (by omega) (tI_sp h)
    · rw [if_neg hp, show n = p by omega]
      exact h
end TR2
