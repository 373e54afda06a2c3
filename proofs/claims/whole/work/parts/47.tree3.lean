/-! what comes behind: order of the elements, owners of the tags -/
def prI (e : Nat → EL) : Nat → Nat → Nat
  | 0, y => y
  | k + 1, y => prI e k (e y).pr
def anc (e : Nat → EL) (x y : Nat) : Prop := ∃ k, prI e k y = x
theorem anc_r {e : Nat → EL} (x : Nat) : anc e x x := ⟨0, rfl⟩
theorem prI_add {e : Nat → EL} : ∀ k m y, prI e (k + m) y = prI e m (prI e k y) := by
  intro k
  induction k with
  | zero => intro m y; rw [Nat.zero_add]; rfl
  | succ k ih =>
    intro m y
    rw [show k + 1 + m = (k + m) + 1 by omega, prI, prI, ih]
theorem anc_t {e : Nat → EL} {x y z : Nat} (h1 : anc e x y) (h2 : anc e y z) : anc e x z := by
  obtain ⟨k, hk⟩ := h1
  obtain ⟨m, hm⟩ := h2
  exact ⟨m + k, by rw [prI_add, hm, hk]⟩
theorem anc_p {e : Nat → EL} {x y : Nat} (h : anc e x y) : anc e (e x).pr y := anc_t ⟨1, rfl⟩ h
theorem anc_s {e : Nat → EL} {x y : Nat} (h : anc e x (e y).pr) : anc e x y := by
  obtain ⟨k, hk⟩ := h
  exact ⟨k + 1, hk⟩
theorem anc_c {e : Nat → EL} {x y : Nat} (h : anc e x y) (hn : x ≠ y) : anc e x (e y).pr := by
  obtain ⟨k, hk⟩ := h
  cases k with
  | zero => exact absurd hk.symm hn
  | succ k => exact ⟨k, hk⟩
theorem prI_cg {e e' : Nat → EL} {m : Nat} (hle : ∀ y, y ≤ m → (e y).pr ≤ y) (hs : ∀ y, y ≤ m → (e' y).pr = (e y).pr) : ∀ k y, y ≤ m → prI e' k y = prI e k y := by
  intro k
  induction k with
  | zero => intros; rfl
  | succ k ih =>
    intro y hy
    rw [prI, prI, hs y hy]
    exact ih _ (by have := hle y hy; omega)
theorem anc_cg {e e' : Nat → EL} {m x y : Nat} (hle : ∀ y, y ≤ m → (e y).pr ≤ y) (hs : ∀ y, y ≤ m → (e' y).pr = (e y).pr) (hy : y ≤ m) : anc e' x y ↔ anc e x y :=
  ⟨fun ⟨k, h⟩ => ⟨k, by rw [← prI_cg hle hs k y hy]; exact h⟩, fun ⟨k, h⟩ => ⟨k, by rw [prI_cg hle hs k y hy]; exact h⟩⟩
theorem anc_chn {e : Nat → EL} {x : Nat} {rest : List Nat} : ∀ up, chn e (up ++ x :: rest) → anc e x ((up ++ x :: rest).headD 0) := by
  intro up
  induction up with
  | nil => intro _; exact anc_r x
  | cons z up ih =>
    intro h
    obtain ⟨h1, h2, h3, h4, h5⟩ := h
    show anc e x z
    refine anc_s ?_
    rw [h2]
    exact ih h5
/-- each element's parent is on the way up from the element before it -/
def tK (T : TS) : Prop := anc T.e T.cur T.cn ∧ ∀ i, i + 1 ≤ T.cn → anc T.e (T.e (i + 1)).pr i
theorem tI_ple {T : TS} {p : Nat} (h : tI T p) : ∀ y, y ≤ T.cn → (T.e y).pr ≤ y := by
  intro y hy
  by_cases h0 : y = 0
  · rw [h0, h.2.2.1.2.2.1]; omega
  · have := (h.2.2.2.1 y (by omega) hy).2.1; omega
theorem tK_nw {T : TS} {p : Nat} (h : tI T p) (hK : tK T) (E : EL) (hE : E.pr = T.cur) (stk' : List Nat) (tn : Nat) (tg : Nat → Nat × Nat × Int32) (fl br : List Nat) (hs : stk' = (T.cn + 1) :: T.stk ∨ stk' = T.stk) : tK (tsM (T.cn + 1) (va_up T.e (T.cn + 1) E) stk' tn tg fl br) := by
  have hle := tI_ple h
  have hsm : ∀ y, y ≤ T.cn → ((va_up T.e (T.cn + 1) E) y).pr = (T.e y).pr := fun y hy => by rw [va_up_ne _ _ (by omega)]
  refine ⟨?_, fun i hi => ?_⟩
  · show anc (va_up T.e (T.cn + 1) E) (stk'.headD 0) (T.cn + 1)
    rcases hs with z | z
    · rw [z]; exact anc_r _
    · rw [z]
      refine ⟨1, ?_⟩
      show ((va_up T.e (T.cn + 1) E) (T.cn + 1)).pr = _
      rw [va_up_self, hE]
      rfl
  · have hi' : i + 1 ≤ T.cn + 1 := hi
    show anc (va_up T.e (T.cn + 1) E) ((va_up T.e (T.cn + 1) E) (i + 1)).pr i
    rw [anc_cg hle hsm (show i ≤ T.cn by omega)]
    by_cases e1 : i = T.cn
    · subst e1
      rw [va_up_self, hE]
      exact hK.1
    · rw [va_up_ne _ _ (by omega)]
      exact hK.2 i (by omega)
theorem tK_sm {T T' : TS} {p : Nat} (h : tI T p) (hK : tK T) (hc : T'.cn = T.cn) (hp : ∀ y, (T'.e y).pr = (T.e y).pr) (hs : anc T.e T'.cur T.cn) : tK T' := by
  have hle := tI_ple h
  refine ⟨?_, fun i hi => ?_⟩
  · rw [hc, anc_cg hle (fun y _ => hp y) (Nat.le_refl _)]; exact hs
  · rw [hc] at hi
    rw [anc_cg hle (fun y _ => hp y) (show i ≤ T.cn by omega), hp]
    exact hK.2 i hi
theorem tK_sp {a : Nat → Int32} {T : TS} {p : Nat} (h : tI T p) (hK : tK T) : tK (tSp a T p) := by
  unfold tSp
  by_cases k1 : tKd a p = 1
  · rw [if_pos k1]
    split
    · exact tK_nw h hK _ rfl _ _ _ _ _ (Or.inl rfl)
    · exact tK_sm h hK rfl (fun _ => rfl) hK.1
  · rw [if_neg k1]
    by_cases k2 : tKd a p = 2
    · rw [if_pos k2]
      split
      · exact tK_nw h hK _ rfl _ _ _ _ _ (Or.inr rfl)
      · exact tK_sm h hK rfl (fun _ => rfl) hK.1
    · rw [if_neg k2]
      by_cases k3 : tKd a p = 3
      · rw [if_pos k3]
        split
        · exact tK_sm h hK rfl (fun _ => rfl) hK.1
        · rename_i h0
          obtain ⟨e1, e2, e3⟩ := (spl_x T.e (a (p + 2)) T.stk (chn_pos _ h.2.1.1)).1 h0
          generalize (spl T.e (a (p + 2)) T.stk).1 = up at e1 e3 ⊢
          generalize (spl T.e (a (p + 2)) T.stk).2.1 = x at e1 e2 ⊢
          generalize (spl T.e (a (p + 2)) T.stk).2.2 = rest at e1 ⊢
          have hc := h.2.1.1
          rw [e1] at hc
          refine tK_sm h hK rfl (fun y => ?_) ?_
          · show EL.pr (if y ∈ up then elC (T.e y) 0 p p 0 else if y = x then elC (T.e y) 3 p (p + 4) T.tn else T.e y) = _
            split
            · rfl
            · split <;> rfl
          · show anc T.e (rest.headD 0) T.cn
            have hx := (chn_app up hc).1.2.1
            rw [← hx]
            refine anc_p (anc_t ?_ hK.1)
            unfold TS.cur
            rw [e1]
            exact anc_chn up hc
      · rw [if_neg k3]
        refine tK_sm h hK rfl (fun y => ?_) hK.1
        show EL.pr ((if ¬ a p = nI 32 ∧ (T.e T.cur).ik = -1 then va_up T.e T.cur (elK (T.e T.cur) p) else T.e) y) = _
        split
        · by_cases hy : y = T.cur
          · rw [hy, va_up_self]; rfl
          · rw [va_up_ne _ _ hy]
        · rfl
theorem tK_0 : tK ts0 := ⟨anc_r _, fun i hi => absurd hi (by show ¬ i + 1 ≤ 0; omega)⟩
/-- whose the tags are -/
def tO (a : Nat → Int32) (T : TS) : Prop := (∀ t, t < T.tn → (T.tg t).2.2 = -1 ∨ ∃ i, 0 < i ∧ i ≤ T.cn ∧ (T.tg t).2.2 = nI i) ∧
  (∀ i, 0 < i → i ≤ T.cn → (∀ t, t < T.tn → ((T.tg t).2.2 = nI i ↔ t = (T.e i).si ∨ (i ∉ T.stk ∧ (T.e i).ck = 3 ∧ t = (T.e i).ei))) ∧ (T.e i).si < T.tn ∧ (T.tg (T.e i).si).1 = (T.e i).bg ∧ nmB (a ((T.e i).bg + 1)) = true ∧
    (i ∉ T.stk → (T.e i).ck = 3 → (T.e i).ei < T.tn ∧ (T.e i).si < (T.e i).ei ∧ (T.tg (T.e i).ei).1 = (T.e i).iT ∧ a ((T.e i).iT + 1) = nI 47))
theorem tO_0 {a : Nat → Int32} : tO a ts0 := ⟨fun t ht => absurd ht (Nat.not_lt_zero _), fun i h1 h2 => absurd h2 (by show ¬ i ≤ 0; omega)⟩
theorem nI_ne1 {k : Nat} (h : k ≤ 1000) : ¬ (-1 : Int32) = nI k := by
  intro z
  have z2 := congrArg Int32.toInt z
  rw [nI_t (by omega)] at z2
  have : (-1 : Int32).toInt = -1 := by decide
  omega
theorem tO_dp {a : Nat → Int32} {T : TS} {p to kd : Nat} (h : tI T p) (hp : p ≤ 100) (hO : tO a T) : tO a (tDp T p to kd) := by
  have hcn : T.cn ≤ 33 := by have := h.1; omega
  refine ⟨fun t ht => ?_, fun i h1 h2 => ?_⟩
  · show (va_up T.tg T.tn (p, to, -1) t).2.2 = -1 ∨ _
    have ht' : t < T.tn + 1 := ht
    by_cases e : t = T.tn
    · rw [e, va_up_self]; exact Or.inl rfl
    · rw [va_up_ne _ _ e]
      exact (hO.1 t (by omega)).imp id (fun ⟨i, z⟩ => ⟨i, by show 0 < i ∧ i ≤ T.cn ∧ (va_up T.tg T.tn (p, to, -1) t).2.2 = nI i; rw [va_up_ne _ _ e]; exact z⟩)
  · have h2' : i ≤ T.cn := h2
    obtain ⟨b1, b2, b3, b4, b5⟩ := hO.2 i h1 h2'
    refine ⟨fun t ht => ?_, ?_, ?_, b4, fun z1 z2 => ?_⟩
    · have ht' : t < T.tn + 1 := ht
      show (va_up T.tg T.tn (p, to, -1) t).2.2 = nI i ↔ t = (T.e i).si ∨ (i ∉ T.stk ∧ (T.e i).ck = 3 ∧ t = (T.e i).ei)
      by_cases e : t = T.tn
      · rw [e, va_up_self]
        constructor
        · intro z; exact absurd z (nI_ne1 (by omega))
        · rintro (z | ⟨z1, z2, z3⟩)
          · omega
          · have := (b5 z1 z2).1; omega
      · rw [va_up_ne _ _ e]; exact b1 t (by omega)
    · show (T.e i).si < T.tn + 1; omega
    · show (va_up T.tg T.tn (p, to, -1) (T.e i).si).1 = (T.e i).bg
      rw [va_up_ne _ _ (by omega)]; exact b3
    · obtain ⟨c1, c2, c3, c4⟩ := b5 z1 z2
      refine ⟨?_, c2, ?_, c4⟩
      · show (T.e i).ei < T.tn + 1; omega
      · show (va_up T.tg T.tn (p, to, -1) (T.e i).ei).1 = (T.e i).iT
        rw [va_up_ne _ _ (by omega)]; exact c3
theorem tO_nw {a : Nat → Int32} {T : TS} {p to : Nat} (h : tI T p) (hp : p ≤ 100) (hO : tO a T) (hnm : nmB (a (p + 1)) = true) (E : EL) (hE : E.bg = p ∧ E.si = T.tn ∧ ¬ E.ck = 3) (stk' : List Nat) (fl br : List Nat) (hs : ∀ i, i ≤ T.cn → (i ∈ stk' ↔ i ∈ T.stk)) : tO a (tsM (T.cn + 1) (va_up T.e (T.cn + 1) E) stk' (T.tn + 1) (va_up T.tg T.tn (p, to, nI (T.cn + 1))) fl br) := by
  have hcn : T.cn ≤ 33 := by have := h.1; omega
  refine ⟨fun t ht => ?_, fun i h1 h2 => ?_⟩
  · have ht' : t < T.tn + 1 := ht
    show (va_up T.tg T.tn (p, to, nI (T.cn + 1)) t).2.2 = -1 ∨ ∃ i, 0 < i ∧ i ≤ T.cn + 1 ∧ (va_up T.tg T.tn (p, to, nI (T.cn + 1)) t).2.2 = nI i
    by_cases e : t = T.tn
    · rw [e, va_up_self]; exact Or.inr ⟨T.cn + 1, by omega, Nat.le_refl _, rfl⟩
    · rw [va_up_ne _ _ e]
      exact (hO.1 t (by omega)).imp id (fun ⟨i, z1, z2, z3⟩ => ⟨i, z1, by omega, z3⟩)
  · have h2' : i ≤ T.cn + 1 := h2
    show (∀ t, t < T.tn + 1 → ((va_up T.tg T.tn (p, to, nI (T.cn + 1)) t).2.2 = nI i ↔ t = (va_up T.e (T.cn + 1) E i).si ∨ (i ∉ stk' ∧ (va_up T.e (T.cn + 1) E i).ck = 3 ∧ t = (va_up T.e (T.cn + 1) E i).ei))) ∧ (va_up T.e (T.cn + 1) E i).si < T.tn + 1 ∧ (va_up T.tg T.tn (p, to, nI (T.cn + 1)) (va_up T.e (T.cn + 1) E i).si).1 = (va_up T.e (T.cn + 1) E i).bg ∧ nmB (a ((va_up T.e (T.cn + 1) E i).bg + 1)) = true ∧
      (i ∉ stk' → (va_up T.e (T.cn + 1) E i).ck = 3 → (va_up T.e (T.cn + 1) E i).ei < T.tn + 1 ∧ (va_up T.e (T.cn + 1) E i).si < (va_up T.e (T.cn + 1) E i).ei ∧ (va_up T.tg T.tn (p, to, nI (T.cn + 1)) (va_up T.e (T.cn + 1) E i).ei).1 = (va_up T.e (T.cn + 1) E i).iT ∧ a ((va_up T.e (T.cn + 1) E i).iT + 1) = nI 47)
    by_cases ei : i = T.cn + 1
    · subst ei
      rw [va_up_self, hE.2.1, hE.1]
      refine ⟨fun t ht => ?_, Nat.lt_succ_self _, by rw [va_up_self], hnm, fun _ z => absurd z hE.2.2⟩
      by_cases e : t = T.tn
      · rw [e, va_up_self]; exact ⟨fun _ => Or.inl rfl, fun _ => rfl⟩
      · rw [va_up_ne _ _ e]
        constructor
        · intro z
          rcases hO.1 t (by omega) with w | ⟨i, w1, w2, w3⟩
          · rw [w] at z; exact absurd z (nI_ne1 (by omega))
          · rw [w3] at z
            have := (n_eq (by omega) (by omega)).mp z
            omega
        · rintro (z | ⟨_, z, _⟩)
          · exact absurd z e
          · exact absurd z hE.2.2
    · rw [va_up_ne _ _ ei]
      obtain ⟨b1, b2, b3, b4, b5⟩ := hO.2 i h1 (by omega)
      have hsi : i ∉ stk' ↔ i ∉ T.stk := not_congr (hs i (by omega))
      refine ⟨fun t ht => ?_, by omega, ?_, b4, fun z1 z2 => ?_⟩
      · rw [hsi]
        by_cases e : t = T.tn
        · rw [e, va_up_self]
          constructor
          · intro z
            have := (n_eq (by omega) (by omega)).mp z
            omega
          · rintro (z | ⟨z1, z2, z3⟩)
            · omega
            · have := (b5 z1 z2).1; omega
        · rw [va_up_ne _ _ e]; exact b1 t (by omega)
      · rw [va_up_ne _ _ (by omega)]; exact b3
      · obtain ⟨c1, c2, c3, c4⟩ := b5 (hsi.mp z1) z2
        refine ⟨by omega, c2, ?_, c4⟩
        rw [va_up_ne _ _ (by omega)]; exact c3
theorem tO_en {a : Nat → Int32} {T : TS} {p x : Nat} {up rest : List Nat} (h : tI T p) (hp : p ≤ 100) (hO : tO a T) (hs : T.stk = up ++ x :: rest) (ha : a (p + 1) = nI 47) : tO a (tEn T p up x rest) := by
  have hcn : T.cn ≤ 33 := by have := h.1; omega
  have hc := h.2.1.1
  rw [hs] at hc
  obtain ⟨c1, c2, c3⟩ := chn_app up hc
  obtain ⟨c4, c5⟩ := chn_sub c1
  have hmem : ∀ i, i ∈ T.stk ↔ i ∈ up ∨ i = x ∨ i ∈ rest := by intro i; rw [hs, List.mem_append, List.mem_cons]
  have hx0 : 0 < x := c1.1
  have hxle : x ≤ T.cn := h.2.1.2.1 x ((hmem x).mpr (Or.inr (Or.inl rfl)))
  refine ⟨fun t ht => ?_, fun i h1 h2 => ?_⟩
  · have ht' : t < T.tn + 1 := ht
    show (va_up T.tg T.tn (p, p + 4, nI x) t).2.2 = -1 ∨ ∃ i, 0 < i ∧ i ≤ T.cn ∧ (va_up T.tg T.tn (p, p + 4, nI x) t).2.2 = nI i
    by_cases e : t = T.tn
    · rw [e, va_up_self]; exact Or.inr ⟨x, hx0, hxle, rfl⟩
    · rw [va_up_ne _ _ e]
      exact hO.1 t (by omega)
  · have h2' : i ≤ T.cn := h2
    obtain ⟨b1, b2, b3, b4, b5⟩ := hO.2 i h1 h2'
    generalize hE : (tEn T p up x rest).e i = E
    have hE' : (if i ∈ up then elC (T.e i) 0 p p 0 else if i = x then elC (T.e i) 3 p (p + 4) T.tn else T.e i) = E := hE
    show (∀ t, t < T.tn + 1 → ((va_up T.tg T.tn (p, p + 4, nI x) t).2.2 = nI i ↔ t = E.si ∨ (i ∉ rest ∧ E.ck = 3 ∧ t = E.ei))) ∧ E.si < T.tn + 1 ∧ (va_up T.tg T.tn (p, p + 4, nI x) E.si).1 = E.bg ∧ nmB (a (E.bg + 1)) = true ∧ (i ∉ rest → E.ck = 3 → E.ei < T.tn + 1 ∧ E.si < E.ei ∧ (va_up T.tg T.tn (p, p + 4, nI x) E.ei).1 = E.iT ∧ a (E.iT + 1) = nI 47)
    have s1 : E.si = (T.e i).si ∧ E.bg = (T.e i).bg := by
      rw [← hE']
      split
      · exact ⟨rfl, rfl⟩
      · split <;> exact ⟨rfl, rfl⟩
    rw [s1.1, s1.2]
    have hxt : (va_up T.tg T.tn (p, p + 4, nI x) T.tn).2.2 = nI i ↔ i = x := by
      rw [va_up_self]
      constructor
      · intro z
        have := (n_eq (by omega) (by omega)).mp z
        omega
      · intro z; rw [z]
    have hold : ∀ t, t < T.tn → ((va_up T.tg T.tn (p, p + 4, nI x) t).2.2 = nI i ↔ t = (T.e i).si ∨ (i ∉ T.stk ∧ (T.e i).ck = 3 ∧ t = (T.e i).ei)) := by
      intro t ht
      rw [va_up_ne _ _ (by omega)]; exact b1 t ht
    by_cases hu : i ∈ up
    · rw [if_pos hu] at hE'
      have hck : ¬ E.ck = 3 := by rw [← hE']; show ¬ 0 = 3; omega
      have hix : i ≠ x := by have := c2 i hu; omega
      refine ⟨fun t ht => ?_, by omega, ?_, b4, fun _ z => absurd z hck⟩
      · by_cases e : t = T.tn
        · rw [e, hxt]
          constructor
          · intro z; exact absurd z hix
          · rintro (z | ⟨_, z, _⟩)
            · omega
            · exact absurd z hck
        · rw [hold t (by omega)]
          constructor
          · rintro (z | ⟨z, _⟩)
            · exact Or.inl z
            · exact absurd ((hmem i).mpr (Or.inl hu)) z
          · rintro (z | ⟨_, z, _⟩)
            · exact Or.inl z
            · exact absurd z hck
      · rw [va_up_ne _ _ (by omega)]; exact b3
    · rw [if_neg hu] at hE'
      by_cases hix : i = x
      · rw [if_pos hix] at hE'
        have k1 : E.ck = 3 := by rw [← hE']; rfl
        have k2 : E.ei = T.tn := by rw [← hE']; rfl
        have k3 : E.iT = p := by rw [← hE']; rfl
        have hxr : i ∉ rest := fun z => by have := c5 i z; omega
        have hin : i ∈ T.stk := (hmem i).mpr (Or.inr (Or.inl hix))
        refine ⟨fun t ht => ?_, by omega, ?_, b4, fun _ _ => ?_⟩
        · rw [k2]
          by_cases e : t = T.tn
          · rw [e, hxt]
            exact ⟨fun _ => Or.inr ⟨hxr, k1, rfl⟩, fun _ => hix⟩
          · rw [hold t (by omega)]
            constructor
            · rintro (z | ⟨z, _⟩)
              · exact Or.inl z
              · exact absurd hin z
            · rintro (z | ⟨_, _, z⟩)
              · exact Or.inl z
              · exact absurd z e
        · rw [va_up_ne _ _ (by omega)]; exact b3
        · rw [k2, k3, va_up_self]
          exact ⟨by omega, b2, rfl, ha⟩
      · rw [if_neg hix] at hE'
        subst hE'
        have hsi : i ∉ rest ↔ i ∉ T.stk := not_congr ⟨fun z => (hmem i).mpr (Or.inr (Or.inr z)), fun z => by
          rcases (hmem i).mp z with w | w | w
          · exact absurd w hu
          · exact absurd w hix
          · exact w⟩
        refine ⟨fun t ht => ?_, by omega, ?_, b4, fun z1 z2 => ?_⟩
        · rw [hsi]
          by_cases e : t = T.tn
          · rw [e, hxt]
            constructor
            · intro z; exact absurd z hix
            · rintro (z | ⟨z1, z2, z3⟩)
              · omega
              · have := (b5 z1 z2).1; omega
          · exact hold t (by omega)
        · rw [va_up_ne _ _ (by omega)]; exact b3
        · obtain ⟨d1, d2, d3, d4⟩ := b5 (hsi.mp z1) z2
          refine ⟨by omega, d2, ?_, d4⟩
          rw [va_up_ne _ _ (by omega)]; exact d3
theorem tO_sp {a : Nat → Int32} {T : TS} {p : Nat} (h : tI T p) (hp : p ≤ 100) (hO : tO a T) : tO a (tSp a T p) := by
  have hncn : T.cn + 1 ∉ T.stk := fun z => by have := h.2.1.2.1 _ z; omega
  unfold tSp
  by_cases k1 : tKd a p = 1
  · rw [if_pos k1]
    split
    · refine tO_nw h hp hO (tKd_1 k1).2.1 (elN a T p (p + 3)) ⟨rfl, rfl, by show ¬ 0 = 3; omega⟩ _ _ _ (fun i hi => ?_)
      rw [List.mem_cons]
      exact ⟨fun z => z.resolve_left (by omega), Or.inr⟩
    · exact tO_dp h hp hO
  · rw [if_neg k1]
    by_cases k2 : tKd a p = 2
    · rw [if_pos k2]
      split
      · exact tO_nw h hp hO (tKd_2 k2).2.1 (elC (elN a T p (p + 4)) 2 (p + 4) (p + 4) 0) ⟨rfl, rfl, by show ¬ 2 = 3; omega⟩ _ _ _ (fun i hi => Iff.rfl)
      · exact tO_dp h hp hO
    · rw [if_neg k2]
      by_cases k3 : tKd a p = 3
      · rw [if_pos k3]
        split
        · exact tO_dp h hp hO
        · rename_i h0
          exact tO_en h hp hO ((spl_x T.e (a (p + 2)) T.stk (chn_pos _ h.2.1.1)).1 h0).1 (tKd_3 k3).2.1
      · rw [if_neg k3]
        have he : ∀ i, ((tCh a T p).e i).si = (T.e i).si ∧ ((tCh a T p).e i).ck = (T.e i).ck ∧ ((tCh a T p).e i).ei = (T.e i).ei ∧ ((tCh a T p).e i).bg = (T.e i).bg ∧ ((tCh a T p).e i).iT = (T.e i).iT := by
          intro i
          show EL.si ((if ¬ a p = nI 32 ∧ (T.e T.cur).ik = -1 then va_up T.e T.cur (elK (T.e T.cur) p) else T.e) i) = _ ∧ EL.ck ((if ¬ a p = nI 32 ∧ (T.e T.cur).ik = -1 then va_up T.e T.cur (elK (T.e T.cur) p) else T.e) i) = _ ∧ EL.ei ((if ¬ a p = nI 32 ∧ (T.e T.cur).ik = -1 then va_up T.e T.cur (elK (T.e T.cur) p) else T.e) i) = _ ∧ EL.bg ((if ¬ a p = nI 32 ∧ (T.e T.cur).ik = -1 then va_up T.e T.cur (elK (T.e T.cur) p) else T.e) i) = _ ∧ EL.iT ((if ¬ a p = nI 32 ∧ (T.e T.cur).ik = -1 then va_up T.e T.cur (elK (T.e T.cur) p) else T.e) i) = _
          split
          · by_cases hy : i = T.cur
            · rw [hy, va_up_self]; exact ⟨rfl, rfl, rfl, rfl, rfl⟩
            · rw [va_up_ne _ _ hy]; exact ⟨rfl, rfl, rfl, rfl, rfl⟩
          · exact ⟨rfl, rfl, rfl, rfl, rfl⟩
        refine ⟨hO.1, fun i h1 h2 => ?_⟩
        obtain ⟨s1, s2, s3, s4, s5⟩ := he i
        rw [s1, s2, s3, s4, s5]
        exact hO.2 i h1 h2
