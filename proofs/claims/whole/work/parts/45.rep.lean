/-! the class's cells say what the tree is -/
theorem nI_mul8 (a b : Nat) : nI a * nI b = nI (a * b) := (Int32.ofNat_mul a b).symm
def TxA (iv : Nat → Nat → Int32) (a : Nat → Int32) (n : Nat) : Prop := n ≤ 100 ∧ iv 39 1 = nI n ∧ (∀ k, k < n → iv 40 k = a k) ∧ ∀ k, n ≤ k → a k = -1
def chC (e : Nat → EL) : Nat → Nat → Nat
  | 0, _ => 0
  | k + 1, i => chC e k i + (if (e (k + 1)).pr = i then 1 else 0)
def elR (iv : Nat → Nat → Int32) (E : EL) (ch i : Nat) : Prop := iv (46 + i) 0 = E.nm ∧ iv (46 + i) 1 = (if i = 0 then -1 else nI E.pr) ∧ iv (46 + i) 2 = nI E.dp ∧ iv (46 + i) 3 = nI E.bg ∧ iv (46 + i) 4 = nI E.iF ∧ iv (46 + i) 7 = nI ch ∧ iv (46 + i) 9 = E.ik
def elD (iv : Nat → Nat → Int32) (E : EL) (i : Nat) : Prop := iv (46 + i) 5 = nI E.iT ∧ iv (46 + i) 6 = nI E.bh ∧ iv (46 + i) 8 = nI E.ck
def tgR (iv : Nat → Nat → Int32) (g : Nat × Nat × Int32) (t : Nat) : Prop := iv 43 t = nI g.1 ∧ iv 44 t = nI g.2.1 ∧ iv 45 t = g.2.2
def RepC (iv : Nat → Nat → Int32) (T : TS) : Prop := iv 41 2 = nI T.cn ∧ iv 41 3 = nI T.cur ∧ iv 41 7 = nI T.tn ∧ (∀ t, t < T.tn → tgR iv (T.tg t) t) ∧ (∀ i, i ≤ T.cn → elR iv (T.e i) (chC T.e T.cn i) i) ∧ (∀ i, 0 < i → i ≤ T.cn → i ∉ T.stk → elD iv (T.e i) i) ∧ FaC iv T.fl
section RC
variable {iv : Nat → Nat → Int32} {a : Nat → Int32} {n p : Nat} {T : TS}
theorem cAt_a (h : TxA iv a n) {k : Nat} (hk : k ≤ 1000) : cAt iv (nI k) = a k := by
  unfold cAt gAt
  have e : (nI k).toInt = (k : Int) := nI_t (by omega)
  have e2 : (iv 39 1).toInt = (n : Int) := by rw [h.2.1]; exact nI_t (by have := h.1; omega)
  rw [e, e2]
  by_cases hp : k < n
  · rw [if_pos (by omega)]
    exact h.2.2.1 k hp
  · rw [if_neg (by omega), h.2.2.2 k (by omega)]
theorem tk_a (h : TxA iv a n) (hp : p ≤ 100) : tkF (cAt iv) (nI p) = nI (tKd a p) := by
  unfold tkF tKd
  rw [nI_add, nI_add, nI_add, cAt_a h (by omega), cAt_a h (by omega), cAt_a h (by omega), cAt_a h (by omega)]
  simp only [apply_ite nI]
theorem chC_new {e : Nat → EL} {cn : Nat} {E : EL} {i : Nat} : chC (va_up e (cn + 1) E) (cn + 1) i = chC e cn i + (if E.pr = i then 1 else 0) := by
  have h : ∀ k, k ≤ cn → chC (va_up e (cn + 1) E) k i = chC e k i := by
    intro k
    induction k with
    | zero => intro _; rfl
    | succ k ih =>
      intro hk
      rw [chC, chC, ih (by omega), va_up_ne _ _ (by omega)]
  rw [chC, h cn (Nat.le_refl _), va_up_self]
theorem chC_cg {e e' : Nat → EL} (h : ∀ i, (e' i).pr = (e i).pr) : ∀ cn i, chC e' cn i = chC e cn i := by
  intro cn
  induction cn with
  | zero => intro i; rfl
  | succ k ih => intro i; rw [chC, chC, ih, h]
theorem chC_0 {e : Nat → EL} {i : Nat} : ∀ cn, (∀ k, 0 < k → k ≤ cn → (e k).pr < k) → cn ≤ i → chC e cn i = 0 := by
  intro cn
  induction cn with
  | zero => intros; rfl
  | succ k ih =>
    intro h hi
    rw [chC, ih (fun q h1 h2 => h q h1 (by omega)) (by omega), if_neg (by have := h (k + 1) (by omega) (Nat.le_refl _); omega)]
theorem chC_le {e : Nat → EL} {i : Nat} : ∀ cn, chC e cn i ≤ cn := by
  intro cn
  induction cn with
  | zero => exact Nat.le_refl _
  | succ k ih =>
    rw [chC]
    split <;> omega
theorem cur_le (h : tI T p) : T.cur ≤ T.cn := by
  unfold TS.cur
  cases hs : T.stk with
  | nil => exact Nat.zero_le _
  | cons x l => exact h.2.1.2.1 x (by rw [hs]; exact List.mem_cons_self ..)
theorem cur_dp (h : tI T p) : (T.e T.cur).dp = T.stk.length := chn_dp h.2.2.1.2.1 _ h.2.1.1
theorem beg_a (hR : RepC iv T) (h : tI T p) (hp : p + 3 ≤ 100) : begOk iv T.cur T.cn ↔ T.stk.length < 8 := by
  unfold begOk
  have e := (hR.2.2.2.2.1 T.cur (cur_le h)).2.2.1
  rw [cur_dp h] at e
  have hl := h.2.1.2.2
  rw [e, n_ge (by omega) (by omega)]
  have h1 := h.1.1
  have h2 := h.1.2.1
  constructor
  · intro z; omega
  · intro z; exact ⟨by omega, by omega⟩
/-- a tag is noted -/
theorem tag_g {k1 k2 : Nat} {k3 : Int32} (h : ∀ t, t < T.tn → tgR iv (T.tg t) t) : ∀ t, t < T.tn + 1 → tgR (trTag iv T.tn (nI k1) (nI k2) k3) (va_up T.tg T.tn (k1, k2, k3) t) t := by
  intro t ht
  unfold tgR trTag
  by_cases e : t = T.tn
  · subst e
    rw [va_up_self, u2n (Or.inl (by decide)), u2n (Or.inl (by decide)), u2n (Or.inl (by decide)), u2s, u2n (Or.inl (by decide)), u2n (Or.inl (by decide)), u2s, u2n (Or.inl (by decide)), u2s]
    exact ⟨rfl, rfl, rfl⟩
  · rw [va_up_ne _ _ e]
    obtain ⟨z1, z2, z3⟩ := h t (by omega)
    refine ⟨?_, ?_, ?_⟩
    · rw [u2n (Or.inl (by decide)), u2n (Or.inl (by decide)), u2n (Or.inl (by decide)), u2n (Or.inr e)]; exact z1
    · rw [u2n (Or.inl (by decide)), u2n (Or.inl (by decide)), u2n (Or.inr e), u2n (Or.inl (by decide))]; exact z2
    · rw [u2n (Or.inl (by decide)), u2n (Or.inr e), u2n (Or.inl (by decide)), u2n (Or.inl (by decide))]; exact z3
theorem faC_cg {iv' : Nat → Nat → Int32} {A : List Nat} (h : FaC iv A) (h0 : iv' 80 1 = iv 80 1) (h1 : ∀ i, iv' 81 i = iv 81 i) : FaC iv' A := ⟨h0.trans h.1, fun i hi => (h1 i).trans (h.2.1 i hi), h.2.2⟩
theorem faC_add8 {A : List Nat} (h : FaC iv A) {kd pl : Nat} (hk : kd < 8) (hp : pl ≤ 1000) : FaC (faAdd iv A.length (nI pl * nI 8 + nI kd)) ((pl * 8 + kd) :: A) := by
  rw [nI_mul8, nI_add]
  exact faC_add h (by omega)
theorem rc_dp (hR : RepC iv T) (h : tI T p) (hp : p ≤ 100) {to kd : Nat} (hk : kd < 8) : RepC (faAdd (trTag iv T.tn (nI p) (nI to) (-1)) T.fl.length (nI p * nI 8 + nI kd)) (tDp T p to kd) := by
  obtain ⟨r1, r2, r3, r4, r5, r6, r7⟩ := hR
  have hcn : T.cn ≤ 33 := by have := h.1; omega
  have ho : ∀ i j, i ≤ T.cn → faAdd (trTag iv T.tn (nI p) (nI to) (-1)) T.fl.length (nI p * nI 8 + nI kd) (46 + i) j = iv (46 + i) j := by
    intro i j hi
    rw [faAdd_o (by omega) (Or.inl (by omega)), trTag_o ⟨by omega, by omega, by omega, Or.inl (by omega)⟩]
  refine ⟨?_, ?_, ?_, ?_, ?_, ?_, ?_⟩
  · rw [faAdd_o (by decide) (Or.inl (by decide)), trTag_o (by decide)]; exact r1
  · rw [faAdd_o (by decide) (Or.inl (by decide)), trTag_o (by decide)]; exact r2
  · rw [faAdd_o (by decide) (Or.inl (by decide))]; exact u2s
  · intro t ht
    have := tag_g (k1 := p) (k2 := to) (k3 := -1) r4 t ht
    unfold tgR at this ⊢
    rw [faAdd_o (by decide) (Or.inl (by decide)), faAdd_o (by decide) (Or.inl (by decide)), faAdd_o (by decide) (Or.inl (by decide))]
    exact this
  · intro i hi
    have hi' : i ≤ T.cn := hi
    have := r5 i hi'
    unfold elR at this ⊢
    rw [ho i 0 hi', ho i 1 hi', ho i 2 hi', ho i 3 hi', ho i 4 hi', ho i 7 hi', ho i 9 hi']
    exact this
  · intro i q1 q2 q3
    have hi' : i ≤ T.cn := q2
    have := r6 i q1 q2 q3
    unfold elD at this ⊢
    rw [ho i 5 hi', ho i 6 hi', ho i 8 hi']
    exact this
  · refine faC_add8 (faC_cg r7 (trTag_o (by decide)) (fun i => trTag_o ⟨by decide, by decide, by decide, Or.inl (by decide)⟩)) hk (by omega)
theorem trBeg_e {op cn tn : Nat} {x y : Int32} {i k : Nat} (h1 : i ≠ cn + 1) (h2 : i ≠ op ∨ k ≠ 7) : trBeg iv op cn tn x y (46 + i) k = iv (46 + i) k := by
  unfold trBeg trB3 trB2
  rw [trTag_o ⟨by omega, by omega, by omega, Or.inl (by omega)⟩, elOpen_o (by omega), u2n (by omega), u2n (Or.inl (by omega))]
theorem trBeg_7 {op cn tn : Nat} {x y : Int32} (h1 : op ≠ cn + 1) : trBeg iv op cn tn x y (46 + op) 7 = iv (46 + op) 7 + nI 1 := by
  unfold trBeg trB3 trB2
  rw [trTag_o ⟨by omega, by omega, by omega, Or.inl (by omega)⟩, elOpen_o (by omega), u2s]
theorem trBeg_f {op cn tn : Nat} {x y : Int32} {q k : Nat} (h : q < 41 ∨ q = 42 ∨ 80 ≤ q) (h1 : cn ≤ 32) (h2 : op ≤ 33) : trBeg iv op cn tn x y q k = iv q k := by
  unfold trBeg trB3 trB2
  rw [trTag_o ⟨by omega, by omega, by omega, Or.inl (by omega)⟩, elOpen_o (by omega), u2n (Or.inl (by omega)), u2n (Or.inl (by omega))]
theorem trBeg_n {op cn tn : Nat} {x y : Int32} (hcn : cn ≤ 32) (hop : op ≤ 33) : trBeg iv op cn tn x y (46 + (cn + 1)) 0 = cAt iv (x + nI 1) ∧ trBeg iv op cn tn x y (46 + (cn + 1)) 1 = nI op ∧ trBeg iv op cn tn x y (46 + (cn + 1)) 2 = iv (46 + op) 2 + nI 1 ∧ trBeg iv op cn tn x y (46 + (cn + 1)) 3 = x ∧ trBeg iv op cn tn x y (46 + (cn + 1)) 4 = y ∧ trBeg iv op cn tn x y (46 + (cn + 1)) 7 = nI 0 ∧ trBeg iv op cn tn x y (46 + (cn + 1)) 9 = -1 := by
  have e : ∀ k, trBeg iv op cn tn x y (46 + (cn + 1)) k = trB3 iv op cn x y (46 + (cn + 1)) k := fun k => trTag_o ⟨by omega, by omega, by omega, Or.inl (by omega)⟩
  have ec : cAt (trB2 iv op cn) (x + nI 1) = cAt iv (x + nI 1) := by
    unfold cAt
    have z1 : trB2 iv op cn 39 1 = iv 39 1 := trB2_o (by omega) (Or.inl (by decide))
    have z2 : trB2 iv op cn 40 = iv 40 := funext (fun k => trB2_o (by omega) (Or.inl (by decide)))
    rw [z1, z2]
  rw [e, e, e, e, e, e, e]
  unfold trB3 elOpen
  rw [ec]
  refine ⟨?_, ?_, ?_, ?_, ?_, ?_, ?_⟩
  · rw [u2n (Or.inr (by decide)), u2n (Or.inr (by decide)), u2n (Or.inr (by decide)), u2n (Or.inr (by decide)), u2n (Or.inr (by decide)), u2n (Or.inr (by decide)), u2s]
  · rw [u2n (Or.inr (by decide)), u2n (Or.inr (by decide)), u2n (Or.inr (by decide)), u2n (Or.inr (by decide)), u2n (Or.inr (by decide)), u2s]
  · rw [u2n (Or.inr (by decide)), u2n (Or.inr (by decide)), u2n (Or.inr (by decide)), u2n (Or.inr (by decide)), u2s]
  · rw [u2n (Or.inr (by decide)), u2n (Or.inr (by decide)), u2n (Or.inr (by decide)), u2s]
  · rw [u2n (Or.inr (by decide)), u2n (Or.inr (by decide)), u2s]
  · rw [u2n (Or.inr (by decide)), u2s]
  · rw [u2s]
theorem trBeg_t {op cn tn : Nat} {x y : Int32} (hcn : cn ≤ 32) (hop : op ≤ 33) : trBeg iv op cn tn x y 41 2 = nI (cn + 1) ∧ trBeg iv op cn tn x y 41 3 = iv 41 3 ∧ trBeg iv op cn tn x y 41 7 = nI (tn + 1) ∧ ∀ q, q = 43 ∨ q = 44 ∨ q = 45 → ∀ t, trB3 iv op cn x y q t = iv q t := by
  refine ⟨?_, ?_, (by unfold trBeg trTag; exact u2s), fun q hq t => ?_⟩
  · unfold trBeg trB3 trB2
    rw [trTag_o (by decide), elOpen_o (by omega), u2n (Or.inl (by omega)), u2s]
  · unfold trBeg trB3 trB2
    rw [trTag_o (by decide), elOpen_o (by omega), u2n (Or.inl (by omega)), u2n (Or.inr (by decide))]
  · unfold trB3 trB2
    rw [elOpen_o (by omega), u2n (Or.inl (by omega)), u2n (Or.inl (by omega))]
/-- a new element's cells -/
theorem rc_nw (hR : RepC iv T) (h : tI T p) (hA : TxA iv a n) {to : Nat} (hp : p + 3 ≤ 100) {E : EL} (hE : E.nm = a (p + 1) ∧ E.pr = T.cur ∧ E.dp = (T.e T.cur).dp + 1 ∧ E.bg = p ∧ E.iF = to ∧ E.ik = -1) (iv' : Nat → Nat → Int32)
    (h1 : ∀ i k, i ≤ T.cn + 1 → (k ≠ 5 ∧ k ≠ 6 ∧ k ≠ 8 ∨ i ≤ T.cn) → iv' (46 + i) k = trBeg iv T.cur T.cn T.tn (nI p) (nI to) (46 + i) k) (h2 : ∀ q k, (q = 41 ∧ k ≠ 3) ∨ q = 43 ∨ q = 44 ∨ q = 45 ∨ q = 80 ∨ q = 81 → iv' q k = trBeg iv T.cur T.cn T.tn (nI p) (nI to) q k)
    (stk' : List Nat) (h3 : iv' 41 3 = nI (stk'.headD 0)) (h4 : ∀ i, i ≤ T.cn → i ∉ stk' → i ∉ T.stk) (h5 : T.cn + 1 ∉ stk' → elD iv' E (T.cn + 1)) :
    RepC iv' (tsM (T.cn + 1) (va_up T.e (T.cn + 1) E) stk' (T.tn + 1) (va_up T.tg T.tn (p, to, nI (T.cn + 1))) T.fl T.br) := by
  obtain ⟨r1, r2, r3, r4, r5, r6, r7⟩ := hR
  have hcn : T.cn ≤ 32 := by have := h.1; omega
  have hcur := cur_le h
  have hop : T.cur ≤ 33 := by omega
  obtain ⟨t1, t2, t3, t4⟩ := trBeg_t (iv := iv) (op := T.cur) (cn := T.cn) (tn := T.tn) (x := nI p) (y := nI to) hcn hop
  obtain ⟨n0, n1, n2, n3, n4, n7, n9⟩ := trBeg_n (iv := iv) (op := T.cur) (cn := T.cn) (tn := T.tn) (x := nI p) (y := nI to) hcn hop
  refine ⟨(h2 41 2 (Or.inl ⟨rfl, by decide⟩)).trans t1, h3, (h2 41 7 (Or.inl ⟨rfl, by decide⟩)).trans t3, fun t ht => ?_, fun i hi => ?_, fun i q1 q2 q3 => ?_, ?_⟩
  · have hg := tag_g (iv := trB3 iv T.cur T.cn (nI p) (nI to)) (T := T) (k1 := p) (k2 := to) (k3 := nI (T.cn + 1)) (fun t ht => by
      unfold tgR
      rw [t4 43 (Or.inl rfl), t4 44 (Or.inr (Or.inl rfl)), t4 45 (Or.inr (Or.inr rfl))]
      exact r4 t ht) t ht
    unfold tgR at hg ⊢
    rw [h2 43 t (Or.inr (Or.inl rfl)), h2 44 t (Or.inr (Or.inr (Or.inl rfl))), h2 45 t (Or.inr (Or.inr (Or.inr (Or.inl rfl))))]
    exact hg
  · have hi' : i ≤ T.cn + 1 := hi
    show elR iv' (va_up T.e (T.cn + 1) E i) (chC (va_up T.e (T.cn + 1) E) (T.cn + 1) i) i
    unfold elR
    rw [h1 i 0 hi' (Or.inl (by decide)), h1 i 1 hi' (Or.inl (by decide)), h1 i 2 hi' (Or.inl (by decide)), h1 i 3 hi' (Or.inl (by decide)), h1 i 4 hi' (Or.inl (by decide)), h1 i 7 hi' (Or.inl (by decide)), h1 i 9 hi' (Or.inl (by decide)), chC_new]
    by_cases e : i = T.cn + 1
    · subst e
      rw [va_up_self, n0, n1, n2, n3, n4, n7, n9, nI_add, cAt_a hA (by omega), hE.1, hE.2.1, hE.2.2.1, hE.2.2.2.1, hE.2.2.2.2.1, hE.2.2.2.2.2, if_neg (by omega), if_neg (by omega), chC_0 T.cn (fun k z1 z2 => (h.2.2.2.1 k z1 z2).2.1) (by omega), (r5 T.cur hcur).2.2.1, nI_s]
      exact ⟨rfl, rfl, rfl, rfl, rfl, rfl, rfl⟩
    · have hr := r5 i (by omega)
      unfold elR at hr
      rw [va_up_ne _ _ e, trBeg_e e (Or.inr (by decide)), trBeg_e e (Or.inr (by decide)), trBeg_e e (Or.inr (by decide)), trBeg_e e (Or.inr (by decide)), trBeg_e e (Or.inr (by decide)), trBeg_e (k := 9) e (Or.inr (by decide)), hE.2.1]
      refine ⟨hr.1, hr.2.1, hr.2.2.1, hr.2.2.2.1, hr.2.2.2.2.1, ?_, hr.2.2.2.2.2.2⟩
      by_cases e2 : T.cur = i
      · rw [if_pos e2, ← e2, trBeg_7 (by omega), e2, hr.2.2.2.2.2.1, nI_s]
      · rw [if_neg e2, trBeg_e e (Or.inl (fun z => e2 z.symm))]
        exact hr.2.2.2.2.2.1
  · by_cases e : i = T.cn + 1
    · subst e
      show elD iv' (va_up T.e (T.cn + 1) E (T.cn + 1)) (T.cn + 1)
      rw [va_up_self]
      exact h5 q3
    · have hi2 : i ≤ T.cn := by
        have : i ≤ T.cn + 1 := q2
        omega
      have hr := r6 i q1 hi2 (h4 i hi2 q3)
      show elD iv' (va_up T.e (T.cn + 1) E i) i
      unfold elD at hr ⊢
      rw [va_up_ne _ _ e, h1 i 5 q2 (Or.inr hi2), h1 i 6 q2 (Or.inr hi2), h1 i 8 q2 (Or.inr hi2), trBeg_e e (Or.inr (by decide)), trBeg_e e (Or.inr (by decide)), trBeg_e e (Or.inr (by decide))]
      exact hr
  · refine faC_cg r7 ?_ (fun i => ?_)
    · rw [h2 80 1 (Or.inr (Or.inr (Or.inr (Or.inr (Or.inl rfl))))), trBeg_f (Or.inr (Or.inr (by decide))) hcn hop]
    · rw [h2 81 i (Or.inr (Or.inr (Or.inr (Or.inr (Or.inr rfl))))), trBeg_f (Or.inr (Or.inr (by decide))) hcn hop]
theorem rc_st (hR : RepC iv T) (h : tI T p) (hA : TxA iv a n) (hp : p + 3 ≤ 100) : RepC (ex_u2 (trBeg iv T.cur T.cn T.tn (nI p) (nI p + nI 3)) 41 3 (nI (T.cn + 1))) (tSt a T p) := by
  have hcn : T.cn ≤ 32 := by have := h.1; omega
  rw [nI_add]
  refine rc_nw hR h hA hp (E := elN a T p (p + 3)) ⟨rfl, rfl, rfl, rfl, rfl, rfl⟩ _ (fun i k hi _ => u2n (Or.inl (by omega))) (fun q k hq => ?_) _ u2s (fun i hi h1 h2 => h1 (List.mem_cons_of_mem _ h2)) (fun z => absurd (List.mem_cons_self ..) z)
  rcases hq with z | z
  · exact u2n (Or.inr z.2)
  · exact u2n (Or.inl (by omega))
theorem rc_em (hR : RepC iv T) (h : tI T p) (hA : TxA iv a n) (hp : p + 4 ≤ 100) : RepC (elClose (trBeg iv T.cur T.cn T.tn (nI p) (nI p + nI 4)) (T.cn + 1) (nI 2) (nI p + nI 4) (nI p + nI 4)) (tEm a T p) := by
  have hcn : T.cn ≤ 32 := by have := h.1; omega
  have hcur := cur_le h
  rw [nI_add]
  refine rc_nw hR h hA (by omega) (E := elC (elN a T p (p + 4)) 2 (p + 4) (p + 4) 0) ⟨rfl, rfl, rfl, rfl, rfl, rfl⟩ _ (fun i k hi hk => elClose_o ?_) (fun q k hq => elClose_o (Or.inl (by omega))) _ ?_ (fun i hi h1 h2 => h1 h2) (fun z => ?_)
  · rcases hk with z | z
    · exact Or.inr ⟨z.2.2, z.1, z.2.1⟩
    · exact Or.inl (by omega)
  · rw [elClose_o (Or.inl (by omega)), (trBeg_t hcn (by omega)).2.1]
    exact hR.2.1
  · unfold elD elClose
    rw [u2n (Or.inr (by decide)), u2s, u2s, u2n (Or.inr (by decide)), u2n (Or.inr (by decide)), u2s]
    exact ⟨rfl, rfl, rfl⟩
theorem rc_ch (hR : RepC iv T) (h : tI T p) (hA : TxA iv a n) (hp : p ≤ 100) : RepC (trChr iv T.cur T.fl.length (nI p)) (tCh a T p) := by
  have hcn : T.cn ≤ 33 := by have := h.1; omega
  have hcur := cur_le h
  obtain ⟨r1, r2, r3, r4, r5, r6, r7⟩ := hR
  have hca : cAt iv (nI p) = a p := cAt_a hA (by omega)
  have hk : ∀ q k, q ≠ 46 + T.cur ∨ k ≠ 9 → trInk iv T.cur (a p) (nI p) q k = iv q k := by
    intro q k hq
    unfold trInk
    split
    · exact u2n hq
    · rfl
  have hck : ∀ q k, (q ≠ 46 + T.cur ∨ k ≠ 9) → q ≠ 81 → q ≠ 80 → trChr iv T.cur T.fl.length (nI p) q k = iv q k := by
    intro q k hq h1 h2
    unfold trChr
    rw [hca]
    split
    · rw [faAdd_o h1 (Or.inl h2)]; exact hk q k hq
    · exact hk q k hq
  have hfa : FaC (trInk iv T.cur (a p) (nI p)) T.fl := faC_cg r7 (hk _ _ (Or.inl (by omega))) (fun i => hk _ _ (Or.inl (by omega)))
  have he : ∀ i, (tCh a T p).e i = if i = T.cur ∧ ¬ a p = nI 32 ∧ (T.e T.cur).ik = -1 then elK (T.e i) p else T.e i := by
    intro i
    show (if ¬ a p = nI 32 ∧ (T.e T.cur).ik = -1 then va_up T.e T.cur (elK (T.e T.cur) p) else T.e) i = _
    by_cases hc : ¬ a p = nI 32 ∧ (T.e T.cur).ik = -1
    · rw [if_pos hc]
      by_cases hi : i = T.cur
      · rw [if_pos ⟨hi, hc⟩, hi, va_up_self]
      · rw [if_neg (fun z => hi z.1), va_up_ne _ _ hi]
    · rw [if_neg hc, if_neg (fun z => hc z.2)]
  refine ⟨(hck _ _ (Or.inl (by omega)) (by decide) (by decide)).trans r1, (hck _ _ (Or.inl (by omega)) (by decide) (by decide)).trans r2, (hck _ _ (Or.inl (by omega)) (by decide) (by decide)).trans r3, fun t ht => ?_, fun i hi => ?_, fun i q1 q2 q3 => ?_, ?_⟩
  · unfold tgR
    rw [hck _ _ (Or.inl (by omega)) (by decide) (by decide), hck _ _ (Or.inl (by omega)) (by decide) (by decide), hck _ _ (Or.inl (by omega)) (by decide) (by decide)]
    exact r4 t ht
  · have hi' : i ≤ T.cn := hi
    have hr := r5 i hi'
    have hch : chC (tCh a T p).e T.cn i = chC T.e T.cn i := chC_cg (fun q => by rw [he q]; split <;> rfl) _ _
    show elR _ ((tCh a T p).e i) (chC (tCh a T p).e T.cn i) i
    rw [hch, he i]
    unfold elR at hr ⊢
    rw [hck _ 0 (Or.inr (by decide)) (by omega) (by omega), hck _ 1 (Or.inr (by decide)) (by omega) (by omega), hck _ 2 (Or.inr (by decide)) (by omega) (by omega), hck _ 3 (Or.inr (by decide)) (by omega) (by omega), hck _ 4 (Or.inr (by decide)) (by omega) (by omega), hck _ 7 (Or.inr (by decide)) (by omega) (by omega)]
    obtain ⟨s1, s2, s3, s4, s5, s6, s7⟩ := hr
    have hv : ∀ q k, q ≠ 81 → q ≠ 80 → trChr iv T.cur T.fl.length (nI p) q k = trInk iv T.cur (a p) (nI p) q k := by
      intro q k h1 h2
      unfold trChr
      rw [hca]
      split
      · rw [faAdd_o h1 (Or.inl h2)]
      · rfl
    rw [hv _ _ (by omega) (by omega)]
    by_cases hc : i = T.cur ∧ ¬ a p = nI 32 ∧ (T.e T.cur).ik = -1
    · rw [if_pos hc]
      refine ⟨s1, s2, s3, s4, s5, s6, ?_⟩
      unfold trInk
      rw [(r5 T.cur hcur).2.2.2.2.2.2, if_pos hc.2, hc.1, u2s]
      rfl
    · rw [if_neg hc]
      refine ⟨s1, s2, s3, s4, s5, s6, ?_⟩
      by_cases hi2 : i = T.cur
      · unfold trInk
        rw [(r5 T.cur hcur).2.2.2.2.2.2, if_neg (fun z => hc ⟨hi2, z⟩)]
        exact s7
      · rw [hk _ _ (Or.inl (by omega))]
        exact s7
  · have hr := r6 i q1 q2 q3
    have hi' : i ≤ T.cn := q2
    rw [he i]
    unfold elD at hr ⊢
    rw [hck _ 5 (Or.inr (by decide)) (by omega) (by omega), hck _ 6 (Or.inr (by decide)) (by omega) (by omega), hck _ 8 (Or.inr (by decide)) (by omega) (by omega)]
    split
    · exact hr
    · exact hr
  · show FaC _ (if a p = nI 60 then (p * 8 + 1) :: T.fl else T.fl)
    unfold trChr
    rw [hca]
    split
    · exact faC_add8 hfa (by decide) (by omega)
    · exact hfa
end RC
section RC2
variable {iv : Nat → Nat → Int32} {a : Nat → Int32} {n p : Nat} {T : TS}
theorem low_spl {e : Nat → EL} {pr : Nat → Nat} (hpr : ∀ q, pr q = (e q).pr) {nm : Int32} : ∀ (l : List Nat) (k : Nat), l.length ≤ k → chn e l → (∀ y, y ∈ l → iv (46 + y) 0 = (e y).nm) → lowF iv pr nm k (l.headD 0) = (spl e nm l).2.1 := by
  intro l
  induction l with
  | nil =>
    intro k _ _ _
    cases k with
    | zero => rfl
    | succ k => rw [lowF]; exact if_pos rfl
  | cons x l ih =>
    intro k hk hc hy
    cases k with
    | zero => rw [List.length_cons] at hk; omega
    | succ k =>
      obtain ⟨h1, h2, h3, h4, h5⟩ := hc
      rw [lowF, spl]
      show (if x = 0 then 0 else if iv (46 + x) 0 = nm then x else lowF iv pr nm k (pr x)) = _
      rw [if_neg (by omega), hy x (List.mem_cons_self ..)]
      by_cases hn : (e x).nm = nm
      · rw [if_pos hn, if_pos hn]
      · rw [if_neg hn, if_neg hn, hpr, h2]
        exact ih k (by rw [List.length_cons] at hk; omega) h5 (fun y hy' => hy y (List.mem_cons_of_mem _ hy'))
theorem cls_eq {e : Nat → EL} {pr : Nat → Nat} (hpr : ∀ q, pr q = (e q).pr) {ou : Nat} {y : Int32} {tail : List Nat} (ht : tail.headD 0 = ou) : ∀ (up : List Nat) (k : Nat) (iv : Nat → Nat → Int32), up.length ≤ k → chn e (up ++ tail) → (∀ z, z ∈ up → z ≠ ou ∧ 0 < z) → up.Nodup →
    (∀ i, i ∈ up → clsF pr ou y k ((up ++ tail).headD 0) iv (46 + i) 8 = nI 0 ∧ clsF pr ou y k ((up ++ tail).headD 0) iv (46 + i) 5 = y ∧ clsF pr ou y k ((up ++ tail).headD 0) iv (46 + i) 6 = y) ∧
    (∀ q j, (q ≠ 41 ∨ j ≠ 3) → (∀ i, i ∈ up → q ≠ 46 + i ∨ (j ≠ 8 ∧ j ≠ 5 ∧ j ≠ 6)) → clsF pr ou y k ((up ++ tail).headD 0) iv q j = iv q j) ∧
    (iv 41 3 = nI ((up ++ tail).headD 0) → clsF pr ou y k ((up ++ tail).headD 0) iv 41 3 = nI ou) := by
  intro up
  induction up with
  | nil =>
    intro k iv _ _ _ _
    have e1 : clsF pr ou y k (([] ++ tail).headD 0) iv = iv := by
      show clsF pr ou y k (tail.headD 0) iv = iv
      rw [ht]
      cases k with
      | zero => rfl
      | succ k => rw [clsF]; exact if_pos rfl
    rw [e1]
    refine ⟨fun i hi => absurd hi List.not_mem_nil, fun _ _ _ _ => rfl, fun h => h.trans (congrArg nI ht)⟩
  | cons z up ih =>
    intro k iv hk hc hz hnd
    cases k with
    | zero => rw [List.length_cons] at hk; omega
    | succ k =>
      obtain ⟨h1, h2, h3, h4, h5⟩ := hc
      have hnd' := List.nodup_cons.mp hnd
      have e1 : clsF pr ou y (k + 1) ((z :: up ++ tail).headD 0) iv = clsF pr ou y k ((up ++ tail).headD 0) (ex_u2 (elClose iv z (nI 0) y y) 41 3 (nI (pr z))) := by
        show clsF pr ou y (k + 1) z iv = _
        rw [clsF, if_neg (hz z (List.mem_cons_self ..)).1, hpr z, h2]
        rfl
      rw [e1]
      obtain ⟨i1, i2, i3⟩ := ih k (ex_u2 (elClose iv z (nI 0) y y) 41 3 (nI (pr z))) (by rw [List.length_cons] at hk; omega) h5 (fun w hw => hz w (List.mem_cons_of_mem _ hw)) hnd'.2
      have hcell : ∀ j, clsF pr ou y k ((up ++ tail).headD 0) (ex_u2 (elClose iv z (nI 0) y y) 41 3 (nI (pr z))) (46 + z) j = elClose iv z (nI 0) y y (46 + z) j := by
        intro j
        rw [i2 (46 + z) j (Or.inl (by omega)) (fun i hi => Or.inl (fun w => hnd'.1 ((show i = z by omega) ▸ hi)))]
        exact u2n (Or.inl (by omega))
      refine ⟨fun i hi => ?_, fun q j h6 h7 => ?_, fun _ => i3 ?_⟩
      · rcases List.mem_cons.mp hi with w | w
        · subst w
          rw [hcell, hcell, hcell]
          unfold elClose
          refine ⟨?_, ?_, u2s⟩
          · rw [u2n (Or.inr (by decide)), u2n (Or.inr (by decide)), u2s]
          · rw [u2n (Or.inr (by decide)), u2s]
        · exact i1 i w
      · rw [i2 q j h6 (fun i hi => h7 i (List.mem_cons_of_mem _ hi)), u2n h6, elClose_o (h7 z (List.mem_cons_self ..))]
      · rw [u2s, hpr z, h2]
        rfl
/-- an end tag's cells -/
theorem rc_en (hR : RepC iv T) (h : tI T p) (hp : p + 4 ≤ 100) {up rest : List Nat} {x : Nat} (hs : T.stk = up ++ x :: rest) {pr : Nat → Nat} (hpr : ∀ q, pr q = (T.e q).pr) : RepC (trEnd iv pr T.cur x T.tn (nI p) (nI p + nI 4)) (tEn T p up x rest) := by
  have hc := h.2.1.1
  rw [hs] at hc
  obtain ⟨c1, c2, c3⟩ := chn_app up hc
  obtain ⟨c4, c5⟩ := chn_sub c1
  have hx0 : 0 < x := c1.1
  have hmem : ∀ i, i ∈ T.stk ↔ i ∈ up ∨ i = x ∨ i ∈ rest := by intro i; rw [hs, List.mem_append, List.mem_cons]
  have hxu : x ∉ up := fun z => Nat.lt_irrefl _ (c2 x z)
  have hlen : up.length ≤ 8 := by
    have := h.2.1.2.2
    rw [hs, List.length_append] at this
    omega
  have hcn : T.cn ≤ 32 := by have := h.1; omega
  have hule : ∀ i, i ∈ up → i ≤ T.cn := fun i hi => h.2.1.2.1 i ((hmem i).mpr (Or.inl hi))
  have hxle : x ≤ T.cn := h.2.1.2.1 x ((hmem x).mpr (Or.inr (Or.inl rfl)))
  obtain ⟨k1, k2, k3⟩ := cls_eq hpr (ou := x) (y := nI p) (tail := x :: rest) rfl up 8 iv hlen hc (fun z hz => ⟨by have := c2 z hz; omega, by have := c2 z hz; omega⟩) c3
  have hcur : T.cur = (up ++ x :: rest).headD 0 := by unfold TS.cur; rw [hs]
  rw [← hcur] at k1 k2 k3
  rw [nI_add]
  obtain ⟨r1, r2, r3, r4, r5, r6, r7⟩ := hR
  -- a cell of the tree that no closing writes
  have hT : ∀ q j, (q ≠ 43 ∧ q ≠ 44 ∧ q ≠ 45 ∧ q ≠ 41) → trEnd iv pr T.cur x T.tn (nI p) (nI (p + 4)) q j = trE1 iv pr T.cur x (nI p) (nI (p + 4)) q j := by
    intro q j hq
    unfold trEnd trE2
    rw [trTag_o ⟨hq.1, hq.2.1, hq.2.2.1, Or.inl hq.2.2.2⟩, u2n (Or.inl hq.2.2.2)]
  have hE : ∀ i k, i ≤ T.cn → (k ≠ 8 ∧ k ≠ 5 ∧ k ≠ 6) → trEnd iv pr T.cur x T.tn (nI p) (nI (p + 4)) (46 + i) k = iv (46 + i) k := by
    intro i k hi hk
    rw [hT _ _ ⟨by omega, by omega, by omega, by omega⟩]
    unfold trE1
    rw [elClose_o (Or.inr hk), k2 _ _ (Or.inl (by omega)) (fun _ _ => Or.inr hk)]
  have hO : ∀ q j, (q < 46 ∨ 80 ≤ q) → (q ≠ 41 ∨ (j ≠ 3 ∧ j ≠ 7)) → q ≠ 43 → q ≠ 44 → q ≠ 45 → trEnd iv pr T.cur x T.tn (nI p) (nI (p + 4)) q j = iv q j := by
    intro q j hq h1 h3 h4 h5
    unfold trEnd trE2 trE1
    rw [trTag_o ⟨h3, h4, h5, by omega⟩, u2n (by omega), elClose_o (Or.inl (by omega)), k2 _ _ (by omega) (fun i hi => Or.inl (by have := hule i hi; omega))]
  have hpx : pr x = rest.headD 0 := by rw [hpr]; exact c1.2.1
  refine ⟨?_, ?_, ?_, fun t ht => ?_, fun i hi => ?_, fun i q1 q2 q3 => ?_, ?_⟩
  · rw [hO 41 2 (Or.inl (by decide)) (Or.inr ⟨by decide, by decide⟩) (by decide) (by decide) (by decide)]; exact r1
  · show trEnd iv pr T.cur x T.tn (nI p) (nI (p + 4)) 41 3 = nI (rest.headD 0)
    unfold trEnd trE2
    rw [trTag_o (by decide), u2s, hpx]
  · unfold trEnd trTag; exact u2s
  · have hg := tag_g (iv := trE2 iv pr T.cur x (nI p) (nI (p + 4))) (T := T) (k1 := p) (k2 := p + 4) (k3 := nI x) (fun t ht => by
      have hq : ∀ q, q = 43 ∨ q = 44 ∨ q = 45 → trE2 iv pr T.cur x (nI p) (nI (p + 4)) q t = iv q t := by
        intro q hq
        unfold trE2 trE1
        rw [u2n (Or.inl (by omega)), elClose_o (Or.inl (by omega)), k2 _ _ (Or.inl (by omega)) (fun i hi => Or.inl (by omega))]
      unfold tgR
      rw [hq 43 (Or.inl rfl), hq 44 (Or.inr (Or.inl rfl)), hq 45 (Or.inr (Or.inr rfl))]
      exact r4 t ht) t ht
    exact hg
  · have hi' : i ≤ T.cn := hi
    have hr := r5 i hi'
    have he : ∀ i, ((tEn T p up x rest).e i).nm = (T.e i).nm ∧ ((tEn T p up x rest).e i).pr = (T.e i).pr ∧ ((tEn T p up x rest).e i).dp = (T.e i).dp ∧ ((tEn T p up x rest).e i).bg = (T.e i).bg ∧ ((tEn T p up x rest).e i).iF = (T.e i).iF ∧ ((tEn T p up x rest).e i).ik = (T.e i).ik := by
      intro i
      show (EL.nm (if i ∈ up then elC (T.e i) 0 p p 0 else if i = x then elC (T.e i) 3 p (p + 4) T.tn else T.e i) = _) ∧ (EL.pr (if i ∈ up then elC (T.e i) 0 p p 0 else if i = x then elC (T.e i) 3 p (p + 4) T.tn else T.e i) = _) ∧ (EL.dp (if i ∈ up then elC (T.e i) 0 p p 0 else if i = x then elC (T.e i) 3 p (p + 4) T.tn else T.e i) = _) ∧ (EL.bg (if i ∈ up then elC (T.e i) 0 p p 0 else if i = x then elC (T.e i) 3 p (p + 4) T.tn else T.e i) = _) ∧ (EL.iF (if i ∈ up then elC (T.e i) 0 p p 0 else if i = x then elC (T.e i) 3 p (p + 4) T.tn else T.e i) = _) ∧ (EL.ik (if i ∈ up then elC (T.e i) 0 p p 0 else if i = x then elC (T.e i) 3 p (p + 4) T.tn else T.e i) = _)
      split
      · exact ⟨rfl, rfl, rfl, rfl, rfl, rfl⟩
      · split
        · exact ⟨rfl, rfl, rfl, rfl, rfl, rfl⟩
        · exact ⟨rfl, rfl, rfl, rfl, rfl, rfl⟩
    obtain ⟨s1, s2, s3, s4, s5, s6⟩ := he i
    have hch : chC (tEn T p up x rest).e (tEn T p up x rest).cn i = chC T.e T.cn i := chC_cg (fun q => (he q).2.1) _ _
    unfold elR at hr ⊢
    rw [hE i 0 hi' (by decide), hE i 1 hi' (by decide), hE i 2 hi' (by decide), hE i 3 hi' (by decide), hE i 4 hi' (by decide), hE i 7 hi' (by decide), hE i 9 hi' (by decide), s1, s2, s3, s4, s5, s6, hch]
    exact hr
  · have hi' : i ≤ T.cn := q2
    show elD _ (if i ∈ up then elC (T.e i) 0 p p 0 else if i = x then elC (T.e i) 3 p (p + 4) T.tn else T.e i) i
    unfold elD
    rw [hT _ _ ⟨by omega, by omega, by omega, by omega⟩, hT _ _ ⟨by omega, by omega, by omega, by omega⟩, hT _ _ ⟨by omega, by omega, by omega, by omega⟩]
    unfold trE1
    by_cases hu : i ∈ up
    · rw [if_pos hu]
      have hix : i ≠ x := fun z => hxu (z ▸ hu)
      rw [elClose_o (Or.inl (by omega)), elClose_o (Or.inl (by omega)), elClose_o (Or.inl (by omega)), (k1 i hu).1, (k1 i hu).2.1, (k1 i hu).2.2]
      exact ⟨rfl, rfl, rfl⟩
    · rw [if_neg hu]
      by_cases hix : i = x
      · rw [if_pos hix, hix]
        unfold elClose
        rw [u2n (Or.inr (by decide)), u2s, u2s, u2n (Or.inr (by decide)), u2n (Or.inr (by decide)), u2s]
        exact ⟨rfl, rfl, rfl⟩
      · rw [if_neg hix]
        have hns : i ∉ T.stk := fun z => by
          rcases (hmem i).mp z with w | w | w
          · exact hu w
          · exact hix w
          · exact q3 w
        have hr := r6 i q1 hi' hns
        rw [elClose_o (Or.inl (by omega)), elClose_o (Or.inl (by omega)), elClose_o (Or.inl (by omega)), k2 (46 + i) 5 (Or.inl (by omega)) (fun z hz => Or.inl (fun w => hu ((show z = i by omega) ▸ hz))), k2 (46 + i) 6 (Or.inl (by omega)) (fun z hz => Or.inl (fun w => hu ((show z = i by omega) ▸ hz))), k2 (46 + i) 8 (Or.inl (by omega)) (fun z hz => Or.inl (fun w => hu ((show z = i by omega) ▸ hz)))]
        exact hr
  · refine faC_cg r7 (hO _ _ (Or.inr (by decide)) (Or.inl (by decide)) (by decide) (by decide) (by decide)) (fun i => hO _ _ (Or.inr (by decide)) (Or.inl (by decide)) (by decide) (by decide) (by decide))
/-- the end of the text closes what is open, and the document -/
theorem rc_fin (hR : RepC iv T) (h : tI T n) (hn : n ≤ 100) {pr : Nat → Nat} (hpr : ∀ q, pr q = (T.e q).pr) : RepC (elClose (clsF pr 0 (nI n) 8 T.cur iv) 0 (nI 0) (nI n) (nI n)) (tFin n T) ∧ elD (elClose (clsF pr 0 (nI n) 8 T.cur iv) 0 (nI 0) (nI n) (nI n)) ((tFin n T).e 0) 0 := by
  have hpos := chn_pos _ h.2.1.1
  have hcn : T.cn ≤ 33 := by have := h.1; omega
  obtain ⟨k1, k2, k3⟩ := cls_eq hpr (ou := 0) (y := nI n) (tail := []) rfl T.stk 8 iv h.2.1.2.2 (by rw [List.append_nil]; exact h.2.1.1) (fun z hz => ⟨by have := hpos z hz; omega, hpos z hz⟩) (chn_nodup _ h.2.1.1)
  have hcur : (T.stk ++ []).headD 0 = T.cur := by rw [List.append_nil]; rfl
  rw [hcur] at k1 k2 k3
  have h0 : 0 ∉ T.stk := fun z => Nat.lt_irrefl _ (hpos 0 z)
  have hule : ∀ i, i ∈ T.stk → i ≤ T.cn := h.2.1.2.1
  obtain ⟨r1, r2, r3, r4, r5, r6, r7⟩ := hR
  have hE : ∀ i k, i ≤ T.cn → (k ≠ 8 ∧ k ≠ 5 ∧ k ≠ 6) → elClose (clsF pr 0 (nI n) 8 T.cur iv) 0 (nI 0) (nI n) (nI n) (46 + i) k = iv (46 + i) k := by
    intro i k hi hk
    rw [elClose_o (Or.inr hk), k2 _ _ (Or.inl (by omega)) (fun _ _ => Or.inr hk)]
  have hO : ∀ q j, (q < 46 ∨ 80 ≤ q) → (q ≠ 41 ∨ j ≠ 3) → elClose (clsF pr 0 (nI n) 8 T.cur iv) 0 (nI 0) (nI n) (nI n) q j = iv q j := by
    intro q j hq h1
    rw [elClose_o (Or.inl (by omega)), k2 _ _ h1 (fun i hi => Or.inl (by have := hule i hi; omega))]
  have he : ∀ i, ((tFin n T).e i).nm = (T.e i).nm ∧ ((tFin n T).e i).pr = (T.e i).pr ∧ ((tFin n T).e i).dp = (T.e i).dp ∧ ((tFin n T).e i).bg = (T.e i).bg ∧ ((tFin n T).e i).iF = (T.e i).iF ∧ ((tFin n T).e i).ik = (T.e i).ik := by
    intro i
    have e1 : (tFin n T).e i = if i ∈ T.stk then elC (T.e i) 0 n n 0 else if i = 0 then elC (T.e i) 0 n n 0 else T.e i := rfl
    rw [e1]
    split
    · exact ⟨rfl, rfl, rfl, rfl, rfl, rfl⟩
    · split
      · exact ⟨rfl, rfl, rfl, rfl, rfl, rfl⟩
      · exact ⟨rfl, rfl, rfl, rfl, rfl, rfl⟩
  refine ⟨⟨?_, ?_, ?_, fun t ht => ?_, fun i hi => ?_, fun i q1 q2 q3 => ?_, ?_⟩, ?_⟩
  · rw [hO 41 2 (Or.inl (by decide)) (Or.inr (by decide))]; exact r1
  · rw [elClose_o (Or.inl (by decide))]; exact k3 r2
  · rw [hO 41 7 (Or.inl (by decide)) (Or.inr (by decide))]; exact r3
  · unfold tgR
    rw [hO 43 t (Or.inl (by decide)) (Or.inl (by decide)), hO 44 t (Or.inl (by decide)) (Or.inl (by decide)), hO 45 t (Or.inl (by decide)) (Or.inl (by decide))]
    exact r4 t ht
  · have hi' : i ≤ T.cn := hi
    have hr := r5 i hi'
    obtain ⟨s1, s2, s3, s4, s5, s6⟩ := he i
    have hch : chC (tFin n T).e (tFin n T).cn i = chC T.e T.cn i := chC_cg (fun q => (he q).2.1) _ _
    unfold elR at hr ⊢
    rw [hE i 0 hi' (by decide), hE i 1 hi' (by decide), hE i 2 hi' (by decide), hE i 3 hi' (by decide), hE i 4 hi' (by decide), hE i 7 hi' (by decide), hE i 9 hi' (by decide), s1, s2, s3, s4, s5, s6, hch]
    exact hr
  · have hi' : i ≤ T.cn := q2
    show elD _ (if i ∈ T.stk then elC (T.e i) 0 n n 0 else if i = 0 then elC (T.e i) 0 n n 0 else T.e i) i
    unfold elD
    rw [elClose_o (Or.inl (by omega)), elClose_o (Or.inl (by omega)), elClose_o (Or.inl (by omega))]
    by_cases hu : i ∈ T.stk
    · rw [if_pos hu, (k1 i hu).1, (k1 i hu).2.1, (k1 i hu).2.2]
      exact ⟨rfl, rfl, rfl⟩
    · rw [if_neg hu, if_neg (by omega), k2 (46 + i) 5 (Or.inl (by omega)) (fun z hz => Or.inl (fun w => hu ((show z = i by omega) ▸ hz))), k2 (46 + i) 6 (Or.inl (by omega)) (fun z hz => Or.inl (fun w => hu ((show z = i by omega) ▸ hz))), k2 (46 + i) 8 (Or.inl (by omega)) (fun z hz => Or.inl (fun w => hu ((show z = i by omega) ▸ hz)))]
      exact r6 i q1 hi' hu
  · exact faC_cg r7 (hO _ _ (Or.inr (by decide)) (Or.inl (by decide))) (fun i => hO _ _ (Or.inr (by decide)) (Or.inl (by decide)))
  · show elD _ (if 0 ∈ T.stk then elC (T.e 0) 0 n n 0 else if 0 = 0 then elC (T.e 0) 0 n n 0 else T.e 0) 0
    rw [if_neg h0, if_pos rfl]
    unfold elD elClose
    rw [u2n (Or.inr (by decide)), u2s, u2s, u2n (Or.inr (by decide)), u2n (Or.inr (by decide)), u2s]
    exact ⟨rfl, rfl, rfl⟩
end RC2
