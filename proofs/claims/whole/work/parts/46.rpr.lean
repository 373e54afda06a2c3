/-! the reference's cells say what the tree is -/
def k4 (e : Nat → EL) (i : Nat) : Nat := (e i).bg * 8 + 4
def erA (iv : Nat → Nat → Int32) (E : EL) (i : Nat) : Prop := iv 107 i = E.nm ∧ iv 108 i = (if i = 0 then -1 else nI E.pr) ∧ iv 109 i = nI E.bg ∧ iv 114 i = E.ik
def erO (iv : Nat → Nat → Int32) (E : EL) (i : Nat) : Prop := iv 115 i = nI 1 ∧ iv 113 i = -1 ∧ iv 111 i = nI E.iF
def erC (iv : Nat → Nat → Int32) (E : EL) (i : Nat) : Prop := iv 115 i = nI 0 ∧ iv 110 i = nI E.bh ∧ iv 111 i = (if E.ck = 2 then -1 else nI E.iF) ∧ iv 112 i = (if E.ck = 2 then -1 else nI E.iT) ∧ iv 113 i = (if E.ck = 3 then nI E.iT else -1)
def erT (iv : Nat → Nat → Int32) (tn : Nat) (tg : Nat → Nat × Nat × Int32) : Prop := (∀ k, k ≤ 100 → (∀ t, t < tn → ¬ ((tg t).1 ≤ k ∧ k < (tg t).2.1)) → iv 116 k = -1) ∧ ∀ t, t < tn → ∀ k, (tg t).1 ≤ k → k < (tg t).2.1 → iv 116 k = nI (tg t).1 ∧ iv 118 k = (tg t).2.2
def RepR (iv : Nat → Nat → Int32) (T : TS) (B : List Nat) : Prop := iv 92 16 = nI (T.cn + 1) ∧ (∀ i, i ≤ T.cn → erA iv (T.e i) i) ∧ (∀ i, i ≤ T.cn → (i = 0 ∨ i ∈ T.stk) → erO iv (T.e i) i) ∧ (∀ i, 0 < i → i ≤ T.cn → i ∉ T.stk → erC iv (T.e i) i) ∧ erT iv T.tn T.tg ∧ FaR iv B ∧ B.Perm (T.fl ++ T.br.map (k4 T.e))
/-- tags lie behind each other -/
def tJ (T : TS) (p : Nat) : Prop := ∀ t, t < T.tn → (T.tg t).1 < (T.tg t).2.1 ∧ (T.tg t).2.1 ≤ p ∧ ∀ u, u < t → (T.tg u).2.1 ≤ (T.tg t).1
theorem tJ_add {T : TS} {p to : Nat} {o : Int32} (h : tJ T p) (hp : p < to) (cn : Nat) (e : Nat → EL) (stk fl br : List Nat) : tJ (tsM cn e stk (T.tn + 1) (va_up T.tg T.tn (p, to, o)) fl br) to := by
  intro t ht
  have ht' : t < T.tn + 1 := ht
  show (va_up T.tg T.tn (p, to, o) t).1 < (va_up T.tg T.tn (p, to, o) t).2.1 ∧ (va_up T.tg T.tn (p, to, o) t).2.1 ≤ to ∧ ∀ u, u < t → (va_up T.tg T.tn (p, to, o) u).2.1 ≤ (va_up T.tg T.tn (p, to, o) t).1
  by_cases e : t = T.tn
  · subst e
    rw [va_up_self]
    refine ⟨hp, Nat.le_refl _, fun u hu => ?_⟩
    rw [va_up_ne _ _ (by omega)]
    exact (h u hu).2.1
  · rw [va_up_ne _ _ e]
    obtain ⟨a1, a2, a3⟩ := h t (by omega)
    refine ⟨a1, by omega, fun u hu => ?_⟩
    rw [va_up_ne _ _ (by omega)]
    exact a3 u hu
theorem tJ_up {T : TS} {p p' : Nat} (h : tJ T p) (hp : p ≤ p') : tJ T p' := fun t ht => ⟨(h t ht).1, by have := (h t ht).2.1; omega, (h t ht).2.2⟩
theorem tJ_sp {a : Nat → Int32} {T : TS} {p : Nat} (h : tJ T p) : tJ (tSp a T p) (tTo a p) := by
  unfold tSp tTo
  by_cases k1 : tKd a p = 1
  · rw [if_pos k1, if_pos k1]
    split
    · exact tJ_add h (by omega) _ _ _ _ _
    · exact tJ_add h (by omega) _ _ _ _ _
  · rw [if_neg k1, if_neg k1]
    by_cases k2 : tKd a p = 2
    · rw [if_pos k2, if_pos k2]
      split
      · exact tJ_add h (by omega) _ _ _ _ _
      · exact tJ_add h (by omega) _ _ _ _ _
    · rw [if_neg k2, if_neg k2]
      by_cases k3 : tKd a p = 3
      · rw [if_pos k3, if_pos k3]
        split
        · exact tJ_add h (by omega) _ _ _ _ _
        · exact tJ_add h (by omega) _ _ _ _ _
      · rw [if_neg k3, if_neg k3]
        exact tJ_up (T := tCh a T p) (fun t ht => h t ht) (Nat.le_succ p)
section RR
variable {iv : Nat → Nat → Int32} {a : Nat → Int32} {n p : Nat} {T : TS} {B : List Nat}
theorem insD_hit {P : Nat → Bool} {x : Nat} (hx : P x = true) (h0 : 0 < x) : ∀ cn, x ≤ cn → (∀ q, x < q → q ≤ cn → P q = false) → insD P cn = x := by
  intro cn
  induction cn with
  | zero => intro h; omega
  | succ k ih =>
    intro h hq
    rw [insD]
    by_cases e : x = k + 1
    · rw [← e, if_pos hx]
    · rw [if_neg (by rw [hq (k + 1) (by omega) (Nat.le_refl _)]; decide)]
      exact ih (by omega) (fun q h1 h2 => hq q h1 (by omega))
theorem insD_no {P : Nat → Bool} : ∀ cn, (∀ q, 0 < q → q ≤ cn → P q = false) → insD P cn = 0 := by
  intro cn
  induction cn with
  | zero => intro _; rfl
  | succ k ih =>
    intro hq
    rw [insD, if_neg (by rw [hq (k + 1) (by omega) (Nat.le_refl _)]; decide)]
    exact ih (fun q h1 h2 => hq q h1 (by omega))
theorem insD_cg {P Q : Nat → Bool} : ∀ cn, (∀ q, 0 < q → q ≤ cn → P q = Q q) → insD P cn = insD Q cn := by
  intro cn
  induction cn with
  | zero => intro _; rfl
  | succ k ih =>
    intro h
    rw [insD, insD, h (k + 1) (by omega) (Nat.le_refl _), ih (fun q h1 h2 => h q h1 (by omega))]
theorem cur_insD (o : Nat → Int32) : ∀ cn, curR o cn = insD (fun q => decide (¬ o q = 0)) cn := by
  intro cn
  induction cn with
  | zero => rfl
  | succ k ih =>
    rw [curR, insD, ih]
    by_cases h : o (k + 1) = 0
    · rw [if_pos h, if_neg (by rw [decide_eq_true_eq]; exact fun z => z h)]
    · rw [if_neg h, if_pos (by rw [decide_eq_true_eq]; exact h)]
theorem opn_a (hR : RepR iv T B) : ∀ q, 0 < q → q ≤ T.cn → decide (¬ iv 115 q = 0) = decide (q ∈ T.stk) := by
  intro q h1 h2
  refine decide_eq_decide.mpr ⟨fun z => ?_, fun z => ?_⟩
  · refine Classical.byContradiction (fun hn => z ?_)
    rw [(hR.2.2.2.1 q h1 h2 hn).1]
    rfl
  · rw [(hR.2.2.1 q h2 (Or.inr z)).1]
    decide
theorem cur_a (hR : RepR iv T B) (h : tI T p) : curR (iv 115) T.cn = T.cur := by
  rw [cur_insD, insD_cg T.cn (opn_a hR)]
  unfold TS.cur
  cases hs : T.stk with
  | nil => exact insD_no _ (fun q _ _ => by simp)
  | cons x l =>
    have hc := h.2.1.1
    rw [hs] at hc
    refine insD_hit (by simp) hc.1 T.cn (h.2.1.2.1 x (by rw [hs]; exact List.mem_cons_self ..)) (fun q h1 h2 => ?_)
    rw [decide_eq_false]
    intro z
    rcases List.mem_cons.mp z with w | w
    · omega
    · have := hc.2.2.1 q w; omega
theorem cnt_last (P : Nat → Bool) : ∀ k i acc, cntF P (k + 1) i acc = cntF P k i acc + (if P (i + k) = true then 1 else 0) := by
  intro k
  induction k with
  | zero =>
    intro i acc
    rw [cntF, cntF, cntF]
    show (if P i = true then acc + 1 else acc) = acc + (if P i = true then 1 else 0)
    split <;> omega
  | succ k ih =>
    intro i acc
    rw [cntF, ih, cntF, show i + 1 + k = i + (k + 1) by omega]
theorem cnt_mem (l : List Nat) : ∀ cn, (∀ y, y ∈ l → 0 < y ∧ y ≤ cn) → l.Nodup → cntF (fun q => decide (q ∈ l)) cn 1 0 = l.length := by
  induction l with
  | nil =>
    intro cn _ _
    induction cn with
    | zero => rfl
    | succ k ih =>
      rw [cnt_last, ih (fun y hy => absurd hy List.not_mem_nil)]
      rfl
  | cons x l ihl =>
    intro cn hy hnd
    have hnd' := List.nodup_cons.mp hnd
    have key : ∀ m, cntF (fun q => decide (q ∈ x :: l)) m 1 0 = cntF (fun q => decide (q ∈ l)) m 1 0 + (if x ≤ m then 1 else 0) := by
      intro m
      have hx := hy x (List.mem_cons_self ..)
      induction m with
      | zero => rw [if_neg (by omega)]; rfl
      | succ m ih =>
        rw [cnt_last, cnt_last, ih]
        by_cases e : x = 1 + m
        · rw [if_pos (show decide (1 + m ∈ x :: l) = true by rw [← e]; simp), if_neg (show ¬ decide (1 + m ∈ l) = true by rw [← e, decide_eq_true_eq]; exact hnd'.1), if_neg (by omega), if_pos (by omega)]
        · have e1 : decide (1 + m ∈ x :: l) = decide (1 + m ∈ l) := decide_eq_decide.mpr ⟨fun z => (List.mem_cons.mp z).resolve_left (fun w => e w.symm), fun z => List.mem_cons_of_mem _ z⟩
          rw [e1]
          by_cases h2 : x ≤ m
          · rw [if_pos h2, if_pos (show x ≤ m + 1 by omega)]; omega
          · rw [if_neg h2, if_neg (show ¬ x ≤ m + 1 by omega)]; omega
    rw [key cn, ihl cn (fun y h => hy y (List.mem_cons_of_mem _ h)) hnd'.2, if_pos (hy x (List.mem_cons_self ..)).2]
    rfl
theorem cnt_cg {P Q : Nat → Bool} : ∀ k i acc, (∀ q, i ≤ q → q < i + k → P q = Q q) → cntF P k i acc = cntF Q k i acc := by
  intro k
  induction k with
  | zero => intros; rfl
  | succ k ih =>
    intro i acc h
    rw [cntF, cntF, h i (Nat.le_refl _) (by omega)]
    exact ih _ _ (fun q h1 h2 => h q (by omega) (by omega))
theorem opn_n (hR : RepR iv T B) (h : tI T p) : cntF (fun q => decide (¬ iv 115 q = 0)) T.cn 1 0 = T.stk.length := by
  rw [cnt_cg T.cn 1 0 (Q := fun q => decide (q ∈ T.stk)) (fun q h1 h2 => opn_a hR q (by omega) (by omega))]
  exact cnt_mem T.stk T.cn (fun y hy => ⟨chn_pos _ h.2.1.1 y hy, h.2.1.2.1 y hy⟩) (chn_nodup _ h.2.1.1)
/-- the element that an end tag closes, as the reference seeks it -/
theorem seek_a (hR : RepR iv T B) (h : tI T p) {c : Int32} : insD (fun q => decide (¬ iv 115 q = 0) && decide (iv 107 q = c)) T.cn = (spl T.e c T.stk).2.1 := by
  have hP : ∀ q, 0 < q → q ≤ T.cn → (decide (¬ iv 115 q = 0) && decide (iv 107 q = c)) = (decide (q ∈ T.stk) && decide ((T.e q).nm = c)) := fun q h1 h2 => by rw [opn_a hR q h1 h2, (hR.2.1 q h2).1]
  rw [insD_cg T.cn hP]
  obtain ⟨s1, s2⟩ := spl_x T.e c T.stk (chn_pos _ h.2.1.1)
  by_cases h0 : (spl T.e c T.stk).2.1 = 0
  · rw [h0]
    refine insD_no _ (fun q _ _ => ?_)
    by_cases hq : q ∈ T.stk
    · rw [decide_eq_false (s2 h0 q hq), Bool.and_false]
    · rw [decide_eq_false hq, Bool.false_and]
  · obtain ⟨e1, e2, e3⟩ := s1 h0
    have hc := h.2.1.1
    rw [e1] at hc
    obtain ⟨c1, c2, c3⟩ := chn_app _ hc
    have hm : (spl T.e c T.stk).2.1 ∈ T.stk := by
      have z : (spl T.e c T.stk).2.1 ∈ (spl T.e c T.stk).1 ++ (spl T.e c T.stk).2.1 :: (spl T.e c T.stk).2.2 := List.mem_append_right _ (List.mem_cons_self ..)
      rw [← e1] at z
      exact z
    refine insD_hit (by rw [decide_eq_true hm, decide_eq_true e2]; rfl) c1.1 T.cn (h.2.1.2.1 _ hm) (fun q h1 h2 => ?_)
    by_cases hq : q ∈ T.stk
    · have hq' := hq
      rw [e1] at hq'
      rcases List.mem_append.mp hq' with w | w
      · rw [decide_eq_false (e3 q w), Bool.and_false]
      · rcases List.mem_cons.mp w with z | z
        · omega
        · have := c1.2.2.1 q z; omega
    · rw [decide_eq_false hq, Bool.false_and]
end RR
/-- what the reference's steps leave -/
def rfSt (iv : Nat → Nat → Int32) (cn p to : Nat) (c cu : Int32) : Nat → Nat → Int32 := rfMk (rfNew (rfMk iv p to to (-1)) (cn + 1) c cu (nI p) (nI to)) p to to (nI (cn + 1))
def rfEm (iv : Nat → Nat → Int32) (cn p to : Nat) (c cu : Int32) : Nat → Nat → Int32 := ex_u2 (ex_u2 (ex_u2 (rfSt iv cn p to c cu) 115 (cn + 1) (nI 0)) 111 (cn + 1) (-1)) 112 (cn + 1) (-1)
def rcl (x : Int32) : Nat → Nat → Nat × (Nat → Nat → Int32) → Nat × (Nat → Nat → Int32)
  | 0, _, z => z
  | k + 1, i, z => rcl x k (i + 1) (if z.2 115 i = 0 then z else (z.1 + 1, rfFlt (rfCls z.2 i x) z.1 (nI 4) (z.2 109 i)))
def rfE4 (iv : Nat → Nat → Int32) (x : Nat) (p q : Int32) : Nat → Nat → Int32 := ex_u2 (ex_u2 (ex_u2 (ex_u2 iv 115 x (nI 0)) 112 x p) 110 x q) 113 x p
def rfEn (iv : Nat → Nat → Int32) (cn x p nf : Nat) : Nat → Nat → Int32 := rfMk (rfE4 (rcl (nI p) (cn - x) (x + 1) (nf, rfMk iv p (p + 4) (p + 4) (-1))).2 x (nI p) (nI (p + 4))) p (p + 4) (p + 4) (nI x)
def rfC1 (iv : Nat → Nat → Int32) (nf : Nat) (ch : Int32) (p : Nat) : Nat → Nat → Int32 := if ch = nI 60 then rfFlt iv nf (nI 1) (nI p) else iv
def rfCh (iv : Nat → Nat → Int32) (cu nf : Nat) (ch : Int32) (p : Nat) : Nat → Nat → Int32 := if ¬ ch = nI 32 ∧ rfC1 iv nf ch p 114 cu < 0 then ex_u2 (rfC1 iv nf ch p) 114 cu (nI p) else rfC1 iv nf ch p
def rfFin (iv : Nat → Nat → Int32) (cn n nf : Nat) : Nat → Nat → Int32 := ex_u2 (ex_u2 (rcl (nI n) cn 1 (nf, iv)).2 112 0 (nI n)) 110 0 (nI n)
section RS2
variable {iv : Nat → Nat → Int32} {a : Nat → Int32} {n p : Nat} {T : TS} {B : List Nat}
theorem rfMk_o {x y z : Nat} {v : Int32} {q j : Nat} (h : q ≠ 116 ∧ q ≠ 117 ∧ q ≠ 118) : rfMk iv x y z v q j = iv q j := by
  unfold rfMk
  rw [va_up_ne _ _ h.2.2, va_up_ne _ _ h.2.1, va_up_ne _ _ h.1]
theorem rfMk_116 {x y z : Nat} {v : Int32} {j : Nat} : rfMk iv x y z v 116 j = (if x ≤ j ∧ j < y then nI x else iv 116 j) ∧ rfMk iv x y z v 118 j = (if x ≤ j ∧ j < y then v else iv 118 j) := by
  unfold rfMk
  rw [va_up_ne _ _ (by decide), va_up_ne _ _ (by decide), va_up_self, va_up_self]
  exact ⟨rfl, rfl⟩
theorem rfNew_o {m : Nat} {k1 k2 k3 k4 : Int32} {q j : Nat} (h : (q < 107 ∨ 115 < q ∨ j ≠ m) ∧ (q ≠ 92 ∨ j ≠ 16)) : rfNew iv m k1 k2 k3 k4 q j = iv q j := by
  unfold rfNew
  rw [u2n h.2, u2n (by omega), u2n (by omega), u2n (by omega), u2n (by omega), u2n (by omega), u2n (by omega), u2n (by omega), u2n (by omega), u2n (by omega)]
theorem rfNew_v {m : Nat} {k1 k2 k3 k4 : Int32} : rfNew iv m k1 k2 k3 k4 107 m = k1 ∧ rfNew iv m k1 k2 k3 k4 108 m = k2 ∧ rfNew iv m k1 k2 k3 k4 109 m = k3 ∧ rfNew iv m k1 k2 k3 k4 111 m = k4 ∧ rfNew iv m k1 k2 k3 k4 112 m = k4 ∧ rfNew iv m k1 k2 k3 k4 110 m = k4 ∧ rfNew iv m k1 k2 k3 k4 113 m = -1 ∧ rfNew iv m k1 k2 k3 k4 114 m = -1 ∧ rfNew iv m k1 k2 k3 k4 115 m = nI 1 ∧ rfNew iv m k1 k2 k3 k4 92 16 = nI (m + 1) := by
  unfold rfNew
  refine ⟨?_, ?_, ?_, ?_, ?_, ?_, ?_, ?_, ?_, u2s⟩
  · rw [u2n (Or.inl (by decide)), u2n (Or.inl (by decide)), u2n (Or.inl (by decide)), u2n (Or.inl (by decide)), u2n (Or.inl (by decide)), u2n (Or.inl (by decide)), u2n (Or.inl (by decide)), u2n (Or.inl (by decide)), u2n (Or.inl (by decide)), u2s]
  · rw [u2n (Or.inl (by decide)), u2n (Or.inl (by decide)), u2n (Or.inl (by decide)), u2n (Or.inl (by decide)), u2n (Or.inl (by decide)), u2n (Or.inl (by decide)), u2n (Or.inl (by decide)), u2n (Or.inl (by decide)), u2s]
  · rw [u2n (Or.inl (by decide)), u2n (Or.inl (by decide)), u2n (Or.inl (by decide)), u2n (Or.inl (by decide)), u2n (Or.inl (by decide)), u2n (Or.inl (by decide)), u2n (Or.inl (by decide)), u2s]
  · rw [u2n (Or.inl (by decide)), u2n (Or.inl (by decide)), u2n (Or.inl (by decide)), u2n (Or.inl (by decide)), u2n (Or.inl (by decide)), u2n (Or.inl (by decide)), u2s]
  · rw [u2n (Or.inl (by decide)), u2n (Or.inl (by decide)), u2n (Or.inl (by decide)), u2n (Or.inl (by decide)), u2n (Or.inl (by decide)), u2s]
  · rw [u2n (Or.inl (by decide)), u2n (Or.inl (by decide)), u2n (Or.inl (by decide)), u2n (Or.inl (by decide)), u2s]
  · rw [u2n (Or.inl (by decide)), u2n (Or.inl (by decide)), u2n (Or.inl (by decide)), u2s]
  · rw [u2n (Or.inl (by decide)), u2n (Or.inl (by decide)), u2s]
  · rw [u2n (Or.inl (by decide)), u2s]
theorem erT_mk {iv' : Nat → Nat → Int32} {tn to : Nat} {tg : Nat → Nat × Nat × Int32} {o : Int32} (h : erT iv tn tg) (h1 : ∀ k, ¬ (p ≤ k ∧ k < to) → iv' 116 k = iv 116 k ∧ iv' 118 k = iv 118 k) (h2 : ∀ k, p ≤ k → k < to → iv' 116 k = nI p ∧ iv' 118 k = o) (hJ : ∀ t, t < tn → (tg t).2.1 ≤ p) : erT iv' (tn + 1) (va_up tg tn (p, to, o)) := by
  refine ⟨fun k hk hn => ?_, fun t ht k hk1 hk2 => ?_⟩
  · have hp : ¬ (p ≤ k ∧ k < to) := by
      have := hn tn (Nat.lt_succ_self _)
      rw [va_up_self] at this
      exact this
    rw [(h1 k hp).1]
    refine h.1 k hk (fun t ht => ?_)
    have := hn t (by omega)
    rw [va_up_ne _ _ (by omega)] at this
    exact this
  · by_cases e : t = tn
    · subst e
      rw [va_up_self] at hk1 hk2 ⊢
      exact h2 k hk1 hk2
    · rw [va_up_ne _ _ e] at hk1 hk2 ⊢
      have := hJ t (by omega)
      rw [(h1 k (by omega)).1, (h1 k (by omega)).2]
      exact h.2 t (by omega) k hk1 hk2
theorem faR_cg {iv' : Nat → Nat → Int32} {A : List Nat} (h : FaR iv A) (h0 : iv' 92 29 = iv 92 29) (h1 : ∀ i, iv' 119 i = iv 119 i ∧ iv' 120 i = iv 120 i) : FaR iv' A := ⟨h0.trans h.1, fun i hi => by rw [(h1 i).1, (h1 i).2]; exact h.2.1 i hi, h.2.2⟩
theorem rr_dp (hR : RepR iv T B) (hJ : tJ T p) (hp : p ≤ 100) {to kd : Nat} (hk : kd < 8) : RepR (rfFlt (rfMk iv p to to (-1)) B.length (nI kd) (nI p)) (tDp T p to kd) ((p * 8 + kd) :: B) := by
  obtain ⟨r1, r2, r3, r4, r5, r6, r7⟩ := hR
  have ho : ∀ q j, q ≠ 119 → q ≠ 120 → (q ≠ 92 ∨ j ≠ 29) → (q ≠ 116 ∧ q ≠ 117 ∧ q ≠ 118) → rfFlt (rfMk iv p to to (-1)) B.length (nI kd) (nI p) q j = iv q j := by
    intro q j h1 h2 h3 h4
    rw [rfFlt_o h1 h2 h3, rfMk_o h4]
  have hq : ∀ q j, 107 ≤ q → q ≤ 115 → rfFlt (rfMk iv p to to (-1)) B.length (nI kd) (nI p) q j = iv q j := fun q j h1 h2 => ho q j (by omega) (by omega) (Or.inl (by omega)) ⟨by omega, by omega, by omega⟩
  refine ⟨?_, fun i hi => ?_, fun i hi h1 => ?_, fun i q1 q2 q3 => ?_, ?_, ?_, ?_⟩
  · rw [ho 92 16 (by decide) (by decide) (Or.inr (by decide)) (by decide)]; exact r1
  · have := r2 i hi
    unfold erA at this ⊢
    rw [hq 107 i (by omega) (by omega), hq 108 i (by omega) (by omega), hq 109 i (by omega) (by omega), hq 114 i (by omega) (by omega)]
    exact this
  · have := r3 i hi h1
    unfold erO at this ⊢
    rw [hq 115 i (by omega) (by omega), hq 113 i (by omega) (by omega), hq 111 i (by omega) (by omega)]
    exact this
  · have := r4 i q1 q2 q3
    unfold erC at this ⊢
    rw [hq 115 i (by omega) (by omega), hq 110 i (by omega) (by omega), hq 111 i (by omega) (by omega), hq 112 i (by omega) (by omega), hq 113 i (by omega) (by omega)]
    exact this
  · refine erT_mk r5 (fun k hk => ?_) (fun k h1 h2 => ?_) (fun t ht => (hJ t ht).2.1)
    · rw [rfFlt_o (by decide) (by decide) (Or.inl (by decide)), rfFlt_o (by decide) (by decide) (Or.inl (by decide)), rfMk_116.1, rfMk_116.2, if_neg hk, if_neg hk]
      exact ⟨rfl, rfl⟩
    · rw [rfFlt_o (by decide) (by decide) (Or.inl (by decide)), rfFlt_o (by decide) (by decide) (Or.inl (by decide)), rfMk_116.1, rfMk_116.2, if_pos ⟨h1, h2⟩, if_pos ⟨h1, h2⟩]
      exact ⟨rfl, rfl⟩
  · exact faR_add (faR_cg r6 (rfMk_o (by decide)) (fun i => ⟨rfMk_o (by decide), rfMk_o (by decide)⟩)) hk (by omega)
  · exact List.Perm.cons _ r7
theorem rfSt_c {cn to : Nat} {c cu : Int32} {q j : Nat} (h : q ≠ 116 ∧ q ≠ 117 ∧ q ≠ 118) (h1 : q < 107 ∨ 115 < q ∨ j ≠ cn + 1) (h2 : q ≠ 92 ∨ j ≠ 16) : rfSt iv cn p to c cu q j = iv q j := by
  unfold rfSt
  rw [rfMk_o h, rfNew_o ⟨h1, h2⟩, rfMk_o h]
theorem rfSt_v {cn to : Nat} {c cu : Int32} : rfSt iv cn p to c cu 107 (cn + 1) = c ∧ rfSt iv cn p to c cu 108 (cn + 1) = cu ∧ rfSt iv cn p to c cu 109 (cn + 1) = nI p ∧ rfSt iv cn p to c cu 111 (cn + 1) = nI to ∧ rfSt iv cn p to c cu 112 (cn + 1) = nI to ∧ rfSt iv cn p to c cu 110 (cn + 1) = nI to ∧ rfSt iv cn p to c cu 113 (cn + 1) = -1 ∧ rfSt iv cn p to c cu 114 (cn + 1) = -1 ∧ rfSt iv cn p to c cu 115 (cn + 1) = nI 1 ∧ rfSt iv cn p to c cu 92 16 = nI (cn + 1 + 1) := by
  have e : ∀ q j, q ≠ 116 ∧ q ≠ 117 ∧ q ≠ 118 → rfSt iv cn p to c cu q j = rfNew (rfMk iv p to to (-1)) (cn + 1) c cu (nI p) (nI to) q j := fun q j h => rfMk_o h
  rw [e _ _ (by decide), e _ _ (by decide), e _ _ (by decide), e _ _ (by decide), e _ _ (by decide), e _ _ (by decide), e _ _ (by decide), e _ _ (by decide), e _ _ (by decide), e _ _ (by decide)]
  exact rfNew_v
theorem rfSt_t {cn to : Nat} {c cu : Int32} : ∀ k, (¬ (p ≤ k ∧ k < to) → rfSt iv cn p to c cu 116 k = iv 116 k ∧ rfSt iv cn p to c cu 118 k = iv 118 k) ∧ (p ≤ k → k < to → rfSt iv cn p to c cu 116 k = nI p ∧ rfSt iv cn p to c cu 118 k = nI (cn + 1)) := by
  intro k
  unfold rfSt
  refine ⟨fun h => ?_, fun h1 h2 => ?_⟩
  · rw [rfMk_116.1, rfMk_116.2, if_neg h, if_neg h, rfNew_o ⟨Or.inr (Or.inl (by decide)), Or.inl (by decide)⟩, rfNew_o ⟨Or.inr (Or.inl (by decide)), Or.inl (by decide)⟩, rfMk_116.1, rfMk_116.2, if_neg h, if_neg h]
    exact ⟨rfl, rfl⟩
  · rw [rfMk_116.1, rfMk_116.2, if_pos ⟨h1, h2⟩, if_pos ⟨h1, h2⟩]
    exact ⟨rfl, rfl⟩
theorem map_cg {e e' : Nat → EL} {l : List Nat} (h : ∀ i, i ∈ l → (e' i).bg = (e i).bg) : l.map (k4 e') = l.map (k4 e) := List.map_congr_left (fun i hi => by unfold k4; rw [h i hi])
/-- a new element's cells in the reference -/
theorem rr_nw (hR : RepR iv T B) (h : tI T p) (hJ : tJ T p) {to : Nat} {c : Int32} {E : EL} (hE : E.nm = c ∧ E.pr = T.cur ∧ E.bg = p ∧ E.iF = to ∧ E.ik = -1) (iv' : Nat → Nat → Int32)
    (h1 : ∀ q j, (q ≠ 115 ∧ q ≠ 111 ∧ q ≠ 112 ∨ j ≠ T.cn + 1) → iv' q j = rfSt iv T.cn p to c (nI T.cur) q j)
    (stk' : List Nat) (h4 : ∀ i, i ≤ T.cn → (i ∈ stk' ↔ i ∈ T.stk)) (h5 : T.cn + 1 ∈ stk' → erO iv' E (T.cn + 1)) (h6 : T.cn + 1 ∉ stk' → erC iv' E (T.cn + 1)) :
    RepR iv' (tsM (T.cn + 1) (va_up T.e (T.cn + 1) E) stk' (T.tn + 1) (va_up T.tg T.tn (p, to, nI (T.cn + 1))) T.fl T.br) B := by
  obtain ⟨r1, r2, r3, r4, r5, r6, r7⟩ := hR
  obtain ⟨v1, v2, v3, v4, v5, v6, v7, v8, v9, v10⟩ := rfSt_v (iv := iv) (p := p) (cn := T.cn) (to := to) (c := c) (cu := nI T.cur)
  have ho : ∀ q j, 107 ≤ q → q ≤ 115 → j ≤ T.cn → iv' q j = iv q j := by
    intro q j q1 q2 q3
    rw [h1 q j (Or.inr (by omega)), rfSt_c ⟨by omega, by omega, by omega⟩ (Or.inr (Or.inr (by omega))) (Or.inl (by omega))]
  refine ⟨?_, fun i hi => ?_, fun i hi hs => ?_, fun i q1 q2 q3 => ?_, ?_, ?_, ?_⟩
  · rw [h1 92 16 (Or.inl (by decide))]; exact v10
  · have hi' : i ≤ T.cn + 1 := hi
    show erA iv' (va_up T.e (T.cn + 1) E i) i
    unfold erA
    by_cases e : i = T.cn + 1
    · subst e
      rw [va_up_self, h1 107 _ (Or.inl (by decide)), h1 108 _ (Or.inl (by decide)), h1 109 _ (Or.inl (by decide)), h1 114 _ (Or.inl (by decide)), v1, v2, v3, v8, hE.1, hE.2.1, hE.2.2.1, hE.2.2.2.2, if_neg (by omega)]
      exact ⟨rfl, rfl, rfl, rfl⟩
    · rw [va_up_ne _ _ e, ho 107 i (by omega) (by omega) (by omega), ho 108 i (by omega) (by omega) (by omega), ho 109 i (by omega) (by omega) (by omega), ho 114 i (by omega) (by omega) (by omega)]
      exact r2 i (by omega)
  · have hi' : i ≤ T.cn + 1 := hi
    show erO iv' (va_up T.e (T.cn + 1) E i) i
    by_cases e : i = T.cn + 1
    · subst e
      rw [va_up_self]
      exact h5 (hs.resolve_left (by omega))
    · rw [va_up_ne _ _ e]
      unfold erO
      rw [ho 115 i (by omega) (by omega) (by omega), ho 113 i (by omega) (by omega) (by omega), ho 111 i (by omega) (by omega) (by omega)]
      exact r3 i (by omega) (hs.imp id (fun z => (h4 i (by omega)).mp z))
  · have hi' : i ≤ T.cn + 1 := q2
    show erC iv' (va_up T.e (T.cn + 1) E i) i
    by_cases e : i = T.cn + 1
    · subst e
      rw [va_up_self]
      exact h6 q3
    · rw [va_up_ne _ _ e]
      unfold erC
      rw [ho 115 i (by omega) (by omega) (by omega), ho 110 i (by omega) (by omega) (by omega), ho 111 i (by omega) (by omega) (by omega), ho 112 i (by omega) (by omega) (by omega), ho 113 i (by omega) (by omega) (by omega)]
      exact r4 i q1 (by omega) (fun z => q3 ((h4 i (by omega)).mpr z))
  · refine erT_mk r5 (fun k hk => ?_) (fun k k1 k2 => ?_) (fun t ht => (hJ t ht).2.1)
    · rw [h1 116 k (Or.inl (by decide)), h1 118 k (Or.inl (by decide))]
      exact (rfSt_t k).1 hk
    · rw [h1 116 k (Or.inl (by decide)), h1 118 k (Or.inl (by decide))]
      exact (rfSt_t k).2 k1 k2
  · refine faR_cg r6 ?_ (fun i => ⟨?_, ?_⟩)
    · rw [h1 92 29 (Or.inl (by decide)), rfSt_c (by decide) (Or.inl (by decide)) (Or.inr (by decide))]
    · rw [h1 119 i (Or.inl (by decide)), rfSt_c (by decide) (Or.inr (Or.inl (by decide))) (Or.inl (by decide))]
    · rw [h1 120 i (Or.inl (by decide)), rfSt_c (by decide) (Or.inr (Or.inl (by decide))) (Or.inl (by decide))]
  · show B.Perm (T.fl ++ T.br.map (k4 (va_up T.e (T.cn + 1) E)))
    rw [map_cg (e := T.e) (fun i hi => by rw [va_up_ne _ _ (by have := ((h.2.2.2.2.1.2 i).mp hi).2.1; omega)])]
    exact r7
theorem rr_st (hR : RepR iv T B) (h : tI T p) (hJ : tJ T p) : RepR (rfSt iv T.cn p (p + 3) (a (p + 1)) (nI T.cur)) (tSt a T p) B := by
  refine rr_nw hR h hJ (E := elN a T p (p + 3)) (c := a (p + 1)) ⟨rfl, rfl, rfl, rfl, rfl⟩ _ (fun q j _ => rfl) _ (fun i hi => ?_) (fun _ => ?_) (fun z => absurd (List.mem_cons_self ..) z)
  · rw [List.mem_cons]
    exact ⟨fun z => z.resolve_left (by omega), Or.inr⟩
  · obtain ⟨v1, v2, v3, v4, v5, v6, v7, v8, v9, v10⟩ := rfSt_v (iv := iv) (p := p) (cn := T.cn) (to := p + 3) (c := a (p + 1)) (cu := nI T.cur)
    exact ⟨v9, v7, v4⟩
theorem rr_em (hR : RepR iv T B) (h : tI T p) (hJ : tJ T p) : RepR (rfEm iv T.cn p (p + 4) (a (p + 1)) (nI T.cur)) (tEm a T p) B := by
  have hns : T.cn + 1 ∉ T.stk := fun z => by have := h.2.1.2.1 _ z; omega
  refine rr_nw hR h hJ (E := elC (elN a T p (p + 4)) 2 (p + 4) (p + 4) 0) (c := a (p + 1)) ⟨rfl, rfl, rfl, rfl, rfl⟩ _ (fun q j hq => ?_) _ (fun i hi => Iff.rfl) (fun z => absurd z hns) (fun _ => ?_)
  · unfold rfEm
    rw [u2n (by omega), u2n (by omega), u2n (by omega)]
    rfl
  · obtain ⟨v1, v2, v3, v4, v5, v6, v7, v8, v9, v10⟩ := rfSt_v (iv := iv) (p := p) (cn := T.cn) (to := p + 4) (c := a (p + 1)) (cu := nI T.cur)
    unfold erC rfEm
    refine ⟨?_, ?_, ?_, ?_, ?_⟩
    · rw [u2n (Or.inl (by decide)), u2n (Or.inl (by decide)), u2s]
    · rw [u2n (Or.inl (by decide)), u2n (Or.inl (by decide)), u2n (Or.inl (by decide)), v6]; rfl
    · rw [u2n (Or.inl (by decide)), u2s]; rfl
    · rw [u2s]; rfl
    · rw [u2n (Or.inl (by decide)), u2n (Or.inl (by decide)), u2n (Or.inl (by decide)), v7]; rfl
theorem ik_neg {E : EL} {q0 : Nat} (hq : q0 ≤ 1000) (h : E.ik = -1 ∨ ∃ q, q < q0 ∧ E.ik = nI q) : E.ik < 0 ↔ E.ik = -1 := by
  rcases h with h | ⟨q, h1, h2⟩
  · rw [h]; decide
  · rw [h2]
    constructor
    · intro z
      have := (n_lt (a := q) (b := 0) (by omega) (by omega)).mp z
      omega
    · intro z
      have z2 := congrArg Int32.toInt z
      rw [nI_t (by omega)] at z2
      have : (-1 : Int32).toInt = -1 := by decide
      omega
theorem rr_ch (hR : RepR iv T B) (h : tI T p) (hp : p ≤ 100) : RepR (rfCh iv T.cur B.length (a p) p) (tCh a T p) (if a p = nI 60 then (p * 8 + 1) :: B else B) := by
  have hcur := cur_le h
  obtain ⟨r1, r2, r3, r4, r5, r6, r7⟩ := hR
  have h1 : ∀ q j, q ≠ 119 → q ≠ 120 → (q ≠ 92 ∨ j ≠ 29) → rfC1 iv B.length (a p) p q j = iv q j := by
    intro q j q1 q2 q3
    unfold rfC1
    split
    · exact rfFlt_o q1 q2 q3
    · rfl
  have h2 : ∀ q j, (q ≠ 114 ∨ j ≠ T.cur) → rfCh iv T.cur B.length (a p) p q j = rfC1 iv B.length (a p) p q j := by
    intro q j hq
    unfold rfCh
    split
    · exact u2n hq
    · rfl
  have h3 : ∀ q j, q ≠ 119 → q ≠ 120 → (q ≠ 92 ∨ j ≠ 29) → q ≠ 114 → rfCh iv T.cur B.length (a p) p q j = iv q j := fun q j q1 q2 q3 q4 => (h2 q j (Or.inl q4)).trans (h1 q j q1 q2 q3)
  have he : ∀ i, (tCh a T p).e i = if i = T.cur ∧ ¬ a p = nI 32 ∧ (T.e T.cur).ik = -1 then elK (T.e i) p else T.e i := by
    intro i
    show (if ¬ a p = nI 32 ∧ (T.e T.cur).ik = -1 then va_up T.e T.cur (elK (T.e T.cur) p) else T.e) i = _
    by_cases hc : ¬ a p = nI 32 ∧ (T.e T.cur).ik = -1
    · rw [if_pos hc]
      by_cases hi : i = T.cur
      · rw [if_pos ⟨hi, hc⟩, hi, va_up_self]
      · rw [if_neg (fun z => hi z.1), va_up_ne _ _ hi]
    · rw [if_neg hc, if_neg (fun z => hc z.2)]
  have h114 : iv 114 T.cur < 0 ↔ (T.e T.cur).ik = -1 := by
    rw [(r2 T.cur hcur).2.2.2]
    exact ik_neg (by omega) (h.2.2.2.2.2.2 T.cur hcur)
  refine ⟨(h3 _ _ (by decide) (by decide) (Or.inr (by decide)) (by decide)).trans r1, fun i hi => ?_, fun i hi hs => ?_, fun i q1 q2 q3 => ?_, ⟨fun k hk hn => ?_, fun t ht k k1 k2 => ?_⟩, ?_, ?_⟩
  · have hi' : i ≤ T.cn := hi
    have hr := r2 i hi'
    rw [he i]
    unfold erA at hr ⊢
    rw [h3 107 i (by decide) (by decide) (Or.inl (by decide)) (by decide), h3 108 i (by decide) (by decide) (Or.inl (by decide)) (by decide), h3 109 i (by decide) (by decide) (Or.inl (by decide)) (by decide)]
    by_cases hc : i = T.cur ∧ ¬ a p = nI 32 ∧ (T.e T.cur).ik = -1
    · rw [if_pos hc]
      refine ⟨hr.1, hr.2.1, hr.2.2.1, ?_⟩
      unfold rfCh
      rw [h1 114 T.cur (by decide) (by decide) (Or.inl (by decide)), if_pos ⟨hc.2.1, h114.mpr hc.2.2⟩, hc.1, u2s]
      rfl
    · rw [if_neg hc]
      refine ⟨hr.1, hr.2.1, hr.2.2.1, ?_⟩
      by_cases hi2 : i = T.cur
      · unfold rfCh
        rw [h1 114 T.cur (by decide) (by decide) (Or.inl (by decide)), if_neg (fun z => hc ⟨hi2, z.1, h114.mp z.2⟩), h1 114 i (by decide) (by decide) (Or.inl (by decide))]
        exact hr.2.2.2
      · rw [h2 114 i (Or.inr hi2), h1 114 i (by decide) (by decide) (Or.inl (by decide))]
        exact hr.2.2.2
  · have hr := r3 i hi hs
    rw [he i]
    unfold erO at hr ⊢
    rw [h3 115 i (by decide) (by decide) (Or.inl (by decide)) (by decide), h3 113 i (by decide) (by decide) (Or.inl (by decide)) (by decide), h3 111 i (by decide) (by decide) (Or.inl (by decide)) (by decide)]
    split
    · exact hr
    · exact hr
  · have hr := r4 i q1 q2 q3
    rw [he i]
    unfold erC at hr ⊢
    rw [h3 115 i (by decide) (by decide) (Or.inl (by decide)) (by decide), h3 110 i (by decide) (by decide) (Or.inl (by decide)) (by decide), h3 111 i (by decide) (by decide) (Or.inl (by decide)) (by decide), h3 112 i (by decide) (by decide) (Or.inl (by decide)) (by decide), h3 113 i (by decide) (by decide) (Or.inl (by decide)) (by decide)]
    split
    · exact hr
    · exact hr
  · rw [h3 116 k (by decide) (by decide) (Or.inl (by decide)) (by decide)]
    exact r5.1 k hk hn
  · rw [h3 116 k (by decide) (by decide) (Or.inl (by decide)) (by decide), h3 118 k (by decide) (by decide) (Or.inl (by decide)) (by decide)]
    exact r5.2 t ht k k1 k2
  · have hf : FaR (rfC1 iv B.length (a p) p) (if a p = nI 60 then (p * 8 + 1) :: B else B) := by
      unfold rfC1
      split
      · exact faR_add r6 (by decide) (by omega)
      · exact r6
    exact faR_cg hf (h2 _ _ (Or.inl (by decide))) (fun i => ⟨h2 _ _ (Or.inl (by decide)), h2 _ _ (Or.inl (by decide))⟩)
  · show (if a p = nI 60 then (p * 8 + 1) :: B else B).Perm ((if a p = nI 60 then (p * 8 + 1) :: T.fl else T.fl) ++ T.br.map (k4 (tCh a T p).e))
    rw [map_cg (e := T.e) (fun i _ => by rw [he i]; split <;> rfl)]
    split
    · exact List.Perm.cons _ r7
    · exact r7
end RS2
def clD (S : List Nat) : Nat → Nat → List Nat → List Nat
  | 0, _, D => D
  | k + 1, i, D => clD S k (i + 1) (if i ∈ S then i :: D else D)
section RS3
variable {iv : Nat → Nat → Int32} {a : Nat → Int32} {n p : Nat} {T : TS} {B : List Nat}
theorem clD_mem (S : List Nat) : ∀ k i D y, y ∈ clD S k i D ↔ y ∈ D ∨ (i ≤ y ∧ y < i + k ∧ y ∈ S) := by
  intro k
  induction k with
  | zero => intro i D y; exact ⟨Or.inl, fun z => z.elim id (fun w => by omega)⟩
  | succ k ih =>
    intro i D y
    rw [clD, ih]
    by_cases hi : i ∈ S
    · rw [if_pos hi, List.mem_cons]
      constructor
      · rintro ((h | h) | h)
        · exact Or.inr ⟨by omega, by omega, h ▸ hi⟩
        · exact Or.inl h
        · exact Or.inr ⟨by omega, by omega, h.2.2⟩
      · rintro (h | h)
        · exact Or.inl (Or.inr h)
        · by_cases e : y = i
          · exact Or.inl (Or.inl e)
          · exact Or.inr ⟨by omega, by omega, h.2.2⟩
    · rw [if_neg hi]
      constructor
      · rintro (h | h)
        · exact Or.inl h
        · exact Or.inr ⟨by omega, by omega, h.2.2⟩
      · rintro (h | h)
        · exact Or.inl h
        · by_cases e : y = i
          · exact absurd (e ▸ h.2.2) hi
          · exact Or.inr ⟨by omega, by omega, h.2.2⟩
theorem clD_nd (S : List Nat) : ∀ k i D, D.Nodup → (∀ y, y ∈ D → y < i) → (clD S k i D).Nodup := by
  intro k
  induction k with
  | zero => intro i D h _; exact h
  | succ k ih =>
    intro i D h hy
    rw [clD]
    by_cases hi : i ∈ S
    · rw [if_pos hi]
      refine ih _ _ (List.nodup_cons.mpr ⟨fun z => Nat.lt_irrefl _ (hy i z), h⟩) (fun y z => ?_)
      rcases List.mem_cons.mp z with w | w
      · omega
      · have := hy y w; omega
    · rw [if_neg hi]
      exact ih _ _ h (fun y z => by have := hy y z; omega)
theorem rfCls_o {i q j : Nat} {x : Int32} (h : (q ≠ 115 ∧ q ≠ 112 ∧ q ≠ 110) ∨ j ≠ i) : rfCls iv i x q j = iv q j := by
  unfold rfCls
  rw [u2n (by omega), u2n (by omega), u2n (by omega)]
theorem rcl_eq {e : Nat → EL} {S : List Nat} {x : Int32} : ∀ (k i : Nat) (z : Nat × (Nat → Nat → Int32)) (D : List Nat), (∀ j, i ≤ j → j < i + k → (z.2 115 j = 0 ↔ j ∉ S) ∧ z.2 109 j = nI (e j).bg ∧ (e j).bg ≤ 1000) → FaR z.2 (D.map (k4 e) ++ B) → z.1 = (D.map (k4 e) ++ B).length →
    FaR (rcl x k i z).2 ((clD S k i D).map (k4 e) ++ B) ∧ (rcl x k i z).1 = ((clD S k i D).map (k4 e) ++ B).length ∧
    (∀ q j, (q ≠ 115 ∧ q ≠ 112 ∧ q ≠ 110) ∨ ¬ (i ≤ j ∧ j < i + k ∧ j ∈ S) → q ≠ 119 → q ≠ 120 → (q ≠ 92 ∨ j ≠ 29) → (rcl x k i z).2 q j = z.2 q j) ∧
    (∀ j, i ≤ j → j < i + k → j ∈ S → (rcl x k i z).2 115 j = nI 0 ∧ (rcl x k i z).2 112 j = x ∧ (rcl x k i z).2 110 j = x) := by
  intro k
  induction k with
  | zero =>
    intro i z D _ h1 h2
    exact ⟨h1, h2, fun _ _ _ _ _ _ => rfl, fun j j1 j2 => by omega⟩
  | succ k ih =>
    intro i z D h0 h1 h2
    rw [rcl, clD]
    obtain ⟨g1, g2, g3⟩ := h0 i (Nat.le_refl _) (by omega)
    by_cases hi : i ∈ S
    · rw [if_pos hi, if_neg (fun w => g1.mp w hi)]
      have hz : ∀ q j, (q ≠ 115 ∧ q ≠ 112 ∧ q ≠ 110) ∨ j ≠ i → q ≠ 119 → q ≠ 120 → (q ≠ 92 ∨ j ≠ 29) → rfFlt (rfCls z.2 i x) z.1 (nI 4) (z.2 109 i) q j = z.2 q j := by
        intro q j q1 q2 q3 q4
        rw [rfFlt_o q2 q3 q4, rfCls_o q1]
      have hf : FaR (rfCls z.2 i x) (D.map (k4 e) ++ B) := faR_cg h1 (rfCls_o (Or.inl (by decide))) (fun j => ⟨rfCls_o (Or.inl (by decide)), rfCls_o (Or.inl (by decide))⟩)
      obtain ⟨i1, i2, i3, i4⟩ := ih (i + 1) (z.1 + 1, rfFlt (rfCls z.2 i x) z.1 (nI 4) (z.2 109 i)) (i :: D) (fun j j1 j2 => by
        rw [show (z.1 + 1, rfFlt (rfCls z.2 i x) z.1 (nI 4) (z.2 109 i)).2 = rfFlt (rfCls z.2 i x) z.1 (nI 4) (z.2 109 i) from rfl, hz 115 j (Or.inr (by omega)) (by decide) (by decide) (Or.inl (by decide)), hz 109 j (Or.inl (by decide)) (by decide) (by decide) (Or.inl (by decide))]
        exact h0 j (by omega) (by omega)) (by
        show FaR (rfFlt (rfCls z.2 i x) z.1 (nI 4) (z.2 109 i)) (((e i).bg * 8 + 4) :: (D.map (k4 e) ++ B))
        rw [h2, g2]
        exact faR_add hf (by decide) g3) (by
        show z.1 + 1 = (D.map (k4 e) ++ B).length + 1
        rw [h2])
      refine ⟨i1, i2, fun q j q1 q2 q3 q4 => ?_, fun j j1 j2 j3 => ?_⟩
      · rw [i3 q j (q1.imp id (fun w => fun y => w ⟨by omega, by omega, y.2.2⟩)) q2 q3 q4]
        refine hz q j (q1.imp id (fun w => fun y => w ⟨by omega, by omega, y ▸ hi⟩)) q2 q3 q4
      · by_cases e1 : j = i
        · subst e1
          have hn : ¬ (j + 1 ≤ j ∧ j < j + 1 + k ∧ j ∈ S) := by omega
          rw [i3 115 j (Or.inr hn) (by decide) (by decide) (Or.inl (by decide)), i3 112 j (Or.inr hn) (by decide) (by decide) (Or.inl (by decide)), i3 110 j (Or.inr hn) (by decide) (by decide) (Or.inl (by decide))]
          show rfFlt (rfCls z.2 j x) z.1 (nI 4) (z.2 109 j) 115 j = _ ∧ rfFlt (rfCls z.2 j x) z.1 (nI 4) (z.2 109 j) 112 j = _ ∧ rfFlt (rfCls z.2 j x) z.1 (nI 4) (z.2 109 j) 110 j = _
          rw [rfFlt_o (by decide) (by decide) (Or.inl (by decide)), rfFlt_o (by decide) (by decide) (Or.inl (by decide)), rfFlt_o (by decide) (by decide) (Or.inl (by decide))]
          unfold rfCls
          refine ⟨?_, ?_, u2s⟩
          · rw [u2n (Or.inl (by decide)), u2n (Or.inl (by decide)), u2s]
          · rw [u2n (Or.inl (by decide)), u2s]
        · exact i4 j (by omega) (by omega) j3
    · rw [if_neg hi, if_pos (g1.mpr hi)]
      obtain ⟨i1, i2, i3, i4⟩ := ih (i + 1) z D (fun j j1 j2 => h0 j (by omega) (by omega)) h1 h2
      refine ⟨i1, i2, fun q j q1 q2 q3 q4 => i3 q j (q1.imp id (fun w => fun y => w ⟨by omega, by omega, y.2.2⟩)) q2 q3 q4, fun j j1 j2 j3 => ?_⟩
      by_cases e1 : j = i
      · exact absurd (e1 ▸ j3) hi
      · exact i4 j (by omega) (by omega) j3
theorem rr_en (hR : RepR iv T B) (h : tI T p) (hJ : tJ T p) (hp : p + 4 ≤ 100) {up rest : List Nat} {x : Nat} (hs : T.stk = up ++ x :: rest) : ∃ B', RepR (rfEn iv T.cn x p B.length) (tEn T p up x rest) B' ∧ B'.length = up.length + B.length ∧ (rcl (nI p) (T.cn - x) (x + 1) (B.length, rfMk iv p (p + 4) (p + 4) (-1))).1 = B'.length := by
  have hc := h.2.1.1
  rw [hs] at hc
  obtain ⟨c1, c2, c3⟩ := chn_app up hc
  obtain ⟨c4, c5⟩ := chn_sub c1
  have hx0 : 0 < x := c1.1
  have hmem : ∀ i, i ∈ T.stk ↔ i ∈ up ∨ i = x ∨ i ∈ rest := by intro i; rw [hs, List.mem_append, List.mem_cons]
  have hxu : x ∉ up := fun z => Nat.lt_irrefl _ (c2 x z)
  have hule : ∀ i, i ∈ up → i ≤ T.cn := fun i hi => h.2.1.2.1 i ((hmem i).mpr (Or.inl hi))
  have hxle : x ≤ T.cn := h.2.1.2.1 x ((hmem x).mpr (Or.inr (Or.inl rfl)))
  have hopn := opn_a hR
  obtain ⟨r1, r2, r3, r4, r5, r6, r7⟩ := hR
  have hm : ∀ q j, q ≠ 116 ∧ q ≠ 117 ∧ q ≠ 118 → rfMk iv p (p + 4) (p + 4) (-1) q j = iv q j := fun q j hq => rfMk_o hq
  obtain ⟨k1, k2, k3, k4'⟩ := rcl_eq (B := B) (e := T.e) (S := up) (x := nI p) (T.cn - x) (x + 1) (B.length, rfMk iv p (p + 4) (p + 4) (-1)) [] (fun j j1 j2 => by
    rw [show (B.length, rfMk iv p (p + 4) (p + 4) (-1)).2 = rfMk iv p (p + 4) (p + 4) (-1) from rfl, hm 115 j (by decide), hm 109 j (by decide)]
    refine ⟨?_, (r2 j (by omega)).2.2.1, by have := (h.2.2.2.1 j (by omega) (by omega)).2.2.1; omega⟩
    have := decide_eq_decide.mp (hopn j (by omega) (by omega))
    constructor
    · intro z w
      exact (this.mpr ((hmem j).mpr (Or.inl w))) z
    · intro z
      refine Classical.byContradiction (fun y => ?_)
      rcases (hmem j).mp (this.mp y) with w | w | w
      · exact z w
      · omega
      · have := c5 j w; omega) (faR_cg r6 (hm 92 29 (by decide)) (fun i => ⟨hm 119 i (by decide), hm 120 i (by decide)⟩)) rfl
  generalize hz : rcl (nI p) (T.cn - x) (x + 1) (B.length, rfMk iv p (p + 4) (p + 4) (-1)) = z at k1 k2 k3 k4'
  have hD : (clD up (T.cn - x) (x + 1) []).Perm up := by
    refine (List.perm_ext_iff_of_nodup (clD_nd _ _ _ _ List.nodup_nil (fun y hy => absurd hy List.not_mem_nil)) c3).mpr (fun y => ?_)
    rw [clD_mem]
    exact ⟨fun w => w.elim (fun v => absurd v List.not_mem_nil) (fun v => v.2.2), fun w => Or.inr ⟨c2 y w, by have := hule y w; omega, w⟩⟩
  have hDm : ∀ j, (x + 1 ≤ j ∧ j < x + 1 + (T.cn - x) ∧ j ∈ up) ↔ j ∈ up := fun j => ⟨fun w => w.2.2, fun w => ⟨c2 j w, by have := hule j w; omega, w⟩⟩
  have e0 : rfEn iv T.cn x p B.length = rfMk (rfE4 z.2 x (nI p) (nI (p + 4))) p (p + 4) (p + 4) (nI x) := by unfold rfEn; rw [hz]
  have h4o : ∀ q j, (q ≠ 115 ∧ q ≠ 112 ∧ q ≠ 110 ∧ q ≠ 113) ∨ j ≠ x → rfE4 z.2 x (nI p) (nI (p + 4)) q j = z.2 q j := by
    intro q j hq
    unfold rfE4
    rw [u2n (by omega), u2n (by omega), u2n (by omega), u2n (by omega)]
  have hA : ∀ q j, 107 ≤ q → q ≤ 114 → q ≠ 110 → q ≠ 112 → (q ≠ 113 ∨ j ≠ x) → rfEn iv T.cn x p B.length q j = iv q j := by
    intro q j q1 q2 q3 q4 q5
    rw [e0, rfMk_o ⟨by omega, by omega, by omega⟩, h4o q j (by omega), k3 q j (Or.inl ⟨by omega, by omega, by omega⟩) (by omega) (by omega) (Or.inl (by omega))]
    exact hm q j ⟨by omega, by omega, by omega⟩
  have hO : ∀ q j, (q = 115 ∨ q = 112 ∨ q = 110) → j ≠ x → j ∉ up → rfEn iv T.cn x p B.length q j = iv q j := by
    intro q j q1 q2 q3
    rw [e0, rfMk_o ⟨by omega, by omega, by omega⟩, h4o q j (Or.inr q2), k3 q j (Or.inr (fun w => q3 w.2.2)) (by omega) (by omega) (Or.inl (by omega))]
    exact hm q j ⟨by omega, by omega, by omega⟩
  have he : ∀ i, ((tEn T p up x rest).e i).nm = (T.e i).nm ∧ ((tEn T p up x rest).e i).pr = (T.e i).pr ∧ ((tEn T p up x rest).e i).bg = (T.e i).bg ∧ ((tEn T p up x rest).e i).iF = (T.e i).iF ∧ ((tEn T p up x rest).e i).ik = (T.e i).ik := by
    intro i
    have e1 : (tEn T p up x rest).e i = if i ∈ up then elC (T.e i) 0 p p 0 else if i = x then elC (T.e i) 3 p (p + 4) T.tn else T.e i := rfl
    rw [e1]
    split
    · exact ⟨rfl, rfl, rfl, rfl, rfl⟩
    · split
      · exact ⟨rfl, rfl, rfl, rfl, rfl⟩
      · exact ⟨rfl, rfl, rfl, rfl, rfl⟩
  refine ⟨(clD up (T.cn - x) (x + 1) []).map (k4 T.e) ++ B, ⟨?_, fun i hi => ?_, fun i hi hs' => ?_, fun i q1 q2 q3 => ?_, ?_, ?_, ?_⟩, ?_, k2⟩
  · rw [e0, rfMk_o (by decide), h4o _ _ (Or.inl (by decide)), k3 _ _ (Or.inl (by decide)) (by decide) (by decide) (Or.inr (by decide))]
    exact (hm _ _ (by decide)).trans r1
  · have hi' : i ≤ T.cn := hi
    obtain ⟨s1, s2, s3, s4, s5⟩ := he i
    have hr := r2 i hi'
    unfold erA at hr ⊢
    rw [hA 107 i (by omega) (by omega) (by omega) (by omega) (Or.inl (by omega)), hA 108 i (by omega) (by omega) (by omega) (by omega) (Or.inl (by omega)), hA 109 i (by omega) (by omega) (by omega) (by omega) (Or.inl (by omega)), hA 114 i (by omega) (by omega) (by omega) (by omega) (Or.inl (by omega)), s1, s2, s3, s5]
    exact hr
  · have hi' : i ≤ T.cn := hi
    have hrs : i = 0 ∨ i ∈ rest := hs'
    have hix : i ≠ x := by
      rcases hrs with w | w
      · omega
      · have := c5 i w; omega
    have hiu : i ∉ up := fun w => by
      have := c2 i w
      rcases hrs with v | v
      · omega
      · have := c5 i v; omega
    have hr := r3 i hi' (hrs.imp id (fun w => (hmem i).mpr (Or.inr (Or.inr w))))
    unfold erO at hr ⊢
    rw [hO 115 i (Or.inl rfl) hix hiu, hA 113 i (by omega) (by omega) (by omega) (by omega) (Or.inr hix), hA 111 i (by omega) (by omega) (by omega) (by omega) (Or.inl (by omega)), (he i).2.2.2.1]
    exact hr
  · have hi' : i ≤ T.cn := q2
    show erC _ (if i ∈ up then elC (T.e i) 0 p p 0 else if i = x then elC (T.e i) 3 p (p + 4) T.tn else T.e i) i
    unfold erC
    by_cases hu : i ∈ up
    · rw [if_pos hu]
      have hix : i ≠ x := fun w => hxu (w ▸ hu)
      obtain ⟨z1, z2, z3⟩ := k4' i (c2 i hu) (by have := hule i hu; omega) hu
      have hr := r3 i hi' (Or.inr ((hmem i).mpr (Or.inl hu)))
      refine ⟨?_, ?_, ?_, ?_, ?_⟩
      · rw [e0, rfMk_o (by decide), h4o _ _ (Or.inr hix)]; exact z1
      · rw [e0, rfMk_o (by decide), h4o _ _ (Or.inr hix)]; exact z3
      · rw [hA 111 i (by omega) (by omega) (by omega) (by omega) (Or.inl (by omega))]; exact hr.2.2
      · rw [e0, rfMk_o (by decide), h4o _ _ (Or.inr hix)]; exact z2
      · rw [hA 113 i (by omega) (by omega) (by omega) (by omega) (Or.inr hix)]; exact hr.2.1
    · rw [if_neg hu]
      by_cases hix : i = x
      · rw [if_pos hix]
        have hr := r3 x hxle (Or.inr ((hmem x).mpr (Or.inr (Or.inl rfl))))
        subst hix
        refine ⟨?_, ?_, ?_, ?_, ?_⟩
        · rw [e0, rfMk_o (by decide)]; unfold rfE4; rw [u2n (Or.inl (by decide)), u2n (Or.inl (by decide)), u2n (Or.inl (by decide)), u2s]
        · rw [e0, rfMk_o (by decide)]; unfold rfE4; rw [u2n (Or.inl (by decide)), u2s]; rfl
        · rw [hA 111 i (by omega) (by omega) (by omega) (by omega) (Or.inl (by omega))]; exact hr.2.2
        · rw [e0, rfMk_o (by decide)]; unfold rfE4; rw [u2n (Or.inl (by decide)), u2n (Or.inl (by decide)), u2s]; rfl
        · rw [e0, rfMk_o (by decide)]; unfold rfE4; rw [u2s]; rfl
      · rw [if_neg hix]
        have hns : i ∉ T.stk := fun w => by
          rcases (hmem i).mp w with v | v | v
          · exact hu v
          · exact hix v
          · exact q3 v
        have hr := r4 i q1 hi' hns
        unfold erC at hr
        rw [hO 115 i (Or.inl rfl) hix hu, hO 110 i (Or.inr (Or.inr rfl)) hix hu, hO 112 i (Or.inr (Or.inl rfl)) hix hu, hA 111 i (by omega) (by omega) (by omega) (by omega) (Or.inl (by omega)), hA 113 i (by omega) (by omega) (by omega) (by omega) (Or.inr hix)]
        exact hr
  · rw [e0]
    refine erT_mk r5 (fun k hk => ?_) (fun k h1 h2 => ?_) (fun t ht => (hJ t ht).2.1)
    · rw [rfMk_116.1, rfMk_116.2, if_neg hk, if_neg hk, h4o _ _ (Or.inl (by decide)), h4o _ _ (Or.inl (by decide)), k3 _ _ (Or.inl (by decide)) (by decide) (by decide) (Or.inl (by decide)), k3 _ _ (Or.inl (by decide)) (by decide) (by decide) (Or.inl (by decide))]
      show rfMk iv p (p + 4) (p + 4) (-1) 116 k = _ ∧ rfMk iv p (p + 4) (p + 4) (-1) 118 k = _
      rw [rfMk_116.1, rfMk_116.2, if_neg hk, if_neg hk]
      exact ⟨rfl, rfl⟩
    · rw [rfMk_116.1, rfMk_116.2, if_pos ⟨h1, h2⟩, if_pos ⟨h1, h2⟩]
      exact ⟨rfl, rfl⟩
  · rw [e0]
    refine faR_cg k1 ?_ (fun i => ⟨?_, ?_⟩)
    · rw [rfMk_o (by decide), h4o _ _ (Or.inl (by decide))]
    · rw [rfMk_o (by decide), h4o _ _ (Or.inl (by decide))]
    · rw [rfMk_o (by decide), h4o _ _ (Or.inl (by decide))]
  · show ((clD up (T.cn - x) (x + 1) []).map (k4 T.e) ++ B).Perm (T.fl ++ (up ++ T.br).map (k4 (tEn T p up x rest).e))
    rw [map_cg (e := T.e) (fun i _ => (he i).2.2.1), List.map_append]
    have p1 : ((clD up (T.cn - x) (x + 1) []).map (k4 T.e) ++ B).Perm (up.map (k4 T.e) ++ (T.fl ++ T.br.map (k4 T.e))) := (List.Perm.append_right _ (hD.map _)).trans (List.Perm.append_left _ r7)
    refine p1.trans ?_
    rw [← List.append_assoc, ← List.append_assoc]
    exact List.Perm.append_right _ List.perm_append_comm
  · rw [List.length_append, List.length_map, hD.length_eq]
theorem rr_fin (hR : RepR iv T B) (h : tI T n) (hn : n ≤ 100) : ∃ B', RepR (rfFin iv T.cn n B.length) (tFin n T) B' ∧ B'.length = T.stk.length + B.length ∧ rfFin iv T.cn n B.length 112 0 = nI n ∧ rfFin iv T.cn n B.length 110 0 = nI n ∧ (rcl (nI n) T.cn 1 (B.length, iv)).1 = B'.length := by
  have hpos := chn_pos _ h.2.1.1
  have hle := h.2.1.2.1
  have hopn := opn_a hR
  obtain ⟨r1, r2, r3, r4, r5, r6, r7⟩ := hR
  obtain ⟨k1, k2, k3, k4'⟩ := rcl_eq (B := B) (e := T.e) (S := T.stk) (x := nI n) T.cn 1 (B.length, iv) [] (fun j j1 j2 => by
    refine ⟨?_, (r2 j (by omega)).2.2.1, by have := (h.2.2.2.1 j (by omega) (by omega)).2.2.1; omega⟩
    have := decide_eq_decide.mp (hopn j (by omega) (by omega))
    exact ⟨fun z w => this.mpr w z, fun z => Classical.byContradiction (fun y => z (this.mp y))⟩) r6 rfl
  generalize hz : rcl (nI n) T.cn 1 (B.length, iv) = z at k1 k2 k3 k4'
  have hD : (clD T.stk T.cn 1 []).Perm T.stk := by
    refine (List.perm_ext_iff_of_nodup (clD_nd _ _ _ _ List.nodup_nil (fun y hy => absurd hy List.not_mem_nil)) (chn_nodup _ h.2.1.1)).mpr (fun y => ?_)
    rw [clD_mem]
    exact ⟨fun w => w.elim (fun v => absurd v List.not_mem_nil) (fun v => v.2.2), fun w => Or.inr ⟨hpos y w, by have := hle y w; omega, w⟩⟩
  have e0 : rfFin iv T.cn n B.length = ex_u2 (ex_u2 z.2 112 0 (nI n)) 110 0 (nI n) := by unfold rfFin; rw [hz]
  have h2o : ∀ q j, (q ≠ 112 ∧ q ≠ 110) ∨ j ≠ 0 → rfFin iv T.cn n B.length q j = z.2 q j := by
    intro q j hq
    rw [e0, u2n (by omega), u2n (by omega)]
  have hA : ∀ q j, q ≠ 115 → q ≠ 112 → q ≠ 110 → q ≠ 119 → q ≠ 120 → (q ≠ 92 ∨ j ≠ 29) → rfFin iv T.cn n B.length q j = iv q j := by
    intro q j q1 q2 q3 q4 q5 q6
    rw [h2o q j (Or.inl ⟨q2, q3⟩)]
    exact k3 q j (Or.inl ⟨q1, q2, q3⟩) q4 q5 q6
  have hO : ∀ q j, (q = 115 ∨ q = 112 ∨ q = 110) → (q = 115 ∨ j ≠ 0) → j ∉ T.stk → rfFin iv T.cn n B.length q j = iv q j := by
    intro q j q1 q2 q3
    rw [h2o q j (by omega)]
    exact k3 q j (Or.inr (fun w => q3 w.2.2)) (by omega) (by omega) (Or.inl (by omega))
  have he : ∀ i, ((tFin n T).e i).nm = (T.e i).nm ∧ ((tFin n T).e i).pr = (T.e i).pr ∧ ((tFin n T).e i).bg = (T.e i).bg ∧ ((tFin n T).e i).iF = (T.e i).iF ∧ ((tFin n T).e i).ik = (T.e i).ik := by
    intro i
    have e1 : (tFin n T).e i = if i ∈ T.stk then elC (T.e i) 0 n n 0 else if i = 0 then elC (T.e i) 0 n n 0 else T.e i := rfl
    rw [e1]
    split
    · exact ⟨rfl, rfl, rfl, rfl, rfl⟩
    · split
      · exact ⟨rfl, rfl, rfl, rfl, rfl⟩
      · exact ⟨rfl, rfl, rfl, rfl, rfl⟩
  have h0 : 0 ∉ T.stk := fun w => Nat.lt_irrefl _ (hpos 0 w)
  refine ⟨(clD T.stk T.cn 1 []).map (k4 T.e) ++ B, ⟨?_, fun i hi => ?_, fun i hi hs' => ?_, fun i q1 q2 q3 => ?_, ⟨fun k hk hno => ?_, fun t ht k h1 h2 => ?_⟩, ?_, ?_⟩, ?_, ?_, ?_, k2⟩
  · rw [hA 92 16 (by decide) (by decide) (by decide) (by decide) (by decide) (Or.inr (by decide))]; exact r1
  · have hi' : i ≤ T.cn := hi
    obtain ⟨s1, s2, s3, s4, s5⟩ := he i
    have hr := r2 i hi'
    unfold erA at hr ⊢
    rw [hA 107 i (by decide) (by decide) (by decide) (by decide) (by decide) (Or.inl (by decide)), hA 108 i (by decide) (by decide) (by decide) (by decide) (by decide) (Or.inl (by decide)), hA 109 i (by decide) (by decide) (by decide) (by decide) (by decide) (Or.inl (by decide)), hA 114 i (by decide) (by decide) (by decide) (by decide) (by decide) (Or.inl (by decide)), s1, s2, s3, s5]
    exact hr
  · have hi0 : i = 0 := hs'.elim id (fun w => absurd w List.not_mem_nil)
    subst hi0
    have hr := r3 0 (Nat.zero_le _) (Or.inl rfl)
    unfold erO at hr ⊢
    rw [hO 115 0 (Or.inl rfl) (Or.inl rfl) h0, hA 113 0 (by decide) (by decide) (by decide) (by decide) (by decide) (Or.inl (by decide)), hA 111 0 (by decide) (by decide) (by decide) (by decide) (by decide) (Or.inl (by decide)), (he 0).2.2.2.1]
    exact hr
  · have hi' : i ≤ T.cn := q2
    show erC _ (if i ∈ T.stk then elC (T.e i) 0 n n 0 else if i = 0 then elC (T.e i) 0 n n 0 else T.e i) i
    unfold erC
    by_cases hu : i ∈ T.stk
    · rw [if_pos hu]
      obtain ⟨z1, z2, z3⟩ := k4' i q1 (by omega) hu
      have hr := r3 i hi' (Or.inr hu)
      refine ⟨?_, ?_, ?_, ?_, ?_⟩
      · rw [h2o _ _ (Or.inr (by omega))]; exact z1
      · rw [h2o _ _ (Or.inr (by omega))]; exact z3
      · rw [hA 111 i (by decide) (by decide) (by decide) (by decide) (by decide) (Or.inl (by decide))]; exact hr.2.2
      · rw [h2o _ _ (Or.inr (by omega))]; exact z2
      · rw [hA 113 i (by decide) (by decide) (by decide) (by decide) (by decide) (Or.inl (by decide))]; exact hr.2.1
    · rw [if_neg hu, if_neg (by omega)]
      have hr := r4 i q1 hi' hu
      unfold erC at hr
      rw [hO 115 i (Or.inl rfl) (Or.inl rfl) hu, hO 110 i (Or.inr (Or.inr rfl)) (Or.inr (by omega)) hu, hO 112 i (Or.inr (Or.inl rfl)) (Or.inr (by omega)) hu, hA 111 i (by decide) (by decide) (by decide) (by decide) (by decide) (Or.inl (by decide)), hA 113 i (by decide) (by decide) (by decide) (by decide) (by decide) (Or.inl (by decide))]
      exact hr
  · rw [hA 116 k (by decide) (by decide) (by decide) (by decide) (by decide) (Or.inl (by decide))]
    exact r5.1 k hk hno
  · rw [hA 116 k (by decide) (by decide) (by decide) (by decide) (by decide) (Or.inl (by decide)), hA 118 k (by decide) (by decide) (by decide) (by decide) (by decide) (Or.inl (by decide))]
    exact r5.2 t ht k h1 h2
  · exact faR_cg k1 (h2o _ _ (Or.inl (by decide))) (fun i => ⟨h2o _ _ (Or.inl (by decide)), h2o _ _ (Or.inl (by decide))⟩)
  · show ((clD T.stk T.cn 1 []).map (k4 T.e) ++ B).Perm (T.fl ++ (T.stk ++ T.br).map (k4 (tFin n T).e))
    rw [map_cg (e := T.e) (fun i _ => (he i).2.2.1), List.map_append]
    have p1 : ((clD T.stk T.cn 1 []).map (k4 T.e) ++ B).Perm (T.stk.map (k4 T.e) ++ (T.fl ++ T.br.map (k4 T.e))) := (List.Perm.append_right _ (hD.map _)).trans (List.Perm.append_left _ r7)
    refine p1.trans ?_
    rw [← List.append_assoc, ← List.append_assoc]
    exact List.Perm.append_right _ List.perm_append_comm
  · rw [List.length_append, List.length_map, hD.length_eq]
  · rw [e0, u2n (Or.inl (by decide)), u2s]
  · rw [e0, u2s]
end RS3
