/-! how elements lie in the text -/
def tL (T : TS) : Prop := ∀ k, 0 < k → k ≤ T.cn → (T.e k).dp ≤ 8 ∧
  (0 < (T.e k).pr → (T.e (T.e k).pr).iF ≤ (T.e k).bg ∧ ((T.e k).pr ∉ T.stk → k ∉ T.stk ∧ (T.e k).bh ≤ (T.e (T.e k).pr).iT ∧ ¬ (T.e (T.e k).pr).ck = 2)) ∧
  (∀ s, 0 < s → s < k → (T.e s).pr = (T.e k).pr → s ∉ T.stk ∧ (T.e s).bh ≤ (T.e k).bg) ∧
  (k ∈ T.stk → (T.e k).iF = (T.e k).bg + 3) ∧
  (k ∉ T.stk → ((T.e k).ck = 2 → (T.e k).iF = (T.e k).bg + 4 ∧ (T.e k).iT = (T.e k).bg + 4 ∧ (T.e k).bh = (T.e k).bg + 4) ∧ ((T.e k).ck = 3 → (T.e k).iF = (T.e k).bg + 3 ∧ (T.e k).bh = (T.e k).iT + 4))
theorem tL_0 : tL ts0 := fun k h1 h2 => absurd h2 (by show ¬ k ≤ 0; omega)
theorem cur_mem {T : TS} (h : 0 < T.cur) : T.cur ∈ T.stk := by
  unfold TS.cur at h ⊢
  cases hs : T.stk with
  | nil => rw [hs] at h; exact absurd h (Nat.lt_irrefl _)
  | cons x l => exact List.mem_cons_self ..
theorem cur_max {T : TS} {p : Nat} (h : tI T p) : ∀ y, y ∈ T.stk → y ≤ T.cur := by
  intro y hy
  have hc := h.2.1.1
  unfold TS.cur
  cases hs : T.stk with
  | nil => rw [hs] at hy; exact absurd hy List.not_mem_nil
  | cons x l =>
    rw [hs] at hy hc
    show y ≤ x
    rcases List.mem_cons.mp hy with w | w
    · omega
    · have := hc.2.2.1 y w; omega
theorem tL_nw {T : TS} {p to : Nat} (h : tI T p) (hL : tL T) (hl : T.stk.length < 8) (E : EL) (hE : E.pr = T.cur ∧ E.dp = (T.e T.cur).dp + 1 ∧ E.bg = p ∧ E.iF = to) (stk' : List Nat) (tn : Nat) (tg : Nat → Nat × Nat × Int32) (fl br : List Nat)
    (hs : (stk' = (T.cn + 1) :: T.stk ∧ to = p + 3) ∨ (stk' = T.stk ∧ E.ck = 2 ∧ to = p + 4 ∧ E.iT = p + 4 ∧ E.bh = p + 4)) : tL (tsM (T.cn + 1) (va_up T.e (T.cn + 1) E) stk' tn tg fl br) := by
  have hcur := cur_le h
  have hold : ∀ i, i ≤ T.cn → va_up T.e (T.cn + 1) E i = T.e i := fun i hi => va_up_ne _ _ (by omega)
  have hncn : T.cn + 1 ∉ T.stk := fun z => by have := h.2.1.2.1 _ z; omega
  have hmem : ∀ i, i ≤ T.cn → (i ∈ stk' ↔ i ∈ T.stk) := by
    intro i hi
    rcases hs with z | z
    · rw [z.1, List.mem_cons]; exact ⟨fun w => w.resolve_left (by omega), Or.inr⟩
    · rw [z.1]
  intro k h1 h2
  have h2' : k ≤ T.cn + 1 := h2
  show (va_up T.e (T.cn + 1) E k).dp ≤ 8 ∧ (0 < (va_up T.e (T.cn + 1) E k).pr → (va_up T.e (T.cn + 1) E (va_up T.e (T.cn + 1) E k).pr).iF ≤ (va_up T.e (T.cn + 1) E k).bg ∧ ((va_up T.e (T.cn + 1) E k).pr ∉ stk' → k ∉ stk' ∧ (va_up T.e (T.cn + 1) E k).bh ≤ (va_up T.e (T.cn + 1) E (va_up T.e (T.cn + 1) E k).pr).iT ∧ ¬ (va_up T.e (T.cn + 1) E (va_up T.e (T.cn + 1) E k).pr).ck = 2)) ∧
    (∀ s, 0 < s → s < k → (va_up T.e (T.cn + 1) E s).pr = (va_up T.e (T.cn + 1) E k).pr → s ∉ stk' ∧ (va_up T.e (T.cn + 1) E s).bh ≤ (va_up T.e (T.cn + 1) E k).bg) ∧ (k ∈ stk' → (va_up T.e (T.cn + 1) E k).iF = (va_up T.e (T.cn + 1) E k).bg + 3) ∧
    (k ∉ stk' → ((va_up T.e (T.cn + 1) E k).ck = 2 → (va_up T.e (T.cn + 1) E k).iF = (va_up T.e (T.cn + 1) E k).bg + 4 ∧ (va_up T.e (T.cn + 1) E k).iT = (va_up T.e (T.cn + 1) E k).bg + 4 ∧ (va_up T.e (T.cn + 1) E k).bh = (va_up T.e (T.cn + 1) E k).bg + 4) ∧ ((va_up T.e (T.cn + 1) E k).ck = 3 → (va_up T.e (T.cn + 1) E k).iF = (va_up T.e (T.cn + 1) E k).bg + 3 ∧ (va_up T.e (T.cn + 1) E k).bh = (va_up T.e (T.cn + 1) E k).iT + 4))
  by_cases ek : k = T.cn + 1
  · subst ek
    rw [va_up_self, hE.1, hE.2.1, hE.2.2.1, hE.2.2.2, hold T.cur hcur, cur_dp h]
    refine ⟨by omega, fun h0 => ⟨(h.2.2.2.1 T.cur h0 hcur).2.2.2.2.1, fun z => absurd ((hmem T.cur hcur).mpr (cur_mem h0)) z⟩, fun s s1 s2 s3 => ?_, fun z => ?_, fun z => ?_⟩
    · rw [hold s (by omega)] at s3 ⊢
      have hns : s ∉ T.stk := fun w => by
        have a1 := cur_max h s w
        have a2 := (h.2.2.2.1 s s1 (by omega)).2.1
        omega
      exact ⟨fun w => hns ((hmem s (by omega)).mp w), (h.2.2.2.2.2.1 s s1 (by omega) hns).2.1⟩
    · rcases hs with w | w
      · exact w.2
      · rw [w.1] at z; exact absurd z hncn
    · rcases hs with w | w
      · rw [w.1] at z; exact absurd (List.mem_cons_self ..) z
      · refine ⟨fun _ => ⟨w.2.2.1, w.2.2.2.1, w.2.2.2.2⟩, fun v => ?_⟩
        have := w.2.1
        omega
  · have hk : k ≤ T.cn := by omega
    have hpk := (h.2.2.2.1 k h1 hk).2.1
    rw [hold k hk, hold (T.e k).pr (by omega), hmem k hk, hmem (T.e k).pr (by omega)]
    obtain ⟨a1, a2, a3, a4, a5⟩ := hL k h1 hk
    refine ⟨a1, a2, fun s s1 s2 s3 => ?_, a4, a5⟩
    rw [hold s (by omega)] at s3 ⊢
    rw [hmem s (by omega)]
    exact a3 s s1 s2 s3
/-- closing keeps it -/
theorem tL_cl {T : TS} {p : Nat} (h : tI T p) (hL : tL T) (e' : Nat → EL) (rest : List Nat) (tn : Nat) (tg : Nat → Nat × Nat × Int32) (fl br : List Nat) (hr : ∀ y, y ∈ rest → y ∈ T.stk) (hup : ∀ y c, y ∈ T.stk → c ∈ T.stk → c ∉ rest → (T.e y).pr = c → y ∉ rest ∧ ((e' y).ck = 0 ∧ (e' y).bh = p))
    (hsame : ∀ i, 0 < i → (e' i).pr = (T.e i).pr ∧ (e' i).dp = (T.e i).dp ∧ (e' i).bg = (T.e i).bg ∧ (e' i).iF = (T.e i).iF)
    (hno : ∀ i, 0 < i → i ∉ T.stk → (e' i).ck = (T.e i).ck ∧ (e' i).iT = (T.e i).iT ∧ (e' i).bh = (T.e i).bh) (hst : ∀ i, i ∈ T.stk → i ∉ rest → (e' i).iT = p ∧ ((e' i).ck = 0 ∨ ((e' i).ck = 3 ∧ (e' i).bh = (e' i).iT + 4))) : tL (tsM T.cn e' rest tn tg fl br) := by
  intro k h1 h2
  have hk : k ≤ T.cn := h2
  show (e' k).dp ≤ 8 ∧ (0 < (e' k).pr → (e' (e' k).pr).iF ≤ (e' k).bg ∧ ((e' k).pr ∉ rest → k ∉ rest ∧ (e' k).bh ≤ (e' (e' k).pr).iT ∧ ¬ (e' (e' k).pr).ck = 2)) ∧ (∀ s, 0 < s → s < k → (e' s).pr = (e' k).pr → s ∉ rest ∧ (e' s).bh ≤ (e' k).bg) ∧ (k ∈ rest → (e' k).iF = (e' k).bg + 3) ∧ (k ∉ rest → ((e' k).ck = 2 → (e' k).iF = (e' k).bg + 4 ∧ (e' k).iT = (e' k).bg + 4 ∧ (e' k).bh = (e' k).bg + 4) ∧ ((e' k).ck = 3 → (e' k).iF = (e' k).bg + 3 ∧ (e' k).bh = (e' k).iT + 4))
  obtain ⟨a1, a2, a3, a4, a5⟩ := hL k h1 hk
  obtain ⟨s1, s2, s3, s4⟩ := hsame k h1
  rw [s1, s2, s3, s4]
  refine ⟨a1, fun h0 => ?_, fun s q1 q2 q3 => ?_, fun z => a4 (hr k z), fun z => ?_⟩
  · rw [(hsame (T.e k).pr h0).2.2.2]
    refine ⟨(a2 h0).1, fun hc => ?_⟩
    by_cases hcs : (T.e k).pr ∈ T.stk
    · obtain ⟨t1, t2⟩ := hst (T.e k).pr hcs hc
      have t3 : ¬ (e' (T.e k).pr).ck = 2 := by omega
      rw [t1]
      by_cases hks : k ∈ T.stk
      · obtain ⟨u1, u2, u3⟩ := hup k (T.e k).pr hks hcs hc rfl
        exact ⟨u1, by omega, t3⟩
      · rw [(hno k h1 hks).2.2]
        exact ⟨fun w => hks (hr k w), (h.2.2.2.2.2.1 k h1 hk hks).2.1, t3⟩
    · obtain ⟨b1, b2, b3⟩ := (a2 h0).2 hcs
      obtain ⟨n1, n2, n3⟩ := hno (T.e k).pr h0 hcs
      rw [n1, n2, (hno k h1 b1).2.2]
      exact ⟨fun w => b1 (hr k w), b2, b3⟩
  · rw [(hsame s q1).1] at q3
    obtain ⟨b1, b2⟩ := a3 s q1 q2 q3
    rw [(hno s q1 b1).2.2]
    exact ⟨fun w => b1 (hr s w), b2⟩
  · by_cases hks : k ∈ T.stk
    · obtain ⟨t1, t2⟩ := hst k hks z
      refine ⟨fun w => by omega, fun w => ⟨a4 hks, ?_⟩⟩
      rcases t2 with t2 | t2
      · omega
      · exact t2.2
    · obtain ⟨n1, n2, n3⟩ := hno k h1 hks
      rw [n1, n2, n3]
      exact a5 hks
theorem tL_en {T : TS} {p x : Nat} {up rest : List Nat} (h : tI T p) (hL : tL T) (hs : T.stk = up ++ x :: rest) : tL (tEn T p up x rest) := by
  have hc := h.2.1.1
  rw [hs] at hc
  obtain ⟨c1, c2, c3⟩ := chn_app up hc
  obtain ⟨c4, c5⟩ := chn_sub c1
  have hmem : ∀ i, i ∈ T.stk ↔ i ∈ up ∨ i = x ∨ i ∈ rest := by intro i; rw [hs, List.mem_append, List.mem_cons]
  have hxu : x ∉ up := fun z => Nat.lt_irrefl _ (c2 x z)
  refine tL_cl h hL (fun i => if i ∈ up then elC (T.e i) 0 p p 0 else if i = x then elC (T.e i) 3 p (p + 4) T.tn else T.e i) rest _ _ _ _ (fun y hy => (hmem y).mpr (Or.inr (Or.inr hy))) (fun y c hy hcs hcr hyc => ?_) (fun i _ => ?_) (fun i hi hn => ?_) (fun i hi hn => ?_)
  · have hy0 := h.2.1.2.1 y hy
    have hypos := chn_pos _ h.2.1.1 y hy
    have hlt := (h.2.2.2.1 y hypos hy0).2.1
    have hcx : x ≤ c := by
      rcases (hmem c).mp hcs with w | w | w
      · have := c2 c w; omega
      · omega
      · exact absurd w hcr
    have hyu : y ∈ up := by
      rcases (hmem y).mp hy with w | w | w
      · exact w
      · omega
      · have := c5 y w; omega
    refine ⟨fun w => by have := c5 y w; omega, ?_⟩
    rw [if_pos hyu]
    exact ⟨rfl, rfl⟩
  · split
    · exact ⟨rfl, rfl, rfl, rfl⟩
    · split <;> exact ⟨rfl, rfl, rfl, rfl⟩
  · rw [if_neg (fun w => hn ((hmem i).mpr (Or.inl w))), if_neg (fun w => hn ((hmem i).mpr (Or.inr (Or.inl w))))]
    exact ⟨rfl, rfl, rfl⟩
  · by_cases hu : i ∈ up
    · rw [if_pos hu]; exact ⟨rfl, Or.inl rfl⟩
    · have hix : i = x := by
        rcases (hmem i).mp hi with w | w | w
        · exact absurd w hu
        · exact w
        · exact absurd w hn
      rw [if_neg hu, if_pos hix]
      exact ⟨rfl, Or.inr ⟨rfl, rfl⟩⟩
theorem tL_sp {a : Nat → Int32} {T : TS} {p : Nat} (h : tI T p) (hL : tL T) : tL (tSp a T p) := by
  unfold tSp
  by_cases k1 : tKd a p = 1
  · rw [if_pos k1]
    split
    · rename_i hl
      exact tL_nw h hL hl (elN a T p (p + 3)) ⟨rfl, rfl, rfl, rfl⟩ _ _ _ _ _ (Or.inl ⟨rfl, rfl⟩)
    · exact fun k h1 h2 => hL k h1 h2
  · rw [if_neg k1]
    by_cases k2 : tKd a p = 2
    · rw [if_pos k2]
      split
      · rename_i hl
        exact tL_nw h hL hl (elC (elN a T p (p + 4)) 2 (p + 4) (p + 4) 0) ⟨rfl, rfl, rfl, rfl⟩ _ _ _ _ _ (Or.inr ⟨rfl, rfl, rfl, rfl, rfl⟩)
      · exact fun k h1 h2 => hL k h1 h2
    · rw [if_neg k2]
      by_cases k3 : tKd a p = 3
      · rw [if_pos k3]
        split
        · exact fun k h1 h2 => hL k h1 h2
        · rename_i h0
          exact tL_en h hL ((spl_x T.e (a (p + 2)) T.stk (chn_pos _ h.2.1.1)).1 h0).1
      · rw [if_neg k3]
        have he : ∀ i, ((tCh a T p).e i).pr = (T.e i).pr ∧ ((tCh a T p).e i).dp = (T.e i).dp ∧ ((tCh a T p).e i).bg = (T.e i).bg ∧ ((tCh a T p).e i).iF = (T.e i).iF ∧ ((tCh a T p).e i).iT = (T.e i).iT ∧ ((tCh a T p).e i).bh = (T.e i).bh ∧ ((tCh a T p).e i).ck = (T.e i).ck := by
          intro i
          have e1 : (tCh a T p).e i = if ¬ a p = nI 32 ∧ (T.e T.cur).ik = -1 then va_up T.e T.cur (elK (T.e T.cur) p) i else T.e i := by
            show (if ¬ a p = nI 32 ∧ (T.e T.cur).ik = -1 then va_up T.e T.cur (elK (T.e T.cur) p) else T.e) i = _
            split <;> rfl
          rw [e1]
          split
          · by_cases hy : i = T.cur
            · rw [hy, va_up_self]; exact ⟨rfl, rfl, rfl, rfl, rfl, rfl, rfl⟩
            · rw [va_up_ne _ _ hy]; exact ⟨rfl, rfl, rfl, rfl, rfl, rfl, rfl⟩
          · exact ⟨rfl, rfl, rfl, rfl, rfl, rfl, rfl⟩
        intro k h1 h2
        obtain ⟨a1, a2, a3, a4, a5⟩ := hL k h1 h2
        obtain ⟨s1, s2, s3, s4, s5, s6, s7⟩ := he k
        obtain ⟨r1, r2, r3, r4, r5, r6, r7⟩ := he (T.e k).pr
        rw [s1, s2, s3, s4, s5, s6, s7, r4, r5, r7]
        refine ⟨a1, a2, fun s q1 q2 q3 => ?_, a4, a5⟩
        rw [(he s).1] at q3
        rw [(he s).2.2.2.2.2.1]
        exact a3 s q1 q2 q3
/-- at the text's end -/
theorem tI_fin {T : TS} {n : Nat} (h : tI T n) : tI (tFin n T) n := by
  have hpos := chn_pos _ h.2.1.1
  have h0 : 0 ∉ T.stk := fun z => Nat.lt_irrefl _ (hpos 0 z)
  refine tI_cl h (Nat.le_refl _) (fun i => if i ∈ T.stk then elC (T.e i) 0 n n 0 else if i = 0 then elC (T.e i) 0 n n 0 else T.e i) T.stk [] T.tn T.tg (Nat.le_refl _) h.1.2.1 True.intro (fun y hy => absurd hy List.not_mem_nil) (Nat.zero_le _) (chn_nodup _ h.2.1.1) (fun y hy => ⟨hy, List.not_mem_nil⟩) (fun i => ?_) (fun i q1 q2 => ⟨fun hu => ?_, fun z1 z2 z3 => absurd z1 z3, fun z => ?_⟩)
  · split
    · exact ⟨rfl, rfl, rfl, rfl, rfl, rfl⟩
    · split <;> exact ⟨rfl, rfl, rfl, rfl, rfl, rfl⟩
  · rw [if_pos hu]; exact ⟨rfl, rfl, rfl⟩
  · rw [if_neg z, if_neg (by omega)]; exact ⟨rfl, rfl, rfl⟩
theorem tL_fin {T : TS} {n : Nat} (h : tI T n) (hL : tL T) : tL (tFin n T) := by
  refine tL_cl h hL (fun i => if i ∈ T.stk then elC (T.e i) 0 n n 0 else if i = 0 then elC (T.e i) 0 n n 0 else T.e i) [] _ _ _ _ (fun y hy => absurd hy List.not_mem_nil) (fun y c hy _ _ _ => ⟨List.not_mem_nil, ?_⟩) (fun i hi => ?_) (fun i hi hn => ?_) (fun i hi _ => ?_)
  · rw [if_pos hy]; exact ⟨rfl, rfl⟩
  · split
    · exact ⟨rfl, rfl, rfl, rfl⟩
    · split <;> exact ⟨rfl, rfl, rfl, rfl⟩
  · rw [if_neg hn, if_neg (by omega)]; exact ⟨rfl, rfl, rfl⟩
  · rw [if_pos hi]; exact ⟨rfl, Or.inl rfl⟩
theorem tK_fin {T : TS} {n : Nat} (h : tI T n) (hK : tK T) : tK (tFin n T) := by
  refine tK_sm h hK rfl (fun y => ?_) ?_
  · show EL.pr (if y ∈ T.stk then elC (T.e y) 0 n n 0 else if y = 0 then elC (T.e y) 0 n n 0 else T.e y) = _
    split
    · rfl
    · split <;> rfl
  · have hO : ∀ m y, y ≤ m → y ≤ T.cn → anc T.e 0 y := by
      intro m
      induction m with
      | zero => intro y h1 _; rw [show y = 0 by omega]; exact anc_r 0
      | succ m ih =>
        intro y h1 h2
        by_cases h0 : y = 0
        · rw [h0]; exact anc_r 0
        · have := (h.2.2.2.1 y (by omega) h2).2.1
          exact anc_s (ih (T.e y).pr (by omega) (by omega))
    exact hO T.cn T.cn (Nat.le_refl _) (Nat.le_refl _)
theorem tO_fin {a : Nat → Int32} {T : TS} {n : Nat} (hO : tO a T) : tO a (tFin n T) := by
  refine ⟨hO.1, fun i h1 h2 => ?_⟩
  obtain ⟨b1, b2, b3, b4, b5⟩ := hO.2 i h1 h2
  have he : (tFin n T).e i = if i ∈ T.stk then elC (T.e i) 0 n n 0 else if i = 0 then elC (T.e i) 0 n n 0 else T.e i := rfl
  by_cases hs : i ∈ T.stk
  · rw [if_pos hs] at he
    have hck : ¬ ((tFin n T).e i).ck = 3 := by rw [he]; show ¬ 0 = 3; omega
    refine ⟨fun t ht => ?_, by rw [he]; exact b2, by rw [he]; exact b3, by rw [he]; exact b4, fun _ z => absurd z hck⟩
    refine (b1 t ht).trans ?_
    have hsi : ((tFin n T).e i).si = (T.e i).si := by rw [he]; rfl
    rw [hsi]
    constructor
    · rintro (z | ⟨z, _⟩)
      · exact Or.inl z
      · exact absurd hs z
    · rintro (z | ⟨_, z, _⟩)
      · exact Or.inl z
      · exact absurd z hck
  · rw [if_neg hs, if_neg (by omega)] at he
    rw [he]
    refine ⟨fun t ht => ?_, b2, b3, b4, fun _ z => b5 hs z⟩
    refine (b1 t ht).trans ?_
    exact ⟨fun z => z.imp id (fun w => ⟨List.not_mem_nil, w.2⟩), fun z => z.imp id (fun w => ⟨hs, w.2⟩)⟩
/-- all that is known of a tree that was read to p -/
def tX (a : Nat → Int32) (T : TS) (p : Nat) : Prop := tI T p ∧ tJ T p ∧ tK T ∧ tO a T ∧ tL T
theorem tX_0 {a : Nat → Int32} : tX a ts0 0 := ⟨tI_0, fun _ ht => absurd ht (Nat.not_lt_zero _), tK_0, tO_0, tL_0⟩
theorem tX_sp {a : Nat → Int32} {T : TS} {p : Nat} (h : tX a T p) (hp : p ≤ 100) : tX a (tSp a T p) (tTo a p) := ⟨tI_sp h.1, tJ_sp h.2.1, tK_sp h.1 h.2.2.1, tO_sp h.1 hp h.2.2.2.1, tL_sp h.1 h.2.2.2.2⟩
theorem tX_fin {a : Nat → Int32} {T : TS} {n : Nat} (h : tX a T n) : tX a (tFin n T) n := ⟨tI_fin h.1, h.2.1, tK_fin h.1 h.2.2.1, tO_fin h.2.2.2.1, tL_fin h.1 h.2.2.2.2⟩
theorem tX_rn {a : Nat → Int32} {n : Nat} (hn : n ≤ 100) (ha : ∀ k, n ≤ k → a k = -1) : ∀ (k p : Nat) (T : TS), p ≤ n → n ≤ p + k → tX a T p → tX a (tRn a n k p T) n := by
  intro k
  induction k with
  | zero =>
    intro p T h1 h2 h
    rw [tRn, show n = p by omega]
    exact h
  | succ k ih =>
    intro p T h1 h2 h
    rw [tRn]
    by_cases hp : p < n
    · rw [if_pos hp]
      have := tTo_gt a p
      exact ih _ _ (tTo_le ha hp) (by omega) (tX_sp h (by omega))
    · rw [if_neg hp, show n = p by omega]
      exact h
theorem tX_all {a : Nat → Int32} {n : Nat} (hn : n ≤ 100) (ha : ∀ k, n ≤ k → a k = -1) : tX a (tAll a n) n ∧ (tAll a n).stk = [] := ⟨tX_fin (tX_rn hn ha n 0 ts0 (Nat.zero_le _) (by omega) tX_0), rfl⟩
