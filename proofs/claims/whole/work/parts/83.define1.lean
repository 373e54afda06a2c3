/-! defining: both sides read the draft alike -/
theorem cnt_ccn {Q : Int32 → Bool} {d : Nat → Int32} {P : Nat → Bool} : ∀ k i acc, (∀ q, i ≤ q → q < i + k → P q = Q (d q)) → cntF P k i acc = acc + ccn Q d k i := by
  intro k
  induction k with
  | zero => intro i acc _; rfl
  | succ k ih =>
    intro i acc h
    rw [cntF, ccn, ih (i + 1) _ (fun q h1 h2 => h q (by omega) (by omega)), h i (Nat.le_refl _) (by omega)]
    by_cases hq : Q (d i) = true
    · rw [if_pos hq, if_pos hq]; omega
    · rw [if_neg hq, if_neg hq]; omega
def tooD (d : Nat → Int32) (n : Nat) : Bool := decide (10 < ccn nmB d n 0) || decide (6 < ccn isP d n 0)
theorem dCh_lt {f : Nat → Int32} {n q : Nat} (h : q < n) : dCh f n q = f q := if_pos h
theorem too_C {iv : Nat → Nat → Int32} {n : Nat} {f : Nat → Int32} (hd : DrI iv n f) : tooB iv n = tooD (dCh f n) n := by
  unfold tooB tooD
  rw [cnt_ccn (Q := nmB) (d := dCh f n) n 0 0 (fun q _ hq => by rw [dCh_lt (by omega), hd.2.2 q (by omega)]), cnt_ccn (Q := isP) (d := dCh f n) n 0 0 (fun q _ hq => ?_), Nat.zero_add, Nat.zero_add]
  rw [dCh_lt (by omega), hd.2.2 q (by omega)]
  unfold isP
  by_cases h : f q = nI 40
  · rw [h]; rfl
  · rw [decide_eq_false h, Bool.and_false]
theorem too_R {iv : Nat → Nat → Int32} {n : Nat} {f : Nat → Int32} (hd : DrR iv n f) : tooR iv n = tooD (dCh f n) n := by
  unfold tooR tooD cnR
  rw [cnt_ccn (Q := nmB) (d := dCh f n) n 0 0 (fun q _ hq => by rw [dCh_lt (by omega), ← hd.2.2 q (by omega)]; rfl), cnt_ccn (Q := isP) (d := dCh f n) n 0 0 (fun q _ hq => by rw [dCh_lt (by omega), ← hd.2.2 q (by omega)]; rfl), Nat.zero_add, Nat.zero_add]
theorem frO_le {f : Nat → Int32} {n : Nat} : frO (dCh f n) ≤ n := by
  unfold frO
  by_cases h : dCh f n 0 = nI 35
  · rw [if_pos h]
    refine Nat.pos_of_ne_zero (fun z => ?_)
    unfold dCh at h
    rw [if_neg (by omega)] at h
    exact absurd h (by decide)
  · rw [if_neg h]; omega
theorem cc_fr {Q : Int32 → Bool} {f : Nat → Int32} {n : Nat} : cc Q (dCh f n) n (frO (dCh f n)) ≤ ccn Q (dCh f n) n 0 := by
  have hle := frO_le (f := f) (n := n)
  unfold cc
  have h01 : frO (dCh f n) = 0 ∨ frO (dCh f n) = 1 := by
    unfold frO
    split
    · exact Or.inr rfl
    · exact Or.inl rfl
  rcases h01 with h | h
  · rw [h]; exact Nat.le_refl _
  · rw [h] at hle ⊢
    have e : ccn Q (dCh f n) n 0 = ccn Q (dCh f n) ((n - 1) + 1) 0 := by rw [show n - 1 + 1 = n by omega]
    rw [e, ccn]
    exact Nat.le_add_left _ _
theorem prs_all {iv : Nat → Nat → Int32} {n j : Nat} {f : Nat → Int32} {sk : Bool} (hn : n ≤ 40) (ht : tooD (dCh f n) n = false) (hfr : frO (dCh f n) ≠ n) :
    (scP (dCh f n) n (frO (dCh f n)) 0 false false = true ↔ ∃ S', pExpr (dCh f n) 7 (rdS0 iv j sk (frO (dCh f n))) = some S' ∧ S'.pl = n) ∧
    ∀ S', pExpr (dCh f n) 7 (rdS0 iv j sk (frO (dCh f n))) = some S' → S'.pl = n → S'.ns ≤ 10 ∧ bls S' ∧ bl S'.ns S'.fi ∧ bl S'.ns S'.la ∧ ∀ R : RS, R.lv = 0 → R.n = 0 → (∀ q, q < 10 → R.fo q = nI 0) → R.P 0 = pt0 → R.P 1 = pt0 →
      ∃ R', rdP (dCh f n) n (frO (dCh f n)) R = some R' ∧ R'.lv = 0 ∧ chQ (R'.P 0) (R'.P 1) = (true, S'.fi, S'.la, S'.sk) ∧ rSim S' R' := by
  unfold tooD at ht
  rw [Bool.or_eq_false_iff, decide_eq_false_iff_not, decide_eq_false_iff_not] at ht
  have h1 := cc_fr (Q := nmB) (f := f) (n := n)
  have h2 := cc_fr (Q := isP) (f := f) (n := n)
  have h3 := frO_le (f := f) (n := n)
  exact parse_all (d := dCh f n) (n := n) (fun p hp => if_neg (by omega)) hn (frO (dCh f n)) (by omega) (Nat.le_trans h1 (by omega)) (Nat.le_trans h2 (by omega)) _ rfl rfl (fun q hq => if_pos (by omega)) (fun q hq => if_pos hq)
theorem re_ex {n : Nat} {f : Nat → Int32} (hn : n ≤ 40) (iv1 : Nat → Nat → Int32) : ∃ RE, tooD (dCh f n) n = false → frO (dCh f n) ≠ n → scP (dCh f n) n (frO (dCh f n)) 0 false false = true → rdP (dCh f n) n (frO (dCh f n)) (rx0 iv1) = some RE := by
  by_cases h : tooD (dCh f n) n = false ∧ frO (dCh f n) ≠ n ∧ scP (dCh f n) n (frO (dCh f n)) 0 false false = true
  · obtain ⟨h1, h2, h3⟩ := h
    obtain ⟨p1, p2⟩ := prs_all (iv := iv1) (j := 0) (sk := true) hn h1 h2
    obtain ⟨S, s1, s2⟩ := p1.mp h3
    obtain ⟨_, _, _, _, k⟩ := p2 S s1 s2
    obtain ⟨R, r1, _⟩ := k (rx0 iv1) rfl rfl (fun _ _ => rfl) rfl rfl
    exact ⟨R, fun _ _ _ => r1⟩
  · exact ⟨rx0 iv1, fun z1 z2 z3 => absurd ⟨z1, z2, z3⟩ h⟩
theorem cls_fr4 {iv iv1 : Nat → Nat → Int32} {mp : Nat → Nat} {T : TS} (hcn : T.cn ≤ 33) (hmo : ∀ k, k < 9 → iv1 (9 + 3 * mp k) = iv (9 + 3 * mp k) ∧ iv1 (10 + 3 * mp k) = iv (10 + 3 * mp k) ∧ iv1 (11 + 3 * mp k) = iv (11 + 3 * mp k)) (hg : ∀ q j, (q = 41 ∨ (43 ≤ q ∧ q ≤ 81)) → iv1 q j = iv q j) (h : ClsT iv mp T) : ClsT iv1 mp T := by
  obtain ⟨h1, h2, h3, h4, h5⟩ := h
  have sc : ∀ (k9 nu : Nat) (_ : k9 < 9) (fr to : Int32) k i acc, i + k ≤ 34 → stcF iv1 (mp k9) nu fr to k i acc = stcF iv (mp k9) nu fr to k i acc := by
    intro k9 nu hj fr to k
    induction k with
    | zero => intros; rfl
    | succ k ih =>
      intro i acc hi
      rw [stcF, stcF, ih _ _ (by omega), hg _ 1 (by omega), hg _ 3 (by omega), hg _ 0 (by omega)]
      unfold stpF folF
      rw [(hmo k9 hj).2.1, (hmo k9 hj).2.2]
  have e1 : gA (fun i => jq (prB iv1 mp) (fbB iv1 mp) (alwF iv1 mp T.cn) T.e i ++ j4 T.e i) (T.cn + 1) 0 T.fl = gA (fun i => jq (prB iv mp) (fbB iv mp) (alwF iv mp T.cn) T.e i ++ j4 T.e i) (T.cn + 1) 0 T.fl := by
    refine gA_cg _ _ _ (fun i _ hi => ?_)
    have m0 : iv1 (46 + i) 0 = iv (46 + i) 0 := hg _ 0 (by omega)
    have hk : rowN (iv (46 + i) 0) < 9 := rowN_lt _
    have m2 : prB iv1 mp i = prB iv mp i := by unfold prB elMo; rw [m0, (hmo _ hk).1]
    have m3 : fbB iv1 mp i = fbB iv mp i := by unfold fbB fbF elMo; rw [m0, (hmo _ hk).1]
    have m4 : alwF iv1 mp T.cn i = alwF iv mp T.cn i := by
      unfold alwF accF elMo
      rw [m0, sc _ _ hk _ _ _ _ _ (by omega), (hmo _ hk).1]
    unfold jq
    rw [m2, m3, m4]
  refine ⟨(hg _ _ (by omega)).trans h1, (hg _ _ (by omega)).trans h2, fun t ht => ?_, fun i hi => ⟨?_, ?_⟩, ?_⟩
  · have := h3 t ht
    unfold tgR at this ⊢
    rw [hg _ _ (by omega), hg _ _ (by omega), hg _ _ (by omega)]
    exact this
  · have := (h4 i hi).1
    unfold elR at this ⊢
    rw [hg _ 0 (by omega), hg _ 1 (by omega), hg _ 2 (by omega), hg _ 3 (by omega), hg _ 4 (by omega), hg _ 7 (by omega), hg _ 9 (by omega)]
    exact this
  · have := (h4 i hi).2
    unfold elD at this ⊢
    rw [hg _ 5 (by omega), hg _ 6 (by omega), hg _ 8 (by omega)]
    exact this
  · rw [e1]
    exact faC_cg h5 (hg _ _ (by omega)) (fun i => hg _ _ (by omega))
theorem frc_cg {iv iv1 : Nat → Nat → Int32} {mp : Nat → Nat} (hmp : ∀ k, k < 9 → mp k < 10) (hg : ∀ q, 9 ≤ q → q ≤ 38 → iv1 q = iv q) : frcF iv1 mp = frcF iv mp := by
  have e2 : ∀ k i ns, i + k ≤ 8 → frcM iv1 mp k i ns = frcM iv mp k i ns := by
    intro k
    induction k with
    | zero => intros; rfl
    | succ k ih =>
      intro i ns hi
      have := hmp i (by omega)
      rw [frcM, frcM, ih _ _ (by omega)]
      unfold accF sprF folF usbF
      rw [hg (9 + 3 * mp i) (by omega) (by omega), hg (10 + 3 * mp i) (by omega) (by omega), hg (11 + 3 * mp i) (by omega) (by omega)]
  unfold frcF
  rw [spr_itr, spr_itr]
  exact itr_cg (fun x => e2 _ _ _ (by omega)) _ _
theorem nmR_cg {m : Nat} {sn nm nm2 : Nat → Int32} (h : ∀ k, k < m → nm2 k = nm k) (hn : nmR m sn nm) : nmR m sn nm2 := by
  refine ⟨fun q hq k hk => ?_, fun k hk => by rw [h k hk]; exact hn.2 k hk⟩
  rw [hn.1 q hq k hk]
  exact decide_eq_decide.mpr ⟨fun z => ⟨z.1, (h k z.1).trans z.2⟩, fun z => ⟨z.1, (h k z.1).symm.trans z.2⟩⟩
theorem mr_cg2 {iv iv1 : Nat → Nat → Int32} {j mm n : Nat} {pr : Bool} (h9 : iv1 (9 + 3 * j) = iv (9 + 3 * j)) (h10 : iv1 (10 + 3 * j) = iv (10 + 3 * j)) (h11 : iv1 (11 + 3 * j) = iv (11 + 3 * j)) (hc : ∀ q, 94 ≤ q → q ≤ 99 → iv1 q mm = iv q mm) (hd : ∀ q, q < 10 → iv1 100 (10 * mm + q) = iv 100 (10 * mm + q) ∧ iv1 101 (10 * mm + q) = iv 101 (10 * mm + q)) (h : MRel iv j mm n pr) : MRel iv1 j mm n pr := by
  obtain ⟨a1, a2, a3, a4, a5, a6⟩ := h
  refine ⟨a1, (hc 99 (by omega) (by omega)).trans a2, by rw [h9]; exact a3, (hc 94 (by omega) (by omega)).trans a4, fun z => by rw [h9]; exact a5 z, fun z => ?_⟩
  obtain ⟨b1, b2, b3, b4, b5, b6, b7, b8⟩ := a6 z
  rw [h9, h10, h11, hc 95 (by omega) (by omega), hc 96 (by omega) (by omega), hc 97 (by omega) (by omega), hc 98 (by omega) (by omega)]
  refine ⟨b1, b2, b3, b4, b5, fun q hq => ?_, fun q hq => ?_, nmR_cg (fun k hk => (hd k (by omega)).1) b8⟩
  · rw [(hd q hq).2]; exact b6 q hq
  · rw [(hd q (by omega)).2]; exact b7 q hq
theorem tk_o {X : Nat → Nat → Int32} {q0 q k : Nat} {mix : Bool} (h : q < 94 ∨ 101 < q) : tkD X q0 mix q k = X q k := by
  unfold tkD cpN
  rw [if_neg (by omega)]
  unfold tkd
  rw [u2n (by omega), u2n (by omega), u2n (by omega), u2n (by omega), u2n (by omega), u2n (by omega)]
theorem tk_no {X : Nat → Nat → Int32} {q0 q k : Nat} {mix : Bool} (hq : q ≤ 99) (hk : k ≠ q0) : tkD X q0 mix q k = X q k := by
  unfold tkD cpN
  rw [if_neg (by omega)]
  unfold tkd
  rw [u2n (by omega), u2n (by omega), u2n (by omega), u2n (by omega), u2n (by omega), u2n (by omega)]
theorem tk_hi {X : Nat → Nat → Int32} {q0 q k : Nat} {mix : Bool} (hq : q = 100 ∨ q = 101) : tkD X q0 mix q k = if 10 * q0 ≤ k ∧ k < 10 * q0 + 10 then X q (90 + (k - 10 * q0)) else X q k := by
  have e : ∀ j, tkd X q0 mix q j = X q j := fun j => by
    unfold tkd
    rw [u2n (by omega), u2n (by omega), u2n (by omega), u2n (by omega), u2n (by omega), u2n (by omega)]
  unfold tkD cpN
  rw [e, e]
  by_cases h : 10 * q0 ≤ k ∧ k < 10 * q0 + 10
  · rw [if_pos ⟨hq, h⟩, if_pos h]
  · rw [if_neg (fun z => h z.2), if_neg h]
theorem tk_at {X : Nat → Nat → Int32} {q0 : Nat} {mix : Bool} (hq : q0 < 9) : tkD X q0 mix 94 q0 = nI 1 ∧ tkD X q0 mix 95 q0 = b2i mix ∧ tkD X q0 mix 96 q0 = X 96 9 ∧ tkD X q0 mix 97 q0 = X 97 9 ∧ tkD X q0 mix 98 q0 = X 98 9 ∧ tkD X q0 mix 99 q0 = X 99 9 := by
  have e : ∀ q k, q ≤ 99 → tkD X q0 mix q k = tkd X q0 mix q k := fun q k hq => by
    unfold tkD cpN
    rw [if_neg (by omega)]
  refine ⟨?_, ?_, ?_, ?_, ?_, ?_⟩
  · rw [e _ _ (by omega)]; unfold tkd; rw [u2n (by omega), u2n (by omega), u2n (by omega), u2n (by omega), u2n (by omega), u2s]
  · rw [e _ _ (by omega)]; unfold tkd; rw [u2n (by omega), u2n (by omega), u2n (by omega), u2n (by omega), u2s]
  · rw [e _ _ (by omega)]; unfold tkd; rw [u2n (by omega), u2n (by omega), u2n (by omega), u2s]
  · rw [e _ _ (by omega)]; unfold tkd; rw [u2n (by omega), u2n (by omega), u2s]
  · rw [e _ _ (by omega)]; unfold tkd; rw [u2n (by omega), u2s]
  · rw [e _ _ (by omega)]; unfold tkd; rw [u2s]
/-- the models behind a definition -/
theorem mr_new {iv X Z : Nat → Nat → Int32} {mp mn : Nat → Nat} {pr : Nat → Bool} {sp q0 nn : Nat} {fi la : Int32} {sk mix : Bool} (hM : ∀ k, k < 9 → MRel iv (mp k) k (mn k) (pr k)) (hsp : ∀ k, k < 9 → mp k ≠ sp) (hq0 : q0 < 9)
    (hX : ∀ q j, 94 ≤ q → q ≤ 99 → j < 9 → X q j = iv q j) (hX2 : ∀ q j, (q = 100 ∨ q = 101) → j < 90 → X q j = iv q j)
    (x6 : X 96 9 = fi) (x7 : X 97 9 = la) (x8 : X 98 9 = b2i sk) (x9 : X 99 9 = nI nn)
    (hZ : ∀ q j, 94 ≤ q → q ≤ 101 → Z q j = tkD X q0 mix q j) (hZm : ∀ q j, 9 ≤ q → q ≤ 38 → q ≠ 9 + 3 * sp → q ≠ 10 + 3 * sp → q ≠ 11 + 3 * sp → Z q j = iv q j) (hmp : ∀ k, k < 9 → mp k < 10)
    (z1 : Z (9 + 3 * sp) 0 = nI 1) (z2 : Z (9 + 3 * sp) 1 = b2i mix) (z3 : Z (10 + 3 * sp) 10 = fi) (z4 : Z (9 + 3 * sp) 5 = if b2i sk = 0 then la else la ||| nI 1024)
    (hnn : nn ≤ 10) (b1 : bl nn fi) (b2 : bl nn la) (b3 : ∀ q, q < 10 → Z (10 + 3 * sp) q = if q < nn then X 101 (90 + q) else nI 0) (b4 : ∀ q, q < nn → bl nn (X 101 (90 + q))) (b5 : nmR nn (Z (11 + 3 * sp)) (fun k => X 100 (90 + k))) :
    ∀ k, k < 9 → MRel Z (va_up mp q0 sp k) k (va_up mn q0 nn k) (va_up pr q0 true k) := by
  intro k hk
  by_cases e : k = q0
  · subst e
    rw [va_up_self, va_up_self, va_up_self]
    obtain ⟨t1, t2, t3, t4, t5, t6⟩ := tk_at (X := X) (mix := mix) hk
    have zz : ∀ q, q < 10 → Z 101 (10 * k + q) = X 101 (90 + q) := fun q hq => by
      rw [hZ _ _ (by omega) (by omega), tk_hi (Or.inr rfl), if_pos (by omega), show 10 * k + q - 10 * k = q by omega]
    have zy : ∀ q, q < 10 → Z 100 (10 * k + q) = X 100 (90 + q) := fun q hq => by
      rw [hZ _ _ (by omega) (by omega), tk_hi (Or.inl rfl), if_pos (by omega), show 10 * k + q - 10 * k = q by omega]
    refine ⟨hnn, ?_, z1, ?_, fun z => (by cases z), fun _ => ⟨?_, ?_, ?_, ?_, ?_, fun q hq => ?_, fun q hq => ?_, nmR_cg (fun i hi => zy i (by omega)) b5⟩⟩
    · rw [hZ _ _ (by omega) (by omega), t6, x9]
    · rw [hZ _ _ (by omega) (by omega), t1]; rfl
    · rw [z2, hZ _ _ (by omega) (by omega), t2]
    · rw [z3, hZ _ _ (by omega) (by omega), t3, x6]
    · rw [z4, hZ _ _ (by omega) (by omega), hZ _ _ (by omega) (by omega), t4, t5, x7, x8]
    · rw [hZ _ _ (by omega) (by omega), t3, x6]; exact b1
    · rw [hZ _ _ (by omega) (by omega), t4, x7]; exact b2
    · rw [b3 q hq]
      by_cases h : q < nn
      · rw [if_pos h, if_pos h, zz q hq]
      · rw [if_neg h, if_neg h]
    · rw [zz q (by omega)]; exact b4 q hq
  · rw [va_up_ne _ _ e, va_up_ne _ _ e, va_up_ne _ _ e]
    have h1 := hmp k hk
    have h2 := hsp k hk
    refine mr_cg2 (funext (fun i => hZm _ i (by omega) (by omega) (by omega) (by omega) (by omega))) (funext (fun i => hZm _ i (by omega) (by omega) (by omega) (by omega) (by omega))) (funext (fun i => hZm _ i (by omega) (by omega) (by omega) (by omega) (by omega))) (fun q h3 h4 => ?_) (fun q hq => ⟨?_, ?_⟩) (hM k hk)
    · rw [hZ _ _ (by omega) (by omega), tk_no h4 e]; exact hX q k h3 h4 hk
    · rw [hZ _ _ (by omega) (by omega), tk_hi (Or.inl rfl), if_neg (by omega)]; exact hX2 _ _ (Or.inl rfl) (by omega)
    · rw [hZ _ _ (by omega) (by omega), tk_hi (Or.inr rfl), if_neg (by omega)]; exact hX2 _ _ (Or.inr rfl) (by omega)
