/-! the reader of drafts (class): a reading is a state of its own; the parser as functions of it -/
abbrev PS : Type := Nat × Int32 × Int32 × Bool × Nat × (Nat → Int32) × (Nat → Int32)
def psM (pl : Nat) (fi la : Int32) (sk : Bool) (ns : Nat) (fo sn : Nat → Int32) : PS := (pl, fi, la, sk, ns, fo, sn)
def PS.pl (S : PS) : Nat := S.1
def PS.fi (S : PS) : Int32 := S.2.1
def PS.la (S : PS) : Int32 := S.2.2.1
def PS.sk (S : PS) : Bool := S.2.2.2.1
def PS.ns (S : PS) : Nat := S.2.2.2.2.1
def PS.fo (S : PS) : Nat → Int32 := S.2.2.2.2.2.1
def PS.sn (S : PS) : Nat → Int32 := S.2.2.2.2.2.2
/-- the numbers while a draft is read into model j -/
def mrI (iv : Nat → Nat → Int32) (j : Nat) (S : PS) : Nat → Nat → Int32 := fun a k =>
  if a = 11 + 3 * j then S.sn k else if a = 10 + 3 * j then S.fo k else if a = 9 + 3 * j ∧ k = 2 then nI S.ns
  else if a = 3 ∧ k = 2 then nI S.pl else if a = 3 ∧ k = 3 then S.fi else if a = 3 ∧ k = 4 then S.la else if a = 3 ∧ k = 5 then b2i S.sk else iv a k
section MRI
variable {iv : Nat → Nat → Int32} {j : Nat} {S : PS}
theorem mrI_pl : mrI iv j S 3 2 = nI S.pl := by
  unfold mrI
  rw [if_neg (by omega), if_neg (by omega), if_neg (by omega), if_pos ⟨rfl, rfl⟩]
theorem mrI_fi : mrI iv j S 3 3 = S.fi := by
  unfold mrI
  rw [if_neg (by omega), if_neg (by omega), if_neg (by omega), if_neg (by omega), if_pos ⟨rfl, rfl⟩]
theorem mrI_la : mrI iv j S 3 4 = S.la := by
  unfold mrI
  rw [if_neg (by omega), if_neg (by omega), if_neg (by omega), if_neg (by omega), if_neg (by omega), if_pos ⟨rfl, rfl⟩]
theorem mrI_sk : mrI iv j S 3 5 = b2i S.sk := by
  unfold mrI
  rw [if_neg (by omega), if_neg (by omega), if_neg (by omega), if_neg (by omega), if_neg (by omega), if_neg (by omega), if_pos ⟨rfl, rfl⟩]
theorem mrI_ns : mrI iv j S (9 + 3 * j) 2 = nI S.ns := by
  unfold mrI
  rw [if_neg (by omega), if_neg (by omega), if_pos ⟨rfl, rfl⟩]
theorem mrI_fo : mrI iv j S (10 + 3 * j) = S.fo := by
  funext k
  unfold mrI
  rw [if_neg (by omega), if_pos rfl]
theorem mrI_sn : mrI iv j S (11 + 3 * j) = S.sn := by
  funext k
  unfold mrI
  rw [if_pos rfl]
theorem mrI_o {a k : Nat} (h1 : a < 9) (h2 : a ≠ 3) : mrI iv j S a k = iv a k := by
  unfold mrI
  rw [if_neg (by omega), if_neg (by omega), if_neg (by omega), if_neg (by omega), if_neg (by omega), if_neg (by omega), if_neg (by omega)]
theorem mrW_pl (v : Nat) : ex_u2 (mrI iv j S) 3 2 (nI v) = mrI iv j (psM (v) S.fi S.la S.sk S.ns S.fo S.sn) := by
  funext a k
  show (if a = 3 ∧ k = 2 then nI v else (if a = 11 + 3 * j then S.sn k else if a = 10 + 3 * j then S.fo k else if a = 9 + 3 * j ∧ k = 2 then nI S.ns else if a = 3 ∧ k = 2 then nI S.pl else if a = 3 ∧ k = 3 then S.fi else if a = 3 ∧ k = 4 then S.la else if a = 3 ∧ k = 5 then b2i S.sk else iv a k)) = (if a = 11 + 3 * j then S.sn k else if a = 10 + 3 * j then S.fo k else if a = 9 + 3 * j ∧ k = 2 then nI S.ns else if a = 3 ∧ k = 2 then nI v else if a = 3 ∧ k = 3 then S.fi else if a = 3 ∧ k = 4 then S.la else if a = 3 ∧ k = 5 then b2i S.sk else iv a k)
  by_cases h : a = 3 ∧ k = 2
  · obtain ⟨rfl, rfl⟩ := h
    rw [if_pos ⟨rfl, rfl⟩, if_neg (by omega), if_neg (by omega), if_neg (by omega), if_pos ⟨rfl, rfl⟩]
  · simp only [if_neg h]
theorem mrW_fi (v : Int32) : ex_u2 (mrI iv j S) 3 3 v = mrI iv j (psM S.pl (v) S.la S.sk S.ns S.fo S.sn) := by
  funext a k
  show (if a = 3 ∧ k = 3 then v else (if a = 11 + 3 * j then S.sn k else if a = 10 + 3 * j then S.fo k else if a = 9 + 3 * j ∧ k = 2 then nI S.ns else if a = 3 ∧ k = 2 then nI S.pl else if a = 3 ∧ k = 3 then S.fi else if a = 3 ∧ k = 4 then S.la else if a = 3 ∧ k = 5 then b2i S.sk else iv a k)) = (if a = 11 + 3 * j then S.sn k else if a = 10 + 3 * j then S.fo k else if a = 9 + 3 * j ∧ k = 2 then nI S.ns else if a = 3 ∧ k = 2 then nI S.pl else if a = 3 ∧ k = 3 then v else if a = 3 ∧ k = 4 then S.la else if a = 3 ∧ k = 5 then b2i S.sk else iv a k)
  by_cases h : a = 3 ∧ k = 3
  · obtain ⟨rfl, rfl⟩ := h
    rw [if_pos ⟨rfl, rfl⟩, if_neg (by omega), if_neg (by omega), if_neg (by omega), if_neg (by omega), if_pos ⟨rfl, rfl⟩]
  · simp only [if_neg h]
theorem mrW_la (v : Int32) : ex_u2 (mrI iv j S) 3 4 v = mrI iv j (psM S.pl S.fi (v) S.sk S.ns S.fo S.sn) := by
  funext a k
  show (if a = 3 ∧ k = 4 then v else (if a = 11 + 3 * j then S.sn k else if a = 10 + 3 * j then S.fo k else if a = 9 + 3 * j ∧ k = 2 then nI S.ns else if a = 3 ∧ k = 2 then nI S.pl else if a = 3 ∧ k = 3 then S.fi else if a = 3 ∧ k = 4 then S.la else if a = 3 ∧ k = 5 then b2i S.sk else iv a k)) = (if a = 11 + 3 * j then S.sn k else if a = 10 + 3 * j then S.fo k else if a = 9 + 3 * j ∧ k = 2 then nI S.ns else if a = 3 ∧ k = 2 then nI S.pl else if a = 3 ∧ k = 3 then S.fi else if a = 3 ∧ k = 4 then v else if a = 3 ∧ k = 5 then b2i S.sk else iv a k)
  by_cases h : a = 3 ∧ k = 4
  · obtain ⟨rfl, rfl⟩ := h
    rw [if_pos ⟨rfl, rfl⟩, if_neg (by omega), if_neg (by omega), if_neg (by omega), if_neg (by omega), if_neg (by omega), if_pos ⟨rfl, rfl⟩]
  · simp only [if_neg h]
theorem mrW_sk (v : Bool) : ex_u2 (mrI iv j S) 3 5 (b2i v) = mrI iv j (psM S.pl S.fi S.la (v) S.ns S.fo S.sn) := by
  funext a k
  show (if a = 3 ∧ k = 5 then b2i v else (if a = 11 + 3 * j then S.sn k else if a = 10 + 3 * j then S.fo k else if a = 9 + 3 * j ∧ k = 2 then nI S.ns else if a = 3 ∧ k = 2 then nI S.pl else if a = 3 ∧ k = 3 then S.fi else if a = 3 ∧ k = 4 then S.la else if a = 3 ∧ k = 5 then b2i S.sk else iv a k)) = (if a = 11 + 3 * j then S.sn k else if a = 10 + 3 * j then S.fo k else if a = 9 + 3 * j ∧ k = 2 then nI S.ns else if a = 3 ∧ k = 2 then nI S.pl else if a = 3 ∧ k = 3 then S.fi else if a = 3 ∧ k = 4 then S.la else if a = 3 ∧ k = 5 then b2i v else iv a k)
  by_cases h : a = 3 ∧ k = 5
  · obtain ⟨rfl, rfl⟩ := h
    rw [if_pos ⟨rfl, rfl⟩, if_neg (by omega), if_neg (by omega), if_neg (by omega), if_neg (by omega), if_neg (by omega), if_neg (by omega), if_pos ⟨rfl, rfl⟩]
  · simp only [if_neg h]
theorem mrW_fo (f : Nat → Int32) : va_up (mrI iv j S) (10 + 3 * j) f = mrI iv j (psM S.pl S.fi S.la S.sk S.ns (f) S.sn) := by
  funext a k
  show (if a = 10 + 3 * j then f else (fun k => (if a = 11 + 3 * j then S.sn k else if a = 10 + 3 * j then S.fo k else if a = 9 + 3 * j ∧ k = 2 then nI S.ns else if a = 3 ∧ k = 2 then nI S.pl else if a = 3 ∧ k = 3 then S.fi else if a = 3 ∧ k = 4 then S.la else if a = 3 ∧ k = 5 then b2i S.sk else iv a k))) k = (if a = 11 + 3 * j then S.sn k else if a = 10 + 3 * j then f k else if a = 9 + 3 * j ∧ k = 2 then nI S.ns else if a = 3 ∧ k = 2 then nI S.pl else if a = 3 ∧ k = 3 then S.fi else if a = 3 ∧ k = 4 then S.la else if a = 3 ∧ k = 5 then b2i S.sk else iv a k)
  by_cases h : a = 10 + 3 * j
  · subst h
    rw [if_pos rfl, if_neg (by omega), if_pos rfl]
  · simp only [if_neg h]
theorem mrW_add (n q : Nat) (hn : S.ns = n) : moAdd (mrI iv j S) j n q = mrI iv j (psM S.pl S.fi S.la S.sk (n + 1) S.fo (va_up S.sn q (S.sn q ||| nI 1 <<< (nI n &&& 31)))) := by
  funext a k
  unfold moAdd
  rw [mrI_sn]
  unfold ex_u2 mrI va_up
  by_cases h : a = 11 + 3 * j
  · subst h
    simp only [true_and, if_true, if_neg (show ¬ (11 + 3 * j = 9 + 3 * j ∧ k = 2) by omega)]
    rfl
  · simp only [if_neg h, if_neg (show ¬ (a = 11 + 3 * j ∧ k = q) from fun z => h z.1)]
    by_cases h2 : a = 9 + 3 * j ∧ k = 2
    · simp only [if_pos h2, if_neg (show ¬ a = 10 + 3 * j by omega)]
      rfl
    · simp only [if_neg h2]
      rfl
end MRI
/-- the draft: n characters f, -1 behind -/
def dCh (f : Nat → Int32) (n p : Nat) : Int32 := if p < n then f p else -1
def psOk (n : Nat) (S : PS) : Prop := S.pl ≤ n ∧ S.ns ≤ 10
def pTk (d : Nat → Int32) (ch : Int32) (S : PS) : Option PS := if d S.pl = ch then some (psM (S.pl + 1) S.fi S.la S.sk S.ns S.fo S.sn) else none
def pJoin (x y : Int32) (S : PS) : PS := (psM S.pl S.fi S.la S.sk S.ns (jnF S.fo x y 11) S.sn)
def pMark (d : Nat → Int32) (S : PS) : PS :=
  if d S.pl = nI 63 then (psM (S.pl + 1) S.fi S.la (true) S.ns S.fo S.sn) else if d S.pl = nI 42 then (psM (S.pl + 1) S.fi S.la (true) S.ns (jnF S.fo S.la S.fi 11) S.sn)
  else if d S.pl = nI 43 then (psM (S.pl + 1) S.fi S.la S.sk S.ns (jnF S.fo S.la S.fi 11) S.sn) else S
def pNam (y : Int32) (S : PS) : PS := (psM (S.pl + 1) (nI 1 <<< (nI S.ns &&& 31)) (nI 1 <<< (nI S.ns &&& 31)) (false) (S.ns + 1) S.fo (va_up S.sn (y.toInt - 97).toNat (S.sn (y.toInt - 97).toNat ||| nI 1 <<< (nI S.ns &&& 31))))
def pName (d : Nat → Int32) (S : PS) : Option PS := if S.ns < 10 ∧ nmB (d S.pl) = true then some (pNam (d S.pl) S) else none
def pItem (d : Nat → Int32) (E : PS → Option PS) (S : PS) : Option PS :=
  match pTk d (nI 40) S with
  | some S1 => (E S1).bind fun S2 => (pTk d (nI 41) S2).bind fun S3 => some (pMark d S3)
  | none => (pName d S).bind fun S1 => some (pMark d S1)
def pSq (S S2 : PS) : PS := (psM S2.pl (if S.sk = true then S.fi ||| S2.fi else S.fi) (if S2.sk = true then S.la ||| S2.la else S2.la) (S2.sk && S.sk) S2.ns (jnF S2.fo S.la S2.fi 11) S2.sn)
def pSeqL (d : Nat → Int32) (I : PS → Option PS) : Nat → PS → Option PS
  | 0, S => some S
  | k + 1, S => match pTk d (nI 44) S with
    | none => some S
    | some S1 => (I S1).bind fun S2 => pSeqL d I k (pSq S S2)
def pSeq (d : Nat → Int32) (I : PS → Option PS) (S : PS) : Option PS := (I S).bind fun S1 => pSeqL d I 40 S1
def pEx (S S2 : PS) : PS := (psM S2.pl (S2.fi ||| S.fi) (S2.la ||| S.la) (S2.sk || S.sk) S2.ns S2.fo S2.sn)
def pExpL (d : Nat → Int32) (Q : PS → Option PS) : Nat → PS → Option PS
  | 0, S => some S
  | k + 1, S => match pTk d (nI 124) S with
    | none => some S
    | some S1 => (Q S1).bind fun S2 => pExpL d Q k (pEx S S2)
def pExpr (d : Nat → Int32) : Nat → PS → Option PS
  | 0, _ => none
  | k + 1, S => (pSeq d (pItem d (pExpr d k)) S).bind fun S1 => pExpL d (pSeq d (pItem d (pExpr d k))) 40 S1
/-- what a reading method leaves and answers -/
def mrP (iv : Nat → Nat → Int32) (j : Nat) (mp : Nat → Nat) (sp n : Nat) (o : Option PS) (r : Option Value) (h' : ex_H) : Prop := ∃ (S2 : PS) (b : Bool), h' = HP (mrI iv j S2) mp sp (9 + 3 * j) ∧ r = some (.int (b2i b)) ∧ psOk n S2 ∧ (b = true → o = some S2) ∧ (b = false → o = none)
theorem pTk_ok {f : Nat → Int32} {n : Nat} {ch : Int32} {S S2 : PS} (hc : ¬ ch = -1) (h : psOk n S) (e : pTk (dCh f n) ch S = some S2) : psOk n S2 ∧ S2 = (psM (S.pl + 1) S.fi S.la S.sk S.ns S.fo S.sn) := by
  unfold pTk at e
  by_cases hd : dCh f n S.pl = ch
  · rw [if_pos hd] at e
    cases e
    refine ⟨⟨?_, h.2⟩, rfl⟩
    unfold dCh at hd
    by_cases hl : S.pl < n
    · exact hl
    · rw [if_neg hl] at hd
      exact absurd hd.symm hc
  · rw [if_neg hd] at e
    cases e
theorem pMark_ok {f : Nat → Int32} {n : Nat} {S : PS} (h : psOk n S) : psOk n (pMark (dCh f n) S) := by
  have hx : ∀ ch : Int32, ¬ ch = -1 → dCh f n S.pl = ch → S.pl + 1 ≤ n := by
    intro ch hc hd
    unfold dCh at hd
    by_cases hl : S.pl < n
    · exact hl
    · rw [if_neg hl] at hd
      exact absurd hd.symm hc
  unfold pMark
  by_cases h1 : dCh f n S.pl = nI 63
  · rw [if_pos h1]
    exact ⟨hx _ (by decide) h1, h.2⟩
  · rw [if_neg h1]
    by_cases h2 : dCh f n S.pl = nI 42
    · rw [if_pos h2]
      exact ⟨hx _ (by decide) h2, h.2⟩
    · rw [if_neg h2]
      by_cases h3 : dCh f n S.pl = nI 43
      · rw [if_pos h3]
        exact ⟨hx _ (by decide) h3, h.2⟩
      · rw [if_neg h3]
        exact h
theorem dr_dCh {iv : Nat → Nat → Int32} {n j : Nat} {f : Nat → Int32} {S : PS} (hd : DrI iv n f) : DrI (mrI iv j S) n f := ⟨hd.1, by rw [mrI_o (by omega) (by omega)]; exact hd.2.1, fun k hk => by rw [mrI_o (by omega) (by omega)]; exact hd.2.2 k hk⟩
theorem dCh_v {f : Nat → Int32} {n p : Nat} (h : p ≤ 1000) : (if 0 ≤ (nI p).toInt ∧ (nI p).toInt < n then f (nI p).toInt.toNat else -1) = dCh f n p := by
  have e : (nI p).toInt = (p : Int) := nI_t (by omega)
  unfold dCh
  by_cases hp : p < n
  · rw [if_pos (by omega), if_pos hp, e]
    rfl
  · rw [if_neg (by omega), if_neg hp]
theorem nI_inj9 : ¬ nI 1 = nI 0 := by decide
theorem bit_ne : ∀ k, k < 10 → ¬ nI 1 <<< (nI k &&& 31) = 0 := by decide
set_option maxRecDepth 100000 in
set_option maxHeartbeats 4000000 in
theorem ct_Mr_takes (l : Launch) (G : ex_G) (iv : Nat → Nat → Int32) (mp : Nat → Nat) (sp j : Nat) (hj : j < 10) (n : Nat) (f : Nat → Int32) (hd : DrI iv n f) (S : PS) (hS : psOk n S) (ch : Int32) (hch : ¬ ch = -1) : CT l G 1 M_Mr_takes [.ref 3, .int ch] (HP (mrI iv j S) mp sp (9 + 3 * j)) 0 0 (fun r h' => mrP iv j mp sp n (pTk (dCh f n) ch S) r h' ∧ (r = some (.int (nI 0)) → h' = HP (mrI iv j S) mp sp (9 + 3 * j))) := by
  refine ex_enter (by decide) (Nat.le_of_ble_eq_true rfl) (fun v hv => by simp at hv; rcases hv with rfl | rfl <;> rfl) (fun p e s m args below meth c => ?_)
  have hn40 : n ≤ 40 := hd.1
  have hpl : S.pl ≤ 40 := Nat.le_trans hS.1 hd.1
  refine ex_aload_n (pc := 0) (i := 0) d_Mr_takes_0 rfl rfl ?_
  refine ex_getr (pc := 1) 8 0 d_Mr_takes_1 FL_Mr_18 (Nat.le_of_ble_eq_true rfl) rfl rfl ?_
  refine ex_aload_n (pc := 4) (i := 0) d_Mr_takes_4 rfl rfl ?_
  refine ex_getx (pc := 5) 8 2 (nI S.pl) d_Mr_takes_5 FL_Mr_25 (Nat.le_of_ble_eq_true rfl) rfl mrI_pl ?_
  refine ex_callV (pc := 8) (M' := M_Dr_at) (as := [.int (nI S.pl)]) (st := []) d_Mr_takes_8 MW_Dr_at MI_Dr_at LK_Mr_76 (Nat.le_of_ble_eq_true rfl) rfl rfl rfl (ct_Dr_at l G (mrI iv j S) mp sp (9 + 3 * j) n f (dr_dCh hd) (nI S.pl)) (ex_lt_rm (by decide)) ⟨Nat.le_refl _, Nat.le_refl _⟩ rfl rfl (Nat.le_of_ble_eq_true rfl) ?_
  rintro _ _ ⟨rfl, rfl⟩
  refine ex_top (dCh_v (by omega)) ?_
  refine ex_iload_n (pc := 11) (i := 1) d_Mr_takes_11 rfl rfl ?_
  refine ex_icmp_eq (pc := 12) (tgt := 17) d_Mr_takes_12 rfl (fun c12 => ?_) (fun c12 => ?_)
  · refine ex_aload_n (pc := 17) (i := 0) d_Mr_takes_17 rfl rfl ?_
    refine ex_dup (pc := 18) d_Mr_takes_18 rfl ?_
    refine ex_getx (pc := 19) 8 2 (nI S.pl) d_Mr_takes_19 FL_Mr_25 (Nat.le_of_ble_eq_true rfl) rfl mrI_pl ?_
    refine ex_iconst (pc := 22) (v := (nI 1)) d_Mr_takes_22 (by decide) ?_
    refine ex_iadd (pc := 23) d_Mr_takes_23 ?_
    refine ex_top (nI_s S.pl) ?_
    refine ex_puti (pc := 24) 8 2 .int d_Mr_takes_24 (PF_Mr_25 _) (Nat.le_of_ble_eq_true rfl) rfl rfl rfl ?_
    refine ex_heap (h' := HP (mrI iv j (psM (S.pl + 1) S.fi S.la S.sk S.ns S.fo S.sn)) mp sp (9 + 3 * j)) (congrArg (fun z => HP z mp sp (9 + 3 * j)) (mrW_pl (S.pl + 1))) ?_
    refine ex_iconst (pc := 27) (v := (nI 1)) d_Mr_takes_27 (by decide) ?_
    refine ex_iret (ty := .boolean) d_Mr_takes_28 rfl rfl rfl (Nat.le_refl _) ?_
    have e1 : pTk (dCh f n) ch S = some (psM (S.pl + 1) S.fi S.la S.sk S.ns S.fo S.sn) := if_pos c12
    exact ⟨⟨_, true, rfl, rfl, (pTk_ok hch hS e1).1, fun _ => e1, fun z => absurd z (by decide)⟩, fun z => absurd z (by simp [nI_inj9])⟩
  · refine ex_iconst (pc := 15) (v := (nI 0)) d_Mr_takes_15 (by decide) ?_
    refine ex_iret (ty := .boolean) d_Mr_takes_16 rfl rfl rfl (Nat.le_refl _) ?_
    exact ⟨⟨S, false, rfl, rfl, hS, fun z => absurd z (by decide), fun _ => if_neg c12⟩, fun _ => rfl⟩

set_option maxRecDepth 100000 in
set_option maxHeartbeats 4000000 in
theorem ct_Mr_readsName (l : Launch) (G : ex_G) (iv : Nat → Nat → Int32) (mp : Nat → Nat) (sp j : Nat) (hj : j < 10) (n : Nat) (f : Nat → Int32) (hd : DrI iv n f) (S : PS) (hS : psOk n S) : CT l G 2 M_Mr_readsName [.ref 3] (HP (mrI iv j S) mp sp (9 + 3 * j)) 0 0 (fun r h' => mrP iv j mp sp n (pName (dCh f n) S) r h') := by
  refine ex_enter (by decide) (Nat.le_of_ble_eq_true rfl) (fun v hv => by simp at hv; rcases hv with rfl <;> rfl) (fun p e s m args below meth c => ?_)
  have hn40 : n ≤ 40 := hd.1
  have hpl : S.pl ≤ 40 := Nat.le_trans hS.1 hd.1
  refine ex_aload_n (pc := 0) (i := 0) d_Mr_readsName_0 rfl rfl ?_
  refine ex_getr (pc := 1) 8 1 d_Mr_readsName_1 FL_Mr_12 (Nat.le_of_ble_eq_true rfl) rfl rfl ?_
  refine ex_aload_n (pc := 4) (i := 0) d_Mr_readsName_4 rfl rfl ?_
  refine ex_getr (pc := 5) 8 0 d_Mr_readsName_5 FL_Mr_18 (Nat.le_of_ble_eq_true rfl) rfl rfl ?_
  refine ex_aload_n (pc := 8) (i := 0) d_Mr_readsName_8 rfl rfl ?_
  refine ex_getx (pc := 9) 8 2 (nI S.pl) d_Mr_readsName_9 FL_Mr_25 (Nat.le_of_ble_eq_true rfl) rfl mrI_pl ?_
  refine ex_callV (pc := 12) (M' := M_Dr_at) (as := [.int (nI S.pl)]) (st := [.ref (9 + 3 * j)]) d_Mr_readsName_12 MW_Dr_at MI_Dr_at LK_Mr_76 (Nat.le_of_ble_eq_true rfl) rfl rfl rfl (ct_Dr_at l G (mrI iv j S) mp sp (9 + 3 * j) n f (dr_dCh hd) (nI S.pl)) (ex_lt_rm (by decide)) ⟨Nat.le_refl _, Nat.le_refl _⟩ rfl rfl (Nat.le_of_ble_eq_true rfl) ?_
  rintro _ _ ⟨rfl, rfl⟩
  refine ex_top (dCh_v (by omega)) ?_
  refine ex_callV (pc := 15) (M' := M_Mo_addState) (as := [.int (dCh f n S.pl)]) (st := []) d_Mr_readsName_15 MW_Mo_addState MI_Mo_addState LK_Mr_80 (mo_lt hj) (mo_sh hj) rfl rfl (ct_Mo_addState l G (mrI iv j S) mp sp (9 + 3 * j) j hj S.ns mrI_ns hS.2 (dCh f n S.pl)) (ex_lt_rm (by decide)) ⟨Nat.le_refl _, Nat.le_refl _⟩ rfl rfl (Nat.le_of_ble_eq_true rfl) ?_
  rintro _ _ ⟨rfl, rfl⟩
  by_cases hok : S.ns < 10 ∧ nmB (dCh f n S.pl) = true
  case neg =>
    rw [if_neg hok, if_neg hok]
    refine ex_istore_n (pc := 18) (i := 1) d_Mr_readsName_18 rfl (by decide) ?_
    refine ex_iload_n (pc := 19) (i := 1) d_Mr_readsName_19 rfl rfl ?_
    refine ex_if_ne (pc := 20) (tgt := 25) d_Mr_readsName_20 rfl (fun c20 => absurd rfl c20) (fun c20 => ?_)
    refine ex_iconst (pc := 23) (v := (nI 0)) d_Mr_readsName_23 (by decide) ?_
    refine ex_iret (ty := .boolean) d_Mr_readsName_24 rfl rfl rfl (Nat.le_refl _) ?_
    exact ⟨S, false, rfl, rfl, hS, fun z => absurd z (by decide), fun _ => if_neg hok⟩
  rw [if_pos hok, if_pos hok]
  have hlt : S.pl < n := by
    refine Classical.byContradiction (fun hl => ?_)
    have q1 := hok.2
    rw [dCh, if_neg hl] at q1
    exact absurd q1 (by decide)
  refine ex_heap (h' := HP (mrI iv j (psM S.pl S.fi S.la S.sk (S.ns + 1) S.fo (va_up S.sn ((dCh f n S.pl).toInt - 97).toNat (S.sn ((dCh f n S.pl).toInt - 97).toNat ||| nI 1 <<< (nI S.ns &&& 31))))) mp sp (9 + 3 * j)) (congrArg (fun z => HP z mp sp (9 + 3 * j)) (mrW_add S.ns _ rfl)) ?_
  refine ex_istore_n (pc := 18) (i := 1) d_Mr_readsName_18 rfl (by decide) ?_
  refine ex_iload_n (pc := 19) (i := 1) d_Mr_readsName_19 rfl rfl ?_
  refine ex_if_ne (pc := 20) (tgt := 25) d_Mr_readsName_20 rfl (fun c20 => ?_) (fun c20 => ?_)
  · refine ex_aload_n (pc := 25) (i := 0) d_Mr_readsName_25 rfl rfl ?_
    refine ex_dup (pc := 26) d_Mr_readsName_26 rfl ?_
    refine ex_getx (pc := 27) 8 2 (nI S.pl) d_Mr_readsName_27 FL_Mr_25 (Nat.le_of_ble_eq_true rfl) rfl mrI_pl ?_
    refine ex_iconst (pc := 30) (v := (nI 1)) d_Mr_readsName_30 (by decide) ?_
    refine ex_iadd (pc := 31) d_Mr_readsName_31 ?_
    refine ex_top (nI_s S.pl) ?_
    refine ex_puti (pc := 32) 8 2 .int d_Mr_readsName_32 (PF_Mr_25 _) (Nat.le_of_ble_eq_true rfl) rfl rfl rfl ?_
    refine ex_heap (congrArg (fun z => HP z mp sp (9 + 3 * j)) (mrW_pl (S.pl + 1))) ?_
    refine ex_aload_n (pc := 35) (i := 0) d_Mr_readsName_35 rfl rfl ?_
    refine ex_iload_n (pc := 36) (i := 1) d_Mr_readsName_36 rfl rfl ?_
    refine ex_puti (pc := 37) 8 3 .int d_Mr_readsName_37 (PF_Mr_50 _) (Nat.le_of_ble_eq_true rfl) rfl rfl rfl ?_
    refine ex_heap (congrArg (fun z => HP z mp sp (9 + 3 * j)) (mrW_fi _)) ?_
    refine ex_aload_n (pc := 40) (i := 0) d_Mr_readsName_40 rfl rfl ?_
    refine ex_iload_n (pc := 41) (i := 1) d_Mr_readsName_41 rfl rfl ?_
    refine ex_puti (pc := 42) 8 4 .int d_Mr_readsName_42 (PF_Mr_53 _) (Nat.le_of_ble_eq_true rfl) rfl rfl rfl ?_
    refine ex_heap (congrArg (fun z => HP z mp sp (9 + 3 * j)) (mrW_la _)) ?_
    refine ex_aload_n (pc := 45) (i := 0) d_Mr_readsName_45 rfl rfl ?_
    refine ex_iconst (pc := 46) (v := (nI 0)) d_Mr_readsName_46 (by decide) ?_
    refine ex_puti (pc := 47) 8 5 .boolean d_Mr_readsName_47 (PF_Mr_56 _) (Nat.le_of_ble_eq_true rfl) rfl rfl rfl ?_
    refine ex_heap (congrArg (fun z => HP z mp sp (9 + 3 * j)) (mrW_sk false)) ?_
    refine ex_iconst (pc := 50) (v := (nI 1)) d_Mr_readsName_50 (by decide) ?_
    refine ex_iret (ty := .boolean) d_Mr_readsName_51 rfl rfl rfl (Nat.le_refl _) ?_
    exact ⟨pNam (dCh f n S.pl) S, true, rfl, rfl, ⟨hlt, hok.1⟩, fun _ => if_pos hok, fun z => absurd z (by decide)⟩
  · exact absurd c20 (bit_ne S.ns hok.1)

