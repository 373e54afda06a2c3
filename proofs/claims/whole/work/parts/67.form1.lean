/-! the form (class) -/
def sl (f : Nat → Int32) : Nat → Nat → List Int32
  | 0, _ => []
  | c + 1, i => f i :: sl f c (i + 1)
def txL (f : Nat → Int32) (x y : Nat) : List Int32 := sl f (y - x) x
theorem sl_len (f : Nat → Int32) : ∀ c i, (sl f c i).length = c := by
  intro c
  induction c with
  | zero => intro i; rfl
  | succ c ih => intro i; rw [sl, List.length_cons, ih]
theorem txL_len (f : Nat → Int32) (x y : Nat) : (txL f x y).length = y - x := sl_len f _ _
theorem sl_cg {f g : Nat → Int32} : ∀ c i, (∀ k, i ≤ k → k < i + c → f k = g k) → sl f c i = sl g c i := by
  intro c
  induction c with
  | zero => intros; rfl
  | succ c ih =>
    intro i h
    rw [sl, sl, h i (Nat.le_refl _) (by omega), ih (i + 1) (fun k h1 h2 => h k (by omega) (by omega))]
theorem sl_rep (v : Int32) : ∀ c i, sl (fun _ => v) c i = List.replicate c v := by
  intro c
  induction c with
  | zero => intro i; rfl
  | succ c ih => intro i; rw [sl, ih]; rfl
/-- the cells o k (a length) and b (a row) hold the list s9; the rest is iv's -/
def FmQ (o k b : Nat) (iv iv1 : Nat → Nat → Int32) (s9 : List Int32) : Prop := iv1 o k = nI s9.length ∧ (∀ i, i < s9.length → iv1 b i = s9.getD i 0) ∧ ∀ q j, q ≠ b → (q ≠ o ∨ j ≠ k) → iv1 q j = iv q j
section FMQ
variable {o k b : Nat} {iv iv1 : Nat → Nat → Int32} {s9 : List Int32}
theorem fm_one (hob : o ≠ b) (h : FmQ o k b iv iv1 s9) (v : Int32) : FmQ o k b iv (apH iv1 o k b s9.length v) (s9 ++ [v]) := by
  unfold apH
  refine ⟨?_, fun i hi => ?_, fun q j h1 h2 => ?_⟩
  · rw [u2s, List.length_append]; rfl
  · rw [u2n (Or.inl (Ne.symm hob))]
    rw [List.length_append, List.length_singleton] at hi
    by_cases e1 : i = s9.length
    · rw [e1, u2s, List.getD_eq_getElem?_getD, List.getElem?_append_right (Nat.le_refl _), Nat.sub_self]
      rfl
    · rw [u2n (Or.inr e1), h.2.1 i (by omega), List.getD_eq_getElem?_getD, List.getD_eq_getElem?_getD, List.getElem?_append_left (by omega)]
  · rw [u2n h2, u2n (Or.inl h1)]
    exact h.2.2 q j h1 h2
theorem fm_cpy (hob : o ≠ b) (f : Nat → Int32) : ∀ c i (iv1 : Nat → Nat → Int32) (s9 : List Int32), FmQ o k b iv iv1 s9 → FmQ o k b iv (cpyF o k b f c i s9.length iv1) (s9 ++ sl f c i) := by
  intro c
  induction c with
  | zero => intro i iv1 s9 h; rw [cpyF, sl, List.append_nil]; exact h
  | succ c ih =>
    intro i iv1 s9 h
    rw [cpyF, sl]
    have h1 := ih (i + 1) _ _ (fm_one hob h (f i))
    rw [List.length_append, List.length_singleton, List.append_assoc] at h1
    exact h1
theorem fm_lin (hob : o ≠ b) (h : FmQ o k b iv iv1 s9) (d : Nat) : FmQ o k b iv (linF o k b d s9.length iv1) (s9 ++ lnL d) := by
  unfold linF
  have h1 := fm_cpy hob (fun _ => nI 32) d 0 _ _ (fm_one hob h (nI 10))
  rw [List.length_append, List.length_singleton, sl_rep, List.append_assoc] at h1
  exact h1
end FMQ
section FML
variable {f : Nat → EL} {cn : Nat} {lo : Nat → Bool} {g : Nat → Int32} {n : Nat}
/-- how long the form can be: four characters for each of the text's -/
def fLk (f : Nat → EL) (cn n : Nat) (lo : Nat → Bool) : Prop := (∀ i, 0 < i → i ≤ cn → (f i).bh ≤ n ∧ (f i).bg + 4 ≤ (f i).bh ∧ (lo i = true → (f i).iF = (f i).bg + 3 ∧ (f i).bh = (f i).iT + 4 ∧ (f i).iF ≤ (f i).iT)) ∧
  (∀ k, 0 < k → k ≤ cn → ((f k).pr = 0 → (f k).bh ≤ n) ∧ (0 < (f k).pr → lo (f k).pr = true → (f (f k).pr).iF ≤ (f k).bg ∧ (f k).bh ≤ (f (f k).pr).iT) ∧ ∀ s, 0 < s → s < k → (f s).pr = (f k).pr → (f s).bh ≤ (f k).bg)
theorem cS_len (h : fOk f cn) {F : Nat → List Int32} (hk : fLk f cn n lo) {u hi9 : Nat} (hd : (f u).dp ≤ 8) (hF : ∀ q, u < q → q ≤ cn → (f q).pr = u → (F q).length + 9 ≤ 4 * ((f q).bh - (f q).bg)) (hhi : ∀ q, u < q → q ≤ cn → (f q).pr = u → (f q).bh ≤ hi9) :
    ∀ k q lw, u < q → q + k = cn + 1 → (∀ y, q ≤ y → y ≤ cn → (f y).pr = u → lw ≤ (f y).bg) → lw ≤ hi9 → (cS f F u k q).length ≤ 4 * (hi9 - lw) := by
  intro k
  induction k with
  | zero => intro q lw _ _ _ _; exact Nat.zero_le _
  | succ k ih =>
    intro q lw hq hqk hy hlw
    rw [cS]
    by_cases hp : (f q).pr = u
    · rw [if_pos hp]
      have h1 := hF q hq (by omega) hp
      have h2 := hhi q hq (by omega) hp
      have h3 := hy q (Nat.le_refl _) (by omega) hp
      have h4 := (hk.1 q (by omega) (by omega)).2.1
      have h5 := ih (q + 1) (f q).bh (by omega) (by omega) (fun y y1 y2 y3 => (hk.2 y (by omega) y2).2.2 q (by omega) (by omega) (hp.trans y3.symm)) h2
      rw [List.length_append, List.length_append]
      unfold lnL
      rw [List.length_cons, List.length_replicate]
      omega
    · rw [if_neg hp]
      exact ih (q + 1) lw (by omega) (by omega) (fun y y1 y2 y3 => hy y (by omega) y2 y3) hlw
theorem cF_len (h : fOk f cn) (hk : fLk f cn n lo) : ∀ m i, 0 < i → i ≤ cn → m = 9 - (f i).dp → (cF f cn lo (txL g) m i).length + 9 ≤ 4 * ((f i).bh - (f i).bg) := by
  intro m
  induction m with
  | zero =>
    intro i h0 hi hm
    have := (h.2.2.1 i h0 hi).2.2
    omega
  | succ m ih =>
    intro i h0 hi hm
    obtain ⟨k1, k2, k3⟩ := hk.1 i h0 hi
    have hdp := (h.2.2.1 i h0 hi).2.2
    rw [cF]
    by_cases hl : lo i = true
    · obtain ⟨l1, l2, l3⟩ := k3 hl
      rw [if_pos hl]
      have hs := cS_len h (F := cF f cn lo (txL g) m) hk (u := i) (hi9 := (f i).iT) hdp (fun q q1 q2 q3 => ih q (by omega) q2 (by have := (h.2.2.1 q (by omega) q2).2.1; rw [q3] at this; omega)) (fun q q1 q2 q3 => Nat.le_trans ((hk.2 q (by omega) q2).2.1 (by omega) (by rw [q3]; exact hl)).2 (by rw [q3]; exact Nat.le_refl _)) (cn - i) (i + 1) (f i).iF (by omega) (by omega) (fun y y1 y2 y3 => by have := ((hk.2 y (by omega) y2).2.1 (by omega) (by rw [y3]; exact hl)).1; rw [y3] at this; exact this) l3
      rw [List.length_append, List.length_append, List.length_append, txL_len, txL_len]
      unfold lnL
      rw [List.length_cons, List.length_replicate]
      omega
    · rw [if_neg hl, txL_len]
      omega
theorem form_len (h : fOk f cn) (hk : fLk f cn n lo) (h1 : 1 ≤ cn) (hn : n ≤ 100) : (cFF f cn lo (txL g) 1 ++ cSS f cn lo (txL g) 0 2).length ≤ 400 := by
  have hp1 : (f 1).pr = 0 := by have := (h.2.2.1 1 (by omega) h1).1; omega
  obtain ⟨k1, k2, k3⟩ := hk.1 1 (by omega) h1
  have e1 := cF_len (g := g) h hk (9 - (f 1).dp) 1 (by omega) h1 rfl
  have e2 := cS_len h (F := cFF f cn lo (txL g)) hk (u := 0) (hi9 := n) (by rw [h.2.1]; omega) (fun q q1 q2 q3 => cF_len h hk (9 - (f q).dp) q q1 q2 rfl) (fun q q1 q2 q3 => (hk.1 q q1 q2).1) (cn + 1 - 2) 2 (f 1).bh (by omega) (by omega) (fun y y1 y2 y3 => (hk.2 y (by omega) y2).2.2 1 (by omega) (by omega) (hp1.trans y3.symm)) k1
  have e3 : (cFF f cn lo (txL g) 1).length + 9 ≤ 4 * ((f 1).bh - (f 1).bg) := e1
  have e4 : (cSS f cn lo (txL g) 0 2).length ≤ 4 * (n - (f 1).bh) := e2
  rw [List.length_append]
  omega
end FML
set_option maxRecDepth 100000 in
set_option maxHeartbeats 4000000 in
theorem lp_Fo_addForm {p : Program} {e : Env} {s : State} {m : MethodId} {args : Array Value} {below : List Frame} {meth : Method} {c : Code} (l : Launch) (G : ex_G) (iv : Nat → Nat → Int32) (mp : Nat → Nat) (sp mo : Nat) (hmp : ∀ k, k < 9 → mp k < 10) (a : Nat → Int32) (n : Nat) (hA : TxA iv a n) (hTC : txC iv n) (T : TS) (hC : ClsT iv mp T) (hX : tX a T n) (hs : T.stk = []) (hO : fOk T.e T.cn) (i : Nat) (h0 : 0 < i) (hi : i ≤ T.cn) (dep m9 : Nat) (hdep : (T.e i).dp = dep) (hd8 : dep ≤ 8) (hrec : ∀ (q : Nat) (iv1 : Nat → Nat → Int32) (s9 : List Int32), i < q → q ≤ T.cn → (T.e q).pr = i → FmQ 82 4 83 iv iv1 s9 → s9.length + (cF T.e T.cn (looF iv mp) (txL a) m9 q).length ≤ 694 → CT l G (m9 + 3) M_Fo_addForm [.ref 82, .int (nI q), .int (nI (dep + 1))] (HP iv1 mp sp mo) 0 0 (fun r h' => ∃ iv2, h' = HP iv2 mp sp mo ∧ r = none ∧ FmQ 82 4 83 iv iv2 (s9 ++ (cF T.e T.cn (looF iv mp) (txL a) m9 q)))) (PP : Option Value → ex_H → Prop) (Z : List Int32) (hK : ∀ (iv2 : Nat → Nat → Int32) (u : Option Value), FmQ 82 4 83 iv iv2 Z → EXM M_Fo_addForm l G (m9 + 4) PP p e s m args below meth c 106 [some (.ref 82), some (.int (nI i)), some (.int (nI dep)), some (.ref (46 + i)), u] [] (HP iv2 mp sp mo)) : ∀ (k q : Nat) (iv1 : Nat → Nat → Int32) (s9 : List Int32), i < q → q + k = T.cn + 1 → FmQ 82 4 83 iv iv1 s9 → s9.length + (cS T.e (cF T.e T.cn (looF iv mp) (txL a) m9) i k q).length ≤ 694 → s9 ++ (cS T.e (cF T.e T.cn (looF iv mp) (txL a) m9) i k q) = Z → EXM M_Fo_addForm l G (m9 + 4) (fun r h' => PP r h') p e s m args below meth c 57 [some (.ref 82), some (.int (nI i)), some (.int (nI dep)), some (.ref (46 + i)), some (.int (nI q))] [] (HP iv1 mp sp mo) := by
  intro k
  induction k with
  | zero =>
    intro q iv1 s9 hiq hqk hq hlen hv
    have hn := hA.1
    have hcn : T.cn ≤ 33 := by have := hX.1.1; omega
    have hfr : ∀ q j, q ≠ 83 → (q ≠ 82 ∨ j ≠ 4) → iv1 q j = iv q j := hq.2.2
    have hs1 : iv1 39 1 = nI n := (hfr _ _ (by decide) (Or.inl (by decide))).trans hA.2.1
    have ht1 : txC iv1 n := fun k hk => by rw [hfr 40 k (by decide) (Or.inl (by decide))]; exact hTC k hk
    have ha1 : ∀ x9 y9, y9 ≤ n → sl (iv1 40) (y9 - x9) x9 = txL a x9 y9 := fun x9 y9 hy => sl_cg _ _ (fun k k1 k2 => (hfr 40 k (by decide) (Or.inl (by decide))).trans (hA.2.2.1 k (by omega)))
    have hct : iv1 41 2 = nI T.cn := (hfr _ _ (by decide) (Or.inl (by decide))).trans hC.1
    rw [cS, List.append_nil] at hv
    subst hv
    refine ex_iload (pc := 57) d_Fo_addForm_57 rfl ?_
    refine ex_aload_n (pc := 59) (i := 0) d_Fo_addForm_59 rfl rfl ?_
    refine ex_getr (pc := 60) 5 1 d_Fo_addForm_60 FL_Fo_19 (Nat.le_of_ble_eq_true rfl) rfl rfl ?_
    refine ex_getx (pc := 63) 11 2 (nI T.cn) d_Fo_addForm_63 FL_Fo_50 (Nat.le_of_ble_eq_true rfl) rfl hct ?_
    refine ex_icmp_gt (pc := 66) (tgt := 106) d_Fo_addForm_66 rfl (fun c66 => ?_) (fun c66 => ?_)
    · exact hK iv1 _ hq
    · exact absurd ((n_lt (by omega) (by omega)).mpr (by omega)) c66
  | succ k ih =>
    intro q iv1 s9 hiq hqk hq hlen hv
    have hn := hA.1
    have hcn : T.cn ≤ 33 := by have := hX.1.1; omega
    have hfr : ∀ q j, q ≠ 83 → (q ≠ 82 ∨ j ≠ 4) → iv1 q j = iv q j := hq.2.2
    have hs1 : iv1 39 1 = nI n := (hfr _ _ (by decide) (Or.inl (by decide))).trans hA.2.1
    have ht1 : txC iv1 n := fun k hk => by rw [hfr 40 k (by decide) (Or.inl (by decide))]; exact hTC k hk
    have ha1 : ∀ x9 y9, y9 ≤ n → sl (iv1 40) (y9 - x9) x9 = txL a x9 y9 := fun x9 y9 hy => sl_cg _ _ (fun k k1 k2 => (hfr 40 k (by decide) (Or.inl (by decide))).trans (hA.2.2.1 k (by omega)))
    have hct : iv1 41 2 = nI T.cn := (hfr _ _ (by decide) (Or.inl (by decide))).trans hC.1
    have hpq : iv1 (46 + q) 1 = nI (T.e q).pr := by
      have := (hC.2.2.2.1 q (by omega)).1.2.1
      rw [if_neg (by omega)] at this
      exact (hfr _ _ (by omega) (Or.inl (by omega))).trans this
    have hpl := (hX.1.2.2.2.1 q (by omega) (by omega)).2.1
    rw [cS] at hlen hv
    refine ex_iload (pc := 57) d_Fo_addForm_57 rfl ?_
    refine ex_aload_n (pc := 59) (i := 0) d_Fo_addForm_59 rfl rfl ?_
    refine ex_getr (pc := 60) 5 1 d_Fo_addForm_60 FL_Fo_19 (Nat.le_of_ble_eq_true rfl) rfl rfl ?_
    refine ex_getx (pc := 63) 11 2 (nI T.cn) d_Fo_addForm_63 FL_Fo_50 (Nat.le_of_ble_eq_true rfl) rfl hct ?_
    refine ex_icmp_gt (pc := 66) (tgt := 106) d_Fo_addForm_66 rfl (fun c66 => ?_) (fun c66 => ?_)
    · exact absurd ((n_lt (by omega) (by omega)).mp c66) (by omega)
    · refine ex_aload_n (pc := 69) (i := 0) d_Fo_addForm_69 rfl rfl ?_
      refine ex_getr (pc := 70) 5 1 d_Fo_addForm_70 FL_Fo_19 (Nat.le_of_ble_eq_true rfl) rfl rfl ?_
      refine ex_getr (pc := 73) 11 1 d_Fo_addForm_73 FL_Fo_31 (Nat.le_of_ble_eq_true rfl) rfl rfl ?_
      refine ex_iload (pc := 76) d_Fo_addForm_76 rfl ?_
      refine ex_aald (pc := 78) q d_Fo_addForm_78 (Nat.le_of_ble_eq_true rfl) rfl rfl rfl (nI_t (by omega)) (show q < 34 by omega) (el_rf (mp := mp) (sp := sp) (mo := mo) (show q < 34 by omega)) ?_
      refine ex_getx (pc := 79) 3 1 (nI (T.e q).pr) d_Fo_addForm_79 FL_Fo_53 (el_lt (show q < 34 by omega)) (el_sh (show q < 34 by omega)) hpq ?_
      refine ex_iload_n (pc := 82) (i := 1) d_Fo_addForm_82 rfl rfl ?_
      refine ex_icmp_ne (pc := 83) (tgt := 100) d_Fo_addForm_83 rfl (fun c83 => ?_) (fun c83 => ?_)
      · refine ex_iinc (pc := 100) (v := (nI (q + 1))) d_Fo_addForm_100 rfl (nI_1 q) (by decide) ?_
        refine ex_goto (pc := 103) (tgt := 57) d_Fo_addForm_103 rfl ?_
        have hpi : ¬ (T.e q).pr = i := fun z => c83 (by rw [z])
        rw [if_neg hpi] at hlen hv
        exact ih (q + 1) iv1 s9 (by omega) (by omega) hq hlen hv
      · have hpi : (T.e q).pr = i := (n_eq (by omega) (by omega)).mp c83
        rw [if_pos hpi] at hlen hv
        simp only [List.length_append, lnL, List.length_cons, List.length_replicate] at hlen
        refine ex_aload_n (pc := 86) (i := 0) d_Fo_addForm_86 rfl rfl ?_
        refine ex_iload_n (pc := 87) (i := 2) d_Fo_addForm_87 rfl rfl ?_
        refine ex_callV (pc := 88) (M' := M_Fo_startLine) (as := [.int (nI dep)]) (st := []) d_Fo_addForm_88 MW_Fo_startLine MI_Fo_startLine LK_Fo_58 (Nat.le_of_ble_eq_true rfl) rfl rfl rfl (ct_Fo_startLine l G iv1 mp sp mo dep s9.length (by omega) hq.1 (by omega)) (ex_lt_rm (by omega)) ⟨Nat.le_refl _, Nat.le_refl _⟩ rfl rfl (Nat.le_of_ble_eq_true rfl) ?_
        rintro _ _ ⟨rfl, rfl⟩
        have hq2 := fm_lin (by decide) hq dep
        refine ex_aload_n (pc := 91) (i := 0) d_Fo_addForm_91 rfl rfl ?_
        refine ex_iload (pc := 92) d_Fo_addForm_92 rfl ?_
        refine ex_iload_n (pc := 94) (i := 2) d_Fo_addForm_94 rfl rfl ?_
        refine ex_iconst (pc := 95) (v := (nI 1)) d_Fo_addForm_95 (by decide) ?_
        refine ex_iadd (pc := 96) d_Fo_addForm_96 ?_
        refine ex_top (nI_s dep) ?_
        refine ex_callV (pc := 97) (M' := M_Fo_addForm) (as := [.int (nI q), .int (nI (dep + 1))]) (st := []) d_Fo_addForm_97 MW_Fo_addForm MI_Fo_addForm LK_Fo_62 (Nat.le_of_ble_eq_true rfl) rfl rfl rfl (hrec q _ _ hiq (by omega) hpi hq2 (by simp only [List.length_append, lnL, List.length_cons, List.length_replicate]; omega)) (ex_lt_rm (by omega)) ⟨Nat.le_refl _, Nat.le_refl _⟩ rfl rfl (Nat.le_of_ble_eq_true rfl) ?_
        rintro _ _ ⟨iv3, rfl, rfl, hq3⟩
        refine ex_iinc (pc := 100) (v := (nI (q + 1))) d_Fo_addForm_100 rfl (nI_1 q) (by decide) ?_
        refine ex_goto (pc := 103) (tgt := 57) d_Fo_addForm_103 rfl ?_
        exact ih (q + 1) iv3 _ (by omega) (by omega) hq3 (by simp only [List.length_append, lnL, List.length_cons, List.length_replicate]; omega) (by rw [← hv, hdep]; simp only [List.append_assoc])

