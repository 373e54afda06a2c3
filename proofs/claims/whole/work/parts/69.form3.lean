/-! the form whole (class) -/
theorem fOk_x {a : Nat → Int32} {T : TS} {n : Nat} (hX : tX a T n) : fOk T.e T.cn := ⟨hX.1.2.2.1.2.2.1, hX.1.2.2.1.2.1, fun i h1 h2 => ⟨(hX.1.2.2.2.1 i h1 h2).2.1, (hX.1.2.2.2.1 i h1 h2).2.2.2.1, (hX.2.2.2.2 i h1 h2).1⟩, hX.2.2.1.2⟩
theorem chC_pos {f : Nat → EL} {i : Nat} : ∀ m, 0 < chC f m i → ∃ k, 0 < k ∧ k ≤ m ∧ (f k).pr = i := by
  intro m
  induction m with
  | zero => intro h; exact absurd h (Nat.lt_irrefl _)
  | succ m ih =>
    intro h
    rw [chC] at h
    by_cases z : (f (m + 1)).pr = i
    · exact ⟨m + 1, by omega, Nat.le_refl _, z⟩
    · rw [if_neg z] at h
      obtain ⟨k, k1, k2, k3⟩ := ih (by omega)
      exact ⟨k, k1, by omega, k3⟩
theorem fLk_x {a : Nat → Int32} {T : TS} {n : Nat} {lo : Nat → Bool} (hX : tX a T n) (hs : T.stk = []) (hck : ∀ i, 0 < i → i ≤ T.cn → ¬ (T.e i).ck = 0) (hlo : ∀ i, i ≤ T.cn → lo i = true → 0 < chC T.e T.cn i) : fLk T.e T.cn n lo := by
  have hns : ∀ i, i ∉ T.stk := fun i => by rw [hs]; exact List.not_mem_nil
  refine ⟨fun i h0 hi => ?_, fun k h0 hk => ?_⟩
  · obtain ⟨b1, b2, b3, b4, b5⟩ := hX.1.2.2.2.2.2.1 i h0 hi (hns i)
    have hL := (hX.2.2.2.2 i h0 hi).2.2.2.2 (hns i)
    have hc := hck i h0 hi
    refine ⟨b2, ?_, fun hl => ?_⟩
    · rcases b5 with z | z | z
      · exact absurd z hc
      · have := hL.1 z; omega
      · have := hL.2 z; omega
    · obtain ⟨k, k1, k2, k3⟩ := chC_pos T.cn (hlo i hi hl)
      have h2 := ((hX.2.2.2.2 k k1 k2).2.1 (by omega)).2 (hns _)
      rw [k3] at h2
      have h3 : (T.e i).ck = 3 := by
        rcases b5 with z | z | z
        · exact absurd z hc
        · exact absurd z h2.2.2
        · exact z
      have := hL.2 h3
      exact ⟨this.1, this.2, b3⟩
  · obtain ⟨l1, l2, l3, l4, l5⟩ := hX.2.2.2.2 k h0 hk
    refine ⟨fun _ => (hX.1.2.2.2.2.2.1 k h0 hk (hns k)).2.1, fun z _ => ⟨(l2 z).1, ((l2 z).2 (hns _)).2.1⟩, fun s s1 s2 s3 => (l3 s s1 s2 s3).2⟩
theorem ct_Fo_rec (l : Launch) (G : ex_G) (iv : Nat → Nat → Int32) (mp : Nat → Nat) (sp mo : Nat) (hmp : ∀ k, k < 9 → mp k < 10) (a : Nat → Int32) (n : Nat) (hA : TxA iv a n) (hTC : txC iv n) (T : TS) (hC : ClsT iv mp T) (hX : tX a T n) (hs : T.stk = []) : ∀ (m9 i : Nat), 0 < i → i ≤ T.cn → m9 = 9 - (T.e i).dp → ∀ (iv1 : Nat → Nat → Int32) (s9 : List Int32), FmQ 82 4 83 iv iv1 s9 → s9.length + (cF T.e T.cn (looF iv mp) (txL a) m9 i).length ≤ 694 → CT l G (m9 + 3) M_Fo_addForm [.ref 82, .int (nI i), .int (nI (T.e i).dp)] (HP iv1 mp sp mo) 0 0 (fun r h' => ∃ iv2, h' = HP iv2 mp sp mo ∧ r = none ∧ FmQ 82 4 83 iv iv2 (s9 ++ (cF T.e T.cn (looF iv mp) (txL a) m9 i))) := by
  have hO := fOk_x hX
  intro m9
  induction m9 with
  | zero =>
    intro i h0 hi hm
    have := (hO.2.2.1 i h0 hi).2.2
    omega
  | succ m9 ih =>
    intro i h0 hi hm iv1 s9 hq hlen
    have hd := (hO.2.2.1 i h0 hi).2.2
    exact ct_Fo_addForm1 l G iv mp sp mo hmp a n hA hTC T hC hX hs hO i h0 hi (T.e i).dp m9 rfl hd (fun q iv1 s9 q1 q2 q3 q4 q5 => by
      have e1 := (hO.2.2.1 q (by omega) q2).2.1
      rw [q3] at e1
      have := ih q (by omega) q2 (by omega) iv1 s9 q4 q5
      rw [e1] at this
      exact this) hm iv1 s9 hq hlen (fun _ => (hX.1.2.2.2.2.2.1 i h0 hi (by rw [hs]; exact List.not_mem_nil)).2.2.1)
/-- the form of a text -/
def fmL (a : Nat → Int32) (n : Nat) (T : TS) (lo : Nat → Bool) : List Int32 := if lo 0 = true then cFF T.e T.cn lo (txL a) 1 ++ cSS T.e T.cn lo (txL a) 0 2 else txL a 0 n
set_option maxRecDepth 100000 in
set_option maxHeartbeats 4000000 in
theorem lp_Fo_formAnew {p : Program} {e : Env} {s : State} {m : MethodId} {args : Array Value} {below : List Frame} {meth : Method} {c : Code} (l : Launch) (G : ex_G) (iv : Nat → Nat → Int32) (mp : Nat → Nat) (sp mo : Nat) (hmp : ∀ k, k < 9 → mp k < 10) (a : Nat → Int32) (n : Nat) (hA : TxA iv a n) (hTC : txC iv n) (T : TS) (hC : ClsT iv mp T) (hX : tX a T n) (hs : T.stk = []) (Z : List Int32) : ∀ (k q : Nat) (iv1 : Nat → Nat → Int32) (s9 : List Int32), 0 < q → q + k = T.cn + 1 → 0 < s9.length → FmQ 82 4 83 iv iv1 s9 → s9.length + (cS T.e (cFF T.e T.cn (looF iv mp) (txL a)) 0 k q).length ≤ 694 → s9 ++ (cS T.e (cFF T.e T.cn (looF iv mp) (txL a)) 0 k q) = Z → EXM M_Fo_formAnew l G 13 (fun r h' => ∃ iv2, h' = HP iv2 mp sp mo ∧ r = some (.int (nI (Z.length))) ∧ FmQ 82 4 83 iv iv2 Z) p e s m args below meth c 43 [some (.ref 82), some (.int (nI q))] [] (HP iv1 mp sp mo) := by
  intro k
  induction k with
  | zero =>
    intro q iv1 s9 hq0 hqk hpo hq hlen hv
    have hn := hA.1
    have hcn : T.cn ≤ 33 := by have := hX.1.1; omega
    have hO := fOk_x hX
    have hfr : ∀ q j, q ≠ 83 → (q ≠ 82 ∨ j ≠ 4) → iv1 q j = iv q j := hq.2.2
    have hct : iv1 41 2 = nI T.cn := (hfr _ _ (by decide) (Or.inl (by decide))).trans hC.1
    rw [cS, List.append_nil] at hv
    subst hv
    refine ex_iload_n (pc := 43) (i := 1) d_Fo_formAnew_43 rfl rfl ?_
    refine ex_aload_n (pc := 44) (i := 0) d_Fo_formAnew_44 rfl rfl ?_
    refine ex_getr (pc := 45) 5 1 d_Fo_formAnew_45 FL_Fo_19 (Nat.le_of_ble_eq_true rfl) rfl rfl ?_
    refine ex_getx (pc := 48) 11 2 (nI T.cn) d_Fo_formAnew_48 FL_Fo_50 (Nat.le_of_ble_eq_true rfl) rfl hct ?_
    refine ex_icmp_gt (pc := 51) (tgt := 93) d_Fo_formAnew_51 rfl (fun c51 => ?_) (fun c51 => ?_)
    · refine ex_aload_n (pc := 93) (i := 0) d_Fo_formAnew_93 rfl rfl ?_
      refine ex_getx (pc := 94) 5 4 (nI s9.length) d_Fo_formAnew_94 FL_Fo_27 (Nat.le_of_ble_eq_true rfl) rfl hq.1 ?_
      refine ex_iret (ty := .int) d_Fo_formAnew_97 rfl rfl rfl (Nat.le_refl _) ?_
      exact ⟨_, rfl, rfl, hq⟩
    · exact absurd ((n_lt (by omega) (by omega)).mpr (by omega)) c51
  | succ k ih =>
    intro q iv1 s9 hq0 hqk hpo hq hlen hv
    have hn := hA.1
    have hcn : T.cn ≤ 33 := by have := hX.1.1; omega
    have hO := fOk_x hX
    have hfr : ∀ q j, q ≠ 83 → (q ≠ 82 ∨ j ≠ 4) → iv1 q j = iv q j := hq.2.2
    have hct : iv1 41 2 = nI T.cn := (hfr _ _ (by decide) (Or.inl (by decide))).trans hC.1
    have hpq : iv1 (46 + q) 1 = nI (T.e q).pr := by
      have := (hC.2.2.2.1 q (by omega)).1.2.1
      rw [if_neg (by omega)] at this
      exact (hfr _ _ (by omega) (Or.inl (by omega))).trans this
    have hpl := (hX.1.2.2.2.1 q (by omega) (by omega)).2.1
    rw [cS] at hlen hv
    refine ex_iload_n (pc := 43) (i := 1) d_Fo_formAnew_43 rfl rfl ?_
    refine ex_aload_n (pc := 44) (i := 0) d_Fo_formAnew_44 rfl rfl ?_
    refine ex_getr (pc := 45) 5 1 d_Fo_formAnew_45 FL_Fo_19 (Nat.le_of_ble_eq_true rfl) rfl rfl ?_
    refine ex_getx (pc := 48) 11 2 (nI T.cn) d_Fo_formAnew_48 FL_Fo_50 (Nat.le_of_ble_eq_true rfl) rfl hct ?_
    refine ex_icmp_gt (pc := 51) (tgt := 93) d_Fo_formAnew_51 rfl (fun c51 => ?_) (fun c51 => ?_)
    · exact absurd ((n_lt (by omega) (by omega)).mp c51) (by omega)
    · refine ex_aload_n (pc := 54) (i := 0) d_Fo_formAnew_54 rfl rfl ?_
      refine ex_getr (pc := 55) 5 1 d_Fo_formAnew_55 FL_Fo_19 (Nat.le_of_ble_eq_true rfl) rfl rfl ?_
      refine ex_getr (pc := 58) 11 1 d_Fo_formAnew_58 FL_Fo_31 (Nat.le_of_ble_eq_true rfl) rfl rfl ?_
      refine ex_iload_n (pc := 61) (i := 1) d_Fo_formAnew_61 rfl rfl ?_
      refine ex_aald (pc := 62) q d_Fo_formAnew_62 (Nat.le_of_ble_eq_true rfl) rfl rfl rfl (nI_t (by omega)) (show q < 34 by omega) (el_rf (mp := mp) (sp := sp) (mo := mo) (show q < 34 by omega)) ?_
      refine ex_getx (pc := 63) 3 1 (nI (T.e q).pr) d_Fo_formAnew_63 FL_Fo_53 (el_lt (show q < 34 by omega)) (el_sh (show q < 34 by omega)) hpq ?_
      refine ex_if_ne (pc := 66) (tgt := 87) d_Fo_formAnew_66 rfl (fun c66 => ?_) (fun c66 => ?_)
      · refine ex_iinc (pc := 87) (v := (nI (q + 1))) d_Fo_formAnew_87 rfl (nI_1 q) (by decide) ?_
        refine ex_goto (pc := 90) (tgt := 43) d_Fo_formAnew_90 rfl ?_
        have hpi : ¬ (T.e q).pr = 0 := fun z => c66 (by rw [z]; rfl)
        rw [if_neg hpi] at hlen hv
        exact ih (q + 1) iv1 s9 (by omega) (by omega) hpo hq hlen hv
      · have hpi : (T.e q).pr = 0 := (n_eq (by omega) (by omega)).mp (show nI (T.e q).pr = nI 0 from c66)
        rw [if_pos hpi] at hlen hv
        simp only [List.length_append, lnL, List.length_cons, List.length_replicate] at hlen
        have hd1 : (T.e q).dp = 1 := by
          have := (hO.2.2.1 q hq0 (by omega)).2.1
          rw [hpi, hO.2.1] at this
          omega
        refine ex_aload_n (pc := 69) (i := 0) d_Fo_formAnew_69 rfl rfl ?_
        refine ex_getx (pc := 70) 5 4 (nI s9.length) d_Fo_formAnew_70 FL_Fo_27 (Nat.le_of_ble_eq_true rfl) rfl hq.1 ?_
        refine ex_if_le (pc := 73) (tgt := 81) d_Fo_formAnew_73 rfl (fun c73 => ?_) (fun c73 => ?_)
        · exact absurd ((n_ge (b := 0) (by omega) (by omega)).mp c73) (by omega)
        · refine ex_aload_n (pc := 76) (i := 0) d_Fo_formAnew_76 rfl rfl ?_
          refine ex_iconst (pc := 77) (v := (nI 0)) d_Fo_formAnew_77 (by decide) ?_
          refine ex_callV (pc := 78) (M' := M_Fo_startLine) (as := [.int (nI 0)]) (st := []) d_Fo_formAnew_78 MW_Fo_startLine MI_Fo_startLine LK_Fo_58 (Nat.le_of_ble_eq_true rfl) rfl rfl rfl (ct_Fo_startLine l G iv1 mp sp mo 0 s9.length (by omega) hq.1 (by omega)) (ex_lt_rm (by decide)) ⟨Nat.le_refl _, Nat.le_refl _⟩ rfl rfl (Nat.le_of_ble_eq_true rfl) ?_
          rintro _ _ ⟨rfl, rfl⟩
          have hq2 := fm_lin (by decide) hq 0
          have hadd := ct_Fo_rec l G iv mp sp mo hmp a n hA hTC T hC hX hs (9 - (T.e q).dp) q hq0 (by omega) rfl _ _ hq2 (by rw [List.length_append]; show _ + (0 + 1) + _ ≤ 694; rw [hO.2.1] at hlen; unfold cFF at hlen; omega)
          rw [hd1] at hadd
          refine ex_aload_n (pc := 81) (i := 0) d_Fo_formAnew_81 rfl rfl ?_
          refine ex_iload_n (pc := 82) (i := 1) d_Fo_formAnew_82 rfl rfl ?_
          refine ex_iconst (pc := 83) (v := (nI 1)) d_Fo_formAnew_83 (by decide) ?_
          refine ex_callV (pc := 84) (M' := M_Fo_addForm) (as := [.int (nI q), .int (nI 1)]) (st := []) d_Fo_formAnew_84 MW_Fo_addForm MI_Fo_addForm LK_Fo_62 (Nat.le_of_ble_eq_true rfl) rfl rfl rfl (hadd) (ex_lt_rm (by decide)) ⟨Nat.le_refl _, Nat.le_refl _⟩ rfl rfl (Nat.le_of_ble_eq_true rfl) ?_
          rintro _ _ ⟨iv3, rfl, rfl, hq3⟩
          refine ex_iinc (pc := 87) (v := (nI (q + 1))) d_Fo_formAnew_87 rfl (nI_1 q) (by decide) ?_
          refine ex_goto (pc := 90) (tgt := 43) d_Fo_formAnew_90 rfl ?_
          have e9 : cF T.e T.cn (looF iv mp) (txL a) (9 - 1) q = cFF T.e T.cn (looF iv mp) (txL a) q := by unfold cFF; rw [hd1]
          rw [e9] at hq3
          exact ih (q + 1) iv3 _ (by omega) (by omega) (by simp only [List.length_append]; omega) hq3 (by simp only [List.length_append, lnL, List.length_cons, List.length_replicate]; rw [hO.2.1] at hlen; omega) (by rw [← hv, hO.2.1]; simp only [List.append_assoc])

set_option maxRecDepth 100000 in
set_option maxHeartbeats 4000000 in
theorem ct_Fo_formAnew (l : Launch) (G : ex_G) (iv : Nat → Nat → Int32) (mp : Nat → Nat) (sp mo : Nat) (hmp : ∀ k, k < 9 → mp k < 10) (a : Nat → Int32) (n : Nat) (hA : TxA iv a n) (hTC : txC iv n) (T : TS) (hC : ClsT iv mp T) (hX : tX a T n) (hs : T.stk = []) (hck : ∀ i, 0 < i → i ≤ T.cn → ¬ (T.e i).ck = 0) : CT l G 13 M_Fo_formAnew [.ref 82] (HP iv mp sp mo) 0 0 (fun r h' => ∃ iv2, h' = HP iv2 mp sp mo ∧ r = some (.int (nI (fmL a n T (looF iv mp)).length)) ∧ FmQ 82 4 83 iv iv2 (fmL a n T (looF iv mp))) := by
  refine ex_enter (by decide) (Nat.le_of_ble_eq_true rfl) (fun v hv => by simp at hv; rcases hv with rfl <;> rfl) (fun p e s m args below meth c => ?_)
  have hn := hA.1
  have hcn : T.cn ≤ 33 := by have := hX.1.1; omega
  have hO := fOk_x hX
  have hq : FmQ 82 4 83 iv (ex_u2 iv 82 4 (nI 0)) [] := ⟨u2s, fun i hi => absurd hi (Nat.not_lt_zero _), fun q j _ h2 => u2n h2⟩
  have hs1 : ex_u2 iv 82 4 (nI 0) 39 1 = nI n := (u2n (Or.inl (by decide))).trans hA.2.1
  have ht1 : txC (ex_u2 iv 82 4 (nI 0)) n := fun k hk => by rw [u2n (Or.inl (by decide))]; exact hTC k hk
  have hct : ex_u2 iv 82 4 (nI 0) 41 2 = nI T.cn := (u2n (Or.inl (by decide))).trans hC.1
  have ha1 : sl (ex_u2 iv 82 4 (nI 0) 40) (n - 0) 0 = txL a 0 n := sl_cg _ _ (fun k k1 k2 => (u2n (Or.inl (by decide))).trans (hA.2.2.1 k (by omega)))
  have hlo0 : looF (ex_u2 iv 82 4 (nI 0)) mp 0 = looF iv mp 0 := by
    unfold looF fbF elMo
    have hm9 := hmp _ (rowN_lt (iv (46 + 0) 0))
    rw [u2n (a := 82) (i := 46 + 0) (j := 0) (Or.inl (by decide)), u2n (i := 46 + 0) (j := 7) (Or.inl (by decide)), u2n (i := 46 + 0) (j := 9) (Or.inl (by decide)), u2n (j := 0) (Or.inl (by omega)), u2n (j := 1) (Or.inl (by omega))]
  have hlop : ∀ i, i ≤ T.cn → looF iv mp i = true → 0 < chC T.e T.cn i := by
    intro i hi hl
    unfold looF at hl
    rw [Bool.and_eq_true, Bool.and_eq_true] at hl
    have h7 := of_decide_eq_true hl.2.1
    rw [(hC.2.2.2.1 i hi).1.2.2.2.2.2.1] at h7
    refine Nat.pos_of_ne_zero (fun z => h7 ?_)
    rw [z]
    decide
  refine ex_aload_n (pc := 0) (i := 0) d_Fo_formAnew_0 rfl rfl ?_
  refine ex_iconst (pc := 1) (v := (nI 0)) d_Fo_formAnew_1 (by decide) ?_
  refine ex_puti (pc := 2) 5 4 .int d_Fo_formAnew_2 (PF_Fo_27 _) (Nat.le_of_ble_eq_true rfl) rfl rfl rfl ?_
  refine ex_aload_n (pc := 5) (i := 0) d_Fo_formAnew_5 rfl rfl ?_
  refine ex_getr (pc := 6) 5 2 d_Fo_formAnew_6 FL_Fo_23 (Nat.le_of_ble_eq_true rfl) rfl rfl ?_
  refine ex_aload_n (pc := 9) (i := 0) d_Fo_formAnew_9 rfl rfl ?_
  refine ex_getr (pc := 10) 5 1 d_Fo_formAnew_10 FL_Fo_19 (Nat.le_of_ble_eq_true rfl) rfl rfl ?_
  refine ex_getr (pc := 13) 11 1 d_Fo_formAnew_13 FL_Fo_31 (Nat.le_of_ble_eq_true rfl) rfl rfl ?_
  refine ex_iconst (pc := 16) (v := (nI 0)) d_Fo_formAnew_16 (by decide) ?_
  refine ex_aald (pc := 17) 0 d_Fo_formAnew_17 (Nat.le_of_ble_eq_true rfl) rfl rfl rfl (nI_t (by omega)) (show 0 < 34 by omega) (el_rf (mp := mp) (sp := sp) (mo := mo) (show 0 < 34 by omega)) ?_
  refine ex_callV (pc := 18) (M' := M_Ms_makeLoose) (as := [.ref (46 + 0)]) (st := []) d_Fo_formAnew_18 MW_Ms_makeLoose MI_Ms_makeLoose LK_Fo_37 (Nat.le_of_ble_eq_true rfl) rfl rfl rfl (ct_Ms_makeLoose l G (ex_u2 iv 82 4 (nI 0)) mp sp mo hmp 0 (by omega)) (ex_lt_rm (by decide)) ⟨Nat.le_refl _, Nat.le_refl _⟩ rfl rfl (Nat.le_of_ble_eq_true rfl) ?_
  rintro _ _ ⟨rfl, rfl⟩
  refine ex_top (congrArg b2i hlo0) ?_
  refine ex_if_ne (pc := 21) (tgt := 41) d_Fo_formAnew_21 rfl (fun c21 => ?_) (fun c21 => ?_)
  · have hl0 : looF iv mp 0 = true := b2i_1 c21
    have hch : 0 < chC T.e T.cn 0 := hlop 0 (Nat.zero_le _) hl0
    have h1 : 1 ≤ T.cn := by
      obtain ⟨k, k1, k2, _⟩ := chC_pos T.cn hch
      omega
    have hfl := form_len (g := a) hO (fLk_x hX hs hck hlop) h1 hn
    rw [List.length_append] at hfl
    have hp0 : (T.e 1).pr = 0 := by have := (hO.2.2.1 1 (by omega) h1).1; omega
    have hd1 : (T.e 1).dp = 1 := by
      have := (hO.2.2.1 1 (by omega) h1).2.1
      rw [hp0, hO.2.1] at this
      omega
    have hp1 : ex_u2 iv 82 4 (nI 0) (46 + 1) 1 = nI (T.e 1).pr := by
      have := (hC.2.2.2.1 1 h1).1.2.1
      rw [if_neg (by decide)] at this
      exact (u2n (Or.inl (by decide))).trans this
    have e9 : cF T.e T.cn (looF iv mp) (txL a) (9 - (T.e 1).dp) 1 = cFF T.e T.cn (looF iv mp) (txL a) 1 := rfl
    have hadd := ct_Fo_rec l G iv mp sp mo hmp a n hA hTC T hC hX hs (9 - (T.e 1).dp) 1 (by omega) h1 rfl _ [] hq (by rw [e9]; show 0 + _ ≤ 694; omega)
    rw [e9, List.nil_append, hd1] at hadd
    refine ex_iconst (pc := 41) (v := (nI 1)) d_Fo_formAnew_41 (by decide) ?_
    refine ex_istore_n (pc := 42) (i := 1) d_Fo_formAnew_42 rfl (by decide) ?_
    refine ex_iload_n (pc := 43) (i := 1) d_Fo_formAnew_43 rfl rfl ?_
    refine ex_aload_n (pc := 44) (i := 0) d_Fo_formAnew_44 rfl rfl ?_
    refine ex_getr (pc := 45) 5 1 d_Fo_formAnew_45 FL_Fo_19 (Nat.le_of_ble_eq_true rfl) rfl rfl ?_
    refine ex_getx (pc := 48) 11 2 (nI T.cn) d_Fo_formAnew_48 FL_Fo_50 (Nat.le_of_ble_eq_true rfl) rfl hct ?_
    refine ex_icmp_gt (pc := 51) (tgt := 93) d_Fo_formAnew_51 rfl (fun c51 => ?_) (fun c51 => ?_)
    · exact absurd ((n_lt (by omega) (by omega)).mp c51) (by omega)
    · refine ex_aload_n (pc := 54) (i := 0) d_Fo_formAnew_54 rfl rfl ?_
      refine ex_getr (pc := 55) 5 1 d_Fo_formAnew_55 FL_Fo_19 (Nat.le_of_ble_eq_true rfl) rfl rfl ?_
      refine ex_getr (pc := 58) 11 1 d_Fo_formAnew_58 FL_Fo_31 (Nat.le_of_ble_eq_true rfl) rfl rfl ?_
      refine ex_iload_n (pc := 61) (i := 1) d_Fo_formAnew_61 rfl rfl ?_
      refine ex_aald (pc := 62) 1 d_Fo_formAnew_62 (Nat.le_of_ble_eq_true rfl) rfl rfl rfl (nI_t (by omega)) (show 1 < 34 by omega) (el_rf (mp := mp) (sp := sp) (mo := mo) (show 1 < 34 by omega)) ?_
      refine ex_getx (pc := 63) 3 1 (nI (T.e 1).pr) d_Fo_formAnew_63 FL_Fo_53 (el_lt (show 1 < 34 by omega)) (el_sh (show 1 < 34 by omega)) hp1 ?_
      refine ex_if_ne (pc := 66) (tgt := 87) d_Fo_formAnew_66 rfl (fun c66 => ?_) (fun c66 => ?_)
      · exact absurd (by rw [hp0]; rfl) c66
      · refine ex_aload_n (pc := 69) (i := 0) d_Fo_formAnew_69 rfl rfl ?_
        refine ex_getx (pc := 70) 5 4 (nI 0) d_Fo_formAnew_70 FL_Fo_27 (Nat.le_of_ble_eq_true rfl) rfl (show (ex_u2 iv 82 4 (nI 0)) 82 4 = nI 0 from u2s) ?_
        refine ex_if_le (pc := 73) (tgt := 81) d_Fo_formAnew_73 rfl (fun c73 => ?_) (fun c73 => ?_)
        · refine ex_aload_n (pc := 81) (i := 0) d_Fo_formAnew_81 rfl rfl ?_
          refine ex_iload_n (pc := 82) (i := 1) d_Fo_formAnew_82 rfl rfl ?_
          refine ex_iconst (pc := 83) (v := (nI 1)) d_Fo_formAnew_83 (by decide) ?_
          refine ex_callV (pc := 84) (M' := M_Fo_addForm) (as := [.int (nI 1), .int (nI 1)]) (st := []) d_Fo_formAnew_84 MW_Fo_addForm MI_Fo_addForm LK_Fo_62 (Nat.le_of_ble_eq_true rfl) rfl rfl rfl (hadd) (ex_lt_rm (by decide)) ⟨Nat.le_refl _, Nat.le_refl _⟩ rfl rfl (Nat.le_of_ble_eq_true rfl) ?_
          rintro _ _ ⟨iv3, rfl, rfl, hq3⟩
          refine ex_iinc (pc := 87) (v := (nI 2)) d_Fo_formAnew_87 rfl (nI_1 1) (by decide) ?_
          refine ex_goto (pc := 90) (tgt := 43) d_Fo_formAnew_90 rfl ?_
          have hne : 0 < (cFF T.e T.cn (looF iv mp) (txL a) 1).length := by
            have hk := (fLk_x hX hs hck hlop).1 1 (by omega) h1
            rw [cFF_st hO h1 (by omega)]
            split
            · rename_i hz
              have := hk.2.2 hz
              rw [List.length_append, txL_len]
              omega
            · rw [txL_len]
              omega
          exact lp_Fo_formAnew l G iv mp sp mo hmp a n hA hTC T hC hX hs _ (T.cn + 1 - 2) 2 iv3 _ (by omega) (by omega) hne hq3 (by show _ + (cSS T.e T.cn (looF iv mp) (txL a) 0 2).length ≤ 694; omega) (by unfold fmL; rw [if_pos hl0]; rfl)
        · exact absurd (by decide) c73
  · refine ex_aload_n (pc := 24) (i := 0) d_Fo_formAnew_24 rfl rfl ?_
    refine ex_iconst (pc := 25) (v := (nI 0)) d_Fo_formAnew_25 (by decide) ?_
    refine ex_aload_n (pc := 26) (i := 0) d_Fo_formAnew_26 rfl rfl ?_
    refine ex_getr (pc := 27) 5 0 d_Fo_formAnew_27 FL_Fo_15 (Nat.le_of_ble_eq_true rfl) rfl rfl ?_
    refine ex_getx (pc := 30) 10 1 (nI n) d_Fo_formAnew_30 FL_Fo_43 (Nat.le_of_ble_eq_true rfl) rfl hs1 ?_
    refine ex_callV (pc := 33) (M' := M_Fo_copy) (as := [.int (nI 0), .int (nI n)]) (st := []) d_Fo_formAnew_33 MW_Fo_copy MI_Fo_copy LK_Fo_46 (Nat.le_of_ble_eq_true rfl) rfl rfl rfl (ct_Fo_copy l G (ex_u2 iv 82 4 (nI 0)) mp sp mo 0 n n 0 (Nat.zero_le _) (Nat.le_refl _) hn hs1 ht1 u2s (by omega)) (ex_lt_rm (by decide)) ⟨Nat.le_refl _, Nat.le_refl _⟩ rfl rfl (Nat.le_of_ble_eq_true rfl) ?_
    rintro _ _ ⟨rfl, rfl⟩
    have hq2 := fm_cpy (by decide) ((ex_u2 iv 82 4 (nI 0)) 40) (n - 0) 0 _ [] hq
    rw [ha1, List.nil_append] at hq2
    refine ex_aload_n (pc := 36) (i := 0) d_Fo_formAnew_36 rfl rfl ?_
    refine ex_getx (pc := 37) 5 4 (nI (txL a 0 n).length) d_Fo_formAnew_37 FL_Fo_27 (Nat.le_of_ble_eq_true rfl) rfl hq2.1 ?_
    refine ex_iret (ty := .int) d_Fo_formAnew_40 rfl rfl rfl (Nat.le_refl _) ?_
    have hz : fmL a n T (looF iv mp) = txL a 0 n := by unfold fmL; rw [if_neg (by rw [b2i_0 c21]; decide)]
    rw [hz]
    exact ⟨_, rfl, rfl, hq2⟩

