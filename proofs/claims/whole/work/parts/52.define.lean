/-! a draft is read into the spare model; the spare model is put into use (class) -/
theorem b2i_ft (b : Bool) : fits .boolean (.int (b2i b)) = true := by cases b <;> decide
theorem rv_o1 {mp : Nat → Nat} {sp mo x a k : Nat} (h : ¬ (a = 3 ∧ k = 1)) : RV mp sp mo a k = RV mp sp x a k := by
  unfold RV
  match a with
  | 0 => rfl
  | 1 => rfl
  | 2 => rfl
  | 3 =>
    match k with
    | 0 => rfl
    | 1 => exact absurd ⟨rfl, rfl⟩ h
    | k + 2 => rfl
  | a + 4 => rfl
theorem hp_mo {iv : Nat → Nat → Int32} {mp : Nat → Nat} {sp mo x : Nat} : ex_sr (HP iv mp sp mo) 3 1 (some x) = HP iv mp sp x := by
  refine congrArg (fun z => (129, exSh, exLn, iv, z)) ?_
  funext a k
  show (if a = 3 ∧ k = 1 then some x else RV mp sp mo a k) = RV mp sp x a k
  by_cases h : a = 3 ∧ k = 1
  · rw [if_pos h, h.1, h.2]
    rfl
  · rw [if_neg h]
    exact rv_o1 h
theorem hp_sp {iv : Nat → Nat → Int32} {mp : Nat → Nat} {sp mo x : Nat} : ex_sr (HP iv mp sp mo) 7 1 (some (9 + 3 * x)) = HP iv mp x mo := by
  refine congrArg (fun z => (129, exSh, exLn, iv, z)) ?_
  funext a k
  show (if a = 7 ∧ k = 1 then some (9 + 3 * x) else RV mp sp mo a k) = RV mp x mo a k
  by_cases h : a = 7 ∧ k = 1
  · rw [if_pos h, h.1, h.2]
    rfl
  · rw [if_neg h]
    unfold RV
    match a with
    | 0 => rfl
    | 1 => rfl
    | 2 => rfl
    | 3 => rfl
    | 4 => rfl
    | 5 => rfl
    | 6 => rfl
    | 7 =>
      match k with
      | 0 => rfl
      | 1 => exact absurd ⟨rfl, rfl⟩ h
      | k + 2 => rfl
    | a + 8 => rfl
theorem us_no {mp : Nat → Nat} {sp mo k : Nat} : RV mp sp mo 8 (k + 9) = none := rfl
theorem hp_mp {iv : Nat → Nat → Int32} {mp : Nat → Nat} {sp mo q x : Nat} (hq : q < 9) : ex_sr (HP iv mp sp mo) 8 q (some (9 + 3 * x)) = HP iv (va_up mp q x) sp mo := by
  refine congrArg (fun z => (129, exSh, exLn, iv, z)) ?_
  funext a k
  show (if a = 8 ∧ k = q then some (9 + 3 * x) else RV mp sp mo a k) = RV (va_up mp q x) sp mo a k
  by_cases h8 : a = 8
  · subst h8
    by_cases hk : k < 9
    · rw [us_rf hk, us_rf hk]
      by_cases hkq : k = q
      · rw [if_pos ⟨rfl, hkq⟩, hkq, va_up_self]
      · rw [if_neg (fun z => hkq z.2), va_up_ne _ _ hkq]
    · obtain ⟨k', rfl⟩ : ∃ k', k = k' + 9 := ⟨k - 9, by omega⟩
      rw [if_neg (fun z => by omega), us_no, us_no]
  · rw [if_neg (fun z => h8 z.1)]
    unfold RV
    match a with
    | 0 => rfl
    | 1 => rfl
    | 2 => rfl
    | 3 => rfl
    | 4 => rfl
    | 5 => rfl
    | 6 => rfl
    | 7 => rfl
    | 8 => exact absurd rfl h8
    | a + 9 => rfl
/-- the reading's start -/
def rdS0 (iv : Nat → Nat → Int32) (j : Nat) (sk : Bool) (fr : Nat) : PS := psM fr (iv 3 3) (iv 3 4) sk 0 (clrF (iv (10 + 3 * j)) 11) (clrF (iv (11 + 3 * j)) 8)
def rdX (iv : Nat → Nat → Int32) (j : Nat) (mix : Bool) : Nat → Nat → Int32 := ex_u2 (moC0 iv j) (9 + 3 * j) 1 (b2i mix)
def frO (d : Nat → Int32) : Nat := if d 0 = nI 35 then 1 else 0
theorem moC2_mr {iv : Nat → Nat → Int32} {j : Nat} {sk : Bool} (hsk : iv 3 5 = b2i sk) : ex_u2 (moC2 iv j 8) 3 2 (nI 0) = mrI (moC0 iv j) j (rdS0 iv j sk 0) := by
  have z0 : ∀ a k, a ≠ 9 + 3 * j → moC0 iv j a k = iv a k := fun a k h => by
    unfold moC0
    rw [u2n (Or.inl h), u2n (Or.inl h), u2n (Or.inl h), u2n (Or.inl h)]
  have z1 : moC0 iv j (10 + 3 * j) = iv (10 + 3 * j) := funext (fun k => z0 _ k (by omega))
  have z2 : moC1 iv j 11 (11 + 3 * j) = iv (11 + 3 * j) := by
    unfold moC1
    rw [va_up_ne _ _ (by omega)]
    exact funext (fun k => z0 _ k (by omega))
  funext a k
  unfold moC2 moC1 mrI
  by_cases h1 : a = 11 + 3 * j
  · subst h1
    rw [if_pos rfl, u2n (Or.inl (by omega)), va_up_self]
    show clrF (moC1 iv j 11 (11 + 3 * j)) 8 k = clrF (iv (11 + 3 * j)) 8 k
    rw [z2]
  · rw [if_neg h1]
    by_cases h2 : a = 10 + 3 * j
    · subst h2
      rw [if_pos rfl, u2n (Or.inl (by omega)), va_up_ne _ _ (by omega), va_up_self, z1]
      rfl
    · rw [if_neg h2]
      by_cases h3 : a = 9 + 3 * j ∧ k = 2
      · rw [if_pos h3, h3.1, h3.2, u2n (Or.inl (by omega)), va_up_ne _ _ (by omega), va_up_ne _ _ (by omega)]
        unfold moC0
        rw [u2n (Or.inr (by decide)), u2s]
        rfl
      · rw [if_neg h3]
        by_cases h4 : a = 3 ∧ k = 2
        · rw [if_pos h4, h4.1, h4.2, u2s]
          rfl
        · rw [if_neg h4, u2n (by omega), va_up_ne _ _ h1, va_up_ne _ _ h2]
          by_cases h5 : a = 3 ∧ k = 3
          · rw [if_pos h5, h5.1, h5.2, z0 _ _ (by omega)]
            rfl
          · rw [if_neg h5]
            by_cases h6 : a = 3 ∧ k = 4
            · rw [if_pos h6, h6.1, h6.2, z0 _ _ (by omega)]
              rfl
            · rw [if_neg h6]
              by_cases h7 : a = 3 ∧ k = 5
              · rw [if_pos h7, h7.1, h7.2, z0 _ _ (by omega), hsk]
                rfl
              · rw [if_neg h7]
theorem mrI_mx {iv : Nat → Nat → Int32} {j : Nat} {S : PS} {v : Int32} : ex_u2 (mrI iv j S) (9 + 3 * j) 1 v = mrI (ex_u2 iv (9 + 3 * j) 1 v) j S := by
  funext a k
  unfold mrI ex_u2
  by_cases h : a = 9 + 3 * j ∧ k = 1
  · rw [if_pos h, h.1, h.2, if_neg (by omega), if_neg (by omega), if_neg (by omega), if_neg (by omega), if_neg (by omega), if_neg (by omega), if_neg (by omega), if_pos ⟨rfl, rfl⟩]
  · simp only [if_neg h]
/-- what reading a draft into model j leaves and answers -/
def RdP (iv : Nat → Nat → Int32) (j n : Nat) (f : Nat → Int32) (sk : Bool) (r : Option Value) (iv' : Nat → Nat → Int32) : Prop :=
  (frO (dCh f n) = n ∧ r = some (.int (nI 0)) ∧ iv' = moCom (mrI (rdX iv j (decide (dCh f n 0 = nI 35))) j (rdS0 iv j sk (frO (dCh f n)))) j (nI 0) (nI 0) (nI 1)) ∨
  (frO (dCh f n) ≠ n ∧ ∃ S2, pExpr (dCh f n) 7 (rdS0 iv j sk (frO (dCh f n))) = some S2 ∧ S2.pl = n ∧ r = some (.int (nI 0)) ∧ iv' = moCom (mrI (rdX iv j (decide (dCh f n 0 = nI 35))) j S2) j S2.fi S2.la (b2i S2.sk)) ∨
  (frO (dCh f n) ≠ n ∧ (∀ S2, pExpr (dCh f n) 7 (rdS0 iv j sk (frO (dCh f n))) = some S2 → ¬ S2.pl = n) ∧ r = some (.int (-1)) ∧ ∃ S2, iv' = mrI (rdX iv j (decide (dCh f n 0 = nI 35))) j S2)
set_option maxRecDepth 100000 in
set_option maxHeartbeats 4000000 in
theorem ct_Mr_readInto (l : Launch) (G : ex_G) (iv : Nat → Nat → Int32) (mp : Nat → Nat) (sp mo j : Nat) (hj : j < 10) (n : Nat) (f : Nat → Int32) (hd : DrI iv n f) (sk : Bool) (hsk : iv 3 5 = b2i sk) : CT l G 24 M_Mr_readInto [.ref 3, .ref (9 + 3 * j)] (HP iv mp sp mo) 0 0 (fun r h' => ∃ iv', h' = HP iv' mp sp (9 + 3 * j) ∧ RdP iv j n f sk r iv') := by
  refine ex_enter (by decide) (Nat.le_of_ble_eq_true rfl) (fun v hv => by simp at hv; rcases hv with rfl | rfl <;> rfl) (fun p e s m args below meth c => ?_)
  have hn40 : n ≤ 40 := hd.1
  have hdX : DrI (moC0 iv j) n f := ⟨hd.1, by unfold moC0; rw [u2n (Or.inl (by omega)), u2n (Or.inl (by omega)), u2n (Or.inl (by omega)), u2n (Or.inl (by omega))]; exact hd.2.1, fun k hk => by unfold moC0; rw [u2n (Or.inl (by omega)), u2n (Or.inl (by omega)), u2n (Or.inl (by omega)), u2n (Or.inl (by omega))]; exact hd.2.2 k hk⟩
  have hdM : DrI (rdX iv j (decide (dCh f n 0 = nI 35))) n f := ⟨hd.1, by unfold rdX; rw [u2n (Or.inl (by omega))]; exact hdX.2.1, fun k hk => by unfold rdX; rw [u2n (Or.inl (by omega))]; exact hdX.2.2 k hk⟩
  have hfr : psOk n (rdS0 iv j sk (frO (dCh f n))) := ⟨by
    show frO (dCh f n) ≤ n
    unfold frO
    by_cases h : dCh f n 0 = nI 35
    · rw [if_pos h]
      unfold dCh at h
      by_cases h0 : 0 < n
      · exact h0
      · rw [if_neg h0] at h
        exact absurd h (by decide)
    · rw [if_neg h]
      exact Nat.zero_le _, Nat.zero_le _⟩
  refine ex_aload_n (pc := 0) (i := 0) d_Mr_readInto_0 rfl rfl ?_
  refine ex_aload_n (pc := 1) (i := 1) d_Mr_readInto_1 rfl rfl ?_
  refine ex_putr (pc := 2) 8 1 _ d_Mr_readInto_2 (PF_Mr_12 _) (Nat.le_of_ble_eq_true rfl) rfl rfl rfl ?_
  refine ex_heap hp_mo ?_
  refine ex_aload_n (pc := 5) (i := 0) d_Mr_readInto_5 rfl rfl ?_
  refine ex_getr (pc := 6) 8 1 d_Mr_readInto_6 FL_Mr_12 (Nat.le_of_ble_eq_true rfl) rfl rfl ?_
  refine ex_callV (pc := 9) (M' := M_Mo_clear) (as := []) (st := []) d_Mr_readInto_9 MW_Mo_clear MI_Mo_clear LK_Mr_22 (mo_lt hj) (mo_sh hj) rfl rfl (ct_Mo_clear l G iv mp sp (9 + 3 * j) j hj) (ex_lt_rm (by decide)) ⟨Nat.le_refl _, Nat.le_refl _⟩ rfl rfl (Nat.le_of_ble_eq_true rfl) ?_
  rintro _ _ ⟨rfl, rfl⟩
  refine ex_aload_n (pc := 12) (i := 0) d_Mr_readInto_12 rfl rfl ?_
  refine ex_iconst (pc := 13) (v := (nI 0)) d_Mr_readInto_13 (by decide) ?_
  refine ex_puti (pc := 14) 8 2 .int d_Mr_readInto_14 (PF_Mr_25 _) (Nat.le_of_ble_eq_true rfl) rfl rfl rfl ?_
  refine ex_heap (congrArg (fun z => HP z mp sp (9 + 3 * j)) (moC2_mr hsk)) ?_
  refine ex_aload_n (pc := 17) (i := 0) d_Mr_readInto_17 rfl rfl ?_
  refine ex_getr (pc := 18) 8 1 d_Mr_readInto_18 FL_Mr_12 (Nat.le_of_ble_eq_true rfl) rfl rfl ?_
  refine ex_aload_n (pc := 21) (i := 0) d_Mr_readInto_21 rfl rfl ?_
  refine ex_bipush (pc := 22) (v := (nI 35)) d_Mr_readInto_22 (by decide) ?_
  refine ex_callV (pc := 24) (M' := M_Mr_takes) (as := [.int (nI 35)]) (st := [.ref (9 + 3 * j)]) d_Mr_readInto_24 MW_Mr_takes MI_Mr_takes LK_Mr_29 (Nat.le_of_ble_eq_true rfl) rfl rfl rfl (ct_Mr_takes l G (moC0 iv j) mp sp j hj n f hdX (rdS0 iv j sk 0) ⟨Nat.zero_le _, Nat.zero_le _⟩ (nI 35) (by decide)) (ex_lt_rm (by decide)) ⟨Nat.le_refl _, Nat.le_refl _⟩ rfl rfl (Nat.le_of_ble_eq_true rfl) ?_
  rintro _ _ ⟨⟨S1, b1, rfl, rfl, hS1, ht1, hf1⟩, hu1⟩
  have hq : HP (mrI (moC0 iv j) j S1) mp sp (9 + 3 * j) = HP (mrI (moC0 iv j) j (rdS0 iv j sk (frO (dCh f n)))) mp sp (9 + 3 * j) ∧ b1 = decide (dCh f n 0 = nI 35) := by
    cases b1 with
    | true =>
      obtain ⟨y1, y2⟩ := pTk_y (ht1 rfl)
      have y3 : dCh f n 0 = nI 35 := y1
      refine ⟨?_, by rw [decide_eq_true y3]⟩
      rw [y2]
      unfold frO
      rw [if_pos y3]
      rfl
    | false =>
      have y3 : ¬ dCh f n 0 = nI 35 := pTk_n (hf1 rfl)
      refine ⟨?_, by rw [decide_eq_false y3]⟩
      rw [hu1 rfl]
      unfold frO
      rw [if_neg y3]
  obtain ⟨hq1, hq2⟩ := hq
  refine ex_heap hq1 ?_
  subst hq2
  refine ex_puti (pc := 27) 7 1 .boolean d_Mr_readInto_27 (PF_Mr_33 _) (mo_lt hj) (mo_sh hj) (b2i_n _) (b2i_ft _) ?_
  refine ex_heap (congrArg (fun z => HP z mp sp (9 + 3 * j)) (show _ = mrI (rdX iv j (decide (dCh f n 0 = nI 35))) j (rdS0 iv j sk (frO (dCh f n))) from mrI_mx)) ?_
  refine ex_aload_n (pc := 30) (i := 0) d_Mr_readInto_30 rfl rfl ?_
  refine ex_getx (pc := 31) 8 2 (nI (frO (dCh f n))) d_Mr_readInto_31 FL_Mr_25 (Nat.le_of_ble_eq_true rfl) rfl mrI_pl ?_
  refine ex_aload_n (pc := 34) (i := 0) d_Mr_readInto_34 rfl rfl ?_
  refine ex_getr (pc := 35) 8 0 d_Mr_readInto_35 FL_Mr_18 (Nat.le_of_ble_eq_true rfl) rfl rfl ?_
  refine ex_getx (pc := 38) 2 1 (nI n) d_Mr_readInto_38 FL_Mr_37 (Nat.le_of_ble_eq_true rfl) rfl ((mrI_o (by decide) (by decide)).trans hdM.2.1) ?_
  refine ex_icmp_ne (pc := 41) (tgt := 56) d_Mr_readInto_41 rfl (fun c41 => ?_) (fun c41 => ?_)
  · refine ex_aload_n (pc := 56) (i := 0) d_Mr_readInto_56 rfl rfl ?_
    refine ex_iconst (pc := 57) (v := (nI 0)) d_Mr_readInto_57 (by decide) ?_
    refine ex_callV (pc := 58) (M' := M_Mr_readsExpression) (as := [.int (nI 0)]) (st := []) d_Mr_readInto_58 MW_Mr_readsExpression MI_Mr_readsExpression LK_Mr_46 (Nat.le_of_ble_eq_true rfl) rfl rfl rfl (ct_Mr_rec l G (rdX iv j (decide (dCh f n 0 = nI 35))) mp sp j hj n f hdM 7 0 rfl (rdS0 iv j sk (frO (dCh f n))) hfr) (ex_lt_rm (by decide)) ⟨Nat.le_refl _, Nat.le_refl _⟩ rfl rfl (Nat.le_of_ble_eq_true rfl) ?_
    rintro _ _ ⟨S2, b2, rfl, rfl, hS2, ht2, hf2⟩
    refine ex_if_eq (pc := 61) (tgt := 78) d_Mr_readInto_61 rfl (fun c61 => ?_) (fun c61 => ?_)
    · refine ex_iconst (pc := 78) (v := (-1)) d_Mr_readInto_78 (by decide) ?_
      refine ex_iret (ty := .int) d_Mr_readInto_79 rfl rfl rfl (Nat.le_refl _) ?_
      refine ⟨_, rfl, Or.inr (Or.inr ⟨fun z => c41 (by rw [z]), fun S3 h3 => ?_, rfl, S2, rfl⟩)⟩
      rw [hf2 (b2i_0 c61)] at h3
      cases h3
    · refine ex_aload_n (pc := 64) (i := 0) d_Mr_readInto_64 rfl rfl ?_
      refine ex_getx (pc := 65) 8 2 (nI S2.pl) d_Mr_readInto_65 FL_Mr_25 (Nat.le_of_ble_eq_true rfl) rfl mrI_pl ?_
      refine ex_aload_n (pc := 68) (i := 0) d_Mr_readInto_68 rfl rfl ?_
      refine ex_getr (pc := 69) 8 0 d_Mr_readInto_69 FL_Mr_18 (Nat.le_of_ble_eq_true rfl) rfl rfl ?_
      refine ex_getx (pc := 72) 2 1 (nI n) d_Mr_readInto_72 FL_Mr_37 (Nat.le_of_ble_eq_true rfl) rfl ((mrI_o (by decide) (by decide)).trans hdM.2.1) ?_
      refine ex_icmp_eq (pc := 75) (tgt := 80) d_Mr_readInto_75 rfl (fun c75 => ?_) (fun c75 => ?_)
      · refine ex_aload_n (pc := 80) (i := 0) d_Mr_readInto_80 rfl rfl ?_
        refine ex_getr (pc := 81) 8 1 d_Mr_readInto_81 FL_Mr_12 (Nat.le_of_ble_eq_true rfl) rfl rfl ?_
        refine ex_aload_n (pc := 84) (i := 0) d_Mr_readInto_84 rfl rfl ?_
        refine ex_getx (pc := 85) 8 3 S2.fi d_Mr_readInto_85 FL_Mr_50 (Nat.le_of_ble_eq_true rfl) rfl mrI_fi ?_
        refine ex_aload_n (pc := 88) (i := 0) d_Mr_readInto_88 rfl rfl ?_
        refine ex_getx (pc := 89) 8 4 S2.la d_Mr_readInto_89 FL_Mr_53 (Nat.le_of_ble_eq_true rfl) rfl mrI_la ?_
        refine ex_aload_n (pc := 92) (i := 0) d_Mr_readInto_92 rfl rfl ?_
        refine ex_getx (pc := 93) 8 5 (b2i S2.sk) d_Mr_readInto_93 FL_Mr_56 (Nat.le_of_ble_eq_true rfl) rfl mrI_sk ?_
        refine ex_callV (pc := 96) (M' := M_Mo_complete) (as := [.int S2.fi, .int S2.la, .int (b2i S2.sk)]) (st := []) d_Mr_readInto_96 MW_Mo_complete MI_Mo_complete LK_Mr_42 (mo_lt hj) (mo_sh hj) rfl rfl (ct_Mo_complete l G (mrI (rdX iv j (decide (dCh f n 0 = nI 35))) j S2) mp sp (9 + 3 * j) j hj S2.fi S2.la (b2i S2.sk)) (ex_lt_rm (by decide)) ⟨Nat.le_refl _, Nat.le_refl _⟩ rfl rfl (Nat.le_of_ble_eq_true rfl) ?_
        rintro _ _ ⟨rfl, rfl⟩
        refine ex_iconst (pc := 99) (v := (nI 0)) d_Mr_readInto_99 (by decide) ?_
        refine ex_iret (ty := .int) d_Mr_readInto_100 rfl rfl rfl (Nat.le_refl _) ?_
        exact ⟨_, rfl, Or.inr (Or.inl ⟨fun z => c41 (by rw [z]), S2, ht2 (b2i_1 c61), (n_eq (by have := hS2.1; omega) (by omega)).mp c75, rfl, rfl⟩)⟩
      · refine ex_iconst (pc := 78) (v := (-1)) d_Mr_readInto_78 (by decide) ?_
        refine ex_iret (ty := .int) d_Mr_readInto_79 rfl rfl rfl (Nat.le_refl _) ?_
        refine ⟨_, rfl, Or.inr (Or.inr ⟨fun z => c41 (by rw [z]), fun S3 h3 z => ?_, rfl, S2, rfl⟩)⟩
        rw [ht2 (b2i_1 c61)] at h3
        cases h3
        exact c75 (by rw [z])
  · refine ex_aload_n (pc := 44) (i := 0) d_Mr_readInto_44 rfl rfl ?_
    refine ex_getr (pc := 45) 8 1 d_Mr_readInto_45 FL_Mr_12 (Nat.le_of_ble_eq_true rfl) rfl rfl ?_
    refine ex_iconst (pc := 48) (v := (nI 0)) d_Mr_readInto_48 (by decide) ?_
    refine ex_iconst (pc := 49) (v := (nI 0)) d_Mr_readInto_49 (by decide) ?_
    refine ex_iconst (pc := 50) (v := (nI 1)) d_Mr_readInto_50 (by decide) ?_
    refine ex_callV (pc := 51) (M' := M_Mo_complete) (as := [.int (nI 0), .int (nI 0), .int (nI 1)]) (st := []) d_Mr_readInto_51 MW_Mo_complete MI_Mo_complete LK_Mr_42 (mo_lt hj) (mo_sh hj) rfl rfl (ct_Mo_complete l G (mrI (rdX iv j (decide (dCh f n 0 = nI 35))) j (rdS0 iv j sk (frO (dCh f n)))) mp sp (9 + 3 * j) j hj (nI 0) (nI 0) (nI 1)) (ex_lt_rm (by decide)) ⟨Nat.le_refl _, Nat.le_refl _⟩ rfl rfl (Nat.le_of_ble_eq_true rfl) ?_
    rintro _ _ ⟨rfl, rfl⟩
    refine ex_iconst (pc := 54) (v := (nI 0)) d_Mr_readInto_54 (by decide) ?_
    refine ex_iret (ty := .int) d_Mr_readInto_55 rfl rfl rfl (Nat.le_refl _) ?_
    exact ⟨_, rfl, Or.inl ⟨(n_eq (by have := hfr.1; show frO (dCh f n) ≤ 1000000; unfold frO; split <;> omega) (by omega)).mp c41, rfl, rfl⟩⟩

theorem mo_u7 {iv : Nat → Nat → Int32} {v : Int32} (j : Nat) : (ex_u2 iv 7 2 v) (9 + 3 * j) = iv (9 + 3 * j) ∧ (ex_u2 iv 7 2 v) (10 + 3 * j) = iv (10 + 3 * j) ∧ (ex_u2 iv 7 2 v) (11 + 3 * j) = iv (11 + 3 * j) :=
  ⟨funext (fun k => u2n (Or.inl (by omega))), funext (fun k => u2n (Or.inl (by omega))), funext (fun k => u2n (Or.inl (by omega)))⟩
theorem accF_u7 {iv : Nat → Nat → Int32} {v : Int32} (j : Nat) (x : Int32) : accF (ex_u2 iv 7 2 v) j x = accF iv j x := by
  unfold accF
  rw [(mo_u7 j).1]
theorem sprF_u7 {iv : Nat → Nat → Int32} {v : Int32} (j : Nat) (x ns : Int32) : sprF (ex_u2 iv 7 2 v) j x ns = sprF iv j x ns := by
  unfold sprF usbF folF
  rw [(mo_u7 j).2.1, (mo_u7 j).2.2]
theorem u2u2 {iv : Nat → Nat → Int32} {a k : Nat} {v w : Int32} : ex_u2 (ex_u2 iv a k v) a k w = ex_u2 iv a k w := by
  funext i j
  unfold ex_u2
  by_cases h : i = a ∧ j = k
  · rw [if_pos h, if_pos h]
  · rw [if_neg h, if_neg h, if_neg h]
set_option maxRecDepth 100000 in
set_option maxHeartbeats 4000000 in
theorem lq_Ms_findFertileNames {p : Program} {e : Env} {s : State} {m : MethodId} {args : Array Value} {below : List Frame} {meth : Method} {c : Code} (l : Launch) (G : ex_G) (iv : Nat → Nat → Int32) (mp : Nat → Nat) (sp mo : Nat) (hmp : ∀ k, k < 9 → mp k < 10) (v : Int32) (PP : Option Value → ex_H → Prop) (rd : Nat) (bf : Int32) (hK : ∀ u : Option Value, EXM M_Ms_findFertileNames l G 3 PP p e s m args below meth c 74 [some (.ref 7), some (.int (nI rd)), some (.int bf), some (.int (nI 8)), u] [] (HP (ex_u2 iv 7 2 v) mp sp mo)) : ∀ (k i : Nat) (ns : Int32) (u : Option Value), i + k = 8 → frcM iv mp k i ns = v → EXM M_Ms_findFertileNames l G 3 (fun r h' => PP r h') p e s m args below meth c 20 [some (.ref 7), some (.int (nI rd)), some (.int bf), some (.int (nI i)), u] [] (HP (ex_u2 iv 7 2 ns) mp sp mo) := by
  intro k
  induction k with
  | zero =>
    intro i ns u hik hv
    have hi8 : i = 8 := by omega
    subst hi8
    have hv2 : ns = v := hv
    subst hv2
    refine ex_iload_n (pc := 20) (i := 3) d_Ms_findFertileNames_20 rfl rfl ?_
    refine ex_bipush (pc := 21) (v := (nI 8)) d_Ms_findFertileNames_21 (by decide) ?_
    refine ex_icmp_ge (pc := 23) (tgt := 74) d_Ms_findFertileNames_23 rfl (fun c23 => ?_) (fun c23 => ?_)
    · exact hK u
    · exact absurd ((n_ge (by omega) (by omega)).mpr (by omega)) c23
  | succ k ih =>
    intro i ns u hik hv
    rw [frcM] at hv
    refine ex_iload_n (pc := 20) (i := 3) d_Ms_findFertileNames_20 rfl rfl ?_
    refine ex_bipush (pc := 21) (v := (nI 8)) d_Ms_findFertileNames_21 (by decide) ?_
    refine ex_icmp_ge (pc := 23) (tgt := 74) d_Ms_findFertileNames_23 rfl (fun c23 => ?_) (fun c23 => ?_)
    · exact absurd ((n_ge (by omega) (by omega)).mp c23) (by omega)
    · refine ex_aload_n (pc := 26) (i := 0) d_Ms_findFertileNames_26 rfl rfl ?_
      refine ex_getr (pc := 27) 9 0 d_Ms_findFertileNames_27 FL_Ms_11 (Nat.le_of_ble_eq_true rfl) rfl rfl ?_
      refine ex_iload_n (pc := 30) (i := 3) d_Ms_findFertileNames_30 rfl rfl ?_
      refine ex_aald (pc := 31) i d_Ms_findFertileNames_31 (Nat.le_of_ble_eq_true rfl) rfl rfl rfl (nI_t (by omega)) (show i < 9 by omega) (us_rf (by omega)) ?_
      refine ex_astore (pc := 32) d_Ms_findFertileNames_32 (by decide) ?_
      refine ex_aload (pc := 34) d_Ms_findFertileNames_34 rfl ?_
      refine ex_aload (pc := 36) d_Ms_findFertileNames_36 rfl ?_
      refine ex_aload (pc := 38) d_Ms_findFertileNames_38 rfl ?_
      refine ex_callV (pc := 40) (M' := M_Mo_start) (as := []) (st := [.ref (9 + 3 * mp i), .ref (9 + 3 * mp i)]) d_Ms_findFertileNames_40 MW_Mo_start MI_Mo_start LK_Ms_45 (mo_lt (hmp i (by omega))) (mo_sh (hmp i (by omega))) rfl rfl (ct_Mo_start l G (ex_u2 iv 7 2 ns) mp sp mo (mp i) (hmp i (by omega))) (ex_lt_rm (by decide)) ⟨Nat.le_refl _, Nat.le_refl _⟩ rfl rfl (Nat.le_of_ble_eq_true rfl) ?_
      rintro _ _ ⟨rfl, rfl⟩
      refine ex_aload_n (pc := 43) (i := 0) d_Ms_findFertileNames_43 rfl rfl ?_
      refine ex_getx (pc := 44) 9 2 ns d_Ms_findFertileNames_44 FL_Ms_67 (Nat.le_of_ble_eq_true rfl) rfl (show ex_u2 iv 7 2 ns 7 2 = ns from u2s) ?_
      refine ex_callV (pc := 47) (M' := M_Mo_spread) (as := [.int (nI 1024), .int ns]) (st := [.ref (9 + 3 * mp i)]) d_Ms_findFertileNames_47 MW_Mo_spread MI_Mo_spread LK_Ms_74 (mo_lt (hmp i (by omega))) (mo_sh (hmp i (by omega))) rfl rfl (ct_Mo_spread l G (ex_u2 iv 7 2 ns) mp sp mo (mp i) (hmp i (by omega)) (nI 1024) ns) (ex_lt_rm (by decide)) ⟨Nat.le_refl _, Nat.le_refl _⟩ rfl rfl (Nat.le_of_ble_eq_true rfl) ?_
      rintro _ _ ⟨rfl, rfl⟩
      refine ex_top (sprF_u7 (mp i) (nI 1024) ns) ?_
      refine ex_callV (pc := 50) (M' := M_Mo_accepts) (as := [.int (sprF iv (mp i) (nI 1024) ns)]) (st := []) d_Ms_findFertileNames_50 MW_Mo_accepts MI_Mo_accepts LK_Ms_53 (mo_lt (hmp i (by omega))) (mo_sh (hmp i (by omega))) rfl rfl (ct_Mo_accepts l G (ex_u2 iv 7 2 ns) mp sp mo (mp i) (hmp i (by omega)) _) (ex_lt_rm (by decide)) ⟨Nat.le_refl _, Nat.le_refl _⟩ rfl rfl (Nat.le_of_ble_eq_true rfl) ?_
      rintro _ _ ⟨rfl, rfl⟩
      refine ex_top (congrArg b2i (accF_u7 (mp i) _)) ?_
      refine ex_if_eq (pc := 53) (tgt := 68) d_Ms_findFertileNames_53 rfl (fun c53 => ?_) (fun c53 => ?_)
      · refine ex_iinc (pc := 68) (v := (nI (i + 1))) d_Ms_findFertileNames_68 rfl (nI_1 i) (by decide) ?_
        refine ex_goto (pc := 71) (tgt := 20) d_Ms_findFertileNames_71 rfl ?_
        exact ih (i + 1) _ _ (by omega) (by rw [if_neg (by rw [b2i_0 c53]; decide)] at hv; exact hv)
      · refine ex_aload_n (pc := 56) (i := 0) d_Ms_findFertileNames_56 rfl rfl ?_
        refine ex_dup (pc := 57) d_Ms_findFertileNames_57 rfl ?_
        refine ex_getx (pc := 58) 9 2 ns d_Ms_findFertileNames_58 FL_Ms_67 (Nat.le_of_ble_eq_true rfl) rfl (show ex_u2 iv 7 2 ns 7 2 = ns from u2s) ?_
        refine ex_iconst (pc := 61) (v := (nI 1)) d_Ms_findFertileNames_61 (by decide) ?_
        refine ex_iload_n (pc := 62) (i := 3) d_Ms_findFertileNames_62 rfl rfl ?_
        refine ex_ishl (pc := 63) d_Ms_findFertileNames_63 ?_
        refine ex_ior (pc := 64) d_Ms_findFertileNames_64 ?_
        refine ex_puti (pc := 65) 9 2 .int d_Ms_findFertileNames_65 (PF_Ms_67 _) (Nat.le_of_ble_eq_true rfl) rfl rfl rfl ?_
        refine ex_heap (congrArg (fun z => HP z mp sp mo) u2u2) ?_
        refine ex_iinc (pc := 68) (v := (nI (i + 1))) d_Ms_findFertileNames_68 rfl (nI_1 i) (by decide) ?_
        refine ex_goto (pc := 71) (tgt := 20) d_Ms_findFertileNames_71 rfl ?_
        exact ih (i + 1) _ _ (by omega) (by rw [if_pos (b2i_1 c53)] at hv; exact hv)

set_option maxRecDepth 100000 in
set_option maxHeartbeats 4000000 in
theorem lp_Ms_findFertileNames {p : Program} {e : Env} {s : State} {m : MethodId} {args : Array Value} {below : List Frame} {meth : Method} {c : Code} (l : Launch) (G : ex_G) (iv : Nat → Nat → Int32) (mp : Nat → Nat) (sp mo : Nat) (hmp : ∀ k, k < 9 → mp k < 10) (v : Int32) : ∀ (k rd : Nat) (ns : Int32) (u2 u3 u4 : Option Value), rd + k = 8 → spr (fun z => frcM iv mp 8 0 z) k ns = v → EXM M_Ms_findFertileNames l G 3 (fun r h' => h' = HP (ex_u2 iv 7 2 v) mp sp mo ∧ r = none) p e s m args below meth c 7 [some (.ref 7), some (.int (nI rd)), u2, u3, u4] [] (HP (ex_u2 iv 7 2 ns) mp sp mo) := by
  intro k
  induction k with
  | zero =>
    intro rd ns u2 u3 u4 hik hv
    have hv2 : ns = v := hv
    subst hv2
    refine ex_iload_n (pc := 7) (i := 1) d_Ms_findFertileNames_7 rfl rfl ?_
    refine ex_bipush (pc := 8) (v := (nI 8)) d_Ms_findFertileNames_8 (by decide) ?_
    refine ex_icmp_ge (pc := 10) (tgt := 91) d_Ms_findFertileNames_10 rfl (fun c10 => ?_) (fun c10 => ?_)
    · refine ex_vret d_Ms_findFertileNames_91 rfl rfl (Nat.le_refl _) ?_
      exact ⟨rfl, rfl⟩
    · exact absurd ((n_ge (by omega) (by omega)).mpr (by omega)) c10
  | succ k ih =>
    intro rd ns u2 u3 u4 hik hv
    rw [spr] at hv
    refine ex_iload_n (pc := 7) (i := 1) d_Ms_findFertileNames_7 rfl rfl ?_
    refine ex_bipush (pc := 8) (v := (nI 8)) d_Ms_findFertileNames_8 (by decide) ?_
    refine ex_icmp_ge (pc := 10) (tgt := 91) d_Ms_findFertileNames_10 rfl (fun c10 => ?_) (fun c10 => ?_)
    · exact absurd ((n_ge (by omega) (by omega)).mp c10) (by omega)
    · refine ex_aload_n (pc := 13) (i := 0) d_Ms_findFertileNames_13 rfl rfl ?_
      refine ex_getx (pc := 14) 9 2 ns d_Ms_findFertileNames_14 FL_Ms_67 (Nat.le_of_ble_eq_true rfl) rfl (show ex_u2 iv 7 2 ns 7 2 = ns from u2s) ?_
      refine ex_istore_n (pc := 17) (i := 2) d_Ms_findFertileNames_17 rfl (by decide) ?_
      refine ex_iconst (pc := 18) (v := (nI 0)) d_Ms_findFertileNames_18 (by decide) ?_
      refine ex_istore_n (pc := 19) (i := 3) d_Ms_findFertileNames_19 rfl (by decide) ?_
      refine lq_Ms_findFertileNames l G iv mp sp mo hmp (frcM iv mp 8 0 ns) _ rd ns (fun u => ?_) 8 0 ns _ (by omega) rfl
      refine ex_aload_n (pc := 74) (i := 0) d_Ms_findFertileNames_74 rfl rfl ?_
      refine ex_getx (pc := 75) 9 2 (frcM iv mp 8 0 ns) d_Ms_findFertileNames_75 FL_Ms_67 (Nat.le_of_ble_eq_true rfl) rfl (show ex_u2 iv 7 2 (frcM iv mp 8 0 ns) 7 2 = frcM iv mp 8 0 ns from u2s) ?_
      refine ex_iload_n (pc := 78) (i := 2) d_Ms_findFertileNames_78 rfl rfl ?_
      refine ex_icmp_ne (pc := 79) (tgt := 85) d_Ms_findFertileNames_79 rfl (fun c79 => ?_) (fun c79 => ?_)
      · refine ex_iinc (pc := 85) (v := (nI (rd + 1))) d_Ms_findFertileNames_85 rfl (nI_1 rd) (by decide) ?_
        refine ex_goto (pc := 88) (tgt := 7) d_Ms_findFertileNames_88 rfl ?_
        exact ih (rd + 1) _ _ _ _ (by omega) (by rw [if_neg c79] at hv; exact hv)
      · refine ex_goto (pc := 82) (tgt := 91) d_Ms_findFertileNames_82 rfl ?_
        refine ex_vret d_Ms_findFertileNames_91 rfl rfl (Nat.le_refl _) ?_
        exact ⟨by rw [if_pos c79] at hv; rw [← hv, c79], rfl⟩

set_option maxRecDepth 100000 in
set_option maxHeartbeats 4000000 in
theorem ct_Ms_findFertileNames (l : Launch) (G : ex_G) (iv : Nat → Nat → Int32) (mp : Nat → Nat) (sp mo : Nat) (hmp : ∀ k, k < 9 → mp k < 10) : CT l G 3 M_Ms_findFertileNames [.ref 7] (HP iv mp sp mo) 0 0 (fun r h' => h' = HP (ex_u2 iv 7 2 (frcF iv mp)) mp sp mo ∧ r = none) := by
  refine ex_enter (by decide) (Nat.le_of_ble_eq_true rfl) (fun v hv => by simp at hv; rcases hv with rfl <;> rfl) (fun p e s m args below meth c => ?_)
  refine ex_aload_n (pc := 0) (i := 0) d_Ms_findFertileNames_0 rfl rfl ?_
  refine ex_iconst (pc := 1) (v := (nI 0)) d_Ms_findFertileNames_1 (by decide) ?_
  refine ex_puti (pc := 2) 9 2 .int d_Ms_findFertileNames_2 (PF_Ms_67 _) (Nat.le_of_ble_eq_true rfl) rfl rfl rfl ?_
  refine ex_iconst (pc := 5) (v := (nI 0)) d_Ms_findFertileNames_5 (by decide) ?_
  refine ex_istore_n (pc := 6) (i := 1) d_Ms_findFertileNames_6 rfl (by decide) ?_
  exact lp_Ms_findFertileNames l G iv mp sp mo hmp _ 8 0 (nI 0) _ _ _ (by omega) rfl

set_option maxRecDepth 100000 in
set_option maxHeartbeats 4000000 in
theorem ct_Ms_useSpareFor (l : Launch) (G : ex_G) (iv : Nat → Nat → Int32) (mp : Nat → Nat) (sp mo : Nat) (hmp : ∀ k, k < 9 → mp k < 10) (hsp : sp < 10) (y : Int32) : CT l G 4 M_Ms_useSpareFor [.ref 7, .int y] (HP iv mp sp mo) 0 0 (fun r h' => h' = HP (ex_u2 iv 7 2 (frcF iv (va_up mp (rowN y) sp))) (va_up mp (rowN y) sp) (mp (rowN y)) mo ∧ r = none) := by
  refine ex_enter (by decide) (Nat.le_of_ble_eq_true rfl) (fun v hv => by simp at hv; rcases hv with rfl | rfl <;> rfl) (fun p e s m args below meth c => ?_)
  have hmp2 : ∀ k, k < 9 → va_up mp (rowN y) sp k < 10 := by
    intro k hk
    by_cases e1 : k = rowN y
    · rw [e1, va_up_self]
      exact hsp
    · rw [va_up_ne _ _ e1]
      exact hmp k hk
  refine ex_aload_n (pc := 0) (i := 0) d_Ms_useSpareFor_0 rfl rfl ?_
  refine ex_getr (pc := 1) 9 0 d_Ms_useSpareFor_1 FL_Ms_11 (Nat.le_of_ble_eq_true rfl) rfl rfl ?_
  refine ex_iload_n (pc := 4) (i := 1) d_Ms_useSpareFor_4 rfl rfl ?_
  refine ex_callS (pc := 5) (M' := M_Ms_rowOf) (as := [.int y]) (st := [.ref 8]) d_Ms_useSpareFor_5 MW_Ms_rowOf ST_Ms_rowOf LK_Ms_22 (ct_Ms_rowOf l G (HP iv mp sp mo) y) (ex_lt_rm (by decide)) ⟨Nat.le_refl _, Nat.le_refl _⟩ rfl rfl (Nat.le_of_ble_eq_true rfl) ?_
  rintro _ _ ⟨rfl, rfl⟩
  refine ex_aald (pc := 8) (rowN y) d_Ms_useSpareFor_8 (Nat.le_of_ble_eq_true rfl) rfl rfl rfl (nI_t (by have := rowN_lt y; omega)) (show rowN y < 9 from rowN_lt y) (us_rf (rowN_lt y)) ?_
  refine ex_astore_n (pc := 9) (i := 2) d_Ms_useSpareFor_9 rfl (by decide) ?_
  refine ex_aload_n (pc := 10) (i := 0) d_Ms_useSpareFor_10 rfl rfl ?_
  refine ex_getr (pc := 11) 9 0 d_Ms_useSpareFor_11 FL_Ms_11 (Nat.le_of_ble_eq_true rfl) rfl rfl ?_
  refine ex_iload_n (pc := 14) (i := 1) d_Ms_useSpareFor_14 rfl rfl ?_
  refine ex_callS (pc := 15) (M' := M_Ms_rowOf) (as := [.int y]) (st := [.ref 8]) d_Ms_useSpareFor_15 MW_Ms_rowOf ST_Ms_rowOf LK_Ms_22 (ct_Ms_rowOf l G (HP iv mp sp mo) y) (ex_lt_rm (by decide)) ⟨Nat.le_refl _, Nat.le_refl _⟩ rfl rfl (Nat.le_of_ble_eq_true rfl) ?_
  rintro _ _ ⟨rfl, rfl⟩
  refine ex_aload_n (pc := 18) (i := 0) d_Ms_useSpareFor_18 rfl rfl ?_
  refine ex_getr (pc := 19) 9 1 d_Ms_useSpareFor_19 FL_Ms_18 (Nat.le_of_ble_eq_true rfl) rfl rfl ?_
  refine ex_aast (pc := 22) (rowN y) d_Ms_useSpareFor_22 (Nat.le_of_ble_eq_true rfl) rfl rfl rfl (mo_lt hsp) (mo_sh hsp) rfl (nI_t (by have := rowN_lt y; omega)) (show rowN y < 9 from rowN_lt y) ?_
  refine ex_heap (hp_mp (rowN_lt y)) ?_
  refine ex_aload_n (pc := 23) (i := 0) d_Ms_useSpareFor_23 rfl rfl ?_
  refine ex_aload_n (pc := 24) (i := 2) d_Ms_useSpareFor_24 rfl rfl ?_
  refine ex_putr (pc := 25) 9 1 _ d_Ms_useSpareFor_25 (PF_Ms_18 _) (Nat.le_of_ble_eq_true rfl) rfl rfl rfl ?_
  refine ex_heap hp_sp ?_
  refine ex_aload_n (pc := 28) (i := 0) d_Ms_useSpareFor_28 rfl rfl ?_
  refine ex_callV (pc := 29) (M' := M_Ms_findFertileNames) (as := []) (st := []) d_Ms_useSpareFor_29 MW_Ms_findFertileNames MI_Ms_findFertileNames LK_Ms_26 (Nat.le_of_ble_eq_true rfl) rfl rfl rfl (ct_Ms_findFertileNames l G iv (va_up mp (rowN y) sp) (mp (rowN y)) mo hmp2) (ex_lt_rm (by decide)) ⟨Nat.le_refl _, Nat.le_refl _⟩ rfl rfl (Nat.le_of_ble_eq_true rfl) ?_
  rintro _ _ ⟨rfl, rfl⟩
  refine ex_vret d_Ms_useSpareFor_32 rfl rfl (Nat.le_refl _) ?_
  exact ⟨rfl, rfl⟩

/-- what define leaves and answers -/
def tooB (iv : Nat → Nat → Int32) (n : Nat) : Bool := decide (10 < cntF (fun q => nmB (iv 2 q)) n 0 0) || decide (6 < cntF (fun q => !nmB (iv 2 q) && decide (iv 2 q = nI 40)) n 0 0)
def DfP (iv : Nat → Nat → Int32) (mp : Nat → Nat) (sp mo n : Nat) (f : Nat → Int32) (sk : Bool) (y : Int32) (r : Option Value) (h' : ex_H) : Prop :=
  ((y = nI 46 ∨ nmB y = true) → tooB iv n = false → ∃ iv' r', RdP iv sp n f sk r' iv' ∧
    ((r' = some (.int (-1)) ∧ r = r' ∧ h' = HP (ex_u2 iv' 1 1 (nI 0)) mp sp (9 + 3 * sp)) ∨
     (r' = some (.int (nI 0)) ∧ r = r' ∧ h' = HP (ex_u2 (ex_u2 (ex_u2 iv' 7 2 (frcF iv' (va_up mp (rowN y) sp))) 0 9 (nI 1)) 1 1 (nI 0)) (va_up mp (rowN y) sp) (mp (rowN y)) (9 + 3 * sp)))) ∧
  ((y = nI 46 ∨ nmB y = true) → tooB iv n = true → r = some (.int (-2)) ∧ h' = HP (ex_u2 iv 1 1 (nI 0)) mp sp mo) ∧
  (¬ (y = nI 46 ∨ nmB y = true) → r = some (.int (-1)) ∧ h' = HP (ex_u2 iv 1 1 (nI 0)) mp sp mo)
theorem nm46 : nmB (nI 46) = false := by decide
set_option maxRecDepth 100000 in
set_option maxHeartbeats 4000000 in
theorem ct_TG_define (l : Launch) (G : ex_G) (iv : Nat → Nat → Int32) (mp : Nat → Nat) (sp mo : Nat) (hmp : ∀ k, k < 9 → mp k < 10) (hsp : sp < 10) (n : Nat) (f : Nat → Int32) (hd : DrI iv n f) (sk : Bool) (hsk : iv 3 5 = b2i sk) (y : Int32) : CT l G 25 M_TG_define [.ref 0, .int y] (HP iv mp sp mo) 0 0 (fun r h' => DfP iv mp sp mo n f sk y r h') := by
  refine ex_enter (by decide) (Nat.le_of_ble_eq_true rfl) (fun v hv => by simp at hv; rcases hv with rfl | rfl <;> rfl) (fun p e s m args below meth c => ?_)
  refine ex_iconst (pc := 0) (v := (-1)) d_TG_define_0 (by decide) ?_
  refine ex_istore_n (pc := 1) (i := 2) d_TG_define_1 rfl (by decide) ?_
  refine ex_iload_n (pc := 2) (i := 1) d_TG_define_2 rfl rfl ?_
  refine ex_bipush (pc := 3) (v := (nI 46)) d_TG_define_3 (by decide) ?_
  refine ex_icmp_eq (pc := 5) (tgt := 15) d_TG_define_5 rfl (fun c5 => ?_) (fun c5 => ?_)
  · refine ex_aload_n (pc := 15) (i := 0) d_TG_define_15 rfl rfl ?_
    refine ex_getr (pc := 16) 0 0 d_TG_define_16 FL_TG_12 (Nat.le_of_ble_eq_true rfl) rfl rfl ?_
    refine ex_callV (pc := 19) (M' := M_Dr_isTooLarge) (as := []) (st := []) d_TG_define_19 MW_Dr_isTooLarge MI_Dr_isTooLarge LK_TG_90 (Nat.le_of_ble_eq_true rfl) rfl rfl rfl (ct_Dr_isTooLarge l G iv mp sp mo n hd.2.1 hd.1) (ex_lt_rm (by decide)) ⟨Nat.le_refl _, Nat.le_refl _⟩ rfl rfl (Nat.le_of_ble_eq_true rfl) ?_
    rintro _ _ ⟨rfl, rfl⟩
    refine ex_top (show _ = b2i (tooB iv n) from rfl) ?_
    refine ex_if_eq (pc := 22) (tgt := 30) d_TG_define_22 rfl (fun c22 => ?_) (fun c22 => ?_)
    · refine ex_aload_n (pc := 30) (i := 0) d_TG_define_30 rfl rfl ?_
      refine ex_getr (pc := 31) 0 1 d_TG_define_31 FL_TG_21 (Nat.le_of_ble_eq_true rfl) rfl rfl ?_
      refine ex_aload_n (pc := 34) (i := 0) d_TG_define_34 rfl rfl ?_
      refine ex_getr (pc := 35) 0 2 d_TG_define_35 FL_TG_28 (Nat.le_of_ble_eq_true rfl) rfl rfl ?_
      refine ex_getr (pc := 38) 9 1 d_TG_define_38 FL_TG_94 (Nat.le_of_ble_eq_true rfl) rfl rfl ?_
      refine ex_callV (pc := 41) (M' := M_Mr_readInto) (as := [.ref (9 + 3 * sp)]) (st := []) d_TG_define_41 MW_Mr_readInto MI_Mr_readInto LK_TG_98 (Nat.le_of_ble_eq_true rfl) rfl rfl rfl (ct_Mr_readInto l G iv mp sp mo sp hsp n f hd sk hsk) (ex_lt_rm (by decide)) ⟨Nat.le_refl _, Nat.le_refl _⟩ rfl rfl (Nat.le_of_ble_eq_true rfl) ?_
      rintro r1 _ ⟨iv1, rfl, hR⟩
      have hr1 : r1 = some (.int (nI 0)) ∨ r1 = some (.int (-1)) := by
        rcases hR with z | z | z
        · exact Or.inl z.2.1
        · obtain ⟨_, S2, _, _, z3, _⟩ := z
          exact Or.inl z3
        · exact Or.inr z.2.2.1
      obtain ⟨v1, rfl, hv1⟩ : ∃ v1, r1 = some (.int v1) ∧ (v1 = nI 0 ∨ v1 = -1) := by
        rcases hr1 with z | z
        · exact ⟨_, z, Or.inl rfl⟩
        · exact ⟨_, z, Or.inr rfl⟩
      refine ex_istore_n (pc := 44) (i := 2) d_TG_define_44 rfl (by decide) ?_
      refine ex_iload_n (pc := 45) (i := 2) d_TG_define_45 rfl rfl ?_
      refine ex_if_ne (pc := 46) (tgt := 62) d_TG_define_46 rfl (fun c46 => ?_) (fun c46 => ?_)
      · refine ex_aload_n (pc := 62) (i := 0) d_TG_define_62 rfl rfl ?_
        refine ex_getr (pc := 63) 0 0 d_TG_define_63 FL_TG_12 (Nat.le_of_ble_eq_true rfl) rfl rfl ?_
        refine ex_callV (pc := 66) (M' := M_Dr_clear) (as := []) (st := []) d_TG_define_66 MW_Dr_clear MI_Dr_clear LK_TG_106 (Nat.le_of_ble_eq_true rfl) rfl rfl rfl (ct_Dr_clear l G _ _ _ _) (ex_lt_rm (by decide)) ⟨Nat.le_refl _, Nat.le_refl _⟩ rfl rfl (Nat.le_of_ble_eq_true rfl) ?_
        rintro _ _ ⟨rfl, rfl⟩
        refine ex_iload_n (pc := 69) (i := 2) d_TG_define_69 rfl rfl ?_
        refine ex_iret (ty := .int) d_TG_define_70 rfl rfl rfl (Nat.le_refl _) ?_
        refine ⟨fun _ _ => ⟨iv1, some (.int v1), hR, Or.inl ⟨?_, rfl, rfl⟩⟩, fun _ z => (by rw [b2i_0 c22] at z; cases z), fun z => absurd (Or.inl c5) z⟩
        rcases hv1 with z | z
        · exact absurd z c46
        · rw [z]
      · refine ex_aload_n (pc := 49) (i := 0) d_TG_define_49 rfl rfl ?_
        refine ex_getr (pc := 50) 0 2 d_TG_define_50 FL_TG_28 (Nat.le_of_ble_eq_true rfl) rfl rfl ?_
        refine ex_iload_n (pc := 53) (i := 1) d_TG_define_53 rfl rfl ?_
        refine ex_callV (pc := 54) (M' := M_Ms_useSpareFor) (as := [.int y]) (st := []) d_TG_define_54 MW_Ms_useSpareFor MI_Ms_useSpareFor LK_TG_102 (Nat.le_of_ble_eq_true rfl) rfl rfl rfl (ct_Ms_useSpareFor l G iv1 mp sp (9 + 3 * sp) hmp hsp y) (ex_lt_rm (by decide)) ⟨Nat.le_refl _, Nat.le_refl _⟩ rfl rfl (Nat.le_of_ble_eq_true rfl) ?_
        rintro _ _ ⟨rfl, rfl⟩
        refine ex_aload_n (pc := 57) (i := 0) d_TG_define_57 rfl rfl ?_
        refine ex_iconst (pc := 58) (v := (nI 1)) d_TG_define_58 (by decide) ?_
        refine ex_puti (pc := 59) 0 9 .boolean d_TG_define_59 (PF_TG_78 _) (Nat.le_of_ble_eq_true rfl) rfl rfl rfl ?_
        refine ex_aload_n (pc := 62) (i := 0) d_TG_define_62 rfl rfl ?_
        refine ex_getr (pc := 63) 0 0 d_TG_define_63 FL_TG_12 (Nat.le_of_ble_eq_true rfl) rfl rfl ?_
        refine ex_callV (pc := 66) (M' := M_Dr_clear) (as := []) (st := []) d_TG_define_66 MW_Dr_clear MI_Dr_clear LK_TG_106 (Nat.le_of_ble_eq_true rfl) rfl rfl rfl (ct_Dr_clear l G _ _ _ _) (ex_lt_rm (by decide)) ⟨Nat.le_refl _, Nat.le_refl _⟩ rfl rfl (Nat.le_of_ble_eq_true rfl) ?_
        rintro _ _ ⟨rfl, rfl⟩
        refine ex_iload_n (pc := 69) (i := 2) d_TG_define_69 rfl rfl ?_
        refine ex_iret (ty := .int) d_TG_define_70 rfl rfl rfl (Nat.le_refl _) ?_
        have c46b : v1 = nI 0 := c46
        subst c46b
        exact ⟨fun _ _ => ⟨iv1, some (.int (nI 0)), hR, Or.inr ⟨rfl, rfl, rfl⟩⟩, fun _ z => (by rw [b2i_0 c22] at z; cases z), fun z => absurd (Or.inl c5) z⟩
    · refine ex_bipush (pc := 25) (v := (-2)) d_TG_define_25 (by decide) ?_
      refine ex_goto (pc := 27) (tgt := 44) d_TG_define_27 rfl ?_
      refine ex_istore_n (pc := 44) (i := 2) d_TG_define_44 rfl (by decide) ?_
      refine ex_iload_n (pc := 45) (i := 2) d_TG_define_45 rfl rfl ?_
      refine ex_if_ne (pc := 46) (tgt := 62) d_TG_define_46 rfl (fun c46 => ?_) (fun c46 => ?_)
      · refine ex_aload_n (pc := 62) (i := 0) d_TG_define_62 rfl rfl ?_
        refine ex_getr (pc := 63) 0 0 d_TG_define_63 FL_TG_12 (Nat.le_of_ble_eq_true rfl) rfl rfl ?_
        refine ex_callV (pc := 66) (M' := M_Dr_clear) (as := []) (st := []) d_TG_define_66 MW_Dr_clear MI_Dr_clear LK_TG_106 (Nat.le_of_ble_eq_true rfl) rfl rfl rfl (ct_Dr_clear l G _ _ _ _) (ex_lt_rm (by decide)) ⟨Nat.le_refl _, Nat.le_refl _⟩ rfl rfl (Nat.le_of_ble_eq_true rfl) ?_
        rintro _ _ ⟨rfl, rfl⟩
        refine ex_iload_n (pc := 69) (i := 2) d_TG_define_69 rfl rfl ?_
        refine ex_iret (ty := .int) d_TG_define_70 rfl rfl rfl (Nat.le_refl _) ?_
        exact ⟨fun _ z => (by rw [b2i_1 c22] at z; cases z), fun _ _ => ⟨rfl, rfl⟩, fun z => absurd (Or.inl c5) z⟩
      · exact absurd c46 (by decide)
  · refine ex_iload_n (pc := 8) (i := 1) d_TG_define_8 rfl rfl ?_
    refine ex_callS (pc := 9) (M' := M_TG_isName) (as := [.int y]) (st := []) d_TG_define_9 MW_TG_isName ST_TG_isName LK_TG_86 (ct_TG_isName l G (HP iv mp sp mo) y) (ex_lt_rm (by decide)) ⟨Nat.le_refl _, Nat.le_refl _⟩ rfl rfl (Nat.le_of_ble_eq_true rfl) ?_
    rintro _ _ ⟨rfl, rfl⟩
    refine ex_if_eq (pc := 12) (tgt := 45) d_TG_define_12 rfl (fun c12 => ?_) (fun c12 => ?_)
    · refine ex_iload_n (pc := 45) (i := 2) d_TG_define_45 rfl rfl ?_
      refine ex_if_ne (pc := 46) (tgt := 62) d_TG_define_46 rfl (fun c46 => ?_) (fun c46 => ?_)
      · refine ex_aload_n (pc := 62) (i := 0) d_TG_define_62 rfl rfl ?_
        refine ex_getr (pc := 63) 0 0 d_TG_define_63 FL_TG_12 (Nat.le_of_ble_eq_true rfl) rfl rfl ?_
        refine ex_callV (pc := 66) (M' := M_Dr_clear) (as := []) (st := []) d_TG_define_66 MW_Dr_clear MI_Dr_clear LK_TG_106 (Nat.le_of_ble_eq_true rfl) rfl rfl rfl (ct_Dr_clear l G _ _ _ _) (ex_lt_rm (by decide)) ⟨Nat.le_refl _, Nat.le_refl _⟩ rfl rfl (Nat.le_of_ble_eq_true rfl) ?_
        rintro _ _ ⟨rfl, rfl⟩
        refine ex_iload_n (pc := 69) (i := 2) d_TG_define_69 rfl rfl ?_
        refine ex_iret (ty := .int) d_TG_define_70 rfl rfl rfl (Nat.le_refl _) ?_
        have hno : ¬ (y = nI 46 ∨ nmB y = true) := fun z => z.elim c5 (fun q => by rw [b2i_0 c12] at q; cases q)
        exact ⟨fun z => absurd z hno, fun z => absurd z hno, fun _ => ⟨rfl, rfl⟩⟩
      · exact absurd c46 (by decide)
    · refine ex_aload_n (pc := 15) (i := 0) d_TG_define_15 rfl rfl ?_
      refine ex_getr (pc := 16) 0 0 d_TG_define_16 FL_TG_12 (Nat.le_of_ble_eq_true rfl) rfl rfl ?_
      refine ex_callV (pc := 19) (M' := M_Dr_isTooLarge) (as := []) (st := []) d_TG_define_19 MW_Dr_isTooLarge MI_Dr_isTooLarge LK_TG_90 (Nat.le_of_ble_eq_true rfl) rfl rfl rfl (ct_Dr_isTooLarge l G iv mp sp mo n hd.2.1 hd.1) (ex_lt_rm (by decide)) ⟨Nat.le_refl _, Nat.le_refl _⟩ rfl rfl (Nat.le_of_ble_eq_true rfl) ?_
      rintro _ _ ⟨rfl, rfl⟩
      refine ex_top (show _ = b2i (tooB iv n) from rfl) ?_
      refine ex_if_eq (pc := 22) (tgt := 30) d_TG_define_22 rfl (fun c22 => ?_) (fun c22 => ?_)
      · refine ex_aload_n (pc := 30) (i := 0) d_TG_define_30 rfl rfl ?_
        refine ex_getr (pc := 31) 0 1 d_TG_define_31 FL_TG_21 (Nat.le_of_ble_eq_true rfl) rfl rfl ?_
        refine ex_aload_n (pc := 34) (i := 0) d_TG_define_34 rfl rfl ?_
        refine ex_getr (pc := 35) 0 2 d_TG_define_35 FL_TG_28 (Nat.le_of_ble_eq_true rfl) rfl rfl ?_
        refine ex_getr (pc := 38) 9 1 d_TG_define_38 FL_TG_94 (Nat.le_of_ble_eq_true rfl) rfl rfl ?_
        refine ex_callV (pc := 41) (M' := M_Mr_readInto) (as := [.ref (9 + 3 * sp)]) (st := []) d_TG_define_41 MW_Mr_readInto MI_Mr_readInto LK_TG_98 (Nat.le_of_ble_eq_true rfl) rfl rfl rfl (ct_Mr_readInto l G iv mp sp mo sp hsp n f hd sk hsk) (ex_lt_rm (by decide)) ⟨Nat.le_refl _, Nat.le_refl _⟩ rfl rfl (Nat.le_of_ble_eq_true rfl) ?_
        rintro r1 _ ⟨iv1, rfl, hR⟩
        have hr1 : r1 = some (.int (nI 0)) ∨ r1 = some (.int (-1)) := by
          rcases hR with z | z | z
          · exact Or.inl z.2.1
          · obtain ⟨_, S2, _, _, z3, _⟩ := z
            exact Or.inl z3
          · exact Or.inr z.2.2.1
        obtain ⟨v1, rfl, hv1⟩ : ∃ v1, r1 = some (.int v1) ∧ (v1 = nI 0 ∨ v1 = -1) := by
          rcases hr1 with z | z
          · exact ⟨_, z, Or.inl rfl⟩
          · exact ⟨_, z, Or.inr rfl⟩
        refine ex_istore_n (pc := 44) (i := 2) d_TG_define_44 rfl (by decide) ?_
        refine ex_iload_n (pc := 45) (i := 2) d_TG_define_45 rfl rfl ?_
        refine ex_if_ne (pc := 46) (tgt := 62) d_TG_define_46 rfl (fun c46 => ?_) (fun c46 => ?_)
        · refine ex_aload_n (pc := 62) (i := 0) d_TG_define_62 rfl rfl ?_
          refine ex_getr (pc := 63) 0 0 d_TG_define_63 FL_TG_12 (Nat.le_of_ble_eq_true rfl) rfl rfl ?_
          refine ex_callV (pc := 66) (M' := M_Dr_clear) (as := []) (st := []) d_TG_define_66 MW_Dr_clear MI_Dr_clear LK_TG_106 (Nat.le_of_ble_eq_true rfl) rfl rfl rfl (ct_Dr_clear l G _ _ _ _) (ex_lt_rm (by decide)) ⟨Nat.le_refl _, Nat.le_refl _⟩ rfl rfl (Nat.le_of_ble_eq_true rfl) ?_
          rintro _ _ ⟨rfl, rfl⟩
          refine ex_iload_n (pc := 69) (i := 2) d_TG_define_69 rfl rfl ?_
          refine ex_iret (ty := .int) d_TG_define_70 rfl rfl rfl (Nat.le_refl _) ?_
          refine ⟨fun _ _ => ⟨iv1, some (.int v1), hR, Or.inl ⟨?_, rfl, rfl⟩⟩, fun _ z => (by rw [b2i_0 c22] at z; cases z), fun z => absurd (Or.inr (b2i_1 c12)) z⟩
          rcases hv1 with z | z
          · exact absurd z c46
          · rw [z]
        · refine ex_aload_n (pc := 49) (i := 0) d_TG_define_49 rfl rfl ?_
          refine ex_getr (pc := 50) 0 2 d_TG_define_50 FL_TG_28 (Nat.le_of_ble_eq_true rfl) rfl rfl ?_
          refine ex_iload_n (pc := 53) (i := 1) d_TG_define_53 rfl rfl ?_
          refine ex_callV (pc := 54) (M' := M_Ms_useSpareFor) (as := [.int y]) (st := []) d_TG_define_54 MW_Ms_useSpareFor MI_Ms_useSpareFor LK_TG_102 (Nat.le_of_ble_eq_true rfl) rfl rfl rfl (ct_Ms_useSpareFor l G iv1 mp sp (9 + 3 * sp) hmp hsp y) (ex_lt_rm (by decide)) ⟨Nat.le_refl _, Nat.le_refl _⟩ rfl rfl (Nat.le_of_ble_eq_true rfl) ?_
          rintro _ _ ⟨rfl, rfl⟩
          refine ex_aload_n (pc := 57) (i := 0) d_TG_define_57 rfl rfl ?_
          refine ex_iconst (pc := 58) (v := (nI 1)) d_TG_define_58 (by decide) ?_
          refine ex_puti (pc := 59) 0 9 .boolean d_TG_define_59 (PF_TG_78 _) (Nat.le_of_ble_eq_true rfl) rfl rfl rfl ?_
          refine ex_aload_n (pc := 62) (i := 0) d_TG_define_62 rfl rfl ?_
          refine ex_getr (pc := 63) 0 0 d_TG_define_63 FL_TG_12 (Nat.le_of_ble_eq_true rfl) rfl rfl ?_
          refine ex_callV (pc := 66) (M' := M_Dr_clear) (as := []) (st := []) d_TG_define_66 MW_Dr_clear MI_Dr_clear LK_TG_106 (Nat.le_of_ble_eq_true rfl) rfl rfl rfl (ct_Dr_clear l G _ _ _ _) (ex_lt_rm (by decide)) ⟨Nat.le_refl _, Nat.le_refl _⟩ rfl rfl (Nat.le_of_ble_eq_true rfl) ?_
          rintro _ _ ⟨rfl, rfl⟩
          refine ex_iload_n (pc := 69) (i := 2) d_TG_define_69 rfl rfl ?_
          refine ex_iret (ty := .int) d_TG_define_70 rfl rfl rfl (Nat.le_refl _) ?_
          have c46b : v1 = nI 0 := c46
          subst c46b
          exact ⟨fun _ _ => ⟨iv1, some (.int (nI 0)), hR, Or.inr ⟨rfl, rfl, rfl⟩⟩, fun _ z => (by rw [b2i_0 c22] at z; cases z), fun z => absurd (Or.inr (b2i_1 c12)) z⟩
      · refine ex_bipush (pc := 25) (v := (-2)) d_TG_define_25 (by decide) ?_
        refine ex_goto (pc := 27) (tgt := 44) d_TG_define_27 rfl ?_
        refine ex_istore_n (pc := 44) (i := 2) d_TG_define_44 rfl (by decide) ?_
        refine ex_iload_n (pc := 45) (i := 2) d_TG_define_45 rfl rfl ?_
        refine ex_if_ne (pc := 46) (tgt := 62) d_TG_define_46 rfl (fun c46 => ?_) (fun c46 => ?_)
        · refine ex_aload_n (pc := 62) (i := 0) d_TG_define_62 rfl rfl ?_
          refine ex_getr (pc := 63) 0 0 d_TG_define_63 FL_TG_12 (Nat.le_of_ble_eq_true rfl) rfl rfl ?_
          refine ex_callV (pc := 66) (M' := M_Dr_clear) (as := []) (st := []) d_TG_define_66 MW_Dr_clear MI_Dr_clear LK_TG_106 (Nat.le_of_ble_eq_true rfl) rfl rfl rfl (ct_Dr_clear l G _ _ _ _) (ex_lt_rm (by decide)) ⟨Nat.le_refl _, Nat.le_refl _⟩ rfl rfl (Nat.le_of_ble_eq_true rfl) ?_
          rintro _ _ ⟨rfl, rfl⟩
          refine ex_iload_n (pc := 69) (i := 2) d_TG_define_69 rfl rfl ?_
          refine ex_iret (ty := .int) d_TG_define_70 rfl rfl rfl (Nat.le_refl _) ?_
          exact ⟨fun _ z => (by rw [b2i_1 c22] at z; cases z), fun _ _ => ⟨rfl, rfl⟩, fun z => absurd (Or.inr (b2i_1 c12)) z⟩
        · exact absurd c46 (by decide)

