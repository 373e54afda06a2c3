/-! the reader's rest: marks, items, sequences, expressions -/
theorem pTk_y {d : Nat → Int32} {ch : Int32} {S S2 : PS} (h : pTk d ch S = some S2) : d S.pl = ch ∧ S2 = psM (S.pl + 1) S.fi S.la S.sk S.ns S.fo S.sn := by
  unfold pTk at h
  by_cases hc : d S.pl = ch
  · rw [if_pos hc] at h
    cases h
    exact ⟨hc, rfl⟩
  · rw [if_neg hc] at h
    cases h
theorem pTk_n {d : Nat → Int32} {ch : Int32} {S : PS} (h : pTk d ch S = none) : ¬ d S.pl = ch := by
  intro hc
  unfold pTk at h
  rw [if_pos hc] at h
  cases h
set_option maxRecDepth 100000 in
set_option maxHeartbeats 4000000 in
theorem ct_Mr_readMark (l : Launch) (G : ex_G) (iv : Nat → Nat → Int32) (mp : Nat → Nat) (sp j : Nat) (hj : j < 10) (n : Nat) (f : Nat → Int32) (hd : DrI iv n f) (S : PS) (hS : psOk n S) : CT l G 2 M_Mr_readMark [.ref 3] (HP (mrI iv j S) mp sp (9 + 3 * j)) 0 0 (fun r h' => h' = HP (mrI iv j (pMark (dCh f n) S)) mp sp (9 + 3 * j) ∧ r = none) := by
  refine ex_enter (by decide) (Nat.le_of_ble_eq_true rfl) (fun v hv => by simp at hv; rcases hv with rfl <;> rfl) (fun p e s m args below meth c => ?_)
  refine ex_aload_n (pc := 0) (i := 0) d_Mr_readMark_0 rfl rfl ?_
  refine ex_bipush (pc := 1) (v := (nI 63)) d_Mr_readMark_1 (by decide) ?_
  refine ex_callV (pc := 3) (M' := M_Mr_takes) (as := [.int (nI 63)]) (st := []) d_Mr_readMark_3 MW_Mr_takes MI_Mr_takes LK_Mr_29 (Nat.le_of_ble_eq_true rfl) rfl rfl rfl (ct_Mr_takes l G iv mp sp j hj n f hd S hS (nI 63) (by decide)) (ex_lt_rm (by decide)) ⟨Nat.le_refl _, Nat.le_refl _⟩ rfl rfl (Nat.le_of_ble_eq_true rfl) ?_
  rintro _ _ ⟨⟨S1, b1, rfl, rfl, hS1, ht1, hf1⟩, hu1⟩
  refine ex_if_eq (pc := 6) (tgt := 17) d_Mr_readMark_6 rfl (fun c6 => ?_) (fun c6 => ?_)
  · refine ex_heap (hu1 (by rw [b2i_0 c6]; rfl)) ?_
    refine ex_aload_n (pc := 17) (i := 0) d_Mr_readMark_17 rfl rfl ?_
    refine ex_bipush (pc := 18) (v := (nI 42)) d_Mr_readMark_18 (by decide) ?_
    refine ex_callV (pc := 20) (M' := M_Mr_takes) (as := [.int (nI 42)]) (st := []) d_Mr_readMark_20 MW_Mr_takes MI_Mr_takes LK_Mr_29 (Nat.le_of_ble_eq_true rfl) rfl rfl rfl (ct_Mr_takes l G iv mp sp j hj n f hd S hS (nI 42) (by decide)) (ex_lt_rm (by decide)) ⟨Nat.le_refl _, Nat.le_refl _⟩ rfl rfl (Nat.le_of_ble_eq_true rfl) ?_
    rintro _ _ ⟨⟨S2, b2, rfl, rfl, hS2, ht2, hf2⟩, hu2⟩
    refine ex_if_eq (pc := 23) (tgt := 49) d_Mr_readMark_23 rfl (fun c23 => ?_) (fun c23 => ?_)
    · refine ex_heap (hu2 (by rw [b2i_0 c23]; rfl)) ?_
      refine ex_aload_n (pc := 49) (i := 0) d_Mr_readMark_49 rfl rfl ?_
      refine ex_bipush (pc := 50) (v := (nI 43)) d_Mr_readMark_50 (by decide) ?_
      refine ex_callV (pc := 52) (M' := M_Mr_takes) (as := [.int (nI 43)]) (st := []) d_Mr_readMark_52 MW_Mr_takes MI_Mr_takes LK_Mr_29 (Nat.le_of_ble_eq_true rfl) rfl rfl rfl (ct_Mr_takes l G iv mp sp j hj n f hd S hS (nI 43) (by decide)) (ex_lt_rm (by decide)) ⟨Nat.le_refl _, Nat.le_refl _⟩ rfl rfl (Nat.le_of_ble_eq_true rfl) ?_
      rintro _ _ ⟨⟨S3, b3, rfl, rfl, hS3, ht3, hf3⟩, hu3⟩
      refine ex_if_eq (pc := 55) (tgt := 73) d_Mr_readMark_55 rfl (fun c55 => ?_) (fun c55 => ?_)
      · refine ex_vret d_Mr_readMark_73 rfl rfl (Nat.le_refl _) ?_
        have n1 := pTk_n (hf1 (b2i_0 c6))
        have n2 := pTk_n (hf2 (b2i_0 c23))
        have n3 := pTk_n (hf3 (b2i_0 c55))
        exact ⟨by unfold pMark; rw [if_neg n1, if_neg n2, if_neg n3]; exact hu3 (by rw [b2i_0 c55]; rfl), rfl⟩
      · obtain ⟨e3, rfl⟩ := pTk_y (ht3 (b2i_1 c55))
        refine ex_aload_n (pc := 58) (i := 0) d_Mr_readMark_58 rfl rfl ?_
        refine ex_getr (pc := 59) 8 1 d_Mr_readMark_59 FL_Mr_12 (Nat.le_of_ble_eq_true rfl) rfl rfl ?_
        refine ex_aload_n (pc := 62) (i := 0) d_Mr_readMark_62 rfl rfl ?_
        refine ex_getx (pc := 63) 8 4 S.la d_Mr_readMark_63 FL_Mr_53 (Nat.le_of_ble_eq_true rfl) rfl mrI_la ?_
        refine ex_aload_n (pc := 66) (i := 0) d_Mr_readMark_66 rfl rfl ?_
        refine ex_getx (pc := 67) 8 3 S.fi d_Mr_readMark_67 FL_Mr_50 (Nat.le_of_ble_eq_true rfl) rfl mrI_fi ?_
        refine ex_callV (pc := 70) (M' := M_Mo_join) (as := [.int S.la, .int S.fi]) (st := []) d_Mr_readMark_70 MW_Mo_join MI_Mo_join LK_Mr_65 (mo_lt hj) (mo_sh hj) rfl rfl (ct_Mo_join l G (mrI iv j (psM (S.pl + 1) S.fi S.la S.sk S.ns S.fo S.sn)) mp sp (9 + 3 * j) j hj S.la S.fi) (ex_lt_rm (by decide)) ⟨Nat.le_refl _, Nat.le_refl _⟩ rfl rfl (Nat.le_of_ble_eq_true rfl) ?_
        rintro _ _ ⟨rfl, rfl⟩
        refine ex_heap (congrArg (fun z => HP z mp sp (9 + 3 * j)) ((congrArg (fun z => va_up _ (10 + 3 * j) (jnF z S.la S.fi 11)) mrI_fo).trans (mrW_fo _))) ?_
        refine ex_vret d_Mr_readMark_73 rfl rfl (Nat.le_refl _) ?_
        have n1 := pTk_n (hf1 (b2i_0 c6))
        have n2 := pTk_n (hf2 (b2i_0 c23))
        exact ⟨by unfold pMark; rw [if_neg n1, if_neg n2, if_pos e3]; rfl, rfl⟩
    · obtain ⟨e2, rfl⟩ := pTk_y (ht2 (b2i_1 c23))
      refine ex_aload_n (pc := 26) (i := 0) d_Mr_readMark_26 rfl rfl ?_
      refine ex_getr (pc := 27) 8 1 d_Mr_readMark_27 FL_Mr_12 (Nat.le_of_ble_eq_true rfl) rfl rfl ?_
      refine ex_aload_n (pc := 30) (i := 0) d_Mr_readMark_30 rfl rfl ?_
      refine ex_getx (pc := 31) 8 4 S.la d_Mr_readMark_31 FL_Mr_53 (Nat.le_of_ble_eq_true rfl) rfl mrI_la ?_
      refine ex_aload_n (pc := 34) (i := 0) d_Mr_readMark_34 rfl rfl ?_
      refine ex_getx (pc := 35) 8 3 S.fi d_Mr_readMark_35 FL_Mr_50 (Nat.le_of_ble_eq_true rfl) rfl mrI_fi ?_
      refine ex_callV (pc := 38) (M' := M_Mo_join) (as := [.int S.la, .int S.fi]) (st := []) d_Mr_readMark_38 MW_Mo_join MI_Mo_join LK_Mr_65 (mo_lt hj) (mo_sh hj) rfl rfl (ct_Mo_join l G (mrI iv j (psM (S.pl + 1) S.fi S.la S.sk S.ns S.fo S.sn)) mp sp (9 + 3 * j) j hj S.la S.fi) (ex_lt_rm (by decide)) ⟨Nat.le_refl _, Nat.le_refl _⟩ rfl rfl (Nat.le_of_ble_eq_true rfl) ?_
      rintro _ _ ⟨rfl, rfl⟩
      refine ex_heap (congrArg (fun z => HP z mp sp (9 + 3 * j)) ((congrArg (fun z => va_up _ (10 + 3 * j) (jnF z S.la S.fi 11)) mrI_fo).trans (mrW_fo _))) ?_
      refine ex_aload_n (pc := 41) (i := 0) d_Mr_readMark_41 rfl rfl ?_
      refine ex_iconst (pc := 42) (v := (nI 1)) d_Mr_readMark_42 (by decide) ?_
      refine ex_puti (pc := 43) 8 5 .boolean d_Mr_readMark_43 (PF_Mr_56 _) (Nat.le_of_ble_eq_true rfl) rfl rfl rfl ?_
      refine ex_heap (congrArg (fun z => HP z mp sp (9 + 3 * j)) (mrW_sk true)) ?_
      refine ex_goto (pc := 46) (tgt := 73) d_Mr_readMark_46 rfl ?_
      refine ex_vret d_Mr_readMark_73 rfl rfl (Nat.le_refl _) ?_
      have n1 := pTk_n (hf1 (b2i_0 c6))
      exact ⟨by unfold pMark; rw [if_neg n1, if_pos e2]; rfl, rfl⟩
  · obtain ⟨e1, rfl⟩ := pTk_y (ht1 (b2i_1 c6))
    refine ex_aload_n (pc := 9) (i := 0) d_Mr_readMark_9 rfl rfl ?_
    refine ex_iconst (pc := 10) (v := (nI 1)) d_Mr_readMark_10 (by decide) ?_
    refine ex_puti (pc := 11) 8 5 .boolean d_Mr_readMark_11 (PF_Mr_56 _) (Nat.le_of_ble_eq_true rfl) rfl rfl rfl ?_
    refine ex_heap (congrArg (fun z => HP z mp sp (9 + 3 * j)) (mrW_sk true)) ?_
    refine ex_goto (pc := 14) (tgt := 73) d_Mr_readMark_14 rfl ?_
    refine ex_vret d_Mr_readMark_73 rfl rfl (Nat.le_refl _) ?_
    exact ⟨by unfold pMark; rw [if_pos e1]; rfl, rfl⟩

set_option maxRecDepth 100000 in
set_option maxHeartbeats 4000000 in
theorem ct_Mr_readsItem (l : Launch) (G : ex_G) (iv : Nat → Nat → Int32) (mp : Nat → Nat) (sp j : Nat) (hj : j < 10) (n : Nat) (f : Nat → Int32) (hd : DrI iv n f) (x : Int32) (d : Nat) (h2 : 2 ≤ d) (E : PS → Option PS) (hE : ∀ S, psOk n S → CT l G d M_Mr_readsExpression [.ref 3, .int (x + nI 1)] (HP (mrI iv j S) mp sp (9 + 3 * j)) 0 0 (fun r h' => mrP iv j mp sp n (E S) r h')) (S : PS) (hS : psOk n S) : CT l G (d + 1) M_Mr_readsItem [.ref 3, .int x] (HP (mrI iv j S) mp sp (9 + 3 * j)) 0 0 (fun r h' => mrP iv j mp sp n (pItem (dCh f n) E S) r h') := by
  refine ex_enter (by decide) (Nat.le_of_ble_eq_true rfl) (fun v hv => by simp at hv; rcases hv with rfl | rfl <;> rfl) (fun p e s m args below meth c => ?_)
  refine ex_aload_n (pc := 0) (i := 0) d_Mr_readsItem_0 rfl rfl ?_
  refine ex_bipush (pc := 1) (v := (nI 40)) d_Mr_readsItem_1 (by decide) ?_
  refine ex_callV (pc := 3) (M' := M_Mr_takes) (as := [.int (nI 40)]) (st := []) d_Mr_readsItem_3 MW_Mr_takes MI_Mr_takes LK_Mr_29 (Nat.le_of_ble_eq_true rfl) rfl rfl rfl (ct_Mr_takes l G iv mp sp j hj n f hd S hS (nI 40) (by decide)) (ex_lt_rm (by omega)) ⟨Nat.le_refl _, Nat.le_refl _⟩ rfl rfl (Nat.le_of_ble_eq_true rfl) ?_
  rintro _ _ ⟨⟨S1, b1, rfl, rfl, hS1, ht1, hf1⟩, hu1⟩
  refine ex_if_eq (pc := 6) (tgt := 30) d_Mr_readsItem_6 rfl (fun c6 => ?_) (fun c6 => ?_)
  · refine ex_heap (hu1 (by rw [b2i_0 c6]; rfl)) ?_
    refine ex_aload_n (pc := 30) (i := 0) d_Mr_readsItem_30 rfl rfl ?_
    refine ex_callV (pc := 31) (M' := M_Mr_readsName) (as := []) (st := []) d_Mr_readsItem_31 MW_Mr_readsName MI_Mr_readsName LK_Mr_69 (Nat.le_of_ble_eq_true rfl) rfl rfl rfl (ct_Mr_readsName l G iv mp sp j hj n f hd S hS) (ex_lt_rm (by omega)) ⟨Nat.le_refl _, Nat.le_refl _⟩ rfl rfl (Nat.le_of_ble_eq_true rfl) ?_
    rintro _ _ ⟨S4, b4, rfl, rfl, hS4, ht4, hf4⟩
    have hM := hS4
    generalize hMe : S4 = SM at hM ⊢
    refine ex_if_ne (pc := 34) (tgt := 39) d_Mr_readsItem_34 rfl (fun c34 => ?_) (fun c34 => ?_)
    · refine ex_aload_n (pc := 39) (i := 0) d_Mr_readsItem_39 rfl rfl ?_
      refine ex_callV (pc := 40) (M' := M_Mr_readMark) (as := []) (st := []) d_Mr_readsItem_40 MW_Mr_readMark MI_Mr_readMark LK_Mr_73 (Nat.le_of_ble_eq_true rfl) rfl rfl rfl (ct_Mr_readMark l G iv mp sp j hj n f hd SM hM) (ex_lt_rm (by omega)) ⟨Nat.le_refl _, Nat.le_refl _⟩ rfl rfl (Nat.le_of_ble_eq_true rfl) ?_
      rintro _ _ ⟨rfl, rfl⟩
      refine ex_iconst (pc := 43) (v := (nI 1)) d_Mr_readsItem_43 (by decide) ?_
      refine ex_iret (ty := .boolean) d_Mr_readsItem_44 rfl rfl rfl (Nat.le_refl _) ?_
      subst hMe
      exact ⟨_, true, rfl, rfl, pMark_ok hM, fun _ => by unfold pItem; rw [hf1 (b2i_0 c6)]; dsimp only; rw [ht4 (b2i_1 c34)]; rfl, fun z => absurd z (by decide)⟩
    · refine ex_iconst (pc := 37) (v := (nI 0)) d_Mr_readsItem_37 (by decide) ?_
      refine ex_iret (ty := .boolean) d_Mr_readsItem_38 rfl rfl rfl (Nat.le_refl _) ?_
      subst hMe
      exact ⟨S4, false, rfl, rfl, hS4, fun z => absurd z (by decide), fun _ => by unfold pItem; rw [hf1 (b2i_0 c6)]; dsimp only; rw [hf4 (b2i_0 c34)]; rfl⟩
  · refine ex_aload_n (pc := 9) (i := 0) d_Mr_readsItem_9 rfl rfl ?_
    refine ex_iload_n (pc := 10) (i := 1) d_Mr_readsItem_10 rfl rfl ?_
    refine ex_iconst (pc := 11) (v := (nI 1)) d_Mr_readsItem_11 (by decide) ?_
    refine ex_iadd (pc := 12) d_Mr_readsItem_12 ?_
    refine ex_callV (pc := 13) (M' := M_Mr_readsExpression) (as := [.int (x + nI 1)]) (st := []) d_Mr_readsItem_13 MW_Mr_readsExpression MI_Mr_readsExpression LK_Mr_46 (Nat.le_of_ble_eq_true rfl) rfl rfl rfl (hE S1 hS1) (ex_lt_rm (by omega)) ⟨Nat.le_refl _, Nat.le_refl _⟩ rfl rfl (Nat.le_of_ble_eq_true rfl) ?_
    rintro _ _ ⟨S2, b2, rfl, rfl, hS2, ht2, hf2⟩
    refine ex_if_eq (pc := 16) (tgt := 28) d_Mr_readsItem_16 rfl (fun c16 => ?_) (fun c16 => ?_)
    · refine ex_iconst (pc := 28) (v := (nI 0)) d_Mr_readsItem_28 (by decide) ?_
      refine ex_iret (ty := .boolean) d_Mr_readsItem_29 rfl rfl rfl (Nat.le_refl _) ?_
      exact ⟨S2, false, rfl, rfl, hS2, fun z => absurd z (by decide), fun _ => by unfold pItem; rw [ht1 (b2i_1 c6)]; dsimp only; rw [hf2 (b2i_0 c16)]; rfl⟩
    · refine ex_aload_n (pc := 19) (i := 0) d_Mr_readsItem_19 rfl rfl ?_
      refine ex_bipush (pc := 20) (v := (nI 41)) d_Mr_readsItem_20 (by decide) ?_
      refine ex_callV (pc := 22) (M' := M_Mr_takes) (as := [.int (nI 41)]) (st := []) d_Mr_readsItem_22 MW_Mr_takes MI_Mr_takes LK_Mr_29 (Nat.le_of_ble_eq_true rfl) rfl rfl rfl (ct_Mr_takes l G iv mp sp j hj n f hd S2 hS2 (nI 41) (by decide)) (ex_lt_rm (by omega)) ⟨Nat.le_refl _, Nat.le_refl _⟩ rfl rfl (Nat.le_of_ble_eq_true rfl) ?_
      rintro _ _ ⟨⟨S3, b3, rfl, rfl, hS3, ht3, hf3⟩, hu3⟩
      have hM := hS3
      generalize hMe : S3 = SM at hM ⊢
      refine ex_if_ne (pc := 25) (tgt := 39) d_Mr_readsItem_25 rfl (fun c25 => ?_) (fun c25 => ?_)
      · refine ex_aload_n (pc := 39) (i := 0) d_Mr_readsItem_39 rfl rfl ?_
        refine ex_callV (pc := 40) (M' := M_Mr_readMark) (as := []) (st := []) d_Mr_readsItem_40 MW_Mr_readMark MI_Mr_readMark LK_Mr_73 (Nat.le_of_ble_eq_true rfl) rfl rfl rfl (ct_Mr_readMark l G iv mp sp j hj n f hd SM hM) (ex_lt_rm (by omega)) ⟨Nat.le_refl _, Nat.le_refl _⟩ rfl rfl (Nat.le_of_ble_eq_true rfl) ?_
        rintro _ _ ⟨rfl, rfl⟩
        refine ex_iconst (pc := 43) (v := (nI 1)) d_Mr_readsItem_43 (by decide) ?_
        refine ex_iret (ty := .boolean) d_Mr_readsItem_44 rfl rfl rfl (Nat.le_refl _) ?_
        subst hMe
        exact ⟨_, true, rfl, rfl, pMark_ok hM, fun _ => by unfold pItem; rw [ht1 (b2i_1 c6)]; dsimp only; rw [ht2 (b2i_1 c16), Option.bind_some, ht3 (b2i_1 c25)]; rfl, fun z => absurd z (by decide)⟩
      · refine ex_iconst (pc := 28) (v := (nI 0)) d_Mr_readsItem_28 (by decide) ?_
        refine ex_iret (ty := .boolean) d_Mr_readsItem_29 rfl rfl rfl (Nat.le_refl _) ?_
        subst hMe
        exact ⟨S3, false, rfl, rfl, hS3, fun z => absurd z (by decide), fun _ => by unfold pItem; rw [ht1 (b2i_1 c6)]; dsimp only; rw [ht2 (b2i_1 c16), Option.bind_some, hf3 (b2i_0 c25)]; rfl⟩

set_option maxRecDepth 100000 in
set_option maxHeartbeats 4000000 in
theorem lp_Mr_readsSequence {p : Program} {e : Env} {s : State} {m : MethodId} {args : Array Value} {below : List Frame} {meth : Method} {c : Code} (l : Launch) (G : ex_G) (iv : Nat → Nat → Int32) (mp : Nat → Nat) (sp j : Nat) (hj : j < 10) (n : Nat) (f : Nat → Int32) (hd : DrI iv n f) (x : Int32) (d : Nat) (h2 : 2 ≤ d) (I : PS → Option PS) (hI : ∀ S, psOk n S → CT l G d M_Mr_readsItem [.ref 3, .int x] (HP (mrI iv j S) mp sp (9 + 3 * j)) 0 0 (fun r h' => mrP iv j mp sp n (I S) r h')) (o : Option PS) : ∀ (k t : Nat) (S : PS) (hS : psOk n S) (u3 u4 u5 : Option Value), t + k = 40 → pSeqL (dCh f n) I k S = o → EXM M_Mr_readsSequence l G (d + 1) (fun r h' => mrP iv j mp sp n o r h') p e s m args below meth c 12 [some (.ref 3), some (.int x), some (.int (nI t)), u3, u4, u5] [] (HP (mrI iv j S) mp sp (9 + 3 * j)) := by
  intro k
  induction k with
  | zero =>
    intro t S hS u3 u4 u5 htk hv
    refine ex_iload_n (pc := 12) (i := 2) d_Mr_readsSequence_12 rfl rfl ?_
    refine ex_bipush (pc := 13) (v := (nI 40)) d_Mr_readsSequence_13 (by decide) ?_
    refine ex_icmp_ge (pc := 15) (tgt := 138) d_Mr_readsSequence_15 rfl (fun c15 => ?_) (fun c15 => ?_)
    · refine ex_iconst (pc := 138) (v := (nI 1)) d_Mr_readsSequence_138 (by decide) ?_
      refine ex_iret (ty := .boolean) d_Mr_readsSequence_139 rfl rfl rfl (Nat.le_refl _) ?_
      exact ⟨S, true, rfl, rfl, hS, fun _ => hv.symm, fun z => absurd z (by decide)⟩
    · exact absurd ((n_ge (by omega) (by omega)).mpr (by omega)) c15
  | succ k ih =>
    intro t S hS u3 u4 u5 htk hv
    refine ex_iload_n (pc := 12) (i := 2) d_Mr_readsSequence_12 rfl rfl ?_
    refine ex_bipush (pc := 13) (v := (nI 40)) d_Mr_readsSequence_13 (by decide) ?_
    refine ex_icmp_ge (pc := 15) (tgt := 138) d_Mr_readsSequence_15 rfl (fun c15 => ?_) (fun c15 => ?_)
    · exact absurd ((n_ge (by omega) (by omega)).mp c15) (by omega)
    · refine ex_aload_n (pc := 18) (i := 0) d_Mr_readsSequence_18 rfl rfl ?_
      refine ex_bipush (pc := 19) (v := (nI 44)) d_Mr_readsSequence_19 (by decide) ?_
      refine ex_callV (pc := 21) (M' := M_Mr_takes) (as := [.int (nI 44)]) (st := []) d_Mr_readsSequence_21 MW_Mr_takes MI_Mr_takes LK_Mr_29 (Nat.le_of_ble_eq_true rfl) rfl rfl rfl (ct_Mr_takes l G iv mp sp j hj n f hd S hS (nI 44) (by decide)) (ex_lt_rm (by omega)) ⟨Nat.le_refl _, Nat.le_refl _⟩ rfl rfl (Nat.le_of_ble_eq_true rfl) ?_
      rintro _ _ ⟨⟨S1, b1, rfl, rfl, hS1, ht1, hf1⟩, hu1⟩
      refine ex_if_eq (pc := 24) (tgt := 138) d_Mr_readsSequence_24 rfl (fun c24 => ?_) (fun c24 => ?_)
      · refine ex_iconst (pc := 138) (v := (nI 1)) d_Mr_readsSequence_138 (by decide) ?_
        refine ex_iret (ty := .boolean) d_Mr_readsSequence_139 rfl rfl rfl (Nat.le_refl _) ?_
        exact ⟨S, true, hu1 (by rw [b2i_0 c24]; rfl), rfl, hS, fun _ => by rw [← hv, pSeqL, hf1 (b2i_0 c24)], fun z => absurd z (by decide)⟩
      · have hy1 := pTk_y (ht1 (b2i_1 c24))
        have eS1 : S1 = psM (S.pl + 1) S.fi S.la S.sk S.ns S.fo S.sn := hy1.2
        refine ex_aload_n (pc := 27) (i := 0) d_Mr_readsSequence_27 rfl rfl ?_
        refine ex_getx (pc := 28) 8 3 S.fi d_Mr_readsSequence_28 FL_Mr_50 (Nat.le_of_ble_eq_true rfl) rfl ((mrI_fi).trans (by rw [eS1]; rfl)) ?_
        refine ex_istore_n (pc := 31) (i := 3) d_Mr_readsSequence_31 rfl (by decide) ?_
        refine ex_aload_n (pc := 32) (i := 0) d_Mr_readsSequence_32 rfl rfl ?_
        refine ex_getx (pc := 33) 8 4 S.la d_Mr_readsSequence_33 FL_Mr_53 (Nat.le_of_ble_eq_true rfl) rfl ((mrI_la).trans (by rw [eS1]; rfl)) ?_
        refine ex_istore (pc := 36) d_Mr_readsSequence_36 (by decide) ?_
        refine ex_aload_n (pc := 38) (i := 0) d_Mr_readsSequence_38 rfl rfl ?_
        refine ex_getx (pc := 39) 8 5 (b2i S.sk) d_Mr_readsSequence_39 FL_Mr_56 (Nat.le_of_ble_eq_true rfl) rfl ((mrI_sk).trans (by rw [eS1]; rfl)) ?_
        refine ex_istore (pc := 42) d_Mr_readsSequence_42 (by decide) ?_
        refine ex_aload_n (pc := 44) (i := 0) d_Mr_readsSequence_44 rfl rfl ?_
        refine ex_iload_n (pc := 45) (i := 1) d_Mr_readsSequence_45 rfl rfl ?_
        refine ex_callV (pc := 46) (M' := M_Mr_readsItem) (as := [.int x]) (st := []) d_Mr_readsSequence_46 MW_Mr_readsItem MI_Mr_readsItem LK_Mr_62 (Nat.le_of_ble_eq_true rfl) rfl rfl rfl (hI _ hS1) (ex_lt_rm (by omega)) ⟨Nat.le_refl _, Nat.le_refl _⟩ rfl rfl (Nat.le_of_ble_eq_true rfl) ?_
        rintro _ _ ⟨S2, b2, rfl, rfl, hS2, ht2, hf2⟩
        refine ex_if_ne (pc := 49) (tgt := 54) d_Mr_readsSequence_49 rfl (fun c49 => ?_) (fun c49 => ?_)
        · refine ex_aload_n (pc := 54) (i := 0) d_Mr_readsSequence_54 rfl rfl ?_
          refine ex_getr (pc := 55) 8 1 d_Mr_readsSequence_55 FL_Mr_12 (Nat.le_of_ble_eq_true rfl) rfl rfl ?_
          refine ex_iload (pc := 58) d_Mr_readsSequence_58 rfl ?_
          refine ex_aload_n (pc := 60) (i := 0) d_Mr_readsSequence_60 rfl rfl ?_
          refine ex_getx (pc := 61) 8 3 S2.fi d_Mr_readsSequence_61 FL_Mr_50 (Nat.le_of_ble_eq_true rfl) rfl mrI_fi ?_
          refine ex_callV (pc := 64) (M' := M_Mo_join) (as := [.int S.la, .int S2.fi]) (st := []) d_Mr_readsSequence_64 MW_Mo_join MI_Mo_join LK_Mr_65 (mo_lt hj) (mo_sh hj) rfl rfl (ct_Mo_join l G (mrI iv j S2) mp sp (9 + 3 * j) j hj S.la S2.fi) (ex_lt_rm (by omega)) ⟨Nat.le_refl _, Nat.le_refl _⟩ rfl rfl (Nat.le_of_ble_eq_true rfl) ?_
          rintro _ _ ⟨rfl, rfl⟩
          refine ex_heap (congrArg (fun z => HP z mp sp (9 + 3 * j)) ((congrArg (fun z => va_up _ (10 + 3 * j) (jnF z S.la S2.fi 11)) mrI_fo).trans (mrW_fo _))) ?_
          refine ex_aload_n (pc := 67) (i := 0) d_Mr_readsSequence_67 rfl rfl ?_
          refine ex_iload (pc := 68) d_Mr_readsSequence_68 rfl ?_
          refine ex_if_eq (pc := 70) (tgt := 82) d_Mr_readsSequence_70 rfl (fun c70 => ?_) (fun c70 => ?_)
          · refine ex_iload_n (pc := 82) (i := 3) d_Mr_readsSequence_82 rfl rfl ?_
            refine ex_puti (pc := 83) 8 3 .int d_Mr_readsSequence_83 (PF_Mr_50 _) (Nat.le_of_ble_eq_true rfl) rfl rfl rfl ?_
            refine ex_heap (congrArg (fun z => HP z mp sp (9 + 3 * j)) (mrW_fi _)) ?_
            refine ex_aload_n (pc := 86) (i := 0) d_Mr_readsSequence_86 rfl rfl ?_
            refine ex_aload_n (pc := 87) (i := 0) d_Mr_readsSequence_87 rfl rfl ?_
            refine ex_getx (pc := 88) 8 5 (b2i S2.sk) d_Mr_readsSequence_88 FL_Mr_56 (Nat.le_of_ble_eq_true rfl) rfl mrI_sk ?_
            refine ex_if_eq (pc := 91) (tgt := 104) d_Mr_readsSequence_91 rfl (fun c91 => ?_) (fun c91 => ?_)
            · refine ex_aload_n (pc := 104) (i := 0) d_Mr_readsSequence_104 rfl rfl ?_
              refine ex_getx (pc := 105) 8 4 S2.la d_Mr_readsSequence_105 FL_Mr_53 (Nat.le_of_ble_eq_true rfl) rfl mrI_la ?_
              refine ex_puti (pc := 108) 8 4 .int d_Mr_readsSequence_108 (PF_Mr_53 _) (Nat.le_of_ble_eq_true rfl) rfl rfl rfl ?_
              refine ex_heap (congrArg (fun z => HP z mp sp (9 + 3 * j)) (mrW_la _)) ?_
              refine ex_aload_n (pc := 111) (i := 0) d_Mr_readsSequence_111 rfl rfl ?_
              refine ex_aload_n (pc := 112) (i := 0) d_Mr_readsSequence_112 rfl rfl ?_
              refine ex_getx (pc := 113) 8 5 (b2i S2.sk) d_Mr_readsSequence_113 FL_Mr_56 (Nat.le_of_ble_eq_true rfl) rfl mrI_sk ?_
              refine ex_if_eq (pc := 116) (tgt := 128) d_Mr_readsSequence_116 rfl (fun c116 => ?_) (fun c116 => ?_)
              · refine ex_iconst (pc := 128) (v := (nI 0)) d_Mr_readsSequence_128 (by decide) ?_
                refine ex_puti (pc := 129) 8 5 .boolean d_Mr_readsSequence_129 (PF_Mr_56 _) (Nat.le_of_ble_eq_true rfl) rfl rfl rfl ?_
                refine ex_iinc (pc := 132) (v := (nI (t + 1))) d_Mr_readsSequence_132 rfl (nI_1 t) (by decide) ?_
                refine ex_goto (pc := 135) (tgt := 12) d_Mr_readsSequence_135 rfl ?_
                have k1 := b2i_0 c70
                have k2 := b2i_0 c91
                refine ex_heap (congrArg (fun z => HP z mp sp (9 + 3 * j)) (mrW_sk false)) ?_
                refine ex_heap (congrArg (fun z => HP (mrI iv j z) mp sp (9 + 3 * j)) (show _ = pSq S S2 by unfold pSq; rw [k1, k2]; rfl)) ?_
                exact ih (t + 1) (pSq S S2) hS2 _ _ _ (by omega) (by rw [pSeqL, ht1 (b2i_1 c24)] at hv; dsimp only at hv; rw [ht2 (b2i_1 c49), Option.bind_some] at hv; exact hv)
              · exact absurd c91 c116
            · refine ex_iload (pc := 94) d_Mr_readsSequence_94 rfl ?_
              refine ex_aload_n (pc := 96) (i := 0) d_Mr_readsSequence_96 rfl rfl ?_
              refine ex_getx (pc := 97) 8 4 S2.la d_Mr_readsSequence_97 FL_Mr_53 (Nat.le_of_ble_eq_true rfl) rfl mrI_la ?_
              refine ex_ior (pc := 100) d_Mr_readsSequence_100 ?_
              refine ex_goto (pc := 101) (tgt := 108) d_Mr_readsSequence_101 rfl ?_
              refine ex_puti (pc := 108) 8 4 .int d_Mr_readsSequence_108 (PF_Mr_53 _) (Nat.le_of_ble_eq_true rfl) rfl rfl rfl ?_
              refine ex_heap (congrArg (fun z => HP z mp sp (9 + 3 * j)) (mrW_la _)) ?_
              refine ex_aload_n (pc := 111) (i := 0) d_Mr_readsSequence_111 rfl rfl ?_
              refine ex_aload_n (pc := 112) (i := 0) d_Mr_readsSequence_112 rfl rfl ?_
              refine ex_getx (pc := 113) 8 5 (b2i S2.sk) d_Mr_readsSequence_113 FL_Mr_56 (Nat.le_of_ble_eq_true rfl) rfl mrI_sk ?_
              refine ex_if_eq (pc := 116) (tgt := 128) d_Mr_readsSequence_116 rfl (fun c116 => ?_) (fun c116 => ?_)
              · exact absurd c116 (by have k2 := b2i_1 c91; rw [k2]; decide)
              · refine ex_iload (pc := 119) d_Mr_readsSequence_119 rfl ?_
                refine ex_if_eq (pc := 121) (tgt := 128) d_Mr_readsSequence_121 rfl (fun c121 => ?_) (fun c121 => ?_)
                · refine ex_iconst (pc := 128) (v := (nI 0)) d_Mr_readsSequence_128 (by decide) ?_
                  refine ex_puti (pc := 129) 8 5 .boolean d_Mr_readsSequence_129 (PF_Mr_56 _) (Nat.le_of_ble_eq_true rfl) rfl rfl rfl ?_
                  refine ex_iinc (pc := 132) (v := (nI (t + 1))) d_Mr_readsSequence_132 rfl (nI_1 t) (by decide) ?_
                  refine ex_goto (pc := 135) (tgt := 12) d_Mr_readsSequence_135 rfl ?_
                  have k1 := b2i_0 c70
                  have k2 := b2i_1 c91
                  refine ex_heap (congrArg (fun z => HP z mp sp (9 + 3 * j)) (mrW_sk false)) ?_
                  refine ex_heap (congrArg (fun z => HP (mrI iv j z) mp sp (9 + 3 * j)) (show _ = pSq S S2 by unfold pSq; rw [k1, k2]; rfl)) ?_
                  exact ih (t + 1) (pSq S S2) hS2 _ _ _ (by omega) (by rw [pSeqL, ht1 (b2i_1 c24)] at hv; dsimp only at hv; rw [ht2 (b2i_1 c49), Option.bind_some] at hv; exact hv)
                · exact absurd c70 c121
          · refine ex_iload_n (pc := 73) (i := 3) d_Mr_readsSequence_73 rfl rfl ?_
            refine ex_aload_n (pc := 74) (i := 0) d_Mr_readsSequence_74 rfl rfl ?_
            refine ex_getx (pc := 75) 8 3 S2.fi d_Mr_readsSequence_75 FL_Mr_50 (Nat.le_of_ble_eq_true rfl) rfl mrI_fi ?_
            refine ex_ior (pc := 78) d_Mr_readsSequence_78 ?_
            refine ex_goto (pc := 79) (tgt := 83) d_Mr_readsSequence_79 rfl ?_
            refine ex_puti (pc := 83) 8 3 .int d_Mr_readsSequence_83 (PF_Mr_50 _) (Nat.le_of_ble_eq_true rfl) rfl rfl rfl ?_
            refine ex_heap (congrArg (fun z => HP z mp sp (9 + 3 * j)) (mrW_fi _)) ?_
            refine ex_aload_n (pc := 86) (i := 0) d_Mr_readsSequence_86 rfl rfl ?_
            refine ex_aload_n (pc := 87) (i := 0) d_Mr_readsSequence_87 rfl rfl ?_
            refine ex_getx (pc := 88) 8 5 (b2i S2.sk) d_Mr_readsSequence_88 FL_Mr_56 (Nat.le_of_ble_eq_true rfl) rfl mrI_sk ?_
            refine ex_if_eq (pc := 91) (tgt := 104) d_Mr_readsSequence_91 rfl (fun c91 => ?_) (fun c91 => ?_)
            · refine ex_aload_n (pc := 104) (i := 0) d_Mr_readsSequence_104 rfl rfl ?_
              refine ex_getx (pc := 105) 8 4 S2.la d_Mr_readsSequence_105 FL_Mr_53 (Nat.le_of_ble_eq_true rfl) rfl mrI_la ?_
              refine ex_puti (pc := 108) 8 4 .int d_Mr_readsSequence_108 (PF_Mr_53 _) (Nat.le_of_ble_eq_true rfl) rfl rfl rfl ?_
              refine ex_heap (congrArg (fun z => HP z mp sp (9 + 3 * j)) (mrW_la _)) ?_
              refine ex_aload_n (pc := 111) (i := 0) d_Mr_readsSequence_111 rfl rfl ?_
              refine ex_aload_n (pc := 112) (i := 0) d_Mr_readsSequence_112 rfl rfl ?_
              refine ex_getx (pc := 113) 8 5 (b2i S2.sk) d_Mr_readsSequence_113 FL_Mr_56 (Nat.le_of_ble_eq_true rfl) rfl mrI_sk ?_
              refine ex_if_eq (pc := 116) (tgt := 128) d_Mr_readsSequence_116 rfl (fun c116 => ?_) (fun c116 => ?_)
              · refine ex_iconst (pc := 128) (v := (nI 0)) d_Mr_readsSequence_128 (by decide) ?_
                refine ex_puti (pc := 129) 8 5 .boolean d_Mr_readsSequence_129 (PF_Mr_56 _) (Nat.le_of_ble_eq_true rfl) rfl rfl rfl ?_
                refine ex_iinc (pc := 132) (v := (nI (t + 1))) d_Mr_readsSequence_132 rfl (nI_1 t) (by decide) ?_
                refine ex_goto (pc := 135) (tgt := 12) d_Mr_readsSequence_135 rfl ?_
                have k1 := b2i_1 c70
                have k2 := b2i_0 c91
                refine ex_heap (congrArg (fun z => HP z mp sp (9 + 3 * j)) (mrW_sk false)) ?_
                refine ex_heap (congrArg (fun z => HP (mrI iv j z) mp sp (9 + 3 * j)) (show _ = pSq S S2 by unfold pSq; rw [k1, k2]; rfl)) ?_
                exact ih (t + 1) (pSq S S2) hS2 _ _ _ (by omega) (by rw [pSeqL, ht1 (b2i_1 c24)] at hv; dsimp only at hv; rw [ht2 (b2i_1 c49), Option.bind_some] at hv; exact hv)
              · exact absurd c91 c116
            · refine ex_iload (pc := 94) d_Mr_readsSequence_94 rfl ?_
              refine ex_aload_n (pc := 96) (i := 0) d_Mr_readsSequence_96 rfl rfl ?_
              refine ex_getx (pc := 97) 8 4 S2.la d_Mr_readsSequence_97 FL_Mr_53 (Nat.le_of_ble_eq_true rfl) rfl mrI_la ?_
              refine ex_ior (pc := 100) d_Mr_readsSequence_100 ?_
              refine ex_goto (pc := 101) (tgt := 108) d_Mr_readsSequence_101 rfl ?_
              refine ex_puti (pc := 108) 8 4 .int d_Mr_readsSequence_108 (PF_Mr_53 _) (Nat.le_of_ble_eq_true rfl) rfl rfl rfl ?_
              refine ex_heap (congrArg (fun z => HP z mp sp (9 + 3 * j)) (mrW_la _)) ?_
              refine ex_aload_n (pc := 111) (i := 0) d_Mr_readsSequence_111 rfl rfl ?_
              refine ex_aload_n (pc := 112) (i := 0) d_Mr_readsSequence_112 rfl rfl ?_
              refine ex_getx (pc := 113) 8 5 (b2i S2.sk) d_Mr_readsSequence_113 FL_Mr_56 (Nat.le_of_ble_eq_true rfl) rfl mrI_sk ?_
              refine ex_if_eq (pc := 116) (tgt := 128) d_Mr_readsSequence_116 rfl (fun c116 => ?_) (fun c116 => ?_)
              · exact absurd c116 (by have k2 := b2i_1 c91; rw [k2]; decide)
              · refine ex_iload (pc := 119) d_Mr_readsSequence_119 rfl ?_
                refine ex_if_eq (pc := 121) (tgt := 128) d_Mr_readsSequence_121 rfl (fun c121 => ?_) (fun c121 => ?_)
                · exact absurd c121 c70
                · refine ex_iconst (pc := 124) (v := (nI 1)) d_Mr_readsSequence_124 (by decide) ?_
                  refine ex_goto (pc := 125) (tgt := 129) d_Mr_readsSequence_125 rfl ?_
                  refine ex_puti (pc := 129) 8 5 .boolean d_Mr_readsSequence_129 (PF_Mr_56 _) (Nat.le_of_ble_eq_true rfl) rfl rfl rfl ?_
                  refine ex_iinc (pc := 132) (v := (nI (t + 1))) d_Mr_readsSequence_132 rfl (nI_1 t) (by decide) ?_
                  refine ex_goto (pc := 135) (tgt := 12) d_Mr_readsSequence_135 rfl ?_
                  have k1 := b2i_1 c70
                  have k2 := b2i_1 c91
                  refine ex_heap (congrArg (fun z => HP z mp sp (9 + 3 * j)) (mrW_sk true)) ?_
                  refine ex_heap (congrArg (fun z => HP (mrI iv j z) mp sp (9 + 3 * j)) (show _ = pSq S S2 by unfold pSq; rw [k1, k2]; rfl)) ?_
                  exact ih (t + 1) (pSq S S2) hS2 _ _ _ (by omega) (by rw [pSeqL, ht1 (b2i_1 c24)] at hv; dsimp only at hv; rw [ht2 (b2i_1 c49), Option.bind_some] at hv; exact hv)
        · refine ex_iconst (pc := 52) (v := (nI 0)) d_Mr_readsSequence_52 (by decide) ?_
          refine ex_iret (ty := .boolean) d_Mr_readsSequence_53 rfl rfl rfl (Nat.le_refl _) ?_
          exact ⟨S2, false, rfl, rfl, hS2, fun z => absurd z (by decide), fun _ => by rw [← hv, pSeqL, ht1 (b2i_1 c24)]; dsimp only; rw [hf2 (b2i_0 c49)]; rfl⟩

set_option maxRecDepth 100000 in
set_option maxHeartbeats 4000000 in
theorem ct_Mr_readsSequence (l : Launch) (G : ex_G) (iv : Nat → Nat → Int32) (mp : Nat → Nat) (sp j : Nat) (hj : j < 10) (n : Nat) (f : Nat → Int32) (hd : DrI iv n f) (x : Int32) (d : Nat) (h2 : 2 ≤ d) (I : PS → Option PS) (hI : ∀ S, psOk n S → CT l G d M_Mr_readsItem [.ref 3, .int x] (HP (mrI iv j S) mp sp (9 + 3 * j)) 0 0 (fun r h' => mrP iv j mp sp n (I S) r h')) (S : PS) (hS : psOk n S) : CT l G (d + 1) M_Mr_readsSequence [.ref 3, .int x] (HP (mrI iv j S) mp sp (9 + 3 * j)) 0 0 (fun r h' => mrP iv j mp sp n (pSeq (dCh f n) I S) r h') := by
  refine ex_enter (by decide) (Nat.le_of_ble_eq_true rfl) (fun v hv => by simp at hv; rcases hv with rfl | rfl <;> rfl) (fun p e s m args below meth c => ?_)
  refine ex_aload_n (pc := 0) (i := 0) d_Mr_readsSequence_0 rfl rfl ?_
  refine ex_iload_n (pc := 1) (i := 1) d_Mr_readsSequence_1 rfl rfl ?_
  refine ex_callV (pc := 2) (M' := M_Mr_readsItem) (as := [.int x]) (st := []) d_Mr_readsSequence_2 MW_Mr_readsItem MI_Mr_readsItem LK_Mr_62 (Nat.le_of_ble_eq_true rfl) rfl rfl rfl (hI S hS) (ex_lt_rm (by omega)) ⟨Nat.le_refl _, Nat.le_refl _⟩ rfl rfl (Nat.le_of_ble_eq_true rfl) ?_
  rintro _ _ ⟨S1, b1, rfl, rfl, hS1, ht1, hf1⟩
  refine ex_if_ne (pc := 5) (tgt := 10) d_Mr_readsSequence_5 rfl (fun c5 => ?_) (fun c5 => ?_)
  · refine ex_iconst (pc := 10) (v := (nI 0)) d_Mr_readsSequence_10 (by decide) ?_
    refine ex_istore_n (pc := 11) (i := 2) d_Mr_readsSequence_11 rfl (by decide) ?_
    exact lp_Mr_readsSequence l G iv mp sp j hj n f hd x d h2 I hI _ 40 0 S1 hS1 _ _ _ (by omega) (by unfold pSeq; rw [ht1 (b2i_1 c5)]; rfl)
  · refine ex_iconst (pc := 8) (v := (nI 0)) d_Mr_readsSequence_8 (by decide) ?_
    refine ex_iret (ty := .boolean) d_Mr_readsSequence_9 rfl rfl rfl (Nat.le_refl _) ?_
    exact ⟨S1, false, rfl, rfl, hS1, fun z => absurd z (by decide), fun _ => by unfold pSeq; rw [hf1 (b2i_0 c5)]; rfl⟩

set_option maxRecDepth 100000 in
set_option maxHeartbeats 4000000 in
theorem lp_Mr_readsExpression {p : Program} {e : Env} {s : State} {m : MethodId} {args : Array Value} {below : List Frame} {meth : Method} {c : Code} (l : Launch) (G : ex_G) (iv : Nat → Nat → Int32) (mp : Nat → Nat) (sp j : Nat) (hj : j < 10) (n : Nat) (f : Nat → Int32) (hd : DrI iv n f) (x : Int32) (d : Nat) (h2 : 2 ≤ d) (Q : PS → Option PS) (hQ : ∀ S, psOk n S → CT l G d M_Mr_readsSequence [.ref 3, .int x] (HP (mrI iv j S) mp sp (9 + 3 * j)) 0 0 (fun r h' => mrP iv j mp sp n (Q S) r h')) (o : Option PS) : ∀ (k t : Nat) (S : PS) (hS : psOk n S) (u3 u4 u5 : Option Value), t + k = 40 → pExpL (dCh f n) Q k S = o → EXM M_Mr_readsExpression l G (d + 1) (fun r h' => mrP iv j mp sp n o r h') p e s m args below meth c 18 [some (.ref 3), some (.int x), some (.int (nI t)), u3, u4, u5] [] (HP (mrI iv j S) mp sp (9 + 3 * j)) := by
  intro k
  induction k with
  | zero =>
    intro t S hS u3 u4 u5 htk hv
    refine ex_iload_n (pc := 18) (i := 2) d_Mr_readsExpression_18 rfl rfl ?_
    refine ex_bipush (pc := 19) (v := (nI 40)) d_Mr_readsExpression_19 (by decide) ?_
    refine ex_icmp_ge (pc := 21) (tgt := 108) d_Mr_readsExpression_21 rfl (fun c21 => ?_) (fun c21 => ?_)
    · refine ex_iconst (pc := 108) (v := (nI 1)) d_Mr_readsExpression_108 (by decide) ?_
      refine ex_iret (ty := .boolean) d_Mr_readsExpression_109 rfl rfl rfl (Nat.le_refl _) ?_
      exact ⟨S, true, rfl, rfl, hS, fun _ => hv.symm, fun z => absurd z (by decide)⟩
    · exact absurd ((n_ge (by omega) (by omega)).mpr (by omega)) c21
  | succ k ih =>
    intro t S hS u3 u4 u5 htk hv
    refine ex_iload_n (pc := 18) (i := 2) d_Mr_readsExpression_18 rfl rfl ?_
    refine ex_bipush (pc := 19) (v := (nI 40)) d_Mr_readsExpression_19 (by decide) ?_
    refine ex_icmp_ge (pc := 21) (tgt := 108) d_Mr_readsExpression_21 rfl (fun c21 => ?_) (fun c21 => ?_)
    · exact absurd ((n_ge (by omega) (by omega)).mp c21) (by omega)
    · refine ex_aload_n (pc := 24) (i := 0) d_Mr_readsExpression_24 rfl rfl ?_
      refine ex_bipush (pc := 25) (v := (nI 124)) d_Mr_readsExpression_25 (by decide) ?_
      refine ex_callV (pc := 27) (M' := M_Mr_takes) (as := [.int (nI 124)]) (st := []) d_Mr_readsExpression_27 MW_Mr_takes MI_Mr_takes LK_Mr_29 (Nat.le_of_ble_eq_true rfl) rfl rfl rfl (ct_Mr_takes l G iv mp sp j hj n f hd S hS (nI 124) (by decide)) (ex_lt_rm (by omega)) ⟨Nat.le_refl _, Nat.le_refl _⟩ rfl rfl (Nat.le_of_ble_eq_true rfl) ?_
      rintro _ _ ⟨⟨S1, b1, rfl, rfl, hS1, ht1, hf1⟩, hu1⟩
      refine ex_if_eq (pc := 30) (tgt := 108) d_Mr_readsExpression_30 rfl (fun c30 => ?_) (fun c30 => ?_)
      · refine ex_iconst (pc := 108) (v := (nI 1)) d_Mr_readsExpression_108 (by decide) ?_
        refine ex_iret (ty := .boolean) d_Mr_readsExpression_109 rfl rfl rfl (Nat.le_refl _) ?_
        exact ⟨S, true, hu1 (by rw [b2i_0 c30]; rfl), rfl, hS, fun _ => by rw [← hv, pExpL, hf1 (b2i_0 c30)], fun z => absurd z (by decide)⟩
      · have hy1 := pTk_y (ht1 (b2i_1 c30))
        have eS1 : S1 = psM (S.pl + 1) S.fi S.la S.sk S.ns S.fo S.sn := hy1.2
        refine ex_aload_n (pc := 33) (i := 0) d_Mr_readsExpression_33 rfl rfl ?_
        refine ex_getx (pc := 34) 8 3 S.fi d_Mr_readsExpression_34 FL_Mr_50 (Nat.le_of_ble_eq_true rfl) rfl ((mrI_fi).trans (by rw [eS1]; rfl)) ?_
        refine ex_istore_n (pc := 37) (i := 3) d_Mr_readsExpression_37 rfl (by decide) ?_
        refine ex_aload_n (pc := 38) (i := 0) d_Mr_readsExpression_38 rfl rfl ?_
        refine ex_getx (pc := 39) 8 4 S.la d_Mr_readsExpression_39 FL_Mr_53 (Nat.le_of_ble_eq_true rfl) rfl ((mrI_la).trans (by rw [eS1]; rfl)) ?_
        refine ex_istore (pc := 42) d_Mr_readsExpression_42 (by decide) ?_
        refine ex_aload_n (pc := 44) (i := 0) d_Mr_readsExpression_44 rfl rfl ?_
        refine ex_getx (pc := 45) 8 5 (b2i S.sk) d_Mr_readsExpression_45 FL_Mr_56 (Nat.le_of_ble_eq_true rfl) rfl ((mrI_sk).trans (by rw [eS1]; rfl)) ?_
        refine ex_istore (pc := 48) d_Mr_readsExpression_48 (by decide) ?_
        refine ex_aload_n (pc := 50) (i := 0) d_Mr_readsExpression_50 rfl rfl ?_
        refine ex_iload_n (pc := 51) (i := 1) d_Mr_readsExpression_51 rfl rfl ?_
        refine ex_callV (pc := 52) (M' := M_Mr_readsSequence) (as := [.int x]) (st := []) d_Mr_readsExpression_52 MW_Mr_readsSequence MI_Mr_readsSequence LK_Mr_59 (Nat.le_of_ble_eq_true rfl) rfl rfl rfl (hQ _ hS1) (ex_lt_rm (by omega)) ⟨Nat.le_refl _, Nat.le_refl _⟩ rfl rfl (Nat.le_of_ble_eq_true rfl) ?_
        rintro _ _ ⟨S2, b2, rfl, rfl, hS2, ht2, hf2⟩
        refine ex_if_ne (pc := 55) (tgt := 60) d_Mr_readsExpression_55 rfl (fun c55 => ?_) (fun c55 => ?_)
        · refine ex_aload_n (pc := 60) (i := 0) d_Mr_readsExpression_60 rfl rfl ?_
          refine ex_dup (pc := 61) d_Mr_readsExpression_61 rfl ?_
          refine ex_getx (pc := 62) 8 3 S2.fi d_Mr_readsExpression_62 FL_Mr_50 (Nat.le_of_ble_eq_true rfl) rfl mrI_fi ?_
          refine ex_iload_n (pc := 65) (i := 3) d_Mr_readsExpression_65 rfl rfl ?_
          refine ex_ior (pc := 66) d_Mr_readsExpression_66 ?_
          refine ex_puti (pc := 67) 8 3 .int d_Mr_readsExpression_67 (PF_Mr_50 _) (Nat.le_of_ble_eq_true rfl) rfl rfl rfl ?_
          refine ex_heap (congrArg (fun z => HP z mp sp (9 + 3 * j)) (mrW_fi _)) ?_
          refine ex_aload_n (pc := 70) (i := 0) d_Mr_readsExpression_70 rfl rfl ?_
          refine ex_dup (pc := 71) d_Mr_readsExpression_71 rfl ?_
          refine ex_getx (pc := 72) 8 4 S2.la d_Mr_readsExpression_72 FL_Mr_53 (Nat.le_of_ble_eq_true rfl) rfl mrI_la ?_
          refine ex_iload (pc := 75) d_Mr_readsExpression_75 rfl ?_
          refine ex_ior (pc := 77) d_Mr_readsExpression_77 ?_
          refine ex_puti (pc := 78) 8 4 .int d_Mr_readsExpression_78 (PF_Mr_53 _) (Nat.le_of_ble_eq_true rfl) rfl rfl rfl ?_
          refine ex_heap (congrArg (fun z => HP z mp sp (9 + 3 * j)) (mrW_la _)) ?_
          refine ex_aload_n (pc := 81) (i := 0) d_Mr_readsExpression_81 rfl rfl ?_
          refine ex_aload_n (pc := 82) (i := 0) d_Mr_readsExpression_82 rfl rfl ?_
          refine ex_getx (pc := 83) 8 5 (b2i S2.sk) d_Mr_readsExpression_83 FL_Mr_56 (Nat.le_of_ble_eq_true rfl) rfl mrI_sk ?_
          refine ex_if_ne (pc := 86) (tgt := 94) d_Mr_readsExpression_86 rfl (fun c86 => ?_) (fun c86 => ?_)
          · refine ex_iconst (pc := 94) (v := (nI 1)) d_Mr_readsExpression_94 (by decide) ?_
            refine ex_goto (pc := 95) (tgt := 99) d_Mr_readsExpression_95 rfl ?_
            refine ex_puti (pc := 99) 8 5 .boolean d_Mr_readsExpression_99 (PF_Mr_56 _) (Nat.le_of_ble_eq_true rfl) rfl rfl rfl ?_
            refine ex_iinc (pc := 102) (v := (nI (t + 1))) d_Mr_readsExpression_102 rfl (nI_1 t) (by decide) ?_
            refine ex_goto (pc := 105) (tgt := 18) d_Mr_readsExpression_105 rfl ?_
            refine ex_heap (congrArg (fun z => HP z mp sp (9 + 3 * j)) (mrW_sk true)) ?_
            refine ex_heap (congrArg (fun z => HP (mrI iv j z) mp sp (9 + 3 * j)) (show _ = pEx S S2 by unfold pEx; rw [b2i_1 c86]; rfl)) ?_
            exact ih (t + 1) (pEx S S2) hS2 _ _ _ (by omega) (by rw [pExpL, ht1 (b2i_1 c30)] at hv; dsimp only at hv; rw [ht2 (b2i_1 c55), Option.bind_some] at hv; exact hv)
          · refine ex_iload (pc := 89) d_Mr_readsExpression_89 rfl ?_
            refine ex_if_eq (pc := 91) (tgt := 98) d_Mr_readsExpression_91 rfl (fun c91 => ?_) (fun c91 => ?_)
            · refine ex_iconst (pc := 98) (v := (nI 0)) d_Mr_readsExpression_98 (by decide) ?_
              refine ex_puti (pc := 99) 8 5 .boolean d_Mr_readsExpression_99 (PF_Mr_56 _) (Nat.le_of_ble_eq_true rfl) rfl rfl rfl ?_
              refine ex_iinc (pc := 102) (v := (nI (t + 1))) d_Mr_readsExpression_102 rfl (nI_1 t) (by decide) ?_
              refine ex_goto (pc := 105) (tgt := 18) d_Mr_readsExpression_105 rfl ?_
              refine ex_heap (congrArg (fun z => HP z mp sp (9 + 3 * j)) (mrW_sk false)) ?_
              refine ex_heap (congrArg (fun z => HP (mrI iv j z) mp sp (9 + 3 * j)) (show _ = pEx S S2 by unfold pEx; rw [b2i_0 c86, b2i_0 c91]; rfl)) ?_
              exact ih (t + 1) (pEx S S2) hS2 _ _ _ (by omega) (by rw [pExpL, ht1 (b2i_1 c30)] at hv; dsimp only at hv; rw [ht2 (b2i_1 c55), Option.bind_some] at hv; exact hv)
            · refine ex_iconst (pc := 94) (v := (nI 1)) d_Mr_readsExpression_94 (by decide) ?_
              refine ex_goto (pc := 95) (tgt := 99) d_Mr_readsExpression_95 rfl ?_
              refine ex_puti (pc := 99) 8 5 .boolean d_Mr_readsExpression_99 (PF_Mr_56 _) (Nat.le_of_ble_eq_true rfl) rfl rfl rfl ?_
              refine ex_iinc (pc := 102) (v := (nI (t + 1))) d_Mr_readsExpression_102 rfl (nI_1 t) (by decide) ?_
              refine ex_goto (pc := 105) (tgt := 18) d_Mr_readsExpression_105 rfl ?_
              refine ex_heap (congrArg (fun z => HP z mp sp (9 + 3 * j)) (mrW_sk true)) ?_
              refine ex_heap (congrArg (fun z => HP (mrI iv j z) mp sp (9 + 3 * j)) (show _ = pEx S S2 by unfold pEx; rw [b2i_0 c86, b2i_1 c91]; rfl)) ?_
              exact ih (t + 1) (pEx S S2) hS2 _ _ _ (by omega) (by rw [pExpL, ht1 (b2i_1 c30)] at hv; dsimp only at hv; rw [ht2 (b2i_1 c55), Option.bind_some] at hv; exact hv)
        · refine ex_iconst (pc := 58) (v := (nI 0)) d_Mr_readsExpression_58 (by decide) ?_
          refine ex_iret (ty := .boolean) d_Mr_readsExpression_59 rfl rfl rfl (Nat.le_refl _) ?_
          exact ⟨S2, false, rfl, rfl, hS2, fun z => absurd z (by decide), fun _ => by rw [← hv, pExpL, ht1 (b2i_1 c30)]; dsimp only; rw [hf2 (b2i_0 c55)]; rfl⟩

set_option maxRecDepth 100000 in
set_option maxHeartbeats 4000000 in
theorem ct_Mr_readsExpression (l : Launch) (G : ex_G) (iv : Nat → Nat → Int32) (mp : Nat → Nat) (sp j : Nat) (hj : j < 10) (n : Nat) (f : Nat → Int32) (hd : DrI iv n f) (dep : Nat) (hdp : dep ≤ 6) (d : Nat) (h2 : 2 ≤ d) (Q : PS → Option PS) (hQ : ∀ S, psOk n S → CT l G d M_Mr_readsSequence [.ref 3, .int (nI dep)] (HP (mrI iv j S) mp sp (9 + 3 * j)) 0 0 (fun r h' => mrP iv j mp sp n (Q S) r h')) (S : PS) (hS : psOk n S) : CT l G (d + 1) M_Mr_readsExpression [.ref 3, .int (nI dep)] (HP (mrI iv j S) mp sp (9 + 3 * j)) 0 0 (fun r h' => mrP iv j mp sp n ((Q S).bind fun S1 => pExpL (dCh f n) Q 40 S1) r h') := by
  refine ex_enter (by decide) (Nat.le_of_ble_eq_true rfl) (fun v hv => by simp at hv; rcases hv with rfl | rfl <;> rfl) (fun p e s m args below meth c => ?_)
  refine ex_iload_n (pc := 0) (i := 1) d_Mr_readsExpression_0 rfl rfl ?_
  refine ex_bipush (pc := 1) (v := (nI 6)) d_Mr_readsExpression_1 (by decide) ?_
  refine ex_icmp_gt (pc := 3) (tgt := 14) d_Mr_readsExpression_3 rfl (fun c3 => ?_) (fun c3 => ?_)
  · exact absurd ((n_lt (by omega) (by omega)).mp c3) (by omega)
  · refine ex_aload_n (pc := 6) (i := 0) d_Mr_readsExpression_6 rfl rfl ?_
    refine ex_iload_n (pc := 7) (i := 1) d_Mr_readsExpression_7 rfl rfl ?_
    refine ex_callV (pc := 8) (M' := M_Mr_readsSequence) (as := [.int (nI dep)]) (st := []) d_Mr_readsExpression_8 MW_Mr_readsSequence MI_Mr_readsSequence LK_Mr_59 (Nat.le_of_ble_eq_true rfl) rfl rfl rfl (hQ S hS) (ex_lt_rm (by omega)) ⟨Nat.le_refl _, Nat.le_refl _⟩ rfl rfl (Nat.le_of_ble_eq_true rfl) ?_
    rintro _ _ ⟨S1, b1, rfl, rfl, hS1, ht1, hf1⟩
    refine ex_if_ne (pc := 11) (tgt := 16) d_Mr_readsExpression_11 rfl (fun c11 => ?_) (fun c11 => ?_)
    · refine ex_iconst (pc := 16) (v := (nI 0)) d_Mr_readsExpression_16 (by decide) ?_
      refine ex_istore_n (pc := 17) (i := 2) d_Mr_readsExpression_17 rfl (by decide) ?_
      exact lp_Mr_readsExpression l G iv mp sp j hj n f hd (nI dep) d h2 Q hQ _ 40 0 S1 hS1 _ _ _ (by omega) (by rw [ht1 (b2i_1 c11)]; rfl)
    · refine ex_iconst (pc := 14) (v := (nI 0)) d_Mr_readsExpression_14 (by decide) ?_
      refine ex_iret (ty := .boolean) d_Mr_readsExpression_15 rfl rfl rfl (Nat.le_refl _) ?_
      exact ⟨S1, false, rfl, rfl, hS1, fun z => absurd z (by decide), fun _ => by rw [hf1 (b2i_0 c11)]; rfl⟩

set_option maxRecDepth 100000 in
set_option maxHeartbeats 4000000 in
theorem ct_Mr_readsExpression0 (l : Launch) (G : ex_G) (iv : Nat → Nat → Int32) (mp : Nat → Nat) (sp j : Nat) (hj : j < 10) (n : Nat) (f : Nat → Int32) (hd : DrI iv n f) (d : Nat) (S : PS) (hS : psOk n S) : CT l G d M_Mr_readsExpression [.ref 3, .int (nI 7)] (HP (mrI iv j S) mp sp (9 + 3 * j)) 0 0 (fun r h' => mrP iv j mp sp n none r h') := by
  refine ex_enter (by decide) (Nat.le_of_ble_eq_true rfl) (fun v hv => by simp at hv; rcases hv with rfl | rfl <;> rfl) (fun p e s m args below meth c => ?_)
  refine ex_iload_n (pc := 0) (i := 1) d_Mr_readsExpression_0 rfl rfl ?_
  refine ex_bipush (pc := 1) (v := (nI 6)) d_Mr_readsExpression_1 (by decide) ?_
  refine ex_icmp_gt (pc := 3) (tgt := 14) d_Mr_readsExpression_3 rfl (fun c3 => ?_) (fun c3 => ?_)
  · refine ex_iconst (pc := 14) (v := (nI 0)) d_Mr_readsExpression_14 (by decide) ?_
    refine ex_iret (ty := .boolean) d_Mr_readsExpression_15 rfl rfl rfl (Nat.le_refl _) ?_
    exact ⟨S, false, rfl, rfl, hS, fun z => absurd z (by decide), fun _ => rfl⟩
  · exact absurd c3 (by decide)

/-- the reader of expressions, at any depth -/
theorem ct_Mr_rec (l : Launch) (G : ex_G) (iv : Nat → Nat → Int32) (mp : Nat → Nat) (sp j : Nat) (hj : j < 10) (n : Nat) (f : Nat → Int32) (hd : DrI iv n f) : ∀ (g dep : Nat), dep + g = 7 → ∀ S, psOk n S → CT l G (3 * g + 2) M_Mr_readsExpression [.ref 3, .int (nI dep)] (HP (mrI iv j S) mp sp (9 + 3 * j)) 0 0 (fun r h' => mrP iv j mp sp n (pExpr (dCh f n) g S) r h') := by
  intro g
  induction g with
  | zero =>
    intro dep hdep S hS
    rw [show dep = 7 by omega]
    exact ct_Mr_readsExpression0 l G iv mp sp j hj n f hd _ S hS
  | succ g ih =>
    intro dep hdep S hS
    have h1 : ∀ S, psOk n S → CT l G (3 * g + 2) M_Mr_readsExpression [.ref 3, .int (nI dep + nI 1)] (HP (mrI iv j S) mp sp (9 + 3 * j)) 0 0 (fun r h' => mrP iv j mp sp n (pExpr (dCh f n) g S) r h') := by
      rw [nI_s dep]
      exact ih (dep + 1) (by omega)
    have h2 := ct_Mr_readsItem l G iv mp sp j hj n f hd (nI dep) (3 * g + 2) (by omega) (pExpr (dCh f n) g) h1
    have h3 := ct_Mr_readsSequence l G iv mp sp j hj n f hd (nI dep) (3 * g + 2 + 1) (by omega) (pItem (dCh f n) (pExpr (dCh f n) g)) h2
    exact ct_Mr_readsExpression l G iv mp sp j hj n f hd dep (by omega) (3 * g + 2 + 1 + 1) (by omega) (pSeq (dCh f n) (pItem (dCh f n) (pExpr (dCh f n) g))) h3 S hS
