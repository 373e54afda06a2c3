set_option maxRecDepth 100000 in
set_option maxHeartbeats 4000000 in
theorem ct_Fo_addForm1 (l : Launch) (G : ex_G) (iv : Nat → Nat → Int32) (mp : Nat → Nat) (sp mo : Nat) (hmp : ∀ k, k < 9 → mp k < 10) (a : Nat → Int32) (n : Nat) (hA : TxA iv a n) (hTC : txC iv n) (T : TS) (hC : ClsT iv mp T) (hX : tX a T n) (hs : T.stk = []) (hO : fOk T.e T.cn) (i : Nat) (h0 : 0 < i) (hi : i ≤ T.cn) (dep m9 : Nat) (hdep : (T.e i).dp = dep) (hd8 : dep ≤ 8) (hrec : ∀ (q : Nat) (iv1 : Nat → Nat → Int32) (s9 : List Int32), i < q → q ≤ T.cn → (T.e q).pr = i → FmQ 82 4 83 iv iv1 s9 → s9.length + (cF T.e T.cn (looF iv mp) (txL a) m9 q).length ≤ 694 → CT l G (m9 + 3) M_Fo_addForm [.ref 82, .int (nI q), .int (nI (dep + 1))] (HP iv1 mp sp mo) 0 0 (fun r h' => ∃ iv2, h' = HP iv2 mp sp mo ∧ r = none ∧ FmQ 82 4 83 iv iv2 (s9 ++ (cF T.e T.cn (looF iv mp) (txL a) m9 q)))) (hg : m9 + 1 = 9 - dep) (iv1 : Nat → Nat → Int32) (s9 : List Int32) (hq : FmQ 82 4 83 iv iv1 s9) (hlen : s9.length + (cF T.e T.cn (looF iv mp) (txL a) (m9 + 1) i).length ≤ 694) (hIF : (looF iv mp) i = true → (T.e i).iF ≤ (T.e i).iT) : CT l G (m9 + 4) M_Fo_addForm [.ref 82, .int (nI i), .int (nI dep)] (HP iv1 mp sp mo) 0 0 (fun r h' => ∃ iv2, h' = HP iv2 mp sp mo ∧ r = none ∧ FmQ 82 4 83 iv iv2 (s9 ++ (cF T.e T.cn (looF iv mp) (txL a) (m9 + 1) i))) := by
  refine ex_enter (by decide) (Nat.le_of_ble_eq_true rfl) (fun v hv => by simp at hv; rcases hv with rfl | rfl | rfl <;> rfl) (fun p e s m args below meth c => ?_)
  have hn := hA.1
  have hcn : T.cn ≤ 33 := by have := hX.1.1; omega
  have hfr : ∀ q j, q ≠ 83 → (q ≠ 82 ∨ j ≠ 4) → iv1 q j = iv q j := hq.2.2
  have hs1 : iv1 39 1 = nI n := (hfr _ _ (by decide) (Or.inl (by decide))).trans hA.2.1
  have ht1 : txC iv1 n := fun k hk => by rw [hfr 40 k (by decide) (Or.inl (by decide))]; exact hTC k hk
  have ha1 : ∀ x9 y9, y9 ≤ n → sl (iv1 40) (y9 - x9) x9 = txL a x9 y9 := fun x9 y9 hy => sl_cg _ _ (fun k k1 k2 => (hfr 40 k (by decide) (Or.inl (by decide))).trans (hA.2.2.1 k (by omega)))
  have hlo1 : looF iv1 mp i = looF iv mp i := by
    unfold looF fbF elMo
    rw [hfr (46 + i) 0 (by omega) (Or.inl (by omega)), hfr (46 + i) 7 (by omega) (Or.inl (by omega)), hfr (46 + i) 9 (by omega) (Or.inl (by omega))]
    have hm9 := hmp _ (rowN_lt (iv (46 + i) 0))
    rw [hfr _ 0 (by omega) (Or.inl (by omega)), hfr _ 1 (by omega) (Or.inl (by omega))]
  have hns : i ∉ T.stk := by rw [hs]; exact List.not_mem_nil
  obtain ⟨i1, i2, i3, i4, i5⟩ := hX.1.2.2.2.2.2.1 i h0 hi hns
  have i6 := hX.1.2.2.2.1 i h0 hi
  obtain ⟨⟨r0, r1, r2, r3, r4, r7, r9⟩, d5, d6, d8⟩ := hC.2.2.2.1 i hi
  have hdp1 : 1 ≤ dep := by have := (hO.2.2.1 i h0 hi).2.1; omega
  refine ex_aload_n (pc := 0) (i := 0) d_Fo_addForm_0 rfl rfl ?_
  refine ex_getr (pc := 1) 5 1 d_Fo_addForm_1 FL_Fo_19 (Nat.le_of_ble_eq_true rfl) rfl rfl ?_
  refine ex_getr (pc := 4) 11 1 d_Fo_addForm_4 FL_Fo_31 (Nat.le_of_ble_eq_true rfl) rfl rfl ?_
  refine ex_iload_n (pc := 7) (i := 1) d_Fo_addForm_7 rfl rfl ?_
  refine ex_aald (pc := 8) i d_Fo_addForm_8 (Nat.le_of_ble_eq_true rfl) rfl rfl rfl (nI_t (by omega)) (show i < 34 by omega) (el_rf (mp := mp) (sp := sp) (mo := mo) (show i < 34 by omega)) ?_
  refine ex_astore_n (pc := 9) (i := 3) d_Fo_addForm_9 rfl (by decide) ?_
  refine ex_iload_n (pc := 10) (i := 2) d_Fo_addForm_10 rfl rfl ?_
  refine ex_bipush (pc := 11) (v := (nI 8)) d_Fo_addForm_11 (by decide) ?_
  refine ex_icmp_gt (pc := 13) (tgt := 27) d_Fo_addForm_13 rfl (fun c13 => ?_) (fun c13 => ?_)
  · exact absurd ((n_lt (by omega) (by omega)).mp c13) (by omega)
  · refine ex_aload_n (pc := 16) (i := 0) d_Fo_addForm_16 rfl rfl ?_
    refine ex_getr (pc := 17) 5 2 d_Fo_addForm_17 FL_Fo_23 (Nat.le_of_ble_eq_true rfl) rfl rfl ?_
    refine ex_aload_n (pc := 20) (i := 3) d_Fo_addForm_20 rfl rfl ?_
    refine ex_callV (pc := 21) (M' := M_Ms_makeLoose) (as := [.ref (46 + i)]) (st := []) d_Fo_addForm_21 MW_Ms_makeLoose MI_Ms_makeLoose LK_Fo_37 (Nat.le_of_ble_eq_true rfl) rfl rfl rfl (ct_Ms_makeLoose l G iv1 mp sp mo hmp i (by omega)) (ex_lt_rm (by omega)) ⟨Nat.le_refl _, Nat.le_refl _⟩ rfl rfl (Nat.le_of_ble_eq_true rfl) ?_
    rintro _ _ ⟨rfl, rfl⟩
    refine ex_top (congrArg b2i hlo1) ?_
    refine ex_if_ne (pc := 24) (tgt := 40) d_Fo_addForm_24 rfl (fun c24 => ?_) (fun c24 => ?_)
    · have hl1 : looF iv mp i = true := b2i_1 c24
      have hIT := hIF hl1
      rw [cF, if_pos hl1, hdep] at hlen ⊢
      refine ex_aload_n (pc := 40) (i := 0) d_Fo_addForm_40 rfl rfl ?_
      refine ex_aload_n (pc := 41) (i := 3) d_Fo_addForm_41 rfl rfl ?_
      refine ex_getx (pc := 42) 3 3 (nI (T.e i).bg) d_Fo_addForm_42 FL_Fo_65 (el_lt (show i < 34 by omega)) (el_sh (show i < 34 by omega)) ((hfr (46 + i) 3 (by omega) (Or.inl (by omega))).trans r3) ?_
      refine ex_aload_n (pc := 45) (i := 3) d_Fo_addForm_45 rfl rfl ?_
      refine ex_getx (pc := 46) 3 4 (nI (T.e i).iF) d_Fo_addForm_46 FL_Fo_71 (el_lt (show i < 34 by omega)) (el_sh (show i < 34 by omega)) ((hfr (46 + i) 4 (by omega) (Or.inl (by omega))).trans r4) ?_
      refine ex_callV (pc := 49) (M' := M_Fo_copy) (as := [.int (nI (T.e i).bg), .int (nI (T.e i).iF)]) (st := []) d_Fo_addForm_49 MW_Fo_copy MI_Fo_copy LK_Fo_46 (Nat.le_of_ble_eq_true rfl) rfl rfl rfl (ct_Fo_copy l G iv1 mp sp mo (T.e i).bg (T.e i).iF n s9.length (by omega) (by omega) hn hs1 ht1 hq.1 (by simp only [List.length_append, txL_len, lnL, List.length_cons, List.length_replicate] at hlen ⊢; omega)) (ex_lt_rm (by omega)) ⟨Nat.le_refl _, Nat.le_refl _⟩ rfl rfl (Nat.le_of_ble_eq_true rfl) ?_
      rintro _ _ ⟨rfl, rfl⟩
      have hq2 := fm_cpy (by decide) (iv1 40) ((T.e i).iF - (T.e i).bg) (T.e i).bg iv1 s9 hq
      rw [ha1 _ _ (by omega)] at hq2
      refine ex_iload_n (pc := 52) (i := 1) d_Fo_addForm_52 rfl rfl ?_
      refine ex_iconst (pc := 53) (v := (nI 1)) d_Fo_addForm_53 (by decide) ?_
      refine ex_iadd (pc := 54) d_Fo_addForm_54 ?_
      refine ex_top (nI_s i) ?_
      refine ex_istore (pc := 55) d_Fo_addForm_55 (by decide) ?_
      refine lp_Fo_addForm l G iv mp sp mo hmp a n hA hTC T hC hX hs hO i h0 hi dep m9 hdep hd8 hrec _ _ (fun iv5 u hq5 => ?_) (T.cn - i) (i + 1) _ _ (by omega) (by omega) hq2 (by simp only [List.length_append, txL_len, lnL, List.length_cons, List.length_replicate] at hlen ⊢; omega) rfl
      refine ex_aload_n (pc := 106) (i := 0) d_Fo_addForm_106 rfl rfl ?_
      refine ex_iload_n (pc := 107) (i := 2) d_Fo_addForm_107 rfl rfl ?_
      refine ex_iconst (pc := 108) (v := (nI 1)) d_Fo_addForm_108 (by decide) ?_
      refine ex_isub (pc := 109) d_Fo_addForm_109 ?_
      refine ex_top (pk_sub (show 1 ≤ dep by omega)) ?_
      refine ex_callV (pc := 110) (M' := M_Fo_startLine) (as := [.int (nI (dep - 1))]) (st := []) d_Fo_addForm_110 MW_Fo_startLine MI_Fo_startLine LK_Fo_58 (Nat.le_of_ble_eq_true rfl) rfl rfl rfl (ct_Fo_startLine l G iv5 mp sp mo (dep - 1) _ (by omega) hq5.1 (by simp only [List.length_append, txL_len, lnL, List.length_cons, List.length_replicate] at hlen ⊢; omega)) (ex_lt_rm (by omega)) ⟨Nat.le_refl _, Nat.le_refl _⟩ rfl rfl (Nat.le_of_ble_eq_true rfl) ?_
      rintro _ h6 ⟨e6, rfl⟩
      obtain ⟨iv6, rfl, hq6⟩ : ∃ iv6, h6 = HP iv6 mp sp mo ∧ FmQ 82 4 83 iv iv6 ((s9 ++ txL a (T.e i).bg (T.e i).iF ++ (cS T.e (cF T.e T.cn (looF iv mp) (txL a) m9) i (T.cn - i) (i + 1))) ++ lnL (dep - 1)) := ⟨_, e6, fm_lin (by decide) hq5 (dep - 1)⟩
      have h6s : iv6 39 1 = nI n := (hq6.2.2 39 1 (by decide) (Or.inl (by decide))).trans hA.2.1
      have h6t : txC iv6 n := fun k hk => by rw [hq6.2.2 40 k (by decide) (Or.inl (by decide))]; exact hTC k hk
      have h6a : ∀ x9 y9, y9 ≤ n → sl (iv6 40) (y9 - x9) x9 = txL a x9 y9 := fun x9 y9 hy => sl_cg _ _ (fun k k1 k2 => (hq6.2.2 40 k (by decide) (Or.inl (by decide))).trans (hA.2.2.1 k (by omega)))
      refine ex_aload_n (pc := 113) (i := 0) d_Fo_addForm_113 rfl rfl ?_
      refine ex_aload_n (pc := 114) (i := 3) d_Fo_addForm_114 rfl rfl ?_
      refine ex_getx (pc := 115) 3 5 (nI (T.e i).iT) d_Fo_addForm_115 FL_Fo_74 (el_lt (show i < 34 by omega)) (el_sh (show i < 34 by omega)) ((hq6.2.2 _ _ (by omega) (Or.inl (by omega))).trans d5) ?_
      refine ex_aload_n (pc := 118) (i := 3) d_Fo_addForm_118 rfl rfl ?_
      refine ex_getx (pc := 119) 3 6 (nI (T.e i).bh) d_Fo_addForm_119 FL_Fo_68 (el_lt (show i < 34 by omega)) (el_sh (show i < 34 by omega)) ((hq6.2.2 _ _ (by omega) (Or.inl (by omega))).trans d6) ?_
      refine ex_callV (pc := 122) (M' := M_Fo_copy) (as := [.int (nI (T.e i).iT), .int (nI (T.e i).bh)]) (st := []) d_Fo_addForm_122 MW_Fo_copy MI_Fo_copy LK_Fo_46 (Nat.le_of_ble_eq_true rfl) rfl rfl rfl (ct_Fo_copy l G iv6 mp sp mo (T.e i).iT (T.e i).bh n _ (by omega) (by omega) hn h6s h6t hq6.1 (by simp only [List.length_append, txL_len, lnL, List.length_cons, List.length_replicate] at hlen ⊢; omega)) (ex_lt_rm (by omega)) ⟨Nat.le_refl _, Nat.le_refl _⟩ rfl rfl (Nat.le_of_ble_eq_true rfl) ?_
      rintro _ _ ⟨rfl, rfl⟩
      refine ex_vret d_Fo_addForm_125 rfl rfl (Nat.le_refl _) ?_
      have hq7 := fm_cpy (by decide) (iv6 40) ((T.e i).bh - (T.e i).iT) (T.e i).iT _ _ hq6
      rw [h6a _ _ (by omega)] at hq7
      refine ⟨_, rfl, rfl, ?_⟩
      simpa only [List.append_assoc] using hq7
    · have hl0 : ¬ looF iv mp i = true := by rw [b2i_0 c24]; decide
      rw [cF, if_neg hl0] at hlen ⊢
      refine ex_aload_n (pc := 27) (i := 0) d_Fo_addForm_27 rfl rfl ?_
      refine ex_aload_n (pc := 28) (i := 3) d_Fo_addForm_28 rfl rfl ?_
      refine ex_getx (pc := 29) 3 3 (nI (T.e i).bg) d_Fo_addForm_29 FL_Fo_65 (el_lt (show i < 34 by omega)) (el_sh (show i < 34 by omega)) ((hfr (46 + i) 3 (by omega) (Or.inl (by omega))).trans r3) ?_
      refine ex_aload_n (pc := 32) (i := 3) d_Fo_addForm_32 rfl rfl ?_
      refine ex_getx (pc := 33) 3 6 (nI (T.e i).bh) d_Fo_addForm_33 FL_Fo_68 (el_lt (show i < 34 by omega)) (el_sh (show i < 34 by omega)) ((hfr (46 + i) 6 (by omega) (Or.inl (by omega))).trans d6) ?_
      refine ex_callV (pc := 36) (M' := M_Fo_copy) (as := [.int (nI (T.e i).bg), .int (nI (T.e i).bh)]) (st := []) d_Fo_addForm_36 MW_Fo_copy MI_Fo_copy LK_Fo_46 (Nat.le_of_ble_eq_true rfl) rfl rfl rfl (ct_Fo_copy l G iv1 mp sp mo (T.e i).bg (T.e i).bh n s9.length (by omega) (by omega) hn hs1 ht1 hq.1 (by simp only [List.length_append, txL_len, lnL, List.length_cons, List.length_replicate] at hlen ⊢; omega)) (ex_lt_rm (by omega)) ⟨Nat.le_refl _, Nat.le_refl _⟩ rfl rfl (Nat.le_of_ble_eq_true rfl) ?_
      rintro _ _ ⟨rfl, rfl⟩
      refine ex_vret d_Fo_addForm_39 rfl rfl (Nat.le_refl _) ?_
      have hq2 := fm_cpy (by decide) (iv1 40) ((T.e i).bh - (T.e i).bg) (T.e i).bg iv1 s9 hq
      rw [ha1 _ _ (by omega)] at hq2
      exact ⟨_, rfl, rfl, hq2⟩

