/-! the reference's analysis whole -/
def RefT (iv : Nat → Nat → Int32) (mn : Nat → Nat) (n : Nat) (T : TS) : Prop := iv 92 16 = nI (T.cn + 1) ∧ (∀ i, i ≤ T.cn → erA iv (T.e i) i) ∧ (∀ i, 0 < i → i ≤ T.cn → erC iv (T.e i) i) ∧ erT iv T.tn T.tg ∧ iv 110 0 = nI n ∧ iv 112 0 = nI n ∧ iv 113 0 = -1 ∧ iv 111 0 = nI (T.e 0).iF ∧
  ∃ Bl, Bl.Perm (T.fl ++ T.br.map (k4 T.e)) ∧ FaR iv (gA (fun i => jq (prR iv T) (fbR iv T) (alR iv mn T) T.e i) (T.cn + 1) 0 Bl)
theorem rq_ref {ivb iv2 : Nat → Nat → Int32} {mn : Nat → Nat} {a : Nat → Int32} {n : Nat} {T : TS} {Bl : List Nat} (hR : RepR ivb T Bl) (hs : T.stk = []) (h112 : ivb 112 0 = nI n) (h110 : ivb 110 0 = nI n) (hq : FqR ivb iv2 (gA (fun i => jq (prR ivb T) (fbR ivb T) (alR ivb mn T) T.e i) (T.cn + 1) 0 Bl)) : RefT iv2 mn n T := by
  have hc : ∀ q j, 93 ≤ q → q < 119 → iv2 q j = ivb q j := fun q j h1 h2 => hq.2 q j (by omega) (by omega) (Or.inl (by omega))
  obtain ⟨r1, r2, r3, r4, r5, r6, r7⟩ := hR
  have e1 : gA (fun i => jq (prR iv2 T) (fbR iv2 T) (alR iv2 mn T) T.e i) (T.cn + 1) 0 Bl = gA (fun i => jq (prR ivb T) (fbR ivb T) (alR ivb mn T) T.e i) (T.cn + 1) 0 Bl := by
    refine gA_cg _ _ _ (fun i _ _ => ?_)
    have m1 : prR iv2 T i = prR ivb T i := by unfold prR; rw [hc 94 _ (by decide) (by decide)]
    have m2 : fbR iv2 T i = fbR ivb T i := by unfold fbR; rw [m1, hc 95 _ (by decide) (by decide)]
    have m3 : alR iv2 mn T i = alR ivb mn T i := by unfold alR; rw [accR_cg hc, rst_cg hc]
    unfold jq
    rw [m1, m2, m3]
  have h0 := r3 0 (Nat.zero_le _) (Or.inl rfl)
  refine ⟨(hq.2 _ _ (by decide) (by decide) (Or.inr (by decide))).trans r1, fun i hi => ?_, fun i h1 h2 => ?_, ⟨fun k hk hno => ?_, fun t ht k h1 h2 => ?_⟩, (hc _ _ (by decide) (by decide)).trans h110, (hc _ _ (by decide) (by decide)).trans h112, (hc _ _ (by decide) (by decide)).trans h0.2.1, (hc _ _ (by decide) (by decide)).trans h0.2.2, Bl, r7, by rw [e1]; exact hq.1⟩
  · have := r2 i hi
    unfold erA at this ⊢
    rw [hc _ _ (by decide) (by decide), hc _ _ (by decide) (by decide), hc _ _ (by decide) (by decide), hc _ _ (by decide) (by decide)]
    exact this
  · have := r4 i h1 h2 (by rw [hs]; exact List.not_mem_nil)
    unfold erC at this ⊢
    rw [hc _ _ (by decide) (by decide), hc _ _ (by decide) (by decide), hc _ _ (by decide) (by decide), hc _ _ (by decide) (by decide), hc _ _ (by decide) (by decide)]
    exact this
  · rw [hc _ _ (by decide) (by decide)]
    exact r5.1 k hk hno
  · rw [hc _ _ (by decide) (by decide), hc _ _ (by decide) (by decide)]
    exact r5.2 t ht k h1 h2
set_option maxRecDepth 100000 in
set_option maxHeartbeats 4000000 in
theorem lq_RF_analyse {p : Program} {e : Env} {s : State} {m : MethodId} {args : Array Value} {below : List Frame} {meth : Method} {c : Code} (l : Launch) (G : ex_G) (mp : Nat → Nat) (sp mo : Nat) (n : Nat) (hn : n ≤ 100) (cn : Nat) (hcn : cn < 39) (Z : Nat × (Nat → Nat → Int32)) (PP : Option Value → ex_H → Prop) (u3 u4 u5 u6 u7 : Option Value) (hK : EXM M_RF_analyse l G 3 PP p e s m args below meth c 322 [some (.ref 92), some (.int (nI n)), some (.int (nI (cn + 1))), u3, u4, u5, u6, u7] [] (HP Z.2 mp sp mo)) : ∀ (k i : Nat) (z : Nat × (Nat → Nat → Int32)), i + k = cn + 1 → z.2 92 16 = nI (cn + 1) → z.2 92 14 = nI n → z.2 92 29 = nI z.1 → z.1 + k ≤ 399 → rcl (nI n) k i z = Z → EXM M_RF_analyse l G 3 (fun r h' => PP r h') p e s m args below meth c 290 [some (.ref 92), some (.int (nI n)), some (.int (nI i)), u3, u4, u5, u6, u7] [] (HP z.2 mp sp mo) := by
  intro k
  induction k with
  | zero =>
    intro i z hik h16 h14 h29 hl hv
    have hv2 : z = Z := hv
    subst hv2
    have hi : i = cn + 1 := by omega
    subst hi
    refine ex_iload_n (pc := 290) (i := 2) d_RF_analyse_290 rfl rfl ?_
    refine ex_aload_n (pc := 291) (i := 0) d_RF_analyse_291 rfl rfl ?_
    refine ex_getx (pc := 292) 12 16 (nI (cn + 1)) d_RF_analyse_292 FL_RF_185 (Nat.le_of_ble_eq_true rfl) rfl h16 ?_
    refine ex_icmp_ge (pc := 295) (tgt := 322) d_RF_analyse_295 rfl (fun c295 => ?_) (fun c295 => ?_)
    · exact hK
    · exact absurd ((n_ge (by omega) (by omega)).mpr (by omega)) c295
  | succ k ih =>
    intro i z hik h16 h14 h29 hl hv
    rw [rcl] at hv
    refine ex_iload_n (pc := 290) (i := 2) d_RF_analyse_290 rfl rfl ?_
    refine ex_aload_n (pc := 291) (i := 0) d_RF_analyse_291 rfl rfl ?_
    refine ex_getx (pc := 292) 12 16 (nI (cn + 1)) d_RF_analyse_292 FL_RF_185 (Nat.le_of_ble_eq_true rfl) rfl h16 ?_
    refine ex_icmp_ge (pc := 295) (tgt := 322) d_RF_analyse_295 rfl (fun c295 => ?_) (fun c295 => ?_)
    · exact absurd ((n_ge (by omega) (by omega)).mp c295) (by omega)
    · refine ex_aload_n (pc := 298) (i := 0) d_RF_analyse_298 rfl rfl ?_
      refine ex_getr (pc := 299) 12 25 d_RF_analyse_299 FL_RF_77 (Nat.le_of_ble_eq_true rfl) rfl rfl ?_
      refine ex_iload_n (pc := 302) (i := 2) d_RF_analyse_302 rfl rfl ?_
      refine ex_zaldx (pc := 303) i (z.2 115 i) d_RF_analyse_303 (Nat.le_of_ble_eq_true rfl) rfl rfl rfl (nI_t (by omega)) (show i < 40 by omega) rfl ?_
      refine ex_if_eq (pc := 304) (tgt := 316) d_RF_analyse_304 rfl (fun c304 => ?_) (fun c304 => ?_)
      · refine ex_iinc (pc := 316) (v := (nI (i + 1))) d_RF_analyse_316 rfl (nI_1 i) (by decide) ?_
        refine ex_goto (pc := 319) (tgt := 290) d_RF_analyse_319 rfl ?_
        exact ih (i + 1) z (by omega) h16 h14 h29 (by omega) (by rw [if_pos c304] at hv; exact hv)
      · refine ex_aload_n (pc := 307) (i := 0) d_RF_analyse_307 rfl rfl ?_
        refine ex_iload_n (pc := 308) (i := 2) d_RF_analyse_308 rfl rfl ?_
        refine ex_aload_n (pc := 309) (i := 0) d_RF_analyse_309 rfl rfl ?_
        refine ex_getx (pc := 310) 12 14 (nI n) d_RF_analyse_310 FL_RF_179 (Nat.le_of_ble_eq_true rfl) rfl h14 ?_
        refine ex_callV (pc := 313) (M' := M_RF_closeBare) (as := [.int (nI i), .int (nI n)]) (st := []) d_RF_analyse_313 MW_RF_closeBare MI_RF_closeBare LK_RF_194 (Nat.le_of_ble_eq_true rfl) rfl rfl rfl (ct_RF_closeBare l G z.2 mp sp mo i z.1 (by omega) h29 (by omega) (nI n)) (ex_lt_rm (by decide)) ⟨Nat.le_refl _, Nat.le_refl _⟩ rfl rfl (Nat.le_of_ble_eq_true rfl) ?_
        rintro _ _ ⟨rfl, rfl⟩
        refine ex_iinc (pc := 316) (v := (nI (i + 1))) d_RF_analyse_316 rfl (nI_1 i) (by decide) ?_
        refine ex_goto (pc := 319) (tgt := 290) d_RF_analyse_319 rfl ?_
        exact ih (i + 1) (z.1 + 1, rfFlt (rfCls z.2 i (nI n)) z.1 (nI 4) (z.2 109 i)) (by omega) (show rfFlt (rfCls z.2 i (nI n)) z.1 (nI 4) (z.2 109 i) 92 16 = nI (cn + 1) from (rfFlt_o (by decide) (by decide) (Or.inr (by decide))).trans ((rfCls_o (Or.inl (by decide))).trans h16)) (show rfFlt (rfCls z.2 i (nI n)) z.1 (nI 4) (z.2 109 i) 92 14 = nI n from (rfFlt_o (by decide) (by decide) (Or.inr (by decide))).trans ((rfCls_o (Or.inl (by decide))).trans h14)) (show rfFlt (rfCls z.2 i (nI n)) z.1 (nI 4) (z.2 109 i) 92 29 = nI (z.1 + 1) by unfold rfFlt rfIn; exact u2s) (by show z.1 + 1 + k ≤ 399; omega) (by rw [if_neg c304] at hv; exact hv)

set_option maxRecDepth 100000 in
set_option maxHeartbeats 4000000 in
theorem lj_RF_analyse {p : Program} {e : Env} {s : State} {m : MethodId} {args : Array Value} {below : List Frame} {meth : Method} {c : Code} (l : Launch) (G : ex_G) (ivb : Nat → Nat → Int32) (mp : Nat → Nat) (sp mo : Nat) (mn : Nat → Nat) (hmn : ∀ k, k < 9 → ivb 99 k = nI (mn k) ∧ mn k ≤ 10) (a : Nat → Int32) (n : Nat) (hn : n ≤ 100) (T : TS) (Bl : List Nat) (hR : RepR ivb T Bl) (hX : tX a T n) (Z : List Nat) (PP : Option Value → ex_H → Prop) (hPP : ∀ iv3, FqR ivb iv3 Z → PP none (HP iv3 mp sp mo)) (u3 u4 u5 u6 u7 : Option Value) : ∀ (k i : Nat) (A : List Nat) (iv2 : Nat → Nat → Int32), i + k = T.cn + 1 → FqR ivb iv2 A → A.length + 2 * k ≤ 390 → gA (fun i => jq (prR ivb T) (fbR ivb T) (alR ivb mn T) T.e i) k i A = Z → EXM M_RF_analyse l G 3 (fun r h' => PP r h') p e s m args below meth c 344 [some (.ref 92), some (.int (nI n)), some (.int (nI i)), u3, u4, u5, u6, u7] [] (HP iv2 mp sp mo) := by
  intro k
  induction k with
  | zero =>
    intro i A iv2 hik hq hl hv
    have hcn : T.cn ≤ 33 := by have := hX.1.1; omega
    have h16 : iv2 92 16 = nI (T.cn + 1) := (hq.2 _ _ (by decide) (by decide) (Or.inr (by decide))).trans hR.1
    have hv2 : A = Z := hv
    subst hv2
    refine ex_iload_n (pc := 344) (i := 2) d_RF_analyse_344 rfl rfl ?_
    refine ex_aload_n (pc := 345) (i := 0) d_RF_analyse_345 rfl rfl ?_
    refine ex_getx (pc := 346) 12 16 (nI (T.cn + 1)) d_RF_analyse_346 FL_RF_185 (Nat.le_of_ble_eq_true rfl) rfl h16 ?_
    refine ex_icmp_ge (pc := 349) (tgt := 363) d_RF_analyse_349 rfl (fun c349 => ?_) (fun c349 => ?_)
    · refine ex_vret d_RF_analyse_363 rfl rfl (Nat.le_refl _) ?_
      exact hPP iv2 hq
    · exact absurd ((n_ge (by omega) (by omega)).mpr (by omega)) c349
  | succ k ih =>
    intro i A iv2 hik hq hl hv
    have hcn : T.cn ≤ 33 := by have := hX.1.1; omega
    have h16 : iv2 92 16 = nI (T.cn + 1) := (hq.2 _ _ (by decide) (by decide) (Or.inr (by decide))).trans hR.1
    rw [gA] at hv
    refine ex_iload_n (pc := 344) (i := 2) d_RF_analyse_344 rfl rfl ?_
    refine ex_aload_n (pc := 345) (i := 0) d_RF_analyse_345 rfl rfl ?_
    refine ex_getx (pc := 346) 12 16 (nI (T.cn + 1)) d_RF_analyse_346 FL_RF_185 (Nat.le_of_ble_eq_true rfl) rfl h16 ?_
    refine ex_icmp_ge (pc := 349) (tgt := 363) d_RF_analyse_349 rfl (fun c349 => ?_) (fun c349 => ?_)
    · exact absurd ((n_ge (by omega) (by omega)).mp c349) (by omega)
    · refine ex_aload_n (pc := 352) (i := 0) d_RF_analyse_352 rfl rfl ?_
      refine ex_iload_n (pc := 353) (i := 2) d_RF_analyse_353 rfl rfl ?_
      refine ex_callV (pc := 354) (M' := M_RF_judge) (as := [.int (nI i)]) (st := []) d_RF_analyse_354 MW_RF_judge MI_RF_judge LK_RF_222 (Nat.le_of_ble_eq_true rfl) rfl rfl rfl (ct_RF_judge l G ivb mp sp mo mn hmn a n hn T Bl hR hX i (by omega) iv2 A hq (by omega)) (ex_lt_rm (by decide)) ⟨Nat.le_refl _, Nat.le_refl _⟩ rfl rfl (Nat.le_of_ble_eq_true rfl) ?_
      rintro _ _ ⟨iv3, rfl, rfl, hq3⟩
      refine ex_iinc (pc := 357) (v := (nI (i + 1))) d_RF_analyse_357 rfl (nI_1 i) (by decide) ?_
      refine ex_goto (pc := 360) (tgt := 344) d_RF_analyse_360 rfl ?_
      have hjl := (jq_len (prR ivb T) (fbR ivb T) (alR ivb mn T) T.e i (fun z => by unfold fbR at z; exact (Bool.and_eq_true_iff.mp z).1)).1
      exact ih (i + 1) _ iv3 (by omega) hq3 (by rw [List.length_append]; omega) hv

set_option maxRecDepth 100000 in
set_option maxHeartbeats 4000000 in
theorem lc_RF_analyse {p : Program} {e : Env} {s : State} {m : MethodId} {args : Array Value} {below : List Frame} {meth : Method} {c : Code} (l : Launch) (G : ex_G) (iv : Nat → Nat → Int32) (mp : Nat → Nat) (sp mo : Nat) (PP : Option Value → ex_H → Prop) (u2 u3 u4 u5 u6 u7 : Option Value) (hK : EXM M_RF_analyse l G 3 PP p e s m args below meth c 31 [some (.ref 92), some (.int (nI 101)), u2, u3, u4, u5, u6, u7] [] (HP (clT iv 101) mp sp mo)) : ∀ (k i : Nat), i + k = 101 → EXM M_RF_analyse l G 3 (fun r h' => PP r h') p e s m args below meth c 12 [some (.ref 92), some (.int (nI i)), u2, u3, u4, u5, u6, u7] [] (HP (clT iv i) mp sp mo) := by
  intro k
  induction k with
  | zero =>
    intro i hik
    have hi : i = 101 := by omega
    subst hi
    refine ex_iload_n (pc := 12) (i := 1) d_RF_analyse_12 rfl rfl ?_
    refine ex_bipush (pc := 13) (v := (nI 100)) d_RF_analyse_13 (by decide) ?_
    refine ex_icmp_gt (pc := 15) (tgt := 31) d_RF_analyse_15 rfl (fun c15 => ?_) (fun c15 => ?_)
    · exact hK
    · exact absurd ((n_lt (by omega) (by omega)).mpr (by omega)) c15
  | succ k ih =>
    intro i hik
    refine ex_iload_n (pc := 12) (i := 1) d_RF_analyse_12 rfl rfl ?_
    refine ex_bipush (pc := 13) (v := (nI 100)) d_RF_analyse_13 (by decide) ?_
    refine ex_icmp_gt (pc := 15) (tgt := 31) d_RF_analyse_15 rfl (fun c15 => ?_) (fun c15 => ?_)
    · exact absurd ((n_lt (by omega) (by omega)).mp c15) (by omega)
    · refine ex_aload_n (pc := 18) (i := 0) d_RF_analyse_18 rfl rfl ?_
      refine ex_getr (pc := 19) 12 26 d_RF_analyse_19 FL_RF_80 (Nat.le_of_ble_eq_true rfl) rfl rfl ?_
      refine ex_iload_n (pc := 22) (i := 1) d_RF_analyse_22 rfl rfl ?_
      refine ex_iconst (pc := 23) (v := (-1)) d_RF_analyse_23 (by decide) ?_
      refine ex_iast (pc := 24) i d_RF_analyse_24 (Nat.le_of_ble_eq_true rfl) rfl rfl rfl (nI_t (by omega)) (show i < 101 by omega) ?_
      refine ex_heap (congrArg (fun z => HP z mp sp mo) clT_s) ?_
      refine ex_iinc (pc := 25) (v := (nI (i + 1))) d_RF_analyse_25 rfl (nI_1 i) (by decide) ?_
      refine ex_goto (pc := 28) (tgt := 12) d_RF_analyse_28 rfl ?_
      exact ih (i + 1) (by omega)

set_option maxRecDepth 100000 in
set_option maxHeartbeats 4000000 in
theorem ct_RF_analyse (l : Launch) (G : ex_G) (iv : Nat → Nat → Int32) (mp : Nat → Nat) (sp mo : Nat) (a : Nat → Int32) (n : Nat) (hA : TxR iv a n) (mn : Nat → Nat) (hmn : ∀ k, k < 9 → iv 99 k = nI (mn k) ∧ mn k ≤ 10) : CT l G 3 M_RF_analyse [.ref 92] (HP iv mp sp mo) 0 0 (fun r h' => ∃ iv2, h' = HP iv2 mp sp mo ∧ r = none ∧ RefT iv2 mn n (tAll a n) ∧ FrR iv iv2) := by
  refine ex_enter (by decide) (Nat.le_of_ble_eq_true rfl) (fun v hv => by simp at hv; rcases hv with rfl <;> rfl) (fun p e s m args below meth c => ?_)
  have hn := hA.1
  generalize hTEg : tRn a n n 0 ts0 = TE
  have hAll : tAll a n = tFin n TE := by unfold tAll; rw [hTEg]
  rw [hAll]
  refine ex_aload_n (pc := 0) (i := 0) d_RF_analyse_0 rfl rfl ?_
  refine ex_iconst (pc := 1) (v := (nI 0)) d_RF_analyse_1 (by decide) ?_
  refine ex_puti (pc := 2) 12 16 .int d_RF_analyse_2 (PF_RF_185 _) (Nat.le_of_ble_eq_true rfl) rfl rfl rfl ?_
  refine ex_aload_n (pc := 5) (i := 0) d_RF_analyse_5 rfl rfl ?_
  refine ex_iconst (pc := 6) (v := (nI 0)) d_RF_analyse_6 (by decide) ?_
  refine ex_puti (pc := 7) 12 29 .int d_RF_analyse_7 (PF_RF_182 _) (Nat.le_of_ble_eq_true rfl) rfl rfl rfl ?_
  refine ex_iconst (pc := 10) (v := (nI 0)) d_RF_analyse_10 (by decide) ?_
  refine ex_istore_n (pc := 11) (i := 1) d_RF_analyse_11 rfl (by decide) ?_
  refine ex_heap (congrArg (fun z => HP z mp sp mo) clT_0) ?_
  refine lc_RF_analyse l G _ mp sp mo _ _ _ _ _ _ _ ?_ 101 0 (by omega)
  refine ex_heap (show _ = HP (aI1 iv) mp sp mo from rfl) ?_
  refine ex_aload_n (pc := 31) (i := 0) d_RF_analyse_31 rfl rfl ?_
  refine ex_bipush (pc := 32) (v := (nI 46)) d_RF_analyse_32 (by decide) ?_
  refine ex_iconst (pc := 34) (v := (-1)) d_RF_analyse_34 (by decide) ?_
  refine ex_iconst (pc := 35) (v := (nI 0)) d_RF_analyse_35 (by decide) ?_
  refine ex_iconst (pc := 36) (v := (nI 0)) d_RF_analyse_36 (by decide) ?_
  refine ex_callV (pc := 37) (M' := M_RF_newElement) (as := [.int (nI 46), .int (-1), .int (nI 0), .int (nI 0)]) (st := []) d_RF_analyse_37 MW_RF_newElement MI_RF_newElement LK_RF_208 (Nat.le_of_ble_eq_true rfl) rfl rfl rfl (ct_RF_newElement l G (aI1 iv) mp sp mo 0 ((aI1_o (by decide)).trans ((u2n (Or.inr (by decide))).trans u2s)) (by omega) (nI 46) (-1) (nI 0) (nI 0)) (ex_lt_rm (by decide)) ⟨Nat.le_refl _, Nat.le_refl _⟩ rfl rfl (Nat.le_of_ble_eq_true rfl) ?_
  rintro _ _ ⟨rfl, rfl⟩
  refine ex_pop (pc := 40) d_RF_analyse_40 rfl ?_
  refine ex_iconst (pc := 41) (v := (nI 0)) d_RF_analyse_41 (by decide) ?_
  refine ex_istore_n (pc := 42) (i := 1) d_RF_analyse_42 rfl (by decide) ?_
  refine ex_heap (show _ = HP (aI iv) mp sp mo from rfl) ?_
  have hTE : tRn a n n 0 ts0 = TE := hTEg
  refine lp_RF_analyse l G iv mp sp mo a n hA TE _ (fun iv1 Bl u2 u3 u4 u5 u6 u7 hF1 hR1 hX1 => ?_) n 0 ts0 [] (aI iv) _ _ _ _ _ _ (Nat.zero_le _) (by omega) aI_f aI_r tX_0 hTE
  have hA1 := txR_fr hA hF1
  obtain ⟨hbl, hcn1⟩ := B_le hR1 hX1.1 hn
  refine ex_iconst (pc := 288) (v := (nI 1)) d_RF_analyse_288 (by decide) ?_
  refine ex_istore_n (pc := 289) (i := 2) d_RF_analyse_289 rfl (by decide) ?_
  refine lq_RF_analyse l G mp sp mo n hn TE.cn (by omega) (rcl (nI n) TE.cn 1 (Bl.length, iv1)) _ _ _ _ _ _ ?_ TE.cn 1 (Bl.length, iv1) (by omega) hR1.1 hA1.2.1 hR1.2.2.2.2.2.1.1 (by show Bl.length + TE.cn ≤ 399; omega) rfl
  have h14 : (rcl (nI n) TE.cn 1 (Bl.length, iv1)).2 92 14 = nI n := (rcl_f (by decide) (Or.inr (by decide)) _ _ _).trans hA1.2.1
  refine ex_aload_n (pc := 322) (i := 0) d_RF_analyse_322 rfl rfl ?_
  refine ex_getr (pc := 323) 12 22 d_RF_analyse_323 FL_RF_68 (Nat.le_of_ble_eq_true rfl) rfl rfl ?_
  refine ex_iconst (pc := 326) (v := (nI 0)) d_RF_analyse_326 (by decide) ?_
  refine ex_aload_n (pc := 327) (i := 0) d_RF_analyse_327 rfl rfl ?_
  refine ex_getx (pc := 328) 12 14 (nI n) d_RF_analyse_328 FL_RF_179 (Nat.le_of_ble_eq_true rfl) rfl h14 ?_
  refine ex_iast (pc := 331) 0 d_RF_analyse_331 (Nat.le_of_ble_eq_true rfl) rfl rfl rfl (nI_t (by omega)) (show 0 < 40 by omega) ?_
  refine ex_aload_n (pc := 332) (i := 0) d_RF_analyse_332 rfl rfl ?_
  refine ex_getr (pc := 333) 12 20 d_RF_analyse_333 FL_RF_62 (Nat.le_of_ble_eq_true rfl) rfl rfl ?_
  refine ex_iconst (pc := 336) (v := (nI 0)) d_RF_analyse_336 (by decide) ?_
  refine ex_aload_n (pc := 337) (i := 0) d_RF_analyse_337 rfl rfl ?_
  refine ex_getx (pc := 338) 12 14 (nI n) d_RF_analyse_338 FL_RF_179 (Nat.le_of_ble_eq_true rfl) rfl (show ex_u2 (rcl (nI n) TE.cn 1 (Bl.length, iv1)).2 112 0 (nI n) 92 14 = nI n from (u2n (Or.inl (by decide))).trans h14) ?_
  refine ex_iast (pc := 341) 0 d_RF_analyse_341 (Nat.le_of_ble_eq_true rfl) rfl rfl rfl (nI_t (by omega)) (show 0 < 40 by omega) ?_
  refine ex_iconst (pc := 342) (v := (nI 0)) d_RF_analyse_342 (by decide) ?_
  refine ex_istore_n (pc := 343) (i := 2) d_RF_analyse_343 rfl (by decide) ?_
  refine ex_heap (show _ = HP (rfFin iv1 TE.cn n Bl.length) mp sp mo from rfl) ?_
  obtain ⟨B2, hR2, hl2, h112, h110, _⟩ := rr_fin hR1 hX1.1 hn
  have hX2 := tX_fin hX1
  have hst8 := hX1.1.2.1.2.2
  have hF2 : FrR iv (rfFin iv1 TE.cn n Bl.length) := hF1.t fr_fin
  refine lj_RF_analyse l G (rfFin iv1 TE.cn n Bl.length) mp sp mo mn (fun k hk => ⟨(hF2 99 k (by omega) (Or.inl (by decide))).trans (hmn k hk).1, (hmn k hk).2⟩) a n hn (tFin n TE) B2 hR2 hX2 _ _ (fun iv3 hq3 => ⟨iv3, rfl, rfl, rq_ref (a := a) hR2 rfl h112 h110 hq3, hF2.t (fun q j h1 h2 => hq3.2 q j (by omega) (by omega) (by omega))⟩) _ _ _ _ _ (TE.cn + 1) 0 B2 (rfFin iv1 TE.cn n Bl.length) (Nat.zero_add _) ⟨hR2.2.2.2.2.2.1, fun _ _ _ _ _ => rfl⟩ (by omega) rfl

