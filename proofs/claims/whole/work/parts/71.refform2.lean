/-! the form (reference): closing lines, the walk -/
theorem loo3 {iv : Nat → Nat → Int32} {a : Nat → Int32} {n : Nat} {T : TS} (hX : tX a T n) (hs : T.stk = []) (hck : ∀ i, 0 < i → i ≤ T.cn → ¬ (T.e i).ck = 0) {i : Nat} (h0 : 0 < i) (hi : i ≤ T.cn) (hl : looR iv T i = true) : (T.e i).ck = 3 := by
  have hns : ∀ i, i ∉ T.stk := fun i => by rw [hs]; exact List.not_mem_nil
  obtain ⟨k, k1, k2, k3⟩ := chC_pos T.cn (looR_c i hi hl)
  have h2 := ((hX.2.2.2.2 k k1 k2).2.1 (by omega)).2 (hns _)
  rw [k3] at h2
  rcases (hX.1.2.2.2.2.2.1 i h0 hi (hns i)).2.2.2.2 with z | z | z
  · exact absurd z (hck i h0 hi)
  · exact absurd z h2.2.2
  · exact z
set_option maxRecDepth 100000 in
set_option maxHeartbeats 4000000 in
theorem lp_RF_endLines {p : Program} {e : Env} {s : State} {m : MethodId} {args : Array Value} {below : List Frame} {meth : Method} {c : Code} (l : Launch) (G : ex_G) (iv : Nat → Nat → Int32) (mp : Nat → Nat) (sp mo : Nat) (mn : Nat → Nat) (a : Nat → Int32) (n : Nat) (hA : TxR iv a n) (T : TS) (hT : RefT iv mn n T) (hX : tX a T n) (hs : T.stk = []) (hck : ∀ i, 0 < i → i ≤ T.cn → ¬ (T.e i).ck = 0) (bf th : Nat) (hth : th ≤ T.cn + 1) (Z : List Int32) : ∀ (k u : Nat) (iv1 : Nat → Nat → Int32) (s9 : List Int32), u ≤ k → u ≤ T.cn → FmQ 92 42 128 iv iv1 s9 → s9.length + (eRf T.e T.cn (looR iv T) (txL a) k u th).length ≤ 900 → s9 ++ (eRf T.e T.cn (looR iv T) (txL a) k u th) = Z → EXM M_RF_endLines l G 2 (fun r h' => ∃ iv2, h' = HP iv2 mp sp mo ∧ r = none ∧ FmQ 92 42 128 iv iv2 Z) p e s m args below meth c 2 [some (.ref 92), some (.int (nI bf)), some (.int (nI th)), some (.int (nI u))] [] (HP iv1 mp sp mo) := by
  intro k
  induction k with
  | zero =>
    intro u iv1 s9 huk huc hq hlen hv
    have hu0 : u = 0 := by omega
    subst hu0
    rw [eRf, List.append_nil] at hv
    subst hv
    refine ex_iload_n (pc := 2) (i := 3) d_RF_endLines_2 rfl rfl ?_
    refine ex_if_le (pc := 3) (tgt := 66) d_RF_endLines_3 rfl (fun c3 => ?_) (fun c3 => ?_)
    · refine ex_vret d_RF_endLines_66 rfl rfl (Nat.le_refl _) ?_
      exact ⟨_, rfl, rfl, hq⟩
    · exact absurd (by decide) c3
  | succ k ih =>
    intro u iv1 s9 huk huc hq hlen hv
    have hn := hA.1
    have hcn : T.cn ≤ 33 := by have := hX.1.1; omega
    have hO := fOk_x hX
    have hfr : ∀ q j, q ≠ 128 → (q ≠ 92 ∨ j ≠ 42) → iv1 q j = iv q j := hq.2.2
    have h16 : iv1 92 16 = nI (T.cn + 1) := (hfr _ _ (by decide) (Or.inr (by decide))).trans hT.1
    have hns : ∀ i, i ∉ T.stk := fun i => by rw [hs]; exact List.not_mem_nil
    rw [eRf] at hlen hv
    by_cases hu0 : u = 0
    case pos =>
      rw [if_pos hu0, List.append_nil] at hv
      subst hv
      subst hu0
      refine ex_iload_n (pc := 2) (i := 3) d_RF_endLines_2 rfl rfl ?_
      refine ex_if_le (pc := 3) (tgt := 66) d_RF_endLines_3 rfl (fun c3 => ?_) (fun c3 => absurd (by decide) c3)
      refine ex_vret d_RF_endLines_66 rfl rfl (Nat.le_refl _) ?_
      exact ⟨_, rfl, rfl, hq⟩
    rw [if_neg hu0] at hlen hv
    have hu1 : 0 < u := by omega
    obtain ⟨i1, i2, i3, i4, i5⟩ := hX.1.2.2.2.2.2.1 u hu1 huc (hns u)
    have hpu := (hX.1.2.2.2.1 u hu1 huc).2.1
    have hpr : iv1 108 u = nI (T.e u).pr := by
      have := (hT.2.1 u huc).2.1
      rw [if_neg hu0] at this
      exact (hfr _ _ (by decide) (Or.inl (by decide))).trans this
    refine ex_iload_n (pc := 2) (i := 3) d_RF_endLines_2 rfl rfl ?_
    refine ex_if_le (pc := 3) (tgt := 66) d_RF_endLines_3 rfl (fun c3 => ?_) (fun c3 => ?_)
    · exact absurd ((n_ge (b := 0) (by omega) (by omega)).mp c3) (by omega)
    · refine ex_iload_n (pc := 6) (i := 2) d_RF_endLines_6 rfl rfl ?_
      refine ex_aload_n (pc := 7) (i := 0) d_RF_endLines_7 rfl rfl ?_
      refine ex_getx (pc := 8) 12 16 (nI (T.cn + 1)) d_RF_endLines_8 FL_RF_185 (Nat.le_of_ble_eq_true rfl) rfl h16 ?_
      refine ex_icmp_ge (pc := 11) (tgt := 23) d_RF_endLines_11 rfl (fun c11 => ?_) (fun c11 => ?_)
      · have hw : ¬ (th ≤ T.cn ∧ wIn T.e th th u = true) := fun z => by have := (n_ge (by omega) (by omega)).mp c11; omega
        rw [if_neg hw] at hlen hv
        refine ex_aload_n (pc := 23) (i := 0) d_RF_endLines_23 rfl rfl ?_
        refine ex_iload_n (pc := 24) (i := 3) d_RF_endLines_24 rfl rfl ?_
        refine ex_callV (pc := 25) (M' := M_RF_loose) (as := [.int (nI u)]) (st := []) d_RF_endLines_25 MW_RF_loose MI_RF_loose LK_RF_240 (Nat.le_of_ble_eq_true rfl) rfl rfl rfl (ct_RF_loose l G iv mp sp mo mn a n hA T hT hX hs iv1 s9 hq u huc) (ex_lt_rm (by decide)) ⟨Nat.le_refl _, Nat.le_refl _⟩ rfl rfl (Nat.le_of_ble_eq_true rfl) ?_
        rintro _ _ ⟨rfl, rfl⟩
        refine ex_if_eq (pc := 28) (tgt := 56) d_RF_endLines_28 rfl (fun c28 => ?_) (fun c28 => ?_)
        · refine ex_aload_n (pc := 56) (i := 0) d_RF_endLines_56 rfl rfl ?_
          refine ex_getr (pc := 57) 12 18 d_RF_endLines_57 FL_RF_56 (Nat.le_of_ble_eq_true rfl) rfl rfl ?_
          refine ex_iload_n (pc := 60) (i := 3) d_RF_endLines_60 rfl rfl ?_
          refine ex_ialdx (pc := 61) u (nI (T.e u).pr) d_RF_endLines_61 (Nat.le_of_ble_eq_true rfl) rfl rfl rfl (nI_t (by omega)) (show u < 40 by omega) hpr ?_
          refine ex_istore_n (pc := 62) (i := 3) d_RF_endLines_62 rfl (by decide) ?_
          refine ex_goto (pc := 63) (tgt := 2) d_RF_endLines_63 rfl ?_
          have hl0 : ¬ looR iv T u = true := by rw [b2i_0 c28]; decide
          have hcl : clL T.e (looR iv T) (txL a) u = [] := if_neg hl0
          rw [hcl, List.nil_append] at hlen hv
          exact ih (T.e u).pr iv1 s9 (by omega) (by omega) hq hlen hv
        · have hl1 : looR iv T u = true := b2i_1 c28
          have h3 := loo3 hX hs hck hu1 huc hl1
          have hcl : clL T.e (looR iv T) (txL a) u = lnL ((T.e u).dp - 1) ++ txL a (T.e u).iT (T.e u).bh := if_pos hl1
          rw [hcl] at hlen hv
          simp only [List.length_append, txL_len, lnL, List.length_cons, List.length_replicate] at hlen
          have hdp8 := (hO.2.2.1 u hu1 huc).2.2
          refine ex_aload_n (pc := 31) (i := 0) d_RF_endLines_31 rfl rfl ?_
          refine ex_aload_n (pc := 32) (i := 0) d_RF_endLines_32 rfl rfl ?_
          refine ex_iload_n (pc := 33) (i := 3) d_RF_endLines_33 rfl rfl ?_
          refine ex_callV (pc := 34) (M' := M_RF_depthOf) (as := [.int (nI u)]) (st := [.ref 92]) d_RF_endLines_34 MW_RF_depthOf MI_RF_depthOf LK_RF_246 (Nat.le_of_ble_eq_true rfl) rfl rfl rfl (ct_RF_depthOf l G iv mp sp mo mn a n hA T hT hX hs iv1 s9 hq u hu1 huc) (ex_lt_rm (by decide)) ⟨Nat.le_refl _, Nat.le_refl _⟩ rfl rfl (Nat.le_of_ble_eq_true rfl) ?_
          rintro _ _ ⟨rfl, rfl⟩
          refine ex_callV (pc := 37) (M' := M_RF_putLine) (as := [.int (nI ((T.e u).dp - 1))]) (st := []) d_RF_endLines_37 MW_RF_putLine MI_RF_putLine LK_RF_249 (Nat.le_of_ble_eq_true rfl) rfl rfl rfl (ct_RF_putLine l G iv1 mp sp mo ((T.e u).dp - 1) s9.length (by omega) hq.1 (by omega)) (ex_lt_rm (by decide)) ⟨Nat.le_refl _, Nat.le_refl _⟩ rfl rfl (Nat.le_of_ble_eq_true rfl) ?_
          rintro _ h6 ⟨e6, rfl⟩
          obtain ⟨iv6, rfl, hq6⟩ : ∃ iv6, h6 = HP iv6 mp sp mo ∧ FmQ 92 42 128 iv iv6 (s9 ++ lnL ((T.e u).dp - 1)) := ⟨_, e6, fm_lin (by decide) hq ((T.e u).dp - 1)⟩
          have hc := hT.2.2.1 u hu1 huc
          have h113 : iv6 113 u = nI (T.e u).iT := (hq6.2.2 _ _ (by decide) (Or.inl (by decide))).trans (hc.2.2.2.2.trans (if_pos h3))
          have h110 : iv6 110 u = nI (T.e u).bh := (hq6.2.2 _ _ (by decide) (Or.inl (by decide))).trans hc.2.1
          refine ex_aload_n (pc := 40) (i := 0) d_RF_endLines_40 rfl rfl ?_
          refine ex_aload_n (pc := 41) (i := 0) d_RF_endLines_41 rfl rfl ?_
          refine ex_getr (pc := 42) 12 23 d_RF_endLines_42 FL_RF_71 (Nat.le_of_ble_eq_true rfl) rfl rfl ?_
          refine ex_iload_n (pc := 45) (i := 3) d_RF_endLines_45 rfl rfl ?_
          refine ex_ialdx (pc := 46) u (nI (T.e u).iT) d_RF_endLines_46 (Nat.le_of_ble_eq_true rfl) rfl rfl rfl (nI_t (by omega)) (show u < 40 by omega) h113 ?_
          refine ex_aload_n (pc := 47) (i := 0) d_RF_endLines_47 rfl rfl ?_
          refine ex_getr (pc := 48) 12 20 d_RF_endLines_48 FL_RF_62 (Nat.le_of_ble_eq_true rfl) rfl rfl ?_
          refine ex_iload_n (pc := 51) (i := 3) d_RF_endLines_51 rfl rfl ?_
          refine ex_ialdx (pc := 52) u (nI (T.e u).bh) d_RF_endLines_52 (Nat.le_of_ble_eq_true rfl) rfl rfl rfl (nI_t (by omega)) (show u < 40 by omega) h110 ?_
          refine ex_callV (pc := 53) (M' := M_RF_putText) (as := [.int (nI (T.e u).iT), .int (nI (T.e u).bh)]) (st := []) d_RF_endLines_53 MW_RF_putText MI_RF_putText LK_RF_252 (Nat.le_of_ble_eq_true rfl) rfl rfl rfl (ct_RF_putText l G iv6 mp sp mo (T.e u).iT (T.e u).bh _ i4 (by omega) hq6.1 (by simp only [List.length_append, txL_len, lnL, List.length_cons, List.length_replicate]; omega)) (ex_lt_rm (by decide)) ⟨Nat.le_refl _, Nat.le_refl _⟩ rfl rfl (Nat.le_of_ble_eq_true rfl) ?_
          rintro _ h7 ⟨e7, rfl⟩
          obtain ⟨iv7, rfl, hq7⟩ : ∃ iv7, h7 = HP iv7 mp sp mo ∧ FmQ 92 42 128 iv iv7 (s9 ++ lnL ((T.e u).dp - 1) ++ txL a (T.e u).iT (T.e u).bh) := by
            have hz := fm_cpy (by decide) (iv6 106) ((T.e u).bh - (T.e u).iT) (T.e u).iT iv6 _ hq6
            rw [show sl (iv6 106) ((T.e u).bh - (T.e u).iT) (T.e u).iT = txL a (T.e u).iT (T.e u).bh from sl_cg _ _ (fun k k1 k2 => (hq6.2.2 106 k (by decide) (Or.inl (by decide))).trans (hA.2.2.1 k (by omega)))] at hz
            exact ⟨_, e7, hz⟩
          refine ex_aload_n (pc := 56) (i := 0) d_RF_endLines_56 rfl rfl ?_
          refine ex_getr (pc := 57) 12 18 d_RF_endLines_57 FL_RF_56 (Nat.le_of_ble_eq_true rfl) rfl rfl ?_
          refine ex_iload_n (pc := 60) (i := 3) d_RF_endLines_60 rfl rfl ?_
          refine ex_ialdx (pc := 61) u (nI (T.e u).pr) d_RF_endLines_61 (Nat.le_of_ble_eq_true rfl) rfl rfl rfl (nI_t (by omega)) (show u < 40 by omega) ((hq7.2.2 _ _ (by decide) (Or.inl (by decide))).trans ((hfr _ _ (by decide) (Or.inl (by decide))).symm.trans hpr)) ?_
          refine ex_istore_n (pc := 62) (i := 3) d_RF_endLines_62 rfl (by decide) ?_
          refine ex_goto (pc := 63) (tgt := 2) d_RF_endLines_63 rfl ?_
          exact ih (T.e u).pr iv7 _ (by omega) (by omega) hq7 (by simp only [List.length_append, txL_len, lnL, List.length_cons, List.length_replicate]; omega) (by rw [← hv]; simp only [List.append_assoc])
      · refine ex_aload_n (pc := 14) (i := 0) d_RF_endLines_14 rfl rfl ?_
        refine ex_iload_n (pc := 15) (i := 2) d_RF_endLines_15 rfl rfl ?_
        refine ex_iload_n (pc := 16) (i := 3) d_RF_endLines_16 rfl rfl ?_
        refine ex_callV (pc := 17) (M' := M_RF_within) (as := [.int (nI th), .int (nI u)]) (st := []) d_RF_endLines_17 MW_RF_within MI_RF_within LK_RF_243 (Nat.le_of_ble_eq_true rfl) rfl rfl rfl (ct_RF_within l G iv mp sp mo mn a n hA T hT hX hs iv1 s9 hq th u (Nat.le_of_lt_succ (Classical.byContradiction (fun z => c11 ((n_ge (by omega) (by omega)).mpr (by omega))))) huc) (ex_lt_rm (by decide)) ⟨Nat.le_refl _, Nat.le_refl _⟩ rfl rfl (Nat.le_of_ble_eq_true rfl) ?_
        rintro _ _ ⟨rfl, rfl⟩
        refine ex_if_ne (pc := 20) (tgt := 66) d_RF_endLines_20 rfl (fun c20 => ?_) (fun c20 => ?_)
        · refine ex_vret d_RF_endLines_66 rfl rfl (Nat.le_refl _) ?_
          have hw : th ≤ T.cn ∧ wIn T.e th th u = true := ⟨Nat.le_of_lt_succ (Classical.byContradiction (fun z => c11 ((n_ge (by omega) (by omega)).mpr (by omega)))), b2i_1 c20⟩
          rw [if_pos hw, List.append_nil] at hv
          subst hv
          exact ⟨_, rfl, rfl, hq⟩
        · have hw : ¬ (th ≤ T.cn ∧ wIn T.e th th u = true) := fun z => by have z2 := z.2; rw [b2i_0 c20] at z2; cases z2
          rw [if_neg hw] at hlen hv
          refine ex_aload_n (pc := 23) (i := 0) d_RF_endLines_23 rfl rfl ?_
          refine ex_iload_n (pc := 24) (i := 3) d_RF_endLines_24 rfl rfl ?_
          refine ex_callV (pc := 25) (M' := M_RF_loose) (as := [.int (nI u)]) (st := []) d_RF_endLines_25 MW_RF_loose MI_RF_loose LK_RF_240 (Nat.le_of_ble_eq_true rfl) rfl rfl rfl (ct_RF_loose l G iv mp sp mo mn a n hA T hT hX hs iv1 s9 hq u huc) (ex_lt_rm (by decide)) ⟨Nat.le_refl _, Nat.le_refl _⟩ rfl rfl (Nat.le_of_ble_eq_true rfl) ?_
          rintro _ _ ⟨rfl, rfl⟩
          refine ex_if_eq (pc := 28) (tgt := 56) d_RF_endLines_28 rfl (fun c28 => ?_) (fun c28 => ?_)
          · refine ex_aload_n (pc := 56) (i := 0) d_RF_endLines_56 rfl rfl ?_
            refine ex_getr (pc := 57) 12 18 d_RF_endLines_57 FL_RF_56 (Nat.le_of_ble_eq_true rfl) rfl rfl ?_
            refine ex_iload_n (pc := 60) (i := 3) d_RF_endLines_60 rfl rfl ?_
            refine ex_ialdx (pc := 61) u (nI (T.e u).pr) d_RF_endLines_61 (Nat.le_of_ble_eq_true rfl) rfl rfl rfl (nI_t (by omega)) (show u < 40 by omega) hpr ?_
            refine ex_istore_n (pc := 62) (i := 3) d_RF_endLines_62 rfl (by decide) ?_
            refine ex_goto (pc := 63) (tgt := 2) d_RF_endLines_63 rfl ?_
            have hl0 : ¬ looR iv T u = true := by rw [b2i_0 c28]; decide
            have hcl : clL T.e (looR iv T) (txL a) u = [] := if_neg hl0
            rw [hcl, List.nil_append] at hlen hv
            exact ih (T.e u).pr iv1 s9 (by omega) (by omega) hq hlen hv
          · have hl1 : looR iv T u = true := b2i_1 c28
            have h3 := loo3 hX hs hck hu1 huc hl1
            have hcl : clL T.e (looR iv T) (txL a) u = lnL ((T.e u).dp - 1) ++ txL a (T.e u).iT (T.e u).bh := if_pos hl1
            rw [hcl] at hlen hv
            simp only [List.length_append, txL_len, lnL, List.length_cons, List.length_replicate] at hlen
            have hdp8 := (hO.2.2.1 u hu1 huc).2.2
            refine ex_aload_n (pc := 31) (i := 0) d_RF_endLines_31 rfl rfl ?_
            refine ex_aload_n (pc := 32) (i := 0) d_RF_endLines_32 rfl rfl ?_
            refine ex_iload_n (pc := 33) (i := 3) d_RF_endLines_33 rfl rfl ?_
            refine ex_callV (pc := 34) (M' := M_RF_depthOf) (as := [.int (nI u)]) (st := [.ref 92]) d_RF_endLines_34 MW_RF_depthOf MI_RF_depthOf LK_RF_246 (Nat.le_of_ble_eq_true rfl) rfl rfl rfl (ct_RF_depthOf l G iv mp sp mo mn a n hA T hT hX hs iv1 s9 hq u hu1 huc) (ex_lt_rm (by decide)) ⟨Nat.le_refl _, Nat.le_refl _⟩ rfl rfl (Nat.le_of_ble_eq_true rfl) ?_
            rintro _ _ ⟨rfl, rfl⟩
            refine ex_callV (pc := 37) (M' := M_RF_putLine) (as := [.int (nI ((T.e u).dp - 1))]) (st := []) d_RF_endLines_37 MW_RF_putLine MI_RF_putLine LK_RF_249 (Nat.le_of_ble_eq_true rfl) rfl rfl rfl (ct_RF_putLine l G iv1 mp sp mo ((T.e u).dp - 1) s9.length (by omega) hq.1 (by omega)) (ex_lt_rm (by decide)) ⟨Nat.le_refl _, Nat.le_refl _⟩ rfl rfl (Nat.le_of_ble_eq_true rfl) ?_
            rintro _ h6 ⟨e6, rfl⟩
            obtain ⟨iv6, rfl, hq6⟩ : ∃ iv6, h6 = HP iv6 mp sp mo ∧ FmQ 92 42 128 iv iv6 (s9 ++ lnL ((T.e u).dp - 1)) := ⟨_, e6, fm_lin (by decide) hq ((T.e u).dp - 1)⟩
            have hc := hT.2.2.1 u hu1 huc
            have h113 : iv6 113 u = nI (T.e u).iT := (hq6.2.2 _ _ (by decide) (Or.inl (by decide))).trans (hc.2.2.2.2.trans (if_pos h3))
            have h110 : iv6 110 u = nI (T.e u).bh := (hq6.2.2 _ _ (by decide) (Or.inl (by decide))).trans hc.2.1
            refine ex_aload_n (pc := 40) (i := 0) d_RF_endLines_40 rfl rfl ?_
            refine ex_aload_n (pc := 41) (i := 0) d_RF_endLines_41 rfl rfl ?_
            refine ex_getr (pc := 42) 12 23 d_RF_endLines_42 FL_RF_71 (Nat.le_of_ble_eq_true rfl) rfl rfl ?_
            refine ex_iload_n (pc := 45) (i := 3) d_RF_endLines_45 rfl rfl ?_
            refine ex_ialdx (pc := 46) u (nI (T.e u).iT) d_RF_endLines_46 (Nat.le_of_ble_eq_true rfl) rfl rfl rfl (nI_t (by omega)) (show u < 40 by omega) h113 ?_
            refine ex_aload_n (pc := 47) (i := 0) d_RF_endLines_47 rfl rfl ?_
            refine ex_getr (pc := 48) 12 20 d_RF_endLines_48 FL_RF_62 (Nat.le_of_ble_eq_true rfl) rfl rfl ?_
            refine ex_iload_n (pc := 51) (i := 3) d_RF_endLines_51 rfl rfl ?_
            refine ex_ialdx (pc := 52) u (nI (T.e u).bh) d_RF_endLines_52 (Nat.le_of_ble_eq_true rfl) rfl rfl rfl (nI_t (by omega)) (show u < 40 by omega) h110 ?_
            refine ex_callV (pc := 53) (M' := M_RF_putText) (as := [.int (nI (T.e u).iT), .int (nI (T.e u).bh)]) (st := []) d_RF_endLines_53 MW_RF_putText MI_RF_putText LK_RF_252 (Nat.le_of_ble_eq_true rfl) rfl rfl rfl (ct_RF_putText l G iv6 mp sp mo (T.e u).iT (T.e u).bh _ i4 (by omega) hq6.1 (by simp only [List.length_append, txL_len, lnL, List.length_cons, List.length_replicate]; omega)) (ex_lt_rm (by decide)) ⟨Nat.le_refl _, Nat.le_refl _⟩ rfl rfl (Nat.le_of_ble_eq_true rfl) ?_
            rintro _ h7 ⟨e7, rfl⟩
            obtain ⟨iv7, rfl, hq7⟩ : ∃ iv7, h7 = HP iv7 mp sp mo ∧ FmQ 92 42 128 iv iv7 (s9 ++ lnL ((T.e u).dp - 1) ++ txL a (T.e u).iT (T.e u).bh) := by
              have hz := fm_cpy (by decide) (iv6 106) ((T.e u).bh - (T.e u).iT) (T.e u).iT iv6 _ hq6
              rw [show sl (iv6 106) ((T.e u).bh - (T.e u).iT) (T.e u).iT = txL a (T.e u).iT (T.e u).bh from sl_cg _ _ (fun k k1 k2 => (hq6.2.2 106 k (by decide) (Or.inl (by decide))).trans (hA.2.2.1 k (by omega)))] at hz
              exact ⟨_, e7, hz⟩
            refine ex_aload_n (pc := 56) (i := 0) d_RF_endLines_56 rfl rfl ?_
            refine ex_getr (pc := 57) 12 18 d_RF_endLines_57 FL_RF_56 (Nat.le_of_ble_eq_true rfl) rfl rfl ?_
            refine ex_iload_n (pc := 60) (i := 3) d_RF_endLines_60 rfl rfl ?_
            refine ex_ialdx (pc := 61) u (nI (T.e u).pr) d_RF_endLines_61 (Nat.le_of_ble_eq_true rfl) rfl rfl rfl (nI_t (by omega)) (show u < 40 by omega) ((hq7.2.2 _ _ (by decide) (Or.inl (by decide))).trans ((hfr _ _ (by decide) (Or.inl (by decide))).symm.trans hpr)) ?_
            refine ex_istore_n (pc := 62) (i := 3) d_RF_endLines_62 rfl (by decide) ?_
            refine ex_goto (pc := 63) (tgt := 2) d_RF_endLines_63 rfl ?_
            exact ih (T.e u).pr iv7 _ (by omega) (by omega) hq7 (by simp only [List.length_append, txL_len, lnL, List.length_cons, List.length_replicate]; omega) (by rw [← hv]; simp only [List.append_assoc])

