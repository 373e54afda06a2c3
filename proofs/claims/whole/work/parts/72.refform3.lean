/-! the form whole (reference) -/
set_option maxRecDepth 100000 in
set_option maxHeartbeats 4000000 in
theorem ct_RF_endLines (l : Launch) (G : ex_G) (iv : Nat → Nat → Int32) (mp : Nat → Nat) (sp mo : Nat) (mn : Nat → Nat) (a : Nat → Int32) (n : Nat) (hA : TxR iv a n) (T : TS) (hT : RefT iv mn n T) (hX : tX a T n) (hs : T.stk = []) (hck : ∀ i, 0 < i → i ≤ T.cn → ¬ (T.e i).ck = 0) (bf th : Nat) (hth : th ≤ T.cn + 1) (hbf : bf ≤ T.cn) (iv1 : Nat → Nat → Int32) (s9 : List Int32) (hq : FmQ 92 42 128 iv iv1 s9) (hlen : s9.length + (eRf T.e T.cn (looR iv T) (txL a) bf bf th).length ≤ 900) : CT l G 2 M_RF_endLines [.ref 92, .int (nI bf), .int (nI th)] (HP iv1 mp sp mo) 0 0 (fun r h' => ∃ iv2, h' = HP iv2 mp sp mo ∧ r = none ∧ FmQ 92 42 128 iv iv2 (s9 ++ (eRf T.e T.cn (looR iv T) (txL a) bf bf th))) := by
  refine ex_enter (by decide) (Nat.le_of_ble_eq_true rfl) (fun v hv => by simp at hv; rcases hv with rfl | rfl | rfl <;> rfl) (fun p e s m args below meth c => ?_)
  refine ex_iload_n (pc := 0) (i := 1) d_RF_endLines_0 rfl rfl ?_
  refine ex_istore_n (pc := 1) (i := 3) d_RF_endLines_1 rfl (by decide) ?_
  exact lp_RF_endLines l G iv mp sp mo mn a n hA T hT hX hs hck bf th hth _ bf bf iv1 s9 (Nat.le_refl _) hbf hq hlen rfl

/-- whether a row of faults prevents a form -/
def pvK (s : List Nat) : Nat → Nat → Bool
  | 0, _ => false
  | k + 1, i => if s.getD i 0 % 8 < 5 then true else pvK s k (i + 1)
theorem pvK_no {s : List Nat} : ∀ k i, pvK s k i = false → ∀ j, i ≤ j → j < i + k → ¬ s.getD j 0 % 8 < 5 := by
  intro k
  induction k with
  | zero => intro i _ j h1 h2; omega
  | succ k ih =>
    intro i h j h1 h2
    rw [pvK] at h
    by_cases z : s.getD i 0 % 8 < 5
    · rw [if_pos z] at h; cases h
    · rw [if_neg z] at h
      by_cases q : j = i
      · rw [q]; exact z
      · exact ih (i + 1) h j (by omega) (by omega)
theorem gA_sub {f : Nat → List Nat} : ∀ k i A x, x ∈ A → x ∈ gA f k i A := by
  intro k
  induction k with
  | zero => intro i A x h; exact h
  | succ k ih => intro i A x h; exact ih _ _ x (List.mem_append_right _ h)
theorem mem_getD {s : List Nat} {x : Nat} (h : x ∈ s) : ∃ j, j < s.length ∧ s.getD j 0 = x := by
  obtain ⟨j, hj, e1⟩ := List.mem_iff_getElem.mp h
  exact ⟨j, hj, by rw [List.getD_eq_getElem?_getD, List.getElem?_eq_getElem hj]; exact e1⟩
theorem pv_ck {iv : Nat → Nat → Int32} {mn : Nat → Nat} {T : TS} {Bl : List Nat} {p9 : Nat} (hI : tI T p9) (hs : T.stk = []) (hB : Bl.Perm (T.fl ++ T.br.map (k4 T.e))) (hv : pvK (srt (RfF iv mn T Bl)) (RfF iv mn T Bl).length 0 = false) : ∀ i, 0 < i → i ≤ T.cn → ¬ (T.e i).ck = 0 := by
  intro i h0 hi hc
  have h1 : i ∈ T.br := (hI.2.2.2.2.1.2 i).mpr ⟨h0, hi, by rw [hs]; exact List.not_mem_nil, hc⟩
  have h2 : k4 T.e i ∈ Bl := hB.mem_iff.mpr (List.mem_append_right _ (List.mem_map_of_mem h1))
  have h3 : k4 T.e i ∈ srt (RfF iv mn T Bl) := (srt_mem _ _).mpr (gA_sub _ _ _ _ h2)
  obtain ⟨j, hj, e1⟩ := mem_getD h3
  rw [srt_len] at hj
  have h4 := pvK_no _ 0 hv j (Nat.zero_le _) (by omega)
  rw [e1] at h4
  unfold k4 at h4
  omega
set_option maxRecDepth 100000 in
set_option maxHeartbeats 4000000 in
theorem lp_RF_makeForm {p : Program} {e : Env} {s : State} {m : MethodId} {args : Array Value} {below : List Frame} {meth : Method} {c : Code} (l : Launch) (G : ex_G) (iv : Nat → Nat → Int32) (mp : Nat → Nat) (sp mo : Nat) (mn : Nat → Nat) (a : Nat → Int32) (n : Nat) (hA : TxR iv a n) (T : TS) (hT : RefT iv mn n T) (hX : tX a T n) (hs : T.stk = []) (hck : ∀ i, 0 < i → i ≤ T.cn → ¬ (T.e i).ck = 0) (Z : List Int32) (PP : Option Value → ex_H → Prop) (hPP : ∀ iv2, FmQ 92 42 128 iv iv2 Z → PP (some (.int (nI Z.length))) (HP iv2 mp sp mo)) : ∀ (k q l9 : Nat) (iv1 : Nat → Nat → Int32) (s9 : List Int32), 0 < l9 → l9 ≤ T.cn → 0 < q → q + k = T.cn + 1 → FmQ 92 42 128 iv iv1 s9 → s9.length + (rLf T.e T.cn (looR iv T) (txL a) k q l9).length ≤ 900 → s9 ++ (rLf T.e T.cn (looR iv T) (txL a) k q l9) = Z → EXM M_RF_makeForm l G 4 (fun r h' => PP r h') p e s m args below meth c 59 [some (.ref 92), some (.int (nI l9)), some (.int (nI q))] [] (HP iv1 mp sp mo) := by
  intro k
  induction k with
  | zero =>
    intro q l9 iv1 s9 hl0 hlc hq1 hqk hq hlen hv
    have hn := hA.1
    have hcn : T.cn ≤ 33 := by have := hX.1.1; omega
    have hO := fOk_x hX
    have hfr : ∀ q j, q ≠ 128 → (q ≠ 92 ∨ j ≠ 42) → iv1 q j = iv q j := hq.2.2
    have h16 : iv1 92 16 = nI (T.cn + 1) := (hfr _ _ (by decide) (Or.inr (by decide))).trans hT.1
    have hns : ∀ i, i ∉ T.stk := fun i => by rw [hs]; exact List.not_mem_nil
    rw [rLf] at hlen hv
    refine ex_iload_n (pc := 59) (i := 2) d_RF_makeForm_59 rfl rfl ?_
    refine ex_aload_n (pc := 60) (i := 0) d_RF_makeForm_60 rfl rfl ?_
    refine ex_getx (pc := 61) 12 16 (nI (T.cn + 1)) d_RF_makeForm_61 FL_RF_185 (Nat.le_of_ble_eq_true rfl) rfl h16 ?_
    refine ex_icmp_ge (pc := 64) (tgt := 138) d_RF_makeForm_64 rfl (fun c64 => ?_) (fun c64 => ?_)
    · refine ex_aload_n (pc := 138) (i := 0) d_RF_makeForm_138 rfl rfl ?_
      refine ex_iload_n (pc := 139) (i := 1) d_RF_makeForm_139 rfl rfl ?_
      refine ex_aload_n (pc := 140) (i := 0) d_RF_makeForm_140 rfl rfl ?_
      refine ex_getx (pc := 141) 12 16 (nI (T.cn + 1)) d_RF_makeForm_141 FL_RF_185 (Nat.le_of_ble_eq_true rfl) rfl h16 ?_
      refine ex_callV (pc := 144) (M' := M_RF_endLines) (as := [.int (nI l9), .int (nI (T.cn + 1))]) (st := []) d_RF_makeForm_144 MW_RF_endLines MI_RF_endLines LK_RF_258 (Nat.le_of_ble_eq_true rfl) rfl rfl rfl (ct_RF_endLines l G iv mp sp mo mn a n hA T hT hX hs hck l9 (T.cn + 1) (Nat.le_refl _) hlc iv1 s9 hq hlen) (ex_lt_rm (by decide)) ⟨Nat.le_refl _, Nat.le_refl _⟩ rfl rfl (Nat.le_of_ble_eq_true rfl) ?_
      rintro _ _ ⟨iv2, rfl, rfl, hq2⟩
      rw [hv] at hq2
      have hz1 : iv2 92 42 = nI Z.length := hq2.1
      refine ex_aload_n (pc := 147) (i := 0) d_RF_makeForm_147 rfl rfl ?_
      refine ex_getx (pc := 148) 12 42 (nI Z.length) d_RF_makeForm_148 FL_RF_234 (Nat.le_of_ble_eq_true rfl) rfl hz1 ?_
      refine ex_iret (ty := .int) d_RF_makeForm_151 rfl rfl rfl (Nat.le_refl _) ?_
      exact hPP _ hq2
    · exact absurd ((n_ge (by omega) (by omega)).mpr (by omega)) c64
  | succ k ih =>
    intro q l9 iv1 s9 hl0 hlc hq1 hqk hq hlen hv
    have hn := hA.1
    have hcn : T.cn ≤ 33 := by have := hX.1.1; omega
    have hO := fOk_x hX
    have hfr : ∀ q j, q ≠ 128 → (q ≠ 92 ∨ j ≠ 42) → iv1 q j = iv q j := hq.2.2
    have h16 : iv1 92 16 = nI (T.cn + 1) := (hfr _ _ (by decide) (Or.inr (by decide))).trans hT.1
    have hns : ∀ i, i ∉ T.stk := fun i => by rw [hs]; exact List.not_mem_nil
    have hqc : q ≤ T.cn := by omega
    obtain ⟨i1, i2, i3, i4, i5⟩ := hX.1.2.2.2.2.2.1 q hq1 hqc (hns q)
    have i6 := hX.1.2.2.2.1 q hq1 hqc
    have hdp8 := (hO.2.2.1 q hq1 hqc).2.2
    rw [rLf] at hlen hv
    refine ex_iload_n (pc := 59) (i := 2) d_RF_makeForm_59 rfl rfl ?_
    refine ex_aload_n (pc := 60) (i := 0) d_RF_makeForm_60 rfl rfl ?_
    refine ex_getx (pc := 61) 12 16 (nI (T.cn + 1)) d_RF_makeForm_61 FL_RF_185 (Nat.le_of_ble_eq_true rfl) rfl h16 ?_
    refine ex_icmp_ge (pc := 64) (tgt := 138) d_RF_makeForm_64 rfl (fun c64 => ?_) (fun c64 => ?_)
    · exact absurd ((n_ge (by omega) (by omega)).mp c64) (by omega)
    · refine ex_aload_n (pc := 67) (i := 0) d_RF_makeForm_67 rfl rfl ?_
      refine ex_iload_n (pc := 68) (i := 2) d_RF_makeForm_68 rfl rfl ?_
      refine ex_callV (pc := 69) (M' := M_RF_laid) (as := [.int (nI q)]) (st := []) d_RF_makeForm_69 MW_RF_laid MI_RF_laid LK_RF_255 (Nat.le_of_ble_eq_true rfl) rfl rfl rfl (ct_RF_laid l G iv mp sp mo mn a n hA T hT hX hs iv1 s9 hq q hq1 hqc) (ex_lt_rm (by decide)) ⟨Nat.le_refl _, Nat.le_refl _⟩ rfl rfl (Nat.le_of_ble_eq_true rfl) ?_
      rintro _ _ ⟨rfl, rfl⟩
      refine ex_if_ne (pc := 72) (tgt := 78) d_RF_makeForm_72 rfl (fun c72 => ?_) (fun c72 => ?_)
      · rw [if_pos (b2i_1 c72)] at hlen hv
        simp only [List.length_append, txL_len, lnL, List.length_cons, List.length_replicate] at hlen
        refine ex_aload_n (pc := 78) (i := 0) d_RF_makeForm_78 rfl rfl ?_
        refine ex_iload_n (pc := 79) (i := 1) d_RF_makeForm_79 rfl rfl ?_
        refine ex_iload_n (pc := 80) (i := 2) d_RF_makeForm_80 rfl rfl ?_
        refine ex_callV (pc := 81) (M' := M_RF_endLines) (as := [.int (nI l9), .int (nI q)]) (st := []) d_RF_makeForm_81 MW_RF_endLines MI_RF_endLines LK_RF_258 (Nat.le_of_ble_eq_true rfl) rfl rfl rfl (ct_RF_endLines l G iv mp sp mo mn a n hA T hT hX hs hck l9 q (by omega) hlc iv1 s9 hq (by omega)) (ex_lt_rm (by decide)) ⟨Nat.le_refl _, Nat.le_refl _⟩ rfl rfl (Nat.le_of_ble_eq_true rfl) ?_
        rintro _ _ ⟨iv5, rfl, rfl, hq5⟩
        refine ex_iload_n (pc := 84) (i := 1) d_RF_makeForm_84 rfl rfl ?_
        refine ex_if_le (pc := 85) (tgt := 97) d_RF_makeForm_85 rfl (fun c85 => ?_) (fun c85 => ?_)
        · exact absurd ((n_ge (b := 0) (by omega) (by omega)).mp c85) (by omega)
        · refine ex_aload_n (pc := 88) (i := 0) d_RF_makeForm_88 rfl rfl ?_
          refine ex_aload_n (pc := 89) (i := 0) d_RF_makeForm_89 rfl rfl ?_
          refine ex_iload_n (pc := 90) (i := 2) d_RF_makeForm_90 rfl rfl ?_
          refine ex_callV (pc := 91) (M' := M_RF_depthOf) (as := [.int (nI q)]) (st := [.ref 92]) d_RF_makeForm_91 MW_RF_depthOf MI_RF_depthOf LK_RF_246 (Nat.le_of_ble_eq_true rfl) rfl rfl rfl (ct_RF_depthOf l G iv mp sp mo mn a n hA T hT hX hs iv5 _ hq5 q hq1 hqc) (ex_lt_rm (by decide)) ⟨Nat.le_refl _, Nat.le_refl _⟩ rfl rfl (Nat.le_of_ble_eq_true rfl) ?_
          rintro _ _ ⟨rfl, rfl⟩
          refine ex_callV (pc := 94) (M' := M_RF_putLine) (as := [.int (nI ((T.e q).dp - 1))]) (st := []) d_RF_makeForm_94 MW_RF_putLine MI_RF_putLine LK_RF_249 (Nat.le_of_ble_eq_true rfl) rfl rfl rfl (ct_RF_putLine l G iv5 mp sp mo ((T.e q).dp - 1) _ (by omega) hq5.1 (by simp only [List.length_append, txL_len, lnL, List.length_cons, List.length_replicate]; omega)) (ex_lt_rm (by decide)) ⟨Nat.le_refl _, Nat.le_refl _⟩ rfl rfl (Nat.le_of_ble_eq_true rfl) ?_
          rintro _ h6 ⟨e6, rfl⟩
          obtain ⟨iv6, rfl, hq6⟩ : ∃ iv6, h6 = HP iv6 mp sp mo ∧ FmQ 92 42 128 iv iv6 (s9 ++ (eRf T.e T.cn (looR iv T) (txL a) l9 l9 q) ++ lnL ((T.e q).dp - 1)) := ⟨_, e6, fm_lin (by decide) hq5 ((T.e q).dp - 1)⟩
          refine ex_aload_n (pc := 97) (i := 0) d_RF_makeForm_97 rfl rfl ?_
          refine ex_aload_n (pc := 98) (i := 0) d_RF_makeForm_98 rfl rfl ?_
          refine ex_getr (pc := 99) 12 19 d_RF_makeForm_99 FL_RF_59 (Nat.le_of_ble_eq_true rfl) rfl rfl ?_
          refine ex_iload_n (pc := 102) (i := 2) d_RF_makeForm_102 rfl rfl ?_
          refine ex_ialdx (pc := 103) q (nI (T.e q).bg) d_RF_makeForm_103 (Nat.le_of_ble_eq_true rfl) rfl rfl rfl (nI_t (by omega)) (show q < 40 by omega) ((hq6.2.2 _ _ (by decide) (Or.inl (by decide))).trans (hT.2.1 q hqc).2.2.1) ?_
          refine ex_aload_n (pc := 104) (i := 0) d_RF_makeForm_104 rfl rfl ?_
          refine ex_iload_n (pc := 105) (i := 2) d_RF_makeForm_105 rfl rfl ?_
          refine ex_callV (pc := 106) (M' := M_RF_loose) (as := [.int (nI q)]) (st := [.int (nI (T.e q).bg), .ref 92]) d_RF_makeForm_106 MW_RF_loose MI_RF_loose LK_RF_240 (Nat.le_of_ble_eq_true rfl) rfl rfl rfl (ct_RF_loose l G iv mp sp mo mn a n hA T hT hX hs iv6 _ hq6 q hqc) (ex_lt_rm (by decide)) ⟨Nat.le_refl _, Nat.le_refl _⟩ rfl rfl (Nat.le_of_ble_eq_true rfl) ?_
          rintro _ _ ⟨rfl, rfl⟩
          refine ex_if_eq (pc := 109) (tgt := 121) d_RF_makeForm_109 rfl (fun c109 => ?_) (fun c109 => ?_)
          · have hop : opL T.e (looR iv T) (txL a) q = txL a (T.e q).bg (T.e q).bh := if_neg (by rw [b2i_0 c109]; decide)
            rw [hop] at hlen hv
            simp only [List.length_append, txL_len, lnL, List.length_cons, List.length_replicate] at hlen
            refine ex_aload_n (pc := 121) (i := 0) d_RF_makeForm_121 rfl rfl ?_
            refine ex_getr (pc := 122) 12 20 d_RF_makeForm_122 FL_RF_62 (Nat.le_of_ble_eq_true rfl) rfl rfl ?_
            refine ex_iload_n (pc := 125) (i := 2) d_RF_makeForm_125 rfl rfl ?_
            refine ex_ialdx (pc := 126) q (nI (T.e q).bh) d_RF_makeForm_126 (Nat.le_of_ble_eq_true rfl) rfl rfl rfl (nI_t (by omega)) (show q < 40 by omega) ((hq6.2.2 _ _ (by decide) (Or.inl (by decide))).trans (hT.2.2.1 q hq1 hqc).2.1) ?_
            refine ex_callV (pc := 127) (M' := M_RF_putText) (as := [.int (nI (T.e q).bg), .int (nI (T.e q).bh)]) (st := []) d_RF_makeForm_127 MW_RF_putText MI_RF_putText LK_RF_252 (Nat.le_of_ble_eq_true rfl) rfl rfl rfl (ct_RF_putText l G iv6 mp sp mo (T.e q).bg (T.e q).bh _ (by omega) (by omega) hq6.1 (by simp only [List.length_append, txL_len, lnL, List.length_cons, List.length_replicate]; omega)) (ex_lt_rm (by decide)) ⟨Nat.le_refl _, Nat.le_refl _⟩ rfl rfl (Nat.le_of_ble_eq_true rfl) ?_
            rintro _ h7 ⟨e7, rfl⟩
            obtain ⟨iv7, rfl, hq7⟩ : ∃ iv7, h7 = HP iv7 mp sp mo ∧ FmQ 92 42 128 iv iv7 ((s9 ++ (eRf T.e T.cn (looR iv T) (txL a) l9 l9 q) ++ lnL ((T.e q).dp - 1)) ++ txL a (T.e q).bg (T.e q).bh) := by
              have hz := fm_cpy (by decide) (iv6 106) ((T.e q).bh - (T.e q).bg) (T.e q).bg iv6 _ hq6
              rw [show sl (iv6 106) ((T.e q).bh - (T.e q).bg) (T.e q).bg = txL a (T.e q).bg (T.e q).bh from sl_cg _ _ (fun k k1 k2 => (hq6.2.2 106 k (by decide) (Or.inl (by decide))).trans (hA.2.2.1 k (by omega)))] at hz
              exact ⟨_, e7, hz⟩
            refine ex_iload_n (pc := 130) (i := 2) d_RF_makeForm_130 rfl rfl ?_
            refine ex_istore_n (pc := 131) (i := 1) d_RF_makeForm_131 rfl (by decide) ?_
            refine ex_iinc (pc := 132) (v := (nI (q + 1))) d_RF_makeForm_132 rfl (nI_1 q) (by decide) ?_
            refine ex_goto (pc := 135) (tgt := 59) d_RF_makeForm_135 rfl ?_
            exact ih (q + 1) q iv7 _ hq1 hqc (by omega) (by omega) hq7 (by simp only [List.length_append, txL_len, lnL, List.length_cons, List.length_replicate]; omega) (by rw [← hv]; simp only [List.append_assoc])
          · have hop : opL T.e (looR iv T) (txL a) q = txL a (T.e q).bg (T.e q).iF := if_pos (b2i_1 c109)
            rw [hop] at hlen hv
            simp only [List.length_append, txL_len, lnL, List.length_cons, List.length_replicate] at hlen
            refine ex_aload_n (pc := 112) (i := 0) d_RF_makeForm_112 rfl rfl ?_
            refine ex_getr (pc := 113) 12 21 d_RF_makeForm_113 FL_RF_65 (Nat.le_of_ble_eq_true rfl) rfl rfl ?_
            refine ex_iload_n (pc := 116) (i := 2) d_RF_makeForm_116 rfl rfl ?_
            refine ex_ialdx (pc := 117) q (nI (T.e q).iF) d_RF_makeForm_117 (Nat.le_of_ble_eq_true rfl) rfl rfl rfl (nI_t (by omega)) (show q < 40 by omega) ((hq6.2.2 _ _ (by decide) (Or.inl (by decide))).trans ((hT.2.2.1 q hq1 hqc).2.2.1.trans (if_neg (by rw [loo3 hX hs hck hq1 hqc (b2i_1 c109)]; decide)))) ?_
            refine ex_goto (pc := 118) (tgt := 127) d_RF_makeForm_118 rfl ?_
            refine ex_callV (pc := 127) (M' := M_RF_putText) (as := [.int (nI (T.e q).bg), .int (nI (T.e q).iF)]) (st := []) d_RF_makeForm_127 MW_RF_putText MI_RF_putText LK_RF_252 (Nat.le_of_ble_eq_true rfl) rfl rfl rfl (ct_RF_putText l G iv6 mp sp mo (T.e q).bg (T.e q).iF _ (by omega) (by omega) hq6.1 (by simp only [List.length_append, txL_len, lnL, List.length_cons, List.length_replicate]; omega)) (ex_lt_rm (by decide)) ⟨Nat.le_refl _, Nat.le_refl _⟩ rfl rfl (Nat.le_of_ble_eq_true rfl) ?_
            rintro _ h7 ⟨e7, rfl⟩
            obtain ⟨iv7, rfl, hq7⟩ : ∃ iv7, h7 = HP iv7 mp sp mo ∧ FmQ 92 42 128 iv iv7 ((s9 ++ (eRf T.e T.cn (looR iv T) (txL a) l9 l9 q) ++ lnL ((T.e q).dp - 1)) ++ txL a (T.e q).bg (T.e q).iF) := by
              have hz := fm_cpy (by decide) (iv6 106) ((T.e q).iF - (T.e q).bg) (T.e q).bg iv6 _ hq6
              rw [show sl (iv6 106) ((T.e q).iF - (T.e q).bg) (T.e q).bg = txL a (T.e q).bg (T.e q).iF from sl_cg _ _ (fun k k1 k2 => (hq6.2.2 106 k (by decide) (Or.inl (by decide))).trans (hA.2.2.1 k (by omega)))] at hz
              exact ⟨_, e7, hz⟩
            refine ex_iload_n (pc := 130) (i := 2) d_RF_makeForm_130 rfl rfl ?_
            refine ex_istore_n (pc := 131) (i := 1) d_RF_makeForm_131 rfl (by decide) ?_
            refine ex_iinc (pc := 132) (v := (nI (q + 1))) d_RF_makeForm_132 rfl (nI_1 q) (by decide) ?_
            refine ex_goto (pc := 135) (tgt := 59) d_RF_makeForm_135 rfl ?_
            exact ih (q + 1) q iv7 _ hq1 hqc (by omega) (by omega) hq7 (by simp only [List.length_append, txL_len, lnL, List.length_cons, List.length_replicate]; omega) (by rw [← hv]; simp only [List.append_assoc])
      · refine ex_goto (pc := 75) (tgt := 132) d_RF_makeForm_75 rfl ?_
        refine ex_iinc (pc := 132) (v := (nI (q + 1))) d_RF_makeForm_132 rfl (nI_1 q) (by decide) ?_
        refine ex_goto (pc := 135) (tgt := 59) d_RF_makeForm_135 rfl ?_
        rw [if_neg (by rw [b2i_0 c72]; decide)] at hlen hv
        exact ih (q + 1) l9 iv1 s9 hl0 hlc (by omega) (by omega) hq hlen hv

set_option maxRecDepth 100000 in
set_option maxHeartbeats 4000000 in
theorem lq_RF_makeForm {p : Program} {e : Env} {s : State} {m : MethodId} {args : Array Value} {below : List Frame} {meth : Method} {c : Code} (l : Launch) (G : ex_G) (iv : Nat → Nat → Int32) (mp : Nat → Nat) (sp mo : Nat) (Bf : List Nat) (hFa : FaR iv Bf) (hBl : Bf.length ≤ 300) (v : Bool) (PP : Option Value → ex_H → Prop) (u2 : Option Value) (hPP : v = true → PP (some (.int (-1))) (HP iv mp sp mo)) (hK : v = false → ∀ u1 : Option Value, EXM M_RF_makeForm l G 4 PP p e s m args below meth c 28 [some (.ref 92), u1, u2] [] (HP iv mp sp mo)) : ∀ (k i : Nat), i + k = Bf.length → pvK (srt Bf) k i = v → EXM M_RF_makeForm l G 4 (fun r h' => PP r h') p e s m args below meth c 2 [some (.ref 92), some (.int (nI i)), u2] [] (HP iv mp sp mo) := by
  intro k
  induction k with
  | zero =>
    intro i hik hv
    rw [pvK] at hv
    refine ex_iload_n (pc := 2) (i := 1) d_RF_makeForm_2 rfl rfl ?_
    refine ex_aload_n (pc := 3) (i := 0) d_RF_makeForm_3 rfl rfl ?_
    refine ex_getx (pc := 4) 12 29 (nI Bf.length) d_RF_makeForm_4 FL_RF_182 (Nat.le_of_ble_eq_true rfl) rfl hFa.1 ?_
    refine ex_icmp_ge (pc := 7) (tgt := 28) d_RF_makeForm_7 rfl (fun c7 => ?_) (fun c7 => ?_)
    · exact hK hv.symm _
    · exact absurd ((n_ge (by omega) (by omega)).mpr (by omega)) c7
  | succ k ih =>
    intro i hik hv
    rw [pvK] at hv
    have h119 := (hFa.2.1 i (by omega)).1
    refine ex_iload_n (pc := 2) (i := 1) d_RF_makeForm_2 rfl rfl ?_
    refine ex_aload_n (pc := 3) (i := 0) d_RF_makeForm_3 rfl rfl ?_
    refine ex_getx (pc := 4) 12 29 (nI Bf.length) d_RF_makeForm_4 FL_RF_182 (Nat.le_of_ble_eq_true rfl) rfl hFa.1 ?_
    refine ex_icmp_ge (pc := 7) (tgt := 28) d_RF_makeForm_7 rfl (fun c7 => ?_) (fun c7 => ?_)
    · exact absurd ((n_ge (by omega) (by omega)).mp c7) (by omega)
    · refine ex_aload_n (pc := 10) (i := 0) d_RF_makeForm_10 rfl rfl ?_
      refine ex_getr (pc := 11) 12 30 d_RF_makeForm_11 FL_RF_89 (Nat.le_of_ble_eq_true rfl) rfl rfl ?_
      refine ex_iload_n (pc := 14) (i := 1) d_RF_makeForm_14 rfl rfl ?_
      refine ex_ialdx (pc := 15) i (nI ((srt Bf).getD i 0 % 8)) d_RF_makeForm_15 (Nat.le_of_ble_eq_true rfl) rfl rfl rfl (nI_t (by omega)) (show i < 400 by omega) h119 ?_
      refine ex_iconst (pc := 16) (v := (nI 5)) d_RF_makeForm_16 (by decide) ?_
      refine ex_icmp_ge (pc := 17) (tgt := 22) d_RF_makeForm_17 rfl (fun c17 => ?_) (fun c17 => ?_)
      · refine ex_iinc (pc := 22) (v := (nI (i + 1))) d_RF_makeForm_22 rfl (nI_1 i) (by decide) ?_
        refine ex_goto (pc := 25) (tgt := 2) d_RF_makeForm_25 rfl ?_
        exact ih (i + 1) (by omega) (by rw [if_neg (by have := (n_ge (by omega) (by omega)).mp c17; omega)] at hv; exact hv)
      · refine ex_iconst (pc := 20) (v := (-1)) d_RF_makeForm_20 (by decide) ?_
        refine ex_iret (ty := .int) d_RF_makeForm_21 rfl rfl rfl (Nat.le_refl _) ?_
        rw [if_pos (Classical.byContradiction (fun z => c17 ((n_ge (by omega) (by omega)).mpr (by omega))))] at hv
        exact hPP hv.symm

set_option maxRecDepth 100000 in
set_option maxHeartbeats 4000000 in
theorem ct_RF_makeForm (l : Launch) (G : ex_G) (iv : Nat → Nat → Int32) (mp : Nat → Nat) (sp mo : Nat) (mn : Nat → Nat) (a : Nat → Int32) (n : Nat) (hA : TxR iv a n) (T : TS) (hT : RefT iv mn n T) (hX : tX a T n) (hs : T.stk = []) (Bf : List Nat) (hFa : FaR iv Bf) (hBl : Bf.length ≤ 300) (hpv : pvK (srt Bf) Bf.length 0 = false → ∀ i, 0 < i → i ≤ T.cn → ¬ (T.e i).ck = 0) : CT l G 4 M_RF_makeForm [.ref 92] (HP iv mp sp mo) 0 0 (fun r h' => (pvK (srt Bf) Bf.length 0 = true → r = some (.int (-1)) ∧ h' = HP iv mp sp mo) ∧ (pvK (srt Bf) Bf.length 0 = false → ∃ iv2, h' = HP iv2 mp sp mo ∧ r = some (.int (nI (fmL a n T (looR iv T)).length)) ∧ FmQ 92 42 128 iv iv2 (fmL a n T (looR iv T)))) := by
  refine ex_enter (by decide) (Nat.le_of_ble_eq_true rfl) (fun v hv => by simp at hv; rcases hv with rfl <;> rfl) (fun p e s m args below meth c => ?_)
  have hn := hA.1
  have hcn : T.cn ≤ 33 := by have := hX.1.1; omega
  have hO := fOk_x hX
  have hns : ∀ i, i ∉ T.stk := fun i => by rw [hs]; exact List.not_mem_nil
  have hs1 : ex_u2 iv 92 42 (nI 0) 92 14 = nI n := (u2n (Or.inr (by decide))).trans hA.2.1
  have h16 : ex_u2 iv 92 42 (nI 0) 92 16 = nI (T.cn + 1) := (u2n (Or.inr (by decide))).trans hT.1
  have ha1 : sl (ex_u2 iv 92 42 (nI 0) 106) (n - 0) 0 = txL a 0 n := sl_cg _ _ (fun k k1 k2 => (u2n (Or.inl (by decide))).trans (hA.2.2.1 k (by omega)))
  refine ex_iconst (pc := 0) (v := (nI 0)) d_RF_makeForm_0 (by decide) ?_
  refine ex_istore_n (pc := 1) (i := 1) d_RF_makeForm_1 rfl (by decide) ?_
  refine lq_RF_makeForm l G iv mp sp mo Bf hFa hBl (pvK (srt Bf) Bf.length 0) _ _ (fun hz => ⟨fun _ => ⟨rfl, rfl⟩, fun z => (by rw [hz] at z; cases z)⟩) (fun hpf u1 => ?_) Bf.length 0 (by omega) rfl
  refine ex_aload_n (pc := 28) (i := 0) d_RF_makeForm_28 rfl rfl ?_
  refine ex_iconst (pc := 29) (v := (nI 0)) d_RF_makeForm_29 (by decide) ?_
  refine ex_puti (pc := 30) 12 42 .int d_RF_makeForm_30 (PF_RF_234 _) (Nat.le_of_ble_eq_true rfl) rfl rfl rfl ?_
  have hck := hpv hpf
  have hq : FmQ 92 42 128 iv (ex_u2 iv 92 42 (nI 0)) [] := ⟨u2s, fun i hi => absurd hi (Nat.not_lt_zero _), fun q j _ h2 => u2n h2⟩
  refine ex_aload_n (pc := 33) (i := 0) d_RF_makeForm_33 rfl rfl ?_
  refine ex_iconst (pc := 34) (v := (nI 0)) d_RF_makeForm_34 (by decide) ?_
  refine ex_callV (pc := 35) (M' := M_RF_loose) (as := [.int (nI 0)]) (st := []) d_RF_makeForm_35 MW_RF_loose MI_RF_loose LK_RF_240 (Nat.le_of_ble_eq_true rfl) rfl rfl rfl (ct_RF_loose l G iv mp sp mo mn a n hA T hT hX hs (ex_u2 iv 92 42 (nI 0)) [] hq 0 (Nat.zero_le _)) (ex_lt_rm (by decide)) ⟨Nat.le_refl _, Nat.le_refl _⟩ rfl rfl (Nat.le_of_ble_eq_true rfl) ?_
  rintro _ _ ⟨rfl, rfl⟩
  refine ex_if_ne (pc := 38) (tgt := 55) d_RF_makeForm_38 rfl (fun c38 => ?_) (fun c38 => ?_)
  · have hl0 : looR iv T 0 = true := b2i_1 c38
    have hch : 0 < chC T.e T.cn 0 := looR_c 0 (Nat.zero_le _) hl0
    have h1 : 1 ≤ T.cn := by
      obtain ⟨k, k1, k2, _⟩ := chC_pos T.cn hch
      omega
    have hfl := form_len (g := a) hO (fLk_x hX hs hck (looR_c (iv := iv))) h1 hn
    have hfe := form_eq (lo := looR iv T) (tx := txL a) hO h1 hl0
    rw [← hfe] at hfl
    have hlen : (opL T.e (looR iv T) (txL a) 1 ++ rLf T.e T.cn (looR iv T) (txL a) (T.cn - 1) 2 1).length ≤ 400 := hfl
    have hv : opL T.e (looR iv T) (txL a) 1 ++ rLf T.e T.cn (looR iv T) (txL a) (T.cn - 1) 2 1 = fmL a n T (looR iv T) := by
      unfold fmL
      rw [if_pos hl0]
      exact hfe
    have hqc : 1 ≤ T.cn := h1
    have hq1 : 0 < 1 := by decide
    obtain ⟨i1, i2, i3, i4, i5⟩ := hX.1.2.2.2.2.2.1 1 hq1 hqc (hns 1)
    have i6 := hX.1.2.2.2.1 1 hq1 hqc
    have hp0 : (T.e 1).pr = 0 := by have := (hO.2.2.1 1 (by omega) h1).1; omega
    have hlad : lad T.e (looR iv T) 1 = true := by
      refine (lad_iff hO (by decide) h1).mpr (fun x hx hne => ?_)
      have := anc_le' hO h1 hx
      rw [show x = 0 by omega]
      exact hl0
    refine ex_iconst (pc := 55) (v := (nI 0)) d_RF_makeForm_55 (by decide) ?_
    refine ex_istore_n (pc := 56) (i := 1) d_RF_makeForm_56 rfl (by decide) ?_
    refine ex_iconst (pc := 57) (v := (nI 1)) d_RF_makeForm_57 (by decide) ?_
    refine ex_istore_n (pc := 58) (i := 2) d_RF_makeForm_58 rfl (by decide) ?_
    refine ex_iload_n (pc := 59) (i := 2) d_RF_makeForm_59 rfl rfl ?_
    refine ex_aload_n (pc := 60) (i := 0) d_RF_makeForm_60 rfl rfl ?_
    refine ex_getx (pc := 61) 12 16 (nI (T.cn + 1)) d_RF_makeForm_61 FL_RF_185 (Nat.le_of_ble_eq_true rfl) rfl h16 ?_
    refine ex_icmp_ge (pc := 64) (tgt := 138) d_RF_makeForm_64 rfl (fun c64 => ?_) (fun c64 => ?_)
    · exact absurd ((n_ge (by omega) (by omega)).mp c64) (by omega)
    · refine ex_aload_n (pc := 67) (i := 0) d_RF_makeForm_67 rfl rfl ?_
      refine ex_iload_n (pc := 68) (i := 2) d_RF_makeForm_68 rfl rfl ?_
      refine ex_callV (pc := 69) (M' := M_RF_laid) (as := [.int (nI 1)]) (st := []) d_RF_makeForm_69 MW_RF_laid MI_RF_laid LK_RF_255 (Nat.le_of_ble_eq_true rfl) rfl rfl rfl (ct_RF_laid l G iv mp sp mo mn a n hA T hT hX hs (ex_u2 iv 92 42 (nI 0)) [] hq 1 (by omega) h1) (ex_lt_rm (by decide)) ⟨Nat.le_refl _, Nat.le_refl _⟩ rfl rfl (Nat.le_of_ble_eq_true rfl) ?_
      rintro _ _ ⟨rfl, rfl⟩
      refine ex_if_ne (pc := 72) (tgt := 78) d_RF_makeForm_72 rfl (fun c72 => ?_) (fun c72 => ?_)
      · refine ex_aload_n (pc := 78) (i := 0) d_RF_makeForm_78 rfl rfl ?_
        refine ex_iload_n (pc := 79) (i := 1) d_RF_makeForm_79 rfl rfl ?_
        refine ex_iload_n (pc := 80) (i := 2) d_RF_makeForm_80 rfl rfl ?_
        refine ex_callV (pc := 81) (M' := M_RF_endLines) (as := [.int (nI 0), .int (nI 1)]) (st := []) d_RF_makeForm_81 MW_RF_endLines MI_RF_endLines LK_RF_258 (Nat.le_of_ble_eq_true rfl) rfl rfl rfl (ct_RF_endLines l G iv mp sp mo mn a n hA T hT hX hs hck 0 1 (by omega) (Nat.zero_le _) (ex_u2 iv 92 42 (nI 0)) [] hq (show ([] : List Int32).length + ([] : List Int32).length ≤ 900 from (by decide))) (ex_lt_rm (by decide)) ⟨Nat.le_refl _, Nat.le_refl _⟩ rfl rfl (Nat.le_of_ble_eq_true rfl) ?_
        rintro _ _ ⟨iv6, rfl, rfl, hq6⟩
        have hq6 : FmQ 92 42 128 iv iv6 [] := hq6
        refine ex_iload_n (pc := 84) (i := 1) d_RF_makeForm_84 rfl rfl ?_
        refine ex_if_le (pc := 85) (tgt := 97) d_RF_makeForm_85 rfl (fun c85 => ?_) (fun c85 => ?_)
        · refine ex_aload_n (pc := 97) (i := 0) d_RF_makeForm_97 rfl rfl ?_
          refine ex_aload_n (pc := 98) (i := 0) d_RF_makeForm_98 rfl rfl ?_
          refine ex_getr (pc := 99) 12 19 d_RF_makeForm_99 FL_RF_59 (Nat.le_of_ble_eq_true rfl) rfl rfl ?_
          refine ex_iload_n (pc := 102) (i := 2) d_RF_makeForm_102 rfl rfl ?_
          refine ex_ialdx (pc := 103) 1 (nI (T.e 1).bg) d_RF_makeForm_103 (Nat.le_of_ble_eq_true rfl) rfl rfl rfl (nI_t (by omega)) (show 1 < 40 by omega) ((hq6.2.2 _ _ (by decide) (Or.inl (by decide))).trans (hT.2.1 1 hqc).2.2.1) ?_
          refine ex_aload_n (pc := 104) (i := 0) d_RF_makeForm_104 rfl rfl ?_
          refine ex_iload_n (pc := 105) (i := 2) d_RF_makeForm_105 rfl rfl ?_
          refine ex_callV (pc := 106) (M' := M_RF_loose) (as := [.int (nI 1)]) (st := [.int (nI (T.e 1).bg), .ref 92]) d_RF_makeForm_106 MW_RF_loose MI_RF_loose LK_RF_240 (Nat.le_of_ble_eq_true rfl) rfl rfl rfl (ct_RF_loose l G iv mp sp mo mn a n hA T hT hX hs iv6 _ hq6 1 hqc) (ex_lt_rm (by decide)) ⟨Nat.le_refl _, Nat.le_refl _⟩ rfl rfl (Nat.le_of_ble_eq_true rfl) ?_
          rintro _ _ ⟨rfl, rfl⟩
          refine ex_if_eq (pc := 109) (tgt := 121) d_RF_makeForm_109 rfl (fun c109 => ?_) (fun c109 => ?_)
          · have hop : opL T.e (looR iv T) (txL a) 1 = txL a (T.e 1).bg (T.e 1).bh := if_neg (by rw [b2i_0 c109]; decide)
            rw [hop] at hlen hv
            simp only [List.length_append, txL_len, lnL, List.length_cons, List.length_replicate] at hlen
            refine ex_aload_n (pc := 121) (i := 0) d_RF_makeForm_121 rfl rfl ?_
            refine ex_getr (pc := 122) 12 20 d_RF_makeForm_122 FL_RF_62 (Nat.le_of_ble_eq_true rfl) rfl rfl ?_
            refine ex_iload_n (pc := 125) (i := 2) d_RF_makeForm_125 rfl rfl ?_
            refine ex_ialdx (pc := 126) 1 (nI (T.e 1).bh) d_RF_makeForm_126 (Nat.le_of_ble_eq_true rfl) rfl rfl rfl (nI_t (by omega)) (show 1 < 40 by omega) ((hq6.2.2 _ _ (by decide) (Or.inl (by decide))).trans (hT.2.2.1 1 hq1 hqc).2.1) ?_
            refine ex_callV (pc := 127) (M' := M_RF_putText) (as := [.int (nI (T.e 1).bg), .int (nI (T.e 1).bh)]) (st := []) d_RF_makeForm_127 MW_RF_putText MI_RF_putText LK_RF_252 (Nat.le_of_ble_eq_true rfl) rfl rfl rfl (ct_RF_putText l G iv6 mp sp mo (T.e 1).bg (T.e 1).bh _ (by omega) (by omega) hq6.1 (by rw [List.length_nil]; omega)) (ex_lt_rm (by decide)) ⟨Nat.le_refl _, Nat.le_refl _⟩ rfl rfl (Nat.le_of_ble_eq_true rfl) ?_
            rintro _ h7 ⟨e7, rfl⟩
            obtain ⟨iv7, rfl, hq7⟩ : ∃ iv7, h7 = HP iv7 mp sp mo ∧ FmQ 92 42 128 iv iv7 ([] ++ txL a (T.e 1).bg (T.e 1).bh) := by
              have hz := fm_cpy (by decide) (iv6 106) ((T.e 1).bh - (T.e 1).bg) (T.e 1).bg iv6 _ hq6
              rw [show sl (iv6 106) ((T.e 1).bh - (T.e 1).bg) (T.e 1).bg = txL a (T.e 1).bg (T.e 1).bh from sl_cg _ _ (fun k k1 k2 => (hq6.2.2 106 k (by decide) (Or.inl (by decide))).trans (hA.2.2.1 k (by omega)))] at hz
              exact ⟨_, e7, hz⟩
            refine ex_iload_n (pc := 130) (i := 2) d_RF_makeForm_130 rfl rfl ?_
            refine ex_istore_n (pc := 131) (i := 1) d_RF_makeForm_131 rfl (by decide) ?_
            refine ex_iinc (pc := 132) (v := (nI 2)) d_RF_makeForm_132 rfl (nI_1 1) (by decide) ?_
            refine ex_goto (pc := 135) (tgt := 59) d_RF_makeForm_135 rfl ?_
            exact lp_RF_makeForm l G iv mp sp mo mn a n hA T hT hX hs hck (fmL a n T (looR iv T)) _ (fun iv9 hz => ⟨fun z => (by rw [hpf] at z; cases z), fun _ => ⟨iv9, rfl, rfl, hz⟩⟩) (T.cn - 1) 2 1 iv7 _ (by decide) h1 (by decide) (by omega) hq7 (by rw [List.nil_append]; simp only [List.length_append, txL_len, lnL, List.length_cons, List.length_replicate]; omega) (by rw [List.nil_append]; exact hv)
          · have hop : opL T.e (looR iv T) (txL a) 1 = txL a (T.e 1).bg (T.e 1).iF := if_pos (b2i_1 c109)
            rw [hop] at hlen hv
            simp only [List.length_append, txL_len, lnL, List.length_cons, List.length_replicate] at hlen
            refine ex_aload_n (pc := 112) (i := 0) d_RF_makeForm_112 rfl rfl ?_
            refine ex_getr (pc := 113) 12 21 d_RF_makeForm_113 FL_RF_65 (Nat.le_of_ble_eq_true rfl) rfl rfl ?_
            refine ex_iload_n (pc := 116) (i := 2) d_RF_makeForm_116 rfl rfl ?_
            refine ex_ialdx (pc := 117) 1 (nI (T.e 1).iF) d_RF_makeForm_117 (Nat.le_of_ble_eq_true rfl) rfl rfl rfl (nI_t (by omega)) (show 1 < 40 by omega) ((hq6.2.2 _ _ (by decide) (Or.inl (by decide))).trans ((hT.2.2.1 1 hq1 hqc).2.2.1.trans (if_neg (by rw [loo3 hX hs hck hq1 hqc (b2i_1 c109)]; decide)))) ?_
            refine ex_goto (pc := 118) (tgt := 127) d_RF_makeForm_118 rfl ?_
            refine ex_callV (pc := 127) (M' := M_RF_putText) (as := [.int (nI (T.e 1).bg), .int (nI (T.e 1).iF)]) (st := []) d_RF_makeForm_127 MW_RF_putText MI_RF_putText LK_RF_252 (Nat.le_of_ble_eq_true rfl) rfl rfl rfl (ct_RF_putText l G iv6 mp sp mo (T.e 1).bg (T.e 1).iF _ (by omega) (by omega) hq6.1 (by rw [List.length_nil]; omega)) (ex_lt_rm (by decide)) ⟨Nat.le_refl _, Nat.le_refl _⟩ rfl rfl (Nat.le_of_ble_eq_true rfl) ?_
            rintro _ h7 ⟨e7, rfl⟩
            obtain ⟨iv7, rfl, hq7⟩ : ∃ iv7, h7 = HP iv7 mp sp mo ∧ FmQ 92 42 128 iv iv7 ([] ++ txL a (T.e 1).bg (T.e 1).iF) := by
              have hz := fm_cpy (by decide) (iv6 106) ((T.e 1).iF - (T.e 1).bg) (T.e 1).bg iv6 _ hq6
              rw [show sl (iv6 106) ((T.e 1).iF - (T.e 1).bg) (T.e 1).bg = txL a (T.e 1).bg (T.e 1).iF from sl_cg _ _ (fun k k1 k2 => (hq6.2.2 106 k (by decide) (Or.inl (by decide))).trans (hA.2.2.1 k (by omega)))] at hz
              exact ⟨_, e7, hz⟩
            refine ex_iload_n (pc := 130) (i := 2) d_RF_makeForm_130 rfl rfl ?_
            refine ex_istore_n (pc := 131) (i := 1) d_RF_makeForm_131 rfl (by decide) ?_
            refine ex_iinc (pc := 132) (v := (nI 2)) d_RF_makeForm_132 rfl (nI_1 1) (by decide) ?_
            refine ex_goto (pc := 135) (tgt := 59) d_RF_makeForm_135 rfl ?_
            exact lp_RF_makeForm l G iv mp sp mo mn a n hA T hT hX hs hck (fmL a n T (looR iv T)) _ (fun iv9 hz => ⟨fun z => (by rw [hpf] at z; cases z), fun _ => ⟨iv9, rfl, rfl, hz⟩⟩) (T.cn - 1) 2 1 iv7 _ (by decide) h1 (by decide) (by omega) hq7 (by rw [List.nil_append]; simp only [List.length_append, txL_len, lnL, List.length_cons, List.length_replicate]; omega) (by rw [List.nil_append]; exact hv)
        · exact absurd (by decide) c85
      · exact absurd (b2i_0 c72) (by rw [hlad]; decide)
  · refine ex_aload_n (pc := 41) (i := 0) d_RF_makeForm_41 rfl rfl ?_
    refine ex_iconst (pc := 42) (v := (nI 0)) d_RF_makeForm_42 (by decide) ?_
    refine ex_aload_n (pc := 43) (i := 0) d_RF_makeForm_43 rfl rfl ?_
    refine ex_getx (pc := 44) 12 14 (nI n) d_RF_makeForm_44 FL_RF_179 (Nat.le_of_ble_eq_true rfl) rfl hs1 ?_
    refine ex_callV (pc := 47) (M' := M_RF_putText) (as := [.int (nI 0), .int (nI n)]) (st := []) d_RF_makeForm_47 MW_RF_putText MI_RF_putText LK_RF_252 (Nat.le_of_ble_eq_true rfl) rfl rfl rfl (ct_RF_putText l G (ex_u2 iv 92 42 (nI 0)) mp sp mo 0 n 0 (Nat.zero_le _) hn u2s (by omega)) (ex_lt_rm (by decide)) ⟨Nat.le_refl _, Nat.le_refl _⟩ rfl rfl (Nat.le_of_ble_eq_true rfl) ?_
    rintro _ _ ⟨rfl, rfl⟩
    have hq2 := fm_cpy (by decide) ((ex_u2 iv 92 42 (nI 0)) 106) (n - 0) 0 _ [] hq
    rw [ha1, List.nil_append] at hq2
    refine ex_aload_n (pc := 50) (i := 0) d_RF_makeForm_50 rfl rfl ?_
    refine ex_getx (pc := 51) 12 42 (nI (txL a 0 n).length) d_RF_makeForm_51 FL_RF_234 (Nat.le_of_ble_eq_true rfl) rfl hq2.1 ?_
    refine ex_iret (ty := .int) d_RF_makeForm_54 rfl rfl rfl (Nat.le_refl _) ?_
    have hz : fmL a n T (looR iv T) = txL a 0 n := by unfold fmL; rw [if_neg (by rw [b2i_0 c38]; decide)]
    rw [hz]
    exact ⟨fun z => (by rw [hpf] at z; cases z), fun _ => ⟨_, rfl, rfl, hq2⟩⟩

