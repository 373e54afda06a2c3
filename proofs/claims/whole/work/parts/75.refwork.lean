/-! respond and work (reference) -/
/-- whose tag stands at a place -/
def owF (T : TS) (x : Int32) : Int32 := fndV (fun t => decide (¬ x < nI (T.tg t).1) && decide (¬ nI (T.tg t).2.1 ≤ x)) (fun t => (T.tg t).2.2) T.tn 0
theorem fnd_cg {P Q : Nat → Bool} {f g : Nat → Int32} : ∀ k i, (∀ j, i ≤ j → j < i + k → P j = Q j ∧ f j = g j) → fndV P f k i = fndV Q g k i := by
  intro k
  induction k with
  | zero => intros; rfl
  | succ k ih =>
    intro i h
    rw [fndV, fndV, (h i (Nat.le_refl _) (by omega)).1, (h i (Nat.le_refl _) (by omega)).2, ih (i + 1) (fun j h1 h2 => h j (by omega) (by omega))]
theorem ow_C {iv : Nat → Nat → Int32} {T : TS} (hTg : ∀ t, t < T.tn → tgR iv (T.tg t) t) (x : Int32) : fndV (ownP iv x) (iv 45) T.tn 0 = owF T x := by
  unfold owF
  refine fnd_cg _ _ (fun j _ hj => ?_)
  obtain ⟨h1, h2, h3⟩ := hTg j (by omega)
  exact ⟨by unfold ownP; rw [h1, h2], h3⟩
theorem ow_v {a : Nat → Int32} {T : TS} (hO : tO a T) (x : Int32) : owF T x = -1 ∨ ∃ i, 0 < i ∧ i ≤ T.cn ∧ owF T x = nI i := by
  rcases fnd_v (P := fun t => decide (¬ x < nI (T.tg t).1) && decide (¬ nI (T.tg t).2.1 ≤ x)) (f := fun t => (T.tg t).2.2) T.tn 0 with z | ⟨t, t1, t2, t3, t4⟩
  · exact Or.inl z.1
  · unfold owF
    rw [t4]
    exact hO.1 t (by omega)
theorem ow_R {iv : Nat → Nat → Int32} {T : TS} {n : Nat} (hE : erT iv T.tn T.tg) (hJ : tJ T n) (hn : n ≤ 100) {x : Int32} :
    (owF T x = -1 → x < 0 ∨ nI n ≤ x ∨ ∃ q9, q9 < n ∧ x = nI q9 ∧ (iv 116 q9 < 0 ∨ iv 118 q9 < 0)) ∧ (∀ i, i ≤ 100 → owF T x = nI i → ∃ q9, q9 < n ∧ x = nI q9 ∧ ¬ iv 116 q9 < 0 ∧ iv 118 q9 = nI i) := by
  have z1 : (-1 : Int32) < 0 := by decide
  have cov : ∀ t, t < T.tn → (decide (¬ x < nI (T.tg t).1) && decide (¬ nI (T.tg t).2.1 ≤ x)) = true → ∃ q9, q9 < n ∧ x = nI q9 ∧ (T.tg t).1 ≤ q9 ∧ q9 < (T.tg t).2.1 := by
    intro t ht hc
    rw [Bool.and_eq_true, decide_eq_true_eq, decide_eq_true_eq] at hc
    obtain ⟨j1, j2, _⟩ := hJ t ht
    have h1 := i_nlt hc.1
    have h2 : ¬ (nI (T.tg t).2.1).toInt ≤ x.toInt := fun q => hc.2 (i_le.mpr q)
    rw [nI_t (by omega)] at h1 h2
    exact ⟨x.toInt.toNat, by omega, Int32.toInt_inj.mp (by rw [nI_t (by omega)]; omega), by omega, by omega⟩
  rcases fnd_v (P := fun t => decide (¬ x < nI (T.tg t).1) && decide (¬ nI (T.tg t).2.1 ≤ x)) (f := fun t => (T.tg t).2.2) T.tn 0 with ⟨e1, e2⟩ | ⟨t, t1, t2, t3, t4⟩
  · have e0 : owF T x = -1 := e1
    refine ⟨fun _ => ?_, fun i hi z => absurd (e0.symm.trans z) (nI_ne1 (by omega))⟩
    by_cases hx0 : x < 0
    · exact Or.inl hx0
    by_cases hxn : nI n ≤ x
    · exact Or.inr (Or.inl hxn)
    have h1 := i_nlt hx0
    have h2 : ¬ (nI n).toInt ≤ x.toInt := fun q => hxn (i_le.mpr q)
    rw [nI_t (by omega)] at h2
    have z0 : (0 : Int32).toInt = 0 := by decide
    have hx : x = nI x.toInt.toNat := Int32.toInt_inj.mp (by rw [nI_t (by omega)]; omega)
    refine Or.inr (Or.inr ⟨x.toInt.toNat, by omega, hx, Or.inl ?_⟩)
    rw [hE.1 _ (by omega) (fun t ht hc => ?_)]
    · exact z1
    · have := e2 t (Nat.zero_le _) (by omega)
      obtain ⟨j1, j2, _⟩ := hJ t ht
      rw [Bool.and_eq_false_iff, decide_eq_false_iff_not, decide_eq_false_iff_not, Classical.not_not, Classical.not_not] at this
      rcases this with q | q
      · have := i_lt.mp q; rw [nI_t (by omega)] at this; omega
      · have := i_le.mp q; rw [nI_t (by omega)] at this; omega
  · obtain ⟨q9, q1, q2, q3, q4⟩ := cov t (by omega) t3
    obtain ⟨v1, v2⟩ := hE.2 t (by omega) q9 q3 q4
    have e0 : owF T x = (T.tg t).2.2 := t4
    obtain ⟨j1, j2, _⟩ := hJ t (by omega)
    refine ⟨fun z => Or.inr (Or.inr ⟨q9, q1, q2, Or.inr ?_⟩), fun i hi z => ⟨q9, q1, q2, ?_, v2.trans (e0.symm.trans z)⟩⟩
    · rw [v2, ← e0, z]; exact z1
    · rw [v1]
      intro z
      have := i_lt.mp z
      rw [nI_t (by omega)] at this
      have z0 : (0 : Int32).toInt = 0 := by decide
      omega
def RpR (iv2 : Nat → Nat → Int32) (mn : Nat → Nat) (a : Nat → Int32) (n : Nat) (T : TS) (Bl : List Nat) (kd x y v : Int32) (iv3 : Nat → Nat → Int32) : Prop :=
  (kd = nI 0 → ((x < 0 ∨ nI n < x → v = -1) ∧ ∀ q9, q9 ≤ n → x = nI q9 → v = ofrR iv2 mn T n q9) ∧ iv3 = iv2) ∧ (kd = nI 1 → v = nI (RfF iv2 mn T Bl).length ∧ iv3 = iv2) ∧
  (kd = nI 2 → (owF T x = -1 ∨ nmB y = false → v = -1 ∧ iv3 = iv2) ∧ (∀ i, 0 < i → i ≤ T.cn → owF T x = nI i → nmB y = true → iv3 = r2 iv2 (T.e i) y ∧ v = nI (if (T.e i).ck = 3 then 2 else 1))) ∧
  (kd = nI 3 → (pvK (srt (RfF iv2 mn T Bl)) (RfF iv2 mn T Bl).length 0 = true → v = -1 ∧ iv3 = iv2) ∧ (pvK (srt (RfF iv2 mn T Bl)) (RfF iv2 mn T Bl).length 0 = false → v = nI (fmL a n T (looR iv2 T)).length ∧ FmQ 92 42 128 iv2 iv3 (fmL a n T (looR iv2 T))))
theorem ct_RF_offerX (l : Launch) (G : ex_G) (iv : Nat → Nat → Int32) (mp : Nat → Nat) (sp mo : Nat) (mn : Nat → Nat) (hmn : ∀ k, k < 9 → iv 99 k = nI (mn k) ∧ mn k ≤ 10) (T : TS) (n : Nat) (hn : n ≤ 100) (h14 : iv 92 14 = nI n) (h16 : iv 92 16 = nI (T.cn + 1)) (hR : RR3 iv T) (hI : tI T n) (x : Int32) : CT l G 4 M_RF_offer [.ref 92, .int x] (HP iv mp sp mo) 0 0 (fun r h' => ∃ v, h' = HP iv mp sp mo ∧ r = some (.int v) ∧ (x < 0 ∨ nI n < x → v = -1) ∧ ∀ q9, q9 ≤ n → x = nI q9 → v = ofrR iv mn T n q9) := by
  have z0 : (0 : Int32).toInt = 0 := by decide
  by_cases hx : x < 0 ∨ nI n < x
  · refine ct_post (ct_RF_offerBad l G iv mp sp mo n hn h14 x hx) (fun r h' hp => ⟨-1, hp.1, hp.2, fun _ => rfl, fun q9 h1 h2 => ?_⟩)
    rcases hx with q | q
    · have := i_lt.mp q; rw [h2, nI_t (by omega)] at this; omega
    · have := i_lt.mp q; rw [h2, nI_t (by omega), nI_t (by omega)] at this; omega
  · have h1 := i_nlt (fun q => hx (Or.inl q))
    have h2 := i_nlt (fun q => hx (Or.inr q))
    rw [nI_t (by omega)] at h2
    have he : x = nI x.toInt.toNat := Int32.toInt_inj.mp (by rw [nI_t (by omega)]; omega)
    rw [he]
    refine ct_post (ct_RF_offer l G iv mp sp mo mn hmn T n hn h14 h16 hR hI x.toInt.toNat (by omega)) (fun r h' hp => ⟨_, hp.1, hp.2, fun z => absurd z (by rw [← he]; exact hx), fun q9 j1 j2 => ?_⟩)
    rw [(n_eq (by omega) (by omega)).mp j2]
theorem ct_RF_renameX (l : Launch) (G : ex_G) (iv : Nat → Nat → Int32) (mp : Nat → Nat) (sp mo : Nat) (a : Nat → Int32) (n : Nat) (hn : n ≤ 100) (h14 : iv 92 14 = nI n) (T : TS) (hX : tX a T n) (hs : T.stk = []) (hR : RR3 iv T) (x y : Int32) : CT l G 1 M_RF_rename [.ref 92, .int x, .int y] (HP iv mp sp mo) 0 0 (fun r h' => ∃ iv3 v, h' = HP iv3 mp sp mo ∧ r = some (.int v) ∧ (owF T x = -1 ∨ nmB y = false → v = -1 ∧ iv3 = iv) ∧ (∀ i, 0 < i → i ≤ T.cn → owF T x = nI i → nmB y = true → iv3 = r2 iv (T.e i) y ∧ v = nI (if (T.e i).ck = 3 then 2 else 1))) := by
  have hcn : T.cn ≤ 33 := by have := hX.1.1; omega
  obtain ⟨o1, o2⟩ := ow_R (x := x) hR.2.2 hX.2.1 hn
  by_cases hb : owF T x = -1 ∨ nmB y = false
  · refine ct_post (ct_RF_renameNo l G iv mp sp mo n hn h14 x y ?_) (fun r h' hp => ⟨iv, -1, hp.1, hp.2, fun _ => ⟨rfl, rfl⟩, fun i i1 i2 i3 i4 => ?_⟩)
    · rcases hb with q | q
      · rcases o1 q with z | z | z
        · exact Or.inl z
        · exact Or.inr (Or.inl z)
        · exact Or.inr (Or.inr (Or.inr z))
      · exact Or.inr (Or.inr (Or.inl q))
    · rcases hb with q | q
      · exact absurd (q.symm.trans i3) (nI_ne1 (by omega))
      · rw [i4] at q; cases q
  · have hy : nmB y = true := Classical.byContradiction (fun q => hb (Or.inr (Bool.eq_false_iff.mpr q)))
    obtain ⟨i, i1, i2, i3⟩ := (ow_v hX.2.2.2.1 x).resolve_left (fun q => hb (Or.inl q))
    obtain ⟨q9, q1, q2, q3, q4⟩ := o2 i (by omega) i3
    subst q2
    refine ct_post (ct_RF_rename l G iv mp sp mo a n hn h14 T hX hs hR q9 q1 y i i1 i2 q3 q4 hy) (fun r h' hp => ⟨_, _, hp.1, hp.2, fun z => absurd z hb, fun j j1 j2 j3 j4 => ?_⟩)
    have : i = j := (n_eq (by omega) (by omega)).mp (i3.symm.trans j3)
    subst this
    exact ⟨rfl, rfl⟩
theorem ct_RF_makeFormX (l : Launch) (G : ex_G) (iv : Nat → Nat → Int32) (mp : Nat → Nat) (sp mo : Nat) (mn : Nat → Nat) (a : Nat → Int32) (n : Nat) (hA : TxR iv a n) (T : TS) (hT : RefT iv mn n T) (hX : tX a T n) (hs : T.stk = []) (Bl : List Nat) (hB : Bl.Perm (T.fl ++ T.br.map (k4 T.e))) (hFa : FaR iv (RfF iv mn T Bl)) : CT l G 4 M_RF_makeForm [.ref 92] (HP iv mp sp mo) 0 0 (fun r h' => ∃ iv3 v, h' = HP iv3 mp sp mo ∧ r = some (.int v) ∧ (pvK (srt (RfF iv mn T Bl)) (RfF iv mn T Bl).length 0 = true → v = -1 ∧ iv3 = iv) ∧ (pvK (srt (RfF iv mn T Bl)) (RfF iv mn T Bl).length 0 = false → v = nI (fmL a n T (looR iv T)).length ∧ FmQ 92 42 128 iv iv3 (fmL a n T (looR iv T)))) := by
  refine ct_post (ct_RF_makeForm l G iv mp sp mo mn a n hA T hT hX hs (RfF iv mn T Bl) hFa (rfF_len hX.1 hA.1 hB) (fun hv => pv_ck hX.1 hs hB hv)) (fun r h' hp => ?_)
  cases hv : pvK (srt (RfF iv mn T Bl)) (RfF iv mn T Bl).length 0 with
  | true =>
    obtain ⟨z1, z2⟩ := hp.1 hv
    exact ⟨iv, -1, z2, z1, fun _ => ⟨rfl, rfl⟩, fun z => (by cases z)⟩
  | false =>
    obtain ⟨iv2, z1, z2, z3⟩ := hp.2 hv
    exact ⟨iv2, _, z1, z2, fun z => (by cases z), fun _ => ⟨rfl, z3⟩⟩
set_option maxRecDepth 100000 in
set_option maxHeartbeats 4000000 in
theorem ct_RF_respond (l : Launch) (G : ex_G) (iv : Nat → Nat → Int32) (mp : Nat → Nat) (sp mo : Nat) (a : Nat → Int32) (n : Nat) (hA : TxR iv a n) (mn : Nat → Nat) (hmn : ∀ k, k < 9 → iv 99 k = nI (mn k) ∧ mn k ≤ 10) (w9 : Nat) (hw9 : w9 ≤ 3) (x y : Int32) : CT l G 5 M_RF_respond [.ref 92, .int (nI w9), .int x, .int y] (HP iv mp sp mo) 0 0 (fun r h' => ∃ iv2 iv3 Bl v, h' = HP iv3 mp sp mo ∧ r = some (.int v) ∧ RefT iv2 mn n (tAll a n) ∧ FrR iv iv2 ∧ Bl.Perm ((tAll a n).fl ++ (tAll a n).br.map (k4 (tAll a n).e)) ∧ FaR iv2 (RfF iv2 mn (tAll a n) Bl) ∧ RpR iv2 mn a n (tAll a n) Bl (nI w9) x y v iv3) := by
  refine ex_enter (by decide) (Nat.le_of_ble_eq_true rfl) (fun v hv => by simp at hv; rcases hv with rfl | rfl | rfl | rfl <;> rfl) (fun p e s m args below meth c => ?_)
  have hn := hA.1
  have hTX := tX_all hA.1 hA.2.2.2
  refine ex_aload_n (pc := 0) (i := 0) d_RF_respond_0 rfl rfl ?_
  refine ex_callV (pc := 1) (M' := M_RF_analyse) (as := []) (st := []) d_RF_respond_1 MW_RF_analyse MI_RF_analyse LK_RF_277 (Nat.le_of_ble_eq_true rfl) rfl rfl rfl (ct_RF_analyse l G iv mp sp mo a n hA mn hmn) (ex_lt_rm (by decide)) ⟨Nat.le_refl _, Nat.le_refl _⟩ rfl rfl (Nat.le_of_ble_eq_true rfl) ?_
  rintro _ _ ⟨iv2, rfl, rfl, hT2, hF2⟩
  have hT3 := hT2
  obtain ⟨_, _, _, _, _, _, _, _, Bl, hBl, hFl⟩ := hT3
  have hFa : FaR iv2 (RfF iv2 mn (tAll a n) Bl) := hFl
  have hA2 := txR_fr hA hF2
  have hR2 : RR3 iv2 (tAll a n) := ⟨hT2.2.1, fun i h0 hi _ => hT2.2.2.1 i h0 hi, hT2.2.2.2.1⟩
  refine ex_iload_n (pc := 4) (i := 1) d_RF_respond_4 rfl rfl ?_
  refine ex_if_ne (pc := 5) (tgt := 16) d_RF_respond_5 rfl (fun c5 => ?_) (fun c5 => ?_)
  · refine ex_iload_n (pc := 16) (i := 1) d_RF_respond_16 rfl rfl ?_
    refine ex_iconst (pc := 17) (v := (nI 1)) d_RF_respond_17 (by decide) ?_
    refine ex_icmp_ne (pc := 18) (tgt := 28) d_RF_respond_18 rfl (fun c18 => ?_) (fun c18 => ?_)
    · refine ex_iload_n (pc := 28) (i := 1) d_RF_respond_28 rfl rfl ?_
      refine ex_iconst (pc := 29) (v := (nI 2)) d_RF_respond_29 (by decide) ?_
      refine ex_icmp_ne (pc := 30) (tgt := 42) d_RF_respond_30 rfl (fun c30 => ?_) (fun c30 => ?_)
      · refine ex_aload_n (pc := 42) (i := 0) d_RF_respond_42 rfl rfl ?_
        refine ex_callV (pc := 43) (M' := M_RF_makeForm) (as := []) (st := []) d_RF_respond_43 MW_RF_makeForm MI_RF_makeForm LK_RF_286 (Nat.le_of_ble_eq_true rfl) rfl rfl rfl (ct_RF_makeFormX l G iv2 mp sp mo mn a n hA2 (tAll a n) hT2 hTX.1 hTX.2 Bl hBl hFa) (ex_lt_rm (by decide)) ⟨Nat.le_refl _, Nat.le_refl _⟩ rfl rfl (Nat.le_of_ble_eq_true rfl) ?_
        rintro _ _ ⟨iv5, v5, rfl, rfl, hp5⟩
        refine ex_iret (ty := .int) d_RF_respond_46 rfl rfl rfl (Nat.le_refl _) ?_
        have hk : w9 = 3 := by
          have q0 : ¬ w9 = 0 := fun z => c5 (by rw [z]; rfl)
          have q1 : ¬ w9 = 1 := fun z => c18 (by rw [z])
          have q2 : ¬ w9 = 2 := fun z => c30 (by rw [z])
          omega
        exact ⟨iv2, iv5, Bl, v5, rfl, rfl, hT2, hF2, hBl, hFa, fun z => absurd z (by rw [hk]; decide), fun z => absurd z (by rw [hk]; decide), fun z => absurd z (by rw [hk]; decide), fun _ => hp5⟩
      · refine ex_aload_n (pc := 33) (i := 0) d_RF_respond_33 rfl rfl ?_
        refine ex_iload_n (pc := 34) (i := 2) d_RF_respond_34 rfl rfl ?_
        refine ex_iload_n (pc := 35) (i := 3) d_RF_respond_35 rfl rfl ?_
        refine ex_callV (pc := 36) (M' := M_RF_rename) (as := [.int x, .int y]) (st := []) d_RF_respond_36 MW_RF_rename MI_RF_rename LK_RF_283 (Nat.le_of_ble_eq_true rfl) rfl rfl rfl (ct_RF_renameX l G iv2 mp sp mo a n hn hA2.2.1 (tAll a n) hTX.1 hTX.2 hR2 x y) (ex_lt_rm (by decide)) ⟨Nat.le_refl _, Nat.le_refl _⟩ rfl rfl (Nat.le_of_ble_eq_true rfl) ?_
        rintro _ _ ⟨iv5, v5, rfl, rfl, hp5⟩
        refine ex_goto (pc := 39) (tgt := 46) d_RF_respond_39 rfl ?_
        refine ex_iret (ty := .int) d_RF_respond_46 rfl rfl rfl (Nat.le_refl _) ?_
        have hk : w9 = 2 := (n_eq (by omega) (by omega)).mp (show nI w9 = nI 2 from c30)
        exact ⟨iv2, iv5, Bl, v5, rfl, rfl, hT2, hF2, hBl, hFa, fun z => absurd z (by rw [hk]; decide), fun z => absurd z (by rw [hk]; decide), fun _ => hp5, fun z => absurd z (by rw [hk]; decide)⟩
    · refine ex_aload_n (pc := 21) (i := 0) d_RF_respond_21 rfl rfl ?_
      refine ex_getx (pc := 22) 12 29 (nI (RfF iv2 mn (tAll a n) Bl).length) d_RF_respond_22 FL_RF_182 (Nat.le_of_ble_eq_true rfl) rfl hFa.1 ?_
      refine ex_goto (pc := 25) (tgt := 46) d_RF_respond_25 rfl ?_
      refine ex_iret (ty := .int) d_RF_respond_46 rfl rfl rfl (Nat.le_refl _) ?_
      have hk : w9 = 1 := (n_eq (by omega) (by omega)).mp (show nI w9 = nI 1 from c18)
      exact ⟨iv2, iv2, Bl, _, rfl, rfl, hT2, hF2, hBl, hFa, fun z => absurd z (by rw [hk]; decide), fun _ => ⟨rfl, rfl⟩, fun z => absurd z (by rw [hk]; decide), fun z => absurd z (by rw [hk]; decide)⟩
  · refine ex_aload_n (pc := 8) (i := 0) d_RF_respond_8 rfl rfl ?_
    refine ex_iload_n (pc := 9) (i := 2) d_RF_respond_9 rfl rfl ?_
    refine ex_callV (pc := 10) (M' := M_RF_offer) (as := [.int x]) (st := []) d_RF_respond_10 MW_RF_offer MI_RF_offer LK_RF_280 (Nat.le_of_ble_eq_true rfl) rfl rfl rfl (ct_RF_offerX l G iv2 mp sp mo mn (fun k hk => ⟨(hF2 99 k (by omega) (Or.inl (by decide))).trans (hmn k hk).1, (hmn k hk).2⟩) (tAll a n) n hn hA2.2.1 hT2.1 hR2 hTX.1.1 x) (ex_lt_rm (by decide)) ⟨Nat.le_refl _, Nat.le_refl _⟩ rfl rfl (Nat.le_of_ble_eq_true rfl) ?_
    rintro _ _ ⟨v5, rfl, rfl, hp5⟩
    refine ex_goto (pc := 13) (tgt := 46) d_RF_respond_13 rfl ?_
    refine ex_iret (ty := .int) d_RF_respond_46 rfl rfl rfl (Nat.le_refl _) ?_
    have hk : w9 = 0 := (n_eq (by omega) (by omega)).mp (show nI w9 = nI 0 from c5)
    exact ⟨iv2, iv2, Bl, v5, rfl, rfl, hT2, hF2, hBl, hFa, fun _ => ⟨hp5, rfl⟩, fun z => absurd z (by rw [hk]; decide), fun z => absurd z (by rw [hk]; decide), fun z => absurd z (by rw [hk]; decide)⟩

theorem rfOut_o {iv : Nat → Nat → Int32} {m9 row q j : Nat} (h : ¬ (121 ≤ q ∧ q ≤ 125)) (h2 : q ≠ 92 ∨ j ≠ 32) : rfOut iv m9 row q j = iv q j := by
  unfold rfOut shf
  have hS : ¬ (S_rf q = true ∧ row ≤ j ∧ j < m9 - 1) := fun z => by
    have := z.1
    unfold S_rf at this
    rw [Bool.and_eq_true, decide_eq_true_eq, decide_eq_true_eq] at this
    omega
  rw [if_neg hS, u2n h2]
/-- the reference's text behind a change -/
def ChR (iv1 iv3 : Nat → Nat → Int32) (a : Nat → Int32) (n : Nat) (b : Bool) (x y : Int32) : Prop := (∀ q j, q ≠ 106 → (q ≠ 92 ∨ j ≠ 14) → iv3 q j = iv1 q j) ∧
  (b = true → (inOk n x y → TxR iv3 (insA a n x.toInt.toNat y) (n + 1)) ∧ (¬ inOk n x y → TxR iv3 a n)) ∧
  (b = false → (delOk n x y → TxR iv3 (delA a n x.toInt.toNat y.toInt.toNat) (n - y.toInt.toNat)) ∧ (¬ delOk n x y → TxR iv3 a n))
theorem chR_gen {iv1 : Nat → Nat → Int32} {g a2 : Nat → Int32} {n2 : Nat} (h1 : n2 ≤ 100) (h2 : ∀ k, k < n2 → g k = a2 k) (h3 : ∀ k, n2 ≤ k → a2 k = -1) : TxR (ex_u2 (va_up iv1 106 g) 92 14 (nI n2)) a2 n2 ∧ ∀ q j, q ≠ 106 → (q ≠ 92 ∨ j ≠ 14) → ex_u2 (va_up iv1 106 g) 92 14 (nI n2) q j = iv1 q j :=
  ⟨⟨h1, u2s, fun k hk => by rw [u2n (Or.inl (by decide)), va_up_self]; exact h2 k hk, h3⟩, fun q j q1 q2 => by rw [u2n q2, va_up_ne _ _ q1]⟩
theorem chR_ins {iv1 : Nat → Nat → Int32} {a : Nat → Int32} {n : Nat} {mp : Nat → Nat} {sp mo : Nat} (hA : TxR iv1 a n) {x y : Int32} {h' : ex_H}
    (hP : (inOk n x y → ∃ g, h' = HP (ex_u2 (va_up iv1 106 g) 92 14 (nI (n + 1))) mp sp mo ∧ ∀ k, k < n + 1 → g k = insF (iv1 106) x.toInt.toNat y k) ∧ (¬ inOk n x y → h' = HP iv1 mp sp mo)) : ∃ iv3, h' = HP iv3 mp sp mo ∧ ChR iv1 iv3 a n true x y := by
  by_cases ho : inOk n x y
  · obtain ⟨g, e1, e2⟩ := hP.1 ho
    have ht : x.toInt.toNat ≤ n := by have := ho.2.1; have := ho.1; omega
    obtain ⟨t1, t3⟩ := chR_gen (iv1 := iv1) (g := g) (a2 := insA a n x.toInt.toNat y) (n2 := n + 1) (by have := ho.2.2.2; omega) (fun k hk => by rw [e2 k hk]; unfold insA; rw [if_pos hk]; exact ins_cg ht hA.2.2.1 k hk) (fun k hk => if_neg (by omega))
    exact ⟨_, e1, t3, fun _ => ⟨fun _ => t1, fun z => absurd ho z⟩, (fun z => by cases z)⟩
  · exact ⟨_, hP.2 ho, fun _ _ _ _ => rfl, fun _ => ⟨fun z => absurd z ho, fun _ => hA⟩, (fun z => by cases z)⟩
theorem chR_del {iv1 : Nat → Nat → Int32} {a : Nat → Int32} {n : Nat} {mp : Nat → Nat} {sp mo : Nat} (hA : TxR iv1 a n) {x y : Int32} {h' : ex_H}
    (hP : (delOk n x y → ∃ g, h' = HP (ex_u2 (va_up iv1 106 g) 92 14 (nI (n - y.toInt.toNat))) mp sp mo ∧ ∀ k, k < n - y.toInt.toNat → g k = delF (iv1 106) x.toInt.toNat y.toInt.toNat k) ∧ (¬ delOk n x y → h' = HP iv1 mp sp mo)) : ∃ iv3, h' = HP iv3 mp sp mo ∧ ChR iv1 iv3 a n false x y := by
  have hn := hA.1
  by_cases ho : delOk n x y
  · obtain ⟨g, e1, e2⟩ := hP.1 ho
    have ht : x.toInt.toNat + y.toInt.toNat ≤ n := by have := ho.2.2; have := ho.1; have := ho.2.1; omega
    obtain ⟨t1, t3⟩ := chR_gen (iv1 := iv1) (g := g) (a2 := delA a n x.toInt.toNat y.toInt.toNat) (n2 := n - y.toInt.toNat) (by omega) (fun k hk => by rw [e2 k hk]; unfold delA; rw [if_pos hk]; exact del_cg ht hA.2.2.1 k hk) (fun k hk => if_neg (by omega))
    exact ⟨_, e1, t3, (fun z => by cases z), fun _ => ⟨fun _ => t1, fun z => absurd ho z⟩⟩
  · exact ⟨_, hP.2 ho, fun _ _ _ _ => rfl, (fun z => by cases z), fun _ => ⟨fun z => absurd z ho, fun _ => hA⟩⟩
def rfKeep (iv : Nat → Nat → Int32) (t : Nat) (v : Int32) : Nat → Nat → Int32 := ex_u2 (ex_u2 iv 127 (t % 8) v) 92 39 (nI (t + 1))
theorem rpR_fr {iv2 iv3 : Nat → Nat → Int32} {mn : Nat → Nat} {a : Nat → Int32} {n : Nat} {T : TS} {Bl : List Nat} {w9 : Nat} {x y v : Int32} (hw : w9 ≤ 3) (hO : tO a T) (h : RpR iv2 mn a n T Bl (nI w9) x y v iv3) : ∀ q j, q ≠ 106 → q ≠ 128 → (q ≠ 92 ∨ j ≠ 42) → iv3 q j = iv2 q j := by
  intro q j q1 q2 q3
  have hw4 : w9 = 0 ∨ w9 = 1 ∨ w9 = 2 ∨ w9 = 3 := by omega
  rcases hw4 with z | z | z | z
  · rw [(h.1 (by rw [z])).2]
  · rw [(h.2.1 (by rw [z])).2]
  · have hz := h.2.2.1 (by rw [z])
    by_cases hb : owF T x = -1 ∨ nmB y = false
    · rw [(hz.1 hb).2]
    · obtain ⟨i, i1, i2, i3⟩ := (ow_v hO x).resolve_left (fun q => hb (Or.inl q))
      rw [(hz.2 i i1 i2 i3 (Classical.byContradiction (fun q => hb (Or.inr (Bool.eq_false_iff.mpr q))))).1]
      exact (r2_a (n := 0) (a := a) (fun k hk => absurd hk (Nat.not_lt_zero _))).2 q j q1
  · have hz := h.2.2.2 (by rw [z])
    cases hp : pvK (srt (RfF iv2 mn T Bl)) (RfF iv2 mn T Bl).length 0 with
    | true => rw [(hz.1 hp).2]
    | false => exact (hz.2 hp).2.2.2 q j q2 q3
theorem rpC_fr {iv2 iv3 : Nat → Nat → Int32} {mp : Nat → Nat} {a : Nat → Int32} {n : Nat} {T : TS} {w9 : Nat} {x y v : Int32} (hw : w9 ≤ 3) (hX : tX a T n) (hTg : ∀ t, t < T.tn → tgR iv2 (T.tg t) t) (h : RpC iv2 mp a n T (nI w9) x y v iv3) : ∀ q j, q ≠ 40 → q ≠ 83 → (q ≠ 0 ∨ j ≠ 9) → (q ≠ 82 ∨ j ≠ 4) → iv3 q j = iv2 q j := by
  intro q j q1 q2 q3 q4
  have hw4 : w9 = 0 ∨ w9 = 1 ∨ w9 = 2 ∨ w9 = 3 := by omega
  rcases hw4 with z | z | z | z
  · rw [(h.1 (by rw [z])).2]
  · rw [(h.2.1 (by rw [z])).2]
  · have hz := h.2.2.1 (by rw [z])
    by_cases hb : fndV (ownP iv2 x) (iv2 45) T.tn 0 = -1 ∨ nmB y = false
    · rw [(hz.1 hb).2]
    · obtain ⟨i, i1, i2, i3⟩ := (own_v hX hTg x).resolve_left (fun q => hb (Or.inl q))
      obtain ⟨g, g1, _⟩ := hz.2 i i1 i2 i3 (Classical.byContradiction (fun q => hb (Or.inr (Bool.eq_false_iff.mpr q))))
      rw [g1, va_up_ne _ _ q1, u2n q3]
  · have hz := h.2.2.2 (by rw [z])
    cases hp : pvK (srt (ClF iv2 mp T)) (ClF iv2 mp T).length 0 with
    | true => rw [(hz.1 hp).2]
    | false => exact (hz.2 hp).2.2.2 q j q2 q4
set_option maxRecDepth 100000 in
set_option maxHeartbeats 4000000 in
theorem ct_RF_work0 (l : Launch) (G : ex_G) (iv : Nat → Nat → Int32) (mp : Nat → Nat) (sp mo : Nat) (hm : iv 92 32 = nI 0) : CT l G 6 M_RF_work [.ref 92] (HP iv mp sp mo) 0 0 (fun r h' => h' = HP iv mp sp mo ∧ r = some (.int (-1))) := by
  refine ex_enter (by decide) (Nat.le_of_ble_eq_true rfl) (fun v hv => by simp at hv; rcases hv with rfl <;> rfl) (fun p e s m args below meth c => ?_)
  refine ex_aload_n (pc := 0) (i := 0) d_RF_work_0 rfl rfl ?_
  refine ex_getx (pc := 1) 12 32 (nI 0) d_RF_work_1 FL_RF_261 (Nat.le_of_ble_eq_true rfl) rfl hm ?_
  refine ex_if_ne (pc := 4) (tgt := 9) d_RF_work_4 rfl (fun c4 => ?_) (fun c4 => ?_)
  · exact absurd rfl c4
  · refine ex_iconst (pc := 7) (v := (-1)) d_RF_work_7 (by decide) ?_
    refine ex_iret (ty := .int) d_RF_work_8 rfl rfl rfl (Nat.le_refl _) ?_
    exact ⟨rfl, rfl⟩

set_option maxRecDepth 100000 in
set_option maxHeartbeats 4000000 in
theorem ct_RF_workI (l : Launch) (G : ex_G) (iv : Nat → Nat → Int32) (mp : Nat → Nat) (sp mo : Nat) (m9 : Nat) (hm : iv 92 32 = nI m9) (hm12 : m9 ≤ 12) (h0 : 0 < m9) (a : Nat → Int32) (n : Nat) (hA : TxR iv a n) (hk : iv 121 0 = nI 0) : CT l G 6 M_RF_work [.ref 92] (HP iv mp sp mo) 0 0 (fun r h' => ∃ iv3, h' = HP iv3 mp sp mo ∧ r = some (.int (iv 124 0)) ∧ ChR (rfOut iv m9 0) iv3 a n true (iv 122 0) (iv 123 0)) := by
  refine ex_enter (by decide) (Nat.le_of_ble_eq_true rfl) (fun v hv => by simp at hv; rcases hv with rfl <;> rfl) (fun p e s m args below meth c => ?_)
  have hn := hA.1
  have hA1 : TxR (rfOut iv m9 0) a n := ⟨hA.1, (rfOut_o (by decide) (Or.inr (by decide))).trans hA.2.1, fun k hk => (rfOut_o (by decide) (Or.inl (by decide))).trans (hA.2.2.1 k hk), hA.2.2.2⟩
  refine ex_aload_n (pc := 0) (i := 0) d_RF_work_0 rfl rfl ?_
  refine ex_getx (pc := 1) 12 32 (nI m9) d_RF_work_1 FL_RF_261 (Nat.le_of_ble_eq_true rfl) rfl hm ?_
  refine ex_if_ne (pc := 4) (tgt := 9) d_RF_work_4 rfl (fun c4 => ?_) (fun c4 => ?_)
  · refine ex_aload_n (pc := 9) (i := 0) d_RF_work_9 rfl rfl ?_
    refine ex_getr (pc := 10) 12 33 d_RF_work_10 FL_RF_95 (Nat.le_of_ble_eq_true rfl) rfl rfl ?_
    refine ex_iconst (pc := 13) (v := (nI 0)) d_RF_work_13 (by decide) ?_
    refine ex_ialdx (pc := 14) 0 (nI 0) d_RF_work_14 (Nat.le_of_ble_eq_true rfl) rfl rfl rfl (nI_t (by omega)) (show 0 < 13 by omega) hk ?_
    refine ex_istore_n (pc := 15) (i := 1) d_RF_work_15 rfl (by decide) ?_
    refine ex_aload_n (pc := 16) (i := 0) d_RF_work_16 rfl rfl ?_
    refine ex_getr (pc := 17) 12 34 d_RF_work_17 FL_RF_98 (Nat.le_of_ble_eq_true rfl) rfl rfl ?_
    refine ex_iconst (pc := 20) (v := (nI 0)) d_RF_work_20 (by decide) ?_
    refine ex_ialdx (pc := 21) 0 (iv 122 0) d_RF_work_21 (Nat.le_of_ble_eq_true rfl) rfl rfl rfl (nI_t (by omega)) (show 0 < 13 by omega) rfl ?_
    refine ex_istore_n (pc := 22) (i := 2) d_RF_work_22 rfl (by decide) ?_
    refine ex_aload_n (pc := 23) (i := 0) d_RF_work_23 rfl rfl ?_
    refine ex_getr (pc := 24) 12 35 d_RF_work_24 FL_RF_101 (Nat.le_of_ble_eq_true rfl) rfl rfl ?_
    refine ex_iconst (pc := 27) (v := (nI 0)) d_RF_work_27 (by decide) ?_
    refine ex_ialdx (pc := 28) 0 (iv 123 0) d_RF_work_28 (Nat.le_of_ble_eq_true rfl) rfl rfl rfl (nI_t (by omega)) (show 0 < 13 by omega) rfl ?_
    refine ex_istore_n (pc := 29) (i := 3) d_RF_work_29 rfl (by decide) ?_
    refine ex_aload_n (pc := 30) (i := 0) d_RF_work_30 rfl rfl ?_
    refine ex_getr (pc := 31) 12 36 d_RF_work_31 FL_RF_104 (Nat.le_of_ble_eq_true rfl) rfl rfl ?_
    refine ex_iconst (pc := 34) (v := (nI 0)) d_RF_work_34 (by decide) ?_
    refine ex_ialdx (pc := 35) 0 (iv 124 0) d_RF_work_35 (Nat.le_of_ble_eq_true rfl) rfl rfl rfl (nI_t (by omega)) (show 0 < 13 by omega) rfl ?_
    refine ex_istore (pc := 36) d_RF_work_36 (by decide) ?_
    refine ex_aload_n (pc := 38) (i := 0) d_RF_work_38 rfl rfl ?_
    refine ex_getr (pc := 39) 12 37 d_RF_work_39 FL_RF_107 (Nat.le_of_ble_eq_true rfl) rfl rfl ?_
    refine ex_iconst (pc := 42) (v := (nI 0)) d_RF_work_42 (by decide) ?_
    refine ex_ialdx (pc := 43) 0 (iv 125 0) d_RF_work_43 (Nat.le_of_ble_eq_true rfl) rfl rfl rfl (nI_t (by omega)) (show 0 < 13 by omega) rfl ?_
    refine ex_istore (pc := 44) d_RF_work_44 (by decide) ?_
    refine ex_aload_n (pc := 46) (i := 0) d_RF_work_46 rfl rfl ?_
    refine ex_iconst (pc := 47) (v := (nI 0)) d_RF_work_47 (by decide) ?_
    refine ex_callV (pc := 48) (M' := M_RF_strike) (as := [.int (nI 0)]) (st := []) d_RF_work_48 MW_RF_strike MI_RF_strike LK_RF_274 (Nat.le_of_ble_eq_true rfl) rfl rfl rfl (ct_RF_strike l G iv mp sp mo 0 m9 hm hm12 h0) (ex_lt_rm (by decide)) ⟨Nat.le_refl _, Nat.le_refl _⟩ rfl rfl (Nat.le_of_ble_eq_true rfl) ?_
    rintro _ _ ⟨rfl, rfl⟩
    refine ex_iload_n (pc := 51) (i := 1) d_RF_work_51 rfl rfl ?_
    refine ex_if_ne (pc := 52) (tgt := 64) d_RF_work_52 rfl (fun c52 => ?_) (fun c52 => ?_)
    · exact absurd rfl c52
    · refine ex_aload_n (pc := 55) (i := 0) d_RF_work_55 rfl rfl ?_
      refine ex_iload_n (pc := 56) (i := 2) d_RF_work_56 rfl rfl ?_
      refine ex_iload_n (pc := 57) (i := 3) d_RF_work_57 rfl rfl ?_
      refine ex_callV (pc := 58) (M' := M_RF_insertNow) (as := [.int (iv 122 0), .int (iv 123 0)]) (st := []) d_RF_work_58 MW_RF_insertNow MI_RF_insertNow LK_RF_289 (Nat.le_of_ble_eq_true rfl) rfl rfl rfl (ct_RF_insertNow l G (rfOut iv m9 0) mp sp mo n (iv 122 0) (iv 123 0) hA1.2.1 hn) (ex_lt_rm (by decide)) ⟨Nat.le_refl _, Nat.le_refl _⟩ rfl rfl (Nat.le_of_ble_eq_true rfl) ?_
      rintro _ h5 ⟨rfl, hP5⟩
      obtain ⟨iv3, rfl, hCh⟩ := chR_ins hA1 hP5
      refine ex_goto (pc := 61) (tgt := 122) d_RF_work_61 rfl ?_
      refine ex_iload (pc := 122) d_RF_work_122 rfl ?_
      refine ex_iret (ty := .int) d_RF_work_124 rfl rfl rfl (Nat.le_refl _) ?_
      exact ⟨iv3, rfl, rfl, hCh⟩
  · exact absurd ((n_eq (by omega) (by omega)).mp (show nI m9 = nI 0 from c4)) (by omega)

set_option maxRecDepth 100000 in
set_option maxHeartbeats 4000000 in
theorem ct_RF_workE (l : Launch) (G : ex_G) (iv : Nat → Nat → Int32) (mp : Nat → Nat) (sp mo : Nat) (m9 : Nat) (hm : iv 92 32 = nI m9) (hm12 : m9 ≤ 12) (h0 : 0 < m9) (a : Nat → Int32) (n : Nat) (hA : TxR iv a n) (hk : iv 121 0 = nI 1) : CT l G 6 M_RF_work [.ref 92] (HP iv mp sp mo) 0 0 (fun r h' => ∃ iv3, h' = HP iv3 mp sp mo ∧ r = some (.int (iv 124 0)) ∧ ChR (rfOut iv m9 0) iv3 a n false (iv 122 0) (iv 123 0)) := by
  refine ex_enter (by decide) (Nat.le_of_ble_eq_true rfl) (fun v hv => by simp at hv; rcases hv with rfl <;> rfl) (fun p e s m args below meth c => ?_)
  have hn := hA.1
  have hA1 : TxR (rfOut iv m9 0) a n := ⟨hA.1, (rfOut_o (by decide) (Or.inr (by decide))).trans hA.2.1, fun k hk => (rfOut_o (by decide) (Or.inl (by decide))).trans (hA.2.2.1 k hk), hA.2.2.2⟩
  refine ex_aload_n (pc := 0) (i := 0) d_RF_work_0 rfl rfl ?_
  refine ex_getx (pc := 1) 12 32 (nI m9) d_RF_work_1 FL_RF_261 (Nat.le_of_ble_eq_true rfl) rfl hm ?_
  refine ex_if_ne (pc := 4) (tgt := 9) d_RF_work_4 rfl (fun c4 => ?_) (fun c4 => ?_)
  · refine ex_aload_n (pc := 9) (i := 0) d_RF_work_9 rfl rfl ?_
    refine ex_getr (pc := 10) 12 33 d_RF_work_10 FL_RF_95 (Nat.le_of_ble_eq_true rfl) rfl rfl ?_
    refine ex_iconst (pc := 13) (v := (nI 0)) d_RF_work_13 (by decide) ?_
    refine ex_ialdx (pc := 14) 0 (nI 1) d_RF_work_14 (Nat.le_of_ble_eq_true rfl) rfl rfl rfl (nI_t (by omega)) (show 0 < 13 by omega) hk ?_
    refine ex_istore_n (pc := 15) (i := 1) d_RF_work_15 rfl (by decide) ?_
    refine ex_aload_n (pc := 16) (i := 0) d_RF_work_16 rfl rfl ?_
    refine ex_getr (pc := 17) 12 34 d_RF_work_17 FL_RF_98 (Nat.le_of_ble_eq_true rfl) rfl rfl ?_
    refine ex_iconst (pc := 20) (v := (nI 0)) d_RF_work_20 (by decide) ?_
    refine ex_ialdx (pc := 21) 0 (iv 122 0) d_RF_work_21 (Nat.le_of_ble_eq_true rfl) rfl rfl rfl (nI_t (by omega)) (show 0 < 13 by omega) rfl ?_
    refine ex_istore_n (pc := 22) (i := 2) d_RF_work_22 rfl (by decide) ?_
    refine ex_aload_n (pc := 23) (i := 0) d_RF_work_23 rfl rfl ?_
    refine ex_getr (pc := 24) 12 35 d_RF_work_24 FL_RF_101 (Nat.le_of_ble_eq_true rfl) rfl rfl ?_
    refine ex_iconst (pc := 27) (v := (nI 0)) d_RF_work_27 (by decide) ?_
    refine ex_ialdx (pc := 28) 0 (iv 123 0) d_RF_work_28 (Nat.le_of_ble_eq_true rfl) rfl rfl rfl (nI_t (by omega)) (show 0 < 13 by omega) rfl ?_
    refine ex_istore_n (pc := 29) (i := 3) d_RF_work_29 rfl (by decide) ?_
    refine ex_aload_n (pc := 30) (i := 0) d_RF_work_30 rfl rfl ?_
    refine ex_getr (pc := 31) 12 36 d_RF_work_31 FL_RF_104 (Nat.le_of_ble_eq_true rfl) rfl rfl ?_
    refine ex_iconst (pc := 34) (v := (nI 0)) d_RF_work_34 (by decide) ?_
    refine ex_ialdx (pc := 35) 0 (iv 124 0) d_RF_work_35 (Nat.le_of_ble_eq_true rfl) rfl rfl rfl (nI_t (by omega)) (show 0 < 13 by omega) rfl ?_
    refine ex_istore (pc := 36) d_RF_work_36 (by decide) ?_
    refine ex_aload_n (pc := 38) (i := 0) d_RF_work_38 rfl rfl ?_
    refine ex_getr (pc := 39) 12 37 d_RF_work_39 FL_RF_107 (Nat.le_of_ble_eq_true rfl) rfl rfl ?_
    refine ex_iconst (pc := 42) (v := (nI 0)) d_RF_work_42 (by decide) ?_
    refine ex_ialdx (pc := 43) 0 (iv 125 0) d_RF_work_43 (Nat.le_of_ble_eq_true rfl) rfl rfl rfl (nI_t (by omega)) (show 0 < 13 by omega) rfl ?_
    refine ex_istore (pc := 44) d_RF_work_44 (by decide) ?_
    refine ex_aload_n (pc := 46) (i := 0) d_RF_work_46 rfl rfl ?_
    refine ex_iconst (pc := 47) (v := (nI 0)) d_RF_work_47 (by decide) ?_
    refine ex_callV (pc := 48) (M' := M_RF_strike) (as := [.int (nI 0)]) (st := []) d_RF_work_48 MW_RF_strike MI_RF_strike LK_RF_274 (Nat.le_of_ble_eq_true rfl) rfl rfl rfl (ct_RF_strike l G iv mp sp mo 0 m9 hm hm12 h0) (ex_lt_rm (by decide)) ⟨Nat.le_refl _, Nat.le_refl _⟩ rfl rfl (Nat.le_of_ble_eq_true rfl) ?_
    rintro _ _ ⟨rfl, rfl⟩
    refine ex_iload_n (pc := 51) (i := 1) d_RF_work_51 rfl rfl ?_
    refine ex_if_ne (pc := 52) (tgt := 64) d_RF_work_52 rfl (fun c52 => ?_) (fun c52 => ?_)
    · refine ex_iload_n (pc := 64) (i := 1) d_RF_work_64 rfl rfl ?_
      refine ex_iconst (pc := 65) (v := (nI 1)) d_RF_work_65 (by decide) ?_
      refine ex_icmp_ne (pc := 66) (tgt := 78) d_RF_work_66 rfl (fun c66 => ?_) (fun c66 => ?_)
      · exact absurd rfl c66
      · refine ex_aload_n (pc := 69) (i := 0) d_RF_work_69 rfl rfl ?_
        refine ex_iload_n (pc := 70) (i := 2) d_RF_work_70 rfl rfl ?_
        refine ex_iload_n (pc := 71) (i := 3) d_RF_work_71 rfl rfl ?_
        refine ex_callV (pc := 72) (M' := M_RF_eraseNow) (as := [.int (iv 122 0), .int (iv 123 0)]) (st := []) d_RF_work_72 MW_RF_eraseNow MI_RF_eraseNow LK_RF_292 (Nat.le_of_ble_eq_true rfl) rfl rfl rfl (ct_RF_eraseNow l G (rfOut iv m9 0) mp sp mo n (iv 122 0) (iv 123 0) hA1.2.1 hn) (ex_lt_rm (by decide)) ⟨Nat.le_refl _, Nat.le_refl _⟩ rfl rfl (Nat.le_of_ble_eq_true rfl) ?_
        rintro _ h5 ⟨rfl, hP5⟩
        obtain ⟨iv3, rfl, hCh⟩ := chR_del hA1 hP5
        refine ex_goto (pc := 75) (tgt := 122) d_RF_work_75 rfl ?_
        refine ex_iload (pc := 122) d_RF_work_122 rfl ?_
        refine ex_iret (ty := .int) d_RF_work_124 rfl rfl rfl (Nat.le_refl _) ?_
        exact ⟨iv3, rfl, rfl, hCh⟩
    · exact absurd c52 (by decide)
  · exact absurd ((n_eq (by omega) (by omega)).mp (show nI m9 = nI 0 from c4)) (by omega)

set_option maxRecDepth 100000 in
set_option maxHeartbeats 4000000 in
theorem ct_RF_workR (l : Launch) (G : ex_G) (iv : Nat → Nat → Int32) (mp : Nat → Nat) (sp mo : Nat) (m9 : Nat) (hm : iv 92 32 = nI m9) (hm12 : m9 ≤ 12) (h0 : 0 < m9) (a : Nat → Int32) (n : Nat) (hA : TxR iv a n) (mn : Nat → Nat) (hmn : ∀ k, k < 9 → iv 99 k = nI (mn k) ∧ mn k ≤ 10) (w9 t9 : Nat) (hw : w9 ≤ 3) (hk : iv 121 0 = nI 2) (h125 : iv 125 0 = nI w9) (ht : t9 ≤ 9999) (h39 : iv 92 39 = nI t9) : CT l G 6 M_RF_work [.ref 92] (HP iv mp sp mo) 0 0 (fun r h' => ∃ iv2 iv3 Bl v, h' = HP (rfKeep iv3 t9 v) mp sp mo ∧ r = some (.int (iv 124 0)) ∧ RefT iv2 mn n (tAll a n) ∧ FrR (ex_u2 (rfOut iv m9 0) 126 (t9 % 8) (iv 124 0)) iv2 ∧ Bl.Perm ((tAll a n).fl ++ (tAll a n).br.map (k4 (tAll a n).e)) ∧ FaR iv2 (RfF iv2 mn (tAll a n) Bl) ∧ RpR iv2 mn a n (tAll a n) Bl (nI w9) (iv 122 0) (iv 123 0) v iv3) := by
  refine ex_enter (by decide) (Nat.le_of_ble_eq_true rfl) (fun v hv => by simp at hv; rcases hv with rfl <;> rfl) (fun p e s m args below meth c => ?_)
  have hn := hA.1
  have hA1 : TxR (rfOut iv m9 0) a n := ⟨hA.1, (rfOut_o (by decide) (Or.inr (by decide))).trans hA.2.1, fun k hk => (rfOut_o (by decide) (Or.inl (by decide))).trans (hA.2.2.1 k hk), hA.2.2.2⟩
  have hTX := tX_all hA.1 hA.2.2.2
  have h39a : (rfOut iv m9 0) 92 39 = nI t9 := (rfOut_o (by decide) (Or.inr (by decide))).trans h39
  have h39b : (ex_u2 (rfOut iv m9 0) 126 (t9 % 8) (iv 124 0)) 92 39 = nI t9 := (u2n (Or.inl (by decide))).trans h39a
  have hA2 : TxR (ex_u2 (rfOut iv m9 0) 126 (t9 % 8) (iv 124 0)) a n := ⟨hA.1, (u2n (Or.inl (by decide))).trans hA1.2.1, fun k hk => (u2n (Or.inl (by decide))).trans (hA1.2.2.1 k hk), hA.2.2.2⟩
  have hmn2 : ∀ k, k < 9 → (ex_u2 (rfOut iv m9 0) 126 (t9 % 8) (iv 124 0)) 99 k = nI (mn k) ∧ mn k ≤ 10 := fun k hk => ⟨(u2n (Or.inl (by decide))).trans ((rfOut_o (by decide) (Or.inl (by decide))).trans (hmn k hk).1), (hmn k hk).2⟩
  refine ex_aload_n (pc := 0) (i := 0) d_RF_work_0 rfl rfl ?_
  refine ex_getx (pc := 1) 12 32 (nI m9) d_RF_work_1 FL_RF_261 (Nat.le_of_ble_eq_true rfl) rfl hm ?_
  refine ex_if_ne (pc := 4) (tgt := 9) d_RF_work_4 rfl (fun c4 => ?_) (fun c4 => ?_)
  · refine ex_aload_n (pc := 9) (i := 0) d_RF_work_9 rfl rfl ?_
    refine ex_getr (pc := 10) 12 33 d_RF_work_10 FL_RF_95 (Nat.le_of_ble_eq_true rfl) rfl rfl ?_
    refine ex_iconst (pc := 13) (v := (nI 0)) d_RF_work_13 (by decide) ?_
    refine ex_ialdx (pc := 14) 0 (nI 2) d_RF_work_14 (Nat.le_of_ble_eq_true rfl) rfl rfl rfl (nI_t (by omega)) (show 0 < 13 by omega) hk ?_
    refine ex_istore_n (pc := 15) (i := 1) d_RF_work_15 rfl (by decide) ?_
    refine ex_aload_n (pc := 16) (i := 0) d_RF_work_16 rfl rfl ?_
    refine ex_getr (pc := 17) 12 34 d_RF_work_17 FL_RF_98 (Nat.le_of_ble_eq_true rfl) rfl rfl ?_
    refine ex_iconst (pc := 20) (v := (nI 0)) d_RF_work_20 (by decide) ?_
    refine ex_ialdx (pc := 21) 0 (iv 122 0) d_RF_work_21 (Nat.le_of_ble_eq_true rfl) rfl rfl rfl (nI_t (by omega)) (show 0 < 13 by omega) rfl ?_
    refine ex_istore_n (pc := 22) (i := 2) d_RF_work_22 rfl (by decide) ?_
    refine ex_aload_n (pc := 23) (i := 0) d_RF_work_23 rfl rfl ?_
    refine ex_getr (pc := 24) 12 35 d_RF_work_24 FL_RF_101 (Nat.le_of_ble_eq_true rfl) rfl rfl ?_
    refine ex_iconst (pc := 27) (v := (nI 0)) d_RF_work_27 (by decide) ?_
    refine ex_ialdx (pc := 28) 0 (iv 123 0) d_RF_work_28 (Nat.le_of_ble_eq_true rfl) rfl rfl rfl (nI_t (by omega)) (show 0 < 13 by omega) rfl ?_
    refine ex_istore_n (pc := 29) (i := 3) d_RF_work_29 rfl (by decide) ?_
    refine ex_aload_n (pc := 30) (i := 0) d_RF_work_30 rfl rfl ?_
    refine ex_getr (pc := 31) 12 36 d_RF_work_31 FL_RF_104 (Nat.le_of_ble_eq_true rfl) rfl rfl ?_
    refine ex_iconst (pc := 34) (v := (nI 0)) d_RF_work_34 (by decide) ?_
    refine ex_ialdx (pc := 35) 0 (iv 124 0) d_RF_work_35 (Nat.le_of_ble_eq_true rfl) rfl rfl rfl (nI_t (by omega)) (show 0 < 13 by omega) rfl ?_
    refine ex_istore (pc := 36) d_RF_work_36 (by decide) ?_
    refine ex_aload_n (pc := 38) (i := 0) d_RF_work_38 rfl rfl ?_
    refine ex_getr (pc := 39) 12 37 d_RF_work_39 FL_RF_107 (Nat.le_of_ble_eq_true rfl) rfl rfl ?_
    refine ex_iconst (pc := 42) (v := (nI 0)) d_RF_work_42 (by decide) ?_
    refine ex_ialdx (pc := 43) 0 (nI w9) d_RF_work_43 (Nat.le_of_ble_eq_true rfl) rfl rfl rfl (nI_t (by omega)) (show 0 < 13 by omega) h125 ?_
    refine ex_istore (pc := 44) d_RF_work_44 (by decide) ?_
    refine ex_aload_n (pc := 46) (i := 0) d_RF_work_46 rfl rfl ?_
    refine ex_iconst (pc := 47) (v := (nI 0)) d_RF_work_47 (by decide) ?_
    refine ex_callV (pc := 48) (M' := M_RF_strike) (as := [.int (nI 0)]) (st := []) d_RF_work_48 MW_RF_strike MI_RF_strike LK_RF_274 (Nat.le_of_ble_eq_true rfl) rfl rfl rfl (ct_RF_strike l G iv mp sp mo 0 m9 hm hm12 h0) (ex_lt_rm (by decide)) ⟨Nat.le_refl _, Nat.le_refl _⟩ rfl rfl (Nat.le_of_ble_eq_true rfl) ?_
    rintro _ _ ⟨rfl, rfl⟩
    refine ex_iload_n (pc := 51) (i := 1) d_RF_work_51 rfl rfl ?_
    refine ex_if_ne (pc := 52) (tgt := 64) d_RF_work_52 rfl (fun c52 => ?_) (fun c52 => ?_)
    · refine ex_iload_n (pc := 64) (i := 1) d_RF_work_64 rfl rfl ?_
      refine ex_iconst (pc := 65) (v := (nI 1)) d_RF_work_65 (by decide) ?_
      refine ex_icmp_ne (pc := 66) (tgt := 78) d_RF_work_66 rfl (fun c66 => ?_) (fun c66 => ?_)
      · refine ex_aload_n (pc := 78) (i := 0) d_RF_work_78 rfl rfl ?_
        refine ex_getr (pc := 79) 12 40 d_RF_work_79 FL_RF_110 (Nat.le_of_ble_eq_true rfl) rfl rfl ?_
        refine ex_aload_n (pc := 82) (i := 0) d_RF_work_82 rfl rfl ?_
        refine ex_getx (pc := 83) 12 39 (nI t9) d_RF_work_83 FL_RF_295 (Nat.le_of_ble_eq_true rfl) rfl h39a ?_
        refine ex_bipush (pc := 86) (v := (nI 8)) d_RF_work_86 (by decide) ?_
        refine ex_irem (pc := 88) d_RF_work_88 (by decide) ?_
        refine ex_top (nI_rem8 (by omega)) ?_
        refine ex_iload (pc := 89) d_RF_work_89 rfl ?_
        refine ex_iast (pc := 91) (t9 % 8) d_RF_work_91 (Nat.le_of_ble_eq_true rfl) rfl rfl rfl (nI_t (by omega)) (show t9 % 8 < 8 by omega) ?_
        refine ex_aload_n (pc := 92) (i := 0) d_RF_work_92 rfl rfl ?_
        refine ex_getr (pc := 93) 12 41 d_RF_work_93 FL_RF_113 (Nat.le_of_ble_eq_true rfl) rfl rfl ?_
        refine ex_aload_n (pc := 96) (i := 0) d_RF_work_96 rfl rfl ?_
        refine ex_getx (pc := 97) 12 39 (nI t9) d_RF_work_97 FL_RF_295 (Nat.le_of_ble_eq_true rfl) rfl h39b ?_
        refine ex_bipush (pc := 100) (v := (nI 8)) d_RF_work_100 (by decide) ?_
        refine ex_irem (pc := 102) d_RF_work_102 (by decide) ?_
        refine ex_top (nI_rem8 (by omega)) ?_
        refine ex_aload_n (pc := 103) (i := 0) d_RF_work_103 rfl rfl ?_
        refine ex_iload (pc := 104) d_RF_work_104 rfl ?_
        refine ex_iload_n (pc := 106) (i := 2) d_RF_work_106 rfl rfl ?_
        refine ex_iload_n (pc := 107) (i := 3) d_RF_work_107 rfl rfl ?_
        refine ex_callV (pc := 108) (M' := M_RF_respond) (as := [.int (nI w9), .int (iv 122 0), .int (iv 123 0)]) (st := [.int (nI (t9 % 8)), .ref 127]) d_RF_work_108 MW_RF_respond MI_RF_respond LK_RF_298 (Nat.le_of_ble_eq_true rfl) rfl rfl rfl (ct_RF_respond l G (ex_u2 (rfOut iv m9 0) 126 (t9 % 8) (iv 124 0)) mp sp mo a n hA2 mn hmn2 w9 hw (iv 122 0) (iv 123 0)) (ex_lt_rm (by decide)) ⟨Nat.le_refl _, Nat.le_refl _⟩ rfl rfl (Nat.le_of_ble_eq_true rfl) ?_
        rintro _ _ ⟨iv2, iv3, Bl, v5, rfl, rfl, hT2, hF2, hBl, hFa, hRp⟩
        have h39c : ex_u2 iv3 127 (t9 % 8) v5 92 39 = nI t9 := (u2n (Or.inl (by decide))).trans ((rpR_fr hw hTX.1.2.2.2.1 hRp 92 39 (by decide) (by decide) (Or.inr (by decide))).trans ((hF2 92 39 (by decide) (Or.inr (by decide))).trans h39b))
        refine ex_iast (pc := 111) (t9 % 8) d_RF_work_111 (Nat.le_of_ble_eq_true rfl) rfl rfl rfl (nI_t (by omega)) (show t9 % 8 < 8 by omega) ?_
        refine ex_aload_n (pc := 112) (i := 0) d_RF_work_112 rfl rfl ?_
        refine ex_dup (pc := 113) d_RF_work_113 rfl ?_
        refine ex_getx (pc := 114) 12 39 (nI t9) d_RF_work_114 FL_RF_295 (Nat.le_of_ble_eq_true rfl) rfl h39c ?_
        refine ex_iconst (pc := 117) (v := (nI 1)) d_RF_work_117 (by decide) ?_
        refine ex_iadd (pc := 118) d_RF_work_118 ?_
        refine ex_top (nI_s _) ?_
        refine ex_puti (pc := 119) 12 39 .int d_RF_work_119 (PF_RF_295 _) (Nat.le_of_ble_eq_true rfl) rfl rfl rfl ?_
        refine ex_iload (pc := 122) d_RF_work_122 rfl ?_
        refine ex_iret (ty := .int) d_RF_work_124 rfl rfl rfl (Nat.le_refl _) ?_
        exact ⟨iv2, iv3, Bl, v5, rfl, rfl, hT2, hF2, hBl, hFa, hRp⟩
      · exact absurd c66 (by decide)
    · exact absurd c52 (by decide)
  · exact absurd ((n_eq (by omega) (by omega)).mp (show nI m9 = nI 0 from c4)) (by omega)

