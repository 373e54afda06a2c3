/-! replies (class) -/
theorem prv_pv {f : Nat → Int32} {s : List Nat} : ∀ k i, (∀ j, i ≤ j → j < i + k → f j = nI (s.getD j 0) ∧ s.getD j 0 ≤ 10000) → prvF f k i = pvK s k i := by
  intro k
  induction k with
  | zero => intros; rfl
  | succ k ih =>
    intro i h
    obtain ⟨h1, h2⟩ := h i (Nat.le_refl _) (by omega)
    rw [prvF, pvK, h1, nI_rem8 h2]
    by_cases z : s.getD i 0 % 8 < 5
    · rw [if_pos z, if_neg (fun w => by have := (n_lt (by omega) (by omega)).mp w; omega)]
    · rw [if_neg z, if_pos ((n_lt (by omega) (by omega)).mpr (by omega))]
      exact ih (i + 1) (fun j h1 h2 => h j (by omega) (by omega))
theorem gA_mem {f : Nat → List Nat} {x q : Nat} (hx : x ∈ f q) : ∀ k i A, i ≤ q → q < i + k → x ∈ gA f k i A := by
  intro k
  induction k with
  | zero => intro i A h1 h2; omega
  | succ k ih =>
    intro i A h1 h2
    rw [gA]
    by_cases e1 : i = q
    · rw [e1]
      exact gA_sub _ _ _ _ (List.mem_append_left _ hx)
    · exact ih (i + 1) _ (by omega) (by omega)
theorem pv_ckC {iv : Nat → Nat → Int32} {mp : Nat → Nat} {T : TS} (hv : pvK (srt (ClF iv mp T)) (ClF iv mp T).length 0 = false) : ∀ i, 0 < i → i ≤ T.cn → ¬ (T.e i).ck = 0 := by
  intro i h0 hi hc
  have h2 : k4 T.e i ∈ ClF iv mp T := by
    unfold ClF
    refine gA_mem (q := i) (List.mem_append_right _ ?_) _ _ _ (Nat.zero_le _) (by omega)
    unfold j4
    rw [if_pos ⟨by omega, hc⟩]
    exact List.mem_singleton.mpr rfl
  obtain ⟨j, hj, e1⟩ := mem_getD ((srt_mem _ _).mpr h2)
  rw [srt_len] at hj
  have h4 := pvK_no _ 0 hv j (Nat.zero_le _) (by omega)
  rw [e1] at h4
  unfold k4 at h4
  omega
theorem fnd_v {P : Nat → Bool} {f : Nat → Int32} : ∀ k i, (fndV P f k i = -1 ∧ ∀ t, i ≤ t → t < i + k → P t = false) ∨ ∃ t, i ≤ t ∧ t < i + k ∧ P t = true ∧ fndV P f k i = f t := by
  intro k
  induction k with
  | zero => intro i; exact Or.inl ⟨rfl, fun t h1 h2 => by omega⟩
  | succ k ih =>
    intro i
    rw [fndV]
    by_cases h : P i = true
    · rw [if_pos h]
      exact Or.inr ⟨i, Nat.le_refl _, by omega, h, rfl⟩
    · rw [if_neg h]
      rcases ih (i + 1) with ⟨z1, z2⟩ | ⟨t, t1, t2, t3, t4⟩
      · refine Or.inl ⟨z1, fun t h1 h2 => ?_⟩
        by_cases e1 : t = i
        · rw [e1]; exact Bool.eq_false_iff.mpr h
        · exact z2 t (by omega) (by omega)
      · exact Or.inr ⟨t, by omega, by omega, t3, t4⟩
theorem own_v {iv : Nat → Nat → Int32} {a : Nat → Int32} {T : TS} {n : Nat} (hX : tX a T n) (hTg : ∀ t, t < T.tn → tgR iv (T.tg t) t) (x : Int32) : fndV (ownP iv x) (iv 45) T.tn 0 = -1 ∨ ∃ i, 0 < i ∧ i ≤ T.cn ∧ fndV (ownP iv x) (iv 45) T.tn 0 = nI i := by
  rcases fnd_v (P := ownP iv x) (f := iv 45) T.tn 0 with z | ⟨t, t1, t2, t3, t4⟩
  · exact Or.inl z.1
  · rw [t4, (hTg t (by omega)).2.2]
    exact hX.2.2.2.1.1 t (by omega)
def RpC (iv2 : Nat → Nat → Int32) (mp : Nat → Nat) (a : Nat → Int32) (n : Nat) (T : TS) (kd x y v : Int32) (iv3 : Nat → Nat → Int32) : Prop :=
  (kd = nI 0 → v = ofrC iv2 mp T.cn T.tn x ∧ iv3 = iv2) ∧ (kd = nI 1 → v = nI (ClF iv2 mp T).length ∧ iv3 = iv2) ∧
  (kd = nI 2 → (fndV (ownP iv2 x) (iv2 45) T.tn 0 = -1 ∨ nmB y = false → v = -1 ∧ iv3 = iv2) ∧ (∀ i, 0 < i → i ≤ T.cn → fndV (ownP iv2 x) (iv2 45) T.tn 0 = nI i → nmB y = true → ∃ g, iv3 = va_up (ex_u2 iv2 0 9 (nI 1)) 40 g ∧ (∀ k, k < n → g k = rnT a (T.e i) y k) ∧ v = nI (if (T.e i).ck = 3 then 2 else 1))) ∧
  (kd = nI 3 → (pvK (srt (ClF iv2 mp T)) (ClF iv2 mp T).length 0 = true → v = -1 ∧ iv3 = iv2) ∧ (pvK (srt (ClF iv2 mp T)) (ClF iv2 mp T).length 0 = false → v = nI (fmL a n T (looF iv2 mp)).length ∧ FmQ 82 4 83 iv2 iv3 (fmL a n T (looF iv2 mp))))
set_option maxRecDepth 100000 in
set_option maxHeartbeats 4000000 in
theorem ct_TG_reply (l : Launch) (G : ex_G) (iv : Nat → Nat → Int32) (mp : Nat → Nat) (sp mo : Nat) (hmp : ∀ k, k < 9 → mp k < 10) (a : Nat → Int32) (n : Nat) (hA : TxA iv a n) (hTC : txC iv n) (T : TS) (hC : ClsT iv mp T) (hX : tX a T n) (hs : T.stk = []) (w9 : Nat) (hw9 : w9 ≤ 3) (x y : Int32) : CT l G 14 M_TG_reply [.ref 0, .int (nI w9), .int x, .int y] (HP iv mp sp mo) 0 0 (fun r h' => ∃ iv3 v, h' = HP iv3 mp sp mo ∧ r = some (.int v) ∧ RpC iv mp a n T (nI w9) x y v iv3) := by
  refine ex_enter (by decide) (Nat.le_of_ble_eq_true rfl) (fun v hv => by simp at hv; rcases hv with rfl | rfl | rfl | rfl <;> rfl) (fun p e s m args below meth c => ?_)
  have hn := hA.1
  have hcn : T.cn ≤ 33 := by have := hX.1.1; omega
  have htn : T.tn ≤ 33 := by have := hX.1.1; omega
  have hFa : FaC iv (ClF iv mp T) := hC.2.2.2.2
  have hFl : (ClF iv mp T).length ≤ 200 := clF_len hX.1 hn
  have hpv : prvF (iv 81) (ClF iv mp T).length 0 = pvK (srt (ClF iv mp T)) (ClF iv mp T).length 0 := prv_pv _ _ (fun j _ hj => ⟨hFa.2.1 j (by omega), hFa.2.2 _ ((srt_mem _ _).mp (getD_mem (by rw [srt_len]; omega)))⟩)
  refine ex_iload_n (pc := 0) (i := 1) d_TG_reply_0 rfl rfl ?_
  by_cases w1_0 : (nI w9).toInt = 0
  · refine ex_tableIn (pc := 1) (off := 27) (tgt := 28) d_TG_reply_1 (by omega) (by omega) (by rw [w1_0]; rfl) rfl ?_
    refine ex_aload_n (pc := 28) (i := 0) d_TG_reply_28 rfl rfl ?_
    refine ex_iload_n (pc := 29) (i := 2) d_TG_reply_29 rfl rfl ?_
    refine ex_callV (pc := 30) (M' := M_TG_offerAt) (as := [.int x]) (st := []) d_TG_reply_30 MW_TG_offerAt MI_TG_offerAt LK_TG_189 (Nat.le_of_ble_eq_true rfl) rfl rfl rfl (ct_TG_offerAt l G iv mp sp mo hmp T.cn T.tn hC.1 hcn hC.2.1 htn x) (ex_lt_rm (by decide)) ⟨Nat.le_refl _, Nat.le_refl _⟩ rfl rfl (Nat.le_of_ble_eq_true rfl) ?_
    rintro _ _ ⟨rfl, rfl⟩
    refine ex_iret (ty := .int) d_TG_reply_33 rfl rfl rfl (Nat.le_refl _) ?_
    have hk : w9 = 0 := by have := w1_0; rw [nI_t (by omega)] at this; omega
    exact ⟨iv, _, rfl, rfl, fun _ => ⟨rfl, rfl⟩, fun z => absurd z (by rw [hk]; decide), fun z => absurd z (by rw [hk]; decide), fun z => absurd z (by rw [hk]; decide)⟩
  by_cases w1_1 : (nI w9).toInt = 1
  · refine ex_tableIn (pc := 1) (off := 33) (tgt := 34) d_TG_reply_1 (by omega) (by omega) (by rw [w1_1]; rfl) rfl ?_
    refine ex_aload_n (pc := 34) (i := 0) d_TG_reply_34 rfl rfl ?_
    refine ex_getr (pc := 35) 0 5 d_TG_reply_35 FL_TG_51 (Nat.le_of_ble_eq_true rfl) rfl rfl ?_
    refine ex_getx (pc := 38) 4 1 (nI (ClF iv mp T).length) d_TG_reply_38 FL_TG_192 (Nat.le_of_ble_eq_true rfl) rfl hFa.1 ?_
    refine ex_iret (ty := .int) d_TG_reply_41 rfl rfl rfl (Nat.le_refl _) ?_
    have hk : w9 = 1 := by have := w1_1; rw [nI_t (by omega)] at this; omega
    exact ⟨iv, _, rfl, rfl, fun z => absurd z (by rw [hk]; decide), fun _ => ⟨rfl, rfl⟩, fun z => absurd z (by rw [hk]; decide), fun z => absurd z (by rw [hk]; decide)⟩
  by_cases w1_2 : (nI w9).toInt = 2
  · refine ex_tableIn (pc := 1) (off := 41) (tgt := 42) d_TG_reply_1 (by omega) (by omega) (by rw [w1_2]; rfl) rfl ?_
    refine ex_aload_n (pc := 42) (i := 0) d_TG_reply_42 rfl rfl ?_
    refine ex_iload_n (pc := 43) (i := 2) d_TG_reply_43 rfl rfl ?_
    refine ex_iload_n (pc := 44) (i := 3) d_TG_reply_44 rfl rfl ?_
    refine ex_callV (pc := 45) (M' := M_TG_renameAt) (as := [.int x, .int y]) (st := []) d_TG_reply_45 MW_TG_renameAt MI_TG_renameAt LK_TG_193 (Nat.le_of_ble_eq_true rfl) rfl rfl rfl (ct_TG_renameAt l G iv mp sp mo a n hA T hC.2.1 hC.2.2.1 hX hs x y _ rfl (own_v hX hC.2.2.1 x)) (ex_lt_rm (by decide)) ⟨Nat.le_refl _, Nat.le_refl _⟩ rfl rfl (Nat.le_of_ble_eq_true rfl) ?_
    rintro r5 h5 ⟨hn5, hy5⟩
    obtain ⟨iv5, v5, rfl, rfl, hz5⟩ : ∃ iv5 v5, h5 = HP iv5 mp sp mo ∧ r5 = some (.int v5) ∧ ((fndV (ownP iv x) (iv 45) T.tn 0 = -1 ∨ nmB y = false → v5 = -1 ∧ iv5 = iv) ∧ (∀ i, 0 < i → i ≤ T.cn → fndV (ownP iv x) (iv 45) T.tn 0 = nI i → nmB y = true → ∃ g, iv5 = va_up (ex_u2 iv 0 9 (nI 1)) 40 g ∧ (∀ k, k < n → g k = rnT a (T.e i) y k) ∧ v5 = nI (if (T.e i).ck = 3 then 2 else 1))) := by
      by_cases hb : fndV (ownP iv x) (iv 45) T.tn 0 = -1 ∨ nmB y = false
      · obtain ⟨z1, z2⟩ := hn5 hb
        refine ⟨iv, -1, z2, z1, fun _ => ⟨rfl, rfl⟩, fun i i1 i2 i3 i4 => ?_⟩
        rcases hb with q | q
        · exact absurd (q.symm.trans i3) (nI_ne1 (by omega))
        · rw [i4] at q; cases q
      · have hy : nmB y = true := Classical.byContradiction (fun q => hb (Or.inr (Bool.eq_false_iff.mpr q)))
        obtain ⟨i, i1, i2, i3⟩ := (own_v hX hC.2.2.1 x).resolve_left (fun q => hb (Or.inl q))
        obtain ⟨g, z1, z2, z3⟩ := hy5 i i1 i2 i3 hy
        refine ⟨_, _, z1, z3, fun q => absurd q hb, fun i' j1 j2 j3 _ => ?_⟩
        have : i = i' := (n_eq (by omega) (by omega)).mp (i3.symm.trans j3)
        subst this
        exact ⟨g, rfl, z2, rfl⟩
    refine ex_iret (ty := .int) d_TG_reply_48 rfl rfl rfl (Nat.le_refl _) ?_
    have hk : w9 = 2 := by have := w1_2; rw [nI_t (by omega)] at this; omega
    exact ⟨iv5, v5, rfl, rfl, fun z => absurd z (by rw [hk]; decide), fun z => absurd z (by rw [hk]; decide), fun _ => hz5, fun z => absurd z (by rw [hk]; decide)⟩
  refine ex_tableOut (pc := 1) (tgt := 49) d_TG_reply_1 (by omega) rfl ?_
  refine ex_aload_n (pc := 49) (i := 0) d_TG_reply_49 rfl rfl ?_
  refine ex_getr (pc := 50) 0 5 d_TG_reply_50 FL_TG_51 (Nat.le_of_ble_eq_true rfl) rfl rfl ?_
  refine ex_callV (pc := 53) (M' := M_Fa_preventForm) (as := []) (st := []) d_TG_reply_53 MW_Fa_preventForm MI_Fa_preventForm LK_TG_196 (Nat.le_of_ble_eq_true rfl) rfl rfl rfl (ct_Fa_preventForm l G iv mp sp mo (ClF iv mp T).length hFa.1 (by omega)) (ex_lt_rm (by decide)) ⟨Nat.le_refl _, Nat.le_refl _⟩ rfl rfl (Nat.le_of_ble_eq_true rfl) ?_
  rintro _ _ ⟨rfl, rfl⟩
  refine ex_top (congrArg b2i hpv) ?_
  refine ex_if_eq (pc := 56) (tgt := 63) d_TG_reply_56 rfl (fun c56 => ?_) (fun c56 => ?_)
  · refine ex_aload_n (pc := 63) (i := 0) d_TG_reply_63 rfl rfl ?_
    refine ex_getr (pc := 64) 0 6 d_TG_reply_64 FL_TG_60 (Nat.le_of_ble_eq_true rfl) rfl rfl ?_
    refine ex_callV (pc := 67) (M' := M_Fo_formAnew) (as := []) (st := []) d_TG_reply_67 MW_Fo_formAnew MI_Fo_formAnew LK_TG_199 (Nat.le_of_ble_eq_true rfl) rfl rfl rfl (ct_Fo_formAnew l G iv mp sp mo hmp a n hA hTC T hC hX hs (pv_ckC (b2i_0 c56))) (ex_lt_rm (by decide)) ⟨Nat.le_refl _, Nat.le_refl _⟩ rfl rfl (Nat.le_of_ble_eq_true rfl) ?_
    rintro _ _ ⟨iv6, rfl, rfl, hq6⟩
    refine ex_iret (ty := .int) d_TG_reply_70 rfl rfl rfl (Nat.le_refl _) ?_
    have hk : w9 = 3 := by rw [nI_t (by omega)] at w1_0 w1_1 w1_2; omega
    have hp := b2i_0 c56
    exact ⟨iv6, _, rfl, rfl, fun z => absurd z (by rw [hk]; decide), fun z => absurd z (by rw [hk]; decide), fun z => absurd z (by rw [hk]; decide), fun _ => ⟨fun z => (by rw [hp] at z; cases z), fun _ => ⟨rfl, hq6⟩⟩⟩
  · refine ex_iconst (pc := 59) (v := (-1)) d_TG_reply_59 (by decide) ?_
    refine ex_goto (pc := 60) (tgt := 70) d_TG_reply_60 rfl ?_
    refine ex_iret (ty := .int) d_TG_reply_70 rfl rfl rfl (Nat.le_refl _) ?_
    have hk : w9 = 3 := by rw [nI_t (by omega)] at w1_0 w1_1 w1_2; omega
    have hp := b2i_1 c56
    exact ⟨iv, _, rfl, rfl, fun z => absurd z (by rw [hk]; decide), fun z => absurd z (by rw [hk]; decide), fun z => absurd z (by rw [hk]; decide), fun _ => ⟨fun _ => ⟨rfl, rfl⟩, fun z => (by rw [hp] at z; cases z)⟩⟩

