/-! work (class) -/
def insA (a : Nat → Int32) (n t : Nat) (y : Int32) : Nat → Int32 := fun k => if k < n + 1 then insF a t y k else -1
def delA (a : Nat → Int32) (n t u : Nat) : Nat → Int32 := fun k => if k < n - u then delF a t u k else -1
theorem ins_cg {f a : Nat → Int32} {n t : Nat} {y : Int32} (ht : t ≤ n) (h : ∀ k, k < n → f k = a k) : ∀ k, k < n + 1 → insF f t y k = insF a t y k := by
  intro k hk
  unfold insF
  by_cases h1 : k < t
  · rw [if_pos h1, if_pos h1, h k (by omega)]
  · rw [if_neg h1, if_neg h1]
    by_cases h2 : k = t
    · rw [if_pos h2, if_pos h2]
    · rw [if_neg h2, if_neg h2, h (k - 1) (by omega)]
theorem del_cg {f a : Nat → Int32} {n t u : Nat} (htu : t + u ≤ n) (h : ∀ k, k < n → f k = a k) : ∀ k, k < n - u → delF f t u k = delF a t u k := by
  intro k hk
  unfold delF
  by_cases h1 : k < t
  · rw [if_pos h1, if_pos h1, h k (by omega)]
  · rw [if_neg h1, if_neg h1, h (k + u) (by omega)]
theorem ins_wr {a : Nat → Int32} {n t : Nat} {y : Int32} (hy : wrB y = true) (ht : t ≤ n) (h : ∀ k, k < n → wrB (a k) = true) : ∀ k, k < n + 1 → wrB (insF a t y k) = true := by
  intro k hk
  unfold insF
  by_cases h1 : k < t
  · rw [if_pos h1]; exact h k (by omega)
  · rw [if_neg h1]
    by_cases h2 : k = t
    · rw [if_pos h2]; exact hy
    · rw [if_neg h2]; exact h (k - 1) (by omega)
theorem del_wr {a : Nat → Int32} {n t u : Nat} (htu : t + u ≤ n) (h : ∀ k, k < n → wrB (a k) = true) : ∀ k, k < n - u → wrB (delF a t u k) = true := by
  intro k hk
  unfold delF
  by_cases h1 : k < t
  · rw [if_pos h1]; exact h k (by omega)
  · rw [if_neg h1]; exact h (k + u) (by omega)
/-- the class's text behind a change, kd 4 an insertion -/
def ChC (iv1 iv3 : Nat → Nat → Int32) (a : Nat → Int32) (n : Nat) (b : Bool) (x y : Int32) : Prop := (∀ q j, q ≠ 40 → (q ≠ 39 ∨ j ≠ 1) → (q ≠ 0 ∨ j ≠ 9) → iv3 q j = iv1 q j) ∧ iv3 0 9 = nI 1 ∧
  (b = true → (inOk n x y → TxA iv3 (insA a n x.toInt.toNat y) (n + 1) ∧ txC iv3 (n + 1)) ∧ (¬ inOk n x y → TxA iv3 a n ∧ txC iv3 n)) ∧
  (b = false → (delOk n x y → TxA iv3 (delA a n x.toInt.toNat y.toInt.toNat) (n - y.toInt.toNat) ∧ txC iv3 (n - y.toInt.toNat)) ∧ (¬ delOk n x y → TxA iv3 a n ∧ txC iv3 n))
theorem ch_same {iv1 : Nat → Nat → Int32} {a : Nat → Int32} {n : Nat} (hA : TxA iv1 a n) (hTC : txC iv1 n) : TxA (ex_u2 iv1 0 9 (nI 1)) a n ∧ txC (ex_u2 iv1 0 9 (nI 1)) n := ⟨⟨hA.1, (u2n (Or.inl (by decide))).trans hA.2.1, fun k hk => (u2n (Or.inl (by decide))).trans (hA.2.2.1 k hk), hA.2.2.2⟩, fun k hk => by rw [u2n (Or.inl (by decide))]; exact hTC k hk⟩
theorem ch_cls {iv1 : Nat → Nat → Int32} {a : Nat → Int32} {n : Nat} {mp : Nat → Nat} {sp mo : Nat} (hA : TxA iv1 a n) (hTC : txC iv1 n) {kd x y : Int32} {b : Bool} (hb : (b = true ∧ kd = nI 4) ∨ (b = false ∧ ¬ kd = nI 4)) {h' : ex_H}
    (hP : (kd = nI 4 → (inOk n x y → ∃ g, h' = HP (ex_u2 (ex_u2 (va_up iv1 40 g) 39 1 (nI (n + 1))) 0 9 (nI 1)) mp sp mo ∧ ∀ k, k < n + 1 → g k = insF (iv1 40) x.toInt.toNat y k) ∧ (¬ inOk n x y → h' = HP (ex_u2 iv1 0 9 (nI 1)) mp sp mo)) ∧ (¬ kd = nI 4 → (delOk n x y → ∃ g, h' = HP (ex_u2 (ex_u2 (va_up iv1 40 g) 39 1 (nI (n - y.toInt.toNat))) 0 9 (nI 1)) mp sp mo ∧ ∀ k, k < n - y.toInt.toNat → g k = delF (iv1 40) x.toInt.toNat y.toInt.toNat k) ∧ (¬ delOk n x y → h' = HP (ex_u2 iv1 0 9 (nI 1)) mp sp mo))) :
    ∃ iv3, h' = HP iv3 mp sp mo ∧ ChC iv1 iv3 a n b x y := by
  have hwr : ∀ k, k < n → wrB (a k) = true := fun k hk => by rw [← hA.2.2.1 k hk]; exact hTC k hk
  have hgen : ∀ (g : Nat → Int32) (n2 : Nat) (a2 : Nat → Int32), n2 ≤ 100 → (∀ k, k < n2 → g k = a2 k) → (∀ k, n2 ≤ k → a2 k = -1) → (∀ k, k < n2 → wrB (a2 k) = true) → TxA (ex_u2 (ex_u2 (va_up iv1 40 g) 39 1 (nI n2)) 0 9 (nI 1)) a2 n2 ∧ txC (ex_u2 (ex_u2 (va_up iv1 40 g) 39 1 (nI n2)) 0 9 (nI 1)) n2 ∧ ∀ q j, q ≠ 40 → (q ≠ 39 ∨ j ≠ 1) → (q ≠ 0 ∨ j ≠ 9) → ex_u2 (ex_u2 (va_up iv1 40 g) 39 1 (nI n2)) 0 9 (nI 1) q j = iv1 q j := by
    intro g n2 a2 h1 h2 h3 h4
    have e40 : ∀ k, ex_u2 (ex_u2 (va_up iv1 40 g) 39 1 (nI n2)) 0 9 (nI 1) 40 k = g k := fun k => by
      rw [u2n (Or.inl (by decide)), u2n (Or.inl (by decide)), va_up_self]
    refine ⟨⟨h1, ?_, fun k hk => (e40 k).trans (h2 k hk), h3⟩, fun k hk => ?_, fun q j q1 q2 q3 => ?_⟩
    · rw [u2n (Or.inl (by decide)), u2s]
    · rw [e40 k, h2 k hk]; exact h4 k hk
    · rw [u2n q3, u2n q2, va_up_ne _ _ q1]
  have hs := ch_same hA hTC
  have hn := hA.1
  rcases hb with ⟨rfl, hk⟩ | ⟨rfl, hk⟩
  · by_cases ho : inOk n x y
    · obtain ⟨g, e1, e2⟩ := (hP.1 hk).1 ho
      have ht : x.toInt.toNat ≤ n := by have := ho.2.1; have := ho.1; omega
      obtain ⟨t1, t2, t3⟩ := hgen g (n + 1) (insA a n x.toInt.toNat y) (by have := ho.2.2.2; omega) (fun k hk => by rw [e2 k hk]; unfold insA; rw [if_pos hk]; exact ins_cg ht hA.2.2.1 k hk) (fun k hk => if_neg (by omega)) (fun k hk => by unfold insA; rw [if_pos hk]; exact ins_wr ho.2.2.1 ht hwr k hk)
      exact ⟨_, e1, t3, u2s, fun _ => ⟨fun _ => ⟨t1, t2⟩, fun z => absurd ho z⟩, (fun z => by cases z)⟩
    · exact ⟨_, (hP.1 hk).2 ho, fun q j _ _ q3 => u2n q3, u2s, fun _ => ⟨fun z => absurd z ho, fun _ => hs⟩, (fun z => by cases z)⟩
  · by_cases ho : delOk n x y
    · obtain ⟨g, e1, e2⟩ := (hP.2 hk).1 ho
      have ht : x.toInt.toNat + y.toInt.toNat ≤ n := by have := ho.2.2; have := ho.1; have := ho.2.1; omega
      obtain ⟨t1, t2, t3⟩ := hgen g (n - y.toInt.toNat) (delA a n x.toInt.toNat y.toInt.toNat) (by omega) (fun k hk => by rw [e2 k hk]; unfold delA; rw [if_pos hk]; exact del_cg ht hA.2.2.1 k hk) (fun k hk => if_neg (by omega)) (fun k hk => by unfold delA; rw [if_pos hk]; exact del_wr ht hwr k hk)
      exact ⟨_, e1, t3, u2s, (fun z => by cases z), fun _ => ⟨fun _ => ⟨t1, t2⟩, fun z => absurd ho z⟩⟩
    · exact ⟨_, (hP.2 hk).2 ho, fun q j _ _ q3 => u2n q3, u2s, (fun z => by cases z), fun _ => ⟨fun z => absurd z ho, fun _ => hs⟩⟩
theorem inOut_o {iv : Nat → Nat → Int32} {m row q j : Nat} (h : q < 84 ∨ 88 < q) : inOut iv m row q j = iv q j := by
  unfold inOut shf
  have hS : ¬ (S_in q = true ∧ row ≤ j ∧ j < m - 1) := fun z => by
    have := z.1
    unfold S_in at this
    rw [Bool.and_eq_true, decide_eq_true_eq, decide_eq_true_eq] at this
    omega
  rw [if_neg hS, u2n (Or.inl (by omega))]
/-- the class's tree lies in the cells below 84 -/
theorem cls_fr2 {iv iv1 : Nat → Nat → Int32} {mp : Nat → Nat} {T : TS} (hmp : ∀ k, k < 9 → mp k < 10) (hcn : T.cn ≤ 33) (hg : ∀ q j, q < 84 → iv1 q j = iv q j) (h : ClsT iv mp T) : ClsT iv1 mp T := by
  have h80 : ∀ q j, q < 80 → iv1 q j = iv q j := fun q j hq => hg q j (by omega)
  obtain ⟨h1, h2, h3, h4, h5⟩ := h
  have e1 : gA (fun i => jq (prB iv1 mp) (fbB iv1 mp) (alwF iv1 mp T.cn) T.e i ++ j4 T.e i) (T.cn + 1) 0 T.fl = gA (fun i => jq (prB iv mp) (fbB iv mp) (alwF iv mp T.cn) T.e i ++ j4 T.e i) (T.cn + 1) 0 T.fl := by
    refine gA_cg _ _ _ (fun i _ hi => ?_)
    have m1 : elMo iv1 mp i = elMo iv mp i := by unfold elMo; rw [h80 _ 0 (by omega)]
    have m2 : prB iv1 mp i = prB iv mp i := by unfold prB; rw [m1, (mo_cg h80 (j := elMo iv mp i) (hmp _ (rowN_lt _))).1]
    have m3 : fbB iv1 mp i = fbB iv mp i := by unfold fbB fbF; rw [m1, (mo_cg h80 (j := elMo iv mp i) (hmp _ (rowN_lt _))).1]
    have m4 : alwF iv1 mp T.cn i = alwF iv mp T.cn i := alw_cg h80 hmp hcn (by omega)
    unfold jq
    rw [m2, m3, m4]
  refine ⟨(hg _ _ (by decide)).trans h1, (hg _ _ (by decide)).trans h2, fun t ht => ?_, fun i hi => ⟨?_, ?_⟩, ?_⟩
  · have := h3 t ht
    unfold tgR at this ⊢
    rw [hg _ _ (by decide), hg _ _ (by decide), hg _ _ (by decide)]
    exact this
  · have := (h4 i hi).1
    unfold elR at this ⊢
    rw [hg _ 0 (by omega), hg _ 1 (by omega), hg _ 2 (by omega), hg _ 3 (by omega), hg _ 4 (by omega), hg _ 7 (by omega), hg _ 9 (by omega)]
    exact this
  · have := (h4 i hi).2
    unfold elD at this ⊢
    rw [hg _ 5 (by omega), hg _ 6 (by omega), hg _ 8 (by omega)]
    exact this
  · rw [e1]
    exact faC_cg h5 (hg _ _ (by decide)) (fun i => hg _ _ (by decide))
set_option maxRecDepth 100000 in
set_option maxHeartbeats 4000000 in
theorem ct_TG_work0 (l : Launch) (G : ex_G) (iv : Nat → Nat → Int32) (mp : Nat → Nat) (sp mo : Nat) (hm : iv 84 4 = nI 0) : CT l G 15 M_TG_work [.ref 0] (HP iv mp sp mo) 0 0 (fun r h' => h' = HP iv mp sp mo ∧ r = some (.int (-1))) := by
  refine ex_enter (by decide) (Nat.le_of_ble_eq_true rfl) (fun v hv => by simp at hv; rcases hv with rfl <;> rfl) (fun p e s m args below meth c => ?_)
  refine ex_aload_n (pc := 0) (i := 0) d_TG_work_0 rfl rfl ?_
  refine ex_getr (pc := 1) 0 7 d_TG_work_1 FL_TG_67 (Nat.le_of_ble_eq_true rfl) rfl rfl ?_
  refine ex_getx (pc := 4) 6 4 (nI 0) d_TG_work_4 FL_TG_127 (Nat.le_of_ble_eq_true rfl) rfl hm ?_
  refine ex_if_ne (pc := 7) (tgt := 12) d_TG_work_7 rfl (fun c7 => ?_) (fun c7 => ?_)
  · exact absurd rfl c7
  · refine ex_iconst (pc := 10) (v := (-1)) d_TG_work_10 (by decide) ?_
    refine ex_iret (ty := .int) d_TG_work_11 rfl rfl rfl (Nat.le_refl _) ?_
    exact ⟨rfl, rfl⟩

set_option maxRecDepth 100000 in
set_option maxHeartbeats 4000000 in
theorem ct_TG_workC (l : Launch) (G : ex_G) (iv : Nat → Nat → Int32) (mp : Nat → Nat) (sp mo : Nat) (m9 : Nat) (hm : iv 84 4 = nI m9) (hm12 : m9 ≤ 12) (h0 : 0 < m9) (a : Nat → Int32) (n : Nat) (hA : TxA iv a n) (hTC : txC iv n) (b : Bool) (hb : (b = true ∧ iv 85 0 = nI 4) ∨ (b = false ∧ ¬ iv 85 0 = nI 4)) (h86 : iv 86 0 = nI 0) : CT l G 15 M_TG_work [.ref 0] (HP iv mp sp mo) 0 0 (fun r h' => ∃ iv3, h' = HP iv3 mp sp mo ∧ r = some (.int (nI 0)) ∧ ChC (inOut iv m9 0) iv3 a n b (iv 87 0) (iv 88 0)) := by
  refine ex_enter (by decide) (Nat.le_of_ble_eq_true rfl) (fun v hv => by simp at hv; rcases hv with rfl <;> rfl) (fun p e s m args below meth c => ?_)
  have hn := hA.1
  have hA1 : TxA (inOut iv m9 0) a n := ⟨hA.1, (inOut_o (Or.inl (by decide))).trans hA.2.1, fun k hk => (inOut_o (Or.inl (by decide))).trans (hA.2.2.1 k hk), hA.2.2.2⟩
  have hTC1 : txC (inOut iv m9 0) n := fun k hk => by rw [inOut_o (Or.inl (by decide))]; exact hTC k hk
  refine ex_aload_n (pc := 0) (i := 0) d_TG_work_0 rfl rfl ?_
  refine ex_getr (pc := 1) 0 7 d_TG_work_1 FL_TG_67 (Nat.le_of_ble_eq_true rfl) rfl rfl ?_
  refine ex_getx (pc := 4) 6 4 (nI m9) d_TG_work_4 FL_TG_127 (Nat.le_of_ble_eq_true rfl) rfl hm ?_
  refine ex_if_ne (pc := 7) (tgt := 12) d_TG_work_7 rfl (fun c7 => ?_) (fun c7 => ?_)
  · refine ex_aload_n (pc := 12) (i := 0) d_TG_work_12 rfl rfl ?_
    refine ex_getr (pc := 13) 0 7 d_TG_work_13 FL_TG_67 (Nat.le_of_ble_eq_true rfl) rfl rfl ?_
    refine ex_getr (pc := 16) 6 0 d_TG_work_16 FL_TG_131 (Nat.le_of_ble_eq_true rfl) rfl rfl ?_
    refine ex_iconst (pc := 19) (v := (nI 0)) d_TG_work_19 (by decide) ?_
    refine ex_ialdx (pc := 20) 0 (iv 85 0) d_TG_work_20 (Nat.le_of_ble_eq_true rfl) rfl rfl rfl (nI_t (by omega)) (show 0 < 12 by omega) rfl ?_
    refine ex_istore_n (pc := 21) (i := 1) d_TG_work_21 rfl (by decide) ?_
    refine ex_aload_n (pc := 22) (i := 0) d_TG_work_22 rfl rfl ?_
    refine ex_getr (pc := 23) 0 7 d_TG_work_23 FL_TG_67 (Nat.le_of_ble_eq_true rfl) rfl rfl ?_
    refine ex_getr (pc := 26) 6 1 d_TG_work_26 FL_TG_135 (Nat.le_of_ble_eq_true rfl) rfl rfl ?_
    refine ex_iconst (pc := 29) (v := (nI 0)) d_TG_work_29 (by decide) ?_
    refine ex_ialdx (pc := 30) 0 (iv 86 0) d_TG_work_30 (Nat.le_of_ble_eq_true rfl) rfl rfl rfl (nI_t (by omega)) (show 0 < 12 by omega) rfl ?_
    refine ex_istore_n (pc := 31) (i := 2) d_TG_work_31 rfl (by decide) ?_
    refine ex_aload_n (pc := 32) (i := 0) d_TG_work_32 rfl rfl ?_
    refine ex_getr (pc := 33) 0 7 d_TG_work_33 FL_TG_67 (Nat.le_of_ble_eq_true rfl) rfl rfl ?_
    refine ex_getr (pc := 36) 6 2 d_TG_work_36 FL_TG_138 (Nat.le_of_ble_eq_true rfl) rfl rfl ?_
    refine ex_iconst (pc := 39) (v := (nI 0)) d_TG_work_39 (by decide) ?_
    refine ex_ialdx (pc := 40) 0 (iv 87 0) d_TG_work_40 (Nat.le_of_ble_eq_true rfl) rfl rfl rfl (nI_t (by omega)) (show 0 < 12 by omega) rfl ?_
    refine ex_istore_n (pc := 41) (i := 3) d_TG_work_41 rfl (by decide) ?_
    refine ex_aload_n (pc := 42) (i := 0) d_TG_work_42 rfl rfl ?_
    refine ex_getr (pc := 43) 0 7 d_TG_work_43 FL_TG_67 (Nat.le_of_ble_eq_true rfl) rfl rfl ?_
    refine ex_getr (pc := 46) 6 3 d_TG_work_46 FL_TG_141 (Nat.le_of_ble_eq_true rfl) rfl rfl ?_
    refine ex_iconst (pc := 49) (v := (nI 0)) d_TG_work_49 (by decide) ?_
    refine ex_ialdx (pc := 50) 0 (iv 88 0) d_TG_work_50 (Nat.le_of_ble_eq_true rfl) rfl rfl rfl (nI_t (by omega)) (show 0 < 12 by omega) rfl ?_
    refine ex_istore (pc := 51) d_TG_work_51 (by decide) ?_
    refine ex_aload_n (pc := 53) (i := 0) d_TG_work_53 rfl rfl ?_
    refine ex_getr (pc := 54) 0 7 d_TG_work_54 FL_TG_67 (Nat.le_of_ble_eq_true rfl) rfl rfl ?_
    refine ex_iconst (pc := 57) (v := (nI 0)) d_TG_work_57 (by decide) ?_
    refine ex_callV (pc := 58) (M' := M_In_takeOut) (as := [.int (nI 0)]) (st := []) d_TG_work_58 MW_In_takeOut MI_In_takeOut LK_TG_124 (Nat.le_of_ble_eq_true rfl) rfl rfl rfl (ct_In_takeOut l G iv mp sp mo (nI 0) m9 hm hm12) (ex_lt_rm (by decide)) ⟨Nat.le_refl _, Nat.le_refl _⟩ rfl rfl (Nat.le_of_ble_eq_true rfl) ?_
    rintro _ _ ⟨rfl, rfl⟩
    refine ex_heap (show _ = HP (inOut iv m9 0) mp sp mo from if_pos (show 0 ≤ (nI 0).toInt ∧ (nI 0).toInt < (m9 : Int) by rw [nI_t (by omega)]; omega)) ?_
    refine ex_pop (pc := 61) d_TG_work_61 rfl ?_
    refine ex_iload_n (pc := 62) (i := 2) d_TG_work_62 rfl rfl ?_
    refine ex_if_ne (pc := 63) (tgt := 76) d_TG_work_63 rfl (fun c63 => ?_) (fun c63 => ?_)
    · exact absurd h86 c63
    · refine ex_aload_n (pc := 66) (i := 0) d_TG_work_66 rfl rfl ?_
      refine ex_iload_n (pc := 67) (i := 1) d_TG_work_67 rfl rfl ?_
      refine ex_iload_n (pc := 68) (i := 3) d_TG_work_68 rfl rfl ?_
      refine ex_iload (pc := 69) d_TG_work_69 rfl ?_
      refine ex_callV (pc := 71) (M' := M_TG_change) (as := [.int (iv 85 0), .int (iv 87 0), .int (iv 88 0)]) (st := []) d_TG_work_71 MW_TG_change MI_TG_change LK_TG_144 (Nat.le_of_ble_eq_true rfl) rfl rfl rfl (ct_TG_change l G (inOut iv m9 0) mp sp mo n (iv 85 0) (iv 87 0) (iv 88 0) hA1.2.1 hn hTC1) (ex_lt_rm (by decide)) ⟨Nat.le_refl _, Nat.le_refl _⟩ rfl rfl (Nat.le_of_ble_eq_true rfl) ?_
      rintro _ h5 ⟨rfl, hP5⟩
      obtain ⟨iv3, rfl, hCh⟩ := ch_cls hA1 hTC1 hb hP5
      refine ex_iconst (pc := 74) (v := (nI 0)) d_TG_work_74 (by decide) ?_
      refine ex_iret (ty := .int) d_TG_work_75 rfl rfl rfl (Nat.le_refl _) ?_
      exact ⟨iv3, rfl, rfl, hCh⟩
  · exact absurd ((n_eq (by omega) (by omega)).mp (show nI m9 = nI 0 from c7)) (by omega)

set_option maxRecDepth 100000 in
set_option maxHeartbeats 4000000 in
theorem ct_TG_workR (l : Launch) (G : ex_G) (iv : Nat → Nat → Int32) (mp : Nat → Nat) (sp mo : Nat) (m9 : Nat) (hm : iv 84 4 = nI m9) (hm12 : m9 ≤ 12) (h0 : 0 < m9) (hmp : ∀ k, k < 9 → mp k < 10) (a : Nat → Int32) (n : Nat) (hA : TxA iv a n) (hTC : txC iv n) (hst : iv 0 9 = 0 → ClsT iv mp (tAll a n)) (w9 t9 nx : Nat) (hw : w9 ≤ 3) (h85 : iv 85 0 = nI w9) (ht1 : 1 ≤ t9) (ht2 : t9 ≤ 100000) (h86 : iv 86 0 = nI t9) (h89 : iv 89 2 = nI nx) (hnx : nx < 8) : CT l G 15 M_TG_work [.ref 0] (HP iv mp sp mo) 0 0 (fun r h' => ∃ iv2 iv3 v, h' = HP (anKeep iv3 nx (nI t9) v) mp sp mo ∧ r = some (.int (nI t9)) ∧ ClsT iv2 mp (tAll a n) ∧ iv2 0 9 = nI 0 ∧ (∀ q j, (q ≠ 0 ∨ j ≠ 9) → (q < 41 ∨ q = 42 ∨ 82 ≤ q) → iv2 q j = (inOut iv m9 0) q j) ∧ RpC iv2 mp a n (tAll a n) (nI w9) (iv 87 0) (iv 88 0) v iv3) := by
  refine ex_enter (by decide) (Nat.le_of_ble_eq_true rfl) (fun v hv => by simp at hv; rcases hv with rfl <;> rfl) (fun p e s m args below meth c => ?_)
  have hn := hA.1
  have hA1 : TxA (inOut iv m9 0) a n := ⟨hA.1, (inOut_o (Or.inl (by decide))).trans hA.2.1, fun k hk => (inOut_o (Or.inl (by decide))).trans (hA.2.2.1 k hk), hA.2.2.2⟩
  have hTC1 : txC (inOut iv m9 0) n := fun k hk => by rw [inOut_o (Or.inl (by decide))]; exact hTC k hk
  have hTX := tX_all hA.1 hA.2.2.2
  have hcl1 : ∀ T : TS, T.cn ≤ 33 → ClsT iv mp T → ClsT (inOut iv m9 0) mp T := fun T hT hc => cls_fr2 hmp hT (fun q j hq => inOut_o (Or.inl hq)) hc
  have hst1 : (inOut iv m9 0) 0 9 = 0 → ClsT (inOut iv m9 0) mp (tAll a n) := fun z => hcl1 _ (by have := hTX.1.1.1; omega) (hst ((inOut_o (Or.inl (by decide))).symm.trans z))
  refine ex_aload_n (pc := 0) (i := 0) d_TG_work_0 rfl rfl ?_
  refine ex_getr (pc := 1) 0 7 d_TG_work_1 FL_TG_67 (Nat.le_of_ble_eq_true rfl) rfl rfl ?_
  refine ex_getx (pc := 4) 6 4 (nI m9) d_TG_work_4 FL_TG_127 (Nat.le_of_ble_eq_true rfl) rfl hm ?_
  refine ex_if_ne (pc := 7) (tgt := 12) d_TG_work_7 rfl (fun c7 => ?_) (fun c7 => ?_)
  · refine ex_aload_n (pc := 12) (i := 0) d_TG_work_12 rfl rfl ?_
    refine ex_getr (pc := 13) 0 7 d_TG_work_13 FL_TG_67 (Nat.le_of_ble_eq_true rfl) rfl rfl ?_
    refine ex_getr (pc := 16) 6 0 d_TG_work_16 FL_TG_131 (Nat.le_of_ble_eq_true rfl) rfl rfl ?_
    refine ex_iconst (pc := 19) (v := (nI 0)) d_TG_work_19 (by decide) ?_
    refine ex_ialdx (pc := 20) 0 (nI w9) d_TG_work_20 (Nat.le_of_ble_eq_true rfl) rfl rfl rfl (nI_t (by omega)) (show 0 < 12 by omega) h85 ?_
    refine ex_istore_n (pc := 21) (i := 1) d_TG_work_21 rfl (by decide) ?_
    refine ex_aload_n (pc := 22) (i := 0) d_TG_work_22 rfl rfl ?_
    refine ex_getr (pc := 23) 0 7 d_TG_work_23 FL_TG_67 (Nat.le_of_ble_eq_true rfl) rfl rfl ?_
    refine ex_getr (pc := 26) 6 1 d_TG_work_26 FL_TG_135 (Nat.le_of_ble_eq_true rfl) rfl rfl ?_
    refine ex_iconst (pc := 29) (v := (nI 0)) d_TG_work_29 (by decide) ?_
    refine ex_ialdx (pc := 30) 0 (nI t9) d_TG_work_30 (Nat.le_of_ble_eq_true rfl) rfl rfl rfl (nI_t (by omega)) (show 0 < 12 by omega) h86 ?_
    refine ex_istore_n (pc := 31) (i := 2) d_TG_work_31 rfl (by decide) ?_
    refine ex_aload_n (pc := 32) (i := 0) d_TG_work_32 rfl rfl ?_
    refine ex_getr (pc := 33) 0 7 d_TG_work_33 FL_TG_67 (Nat.le_of_ble_eq_true rfl) rfl rfl ?_
    refine ex_getr (pc := 36) 6 2 d_TG_work_36 FL_TG_138 (Nat.le_of_ble_eq_true rfl) rfl rfl ?_
    refine ex_iconst (pc := 39) (v := (nI 0)) d_TG_work_39 (by decide) ?_
    refine ex_ialdx (pc := 40) 0 (iv 87 0) d_TG_work_40 (Nat.le_of_ble_eq_true rfl) rfl rfl rfl (nI_t (by omega)) (show 0 < 12 by omega) rfl ?_
    refine ex_istore_n (pc := 41) (i := 3) d_TG_work_41 rfl (by decide) ?_
    refine ex_aload_n (pc := 42) (i := 0) d_TG_work_42 rfl rfl ?_
    refine ex_getr (pc := 43) 0 7 d_TG_work_43 FL_TG_67 (Nat.le_of_ble_eq_true rfl) rfl rfl ?_
    refine ex_getr (pc := 46) 6 3 d_TG_work_46 FL_TG_141 (Nat.le_of_ble_eq_true rfl) rfl rfl ?_
    refine ex_iconst (pc := 49) (v := (nI 0)) d_TG_work_49 (by decide) ?_
    refine ex_ialdx (pc := 50) 0 (iv 88 0) d_TG_work_50 (Nat.le_of_ble_eq_true rfl) rfl rfl rfl (nI_t (by omega)) (show 0 < 12 by omega) rfl ?_
    refine ex_istore (pc := 51) d_TG_work_51 (by decide) ?_
    refine ex_aload_n (pc := 53) (i := 0) d_TG_work_53 rfl rfl ?_
    refine ex_getr (pc := 54) 0 7 d_TG_work_54 FL_TG_67 (Nat.le_of_ble_eq_true rfl) rfl rfl ?_
    refine ex_iconst (pc := 57) (v := (nI 0)) d_TG_work_57 (by decide) ?_
    refine ex_callV (pc := 58) (M' := M_In_takeOut) (as := [.int (nI 0)]) (st := []) d_TG_work_58 MW_In_takeOut MI_In_takeOut LK_TG_124 (Nat.le_of_ble_eq_true rfl) rfl rfl rfl (ct_In_takeOut l G iv mp sp mo (nI 0) m9 hm hm12) (ex_lt_rm (by decide)) ⟨Nat.le_refl _, Nat.le_refl _⟩ rfl rfl (Nat.le_of_ble_eq_true rfl) ?_
    rintro _ _ ⟨rfl, rfl⟩
    refine ex_heap (show _ = HP (inOut iv m9 0) mp sp mo from if_pos (show 0 ≤ (nI 0).toInt ∧ (nI 0).toInt < (m9 : Int) by rw [nI_t (by omega)]; omega)) ?_
    refine ex_pop (pc := 61) d_TG_work_61 rfl ?_
    refine ex_iload_n (pc := 62) (i := 2) d_TG_work_62 rfl rfl ?_
    refine ex_if_ne (pc := 63) (tgt := 76) d_TG_work_63 rfl (fun c63 => ?_) (fun c63 => ?_)
    · refine ex_aload_n (pc := 76) (i := 0) d_TG_work_76 rfl rfl ?_
      refine ex_callV (pc := 77) (M' := M_TG_refresh) (as := []) (st := []) d_TG_work_77 MW_TG_refresh MI_TG_refresh LK_TG_148 (Nat.le_of_ble_eq_true rfl) rfl rfl rfl (ct_TG_refresh l G (inOut iv m9 0) mp sp mo hmp a n hA1 hst1) (ex_lt_rm (by decide)) ⟨Nat.le_refl _, Nat.le_refl _⟩ rfl rfl (Nat.le_of_ble_eq_true rfl) ?_
      rintro _ _ ⟨iv2, rfl, rfl, hC2, hF2, h09⟩
      have hA2 : TxA iv2 a n := ⟨hA.1, (hF2 39 1 (Or.inl (by decide)) (Or.inl (by decide))).trans hA1.2.1, fun k hk => (hF2 40 k (Or.inl (by decide)) (Or.inl (by decide))).trans (hA1.2.2.1 k hk), hA.2.2.2⟩
      have hTC2 : txC iv2 n := fun k hk => by rw [hF2 40 k (Or.inl (by decide)) (Or.inl (by decide))]; exact hTC1 k hk
      refine ex_aload_n (pc := 80) (i := 0) d_TG_work_80 rfl rfl ?_
      refine ex_getr (pc := 81) 0 8 d_TG_work_81 FL_TG_74 (Nat.le_of_ble_eq_true rfl) rfl rfl ?_
      refine ex_iload_n (pc := 84) (i := 2) d_TG_work_84 rfl rfl ?_
      refine ex_aload_n (pc := 85) (i := 0) d_TG_work_85 rfl rfl ?_
      refine ex_iload_n (pc := 86) (i := 1) d_TG_work_86 rfl rfl ?_
      refine ex_iload_n (pc := 87) (i := 3) d_TG_work_87 rfl rfl ?_
      refine ex_iload (pc := 88) d_TG_work_88 rfl ?_
      refine ex_callV (pc := 90) (M' := M_TG_reply) (as := [.int (nI w9), .int (iv 87 0), .int (iv 88 0)]) (st := [.int (nI t9), .ref 89]) d_TG_work_90 MW_TG_reply MI_TG_reply LK_TG_151 (Nat.le_of_ble_eq_true rfl) rfl rfl rfl (ct_TG_reply l G iv2 mp sp mo hmp a n hA2 hTC2 (tAll a n) hC2 hTX.1 hTX.2 w9 hw (iv 87 0) (iv 88 0)) (ex_lt_rm (by decide)) ⟨Nat.le_refl _, Nat.le_refl _⟩ rfl rfl (Nat.le_of_ble_eq_true rfl) ?_
      rintro _ _ ⟨iv3, v, rfl, rfl, hRp⟩
      have h893 : iv3 89 2 = nI nx := by
        have e0 : iv2 89 2 = nI nx := (hF2 89 2 (Or.inl (by decide)) (Or.inr (Or.inr (by decide)))).trans ((inOut_o (Or.inr (by decide))).trans h89)
        have hw4 : w9 = 0 ∨ w9 = 1 ∨ w9 = 2 ∨ w9 = 3 := by omega
        rcases hw4 with z | z | z | z
        · rw [(hRp.1 (by rw [z])).2]; exact e0
        · rw [(hRp.2.1 (by rw [z])).2]; exact e0
        · have hz := hRp.2.2.1 (by rw [z])
          by_cases hb : fndV (ownP iv2 (iv 87 0)) (iv2 45) (tAll a n).tn 0 = -1 ∨ nmB (iv 88 0) = false
          · rw [(hz.1 hb).2]; exact e0
          · obtain ⟨i, i1, i2, i3⟩ := (own_v hTX.1 hC2.2.2.1 (iv 87 0)).resolve_left (fun q => hb (Or.inl q))
            obtain ⟨g, g1, _⟩ := hz.2 i i1 i2 i3 (Classical.byContradiction (fun q => hb (Or.inr (Bool.eq_false_iff.mpr q))))
            rw [g1, va_up_ne _ _ (by decide), u2n (Or.inl (by decide))]
            exact e0
        · have hz := hRp.2.2.2 (by rw [z])
          cases hp : pvK (srt (ClF iv2 mp (tAll a n))) (ClF iv2 mp (tAll a n)).length 0 with
          | true => rw [(hz.1 hp).2]; exact e0
          | false => rw [(hz.2 hp).2.2.2 89 2 (by decide) (Or.inl (by decide))]; exact e0
      refine ex_callV (pc := 93) (M' := M_An_keep) (as := [.int (nI t9), .int v]) (st := []) d_TG_work_93 MW_An_keep MI_An_keep LK_TG_154 (Nat.le_of_ble_eq_true rfl) rfl rfl rfl (ct_An_keep l G iv3 mp sp mo nx (nI t9) v h893 hnx) (ex_lt_rm (by decide)) ⟨Nat.le_refl _, Nat.le_refl _⟩ rfl rfl (Nat.le_of_ble_eq_true rfl) ?_
      rintro _ _ ⟨rfl, rfl⟩
      refine ex_iload_n (pc := 96) (i := 2) d_TG_work_96 rfl rfl ?_
      refine ex_iret (ty := .int) d_TG_work_97 rfl rfl rfl (Nat.le_refl _) ?_
      exact ⟨iv2, iv3, v, rfl, rfl, hC2, h09, hF2, hRp⟩
    · exact absurd ((n_eq (by omega) (by omega)).mp (show nI t9 = nI 0 from c63)) (by omega)
  · exact absurd ((n_eq (by omega) (by omega)).mp (show nI m9 = nI 0 from c7)) (by omega)

