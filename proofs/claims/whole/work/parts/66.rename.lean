/-! renaming on both sides -/
def rnP (a : Nat → Int32) (E : EL) (y : Int32) (t k : Nat) : Int32 := if (E.si < t ∧ k = E.bg + 1) ∨ (E.ck = 3 ∧ E.ei < t ∧ k = E.iT + 2) then y else a k
def rnC (E : EL) (t : Nat) : Nat := (if E.si < t then 1 else 0) + (if E.ck = 3 ∧ E.ei < t then 1 else 0)
def rnT (a : Nat → Int32) (E : EL) (y : Int32) (k : Nat) : Int32 := if k = E.bg + 1 ∨ (E.ck = 3 ∧ k = E.iT + 2) then y else a k
theorem va_u40 {iv : Nat → Nat → Int32} {b t : Nat} {g : Nat → Int32} {v : Int32} : ex_u2 (va_up iv b g) b t v = va_up iv b (va_up g t v) := by
  funext q k
  unfold ex_u2 va_up
  by_cases h : q = b
  · subst h
    by_cases h2 : k = t
    · simp [h2]
    · simp [h2]
  · simp [h]
theorem nm_wr {y : Int32} (h : nmB y = true) : wrB y = true := by
  unfold nmB at h
  unfold wrB
  rw [Bool.and_eq_true, decide_eq_true_eq, decide_eq_true_eq] at h ⊢
  omega
section RN
variable {iv : Nat → Nat → Int32} {a : Nat → Int32} {n : Nat} {T : TS} {i : Nat}
theorem rn_b (hX : tX a T n) (hs : T.stk = []) (h0 : 0 < i) (hi : i ≤ T.cn) : (T.e i).bg + 3 ≤ n ∧ ((T.e i).ck = 3 → (T.e i).iT + 4 ≤ n ∧ (T.e i).bg + 3 ≤ (T.e i).iT ∧ (T.e i).si < (T.e i).ei ∧ (T.e i).ei < T.tn) ∧ (T.e i).si < T.tn := by
  have hns : i ∉ T.stk := by rw [hs]; exact List.not_mem_nil
  have e1 := hX.1.2.2.2.1 i h0 hi
  have e2 := hX.1.2.2.2.2.2.1 i h0 hi hns
  have e3 := (hX.2.2.2.2 i h0 hi).2.2.2.2 hns
  have e4 := hX.2.2.2.1.2 i h0 hi
  refine ⟨by omega, fun z => ?_, e4.2.1⟩
  have z1 := (e3.2 z).2
  have z2 := e4.2.2.2.2 hns z
  exact ⟨by omega, by omega, z2.2.1, z2.1⟩
theorem rnP_0 {E : EL} {y : Int32} {k : Nat} : rnP a E y 0 k = a k := if_neg (fun z => z.elim (fun w => absurd w.1 (Nat.not_lt_zero _)) (fun w => absurd w.2.1 (Nat.not_lt_zero _)))
theorem rnP_e {E : EL} {y : Int32} {k t : Nat} (h1 : E.si < t) (h2 : E.ck = 3 → E.ei < t) : rnP a E y t k = rnT a E y k := by
  unfold rnP rnT
  by_cases h : k = E.bg + 1 ∨ (E.ck = 3 ∧ k = E.iT + 2)
  · rw [if_pos h, if_pos (h.imp (fun z => ⟨h1, z⟩) (fun z => ⟨z.1, h2 z.1, z.2⟩))]
  · rw [if_neg h, if_neg (fun z => h (z.imp (fun w => w.2) (fun w => ⟨w.1, w.2.2⟩)))]
/-- a tag that isn't the element's -/
theorem rnP_s {E : EL} {y : Int32} {k t : Nat} (h1 : ¬ t = E.si) (h2 : ¬ (E.ck = 3 ∧ t = E.ei)) : rnP a E y (t + 1) k = rnP a E y t k ∧ rnC E (t + 1) = rnC E t := by
  have e1 : E.si < t + 1 ↔ E.si < t := by omega
  have e2 : (E.ck = 3 ∧ E.ei < t + 1) ↔ (E.ck = 3 ∧ E.ei < t) := by
    constructor
    · intro z
      have q : ¬ t = E.ei := fun q => h2 ⟨z.1, q⟩
      exact ⟨z.1, by omega⟩
    · intro z
      exact ⟨z.1, by omega⟩
  refine ⟨?_, ?_⟩
  · unfold rnP
    by_cases h : (E.si < t ∧ k = E.bg + 1) ∨ (E.ck = 3 ∧ E.ei < t ∧ k = E.iT + 2)
    · rw [if_pos h, if_pos (h.imp (fun z => ⟨by omega, z.2⟩) (fun z => ⟨z.1, by omega, z.2.2⟩))]
    · rw [if_neg h, if_neg (fun z => h (z.imp (fun w => ⟨e1.mp w.1, w.2⟩) (fun w => ⟨w.1, (e2.mp ⟨w.1, w.2.1⟩).2, w.2.2⟩)))]
  · unfold rnC
    by_cases h : E.si < t
    · rw [if_pos h, if_pos (by omega)]
      by_cases h3 : E.ck = 3 ∧ E.ei < t
      · rw [if_pos h3, if_pos (e2.mpr h3)]
      · rw [if_neg h3, if_neg (fun z => h3 (e2.mp z))]
    · rw [if_neg h, if_neg (by omega)]
      by_cases h3 : E.ck = 3 ∧ E.ei < t
      · rw [if_pos h3, if_pos (e2.mpr h3)]
      · rw [if_neg h3, if_neg (fun z => h3 (e2.mp z))]
end RN
set_option maxRecDepth 100000 in
set_option maxHeartbeats 4000000 in
theorem lp_Tr_renameTags {p : Program} {e : Env} {s : State} {m : MethodId} {args : Array Value} {below : List Frame} {meth : Method} {c : Code} (l : Launch) (G : ex_G) (iv : Nat → Nat → Int32) (mp : Nat → Nat) (sp mo : Nat) (a : Nat → Int32) (n : Nat) (hA : TxA iv a n) (T : TS) (hTn : iv 41 7 = nI T.tn) (hTg : ∀ t, t < T.tn → tgR iv (T.tg t) t) (hX : tX a T n) (hs : T.stk = []) (i : Nat) (h0 : 0 < i) (hi : i ≤ T.cn) (y : Int32) (hy : nmB y = true) : ∀ (k t : Nat) (g : Nat → Int32) (u : Option Value), t + k = T.tn → (∀ k9, k9 < n → g k9 = rnP a (T.e i) y t k9) → EXM M_Tr_renameTags l G 1 (fun r h' => ∃ g, h' = HP (va_up iv 40 g) mp sp mo ∧ (∀ k, k < n → g k = rnT a (T.e i) y k) ∧ r = some (.int (nI (if (T.e i).ck = 3 then 2 else 1)))) p e s m args below meth c 5 [some (.ref 41), some (.int (nI i)), some (.int y), some (.int (nI (rnC (T.e i) t))), some (.int (nI t)), u] [] (HP (va_up iv 40 g) mp sp mo) := by
  intro k
  induction k with
  | zero =>
    intro t g u htk hg
    have hn := hA.1
    have htn : T.tn ≤ 33 := by have := hX.1.1; omega
    obtain ⟨b1, b2, b3⟩ := rn_b hX hs h0 hi
    have hcn : T.cn ≤ 33 := by have := hX.1.1; omega
    have hs1 : va_up iv 40 g 39 1 = nI n := (congrFun (va_up_ne _ _ (by decide)) 1).trans hA.2.1
    have hb1 : (va_up iv 40 g 39 1).toInt ≤ ((100 : Nat) : Int) := by rw [hs1, nI_t (by omega)]; omega
    have hgt : ∀ k9, k9 < n → cAt (va_up iv 40 g) (nI k9) = rnP a (T.e i) y t k9 := by
      intro k9 hk9
      unfold cAt gAt
      rw [hs1, nI_t (by omega), nI_t (by omega), if_pos (by omega), show va_up iv 40 g 40 = g from va_up_self _ _ _]
      exact hg k9 hk9
    have h417 : va_up iv 40 g 41 7 = nI T.tn := (congrFun (va_up_ne _ _ (by decide)) 7).trans hTn
    refine ex_iload (pc := 5) d_Tr_renameTags_5 rfl ?_
    refine ex_aload_n (pc := 7) (i := 0) d_Tr_renameTags_7 rfl rfl ?_
    refine ex_getx (pc := 8) 11 7 (nI T.tn) d_Tr_renameTags_8 FL_Tr_36 (Nat.le_of_ble_eq_true rfl) rfl h417 ?_
    refine ex_icmp_ge (pc := 11) (tgt := 76) d_Tr_renameTags_11 rfl (fun c11 => ?_) (fun c11 => ?_)
    · refine ex_iload_n (pc := 76) (i := 3) d_Tr_renameTags_76 rfl rfl ?_
      refine ex_iret (ty := .int) d_Tr_renameTags_77 rfl rfl rfl (Nat.le_refl _) ?_
      refine ⟨g, rfl, fun k9 hk9 => (hg k9 hk9).trans (rnP_e (by omega) (fun z => by have := (b2 z).2.2.2; omega)), ?_⟩
      unfold rnC
      rw [if_pos (by omega)]
      by_cases z : (T.e i).ck = 3
      · rw [if_pos ⟨z, by have := (b2 z).2.2.2; omega⟩, if_pos z]
      · rw [if_neg (fun q => z q.1), if_neg z]
    · exact absurd ((n_ge (by omega) (by omega)).mpr (by omega)) c11
  | succ k ih =>
    intro t g u htk hg
    have hn := hA.1
    have htn : T.tn ≤ 33 := by have := hX.1.1; omega
    obtain ⟨b1, b2, b3⟩ := rn_b hX hs h0 hi
    have hcn : T.cn ≤ 33 := by have := hX.1.1; omega
    have hs1 : va_up iv 40 g 39 1 = nI n := (congrFun (va_up_ne _ _ (by decide)) 1).trans hA.2.1
    have hb1 : (va_up iv 40 g 39 1).toInt ≤ ((100 : Nat) : Int) := by rw [hs1, nI_t (by omega)]; omega
    have hgt : ∀ k9, k9 < n → cAt (va_up iv 40 g) (nI k9) = rnP a (T.e i) y t k9 := by
      intro k9 hk9
      unfold cAt gAt
      rw [hs1, nI_t (by omega), nI_t (by omega), if_pos (by omega), show va_up iv 40 g 40 = g from va_up_self _ _ _]
      exact hg k9 hk9
    have h417 : va_up iv 40 g 41 7 = nI T.tn := (congrFun (va_up_ne _ _ (by decide)) 7).trans hTn
    obtain ⟨t1, t2, t3⟩ := hTg t (by omega)
    have ho := (hX.2.2.2.1.2 i h0 hi).1 t (by omega)
    have hns : i ∉ T.stk := by rw [hs]; exact List.not_mem_nil
    have e45 : va_up iv 40 g 45 t = (T.tg t).2.2 := (congrFun (va_up_ne _ _ (by decide)) t).trans t3
    have e43 : va_up iv 40 g 43 t = nI (T.tg t).1 := (congrFun (va_up_ne _ _ (by decide)) t).trans t1
    have htj := hX.2.1 t (by omega)
    refine ex_iload (pc := 5) d_Tr_renameTags_5 rfl ?_
    refine ex_aload_n (pc := 7) (i := 0) d_Tr_renameTags_7 rfl rfl ?_
    refine ex_getx (pc := 8) 11 7 (nI T.tn) d_Tr_renameTags_8 FL_Tr_36 (Nat.le_of_ble_eq_true rfl) rfl h417 ?_
    refine ex_icmp_ge (pc := 11) (tgt := 76) d_Tr_renameTags_11 rfl (fun c11 => ?_) (fun c11 => ?_)
    · exact absurd ((n_ge (by omega) (by omega)).mp c11) (by omega)
    · refine ex_aload_n (pc := 14) (i := 0) d_Tr_renameTags_14 rfl rfl ?_
      refine ex_getr (pc := 15) 11 6 d_Tr_renameTags_15 FL_Tr_24 (Nat.le_of_ble_eq_true rfl) rfl rfl ?_
      refine ex_iload (pc := 18) d_Tr_renameTags_18 rfl ?_
      refine ex_ialdx (pc := 20) t (T.tg t).2.2 d_Tr_renameTags_20 (Nat.le_of_ble_eq_true rfl) rfl rfl rfl (nI_t (by omega)) (show t < 33 by omega) e45 ?_
      refine ex_iload_n (pc := 21) (i := 1) d_Tr_renameTags_21 rfl rfl ?_
      refine ex_icmp_ne (pc := 22) (tgt := 70) d_Tr_renameTags_22 rfl (fun c22 => ?_) (fun c22 => ?_)
      · refine ex_iinc (pc := 70) (v := (nI (t + 1))) d_Tr_renameTags_70 rfl (nI_1 t) (by decide) ?_
        refine ex_goto (pc := 73) (tgt := 5) d_Tr_renameTags_73 rfl ?_
        have hr := fun k => rnP_s (a := a) (E := (T.e i)) (y := y) (t := t) (k := k) (fun z => c22 (ho.mpr (Or.inl z))) (fun z => c22 (ho.mpr (Or.inr ⟨hns, z.1, z.2⟩)))
        have hr2 := (hr 0).2
        rw [← hr2]
        exact ih (t + 1) g _ (by omega) (fun k9 hk9 => (hg k9 hk9).trans (hr k9).1.symm)
      · refine ex_aload_n (pc := 25) (i := 0) d_Tr_renameTags_25 rfl rfl ?_
        refine ex_getr (pc := 26) 11 4 d_Tr_renameTags_26 FL_Tr_17 (Nat.le_of_ble_eq_true rfl) rfl rfl ?_
        refine ex_iload (pc := 29) d_Tr_renameTags_29 rfl ?_
        refine ex_ialdx (pc := 31) t (nI (T.tg t).1) d_Tr_renameTags_31 (Nat.le_of_ble_eq_true rfl) rfl rfl rfl (nI_t (by omega)) (show t < 33 by omega) e43 ?_
        refine ex_iconst (pc := 32) (v := (nI 1)) d_Tr_renameTags_32 (by decide) ?_
        refine ex_iadd (pc := 33) d_Tr_renameTags_33 ?_
        refine ex_top (nI_s (T.tg t).1) ?_
        refine ex_istore (pc := 34) d_Tr_renameTags_34 (by decide) ?_
        refine ex_aload_n (pc := 36) (i := 0) d_Tr_renameTags_36 rfl rfl ?_
        refine ex_getr (pc := 37) 11 0 d_Tr_renameTags_37 FL_Tr_27 (Nat.le_of_ble_eq_true rfl) rfl rfl ?_
        refine ex_aload_n (pc := 40) (i := 0) d_Tr_renameTags_40 rfl rfl ?_
        refine ex_getr (pc := 41) 11 0 d_Tr_renameTags_41 FL_Tr_27 (Nat.le_of_ble_eq_true rfl) rfl rfl ?_
        refine ex_iload (pc := 44) d_Tr_renameTags_44 rfl ?_
        refine ex_callV (pc := 46) (M' := M_Tx_at) (as := [.int (nI ((T.tg t).1 + 1))]) (st := [.ref 39]) d_Tr_renameTags_46 MW_Tx_at MI_Tx_at LK_Tr_80 (Nat.le_of_ble_eq_true rfl) rfl rfl rfl (ct_Tx_at l G (va_up iv 40 g) mp sp mo (nI ((T.tg t).1 + 1)) hb1) (ex_lt_rm (by decide)) ⟨Nat.le_refl _, Nat.le_refl _⟩ rfl rfl (Nat.le_of_ble_eq_true rfl) ?_
        rintro _ _ ⟨rfl, rfl⟩
        refine ex_top (show _ = cAt (va_up iv 40 g) (nI ((T.tg t).1 + 1)) from rfl) ?_
        have hcs : (t = (T.e i).si ∧ (T.tg t).1 = (T.e i).bg ∧ ¬ cAt (va_up iv 40 g) (nI ((T.tg t).1 + 1)) = nI 47) ∨ ((T.e i).ck = 3 ∧ t = (T.e i).ei ∧ (T.tg t).1 = (T.e i).iT ∧ cAt (va_up iv 40 g) (nI ((T.tg t).1 + 1)) = nI 47) := by
          have hO := hX.2.2.2.1.2 i h0 hi
          rcases ho.mp c22 with z | ⟨z1, z2, z3⟩
          · refine Or.inl ⟨z, by rw [z]; exact hO.2.2.1, ?_⟩
            have e1 : (T.tg t).1 = (T.e i).bg := by rw [z]; exact hO.2.2.1
            rw [e1, hgt _ (by omega)]
            unfold rnP
            rw [if_neg (fun q => q.elim (fun w => by omega) (fun w => by have := (b2 w.1).2.2.1; omega))]
            intro q
            have hq := hO.2.2.2.1
            rw [q] at hq
            exact absurd hq (by decide)
          · have hE := hO.2.2.2.2 z1 z2
            have e1 : (T.tg t).1 = (T.e i).iT := by rw [z3]; exact hE.2.2.1
            refine Or.inr ⟨z2, z3, e1, ?_⟩
            have hbb := b2 z2
            rw [e1, hgt _ (by omega)]
            unfold rnP
            rw [if_neg (fun q => q.elim (fun w => by omega) (fun w => by omega))]
            exact hE.2.2.2
        refine ex_bipush (pc := 49) (v := (nI 47)) d_Tr_renameTags_49 (by decide) ?_
        refine ex_icmp_ne (pc := 51) (tgt := 61) d_Tr_renameTags_51 rfl (fun c51 => ?_) (fun c51 => ?_)
        · refine ex_iload (pc := 61) d_Tr_renameTags_61 rfl ?_
          refine ex_iload_n (pc := 63) (i := 2) d_Tr_renameTags_63 rfl rfl ?_
          refine ex_callV (pc := 64) (M' := M_Tx_replace) (as := [.int (nI ((T.tg t).1 + 1)), .int y]) (st := []) d_Tr_renameTags_64 MW_Tx_replace MI_Tx_replace LK_Tr_112 (Nat.le_of_ble_eq_true rfl) rfl rfl rfl (ct_Tx_replace l G (va_up iv 40 g) mp sp mo n ((T.tg t).1 + 1) y hs1 hn (hcs.elim (fun z => by omega) (fun z => absurd z.2.2.2 c51)) (nm_wr hy)) (ex_lt_rm (by decide)) ⟨Nat.le_refl _, Nat.le_refl _⟩ rfl rfl (Nat.le_of_ble_eq_true rfl) ?_
          rintro _ _ ⟨rfl, rfl⟩
          refine ex_heap (congrArg (fun z => HP z mp sp mo) va_u40) ?_
          refine ex_iinc (pc := 67) (v := (nI (rnC (T.e i) t + 1))) d_Tr_renameTags_67 rfl (nI_1 (rnC (T.e i) t)) (by decide) ?_
          refine ex_iinc (pc := 70) (v := (nI (t + 1))) d_Tr_renameTags_70 rfl (nI_1 t) (by decide) ?_
          refine ex_goto (pc := 73) (tgt := 5) d_Tr_renameTags_73 rfl ?_
          obtain ⟨z1, z2, z3⟩ := hcs.resolve_right (fun z => c51 z.2.2.2)
          have hrc : rnC (T.e i) t + 1 = rnC (T.e i) (t + 1) := by
            have s1 : ¬ (T.e i).si < t := by omega
            have s2 : (T.e i).si < t + 1 := by omega
            have s3 : ¬ ((T.e i).ck = 3 ∧ (T.e i).ei < t) := fun w => by have := (b2 w.1).2.2.1; omega
            have s4 : ¬ ((T.e i).ck = 3 ∧ (T.e i).ei < t + 1) := fun w => by have := (b2 w.1).2.2.1; omega
            unfold rnC
            rw [if_neg s1, if_pos s2, if_neg s3, if_neg s4]
          rw [hrc]
          refine ih (t + 1) _ _ (by omega) (fun k9 hk9 => ?_)
          unfold va_up
          rw [z2]
          by_cases q : k9 = (T.e i).bg + 1
          · rw [if_pos q]
            unfold rnP
            rw [if_pos (Or.inl ⟨by omega, q⟩)]
          · rw [if_neg q, hg k9 hk9]
            unfold rnP
            rw [if_neg (fun w => w.elim (fun v => q v.2) (fun v => by have := (b2 v.1).2.2.1; omega)), if_neg (fun w => w.elim (fun v => q v.2) (fun v => by have := (b2 v.1).2.2.1; omega))]
        · refine ex_iload (pc := 54) d_Tr_renameTags_54 rfl ?_
          refine ex_iconst (pc := 56) (v := (nI 1)) d_Tr_renameTags_56 (by decide) ?_
          refine ex_iadd (pc := 57) d_Tr_renameTags_57 ?_
          refine ex_top (nI_s ((T.tg t).1 + 1)) ?_
          refine ex_goto (pc := 58) (tgt := 63) d_Tr_renameTags_58 rfl ?_
          refine ex_iload_n (pc := 63) (i := 2) d_Tr_renameTags_63 rfl rfl ?_
          refine ex_callV (pc := 64) (M' := M_Tx_replace) (as := [.int (nI ((T.tg t).1 + 1 + 1)), .int y]) (st := []) d_Tr_renameTags_64 MW_Tx_replace MI_Tx_replace LK_Tr_112 (Nat.le_of_ble_eq_true rfl) rfl rfl rfl (ct_Tx_replace l G (va_up iv 40 g) mp sp mo n ((T.tg t).1 + 1 + 1) y hs1 hn (hcs.elim (fun z => absurd c51 z.2.2) (fun z => by have := b2 z.1; omega)) (nm_wr hy)) (ex_lt_rm (by decide)) ⟨Nat.le_refl _, Nat.le_refl _⟩ rfl rfl (Nat.le_of_ble_eq_true rfl) ?_
          rintro _ _ ⟨rfl, rfl⟩
          refine ex_heap (congrArg (fun z => HP z mp sp mo) va_u40) ?_
          refine ex_iinc (pc := 67) (v := (nI (rnC (T.e i) t + 1))) d_Tr_renameTags_67 rfl (nI_1 (rnC (T.e i) t)) (by decide) ?_
          refine ex_iinc (pc := 70) (v := (nI (t + 1))) d_Tr_renameTags_70 rfl (nI_1 t) (by decide) ?_
          refine ex_goto (pc := 73) (tgt := 5) d_Tr_renameTags_73 rfl ?_
          obtain ⟨z1, z2, z3, z4⟩ := hcs.resolve_left (fun z => z.2.2 c51)
          have hbb := b2 z1
          have hrc : rnC (T.e i) t + 1 = rnC (T.e i) (t + 1) := by
            have s1 : (T.e i).si < t := by omega
            have s2 : (T.e i).si < t + 1 := by omega
            have s3 : ¬ ((T.e i).ck = 3 ∧ (T.e i).ei < t) := fun w => by omega
            have s4 : (T.e i).ck = 3 ∧ (T.e i).ei < t + 1 := ⟨z1, by omega⟩
            unfold rnC
            rw [if_pos s1, if_pos s2, if_neg s3, if_pos s4]
          rw [hrc]
          refine ih (t + 1) _ _ (by omega) (fun k9 hk9 => ?_)
          unfold va_up
          rw [z3]
          by_cases q : k9 = (T.e i).iT + 1 + 1
          · rw [if_pos q]
            unfold rnP
            rw [if_pos (Or.inr ⟨z1, by omega, by omega⟩)]
          · rw [if_neg q, hg k9 hk9]
            unfold rnP
            by_cases v : k9 = (T.e i).bg + 1
            · rw [if_pos (Or.inl ⟨by omega, v⟩), if_pos (Or.inl ⟨by omega, v⟩)]
            · rw [if_neg (fun w => w.elim (fun v2 => v v2.2) (fun v2 => by omega)), if_neg (fun w => w.elim (fun v2 => v v2.2) (fun v2 => by omega))]

theorem va_id {iv : Nat → Nat → Int32} {b : Nat} : iv = va_up iv b (iv b) := by
  funext q k
  unfold va_up
  split
  · rename_i h
    rw [h]
  · rfl
set_option maxRecDepth 100000 in
set_option maxHeartbeats 4000000 in
theorem ct_Tr_renameTags (l : Launch) (G : ex_G) (iv : Nat → Nat → Int32) (mp : Nat → Nat) (sp mo : Nat) (a : Nat → Int32) (n : Nat) (hA : TxA iv a n) (T : TS) (hTn : iv 41 7 = nI T.tn) (hTg : ∀ t, t < T.tn → tgR iv (T.tg t) t) (hX : tX a T n) (hs : T.stk = []) (i : Nat) (h0 : 0 < i) (hi : i ≤ T.cn) (y : Int32) (hy : nmB y = true) : CT l G 1 M_Tr_renameTags [.ref 41, .int (nI i), .int y] (HP iv mp sp mo) 0 0 (fun r h' => ∃ g, h' = HP (va_up iv 40 g) mp sp mo ∧ (∀ k, k < n → g k = rnT a (T.e i) y k) ∧ r = some (.int (nI (if (T.e i).ck = 3 then 2 else 1)))) := by
  refine ex_enter (by decide) (Nat.le_of_ble_eq_true rfl) (fun v hv => by simp at hv; rcases hv with rfl | rfl | rfl <;> rfl) (fun p e s m args below meth c => ?_)
  refine ex_iconst (pc := 0) (v := (nI 0)) d_Tr_renameTags_0 (by decide) ?_
  refine ex_istore_n (pc := 1) (i := 3) d_Tr_renameTags_1 rfl (by decide) ?_
  refine ex_iconst (pc := 2) (v := (nI 0)) d_Tr_renameTags_2 (by decide) ?_
  refine ex_istore (pc := 3) d_Tr_renameTags_3 (by decide) ?_
  refine ex_heap (congrArg (fun z => HP z mp sp mo) (va_id (b := 40))) ?_
  have hr0 : rnC (T.e i) 0 = 0 := by unfold rnC; rw [if_neg (Nat.not_lt_zero _), if_neg (fun z => Nat.not_lt_zero _ z.2)]
  have hlp := fun u => lp_Tr_renameTags (p := p) (e := e) (s := s) (m := m) (args := args) (below := below) (meth := meth) (c := c) l G iv mp sp mo a n hA T hTn hTg hX hs i h0 hi y hy T.tn 0 (iv 40) u (by omega) (fun k9 hk9 => (hA.2.2.1 k9 hk9).trans rnP_0.symm)
  rw [hr0] at hlp
  exact hlp _

set_option maxRecDepth 100000 in
set_option maxHeartbeats 4000000 in
theorem ct_TG_renameAt (l : Launch) (G : ex_G) (iv : Nat → Nat → Int32) (mp : Nat → Nat) (sp mo : Nat) (a : Nat → Int32) (n : Nat) (hA : TxA iv a n) (T : TS) (hTn : iv 41 7 = nI T.tn) (hTg : ∀ t, t < T.tn → tgR iv (T.tg t) t) (hX : tX a T n) (hs : T.stk = []) (x y ov : Int32) (hov : fndV (ownP iv x) (iv 45) T.tn 0 = ov) (ho : ov = -1 ∨ ∃ i, 0 < i ∧ i ≤ T.cn ∧ ov = nI i) : CT l G 2 M_TG_renameAt [.ref 0, .int x, .int y] (HP iv mp sp mo) 0 0 (fun r h' => (ov = -1 ∨ nmB y = false → r = some (.int (-1)) ∧ h' = HP iv mp sp mo) ∧ (∀ i, 0 < i → i ≤ T.cn → ov = nI i → nmB y = true → ∃ g, h' = HP (va_up (ex_u2 iv 0 9 (nI 1)) 40 g) mp sp mo ∧ (∀ k, k < n → g k = rnT a (T.e i) y k) ∧ r = some (.int (nI (if (T.e i).ck = 3 then 2 else 1))))) := by
  refine ex_enter (by decide) (Nat.le_of_ble_eq_true rfl) (fun v hv => by simp at hv; rcases hv with rfl | rfl | rfl <;> rfl) (fun p e s m args below meth c => ?_)
  have hn := hA.1
  have htn : T.tn ≤ 33 := by have := hX.1.1; omega
  have hcn : T.cn ≤ 33 := by have := hX.1.1; omega
  refine ex_aload_n (pc := 0) (i := 0) d_TG_renameAt_0 rfl rfl ?_
  refine ex_getr (pc := 1) 0 4 d_TG_renameAt_1 FL_TG_44 (Nat.le_of_ble_eq_true rfl) rfl rfl ?_
  refine ex_iload_n (pc := 4) (i := 1) d_TG_renameAt_4 rfl rfl ?_
  refine ex_callV (pc := 5) (M' := M_Tr_ownerOfTagAt) (as := [.int x]) (st := []) d_TG_renameAt_5 MW_Tr_ownerOfTagAt MI_Tr_ownerOfTagAt LK_TG_213 (Nat.le_of_ble_eq_true rfl) rfl rfl rfl (ct_Tr_ownerOfTagAt l G iv mp sp mo T.tn hTn (by omega) x) (ex_lt_rm (by decide)) ⟨Nat.le_refl _, Nat.le_refl _⟩ rfl rfl (Nat.le_of_ble_eq_true rfl) ?_
  rintro _ _ ⟨rfl, rfl⟩
  refine ex_top hov ?_
  refine ex_istore_n (pc := 8) (i := 3) d_TG_renameAt_8 rfl (by decide) ?_
  refine ex_iload_n (pc := 9) (i := 3) d_TG_renameAt_9 rfl rfl ?_
  refine ex_iconst (pc := 10) (v := (-1)) d_TG_renameAt_10 (by decide) ?_
  refine ex_icmp_eq (pc := 11) (tgt := 21) d_TG_renameAt_11 rfl (fun c11 => ?_) (fun c11 => ?_)
  · refine ex_iconst (pc := 21) (v := (-1)) d_TG_renameAt_21 (by decide) ?_
    refine ex_iret (ty := .int) d_TG_renameAt_22 rfl rfl rfl (Nat.le_refl _) ?_
    exact ⟨fun _ => ⟨rfl, rfl⟩, fun i z1 z2 z3 => absurd (c11.symm.trans z3) (nI_ne1 (by omega))⟩
  · refine ex_iload_n (pc := 14) (i := 2) d_TG_renameAt_14 rfl rfl ?_
    refine ex_callS (pc := 15) (M' := M_TG_isName) (as := [.int y]) (st := []) d_TG_renameAt_15 MW_TG_isName ST_TG_isName LK_TG_86 (ct_TG_isName l G (HP iv mp sp mo) y) (ex_lt_rm (by decide)) ⟨Nat.le_refl _, Nat.le_refl _⟩ rfl rfl (Nat.le_of_ble_eq_true rfl) ?_
    rintro _ _ ⟨rfl, rfl⟩
    refine ex_if_ne (pc := 18) (tgt := 23) d_TG_renameAt_18 rfl (fun c18 => ?_) (fun c18 => ?_)
    · obtain ⟨i9, h90, h91, h92⟩ := ho.resolve_left c11
      subst h92
      refine ex_aload_n (pc := 23) (i := 0) d_TG_renameAt_23 rfl rfl ?_
      refine ex_iconst (pc := 24) (v := (nI 1)) d_TG_renameAt_24 (by decide) ?_
      refine ex_puti (pc := 25) 0 9 .boolean d_TG_renameAt_25 (PF_TG_78 _) (Nat.le_of_ble_eq_true rfl) rfl rfl rfl ?_
      refine ex_aload_n (pc := 28) (i := 0) d_TG_renameAt_28 rfl rfl ?_
      refine ex_getr (pc := 29) 0 4 d_TG_renameAt_29 FL_TG_44 (Nat.le_of_ble_eq_true rfl) rfl rfl ?_
      refine ex_iload_n (pc := 32) (i := 3) d_TG_renameAt_32 rfl rfl ?_
      refine ex_iload_n (pc := 33) (i := 2) d_TG_renameAt_33 rfl rfl ?_
      refine ex_callV (pc := 34) (M' := M_Tr_renameTags) (as := [.int (nI i9), .int y]) (st := []) d_TG_renameAt_34 MW_Tr_renameTags MI_Tr_renameTags LK_TG_216 (Nat.le_of_ble_eq_true rfl) rfl rfl rfl (ct_Tr_renameTags l G (ex_u2 iv 0 9 (nI 1)) mp sp mo a n ⟨hA.1, (u2n (Or.inl (by decide))).trans hA.2.1, fun k hk => (u2n (Or.inl (by decide))).trans (hA.2.2.1 k hk), hA.2.2.2⟩ T ((u2n (Or.inl (by decide))).trans hTn) (fun t ht => ⟨(u2n (Or.inl (by decide))).trans (hTg t ht).1, (u2n (Or.inl (by decide))).trans (hTg t ht).2.1, (u2n (Or.inl (by decide))).trans (hTg t ht).2.2⟩) hX hs i9 h90 h91 y (b2i_1 c18)) (ex_lt_rm (by decide)) ⟨Nat.le_refl _, Nat.le_refl _⟩ rfl rfl (Nat.le_of_ble_eq_true rfl) ?_
      rintro _ _ ⟨g, rfl, hg, rfl⟩
      refine ex_iret (ty := .int) d_TG_renameAt_37 rfl rfl rfl (Nat.le_refl _) ?_
      refine ⟨fun z => absurd z (fun w => w.elim c11 (fun q => by rw [b2i_1 c18] at q; cases q)), fun i z1 z2 z3 _ => ?_⟩
      have hii : i9 = i := (n_eq (by omega) (by omega)).mp z3
      subst hii
      exact ⟨g, rfl, hg, rfl⟩
    · refine ex_iconst (pc := 21) (v := (-1)) d_TG_renameAt_21 (by decide) ?_
      refine ex_iret (ty := .int) d_TG_renameAt_22 rfl rfl rfl (Nat.le_refl _) ?_
      exact ⟨fun _ => ⟨rfl, rfl⟩, fun i z1 z2 z3 z4 => (by rw [b2i_0 c18] at z4; cases z4)⟩

def r2 (iv : Nat → Nat → Int32) (E : EL) (y : Int32) : Nat → Nat → Int32 := if E.ck = 3 then ex_u2 (ex_u2 iv 106 (E.bg + 1) y) 106 (E.iT + 2) y else ex_u2 iv 106 (E.bg + 1) y
theorem r2_a {iv : Nat → Nat → Int32} {a : Nat → Int32} {E : EL} {y : Int32} {n : Nat} (h : ∀ k, k < n → iv 106 k = a k) : (∀ k, k < n → r2 iv E y 106 k = rnT a E y k) ∧ ∀ q j, q ≠ 106 → r2 iv E y q j = iv q j := by
  refine ⟨fun k hk => ?_, fun q j hq => ?_⟩
  · unfold r2 rnT
    by_cases h3 : E.ck = 3
    · rw [if_pos h3]
      by_cases k2 : k = E.iT + 2
      · rw [k2, u2s, if_pos (Or.inr ⟨h3, rfl⟩)]
      · rw [u2n (Or.inr k2)]
        by_cases k1 : k = E.bg + 1
        · rw [k1, u2s, if_pos (Or.inl rfl)]
        · rw [u2n (Or.inr k1), if_neg (fun z => z.elim k1 (fun w => k2 w.2))]
          exact h k hk
    · rw [if_neg h3]
      by_cases k1 : k = E.bg + 1
      · rw [k1, u2s, if_pos (Or.inl rfl)]
      · rw [u2n (Or.inr k1), if_neg (fun z => z.elim k1 (fun w => h3 w.1))]
        exact h k hk
  · unfold r2
    split
    · rw [u2n (Or.inl hq), u2n (Or.inl hq)]
    · rw [u2n (Or.inl hq)]
set_option maxRecDepth 100000 in
set_option maxHeartbeats 4000000 in
theorem ct_RF_rename (l : Launch) (G : ex_G) (iv : Nat → Nat → Int32) (mp : Nat → Nat) (sp mo : Nat) (a : Nat → Int32) (n : Nat) (hn : n ≤ 100) (h14 : iv 92 14 = nI n) (T : TS) (hX : tX a T n) (hs : T.stk = []) (hR : RR3 iv T) (q9 : Nat) (hq : q9 < n) (y : Int32) (i : Nat) (h0 : 0 < i) (hi : i ≤ T.cn) (h116 : ¬ iv 116 q9 < 0) (h118 : iv 118 q9 = nI i) (hy : nmB y = true) : CT l G 1 M_RF_rename [.ref 92, .int (nI q9), .int y] (HP iv mp sp mo) 0 0 (fun r h' => h' = HP (r2 iv (T.e i) y) mp sp mo ∧ r = some (.int (nI (if (T.e i).ck = 3 then 2 else 1)))) := by
  refine ex_enter (by decide) (Nat.le_of_ble_eq_true rfl) (fun v hv => by simp at hv; rcases hv with rfl | rfl | rfl <;> rfl) (fun p e s m args below meth c => ?_)
  obtain ⟨b1, b2, b3⟩ := rn_b hX hs h0 hi
  have hcn : T.cn ≤ 33 := by have := hX.1.1; omega
  have he5 : iv 113 i = (if (T.e i).ck = 3 then nI (T.e i).iT else -1) := (hR.2.1 i h0 hi (by rw [hs]; exact List.not_mem_nil)).2.2.2.2
  refine ex_iload_n (pc := 0) (i := 1) d_RF_rename_0 rfl rfl ?_
  refine ex_if_lt (pc := 1) (tgt := 19) d_RF_rename_1 rfl (fun c1 => ?_) (fun c1 => ?_)
  · exact absurd c1 (i_ge0 (by omega))
  · refine ex_iload_n (pc := 4) (i := 1) d_RF_rename_4 rfl rfl ?_
    refine ex_aload_n (pc := 5) (i := 0) d_RF_rename_5 rfl rfl ?_
    refine ex_getx (pc := 6) 12 14 (nI n) d_RF_rename_6 FL_RF_179 (Nat.le_of_ble_eq_true rfl) rfl h14 ?_
    refine ex_icmp_ge (pc := 9) (tgt := 19) d_RF_rename_9 rfl (fun c9 => ?_) (fun c9 => ?_)
    · exact absurd ((n_ge (by omega) (by omega)).mp c9) (by omega)
    · refine ex_iload_n (pc := 12) (i := 2) d_RF_rename_12 rfl rfl ?_
      refine ex_callS (pc := 13) (M' := M_RF_isName) (as := [.int y]) (st := []) d_RF_rename_13 MW_RF_isName ST_RF_isName LK_RF_127 (ct_RF_isName l G (HP iv mp sp mo) y) (ex_lt_rm (by decide)) ⟨Nat.le_refl _, Nat.le_refl _⟩ rfl rfl (Nat.le_of_ble_eq_true rfl) ?_
      rintro _ _ ⟨rfl, rfl⟩
      refine ex_if_ne (pc := 16) (tgt := 21) d_RF_rename_16 rfl (fun c16 => ?_) (fun c16 => ?_)
      · refine ex_aload_n (pc := 21) (i := 0) d_RF_rename_21 rfl rfl ?_
        refine ex_getr (pc := 22) 12 26 d_RF_rename_22 FL_RF_80 (Nat.le_of_ble_eq_true rfl) rfl rfl ?_
        refine ex_iload_n (pc := 25) (i := 1) d_RF_rename_25 rfl rfl ?_
        refine ex_ialdx (pc := 26) q9 (iv 116 q9) d_RF_rename_26 (Nat.le_of_ble_eq_true rfl) rfl rfl rfl (nI_t (by omega)) (show q9 < 101 by omega) rfl ?_
        refine ex_if_lt (pc := 27) (tgt := 39) d_RF_rename_27 rfl (fun c27 => ?_) (fun c27 => ?_)
        · exact absurd c27 h116
        · refine ex_aload_n (pc := 30) (i := 0) d_RF_rename_30 rfl rfl ?_
          refine ex_getr (pc := 31) 12 28 d_RF_rename_31 FL_RF_86 (Nat.le_of_ble_eq_true rfl) rfl rfl ?_
          refine ex_iload_n (pc := 34) (i := 1) d_RF_rename_34 rfl rfl ?_
          refine ex_ialdx (pc := 35) q9 (nI i) d_RF_rename_35 (Nat.le_of_ble_eq_true rfl) rfl rfl rfl (nI_t (by omega)) (show q9 < 101 by omega) h118 ?_
          refine ex_if_ge (pc := 36) (tgt := 41) d_RF_rename_36 rfl (fun c36 => ?_) (fun c36 => ?_)
          · refine ex_aload_n (pc := 41) (i := 0) d_RF_rename_41 rfl rfl ?_
            refine ex_getr (pc := 42) 12 28 d_RF_rename_42 FL_RF_86 (Nat.le_of_ble_eq_true rfl) rfl rfl ?_
            refine ex_iload_n (pc := 45) (i := 1) d_RF_rename_45 rfl rfl ?_
            refine ex_ialdx (pc := 46) q9 (nI i) d_RF_rename_46 (Nat.le_of_ble_eq_true rfl) rfl rfl rfl (nI_t (by omega)) (show q9 < 101 by omega) h118 ?_
            refine ex_istore_n (pc := 47) (i := 3) d_RF_rename_47 rfl (by decide) ?_
            refine ex_aload_n (pc := 48) (i := 0) d_RF_rename_48 rfl rfl ?_
            refine ex_getr (pc := 49) 12 15 d_RF_rename_49 FL_RF_50 (Nat.le_of_ble_eq_true rfl) rfl rfl ?_
            refine ex_aload_n (pc := 52) (i := 0) d_RF_rename_52 rfl rfl ?_
            refine ex_getr (pc := 53) 12 19 d_RF_rename_53 FL_RF_59 (Nat.le_of_ble_eq_true rfl) rfl rfl ?_
            refine ex_iload_n (pc := 56) (i := 3) d_RF_rename_56 rfl rfl ?_
            refine ex_ialdx (pc := 57) i (nI (T.e i).bg) d_RF_rename_57 (Nat.le_of_ble_eq_true rfl) rfl rfl rfl (nI_t (by omega)) (show i < 40 by omega) (hR.1 i hi).2.2.1 ?_
            refine ex_iconst (pc := 58) (v := (nI 1)) d_RF_rename_58 (by decide) ?_
            refine ex_iadd (pc := 59) d_RF_rename_59 ?_
            refine ex_top (nI_s (T.e i).bg) ?_
            refine ex_iload_n (pc := 60) (i := 2) d_RF_rename_60 rfl rfl ?_
            refine ex_iast (pc := 61) ((T.e i).bg + 1) d_RF_rename_61 (Nat.le_of_ble_eq_true rfl) rfl rfl rfl (nI_t (by omega)) (show (T.e i).bg + 1 < 100 by omega) ?_
            refine ex_aload_n (pc := 62) (i := 0) d_RF_rename_62 rfl rfl ?_
            refine ex_getr (pc := 63) 12 23 d_RF_rename_63 FL_RF_71 (Nat.le_of_ble_eq_true rfl) rfl rfl ?_
            refine ex_iload_n (pc := 66) (i := 3) d_RF_rename_66 rfl rfl ?_
            refine ex_ialdx (pc := 67) i (if (T.e i).ck = 3 then nI (T.e i).iT else -1) d_RF_rename_67 (Nat.le_of_ble_eq_true rfl) rfl rfl rfl (nI_t (by omega)) (show i < 40 by omega) (show ex_u2 iv 106 ((T.e i).bg + 1) y 113 i = (if (T.e i).ck = 3 then nI (T.e i).iT else -1) from (u2n (Or.inl (by decide))).trans he5) ?_
            refine ex_if_ge (pc := 68) (tgt := 73) d_RF_rename_68 rfl (fun c68 => ?_) (fun c68 => ?_)
            · have h3x : (T.e i).ck = 3 := Classical.byContradiction (fun z => by rw [if_neg z] at c68; exact absurd c68 (by decide))
              have b2x := b2 h3x
              refine ex_aload_n (pc := 73) (i := 0) d_RF_rename_73 rfl rfl ?_
              refine ex_getr (pc := 74) 12 15 d_RF_rename_74 FL_RF_50 (Nat.le_of_ble_eq_true rfl) rfl rfl ?_
              refine ex_aload_n (pc := 77) (i := 0) d_RF_rename_77 rfl rfl ?_
              refine ex_getr (pc := 78) 12 23 d_RF_rename_78 FL_RF_71 (Nat.le_of_ble_eq_true rfl) rfl rfl ?_
              refine ex_iload_n (pc := 81) (i := 3) d_RF_rename_81 rfl rfl ?_
              refine ex_ialdx (pc := 82) i (nI (T.e i).iT) d_RF_rename_82 (Nat.le_of_ble_eq_true rfl) rfl rfl rfl (nI_t (by omega)) (show i < 40 by omega) (show ex_u2 iv 106 ((T.e i).bg + 1) y 113 i = nI (T.e i).iT from (u2n (Or.inl (by decide))).trans (by rw [he5, if_pos h3x])) ?_
              refine ex_iconst (pc := 83) (v := (nI 2)) d_RF_rename_83 (by decide) ?_
              refine ex_iadd (pc := 84) d_RF_rename_84 ?_
              refine ex_top (nI_add (T.e i).iT 2) ?_
              refine ex_iload_n (pc := 85) (i := 2) d_RF_rename_85 rfl rfl ?_
              refine ex_iast (pc := 86) ((T.e i).iT + 2) d_RF_rename_86 (Nat.le_of_ble_eq_true rfl) rfl rfl rfl (nI_t (by omega)) (show (T.e i).iT + 2 < 100 by omega) ?_
              refine ex_iconst (pc := 87) (v := (nI 2)) d_RF_rename_87 (by decide) ?_
              refine ex_iret (ty := .int) d_RF_rename_88 rfl rfl rfl (Nat.le_refl _) ?_
              have h3 : (T.e i).ck = 3 := Classical.byContradiction (fun z => by rw [if_neg z] at c68; exact absurd c68 (by decide))
              exact ⟨by unfold r2; rw [if_pos h3]; rfl, by rw [if_pos h3]⟩
            · refine ex_iconst (pc := 71) (v := (nI 1)) d_RF_rename_71 (by decide) ?_
              refine ex_iret (ty := .int) d_RF_rename_72 rfl rfl rfl (Nat.le_refl _) ?_
              have h3 : ¬ (T.e i).ck = 3 := fun z => by
                rw [if_pos z] at c68
                exact c68 ((n_ge (a := 0) (by omega) (by have := b2 z; omega)).mpr (Nat.zero_le _))
              exact ⟨by unfold r2; rw [if_neg h3]; rfl, by rw [if_neg h3]⟩
          · exact absurd ((n_ge (a := 0) (by omega) (by omega)).mpr (Nat.zero_le _)) c36
      · exact absurd (b2i_0 c16) (by rw [hy]; decide)

set_option maxRecDepth 100000 in
set_option maxHeartbeats 4000000 in
theorem ct_RF_renameNo (l : Launch) (G : ex_G) (iv : Nat → Nat → Int32) (mp : Nat → Nat) (sp mo : Nat) (n : Nat) (hn : n ≤ 100) (h14 : iv 92 14 = nI n) (x y : Int32) (hb : x < 0 ∨ nI n ≤ x ∨ nmB y = false ∨ ∃ q9, q9 < n ∧ x = nI q9 ∧ (iv 116 q9 < 0 ∨ iv 118 q9 < 0)) : CT l G 1 M_RF_rename [.ref 92, .int x, .int y] (HP iv mp sp mo) 0 0 (fun r h' => h' = HP iv mp sp mo ∧ r = some (.int (-1))) := by
  refine ex_enter (by decide) (Nat.le_of_ble_eq_true rfl) (fun v hv => by simp at hv; rcases hv with rfl | rfl | rfl <;> rfl) (fun p e s m args below meth c => ?_)
  refine ex_iload_n (pc := 0) (i := 1) d_RF_rename_0 rfl rfl ?_
  refine ex_if_lt (pc := 1) (tgt := 19) d_RF_rename_1 rfl (fun c1 => ?_) (fun c1 => ?_)
  · refine ex_iconst (pc := 19) (v := (-1)) d_RF_rename_19 (by decide) ?_
    refine ex_iret (ty := .int) d_RF_rename_20 rfl rfl rfl (Nat.le_refl _) ?_
    exact ⟨rfl, rfl⟩
  · refine ex_iload_n (pc := 4) (i := 1) d_RF_rename_4 rfl rfl ?_
    refine ex_aload_n (pc := 5) (i := 0) d_RF_rename_5 rfl rfl ?_
    refine ex_getx (pc := 6) 12 14 (nI n) d_RF_rename_6 FL_RF_179 (Nat.le_of_ble_eq_true rfl) rfl h14 ?_
    refine ex_icmp_ge (pc := 9) (tgt := 19) d_RF_rename_9 rfl (fun c9 => ?_) (fun c9 => ?_)
    · refine ex_iconst (pc := 19) (v := (-1)) d_RF_rename_19 (by decide) ?_
      refine ex_iret (ty := .int) d_RF_rename_20 rfl rfl rfl (Nat.le_refl _) ?_
      exact ⟨rfl, rfl⟩
    · refine ex_iload_n (pc := 12) (i := 2) d_RF_rename_12 rfl rfl ?_
      refine ex_callS (pc := 13) (M' := M_RF_isName) (as := [.int y]) (st := []) d_RF_rename_13 MW_RF_isName ST_RF_isName LK_RF_127 (ct_RF_isName l G (HP iv mp sp mo) y) (ex_lt_rm (by decide)) ⟨Nat.le_refl _, Nat.le_refl _⟩ rfl rfl (Nat.le_of_ble_eq_true rfl) ?_
      rintro _ _ ⟨rfl, rfl⟩
      refine ex_if_ne (pc := 16) (tgt := 21) d_RF_rename_16 rfl (fun c16 => ?_) (fun c16 => ?_)
      · obtain ⟨q9, hq9, hx9, hh9⟩ := ((hb.resolve_left c1).resolve_left c9).resolve_left (fun z => by have z2 := b2i_1 c16; rw [z] at z2; cases z2)
        refine ex_aload_n (pc := 21) (i := 0) d_RF_rename_21 rfl rfl ?_
        refine ex_getr (pc := 22) 12 26 d_RF_rename_22 FL_RF_80 (Nat.le_of_ble_eq_true rfl) rfl rfl ?_
        refine ex_iload_n (pc := 25) (i := 1) d_RF_rename_25 rfl rfl ?_
        refine ex_ialdx (pc := 26) q9 (iv 116 q9) d_RF_rename_26 (Nat.le_of_ble_eq_true rfl) rfl rfl rfl (by rw [hx9]; exact nI_t (by omega)) (show q9 < 101 by omega) rfl ?_
        refine ex_if_lt (pc := 27) (tgt := 39) d_RF_rename_27 rfl (fun c27 => ?_) (fun c27 => ?_)
        · refine ex_iconst (pc := 39) (v := (-1)) d_RF_rename_39 (by decide) ?_
          refine ex_iret (ty := .int) d_RF_rename_40 rfl rfl rfl (Nat.le_refl _) ?_
          exact ⟨rfl, rfl⟩
        · refine ex_aload_n (pc := 30) (i := 0) d_RF_rename_30 rfl rfl ?_
          refine ex_getr (pc := 31) 12 28 d_RF_rename_31 FL_RF_86 (Nat.le_of_ble_eq_true rfl) rfl rfl ?_
          refine ex_iload_n (pc := 34) (i := 1) d_RF_rename_34 rfl rfl ?_
          refine ex_ialdx (pc := 35) q9 (iv 118 q9) d_RF_rename_35 (Nat.le_of_ble_eq_true rfl) rfl rfl rfl (by rw [hx9]; exact nI_t (by omega)) (show q9 < 101 by omega) rfl ?_
          refine ex_if_ge (pc := 36) (tgt := 41) d_RF_rename_36 rfl (fun c36 => ?_) (fun c36 => ?_)
          · exact absurd (hh9.resolve_left c27) (fun z => by have z1 := i_lt.mp z; have z2 := i_le.mp c36; omega)
          · refine ex_iconst (pc := 39) (v := (-1)) d_RF_rename_39 (by decide) ?_
            refine ex_iret (ty := .int) d_RF_rename_40 rfl rfl rfl (Nat.le_refl _) ?_
            exact ⟨rfl, rfl⟩
      · refine ex_iconst (pc := 19) (v := (-1)) d_RF_rename_19 (by decide) ?_
        refine ex_iret (ty := .int) d_RF_rename_20 rfl rfl rfl (Nat.le_refl _) ?_
        exact ⟨rfl, rfl⟩

