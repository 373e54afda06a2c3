/-! writing models; parts of the reference; how large a draft is -/
def clrF (f : Nat → Int32) (i : Nat) : Nat → Int32 := fun q => if q < i then nI 0 else f q
theorem clr_0 {f : Nat → Int32} : clrF f 0 = f := by
  funext q
  exact if_neg (Nat.not_lt_zero q)
theorem clr_1 {f : Nat → Int32} {i : Nat} : va_up (clrF f i) i (nI 0) = clrF f (i + 1) := by
  funext q
  unfold va_up clrF
  by_cases h1 : q = i
  · rw [if_pos h1, if_pos (by omega)]
  · rw [if_neg h1]
    by_cases h2 : q < i
    · rw [if_pos h2, if_pos (by omega)]
    · rw [if_neg h2, if_neg (by omega)]
def moC0 (iv : Nat → Nat → Int32) (j : Nat) : Nat → Nat → Int32 := ex_u2 (ex_u2 (ex_u2 (ex_u2 iv (9 + 3 * j) 0 (nI 0)) (9 + 3 * j) 1 (nI 0)) (9 + 3 * j) 2 (nI 0)) (9 + 3 * j) 5 (nI 0)
def moC1 (iv : Nat → Nat → Int32) (j i : Nat) : Nat → Nat → Int32 := va_up (moC0 iv j) (10 + 3 * j) (clrF (moC0 iv j (10 + 3 * j)) i)
def moC2 (iv : Nat → Nat → Int32) (j i : Nat) : Nat → Nat → Int32 := va_up (moC1 iv j 11) (11 + 3 * j) (clrF (moC1 iv j 11 (11 + 3 * j)) i)
set_option maxRecDepth 100000 in
set_option maxHeartbeats 4000000 in
theorem lq_Mo_clear {p : Program} {e : Env} {s : State} {m : MethodId} {args : Array Value} {below : List Frame} {meth : Method} {c : Code} (l : Launch) (G : ex_G) (iv : Nat → Nat → Int32) (mp : Nat → Nat) (sp mo : Nat) (j : Nat) (hj : j < 10) : ∀ (k i : Nat), i + k = 8 → EXM M_Mo_clear l G 0 (fun r h' => h' = HP (moC2 iv j 8) mp sp mo ∧ r = none) p e s m args below meth c 46 [some (.ref (9 + 3 * j)), some (.int (nI i))] [] (HP (moC2 iv j i) mp sp mo) := by
  intro k
  induction k with
  | zero =>
    intro i hik
    obtain rfl : i = 8 := by omega
    refine ex_iload_n (pc := 46) (i := 1) d_Mo_clear_46 rfl rfl ?_
    refine ex_aload_n (pc := 47) (i := 0) d_Mo_clear_47 rfl rfl ?_
    refine ex_getr (pc := 48) 7 4 d_Mo_clear_48 FL_Mo_15 (mo_lt hj) (mo_sh hj) (mo_rf hj).2 ?_
    refine ex_alenx (pc := 51) 8 d_Mo_clear_51 (mo_l2 hj) (mo_sh0 j hj).2.2.1 rfl (mo_sh0 j hj).2.2.2.2 ?_
    refine ex_icmp_ge (pc := 52) (tgt := 68) d_Mo_clear_52 rfl (fun c52 => ?_) (fun c52 => ?_)
    · refine ex_vret d_Mo_clear_68 rfl rfl (Nat.le_refl _) ?_
      exact ⟨rfl, rfl⟩
    · exact absurd ((n_ge (by omega) (by omega)).mpr (by omega)) c52
  | succ k ih =>
    intro i hik
    refine ex_iload_n (pc := 46) (i := 1) d_Mo_clear_46 rfl rfl ?_
    refine ex_aload_n (pc := 47) (i := 0) d_Mo_clear_47 rfl rfl ?_
    refine ex_getr (pc := 48) 7 4 d_Mo_clear_48 FL_Mo_15 (mo_lt hj) (mo_sh hj) (mo_rf hj).2 ?_
    refine ex_alenx (pc := 51) 8 d_Mo_clear_51 (mo_l2 hj) (mo_sh0 j hj).2.2.1 rfl (mo_sh0 j hj).2.2.2.2 ?_
    refine ex_icmp_ge (pc := 52) (tgt := 68) d_Mo_clear_52 rfl (fun c52 => ?_) (fun c52 => ?_)
    · exact absurd ((n_ge (by omega) (by omega)).mp c52) (by omega)
    · refine ex_aload_n (pc := 55) (i := 0) d_Mo_clear_55 rfl rfl ?_
      refine ex_getr (pc := 56) 7 4 d_Mo_clear_56 FL_Mo_15 (mo_lt hj) (mo_sh hj) (mo_rf hj).2 ?_
      refine ex_iload_n (pc := 59) (i := 1) d_Mo_clear_59 rfl rfl ?_
      refine ex_iconst (pc := 60) (v := (nI 0)) d_Mo_clear_60 (by decide) ?_
      refine ex_iast (pc := 61) i d_Mo_clear_61 (mo_l2 hj) (mo_sh0 j hj).2.2.1 rfl rfl (nI_t (by omega)) (mo_n2 hj (by omega)) ?_
      refine ex_heap (h' := HP (moC2 iv j (i + 1)) mp sp mo) ?_ ?_
      · show _ = HP (va_up (moC1 iv j 11) (11 + 3 * j) (clrF (moC1 iv j 11 (11 + 3 * j)) (i + 1))) mp sp mo
        rw [← clr_1, ← ex_u2_up]
        rfl
      refine ex_iinc (pc := 62) (v := (nI (i + 1))) d_Mo_clear_62 rfl (nI_1 i) (by decide) ?_
      refine ex_goto (pc := 65) (tgt := 46) d_Mo_clear_65 rfl ?_
      exact ih (i + 1) (by omega)

set_option maxRecDepth 100000 in
set_option maxHeartbeats 4000000 in
theorem lp_Mo_clear {p : Program} {e : Env} {s : State} {m : MethodId} {args : Array Value} {below : List Frame} {meth : Method} {c : Code} (l : Launch) (G : ex_G) (iv : Nat → Nat → Int32) (mp : Nat → Nat) (sp mo : Nat) (j : Nat) (hj : j < 10) : ∀ (k i : Nat), i + k = 11 → EXM M_Mo_clear l G 0 (fun r h' => h' = HP (moC2 iv j 8) mp sp mo ∧ r = none) p e s m args below meth c 22 [some (.ref (9 + 3 * j)), some (.int (nI i))] [] (HP (moC1 iv j i) mp sp mo) := by
  intro k
  induction k with
  | zero =>
    intro i hik
    obtain rfl : i = 11 := by omega
    refine ex_iload_n (pc := 22) (i := 1) d_Mo_clear_22 rfl rfl ?_
    refine ex_aload_n (pc := 23) (i := 0) d_Mo_clear_23 rfl rfl ?_
    refine ex_getr (pc := 24) 7 3 d_Mo_clear_24 FL_Mo_9 (mo_lt hj) (mo_sh hj) (mo_rf hj).1 ?_
    refine ex_alenx (pc := 27) 11 d_Mo_clear_27 (mo_l1 hj) (mo_sh0 j hj).2.1 rfl (mo_sh0 j hj).2.2.2.1 ?_
    refine ex_icmp_ge (pc := 28) (tgt := 44) d_Mo_clear_28 rfl (fun c28 => ?_) (fun c28 => ?_)
    · refine ex_iconst (pc := 44) (v := (nI 0)) d_Mo_clear_44 (by decide) ?_
      refine ex_istore_n (pc := 45) (i := 1) d_Mo_clear_45 rfl (by decide) ?_
      refine ex_heap (h' := HP (moC2 iv j 0) mp sp mo) ?_ ?_
      · rw [moC2, clr_0, up_id]
      exact lq_Mo_clear l G iv mp sp mo j hj 8 0 (by omega)
    · exact absurd ((n_ge (by omega) (by omega)).mpr (by omega)) c28
  | succ k ih =>
    intro i hik
    refine ex_iload_n (pc := 22) (i := 1) d_Mo_clear_22 rfl rfl ?_
    refine ex_aload_n (pc := 23) (i := 0) d_Mo_clear_23 rfl rfl ?_
    refine ex_getr (pc := 24) 7 3 d_Mo_clear_24 FL_Mo_9 (mo_lt hj) (mo_sh hj) (mo_rf hj).1 ?_
    refine ex_alenx (pc := 27) 11 d_Mo_clear_27 (mo_l1 hj) (mo_sh0 j hj).2.1 rfl (mo_sh0 j hj).2.2.2.1 ?_
    refine ex_icmp_ge (pc := 28) (tgt := 44) d_Mo_clear_28 rfl (fun c28 => ?_) (fun c28 => ?_)
    · exact absurd ((n_ge (by omega) (by omega)).mp c28) (by omega)
    · refine ex_aload_n (pc := 31) (i := 0) d_Mo_clear_31 rfl rfl ?_
      refine ex_getr (pc := 32) 7 3 d_Mo_clear_32 FL_Mo_9 (mo_lt hj) (mo_sh hj) (mo_rf hj).1 ?_
      refine ex_iload_n (pc := 35) (i := 1) d_Mo_clear_35 rfl rfl ?_
      refine ex_iconst (pc := 36) (v := (nI 0)) d_Mo_clear_36 (by decide) ?_
      refine ex_iast (pc := 37) i d_Mo_clear_37 (mo_l1 hj) (mo_sh0 j hj).2.1 rfl rfl (nI_t (by omega)) (mo_n1 hj (by omega)) ?_
      refine ex_heap (h' := HP (moC1 iv j (i + 1)) mp sp mo) ?_ ?_
      · show _ = HP (va_up (moC0 iv j) (10 + 3 * j) (clrF (moC0 iv j (10 + 3 * j)) (i + 1))) mp sp mo
        rw [← clr_1, ← ex_u2_up]
        rfl
      refine ex_iinc (pc := 38) (v := (nI (i + 1))) d_Mo_clear_38 rfl (nI_1 i) (by decide) ?_
      refine ex_goto (pc := 41) (tgt := 22) d_Mo_clear_41 rfl ?_
      exact ih (i + 1) (by omega)

set_option maxRecDepth 100000 in
set_option maxHeartbeats 4000000 in
theorem ct_Mo_clear (l : Launch) (G : ex_G) (iv : Nat → Nat → Int32) (mp : Nat → Nat) (sp mo : Nat) (j : Nat) (hj : j < 10) : CT l G 0 M_Mo_clear [.ref (9 + 3 * j)] (HP iv mp sp mo) 0 0 (fun r h' => h' = HP (moC2 iv j 8) mp sp mo ∧ r = none) := by
  refine ex_enter (by decide) (Nat.le_of_ble_eq_true rfl) (fun v hv => by simp at hv; rcases hv with rfl <;> rfl) (fun p e s m args below meth c => ?_)
  refine ex_aload_n (pc := 0) (i := 0) d_Mo_clear_0 rfl rfl ?_
  refine ex_iconst (pc := 1) (v := (nI 0)) d_Mo_clear_1 (by decide) ?_
  refine ex_puti (pc := 2) 7 0 .boolean d_Mo_clear_2 (PF_Mo_18 _) (mo_lt hj) (mo_sh hj) rfl rfl ?_
  refine ex_aload_n (pc := 5) (i := 0) d_Mo_clear_5 rfl rfl ?_
  refine ex_iconst (pc := 6) (v := (nI 0)) d_Mo_clear_6 (by decide) ?_
  refine ex_puti (pc := 7) 7 1 .boolean d_Mo_clear_7 (PF_Mo_22 _) (mo_lt hj) (mo_sh hj) rfl rfl ?_
  refine ex_aload_n (pc := 10) (i := 0) d_Mo_clear_10 rfl rfl ?_
  refine ex_iconst (pc := 11) (v := (nI 0)) d_Mo_clear_11 (by decide) ?_
  refine ex_puti (pc := 12) 7 2 .int d_Mo_clear_12 (PF_Mo_25 _) (mo_lt hj) (mo_sh hj) rfl rfl ?_
  refine ex_aload_n (pc := 15) (i := 0) d_Mo_clear_15 rfl rfl ?_
  refine ex_iconst (pc := 16) (v := (nI 0)) d_Mo_clear_16 (by decide) ?_
  refine ex_puti (pc := 17) 7 5 .int d_Mo_clear_17 (PF_Mo_29 _) (mo_lt hj) (mo_sh hj) rfl rfl ?_
  refine ex_iconst (pc := 20) (v := (nI 0)) d_Mo_clear_20 (by decide) ?_
  refine ex_istore_n (pc := 21) (i := 1) d_Mo_clear_21 rfl (by decide) ?_
  refine ex_heap (h' := HP (moC1 iv j 0) mp sp mo) ?_ ?_
  · rw [moC1, clr_0, up_id]
    rfl
  exact lp_Mo_clear l G iv mp sp mo j hj 11 0 (by omega)

def moAdd (iv : Nat → Nat → Int32) (j n q : Nat) : Nat → Nat → Int32 := ex_u2 (ex_u2 iv (9 + 3 * j) 2 (nI (n + 1))) (11 + 3 * j) q (iv (11 + 3 * j) q ||| nI 1 <<< (nI n &&& 31))
set_option maxRecDepth 100000 in
set_option maxHeartbeats 4000000 in
theorem ct_Mo_addState (l : Launch) (G : ex_G) (iv : Nat → Nat → Int32) (mp : Nat → Nat) (sp mo : Nat) (j : Nat) (hj : j < 10) (n : Nat) (hn : iv (9 + 3 * j) 2 = nI n) (hl : n ≤ 10) (y : Int32) : CT l G 1 M_Mo_addState [.ref (9 + 3 * j), .int y] (HP iv mp sp mo) 0 0 (fun r h' => h' = HP (if n < 10 ∧ nmB y = true then moAdd iv j n (y.toInt - 97).toNat else iv) mp sp mo ∧ r = some (.int (if n < 10 ∧ nmB y = true then nI 1 <<< (nI n &&& 31) else nI 0))) := by
  refine ex_enter (by decide) (Nat.le_of_ble_eq_true rfl) (fun v hv => by simp at hv; rcases hv with rfl | rfl <;> rfl) (fun p e s m args below meth c => ?_)
  refine ex_aload_n (pc := 0) (i := 0) d_Mo_addState_0 rfl rfl ?_
  refine ex_getx (pc := 1) 7 2 (nI n) d_Mo_addState_1 FL_Mo_25 (mo_lt hj) (mo_sh hj) hn ?_
  refine ex_bipush (pc := 4) (v := (nI 10)) d_Mo_addState_4 (by decide) ?_
  refine ex_icmp_ge (pc := 6) (tgt := 16) d_Mo_addState_6 rfl (fun c6 => ?_) (fun c6 => ?_)
  · refine ex_iconst (pc := 16) (v := (nI 0)) d_Mo_addState_16 (by decide) ?_
    refine ex_iret (ty := .int) d_Mo_addState_17 rfl rfl rfl (Nat.le_refl _) ?_
    have h10 : ¬ n < 10 := by
      have q1 := (n_ge (by omega) (by omega)).mp c6
      omega
    rw [if_neg (fun q => h10 q.1), if_neg (fun q => h10 q.1)]
    exact ⟨rfl, rfl⟩
  · refine ex_iload_n (pc := 9) (i := 1) d_Mo_addState_9 rfl rfl ?_
    refine ex_callS (pc := 10) (M' := M_TG_isName) (as := [.int y]) (st := []) d_Mo_addState_10 MW_TG_isName ST_TG_isName LK_Mo_32 (ct_TG_isName l G (HP iv mp sp mo) y) (ex_lt_rm (by decide)) ⟨Nat.le_refl _, Nat.le_refl _⟩ rfl rfl (Nat.le_of_ble_eq_true rfl) ?_
    rintro _ _ ⟨rfl, rfl⟩
    refine ex_if_ne (pc := 13) (tgt := 18) d_Mo_addState_13 rfl (fun c13 => ?_) (fun c13 => ?_)
    · have h10 : n < 10 := by
        have q1 := fun q => c6 ((n_ge (by omega) (by omega)).mpr q)
        exact Nat.lt_of_not_le q1
      obtain ⟨q, hq, rfl⟩ := nm_q (b2i_1 c13)
      obtain ⟨hq1, hq2, hq3⟩ := nm_v hq
      rw [if_pos ⟨h10, hq1⟩, if_pos ⟨h10, hq1⟩, hq2]
      refine ex_iconst (pc := 18) (v := (nI 1)) d_Mo_addState_18 (by decide) ?_
      refine ex_aload_n (pc := 19) (i := 0) d_Mo_addState_19 rfl rfl ?_
      refine ex_getx (pc := 20) 7 2 (nI n) d_Mo_addState_20 FL_Mo_25 (mo_lt hj) (mo_sh hj) hn ?_
      refine ex_ishl (pc := 23) d_Mo_addState_23 ?_
      refine ex_istore_n (pc := 24) (i := 2) d_Mo_addState_24 rfl (by decide) ?_
      refine ex_aload_n (pc := 25) (i := 0) d_Mo_addState_25 rfl rfl ?_
      refine ex_dup (pc := 26) d_Mo_addState_26 rfl ?_
      refine ex_getx (pc := 27) 7 2 (nI n) d_Mo_addState_27 FL_Mo_25 (mo_lt hj) (mo_sh hj) hn ?_
      refine ex_iconst (pc := 30) (v := (nI 1)) d_Mo_addState_30 (by decide) ?_
      refine ex_iadd (pc := 31) d_Mo_addState_31 ?_
      refine ex_puti (pc := 32) 7 2 .int d_Mo_addState_32 (PF_Mo_25 _) (mo_lt hj) (mo_sh hj) rfl rfl ?_
      refine ex_aload_n (pc := 35) (i := 0) d_Mo_addState_35 rfl rfl ?_
      refine ex_getr (pc := 36) 7 4 d_Mo_addState_36 FL_Mo_15 (mo_lt hj) (mo_sh hj) (mo_rf hj).2 ?_
      refine ex_iload_n (pc := 39) (i := 1) d_Mo_addState_39 rfl rfl ?_
      refine ex_bipush (pc := 40) (v := (nI 97)) d_Mo_addState_40 (by decide) ?_
      refine ex_isub (pc := 42) d_Mo_addState_42 ?_
      refine ex_dup2 (pc := 43) d_Mo_addState_43 rfl rfl ?_
      refine ex_ialdx (pc := 44) q (iv (11 + 3 * j) q) d_Mo_addState_44 (mo_l2 hj) (mo_sh0 j hj).2.2.1 rfl rfl (by rw [hq3]; exact nI_t (by omega)) (mo_n2 hj hq) (congrFun (ex_u2_ne _ _ _ (by omega)) q) ?_
      refine ex_iload_n (pc := 45) (i := 2) d_Mo_addState_45 rfl rfl ?_
      refine ex_ior (pc := 46) d_Mo_addState_46 ?_
      refine ex_iast (pc := 47) q d_Mo_addState_47 (mo_l2 hj) (mo_sh0 j hj).2.2.1 rfl rfl (by rw [hq3]; exact nI_t (by omega)) (mo_n2 hj hq) ?_
      refine ex_iload_n (pc := 48) (i := 2) d_Mo_addState_48 rfl rfl ?_
      refine ex_iret (ty := .int) d_Mo_addState_49 rfl rfl rfl (Nat.le_refl _) ?_
      exact ⟨by rw [moAdd, ← nI_s n]; rfl, rfl⟩
    · refine ex_iconst (pc := 16) (v := (nI 0)) d_Mo_addState_16 (by decide) ?_
      refine ex_iret (ty := .int) d_Mo_addState_17 rfl rfl rfl (Nat.le_refl _) ?_
      have h9 := b2i_0 c13
      rw [if_neg (fun q => by rw [h9] at q; exact absurd q.2 (by decide)), if_neg (fun q => by rw [h9] at q; exact absurd q.2 (by decide))]
      exact ⟨rfl, rfl⟩

def jnF (f : Nat → Int32) (x y : Int32) (i : Nat) : Nat → Int32 := fun q => if q < i ∧ ¬ x >>> (nI q &&& 31) &&& nI 1 = 0 then f q ||| y else f q
theorem jn_0 {f : Nat → Int32} {x y : Int32} : jnF f x y 0 = f := by
  funext q
  exact if_neg (fun h => Nat.not_lt_zero q h.1)
theorem jn_y {f : Nat → Int32} {x y : Int32} {i : Nat} (h : ¬ x >>> (nI i &&& 31) &&& nI 1 = 0) : va_up (jnF f x y i) i (f i ||| y) = jnF f x y (i + 1) := by
  funext q
  unfold va_up jnF
  by_cases h1 : q = i
  · subst h1
    rw [if_pos rfl, if_pos ⟨by omega, h⟩]
  · rw [if_neg h1]
    by_cases h2 : q < i ∧ ¬ x >>> (nI q &&& 31) &&& nI 1 = 0
    · rw [if_pos h2, if_pos ⟨by omega, h2.2⟩]
    · rw [if_neg h2, if_neg (fun q => h2 ⟨by omega, q.2⟩)]
theorem jn_n {f : Nat → Int32} {x y : Int32} {i : Nat} (h : x >>> (nI i &&& 31) &&& nI 1 = 0) : jnF f x y i = jnF f x y (i + 1) := by
  funext q
  unfold jnF
  by_cases h2 : q < i ∧ ¬ x >>> (nI q &&& 31) &&& nI 1 = 0
  · rw [if_pos h2, if_pos ⟨by omega, h2.2⟩]
  · rw [if_neg h2, if_neg (fun z => ?_)]
    by_cases h1 : q = i
    · subst h1
      exact z.2 h
    · exact h2 ⟨by omega, z.2⟩
theorem jn_hi {f : Nat → Int32} {x y : Int32} {i q : Nat} (h : i ≤ q) : jnF f x y i q = f q := if_neg (fun z => by omega)
set_option maxRecDepth 100000 in
set_option maxHeartbeats 4000000 in
theorem lp_Mo_join {p : Program} {e : Env} {s : State} {m : MethodId} {args : Array Value} {below : List Frame} {meth : Method} {c : Code} (l : Launch) (G : ex_G) (iv : Nat → Nat → Int32) (mp : Nat → Nat) (sp mo : Nat) (j : Nat) (hj : j < 10) (x y : Int32) : ∀ (k i : Nat), i + k = 11 → EXM M_Mo_join l G 0 (fun r h' => h' = HP (va_up iv (10 + 3 * j) (jnF (iv (10 + 3 * j)) x y 11)) mp sp mo ∧ r = none) p e s m args below meth c 2 [some (.ref (9 + 3 * j)), some (.int x), some (.int y), some (.int (nI i))] [] (HP (va_up iv (10 + 3 * j) (jnF (iv (10 + 3 * j)) x y i)) mp sp mo) := by
  intro k
  induction k with
  | zero =>
    intro i hik
    obtain rfl : i = 11 := by omega
    refine ex_iload_n (pc := 2) (i := 3) d_Mo_join_2 rfl rfl ?_
    refine ex_aload_n (pc := 3) (i := 0) d_Mo_join_3 rfl rfl ?_
    refine ex_getr (pc := 4) 7 3 d_Mo_join_4 FL_Mo_9 (mo_lt hj) (mo_sh hj) (mo_rf hj).1 ?_
    refine ex_alenx (pc := 7) 11 d_Mo_join_7 (mo_l1 hj) (mo_sh0 j hj).2.1 rfl (mo_sh0 j hj).2.2.2.1 ?_
    refine ex_icmp_ge (pc := 8) (tgt := 35) d_Mo_join_8 rfl (fun c8 => ?_) (fun c8 => ?_)
    · refine ex_vret d_Mo_join_35 rfl rfl (Nat.le_refl _) ?_
      exact ⟨rfl, rfl⟩
    · exact absurd ((n_ge (by omega) (by omega)).mpr (by omega)) c8
  | succ k ih =>
    intro i hik
    refine ex_iload_n (pc := 2) (i := 3) d_Mo_join_2 rfl rfl ?_
    refine ex_aload_n (pc := 3) (i := 0) d_Mo_join_3 rfl rfl ?_
    refine ex_getr (pc := 4) 7 3 d_Mo_join_4 FL_Mo_9 (mo_lt hj) (mo_sh hj) (mo_rf hj).1 ?_
    refine ex_alenx (pc := 7) 11 d_Mo_join_7 (mo_l1 hj) (mo_sh0 j hj).2.1 rfl (mo_sh0 j hj).2.2.2.1 ?_
    refine ex_icmp_ge (pc := 8) (tgt := 35) d_Mo_join_8 rfl (fun c8 => ?_) (fun c8 => ?_)
    · exact absurd ((n_ge (by omega) (by omega)).mp c8) (by omega)
    · refine ex_iload_n (pc := 11) (i := 1) d_Mo_join_11 rfl rfl ?_
      refine ex_iload_n (pc := 12) (i := 3) d_Mo_join_12 rfl rfl ?_
      refine ex_ishr (pc := 13) d_Mo_join_13 ?_
      refine ex_iconst (pc := 14) (v := (nI 1)) d_Mo_join_14 (by decide) ?_
      refine ex_iand (pc := 15) d_Mo_join_15 ?_
      refine ex_if_eq (pc := 16) (tgt := 29) d_Mo_join_16 rfl (fun c16 => ?_) (fun c16 => ?_)
      · refine ex_iinc (pc := 29) (v := (nI (i + 1))) d_Mo_join_29 rfl (nI_1 i) (by decide) ?_
        refine ex_goto (pc := 32) (tgt := 2) d_Mo_join_32 rfl ?_
        rw [jn_n c16]
        exact ih (i + 1) (by omega)
      · refine ex_aload_n (pc := 19) (i := 0) d_Mo_join_19 rfl rfl ?_
        refine ex_getr (pc := 20) 7 3 d_Mo_join_20 FL_Mo_9 (mo_lt hj) (mo_sh hj) (mo_rf hj).1 ?_
        refine ex_iload_n (pc := 23) (i := 3) d_Mo_join_23 rfl rfl ?_
        refine ex_dup2 (pc := 24) d_Mo_join_24 rfl rfl ?_
        refine ex_ialdx (pc := 25) i (iv (10 + 3 * j) i) d_Mo_join_25 (mo_l1 hj) (mo_sh0 j hj).2.1 rfl rfl (nI_t (by omega)) (mo_n1 hj (by omega)) (by show va_up iv (10 + 3 * j) _ (10 + 3 * j) i = _; rw [va_up_self, jn_hi (Nat.le_refl _)]) ?_
        refine ex_iload_n (pc := 26) (i := 2) d_Mo_join_26 rfl rfl ?_
        refine ex_ior (pc := 27) d_Mo_join_27 ?_
        refine ex_iast (pc := 28) i d_Mo_join_28 (mo_l1 hj) (mo_sh0 j hj).2.1 rfl rfl (nI_t (by omega)) (mo_n1 hj (by omega)) ?_
        refine ex_iinc (pc := 29) (v := (nI (i + 1))) d_Mo_join_29 rfl (nI_1 i) (by decide) ?_
        refine ex_goto (pc := 32) (tgt := 2) d_Mo_join_32 rfl ?_
        refine ex_heap (h' := HP (va_up iv (10 + 3 * j) (jnF (iv (10 + 3 * j)) x y (i + 1))) mp sp mo) ?_ ?_
        · rw [← jn_y c16, ← ex_u2_up]
          rfl
        exact ih (i + 1) (by omega)

set_option maxRecDepth 100000 in
set_option maxHeartbeats 4000000 in
theorem ct_Mo_join (l : Launch) (G : ex_G) (iv : Nat → Nat → Int32) (mp : Nat → Nat) (sp mo : Nat) (j : Nat) (hj : j < 10) (x y : Int32) : CT l G 0 M_Mo_join [.ref (9 + 3 * j), .int x, .int y] (HP iv mp sp mo) 0 0 (fun r h' => h' = HP (va_up iv (10 + 3 * j) (jnF (iv (10 + 3 * j)) x y 11)) mp sp mo ∧ r = none) := by
  refine ex_enter (by decide) (Nat.le_of_ble_eq_true rfl) (fun v hv => by simp at hv; rcases hv with rfl | rfl | rfl <;> rfl) (fun p e s m args below meth c => ?_)
  refine ex_iconst (pc := 0) (v := (nI 0)) d_Mo_join_0 (by decide) ?_
  refine ex_istore_n (pc := 1) (i := 3) d_Mo_join_1 rfl (by decide) ?_
  refine ex_heap (h' := HP (va_up iv (10 + 3 * j) (jnF (iv (10 + 3 * j)) x y 0)) mp sp mo) ?_ ?_
  · rw [jn_0, up_id]
  exact lp_Mo_join l G iv mp sp mo j hj x y 11 0 (by omega)

def moCom (iv : Nat → Nat → Int32) (j : Nat) (x y z : Int32) : Nat → Nat → Int32 := ex_u2 (ex_u2 (ex_u2 iv (10 + 3 * j) 10 x) (9 + 3 * j) 5 (if z = 0 then y else y ||| nI 1024)) (9 + 3 * j) 0 (nI 1)
set_option maxRecDepth 100000 in
set_option maxHeartbeats 4000000 in
theorem ct_Mo_complete (l : Launch) (G : ex_G) (iv : Nat → Nat → Int32) (mp : Nat → Nat) (sp mo : Nat) (j : Nat) (hj : j < 10) (x y z : Int32) : CT l G 1 M_Mo_complete [.ref (9 + 3 * j), .int x, .int y, .int z] (HP iv mp sp mo) 0 0 (fun r h' => h' = HP (moCom iv j x y z) mp sp mo ∧ r = none) := by
  refine ex_enter (by decide) (Nat.le_of_ble_eq_true rfl) (fun v hv => by simp at hv; rcases hv with rfl | rfl | rfl | rfl <;> rfl) (fun p e s m args below meth c => ?_)
  refine ex_aload_n (pc := 0) (i := 0) d_Mo_complete_0 rfl rfl ?_
  refine ex_getr (pc := 1) 7 3 d_Mo_complete_1 FL_Mo_9 (mo_lt hj) (mo_sh hj) (mo_rf hj).1 ?_
  refine ex_bipush (pc := 4) (v := (nI 10)) d_Mo_complete_4 (by decide) ?_
  refine ex_iload_n (pc := 6) (i := 1) d_Mo_complete_6 rfl rfl ?_
  refine ex_iast (pc := 7) 10 d_Mo_complete_7 (mo_l1 hj) (mo_sh0 j hj).2.1 rfl rfl (by decide) (mo_n1 hj (by omega)) ?_
  refine ex_aload_n (pc := 8) (i := 0) d_Mo_complete_8 rfl rfl ?_
  refine ex_iload_n (pc := 9) (i := 3) d_Mo_complete_9 rfl rfl ?_
  refine ex_if_eq (pc := 10) (tgt := 22) d_Mo_complete_10 rfl (fun c10 => ?_) (fun c10 => ?_)
  · refine ex_iload_n (pc := 22) (i := 2) d_Mo_complete_22 rfl rfl ?_
    refine ex_puti (pc := 23) 7 5 .int d_Mo_complete_23 (PF_Mo_29 _) (mo_lt hj) (mo_sh hj) rfl rfl ?_
    refine ex_aload_n (pc := 26) (i := 0) d_Mo_complete_26 rfl rfl ?_
    refine ex_iconst (pc := 27) (v := (nI 1)) d_Mo_complete_27 (by decide) ?_
    refine ex_puti (pc := 28) 7 0 .boolean d_Mo_complete_28 (PF_Mo_18 _) (mo_lt hj) (mo_sh hj) rfl rfl ?_
    refine ex_vret d_Mo_complete_31 rfl rfl (Nat.le_refl _) ?_
    exact ⟨by rw [moCom, if_pos c10]; rfl, rfl⟩
  · refine ex_iload_n (pc := 13) (i := 2) d_Mo_complete_13 rfl rfl ?_
    refine ex_aload_n (pc := 14) (i := 0) d_Mo_complete_14 rfl rfl ?_
    refine ex_callV (pc := 15) (M' := M_Mo_start) (as := []) (st := [.int y, .ref (9 + 3 * j)]) d_Mo_complete_15 MW_Mo_start MI_Mo_start LK_Mo_36 (mo_lt hj) (mo_sh hj) rfl rfl (ct_Mo_start l G (ex_u2 iv (10 + 3 * j) 10 x) mp sp mo j hj) (ex_lt_rm (by decide)) ⟨Nat.le_refl _, Nat.le_refl _⟩ rfl rfl (Nat.le_of_ble_eq_true rfl) ?_
    rintro _ _ ⟨rfl, rfl⟩
    refine ex_ior (pc := 18) d_Mo_complete_18 ?_
    refine ex_goto (pc := 19) (tgt := 23) d_Mo_complete_19 rfl ?_
    refine ex_puti (pc := 23) 7 5 .int d_Mo_complete_23 (PF_Mo_29 _) (mo_lt hj) (mo_sh hj) rfl rfl ?_
    refine ex_aload_n (pc := 26) (i := 0) d_Mo_complete_26 rfl rfl ?_
    refine ex_iconst (pc := 27) (v := (nI 1)) d_Mo_complete_27 (by decide) ?_
    refine ex_puti (pc := 28) 7 0 .boolean d_Mo_complete_28 (PF_Mo_18 _) (mo_lt hj) (mo_sh hj) rfl rfl ?_
    refine ex_vret d_Mo_complete_31 rfl rfl (Nat.le_refl _) ?_
    exact ⟨by rw [moCom, if_neg c10]; rfl, rfl⟩

theorem nar_z (b : Bool) : vp_nar .boolean (b2i b) = b2i b := by cases b <;> decide
def rfSet (iv : Nat → Nat → Int32) (t : Nat) (b1 : Bool) (f l : Int32) (b2 : Bool) : Nat → Nat → Int32 := ex_u2 (ex_u2 (ex_u2 (ex_u2 iv 102 t (b2i b1)) 103 t f) 104 t l) 105 t (b2i b2)
set_option maxRecDepth 100000 in
set_option maxHeartbeats 4000000 in
theorem ct_RF_setPart (l : Launch) (G : ex_G) (iv : Nat → Nat → Int32) (mp : Nat → Nat) (sp mo : Nat) (t : Nat) (ht : t < 14) (b1 : Bool) (f g : Int32) (b2 : Bool) : CT l G 0 M_RF_setPart [.ref 92, .int (nI t), .int (b2i b1), .int f, .int g, .int (b2i b2)] (HP iv mp sp mo) 0 0 (fun r h' => h' = HP (rfSet iv t b1 f g b2) mp sp mo ∧ r = none) := by
  refine ex_enter (by decide) (Nat.le_of_ble_eq_true rfl) (fun v hv => by simp at hv; rcases hv with rfl | rfl | rfl | rfl | rfl | rfl <;> rfl) (fun p e s m args below meth c => ?_)
  refine ex_aload_n (pc := 0) (i := 0) d_RF_setPart_0 rfl rfl ?_
  refine ex_getr (pc := 1) 12 10 d_RF_setPart_1 FL_RF_38 (Nat.le_of_ble_eq_true rfl) rfl rfl ?_
  refine ex_iload_n (pc := 4) (i := 1) d_RF_setPart_4 rfl rfl ?_
  refine ex_iload_n (pc := 5) (i := 2) d_RF_setPart_5 rfl rfl ?_
  refine ex_zast (pc := 6) t d_RF_setPart_6 (Nat.le_of_ble_eq_true rfl) rfl rfl rfl (nI_t (by omega)) (show t < 14 from ht) ?_
  refine ex_aload_n (pc := 7) (i := 0) d_RF_setPart_7 rfl rfl ?_
  refine ex_getr (pc := 8) 12 11 d_RF_setPart_8 FL_RF_41 (Nat.le_of_ble_eq_true rfl) rfl rfl ?_
  refine ex_iload_n (pc := 11) (i := 1) d_RF_setPart_11 rfl rfl ?_
  refine ex_iload_n (pc := 12) (i := 3) d_RF_setPart_12 rfl rfl ?_
  refine ex_iast (pc := 13) t d_RF_setPart_13 (Nat.le_of_ble_eq_true rfl) rfl rfl rfl (nI_t (by omega)) (show t < 14 from ht) ?_
  refine ex_aload_n (pc := 14) (i := 0) d_RF_setPart_14 rfl rfl ?_
  refine ex_getr (pc := 15) 12 12 d_RF_setPart_15 FL_RF_44 (Nat.le_of_ble_eq_true rfl) rfl rfl ?_
  refine ex_iload_n (pc := 18) (i := 1) d_RF_setPart_18 rfl rfl ?_
  refine ex_iload (pc := 19) d_RF_setPart_19 rfl ?_
  refine ex_iast (pc := 21) t d_RF_setPart_21 (Nat.le_of_ble_eq_true rfl) rfl rfl rfl (nI_t (by omega)) (show t < 14 from ht) ?_
  refine ex_aload_n (pc := 22) (i := 0) d_RF_setPart_22 rfl rfl ?_
  refine ex_getr (pc := 23) 12 13 d_RF_setPart_23 FL_RF_47 (Nat.le_of_ble_eq_true rfl) rfl rfl ?_
  refine ex_iload_n (pc := 26) (i := 1) d_RF_setPart_26 rfl rfl ?_
  refine ex_iload (pc := 27) d_RF_setPart_27 rfl ?_
  refine ex_zast (pc := 29) t d_RF_setPart_29 (Nat.le_of_ble_eq_true rfl) rfl rfl rfl (nI_t (by omega)) (show t < 14 from ht) ?_
  refine ex_heap (h' := HP (rfSet iv t b1 f g b2) mp sp mo) ?_ ?_
  · rw [nar_z, nar_z]
    rfl
  refine ex_vret d_RF_setPart_30 rfl rfl (Nat.le_refl _) ?_
  exact ⟨rfl, rfl⟩

def lkF (f : Nat → Int32) (x y : Int32) (i : Nat) : Nat → Int32 := fun q => if 90 ≤ q ∧ q < 90 + i ∧ x >>> (nI (q - 90) &&& 31) &&& nI 1 = nI 1 then f q ||| y else f q
theorem lk_0 {f : Nat → Int32} {x y : Int32} : lkF f x y 0 = f := by
  funext q
  exact if_neg (fun h => by omega)
theorem lk_y {f : Nat → Int32} {x y : Int32} {i : Nat} (h : x >>> (nI i &&& 31) &&& nI 1 = nI 1) : va_up (lkF f x y i) (90 + i) (f (90 + i) ||| y) = lkF f x y (i + 1) := by
  funext q
  unfold va_up lkF
  by_cases h1 : q = 90 + i
  · subst h1
    rw [if_pos rfl, if_pos ⟨by omega, by omega, by rw [Nat.add_sub_cancel_left]; exact h⟩]
  · rw [if_neg h1]
    by_cases h2 : 90 ≤ q ∧ q < 90 + i ∧ x >>> (nI (q - 90) &&& 31) &&& nI 1 = nI 1
    · rw [if_pos h2, if_pos ⟨h2.1, by omega, h2.2.2⟩]
    · rw [if_neg h2, if_neg (fun z => h2 ⟨z.1, by omega, z.2.2⟩)]
theorem lk_n {f : Nat → Int32} {x y : Int32} {i : Nat} (h : ¬ x >>> (nI i &&& 31) &&& nI 1 = nI 1) : lkF f x y i = lkF f x y (i + 1) := by
  funext q
  unfold lkF
  by_cases h2 : 90 ≤ q ∧ q < 90 + i ∧ x >>> (nI (q - 90) &&& 31) &&& nI 1 = nI 1
  · rw [if_pos h2, if_pos ⟨h2.1, by omega, h2.2.2⟩]
  · rw [if_neg h2, if_neg (fun z => ?_)]
    by_cases h1 : q = 90 + i
    · subst h1
      exact h (by have z1 := z.2.2; rw [Nat.add_sub_cancel_left] at z1; exact z1)
    · exact h2 ⟨z.1, by omega, z.2.2⟩
theorem lk_hi {f : Nat → Int32} {x y : Int32} {i q : Nat} (h : 90 + i ≤ q) : lkF f x y i q = f q := if_neg (fun z => by omega)
set_option maxRecDepth 100000 in
set_option maxHeartbeats 4000000 in
theorem lp_RF_link {p : Program} {e : Env} {s : State} {m : MethodId} {args : Array Value} {below : List Frame} {meth : Method} {c : Code} (l : Launch) (G : ex_G) (iv : Nat → Nat → Int32) (mp : Nat → Nat) (sp mo : Nat) (x y : Int32) : ∀ (k i : Nat), i + k = 10 → EXM M_RF_link l G 0 (fun r h' => h' = HP (va_up iv 101 (lkF (iv 101) x y 10)) mp sp mo ∧ r = none) p e s m args below meth c 2 [some (.ref 92), some (.int x), some (.int y), some (.int (nI i))] [] (HP (va_up iv 101 (lkF (iv 101) x y i)) mp sp mo) := by
  intro k
  induction k with
  | zero =>
    intro i hik
    obtain rfl : i = 10 := by omega
    refine ex_iload_n (pc := 2) (i := 3) d_RF_link_2 rfl rfl ?_
    refine ex_bipush (pc := 3) (v := (nI 10)) d_RF_link_3 (by decide) ?_
    refine ex_icmp_ge (pc := 5) (tgt := 43) d_RF_link_5 rfl (fun c5 => ?_) (fun c5 => ?_)
    · refine ex_vret d_RF_link_43 rfl rfl (Nat.le_refl _) ?_
      exact ⟨rfl, rfl⟩
    · exact absurd ((n_ge (by omega) (by omega)).mpr (by omega)) c5
  | succ k ih =>
    intro i hik
    refine ex_iload_n (pc := 2) (i := 3) d_RF_link_2 rfl rfl ?_
    refine ex_bipush (pc := 3) (v := (nI 10)) d_RF_link_3 (by decide) ?_
    refine ex_icmp_ge (pc := 5) (tgt := 43) d_RF_link_5 rfl (fun c5 => ?_) (fun c5 => ?_)
    · exact absurd ((n_ge (by omega) (by omega)).mp c5) (by omega)
    · refine ex_iload_n (pc := 8) (i := 1) d_RF_link_8 rfl rfl ?_
      refine ex_iload_n (pc := 9) (i := 3) d_RF_link_9 rfl rfl ?_
      refine ex_ishr (pc := 10) d_RF_link_10 ?_
      refine ex_iconst (pc := 11) (v := (nI 1)) d_RF_link_11 (by decide) ?_
      refine ex_iand (pc := 12) d_RF_link_12 ?_
      refine ex_iconst (pc := 13) (v := (nI 1)) d_RF_link_13 (by decide) ?_
      refine ex_icmp_ne (pc := 14) (tgt := 37) d_RF_link_14 rfl (fun c14 => ?_) (fun c14 => ?_)
      · refine ex_iinc (pc := 37) (v := (nI (i + 1))) d_RF_link_37 rfl (nI_1 i) (by decide) ?_
        refine ex_goto (pc := 40) (tgt := 2) d_RF_link_40 rfl ?_
        rw [lk_n c14]
        exact ih (i + 1) (by omega)
      · refine ex_aload_n (pc := 17) (i := 0) d_RF_link_17 rfl rfl ?_
        refine ex_getr (pc := 18) 12 9 d_RF_link_18 FL_RF_35 (Nat.le_of_ble_eq_true rfl) rfl rfl ?_
        refine ex_bipush (pc := 21) (v := (nI 90)) d_RF_link_21 (by decide) ?_
        refine ex_iload_n (pc := 23) (i := 3) d_RF_link_23 rfl rfl ?_
        refine ex_iadd (pc := 24) d_RF_link_24 ?_
        refine ex_aload_n (pc := 25) (i := 0) d_RF_link_25 rfl rfl ?_
        refine ex_getr (pc := 26) 12 9 d_RF_link_26 FL_RF_35 (Nat.le_of_ble_eq_true rfl) rfl rfl ?_
        refine ex_bipush (pc := 29) (v := (nI 90)) d_RF_link_29 (by decide) ?_
        refine ex_iload_n (pc := 31) (i := 3) d_RF_link_31 rfl rfl ?_
        refine ex_iadd (pc := 32) d_RF_link_32 ?_
        refine ex_ialdx (pc := 33) (90 + i) (iv 101 (90 + i)) d_RF_link_33 (Nat.le_of_ble_eq_true rfl) rfl rfl rfl (by rw [nI_add]; exact nI_t (by omega)) (show 90 + i < 100 by omega) (lk_hi (Nat.le_refl _)) ?_
        refine ex_iload_n (pc := 34) (i := 2) d_RF_link_34 rfl rfl ?_
        refine ex_ior (pc := 35) d_RF_link_35 ?_
        refine ex_iast (pc := 36) (90 + i) d_RF_link_36 (Nat.le_of_ble_eq_true rfl) rfl rfl rfl (by rw [nI_add]; exact nI_t (by omega)) (show 90 + i < 100 by omega) ?_
        refine ex_iinc (pc := 37) (v := (nI (i + 1))) d_RF_link_37 rfl (nI_1 i) (by decide) ?_
        refine ex_goto (pc := 40) (tgt := 2) d_RF_link_40 rfl ?_
        refine ex_heap (h' := HP (va_up iv 101 (lkF (iv 101) x y (i + 1))) mp sp mo) ?_ ?_
        · rw [← lk_y c14, ← ex_u2_up]
          rfl
        exact ih (i + 1) (by omega)

set_option maxRecDepth 100000 in
set_option maxHeartbeats 4000000 in
theorem ct_RF_link (l : Launch) (G : ex_G) (iv : Nat → Nat → Int32) (mp : Nat → Nat) (sp mo : Nat) (x y : Int32) : CT l G 0 M_RF_link [.ref 92, .int x, .int y] (HP iv mp sp mo) 0 0 (fun r h' => h' = HP (va_up iv 101 (lkF (iv 101) x y 10)) mp sp mo ∧ r = none) := by
  refine ex_enter (by decide) (Nat.le_of_ble_eq_true rfl) (fun v hv => by simp at hv; rcases hv with rfl | rfl | rfl <;> rfl) (fun p e s m args below meth c => ?_)
  refine ex_iconst (pc := 0) (v := (nI 0)) d_RF_link_0 (by decide) ?_
  refine ex_istore_n (pc := 1) (i := 3) d_RF_link_1 rfl (by decide) ?_
  refine ex_heap (h' := HP (va_up iv 101 (lkF (iv 101) x y 0)) mp sp mo) ?_ ?_
  · rw [lk_0, up_id]
  exact lp_RF_link l G iv mp sp mo x y 10 0 (by omega)

def cntF (P : Nat → Bool) : Nat → Nat → Nat → Nat
  | 0, _, acc => acc
  | k + 1, i, acc => cntF P k (i + 1) (if P i = true then acc + 1 else acc)
set_option maxRecDepth 100000 in
set_option maxHeartbeats 4000000 in
theorem lp_Dr_isTooLarge {p : Program} {e : Env} {s : State} {m : MethodId} {args : Array Value} {below : List Frame} {meth : Method} {c : Code} (l : Launch) (G : ex_G) (iv : Nat → Nat → Int32) (mp : Nat → Nat) (sp mo : Nat) (n : Nat) (hn : iv 1 1 = nI n) (hl : n ≤ 40) (v : Bool) : ∀ (k i a b : Nat), i + k = n → a ≤ i → b ≤ i → (decide (10 < cntF (fun q => nmB (iv 2 q)) k i a) || decide (6 < cntF (fun q => !nmB (iv 2 q) && decide (iv 2 q = nI 40)) k i b)) = v → EXM M_Dr_isTooLarge l G 1 (fun r h' => h' = HP iv mp sp mo ∧ r = some (.int (b2i v))) p e s m args below meth c 6 [some (.ref 1), some (.int (nI a)), some (.int (nI b)), some (.int (nI i))] [] (HP iv mp sp mo) := by
  intro k
  induction k with
  | zero =>
    intro i a b hik ha hb hv
    subst hv
    refine ex_iload_n (pc := 6) (i := 3) d_Dr_isTooLarge_6 rfl rfl ?_
    refine ex_aload_n (pc := 7) (i := 0) d_Dr_isTooLarge_7 rfl rfl ?_
    refine ex_getx (pc := 8) 2 1 (nI n) d_Dr_isTooLarge_8 FL_Dr_19 (Nat.le_of_ble_eq_true rfl) rfl hn ?_
    refine ex_icmp_ge (pc := 11) (tgt := 52) d_Dr_isTooLarge_11 rfl (fun c11 => ?_) (fun c11 => ?_)
    · refine ex_iload_n (pc := 52) (i := 1) d_Dr_isTooLarge_52 rfl rfl ?_
      refine ex_bipush (pc := 53) (v := (nI 10)) d_Dr_isTooLarge_53 (by decide) ?_
      refine ex_icmp_gt (pc := 55) (tgt := 64) d_Dr_isTooLarge_55 rfl (fun c55 => ?_) (fun c55 => ?_)
      · refine ex_iconst (pc := 64) (v := (nI 1)) d_Dr_isTooLarge_64 (by decide) ?_
        refine ex_goto (pc := 65) (tgt := 69) d_Dr_isTooLarge_65 rfl ?_
        refine ex_iret (ty := .boolean) d_Dr_isTooLarge_69 rfl rfl rfl (Nat.le_refl _) ?_
        exact ⟨rfl, by rw [cntF, cntF, decide_eq_true ((n_lt (by omega) (by omega)).mp c55)]; rfl⟩
      · refine ex_iload_n (pc := 58) (i := 2) d_Dr_isTooLarge_58 rfl rfl ?_
        refine ex_bipush (pc := 59) (v := (nI 6)) d_Dr_isTooLarge_59 (by decide) ?_
        refine ex_icmp_le (pc := 61) (tgt := 68) d_Dr_isTooLarge_61 rfl (fun c61 => ?_) (fun c61 => ?_)
        · refine ex_iconst (pc := 68) (v := (nI 0)) d_Dr_isTooLarge_68 (by decide) ?_
          refine ex_iret (ty := .boolean) d_Dr_isTooLarge_69 rfl rfl rfl (Nat.le_refl _) ?_
          exact ⟨rfl, by rw [cntF, cntF, decide_eq_false (fun q => c55 ((n_lt (by omega) (by omega)).mpr q)), decide_eq_false (fun q => absurd ((n_ge (by omega) (by omega)).mp c61) (by omega))]; rfl⟩
        · refine ex_iconst (pc := 64) (v := (nI 1)) d_Dr_isTooLarge_64 (by decide) ?_
          refine ex_goto (pc := 65) (tgt := 69) d_Dr_isTooLarge_65 rfl ?_
          refine ex_iret (ty := .boolean) d_Dr_isTooLarge_69 rfl rfl rfl (Nat.le_refl _) ?_
          exact ⟨rfl, by rw [cntF, cntF, decide_eq_true (show 6 < b from Nat.lt_of_not_le (fun q => c61 ((n_ge (by omega) (by omega)).mpr q))), Bool.or_true]; rfl⟩
    · exact absurd ((n_ge (by omega) (by omega)).mpr (by omega)) c11
  | succ k ih =>
    intro i a b hik ha hb hv
    rw [cntF, cntF] at hv
    refine ex_iload_n (pc := 6) (i := 3) d_Dr_isTooLarge_6 rfl rfl ?_
    refine ex_aload_n (pc := 7) (i := 0) d_Dr_isTooLarge_7 rfl rfl ?_
    refine ex_getx (pc := 8) 2 1 (nI n) d_Dr_isTooLarge_8 FL_Dr_19 (Nat.le_of_ble_eq_true rfl) rfl hn ?_
    refine ex_icmp_ge (pc := 11) (tgt := 52) d_Dr_isTooLarge_11 rfl (fun c11 => ?_) (fun c11 => ?_)
    · exact absurd ((n_ge (by omega) (by omega)).mp c11) (by omega)
    · refine ex_aload_n (pc := 14) (i := 0) d_Dr_isTooLarge_14 rfl rfl ?_
      refine ex_getr (pc := 15) 2 0 d_Dr_isTooLarge_15 FL_Dr_9 (Nat.le_of_ble_eq_true rfl) rfl rfl ?_
      refine ex_iload_n (pc := 18) (i := 3) d_Dr_isTooLarge_18 rfl rfl ?_
      refine ex_caldx (pc := 19) i (iv 2 i) d_Dr_isTooLarge_19 (Nat.le_of_ble_eq_true rfl) rfl rfl rfl (nI_t (by omega)) (show i < 40 by omega) rfl ?_
      refine ex_callS (pc := 20) (M' := M_TG_isName) (as := [.int (iv 2 i)]) (st := []) d_Dr_isTooLarge_20 MW_TG_isName ST_TG_isName LK_Dr_23 (ct_TG_isName l G (HP iv mp sp mo) (iv 2 i)) (ex_lt_rm (by decide)) ⟨Nat.le_refl _, Nat.le_refl _⟩ rfl rfl (Nat.le_of_ble_eq_true rfl) ?_
      rintro _ _ ⟨rfl, rfl⟩
      refine ex_if_eq (pc := 23) (tgt := 32) d_Dr_isTooLarge_23 rfl (fun c23 => ?_) (fun c23 => ?_)
      · refine ex_aload_n (pc := 32) (i := 0) d_Dr_isTooLarge_32 rfl rfl ?_
        refine ex_getr (pc := 33) 2 0 d_Dr_isTooLarge_33 FL_Dr_9 (Nat.le_of_ble_eq_true rfl) rfl rfl ?_
        refine ex_iload_n (pc := 36) (i := 3) d_Dr_isTooLarge_36 rfl rfl ?_
        refine ex_caldx (pc := 37) i (iv 2 i) d_Dr_isTooLarge_37 (Nat.le_of_ble_eq_true rfl) rfl rfl rfl (nI_t (by omega)) (show i < 40 by omega) rfl ?_
        refine ex_bipush (pc := 38) (v := (nI 40)) d_Dr_isTooLarge_38 (by decide) ?_
        refine ex_icmp_ne (pc := 40) (tgt := 46) d_Dr_isTooLarge_40 rfl (fun c40 => ?_) (fun c40 => ?_)
        · refine ex_iinc (pc := 46) (v := (nI (i + 1))) d_Dr_isTooLarge_46 rfl (nI_1 i) (by decide) ?_
          refine ex_goto (pc := 49) (tgt := 6) d_Dr_isTooLarge_49 rfl ?_
          have q1 := b2i_0 c23
          exact ih (i + 1) a b (by omega) (by omega) (by omega) (by rw [if_neg (by simp [q1]), if_neg (by simp [q1, c40])] at hv; exact hv)
        · refine ex_iinc (pc := 43) (v := (nI (b + 1))) d_Dr_isTooLarge_43 rfl (nI_1 b) (by decide) ?_
          refine ex_iinc (pc := 46) (v := (nI (i + 1))) d_Dr_isTooLarge_46 rfl (nI_1 i) (by decide) ?_
          refine ex_goto (pc := 49) (tgt := 6) d_Dr_isTooLarge_49 rfl ?_
          have q1 := b2i_0 c23
          exact ih (i + 1) a (b + 1) (by omega) (by omega) (by omega) (by rw [if_neg (by simp [q1]), if_pos (by simp only [q1, decide_eq_true c40]; rfl)] at hv; exact hv)
      · refine ex_iinc (pc := 26) (v := (nI (a + 1))) d_Dr_isTooLarge_26 rfl (nI_1 a) (by decide) ?_
        refine ex_goto (pc := 29) (tgt := 46) d_Dr_isTooLarge_29 rfl ?_
        refine ex_iinc (pc := 46) (v := (nI (i + 1))) d_Dr_isTooLarge_46 rfl (nI_1 i) (by decide) ?_
        refine ex_goto (pc := 49) (tgt := 6) d_Dr_isTooLarge_49 rfl ?_
        have q1 := b2i_1 c23
        exact ih (i + 1) (a + 1) b (by omega) (by omega) (by omega) (by rw [if_pos q1, if_neg (by simp [q1])] at hv; exact hv)

set_option maxRecDepth 100000 in
set_option maxHeartbeats 4000000 in
theorem ct_Dr_isTooLarge (l : Launch) (G : ex_G) (iv : Nat → Nat → Int32) (mp : Nat → Nat) (sp mo : Nat) (n : Nat) (hn : iv 1 1 = nI n) (hl : n ≤ 40) : CT l G 1 M_Dr_isTooLarge [.ref 1] (HP iv mp sp mo) 0 0 (fun r h' => h' = HP iv mp sp mo ∧ r = some (.int (b2i (decide (10 < cntF (fun q => nmB (iv 2 q)) n 0 0) || decide (6 < cntF (fun q => !nmB (iv 2 q) && decide (iv 2 q = nI 40)) n 0 0))))) := by
  refine ex_enter (by decide) (Nat.le_of_ble_eq_true rfl) (fun v hv => by simp at hv; rcases hv with rfl <;> rfl) (fun p e s m args below meth c => ?_)
  refine ex_iconst (pc := 0) (v := (nI 0)) d_Dr_isTooLarge_0 (by decide) ?_
  refine ex_istore_n (pc := 1) (i := 1) d_Dr_isTooLarge_1 rfl (by decide) ?_
  refine ex_iconst (pc := 2) (v := (nI 0)) d_Dr_isTooLarge_2 (by decide) ?_
  refine ex_istore_n (pc := 3) (i := 2) d_Dr_isTooLarge_3 rfl (by decide) ?_
  refine ex_iconst (pc := 4) (v := (nI 0)) d_Dr_isTooLarge_4 (by decide) ?_
  refine ex_istore_n (pc := 5) (i := 3) d_Dr_isTooLarge_5 rfl (by decide) ?_
  exact lp_Dr_isTooLarge l G iv mp sp mo n hn hl _ n 0 0 0 (by omega) (Nat.le_refl _) (Nat.le_refl _) rfl

