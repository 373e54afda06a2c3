/-! the constructor of Tree -/
def trL (h : ex_H) (u : Nat) : Nat → ex_H
  | 0 => h
  | i + 1 => ex_sr (ex_no (trL h u i) 3) u i (some (trL h u i).1)
def trI (h : ex_H) (a u : Nat) : Prop := ex_at h a 11 ∧ ex_ar h u 4 34 ∧ h.2.2.2.2 a 1 = some u
theorem tr_I {h : ex_H} {a u : Nat} (hau : a ≠ u) (h0 : trI h a u) : ∀ i, trI (trL h u i) a u := by
  intro i
  induction i with
  | zero => exact h0
  | succ i ih =>
    refine ⟨at_no (t := 3) ih.1, ar_no (c := 3) ih.2.1, ?_⟩
    show (ex_sr (ex_no (trL h u i) 3) u i (some (trL h u i).1)).2.2.2.2 a 1 = some u
    rw [rv_sr (Or.inl hau), rv_no ih.1.1]
    exact ih.2.2
def tr0 (h : ex_H) (a b : Nat) : ex_H := ex_sr (ex_sr (ex_na (ex_sr (ex_na (ex_sr (ex_na (ex_sr (ex_na h 4 34) a 1 (some h.1)) 0 33) a 4 (some (h.1 + 1))) 0 33) a 5 (some (h.1 + 2))) 0 33) a 6 (some (h.1 + 3))) a 0 (some b)
def ini_Tr (h : ex_H) (a b : Nat) : ex_H := trL (tr0 h a b) h.1 34
set_option maxRecDepth 100000 in
set_option maxHeartbeats 4000000 in
theorem lp_Tr_init {p : Program} {e : Env} {s : State} {m : MethodId} {args : Array Value} {below : List Frame} {meth : Method} {c : Code} (l : Launch) (G : ex_G) (h : ex_H) (a b u : Nat) (hau : a ≠ u) (h0 : trI h a u) : ∀ (k i : Nat), i + k = 34 → EX M_Tr_init l G (ex_rm 2 38 473) (MQ below (ex_Q G 38 (fun r h' => h' = trL h u 34 ∧ r = none)) args s 38 473 (fun q => G.1 ≤ q)) p e s m args below meth c (4 + i) (133 + 10 * i) 44 [some (.ref a), some (.ref b), some (.int (nI i))] [] (trL h u i) := by
  intro k
  induction k with
  | zero =>
    intro i hik
    obtain rfl : i = 34 := by omega
    have hI := tr_I hau h0 34
    refine ex_iload_n (pc := 44) (i := 2) d_Tr_init_44 rfl rfl ?_
    refine ex_aload_n (pc := 45) (i := 0) d_Tr_init_45 rfl rfl ?_
    refine ex_getr (pc := 46) 11 1 d_Tr_init_46 FL_Tr_11 hI.1.1 hI.1.2 hI.2.2 ?_
    refine ex_alenx (pc := 49) 34 d_Tr_init_49 hI.2.1.1 hI.2.1.2.1 rfl hI.2.1.2.2 ?_
    refine ex_icmp_ge (pc := 50) (tgt := 72) d_Tr_init_50 rfl (fun c50 => ?_) (fun c50 => absurd (Int32.le_refl _) c50)
    refine ex_vret d_Tr_init_72 rfl rfl (Nat.le_of_ble_eq_true rfl) ?_
    exact ⟨rfl, rfl⟩
  | succ k ih =>
    intro i hik
    have hI := tr_I hau h0 i
    refine ex_iload_n (pc := 44) (i := 2) d_Tr_init_44 rfl rfl ?_
    refine ex_aload_n (pc := 45) (i := 0) d_Tr_init_45 rfl rfl ?_
    refine ex_getr (pc := 46) 11 1 d_Tr_init_46 FL_Tr_11 hI.1.1 hI.1.2 hI.2.2 ?_
    refine ex_alenx (pc := 49) 34 d_Tr_init_49 hI.2.1.1 hI.2.1.2.1 rfl hI.2.1.2.2 ?_
    refine ex_icmp_ge (pc := 50) (tgt := 72) d_Tr_init_50 rfl (fun c50 => absurd ((n_ge (by omega) (by omega)).mp c50) (by omega)) (fun c50 => ?_)
    refine ex_aload_n (pc := 53) (i := 0) d_Tr_init_53 rfl rfl ?_
    refine ex_getr (pc := 54) 11 1 d_Tr_init_54 FL_Tr_11 hI.1.1 hI.1.2 hI.2.2 ?_
    refine ex_iload_n (pc := 57) (i := 2) d_Tr_init_57 rfl rfl ?_
    refine ex_new (pc := 58) 3 d_Tr_init_58 CL_El NL_Tr_9 (show 4 + i + 1 ≤ 38 by omega) (show 133 + 10 * i + 10 ≤ 473 by omega) ?_
    refine ex_dup (pc := 61) d_Tr_init_61 rfl ?_
    refine ex_callI (pc := 62) (M' := M_El_init) (as := []) (st := [.ref (trL h u i).1, .int (nI i), .ref u]) d_Tr_init_62 MW_El_init IN_El_init rfl rfl LK_Tr_31 (ct_El_init l G (ex_no (trL h u i) 3) (trL h u i).1 at_new) (ex_lt_rm (by decide)) ⟨show 4 + i + 1 + 0 ≤ 38 by omega, show 133 + 10 * i + 10 + 0 ≤ 473 by omega⟩ rfl rfl (Nat.le_of_ble_eq_true rfl) ?_
    rintro _ _ ⟨rfl, rfl⟩
    have hA := ar_no (c := 3) hI.2.1
    have hN := at_new (h := trL h u i) (t := 3)
    refine ex_aast (pc := 65) i d_Tr_init_65 hA.1 hA.2.1 rfl rfl hN.1 hN.2 rfl (nI_t (by omega)) (by show i < (ex_no (trL h u i) 3).2.2.1 u; rw [hA.2.2]; omega) ?_
    refine ex_iinc (pc := 66) (v := (nI (i + 1))) d_Tr_init_66 rfl (nI_1 i) (by decide) ?_
    refine ex_goto (pc := 69) (tgt := 44) d_Tr_init_69 rfl ?_
    have q := ih (i + 1) (by omega)
    rw [show 4 + (i + 1) = 4 + i + 1 + 0 by omega, show 133 + 10 * (i + 1) = 133 + 10 * i + 10 + 0 by omega] at q
    exact q

set_option maxRecDepth 100000 in
set_option maxHeartbeats 4000000 in
theorem ct_Tr_init (l : Launch) (G : ex_G) (h : ex_H) (a b : Nat) (hI : ex_at h a 11) : CT l G 2 M_Tr_init [.ref a, .ref b] h 38 473 (fun r h' => h' = ini_Tr h a b ∧ r = none) := by
  refine ex_enter (by decide) (Nat.le_of_ble_eq_true rfl) (fun v hv => by simp at hv; rcases hv with rfl | rfl <;> rfl) (fun p e s m args below meth c => ?_)
  refine ex_aload_n (pc := 0) (i := 0) d_Tr_init_0 rfl rfl ?_
  refine ex_objInit (pc := 1) d_Tr_init_1 OB_Tr_3 OB_1 OB_2 (ex_lt_rm (by decide)) (Nat.le_of_ble_eq_true rfl) ?_
  refine ex_aload_n (pc := 4) (i := 0) d_Tr_init_4 rfl rfl ?_
  refine ex_bipush (pc := 5) (v := (nI 34)) d_Tr_init_5 (by decide) ?_
  refine ex_newref (pc := 7) 4 34 d_Tr_init_7 NL_Tr_9 (by decide) rfl rfl (nI_t (by decide)) (by decide) (Nat.le_of_ble_eq_true rfl) (Nat.le_of_ble_eq_true rfl) ?_
  have I1 := at_na (t := 4) (n := 34) hI
  refine ex_putr (pc := 10) 11 1 _ d_Tr_init_10 PF_Tr_11 I1.1 I1.2 rfl rfl ?_
  refine ex_aload_n (pc := 13) (i := 0) d_Tr_init_13 rfl rfl ?_
  refine ex_bipush (pc := 14) (v := (nI 33)) d_Tr_init_14 (by decide) ?_
  refine ex_newarr (pc := 16) 0 33 d_Tr_init_16 AR_int rfl rfl rfl rfl (nI_t (by decide)) (by decide) (Nat.le_of_ble_eq_true rfl) (Nat.le_of_ble_eq_true rfl) ?_
  have I2 := at_na (t := 0) (n := 33) I1
  refine ex_putr (pc := 18) 11 4 _ d_Tr_init_18 PF_Tr_17 I2.1 I2.2 rfl rfl ?_
  refine ex_aload_n (pc := 21) (i := 0) d_Tr_init_21 rfl rfl ?_
  refine ex_bipush (pc := 22) (v := (nI 33)) d_Tr_init_22 (by decide) ?_
  refine ex_newarr (pc := 24) 0 33 d_Tr_init_24 AR_int rfl rfl rfl rfl (nI_t (by decide)) (by decide) (Nat.le_of_ble_eq_true rfl) (Nat.le_of_ble_eq_true rfl) ?_
  have I3 := at_na (t := 0) (n := 33) I2
  refine ex_putr (pc := 26) 11 5 _ d_Tr_init_26 PF_Tr_21 I3.1 I3.2 rfl rfl ?_
  refine ex_aload_n (pc := 29) (i := 0) d_Tr_init_29 rfl rfl ?_
  refine ex_bipush (pc := 30) (v := (nI 33)) d_Tr_init_30 (by decide) ?_
  refine ex_newarr (pc := 32) 0 33 d_Tr_init_32 AR_int rfl rfl rfl rfl (nI_t (by decide)) (by decide) (Nat.le_of_ble_eq_true rfl) (Nat.le_of_ble_eq_true rfl) ?_
  have I4 := at_na (t := 0) (n := 33) I3
  refine ex_putr (pc := 34) 11 6 _ d_Tr_init_34 PF_Tr_24 I4.1 I4.2 rfl rfl ?_
  refine ex_aload_n (pc := 37) (i := 0) d_Tr_init_37 rfl rfl ?_
  refine ex_aload_n (pc := 38) (i := 1) d_Tr_init_38 rfl rfl ?_
  refine ex_putr (pc := 39) 11 0 _ d_Tr_init_39 PF_Tr_27 I4.1 I4.2 rfl rfl ?_
  refine ex_iconst (pc := 42) (v := (nI 0)) d_Tr_init_42 (by decide) ?_
  refine ex_istore_n (pc := 43) (i := 2) d_Tr_init_43 rfl (by decide) ?_
  have hau : a ≠ h.1 := Nat.ne_of_lt hI.1
  have hA := ar_na (t2 := 0) (n2 := 33) (ar_na (t2 := 0) (n2 := 33) (ar_na (t2 := 0) (n2 := 33) (ar_new (h := h) (t := 4) (n := 34))))
  refine lp_Tr_init l G (tr0 h a b) a b h.1 hau ⟨I4, hA, ?_⟩ 34 0 (by omega)
  unfold tr0
  rw [rv_sr (Or.inr (by decide)), rv_sr (Or.inr (by decide)), rv_na (Nat.lt_succ_of_lt (Nat.lt_succ_of_lt (Nat.lt_succ_of_lt hI.1))), rv_sr (Or.inr (by decide)), rv_na (Nat.lt_succ_of_lt (Nat.lt_succ_of_lt hI.1)), rv_sr (Or.inr (by decide)), rv_na (Nat.lt_succ_of_lt hI.1)]
  exact if_pos ⟨rfl, rfl⟩

