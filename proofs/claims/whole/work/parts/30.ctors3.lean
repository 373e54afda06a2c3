/-! constructors with loops: Models, Tree -/
def ex_ar (h : ex_H) (u t n : Nat) : Prop := u < h.1 ∧ h.2.1 u = .inr t ∧ h.2.2.1 u = n
theorem ar_na {h : ex_H} {u t n t2 n2 : Nat} (hI : ex_ar h u t n) : ex_ar (ex_na h t2 n2) u t n := ⟨Nat.lt_succ_of_lt hI.1, (va_up_ne _ _ (Nat.ne_of_lt hI.1)).trans hI.2.1, (va_up_ne _ _ (Nat.ne_of_lt hI.1)).trans hI.2.2⟩
theorem ar_no {h : ex_H} {u t n c : Nat} (hI : ex_ar h u t n) : ex_ar (ex_no h c) u t n := ⟨Nat.lt_succ_of_lt hI.1, (va_up_ne _ _ (Nat.ne_of_lt hI.1)).trans hI.2.1, hI.2.2⟩
theorem ar_new {h : ex_H} {t n : Nat} : ex_ar (ex_na h t n) h.1 t n := ⟨Nat.lt_succ_self _, va_up_self _ _ _, va_up_self _ _ _⟩
theorem ar_Mo {h : ex_H} {u t n b : Nat} (hI : ex_ar h u t n) : ex_ar (ini_Mo h b) u t n := ar_na (t2 := 0) (n2 := 8) (ar_na (t2 := 0) (n2 := 11) hI)
theorem u2g {α : Type} {F : Nat → Nat → α} {a k i j : Nat} {v : α} (h : i ≠ a ∨ j ≠ k) : ex_u2 F a k v i j = F i j := if_neg (fun q => h.elim (fun z => z q.1) (fun z => z q.2))
theorem rv_na {h : ex_H} {t n a j : Nat} (ha : a < h.1) : (ex_na h t n).2.2.2.2 a j = h.2.2.2.2 a j := congrFun (va_up_ne _ _ (Nat.ne_of_lt ha)) j
theorem rv_no {h : ex_H} {t a j : Nat} (ha : a < h.1) : (ex_no h t).2.2.2.2 a j = h.2.2.2.2 a j := congrFun (va_up_ne _ _ (Nat.ne_of_lt ha)) j
theorem rv_sr {h : ex_H} {b k a j : Nat} {v : Option Nat} (hn : a ≠ b ∨ j ≠ k) : (ex_sr h b k v).2.2.2.2 a j = h.2.2.2.2 a j := u2g hn
theorem rv_Mo {h : ex_H} {b a j : Nat} (ha : a < h.1) (hab : a ≠ b) : (ini_Mo h b).2.2.2.2 a j = h.2.2.2.2 a j := by
  unfold ini_Mo
  rw [rv_sr (Or.inl hab), rv_na (Nat.lt_succ_of_lt ha), rv_sr (Or.inl hab), rv_na ha]
def msL (h : ex_H) (u : Nat) : Nat → ex_H
  | 0 => h
  | i + 1 => ex_sr (ini_Mo (ex_no (msL h u i) 7) (msL h u i).1) u i (some (msL h u i).1)
def msI (h : ex_H) (a u : Nat) : Prop := ex_at h a 9 ∧ ex_ar h u 3 9 ∧ h.2.2.2.2 a 0 = some u
theorem ms_I {h : ex_H} {a u : Nat} (hau : a ≠ u) (h0 : msI h a u) : ∀ i, msI (msL h u i) a u := by
  intro i
  induction i with
  | zero => exact h0
  | succ i ih =>
    refine ⟨at_Mo (b := (msL h u i).1) (at_no (t := 7) ih.1), ar_Mo (b := (msL h u i).1) (ar_no (c := 7) ih.2.1), ?_⟩
    show (ex_sr (ini_Mo (ex_no (msL h u i) 7) (msL h u i).1) u i (some (msL h u i).1)).2.2.2.2 a 0 = some u
    rw [rv_sr (Or.inl hau), rv_Mo (Nat.lt_succ_of_lt ih.1.1) (Nat.ne_of_lt ih.1.1), rv_no ih.1.1]
    exact ih.2.2
def ms0 (h : ex_H) (a : Nat) : ex_H := ex_sr (ini_Mo (ex_no (ex_sr (ex_na h 3 9) a 0 (some h.1)) 7) (h.1 + 1)) a 1 (some (h.1 + 1))
def ini_Ms (h : ex_H) (a : Nat) : ex_H := msL (ms0 h a) h.1 9
set_option maxRecDepth 100000 in
set_option maxHeartbeats 4000000 in
theorem lp_Ms_init {p : Program} {e : Env} {s : State} {m : MethodId} {args : Array Value} {below : List Frame} {meth : Method} {c : Code} (l : Launch) (G : ex_G) (h : ex_H) (a u : Nat) (hau : a ≠ u) (h0 : msI h a u) : ∀ (k i : Nat), i + k = 9 → EX M_Ms_init l G (ex_rm 2 31 259) (MQ below (ex_Q G 31 (fun r h' => h' = msL h u 9 ∧ r = none)) args s 31 259 (fun q => G.1 ≤ q)) p e s m args below meth c (4 + 3 * i) (34 + 25 * i) 26 [some (.ref a), some (.int (nI i))] [] (msL h u i) := by
  intro k
  induction k with
  | zero =>
    intro i hik
    obtain rfl : i = 9 := by omega
    have hI := ms_I hau h0 9
    refine ex_iload_n (pc := 26) (i := 1) d_Ms_init_26 rfl rfl ?_
    refine ex_aload_n (pc := 27) (i := 0) d_Ms_init_27 rfl rfl ?_
    refine ex_getr (pc := 28) 9 0 d_Ms_init_28 FL_Ms_11 hI.1.1 hI.1.2 hI.2.2 ?_
    refine ex_alenx (pc := 31) 9 d_Ms_init_31 hI.2.1.1 hI.2.1.2.1 rfl hI.2.1.2.2 ?_
    refine ex_icmp_ge (pc := 32) (tgt := 54) d_Ms_init_32 rfl (fun c32 => ?_) (fun c32 => absurd (Int32.le_refl _) c32)
    refine ex_vret d_Ms_init_54 rfl rfl (Nat.le_of_ble_eq_true rfl) ?_
    exact ⟨rfl, rfl⟩
  | succ k ih =>
    intro i hik
    have hI := ms_I hau h0 i
    refine ex_iload_n (pc := 26) (i := 1) d_Ms_init_26 rfl rfl ?_
    refine ex_aload_n (pc := 27) (i := 0) d_Ms_init_27 rfl rfl ?_
    refine ex_getr (pc := 28) 9 0 d_Ms_init_28 FL_Ms_11 hI.1.1 hI.1.2 hI.2.2 ?_
    refine ex_alenx (pc := 31) 9 d_Ms_init_31 hI.2.1.1 hI.2.1.2.1 rfl hI.2.1.2.2 ?_
    refine ex_icmp_ge (pc := 32) (tgt := 54) d_Ms_init_32 rfl (fun c32 => absurd ((n_ge (by omega) (by omega)).mp c32) (by omega)) (fun c32 => ?_)
    refine ex_aload_n (pc := 35) (i := 0) d_Ms_init_35 rfl rfl ?_
    refine ex_getr (pc := 36) 9 0 d_Ms_init_36 FL_Ms_11 hI.1.1 hI.1.2 hI.2.2 ?_
    refine ex_iload_n (pc := 39) (i := 1) d_Ms_init_39 rfl rfl ?_
    refine ex_new (pc := 40) 7 d_Ms_init_40 CL_Mo NL_Ms_9 (show 4 + 3 * i + 1 ≤ 31 by omega) (show 34 + 25 * i + 6 ≤ 259 by omega) ?_
    refine ex_dup (pc := 43) d_Ms_init_43 rfl ?_
    refine ex_callI (pc := 44) (M' := M_Mo_init) (as := []) (st := [.ref (msL h u i).1, .int (nI i), .ref u]) d_Ms_init_44 MW_Mo_init IN_Mo_init rfl rfl LK_Ms_17 (ct_Mo_init l G (ex_no (msL h u i) 7) (msL h u i).1 at_new) (ex_lt_rm (by decide)) ⟨show 4 + 3 * i + 1 + 2 ≤ 31 by omega, show 34 + 25 * i + 6 + 19 ≤ 259 by omega⟩ rfl rfl (Nat.le_of_ble_eq_true rfl) ?_
    rintro _ _ ⟨rfl, rfl⟩
    have hA := ar_Mo (b := (msL h u i).1) (ar_no (c := 7) hI.2.1)
    have hN := at_Mo (b := (msL h u i).1) (at_new (h := msL h u i) (t := 7))
    refine ex_aast (pc := 47) i d_Ms_init_47 hA.1 hA.2.1 rfl rfl hN.1 hN.2 rfl (nI_t (by omega)) (by rw [hA.2.2]; omega) ?_
    refine ex_iinc (pc := 48) (v := (nI (i + 1))) d_Ms_init_48 rfl (nI_1 i) (by decide) ?_
    refine ex_goto (pc := 51) (tgt := 26) d_Ms_init_51 rfl ?_
    have q := ih (i + 1) (by omega)
    rw [show 4 + 3 * (i + 1) = 4 + 3 * i + 1 + 2 by omega, show 34 + 25 * (i + 1) = 34 + 25 * i + 6 + 19 by omega] at q
    exact q

set_option maxRecDepth 100000 in
set_option maxHeartbeats 4000000 in
theorem ct_Ms_init (l : Launch) (G : ex_G) (h : ex_H) (a : Nat) (hI : ex_at h a 9) : CT l G 2 M_Ms_init [.ref a] h 31 259 (fun r h' => h' = ini_Ms h a ∧ r = none) := by
  refine ex_enter (by decide) (Nat.le_of_ble_eq_true rfl) (fun v hv => by simp at hv; rcases hv with rfl <;> rfl) (fun p e s m args below meth c => ?_)
  refine ex_aload_n (pc := 0) (i := 0) d_Ms_init_0 rfl rfl ?_
  refine ex_objInit (pc := 1) d_Ms_init_1 OB_Ms_3 OB_1 OB_2 (ex_lt_rm (by decide)) (Nat.le_of_ble_eq_true rfl) ?_
  refine ex_aload_n (pc := 4) (i := 0) d_Ms_init_4 rfl rfl ?_
  refine ex_bipush (pc := 5) (v := (nI 9)) d_Ms_init_5 (by decide) ?_
  refine ex_newref (pc := 7) 3 9 d_Ms_init_7 NL_Ms_9 (by decide) rfl rfl (nI_t (by decide)) (by decide) (Nat.le_of_ble_eq_true rfl) (Nat.le_of_ble_eq_true rfl) ?_
  have I1 := at_na (t := 3) (n := 9) hI
  refine ex_putr (pc := 10) 9 0 _ d_Ms_init_10 PF_Ms_11 I1.1 I1.2 rfl rfl ?_
  refine ex_aload_n (pc := 13) (i := 0) d_Ms_init_13 rfl rfl ?_
  refine ex_new (pc := 14) 7 d_Ms_init_14 CL_Mo NL_Ms_9 (Nat.le_of_ble_eq_true rfl) (Nat.le_of_ble_eq_true rfl) ?_
  have I2 := at_no (t := 7) I1
  refine ex_dup (pc := 17) d_Ms_init_17 rfl ?_
  refine ex_callI (pc := 18) (M' := M_Mo_init) (as := []) (st := [.ref (h.1 + 1), .ref a]) d_Ms_init_18 MW_Mo_init IN_Mo_init rfl rfl LK_Ms_17 (ct_Mo_init l G (ex_no (ex_sr (ex_na h 3 9) a 0 (some h.1)) 7) (h.1 + 1) (at_new (h := ex_sr (ex_na h 3 9) a 0 (some h.1)))) (ex_lt_rm (by decide)) ⟨(Nat.le_of_ble_eq_true rfl), (Nat.le_of_ble_eq_true rfl)⟩ rfl rfl (Nat.le_of_ble_eq_true rfl) ?_
  rintro _ _ ⟨rfl, rfl⟩
  have I3 := at_Mo (b := h.1 + 1) I2
  refine ex_putr (pc := 21) 9 1 _ d_Ms_init_21 (PF_Ms_18 _) I3.1 I3.2 rfl rfl ?_
  refine ex_iconst (pc := 24) (v := (nI 0)) d_Ms_init_24 (by decide) ?_
  refine ex_istore_n (pc := 25) (i := 1) d_Ms_init_25 rfl (by decide) ?_
  have hau : a ≠ h.1 := Nat.ne_of_lt hI.1
  refine lp_Ms_init l G (ms0 h a) a h.1 hau ⟨I3, ar_Mo (b := h.1 + 1) (ar_no (c := 7) (ar_new (h := h) (t := 3) (n := 9))), ?_⟩ 9 0 (by omega)
  unfold ms0
  rw [rv_sr (Or.inr (by decide)), rv_Mo (Nat.lt_succ_of_lt (Nat.lt_succ_of_lt hI.1)) (Nat.ne_of_lt (Nat.lt_succ_of_lt hI.1)), rv_no (Nat.lt_succ_of_lt hI.1)]
  exact if_pos ⟨rfl, rfl⟩

