/-! constructors that call others -/
theorem at_Mo {h : ex_H} {a ci b : Nat} (hI : ex_at h a ci) : ex_at (ini_Mo h b) a ci := at_na (t := 0) (n := 8) (at_na (t := 0) (n := 11) hI)
theorem at_El {h : ex_H} {a ci b : Nat} (hI : ex_at h a ci) : ex_at (ini_El h b) a ci := hI
def ini_Mr (h : ex_H) (a b : Nat) : ex_H := ex_sr (ex_sr (ini_Mo (ex_no h 7) h.1) a 1 (some h.1)) a 0 (some b)
def ini_Fo (h : ex_H) (a b1 b2 b3 : Nat) : ex_H := ex_sr (ex_sr (ex_sr (ex_sr (ex_na h 1 694) a 3 (some h.1)) a 0 (some b1)) a 1 (some b2)) a 2 (some b3)
set_option maxRecDepth 100000 in
set_option maxHeartbeats 4000000 in
theorem ct_Mr_init (l : Launch) (G : ex_G) (h : ex_H) (a b : Nat) (hI : ex_at h a 8) : CT l G 2 M_Mr_init [.ref a, .ref b] h 3 25 (fun r h' => h' = ini_Mr h a b ∧ r = none) := by
  refine ex_enter (by decide) (Nat.le_of_ble_eq_true rfl) (fun v hv => by simp at hv; rcases hv with rfl | rfl <;> rfl) (fun p e s m args below meth c => ?_)
  refine ex_aload_n (pc := 0) (i := 0) d_Mr_init_0 rfl rfl ?_
  refine ex_objInit (pc := 1) d_Mr_init_1 OB_Mr_3 OB_1 OB_2 (ex_lt_rm (by decide)) (Nat.le_of_ble_eq_true rfl) ?_
  refine ex_aload_n (pc := 4) (i := 0) d_Mr_init_4 rfl rfl ?_
  refine ex_new (pc := 5) 7 d_Mr_init_5 CL_Mo NL_Mr_9 (Nat.le_of_ble_eq_true rfl) (Nat.le_of_ble_eq_true rfl) ?_
  have I1 := at_no (t := 7) hI
  refine ex_dup (pc := 8) d_Mr_init_8 rfl ?_
  refine ex_callI (pc := 9) (M' := M_Mo_init) (as := []) (st := [.ref h.1, .ref a]) d_Mr_init_9 MW_Mo_init IN_Mo_init rfl rfl LK_Mr_11 (ct_Mo_init l G (ex_no h 7) h.1 at_new) (ex_lt_rm (by decide)) ⟨(Nat.le_of_ble_eq_true rfl), (Nat.le_of_ble_eq_true rfl)⟩ rfl rfl (Nat.le_of_ble_eq_true rfl) ?_
  rintro _ _ ⟨rfl, rfl⟩
  have I2 := at_Mo (b := h.1) I1
  refine ex_putr (pc := 12) 8 1 _ d_Mr_init_12 (PF_Mr_12 _) I2.1 I2.2 rfl rfl ?_
  refine ex_aload_n (pc := 15) (i := 0) d_Mr_init_15 rfl rfl ?_
  refine ex_aload_n (pc := 16) (i := 1) d_Mr_init_16 rfl rfl ?_
  refine ex_putr (pc := 17) 8 0 _ d_Mr_init_17 PF_Mr_18 I2.1 I2.2 rfl rfl ?_
  refine ex_vret d_Mr_init_20 rfl rfl (Nat.le_of_ble_eq_true rfl) ?_
  exact ⟨rfl, rfl⟩

set_option maxRecDepth 100000 in
set_option maxHeartbeats 4000000 in
theorem ct_Fo_init (l : Launch) (G : ex_G) (h : ex_H) (a b1 b2 b3 : Nat) (hI : ex_at h a 5) : CT l G 1 M_Fo_init [.ref a, .ref b1, .ref b2, .ref b3] h 1 694 (fun r h' => h' = ini_Fo h a b1 b2 b3 ∧ r = none) := by
  refine ex_enter (by decide) (Nat.le_of_ble_eq_true rfl) (fun v hv => by simp at hv; rcases hv with rfl | rfl | rfl | rfl <;> rfl) (fun p e s m args below meth c => ?_)
  refine ex_aload_n (pc := 0) (i := 0) d_Fo_init_0 rfl rfl ?_
  refine ex_objInit (pc := 1) d_Fo_init_1 OB_Fo_3 OB_1 OB_2 (ex_lt_rm (by decide)) (Nat.le_of_ble_eq_true rfl) ?_
  refine ex_aload_n (pc := 4) (i := 0) d_Fo_init_4 rfl rfl ?_
  refine ex_sipush (pc := 5) (v := (nI 694)) d_Fo_init_5 (by decide) ?_
  refine ex_newarr (pc := 8) 1 694 d_Fo_init_8 AR_char rfl rfl rfl rfl (nI_t (by decide)) (by decide) (Nat.le_of_ble_eq_true rfl) (Nat.le_of_ble_eq_true rfl) ?_
  have I1 := at_na (t := 1) (n := 694) hI
  refine ex_putr (pc := 10) 5 3 _ d_Fo_init_10 PF_Fo_9 I1.1 I1.2 rfl rfl ?_
  refine ex_aload_n (pc := 13) (i := 0) d_Fo_init_13 rfl rfl ?_
  refine ex_aload_n (pc := 14) (i := 1) d_Fo_init_14 rfl rfl ?_
  refine ex_putr (pc := 15) 5 0 _ d_Fo_init_15 PF_Fo_15 I1.1 I1.2 rfl rfl ?_
  refine ex_aload_n (pc := 18) (i := 0) d_Fo_init_18 rfl rfl ?_
  refine ex_aload_n (pc := 19) (i := 2) d_Fo_init_19 rfl rfl ?_
  refine ex_putr (pc := 20) 5 1 _ d_Fo_init_20 PF_Fo_19 I1.1 I1.2 rfl rfl ?_
  refine ex_aload_n (pc := 23) (i := 0) d_Fo_init_23 rfl rfl ?_
  refine ex_aload_n (pc := 24) (i := 3) d_Fo_init_24 rfl rfl ?_
  refine ex_putr (pc := 25) 5 2 _ d_Fo_init_25 PF_Fo_23 I1.1 I1.2 rfl rfl ?_
  refine ex_vret d_Fo_init_28 rfl rfl (Nat.le_of_ble_eq_true rfl) ?_
  exact ⟨rfl, rfl⟩

