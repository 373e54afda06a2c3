/-! the constructor of TagGuide, on the empty heap -/
def g_0 : ex_H := ex_no h_0 0
def g_1 : ex_H := ex_sr (ini_Dr (ex_no g_0 2) g_0.1) 0 0 (some g_0.1)
def g_2 : ex_H := ex_sr (ini_Mr (ex_no g_1 8) g_1.1 g_0.1) 0 1 (some g_1.1)
def g_3 : ex_H := ex_sr (ini_Ms (ex_no g_2 9) g_2.1) 0 2 (some g_2.1)
def g_4 : ex_H := ex_sr (ini_Tx (ex_no g_3 10) g_3.1) 0 3 (some g_3.1)
def g_5 : ex_H := ex_sr (ini_Tr (ex_no g_4 11) g_4.1 g_3.1) 0 4 (some g_4.1)
def g_6 : ex_H := ex_sr (ini_Fa (ex_no g_5 4) g_5.1) 0 5 (some g_5.1)
def g_7 : ex_H := ex_sr (ini_Fo (ex_no g_6 5) g_6.1 g_3.1 g_4.1 g_2.1) 0 6 (some g_6.1)
def g_8 : ex_H := ex_sr (ini_In (ex_no g_7 6) g_7.1) 0 7 (some g_7.1)
def g_9 : ex_H := ex_sr (ini_An (ex_no g_8 1) g_8.1) 0 8 (some g_8.1)
def g_10 : ex_H := ex_si g_9 0 9 (nI 1)
theorem ga_0 : ex_at g_0 0 0 := ⟨by decide +kernel, by decide +kernel⟩
theorem ga_1 : ex_at g_1 0 0 := ⟨by decide +kernel, by decide +kernel⟩
theorem ga_2 : ex_at g_2 0 0 := ⟨by decide +kernel, by decide +kernel⟩
theorem ga_3 : ex_at g_3 0 0 := ⟨by decide +kernel, by decide +kernel⟩
theorem ga_4 : ex_at g_4 0 0 := ⟨by decide +kernel, by decide +kernel⟩
theorem ga_5 : ex_at g_5 0 0 := ⟨by decide +kernel, by decide +kernel⟩
theorem ga_6 : ex_at g_6 0 0 := ⟨by decide +kernel, by decide +kernel⟩
theorem ga_7 : ex_at g_7 0 0 := ⟨by decide +kernel, by decide +kernel⟩
theorem ga_8 : ex_at g_8 0 0 := ⟨by decide +kernel, by decide +kernel⟩
theorem ga_9 : ex_at g_9 0 0 := ⟨by decide +kernel, by decide +kernel⟩
theorem gb_0 : ex_at (ini_Dr (ex_no g_0 2) g_0.1) 0 0 := ⟨by decide +kernel, by decide +kernel⟩
theorem gb_1 : ex_at (ini_Mr (ex_no g_1 8) g_1.1 g_0.1) 0 0 := ⟨by decide +kernel, by decide +kernel⟩
theorem gb_2 : ex_at (ini_Ms (ex_no g_2 9) g_2.1) 0 0 := ⟨by decide +kernel, by decide +kernel⟩
theorem gb_3 : ex_at (ini_Tx (ex_no g_3 10) g_3.1) 0 0 := ⟨by decide +kernel, by decide +kernel⟩
theorem gb_4 : ex_at (ini_Tr (ex_no g_4 11) g_4.1 g_3.1) 0 0 := ⟨by decide +kernel, by decide +kernel⟩
theorem gb_5 : ex_at (ini_Fa (ex_no g_5 4) g_5.1) 0 0 := ⟨by decide +kernel, by decide +kernel⟩
theorem gb_6 : ex_at (ini_Fo (ex_no g_6 5) g_6.1 g_3.1 g_4.1 g_2.1) 0 0 := ⟨by decide +kernel, by decide +kernel⟩
theorem gb_7 : ex_at (ini_In (ex_no g_7 6) g_7.1) 0 0 := ⟨by decide +kernel, by decide +kernel⟩
theorem gb_8 : ex_at (ini_An (ex_no g_8 1) g_8.1) 0 0 := ⟨by decide +kernel, by decide +kernel⟩
set_option maxRecDepth 100000 in
set_option maxHeartbeats 4000000 in
theorem ct_TG_init (l : Launch) (G : ex_G) : CT l G 3 M_TG_init [.ref 0] g_0 91 1893 (fun r h' => h' = g_10 ∧ r = none) := by
  refine ex_enter (by decide) (Nat.le_of_ble_eq_true rfl) (fun v hv => by simp at hv; rcases hv with rfl <;> rfl) (fun p e s m args below meth c => ?_)
  refine ex_aload_n (pc := 0) (i := 0) d_TG_init_0 rfl rfl ?_
  refine ex_objInit (pc := 1) d_TG_init_1 OB_TG_3 OB_1 OB_2 (ex_lt_rm (by decide)) (Nat.le_of_ble_eq_true rfl) ?_
  refine ex_aload_n (pc := 4) (i := 0) d_TG_init_4 rfl rfl ?_
  refine ex_new (pc := 5) 2 d_TG_init_5 CL_Dr NL_TG_9 (Nat.le_of_ble_eq_true rfl) (Nat.le_of_ble_eq_true rfl) ?_
  refine ex_dup (pc := 8) d_TG_init_8 rfl ?_
  refine ex_callI (pc := 9) (M' := M_Dr_init) (as := []) (st := [.ref g_0.1, .ref 0]) d_TG_init_9 MW_Dr_init IN_Dr_init rfl rfl LK_TG_11 (ct_Dr_init l G (ex_no g_0 2) g_0.1 (at_new (h := g_0))) (ex_lt_rm (by decide)) ⟨(Nat.le_of_ble_eq_true rfl), (Nat.le_of_ble_eq_true rfl)⟩ rfl rfl (Nat.le_of_ble_eq_true rfl) ?_
  rintro _ _ ⟨rfl, rfl⟩
  refine ex_putr (pc := 12) 0 0 _ d_TG_init_12 PF_TG_12 gb_0.1 gb_0.2 rfl rfl ?_
  refine ex_heap (h' := g_1) rfl ?_
  refine ex_aload_n (pc := 15) (i := 0) d_TG_init_15 rfl rfl ?_
  refine ex_new (pc := 16) 8 d_TG_init_16 CL_Mr NL_TG_16 (Nat.le_of_ble_eq_true rfl) (Nat.le_of_ble_eq_true rfl) ?_
  refine ex_dup (pc := 19) d_TG_init_19 rfl ?_
  refine ex_aload_n (pc := 20) (i := 0) d_TG_init_20 rfl rfl ?_
  refine ex_getr (pc := 21) 0 0 d_TG_init_21 FL_TG_12 (at_no (t := 8) ga_1).1 (at_no (t := 8) ga_1).2 (show (ex_no g_1 8).2.2.2.2 0 0 = some g_0.1 by decide +kernel) ?_
  refine ex_callI (pc := 24) (M' := M_Mr_init) (as := [.ref g_0.1]) (st := [.ref g_1.1, .ref 0]) d_TG_init_24 MW_Mr_init IN_Mr_init rfl rfl LK_TG_18 (ct_Mr_init l G (ex_no g_1 8) g_1.1 g_0.1 (at_new (h := g_1))) (ex_lt_rm (by decide)) ⟨(Nat.le_of_ble_eq_true rfl), (Nat.le_of_ble_eq_true rfl)⟩ rfl rfl (Nat.le_of_ble_eq_true rfl) ?_
  rintro _ _ ⟨rfl, rfl⟩
  refine ex_putr (pc := 27) 0 1 _ d_TG_init_27 PF_TG_21 gb_1.1 gb_1.2 rfl rfl ?_
  refine ex_heap (h' := g_2) rfl ?_
  refine ex_aload_n (pc := 30) (i := 0) d_TG_init_30 rfl rfl ?_
  refine ex_new (pc := 31) 9 d_TG_init_31 CL_Ms NL_TG_25 (Nat.le_of_ble_eq_true rfl) (Nat.le_of_ble_eq_true rfl) ?_
  refine ex_dup (pc := 34) d_TG_init_34 rfl ?_
  refine ex_callI (pc := 35) (M' := M_Ms_init) (as := []) (st := [.ref g_2.1, .ref 0]) d_TG_init_35 MW_Ms_init IN_Ms_init rfl rfl LK_TG_27 (ct_Ms_init l G (ex_no g_2 9) g_2.1 (at_new (h := g_2))) (ex_lt_rm (by decide)) ⟨(Nat.le_of_ble_eq_true rfl), (Nat.le_of_ble_eq_true rfl)⟩ rfl rfl (Nat.le_of_ble_eq_true rfl) ?_
  rintro _ _ ⟨rfl, rfl⟩
  refine ex_putr (pc := 38) 0 2 _ d_TG_init_38 PF_TG_28 gb_2.1 gb_2.2 rfl rfl ?_
  refine ex_heap (h' := g_3) rfl ?_
  refine ex_aload_n (pc := 41) (i := 0) d_TG_init_41 rfl rfl ?_
  refine ex_new (pc := 42) 10 d_TG_init_42 CL_Tx NL_TG_32 (Nat.le_of_ble_eq_true rfl) (Nat.le_of_ble_eq_true rfl) ?_
  refine ex_dup (pc := 45) d_TG_init_45 rfl ?_
  refine ex_callI (pc := 46) (M' := M_Tx_init) (as := []) (st := [.ref g_3.1, .ref 0]) d_TG_init_46 MW_Tx_init IN_Tx_init rfl rfl LK_TG_34 (ct_Tx_init l G (ex_no g_3 10) g_3.1 (at_new (h := g_3))) (ex_lt_rm (by decide)) ⟨(Nat.le_of_ble_eq_true rfl), (Nat.le_of_ble_eq_true rfl)⟩ rfl rfl (Nat.le_of_ble_eq_true rfl) ?_
  rintro _ _ ⟨rfl, rfl⟩
  refine ex_putr (pc := 49) 0 3 _ d_TG_init_49 PF_TG_35 gb_3.1 gb_3.2 rfl rfl ?_
  refine ex_heap (h' := g_4) rfl ?_
  refine ex_aload_n (pc := 52) (i := 0) d_TG_init_52 rfl rfl ?_
  refine ex_new (pc := 53) 11 d_TG_init_53 CL_Tr NL_TG_39 (Nat.le_of_ble_eq_true rfl) (Nat.le_of_ble_eq_true rfl) ?_
  refine ex_dup (pc := 56) d_TG_init_56 rfl ?_
  refine ex_aload_n (pc := 57) (i := 0) d_TG_init_57 rfl rfl ?_
  refine ex_getr (pc := 58) 0 3 d_TG_init_58 FL_TG_35 (at_no (t := 11) ga_4).1 (at_no (t := 11) ga_4).2 (show (ex_no g_4 11).2.2.2.2 0 3 = some g_3.1 by decide +kernel) ?_
  refine ex_callI (pc := 61) (M' := M_Tr_init) (as := [.ref g_3.1]) (st := [.ref g_4.1, .ref 0]) d_TG_init_61 MW_Tr_init IN_Tr_init rfl rfl LK_TG_41 (ct_Tr_init l G (ex_no g_4 11) g_4.1 g_3.1 (at_new (h := g_4))) (ex_lt_rm (by decide)) ⟨(Nat.le_of_ble_eq_true rfl), (Nat.le_of_ble_eq_true rfl)⟩ rfl rfl (Nat.le_of_ble_eq_true rfl) ?_
  rintro _ _ ⟨rfl, rfl⟩
  refine ex_putr (pc := 64) 0 4 _ d_TG_init_64 PF_TG_44 gb_4.1 gb_4.2 rfl rfl ?_
  refine ex_heap (h' := g_5) rfl ?_
  refine ex_aload_n (pc := 67) (i := 0) d_TG_init_67 rfl rfl ?_
  refine ex_new (pc := 68) 4 d_TG_init_68 CL_Fa NL_TG_48 (Nat.le_of_ble_eq_true rfl) (Nat.le_of_ble_eq_true rfl) ?_
  refine ex_dup (pc := 71) d_TG_init_71 rfl ?_
  refine ex_callI (pc := 72) (M' := M_Fa_init) (as := []) (st := [.ref g_5.1, .ref 0]) d_TG_init_72 MW_Fa_init IN_Fa_init rfl rfl LK_TG_50 (ct_Fa_init l G (ex_no g_5 4) g_5.1 (at_new (h := g_5))) (ex_lt_rm (by decide)) ⟨(Nat.le_of_ble_eq_true rfl), (Nat.le_of_ble_eq_true rfl)⟩ rfl rfl (Nat.le_of_ble_eq_true rfl) ?_
  rintro _ _ ⟨rfl, rfl⟩
  refine ex_putr (pc := 75) 0 5 _ d_TG_init_75 PF_TG_51 gb_5.1 gb_5.2 rfl rfl ?_
  refine ex_heap (h' := g_6) rfl ?_
  refine ex_aload_n (pc := 78) (i := 0) d_TG_init_78 rfl rfl ?_
  refine ex_new (pc := 79) 5 d_TG_init_79 CL_Fo NL_TG_55 (Nat.le_of_ble_eq_true rfl) (Nat.le_of_ble_eq_true rfl) ?_
  refine ex_dup (pc := 82) d_TG_init_82 rfl ?_
  refine ex_aload_n (pc := 83) (i := 0) d_TG_init_83 rfl rfl ?_
  refine ex_getr (pc := 84) 0 3 d_TG_init_84 FL_TG_35 (at_no (t := 5) ga_6).1 (at_no (t := 5) ga_6).2 (show (ex_no g_6 5).2.2.2.2 0 3 = some g_3.1 by decide +kernel) ?_
  refine ex_aload_n (pc := 87) (i := 0) d_TG_init_87 rfl rfl ?_
  refine ex_getr (pc := 88) 0 4 d_TG_init_88 FL_TG_44 (at_no (t := 5) ga_6).1 (at_no (t := 5) ga_6).2 (show (ex_no g_6 5).2.2.2.2 0 4 = some g_4.1 by decide +kernel) ?_
  refine ex_aload_n (pc := 91) (i := 0) d_TG_init_91 rfl rfl ?_
  refine ex_getr (pc := 92) 0 2 d_TG_init_92 FL_TG_28 (at_no (t := 5) ga_6).1 (at_no (t := 5) ga_6).2 (show (ex_no g_6 5).2.2.2.2 0 2 = some g_2.1 by decide +kernel) ?_
  refine ex_callI (pc := 95) (M' := M_Fo_init) (as := [.ref g_3.1, .ref g_4.1, .ref g_2.1]) (st := [.ref g_6.1, .ref 0]) d_TG_init_95 MW_Fo_init IN_Fo_init rfl rfl LK_TG_57 (ct_Fo_init l G (ex_no g_6 5) g_6.1 g_3.1 g_4.1 g_2.1 (at_new (h := g_6))) (ex_lt_rm (by decide)) ⟨(Nat.le_of_ble_eq_true rfl), (Nat.le_of_ble_eq_true rfl)⟩ rfl rfl (Nat.le_of_ble_eq_true rfl) ?_
  rintro _ _ ⟨rfl, rfl⟩
  refine ex_putr (pc := 98) 0 6 _ d_TG_init_98 PF_TG_60 gb_6.1 gb_6.2 rfl rfl ?_
  refine ex_heap (h' := g_7) rfl ?_
  refine ex_aload_n (pc := 101) (i := 0) d_TG_init_101 rfl rfl ?_
  refine ex_new (pc := 102) 6 d_TG_init_102 CL_In NL_TG_64 (Nat.le_of_ble_eq_true rfl) (Nat.le_of_ble_eq_true rfl) ?_
  refine ex_dup (pc := 105) d_TG_init_105 rfl ?_
  refine ex_callI (pc := 106) (M' := M_In_init) (as := []) (st := [.ref g_7.1, .ref 0]) d_TG_init_106 MW_In_init IN_In_init rfl rfl LK_TG_66 (ct_In_init l G (ex_no g_7 6) g_7.1 (at_new (h := g_7))) (ex_lt_rm (by decide)) ⟨(Nat.le_of_ble_eq_true rfl), (Nat.le_of_ble_eq_true rfl)⟩ rfl rfl (Nat.le_of_ble_eq_true rfl) ?_
  rintro _ _ ⟨rfl, rfl⟩
  refine ex_putr (pc := 109) 0 7 _ d_TG_init_109 PF_TG_67 gb_7.1 gb_7.2 rfl rfl ?_
  refine ex_heap (h' := g_8) rfl ?_
  refine ex_aload_n (pc := 112) (i := 0) d_TG_init_112 rfl rfl ?_
  refine ex_new (pc := 113) 1 d_TG_init_113 CL_An NL_TG_71 (Nat.le_of_ble_eq_true rfl) (Nat.le_of_ble_eq_true rfl) ?_
  refine ex_dup (pc := 116) d_TG_init_116 rfl ?_
  refine ex_callI (pc := 117) (M' := M_An_init) (as := []) (st := [.ref g_8.1, .ref 0]) d_TG_init_117 MW_An_init IN_An_init rfl rfl LK_TG_73 (ct_An_init l G (ex_no g_8 1) g_8.1 (at_new (h := g_8))) (ex_lt_rm (by decide)) ⟨(Nat.le_of_ble_eq_true rfl), (Nat.le_of_ble_eq_true rfl)⟩ rfl rfl (Nat.le_of_ble_eq_true rfl) ?_
  rintro _ _ ⟨rfl, rfl⟩
  refine ex_putr (pc := 120) 0 8 _ d_TG_init_120 PF_TG_74 gb_8.1 gb_8.2 rfl rfl ?_
  refine ex_heap (h' := g_9) rfl ?_
  refine ex_aload_n (pc := 123) (i := 0) d_TG_init_123 rfl rfl ?_
  refine ex_iconst (pc := 124) (v := (nI 1)) d_TG_init_124 (by decide) ?_
  refine ex_puti (pc := 125) 0 9 .boolean d_TG_init_125 (PF_TG_78 _) ga_9.1 ga_9.2 rfl rfl ?_
  refine ex_vret d_TG_init_128 rfl rfl (Nat.le_of_ble_eq_true rfl) ?_
  exact ⟨rfl, rfl⟩

