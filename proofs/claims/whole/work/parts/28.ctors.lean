/-! constructors -/
def ex_at (h : ex_H) (a ci : Nat) : Prop := a < h.1 ∧ h.2.1 a = .inl ci
theorem at_na {h : ex_H} {a ci t n : Nat} (hI : ex_at h a ci) : ex_at (ex_na h t n) a ci := ⟨Nat.lt_succ_of_lt hI.1, (va_up_ne _ _ (Nat.ne_of_lt hI.1)).trans hI.2⟩
theorem at_no {h : ex_H} {a ci t : Nat} (hI : ex_at h a ci) : ex_at (ex_no h t) a ci := ⟨Nat.lt_succ_of_lt hI.1, (va_up_ne _ _ (Nat.ne_of_lt hI.1)).trans hI.2⟩
theorem at_new {h : ex_H} {t : Nat} : ex_at (ex_no h t) h.1 t := ⟨Nat.lt_succ_self _, va_up_self _ _ _⟩
theorem at_sr {h : ex_H} {a ci b k : Nat} {v : Option Nat} (hI : ex_at h a ci) : ex_at (ex_sr h b k v) a ci := hI
theorem at_si {h : ex_H} {a ci b k : Nat} {v : Int32} (hI : ex_at h a ci) : ex_at (ex_si h b k v) a ci := hI
def ini_Dr (h : ex_H) (a : Nat) : ex_H := ex_sr (ex_na (h) 1 40) a 0 (some (h.1))
set_option maxRecDepth 100000 in
set_option maxHeartbeats 4000000 in
theorem ct_Dr_init (l : Launch) (G : ex_G) (h : ex_H) (a : Nat) (hI : ex_at h a 2) : CT l G 1 M_Dr_init [.ref a] h 1 40 (fun r h' => h' = ini_Dr h a ∧ r = none) := by
  refine ex_enter (by decide) (Nat.le_of_ble_eq_true rfl) (fun v hv => by simp at hv; rcases hv with rfl <;> rfl) (fun p e s m args below meth c => ?_)
  refine ex_aload_n (pc := 0) (i := 0) d_Dr_init_0 rfl rfl ?_
  refine ex_objInit (pc := 1) d_Dr_init_1 OB_Dr_3 OB_1 OB_2 (ex_lt_rm (by decide)) (Nat.le_of_ble_eq_true rfl) ?_
  refine ex_aload_n (pc := 4) (i := 0) d_Dr_init_4 rfl rfl ?_
  refine ex_bipush (pc := 5) (v := (nI 40)) d_Dr_init_5 (by decide) ?_
  refine ex_newarr (pc := 7) 1 40 d_Dr_init_7 AR_char rfl rfl rfl rfl (nI_t (by decide)) (by decide) (Nat.le_of_ble_eq_true rfl) (Nat.le_of_ble_eq_true rfl) ?_
  have I1 := at_na (t := 1) (n := 40) hI
  refine ex_putr (pc := 9) 2 0 _ d_Dr_init_9 PF_Dr_9 I1.1 I1.2 rfl rfl ?_
  refine ex_vret d_Dr_init_12 rfl rfl (Nat.le_of_ble_eq_true rfl) ?_
  exact ⟨rfl, rfl⟩

def ini_Mo (h : ex_H) (a : Nat) : ex_H := ex_sr (ex_na (ex_sr (ex_na (h) 0 11) a 3 (some (h.1))) 0 8) a 4 (some (h.1 + 1))
set_option maxRecDepth 100000 in
set_option maxHeartbeats 4000000 in
theorem ct_Mo_init (l : Launch) (G : ex_G) (h : ex_H) (a : Nat) (hI : ex_at h a 7) : CT l G 1 M_Mo_init [.ref a] h 2 19 (fun r h' => h' = ini_Mo h a ∧ r = none) := by
  refine ex_enter (by decide) (Nat.le_of_ble_eq_true rfl) (fun v hv => by simp at hv; rcases hv with rfl <;> rfl) (fun p e s m args below meth c => ?_)
  refine ex_aload_n (pc := 0) (i := 0) d_Mo_init_0 rfl rfl ?_
  refine ex_objInit (pc := 1) d_Mo_init_1 OB_Mo_3 OB_1 OB_2 (ex_lt_rm (by decide)) (Nat.le_of_ble_eq_true rfl) ?_
  refine ex_aload_n (pc := 4) (i := 0) d_Mo_init_4 rfl rfl ?_
  refine ex_bipush (pc := 5) (v := (nI 11)) d_Mo_init_5 (by decide) ?_
  refine ex_newarr (pc := 7) 0 11 d_Mo_init_7 AR_int rfl rfl rfl rfl (nI_t (by decide)) (by decide) (Nat.le_of_ble_eq_true rfl) (Nat.le_of_ble_eq_true rfl) ?_
  have I1 := at_na (t := 0) (n := 11) hI
  refine ex_putr (pc := 9) 7 3 _ d_Mo_init_9 PF_Mo_9 I1.1 I1.2 rfl rfl ?_
  refine ex_aload_n (pc := 12) (i := 0) d_Mo_init_12 rfl rfl ?_
  refine ex_bipush (pc := 13) (v := (nI 8)) d_Mo_init_13 (by decide) ?_
  refine ex_newarr (pc := 15) 0 8 d_Mo_init_15 AR_int rfl rfl rfl rfl (nI_t (by decide)) (by decide) (Nat.le_of_ble_eq_true rfl) (Nat.le_of_ble_eq_true rfl) ?_
  have I2 := at_na (t := 0) (n := 8) I1
  refine ex_putr (pc := 17) 7 4 _ d_Mo_init_17 PF_Mo_15 I2.1 I2.2 rfl rfl ?_
  refine ex_vret d_Mo_init_20 rfl rfl (Nat.le_of_ble_eq_true rfl) ?_
  exact ⟨rfl, rfl⟩

def ini_Tx (h : ex_H) (a : Nat) : ex_H := ex_sr (ex_na (h) 1 100) a 0 (some (h.1))
set_option maxRecDepth 100000 in
set_option maxHeartbeats 4000000 in
theorem ct_Tx_init (l : Launch) (G : ex_G) (h : ex_H) (a : Nat) (hI : ex_at h a 10) : CT l G 1 M_Tx_init [.ref a] h 1 100 (fun r h' => h' = ini_Tx h a ∧ r = none) := by
  refine ex_enter (by decide) (Nat.le_of_ble_eq_true rfl) (fun v hv => by simp at hv; rcases hv with rfl <;> rfl) (fun p e s m args below meth c => ?_)
  refine ex_aload_n (pc := 0) (i := 0) d_Tx_init_0 rfl rfl ?_
  refine ex_objInit (pc := 1) d_Tx_init_1 OB_Tx_3 OB_1 OB_2 (ex_lt_rm (by decide)) (Nat.le_of_ble_eq_true rfl) ?_
  refine ex_aload_n (pc := 4) (i := 0) d_Tx_init_4 rfl rfl ?_
  refine ex_bipush (pc := 5) (v := (nI 100)) d_Tx_init_5 (by decide) ?_
  refine ex_newarr (pc := 7) 1 100 d_Tx_init_7 AR_char rfl rfl rfl rfl (nI_t (by decide)) (by decide) (Nat.le_of_ble_eq_true rfl) (Nat.le_of_ble_eq_true rfl) ?_
  have I1 := at_na (t := 1) (n := 100) hI
  refine ex_putr (pc := 9) 10 0 _ d_Tx_init_9 PF_Tx_9 I1.1 I1.2 rfl rfl ?_
  refine ex_vret d_Tx_init_12 rfl rfl (Nat.le_of_ble_eq_true rfl) ?_
  exact ⟨rfl, rfl⟩

def ini_El (h : ex_H) (a : Nat) : ex_H := h
set_option maxRecDepth 100000 in
set_option maxHeartbeats 4000000 in
theorem ct_El_init (l : Launch) (G : ex_G) (h : ex_H) (a : Nat) (hI : ex_at h a 3) : CT l G 1 M_El_init [.ref a] h 0 0 (fun r h' => h' = ini_El h a ∧ r = none) := by
  refine ex_enter (by decide) (Nat.le_of_ble_eq_true rfl) (fun v hv => by simp at hv; rcases hv with rfl <;> rfl) (fun p e s m args below meth c => ?_)
  refine ex_aload_n (pc := 0) (i := 0) d_El_init_0 rfl rfl ?_
  refine ex_objInit (pc := 1) d_El_init_1 OB_El_3 OB_1 OB_2 (ex_lt_rm (by decide)) (Nat.le_of_ble_eq_true rfl) ?_
  refine ex_vret d_El_init_4 rfl rfl (Nat.le_of_ble_eq_true rfl) ?_
  exact ⟨rfl, rfl⟩

def ini_Fa (h : ex_H) (a : Nat) : ex_H := ex_sr (ex_na (h) 0 201) a 0 (some (h.1))
set_option maxRecDepth 100000 in
set_option maxHeartbeats 4000000 in
theorem ct_Fa_init (l : Launch) (G : ex_G) (h : ex_H) (a : Nat) (hI : ex_at h a 4) : CT l G 1 M_Fa_init [.ref a] h 1 201 (fun r h' => h' = ini_Fa h a ∧ r = none) := by
  refine ex_enter (by decide) (Nat.le_of_ble_eq_true rfl) (fun v hv => by simp at hv; rcases hv with rfl <;> rfl) (fun p e s m args below meth c => ?_)
  refine ex_aload_n (pc := 0) (i := 0) d_Fa_init_0 rfl rfl ?_
  refine ex_objInit (pc := 1) d_Fa_init_1 OB_Fa_3 OB_1 OB_2 (ex_lt_rm (by decide)) (Nat.le_of_ble_eq_true rfl) ?_
  refine ex_aload_n (pc := 4) (i := 0) d_Fa_init_4 rfl rfl ?_
  refine ex_sipush (pc := 5) (v := (nI 201)) d_Fa_init_5 (by decide) ?_
  refine ex_newarr (pc := 8) 0 201 d_Fa_init_8 AR_int rfl rfl rfl rfl (nI_t (by decide)) (by decide) (Nat.le_of_ble_eq_true rfl) (Nat.le_of_ble_eq_true rfl) ?_
  have I1 := at_na (t := 0) (n := 201) hI
  refine ex_putr (pc := 10) 4 0 _ d_Fa_init_10 PF_Fa_9 I1.1 I1.2 rfl rfl ?_
  refine ex_vret d_Fa_init_13 rfl rfl (Nat.le_of_ble_eq_true rfl) ?_
  exact ⟨rfl, rfl⟩

def ini_In (h : ex_H) (a : Nat) : ex_H := ex_sr (ex_na (ex_sr (ex_na (ex_sr (ex_na (ex_sr (ex_na (h) 0 12) a 0 (some (h.1))) 0 12) a 1 (some (h.1 + 1))) 0 12) a 2 (some (h.1 + 2))) 0 12) a 3 (some (h.1 + 3))
set_option maxRecDepth 100000 in
set_option maxHeartbeats 4000000 in
theorem ct_In_init (l : Launch) (G : ex_G) (h : ex_H) (a : Nat) (hI : ex_at h a 6) : CT l G 1 M_In_init [.ref a] h 4 48 (fun r h' => h' = ini_In h a ∧ r = none) := by
  refine ex_enter (by decide) (Nat.le_of_ble_eq_true rfl) (fun v hv => by simp at hv; rcases hv with rfl <;> rfl) (fun p e s m args below meth c => ?_)
  refine ex_aload_n (pc := 0) (i := 0) d_In_init_0 rfl rfl ?_
  refine ex_objInit (pc := 1) d_In_init_1 OB_In_3 OB_1 OB_2 (ex_lt_rm (by decide)) (Nat.le_of_ble_eq_true rfl) ?_
  refine ex_aload_n (pc := 4) (i := 0) d_In_init_4 rfl rfl ?_
  refine ex_bipush (pc := 5) (v := (nI 12)) d_In_init_5 (by decide) ?_
  refine ex_newarr (pc := 7) 0 12 d_In_init_7 AR_int rfl rfl rfl rfl (nI_t (by decide)) (by decide) (Nat.le_of_ble_eq_true rfl) (Nat.le_of_ble_eq_true rfl) ?_
  have I1 := at_na (t := 0) (n := 12) hI
  refine ex_putr (pc := 9) 6 0 _ d_In_init_9 PF_In_9 I1.1 I1.2 rfl rfl ?_
  refine ex_aload_n (pc := 12) (i := 0) d_In_init_12 rfl rfl ?_
  refine ex_bipush (pc := 13) (v := (nI 12)) d_In_init_13 (by decide) ?_
  refine ex_newarr (pc := 15) 0 12 d_In_init_15 AR_int rfl rfl rfl rfl (nI_t (by decide)) (by decide) (Nat.le_of_ble_eq_true rfl) (Nat.le_of_ble_eq_true rfl) ?_
  have I2 := at_na (t := 0) (n := 12) I1
  refine ex_putr (pc := 17) 6 1 _ d_In_init_17 PF_In_15 I2.1 I2.2 rfl rfl ?_
  refine ex_aload_n (pc := 20) (i := 0) d_In_init_20 rfl rfl ?_
  refine ex_bipush (pc := 21) (v := (nI 12)) d_In_init_21 (by decide) ?_
  refine ex_newarr (pc := 23) 0 12 d_In_init_23 AR_int rfl rfl rfl rfl (nI_t (by decide)) (by decide) (Nat.le_of_ble_eq_true rfl) (Nat.le_of_ble_eq_true rfl) ?_
  have I3 := at_na (t := 0) (n := 12) I2
  refine ex_putr (pc := 25) 6 2 _ d_In_init_25 PF_In_18 I3.1 I3.2 rfl rfl ?_
  refine ex_aload_n (pc := 28) (i := 0) d_In_init_28 rfl rfl ?_
  refine ex_bipush (pc := 29) (v := (nI 12)) d_In_init_29 (by decide) ?_
  refine ex_newarr (pc := 31) 0 12 d_In_init_31 AR_int rfl rfl rfl rfl (nI_t (by decide)) (by decide) (Nat.le_of_ble_eq_true rfl) (Nat.le_of_ble_eq_true rfl) ?_
  have I4 := at_na (t := 0) (n := 12) I3
  refine ex_putr (pc := 33) 6 3 _ d_In_init_33 PF_In_21 I4.1 I4.2 rfl rfl ?_
  refine ex_vret d_In_init_36 rfl rfl (Nat.le_of_ble_eq_true rfl) ?_
  exact ⟨rfl, rfl⟩

def ini_An (h : ex_H) (a : Nat) : ex_H := ex_sr (ex_na (ex_sr (ex_na (h) 0 8) a 0 (some (h.1))) 0 8) a 1 (some (h.1 + 1))
set_option maxRecDepth 100000 in
set_option maxHeartbeats 4000000 in
theorem ct_An_init (l : Launch) (G : ex_G) (h : ex_H) (a : Nat) (hI : ex_at h a 1) : CT l G 1 M_An_init [.ref a] h 2 16 (fun r h' => h' = ini_An h a ∧ r = none) := by
  refine ex_enter (by decide) (Nat.le_of_ble_eq_true rfl) (fun v hv => by simp at hv; rcases hv with rfl <;> rfl) (fun p e s m args below meth c => ?_)
  refine ex_aload_n (pc := 0) (i := 0) d_An_init_0 rfl rfl ?_
  refine ex_objInit (pc := 1) d_An_init_1 OB_An_3 OB_1 OB_2 (ex_lt_rm (by decide)) (Nat.le_of_ble_eq_true rfl) ?_
  refine ex_aload_n (pc := 4) (i := 0) d_An_init_4 rfl rfl ?_
  refine ex_bipush (pc := 5) (v := (nI 8)) d_An_init_5 (by decide) ?_
  refine ex_newarr (pc := 7) 0 8 d_An_init_7 AR_int rfl rfl rfl rfl (nI_t (by decide)) (by decide) (Nat.le_of_ble_eq_true rfl) (Nat.le_of_ble_eq_true rfl) ?_
  have I1 := at_na (t := 0) (n := 8) hI
  refine ex_putr (pc := 9) 1 0 _ d_An_init_9 PF_An_9 I1.1 I1.2 rfl rfl ?_
  refine ex_aload_n (pc := 12) (i := 0) d_An_init_12 rfl rfl ?_
  refine ex_bipush (pc := 13) (v := (nI 8)) d_An_init_13 (by decide) ?_
  refine ex_newarr (pc := 15) 0 8 d_An_init_15 AR_int rfl rfl rfl rfl (nI_t (by decide)) (by decide) (Nat.le_of_ble_eq_true rfl) (Nat.le_of_ble_eq_true rfl) ?_
  have I2 := at_na (t := 0) (n := 8) I1
  refine ex_putr (pc := 17) 1 1 _ d_An_init_17 PF_An_15 I2.1 I2.2 rfl rfl ?_
  refine ex_vret d_An_init_20 rfl rfl (Nat.le_of_ble_eq_true rfl) ?_
  exact ⟨rfl, rfl⟩

def ini_RF (h : ex_H) (a : Nat) : ex_H := ex_sr (ex_na (ex_sr (ex_na (ex_sr (ex_na (ex_sr (ex_na (ex_sr (ex_na (ex_sr (ex_na (ex_sr (ex_na (ex_sr (ex_na (ex_sr (ex_na (ex_sr (ex_na (ex_sr (ex_na (ex_sr (ex_na (ex_sr (ex_na (ex_sr (ex_na (ex_sr (ex_na (ex_sr (ex_na (ex_sr (ex_na (ex_sr (ex_na (ex_sr (ex_na (ex_sr (ex_na (ex_sr (ex_na (ex_sr (ex_na (ex_sr (ex_na (ex_sr (ex_na (ex_sr (ex_na (ex_sr (ex_na (ex_sr (ex_na (ex_sr (ex_na (ex_sr (ex_na (ex_sr (ex_na (ex_sr (ex_na (ex_sr (ex_na (ex_sr (ex_na (ex_sr (ex_na (ex_sr (ex_na (ex_sr (ex_na (h) 0 40) a 1 (some (h.1))) 2 10) a 2 (some (h.1 + 1))) 2 10) a 3 (some (h.1 + 2))) 0 10) a 4 (some (h.1 + 3))) 0 10) a 5 (some (h.1 + 4))) 2 10) a 6 (some (h.1 + 5))) 0 10) a 7 (some (h.1 + 6))) 0 100) a 8 (some (h.1 + 7))) 0 100) a 9 (some (h.1 + 8))) 2 14) a 10 (some (h.1 + 9))) 0 14) a 11 (some (h.1 + 10))) 0 14) a 12 (some (h.1 + 11))) 2 14) a 13 (some (h.1 + 12))) 0 100) a 15 (some (h.1 + 13))) 0 40) a 17 (some (h.1 + 14))) 0 40) a 18 (some (h.1 + 15))) 0 40) a 19 (some (h.1 + 16))) 0 40) a 20 (some (h.1 + 17))) 0 40) a 21 (some (h.1 + 18))) 0 40) a 22 (some (h.1 + 19))) 0 40) a 23 (some (h.1 + 20))) 0 40) a 24 (some (h.1 + 21))) 2 40) a 25 (some (h.1 + 22))) 0 101) a 26 (some (h.1 + 23))) 0 101) a 27 (some (h.1 + 24))) 0 101) a 28 (some (h.1 + 25))) 0 400) a 30 (some (h.1 + 26))) 0 400) a 31 (some (h.1 + 27))) 0 13) a 33 (some (h.1 + 28))) 0 13) a 34 (some (h.1 + 29))) 0 13) a 35 (some (h.1 + 30))) 0 13) a 36 (some (h.1 + 31))) 0 13) a 37 (some (h.1 + 32))) 0 8) a 40 (some (h.1 + 33))) 0 8) a 41 (some (h.1 + 34))) 0 900) a 43 (some (h.1 + 35))
set_option maxRecDepth 100000 in
set_option maxHeartbeats 4000000 in
theorem ct_RF_init (l : Launch) (G : ex_G) (h : ex_H) (a : Nat) (hI : ex_at h a 12) : CT l G 1 M_RF_init [.ref a] h 36 2900 (fun r h' => h' = ini_RF h a ∧ r = none) := by
  refine ex_enter (by decide) (Nat.le_of_ble_eq_true rfl) (fun v hv => by simp at hv; rcases hv with rfl <;> rfl) (fun p e s m args below meth c => ?_)
  refine ex_aload_n (pc := 0) (i := 0) d_RF_init_0 rfl rfl ?_
  refine ex_objInit (pc := 1) d_RF_init_1 OB_RF_1 OB_1 OB_2 (ex_lt_rm (by decide)) (Nat.le_of_ble_eq_true rfl) ?_
  refine ex_aload_n (pc := 4) (i := 0) d_RF_init_4 rfl rfl ?_
  refine ex_bipush (pc := 5) (v := (nI 40)) d_RF_init_5 (by decide) ?_
  refine ex_newarr (pc := 7) 0 40 d_RF_init_7 AR_int rfl rfl rfl rfl (nI_t (by decide)) (by decide) (Nat.le_of_ble_eq_true rfl) (Nat.le_of_ble_eq_true rfl) ?_
  have I1 := at_na (t := 0) (n := 40) hI
  refine ex_putr (pc := 9) 12 1 _ d_RF_init_9 (PF_RF_7 _) I1.1 I1.2 rfl rfl ?_
  refine ex_aload_n (pc := 12) (i := 0) d_RF_init_12 rfl rfl ?_
  refine ex_bipush (pc := 13) (v := (nI 10)) d_RF_init_13 (by decide) ?_
  refine ex_newarr (pc := 15) 2 10 d_RF_init_15 AR_boolean rfl rfl rfl rfl (nI_t (by decide)) (by decide) (Nat.le_of_ble_eq_true rfl) (Nat.le_of_ble_eq_true rfl) ?_
  have I2 := at_na (t := 2) (n := 10) I1
  refine ex_putr (pc := 17) 12 2 _ d_RF_init_17 (PF_RF_13 _) I2.1 I2.2 rfl rfl ?_
  refine ex_aload_n (pc := 20) (i := 0) d_RF_init_20 rfl rfl ?_
  refine ex_bipush (pc := 21) (v := (nI 10)) d_RF_init_21 (by decide) ?_
  refine ex_newarr (pc := 23) 2 10 d_RF_init_23 AR_boolean rfl rfl rfl rfl (nI_t (by decide)) (by decide) (Nat.le_of_ble_eq_true rfl) (Nat.le_of_ble_eq_true rfl) ?_
  have I3 := at_na (t := 2) (n := 10) I2
  refine ex_putr (pc := 25) 12 3 _ d_RF_init_25 (PF_RF_17 _) I3.1 I3.2 rfl rfl ?_
  refine ex_aload_n (pc := 28) (i := 0) d_RF_init_28 rfl rfl ?_
  refine ex_bipush (pc := 29) (v := (nI 10)) d_RF_init_29 (by decide) ?_
  refine ex_newarr (pc := 31) 0 10 d_RF_init_31 AR_int rfl rfl rfl rfl (nI_t (by decide)) (by decide) (Nat.le_of_ble_eq_true rfl) (Nat.le_of_ble_eq_true rfl) ?_
  have I4 := at_na (t := 0) (n := 10) I3
  refine ex_putr (pc := 33) 12 4 _ d_RF_init_33 (PF_RF_20 _) I4.1 I4.2 rfl rfl ?_
  refine ex_aload_n (pc := 36) (i := 0) d_RF_init_36 rfl rfl ?_
  refine ex_bipush (pc := 37) (v := (nI 10)) d_RF_init_37 (by decide) ?_
  refine ex_newarr (pc := 39) 0 10 d_RF_init_39 AR_int rfl rfl rfl rfl (nI_t (by decide)) (by decide) (Nat.le_of_ble_eq_true rfl) (Nat.le_of_ble_eq_true rfl) ?_
  have I5 := at_na (t := 0) (n := 10) I4
  refine ex_putr (pc := 41) 12 5 _ d_RF_init_41 (PF_RF_23 _) I5.1 I5.2 rfl rfl ?_
  refine ex_aload_n (pc := 44) (i := 0) d_RF_init_44 rfl rfl ?_
  refine ex_bipush (pc := 45) (v := (nI 10)) d_RF_init_45 (by decide) ?_
  refine ex_newarr (pc := 47) 2 10 d_RF_init_47 AR_boolean rfl rfl rfl rfl (nI_t (by decide)) (by decide) (Nat.le_of_ble_eq_true rfl) (Nat.le_of_ble_eq_true rfl) ?_
  have I6 := at_na (t := 2) (n := 10) I5
  refine ex_putr (pc := 49) 12 6 _ d_RF_init_49 (PF_RF_26 _) I6.1 I6.2 rfl rfl ?_
  refine ex_aload_n (pc := 52) (i := 0) d_RF_init_52 rfl rfl ?_
  refine ex_bipush (pc := 53) (v := (nI 10)) d_RF_init_53 (by decide) ?_
  refine ex_newarr (pc := 55) 0 10 d_RF_init_55 AR_int rfl rfl rfl rfl (nI_t (by decide)) (by decide) (Nat.le_of_ble_eq_true rfl) (Nat.le_of_ble_eq_true rfl) ?_
  have I7 := at_na (t := 0) (n := 10) I6
  refine ex_putr (pc := 57) 12 7 _ d_RF_init_57 (PF_RF_29 _) I7.1 I7.2 rfl rfl ?_
  refine ex_aload_n (pc := 60) (i := 0) d_RF_init_60 rfl rfl ?_
  refine ex_bipush (pc := 61) (v := (nI 100)) d_RF_init_61 (by decide) ?_
  refine ex_newarr (pc := 63) 0 100 d_RF_init_63 AR_int rfl rfl rfl rfl (nI_t (by decide)) (by decide) (Nat.le_of_ble_eq_true rfl) (Nat.le_of_ble_eq_true rfl) ?_
  have I8 := at_na (t := 0) (n := 100) I7
  refine ex_putr (pc := 65) 12 8 _ d_RF_init_65 (PF_RF_32 _) I8.1 I8.2 rfl rfl ?_
  refine ex_aload_n (pc := 68) (i := 0) d_RF_init_68 rfl rfl ?_
  refine ex_bipush (pc := 69) (v := (nI 100)) d_RF_init_69 (by decide) ?_
  refine ex_newarr (pc := 71) 0 100 d_RF_init_71 AR_int rfl rfl rfl rfl (nI_t (by decide)) (by decide) (Nat.le_of_ble_eq_true rfl) (Nat.le_of_ble_eq_true rfl) ?_
  have I9 := at_na (t := 0) (n := 100) I8
  refine ex_putr (pc := 73) 12 9 _ d_RF_init_73 (PF_RF_35 _) I9.1 I9.2 rfl rfl ?_
  refine ex_aload_n (pc := 76) (i := 0) d_RF_init_76 rfl rfl ?_
  refine ex_bipush (pc := 77) (v := (nI 14)) d_RF_init_77 (by decide) ?_
  refine ex_newarr (pc := 79) 2 14 d_RF_init_79 AR_boolean rfl rfl rfl rfl (nI_t (by decide)) (by decide) (Nat.le_of_ble_eq_true rfl) (Nat.le_of_ble_eq_true rfl) ?_
  have I10 := at_na (t := 2) (n := 14) I9
  refine ex_putr (pc := 81) 12 10 _ d_RF_init_81 (PF_RF_38 _) I10.1 I10.2 rfl rfl ?_
  refine ex_aload_n (pc := 84) (i := 0) d_RF_init_84 rfl rfl ?_
  refine ex_bipush (pc := 85) (v := (nI 14)) d_RF_init_85 (by decide) ?_
  refine ex_newarr (pc := 87) 0 14 d_RF_init_87 AR_int rfl rfl rfl rfl (nI_t (by decide)) (by decide) (Nat.le_of_ble_eq_true rfl) (Nat.le_of_ble_eq_true rfl) ?_
  have I11 := at_na (t := 0) (n := 14) I10
  refine ex_putr (pc := 89) 12 11 _ d_RF_init_89 (PF_RF_41 _) I11.1 I11.2 rfl rfl ?_
  refine ex_aload_n (pc := 92) (i := 0) d_RF_init_92 rfl rfl ?_
  refine ex_bipush (pc := 93) (v := (nI 14)) d_RF_init_93 (by decide) ?_
  refine ex_newarr (pc := 95) 0 14 d_RF_init_95 AR_int rfl rfl rfl rfl (nI_t (by decide)) (by decide) (Nat.le_of_ble_eq_true rfl) (Nat.le_of_ble_eq_true rfl) ?_
  have I12 := at_na (t := 0) (n := 14) I11
  refine ex_putr (pc := 97) 12 12 _ d_RF_init_97 (PF_RF_44 _) I12.1 I12.2 rfl rfl ?_
  refine ex_aload_n (pc := 100) (i := 0) d_RF_init_100 rfl rfl ?_
  refine ex_bipush (pc := 101) (v := (nI 14)) d_RF_init_101 (by decide) ?_
  refine ex_newarr (pc := 103) 2 14 d_RF_init_103 AR_boolean rfl rfl rfl rfl (nI_t (by decide)) (by decide) (Nat.le_of_ble_eq_true rfl) (Nat.le_of_ble_eq_true rfl) ?_
  have I13 := at_na (t := 2) (n := 14) I12
  refine ex_putr (pc := 105) 12 13 _ d_RF_init_105 (PF_RF_47 _) I13.1 I13.2 rfl rfl ?_
  refine ex_aload_n (pc := 108) (i := 0) d_RF_init_108 rfl rfl ?_
  refine ex_bipush (pc := 109) (v := (nI 100)) d_RF_init_109 (by decide) ?_
  refine ex_newarr (pc := 111) 0 100 d_RF_init_111 AR_int rfl rfl rfl rfl (nI_t (by decide)) (by decide) (Nat.le_of_ble_eq_true rfl) (Nat.le_of_ble_eq_true rfl) ?_
  have I14 := at_na (t := 0) (n := 100) I13
  refine ex_putr (pc := 113) 12 15 _ d_RF_init_113 (PF_RF_50 _) I14.1 I14.2 rfl rfl ?_
  refine ex_aload_n (pc := 116) (i := 0) d_RF_init_116 rfl rfl ?_
  refine ex_bipush (pc := 117) (v := (nI 40)) d_RF_init_117 (by decide) ?_
  refine ex_newarr (pc := 119) 0 40 d_RF_init_119 AR_int rfl rfl rfl rfl (nI_t (by decide)) (by decide) (Nat.le_of_ble_eq_true rfl) (Nat.le_of_ble_eq_true rfl) ?_
  have I15 := at_na (t := 0) (n := 40) I14
  refine ex_putr (pc := 121) 12 17 _ d_RF_init_121 (PF_RF_53 _) I15.1 I15.2 rfl rfl ?_
  refine ex_aload_n (pc := 124) (i := 0) d_RF_init_124 rfl rfl ?_
  refine ex_bipush (pc := 125) (v := (nI 40)) d_RF_init_125 (by decide) ?_
  refine ex_newarr (pc := 127) 0 40 d_RF_init_127 AR_int rfl rfl rfl rfl (nI_t (by decide)) (by decide) (Nat.le_of_ble_eq_true rfl) (Nat.le_of_ble_eq_true rfl) ?_
  have I16 := at_na (t := 0) (n := 40) I15
  refine ex_putr (pc := 129) 12 18 _ d_RF_init_129 (PF_RF_56 _) I16.1 I16.2 rfl rfl ?_
  refine ex_aload_n (pc := 132) (i := 0) d_RF_init_132 rfl rfl ?_
  refine ex_bipush (pc := 133) (v := (nI 40)) d_RF_init_133 (by decide) ?_
  refine ex_newarr (pc := 135) 0 40 d_RF_init_135 AR_int rfl rfl rfl rfl (nI_t (by decide)) (by decide) (Nat.le_of_ble_eq_true rfl) (Nat.le_of_ble_eq_true rfl) ?_
  have I17 := at_na (t := 0) (n := 40) I16
  refine ex_putr (pc := 137) 12 19 _ d_RF_init_137 (PF_RF_59 _) I17.1 I17.2 rfl rfl ?_
  refine ex_aload_n (pc := 140) (i := 0) d_RF_init_140 rfl rfl ?_
  refine ex_bipush (pc := 141) (v := (nI 40)) d_RF_init_141 (by decide) ?_
  refine ex_newarr (pc := 143) 0 40 d_RF_init_143 AR_int rfl rfl rfl rfl (nI_t (by decide)) (by decide) (Nat.le_of_ble_eq_true rfl) (Nat.le_of_ble_eq_true rfl) ?_
  have I18 := at_na (t := 0) (n := 40) I17
  refine ex_putr (pc := 145) 12 20 _ d_RF_init_145 (PF_RF_62 _) I18.1 I18.2 rfl rfl ?_
  refine ex_aload_n (pc := 148) (i := 0) d_RF_init_148 rfl rfl ?_
  refine ex_bipush (pc := 149) (v := (nI 40)) d_RF_init_149 (by decide) ?_
  refine ex_newarr (pc := 151) 0 40 d_RF_init_151 AR_int rfl rfl rfl rfl (nI_t (by decide)) (by decide) (Nat.le_of_ble_eq_true rfl) (Nat.le_of_ble_eq_true rfl) ?_
  have I19 := at_na (t := 0) (n := 40) I18
  refine ex_putr (pc := 153) 12 21 _ d_RF_init_153 (PF_RF_65 _) I19.1 I19.2 rfl rfl ?_
  refine ex_aload_n (pc := 156) (i := 0) d_RF_init_156 rfl rfl ?_
  refine ex_bipush (pc := 157) (v := (nI 40)) d_RF_init_157 (by decide) ?_
  refine ex_newarr (pc := 159) 0 40 d_RF_init_159 AR_int rfl rfl rfl rfl (nI_t (by decide)) (by decide) (Nat.le_of_ble_eq_true rfl) (Nat.le_of_ble_eq_true rfl) ?_
  have I20 := at_na (t := 0) (n := 40) I19
  refine ex_putr (pc := 161) 12 22 _ d_RF_init_161 (PF_RF_68 _) I20.1 I20.2 rfl rfl ?_
  refine ex_aload_n (pc := 164) (i := 0) d_RF_init_164 rfl rfl ?_
  refine ex_bipush (pc := 165) (v := (nI 40)) d_RF_init_165 (by decide) ?_
  refine ex_newarr (pc := 167) 0 40 d_RF_init_167 AR_int rfl rfl rfl rfl (nI_t (by decide)) (by decide) (Nat.le_of_ble_eq_true rfl) (Nat.le_of_ble_eq_true rfl) ?_
  have I21 := at_na (t := 0) (n := 40) I20
  refine ex_putr (pc := 169) 12 23 _ d_RF_init_169 (PF_RF_71 _) I21.1 I21.2 rfl rfl ?_
  refine ex_aload_n (pc := 172) (i := 0) d_RF_init_172 rfl rfl ?_
  refine ex_bipush (pc := 173) (v := (nI 40)) d_RF_init_173 (by decide) ?_
  refine ex_newarr (pc := 175) 0 40 d_RF_init_175 AR_int rfl rfl rfl rfl (nI_t (by decide)) (by decide) (Nat.le_of_ble_eq_true rfl) (Nat.le_of_ble_eq_true rfl) ?_
  have I22 := at_na (t := 0) (n := 40) I21
  refine ex_putr (pc := 177) 12 24 _ d_RF_init_177 (PF_RF_74 _) I22.1 I22.2 rfl rfl ?_
  refine ex_aload_n (pc := 180) (i := 0) d_RF_init_180 rfl rfl ?_
  refine ex_bipush (pc := 181) (v := (nI 40)) d_RF_init_181 (by decide) ?_
  refine ex_newarr (pc := 183) 2 40 d_RF_init_183 AR_boolean rfl rfl rfl rfl (nI_t (by decide)) (by decide) (Nat.le_of_ble_eq_true rfl) (Nat.le_of_ble_eq_true rfl) ?_
  have I23 := at_na (t := 2) (n := 40) I22
  refine ex_putr (pc := 185) 12 25 _ d_RF_init_185 (PF_RF_77 _) I23.1 I23.2 rfl rfl ?_
  refine ex_aload_n (pc := 188) (i := 0) d_RF_init_188 rfl rfl ?_
  refine ex_bipush (pc := 189) (v := (nI 101)) d_RF_init_189 (by decide) ?_
  refine ex_newarr (pc := 191) 0 101 d_RF_init_191 AR_int rfl rfl rfl rfl (nI_t (by decide)) (by decide) (Nat.le_of_ble_eq_true rfl) (Nat.le_of_ble_eq_true rfl) ?_
  have I24 := at_na (t := 0) (n := 101) I23
  refine ex_putr (pc := 193) 12 26 _ d_RF_init_193 (PF_RF_80 _) I24.1 I24.2 rfl rfl ?_
  refine ex_aload_n (pc := 196) (i := 0) d_RF_init_196 rfl rfl ?_
  refine ex_bipush (pc := 197) (v := (nI 101)) d_RF_init_197 (by decide) ?_
  refine ex_newarr (pc := 199) 0 101 d_RF_init_199 AR_int rfl rfl rfl rfl (nI_t (by decide)) (by decide) (Nat.le_of_ble_eq_true rfl) (Nat.le_of_ble_eq_true rfl) ?_
  have I25 := at_na (t := 0) (n := 101) I24
  refine ex_putr (pc := 201) 12 27 _ d_RF_init_201 (PF_RF_83 _) I25.1 I25.2 rfl rfl ?_
  refine ex_aload_n (pc := 204) (i := 0) d_RF_init_204 rfl rfl ?_
  refine ex_bipush (pc := 205) (v := (nI 101)) d_RF_init_205 (by decide) ?_
  refine ex_newarr (pc := 207) 0 101 d_RF_init_207 AR_int rfl rfl rfl rfl (nI_t (by decide)) (by decide) (Nat.le_of_ble_eq_true rfl) (Nat.le_of_ble_eq_true rfl) ?_
  have I26 := at_na (t := 0) (n := 101) I25
  refine ex_putr (pc := 209) 12 28 _ d_RF_init_209 (PF_RF_86 _) I26.1 I26.2 rfl rfl ?_
  refine ex_aload_n (pc := 212) (i := 0) d_RF_init_212 rfl rfl ?_
  refine ex_sipush (pc := 213) (v := (nI 400)) d_RF_init_213 (by decide) ?_
  refine ex_newarr (pc := 216) 0 400 d_RF_init_216 AR_int rfl rfl rfl rfl (nI_t (by decide)) (by decide) (Nat.le_of_ble_eq_true rfl) (Nat.le_of_ble_eq_true rfl) ?_
  have I27 := at_na (t := 0) (n := 400) I26
  refine ex_putr (pc := 218) 12 30 _ d_RF_init_218 (PF_RF_89 _) I27.1 I27.2 rfl rfl ?_
  refine ex_aload_n (pc := 221) (i := 0) d_RF_init_221 rfl rfl ?_
  refine ex_sipush (pc := 222) (v := (nI 400)) d_RF_init_222 (by decide) ?_
  refine ex_newarr (pc := 225) 0 400 d_RF_init_225 AR_int rfl rfl rfl rfl (nI_t (by decide)) (by decide) (Nat.le_of_ble_eq_true rfl) (Nat.le_of_ble_eq_true rfl) ?_
  have I28 := at_na (t := 0) (n := 400) I27
  refine ex_putr (pc := 227) 12 31 _ d_RF_init_227 (PF_RF_92 _) I28.1 I28.2 rfl rfl ?_
  refine ex_aload_n (pc := 230) (i := 0) d_RF_init_230 rfl rfl ?_
  refine ex_bipush (pc := 231) (v := (nI 13)) d_RF_init_231 (by decide) ?_
  refine ex_newarr (pc := 233) 0 13 d_RF_init_233 AR_int rfl rfl rfl rfl (nI_t (by decide)) (by decide) (Nat.le_of_ble_eq_true rfl) (Nat.le_of_ble_eq_true rfl) ?_
  have I29 := at_na (t := 0) (n := 13) I28
  refine ex_putr (pc := 235) 12 33 _ d_RF_init_235 (PF_RF_95 _) I29.1 I29.2 rfl rfl ?_
  refine ex_aload_n (pc := 238) (i := 0) d_RF_init_238 rfl rfl ?_
  refine ex_bipush (pc := 239) (v := (nI 13)) d_RF_init_239 (by decide) ?_
  refine ex_newarr (pc := 241) 0 13 d_RF_init_241 AR_int rfl rfl rfl rfl (nI_t (by decide)) (by decide) (Nat.le_of_ble_eq_true rfl) (Nat.le_of_ble_eq_true rfl) ?_
  have I30 := at_na (t := 0) (n := 13) I29
  refine ex_putr (pc := 243) 12 34 _ d_RF_init_243 (PF_RF_98 _) I30.1 I30.2 rfl rfl ?_
  refine ex_aload_n (pc := 246) (i := 0) d_RF_init_246 rfl rfl ?_
  refine ex_bipush (pc := 247) (v := (nI 13)) d_RF_init_247 (by decide) ?_
  refine ex_newarr (pc := 249) 0 13 d_RF_init_249 AR_int rfl rfl rfl rfl (nI_t (by decide)) (by decide) (Nat.le_of_ble_eq_true rfl) (Nat.le_of_ble_eq_true rfl) ?_
  have I31 := at_na (t := 0) (n := 13) I30
  refine ex_putr (pc := 251) 12 35 _ d_RF_init_251 (PF_RF_101 _) I31.1 I31.2 rfl rfl ?_
  refine ex_aload_n (pc := 254) (i := 0) d_RF_init_254 rfl rfl ?_
  refine ex_bipush (pc := 255) (v := (nI 13)) d_RF_init_255 (by decide) ?_
  refine ex_newarr (pc := 257) 0 13 d_RF_init_257 AR_int rfl rfl rfl rfl (nI_t (by decide)) (by decide) (Nat.le_of_ble_eq_true rfl) (Nat.le_of_ble_eq_true rfl) ?_
  have I32 := at_na (t := 0) (n := 13) I31
  refine ex_putr (pc := 259) 12 36 _ d_RF_init_259 (PF_RF_104 _) I32.1 I32.2 rfl rfl ?_
  refine ex_aload_n (pc := 262) (i := 0) d_RF_init_262 rfl rfl ?_
  refine ex_bipush (pc := 263) (v := (nI 13)) d_RF_init_263 (by decide) ?_
  refine ex_newarr (pc := 265) 0 13 d_RF_init_265 AR_int rfl rfl rfl rfl (nI_t (by decide)) (by decide) (Nat.le_of_ble_eq_true rfl) (Nat.le_of_ble_eq_true rfl) ?_
  have I33 := at_na (t := 0) (n := 13) I32
  refine ex_putr (pc := 267) 12 37 _ d_RF_init_267 (PF_RF_107 _) I33.1 I33.2 rfl rfl ?_
  refine ex_aload_n (pc := 270) (i := 0) d_RF_init_270 rfl rfl ?_
  refine ex_bipush (pc := 271) (v := (nI 8)) d_RF_init_271 (by decide) ?_
  refine ex_newarr (pc := 273) 0 8 d_RF_init_273 AR_int rfl rfl rfl rfl (nI_t (by decide)) (by decide) (Nat.le_of_ble_eq_true rfl) (Nat.le_of_ble_eq_true rfl) ?_
  have I34 := at_na (t := 0) (n := 8) I33
  refine ex_putr (pc := 275) 12 40 _ d_RF_init_275 (PF_RF_110 _) I34.1 I34.2 rfl rfl ?_
  refine ex_aload_n (pc := 278) (i := 0) d_RF_init_278 rfl rfl ?_
  refine ex_bipush (pc := 279) (v := (nI 8)) d_RF_init_279 (by decide) ?_
  refine ex_newarr (pc := 281) 0 8 d_RF_init_281 AR_int rfl rfl rfl rfl (nI_t (by decide)) (by decide) (Nat.le_of_ble_eq_true rfl) (Nat.le_of_ble_eq_true rfl) ?_
  have I35 := at_na (t := 0) (n := 8) I34
  refine ex_putr (pc := 283) 12 41 _ d_RF_init_283 (PF_RF_113 _) I35.1 I35.2 rfl rfl ?_
  refine ex_aload_n (pc := 286) (i := 0) d_RF_init_286 rfl rfl ?_
  refine ex_sipush (pc := 287) (v := (nI 900)) d_RF_init_287 (by decide) ?_
  refine ex_newarr (pc := 290) 0 900 d_RF_init_290 AR_int rfl rfl rfl rfl (nI_t (by decide)) (by decide) (Nat.le_of_ble_eq_true rfl) (Nat.le_of_ble_eq_true rfl) ?_
  have I36 := at_na (t := 0) (n := 900) I35
  refine ex_putr (pc := 292) 12 43 _ d_RF_init_292 (PF_RF_116 _) I36.1 I36.2 rfl rfl ?_
  refine ex_vret d_RF_init_295 rfl rfl (Nat.le_of_ble_eq_true rfl) ?_
  exact ⟨rfl, rfl⟩

