/-! reads at a place; the draft; what the inbox and the text tell -/
def gAt (sz : Int32) (f : Nat → Int32) (x : Int32) : Int32 := if 0 ≤ x.toInt ∧ x.toInt < sz.toInt then f x.toInt.toNat else -1
theorem gAt_n {sz : Int32} {f : Nat → Int32} {x : Int32} (h : ¬ (0 ≤ x.toInt ∧ x.toInt < sz.toInt)) : gAt sz f x = -1 := if_neg h
theorem gAt_y {sz : Int32} {f : Nat → Int32} {x : Int32} (h1 : ¬ x < 0) (h2 : x.toInt < sz.toInt) : gAt sz f x = f x.toInt.toNat := if_pos ⟨by have q1 := i_nlt h1; rw [i_0] at q1; exact q1, h2⟩
theorem gAt_i {sz x : Int32} {N : Nat} (h1 : ¬ x < 0) (h2 : x.toInt < sz.toInt) (h3 : sz.toInt ≤ (N : Int)) : x.toInt = (x.toInt.toNat : Int) ∧ x.toInt.toNat < N := by
  have q1 := i_nlt h1
  rw [i_0] at q1
  omega
theorem i_neg {x : Int32} {sz : Int32} (h : x < 0) : ¬ (0 ≤ x.toInt ∧ x.toInt < sz.toInt) := fun q => by
  have q1 := i_lt.mp h
  rw [i_0] at q1
  omega
theorem i_big {x sz : Int32} (h : sz ≤ x) : ¬ (0 ≤ x.toInt ∧ x.toInt < sz.toInt) := fun q => by
  have q1 := i_le.mp h
  omega
set_option maxRecDepth 100000 in
set_option maxHeartbeats 4000000 in
theorem ca_Dr_at (l : Launch) (G : ex_G) (iv : Nat → Nat → Int32) (mp : Nat → Nat) (sp mo : Nat) (x : Int32) (hb : (iv 1 1).toInt ≤ ((40 : Nat) : Int)) : CT l G 0 M_Dr_at [.ref 1, .int x] (HP iv mp sp mo) 0 0 (fun r h' => h' = HP iv mp sp mo ∧ r = some (.int (gAt (iv 1 1) (iv 2) x))) := by
  refine ex_enter (by decide) (Nat.le_of_ble_eq_true rfl) (fun v hv => by simp at hv; rcases hv with rfl | rfl <;> rfl) (fun p e s m args below meth c => ?_)
  refine ex_iload_n (pc := 0) (i := 1) d_Dr_at_0 rfl rfl ?_
  refine ex_if_lt (pc := 1) (tgt := 21) d_Dr_at_1 rfl (fun c1 => ?_) (fun c1 => ?_)
  · refine ex_iconst (pc := 21) (v := (-1)) d_Dr_at_21 (by decide) ?_
    refine ex_iret (ty := .int) d_Dr_at_22 rfl rfl rfl (Nat.le_refl _) ?_
    exact ⟨rfl, by rw [gAt_n (i_neg c1)]⟩
  · refine ex_iload_n (pc := 4) (i := 1) d_Dr_at_4 rfl rfl ?_
    refine ex_aload_n (pc := 5) (i := 0) d_Dr_at_5 rfl rfl ?_
    refine ex_getx (pc := 6) 2 1 (iv 1 1) d_Dr_at_6 FL_Dr_19 (Nat.le_of_ble_eq_true rfl) rfl rfl ?_
    refine ex_icmp_ge (pc := 9) (tgt := 21) d_Dr_at_9 rfl (fun c9 => ?_) (fun c9 => ?_)
    · refine ex_iconst (pc := 21) (v := (-1)) d_Dr_at_21 (by decide) ?_
      refine ex_iret (ty := .int) d_Dr_at_22 rfl rfl rfl (Nat.le_refl _) ?_
      exact ⟨rfl, by rw [gAt_n (i_big c9)]⟩
    · refine ex_aload_n (pc := 12) (i := 0) d_Dr_at_12 rfl rfl ?_
      refine ex_getr (pc := 13) 2 0 d_Dr_at_13 FL_Dr_9 (Nat.le_of_ble_eq_true rfl) rfl rfl ?_
      refine ex_iload_n (pc := 16) (i := 1) d_Dr_at_16 rfl rfl ?_
      refine ex_caldx (pc := 17) x.toInt.toNat (iv 2 x.toInt.toNat) d_Dr_at_17 (Nat.le_of_ble_eq_true rfl) rfl rfl rfl (gAt_i c1 (i_nle c9) hb).1 (gAt_i c1 (i_nle c9) hb).2 rfl ?_
      refine ex_goto (pc := 18) (tgt := 22) d_Dr_at_18 rfl ?_
      refine ex_iret (ty := .int) d_Dr_at_22 rfl rfl rfl (Nat.le_refl _) ?_
      exact ⟨rfl, by rw [gAt_y c1 (i_nle c9)]⟩

set_option maxRecDepth 100000 in
set_option maxHeartbeats 4000000 in
theorem ct_Tx_at (l : Launch) (G : ex_G) (iv : Nat → Nat → Int32) (mp : Nat → Nat) (sp mo : Nat) (x : Int32) (hb : (iv 39 1).toInt ≤ ((100 : Nat) : Int)) : CT l G 0 M_Tx_at [.ref 39, .int x] (HP iv mp sp mo) 0 0 (fun r h' => h' = HP iv mp sp mo ∧ r = some (.int (gAt (iv 39 1) (iv 40) x))) := by
  refine ex_enter (by decide) (Nat.le_of_ble_eq_true rfl) (fun v hv => by simp at hv; rcases hv with rfl | rfl <;> rfl) (fun p e s m args below meth c => ?_)
  refine ex_iload_n (pc := 0) (i := 1) d_Tx_at_0 rfl rfl ?_
  refine ex_if_lt (pc := 1) (tgt := 21) d_Tx_at_1 rfl (fun c1 => ?_) (fun c1 => ?_)
  · refine ex_iconst (pc := 21) (v := (-1)) d_Tx_at_21 (by decide) ?_
    refine ex_iret (ty := .int) d_Tx_at_22 rfl rfl rfl (Nat.le_refl _) ?_
    exact ⟨rfl, by rw [gAt_n (i_neg c1)]⟩
  · refine ex_iload_n (pc := 4) (i := 1) d_Tx_at_4 rfl rfl ?_
    refine ex_aload_n (pc := 5) (i := 0) d_Tx_at_5 rfl rfl ?_
    refine ex_getx (pc := 6) 10 1 (iv 39 1) d_Tx_at_6 FL_Tx_15 (Nat.le_of_ble_eq_true rfl) rfl rfl ?_
    refine ex_icmp_ge (pc := 9) (tgt := 21) d_Tx_at_9 rfl (fun c9 => ?_) (fun c9 => ?_)
    · refine ex_iconst (pc := 21) (v := (-1)) d_Tx_at_21 (by decide) ?_
      refine ex_iret (ty := .int) d_Tx_at_22 rfl rfl rfl (Nat.le_refl _) ?_
      exact ⟨rfl, by rw [gAt_n (i_big c9)]⟩
    · refine ex_aload_n (pc := 12) (i := 0) d_Tx_at_12 rfl rfl ?_
      refine ex_getr (pc := 13) 10 0 d_Tx_at_13 FL_Tx_9 (Nat.le_of_ble_eq_true rfl) rfl rfl ?_
      refine ex_iload_n (pc := 16) (i := 1) d_Tx_at_16 rfl rfl ?_
      refine ex_caldx (pc := 17) x.toInt.toNat (iv 40 x.toInt.toNat) d_Tx_at_17 (Nat.le_of_ble_eq_true rfl) rfl rfl rfl (gAt_i c1 (i_nle c9) hb).1 (gAt_i c1 (i_nle c9) hb).2 rfl ?_
      refine ex_goto (pc := 18) (tgt := 22) d_Tx_at_18 rfl ?_
      refine ex_iret (ty := .int) d_Tx_at_22 rfl rfl rfl (Nat.le_refl _) ?_
      exact ⟨rfl, by rw [gAt_y c1 (i_nle c9)]⟩

set_option maxRecDepth 100000 in
set_option maxHeartbeats 4000000 in
theorem ct_Fo_at (l : Launch) (G : ex_G) (iv : Nat → Nat → Int32) (mp : Nat → Nat) (sp mo : Nat) (x : Int32) (hb : (iv 82 4).toInt ≤ ((694 : Nat) : Int)) : CT l G 0 M_Fo_at [.ref 82, .int x] (HP iv mp sp mo) 0 0 (fun r h' => h' = HP iv mp sp mo ∧ r = some (.int (gAt (iv 82 4) (iv 83) x))) := by
  refine ex_enter (by decide) (Nat.le_of_ble_eq_true rfl) (fun v hv => by simp at hv; rcases hv with rfl | rfl <;> rfl) (fun p e s m args below meth c => ?_)
  refine ex_iload_n (pc := 0) (i := 1) d_Fo_at_0 rfl rfl ?_
  refine ex_if_lt (pc := 1) (tgt := 21) d_Fo_at_1 rfl (fun c1 => ?_) (fun c1 => ?_)
  · refine ex_iconst (pc := 21) (v := (-1)) d_Fo_at_21 (by decide) ?_
    refine ex_iret (ty := .int) d_Fo_at_22 rfl rfl rfl (Nat.le_refl _) ?_
    exact ⟨rfl, by rw [gAt_n (i_neg c1)]⟩
  · refine ex_iload_n (pc := 4) (i := 1) d_Fo_at_4 rfl rfl ?_
    refine ex_aload_n (pc := 5) (i := 0) d_Fo_at_5 rfl rfl ?_
    refine ex_getx (pc := 6) 5 4 (iv 82 4) d_Fo_at_6 FL_Fo_27 (Nat.le_of_ble_eq_true rfl) rfl rfl ?_
    refine ex_icmp_ge (pc := 9) (tgt := 21) d_Fo_at_9 rfl (fun c9 => ?_) (fun c9 => ?_)
    · refine ex_iconst (pc := 21) (v := (-1)) d_Fo_at_21 (by decide) ?_
      refine ex_iret (ty := .int) d_Fo_at_22 rfl rfl rfl (Nat.le_refl _) ?_
      exact ⟨rfl, by rw [gAt_n (i_big c9)]⟩
    · refine ex_aload_n (pc := 12) (i := 0) d_Fo_at_12 rfl rfl ?_
      refine ex_getr (pc := 13) 5 3 d_Fo_at_13 FL_Fo_9 (Nat.le_of_ble_eq_true rfl) rfl rfl ?_
      refine ex_iload_n (pc := 16) (i := 1) d_Fo_at_16 rfl rfl ?_
      refine ex_caldx (pc := 17) x.toInt.toNat (iv 83 x.toInt.toNat) d_Fo_at_17 (Nat.le_of_ble_eq_true rfl) rfl rfl rfl (gAt_i c1 (i_nle c9) hb).1 (gAt_i c1 (i_nle c9) hb).2 rfl ?_
      refine ex_goto (pc := 18) (tgt := 22) d_Fo_at_18 rfl ?_
      refine ex_iret (ty := .int) d_Fo_at_22 rfl rfl rfl (Nat.le_refl _) ?_
      exact ⟨rfl, by rw [gAt_y c1 (i_nle c9)]⟩

set_option maxRecDepth 100000 in
set_option maxHeartbeats 4000000 in
theorem ct_RF_character (l : Launch) (G : ex_G) (iv : Nat → Nat → Int32) (mp : Nat → Nat) (sp mo : Nat) (x : Int32) (hb : (iv 92 14).toInt ≤ ((100 : Nat) : Int)) : CT l G 0 M_RF_character [.ref 92, .int x] (HP iv mp sp mo) 0 0 (fun r h' => h' = HP iv mp sp mo ∧ r = some (.int (gAt (iv 92 14) (iv 106) x))) := by
  refine ex_enter (by decide) (Nat.le_of_ble_eq_true rfl) (fun v hv => by simp at hv; rcases hv with rfl | rfl <;> rfl) (fun p e s m args below meth c => ?_)
  refine ex_iload_n (pc := 0) (i := 1) d_RF_character_0 rfl rfl ?_
  refine ex_if_lt (pc := 1) (tgt := 12) d_RF_character_1 rfl (fun c1 => ?_) (fun c1 => ?_)
  · refine ex_iconst (pc := 12) (v := (-1)) d_RF_character_12 (by decide) ?_
    refine ex_goto (pc := 13) (tgt := 22) d_RF_character_13 rfl ?_
    refine ex_iret (ty := .int) d_RF_character_22 rfl rfl rfl (Nat.le_refl _) ?_
    exact ⟨rfl, by rw [gAt_n (i_neg c1)]⟩
  · refine ex_iload_n (pc := 4) (i := 1) d_RF_character_4 rfl rfl ?_
    refine ex_aload_n (pc := 5) (i := 0) d_RF_character_5 rfl rfl ?_
    refine ex_getx (pc := 6) 12 14 (iv 92 14) d_RF_character_6 FL_RF_179 (Nat.le_of_ble_eq_true rfl) rfl rfl ?_
    refine ex_icmp_lt (pc := 9) (tgt := 16) d_RF_character_9 rfl (fun c9 => ?_) (fun c9 => ?_)
    · refine ex_aload_n (pc := 16) (i := 0) d_RF_character_16 rfl rfl ?_
      refine ex_getr (pc := 17) 12 15 d_RF_character_17 FL_RF_50 (Nat.le_of_ble_eq_true rfl) rfl rfl ?_
      refine ex_iload_n (pc := 20) (i := 1) d_RF_character_20 rfl rfl ?_
      refine ex_ialdx (pc := 21) x.toInt.toNat (iv 106 x.toInt.toNat) d_RF_character_21 (Nat.le_of_ble_eq_true rfl) rfl rfl rfl (gAt_i c1 (i_lt.mp c9) hb).1 (gAt_i c1 (i_lt.mp c9) hb).2 rfl ?_
      refine ex_iret (ty := .int) d_RF_character_22 rfl rfl rfl (Nat.le_refl _) ?_
      exact ⟨rfl, by rw [gAt_y c1 (i_lt.mp c9)]⟩
    · refine ex_iconst (pc := 12) (v := (-1)) d_RF_character_12 (by decide) ?_
      refine ex_goto (pc := 13) (tgt := 22) d_RF_character_13 rfl ?_
      refine ex_iret (ty := .int) d_RF_character_22 rfl rfl rfl (Nat.le_refl _) ?_
      exact ⟨rfl, by rw [gAt_n (i_big (Int32.not_lt.mp c9))]⟩

set_option maxRecDepth 100000 in
set_option maxHeartbeats 4000000 in
theorem ct_RF_formed (l : Launch) (G : ex_G) (iv : Nat → Nat → Int32) (mp : Nat → Nat) (sp mo : Nat) (x : Int32) (hb : (iv 92 42).toInt ≤ ((900 : Nat) : Int)) : CT l G 0 M_RF_formed [.ref 92, .int x] (HP iv mp sp mo) 0 0 (fun r h' => h' = HP iv mp sp mo ∧ r = some (.int (gAt (iv 92 42) (iv 128) x))) := by
  refine ex_enter (by decide) (Nat.le_of_ble_eq_true rfl) (fun v hv => by simp at hv; rcases hv with rfl | rfl <;> rfl) (fun p e s m args below meth c => ?_)
  refine ex_iload_n (pc := 0) (i := 1) d_RF_formed_0 rfl rfl ?_
  refine ex_if_lt (pc := 1) (tgt := 12) d_RF_formed_1 rfl (fun c1 => ?_) (fun c1 => ?_)
  · refine ex_iconst (pc := 12) (v := (-1)) d_RF_formed_12 (by decide) ?_
    refine ex_goto (pc := 13) (tgt := 22) d_RF_formed_13 rfl ?_
    refine ex_iret (ty := .int) d_RF_formed_22 rfl rfl rfl (Nat.le_refl _) ?_
    exact ⟨rfl, by rw [gAt_n (i_neg c1)]⟩
  · refine ex_iload_n (pc := 4) (i := 1) d_RF_formed_4 rfl rfl ?_
    refine ex_aload_n (pc := 5) (i := 0) d_RF_formed_5 rfl rfl ?_
    refine ex_getx (pc := 6) 12 42 (iv 92 42) d_RF_formed_6 FL_RF_234 (Nat.le_of_ble_eq_true rfl) rfl rfl ?_
    refine ex_icmp_lt (pc := 9) (tgt := 16) d_RF_formed_9 rfl (fun c9 => ?_) (fun c9 => ?_)
    · refine ex_aload_n (pc := 16) (i := 0) d_RF_formed_16 rfl rfl ?_
      refine ex_getr (pc := 17) 12 43 d_RF_formed_17 FL_RF_116 (Nat.le_of_ble_eq_true rfl) rfl rfl ?_
      refine ex_iload_n (pc := 20) (i := 1) d_RF_formed_20 rfl rfl ?_
      refine ex_ialdx (pc := 21) x.toInt.toNat (iv 128 x.toInt.toNat) d_RF_formed_21 (Nat.le_of_ble_eq_true rfl) rfl rfl rfl (gAt_i c1 (i_lt.mp c9) hb).1 (gAt_i c1 (i_lt.mp c9) hb).2 rfl ?_
      refine ex_iret (ty := .int) d_RF_formed_22 rfl rfl rfl (Nat.le_refl _) ?_
      exact ⟨rfl, by rw [gAt_y c1 (i_lt.mp c9)]⟩
    · refine ex_iconst (pc := 12) (v := (-1)) d_RF_formed_12 (by decide) ?_
      refine ex_goto (pc := 13) (tgt := 22) d_RF_formed_13 rfl ?_
      refine ex_iret (ty := .int) d_RF_formed_22 rfl rfl rfl (Nat.le_refl _) ?_
      exact ⟨rfl, by rw [gAt_n (i_big (Int32.not_lt.mp c9))]⟩

set_option maxRecDepth 100000 in
set_option maxHeartbeats 4000000 in
theorem ct_TG_inbox (l : Launch) (G : ex_G) (iv : Nat → Nat → Int32) (mp : Nat → Nat) (sp mo : Nat) : CT l G 0 M_TG_inbox [.ref 0] (HP iv mp sp mo) 0 0 (fun r h' => h' = HP iv mp sp mo ∧ r = some (.int (iv 84 4))) := by
  refine ex_enter (by decide) (Nat.le_of_ble_eq_true rfl) (fun v hv => by simp at hv; rcases hv with rfl <;> rfl) (fun p e s m args below meth c => ?_)
  refine ex_aload_n (pc := 0) (i := 0) d_TG_inbox_0 rfl rfl ?_
  refine ex_getr (pc := 1) 0 7 d_TG_inbox_1 FL_TG_67 (Nat.le_of_ble_eq_true rfl) rfl rfl ?_
  refine ex_getx (pc := 4) 6 4 (iv 84 4) d_TG_inbox_4 FL_TG_127 (Nat.le_of_ble_eq_true rfl) rfl rfl ?_
  refine ex_iret (ty := .int) d_TG_inbox_7 rfl rfl rfl (Nat.le_refl _) ?_
  exact ⟨rfl, rfl⟩

set_option maxRecDepth 100000 in
set_option maxHeartbeats 4000000 in
theorem ct_TG_length (l : Launch) (G : ex_G) (iv : Nat → Nat → Int32) (mp : Nat → Nat) (sp mo : Nat) : CT l G 0 M_TG_length [.ref 0] (HP iv mp sp mo) 0 0 (fun r h' => h' = HP iv mp sp mo ∧ r = some (.int (iv 39 1))) := by
  refine ex_enter (by decide) (Nat.le_of_ble_eq_true rfl) (fun v hv => by simp at hv; rcases hv with rfl <;> rfl) (fun p e s m args below meth c => ?_)
  refine ex_aload_n (pc := 0) (i := 0) d_TG_length_0 rfl rfl ?_
  refine ex_getr (pc := 1) 0 3 d_TG_length_1 FL_TG_35 (Nat.le_of_ble_eq_true rfl) rfl rfl ?_
  refine ex_getx (pc := 4) 10 1 (iv 39 1) d_TG_length_4 FL_TG_161 (Nat.le_of_ble_eq_true rfl) rfl rfl ?_
  refine ex_iret (ty := .int) d_TG_length_7 rfl rfl rfl (Nat.le_refl _) ?_
  exact ⟨rfl, rfl⟩

set_option maxRecDepth 100000 in
set_option maxHeartbeats 4000000 in
theorem ct_TG_fertile (l : Launch) (G : ex_G) (iv : Nat → Nat → Int32) (mp : Nat → Nat) (sp mo : Nat) : CT l G 0 M_TG_fertile [.ref 0] (HP iv mp sp mo) 0 0 (fun r h' => h' = HP iv mp sp mo ∧ r = some (.int (iv 7 2))) := by
  refine ex_enter (by decide) (Nat.le_of_ble_eq_true rfl) (fun v hv => by simp at hv; rcases hv with rfl <;> rfl) (fun p e s m args below meth c => ?_)
  refine ex_aload_n (pc := 0) (i := 0) d_TG_fertile_0 rfl rfl ?_
  refine ex_getr (pc := 1) 0 2 d_TG_fertile_1 FL_TG_28 (Nat.le_of_ble_eq_true rfl) rfl rfl ?_
  refine ex_getx (pc := 4) 9 2 (iv 7 2) d_TG_fertile_4 FL_TG_180 (Nat.le_of_ble_eq_true rfl) rfl rfl ?_
  refine ex_iret (ty := .int) d_TG_fertile_7 rfl rfl rfl (Nat.le_refl _) ?_
  exact ⟨rfl, rfl⟩

set_option maxRecDepth 100000 in
set_option maxHeartbeats 4000000 in
theorem ct_RF_inbox (l : Launch) (G : ex_G) (iv : Nat → Nat → Int32) (mp : Nat → Nat) (sp mo : Nat) : CT l G 0 M_RF_inbox [.ref 92] (HP iv mp sp mo) 0 0 (fun r h' => h' = HP iv mp sp mo ∧ r = some (.int (iv 92 32))) := by
  refine ex_enter (by decide) (Nat.le_of_ble_eq_true rfl) (fun v hv => by simp at hv; rcases hv with rfl <;> rfl) (fun p e s m args below meth c => ?_)
  refine ex_aload_n (pc := 0) (i := 0) d_RF_inbox_0 rfl rfl ?_
  refine ex_getx (pc := 1) 12 32 (iv 92 32) d_RF_inbox_1 FL_RF_261 (Nat.le_of_ble_eq_true rfl) rfl rfl ?_
  refine ex_iret (ty := .int) d_RF_inbox_4 rfl rfl rfl (Nat.le_refl _) ?_
  exact ⟨rfl, rfl⟩

set_option maxRecDepth 100000 in
set_option maxHeartbeats 4000000 in
theorem ct_RF_length (l : Launch) (G : ex_G) (iv : Nat → Nat → Int32) (mp : Nat → Nat) (sp mo : Nat) : CT l G 0 M_RF_length [.ref 92] (HP iv mp sp mo) 0 0 (fun r h' => h' = HP iv mp sp mo ∧ r = some (.int (iv 92 14))) := by
  refine ex_enter (by decide) (Nat.le_of_ble_eq_true rfl) (fun v hv => by simp at hv; rcases hv with rfl <;> rfl) (fun p e s m args below meth c => ?_)
  refine ex_aload_n (pc := 0) (i := 0) d_RF_length_0 rfl rfl ?_
  refine ex_getx (pc := 1) 12 14 (iv 92 14) d_RF_length_1 FL_RF_179 (Nat.le_of_ble_eq_true rfl) rfl rfl ?_
  refine ex_iret (ty := .int) d_RF_length_4 rfl rfl rfl (Nat.le_refl _) ?_
  exact ⟨rfl, rfl⟩

set_option maxRecDepth 100000 in
set_option maxHeartbeats 4000000 in
theorem ct_TG_character (l : Launch) (G : ex_G) (iv : Nat → Nat → Int32) (mp : Nat → Nat) (sp mo : Nat) (x : Int32) (hb : (iv 39 1).toInt ≤ ((100 : Nat) : Int)) : CT l G 1 M_TG_character [.ref 0, .int x] (HP iv mp sp mo) 0 0 (fun r h' => h' = HP iv mp sp mo ∧ r = some (.int (gAt (iv 39 1) (iv 40) x))) := by
  refine ex_enter (by decide) (Nat.le_of_ble_eq_true rfl) (fun v hv => by simp at hv; rcases hv with rfl | rfl <;> rfl) (fun p e s m args below meth c => ?_)
  refine ex_aload_n (pc := 0) (i := 0) d_TG_character_0 rfl rfl ?_
  refine ex_getr (pc := 1) 0 3 d_TG_character_1 FL_TG_35 (Nat.le_of_ble_eq_true rfl) rfl rfl ?_
  refine ex_iload_n (pc := 4) (i := 1) d_TG_character_4 rfl rfl ?_
  refine ex_callV (pc := 5) (M' := M_Tx_at) (as := [.int x]) (st := []) d_TG_character_5 MW_Tx_at MI_Tx_at LK_TG_162 (Nat.le_of_ble_eq_true rfl) rfl rfl rfl (ct_Tx_at l G iv mp sp mo x hb) (ex_lt_rm (by decide)) ⟨Nat.le_refl _, Nat.le_refl _⟩ rfl rfl (Nat.le_of_ble_eq_true rfl) ?_
  rintro _ _ ⟨rfl, rfl⟩
  refine ex_iret (ty := .int) d_TG_character_8 rfl rfl rfl (Nat.le_refl _) ?_
  exact ⟨rfl, rfl⟩

set_option maxRecDepth 100000 in
set_option maxHeartbeats 4000000 in
theorem ct_TG_formed (l : Launch) (G : ex_G) (iv : Nat → Nat → Int32) (mp : Nat → Nat) (sp mo : Nat) (x : Int32) (hb : (iv 82 4).toInt ≤ ((694 : Nat) : Int)) : CT l G 1 M_TG_formed [.ref 0, .int x] (HP iv mp sp mo) 0 0 (fun r h' => h' = HP iv mp sp mo ∧ r = some (.int (gAt (iv 82 4) (iv 83) x))) := by
  refine ex_enter (by decide) (Nat.le_of_ble_eq_true rfl) (fun v hv => by simp at hv; rcases hv with rfl | rfl <;> rfl) (fun p e s m args below meth c => ?_)
  refine ex_aload_n (pc := 0) (i := 0) d_TG_formed_0 rfl rfl ?_
  refine ex_getr (pc := 1) 0 6 d_TG_formed_1 FL_TG_60 (Nat.le_of_ble_eq_true rfl) rfl rfl ?_
  refine ex_iload_n (pc := 4) (i := 1) d_TG_formed_4 rfl rfl ?_
  refine ex_callV (pc := 5) (M' := M_Fo_at) (as := [.int x]) (st := []) d_TG_formed_5 MW_Fo_at MI_Fo_at LK_TG_183 (Nat.le_of_ble_eq_true rfl) rfl rfl rfl (ct_Fo_at l G iv mp sp mo x hb) (ex_lt_rm (by decide)) ⟨Nat.le_refl _, Nat.le_refl _⟩ rfl rfl (Nat.le_of_ble_eq_true rfl) ?_
  rintro _ _ ⟨rfl, rfl⟩
  refine ex_iret (ty := .int) d_TG_formed_8 rfl rfl rfl (Nat.le_refl _) ?_
  exact ⟨rfl, rfl⟩

theorem nar_c {x : Int32} (h0 : 0 ≤ x.toInt) (h1 : x.toInt < 65536) : vp_nar .char x = x := by
  have e := i_of x h0
  rw [e]
  have h2 : x.toInt.toNat < 65536 := by omega
  have h3 := (pk_charN h2).1
  show (match narrow .char (.int (nI x.toInt.toNat)) with | .int y => y | _ => nI x.toInt.toNat) = _
  rw [h3]
theorem wr_r {x : Int32} (h : wrB x = true) : 32 ≤ x.toInt ∧ x.toInt ≤ 126 := by
  simp only [wrB, Bool.and_eq_true, decide_eq_true_eq] at h
  exact h
theorem nI_s (n : Nat) : nI n + nI 1 = nI (n + 1) := nI_add n 1
/-- a character behind n others, and the number of them -/
def apH (iv : Nat → Nat → Int32) (o k a n : Nat) (c : Int32) : Nat → Nat → Int32 := ex_u2 (ex_u2 iv a n c) o k (nI (n + 1))
set_option maxRecDepth 100000 in
set_option maxHeartbeats 4000000 in
theorem ct_Dr_append (l : Launch) (G : ex_G) (iv : Nat → Nat → Int32) (mp : Nat → Nat) (sp mo : Nat) (n : Nat) (ch : Int32) (hn : iv 1 1 = nI n) (hl : n ≤ 40) : CT l G 1 M_Dr_append [.ref 1, .int ch] (HP iv mp sp mo) 0 0 (fun r h' => h' = (if wrB ch = true ∧ n < 40 then HP (apH iv 1 1 2 n ch) mp sp mo else HP iv mp sp mo) ∧ r = some (.int (b2i (wrB ch && decide (n < 40))))) := by
  refine ex_enter (by decide) (Nat.le_of_ble_eq_true rfl) (fun v hv => by simp at hv; rcases hv with rfl | rfl <;> rfl) (fun p e s m args below meth c => ?_)
  refine ex_iload_n (pc := 0) (i := 1) d_Dr_append_0 rfl rfl ?_
  refine ex_callS (pc := 1) (M' := M_TG_isWritable) (as := [.int ch]) (st := []) d_Dr_append_1 MW_TG_isWritable ST_TG_isWritable LK_Dr_15 (ct_TG_isWritable l G (HP iv mp sp mo) ch) (ex_lt_rm (by decide)) ⟨Nat.le_refl _, Nat.le_refl _⟩ rfl rfl (Nat.le_of_ble_eq_true rfl) ?_
  rintro _ _ ⟨rfl, rfl⟩
  refine ex_if_eq (pc := 4) (tgt := 16) d_Dr_append_4 rfl (fun c4 => ?_) (fun c4 => ?_)
  · refine ex_iconst (pc := 16) (v := (nI 0)) d_Dr_append_16 (by decide) ?_
    refine ex_iret (ty := .boolean) d_Dr_append_17 rfl rfl rfl (Nat.le_refl _) ?_
    rw [b2i_0 c4]
    exact ⟨rfl, rfl⟩
  · have hw := b2i_1 c4
    refine ex_aload_n (pc := 7) (i := 0) d_Dr_append_7 rfl rfl ?_
    refine ex_getx (pc := 8) 2 1 (nI n) d_Dr_append_8 FL_Dr_19 (Nat.le_of_ble_eq_true rfl) rfl hn ?_
    refine ex_bipush (pc := 11) (v := (nI 40)) d_Dr_append_11 (by decide) ?_
    refine ex_icmp_lt (pc := 13) (tgt := 18) d_Dr_append_13 rfl (fun c13 => ?_) (fun c13 => ?_)
    · have h40 : n < 40 := by
        have q1 := i_lt.mp c13
        rw [nI_t (by omega), nI_t (by omega)] at q1
        omega
      refine ex_aload_n (pc := 18) (i := 0) d_Dr_append_18 rfl rfl ?_
      refine ex_getr (pc := 19) 2 0 d_Dr_append_19 FL_Dr_9 (Nat.le_of_ble_eq_true rfl) rfl rfl ?_
      refine ex_aload_n (pc := 22) (i := 0) d_Dr_append_22 rfl rfl ?_
      refine ex_getx (pc := 23) 2 1 (nI n) d_Dr_append_23 FL_Dr_19 (Nat.le_of_ble_eq_true rfl) rfl hn ?_
      refine ex_iload_n (pc := 26) (i := 1) d_Dr_append_26 rfl rfl ?_
      refine ex_cast (pc := 27) n d_Dr_append_27 (Nat.le_of_ble_eq_true rfl) rfl rfl rfl (nI_t (by omega)) (show n < 40 from h40) ?_
      refine ex_aload_n (pc := 28) (i := 0) d_Dr_append_28 rfl rfl ?_
      refine ex_dup (pc := 29) d_Dr_append_29 rfl ?_
      refine ex_getx (pc := 30) 2 1 (nI n) d_Dr_append_30 FL_Dr_19 (Nat.le_of_ble_eq_true rfl) rfl hn ?_
      refine ex_iconst (pc := 33) (v := (nI 1)) d_Dr_append_33 (by decide) ?_
      refine ex_iadd (pc := 34) d_Dr_append_34 ?_
      refine ex_puti (pc := 35) 2 1 .int d_Dr_append_35 (PF_Dr_19 _) (Nat.le_of_ble_eq_true rfl) rfl rfl rfl ?_
      refine ex_heap (h' := HP (apH iv 1 1 2 n ch) mp sp mo) ?_ ?_
      · rw [nar_c (by have := wr_r hw; omega) (by have := wr_r hw; omega), nI_s]
        rfl
      refine ex_iconst (pc := 38) (v := (nI 1)) d_Dr_append_38 (by decide) ?_
      refine ex_iret (ty := .boolean) d_Dr_append_39 rfl rfl rfl (Nat.le_refl _) ?_
      rw [if_pos ⟨hw, h40⟩, decide_eq_true h40, hw]
      exact ⟨rfl, rfl⟩
    · refine ex_iconst (pc := 16) (v := (nI 0)) d_Dr_append_16 (by decide) ?_
      refine ex_iret (ty := .boolean) d_Dr_append_17 rfl rfl rfl (Nat.le_refl _) ?_
      have h40 : ¬ n < 40 := by
        have q1 := i_nlt c13
        rw [nI_t (by omega), nI_t (by omega)] at q1
        omega
      rw [if_neg (fun q => h40 q.2), decide_eq_false h40, hw]
      exact ⟨rfl, rfl⟩

set_option maxRecDepth 100000 in
set_option maxHeartbeats 4000000 in
theorem ct_TG_write (l : Launch) (G : ex_G) (iv : Nat → Nat → Int32) (mp : Nat → Nat) (sp mo : Nat) (n : Nat) (ch : Int32) (hn : iv 1 1 = nI n) (hl : n ≤ 40) : CT l G 2 M_TG_write [.ref 0, .int ch] (HP iv mp sp mo) 0 0 (fun r h' => h' = (if wrB ch = true ∧ n < 40 then HP (apH iv 1 1 2 n ch) mp sp mo else HP iv mp sp mo) ∧ r = some (.int (b2i (wrB ch && decide (n < 40))))) := by
  refine ex_enter (by decide) (Nat.le_of_ble_eq_true rfl) (fun v hv => by simp at hv; rcases hv with rfl | rfl <;> rfl) (fun p e s m args below meth c => ?_)
  refine ex_aload_n (pc := 0) (i := 0) d_TG_write_0 rfl rfl ?_
  refine ex_getr (pc := 1) 0 0 d_TG_write_1 FL_TG_12 (Nat.le_of_ble_eq_true rfl) rfl rfl ?_
  refine ex_iload_n (pc := 4) (i := 1) d_TG_write_4 rfl rfl ?_
  refine ex_callV (pc := 5) (M' := M_Dr_append) (as := [.int ch]) (st := []) d_TG_write_5 MW_Dr_append MI_Dr_append LK_TG_82 (Nat.le_of_ble_eq_true rfl) rfl rfl rfl (ct_Dr_append l G iv mp sp mo n ch hn hl) (ex_lt_rm (by decide)) ⟨Nat.le_refl _, Nat.le_refl _⟩ rfl rfl (Nat.le_of_ble_eq_true rfl) ?_
  rintro _ _ ⟨rfl, rfl⟩
  refine ex_iret (ty := .boolean) d_TG_write_8 rfl (b2i_n _) rfl (Nat.le_refl _) ?_
  exact ⟨rfl, rfl⟩

set_option maxRecDepth 100000 in
set_option maxHeartbeats 4000000 in
theorem ct_RF_write (l : Launch) (G : ex_G) (iv : Nat → Nat → Int32) (mp : Nat → Nat) (sp mo : Nat) (n : Nat) (ch : Int32) (hn : iv 92 0 = nI n) (hl : n ≤ 40) : CT l G 0 M_RF_write [.ref 92, .int ch] (HP iv mp sp mo) 0 0 (fun r h' => h' = (if wrB ch = true ∧ n < 40 then HP (apH iv 92 0 93 n ch) mp sp mo else HP iv mp sp mo) ∧ r = some (.int (b2i (wrB ch && decide (n < 40))))) := by
  refine ex_enter (by decide) (Nat.le_of_ble_eq_true rfl) (fun v hv => by simp at hv; rcases hv with rfl | rfl <;> rfl) (fun p e s m args below meth c => ?_)
  refine ex_iload_n (pc := 0) (i := 1) d_RF_write_0 rfl rfl ?_
  refine ex_bipush (pc := 1) (v := (nI 32)) d_RF_write_1 (by decide) ?_
  refine ex_icmp_lt (pc := 3) (tgt := 21) d_RF_write_3 rfl (fun c3 => ?_) (fun c3 => ?_)
  · refine ex_iconst (pc := 21) (v := (nI 0)) d_RF_write_21 (by decide) ?_
    refine ex_iret (ty := .boolean) d_RF_write_22 rfl rfl rfl (Nat.le_refl _) ?_
    rw [wr_2 c3]
    exact ⟨rfl, rfl⟩
  · refine ex_iload_n (pc := 6) (i := 1) d_RF_write_6 rfl rfl ?_
    refine ex_bipush (pc := 7) (v := (nI 126)) d_RF_write_7 (by decide) ?_
    refine ex_icmp_gt (pc := 9) (tgt := 21) d_RF_write_9 rfl (fun c9 => ?_) (fun c9 => ?_)
    · refine ex_iconst (pc := 21) (v := (nI 0)) d_RF_write_21 (by decide) ?_
      refine ex_iret (ty := .boolean) d_RF_write_22 rfl rfl rfl (Nat.le_refl _) ?_
      rw [wr_3 c9]
      exact ⟨rfl, rfl⟩
    · refine ex_aload_n (pc := 12) (i := 0) d_RF_write_12 rfl rfl ?_
      refine ex_getx (pc := 13) 12 0 (nI n) d_RF_write_13 FL_RF_119 (Nat.le_of_ble_eq_true rfl) rfl hn ?_
      refine ex_bipush (pc := 16) (v := (nI 40)) d_RF_write_16 (by decide) ?_
      refine ex_icmp_ne (pc := 18) (tgt := 23) d_RF_write_18 rfl (fun c18 => ?_) (fun c18 => ?_)
      · have h40 : n < 40 := by
          have q1 : n ≠ 40 := fun q => c18 (by rw [q])
          omega
        have hw := wr_1 c3 c9
        refine ex_aload_n (pc := 23) (i := 0) d_RF_write_23 rfl rfl ?_
        refine ex_getr (pc := 24) 12 1 d_RF_write_24 FL_RF_7 (Nat.le_of_ble_eq_true rfl) rfl rfl ?_
        refine ex_aload_n (pc := 27) (i := 0) d_RF_write_27 rfl rfl ?_
        refine ex_getx (pc := 28) 12 0 (nI n) d_RF_write_28 FL_RF_119 (Nat.le_of_ble_eq_true rfl) rfl hn ?_
        refine ex_iload_n (pc := 31) (i := 1) d_RF_write_31 rfl rfl ?_
        refine ex_iast (pc := 32) n d_RF_write_32 (Nat.le_of_ble_eq_true rfl) rfl rfl rfl (nI_t (by omega)) (show n < 40 from h40) ?_
        refine ex_aload_n (pc := 33) (i := 0) d_RF_write_33 rfl rfl ?_
        refine ex_dup (pc := 34) d_RF_write_34 rfl ?_
        refine ex_getx (pc := 35) 12 0 (nI n) d_RF_write_35 FL_RF_119 (Nat.le_of_ble_eq_true rfl) rfl hn ?_
        refine ex_iconst (pc := 38) (v := (nI 1)) d_RF_write_38 (by decide) ?_
        refine ex_iadd (pc := 39) d_RF_write_39 ?_
        refine ex_puti (pc := 40) 12 0 .int d_RF_write_40 (PF_RF_119 _) (Nat.le_of_ble_eq_true rfl) rfl rfl rfl ?_
        refine ex_heap (h' := HP (apH iv 92 0 93 n ch) mp sp mo) ?_ ?_
        · rw [nI_s]
          rfl
        refine ex_iconst (pc := 43) (v := (nI 1)) d_RF_write_43 (by decide) ?_
        refine ex_iret (ty := .boolean) d_RF_write_44 rfl rfl rfl (Nat.le_refl _) ?_
        rw [if_pos ⟨hw, h40⟩, decide_eq_true h40, hw]
        exact ⟨rfl, rfl⟩
      · refine ex_iconst (pc := 21) (v := (nI 0)) d_RF_write_21 (by decide) ?_
        refine ex_iret (ty := .boolean) d_RF_write_22 rfl rfl rfl (Nat.le_refl _) ?_
        have h40 : ¬ n < 40 := by
          have q1 := i_eq.mp c18
          rw [nI_t (by omega), nI_t (by omega)] at q1
          omega
        rw [if_neg (fun q => h40 q.2), decide_eq_false h40, wr_1 c3 c9]
        exact ⟨rfl, rfl⟩

