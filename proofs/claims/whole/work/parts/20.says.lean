/-! kinds of tags; which model; what the models say of the tree -/
def cAt (iv : Nat → Nat → Int32) (x : Int32) : Int32 := gAt (iv 39 1) (iv 40) x
def tkF (a : Int32 → Int32) (x : Int32) : Int32 := if a x = nI 60 then (if nmB (a (x + nI 1)) = true then (if a (x + nI 2) = nI 62 then nI 1 else if a (x + nI 2) = nI 47 ∧ a (x + nI 3) = nI 62 then nI 2 else nI 0) else if a (x + nI 1) = nI 47 ∧ nmB (a (x + nI 2)) = true ∧ a (x + nI 3) = nI 62 then nI 3 else nI 0) else nI 0
def rowN (y : Int32) : Nat := if nmB y = true then (y.toInt - 97).toNat else 8
theorem rowN_lt (y : Int32) : rowN y < 9 := by
  unfold rowN
  by_cases h : nmB y = true
  · rw [if_pos h]
    simp only [nmB, Bool.and_eq_true, decide_eq_true_eq] at h
    omega
  · rw [if_neg h]
    omega
theorem row_t (y : Int32) : 0 ≤ (y - nI 97).toInt ∧ (y - nI 97).toInt < 8 ↔ nmB y = true := by
  have h1 := i_rng y
  have h2 : (nI 97).toInt = 97 := by decide
  simp only [nmB, Bool.and_eq_true, decide_eq_true_eq]
  rw [Int32.toInt_sub, h2, Int.bmod_def]
  by_cases hc : (y.toInt - 97) % ((2 ^ 32 : Nat) : Int) < (((2 ^ 32 : Nat) : Int) + 1) / 2
  · rw [if_pos hc]
    omega
  · rw [if_neg hc]
    omega
theorem row_v {y : Int32} (h : nmB y = true) : y - nI 97 = nI (rowN y) := by
  obtain ⟨q, hq, rfl⟩ := nm_q h
  obtain ⟨h1, h2, h3⟩ := nm_v hq
  rw [rowN, if_pos h, h2, h3]
set_option maxRecDepth 100000 in
set_option maxHeartbeats 4000000 in
theorem ct_Tx_tagKindAt (l : Launch) (G : ex_G) (iv : Nat → Nat → Int32) (mp : Nat → Nat) (sp mo : Nat) (x : Int32) (hb : (iv 39 1).toInt ≤ ((100 : Nat) : Int)) : CT l G 1 M_Tx_tagKindAt [.ref 39, .int x] (HP iv mp sp mo) 0 0 (fun r h' => h' = HP iv mp sp mo ∧ r = some (.int (tkF (cAt iv) x))) := by
  refine ex_enter (by decide) (Nat.le_of_ble_eq_true rfl) (fun v hv => by simp at hv; rcases hv with rfl | rfl <;> rfl) (fun p e s m args below meth c => ?_)
  refine ex_aload_n (pc := 0) (i := 0) d_Tx_tagKindAt_0 rfl rfl ?_
  refine ex_iload_n (pc := 1) (i := 1) d_Tx_tagKindAt_1 rfl rfl ?_
  refine ex_callV (pc := 2) (M' := M_Tx_at) (as := [.int x]) (st := []) d_Tx_tagKindAt_2 MW_Tx_at MI_Tx_at LK_Tx_29 (Nat.le_of_ble_eq_true rfl) rfl rfl rfl (ct_Tx_at l G iv mp sp mo x hb) (ex_lt_rm (by decide)) ⟨Nat.le_refl _, Nat.le_refl _⟩ rfl rfl (Nat.le_of_ble_eq_true rfl) ?_
  rintro _ _ ⟨rfl, rfl⟩
  refine ex_top (show _ = cAt iv x from rfl) ?_
  refine ex_bipush (pc := 5) (v := (nI 60)) d_Tx_tagKindAt_5 (by decide) ?_
  refine ex_icmp_eq (pc := 7) (tgt := 12) d_Tx_tagKindAt_7 rfl (fun c7 => ?_) (fun c7 => ?_)
  · refine ex_aload_n (pc := 12) (i := 0) d_Tx_tagKindAt_12 rfl rfl ?_
    refine ex_iload_n (pc := 13) (i := 1) d_Tx_tagKindAt_13 rfl rfl ?_
    refine ex_iconst (pc := 14) (v := (nI 1)) d_Tx_tagKindAt_14 (by decide) ?_
    refine ex_iadd (pc := 15) d_Tx_tagKindAt_15 ?_
    refine ex_callV (pc := 16) (M' := M_Tx_at) (as := [.int (x + nI 1)]) (st := []) d_Tx_tagKindAt_16 MW_Tx_at MI_Tx_at LK_Tx_29 (Nat.le_of_ble_eq_true rfl) rfl rfl rfl (ct_Tx_at l G iv mp sp mo (x + nI 1) hb) (ex_lt_rm (by decide)) ⟨Nat.le_refl _, Nat.le_refl _⟩ rfl rfl (Nat.le_of_ble_eq_true rfl) ?_
    rintro _ _ ⟨rfl, rfl⟩
    refine ex_top (show _ = cAt iv (x + nI 1) from rfl) ?_
    refine ex_callS (pc := 19) (M' := M_TG_isName) (as := [.int (cAt iv (x + nI 1))]) (st := []) d_Tx_tagKindAt_19 MW_TG_isName ST_TG_isName LK_Tx_33 (ct_TG_isName l G (HP iv mp sp mo) (cAt iv (x + nI 1))) (ex_lt_rm (by decide)) ⟨Nat.le_refl _, Nat.le_refl _⟩ rfl rfl (Nat.le_of_ble_eq_true rfl) ?_
    rintro _ _ ⟨rfl, rfl⟩
    refine ex_if_eq (pc := 22) (tgt := 69) d_Tx_tagKindAt_22 rfl (fun c22 => ?_) (fun c22 => ?_)
    · have n1 := b2i_0 c22
      refine ex_aload_n (pc := 69) (i := 0) d_Tx_tagKindAt_69 rfl rfl ?_
      refine ex_iload_n (pc := 70) (i := 1) d_Tx_tagKindAt_70 rfl rfl ?_
      refine ex_iconst (pc := 71) (v := (nI 1)) d_Tx_tagKindAt_71 (by decide) ?_
      refine ex_iadd (pc := 72) d_Tx_tagKindAt_72 ?_
      refine ex_callV (pc := 73) (M' := M_Tx_at) (as := [.int (x + nI 1)]) (st := []) d_Tx_tagKindAt_73 MW_Tx_at MI_Tx_at LK_Tx_29 (Nat.le_of_ble_eq_true rfl) rfl rfl rfl (ct_Tx_at l G iv mp sp mo (x + nI 1) hb) (ex_lt_rm (by decide)) ⟨Nat.le_refl _, Nat.le_refl _⟩ rfl rfl (Nat.le_of_ble_eq_true rfl) ?_
      rintro _ _ ⟨rfl, rfl⟩
      refine ex_top (show _ = cAt iv (x + nI 1) from rfl) ?_
      refine ex_bipush (pc := 76) (v := (nI 47)) d_Tx_tagKindAt_76 (by decide) ?_
      refine ex_icmp_ne (pc := 78) (tgt := 110) d_Tx_tagKindAt_78 rfl (fun c78 => ?_) (fun c78 => ?_)
      · refine ex_iconst (pc := 110) (v := (nI 0)) d_Tx_tagKindAt_110 (by decide) ?_
        refine ex_iret (ty := .int) d_Tx_tagKindAt_111 rfl rfl rfl (Nat.le_refl _) ?_
        exact ⟨rfl, by rw [tkF, if_pos c7, n1, if_neg (by decide), if_neg (fun q => c78 q.1)]⟩
      · refine ex_aload_n (pc := 81) (i := 0) d_Tx_tagKindAt_81 rfl rfl ?_
        refine ex_iload_n (pc := 82) (i := 1) d_Tx_tagKindAt_82 rfl rfl ?_
        refine ex_iconst (pc := 83) (v := (nI 2)) d_Tx_tagKindAt_83 (by decide) ?_
        refine ex_iadd (pc := 84) d_Tx_tagKindAt_84 ?_
        refine ex_callV (pc := 85) (M' := M_Tx_at) (as := [.int (x + nI 2)]) (st := []) d_Tx_tagKindAt_85 MW_Tx_at MI_Tx_at LK_Tx_29 (Nat.le_of_ble_eq_true rfl) rfl rfl rfl (ct_Tx_at l G iv mp sp mo (x + nI 2) hb) (ex_lt_rm (by decide)) ⟨Nat.le_refl _, Nat.le_refl _⟩ rfl rfl (Nat.le_of_ble_eq_true rfl) ?_
        rintro _ _ ⟨rfl, rfl⟩
        refine ex_top (show _ = cAt iv (x + nI 2) from rfl) ?_
        refine ex_callS (pc := 88) (M' := M_TG_isName) (as := [.int (cAt iv (x + nI 2))]) (st := []) d_Tx_tagKindAt_88 MW_TG_isName ST_TG_isName LK_Tx_33 (ct_TG_isName l G (HP iv mp sp mo) (cAt iv (x + nI 2))) (ex_lt_rm (by decide)) ⟨Nat.le_refl _, Nat.le_refl _⟩ rfl rfl (Nat.le_of_ble_eq_true rfl) ?_
        rintro _ _ ⟨rfl, rfl⟩
        refine ex_if_eq (pc := 91) (tgt := 110) d_Tx_tagKindAt_91 rfl (fun c91 => ?_) (fun c91 => ?_)
        · refine ex_iconst (pc := 110) (v := (nI 0)) d_Tx_tagKindAt_110 (by decide) ?_
          refine ex_iret (ty := .int) d_Tx_tagKindAt_111 rfl rfl rfl (Nat.le_refl _) ?_
          exact ⟨rfl, by rw [tkF, if_pos c7, n1, if_neg (by decide), if_neg (fun q => by have q1 := q.2.1; rw [b2i_0 c91] at q1; cases q1)]⟩
        · refine ex_aload_n (pc := 94) (i := 0) d_Tx_tagKindAt_94 rfl rfl ?_
          refine ex_iload_n (pc := 95) (i := 1) d_Tx_tagKindAt_95 rfl rfl ?_
          refine ex_iconst (pc := 96) (v := (nI 3)) d_Tx_tagKindAt_96 (by decide) ?_
          refine ex_iadd (pc := 97) d_Tx_tagKindAt_97 ?_
          refine ex_callV (pc := 98) (M' := M_Tx_at) (as := [.int (x + nI 3)]) (st := []) d_Tx_tagKindAt_98 MW_Tx_at MI_Tx_at LK_Tx_29 (Nat.le_of_ble_eq_true rfl) rfl rfl rfl (ct_Tx_at l G iv mp sp mo (x + nI 3) hb) (ex_lt_rm (by decide)) ⟨Nat.le_refl _, Nat.le_refl _⟩ rfl rfl (Nat.le_of_ble_eq_true rfl) ?_
          rintro _ _ ⟨rfl, rfl⟩
          refine ex_top (show _ = cAt iv (x + nI 3) from rfl) ?_
          refine ex_bipush (pc := 101) (v := (nI 62)) d_Tx_tagKindAt_101 (by decide) ?_
          refine ex_icmp_ne (pc := 103) (tgt := 110) d_Tx_tagKindAt_103 rfl (fun c103 => ?_) (fun c103 => ?_)
          · refine ex_iconst (pc := 110) (v := (nI 0)) d_Tx_tagKindAt_110 (by decide) ?_
            refine ex_iret (ty := .int) d_Tx_tagKindAt_111 rfl rfl rfl (Nat.le_refl _) ?_
            exact ⟨rfl, by rw [tkF, if_pos c7, n1, if_neg (by decide), if_neg (fun q => c103 q.2.2)]⟩
          · refine ex_iconst (pc := 106) (v := (nI 3)) d_Tx_tagKindAt_106 (by decide) ?_
            refine ex_goto (pc := 107) (tgt := 111) d_Tx_tagKindAt_107 rfl ?_
            refine ex_iret (ty := .int) d_Tx_tagKindAt_111 rfl rfl rfl (Nat.le_refl _) ?_
            exact ⟨rfl, by rw [tkF, if_pos c7, n1, if_neg (by decide), if_pos ⟨c78, b2i_1 c91, c103⟩]⟩
    · have n1 := b2i_1 c22
      refine ex_aload_n (pc := 25) (i := 0) d_Tx_tagKindAt_25 rfl rfl ?_
      refine ex_iload_n (pc := 26) (i := 1) d_Tx_tagKindAt_26 rfl rfl ?_
      refine ex_iconst (pc := 27) (v := (nI 2)) d_Tx_tagKindAt_27 (by decide) ?_
      refine ex_iadd (pc := 28) d_Tx_tagKindAt_28 ?_
      refine ex_callV (pc := 29) (M' := M_Tx_at) (as := [.int (x + nI 2)]) (st := []) d_Tx_tagKindAt_29 MW_Tx_at MI_Tx_at LK_Tx_29 (Nat.le_of_ble_eq_true rfl) rfl rfl rfl (ct_Tx_at l G iv mp sp mo (x + nI 2) hb) (ex_lt_rm (by decide)) ⟨Nat.le_refl _, Nat.le_refl _⟩ rfl rfl (Nat.le_of_ble_eq_true rfl) ?_
      rintro _ _ ⟨rfl, rfl⟩
      refine ex_top (show _ = cAt iv (x + nI 2) from rfl) ?_
      refine ex_bipush (pc := 32) (v := (nI 62)) d_Tx_tagKindAt_32 (by decide) ?_
      refine ex_icmp_ne (pc := 34) (tgt := 39) d_Tx_tagKindAt_34 rfl (fun c34 => ?_) (fun c34 => ?_)
      · refine ex_aload_n (pc := 39) (i := 0) d_Tx_tagKindAt_39 rfl rfl ?_
        refine ex_iload_n (pc := 40) (i := 1) d_Tx_tagKindAt_40 rfl rfl ?_
        refine ex_iconst (pc := 41) (v := (nI 2)) d_Tx_tagKindAt_41 (by decide) ?_
        refine ex_iadd (pc := 42) d_Tx_tagKindAt_42 ?_
        refine ex_callV (pc := 43) (M' := M_Tx_at) (as := [.int (x + nI 2)]) (st := []) d_Tx_tagKindAt_43 MW_Tx_at MI_Tx_at LK_Tx_29 (Nat.le_of_ble_eq_true rfl) rfl rfl rfl (ct_Tx_at l G iv mp sp mo (x + nI 2) hb) (ex_lt_rm (by decide)) ⟨Nat.le_refl _, Nat.le_refl _⟩ rfl rfl (Nat.le_of_ble_eq_true rfl) ?_
        rintro _ _ ⟨rfl, rfl⟩
        refine ex_top (show _ = cAt iv (x + nI 2) from rfl) ?_
        refine ex_bipush (pc := 46) (v := (nI 47)) d_Tx_tagKindAt_46 (by decide) ?_
        refine ex_icmp_ne (pc := 48) (tgt := 67) d_Tx_tagKindAt_48 rfl (fun c48 => ?_) (fun c48 => ?_)
        · refine ex_iconst (pc := 67) (v := (nI 0)) d_Tx_tagKindAt_67 (by decide) ?_
          refine ex_iret (ty := .int) d_Tx_tagKindAt_68 rfl rfl rfl (Nat.le_refl _) ?_
          exact ⟨rfl, by rw [tkF, if_pos c7, if_pos n1, if_neg c34, if_neg (fun q => c48 q.1)]⟩
        · refine ex_aload_n (pc := 51) (i := 0) d_Tx_tagKindAt_51 rfl rfl ?_
          refine ex_iload_n (pc := 52) (i := 1) d_Tx_tagKindAt_52 rfl rfl ?_
          refine ex_iconst (pc := 53) (v := (nI 3)) d_Tx_tagKindAt_53 (by decide) ?_
          refine ex_iadd (pc := 54) d_Tx_tagKindAt_54 ?_
          refine ex_callV (pc := 55) (M' := M_Tx_at) (as := [.int (x + nI 3)]) (st := []) d_Tx_tagKindAt_55 MW_Tx_at MI_Tx_at LK_Tx_29 (Nat.le_of_ble_eq_true rfl) rfl rfl rfl (ct_Tx_at l G iv mp sp mo (x + nI 3) hb) (ex_lt_rm (by decide)) ⟨Nat.le_refl _, Nat.le_refl _⟩ rfl rfl (Nat.le_of_ble_eq_true rfl) ?_
          rintro _ _ ⟨rfl, rfl⟩
          refine ex_top (show _ = cAt iv (x + nI 3) from rfl) ?_
          refine ex_bipush (pc := 58) (v := (nI 62)) d_Tx_tagKindAt_58 (by decide) ?_
          refine ex_icmp_ne (pc := 60) (tgt := 67) d_Tx_tagKindAt_60 rfl (fun c60 => ?_) (fun c60 => ?_)
          · refine ex_iconst (pc := 67) (v := (nI 0)) d_Tx_tagKindAt_67 (by decide) ?_
            refine ex_iret (ty := .int) d_Tx_tagKindAt_68 rfl rfl rfl (Nat.le_refl _) ?_
            exact ⟨rfl, by rw [tkF, if_pos c7, if_pos n1, if_neg c34, if_neg (fun q => c60 q.2)]⟩
          · refine ex_iconst (pc := 63) (v := (nI 2)) d_Tx_tagKindAt_63 (by decide) ?_
            refine ex_goto (pc := 64) (tgt := 68) d_Tx_tagKindAt_64 rfl ?_
            refine ex_iret (ty := .int) d_Tx_tagKindAt_68 rfl rfl rfl (Nat.le_refl _) ?_
            exact ⟨rfl, by rw [tkF, if_pos c7, if_pos n1, if_neg c34, if_pos ⟨c48, c60⟩]⟩
      · refine ex_iconst (pc := 37) (v := (nI 1)) d_Tx_tagKindAt_37 (by decide) ?_
        refine ex_iret (ty := .int) d_Tx_tagKindAt_38 rfl rfl rfl (Nat.le_refl _) ?_
        exact ⟨rfl, by rw [tkF, if_pos c7, if_pos n1, if_pos c34]⟩
  · refine ex_iconst (pc := 10) (v := (nI 0)) d_Tx_tagKindAt_10 (by decide) ?_
    refine ex_iret (ty := .int) d_Tx_tagKindAt_11 rfl rfl rfl (Nat.le_refl _) ?_
    exact ⟨rfl, by rw [tkF, if_neg c7]⟩

set_option maxRecDepth 100000 in
set_option maxHeartbeats 4000000 in
theorem ct_Ms_rowOf (l : Launch) (G : ex_G) (h : ex_H) (y : Int32) : CT l G 0 M_Ms_rowOf [.int y] h 0 0 (fun r h' => h' = h ∧ r = some (.int (nI (rowN y)))) := by
  refine ex_enter (by decide) (Nat.le_of_ble_eq_true rfl) (fun v hv => by simp at hv; rcases hv with rfl <;> rfl) (fun p e s m args below meth c => ?_)
  refine ex_iload_n (pc := 0) (i := 0) d_Ms_rowOf_0 rfl rfl ?_
  refine ex_bipush (pc := 1) (v := (nI 97)) d_Ms_rowOf_1 (by decide) ?_
  refine ex_isub (pc := 3) d_Ms_rowOf_3 ?_
  refine ex_istore_n (pc := 4) (i := 1) d_Ms_rowOf_4 rfl (by decide) ?_
  refine ex_iload_n (pc := 5) (i := 1) d_Ms_rowOf_5 rfl rfl ?_
  refine ex_if_lt (pc := 6) (tgt := 19) d_Ms_rowOf_6 rfl (fun c6 => ?_) (fun c6 => ?_)
  · refine ex_bipush (pc := 19) (v := (nI 8)) d_Ms_rowOf_19 (by decide) ?_
    refine ex_iret (ty := .int) d_Ms_rowOf_21 rfl rfl rfl (Nat.le_refl _) ?_
    have hy : ¬ nmB y = true := fun q => by have q1 := (row_t y).mpr q; have q2 := i_lt.mp c6; rw [i_0] at q2; omega
    exact ⟨rfl, by rw [rowN, if_neg hy]⟩
  · refine ex_iload_n (pc := 9) (i := 1) d_Ms_rowOf_9 rfl rfl ?_
    refine ex_bipush (pc := 10) (v := (nI 8)) d_Ms_rowOf_10 (by decide) ?_
    refine ex_icmp_ge (pc := 12) (tgt := 19) d_Ms_rowOf_12 rfl (fun c12 => ?_) (fun c12 => ?_)
    · refine ex_bipush (pc := 19) (v := (nI 8)) d_Ms_rowOf_19 (by decide) ?_
      refine ex_iret (ty := .int) d_Ms_rowOf_21 rfl rfl rfl (Nat.le_refl _) ?_
      have hy : ¬ nmB y = true := fun q => by have q1 := (row_t y).mpr q; have q2 := i_le.mp c12; rw [nI_t (by omega)] at q2; omega
      exact ⟨rfl, by rw [rowN, if_neg hy]⟩
    · refine ex_iload_n (pc := 15) (i := 1) d_Ms_rowOf_15 rfl rfl ?_
      refine ex_goto (pc := 16) (tgt := 21) d_Ms_rowOf_16 rfl ?_
      refine ex_iret (ty := .int) d_Ms_rowOf_21 rfl rfl rfl (Nat.le_refl _) ?_
      have hy : nmB y = true := (row_t y).mp (by have q1 := i_nlt c6; have q2 := i_nle c12; rw [i_0] at q1; rw [nI_t (by omega)] at q2; exact ⟨q1, by omega⟩)
      exact ⟨rfl, by rw [row_v hy]⟩

set_option maxRecDepth 100000 in
set_option maxHeartbeats 4000000 in
theorem ct_Ms_of (l : Launch) (G : ex_G) (iv : Nat → Nat → Int32) (mp : Nat → Nat) (sp mo : Nat) (y : Int32) : CT l G 1 M_Ms_of [.ref 7, .int y] (HP iv mp sp mo) 0 0 (fun r h' => h' = HP iv mp sp mo ∧ r = some (.ref (9 + 3 * mp (rowN y)))) := by
  refine ex_enter (by decide) (Nat.le_of_ble_eq_true rfl) (fun v hv => by simp at hv; rcases hv with rfl | rfl <;> rfl) (fun p e s m args below meth c => ?_)
  refine ex_aload_n (pc := 0) (i := 0) d_Ms_of_0 rfl rfl ?_
  refine ex_getr (pc := 1) 9 0 d_Ms_of_1 FL_Ms_11 (Nat.le_of_ble_eq_true rfl) rfl rfl ?_
  refine ex_iload_n (pc := 4) (i := 1) d_Ms_of_4 rfl rfl ?_
  refine ex_callS (pc := 5) (M' := M_Ms_rowOf) (as := [.int y]) (st := [.ref 8]) d_Ms_of_5 MW_Ms_rowOf ST_Ms_rowOf LK_Ms_22 (ct_Ms_rowOf l G (HP iv mp sp mo) y) (ex_lt_rm (by decide)) ⟨Nat.le_refl _, Nat.le_refl _⟩ rfl rfl (Nat.le_of_ble_eq_true rfl) ?_
  rintro _ _ ⟨rfl, rfl⟩
  refine ex_aald (pc := 8) (rowN y) d_Ms_of_8 (Nat.le_of_ble_eq_true rfl) rfl rfl rfl (nI_t (by have := rowN_lt y; omega)) (show rowN y < 9 from rowN_lt y) (us_rf (rowN_lt y)) ?_
  refine ex_aret d_Ms_of_9 rfl rfl (Nat.le_refl _) ?_
  exact ⟨rfl, rfl⟩

/-- the model of element i -/
def elMo (iv : Nat → Nat → Int32) (mp : Nat → Nat) (i : Nat) : Nat := mp (rowN (iv (46 + i) 0))
def fbF (iv : Nat → Nat → Int32) (j : Nat) : Bool := decide (¬ iv (9 + 3 * j) 0 = 0) && decide (iv (9 + 3 * j) 1 = 0)
def looF (iv : Nat → Nat → Int32) (mp : Nat → Nat) (i : Nat) : Bool := fbF iv (elMo iv mp i) && (decide (¬ iv (46 + i) 7 ≤ 0) && decide (iv (46 + i) 9 = -1))
set_option maxRecDepth 100000 in
set_option maxHeartbeats 4000000 in
theorem ct_Ms_makeLoose (l : Launch) (G : ex_G) (iv : Nat → Nat → Int32) (mp : Nat → Nat) (sp mo : Nat) (hmp : ∀ k, k < 9 → mp k < 10) (i : Nat) (hi : i < 34) : CT l G 2 M_Ms_makeLoose [.ref 7, .ref (46 + i)] (HP iv mp sp mo) 0 0 (fun r h' => h' = HP iv mp sp mo ∧ r = some (.int (b2i (looF iv mp i)))) := by
  refine ex_enter (by decide) (Nat.le_of_ble_eq_true rfl) (fun v hv => by simp at hv; rcases hv with rfl | rfl <;> rfl) (fun p e s m args below meth c => ?_)
  refine ex_aload_n (pc := 0) (i := 0) d_Ms_makeLoose_0 rfl rfl ?_
  refine ex_aload_n (pc := 1) (i := 1) d_Ms_makeLoose_1 rfl rfl ?_
  refine ex_getx (pc := 2) 3 0 (iv (46 + i) 0) d_Ms_makeLoose_2 FL_Ms_35 (el_lt hi) (el_sh hi) rfl ?_
  refine ex_callV (pc := 5) (M' := M_Ms_of) (as := [.int (iv (46 + i) 0)]) (st := []) d_Ms_makeLoose_5 MW_Ms_of MI_Ms_of LK_Ms_41 (Nat.le_of_ble_eq_true rfl) rfl rfl rfl (ct_Ms_of l G iv mp sp mo (iv (46 + i) 0)) (ex_lt_rm (by decide)) ⟨Nat.le_refl _, Nat.le_refl _⟩ rfl rfl (Nat.le_of_ble_eq_true rfl) ?_
  rintro _ _ ⟨rfl, rfl⟩
  refine ex_callV (pc := 8) (M' := M_Mo_forbidsCharacters) (as := []) (st := []) d_Ms_makeLoose_8 MW_Mo_forbidsCharacters MI_Mo_forbidsCharacters LK_Ms_57 (mo_lt (hmp _ (rowN_lt _))) (mo_sh (hmp _ (rowN_lt _))) rfl rfl (ct_Mo_forbidsCharacters l G iv mp sp mo (mp (rowN (iv (46 + i) 0))) (hmp _ (rowN_lt _))) (ex_lt_rm (by decide)) ⟨Nat.le_refl _, Nat.le_refl _⟩ rfl rfl (Nat.le_of_ble_eq_true rfl) ?_
  rintro _ _ ⟨rfl, rfl⟩
  refine ex_top (show _ = b2i (fbF iv (elMo iv mp i)) from rfl) ?_
  refine ex_if_eq (pc := 11) (tgt := 33) d_Ms_makeLoose_11 rfl (fun c11 => ?_) (fun c11 => ?_)
  · refine ex_iconst (pc := 33) (v := (nI 0)) d_Ms_makeLoose_33 (by decide) ?_
    refine ex_iret (ty := .boolean) d_Ms_makeLoose_34 rfl rfl rfl (Nat.le_refl _) ?_
    exact ⟨rfl, by rw [looF, b2i_0 c11]; rfl⟩
  · refine ex_aload_n (pc := 14) (i := 1) d_Ms_makeLoose_14 rfl rfl ?_
    refine ex_getx (pc := 15) 3 7 (iv (46 + i) 7) d_Ms_makeLoose_15 FL_Ms_61 (el_lt hi) (el_sh hi) rfl ?_
    refine ex_if_le (pc := 18) (tgt := 33) d_Ms_makeLoose_18 rfl (fun c18 => ?_) (fun c18 => ?_)
    · refine ex_iconst (pc := 33) (v := (nI 0)) d_Ms_makeLoose_33 (by decide) ?_
      refine ex_iret (ty := .boolean) d_Ms_makeLoose_34 rfl rfl rfl (Nat.le_refl _) ?_
      exact ⟨rfl, by rw [looF, b2i_1 c11, decide_eq_false (p := ¬ iv (46 + i) 7 ≤ 0) (fun q => q c18)]; rfl⟩
    · refine ex_aload_n (pc := 21) (i := 1) d_Ms_makeLoose_21 rfl rfl ?_
      refine ex_getx (pc := 22) 3 9 (iv (46 + i) 9) d_Ms_makeLoose_22 FL_Ms_64 (el_lt hi) (el_sh hi) rfl ?_
      refine ex_iconst (pc := 25) (v := (-1)) d_Ms_makeLoose_25 (by decide) ?_
      refine ex_icmp_ne (pc := 26) (tgt := 33) d_Ms_makeLoose_26 rfl (fun c26 => ?_) (fun c26 => ?_)
      · refine ex_iconst (pc := 33) (v := (nI 0)) d_Ms_makeLoose_33 (by decide) ?_
        refine ex_iret (ty := .boolean) d_Ms_makeLoose_34 rfl rfl rfl (Nat.le_refl _) ?_
        exact ⟨rfl, by rw [looF, b2i_1 c11, decide_eq_true c18, decide_eq_false c26]; rfl⟩
      · refine ex_iconst (pc := 29) (v := (nI 1)) d_Ms_makeLoose_29 (by decide) ?_
        refine ex_goto (pc := 30) (tgt := 34) d_Ms_makeLoose_30 rfl ?_
        refine ex_iret (ty := .boolean) d_Ms_makeLoose_34 rfl rfl rfl (Nat.le_refl _) ?_
        exact ⟨rfl, by rw [looF, b2i_1 c11, decide_eq_true c18, decide_eq_true c26]; rfl⟩

def alwF (iv : Nat → Nat → Int32) (mp : Nat → Nat) (cn nu : Nat) : Bool := accF iv (elMo iv mp nu) (stcF iv (elMo iv mp nu) nu (nI 0) (nI 100) (cn - nu) (nu + 1) (nI 1024))
set_option maxRecDepth 100000 in
set_option maxHeartbeats 4000000 in
theorem ct_Ms_allowChildren (l : Launch) (G : ex_G) (iv : Nat → Nat → Int32) (mp : Nat → Nat) (sp mo : Nat) (hmp : ∀ k, k < 9 → mp k < 10) (cn nu : Nat) (hc : iv 41 2 = nI cn) (hl : cn ≤ 33) (hnu : nu ≤ cn) : CT l G 3 M_Ms_allowChildren [.ref 7, .ref 41, .int (nI nu)] (HP iv mp sp mo) 0 0 (fun r h' => h' = HP iv mp sp mo ∧ r = some (.int (b2i (alwF iv mp cn nu)))) := by
  refine ex_enter (by decide) (Nat.le_of_ble_eq_true rfl) (fun v hv => by simp at hv; rcases hv with rfl | rfl | rfl <;> rfl) (fun p e s m args below meth c => ?_)
  refine ex_aload_n (pc := 0) (i := 0) d_Ms_allowChildren_0 rfl rfl ?_
  refine ex_aload_n (pc := 1) (i := 1) d_Ms_allowChildren_1 rfl rfl ?_
  refine ex_getr (pc := 2) 11 1 d_Ms_allowChildren_2 FL_Ms_29 (Nat.le_of_ble_eq_true rfl) rfl rfl ?_
  refine ex_iload_n (pc := 5) (i := 2) d_Ms_allowChildren_5 rfl rfl ?_
  refine ex_aald (pc := 6) nu d_Ms_allowChildren_6 (Nat.le_of_ble_eq_true rfl) rfl rfl rfl (nI_t (by omega)) (show nu < 34 by omega) (el_rf (show nu < 34 by omega)) ?_
  refine ex_getx (pc := 7) 3 0 (iv (46 + nu) 0) d_Ms_allowChildren_7 FL_Ms_35 (el_lt (show nu < 34 by omega)) (el_sh (show nu < 34 by omega)) rfl ?_
  refine ex_callV (pc := 10) (M' := M_Ms_of) (as := [.int (iv (46 + nu) 0)]) (st := []) d_Ms_allowChildren_10 MW_Ms_of MI_Ms_of LK_Ms_41 (Nat.le_of_ble_eq_true rfl) rfl rfl rfl (ct_Ms_of l G iv mp sp mo (iv (46 + nu) 0)) (ex_lt_rm (by decide)) ⟨Nat.le_refl _, Nat.le_refl _⟩ rfl rfl (Nat.le_of_ble_eq_true rfl) ?_
  rintro _ _ ⟨rfl, rfl⟩
  refine ex_astore_n (pc := 13) (i := 3) d_Ms_allowChildren_13 rfl (by decide) ?_
  refine ex_aload_n (pc := 14) (i := 3) d_Ms_allowChildren_14 rfl rfl ?_
  refine ex_aload_n (pc := 15) (i := 1) d_Ms_allowChildren_15 rfl rfl ?_
  refine ex_aload_n (pc := 16) (i := 3) d_Ms_allowChildren_16 rfl rfl ?_
  refine ex_aload_n (pc := 17) (i := 3) d_Ms_allowChildren_17 rfl rfl ?_
  refine ex_callV (pc := 18) (M' := M_Mo_start) (as := []) (st := [.ref (9 + 3 * (mp (rowN (iv (46 + nu) 0)))), .ref 41, .ref (9 + 3 * (mp (rowN (iv (46 + nu) 0))))]) d_Ms_allowChildren_18 MW_Mo_start MI_Mo_start LK_Ms_45 (mo_lt (hmp _ (rowN_lt _))) (mo_sh (hmp _ (rowN_lt _))) rfl rfl (ct_Mo_start l G iv mp sp mo (mp (rowN (iv (46 + nu) 0))) (hmp _ (rowN_lt _))) (ex_lt_rm (by decide)) ⟨Nat.le_refl _, Nat.le_refl _⟩ rfl rfl (Nat.le_of_ble_eq_true rfl) ?_
  rintro _ _ ⟨rfl, rfl⟩
  refine ex_iload_n (pc := 21) (i := 2) d_Ms_allowChildren_21 rfl rfl ?_
  refine ex_iconst (pc := 22) (v := (nI 0)) d_Ms_allowChildren_22 (by decide) ?_
  refine ex_bipush (pc := 23) (v := (nI 100)) d_Ms_allowChildren_23 (by decide) ?_
  refine ex_callV (pc := 25) (M' := M_Tr_stepChildren) (as := [.ref (9 + 3 * (mp (rowN (iv (46 + nu) 0)))), .int (nI 1024), .int (nI nu), .int (nI 0), .int (nI 100)]) (st := [.ref (9 + 3 * (mp (rowN (iv (46 + nu) 0))))]) d_Ms_allowChildren_25 MW_Tr_stepChildren MI_Tr_stepChildren LK_Ms_49 (Nat.le_of_ble_eq_true rfl) rfl rfl rfl (ct_Tr_stepChildren l G iv mp sp mo (mp (rowN (iv (46 + nu) 0))) (hmp _ (rowN_lt _)) cn nu hc hl (nI 0) (nI 100) (nI 1024) hnu) (ex_lt_rm (by decide)) ⟨Nat.le_refl _, Nat.le_refl _⟩ rfl rfl (Nat.le_of_ble_eq_true rfl) ?_
  rintro _ _ ⟨rfl, rfl⟩
  refine ex_callV (pc := 28) (M' := M_Mo_accepts) (as := [.int (stcF iv (mp (rowN (iv (46 + nu) 0))) nu (nI 0) (nI 100) (cn - nu) (nu + 1) (nI 1024))]) (st := []) d_Ms_allowChildren_28 MW_Mo_accepts MI_Mo_accepts LK_Ms_53 (mo_lt (hmp _ (rowN_lt _))) (mo_sh (hmp _ (rowN_lt _))) rfl rfl (ct_Mo_accepts l G iv mp sp mo (mp (rowN (iv (46 + nu) 0))) (hmp _ (rowN_lt _)) _) (ex_lt_rm (by decide)) ⟨Nat.le_refl _, Nat.le_refl _⟩ rfl rfl (Nat.le_of_ble_eq_true rfl) ?_
  rintro _ _ ⟨rfl, rfl⟩
  refine ex_iret (ty := .boolean) d_Ms_allowChildren_31 rfl (b2i_n _) rfl (Nat.le_refl _) ?_
  exact ⟨rfl, rfl⟩

def ofr1 (iv : Nat → Nat → Int32) (j cn nu : Nat) (x : Int32) (i : Nat) : Bool := accF iv j (stcF iv j nu x (nI 100) (cn - nu) (nu + 1) (sprF iv j (stpF iv j (stcF iv j nu (nI 0) x (cn - nu) (nu + 1) (nI 1024)) (nI 97 + nI i)) (iv 7 2)))
def ofrF (iv : Nat → Nat → Int32) (j cn nu : Nat) (x : Int32) : Nat → Nat → Int32 → Int32
  | 0, _, acc => acc
  | k + 1, i, acc => ofrF iv j cn nu x k (i + 1) (if iv 7 2 >>> (nI i &&& 31) &&& nI 1 = 0 then acc else if ofr1 iv j cn nu x i = true then acc ||| nI 1 <<< (nI i &&& 31) else acc ||| nI 0)
set_option maxRecDepth 100000 in
set_option maxHeartbeats 4000000 in
theorem lp_Ms_offer {p : Program} {e : Env} {s : State} {m : MethodId} {args : Array Value} {below : List Frame} {meth : Method} {c : Code} (l : Launch) (G : ex_G) (iv : Nat → Nat → Int32) (mp : Nat → Nat) (sp mo : Nat) (j : Nat) (hj : j < 10) (cn nu : Nat) (hc : iv 41 2 = nI cn) (hl : cn ≤ 33) (hnu : nu ≤ cn) (x : Int32) (v : Int32) : ∀ (k i : Nat) (acc : Int32) (z : Option Value), i + k = 8 → ofrF iv j cn nu x k i acc = v → EXM M_Ms_offer l G 3 (fun r h' => h' = HP iv mp sp mo ∧ r = some (.int v)) p e s m args below meth c 37 [some (.ref 7), some (.ref 41), some (.int (nI nu)), some (.int x), some (.ref (9 + 3 * j)), some (.int (stcF iv j nu (nI 0) x (cn - nu) (nu + 1) (nI 1024))), some (.int acc), some (.int (nI i)), z] [] (HP iv mp sp mo) := by
  intro k
  induction k with
  | zero =>
    intro i acc z hik hv
    subst hv
    refine ex_iload (pc := 37) d_Ms_offer_37 rfl ?_
    refine ex_bipush (pc := 39) (v := (nI 8)) d_Ms_offer_39 (by decide) ?_
    refine ex_icmp_ge (pc := 41) (tgt := 122) d_Ms_offer_41 rfl (fun c41 => ?_) (fun c41 => ?_)
    · refine ex_iload (pc := 122) d_Ms_offer_122 rfl ?_
      refine ex_iret (ty := .int) d_Ms_offer_124 rfl rfl rfl (Nat.le_refl _) ?_
      exact ⟨rfl, rfl⟩
    · exact absurd ((n_ge (by omega) (by omega)).mpr (by omega)) c41
  | succ k ih =>
    intro i acc z hik hv
    rw [ofrF] at hv
    refine ex_iload (pc := 37) d_Ms_offer_37 rfl ?_
    refine ex_bipush (pc := 39) (v := (nI 8)) d_Ms_offer_39 (by decide) ?_
    refine ex_icmp_ge (pc := 41) (tgt := 122) d_Ms_offer_41 rfl (fun c41 => ?_) (fun c41 => ?_)
    · exact absurd ((n_ge (by omega) (by omega)).mp c41) (by omega)
    · refine ex_aload_n (pc := 44) (i := 0) d_Ms_offer_44 rfl rfl ?_
      refine ex_getx (pc := 45) 9 2 (iv 7 2) d_Ms_offer_45 FL_Ms_67 (Nat.le_of_ble_eq_true rfl) rfl rfl ?_
      refine ex_iload (pc := 48) d_Ms_offer_48 rfl ?_
      refine ex_ishr (pc := 50) d_Ms_offer_50 ?_
      refine ex_iconst (pc := 51) (v := (nI 1)) d_Ms_offer_51 (by decide) ?_
      refine ex_iand (pc := 52) d_Ms_offer_52 ?_
      refine ex_if_eq (pc := 53) (tgt := 116) d_Ms_offer_53 rfl (fun c53 => ?_) (fun c53 => ?_)
      · refine ex_iinc (pc := 116) (v := (nI (i + 1))) d_Ms_offer_116 rfl (nI_1 i) (by decide) ?_
        refine ex_goto (pc := 119) (tgt := 37) d_Ms_offer_119 rfl ?_
        exact ih (i + 1) _ _ (by omega) (by rw [if_pos c53] at hv; exact hv)
      · refine ex_aload (pc := 56) d_Ms_offer_56 rfl ?_
        refine ex_aload (pc := 58) d_Ms_offer_58 rfl ?_
        refine ex_iload (pc := 60) d_Ms_offer_60 rfl ?_
        refine ex_bipush (pc := 62) (v := (nI 97)) d_Ms_offer_62 (by decide) ?_
        refine ex_iload (pc := 64) d_Ms_offer_64 rfl ?_
        refine ex_iadd (pc := 66) d_Ms_offer_66 ?_
        refine ex_callV (pc := 67) (M' := M_Mo_step) (as := [.int (stcF iv j nu (nI 0) x (cn - nu) (nu + 1) (nI 1024)), .int (nI 97 + nI i)]) (st := [.ref (9 + 3 * j)]) d_Ms_offer_67 MW_Mo_step MI_Mo_step LK_Ms_70 (mo_lt hj) (mo_sh hj) rfl rfl (ct_Mo_step l G iv mp sp mo j hj (stcF iv j nu (nI 0) x (cn - nu) (nu + 1) (nI 1024)) (nI 97 + nI i)) (ex_lt_rm (by decide)) ⟨Nat.le_refl _, Nat.le_refl _⟩ rfl rfl (Nat.le_of_ble_eq_true rfl) ?_
        rintro _ _ ⟨rfl, rfl⟩
        refine ex_aload_n (pc := 70) (i := 0) d_Ms_offer_70 rfl rfl ?_
        refine ex_getx (pc := 71) 9 2 (iv 7 2) d_Ms_offer_71 FL_Ms_67 (Nat.le_of_ble_eq_true rfl) rfl rfl ?_
        refine ex_callV (pc := 74) (M' := M_Mo_spread) (as := [.int (stpF iv j (stcF iv j nu (nI 0) x (cn - nu) (nu + 1) (nI 1024)) (nI 97 + nI i)), .int (iv 7 2)]) (st := []) d_Ms_offer_74 MW_Mo_spread MI_Mo_spread LK_Ms_74 (mo_lt hj) (mo_sh hj) rfl rfl (ct_Mo_spread l G iv mp sp mo j hj _ (iv 7 2)) (ex_lt_rm (by decide)) ⟨Nat.le_refl _, Nat.le_refl _⟩ rfl rfl (Nat.le_of_ble_eq_true rfl) ?_
        rintro _ _ ⟨rfl, rfl⟩
        refine ex_istore (pc := 77) d_Ms_offer_77 (by decide) ?_
        refine ex_aload_n (pc := 79) (i := 1) d_Ms_offer_79 rfl rfl ?_
        refine ex_aload (pc := 80) d_Ms_offer_80 rfl ?_
        refine ex_iload (pc := 82) d_Ms_offer_82 rfl ?_
        refine ex_iload_n (pc := 84) (i := 2) d_Ms_offer_84 rfl rfl ?_
        refine ex_iload_n (pc := 85) (i := 3) d_Ms_offer_85 rfl rfl ?_
        refine ex_bipush (pc := 86) (v := (nI 100)) d_Ms_offer_86 (by decide) ?_
        refine ex_callV (pc := 88) (M' := M_Tr_stepChildren) (as := [.ref (9 + 3 * j), .int (sprF iv j (stpF iv j (stcF iv j nu (nI 0) x (cn - nu) (nu + 1) (nI 1024)) (nI 97 + nI i)) (iv 7 2)), .int (nI nu), .int x, .int (nI 100)]) (st := []) d_Ms_offer_88 MW_Tr_stepChildren MI_Tr_stepChildren LK_Ms_49 (Nat.le_of_ble_eq_true rfl) rfl rfl rfl (ct_Tr_stepChildren l G iv mp sp mo j hj cn nu hc hl x (nI 100) _ hnu) (ex_lt_rm (by decide)) ⟨Nat.le_refl _, Nat.le_refl _⟩ rfl rfl (Nat.le_of_ble_eq_true rfl) ?_
        rintro _ _ ⟨rfl, rfl⟩
        refine ex_istore (pc := 91) d_Ms_offer_91 (by decide) ?_
        refine ex_iload (pc := 93) d_Ms_offer_93 rfl ?_
        refine ex_aload (pc := 95) d_Ms_offer_95 rfl ?_
        refine ex_iload (pc := 97) d_Ms_offer_97 rfl ?_
        refine ex_callV (pc := 99) (M' := M_Mo_accepts) (as := [.int (stcF iv j nu x (nI 100) (cn - nu) (nu + 1) (sprF iv j (stpF iv j (stcF iv j nu (nI 0) x (cn - nu) (nu + 1) (nI 1024)) (nI 97 + nI i)) (iv 7 2)))]) (st := [.int acc]) d_Ms_offer_99 MW_Mo_accepts MI_Mo_accepts LK_Ms_53 (mo_lt hj) (mo_sh hj) rfl rfl (ct_Mo_accepts l G iv mp sp mo j hj _) (ex_lt_rm (by decide)) ⟨Nat.le_refl _, Nat.le_refl _⟩ rfl rfl (Nat.le_of_ble_eq_true rfl) ?_
        rintro _ _ ⟨rfl, rfl⟩
        refine ex_top (show _ = b2i (ofr1 iv j cn nu x i) from rfl) ?_
        refine ex_if_eq (pc := 102) (tgt := 112) d_Ms_offer_102 rfl (fun c102 => ?_) (fun c102 => ?_)
        · refine ex_iconst (pc := 112) (v := (nI 0)) d_Ms_offer_112 (by decide) ?_
          refine ex_ior (pc := 113) d_Ms_offer_113 ?_
          refine ex_istore (pc := 114) d_Ms_offer_114 (by decide) ?_
          refine ex_iinc (pc := 116) (v := (nI (i + 1))) d_Ms_offer_116 rfl (nI_1 i) (by decide) ?_
          refine ex_goto (pc := 119) (tgt := 37) d_Ms_offer_119 rfl ?_
          exact ih (i + 1) _ _ (by omega) (by rw [if_neg c53, if_neg (by rw [b2i_0 c102]; decide)] at hv; exact hv)
        · refine ex_iconst (pc := 105) (v := (nI 1)) d_Ms_offer_105 (by decide) ?_
          refine ex_iload (pc := 106) d_Ms_offer_106 rfl ?_
          refine ex_ishl (pc := 108) d_Ms_offer_108 ?_
          refine ex_goto (pc := 109) (tgt := 113) d_Ms_offer_109 rfl ?_
          refine ex_ior (pc := 113) d_Ms_offer_113 ?_
          refine ex_istore (pc := 114) d_Ms_offer_114 (by decide) ?_
          refine ex_iinc (pc := 116) (v := (nI (i + 1))) d_Ms_offer_116 rfl (nI_1 i) (by decide) ?_
          refine ex_goto (pc := 119) (tgt := 37) d_Ms_offer_119 rfl ?_
          exact ih (i + 1) _ _ (by omega) (by rw [if_neg c53, if_pos (b2i_1 c102)] at hv; exact hv)

set_option maxRecDepth 100000 in
set_option maxHeartbeats 4000000 in
theorem ct_Ms_offer (l : Launch) (G : ex_G) (iv : Nat → Nat → Int32) (mp : Nat → Nat) (sp mo : Nat) (hmp : ∀ k, k < 9 → mp k < 10) (cn nu : Nat) (hc : iv 41 2 = nI cn) (hl : cn ≤ 33) (hnu : nu ≤ cn) (x : Int32) : CT l G 3 M_Ms_offer [.ref 7, .ref 41, .int (nI nu), .int x] (HP iv mp sp mo) 0 0 (fun r h' => h' = HP iv mp sp mo ∧ r = some (.int (ofrF iv (elMo iv mp nu) cn nu x 8 0 (nI 0)))) := by
  refine ex_enter (by decide) (Nat.le_of_ble_eq_true rfl) (fun v hv => by simp at hv; rcases hv with rfl | rfl | rfl | rfl <;> rfl) (fun p e s m args below meth c => ?_)
  refine ex_aload_n (pc := 0) (i := 0) d_Ms_offer_0 rfl rfl ?_
  refine ex_aload_n (pc := 1) (i := 1) d_Ms_offer_1 rfl rfl ?_
  refine ex_getr (pc := 2) 11 1 d_Ms_offer_2 FL_Ms_29 (Nat.le_of_ble_eq_true rfl) rfl rfl ?_
  refine ex_iload_n (pc := 5) (i := 2) d_Ms_offer_5 rfl rfl ?_
  refine ex_aald (pc := 6) nu d_Ms_offer_6 (Nat.le_of_ble_eq_true rfl) rfl rfl rfl (nI_t (by omega)) (show nu < 34 by omega) (el_rf (show nu < 34 by omega)) ?_
  refine ex_getx (pc := 7) 3 0 (iv (46 + nu) 0) d_Ms_offer_7 FL_Ms_35 (el_lt (show nu < 34 by omega)) (el_sh (show nu < 34 by omega)) rfl ?_
  refine ex_callV (pc := 10) (M' := M_Ms_of) (as := [.int (iv (46 + nu) 0)]) (st := []) d_Ms_offer_10 MW_Ms_of MI_Ms_of LK_Ms_41 (Nat.le_of_ble_eq_true rfl) rfl rfl rfl (ct_Ms_of l G iv mp sp mo (iv (46 + nu) 0)) (ex_lt_rm (by decide)) ⟨Nat.le_refl _, Nat.le_refl _⟩ rfl rfl (Nat.le_of_ble_eq_true rfl) ?_
  rintro _ _ ⟨rfl, rfl⟩
  refine ex_astore (pc := 13) d_Ms_offer_13 (by decide) ?_
  refine ex_aload_n (pc := 15) (i := 1) d_Ms_offer_15 rfl rfl ?_
  refine ex_aload (pc := 16) d_Ms_offer_16 rfl ?_
  refine ex_aload (pc := 18) d_Ms_offer_18 rfl ?_
  refine ex_callV (pc := 20) (M' := M_Mo_start) (as := []) (st := [.ref (9 + 3 * (mp (rowN (iv (46 + nu) 0)))), .ref 41]) d_Ms_offer_20 MW_Mo_start MI_Mo_start LK_Ms_45 (mo_lt (hmp _ (rowN_lt _))) (mo_sh (hmp _ (rowN_lt _))) rfl rfl (ct_Mo_start l G iv mp sp mo (mp (rowN (iv (46 + nu) 0))) (hmp _ (rowN_lt _))) (ex_lt_rm (by decide)) ⟨Nat.le_refl _, Nat.le_refl _⟩ rfl rfl (Nat.le_of_ble_eq_true rfl) ?_
  rintro _ _ ⟨rfl, rfl⟩
  refine ex_iload_n (pc := 23) (i := 2) d_Ms_offer_23 rfl rfl ?_
  refine ex_iconst (pc := 24) (v := (nI 0)) d_Ms_offer_24 (by decide) ?_
  refine ex_iload_n (pc := 25) (i := 3) d_Ms_offer_25 rfl rfl ?_
  refine ex_callV (pc := 26) (M' := M_Tr_stepChildren) (as := [.ref (9 + 3 * (mp (rowN (iv (46 + nu) 0)))), .int (nI 1024), .int (nI nu), .int (nI 0), .int x]) (st := []) d_Ms_offer_26 MW_Tr_stepChildren MI_Tr_stepChildren LK_Ms_49 (Nat.le_of_ble_eq_true rfl) rfl rfl rfl (ct_Tr_stepChildren l G iv mp sp mo (mp (rowN (iv (46 + nu) 0))) (hmp _ (rowN_lt _)) cn nu hc hl (nI 0) x (nI 1024) hnu) (ex_lt_rm (by decide)) ⟨Nat.le_refl _, Nat.le_refl _⟩ rfl rfl (Nat.le_of_ble_eq_true rfl) ?_
  rintro _ _ ⟨rfl, rfl⟩
  refine ex_istore (pc := 29) d_Ms_offer_29 (by decide) ?_
  refine ex_iconst (pc := 31) (v := (nI 0)) d_Ms_offer_31 (by decide) ?_
  refine ex_istore (pc := 32) d_Ms_offer_32 (by decide) ?_
  refine ex_iconst (pc := 34) (v := (nI 0)) d_Ms_offer_34 (by decide) ?_
  refine ex_istore (pc := 35) d_Ms_offer_35 (by decide) ?_
  exact lp_Ms_offer l G iv mp sp mo (elMo iv mp nu) (hmp _ (rowN_lt _)) cn nu hc hl hnu x _ 8 0 (nI 0) _ (by omega) rfl

