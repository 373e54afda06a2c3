/-! the tree is built (class) -/
theorem u2n {F : Nat → Nat → Int32} {a k i j : Nat} {v : Int32} (h : i ≠ a ∨ j ≠ k) : ex_u2 F a k v i j = F i j := if_neg (fun q => h.elim (fun z => z q.1) (fun z => z q.2))
theorem u2s {F : Nat → Nat → Int32} {a k : Nat} {v : Int32} : ex_u2 F a k v a k = v := if_pos ⟨rfl, rfl⟩
/-- a character of the text is taken: the element's first one that is no space; a < alone is a fault -/
def trInk (iv : Nat → Nat → Int32) (op : Nat) (ch x : Int32) : Nat → Nat → Int32 := if ¬ ch = nI 32 ∧ iv (46 + op) 9 = -1 then ex_u2 iv (46 + op) 9 x else iv
theorem trInk_o {iv : Nat → Nat → Int32} {op : Nat} {ch x : Int32} {i j : Nat} (h : i ≠ 46 + op) : trInk iv op ch x i j = iv i j := by
  unfold trInk
  split
  · exact u2n (Or.inl h)
  · rfl
def trChr (iv : Nat → Nat → Int32) (op nf : Nat) (x : Int32) : Nat → Nat → Int32 := if cAt iv x = nI 60 then faAdd (trInk iv op (cAt iv x) x) nf (x * nI 8 + nI 1) else trInk iv op (cAt iv x) x
set_option maxRecDepth 100000 in
set_option maxHeartbeats 4000000 in
theorem ct_Tr_takeCharacter (l : Launch) (G : ex_G) (iv : Nat → Nat → Int32) (mp : Nat → Nat) (sp mo : Nat) (op : Nat) (hop : iv 41 3 = nI op) (ho : op < 34) (nf : Nat) (hf : iv 80 1 = nI nf) (hfl : nf ≤ 200) (hb : (iv 39 1).toInt ≤ ((100 : Nat) : Int)) (x : Int32) : CT l G 1 M_Tr_takeCharacter [.ref 41, .int x, .ref 80] (HP iv mp sp mo) 0 0 (fun r h' => h' = HP (trChr iv op nf x) mp sp mo ∧ r = none) := by
  refine ex_enter (by decide) (Nat.le_of_ble_eq_true rfl) (fun v hv => by simp at hv; rcases hv with rfl | rfl | rfl <;> rfl) (fun p e s m args below meth c => ?_)
  refine ex_aload_n (pc := 0) (i := 0) d_Tr_takeCharacter_0 rfl rfl ?_
  refine ex_getr (pc := 1) 11 0 d_Tr_takeCharacter_1 FL_Tr_27 (Nat.le_of_ble_eq_true rfl) rfl rfl ?_
  refine ex_iload_n (pc := 4) (i := 1) d_Tr_takeCharacter_4 rfl rfl ?_
  refine ex_callV (pc := 5) (M' := M_Tx_at) (as := [.int x]) (st := []) d_Tr_takeCharacter_5 MW_Tx_at MI_Tx_at LK_Tr_80 (Nat.le_of_ble_eq_true rfl) rfl rfl rfl (ct_Tx_at l G iv mp sp mo x hb) (ex_lt_rm (by decide)) ⟨Nat.le_refl _, Nat.le_refl _⟩ rfl rfl (Nat.le_of_ble_eq_true rfl) ?_
  rintro _ _ ⟨rfl, rfl⟩
  refine ex_top (show _ = cAt iv x from rfl) ?_
  refine ex_istore_n (pc := 8) (i := 3) d_Tr_takeCharacter_8 rfl (by decide) ?_
  refine ex_aload_n (pc := 9) (i := 0) d_Tr_takeCharacter_9 rfl rfl ?_
  refine ex_getr (pc := 10) 11 1 d_Tr_takeCharacter_10 FL_Tr_11 (Nat.le_of_ble_eq_true rfl) rfl rfl ?_
  refine ex_aload_n (pc := 13) (i := 0) d_Tr_takeCharacter_13 rfl rfl ?_
  refine ex_getx (pc := 14) 11 3 (nI op) d_Tr_takeCharacter_14 FL_Tr_39 (Nat.le_of_ble_eq_true rfl) rfl hop ?_
  refine ex_aald (pc := 17) op d_Tr_takeCharacter_17 (Nat.le_of_ble_eq_true rfl) rfl rfl rfl (nI_t (by omega)) (show op < 34 from ho) (el_rf ho) ?_
  refine ex_iload_n (pc := 18) (i := 3) d_Tr_takeCharacter_18 rfl rfl ?_
  refine ex_iload_n (pc := 19) (i := 1) d_Tr_takeCharacter_19 rfl rfl ?_
  refine ex_callV (pc := 20) (M' := M_El_takeCharacter) (as := [.int (cAt iv x), .int x]) (st := []) d_Tr_takeCharacter_20 MW_El_takeCharacter MI_El_takeCharacter LK_Tr_83 (el_lt ho) (el_sh ho) rfl rfl (ct_El_takeCharacter l G iv mp sp mo op ho (cAt iv x) x) (ex_lt_rm (by decide)) ⟨Nat.le_refl _, Nat.le_refl _⟩ rfl rfl (Nat.le_of_ble_eq_true rfl) ?_
  rintro _ _ ⟨rfl, rfl⟩
  refine ex_heap (h' := HP (trInk iv op (cAt iv x) x) mp sp mo) rfl ?_
  refine ex_iload_n (pc := 23) (i := 3) d_Tr_takeCharacter_23 rfl rfl ?_
  refine ex_bipush (pc := 24) (v := (nI 60)) d_Tr_takeCharacter_24 (by decide) ?_
  refine ex_icmp_ne (pc := 26) (tgt := 35) d_Tr_takeCharacter_26 rfl (fun c26 => ?_) (fun c26 => ?_)
  · refine ex_vret d_Tr_takeCharacter_35 rfl rfl (Nat.le_refl _) ?_
    exact ⟨by rw [trChr, if_neg c26], rfl⟩
  · refine ex_aload_n (pc := 29) (i := 2) d_Tr_takeCharacter_29 rfl rfl ?_
    refine ex_iconst (pc := 30) (v := (nI 1)) d_Tr_takeCharacter_30 (by decide) ?_
    refine ex_iload_n (pc := 31) (i := 1) d_Tr_takeCharacter_31 rfl rfl ?_
    refine ex_callV (pc := 32) (M' := M_Fa_add) (as := [.int (nI 1), .int x]) (st := []) d_Tr_takeCharacter_32 MW_Fa_add MI_Fa_add LK_Tr_85 (Nat.le_of_ble_eq_true rfl) rfl rfl rfl (ct_Fa_add l G (trInk iv op (cAt iv x) x) mp sp mo (nI 1) x nf ((trInk_o (by omega)).trans hf) hfl) (ex_lt_rm (by decide)) ⟨Nat.le_refl _, Nat.le_refl _⟩ rfl rfl (Nat.le_of_ble_eq_true rfl) ?_
    rintro _ _ ⟨rfl, rfl⟩
    refine ex_vret d_Tr_takeCharacter_35 rfl rfl (Nat.le_refl _) ?_
    exact ⟨by rw [trChr, if_pos c26], rfl⟩

/-- an element begins under the open one, number cn + 1, tag number tg, from x to y -/
def trB2 (iv : Nat → Nat → Int32) (op cn : Nat) : Nat → Nat → Int32 := ex_u2 (ex_u2 iv 41 2 (nI (cn + 1))) (46 + op) 7 (iv (46 + op) 7 + nI 1)
def trB3 (iv : Nat → Nat → Int32) (op cn : Nat) (x y : Int32) : Nat → Nat → Int32 := elOpen (trB2 iv op cn) (cn + 1) (cAt (trB2 iv op cn) (x + nI 1)) (nI op) (iv (46 + op) 2 + nI 1) x y
def trBeg (iv : Nat → Nat → Int32) (op cn tg : Nat) (x y : Int32) : Nat → Nat → Int32 := trTag (trB3 iv op cn x y) tg x y (nI (cn + 1))
def begOk (iv : Nat → Nat → Int32) (op cn : Nat) : Prop := ¬ nI 8 ≤ iv (46 + op) 2 ∧ cn < 33
theorem elOpen_o {iv : Nat → Nat → Int32} {i a j : Nat} {k1 k2 k3 k4 k5 : Int32} (h : a ≠ 46 + i) : elOpen iv i k1 k2 k3 k4 k5 a j = iv a j := by
  unfold elOpen
  rw [u2n (Or.inl h), u2n (Or.inl h), u2n (Or.inl h), u2n (Or.inl h), u2n (Or.inl h), u2n (Or.inl h), u2n (Or.inl h)]
theorem elClose_o {iv : Nat → Nat → Int32} {i a j : Nat} {k1 k2 k3 : Int32} (h : a ≠ 46 + i ∨ (j ≠ 8 ∧ j ≠ 5 ∧ j ≠ 6)) : elClose iv i k1 k2 k3 a j = iv a j := by
  unfold elClose
  rcases h with h | ⟨h1, h2, h3⟩
  · rw [u2n (Or.inl h), u2n (Or.inl h), u2n (Or.inl h)]
  · rw [u2n (Or.inr h3), u2n (Or.inr h2), u2n (Or.inr h1)]
theorem trB2_o {iv : Nat → Nat → Int32} {op cn a j : Nat} (h1 : a ≠ 46 + op) (h2 : a ≠ 41 ∨ j ≠ 2) : trB2 iv op cn a j = iv a j := by
  unfold trB2
  rw [u2n (Or.inl h1), u2n h2]
theorem trTag_o {iv : Nat → Nat → Int32} {n a j : Nat} {k1 k2 k3 : Int32} (h : a ≠ 43 ∧ a ≠ 44 ∧ a ≠ 45 ∧ (a ≠ 41 ∨ j ≠ 7)) : trTag iv n k1 k2 k3 a j = iv a j := by
  unfold trTag
  rw [u2n h.2.2.2, u2n (Or.inl h.2.2.1), u2n (Or.inl h.2.1), u2n (Or.inl h.1)]
theorem trBeg_cn {iv : Nat → Nat → Int32} {op cn tg : Nat} {x y : Int32} : trBeg iv op cn tg x y 41 2 = nI (cn + 1) := by
  unfold trBeg
  rw [trTag_o (by decide)]
  unfold trB3
  rw [elOpen_o (by omega)]
  unfold trB2
  rw [u2n (Or.inl (by omega)), u2s]
noncomputable section BEG
set_option maxRecDepth 100000 in
set_option maxHeartbeats 4000000 in
theorem ct_Tr_begins (l : Launch) (G : ex_G) (iv : Nat → Nat → Int32) (mp : Nat → Nat) (sp mo : Nat) (op : Nat) (hop : iv 41 3 = nI op) (ho : op < 34) (cn tg : Nat) (hc : iv 41 2 = nI cn) (hcl : cn ≤ 33) (ht : iv 41 7 = nI tg) (htl : tg < 33) (nf : Nat) (hf : iv 80 1 = nI nf) (hfl : nf ≤ 200) (hb : (iv 39 1).toInt ≤ ((100 : Nat) : Int)) (x y : Int32) : CT l G 1 M_Tr_begins [.ref 41, .int x, .int y, .ref 80] (HP iv mp sp mo) 0 0 (fun r h' => (begOk iv op cn → h' = HP (trBeg iv op cn tg x y) mp sp mo ∧ r = some (.int (nI 1))) ∧ (¬ begOk iv op cn → h' = HP (faAdd (trTag iv tg x y (-1)) nf (x * nI 8 + nI 2)) mp sp mo ∧ r = some (.int (nI 0)))) := by
  refine ex_enter (by decide) (Nat.le_of_ble_eq_true rfl) (fun v hv => by simp at hv; rcases hv with rfl | rfl | rfl | rfl <;> rfl) (fun p e s m args below meth c => ?_)
  refine ex_aload_n (pc := 0) (i := 0) d_Tr_begins_0 rfl rfl ?_
  refine ex_getr (pc := 1) 11 1 d_Tr_begins_1 FL_Tr_11 (Nat.le_of_ble_eq_true rfl) rfl rfl ?_
  refine ex_aload_n (pc := 4) (i := 0) d_Tr_begins_4 rfl rfl ?_
  refine ex_getx (pc := 5) 11 3 (nI op) d_Tr_begins_5 FL_Tr_39 (Nat.le_of_ble_eq_true rfl) rfl hop ?_
  refine ex_aald (pc := 8) op d_Tr_begins_8 (Nat.le_of_ble_eq_true rfl) rfl rfl rfl (nI_t (by omega)) (show op < 34 from ho) (el_rf ho) ?_
  refine ex_astore (pc := 9) d_Tr_begins_9 (by decide) ?_
  refine ex_aload (pc := 11) d_Tr_begins_11 rfl ?_
  refine ex_getx (pc := 13) 3 2 (iv (46 + op) 2) d_Tr_begins_13 FL_Tr_94 (el_lt ho) (el_sh ho) rfl ?_
  refine ex_bipush (pc := 16) (v := (nI 8)) d_Tr_begins_16 (by decide) ?_
  refine ex_icmp_ge (pc := 18) (tgt := 30) d_Tr_begins_18 rfl (fun c18 => ?_) (fun c18 => ?_)
  · refine ex_aload_n (pc := 30) (i := 0) d_Tr_begins_30 rfl rfl ?_
    refine ex_iload_n (pc := 31) (i := 1) d_Tr_begins_31 rfl rfl ?_
    refine ex_iload_n (pc := 32) (i := 2) d_Tr_begins_32 rfl rfl ?_
    refine ex_iconst (pc := 33) (v := (-1)) d_Tr_begins_33 (by decide) ?_
    refine ex_callV (pc := 34) (M' := M_Tr_addTag) (as := [.int x, .int y, .int (-1)]) (st := []) d_Tr_begins_34 MW_Tr_addTag MI_Tr_addTag LK_Tr_97 (Nat.le_of_ble_eq_true rfl) rfl rfl rfl (ct_Tr_addTag l G iv mp sp mo tg ht htl x y (-1)) (ex_lt_rm (by decide)) ⟨Nat.le_refl _, Nat.le_refl _⟩ rfl rfl (Nat.le_of_ble_eq_true rfl) ?_
    rintro _ _ ⟨rfl, rfl⟩
    refine ex_aload_n (pc := 37) (i := 3) d_Tr_begins_37 rfl rfl ?_
    refine ex_iconst (pc := 38) (v := (nI 2)) d_Tr_begins_38 (by decide) ?_
    refine ex_iload_n (pc := 39) (i := 1) d_Tr_begins_39 rfl rfl ?_
    refine ex_callV (pc := 40) (M' := M_Fa_add) (as := [.int (nI 2), .int x]) (st := []) d_Tr_begins_40 MW_Fa_add MI_Fa_add LK_Tr_85 (Nat.le_of_ble_eq_true rfl) rfl rfl rfl (ct_Fa_add l G (trTag iv tg x y (-1)) mp sp mo (nI 2) x nf ((trTag_o (by decide)).trans hf) hfl) (ex_lt_rm (by decide)) ⟨Nat.le_refl _, Nat.le_refl _⟩ rfl rfl (Nat.le_of_ble_eq_true rfl) ?_
    rintro _ _ ⟨rfl, rfl⟩
    refine ex_iconst (pc := 43) (v := (nI 0)) d_Tr_begins_43 (by decide) ?_
    refine ex_iret (ty := .boolean) d_Tr_begins_44 rfl rfl rfl (Nat.le_refl _) ?_
    exact ⟨fun q => absurd c18 q.1, fun _ => ⟨rfl, rfl⟩⟩
  · refine ex_aload_n (pc := 21) (i := 0) d_Tr_begins_21 rfl rfl ?_
    refine ex_getx (pc := 22) 11 2 (nI cn) d_Tr_begins_22 FL_Tr_32 (Nat.le_of_ble_eq_true rfl) rfl hc ?_
    refine ex_bipush (pc := 25) (v := (nI 33)) d_Tr_begins_25 (by decide) ?_
    refine ex_icmp_lt (pc := 27) (tgt := 45) d_Tr_begins_27 rfl (fun c27 => ?_) (fun c27 => ?_)
    · have hok : begOk iv op cn := ⟨c18, (n_lt (by omega) (by omega)).mp c27⟩
      have hcn : cn < 33 := hok.2
      refine ex_aload_n (pc := 45) (i := 0) d_Tr_begins_45 rfl rfl ?_
      refine ex_dup (pc := 46) d_Tr_begins_46 rfl ?_
      refine ex_getx (pc := 47) 11 2 (nI cn) d_Tr_begins_47 FL_Tr_32 (Nat.le_of_ble_eq_true rfl) rfl hc ?_
      refine ex_iconst (pc := 50) (v := (nI 1)) d_Tr_begins_50 (by decide) ?_
      refine ex_iadd (pc := 51) d_Tr_begins_51 ?_
      refine ex_top (nI_s cn) ?_
      refine ex_puti (pc := 52) 11 2 .int d_Tr_begins_52 (PF_Tr_32 _) (Nat.le_of_ble_eq_true rfl) rfl rfl rfl ?_
      refine ex_aload (pc := 55) d_Tr_begins_55 rfl ?_
      refine ex_dup (pc := 57) d_Tr_begins_57 rfl ?_
      refine ex_getx (pc := 58) 3 7 (iv (46 + op) 7) d_Tr_begins_58 FL_Tr_100 (el_lt ho) (el_sh ho) (u2n (Or.inl (by omega))) ?_
      refine ex_iconst (pc := 61) (v := (nI 1)) d_Tr_begins_61 (by decide) ?_
      refine ex_iadd (pc := 62) d_Tr_begins_62 ?_
      refine ex_puti (pc := 63) 3 7 .int d_Tr_begins_63 (PF_Tr_100 _) (el_lt ho) (el_sh ho) rfl rfl ?_
      refine ex_heap (h' := HP (trB2 iv op cn) mp sp mo) rfl ?_
      refine ex_aload_n (pc := 66) (i := 0) d_Tr_begins_66 rfl rfl ?_
      refine ex_getr (pc := 67) 11 1 d_Tr_begins_67 FL_Tr_11 (Nat.le_of_ble_eq_true rfl) rfl rfl ?_
      refine ex_aload_n (pc := 70) (i := 0) d_Tr_begins_70 rfl rfl ?_
      refine ex_getx (pc := 71) 11 2 (nI (cn + 1)) d_Tr_begins_71 FL_Tr_32 (Nat.le_of_ble_eq_true rfl) rfl ((u2n (Or.inl (by omega))).trans u2s) ?_
      refine ex_aald (pc := 74) (cn + 1) d_Tr_begins_74 (Nat.le_of_ble_eq_true rfl) rfl rfl rfl (nI_t (by omega)) (show cn + 1 < 34 by omega) (el_rf (show cn + 1 < 34 by omega)) ?_
      refine ex_aload_n (pc := 75) (i := 0) d_Tr_begins_75 rfl rfl ?_
      refine ex_getr (pc := 76) 11 0 d_Tr_begins_76 FL_Tr_27 (Nat.le_of_ble_eq_true rfl) rfl rfl ?_
      refine ex_iload_n (pc := 79) (i := 1) d_Tr_begins_79 rfl rfl ?_
      refine ex_iconst (pc := 80) (v := (nI 1)) d_Tr_begins_80 (by decide) ?_
      refine ex_iadd (pc := 81) d_Tr_begins_81 ?_
      refine ex_callV (pc := 82) (M' := M_Tx_at) (as := [.int (x + nI 1)]) (st := [.ref (46 + (cn + 1))]) d_Tr_begins_82 MW_Tx_at MI_Tx_at LK_Tr_80 (Nat.le_of_ble_eq_true rfl) rfl rfl rfl (ct_Tx_at l G (trB2 iv op cn) mp sp mo (x + nI 1) (by rw [trB2_o (by omega) (Or.inl (by decide))]; exact hb)) (ex_lt_rm (by decide)) ⟨Nat.le_refl _, Nat.le_refl _⟩ rfl rfl (Nat.le_of_ble_eq_true rfl) ?_
      rintro _ _ ⟨rfl, rfl⟩
      refine ex_top (show _ = cAt (trB2 iv op cn) (x + nI 1) from rfl) ?_
      refine ex_aload_n (pc := 85) (i := 0) d_Tr_begins_85 rfl rfl ?_
      refine ex_getx (pc := 86) 11 3 (nI op) d_Tr_begins_86 FL_Tr_39 (Nat.le_of_ble_eq_true rfl) rfl ((trB2_o (by omega) (Or.inr (by decide))).trans hop) ?_
      refine ex_aload (pc := 89) d_Tr_begins_89 rfl ?_
      refine ex_getx (pc := 91) 3 2 (iv (46 + op) 2) d_Tr_begins_91 FL_Tr_94 (el_lt ho) (el_sh ho) ((u2n (Or.inr (by decide))).trans (u2n (Or.inl (by omega)))) ?_
      refine ex_iconst (pc := 94) (v := (nI 1)) d_Tr_begins_94 (by decide) ?_
      refine ex_iadd (pc := 95) d_Tr_begins_95 ?_
      refine ex_iload_n (pc := 96) (i := 1) d_Tr_begins_96 rfl rfl ?_
      refine ex_iload_n (pc := 97) (i := 2) d_Tr_begins_97 rfl rfl ?_
      refine ex_callV (pc := 98) (M' := M_El_open) (as := [.int (cAt (trB2 iv op cn) (x + nI 1)), .int (nI op), .int (iv (46 + op) 2 + nI 1), .int x, .int y]) (st := []) d_Tr_begins_98 MW_El_open MI_El_open LK_Tr_42 (el_lt (show cn + 1 < 34 by omega)) (el_sh (show cn + 1 < 34 by omega)) rfl rfl (ct_El_open l G (trB2 iv op cn) mp sp mo (cn + 1) (by omega) _ _ _ x y) (ex_lt_rm (by decide)) ⟨Nat.le_refl _, Nat.le_refl _⟩ rfl rfl (Nat.le_of_ble_eq_true rfl) ?_
      rintro _ _ ⟨rfl, rfl⟩
      refine ex_heap (h' := HP (trB3 iv op cn x y) mp sp mo) rfl ?_
      refine ex_aload_n (pc := 101) (i := 0) d_Tr_begins_101 rfl rfl ?_
      refine ex_iload_n (pc := 102) (i := 1) d_Tr_begins_102 rfl rfl ?_
      refine ex_iload_n (pc := 103) (i := 2) d_Tr_begins_103 rfl rfl ?_
      refine ex_aload_n (pc := 104) (i := 0) d_Tr_begins_104 rfl rfl ?_
      refine ex_getx (pc := 105) 11 2 (nI (cn + 1)) d_Tr_begins_105 FL_Tr_32 (Nat.le_of_ble_eq_true rfl) rfl ((elOpen_o (by omega)).trans ((u2n (Or.inl (by omega))).trans u2s)) ?_
      refine ex_callV (pc := 108) (M' := M_Tr_addTag) (as := [.int x, .int y, .int (nI (cn + 1))]) (st := []) d_Tr_begins_108 MW_Tr_addTag MI_Tr_addTag LK_Tr_97 (Nat.le_of_ble_eq_true rfl) rfl rfl rfl (ct_Tr_addTag l G (trB3 iv op cn x y) mp sp mo tg ((elOpen_o (by omega)).trans ((trB2_o (by omega) (Or.inr (by decide))).trans ht)) htl x y (nI (cn + 1))) (ex_lt_rm (by decide)) ⟨Nat.le_refl _, Nat.le_refl _⟩ rfl rfl (Nat.le_of_ble_eq_true rfl) ?_
      rintro _ _ ⟨rfl, rfl⟩
      refine ex_iconst (pc := 111) (v := (nI 1)) d_Tr_begins_111 (by decide) ?_
      refine ex_iret (ty := .boolean) d_Tr_begins_112 rfl rfl rfl (Nat.le_refl _) ?_
      exact ⟨fun _ => ⟨rfl, rfl⟩, fun q => absurd hok q⟩
    · refine ex_aload_n (pc := 30) (i := 0) d_Tr_begins_30 rfl rfl ?_
      refine ex_iload_n (pc := 31) (i := 1) d_Tr_begins_31 rfl rfl ?_
      refine ex_iload_n (pc := 32) (i := 2) d_Tr_begins_32 rfl rfl ?_
      refine ex_iconst (pc := 33) (v := (-1)) d_Tr_begins_33 (by decide) ?_
      refine ex_callV (pc := 34) (M' := M_Tr_addTag) (as := [.int x, .int y, .int (-1)]) (st := []) d_Tr_begins_34 MW_Tr_addTag MI_Tr_addTag LK_Tr_97 (Nat.le_of_ble_eq_true rfl) rfl rfl rfl (ct_Tr_addTag l G iv mp sp mo tg ht htl x y (-1)) (ex_lt_rm (by decide)) ⟨Nat.le_refl _, Nat.le_refl _⟩ rfl rfl (Nat.le_of_ble_eq_true rfl) ?_
      rintro _ _ ⟨rfl, rfl⟩
      refine ex_aload_n (pc := 37) (i := 3) d_Tr_begins_37 rfl rfl ?_
      refine ex_iconst (pc := 38) (v := (nI 2)) d_Tr_begins_38 (by decide) ?_
      refine ex_iload_n (pc := 39) (i := 1) d_Tr_begins_39 rfl rfl ?_
      refine ex_callV (pc := 40) (M' := M_Fa_add) (as := [.int (nI 2), .int x]) (st := []) d_Tr_begins_40 MW_Fa_add MI_Fa_add LK_Tr_85 (Nat.le_of_ble_eq_true rfl) rfl rfl rfl (ct_Fa_add l G (trTag iv tg x y (-1)) mp sp mo (nI 2) x nf ((trTag_o (by decide)).trans hf) hfl) (ex_lt_rm (by decide)) ⟨Nat.le_refl _, Nat.le_refl _⟩ rfl rfl (Nat.le_of_ble_eq_true rfl) ?_
      rintro _ _ ⟨rfl, rfl⟩
      refine ex_iconst (pc := 43) (v := (nI 0)) d_Tr_begins_43 (by decide) ?_
      refine ex_iret (ty := .boolean) d_Tr_begins_44 rfl rfl rfl (Nat.le_refl _) ?_
      exact ⟨fun q => absurd ((n_lt (by omega) (by omega)).mpr q.2) c27, fun _ => ⟨rfl, rfl⟩⟩

end BEG
set_option maxRecDepth 100000 in
set_option maxHeartbeats 4000000 in
theorem ct_Tr_takeStartTag (l : Launch) (G : ex_G) (iv : Nat → Nat → Int32) (mp : Nat → Nat) (sp mo : Nat) (op : Nat) (hop : iv 41 3 = nI op) (ho : op < 34) (cn tg : Nat) (hc : iv 41 2 = nI cn) (hcl : cn ≤ 33) (ht : iv 41 7 = nI tg) (htl : tg < 33) (nf : Nat) (hf : iv 80 1 = nI nf) (hfl : nf ≤ 200) (hb : (iv 39 1).toInt ≤ ((100 : Nat) : Int)) (x y : Int32) : CT l G 2 M_Tr_takeStartTag [.ref 41, .int x, .int y, .ref 80] (HP iv mp sp mo) 0 0 (fun r h' => r = none ∧ (begOk iv op cn → h' = HP (ex_u2 (trBeg iv op cn tg x y) 41 3 (nI (cn + 1))) mp sp mo) ∧ (¬ begOk iv op cn → h' = HP (faAdd (trTag iv tg x y (-1)) nf (x * nI 8 + nI 2)) mp sp mo)) := by
  refine ex_enter (by decide) (Nat.le_of_ble_eq_true rfl) (fun v hv => by simp at hv; rcases hv with rfl | rfl | rfl | rfl <;> rfl) (fun p e s m args below meth c => ?_)
  refine ex_aload_n (pc := 0) (i := 0) d_Tr_takeStartTag_0 rfl rfl ?_
  refine ex_iload_n (pc := 1) (i := 1) d_Tr_takeStartTag_1 rfl rfl ?_
  refine ex_iload_n (pc := 2) (i := 2) d_Tr_takeStartTag_2 rfl rfl ?_
  refine ex_aload_n (pc := 3) (i := 3) d_Tr_takeStartTag_3 rfl rfl ?_
  refine ex_callV (pc := 4) (M' := M_Tr_begins) (as := [.int x, .int y, .ref 80]) (st := []) d_Tr_takeStartTag_4 MW_Tr_begins MI_Tr_begins LK_Tr_90 (Nat.le_of_ble_eq_true rfl) rfl rfl rfl (ct_Tr_begins l G iv mp sp mo op hop ho cn tg hc hcl ht htl nf hf hfl hb x y) (ex_lt_rm (by decide)) ⟨Nat.le_refl _, Nat.le_refl _⟩ rfl rfl (Nat.le_of_ble_eq_true rfl) ?_
  intro r2 h2 hq
  by_cases hok : begOk iv op cn
  · obtain ⟨rfl, rfl⟩ := hq.1 hok
    refine ex_if_eq (pc := 7) (tgt := 18) d_Tr_takeStartTag_7 rfl (fun c7 => absurd c7 (by decide)) (fun c7 => ?_)
    refine ex_aload_n (pc := 10) (i := 0) d_Tr_takeStartTag_10 rfl rfl ?_
    refine ex_aload_n (pc := 11) (i := 0) d_Tr_takeStartTag_11 rfl rfl ?_
    refine ex_getx (pc := 12) 11 2 (nI (cn + 1)) d_Tr_takeStartTag_12 FL_Tr_32 (Nat.le_of_ble_eq_true rfl) rfl (trBeg_cn (tg := tg)) ?_
    refine ex_puti (pc := 15) 11 3 .int d_Tr_takeStartTag_15 (PF_Tr_39 _) (Nat.le_of_ble_eq_true rfl) rfl rfl rfl ?_
    refine ex_vret d_Tr_takeStartTag_18 rfl rfl (Nat.le_refl _) ?_
    exact ⟨rfl, fun _ => rfl, fun q => absurd hok q⟩
  obtain ⟨rfl, rfl⟩ := hq.2 hok
  refine ex_if_eq (pc := 7) (tgt := 18) d_Tr_takeStartTag_7 rfl (fun c7 => ?_) (fun c7 => ?_)
  · refine ex_vret d_Tr_takeStartTag_18 rfl rfl (Nat.le_refl _) ?_
    exact ⟨rfl, fun q => absurd q hok, fun _ => rfl⟩
  · exact absurd (show nI 0 = 0 by decide) c7

set_option maxRecDepth 100000 in
set_option maxHeartbeats 4000000 in
theorem ct_Tr_takeEmptyTag (l : Launch) (G : ex_G) (iv : Nat → Nat → Int32) (mp : Nat → Nat) (sp mo : Nat) (op : Nat) (hop : iv 41 3 = nI op) (ho : op < 34) (cn tg : Nat) (hc : iv 41 2 = nI cn) (hcl : cn ≤ 33) (ht : iv 41 7 = nI tg) (htl : tg < 33) (nf : Nat) (hf : iv 80 1 = nI nf) (hfl : nf ≤ 200) (hb : (iv 39 1).toInt ≤ ((100 : Nat) : Int)) (x y : Int32) : CT l G 2 M_Tr_takeEmptyTag [.ref 41, .int x, .int y, .ref 80] (HP iv mp sp mo) 0 0 (fun r h' => r = none ∧ (begOk iv op cn → h' = HP (elClose (trBeg iv op cn tg x y) (cn + 1) (nI 2) y y) mp sp mo) ∧ (¬ begOk iv op cn → h' = HP (faAdd (trTag iv tg x y (-1)) nf (x * nI 8 + nI 2)) mp sp mo)) := by
  refine ex_enter (by decide) (Nat.le_of_ble_eq_true rfl) (fun v hv => by simp at hv; rcases hv with rfl | rfl | rfl | rfl <;> rfl) (fun p e s m args below meth c => ?_)
  refine ex_aload_n (pc := 0) (i := 0) d_Tr_takeEmptyTag_0 rfl rfl ?_
  refine ex_iload_n (pc := 1) (i := 1) d_Tr_takeEmptyTag_1 rfl rfl ?_
  refine ex_iload_n (pc := 2) (i := 2) d_Tr_takeEmptyTag_2 rfl rfl ?_
  refine ex_aload_n (pc := 3) (i := 3) d_Tr_takeEmptyTag_3 rfl rfl ?_
  refine ex_callV (pc := 4) (M' := M_Tr_begins) (as := [.int x, .int y, .ref 80]) (st := []) d_Tr_takeEmptyTag_4 MW_Tr_begins MI_Tr_begins LK_Tr_90 (Nat.le_of_ble_eq_true rfl) rfl rfl rfl (ct_Tr_begins l G iv mp sp mo op hop ho cn tg hc hcl ht htl nf hf hfl hb x y) (ex_lt_rm (by decide)) ⟨Nat.le_refl _, Nat.le_refl _⟩ rfl rfl (Nat.le_of_ble_eq_true rfl) ?_
  intro r2 h2 hq
  by_cases hok : begOk iv op cn
  · have hcn : cn < 33 := hok.2
    obtain ⟨rfl, rfl⟩ := hq.1 hok
    refine ex_if_eq (pc := 7) (tgt := 25) d_Tr_takeEmptyTag_7 rfl (fun c7 => absurd c7 (by decide)) (fun c7 => ?_)
    refine ex_aload_n (pc := 10) (i := 0) d_Tr_takeEmptyTag_10 rfl rfl ?_
    refine ex_getr (pc := 11) 11 1 d_Tr_takeEmptyTag_11 FL_Tr_11 (Nat.le_of_ble_eq_true rfl) rfl rfl ?_
    refine ex_aload_n (pc := 14) (i := 0) d_Tr_takeEmptyTag_14 rfl rfl ?_
    refine ex_getx (pc := 15) 11 2 (nI (cn + 1)) d_Tr_takeEmptyTag_15 FL_Tr_32 (Nat.le_of_ble_eq_true rfl) rfl (trBeg_cn (tg := tg)) ?_
    refine ex_aald (pc := 18) (cn + 1) d_Tr_takeEmptyTag_18 (Nat.le_of_ble_eq_true rfl) rfl rfl rfl (nI_t (by omega)) (show cn + 1 < 34 by omega) (el_rf (show cn + 1 < 34 by omega)) ?_
    refine ex_iconst (pc := 19) (v := nI 2) d_Tr_takeEmptyTag_19 (by decide) ?_
    refine ex_iload_n (pc := 20) (i := 2) d_Tr_takeEmptyTag_20 rfl rfl ?_
    refine ex_iload_n (pc := 21) (i := 2) d_Tr_takeEmptyTag_21 rfl rfl ?_
    refine ex_callV (pc := 22) (M' := M_El_close) (as := [.int (nI 2), .int y, .int y]) (st := []) d_Tr_takeEmptyTag_22 MW_El_close MI_El_close LK_Tr_58 (el_lt (show cn + 1 < 34 by omega)) (el_sh (show cn + 1 < 34 by omega)) rfl rfl (ct_El_close l G (trBeg iv op cn tg x y) mp sp mo (cn + 1) (by omega) (nI 2) y y) (ex_lt_rm (by decide)) ⟨Nat.le_refl _, Nat.le_refl _⟩ rfl rfl (Nat.le_of_ble_eq_true rfl) ?_
    rintro _ _ ⟨rfl, rfl⟩
    refine ex_vret d_Tr_takeEmptyTag_25 rfl rfl (Nat.le_refl _) ?_
    exact ⟨rfl, fun _ => rfl, fun q => absurd hok q⟩
  obtain ⟨rfl, rfl⟩ := hq.2 hok
  refine ex_if_eq (pc := 7) (tgt := 25) d_Tr_takeEmptyTag_7 rfl (fun c7 => ?_) (fun c7 => ?_)
  · refine ex_vret d_Tr_takeEmptyTag_25 rfl rfl (Nat.le_refl _) ?_
    exact ⟨rfl, fun q => absurd q hok, fun _ => rfl⟩
  · exact absurd (show nI 0 = 0 by decide) c7

def onCh (pr : Nat → Nat) (cn ou : Nat) : Nat → Nat → Prop
  | 0, q => q = ou
  | k + 1, q => q = ou ∨ (0 < q ∧ q ≤ cn ∧ onCh pr cn ou k (pr q))
def clsF (pr : Nat → Nat) (ou : Nat) (x : Int32) : Nat → Nat → (Nat → Nat → Int32) → Nat → Nat → Int32
  | 0, _, iv => iv
  | k + 1, q, iv => if q = ou then iv else clsF pr ou x k (pr q) (ex_u2 (elClose iv q (nI 0) x x) 41 3 (nI (pr q)))
theorem clsF_ou {pr : Nat → Nat} {ou : Nat} {x : Int32} {iv : Nat → Nat → Int32} : ∀ k, clsF pr ou x k ou iv = iv := by
  intro k
  cases k with
  | zero => rfl
  | succ k => exact if_pos rfl
set_option maxRecDepth 100000 in
set_option maxHeartbeats 4000000 in
theorem lp_Tr_closeUpTo {p : Program} {e : Env} {s : State} {m : MethodId} {args : Array Value} {below : List Frame} {meth : Method} {c : Code} (l : Launch) (G : ex_G) (mp : Nat → Nat) (sp mo : Nat) (pr : Nat → Nat) (cn ou : Nat) (hcl : cn ≤ 33) (hou : ou ≤ cn) (hpr : ∀ q, 0 < q → q ≤ cn → pr q ≤ cn) (x : Int32) (Z : Nat → Nat → Int32) : ∀ (k i q : Nat) (iv : Nat → Nat → Int32), i + k ≤ 8 → q ≤ cn → iv 41 3 = nI q → (∀ z, 0 < z → z ≤ cn → iv (46 + z) 1 = nI (pr z)) → onCh pr cn ou k q → clsF pr ou x k q iv = Z → EXM M_Tr_closeUpTo l G 1 (fun r h' => h' = HP Z mp sp mo ∧ r = none) p e s m args below meth c 2 [some (.ref 41), some (.int (nI ou)), some (.int x), some (.int (nI i))] [] (HP iv mp sp mo) := by
  intro k
  induction k with
  | zero =>
    intro i q iv hik hq hop hp hch hv
    subst hv
    refine ex_iload_n (pc := 2) (i := 3) d_Tr_closeUpTo_2 rfl rfl ?_
    refine ex_bipush (pc := 3) (v := (nI 8)) d_Tr_closeUpTo_3 (by decide) ?_
    refine ex_icmp_ge (pc := 5) (tgt := 53) d_Tr_closeUpTo_5 rfl (fun c5 => ?_) (fun c5 => ?_)
    · refine ex_vret d_Tr_closeUpTo_53 rfl rfl (Nat.le_refl _) ?_
      exact ⟨rfl, rfl⟩
    · refine ex_aload_n (pc := 8) (i := 0) d_Tr_closeUpTo_8 rfl rfl ?_
      refine ex_getx (pc := 9) 11 3 (nI q) d_Tr_closeUpTo_9 FL_Tr_39 (Nat.le_of_ble_eq_true rfl) rfl hop ?_
      refine ex_iload_n (pc := 12) (i := 1) d_Tr_closeUpTo_12 rfl rfl ?_
      refine ex_icmp_eq (pc := 13) (tgt := 53) d_Tr_closeUpTo_13 rfl (fun c13 => ?_) (fun c13 => ?_)
      · refine ex_vret d_Tr_closeUpTo_53 rfl rfl (Nat.le_refl _) ?_
        exact ⟨rfl, rfl⟩
      · exact absurd (congrArg nI (show q = ou from hch)) c13
  | succ k ih =>
    intro i q iv hik hq hop hp hch hv
    refine ex_iload_n (pc := 2) (i := 3) d_Tr_closeUpTo_2 rfl rfl ?_
    refine ex_bipush (pc := 3) (v := (nI 8)) d_Tr_closeUpTo_3 (by decide) ?_
    refine ex_icmp_ge (pc := 5) (tgt := 53) d_Tr_closeUpTo_5 rfl (fun c5 => ?_) (fun c5 => ?_)
    · exact absurd ((n_ge (by omega) (by omega)).mp c5) (by omega)
    · refine ex_aload_n (pc := 8) (i := 0) d_Tr_closeUpTo_8 rfl rfl ?_
      refine ex_getx (pc := 9) 11 3 (nI q) d_Tr_closeUpTo_9 FL_Tr_39 (Nat.le_of_ble_eq_true rfl) rfl hop ?_
      refine ex_iload_n (pc := 12) (i := 1) d_Tr_closeUpTo_12 rfl rfl ?_
      refine ex_icmp_eq (pc := 13) (tgt := 53) d_Tr_closeUpTo_13 rfl (fun c13 => ?_) (fun c13 => ?_)
      · refine ex_vret d_Tr_closeUpTo_53 rfl rfl (Nat.le_refl _) ?_
        have he : q = ou := (n_eq (by omega) (by omega)).mp c13
        subst he
        rw [clsF_ou] at hv
        exact ⟨by rw [hv], rfl⟩
      · have hne : ¬ q = ou := fun z => c13 (by rw [z])
        obtain ⟨hq0, -, hch2⟩ := hch.resolve_left hne
        rw [clsF, if_neg hne] at hv
        refine ex_aload_n (pc := 16) (i := 0) d_Tr_closeUpTo_16 rfl rfl ?_
        refine ex_getr (pc := 17) 11 1 d_Tr_closeUpTo_17 FL_Tr_11 (Nat.le_of_ble_eq_true rfl) rfl rfl ?_
        refine ex_aload_n (pc := 20) (i := 0) d_Tr_closeUpTo_20 rfl rfl ?_
        refine ex_getx (pc := 21) 11 3 (nI q) d_Tr_closeUpTo_21 FL_Tr_39 (Nat.le_of_ble_eq_true rfl) rfl hop ?_
        refine ex_aald (pc := 24) q d_Tr_closeUpTo_24 (Nat.le_of_ble_eq_true rfl) rfl rfl rfl (nI_t (by omega)) (show q < 34 by omega) (el_rf (show q < 34 by omega)) ?_
        refine ex_iconst (pc := 25) (v := (nI 0)) d_Tr_closeUpTo_25 (by decide) ?_
        refine ex_iload_n (pc := 26) (i := 2) d_Tr_closeUpTo_26 rfl rfl ?_
        refine ex_iload_n (pc := 27) (i := 2) d_Tr_closeUpTo_27 rfl rfl ?_
        refine ex_callV (pc := 28) (M' := M_El_close) (as := [.int (nI 0), .int x, .int x]) (st := []) d_Tr_closeUpTo_28 MW_El_close MI_El_close LK_Tr_58 (el_lt (show q < 34 by omega)) (el_sh (show q < 34 by omega)) rfl rfl (ct_El_close l G iv mp sp mo q (by omega) (nI 0) x x) (ex_lt_rm (by decide)) ⟨Nat.le_refl _, Nat.le_refl _⟩ rfl rfl (Nat.le_of_ble_eq_true rfl) ?_
        rintro _ _ ⟨rfl, rfl⟩
        refine ex_aload_n (pc := 31) (i := 0) d_Tr_closeUpTo_31 rfl rfl ?_
        refine ex_aload_n (pc := 32) (i := 0) d_Tr_closeUpTo_32 rfl rfl ?_
        refine ex_getr (pc := 33) 11 1 d_Tr_closeUpTo_33 FL_Tr_11 (Nat.le_of_ble_eq_true rfl) rfl rfl ?_
        refine ex_aload_n (pc := 36) (i := 0) d_Tr_closeUpTo_36 rfl rfl ?_
        refine ex_getx (pc := 37) 11 3 (nI q) d_Tr_closeUpTo_37 FL_Tr_39 (Nat.le_of_ble_eq_true rfl) rfl ((elClose_o (Or.inl (by omega))).trans hop) ?_
        refine ex_aald (pc := 40) q d_Tr_closeUpTo_40 (Nat.le_of_ble_eq_true rfl) rfl rfl rfl (nI_t (by omega)) (show q < 34 by omega) (el_rf (show q < 34 by omega)) ?_
        refine ex_getx (pc := 41) 3 1 (nI (pr q)) d_Tr_closeUpTo_41 FL_Tr_106 (el_lt (show q < 34 by omega)) (el_sh (show q < 34 by omega)) ((elClose_o (Or.inr (by decide))).trans (hp q hq0 hq)) ?_
        refine ex_puti (pc := 44) 11 3 .int d_Tr_closeUpTo_44 (PF_Tr_39 _) (Nat.le_of_ble_eq_true rfl) rfl rfl rfl ?_
        refine ex_iinc (pc := 47) (v := (nI (i + 1))) d_Tr_closeUpTo_47 rfl (nI_1 i) (by decide) ?_
        refine ex_goto (pc := 50) (tgt := 2) d_Tr_closeUpTo_50 rfl ?_
        exact ih (i + 1) (pr q) (ex_u2 (elClose iv q (nI 0) x x) 41 3 (nI (pr q))) (by omega) (hpr q hq0 hq) u2s (fun z z0 z1 => (u2n (Or.inl (by omega))).trans ((elClose_o (Or.inr (by decide))).trans (hp z z0 z1))) hch2 hv

set_option maxRecDepth 100000 in
set_option maxHeartbeats 4000000 in
theorem ct_Tr_closeUpTo (l : Launch) (G : ex_G) (iv : Nat → Nat → Int32) (mp : Nat → Nat) (sp mo : Nat) (pr : Nat → Nat) (cn ou op : Nat) (hcl : cn ≤ 33) (hou : ou ≤ cn) (hop : iv 41 3 = nI op) (ho : op ≤ cn) (hp : ∀ q, 0 < q → q ≤ cn → iv (46 + q) 1 = nI (pr q) ∧ pr q ≤ cn) (hch : onCh pr cn ou 8 op) (x : Int32) : CT l G 1 M_Tr_closeUpTo [.ref 41, .int (nI ou), .int x] (HP iv mp sp mo) 0 0 (fun r h' => h' = HP (clsF pr ou x 8 op iv) mp sp mo ∧ r = none) := by
  refine ex_enter (by decide) (Nat.le_of_ble_eq_true rfl) (fun v hv => by simp at hv; rcases hv with rfl | rfl | rfl <;> rfl) (fun p e s m args below meth c => ?_)
  refine ex_iconst (pc := 0) (v := (nI 0)) d_Tr_closeUpTo_0 (by decide) ?_
  refine ex_istore_n (pc := 1) (i := 3) d_Tr_closeUpTo_1 rfl (by decide) ?_
  exact lp_Tr_closeUpTo l G mp sp mo pr cn ou hcl hou (fun q z1 z2 => (hp q z1 z2).2) x _ 8 0 op iv (by omega) ho hop (fun q z1 z2 => (hp q z1 z2).1) hch rfl

