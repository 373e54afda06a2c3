/-! the reference takes characters and tags -/
def TxR (iv : Nat → Nat → Int32) (a : Nat → Int32) (n : Nat) : Prop := n ≤ 100 ∧ iv 92 14 = nI n ∧ (∀ k, k < n → iv 106 k = a k) ∧ ∀ k, n ≤ k → a k = -1
def FrR (iv iv' : Nat → Nat → Int32) : Prop := ∀ q j, ¬ (107 ≤ q ∧ q ≤ 120) → (q ≠ 92 ∨ (j ≠ 16 ∧ j ≠ 29)) → iv' q j = iv q j
theorem FrR.r (iv : Nat → Nat → Int32) : FrR iv iv := fun _ _ _ _ => rfl
theorem FrR.t {u v x : Nat → Nat → Int32} (h1 : FrR u v) (h2 : FrR v x) : FrR u x := fun q j z1 z2 => (h2 q j z1 z2).trans (h1 q j z1 z2)
theorem txR_fr {iv iv' : Nat → Nat → Int32} {a : Nat → Int32} {n : Nat} (h : TxR iv a n) (hf : FrR iv iv') : TxR iv' a n := ⟨h.1, (hf 92 14 (by omega) (Or.inr (by decide))).trans h.2.1, fun k hk => (hf 106 k (by omega) (Or.inl (by decide))).trans (h.2.2.1 k hk), h.2.2.2⟩
section CHR
variable {iv : Nat → Nat → Int32} {a : Nat → Int32} {n p9 : Nat}
theorem tx_b (h : TxR iv a n) : (iv 92 14).toInt ≤ ((100 : Nat) : Int) := by
  have := h.1
  rw [h.2.1, nI_t (by omega)]
  omega
theorem ch_lt (h : TxR iv a n) (hp : p9 < n) : gAt0 (iv 92 14) (iv 106) (nI p9) = a p9 := by
  have := h.1
  unfold gAt0
  rw [h.2.1, nI_t (by omega), nI_t (by omega), if_pos (by omega)]
  exact h.2.2.1 p9 hp
theorem ch_ge (h : TxR iv a n) (hp : n ≤ p9) (hb : p9 ≤ 1000) : gAt0 (iv 92 14) (iv 106) (nI p9) = nI 0 := by
  have := h.1
  unfold gAt0
  rw [h.2.1, nI_t (by omega), nI_t (by omega), if_neg (by omega)]
theorem ch_eq (h : TxR iv a n) (hb : p9 ≤ 1000) {c9 : Nat} (h0 : 0 < c9) (h1 : c9 ≤ 1000) : gAt0 (iv 92 14) (iv 106) (nI p9) = nI c9 ↔ a p9 = nI c9 := by
  by_cases hp : p9 < n
  · rw [ch_lt h hp]
  · rw [ch_ge h (by omega) hb, h.2.2.2 p9 (by omega)]
    constructor
    · intro z
      have := (n_eq (a := 0) (by omega) (by omega)).mp z
      omega
    · intro z
      exact absurd z (nI_ne1 h1)
theorem ch_nm (h : TxR iv a n) (hb : p9 ≤ 1000) : nmB (gAt0 (iv 92 14) (iv 106) (nI p9)) = nmB (a p9) := by
  by_cases hp : p9 < n
  · rw [ch_lt h hp]
  · rw [ch_ge h (by omega) hb, h.2.2.2 p9 (by omega)]
    decide
end CHR
set_option maxRecDepth 100000 in
set_option maxHeartbeats 4000000 in
theorem ct_RF_takeCharacter (l : Launch) (G : ex_G) (iv : Nat → Nat → Int32) (mp : Nat → Nat) (sp mo : Nat) (a : Nat → Int32) (n : Nat) (hA : TxR iv a n) (p9 : Nat) (hp : p9 < n) (T : TS) (B : List Nat) (hR : RepR iv T B) (hI : tI T p9) (hB : B.length < 400) : CT l G 1 M_RF_takeCharacter [.ref 92, .int (nI p9)] (HP iv mp sp mo) 0 0 (fun r h' => h' = HP (rfCh iv T.cur B.length (a p9) p9) mp sp mo ∧ r = none) := by
  refine ex_enter (by decide) (Nat.le_of_ble_eq_true rfl) (fun v hv => by simp at hv; rcases hv with rfl | rfl <;> rfl) (fun p e s m args below meth c => ?_)
  have hn := hA.1
  have hcn : T.cn ≤ 33 := by have := hI.1; omega
  have hcur := cur_le hI
  refine ex_aload_n (pc := 0) (i := 0) d_RF_takeCharacter_0 rfl rfl ?_
  refine ex_iload_n (pc := 1) (i := 1) d_RF_takeCharacter_1 rfl rfl ?_
  refine ex_callV (pc := 2) (M' := M_RF_charAt) (as := [.int (nI p9)]) (st := []) d_RF_takeCharacter_2 MW_RF_charAt MI_RF_charAt LK_RF_191 (Nat.le_of_ble_eq_true rfl) rfl rfl rfl (ct_RF_charAt l G iv mp sp mo (nI p9) (tx_b hA)) (ex_lt_rm (by decide)) ⟨Nat.le_refl _, Nat.le_refl _⟩ rfl rfl (Nat.le_of_ble_eq_true rfl) ?_
  rintro _ _ ⟨rfl, rfl⟩
  refine ex_top (ch_lt hA hp) ?_
  refine ex_istore_n (pc := 5) (i := 2) d_RF_takeCharacter_5 rfl (by decide) ?_
  refine ex_aload_n (pc := 6) (i := 0) d_RF_takeCharacter_6 rfl rfl ?_
  refine ex_callV (pc := 7) (M' := M_RF_current) (as := []) (st := []) d_RF_takeCharacter_7 MW_RF_current MI_RF_current LK_RF_205 (Nat.le_of_ble_eq_true rfl) rfl rfl rfl (ct_RF_current l G iv mp sp mo T.cn hR.1 (by omega)) (ex_lt_rm (by decide)) ⟨Nat.le_refl _, Nat.le_refl _⟩ rfl rfl (Nat.le_of_ble_eq_true rfl) ?_
  rintro _ _ ⟨rfl, rfl⟩
  refine ex_top (congrArg nI (cur_a hR hI)) ?_
  refine ex_istore_n (pc := 10) (i := 3) d_RF_takeCharacter_10 rfl (by decide) ?_
  refine ex_iload_n (pc := 11) (i := 2) d_RF_takeCharacter_11 rfl rfl ?_
  refine ex_bipush (pc := 12) (v := (nI 60)) d_RF_takeCharacter_12 (by decide) ?_
  refine ex_icmp_ne (pc := 14) (tgt := 23) d_RF_takeCharacter_14 rfl (fun c14 => ?_) (fun c14 => ?_)
  · refine ex_heap (show _ = HP (rfC1 iv B.length (a p9) p9) mp sp mo by unfold rfC1; rw [if_neg c14]) ?_
    refine ex_iload_n (pc := 23) (i := 2) d_RF_takeCharacter_23 rfl rfl ?_
    refine ex_bipush (pc := 24) (v := (nI 32)) d_RF_takeCharacter_24 (by decide) ?_
    refine ex_icmp_eq (pc := 26) (tgt := 45) d_RF_takeCharacter_26 rfl (fun c26 => ?_) (fun c26 => ?_)
    · refine ex_vret d_RF_takeCharacter_45 rfl rfl (Nat.le_refl _) ?_
      exact ⟨by unfold rfCh; rw [if_neg (fun z => z.1 c26)], rfl⟩
    · refine ex_aload_n (pc := 29) (i := 0) d_RF_takeCharacter_29 rfl rfl ?_
      refine ex_getr (pc := 30) 12 24 d_RF_takeCharacter_30 FL_RF_74 (Nat.le_of_ble_eq_true rfl) rfl rfl ?_
      refine ex_iload_n (pc := 33) (i := 3) d_RF_takeCharacter_33 rfl rfl ?_
      refine ex_ialdx (pc := 34) T.cur ((rfC1 iv B.length (a p9) p9) 114 T.cur) d_RF_takeCharacter_34 (Nat.le_of_ble_eq_true rfl) rfl rfl rfl (nI_t (by omega)) (show T.cur < 40 by omega) rfl ?_
      refine ex_if_ge (pc := 35) (tgt := 45) d_RF_takeCharacter_35 rfl (fun c35 => ?_) (fun c35 => ?_)
      · refine ex_vret d_RF_takeCharacter_45 rfl rfl (Nat.le_refl _) ?_
        exact ⟨by unfold rfCh; rw [if_neg (fun z => by have z1 := i_lt.mp z.2; have z2 := i_le.mp c35; omega)], rfl⟩
      · refine ex_aload_n (pc := 38) (i := 0) d_RF_takeCharacter_38 rfl rfl ?_
        refine ex_getr (pc := 39) 12 24 d_RF_takeCharacter_39 FL_RF_74 (Nat.le_of_ble_eq_true rfl) rfl rfl ?_
        refine ex_iload_n (pc := 42) (i := 3) d_RF_takeCharacter_42 rfl rfl ?_
        refine ex_iload_n (pc := 43) (i := 1) d_RF_takeCharacter_43 rfl rfl ?_
        refine ex_iast (pc := 44) T.cur d_RF_takeCharacter_44 (Nat.le_of_ble_eq_true rfl) rfl rfl rfl (nI_t (by omega)) (show T.cur < 40 by omega) ?_
        refine ex_vret d_RF_takeCharacter_45 rfl rfl (Nat.le_refl _) ?_
        exact ⟨by unfold rfCh; rw [if_pos ⟨c26, i_lt.mpr (i_nle c35)⟩]; rfl, rfl⟩
  · refine ex_aload_n (pc := 17) (i := 0) d_RF_takeCharacter_17 rfl rfl ?_
    refine ex_iconst (pc := 18) (v := (nI 1)) d_RF_takeCharacter_18 (by decide) ?_
    refine ex_iload_n (pc := 19) (i := 1) d_RF_takeCharacter_19 rfl rfl ?_
    refine ex_callV (pc := 20) (M' := M_RF_addFault) (as := [.int (nI 1), .int (nI p9)]) (st := []) d_RF_takeCharacter_20 MW_RF_addFault MI_RF_addFault LK_RF_188 (Nat.le_of_ble_eq_true rfl) rfl rfl rfl (ct_RF_addFault l G iv mp sp mo (nI 1) (nI p9) B.length hR.2.2.2.2.2.1.1 hB) (ex_lt_rm (by decide)) ⟨Nat.le_refl _, Nat.le_refl _⟩ rfl rfl (Nat.le_of_ble_eq_true rfl) ?_
    rintro _ _ ⟨rfl, rfl⟩
    refine ex_heap (show _ = HP (rfC1 iv B.length (a p9) p9) mp sp mo by unfold rfC1; rw [if_pos c14]) ?_
    refine ex_iload_n (pc := 23) (i := 2) d_RF_takeCharacter_23 rfl rfl ?_
    refine ex_bipush (pc := 24) (v := (nI 32)) d_RF_takeCharacter_24 (by decide) ?_
    refine ex_icmp_eq (pc := 26) (tgt := 45) d_RF_takeCharacter_26 rfl (fun c26 => ?_) (fun c26 => ?_)
    · refine ex_vret d_RF_takeCharacter_45 rfl rfl (Nat.le_refl _) ?_
      exact ⟨by unfold rfCh; rw [if_neg (fun z => z.1 c26)], rfl⟩
    · refine ex_aload_n (pc := 29) (i := 0) d_RF_takeCharacter_29 rfl rfl ?_
      refine ex_getr (pc := 30) 12 24 d_RF_takeCharacter_30 FL_RF_74 (Nat.le_of_ble_eq_true rfl) rfl rfl ?_
      refine ex_iload_n (pc := 33) (i := 3) d_RF_takeCharacter_33 rfl rfl ?_
      refine ex_ialdx (pc := 34) T.cur ((rfC1 iv B.length (a p9) p9) 114 T.cur) d_RF_takeCharacter_34 (Nat.le_of_ble_eq_true rfl) rfl rfl rfl (nI_t (by omega)) (show T.cur < 40 by omega) rfl ?_
      refine ex_if_ge (pc := 35) (tgt := 45) d_RF_takeCharacter_35 rfl (fun c35 => ?_) (fun c35 => ?_)
      · refine ex_vret d_RF_takeCharacter_45 rfl rfl (Nat.le_refl _) ?_
        exact ⟨by unfold rfCh; rw [if_neg (fun z => by have z1 := i_lt.mp z.2; have z2 := i_le.mp c35; omega)], rfl⟩
      · refine ex_aload_n (pc := 38) (i := 0) d_RF_takeCharacter_38 rfl rfl ?_
        refine ex_getr (pc := 39) 12 24 d_RF_takeCharacter_39 FL_RF_74 (Nat.le_of_ble_eq_true rfl) rfl rfl ?_
        refine ex_iload_n (pc := 42) (i := 3) d_RF_takeCharacter_42 rfl rfl ?_
        refine ex_iload_n (pc := 43) (i := 1) d_RF_takeCharacter_43 rfl rfl ?_
        refine ex_iast (pc := 44) T.cur d_RF_takeCharacter_44 (Nat.le_of_ble_eq_true rfl) rfl rfl rfl (nI_t (by omega)) (show T.cur < 40 by omega) ?_
        refine ex_vret d_RF_takeCharacter_45 rfl rfl (Nat.le_refl _) ?_
        exact ⟨by unfold rfCh; rw [if_pos ⟨c26, i_lt.mpr (i_nle c35)⟩]; rfl, rfl⟩

set_option maxRecDepth 100000 in
set_option maxHeartbeats 4000000 in
theorem ct_RF_takeStart3 (l : Launch) (G : ex_G) (iv : Nat → Nat → Int32) (mp : Nat → Nat) (sp mo : Nat) (a : Nat → Int32) (n : Nat) (hA : TxR iv a n) (p9 : Nat) (hp : p9 < n) (cn cu nf d8 : Nat) (h16 : iv 92 16 = nI (cn + 1)) (hcn : cn < 39) (h29 : iv 92 29 = nI nf) (hnf : nf < 400) (hcu : curR (iv 115) cn = cu) (hop : cntF (fun q => decide (¬ iv 115 q = 0)) cn 1 0 = d8) (h8 : d8 ≤ 100) (hto : (p9 + 3) ≤ n) : CT l G 1 M_RF_takeStart [.ref 92, .int (nI p9), .int (nI 0)] (HP iv mp sp mo) 0 0 (fun r h' => r = none ∧ (d8 = 8 → h' = HP (rfFlt iv nf (nI 2) (nI p9)) mp sp mo) ∧ (¬ d8 = 8 → h' = HP (rfMk (rfNew iv (cn + 1) (a (p9 + 1)) (nI cu) (nI p9) (nI (p9 + 3))) p9 (p9 + 3) (p9 + 3) (nI (cn + 1))) mp sp mo)) := by
  refine ex_enter (by decide) (Nat.le_of_ble_eq_true rfl) (fun v hv => by simp at hv; rcases hv with rfl | rfl | rfl <;> rfl) (fun p e s m args below meth c => ?_)
  have hn := hA.1
  refine ex_iload_n (pc := 0) (i := 2) d_RF_takeStart_0 rfl rfl ?_
  refine ex_if_eq (pc := 1) (tgt := 10) d_RF_takeStart_1 rfl (fun c1 => ?_) (fun c1 => ?_)
  · refine ex_iload_n (pc := 10) (i := 1) d_RF_takeStart_10 rfl rfl ?_
    refine ex_iconst (pc := 11) (v := (nI 3)) d_RF_takeStart_11 (by decide) ?_
    refine ex_iadd (pc := 12) d_RF_takeStart_12 ?_
    refine ex_top (nI_add p9 3) ?_
    refine ex_istore_n (pc := 13) (i := 3) d_RF_takeStart_13 rfl (by decide) ?_
    refine ex_aload_n (pc := 14) (i := 0) d_RF_takeStart_14 rfl rfl ?_
    refine ex_callV (pc := 15) (M' := M_RF_openElements) (as := []) (st := []) d_RF_takeStart_15 MW_RF_openElements MI_RF_openElements LK_RF_201 (Nat.le_of_ble_eq_true rfl) rfl rfl rfl (ct_RF_openElements l G iv mp sp mo cn h16 (by omega)) (ex_lt_rm (by decide)) ⟨Nat.le_refl _, Nat.le_refl _⟩ rfl rfl (Nat.le_of_ble_eq_true rfl) ?_
    rintro _ _ ⟨rfl, rfl⟩
    refine ex_top (congrArg nI hop) ?_
    refine ex_bipush (pc := 18) (v := (nI 8)) d_RF_takeStart_18 (by decide) ?_
    refine ex_icmp_ne (pc := 20) (tgt := 30) d_RF_takeStart_20 rfl (fun c20 => ?_) (fun c20 => ?_)
    · refine ex_aload_n (pc := 30) (i := 0) d_RF_takeStart_30 rfl rfl ?_
      refine ex_aload_n (pc := 31) (i := 0) d_RF_takeStart_31 rfl rfl ?_
      refine ex_iload_n (pc := 32) (i := 1) d_RF_takeStart_32 rfl rfl ?_
      refine ex_iconst (pc := 33) (v := (nI 1)) d_RF_takeStart_33 (by decide) ?_
      refine ex_iadd (pc := 34) d_RF_takeStart_34 ?_
      refine ex_top (nI_add p9 1) ?_
      refine ex_callV (pc := 35) (M' := M_RF_charAt) (as := [.int (nI (p9 + 1))]) (st := [.ref 92]) d_RF_takeStart_35 MW_RF_charAt MI_RF_charAt LK_RF_191 (Nat.le_of_ble_eq_true rfl) rfl rfl rfl (ct_RF_charAt l G iv mp sp mo (nI (p9 + 1)) (tx_b hA)) (ex_lt_rm (by decide)) ⟨Nat.le_refl _, Nat.le_refl _⟩ rfl rfl (Nat.le_of_ble_eq_true rfl) ?_
      rintro _ _ ⟨rfl, rfl⟩
      refine ex_top (ch_lt hA (show p9 + 1 < n by omega)) ?_
      refine ex_aload_n (pc := 38) (i := 0) d_RF_takeStart_38 rfl rfl ?_
      refine ex_callV (pc := 39) (M' := M_RF_current) (as := []) (st := [.int (a (p9 + 1)), .ref 92]) d_RF_takeStart_39 MW_RF_current MI_RF_current LK_RF_205 (Nat.le_of_ble_eq_true rfl) rfl rfl rfl (ct_RF_current l G iv mp sp mo cn h16 (by omega)) (ex_lt_rm (by decide)) ⟨Nat.le_refl _, Nat.le_refl _⟩ rfl rfl (Nat.le_of_ble_eq_true rfl) ?_
      rintro _ _ ⟨rfl, rfl⟩
      refine ex_top (congrArg nI hcu) ?_
      refine ex_iload_n (pc := 42) (i := 1) d_RF_takeStart_42 rfl rfl ?_
      refine ex_iload_n (pc := 43) (i := 3) d_RF_takeStart_43 rfl rfl ?_
      refine ex_callV (pc := 44) (M' := M_RF_newElement) (as := [.int (a (p9 + 1)), .int (nI cu), .int (nI p9), .int (nI (p9 + 3))]) (st := []) d_RF_takeStart_44 MW_RF_newElement MI_RF_newElement LK_RF_208 (Nat.le_of_ble_eq_true rfl) rfl rfl rfl (ct_RF_newElement l G iv mp sp mo (cn + 1) h16 (by omega) (a (p9 + 1)) (nI cu) (nI p9) (nI (p9 + 3))) (ex_lt_rm (by decide)) ⟨Nat.le_refl _, Nat.le_refl _⟩ rfl rfl (Nat.le_of_ble_eq_true rfl) ?_
      rintro _ _ ⟨rfl, rfl⟩
      refine ex_istore (pc := 47) d_RF_takeStart_47 (by decide) ?_
      refine ex_aload_n (pc := 49) (i := 0) d_RF_takeStart_49 rfl rfl ?_
      refine ex_iload_n (pc := 50) (i := 1) d_RF_takeStart_50 rfl rfl ?_
      refine ex_iload_n (pc := 51) (i := 3) d_RF_takeStart_51 rfl rfl ?_
      refine ex_iload (pc := 52) d_RF_takeStart_52 rfl ?_
      refine ex_callV (pc := 54) (M' := M_RF_mark) (as := [.int (nI p9), .int (nI (p9 + 3)), .int (nI (cn + 1))]) (st := []) d_RF_takeStart_54 MW_RF_mark MI_RF_mark LK_RF_197 (Nat.le_of_ble_eq_true rfl) rfl rfl rfl (ct_RF_mark l G _ mp sp mo p9 (p9 + 3) (nI (cn + 1)) (by omega) (by omega)) (ex_lt_rm (by decide)) ⟨Nat.le_refl _, Nat.le_refl _⟩ rfl rfl (Nat.le_of_ble_eq_true rfl) ?_
      rintro _ _ ⟨rfl, rfl⟩
      refine ex_iload_n (pc := 57) (i := 2) d_RF_takeStart_57 rfl rfl ?_
      refine ex_if_ne (pc := 58) (tgt := 62) d_RF_takeStart_58 rfl (fun c58 => ?_) (fun c58 => ?_)
      · exact absurd rfl c58
      · refine ex_vret d_RF_takeStart_61 rfl rfl (Nat.le_refl _) ?_
        exact ⟨rfl, fun z => absurd (by rw [z]) c20, fun _ => rfl⟩
    · refine ex_aload_n (pc := 23) (i := 0) d_RF_takeStart_23 rfl rfl ?_
      refine ex_iconst (pc := 24) (v := (nI 2)) d_RF_takeStart_24 (by decide) ?_
      refine ex_iload_n (pc := 25) (i := 1) d_RF_takeStart_25 rfl rfl ?_
      refine ex_callV (pc := 26) (M' := M_RF_addFault) (as := [.int (nI 2), .int (nI p9)]) (st := []) d_RF_takeStart_26 MW_RF_addFault MI_RF_addFault LK_RF_188 (Nat.le_of_ble_eq_true rfl) rfl rfl rfl (ct_RF_addFault l G iv mp sp mo (nI 2) (nI p9) nf h29 hnf) (ex_lt_rm (by decide)) ⟨Nat.le_refl _, Nat.le_refl _⟩ rfl rfl (Nat.le_of_ble_eq_true rfl) ?_
      rintro _ _ ⟨rfl, rfl⟩
      refine ex_vret d_RF_takeStart_29 rfl rfl (Nat.le_refl _) ?_
      have e8 : d8 = 8 := (n_eq (by omega) (by omega)).mp c20
      exact ⟨rfl, fun _ => rfl, fun z => absurd e8 z⟩
  · exact absurd rfl c1

set_option maxRecDepth 100000 in
set_option maxHeartbeats 4000000 in
theorem ct_RF_takeStart4 (l : Launch) (G : ex_G) (iv : Nat → Nat → Int32) (mp : Nat → Nat) (sp mo : Nat) (a : Nat → Int32) (n : Nat) (hA : TxR iv a n) (p9 : Nat) (hp : p9 < n) (cn cu nf d8 : Nat) (h16 : iv 92 16 = nI (cn + 1)) (hcn : cn < 39) (h29 : iv 92 29 = nI nf) (hnf : nf < 400) (hcu : curR (iv 115) cn = cu) (hop : cntF (fun q => decide (¬ iv 115 q = 0)) cn 1 0 = d8) (h8 : d8 ≤ 100) (hto : (p9 + 4) ≤ n) : CT l G 1 M_RF_takeStart [.ref 92, .int (nI p9), .int (nI 1)] (HP iv mp sp mo) 0 0 (fun r h' => r = none ∧ (d8 = 8 → h' = HP (rfFlt iv nf (nI 2) (nI p9)) mp sp mo) ∧ (¬ d8 = 8 → h' = HP (ex_u2 (ex_u2 (ex_u2 (rfMk (rfNew iv (cn + 1) (a (p9 + 1)) (nI cu) (nI p9) (nI (p9 + 4))) p9 (p9 + 4) (p9 + 4) (nI (cn + 1))) 115 (cn + 1) (nI 0)) 111 (cn + 1) (-1)) 112 (cn + 1) (-1)) mp sp mo)) := by
  refine ex_enter (by decide) (Nat.le_of_ble_eq_true rfl) (fun v hv => by simp at hv; rcases hv with rfl | rfl | rfl <;> rfl) (fun p e s m args below meth c => ?_)
  have hn := hA.1
  refine ex_iload_n (pc := 0) (i := 2) d_RF_takeStart_0 rfl rfl ?_
  refine ex_if_eq (pc := 1) (tgt := 10) d_RF_takeStart_1 rfl (fun c1 => ?_) (fun c1 => ?_)
  · exact absurd c1 (by decide)
  · refine ex_iload_n (pc := 4) (i := 1) d_RF_takeStart_4 rfl rfl ?_
    refine ex_iconst (pc := 5) (v := (nI 4)) d_RF_takeStart_5 (by decide) ?_
    refine ex_iadd (pc := 6) d_RF_takeStart_6 ?_
    refine ex_top (nI_add p9 4) ?_
    refine ex_goto (pc := 7) (tgt := 13) d_RF_takeStart_7 rfl ?_
    refine ex_istore_n (pc := 13) (i := 3) d_RF_takeStart_13 rfl (by decide) ?_
    refine ex_aload_n (pc := 14) (i := 0) d_RF_takeStart_14 rfl rfl ?_
    refine ex_callV (pc := 15) (M' := M_RF_openElements) (as := []) (st := []) d_RF_takeStart_15 MW_RF_openElements MI_RF_openElements LK_RF_201 (Nat.le_of_ble_eq_true rfl) rfl rfl rfl (ct_RF_openElements l G iv mp sp mo cn h16 (by omega)) (ex_lt_rm (by decide)) ⟨Nat.le_refl _, Nat.le_refl _⟩ rfl rfl (Nat.le_of_ble_eq_true rfl) ?_
    rintro _ _ ⟨rfl, rfl⟩
    refine ex_top (congrArg nI hop) ?_
    refine ex_bipush (pc := 18) (v := (nI 8)) d_RF_takeStart_18 (by decide) ?_
    refine ex_icmp_ne (pc := 20) (tgt := 30) d_RF_takeStart_20 rfl (fun c20 => ?_) (fun c20 => ?_)
    · refine ex_aload_n (pc := 30) (i := 0) d_RF_takeStart_30 rfl rfl ?_
      refine ex_aload_n (pc := 31) (i := 0) d_RF_takeStart_31 rfl rfl ?_
      refine ex_iload_n (pc := 32) (i := 1) d_RF_takeStart_32 rfl rfl ?_
      refine ex_iconst (pc := 33) (v := (nI 1)) d_RF_takeStart_33 (by decide) ?_
      refine ex_iadd (pc := 34) d_RF_takeStart_34 ?_
      refine ex_top (nI_add p9 1) ?_
      refine ex_callV (pc := 35) (M' := M_RF_charAt) (as := [.int (nI (p9 + 1))]) (st := [.ref 92]) d_RF_takeStart_35 MW_RF_charAt MI_RF_charAt LK_RF_191 (Nat.le_of_ble_eq_true rfl) rfl rfl rfl (ct_RF_charAt l G iv mp sp mo (nI (p9 + 1)) (tx_b hA)) (ex_lt_rm (by decide)) ⟨Nat.le_refl _, Nat.le_refl _⟩ rfl rfl (Nat.le_of_ble_eq_true rfl) ?_
      rintro _ _ ⟨rfl, rfl⟩
      refine ex_top (ch_lt hA (show p9 + 1 < n by omega)) ?_
      refine ex_aload_n (pc := 38) (i := 0) d_RF_takeStart_38 rfl rfl ?_
      refine ex_callV (pc := 39) (M' := M_RF_current) (as := []) (st := [.int (a (p9 + 1)), .ref 92]) d_RF_takeStart_39 MW_RF_current MI_RF_current LK_RF_205 (Nat.le_of_ble_eq_true rfl) rfl rfl rfl (ct_RF_current l G iv mp sp mo cn h16 (by omega)) (ex_lt_rm (by decide)) ⟨Nat.le_refl _, Nat.le_refl _⟩ rfl rfl (Nat.le_of_ble_eq_true rfl) ?_
      rintro _ _ ⟨rfl, rfl⟩
      refine ex_top (congrArg nI hcu) ?_
      refine ex_iload_n (pc := 42) (i := 1) d_RF_takeStart_42 rfl rfl ?_
      refine ex_iload_n (pc := 43) (i := 3) d_RF_takeStart_43 rfl rfl ?_
      refine ex_callV (pc := 44) (M' := M_RF_newElement) (as := [.int (a (p9 + 1)), .int (nI cu), .int (nI p9), .int (nI (p9 + 4))]) (st := []) d_RF_takeStart_44 MW_RF_newElement MI_RF_newElement LK_RF_208 (Nat.le_of_ble_eq_true rfl) rfl rfl rfl (ct_RF_newElement l G iv mp sp mo (cn + 1) h16 (by omega) (a (p9 + 1)) (nI cu) (nI p9) (nI (p9 + 4))) (ex_lt_rm (by decide)) ⟨Nat.le_refl _, Nat.le_refl _⟩ rfl rfl (Nat.le_of_ble_eq_true rfl) ?_
      rintro _ _ ⟨rfl, rfl⟩
      refine ex_istore (pc := 47) d_RF_takeStart_47 (by decide) ?_
      refine ex_aload_n (pc := 49) (i := 0) d_RF_takeStart_49 rfl rfl ?_
      refine ex_iload_n (pc := 50) (i := 1) d_RF_takeStart_50 rfl rfl ?_
      refine ex_iload_n (pc := 51) (i := 3) d_RF_takeStart_51 rfl rfl ?_
      refine ex_iload (pc := 52) d_RF_takeStart_52 rfl ?_
      refine ex_callV (pc := 54) (M' := M_RF_mark) (as := [.int (nI p9), .int (nI (p9 + 4)), .int (nI (cn + 1))]) (st := []) d_RF_takeStart_54 MW_RF_mark MI_RF_mark LK_RF_197 (Nat.le_of_ble_eq_true rfl) rfl rfl rfl (ct_RF_mark l G _ mp sp mo p9 (p9 + 4) (nI (cn + 1)) (by omega) (by omega)) (ex_lt_rm (by decide)) ⟨Nat.le_refl _, Nat.le_refl _⟩ rfl rfl (Nat.le_of_ble_eq_true rfl) ?_
      rintro _ _ ⟨rfl, rfl⟩
      refine ex_iload_n (pc := 57) (i := 2) d_RF_takeStart_57 rfl rfl ?_
      refine ex_if_ne (pc := 58) (tgt := 62) d_RF_takeStart_58 rfl (fun c58 => ?_) (fun c58 => ?_)
      · refine ex_aload_n (pc := 62) (i := 0) d_RF_takeStart_62 rfl rfl ?_
        refine ex_getr (pc := 63) 12 25 d_RF_takeStart_63 FL_RF_77 (Nat.le_of_ble_eq_true rfl) rfl rfl ?_
        refine ex_iload (pc := 66) d_RF_takeStart_66 rfl ?_
        refine ex_iconst (pc := 68) (v := (nI 0)) d_RF_takeStart_68 (by decide) ?_
        refine ex_zast (pc := 69) (cn + 1) d_RF_takeStart_69 (Nat.le_of_ble_eq_true rfl) rfl rfl rfl (nI_t (by omega)) (show cn + 1 < 40 by omega) ?_
        refine ex_aload_n (pc := 70) (i := 0) d_RF_takeStart_70 rfl rfl ?_
        refine ex_getr (pc := 71) 12 21 d_RF_takeStart_71 FL_RF_65 (Nat.le_of_ble_eq_true rfl) rfl rfl ?_
        refine ex_iload (pc := 74) d_RF_takeStart_74 rfl ?_
        refine ex_iconst (pc := 76) (v := (-1)) d_RF_takeStart_76 (by decide) ?_
        refine ex_iast (pc := 77) (cn + 1) d_RF_takeStart_77 (Nat.le_of_ble_eq_true rfl) rfl rfl rfl (nI_t (by omega)) (show cn + 1 < 40 by omega) ?_
        refine ex_aload_n (pc := 78) (i := 0) d_RF_takeStart_78 rfl rfl ?_
        refine ex_getr (pc := 79) 12 22 d_RF_takeStart_79 FL_RF_68 (Nat.le_of_ble_eq_true rfl) rfl rfl ?_
        refine ex_iload (pc := 82) d_RF_takeStart_82 rfl ?_
        refine ex_iconst (pc := 84) (v := (-1)) d_RF_takeStart_84 (by decide) ?_
        refine ex_iast (pc := 85) (cn + 1) d_RF_takeStart_85 (Nat.le_of_ble_eq_true rfl) rfl rfl rfl (nI_t (by omega)) (show cn + 1 < 40 by omega) ?_
        refine ex_vret d_RF_takeStart_86 rfl rfl (Nat.le_refl _) ?_
        exact ⟨rfl, fun z => absurd (by rw [z]) c20, fun _ => rfl⟩
      · exact absurd c58 (by decide)
    · refine ex_aload_n (pc := 23) (i := 0) d_RF_takeStart_23 rfl rfl ?_
      refine ex_iconst (pc := 24) (v := (nI 2)) d_RF_takeStart_24 (by decide) ?_
      refine ex_iload_n (pc := 25) (i := 1) d_RF_takeStart_25 rfl rfl ?_
      refine ex_callV (pc := 26) (M' := M_RF_addFault) (as := [.int (nI 2), .int (nI p9)]) (st := []) d_RF_takeStart_26 MW_RF_addFault MI_RF_addFault LK_RF_188 (Nat.le_of_ble_eq_true rfl) rfl rfl rfl (ct_RF_addFault l G iv mp sp mo (nI 2) (nI p9) nf h29 hnf) (ex_lt_rm (by decide)) ⟨Nat.le_refl _, Nat.le_refl _⟩ rfl rfl (Nat.le_of_ble_eq_true rfl) ?_
      rintro _ _ ⟨rfl, rfl⟩
      refine ex_vret d_RF_takeStart_29 rfl rfl (Nat.le_refl _) ?_
      have e8 : d8 = 8 := (n_eq (by omega) (by omega)).mp c20
      exact ⟨rfl, fun _ => rfl, fun z => absurd e8 z⟩

set_option maxRecDepth 100000 in
set_option maxHeartbeats 4000000 in
theorem lq_RF_takeEnd {p : Program} {e : Env} {s : State} {m : MethodId} {args : Array Value} {below : List Frame} {meth : Method} {c : Code} (l : Launch) (G : ex_G) (iv : Nat → Nat → Int32) (mp : Nat → Nat) (sp mo : Nat) (a : Nat → Int32) (n : Nat) (hA : TxR iv a n) (p9 : Nat) (hp : p9 < n) (cn : Nat) (hcn : cn < 39) (x : Nat) (hx : x < 40) (Z : Nat × (Nat → Nat → Int32)) (PP : Option Value → ex_H → Prop) : ∀ (k i : Nat) (z : Nat × (Nat → Nat → Int32)), i + k = cn + 1 → z.2 92 16 = nI (cn + 1) → z.2 92 29 = nI z.1 → z.1 + k ≤ 399 → rcl (nI p9) k i z = Z → (∀ u3 : Option Value, EXM M_RF_takeEnd l G 2 PP p e s m args below meth c 86 [some (.ref 92), some (.int (nI p9)), some (.int (nI x)), u3] [] (HP Z.2 mp sp mo)) → EXM M_RF_takeEnd l G 2 (fun r h' => PP r h') p e s m args below meth c 57 [some (.ref 92), some (.int (nI p9)), some (.int (nI x)), some (.int (nI i))] [] (HP z.2 mp sp mo) := by
  intro k
  induction k with
  | zero =>
    intro i z hik h16 h29 hl hv hK
    have hv2 : z = Z := hv
    subst hv2
    refine ex_iload_n (pc := 57) (i := 3) d_RF_takeEnd_57 rfl rfl ?_
    refine ex_aload_n (pc := 58) (i := 0) d_RF_takeEnd_58 rfl rfl ?_
    refine ex_getx (pc := 59) 12 16 (nI (cn + 1)) d_RF_takeEnd_59 FL_RF_185 (Nat.le_of_ble_eq_true rfl) rfl h16 ?_
    refine ex_icmp_ge (pc := 62) (tgt := 86) d_RF_takeEnd_62 rfl (fun c62 => ?_) (fun c62 => ?_)
    · exact hK _
    · exact absurd ((n_ge (by omega) (by omega)).mpr (by omega)) c62
  | succ k ih =>
    intro i z hik h16 h29 hl hv hK
    rw [rcl] at hv
    refine ex_iload_n (pc := 57) (i := 3) d_RF_takeEnd_57 rfl rfl ?_
    refine ex_aload_n (pc := 58) (i := 0) d_RF_takeEnd_58 rfl rfl ?_
    refine ex_getx (pc := 59) 12 16 (nI (cn + 1)) d_RF_takeEnd_59 FL_RF_185 (Nat.le_of_ble_eq_true rfl) rfl h16 ?_
    refine ex_icmp_ge (pc := 62) (tgt := 86) d_RF_takeEnd_62 rfl (fun c62 => ?_) (fun c62 => ?_)
    · exact absurd ((n_ge (by omega) (by omega)).mp c62) (by omega)
    · refine ex_aload_n (pc := 65) (i := 0) d_RF_takeEnd_65 rfl rfl ?_
      refine ex_getr (pc := 66) 12 25 d_RF_takeEnd_66 FL_RF_77 (Nat.le_of_ble_eq_true rfl) rfl rfl ?_
      refine ex_iload_n (pc := 69) (i := 3) d_RF_takeEnd_69 rfl rfl ?_
      refine ex_zaldx (pc := 70) i (z.2 115 i) d_RF_takeEnd_70 (Nat.le_of_ble_eq_true rfl) rfl rfl rfl (nI_t (by omega)) (show i < 40 by omega) rfl ?_
      refine ex_if_eq (pc := 71) (tgt := 80) d_RF_takeEnd_71 rfl (fun c71 => ?_) (fun c71 => ?_)
      · refine ex_iinc (pc := 80) (v := (nI (i + 1))) d_RF_takeEnd_80 rfl (nI_1 i) (by decide) ?_
        refine ex_goto (pc := 83) (tgt := 57) d_RF_takeEnd_83 rfl ?_
        exact ih (i + 1) z (by omega) h16 h29 (by omega) (by rw [if_pos c71] at hv; exact hv) hK
      · refine ex_aload_n (pc := 74) (i := 0) d_RF_takeEnd_74 rfl rfl ?_
        refine ex_iload_n (pc := 75) (i := 3) d_RF_takeEnd_75 rfl rfl ?_
        refine ex_iload_n (pc := 76) (i := 1) d_RF_takeEnd_76 rfl rfl ?_
        refine ex_callV (pc := 77) (M' := M_RF_closeBare) (as := [.int (nI i), .int (nI p9)]) (st := []) d_RF_takeEnd_77 MW_RF_closeBare MI_RF_closeBare LK_RF_194 (Nat.le_of_ble_eq_true rfl) rfl rfl rfl (ct_RF_closeBare l G z.2 mp sp mo i z.1 (by omega) h29 (by omega) (nI p9)) (ex_lt_rm (by decide)) ⟨Nat.le_refl _, Nat.le_refl _⟩ rfl rfl (Nat.le_of_ble_eq_true rfl) ?_
        rintro _ _ ⟨rfl, rfl⟩
        refine ex_iinc (pc := 80) (v := (nI (i + 1))) d_RF_takeEnd_80 rfl (nI_1 i) (by decide) ?_
        refine ex_goto (pc := 83) (tgt := 57) d_RF_takeEnd_83 rfl ?_
        exact ih (i + 1) (z.1 + 1, rfFlt (rfCls z.2 i (nI p9)) z.1 (nI 4) (z.2 109 i)) (by omega) (show rfFlt (rfCls z.2 i (nI p9)) z.1 (nI 4) (z.2 109 i) 92 16 = nI (cn + 1) from (rfFlt_o (by decide) (by decide) (Or.inr (by decide))).trans ((rfCls_o (Or.inl (by decide))).trans h16)) (show rfFlt (rfCls z.2 i (nI p9)) z.1 (nI 4) (z.2 109 i) 92 29 = nI (z.1 + 1) by unfold rfFlt rfIn; exact u2s) (by show z.1 + 1 + k ≤ 399; omega) (by rw [if_neg c71] at hv; exact hv) hK

set_option maxRecDepth 100000 in
set_option maxHeartbeats 4000000 in
theorem lt_RF_takeEnd {p : Program} {e : Env} {s : State} {m : MethodId} {args : Array Value} {below : List Frame} {meth : Method} {c : Code} (l : Launch) (G : ex_G) (iv : Nat → Nat → Int32) (mp : Nat → Nat) (sp mo : Nat) (a : Nat → Int32) (n : Nat) (hA : TxR iv a n) (p9 : Nat) (hp : p9 < n) (cn nf : Nat) (h16 : iv 92 16 = nI (cn + 1)) (hcn : cn < 39) (h29 : iv 92 29 = nI nf) (hnf : nf + cn < 399) (hto : p9 + 4 ≤ n) (x : Nat) (hx : x ≤ cn) (u3 : Option Value) : EXM M_RF_takeEnd l G 2 (fun r h' => r = none ∧ (x = 0 → h' = HP (rfFlt iv nf (nI 3) (nI p9)) mp sp mo) ∧ (¬ x = 0 → h' = HP (rfMk (rfE4 (rcl (nI p9) (cn - x) (x + 1) (nf, iv)).2 x (nI p9) (nI (p9 + 4))) p9 (p9 + 4) (p9 + 4) (nI x)) mp sp mo)) p e s m args below meth c 42 [some (.ref 92), some (.int (nI p9)), some (.int (nI x)), u3] [] (HP iv mp sp mo) := by
  have hn := hA.1
  refine ex_iload_n (pc := 42) (i := 2) d_RF_takeEnd_42 rfl rfl ?_
  refine ex_if_ne (pc := 43) (tgt := 53) d_RF_takeEnd_43 rfl (fun c43 => ?_) (fun c43 => ?_)
  · refine ex_iload_n (pc := 53) (i := 2) d_RF_takeEnd_53 rfl rfl ?_
    refine ex_iconst (pc := 54) (v := (nI 1)) d_RF_takeEnd_54 (by decide) ?_
    refine ex_iadd (pc := 55) d_RF_takeEnd_55 ?_
    refine ex_top (nI_s x) ?_
    refine ex_istore_n (pc := 56) (i := 3) d_RF_takeEnd_56 rfl (by decide) ?_
    refine lq_RF_takeEnd l G iv mp sp mo a n hA p9 hp cn hcn x (by omega) _ _ (cn - x) (x + 1) (nf, iv) (by omega) h16 h29 (by show nf + (cn - x) ≤ 399; omega) rfl (fun u3 => ?_)
    refine ex_aload_n (pc := 86) (i := 0) d_RF_takeEnd_86 rfl rfl ?_
    refine ex_getr (pc := 87) 12 25 d_RF_takeEnd_87 FL_RF_77 (Nat.le_of_ble_eq_true rfl) rfl rfl ?_
    refine ex_iload_n (pc := 90) (i := 2) d_RF_takeEnd_90 rfl rfl ?_
    refine ex_iconst (pc := 91) (v := (nI 0)) d_RF_takeEnd_91 (by decide) ?_
    refine ex_zast (pc := 92) x d_RF_takeEnd_92 (Nat.le_of_ble_eq_true rfl) rfl rfl rfl (nI_t (by omega)) (show x < 40 by omega) ?_
    refine ex_aload_n (pc := 93) (i := 0) d_RF_takeEnd_93 rfl rfl ?_
    refine ex_getr (pc := 94) 12 22 d_RF_takeEnd_94 FL_RF_68 (Nat.le_of_ble_eq_true rfl) rfl rfl ?_
    refine ex_iload_n (pc := 97) (i := 2) d_RF_takeEnd_97 rfl rfl ?_
    refine ex_iload_n (pc := 98) (i := 1) d_RF_takeEnd_98 rfl rfl ?_
    refine ex_iast (pc := 99) x d_RF_takeEnd_99 (Nat.le_of_ble_eq_true rfl) rfl rfl rfl (nI_t (by omega)) (show x < 40 by omega) ?_
    refine ex_aload_n (pc := 100) (i := 0) d_RF_takeEnd_100 rfl rfl ?_
    refine ex_getr (pc := 101) 12 20 d_RF_takeEnd_101 FL_RF_62 (Nat.le_of_ble_eq_true rfl) rfl rfl ?_
    refine ex_iload_n (pc := 104) (i := 2) d_RF_takeEnd_104 rfl rfl ?_
    refine ex_iload_n (pc := 105) (i := 1) d_RF_takeEnd_105 rfl rfl ?_
    refine ex_iconst (pc := 106) (v := (nI 4)) d_RF_takeEnd_106 (by decide) ?_
    refine ex_iadd (pc := 107) d_RF_takeEnd_107 ?_
    refine ex_top (nI_add p9 4) ?_
    refine ex_iast (pc := 108) x d_RF_takeEnd_108 (Nat.le_of_ble_eq_true rfl) rfl rfl rfl (nI_t (by omega)) (show x < 40 by omega) ?_
    refine ex_aload_n (pc := 109) (i := 0) d_RF_takeEnd_109 rfl rfl ?_
    refine ex_getr (pc := 110) 12 23 d_RF_takeEnd_110 FL_RF_71 (Nat.le_of_ble_eq_true rfl) rfl rfl ?_
    refine ex_iload_n (pc := 113) (i := 2) d_RF_takeEnd_113 rfl rfl ?_
    refine ex_iload_n (pc := 114) (i := 1) d_RF_takeEnd_114 rfl rfl ?_
    refine ex_iast (pc := 115) x d_RF_takeEnd_115 (Nat.le_of_ble_eq_true rfl) rfl rfl rfl (nI_t (by omega)) (show x < 40 by omega) ?_
    refine ex_aload_n (pc := 116) (i := 0) d_RF_takeEnd_116 rfl rfl ?_
    refine ex_iload_n (pc := 117) (i := 1) d_RF_takeEnd_117 rfl rfl ?_
    refine ex_iload_n (pc := 118) (i := 1) d_RF_takeEnd_118 rfl rfl ?_
    refine ex_iconst (pc := 119) (v := (nI 4)) d_RF_takeEnd_119 (by decide) ?_
    refine ex_iadd (pc := 120) d_RF_takeEnd_120 ?_
    refine ex_top (nI_add p9 4) ?_
    refine ex_iload_n (pc := 121) (i := 2) d_RF_takeEnd_121 rfl rfl ?_
    refine ex_callV (pc := 122) (M' := M_RF_mark) (as := [.int (nI p9), .int (nI (p9 + 4)), .int (nI x)]) (st := []) d_RF_takeEnd_122 MW_RF_mark MI_RF_mark LK_RF_197 (Nat.le_of_ble_eq_true rfl) rfl rfl rfl (ct_RF_mark l G _ mp sp mo p9 (p9 + 4) (nI x) (by omega) (by omega)) (ex_lt_rm (by decide)) ⟨Nat.le_refl _, Nat.le_refl _⟩ rfl rfl (Nat.le_of_ble_eq_true rfl) ?_
    rintro _ _ ⟨rfl, rfl⟩
    refine ex_vret d_RF_takeEnd_125 rfl rfl (Nat.le_refl _) ?_
    exact ⟨rfl, fun z => absurd (by rw [z]; rfl) c43, fun _ => rfl⟩
  · refine ex_aload_n (pc := 46) (i := 0) d_RF_takeEnd_46 rfl rfl ?_
    refine ex_iconst (pc := 47) (v := (nI 3)) d_RF_takeEnd_47 (by decide) ?_
    refine ex_iload_n (pc := 48) (i := 1) d_RF_takeEnd_48 rfl rfl ?_
    refine ex_callV (pc := 49) (M' := M_RF_addFault) (as := [.int (nI 3), .int (nI p9)]) (st := []) d_RF_takeEnd_49 MW_RF_addFault MI_RF_addFault LK_RF_188 (Nat.le_of_ble_eq_true rfl) rfl rfl rfl (ct_RF_addFault l G iv mp sp mo (nI 3) (nI p9) nf h29 (by omega)) (ex_lt_rm (by decide)) ⟨Nat.le_refl _, Nat.le_refl _⟩ rfl rfl (Nat.le_of_ble_eq_true rfl) ?_
    rintro _ _ ⟨rfl, rfl⟩
    refine ex_vret d_RF_takeEnd_52 rfl rfl (Nat.le_refl _) ?_
    have e0 : x = 0 := (n_eq (by omega) (by omega)).mp (show nI x = nI 0 from c43)
    exact ⟨rfl, fun _ => rfl, fun z => absurd e0 z⟩
set_option maxRecDepth 100000 in
set_option maxHeartbeats 4000000 in
theorem lp_RF_takeEnd {p : Program} {e : Env} {s : State} {m : MethodId} {args : Array Value} {below : List Frame} {meth : Method} {c : Code} (l : Launch) (G : ex_G) (iv : Nat → Nat → Int32) (mp : Nat → Nat) (sp mo : Nat) (a : Nat → Int32) (n : Nat) (hA : TxR iv a n) (p9 : Nat) (hp : p9 < n) (cn nf : Nat) (h16 : iv 92 16 = nI (cn + 1)) (hcn : cn < 39) (h29 : iv 92 29 = nI nf) (hnf : nf + cn < 399) (hto : p9 + 4 ≤ n) (x : Nat) : ∀ (k : Nat) (u3 : Option Value), k ≤ cn → insD (fun q => decide (¬ iv 115 q = 0) && decide (iv 107 q = a (p9 + 2))) k = x → EXM M_RF_takeEnd l G 2 (fun r h' => r = none ∧ (x = 0 → h' = HP (rfFlt iv nf (nI 3) (nI p9)) mp sp mo) ∧ (¬ x = 0 → h' = HP (rfMk (rfE4 (rcl (nI p9) (cn - x) (x + 1) (nf, iv)).2 x (nI p9) (nI (p9 + 4))) p9 (p9 + 4) (p9 + 4) (nI x)) mp sp mo)) p e s m args below meth c 7 [some (.ref 92), some (.int (nI p9)), some (.int (nI k)), u3] [] (HP iv mp sp mo) := by
  intro k
  induction k with
  | zero =>
    intro u3 hk hv
    have hn := hA.1
    have hv2 : 0 = x := hv
    subst hv2
    refine ex_iload_n (pc := 7) (i := 2) d_RF_takeEnd_7 rfl rfl ?_
    refine ex_if_le (pc := 8) (tgt := 42) d_RF_takeEnd_8 rfl (fun c8 => ?_) (fun c8 => ?_)
    · exact lt_RF_takeEnd l G iv mp sp mo a n hA p9 hp cn nf h16 hcn h29 hnf hto 0 (by omega) _
    · exact absurd (by decide) c8
  | succ k ih =>
    intro u3 hk hv
    have hn := hA.1
    rw [insD] at hv
    refine ex_iload_n (pc := 7) (i := 2) d_RF_takeEnd_7 rfl rfl ?_
    refine ex_if_le (pc := 8) (tgt := 42) d_RF_takeEnd_8 rfl (fun c8 => ?_) (fun c8 => ?_)
    · exact absurd ((n_ge (b := 0) (by omega) (by omega)).mp c8) (by omega)
    · refine ex_aload_n (pc := 11) (i := 0) d_RF_takeEnd_11 rfl rfl ?_
      refine ex_getr (pc := 12) 12 25 d_RF_takeEnd_12 FL_RF_77 (Nat.le_of_ble_eq_true rfl) rfl rfl ?_
      refine ex_iload_n (pc := 15) (i := 2) d_RF_takeEnd_15 rfl rfl ?_
      refine ex_zaldx (pc := 16) (k + 1) (iv 115 (k + 1)) d_RF_takeEnd_16 (Nat.le_of_ble_eq_true rfl) rfl rfl rfl (nI_t (by omega)) (show (k + 1) < 40 by omega) rfl ?_
      refine ex_if_eq (pc := 17) (tgt := 36) d_RF_takeEnd_17 rfl (fun c17 => ?_) (fun c17 => ?_)
      · refine ex_iinc (pc := 36) (v := (nI k)) d_RF_takeEnd_36 rfl (by rw [← nI_s k, Int32.add_assoc]; exact (show nI k + (nI 1 + Int32.ofInt (-1)) = nI k by rw [show nI 1 + Int32.ofInt (-1) = 0 by decide, Int32.add_zero])) (by decide) ?_
        refine ex_goto (pc := 39) (tgt := 7) d_RF_takeEnd_39 rfl ?_
        exact ih _ (by omega) (by rw [if_neg (by rw [decide_eq_false (fun z => z c17), Bool.false_and]; decide)] at hv; exact hv)
      · refine ex_aload_n (pc := 20) (i := 0) d_RF_takeEnd_20 rfl rfl ?_
        refine ex_getr (pc := 21) 12 17 d_RF_takeEnd_21 FL_RF_53 (Nat.le_of_ble_eq_true rfl) rfl rfl ?_
        refine ex_iload_n (pc := 24) (i := 2) d_RF_takeEnd_24 rfl rfl ?_
        refine ex_ialdx (pc := 25) (k + 1) (iv 107 (k + 1)) d_RF_takeEnd_25 (Nat.le_of_ble_eq_true rfl) rfl rfl rfl (nI_t (by omega)) (show (k + 1) < 40 by omega) rfl ?_
        refine ex_aload_n (pc := 26) (i := 0) d_RF_takeEnd_26 rfl rfl ?_
        refine ex_iload_n (pc := 27) (i := 1) d_RF_takeEnd_27 rfl rfl ?_
        refine ex_iconst (pc := 28) (v := (nI 2)) d_RF_takeEnd_28 (by decide) ?_
        refine ex_iadd (pc := 29) d_RF_takeEnd_29 ?_
        refine ex_top (nI_add p9 2) ?_
        refine ex_callV (pc := 30) (M' := M_RF_charAt) (as := [.int (nI (p9 + 2))]) (st := [.int (iv 107 (k + 1))]) d_RF_takeEnd_30 MW_RF_charAt MI_RF_charAt LK_RF_191 (Nat.le_of_ble_eq_true rfl) rfl rfl rfl (ct_RF_charAt l G iv mp sp mo (nI (p9 + 2)) (tx_b hA)) (ex_lt_rm (by decide)) ⟨Nat.le_refl _, Nat.le_refl _⟩ rfl rfl (Nat.le_of_ble_eq_true rfl) ?_
        rintro _ _ ⟨rfl, rfl⟩
        refine ex_top (ch_lt hA (show p9 + 2 < n by omega)) ?_
        refine ex_icmp_eq (pc := 33) (tgt := 42) d_RF_takeEnd_33 rfl (fun c33 => ?_) (fun c33 => ?_)
        · rw [if_pos (by rw [decide_eq_true c17, decide_eq_true c33]; rfl)] at hv
          subst hv
          exact lt_RF_takeEnd l G iv mp sp mo a n hA p9 hp cn nf h16 hcn h29 hnf hto (k + 1) (by omega) _
        · refine ex_iinc (pc := 36) (v := (nI k)) d_RF_takeEnd_36 rfl (by rw [← nI_s k, Int32.add_assoc]; exact (show nI k + (nI 1 + Int32.ofInt (-1)) = nI k by rw [show nI 1 + Int32.ofInt (-1) = 0 by decide, Int32.add_zero])) (by decide) ?_
          refine ex_goto (pc := 39) (tgt := 7) d_RF_takeEnd_39 rfl ?_
          exact ih _ (by omega) (by rw [if_neg (by rw [decide_eq_false c33, Bool.and_false]; decide)] at hv; exact hv)

set_option maxRecDepth 100000 in
set_option maxHeartbeats 4000000 in
theorem ct_RF_takeEnd (l : Launch) (G : ex_G) (iv : Nat → Nat → Int32) (mp : Nat → Nat) (sp mo : Nat) (a : Nat → Int32) (n : Nat) (hA : TxR iv a n) (p9 : Nat) (hp : p9 < n) (cn nf : Nat) (h16 : iv 92 16 = nI (cn + 1)) (hcn : cn < 39) (h29 : iv 92 29 = nI nf) (hnf : nf + cn < 399) (hto : p9 + 4 ≤ n) : CT l G 2 M_RF_takeEnd [.ref 92, .int (nI p9)] (HP iv mp sp mo) 0 0 (fun r h' => r = none ∧ ((insD (fun q => decide (¬ iv 115 q = 0) && decide (iv 107 q = a (p9 + 2))) cn) = 0 → h' = HP (rfFlt iv nf (nI 3) (nI p9)) mp sp mo) ∧ (¬ (insD (fun q => decide (¬ iv 115 q = 0) && decide (iv 107 q = a (p9 + 2))) cn) = 0 → h' = HP (rfMk (rfE4 (rcl (nI p9) (cn - (insD (fun q => decide (¬ iv 115 q = 0) && decide (iv 107 q = a (p9 + 2))) cn)) ((insD (fun q => decide (¬ iv 115 q = 0) && decide (iv 107 q = a (p9 + 2))) cn) + 1) (nf, iv)).2 (insD (fun q => decide (¬ iv 115 q = 0) && decide (iv 107 q = a (p9 + 2))) cn) (nI p9) (nI (p9 + 4))) p9 (p9 + 4) (p9 + 4) (nI (insD (fun q => decide (¬ iv 115 q = 0) && decide (iv 107 q = a (p9 + 2))) cn))) mp sp mo)) := by
  refine ex_enter (by decide) (Nat.le_of_ble_eq_true rfl) (fun v hv => by simp at hv; rcases hv with rfl | rfl <;> rfl) (fun p e s m args below meth c => ?_)
  refine ex_aload_n (pc := 0) (i := 0) d_RF_takeEnd_0 rfl rfl ?_
  refine ex_getx (pc := 1) 12 16 (nI (cn + 1)) d_RF_takeEnd_1 FL_RF_185 (Nat.le_of_ble_eq_true rfl) rfl h16 ?_
  refine ex_iconst (pc := 4) (v := (nI 1)) d_RF_takeEnd_4 (by decide) ?_
  refine ex_isub (pc := 5) d_RF_takeEnd_5 ?_
  refine ex_top (pk_sub (show 1 ≤ cn + 1 by omega)) ?_
  refine ex_istore_n (pc := 6) (i := 2) d_RF_takeEnd_6 rfl (by decide) ?_
  exact lp_RF_takeEnd l G iv mp sp mo a n hA p9 hp cn nf h16 hcn h29 hnf hto _ cn _ (Nat.le_refl _) rfl

