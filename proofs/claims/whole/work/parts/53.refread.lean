/-! the reference reads a draft: parts, marks, the machine -/
def rxI (iv : Nat → Nat → Int32) (R : RS) : Nat → Nat → Int32 := fun a k =>
  if a = 102 ∧ k < 14 then b2i (R.P k).1 else if a = 103 ∧ k < 14 then (R.P k).2.1 else if a = 104 ∧ k < 14 then (R.P k).2.2.1 else if a = 105 ∧ k < 14 then b2i (R.P k).2.2.2
  else if a = 101 ∧ 90 ≤ k ∧ k < 100 then R.fo (k - 90) else if a = 100 ∧ 90 ≤ k ∧ k < 100 then R.nm (k - 90) else iv a k
section RXI
variable {iv : Nat → Nat → Int32} {R : RS}
theorem rx_so {t : Nat} (h : t < 14) : rxI iv R 102 t = b2i (R.P t).1 := by
  unfold rxI
  rw [if_pos ⟨rfl, h⟩]
theorem rx_fi {t : Nat} (h : t < 14) : rxI iv R 103 t = (R.P t).2.1 := by
  unfold rxI
  rw [if_neg (by omega), if_pos ⟨rfl, h⟩]
theorem rx_la {t : Nat} (h : t < 14) : rxI iv R 104 t = (R.P t).2.2.1 := by
  unfold rxI
  rw [if_neg (by omega), if_neg (by omega), if_pos ⟨rfl, h⟩]
theorem rx_em {t : Nat} (h : t < 14) : rxI iv R 105 t = b2i (R.P t).2.2.2 := by
  unfold rxI
  rw [if_neg (by omega), if_neg (by omega), if_neg (by omega), if_pos ⟨rfl, h⟩]
theorem rx_o {q k : Nat} (h : q < 100 ∨ 105 < q) : rxI iv R q k = iv q k := by
  unfold rxI
  rw [if_neg (by omega), if_neg (by omega), if_neg (by omega), if_neg (by omega), if_neg (by omega), if_neg (by omega)]
theorem rxW_set {t : Nat} (ht : t < 14) (b1 : Bool) (f g : Int32) (b2 : Bool) : rfSet (rxI iv R) t b1 f g b2 = rxI iv (R.lv, R.n, va_up R.P t (b1, f, g, b2), R.fo, R.nm) := by
  funext q k
  unfold rfSet rxI ex_u2
  show _ = (if q = 102 ∧ k < 14 then b2i (va_up R.P t (b1, f, g, b2) k).1 else if q = 103 ∧ k < 14 then (va_up R.P t (b1, f, g, b2) k).2.1 else if q = 104 ∧ k < 14 then (va_up R.P t (b1, f, g, b2) k).2.2.1 else if q = 105 ∧ k < 14 then b2i (va_up R.P t (b1, f, g, b2) k).2.2.2 else if q = 101 ∧ 90 ≤ k ∧ k < 100 then R.fo (k - 90) else if q = 100 ∧ 90 ≤ k ∧ k < 100 then R.nm (k - 90) else iv q k)
  by_cases hk : k = t
  · subst hk
    rw [va_up_self]
    by_cases h1 : q = 105
    · subst h1
      simp [ht]
    · by_cases h2 : q = 104
      · subst h2
        simp [ht]
      · by_cases h3 : q = 103
        · subst h3
          simp [ht]
        · by_cases h4 : q = 102
          · subst h4
            simp [ht]
          · simp [h1, h2, h3, h4]
  · rw [va_up_ne _ _ hk]
    simp only [hk, and_false, if_false]
theorem rxW_lk (x y : Int32) : va_up (rxI iv R) 101 (lkF (rxI iv R 101) x y 10) = rxI iv (R.lv, R.n, R.P, lkP R.fo x y, R.nm) := by
  funext q k
  by_cases h : q = 101
  · subst h
    rw [va_up_self]
    unfold lkF
    have e1 : ∀ R' : RS, rxI iv R' 101 k = if 90 ≤ k ∧ k < 100 then R'.fo (k - 90) else iv 101 k := by
      intro R'
      unfold rxI
      rw [if_neg (by omega), if_neg (by omega), if_neg (by omega), if_neg (by omega)]
      by_cases hk : 90 ≤ k ∧ k < 100
      · rw [if_pos ⟨rfl, hk⟩, if_pos hk]
      · rw [if_neg (fun z => hk z.2), if_neg (by omega), if_neg hk]
    rw [e1 R, e1 (R.lv, R.n, R.P, lkP R.fo x y, R.nm)]
    by_cases hk : 90 ≤ k ∧ k < 100
    · rw [if_pos hk, if_pos hk]
      show _ = (if k - 90 < 10 ∧ x >>> (nI (k - 90) &&& 31) &&& nI 1 = nI 1 then R.fo (k - 90) ||| y else R.fo (k - 90))
      by_cases hb : x >>> (nI (k - 90) &&& 31) &&& nI 1 = nI 1
      · rw [if_pos ⟨hk.1, by omega, hb⟩, if_pos ⟨by omega, hb⟩]
      · rw [if_neg (fun z => hb z.2.2), if_neg (fun z => hb z.2)]
    · rw [if_neg hk, if_neg hk, if_neg (by omega)]
  · rw [va_up_ne _ _ h]
    unfold rxI
    have h' : ¬ (q = 101 ∧ 90 ≤ k ∧ k < 100) := fun z => h z.1
    simp only [if_neg h']
    rfl
theorem rxW_nm {t : Nat} (ht : t < 10) (v : Int32) : ex_u2 (rxI iv R) 100 (90 + t) v = rxI iv (R.lv, R.n, R.P, R.fo, va_up R.nm t v) := by
  funext q k
  unfold ex_u2
  by_cases h : q = 100 ∧ k = 90 + t
  · rw [if_pos h, h.1, h.2]
    unfold rxI
    rw [if_neg (by omega), if_neg (by omega), if_neg (by omega), if_neg (by omega), if_neg (by omega), if_pos ⟨rfl, by omega, by omega⟩]
    show v = va_up R.nm t v (90 + t - 90)
    rw [show 90 + t - 90 = t by omega, va_up_self]
  · rw [if_neg h]
    unfold rxI
    by_cases h2 : q = 100 ∧ 90 ≤ k ∧ k < 100
    · rw [if_neg (by omega), if_neg (by omega), if_neg (by omega), if_neg (by omega), if_neg (by omega), if_pos h2, if_neg (by omega), if_neg (by omega), if_neg (by omega), if_neg (by omega), if_neg (by omega), if_pos h2]
      show R.nm (k - 90) = va_up R.nm t v (k - 90)
      rw [va_up_ne _ _ (by omega)]
    · simp only [if_neg h2]
      rfl
end RXI
theorem nI_mul (a b : Nat) : nI a * nI b = nI (a * b) := nI_mul8 a b
set_option maxRecDepth 100000 in
set_option maxHeartbeats 4000000 in
theorem ct_RF_append (l : Launch) (G : ex_G) (iv : Nat → Nat → Int32) (mp : Nat → Nat) (sp mo : Nat) (R : RS) (t : Nat) (ht : t < 14) (f g : Int32) (eB : Bool) : CT l G 1 M_RF_append [.ref 92, .int (nI t), .int f, .int g, .int (b2i eB)] (HP (rxI iv R) mp sp mo) 0 0 (fun r h' => h' = HP (rxI iv (R.lv, R.n, va_up R.P t (apQ (R.P t) f g eB), apFo (R.P t) R.fo f, R.nm)) mp sp mo ∧ r = none) := by
  refine ex_enter (by decide) (Nat.le_of_ble_eq_true rfl) (fun v hv => by simp at hv; rcases hv with rfl | rfl | rfl | rfl | rfl <;> rfl) (fun p e s m args below meth c => ?_)
  refine ex_aload_n (pc := 0) (i := 0) d_RF_append_0 rfl rfl ?_
  refine ex_getr (pc := 1) 12 10 d_RF_append_1 FL_RF_38 (Nat.le_of_ble_eq_true rfl) rfl rfl ?_
  refine ex_iload_n (pc := 4) (i := 1) d_RF_append_4 rfl rfl ?_
  refine ex_zaldx (pc := 5) t (b2i (R.P t).1) d_RF_append_5 (Nat.le_of_ble_eq_true rfl) rfl rfl rfl (nI_t (by omega)) (show t < 14 by omega) (rx_so ht) ?_
  refine ex_if_ne (pc := 6) (tgt := 20) d_RF_append_6 rfl (fun c6 => ?_) (fun c6 => ?_)
  · refine ex_aload_n (pc := 20) (i := 0) d_RF_append_20 rfl rfl ?_
    refine ex_aload_n (pc := 21) (i := 0) d_RF_append_21 rfl rfl ?_
    refine ex_getr (pc := 22) 12 12 d_RF_append_22 FL_RF_44 (Nat.le_of_ble_eq_true rfl) rfl rfl ?_
    refine ex_iload_n (pc := 25) (i := 1) d_RF_append_25 rfl rfl ?_
    refine ex_ialdx (pc := 26) t (R.P t).2.2.1 d_RF_append_26 (Nat.le_of_ble_eq_true rfl) rfl rfl rfl (nI_t (by omega)) (show t < 14 by omega) (rx_la ht) ?_
    refine ex_iload_n (pc := 27) (i := 2) d_RF_append_27 rfl rfl ?_
    refine ex_callV (pc := 28) (M' := M_RF_link) (as := [.int (R.P t).2.2.1, .int f]) (st := []) d_RF_append_28 MW_RF_link MI_RF_link LK_RF_135 (Nat.le_of_ble_eq_true rfl) rfl rfl rfl (ct_RF_link l G (rxI iv R) mp sp mo (R.P t).2.2.1 f) (ex_lt_rm (by decide)) ⟨Nat.le_refl _, Nat.le_refl _⟩ rfl rfl (Nat.le_of_ble_eq_true rfl) ?_
    rintro _ _ ⟨rfl, rfl⟩
    refine ex_heap (congrArg (fun z => HP z mp sp mo) (rxW_lk (R.P t).2.2.1 f)) ?_
    refine ex_aload_n (pc := 31) (i := 0) d_RF_append_31 rfl rfl ?_
    refine ex_getr (pc := 32) 12 13 d_RF_append_32 FL_RF_47 (Nat.le_of_ble_eq_true rfl) rfl rfl ?_
    refine ex_iload_n (pc := 35) (i := 1) d_RF_append_35 rfl rfl ?_
    refine ex_zaldx (pc := 36) t (b2i (R.P t).2.2.2) d_RF_append_36 (Nat.le_of_ble_eq_true rfl) rfl rfl rfl (nI_t (by omega)) (show t < 14 by omega) (rx_em ht) ?_
    refine ex_if_eq (pc := 37) (tgt := 51) d_RF_append_37 rfl (fun c37 => ?_) (fun c37 => ?_)
    · refine ex_aload_n (pc := 51) (i := 0) d_RF_append_51 rfl rfl ?_
      refine ex_getr (pc := 52) 12 11 d_RF_append_52 FL_RF_41 (Nat.le_of_ble_eq_true rfl) rfl rfl ?_
      refine ex_iload_n (pc := 55) (i := 1) d_RF_append_55 rfl rfl ?_
      refine ex_ialdx (pc := 56) t (R.P t).2.1 d_RF_append_56 (Nat.le_of_ble_eq_true rfl) rfl rfl rfl (nI_t (by omega)) (show t < 14 by omega) (rx_fi ht) ?_
      refine ex_istore (pc := 57) d_RF_append_57 (by decide) ?_
      refine ex_iload (pc := 59) d_RF_append_59 rfl ?_
      refine ex_if_eq (pc := 61) (tgt := 75) d_RF_append_61 rfl (fun c61 => ?_) (fun c61 => ?_)
      · refine ex_iload_n (pc := 75) (i := 3) d_RF_append_75 rfl rfl ?_
        refine ex_istore (pc := 76) d_RF_append_76 (by decide) ?_
        refine ex_aload_n (pc := 78) (i := 0) d_RF_append_78 rfl rfl ?_
        refine ex_iload_n (pc := 79) (i := 1) d_RF_append_79 rfl rfl ?_
        refine ex_iconst (pc := 80) (v := (nI 1)) d_RF_append_80 (by decide) ?_
        refine ex_iload (pc := 81) d_RF_append_81 rfl ?_
        refine ex_iload (pc := 83) d_RF_append_83 rfl ?_
        refine ex_aload_n (pc := 85) (i := 0) d_RF_append_85 rfl rfl ?_
        refine ex_getr (pc := 86) 12 13 d_RF_append_86 FL_RF_47 (Nat.le_of_ble_eq_true rfl) rfl rfl ?_
        refine ex_iload_n (pc := 89) (i := 1) d_RF_append_89 rfl rfl ?_
        refine ex_zaldx (pc := 90) t (b2i (R.P t).2.2.2) d_RF_append_90 (Nat.le_of_ble_eq_true rfl) rfl rfl rfl (nI_t (by omega)) (show t < 14 by omega) (rx_em ht) ?_
        refine ex_if_eq (pc := 91) (tgt := 103) d_RF_append_91 rfl (fun c91 => ?_) (fun c91 => ?_)
        · refine ex_iconst (pc := 103) (v := (nI 0)) d_RF_append_103 (by decide) ?_
          refine ex_callV (pc := 104) (M' := M_RF_setPart) (as := [.int (nI t), .int (nI 1), .int (R.P t).2.1, .int g, .int (nI 0)]) (st := []) d_RF_append_104 MW_RF_setPart MI_RF_setPart LK_RF_131 (Nat.le_of_ble_eq_true rfl) rfl rfl rfl (ct_RF_setPart l G (rxI iv (R.lv, R.n, R.P, lkP R.fo (R.P t).2.2.1 f, R.nm)) mp sp mo t ht true (R.P t).2.1 g false) (ex_lt_rm (by decide)) ⟨Nat.le_refl _, Nat.le_refl _⟩ rfl rfl (Nat.le_of_ble_eq_true rfl) ?_
          rintro _ _ ⟨rfl, rfl⟩
          refine ex_heap (congrArg (fun z => HP z mp sp mo) (rxW_set ht _ _ _ _)) ?_
          refine ex_vret d_RF_append_107 rfl rfl (Nat.le_refl _) ?_
          have k0 := b2i_1 c6
          have k1 := b2i_0 c37
          have k2 := b2i_0 c61
          exact ⟨by unfold apQ apFo; rw [k0, k1, k2]; rfl, rfl⟩
        · exact absurd c37 c91
      · refine ex_aload_n (pc := 64) (i := 0) d_RF_append_64 rfl rfl ?_
        refine ex_getr (pc := 65) 12 12 d_RF_append_65 FL_RF_44 (Nat.le_of_ble_eq_true rfl) rfl rfl ?_
        refine ex_iload_n (pc := 68) (i := 1) d_RF_append_68 rfl rfl ?_
        refine ex_ialdx (pc := 69) t (R.P t).2.2.1 d_RF_append_69 (Nat.le_of_ble_eq_true rfl) rfl rfl rfl (nI_t (by omega)) (show t < 14 by omega) (rx_la ht) ?_
        refine ex_iload_n (pc := 70) (i := 3) d_RF_append_70 rfl rfl ?_
        refine ex_ior (pc := 71) d_RF_append_71 ?_
        refine ex_goto (pc := 72) (tgt := 76) d_RF_append_72 rfl ?_
        refine ex_istore (pc := 76) d_RF_append_76 (by decide) ?_
        refine ex_aload_n (pc := 78) (i := 0) d_RF_append_78 rfl rfl ?_
        refine ex_iload_n (pc := 79) (i := 1) d_RF_append_79 rfl rfl ?_
        refine ex_iconst (pc := 80) (v := (nI 1)) d_RF_append_80 (by decide) ?_
        refine ex_iload (pc := 81) d_RF_append_81 rfl ?_
        refine ex_iload (pc := 83) d_RF_append_83 rfl ?_
        refine ex_aload_n (pc := 85) (i := 0) d_RF_append_85 rfl rfl ?_
        refine ex_getr (pc := 86) 12 13 d_RF_append_86 FL_RF_47 (Nat.le_of_ble_eq_true rfl) rfl rfl ?_
        refine ex_iload_n (pc := 89) (i := 1) d_RF_append_89 rfl rfl ?_
        refine ex_zaldx (pc := 90) t (b2i (R.P t).2.2.2) d_RF_append_90 (Nat.le_of_ble_eq_true rfl) rfl rfl rfl (nI_t (by omega)) (show t < 14 by omega) (rx_em ht) ?_
        refine ex_if_eq (pc := 91) (tgt := 103) d_RF_append_91 rfl (fun c91 => ?_) (fun c91 => ?_)
        · refine ex_iconst (pc := 103) (v := (nI 0)) d_RF_append_103 (by decide) ?_
          refine ex_callV (pc := 104) (M' := M_RF_setPart) (as := [.int (nI t), .int (nI 1), .int (R.P t).2.1, .int ((R.P t).2.2.1 ||| g), .int (nI 0)]) (st := []) d_RF_append_104 MW_RF_setPart MI_RF_setPart LK_RF_131 (Nat.le_of_ble_eq_true rfl) rfl rfl rfl (ct_RF_setPart l G (rxI iv (R.lv, R.n, R.P, lkP R.fo (R.P t).2.2.1 f, R.nm)) mp sp mo t ht true (R.P t).2.1 ((R.P t).2.2.1 ||| g) false) (ex_lt_rm (by decide)) ⟨Nat.le_refl _, Nat.le_refl _⟩ rfl rfl (Nat.le_of_ble_eq_true rfl) ?_
          rintro _ _ ⟨rfl, rfl⟩
          refine ex_heap (congrArg (fun z => HP z mp sp mo) (rxW_set ht _ _ _ _)) ?_
          refine ex_vret d_RF_append_107 rfl rfl (Nat.le_refl _) ?_
          have k0 := b2i_1 c6
          have k1 := b2i_0 c37
          have k2 := b2i_1 c61
          exact ⟨by unfold apQ apFo; rw [k0, k1, k2]; rfl, rfl⟩
        · exact absurd c37 c91
    · refine ex_aload_n (pc := 40) (i := 0) d_RF_append_40 rfl rfl ?_
      refine ex_getr (pc := 41) 12 11 d_RF_append_41 FL_RF_41 (Nat.le_of_ble_eq_true rfl) rfl rfl ?_
      refine ex_iload_n (pc := 44) (i := 1) d_RF_append_44 rfl rfl ?_
      refine ex_ialdx (pc := 45) t (R.P t).2.1 d_RF_append_45 (Nat.le_of_ble_eq_true rfl) rfl rfl rfl (nI_t (by omega)) (show t < 14 by omega) (rx_fi ht) ?_
      refine ex_iload_n (pc := 46) (i := 2) d_RF_append_46 rfl rfl ?_
      refine ex_ior (pc := 47) d_RF_append_47 ?_
      refine ex_goto (pc := 48) (tgt := 57) d_RF_append_48 rfl ?_
      refine ex_istore (pc := 57) d_RF_append_57 (by decide) ?_
      refine ex_iload (pc := 59) d_RF_append_59 rfl ?_
      refine ex_if_eq (pc := 61) (tgt := 75) d_RF_append_61 rfl (fun c61 => ?_) (fun c61 => ?_)
      · refine ex_iload_n (pc := 75) (i := 3) d_RF_append_75 rfl rfl ?_
        refine ex_istore (pc := 76) d_RF_append_76 (by decide) ?_
        refine ex_aload_n (pc := 78) (i := 0) d_RF_append_78 rfl rfl ?_
        refine ex_iload_n (pc := 79) (i := 1) d_RF_append_79 rfl rfl ?_
        refine ex_iconst (pc := 80) (v := (nI 1)) d_RF_append_80 (by decide) ?_
        refine ex_iload (pc := 81) d_RF_append_81 rfl ?_
        refine ex_iload (pc := 83) d_RF_append_83 rfl ?_
        refine ex_aload_n (pc := 85) (i := 0) d_RF_append_85 rfl rfl ?_
        refine ex_getr (pc := 86) 12 13 d_RF_append_86 FL_RF_47 (Nat.le_of_ble_eq_true rfl) rfl rfl ?_
        refine ex_iload_n (pc := 89) (i := 1) d_RF_append_89 rfl rfl ?_
        refine ex_zaldx (pc := 90) t (b2i (R.P t).2.2.2) d_RF_append_90 (Nat.le_of_ble_eq_true rfl) rfl rfl rfl (nI_t (by omega)) (show t < 14 by omega) (rx_em ht) ?_
        refine ex_if_eq (pc := 91) (tgt := 103) d_RF_append_91 rfl (fun c91 => ?_) (fun c91 => ?_)
        · exact absurd c91 c37
        · refine ex_iload (pc := 94) d_RF_append_94 rfl ?_
          refine ex_if_eq (pc := 96) (tgt := 103) d_RF_append_96 rfl (fun c96 => ?_) (fun c96 => ?_)
          · refine ex_iconst (pc := 103) (v := (nI 0)) d_RF_append_103 (by decide) ?_
            refine ex_callV (pc := 104) (M' := M_RF_setPart) (as := [.int (nI t), .int (nI 1), .int ((R.P t).2.1 ||| f), .int g, .int (nI 0)]) (st := []) d_RF_append_104 MW_RF_setPart MI_RF_setPart LK_RF_131 (Nat.le_of_ble_eq_true rfl) rfl rfl rfl (ct_RF_setPart l G (rxI iv (R.lv, R.n, R.P, lkP R.fo (R.P t).2.2.1 f, R.nm)) mp sp mo t ht true ((R.P t).2.1 ||| f) g false) (ex_lt_rm (by decide)) ⟨Nat.le_refl _, Nat.le_refl _⟩ rfl rfl (Nat.le_of_ble_eq_true rfl) ?_
            rintro _ _ ⟨rfl, rfl⟩
            refine ex_heap (congrArg (fun z => HP z mp sp mo) (rxW_set ht _ _ _ _)) ?_
            refine ex_vret d_RF_append_107 rfl rfl (Nat.le_refl _) ?_
            have k0 := b2i_1 c6
            have k1 := b2i_1 c37
            have k2 := b2i_0 c61
            exact ⟨by unfold apQ apFo; rw [k0, k1, k2]; rfl, rfl⟩
          · exact absurd c61 c96
      · refine ex_aload_n (pc := 64) (i := 0) d_RF_append_64 rfl rfl ?_
        refine ex_getr (pc := 65) 12 12 d_RF_append_65 FL_RF_44 (Nat.le_of_ble_eq_true rfl) rfl rfl ?_
        refine ex_iload_n (pc := 68) (i := 1) d_RF_append_68 rfl rfl ?_
        refine ex_ialdx (pc := 69) t (R.P t).2.2.1 d_RF_append_69 (Nat.le_of_ble_eq_true rfl) rfl rfl rfl (nI_t (by omega)) (show t < 14 by omega) (rx_la ht) ?_
        refine ex_iload_n (pc := 70) (i := 3) d_RF_append_70 rfl rfl ?_
        refine ex_ior (pc := 71) d_RF_append_71 ?_
        refine ex_goto (pc := 72) (tgt := 76) d_RF_append_72 rfl ?_
        refine ex_istore (pc := 76) d_RF_append_76 (by decide) ?_
        refine ex_aload_n (pc := 78) (i := 0) d_RF_append_78 rfl rfl ?_
        refine ex_iload_n (pc := 79) (i := 1) d_RF_append_79 rfl rfl ?_
        refine ex_iconst (pc := 80) (v := (nI 1)) d_RF_append_80 (by decide) ?_
        refine ex_iload (pc := 81) d_RF_append_81 rfl ?_
        refine ex_iload (pc := 83) d_RF_append_83 rfl ?_
        refine ex_aload_n (pc := 85) (i := 0) d_RF_append_85 rfl rfl ?_
        refine ex_getr (pc := 86) 12 13 d_RF_append_86 FL_RF_47 (Nat.le_of_ble_eq_true rfl) rfl rfl ?_
        refine ex_iload_n (pc := 89) (i := 1) d_RF_append_89 rfl rfl ?_
        refine ex_zaldx (pc := 90) t (b2i (R.P t).2.2.2) d_RF_append_90 (Nat.le_of_ble_eq_true rfl) rfl rfl rfl (nI_t (by omega)) (show t < 14 by omega) (rx_em ht) ?_
        refine ex_if_eq (pc := 91) (tgt := 103) d_RF_append_91 rfl (fun c91 => ?_) (fun c91 => ?_)
        · exact absurd c91 c37
        · refine ex_iload (pc := 94) d_RF_append_94 rfl ?_
          refine ex_if_eq (pc := 96) (tgt := 103) d_RF_append_96 rfl (fun c96 => ?_) (fun c96 => ?_)
          · exact absurd c96 c61
          · refine ex_iconst (pc := 99) (v := (nI 1)) d_RF_append_99 (by decide) ?_
            refine ex_goto (pc := 100) (tgt := 104) d_RF_append_100 rfl ?_
            refine ex_callV (pc := 104) (M' := M_RF_setPart) (as := [.int (nI t), .int (nI 1), .int ((R.P t).2.1 ||| f), .int ((R.P t).2.2.1 ||| g), .int (nI 1)]) (st := []) d_RF_append_104 MW_RF_setPart MI_RF_setPart LK_RF_131 (Nat.le_of_ble_eq_true rfl) rfl rfl rfl (ct_RF_setPart l G (rxI iv (R.lv, R.n, R.P, lkP R.fo (R.P t).2.2.1 f, R.nm)) mp sp mo t ht true ((R.P t).2.1 ||| f) ((R.P t).2.2.1 ||| g) true) (ex_lt_rm (by decide)) ⟨Nat.le_refl _, Nat.le_refl _⟩ rfl rfl (Nat.le_of_ble_eq_true rfl) ?_
            rintro _ _ ⟨rfl, rfl⟩
            refine ex_heap (congrArg (fun z => HP z mp sp mo) (rxW_set ht _ _ _ _)) ?_
            refine ex_vret d_RF_append_107 rfl rfl (Nat.le_refl _) ?_
            have k0 := b2i_1 c6
            have k1 := b2i_1 c37
            have k2 := b2i_1 c61
            exact ⟨by unfold apQ apFo; rw [k0, k1, k2]; rfl, rfl⟩
  · refine ex_aload_n (pc := 9) (i := 0) d_RF_append_9 rfl rfl ?_
    refine ex_iload_n (pc := 10) (i := 1) d_RF_append_10 rfl rfl ?_
    refine ex_iconst (pc := 11) (v := (nI 1)) d_RF_append_11 (by decide) ?_
    refine ex_iload_n (pc := 12) (i := 2) d_RF_append_12 rfl rfl ?_
    refine ex_iload_n (pc := 13) (i := 3) d_RF_append_13 rfl rfl ?_
    refine ex_iload (pc := 14) d_RF_append_14 rfl ?_
    refine ex_callV (pc := 16) (M' := M_RF_setPart) (as := [.int (nI t), .int (nI 1), .int f, .int g, .int (b2i eB)]) (st := []) d_RF_append_16 MW_RF_setPart MI_RF_setPart LK_RF_131 (Nat.le_of_ble_eq_true rfl) rfl rfl rfl (ct_RF_setPart l G (rxI iv R) mp sp mo t ht true f g eB) (ex_lt_rm (by decide)) ⟨Nat.le_refl _, Nat.le_refl _⟩ rfl rfl (Nat.le_of_ble_eq_true rfl) ?_
    rintro _ _ ⟨rfl, rfl⟩
    refine ex_heap (congrArg (fun z => HP z mp sp mo) (rxW_set ht true f g eB)) ?_
    refine ex_vret d_RF_append_19 rfl rfl (Nat.le_refl _) ?_
    exact ⟨by unfold apQ apFo; rw [b2i_0 c6]; rfl, rfl⟩

set_option maxRecDepth 100000 in
set_option maxHeartbeats 4000000 in
theorem ct_RF_choose (l : Launch) (G : ex_G) (iv : Nat → Nat → Int32) (mp : Nat → Nat) (sp mo : Nat) (R : RS) (L : Nat) (hL : L ≤ 6) : CT l G 1 M_RF_choose [.ref 92, .int (nI L)] (HP (rxI iv R) mp sp mo) 0 0 (fun r h' => h' = HP (rxI iv (R.lv, R.n, chPs R.P L, R.fo, R.nm)) mp sp mo ∧ r = none) := by
  refine ex_enter (by decide) (Nat.le_of_ble_eq_true rfl) (fun v hv => by simp at hv; rcases hv with rfl | rfl <;> rfl) (fun p e s m args below meth c => ?_)
  refine ex_iconst (pc := 0) (v := (nI 2)) d_RF_choose_0 (by decide) ?_
  refine ex_iload_n (pc := 1) (i := 1) d_RF_choose_1 rfl rfl ?_
  refine ex_imul (pc := 2) d_RF_choose_2 ?_
  refine ex_top (nI_mul 2 L) ?_
  refine ex_istore_n (pc := 3) (i := 2) d_RF_choose_3 rfl (by decide) ?_
  refine ex_iload_n (pc := 4) (i := 2) d_RF_choose_4 rfl rfl ?_
  refine ex_iconst (pc := 5) (v := (nI 1)) d_RF_choose_5 (by decide) ?_
  refine ex_iadd (pc := 6) d_RF_choose_6 ?_
  refine ex_top (nI_s (2 * L)) ?_
  refine ex_istore_n (pc := 7) (i := 3) d_RF_choose_7 rfl (by decide) ?_
  refine ex_aload_n (pc := 8) (i := 0) d_RF_choose_8 rfl rfl ?_
  refine ex_getr (pc := 9) 12 10 d_RF_choose_9 FL_RF_38 (Nat.le_of_ble_eq_true rfl) rfl rfl ?_
  refine ex_iload_n (pc := 12) (i := 2) d_RF_choose_12 rfl rfl ?_
  refine ex_zaldx (pc := 13) (2 * L) (b2i (R.P (2 * L)).1) d_RF_choose_13 (Nat.le_of_ble_eq_true rfl) rfl rfl rfl (nI_t (by omega)) (show (2 * L) < 14 by omega) (rx_so (by omega)) ?_
  refine ex_istore (pc := 14) d_RF_choose_14 (by decide) ?_
  refine ex_iload (pc := 16) d_RF_choose_16 rfl ?_
  refine ex_if_eq (pc := 18) (tgt := 30) d_RF_choose_18 rfl (fun c18 => ?_) (fun c18 => ?_)
  · refine ex_aload_n (pc := 30) (i := 0) d_RF_choose_30 rfl rfl ?_
    refine ex_getr (pc := 31) 12 13 d_RF_choose_31 FL_RF_47 (Nat.le_of_ble_eq_true rfl) rfl rfl ?_
    refine ex_iload_n (pc := 34) (i := 3) d_RF_choose_34 rfl rfl ?_
    refine ex_zaldx (pc := 35) (2 * L + 1) (b2i (R.P (2 * L + 1)).2.2.2) d_RF_choose_35 (Nat.le_of_ble_eq_true rfl) rfl rfl rfl (nI_t (by omega)) (show (2 * L + 1) < 14 by omega) (rx_em (by omega)) ?_
    refine ex_if_eq (pc := 36) (tgt := 43) d_RF_choose_36 rfl (fun c36 => ?_) (fun c36 => ?_)
    · refine ex_iconst (pc := 43) (v := (nI 0)) d_RF_choose_43 (by decide) ?_
      refine ex_istore (pc := 44) d_RF_choose_44 (by decide) ?_
      refine ex_iload (pc := 46) d_RF_choose_46 rfl ?_
      refine ex_if_eq (pc := 48) (tgt := 67) d_RF_choose_48 rfl (fun c48 => ?_) (fun c48 => ?_)
      · refine ex_aload_n (pc := 67) (i := 0) d_RF_choose_67 rfl rfl ?_
        refine ex_getr (pc := 68) 12 11 d_RF_choose_68 FL_RF_41 (Nat.le_of_ble_eq_true rfl) rfl rfl ?_
        refine ex_iload_n (pc := 71) (i := 3) d_RF_choose_71 rfl rfl ?_
        refine ex_ialdx (pc := 72) (2 * L + 1) (R.P (2 * L + 1)).2.1 d_RF_choose_72 (Nat.le_of_ble_eq_true rfl) rfl rfl rfl (nI_t (by omega)) (show (2 * L + 1) < 14 by omega) (rx_fi (by omega)) ?_
        refine ex_istore (pc := 73) d_RF_choose_73 (by decide) ?_
        refine ex_iload (pc := 75) d_RF_choose_75 rfl ?_
        refine ex_if_eq (pc := 77) (tgt := 96) d_RF_choose_77 rfl (fun c77 => ?_) (fun c77 => ?_)
        · refine ex_aload_n (pc := 96) (i := 0) d_RF_choose_96 rfl rfl ?_
          refine ex_getr (pc := 97) 12 12 d_RF_choose_97 FL_RF_44 (Nat.le_of_ble_eq_true rfl) rfl rfl ?_
          refine ex_iload_n (pc := 100) (i := 3) d_RF_choose_100 rfl rfl ?_
          refine ex_ialdx (pc := 101) (2 * L + 1) (R.P (2 * L + 1)).2.2.1 d_RF_choose_101 (Nat.le_of_ble_eq_true rfl) rfl rfl rfl (nI_t (by omega)) (show (2 * L + 1) < 14 by omega) (rx_la (by omega)) ?_
          refine ex_istore (pc := 102) d_RF_choose_102 (by decide) ?_
          refine ex_aload_n (pc := 104) (i := 0) d_RF_choose_104 rfl rfl ?_
          refine ex_iload_n (pc := 105) (i := 2) d_RF_choose_105 rfl rfl ?_
          refine ex_iconst (pc := 106) (v := (nI 1)) d_RF_choose_106 (by decide) ?_
          refine ex_iload (pc := 107) d_RF_choose_107 rfl ?_
          refine ex_iload (pc := 109) d_RF_choose_109 rfl ?_
          refine ex_iload (pc := 111) d_RF_choose_111 rfl ?_
          refine ex_callV (pc := 113) (M' := M_RF_setPart) (as := [.int (nI (2 * L)), .int (nI 1), .int (R.P (2 * L + 1)).2.1, .int (R.P (2 * L + 1)).2.2.1, .int (nI 0)]) (st := []) d_RF_choose_113 MW_RF_setPart MI_RF_setPart LK_RF_131 (Nat.le_of_ble_eq_true rfl) rfl rfl rfl (ct_RF_setPart l G (rxI iv R) mp sp mo (2 * L) (by omega) true (R.P (2 * L + 1)).2.1 (R.P (2 * L + 1)).2.2.1 false) (ex_lt_rm (by decide)) ⟨Nat.le_refl _, Nat.le_refl _⟩ rfl rfl (Nat.le_of_ble_eq_true rfl) ?_
          rintro _ _ ⟨rfl, rfl⟩
          refine ex_heap (congrArg (fun z => HP z mp sp mo) (rxW_set (by omega) _ _ _ _)) ?_
          refine ex_aload_n (pc := 116) (i := 0) d_RF_choose_116 rfl rfl ?_
          refine ex_iload_n (pc := 117) (i := 3) d_RF_choose_117 rfl rfl ?_
          refine ex_iconst (pc := 118) (v := (nI 0)) d_RF_choose_118 (by decide) ?_
          refine ex_iconst (pc := 119) (v := (nI 0)) d_RF_choose_119 (by decide) ?_
          refine ex_iconst (pc := 120) (v := (nI 0)) d_RF_choose_120 (by decide) ?_
          refine ex_iconst (pc := 121) (v := (nI 0)) d_RF_choose_121 (by decide) ?_
          refine ex_callV (pc := 122) (M' := M_RF_setPart) (as := [.int (nI (2 * L + 1)), .int (nI 0), .int (nI 0), .int (nI 0), .int (nI 0)]) (st := []) d_RF_choose_122 MW_RF_setPart MI_RF_setPart LK_RF_131 (Nat.le_of_ble_eq_true rfl) rfl rfl rfl (ct_RF_setPart l G _ mp sp mo (2 * L + 1) (by omega) false (nI 0) (nI 0) false) (ex_lt_rm (by decide)) ⟨Nat.le_refl _, Nat.le_refl _⟩ rfl rfl (Nat.le_of_ble_eq_true rfl) ?_
          rintro _ _ ⟨rfl, rfl⟩
          refine ex_heap (congrArg (fun z => HP z mp sp mo) (rxW_set (by omega) _ _ _ _)) ?_
          refine ex_vret d_RF_choose_125 rfl rfl (Nat.le_refl _) ?_
          have k0 := b2i_0 c18
          have k36 := b2i_0 c36
          exact ⟨by unfold chPs chQ; rw [k0, k36]; rfl, rfl⟩
        · exact absurd c18 c77
      · exact absurd c18 c48
    · refine ex_iconst (pc := 39) (v := (nI 1)) d_RF_choose_39 (by decide) ?_
      refine ex_goto (pc := 40) (tgt := 44) d_RF_choose_40 rfl ?_
      refine ex_istore (pc := 44) d_RF_choose_44 (by decide) ?_
      refine ex_iload (pc := 46) d_RF_choose_46 rfl ?_
      refine ex_if_eq (pc := 48) (tgt := 67) d_RF_choose_48 rfl (fun c48 => ?_) (fun c48 => ?_)
      · refine ex_aload_n (pc := 67) (i := 0) d_RF_choose_67 rfl rfl ?_
        refine ex_getr (pc := 68) 12 11 d_RF_choose_68 FL_RF_41 (Nat.le_of_ble_eq_true rfl) rfl rfl ?_
        refine ex_iload_n (pc := 71) (i := 3) d_RF_choose_71 rfl rfl ?_
        refine ex_ialdx (pc := 72) (2 * L + 1) (R.P (2 * L + 1)).2.1 d_RF_choose_72 (Nat.le_of_ble_eq_true rfl) rfl rfl rfl (nI_t (by omega)) (show (2 * L + 1) < 14 by omega) (rx_fi (by omega)) ?_
        refine ex_istore (pc := 73) d_RF_choose_73 (by decide) ?_
        refine ex_iload (pc := 75) d_RF_choose_75 rfl ?_
        refine ex_if_eq (pc := 77) (tgt := 96) d_RF_choose_77 rfl (fun c77 => ?_) (fun c77 => ?_)
        · refine ex_aload_n (pc := 96) (i := 0) d_RF_choose_96 rfl rfl ?_
          refine ex_getr (pc := 97) 12 12 d_RF_choose_97 FL_RF_44 (Nat.le_of_ble_eq_true rfl) rfl rfl ?_
          refine ex_iload_n (pc := 100) (i := 3) d_RF_choose_100 rfl rfl ?_
          refine ex_ialdx (pc := 101) (2 * L + 1) (R.P (2 * L + 1)).2.2.1 d_RF_choose_101 (Nat.le_of_ble_eq_true rfl) rfl rfl rfl (nI_t (by omega)) (show (2 * L + 1) < 14 by omega) (rx_la (by omega)) ?_
          refine ex_istore (pc := 102) d_RF_choose_102 (by decide) ?_
          refine ex_aload_n (pc := 104) (i := 0) d_RF_choose_104 rfl rfl ?_
          refine ex_iload_n (pc := 105) (i := 2) d_RF_choose_105 rfl rfl ?_
          refine ex_iconst (pc := 106) (v := (nI 1)) d_RF_choose_106 (by decide) ?_
          refine ex_iload (pc := 107) d_RF_choose_107 rfl ?_
          refine ex_iload (pc := 109) d_RF_choose_109 rfl ?_
          refine ex_iload (pc := 111) d_RF_choose_111 rfl ?_
          refine ex_callV (pc := 113) (M' := M_RF_setPart) (as := [.int (nI (2 * L)), .int (nI 1), .int (R.P (2 * L + 1)).2.1, .int (R.P (2 * L + 1)).2.2.1, .int (nI 1)]) (st := []) d_RF_choose_113 MW_RF_setPart MI_RF_setPart LK_RF_131 (Nat.le_of_ble_eq_true rfl) rfl rfl rfl (ct_RF_setPart l G (rxI iv R) mp sp mo (2 * L) (by omega) true (R.P (2 * L + 1)).2.1 (R.P (2 * L + 1)).2.2.1 true) (ex_lt_rm (by decide)) ⟨Nat.le_refl _, Nat.le_refl _⟩ rfl rfl (Nat.le_of_ble_eq_true rfl) ?_
          rintro _ _ ⟨rfl, rfl⟩
          refine ex_heap (congrArg (fun z => HP z mp sp mo) (rxW_set (by omega) _ _ _ _)) ?_
          refine ex_aload_n (pc := 116) (i := 0) d_RF_choose_116 rfl rfl ?_
          refine ex_iload_n (pc := 117) (i := 3) d_RF_choose_117 rfl rfl ?_
          refine ex_iconst (pc := 118) (v := (nI 0)) d_RF_choose_118 (by decide) ?_
          refine ex_iconst (pc := 119) (v := (nI 0)) d_RF_choose_119 (by decide) ?_
          refine ex_iconst (pc := 120) (v := (nI 0)) d_RF_choose_120 (by decide) ?_
          refine ex_iconst (pc := 121) (v := (nI 0)) d_RF_choose_121 (by decide) ?_
          refine ex_callV (pc := 122) (M' := M_RF_setPart) (as := [.int (nI (2 * L + 1)), .int (nI 0), .int (nI 0), .int (nI 0), .int (nI 0)]) (st := []) d_RF_choose_122 MW_RF_setPart MI_RF_setPart LK_RF_131 (Nat.le_of_ble_eq_true rfl) rfl rfl rfl (ct_RF_setPart l G _ mp sp mo (2 * L + 1) (by omega) false (nI 0) (nI 0) false) (ex_lt_rm (by decide)) ⟨Nat.le_refl _, Nat.le_refl _⟩ rfl rfl (Nat.le_of_ble_eq_true rfl) ?_
          rintro _ _ ⟨rfl, rfl⟩
          refine ex_heap (congrArg (fun z => HP z mp sp mo) (rxW_set (by omega) _ _ _ _)) ?_
          refine ex_vret d_RF_choose_125 rfl rfl (Nat.le_refl _) ?_
          have k0 := b2i_0 c18
          have k36 := b2i_1 c36
          exact ⟨by unfold chPs chQ; rw [k0, k36]; rfl, rfl⟩
        · exact absurd c18 c77
      · exact absurd c18 c48
  · refine ex_aload_n (pc := 21) (i := 0) d_RF_choose_21 rfl rfl ?_
    refine ex_getr (pc := 22) 12 13 d_RF_choose_22 FL_RF_47 (Nat.le_of_ble_eq_true rfl) rfl rfl ?_
    refine ex_iload_n (pc := 25) (i := 2) d_RF_choose_25 rfl rfl ?_
    refine ex_zaldx (pc := 26) (2 * L) (b2i (R.P (2 * L)).2.2.2) d_RF_choose_26 (Nat.le_of_ble_eq_true rfl) rfl rfl rfl (nI_t (by omega)) (show (2 * L) < 14 by omega) (rx_em (by omega)) ?_
    refine ex_if_ne (pc := 27) (tgt := 39) d_RF_choose_27 rfl (fun c27 => ?_) (fun c27 => ?_)
    · refine ex_iconst (pc := 39) (v := (nI 1)) d_RF_choose_39 (by decide) ?_
      refine ex_goto (pc := 40) (tgt := 44) d_RF_choose_40 rfl ?_
      refine ex_istore (pc := 44) d_RF_choose_44 (by decide) ?_
      refine ex_iload (pc := 46) d_RF_choose_46 rfl ?_
      refine ex_if_eq (pc := 48) (tgt := 67) d_RF_choose_48 rfl (fun c48 => ?_) (fun c48 => ?_)
      · exact absurd c48 c18
      · refine ex_aload_n (pc := 51) (i := 0) d_RF_choose_51 rfl rfl ?_
        refine ex_getr (pc := 52) 12 11 d_RF_choose_52 FL_RF_41 (Nat.le_of_ble_eq_true rfl) rfl rfl ?_
        refine ex_iload_n (pc := 55) (i := 2) d_RF_choose_55 rfl rfl ?_
        refine ex_ialdx (pc := 56) (2 * L) (R.P (2 * L)).2.1 d_RF_choose_56 (Nat.le_of_ble_eq_true rfl) rfl rfl rfl (nI_t (by omega)) (show (2 * L) < 14 by omega) (rx_fi (by omega)) ?_
        refine ex_aload_n (pc := 57) (i := 0) d_RF_choose_57 rfl rfl ?_
        refine ex_getr (pc := 58) 12 11 d_RF_choose_58 FL_RF_41 (Nat.le_of_ble_eq_true rfl) rfl rfl ?_
        refine ex_iload_n (pc := 61) (i := 3) d_RF_choose_61 rfl rfl ?_
        refine ex_ialdx (pc := 62) (2 * L + 1) (R.P (2 * L + 1)).2.1 d_RF_choose_62 (Nat.le_of_ble_eq_true rfl) rfl rfl rfl (nI_t (by omega)) (show (2 * L + 1) < 14 by omega) (rx_fi (by omega)) ?_
        refine ex_ior (pc := 63) d_RF_choose_63 ?_
        refine ex_goto (pc := 64) (tgt := 73) d_RF_choose_64 rfl ?_
        refine ex_istore (pc := 73) d_RF_choose_73 (by decide) ?_
        refine ex_iload (pc := 75) d_RF_choose_75 rfl ?_
        refine ex_if_eq (pc := 77) (tgt := 96) d_RF_choose_77 rfl (fun c77 => ?_) (fun c77 => ?_)
        · exact absurd c77 c18
        · refine ex_aload_n (pc := 80) (i := 0) d_RF_choose_80 rfl rfl ?_
          refine ex_getr (pc := 81) 12 12 d_RF_choose_81 FL_RF_44 (Nat.le_of_ble_eq_true rfl) rfl rfl ?_
          refine ex_iload_n (pc := 84) (i := 2) d_RF_choose_84 rfl rfl ?_
          refine ex_ialdx (pc := 85) (2 * L) (R.P (2 * L)).2.2.1 d_RF_choose_85 (Nat.le_of_ble_eq_true rfl) rfl rfl rfl (nI_t (by omega)) (show (2 * L) < 14 by omega) (rx_la (by omega)) ?_
          refine ex_aload_n (pc := 86) (i := 0) d_RF_choose_86 rfl rfl ?_
          refine ex_getr (pc := 87) 12 12 d_RF_choose_87 FL_RF_44 (Nat.le_of_ble_eq_true rfl) rfl rfl ?_
          refine ex_iload_n (pc := 90) (i := 3) d_RF_choose_90 rfl rfl ?_
          refine ex_ialdx (pc := 91) (2 * L + 1) (R.P (2 * L + 1)).2.2.1 d_RF_choose_91 (Nat.le_of_ble_eq_true rfl) rfl rfl rfl (nI_t (by omega)) (show (2 * L + 1) < 14 by omega) (rx_la (by omega)) ?_
          refine ex_ior (pc := 92) d_RF_choose_92 ?_
          refine ex_goto (pc := 93) (tgt := 102) d_RF_choose_93 rfl ?_
          refine ex_istore (pc := 102) d_RF_choose_102 (by decide) ?_
          refine ex_aload_n (pc := 104) (i := 0) d_RF_choose_104 rfl rfl ?_
          refine ex_iload_n (pc := 105) (i := 2) d_RF_choose_105 rfl rfl ?_
          refine ex_iconst (pc := 106) (v := (nI 1)) d_RF_choose_106 (by decide) ?_
          refine ex_iload (pc := 107) d_RF_choose_107 rfl ?_
          refine ex_iload (pc := 109) d_RF_choose_109 rfl ?_
          refine ex_iload (pc := 111) d_RF_choose_111 rfl ?_
          refine ex_callV (pc := 113) (M' := M_RF_setPart) (as := [.int (nI (2 * L)), .int (nI 1), .int ((R.P (2 * L)).2.1 ||| (R.P (2 * L + 1)).2.1), .int ((R.P (2 * L)).2.2.1 ||| (R.P (2 * L + 1)).2.2.1), .int (nI 1)]) (st := []) d_RF_choose_113 MW_RF_setPart MI_RF_setPart LK_RF_131 (Nat.le_of_ble_eq_true rfl) rfl rfl rfl (ct_RF_setPart l G (rxI iv R) mp sp mo (2 * L) (by omega) true ((R.P (2 * L)).2.1 ||| (R.P (2 * L + 1)).2.1) ((R.P (2 * L)).2.2.1 ||| (R.P (2 * L + 1)).2.2.1) true) (ex_lt_rm (by decide)) ⟨Nat.le_refl _, Nat.le_refl _⟩ rfl rfl (Nat.le_of_ble_eq_true rfl) ?_
          rintro _ _ ⟨rfl, rfl⟩
          refine ex_heap (congrArg (fun z => HP z mp sp mo) (rxW_set (by omega) _ _ _ _)) ?_
          refine ex_aload_n (pc := 116) (i := 0) d_RF_choose_116 rfl rfl ?_
          refine ex_iload_n (pc := 117) (i := 3) d_RF_choose_117 rfl rfl ?_
          refine ex_iconst (pc := 118) (v := (nI 0)) d_RF_choose_118 (by decide) ?_
          refine ex_iconst (pc := 119) (v := (nI 0)) d_RF_choose_119 (by decide) ?_
          refine ex_iconst (pc := 120) (v := (nI 0)) d_RF_choose_120 (by decide) ?_
          refine ex_iconst (pc := 121) (v := (nI 0)) d_RF_choose_121 (by decide) ?_
          refine ex_callV (pc := 122) (M' := M_RF_setPart) (as := [.int (nI (2 * L + 1)), .int (nI 0), .int (nI 0), .int (nI 0), .int (nI 0)]) (st := []) d_RF_choose_122 MW_RF_setPart MI_RF_setPart LK_RF_131 (Nat.le_of_ble_eq_true rfl) rfl rfl rfl (ct_RF_setPart l G _ mp sp mo (2 * L + 1) (by omega) false (nI 0) (nI 0) false) (ex_lt_rm (by decide)) ⟨Nat.le_refl _, Nat.le_refl _⟩ rfl rfl (Nat.le_of_ble_eq_true rfl) ?_
          rintro _ _ ⟨rfl, rfl⟩
          refine ex_heap (congrArg (fun z => HP z mp sp mo) (rxW_set (by omega) _ _ _ _)) ?_
          refine ex_vret d_RF_choose_125 rfl rfl (Nat.le_refl _) ?_
          have k0 := b2i_1 c18
          have k27 := b2i_1 c27
          exact ⟨by unfold chPs chQ; rw [k0, k27]; rfl, rfl⟩
    · refine ex_aload_n (pc := 30) (i := 0) d_RF_choose_30 rfl rfl ?_
      refine ex_getr (pc := 31) 12 13 d_RF_choose_31 FL_RF_47 (Nat.le_of_ble_eq_true rfl) rfl rfl ?_
      refine ex_iload_n (pc := 34) (i := 3) d_RF_choose_34 rfl rfl ?_
      refine ex_zaldx (pc := 35) (2 * L + 1) (b2i (R.P (2 * L + 1)).2.2.2) d_RF_choose_35 (Nat.le_of_ble_eq_true rfl) rfl rfl rfl (nI_t (by omega)) (show (2 * L + 1) < 14 by omega) (rx_em (by omega)) ?_
      refine ex_if_eq (pc := 36) (tgt := 43) d_RF_choose_36 rfl (fun c36 => ?_) (fun c36 => ?_)
      · refine ex_iconst (pc := 43) (v := (nI 0)) d_RF_choose_43 (by decide) ?_
        refine ex_istore (pc := 44) d_RF_choose_44 (by decide) ?_
        refine ex_iload (pc := 46) d_RF_choose_46 rfl ?_
        refine ex_if_eq (pc := 48) (tgt := 67) d_RF_choose_48 rfl (fun c48 => ?_) (fun c48 => ?_)
        · exact absurd c48 c18
        · refine ex_aload_n (pc := 51) (i := 0) d_RF_choose_51 rfl rfl ?_
          refine ex_getr (pc := 52) 12 11 d_RF_choose_52 FL_RF_41 (Nat.le_of_ble_eq_true rfl) rfl rfl ?_
          refine ex_iload_n (pc := 55) (i := 2) d_RF_choose_55 rfl rfl ?_
          refine ex_ialdx (pc := 56) (2 * L) (R.P (2 * L)).2.1 d_RF_choose_56 (Nat.le_of_ble_eq_true rfl) rfl rfl rfl (nI_t (by omega)) (show (2 * L) < 14 by omega) (rx_fi (by omega)) ?_
          refine ex_aload_n (pc := 57) (i := 0) d_RF_choose_57 rfl rfl ?_
          refine ex_getr (pc := 58) 12 11 d_RF_choose_58 FL_RF_41 (Nat.le_of_ble_eq_true rfl) rfl rfl ?_
          refine ex_iload_n (pc := 61) (i := 3) d_RF_choose_61 rfl rfl ?_
          refine ex_ialdx (pc := 62) (2 * L + 1) (R.P (2 * L + 1)).2.1 d_RF_choose_62 (Nat.le_of_ble_eq_true rfl) rfl rfl rfl (nI_t (by omega)) (show (2 * L + 1) < 14 by omega) (rx_fi (by omega)) ?_
          refine ex_ior (pc := 63) d_RF_choose_63 ?_
          refine ex_goto (pc := 64) (tgt := 73) d_RF_choose_64 rfl ?_
          refine ex_istore (pc := 73) d_RF_choose_73 (by decide) ?_
          refine ex_iload (pc := 75) d_RF_choose_75 rfl ?_
          refine ex_if_eq (pc := 77) (tgt := 96) d_RF_choose_77 rfl (fun c77 => ?_) (fun c77 => ?_)
          · exact absurd c77 c18
          · refine ex_aload_n (pc := 80) (i := 0) d_RF_choose_80 rfl rfl ?_
            refine ex_getr (pc := 81) 12 12 d_RF_choose_81 FL_RF_44 (Nat.le_of_ble_eq_true rfl) rfl rfl ?_
            refine ex_iload_n (pc := 84) (i := 2) d_RF_choose_84 rfl rfl ?_
            refine ex_ialdx (pc := 85) (2 * L) (R.P (2 * L)).2.2.1 d_RF_choose_85 (Nat.le_of_ble_eq_true rfl) rfl rfl rfl (nI_t (by omega)) (show (2 * L) < 14 by omega) (rx_la (by omega)) ?_
            refine ex_aload_n (pc := 86) (i := 0) d_RF_choose_86 rfl rfl ?_
            refine ex_getr (pc := 87) 12 12 d_RF_choose_87 FL_RF_44 (Nat.le_of_ble_eq_true rfl) rfl rfl ?_
            refine ex_iload_n (pc := 90) (i := 3) d_RF_choose_90 rfl rfl ?_
            refine ex_ialdx (pc := 91) (2 * L + 1) (R.P (2 * L + 1)).2.2.1 d_RF_choose_91 (Nat.le_of_ble_eq_true rfl) rfl rfl rfl (nI_t (by omega)) (show (2 * L + 1) < 14 by omega) (rx_la (by omega)) ?_
            refine ex_ior (pc := 92) d_RF_choose_92 ?_
            refine ex_goto (pc := 93) (tgt := 102) d_RF_choose_93 rfl ?_
            refine ex_istore (pc := 102) d_RF_choose_102 (by decide) ?_
            refine ex_aload_n (pc := 104) (i := 0) d_RF_choose_104 rfl rfl ?_
            refine ex_iload_n (pc := 105) (i := 2) d_RF_choose_105 rfl rfl ?_
            refine ex_iconst (pc := 106) (v := (nI 1)) d_RF_choose_106 (by decide) ?_
            refine ex_iload (pc := 107) d_RF_choose_107 rfl ?_
            refine ex_iload (pc := 109) d_RF_choose_109 rfl ?_
            refine ex_iload (pc := 111) d_RF_choose_111 rfl ?_
            refine ex_callV (pc := 113) (M' := M_RF_setPart) (as := [.int (nI (2 * L)), .int (nI 1), .int ((R.P (2 * L)).2.1 ||| (R.P (2 * L + 1)).2.1), .int ((R.P (2 * L)).2.2.1 ||| (R.P (2 * L + 1)).2.2.1), .int (nI 0)]) (st := []) d_RF_choose_113 MW_RF_setPart MI_RF_setPart LK_RF_131 (Nat.le_of_ble_eq_true rfl) rfl rfl rfl (ct_RF_setPart l G (rxI iv R) mp sp mo (2 * L) (by omega) true ((R.P (2 * L)).2.1 ||| (R.P (2 * L + 1)).2.1) ((R.P (2 * L)).2.2.1 ||| (R.P (2 * L + 1)).2.2.1) false) (ex_lt_rm (by decide)) ⟨Nat.le_refl _, Nat.le_refl _⟩ rfl rfl (Nat.le_of_ble_eq_true rfl) ?_
            rintro _ _ ⟨rfl, rfl⟩
            refine ex_heap (congrArg (fun z => HP z mp sp mo) (rxW_set (by omega) _ _ _ _)) ?_
            refine ex_aload_n (pc := 116) (i := 0) d_RF_choose_116 rfl rfl ?_
            refine ex_iload_n (pc := 117) (i := 3) d_RF_choose_117 rfl rfl ?_
            refine ex_iconst (pc := 118) (v := (nI 0)) d_RF_choose_118 (by decide) ?_
            refine ex_iconst (pc := 119) (v := (nI 0)) d_RF_choose_119 (by decide) ?_
            refine ex_iconst (pc := 120) (v := (nI 0)) d_RF_choose_120 (by decide) ?_
            refine ex_iconst (pc := 121) (v := (nI 0)) d_RF_choose_121 (by decide) ?_
            refine ex_callV (pc := 122) (M' := M_RF_setPart) (as := [.int (nI (2 * L + 1)), .int (nI 0), .int (nI 0), .int (nI 0), .int (nI 0)]) (st := []) d_RF_choose_122 MW_RF_setPart MI_RF_setPart LK_RF_131 (Nat.le_of_ble_eq_true rfl) rfl rfl rfl (ct_RF_setPart l G _ mp sp mo (2 * L + 1) (by omega) false (nI 0) (nI 0) false) (ex_lt_rm (by decide)) ⟨Nat.le_refl _, Nat.le_refl _⟩ rfl rfl (Nat.le_of_ble_eq_true rfl) ?_
            rintro _ _ ⟨rfl, rfl⟩
            refine ex_heap (congrArg (fun z => HP z mp sp mo) (rxW_set (by omega) _ _ _ _)) ?_
            refine ex_vret d_RF_choose_125 rfl rfl (Nat.le_refl _) ?_
            have k0 := b2i_1 c18
            have k27 := b2i_0 c27
            have k36 := b2i_0 c36
            exact ⟨by unfold chPs chQ; rw [k0, k27, k36]; rfl, rfl⟩
      · refine ex_iconst (pc := 39) (v := (nI 1)) d_RF_choose_39 (by decide) ?_
        refine ex_goto (pc := 40) (tgt := 44) d_RF_choose_40 rfl ?_
        refine ex_istore (pc := 44) d_RF_choose_44 (by decide) ?_
        refine ex_iload (pc := 46) d_RF_choose_46 rfl ?_
        refine ex_if_eq (pc := 48) (tgt := 67) d_RF_choose_48 rfl (fun c48 => ?_) (fun c48 => ?_)
        · exact absurd c48 c18
        · refine ex_aload_n (pc := 51) (i := 0) d_RF_choose_51 rfl rfl ?_
          refine ex_getr (pc := 52) 12 11 d_RF_choose_52 FL_RF_41 (Nat.le_of_ble_eq_true rfl) rfl rfl ?_
          refine ex_iload_n (pc := 55) (i := 2) d_RF_choose_55 rfl rfl ?_
          refine ex_ialdx (pc := 56) (2 * L) (R.P (2 * L)).2.1 d_RF_choose_56 (Nat.le_of_ble_eq_true rfl) rfl rfl rfl (nI_t (by omega)) (show (2 * L) < 14 by omega) (rx_fi (by omega)) ?_
          refine ex_aload_n (pc := 57) (i := 0) d_RF_choose_57 rfl rfl ?_
          refine ex_getr (pc := 58) 12 11 d_RF_choose_58 FL_RF_41 (Nat.le_of_ble_eq_true rfl) rfl rfl ?_
          refine ex_iload_n (pc := 61) (i := 3) d_RF_choose_61 rfl rfl ?_
          refine ex_ialdx (pc := 62) (2 * L + 1) (R.P (2 * L + 1)).2.1 d_RF_choose_62 (Nat.le_of_ble_eq_true rfl) rfl rfl rfl (nI_t (by omega)) (show (2 * L + 1) < 14 by omega) (rx_fi (by omega)) ?_
          refine ex_ior (pc := 63) d_RF_choose_63 ?_
          refine ex_goto (pc := 64) (tgt := 73) d_RF_choose_64 rfl ?_
          refine ex_istore (pc := 73) d_RF_choose_73 (by decide) ?_
          refine ex_iload (pc := 75) d_RF_choose_75 rfl ?_
          refine ex_if_eq (pc := 77) (tgt := 96) d_RF_choose_77 rfl (fun c77 => ?_) (fun c77 => ?_)
          · exact absurd c77 c18
          · refine ex_aload_n (pc := 80) (i := 0) d_RF_choose_80 rfl rfl ?_
            refine ex_getr (pc := 81) 12 12 d_RF_choose_81 FL_RF_44 (Nat.le_of_ble_eq_true rfl) rfl rfl ?_
            refine ex_iload_n (pc := 84) (i := 2) d_RF_choose_84 rfl rfl ?_
            refine ex_ialdx (pc := 85) (2 * L) (R.P (2 * L)).2.2.1 d_RF_choose_85 (Nat.le_of_ble_eq_true rfl) rfl rfl rfl (nI_t (by omega)) (show (2 * L) < 14 by omega) (rx_la (by omega)) ?_
            refine ex_aload_n (pc := 86) (i := 0) d_RF_choose_86 rfl rfl ?_
            refine ex_getr (pc := 87) 12 12 d_RF_choose_87 FL_RF_44 (Nat.le_of_ble_eq_true rfl) rfl rfl ?_
            refine ex_iload_n (pc := 90) (i := 3) d_RF_choose_90 rfl rfl ?_
            refine ex_ialdx (pc := 91) (2 * L + 1) (R.P (2 * L + 1)).2.2.1 d_RF_choose_91 (Nat.le_of_ble_eq_true rfl) rfl rfl rfl (nI_t (by omega)) (show (2 * L + 1) < 14 by omega) (rx_la (by omega)) ?_
            refine ex_ior (pc := 92) d_RF_choose_92 ?_
            refine ex_goto (pc := 93) (tgt := 102) d_RF_choose_93 rfl ?_
            refine ex_istore (pc := 102) d_RF_choose_102 (by decide) ?_
            refine ex_aload_n (pc := 104) (i := 0) d_RF_choose_104 rfl rfl ?_
            refine ex_iload_n (pc := 105) (i := 2) d_RF_choose_105 rfl rfl ?_
            refine ex_iconst (pc := 106) (v := (nI 1)) d_RF_choose_106 (by decide) ?_
            refine ex_iload (pc := 107) d_RF_choose_107 rfl ?_
            refine ex_iload (pc := 109) d_RF_choose_109 rfl ?_
            refine ex_iload (pc := 111) d_RF_choose_111 rfl ?_
            refine ex_callV (pc := 113) (M' := M_RF_setPart) (as := [.int (nI (2 * L)), .int (nI 1), .int ((R.P (2 * L)).2.1 ||| (R.P (2 * L + 1)).2.1), .int ((R.P (2 * L)).2.2.1 ||| (R.P (2 * L + 1)).2.2.1), .int (nI 1)]) (st := []) d_RF_choose_113 MW_RF_setPart MI_RF_setPart LK_RF_131 (Nat.le_of_ble_eq_true rfl) rfl rfl rfl (ct_RF_setPart l G (rxI iv R) mp sp mo (2 * L) (by omega) true ((R.P (2 * L)).2.1 ||| (R.P (2 * L + 1)).2.1) ((R.P (2 * L)).2.2.1 ||| (R.P (2 * L + 1)).2.2.1) true) (ex_lt_rm (by decide)) ⟨Nat.le_refl _, Nat.le_refl _⟩ rfl rfl (Nat.le_of_ble_eq_true rfl) ?_
            rintro _ _ ⟨rfl, rfl⟩
            refine ex_heap (congrArg (fun z => HP z mp sp mo) (rxW_set (by omega) _ _ _ _)) ?_
            refine ex_aload_n (pc := 116) (i := 0) d_RF_choose_116 rfl rfl ?_
            refine ex_iload_n (pc := 117) (i := 3) d_RF_choose_117 rfl rfl ?_
            refine ex_iconst (pc := 118) (v := (nI 0)) d_RF_choose_118 (by decide) ?_
            refine ex_iconst (pc := 119) (v := (nI 0)) d_RF_choose_119 (by decide) ?_
            refine ex_iconst (pc := 120) (v := (nI 0)) d_RF_choose_120 (by decide) ?_
            refine ex_iconst (pc := 121) (v := (nI 0)) d_RF_choose_121 (by decide) ?_
            refine ex_callV (pc := 122) (M' := M_RF_setPart) (as := [.int (nI (2 * L + 1)), .int (nI 0), .int (nI 0), .int (nI 0), .int (nI 0)]) (st := []) d_RF_choose_122 MW_RF_setPart MI_RF_setPart LK_RF_131 (Nat.le_of_ble_eq_true rfl) rfl rfl rfl (ct_RF_setPart l G _ mp sp mo (2 * L + 1) (by omega) false (nI 0) (nI 0) false) (ex_lt_rm (by decide)) ⟨Nat.le_refl _, Nat.le_refl _⟩ rfl rfl (Nat.le_of_ble_eq_true rfl) ?_
            rintro _ _ ⟨rfl, rfl⟩
            refine ex_heap (congrArg (fun z => HP z mp sp mo) (rxW_set (by omega) _ _ _ _)) ?_
            refine ex_vret d_RF_choose_125 rfl rfl (Nat.le_refl _) ?_
            have k0 := b2i_1 c18
            have k27 := b2i_0 c27
            have k36 := b2i_1 c36
            exact ⟨by unfold chPs chQ; rw [k0, k27, k36]; rfl, rfl⟩

def rxN (iv : Nat → Nat → Int32) : Nat → Nat → Int32 := ex_u2 (ex_u2 (ex_u2 (ex_u2 iv 99 9 (nI 0)) 96 9 (nI 0)) 97 9 (nI 0)) 98 9 (nI 1)
set_option maxRecDepth 100000 in
set_option maxHeartbeats 4000000 in
theorem ct_RF_readNothing (l : Launch) (G : ex_G) (iv : Nat → Nat → Int32) (mp : Nat → Nat) (sp mo : Nat) : CT l G 0 M_RF_readNothing [.ref 92] (HP iv mp sp mo) 0 0 (fun r h' => h' = HP (rxN iv) mp sp mo ∧ r = none) := by
  refine ex_enter (by decide) (Nat.le_of_ble_eq_true rfl) (fun v hv => by simp at hv; rcases hv with rfl <;> rfl) (fun p e s m args below meth c => ?_)
  refine ex_aload_n (pc := 0) (i := 0) d_RF_readNothing_0 rfl rfl ?_
  refine ex_getr (pc := 1) 12 7 d_RF_readNothing_1 FL_RF_29 (Nat.le_of_ble_eq_true rfl) rfl rfl ?_
  refine ex_bipush (pc := 4) (v := (nI 9)) d_RF_readNothing_4 (by decide) ?_
  refine ex_iconst (pc := 6) (v := (nI 0)) d_RF_readNothing_6 (by decide) ?_
  refine ex_iast (pc := 7) 9 d_RF_readNothing_7 (Nat.le_of_ble_eq_true rfl) rfl rfl rfl (nI_t (by omega)) (show 9 < 10 by omega) ?_
  refine ex_aload_n (pc := 8) (i := 0) d_RF_readNothing_8 rfl rfl ?_
  refine ex_getr (pc := 9) 12 4 d_RF_readNothing_9 FL_RF_20 (Nat.le_of_ble_eq_true rfl) rfl rfl ?_
  refine ex_bipush (pc := 12) (v := (nI 9)) d_RF_readNothing_12 (by decide) ?_
  refine ex_iconst (pc := 14) (v := (nI 0)) d_RF_readNothing_14 (by decide) ?_
  refine ex_iast (pc := 15) 9 d_RF_readNothing_15 (Nat.le_of_ble_eq_true rfl) rfl rfl rfl (nI_t (by omega)) (show 9 < 10 by omega) ?_
  refine ex_aload_n (pc := 16) (i := 0) d_RF_readNothing_16 rfl rfl ?_
  refine ex_getr (pc := 17) 12 5 d_RF_readNothing_17 FL_RF_23 (Nat.le_of_ble_eq_true rfl) rfl rfl ?_
  refine ex_bipush (pc := 20) (v := (nI 9)) d_RF_readNothing_20 (by decide) ?_
  refine ex_iconst (pc := 22) (v := (nI 0)) d_RF_readNothing_22 (by decide) ?_
  refine ex_iast (pc := 23) 9 d_RF_readNothing_23 (Nat.le_of_ble_eq_true rfl) rfl rfl rfl (nI_t (by omega)) (show 9 < 10 by omega) ?_
  refine ex_aload_n (pc := 24) (i := 0) d_RF_readNothing_24 rfl rfl ?_
  refine ex_getr (pc := 25) 12 6 d_RF_readNothing_25 FL_RF_26 (Nat.le_of_ble_eq_true rfl) rfl rfl ?_
  refine ex_bipush (pc := 28) (v := (nI 9)) d_RF_readNothing_28 (by decide) ?_
  refine ex_iconst (pc := 30) (v := (nI 1)) d_RF_readNothing_30 (by decide) ?_
  refine ex_zast (pc := 31) 9 d_RF_readNothing_31 (Nat.le_of_ble_eq_true rfl) rfl rfl rfl (nI_t (by omega)) (show 9 < 10 by omega) ?_
  refine ex_vret d_RF_readNothing_32 rfl rfl (Nat.le_refl _) ?_
  exact ⟨rfl, rfl⟩

/-- the reference's draft: n characters f -/
def DrR (iv : Nat → Nat → Int32) (n : Nat) (f : Nat → Int32) : Prop := n ≤ 40 ∧ iv 92 0 = nI n ∧ ∀ k, k < n → iv 93 k = f k
theorem dr_b {iv : Nat → Nat → Int32} {n : Nat} {f : Nat → Int32} (h : DrR iv n f) : (iv 92 0).toInt ≤ ((40 : Nat) : Int) := by
  have := h.1
  rw [h.2.1, nI_t (by omega)]
  omega
theorem dr_at {iv : Nat → Nat → Int32} {n p : Nat} {f : Nat → Int32} (h : DrR iv n f) (hp : p < n) : gAt0 (iv 92 0) (iv 93) (nI p) = dCh f n p := by
  have := h.1
  unfold gAt0 dCh
  rw [h.2.1, nI_t (by omega), nI_t (by omega), if_pos (by omega), if_pos hp]
  exact h.2.2 p hp
theorem nI_0t {p : Nat} (h : p ≤ 1000) : 0 ≤ (nI p).toInt := by
  rw [nI_t (by omega)]
  omega
theorem lv_dn {L : Nat} (h : 0 < L) (hl : L ≤ 1000) : nI L + (-1) = nI (L - 1) := by
  have e : nI L = nI (L - 1) + nI 1 := by rw [nI_s, show L - 1 + 1 = L by omega]
  rw [e]
  have z : nI 1 + (-1) = 0 := by decide
  rw [Int32.add_assoc, z, Int32.add_zero]
theorem vp_b (b : Bool) : vp_nar .boolean (b2i b) = b2i b := by cases b <;> decide
def lvD (L : Nat) : Int32 := if L = 0 then -1 else nI (L - 1)
theorem lvD_e {L : Nat} (h : L ≤ 1000) : nI L + Int32.ofInt (-1) = lvD L := by
  unfold lvD
  by_cases h0 : L = 0
  · rw [if_pos h0, h0]
    decide
  · rw [if_neg h0]
    exact lv_dn (by omega) h
theorem lvD_p {L : Nat} (h : 0 ≤ lvD L) : ¬ L = 0 := by
  intro z
  rw [z] at h
  exact absurd h (by decide)
theorem lvD_m {L : Nat} (hl : L ≤ 1000) (h : ¬ 0 ≤ lvD L) : L = 0 := by
  refine Classical.byContradiction (fun z => h ?_)
  unfold lvD
  rw [if_neg z]
  exact (n_ge (a := 0) (by omega) (by omega)).mpr (Nat.zero_le _)
set_option maxRecDepth 100000 in
set_option maxHeartbeats 4000000 in
theorem lp_RF_isExpression {p : Program} {e : Env} {s : State} {m : MethodId} {args : Array Value} {below : List Frame} {meth : Method} {c : Code} (l : Launch) (G : ex_G) (iv : Nat → Nat → Int32) (mp : Nat → Nat) (sp mo : Nat) (n : Nat) (f : Nat → Int32) (hd : DrR iv n f) (fr : Int32) (v : Bool) : ∀ (k p9 L : Nat) (itB mkB : Bool) (u : Option Value), p9 + k = n → L ≤ p9 → scn (dCh f n) n k p9 L itB mkB = v → EXM M_RF_isExpression l G 1 (fun r h' => h' = HP iv mp sp mo ∧ r = some (.int (b2i v))) p e s m args below meth c 10 [some (.ref 92), some (.int fr), some (.int (nI L)), some (.int (b2i itB)), some (.int (b2i mkB)), some (.int (nI p9)), u] [] (HP iv mp sp mo) := by
  intro k
  induction k with
  | zero =>
    intro p9 L itB mkB u hpk hLp hv
    have hn40 := hd.1
    rw [scn] at hv
    refine ex_iload (pc := 10) d_RF_isExpression_10 rfl ?_
    refine ex_aload_n (pc := 12) (i := 0) d_RF_isExpression_12 rfl rfl ?_
    refine ex_getx (pc := 13) 12 0 (nI n) d_RF_isExpression_13 FL_RF_119 (Nat.le_of_ble_eq_true rfl) rfl hd.2.1 ?_
    refine ex_icmp_ge (pc := 16) (tgt := 149) d_RF_isExpression_16 rfl (fun c16 => ?_) (fun c16 => ?_)
    · refine ex_iload_n (pc := 149) (i := 3) d_RF_isExpression_149 rfl rfl ?_
      refine ex_if_eq (pc := 150) (tgt := 161) d_RF_isExpression_150 rfl (fun c150 => ?_) (fun c150 => ?_)
      · refine ex_iconst (pc := 161) (v := (nI 0)) d_RF_isExpression_161 (by decide) ?_
        refine ex_iret (ty := .boolean) d_RF_isExpression_162 rfl rfl rfl (Nat.le_refl _) ?_
        exact ⟨rfl, by rw [← hv, b2i_0 c150]; rfl⟩
      · refine ex_iload_n (pc := 153) (i := 2) d_RF_isExpression_153 rfl rfl ?_
        refine ex_if_ne (pc := 154) (tgt := 161) d_RF_isExpression_154 rfl (fun c154 => ?_) (fun c154 => ?_)
        · refine ex_iconst (pc := 161) (v := (nI 0)) d_RF_isExpression_161 (by decide) ?_
          refine ex_iret (ty := .boolean) d_RF_isExpression_162 rfl rfl rfl (Nat.le_refl _) ?_
          exact ⟨rfl, by rw [← hv, decide_eq_false (fun z => c154 (by rw [z]; rfl)), Bool.and_false]; rfl⟩
        · refine ex_iconst (pc := 157) (v := (nI 1)) d_RF_isExpression_157 (by decide) ?_
          refine ex_goto (pc := 158) (tgt := 162) d_RF_isExpression_158 rfl ?_
          refine ex_iret (ty := .boolean) d_RF_isExpression_162 rfl rfl rfl (Nat.le_refl _) ?_
          exact ⟨rfl, by rw [← hv, b2i_1 c150, decide_eq_true ((n_eq (by omega) (by omega)).mp (show nI L = nI 0 from c154))]; rfl⟩
    · exact absurd ((n_ge (by omega) (by omega)).mpr (by omega)) c16
  | succ k ih =>
    intro p9 L itB mkB u hpk hLp hv
    have hn40 := hd.1
    rw [scn, if_pos (show p9 < n by omega)] at hv
    refine ex_iload (pc := 10) d_RF_isExpression_10 rfl ?_
    refine ex_aload_n (pc := 12) (i := 0) d_RF_isExpression_12 rfl rfl ?_
    refine ex_getx (pc := 13) 12 0 (nI n) d_RF_isExpression_13 FL_RF_119 (Nat.le_of_ble_eq_true rfl) rfl hd.2.1 ?_
    refine ex_icmp_ge (pc := 16) (tgt := 149) d_RF_isExpression_16 rfl (fun c16 => ?_) (fun c16 => ?_)
    · exact absurd ((n_ge (by omega) (by omega)).mp c16) (by omega)
    · refine ex_aload_n (pc := 19) (i := 0) d_RF_isExpression_19 rfl rfl ?_
      refine ex_iload (pc := 20) d_RF_isExpression_20 rfl ?_
      refine ex_callV (pc := 22) (M' := M_RF_at) (as := [.int (nI p9)]) (st := []) d_RF_isExpression_22 MW_RF_at MI_RF_at LK_RF_123 (Nat.le_of_ble_eq_true rfl) rfl rfl rfl (ct_RF_at l G iv mp sp mo (nI p9) (nI_0t (by omega)) (dr_b hd)) (ex_lt_rm (by decide)) ⟨Nat.le_refl _, Nat.le_refl _⟩ rfl rfl (Nat.le_of_ble_eq_true rfl) ?_
      rintro _ _ ⟨rfl, rfl⟩
      refine ex_top (dr_at hd (show p9 < n by omega)) ?_
      refine ex_istore (pc := 25) d_RF_isExpression_25 (by decide) ?_
      refine ex_iload_n (pc := 27) (i := 3) d_RF_isExpression_27 rfl rfl ?_
      refine ex_if_ne (pc := 28) (tgt := 66) d_RF_isExpression_28 rfl (fun c28 => ?_) (fun c28 => ?_)
      · refine ex_iload (pc := 66) d_RF_isExpression_66 rfl ?_
        refine ex_bipush (pc := 68) (v := (nI 63)) d_RF_isExpression_68 (by decide) ?_
        refine ex_icmp_eq (pc := 70) (tgt := 87) d_RF_isExpression_70 rfl (fun c70 => ?_) (fun c70 => ?_)
        · refine ex_iload (pc := 87) d_RF_isExpression_87 rfl ?_
          refine ex_if_eq (pc := 89) (tgt := 94) d_RF_isExpression_89 rfl (fun c89 => ?_) (fun c89 => ?_)
          · refine ex_iconst (pc := 94) (v := (nI 1)) d_RF_isExpression_94 (by decide) ?_
            refine ex_istore (pc := 95) d_RF_isExpression_95 (by decide) ?_
            refine ex_goto (pc := 97) (tgt := 143) d_RF_isExpression_97 rfl ?_
            refine ex_iinc (pc := 143) (v := (nI (p9 + 1))) d_RF_isExpression_143 rfl (nI_1 p9) (by decide) ?_
            refine ex_goto (pc := 146) (tgt := 10) d_RF_isExpression_146 rfl ?_
            exact ih (p9 + 1) L itB true _ (by omega) (by omega) (by rw [b2i_1 c28, if_neg (by decide), if_pos (Or.inl c70), if_neg (by rw [b2i_0 c89]; decide)] at hv; rw [b2i_1 c28]; exact hv)
          · refine ex_iconst (pc := 92) (v := (nI 0)) d_RF_isExpression_92 (by decide) ?_
            refine ex_iret (ty := .boolean) d_RF_isExpression_93 rfl rfl rfl (Nat.le_refl _) ?_
            exact ⟨rfl, by rw [b2i_1 c28, if_neg (by decide), if_pos (Or.inl c70), if_pos (b2i_1 c89)] at hv; rw [← hv]; rfl⟩
        · refine ex_iload (pc := 73) d_RF_isExpression_73 rfl ?_
          refine ex_bipush (pc := 75) (v := (nI 42)) d_RF_isExpression_75 (by decide) ?_
          refine ex_icmp_eq (pc := 77) (tgt := 87) d_RF_isExpression_77 rfl (fun c77 => ?_) (fun c77 => ?_)
          · refine ex_iload (pc := 87) d_RF_isExpression_87 rfl ?_
            refine ex_if_eq (pc := 89) (tgt := 94) d_RF_isExpression_89 rfl (fun c89 => ?_) (fun c89 => ?_)
            · refine ex_iconst (pc := 94) (v := (nI 1)) d_RF_isExpression_94 (by decide) ?_
              refine ex_istore (pc := 95) d_RF_isExpression_95 (by decide) ?_
              refine ex_goto (pc := 97) (tgt := 143) d_RF_isExpression_97 rfl ?_
              refine ex_iinc (pc := 143) (v := (nI (p9 + 1))) d_RF_isExpression_143 rfl (nI_1 p9) (by decide) ?_
              refine ex_goto (pc := 146) (tgt := 10) d_RF_isExpression_146 rfl ?_
              exact ih (p9 + 1) L itB true _ (by omega) (by omega) (by rw [b2i_1 c28, if_neg (by decide), if_pos (Or.inr (Or.inl c77)), if_neg (by rw [b2i_0 c89]; decide)] at hv; rw [b2i_1 c28]; exact hv)
            · refine ex_iconst (pc := 92) (v := (nI 0)) d_RF_isExpression_92 (by decide) ?_
              refine ex_iret (ty := .boolean) d_RF_isExpression_93 rfl rfl rfl (Nat.le_refl _) ?_
              exact ⟨rfl, by rw [b2i_1 c28, if_neg (by decide), if_pos (Or.inr (Or.inl c77)), if_pos (b2i_1 c89)] at hv; rw [← hv]; rfl⟩
          · refine ex_iload (pc := 80) d_RF_isExpression_80 rfl ?_
            refine ex_bipush (pc := 82) (v := (nI 43)) d_RF_isExpression_82 (by decide) ?_
            refine ex_icmp_ne (pc := 84) (tgt := 100) d_RF_isExpression_84 rfl (fun c84 => ?_) (fun c84 => ?_)
            · refine ex_iload (pc := 100) d_RF_isExpression_100 rfl ?_
              refine ex_bipush (pc := 102) (v := (nI 41)) d_RF_isExpression_102 (by decide) ?_
              refine ex_icmp_ne (pc := 104) (tgt := 122) d_RF_isExpression_104 rfl (fun c104 => ?_) (fun c104 => ?_)
              · refine ex_iload (pc := 122) d_RF_isExpression_122 rfl ?_
                refine ex_bipush (pc := 124) (v := (nI 124)) d_RF_isExpression_124 (by decide) ?_
                refine ex_icmp_eq (pc := 126) (tgt := 136) d_RF_isExpression_126 rfl (fun c126 => ?_) (fun c126 => ?_)
                · refine ex_iconst (pc := 136) (v := (nI 0)) d_RF_isExpression_136 (by decide) ?_
                  refine ex_istore_n (pc := 137) (i := 3) d_RF_isExpression_137 rfl (by decide) ?_
                  refine ex_goto (pc := 138) (tgt := 143) d_RF_isExpression_138 rfl ?_
                  refine ex_iinc (pc := 143) (v := (nI (p9 + 1))) d_RF_isExpression_143 rfl (nI_1 p9) (by decide) ?_
                  refine ex_goto (pc := 146) (tgt := 10) d_RF_isExpression_146 rfl ?_
                  exact ih (p9 + 1) L false mkB _ (by omega) (by omega) (by rw [b2i_1 c28, if_neg (by decide), if_neg (fun z => z.elim c70 (fun z => z.elim c77 c84)), if_neg c104, if_pos (Or.inl c126)] at hv; exact hv)
                · refine ex_iload (pc := 129) d_RF_isExpression_129 rfl ?_
                  refine ex_bipush (pc := 131) (v := (nI 44)) d_RF_isExpression_131 (by decide) ?_
                  refine ex_icmp_ne (pc := 133) (tgt := 141) d_RF_isExpression_133 rfl (fun c133 => ?_) (fun c133 => ?_)
                  · refine ex_iconst (pc := 141) (v := (nI 0)) d_RF_isExpression_141 (by decide) ?_
                    refine ex_iret (ty := .boolean) d_RF_isExpression_142 rfl rfl rfl (Nat.le_refl _) ?_
                    exact ⟨rfl, by rw [b2i_1 c28, if_neg (by decide), if_neg (fun z => z.elim c70 (fun z => z.elim c77 c84)), if_neg c104, if_neg (fun z => z.elim c126 c133)] at hv; rw [← hv]; rfl⟩
                  · refine ex_iconst (pc := 136) (v := (nI 0)) d_RF_isExpression_136 (by decide) ?_
                    refine ex_istore_n (pc := 137) (i := 3) d_RF_isExpression_137 rfl (by decide) ?_
                    refine ex_goto (pc := 138) (tgt := 143) d_RF_isExpression_138 rfl ?_
                    refine ex_iinc (pc := 143) (v := (nI (p9 + 1))) d_RF_isExpression_143 rfl (nI_1 p9) (by decide) ?_
                    refine ex_goto (pc := 146) (tgt := 10) d_RF_isExpression_146 rfl ?_
                    exact ih (p9 + 1) L false mkB _ (by omega) (by omega) (by rw [b2i_1 c28, if_neg (by decide), if_neg (fun z => z.elim c70 (fun z => z.elim c77 c84)), if_neg c104, if_pos (Or.inr c133)] at hv; exact hv)
              · refine ex_iinc (pc := 107) (v := (lvD L)) d_RF_isExpression_107 rfl (lvD_e (by omega)) (by decide) ?_
                refine ex_iload_n (pc := 110) (i := 2) d_RF_isExpression_110 rfl rfl ?_
                refine ex_if_ge (pc := 111) (tgt := 116) d_RF_isExpression_111 rfl (fun c111 => ?_) (fun c111 => ?_)
                · refine ex_iconst (pc := 116) (v := (nI 0)) d_RF_isExpression_116 (by decide) ?_
                  refine ex_istore (pc := 117) d_RF_isExpression_117 (by decide) ?_
                  refine ex_goto (pc := 119) (tgt := 143) d_RF_isExpression_119 rfl ?_
                  refine ex_iinc (pc := 143) (v := (nI (p9 + 1))) d_RF_isExpression_143 rfl (nI_1 p9) (by decide) ?_
                  refine ex_goto (pc := 146) (tgt := 10) d_RF_isExpression_146 rfl ?_
                  have hL0 := lvD_p c111
                  have hL1 : lvD L = nI (L - 1) := if_neg hL0
                  rw [hL1]
                  exact ih (p9 + 1) (L - 1) itB false _ (by omega) (by omega) (by rw [b2i_1 c28, if_neg (by decide), if_neg (fun z => z.elim c70 (fun z => z.elim c77 c84)), if_pos c104, if_neg hL0] at hv; rw [b2i_1 c28]; exact hv)
                · refine ex_iconst (pc := 114) (v := (nI 0)) d_RF_isExpression_114 (by decide) ?_
                  refine ex_iret (ty := .boolean) d_RF_isExpression_115 rfl rfl rfl (Nat.le_refl _) ?_
                  exact ⟨rfl, by rw [b2i_1 c28, if_neg (by decide), if_neg (fun z => z.elim c70 (fun z => z.elim c77 c84)), if_pos c104, if_pos (lvD_m (by omega) c111)] at hv; rw [← hv]; rfl⟩
            · refine ex_iload (pc := 87) d_RF_isExpression_87 rfl ?_
              refine ex_if_eq (pc := 89) (tgt := 94) d_RF_isExpression_89 rfl (fun c89 => ?_) (fun c89 => ?_)
              · refine ex_iconst (pc := 94) (v := (nI 1)) d_RF_isExpression_94 (by decide) ?_
                refine ex_istore (pc := 95) d_RF_isExpression_95 (by decide) ?_
                refine ex_goto (pc := 97) (tgt := 143) d_RF_isExpression_97 rfl ?_
                refine ex_iinc (pc := 143) (v := (nI (p9 + 1))) d_RF_isExpression_143 rfl (nI_1 p9) (by decide) ?_
                refine ex_goto (pc := 146) (tgt := 10) d_RF_isExpression_146 rfl ?_
                exact ih (p9 + 1) L itB true _ (by omega) (by omega) (by rw [b2i_1 c28, if_neg (by decide), if_pos (Or.inr (Or.inr c84)), if_neg (by rw [b2i_0 c89]; decide)] at hv; rw [b2i_1 c28]; exact hv)
              · refine ex_iconst (pc := 92) (v := (nI 0)) d_RF_isExpression_92 (by decide) ?_
                refine ex_iret (ty := .boolean) d_RF_isExpression_93 rfl rfl rfl (Nat.le_refl _) ?_
                exact ⟨rfl, by rw [b2i_1 c28, if_neg (by decide), if_pos (Or.inr (Or.inr c84)), if_pos (b2i_1 c89)] at hv; rw [← hv]; rfl⟩
      · refine ex_iload (pc := 31) d_RF_isExpression_31 rfl ?_
        refine ex_bipush (pc := 33) (v := (nI 40)) d_RF_isExpression_33 (by decide) ?_
        refine ex_icmp_ne (pc := 35) (tgt := 44) d_RF_isExpression_35 rfl (fun c35 => ?_) (fun c35 => ?_)
        · refine ex_iload (pc := 44) d_RF_isExpression_44 rfl ?_
          refine ex_callS (pc := 46) (M' := M_RF_isName) (as := [.int (dCh f n p9)]) (st := []) d_RF_isExpression_46 MW_RF_isName ST_RF_isName LK_RF_127 (ct_RF_isName l G (HP iv mp sp mo) (dCh f n p9)) (ex_lt_rm (by decide)) ⟨Nat.le_refl _, Nat.le_refl _⟩ rfl rfl (Nat.le_of_ble_eq_true rfl) ?_
          rintro _ _ ⟨rfl, rfl⟩
          refine ex_if_ne (pc := 49) (tgt := 54) d_RF_isExpression_49 rfl (fun c49 => ?_) (fun c49 => ?_)
          · refine ex_iload (pc := 54) d_RF_isExpression_54 rfl ?_
            refine ex_callS (pc := 56) (M' := M_RF_isName) (as := [.int (dCh f n p9)]) (st := []) d_RF_isExpression_56 MW_RF_isName ST_RF_isName LK_RF_127 (ct_RF_isName l G (HP iv mp sp mo) (dCh f n p9)) (ex_lt_rm (by decide)) ⟨Nat.le_refl _, Nat.le_refl _⟩ rfl rfl (Nat.le_of_ble_eq_true rfl) ?_
            rintro _ _ ⟨rfl, rfl⟩
            refine ex_istore_n (pc := 59) (i := 3) d_RF_isExpression_59 rfl (by decide) ?_
            refine ex_iconst (pc := 60) (v := (nI 0)) d_RF_isExpression_60 (by decide) ?_
            refine ex_istore (pc := 61) d_RF_isExpression_61 (by decide) ?_
            refine ex_goto (pc := 63) (tgt := 143) d_RF_isExpression_63 rfl ?_
            refine ex_iinc (pc := 143) (v := (nI (p9 + 1))) d_RF_isExpression_143 rfl (nI_1 p9) (by decide) ?_
            refine ex_goto (pc := 146) (tgt := 10) d_RF_isExpression_146 rfl ?_
            exact ih (p9 + 1) L (nmB (dCh f n p9)) false _ (by omega) (by omega) (by rw [b2i_0 c28, if_pos rfl, if_neg c35, if_pos (b2i_1 c49)] at hv; rw [b2i_1 c49]; exact hv)
          · refine ex_iconst (pc := 52) (v := (nI 0)) d_RF_isExpression_52 (by decide) ?_
            refine ex_iret (ty := .boolean) d_RF_isExpression_53 rfl rfl rfl (Nat.le_refl _) ?_
            exact ⟨rfl, by rw [b2i_0 c28, if_pos rfl, if_neg c35, if_neg (by rw [b2i_0 c49]; decide)] at hv; rw [← hv]; rfl⟩
        · refine ex_iinc (pc := 38) (v := (nI (L + 1))) d_RF_isExpression_38 rfl (nI_1 L) (by decide) ?_
          refine ex_goto (pc := 41) (tgt := 54) d_RF_isExpression_41 rfl ?_
          refine ex_iload (pc := 54) d_RF_isExpression_54 rfl ?_
          refine ex_callS (pc := 56) (M' := M_RF_isName) (as := [.int (dCh f n p9)]) (st := []) d_RF_isExpression_56 MW_RF_isName ST_RF_isName LK_RF_127 (ct_RF_isName l G (HP iv mp sp mo) (dCh f n p9)) (ex_lt_rm (by decide)) ⟨Nat.le_refl _, Nat.le_refl _⟩ rfl rfl (Nat.le_of_ble_eq_true rfl) ?_
          rintro _ _ ⟨rfl, rfl⟩
          refine ex_istore_n (pc := 59) (i := 3) d_RF_isExpression_59 rfl (by decide) ?_
          refine ex_iconst (pc := 60) (v := (nI 0)) d_RF_isExpression_60 (by decide) ?_
          refine ex_istore (pc := 61) d_RF_isExpression_61 (by decide) ?_
          refine ex_goto (pc := 63) (tgt := 143) d_RF_isExpression_63 rfl ?_
          refine ex_iinc (pc := 143) (v := (nI (p9 + 1))) d_RF_isExpression_143 rfl (nI_1 p9) (by decide) ?_
          refine ex_goto (pc := 146) (tgt := 10) d_RF_isExpression_146 rfl ?_
          exact ih (p9 + 1) (L + 1) (nmB (dCh f n p9)) false _ (by omega) (by omega) (by rw [b2i_0 c28, if_pos rfl, if_pos c35] at hv; rw [c35]; exact hv)

set_option maxRecDepth 100000 in
set_option maxHeartbeats 4000000 in
theorem ct_RF_isExpression (l : Launch) (G : ex_G) (iv : Nat → Nat → Int32) (mp : Nat → Nat) (sp mo : Nat) (n : Nat) (f : Nat → Int32) (hd : DrR iv n f) (fr : Nat) (hfr : fr ≤ n) : CT l G 1 M_RF_isExpression [.ref 92, .int (nI fr)] (HP iv mp sp mo) 0 0 (fun r h' => h' = HP iv mp sp mo ∧ r = some (.int (b2i (scP (dCh f n) n fr 0 false false)))) := by
  refine ex_enter (by decide) (Nat.le_of_ble_eq_true rfl) (fun v hv => by simp at hv; rcases hv with rfl | rfl <;> rfl) (fun p e s m args below meth c => ?_)
  refine ex_iconst (pc := 0) (v := (nI 0)) d_RF_isExpression_0 (by decide) ?_
  refine ex_istore_n (pc := 1) (i := 2) d_RF_isExpression_1 rfl (by decide) ?_
  refine ex_iconst (pc := 2) (v := (nI 0)) d_RF_isExpression_2 (by decide) ?_
  refine ex_istore_n (pc := 3) (i := 3) d_RF_isExpression_3 rfl (by decide) ?_
  refine ex_iconst (pc := 4) (v := (nI 0)) d_RF_isExpression_4 (by decide) ?_
  refine ex_istore (pc := 5) d_RF_isExpression_5 (by decide) ?_
  refine ex_iload_n (pc := 7) (i := 1) d_RF_isExpression_7 rfl rfl ?_
  refine ex_istore (pc := 8) d_RF_isExpression_8 (by decide) ?_
  exact lp_RF_isExpression l G iv mp sp mo n f hd (nI fr) _ (n - fr) fr 0 false false _ (by omega) (by omega) rfl

/-- the reference's rows before a reading -/
def rc1 (iv : Nat → Nat → Int32) (i : Nat) : Nat → Nat → Int32 := fun q k => if q = 101 ∧ 90 ≤ k ∧ k < 90 + i then nI 0 else iv q k
def rc2 (iv : Nat → Nat → Int32) (i : Nat) : Nat → Nat → Int32 := fun q k => if 102 ≤ q ∧ q ≤ 105 ∧ k < i then nI 0 else iv q k
theorem rc1_s {iv : Nat → Nat → Int32} {i : Nat} : ex_u2 (rc1 iv i) 101 (90 + i) (nI 0) = rc1 iv (i + 1) := by
  funext q k
  unfold ex_u2 rc1
  by_cases h : q = 101 ∧ k = 90 + i
  · rw [if_pos h, if_pos ⟨h.1, by omega, by omega⟩]
  · rw [if_neg h]
    by_cases h2 : q = 101 ∧ 90 ≤ k ∧ k < 90 + i
    · rw [if_pos h2, if_pos ⟨h2.1, h2.2.1, by omega⟩]
    · rw [if_neg h2, if_neg (by omega)]
theorem rc2_s {iv : Nat → Nat → Int32} {i : Nat} : rfSet (rc2 iv i) i false (nI 0) (nI 0) false = rc2 iv (i + 1) := by
  funext q k
  unfold rfSet ex_u2 rc2
  by_cases hk : k = i
  · subst hk
    by_cases h1 : q = 105
    · rw [if_pos ⟨h1, rfl⟩, if_pos ⟨by omega, by omega, by omega⟩]
      rfl
    · rw [if_neg (fun z => h1 z.1)]
      by_cases h2 : q = 104
      · rw [if_pos ⟨h2, rfl⟩, if_pos ⟨by omega, by omega, by omega⟩]
      · rw [if_neg (fun z => h2 z.1)]
        by_cases h3 : q = 103
        · rw [if_pos ⟨h3, rfl⟩, if_pos ⟨by omega, by omega, by omega⟩]
        · rw [if_neg (fun z => h3 z.1)]
          by_cases h4 : q = 102
          · rw [if_pos ⟨h4, rfl⟩, if_pos ⟨by omega, by omega, by omega⟩]
            rfl
          · rw [if_neg (fun z => h4 z.1), if_neg (by omega), if_neg (by omega)]
  · rw [if_neg (fun z => hk z.2), if_neg (fun z => hk z.2), if_neg (fun z => hk z.2), if_neg (fun z => hk z.2)]
    by_cases h2 : 102 ≤ q ∧ q ≤ 105 ∧ k < i
    · rw [if_pos h2, if_pos ⟨h2.1, h2.2.1, by omega⟩]
    · rw [if_neg h2, if_neg (by omega)]
def rx0 (iv : Nat → Nat → Int32) : RS := (0, 0, fun _ => pt0, fun _ => nI 0, fun q => iv 100 (90 + q))
theorem rc_rx {iv : Nat → Nat → Int32} : rc2 (rc1 iv 10) 14 = rxI iv (rx0 iv) := by
  funext q k
  unfold rc2 rc1 rxI
  show _ = (if q = 102 ∧ k < 14 then b2i false else if q = 103 ∧ k < 14 then nI 0 else if q = 104 ∧ k < 14 then nI 0 else if q = 105 ∧ k < 14 then b2i false else if q = 101 ∧ 90 ≤ k ∧ k < 100 then nI 0 else if q = 100 ∧ 90 ≤ k ∧ k < 100 then iv 100 (90 + (k - 90)) else iv q k)
  by_cases h : 102 ≤ q ∧ q ≤ 105 ∧ k < 14
  · rw [if_pos h]
    by_cases h1 : q = 102
    · rw [if_pos ⟨h1, h.2.2⟩]
      rfl
    · rw [if_neg (fun z => h1 z.1)]
      by_cases h2 : q = 103
      · rw [if_pos ⟨h2, h.2.2⟩]
      · rw [if_neg (fun z => h2 z.1)]
        by_cases h3 : q = 104
        · rw [if_pos ⟨h3, h.2.2⟩]
        · rw [if_neg (fun z => h3 z.1), if_pos ⟨by omega, h.2.2⟩]
          rfl
  · rw [if_neg h]
    by_cases h1 : q = 101 ∧ 90 ≤ k ∧ k < 90 + 10
    · rw [if_pos h1, if_neg (by omega), if_neg (by omega), if_neg (by omega), if_neg (by omega), if_pos ⟨h1.1, h1.2.1, by omega⟩]
    · rw [if_neg h1, if_neg (by omega), if_neg (by omega), if_neg (by omega), if_neg (by omega), if_neg (by omega)]
      by_cases h2 : q = 100 ∧ 90 ≤ k ∧ k < 100
      · rw [if_pos h2, h2.1, show 90 + (k - 90) = k by omega]
      · rw [if_neg h2]
/-- what the machine's end leaves -/
def rxE (iv : Nat → Nat → Int32) (R : RS) : Nat → Nat → Int32 := ex_u2 (ex_u2 (ex_u2 (ex_u2 (rxI iv (R.lv, R.n, chPs R.P 0, R.fo, R.nm)) 99 9 (nI R.n)) 96 9 (chPs R.P 0 0).2.1) 97 9 (chPs R.P 0 0).2.2.1) 98 9 (b2i (chPs R.P 0 0).2.2.2)
theorem dr_rx {iv : Nat → Nat → Int32} {n : Nat} {f : Nat → Int32} {R : RS} (h : DrR iv n f) : DrR (rxI iv R) n f := ⟨h.1, by rw [rx_o (Or.inl (by decide))]; exact h.2.1, fun k hk => by rw [rx_o (Or.inl (by decide))]; exact h.2.2 k hk⟩
/-- the character behind: comparisons with marks are those of the draft -/
theorem mk_at {iv : Nat → Nat → Int32} {n p9 : Nat} {f : Nat → Int32} (h : DrR iv n f) (hp : p9 ≤ 1000) {c9 : Nat} (hc : 0 < c9) (hc2 : c9 ≤ 1000) : gAt0 (iv 92 0) (iv 93) (nI p9) = nI c9 ↔ dCh f n p9 = nI c9 := by
  by_cases hl : p9 < n
  · rw [dr_at h hl]
  · have := h.1
    unfold gAt0 dCh
    rw [h.2.1, nI_t (by omega), nI_t (by omega), if_neg (by omega), if_neg hl]
    constructor
    · intro z
      have := (n_eq (a := 0) (by omega) (by omega)).mp z
      omega
    · intro z
      exact absurd z (nI_ne1 hc2)
set_option maxRecDepth 100000 in
set_option maxHeartbeats 4000000 in
theorem lt_RF_readExpression {p : Program} {e : Env} {s : State} {m : MethodId} {args : Array Value} {below : List Frame} {meth : Method} {c : Code} (l : Launch) (G : ex_G) (iv : Nat → Nat → Int32) (mp : Nat → Nat) (sp mo : Nat) (n : Nat) (f : Nat → Int32) (hd : DrR iv n f) (fr : Int32) (RE : RS) (R : RS) (hL : R.lv ≤ 6) (p9 : Nat) (hp9 : p9 < n) (ch ff gg : Int32) (eB : Bool) (u9 u10 : Option Value) (hK : ∀ (u5 u6 u7 u8 u9 u10 : Option Value), EXM M_RF_readExpression l G 2 (fun r h' => h' = HP (rxE iv RE) mp sp mo ∧ r = none) p e s m args below meth c 60 [some (.ref 92), some (.int fr), some (.int (nI R.lv)), some (.int (nI R.n)), some (.int (nI ((rdIt (dCh f n) p9 R.lv R.n R.P R.fo R.nm ff gg eB)).1)), u5, u6, u7, u8, u9, u10] [] (HP (rxI iv (rdIt (dCh f n) p9 R.lv R.n R.P R.fo R.nm ff gg eB).2) mp sp mo)) : EXM M_RF_readExpression l G 2 (fun r h' => h' = HP (rxE iv RE) mp sp mo ∧ r = none) p e s m args below meth c 210 [some (.ref 92), some (.int fr), some (.int (nI R.lv)), some (.int (nI R.n)), some (.int (nI p9)), some (.int ch), some (.int ff), some (.int gg), some (.int (b2i eB)), u9, u10] [] (HP (rxI iv R) mp sp mo) := by
  have hn40 := hd.1
  refine ex_aload_n (pc := 210) (i := 0) d_RF_readExpression_210 rfl rfl ?_
  refine ex_iload (pc := 211) d_RF_readExpression_211 rfl ?_
  refine ex_iconst (pc := 213) (v := (nI 1)) d_RF_readExpression_213 (by decide) ?_
  refine ex_iadd (pc := 214) d_RF_readExpression_214 ?_
  refine ex_top (nI_s p9) ?_
  refine ex_callV (pc := 215) (M' := M_RF_at) (as := [.int (nI (p9 + 1))]) (st := []) d_RF_readExpression_215 MW_RF_at MI_RF_at LK_RF_123 (Nat.le_of_ble_eq_true rfl) rfl rfl rfl (ct_RF_at l G (rxI iv R) mp sp mo (nI (p9 + 1)) (nI_0t (by omega)) (dr_b (dr_rx hd))) (ex_lt_rm (by decide)) ⟨Nat.le_refl _, Nat.le_refl _⟩ rfl rfl (Nat.le_of_ble_eq_true rfl) ?_
  rintro _ _ ⟨rfl, rfl⟩
  refine ex_top (show _ = gAt0 (iv 92 0) (iv 93) (nI (p9 + 1)) by rw [rx_o (Or.inl (by decide)), show rxI iv R 93 = iv 93 from funext (fun k => rx_o (Or.inl (by decide)))]) ?_
  refine ex_istore (pc := 218) d_RF_readExpression_218 (by decide) ?_
  refine ex_iload (pc := 220) d_RF_readExpression_220 rfl ?_
  refine ex_bipush (pc := 222) (v := (nI 42)) d_RF_readExpression_222 (by decide) ?_
  refine ex_icmp_eq (pc := 224) (tgt := 234) d_RF_readExpression_224 rfl (fun c224 => ?_) (fun c224 => ?_)
  · refine ex_iconst (pc := 234) (v := (nI 1)) d_RF_readExpression_234 (by decide) ?_
    refine ex_goto (pc := 235) (tgt := 239) d_RF_readExpression_235 rfl ?_
    refine ex_istore (pc := 239) d_RF_readExpression_239 (by decide) ?_
    refine ex_iload (pc := 241) d_RF_readExpression_241 rfl ?_
    refine ex_if_eq (pc := 243) (tgt := 254) d_RF_readExpression_243 rfl (fun c243 => ?_) (fun c243 => ?_)
    · exact absurd c243 (by decide)
    · refine ex_aload_n (pc := 246) (i := 0) d_RF_readExpression_246 rfl rfl ?_
      refine ex_iload (pc := 247) d_RF_readExpression_247 rfl ?_
      refine ex_iload (pc := 249) d_RF_readExpression_249 rfl ?_
      refine ex_callV (pc := 251) (M' := M_RF_link) (as := [.int gg, .int ff]) (st := []) d_RF_readExpression_251 MW_RF_link MI_RF_link LK_RF_135 (Nat.le_of_ble_eq_true rfl) rfl rfl rfl (ct_RF_link l G (rxI iv R) mp sp mo gg ff) (ex_lt_rm (by decide)) ⟨Nat.le_refl _, Nat.le_refl _⟩ rfl rfl (Nat.le_of_ble_eq_true rfl) ?_
      rintro _ _ ⟨rfl, rfl⟩
      refine ex_heap (congrArg (fun z => HP z mp sp mo) (rxW_lk gg ff)) ?_
      refine ex_iload (pc := 254) d_RF_readExpression_254 rfl ?_
      refine ex_if_ne (pc := 256) (tgt := 266) d_RF_readExpression_256 rfl (fun c256 => ?_) (fun c256 => ?_)
      · refine ex_iinc (pc := 266) (v := (nI (p9 + 1))) d_RF_readExpression_266 rfl (nI_1 p9) (by decide) ?_
        refine ex_aload_n (pc := 269) (i := 0) d_RF_readExpression_269 rfl rfl ?_
        refine ex_iconst (pc := 270) (v := (nI 2)) d_RF_readExpression_270 (by decide) ?_
        refine ex_iload_n (pc := 271) (i := 2) d_RF_readExpression_271 rfl rfl ?_
        refine ex_imul (pc := 272) d_RF_readExpression_272 ?_
        refine ex_top (nI_mul 2 R.lv) ?_
        refine ex_iconst (pc := 273) (v := (nI 1)) d_RF_readExpression_273 (by decide) ?_
        refine ex_iadd (pc := 274) d_RF_readExpression_274 ?_
        refine ex_top (nI_s (2 * R.lv)) ?_
        refine ex_iload (pc := 275) d_RF_readExpression_275 rfl ?_
        refine ex_iload (pc := 277) d_RF_readExpression_277 rfl ?_
        refine ex_iload (pc := 279) d_RF_readExpression_279 rfl ?_
        refine ex_if_ne (pc := 281) (tgt := 298) d_RF_readExpression_281 rfl (fun c281 => ?_) (fun c281 => ?_)
        · refine ex_iconst (pc := 298) (v := (nI 1)) d_RF_readExpression_298 (by decide) ?_
          refine ex_goto (pc := 299) (tgt := 303) d_RF_readExpression_299 rfl ?_
          refine ex_callV (pc := 303) (M' := M_RF_append) (as := [.int (nI (2 * R.lv + 1)), .int ff, .int gg, .int (nI 1)]) (st := []) d_RF_readExpression_303 MW_RF_append MI_RF_append LK_RF_143 (Nat.le_of_ble_eq_true rfl) rfl rfl rfl (ct_RF_append l G iv mp sp mo (R.lv, R.n, R.P, lkP R.fo gg ff, R.nm) (2 * R.lv + 1) (by omega) ff gg true) (ex_lt_rm (by decide)) ⟨Nat.le_refl _, Nat.le_refl _⟩ rfl rfl (Nat.le_of_ble_eq_true rfl) ?_
          rintro _ _ ⟨rfl, rfl⟩
          refine ex_iinc (pc := 306) (v := (nI (p9 + 2))) d_RF_readExpression_306 rfl (nI_1 (p9 + 1)) (by decide) ?_
          refine ex_goto (pc := 309) (tgt := 60) d_RF_readExpression_309 rfl ?_
          have m42 :  dCh f n (p9 + 1) = nI 42 := (mk_at hd (by omega) (by decide) (by decide)).mp c224
          have m63 : ¬ dCh f n (p9 + 1) = nI 63 := fun z => (by rw [m42] at z; exact absurd z (by decide))
          have kb := b2i_1 c281
          have hz : rdIt (dCh f n) p9 R.lv R.n R.P R.fo R.nm ff gg eB = (p9 + 2, (R.lv, R.n, va_up R.P (2 * R.lv + 1) (apQ (R.P (2 * R.lv + 1)) ff gg true), apFo (R.P (2 * R.lv + 1)) (lkP R.fo gg ff) ff, R.nm)) := by
            unfold rdIt isAg; rw [m42, kb]; rfl
          rw [hz] at hK
          exact hK _ _ _ _ _ _
        · refine ex_iload (pc := 284) d_RF_readExpression_284 rfl ?_
          refine ex_bipush (pc := 286) (v := (nI 42)) d_RF_readExpression_286 (by decide) ?_
          refine ex_icmp_eq (pc := 288) (tgt := 298) d_RF_readExpression_288 rfl (fun c288 => ?_) (fun c288 => ?_)
          · refine ex_iconst (pc := 298) (v := (nI 1)) d_RF_readExpression_298 (by decide) ?_
            refine ex_goto (pc := 299) (tgt := 303) d_RF_readExpression_299 rfl ?_
            refine ex_callV (pc := 303) (M' := M_RF_append) (as := [.int (nI (2 * R.lv + 1)), .int ff, .int gg, .int (nI 1)]) (st := []) d_RF_readExpression_303 MW_RF_append MI_RF_append LK_RF_143 (Nat.le_of_ble_eq_true rfl) rfl rfl rfl (ct_RF_append l G iv mp sp mo (R.lv, R.n, R.P, lkP R.fo gg ff, R.nm) (2 * R.lv + 1) (by omega) ff gg true) (ex_lt_rm (by decide)) ⟨Nat.le_refl _, Nat.le_refl _⟩ rfl rfl (Nat.le_of_ble_eq_true rfl) ?_
            rintro _ _ ⟨rfl, rfl⟩
            refine ex_iinc (pc := 306) (v := (nI (p9 + 2))) d_RF_readExpression_306 rfl (nI_1 (p9 + 1)) (by decide) ?_
            refine ex_goto (pc := 309) (tgt := 60) d_RF_readExpression_309 rfl ?_
            have m42 :  dCh f n (p9 + 1) = nI 42 := (mk_at hd (by omega) (by decide) (by decide)).mp c224
            have m63 : ¬ dCh f n (p9 + 1) = nI 63 := fun z => (by rw [m42] at z; exact absurd z (by decide))
            have kb := b2i_0 c281
            have hz : rdIt (dCh f n) p9 R.lv R.n R.P R.fo R.nm ff gg eB = (p9 + 2, (R.lv, R.n, va_up R.P (2 * R.lv + 1) (apQ (R.P (2 * R.lv + 1)) ff gg true), apFo (R.P (2 * R.lv + 1)) (lkP R.fo gg ff) ff, R.nm)) := by
              unfold rdIt isAg; rw [m42, kb]; rfl
            rw [hz] at hK
            exact hK _ _ _ _ _ _
          · exact absurd c224 c288
      · exact absurd c256 (by decide)
  · refine ex_iload (pc := 227) d_RF_readExpression_227 rfl ?_
    refine ex_bipush (pc := 229) (v := (nI 43)) d_RF_readExpression_229 (by decide) ?_
    refine ex_icmp_ne (pc := 231) (tgt := 238) d_RF_readExpression_231 rfl (fun c231 => ?_) (fun c231 => ?_)
    · refine ex_iconst (pc := 238) (v := (nI 0)) d_RF_readExpression_238 (by decide) ?_
      refine ex_istore (pc := 239) d_RF_readExpression_239 (by decide) ?_
      refine ex_iload (pc := 241) d_RF_readExpression_241 rfl ?_
      refine ex_if_eq (pc := 243) (tgt := 254) d_RF_readExpression_243 rfl (fun c243 => ?_) (fun c243 => ?_)
      · refine ex_iload (pc := 254) d_RF_readExpression_254 rfl ?_
        refine ex_if_ne (pc := 256) (tgt := 266) d_RF_readExpression_256 rfl (fun c256 => ?_) (fun c256 => ?_)
        · exact absurd rfl c256
        · refine ex_iload (pc := 259) d_RF_readExpression_259 rfl ?_
          refine ex_bipush (pc := 261) (v := (nI 63)) d_RF_readExpression_261 (by decide) ?_
          refine ex_icmp_ne (pc := 263) (tgt := 269) d_RF_readExpression_263 rfl (fun c263 => ?_) (fun c263 => ?_)
          · refine ex_aload_n (pc := 269) (i := 0) d_RF_readExpression_269 rfl rfl ?_
            refine ex_iconst (pc := 270) (v := (nI 2)) d_RF_readExpression_270 (by decide) ?_
            refine ex_iload_n (pc := 271) (i := 2) d_RF_readExpression_271 rfl rfl ?_
            refine ex_imul (pc := 272) d_RF_readExpression_272 ?_
            refine ex_top (nI_mul 2 R.lv) ?_
            refine ex_iconst (pc := 273) (v := (nI 1)) d_RF_readExpression_273 (by decide) ?_
            refine ex_iadd (pc := 274) d_RF_readExpression_274 ?_
            refine ex_top (nI_s (2 * R.lv)) ?_
            refine ex_iload (pc := 275) d_RF_readExpression_275 rfl ?_
            refine ex_iload (pc := 277) d_RF_readExpression_277 rfl ?_
            refine ex_iload (pc := 279) d_RF_readExpression_279 rfl ?_
            refine ex_if_ne (pc := 281) (tgt := 298) d_RF_readExpression_281 rfl (fun c281 => ?_) (fun c281 => ?_)
            · refine ex_iconst (pc := 298) (v := (nI 1)) d_RF_readExpression_298 (by decide) ?_
              refine ex_goto (pc := 299) (tgt := 303) d_RF_readExpression_299 rfl ?_
              refine ex_callV (pc := 303) (M' := M_RF_append) (as := [.int (nI (2 * R.lv + 1)), .int ff, .int gg, .int (nI 1)]) (st := []) d_RF_readExpression_303 MW_RF_append MI_RF_append LK_RF_143 (Nat.le_of_ble_eq_true rfl) rfl rfl rfl (ct_RF_append l G iv mp sp mo R (2 * R.lv + 1) (by omega) ff gg true) (ex_lt_rm (by decide)) ⟨Nat.le_refl _, Nat.le_refl _⟩ rfl rfl (Nat.le_of_ble_eq_true rfl) ?_
              rintro _ _ ⟨rfl, rfl⟩
              refine ex_iinc (pc := 306) (v := (nI (p9 + 1))) d_RF_readExpression_306 rfl (nI_1 p9) (by decide) ?_
              refine ex_goto (pc := 309) (tgt := 60) d_RF_readExpression_309 rfl ?_
              have m42 : ¬ dCh f n (p9 + 1) = nI 42 := fun z => c224 ((mk_at hd (by omega) (by decide) (by decide)).mpr z)
              have m43 : ¬ dCh f n (p9 + 1) = nI 43 := fun z => c231 ((mk_at hd (by omega) (by decide) (by decide)).mpr z)
              have m63 : ¬ dCh f n (p9 + 1) = nI 63 := fun z => c263 ((mk_at hd (by omega) (by decide) (by decide)).mpr z)
              have kb := b2i_1 c281
              have hz : rdIt (dCh f n) p9 R.lv R.n R.P R.fo R.nm ff gg eB = (p9 + 1, (R.lv, R.n, va_up R.P (2 * R.lv + 1) (apQ (R.P (2 * R.lv + 1)) ff gg true), apFo (R.P (2 * R.lv + 1)) R.fo ff, R.nm)) := by
                unfold rdIt isAg; rw [decide_eq_false m42, decide_eq_false m43, decide_eq_false m63, if_neg (fun z => z.elim (by decide) m63), kb]; rfl
              rw [hz] at hK
              exact hK _ _ _ _ _ _
            · refine ex_iload (pc := 284) d_RF_readExpression_284 rfl ?_
              refine ex_bipush (pc := 286) (v := (nI 42)) d_RF_readExpression_286 (by decide) ?_
              refine ex_icmp_eq (pc := 288) (tgt := 298) d_RF_readExpression_288 rfl (fun c288 => ?_) (fun c288 => ?_)
              · exact absurd c288 c224
              · refine ex_iload (pc := 291) d_RF_readExpression_291 rfl ?_
                refine ex_bipush (pc := 293) (v := (nI 63)) d_RF_readExpression_293 (by decide) ?_
                refine ex_icmp_ne (pc := 295) (tgt := 302) d_RF_readExpression_295 rfl (fun c295 => ?_) (fun c295 => ?_)
                · refine ex_iconst (pc := 302) (v := (nI 0)) d_RF_readExpression_302 (by decide) ?_
                  refine ex_callV (pc := 303) (M' := M_RF_append) (as := [.int (nI (2 * R.lv + 1)), .int ff, .int gg, .int (nI 0)]) (st := []) d_RF_readExpression_303 MW_RF_append MI_RF_append LK_RF_143 (Nat.le_of_ble_eq_true rfl) rfl rfl rfl (ct_RF_append l G iv mp sp mo R (2 * R.lv + 1) (by omega) ff gg false) (ex_lt_rm (by decide)) ⟨Nat.le_refl _, Nat.le_refl _⟩ rfl rfl (Nat.le_of_ble_eq_true rfl) ?_
                  rintro _ _ ⟨rfl, rfl⟩
                  refine ex_iinc (pc := 306) (v := (nI (p9 + 1))) d_RF_readExpression_306 rfl (nI_1 p9) (by decide) ?_
                  refine ex_goto (pc := 309) (tgt := 60) d_RF_readExpression_309 rfl ?_
                  have m42 : ¬ dCh f n (p9 + 1) = nI 42 := fun z => c224 ((mk_at hd (by omega) (by decide) (by decide)).mpr z)
                  have m43 : ¬ dCh f n (p9 + 1) = nI 43 := fun z => c231 ((mk_at hd (by omega) (by decide) (by decide)).mpr z)
                  have m63 : ¬ dCh f n (p9 + 1) = nI 63 := fun z => c263 ((mk_at hd (by omega) (by decide) (by decide)).mpr z)
                  have kb := b2i_0 c281
                  have hz : rdIt (dCh f n) p9 R.lv R.n R.P R.fo R.nm ff gg eB = (p9 + 1, (R.lv, R.n, va_up R.P (2 * R.lv + 1) (apQ (R.P (2 * R.lv + 1)) ff gg false), apFo (R.P (2 * R.lv + 1)) R.fo ff, R.nm)) := by
                    unfold rdIt isAg; rw [decide_eq_false m42, decide_eq_false m43, decide_eq_false m63, if_neg (fun z => z.elim (by decide) m63), kb]; rfl
                  rw [hz] at hK
                  exact hK _ _ _ _ _ _
                · exact absurd c295 c263
          · refine ex_iinc (pc := 266) (v := (nI (p9 + 1))) d_RF_readExpression_266 rfl (nI_1 p9) (by decide) ?_
            refine ex_aload_n (pc := 269) (i := 0) d_RF_readExpression_269 rfl rfl ?_
            refine ex_iconst (pc := 270) (v := (nI 2)) d_RF_readExpression_270 (by decide) ?_
            refine ex_iload_n (pc := 271) (i := 2) d_RF_readExpression_271 rfl rfl ?_
            refine ex_imul (pc := 272) d_RF_readExpression_272 ?_
            refine ex_top (nI_mul 2 R.lv) ?_
            refine ex_iconst (pc := 273) (v := (nI 1)) d_RF_readExpression_273 (by decide) ?_
            refine ex_iadd (pc := 274) d_RF_readExpression_274 ?_
            refine ex_top (nI_s (2 * R.lv)) ?_
            refine ex_iload (pc := 275) d_RF_readExpression_275 rfl ?_
            refine ex_iload (pc := 277) d_RF_readExpression_277 rfl ?_
            refine ex_iload (pc := 279) d_RF_readExpression_279 rfl ?_
            refine ex_if_ne (pc := 281) (tgt := 298) d_RF_readExpression_281 rfl (fun c281 => ?_) (fun c281 => ?_)
            · refine ex_iconst (pc := 298) (v := (nI 1)) d_RF_readExpression_298 (by decide) ?_
              refine ex_goto (pc := 299) (tgt := 303) d_RF_readExpression_299 rfl ?_
              refine ex_callV (pc := 303) (M' := M_RF_append) (as := [.int (nI (2 * R.lv + 1)), .int ff, .int gg, .int (nI 1)]) (st := []) d_RF_readExpression_303 MW_RF_append MI_RF_append LK_RF_143 (Nat.le_of_ble_eq_true rfl) rfl rfl rfl (ct_RF_append l G iv mp sp mo R (2 * R.lv + 1) (by omega) ff gg true) (ex_lt_rm (by decide)) ⟨Nat.le_refl _, Nat.le_refl _⟩ rfl rfl (Nat.le_of_ble_eq_true rfl) ?_
              rintro _ _ ⟨rfl, rfl⟩
              refine ex_iinc (pc := 306) (v := (nI (p9 + 2))) d_RF_readExpression_306 rfl (nI_1 (p9 + 1)) (by decide) ?_
              refine ex_goto (pc := 309) (tgt := 60) d_RF_readExpression_309 rfl ?_
              have m42 : ¬ dCh f n (p9 + 1) = nI 42 := fun z => c224 ((mk_at hd (by omega) (by decide) (by decide)).mpr z)
              have m43 : ¬ dCh f n (p9 + 1) = nI 43 := fun z => c231 ((mk_at hd (by omega) (by decide) (by decide)).mpr z)
              have m63 :  dCh f n (p9 + 1) = nI 63 := (mk_at hd (by omega) (by decide) (by decide)).mp c263
              have kb := b2i_1 c281
              have hz : rdIt (dCh f n) p9 R.lv R.n R.P R.fo R.nm ff gg eB = (p9 + 2, (R.lv, R.n, va_up R.P (2 * R.lv + 1) (apQ (R.P (2 * R.lv + 1)) ff gg true), apFo (R.P (2 * R.lv + 1)) R.fo ff, R.nm)) := by
                unfold rdIt isAg; rw [m63, kb]; rfl
              rw [hz] at hK
              exact hK _ _ _ _ _ _
            · refine ex_iload (pc := 284) d_RF_readExpression_284 rfl ?_
              refine ex_bipush (pc := 286) (v := (nI 42)) d_RF_readExpression_286 (by decide) ?_
              refine ex_icmp_eq (pc := 288) (tgt := 298) d_RF_readExpression_288 rfl (fun c288 => ?_) (fun c288 => ?_)
              · exact absurd c288 c224
              · refine ex_iload (pc := 291) d_RF_readExpression_291 rfl ?_
                refine ex_bipush (pc := 293) (v := (nI 63)) d_RF_readExpression_293 (by decide) ?_
                refine ex_icmp_ne (pc := 295) (tgt := 302) d_RF_readExpression_295 rfl (fun c295 => ?_) (fun c295 => ?_)
                · exact absurd c263 c295
                · refine ex_iconst (pc := 298) (v := (nI 1)) d_RF_readExpression_298 (by decide) ?_
                  refine ex_goto (pc := 299) (tgt := 303) d_RF_readExpression_299 rfl ?_
                  refine ex_callV (pc := 303) (M' := M_RF_append) (as := [.int (nI (2 * R.lv + 1)), .int ff, .int gg, .int (nI 1)]) (st := []) d_RF_readExpression_303 MW_RF_append MI_RF_append LK_RF_143 (Nat.le_of_ble_eq_true rfl) rfl rfl rfl (ct_RF_append l G iv mp sp mo R (2 * R.lv + 1) (by omega) ff gg true) (ex_lt_rm (by decide)) ⟨Nat.le_refl _, Nat.le_refl _⟩ rfl rfl (Nat.le_of_ble_eq_true rfl) ?_
                  rintro _ _ ⟨rfl, rfl⟩
                  refine ex_iinc (pc := 306) (v := (nI (p9 + 2))) d_RF_readExpression_306 rfl (nI_1 (p9 + 1)) (by decide) ?_
                  refine ex_goto (pc := 309) (tgt := 60) d_RF_readExpression_309 rfl ?_
                  have m42 : ¬ dCh f n (p9 + 1) = nI 42 := fun z => c224 ((mk_at hd (by omega) (by decide) (by decide)).mpr z)
                  have m43 : ¬ dCh f n (p9 + 1) = nI 43 := fun z => c231 ((mk_at hd (by omega) (by decide) (by decide)).mpr z)
                  have m63 :  dCh f n (p9 + 1) = nI 63 := (mk_at hd (by omega) (by decide) (by decide)).mp c263
                  have kb := b2i_0 c281
                  have hz : rdIt (dCh f n) p9 R.lv R.n R.P R.fo R.nm ff gg eB = (p9 + 2, (R.lv, R.n, va_up R.P (2 * R.lv + 1) (apQ (R.P (2 * R.lv + 1)) ff gg true), apFo (R.P (2 * R.lv + 1)) R.fo ff, R.nm)) := by
                    unfold rdIt isAg; rw [m63, kb]; rfl
                  rw [hz] at hK
                  exact hK _ _ _ _ _ _
      · exact absurd rfl c243
    · refine ex_iconst (pc := 234) (v := (nI 1)) d_RF_readExpression_234 (by decide) ?_
      refine ex_goto (pc := 235) (tgt := 239) d_RF_readExpression_235 rfl ?_
      refine ex_istore (pc := 239) d_RF_readExpression_239 (by decide) ?_
      refine ex_iload (pc := 241) d_RF_readExpression_241 rfl ?_
      refine ex_if_eq (pc := 243) (tgt := 254) d_RF_readExpression_243 rfl (fun c243 => ?_) (fun c243 => ?_)
      · exact absurd c243 (by decide)
      · refine ex_aload_n (pc := 246) (i := 0) d_RF_readExpression_246 rfl rfl ?_
        refine ex_iload (pc := 247) d_RF_readExpression_247 rfl ?_
        refine ex_iload (pc := 249) d_RF_readExpression_249 rfl ?_
        refine ex_callV (pc := 251) (M' := M_RF_link) (as := [.int gg, .int ff]) (st := []) d_RF_readExpression_251 MW_RF_link MI_RF_link LK_RF_135 (Nat.le_of_ble_eq_true rfl) rfl rfl rfl (ct_RF_link l G (rxI iv R) mp sp mo gg ff) (ex_lt_rm (by decide)) ⟨Nat.le_refl _, Nat.le_refl _⟩ rfl rfl (Nat.le_of_ble_eq_true rfl) ?_
        rintro _ _ ⟨rfl, rfl⟩
        refine ex_heap (congrArg (fun z => HP z mp sp mo) (rxW_lk gg ff)) ?_
        refine ex_iload (pc := 254) d_RF_readExpression_254 rfl ?_
        refine ex_if_ne (pc := 256) (tgt := 266) d_RF_readExpression_256 rfl (fun c256 => ?_) (fun c256 => ?_)
        · refine ex_iinc (pc := 266) (v := (nI (p9 + 1))) d_RF_readExpression_266 rfl (nI_1 p9) (by decide) ?_
          refine ex_aload_n (pc := 269) (i := 0) d_RF_readExpression_269 rfl rfl ?_
          refine ex_iconst (pc := 270) (v := (nI 2)) d_RF_readExpression_270 (by decide) ?_
          refine ex_iload_n (pc := 271) (i := 2) d_RF_readExpression_271 rfl rfl ?_
          refine ex_imul (pc := 272) d_RF_readExpression_272 ?_
          refine ex_top (nI_mul 2 R.lv) ?_
          refine ex_iconst (pc := 273) (v := (nI 1)) d_RF_readExpression_273 (by decide) ?_
          refine ex_iadd (pc := 274) d_RF_readExpression_274 ?_
          refine ex_top (nI_s (2 * R.lv)) ?_
          refine ex_iload (pc := 275) d_RF_readExpression_275 rfl ?_
          refine ex_iload (pc := 277) d_RF_readExpression_277 rfl ?_
          refine ex_iload (pc := 279) d_RF_readExpression_279 rfl ?_
          refine ex_if_ne (pc := 281) (tgt := 298) d_RF_readExpression_281 rfl (fun c281 => ?_) (fun c281 => ?_)
          · refine ex_iconst (pc := 298) (v := (nI 1)) d_RF_readExpression_298 (by decide) ?_
            refine ex_goto (pc := 299) (tgt := 303) d_RF_readExpression_299 rfl ?_
            refine ex_callV (pc := 303) (M' := M_RF_append) (as := [.int (nI (2 * R.lv + 1)), .int ff, .int gg, .int (nI 1)]) (st := []) d_RF_readExpression_303 MW_RF_append MI_RF_append LK_RF_143 (Nat.le_of_ble_eq_true rfl) rfl rfl rfl (ct_RF_append l G iv mp sp mo (R.lv, R.n, R.P, lkP R.fo gg ff, R.nm) (2 * R.lv + 1) (by omega) ff gg true) (ex_lt_rm (by decide)) ⟨Nat.le_refl _, Nat.le_refl _⟩ rfl rfl (Nat.le_of_ble_eq_true rfl) ?_
            rintro _ _ ⟨rfl, rfl⟩
            refine ex_iinc (pc := 306) (v := (nI (p9 + 2))) d_RF_readExpression_306 rfl (nI_1 (p9 + 1)) (by decide) ?_
            refine ex_goto (pc := 309) (tgt := 60) d_RF_readExpression_309 rfl ?_
            have m42 : ¬ dCh f n (p9 + 1) = nI 42 := fun z => c224 ((mk_at hd (by omega) (by decide) (by decide)).mpr z)
            have m43 :  dCh f n (p9 + 1) = nI 43 := (mk_at hd (by omega) (by decide) (by decide)).mp c231
            have m63 : ¬ dCh f n (p9 + 1) = nI 63 := fun z => (by rw [m43] at z; exact absurd z (by decide))
            have kb := b2i_1 c281
            have hz : rdIt (dCh f n) p9 R.lv R.n R.P R.fo R.nm ff gg eB = (p9 + 2, (R.lv, R.n, va_up R.P (2 * R.lv + 1) (apQ (R.P (2 * R.lv + 1)) ff gg true), apFo (R.P (2 * R.lv + 1)) (lkP R.fo gg ff) ff, R.nm)) := by
              unfold rdIt isAg; rw [m43, kb]; rfl
            rw [hz] at hK
            exact hK _ _ _ _ _ _
          · refine ex_iload (pc := 284) d_RF_readExpression_284 rfl ?_
            refine ex_bipush (pc := 286) (v := (nI 42)) d_RF_readExpression_286 (by decide) ?_
            refine ex_icmp_eq (pc := 288) (tgt := 298) d_RF_readExpression_288 rfl (fun c288 => ?_) (fun c288 => ?_)
            · exact absurd c288 c224
            · refine ex_iload (pc := 291) d_RF_readExpression_291 rfl ?_
              refine ex_bipush (pc := 293) (v := (nI 63)) d_RF_readExpression_293 (by decide) ?_
              refine ex_icmp_ne (pc := 295) (tgt := 302) d_RF_readExpression_295 rfl (fun c295 => ?_) (fun c295 => ?_)
              · refine ex_iconst (pc := 302) (v := (nI 0)) d_RF_readExpression_302 (by decide) ?_
                refine ex_callV (pc := 303) (M' := M_RF_append) (as := [.int (nI (2 * R.lv + 1)), .int ff, .int gg, .int (nI 0)]) (st := []) d_RF_readExpression_303 MW_RF_append MI_RF_append LK_RF_143 (Nat.le_of_ble_eq_true rfl) rfl rfl rfl (ct_RF_append l G iv mp sp mo (R.lv, R.n, R.P, lkP R.fo gg ff, R.nm) (2 * R.lv + 1) (by omega) ff gg false) (ex_lt_rm (by decide)) ⟨Nat.le_refl _, Nat.le_refl _⟩ rfl rfl (Nat.le_of_ble_eq_true rfl) ?_
                rintro _ _ ⟨rfl, rfl⟩
                refine ex_iinc (pc := 306) (v := (nI (p9 + 2))) d_RF_readExpression_306 rfl (nI_1 (p9 + 1)) (by decide) ?_
                refine ex_goto (pc := 309) (tgt := 60) d_RF_readExpression_309 rfl ?_
                have m42 : ¬ dCh f n (p9 + 1) = nI 42 := fun z => c224 ((mk_at hd (by omega) (by decide) (by decide)).mpr z)
                have m43 :  dCh f n (p9 + 1) = nI 43 := (mk_at hd (by omega) (by decide) (by decide)).mp c231
                have m63 : ¬ dCh f n (p9 + 1) = nI 63 := fun z => (by rw [m43] at z; exact absurd z (by decide))
                have kb := b2i_0 c281
                have hz : rdIt (dCh f n) p9 R.lv R.n R.P R.fo R.nm ff gg eB = (p9 + 2, (R.lv, R.n, va_up R.P (2 * R.lv + 1) (apQ (R.P (2 * R.lv + 1)) ff gg false), apFo (R.P (2 * R.lv + 1)) (lkP R.fo gg ff) ff, R.nm)) := by
                  unfold rdIt isAg; rw [m43, kb]; rfl
                rw [hz] at hK
                exact hK _ _ _ _ _ _
              · exact absurd (c231.symm.trans c295) (by decide)
        · exact absurd c256 (by decide)
