/-! the reference: faults, marks, elements, the form's characters -/
def insR (fk fp : Nat → Int32) (kd pl : Int32) : Nat → Nat
  | 0 => 0
  | k + 1 => if pl < fp k ∨ (fp k = pl ∧ kd < fk k) then insR fk fp kd pl k else k + 1
theorem insR_le (fk fp : Nat → Int32) (kd pl : Int32) : ∀ n, insR fk fp kd pl n ≤ n := by
  intro n
  induction n with
  | zero => exact Nat.le_refl _
  | succ k ih =>
    rw [insR]
    by_cases h : pl < fp k ∨ (fp k = pl ∧ kd < fk k)
    · rw [if_pos h]
      omega
    · rw [if_neg h]
      exact Nat.le_refl _
def rfAt (iv : Nat → Nat → Int32) (n : Nat) (kd pl : Int32) : Nat := insR (iv 119) (iv 120) kd pl n
def rfMv (iv : Nat → Nat → Int32) (k n : Nat) : Nat → Nat → Int32 := va_up (va_up iv 119 (mvU (iv 119) k n)) 120 (mvU (iv 120) k n)
def rfIn (iv : Nat → Nat → Int32) (t n : Nat) (kd pl : Int32) : Nat → Nat → Int32 := ex_u2 (va_up (va_up iv 119 (va_up (mvU (iv 119) t n) t kd)) 120 (va_up (mvU (iv 120) t n) t pl)) 92 29 (nI (n + 1))
def rfFlt (iv : Nat → Nat → Int32) (n : Nat) (kd pl : Int32) : Nat → Nat → Int32 := rfIn iv (rfAt iv n kd pl) n kd pl
theorem up_sw {iv : Nat → Nat → Int32} {a b : Nat} {f g : Nat → Int32} (h : a ≠ b) : va_up (va_up iv a f) b g = va_up (va_up iv b g) a f := by
  funext i
  by_cases h1 : i = a
  · subst h1
    rw [va_up_ne _ _ h, va_up_self, va_up_self]
  · by_cases h2 : i = b
    · subst h2
      rw [va_up_self, va_up_ne _ _ h1, va_up_self]
    · rw [va_up_ne _ _ h2, va_up_ne _ _ h1, va_up_ne _ _ h1, va_up_ne _ _ h2]
theorem rf_st {iv : Nat → Nat → Int32} {f g : Nat → Int32} {t : Nat} {x y : Int32} : ex_u2 (ex_u2 (va_up (va_up iv 119 f) 120 g) 119 t x) 120 t y = va_up (va_up iv 119 (va_up f t x)) 120 (va_up g t y) := by
  rw [up_sw (a := 119) (b := 120) (by decide), ex_u2_up, up_sw (a := 120) (b := 119) (by decide), ex_u2_up]
theorem nI_pred9 (n : Nat) : nI (n + 1) - nI 1 = nI n := nI_p (by omega)
set_option maxRecDepth 100000 in
set_option maxHeartbeats 4000000 in
theorem ls_RF_addFault {p : Program} {e : Env} {s : State} {m : MethodId} {args : Array Value} {below : List Frame} {meth : Method} {c : Code} (l : Launch) (G : ex_G) (iv : Nat → Nat → Int32) (mp : Nat → Nat) (sp mo : Nat) (kd pl : Int32) (n t : Nat) (hn : iv 92 29 = nI n) (hl : n < 400) (ht : t ≤ n) (hv : t = insR (iv 119) (iv 120) kd pl n) : EXM M_RF_addFault l G 0 (fun r h' => h' = HP (rfFlt iv n kd pl) mp sp mo ∧ r = none) p e s m args below meth c 79 [some (.ref 92), some (.int kd), some (.int pl), some (.int (nI t))] [] (HP (rfMv iv t n) mp sp mo) := by
  refine ex_aload_n (pc := 79) (i := 0) d_RF_addFault_79 rfl rfl ?_
  refine ex_getr (pc := 80) 12 30 d_RF_addFault_80 FL_RF_89 (Nat.le_of_ble_eq_true rfl) rfl rfl ?_
  refine ex_iload_n (pc := 83) (i := 3) d_RF_addFault_83 rfl rfl ?_
  refine ex_iload_n (pc := 84) (i := 1) d_RF_addFault_84 rfl rfl ?_
  refine ex_iast (pc := 85) t d_RF_addFault_85 (Nat.le_of_ble_eq_true rfl) rfl rfl rfl (nI_t (by omega)) (show t < 400 by omega) ?_
  refine ex_aload_n (pc := 86) (i := 0) d_RF_addFault_86 rfl rfl ?_
  refine ex_getr (pc := 87) 12 31 d_RF_addFault_87 FL_RF_92 (Nat.le_of_ble_eq_true rfl) rfl rfl ?_
  refine ex_iload_n (pc := 90) (i := 3) d_RF_addFault_90 rfl rfl ?_
  refine ex_iload_n (pc := 91) (i := 2) d_RF_addFault_91 rfl rfl ?_
  refine ex_iast (pc := 92) t d_RF_addFault_92 (Nat.le_of_ble_eq_true rfl) rfl rfl rfl (nI_t (by omega)) (show t < 400 by omega) ?_
  refine ex_aload_n (pc := 93) (i := 0) d_RF_addFault_93 rfl rfl ?_
  refine ex_dup (pc := 94) d_RF_addFault_94 rfl ?_
  refine ex_getx (pc := 95) 12 29 (nI n) d_RF_addFault_95 FL_RF_182 (Nat.le_of_ble_eq_true rfl) rfl hn ?_
  refine ex_iconst (pc := 98) (v := (nI 1)) d_RF_addFault_98 (by decide) ?_
  refine ex_iadd (pc := 99) d_RF_addFault_99 ?_
  refine ex_puti (pc := 100) 12 29 .int d_RF_addFault_100 (PF_RF_182 _) (Nat.le_of_ble_eq_true rfl) rfl rfl rfl ?_
  refine ex_heap (h' := HP (rfFlt iv n kd pl) mp sp mo) ?_ ?_
  · show _ = HP (rfIn iv (rfAt iv n kd pl) n kd pl) mp sp mo
    rw [rfAt, ← hv, nI_s, rfIn, ← rf_st]
    rfl
  refine ex_vret d_RF_addFault_103 rfl rfl (Nat.le_refl _) ?_
  exact ⟨rfl, rfl⟩

set_option maxRecDepth 100000 in
set_option maxHeartbeats 4000000 in
theorem lp_RF_addFault {p : Program} {e : Env} {s : State} {m : MethodId} {args : Array Value} {below : List Frame} {meth : Method} {c : Code} (l : Launch) (G : ex_G) (iv : Nat → Nat → Int32) (mp : Nat → Nat) (sp mo : Nat) (kd pl : Int32) (n : Nat) (hn : iv 92 29 = nI n) (hl : n < 400) : ∀ (k : Nat), k ≤ n → insR (iv 119) (iv 120) kd pl k = insR (iv 119) (iv 120) kd pl n → EXM M_RF_addFault l G 0 (fun r h' => h' = HP (rfFlt iv n kd pl) mp sp mo ∧ r = none) p e s m args below meth c 5 [some (.ref 92), some (.int kd), some (.int pl), some (.int (nI k))] [] (HP (rfMv iv k n) mp sp mo) := by
  intro k
  induction k with
  | zero =>
    intro hk hv
    refine ex_iload_n (pc := 5) (i := 3) d_RF_addFault_5 rfl rfl ?_
    refine ex_if_le (pc := 6) (tgt := 79) d_RF_addFault_6 rfl (fun c6 => ?_) (fun c6 => ?_)
    · exact ls_RF_addFault l G iv mp sp mo kd pl n 0 hn hl hk hv
    · exact absurd (Int32.le_refl _) c6
  | succ k ih =>
    intro hk hv
    have hs2 : (nI (k + 1) - nI 1).toInt = (k : Int) := by rw [nI_p (by omega)]; exact nI_t (by omega)
    rw [insR] at hv
    refine ex_iload_n (pc := 5) (i := 3) d_RF_addFault_5 rfl rfl ?_
    refine ex_if_le (pc := 6) (tgt := 79) d_RF_addFault_6 rfl (fun c6 => ?_) (fun c6 => ?_)
    · exact absurd c6 (nI_nle (by omega) (by omega))
    · refine ex_aload_n (pc := 9) (i := 0) d_RF_addFault_9 rfl rfl ?_
      refine ex_getr (pc := 10) 12 31 d_RF_addFault_10 FL_RF_92 (Nat.le_of_ble_eq_true rfl) rfl rfl ?_
      refine ex_iload_n (pc := 13) (i := 3) d_RF_addFault_13 rfl rfl ?_
      refine ex_iconst (pc := 14) (v := (nI 1)) d_RF_addFault_14 (by decide) ?_
      refine ex_isub (pc := 15) d_RF_addFault_15 ?_
      refine ex_ialdx (pc := 16) k (iv 120 k) d_RF_addFault_16 (Nat.le_of_ble_eq_true rfl) rfl rfl rfl hs2 (show k < 400 by omega) (mvU_lo (by omega)) ?_
      refine ex_iload_n (pc := 17) (i := 2) d_RF_addFault_17 rfl rfl ?_
      refine ex_icmp_gt (pc := 18) (tgt := 45) d_RF_addFault_18 rfl (fun c18 => ?_) (fun c18 => ?_)
      · refine ex_aload_n (pc := 45) (i := 0) d_RF_addFault_45 rfl rfl ?_
        refine ex_getr (pc := 46) 12 30 d_RF_addFault_46 FL_RF_89 (Nat.le_of_ble_eq_true rfl) rfl rfl ?_
        refine ex_iload_n (pc := 49) (i := 3) d_RF_addFault_49 rfl rfl ?_
        refine ex_aload_n (pc := 50) (i := 0) d_RF_addFault_50 rfl rfl ?_
        refine ex_getr (pc := 51) 12 30 d_RF_addFault_51 FL_RF_89 (Nat.le_of_ble_eq_true rfl) rfl rfl ?_
        refine ex_iload_n (pc := 54) (i := 3) d_RF_addFault_54 rfl rfl ?_
        refine ex_iconst (pc := 55) (v := (nI 1)) d_RF_addFault_55 (by decide) ?_
        refine ex_isub (pc := 56) d_RF_addFault_56 ?_
        refine ex_ialdx (pc := 57) k (iv 119 k) d_RF_addFault_57 (Nat.le_of_ble_eq_true rfl) rfl rfl rfl hs2 (show k < 400 by omega) (mvU_lo (by omega)) ?_
        refine ex_iast (pc := 58) (k + 1) d_RF_addFault_58 (Nat.le_of_ble_eq_true rfl) rfl rfl rfl (nI_t (by omega)) (show k + 1 < 400 by omega) ?_
        refine ex_aload_n (pc := 59) (i := 0) d_RF_addFault_59 rfl rfl ?_
        refine ex_getr (pc := 60) 12 31 d_RF_addFault_60 FL_RF_92 (Nat.le_of_ble_eq_true rfl) rfl rfl ?_
        refine ex_iload_n (pc := 63) (i := 3) d_RF_addFault_63 rfl rfl ?_
        refine ex_aload_n (pc := 64) (i := 0) d_RF_addFault_64 rfl rfl ?_
        refine ex_getr (pc := 65) 12 31 d_RF_addFault_65 FL_RF_92 (Nat.le_of_ble_eq_true rfl) rfl rfl ?_
        refine ex_iload_n (pc := 68) (i := 3) d_RF_addFault_68 rfl rfl ?_
        refine ex_iconst (pc := 69) (v := (nI 1)) d_RF_addFault_69 (by decide) ?_
        refine ex_isub (pc := 70) d_RF_addFault_70 ?_
        refine ex_ialdx (pc := 71) k (iv 120 k) d_RF_addFault_71 (Nat.le_of_ble_eq_true rfl) rfl rfl rfl hs2 (show k < 400 by omega) (mvU_lo (by omega)) ?_
        refine ex_iast (pc := 72) (k + 1) d_RF_addFault_72 (Nat.le_of_ble_eq_true rfl) rfl rfl rfl (nI_t (by omega)) (show k + 1 < 400 by omega) ?_
        refine ex_heap (h' := HP (rfMv iv k n) mp sp mo) ?_ ?_
        · show _ = HP (va_up (va_up iv 119 (mvU (iv 119) k n)) 120 (mvU (iv 120) k n)) mp sp mo
          rw [← mvU_1 hk, ← mvU_1 hk, ← rf_st]
          rfl
        refine ex_iinc (pc := 73) (v := (nI k)) d_RF_addFault_73 rfl (pk_m1 k) (by decide) ?_
        refine ex_goto (pc := 76) (tgt := 5) d_RF_addFault_76 rfl ?_
        exact ih (by omega) (by rw [if_pos (Or.inl c18)] at hv; exact hv)
      · refine ex_aload_n (pc := 21) (i := 0) d_RF_addFault_21 rfl rfl ?_
        refine ex_getr (pc := 22) 12 31 d_RF_addFault_22 FL_RF_92 (Nat.le_of_ble_eq_true rfl) rfl rfl ?_
        refine ex_iload_n (pc := 25) (i := 3) d_RF_addFault_25 rfl rfl ?_
        refine ex_iconst (pc := 26) (v := (nI 1)) d_RF_addFault_26 (by decide) ?_
        refine ex_isub (pc := 27) d_RF_addFault_27 ?_
        refine ex_ialdx (pc := 28) k (iv 120 k) d_RF_addFault_28 (Nat.le_of_ble_eq_true rfl) rfl rfl rfl hs2 (show k < 400 by omega) (mvU_lo (by omega)) ?_
        refine ex_iload_n (pc := 29) (i := 2) d_RF_addFault_29 rfl rfl ?_
        refine ex_icmp_ne (pc := 30) (tgt := 79) d_RF_addFault_30 rfl (fun c30 => ?_) (fun c30 => ?_)
        · have hno : ¬ (pl < iv 120 k ∨ (iv 120 k = pl ∧ kd < iv 119 k)) := fun q => q.elim c18 (fun q => c30 q.1)
          rw [if_neg hno] at hv
          exact ls_RF_addFault l G iv mp sp mo kd pl n (k + 1) hn hl hk hv
        · refine ex_aload_n (pc := 33) (i := 0) d_RF_addFault_33 rfl rfl ?_
          refine ex_getr (pc := 34) 12 30 d_RF_addFault_34 FL_RF_89 (Nat.le_of_ble_eq_true rfl) rfl rfl ?_
          refine ex_iload_n (pc := 37) (i := 3) d_RF_addFault_37 rfl rfl ?_
          refine ex_iconst (pc := 38) (v := (nI 1)) d_RF_addFault_38 (by decide) ?_
          refine ex_isub (pc := 39) d_RF_addFault_39 ?_
          refine ex_ialdx (pc := 40) k (iv 119 k) d_RF_addFault_40 (Nat.le_of_ble_eq_true rfl) rfl rfl rfl hs2 (show k < 400 by omega) (mvU_lo (by omega)) ?_
          refine ex_iload_n (pc := 41) (i := 1) d_RF_addFault_41 rfl rfl ?_
          refine ex_icmp_le (pc := 42) (tgt := 79) d_RF_addFault_42 rfl (fun c42 => ?_) (fun c42 => ?_)
          · have hno : ¬ (pl < iv 120 k ∨ (iv 120 k = pl ∧ kd < iv 119 k)) := fun q => q.elim c18 (fun q => absurd c42 (Int32.not_le.mpr q.2))
            rw [if_neg hno] at hv
            exact ls_RF_addFault l G iv mp sp mo kd pl n (k + 1) hn hl hk hv
          · refine ex_aload_n (pc := 45) (i := 0) d_RF_addFault_45 rfl rfl ?_
            refine ex_getr (pc := 46) 12 30 d_RF_addFault_46 FL_RF_89 (Nat.le_of_ble_eq_true rfl) rfl rfl ?_
            refine ex_iload_n (pc := 49) (i := 3) d_RF_addFault_49 rfl rfl ?_
            refine ex_aload_n (pc := 50) (i := 0) d_RF_addFault_50 rfl rfl ?_
            refine ex_getr (pc := 51) 12 30 d_RF_addFault_51 FL_RF_89 (Nat.le_of_ble_eq_true rfl) rfl rfl ?_
            refine ex_iload_n (pc := 54) (i := 3) d_RF_addFault_54 rfl rfl ?_
            refine ex_iconst (pc := 55) (v := (nI 1)) d_RF_addFault_55 (by decide) ?_
            refine ex_isub (pc := 56) d_RF_addFault_56 ?_
            refine ex_ialdx (pc := 57) k (iv 119 k) d_RF_addFault_57 (Nat.le_of_ble_eq_true rfl) rfl rfl rfl hs2 (show k < 400 by omega) (mvU_lo (by omega)) ?_
            refine ex_iast (pc := 58) (k + 1) d_RF_addFault_58 (Nat.le_of_ble_eq_true rfl) rfl rfl rfl (nI_t (by omega)) (show k + 1 < 400 by omega) ?_
            refine ex_aload_n (pc := 59) (i := 0) d_RF_addFault_59 rfl rfl ?_
            refine ex_getr (pc := 60) 12 31 d_RF_addFault_60 FL_RF_92 (Nat.le_of_ble_eq_true rfl) rfl rfl ?_
            refine ex_iload_n (pc := 63) (i := 3) d_RF_addFault_63 rfl rfl ?_
            refine ex_aload_n (pc := 64) (i := 0) d_RF_addFault_64 rfl rfl ?_
            refine ex_getr (pc := 65) 12 31 d_RF_addFault_65 FL_RF_92 (Nat.le_of_ble_eq_true rfl) rfl rfl ?_
            refine ex_iload_n (pc := 68) (i := 3) d_RF_addFault_68 rfl rfl ?_
            refine ex_iconst (pc := 69) (v := (nI 1)) d_RF_addFault_69 (by decide) ?_
            refine ex_isub (pc := 70) d_RF_addFault_70 ?_
            refine ex_ialdx (pc := 71) k (iv 120 k) d_RF_addFault_71 (Nat.le_of_ble_eq_true rfl) rfl rfl rfl hs2 (show k < 400 by omega) (mvU_lo (by omega)) ?_
            refine ex_iast (pc := 72) (k + 1) d_RF_addFault_72 (Nat.le_of_ble_eq_true rfl) rfl rfl rfl (nI_t (by omega)) (show k + 1 < 400 by omega) ?_
            refine ex_heap (h' := HP (rfMv iv k n) mp sp mo) ?_ ?_
            · show _ = HP (va_up (va_up iv 119 (mvU (iv 119) k n)) 120 (mvU (iv 120) k n)) mp sp mo
              rw [← mvU_1 hk, ← mvU_1 hk, ← rf_st]
              rfl
            refine ex_iinc (pc := 73) (v := (nI k)) d_RF_addFault_73 rfl (pk_m1 k) (by decide) ?_
            refine ex_goto (pc := 76) (tgt := 5) d_RF_addFault_76 rfl ?_
            exact ih (by omega) (by rw [if_pos (Or.inr ⟨c30, Int32.not_le.mp c42⟩)] at hv; exact hv)

set_option maxRecDepth 100000 in
set_option maxHeartbeats 4000000 in
theorem ct_RF_addFault (l : Launch) (G : ex_G) (iv : Nat → Nat → Int32) (mp : Nat → Nat) (sp mo : Nat) (kd pl : Int32) (n : Nat) (hn : iv 92 29 = nI n) (hl : n < 400) : CT l G 0 M_RF_addFault [.ref 92, .int kd, .int pl] (HP iv mp sp mo) 0 0 (fun r h' => h' = HP (rfFlt iv n kd pl) mp sp mo ∧ r = none) := by
  refine ex_enter (by decide) (Nat.le_of_ble_eq_true rfl) (fun v hv => by simp at hv; rcases hv with rfl | rfl | rfl <;> rfl) (fun p e s m args below meth c => ?_)
  refine ex_aload_n (pc := 0) (i := 0) d_RF_addFault_0 rfl rfl ?_
  refine ex_getx (pc := 1) 12 29 (nI n) d_RF_addFault_1 FL_RF_182 (Nat.le_of_ble_eq_true rfl) rfl hn ?_
  refine ex_istore_n (pc := 4) (i := 3) d_RF_addFault_4 rfl (by decide) ?_
  refine ex_heap (h' := HP (rfMv iv n n) mp sp mo) ?_ ?_
  · show _ = HP (va_up (va_up iv 119 (mvU (iv 119) n n)) 120 (mvU (iv 120) n n)) mp sp mo
    rw [mvU_n, mvU_n, up_id, up_id]
  exact lp_RF_addFault l G iv mp sp mo kd pl n hn hl n (Nat.le_refl _) rfl

def mkF (f : Nat → Int32) (a i : Nat) (v : Int32) : Nat → Int32 := fun q => if a ≤ q ∧ q < i then v else f q
theorem mk_0 {f : Nat → Int32} {a : Nat} {v : Int32} : mkF f a a v = f := by
  funext q
  exact if_neg (fun h => by omega)
theorem mk_1 {f : Nat → Int32} {a i : Nat} {v : Int32} (h : a ≤ i) : va_up (mkF f a i v) i v = mkF f a (i + 1) v := by
  funext q
  unfold va_up mkF
  by_cases h1 : q = i
  · rw [if_pos h1, if_pos (by omega)]
  · rw [if_neg h1]
    by_cases h2 : a ≤ q ∧ q < i
    · rw [if_pos h2, if_pos (by omega)]
    · rw [if_neg h2, if_neg (by omega)]
def rfMk (iv : Nat → Nat → Int32) (a i b : Nat) (v : Int32) : Nat → Nat → Int32 := va_up (va_up (va_up iv 116 (mkF (iv 116) a i (nI a))) 117 (mkF (iv 117) a i (nI b))) 118 (mkF (iv 118) a i v)
theorem rf_mk {iv : Nat → Nat → Int32} {f g e : Nat → Int32} {t : Nat} {x y z : Int32} : ex_u2 (ex_u2 (ex_u2 (va_up (va_up (va_up iv 116 f) 117 g) 118 e) 116 t x) 117 t y) 118 t z = va_up (va_up (va_up iv 116 (va_up f t x)) 117 (va_up g t y)) 118 (va_up e t z) := by
  rw [up_sw (a := 117) (b := 118) (by decide), up_sw (a := 116) (b := 118) (by decide), up_sw (a := 116) (b := 117) (by decide), ex_u2_up, up_sw (a := 117) (b := 116) (by decide), ex_u2_up, up_sw (a := 118) (b := 116) (by decide), up_sw (a := 118) (b := 117) (by decide), ex_u2_up]
set_option maxRecDepth 100000 in
set_option maxHeartbeats 4000000 in
theorem lp_RF_mark {p : Program} {e : Env} {s : State} {m : MethodId} {args : Array Value} {below : List Frame} {meth : Method} {c : Code} (l : Launch) (G : ex_G) (iv : Nat → Nat → Int32) (mp : Nat → Nat) (sp mo : Nat) (a b : Nat) (v : Int32) (hb : b ≤ 101) : ∀ (k i : Nat), i + k = b → a ≤ i → EXM M_RF_mark l G 0 (fun r h' => h' = HP (rfMk iv a b b v) mp sp mo ∧ r = none) p e s m args below meth c 3 [some (.ref 92), some (.int (nI a)), some (.int (nI b)), some (.int v), some (.int (nI i))] [] (HP (rfMk iv a i b v) mp sp mo) := by
  intro k
  induction k with
  | zero =>
    intro i hik hai
    obtain rfl : i = b := by omega
    refine ex_iload (pc := 3) d_RF_mark_3 rfl ?_
    refine ex_iload_n (pc := 5) (i := 2) d_RF_mark_5 rfl rfl ?_
    refine ex_icmp_ge (pc := 6) (tgt := 39) d_RF_mark_6 rfl (fun c6 => ?_) (fun c6 => ?_)
    · refine ex_vret d_RF_mark_39 rfl rfl (Nat.le_refl _) ?_
      exact ⟨rfl, rfl⟩
    · exact absurd (Int32.le_refl _) c6
  | succ k ih =>
    intro i hik hai
    refine ex_iload (pc := 3) d_RF_mark_3 rfl ?_
    refine ex_iload_n (pc := 5) (i := 2) d_RF_mark_5 rfl rfl ?_
    refine ex_icmp_ge (pc := 6) (tgt := 39) d_RF_mark_6 rfl (fun c6 => ?_) (fun c6 => ?_)
    · exact absurd ((n_ge (by omega) (by omega)).mp c6) (by omega)
    · refine ex_aload_n (pc := 9) (i := 0) d_RF_mark_9 rfl rfl ?_
      refine ex_getr (pc := 10) 12 26 d_RF_mark_10 FL_RF_80 (Nat.le_of_ble_eq_true rfl) rfl rfl ?_
      refine ex_iload (pc := 13) d_RF_mark_13 rfl ?_
      refine ex_iload_n (pc := 15) (i := 1) d_RF_mark_15 rfl rfl ?_
      refine ex_iast (pc := 16) i d_RF_mark_16 (Nat.le_of_ble_eq_true rfl) rfl rfl rfl (nI_t (by omega)) (show i < 101 by omega) ?_
      refine ex_aload_n (pc := 17) (i := 0) d_RF_mark_17 rfl rfl ?_
      refine ex_getr (pc := 18) 12 27 d_RF_mark_18 FL_RF_83 (Nat.le_of_ble_eq_true rfl) rfl rfl ?_
      refine ex_iload (pc := 21) d_RF_mark_21 rfl ?_
      refine ex_iload_n (pc := 23) (i := 2) d_RF_mark_23 rfl rfl ?_
      refine ex_iast (pc := 24) i d_RF_mark_24 (Nat.le_of_ble_eq_true rfl) rfl rfl rfl (nI_t (by omega)) (show i < 101 by omega) ?_
      refine ex_aload_n (pc := 25) (i := 0) d_RF_mark_25 rfl rfl ?_
      refine ex_getr (pc := 26) 12 28 d_RF_mark_26 FL_RF_86 (Nat.le_of_ble_eq_true rfl) rfl rfl ?_
      refine ex_iload (pc := 29) d_RF_mark_29 rfl ?_
      refine ex_iload_n (pc := 31) (i := 3) d_RF_mark_31 rfl rfl ?_
      refine ex_iast (pc := 32) i d_RF_mark_32 (Nat.le_of_ble_eq_true rfl) rfl rfl rfl (nI_t (by omega)) (show i < 101 by omega) ?_
      refine ex_heap (h' := HP (rfMk iv a (i + 1) b v) mp sp mo) ?_ ?_
      · show _ = HP (va_up (va_up (va_up iv 116 (mkF (iv 116) a (i + 1) (nI a))) 117 (mkF (iv 117) a (i + 1) (nI b))) 118 (mkF (iv 118) a (i + 1) v)) mp sp mo
        rw [← mk_1 hai, ← mk_1 hai, ← mk_1 hai, ← rf_mk]
        rfl
      refine ex_iinc (pc := 33) (v := (nI (i + 1))) d_RF_mark_33 rfl (nI_1 i) (by decide) ?_
      refine ex_goto (pc := 36) (tgt := 3) d_RF_mark_36 rfl ?_
      exact ih (i + 1) (by omega) (by omega)

set_option maxRecDepth 100000 in
set_option maxHeartbeats 4000000 in
theorem ct_RF_mark (l : Launch) (G : ex_G) (iv : Nat → Nat → Int32) (mp : Nat → Nat) (sp mo : Nat) (a b : Nat) (v : Int32) (hab : a ≤ b) (hb : b ≤ 101) : CT l G 0 M_RF_mark [.ref 92, .int (nI a), .int (nI b), .int v] (HP iv mp sp mo) 0 0 (fun r h' => h' = HP (rfMk iv a b b v) mp sp mo ∧ r = none) := by
  refine ex_enter (by decide) (Nat.le_of_ble_eq_true rfl) (fun v hv => by simp at hv; rcases hv with rfl | rfl | rfl | rfl <;> rfl) (fun p e s m args below meth c => ?_)
  refine ex_iload_n (pc := 0) (i := 1) d_RF_mark_0 rfl rfl ?_
  refine ex_istore (pc := 1) d_RF_mark_1 (by decide) ?_
  refine ex_heap (h' := HP (rfMk iv a a b v) mp sp mo) ?_ ?_
  · show _ = HP (va_up (va_up (va_up iv 116 (mkF (iv 116) a a (nI a))) 117 (mkF (iv 117) a a (nI b))) 118 (mkF (iv 118) a a v)) mp sp mo
    rw [mk_0, mk_0, mk_0, up_id, up_id, up_id]
  exact lp_RF_mark l G iv mp sp mo a b v hb (b - a) a (by omega) (Nat.le_refl _)

def rfNew (iv : Nat → Nat → Int32) (n : Nat) (k1 k2 k3 k4 : Int32) : Nat → Nat → Int32 := ex_u2 (ex_u2 (ex_u2 (ex_u2 (ex_u2 (ex_u2 (ex_u2 (ex_u2 (ex_u2 (ex_u2 iv 107 n k1) 108 n k2) 109 n k3) 111 n k4) 112 n k4) 110 n k4) 113 n (-1)) 114 n (-1)) 115 n (nI 1)) 92 16 (nI (n + 1))
set_option maxRecDepth 100000 in
set_option maxHeartbeats 4000000 in
theorem ct_RF_newElement (l : Launch) (G : ex_G) (iv : Nat → Nat → Int32) (mp : Nat → Nat) (sp mo : Nat) (n : Nat) (hn : iv 92 16 = nI n) (hl : n < 40) (k1 k2 k3 k4 : Int32) : CT l G 0 M_RF_newElement [.ref 92, .int k1, .int k2, .int k3, .int k4] (HP iv mp sp mo) 0 0 (fun r h' => h' = HP (rfNew iv n k1 k2 k3 k4) mp sp mo ∧ r = some (.int (nI n))) := by
  refine ex_enter (by decide) (Nat.le_of_ble_eq_true rfl) (fun v hv => by simp at hv; rcases hv with rfl | rfl | rfl | rfl | rfl <;> rfl) (fun p e s m args below meth c => ?_)
  refine ex_aload_n (pc := 0) (i := 0) d_RF_newElement_0 rfl rfl ?_
  refine ex_getr (pc := 1) 12 17 d_RF_newElement_1 FL_RF_53 (Nat.le_of_ble_eq_true rfl) rfl rfl ?_
  refine ex_aload_n (pc := 4) (i := 0) d_RF_newElement_4 rfl rfl ?_
  refine ex_getx (pc := 5) 12 16 (nI n) d_RF_newElement_5 FL_RF_185 (Nat.le_of_ble_eq_true rfl) rfl hn ?_
  refine ex_iload_n (pc := 8) (i := 1) d_RF_newElement_8 rfl rfl ?_
  refine ex_iast (pc := 9) n d_RF_newElement_9 (Nat.le_of_ble_eq_true rfl) rfl rfl rfl (nI_t (by omega)) (show n < 40 from hl) ?_
  refine ex_aload_n (pc := 10) (i := 0) d_RF_newElement_10 rfl rfl ?_
  refine ex_getr (pc := 11) 12 18 d_RF_newElement_11 FL_RF_56 (Nat.le_of_ble_eq_true rfl) rfl rfl ?_
  refine ex_aload_n (pc := 14) (i := 0) d_RF_newElement_14 rfl rfl ?_
  refine ex_getx (pc := 15) 12 16 (nI n) d_RF_newElement_15 FL_RF_185 (Nat.le_of_ble_eq_true rfl) rfl hn ?_
  refine ex_iload_n (pc := 18) (i := 2) d_RF_newElement_18 rfl rfl ?_
  refine ex_iast (pc := 19) n d_RF_newElement_19 (Nat.le_of_ble_eq_true rfl) rfl rfl rfl (nI_t (by omega)) (show n < 40 from hl) ?_
  refine ex_aload_n (pc := 20) (i := 0) d_RF_newElement_20 rfl rfl ?_
  refine ex_getr (pc := 21) 12 19 d_RF_newElement_21 FL_RF_59 (Nat.le_of_ble_eq_true rfl) rfl rfl ?_
  refine ex_aload_n (pc := 24) (i := 0) d_RF_newElement_24 rfl rfl ?_
  refine ex_getx (pc := 25) 12 16 (nI n) d_RF_newElement_25 FL_RF_185 (Nat.le_of_ble_eq_true rfl) rfl hn ?_
  refine ex_iload_n (pc := 28) (i := 3) d_RF_newElement_28 rfl rfl ?_
  refine ex_iast (pc := 29) n d_RF_newElement_29 (Nat.le_of_ble_eq_true rfl) rfl rfl rfl (nI_t (by omega)) (show n < 40 from hl) ?_
  refine ex_aload_n (pc := 30) (i := 0) d_RF_newElement_30 rfl rfl ?_
  refine ex_getr (pc := 31) 12 21 d_RF_newElement_31 FL_RF_65 (Nat.le_of_ble_eq_true rfl) rfl rfl ?_
  refine ex_aload_n (pc := 34) (i := 0) d_RF_newElement_34 rfl rfl ?_
  refine ex_getx (pc := 35) 12 16 (nI n) d_RF_newElement_35 FL_RF_185 (Nat.le_of_ble_eq_true rfl) rfl hn ?_
  refine ex_iload (pc := 38) d_RF_newElement_38 rfl ?_
  refine ex_iast (pc := 40) n d_RF_newElement_40 (Nat.le_of_ble_eq_true rfl) rfl rfl rfl (nI_t (by omega)) (show n < 40 from hl) ?_
  refine ex_aload_n (pc := 41) (i := 0) d_RF_newElement_41 rfl rfl ?_
  refine ex_getr (pc := 42) 12 22 d_RF_newElement_42 FL_RF_68 (Nat.le_of_ble_eq_true rfl) rfl rfl ?_
  refine ex_aload_n (pc := 45) (i := 0) d_RF_newElement_45 rfl rfl ?_
  refine ex_getx (pc := 46) 12 16 (nI n) d_RF_newElement_46 FL_RF_185 (Nat.le_of_ble_eq_true rfl) rfl hn ?_
  refine ex_iload (pc := 49) d_RF_newElement_49 rfl ?_
  refine ex_iast (pc := 51) n d_RF_newElement_51 (Nat.le_of_ble_eq_true rfl) rfl rfl rfl (nI_t (by omega)) (show n < 40 from hl) ?_
  refine ex_aload_n (pc := 52) (i := 0) d_RF_newElement_52 rfl rfl ?_
  refine ex_getr (pc := 53) 12 20 d_RF_newElement_53 FL_RF_62 (Nat.le_of_ble_eq_true rfl) rfl rfl ?_
  refine ex_aload_n (pc := 56) (i := 0) d_RF_newElement_56 rfl rfl ?_
  refine ex_getx (pc := 57) 12 16 (nI n) d_RF_newElement_57 FL_RF_185 (Nat.le_of_ble_eq_true rfl) rfl hn ?_
  refine ex_iload (pc := 60) d_RF_newElement_60 rfl ?_
  refine ex_iast (pc := 62) n d_RF_newElement_62 (Nat.le_of_ble_eq_true rfl) rfl rfl rfl (nI_t (by omega)) (show n < 40 from hl) ?_
  refine ex_aload_n (pc := 63) (i := 0) d_RF_newElement_63 rfl rfl ?_
  refine ex_getr (pc := 64) 12 23 d_RF_newElement_64 FL_RF_71 (Nat.le_of_ble_eq_true rfl) rfl rfl ?_
  refine ex_aload_n (pc := 67) (i := 0) d_RF_newElement_67 rfl rfl ?_
  refine ex_getx (pc := 68) 12 16 (nI n) d_RF_newElement_68 FL_RF_185 (Nat.le_of_ble_eq_true rfl) rfl hn ?_
  refine ex_iconst (pc := 71) (v := (-1)) d_RF_newElement_71 (by decide) ?_
  refine ex_iast (pc := 72) n d_RF_newElement_72 (Nat.le_of_ble_eq_true rfl) rfl rfl rfl (nI_t (by omega)) (show n < 40 from hl) ?_
  refine ex_aload_n (pc := 73) (i := 0) d_RF_newElement_73 rfl rfl ?_
  refine ex_getr (pc := 74) 12 24 d_RF_newElement_74 FL_RF_74 (Nat.le_of_ble_eq_true rfl) rfl rfl ?_
  refine ex_aload_n (pc := 77) (i := 0) d_RF_newElement_77 rfl rfl ?_
  refine ex_getx (pc := 78) 12 16 (nI n) d_RF_newElement_78 FL_RF_185 (Nat.le_of_ble_eq_true rfl) rfl hn ?_
  refine ex_iconst (pc := 81) (v := (-1)) d_RF_newElement_81 (by decide) ?_
  refine ex_iast (pc := 82) n d_RF_newElement_82 (Nat.le_of_ble_eq_true rfl) rfl rfl rfl (nI_t (by omega)) (show n < 40 from hl) ?_
  refine ex_aload_n (pc := 83) (i := 0) d_RF_newElement_83 rfl rfl ?_
  refine ex_getr (pc := 84) 12 25 d_RF_newElement_84 FL_RF_77 (Nat.le_of_ble_eq_true rfl) rfl rfl ?_
  refine ex_aload_n (pc := 87) (i := 0) d_RF_newElement_87 rfl rfl ?_
  refine ex_getx (pc := 88) 12 16 (nI n) d_RF_newElement_88 FL_RF_185 (Nat.le_of_ble_eq_true rfl) rfl hn ?_
  refine ex_iconst (pc := 91) (v := (nI 1)) d_RF_newElement_91 (by decide) ?_
  refine ex_zast (pc := 92) n d_RF_newElement_92 (Nat.le_of_ble_eq_true rfl) rfl rfl rfl (nI_t (by omega)) (show n < 40 from hl) ?_
  refine ex_aload_n (pc := 93) (i := 0) d_RF_newElement_93 rfl rfl ?_
  refine ex_dup (pc := 94) d_RF_newElement_94 rfl ?_
  refine ex_getx (pc := 95) 12 16 (nI n) d_RF_newElement_95 FL_RF_185 (Nat.le_of_ble_eq_true rfl) rfl hn ?_
  refine ex_iconst (pc := 98) (v := (nI 1)) d_RF_newElement_98 (by decide) ?_
  refine ex_iadd (pc := 99) d_RF_newElement_99 ?_
  refine ex_puti (pc := 100) 12 16 .int d_RF_newElement_100 (PF_RF_185 _) (Nat.le_of_ble_eq_true rfl) rfl rfl rfl ?_
  refine ex_heap (h' := HP (rfNew iv n k1 k2 k3 k4) mp sp mo) ?_ ?_
  · rw [nI_s, show vp_nar .boolean (nI 1) = nI 1 from by decide]
    rfl
  refine ex_aload_n (pc := 103) (i := 0) d_RF_newElement_103 rfl rfl ?_
  refine ex_getx (pc := 104) 12 16 (nI (n + 1)) d_RF_newElement_104 FL_RF_185 (Nat.le_of_ble_eq_true rfl) rfl rfl ?_
  refine ex_iconst (pc := 107) (v := (nI 1)) d_RF_newElement_107 (by decide) ?_
  refine ex_isub (pc := 108) d_RF_newElement_108 ?_
  refine ex_top (nI_pred9 n) ?_
  refine ex_iret (ty := .int) d_RF_newElement_109 rfl rfl rfl (Nat.le_refl _) ?_
  exact ⟨rfl, rfl⟩

def curR (o : Nat → Int32) : Nat → Nat
  | 0 => 0
  | k + 1 => if o (k + 1) = 0 then curR o k else k + 1
set_option maxRecDepth 100000 in
set_option maxHeartbeats 4000000 in
theorem lp_RF_current {p : Program} {e : Env} {s : State} {m : MethodId} {args : Array Value} {below : List Frame} {meth : Method} {c : Code} (l : Launch) (G : ex_G) (iv : Nat → Nat → Int32) (mp : Nat → Nat) (sp mo : Nat) (v : Nat) : ∀ (k : Nat), k < 40 → curR (iv 115) k = v → EXM M_RF_current l G 0 (fun r h' => h' = HP iv mp sp mo ∧ r = some (.int (nI v))) p e s m args below meth c 7 [some (.ref 92), some (.int (nI k))] [] (HP iv mp sp mo) := by
  intro k
  induction k with
  | zero =>
    intro hk hv
    subst hv
    refine ex_iload_n (pc := 7) (i := 1) d_RF_current_7 rfl rfl ?_
    refine ex_if_le (pc := 8) (tgt := 26) d_RF_current_8 rfl (fun c8 => ?_) (fun c8 => ?_)
    · refine ex_iload_n (pc := 26) (i := 1) d_RF_current_26 rfl rfl ?_
      refine ex_iret (ty := .int) d_RF_current_27 rfl rfl rfl (Nat.le_refl _) ?_
      exact ⟨rfl, rfl⟩
    · exact absurd (Int32.le_refl _) c8
  | succ k ih =>
    intro hk hv
    rw [curR] at hv
    refine ex_iload_n (pc := 7) (i := 1) d_RF_current_7 rfl rfl ?_
    refine ex_if_le (pc := 8) (tgt := 26) d_RF_current_8 rfl (fun c8 => ?_) (fun c8 => ?_)
    · exact absurd c8 (nI_nle (by omega) (by omega))
    · refine ex_aload_n (pc := 11) (i := 0) d_RF_current_11 rfl rfl ?_
      refine ex_getr (pc := 12) 12 25 d_RF_current_12 FL_RF_77 (Nat.le_of_ble_eq_true rfl) rfl rfl ?_
      refine ex_iload_n (pc := 15) (i := 1) d_RF_current_15 rfl rfl ?_
      refine ex_zaldx (pc := 16) (k + 1) (iv 115 ((k + 1))) d_RF_current_16 (Nat.le_of_ble_eq_true rfl) rfl rfl rfl (nI_t (by omega)) (show k + 1 < 40 from hk) rfl ?_
      refine ex_if_ne (pc := 17) (tgt := 26) d_RF_current_17 rfl (fun c17 => ?_) (fun c17 => ?_)
      · refine ex_iload_n (pc := 26) (i := 1) d_RF_current_26 rfl rfl ?_
        refine ex_iret (ty := .int) d_RF_current_27 rfl rfl rfl (Nat.le_refl _) ?_
        exact ⟨rfl, by rw [← hv, if_neg c17]⟩
      · refine ex_iinc (pc := 20) (v := (nI k)) d_RF_current_20 rfl (pk_m1 k) (by decide) ?_
        refine ex_goto (pc := 23) (tgt := 7) d_RF_current_23 rfl ?_
        exact ih (by omega) (by rw [if_pos c17] at hv; exact hv)

set_option maxRecDepth 100000 in
set_option maxHeartbeats 4000000 in
theorem ct_RF_current (l : Launch) (G : ex_G) (iv : Nat → Nat → Int32) (mp : Nat → Nat) (sp mo : Nat) (n : Nat) (hn : iv 92 16 = nI (n + 1)) (hl : n < 40) : CT l G 0 M_RF_current [.ref 92] (HP iv mp sp mo) 0 0 (fun r h' => h' = HP iv mp sp mo ∧ r = some (.int (nI (curR (iv 115) n)))) := by
  refine ex_enter (by decide) (Nat.le_of_ble_eq_true rfl) (fun v hv => by simp at hv; rcases hv with rfl <;> rfl) (fun p e s m args below meth c => ?_)
  refine ex_aload_n (pc := 0) (i := 0) d_RF_current_0 rfl rfl ?_
  refine ex_getx (pc := 1) 12 16 (nI (n + 1)) d_RF_current_1 FL_RF_185 (Nat.le_of_ble_eq_true rfl) rfl hn ?_
  refine ex_iconst (pc := 4) (v := (nI 1)) d_RF_current_4 (by decide) ?_
  refine ex_isub (pc := 5) d_RF_current_5 ?_
  refine ex_top (nI_pred9 n) ?_
  refine ex_istore_n (pc := 6) (i := 1) d_RF_current_6 rfl (by decide) ?_
  exact lp_RF_current l G iv mp sp mo _ n hl rfl

set_option maxRecDepth 100000 in
set_option maxHeartbeats 4000000 in
theorem lp_RF_openElements {p : Program} {e : Env} {s : State} {m : MethodId} {args : Array Value} {below : List Frame} {meth : Method} {c : Code} (l : Launch) (G : ex_G) (iv : Nat → Nat → Int32) (mp : Nat → Nat) (sp mo : Nat) (n : Nat) (hn : iv 92 16 = nI n) (hl : n ≤ 40) (v : Nat) : ∀ (k i a : Nat), i + k = n → a ≤ i → cntF (fun q => decide (¬ iv 115 q = 0)) k i a = v → EXM M_RF_openElements l G 0 (fun r h' => h' = HP iv mp sp mo ∧ r = some (.int (nI v))) p e s m args below meth c 4 [some (.ref 92), some (.int (nI a)), some (.int (nI i))] [] (HP iv mp sp mo) := by
  intro k
  induction k with
  | zero =>
    intro i a hik ha hv
    subst hv
    refine ex_iload_n (pc := 4) (i := 2) d_RF_openElements_4 rfl rfl ?_
    refine ex_aload_n (pc := 5) (i := 0) d_RF_openElements_5 rfl rfl ?_
    refine ex_getx (pc := 6) 12 16 (nI n) d_RF_openElements_6 FL_RF_185 (Nat.le_of_ble_eq_true rfl) rfl hn ?_
    refine ex_icmp_ge (pc := 9) (tgt := 30) d_RF_openElements_9 rfl (fun c9 => ?_) (fun c9 => ?_)
    · refine ex_iload_n (pc := 30) (i := 1) d_RF_openElements_30 rfl rfl ?_
      refine ex_iret (ty := .int) d_RF_openElements_31 rfl rfl rfl (Nat.le_refl _) ?_
      exact ⟨rfl, rfl⟩
    · exact absurd ((n_ge (by omega) (by omega)).mpr (by omega)) c9
  | succ k ih =>
    intro i a hik ha hv
    rw [cntF] at hv
    refine ex_iload_n (pc := 4) (i := 2) d_RF_openElements_4 rfl rfl ?_
    refine ex_aload_n (pc := 5) (i := 0) d_RF_openElements_5 rfl rfl ?_
    refine ex_getx (pc := 6) 12 16 (nI n) d_RF_openElements_6 FL_RF_185 (Nat.le_of_ble_eq_true rfl) rfl hn ?_
    refine ex_icmp_ge (pc := 9) (tgt := 30) d_RF_openElements_9 rfl (fun c9 => ?_) (fun c9 => ?_)
    · exact absurd ((n_ge (by omega) (by omega)).mp c9) (by omega)
    · refine ex_aload_n (pc := 12) (i := 0) d_RF_openElements_12 rfl rfl ?_
      refine ex_getr (pc := 13) 12 25 d_RF_openElements_13 FL_RF_77 (Nat.le_of_ble_eq_true rfl) rfl rfl ?_
      refine ex_iload_n (pc := 16) (i := 2) d_RF_openElements_16 rfl rfl ?_
      refine ex_zaldx (pc := 17) i (iv 115 i) d_RF_openElements_17 (Nat.le_of_ble_eq_true rfl) rfl rfl rfl (nI_t (by omega)) (show i < 40 by omega) rfl ?_
      refine ex_if_eq (pc := 18) (tgt := 24) d_RF_openElements_18 rfl (fun c18 => ?_) (fun c18 => ?_)
      · refine ex_iinc (pc := 24) (v := (nI (i + 1))) d_RF_openElements_24 rfl (nI_1 i) (by decide) ?_
        refine ex_goto (pc := 27) (tgt := 4) d_RF_openElements_27 rfl ?_
        exact ih (i + 1) a (by omega) (by omega) (by rw [if_neg (by simp [c18])] at hv; exact hv)
      · refine ex_iinc (pc := 21) (v := (nI (a + 1))) d_RF_openElements_21 rfl (nI_1 a) (by decide) ?_
        refine ex_iinc (pc := 24) (v := (nI (i + 1))) d_RF_openElements_24 rfl (nI_1 i) (by decide) ?_
        refine ex_goto (pc := 27) (tgt := 4) d_RF_openElements_27 rfl ?_
        exact ih (i + 1) (a + 1) (by omega) (by omega) (by rw [if_pos (by simp [c18])] at hv; exact hv)

set_option maxRecDepth 100000 in
set_option maxHeartbeats 4000000 in
theorem ct_RF_openElements (l : Launch) (G : ex_G) (iv : Nat → Nat → Int32) (mp : Nat → Nat) (sp mo : Nat) (n : Nat) (hn : iv 92 16 = nI (n + 1)) (hl : n < 40) : CT l G 0 M_RF_openElements [.ref 92] (HP iv mp sp mo) 0 0 (fun r h' => h' = HP iv mp sp mo ∧ r = some (.int (nI (cntF (fun q => decide (¬ iv 115 q = 0)) n 1 0)))) := by
  refine ex_enter (by decide) (Nat.le_of_ble_eq_true rfl) (fun v hv => by simp at hv; rcases hv with rfl <;> rfl) (fun p e s m args below meth c => ?_)
  refine ex_iconst (pc := 0) (v := (nI 0)) d_RF_openElements_0 (by decide) ?_
  refine ex_istore_n (pc := 1) (i := 1) d_RF_openElements_1 rfl (by decide) ?_
  refine ex_iconst (pc := 2) (v := (nI 1)) d_RF_openElements_2 (by decide) ?_
  refine ex_istore_n (pc := 3) (i := 2) d_RF_openElements_3 rfl (by decide) ?_
  exact lp_RF_openElements l G iv mp sp mo (n + 1) hn (by omega) _ n 1 0 (by omega) (by omega) rfl

