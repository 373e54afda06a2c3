/-! the form (reference) -/
def looR (iv : Nat → Nat → Int32) (T : TS) (i : Nat) : Bool := fbR iv T i && (decide (0 < chC T.e T.cn i) && decide ((T.e i).ik = -1))
theorem looR_c {iv : Nat → Nat → Int32} {T : TS} : ∀ i, i ≤ T.cn → looR iv T i = true → 0 < chC T.e T.cn i := fun i _ h => by
  unfold looR at h
  rw [Bool.and_eq_true, Bool.and_eq_true] at h
  exact of_decide_eq_true h.2.1
set_option maxRecDepth 100000 in
set_option maxHeartbeats 4000000 in
theorem lp_RF_loose {p : Program} {e : Env} {s : State} {m : MethodId} {args : Array Value} {below : List Frame} {meth : Method} {c : Code} (l : Launch) (G : ex_G) (iv : Nat → Nat → Int32) (mp : Nat → Nat) (sp mo : Nat) (mn : Nat → Nat) (a : Nat → Int32) (n : Nat) (hA : TxR iv a n) (T : TS) (hT : RefT iv mn n T) (hX : tX a T n) (hs : T.stk = []) (iv1 : Nat → Nat → Int32) (s9 : List Int32) (hq : FmQ 92 42 128 iv iv1 s9) (i : Nat) (hi : i ≤ T.cn) (PP : Option Value → ex_H → Prop) (hK : ∀ u : Option Value, EXM M_RF_loose l G 1 PP p e s m args below meth c 47 [some (.ref 92), some (.int (nI i)), some (.int (nI (moR T i))), some (.int (b2i (decide (0 < chC T.e T.cn i)))), u] [] (HP iv1 mp sp mo)) : ∀ (k q : Nat) (bB : Bool), q + k = T.cn → bB = decide (0 < chC T.e q i) → EXM M_RF_loose l G 1 (fun r h' => PP r h') p e s m args below meth c 11 [some (.ref 92), some (.int (nI i)), some (.int (nI (moR T i))), some (.int (b2i bB)), some (.int (nI (q + 1)))] [] (HP iv1 mp sp mo) := by
  intro k
  induction k with
  | zero =>
    intro q bB hqk hb
    have hn := hA.1
    have hcn : T.cn ≤ 33 := by have := hX.1.1; omega
    have hfr : ∀ q j, q ≠ 128 → (q ≠ 92 ∨ j ≠ 42) → iv1 q j = iv q j := hq.2.2
    have h16 : iv1 92 16 = nI (T.cn + 1) := (hfr _ _ (by decide) (Or.inr (by decide))).trans hT.1
    have hpr : ∀ k, 0 < k → k ≤ T.cn → iv1 108 k = nI (T.e k).pr := fun k k1 k2 => by
      have := (hT.2.1 k k2).2.1
      rw [if_neg (by omega)] at this
      exact (hfr _ _ (by decide) (Or.inl (by decide))).trans this
    have hple : ∀ k, 0 < k → k ≤ T.cn → (T.e k).pr < k := fun k k1 k2 => (hX.1.2.2.2.1 k k1 k2).2.1
    have hqc : q = T.cn := by omega
    subst hb
    rw [hqc]
    refine ex_iload (pc := 11) d_RF_loose_11 rfl ?_
    refine ex_aload_n (pc := 13) (i := 0) d_RF_loose_13 rfl rfl ?_
    refine ex_getx (pc := 14) 12 16 (nI (T.cn + 1)) d_RF_loose_14 FL_RF_185 (Nat.le_of_ble_eq_true rfl) rfl h16 ?_
    refine ex_icmp_ge (pc := 17) (tgt := 47) d_RF_loose_17 rfl (fun c17 => ?_) (fun c17 => ?_)
    · exact hK _
    · exact absurd ((n_ge (by omega) (by omega)).mpr (by omega)) c17
  | succ k ih =>
    intro q bB hqk hb
    have hn := hA.1
    have hcn : T.cn ≤ 33 := by have := hX.1.1; omega
    have hfr : ∀ q j, q ≠ 128 → (q ≠ 92 ∨ j ≠ 42) → iv1 q j = iv q j := hq.2.2
    have h16 : iv1 92 16 = nI (T.cn + 1) := (hfr _ _ (by decide) (Or.inr (by decide))).trans hT.1
    have hpr : ∀ k, 0 < k → k ≤ T.cn → iv1 108 k = nI (T.e k).pr := fun k k1 k2 => by
      have := (hT.2.1 k k2).2.1
      rw [if_neg (by omega)] at this
      exact (hfr _ _ (by decide) (Or.inl (by decide))).trans this
    have hple : ∀ k, 0 < k → k ≤ T.cn → (T.e k).pr < k := fun k k1 k2 => (hX.1.2.2.2.1 k k1 k2).2.1
    have hpq := hpr (q + 1) (by omega) (by omega)
    have hpl := hple (q + 1) (by omega) (by omega)
    have hst : chC T.e (q + 1) i = chC T.e q i + (if (T.e (q + 1)).pr = i then 1 else 0) := rfl
    refine ex_iload (pc := 11) d_RF_loose_11 rfl ?_
    refine ex_aload_n (pc := 13) (i := 0) d_RF_loose_13 rfl rfl ?_
    refine ex_getx (pc := 14) 12 16 (nI (T.cn + 1)) d_RF_loose_14 FL_RF_185 (Nat.le_of_ble_eq_true rfl) rfl h16 ?_
    refine ex_icmp_ge (pc := 17) (tgt := 47) d_RF_loose_17 rfl (fun c17 => ?_) (fun c17 => ?_)
    · exact absurd ((n_ge (by omega) (by omega)).mp c17) (by omega)
    · refine ex_iload_n (pc := 20) (i := 3) d_RF_loose_20 rfl rfl ?_
      refine ex_if_ne (pc := 21) (tgt := 35) d_RF_loose_21 rfl (fun c21 => ?_) (fun c21 => ?_)
      · refine ex_iconst (pc := 35) (v := (nI 1)) d_RF_loose_35 (by decide) ?_
        refine ex_goto (pc := 36) (tgt := 40) d_RF_loose_36 rfl ?_
        refine ex_istore_n (pc := 40) (i := 3) d_RF_loose_40 rfl (by decide) ?_
        refine ex_iinc (pc := 41) (v := (nI (q + 1 + 1))) d_RF_loose_41 rfl (nI_1 (q + 1)) (by decide) ?_
        refine ex_goto (pc := 44) (tgt := 11) d_RF_loose_44 rfl ?_
        exact ih (q + 1) true (by omega) (by have z := b2i_1 c21; rw [z] at hb; rw [decide_eq_true (by have := of_decide_eq_true hb.symm; omega)])
      · refine ex_aload_n (pc := 24) (i := 0) d_RF_loose_24 rfl rfl ?_
        refine ex_getr (pc := 25) 12 18 d_RF_loose_25 FL_RF_56 (Nat.le_of_ble_eq_true rfl) rfl rfl ?_
        refine ex_iload (pc := 28) d_RF_loose_28 rfl ?_
        refine ex_ialdx (pc := 30) (q + 1) (nI (T.e (q + 1)).pr) d_RF_loose_30 (Nat.le_of_ble_eq_true rfl) rfl rfl rfl (nI_t (by omega)) (show (q + 1) < 40 by omega) hpq ?_
        refine ex_iload_n (pc := 31) (i := 1) d_RF_loose_31 rfl rfl ?_
        refine ex_icmp_ne (pc := 32) (tgt := 39) d_RF_loose_32 rfl (fun c32 => ?_) (fun c32 => ?_)
        · refine ex_iconst (pc := 39) (v := (nI 0)) d_RF_loose_39 (by decide) ?_
          refine ex_istore_n (pc := 40) (i := 3) d_RF_loose_40 rfl (by decide) ?_
          refine ex_iinc (pc := 41) (v := (nI (q + 1 + 1))) d_RF_loose_41 rfl (nI_1 (q + 1)) (by decide) ?_
          refine ex_goto (pc := 44) (tgt := 11) d_RF_loose_44 rfl ?_
          exact ih (q + 1) false (by omega) (by have z := b2i_0 c21; rw [z] at hb; have z2 := of_decide_eq_false hb.symm; rw [hst, if_neg (fun w => c32 (by rw [w])), decide_eq_false (by omega)])
        · refine ex_iconst (pc := 35) (v := (nI 1)) d_RF_loose_35 (by decide) ?_
          refine ex_goto (pc := 36) (tgt := 40) d_RF_loose_36 rfl ?_
          refine ex_istore_n (pc := 40) (i := 3) d_RF_loose_40 rfl (by decide) ?_
          refine ex_iinc (pc := 41) (v := (nI (q + 1 + 1))) d_RF_loose_41 rfl (nI_1 (q + 1)) (by decide) ?_
          refine ex_goto (pc := 44) (tgt := 11) d_RF_loose_44 rfl ?_
          exact ih (q + 1) true (by omega) (by rw [hst, if_pos ((n_eq (by omega) (by omega)).mp c32), decide_eq_true (by omega)])

set_option maxRecDepth 100000 in
set_option maxHeartbeats 4000000 in
theorem ct_RF_loose (l : Launch) (G : ex_G) (iv : Nat → Nat → Int32) (mp : Nat → Nat) (sp mo : Nat) (mn : Nat → Nat) (a : Nat → Int32) (n : Nat) (hA : TxR iv a n) (T : TS) (hT : RefT iv mn n T) (hX : tX a T n) (hs : T.stk = []) (iv1 : Nat → Nat → Int32) (s9 : List Int32) (hq : FmQ 92 42 128 iv iv1 s9) (i : Nat) (hi : i ≤ T.cn) : CT l G 1 M_RF_loose [.ref 92, .int (nI i)] (HP iv1 mp sp mo) 0 0 (fun r h' => h' = HP iv1 mp sp mo ∧ r = some (.int (b2i (looR iv T i)))) := by
  refine ex_enter (by decide) (Nat.le_of_ble_eq_true rfl) (fun v hv => by simp at hv; rcases hv with rfl | rfl <;> rfl) (fun p e s m args below meth c => ?_)
  have hn := hA.1
  have hcn : T.cn ≤ 33 := by have := hX.1.1; omega
  have hfr : ∀ q j, q ≠ 128 → (q ≠ 92 ∨ j ≠ 42) → iv1 q j = iv q j := hq.2.2
  have h16 : iv1 92 16 = nI (T.cn + 1) := (hfr _ _ (by decide) (Or.inr (by decide))).trans hT.1
  have hpr : ∀ k, 0 < k → k ≤ T.cn → iv1 108 k = nI (T.e k).pr := fun k k1 k2 => by
    have := (hT.2.1 k k2).2.1
    rw [if_neg (by omega)] at this
    exact (hfr _ _ (by decide) (Or.inl (by decide))).trans this
  have hple : ∀ k, 0 < k → k ≤ T.cn → (T.e k).pr < k := fun k k1 k2 => (hX.1.2.2.2.1 k k1 k2).2.1
  have hm9 : moR T i < 9 := moR_lt hX.1 hi
  have hE := hT.2.1 i hi
  have hmo : (if i = 0 then nI 8 else iv1 107 i - nI 97) = nI (moR T i) := by
    by_cases z : i = 0
    · rw [if_pos z, z, moR_0 hX.1]
    · have hnm := (hX.1.2.2.2.1 i (by omega) hi).1
      rw [if_neg z, hfr 107 i (by decide) (Or.inl (by decide)), hE.1, nmS hnm]
      unfold moR
      rw [(row_nm hnm).1]
  have hneg := ik_neg (show n ≤ 1000 by omega) (hX.1.2.2.2.2.2.2 i hi)
  have h94 : iv1 94 (moR T i) = iv 94 (moR T i) := hfr _ _ (by decide) (Or.inl (by decide))
  have h95 : iv1 95 (moR T i) = iv 95 (moR T i) := hfr _ _ (by decide) (Or.inl (by decide))
  have h114 : iv1 114 i = (T.e i).ik := (hfr _ _ (by decide) (Or.inl (by decide))).trans hE.2.2.2
  refine ex_aload_n (pc := 0) (i := 0) d_RF_loose_0 rfl rfl ?_
  refine ex_iload_n (pc := 1) (i := 1) d_RF_loose_1 rfl rfl ?_
  refine ex_callV (pc := 2) (M' := M_RF_modelOf) (as := [.int (nI i)]) (st := []) d_RF_loose_2 MW_RF_modelOf MI_RF_modelOf LK_RF_225 (Nat.le_of_ble_eq_true rfl) rfl rfl rfl (ct_RF_modelOf l G iv1 mp sp mo i (by omega)) (ex_lt_rm (by decide)) ⟨Nat.le_refl _, Nat.le_refl _⟩ rfl rfl (Nat.le_of_ble_eq_true rfl) ?_
  rintro _ _ ⟨rfl, rfl⟩
  refine ex_top hmo ?_
  refine ex_istore_n (pc := 5) (i := 2) d_RF_loose_5 rfl (by decide) ?_
  refine ex_iconst (pc := 6) (v := (nI 0)) d_RF_loose_6 (by decide) ?_
  refine ex_istore_n (pc := 7) (i := 3) d_RF_loose_7 rfl (by decide) ?_
  refine ex_iconst (pc := 8) (v := (nI 1)) d_RF_loose_8 (by decide) ?_
  refine ex_istore (pc := 9) d_RF_loose_9 (by decide) ?_
  refine lp_RF_loose l G iv mp sp mo mn a n hA T hT hX hs iv1 s9 hq i hi _ (fun u => ?_) T.cn 0 false (by omega) rfl
  refine ex_aload_n (pc := 47) (i := 0) d_RF_loose_47 rfl rfl ?_
  refine ex_getr (pc := 48) 12 2 d_RF_loose_48 FL_RF_13 (Nat.le_of_ble_eq_true rfl) rfl rfl ?_
  refine ex_iload_n (pc := 51) (i := 2) d_RF_loose_51 rfl rfl ?_
  refine ex_zaldx (pc := 52) (moR T i) (iv 94 (moR T i)) d_RF_loose_52 (Nat.le_of_ble_eq_true rfl) rfl rfl rfl (nI_t (by omega)) (show (moR T i) < 10 by omega) h94 ?_
  refine ex_if_eq (pc := 53) (tgt := 82) d_RF_loose_53 rfl (fun c53 => ?_) (fun c53 => ?_)
  · refine ex_iconst (pc := 82) (v := (nI 0)) d_RF_loose_82 (by decide) ?_
    refine ex_iret (ty := .boolean) d_RF_loose_83 rfl rfl rfl (Nat.le_refl _) ?_
    exact ⟨rfl, by unfold looR fbR prR; rw [decide_eq_false (p := ¬ iv 94 (moR T i) = 0) (fun z => z c53)]; rfl⟩
  · refine ex_aload_n (pc := 56) (i := 0) d_RF_loose_56 rfl rfl ?_
    refine ex_getr (pc := 57) 12 3 d_RF_loose_57 FL_RF_17 (Nat.le_of_ble_eq_true rfl) rfl rfl ?_
    refine ex_iload_n (pc := 60) (i := 2) d_RF_loose_60 rfl rfl ?_
    refine ex_zaldx (pc := 61) (moR T i) (iv 95 (moR T i)) d_RF_loose_61 (Nat.le_of_ble_eq_true rfl) rfl rfl rfl (nI_t (by omega)) (show (moR T i) < 10 by omega) h95 ?_
    refine ex_if_ne (pc := 62) (tgt := 82) d_RF_loose_62 rfl (fun c62 => ?_) (fun c62 => ?_)
    · refine ex_iconst (pc := 82) (v := (nI 0)) d_RF_loose_82 (by decide) ?_
      refine ex_iret (ty := .boolean) d_RF_loose_83 rfl rfl rfl (Nat.le_refl _) ?_
      exact ⟨rfl, by unfold looR fbR; rw [decide_eq_false c62, Bool.and_false]; rfl⟩
    · refine ex_iload_n (pc := 65) (i := 3) d_RF_loose_65 rfl rfl ?_
      refine ex_if_eq (pc := 66) (tgt := 82) d_RF_loose_66 rfl (fun c66 => ?_) (fun c66 => ?_)
      · refine ex_iconst (pc := 82) (v := (nI 0)) d_RF_loose_82 (by decide) ?_
        refine ex_iret (ty := .boolean) d_RF_loose_83 rfl rfl rfl (Nat.le_refl _) ?_
        exact ⟨rfl, by unfold looR; rw [b2i_0 c66, Bool.false_and, Bool.and_false]; rfl⟩
      · refine ex_aload_n (pc := 69) (i := 0) d_RF_loose_69 rfl rfl ?_
        refine ex_getr (pc := 70) 12 24 d_RF_loose_70 FL_RF_74 (Nat.le_of_ble_eq_true rfl) rfl rfl ?_
        refine ex_iload_n (pc := 73) (i := 1) d_RF_loose_73 rfl rfl ?_
        refine ex_ialdx (pc := 74) i (T.e i).ik d_RF_loose_74 (Nat.le_of_ble_eq_true rfl) rfl rfl rfl (nI_t (by omega)) (show i < 40 by omega) h114 ?_
        refine ex_if_ge (pc := 75) (tgt := 82) d_RF_loose_75 rfl (fun c75 => ?_) (fun c75 => ?_)
        · refine ex_iconst (pc := 82) (v := (nI 0)) d_RF_loose_82 (by decide) ?_
          refine ex_iret (ty := .boolean) d_RF_loose_83 rfl rfl rfl (Nat.le_refl _) ?_
          exact ⟨rfl, by unfold looR; rw [decide_eq_false (p := (T.e i).ik = -1) (fun z => by have z1 := i_lt.mp (hneg.mpr z); have z2 := i_le.mp c75; omega), Bool.and_false, Bool.and_false]; rfl⟩
        · refine ex_iconst (pc := 78) (v := (nI 1)) d_RF_loose_78 (by decide) ?_
          refine ex_goto (pc := 79) (tgt := 83) d_RF_loose_79 rfl ?_
          refine ex_iret (ty := .boolean) d_RF_loose_83 rfl rfl rfl (Nat.le_refl _) ?_
          exact ⟨rfl, by unfold looR fbR prR; rw [b2i_1 c66, decide_eq_true c53, decide_eq_true c62, decide_eq_true (hneg.mp (i_lt.mpr (i_nle c75)))]; rfl⟩

set_option maxRecDepth 100000 in
set_option maxHeartbeats 4000000 in
theorem lp_RF_depthOf {p : Program} {e : Env} {s : State} {m : MethodId} {args : Array Value} {below : List Frame} {meth : Method} {c : Code} (l : Launch) (G : ex_G) (iv : Nat → Nat → Int32) (mp : Nat → Nat) (sp mo : Nat) (mn : Nat → Nat) (a : Nat → Int32) (n : Nat) (hA : TxR iv a n) (T : TS) (hT : RefT iv mn n T) (hX : tX a T n) (hs : T.stk = []) (iv1 : Nat → Nat → Int32) (s9 : List Int32) (hq : FmQ 92 42 128 iv iv1 s9) (i : Nat) (h0 : 0 < i) (hi : i ≤ T.cn) : ∀ (k c9 u : Nat), u ≤ k → u ≤ T.cn → c9 + (T.e u).dp = (T.e i).dp - 1 → EXM M_RF_depthOf l G 0 (fun r h' => h' = HP iv1 mp sp mo ∧ r = some (.int (nI ((T.e i).dp - 1)))) p e s m args below meth c 9 [some (.ref 92), some (.int (nI i)), some (.int (nI c9)), some (.int (nI u))] [] (HP iv1 mp sp mo) := by
  intro k
  induction k with
  | zero =>
    intro c9 u huk huc hd
    have hn := hA.1
    have hcn : T.cn ≤ 33 := by have := hX.1.1; omega
    have hfr : ∀ q j, q ≠ 128 → (q ≠ 92 ∨ j ≠ 42) → iv1 q j = iv q j := hq.2.2
    have h16 : iv1 92 16 = nI (T.cn + 1) := (hfr _ _ (by decide) (Or.inr (by decide))).trans hT.1
    have hpr : ∀ k, 0 < k → k ≤ T.cn → iv1 108 k = nI (T.e k).pr := fun k k1 k2 => by
      have := (hT.2.1 k k2).2.1
      rw [if_neg (by omega)] at this
      exact (hfr _ _ (by decide) (Or.inl (by decide))).trans this
    have hple : ∀ k, 0 < k → k ≤ T.cn → (T.e k).pr < k := fun k k1 k2 => (hX.1.2.2.2.1 k k1 k2).2.1
    have hu0 : u = 0 := by omega
    subst hu0
    rw [hX.1.2.2.1.2.1] at hd
    have hc9 : c9 = (T.e i).dp - 1 := by omega
    subst hc9
    refine ex_iload_n (pc := 9) (i := 3) d_RF_depthOf_9 rfl rfl ?_
    refine ex_if_le (pc := 10) (tgt := 26) d_RF_depthOf_10 rfl (fun c10 => ?_) (fun c10 => ?_)
    · refine ex_iload_n (pc := 26) (i := 2) d_RF_depthOf_26 rfl rfl ?_
      refine ex_iret (ty := .int) d_RF_depthOf_27 rfl rfl rfl (Nat.le_refl _) ?_
      exact ⟨rfl, rfl⟩
    · exact absurd (by decide) c10
  | succ k ih =>
    intro c9 u huk huc hd
    have hn := hA.1
    have hcn : T.cn ≤ 33 := by have := hX.1.1; omega
    have hfr : ∀ q j, q ≠ 128 → (q ≠ 92 ∨ j ≠ 42) → iv1 q j = iv q j := hq.2.2
    have h16 : iv1 92 16 = nI (T.cn + 1) := (hfr _ _ (by decide) (Or.inr (by decide))).trans hT.1
    have hpr : ∀ k, 0 < k → k ≤ T.cn → iv1 108 k = nI (T.e k).pr := fun k k1 k2 => by
      have := (hT.2.1 k k2).2.1
      rw [if_neg (by omega)] at this
      exact (hfr _ _ (by decide) (Or.inl (by decide))).trans this
    have hple : ∀ k, 0 < k → k ≤ T.cn → (T.e k).pr < k := fun k k1 k2 => (hX.1.2.2.2.1 k k1 k2).2.1
    
    refine ex_iload_n (pc := 9) (i := 3) d_RF_depthOf_9 rfl rfl ?_
    refine ex_if_le (pc := 10) (tgt := 26) d_RF_depthOf_10 rfl (fun c10 => ?_) (fun c10 => ?_)
    · refine ex_iload_n (pc := 26) (i := 2) d_RF_depthOf_26 rfl rfl ?_
      refine ex_iret (ty := .int) d_RF_depthOf_27 rfl rfl rfl (Nat.le_refl _) ?_
      have hu0 : u = 0 := by have := (n_ge (b := 0) (by omega) (by omega)).mp c10; omega
      rw [hu0, hX.1.2.2.1.2.1] at hd
      have hc9 : c9 = (T.e i).dp - 1 := by omega
      rw [hc9]
      exact ⟨rfl, rfl⟩
    · have hu0 : 0 < u := Nat.pos_of_ne_zero (fun z => c10 (by rw [z]; decide))
      refine ex_iinc (pc := 13) (v := (nI (c9 + 1))) d_RF_depthOf_13 rfl (nI_1 c9) (by decide) ?_
      refine ex_aload_n (pc := 16) (i := 0) d_RF_depthOf_16 rfl rfl ?_
      refine ex_getr (pc := 17) 12 18 d_RF_depthOf_17 FL_RF_56 (Nat.le_of_ble_eq_true rfl) rfl rfl ?_
      refine ex_iload_n (pc := 20) (i := 3) d_RF_depthOf_20 rfl rfl ?_
      refine ex_ialdx (pc := 21) u (nI (T.e u).pr) d_RF_depthOf_21 (Nat.le_of_ble_eq_true rfl) rfl rfl rfl (nI_t (by omega)) (show u < 40 by omega) (hpr u hu0 huc) ?_
      refine ex_istore_n (pc := 22) (i := 3) d_RF_depthOf_22 rfl (by decide) ?_
      refine ex_goto (pc := 23) (tgt := 9) d_RF_depthOf_23 rfl ?_
      have hdu := (hX.1.2.2.2.1 u hu0 huc).2.2.2.1
      have hpu := hple u hu0 huc
      exact ih (c9 + 1) (T.e u).pr (by omega) (by omega) (by omega)

set_option maxRecDepth 100000 in
set_option maxHeartbeats 4000000 in
theorem ct_RF_depthOf (l : Launch) (G : ex_G) (iv : Nat → Nat → Int32) (mp : Nat → Nat) (sp mo : Nat) (mn : Nat → Nat) (a : Nat → Int32) (n : Nat) (hA : TxR iv a n) (T : TS) (hT : RefT iv mn n T) (hX : tX a T n) (hs : T.stk = []) (iv1 : Nat → Nat → Int32) (s9 : List Int32) (hq : FmQ 92 42 128 iv iv1 s9) (i : Nat) (h0 : 0 < i) (hi : i ≤ T.cn) : CT l G 0 M_RF_depthOf [.ref 92, .int (nI i)] (HP iv1 mp sp mo) 0 0 (fun r h' => h' = HP iv1 mp sp mo ∧ r = some (.int (nI ((T.e i).dp - 1)))) := by
  refine ex_enter (by decide) (Nat.le_of_ble_eq_true rfl) (fun v hv => by simp at hv; rcases hv with rfl | rfl <;> rfl) (fun p e s m args below meth c => ?_)
  have hn := hA.1
  have hcn : T.cn ≤ 33 := by have := hX.1.1; omega
  have hfr : ∀ q j, q ≠ 128 → (q ≠ 92 ∨ j ≠ 42) → iv1 q j = iv q j := hq.2.2
  have h16 : iv1 92 16 = nI (T.cn + 1) := (hfr _ _ (by decide) (Or.inr (by decide))).trans hT.1
  have hpr : ∀ k, 0 < k → k ≤ T.cn → iv1 108 k = nI (T.e k).pr := fun k k1 k2 => by
    have := (hT.2.1 k k2).2.1
    rw [if_neg (by omega)] at this
    exact (hfr _ _ (by decide) (Or.inl (by decide))).trans this
  have hple : ∀ k, 0 < k → k ≤ T.cn → (T.e k).pr < k := fun k k1 k2 => (hX.1.2.2.2.1 k k1 k2).2.1
  refine ex_iconst (pc := 0) (v := (nI 0)) d_RF_depthOf_0 (by decide) ?_
  refine ex_istore_n (pc := 1) (i := 2) d_RF_depthOf_1 rfl (by decide) ?_
  refine ex_aload_n (pc := 2) (i := 0) d_RF_depthOf_2 rfl rfl ?_
  refine ex_getr (pc := 3) 12 18 d_RF_depthOf_3 FL_RF_56 (Nat.le_of_ble_eq_true rfl) rfl rfl ?_
  refine ex_iload_n (pc := 6) (i := 1) d_RF_depthOf_6 rfl rfl ?_
  refine ex_ialdx (pc := 7) i (nI (T.e i).pr) d_RF_depthOf_7 (Nat.le_of_ble_eq_true rfl) rfl rfl rfl (nI_t (by omega)) (show i < 40 by omega) (hpr i h0 hi) ?_
  refine ex_istore_n (pc := 8) (i := 3) d_RF_depthOf_8 rfl (by decide) ?_
  have hp := hple i h0 hi
  exact lp_RF_depthOf l G iv mp sp mo mn a n hA T hT hX hs iv1 s9 hq i h0 hi (T.e i).pr 0 (T.e i).pr (Nat.le_refl _) (by omega) (by have := (hX.1.2.2.2.1 i h0 hi).2.2.2.1; omega)

set_option maxRecDepth 100000 in
set_option maxHeartbeats 4000000 in
theorem le_RF_laid {p : Program} {e : Env} {s : State} {m : MethodId} {args : Array Value} {below : List Frame} {meth : Method} {c : Code} (l : Launch) (G : ex_G) (iv : Nat → Nat → Int32) (mp : Nat → Nat) (sp mo : Nat) (mn : Nat → Nat) (a : Nat → Int32) (n : Nat) (hA : TxR iv a n) (T : TS) (hT : RefT iv mn n T) (hX : tX a T n) (hs : T.stk = []) (iv1 : Nat → Nat → Int32) (s9 : List Int32) (hq : FmQ 92 42 128 iv iv1 s9) (i : Nat) (hi : i ≤ T.cn) (bB : Bool) : EXM M_RF_laid l G 2 (fun r h' => h' = HP iv1 mp sp mo ∧ r = some (.int (b2i bB))) p e s m args below meth c 9 [some (.ref 92), some (.int (nI i)), some (.int (b2i bB)), some (.int (-1))] [] (HP iv1 mp sp mo) := by
  refine ex_iload_n (pc := 9) (i := 3) d_RF_laid_9 rfl rfl ?_
  refine ex_if_lt (pc := 10) (tgt := 41) d_RF_laid_10 rfl (fun c10 => ?_) (fun c10 => ?_)
  · refine ex_iload_n (pc := 41) (i := 2) d_RF_laid_41 rfl rfl ?_
    refine ex_iret (ty := .boolean) d_RF_laid_42 rfl (b2i_n _) rfl (Nat.le_refl _) ?_
    exact ⟨rfl, rfl⟩
  · exact absurd (by decide) c10
set_option maxRecDepth 100000 in
set_option maxHeartbeats 4000000 in
theorem lp_RF_laid {p : Program} {e : Env} {s : State} {m : MethodId} {args : Array Value} {below : List Frame} {meth : Method} {c : Code} (l : Launch) (G : ex_G) (iv : Nat → Nat → Int32) (mp : Nat → Nat) (sp mo : Nat) (mn : Nat → Nat) (a : Nat → Int32) (n : Nat) (hA : TxR iv a n) (T : TS) (hT : RefT iv mn n T) (hX : tX a T n) (hs : T.stk = []) (iv1 : Nat → Nat → Int32) (s9 : List Int32) (hq : FmQ 92 42 128 iv iv1 s9) (i : Nat) (hi : i ≤ T.cn) (v : Bool) : ∀ (k u : Nat) (bB : Bool), u ≤ k → u ≤ T.cn → (bB && laF T.e (looR iv T) (k + 1) u) = v → EXM M_RF_laid l G 2 (fun r h' => h' = HP iv1 mp sp mo ∧ r = some (.int (b2i v))) p e s m args below meth c 9 [some (.ref 92), some (.int (nI i)), some (.int (b2i bB)), some (.int (nI u))] [] (HP iv1 mp sp mo) := by
  intro k
  induction k with
  | zero =>
    intro u bB huk huc hv
    have hn := hA.1
    have hcn : T.cn ≤ 33 := by have := hX.1.1; omega
    have hfr : ∀ q j, q ≠ 128 → (q ≠ 92 ∨ j ≠ 42) → iv1 q j = iv q j := hq.2.2
    have h16 : iv1 92 16 = nI (T.cn + 1) := (hfr _ _ (by decide) (Or.inr (by decide))).trans hT.1
    have hpr : ∀ k, 0 < k → k ≤ T.cn → iv1 108 k = nI (T.e k).pr := fun k k1 k2 => by
      have := (hT.2.1 k k2).2.1
      rw [if_neg (by omega)] at this
      exact (hfr _ _ (by decide) (Or.inl (by decide))).trans this
    have hple : ∀ k, 0 < k → k ≤ T.cn → (T.e k).pr < k := fun k k1 k2 => (hX.1.2.2.2.1 k k1 k2).2.1
    have hu0 : u = 0 := by omega
    have hpv : iv1 108 u = -1 := by
      rw [hu0, hfr 108 0 (by decide) (Or.inl (by decide))]
      exact (hT.2.1 0 (Nat.zero_le _)).2.1
    rw [laF, if_pos hu0, Bool.and_true] at hv
    refine ex_iload_n (pc := 9) (i := 3) d_RF_laid_9 rfl rfl ?_
    refine ex_if_lt (pc := 10) (tgt := 41) d_RF_laid_10 rfl (fun c10 => ?_) (fun c10 => ?_)
    · exact absurd c10 (i_ge0 (by omega))
    · refine ex_iload_n (pc := 13) (i := 2) d_RF_laid_13 rfl rfl ?_
      refine ex_if_eq (pc := 14) (tgt := 29) d_RF_laid_14 rfl (fun c14 => ?_) (fun c14 => ?_)
      · refine ex_iconst (pc := 29) (v := (nI 0)) d_RF_laid_29 (by decide) ?_
        refine ex_istore_n (pc := 30) (i := 2) d_RF_laid_30 rfl (by decide) ?_
        refine ex_aload_n (pc := 31) (i := 0) d_RF_laid_31 rfl rfl ?_
        refine ex_getr (pc := 32) 12 18 d_RF_laid_32 FL_RF_56 (Nat.le_of_ble_eq_true rfl) rfl rfl ?_
        refine ex_iload_n (pc := 35) (i := 3) d_RF_laid_35 rfl rfl ?_
        refine ex_ialdx (pc := 36) u (-1) d_RF_laid_36 (Nat.le_of_ble_eq_true rfl) rfl rfl rfl (nI_t (by omega)) (show u < 40 by omega) hpv ?_
        refine ex_istore_n (pc := 37) (i := 3) d_RF_laid_37 rfl (by decide) ?_
        refine ex_goto (pc := 38) (tgt := 9) d_RF_laid_38 rfl ?_
        have z := b2i_0 c14
        rw [z, Bool.false_and] at hv
        rw [← hv]
        exact le_RF_laid l G iv mp sp mo mn a n hA T hT hX hs iv1 s9 hq i hi false
      · refine ex_aload_n (pc := 17) (i := 0) d_RF_laid_17 rfl rfl ?_
        refine ex_iload_n (pc := 18) (i := 3) d_RF_laid_18 rfl rfl ?_
        refine ex_callV (pc := 19) (M' := M_RF_loose) (as := [.int (nI u)]) (st := []) d_RF_laid_19 MW_RF_loose MI_RF_loose LK_RF_240 (Nat.le_of_ble_eq_true rfl) rfl rfl rfl (ct_RF_loose l G iv mp sp mo mn a n hA T hT hX hs iv1 s9 hq u huc) (ex_lt_rm (by decide)) ⟨Nat.le_refl _, Nat.le_refl _⟩ rfl rfl (Nat.le_of_ble_eq_true rfl) ?_
        rintro _ _ ⟨rfl, rfl⟩
        refine ex_if_eq (pc := 22) (tgt := 29) d_RF_laid_22 rfl (fun c22 => ?_) (fun c22 => ?_)
        · refine ex_iconst (pc := 29) (v := (nI 0)) d_RF_laid_29 (by decide) ?_
          refine ex_istore_n (pc := 30) (i := 2) d_RF_laid_30 rfl (by decide) ?_
          refine ex_aload_n (pc := 31) (i := 0) d_RF_laid_31 rfl rfl ?_
          refine ex_getr (pc := 32) 12 18 d_RF_laid_32 FL_RF_56 (Nat.le_of_ble_eq_true rfl) rfl rfl ?_
          refine ex_iload_n (pc := 35) (i := 3) d_RF_laid_35 rfl rfl ?_
          refine ex_ialdx (pc := 36) u (-1) d_RF_laid_36 (Nat.le_of_ble_eq_true rfl) rfl rfl rfl (nI_t (by omega)) (show u < 40 by omega) hpv ?_
          refine ex_istore_n (pc := 37) (i := 3) d_RF_laid_37 rfl (by decide) ?_
          refine ex_goto (pc := 38) (tgt := 9) d_RF_laid_38 rfl ?_
          rw [b2i_0 c22, Bool.and_false] at hv
          rw [← hv]
          exact le_RF_laid l G iv mp sp mo mn a n hA T hT hX hs iv1 s9 hq i hi false
        · refine ex_iconst (pc := 25) (v := (nI 1)) d_RF_laid_25 (by decide) ?_
          refine ex_goto (pc := 26) (tgt := 30) d_RF_laid_26 rfl ?_
          refine ex_istore_n (pc := 30) (i := 2) d_RF_laid_30 rfl (by decide) ?_
          refine ex_aload_n (pc := 31) (i := 0) d_RF_laid_31 rfl rfl ?_
          refine ex_getr (pc := 32) 12 18 d_RF_laid_32 FL_RF_56 (Nat.le_of_ble_eq_true rfl) rfl rfl ?_
          refine ex_iload_n (pc := 35) (i := 3) d_RF_laid_35 rfl rfl ?_
          refine ex_ialdx (pc := 36) u (-1) d_RF_laid_36 (Nat.le_of_ble_eq_true rfl) rfl rfl rfl (nI_t (by omega)) (show u < 40 by omega) hpv ?_
          refine ex_istore_n (pc := 37) (i := 3) d_RF_laid_37 rfl (by decide) ?_
          refine ex_goto (pc := 38) (tgt := 9) d_RF_laid_38 rfl ?_
          rw [b2i_1 c14, b2i_1 c22] at hv
          rw [← hv]
          exact le_RF_laid l G iv mp sp mo mn a n hA T hT hX hs iv1 s9 hq i hi true
  | succ k ih =>
    intro u bB huk huc hv
    have hn := hA.1
    have hcn : T.cn ≤ 33 := by have := hX.1.1; omega
    have hfr : ∀ q j, q ≠ 128 → (q ≠ 92 ∨ j ≠ 42) → iv1 q j = iv q j := hq.2.2
    have h16 : iv1 92 16 = nI (T.cn + 1) := (hfr _ _ (by decide) (Or.inr (by decide))).trans hT.1
    have hpr : ∀ k, 0 < k → k ≤ T.cn → iv1 108 k = nI (T.e k).pr := fun k k1 k2 => by
      have := (hT.2.1 k k2).2.1
      rw [if_neg (by omega)] at this
      exact (hfr _ _ (by decide) (Or.inl (by decide))).trans this
    have hple : ∀ k, 0 < k → k ≤ T.cn → (T.e k).pr < k := fun k k1 k2 => (hX.1.2.2.2.1 k k1 k2).2.1
    have hpv : iv1 108 u = (if u = 0 then -1 else nI (T.e u).pr) := (hfr _ _ (by decide) (Or.inl (by decide))).trans (hT.2.1 u huc).2.1
    rw [laF] at hv
    refine ex_iload_n (pc := 9) (i := 3) d_RF_laid_9 rfl rfl ?_
    refine ex_if_lt (pc := 10) (tgt := 41) d_RF_laid_10 rfl (fun c10 => ?_) (fun c10 => ?_)
    · exact absurd c10 (i_ge0 (by omega))
    · refine ex_iload_n (pc := 13) (i := 2) d_RF_laid_13 rfl rfl ?_
      refine ex_if_eq (pc := 14) (tgt := 29) d_RF_laid_14 rfl (fun c14 => ?_) (fun c14 => ?_)
      · refine ex_iconst (pc := 29) (v := (nI 0)) d_RF_laid_29 (by decide) ?_
        refine ex_istore_n (pc := 30) (i := 2) d_RF_laid_30 rfl (by decide) ?_
        refine ex_aload_n (pc := 31) (i := 0) d_RF_laid_31 rfl rfl ?_
        refine ex_getr (pc := 32) 12 18 d_RF_laid_32 FL_RF_56 (Nat.le_of_ble_eq_true rfl) rfl rfl ?_
        refine ex_iload_n (pc := 35) (i := 3) d_RF_laid_35 rfl rfl ?_
        refine ex_ialdx (pc := 36) u (if u = 0 then -1 else nI (T.e u).pr) d_RF_laid_36 (Nat.le_of_ble_eq_true rfl) rfl rfl rfl (nI_t (by omega)) (show u < 40 by omega) hpv ?_
        refine ex_istore_n (pc := 37) (i := 3) d_RF_laid_37 rfl (by decide) ?_
        refine ex_goto (pc := 38) (tgt := 9) d_RF_laid_38 rfl ?_
        by_cases hu0 : u = 0
        case pos =>
          rw [if_pos hu0]
          have hv2 : v = false := by
            rw [← hv]
            rw [b2i_0 c14]; rfl
          rw [hv2]
          exact le_RF_laid l G iv mp sp mo mn a n hA T hT hX hs iv1 s9 hq i hi false
        rw [if_neg hu0]
        have hpu := hple u (by omega) huc
        exact ih (T.e u).pr false (by omega) (by omega) (by
          rw [← hv]
          rw [b2i_0 c14]; rfl)
      · refine ex_aload_n (pc := 17) (i := 0) d_RF_laid_17 rfl rfl ?_
        refine ex_iload_n (pc := 18) (i := 3) d_RF_laid_18 rfl rfl ?_
        refine ex_callV (pc := 19) (M' := M_RF_loose) (as := [.int (nI u)]) (st := []) d_RF_laid_19 MW_RF_loose MI_RF_loose LK_RF_240 (Nat.le_of_ble_eq_true rfl) rfl rfl rfl (ct_RF_loose l G iv mp sp mo mn a n hA T hT hX hs iv1 s9 hq u huc) (ex_lt_rm (by decide)) ⟨Nat.le_refl _, Nat.le_refl _⟩ rfl rfl (Nat.le_of_ble_eq_true rfl) ?_
        rintro _ _ ⟨rfl, rfl⟩
        refine ex_if_eq (pc := 22) (tgt := 29) d_RF_laid_22 rfl (fun c22 => ?_) (fun c22 => ?_)
        · refine ex_iconst (pc := 29) (v := (nI 0)) d_RF_laid_29 (by decide) ?_
          refine ex_istore_n (pc := 30) (i := 2) d_RF_laid_30 rfl (by decide) ?_
          refine ex_aload_n (pc := 31) (i := 0) d_RF_laid_31 rfl rfl ?_
          refine ex_getr (pc := 32) 12 18 d_RF_laid_32 FL_RF_56 (Nat.le_of_ble_eq_true rfl) rfl rfl ?_
          refine ex_iload_n (pc := 35) (i := 3) d_RF_laid_35 rfl rfl ?_
          refine ex_ialdx (pc := 36) u (if u = 0 then -1 else nI (T.e u).pr) d_RF_laid_36 (Nat.le_of_ble_eq_true rfl) rfl rfl rfl (nI_t (by omega)) (show u < 40 by omega) hpv ?_
          refine ex_istore_n (pc := 37) (i := 3) d_RF_laid_37 rfl (by decide) ?_
          refine ex_goto (pc := 38) (tgt := 9) d_RF_laid_38 rfl ?_
          by_cases hu0 : u = 0
          case pos =>
            rw [if_pos hu0]
            have hv2 : v = false := by
              rw [← hv]
              simp [b2i_0 c22]
            rw [hv2]
            exact le_RF_laid l G iv mp sp mo mn a n hA T hT hX hs iv1 s9 hq i hi false
          rw [if_neg hu0]
          have hpu := hple u (by omega) huc
          exact ih (T.e u).pr false (by omega) (by omega) (by
            rw [← hv]
            simp [b2i_0 c22])
        · refine ex_iconst (pc := 25) (v := (nI 1)) d_RF_laid_25 (by decide) ?_
          refine ex_goto (pc := 26) (tgt := 30) d_RF_laid_26 rfl ?_
          refine ex_istore_n (pc := 30) (i := 2) d_RF_laid_30 rfl (by decide) ?_
          refine ex_aload_n (pc := 31) (i := 0) d_RF_laid_31 rfl rfl ?_
          refine ex_getr (pc := 32) 12 18 d_RF_laid_32 FL_RF_56 (Nat.le_of_ble_eq_true rfl) rfl rfl ?_
          refine ex_iload_n (pc := 35) (i := 3) d_RF_laid_35 rfl rfl ?_
          refine ex_ialdx (pc := 36) u (if u = 0 then -1 else nI (T.e u).pr) d_RF_laid_36 (Nat.le_of_ble_eq_true rfl) rfl rfl rfl (nI_t (by omega)) (show u < 40 by omega) hpv ?_
          refine ex_istore_n (pc := 37) (i := 3) d_RF_laid_37 rfl (by decide) ?_
          refine ex_goto (pc := 38) (tgt := 9) d_RF_laid_38 rfl ?_
          by_cases hu0 : u = 0
          case pos =>
            rw [if_pos hu0]
            have hv2 : v = true := by
              rw [← hv]
              rw [b2i_1 c14, b2i_1 c22, if_pos hu0]; rfl
            rw [hv2]
            exact le_RF_laid l G iv mp sp mo mn a n hA T hT hX hs iv1 s9 hq i hi true
          rw [if_neg hu0]
          have hpu := hple u (by omega) huc
          exact ih (T.e u).pr true (by omega) (by omega) (by
            rw [← hv]
            rw [b2i_1 c14, b2i_1 c22, if_neg hu0]; rfl)

theorem laF_fu {f : Nat → EL} {cn : Nat} {lo : Nat → Bool} (h : fOk f cn) {k k2 u : Nat} (h1 : u ≤ k) (h2 : u ≤ k2) (hc : u ≤ cn) : laF f lo k u = laF f lo k2 u := Bool.eq_iff_iff.mpr ((laF_iff h k u h1 hc).trans (laF_iff h k2 u h2 hc).symm)
set_option maxRecDepth 100000 in
set_option maxHeartbeats 4000000 in
theorem ct_RF_laid (l : Launch) (G : ex_G) (iv : Nat → Nat → Int32) (mp : Nat → Nat) (sp mo : Nat) (mn : Nat → Nat) (a : Nat → Int32) (n : Nat) (hA : TxR iv a n) (T : TS) (hT : RefT iv mn n T) (hX : tX a T n) (hs : T.stk = []) (iv1 : Nat → Nat → Int32) (s9 : List Int32) (hq : FmQ 92 42 128 iv iv1 s9) (i : Nat) (h0 : 0 < i) (hi : i ≤ T.cn) : CT l G 2 M_RF_laid [.ref 92, .int (nI i)] (HP iv1 mp sp mo) 0 0 (fun r h' => h' = HP iv1 mp sp mo ∧ r = some (.int (b2i (lad T.e (looR iv T) i)))) := by
  refine ex_enter (by decide) (Nat.le_of_ble_eq_true rfl) (fun v hv => by simp at hv; rcases hv with rfl | rfl <;> rfl) (fun p e s m args below meth c => ?_)
  have hn := hA.1
  have hcn : T.cn ≤ 33 := by have := hX.1.1; omega
  have hfr : ∀ q j, q ≠ 128 → (q ≠ 92 ∨ j ≠ 42) → iv1 q j = iv q j := hq.2.2
  have h16 : iv1 92 16 = nI (T.cn + 1) := (hfr _ _ (by decide) (Or.inr (by decide))).trans hT.1
  have hpr : ∀ k, 0 < k → k ≤ T.cn → iv1 108 k = nI (T.e k).pr := fun k k1 k2 => by
    have := (hT.2.1 k k2).2.1
    rw [if_neg (by omega)] at this
    exact (hfr _ _ (by decide) (Or.inl (by decide))).trans this
  have hple : ∀ k, 0 < k → k ≤ T.cn → (T.e k).pr < k := fun k k1 k2 => (hX.1.2.2.2.1 k k1 k2).2.1
  refine ex_iconst (pc := 0) (v := (nI 1)) d_RF_laid_0 (by decide) ?_
  refine ex_istore_n (pc := 1) (i := 2) d_RF_laid_1 rfl (by decide) ?_
  refine ex_aload_n (pc := 2) (i := 0) d_RF_laid_2 rfl rfl ?_
  refine ex_getr (pc := 3) 12 18 d_RF_laid_3 FL_RF_56 (Nat.le_of_ble_eq_true rfl) rfl rfl ?_
  refine ex_iload_n (pc := 6) (i := 1) d_RF_laid_6 rfl rfl ?_
  refine ex_ialdx (pc := 7) i (nI (T.e i).pr) d_RF_laid_7 (Nat.le_of_ble_eq_true rfl) rfl rfl rfl (nI_t (by omega)) (show i < 40 by omega) (hpr i h0 hi) ?_
  refine ex_istore_n (pc := 8) (i := 3) d_RF_laid_8 rfl (by decide) ?_
  have hp := hple i h0 hi
  exact lp_RF_laid l G iv mp sp mo mn a n hA T hT hX hs iv1 s9 hq i hi _ (T.e i).pr (T.e i).pr true (Nat.le_refl _) (by omega) (by rw [Bool.true_and]; exact laF_fu (fOk_x hX) (by omega) (by omega) (by omega))

set_option maxRecDepth 100000 in
set_option maxHeartbeats 4000000 in
theorem lp_RF_within {p : Program} {e : Env} {s : State} {m : MethodId} {args : Array Value} {below : List Frame} {meth : Method} {c : Code} (l : Launch) (G : ex_G) (iv : Nat → Nat → Int32) (mp : Nat → Nat) (sp mo : Nat) (mn : Nat → Nat) (a : Nat → Int32) (n : Nat) (hA : TxR iv a n) (T : TS) (hT : RefT iv mn n T) (hX : tX a T n) (hs : T.stk = []) (iv1 : Nat → Nat → Int32) (s9 : List Int32) (hq : FmQ 92 42 128 iv iv1 s9) (th o9 : Nat) (hth : th ≤ T.cn) (ho : o9 ≤ T.cn) (v : Bool) : ∀ (k u : Nat), u ≤ T.cn → wIn T.e k u o9 = v → u ≤ k → EXM M_RF_within l G 0 (fun r h' => h' = HP iv1 mp sp mo ∧ r = some (.int (b2i v))) p e s m args below meth c 2 [some (.ref 92), some (.int (nI th)), some (.int (nI o9)), some (.int (nI u))] [] (HP iv1 mp sp mo) := by
  intro k
  induction k with
  | zero =>
    intro u huc hv huk
    have hn := hA.1
    have hcn : T.cn ≤ 33 := by have := hX.1.1; omega
    have hfr : ∀ q j, q ≠ 128 → (q ≠ 92 ∨ j ≠ 42) → iv1 q j = iv q j := hq.2.2
    have h16 : iv1 92 16 = nI (T.cn + 1) := (hfr _ _ (by decide) (Or.inr (by decide))).trans hT.1
    have hpr : ∀ k, 0 < k → k ≤ T.cn → iv1 108 k = nI (T.e k).pr := fun k k1 k2 => by
      have := (hT.2.1 k k2).2.1
      rw [if_neg (by omega)] at this
      exact (hfr _ _ (by decide) (Or.inl (by decide))).trans this
    have hple : ∀ k, 0 < k → k ≤ T.cn → (T.e k).pr < k := fun k k1 k2 => (hX.1.2.2.2.1 k k1 k2).2.1
    rw [wIn] at hv
    have hu0 : u = 0 := by omega
    subst hu0
    refine ex_iload_n (pc := 2) (i := 3) d_RF_within_2 rfl rfl ?_
    refine ex_iload_n (pc := 3) (i := 2) d_RF_within_3 rfl rfl ?_
    refine ex_icmp_le (pc := 4) (tgt := 17) d_RF_within_4 rfl (fun c4 => ?_) (fun c4 => ?_)
    · refine ex_iload_n (pc := 17) (i := 3) d_RF_within_17 rfl rfl ?_
      refine ex_iload_n (pc := 18) (i := 2) d_RF_within_18 rfl rfl ?_
      refine ex_icmp_ne (pc := 19) (tgt := 26) d_RF_within_19 rfl (fun c19 => ?_) (fun c19 => ?_)
      · refine ex_iconst (pc := 26) (v := (nI 0)) d_RF_within_26 (by decide) ?_
        refine ex_iret (ty := .boolean) d_RF_within_27 rfl rfl rfl (Nat.le_refl _) ?_
        exact ⟨rfl, by rw [← hv, decide_eq_false (fun z => c19 (by rw [z]))]; rfl⟩
      · refine ex_iconst (pc := 22) (v := (nI 1)) d_RF_within_22 (by decide) ?_
        refine ex_goto (pc := 23) (tgt := 27) d_RF_within_23 rfl ?_
        refine ex_iret (ty := .boolean) d_RF_within_27 rfl rfl rfl (Nat.le_refl _) ?_
        exact ⟨rfl, by rw [← hv, decide_eq_true ((n_eq (by omega) (by omega)).mp c19)]; rfl⟩
    · exact absurd ((n_ge (by omega) (by omega)).mpr (Nat.zero_le _)) c4
  | succ k ih =>
    intro u huc hv huk
    have hn := hA.1
    have hcn : T.cn ≤ 33 := by have := hX.1.1; omega
    have hfr : ∀ q j, q ≠ 128 → (q ≠ 92 ∨ j ≠ 42) → iv1 q j = iv q j := hq.2.2
    have h16 : iv1 92 16 = nI (T.cn + 1) := (hfr _ _ (by decide) (Or.inr (by decide))).trans hT.1
    have hpr : ∀ k, 0 < k → k ≤ T.cn → iv1 108 k = nI (T.e k).pr := fun k k1 k2 => by
      have := (hT.2.1 k k2).2.1
      rw [if_neg (by omega)] at this
      exact (hfr _ _ (by decide) (Or.inl (by decide))).trans this
    have hple : ∀ k, 0 < k → k ≤ T.cn → (T.e k).pr < k := fun k k1 k2 => (hX.1.2.2.2.1 k k1 k2).2.1
    rw [wIn] at hv
    refine ex_iload_n (pc := 2) (i := 3) d_RF_within_2 rfl rfl ?_
    refine ex_iload_n (pc := 3) (i := 2) d_RF_within_3 rfl rfl ?_
    refine ex_icmp_le (pc := 4) (tgt := 17) d_RF_within_4 rfl (fun c4 => ?_) (fun c4 => ?_)
    · refine ex_iload_n (pc := 17) (i := 3) d_RF_within_17 rfl rfl ?_
      refine ex_iload_n (pc := 18) (i := 2) d_RF_within_18 rfl rfl ?_
      refine ex_icmp_ne (pc := 19) (tgt := 26) d_RF_within_19 rfl (fun c19 => ?_) (fun c19 => ?_)
      · refine ex_iconst (pc := 26) (v := (nI 0)) d_RF_within_26 (by decide) ?_
        refine ex_iret (ty := .boolean) d_RF_within_27 rfl rfl rfl (Nat.le_refl _) ?_
        have hle := (n_ge (by omega) (by omega)).mp c4
        exact ⟨rfl, by rw [← hv, if_neg (by omega), decide_eq_false (fun z => c19 (by rw [z]))]; rfl⟩
      · refine ex_iconst (pc := 22) (v := (nI 1)) d_RF_within_22 (by decide) ?_
        refine ex_goto (pc := 23) (tgt := 27) d_RF_within_23 rfl ?_
        refine ex_iret (ty := .boolean) d_RF_within_27 rfl rfl rfl (Nat.le_refl _) ?_
        have hle := (n_ge (by omega) (by omega)).mp c4
        exact ⟨rfl, by rw [← hv, if_neg (by omega), decide_eq_true ((n_eq (by omega) (by omega)).mp c19)]; rfl⟩
    · have hlt : o9 < u := Classical.byContradiction (fun z => c4 ((n_ge (by omega) (by omega)).mpr (by omega)))
      refine ex_aload_n (pc := 7) (i := 0) d_RF_within_7 rfl rfl ?_
      refine ex_getr (pc := 8) 12 18 d_RF_within_8 FL_RF_56 (Nat.le_of_ble_eq_true rfl) rfl rfl ?_
      refine ex_iload_n (pc := 11) (i := 3) d_RF_within_11 rfl rfl ?_
      refine ex_ialdx (pc := 12) u (nI (T.e u).pr) d_RF_within_12 (Nat.le_of_ble_eq_true rfl) rfl rfl rfl (nI_t (by omega)) (show u < 40 by omega) (hpr u (by omega) huc) ?_
      refine ex_istore_n (pc := 13) (i := 3) d_RF_within_13 rfl (by decide) ?_
      refine ex_goto (pc := 14) (tgt := 2) d_RF_within_14 rfl ?_
      have hpu := hple u (by omega) huc
      exact ih (T.e u).pr (by omega) (by rw [if_pos hlt] at hv; exact hv) (by omega)

set_option maxRecDepth 100000 in
set_option maxHeartbeats 4000000 in
theorem ct_RF_within (l : Launch) (G : ex_G) (iv : Nat → Nat → Int32) (mp : Nat → Nat) (sp mo : Nat) (mn : Nat → Nat) (a : Nat → Int32) (n : Nat) (hA : TxR iv a n) (T : TS) (hT : RefT iv mn n T) (hX : tX a T n) (hs : T.stk = []) (iv1 : Nat → Nat → Int32) (s9 : List Int32) (hq : FmQ 92 42 128 iv iv1 s9) (th o9 : Nat) (hth : th ≤ T.cn) (ho : o9 ≤ T.cn) : CT l G 0 M_RF_within [.ref 92, .int (nI th), .int (nI o9)] (HP iv1 mp sp mo) 0 0 (fun r h' => h' = HP iv1 mp sp mo ∧ r = some (.int (b2i (wIn T.e th th o9)))) := by
  refine ex_enter (by decide) (Nat.le_of_ble_eq_true rfl) (fun v hv => by simp at hv; rcases hv with rfl | rfl | rfl <;> rfl) (fun p e s m args below meth c => ?_)
  refine ex_iload_n (pc := 0) (i := 1) d_RF_within_0 rfl rfl ?_
  refine ex_istore_n (pc := 1) (i := 3) d_RF_within_1 rfl (by decide) ?_
  exact lp_RF_within l G iv mp sp mo mn a n hA T hT hX hs iv1 s9 hq th o9 hth ho _ th th hth rfl (Nat.le_refl _)

