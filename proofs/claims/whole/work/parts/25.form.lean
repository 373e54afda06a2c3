/-! characters of the form, on both sides; small methods of the reference -/
theorem c_id2 {x : Int32} (h0 : 0 ≤ x.toInt) (h1 : x.toInt < 65536) : (x.toUInt32 % 65536).toInt32 = x := by
  have e := i_of x h0
  generalize hq : x.toInt.toNat = q at e
  have hq2 : q < 65536 := by omega
  rw [pk_char, e, pk_tn (by omega), Nat.mod_eq_of_lt hq2]
/-- c characters of f from i on, put behind n others -/
def cpyF (o k a : Nat) (f : Nat → Int32) : Nat → Nat → Nat → (Nat → Nat → Int32) → Nat → Nat → Int32
  | 0, _, _, iv => iv
  | c + 1, i, n, iv => cpyF o k a f c (i + 1) (n + 1) (apH iv o k a n (f i))
set_option maxRecDepth 100000 in
set_option maxHeartbeats 4000000 in
theorem ct_Fo_put (l : Launch) (G : ex_G) (iv : Nat → Nat → Int32) (mp : Nat → Nat) (sp mo : Nat) (n : Nat) (hn : iv 82 4 = nI n) (hl : n < 694) (ch : Int32) (h0 : 0 ≤ ch.toInt) (h1 : ch.toInt < 65536) : CT l G 0 M_Fo_put [.ref 82, .int ch] (HP iv mp sp mo) 0 0 (fun r h' => h' = HP (apH iv 82 4 83 n ch) mp sp mo ∧ r = none) := by
  refine ex_enter (by decide) (Nat.le_of_ble_eq_true rfl) (fun v hv => by simp at hv; rcases hv with rfl | rfl <;> rfl) (fun p e s m args below meth c => ?_)
  refine ex_aload_n (pc := 0) (i := 0) d_Fo_put_0 rfl rfl ?_
  refine ex_getx (pc := 1) 5 4 (nI n) d_Fo_put_1 FL_Fo_27 (Nat.le_of_ble_eq_true rfl) rfl hn ?_
  refine ex_sipush (pc := 4) (v := (nI 694)) d_Fo_put_4 (by decide) ?_
  refine ex_icmp_ge (pc := 7) (tgt := 31) d_Fo_put_7 rfl (fun c7 => ?_) (fun c7 => ?_)
  · exact absurd ((n_ge (by omega) (by omega)).mp c7) (by omega)
  · refine ex_aload_n (pc := 10) (i := 0) d_Fo_put_10 rfl rfl ?_
    refine ex_getr (pc := 11) 5 3 d_Fo_put_11 FL_Fo_9 (Nat.le_of_ble_eq_true rfl) rfl rfl ?_
    refine ex_aload_n (pc := 14) (i := 0) d_Fo_put_14 rfl rfl ?_
    refine ex_getx (pc := 15) 5 4 (nI n) d_Fo_put_15 FL_Fo_27 (Nat.le_of_ble_eq_true rfl) rfl hn ?_
    refine ex_iload_n (pc := 18) (i := 1) d_Fo_put_18 rfl rfl ?_
    refine ex_i2c (pc := 19) (v := ch) d_Fo_put_19 (c_id2 h0 h1) ?_
    refine ex_cast (pc := 20) n d_Fo_put_20 (Nat.le_of_ble_eq_true rfl) rfl rfl rfl (nI_t (by omega)) (show n < 694 from hl) ?_
    refine ex_aload_n (pc := 21) (i := 0) d_Fo_put_21 rfl rfl ?_
    refine ex_dup (pc := 22) d_Fo_put_22 rfl ?_
    refine ex_getx (pc := 23) 5 4 (nI n) d_Fo_put_23 FL_Fo_27 (Nat.le_of_ble_eq_true rfl) rfl hn ?_
    refine ex_iconst (pc := 26) (v := (nI 1)) d_Fo_put_26 (by decide) ?_
    refine ex_iadd (pc := 27) d_Fo_put_27 ?_
    refine ex_puti (pc := 28) 5 4 .int d_Fo_put_28 (PF_Fo_27 _) (Nat.le_of_ble_eq_true rfl) rfl rfl rfl ?_
    refine ex_heap (h' := HP (apH iv 82 4 83 n ch) mp sp mo) ?_ ?_
    · rw [nar_c h0 h1, nI_s]
      rfl
    refine ex_vret d_Fo_put_31 rfl rfl (Nat.le_refl _) ?_
    exact ⟨rfl, rfl⟩

set_option maxRecDepth 100000 in
set_option maxHeartbeats 4000000 in
theorem ct_RF_put (l : Launch) (G : ex_G) (iv : Nat → Nat → Int32) (mp : Nat → Nat) (sp mo : Nat) (n : Nat) (hn : iv 92 42 = nI n) (hl : n < 900) (ch : Int32) : CT l G 0 M_RF_put [.ref 92, .int ch] (HP iv mp sp mo) 0 0 (fun r h' => h' = HP (apH iv 92 42 128 n ch) mp sp mo ∧ r = none) := by
  refine ex_enter (by decide) (Nat.le_of_ble_eq_true rfl) (fun v hv => by simp at hv; rcases hv with rfl | rfl <;> rfl) (fun p e s m args below meth c => ?_)
  refine ex_aload_n (pc := 0) (i := 0) d_RF_put_0 rfl rfl ?_
  refine ex_getr (pc := 1) 12 43 d_RF_put_1 FL_RF_116 (Nat.le_of_ble_eq_true rfl) rfl rfl ?_
  refine ex_aload_n (pc := 4) (i := 0) d_RF_put_4 rfl rfl ?_
  refine ex_getx (pc := 5) 12 42 (nI n) d_RF_put_5 FL_RF_234 (Nat.le_of_ble_eq_true rfl) rfl hn ?_
  refine ex_iload_n (pc := 8) (i := 1) d_RF_put_8 rfl rfl ?_
  refine ex_iast (pc := 9) n d_RF_put_9 (Nat.le_of_ble_eq_true rfl) rfl rfl rfl (nI_t (by omega)) (show n < 900 from hl) ?_
  refine ex_aload_n (pc := 10) (i := 0) d_RF_put_10 rfl rfl ?_
  refine ex_dup (pc := 11) d_RF_put_11 rfl ?_
  refine ex_getx (pc := 12) 12 42 (nI n) d_RF_put_12 FL_RF_234 (Nat.le_of_ble_eq_true rfl) rfl hn ?_
  refine ex_iconst (pc := 15) (v := (nI 1)) d_RF_put_15 (by decide) ?_
  refine ex_iadd (pc := 16) d_RF_put_16 ?_
  refine ex_puti (pc := 17) 12 42 .int d_RF_put_17 (PF_RF_234 _) (Nat.le_of_ble_eq_true rfl) rfl rfl rfl ?_
  refine ex_heap (h' := HP (apH iv 92 42 128 n ch) mp sp mo) ?_ ?_
  · rw [nI_s]
    rfl
  refine ex_vret d_RF_put_20 rfl rfl (Nat.le_refl _) ?_
  exact ⟨rfl, rfl⟩

set_option maxRecDepth 100000 in
set_option maxHeartbeats 4000000 in
theorem lp_Fo_copy {p : Program} {e : Env} {s : State} {m : MethodId} {args : Array Value} {below : List Frame} {meth : Method} {c : Code} (l : Launch) (G : ex_G) (mp : Nat → Nat) (sp mo : Nat) (x : Int32) (b sz : Nat) (hsz : sz ≤ 100) (hb : b ≤ sz) (f : Nat → Int32) (hw : ∀ q, q < sz → wrB (f q) = true) (Z : Nat → Nat → Int32) : ∀ (k i n : Nat) (iv : Nat → Nat → Int32), i + k = b → iv 39 1 = nI sz → (∀ q, iv 40 q = f q) → iv 82 4 = nI n → n + k ≤ 694 → cpyF 82 4 83 f k i n iv = Z → EXM M_Fo_copy l G 1 (fun r h' => h' = HP Z mp sp mo ∧ r = none) p e s m args below meth c 2 [some (.ref 82), some (.int x), some (.int (nI b)), some (.int (nI i))] [] (HP iv mp sp mo) := by
  intro k
  induction k with
  | zero =>
    intro i n iv hik hs hf hn hl hv
    subst hv
    refine ex_iload_n (pc := 2) (i := 3) d_Fo_copy_2 rfl rfl ?_
    refine ex_iload_n (pc := 3) (i := 2) d_Fo_copy_3 rfl rfl ?_
    refine ex_icmp_ge (pc := 4) (tgt := 25) d_Fo_copy_4 rfl (fun c4 => ?_) (fun c4 => ?_)
    · refine ex_vret d_Fo_copy_25 rfl rfl (Nat.le_refl _) ?_
      exact ⟨rfl, rfl⟩
    · exact absurd ((n_ge (by omega) (by omega)).mpr (by omega)) c4
  | succ k ih =>
    intro i n iv hik hs hf hn hl hv
    rw [cpyF] at hv
    have hwi := wr_r (hw i (by omega))
    have hat : gAt (iv 39 1) (iv 40) (nI i) = f i := by
      have e1 : (nI i).toInt = (i : Int) := nI_t (by omega)
      have e2 : (nI sz).toInt = (sz : Int) := nI_t (by omega)
      rw [gAt, hs, if_pos (by omega), e1, show ((i : Int)).toNat = i from by omega, hf]
    refine ex_iload_n (pc := 2) (i := 3) d_Fo_copy_2 rfl rfl ?_
    refine ex_iload_n (pc := 3) (i := 2) d_Fo_copy_3 rfl rfl ?_
    refine ex_icmp_ge (pc := 4) (tgt := 25) d_Fo_copy_4 rfl (fun c4 => ?_) (fun c4 => ?_)
    · exact absurd ((n_ge (by omega) (by omega)).mp c4) (by omega)
    · refine ex_aload_n (pc := 7) (i := 0) d_Fo_copy_7 rfl rfl ?_
      refine ex_aload_n (pc := 8) (i := 0) d_Fo_copy_8 rfl rfl ?_
      refine ex_getr (pc := 9) 5 0 d_Fo_copy_9 FL_Fo_15 (Nat.le_of_ble_eq_true rfl) rfl rfl ?_
      refine ex_iload_n (pc := 12) (i := 3) d_Fo_copy_12 rfl rfl ?_
      refine ex_callV (pc := 13) (M' := M_Tx_at) (as := [.int (nI i)]) (st := [.ref 82]) d_Fo_copy_13 MW_Tx_at MI_Tx_at LK_Fo_80 (Nat.le_of_ble_eq_true rfl) rfl rfl rfl (ct_Tx_at l G iv mp sp mo (nI i) (by rw [hs, nI_t (by omega)]; omega)) (ex_lt_rm (by decide)) ⟨Nat.le_refl _, Nat.le_refl _⟩ rfl rfl (Nat.le_of_ble_eq_true rfl) ?_
      rintro _ _ ⟨rfl, rfl⟩
      refine ex_top hat ?_
      refine ex_callV (pc := 16) (M' := M_Fo_put) (as := [.int (f i)]) (st := []) d_Fo_copy_16 MW_Fo_put MI_Fo_put LK_Fo_77 (Nat.le_of_ble_eq_true rfl) rfl rfl rfl (ct_Fo_put l G iv mp sp mo n hn (by omega) (f i) (by omega) (by omega)) (ex_lt_rm (by decide)) ⟨Nat.le_refl _, Nat.le_refl _⟩ rfl rfl (Nat.le_of_ble_eq_true rfl) ?_
      rintro _ _ ⟨rfl, rfl⟩
      refine ex_iinc (pc := 19) (v := (nI (i + 1))) d_Fo_copy_19 rfl (nI_1 i) (by decide) ?_
      refine ex_goto (pc := 22) (tgt := 2) d_Fo_copy_22 rfl ?_
      exact ih (i + 1) (n + 1) (apH iv 82 4 83 n (f i)) (by omega) hs hf rfl (by omega) hv

set_option maxRecDepth 100000 in
set_option maxHeartbeats 4000000 in
theorem ct_Fo_copy (l : Launch) (G : ex_G) (iv : Nat → Nat → Int32) (mp : Nat → Nat) (sp mo : Nat) (a b sz n : Nat) (hab : a ≤ b) (hb : b ≤ sz) (hsz : sz ≤ 100) (hs : iv 39 1 = nI sz) (hc : txC iv sz) (hn : iv 82 4 = nI n) (hl : n + (b - a) ≤ 694) : CT l G 1 M_Fo_copy [.ref 82, .int (nI a), .int (nI b)] (HP iv mp sp mo) 0 0 (fun r h' => h' = HP (cpyF 82 4 83 (iv 40) (b - a) a n iv) mp sp mo ∧ r = none) := by
  refine ex_enter (by decide) (Nat.le_of_ble_eq_true rfl) (fun v hv => by simp at hv; rcases hv with rfl | rfl | rfl <;> rfl) (fun p e s m args below meth c => ?_)
  refine ex_iload_n (pc := 0) (i := 1) d_Fo_copy_0 rfl rfl ?_
  refine ex_istore_n (pc := 1) (i := 3) d_Fo_copy_1 rfl (by decide) ?_
  exact lp_Fo_copy l G mp sp mo (nI a) b sz hsz hb (iv 40) hc _ (b - a) a n iv (by omega) hs (fun _ => rfl) hn hl rfl

set_option maxRecDepth 100000 in
set_option maxHeartbeats 4000000 in
theorem lp_Fo_startLine {p : Program} {e : Env} {s : State} {m : MethodId} {args : Array Value} {below : List Frame} {meth : Method} {c : Code} (l : Launch) (G : ex_G) (mp : Nat → Nat) (sp mo : Nat) (b : Nat) (hb : b ≤ 100) (Z : Nat → Nat → Int32) : ∀ (k i n : Nat) (iv : Nat → Nat → Int32), i + k = b → iv 82 4 = nI n → n + k ≤ 694 → cpyF 82 4 83 (fun _ => nI 32) k i n iv = Z → EXM M_Fo_startLine l G 1 (fun r h' => h' = HP Z mp sp mo ∧ r = none) p e s m args below meth c 8 [some (.ref 82), some (.int (nI b)), some (.int (nI i))] [] (HP iv mp sp mo) := by
  intro k
  induction k with
  | zero =>
    intro i n iv hik hn hl hv
    subst hv
    refine ex_iload_n (pc := 8) (i := 2) d_Fo_startLine_8 rfl rfl ?_
    refine ex_iload_n (pc := 9) (i := 1) d_Fo_startLine_9 rfl rfl ?_
    refine ex_icmp_ge (pc := 10) (tgt := 25) d_Fo_startLine_10 rfl (fun c10 => ?_) (fun c10 => ?_)
    · refine ex_vret d_Fo_startLine_25 rfl rfl (Nat.le_refl _) ?_
      exact ⟨rfl, rfl⟩
    · exact absurd ((n_ge (by omega) (by omega)).mpr (by omega)) c10
  | succ k ih =>
    intro i n iv hik hn hl hv
    rw [cpyF] at hv
    refine ex_iload_n (pc := 8) (i := 2) d_Fo_startLine_8 rfl rfl ?_
    refine ex_iload_n (pc := 9) (i := 1) d_Fo_startLine_9 rfl rfl ?_
    refine ex_icmp_ge (pc := 10) (tgt := 25) d_Fo_startLine_10 rfl (fun c10 => ?_) (fun c10 => ?_)
    · exact absurd ((n_ge (by omega) (by omega)).mp c10) (by omega)
    · refine ex_aload_n (pc := 13) (i := 0) d_Fo_startLine_13 rfl rfl ?_
      refine ex_bipush (pc := 14) (v := (nI 32)) d_Fo_startLine_14 (by decide) ?_
      refine ex_callV (pc := 16) (M' := M_Fo_put) (as := [.int (nI 32)]) (st := []) d_Fo_startLine_16 MW_Fo_put MI_Fo_put LK_Fo_77 (Nat.le_of_ble_eq_true rfl) rfl rfl rfl (ct_Fo_put l G iv mp sp mo n hn (by omega) (nI 32) (by decide) (by decide)) (ex_lt_rm (by decide)) ⟨Nat.le_refl _, Nat.le_refl _⟩ rfl rfl (Nat.le_of_ble_eq_true rfl) ?_
      rintro _ _ ⟨rfl, rfl⟩
      refine ex_iinc (pc := 19) (v := (nI (i + 1))) d_Fo_startLine_19 rfl (nI_1 i) (by decide) ?_
      refine ex_goto (pc := 22) (tgt := 8) d_Fo_startLine_22 rfl ?_
      exact ih (i + 1) (n + 1) (apH iv 82 4 83 n (nI 32)) (by omega) rfl (by omega) hv

/-- a line's end and b spaces -/
def linF (o k a b n : Nat) (iv : Nat → Nat → Int32) : Nat → Nat → Int32 := cpyF o k a (fun _ => nI 32) b 0 (n + 1) (apH iv o k a n (nI 10))
set_option maxRecDepth 100000 in
set_option maxHeartbeats 4000000 in
theorem ct_Fo_startLine (l : Launch) (G : ex_G) (iv : Nat → Nat → Int32) (mp : Nat → Nat) (sp mo : Nat) (b n : Nat) (hb : b ≤ 100) (hn : iv 82 4 = nI n) (hl : n + b + 1 ≤ 694) : CT l G 1 M_Fo_startLine [.ref 82, .int (nI b)] (HP iv mp sp mo) 0 0 (fun r h' => h' = HP (linF 82 4 83 b n iv) mp sp mo ∧ r = none) := by
  refine ex_enter (by decide) (Nat.le_of_ble_eq_true rfl) (fun v hv => by simp at hv; rcases hv with rfl | rfl <;> rfl) (fun p e s m args below meth c => ?_)
  refine ex_aload_n (pc := 0) (i := 0) d_Fo_startLine_0 rfl rfl ?_
  refine ex_bipush (pc := 1) (v := (nI 10)) d_Fo_startLine_1 (by decide) ?_
  refine ex_callV (pc := 3) (M' := M_Fo_put) (as := [.int (nI 10)]) (st := []) d_Fo_startLine_3 MW_Fo_put MI_Fo_put LK_Fo_77 (Nat.le_of_ble_eq_true rfl) rfl rfl rfl (ct_Fo_put l G iv mp sp mo n hn (by omega) (nI 10) (by decide) (by decide)) (ex_lt_rm (by decide)) ⟨Nat.le_refl _, Nat.le_refl _⟩ rfl rfl (Nat.le_of_ble_eq_true rfl) ?_
  rintro _ _ ⟨rfl, rfl⟩
  refine ex_iconst (pc := 6) (v := (nI 0)) d_Fo_startLine_6 (by decide) ?_
  refine ex_istore_n (pc := 7) (i := 2) d_Fo_startLine_7 rfl (by decide) ?_
  exact lp_Fo_startLine l G mp sp mo b hb _ b 0 (n + 1) (apH iv 82 4 83 n (nI 10)) (by omega) rfl (by omega) rfl

set_option maxRecDepth 100000 in
set_option maxHeartbeats 4000000 in
theorem lp_RF_putText {p : Program} {e : Env} {s : State} {m : MethodId} {args : Array Value} {below : List Frame} {meth : Method} {c : Code} (l : Launch) (G : ex_G) (mp : Nat → Nat) (sp mo : Nat) (x : Int32) (b : Nat) (hb : b ≤ 100) (f : Nat → Int32) (Z : Nat → Nat → Int32) : ∀ (k i n : Nat) (iv : Nat → Nat → Int32), i + k = b → (∀ q, iv 106 q = f q) → iv 92 42 = nI n → n + k ≤ 900 → cpyF 92 42 128 f k i n iv = Z → EXM M_RF_putText l G 1 (fun r h' => h' = HP Z mp sp mo ∧ r = none) p e s m args below meth c 2 [some (.ref 92), some (.int x), some (.int (nI b)), some (.int (nI i))] [] (HP iv mp sp mo) := by
  intro k
  induction k with
  | zero =>
    intro i n iv hik hf hn hl hv
    subst hv
    refine ex_iload_n (pc := 2) (i := 3) d_RF_putText_2 rfl rfl ?_
    refine ex_iload_n (pc := 3) (i := 2) d_RF_putText_3 rfl rfl ?_
    refine ex_icmp_ge (pc := 4) (tgt := 23) d_RF_putText_4 rfl (fun c4 => ?_) (fun c4 => ?_)
    · refine ex_vret d_RF_putText_23 rfl rfl (Nat.le_refl _) ?_
      exact ⟨rfl, rfl⟩
    · exact absurd ((n_ge (by omega) (by omega)).mpr (by omega)) c4
  | succ k ih =>
    intro i n iv hik hf hn hl hv
    rw [cpyF] at hv
    refine ex_iload_n (pc := 2) (i := 3) d_RF_putText_2 rfl rfl ?_
    refine ex_iload_n (pc := 3) (i := 2) d_RF_putText_3 rfl rfl ?_
    refine ex_icmp_ge (pc := 4) (tgt := 23) d_RF_putText_4 rfl (fun c4 => ?_) (fun c4 => ?_)
    · exact absurd ((n_ge (by omega) (by omega)).mp c4) (by omega)
    · refine ex_aload_n (pc := 7) (i := 0) d_RF_putText_7 rfl rfl ?_
      refine ex_aload_n (pc := 8) (i := 0) d_RF_putText_8 rfl rfl ?_
      refine ex_getr (pc := 9) 12 15 d_RF_putText_9 FL_RF_50 (Nat.le_of_ble_eq_true rfl) rfl rfl ?_
      refine ex_iload_n (pc := 12) (i := 3) d_RF_putText_12 rfl rfl ?_
      refine ex_ialdx (pc := 13) i (f i) d_RF_putText_13 (Nat.le_of_ble_eq_true rfl) rfl rfl rfl (nI_t (by omega)) (show i < 100 by omega) (hf i) ?_
      refine ex_callV (pc := 14) (M' := M_RF_put) (as := [.int (f i)]) (st := []) d_RF_putText_14 MW_RF_put MI_RF_put LK_RF_237 (Nat.le_of_ble_eq_true rfl) rfl rfl rfl (ct_RF_put l G iv mp sp mo n hn (by omega) (f i)) (ex_lt_rm (by decide)) ⟨Nat.le_refl _, Nat.le_refl _⟩ rfl rfl (Nat.le_of_ble_eq_true rfl) ?_
      rintro _ _ ⟨rfl, rfl⟩
      refine ex_iinc (pc := 17) (v := (nI (i + 1))) d_RF_putText_17 rfl (nI_1 i) (by decide) ?_
      refine ex_goto (pc := 20) (tgt := 2) d_RF_putText_20 rfl ?_
      exact ih (i + 1) (n + 1) (apH iv 92 42 128 n (f i)) (by omega) hf rfl (by omega) hv

set_option maxRecDepth 100000 in
set_option maxHeartbeats 4000000 in
theorem ct_RF_putText (l : Launch) (G : ex_G) (iv : Nat → Nat → Int32) (mp : Nat → Nat) (sp mo : Nat) (a b n : Nat) (hab : a ≤ b) (hb : b ≤ 100) (hn : iv 92 42 = nI n) (hl : n + (b - a) ≤ 900) : CT l G 1 M_RF_putText [.ref 92, .int (nI a), .int (nI b)] (HP iv mp sp mo) 0 0 (fun r h' => h' = HP (cpyF 92 42 128 (iv 106) (b - a) a n iv) mp sp mo ∧ r = none) := by
  refine ex_enter (by decide) (Nat.le_of_ble_eq_true rfl) (fun v hv => by simp at hv; rcases hv with rfl | rfl | rfl <;> rfl) (fun p e s m args below meth c => ?_)
  refine ex_iload_n (pc := 0) (i := 1) d_RF_putText_0 rfl rfl ?_
  refine ex_istore_n (pc := 1) (i := 3) d_RF_putText_1 rfl (by decide) ?_
  exact lp_RF_putText l G mp sp mo (nI a) b hb (iv 106) _ (b - a) a n iv (by omega) (fun _ => rfl) hn hl rfl

set_option maxRecDepth 100000 in
set_option maxHeartbeats 4000000 in
theorem lp_RF_putLine {p : Program} {e : Env} {s : State} {m : MethodId} {args : Array Value} {below : List Frame} {meth : Method} {c : Code} (l : Launch) (G : ex_G) (mp : Nat → Nat) (sp mo : Nat) (b : Nat) (hb : b ≤ 100) (Z : Nat → Nat → Int32) : ∀ (k i n : Nat) (iv : Nat → Nat → Int32), i + k = b → iv 92 42 = nI n → n + k ≤ 900 → cpyF 92 42 128 (fun _ => nI 32) k i n iv = Z → EXM M_RF_putLine l G 1 (fun r h' => h' = HP Z mp sp mo ∧ r = none) p e s m args below meth c 8 [some (.ref 92), some (.int (nI b)), some (.int (nI i))] [] (HP iv mp sp mo) := by
  intro k
  induction k with
  | zero =>
    intro i n iv hik hn hl hv
    subst hv
    refine ex_iload_n (pc := 8) (i := 2) d_RF_putLine_8 rfl rfl ?_
    refine ex_iload_n (pc := 9) (i := 1) d_RF_putLine_9 rfl rfl ?_
    refine ex_icmp_ge (pc := 10) (tgt := 25) d_RF_putLine_10 rfl (fun c10 => ?_) (fun c10 => ?_)
    · refine ex_vret d_RF_putLine_25 rfl rfl (Nat.le_refl _) ?_
      exact ⟨rfl, rfl⟩
    · exact absurd ((n_ge (by omega) (by omega)).mpr (by omega)) c10
  | succ k ih =>
    intro i n iv hik hn hl hv
    rw [cpyF] at hv
    refine ex_iload_n (pc := 8) (i := 2) d_RF_putLine_8 rfl rfl ?_
    refine ex_iload_n (pc := 9) (i := 1) d_RF_putLine_9 rfl rfl ?_
    refine ex_icmp_ge (pc := 10) (tgt := 25) d_RF_putLine_10 rfl (fun c10 => ?_) (fun c10 => ?_)
    · exact absurd ((n_ge (by omega) (by omega)).mp c10) (by omega)
    · refine ex_aload_n (pc := 13) (i := 0) d_RF_putLine_13 rfl rfl ?_
      refine ex_bipush (pc := 14) (v := (nI 32)) d_RF_putLine_14 (by decide) ?_
      refine ex_callV (pc := 16) (M' := M_RF_put) (as := [.int (nI 32)]) (st := []) d_RF_putLine_16 MW_RF_put MI_RF_put LK_RF_237 (Nat.le_of_ble_eq_true rfl) rfl rfl rfl (ct_RF_put l G iv mp sp mo n hn (by omega) (nI 32)) (ex_lt_rm (by decide)) ⟨Nat.le_refl _, Nat.le_refl _⟩ rfl rfl (Nat.le_of_ble_eq_true rfl) ?_
      rintro _ _ ⟨rfl, rfl⟩
      refine ex_iinc (pc := 19) (v := (nI (i + 1))) d_RF_putLine_19 rfl (nI_1 i) (by decide) ?_
      refine ex_goto (pc := 22) (tgt := 8) d_RF_putLine_22 rfl ?_
      exact ih (i + 1) (n + 1) (apH iv 92 42 128 n (nI 32)) (by omega) rfl (by omega) hv

set_option maxRecDepth 100000 in
set_option maxHeartbeats 4000000 in
theorem ct_RF_putLine (l : Launch) (G : ex_G) (iv : Nat → Nat → Int32) (mp : Nat → Nat) (sp mo : Nat) (b n : Nat) (hb : b ≤ 100) (hn : iv 92 42 = nI n) (hl : n + b + 1 ≤ 900) : CT l G 1 M_RF_putLine [.ref 92, .int (nI b)] (HP iv mp sp mo) 0 0 (fun r h' => h' = HP (linF 92 42 128 b n iv) mp sp mo ∧ r = none) := by
  refine ex_enter (by decide) (Nat.le_of_ble_eq_true rfl) (fun v hv => by simp at hv; rcases hv with rfl | rfl <;> rfl) (fun p e s m args below meth c => ?_)
  refine ex_aload_n (pc := 0) (i := 0) d_RF_putLine_0 rfl rfl ?_
  refine ex_bipush (pc := 1) (v := (nI 10)) d_RF_putLine_1 (by decide) ?_
  refine ex_callV (pc := 3) (M' := M_RF_put) (as := [.int (nI 10)]) (st := []) d_RF_putLine_3 MW_RF_put MI_RF_put LK_RF_237 (Nat.le_of_ble_eq_true rfl) rfl rfl rfl (ct_RF_put l G iv mp sp mo n hn (by omega) (nI 10)) (ex_lt_rm (by decide)) ⟨Nat.le_refl _, Nat.le_refl _⟩ rfl rfl (Nat.le_of_ble_eq_true rfl) ?_
  rintro _ _ ⟨rfl, rfl⟩
  refine ex_iconst (pc := 6) (v := (nI 0)) d_RF_putLine_6 (by decide) ?_
  refine ex_istore_n (pc := 7) (i := 2) d_RF_putLine_7 rfl (by decide) ?_
  exact lp_RF_putLine l G mp sp mo b hb _ b 0 (n + 1) (apH iv 92 42 128 n (nI 10)) (by omega) rfl (by omega) rfl

def rfCls (iv : Nat → Nat → Int32) (i : Nat) (x : Int32) : Nat → Nat → Int32 := ex_u2 (ex_u2 (ex_u2 iv 115 i (nI 0)) 112 i x) 110 i x
set_option maxRecDepth 100000 in
set_option maxHeartbeats 4000000 in
theorem ct_RF_closeBare (l : Launch) (G : ex_G) (iv : Nat → Nat → Int32) (mp : Nat → Nat) (sp mo : Nat) (i n : Nat) (hi : i < 40) (hn : iv 92 29 = nI n) (hl : n < 400) (x : Int32) : CT l G 1 M_RF_closeBare [.ref 92, .int (nI i), .int x] (HP iv mp sp mo) 0 0 (fun r h' => h' = HP (rfFlt (rfCls iv i x) n (nI 4) (iv 109 i)) mp sp mo ∧ r = none) := by
  refine ex_enter (by decide) (Nat.le_of_ble_eq_true rfl) (fun v hv => by simp at hv; rcases hv with rfl | rfl | rfl <;> rfl) (fun p e s m args below meth c => ?_)
  refine ex_aload_n (pc := 0) (i := 0) d_RF_closeBare_0 rfl rfl ?_
  refine ex_getr (pc := 1) 12 25 d_RF_closeBare_1 FL_RF_77 (Nat.le_of_ble_eq_true rfl) rfl rfl ?_
  refine ex_iload_n (pc := 4) (i := 1) d_RF_closeBare_4 rfl rfl ?_
  refine ex_iconst (pc := 5) (v := (nI 0)) d_RF_closeBare_5 (by decide) ?_
  refine ex_zast (pc := 6) i d_RF_closeBare_6 (Nat.le_of_ble_eq_true rfl) rfl rfl rfl (nI_t (by omega)) (show i < 40 from hi) ?_
  refine ex_aload_n (pc := 7) (i := 0) d_RF_closeBare_7 rfl rfl ?_
  refine ex_getr (pc := 8) 12 22 d_RF_closeBare_8 FL_RF_68 (Nat.le_of_ble_eq_true rfl) rfl rfl ?_
  refine ex_iload_n (pc := 11) (i := 1) d_RF_closeBare_11 rfl rfl ?_
  refine ex_iload_n (pc := 12) (i := 2) d_RF_closeBare_12 rfl rfl ?_
  refine ex_iast (pc := 13) i d_RF_closeBare_13 (Nat.le_of_ble_eq_true rfl) rfl rfl rfl (nI_t (by omega)) (show i < 40 from hi) ?_
  refine ex_aload_n (pc := 14) (i := 0) d_RF_closeBare_14 rfl rfl ?_
  refine ex_getr (pc := 15) 12 20 d_RF_closeBare_15 FL_RF_62 (Nat.le_of_ble_eq_true rfl) rfl rfl ?_
  refine ex_iload_n (pc := 18) (i := 1) d_RF_closeBare_18 rfl rfl ?_
  refine ex_iload_n (pc := 19) (i := 2) d_RF_closeBare_19 rfl rfl ?_
  refine ex_iast (pc := 20) i d_RF_closeBare_20 (Nat.le_of_ble_eq_true rfl) rfl rfl rfl (nI_t (by omega)) (show i < 40 from hi) ?_
  refine ex_heap (h' := HP (rfCls iv i x) mp sp mo) ?_ ?_
  · rw [show vp_nar .boolean (nI 0) = nI 0 from by decide]
    rfl
  refine ex_aload_n (pc := 21) (i := 0) d_RF_closeBare_21 rfl rfl ?_
  refine ex_iconst (pc := 22) (v := (nI 4)) d_RF_closeBare_22 (by decide) ?_
  refine ex_aload_n (pc := 23) (i := 0) d_RF_closeBare_23 rfl rfl ?_
  refine ex_getr (pc := 24) 12 19 d_RF_closeBare_24 FL_RF_59 (Nat.le_of_ble_eq_true rfl) rfl rfl ?_
  refine ex_iload_n (pc := 27) (i := 1) d_RF_closeBare_27 rfl rfl ?_
  refine ex_ialdx (pc := 28) i (iv 109 i) d_RF_closeBare_28 (Nat.le_of_ble_eq_true rfl) rfl rfl rfl (nI_t (by omega)) (show i < 40 from hi) rfl ?_
  refine ex_callV (pc := 29) (M' := M_RF_addFault) (as := [.int (nI 4), .int (iv 109 i)]) (st := []) d_RF_closeBare_29 MW_RF_addFault MI_RF_addFault LK_RF_188 (Nat.le_of_ble_eq_true rfl) rfl rfl rfl (ct_RF_addFault l G (rfCls iv i x) mp sp mo (nI 4) (iv 109 i) n hn hl) (ex_lt_rm (by decide)) ⟨Nat.le_refl _, Nat.le_refl _⟩ rfl rfl (Nat.le_of_ble_eq_true rfl) ?_
  rintro _ _ ⟨rfl, rfl⟩
  refine ex_vret d_RF_closeBare_32 rfl rfl (Nat.le_refl _) ?_
  exact ⟨rfl, rfl⟩

set_option maxRecDepth 100000 in
set_option maxHeartbeats 4000000 in
theorem ct_RF_modelOf (l : Launch) (G : ex_G) (iv : Nat → Nat → Int32) (mp : Nat → Nat) (sp mo : Nat) (i : Nat) (hi : i < 40) : CT l G 0 M_RF_modelOf [.ref 92, .int (nI i)] (HP iv mp sp mo) 0 0 (fun r h' => h' = HP iv mp sp mo ∧ r = some (.int (if i = 0 then nI 8 else iv 107 i - nI 97))) := by
  refine ex_enter (by decide) (Nat.le_of_ble_eq_true rfl) (fun v hv => by simp at hv; rcases hv with rfl | rfl <;> rfl) (fun p e s m args below meth c => ?_)
  refine ex_iload_n (pc := 0) (i := 1) d_RF_modelOf_0 rfl rfl ?_
  refine ex_if_ne (pc := 1) (tgt := 9) d_RF_modelOf_1 rfl (fun c1 => ?_) (fun c1 => ?_)
  · refine ex_aload_n (pc := 9) (i := 0) d_RF_modelOf_9 rfl rfl ?_
    refine ex_getr (pc := 10) 12 17 d_RF_modelOf_10 FL_RF_53 (Nat.le_of_ble_eq_true rfl) rfl rfl ?_
    refine ex_iload_n (pc := 13) (i := 1) d_RF_modelOf_13 rfl rfl ?_
    refine ex_ialdx (pc := 14) i (iv 107 i) d_RF_modelOf_14 (Nat.le_of_ble_eq_true rfl) rfl rfl rfl (nI_t (by omega)) (show i < 40 from hi) rfl ?_
    refine ex_bipush (pc := 15) (v := (nI 97)) d_RF_modelOf_15 (by decide) ?_
    refine ex_isub (pc := 17) d_RF_modelOf_17 ?_
    refine ex_iret (ty := .int) d_RF_modelOf_18 rfl rfl rfl (Nat.le_refl _) ?_
    exact ⟨rfl, by rw [if_neg (fun q => c1 (by rw [q]; rfl))]⟩
  · refine ex_bipush (pc := 4) (v := (nI 8)) d_RF_modelOf_4 (by decide) ?_
    refine ex_goto (pc := 6) (tgt := 18) d_RF_modelOf_6 rfl ?_
    refine ex_iret (ty := .int) d_RF_modelOf_18 rfl rfl rfl (Nat.le_refl _) ?_
    have q1 : i = 0 := (n_eq (by omega) (by omega)).mp c1
    exact ⟨rfl, by rw [if_pos q1]⟩

set_option maxRecDepth 100000 in
set_option maxHeartbeats 4000000 in
theorem ct_RF_isBit (l : Launch) (G : ex_G) (h : ex_H) (a : Nat) (ha : a < h.1) (x y : Int32) : CT l G 0 M_RF_isBit [.ref a, .int x, .int y] h 0 0 (fun r h' => h' = h ∧ r = some (.int (b2i (decide (x >>> (y &&& 31) &&& nI 1 = nI 1))))) := by
  refine ex_enter (by decide) (Nat.le_of_ble_eq_true rfl) (fun v hv => by simp at hv; rcases hv with rfl | rfl | rfl <;> rfl) (fun p e s m args below meth c => ?_)
  refine ex_iload_n (pc := 0) (i := 1) d_RF_isBit_0 rfl rfl ?_
  refine ex_iload_n (pc := 1) (i := 2) d_RF_isBit_1 rfl rfl ?_
  refine ex_ishr (pc := 2) d_RF_isBit_2 ?_
  refine ex_iconst (pc := 3) (v := (nI 1)) d_RF_isBit_3 (by decide) ?_
  refine ex_iand (pc := 4) d_RF_isBit_4 ?_
  refine ex_iconst (pc := 5) (v := (nI 1)) d_RF_isBit_5 (by decide) ?_
  refine ex_icmp_ne (pc := 6) (tgt := 13) d_RF_isBit_6 rfl (fun c6 => ?_) (fun c6 => ?_)
  · refine ex_iconst (pc := 13) (v := (nI 0)) d_RF_isBit_13 (by decide) ?_
    refine ex_iret (ty := .boolean) d_RF_isBit_14 rfl rfl rfl (Nat.le_refl _) ?_
    exact ⟨rfl, by rw [decide_eq_false c6]; rfl⟩
  · refine ex_iconst (pc := 9) (v := (nI 1)) d_RF_isBit_9 (by decide) ?_
    refine ex_goto (pc := 10) (tgt := 14) d_RF_isBit_10 rfl ?_
    refine ex_iret (ty := .boolean) d_RF_isBit_14 rfl rfl rfl (Nat.le_refl _) ?_
    exact ⟨rfl, by rw [decide_eq_true c6]; rfl⟩

theorem g0_at {iv : Nat → Nat → Int32} {n i : Nat} (hn : iv 92 0 = nI n) (hl : n ≤ 40) (hi : i < n) : gAt0 (iv 92 0) (iv 93) (nI i) = iv 93 i := by
  have e1 : (nI i).toInt = (i : Int) := nI_t (by omega)
  have e2 : (nI n).toInt = (n : Int) := nI_t (by omega)
  rw [gAt0, hn, if_pos (by omega), e1, show ((i : Int)).toNat = i from by omega]
set_option maxRecDepth 100000 in
set_option maxHeartbeats 4000000 in
theorem lp_RF_count {p : Program} {e : Env} {s : State} {m : MethodId} {args : Array Value} {below : List Frame} {meth : Method} {c : Code} (l : Launch) (G : ex_G) (iv : Nat → Nat → Int32) (mp : Nat → Nat) (sp mo : Nat) (b : Bool) (n : Nat) (hn : iv 92 0 = nI n) (hl : n ≤ 40) (v : Nat) : ∀ (k i a : Nat), i + k = n → a ≤ i → cntF (fun q => if b = true then nmB (iv 93 q) else decide (iv 93 q = nI 40)) k i a = v → EXM M_RF_count l G 1 (fun r h' => h' = HP iv mp sp mo ∧ r = some (.int (nI v))) p e s m args below meth c 4 [some (.ref 92), some (.int (b2i b)), some (.int (nI a)), some (.int (nI i))] [] (HP iv mp sp mo) := by
  intro k
  induction k with
  | zero =>
    intro i a hik ha hv
    subst hv
    refine ex_iload_n (pc := 4) (i := 3) d_RF_count_4 rfl rfl ?_
    refine ex_aload_n (pc := 5) (i := 0) d_RF_count_5 rfl rfl ?_
    refine ex_getx (pc := 6) 12 0 (nI n) d_RF_count_6 FL_RF_119 (Nat.le_of_ble_eq_true rfl) rfl hn ?_
    refine ex_icmp_ge (pc := 9) (tgt := 49) d_RF_count_9 rfl (fun c9 => ?_) (fun c9 => ?_)
    · refine ex_iload_n (pc := 49) (i := 2) d_RF_count_49 rfl rfl ?_
      refine ex_iret (ty := .int) d_RF_count_50 rfl rfl rfl (Nat.le_refl _) ?_
      exact ⟨rfl, rfl⟩
    · exact absurd ((n_ge (by omega) (by omega)).mpr (by omega)) c9
  | succ k ih =>
    intro i a hik ha hv
    rw [cntF] at hv
    refine ex_iload_n (pc := 4) (i := 3) d_RF_count_4 rfl rfl ?_
    refine ex_aload_n (pc := 5) (i := 0) d_RF_count_5 rfl rfl ?_
    refine ex_getx (pc := 6) 12 0 (nI n) d_RF_count_6 FL_RF_119 (Nat.le_of_ble_eq_true rfl) rfl hn ?_
    refine ex_icmp_ge (pc := 9) (tgt := 49) d_RF_count_9 rfl (fun c9 => ?_) (fun c9 => ?_)
    · exact absurd ((n_ge (by omega) (by omega)).mp c9) (by omega)
    · refine ex_iload_n (pc := 12) (i := 1) d_RF_count_12 rfl rfl ?_
      refine ex_if_eq (pc := 13) (tgt := 30) d_RF_count_13 rfl (fun c13 => ?_) (fun c13 => ?_)
      · refine ex_aload_n (pc := 30) (i := 0) d_RF_count_30 rfl rfl ?_
        refine ex_iload_n (pc := 31) (i := 3) d_RF_count_31 rfl rfl ?_
        refine ex_callV (pc := 32) (M' := M_RF_at) (as := [.int (nI i)]) (st := []) d_RF_count_32 MW_RF_at MI_RF_at LK_RF_123 (Nat.le_of_ble_eq_true rfl) rfl rfl rfl (ct_RF_at l G iv mp sp mo (nI i) (by rw [nI_t (by omega)]; omega) (by rw [hn, nI_t (by omega)]; omega)) (ex_lt_rm (by decide)) ⟨Nat.le_refl _, Nat.le_refl _⟩ rfl rfl (Nat.le_of_ble_eq_true rfl) ?_
        rintro _ _ ⟨rfl, rfl⟩
        refine ex_top (g0_at hn hl (by omega)) ?_
        refine ex_bipush (pc := 35) (v := (nI 40)) d_RF_count_35 (by decide) ?_
        refine ex_icmp_ne (pc := 37) (tgt := 43) d_RF_count_37 rfl (fun c37 => ?_) (fun c37 => ?_)
        · refine ex_iinc (pc := 43) (v := (nI (i + 1))) d_RF_count_43 rfl (nI_1 i) (by decide) ?_
          refine ex_goto (pc := 46) (tgt := 4) d_RF_count_46 rfl ?_
          have q1 := b2i_0 c13
          exact ih (i + 1) a (by omega) (by omega) (by rw [if_neg (by rw [q1, if_neg (by decide), decide_eq_false c37]; decide)] at hv; exact hv)
        · refine ex_iinc (pc := 40) (v := (nI (a + 1))) d_RF_count_40 rfl (nI_1 a) (by decide) ?_
          refine ex_iinc (pc := 43) (v := (nI (i + 1))) d_RF_count_43 rfl (nI_1 i) (by decide) ?_
          refine ex_goto (pc := 46) (tgt := 4) d_RF_count_46 rfl ?_
          have q1 := b2i_0 c13
          exact ih (i + 1) (a + 1) (by omega) (by omega) (by rw [if_pos (by rw [q1, if_neg (by decide), decide_eq_true c37])] at hv; exact hv)
      · refine ex_aload_n (pc := 16) (i := 0) d_RF_count_16 rfl rfl ?_
        refine ex_iload_n (pc := 17) (i := 3) d_RF_count_17 rfl rfl ?_
        refine ex_callV (pc := 18) (M' := M_RF_at) (as := [.int (nI i)]) (st := []) d_RF_count_18 MW_RF_at MI_RF_at LK_RF_123 (Nat.le_of_ble_eq_true rfl) rfl rfl rfl (ct_RF_at l G iv mp sp mo (nI i) (by rw [nI_t (by omega)]; omega) (by rw [hn, nI_t (by omega)]; omega)) (ex_lt_rm (by decide)) ⟨Nat.le_refl _, Nat.le_refl _⟩ rfl rfl (Nat.le_of_ble_eq_true rfl) ?_
        rintro _ _ ⟨rfl, rfl⟩
        refine ex_top (g0_at hn hl (by omega)) ?_
        refine ex_callS (pc := 21) (M' := M_RF_isName) (as := [.int (iv 93 i)]) (st := []) d_RF_count_21 MW_RF_isName ST_RF_isName LK_RF_127 (ct_RF_isName l G (HP iv mp sp mo) (iv 93 i)) (ex_lt_rm (by decide)) ⟨Nat.le_refl _, Nat.le_refl _⟩ rfl rfl (Nat.le_of_ble_eq_true rfl) ?_
        rintro _ _ ⟨rfl, rfl⟩
        refine ex_if_eq (pc := 24) (tgt := 43) d_RF_count_24 rfl (fun c24 => ?_) (fun c24 => ?_)
        · refine ex_iinc (pc := 43) (v := (nI (i + 1))) d_RF_count_43 rfl (nI_1 i) (by decide) ?_
          refine ex_goto (pc := 46) (tgt := 4) d_RF_count_46 rfl ?_
          have q1 := b2i_1 c13
          have q2 := b2i_0 c24
          exact ih (i + 1) a (by omega) (by omega) (by rw [if_neg (by rw [if_pos q1, q2]; decide)] at hv; exact hv)
        · refine ex_goto (pc := 27) (tgt := 40) d_RF_count_27 rfl ?_
          refine ex_iinc (pc := 40) (v := (nI (a + 1))) d_RF_count_40 rfl (nI_1 a) (by decide) ?_
          refine ex_iinc (pc := 43) (v := (nI (i + 1))) d_RF_count_43 rfl (nI_1 i) (by decide) ?_
          refine ex_goto (pc := 46) (tgt := 4) d_RF_count_46 rfl ?_
          have q1 := b2i_1 c13
          have q2 := b2i_1 c24
          exact ih (i + 1) (a + 1) (by omega) (by omega) (by rw [if_pos (by rw [if_pos q1, q2])] at hv; exact hv)

set_option maxRecDepth 100000 in
set_option maxHeartbeats 4000000 in
theorem ct_RF_count (l : Launch) (G : ex_G) (iv : Nat → Nat → Int32) (mp : Nat → Nat) (sp mo : Nat) (b : Bool) (n : Nat) (hn : iv 92 0 = nI n) (hl : n ≤ 40) : CT l G 1 M_RF_count [.ref 92, .int (b2i b)] (HP iv mp sp mo) 0 0 (fun r h' => h' = HP iv mp sp mo ∧ r = some (.int (nI (cntF (fun q => if b = true then nmB (iv 93 q) else decide (iv 93 q = nI 40)) n 0 0)))) := by
  refine ex_enter (by decide) (Nat.le_of_ble_eq_true rfl) (fun v hv => by simp at hv; rcases hv with rfl | rfl <;> rfl) (fun p e s m args below meth c => ?_)
  refine ex_iconst (pc := 0) (v := (nI 0)) d_RF_count_0 (by decide) ?_
  refine ex_istore_n (pc := 1) (i := 2) d_RF_count_1 rfl (by decide) ?_
  refine ex_iconst (pc := 2) (v := (nI 0)) d_RF_count_2 (by decide) ?_
  refine ex_istore_n (pc := 3) (i := 3) d_RF_count_3 rfl (by decide) ?_
  exact lp_RF_count l G iv mp sp mo b n hn hl _ n 0 0 (by omega) (Nat.le_refl _) rfl

