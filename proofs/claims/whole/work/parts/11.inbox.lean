/-! the inbox on both sides -/
abbrev EXM (M : ex_M) (l : Launch) (G : ex_G) (d : Nat) (Post : Option Value → ex_H → Prop) (p : Program) (e : Env) (s : State) (m : MethodId) (args : Array Value) (below : List Frame) (meth : Method) (c : Code) (pc : Nat) (L : List (Option Value)) (st : List Value) (h : ex_H) : Prop :=
  EX M l G (ex_rm d 0 0) (MQ below (ex_Q G 0 Post) args s 0 0 (fun q => G.1 ≤ q)) p e s m args below meth c 0 0 pc L st h
/-- the first place from i on, k places long, where P holds -/
def fndI (P : Nat → Bool) : Nat → Nat → Int32
  | 0, _ => -1
  | k + 1, i => if P i = true then nI i else fndI P k (i + 1)
theorem n_ge {a b : Nat} (ha : a ≤ 1000000) (hb : b ≤ 1000000) : nI a ≤ nI b ↔ a ≤ b := nI_leI (by omega) (by omega)
theorem n_lt {a b : Nat} (ha : a ≤ 1000000) (hb : b ≤ 1000000) : nI a < nI b ↔ a < b := nI_ltI (by omega) (by omega)
theorem n_eq {a b : Nat} (ha : a ≤ 1000000) (hb : b ≤ 1000000) : nI a = nI b ↔ a = b := nI_eq (by omega) (by omega)
set_option maxRecDepth 100000 in
set_option maxHeartbeats 4000000 in
theorem ct_In_isFull (l : Launch) (G : ex_G) (iv : Nat → Nat → Int32) (mp : Nat → Nat) (sp mo : Nat) (n : Nat) (hn : iv 84 4 = nI n) (hl : n ≤ 12) : CT l G 0 M_In_isFull [.ref 84] (HP iv mp sp mo) 0 0 (fun r h' => h' = HP iv mp sp mo ∧ r = some (.int (b2i (decide (n = 12))))) := by
  refine ex_enter (by decide) (Nat.le_of_ble_eq_true rfl) (fun v hv => by simp at hv; rcases hv with rfl <;> rfl) (fun p e s m args below meth c => ?_)
  refine ex_aload_n (pc := 0) (i := 0) d_In_isFull_0 rfl rfl ?_
  refine ex_getx (pc := 1) 6 4 (nI n) d_In_isFull_1 FL_In_24 (Nat.le_of_ble_eq_true rfl) rfl hn ?_
  refine ex_bipush (pc := 4) (v := (nI 12)) d_In_isFull_4 (by decide) ?_
  refine ex_icmp_lt (pc := 6) (tgt := 13) d_In_isFull_6 rfl (fun c6 => ?_) (fun c6 => ?_)
  · refine ex_iconst (pc := 13) (v := (nI 0)) d_In_isFull_13 (by decide) ?_
    refine ex_iret (ty := .boolean) d_In_isFull_14 rfl rfl rfl (Nat.le_refl _) ?_
    have q1 := (n_lt (by omega) (by omega)).mp c6
    rw [decide_eq_false (by omega)]
    exact ⟨rfl, rfl⟩
  · refine ex_iconst (pc := 9) (v := (nI 1)) d_In_isFull_9 (by decide) ?_
    refine ex_goto (pc := 10) (tgt := 14) d_In_isFull_10 rfl ?_
    refine ex_iret (ty := .boolean) d_In_isFull_14 rfl rfl rfl (Nat.le_refl _) ?_
    have q1 : ¬ n < 12 := fun q => c6 ((n_lt (by omega) (by omega)).mpr q)
    rw [decide_eq_true (by omega)]
    exact ⟨rfl, rfl⟩

/-- a message behind n others -/
def inPut (iv : Nat → Nat → Int32) (n : Nat) (k1 k2 k3 k4 : Int32) : Nat → Nat → Int32 := ex_u2 (ex_u2 (ex_u2 (ex_u2 (ex_u2 iv 85 n k1) 86 n k2) 87 n k3) 88 n k4) 84 4 (nI (n + 1))
set_option maxRecDepth 100000 in
set_option maxHeartbeats 4000000 in
theorem ct_In_put (l : Launch) (G : ex_G) (iv : Nat → Nat → Int32) (mp : Nat → Nat) (sp mo : Nat) (n : Nat) (k1 k2 k3 k4 : Int32) (hn : iv 84 4 = nI n) (hl : n ≤ 12) : CT l G 1 M_In_put [.ref 84, .int k1, .int k2, .int k3, .int k4] (HP iv mp sp mo) 0 0 (fun r h' => h' = (if n = 12 then HP iv mp sp mo else HP (inPut iv n k1 k2 k3 k4) mp sp mo) ∧ r = some (.int (b2i (decide (¬ n = 12))))) := by
  refine ex_enter (by decide) (Nat.le_of_ble_eq_true rfl) (fun v hv => by simp at hv; rcases hv with rfl | rfl | rfl | rfl | rfl <;> rfl) (fun p e s m args below meth c => ?_)
  refine ex_aload_n (pc := 0) (i := 0) d_In_put_0 rfl rfl ?_
  refine ex_callV (pc := 1) (M' := M_In_isFull) (as := []) (st := []) d_In_put_1 MW_In_isFull MI_In_isFull LK_In_28 (Nat.le_of_ble_eq_true rfl) rfl rfl rfl (ct_In_isFull l G iv mp sp mo n hn hl) (ex_lt_rm (by decide)) ⟨Nat.le_refl _, Nat.le_refl _⟩ rfl rfl (Nat.le_of_ble_eq_true rfl) ?_
  rintro _ _ ⟨rfl, rfl⟩
  refine ex_if_eq (pc := 4) (tgt := 9) d_In_put_4 rfl (fun c4 => ?_) (fun c4 => ?_)
  · have h13 := of_decide_eq_false (b2i_0 c4)
    have h12 : n < 12 := by omega
    refine ex_aload_n (pc := 9) (i := 0) d_In_put_9 rfl rfl ?_
    refine ex_getr (pc := 10) 6 0 d_In_put_10 FL_In_9 (Nat.le_of_ble_eq_true rfl) rfl rfl ?_
    refine ex_aload_n (pc := 13) (i := 0) d_In_put_13 rfl rfl ?_
    refine ex_getx (pc := 14) 6 4 (nI n) d_In_put_14 FL_In_24 (Nat.le_of_ble_eq_true rfl) rfl hn ?_
    refine ex_iload_n (pc := 17) (i := 1) d_In_put_17 rfl rfl ?_
    refine ex_iast (pc := 18) n d_In_put_18 (Nat.le_of_ble_eq_true rfl) rfl rfl rfl (nI_t (by omega)) (show n < 12 from h12) ?_
    refine ex_aload_n (pc := 19) (i := 0) d_In_put_19 rfl rfl ?_
    refine ex_getr (pc := 20) 6 1 d_In_put_20 FL_In_15 (Nat.le_of_ble_eq_true rfl) rfl rfl ?_
    refine ex_aload_n (pc := 23) (i := 0) d_In_put_23 rfl rfl ?_
    refine ex_getx (pc := 24) 6 4 (nI n) d_In_put_24 FL_In_24 (Nat.le_of_ble_eq_true rfl) rfl hn ?_
    refine ex_iload_n (pc := 27) (i := 2) d_In_put_27 rfl rfl ?_
    refine ex_iast (pc := 28) n d_In_put_28 (Nat.le_of_ble_eq_true rfl) rfl rfl rfl (nI_t (by omega)) (show n < 12 from h12) ?_
    refine ex_aload_n (pc := 29) (i := 0) d_In_put_29 rfl rfl ?_
    refine ex_getr (pc := 30) 6 2 d_In_put_30 FL_In_18 (Nat.le_of_ble_eq_true rfl) rfl rfl ?_
    refine ex_aload_n (pc := 33) (i := 0) d_In_put_33 rfl rfl ?_
    refine ex_getx (pc := 34) 6 4 (nI n) d_In_put_34 FL_In_24 (Nat.le_of_ble_eq_true rfl) rfl hn ?_
    refine ex_iload_n (pc := 37) (i := 3) d_In_put_37 rfl rfl ?_
    refine ex_iast (pc := 38) n d_In_put_38 (Nat.le_of_ble_eq_true rfl) rfl rfl rfl (nI_t (by omega)) (show n < 12 from h12) ?_
    refine ex_aload_n (pc := 39) (i := 0) d_In_put_39 rfl rfl ?_
    refine ex_getr (pc := 40) 6 3 d_In_put_40 FL_In_21 (Nat.le_of_ble_eq_true rfl) rfl rfl ?_
    refine ex_aload_n (pc := 43) (i := 0) d_In_put_43 rfl rfl ?_
    refine ex_getx (pc := 44) 6 4 (nI n) d_In_put_44 FL_In_24 (Nat.le_of_ble_eq_true rfl) rfl hn ?_
    refine ex_iload (pc := 47) d_In_put_47 rfl ?_
    refine ex_iast (pc := 49) n d_In_put_49 (Nat.le_of_ble_eq_true rfl) rfl rfl rfl (nI_t (by omega)) (show n < 12 from h12) ?_
    refine ex_aload_n (pc := 50) (i := 0) d_In_put_50 rfl rfl ?_
    refine ex_dup (pc := 51) d_In_put_51 rfl ?_
    refine ex_getx (pc := 52) 6 4 (nI n) d_In_put_52 FL_In_24 (Nat.le_of_ble_eq_true rfl) rfl hn ?_
    refine ex_iconst (pc := 55) (v := (nI 1)) d_In_put_55 (by decide) ?_
    refine ex_iadd (pc := 56) d_In_put_56 ?_
    refine ex_puti (pc := 57) 6 4 .int d_In_put_57 (PF_In_24 _) (Nat.le_of_ble_eq_true rfl) rfl rfl rfl ?_
    refine ex_heap (h' := HP (inPut iv n k1 k2 k3 k4) mp sp mo) ?_ ?_
    · rw [nI_s]
      rfl
    refine ex_iconst (pc := 60) (v := (nI 1)) d_In_put_60 (by decide) ?_
    refine ex_iret (ty := .boolean) d_In_put_61 rfl rfl rfl (Nat.le_refl _) ?_
    rw [if_neg h13, decide_eq_true h13]
    exact ⟨rfl, rfl⟩
  · refine ex_iconst (pc := 7) (v := (nI 0)) d_In_put_7 (by decide) ?_
    refine ex_iret (ty := .boolean) d_In_put_8 rfl rfl rfl (Nat.le_refl _) ?_
    have h13 := of_decide_eq_true (b2i_1 c4)
    rw [if_pos h13, decide_eq_false (fun q => q h13)]
    exact ⟨rfl, rfl⟩

set_option maxRecDepth 100000 in
set_option maxHeartbeats 4000000 in
theorem ct_TG_insert (l : Launch) (G : ex_G) (iv : Nat → Nat → Int32) (mp : Nat → Nat) (sp mo : Nat) (n : Nat) (k3 k4 : Int32) (hn : iv 84 4 = nI n) (hl : n ≤ 12) : CT l G 2 M_TG_insert [.ref 0, .int k3, .int k4] (HP iv mp sp mo) 0 0 (fun r h' => h' = (if n = 12 then HP iv mp sp mo else HP (inPut iv n (nI 4) (nI 0) k3 k4) mp sp mo) ∧ r = some (.int (b2i (decide (¬ n = 12))))) := by
  refine ex_enter (by decide) (Nat.le_of_ble_eq_true rfl) (fun v hv => by simp at hv; rcases hv with rfl | rfl | rfl <;> rfl) (fun p e s m args below meth c => ?_)
  refine ex_aload_n (pc := 0) (i := 0) d_TG_insert_0 rfl rfl ?_
  refine ex_getr (pc := 1) 0 7 d_TG_insert_1 FL_TG_67 (Nat.le_of_ble_eq_true rfl) rfl rfl ?_
  refine ex_iconst (pc := 4) (v := (nI 4)) d_TG_insert_4 (by decide) ?_
  refine ex_iconst (pc := 5) (v := (nI 0)) d_TG_insert_5 (by decide) ?_
  refine ex_iload_n (pc := 6) (i := 1) d_TG_insert_6 rfl rfl ?_
  refine ex_iload_n (pc := 7) (i := 2) d_TG_insert_7 rfl rfl ?_
  refine ex_callV (pc := 8) (M' := M_In_put) (as := [.int (nI 4), .int (nI 0), .int k3, .int k4]) (st := []) d_TG_insert_8 MW_In_put MI_In_put LK_TG_109 (Nat.le_of_ble_eq_true rfl) rfl rfl rfl (ct_In_put l G iv mp sp mo n (nI 4) (nI 0) k3 k4 hn hl) (ex_lt_rm (by decide)) ⟨Nat.le_refl _, Nat.le_refl _⟩ rfl rfl (Nat.le_of_ble_eq_true rfl) ?_
  rintro _ _ ⟨rfl, rfl⟩
  refine ex_iret (ty := .boolean) d_TG_insert_11 rfl (b2i_n _) rfl (Nat.le_refl _) ?_
  exact ⟨rfl, rfl⟩

set_option maxRecDepth 100000 in
set_option maxHeartbeats 4000000 in
theorem ct_TG_erase (l : Launch) (G : ex_G) (iv : Nat → Nat → Int32) (mp : Nat → Nat) (sp mo : Nat) (n : Nat) (k3 k4 : Int32) (hn : iv 84 4 = nI n) (hl : n ≤ 12) : CT l G 2 M_TG_erase [.ref 0, .int k3, .int k4] (HP iv mp sp mo) 0 0 (fun r h' => h' = (if n = 12 then HP iv mp sp mo else HP (inPut iv n (nI 5) (nI 0) k3 k4) mp sp mo) ∧ r = some (.int (b2i (decide (¬ n = 12))))) := by
  refine ex_enter (by decide) (Nat.le_of_ble_eq_true rfl) (fun v hv => by simp at hv; rcases hv with rfl | rfl | rfl <;> rfl) (fun p e s m args below meth c => ?_)
  refine ex_aload_n (pc := 0) (i := 0) d_TG_erase_0 rfl rfl ?_
  refine ex_getr (pc := 1) 0 7 d_TG_erase_1 FL_TG_67 (Nat.le_of_ble_eq_true rfl) rfl rfl ?_
  refine ex_iconst (pc := 4) (v := (nI 5)) d_TG_erase_4 (by decide) ?_
  refine ex_iconst (pc := 5) (v := (nI 0)) d_TG_erase_5 (by decide) ?_
  refine ex_iload_n (pc := 6) (i := 1) d_TG_erase_6 rfl rfl ?_
  refine ex_iload_n (pc := 7) (i := 2) d_TG_erase_7 rfl rfl ?_
  refine ex_callV (pc := 8) (M' := M_In_put) (as := [.int (nI 5), .int (nI 0), .int k3, .int k4]) (st := []) d_TG_erase_8 MW_In_put MI_In_put LK_TG_109 (Nat.le_of_ble_eq_true rfl) rfl rfl rfl (ct_In_put l G iv mp sp mo n (nI 5) (nI 0) k3 k4 hn hl) (ex_lt_rm (by decide)) ⟨Nat.le_refl _, Nat.le_refl _⟩ rfl rfl (Nat.le_of_ble_eq_true rfl) ?_
  rintro _ _ ⟨rfl, rfl⟩
  refine ex_iret (ty := .boolean) d_TG_erase_11 rfl (b2i_n _) rfl (Nat.le_refl _) ?_
  exact ⟨rfl, rfl⟩

set_option maxRecDepth 100000 in
set_option maxHeartbeats 4000000 in
theorem lp_In_find {p : Program} {e : Env} {s : State} {m : MethodId} {args : Array Value} {below : List Frame} {meth : Method} {c : Code} (l : Launch) (G : ex_G) (iv : Nat → Nat → Int32) (mp : Nat → Nat) (sp mo : Nat) (x : Int32) (n : Nat) (hn : iv 84 4 = nI n) (hl : n ≤ 12) (v : Int32) : ∀ (k i : Nat), i + k = n → fndI (fun j => decide (iv 86 j = x)) k i = v → EXM M_In_find l G 0 (fun r h' => h' = HP iv mp sp mo ∧ r = some (.int v)) p e s m args below meth c 9 [some (.ref 84), some (.int x), some (.int (nI i))] [] (HP iv mp sp mo) := by
  intro k
  induction k with
  | zero =>
    intro i hik hv
    subst hv
    refine ex_iload_n (pc := 9) (i := 2) d_In_find_9 rfl rfl ?_
    refine ex_aload_n (pc := 10) (i := 0) d_In_find_10 rfl rfl ?_
    refine ex_getx (pc := 11) 6 4 (nI n) d_In_find_11 FL_In_24 (Nat.le_of_ble_eq_true rfl) rfl hn ?_
    refine ex_icmp_ge (pc := 14) (tgt := 35) d_In_find_14 rfl (fun c14 => ?_) (fun c14 => ?_)
    · refine ex_iconst (pc := 35) (v := (-1)) d_In_find_35 (by decide) ?_
      refine ex_iret (ty := .int) d_In_find_36 rfl rfl rfl (Nat.le_refl _) ?_
      exact ⟨rfl, rfl⟩
    · exact absurd ((n_ge (by omega) (by omega)).mpr (by omega)) c14
  | succ k ih =>
    intro i hik hv
    refine ex_iload_n (pc := 9) (i := 2) d_In_find_9 rfl rfl ?_
    refine ex_aload_n (pc := 10) (i := 0) d_In_find_10 rfl rfl ?_
    refine ex_getx (pc := 11) 6 4 (nI n) d_In_find_11 FL_In_24 (Nat.le_of_ble_eq_true rfl) rfl hn ?_
    refine ex_icmp_ge (pc := 14) (tgt := 35) d_In_find_14 rfl (fun c14 => ?_) (fun c14 => ?_)
    · exact absurd ((n_ge (by omega) (by omega)).mp c14) (by omega)
    · refine ex_aload_n (pc := 17) (i := 0) d_In_find_17 rfl rfl ?_
      refine ex_getr (pc := 18) 6 1 d_In_find_18 FL_In_15 (Nat.le_of_ble_eq_true rfl) rfl rfl ?_
      refine ex_iload_n (pc := 21) (i := 2) d_In_find_21 rfl rfl ?_
      refine ex_ialdx (pc := 22) i (iv 86 i) d_In_find_22 (Nat.le_of_ble_eq_true rfl) rfl rfl rfl (nI_t (by omega)) (show i < 12 by omega) rfl ?_
      refine ex_iload_n (pc := 23) (i := 1) d_In_find_23 rfl rfl ?_
      refine ex_icmp_ne (pc := 24) (tgt := 29) d_In_find_24 rfl (fun c24 => ?_) (fun c24 => ?_)
      · refine ex_iinc (pc := 29) (v := (nI (i + 1))) d_In_find_29 rfl (nI_1 i) (by decide) ?_
        refine ex_goto (pc := 32) (tgt := 9) d_In_find_32 rfl ?_
        exact ih (i + 1) (by omega) (by rw [fndI, if_neg (by simp [c24])] at hv; exact hv)
      · refine ex_iload_n (pc := 27) (i := 2) d_In_find_27 rfl rfl ?_
        refine ex_iret (ty := .int) d_In_find_28 rfl rfl rfl (Nat.le_refl _) ?_
        refine ⟨rfl, ?_⟩
        rw [← hv, fndI, if_pos (by simp [c24])]

set_option maxRecDepth 100000 in
set_option maxHeartbeats 4000000 in
theorem ct_In_find (l : Launch) (G : ex_G) (iv : Nat → Nat → Int32) (mp : Nat → Nat) (sp mo : Nat) (x : Int32) (n : Nat) (hn : iv 84 4 = nI n) (hl : n ≤ 12) : CT l G 0 M_In_find [.ref 84, .int x] (HP iv mp sp mo) 0 0 (fun r h' => h' = HP iv mp sp mo ∧ r = some (.int (if x.toInt < 1 then -1 else fndI (fun j => decide (iv 86 j = x)) n 0))) := by
  refine ex_enter (by decide) (Nat.le_of_ble_eq_true rfl) (fun v hv => by simp at hv; rcases hv with rfl | rfl <;> rfl) (fun p e s m args below meth c => ?_)
  refine ex_iload_n (pc := 0) (i := 1) d_In_find_0 rfl rfl ?_
  refine ex_iconst (pc := 1) (v := (nI 1)) d_In_find_1 (by decide) ?_
  refine ex_icmp_ge (pc := 2) (tgt := 7) d_In_find_2 rfl (fun c2 => ?_) (fun c2 => ?_)
  · refine ex_iconst (pc := 7) (v := (nI 0)) d_In_find_7 (by decide) ?_
    refine ex_istore_n (pc := 8) (i := 2) d_In_find_8 rfl (by decide) ?_
    rw [if_neg (by have q1 := i_le.mp c2; rw [nI_t (by omega)] at q1; omega)]
    exact lp_In_find l G iv mp sp mo x n hn hl _ n 0 (by omega) rfl
  · refine ex_iconst (pc := 5) (v := (-1)) d_In_find_5 (by decide) ?_
    refine ex_iret (ty := .int) d_In_find_6 rfl rfl rfl (Nat.le_refl _) ?_
    rw [if_pos (by have q1 := i_nle c2; rw [nI_t (by omega)] at q1; omega)]
    exact ⟨rfl, rfl⟩

set_option maxRecDepth 100000 in
set_option maxHeartbeats 4000000 in
theorem lp_RF_waitsAt {p : Program} {e : Env} {s : State} {m : MethodId} {args : Array Value} {below : List Frame} {meth : Method} {c : Code} (l : Launch) (G : ex_G) (iv : Nat → Nat → Int32) (mp : Nat → Nat) (sp mo : Nat) (x : Int32) (n : Nat) (hn : iv 92 32 = nI n) (hl : n ≤ 12) (v : Int32) : ∀ (k i : Nat), i + k = n → fndI (fun j => decide (iv 121 j = nI 2) && decide (iv 124 j = x)) k i = v → EXM M_RF_waitsAt l G 0 (fun r h' => h' = HP iv mp sp mo ∧ r = some (.int v)) p e s m args below meth c 2 [some (.ref 92), some (.int x), some (.int (nI i))] [] (HP iv mp sp mo) := by
  intro k
  induction k with
  | zero =>
    intro i hik hv
    subst hv
    refine ex_iload_n (pc := 2) (i := 2) d_RF_waitsAt_2 rfl rfl ?_
    refine ex_aload_n (pc := 3) (i := 0) d_RF_waitsAt_3 rfl rfl ?_
    refine ex_getx (pc := 4) 12 32 (nI n) d_RF_waitsAt_4 FL_RF_261 (Nat.le_of_ble_eq_true rfl) rfl hn ?_
    refine ex_icmp_ge (pc := 7) (tgt := 38) d_RF_waitsAt_7 rfl (fun c7 => ?_) (fun c7 => ?_)
    · refine ex_iconst (pc := 38) (v := (-1)) d_RF_waitsAt_38 (by decide) ?_
      refine ex_iret (ty := .int) d_RF_waitsAt_39 rfl rfl rfl (Nat.le_refl _) ?_
      exact ⟨rfl, rfl⟩
    · exact absurd ((n_ge (by omega) (by omega)).mpr (by omega)) c7
  | succ k ih =>
    intro i hik hv
    refine ex_iload_n (pc := 2) (i := 2) d_RF_waitsAt_2 rfl rfl ?_
    refine ex_aload_n (pc := 3) (i := 0) d_RF_waitsAt_3 rfl rfl ?_
    refine ex_getx (pc := 4) 12 32 (nI n) d_RF_waitsAt_4 FL_RF_261 (Nat.le_of_ble_eq_true rfl) rfl hn ?_
    refine ex_icmp_ge (pc := 7) (tgt := 38) d_RF_waitsAt_7 rfl (fun c7 => ?_) (fun c7 => ?_)
    · exact absurd ((n_ge (by omega) (by omega)).mp c7) (by omega)
    · refine ex_aload_n (pc := 10) (i := 0) d_RF_waitsAt_10 rfl rfl ?_
      refine ex_getr (pc := 11) 12 33 d_RF_waitsAt_11 FL_RF_95 (Nat.le_of_ble_eq_true rfl) rfl rfl ?_
      refine ex_iload_n (pc := 14) (i := 2) d_RF_waitsAt_14 rfl rfl ?_
      refine ex_ialdx (pc := 15) i (iv 121 i) d_RF_waitsAt_15 (Nat.le_of_ble_eq_true rfl) rfl rfl rfl (nI_t (by omega)) (show i < 13 by omega) rfl ?_
      refine ex_iconst (pc := 16) (v := (nI 2)) d_RF_waitsAt_16 (by decide) ?_
      refine ex_icmp_ne (pc := 17) (tgt := 32) d_RF_waitsAt_17 rfl (fun c17 => ?_) (fun c17 => ?_)
      · refine ex_iinc (pc := 32) (v := (nI (i + 1))) d_RF_waitsAt_32 rfl (nI_1 i) (by decide) ?_
        refine ex_goto (pc := 35) (tgt := 2) d_RF_waitsAt_35 rfl ?_
        exact ih (i + 1) (by omega) (by rw [fndI, if_neg (by simp [*])] at hv; exact hv)
      · refine ex_aload_n (pc := 20) (i := 0) d_RF_waitsAt_20 rfl rfl ?_
        refine ex_getr (pc := 21) 12 36 d_RF_waitsAt_21 FL_RF_104 (Nat.le_of_ble_eq_true rfl) rfl rfl ?_
        refine ex_iload_n (pc := 24) (i := 2) d_RF_waitsAt_24 rfl rfl ?_
        refine ex_ialdx (pc := 25) i (iv 124 i) d_RF_waitsAt_25 (Nat.le_of_ble_eq_true rfl) rfl rfl rfl (nI_t (by omega)) (show i < 13 by omega) rfl ?_
        refine ex_iload_n (pc := 26) (i := 1) d_RF_waitsAt_26 rfl rfl ?_
        refine ex_icmp_ne (pc := 27) (tgt := 32) d_RF_waitsAt_27 rfl (fun c27 => ?_) (fun c27 => ?_)
        · refine ex_iinc (pc := 32) (v := (nI (i + 1))) d_RF_waitsAt_32 rfl (nI_1 i) (by decide) ?_
          refine ex_goto (pc := 35) (tgt := 2) d_RF_waitsAt_35 rfl ?_
          exact ih (i + 1) (by omega) (by rw [fndI, if_neg (by simp [*])] at hv; exact hv)
        · refine ex_iload_n (pc := 30) (i := 2) d_RF_waitsAt_30 rfl rfl ?_
          refine ex_iret (ty := .int) d_RF_waitsAt_31 rfl rfl rfl (Nat.le_refl _) ?_
          refine ⟨rfl, ?_⟩
          rw [← hv, fndI, if_pos (by simp [c17, c27])]

set_option maxRecDepth 100000 in
set_option maxHeartbeats 4000000 in
theorem ct_RF_waitsAt (l : Launch) (G : ex_G) (iv : Nat → Nat → Int32) (mp : Nat → Nat) (sp mo : Nat) (x : Int32) (n : Nat) (hn : iv 92 32 = nI n) (hl : n ≤ 12) : CT l G 0 M_RF_waitsAt [.ref 92, .int x] (HP iv mp sp mo) 0 0 (fun r h' => h' = HP iv mp sp mo ∧ r = some (.int (fndI (fun j => decide (iv 121 j = nI 2) && decide (iv 124 j = x)) n 0))) := by
  refine ex_enter (by decide) (Nat.le_of_ble_eq_true rfl) (fun v hv => by simp at hv; rcases hv with rfl | rfl <;> rfl) (fun p e s m args below meth c => ?_)
  refine ex_iconst (pc := 0) (v := (nI 0)) d_RF_waitsAt_0 (by decide) ?_
  refine ex_istore_n (pc := 1) (i := 2) d_RF_waitsAt_1 rfl (by decide) ?_
  exact lp_RF_waitsAt l G iv mp sp mo x n hn hl _ n 0 (by omega) rfl

def rfPost (iv : Nat → Nat → Int32) (n : Nat) (k1 k2 k3 k4 k5 : Int32) : Nat → Nat → Int32 := ex_u2 (ex_u2 (ex_u2 (ex_u2 (ex_u2 (ex_u2 iv 121 n k1) 122 n k2) 123 n k3) 124 n k4) 125 n k5) 92 32 (nI (n + 1))
set_option maxRecDepth 100000 in
set_option maxHeartbeats 4000000 in
theorem ct_RF_post (l : Launch) (G : ex_G) (iv : Nat → Nat → Int32) (mp : Nat → Nat) (sp mo : Nat) (n : Nat) (k1 k2 k3 k4 k5 : Int32) (hn : iv 92 32 = nI n) (hl : n < 12) : CT l G 0 M_RF_post [.ref 92, .int k1, .int k2, .int k3, .int k4, .int k5] (HP iv mp sp mo) 0 0 (fun r h' => h' = HP (rfPost iv n k1 k2 k3 k4 k5) mp sp mo ∧ r = none) := by
  refine ex_enter (by decide) (Nat.le_of_ble_eq_true rfl) (fun v hv => by simp at hv; rcases hv with rfl | rfl | rfl | rfl | rfl | rfl <;> rfl) (fun p e s m args below meth c => ?_)
  refine ex_aload_n (pc := 0) (i := 0) d_RF_post_0 rfl rfl ?_
  refine ex_getr (pc := 1) 12 33 d_RF_post_1 FL_RF_95 (Nat.le_of_ble_eq_true rfl) rfl rfl ?_
  refine ex_aload_n (pc := 4) (i := 0) d_RF_post_4 rfl rfl ?_
  refine ex_getx (pc := 5) 12 32 (nI n) d_RF_post_5 FL_RF_261 (Nat.le_of_ble_eq_true rfl) rfl hn ?_
  refine ex_iload_n (pc := 8) (i := 1) d_RF_post_8 rfl rfl ?_
  refine ex_iast (pc := 9) n d_RF_post_9 (Nat.le_of_ble_eq_true rfl) rfl rfl rfl (nI_t (by omega)) (show n < 13 by omega) ?_
  refine ex_aload_n (pc := 10) (i := 0) d_RF_post_10 rfl rfl ?_
  refine ex_getr (pc := 11) 12 34 d_RF_post_11 FL_RF_98 (Nat.le_of_ble_eq_true rfl) rfl rfl ?_
  refine ex_aload_n (pc := 14) (i := 0) d_RF_post_14 rfl rfl ?_
  refine ex_getx (pc := 15) 12 32 (nI n) d_RF_post_15 FL_RF_261 (Nat.le_of_ble_eq_true rfl) rfl hn ?_
  refine ex_iload_n (pc := 18) (i := 2) d_RF_post_18 rfl rfl ?_
  refine ex_iast (pc := 19) n d_RF_post_19 (Nat.le_of_ble_eq_true rfl) rfl rfl rfl (nI_t (by omega)) (show n < 13 by omega) ?_
  refine ex_aload_n (pc := 20) (i := 0) d_RF_post_20 rfl rfl ?_
  refine ex_getr (pc := 21) 12 35 d_RF_post_21 FL_RF_101 (Nat.le_of_ble_eq_true rfl) rfl rfl ?_
  refine ex_aload_n (pc := 24) (i := 0) d_RF_post_24 rfl rfl ?_
  refine ex_getx (pc := 25) 12 32 (nI n) d_RF_post_25 FL_RF_261 (Nat.le_of_ble_eq_true rfl) rfl hn ?_
  refine ex_iload_n (pc := 28) (i := 3) d_RF_post_28 rfl rfl ?_
  refine ex_iast (pc := 29) n d_RF_post_29 (Nat.le_of_ble_eq_true rfl) rfl rfl rfl (nI_t (by omega)) (show n < 13 by omega) ?_
  refine ex_aload_n (pc := 30) (i := 0) d_RF_post_30 rfl rfl ?_
  refine ex_getr (pc := 31) 12 36 d_RF_post_31 FL_RF_104 (Nat.le_of_ble_eq_true rfl) rfl rfl ?_
  refine ex_aload_n (pc := 34) (i := 0) d_RF_post_34 rfl rfl ?_
  refine ex_getx (pc := 35) 12 32 (nI n) d_RF_post_35 FL_RF_261 (Nat.le_of_ble_eq_true rfl) rfl hn ?_
  refine ex_iload (pc := 38) d_RF_post_38 rfl ?_
  refine ex_iast (pc := 40) n d_RF_post_40 (Nat.le_of_ble_eq_true rfl) rfl rfl rfl (nI_t (by omega)) (show n < 13 by omega) ?_
  refine ex_aload_n (pc := 41) (i := 0) d_RF_post_41 rfl rfl ?_
  refine ex_getr (pc := 42) 12 37 d_RF_post_42 FL_RF_107 (Nat.le_of_ble_eq_true rfl) rfl rfl ?_
  refine ex_aload_n (pc := 45) (i := 0) d_RF_post_45 rfl rfl ?_
  refine ex_getx (pc := 46) 12 32 (nI n) d_RF_post_46 FL_RF_261 (Nat.le_of_ble_eq_true rfl) rfl hn ?_
  refine ex_iload (pc := 49) d_RF_post_49 rfl ?_
  refine ex_iast (pc := 51) n d_RF_post_51 (Nat.le_of_ble_eq_true rfl) rfl rfl rfl (nI_t (by omega)) (show n < 13 by omega) ?_
  refine ex_aload_n (pc := 52) (i := 0) d_RF_post_52 rfl rfl ?_
  refine ex_dup (pc := 53) d_RF_post_53 rfl ?_
  refine ex_getx (pc := 54) 12 32 (nI n) d_RF_post_54 FL_RF_261 (Nat.le_of_ble_eq_true rfl) rfl hn ?_
  refine ex_iconst (pc := 57) (v := (nI 1)) d_RF_post_57 (by decide) ?_
  refine ex_iadd (pc := 58) d_RF_post_58 ?_
  refine ex_puti (pc := 59) 12 32 .int d_RF_post_59 (PF_RF_261 _) (Nat.le_of_ble_eq_true rfl) rfl rfl rfl ?_
  refine ex_heap (h' := HP (rfPost iv n k1 k2 k3 k4 k5) mp sp mo) ?_ ?_
  · rw [nI_s]
    rfl
  refine ex_vret d_RF_post_62 rfl rfl (Nat.le_refl _) ?_
  exact ⟨rfl, rfl⟩

set_option maxRecDepth 100000 in
set_option maxHeartbeats 4000000 in
theorem ct_RF_insert (l : Launch) (G : ex_G) (iv : Nat → Nat → Int32) (mp : Nat → Nat) (sp mo : Nat) (n : Nat) (k3 k4 : Int32) (hn : iv 92 32 = nI n) (hl : n ≤ 12) : CT l G 1 M_RF_insert [.ref 92, .int k3, .int k4] (HP iv mp sp mo) 0 0 (fun r h' => h' = (if n = 12 then HP iv mp sp mo else HP (rfPost iv n (nI 0) k3 k4 (nI 0) (nI 0)) mp sp mo) ∧ r = some (.int (b2i (decide (¬ n = 12))))) := by
  refine ex_enter (by decide) (Nat.le_of_ble_eq_true rfl) (fun v hv => by simp at hv; rcases hv with rfl | rfl | rfl <;> rfl) (fun p e s m args below meth c => ?_)
  refine ex_aload_n (pc := 0) (i := 0) d_RF_insert_0 rfl rfl ?_
  refine ex_getx (pc := 1) 12 32 (nI n) d_RF_insert_1 FL_RF_261 (Nat.le_of_ble_eq_true rfl) rfl hn ?_
  refine ex_bipush (pc := 4) (v := (nI 12)) d_RF_insert_4 (by decide) ?_
  refine ex_icmp_ne (pc := 6) (tgt := 11) d_RF_insert_6 rfl (fun c6 => ?_) (fun c6 => ?_)
  · have h12 : ¬ n = 12 := fun q => c6 (by rw [q])
    refine ex_aload_n (pc := 11) (i := 0) d_RF_insert_11 rfl rfl ?_
    refine ex_iconst (pc := 12) (v := (nI 0)) d_RF_insert_12 (by decide) ?_
    refine ex_iload_n (pc := 13) (i := 1) d_RF_insert_13 rfl rfl ?_
    refine ex_iload_n (pc := 14) (i := 2) d_RF_insert_14 rfl rfl ?_
    refine ex_iconst (pc := 15) (v := (nI 0)) d_RF_insert_15 (by decide) ?_
    refine ex_iconst (pc := 16) (v := (nI 0)) d_RF_insert_16 (by decide) ?_
    refine ex_callV (pc := 17) (M' := M_RF_post) (as := [.int (nI 0), .int k3, .int k4, .int (nI 0), .int (nI 0)]) (st := []) d_RF_insert_17 MW_RF_post MI_RF_post LK_RF_264 (Nat.le_of_ble_eq_true rfl) rfl rfl rfl (ct_RF_post l G iv mp sp mo n (nI 0) k3 k4 (nI 0) (nI 0) hn (by omega)) (ex_lt_rm (by decide)) ⟨Nat.le_refl _, Nat.le_refl _⟩ rfl rfl (Nat.le_of_ble_eq_true rfl) ?_
    rintro _ _ ⟨rfl, rfl⟩
    refine ex_iconst (pc := 20) (v := (nI 1)) d_RF_insert_20 (by decide) ?_
    refine ex_iret (ty := .boolean) d_RF_insert_21 rfl rfl rfl (Nat.le_refl _) ?_
    rw [if_neg h12, decide_eq_true h12]
    exact ⟨rfl, rfl⟩
  · refine ex_iconst (pc := 9) (v := (nI 0)) d_RF_insert_9 (by decide) ?_
    refine ex_iret (ty := .boolean) d_RF_insert_10 rfl rfl rfl (Nat.le_refl _) ?_
    have h12 := (n_eq (by omega) (by omega)).mp c6
    rw [if_pos h12, decide_eq_false (fun q => q h12)]
    exact ⟨rfl, rfl⟩

set_option maxRecDepth 100000 in
set_option maxHeartbeats 4000000 in
theorem ct_RF_erase (l : Launch) (G : ex_G) (iv : Nat → Nat → Int32) (mp : Nat → Nat) (sp mo : Nat) (n : Nat) (k3 k4 : Int32) (hn : iv 92 32 = nI n) (hl : n ≤ 12) : CT l G 1 M_RF_erase [.ref 92, .int k3, .int k4] (HP iv mp sp mo) 0 0 (fun r h' => h' = (if n = 12 then HP iv mp sp mo else HP (rfPost iv n (nI 1) k3 k4 (nI 0) (nI 0)) mp sp mo) ∧ r = some (.int (b2i (decide (¬ n = 12))))) := by
  refine ex_enter (by decide) (Nat.le_of_ble_eq_true rfl) (fun v hv => by simp at hv; rcases hv with rfl | rfl | rfl <;> rfl) (fun p e s m args below meth c => ?_)
  refine ex_aload_n (pc := 0) (i := 0) d_RF_erase_0 rfl rfl ?_
  refine ex_getx (pc := 1) 12 32 (nI n) d_RF_erase_1 FL_RF_261 (Nat.le_of_ble_eq_true rfl) rfl hn ?_
  refine ex_bipush (pc := 4) (v := (nI 12)) d_RF_erase_4 (by decide) ?_
  refine ex_icmp_ne (pc := 6) (tgt := 11) d_RF_erase_6 rfl (fun c6 => ?_) (fun c6 => ?_)
  · have h12 : ¬ n = 12 := fun q => c6 (by rw [q])
    refine ex_aload_n (pc := 11) (i := 0) d_RF_erase_11 rfl rfl ?_
    refine ex_iconst (pc := 12) (v := (nI 1)) d_RF_erase_12 (by decide) ?_
    refine ex_iload_n (pc := 13) (i := 1) d_RF_erase_13 rfl rfl ?_
    refine ex_iload_n (pc := 14) (i := 2) d_RF_erase_14 rfl rfl ?_
    refine ex_iconst (pc := 15) (v := (nI 0)) d_RF_erase_15 (by decide) ?_
    refine ex_iconst (pc := 16) (v := (nI 0)) d_RF_erase_16 (by decide) ?_
    refine ex_callV (pc := 17) (M' := M_RF_post) (as := [.int (nI 1), .int k3, .int k4, .int (nI 0), .int (nI 0)]) (st := []) d_RF_erase_17 MW_RF_post MI_RF_post LK_RF_264 (Nat.le_of_ble_eq_true rfl) rfl rfl rfl (ct_RF_post l G iv mp sp mo n (nI 1) k3 k4 (nI 0) (nI 0) hn (by omega)) (ex_lt_rm (by decide)) ⟨Nat.le_refl _, Nat.le_refl _⟩ rfl rfl (Nat.le_of_ble_eq_true rfl) ?_
    rintro _ _ ⟨rfl, rfl⟩
    refine ex_iconst (pc := 20) (v := (nI 1)) d_RF_erase_20 (by decide) ?_
    refine ex_iret (ty := .boolean) d_RF_erase_21 rfl rfl rfl (Nat.le_refl _) ?_
    rw [if_neg h12, decide_eq_true h12]
    exact ⟨rfl, rfl⟩
  · refine ex_iconst (pc := 9) (v := (nI 0)) d_RF_erase_9 (by decide) ?_
    refine ex_iret (ty := .boolean) d_RF_erase_10 rfl rfl rfl (Nat.le_refl _) ?_
    have h12 := (n_eq (by omega) (by omega)).mp c6
    rw [if_pos h12, decide_eq_false (fun q => q h12)]
    exact ⟨rfl, rfl⟩

