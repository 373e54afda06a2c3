/-! the tree's reads -/
def anyF (P : Nat → Bool) : Nat → Nat → Bool
  | 0, _ => false
  | k + 1, i => if P i = true then true else anyF P k (i + 1)
def insD (P : Nat → Bool) : Nat → Nat
  | 0 => 0
  | k + 1 => if P (k + 1) = true then k + 1 else insD P k
def stcF (iv : Nat → Nat → Int32) (j nu : Nat) (fr to : Int32) : Nat → Nat → Int32 → Int32
  | 0, _, acc => acc
  | k + 1, i, acc => stcF iv j nu fr to k (i + 1) (if iv (46 + i) 1 = nI nu ∧ ¬ iv (46 + i) 3 < fr ∧ ¬ to ≤ iv (46 + i) 3 then stpF iv j acc (iv (46 + i) 0) else acc)
def lowF (iv : Nat → Nat → Int32) (pr : Nat → Nat) (nm : Int32) : Nat → Nat → Nat
  | 0, _ => 0
  | k + 1, q => if q = 0 then 0 else if iv (46 + q) 0 = nm then q else lowF iv pr nm k (pr q)
def trTag (iv : Nat → Nat → Int32) (n : Nat) (k1 k2 k3 : Int32) : Nat → Nat → Int32 := ex_u2 (ex_u2 (ex_u2 (ex_u2 iv 43 n k1) 44 n k2) 45 n k3) 41 7 (nI (n + 1))
def witP (iv : Nat → Nat → Int32) (x : Int32) (i : Nat) : Bool := decide (¬ x ≤ iv 43 i) && decide (¬ iv 44 i ≤ x)
def ownP (iv : Nat → Nat → Int32) (x : Int32) (i : Nat) : Bool := decide (¬ x < iv 43 i) && decide (¬ iv 44 i ≤ x)
set_option maxRecDepth 100000 in
set_option maxHeartbeats 4000000 in
theorem ct_Tr_addTag (l : Launch) (G : ex_G) (iv : Nat → Nat → Int32) (mp : Nat → Nat) (sp mo : Nat) (n : Nat) (hn : iv 41 7 = nI n) (hl : n < 33) (k1 k2 k3 : Int32) : CT l G 0 M_Tr_addTag [.ref 41, .int k1, .int k2, .int k3] (HP iv mp sp mo) 0 0 (fun r h' => h' = HP (trTag iv n k1 k2 k3) mp sp mo ∧ r = none) := by
  refine ex_enter (by decide) (Nat.le_of_ble_eq_true rfl) (fun v hv => by simp at hv; rcases hv with rfl | rfl | rfl | rfl <;> rfl) (fun p e s m args below meth c => ?_)
  refine ex_aload_n (pc := 0) (i := 0) d_Tr_addTag_0 rfl rfl ?_
  refine ex_getx (pc := 1) 11 7 (nI n) d_Tr_addTag_1 FL_Tr_36 (Nat.le_of_ble_eq_true rfl) rfl hn ?_
  refine ex_bipush (pc := 4) (v := (nI 33)) d_Tr_addTag_4 (by decide) ?_
  refine ex_icmp_ge (pc := 6) (tgt := 49) d_Tr_addTag_6 rfl (fun c6 => ?_) (fun c6 => ?_)
  · exact absurd ((n_ge (by omega) (by omega)).mp c6) (by omega)
  · refine ex_aload_n (pc := 9) (i := 0) d_Tr_addTag_9 rfl rfl ?_
    refine ex_getr (pc := 10) 11 4 d_Tr_addTag_10 FL_Tr_17 (Nat.le_of_ble_eq_true rfl) rfl rfl ?_
    refine ex_aload_n (pc := 13) (i := 0) d_Tr_addTag_13 rfl rfl ?_
    refine ex_getx (pc := 14) 11 7 (nI n) d_Tr_addTag_14 FL_Tr_36 (Nat.le_of_ble_eq_true rfl) rfl hn ?_
    refine ex_iload_n (pc := 17) (i := 1) d_Tr_addTag_17 rfl rfl ?_
    refine ex_iast (pc := 18) n d_Tr_addTag_18 (Nat.le_of_ble_eq_true rfl) rfl rfl rfl (nI_t (by omega)) (show n < 33 by omega) ?_
    refine ex_aload_n (pc := 19) (i := 0) d_Tr_addTag_19 rfl rfl ?_
    refine ex_getr (pc := 20) 11 5 d_Tr_addTag_20 FL_Tr_21 (Nat.le_of_ble_eq_true rfl) rfl rfl ?_
    refine ex_aload_n (pc := 23) (i := 0) d_Tr_addTag_23 rfl rfl ?_
    refine ex_getx (pc := 24) 11 7 (nI n) d_Tr_addTag_24 FL_Tr_36 (Nat.le_of_ble_eq_true rfl) rfl hn ?_
    refine ex_iload_n (pc := 27) (i := 2) d_Tr_addTag_27 rfl rfl ?_
    refine ex_iast (pc := 28) n d_Tr_addTag_28 (Nat.le_of_ble_eq_true rfl) rfl rfl rfl (nI_t (by omega)) (show n < 33 by omega) ?_
    refine ex_aload_n (pc := 29) (i := 0) d_Tr_addTag_29 rfl rfl ?_
    refine ex_getr (pc := 30) 11 6 d_Tr_addTag_30 FL_Tr_24 (Nat.le_of_ble_eq_true rfl) rfl rfl ?_
    refine ex_aload_n (pc := 33) (i := 0) d_Tr_addTag_33 rfl rfl ?_
    refine ex_getx (pc := 34) 11 7 (nI n) d_Tr_addTag_34 FL_Tr_36 (Nat.le_of_ble_eq_true rfl) rfl hn ?_
    refine ex_iload_n (pc := 37) (i := 3) d_Tr_addTag_37 rfl rfl ?_
    refine ex_iast (pc := 38) n d_Tr_addTag_38 (Nat.le_of_ble_eq_true rfl) rfl rfl rfl (nI_t (by omega)) (show n < 33 by omega) ?_
    refine ex_aload_n (pc := 39) (i := 0) d_Tr_addTag_39 rfl rfl ?_
    refine ex_dup (pc := 40) d_Tr_addTag_40 rfl ?_
    refine ex_getx (pc := 41) 11 7 (nI n) d_Tr_addTag_41 FL_Tr_36 (Nat.le_of_ble_eq_true rfl) rfl hn ?_
    refine ex_iconst (pc := 44) (v := (nI 1)) d_Tr_addTag_44 (by decide) ?_
    refine ex_iadd (pc := 45) d_Tr_addTag_45 ?_
    refine ex_puti (pc := 46) 11 7 .int d_Tr_addTag_46 (PF_Tr_36 _) (Nat.le_of_ble_eq_true rfl) rfl rfl rfl ?_
    refine ex_heap (h' := HP (trTag iv n k1 k2 k3) mp sp mo) ?_ ?_
    · rw [nI_s]
      rfl
    refine ex_vret d_Tr_addTag_49 rfl rfl (Nat.le_refl _) ?_
    exact ⟨rfl, rfl⟩

set_option maxRecDepth 100000 in
set_option maxHeartbeats 4000000 in
theorem lp_Tr_isWithinTag {p : Program} {e : Env} {s : State} {m : MethodId} {args : Array Value} {below : List Frame} {meth : Method} {c : Code} (l : Launch) (G : ex_G) (iv : Nat → Nat → Int32) (mp : Nat → Nat) (sp mo : Nat) (n : Nat) (hn : iv 41 7 = nI n) (hl : n ≤ 33) (x : Int32) (v : Bool) : ∀ (k i : Nat), i + k = n → anyF (witP iv x) k i = v → EXM M_Tr_isWithinTag l G 0 (fun r h' => h' = HP iv mp sp mo ∧ r = some (.int (b2i v))) p e s m args below meth c 2 [some (.ref 41), some (.int x), some (.int (nI i))] [] (HP iv mp sp mo) := by
  intro k
  induction k with
  | zero =>
    intro i hik hv
    subst hv
    refine ex_iload_n (pc := 2) (i := 2) d_Tr_isWithinTag_2 rfl rfl ?_
    refine ex_aload_n (pc := 3) (i := 0) d_Tr_isWithinTag_3 rfl rfl ?_
    refine ex_getx (pc := 4) 11 7 (nI n) d_Tr_isWithinTag_4 FL_Tr_36 (Nat.le_of_ble_eq_true rfl) rfl hn ?_
    refine ex_icmp_ge (pc := 7) (tgt := 38) d_Tr_isWithinTag_7 rfl (fun c7 => ?_) (fun c7 => ?_)
    · refine ex_iconst (pc := 38) (v := (nI 0)) d_Tr_isWithinTag_38 (by decide) ?_
      refine ex_iret (ty := .boolean) d_Tr_isWithinTag_39 rfl rfl rfl (Nat.le_refl _) ?_
      exact ⟨rfl, rfl⟩
    · exact absurd ((n_ge (by omega) (by omega)).mpr (by omega)) c7
  | succ k ih =>
    intro i hik hv
    rw [anyF] at hv
    refine ex_iload_n (pc := 2) (i := 2) d_Tr_isWithinTag_2 rfl rfl ?_
    refine ex_aload_n (pc := 3) (i := 0) d_Tr_isWithinTag_3 rfl rfl ?_
    refine ex_getx (pc := 4) 11 7 (nI n) d_Tr_isWithinTag_4 FL_Tr_36 (Nat.le_of_ble_eq_true rfl) rfl hn ?_
    refine ex_icmp_ge (pc := 7) (tgt := 38) d_Tr_isWithinTag_7 rfl (fun c7 => ?_) (fun c7 => ?_)
    · exact absurd ((n_ge (by omega) (by omega)).mp c7) (by omega)
    · refine ex_aload_n (pc := 10) (i := 0) d_Tr_isWithinTag_10 rfl rfl ?_
      refine ex_getr (pc := 11) 11 4 d_Tr_isWithinTag_11 FL_Tr_17 (Nat.le_of_ble_eq_true rfl) rfl rfl ?_
      refine ex_iload_n (pc := 14) (i := 2) d_Tr_isWithinTag_14 rfl rfl ?_
      refine ex_ialdx (pc := 15) i (iv 43 i) d_Tr_isWithinTag_15 (Nat.le_of_ble_eq_true rfl) rfl rfl rfl (nI_t (by omega)) (show i < 33 by omega) rfl ?_
      refine ex_iload_n (pc := 16) (i := 1) d_Tr_isWithinTag_16 rfl rfl ?_
      refine ex_icmp_ge (pc := 17) (tgt := 32) d_Tr_isWithinTag_17 rfl (fun c17 => ?_) (fun c17 => ?_)
      · refine ex_iinc (pc := 32) (v := (nI (i + 1))) d_Tr_isWithinTag_32 rfl (nI_1 i) (by decide) ?_
        refine ex_goto (pc := 35) (tgt := 2) d_Tr_isWithinTag_35 rfl ?_
        exact ih (i + 1) (by omega) (by rw [if_neg (by simp [witP, *])] at hv; exact hv)
      · refine ex_iload_n (pc := 20) (i := 1) d_Tr_isWithinTag_20 rfl rfl ?_
        refine ex_aload_n (pc := 21) (i := 0) d_Tr_isWithinTag_21 rfl rfl ?_
        refine ex_getr (pc := 22) 11 5 d_Tr_isWithinTag_22 FL_Tr_21 (Nat.le_of_ble_eq_true rfl) rfl rfl ?_
        refine ex_iload_n (pc := 25) (i := 2) d_Tr_isWithinTag_25 rfl rfl ?_
        refine ex_ialdx (pc := 26) i (iv 44 i) d_Tr_isWithinTag_26 (Nat.le_of_ble_eq_true rfl) rfl rfl rfl (nI_t (by omega)) (show i < 33 by omega) rfl ?_
        refine ex_icmp_ge (pc := 27) (tgt := 32) d_Tr_isWithinTag_27 rfl (fun c27 => ?_) (fun c27 => ?_)
        · refine ex_iinc (pc := 32) (v := (nI (i + 1))) d_Tr_isWithinTag_32 rfl (nI_1 i) (by decide) ?_
          refine ex_goto (pc := 35) (tgt := 2) d_Tr_isWithinTag_35 rfl ?_
          exact ih (i + 1) (by omega) (by rw [if_neg (by simp [witP, *])] at hv; exact hv)
        · refine ex_iconst (pc := 30) (v := (nI 1)) d_Tr_isWithinTag_30 (by decide) ?_
          refine ex_iret (ty := .boolean) d_Tr_isWithinTag_31 rfl rfl rfl (Nat.le_refl _) ?_
          exact ⟨rfl, by rw [← hv, if_pos (by simp [witP, *])]; rfl⟩

set_option maxRecDepth 100000 in
set_option maxHeartbeats 4000000 in
theorem ct_Tr_isWithinTag (l : Launch) (G : ex_G) (iv : Nat → Nat → Int32) (mp : Nat → Nat) (sp mo : Nat) (n : Nat) (hn : iv 41 7 = nI n) (hl : n ≤ 33) (x : Int32) : CT l G 0 M_Tr_isWithinTag [.ref 41, .int x] (HP iv mp sp mo) 0 0 (fun r h' => h' = HP iv mp sp mo ∧ r = some (.int (b2i (anyF (witP iv x) n 0)))) := by
  refine ex_enter (by decide) (Nat.le_of_ble_eq_true rfl) (fun v hv => by simp at hv; rcases hv with rfl | rfl <;> rfl) (fun p e s m args below meth c => ?_)
  refine ex_iconst (pc := 0) (v := (nI 0)) d_Tr_isWithinTag_0 (by decide) ?_
  refine ex_istore_n (pc := 1) (i := 2) d_Tr_isWithinTag_1 rfl (by decide) ?_
  exact lp_Tr_isWithinTag l G iv mp sp mo n hn hl x _ n 0 (by omega) rfl

set_option maxRecDepth 100000 in
set_option maxHeartbeats 4000000 in
theorem lp_Tr_ownerOfTagAt {p : Program} {e : Env} {s : State} {m : MethodId} {args : Array Value} {below : List Frame} {meth : Method} {c : Code} (l : Launch) (G : ex_G) (iv : Nat → Nat → Int32) (mp : Nat → Nat) (sp mo : Nat) (n : Nat) (hn : iv 41 7 = nI n) (hl : n ≤ 33) (x v : Int32) : ∀ (k i : Nat), i + k = n → fndV (ownP iv x) (iv 45) k i = v → EXM M_Tr_ownerOfTagAt l G 0 (fun r h' => h' = HP iv mp sp mo ∧ r = some (.int v)) p e s m args below meth c 2 [some (.ref 41), some (.int x), some (.int (nI i))] [] (HP iv mp sp mo) := by
  intro k
  induction k with
  | zero =>
    intro i hik hv
    subst hv
    refine ex_iload_n (pc := 2) (i := 2) d_Tr_ownerOfTagAt_2 rfl rfl ?_
    refine ex_aload_n (pc := 3) (i := 0) d_Tr_ownerOfTagAt_3 rfl rfl ?_
    refine ex_getx (pc := 4) 11 7 (nI n) d_Tr_ownerOfTagAt_4 FL_Tr_36 (Nat.le_of_ble_eq_true rfl) rfl hn ?_
    refine ex_icmp_ge (pc := 7) (tgt := 43) d_Tr_ownerOfTagAt_7 rfl (fun c7 => ?_) (fun c7 => ?_)
    · refine ex_iconst (pc := 43) (v := (-1)) d_Tr_ownerOfTagAt_43 (by decide) ?_
      refine ex_iret (ty := .int) d_Tr_ownerOfTagAt_44 rfl rfl rfl (Nat.le_refl _) ?_
      exact ⟨rfl, rfl⟩
    · exact absurd ((n_ge (by omega) (by omega)).mpr (by omega)) c7
  | succ k ih =>
    intro i hik hv
    rw [fndV] at hv
    refine ex_iload_n (pc := 2) (i := 2) d_Tr_ownerOfTagAt_2 rfl rfl ?_
    refine ex_aload_n (pc := 3) (i := 0) d_Tr_ownerOfTagAt_3 rfl rfl ?_
    refine ex_getx (pc := 4) 11 7 (nI n) d_Tr_ownerOfTagAt_4 FL_Tr_36 (Nat.le_of_ble_eq_true rfl) rfl hn ?_
    refine ex_icmp_ge (pc := 7) (tgt := 43) d_Tr_ownerOfTagAt_7 rfl (fun c7 => ?_) (fun c7 => ?_)
    · exact absurd ((n_ge (by omega) (by omega)).mp c7) (by omega)
    · refine ex_aload_n (pc := 10) (i := 0) d_Tr_ownerOfTagAt_10 rfl rfl ?_
      refine ex_getr (pc := 11) 11 4 d_Tr_ownerOfTagAt_11 FL_Tr_17 (Nat.le_of_ble_eq_true rfl) rfl rfl ?_
      refine ex_iload_n (pc := 14) (i := 2) d_Tr_ownerOfTagAt_14 rfl rfl ?_
      refine ex_ialdx (pc := 15) i (iv 43 i) d_Tr_ownerOfTagAt_15 (Nat.le_of_ble_eq_true rfl) rfl rfl rfl (nI_t (by omega)) (show i < 33 by omega) rfl ?_
      refine ex_iload_n (pc := 16) (i := 1) d_Tr_ownerOfTagAt_16 rfl rfl ?_
      refine ex_icmp_gt (pc := 17) (tgt := 37) d_Tr_ownerOfTagAt_17 rfl (fun c17 => ?_) (fun c17 => ?_)
      · refine ex_iinc (pc := 37) (v := (nI (i + 1))) d_Tr_ownerOfTagAt_37 rfl (nI_1 i) (by decide) ?_
        refine ex_goto (pc := 40) (tgt := 2) d_Tr_ownerOfTagAt_40 rfl ?_
        exact ih (i + 1) (by omega) (by rw [if_neg (by simp [ownP, *])] at hv; exact hv)
      · refine ex_iload_n (pc := 20) (i := 1) d_Tr_ownerOfTagAt_20 rfl rfl ?_
        refine ex_aload_n (pc := 21) (i := 0) d_Tr_ownerOfTagAt_21 rfl rfl ?_
        refine ex_getr (pc := 22) 11 5 d_Tr_ownerOfTagAt_22 FL_Tr_21 (Nat.le_of_ble_eq_true rfl) rfl rfl ?_
        refine ex_iload_n (pc := 25) (i := 2) d_Tr_ownerOfTagAt_25 rfl rfl ?_
        refine ex_ialdx (pc := 26) i (iv 44 i) d_Tr_ownerOfTagAt_26 (Nat.le_of_ble_eq_true rfl) rfl rfl rfl (nI_t (by omega)) (show i < 33 by omega) rfl ?_
        refine ex_icmp_ge (pc := 27) (tgt := 37) d_Tr_ownerOfTagAt_27 rfl (fun c27 => ?_) (fun c27 => ?_)
        · refine ex_iinc (pc := 37) (v := (nI (i + 1))) d_Tr_ownerOfTagAt_37 rfl (nI_1 i) (by decide) ?_
          refine ex_goto (pc := 40) (tgt := 2) d_Tr_ownerOfTagAt_40 rfl ?_
          exact ih (i + 1) (by omega) (by rw [if_neg (by simp [ownP, *])] at hv; exact hv)
        · refine ex_aload_n (pc := 30) (i := 0) d_Tr_ownerOfTagAt_30 rfl rfl ?_
          refine ex_getr (pc := 31) 11 6 d_Tr_ownerOfTagAt_31 FL_Tr_24 (Nat.le_of_ble_eq_true rfl) rfl rfl ?_
          refine ex_iload_n (pc := 34) (i := 2) d_Tr_ownerOfTagAt_34 rfl rfl ?_
          refine ex_ialdx (pc := 35) i (iv 45 i) d_Tr_ownerOfTagAt_35 (Nat.le_of_ble_eq_true rfl) rfl rfl rfl (nI_t (by omega)) (show i < 33 by omega) rfl ?_
          refine ex_iret (ty := .int) d_Tr_ownerOfTagAt_36 rfl rfl rfl (Nat.le_refl _) ?_
          exact ⟨rfl, by rw [← hv, if_pos (by simp [ownP, *])]⟩

set_option maxRecDepth 100000 in
set_option maxHeartbeats 4000000 in
theorem ct_Tr_ownerOfTagAt (l : Launch) (G : ex_G) (iv : Nat → Nat → Int32) (mp : Nat → Nat) (sp mo : Nat) (n : Nat) (hn : iv 41 7 = nI n) (hl : n ≤ 33) (x : Int32) : CT l G 0 M_Tr_ownerOfTagAt [.ref 41, .int x] (HP iv mp sp mo) 0 0 (fun r h' => h' = HP iv mp sp mo ∧ r = some (.int (fndV (ownP iv x) (iv 45) n 0))) := by
  refine ex_enter (by decide) (Nat.le_of_ble_eq_true rfl) (fun v hv => by simp at hv; rcases hv with rfl | rfl <;> rfl) (fun p e s m args below meth c => ?_)
  refine ex_iconst (pc := 0) (v := (nI 0)) d_Tr_ownerOfTagAt_0 (by decide) ?_
  refine ex_istore_n (pc := 1) (i := 2) d_Tr_ownerOfTagAt_1 rfl (by decide) ?_
  exact lp_Tr_ownerOfTagAt l G iv mp sp mo n hn hl x _ n 0 (by omega) rfl

set_option maxRecDepth 100000 in
set_option maxHeartbeats 4000000 in
theorem lp_Tr_insideOf {p : Program} {e : Env} {s : State} {m : MethodId} {args : Array Value} {below : List Frame} {meth : Method} {c : Code} (l : Launch) (G : ex_G) (iv : Nat → Nat → Int32) (mp : Nat → Nat) (sp mo : Nat) (x : Int32) (v : Nat) : ∀ (k : Nat), k ≤ 33 → insD (fun q => hasIn iv q x) k = v → EXM M_Tr_insideOf l G 1 (fun r h' => h' = HP iv mp sp mo ∧ r = some (.int (nI v))) p e s m args below meth c 5 [some (.ref 41), some (.int x), some (.int (nI k))] [] (HP iv mp sp mo) := by
  intro k
  induction k with
  | zero =>
    intro hk hv
    subst hv
    refine ex_iload_n (pc := 5) (i := 2) d_Tr_insideOf_5 rfl rfl ?_
    refine ex_if_le (pc := 6) (tgt := 30) d_Tr_insideOf_6 rfl (fun c6 => ?_) (fun c6 => ?_)
    · refine ex_iconst (pc := 30) (v := (nI 0)) d_Tr_insideOf_30 (by decide) ?_
      refine ex_iret (ty := .int) d_Tr_insideOf_31 rfl rfl rfl (Nat.le_refl _) ?_
      exact ⟨rfl, rfl⟩
    · exact absurd (Int32.le_refl _) c6
  | succ k ih =>
    intro hk hv
    rw [insD] at hv
    refine ex_iload_n (pc := 5) (i := 2) d_Tr_insideOf_5 rfl rfl ?_
    refine ex_if_le (pc := 6) (tgt := 30) d_Tr_insideOf_6 rfl (fun c6 => ?_) (fun c6 => ?_)
    · exact absurd c6 (nI_nle (by omega) (by omega))
    · refine ex_aload_n (pc := 9) (i := 0) d_Tr_insideOf_9 rfl rfl ?_
      refine ex_getr (pc := 10) 11 1 d_Tr_insideOf_10 FL_Tr_11 (Nat.le_of_ble_eq_true rfl) rfl rfl ?_
      refine ex_iload_n (pc := 13) (i := 2) d_Tr_insideOf_13 rfl rfl ?_
      refine ex_aald (pc := 14) (k + 1) d_Tr_insideOf_14 (Nat.le_of_ble_eq_true rfl) rfl rfl rfl (nI_t (by omega)) (show k + 1 < 34 by omega) (el_rf (show k + 1 < 34 by omega)) ?_
      refine ex_iload_n (pc := 15) (i := 1) d_Tr_insideOf_15 rfl rfl ?_
      refine ex_callV (pc := 16) (M' := M_El_hasInside) (as := [.int x]) (st := []) d_Tr_insideOf_16 MW_El_hasInside MI_El_hasInside LK_Tr_115 (el_lt (show k + 1 < 34 by omega)) (el_sh (show k + 1 < 34 by omega)) rfl rfl (ct_El_hasInside l G iv mp sp mo (k + 1) (by omega) x) (ex_lt_rm (by decide)) ⟨Nat.le_refl _, Nat.le_refl _⟩ rfl rfl (Nat.le_of_ble_eq_true rfl) ?_
      rintro _ _ ⟨rfl, rfl⟩
      refine ex_if_eq (pc := 19) (tgt := 24) d_Tr_insideOf_19 rfl (fun c19 => ?_) (fun c19 => ?_)
      · refine ex_iinc (pc := 24) (v := (nI k)) d_Tr_insideOf_24 rfl (pk_m1 k) (by decide) ?_
        refine ex_goto (pc := 27) (tgt := 5) d_Tr_insideOf_27 rfl ?_
        exact ih (by omega) (by rw [if_neg (by rw [b2i_0 c19]; decide)] at hv; exact hv)
      · refine ex_iload_n (pc := 22) (i := 2) d_Tr_insideOf_22 rfl rfl ?_
        refine ex_iret (ty := .int) d_Tr_insideOf_23 rfl rfl rfl (Nat.le_refl _) ?_
        exact ⟨rfl, by rw [← hv, if_pos (b2i_1 c19)]⟩

set_option maxRecDepth 100000 in
set_option maxHeartbeats 4000000 in
theorem ct_Tr_insideOf (l : Launch) (G : ex_G) (iv : Nat → Nat → Int32) (mp : Nat → Nat) (sp mo : Nat) (x : Int32) (cn : Nat) (hc : iv 41 2 = nI cn) (hl : cn ≤ 33) : CT l G 1 M_Tr_insideOf [.ref 41, .int x] (HP iv mp sp mo) 0 0 (fun r h' => h' = HP iv mp sp mo ∧ r = some (.int (nI (insD (fun q => hasIn iv q x) cn)))) := by
  refine ex_enter (by decide) (Nat.le_of_ble_eq_true rfl) (fun v hv => by simp at hv; rcases hv with rfl | rfl <;> rfl) (fun p e s m args below meth c => ?_)
  refine ex_aload_n (pc := 0) (i := 0) d_Tr_insideOf_0 rfl rfl ?_
  refine ex_getx (pc := 1) 11 2 (nI cn) d_Tr_insideOf_1 FL_Tr_32 (Nat.le_of_ble_eq_true rfl) rfl hc ?_
  refine ex_istore_n (pc := 4) (i := 2) d_Tr_insideOf_4 rfl (by decide) ?_
  exact lp_Tr_insideOf l G iv mp sp mo x _ cn hl rfl

set_option maxRecDepth 100000 in
set_option maxHeartbeats 4000000 in
theorem lp_Tr_stepChildren {p : Program} {e : Env} {s : State} {m : MethodId} {args : Array Value} {below : List Frame} {meth : Method} {c : Code} (l : Launch) (G : ex_G) (iv : Nat → Nat → Int32) (mp : Nat → Nat) (sp mo : Nat) (j : Nat) (hj : j < 10) (cn nu : Nat) (hc : iv 41 2 = nI cn) (hl : cn ≤ 33) (fr to : Int32) (x v : Int32) : ∀ (k i : Nat) (acc : Int32) (z : Option Value), i + k = cn + 1 → stcF iv j nu fr to k i acc = v → EXM M_Tr_stepChildren l G 2 (fun r h' => h' = HP iv mp sp mo ∧ r = some (.int v)) p e s m args below meth c 8 [some (.ref 41), some (.ref (9 + 3 * j)), some (.int x), some (.int (nI nu)), some (.int fr), some (.int to), some (.int acc), some (.int (nI i)), z] [] (HP iv mp sp mo) := by
  intro k
  induction k with
  | zero =>
    intro i acc z hik hv
    subst hv
    refine ex_iload (pc := 8) d_Tr_stepChildren_8 rfl ?_
    refine ex_aload_n (pc := 10) (i := 0) d_Tr_stepChildren_10 rfl rfl ?_
    refine ex_getx (pc := 11) 11 2 (nI cn) d_Tr_stepChildren_11 FL_Tr_32 (Nat.le_of_ble_eq_true rfl) rfl hc ?_
    refine ex_icmp_gt (pc := 14) (tgt := 74) d_Tr_stepChildren_14 rfl (fun c14 => ?_) (fun c14 => ?_)
    · refine ex_iload (pc := 74) d_Tr_stepChildren_74 rfl ?_
      refine ex_iret (ty := .int) d_Tr_stepChildren_76 rfl rfl rfl (Nat.le_refl _) ?_
      exact ⟨rfl, rfl⟩
    · exact absurd ((n_lt (by omega) (by omega)).mpr (by omega)) c14
  | succ k ih =>
    intro i acc z hik hv
    rw [stcF] at hv
    refine ex_iload (pc := 8) d_Tr_stepChildren_8 rfl ?_
    refine ex_aload_n (pc := 10) (i := 0) d_Tr_stepChildren_10 rfl rfl ?_
    refine ex_getx (pc := 11) 11 2 (nI cn) d_Tr_stepChildren_11 FL_Tr_32 (Nat.le_of_ble_eq_true rfl) rfl hc ?_
    refine ex_icmp_gt (pc := 14) (tgt := 74) d_Tr_stepChildren_14 rfl (fun c14 => ?_) (fun c14 => ?_)
    · exact absurd ((n_lt (by omega) (by omega)).mp c14) (by omega)
    · refine ex_aload_n (pc := 17) (i := 0) d_Tr_stepChildren_17 rfl rfl ?_
      refine ex_getr (pc := 18) 11 1 d_Tr_stepChildren_18 FL_Tr_11 (Nat.le_of_ble_eq_true rfl) rfl rfl ?_
      refine ex_iload (pc := 21) d_Tr_stepChildren_21 rfl ?_
      refine ex_aald (pc := 23) i d_Tr_stepChildren_23 (Nat.le_of_ble_eq_true rfl) rfl rfl rfl (nI_t (by omega)) (show i < 34 by omega) (el_rf (show i < 34 by omega)) ?_
      refine ex_astore (pc := 24) d_Tr_stepChildren_24 (by decide) ?_
      refine ex_aload (pc := 26) d_Tr_stepChildren_26 rfl ?_
      refine ex_getx (pc := 28) 3 1 (iv (46 + i) 1) d_Tr_stepChildren_28 FL_Tr_106 (el_lt (show i < 34 by omega)) (el_sh (show i < 34 by omega)) rfl ?_
      refine ex_iload_n (pc := 31) (i := 3) d_Tr_stepChildren_31 rfl rfl ?_
      refine ex_icmp_ne (pc := 32) (tgt := 68) d_Tr_stepChildren_32 rfl (fun c32 => ?_) (fun c32 => ?_)
      · refine ex_iinc (pc := 68) (v := (nI (i + 1))) d_Tr_stepChildren_68 rfl (nI_1 i) (by decide) ?_
        refine ex_goto (pc := 71) (tgt := 8) d_Tr_stepChildren_71 rfl ?_
        exact ih (i + 1) _ _ (by omega) (by rw [if_neg (fun q => c32 q.1)] at hv; exact hv)
      · refine ex_iload (pc := 35) d_Tr_stepChildren_35 rfl ?_
        refine ex_aload (pc := 37) d_Tr_stepChildren_37 rfl ?_
        refine ex_getx (pc := 39) 3 3 (iv (46 + i) 3) d_Tr_stepChildren_39 FL_Tr_119 (el_lt (show i < 34 by omega)) (el_sh (show i < 34 by omega)) rfl ?_
        refine ex_icmp_gt (pc := 42) (tgt := 68) d_Tr_stepChildren_42 rfl (fun c42 => ?_) (fun c42 => ?_)
        · refine ex_iinc (pc := 68) (v := (nI (i + 1))) d_Tr_stepChildren_68 rfl (nI_1 i) (by decide) ?_
          refine ex_goto (pc := 71) (tgt := 8) d_Tr_stepChildren_71 rfl ?_
          exact ih (i + 1) _ _ (by omega) (by rw [if_neg (fun q => q.2.1 c42)] at hv; exact hv)
        · refine ex_aload (pc := 45) d_Tr_stepChildren_45 rfl ?_
          refine ex_getx (pc := 47) 3 3 (iv (46 + i) 3) d_Tr_stepChildren_47 FL_Tr_119 (el_lt (show i < 34 by omega)) (el_sh (show i < 34 by omega)) rfl ?_
          refine ex_iload (pc := 50) d_Tr_stepChildren_50 rfl ?_
          refine ex_icmp_ge (pc := 52) (tgt := 68) d_Tr_stepChildren_52 rfl (fun c52 => ?_) (fun c52 => ?_)
          · refine ex_iinc (pc := 68) (v := (nI (i + 1))) d_Tr_stepChildren_68 rfl (nI_1 i) (by decide) ?_
            refine ex_goto (pc := 71) (tgt := 8) d_Tr_stepChildren_71 rfl ?_
            exact ih (i + 1) _ _ (by omega) (by rw [if_neg (fun q => q.2.2 c52)] at hv; exact hv)
          · refine ex_aload_n (pc := 55) (i := 1) d_Tr_stepChildren_55 rfl rfl ?_
            refine ex_iload (pc := 56) d_Tr_stepChildren_56 rfl ?_
            refine ex_aload (pc := 58) d_Tr_stepChildren_58 rfl ?_
            refine ex_getx (pc := 60) 3 0 (iv (46 + i) 0) d_Tr_stepChildren_60 FL_Tr_109 (el_lt (show i < 34 by omega)) (el_sh (show i < 34 by omega)) rfl ?_
            refine ex_callV (pc := 63) (M' := M_Mo_step) (as := [.int acc, .int (iv (46 + i) 0)]) (st := []) d_Tr_stepChildren_63 MW_Mo_step MI_Mo_step LK_Tr_122 (mo_lt hj) (mo_sh hj) rfl rfl (ct_Mo_step l G iv mp sp mo j hj acc (iv (46 + i) 0)) (ex_lt_rm (by decide)) ⟨Nat.le_refl _, Nat.le_refl _⟩ rfl rfl (Nat.le_of_ble_eq_true rfl) ?_
            rintro _ _ ⟨rfl, rfl⟩
            refine ex_istore (pc := 66) d_Tr_stepChildren_66 (by decide) ?_
            refine ex_iinc (pc := 68) (v := (nI (i + 1))) d_Tr_stepChildren_68 rfl (nI_1 i) (by decide) ?_
            refine ex_goto (pc := 71) (tgt := 8) d_Tr_stepChildren_71 rfl ?_
            exact ih (i + 1) _ _ (by omega) (by rw [if_pos ⟨c32, c42, c52⟩] at hv; exact hv)

set_option maxRecDepth 100000 in
set_option maxHeartbeats 4000000 in
theorem ct_Tr_stepChildren (l : Launch) (G : ex_G) (iv : Nat → Nat → Int32) (mp : Nat → Nat) (sp mo : Nat) (j : Nat) (hj : j < 10) (cn nu : Nat) (hc : iv 41 2 = nI cn) (hl : cn ≤ 33) (fr to : Int32) (x : Int32) (hnu : nu ≤ cn) : CT l G 2 M_Tr_stepChildren [.ref 41, .ref (9 + 3 * j), .int x, .int (nI nu), .int fr, .int to] (HP iv mp sp mo) 0 0 (fun r h' => h' = HP iv mp sp mo ∧ r = some (.int (stcF iv j nu fr to (cn - nu) (nu + 1) x))) := by
  refine ex_enter (by decide) (Nat.le_of_ble_eq_true rfl) (fun v hv => by simp at hv; rcases hv with rfl | rfl | rfl | rfl | rfl | rfl <;> rfl) (fun p e s m args below meth c => ?_)
  refine ex_iload_n (pc := 0) (i := 2) d_Tr_stepChildren_0 rfl rfl ?_
  refine ex_istore (pc := 1) d_Tr_stepChildren_1 (by decide) ?_
  refine ex_iload_n (pc := 3) (i := 3) d_Tr_stepChildren_3 rfl rfl ?_
  refine ex_iconst (pc := 4) (v := (nI 1)) d_Tr_stepChildren_4 (by decide) ?_
  refine ex_iadd (pc := 5) d_Tr_stepChildren_5 ?_
  refine ex_top (nI_s nu) ?_
  refine ex_istore (pc := 6) d_Tr_stepChildren_6 (by decide) ?_
  exact lp_Tr_stepChildren l G iv mp sp mo j hj cn nu hc hl fr to x _ (cn - nu) (nu + 1) x _ (by omega) rfl

set_option maxRecDepth 100000 in
set_option maxHeartbeats 4000000 in
theorem lp_Tr_latestOpenWith {p : Program} {e : Env} {s : State} {m : MethodId} {args : Array Value} {below : List Frame} {meth : Method} {c : Code} (l : Launch) (G : ex_G) (iv : Nat → Nat → Int32) (mp : Nat → Nat) (sp mo : Nat) (nm : Int32) (pr : Nat → Nat) (cn : Nat) (hl : cn ≤ 33) (hp : ∀ q, 0 < q → q ≤ cn → iv (46 + q) 1 = nI (pr q) ∧ pr q ≤ cn) (v : Nat) : ∀ (k i q : Nat), i + k = 8 → q ≤ cn → lowF iv pr nm k q = v → EXM M_Tr_latestOpenWith l G 0 (fun r h' => h' = HP iv mp sp mo ∧ r = some (.int (nI v))) p e s m args below meth c 7 [some (.ref 41), some (.int nm), some (.int (nI q)), some (.int (nI i))] [] (HP iv mp sp mo) := by
  intro k
  induction k with
  | zero =>
    intro i q hik hq hv
    subst hv
    refine ex_iload_n (pc := 7) (i := 3) d_Tr_latestOpenWith_7 rfl rfl ?_
    refine ex_bipush (pc := 8) (v := (nI 8)) d_Tr_latestOpenWith_8 (by decide) ?_
    refine ex_icmp_ge (pc := 10) (tgt := 48) d_Tr_latestOpenWith_10 rfl (fun c10 => ?_) (fun c10 => ?_)
    · refine ex_iconst (pc := 48) (v := (nI 0)) d_Tr_latestOpenWith_48 (by decide) ?_
      refine ex_iret (ty := .int) d_Tr_latestOpenWith_49 rfl rfl rfl (Nat.le_refl _) ?_
      exact ⟨rfl, rfl⟩
    · exact absurd ((n_ge (by omega) (by omega)).mpr (by omega)) c10
  | succ k ih =>
    intro i q hik hq hv
    rw [lowF] at hv
    refine ex_iload_n (pc := 7) (i := 3) d_Tr_latestOpenWith_7 rfl rfl ?_
    refine ex_bipush (pc := 8) (v := (nI 8)) d_Tr_latestOpenWith_8 (by decide) ?_
    refine ex_icmp_ge (pc := 10) (tgt := 48) d_Tr_latestOpenWith_10 rfl (fun c10 => ?_) (fun c10 => ?_)
    · exact absurd ((n_ge (by omega) (by omega)).mp c10) (by omega)
    · refine ex_iload_n (pc := 13) (i := 2) d_Tr_latestOpenWith_13 rfl rfl ?_
      refine ex_if_eq (pc := 14) (tgt := 48) d_Tr_latestOpenWith_14 rfl (fun c14 => ?_) (fun c14 => ?_)
      · refine ex_iconst (pc := 48) (v := (nI 0)) d_Tr_latestOpenWith_48 (by decide) ?_
        refine ex_iret (ty := .int) d_Tr_latestOpenWith_49 rfl rfl rfl (Nat.le_refl _) ?_
        have hq1 : q = 0 := (n_eq (by omega) (by omega)).mp c14
        exact ⟨rfl, by rw [← hv, if_pos hq1]⟩
      · have hq1 : ¬ q = 0 := fun z => c14 (by rw [z]; rfl)
        have hq0 : 0 < q := by omega
        rw [if_neg hq1] at hv
        refine ex_aload_n (pc := 17) (i := 0) d_Tr_latestOpenWith_17 rfl rfl ?_
        refine ex_getr (pc := 18) 11 1 d_Tr_latestOpenWith_18 FL_Tr_11 (Nat.le_of_ble_eq_true rfl) rfl rfl ?_
        refine ex_iload_n (pc := 21) (i := 2) d_Tr_latestOpenWith_21 rfl rfl ?_
        refine ex_aald (pc := 22) q d_Tr_latestOpenWith_22 (Nat.le_of_ble_eq_true rfl) rfl rfl rfl (nI_t (by omega)) (show q < 34 by omega) (el_rf (show q < 34 by omega)) ?_
        refine ex_getx (pc := 23) 3 0 (iv (46 + q) 0) d_Tr_latestOpenWith_23 FL_Tr_109 (el_lt (show q < 34 by omega)) (el_sh (show q < 34 by omega)) rfl ?_
        refine ex_iload_n (pc := 26) (i := 1) d_Tr_latestOpenWith_26 rfl rfl ?_
        refine ex_icmp_ne (pc := 27) (tgt := 32) d_Tr_latestOpenWith_27 rfl (fun c27 => ?_) (fun c27 => ?_)
        · refine ex_aload_n (pc := 32) (i := 0) d_Tr_latestOpenWith_32 rfl rfl ?_
          refine ex_getr (pc := 33) 11 1 d_Tr_latestOpenWith_33 FL_Tr_11 (Nat.le_of_ble_eq_true rfl) rfl rfl ?_
          refine ex_iload_n (pc := 36) (i := 2) d_Tr_latestOpenWith_36 rfl rfl ?_
          refine ex_aald (pc := 37) q d_Tr_latestOpenWith_37 (Nat.le_of_ble_eq_true rfl) rfl rfl rfl (nI_t (by omega)) (show q < 34 by omega) (el_rf (show q < 34 by omega)) ?_
          refine ex_getx (pc := 38) 3 1 (nI (pr q)) d_Tr_latestOpenWith_38 FL_Tr_106 (el_lt (show q < 34 by omega)) (el_sh (show q < 34 by omega)) (hp q hq0 hq).1 ?_
          refine ex_istore_n (pc := 41) (i := 2) d_Tr_latestOpenWith_41 rfl (by decide) ?_
          refine ex_iinc (pc := 42) (v := (nI (i + 1))) d_Tr_latestOpenWith_42 rfl (nI_1 i) (by decide) ?_
          refine ex_goto (pc := 45) (tgt := 7) d_Tr_latestOpenWith_45 rfl ?_
          exact ih (i + 1) (pr q) (by omega) (hp q hq0 hq).2 (by rw [if_neg c27] at hv; exact hv)
        · refine ex_iload_n (pc := 30) (i := 2) d_Tr_latestOpenWith_30 rfl rfl ?_
          refine ex_iret (ty := .int) d_Tr_latestOpenWith_31 rfl rfl rfl (Nat.le_refl _) ?_
          exact ⟨rfl, by rw [← hv, if_pos c27]⟩

set_option maxRecDepth 100000 in
set_option maxHeartbeats 4000000 in
theorem ct_Tr_latestOpenWith (l : Launch) (G : ex_G) (iv : Nat → Nat → Int32) (mp : Nat → Nat) (sp mo : Nat) (nm : Int32) (pr : Nat → Nat) (cn : Nat) (hl : cn ≤ 33) (hp : ∀ q, 0 < q → q ≤ cn → iv (46 + q) 1 = nI (pr q) ∧ pr q ≤ cn) (op : Nat) (ho : iv 41 3 = nI op) (hoc : op ≤ cn) : CT l G 0 M_Tr_latestOpenWith [.ref 41, .int nm] (HP iv mp sp mo) 0 0 (fun r h' => h' = HP iv mp sp mo ∧ r = some (.int (nI (lowF iv pr nm 8 op)))) := by
  refine ex_enter (by decide) (Nat.le_of_ble_eq_true rfl) (fun v hv => by simp at hv; rcases hv with rfl | rfl <;> rfl) (fun p e s m args below meth c => ?_)
  refine ex_aload_n (pc := 0) (i := 0) d_Tr_latestOpenWith_0 rfl rfl ?_
  refine ex_getx (pc := 1) 11 3 (nI op) d_Tr_latestOpenWith_1 FL_Tr_39 (Nat.le_of_ble_eq_true rfl) rfl ho ?_
  refine ex_istore_n (pc := 4) (i := 2) d_Tr_latestOpenWith_4 rfl (by decide) ?_
  refine ex_iconst (pc := 5) (v := (nI 0)) d_Tr_latestOpenWith_5 (by decide) ?_
  refine ex_istore_n (pc := 6) (i := 3) d_Tr_latestOpenWith_6 rfl (by decide) ?_
  exact lp_Tr_latestOpenWith l G iv mp sp mo nm pr cn hl hp _ 8 0 op (by omega) hoc rfl

