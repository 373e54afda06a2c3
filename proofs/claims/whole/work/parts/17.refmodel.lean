/-! models of the reference; bits of models of the class -/
theorem n_10 (mm k : Nat) : nI 10 * nI mm + nI k = nI (10 * mm + k) := by rw [pk_mul, nI_add]
theorem b_inj {b b' : Bool} (h : b2i b = b2i b') : b = b' := by cases b <;> cases b' <;> first | rfl | exact absurd h (by decide)
set_option maxRecDepth 100000 in
set_option maxHeartbeats 4000000 in
theorem lp_RF_next {p : Program} {e : Env} {s : State} {m : MethodId} {args : Array Value} {below : List Frame} {meth : Method} {c : Code} (l : Launch) (G : ex_G) (iv : Nat → Nat → Int32) (mp : Nat → Nat) (sp mo : Nat) (mm n : Nat) (hm : mm < 10) (hn : iv 99 mm = nI n) (hl : n ≤ 10) (x v : Int32) : ∀ (k i : Nat) (acc : Int32), i + k = n → orR (fun k => iv 101 (10 * mm + k)) x k i acc = v → EXM M_RF_next l G 0 (fun r h' => h' = HP iv mp sp mo ∧ r = some (.int v)) p e s m args below meth c 22 [some (.ref 92), some (.int (nI mm)), some (.int x), some (.int acc), some (.int (nI i))] [] (HP iv mp sp mo) := by
  intro k
  induction k with
  | zero =>
    intro i acc hik hv
    subst hv
    refine ex_iload (pc := 22) d_RF_next_22 rfl ?_
    refine ex_aload_n (pc := 24) (i := 0) d_RF_next_24 rfl rfl ?_
    refine ex_getr (pc := 25) 12 7 d_RF_next_25 FL_RF_29 (Nat.le_of_ble_eq_true rfl) rfl rfl ?_
    refine ex_iload_n (pc := 28) (i := 1) d_RF_next_28 rfl rfl ?_
    refine ex_ialdx (pc := 29) mm (nI n) d_RF_next_29 (Nat.le_of_ble_eq_true rfl) rfl rfl rfl (nI_t (by omega)) (show mm < 10 from hm) hn ?_
    refine ex_icmp_ge (pc := 30) (tgt := 64) d_RF_next_30 rfl (fun c30 => ?_) (fun c30 => ?_)
    · refine ex_iload_n (pc := 64) (i := 3) d_RF_next_64 rfl rfl ?_
      refine ex_iret (ty := .int) d_RF_next_65 rfl rfl rfl (Nat.le_refl _) ?_
      exact ⟨rfl, rfl⟩
    · exact absurd ((n_ge (by omega) (by omega)).mpr (by omega)) c30
  | succ k ih =>
    intro i acc hik hv
    rw [orR] at hv
    refine ex_iload (pc := 22) d_RF_next_22 rfl ?_
    refine ex_aload_n (pc := 24) (i := 0) d_RF_next_24 rfl rfl ?_
    refine ex_getr (pc := 25) 12 7 d_RF_next_25 FL_RF_29 (Nat.le_of_ble_eq_true rfl) rfl rfl ?_
    refine ex_iload_n (pc := 28) (i := 1) d_RF_next_28 rfl rfl ?_
    refine ex_ialdx (pc := 29) mm (nI n) d_RF_next_29 (Nat.le_of_ble_eq_true rfl) rfl rfl rfl (nI_t (by omega)) (show mm < 10 from hm) hn ?_
    refine ex_icmp_ge (pc := 30) (tgt := 64) d_RF_next_30 rfl (fun c30 => ?_) (fun c30 => ?_)
    · exact absurd ((n_ge (by omega) (by omega)).mp c30) (by omega)
    · refine ex_iload_n (pc := 33) (i := 2) d_RF_next_33 rfl rfl ?_
      refine ex_iload (pc := 34) d_RF_next_34 rfl ?_
      refine ex_ishr (pc := 36) d_RF_next_36 ?_
      refine ex_iconst (pc := 37) (v := (nI 1)) d_RF_next_37 (by decide) ?_
      refine ex_iand (pc := 38) d_RF_next_38 ?_
      refine ex_iconst (pc := 39) (v := (nI 1)) d_RF_next_39 (by decide) ?_
      refine ex_icmp_ne (pc := 40) (tgt := 58) d_RF_next_40 rfl (fun c40 => ?_) (fun c40 => ?_)
      · refine ex_iinc (pc := 58) (v := (nI (i + 1))) d_RF_next_58 rfl (nI_1 i) (by decide) ?_
        refine ex_goto (pc := 61) (tgt := 22) d_RF_next_61 rfl ?_
        first | exact ih (i + 1) _ (by omega) (by rw [if_pos c40] at hv; exact hv) | exact ih (i + 1) _ (by omega) (by rw [if_neg c40] at hv; exact hv)
      · refine ex_iload_n (pc := 43) (i := 3) d_RF_next_43 rfl rfl ?_
        refine ex_aload_n (pc := 44) (i := 0) d_RF_next_44 rfl rfl ?_
        refine ex_getr (pc := 45) 12 9 d_RF_next_45 FL_RF_35 (Nat.le_of_ble_eq_true rfl) rfl rfl ?_
        refine ex_bipush (pc := 48) (v := (nI 10)) d_RF_next_48 (by decide) ?_
        refine ex_iload_n (pc := 50) (i := 1) d_RF_next_50 rfl rfl ?_
        refine ex_imul (pc := 51) d_RF_next_51 ?_
        refine ex_iload (pc := 52) d_RF_next_52 rfl ?_
        refine ex_iadd (pc := 54) d_RF_next_54 ?_
        refine ex_ialdx (pc := 55) (10 * mm + i) (iv 101 (10 * mm + i)) d_RF_next_55 (Nat.le_of_ble_eq_true rfl) rfl rfl rfl (by rw [n_10]; exact nI_t (by omega)) (show 10 * mm + i < 100 by omega) rfl ?_
        refine ex_ior (pc := 56) d_RF_next_56 ?_
        refine ex_istore_n (pc := 57) (i := 3) d_RF_next_57 rfl (by decide) ?_
        refine ex_iinc (pc := 58) (v := (nI (i + 1))) d_RF_next_58 rfl (nI_1 i) (by decide) ?_
        refine ex_goto (pc := 61) (tgt := 22) d_RF_next_61 rfl ?_
        first | exact ih (i + 1) _ (by omega) (by rw [if_pos c40] at hv; exact hv) | exact ih (i + 1) _ (by omega) (by rw [if_neg c40] at hv; exact hv)

set_option maxRecDepth 100000 in
set_option maxHeartbeats 4000000 in
theorem ct_RF_next (l : Launch) (G : ex_G) (iv : Nat → Nat → Int32) (mp : Nat → Nat) (sp mo : Nat) (mm n : Nat) (hm : mm < 10) (hn : iv 99 mm = nI n) (hl : n ≤ 10) (x : Int32) : CT l G 0 M_RF_next [.ref 92, .int (nI mm), .int x] (HP iv mp sp mo) 0 0 (fun r h' => h' = HP iv mp sp mo ∧ r = some (.int (nxtR iv mm n x))) := by
  refine ex_enter (by decide) (Nat.le_of_ble_eq_true rfl) (fun v hv => by simp at hv; rcases hv with rfl | rfl | rfl <;> rfl) (fun p e s m args below meth c => ?_)
  refine ex_iload_n (pc := 0) (i := 2) d_RF_next_0 rfl rfl ?_
  refine ex_sipush (pc := 1) (v := (nI 1024)) d_RF_next_1 (by decide) ?_
  refine ex_iand (pc := 4) d_RF_next_4 ?_
  refine ex_if_eq (pc := 5) (tgt := 17) d_RF_next_5 rfl (fun c5 => ?_) (fun c5 => ?_)
  · refine ex_iconst (pc := 17) (v := (nI 0)) d_RF_next_17 (by decide) ?_
    refine ex_istore_n (pc := 18) (i := 3) d_RF_next_18 rfl (by decide) ?_
    refine ex_iconst (pc := 19) (v := (nI 0)) d_RF_next_19 (by decide) ?_
    refine ex_istore (pc := 20) d_RF_next_20 (by decide) ?_
    rw [nxtR]
    first | (rw [if_pos c5]; exact lp_RF_next l G iv mp sp mo mm n hm hn hl x _ n 0 _ (by omega) rfl) | (rw [if_neg c5]; exact lp_RF_next l G iv mp sp mo mm n hm hn hl x _ n 0 _ (by omega) rfl)
  · refine ex_aload_n (pc := 8) (i := 0) d_RF_next_8 rfl rfl ?_
    refine ex_getr (pc := 9) 12 4 d_RF_next_9 FL_RF_20 (Nat.le_of_ble_eq_true rfl) rfl rfl ?_
    refine ex_iload_n (pc := 12) (i := 1) d_RF_next_12 rfl rfl ?_
    refine ex_ialdx (pc := 13) mm (iv 96 mm) d_RF_next_13 (Nat.le_of_ble_eq_true rfl) rfl rfl rfl (nI_t (by omega)) (show mm < 10 from hm) rfl ?_
    refine ex_goto (pc := 14) (tgt := 18) d_RF_next_14 rfl ?_
    refine ex_istore_n (pc := 18) (i := 3) d_RF_next_18 rfl (by decide) ?_
    refine ex_iconst (pc := 19) (v := (nI 0)) d_RF_next_19 (by decide) ?_
    refine ex_istore (pc := 20) d_RF_next_20 (by decide) ?_
    rw [nxtR]
    first | (rw [if_pos c5]; exact lp_RF_next l G iv mp sp mo mm n hm hn hl x _ n 0 _ (by omega) rfl) | (rw [if_neg c5]; exact lp_RF_next l G iv mp sp mo mm n hm hn hl x _ n 0 _ (by omega) rfl)

set_option maxRecDepth 100000 in
set_option maxHeartbeats 4000000 in
theorem lp_RF_step {p : Program} {e : Env} {s : State} {m : MethodId} {args : Array Value} {below : List Frame} {meth : Method} {c : Code} (l : Launch) (G : ex_G) (iv : Nat → Nat → Int32) (mp : Nat → Nat) (sp mo : Nat) (mm n : Nat) (hm : mm < 10) (hn : iv 99 mm = nI n) (hl : n ≤ 10) (x ns v : Int32) : ∀ (k i : Nat) (acc : Int32), i + k = n → mskF (fun k => iv 100 (10 * mm + k)) ns k i acc = v → EXM M_RF_step l G 1 (fun r h' => h' = HP iv mp sp mo ∧ r = some (.int v)) p e s m args below meth c 11 [some (.ref 92), some (.int (nI mm)), some (.int x), some (.int ns), some (.int acc), some (.int (nI i))] [] (HP iv mp sp mo) := by
  intro k
  induction k with
  | zero =>
    intro i acc hik hv
    subst hv
    refine ex_iload (pc := 11) d_RF_step_11 rfl ?_
    refine ex_aload_n (pc := 13) (i := 0) d_RF_step_13 rfl rfl ?_
    refine ex_getr (pc := 14) 12 7 d_RF_step_14 FL_RF_29 (Nat.le_of_ble_eq_true rfl) rfl rfl ?_
    refine ex_iload_n (pc := 17) (i := 1) d_RF_step_17 rfl rfl ?_
    refine ex_ialdx (pc := 18) mm (nI n) d_RF_step_18 (Nat.le_of_ble_eq_true rfl) rfl rfl rfl (nI_t (by omega)) (show mm < 10 from hm) hn ?_
    refine ex_icmp_ge (pc := 19) (tgt := 61) d_RF_step_19 rfl (fun c19 => ?_) (fun c19 => ?_)
    · refine ex_iload (pc := 61) d_RF_step_61 rfl ?_
      refine ex_iret (ty := .int) d_RF_step_63 rfl rfl rfl (Nat.le_refl _) ?_
      exact ⟨rfl, rfl⟩
    · exact absurd ((n_ge (by omega) (by omega)).mpr (by omega)) c19
  | succ k ih =>
    intro i acc hik hv
    rw [mskF] at hv
    refine ex_iload (pc := 11) d_RF_step_11 rfl ?_
    refine ex_aload_n (pc := 13) (i := 0) d_RF_step_13 rfl rfl ?_
    refine ex_getr (pc := 14) 12 7 d_RF_step_14 FL_RF_29 (Nat.le_of_ble_eq_true rfl) rfl rfl ?_
    refine ex_iload_n (pc := 17) (i := 1) d_RF_step_17 rfl rfl ?_
    refine ex_ialdx (pc := 18) mm (nI n) d_RF_step_18 (Nat.le_of_ble_eq_true rfl) rfl rfl rfl (nI_t (by omega)) (show mm < 10 from hm) hn ?_
    refine ex_icmp_ge (pc := 19) (tgt := 61) d_RF_step_19 rfl (fun c19 => ?_) (fun c19 => ?_)
    · exact absurd ((n_ge (by omega) (by omega)).mp c19) (by omega)
    · refine ex_iload_n (pc := 22) (i := 3) d_RF_step_22 rfl rfl ?_
      refine ex_aload_n (pc := 23) (i := 0) d_RF_step_23 rfl rfl ?_
      refine ex_getr (pc := 24) 12 8 d_RF_step_24 FL_RF_32 (Nat.le_of_ble_eq_true rfl) rfl rfl ?_
      refine ex_bipush (pc := 27) (v := (nI 10)) d_RF_step_27 (by decide) ?_
      refine ex_iload_n (pc := 29) (i := 1) d_RF_step_29 rfl rfl ?_
      refine ex_imul (pc := 30) d_RF_step_30 ?_
      refine ex_iload (pc := 31) d_RF_step_31 rfl ?_
      refine ex_iadd (pc := 33) d_RF_step_33 ?_
      refine ex_ialdx (pc := 34) (10 * mm + i) (iv 100 (10 * mm + i)) d_RF_step_34 (Nat.le_of_ble_eq_true rfl) rfl rfl rfl (by rw [n_10]; exact nI_t (by omega)) (show 10 * mm + i < 100 by omega) rfl ?_
      refine ex_bipush (pc := 35) (v := (nI 97)) d_RF_step_35 (by decide) ?_
      refine ex_isub (pc := 37) d_RF_step_37 ?_
      refine ex_ishr (pc := 38) d_RF_step_38 ?_
      refine ex_iconst (pc := 39) (v := (nI 1)) d_RF_step_39 (by decide) ?_
      refine ex_iand (pc := 40) d_RF_step_40 ?_
      refine ex_if_ne (pc := 41) (tgt := 55) d_RF_step_41 rfl (fun c41 => ?_) (fun c41 => ?_)
      · refine ex_iinc (pc := 55) (v := (nI (i + 1))) d_RF_step_55 rfl (nI_1 i) (by decide) ?_
        refine ex_goto (pc := 58) (tgt := 11) d_RF_step_58 rfl ?_
        first | exact ih (i + 1) _ (by omega) (by rw [if_pos c41] at hv; exact hv) | exact ih (i + 1) _ (by omega) (by rw [if_neg c41] at hv; exact hv)
      · refine ex_iload (pc := 44) d_RF_step_44 rfl ?_
        refine ex_iconst (pc := 46) (v := (nI 1)) d_RF_step_46 (by decide) ?_
        refine ex_iload (pc := 47) d_RF_step_47 rfl ?_
        refine ex_ishl (pc := 49) d_RF_step_49 ?_
        refine ex_iconst (pc := 50) (v := (-1)) d_RF_step_50 (by decide) ?_
        refine ex_ixor (pc := 51) d_RF_step_51 ?_
        refine ex_iand (pc := 52) d_RF_step_52 ?_
        refine ex_istore (pc := 53) d_RF_step_53 (by decide) ?_
        refine ex_iinc (pc := 55) (v := (nI (i + 1))) d_RF_step_55 rfl (nI_1 i) (by decide) ?_
        refine ex_goto (pc := 58) (tgt := 11) d_RF_step_58 rfl ?_
        first | exact ih (i + 1) _ (by omega) (by rw [if_pos c41] at hv; exact hv) | exact ih (i + 1) _ (by omega) (by rw [if_neg c41] at hv; exact hv)

set_option maxRecDepth 100000 in
set_option maxHeartbeats 4000000 in
theorem ct_RF_step (l : Launch) (G : ex_G) (iv : Nat → Nat → Int32) (mp : Nat → Nat) (sp mo : Nat) (mm n : Nat) (hm : mm < 10) (hn : iv 99 mm = nI n) (hl : n ≤ 10) (x ns : Int32) : CT l G 1 M_RF_step [.ref 92, .int (nI mm), .int x, .int ns] (HP iv mp sp mo) 0 0 (fun r h' => h' = HP iv mp sp mo ∧ r = some (.int (stpR iv mm n x ns))) := by
  refine ex_enter (by decide) (Nat.le_of_ble_eq_true rfl) (fun v hv => by simp at hv; rcases hv with rfl | rfl | rfl | rfl <;> rfl) (fun p e s m args below meth c => ?_)
  refine ex_aload_n (pc := 0) (i := 0) d_RF_step_0 rfl rfl ?_
  refine ex_iload_n (pc := 1) (i := 1) d_RF_step_1 rfl rfl ?_
  refine ex_iload_n (pc := 2) (i := 2) d_RF_step_2 rfl rfl ?_
  refine ex_callV (pc := 3) (M' := M_RF_next) (as := [.int (nI mm), .int x]) (st := []) d_RF_step_3 MW_RF_next MI_RF_next LK_RF_164 (Nat.le_of_ble_eq_true rfl) rfl rfl rfl (ct_RF_next l G iv mp sp mo mm n hm hn hl x) (ex_lt_rm (by decide)) ⟨Nat.le_refl _, Nat.le_refl _⟩ rfl rfl (Nat.le_of_ble_eq_true rfl) ?_
  rintro _ _ ⟨rfl, rfl⟩
  refine ex_istore (pc := 6) d_RF_step_6 (by decide) ?_
  refine ex_iconst (pc := 8) (v := (nI 0)) d_RF_step_8 (by decide) ?_
  refine ex_istore (pc := 9) d_RF_step_9 (by decide) ?_
  exact lp_RF_step l G iv mp sp mo mm n hm hn hl x ns _ n 0 _ (by omega) rfl

set_option maxRecDepth 100000 in
set_option maxHeartbeats 4000000 in
theorem ct_RF_accepts (l : Launch) (G : ex_G) (iv : Nat → Nat → Int32) (mp : Nat → Nat) (sp mo : Nat) (mm : Nat) (hm : mm < 10) (x : Int32) : CT l G 0 M_RF_accepts [.ref 92, .int (nI mm), .int x] (HP iv mp sp mo) 0 0 (fun r h' => h' = HP iv mp sp mo ∧ r = some (.int (b2i (accR iv mm x)))) := by
  refine ex_enter (by decide) (Nat.le_of_ble_eq_true rfl) (fun v hv => by simp at hv; rcases hv with rfl | rfl | rfl <;> rfl) (fun p e s m args below meth c => ?_)
  refine ex_iload_n (pc := 0) (i := 2) d_RF_accepts_0 rfl rfl ?_
  refine ex_aload_n (pc := 1) (i := 0) d_RF_accepts_1 rfl rfl ?_
  refine ex_getr (pc := 2) 12 5 d_RF_accepts_2 FL_RF_23 (Nat.le_of_ble_eq_true rfl) rfl rfl ?_
  refine ex_iload_n (pc := 5) (i := 1) d_RF_accepts_5 rfl rfl ?_
  refine ex_ialdx (pc := 6) mm (iv 97 mm) d_RF_accepts_6 (Nat.le_of_ble_eq_true rfl) rfl rfl rfl (nI_t (by omega)) (show mm < 10 from hm) rfl ?_
  refine ex_iand (pc := 7) d_RF_accepts_7 ?_
  refine ex_if_ne (pc := 8) (tgt := 28) d_RF_accepts_8 rfl (fun c8 => ?_) (fun c8 => ?_)
  · refine ex_iconst (pc := 28) (v := (nI 1)) d_RF_accepts_28 (by decide) ?_
    refine ex_goto (pc := 29) (tgt := 33) d_RF_accepts_29 rfl ?_
    refine ex_iret (ty := .boolean) d_RF_accepts_33 rfl rfl rfl (Nat.le_refl _) ?_
    exact ⟨rfl, by rw [accR, decide_eq_true c8]; rfl⟩
  · refine ex_iload_n (pc := 11) (i := 2) d_RF_accepts_11 rfl rfl ?_
    refine ex_sipush (pc := 12) (v := (nI 1024)) d_RF_accepts_12 (by decide) ?_
    refine ex_iand (pc := 15) d_RF_accepts_15 ?_
    refine ex_if_eq (pc := 16) (tgt := 32) d_RF_accepts_16 rfl (fun c16 => ?_) (fun c16 => ?_)
    · refine ex_iconst (pc := 32) (v := (nI 0)) d_RF_accepts_32 (by decide) ?_
      refine ex_iret (ty := .boolean) d_RF_accepts_33 rfl rfl rfl (Nat.le_refl _) ?_
      exact ⟨rfl, by rw [accR, decide_eq_false (fun q => q c8), decide_eq_false (fun q => q c16)]; rfl⟩
    · refine ex_aload_n (pc := 19) (i := 0) d_RF_accepts_19 rfl rfl ?_
      refine ex_getr (pc := 20) 12 6 d_RF_accepts_20 FL_RF_26 (Nat.le_of_ble_eq_true rfl) rfl rfl ?_
      refine ex_iload_n (pc := 23) (i := 1) d_RF_accepts_23 rfl rfl ?_
      refine ex_zaldx (pc := 24) mm (iv 98 mm) d_RF_accepts_24 (Nat.le_of_ble_eq_true rfl) rfl rfl rfl (nI_t (by omega)) (show mm < 10 from hm) rfl ?_
      refine ex_if_eq (pc := 25) (tgt := 32) d_RF_accepts_25 rfl (fun c25 => ?_) (fun c25 => ?_)
      · refine ex_iconst (pc := 32) (v := (nI 0)) d_RF_accepts_32 (by decide) ?_
        refine ex_iret (ty := .boolean) d_RF_accepts_33 rfl rfl rfl (Nat.le_refl _) ?_
        exact ⟨rfl, by rw [accR, decide_eq_false (fun q => q c8), decide_eq_true c16, decide_eq_false (fun q => q c25)]; rfl⟩
      · refine ex_iconst (pc := 28) (v := (nI 1)) d_RF_accepts_28 (by decide) ?_
        refine ex_goto (pc := 29) (tgt := 33) d_RF_accepts_29 rfl ?_
        refine ex_iret (ty := .boolean) d_RF_accepts_33 rfl rfl rfl (Nat.le_refl _) ?_
        exact ⟨rfl, by rw [accR, decide_eq_true c16, decide_eq_true c25, Bool.and_true, Bool.or_true]; rfl⟩

set_option maxRecDepth 100000 in
set_option maxHeartbeats 4000000 in
theorem lp_RF_steps {p : Program} {e : Env} {s : State} {m : MethodId} {args : Array Value} {below : List Frame} {meth : Method} {c : Code} (l : Launch) (G : ex_G) (iv : Nat → Nat → Int32) (mp : Nat → Nat) (sp mo : Nat) (mm n : Nat) (hm : mm < 10) (hn : iv 99 mm = nI n) (hl : n ≤ 10) (x ns v : Int32) : ∀ (k i : Nat) (z : Int32), i + k = 11 → itr (fun z => z ||| stpR iv mm n z ns) k z = v → EXM M_RF_steps l G 2 (fun r h' => h' = HP iv mp sp mo ∧ r = some (.int v)) p e s m args below meth c 6 [some (.ref 92), some (.int (nI mm)), some (.int x), some (.int ns), some (.int z), some (.int (nI i))] [] (HP iv mp sp mo) := by
  intro k
  induction k with
  | zero =>
    intro i z hik hv
    subst hv
    refine ex_iload (pc := 6) d_RF_steps_6 rfl ?_
    refine ex_bipush (pc := 8) (v := (nI 11)) d_RF_steps_8 (by decide) ?_
    refine ex_icmp_ge (pc := 10) (tgt := 32) d_RF_steps_10 rfl (fun c10 => ?_) (fun c10 => ?_)
    · refine ex_iload (pc := 32) d_RF_steps_32 rfl ?_
      refine ex_iret (ty := .int) d_RF_steps_34 rfl rfl rfl (Nat.le_refl _) ?_
      exact ⟨rfl, rfl⟩
    · exact absurd ((n_ge (by omega) (by omega)).mpr (by omega)) c10
  | succ k ih =>
    intro i z hik hv
    rw [itr] at hv
    refine ex_iload (pc := 6) d_RF_steps_6 rfl ?_
    refine ex_bipush (pc := 8) (v := (nI 11)) d_RF_steps_8 (by decide) ?_
    refine ex_icmp_ge (pc := 10) (tgt := 32) d_RF_steps_10 rfl (fun c10 => ?_) (fun c10 => ?_)
    · exact absurd ((n_ge (by omega) (by omega)).mp c10) (by omega)
    · refine ex_iload (pc := 13) d_RF_steps_13 rfl ?_
      refine ex_aload_n (pc := 15) (i := 0) d_RF_steps_15 rfl rfl ?_
      refine ex_iload_n (pc := 16) (i := 1) d_RF_steps_16 rfl rfl ?_
      refine ex_iload (pc := 17) d_RF_steps_17 rfl ?_
      refine ex_iload_n (pc := 19) (i := 3) d_RF_steps_19 rfl rfl ?_
      refine ex_callV (pc := 20) (M' := M_RF_step) (as := [.int (nI mm), .int z, .int ns]) (st := [.int z]) d_RF_steps_20 MW_RF_step MI_RF_step LK_RF_168 (Nat.le_of_ble_eq_true rfl) rfl rfl rfl (ct_RF_step l G iv mp sp mo mm n hm hn hl z ns) (ex_lt_rm (by decide)) ⟨Nat.le_refl _, Nat.le_refl _⟩ rfl rfl (Nat.le_of_ble_eq_true rfl) ?_
      rintro _ _ ⟨rfl, rfl⟩
      refine ex_ior (pc := 23) d_RF_steps_23 ?_
      refine ex_istore (pc := 24) d_RF_steps_24 (by decide) ?_
      refine ex_iinc (pc := 26) (v := (nI (i + 1))) d_RF_steps_26 rfl (nI_1 i) (by decide) ?_
      refine ex_goto (pc := 29) (tgt := 6) d_RF_steps_29 rfl ?_
      exact ih (i + 1) _ (by omega) hv

set_option maxRecDepth 100000 in
set_option maxHeartbeats 4000000 in
theorem ct_RF_steps (l : Launch) (G : ex_G) (iv : Nat → Nat → Int32) (mp : Nat → Nat) (sp mo : Nat) (mm n : Nat) (hm : mm < 10) (hn : iv 99 mm = nI n) (hl : n ≤ 10) (x ns : Int32) : CT l G 2 M_RF_steps [.ref 92, .int (nI mm), .int x, .int ns] (HP iv mp sp mo) 0 0 (fun r h' => h' = HP iv mp sp mo ∧ r = some (.int (stsR iv mm n x ns))) := by
  refine ex_enter (by decide) (Nat.le_of_ble_eq_true rfl) (fun v hv => by simp at hv; rcases hv with rfl | rfl | rfl | rfl <;> rfl) (fun p e s m args below meth c => ?_)
  refine ex_iload_n (pc := 0) (i := 2) d_RF_steps_0 rfl rfl ?_
  refine ex_istore (pc := 1) d_RF_steps_1 (by decide) ?_
  refine ex_iconst (pc := 3) (v := (nI 0)) d_RF_steps_3 (by decide) ?_
  refine ex_istore (pc := 4) d_RF_steps_4 (by decide) ?_
  exact lp_RF_steps l G iv mp sp mo mm n hm hn hl x ns _ 11 0 x (by omega) rfl

/-- one model of a round of the reference, and a round: the names found so far -/
def frt1 (iv : Nat → Nat → Int32) (mn : Nat → Nat) (i : Nat) (ns : Int32) : Int32 := if iv 94 i = 0 then ns else if accR iv i (stsR iv i (mn i) (nI 1024) ns) = true then ns ||| nI 1 <<< (nI i &&& 31) else ns
def frtM (iv : Nat → Nat → Int32) (mn : Nat → Nat) : Nat → Nat → Int32 → Int32
  | 0, _, ns => ns
  | k + 1, i, ns => frtM iv mn k (i + 1) (frt1 iv mn i ns)
def frtR (iv : Nat → Nat → Int32) (mn : Nat → Nat) : Int32 := itr (fun ns => frtM iv mn 8 0 ns) 9 (nI 0)
set_option maxRecDepth 100000 in
set_option maxHeartbeats 4000000 in
theorem lq_RF_fertile {p : Program} {e : Env} {s : State} {m : MethodId} {args : Array Value} {below : List Frame} {meth : Method} {c : Code} (l : Launch) (G : ex_G) (iv : Nat → Nat → Int32) (mp : Nat → Nat) (sp mo : Nat) (mn : Nat → Nat) (hn : ∀ i, i < 9 → iv 99 i = nI (mn i)) (hl : ∀ i, i < 9 → mn i ≤ 10) (v : Int32) (rd : Nat) (K : Int32 → Prop) (hK : ∀ (ns : Int32), K ns → EXM M_RF_fertile l G 3 (fun r h' => h' = HP iv mp sp mo ∧ r = some (.int v)) p e s m args below meth c 56 [some (.ref 92), some (.int ns), some (.int (nI rd)), some (.int (nI 8))] [] (HP iv mp sp mo)) : ∀ (k i : Nat) (ns : Int32), i + k = 8 → K (frtM iv mn k i ns) → EXM M_RF_fertile l G 3 (fun r h' => h' = HP iv mp sp mo ∧ r = some (.int v)) p e s m args below meth c 12 [some (.ref 92), some (.int ns), some (.int (nI rd)), some (.int (nI i))] [] (HP iv mp sp mo) := by
  intro k
  induction k with
  | zero =>
    intro i ns hik hv
    obtain rfl : i = 8 := by omega
    refine ex_iload_n (pc := 12) (i := 3) d_RF_fertile_12 rfl rfl ?_
    refine ex_bipush (pc := 13) (v := (nI 8)) d_RF_fertile_13 (by decide) ?_
    refine ex_icmp_ge (pc := 15) (tgt := 56) d_RF_fertile_15 rfl (fun c15 => ?_) (fun c15 => ?_)
    · exact hK ns hv
    · exact absurd ((n_ge (by omega) (by omega)).mpr (by omega)) c15
  | succ k ih =>
    intro i ns hik hv
    rw [frtM, frt1] at hv
    refine ex_iload_n (pc := 12) (i := 3) d_RF_fertile_12 rfl rfl ?_
    refine ex_bipush (pc := 13) (v := (nI 8)) d_RF_fertile_13 (by decide) ?_
    refine ex_icmp_ge (pc := 15) (tgt := 56) d_RF_fertile_15 rfl (fun c15 => ?_) (fun c15 => ?_)
    · exact absurd ((n_ge (by omega) (by omega)).mp c15) (by omega)
    · refine ex_aload_n (pc := 18) (i := 0) d_RF_fertile_18 rfl rfl ?_
      refine ex_getr (pc := 19) 12 2 d_RF_fertile_19 FL_RF_13 (Nat.le_of_ble_eq_true rfl) rfl rfl ?_
      refine ex_iload_n (pc := 22) (i := 3) d_RF_fertile_22 rfl rfl ?_
      refine ex_zaldx (pc := 23) i (iv 94 i) d_RF_fertile_23 (Nat.le_of_ble_eq_true rfl) rfl rfl rfl (nI_t (by omega)) (show i < 10 by omega) rfl ?_
      refine ex_if_eq (pc := 24) (tgt := 50) d_RF_fertile_24 rfl (fun c24 => ?_) (fun c24 => ?_)
      · refine ex_iinc (pc := 50) (v := (nI (i + 1))) d_RF_fertile_50 rfl (nI_1 i) (by decide) ?_
        refine ex_goto (pc := 53) (tgt := 12) d_RF_fertile_53 rfl ?_
        first | exact ih (i + 1) _ (by omega) (by rw [if_pos c24] at hv; exact hv) | exact ih (i + 1) _ (by omega) (by rw [if_neg c24, if_neg (by rw [b2i_0 c41]; decide)] at hv; exact hv) | exact ih (i + 1) _ (by omega) (by rw [if_neg c24, if_pos (b2i_1 c41)] at hv; exact hv)
      · refine ex_aload_n (pc := 27) (i := 0) d_RF_fertile_27 rfl rfl ?_
        refine ex_iload_n (pc := 28) (i := 3) d_RF_fertile_28 rfl rfl ?_
        refine ex_aload_n (pc := 29) (i := 0) d_RF_fertile_29 rfl rfl ?_
        refine ex_iload_n (pc := 30) (i := 3) d_RF_fertile_30 rfl rfl ?_
        refine ex_sipush (pc := 31) (v := (nI 1024)) d_RF_fertile_31 (by decide) ?_
        refine ex_iload_n (pc := 34) (i := 1) d_RF_fertile_34 rfl rfl ?_
        refine ex_callV (pc := 35) (M' := M_RF_steps) (as := [.int (nI i), .int (nI 1024), .int ns]) (st := [.int (nI i), .ref 92]) d_RF_fertile_35 MW_RF_steps MI_RF_steps LK_RF_172 (Nat.le_of_ble_eq_true rfl) rfl rfl rfl (ct_RF_steps l G iv mp sp mo i (mn i) (by omega) (hn i (by omega)) (hl i (by omega)) (nI 1024) ns) (ex_lt_rm (by decide)) ⟨Nat.le_refl _, Nat.le_refl _⟩ rfl rfl (Nat.le_of_ble_eq_true rfl) ?_
        rintro _ _ ⟨rfl, rfl⟩
        refine ex_callV (pc := 38) (M' := M_RF_accepts) (as := [.int (nI i), .int (stsR iv i (mn i) (nI 1024) ns)]) (st := []) d_RF_fertile_38 MW_RF_accepts MI_RF_accepts LK_RF_175 (Nat.le_of_ble_eq_true rfl) rfl rfl rfl (ct_RF_accepts l G iv mp sp mo i (by omega) (stsR iv i (mn i) (nI 1024) ns)) (ex_lt_rm (by decide)) ⟨Nat.le_refl _, Nat.le_refl _⟩ rfl rfl (Nat.le_of_ble_eq_true rfl) ?_
        rintro _ _ ⟨rfl, rfl⟩
        refine ex_if_eq (pc := 41) (tgt := 50) d_RF_fertile_41 rfl (fun c41 => ?_) (fun c41 => ?_)
        · refine ex_iinc (pc := 50) (v := (nI (i + 1))) d_RF_fertile_50 rfl (nI_1 i) (by decide) ?_
          refine ex_goto (pc := 53) (tgt := 12) d_RF_fertile_53 rfl ?_
          first | exact ih (i + 1) _ (by omega) (by rw [if_pos c24] at hv; exact hv) | exact ih (i + 1) _ (by omega) (by rw [if_neg c24, if_neg (by rw [b2i_0 c41]; decide)] at hv; exact hv) | exact ih (i + 1) _ (by omega) (by rw [if_neg c24, if_pos (b2i_1 c41)] at hv; exact hv)
        · refine ex_iload_n (pc := 44) (i := 1) d_RF_fertile_44 rfl rfl ?_
          refine ex_iconst (pc := 45) (v := (nI 1)) d_RF_fertile_45 (by decide) ?_
          refine ex_iload_n (pc := 46) (i := 3) d_RF_fertile_46 rfl rfl ?_
          refine ex_ishl (pc := 47) d_RF_fertile_47 ?_
          refine ex_ior (pc := 48) d_RF_fertile_48 ?_
          refine ex_istore_n (pc := 49) (i := 1) d_RF_fertile_49 rfl (by decide) ?_
          refine ex_iinc (pc := 50) (v := (nI (i + 1))) d_RF_fertile_50 rfl (nI_1 i) (by decide) ?_
          refine ex_goto (pc := 53) (tgt := 12) d_RF_fertile_53 rfl ?_
          first | exact ih (i + 1) _ (by omega) (by rw [if_pos c24] at hv; exact hv) | exact ih (i + 1) _ (by omega) (by rw [if_neg c24, if_neg (by rw [b2i_0 c41]; decide)] at hv; exact hv) | exact ih (i + 1) _ (by omega) (by rw [if_neg c24, if_pos (b2i_1 c41)] at hv; exact hv)

set_option maxRecDepth 100000 in
set_option maxHeartbeats 4000000 in
theorem lp_RF_fertile {p : Program} {e : Env} {s : State} {m : MethodId} {args : Array Value} {below : List Frame} {meth : Method} {c : Code} (l : Launch) (G : ex_G) (iv : Nat → Nat → Int32) (mp : Nat → Nat) (sp mo : Nat) (mn : Nat → Nat) (hn : ∀ i, i < 9 → iv 99 i = nI (mn i)) (hl : ∀ i, i < 9 → mn i ≤ 10) (v : Int32) : ∀ (k rd : Nat) (ns : Int32) (z : Option Value), rd + k = 9 → itr (fun ns => frtM iv mn 8 0 ns) k ns = v → EXM M_RF_fertile l G 3 (fun r h' => h' = HP iv mp sp mo ∧ r = some (.int v)) p e s m args below meth c 4 [some (.ref 92), some (.int ns), some (.int (nI rd)), z] [] (HP iv mp sp mo) := by
  intro k
  induction k with
  | zero =>
    intro rd ns z hik hv
    subst hv
    refine ex_iload_n (pc := 4) (i := 2) d_RF_fertile_4 rfl rfl ?_
    refine ex_bipush (pc := 5) (v := (nI 9)) d_RF_fertile_5 (by decide) ?_
    refine ex_icmp_ge (pc := 7) (tgt := 62) d_RF_fertile_7 rfl (fun c7 => ?_) (fun c7 => ?_)
    · refine ex_iload_n (pc := 62) (i := 1) d_RF_fertile_62 rfl rfl ?_
      refine ex_iret (ty := .int) d_RF_fertile_63 rfl rfl rfl (Nat.le_refl _) ?_
      exact ⟨rfl, rfl⟩
    · exact absurd ((n_ge (by omega) (by omega)).mpr (by omega)) c7
  | succ k ih =>
    intro rd ns z hik hv
    rw [itr] at hv
    refine ex_iload_n (pc := 4) (i := 2) d_RF_fertile_4 rfl rfl ?_
    refine ex_bipush (pc := 5) (v := (nI 9)) d_RF_fertile_5 (by decide) ?_
    refine ex_icmp_ge (pc := 7) (tgt := 62) d_RF_fertile_7 rfl (fun c7 => ?_) (fun c7 => ?_)
    · exact absurd ((n_ge (by omega) (by omega)).mp c7) (by omega)
    · refine ex_iconst (pc := 10) (v := (nI 0)) d_RF_fertile_10 (by decide) ?_
      refine ex_istore_n (pc := 11) (i := 3) d_RF_fertile_11 rfl (by decide) ?_
      refine lq_RF_fertile l G iv mp sp mo mn hn hl v rd (fun q => itr (fun ns => frtM iv mn 8 0 ns) k q = v) (fun q hq => ?_) 8 0 ns (by omega) hv
      refine ex_iinc (pc := 56) (v := (nI (rd + 1))) d_RF_fertile_56 rfl (nI_1 rd) (by decide) ?_
      refine ex_goto (pc := 59) (tgt := 4) d_RF_fertile_59 rfl ?_
      exact ih (rd + 1) _ _ (by omega) hq

set_option maxRecDepth 100000 in
set_option maxHeartbeats 4000000 in
theorem ct_RF_fertile (l : Launch) (G : ex_G) (iv : Nat → Nat → Int32) (mp : Nat → Nat) (sp mo : Nat) (mn : Nat → Nat) (hn : ∀ i, i < 9 → iv 99 i = nI (mn i)) (hl : ∀ i, i < 9 → mn i ≤ 10) : CT l G 3 M_RF_fertile [.ref 92] (HP iv mp sp mo) 0 0 (fun r h' => h' = HP iv mp sp mo ∧ r = some (.int (frtR iv mn))) := by
  refine ex_enter (by decide) (Nat.le_of_ble_eq_true rfl) (fun v hv => by simp at hv; rcases hv with rfl <;> rfl) (fun p e s m args below meth c => ?_)
  refine ex_iconst (pc := 0) (v := (nI 0)) d_RF_fertile_0 (by decide) ?_
  refine ex_istore_n (pc := 1) (i := 1) d_RF_fertile_1 rfl (by decide) ?_
  refine ex_iconst (pc := 2) (v := (nI 0)) d_RF_fertile_2 (by decide) ?_
  refine ex_istore_n (pc := 3) (i := 2) d_RF_fertile_3 rfl (by decide) ?_
  exact lp_RF_fertile l G iv mp sp mo mn hn hl _ 9 0 (nI 0) _ (by omega) rfl

