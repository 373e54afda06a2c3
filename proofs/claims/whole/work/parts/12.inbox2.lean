/-! taking out of the inbox, asking, cancelling, answers -/
/-- the rows of S moved down by one from place row to before place i -/
def shf (iv : Nat → Nat → Int32) (S : Nat → Bool) (row i : Nat) : Nat → Nat → Int32 := fun a j => if S a = true ∧ row ≤ j ∧ j < i then iv a (j + 1) else iv a j
theorem shf_0 {iv : Nat → Nat → Int32} {S : Nat → Bool} {row : Nat} : shf iv S row row = iv := by
  funext a j
  exact if_neg (fun q => by omega)
theorem shf_hi {iv : Nat → Nat → Int32} {S : Nat → Bool} {row i a j : Nat} (h : i ≤ j) : shf iv S row i a j = iv a j := if_neg (fun q => by omega)
theorem shf_1 {iv : Nat → Nat → Int32} {S : Nat → Bool} {row i : Nat} (h : row ≤ i) (a j : Nat) : shf iv S row (i + 1) a j = if S a = true ∧ j = i then iv a (i + 1) else shf iv S row i a j := by
  unfold shf
  by_cases hS : S a = true
  · by_cases hj : j = i
    · subst hj
      rw [if_pos ⟨hS, h, by omega⟩, if_pos ⟨hS, rfl⟩]
    · rw [if_neg (c := S a = true ∧ j = i) (fun q => hj q.2)]
      by_cases hr : row ≤ j ∧ j < i
      · rw [if_pos ⟨hS, hr.1, by omega⟩, if_pos ⟨hS, hr.1, hr.2⟩]
      · rw [if_neg (fun q => hr ⟨q.2.1, by omega⟩), if_neg (fun q => hr q.2)]
  · rw [if_neg (fun q => hS q.1), if_neg (fun q => hS q.1), if_neg (fun q => hS q.1)]
def S_in (a : Nat) : Bool := decide (85 ≤ a) && decide (a ≤ 88)
theorem shf_in {iv : Nat → Nat → Int32} {row i : Nat} (h : row ≤ i) : ex_u2 (ex_u2 (ex_u2 (ex_u2 (shf iv S_in row i) 85 i (iv 85 (i + 1))) 86 i (iv 86 (i + 1))) 87 i (iv 87 (i + 1))) 88 i (iv 88 (i + 1)) = shf iv S_in row (i + 1) := by
  funext a j
  rw [shf_1 h]
  unfold ex_u2
  by_cases hj : j = i
  · subst hj
    by_cases h88 : a = 88
    · subst h88
      rw [if_pos ⟨rfl, rfl⟩, if_pos ⟨by decide, rfl⟩]
    rw [if_neg (fun q => h88 q.1)]
    by_cases h87 : a = 87
    · subst h87
      rw [if_pos ⟨rfl, rfl⟩, if_pos ⟨by decide, rfl⟩]
    rw [if_neg (fun q => h87 q.1)]
    by_cases h86 : a = 86
    · subst h86
      rw [if_pos ⟨rfl, rfl⟩, if_pos ⟨by decide, rfl⟩]
    rw [if_neg (fun q => h86 q.1)]
    by_cases h85 : a = 85
    · subst h85
      rw [if_pos ⟨rfl, rfl⟩, if_pos ⟨by decide, rfl⟩]
    rw [if_neg (fun q => h85 q.1)]
    rw [if_neg (fun q => by have q1 := q.1; simp only [S_in, Bool.and_eq_true, decide_eq_true_eq] at q1; omega)]
  · simp [hj]
def S_rf (a : Nat) : Bool := decide (121 ≤ a) && decide (a ≤ 125)
theorem shf_rf {iv : Nat → Nat → Int32} {row i : Nat} (h : row ≤ i) : ex_u2 (ex_u2 (ex_u2 (ex_u2 (ex_u2 (shf iv S_rf row i) 121 i (iv 121 (i + 1))) 122 i (iv 122 (i + 1))) 123 i (iv 123 (i + 1))) 124 i (iv 124 (i + 1))) 125 i (iv 125 (i + 1)) = shf iv S_rf row (i + 1) := by
  funext a j
  rw [shf_1 h]
  unfold ex_u2
  by_cases hj : j = i
  · subst hj
    by_cases h125 : a = 125
    · subst h125
      rw [if_pos ⟨rfl, rfl⟩, if_pos ⟨by decide, rfl⟩]
    rw [if_neg (fun q => h125 q.1)]
    by_cases h124 : a = 124
    · subst h124
      rw [if_pos ⟨rfl, rfl⟩, if_pos ⟨by decide, rfl⟩]
    rw [if_neg (fun q => h124 q.1)]
    by_cases h123 : a = 123
    · subst h123
      rw [if_pos ⟨rfl, rfl⟩, if_pos ⟨by decide, rfl⟩]
    rw [if_neg (fun q => h123 q.1)]
    by_cases h122 : a = 122
    · subst h122
      rw [if_pos ⟨rfl, rfl⟩, if_pos ⟨by decide, rfl⟩]
    rw [if_neg (fun q => h122 q.1)]
    by_cases h121 : a = 121
    · subst h121
      rw [if_pos ⟨rfl, rfl⟩, if_pos ⟨by decide, rfl⟩]
    rw [if_neg (fun q => h121 q.1)]
    rw [if_neg (fun q => by have q1 := q.1; simp only [S_rf, Bool.and_eq_true, decide_eq_true_eq] at q1; omega)]
  · simp [hj]
def inOut (iv : Nat → Nat → Int32) (n row : Nat) : Nat → Nat → Int32 := shf (ex_u2 iv 84 4 (nI (n - 1))) S_in row (n - 1)
def rfOut (iv : Nat → Nat → Int32) (n row : Nat) : Nat → Nat → Int32 := shf (ex_u2 iv 92 32 (nI (n - 1))) S_rf row (n - 1)
theorem nI_p {n : Nat} (h : 1 ≤ n) : nI n - nI 1 = nI (n - 1) := pk_sub h
set_option maxRecDepth 100000 in
set_option maxHeartbeats 4000000 in
theorem lp_In_takeOut {p : Program} {e : Env} {s : State} {m : MethodId} {args : Array Value} {below : List Frame} {meth : Method} {c : Code} (l : Launch) (G : ex_G) (iv : Nat → Nat → Int32) (mp : Nat → Nat) (sp mo : Nat) (x : Int32) (row n : Nat) (hn : iv 84 4 = nI n) (hl : n ≤ 11) : ∀ (k i : Nat), i + k = n → row ≤ i → EXM M_In_takeOut l G 0 (fun r h' => h' = HP (shf iv S_in row n) mp sp mo ∧ r = some (.int (nI 1))) p e s m args below meth c 26 [some (.ref 84), some (.int x), some (.int (nI i))] [] (HP (shf iv S_in row i) mp sp mo) := by
  intro k
  induction k with
  | zero =>
    intro i hik hr
    have hin : i = n := by omega
    refine ex_iload_n (pc := 26) (i := 2) d_In_takeOut_26 rfl rfl ?_
    refine ex_aload_n (pc := 27) (i := 0) d_In_takeOut_27 rfl rfl ?_
    refine ex_getx (pc := 28) 6 4 (nI n) d_In_takeOut_28 FL_In_24 (Nat.le_of_ble_eq_true rfl) rfl hn ?_
    refine ex_icmp_ge (pc := 31) (tgt := 96) d_In_takeOut_31 rfl (fun c31 => ?_) (fun c31 => ?_)
    · refine ex_iconst (pc := 96) (v := (nI 1)) d_In_takeOut_96 (by decide) ?_
      refine ex_iret (ty := .boolean) d_In_takeOut_97 rfl rfl rfl (Nat.le_refl _) ?_
      exact ⟨by rw [hin], rfl⟩
    · exact absurd ((n_ge (by omega) (by omega)).mpr (by omega)) c31
  | succ k ih =>
    intro i hik hr
    have hi1 : (nI i + nI 1).toInt = ((i + 1 : Nat) : Int) := by rw [nI_s]; exact nI_t (by omega)
    refine ex_iload_n (pc := 26) (i := 2) d_In_takeOut_26 rfl rfl ?_
    refine ex_aload_n (pc := 27) (i := 0) d_In_takeOut_27 rfl rfl ?_
    refine ex_getx (pc := 28) 6 4 (nI n) d_In_takeOut_28 FL_In_24 (Nat.le_of_ble_eq_true rfl) rfl hn ?_
    refine ex_icmp_ge (pc := 31) (tgt := 96) d_In_takeOut_31 rfl (fun c31 => ?_) (fun c31 => ?_)
    · exact absurd ((n_ge (by omega) (by omega)).mp c31) (by omega)
    · refine ex_aload_n (pc := 34) (i := 0) d_In_takeOut_34 rfl rfl ?_
      refine ex_getr (pc := 35) 6 0 d_In_takeOut_35 FL_In_9 (Nat.le_of_ble_eq_true rfl) rfl rfl ?_
      refine ex_iload_n (pc := 38) (i := 2) d_In_takeOut_38 rfl rfl ?_
      refine ex_aload_n (pc := 39) (i := 0) d_In_takeOut_39 rfl rfl ?_
      refine ex_getr (pc := 40) 6 0 d_In_takeOut_40 FL_In_9 (Nat.le_of_ble_eq_true rfl) rfl rfl ?_
      refine ex_iload_n (pc := 43) (i := 2) d_In_takeOut_43 rfl rfl ?_
      refine ex_iconst (pc := 44) (v := (nI 1)) d_In_takeOut_44 (by decide) ?_
      refine ex_iadd (pc := 45) d_In_takeOut_45 ?_
      refine ex_ialdx (pc := 46) (i + 1) (iv 85 (i + 1)) d_In_takeOut_46 (Nat.le_of_ble_eq_true rfl) rfl rfl rfl hi1 (show i + 1 < 12 by omega) (shf_hi (by omega)) ?_
      refine ex_iast (pc := 47) i d_In_takeOut_47 (Nat.le_of_ble_eq_true rfl) rfl rfl rfl (nI_t (by omega)) (show i < 12 by omega) ?_
      refine ex_aload_n (pc := 48) (i := 0) d_In_takeOut_48 rfl rfl ?_
      refine ex_getr (pc := 49) 6 1 d_In_takeOut_49 FL_In_15 (Nat.le_of_ble_eq_true rfl) rfl rfl ?_
      refine ex_iload_n (pc := 52) (i := 2) d_In_takeOut_52 rfl rfl ?_
      refine ex_aload_n (pc := 53) (i := 0) d_In_takeOut_53 rfl rfl ?_
      refine ex_getr (pc := 54) 6 1 d_In_takeOut_54 FL_In_15 (Nat.le_of_ble_eq_true rfl) rfl rfl ?_
      refine ex_iload_n (pc := 57) (i := 2) d_In_takeOut_57 rfl rfl ?_
      refine ex_iconst (pc := 58) (v := (nI 1)) d_In_takeOut_58 (by decide) ?_
      refine ex_iadd (pc := 59) d_In_takeOut_59 ?_
      refine ex_ialdx (pc := 60) (i + 1) (iv 86 (i + 1)) d_In_takeOut_60 (Nat.le_of_ble_eq_true rfl) rfl rfl rfl hi1 (show i + 1 < 12 by omega) (shf_hi (by omega)) ?_
      refine ex_iast (pc := 61) i d_In_takeOut_61 (Nat.le_of_ble_eq_true rfl) rfl rfl rfl (nI_t (by omega)) (show i < 12 by omega) ?_
      refine ex_aload_n (pc := 62) (i := 0) d_In_takeOut_62 rfl rfl ?_
      refine ex_getr (pc := 63) 6 2 d_In_takeOut_63 FL_In_18 (Nat.le_of_ble_eq_true rfl) rfl rfl ?_
      refine ex_iload_n (pc := 66) (i := 2) d_In_takeOut_66 rfl rfl ?_
      refine ex_aload_n (pc := 67) (i := 0) d_In_takeOut_67 rfl rfl ?_
      refine ex_getr (pc := 68) 6 2 d_In_takeOut_68 FL_In_18 (Nat.le_of_ble_eq_true rfl) rfl rfl ?_
      refine ex_iload_n (pc := 71) (i := 2) d_In_takeOut_71 rfl rfl ?_
      refine ex_iconst (pc := 72) (v := (nI 1)) d_In_takeOut_72 (by decide) ?_
      refine ex_iadd (pc := 73) d_In_takeOut_73 ?_
      refine ex_ialdx (pc := 74) (i + 1) (iv 87 (i + 1)) d_In_takeOut_74 (Nat.le_of_ble_eq_true rfl) rfl rfl rfl hi1 (show i + 1 < 12 by omega) (shf_hi (by omega)) ?_
      refine ex_iast (pc := 75) i d_In_takeOut_75 (Nat.le_of_ble_eq_true rfl) rfl rfl rfl (nI_t (by omega)) (show i < 12 by omega) ?_
      refine ex_aload_n (pc := 76) (i := 0) d_In_takeOut_76 rfl rfl ?_
      refine ex_getr (pc := 77) 6 3 d_In_takeOut_77 FL_In_21 (Nat.le_of_ble_eq_true rfl) rfl rfl ?_
      refine ex_iload_n (pc := 80) (i := 2) d_In_takeOut_80 rfl rfl ?_
      refine ex_aload_n (pc := 81) (i := 0) d_In_takeOut_81 rfl rfl ?_
      refine ex_getr (pc := 82) 6 3 d_In_takeOut_82 FL_In_21 (Nat.le_of_ble_eq_true rfl) rfl rfl ?_
      refine ex_iload_n (pc := 85) (i := 2) d_In_takeOut_85 rfl rfl ?_
      refine ex_iconst (pc := 86) (v := (nI 1)) d_In_takeOut_86 (by decide) ?_
      refine ex_iadd (pc := 87) d_In_takeOut_87 ?_
      refine ex_ialdx (pc := 88) (i + 1) (iv 88 (i + 1)) d_In_takeOut_88 (Nat.le_of_ble_eq_true rfl) rfl rfl rfl hi1 (show i + 1 < 12 by omega) (shf_hi (by omega)) ?_
      refine ex_iast (pc := 89) i d_In_takeOut_89 (Nat.le_of_ble_eq_true rfl) rfl rfl rfl (nI_t (by omega)) (show i < 12 by omega) ?_
      refine ex_heap (h' := HP (shf iv S_in row (i + 1)) mp sp mo) ?_ ?_
      · rw [← shf_in hr]
        rfl
      refine ex_iinc (pc := 90) (v := (nI (i + 1))) d_In_takeOut_90 rfl (nI_1 i) (by decide) ?_
      refine ex_goto (pc := 93) (tgt := 26) d_In_takeOut_93 rfl ?_
      exact ih (i + 1) (by omega) (by omega)

set_option maxRecDepth 100000 in
set_option maxHeartbeats 4000000 in
theorem ct_In_takeOut (l : Launch) (G : ex_G) (iv : Nat → Nat → Int32) (mp : Nat → Nat) (sp mo : Nat) (x : Int32) (n : Nat) (hn : iv 84 4 = nI n) (hl : n ≤ 12) : CT l G 0 M_In_takeOut [.ref 84, .int x] (HP iv mp sp mo) 0 0 (fun r h' => h' = (if 0 ≤ x.toInt ∧ x.toInt < n then HP (inOut iv n x.toInt.toNat) mp sp mo else HP iv mp sp mo) ∧ r = some (.int (b2i (decide (0 ≤ x.toInt ∧ x.toInt < n))))) := by
  refine ex_enter (by decide) (Nat.le_of_ble_eq_true rfl) (fun v hv => by simp at hv; rcases hv with rfl | rfl <;> rfl) (fun p e s m args below meth c => ?_)
  refine ex_iload_n (pc := 0) (i := 1) d_In_takeOut_0 rfl rfl ?_
  refine ex_if_lt (pc := 1) (tgt := 12) d_In_takeOut_1 rfl (fun c1 => ?_) (fun c1 => ?_)
  · refine ex_iconst (pc := 12) (v := (nI 0)) d_In_takeOut_12 (by decide) ?_
    refine ex_iret (ty := .boolean) d_In_takeOut_13 rfl rfl rfl (Nat.le_refl _) ?_
    have hx : ¬ (0 ≤ x.toInt ∧ x.toInt < n) := fun q => by have q1 := i_lt.mp c1; rw [i_0] at q1; omega
    rw [if_neg hx, decide_eq_false hx]
    exact ⟨rfl, rfl⟩
  · refine ex_iload_n (pc := 4) (i := 1) d_In_takeOut_4 rfl rfl ?_
    refine ex_aload_n (pc := 5) (i := 0) d_In_takeOut_5 rfl rfl ?_
    refine ex_getx (pc := 6) 6 4 (nI n) d_In_takeOut_6 FL_In_24 (Nat.le_of_ble_eq_true rfl) rfl hn ?_
    refine ex_icmp_lt (pc := 9) (tgt := 14) d_In_takeOut_9 rfl (fun c9 => ?_) (fun c9 => ?_)
    · have hx : 0 ≤ x.toInt ∧ x.toInt < n := by
        have q1 := i_nlt c1
        have q2 := i_lt.mp c9
        rw [i_0] at q1
        rw [nI_t (by omega)] at q2
        exact ⟨q1, q2⟩
      refine ex_aload_n (pc := 14) (i := 0) d_In_takeOut_14 rfl rfl ?_
      refine ex_dup (pc := 15) d_In_takeOut_15 rfl ?_
      refine ex_getx (pc := 16) 6 4 (nI n) d_In_takeOut_16 FL_In_24 (Nat.le_of_ble_eq_true rfl) rfl hn ?_
      refine ex_iconst (pc := 19) (v := (nI 1)) d_In_takeOut_19 (by decide) ?_
      refine ex_isub (pc := 20) d_In_takeOut_20 ?_
      refine ex_puti (pc := 21) 6 4 .int d_In_takeOut_21 (PF_In_24 _) (Nat.le_of_ble_eq_true rfl) rfl rfl rfl ?_
      refine ex_iload_n (pc := 24) (i := 1) d_In_takeOut_24 rfl rfl ?_
      refine ex_istore_n (pc := 25) (i := 2) d_In_takeOut_25 rfl (by decide) ?_
      rw [if_pos hx, decide_eq_true hx]
      obtain ⟨row, hrn, rfl⟩ : ∃ row, row < n ∧ x = nI row := ⟨x.toInt.toNat, by omega, i_of x hx.1⟩
      refine ex_heap (h' := HP (shf (ex_u2 iv 84 4 (nI (n - 1))) S_in row row) mp sp mo) ?_ ?_
      · rw [shf_0, nI_p (by omega)]
        rfl
      have hrow : (nI row).toInt.toNat = row := by
        rw [nI_t (by omega)]
        omega
      rw [hrow]
      exact lp_In_takeOut l G (ex_u2 iv 84 4 (nI (n - 1))) mp sp mo _ row (n - 1) rfl (by omega) (n - 1 - row) row (by omega) (Nat.le_refl _)
    · refine ex_iconst (pc := 12) (v := (nI 0)) d_In_takeOut_12 (by decide) ?_
      refine ex_iret (ty := .boolean) d_In_takeOut_13 rfl rfl rfl (Nat.le_refl _) ?_
      have hx : ¬ (0 ≤ x.toInt ∧ x.toInt < n) := fun q => by have q1 := i_nlt c9; rw [nI_t (by omega)] at q1; omega
      rw [if_neg hx, decide_eq_false hx]
      exact ⟨rfl, rfl⟩

set_option maxRecDepth 100000 in
set_option maxHeartbeats 4000000 in
theorem lp_RF_strike {p : Program} {e : Env} {s : State} {m : MethodId} {args : Array Value} {below : List Frame} {meth : Method} {c : Code} (l : Launch) (G : ex_G) (iv : Nat → Nat → Int32) (mp : Nat → Nat) (sp mo : Nat) (x : Int32) (row n : Nat) (hn : iv 92 32 = nI n) (hl : n ≤ 11) : ∀ (k i : Nat), i + k = n → row ≤ i → EXM M_RF_strike l G 0 (fun r h' => h' = HP (shf iv S_rf row n) mp sp mo ∧ r = none) p e s m args below meth c 12 [some (.ref 92), some (.int x), some (.int (nI i))] [] (HP (shf iv S_rf row i) mp sp mo) := by
  intro k
  induction k with
  | zero =>
    intro i hik hr
    have hin : i = n := by omega
    refine ex_iload_n (pc := 12) (i := 2) d_RF_strike_12 rfl rfl ?_
    refine ex_aload_n (pc := 13) (i := 0) d_RF_strike_13 rfl rfl ?_
    refine ex_getx (pc := 14) 12 32 (nI n) d_RF_strike_14 FL_RF_261 (Nat.le_of_ble_eq_true rfl) rfl hn ?_
    refine ex_icmp_ge (pc := 17) (tgt := 96) d_RF_strike_17 rfl (fun c17 => ?_) (fun c17 => ?_)
    · refine ex_vret d_RF_strike_96 rfl rfl (Nat.le_refl _) ?_
      exact ⟨by rw [hin], rfl⟩
    · exact absurd ((n_ge (by omega) (by omega)).mpr (by omega)) c17
  | succ k ih =>
    intro i hik hr
    have hi1 : (nI i + nI 1).toInt = ((i + 1 : Nat) : Int) := by rw [nI_s]; exact nI_t (by omega)
    refine ex_iload_n (pc := 12) (i := 2) d_RF_strike_12 rfl rfl ?_
    refine ex_aload_n (pc := 13) (i := 0) d_RF_strike_13 rfl rfl ?_
    refine ex_getx (pc := 14) 12 32 (nI n) d_RF_strike_14 FL_RF_261 (Nat.le_of_ble_eq_true rfl) rfl hn ?_
    refine ex_icmp_ge (pc := 17) (tgt := 96) d_RF_strike_17 rfl (fun c17 => ?_) (fun c17 => ?_)
    · exact absurd ((n_ge (by omega) (by omega)).mp c17) (by omega)
    · refine ex_aload_n (pc := 20) (i := 0) d_RF_strike_20 rfl rfl ?_
      refine ex_getr (pc := 21) 12 33 d_RF_strike_21 FL_RF_95 (Nat.le_of_ble_eq_true rfl) rfl rfl ?_
      refine ex_iload_n (pc := 24) (i := 2) d_RF_strike_24 rfl rfl ?_
      refine ex_aload_n (pc := 25) (i := 0) d_RF_strike_25 rfl rfl ?_
      refine ex_getr (pc := 26) 12 33 d_RF_strike_26 FL_RF_95 (Nat.le_of_ble_eq_true rfl) rfl rfl ?_
      refine ex_iload_n (pc := 29) (i := 2) d_RF_strike_29 rfl rfl ?_
      refine ex_iconst (pc := 30) (v := (nI 1)) d_RF_strike_30 (by decide) ?_
      refine ex_iadd (pc := 31) d_RF_strike_31 ?_
      refine ex_ialdx (pc := 32) (i + 1) (iv 121 (i + 1)) d_RF_strike_32 (Nat.le_of_ble_eq_true rfl) rfl rfl rfl hi1 (show i + 1 < 13 by omega) (shf_hi (by omega)) ?_
      refine ex_iast (pc := 33) i d_RF_strike_33 (Nat.le_of_ble_eq_true rfl) rfl rfl rfl (nI_t (by omega)) (show i < 13 by omega) ?_
      refine ex_aload_n (pc := 34) (i := 0) d_RF_strike_34 rfl rfl ?_
      refine ex_getr (pc := 35) 12 34 d_RF_strike_35 FL_RF_98 (Nat.le_of_ble_eq_true rfl) rfl rfl ?_
      refine ex_iload_n (pc := 38) (i := 2) d_RF_strike_38 rfl rfl ?_
      refine ex_aload_n (pc := 39) (i := 0) d_RF_strike_39 rfl rfl ?_
      refine ex_getr (pc := 40) 12 34 d_RF_strike_40 FL_RF_98 (Nat.le_of_ble_eq_true rfl) rfl rfl ?_
      refine ex_iload_n (pc := 43) (i := 2) d_RF_strike_43 rfl rfl ?_
      refine ex_iconst (pc := 44) (v := (nI 1)) d_RF_strike_44 (by decide) ?_
      refine ex_iadd (pc := 45) d_RF_strike_45 ?_
      refine ex_ialdx (pc := 46) (i + 1) (iv 122 (i + 1)) d_RF_strike_46 (Nat.le_of_ble_eq_true rfl) rfl rfl rfl hi1 (show i + 1 < 13 by omega) (shf_hi (by omega)) ?_
      refine ex_iast (pc := 47) i d_RF_strike_47 (Nat.le_of_ble_eq_true rfl) rfl rfl rfl (nI_t (by omega)) (show i < 13 by omega) ?_
      refine ex_aload_n (pc := 48) (i := 0) d_RF_strike_48 rfl rfl ?_
      refine ex_getr (pc := 49) 12 35 d_RF_strike_49 FL_RF_101 (Nat.le_of_ble_eq_true rfl) rfl rfl ?_
      refine ex_iload_n (pc := 52) (i := 2) d_RF_strike_52 rfl rfl ?_
      refine ex_aload_n (pc := 53) (i := 0) d_RF_strike_53 rfl rfl ?_
      refine ex_getr (pc := 54) 12 35 d_RF_strike_54 FL_RF_101 (Nat.le_of_ble_eq_true rfl) rfl rfl ?_
      refine ex_iload_n (pc := 57) (i := 2) d_RF_strike_57 rfl rfl ?_
      refine ex_iconst (pc := 58) (v := (nI 1)) d_RF_strike_58 (by decide) ?_
      refine ex_iadd (pc := 59) d_RF_strike_59 ?_
      refine ex_ialdx (pc := 60) (i + 1) (iv 123 (i + 1)) d_RF_strike_60 (Nat.le_of_ble_eq_true rfl) rfl rfl rfl hi1 (show i + 1 < 13 by omega) (shf_hi (by omega)) ?_
      refine ex_iast (pc := 61) i d_RF_strike_61 (Nat.le_of_ble_eq_true rfl) rfl rfl rfl (nI_t (by omega)) (show i < 13 by omega) ?_
      refine ex_aload_n (pc := 62) (i := 0) d_RF_strike_62 rfl rfl ?_
      refine ex_getr (pc := 63) 12 36 d_RF_strike_63 FL_RF_104 (Nat.le_of_ble_eq_true rfl) rfl rfl ?_
      refine ex_iload_n (pc := 66) (i := 2) d_RF_strike_66 rfl rfl ?_
      refine ex_aload_n (pc := 67) (i := 0) d_RF_strike_67 rfl rfl ?_
      refine ex_getr (pc := 68) 12 36 d_RF_strike_68 FL_RF_104 (Nat.le_of_ble_eq_true rfl) rfl rfl ?_
      refine ex_iload_n (pc := 71) (i := 2) d_RF_strike_71 rfl rfl ?_
      refine ex_iconst (pc := 72) (v := (nI 1)) d_RF_strike_72 (by decide) ?_
      refine ex_iadd (pc := 73) d_RF_strike_73 ?_
      refine ex_ialdx (pc := 74) (i + 1) (iv 124 (i + 1)) d_RF_strike_74 (Nat.le_of_ble_eq_true rfl) rfl rfl rfl hi1 (show i + 1 < 13 by omega) (shf_hi (by omega)) ?_
      refine ex_iast (pc := 75) i d_RF_strike_75 (Nat.le_of_ble_eq_true rfl) rfl rfl rfl (nI_t (by omega)) (show i < 13 by omega) ?_
      refine ex_aload_n (pc := 76) (i := 0) d_RF_strike_76 rfl rfl ?_
      refine ex_getr (pc := 77) 12 37 d_RF_strike_77 FL_RF_107 (Nat.le_of_ble_eq_true rfl) rfl rfl ?_
      refine ex_iload_n (pc := 80) (i := 2) d_RF_strike_80 rfl rfl ?_
      refine ex_aload_n (pc := 81) (i := 0) d_RF_strike_81 rfl rfl ?_
      refine ex_getr (pc := 82) 12 37 d_RF_strike_82 FL_RF_107 (Nat.le_of_ble_eq_true rfl) rfl rfl ?_
      refine ex_iload_n (pc := 85) (i := 2) d_RF_strike_85 rfl rfl ?_
      refine ex_iconst (pc := 86) (v := (nI 1)) d_RF_strike_86 (by decide) ?_
      refine ex_iadd (pc := 87) d_RF_strike_87 ?_
      refine ex_ialdx (pc := 88) (i + 1) (iv 125 (i + 1)) d_RF_strike_88 (Nat.le_of_ble_eq_true rfl) rfl rfl rfl hi1 (show i + 1 < 13 by omega) (shf_hi (by omega)) ?_
      refine ex_iast (pc := 89) i d_RF_strike_89 (Nat.le_of_ble_eq_true rfl) rfl rfl rfl (nI_t (by omega)) (show i < 13 by omega) ?_
      refine ex_heap (h' := HP (shf iv S_rf row (i + 1)) mp sp mo) ?_ ?_
      · rw [← shf_rf hr]
        rfl
      refine ex_iinc (pc := 90) (v := (nI (i + 1))) d_RF_strike_90 rfl (nI_1 i) (by decide) ?_
      refine ex_goto (pc := 93) (tgt := 12) d_RF_strike_93 rfl ?_
      exact ih (i + 1) (by omega) (by omega)

set_option maxRecDepth 100000 in
set_option maxHeartbeats 4000000 in
theorem ct_RF_strike (l : Launch) (G : ex_G) (iv : Nat → Nat → Int32) (mp : Nat → Nat) (sp mo : Nat) (row n : Nat) (hn : iv 92 32 = nI n) (hl : n ≤ 12) (hr : row < n) : CT l G 0 M_RF_strike [.ref 92, .int (nI row)] (HP iv mp sp mo) 0 0 (fun r h' => h' = HP (rfOut iv n row) mp sp mo ∧ r = none) := by
  refine ex_enter (by decide) (Nat.le_of_ble_eq_true rfl) (fun v hv => by simp at hv; rcases hv with rfl | rfl <;> rfl) (fun p e s m args below meth c => ?_)
  refine ex_aload_n (pc := 0) (i := 0) d_RF_strike_0 rfl rfl ?_
  refine ex_dup (pc := 1) d_RF_strike_1 rfl ?_
  refine ex_getx (pc := 2) 12 32 (nI n) d_RF_strike_2 FL_RF_261 (Nat.le_of_ble_eq_true rfl) rfl hn ?_
  refine ex_iconst (pc := 5) (v := (nI 1)) d_RF_strike_5 (by decide) ?_
  refine ex_isub (pc := 6) d_RF_strike_6 ?_
  refine ex_puti (pc := 7) 12 32 .int d_RF_strike_7 (PF_RF_261 _) (Nat.le_of_ble_eq_true rfl) rfl rfl rfl ?_
  refine ex_iload_n (pc := 10) (i := 1) d_RF_strike_10 rfl rfl ?_
  refine ex_istore_n (pc := 11) (i := 2) d_RF_strike_11 rfl (by decide) ?_
  refine ex_heap (h' := HP (shf (ex_u2 iv 92 32 (nI (n - 1))) S_rf row row) mp sp mo) ?_ ?_
  · rw [shf_0, nI_p (by omega)]
    rfl
  exact lp_RF_strike l G (ex_u2 iv 92 32 (nI (n - 1))) mp sp mo _ row (n - 1) rfl (by omega) (n - 1 - row) row (by omega) (Nat.le_refl _)

def cfind (iv : Nat → Nat → Int32) (n : Nat) (x : Int32) : Int32 := if x.toInt < 1 then -1 else fndI (fun j => decide (iv 86 j = x)) n 0
def rfind (iv : Nat → Nat → Int32) (n : Nat) (x : Int32) : Int32 := fndI (fun j => decide (iv 121 j = nI 2) && decide (iv 124 j = x)) n 0
theorem fndI_r (P : Nat → Bool) : ∀ k i, i + k ≤ 1000000 → fndI P k i = -1 ∨ ∃ j, i ≤ j ∧ j < i + k ∧ P j = true ∧ fndI P k i = nI j := by
  intro k
  induction k with
  | zero => exact fun _ _ => Or.inl rfl
  | succ k ih =>
    intro i hi
    by_cases hP : P i = true
    · exact Or.inr ⟨i, Nat.le_refl _, by omega, hP, if_pos hP⟩
    · rcases ih (i + 1) (by omega) with h | ⟨j, h1, h2, h3, h4⟩
      · exact Or.inl ((if_neg hP).trans h)
      · exact Or.inr ⟨j, by omega, by omega, h3, (if_neg hP).trans h4⟩
set_option maxRecDepth 100000 in
set_option maxHeartbeats 4000000 in
theorem ct_TG_cancel (l : Launch) (G : ex_G) (iv : Nat → Nat → Int32) (mp : Nat → Nat) (sp mo : Nat) (x : Int32) (n : Nat) (hn : iv 84 4 = nI n) (hl : n ≤ 12) : CT l G 1 M_TG_cancel [.ref 0, .int x] (HP iv mp sp mo) 0 0 (fun r h' => h' = (if 0 ≤ (cfind iv n x).toInt ∧ (cfind iv n x).toInt < n then HP (inOut iv n (cfind iv n x).toInt.toNat) mp sp mo else HP iv mp sp mo) ∧ r = some (.int (b2i (decide (0 ≤ (cfind iv n x).toInt ∧ (cfind iv n x).toInt < n))))) := by
  refine ex_enter (by decide) (Nat.le_of_ble_eq_true rfl) (fun v hv => by simp at hv; rcases hv with rfl | rfl <;> rfl) (fun p e s m args below meth c => ?_)
  refine ex_aload_n (pc := 0) (i := 0) d_TG_cancel_0 rfl rfl ?_
  refine ex_getr (pc := 1) 0 7 d_TG_cancel_1 FL_TG_67 (Nat.le_of_ble_eq_true rfl) rfl rfl ?_
  refine ex_aload_n (pc := 4) (i := 0) d_TG_cancel_4 rfl rfl ?_
  refine ex_getr (pc := 5) 0 7 d_TG_cancel_5 FL_TG_67 (Nat.le_of_ble_eq_true rfl) rfl rfl ?_
  refine ex_iload_n (pc := 8) (i := 1) d_TG_cancel_8 rfl rfl ?_
  refine ex_callV (pc := 9) (M' := M_In_find) (as := [.int x]) (st := [.ref 84]) d_TG_cancel_9 MW_In_find MI_In_find LK_TG_120 (Nat.le_of_ble_eq_true rfl) rfl rfl rfl (ct_In_find l G iv mp sp mo x n hn hl) (ex_lt_rm (by decide)) ⟨Nat.le_refl _, Nat.le_refl _⟩ rfl rfl (Nat.le_of_ble_eq_true rfl) ?_
  rintro _ _ ⟨rfl, rfl⟩
  refine ex_callV (pc := 12) (M' := M_In_takeOut) (as := [.int (cfind iv n x)]) (st := []) d_TG_cancel_12 MW_In_takeOut MI_In_takeOut LK_TG_124 (Nat.le_of_ble_eq_true rfl) rfl rfl rfl (ct_In_takeOut l G iv mp sp mo (cfind iv n x) n hn hl) (ex_lt_rm (by decide)) ⟨Nat.le_refl _, Nat.le_refl _⟩ rfl rfl (Nat.le_of_ble_eq_true rfl) ?_
  rintro _ _ ⟨rfl, rfl⟩
  refine ex_iret (ty := .boolean) d_TG_cancel_15 rfl (b2i_n _) rfl (Nat.le_refl _) ?_
  exact ⟨rfl, rfl⟩

set_option maxRecDepth 100000 in
set_option maxHeartbeats 4000000 in
theorem ct_RF_cancel (l : Launch) (G : ex_G) (iv : Nat → Nat → Int32) (mp : Nat → Nat) (sp mo : Nat) (x : Int32) (n : Nat) (hn : iv 92 32 = nI n) (hl : n ≤ 12) : CT l G 1 M_RF_cancel [.ref 92, .int x] (HP iv mp sp mo) 0 0 (fun r h' => h' = (if 0 ≤ (rfind iv n x).toInt then HP (rfOut iv n (rfind iv n x).toInt.toNat) mp sp mo else HP iv mp sp mo) ∧ r = some (.int (b2i (decide (0 ≤ (rfind iv n x).toInt))))) := by
  refine ex_enter (by decide) (Nat.le_of_ble_eq_true rfl) (fun v hv => by simp at hv; rcases hv with rfl | rfl <;> rfl) (fun p e s m args below meth c => ?_)
  refine ex_aload_n (pc := 0) (i := 0) d_RF_cancel_0 rfl rfl ?_
  refine ex_iload_n (pc := 1) (i := 1) d_RF_cancel_1 rfl rfl ?_
  refine ex_callV (pc := 2) (M' := M_RF_waitsAt) (as := [.int x]) (st := []) d_RF_cancel_2 MW_RF_waitsAt MI_RF_waitsAt LK_RF_271 (Nat.le_of_ble_eq_true rfl) rfl rfl rfl (ct_RF_waitsAt l G iv mp sp mo x n hn hl) (ex_lt_rm (by decide)) ⟨Nat.le_refl _, Nat.le_refl _⟩ rfl rfl (Nat.le_of_ble_eq_true rfl) ?_
  rintro _ _ ⟨rfl, rfl⟩
  change EX _ _ _ _ _ _ _ _ _ _ _ _ _ _ _ _ _ [.int (rfind iv n x)] _
  refine ex_istore_n (pc := 5) (i := 2) d_RF_cancel_5 rfl (by decide) ?_
  refine ex_iload_n (pc := 6) (i := 2) d_RF_cancel_6 rfl rfl ?_
  refine ex_if_ge (pc := 7) (tgt := 12) d_RF_cancel_7 rfl (fun c7 => ?_) (fun c7 => ?_)
  · obtain ⟨j, hj1, hj2⟩ : ∃ j, j < n ∧ rfind iv n x = nI j := by
      rcases fndI_r (fun j => decide (iv 121 j = nI 2) && decide (iv 124 j = x)) n 0 (by omega) with q | ⟨j, q1, q2, q3, q4⟩
      · have q1 := i_le.mp c7
        rw [show rfind iv n x = -1 from q, i_0, i_m1] at q1
        omega
      · exact ⟨j, by omega, q4⟩
    have hjt : (nI j).toInt = (j : Int) := nI_t (by omega)
    rw [hj2, hjt, if_pos (by omega), decide_eq_true (by omega), show ((j : Int)).toNat = j from by omega]
    refine ex_aload_n (pc := 12) (i := 0) d_RF_cancel_12 rfl rfl ?_
    refine ex_iload_n (pc := 13) (i := 2) d_RF_cancel_13 rfl rfl ?_
    refine ex_callV (pc := 14) (M' := M_RF_strike) (as := [.int (nI j)]) (st := []) d_RF_cancel_14 MW_RF_strike MI_RF_strike LK_RF_274 (Nat.le_of_ble_eq_true rfl) rfl rfl rfl (ct_RF_strike l G iv mp sp mo j n hn hl (by omega)) (ex_lt_rm (by decide)) ⟨Nat.le_refl _, Nat.le_refl _⟩ rfl rfl (Nat.le_of_ble_eq_true rfl) ?_
    rintro _ _ ⟨rfl, rfl⟩
    refine ex_iconst (pc := 17) (v := (nI 1)) d_RF_cancel_17 (by decide) ?_
    refine ex_iret (ty := .boolean) d_RF_cancel_18 rfl rfl rfl (Nat.le_refl _) ?_
    exact ⟨rfl, rfl⟩
  · refine ex_iconst (pc := 10) (v := (nI 0)) d_RF_cancel_10 (by decide) ?_
    refine ex_iret (ty := .boolean) d_RF_cancel_11 rfl rfl rfl (Nat.le_refl _) ?_
    have q0 : ¬ 0 ≤ (rfind iv n x).toInt := by
      have q1 := i_nle c7
      rw [i_0] at q1
      omega
    rw [if_neg q0, decide_eq_false q0]
    exact ⟨rfl, rfl⟩

