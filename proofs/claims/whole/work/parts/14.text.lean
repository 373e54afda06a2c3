/-! the text: characters come and go, on both sides -/
def insF (f : Nat → Int32) (t : Nat) (ch : Int32) (k : Nat) : Int32 := if k < t then f k else if k = t then ch else f (k - 1)
def delF (f : Nat → Int32) (t y : Nat) (k : Nat) : Int32 := if k < t then f k else f (k + y)
theorem ex_u2_up {iv : Nat → Nat → Int32} {a t : Nat} {F : Nat → Int32} {v : Int32} : ex_u2 (va_up iv a F) a t v = va_up iv a (va_up F t v) := by
  funext i j
  unfold ex_u2 va_up
  by_cases hi : i = a
  · subst hi
    by_cases hj : j = t
    · simp [hj]
    · simp [hj]
  · simp [hi]
theorem up_id {iv : Nat → Nat → Int32} {a : Nat} : va_up iv a (iv a) = iv := by
  funext i
  by_cases hi : i = a
  · subst hi
    exact va_up_self _ _ _
  · exact va_up_ne _ _ hi
theorem up_up {iv : Nat → Nat → Int32} {a : Nat} {F F' : Nat → Int32} : va_up (va_up iv a F) a F' = va_up iv a F' := by
  funext i
  by_cases hi : i = a
  · subst hi
    rw [va_up_self, va_up_self]
  · rw [va_up_ne _ _ hi, va_up_ne _ _ hi, va_up_ne _ _ hi]
theorem c_id {x : Int32} (h : wrB x = true) : (x.toUInt32 % 65536).toInt32 = x := by
  have h1 := wr_r h
  have e := i_of x (by omega)
  generalize hq : x.toInt.toNat = q at e
  have hq2 : q < 65536 := by omega
  rw [pk_char, e, pk_tn (by omega), Nat.mod_eq_of_lt hq2]
theorem wr_fit {x : Int32} (h : wrB x = true) : fits .char (.int x) = true := by
  have h1 := wr_r h
  have e := i_of x (by omega)
  rw [e]
  exact (pk_charN (by omega)).2
theorem wr_nar {x : Int32} (h : wrB x = true) : vp_nar .char x = x := by
  have h1 := wr_r h
  exact nar_c (by omega) (by omega)
/-- the characters of the text may all be written -/
def txC (iv : Nat → Nat → Int32) (n : Nat) : Prop := ∀ k, k < n → wrB (iv 40 k) = true
def inOk (n : Nat) (x ch : Int32) : Prop := 0 ≤ x.toInt ∧ x.toInt ≤ n ∧ wrB ch = true ∧ n < 100
def delOk (n : Nat) (x y : Int32) : Prop := 1 ≤ y.toInt ∧ 0 ≤ x.toInt ∧ x.toInt + y.toInt ≤ n
set_option maxRecDepth 100000 in
set_option maxHeartbeats 4000000 in
theorem ct_Tx_putIn (l : Launch) (G : ex_G) (iv : Nat → Nat → Int32) (mp : Nat → Nat) (sp mo : Nat) (n : Nat) (x ch : Int32) (hn : iv 39 1 = nI n) (hl : n ≤ 100) (hc : txC iv n) : CT l G 1 M_Tx_putIn [.ref 39, .int x, .int ch] (HP iv mp sp mo) 0 0 (fun r h' => r = none ∧ (inOk n x ch → ∃ g, h' = HP (ex_u2 (va_up iv 40 g) 39 1 (nI (n + 1))) mp sp mo ∧ ∀ k, k < n + 1 → g k = insF (iv 40) x.toInt.toNat ch k) ∧ (¬ inOk n x ch → h' = HP iv mp sp mo)) := by
  refine ex_enter (by decide) (Nat.le_of_ble_eq_true rfl) (fun v hv => by simp at hv; rcases hv with rfl | rfl | rfl <;> rfl) (fun p e s m args below meth c => ?_)
  refine ex_iload_n (pc := 0) (i := 1) d_Tx_putIn_0 rfl rfl ?_
  refine ex_if_lt (pc := 1) (tgt := 28) d_Tx_putIn_1 rfl (fun c1 => ?_) (fun c1 => ?_)
  · refine ex_vret d_Tx_putIn_28 rfl rfl (Nat.le_refl _) ?_
    refine ⟨rfl, fun q => absurd q (fun q => ?_), fun _ => rfl⟩
    have q1 := i_lt.mp c1
    have q2 := q.1
    rw [i_0] at q1
    omega
  · refine ex_iload_n (pc := 4) (i := 1) d_Tx_putIn_4 rfl rfl ?_
    refine ex_aload_n (pc := 5) (i := 0) d_Tx_putIn_5 rfl rfl ?_
    refine ex_getx (pc := 6) 10 1 (nI n) d_Tx_putIn_6 FL_Tx_15 (Nat.le_of_ble_eq_true rfl) rfl hn ?_
    refine ex_icmp_gt (pc := 9) (tgt := 28) d_Tx_putIn_9 rfl (fun c9 => ?_) (fun c9 => ?_)
    · refine ex_vret d_Tx_putIn_28 rfl rfl (Nat.le_refl _) ?_
      refine ⟨rfl, fun q => absurd q (fun q => ?_), fun _ => rfl⟩
      have q1 := i_lt.mp c9
      have q2 := q.2.1
      rw [nI_t (by omega)] at q1
      omega
    · refine ex_iload_n (pc := 12) (i := 2) d_Tx_putIn_12 rfl rfl ?_
      refine ex_callS (pc := 13) (M' := M_TG_isWritable) (as := [.int ch]) (st := []) d_Tx_putIn_13 MW_TG_isWritable ST_TG_isWritable LK_Tx_19 (ct_TG_isWritable l G (HP iv mp sp mo) ch) (ex_lt_rm (by decide)) ⟨Nat.le_refl _, Nat.le_refl _⟩ rfl rfl (Nat.le_of_ble_eq_true rfl) ?_
      rintro _ _ ⟨rfl, rfl⟩
      refine ex_if_eq (pc := 16) (tgt := 28) d_Tx_putIn_16 rfl (fun c16 => ?_) (fun c16 => ?_)
      · refine ex_vret d_Tx_putIn_28 rfl rfl (Nat.le_refl _) ?_
        refine ⟨rfl, fun q => absurd q (fun q => ?_), fun _ => rfl⟩
        exact absurd (b2i_0 c16) (by rw [q.2.2.1]; decide)
      · refine ex_aload_n (pc := 19) (i := 0) d_Tx_putIn_19 rfl rfl ?_
        refine ex_getx (pc := 20) 10 1 (nI n) d_Tx_putIn_20 FL_Tx_15 (Nat.le_of_ble_eq_true rfl) rfl hn ?_
        refine ex_bipush (pc := 23) (v := (nI 100)) d_Tx_putIn_23 (by decide) ?_
        refine ex_icmp_lt (pc := 25) (tgt := 29) d_Tx_putIn_25 rfl (fun c25 => ?_) (fun c25 => ?_)
        · have hw := b2i_1 c16
          have h100 : n < 100 := (n_lt (by omega) (by omega)).mp c25
          have hx : 0 ≤ x.toInt ∧ x.toInt ≤ n := by
            have q1 := i_nlt c1
            have q2 := i_nlt c9
            rw [i_0] at q1
            rw [nI_t (by omega)] at q2
            exact ⟨q1, q2⟩
          obtain ⟨t, htn, rfl⟩ : ∃ t, t ≤ n ∧ x = nI t := ⟨x.toInt.toNat, by omega, i_of x hx.1⟩
          have htt : (nI t).toInt = (t : Int) := nI_t (by omega)
          refine ex_aload_n (pc := 29) (i := 0) d_Tx_putIn_29 rfl rfl ?_
          refine ex_getr (pc := 30) 10 0 d_Tx_putIn_30 FL_Tx_9 (Nat.le_of_ble_eq_true rfl) rfl rfl ?_
          refine ex_iload_n (pc := 33) (i := 1) d_Tx_putIn_33 rfl rfl ?_
          refine ex_aload_n (pc := 34) (i := 0) d_Tx_putIn_34 rfl rfl ?_
          refine ex_getr (pc := 35) 10 0 d_Tx_putIn_35 FL_Tx_9 (Nat.le_of_ble_eq_true rfl) rfl rfl ?_
          refine ex_iload_n (pc := 38) (i := 1) d_Tx_putIn_38 rfl rfl ?_
          refine ex_iconst (pc := 39) (v := (nI 1)) d_Tx_putIn_39 (by decide) ?_
          refine ex_iadd (pc := 40) d_Tx_putIn_40 ?_
          refine ex_aload_n (pc := 41) (i := 0) d_Tx_putIn_41 rfl rfl ?_
          refine ex_getx (pc := 42) 10 1 (nI n) d_Tx_putIn_42 FL_Tx_15 (Nat.le_of_ble_eq_true rfl) rfl hn ?_
          refine ex_iload_n (pc := 45) (i := 1) d_Tx_putIn_45 rfl rfl ?_
          refine ex_isub (pc := 46) d_Tx_putIn_46 ?_
          refine ex_copy (pc := 47) t (t + 1) (n - t) d_Tx_putIn_47 AC_Tx_23 AC_1 AC_2 AC_3 (Nat.le_of_ble_eq_true rfl) rfl (Nat.le_of_ble_eq_true rfl) rfl rfl rfl rfl (nI_t (by omega)) (by rw [nI_s]; exact nI_t (by omega)) (by rw [pk_sub htn]; exact nI_t (by omega)) (show t + (n - t) ≤ 100 by omega) (show t + 1 + (n - t) ≤ 100 by omega) (fun k hk => wr_fit (hc _ (by omega))) (ex_lt_rm (by decide)) (Nat.le_of_ble_eq_true rfl) ?_
          refine ex_aload_n (pc := 50) (i := 0) d_Tx_putIn_50 rfl rfl ?_
          refine ex_getr (pc := 51) 10 0 d_Tx_putIn_51 FL_Tx_9 (Nat.le_of_ble_eq_true rfl) rfl rfl ?_
          refine ex_iload_n (pc := 54) (i := 1) d_Tx_putIn_54 rfl rfl ?_
          refine ex_iload_n (pc := 55) (i := 2) d_Tx_putIn_55 rfl rfl ?_
          refine ex_i2c (pc := 56) (v := ch) d_Tx_putIn_56 (c_id hw) ?_
          refine ex_cast (pc := 57) t d_Tx_putIn_57 (Nat.le_of_ble_eq_true rfl) rfl rfl rfl (nI_t (by omega)) (show t < 100 by omega) ?_
          refine ex_aload_n (pc := 58) (i := 0) d_Tx_putIn_58 rfl rfl ?_
          refine ex_dup (pc := 59) d_Tx_putIn_59 rfl ?_
          refine ex_getx (pc := 60) 10 1 (nI n) d_Tx_putIn_60 FL_Tx_15 (Nat.le_of_ble_eq_true rfl) rfl hn ?_
          refine ex_iconst (pc := 63) (v := (nI 1)) d_Tx_putIn_63 (by decide) ?_
          refine ex_iadd (pc := 64) d_Tx_putIn_64 ?_
          refine ex_puti (pc := 65) 10 1 .int d_Tx_putIn_65 (PF_Tx_15 _) (Nat.le_of_ble_eq_true rfl) rfl rfl rfl ?_
          refine ex_heap (h' := HP (ex_u2 (va_up iv 40 (va_up (va_cpy (iv 40) (iv 40) t (t + 1) (n - t)) t ch)) 39 1 (nI (n + 1))) mp sp mo) ?_ ?_
          · rw [nI_s, wr_nar hw, ← ex_u2_up]
            rfl
          refine ex_vret d_Tx_putIn_68 rfl rfl (Nat.le_refl _) ?_
          refine ⟨rfl, fun _ => ⟨_, rfl, fun k hk => ?_⟩, fun q => absurd ⟨hx.1, hx.2, hw, h100⟩ q⟩
          rw [htt]
          show va_up _ _ _ k = insF _ t ch k
          unfold insF va_up va_cpy
          by_cases h1 : k = t
          · rw [if_pos h1, if_neg (by omega), if_pos h1]
          · rw [if_neg h1]
            by_cases h2 : k < t
            · rw [if_pos h2, if_neg (by omega)]
            · rw [if_neg h2, if_neg h1, if_pos (by omega)]
              congr 1
              omega
        · refine ex_vret d_Tx_putIn_28 rfl rfl (Nat.le_refl _) ?_
          refine ⟨rfl, fun q => absurd q (fun q => ?_), fun _ => rfl⟩
          exact c25 ((n_lt (by omega) (by omega)).mpr q.2.2.2)

set_option maxRecDepth 100000 in
set_option maxHeartbeats 4000000 in
theorem ct_Tx_takeOut (l : Launch) (G : ex_G) (iv : Nat → Nat → Int32) (mp : Nat → Nat) (sp mo : Nat) (n : Nat) (x y : Int32) (hn : iv 39 1 = nI n) (hl : n ≤ 100) (hc : txC iv n) : CT l G 1 M_Tx_takeOut [.ref 39, .int x, .int y] (HP iv mp sp mo) 0 0 (fun r h' => r = none ∧ (delOk n x y → ∃ g, h' = HP (ex_u2 (va_up iv 40 g) 39 1 (nI (n - y.toInt.toNat))) mp sp mo ∧ ∀ k, k < n - y.toInt.toNat → g k = delF (iv 40) x.toInt.toNat y.toInt.toNat k) ∧ (¬ delOk n x y → h' = HP iv mp sp mo)) := by
  refine ex_enter (by decide) (Nat.le_of_ble_eq_true rfl) (fun v hv => by simp at hv; rcases hv with rfl | rfl | rfl <;> rfl) (fun p e s m args below meth c => ?_)
  refine ex_iload_n (pc := 0) (i := 2) d_Tx_takeOut_0 rfl rfl ?_
  refine ex_iconst (pc := 1) (v := (nI 1)) d_Tx_takeOut_1 (by decide) ?_
  refine ex_icmp_lt (pc := 2) (tgt := 27) d_Tx_takeOut_2 rfl (fun c2 => ?_) (fun c2 => ?_)
  · refine ex_vret d_Tx_takeOut_27 rfl rfl (Nat.le_refl _) ?_
    refine ⟨rfl, fun q => absurd q (fun q => ?_), fun _ => rfl⟩
    have q1 := i_lt.mp c2
    have q2 := q.1
    rw [nI_t (by omega)] at q1
    omega
  · refine ex_iload_n (pc := 5) (i := 1) d_Tx_takeOut_5 rfl rfl ?_
    refine ex_if_lt (pc := 6) (tgt := 27) d_Tx_takeOut_6 rfl (fun c6 => ?_) (fun c6 => ?_)
    · refine ex_vret d_Tx_takeOut_27 rfl rfl (Nat.le_refl _) ?_
      refine ⟨rfl, fun q => absurd q (fun q => ?_), fun _ => rfl⟩
      have q1 := i_lt.mp c6
      have q2 := q.2.1
      rw [i_0] at q1
      omega
    · refine ex_iload_n (pc := 9) (i := 1) d_Tx_takeOut_9 rfl rfl ?_
      refine ex_aload_n (pc := 10) (i := 0) d_Tx_takeOut_10 rfl rfl ?_
      refine ex_getx (pc := 11) 10 1 (nI n) d_Tx_takeOut_11 FL_Tx_15 (Nat.le_of_ble_eq_true rfl) rfl hn ?_
      refine ex_icmp_ge (pc := 14) (tgt := 27) d_Tx_takeOut_14 rfl (fun c14 => ?_) (fun c14 => ?_)
      · refine ex_vret d_Tx_takeOut_27 rfl rfl (Nat.le_refl _) ?_
        refine ⟨rfl, fun q => absurd q (fun q => ?_), fun _ => rfl⟩
        have q1 := i_le.mp c14
        have q2 := q.2.2
        have q3 := q.1
        rw [nI_t (by omega)] at q1
        omega
      · have hx : 0 ≤ x.toInt ∧ x.toInt < n := by
          have q1 := i_nlt c6
          have q2 := i_nle c14
          rw [i_0] at q1
          rw [nI_t (by omega)] at q2
          exact ⟨q1, q2⟩
        obtain ⟨t, htn, rfl⟩ : ∃ t, t < n ∧ x = nI t := ⟨x.toInt.toNat, by omega, i_of x hx.1⟩
        have htt : (nI t).toInt = (t : Int) := nI_t (by omega)
        have hy1 : 1 ≤ y.toInt := by
          have q1 := i_nlt c2
          rw [nI_t (by omega)] at q1
          omega
        refine ex_iload_n (pc := 17) (i := 2) d_Tx_takeOut_17 rfl rfl ?_
        refine ex_aload_n (pc := 18) (i := 0) d_Tx_takeOut_18 rfl rfl ?_
        refine ex_getx (pc := 19) 10 1 (nI n) d_Tx_takeOut_19 FL_Tx_15 (Nat.le_of_ble_eq_true rfl) rfl hn ?_
        refine ex_iload_n (pc := 22) (i := 1) d_Tx_takeOut_22 rfl rfl ?_
        refine ex_isub (pc := 23) d_Tx_takeOut_23 ?_
        refine ex_top (pk_sub (show t ≤ n by omega)) ?_
        refine ex_icmp_le (pc := 24) (tgt := 28) d_Tx_takeOut_24 rfl (fun c24 => ?_) (fun c24 => ?_)
        · have hy2 : y.toInt ≤ (n - t : Nat) := by
            have q1 := i_le.mp c24
            rw [nI_t (by omega)] at q1
            exact q1
          obtain ⟨u, hun, rfl⟩ : ∃ u, u ≤ n - t ∧ y = nI u := ⟨y.toInt.toNat, by omega, i_of y (by omega)⟩
          have hut : (nI u).toInt = (u : Int) := nI_t (by omega)
          have hu1 : 1 ≤ u := by omega
          refine ex_aload_n (pc := 28) (i := 0) d_Tx_takeOut_28 rfl rfl ?_
          refine ex_getr (pc := 29) 10 0 d_Tx_takeOut_29 FL_Tx_9 (Nat.le_of_ble_eq_true rfl) rfl rfl ?_
          refine ex_iload_n (pc := 32) (i := 1) d_Tx_takeOut_32 rfl rfl ?_
          refine ex_iload_n (pc := 33) (i := 2) d_Tx_takeOut_33 rfl rfl ?_
          refine ex_iadd (pc := 34) d_Tx_takeOut_34 ?_
          refine ex_aload_n (pc := 35) (i := 0) d_Tx_takeOut_35 rfl rfl ?_
          refine ex_getr (pc := 36) 10 0 d_Tx_takeOut_36 FL_Tx_9 (Nat.le_of_ble_eq_true rfl) rfl rfl ?_
          refine ex_iload_n (pc := 39) (i := 1) d_Tx_takeOut_39 rfl rfl ?_
          refine ex_aload_n (pc := 40) (i := 0) d_Tx_takeOut_40 rfl rfl ?_
          refine ex_getx (pc := 41) 10 1 (nI n) d_Tx_takeOut_41 FL_Tx_15 (Nat.le_of_ble_eq_true rfl) rfl hn ?_
          refine ex_iload_n (pc := 44) (i := 1) d_Tx_takeOut_44 rfl rfl ?_
          refine ex_isub (pc := 45) d_Tx_takeOut_45 ?_
          refine ex_iload_n (pc := 46) (i := 2) d_Tx_takeOut_46 rfl rfl ?_
          refine ex_isub (pc := 47) d_Tx_takeOut_47 ?_
          refine ex_copy (pc := 48) (t + u) t (n - t - u) d_Tx_takeOut_48 AC_Tx_23 AC_1 AC_2 AC_3 (Nat.le_of_ble_eq_true rfl) rfl (Nat.le_of_ble_eq_true rfl) rfl rfl rfl rfl (by rw [nI_add]; exact nI_t (by omega)) (nI_t (by omega)) (by rw [pk_sub (by omega), pk_sub (by omega)]; exact nI_t (by omega)) (show t + u + (n - t - u) ≤ 100 by omega) (show t + (n - t - u) ≤ 100 by omega) (fun k hk => wr_fit (hc _ (by omega))) (ex_lt_rm (by decide)) (Nat.le_of_ble_eq_true rfl) ?_
          refine ex_aload_n (pc := 51) (i := 0) d_Tx_takeOut_51 rfl rfl ?_
          refine ex_dup (pc := 52) d_Tx_takeOut_52 rfl ?_
          refine ex_getx (pc := 53) 10 1 (nI n) d_Tx_takeOut_53 FL_Tx_15 (Nat.le_of_ble_eq_true rfl) rfl hn ?_
          refine ex_iload_n (pc := 56) (i := 2) d_Tx_takeOut_56 rfl rfl ?_
          refine ex_isub (pc := 57) d_Tx_takeOut_57 ?_
          refine ex_puti (pc := 58) 10 1 .int d_Tx_takeOut_58 (PF_Tx_15 _) (Nat.le_of_ble_eq_true rfl) rfl rfl rfl ?_
          refine ex_heap (h' := HP (ex_u2 (va_up iv 40 (va_cpy (iv 40) (iv 40) (t + u) t (n - t - u))) 39 1 (nI (n - u))) mp sp mo) ?_ ?_
          · rw [pk_sub (show u ≤ n by omega)]
            rfl
          refine ex_vret d_Tx_takeOut_61 rfl rfl (Nat.le_refl _) ?_
          rw [hut, htt]
          refine ⟨rfl, fun _ => ⟨_, rfl, fun k hk => ?_⟩, fun q => absurd ⟨by omega, by omega, by omega⟩ q⟩
          show va_cpy _ _ _ _ _ k = delF _ t u k
          have hk2 : k < n - u := hk
          unfold delF va_cpy
          by_cases h2 : k < t
          · rw [if_neg (by omega)]
            exact (if_pos h2).symm
          · rw [if_pos (by omega)]
            refine Eq.trans ?_ (if_neg h2).symm
            congr 1
            omega
        · refine ex_vret d_Tx_takeOut_27 rfl rfl (Nat.le_refl _) ?_
          refine ⟨rfl, fun q => absurd q (fun q => ?_), fun _ => rfl⟩
          have q1 := i_nle c24
          have q2 := q.2.2
          rw [nI_t (by omega)] at q1
          rw [htt] at q2
          omega

