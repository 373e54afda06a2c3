/-! the text of the reference -/
def mvU (f : Nat → Int32) (j n : Nat) : Nat → Int32 := fun q => if j < q ∧ q ≤ n then f (q - 1) else f q
theorem mvU_n {f : Nat → Int32} {n : Nat} : mvU f n n = f := by
  funext q
  exact if_neg (fun h => by omega)
theorem mvU_lo {f : Nat → Int32} {j n q : Nat} (h : q ≤ j) : mvU f j n q = f q := if_neg (fun q => by omega)
theorem mvU_1 {f : Nat → Int32} {j n : Nat} (h : j + 1 ≤ n) : va_up (mvU f (j + 1) n) (j + 1) (f j) = mvU f j n := by
  funext q
  unfold va_up mvU
  by_cases h1 : q = j + 1
  · rw [if_pos h1, if_pos (by omega), h1]
    rfl
  · rw [if_neg h1]
    by_cases h2 : j < q ∧ q ≤ n
    · rw [if_pos (by omega), if_pos h2]
    · rw [if_neg (by omega), if_neg h2]
def mvD (f : Nat → Int32) (t j u : Nat) : Nat → Int32 := fun q => if t ≤ q ∧ q < j then f (q + u) else f q
theorem mvD_0 {f : Nat → Int32} {t u : Nat} : mvD f t t u = f := by
  funext q
  exact if_neg (fun h => by omega)
theorem mvD_hi {f : Nat → Int32} {t j u q : Nat} (h : j ≤ q) : mvD f t j u q = f q := if_neg (fun q => by omega)
theorem mvD_1 {f : Nat → Int32} {t j u : Nat} (h : t ≤ j) : va_up (mvD f t j u) j (f (j + u)) = mvD f t (j + 1) u := by
  funext q
  unfold va_up mvD
  by_cases h1 : q = j
  · rw [if_pos h1, if_pos (by omega), h1]
  · rw [if_neg h1]
    by_cases h2 : t ≤ q ∧ q < j
    · rw [if_pos h2, if_pos (by omega)]
    · rw [if_neg h2, if_neg (by omega)]
set_option maxRecDepth 100000 in
set_option maxHeartbeats 4000000 in
theorem lp_RF_insertNow {p : Program} {e : Env} {s : State} {m : MethodId} {args : Array Value} {below : List Frame} {meth : Method} {c : Code} (l : Launch) (G : ex_G) (iv : Nat → Nat → Int32) (mp : Nat → Nat) (sp mo : Nat) (n t : Nat) (x ch : Int32) (hn : iv 92 14 = nI n) (hl : n < 100) (hx : x = nI t) (htn : t ≤ n) (ho : inOk n x ch) : ∀ (k : Nat), t + k ≤ n → EXM M_RF_insertNow l G 0 (fun r h' => r = none ∧ (inOk n x ch → ∃ g, h' = HP (ex_u2 (va_up iv 106 g) 92 14 (nI (n + 1))) mp sp mo ∧ ∀ k, k < n + 1 → g k = insF (iv 106) x.toInt.toNat ch k) ∧ (¬ inOk n x ch → h' = HP iv mp sp mo)) p e s m args below meth c 39 [some (.ref 92), some (.int x), some (.int ch), some (.int (nI (t + k)))] [] (HP (va_up iv 106 (mvU (iv 106) (t + k) n)) mp sp mo) := by
  intro k
  induction k with
  | zero =>
    intro hk
    subst hx
    have htt : (nI t).toInt = (t : Int) := nI_t (by omega)
    refine ex_iload_n (pc := 39) (i := 3) d_RF_insertNow_39 rfl rfl ?_
    refine ex_iload_n (pc := 40) (i := 1) d_RF_insertNow_40 rfl rfl ?_
    refine ex_icmp_le (pc := 41) (tgt := 64) d_RF_insertNow_41 rfl (fun c41 => ?_) (fun c41 => ?_)
    · refine ex_aload_n (pc := 64) (i := 0) d_RF_insertNow_64 rfl rfl ?_
      refine ex_getr (pc := 65) 12 15 d_RF_insertNow_65 FL_RF_50 (Nat.le_of_ble_eq_true rfl) rfl rfl ?_
      refine ex_iload_n (pc := 68) (i := 1) d_RF_insertNow_68 rfl rfl ?_
      refine ex_iload_n (pc := 69) (i := 2) d_RF_insertNow_69 rfl rfl ?_
      refine ex_iast (pc := 70) t d_RF_insertNow_70 (Nat.le_of_ble_eq_true rfl) rfl rfl rfl htt (show t < 100 by omega) ?_
      refine ex_aload_n (pc := 71) (i := 0) d_RF_insertNow_71 rfl rfl ?_
      refine ex_dup (pc := 72) d_RF_insertNow_72 rfl ?_
      refine ex_getx (pc := 73) 12 14 (nI n) d_RF_insertNow_73 FL_RF_179 (Nat.le_of_ble_eq_true rfl) rfl hn ?_
      refine ex_iconst (pc := 76) (v := (nI 1)) d_RF_insertNow_76 (by decide) ?_
      refine ex_iadd (pc := 77) d_RF_insertNow_77 ?_
      refine ex_puti (pc := 78) 12 14 .int d_RF_insertNow_78 (PF_RF_179 _) (Nat.le_of_ble_eq_true rfl) rfl rfl rfl ?_
      refine ex_heap (h' := HP (ex_u2 (va_up iv 106 (va_up (mvU (iv 106) t n) t ch)) 92 14 (nI (n + 1))) mp sp mo) ?_ ?_
      · rw [nI_s, ← ex_u2_up]
        rfl
      refine ex_vret d_RF_insertNow_81 rfl rfl (Nat.le_refl _) ?_
      refine ⟨rfl, fun _ => ⟨_, rfl, fun k hk => ?_⟩, fun q => absurd ho q⟩
      rw [htt]
      show va_up _ _ _ k = insF _ t ch k
      unfold insF va_up mvU
      by_cases h1 : k = t
      · rw [if_pos h1, if_neg (by omega), if_pos h1]
      · rw [if_neg h1]
        by_cases h2 : k < t
        · rw [if_pos h2, if_neg (by omega)]
        · rw [if_neg h2, if_neg h1, if_pos (by omega)]
    · exact absurd (Int32.le_refl (nI t)) c41
  | succ k ih =>
    intro hk
    have hs1 : nI (t + (k + 1)) - nI 1 = nI (t + k) := nI_p (by omega)
    refine ex_iload_n (pc := 39) (i := 3) d_RF_insertNow_39 rfl rfl ?_
    refine ex_iload_n (pc := 40) (i := 1) d_RF_insertNow_40 rfl rfl ?_
    refine ex_icmp_le (pc := 41) (tgt := 64) d_RF_insertNow_41 rfl (fun c41 => ?_) (fun c41 => ?_)
    · exact absurd c41 (fun q => by rw [hx] at q; exact absurd ((n_ge (by omega) (by omega)).mp q) (by omega))
    · refine ex_aload_n (pc := 44) (i := 0) d_RF_insertNow_44 rfl rfl ?_
      refine ex_getr (pc := 45) 12 15 d_RF_insertNow_45 FL_RF_50 (Nat.le_of_ble_eq_true rfl) rfl rfl ?_
      refine ex_iload_n (pc := 48) (i := 3) d_RF_insertNow_48 rfl rfl ?_
      refine ex_aload_n (pc := 49) (i := 0) d_RF_insertNow_49 rfl rfl ?_
      refine ex_getr (pc := 50) 12 15 d_RF_insertNow_50 FL_RF_50 (Nat.le_of_ble_eq_true rfl) rfl rfl ?_
      refine ex_iload_n (pc := 53) (i := 3) d_RF_insertNow_53 rfl rfl ?_
      refine ex_iconst (pc := 54) (v := (nI 1)) d_RF_insertNow_54 (by decide) ?_
      refine ex_isub (pc := 55) d_RF_insertNow_55 ?_
      refine ex_ialdx (pc := 56) (t + k) (iv 106 (t + k)) d_RF_insertNow_56 (Nat.le_of_ble_eq_true rfl) rfl rfl rfl (by rw [hs1]; exact nI_t (by omega)) (show t + k < 100 by omega) (mvU_lo (by omega)) ?_
      refine ex_iast (pc := 57) (t + (k + 1)) d_RF_insertNow_57 (Nat.le_of_ble_eq_true rfl) rfl rfl rfl (nI_t (by omega)) (show t + (k + 1) < 100 by omega) ?_
      refine ex_heap (h' := HP (va_up iv 106 (mvU (iv 106) (t + k) n)) mp sp mo) ?_ ?_
      · rw [← mvU_1 (show t + k + 1 ≤ n by omega), ← ex_u2_up]
        rfl
      refine ex_iinc (pc := 58) (v := (nI (t + k))) d_RF_insertNow_58 rfl (pk_m1 (t + k)) (by decide) ?_
      refine ex_goto (pc := 61) (tgt := 39) d_RF_insertNow_61 rfl ?_
      exact ih (by omega)

set_option maxRecDepth 100000 in
set_option maxHeartbeats 4000000 in
theorem ct_RF_insertNow (l : Launch) (G : ex_G) (iv : Nat → Nat → Int32) (mp : Nat → Nat) (sp mo : Nat) (n : Nat) (x ch : Int32) (hn : iv 92 14 = nI n) (hl : n ≤ 100) : CT l G 0 M_RF_insertNow [.ref 92, .int x, .int ch] (HP iv mp sp mo) 0 0 (fun r h' => r = none ∧ (inOk n x ch → ∃ g, h' = HP (ex_u2 (va_up iv 106 g) 92 14 (nI (n + 1))) mp sp mo ∧ ∀ k, k < n + 1 → g k = insF (iv 106) x.toInt.toNat ch k) ∧ (¬ inOk n x ch → h' = HP iv mp sp mo)) := by
  refine ex_enter (by decide) (Nat.le_of_ble_eq_true rfl) (fun v hv => by simp at hv; rcases hv with rfl | rfl | rfl <;> rfl) (fun p e s m args below meth c => ?_)
  refine ex_iload_n (pc := 0) (i := 1) d_RF_insertNow_0 rfl rfl ?_
  refine ex_if_lt (pc := 1) (tgt := 33) d_RF_insertNow_1 rfl (fun c1 => ?_) (fun c1 => ?_)
  · refine ex_vret d_RF_insertNow_33 rfl rfl (Nat.le_refl _) ?_
    refine ⟨rfl, fun q => absurd q (fun q => ?_), fun _ => rfl⟩
    have q1 := i_lt.mp c1
    have q2 := q.1
    rw [i_0] at q1
    omega
  · refine ex_iload_n (pc := 4) (i := 1) d_RF_insertNow_4 rfl rfl ?_
    refine ex_aload_n (pc := 5) (i := 0) d_RF_insertNow_5 rfl rfl ?_
    refine ex_getx (pc := 6) 12 14 (nI n) d_RF_insertNow_6 FL_RF_179 (Nat.le_of_ble_eq_true rfl) rfl hn ?_
    refine ex_icmp_gt (pc := 9) (tgt := 33) d_RF_insertNow_9 rfl (fun c9 => ?_) (fun c9 => ?_)
    · refine ex_vret d_RF_insertNow_33 rfl rfl (Nat.le_refl _) ?_
      refine ⟨rfl, fun q => absurd q (fun q => ?_), fun _ => rfl⟩
      have q1 := i_lt.mp c9
      have q2 := q.2.1
      rw [nI_t (by omega)] at q1
      omega
    · refine ex_iload_n (pc := 12) (i := 2) d_RF_insertNow_12 rfl rfl ?_
      refine ex_bipush (pc := 13) (v := (nI 32)) d_RF_insertNow_13 (by decide) ?_
      refine ex_icmp_lt (pc := 15) (tgt := 33) d_RF_insertNow_15 rfl (fun c15 => ?_) (fun c15 => ?_)
      · refine ex_vret d_RF_insertNow_33 rfl rfl (Nat.le_refl _) ?_
        refine ⟨rfl, fun q => absurd q (fun q => ?_), fun _ => rfl⟩
        have q1 := q.2.2.1
        rw [wr_2 c15] at q1
        cases q1
      · refine ex_iload_n (pc := 18) (i := 2) d_RF_insertNow_18 rfl rfl ?_
        refine ex_bipush (pc := 19) (v := (nI 126)) d_RF_insertNow_19 (by decide) ?_
        refine ex_icmp_gt (pc := 21) (tgt := 33) d_RF_insertNow_21 rfl (fun c21 => ?_) (fun c21 => ?_)
        · refine ex_vret d_RF_insertNow_33 rfl rfl (Nat.le_refl _) ?_
          refine ⟨rfl, fun q => absurd q (fun q => ?_), fun _ => rfl⟩
          have q1 := q.2.2.1
          rw [wr_3 c21] at q1
          cases q1
        · refine ex_aload_n (pc := 24) (i := 0) d_RF_insertNow_24 rfl rfl ?_
          refine ex_getx (pc := 25) 12 14 (nI n) d_RF_insertNow_25 FL_RF_179 (Nat.le_of_ble_eq_true rfl) rfl hn ?_
          refine ex_bipush (pc := 28) (v := (nI 100)) d_RF_insertNow_28 (by decide) ?_
          refine ex_icmp_ne (pc := 30) (tgt := 34) d_RF_insertNow_30 rfl (fun c30 => ?_) (fun c30 => ?_)
          · have h100 : n < 100 := by
              have q1 : ¬ n = 100 := fun q => c30 (by rw [q])
              omega
            have ho : inOk n x ch := by
              have q1 := i_nlt c1
              have q2 := i_nlt c9
              rw [i_0] at q1
              rw [nI_t (by omega)] at q2
              exact ⟨q1, q2, wr_1 c15 c21, h100⟩
            refine ex_aload_n (pc := 34) (i := 0) d_RF_insertNow_34 rfl rfl ?_
            refine ex_getx (pc := 35) 12 14 (nI n) d_RF_insertNow_35 FL_RF_179 (Nat.le_of_ble_eq_true rfl) rfl hn ?_
            refine ex_istore_n (pc := 38) (i := 3) d_RF_insertNow_38 rfl (by decide) ?_
            obtain ⟨t, htn, hxt⟩ : ∃ t, t ≤ n ∧ x = nI t := ⟨x.toInt.toNat, by have q1 := ho.2.1; omega, i_of x ho.1⟩
            have e1 : t + (n - t) = n := by omega
            refine ex_heap (h' := HP (va_up iv 106 (mvU (iv 106) (t + (n - t)) n)) mp sp mo) ?_ ?_
            · rw [e1, mvU_n, up_id]
            have q9 := lp_RF_insertNow (p := p) (e := e) (s := s) (m := m) (args := args) (below := below) (meth := meth) (c := c) l G iv mp sp mo n t x ch hn h100 hxt htn ho (n - t) (by omega)
            rw [e1] at q9 ⊢
            exact q9
          · refine ex_vret d_RF_insertNow_33 rfl rfl (Nat.le_refl _) ?_
            refine ⟨rfl, fun q => absurd q (fun q => ?_), fun _ => rfl⟩
            have q1 := (n_eq (by omega) (by omega)).mp c30
            have q2 := q.2.2.2
            omega

set_option maxRecDepth 100000 in
set_option maxHeartbeats 4000000 in
theorem lp_RF_eraseNow {p : Program} {e : Env} {s : State} {m : MethodId} {args : Array Value} {below : List Frame} {meth : Method} {c : Code} (l : Launch) (G : ex_G) (iv : Nat → Nat → Int32) (mp : Nat → Nat) (sp mo : Nat) (n t u : Nat) (x y : Int32) (hn : iv 92 14 = nI n) (hl : n ≤ 100) (hx : x = nI t) (hy : y = nI u) (ho : delOk n x y) : ∀ (k j : Nat), j + u + k = n → t ≤ j → EXM M_RF_eraseNow l G 0 (fun r h' => r = none ∧ (delOk n x y → ∃ g, h' = HP (ex_u2 (va_up iv 106 g) 92 14 (nI (n - y.toInt.toNat))) mp sp mo ∧ ∀ k, k < n - y.toInt.toNat → g k = delF (iv 106) x.toInt.toNat y.toInt.toNat k) ∧ (¬ delOk n x y → h' = HP iv mp sp mo)) p e s m args below meth c 30 [some (.ref 92), some (.int x), some (.int y), some (.int (nI j))] [] (HP (va_up iv 106 (mvD (iv 106) t j u)) mp sp mo) := by
  intro k
  induction k with
  | zero =>
    intro j hj htj
    subst hx hy
    have htt : (nI t).toInt = (t : Int) := nI_t (by omega)
    have hut : (nI u).toInt = (u : Int) := nI_t (by omega)
    have hju : nI j + nI u = nI (j + u) := nI_add j u
    refine ex_iload_n (pc := 30) (i := 3) d_RF_eraseNow_30 rfl rfl ?_
    refine ex_iload_n (pc := 31) (i := 2) d_RF_eraseNow_31 rfl rfl ?_
    refine ex_iadd (pc := 32) d_RF_eraseNow_32 ?_
    refine ex_aload_n (pc := 33) (i := 0) d_RF_eraseNow_33 rfl rfl ?_
    refine ex_getx (pc := 34) 12 14 (nI n) d_RF_eraseNow_34 FL_RF_179 (Nat.le_of_ble_eq_true rfl) rfl hn ?_
    refine ex_icmp_ge (pc := 37) (tgt := 60) d_RF_eraseNow_37 rfl (fun c37 => ?_) (fun c37 => ?_)
    · refine ex_aload_n (pc := 60) (i := 0) d_RF_eraseNow_60 rfl rfl ?_
      refine ex_aload_n (pc := 61) (i := 0) d_RF_eraseNow_61 rfl rfl ?_
      refine ex_getx (pc := 62) 12 14 (nI n) d_RF_eraseNow_62 FL_RF_179 (Nat.le_of_ble_eq_true rfl) rfl hn ?_
      refine ex_iload_n (pc := 65) (i := 2) d_RF_eraseNow_65 rfl rfl ?_
      refine ex_isub (pc := 66) d_RF_eraseNow_66 ?_
      refine ex_puti (pc := 67) 12 14 .int d_RF_eraseNow_67 (PF_RF_179 _) (Nat.le_of_ble_eq_true rfl) rfl rfl rfl ?_
      refine ex_heap (h' := HP (ex_u2 (va_up iv 106 (mvD (iv 106) t j u)) 92 14 (nI (n - u))) mp sp mo) ?_ ?_
      · rw [pk_sub (show u ≤ n by omega)]
        rfl
      refine ex_vret d_RF_eraseNow_70 rfl rfl (Nat.le_refl _) ?_
      rw [hut, htt]
      refine ⟨rfl, fun _ => ⟨_, rfl, fun k hk => ?_⟩, fun q => absurd (by unfold delOk at ho ⊢; rw [hut, htt] at ho; rw [hut, htt]; exact ho) q⟩
      have hk2 : k < n - u := hk
      show mvD _ t j u k = delF _ t u k
      unfold delF mvD
      by_cases h2 : k < t
      · rw [if_neg (by omega)]
        exact (if_pos h2).symm
      · rw [if_pos (by omega)]
        exact (if_neg h2).symm
    · rw [hju] at c37
      exact absurd ((n_ge (by omega) (by omega)).mpr (by omega)) c37
  | succ k ih =>
    intro j hj htj
    have hju : nI j + y = nI (j + u) := by rw [hy]; exact nI_add j u
    refine ex_iload_n (pc := 30) (i := 3) d_RF_eraseNow_30 rfl rfl ?_
    refine ex_iload_n (pc := 31) (i := 2) d_RF_eraseNow_31 rfl rfl ?_
    refine ex_iadd (pc := 32) d_RF_eraseNow_32 ?_
    refine ex_aload_n (pc := 33) (i := 0) d_RF_eraseNow_33 rfl rfl ?_
    refine ex_getx (pc := 34) 12 14 (nI n) d_RF_eraseNow_34 FL_RF_179 (Nat.le_of_ble_eq_true rfl) rfl hn ?_
    refine ex_icmp_ge (pc := 37) (tgt := 60) d_RF_eraseNow_37 rfl (fun c37 => ?_) (fun c37 => ?_)
    · rw [hju] at c37
      exact absurd ((n_ge (by omega) (by omega)).mp c37) (by omega)
    · refine ex_aload_n (pc := 40) (i := 0) d_RF_eraseNow_40 rfl rfl ?_
      refine ex_getr (pc := 41) 12 15 d_RF_eraseNow_41 FL_RF_50 (Nat.le_of_ble_eq_true rfl) rfl rfl ?_
      refine ex_iload_n (pc := 44) (i := 3) d_RF_eraseNow_44 rfl rfl ?_
      refine ex_aload_n (pc := 45) (i := 0) d_RF_eraseNow_45 rfl rfl ?_
      refine ex_getr (pc := 46) 12 15 d_RF_eraseNow_46 FL_RF_50 (Nat.le_of_ble_eq_true rfl) rfl rfl ?_
      refine ex_iload_n (pc := 49) (i := 3) d_RF_eraseNow_49 rfl rfl ?_
      refine ex_iload_n (pc := 50) (i := 2) d_RF_eraseNow_50 rfl rfl ?_
      refine ex_iadd (pc := 51) d_RF_eraseNow_51 ?_
      refine ex_ialdx (pc := 52) (j + u) (iv 106 (j + u)) d_RF_eraseNow_52 (Nat.le_of_ble_eq_true rfl) rfl rfl rfl (by rw [hju]; exact nI_t (by omega)) (show j + u < 100 by omega) (mvD_hi (by omega)) ?_
      refine ex_iast (pc := 53) j d_RF_eraseNow_53 (Nat.le_of_ble_eq_true rfl) rfl rfl rfl (nI_t (by omega)) (show j < 100 by omega) ?_
      refine ex_heap (h' := HP (va_up iv 106 (mvD (iv 106) t (j + 1) u)) mp sp mo) ?_ ?_
      · rw [← mvD_1 htj, ← ex_u2_up]
        rfl
      refine ex_iinc (pc := 54) (v := (nI (j + 1))) d_RF_eraseNow_54 rfl (nI_1 j) (by decide) ?_
      refine ex_goto (pc := 57) (tgt := 30) d_RF_eraseNow_57 rfl ?_
      exact ih (j + 1) (by omega) (by omega)

set_option maxRecDepth 100000 in
set_option maxHeartbeats 4000000 in
theorem ct_RF_eraseNow (l : Launch) (G : ex_G) (iv : Nat → Nat → Int32) (mp : Nat → Nat) (sp mo : Nat) (n : Nat) (x y : Int32) (hn : iv 92 14 = nI n) (hl : n ≤ 100) : CT l G 0 M_RF_eraseNow [.ref 92, .int x, .int y] (HP iv mp sp mo) 0 0 (fun r h' => r = none ∧ (delOk n x y → ∃ g, h' = HP (ex_u2 (va_up iv 106 g) 92 14 (nI (n - y.toInt.toNat))) mp sp mo ∧ ∀ k, k < n - y.toInt.toNat → g k = delF (iv 106) x.toInt.toNat y.toInt.toNat k) ∧ (¬ delOk n x y → h' = HP iv mp sp mo)) := by
  refine ex_enter (by decide) (Nat.le_of_ble_eq_true rfl) (fun v hv => by simp at hv; rcases hv with rfl | rfl | rfl <;> rfl) (fun p e s m args below meth c => ?_)
  refine ex_iload_n (pc := 0) (i := 2) d_RF_eraseNow_0 rfl rfl ?_
  refine ex_iconst (pc := 1) (v := (nI 1)) d_RF_eraseNow_1 (by decide) ?_
  refine ex_icmp_lt (pc := 2) (tgt := 27) d_RF_eraseNow_2 rfl (fun c2 => ?_) (fun c2 => ?_)
  · refine ex_vret d_RF_eraseNow_27 rfl rfl (Nat.le_refl _) ?_
    refine ⟨rfl, fun q => absurd q (fun q => ?_), fun _ => rfl⟩
    have q1 := i_lt.mp c2
    have q2 := q.1
    rw [nI_t (by omega)] at q1
    omega
  · refine ex_iload_n (pc := 5) (i := 1) d_RF_eraseNow_5 rfl rfl ?_
    refine ex_if_lt (pc := 6) (tgt := 27) d_RF_eraseNow_6 rfl (fun c6 => ?_) (fun c6 => ?_)
    · refine ex_vret d_RF_eraseNow_27 rfl rfl (Nat.le_refl _) ?_
      refine ⟨rfl, fun q => absurd q (fun q => ?_), fun _ => rfl⟩
      have q1 := i_lt.mp c6
      have q2 := q.2.1
      rw [i_0] at q1
      omega
    · refine ex_iload_n (pc := 9) (i := 1) d_RF_eraseNow_9 rfl rfl ?_
      refine ex_aload_n (pc := 10) (i := 0) d_RF_eraseNow_10 rfl rfl ?_
      refine ex_getx (pc := 11) 12 14 (nI n) d_RF_eraseNow_11 FL_RF_179 (Nat.le_of_ble_eq_true rfl) rfl hn ?_
      refine ex_icmp_gt (pc := 14) (tgt := 27) d_RF_eraseNow_14 rfl (fun c14 => ?_) (fun c14 => ?_)
      · refine ex_vret d_RF_eraseNow_27 rfl rfl (Nat.le_refl _) ?_
        refine ⟨rfl, fun q => absurd q (fun q => ?_), fun _ => rfl⟩
        have q1 := i_lt.mp c14
        have q2 := q.2.2
        have q3 := q.1
        rw [nI_t (by omega)] at q1
        omega
      · have hx : 0 ≤ x.toInt ∧ x.toInt ≤ n := by
          have q1 := i_nlt c6
          have q2 := i_nlt c14
          rw [i_0] at q1
          rw [nI_t (by omega)] at q2
          exact ⟨q1, q2⟩
        obtain ⟨t, htn, rfl⟩ : ∃ t, t ≤ n ∧ x = nI t := ⟨x.toInt.toNat, by omega, i_of x hx.1⟩
        have htt : (nI t).toInt = (t : Int) := nI_t (by omega)
        have hy1 : 1 ≤ y.toInt := by
          have q1 := i_nlt c2
          rw [nI_t (by omega)] at q1
          omega
        refine ex_iload_n (pc := 17) (i := 2) d_RF_eraseNow_17 rfl rfl ?_
        refine ex_aload_n (pc := 18) (i := 0) d_RF_eraseNow_18 rfl rfl ?_
        refine ex_getx (pc := 19) 12 14 (nI n) d_RF_eraseNow_19 FL_RF_179 (Nat.le_of_ble_eq_true rfl) rfl hn ?_
        refine ex_iload_n (pc := 22) (i := 1) d_RF_eraseNow_22 rfl rfl ?_
        refine ex_isub (pc := 23) d_RF_eraseNow_23 ?_
        refine ex_top (pk_sub htn) ?_
        refine ex_icmp_le (pc := 24) (tgt := 28) d_RF_eraseNow_24 rfl (fun c24 => ?_) (fun c24 => ?_)
        · have hy2 : y.toInt ≤ (n - t : Nat) := by
            have q1 := i_le.mp c24
            rw [nI_t (by omega)] at q1
            exact q1
          obtain ⟨u, hun, hyu⟩ : ∃ u, u ≤ n - t ∧ y = nI u := ⟨y.toInt.toNat, by omega, i_of y (by omega)⟩
          have hut : (nI u).toInt = (u : Int) := nI_t (by omega)
          have hu1 : 1 ≤ u := by rw [hyu, hut] at hy1; omega
          refine ex_iload_n (pc := 28) (i := 1) d_RF_eraseNow_28 rfl rfl ?_
          refine ex_istore_n (pc := 29) (i := 3) d_RF_eraseNow_29 rfl (by decide) ?_
          refine ex_heap (h' := HP (va_up iv 106 (mvD (iv 106) t t u)) mp sp mo) ?_ ?_
          · rw [mvD_0, up_id]
          exact lp_RF_eraseNow l G iv mp sp mo n t u (nI t) y hn hl rfl hyu (by unfold delOk; rw [htt, hyu, hut]; omega) (n - t - u) t (by omega) (Nat.le_refl _)
        · refine ex_vret d_RF_eraseNow_27 rfl rfl (Nat.le_refl _) ?_
          refine ⟨rfl, fun q => absurd q (fun q => ?_), fun _ => rfl⟩
          have q1 := i_nle c24
          have q2 := q.2.2
          rw [nI_t (by omega)] at q1
          rw [htt] at q2
          omega

def gAt0 (sz : Int32) (f : Nat → Int32) (x : Int32) : Int32 := if 0 ≤ x.toInt ∧ x.toInt < sz.toInt then f x.toInt.toNat else nI 0
set_option maxRecDepth 100000 in
set_option maxHeartbeats 4000000 in
theorem ct_RF_charAt (l : Launch) (G : ex_G) (iv : Nat → Nat → Int32) (mp : Nat → Nat) (sp mo : Nat) (x : Int32) (hb : (iv 92 14).toInt ≤ ((100 : Nat) : Int)) : CT l G 0 M_RF_charAt [.ref 92, .int x] (HP iv mp sp mo) 0 0 (fun r h' => h' = HP iv mp sp mo ∧ r = some (.int (gAt0 (iv 92 14) (iv 106) x))) := by
  refine ex_enter (by decide) (Nat.le_of_ble_eq_true rfl) (fun v hv => by simp at hv; rcases hv with rfl | rfl <;> rfl) (fun p e s m args below meth c => ?_)
  refine ex_iload_n (pc := 0) (i := 1) d_RF_charAt_0 rfl rfl ?_
  refine ex_if_lt (pc := 1) (tgt := 21) d_RF_charAt_1 rfl (fun c1 => ?_) (fun c1 => ?_)
  · refine ex_iconst (pc := 21) (v := (nI 0)) d_RF_charAt_21 (by decide) ?_
    refine ex_iret (ty := .int) d_RF_charAt_22 rfl rfl rfl (Nat.le_refl _) ?_
    exact ⟨rfl, by rw [gAt0, if_neg (i_neg c1)]⟩
  · refine ex_iload_n (pc := 4) (i := 1) d_RF_charAt_4 rfl rfl ?_
    refine ex_aload_n (pc := 5) (i := 0) d_RF_charAt_5 rfl rfl ?_
    refine ex_getx (pc := 6) 12 14 (iv 92 14) d_RF_charAt_6 FL_RF_179 (Nat.le_of_ble_eq_true rfl) rfl rfl ?_
    refine ex_icmp_ge (pc := 9) (tgt := 21) d_RF_charAt_9 rfl (fun c9 => ?_) (fun c9 => ?_)
    · refine ex_iconst (pc := 21) (v := (nI 0)) d_RF_charAt_21 (by decide) ?_
      refine ex_iret (ty := .int) d_RF_charAt_22 rfl rfl rfl (Nat.le_refl _) ?_
      exact ⟨rfl, by rw [gAt0, if_neg (i_big c9)]⟩
    · refine ex_aload_n (pc := 12) (i := 0) d_RF_charAt_12 rfl rfl ?_
      refine ex_getr (pc := 13) 12 15 d_RF_charAt_13 FL_RF_50 (Nat.le_of_ble_eq_true rfl) rfl rfl ?_
      refine ex_iload_n (pc := 16) (i := 1) d_RF_charAt_16 rfl rfl ?_
      refine ex_ialdx (pc := 17) x.toInt.toNat (iv 106 x.toInt.toNat) d_RF_charAt_17 (Nat.le_of_ble_eq_true rfl) rfl rfl rfl (gAt_i c1 (i_nle c9) hb).1 (gAt_i c1 (i_nle c9) hb).2 rfl ?_
      refine ex_goto (pc := 18) (tgt := 22) d_RF_charAt_18 rfl ?_
      refine ex_iret (ty := .int) d_RF_charAt_22 rfl rfl rfl (Nat.le_refl _) ?_
      exact ⟨rfl, by rw [gAt0, if_pos ⟨by have q1 := i_nlt c1; rw [i_0] at q1; exact q1, i_nle c9⟩]⟩

set_option maxRecDepth 100000 in
set_option maxHeartbeats 4000000 in
theorem ct_RF_at (l : Launch) (G : ex_G) (iv : Nat → Nat → Int32) (mp : Nat → Nat) (sp mo : Nat) (x : Int32) (hx : 0 ≤ x.toInt) (hb : (iv 92 0).toInt ≤ ((40 : Nat) : Int)) : CT l G 0 M_RF_at [.ref 92, .int x] (HP iv mp sp mo) 0 0 (fun r h' => h' = HP iv mp sp mo ∧ r = some (.int (gAt0 (iv 92 0) (iv 93) x))) := by
  refine ex_enter (by decide) (Nat.le_of_ble_eq_true rfl) (fun v hv => by simp at hv; rcases hv with rfl | rfl <;> rfl) (fun p e s m args below meth c => ?_)
  refine ex_iload_n (pc := 0) (i := 1) d_RF_at_0 rfl rfl ?_
  refine ex_aload_n (pc := 1) (i := 0) d_RF_at_1 rfl rfl ?_
  refine ex_getx (pc := 2) 12 0 (iv 92 0) d_RF_at_2 FL_RF_119 (Nat.le_of_ble_eq_true rfl) rfl rfl ?_
  refine ex_icmp_ge (pc := 5) (tgt := 17) d_RF_at_5 rfl (fun c5 => ?_) (fun c5 => ?_)
  · refine ex_iconst (pc := 17) (v := (nI 0)) d_RF_at_17 (by decide) ?_
    refine ex_iret (ty := .int) d_RF_at_18 rfl rfl rfl (Nat.le_refl _) ?_
    exact ⟨rfl, by rw [gAt0, if_neg (i_big c5)]⟩
  · refine ex_aload_n (pc := 8) (i := 0) d_RF_at_8 rfl rfl ?_
    refine ex_getr (pc := 9) 12 1 d_RF_at_9 FL_RF_7 (Nat.le_of_ble_eq_true rfl) rfl rfl ?_
    refine ex_iload_n (pc := 12) (i := 1) d_RF_at_12 rfl rfl ?_
    refine ex_ialdx (pc := 13) x.toInt.toNat (iv 93 x.toInt.toNat) d_RF_at_13 (Nat.le_of_ble_eq_true rfl) rfl rfl rfl (by omega) (show x.toInt.toNat < 40 by have q1 := i_nle c5; omega) rfl ?_
    refine ex_goto (pc := 14) (tgt := 18) d_RF_at_14 rfl ?_
    refine ex_iret (ty := .int) d_RF_at_18 rfl rfl rfl (Nat.le_refl _) ?_
    exact ⟨rfl, by rw [gAt0, if_pos ⟨hx, i_nle c5⟩]⟩

set_option maxRecDepth 100000 in
set_option maxHeartbeats 4000000 in
theorem ct_Tx_replace (l : Launch) (G : ex_G) (iv : Nat → Nat → Int32) (mp : Nat → Nat) (sp mo : Nat) (n t : Nat) (ch : Int32) (hn : iv 39 1 = nI n) (hl : n ≤ 100) (ht : t < n) (hw : wrB ch = true) : CT l G 0 M_Tx_replace [.ref 39, .int (nI t), .int ch] (HP iv mp sp mo) 0 0 (fun r h' => h' = HP (ex_u2 iv 40 t ch) mp sp mo ∧ r = none) := by
  refine ex_enter (by decide) (Nat.le_of_ble_eq_true rfl) (fun v hv => by simp at hv; rcases hv with rfl | rfl | rfl <;> rfl) (fun p e s m args below meth c => ?_)
  refine ex_iload_n (pc := 0) (i := 1) d_Tx_replace_0 rfl rfl ?_
  refine ex_if_lt (pc := 1) (tgt := 20) d_Tx_replace_1 rfl (fun c1 => ?_) (fun c1 => ?_)
  · exact absurd c1 (nI_pos (by omega))
  · refine ex_iload_n (pc := 4) (i := 1) d_Tx_replace_4 rfl rfl ?_
    refine ex_aload_n (pc := 5) (i := 0) d_Tx_replace_5 rfl rfl ?_
    refine ex_getx (pc := 6) 10 1 (nI n) d_Tx_replace_6 FL_Tx_15 (Nat.le_of_ble_eq_true rfl) rfl hn ?_
    refine ex_icmp_ge (pc := 9) (tgt := 20) d_Tx_replace_9 rfl (fun c9 => ?_) (fun c9 => ?_)
    · exact absurd ((n_ge (by omega) (by omega)).mp c9) (by omega)
    · refine ex_aload_n (pc := 12) (i := 0) d_Tx_replace_12 rfl rfl ?_
      refine ex_getr (pc := 13) 10 0 d_Tx_replace_13 FL_Tx_9 (Nat.le_of_ble_eq_true rfl) rfl rfl ?_
      refine ex_iload_n (pc := 16) (i := 1) d_Tx_replace_16 rfl rfl ?_
      refine ex_iload_n (pc := 17) (i := 2) d_Tx_replace_17 rfl rfl ?_
      refine ex_i2c (pc := 18) (v := ch) d_Tx_replace_18 (c_id hw) ?_
      refine ex_cast (pc := 19) t d_Tx_replace_19 (Nat.le_of_ble_eq_true rfl) rfl rfl rfl (nI_t (by omega)) (show t < 100 by omega) ?_
      refine ex_heap (h' := HP (ex_u2 iv 40 t ch) mp sp mo) ?_ ?_
      · rw [wr_nar hw]
        rfl
      refine ex_vret d_Tx_replace_20 rfl rfl (Nat.le_refl _) ?_
      exact ⟨rfl, rfl⟩

