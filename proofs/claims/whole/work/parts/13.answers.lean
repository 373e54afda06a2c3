/-! asking, answers -/
/-- a request behind n messages; q requests were made before -/
def inAsk (iv : Nat → Nat → Int32) (n q : Nat) (k1 k3 k4 : Int32) : Nat → Nat → Int32 := ex_u2 (inPut iv n k1 (nI (q + 1)) k3 k4) 84 5 (nI (q + 1))
def rfAsk (iv : Nat → Nat → Int32) (n q : Nat) (k1 k3 k4 : Int32) : Nat → Nat → Int32 := rfPost (ex_u2 iv 92 38 (nI (q + 1))) n (nI 2) k3 k4 (nI (q + 1)) k1
set_option maxRecDepth 100000 in
set_option maxHeartbeats 4000000 in
theorem ct_In_putRequest (l : Launch) (G : ex_G) (iv : Nat → Nat → Int32) (mp : Nat → Nat) (sp mo : Nat) (n q : Nat) (k1 k3 k4 : Int32) (hn : iv 84 4 = nI n) (hl : n < 12) (hq : iv 84 5 = nI q) : CT l G 2 M_In_putRequest [.ref 84, .int k1, .int k3, .int k4] (HP iv mp sp mo) 0 0 (fun r h' => h' = HP (inAsk iv n q k1 k3 k4) mp sp mo ∧ r = some (.int (nI (q + 1)))) := by
  refine ex_enter (by decide) (Nat.le_of_ble_eq_true rfl) (fun v hv => by simp at hv; rcases hv with rfl | rfl | rfl | rfl <;> rfl) (fun p e s m args below meth c => ?_)
  refine ex_aload_n (pc := 0) (i := 0) d_In_putRequest_0 rfl rfl ?_
  refine ex_iload_n (pc := 1) (i := 1) d_In_putRequest_1 rfl rfl ?_
  refine ex_aload_n (pc := 2) (i := 0) d_In_putRequest_2 rfl rfl ?_
  refine ex_getx (pc := 3) 6 5 (nI q) d_In_putRequest_3 FL_In_32 (Nat.le_of_ble_eq_true rfl) rfl hq ?_
  refine ex_iconst (pc := 6) (v := (nI 1)) d_In_putRequest_6 (by decide) ?_
  refine ex_iadd (pc := 7) d_In_putRequest_7 ?_
  refine ex_iload_n (pc := 8) (i := 2) d_In_putRequest_8 rfl rfl ?_
  refine ex_iload_n (pc := 9) (i := 3) d_In_putRequest_9 rfl rfl ?_
  refine ex_callV (pc := 10) (M' := M_In_put) (as := [.int k1, .int (nI q + nI 1), .int k3, .int k4]) (st := []) d_In_putRequest_10 MW_In_put MI_In_put LK_In_35 (Nat.le_of_ble_eq_true rfl) rfl rfl rfl (ct_In_put l G iv mp sp mo n k1 (nI q + nI 1) k3 k4 hn (by omega)) (ex_lt_rm (by decide)) ⟨Nat.le_refl _, Nat.le_refl _⟩ rfl rfl (Nat.le_of_ble_eq_true rfl) ?_
  rintro _ _ ⟨rfl, rfl⟩
  rw [if_neg (show ¬ n = 12 by omega), decide_eq_true (show ¬ n = 12 by omega), nI_s]
  refine ex_if_ne (pc := 13) (tgt := 18) d_In_putRequest_13 rfl (fun c13 => ?_) (fun c13 => ?_)
  · refine ex_aload_n (pc := 18) (i := 0) d_In_putRequest_18 rfl rfl ?_
    refine ex_dup (pc := 19) d_In_putRequest_19 rfl ?_
    refine ex_getx (pc := 20) 6 5 (nI q) d_In_putRequest_20 FL_In_32 (Nat.le_of_ble_eq_true rfl) rfl hq ?_
    refine ex_iconst (pc := 23) (v := (nI 1)) d_In_putRequest_23 (by decide) ?_
    refine ex_iadd (pc := 24) d_In_putRequest_24 ?_
    refine ex_puti (pc := 25) 6 5 .int d_In_putRequest_25 (PF_In_32 _) (Nat.le_of_ble_eq_true rfl) rfl rfl rfl ?_
    refine ex_heap (h' := HP (inAsk iv n q k1 k3 k4) mp sp mo) ?_ ?_
    · rw [nI_s]
      rfl
    refine ex_aload_n (pc := 28) (i := 0) d_In_putRequest_28 rfl rfl ?_
    refine ex_getx (pc := 29) 6 5 (nI (q + 1)) d_In_putRequest_29 FL_In_32 (Nat.le_of_ble_eq_true rfl) rfl rfl ?_
    refine ex_iret (ty := .int) d_In_putRequest_32 rfl rfl rfl (Nat.le_refl _) ?_
    exact ⟨rfl, rfl⟩
  · exact absurd c13 (by decide)

set_option maxRecDepth 100000 in
set_option maxHeartbeats 4000000 in
theorem ct_TG_ask (l : Launch) (G : ex_G) (iv : Nat → Nat → Int32) (mp : Nat → Nat) (sp mo : Nat) (n q : Nat) (k1 k3 k4 : Int32) (hn : iv 84 4 = nI n) (hl : n ≤ 12) (hq : iv 84 5 = nI q) : CT l G 3 M_TG_ask [.ref 0, .int k1, .int k3, .int k4] (HP iv mp sp mo) 0 0 (fun r h' => h' = (if 0 ≤ k1.toInt ∧ k1.toInt ≤ 3 ∧ n < 12 then HP (inAsk iv n q k1 k3 k4) mp sp mo else HP iv mp sp mo) ∧ r = some (.int (if 0 ≤ k1.toInt ∧ k1.toInt ≤ 3 then (if n < 12 then nI (q + 1) else -2) else -1))) := by
  refine ex_enter (by decide) (Nat.le_of_ble_eq_true rfl) (fun v hv => by simp at hv; rcases hv with rfl | rfl | rfl | rfl <;> rfl) (fun p e s m args below meth c => ?_)
  refine ex_iload_n (pc := 0) (i := 1) d_TG_ask_0 rfl rfl ?_
  refine ex_if_lt (pc := 1) (tgt := 9) d_TG_ask_1 rfl (fun c1 => ?_) (fun c1 => ?_)
  · refine ex_iconst (pc := 9) (v := (-1)) d_TG_ask_9 (by decide) ?_
    refine ex_iret (ty := .int) d_TG_ask_10 rfl rfl rfl (Nat.le_refl _) ?_
    have hk : ¬ (0 ≤ k1.toInt ∧ k1.toInt ≤ 3) := fun q => by have q1 := i_lt.mp c1; rw [i_0] at q1; omega
    rw [if_neg (fun q => hk ⟨q.1, q.2.1⟩), if_neg hk]
    exact ⟨rfl, rfl⟩
  · refine ex_iload_n (pc := 4) (i := 1) d_TG_ask_4 rfl rfl ?_
    refine ex_iconst (pc := 5) (v := (nI 3)) d_TG_ask_5 (by decide) ?_
    refine ex_icmp_le (pc := 6) (tgt := 11) d_TG_ask_6 rfl (fun c6 => ?_) (fun c6 => ?_)
    · have hk : 0 ≤ k1.toInt ∧ k1.toInt ≤ 3 := by
        have q1 := i_nlt c1
        have q2 := i_le.mp c6
        rw [i_0] at q1
        rw [nI_t (by omega)] at q2
        exact ⟨q1, by omega⟩
      refine ex_aload_n (pc := 11) (i := 0) d_TG_ask_11 rfl rfl ?_
      refine ex_getr (pc := 12) 0 7 d_TG_ask_12 FL_TG_67 (Nat.le_of_ble_eq_true rfl) rfl rfl ?_
      refine ex_callV (pc := 15) (M' := M_In_isFull) (as := []) (st := []) d_TG_ask_15 MW_In_isFull MI_In_isFull LK_TG_113 (Nat.le_of_ble_eq_true rfl) rfl rfl rfl (ct_In_isFull l G iv mp sp mo n hn hl) (ex_lt_rm (by decide)) ⟨Nat.le_refl _, Nat.le_refl _⟩ rfl rfl (Nat.le_of_ble_eq_true rfl) ?_
      rintro _ _ ⟨rfl, rfl⟩
      refine ex_if_eq (pc := 18) (tgt := 24) d_TG_ask_18 rfl (fun c18 => ?_) (fun c18 => ?_)
      · have h12 : n < 12 := by
          have q1 := of_decide_eq_false (b2i_0 c18)
          omega
        rw [if_pos ⟨hk.1, hk.2, h12⟩, if_pos hk, if_pos h12]
        refine ex_aload_n (pc := 24) (i := 0) d_TG_ask_24 rfl rfl ?_
        refine ex_getr (pc := 25) 0 7 d_TG_ask_25 FL_TG_67 (Nat.le_of_ble_eq_true rfl) rfl rfl ?_
        refine ex_iload_n (pc := 28) (i := 1) d_TG_ask_28 rfl rfl ?_
        refine ex_iload_n (pc := 29) (i := 2) d_TG_ask_29 rfl rfl ?_
        refine ex_iload_n (pc := 30) (i := 3) d_TG_ask_30 rfl rfl ?_
        refine ex_callV (pc := 31) (M' := M_In_putRequest) (as := [.int k1, .int k3, .int k4]) (st := []) d_TG_ask_31 MW_In_putRequest MI_In_putRequest LK_TG_116 (Nat.le_of_ble_eq_true rfl) rfl rfl rfl (ct_In_putRequest l G iv mp sp mo n q k1 k3 k4 hn h12 hq) (ex_lt_rm (by decide)) ⟨Nat.le_refl _, Nat.le_refl _⟩ rfl rfl (Nat.le_of_ble_eq_true rfl) ?_
        rintro _ _ ⟨rfl, rfl⟩
        refine ex_iret (ty := .int) d_TG_ask_34 rfl rfl rfl (Nat.le_refl _) ?_
        exact ⟨rfl, rfl⟩
      · refine ex_bipush (pc := 21) (v := (-2)) d_TG_ask_21 (by decide) ?_
        refine ex_iret (ty := .int) d_TG_ask_23 rfl rfl rfl (Nat.le_refl _) ?_
        have h12 := of_decide_eq_true (b2i_1 c18)
        rw [if_neg (fun q => by omega), if_pos hk, if_neg (by omega)]
        exact ⟨rfl, rfl⟩
    · refine ex_iconst (pc := 9) (v := (-1)) d_TG_ask_9 (by decide) ?_
      refine ex_iret (ty := .int) d_TG_ask_10 rfl rfl rfl (Nat.le_refl _) ?_
      have hk : ¬ (0 ≤ k1.toInt ∧ k1.toInt ≤ 3) := fun q => by have q1 := i_nle c6; rw [nI_t (by omega)] at q1; omega
      rw [if_neg (fun q => hk ⟨q.1, q.2.1⟩), if_neg hk]
      exact ⟨rfl, rfl⟩

set_option maxRecDepth 100000 in
set_option maxHeartbeats 4000000 in
theorem ct_RF_ask (l : Launch) (G : ex_G) (iv : Nat → Nat → Int32) (mp : Nat → Nat) (sp mo : Nat) (n q : Nat) (k1 k3 k4 : Int32) (hn : iv 92 32 = nI n) (hl : n ≤ 12) (hq : iv 92 38 = nI q) : CT l G 1 M_RF_ask [.ref 92, .int k1, .int k3, .int k4] (HP iv mp sp mo) 0 0 (fun r h' => h' = (if 0 ≤ k1.toInt ∧ k1.toInt ≤ 3 ∧ n < 12 then HP (rfAsk iv n q k1 k3 k4) mp sp mo else HP iv mp sp mo) ∧ r = some (.int (if 0 ≤ k1.toInt ∧ k1.toInt ≤ 3 then (if n < 12 then nI (q + 1) else -2) else -1))) := by
  refine ex_enter (by decide) (Nat.le_of_ble_eq_true rfl) (fun v hv => by simp at hv; rcases hv with rfl | rfl | rfl | rfl <;> rfl) (fun p e s m args below meth c => ?_)
  refine ex_iload_n (pc := 0) (i := 1) d_RF_ask_0 rfl rfl ?_
  refine ex_if_lt (pc := 1) (tgt := 9) d_RF_ask_1 rfl (fun c1 => ?_) (fun c1 => ?_)
  · refine ex_iconst (pc := 9) (v := (-1)) d_RF_ask_9 (by decide) ?_
    refine ex_iret (ty := .int) d_RF_ask_10 rfl rfl rfl (Nat.le_refl _) ?_
    have hk : ¬ (0 ≤ k1.toInt ∧ k1.toInt ≤ 3) := fun q => by have q1 := i_lt.mp c1; rw [i_0] at q1; omega
    rw [if_neg (fun q => hk ⟨q.1, q.2.1⟩), if_neg hk]
    exact ⟨rfl, rfl⟩
  · refine ex_iload_n (pc := 4) (i := 1) d_RF_ask_4 rfl rfl ?_
    refine ex_iconst (pc := 5) (v := (nI 3)) d_RF_ask_5 (by decide) ?_
    refine ex_icmp_le (pc := 6) (tgt := 11) d_RF_ask_6 rfl (fun c6 => ?_) (fun c6 => ?_)
    · have hk : 0 ≤ k1.toInt ∧ k1.toInt ≤ 3 := by
        have q1 := i_nlt c1
        have q2 := i_le.mp c6
        rw [i_0] at q1
        rw [nI_t (by omega)] at q2
        exact ⟨q1, by omega⟩
      refine ex_aload_n (pc := 11) (i := 0) d_RF_ask_11 rfl rfl ?_
      refine ex_getx (pc := 12) 12 32 (nI n) d_RF_ask_12 FL_RF_261 (Nat.le_of_ble_eq_true rfl) rfl hn ?_
      refine ex_bipush (pc := 15) (v := (nI 12)) d_RF_ask_15 (by decide) ?_
      refine ex_icmp_ne (pc := 17) (tgt := 23) d_RF_ask_17 rfl (fun c17 => ?_) (fun c17 => ?_)
      · have h12 : n < 12 := by
          have q1 : ¬ n = 12 := fun q => c17 (by rw [q])
          omega
        rw [if_pos ⟨hk.1, hk.2, h12⟩, if_pos hk, if_pos h12]
        refine ex_aload_n (pc := 23) (i := 0) d_RF_ask_23 rfl rfl ?_
        refine ex_dup (pc := 24) d_RF_ask_24 rfl ?_
        refine ex_getx (pc := 25) 12 38 (nI q) d_RF_ask_25 FL_RF_268 (Nat.le_of_ble_eq_true rfl) rfl hq ?_
        refine ex_iconst (pc := 28) (v := (nI 1)) d_RF_ask_28 (by decide) ?_
        refine ex_iadd (pc := 29) d_RF_ask_29 ?_
        refine ex_puti (pc := 30) 12 38 .int d_RF_ask_30 (PF_RF_268 _) (Nat.le_of_ble_eq_true rfl) rfl rfl rfl ?_
        refine ex_heap (h' := HP (ex_u2 iv 92 38 (nI (q + 1))) mp sp mo) ?_ ?_
        · rw [nI_s]
          rfl
        refine ex_aload_n (pc := 33) (i := 0) d_RF_ask_33 rfl rfl ?_
        refine ex_iconst (pc := 34) (v := (nI 2)) d_RF_ask_34 (by decide) ?_
        refine ex_iload_n (pc := 35) (i := 2) d_RF_ask_35 rfl rfl ?_
        refine ex_iload_n (pc := 36) (i := 3) d_RF_ask_36 rfl rfl ?_
        refine ex_aload_n (pc := 37) (i := 0) d_RF_ask_37 rfl rfl ?_
        refine ex_getx (pc := 38) 12 38 (nI (q + 1)) d_RF_ask_38 FL_RF_268 (Nat.le_of_ble_eq_true rfl) rfl rfl ?_
        refine ex_iload_n (pc := 41) (i := 1) d_RF_ask_41 rfl rfl ?_
        refine ex_callV (pc := 42) (M' := M_RF_post) (as := [.int (nI 2), .int k3, .int k4, .int (nI (q + 1)), .int k1]) (st := []) d_RF_ask_42 MW_RF_post MI_RF_post LK_RF_264 (Nat.le_of_ble_eq_true rfl) rfl rfl rfl (ct_RF_post l G (ex_u2 iv 92 38 (nI (q + 1))) mp sp mo n (nI 2) k3 k4 (nI (q + 1)) k1 hn h12) (ex_lt_rm (by decide)) ⟨Nat.le_refl _, Nat.le_refl _⟩ rfl rfl (Nat.le_of_ble_eq_true rfl) ?_
        rintro _ _ ⟨rfl, rfl⟩
        refine ex_aload_n (pc := 45) (i := 0) d_RF_ask_45 rfl rfl ?_
        refine ex_getx (pc := 46) 12 38 (nI (q + 1)) d_RF_ask_46 FL_RF_268 (Nat.le_of_ble_eq_true rfl) rfl rfl ?_
        refine ex_iret (ty := .int) d_RF_ask_49 rfl rfl rfl (Nat.le_refl _) ?_
        exact ⟨rfl, rfl⟩
      · refine ex_bipush (pc := 20) (v := (-2)) d_RF_ask_20 (by decide) ?_
        refine ex_iret (ty := .int) d_RF_ask_22 rfl rfl rfl (Nat.le_refl _) ?_
        have h12 := (n_eq (by omega) (by omega)).mp c17
        rw [if_neg (fun q => by omega), if_pos hk, if_neg (by omega)]
        exact ⟨rfl, rfl⟩
    · refine ex_iconst (pc := 9) (v := (-1)) d_RF_ask_9 (by decide) ?_
      refine ex_iret (ty := .int) d_RF_ask_10 rfl rfl rfl (Nat.le_refl _) ?_
      have hk : ¬ (0 ≤ k1.toInt ∧ k1.toInt ≤ 3) := fun q => by have q1 := i_nle c6; rw [nI_t (by omega)] at q1; omega
      rw [if_neg (fun q => hk ⟨q.1, q.2.1⟩), if_neg hk]
      exact ⟨rfl, rfl⟩

/-- what f holds at the first place from i on, k places long, where P holds -/
def fndV (P : Nat → Bool) (f : Nat → Int32) : Nat → Nat → Int32
  | 0, _ => -1
  | k + 1, i => if P i = true then f i else fndV P f k (i + 1)
def anKeep (iv : Nat → Nat → Int32) (t : Nat) (q v : Int32) : Nat → Nat → Int32 := ex_u2 (ex_u2 (ex_u2 iv 90 t q) 91 t v) 89 2 (nI ((t + 1) % 8))
set_option maxRecDepth 100000 in
set_option maxHeartbeats 4000000 in
theorem ct_An_keep (l : Launch) (G : ex_G) (iv : Nat → Nat → Int32) (mp : Nat → Nat) (sp mo : Nat) (t : Nat) (q v : Int32) (hn : iv 89 2 = nI t) (ht : t < 8) : CT l G 0 M_An_keep [.ref 89, .int q, .int v] (HP iv mp sp mo) 0 0 (fun r h' => h' = HP (anKeep iv t q v) mp sp mo ∧ r = none) := by
  refine ex_enter (by decide) (Nat.le_of_ble_eq_true rfl) (fun v hv => by simp at hv; rcases hv with rfl | rfl | rfl <;> rfl) (fun p e s m args below meth c => ?_)
  refine ex_aload_n (pc := 0) (i := 0) d_An_keep_0 rfl rfl ?_
  refine ex_getr (pc := 1) 1 0 d_An_keep_1 FL_An_9 (Nat.le_of_ble_eq_true rfl) rfl rfl ?_
  refine ex_aload_n (pc := 4) (i := 0) d_An_keep_4 rfl rfl ?_
  refine ex_getx (pc := 5) 1 2 (nI t) d_An_keep_5 FL_An_18 (Nat.le_of_ble_eq_true rfl) rfl hn ?_
  refine ex_iload_n (pc := 8) (i := 1) d_An_keep_8 rfl rfl ?_
  refine ex_iast (pc := 9) t d_An_keep_9 (Nat.le_of_ble_eq_true rfl) rfl rfl rfl (nI_t (by omega)) (show t < 8 from ht) ?_
  refine ex_aload_n (pc := 10) (i := 0) d_An_keep_10 rfl rfl ?_
  refine ex_getr (pc := 11) 1 1 d_An_keep_11 FL_An_15 (Nat.le_of_ble_eq_true rfl) rfl rfl ?_
  refine ex_aload_n (pc := 14) (i := 0) d_An_keep_14 rfl rfl ?_
  refine ex_getx (pc := 15) 1 2 (nI t) d_An_keep_15 FL_An_18 (Nat.le_of_ble_eq_true rfl) rfl hn ?_
  refine ex_iload_n (pc := 18) (i := 2) d_An_keep_18 rfl rfl ?_
  refine ex_iast (pc := 19) t d_An_keep_19 (Nat.le_of_ble_eq_true rfl) rfl rfl rfl (nI_t (by omega)) (show t < 8 from ht) ?_
  refine ex_aload_n (pc := 20) (i := 0) d_An_keep_20 rfl rfl ?_
  refine ex_aload_n (pc := 21) (i := 0) d_An_keep_21 rfl rfl ?_
  refine ex_getx (pc := 22) 1 2 (nI t) d_An_keep_22 FL_An_18 (Nat.le_of_ble_eq_true rfl) rfl hn ?_
  refine ex_iconst (pc := 25) (v := (nI 1)) d_An_keep_25 (by decide) ?_
  refine ex_iadd (pc := 26) d_An_keep_26 ?_
  refine ex_bipush (pc := 27) (v := (nI 8)) d_An_keep_27 (by decide) ?_
  refine ex_irem (pc := 29) d_An_keep_29 (by decide) ?_
  refine ex_puti (pc := 30) 1 2 .int d_An_keep_30 (PF_An_18 _) (Nat.le_of_ble_eq_true rfl) rfl rfl rfl ?_
  refine ex_heap (h' := HP (anKeep iv t q v) mp sp mo) ?_ ?_
  · rw [nI_s, pk_rem (by omega) (by omega) (by omega)]
    rfl
  refine ex_vret d_An_keep_33 rfl rfl (Nat.le_refl _) ?_
  exact ⟨rfl, rfl⟩

set_option maxRecDepth 100000 in
set_option maxHeartbeats 4000000 in
theorem lp_An_of {p : Program} {e : Env} {s : State} {m : MethodId} {args : Array Value} {below : List Frame} {meth : Method} {c : Code} (l : Launch) (G : ex_G) (iv : Nat → Nat → Int32) (mp : Nat → Nat) (sp mo : Nat) (x : Int32) (hx : 0 < x.toInt) (v : Int32) : ∀ (k i : Nat), i + k = 8 → fndV (fun j => decide (iv 90 j = x)) (iv 91) k i = v → EXM M_An_of l G 0 (fun r h' => h' = HP iv mp sp mo ∧ r = some (.int v)) p e s m args below meth c 2 [some (.ref 89), some (.int x), some (.int (nI i))] [] (HP iv mp sp mo) := by
  intro k
  induction k with
  | zero =>
    intro i hik hv
    subst hv
    refine ex_iload_n (pc := 2) (i := 1) d_An_of_2 rfl rfl ?_
    refine ex_if_le (pc := 3) (tgt := 35) d_An_of_3 rfl (fun c3 => ?_) (fun c3 => ?_)
    · exact absurd c3 (fun q => by have q1 := i_le.mp q; rw [i_0] at q1; omega)
    · refine ex_iload_n (pc := 6) (i := 2) d_An_of_6 rfl rfl ?_
      refine ex_bipush (pc := 7) (v := (nI 8)) d_An_of_7 (by decide) ?_
      refine ex_icmp_ge (pc := 9) (tgt := 35) d_An_of_9 rfl (fun c9 => ?_) (fun c9 => ?_)
      · refine ex_iconst (pc := 35) (v := (-1)) d_An_of_35 (by decide) ?_
        refine ex_iret (ty := .int) d_An_of_36 rfl rfl rfl (Nat.le_refl _) ?_
        exact ⟨rfl, rfl⟩
      · exact absurd ((n_ge (by omega) (by omega)).mpr (by omega)) c9
  | succ k ih =>
    intro i hik hv
    refine ex_iload_n (pc := 2) (i := 1) d_An_of_2 rfl rfl ?_
    refine ex_if_le (pc := 3) (tgt := 35) d_An_of_3 rfl (fun c3 => ?_) (fun c3 => ?_)
    · exact absurd c3 (fun q => by have q1 := i_le.mp q; rw [i_0] at q1; omega)
    · refine ex_iload_n (pc := 6) (i := 2) d_An_of_6 rfl rfl ?_
      refine ex_bipush (pc := 7) (v := (nI 8)) d_An_of_7 (by decide) ?_
      refine ex_icmp_ge (pc := 9) (tgt := 35) d_An_of_9 rfl (fun c9 => ?_) (fun c9 => ?_)
      · exact absurd ((n_ge (by omega) (by omega)).mp c9) (by omega)
      · refine ex_aload_n (pc := 12) (i := 0) d_An_of_12 rfl rfl ?_
        refine ex_getr (pc := 13) 1 0 d_An_of_13 FL_An_9 (Nat.le_of_ble_eq_true rfl) rfl rfl ?_
        refine ex_iload_n (pc := 16) (i := 2) d_An_of_16 rfl rfl ?_
        refine ex_ialdx (pc := 17) i (iv 90 i) d_An_of_17 (Nat.le_of_ble_eq_true rfl) rfl rfl rfl (nI_t (by omega)) (show i < 8 by omega) rfl ?_
        refine ex_iload_n (pc := 18) (i := 1) d_An_of_18 rfl rfl ?_
        refine ex_icmp_ne (pc := 19) (tgt := 29) d_An_of_19 rfl (fun c19 => ?_) (fun c19 => ?_)
        · refine ex_iinc (pc := 29) (v := (nI (i + 1))) d_An_of_29 rfl (nI_1 i) (by decide) ?_
          refine ex_goto (pc := 32) (tgt := 2) d_An_of_32 rfl ?_
          exact ih (i + 1) (by omega) (by rw [fndV, if_neg (by simp [c19])] at hv; exact hv)
        · refine ex_aload_n (pc := 22) (i := 0) d_An_of_22 rfl rfl ?_
          refine ex_getr (pc := 23) 1 1 d_An_of_23 FL_An_15 (Nat.le_of_ble_eq_true rfl) rfl rfl ?_
          refine ex_iload_n (pc := 26) (i := 2) d_An_of_26 rfl rfl ?_
          refine ex_ialdx (pc := 27) i (iv 91 i) d_An_of_27 (Nat.le_of_ble_eq_true rfl) rfl rfl rfl (nI_t (by omega)) (show i < 8 by omega) rfl ?_
          refine ex_iret (ty := .int) d_An_of_28 rfl rfl rfl (Nat.le_refl _) ?_
          refine ⟨rfl, ?_⟩
          rw [← hv, fndV, if_pos (by simp [c19])]

set_option maxRecDepth 100000 in
set_option maxHeartbeats 4000000 in
theorem ct_An_of (l : Launch) (G : ex_G) (iv : Nat → Nat → Int32) (mp : Nat → Nat) (sp mo : Nat) (x : Int32) : CT l G 0 M_An_of [.ref 89, .int x] (HP iv mp sp mo) 0 0 (fun r h' => h' = HP iv mp sp mo ∧ r = some (.int (if 0 < x.toInt then fndV (fun j => decide (iv 90 j = x)) (iv 91) 8 0 else -1))) := by
  refine ex_enter (by decide) (Nat.le_of_ble_eq_true rfl) (fun v hv => by simp at hv; rcases hv with rfl | rfl <;> rfl) (fun p e s m args below meth c => ?_)
  refine ex_iconst (pc := 0) (v := (nI 0)) d_An_of_0 (by decide) ?_
  refine ex_istore_n (pc := 1) (i := 2) d_An_of_1 rfl (by decide) ?_
  by_cases hx : 0 < x.toInt
  · rw [if_pos hx]
    exact lp_An_of l G iv mp sp mo x hx _ 8 0 (by omega) rfl
  rw [if_neg hx]
  refine ex_iload_n (pc := 2) (i := 1) d_An_of_2 rfl rfl ?_
  refine ex_if_le (pc := 3) (tgt := 35) d_An_of_3 rfl (fun c3 => ?_) (fun c3 => ?_)
  · refine ex_iconst (pc := 35) (v := (-1)) d_An_of_35 (by decide) ?_
    refine ex_iret (ty := .int) d_An_of_36 rfl rfl rfl (Nat.le_refl _) ?_
    exact ⟨rfl, rfl⟩
  · exact absurd c3 (fun q => q (i_le.mpr (by rw [i_0]; omega)))

def cAns (iv : Nat → Nat → Int32) (n : Nat) (x : Int32) : Int32 := if cfind iv n x = -1 then (if 0 < x.toInt then fndV (fun j => decide (iv 90 j = x)) (iv 91) 8 0 else -1) else -3
set_option maxRecDepth 100000 in
set_option maxHeartbeats 4000000 in
theorem ct_TG_answer (l : Launch) (G : ex_G) (iv : Nat → Nat → Int32) (mp : Nat → Nat) (sp mo : Nat) (x : Int32) (n : Nat) (hn : iv 84 4 = nI n) (hl : n ≤ 12) : CT l G 1 M_TG_answer [.ref 0, .int x] (HP iv mp sp mo) 0 0 (fun r h' => h' = HP iv mp sp mo ∧ r = some (.int (cAns iv n x))) := by
  refine ex_enter (by decide) (Nat.le_of_ble_eq_true rfl) (fun v hv => by simp at hv; rcases hv with rfl | rfl <;> rfl) (fun p e s m args below meth c => ?_)
  refine ex_aload_n (pc := 0) (i := 0) d_TG_answer_0 rfl rfl ?_
  refine ex_getr (pc := 1) 0 7 d_TG_answer_1 FL_TG_67 (Nat.le_of_ble_eq_true rfl) rfl rfl ?_
  refine ex_iload_n (pc := 4) (i := 1) d_TG_answer_4 rfl rfl ?_
  refine ex_callV (pc := 5) (M' := M_In_find) (as := [.int x]) (st := []) d_TG_answer_5 MW_In_find MI_In_find LK_TG_120 (Nat.le_of_ble_eq_true rfl) rfl rfl rfl (ct_In_find l G iv mp sp mo x n hn hl) (ex_lt_rm (by decide)) ⟨Nat.le_refl _, Nat.le_refl _⟩ rfl rfl (Nat.le_of_ble_eq_true rfl) ?_
  rintro _ _ ⟨rfl, rfl⟩
  change EX _ _ _ _ _ _ _ _ _ _ _ _ _ _ _ _ _ [.int (cfind iv n x)] _
  refine ex_iconst (pc := 8) (v := (-1)) d_TG_answer_8 (by decide) ?_
  refine ex_icmp_ne (pc := 9) (tgt := 23) d_TG_answer_9 rfl (fun c9 => ?_) (fun c9 => ?_)
  · refine ex_bipush (pc := 23) (v := (-3)) d_TG_answer_23 (by decide) ?_
    refine ex_iret (ty := .int) d_TG_answer_25 rfl rfl rfl (Nat.le_refl _) ?_
    exact ⟨rfl, by rw [cAns, if_neg c9]⟩
  · refine ex_aload_n (pc := 12) (i := 0) d_TG_answer_12 rfl rfl ?_
    refine ex_getr (pc := 13) 0 8 d_TG_answer_13 FL_TG_74 (Nat.le_of_ble_eq_true rfl) rfl rfl ?_
    refine ex_iload_n (pc := 16) (i := 1) d_TG_answer_16 rfl rfl ?_
    refine ex_callV (pc := 17) (M' := M_An_of) (as := [.int x]) (st := []) d_TG_answer_17 MW_An_of MI_An_of LK_TG_158 (Nat.le_of_ble_eq_true rfl) rfl rfl rfl (ct_An_of l G iv mp sp mo x) (ex_lt_rm (by decide)) ⟨Nat.le_refl _, Nat.le_refl _⟩ rfl rfl (Nat.le_of_ble_eq_true rfl) ?_
    rintro _ _ ⟨rfl, rfl⟩
    refine ex_goto (pc := 20) (tgt := 25) d_TG_answer_20 rfl ?_
    refine ex_iret (ty := .int) d_TG_answer_25 rfl rfl rfl (Nat.le_refl _) ?_
    exact ⟨rfl, by rw [cAns, if_pos c9]⟩

def rAns (iv : Nat → Nat → Int32) (n a : Nat) (x : Int32) : Int32 := if 0 ≤ (rfind iv n x).toInt then -3 else fndV (fun j => decide (iv 126 j = x)) (iv 127) (min 8 a) 0
set_option maxRecDepth 100000 in
set_option maxHeartbeats 4000000 in
theorem lp_RF_answer {p : Program} {e : Env} {s : State} {m : MethodId} {args : Array Value} {below : List Frame} {meth : Method} {c : Code} (l : Launch) (G : ex_G) (iv : Nat → Nat → Int32) (mp : Nat → Nat) (sp mo : Nat) (x : Int32) (a : Nat) (ha : iv 92 39 = nI a) (hal : a ≤ 1000000) (v : Int32) : ∀ (k i : Nat), i + k = min 8 a → fndV (fun j => decide (iv 126 j = x)) (iv 127) k i = v → EXM M_RF_answer l G 1 (fun r h' => h' = HP iv mp sp mo ∧ r = some (.int v)) p e s m args below meth c 13 [some (.ref 92), some (.int x), some (.int (nI i))] [] (HP iv mp sp mo) := by
  intro k
  induction k with
  | zero =>
    intro i hik hv
    subst hv
    refine ex_iload_n (pc := 13) (i := 2) d_RF_answer_13 rfl rfl ?_
    refine ex_bipush (pc := 14) (v := (nI 8)) d_RF_answer_14 (by decide) ?_
    refine ex_icmp_ge (pc := 16) (tgt := 50) d_RF_answer_16 rfl (fun c16 => ?_) (fun c16 => ?_)
    · refine ex_iconst (pc := 50) (v := (-1)) d_RF_answer_50 (by decide) ?_
      refine ex_iret (ty := .int) d_RF_answer_51 rfl rfl rfl (Nat.le_refl _) ?_
      exact ⟨rfl, rfl⟩
    · refine ex_iload_n (pc := 19) (i := 2) d_RF_answer_19 rfl rfl ?_
      refine ex_aload_n (pc := 20) (i := 0) d_RF_answer_20 rfl rfl ?_
      refine ex_getx (pc := 21) 12 39 (nI a) d_RF_answer_21 FL_RF_295 (Nat.le_of_ble_eq_true rfl) rfl ha ?_
      refine ex_icmp_ge (pc := 24) (tgt := 50) d_RF_answer_24 rfl (fun c24 => ?_) (fun c24 => ?_)
      · refine ex_iconst (pc := 50) (v := (-1)) d_RF_answer_50 (by decide) ?_
        refine ex_iret (ty := .int) d_RF_answer_51 rfl rfl rfl (Nat.le_refl _) ?_
        exact ⟨rfl, rfl⟩
      · exact absurd ((n_ge (by omega) (by omega)).mpr (by have q1 : ¬ 8 ≤ i := fun q => c16 ((n_ge (by omega) (by omega)).mpr q); omega)) c24
  | succ k ih =>
    intro i hik hv
    refine ex_iload_n (pc := 13) (i := 2) d_RF_answer_13 rfl rfl ?_
    refine ex_bipush (pc := 14) (v := (nI 8)) d_RF_answer_14 (by decide) ?_
    refine ex_icmp_ge (pc := 16) (tgt := 50) d_RF_answer_16 rfl (fun c16 => ?_) (fun c16 => ?_)
    · exact absurd ((n_ge (by omega) (by omega)).mp c16) (by omega)
    · refine ex_iload_n (pc := 19) (i := 2) d_RF_answer_19 rfl rfl ?_
      refine ex_aload_n (pc := 20) (i := 0) d_RF_answer_20 rfl rfl ?_
      refine ex_getx (pc := 21) 12 39 (nI a) d_RF_answer_21 FL_RF_295 (Nat.le_of_ble_eq_true rfl) rfl ha ?_
      refine ex_icmp_ge (pc := 24) (tgt := 50) d_RF_answer_24 rfl (fun c24 => ?_) (fun c24 => ?_)
      · exact absurd ((n_ge (by omega) (by omega)).mp c24) (by omega)
      · refine ex_aload_n (pc := 27) (i := 0) d_RF_answer_27 rfl rfl ?_
        refine ex_getr (pc := 28) 12 40 d_RF_answer_28 FL_RF_110 (Nat.le_of_ble_eq_true rfl) rfl rfl ?_
        refine ex_iload_n (pc := 31) (i := 2) d_RF_answer_31 rfl rfl ?_
        refine ex_ialdx (pc := 32) i (iv 126 i) d_RF_answer_32 (Nat.le_of_ble_eq_true rfl) rfl rfl rfl (nI_t (by omega)) (show i < 8 by omega) rfl ?_
        refine ex_iload_n (pc := 33) (i := 1) d_RF_answer_33 rfl rfl ?_
        refine ex_icmp_ne (pc := 34) (tgt := 44) d_RF_answer_34 rfl (fun c34 => ?_) (fun c34 => ?_)
        · refine ex_iinc (pc := 44) (v := (nI (i + 1))) d_RF_answer_44 rfl (nI_1 i) (by decide) ?_
          refine ex_goto (pc := 47) (tgt := 13) d_RF_answer_47 rfl ?_
          exact ih (i + 1) (by omega) (by rw [fndV, if_neg (by simp [c34])] at hv; exact hv)
        · refine ex_aload_n (pc := 37) (i := 0) d_RF_answer_37 rfl rfl ?_
          refine ex_getr (pc := 38) 12 41 d_RF_answer_38 FL_RF_113 (Nat.le_of_ble_eq_true rfl) rfl rfl ?_
          refine ex_iload_n (pc := 41) (i := 2) d_RF_answer_41 rfl rfl ?_
          refine ex_ialdx (pc := 42) i (iv 127 i) d_RF_answer_42 (Nat.le_of_ble_eq_true rfl) rfl rfl rfl (nI_t (by omega)) (show i < 8 by omega) rfl ?_
          refine ex_iret (ty := .int) d_RF_answer_43 rfl rfl rfl (Nat.le_refl _) ?_
          refine ⟨rfl, ?_⟩
          rw [← hv, fndV, if_pos (by simp [c34])]

set_option maxRecDepth 100000 in
set_option maxHeartbeats 4000000 in
theorem ct_RF_answer (l : Launch) (G : ex_G) (iv : Nat → Nat → Int32) (mp : Nat → Nat) (sp mo : Nat) (x : Int32) (n a : Nat) (hn : iv 92 32 = nI n) (hl : n ≤ 12) (ha : iv 92 39 = nI a) (hal : a ≤ 1000000) : CT l G 1 M_RF_answer [.ref 92, .int x] (HP iv mp sp mo) 0 0 (fun r h' => h' = HP iv mp sp mo ∧ r = some (.int (rAns iv n a x))) := by
  refine ex_enter (by decide) (Nat.le_of_ble_eq_true rfl) (fun v hv => by simp at hv; rcases hv with rfl | rfl <;> rfl) (fun p e s m args below meth c => ?_)
  refine ex_aload_n (pc := 0) (i := 0) d_RF_answer_0 rfl rfl ?_
  refine ex_iload_n (pc := 1) (i := 1) d_RF_answer_1 rfl rfl ?_
  refine ex_callV (pc := 2) (M' := M_RF_waitsAt) (as := [.int x]) (st := []) d_RF_answer_2 MW_RF_waitsAt MI_RF_waitsAt LK_RF_271 (Nat.le_of_ble_eq_true rfl) rfl rfl rfl (ct_RF_waitsAt l G iv mp sp mo x n hn hl) (ex_lt_rm (by decide)) ⟨Nat.le_refl _, Nat.le_refl _⟩ rfl rfl (Nat.le_of_ble_eq_true rfl) ?_
  rintro _ _ ⟨rfl, rfl⟩
  change EX _ _ _ _ _ _ _ _ _ _ _ _ _ _ _ _ _ [.int (rfind iv n x)] _
  refine ex_if_lt (pc := 5) (tgt := 11) d_RF_answer_5 rfl (fun c5 => ?_) (fun c5 => ?_)
  · refine ex_iconst (pc := 11) (v := (nI 0)) d_RF_answer_11 (by decide) ?_
    refine ex_istore_n (pc := 12) (i := 2) d_RF_answer_12 rfl (by decide) ?_
    have q0 : ¬ 0 ≤ (rfind iv n x).toInt := by
      have q1 := i_lt.mp c5
      rw [i_0] at q1
      omega
    rw [rAns, if_neg q0]
    exact lp_RF_answer l G iv mp sp mo x a ha hal _ (min 8 a) 0 (by omega) rfl
  · refine ex_bipush (pc := 8) (v := (-3)) d_RF_answer_8 (by decide) ?_
    refine ex_iret (ty := .int) d_RF_answer_10 rfl rfl rfl (Nat.le_refl _) ?_
    have q0 : 0 ≤ (rfind iv n x).toInt := by
      have q1 := i_nlt c5
      rw [i_0] at q1
      omega
    exact ⟨rfl, by rw [rAns, if_pos q0]⟩

