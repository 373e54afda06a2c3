/-! a change is worked off (class) -/
set_option maxRecDepth 100000 in
set_option maxHeartbeats 4000000 in
theorem ct_TG_change (l : Launch) (G : ex_G) (iv : Nat → Nat → Int32) (mp : Nat → Nat) (sp mo : Nat) (n : Nat) (kd x y : Int32) (hn : iv 39 1 = nI n) (hl : n ≤ 100) (hc : txC iv n) : CT l G 2 M_TG_change [.ref 0, .int kd, .int x, .int y] (HP iv mp sp mo) 0 0 (fun r h' => r = none ∧ (kd = nI 4 → (inOk n x y → ∃ g, h' = HP (ex_u2 (ex_u2 (va_up iv 40 g) 39 1 (nI (n + 1))) 0 9 (nI 1)) mp sp mo ∧ ∀ k, k < n + 1 → g k = insF (iv 40) x.toInt.toNat y k) ∧ (¬ inOk n x y → h' = HP (ex_u2 iv 0 9 (nI 1)) mp sp mo)) ∧ (¬ kd = nI 4 → (delOk n x y → ∃ g, h' = HP (ex_u2 (ex_u2 (va_up iv 40 g) 39 1 (nI (n - y.toInt.toNat))) 0 9 (nI 1)) mp sp mo ∧ ∀ k, k < n - y.toInt.toNat → g k = delF (iv 40) x.toInt.toNat y.toInt.toNat k) ∧ (¬ delOk n x y → h' = HP (ex_u2 iv 0 9 (nI 1)) mp sp mo))) := by
  refine ex_enter (by decide) (Nat.le_of_ble_eq_true rfl) (fun v hv => by simp at hv; rcases hv with rfl | rfl | rfl | rfl <;> rfl) (fun p e s m args below meth c => ?_)
  refine ex_iload_n (pc := 0) (i := 1) d_TG_change_0 rfl rfl ?_
  refine ex_iconst (pc := 1) (v := (nI 4)) d_TG_change_1 (by decide) ?_
  refine ex_icmp_ne (pc := 2) (tgt := 17) d_TG_change_2 rfl (fun c2 => ?_) (fun c2 => ?_)
  · refine ex_aload_n (pc := 17) (i := 0) d_TG_change_17 rfl rfl ?_
    refine ex_getr (pc := 18) 0 3 d_TG_change_18 FL_TG_35 (Nat.le_of_ble_eq_true rfl) rfl rfl ?_
    refine ex_iload_n (pc := 21) (i := 2) d_TG_change_21 rfl rfl ?_
    refine ex_iload_n (pc := 22) (i := 3) d_TG_change_22 rfl rfl ?_
    refine ex_callV (pc := 23) (M' := M_Tx_takeOut) (as := [.int x, .int y]) (st := []) d_TG_change_23 MW_Tx_takeOut MI_Tx_takeOut LK_TG_187 (Nat.le_of_ble_eq_true rfl) rfl rfl rfl (ct_Tx_takeOut l G iv mp sp mo n x y hn hl hc) (ex_lt_rm (by decide)) ⟨Nat.le_refl _, Nat.le_refl _⟩ rfl rfl (Nat.le_of_ble_eq_true rfl) ?_
    rintro r2 h2 ⟨rfl, hq1, hq2⟩
    obtain ⟨iv2, rfl, hA, hB⟩ : ∃ iv2, h2 = HP iv2 mp sp mo ∧ (delOk n x y → ∃ g, iv2 = ex_u2 (va_up iv 40 g) 39 1 (nI (n - y.toInt.toNat)) ∧ ∀ k, k < n - y.toInt.toNat → g k = delF (iv 40) x.toInt.toNat y.toInt.toNat k) ∧ (¬ delOk n x y → iv2 = iv) := by
      by_cases hok : delOk n x y
      · obtain ⟨g, e1, e2⟩ := hq1 hok
        exact ⟨_, e1, fun _ => ⟨g, rfl, e2⟩, fun z => absurd hok z⟩
      · exact ⟨iv, hq2 hok, fun z => absurd z hok, fun _ => rfl⟩
    refine ex_aload_n (pc := 26) (i := 0) d_TG_change_26 rfl rfl ?_
    refine ex_iconst (pc := 27) (v := (nI 1)) d_TG_change_27 (by decide) ?_
    refine ex_puti (pc := 28) 0 9 .boolean d_TG_change_28 (PF_TG_78 _) (Nat.le_of_ble_eq_true rfl) rfl rfl rfl ?_
    refine ex_vret d_TG_change_31 rfl rfl (Nat.le_refl _) ?_
    exact ⟨rfl, fun z => absurd z c2, fun _ => ⟨fun z => by obtain ⟨g, e1, e2⟩ := hA z; exact ⟨g, by rw [← e1]; rfl, e2⟩, fun z => by rw [← hB z]; rfl⟩⟩
  · refine ex_aload_n (pc := 5) (i := 0) d_TG_change_5 rfl rfl ?_
    refine ex_getr (pc := 6) 0 3 d_TG_change_6 FL_TG_35 (Nat.le_of_ble_eq_true rfl) rfl rfl ?_
    refine ex_iload_n (pc := 9) (i := 2) d_TG_change_9 rfl rfl ?_
    refine ex_iload_n (pc := 10) (i := 3) d_TG_change_10 rfl rfl ?_
    refine ex_callV (pc := 11) (M' := M_Tx_putIn) (as := [.int x, .int y]) (st := []) d_TG_change_11 MW_Tx_putIn MI_Tx_putIn LK_TG_184 (Nat.le_of_ble_eq_true rfl) rfl rfl rfl (ct_Tx_putIn l G iv mp sp mo n x y hn hl hc) (ex_lt_rm (by decide)) ⟨Nat.le_refl _, Nat.le_refl _⟩ rfl rfl (Nat.le_of_ble_eq_true rfl) ?_
    rintro r2 h2 ⟨rfl, hq1, hq2⟩
    obtain ⟨iv2, rfl, hA, hB⟩ : ∃ iv2, h2 = HP iv2 mp sp mo ∧ (inOk n x y → ∃ g, iv2 = ex_u2 (va_up iv 40 g) 39 1 (nI (n + 1)) ∧ ∀ k, k < n + 1 → g k = insF (iv 40) x.toInt.toNat y k) ∧ (¬ inOk n x y → iv2 = iv) := by
      by_cases hok : inOk n x y
      · obtain ⟨g, e1, e2⟩ := hq1 hok
        exact ⟨_, e1, fun _ => ⟨g, rfl, e2⟩, fun z => absurd hok z⟩
      · exact ⟨iv, hq2 hok, fun z => absurd z hok, fun _ => rfl⟩
    refine ex_goto (pc := 14) (tgt := 26) d_TG_change_14 rfl ?_
    refine ex_aload_n (pc := 26) (i := 0) d_TG_change_26 rfl rfl ?_
    refine ex_iconst (pc := 27) (v := (nI 1)) d_TG_change_27 (by decide) ?_
    refine ex_puti (pc := 28) 0 9 .boolean d_TG_change_28 (PF_TG_78 _) (Nat.le_of_ble_eq_true rfl) rfl rfl rfl ?_
    refine ex_vret d_TG_change_31 rfl rfl (Nat.le_refl _) ?_
    exact ⟨rfl, fun _ => ⟨fun z => by obtain ⟨g, e1, e2⟩ := hA z; exact ⟨g, by rw [← e1]; rfl, e2⟩, fun z => by rw [← hB z]; rfl⟩, fun z => absurd c2 z⟩

