/-! offers at a place (class) -/
theorem insD_le (P : Nat → Bool) : ∀ k, insD P k ≤ k := by
  intro k
  induction k with
  | zero => exact Nat.le_refl _
  | succ k ih =>
    rw [insD]
    by_cases h : P (k + 1) = true
    · rw [if_pos h]
      exact Nat.le_refl _
    · rw [if_neg h]
      omega
def inEl (iv : Nat → Nat → Int32) (cn : Nat) (x : Int32) : Nat := insD (fun q => hasIn iv q x) cn
def ofrC (iv : Nat → Nat → Int32) (mp : Nat → Nat) (cn tg : Nat) (x : Int32) : Int32 := if x < 0 then -1 else if iv 39 1 < x then -1 else if anyF (witP iv x) tg 0 = true then -1 else ofrF iv (elMo iv mp (inEl iv cn x)) cn (inEl iv cn x) x 8 0 (nI 0)
set_option maxRecDepth 100000 in
set_option maxHeartbeats 4000000 in
theorem ct_TG_offerAt (l : Launch) (G : ex_G) (iv : Nat → Nat → Int32) (mp : Nat → Nat) (sp mo : Nat) (hmp : ∀ k, k < 9 → mp k < 10) (cn tg : Nat) (hc : iv 41 2 = nI cn) (hl : cn ≤ 33) (ht : iv 41 7 = nI tg) (htl : tg ≤ 33) (x : Int32) : CT l G 4 M_TG_offerAt [.ref 0, .int x] (HP iv mp sp mo) 0 0 (fun r h' => h' = HP iv mp sp mo ∧ r = some (.int (ofrC iv mp cn tg x))) := by
  refine ex_enter (by decide) (Nat.le_of_ble_eq_true rfl) (fun v hv => by simp at hv; rcases hv with rfl | rfl <;> rfl) (fun p e s m args below meth c => ?_)
  refine ex_iload_n (pc := 0) (i := 1) d_TG_offerAt_0 rfl rfl ?_
  refine ex_if_lt (pc := 1) (tgt := 26) d_TG_offerAt_1 rfl (fun c1 => ?_) (fun c1 => ?_)
  · refine ex_iconst (pc := 26) (v := (-1)) d_TG_offerAt_26 (by decide) ?_
    refine ex_iret (ty := .int) d_TG_offerAt_27 rfl rfl rfl (Nat.le_refl _) ?_
    exact ⟨rfl, by rw [ofrC, if_pos c1]⟩
  · refine ex_iload_n (pc := 4) (i := 1) d_TG_offerAt_4 rfl rfl ?_
    refine ex_aload_n (pc := 5) (i := 0) d_TG_offerAt_5 rfl rfl ?_
    refine ex_getr (pc := 6) 0 3 d_TG_offerAt_6 FL_TG_35 (Nat.le_of_ble_eq_true rfl) rfl rfl ?_
    refine ex_getx (pc := 9) 10 1 (iv 39 1) d_TG_offerAt_9 FL_TG_161 (Nat.le_of_ble_eq_true rfl) rfl rfl ?_
    refine ex_icmp_gt (pc := 12) (tgt := 26) d_TG_offerAt_12 rfl (fun c12 => ?_) (fun c12 => ?_)
    · refine ex_iconst (pc := 26) (v := (-1)) d_TG_offerAt_26 (by decide) ?_
      refine ex_iret (ty := .int) d_TG_offerAt_27 rfl rfl rfl (Nat.le_refl _) ?_
      exact ⟨rfl, by rw [ofrC, if_neg c1, if_pos c12]⟩
    · refine ex_aload_n (pc := 15) (i := 0) d_TG_offerAt_15 rfl rfl ?_
      refine ex_getr (pc := 16) 0 4 d_TG_offerAt_16 FL_TG_44 (Nat.le_of_ble_eq_true rfl) rfl rfl ?_
      refine ex_iload_n (pc := 19) (i := 1) d_TG_offerAt_19 rfl rfl ?_
      refine ex_callV (pc := 20) (M' := M_Tr_isWithinTag) (as := [.int x]) (st := []) d_TG_offerAt_20 MW_Tr_isWithinTag MI_Tr_isWithinTag LK_TG_203 (Nat.le_of_ble_eq_true rfl) rfl rfl rfl (ct_Tr_isWithinTag l G iv mp sp mo tg ht htl x) (ex_lt_rm (by decide)) ⟨Nat.le_refl _, Nat.le_refl _⟩ rfl rfl (Nat.le_of_ble_eq_true rfl) ?_
      rintro _ _ ⟨rfl, rfl⟩
      refine ex_if_eq (pc := 23) (tgt := 28) d_TG_offerAt_23 rfl (fun c23 => ?_) (fun c23 => ?_)
      · refine ex_aload_n (pc := 28) (i := 0) d_TG_offerAt_28 rfl rfl ?_
        refine ex_getr (pc := 29) 0 2 d_TG_offerAt_29 FL_TG_28 (Nat.le_of_ble_eq_true rfl) rfl rfl ?_
        refine ex_aload_n (pc := 32) (i := 0) d_TG_offerAt_32 rfl rfl ?_
        refine ex_getr (pc := 33) 0 4 d_TG_offerAt_33 FL_TG_44 (Nat.le_of_ble_eq_true rfl) rfl rfl ?_
        refine ex_aload_n (pc := 36) (i := 0) d_TG_offerAt_36 rfl rfl ?_
        refine ex_getr (pc := 37) 0 4 d_TG_offerAt_37 FL_TG_44 (Nat.le_of_ble_eq_true rfl) rfl rfl ?_
        refine ex_iload_n (pc := 40) (i := 1) d_TG_offerAt_40 rfl rfl ?_
        refine ex_callV (pc := 41) (M' := M_Tr_insideOf) (as := [.int x]) (st := [.ref 41, .ref 7]) d_TG_offerAt_41 MW_Tr_insideOf MI_Tr_insideOf LK_TG_206 (Nat.le_of_ble_eq_true rfl) rfl rfl rfl (ct_Tr_insideOf l G iv mp sp mo x cn hc hl) (ex_lt_rm (by decide)) ⟨Nat.le_refl _, Nat.le_refl _⟩ rfl rfl (Nat.le_of_ble_eq_true rfl) ?_
        rintro _ _ ⟨rfl, rfl⟩
        refine ex_top (show _ = nI (inEl iv cn x) from rfl) ?_
        refine ex_iload_n (pc := 44) (i := 1) d_TG_offerAt_44 rfl rfl ?_
        refine ex_callV (pc := 45) (M' := M_Ms_offer) (as := [.ref 41, .int (nI (inEl iv cn x)), .int x]) (st := []) d_TG_offerAt_45 MW_Ms_offer MI_Ms_offer LK_TG_209 (Nat.le_of_ble_eq_true rfl) rfl rfl rfl (ct_Ms_offer l G iv mp sp mo hmp cn (inEl iv cn x) hc hl (insD_le _ _) x) (ex_lt_rm (by decide)) ⟨Nat.le_refl _, Nat.le_refl _⟩ rfl rfl (Nat.le_of_ble_eq_true rfl) ?_
        rintro _ _ ⟨rfl, rfl⟩
        refine ex_iret (ty := .int) d_TG_offerAt_48 rfl rfl rfl (Nat.le_refl _) ?_
        exact ⟨rfl, by rw [ofrC, if_neg c1, if_neg c12, b2i_0 c23]; rfl⟩
      · refine ex_iconst (pc := 26) (v := (-1)) d_TG_offerAt_26 (by decide) ?_
        refine ex_iret (ty := .int) d_TG_offerAt_27 rfl rfl rfl (Nat.le_refl _) ?_
        exact ⟨rfl, by rw [ofrC, if_neg c1, if_neg c12, if_pos (b2i_1 c23)]⟩

