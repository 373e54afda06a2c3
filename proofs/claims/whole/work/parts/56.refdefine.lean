/-! the reference defines a model -/
def cnR (iv : Nat → Nat → Int32) (n : Nat) (b : Bool) : Nat := cntF (fun q => if b = true then nmB (iv 93 q) else decide (iv 93 q = nI 40)) n 0 0
def tooR (iv : Nat → Nat → Int32) (n : Nat) : Bool := decide (10 < cnR iv n true) || decide (6 < cnR iv n false)
def TdP (iv : Nat → Nat → Int32) (mp : Nat → Nat) (sp mo n : Nat) (f : Nat → Int32) (y : Int32) (RE : RS) (r : Option Value) (h' : ex_H) : Prop :=
  ((y = nI 46 ∨ nmB y = true) → tooR iv n = false →
    (frO (dCh f n) = n ∧ r = some (.int (nI 0)) ∧ h' = HP (tkD (rxN iv) (rowN y) (decide (dCh f n 0 = nI 35))) mp sp mo) ∨
    (frO (dCh f n) ≠ n ∧ scP (dCh f n) n (frO (dCh f n)) 0 false false = true ∧ r = some (.int (nI 0)) ∧ h' = HP (tkD (rxE iv RE) (rowN y) (decide (dCh f n 0 = nI 35))) mp sp mo) ∨
    (frO (dCh f n) ≠ n ∧ scP (dCh f n) n (frO (dCh f n)) 0 false false = false ∧ r = some (.int (-1)) ∧ h' = HP iv mp sp mo)) ∧
  ((y = nI 46 ∨ nmB y = true) → tooR iv n = true → r = some (.int (-2)) ∧ h' = HP iv mp sp mo) ∧
  (¬ (y = nI 46 ∨ nmB y = true) → r = some (.int (-1)) ∧ h' = HP iv mp sp mo)
theorem cnt_le (P : Nat → Bool) : ∀ k i acc, cntF P k i acc ≤ acc + k := by
  intro k
  induction k with
  | zero => intro i acc; exact Nat.le_refl _
  | succ k ih =>
    intro i acc
    rw [cntF]
    by_cases hp : P i = true
    · rw [if_pos hp]
      have := ih (i + 1) (acc + 1)
      omega
    · rw [if_neg hp]
      have := ih (i + 1) acc
      omega
set_option maxRecDepth 100000 in
set_option maxHeartbeats 4000000 in
theorem ct_RF_takeDraft (l : Launch) (G : ex_G) (iv : Nat → Nat → Int32) (mp : Nat → Nat) (sp mo : Nat) (n : Nat) (f : Nat → Int32) (hd : DrR iv n f) (y : Int32) (RE : RS) (hRE : tooR iv n = false → frO (dCh f n) ≠ n → scP (dCh f n) n (frO (dCh f n)) 0 false false = true → rdP (dCh f n) n (frO (dCh f n)) (rx0 iv) = some RE) : CT l G 3 M_RF_takeDraft [.ref 92, .int y] (HP iv mp sp mo) 0 0 (fun r h' => TdP iv mp sp mo n f y RE r h') := by
  refine ex_enter (by decide) (Nat.le_of_ble_eq_true rfl) (fun v hv => by simp at hv; rcases hv with rfl | rfl <;> rfl) (fun p e s m args below meth c => ?_)
  have hn40 := hd.1
  have b1 : cnR iv n true ≤ 40 := Nat.le_trans (cnt_le _ n 0 0) (by omega)
  have b2 : cnR iv n false ≤ 40 := Nat.le_trans (cnt_le _ n 0 0) (by omega)
  have hn1X : gAt0 (iv 92 0) (iv 93) (nI 0) = nI 35 → 1 ≤ n := by
    intro z
    have m35 := (mk_at (p9 := 0) hd (by omega) (by decide) (by decide)).mp z
    refine Classical.byContradiction (fun z1 => ?_)
    unfold dCh at m35
    rw [if_neg (by omega)] at m35
    exact absurd m35 (by decide)
  have hREX1 : ¬ nI 10 < nI (cnR iv n true) → nI (cnR iv n false) ≤ nI 6 → gAt0 (iv 92 0) (iv 93) (nI 0) = nI 35 → ¬ nI 1 = nI n → scP (dCh f n) n 1 0 false false = true → rdP (dCh f n) n 1 (rx0 iv) = some RE := by
    intro c22 c32 z z2 z3
    have hb : tooR iv n = false := by unfold tooR; rw [decide_eq_false (fun z => c22 ((n_lt (by omega) (by omega)).mpr z)), decide_eq_false (p := 6 < cnR iv n false) (fun z => by have := (n_ge (by omega) (by omega)).mp c32; omega)]; rfl
    have mF : frO (dCh f n) = 1 := if_pos ((mk_at (p9 := 0) hd (by omega) (by decide) (by decide)).mp z)
    rw [mF] at hRE
    exact hRE hb (fun q => z2 (by rw [← q])) z3
  have hREX0 : ¬ nI 10 < nI (cnR iv n true) → nI (cnR iv n false) ≤ nI 6 → ¬ gAt0 (iv 92 0) (iv 93) (nI 0) = nI 35 → ¬ nI 0 = nI n → scP (dCh f n) n 0 0 false false = true → rdP (dCh f n) n 0 (rx0 iv) = some RE := by
    intro c22 c32 z z2 z3
    have hb : tooR iv n = false := by unfold tooR; rw [decide_eq_false (fun z => c22 ((n_lt (by omega) (by omega)).mpr z)), decide_eq_false (p := 6 < cnR iv n false) (fun z => by have := (n_ge (by omega) (by omega)).mp c32; omega)]; rfl
    have mF : frO (dCh f n) = 0 := if_neg (fun q => z ((mk_at (p9 := 0) hd (by omega) (by decide) (by decide)).mpr q))
    rw [mF] at hRE
    exact hRE hb (fun q => z2 (by rw [← q])) z3
  refine ex_iload_n (pc := 0) (i := 1) d_RF_takeDraft_0 rfl rfl ?_
  refine ex_callS (pc := 1) (M' := M_RF_isName) (as := [.int y]) (st := []) d_RF_takeDraft_1 MW_RF_isName ST_RF_isName LK_RF_127 (ct_RF_isName l G (HP iv mp sp mo) y) (ex_lt_rm (by decide)) ⟨Nat.le_refl _, Nat.le_refl _⟩ rfl rfl (Nat.le_of_ble_eq_true rfl) ?_
  rintro _ _ ⟨rfl, rfl⟩
  refine ex_if_ne (pc := 4) (tgt := 15) d_RF_takeDraft_4 rfl (fun c4 => ?_) (fun c4 => ?_)
  · refine ex_aload_n (pc := 15) (i := 0) d_RF_takeDraft_15 rfl rfl ?_
    refine ex_iconst (pc := 16) (v := (nI 1)) d_RF_takeDraft_16 (by decide) ?_
    refine ex_callV (pc := 17) (M' := M_RF_count) (as := [.int (nI 1)]) (st := []) d_RF_takeDraft_17 MW_RF_count MI_RF_count LK_RF_147 (Nat.le_of_ble_eq_true rfl) rfl rfl rfl (ct_RF_count l G iv mp sp mo true n hd.2.1 hd.1) (ex_lt_rm (by decide)) ⟨Nat.le_refl _, Nat.le_refl _⟩ rfl rfl (Nat.le_of_ble_eq_true rfl) ?_
    rintro _ _ ⟨rfl, rfl⟩
    refine ex_top (show _ = nI (cnR iv n true) from rfl) ?_
    refine ex_bipush (pc := 20) (v := (nI 10)) d_RF_takeDraft_20 (by decide) ?_
    refine ex_icmp_gt (pc := 22) (tgt := 35) d_RF_takeDraft_22 rfl (fun c22 => ?_) (fun c22 => ?_)
    · refine ex_bipush (pc := 35) (v := (-2)) d_RF_takeDraft_35 (by decide) ?_
      refine ex_iret (ty := .int) d_RF_takeDraft_37 rfl rfl rfl (Nat.le_refl _) ?_
      have hb : tooR iv n = true := by unfold tooR; rw [decide_eq_true ((n_lt (by omega) (by omega)).mp c22)]; rfl
      exact ⟨fun _ z => (by rw [hb] at z; cases z), fun _ _ => ⟨rfl, rfl⟩, fun z => absurd (Or.inr (b2i_1 c4)) z⟩
    · refine ex_aload_n (pc := 25) (i := 0) d_RF_takeDraft_25 rfl rfl ?_
      refine ex_iconst (pc := 26) (v := (nI 0)) d_RF_takeDraft_26 (by decide) ?_
      refine ex_callV (pc := 27) (M' := M_RF_count) (as := [.int (nI 0)]) (st := []) d_RF_takeDraft_27 MW_RF_count MI_RF_count LK_RF_147 (Nat.le_of_ble_eq_true rfl) rfl rfl rfl (ct_RF_count l G iv mp sp mo false n hd.2.1 hd.1) (ex_lt_rm (by decide)) ⟨Nat.le_refl _, Nat.le_refl _⟩ rfl rfl (Nat.le_of_ble_eq_true rfl) ?_
      rintro _ _ ⟨rfl, rfl⟩
      refine ex_top (show _ = nI (cnR iv n false) from rfl) ?_
      refine ex_bipush (pc := 30) (v := (nI 6)) d_RF_takeDraft_30 (by decide) ?_
      refine ex_icmp_le (pc := 32) (tgt := 38) d_RF_takeDraft_32 rfl (fun c32 => ?_) (fun c32 => ?_)
      · refine ex_aload_n (pc := 38) (i := 0) d_RF_takeDraft_38 rfl rfl ?_
        refine ex_iconst (pc := 39) (v := (nI 0)) d_RF_takeDraft_39 (by decide) ?_
        refine ex_callV (pc := 40) (M' := M_RF_at) (as := [.int (nI 0)]) (st := []) d_RF_takeDraft_40 MW_RF_at MI_RF_at LK_RF_123 (Nat.le_of_ble_eq_true rfl) rfl rfl rfl (ct_RF_at l G iv mp sp mo (nI 0) (by decide) (dr_b hd)) (ex_lt_rm (by decide)) ⟨Nat.le_refl _, Nat.le_refl _⟩ rfl rfl (Nat.le_of_ble_eq_true rfl) ?_
        rintro _ _ ⟨rfl, rfl⟩
        refine ex_bipush (pc := 43) (v := (nI 35)) d_RF_takeDraft_43 (by decide) ?_
        refine ex_icmp_ne (pc := 45) (tgt := 52) d_RF_takeDraft_45 rfl (fun c45 => ?_) (fun c45 => ?_)
        · refine ex_iconst (pc := 52) (v := (nI 0)) d_RF_takeDraft_52 (by decide) ?_
          refine ex_istore_n (pc := 53) (i := 2) d_RF_takeDraft_53 rfl (by decide) ?_
          refine ex_iload_n (pc := 54) (i := 2) d_RF_takeDraft_54 rfl rfl ?_
          refine ex_if_eq (pc := 55) (tgt := 62) d_RF_takeDraft_55 rfl (fun c55 => ?_) (fun c55 => ?_)
          · refine ex_iconst (pc := 62) (v := (nI 0)) d_RF_takeDraft_62 (by decide) ?_
            refine ex_istore_n (pc := 63) (i := 3) d_RF_takeDraft_63 rfl (by decide) ?_
            refine ex_iload_n (pc := 64) (i := 3) d_RF_takeDraft_64 rfl rfl ?_
            refine ex_aload_n (pc := 65) (i := 0) d_RF_takeDraft_65 rfl rfl ?_
            refine ex_getx (pc := 66) 12 0 (nI n) d_RF_takeDraft_66 FL_RF_119 (Nat.le_of_ble_eq_true rfl) rfl hd.2.1 ?_
            refine ex_icmp_ne (pc := 69) (tgt := 79) d_RF_takeDraft_69 rfl (fun c69 => ?_) (fun c69 => ?_)
            · refine ex_aload_n (pc := 79) (i := 0) d_RF_takeDraft_79 rfl rfl ?_
              refine ex_iload_n (pc := 80) (i := 3) d_RF_takeDraft_80 rfl rfl ?_
              refine ex_callV (pc := 81) (M' := M_RF_isExpression) (as := [.int (nI 0)]) (st := []) d_RF_takeDraft_81 MW_RF_isExpression MI_RF_isExpression LK_RF_154 (Nat.le_of_ble_eq_true rfl) rfl rfl rfl (ct_RF_isExpression l G iv mp sp mo n f hd 0 (Nat.zero_le _)) (ex_lt_rm (by decide)) ⟨Nat.le_refl _, Nat.le_refl _⟩ rfl rfl (Nat.le_of_ble_eq_true rfl) ?_
              rintro _ _ ⟨rfl, rfl⟩
              refine ex_if_eq (pc := 84) (tgt := 95) d_RF_takeDraft_84 rfl (fun c84 => ?_) (fun c84 => ?_)
              · refine ex_iconst (pc := 95) (v := (-1)) d_RF_takeDraft_95 (by decide) ?_
                refine ex_iret (ty := .int) d_RF_takeDraft_96 rfl rfl rfl (Nat.le_refl _) ?_
                have hb : tooR iv n = false := by unfold tooR; rw [decide_eq_false (fun z => c22 ((n_lt (by omega) (by omega)).mpr z)), decide_eq_false (p := 6 < cnR iv n false) (fun z => by have := (n_ge (by omega) (by omega)).mp c32; omega)]; rfl
                have m35 : ¬ dCh f n 0 = nI 35 := fun z => c45 ((mk_at (p9 := 0) hd (by omega) (by decide) (by decide)).mpr z)
                have mD : decide (dCh f n 0 = nI 35) = false := decide_eq_false m35
                have mF : frO (dCh f n) = 0 := if_neg m35
                have hne : frO (dCh f n) ≠ n := fun z => c69 (by rw [← z, mF])
                exact ⟨fun _ _ => Or.inr (Or.inr ⟨hne, by rw [mF]; exact b2i_0 c84, rfl, rfl⟩), fun _ z => (by rw [hb] at z; cases z), fun z => absurd (Or.inr (b2i_1 c4)) z⟩
              · refine ex_aload_n (pc := 87) (i := 0) d_RF_takeDraft_87 rfl rfl ?_
                refine ex_iload_n (pc := 88) (i := 3) d_RF_takeDraft_88 rfl rfl ?_
                refine ex_callV (pc := 89) (M' := M_RF_readExpression) (as := [.int (nI 0)]) (st := []) d_RF_takeDraft_89 MW_RF_readExpression MI_RF_readExpression LK_RF_157 (Nat.le_of_ble_eq_true rfl) rfl rfl rfl (ct_RF_readExpression l G iv mp sp mo n f hd 0 (Nat.zero_le _) RE (hREX0 c22 c32 c45 c69 (b2i_1 c84))) (ex_lt_rm (by decide)) ⟨Nat.le_refl _, Nat.le_refl _⟩ rfl rfl (Nat.le_of_ble_eq_true rfl) ?_
                rintro _ _ ⟨rfl, rfl⟩
                refine ex_goto (pc := 92) (tgt := 97) d_RF_takeDraft_92 rfl ?_
                have hb : tooR iv n = false := by unfold tooR; rw [decide_eq_false (fun z => c22 ((n_lt (by omega) (by omega)).mpr z)), decide_eq_false (p := 6 < cnR iv n false) (fun z => by have := (n_ge (by omega) (by omega)).mp c32; omega)]; rfl
                have m35 : ¬ dCh f n 0 = nI 35 := fun z => c45 ((mk_at (p9 := 0) hd (by omega) (by decide) (by decide)).mpr z)
                have mD : decide (dCh f n 0 = nI 35) = false := decide_eq_false m35
                have mF : frO (dCh f n) = 0 := if_neg m35
                have hne : frO (dCh f n) ≠ n := fun z => c69 (by rw [← z, mF])
                exact lt_RF_takeDraft l G (rxE iv RE) mp sp mo y (Or.inr (b2i_1 c4)) false (chPs RE.P 0 0).2.2.2 (by unfold rxE; exact u2s) _ _ _ _ ⟨fun _ _ => Or.inr (Or.inl ⟨hne, by rw [mF]; exact b2i_1 c84, rfl, by rw [mD]⟩), fun _ z => (by rw [hb] at z; cases z), fun z => absurd (Or.inr (b2i_1 c4)) z⟩
            · refine ex_aload_n (pc := 72) (i := 0) d_RF_takeDraft_72 rfl rfl ?_
              refine ex_callV (pc := 73) (M' := M_RF_readNothing) (as := []) (st := []) d_RF_takeDraft_73 MW_RF_readNothing MI_RF_readNothing LK_RF_151 (Nat.le_of_ble_eq_true rfl) rfl rfl rfl (ct_RF_readNothing l G iv mp sp mo) (ex_lt_rm (by decide)) ⟨Nat.le_refl _, Nat.le_refl _⟩ rfl rfl (Nat.le_of_ble_eq_true rfl) ?_
              rintro _ _ ⟨rfl, rfl⟩
              refine ex_goto (pc := 76) (tgt := 97) d_RF_takeDraft_76 rfl ?_
              have hb : tooR iv n = false := by unfold tooR; rw [decide_eq_false (fun z => c22 ((n_lt (by omega) (by omega)).mpr z)), decide_eq_false (p := 6 < cnR iv n false) (fun z => by have := (n_ge (by omega) (by omega)).mp c32; omega)]; rfl
              have m35 : ¬ dCh f n 0 = nI 35 := fun z => c45 ((mk_at (p9 := 0) hd (by omega) (by decide) (by decide)).mpr z)
              have mD : decide (dCh f n 0 = nI 35) = false := decide_eq_false m35
              have mF : frO (dCh f n) = 0 := if_neg m35
              exact lt_RF_takeDraft l G (rxN iv) mp sp mo y (Or.inr (b2i_1 c4)) false true (by unfold rxN; exact u2s) _ _ _ _ ⟨fun _ _ => Or.inl ⟨by rw [mF]; exact (n_eq (by omega) (by omega)).mp c69, rfl, by rw [mD]⟩, fun _ z => (by rw [hb] at z; cases z), fun z => absurd (Or.inr (b2i_1 c4)) z⟩
          · exact absurd rfl c55
        · refine ex_iconst (pc := 48) (v := (nI 1)) d_RF_takeDraft_48 (by decide) ?_
          refine ex_goto (pc := 49) (tgt := 53) d_RF_takeDraft_49 rfl ?_
          refine ex_istore_n (pc := 53) (i := 2) d_RF_takeDraft_53 rfl (by decide) ?_
          refine ex_iload_n (pc := 54) (i := 2) d_RF_takeDraft_54 rfl rfl ?_
          refine ex_if_eq (pc := 55) (tgt := 62) d_RF_takeDraft_55 rfl (fun c55 => ?_) (fun c55 => ?_)
          · exact absurd c55 (by decide)
          · refine ex_iconst (pc := 58) (v := (nI 1)) d_RF_takeDraft_58 (by decide) ?_
            refine ex_goto (pc := 59) (tgt := 63) d_RF_takeDraft_59 rfl ?_
            refine ex_istore_n (pc := 63) (i := 3) d_RF_takeDraft_63 rfl (by decide) ?_
            refine ex_iload_n (pc := 64) (i := 3) d_RF_takeDraft_64 rfl rfl ?_
            refine ex_aload_n (pc := 65) (i := 0) d_RF_takeDraft_65 rfl rfl ?_
            refine ex_getx (pc := 66) 12 0 (nI n) d_RF_takeDraft_66 FL_RF_119 (Nat.le_of_ble_eq_true rfl) rfl hd.2.1 ?_
            refine ex_icmp_ne (pc := 69) (tgt := 79) d_RF_takeDraft_69 rfl (fun c69 => ?_) (fun c69 => ?_)
            · refine ex_aload_n (pc := 79) (i := 0) d_RF_takeDraft_79 rfl rfl ?_
              refine ex_iload_n (pc := 80) (i := 3) d_RF_takeDraft_80 rfl rfl ?_
              refine ex_callV (pc := 81) (M' := M_RF_isExpression) (as := [.int (nI 1)]) (st := []) d_RF_takeDraft_81 MW_RF_isExpression MI_RF_isExpression LK_RF_154 (Nat.le_of_ble_eq_true rfl) rfl rfl rfl (ct_RF_isExpression l G iv mp sp mo n f hd 1 (hn1X c45)) (ex_lt_rm (by decide)) ⟨Nat.le_refl _, Nat.le_refl _⟩ rfl rfl (Nat.le_of_ble_eq_true rfl) ?_
              rintro _ _ ⟨rfl, rfl⟩
              refine ex_if_eq (pc := 84) (tgt := 95) d_RF_takeDraft_84 rfl (fun c84 => ?_) (fun c84 => ?_)
              · refine ex_iconst (pc := 95) (v := (-1)) d_RF_takeDraft_95 (by decide) ?_
                refine ex_iret (ty := .int) d_RF_takeDraft_96 rfl rfl rfl (Nat.le_refl _) ?_
                have hb : tooR iv n = false := by unfold tooR; rw [decide_eq_false (fun z => c22 ((n_lt (by omega) (by omega)).mpr z)), decide_eq_false (p := 6 < cnR iv n false) (fun z => by have := (n_ge (by omega) (by omega)).mp c32; omega)]; rfl
                have m35 : dCh f n 0 = nI 35 := (mk_at (p9 := 0) hd (by omega) (by decide) (by decide)).mp c45
                have mD : decide (dCh f n 0 = nI 35) = true := decide_eq_true m35
                have mF : frO (dCh f n) = 1 := if_pos m35
                have hne : frO (dCh f n) ≠ n := fun z => c69 (by rw [← z, mF])
                exact ⟨fun _ _ => Or.inr (Or.inr ⟨hne, by rw [mF]; exact b2i_0 c84, rfl, rfl⟩), fun _ z => (by rw [hb] at z; cases z), fun z => absurd (Or.inr (b2i_1 c4)) z⟩
              · refine ex_aload_n (pc := 87) (i := 0) d_RF_takeDraft_87 rfl rfl ?_
                refine ex_iload_n (pc := 88) (i := 3) d_RF_takeDraft_88 rfl rfl ?_
                refine ex_callV (pc := 89) (M' := M_RF_readExpression) (as := [.int (nI 1)]) (st := []) d_RF_takeDraft_89 MW_RF_readExpression MI_RF_readExpression LK_RF_157 (Nat.le_of_ble_eq_true rfl) rfl rfl rfl (ct_RF_readExpression l G iv mp sp mo n f hd 1 (hn1X c45) RE (hREX1 c22 c32 c45 c69 (b2i_1 c84))) (ex_lt_rm (by decide)) ⟨Nat.le_refl _, Nat.le_refl _⟩ rfl rfl (Nat.le_of_ble_eq_true rfl) ?_
                rintro _ _ ⟨rfl, rfl⟩
                refine ex_goto (pc := 92) (tgt := 97) d_RF_takeDraft_92 rfl ?_
                have hb : tooR iv n = false := by unfold tooR; rw [decide_eq_false (fun z => c22 ((n_lt (by omega) (by omega)).mpr z)), decide_eq_false (p := 6 < cnR iv n false) (fun z => by have := (n_ge (by omega) (by omega)).mp c32; omega)]; rfl
                have m35 : dCh f n 0 = nI 35 := (mk_at (p9 := 0) hd (by omega) (by decide) (by decide)).mp c45
                have mD : decide (dCh f n 0 = nI 35) = true := decide_eq_true m35
                have mF : frO (dCh f n) = 1 := if_pos m35
                have hne : frO (dCh f n) ≠ n := fun z => c69 (by rw [← z, mF])
                exact lt_RF_takeDraft l G (rxE iv RE) mp sp mo y (Or.inr (b2i_1 c4)) true (chPs RE.P 0 0).2.2.2 (by unfold rxE; exact u2s) _ _ _ _ ⟨fun _ _ => Or.inr (Or.inl ⟨hne, by rw [mF]; exact b2i_1 c84, rfl, by rw [mD]⟩), fun _ z => (by rw [hb] at z; cases z), fun z => absurd (Or.inr (b2i_1 c4)) z⟩
            · refine ex_aload_n (pc := 72) (i := 0) d_RF_takeDraft_72 rfl rfl ?_
              refine ex_callV (pc := 73) (M' := M_RF_readNothing) (as := []) (st := []) d_RF_takeDraft_73 MW_RF_readNothing MI_RF_readNothing LK_RF_151 (Nat.le_of_ble_eq_true rfl) rfl rfl rfl (ct_RF_readNothing l G iv mp sp mo) (ex_lt_rm (by decide)) ⟨Nat.le_refl _, Nat.le_refl _⟩ rfl rfl (Nat.le_of_ble_eq_true rfl) ?_
              rintro _ _ ⟨rfl, rfl⟩
              refine ex_goto (pc := 76) (tgt := 97) d_RF_takeDraft_76 rfl ?_
              have hb : tooR iv n = false := by unfold tooR; rw [decide_eq_false (fun z => c22 ((n_lt (by omega) (by omega)).mpr z)), decide_eq_false (p := 6 < cnR iv n false) (fun z => by have := (n_ge (by omega) (by omega)).mp c32; omega)]; rfl
              have m35 : dCh f n 0 = nI 35 := (mk_at (p9 := 0) hd (by omega) (by decide) (by decide)).mp c45
              have mD : decide (dCh f n 0 = nI 35) = true := decide_eq_true m35
              have mF : frO (dCh f n) = 1 := if_pos m35
              exact lt_RF_takeDraft l G (rxN iv) mp sp mo y (Or.inr (b2i_1 c4)) true true (by unfold rxN; exact u2s) _ _ _ _ ⟨fun _ _ => Or.inl ⟨by rw [mF]; exact (n_eq (by omega) (by omega)).mp c69, rfl, by rw [mD]⟩, fun _ z => (by rw [hb] at z; cases z), fun z => absurd (Or.inr (b2i_1 c4)) z⟩
      · refine ex_bipush (pc := 35) (v := (-2)) d_RF_takeDraft_35 (by decide) ?_
        refine ex_iret (ty := .int) d_RF_takeDraft_37 rfl rfl rfl (Nat.le_refl _) ?_
        have hb : tooR iv n = true := by unfold tooR; rw [decide_eq_true (p := 6 < cnR iv n false) (Classical.byContradiction (fun z => c32 ((n_ge (by omega) (by omega)).mpr (by omega)))), Bool.or_true]
        exact ⟨fun _ z => (by rw [hb] at z; cases z), fun _ _ => ⟨rfl, rfl⟩, fun z => absurd (Or.inr (b2i_1 c4)) z⟩
  · refine ex_iload_n (pc := 7) (i := 1) d_RF_takeDraft_7 rfl rfl ?_
    refine ex_bipush (pc := 8) (v := (nI 46)) d_RF_takeDraft_8 (by decide) ?_
    refine ex_icmp_eq (pc := 10) (tgt := 15) d_RF_takeDraft_10 rfl (fun c10 => ?_) (fun c10 => ?_)
    · refine ex_aload_n (pc := 15) (i := 0) d_RF_takeDraft_15 rfl rfl ?_
      refine ex_iconst (pc := 16) (v := (nI 1)) d_RF_takeDraft_16 (by decide) ?_
      refine ex_callV (pc := 17) (M' := M_RF_count) (as := [.int (nI 1)]) (st := []) d_RF_takeDraft_17 MW_RF_count MI_RF_count LK_RF_147 (Nat.le_of_ble_eq_true rfl) rfl rfl rfl (ct_RF_count l G iv mp sp mo true n hd.2.1 hd.1) (ex_lt_rm (by decide)) ⟨Nat.le_refl _, Nat.le_refl _⟩ rfl rfl (Nat.le_of_ble_eq_true rfl) ?_
      rintro _ _ ⟨rfl, rfl⟩
      refine ex_top (show _ = nI (cnR iv n true) from rfl) ?_
      refine ex_bipush (pc := 20) (v := (nI 10)) d_RF_takeDraft_20 (by decide) ?_
      refine ex_icmp_gt (pc := 22) (tgt := 35) d_RF_takeDraft_22 rfl (fun c22 => ?_) (fun c22 => ?_)
      · refine ex_bipush (pc := 35) (v := (-2)) d_RF_takeDraft_35 (by decide) ?_
        refine ex_iret (ty := .int) d_RF_takeDraft_37 rfl rfl rfl (Nat.le_refl _) ?_
        have hb : tooR iv n = true := by unfold tooR; rw [decide_eq_true ((n_lt (by omega) (by omega)).mp c22)]; rfl
        exact ⟨fun _ z => (by rw [hb] at z; cases z), fun _ _ => ⟨rfl, rfl⟩, fun z => absurd (Or.inl c10) z⟩
      · refine ex_aload_n (pc := 25) (i := 0) d_RF_takeDraft_25 rfl rfl ?_
        refine ex_iconst (pc := 26) (v := (nI 0)) d_RF_takeDraft_26 (by decide) ?_
        refine ex_callV (pc := 27) (M' := M_RF_count) (as := [.int (nI 0)]) (st := []) d_RF_takeDraft_27 MW_RF_count MI_RF_count LK_RF_147 (Nat.le_of_ble_eq_true rfl) rfl rfl rfl (ct_RF_count l G iv mp sp mo false n hd.2.1 hd.1) (ex_lt_rm (by decide)) ⟨Nat.le_refl _, Nat.le_refl _⟩ rfl rfl (Nat.le_of_ble_eq_true rfl) ?_
        rintro _ _ ⟨rfl, rfl⟩
        refine ex_top (show _ = nI (cnR iv n false) from rfl) ?_
        refine ex_bipush (pc := 30) (v := (nI 6)) d_RF_takeDraft_30 (by decide) ?_
        refine ex_icmp_le (pc := 32) (tgt := 38) d_RF_takeDraft_32 rfl (fun c32 => ?_) (fun c32 => ?_)
        · refine ex_aload_n (pc := 38) (i := 0) d_RF_takeDraft_38 rfl rfl ?_
          refine ex_iconst (pc := 39) (v := (nI 0)) d_RF_takeDraft_39 (by decide) ?_
          refine ex_callV (pc := 40) (M' := M_RF_at) (as := [.int (nI 0)]) (st := []) d_RF_takeDraft_40 MW_RF_at MI_RF_at LK_RF_123 (Nat.le_of_ble_eq_true rfl) rfl rfl rfl (ct_RF_at l G iv mp sp mo (nI 0) (by decide) (dr_b hd)) (ex_lt_rm (by decide)) ⟨Nat.le_refl _, Nat.le_refl _⟩ rfl rfl (Nat.le_of_ble_eq_true rfl) ?_
          rintro _ _ ⟨rfl, rfl⟩
          refine ex_bipush (pc := 43) (v := (nI 35)) d_RF_takeDraft_43 (by decide) ?_
          refine ex_icmp_ne (pc := 45) (tgt := 52) d_RF_takeDraft_45 rfl (fun c45 => ?_) (fun c45 => ?_)
          · refine ex_iconst (pc := 52) (v := (nI 0)) d_RF_takeDraft_52 (by decide) ?_
            refine ex_istore_n (pc := 53) (i := 2) d_RF_takeDraft_53 rfl (by decide) ?_
            refine ex_iload_n (pc := 54) (i := 2) d_RF_takeDraft_54 rfl rfl ?_
            refine ex_if_eq (pc := 55) (tgt := 62) d_RF_takeDraft_55 rfl (fun c55 => ?_) (fun c55 => ?_)
            · refine ex_iconst (pc := 62) (v := (nI 0)) d_RF_takeDraft_62 (by decide) ?_
              refine ex_istore_n (pc := 63) (i := 3) d_RF_takeDraft_63 rfl (by decide) ?_
              refine ex_iload_n (pc := 64) (i := 3) d_RF_takeDraft_64 rfl rfl ?_
              refine ex_aload_n (pc := 65) (i := 0) d_RF_takeDraft_65 rfl rfl ?_
              refine ex_getx (pc := 66) 12 0 (nI n) d_RF_takeDraft_66 FL_RF_119 (Nat.le_of_ble_eq_true rfl) rfl hd.2.1 ?_
              refine ex_icmp_ne (pc := 69) (tgt := 79) d_RF_takeDraft_69 rfl (fun c69 => ?_) (fun c69 => ?_)
              · refine ex_aload_n (pc := 79) (i := 0) d_RF_takeDraft_79 rfl rfl ?_
                refine ex_iload_n (pc := 80) (i := 3) d_RF_takeDraft_80 rfl rfl ?_
                refine ex_callV (pc := 81) (M' := M_RF_isExpression) (as := [.int (nI 0)]) (st := []) d_RF_takeDraft_81 MW_RF_isExpression MI_RF_isExpression LK_RF_154 (Nat.le_of_ble_eq_true rfl) rfl rfl rfl (ct_RF_isExpression l G iv mp sp mo n f hd 0 (Nat.zero_le _)) (ex_lt_rm (by decide)) ⟨Nat.le_refl _, Nat.le_refl _⟩ rfl rfl (Nat.le_of_ble_eq_true rfl) ?_
                rintro _ _ ⟨rfl, rfl⟩
                refine ex_if_eq (pc := 84) (tgt := 95) d_RF_takeDraft_84 rfl (fun c84 => ?_) (fun c84 => ?_)
                · refine ex_iconst (pc := 95) (v := (-1)) d_RF_takeDraft_95 (by decide) ?_
                  refine ex_iret (ty := .int) d_RF_takeDraft_96 rfl rfl rfl (Nat.le_refl _) ?_
                  have hb : tooR iv n = false := by unfold tooR; rw [decide_eq_false (fun z => c22 ((n_lt (by omega) (by omega)).mpr z)), decide_eq_false (p := 6 < cnR iv n false) (fun z => by have := (n_ge (by omega) (by omega)).mp c32; omega)]; rfl
                  have m35 : ¬ dCh f n 0 = nI 35 := fun z => c45 ((mk_at (p9 := 0) hd (by omega) (by decide) (by decide)).mpr z)
                  have mD : decide (dCh f n 0 = nI 35) = false := decide_eq_false m35
                  have mF : frO (dCh f n) = 0 := if_neg m35
                  have hne : frO (dCh f n) ≠ n := fun z => c69 (by rw [← z, mF])
                  exact ⟨fun _ _ => Or.inr (Or.inr ⟨hne, by rw [mF]; exact b2i_0 c84, rfl, rfl⟩), fun _ z => (by rw [hb] at z; cases z), fun z => absurd (Or.inl c10) z⟩
                · refine ex_aload_n (pc := 87) (i := 0) d_RF_takeDraft_87 rfl rfl ?_
                  refine ex_iload_n (pc := 88) (i := 3) d_RF_takeDraft_88 rfl rfl ?_
                  refine ex_callV (pc := 89) (M' := M_RF_readExpression) (as := [.int (nI 0)]) (st := []) d_RF_takeDraft_89 MW_RF_readExpression MI_RF_readExpression LK_RF_157 (Nat.le_of_ble_eq_true rfl) rfl rfl rfl (ct_RF_readExpression l G iv mp sp mo n f hd 0 (Nat.zero_le _) RE (hREX0 c22 c32 c45 c69 (b2i_1 c84))) (ex_lt_rm (by decide)) ⟨Nat.le_refl _, Nat.le_refl _⟩ rfl rfl (Nat.le_of_ble_eq_true rfl) ?_
                  rintro _ _ ⟨rfl, rfl⟩
                  refine ex_goto (pc := 92) (tgt := 97) d_RF_takeDraft_92 rfl ?_
                  have hb : tooR iv n = false := by unfold tooR; rw [decide_eq_false (fun z => c22 ((n_lt (by omega) (by omega)).mpr z)), decide_eq_false (p := 6 < cnR iv n false) (fun z => by have := (n_ge (by omega) (by omega)).mp c32; omega)]; rfl
                  have m35 : ¬ dCh f n 0 = nI 35 := fun z => c45 ((mk_at (p9 := 0) hd (by omega) (by decide) (by decide)).mpr z)
                  have mD : decide (dCh f n 0 = nI 35) = false := decide_eq_false m35
                  have mF : frO (dCh f n) = 0 := if_neg m35
                  have hne : frO (dCh f n) ≠ n := fun z => c69 (by rw [← z, mF])
                  exact lt_RF_takeDraft l G (rxE iv RE) mp sp mo y (Or.inl c10) false (chPs RE.P 0 0).2.2.2 (by unfold rxE; exact u2s) _ _ _ _ ⟨fun _ _ => Or.inr (Or.inl ⟨hne, by rw [mF]; exact b2i_1 c84, rfl, by rw [mD]⟩), fun _ z => (by rw [hb] at z; cases z), fun z => absurd (Or.inl c10) z⟩
              · refine ex_aload_n (pc := 72) (i := 0) d_RF_takeDraft_72 rfl rfl ?_
                refine ex_callV (pc := 73) (M' := M_RF_readNothing) (as := []) (st := []) d_RF_takeDraft_73 MW_RF_readNothing MI_RF_readNothing LK_RF_151 (Nat.le_of_ble_eq_true rfl) rfl rfl rfl (ct_RF_readNothing l G iv mp sp mo) (ex_lt_rm (by decide)) ⟨Nat.le_refl _, Nat.le_refl _⟩ rfl rfl (Nat.le_of_ble_eq_true rfl) ?_
                rintro _ _ ⟨rfl, rfl⟩
                refine ex_goto (pc := 76) (tgt := 97) d_RF_takeDraft_76 rfl ?_
                have hb : tooR iv n = false := by unfold tooR; rw [decide_eq_false (fun z => c22 ((n_lt (by omega) (by omega)).mpr z)), decide_eq_false (p := 6 < cnR iv n false) (fun z => by have := (n_ge (by omega) (by omega)).mp c32; omega)]; rfl
                have m35 : ¬ dCh f n 0 = nI 35 := fun z => c45 ((mk_at (p9 := 0) hd (by omega) (by decide) (by decide)).mpr z)
                have mD : decide (dCh f n 0 = nI 35) = false := decide_eq_false m35
                have mF : frO (dCh f n) = 0 := if_neg m35
                exact lt_RF_takeDraft l G (rxN iv) mp sp mo y (Or.inl c10) false true (by unfold rxN; exact u2s) _ _ _ _ ⟨fun _ _ => Or.inl ⟨by rw [mF]; exact (n_eq (by omega) (by omega)).mp c69, rfl, by rw [mD]⟩, fun _ z => (by rw [hb] at z; cases z), fun z => absurd (Or.inl c10) z⟩
            · exact absurd rfl c55
          · refine ex_iconst (pc := 48) (v := (nI 1)) d_RF_takeDraft_48 (by decide) ?_
            refine ex_goto (pc := 49) (tgt := 53) d_RF_takeDraft_49 rfl ?_
            refine ex_istore_n (pc := 53) (i := 2) d_RF_takeDraft_53 rfl (by decide) ?_
            refine ex_iload_n (pc := 54) (i := 2) d_RF_takeDraft_54 rfl rfl ?_
            refine ex_if_eq (pc := 55) (tgt := 62) d_RF_takeDraft_55 rfl (fun c55 => ?_) (fun c55 => ?_)
            · exact absurd c55 (by decide)
            · refine ex_iconst (pc := 58) (v := (nI 1)) d_RF_takeDraft_58 (by decide) ?_
              refine ex_goto (pc := 59) (tgt := 63) d_RF_takeDraft_59 rfl ?_
              refine ex_istore_n (pc := 63) (i := 3) d_RF_takeDraft_63 rfl (by decide) ?_
              refine ex_iload_n (pc := 64) (i := 3) d_RF_takeDraft_64 rfl rfl ?_
              refine ex_aload_n (pc := 65) (i := 0) d_RF_takeDraft_65 rfl rfl ?_
              refine ex_getx (pc := 66) 12 0 (nI n) d_RF_takeDraft_66 FL_RF_119 (Nat.le_of_ble_eq_true rfl) rfl hd.2.1 ?_
              refine ex_icmp_ne (pc := 69) (tgt := 79) d_RF_takeDraft_69 rfl (fun c69 => ?_) (fun c69 => ?_)
              · refine ex_aload_n (pc := 79) (i := 0) d_RF_takeDraft_79 rfl rfl ?_
                refine ex_iload_n (pc := 80) (i := 3) d_RF_takeDraft_80 rfl rfl ?_
                refine ex_callV (pc := 81) (M' := M_RF_isExpression) (as := [.int (nI 1)]) (st := []) d_RF_takeDraft_81 MW_RF_isExpression MI_RF_isExpression LK_RF_154 (Nat.le_of_ble_eq_true rfl) rfl rfl rfl (ct_RF_isExpression l G iv mp sp mo n f hd 1 (hn1X c45)) (ex_lt_rm (by decide)) ⟨Nat.le_refl _, Nat.le_refl _⟩ rfl rfl (Nat.le_of_ble_eq_true rfl) ?_
                rintro _ _ ⟨rfl, rfl⟩
                refine ex_if_eq (pc := 84) (tgt := 95) d_RF_takeDraft_84 rfl (fun c84 => ?_) (fun c84 => ?_)
                · refine ex_iconst (pc := 95) (v := (-1)) d_RF_takeDraft_95 (by decide) ?_
                  refine ex_iret (ty := .int) d_RF_takeDraft_96 rfl rfl rfl (Nat.le_refl _) ?_
                  have hb : tooR iv n = false := by unfold tooR; rw [decide_eq_false (fun z => c22 ((n_lt (by omega) (by omega)).mpr z)), decide_eq_false (p := 6 < cnR iv n false) (fun z => by have := (n_ge (by omega) (by omega)).mp c32; omega)]; rfl
                  have m35 : dCh f n 0 = nI 35 := (mk_at (p9 := 0) hd (by omega) (by decide) (by decide)).mp c45
                  have mD : decide (dCh f n 0 = nI 35) = true := decide_eq_true m35
                  have mF : frO (dCh f n) = 1 := if_pos m35
                  have hne : frO (dCh f n) ≠ n := fun z => c69 (by rw [← z, mF])
                  exact ⟨fun _ _ => Or.inr (Or.inr ⟨hne, by rw [mF]; exact b2i_0 c84, rfl, rfl⟩), fun _ z => (by rw [hb] at z; cases z), fun z => absurd (Or.inl c10) z⟩
                · refine ex_aload_n (pc := 87) (i := 0) d_RF_takeDraft_87 rfl rfl ?_
                  refine ex_iload_n (pc := 88) (i := 3) d_RF_takeDraft_88 rfl rfl ?_
                  refine ex_callV (pc := 89) (M' := M_RF_readExpression) (as := [.int (nI 1)]) (st := []) d_RF_takeDraft_89 MW_RF_readExpression MI_RF_readExpression LK_RF_157 (Nat.le_of_ble_eq_true rfl) rfl rfl rfl (ct_RF_readExpression l G iv mp sp mo n f hd 1 (hn1X c45) RE (hREX1 c22 c32 c45 c69 (b2i_1 c84))) (ex_lt_rm (by decide)) ⟨Nat.le_refl _, Nat.le_refl _⟩ rfl rfl (Nat.le_of_ble_eq_true rfl) ?_
                  rintro _ _ ⟨rfl, rfl⟩
                  refine ex_goto (pc := 92) (tgt := 97) d_RF_takeDraft_92 rfl ?_
                  have hb : tooR iv n = false := by unfold tooR; rw [decide_eq_false (fun z => c22 ((n_lt (by omega) (by omega)).mpr z)), decide_eq_false (p := 6 < cnR iv n false) (fun z => by have := (n_ge (by omega) (by omega)).mp c32; omega)]; rfl
                  have m35 : dCh f n 0 = nI 35 := (mk_at (p9 := 0) hd (by omega) (by decide) (by decide)).mp c45
                  have mD : decide (dCh f n 0 = nI 35) = true := decide_eq_true m35
                  have mF : frO (dCh f n) = 1 := if_pos m35
                  have hne : frO (dCh f n) ≠ n := fun z => c69 (by rw [← z, mF])
                  exact lt_RF_takeDraft l G (rxE iv RE) mp sp mo y (Or.inl c10) true (chPs RE.P 0 0).2.2.2 (by unfold rxE; exact u2s) _ _ _ _ ⟨fun _ _ => Or.inr (Or.inl ⟨hne, by rw [mF]; exact b2i_1 c84, rfl, by rw [mD]⟩), fun _ z => (by rw [hb] at z; cases z), fun z => absurd (Or.inl c10) z⟩
              · refine ex_aload_n (pc := 72) (i := 0) d_RF_takeDraft_72 rfl rfl ?_
                refine ex_callV (pc := 73) (M' := M_RF_readNothing) (as := []) (st := []) d_RF_takeDraft_73 MW_RF_readNothing MI_RF_readNothing LK_RF_151 (Nat.le_of_ble_eq_true rfl) rfl rfl rfl (ct_RF_readNothing l G iv mp sp mo) (ex_lt_rm (by decide)) ⟨Nat.le_refl _, Nat.le_refl _⟩ rfl rfl (Nat.le_of_ble_eq_true rfl) ?_
                rintro _ _ ⟨rfl, rfl⟩
                refine ex_goto (pc := 76) (tgt := 97) d_RF_takeDraft_76 rfl ?_
                have hb : tooR iv n = false := by unfold tooR; rw [decide_eq_false (fun z => c22 ((n_lt (by omega) (by omega)).mpr z)), decide_eq_false (p := 6 < cnR iv n false) (fun z => by have := (n_ge (by omega) (by omega)).mp c32; omega)]; rfl
                have m35 : dCh f n 0 = nI 35 := (mk_at (p9 := 0) hd (by omega) (by decide) (by decide)).mp c45
                have mD : decide (dCh f n 0 = nI 35) = true := decide_eq_true m35
                have mF : frO (dCh f n) = 1 := if_pos m35
                exact lt_RF_takeDraft l G (rxN iv) mp sp mo y (Or.inl c10) true true (by unfold rxN; exact u2s) _ _ _ _ ⟨fun _ _ => Or.inl ⟨by rw [mF]; exact (n_eq (by omega) (by omega)).mp c69, rfl, by rw [mD]⟩, fun _ z => (by rw [hb] at z; cases z), fun z => absurd (Or.inl c10) z⟩
        · refine ex_bipush (pc := 35) (v := (-2)) d_RF_takeDraft_35 (by decide) ?_
          refine ex_iret (ty := .int) d_RF_takeDraft_37 rfl rfl rfl (Nat.le_refl _) ?_
          have hb : tooR iv n = true := by unfold tooR; rw [decide_eq_true (p := 6 < cnR iv n false) (Classical.byContradiction (fun z => c32 ((n_ge (by omega) (by omega)).mpr (by omega)))), Bool.or_true]
          exact ⟨fun _ z => (by rw [hb] at z; cases z), fun _ _ => ⟨rfl, rfl⟩, fun z => absurd (Or.inl c10) z⟩
    · refine ex_iconst (pc := 13) (v := (-1)) d_RF_takeDraft_13 (by decide) ?_
      refine ex_iret (ty := .int) d_RF_takeDraft_14 rfl rfl rfl (Nat.le_refl _) ?_
      have hno : ¬ (y = nI 46 ∨ nmB y = true) := fun z => z.elim c10 (fun q => by rw [b2i_0 c4] at q; cases q)
      exact ⟨fun z => absurd z hno, fun z => absurd z hno, fun _ => ⟨rfl, rfl⟩⟩

set_option maxRecDepth 100000 in
set_option maxHeartbeats 4000000 in
theorem ct_RF_define (l : Launch) (G : ex_G) (iv : Nat → Nat → Int32) (mp : Nat → Nat) (sp mo : Nat) (n : Nat) (f : Nat → Int32) (hd : DrR iv n f) (y : Int32) (RE : RS) (hRE : tooR iv n = false → frO (dCh f n) ≠ n → scP (dCh f n) n (frO (dCh f n)) 0 false false = true → rdP (dCh f n) n (frO (dCh f n)) (rx0 iv) = some RE) : CT l G 4 M_RF_define [.ref 92, .int y] (HP iv mp sp mo) 0 0 (fun r h' => ∃ h1 iv1, TdP iv mp sp mo n f y RE r h1 ∧ h1 = HP iv1 mp sp mo ∧ h' = HP (ex_u2 iv1 92 0 (nI 0)) mp sp mo) := by
  refine ex_enter (by decide) (Nat.le_of_ble_eq_true rfl) (fun v hv => by simp at hv; rcases hv with rfl | rfl <;> rfl) (fun p e s m args below meth c => ?_)
  refine ex_aload_n (pc := 0) (i := 0) d_RF_define_0 rfl rfl ?_
  refine ex_iload_n (pc := 1) (i := 1) d_RF_define_1 rfl rfl ?_
  refine ex_callV (pc := 2) (M' := M_RF_takeDraft) (as := [.int y]) (st := []) d_RF_define_2 MW_RF_takeDraft MI_RF_takeDraft LK_RF_160 (Nat.le_of_ble_eq_true rfl) rfl rfl rfl (ct_RF_takeDraft l G iv mp sp mo n f hd y RE hRE) (ex_lt_rm (by decide)) ⟨Nat.le_refl _, Nat.le_refl _⟩ rfl rfl (Nat.le_of_ble_eq_true rfl) ?_
  rintro r1 h1 hT
  have hh : (∃ iv1, h1 = HP iv1 mp sp mo) ∧ ∃ v1, r1 = some (.int v1) := by
    by_cases ho : y = nI 46 ∨ nmB y = true
    · cases ht : tooR iv n with
      | true => exact ⟨⟨_, (hT.2.1 ho ht).2⟩, _, (hT.2.1 ho ht).1⟩
      | false =>
        rcases hT.1 ho ht with z | z | z
        · exact ⟨⟨_, z.2.2⟩, _, z.2.1⟩
        · exact ⟨⟨_, z.2.2.2⟩, _, z.2.2.1⟩
        · exact ⟨⟨_, z.2.2.2⟩, _, z.2.2.1⟩
    · exact ⟨⟨_, (hT.2.2 ho).2⟩, _, (hT.2.2 ho).1⟩
  obtain ⟨⟨iv1, rfl⟩, v1, rfl⟩ := hh
  refine ex_istore_n (pc := 5) (i := 2) d_RF_define_5 rfl (by decide) ?_
  refine ex_aload_n (pc := 6) (i := 0) d_RF_define_6 rfl rfl ?_
  refine ex_iconst (pc := 7) (v := (nI 0)) d_RF_define_7 (by decide) ?_
  refine ex_puti (pc := 8) 12 0 .int d_RF_define_8 (PF_RF_119 _) (Nat.le_of_ble_eq_true rfl) rfl rfl rfl ?_
  refine ex_iload_n (pc := 11) (i := 2) d_RF_define_11 rfl rfl ?_
  refine ex_iret (ty := .int) d_RF_define_12 rfl rfl rfl (Nat.le_refl _) ?_
  exact ⟨_, iv1, hT, rfl, rfl⟩

