/-! leaves: characters, the draft -/
def b2i (b : Bool) : Int32 := if b = true then nI 1 else nI 0
theorem b2i_n (b : Bool) : narrow .boolean (.int (b2i b)) = .int (b2i b) := by cases b <;> decide
/-- a name: a to h -/
def nmB (x : Int32) : Bool := decide (97 ≤ x.toInt) && decide (x.toInt ≤ 104)
/-- a character that may be written -/
def wrB (x : Int32) : Bool := decide (32 ≤ x.toInt) && decide (x.toInt ≤ 126)
theorem nm_1 {x : Int32} (h1 : ¬ x < nI 97) (h2 : ¬ nI 105 ≤ x) : nmB x = true := by
  simp only [i_lt, i_le, nI_toInt (show 97 < 2 ^ 31 by decide), nI_toInt (show 105 < 2 ^ 31 by decide)] at h1 h2
  simp only [nmB, Bool.and_eq_true, decide_eq_true_eq]
  omega
theorem nm_2 {x : Int32} (h1 : x < nI 97) : nmB x = false := by
  simp only [i_lt, nI_toInt (show 97 < 2 ^ 31 by decide)] at h1
  simp only [nmB, Bool.and_eq_false_iff, decide_eq_false_iff_not]
  omega
theorem nm_3 {x : Int32} (h1 : nI 105 ≤ x) : nmB x = false := by
  simp only [i_le, nI_toInt (show 105 < 2 ^ 31 by decide)] at h1
  simp only [nmB, Bool.and_eq_false_iff, decide_eq_false_iff_not]
  omega
theorem nm_4 {x : Int32} (h1 : ¬ x < nI 97) (h2 : ¬ nI 104 < x) : nmB x = true := by
  simp only [i_lt, nI_toInt (show 97 < 2 ^ 31 by decide), nI_toInt (show 104 < 2 ^ 31 by decide)] at h1 h2
  simp only [nmB, Bool.and_eq_true, decide_eq_true_eq]
  omega
theorem nm_5 {x : Int32} (h1 : nI 104 < x) : nmB x = false := by
  simp only [i_lt, nI_toInt (show 104 < 2 ^ 31 by decide)] at h1
  simp only [nmB, Bool.and_eq_false_iff, decide_eq_false_iff_not]
  omega
theorem wr_1 {x : Int32} (h1 : ¬ x < nI 32) (h2 : ¬ nI 126 < x) : wrB x = true := by
  simp only [i_lt, nI_toInt (show 32 < 2 ^ 31 by decide), nI_toInt (show 126 < 2 ^ 31 by decide)] at h1 h2
  simp only [wrB, Bool.and_eq_true, decide_eq_true_eq]
  omega
theorem wr_2 {x : Int32} (h1 : x < nI 32) : wrB x = false := by
  simp only [i_lt, nI_toInt (show 32 < 2 ^ 31 by decide)] at h1
  simp only [wrB, Bool.and_eq_false_iff, decide_eq_false_iff_not]
  omega
theorem wr_3 {x : Int32} (h1 : nI 126 < x) : wrB x = false := by
  simp only [i_lt, nI_toInt (show 126 < 2 ^ 31 by decide)] at h1
  simp only [wrB, Bool.and_eq_false_iff, decide_eq_false_iff_not]
  omega
theorem b2i_0 {b : Bool} (h : b2i b = 0) : b = false := by
  cases b with
  | false => rfl
  | true => exact absurd h (by decide)
theorem b2i_1 {b : Bool} (h : ¬ b2i b = 0) : b = true := by
  cases b with
  | false => exact absurd (show b2i false = 0 by decide) h
  | true => rfl
set_option maxRecDepth 100000 in
set_option maxHeartbeats 4000000 in
theorem ct_TG_isName (l : Launch) (G : ex_G) (h : ex_H) (x : Int32) : CT l G 0 M_TG_isName [.int x] h 0 0 (fun r h' => h' = h ∧ r = some (.int (b2i (nmB x)))) := by
  refine ex_enter (by decide) (Nat.le_of_ble_eq_true rfl) (fun v hv => by simp at hv; rcases hv with rfl <;> rfl) (fun p e s m args below meth c => ?_)
  refine ex_iload_n (pc := 0) (i := 0) d_TG_isName_0 rfl rfl ?_
  refine ex_bipush (pc := 1) (v := (nI 97)) d_TG_isName_1 (by decide) ?_
  refine ex_icmp_lt (pc := 3) (tgt := 16) d_TG_isName_3 rfl (fun c3 => ?_) (fun c3 => ?_)
  · refine ex_iconst (pc := 16) (v := (nI 0)) d_TG_isName_16 (by decide) ?_
    refine ex_iret (ty := .boolean) d_TG_isName_17 rfl rfl rfl (Nat.le_refl _) ?_
    exact ⟨rfl, by rw [nm_2 c3]; rfl⟩
  · refine ex_iload_n (pc := 6) (i := 0) d_TG_isName_6 rfl rfl ?_
    refine ex_bipush (pc := 7) (v := (nI 105)) d_TG_isName_7 (by decide) ?_
    refine ex_icmp_ge (pc := 9) (tgt := 16) d_TG_isName_9 rfl (fun c9 => ?_) (fun c9 => ?_)
    · refine ex_iconst (pc := 16) (v := (nI 0)) d_TG_isName_16 (by decide) ?_
      refine ex_iret (ty := .boolean) d_TG_isName_17 rfl rfl rfl (Nat.le_refl _) ?_
      exact ⟨rfl, by rw [nm_3 c9]; rfl⟩
    · refine ex_iconst (pc := 12) (v := (nI 1)) d_TG_isName_12 (by decide) ?_
      refine ex_goto (pc := 13) (tgt := 17) d_TG_isName_13 rfl ?_
      refine ex_iret (ty := .boolean) d_TG_isName_17 rfl rfl rfl (Nat.le_refl _) ?_
      exact ⟨rfl, by rw [nm_1 c3 c9]; rfl⟩

set_option maxRecDepth 100000 in
set_option maxHeartbeats 4000000 in
theorem ct_TG_isWritable (l : Launch) (G : ex_G) (h : ex_H) (x : Int32) : CT l G 0 M_TG_isWritable [.int x] h 0 0 (fun r h' => h' = h ∧ r = some (.int (b2i (wrB x)))) := by
  refine ex_enter (by decide) (Nat.le_of_ble_eq_true rfl) (fun v hv => by simp at hv; rcases hv with rfl <;> rfl) (fun p e s m args below meth c => ?_)
  refine ex_iload_n (pc := 0) (i := 0) d_TG_isWritable_0 rfl rfl ?_
  refine ex_bipush (pc := 1) (v := (nI 32)) d_TG_isWritable_1 (by decide) ?_
  refine ex_icmp_lt (pc := 3) (tgt := 16) d_TG_isWritable_3 rfl (fun c3 => ?_) (fun c3 => ?_)
  · refine ex_iconst (pc := 16) (v := (nI 0)) d_TG_isWritable_16 (by decide) ?_
    refine ex_iret (ty := .boolean) d_TG_isWritable_17 rfl rfl rfl (Nat.le_refl _) ?_
    exact ⟨rfl, by rw [wr_2 c3]; rfl⟩
  · refine ex_iload_n (pc := 6) (i := 0) d_TG_isWritable_6 rfl rfl ?_
    refine ex_bipush (pc := 7) (v := (nI 126)) d_TG_isWritable_7 (by decide) ?_
    refine ex_icmp_gt (pc := 9) (tgt := 16) d_TG_isWritable_9 rfl (fun c9 => ?_) (fun c9 => ?_)
    · refine ex_iconst (pc := 16) (v := (nI 0)) d_TG_isWritable_16 (by decide) ?_
      refine ex_iret (ty := .boolean) d_TG_isWritable_17 rfl rfl rfl (Nat.le_refl _) ?_
      exact ⟨rfl, by rw [wr_3 c9]; rfl⟩
    · refine ex_iconst (pc := 12) (v := (nI 1)) d_TG_isWritable_12 (by decide) ?_
      refine ex_goto (pc := 13) (tgt := 17) d_TG_isWritable_13 rfl ?_
      refine ex_iret (ty := .boolean) d_TG_isWritable_17 rfl rfl rfl (Nat.le_refl _) ?_
      exact ⟨rfl, by rw [wr_1 c3 c9]; rfl⟩

set_option maxRecDepth 100000 in
set_option maxHeartbeats 4000000 in
theorem ct_RF_isName (l : Launch) (G : ex_G) (h : ex_H) (x : Int32) : CT l G 0 M_RF_isName [.int x] h 0 0 (fun r h' => h' = h ∧ r = some (.int (b2i (nmB x)))) := by
  refine ex_enter (by decide) (Nat.le_of_ble_eq_true rfl) (fun v hv => by simp at hv; rcases hv with rfl <;> rfl) (fun p e s m args below meth c => ?_)
  refine ex_iload_n (pc := 0) (i := 0) d_RF_isName_0 rfl rfl ?_
  refine ex_bipush (pc := 1) (v := (nI 97)) d_RF_isName_1 (by decide) ?_
  refine ex_icmp_lt (pc := 3) (tgt := 16) d_RF_isName_3 rfl (fun c3 => ?_) (fun c3 => ?_)
  · refine ex_iconst (pc := 16) (v := (nI 0)) d_RF_isName_16 (by decide) ?_
    refine ex_iret (ty := .boolean) d_RF_isName_17 rfl rfl rfl (Nat.le_refl _) ?_
    exact ⟨rfl, by rw [nm_2 c3]; rfl⟩
  · refine ex_iload_n (pc := 6) (i := 0) d_RF_isName_6 rfl rfl ?_
    refine ex_bipush (pc := 7) (v := (nI 104)) d_RF_isName_7 (by decide) ?_
    refine ex_icmp_gt (pc := 9) (tgt := 16) d_RF_isName_9 rfl (fun c9 => ?_) (fun c9 => ?_)
    · refine ex_iconst (pc := 16) (v := (nI 0)) d_RF_isName_16 (by decide) ?_
      refine ex_iret (ty := .boolean) d_RF_isName_17 rfl rfl rfl (Nat.le_refl _) ?_
      exact ⟨rfl, by rw [nm_5 c9]; rfl⟩
    · refine ex_iconst (pc := 12) (v := (nI 1)) d_RF_isName_12 (by decide) ?_
      refine ex_goto (pc := 13) (tgt := 17) d_RF_isName_13 rfl ?_
      refine ex_iret (ty := .boolean) d_RF_isName_17 rfl rfl rfl (Nat.le_refl _) ?_
      exact ⟨rfl, by rw [nm_4 c3 c9]; rfl⟩

/-- the draft of the class: n characters -/
def DrI (iv : Nat → Nat → Int32) (n : Nat) (f : Nat → Int32) : Prop := n ≤ 40 ∧ iv 1 1 = nI n ∧ ∀ k, k < n → iv 2 k = f k
theorem nI_t {n : Nat} (h : n ≤ 1000000) : (nI n).toInt = (n : Int) := nI_toInt (by omega)
set_option maxRecDepth 100000 in
set_option maxHeartbeats 4000000 in
theorem ct_Dr_clear (l : Launch) (G : ex_G) (iv : Nat → Nat → Int32) (mp : Nat → Nat) (sp mo : Nat) : CT l G 0 M_Dr_clear [.ref 1] (HP iv mp sp mo) 0 0 (fun r h' => h' = HP (ex_u2 iv 1 1 (nI 0)) mp sp mo ∧ r = none) := by
  refine ex_enter (by decide) (Nat.le_of_ble_eq_true rfl) (fun v hv => by simp at hv; rcases hv with rfl <;> rfl) (fun p e s m args below meth c => ?_)
  refine ex_aload_n (pc := 0) (i := 0) d_Dr_clear_0 rfl rfl ?_
  refine ex_iconst (pc := 1) (v := (nI 0)) d_Dr_clear_1 (by decide) ?_
  refine ex_puti (pc := 2) 2 1 .int d_Dr_clear_2 (PF_Dr_19 _) (Nat.le_of_ble_eq_true rfl) rfl rfl rfl ?_
  refine ex_vret d_Dr_clear_5 rfl rfl (Nat.le_refl _) ?_
  exact ⟨rfl, rfl⟩

set_option maxRecDepth 100000 in
set_option maxHeartbeats 4000000 in
theorem ct_Dr_at (l : Launch) (G : ex_G) (iv : Nat → Nat → Int32) (mp : Nat → Nat) (sp mo : Nat) (n : Nat) (f : Nat → Int32) (hd : DrI iv n f) (x : Int32) : CT l G 0 M_Dr_at [.ref 1, .int x] (HP iv mp sp mo) 0 0 (fun r h' => h' = HP iv mp sp mo ∧ r = some (.int (if 0 ≤ x.toInt ∧ x.toInt < n then f x.toInt.toNat else -1))) := by
  refine ex_enter (by decide) (Nat.le_of_ble_eq_true rfl) (fun v hv => by simp at hv; rcases hv with rfl | rfl <;> rfl) (fun p e s m args below meth c => ?_)
  have hnn : (nI n).toInt = (n : Int) := nI_t (by have := hd.1; omega)
  refine ex_iload_n (pc := 0) (i := 1) d_Dr_at_0 rfl rfl ?_
  refine ex_if_lt (pc := 1) (tgt := 21) d_Dr_at_1 rfl (fun c1 => ?_) (fun c1 => ?_)
  · refine ex_iconst (pc := 21) (v := (-1)) d_Dr_at_21 (by decide) ?_
    refine ex_iret (ty := .int) d_Dr_at_22 rfl rfl rfl (Nat.le_refl _) ?_
    refine ⟨rfl, ?_⟩
    rw [if_neg (fun q => by have q1 := i_lt.mp c1; rw [i_0] at q1; omega)]
  · refine ex_iload_n (pc := 4) (i := 1) d_Dr_at_4 rfl rfl ?_
    refine ex_aload_n (pc := 5) (i := 0) d_Dr_at_5 rfl rfl ?_
    refine ex_getx (pc := 6) 2 1 (nI n) d_Dr_at_6 FL_Dr_19 (Nat.le_of_ble_eq_true rfl) rfl hd.2.1 ?_
    refine ex_icmp_ge (pc := 9) (tgt := 21) d_Dr_at_9 rfl (fun c9 => ?_) (fun c9 => ?_)
    · refine ex_iconst (pc := 21) (v := (-1)) d_Dr_at_21 (by decide) ?_
      refine ex_iret (ty := .int) d_Dr_at_22 rfl rfl rfl (Nat.le_refl _) ?_
      refine ⟨rfl, ?_⟩
      rw [if_neg (fun q => by have q1 := i_le.mp c9; omega)]
    · have hx0 : 0 ≤ x.toInt := by
        have q1 := i_nlt c1
        rw [i_0] at q1
        omega
      have hx1 : x.toInt < n := by
        have q1 := i_nle c9
        omega
      have hxn : x.toInt = (x.toInt.toNat : Int) := by omega
      refine ex_aload_n (pc := 12) (i := 0) d_Dr_at_12 rfl rfl ?_
      refine ex_getr (pc := 13) 2 0 d_Dr_at_13 FL_Dr_9 (Nat.le_of_ble_eq_true rfl) rfl rfl ?_
      refine ex_iload_n (pc := 16) (i := 1) d_Dr_at_16 rfl rfl ?_
      refine ex_caldx (pc := 17) x.toInt.toNat (f x.toInt.toNat) d_Dr_at_17 (Nat.le_of_ble_eq_true rfl) rfl rfl rfl hxn (by have := hd.1; show x.toInt.toNat < 40; omega) (hd.2.2 _ (by omega)) ?_
      refine ex_goto (pc := 18) (tgt := 22) d_Dr_at_18 rfl ?_
      refine ex_iret (ty := .int) d_Dr_at_22 rfl rfl rfl (Nat.le_refl _) ?_
      refine ⟨rfl, ?_⟩
      rw [if_pos ⟨hx0, by omega⟩]

