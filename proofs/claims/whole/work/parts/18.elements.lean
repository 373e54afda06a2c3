/-! elements; faults of the class -/
theorem lkp2 {x : Int} {a b oa ob d : Int} (h1 : ¬ x = a) (h2 : ¬ x = b) : Op.lookupswitch.offset [(a, oa), (b, ob)] d x = d := by
  rw [Op.lookupswitch.offset_cons, if_neg (fun q => h1 q.symm), Op.lookupswitch.offset_cons, if_neg (fun q => h2 q.symm)]
  rfl
def elOpen (iv : Nat → Nat → Int32) (i : Nat) (k1 k2 k3 k4 k5 : Int32) : Nat → Nat → Int32 := ex_u2 (ex_u2 (ex_u2 (ex_u2 (ex_u2 (ex_u2 (ex_u2 iv (46 + i) 0 k1) (46 + i) 1 k2) (46 + i) 2 k3) (46 + i) 3 k4) (46 + i) 4 k5) (46 + i) 7 (nI 0)) (46 + i) 9 (-1)
def elClose (iv : Nat → Nat → Int32) (i : Nat) (k1 k2 k3 : Int32) : Nat → Nat → Int32 := ex_u2 (ex_u2 (ex_u2 iv (46 + i) 8 k1) (46 + i) 5 k2) (46 + i) 6 k3
set_option maxRecDepth 100000 in
set_option maxHeartbeats 4000000 in
theorem ct_El_open (l : Launch) (G : ex_G) (iv : Nat → Nat → Int32) (mp : Nat → Nat) (sp mo : Nat) (i : Nat) (hi : i < 34) (k1 k2 k3 k4 k5 : Int32) : CT l G 0 M_El_open [.ref (46 + i), .int k1, .int k2, .int k3, .int k4, .int k5] (HP iv mp sp mo) 0 0 (fun r h' => h' = HP (elOpen iv i k1 k2 k3 k4 k5) mp sp mo ∧ r = none) := by
  refine ex_enter (by decide) (Nat.le_of_ble_eq_true rfl) (fun v hv => by simp at hv; rcases hv with rfl | rfl | rfl | rfl | rfl | rfl <;> rfl) (fun p e s m args below meth c => ?_)
  refine ex_aload_n (pc := 0) (i := 0) d_El_open_0 rfl rfl ?_
  refine ex_iload_n (pc := 1) (i := 1) d_El_open_1 rfl rfl ?_
  refine ex_puti (pc := 2) 3 0 .int d_El_open_2 (PF_El_9 _) (el_lt hi) (el_sh hi) rfl rfl ?_
  refine ex_aload_n (pc := 5) (i := 0) d_El_open_5 rfl rfl ?_
  refine ex_iload_n (pc := 6) (i := 2) d_El_open_6 rfl rfl ?_
  refine ex_puti (pc := 7) 3 1 .int d_El_open_7 (PF_El_15 _) (el_lt hi) (el_sh hi) rfl rfl ?_
  refine ex_aload_n (pc := 10) (i := 0) d_El_open_10 rfl rfl ?_
  refine ex_iload_n (pc := 11) (i := 3) d_El_open_11 rfl rfl ?_
  refine ex_puti (pc := 12) 3 2 .int d_El_open_12 (PF_El_18 _) (el_lt hi) (el_sh hi) rfl rfl ?_
  refine ex_aload_n (pc := 15) (i := 0) d_El_open_15 rfl rfl ?_
  refine ex_iload (pc := 16) d_El_open_16 rfl ?_
  refine ex_puti (pc := 18) 3 3 .int d_El_open_18 (PF_El_21 _) (el_lt hi) (el_sh hi) rfl rfl ?_
  refine ex_aload_n (pc := 21) (i := 0) d_El_open_21 rfl rfl ?_
  refine ex_iload (pc := 22) d_El_open_22 rfl ?_
  refine ex_puti (pc := 24) 3 4 .int d_El_open_24 (PF_El_24 _) (el_lt hi) (el_sh hi) rfl rfl ?_
  refine ex_aload_n (pc := 27) (i := 0) d_El_open_27 rfl rfl ?_
  refine ex_iconst (pc := 28) (v := (nI 0)) d_El_open_28 (by decide) ?_
  refine ex_puti (pc := 29) 3 7 .int d_El_open_29 (PF_El_27 _) (el_lt hi) (el_sh hi) rfl rfl ?_
  refine ex_aload_n (pc := 32) (i := 0) d_El_open_32 rfl rfl ?_
  refine ex_iconst (pc := 33) (v := (-1)) d_El_open_33 (by decide) ?_
  refine ex_puti (pc := 34) 3 9 .int d_El_open_34 (PF_El_30 _) (el_lt hi) (el_sh hi) rfl rfl ?_
  refine ex_vret d_El_open_37 rfl rfl (Nat.le_refl _) ?_
  exact ⟨rfl, rfl⟩

set_option maxRecDepth 100000 in
set_option maxHeartbeats 4000000 in
theorem ct_El_close (l : Launch) (G : ex_G) (iv : Nat → Nat → Int32) (mp : Nat → Nat) (sp mo : Nat) (i : Nat) (hi : i < 34) (k1 k2 k3 : Int32) : CT l G 0 M_El_close [.ref (46 + i), .int k1, .int k2, .int k3] (HP iv mp sp mo) 0 0 (fun r h' => h' = HP (elClose iv i k1 k2 k3) mp sp mo ∧ r = none) := by
  refine ex_enter (by decide) (Nat.le_of_ble_eq_true rfl) (fun v hv => by simp at hv; rcases hv with rfl | rfl | rfl | rfl <;> rfl) (fun p e s m args below meth c => ?_)
  refine ex_aload_n (pc := 0) (i := 0) d_El_close_0 rfl rfl ?_
  refine ex_iload_n (pc := 1) (i := 1) d_El_close_1 rfl rfl ?_
  refine ex_puti (pc := 2) 3 8 .int d_El_close_2 (PF_El_33 _) (el_lt hi) (el_sh hi) rfl rfl ?_
  refine ex_aload_n (pc := 5) (i := 0) d_El_close_5 rfl rfl ?_
  refine ex_iload_n (pc := 6) (i := 2) d_El_close_6 rfl rfl ?_
  refine ex_puti (pc := 7) 3 5 .int d_El_close_7 (PF_El_36 _) (el_lt hi) (el_sh hi) rfl rfl ?_
  refine ex_aload_n (pc := 10) (i := 0) d_El_close_10 rfl rfl ?_
  refine ex_iload_n (pc := 11) (i := 3) d_El_close_11 rfl rfl ?_
  refine ex_puti (pc := 12) 3 6 .int d_El_close_12 (PF_El_39 _) (el_lt hi) (el_sh hi) rfl rfl ?_
  refine ex_vret d_El_close_15 rfl rfl (Nat.le_refl _) ?_
  exact ⟨rfl, rfl⟩

set_option maxRecDepth 100000 in
set_option maxHeartbeats 4000000 in
theorem ct_El_takeCharacter (l : Launch) (G : ex_G) (iv : Nat → Nat → Int32) (mp : Nat → Nat) (sp mo : Nat) (i : Nat) (hi : i < 34) (ch x : Int32) : CT l G 0 M_El_takeCharacter [.ref (46 + i), .int ch, .int x] (HP iv mp sp mo) 0 0 (fun r h' => h' = HP (if ¬ ch = nI 32 ∧ iv (46 + i) 9 = -1 then ex_u2 iv (46 + i) 9 x else iv) mp sp mo ∧ r = none) := by
  refine ex_enter (by decide) (Nat.le_of_ble_eq_true rfl) (fun v hv => by simp at hv; rcases hv with rfl | rfl | rfl <;> rfl) (fun p e s m args below meth c => ?_)
  refine ex_iload_n (pc := 0) (i := 1) d_El_takeCharacter_0 rfl rfl ?_
  refine ex_bipush (pc := 1) (v := (nI 32)) d_El_takeCharacter_1 (by decide) ?_
  refine ex_icmp_eq (pc := 3) (tgt := 19) d_El_takeCharacter_3 rfl (fun c3 => ?_) (fun c3 => ?_)
  · refine ex_vret d_El_takeCharacter_19 rfl rfl (Nat.le_refl _) ?_
    exact ⟨by rw [if_neg (fun q => q.1 c3)], rfl⟩
  · refine ex_aload_n (pc := 6) (i := 0) d_El_takeCharacter_6 rfl rfl ?_
    refine ex_getx (pc := 7) 3 9 (iv (46 + i) 9) d_El_takeCharacter_7 FL_El_30 (el_lt hi) (el_sh hi) rfl ?_
    refine ex_iconst (pc := 10) (v := (-1)) d_El_takeCharacter_10 (by decide) ?_
    refine ex_icmp_ne (pc := 11) (tgt := 19) d_El_takeCharacter_11 rfl (fun c11 => ?_) (fun c11 => ?_)
    · refine ex_vret d_El_takeCharacter_19 rfl rfl (Nat.le_refl _) ?_
      exact ⟨by rw [if_neg (fun q => c11 q.2)], rfl⟩
    · refine ex_aload_n (pc := 14) (i := 0) d_El_takeCharacter_14 rfl rfl ?_
      refine ex_iload_n (pc := 15) (i := 2) d_El_takeCharacter_15 rfl rfl ?_
      refine ex_puti (pc := 16) 3 9 .int d_El_takeCharacter_16 (PF_El_30 _) (el_lt hi) (el_sh hi) rfl rfl ?_
      refine ex_vret d_El_takeCharacter_19 rfl rfl (Nat.le_refl _) ?_
      exact ⟨by rw [if_pos ⟨c3, c11⟩]; rfl, rfl⟩

def hasIn (iv : Nat → Nat → Int32) (i : Nat) (x : Int32) : Bool := decide (¬ iv (46 + i) 8 = nI 2) && (decide (¬ x < iv (46 + i) 4) && decide (¬ iv (46 + i) 5 < x))
set_option maxRecDepth 100000 in
set_option maxHeartbeats 4000000 in
theorem ct_El_hasInside (l : Launch) (G : ex_G) (iv : Nat → Nat → Int32) (mp : Nat → Nat) (sp mo : Nat) (i : Nat) (hi : i < 34) (x : Int32) : CT l G 0 M_El_hasInside [.ref (46 + i), .int x] (HP iv mp sp mo) 0 0 (fun r h' => h' = HP iv mp sp mo ∧ r = some (.int (b2i (hasIn iv i x)))) := by
  refine ex_enter (by decide) (Nat.le_of_ble_eq_true rfl) (fun v hv => by simp at hv; rcases hv with rfl | rfl <;> rfl) (fun p e s m args below meth c => ?_)
  refine ex_aload_n (pc := 0) (i := 0) d_El_hasInside_0 rfl rfl ?_
  refine ex_getx (pc := 1) 3 8 (iv (46 + i) 8) d_El_hasInside_1 FL_El_33 (el_lt hi) (el_sh hi) rfl ?_
  refine ex_iconst (pc := 4) (v := (nI 2)) d_El_hasInside_4 (by decide) ?_
  refine ex_icmp_eq (pc := 5) (tgt := 28) d_El_hasInside_5 rfl (fun c5 => ?_) (fun c5 => ?_)
  · refine ex_iconst (pc := 28) (v := (nI 0)) d_El_hasInside_28 (by decide) ?_
    refine ex_iret (ty := .boolean) d_El_hasInside_29 rfl rfl rfl (Nat.le_refl _) ?_
    exact ⟨rfl, by rw [hasIn, decide_eq_false (fun q => q c5)]; rfl⟩
  · refine ex_aload_n (pc := 8) (i := 0) d_El_hasInside_8 rfl rfl ?_
    refine ex_getx (pc := 9) 3 4 (iv (46 + i) 4) d_El_hasInside_9 FL_El_24 (el_lt hi) (el_sh hi) rfl ?_
    refine ex_iload_n (pc := 12) (i := 1) d_El_hasInside_12 rfl rfl ?_
    refine ex_icmp_gt (pc := 13) (tgt := 28) d_El_hasInside_13 rfl (fun c13 => ?_) (fun c13 => ?_)
    · refine ex_iconst (pc := 28) (v := (nI 0)) d_El_hasInside_28 (by decide) ?_
      refine ex_iret (ty := .boolean) d_El_hasInside_29 rfl rfl rfl (Nat.le_refl _) ?_
      exact ⟨rfl, by rw [hasIn, decide_eq_false (p := ¬ x < iv (46 + i) 4) (fun q => q c13), Bool.false_and, Bool.and_false]; rfl⟩
    · refine ex_iload_n (pc := 16) (i := 1) d_El_hasInside_16 rfl rfl ?_
      refine ex_aload_n (pc := 17) (i := 0) d_El_hasInside_17 rfl rfl ?_
      refine ex_getx (pc := 18) 3 5 (iv (46 + i) 5) d_El_hasInside_18 FL_El_36 (el_lt hi) (el_sh hi) rfl ?_
      refine ex_icmp_gt (pc := 21) (tgt := 28) d_El_hasInside_21 rfl (fun c21 => ?_) (fun c21 => ?_)
      · refine ex_iconst (pc := 28) (v := (nI 0)) d_El_hasInside_28 (by decide) ?_
        refine ex_iret (ty := .boolean) d_El_hasInside_29 rfl rfl rfl (Nat.le_refl _) ?_
        exact ⟨rfl, by rw [hasIn, decide_eq_false (p := ¬ iv (46 + i) 5 < x) (fun q => q c21), Bool.and_false, Bool.and_false]; rfl⟩
      · refine ex_iconst (pc := 24) (v := (nI 1)) d_El_hasInside_24 (by decide) ?_
        refine ex_goto (pc := 25) (tgt := 29) d_El_hasInside_25 rfl ?_
        refine ex_iret (ty := .boolean) d_El_hasInside_29 rfl rfl rfl (Nat.le_refl _) ?_
        exact ⟨rfl, by rw [hasIn, decide_eq_true c5, decide_eq_true c13, decide_eq_true c21]; rfl⟩

def elTell (iv : Nat → Nat → Int32) (i : Nat) (x : Int32) : Int32 := if x.toInt = 0 then iv (46 + i) 0 else if x.toInt = 1 then iv (46 + i) 1 else if x.toInt = 2 then iv (46 + i) 3 else if x.toInt = 3 then iv (46 + i) 6 else if x.toInt = 4 then iv (46 + i) 7 else if x.toInt = 5 then (if iv (46 + i) 8 = nI 3 then nI 1 else nI 0) else -1
set_option maxRecDepth 100000 in
set_option maxHeartbeats 4000000 in
theorem ct_El_tell (l : Launch) (G : ex_G) (iv : Nat → Nat → Int32) (mp : Nat → Nat) (sp mo : Nat) (i : Nat) (hi : i < 34) (x : Int32) : CT l G 0 M_El_tell [.ref (46 + i), .int x] (HP iv mp sp mo) 0 0 (fun r h' => h' = HP iv mp sp mo ∧ r = some (.int (elTell iv i x))) := by
  refine ex_enter (by decide) (Nat.le_of_ble_eq_true rfl) (fun v hv => by simp at hv; rcases hv with rfl | rfl <;> rfl) (fun p e s m args below meth c => ?_)
  refine ex_iload_n (pc := 0) (i := 1) d_El_tell_0 rfl rfl ?_
  by_cases w1_0 : x.toInt = 0
  · refine ex_tableIn (pc := 1) (off := 39) (tgt := 40) d_El_tell_1 (by omega) (by omega) (by rw [w1_0]; rfl) rfl ?_
    refine ex_aload_n (pc := 40) (i := 0) d_El_tell_40 rfl rfl ?_
    refine ex_getx (pc := 41) 3 0 (iv (46 + i) 0) d_El_tell_41 FL_El_9 (el_lt hi) (el_sh hi) rfl ?_
    refine ex_iret (ty := .int) d_El_tell_44 rfl rfl rfl (Nat.le_refl _) ?_
    exact ⟨rfl, by simp [elTell, *]⟩
  by_cases w1_1 : x.toInt = 1
  · refine ex_tableIn (pc := 1) (off := 44) (tgt := 45) d_El_tell_1 (by omega) (by omega) (by rw [w1_1]; rfl) rfl ?_
    refine ex_aload_n (pc := 45) (i := 0) d_El_tell_45 rfl rfl ?_
    refine ex_getx (pc := 46) 3 1 (iv (46 + i) 1) d_El_tell_46 FL_El_15 (el_lt hi) (el_sh hi) rfl ?_
    refine ex_iret (ty := .int) d_El_tell_49 rfl rfl rfl (Nat.le_refl _) ?_
    exact ⟨rfl, by simp [elTell, *]⟩
  by_cases w1_2 : x.toInt = 2
  · refine ex_tableIn (pc := 1) (off := 49) (tgt := 50) d_El_tell_1 (by omega) (by omega) (by rw [w1_2]; rfl) rfl ?_
    refine ex_aload_n (pc := 50) (i := 0) d_El_tell_50 rfl rfl ?_
    refine ex_getx (pc := 51) 3 3 (iv (46 + i) 3) d_El_tell_51 FL_El_21 (el_lt hi) (el_sh hi) rfl ?_
    refine ex_iret (ty := .int) d_El_tell_54 rfl rfl rfl (Nat.le_refl _) ?_
    exact ⟨rfl, by simp [elTell, *]⟩
  by_cases w1_3 : x.toInt = 3
  · refine ex_tableIn (pc := 1) (off := 54) (tgt := 55) d_El_tell_1 (by omega) (by omega) (by rw [w1_3]; rfl) rfl ?_
    refine ex_aload_n (pc := 55) (i := 0) d_El_tell_55 rfl rfl ?_
    refine ex_getx (pc := 56) 3 6 (iv (46 + i) 6) d_El_tell_56 FL_El_39 (el_lt hi) (el_sh hi) rfl ?_
    refine ex_iret (ty := .int) d_El_tell_59 rfl rfl rfl (Nat.le_refl _) ?_
    exact ⟨rfl, by simp [elTell, *]⟩
  by_cases w1_4 : x.toInt = 4
  · refine ex_tableIn (pc := 1) (off := 59) (tgt := 60) d_El_tell_1 (by omega) (by omega) (by rw [w1_4]; rfl) rfl ?_
    refine ex_aload_n (pc := 60) (i := 0) d_El_tell_60 rfl rfl ?_
    refine ex_getx (pc := 61) 3 7 (iv (46 + i) 7) d_El_tell_61 FL_El_27 (el_lt hi) (el_sh hi) rfl ?_
    refine ex_iret (ty := .int) d_El_tell_64 rfl rfl rfl (Nat.le_refl _) ?_
    exact ⟨rfl, by simp [elTell, *]⟩
  by_cases w1_5 : x.toInt = 5
  · refine ex_tableIn (pc := 1) (off := 64) (tgt := 65) d_El_tell_1 (by omega) (by omega) (by rw [w1_5]; rfl) rfl ?_
    refine ex_aload_n (pc := 65) (i := 0) d_El_tell_65 rfl rfl ?_
    refine ex_getx (pc := 66) 3 8 (iv (46 + i) 8) d_El_tell_66 FL_El_33 (el_lt hi) (el_sh hi) rfl ?_
    refine ex_iconst (pc := 69) (v := (nI 3)) d_El_tell_69 (by decide) ?_
    refine ex_icmp_ne (pc := 70) (tgt := 77) d_El_tell_70 rfl (fun c70 => ?_) (fun c70 => ?_)
    · refine ex_iconst (pc := 77) (v := (nI 0)) d_El_tell_77 (by decide) ?_
      refine ex_iret (ty := .int) d_El_tell_78 rfl rfl rfl (Nat.le_refl _) ?_
      exact ⟨rfl, by simp [elTell, *]⟩
    · refine ex_iconst (pc := 73) (v := (nI 1)) d_El_tell_73 (by decide) ?_
      refine ex_goto (pc := 74) (tgt := 78) d_El_tell_74 rfl ?_
      refine ex_iret (ty := .int) d_El_tell_78 rfl rfl rfl (Nat.le_refl _) ?_
      exact ⟨rfl, by simp [elTell, *]⟩
  refine ex_tableOut (pc := 1) (tgt := 79) d_El_tell_1 (by omega) rfl ?_
  refine ex_iconst (pc := 79) (v := (-1)) d_El_tell_79 (by decide) ?_
  refine ex_iret (ty := .int) d_El_tell_80 rfl rfl rfl (Nat.le_refl _) ?_
  exact ⟨rfl, by simp [elTell, *]⟩

def faU (iv : Nat → Nat → Int32) (n j : Nat) : Nat → Nat → Int32 := va_up iv 81 (mvU (iv 81) j n)
set_option maxRecDepth 100000 in
set_option maxHeartbeats 4000000 in
theorem ct_Fa_clear (l : Launch) (G : ex_G) (iv : Nat → Nat → Int32) (mp : Nat → Nat) (sp mo : Nat) : CT l G 0 M_Fa_clear [.ref 80] (HP iv mp sp mo) 0 0 (fun r h' => h' = HP (ex_u2 iv 80 1 (nI 0)) mp sp mo ∧ r = none) := by
  refine ex_enter (by decide) (Nat.le_of_ble_eq_true rfl) (fun v hv => by simp at hv; rcases hv with rfl <;> rfl) (fun p e s m args below meth c => ?_)
  refine ex_aload_n (pc := 0) (i := 0) d_Fa_clear_0 rfl rfl ?_
  refine ex_iconst (pc := 1) (v := (nI 0)) d_Fa_clear_1 (by decide) ?_
  refine ex_puti (pc := 2) 4 1 .int d_Fa_clear_2 (PF_Fa_15 _) (Nat.le_of_ble_eq_true rfl) rfl rfl rfl ?_
  refine ex_vret d_Fa_clear_5 rfl rfl (Nat.le_refl _) ?_
  exact ⟨rfl, rfl⟩

/-- where a key goes among the n keys of a row: behind all that aren't greater, from the end -/
def insAt (f : Nat → Int32) (key : Int32) : Nat → Nat
  | 0 => 0
  | k + 1 => if key < f k then insAt f key k else k + 1
theorem insAt_le (f : Nat → Int32) (key : Int32) : ∀ n, insAt f key n ≤ n := by
  intro n
  induction n with
  | zero => exact Nat.le_refl _
  | succ k ih =>
    rw [insAt]
    by_cases h : key < f k
    · rw [if_pos h]
      omega
    · rw [if_neg h]
      exact Nat.le_refl _
def insK (f : Nat → Int32) (n : Nat) (key : Int32) : Nat → Int32 := va_up (mvU f (insAt f key n) n) (insAt f key n) key
def faAdd (iv : Nat → Nat → Int32) (n : Nat) (key : Int32) : Nat → Nat → Int32 := ex_u2 (va_up iv 81 (insK (iv 81) n key)) 80 1 (nI (n + 1))
set_option maxRecDepth 100000 in
set_option maxHeartbeats 4000000 in
theorem lp_Fa_add {p : Program} {e : Env} {s : State} {m : MethodId} {args : Array Value} {below : List Frame} {meth : Method} {c : Code} (l : Launch) (G : ex_G) (iv : Nat → Nat → Int32) (mp : Nat → Nat) (sp mo : Nat) (x y key : Int32) (n : Nat) (hn : iv 80 1 = nI n) (hl : n ≤ 200) : ∀ (k : Nat), k ≤ n → insAt (iv 81) key k = insAt (iv 81) key n → EXM M_Fa_add l G 0 (fun r h' => h' = HP (faAdd iv n key) mp sp mo ∧ r = none) p e s m args below meth c 24 [some (.ref 80), some (.int x), some (.int y), some (.int key), some (.int (nI k))] [] (HP (va_up iv 81 (mvU (iv 81) k n)) mp sp mo) := by
  intro k
  induction k with
  | zero =>
    intro hk hv
    refine ex_iload (pc := 24) d_Fa_add_24 rfl ?_
    refine ex_if_le (pc := 26) (tgt := 64) d_Fa_add_26 rfl (fun c26 => ?_) (fun c26 => ?_)
    · refine ex_aload_n (pc := 64) (i := 0) d_Fa_add_64 rfl rfl ?_
      refine ex_getr (pc := 65) 4 0 d_Fa_add_65 FL_Fa_9 (Nat.le_of_ble_eq_true rfl) rfl rfl ?_
      refine ex_iload (pc := 68) d_Fa_add_68 rfl ?_
      refine ex_iload_n (pc := 70) (i := 3) d_Fa_add_70 rfl rfl ?_
      refine ex_iast (pc := 71) 0 d_Fa_add_71 (Nat.le_of_ble_eq_true rfl) rfl rfl rfl rfl (show 0 < 201 by omega) ?_
      refine ex_aload_n (pc := 72) (i := 0) d_Fa_add_72 rfl rfl ?_
      refine ex_dup (pc := 73) d_Fa_add_73 rfl ?_
      refine ex_getx (pc := 74) 4 1 (nI n) d_Fa_add_74 FL_Fa_15 (Nat.le_of_ble_eq_true rfl) rfl hn ?_
      refine ex_iconst (pc := 77) (v := (nI 1)) d_Fa_add_77 (by decide) ?_
      refine ex_iadd (pc := 78) d_Fa_add_78 ?_
      refine ex_puti (pc := 79) 4 1 .int d_Fa_add_79 (PF_Fa_15 _) (Nat.le_of_ble_eq_true rfl) rfl rfl rfl ?_
      refine ex_heap (h' := HP (faAdd iv n key) mp sp mo) ?_ ?_
      · rw [nI_s, faAdd, insK, ← hv, ← ex_u2_up]
        rfl
      refine ex_vret d_Fa_add_82 rfl rfl (Nat.le_refl _) ?_
      exact ⟨rfl, rfl⟩
    · exact absurd (Int32.le_refl _) c26
  | succ k ih =>
    intro hk hv
    have hs1 : nI (k + 1) - nI 1 = nI k := nI_p (by omega)
    have hs2 : (nI (k + 1) - nI 1).toInt = (k : Int) := by rw [hs1]; exact nI_t (by omega)
    rw [insAt] at hv
    refine ex_iload (pc := 24) d_Fa_add_24 rfl ?_
    refine ex_if_le (pc := 26) (tgt := 64) d_Fa_add_26 rfl (fun c26 => ?_) (fun c26 => ?_)
    · exact absurd c26 (nI_nle (by omega) (by omega))
    · refine ex_aload_n (pc := 29) (i := 0) d_Fa_add_29 rfl rfl ?_
      refine ex_getr (pc := 30) 4 0 d_Fa_add_30 FL_Fa_9 (Nat.le_of_ble_eq_true rfl) rfl rfl ?_
      refine ex_iload (pc := 33) d_Fa_add_33 rfl ?_
      refine ex_iconst (pc := 35) (v := (nI 1)) d_Fa_add_35 (by decide) ?_
      refine ex_isub (pc := 36) d_Fa_add_36 ?_
      refine ex_ialdx (pc := 37) k (iv 81 k) d_Fa_add_37 (Nat.le_of_ble_eq_true rfl) rfl rfl rfl hs2 (show k < 201 by omega) (mvU_lo (by omega)) ?_
      refine ex_iload_n (pc := 38) (i := 3) d_Fa_add_38 rfl rfl ?_
      refine ex_icmp_le (pc := 39) (tgt := 64) d_Fa_add_39 rfl (fun c39 => ?_) (fun c39 => ?_)
      · refine ex_aload_n (pc := 64) (i := 0) d_Fa_add_64 rfl rfl ?_
        refine ex_getr (pc := 65) 4 0 d_Fa_add_65 FL_Fa_9 (Nat.le_of_ble_eq_true rfl) rfl rfl ?_
        refine ex_iload (pc := 68) d_Fa_add_68 rfl ?_
        refine ex_iload_n (pc := 70) (i := 3) d_Fa_add_70 rfl rfl ?_
        refine ex_iast (pc := 71) (k + 1) d_Fa_add_71 (Nat.le_of_ble_eq_true rfl) rfl rfl rfl (nI_t (by omega)) (show k + 1 < 201 by omega) ?_
        refine ex_aload_n (pc := 72) (i := 0) d_Fa_add_72 rfl rfl ?_
        refine ex_dup (pc := 73) d_Fa_add_73 rfl ?_
        refine ex_getx (pc := 74) 4 1 (nI n) d_Fa_add_74 FL_Fa_15 (Nat.le_of_ble_eq_true rfl) rfl hn ?_
        refine ex_iconst (pc := 77) (v := (nI 1)) d_Fa_add_77 (by decide) ?_
        refine ex_iadd (pc := 78) d_Fa_add_78 ?_
        refine ex_puti (pc := 79) 4 1 .int d_Fa_add_79 (PF_Fa_15 _) (Nat.le_of_ble_eq_true rfl) rfl rfl rfl ?_
        refine ex_heap (h' := HP (faAdd iv n key) mp sp mo) ?_ ?_
        · rw [if_neg (fun q => absurd c39 (Int32.not_le.mpr q))] at hv
          rw [nI_s, faAdd, insK, ← hv, ← ex_u2_up]
          rfl
        refine ex_vret d_Fa_add_82 rfl rfl (Nat.le_refl _) ?_
        exact ⟨rfl, rfl⟩
      · refine ex_aload_n (pc := 42) (i := 0) d_Fa_add_42 rfl rfl ?_
        refine ex_getr (pc := 43) 4 0 d_Fa_add_43 FL_Fa_9 (Nat.le_of_ble_eq_true rfl) rfl rfl ?_
        refine ex_iload (pc := 46) d_Fa_add_46 rfl ?_
        refine ex_aload_n (pc := 48) (i := 0) d_Fa_add_48 rfl rfl ?_
        refine ex_getr (pc := 49) 4 0 d_Fa_add_49 FL_Fa_9 (Nat.le_of_ble_eq_true rfl) rfl rfl ?_
        refine ex_iload (pc := 52) d_Fa_add_52 rfl ?_
        refine ex_iconst (pc := 54) (v := (nI 1)) d_Fa_add_54 (by decide) ?_
        refine ex_isub (pc := 55) d_Fa_add_55 ?_
        refine ex_ialdx (pc := 56) k (iv 81 k) d_Fa_add_56 (Nat.le_of_ble_eq_true rfl) rfl rfl rfl hs2 (show k < 201 by omega) (mvU_lo (by omega)) ?_
        refine ex_iast (pc := 57) (k + 1) d_Fa_add_57 (Nat.le_of_ble_eq_true rfl) rfl rfl rfl (nI_t (by omega)) (show k + 1 < 201 by omega) ?_
        refine ex_heap (h' := HP (va_up iv 81 (mvU (iv 81) k n)) mp sp mo) ?_ ?_
        · rw [← mvU_1 hk, ← ex_u2_up]
          rfl
        refine ex_iinc (pc := 58) (v := (nI k)) d_Fa_add_58 rfl (pk_m1 k) (by decide) ?_
        refine ex_goto (pc := 61) (tgt := 24) d_Fa_add_61 rfl ?_
        exact ih (by omega) (by rw [if_pos (Int32.not_le.mp c39)] at hv; exact hv)

set_option maxRecDepth 100000 in
set_option maxHeartbeats 4000000 in
theorem ct_Fa_add (l : Launch) (G : ex_G) (iv : Nat → Nat → Int32) (mp : Nat → Nat) (sp mo : Nat) (x y : Int32) (n : Nat) (hn : iv 80 1 = nI n) (hl : n ≤ 200) : CT l G 0 M_Fa_add [.ref 80, .int x, .int y] (HP iv mp sp mo) 0 0 (fun r h' => h' = HP (faAdd iv n (y * nI 8 + x)) mp sp mo ∧ r = none) := by
  refine ex_enter (by decide) (Nat.le_of_ble_eq_true rfl) (fun v hv => by simp at hv; rcases hv with rfl | rfl | rfl <;> rfl) (fun p e s m args below meth c => ?_)
  refine ex_aload_n (pc := 0) (i := 0) d_Fa_add_0 rfl rfl ?_
  refine ex_getx (pc := 1) 4 1 (nI n) d_Fa_add_1 FL_Fa_15 (Nat.le_of_ble_eq_true rfl) rfl hn ?_
  refine ex_sipush (pc := 4) (v := (nI 201)) d_Fa_add_4 (by decide) ?_
  refine ex_icmp_lt (pc := 7) (tgt := 11) d_Fa_add_7 rfl (fun c7 => ?_) (fun c7 => ?_)
  · refine ex_iload_n (pc := 11) (i := 2) d_Fa_add_11 rfl rfl ?_
    refine ex_bipush (pc := 12) (v := (nI 8)) d_Fa_add_12 (by decide) ?_
    refine ex_imul (pc := 14) d_Fa_add_14 ?_
    refine ex_iload_n (pc := 15) (i := 1) d_Fa_add_15 rfl rfl ?_
    refine ex_iadd (pc := 16) d_Fa_add_16 ?_
    refine ex_istore_n (pc := 17) (i := 3) d_Fa_add_17 rfl (by decide) ?_
    refine ex_aload_n (pc := 18) (i := 0) d_Fa_add_18 rfl rfl ?_
    refine ex_getx (pc := 19) 4 1 (nI n) d_Fa_add_19 FL_Fa_15 (Nat.le_of_ble_eq_true rfl) rfl hn ?_
    refine ex_istore (pc := 22) d_Fa_add_22 (by decide) ?_
    refine ex_heap (h' := HP (va_up iv 81 (mvU (iv 81) n n)) mp sp mo) ?_ ?_
    · rw [mvU_n, up_id]
    exact lp_Fa_add l G iv mp sp mo x y _ n hn hl n (Nat.le_refl _) rfl
  · exact absurd ((n_lt (by omega) (by omega)).mpr (by omega)) c7

def faTell (iv : Nat → Nat → Int32) (x y : Int32) : Int32 := if 0 ≤ x.toInt ∧ x.toInt < (iv 80 1).toInt then (if y.toInt = 0 then iv 81 x.toInt.toNat - iv 81 x.toInt.toNat / nI 8 * nI 8 else if y.toInt = 1 then iv 81 x.toInt.toNat / nI 8 else -1) else -1
set_option maxRecDepth 100000 in
set_option maxHeartbeats 4000000 in
theorem ct_Fa_tell (l : Launch) (G : ex_G) (iv : Nat → Nat → Int32) (mp : Nat → Nat) (sp mo : Nat) (x y : Int32) (hb : (iv 80 1).toInt ≤ 201) : CT l G 0 M_Fa_tell [.ref 80, .int x, .int y] (HP iv mp sp mo) 0 0 (fun r h' => h' = HP iv mp sp mo ∧ r = some (.int (faTell iv x y))) := by
  refine ex_enter (by decide) (Nat.le_of_ble_eq_true rfl) (fun v hv => by simp at hv; rcases hv with rfl | rfl | rfl <;> rfl) (fun p e s m args below meth c => ?_)
  refine ex_iload_n (pc := 0) (i := 1) d_Fa_tell_0 rfl rfl ?_
  refine ex_if_lt (pc := 1) (tgt := 12) d_Fa_tell_1 rfl (fun c1 => ?_) (fun c1 => ?_)
  · refine ex_iconst (pc := 12) (v := (-1)) d_Fa_tell_12 (by decide) ?_
    refine ex_iret (ty := .int) d_Fa_tell_13 rfl rfl rfl (Nat.le_refl _) ?_
    exact ⟨rfl, by rw [faTell, if_neg (i_neg c1)]⟩
  · refine ex_iload_n (pc := 4) (i := 1) d_Fa_tell_4 rfl rfl ?_
    refine ex_aload_n (pc := 5) (i := 0) d_Fa_tell_5 rfl rfl ?_
    refine ex_getx (pc := 6) 4 1 (iv 80 1) d_Fa_tell_6 FL_Fa_15 (Nat.le_of_ble_eq_true rfl) rfl rfl ?_
    refine ex_icmp_lt (pc := 9) (tgt := 14) d_Fa_tell_9 rfl (fun c9 => ?_) (fun c9 => ?_)
    · have hx : 0 ≤ x.toInt ∧ x.toInt < (iv 80 1).toInt := by
        have q1 := i_nlt c1
        have q2 := i_lt.mp c9
        rw [i_0] at q1
        exact ⟨q1, q2⟩
      refine ex_iload_n (pc := 14) (i := 2) d_Fa_tell_14 rfl rfl ?_
      by_cases w15_0 : y.toInt = 0
      · refine ex_lookup (pc := 15) (off := 25) (tgt := 40) d_Fa_tell_15 (by decide) (by rw [w15_0]; rfl) rfl ?_
        refine ex_aload_n (pc := 40) (i := 0) d_Fa_tell_40 rfl rfl ?_
        refine ex_getr (pc := 41) 4 0 d_Fa_tell_41 FL_Fa_9 (Nat.le_of_ble_eq_true rfl) rfl rfl ?_
        refine ex_iload_n (pc := 44) (i := 1) d_Fa_tell_44 rfl rfl ?_
        refine ex_ialdx (pc := 45) x.toInt.toNat (iv 81 x.toInt.toNat) d_Fa_tell_45 (Nat.le_of_ble_eq_true rfl) rfl rfl rfl (by omega) (show x.toInt.toNat < 201 by omega) rfl ?_
        refine ex_bipush (pc := 46) (v := (nI 8)) d_Fa_tell_46 (by decide) ?_
        refine ex_irem (pc := 48) d_Fa_tell_48 (by decide) ?_
        refine ex_iret (ty := .int) d_Fa_tell_49 rfl rfl rfl (Nat.le_refl _) ?_
        exact ⟨rfl, by rw [faTell, if_pos hx, if_pos w15_0]⟩
      by_cases w15_1 : y.toInt = 1
      · refine ex_lookup (pc := 15) (off := 35) (tgt := 50) d_Fa_tell_15 (by decide) (by rw [w15_1]; rfl) rfl ?_
        refine ex_aload_n (pc := 50) (i := 0) d_Fa_tell_50 rfl rfl ?_
        refine ex_getr (pc := 51) 4 0 d_Fa_tell_51 FL_Fa_9 (Nat.le_of_ble_eq_true rfl) rfl rfl ?_
        refine ex_iload_n (pc := 54) (i := 1) d_Fa_tell_54 rfl rfl ?_
        refine ex_ialdx (pc := 55) x.toInt.toNat (iv 81 x.toInt.toNat) d_Fa_tell_55 (Nat.le_of_ble_eq_true rfl) rfl rfl rfl (by omega) (show x.toInt.toNat < 201 by omega) rfl ?_
        refine ex_bipush (pc := 56) (v := (nI 8)) d_Fa_tell_56 (by decide) ?_
        refine ex_idiv (pc := 58) d_Fa_tell_58 (by decide) ?_
        refine ex_iret (ty := .int) d_Fa_tell_59 rfl rfl rfl (Nat.le_refl _) ?_
        exact ⟨rfl, by rw [faTell, if_pos hx, if_neg w15_0, if_pos w15_1]⟩
      refine ex_lookup (pc := 15) (off := 45) (tgt := 60) d_Fa_tell_15 (by decide) (lkp2 w15_0 w15_1) rfl ?_
      refine ex_iconst (pc := 60) (v := (-1)) d_Fa_tell_60 (by decide) ?_
      refine ex_iret (ty := .int) d_Fa_tell_61 rfl rfl rfl (Nat.le_refl _) ?_
      exact ⟨rfl, by rw [faTell, if_pos hx, if_neg w15_0, if_neg w15_1]⟩
    · refine ex_iconst (pc := 12) (v := (-1)) d_Fa_tell_12 (by decide) ?_
      refine ex_iret (ty := .int) d_Fa_tell_13 rfl rfl rfl (Nat.le_refl _) ?_
      exact ⟨rfl, by rw [faTell, if_neg (i_big (Int32.not_lt.mp c9))]⟩

def prvF (f : Nat → Int32) : Nat → Nat → Bool
  | 0, _ => false
  | k + 1, i => if nI 4 < f i - f i / nI 8 * nI 8 then prvF f k (i + 1) else true
set_option maxRecDepth 100000 in
set_option maxHeartbeats 4000000 in
theorem lp_Fa_preventForm {p : Program} {e : Env} {s : State} {m : MethodId} {args : Array Value} {below : List Frame} {meth : Method} {c : Code} (l : Launch) (G : ex_G) (iv : Nat → Nat → Int32) (mp : Nat → Nat) (sp mo : Nat) (n : Nat) (hn : iv 80 1 = nI n) (hl : n ≤ 201) (v : Bool) : ∀ (k i : Nat), i + k = n → prvF (iv 81) k i = v → EXM M_Fa_preventForm l G 0 (fun r h' => h' = HP iv mp sp mo ∧ r = some (.int (b2i v))) p e s m args below meth c 2 [some (.ref 80), some (.int (nI i))] [] (HP iv mp sp mo) := by
  intro k
  induction k with
  | zero =>
    intro i hik hv
    subst hv
    refine ex_iload_n (pc := 2) (i := 1) d_Fa_preventForm_2 rfl rfl ?_
    refine ex_aload_n (pc := 3) (i := 0) d_Fa_preventForm_3 rfl rfl ?_
    refine ex_getx (pc := 4) 4 1 (nI n) d_Fa_preventForm_4 FL_Fa_15 (Nat.le_of_ble_eq_true rfl) rfl hn ?_
    refine ex_icmp_ge (pc := 7) (tgt := 31) d_Fa_preventForm_7 rfl (fun c7 => ?_) (fun c7 => ?_)
    · refine ex_iconst (pc := 31) (v := (nI 0)) d_Fa_preventForm_31 (by decide) ?_
      refine ex_iret (ty := .boolean) d_Fa_preventForm_32 rfl rfl rfl (Nat.le_refl _) ?_
      exact ⟨rfl, rfl⟩
    · exact absurd ((n_ge (by omega) (by omega)).mpr (by omega)) c7
  | succ k ih =>
    intro i hik hv
    rw [prvF] at hv
    refine ex_iload_n (pc := 2) (i := 1) d_Fa_preventForm_2 rfl rfl ?_
    refine ex_aload_n (pc := 3) (i := 0) d_Fa_preventForm_3 rfl rfl ?_
    refine ex_getx (pc := 4) 4 1 (nI n) d_Fa_preventForm_4 FL_Fa_15 (Nat.le_of_ble_eq_true rfl) rfl hn ?_
    refine ex_icmp_ge (pc := 7) (tgt := 31) d_Fa_preventForm_7 rfl (fun c7 => ?_) (fun c7 => ?_)
    · exact absurd ((n_ge (by omega) (by omega)).mp c7) (by omega)
    · refine ex_aload_n (pc := 10) (i := 0) d_Fa_preventForm_10 rfl rfl ?_
      refine ex_getr (pc := 11) 4 0 d_Fa_preventForm_11 FL_Fa_9 (Nat.le_of_ble_eq_true rfl) rfl rfl ?_
      refine ex_iload_n (pc := 14) (i := 1) d_Fa_preventForm_14 rfl rfl ?_
      refine ex_ialdx (pc := 15) i (iv 81 i) d_Fa_preventForm_15 (Nat.le_of_ble_eq_true rfl) rfl rfl rfl (nI_t (by omega)) (show i < 201 by omega) rfl ?_
      refine ex_bipush (pc := 16) (v := (nI 8)) d_Fa_preventForm_16 (by decide) ?_
      refine ex_irem (pc := 18) d_Fa_preventForm_18 (by decide) ?_
      refine ex_iconst (pc := 19) (v := (nI 4)) d_Fa_preventForm_19 (by decide) ?_
      refine ex_icmp_gt (pc := 20) (tgt := 25) d_Fa_preventForm_20 rfl (fun c20 => ?_) (fun c20 => ?_)
      · refine ex_iinc (pc := 25) (v := (nI (i + 1))) d_Fa_preventForm_25 rfl (nI_1 i) (by decide) ?_
        refine ex_goto (pc := 28) (tgt := 2) d_Fa_preventForm_28 rfl ?_
        exact ih (i + 1) (by omega) (by rw [if_pos c20] at hv; exact hv)
      · refine ex_iconst (pc := 23) (v := (nI 1)) d_Fa_preventForm_23 (by decide) ?_
        refine ex_iret (ty := .boolean) d_Fa_preventForm_24 rfl rfl rfl (Nat.le_refl _) ?_
        exact ⟨rfl, by rw [← hv, if_neg c20]; rfl⟩

set_option maxRecDepth 100000 in
set_option maxHeartbeats 4000000 in
theorem ct_Fa_preventForm (l : Launch) (G : ex_G) (iv : Nat → Nat → Int32) (mp : Nat → Nat) (sp mo : Nat) (n : Nat) (hn : iv 80 1 = nI n) (hl : n ≤ 201) : CT l G 0 M_Fa_preventForm [.ref 80] (HP iv mp sp mo) 0 0 (fun r h' => h' = HP iv mp sp mo ∧ r = some (.int (b2i (prvF (iv 81) n 0)))) := by
  refine ex_enter (by decide) (Nat.le_of_ble_eq_true rfl) (fun v hv => by simp at hv; rcases hv with rfl <;> rfl) (fun p e s m args below meth c => ?_)
  refine ex_iconst (pc := 0) (v := (nI 0)) d_Fa_preventForm_0 (by decide) ?_
  refine ex_istore_n (pc := 1) (i := 1) d_Fa_preventForm_1 rfl (by decide) ?_
  exact lp_Fa_preventForm l G iv mp sp mo n hn hl _ n 0 (by omega) rfl

