/-! end tags; one step of reading (class) -/
theorem low_ch {iv : Nat → Nat → Int32} {pr : Nat → Nat} {nm : Int32} {cn : Nat} (hp : ∀ q, 0 < q → q ≤ cn → pr q ≤ cn) : ∀ k q v, q ≤ cn → lowF iv pr nm k q = v → 0 < v → onCh pr cn v k q ∧ v ≤ cn := by
  intro k
  induction k with
  | zero =>
    intro q v _ h hv
    rw [lowF] at h
    omega
  | succ k ih =>
    intro q v hq h hv
    rw [lowF] at h
    by_cases h0 : q = 0
    · rw [if_pos h0] at h
      omega
    · rw [if_neg h0] at h
      by_cases h1 : iv (46 + q) 0 = nm
      · rw [if_pos h1] at h
        exact ⟨Or.inl h, by omega⟩
      · rw [if_neg h1] at h
        obtain ⟨a, b⟩ := ih (pr q) v (hp q (by omega) hq) h hv
        exact ⟨Or.inr ⟨by omega, hq, a⟩, b⟩
theorem clsF_o {pr : Nat → Nat} {cn ou : Nat} {x : Int32} (hcl : cn ≤ 33) (hp : ∀ q, 0 < q → q ≤ cn → pr q ≤ cn) {a j : Nat} (h : (a ≠ 41 ∨ j ≠ 3) ∧ (a < 46 ∨ 80 ≤ a ∨ (j ≠ 8 ∧ j ≠ 5 ∧ j ≠ 6))) : ∀ k q (iv : Nat → Nat → Int32), q ≤ cn → onCh pr cn ou k q → clsF pr ou x k q iv a j = iv a j := by
  intro k
  induction k with
  | zero => exact fun _ _ _ _ => rfl
  | succ k ih =>
    intro q iv hq hch
    rw [clsF]
    by_cases h0 : q = ou
    · rw [if_pos h0]
    · rw [if_neg h0]
      obtain ⟨h1, h2, h3⟩ := hch.resolve_left h0
      rw [ih (pr q) _ (hp q h1 h2) h3, u2n h.1, elClose_o (by
        rcases h.2 with z | z | z
        · exact Or.inl (by omega)
        · exact Or.inl (by omega)
        · exact Or.inr z)]
def trE1 (iv : Nat → Nat → Int32) (pr : Nat → Nat) (op cl : Nat) (x y : Int32) : Nat → Nat → Int32 := elClose (clsF pr cl x 8 op iv) cl (nI 3) x y
def trE2 (iv : Nat → Nat → Int32) (pr : Nat → Nat) (op cl : Nat) (x y : Int32) : Nat → Nat → Int32 := ex_u2 (trE1 iv pr op cl x y) 41 3 (nI (pr cl))
def trEnd (iv : Nat → Nat → Int32) (pr : Nat → Nat) (op cl tg : Nat) (x y : Int32) : Nat → Nat → Int32 := trTag (trE2 iv pr op cl x y) tg x y (nI cl)
/-- the element that an end tag at x closes, 0 if none -/
def endOf (iv : Nat → Nat → Int32) (pr : Nat → Nat) (op : Nat) (x : Int32) : Nat := lowF iv pr (cAt iv (x + nI 2)) 8 op
set_option maxRecDepth 100000 in
set_option maxHeartbeats 4000000 in
theorem ct_Tr_takeEndTag (l : Launch) (G : ex_G) (iv : Nat → Nat → Int32) (mp : Nat → Nat) (sp mo : Nat) (op : Nat) (hop : iv 41 3 = nI op) (ho : op < 34) (cn tg : Nat) (hc : iv 41 2 = nI cn) (hcl : cn ≤ 33) (ht : iv 41 7 = nI tg) (htl : tg < 33) (nf : Nat) (hf : iv 80 1 = nI nf) (hfl : nf ≤ 200) (hb : (iv 39 1).toInt ≤ ((100 : Nat) : Int)) (pr : Nat → Nat) (hoc : op ≤ cn) (hp : ∀ q, 0 < q → q ≤ cn → iv (46 + q) 1 = nI (pr q) ∧ pr q ≤ cn) (x y : Int32) : CT l G 2 M_Tr_takeEndTag [.ref 41, .int x, .int y, .ref 80] (HP iv mp sp mo) 0 0 (fun r h' => r = none ∧ (0 < endOf iv pr op x → h' = HP (trEnd iv pr op (endOf iv pr op x) tg x y) mp sp mo) ∧ (endOf iv pr op x = 0 → h' = HP (faAdd (trTag iv tg x y (-1)) nf (x * nI 8 + nI 3)) mp sp mo)) := by
  refine ex_enter (by decide) (Nat.le_of_ble_eq_true rfl) (fun v hv => by simp at hv; rcases hv with rfl | rfl | rfl | rfl <;> rfl) (fun p e s m args below meth c => ?_)
  refine ex_aload_n (pc := 0) (i := 0) d_Tr_takeEndTag_0 rfl rfl ?_
  refine ex_aload_n (pc := 1) (i := 0) d_Tr_takeEndTag_1 rfl rfl ?_
  refine ex_getr (pc := 2) 11 0 d_Tr_takeEndTag_2 FL_Tr_27 (Nat.le_of_ble_eq_true rfl) rfl rfl ?_
  refine ex_iload_n (pc := 5) (i := 1) d_Tr_takeEndTag_5 rfl rfl ?_
  refine ex_iconst (pc := 6) (v := (nI 2)) d_Tr_takeEndTag_6 (by decide) ?_
  refine ex_iadd (pc := 7) d_Tr_takeEndTag_7 ?_
  refine ex_callV (pc := 8) (M' := M_Tx_at) (as := [.int (x + nI 2)]) (st := [.ref 41]) d_Tr_takeEndTag_8 MW_Tx_at MI_Tx_at LK_Tr_80 (Nat.le_of_ble_eq_true rfl) rfl rfl rfl (ct_Tx_at l G iv mp sp mo (x + nI 2) hb) (ex_lt_rm (by decide)) ⟨Nat.le_refl _, Nat.le_refl _⟩ rfl rfl (Nat.le_of_ble_eq_true rfl) ?_
  rintro _ _ ⟨rfl, rfl⟩
  refine ex_top (show _ = cAt iv (x + nI 2) from rfl) ?_
  refine ex_callV (pc := 11) (M' := M_Tr_latestOpenWith) (as := [.int (cAt iv (x + nI 2))]) (st := []) d_Tr_takeEndTag_11 MW_Tr_latestOpenWith MI_Tr_latestOpenWith LK_Tr_103 (Nat.le_of_ble_eq_true rfl) rfl rfl rfl (ct_Tr_latestOpenWith l G iv mp sp mo (cAt iv (x + nI 2)) pr cn hcl hp op hop hoc) (ex_lt_rm (by decide)) ⟨Nat.le_refl _, Nat.le_refl _⟩ rfl rfl (Nat.le_of_ble_eq_true rfl) ?_
  rintro _ _ ⟨rfl, rfl⟩
  refine ex_top (show _ = nI (endOf iv pr op x) from rfl) ?_
  generalize hcd : endOf iv pr op x = cl
  refine ex_istore (pc := 14) d_Tr_takeEndTag_14 (by decide) ?_
  refine ex_iload (pc := 16) d_Tr_takeEndTag_16 rfl ?_
  refine ex_if_ne (pc := 18) (tgt := 35) d_Tr_takeEndTag_18 rfl (fun c18 => ?_) (fun c18 => ?_)
  · have hc0 : 0 < cl := by
      have q1 : ¬ cl = 0 := fun q => c18 (by rw [q]; rfl)
      omega
    have hp2 : ∀ q, 0 < q → q ≤ cn → pr q ≤ cn := fun q z1 z2 => (hp q z1 z2).2
    obtain ⟨hch, hlc⟩ := low_ch hp2 8 op cl hoc hcd hc0
    refine ex_aload_n (pc := 35) (i := 0) d_Tr_takeEndTag_35 rfl rfl ?_
    refine ex_iload (pc := 36) d_Tr_takeEndTag_36 rfl ?_
    refine ex_iload_n (pc := 38) (i := 1) d_Tr_takeEndTag_38 rfl rfl ?_
    refine ex_callV (pc := 39) (M' := M_Tr_closeUpTo) (as := [.int (nI cl), .int x]) (st := []) d_Tr_takeEndTag_39 MW_Tr_closeUpTo MI_Tr_closeUpTo LK_Tr_54 (Nat.le_of_ble_eq_true rfl) rfl rfl rfl (ct_Tr_closeUpTo l G iv mp sp mo pr cn cl op hcl hlc hop hoc hp hch x) (ex_lt_rm (by decide)) ⟨Nat.le_refl _, Nat.le_refl _⟩ rfl rfl (Nat.le_of_ble_eq_true rfl) ?_
    rintro _ _ ⟨rfl, rfl⟩
    refine ex_aload_n (pc := 42) (i := 0) d_Tr_takeEndTag_42 rfl rfl ?_
    refine ex_getr (pc := 43) 11 1 d_Tr_takeEndTag_43 FL_Tr_11 (Nat.le_of_ble_eq_true rfl) rfl rfl ?_
    refine ex_iload (pc := 46) d_Tr_takeEndTag_46 rfl ?_
    refine ex_aald (pc := 48) cl d_Tr_takeEndTag_48 (Nat.le_of_ble_eq_true rfl) rfl rfl rfl (nI_t (by omega)) (show cl < 34 by omega) (el_rf (show cl < 34 by omega)) ?_
    refine ex_iconst (pc := 49) (v := (nI 3)) d_Tr_takeEndTag_49 (by decide) ?_
    refine ex_iload_n (pc := 50) (i := 1) d_Tr_takeEndTag_50 rfl rfl ?_
    refine ex_iload_n (pc := 51) (i := 2) d_Tr_takeEndTag_51 rfl rfl ?_
    refine ex_callV (pc := 52) (M' := M_El_close) (as := [.int (nI 3), .int x, .int y]) (st := []) d_Tr_takeEndTag_52 MW_El_close MI_El_close LK_Tr_58 (el_lt (show cl < 34 by omega)) (el_sh (show cl < 34 by omega)) rfl rfl (ct_El_close l G (clsF pr cl x 8 op iv) mp sp mo cl (by omega) (nI 3) x y) (ex_lt_rm (by decide)) ⟨Nat.le_refl _, Nat.le_refl _⟩ rfl rfl (Nat.le_of_ble_eq_true rfl) ?_
    rintro _ _ ⟨rfl, rfl⟩
    refine ex_heap (h' := HP (trE1 iv pr op cl x y) mp sp mo) rfl ?_
    refine ex_aload_n (pc := 55) (i := 0) d_Tr_takeEndTag_55 rfl rfl ?_
    refine ex_aload_n (pc := 56) (i := 0) d_Tr_takeEndTag_56 rfl rfl ?_
    refine ex_getr (pc := 57) 11 1 d_Tr_takeEndTag_57 FL_Tr_11 (Nat.le_of_ble_eq_true rfl) rfl rfl ?_
    refine ex_iload (pc := 60) d_Tr_takeEndTag_60 rfl ?_
    refine ex_aald (pc := 62) cl d_Tr_takeEndTag_62 (Nat.le_of_ble_eq_true rfl) rfl rfl rfl (nI_t (by omega)) (show cl < 34 by omega) (el_rf (show cl < 34 by omega)) ?_
    refine ex_getx (pc := 63) 3 1 (nI (pr cl)) d_Tr_takeEndTag_63 FL_Tr_106 (el_lt (show cl < 34 by omega)) (el_sh (show cl < 34 by omega)) ((elClose_o (Or.inr (by decide))).trans ((clsF_o hcl hp2 ⟨Or.inl (by omega), Or.inr (Or.inr (by decide))⟩ 8 op iv hoc hch).trans (hp cl hc0 hlc).1)) ?_
    refine ex_puti (pc := 66) 11 3 .int d_Tr_takeEndTag_66 (PF_Tr_39 _) (Nat.le_of_ble_eq_true rfl) rfl rfl rfl ?_
    refine ex_heap (h' := HP (trE2 iv pr op cl x y) mp sp mo) rfl ?_
    refine ex_aload_n (pc := 69) (i := 0) d_Tr_takeEndTag_69 rfl rfl ?_
    refine ex_iload_n (pc := 70) (i := 1) d_Tr_takeEndTag_70 rfl rfl ?_
    refine ex_iload_n (pc := 71) (i := 2) d_Tr_takeEndTag_71 rfl rfl ?_
    refine ex_iload (pc := 72) d_Tr_takeEndTag_72 rfl ?_
    refine ex_callV (pc := 74) (M' := M_Tr_addTag) (as := [.int x, .int y, .int (nI cl)]) (st := []) d_Tr_takeEndTag_74 MW_Tr_addTag MI_Tr_addTag LK_Tr_97 (Nat.le_of_ble_eq_true rfl) rfl rfl rfl (ct_Tr_addTag l G (trE2 iv pr op cl x y) mp sp mo tg ((u2n (Or.inr (by decide))).trans ((elClose_o (Or.inl (by omega))).trans ((clsF_o hcl hp2 (by decide) 8 op iv hoc hch).trans ht))) htl x y (nI cl)) (ex_lt_rm (by decide)) ⟨Nat.le_refl _, Nat.le_refl _⟩ rfl rfl (Nat.le_of_ble_eq_true rfl) ?_
    rintro _ _ ⟨rfl, rfl⟩
    refine ex_vret d_Tr_takeEndTag_77 rfl rfl (Nat.le_refl _) ?_
    exact ⟨rfl, fun _ => rfl, fun q => absurd q (by omega)⟩
  · refine ex_aload_n (pc := 21) (i := 0) d_Tr_takeEndTag_21 rfl rfl ?_
    refine ex_iload_n (pc := 22) (i := 1) d_Tr_takeEndTag_22 rfl rfl ?_
    refine ex_iload_n (pc := 23) (i := 2) d_Tr_takeEndTag_23 rfl rfl ?_
    refine ex_iconst (pc := 24) (v := (-1)) d_Tr_takeEndTag_24 (by decide) ?_
    refine ex_callV (pc := 25) (M' := M_Tr_addTag) (as := [.int x, .int y, .int (-1)]) (st := []) d_Tr_takeEndTag_25 MW_Tr_addTag MI_Tr_addTag LK_Tr_97 (Nat.le_of_ble_eq_true rfl) rfl rfl rfl (ct_Tr_addTag l G iv mp sp mo tg ht htl x y (-1)) (ex_lt_rm (by decide)) ⟨Nat.le_refl _, Nat.le_refl _⟩ rfl rfl (Nat.le_of_ble_eq_true rfl) ?_
    rintro _ _ ⟨rfl, rfl⟩
    refine ex_aload_n (pc := 28) (i := 3) d_Tr_takeEndTag_28 rfl rfl ?_
    refine ex_iconst (pc := 29) (v := (nI 3)) d_Tr_takeEndTag_29 (by decide) ?_
    refine ex_iload_n (pc := 30) (i := 1) d_Tr_takeEndTag_30 rfl rfl ?_
    refine ex_callV (pc := 31) (M' := M_Fa_add) (as := [.int (nI 3), .int x]) (st := []) d_Tr_takeEndTag_31 MW_Fa_add MI_Fa_add LK_Tr_85 (Nat.le_of_ble_eq_true rfl) rfl rfl rfl (ct_Fa_add l G (trTag iv tg x y (-1)) mp sp mo (nI 3) x nf ((trTag_o (by decide)).trans hf) hfl) (ex_lt_rm (by decide)) ⟨Nat.le_refl _, Nat.le_refl _⟩ rfl rfl (Nat.le_of_ble_eq_true rfl) ?_
    rintro _ _ ⟨rfl, rfl⟩
    refine ex_vret d_Tr_takeEndTag_34 rfl rfl (Nat.le_refl _) ?_
    have hcl0 : cl = 0 := by
      have q1 : cl ≤ cn ∨ cn < cl := by omega
      rcases q1 with q1 | q1
      · exact (n_eq (by omega) (by omega)).mp c18
      · have q2 := low_ch (fun q z1 z2 => (hp q z1 z2).2) 8 op cl hoc hcd (by omega)
        omega
    exact ⟨rfl, fun q => absurd q (by omega), fun _ => rfl⟩

/-- what one step of reading at x does: its place behind, its heap -/
def TakeP (iv : Nat → Nat → Int32) (mp : Nat → Nat) (sp mo : Nat) (pr : Nat → Nat) (op cn tg nf : Nat) (x : Int32) (r : Option Value) (h' : ex_H) : Prop :=
  (tkF (cAt iv) x = nI 1 → r = some (.int (x + nI 3)) ∧ (begOk iv op cn → h' = HP (ex_u2 (trBeg iv op cn tg x (x + nI 3)) 41 3 (nI (cn + 1))) mp sp mo) ∧ (¬ begOk iv op cn → h' = HP (faAdd (trTag iv tg x (x + nI 3) (-1)) nf (x * nI 8 + nI 2)) mp sp mo)) ∧
  (tkF (cAt iv) x = nI 2 → r = some (.int (x + nI 4)) ∧ (begOk iv op cn → h' = HP (elClose (trBeg iv op cn tg x (x + nI 4)) (cn + 1) (nI 2) (x + nI 4) (x + nI 4)) mp sp mo) ∧ (¬ begOk iv op cn → h' = HP (faAdd (trTag iv tg x (x + nI 4) (-1)) nf (x * nI 8 + nI 2)) mp sp mo)) ∧
  (tkF (cAt iv) x = nI 3 → r = some (.int (x + nI 4)) ∧ (0 < endOf iv pr op x → h' = HP (trEnd iv pr op (endOf iv pr op x) tg x (x + nI 4)) mp sp mo) ∧ (endOf iv pr op x = 0 → h' = HP (faAdd (trTag iv tg x (x + nI 4) (-1)) nf (x * nI 8 + nI 3)) mp sp mo)) ∧
  (tkF (cAt iv) x = nI 0 → r = some (.int (x + nI 1)) ∧ h' = HP (trChr iv op nf x) mp sp mo)
theorem tkF_r (a : Int32 → Int32) (x : Int32) : tkF a x = nI 0 ∨ tkF a x = nI 1 ∨ tkF a x = nI 2 ∨ tkF a x = nI 3 := by
  unfold tkF
  repeat' split
  all_goals simp
set_option maxRecDepth 100000 in
set_option maxHeartbeats 4000000 in
theorem ct_Tr_take (l : Launch) (G : ex_G) (iv : Nat → Nat → Int32) (mp : Nat → Nat) (sp mo : Nat) (op : Nat) (hop : iv 41 3 = nI op) (ho : op < 34) (cn tg : Nat) (hc : iv 41 2 = nI cn) (hcl : cn ≤ 33) (ht : iv 41 7 = nI tg) (htl : tg < 33) (nf : Nat) (hf : iv 80 1 = nI nf) (hfl : nf ≤ 200) (hb : (iv 39 1).toInt ≤ ((100 : Nat) : Int)) (pr : Nat → Nat) (hoc : op ≤ cn) (hp : ∀ q, 0 < q → q ≤ cn → iv (46 + q) 1 = nI (pr q) ∧ pr q ≤ cn) (x : Int32) : CT l G 3 M_Tr_take [.ref 41, .int x, .ref 80] (HP iv mp sp mo) 0 0 (fun r h' => TakeP iv mp sp mo pr op cn tg nf x r h') := by
  refine ex_enter (by decide) (Nat.le_of_ble_eq_true rfl) (fun v hv => by simp at hv; rcases hv with rfl | rfl | rfl <;> rfl) (fun p e s m args below meth c => ?_)
  refine ex_aload_n (pc := 0) (i := 0) d_Tr_take_0 rfl rfl ?_
  refine ex_getr (pc := 1) 11 0 d_Tr_take_1 FL_Tr_27 (Nat.le_of_ble_eq_true rfl) rfl rfl ?_
  refine ex_iload_n (pc := 4) (i := 1) d_Tr_take_4 rfl rfl ?_
  refine ex_callV (pc := 5) (M' := M_Tx_tagKindAt) (as := [.int x]) (st := []) d_Tr_take_5 MW_Tx_tagKindAt MI_Tx_tagKindAt LK_Tr_62 (Nat.le_of_ble_eq_true rfl) rfl rfl rfl (ct_Tx_tagKindAt l G iv mp sp mo x hb) (ex_lt_rm (by decide)) ⟨Nat.le_refl _, Nat.le_refl _⟩ rfl rfl (Nat.le_of_ble_eq_true rfl) ?_
  rintro _ _ ⟨rfl, rfl⟩
  by_cases w8_1 : (tkF (cAt iv) x).toInt = 1
  · refine ex_tableIn (pc := 8) (off := 28) (tgt := 36) d_Tr_take_8 (by omega) (by omega) (by rw [w8_1]; rfl) rfl ?_
    refine ex_aload_n (pc := 36) (i := 0) d_Tr_take_36 rfl rfl ?_
    refine ex_iload_n (pc := 37) (i := 1) d_Tr_take_37 rfl rfl ?_
    refine ex_iload_n (pc := 38) (i := 1) d_Tr_take_38 rfl rfl ?_
    refine ex_iconst (pc := 39) (v := (nI 3)) d_Tr_take_39 (by decide) ?_
    refine ex_iadd (pc := 40) d_Tr_take_40 ?_
    refine ex_aload_n (pc := 41) (i := 2) d_Tr_take_41 rfl rfl ?_
    refine ex_callV (pc := 42) (M' := M_Tr_takeStartTag) (as := [.int x, .int (x + nI 3), .ref 80]) (st := []) d_Tr_take_42 MW_Tr_takeStartTag MI_Tr_takeStartTag LK_Tr_66 (Nat.le_of_ble_eq_true rfl) rfl rfl rfl (ct_Tr_takeStartTag l G iv mp sp mo op hop ho cn tg hc hcl ht htl nf hf hfl hb x (x + nI 3)) (ex_lt_rm (by decide)) ⟨Nat.le_refl _, Nat.le_refl _⟩ rfl rfl (Nat.le_of_ble_eq_true rfl) ?_
    rintro r2 h2 ⟨rfl, hq⟩
    refine ex_iload_n (pc := 45) (i := 1) d_Tr_take_45 rfl rfl ?_
    refine ex_iconst (pc := 46) (v := (nI 3)) d_Tr_take_46 (by decide) ?_
    refine ex_iadd (pc := 47) d_Tr_take_47 ?_
    refine ex_iret (ty := .int) d_Tr_take_48 rfl rfl rfl (Nat.le_refl _) ?_
    have hk : tkF (cAt iv) x = nI 1 := i_eq.mpr (by rw [w8_1]; rfl)
    exact ⟨fun _ => ⟨rfl, hq⟩, fun q => absurd (hk.symm.trans q) (by decide), fun q => absurd (hk.symm.trans q) (by decide), fun q => absurd (hk.symm.trans q) (by decide)⟩
  by_cases w8_2 : (tkF (cAt iv) x).toInt = 2
  · refine ex_tableIn (pc := 8) (off := 41) (tgt := 49) d_Tr_take_8 (by omega) (by omega) (by rw [w8_2]; rfl) rfl ?_
    refine ex_aload_n (pc := 49) (i := 0) d_Tr_take_49 rfl rfl ?_
    refine ex_iload_n (pc := 50) (i := 1) d_Tr_take_50 rfl rfl ?_
    refine ex_iload_n (pc := 51) (i := 1) d_Tr_take_51 rfl rfl ?_
    refine ex_iconst (pc := 52) (v := (nI 4)) d_Tr_take_52 (by decide) ?_
    refine ex_iadd (pc := 53) d_Tr_take_53 ?_
    refine ex_aload_n (pc := 54) (i := 2) d_Tr_take_54 rfl rfl ?_
    refine ex_callV (pc := 55) (M' := M_Tr_takeEmptyTag) (as := [.int x, .int (x + nI 4), .ref 80]) (st := []) d_Tr_take_55 MW_Tr_takeEmptyTag MI_Tr_takeEmptyTag LK_Tr_70 (Nat.le_of_ble_eq_true rfl) rfl rfl rfl (ct_Tr_takeEmptyTag l G iv mp sp mo op hop ho cn tg hc hcl ht htl nf hf hfl hb x (x + nI 4)) (ex_lt_rm (by decide)) ⟨Nat.le_refl _, Nat.le_refl _⟩ rfl rfl (Nat.le_of_ble_eq_true rfl) ?_
    rintro r2 h2 ⟨rfl, hq⟩
    refine ex_iload_n (pc := 58) (i := 1) d_Tr_take_58 rfl rfl ?_
    refine ex_iconst (pc := 59) (v := (nI 4)) d_Tr_take_59 (by decide) ?_
    refine ex_iadd (pc := 60) d_Tr_take_60 ?_
    refine ex_iret (ty := .int) d_Tr_take_61 rfl rfl rfl (Nat.le_refl _) ?_
    have hk : tkF (cAt iv) x = nI 2 := i_eq.mpr (by rw [w8_2]; rfl)
    exact ⟨fun q => absurd (hk.symm.trans q) (by decide), fun _ => ⟨rfl, hq⟩, fun q => absurd (hk.symm.trans q) (by decide), fun q => absurd (hk.symm.trans q) (by decide)⟩
  by_cases w8_3 : (tkF (cAt iv) x).toInt = 3
  · refine ex_tableIn (pc := 8) (off := 54) (tgt := 62) d_Tr_take_8 (by omega) (by omega) (by rw [w8_3]; rfl) rfl ?_
    refine ex_aload_n (pc := 62) (i := 0) d_Tr_take_62 rfl rfl ?_
    refine ex_iload_n (pc := 63) (i := 1) d_Tr_take_63 rfl rfl ?_
    refine ex_iload_n (pc := 64) (i := 1) d_Tr_take_64 rfl rfl ?_
    refine ex_iconst (pc := 65) (v := (nI 4)) d_Tr_take_65 (by decide) ?_
    refine ex_iadd (pc := 66) d_Tr_take_66 ?_
    refine ex_aload_n (pc := 67) (i := 2) d_Tr_take_67 rfl rfl ?_
    refine ex_callV (pc := 68) (M' := M_Tr_takeEndTag) (as := [.int x, .int (x + nI 4), .ref 80]) (st := []) d_Tr_take_68 MW_Tr_takeEndTag MI_Tr_takeEndTag LK_Tr_73 (Nat.le_of_ble_eq_true rfl) rfl rfl rfl (ct_Tr_takeEndTag l G iv mp sp mo op hop ho cn tg hc hcl ht htl nf hf hfl hb pr hoc hp x (x + nI 4)) (ex_lt_rm (by decide)) ⟨Nat.le_refl _, Nat.le_refl _⟩ rfl rfl (Nat.le_of_ble_eq_true rfl) ?_
    rintro r2 h2 ⟨rfl, hq⟩
    refine ex_iload_n (pc := 71) (i := 1) d_Tr_take_71 rfl rfl ?_
    refine ex_iconst (pc := 72) (v := (nI 4)) d_Tr_take_72 (by decide) ?_
    refine ex_iadd (pc := 73) d_Tr_take_73 ?_
    refine ex_iret (ty := .int) d_Tr_take_74 rfl rfl rfl (Nat.le_refl _) ?_
    have hk : tkF (cAt iv) x = nI 3 := i_eq.mpr (by rw [w8_3]; rfl)
    exact ⟨fun q => absurd (hk.symm.trans q) (by decide), fun q => absurd (hk.symm.trans q) (by decide), fun _ => ⟨rfl, hq⟩, fun q => absurd (hk.symm.trans q) (by decide)⟩
  refine ex_tableOut (pc := 8) (tgt := 75) d_Tr_take_8 (by omega) rfl ?_
  refine ex_aload_n (pc := 75) (i := 0) d_Tr_take_75 rfl rfl ?_
  refine ex_iload_n (pc := 76) (i := 1) d_Tr_take_76 rfl rfl ?_
  refine ex_aload_n (pc := 77) (i := 2) d_Tr_take_77 rfl rfl ?_
  refine ex_callV (pc := 78) (M' := M_Tr_takeCharacter) (as := [.int x, .ref 80]) (st := []) d_Tr_take_78 MW_Tr_takeCharacter MI_Tr_takeCharacter LK_Tr_76 (Nat.le_of_ble_eq_true rfl) rfl rfl rfl (ct_Tr_takeCharacter l G iv mp sp mo op hop ho nf hf hfl hb x) (ex_lt_rm (by decide)) ⟨Nat.le_refl _, Nat.le_refl _⟩ rfl rfl (Nat.le_of_ble_eq_true rfl) ?_
  rintro _ _ ⟨rfl, rfl⟩
  refine ex_iload_n (pc := 81) (i := 1) d_Tr_take_81 rfl rfl ?_
  refine ex_iconst (pc := 82) (v := (nI 1)) d_Tr_take_82 (by decide) ?_
  refine ex_iadd (pc := 83) d_Tr_take_83 ?_
  refine ex_iret (ty := .int) d_Tr_take_84 rfl rfl rfl (Nat.le_refl _) ?_
  have hk : tkF (cAt iv) x = nI 0 := by
    rcases tkF_r (cAt iv) x with q | q | q | q
    · exact q
    · exact absurd (show (tkF (cAt iv) x).toInt = 1 by rw [q]; rfl) w8_1
    · exact absurd (show (tkF (cAt iv) x).toInt = 2 by rw [q]; rfl) w8_2
    · exact absurd (show (tkF (cAt iv) x).toInt = 3 by rw [q]; rfl) w8_3
  exact ⟨fun q => absurd (hk.symm.trans q) (by decide), fun q => absurd (hk.symm.trans q) (by decide), fun q => absurd (hk.symm.trans q) (by decide), fun _ => ⟨rfl, rfl⟩⟩

