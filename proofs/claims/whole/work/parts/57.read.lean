theorem ct_post {l : Launch} {G : ex_G} {d : Nat} {M : ex_M} {as : List Value} {h : ex_H} {mc ms : Nat} {P P' : Option Value → ex_H → Prop} (k : CT l G d M as h mc ms P) (hp : ∀ r h', P r h' → P' r h') : CT l G d M as h mc ms P' := by
  unfold CT Met at k ⊢
  refine MetFree.mono k (fun _ _ z => z) (fun _ _ _ _ _ z => z) (fun a st o t _ hq => ⟨?_, hq.2⟩)
  obtain ⟨⟨r, h', e1, e2, e3, e4⟩, h2⟩ := hq.1
  exact ⟨⟨r, h', e1, hp r h' e2, e3, e4⟩, h2⟩
/-! the class reads its text into the tree -/
def FrC (iv iv' : Nat → Nat → Int32) : Prop := ∀ q j, (q < 41 ∨ q = 42 ∨ 82 ≤ q) → iv' q j = iv q j
theorem FrC.r (iv : Nat → Nat → Int32) : FrC iv iv := fun _ _ _ => rfl
theorem FrC.t {u v x : Nat → Nat → Int32} (h1 : FrC u v) (h2 : FrC v x) : FrC u x := fun q j h => (h2 q j h).trans (h1 q j h)
theorem txA_fr {iv iv' : Nat → Nat → Int32} {a : Nat → Int32} {n : Nat} (h : TxA iv a n) (hf : FrC iv iv') : TxA iv' a n := ⟨h.1, (hf 39 1 (Or.inl (by decide))).trans h.2.1, fun k hk => (hf 40 k (Or.inl (by decide))).trans (h.2.2.1 k hk), h.2.2.2⟩
section RDC
variable {iv : Nat → Nat → Int32} {a : Nat → Int32} {n q9 : Nat} {T : TS} {mp : Nat → Nat} {sp mo : Nat}
theorem on_chn {f : Nat → EL} {pr : Nat → Nat} (hpr : ∀ q, pr q = (f q).pr) {cn : Nat} : ∀ (l : List Nat) (k : Nat), l.length ≤ k → chn f l → (∀ y, y ∈ l → y ≤ cn) → onCh pr cn 0 k (l.headD 0) := by
  intro l
  induction l with
  | nil =>
    intro k _ _ _
    cases k with
    | zero => rfl
    | succ k => exact Or.inl rfl
  | cons x l ih =>
    intro k hk hc hy
    cases k with
    | zero => rw [List.length_cons] at hk; omega
    | succ k =>
      refine Or.inr ⟨hc.1, hy x (List.mem_cons_self ..), ?_⟩
      show onCh pr cn 0 k (pr x)
      rw [hpr x, hc.2.1]
      exact ih k (by rw [List.length_cons] at hk; omega) hc.2.2.2.2 (fun y h => hy y (List.mem_cons_of_mem _ h))
theorem cls_fr {pr : Nat → Nat} (hpr : ∀ q, pr q = (T.e q).pr) (h : tI T q9) (hp : q9 ≤ 100) {up tail : List Nat} {ou : Nat} {y : Int32} (hs : T.stk = up ++ tail) (ht : tail.headD 0 = ou) (hne : ∀ z, z ∈ up → z ≠ ou) : ∀ q j, (q ≠ 41 ∨ j ≠ 3) → (q < 46 ∨ 80 ≤ q) → clsF pr ou y 8 T.cur iv q j = iv q j := by
  intro q j h1 h2
  have hc := h.2.1.1
  have hnd := chn_nodup _ hc
  have hle : ∀ z, z ∈ up → z ≤ T.cn := fun z hz => h.2.1.2.1 z (by rw [hs]; exact List.mem_append_left _ hz)
  have hps := chn_pos _ hc
  have hlen := h.2.1.2.2
  have hcn : T.cn ≤ 33 := by have := h.1; omega
  rw [hs] at hc hnd hlen
  rw [List.length_append] at hlen
  have hnd2 : up.Nodup := (List.nodup_append.mp hnd).1
  obtain ⟨k1, k2, k3⟩ := cls_eq hpr (ou := ou) (y := y) (tail := tail) ht up 8 iv (by omega) hc (fun z hz => ⟨hne z hz, hps z (by rw [hs]; exact List.mem_append_left _ hz)⟩) hnd2
  have hcur : T.cur = (up ++ tail).headD 0 := by unfold TS.cur; rw [hs]
  rw [hcur]
  exact k2 q j h1 (fun i hi => Or.inl (by have := hle i hi; omega))
theorem fc_en {pr : Nat → Nat} (hpr : ∀ q, pr q = (T.e q).pr) (h : tI T q9) (hp : q9 ≤ 100) {up rest : List Nat} {x : Nat} {y z : Int32} (hs : T.stk = up ++ x :: rest) : FrC iv (trEnd iv pr T.cur x T.tn y z) := by
  intro q j hq
  have hc := h.2.1.1
  rw [hs] at hc
  obtain ⟨c1, c2, c3⟩ := chn_app up hc
  have hxle : x ≤ T.cn := h.2.1.2.1 x (by rw [hs]; exact List.mem_append_right _ (List.mem_cons_self ..))
  have hcn : T.cn ≤ 33 := by have := h.1; omega
  unfold trEnd trE2 trE1
  rw [trTag_o ⟨by omega, by omega, by omega, by omega⟩, u2n (by omega), elClose_o (Or.inl (by omega)), cls_fr (ou := x) hpr h hp hs rfl (fun w hw => by have := c2 w hw; omega) q j (by omega) (by omega)]
/-- one step: the tree's own step -/
theorem tk_step (hR : RepC iv T) (h : tX a T q9) (hA : TxA iv a n) (hp : q9 < n) {r : Option Value} {h' : ex_H} (hT : TakeP iv mp sp mo (fun q => (T.e q).pr) T.cur T.cn T.tn T.fl.length (nI q9) r h') : ∃ iv', h' = HP iv' mp sp mo ∧ r = some (.int (nI (tTo a q9))) ∧ RepC iv' (tSp a T q9) ∧ FrC iv iv' := by
  have hn := hA.1
  have hcn : T.cn ≤ 33 := by have := h.1.1; omega
  have hcur := cur_le h.1
  have htl := tTo_le hA.2.2.2 hp
  have hkd := tk_a hA (show q9 ≤ 100 by omega)
  obtain ⟨t1, t2, t3, t0⟩ := hT
  rw [hkd] at t1 t2 t3 t0
  unfold tSp tTo at *
  have htag : ∀ to kd, FrC iv (faAdd (trTag iv T.tn (nI q9) to (-1)) T.fl.length kd) := by
    intro to kd q j hq
    rw [faAdd_o (by omega) (Or.inl (by omega)), trTag_o ⟨by omega, by omega, by omega, by omega⟩]
  by_cases k1 : tKd a q9 = 1
  · simp only [if_pos k1] at htl ⊢
    obtain ⟨z1, z2, z3⟩ := t1 (by rw [k1])
    by_cases hl : T.stk.length < 8
    · refine ⟨_, z2 ((beg_a hR h.1 (show q9 + 3 ≤ 100 by omega)).mpr hl), by rw [z1, nI_add], ?_, ?_⟩
      · rw [if_pos hl]
        exact rc_st hR h.1 hA (show q9 + 3 ≤ 100 by omega)
      · intro q j hq
        rw [u2n (by omega), trBeg_f (by omega) (by have := h.1.1; omega) (by omega)]
    · refine ⟨_, z3 (fun z => hl ((beg_a hR h.1 (show q9 + 3 ≤ 100 by omega)).mp z)), by rw [z1, nI_add], ?_, htag _ _⟩
      rw [if_neg hl, nI_add]
      exact rc_dp hR h.1 (by omega) (by decide)
  · simp only [if_neg k1] at htl ⊢
    by_cases k2 : tKd a q9 = 2
    · simp only [if_pos k2] at htl ⊢
      obtain ⟨z1, z2, z3⟩ := t2 (by rw [k2])
      by_cases hl : T.stk.length < 8
      · refine ⟨_, z2 ((beg_a hR h.1 (show q9 + 3 ≤ 100 by omega)).mpr hl), by rw [z1, nI_add], ?_, ?_⟩
        · rw [if_pos hl]
          exact rc_em hR h.1 hA (show q9 + 4 ≤ 100 by omega)
        · intro q j hq
          rw [elClose_o (Or.inl (by omega)), trBeg_f (by omega) (by have := h.1.1; omega) (by omega)]
      · refine ⟨_, z3 (fun z => hl ((beg_a hR h.1 (show q9 + 3 ≤ 100 by omega)).mp z)), by rw [z1, nI_add], ?_, htag _ _⟩
        rw [if_neg hl, nI_add]
        exact rc_dp hR h.1 (by omega) (by decide)
    · simp only [if_neg k2] at htl ⊢
      by_cases k3 : tKd a q9 = 3
      · simp only [if_pos k3] at htl ⊢
        obtain ⟨z1, z2, z3⟩ := t3 (by rw [k3])
        have hend : endOf iv (fun q => (T.e q).pr) T.cur (nI q9) = (spl T.e (a (q9 + 2)) T.stk).2.1 := by
          unfold endOf
          rw [nI_add, cAt_a hA (by omega)]
          exact low_spl (fun _ => rfl) T.stk 8 h.1.2.1.2.2 h.1.2.1.1 (fun y hy => (hR.2.2.2.2.1 y (h.1.2.1.2.1 y hy)).1)
        rw [hend] at z2 z3
        by_cases h0 : (spl T.e (a (q9 + 2)) T.stk).2.1 = 0
        · refine ⟨_, z3 h0, by rw [z1, nI_add], ?_, htag _ _⟩
          rw [if_pos h0, nI_add]
          exact rc_dp hR h.1 (by omega) (by decide)
        · obtain ⟨e1, e2, e3⟩ := (spl_x T.e (a (q9 + 2)) T.stk (chn_pos _ h.1.2.1.1)).1 h0
          refine ⟨_, z2 (by omega), by rw [z1, nI_add], ?_, fc_en (fun _ => rfl) h.1 (by omega) e1⟩
          rw [if_neg h0]
          exact rc_en hR h.1 (show q9 + 4 ≤ 100 by omega) e1 (fun _ => rfl)
      · simp only [if_neg k3] at htl ⊢
        have k0 : tKd a q9 = 0 := by have := tKd_r a q9; omega
        obtain ⟨z1, z2⟩ := t0 (by rw [k0])
        refine ⟨_, z2, by rw [z1, nI_add], ?_, ?_⟩
        · exact rc_ch hR h.1 hA (by omega)
        · intro q j hq
          have hi : trInk iv T.cur (cAt iv (nI q9)) (nI q9) q j = iv q j := trInk_o (by omega)
          unfold trChr
          split
          · rw [faAdd_o (by omega) (Or.inl (by omega))]; exact hi
          · exact hi
end RDC
theorem tRn_fu {a : Nat → Int32} {n : Nat} : ∀ (k k2 q9 : Nat) (T : TS), n ≤ q9 + k → n ≤ q9 + k2 → tRn a n k q9 T = tRn a n k2 q9 T := by
  intro k
  induction k with
  | zero =>
    intro k2 q9 T h _
    cases k2 with
    | zero => rfl
    | succ k2 => rw [tRn, tRn, if_neg (by omega)]
  | succ k ih =>
    intro k2 q9 T h h2
    cases k2 with
    | zero => rw [tRn, tRn, if_neg (by omega)]
    | succ k2 =>
      rw [tRn, tRn]
      by_cases hp : q9 < n
      · have := tTo_gt a q9
        rw [if_pos hp, if_pos hp, ih k2 _ _ (by omega) (by omega)]
      · rw [if_neg hp, if_neg hp]
set_option maxRecDepth 100000 in
set_option maxHeartbeats 4000000 in
theorem ct_Tr_take0 (l : Launch) (G : ex_G) (iv : Nat → Nat → Int32) (mp : Nat → Nat) (sp mo : Nat) (op : Nat) (hop : iv 41 3 = nI op) (ho : op < 34) (nf : Nat) (hf : iv 80 1 = nI nf) (hfl : nf ≤ 200) (hb : (iv 39 1).toInt ≤ ((100 : Nat) : Int)) (x : Int32) (hk : tkF (cAt iv) x = nI 0) : CT l G 3 M_Tr_take [.ref 41, .int x, .ref 80] (HP iv mp sp mo) 0 0 (fun r h' => r = some (.int (x + nI 1)) ∧ h' = HP (trChr iv op nf x) mp sp mo) := by
  refine ex_enter (by decide) (Nat.le_of_ble_eq_true rfl) (fun v hv => by simp at hv; rcases hv with rfl | rfl | rfl <;> rfl) (fun p e s m args below meth c => ?_)
  refine ex_aload_n (pc := 0) (i := 0) d_Tr_take_0 rfl rfl ?_
  refine ex_getr (pc := 1) 11 0 d_Tr_take_1 FL_Tr_27 (Nat.le_of_ble_eq_true rfl) rfl rfl ?_
  refine ex_iload_n (pc := 4) (i := 1) d_Tr_take_4 rfl rfl ?_
  refine ex_callV (pc := 5) (M' := M_Tx_tagKindAt) (as := [.int x]) (st := []) d_Tr_take_5 MW_Tx_tagKindAt MI_Tx_tagKindAt LK_Tr_62 (Nat.le_of_ble_eq_true rfl) rfl rfl rfl (ct_Tx_tagKindAt l G iv mp sp mo x hb) (ex_lt_rm (by decide)) ⟨Nat.le_refl _, Nat.le_refl _⟩ rfl rfl (Nat.le_of_ble_eq_true rfl) ?_
  rintro _ _ ⟨rfl, rfl⟩
  by_cases w8_1 : (tkF (cAt iv) x).toInt = 1
  · refine ex_tableIn (pc := 8) (off := 28) (tgt := 36) d_Tr_take_8 (by omega) (by omega) (by rw [w8_1]; rfl) rfl ?_
    exact absurd w8_1 (by rw [hk]; decide)
  by_cases w8_2 : (tkF (cAt iv) x).toInt = 2
  · refine ex_tableIn (pc := 8) (off := 41) (tgt := 49) d_Tr_take_8 (by omega) (by omega) (by rw [w8_2]; rfl) rfl ?_
    exact absurd w8_2 (by rw [hk]; decide)
  by_cases w8_3 : (tkF (cAt iv) x).toInt = 3
  · refine ex_tableIn (pc := 8) (off := 54) (tgt := 62) d_Tr_take_8 (by omega) (by omega) (by rw [w8_3]; rfl) rfl ?_
    exact absurd w8_3 (by rw [hk]; decide)
  refine ex_tableOut (pc := 8) (tgt := 75) d_Tr_take_8 (by omega) rfl ?_
  refine ex_aload_n (pc := 75) (i := 0) d_Tr_take_75 rfl rfl ?_
  refine ex_iload_n (pc := 76) (i := 1) d_Tr_take_76 rfl rfl ?_
  refine ex_aload_n (pc := 77) (i := 2) d_Tr_take_77 rfl rfl ?_
  refine ex_callV (pc := 78) (M' := M_Tr_takeCharacter) (as := [.int x, .ref 80]) (st := []) d_Tr_take_78 MW_Tr_takeCharacter MI_Tr_takeCharacter LK_Tr_76 (Nat.le_of_ble_eq_true rfl) rfl rfl rfl (ct_Tr_takeCharacter l G iv mp sp mo op hop ho nf hf hfl hb x) (ex_lt_rm (by decide)) ⟨Nat.le_refl _, Nat.le_refl _⟩ rfl rfl (Nat.le_of_ble_eq_true rfl) ?_
  rintro _ _ ⟨rfl, rfl⟩
  refine ex_iload_n (pc := 81) (i := 1) d_Tr_take_81 rfl rfl ?_
  refine ex_iconst (pc := 82) (v := (nI 1)) d_Tr_take_82 (by decide) ?_
  refine ex_iadd (pc := 83) d_Tr_take_83 ?_
  refine ex_iret (ty := .int) d_Tr_take_84 rfl rfl rfl (Nat.le_refl _) ?_
  exact ⟨rfl, rfl⟩

set_option maxRecDepth 100000 in
set_option maxHeartbeats 4000000 in
theorem lr_Tr_read {p : Program} {e : Env} {s : State} {m : MethodId} {args : Array Value} {below : List Frame} {meth : Method} {c : Code} (l : Launch) (G : ex_G) (iv : Nat → Nat → Int32) (mp : Nat → Nat) (sp mo : Nat) (a : Nat → Int32) (n : Nat) (hA : TxA iv a n) (iv1 : Nat → Nat → Int32) (TE : TS) (hF : FrC iv iv1) (hR : RepC iv1 TE) (hX : tX a TE n) (u2 u3 : Option Value) : EXM M_Tr_read l G 4 (fun r h' => ∃ iv2, h' = HP iv2 mp sp mo ∧ r = none ∧ RepC iv2 (tFin n TE) ∧ elD iv2 ((tFin n TE).e 0) 0 ∧ FrC iv iv2) p e s m args below meth c 64 [some (.ref 41), some (.ref 80), u2, u3] [] (HP iv1 mp sp mo) := by
  have hn := hA.1
  have hA1 := txA_fr hA hF
  have hcn : TE.cn ≤ 33 := by have := hX.1.1; omega
  have hcur := cur_le hX.1
  have hcf : ∀ q j, (q ≠ 41 ∨ j ≠ 3) → (q < 46 ∨ 80 ≤ q) → (clsF (fun q => (TE.e q).pr) 0 (nI n) 8 TE.cur iv1) q j = iv1 q j := cls_fr (fun _ => rfl) hX.1 hn (List.append_nil TE.stk).symm rfl (fun w hw => by have := chn_pos _ hX.1.2.1.1 w hw; omega)
  have h39 : (clsF (fun q => (TE.e q).pr) 0 (nI n) 8 TE.cur iv1) 39 1 = nI n := (hcf 39 1 (Or.inl (by decide)) (Or.inl (by decide))).trans hA1.2.1
  refine ex_aload_n (pc := 64) (i := 0) d_Tr_read_64 rfl rfl ?_
  refine ex_iconst (pc := 65) (v := (nI 0)) d_Tr_read_65 (by decide) ?_
  refine ex_aload_n (pc := 66) (i := 0) d_Tr_read_66 rfl rfl ?_
  refine ex_getr (pc := 67) 11 0 d_Tr_read_67 FL_Tr_27 (Nat.le_of_ble_eq_true rfl) rfl rfl ?_
  refine ex_getx (pc := 70) 10 1 (nI n) d_Tr_read_70 FL_Tr_45 (Nat.le_of_ble_eq_true rfl) rfl hA1.2.1 ?_
  refine ex_callV (pc := 73) (M' := M_Tr_closeUpTo) (as := [.int (nI 0), .int (nI n)]) (st := []) d_Tr_read_73 MW_Tr_closeUpTo MI_Tr_closeUpTo LK_Tr_54 (Nat.le_of_ble_eq_true rfl) rfl rfl rfl (ct_Tr_closeUpTo l G iv1 mp sp mo (fun q => (TE.e q).pr) TE.cn 0 TE.cur hcn (Nat.zero_le _) hR.2.1 hcur (fun q z1 z2 => ⟨by have := (hR.2.2.2.2.1 q z2).2.1; rw [if_neg (by omega)] at this; exact this, by have := (hX.1.2.2.2.1 q z1 z2).2.1; show (TE.e q).pr ≤ TE.cn; omega⟩) (on_chn (fun _ => rfl) TE.stk 8 hX.1.2.1.2.2 hX.1.2.1.1 hX.1.2.1.2.1) (nI n)) (ex_lt_rm (by decide)) ⟨Nat.le_refl _, Nat.le_refl _⟩ rfl rfl (Nat.le_of_ble_eq_true rfl) ?_
  rintro _ _ ⟨rfl, rfl⟩
  refine ex_aload_n (pc := 76) (i := 0) d_Tr_read_76 rfl rfl ?_
  refine ex_getr (pc := 77) 11 1 d_Tr_read_77 FL_Tr_11 (Nat.le_of_ble_eq_true rfl) rfl rfl ?_
  refine ex_iconst (pc := 80) (v := (nI 0)) d_Tr_read_80 (by decide) ?_
  refine ex_aald (pc := 81) 0 d_Tr_read_81 (Nat.le_of_ble_eq_true rfl) rfl rfl rfl (nI_t (by omega)) (show 0 < 34 by omega) (el_rf (mp := mp) (sp := sp) (mo := mo) (show 0 < 34 by omega)) ?_
  refine ex_iconst (pc := 82) (v := (nI 0)) d_Tr_read_82 (by decide) ?_
  refine ex_aload_n (pc := 83) (i := 0) d_Tr_read_83 rfl rfl ?_
  refine ex_getr (pc := 84) 11 0 d_Tr_read_84 FL_Tr_27 (Nat.le_of_ble_eq_true rfl) rfl rfl ?_
  refine ex_getx (pc := 87) 10 1 (nI n) d_Tr_read_87 FL_Tr_45 (Nat.le_of_ble_eq_true rfl) rfl h39 ?_
  refine ex_aload_n (pc := 90) (i := 0) d_Tr_read_90 rfl rfl ?_
  refine ex_getr (pc := 91) 11 0 d_Tr_read_91 FL_Tr_27 (Nat.le_of_ble_eq_true rfl) rfl rfl ?_
  refine ex_getx (pc := 94) 10 1 (nI n) d_Tr_read_94 FL_Tr_45 (Nat.le_of_ble_eq_true rfl) rfl h39 ?_
  refine ex_callV (pc := 97) (M' := M_El_close) (as := [.int (nI 0), .int (nI n), .int (nI n)]) (st := []) d_Tr_read_97 MW_El_close MI_El_close LK_Tr_58 (el_lt (show 0 < 34 by omega)) (el_sh (show 0 < 34 by omega)) rfl rfl (ct_El_close l G (clsF (fun q => (TE.e q).pr) 0 (nI n) 8 TE.cur iv1) mp sp mo 0 (by omega) (nI 0) (nI n) (nI n)) (ex_lt_rm (by decide)) ⟨Nat.le_refl _, Nat.le_refl _⟩ rfl rfl (Nat.le_of_ble_eq_true rfl) ?_
  rintro _ _ ⟨rfl, rfl⟩
  refine ex_vret d_Tr_read_100 rfl rfl (Nat.le_refl _) ?_
  have hfin := rc_fin hR hX.1 hn (pr := fun q => (TE.e q).pr) (fun _ => rfl)
  exact ⟨_, rfl, rfl, hfin.1, hfin.2, hF.t (fun q j hq => by rw [elClose_o (Or.inl (by omega)), hcf q j (by omega) (by omega)])⟩
set_option maxRecDepth 100000 in
set_option maxHeartbeats 4000000 in
theorem ct_Tr_stp (l : Launch) (G : ex_G) (iv : Nat → Nat → Int32) (mp : Nat → Nat) (sp mo : Nat) (a : Nat → Int32) (n : Nat) (hA : TxA iv a n) (iv1 : Nat → Nat → Int32) (T : TS) (q9 : Nat) (hq : q9 < n) (hF : FrC iv iv1) (hR : RepC iv1 T) (hX : tX a T q9) : CT l G 3 M_Tr_take [.ref 41, .int (nI q9), .ref 80] (HP iv1 mp sp mo) 0 0 (fun r h' => ∃ iv2, h' = HP iv2 mp sp mo ∧ r = some (.int (nI (tTo a q9))) ∧ RepC iv2 (tSp a T q9) ∧ FrC iv iv2) := by
  have hn := hA.1
  have hA1 := txA_fr hA hF
  have hcn : T.cn ≤ 33 := by have := hX.1.1; omega
  have hcur := cur_le hX.1
  have hb : (iv1 39 1).toInt ≤ ((100 : Nat) : Int) := by rw [hA1.2.1, nI_t (by omega)]; omega
  have hfl : T.fl.length ≤ 200 := by have := hX.1.1; omega
  by_cases htn : T.tn < 33
  · refine ct_post (ct_Tr_take l G iv1 mp sp mo T.cur hR.2.1 (by omega) T.cn T.tn hR.1 hcn hR.2.2.1 (by omega) T.fl.length hR.2.2.2.2.2.2.1 (by omega) hb (fun q => (T.e q).pr) hcur (fun q z1 z2 => ⟨by have := (hR.2.2.2.2.1 q z2).2.1; rw [if_neg (by omega)] at this; exact this, by have := (hX.1.2.2.2.1 q z1 z2).2.1; show (T.e q).pr ≤ T.cn; omega⟩) (nI q9)) (fun r h' hT => ?_)
    obtain ⟨iv2, e1, e2, e3, e4⟩ := tk_step hR hX hA1 hq hT
    exact ⟨iv2, e1, e2, e3, hF.t e4⟩
  · have h99 : q9 = 99 ∧ T.tn = 33 := by have := hX.1.1; omega
    have hk0 : tKd a q9 = 0 := by
      have hto := tTo_le hA.2.2.2 hq
      unfold tTo at hto
      rcases tKd_r a q9 with z | z | z | z
      · exact z
      · rw [if_pos z] at hto; omega
      · rw [if_neg (by omega), if_pos z] at hto; omega
      · rw [if_neg (by omega), if_neg (by omega), if_pos z] at hto; omega
    have hkd := tk_a hA1 (show q9 ≤ 100 by omega)
    refine ct_post (ct_Tr_take0 l G iv1 mp sp mo T.cur hR.2.1 (by omega) T.fl.length hR.2.2.2.2.2.2.1 hfl hb (nI q9) (by rw [hkd, hk0])) (fun r h' hT => ?_)
    obtain ⟨iv2, e1, e2, e3, e4⟩ := tk_step (mp := mp) (sp := sp) (mo := mo) hR hX hA1 hq (r := r) (h' := h') ⟨fun z => by rw [hkd, hk0] at z; exact absurd z (by decide), fun z => by rw [hkd, hk0] at z; exact absurd z (by decide), fun z => by rw [hkd, hk0] at z; exact absurd z (by decide), fun _ => hT⟩
    exact ⟨iv2, e1, e2, e3, hF.t e4⟩
set_option maxRecDepth 100000 in
set_option maxHeartbeats 4000000 in
theorem lp_Tr_read {p : Program} {e : Env} {s : State} {m : MethodId} {args : Array Value} {below : List Frame} {meth : Method} {c : Code} (l : Launch) (G : ex_G) (iv : Nat → Nat → Int32) (mp : Nat → Nat) (sp mo : Nat) (a : Nat → Int32) (n : Nat) (hA : TxA iv a n) (TE : TS) : ∀ (k t q9 : Nat) (T : TS) (iv1 : Nat → Nat → Int32), t + k = 100 → q9 ≤ n → n ≤ q9 + k → FrC iv iv1 → RepC iv1 T → tX a T q9 → tRn a n k q9 T = TE → EXM M_Tr_read l G 4 (fun r h' => ∃ iv2, h' = HP iv2 mp sp mo ∧ r = none ∧ RepC iv2 (tFin n TE) ∧ elD iv2 ((tFin n TE).e 0) 0 ∧ FrC iv iv2) p e s m args below meth c 34 [some (.ref 41), some (.ref 80), some (.int (nI q9)), some (.int (nI t))] [] (HP iv1 mp sp mo) := by
  intro k
  induction k with
  | zero =>
    intro t q9 T iv1 htk hq1 hq2 hF hR hX hv
    have hn := hA.1
    have hqn : q9 = n := by omega
    subst hqn
    have hv2 : T = TE := hv
    subst hv2
    refine ex_iload_n (pc := 34) (i := 3) d_Tr_read_34 rfl rfl ?_
    refine ex_bipush (pc := 35) (v := (nI 100)) d_Tr_read_35 (by decide) ?_
    refine ex_icmp_ge (pc := 37) (tgt := 64) d_Tr_read_37 rfl (fun c37 => ?_) (fun c37 => ?_)
    · exact lr_Tr_read l G iv mp sp mo a q9 hA iv1 T hF hR hX _ _
    · exact absurd ((n_ge (by omega) (by omega)).mpr (by omega)) c37
  | succ k ih =>
    intro t q9 T iv1 htk hq1 hq2 hF hR hX hv
    have hn := hA.1
    have hA1 := txA_fr hA hF
    rw [tRn] at hv
    refine ex_iload_n (pc := 34) (i := 3) d_Tr_read_34 rfl rfl ?_
    refine ex_bipush (pc := 35) (v := (nI 100)) d_Tr_read_35 (by decide) ?_
    refine ex_icmp_ge (pc := 37) (tgt := 64) d_Tr_read_37 rfl (fun c37 => ?_) (fun c37 => ?_)
    · exact absurd ((n_ge (by omega) (by omega)).mp c37) (by omega)
    · refine ex_iload_n (pc := 40) (i := 2) d_Tr_read_40 rfl rfl ?_
      refine ex_aload_n (pc := 41) (i := 0) d_Tr_read_41 rfl rfl ?_
      refine ex_getr (pc := 42) 11 0 d_Tr_read_42 FL_Tr_27 (Nat.le_of_ble_eq_true rfl) rfl rfl ?_
      refine ex_getx (pc := 45) 10 1 (nI n) d_Tr_read_45 FL_Tr_45 (Nat.le_of_ble_eq_true rfl) rfl hA1.2.1 ?_
      refine ex_icmp_ge (pc := 48) (tgt := 64) d_Tr_read_48 rfl (fun c48 => ?_) (fun c48 => ?_)
      · have hqn : q9 = n := by have := (n_ge (by omega) (by omega)).mp c48; omega
        subst hqn
        rw [if_neg (Nat.lt_irrefl _)] at hv
        subst hv
        exact lr_Tr_read l G iv mp sp mo a q9 hA iv1 T hF hR hX _ _
      · have hqn : q9 < n := Classical.byContradiction (fun z => c48 ((n_ge (by omega) (by omega)).mpr (by omega)))
        refine ex_aload_n (pc := 51) (i := 0) d_Tr_read_51 rfl rfl ?_
        refine ex_iload_n (pc := 52) (i := 2) d_Tr_read_52 rfl rfl ?_
        refine ex_aload_n (pc := 53) (i := 1) d_Tr_read_53 rfl rfl ?_
        refine ex_callV (pc := 54) (M' := M_Tr_take) (as := [.int (nI q9), .ref 80]) (st := []) d_Tr_read_54 MW_Tr_take MI_Tr_take LK_Tr_50 (Nat.le_of_ble_eq_true rfl) rfl rfl rfl (ct_Tr_stp l G iv mp sp mo a n hA iv1 T q9 hqn hF hR hX) (ex_lt_rm (by decide)) ⟨Nat.le_refl _, Nat.le_refl _⟩ rfl rfl (Nat.le_of_ble_eq_true rfl) ?_
        rintro _ _ ⟨iv2, rfl, rfl, hR2, hF2⟩
        refine ex_istore_n (pc := 57) (i := 2) d_Tr_read_57 rfl (by decide) ?_
        refine ex_iinc (pc := 58) (v := (nI (t + 1))) d_Tr_read_58 rfl (nI_1 t) (by decide) ?_
        refine ex_goto (pc := 61) (tgt := 34) d_Tr_read_61 rfl ?_
        rw [if_pos hqn] at hv
        have hgt := tTo_gt a q9
        exact ih (t + 1) (tTo a q9) (tSp a T q9) iv2 (by omega) (tTo_le hA.2.2.2 hqn) (by omega) hF2 hR2 (tX_sp hX (by omega)) hv

def rd0 (iv : Nat → Nat → Int32) : Nat → Nat → Int32 := elOpen (ex_u2 (ex_u2 (ex_u2 iv 41 2 (nI 0)) 41 7 (nI 0)) 41 3 (nI 0)) 0 (nI 46) (-1) (nI 0) (nI 0) (nI 0)
theorem rd0_f (iv : Nat → Nat → Int32) : FrC iv (rd0 iv) := by
  intro q j hq
  unfold rd0
  rw [elOpen_o (by omega), u2n (by omega), u2n (by omega), u2n (by omega)]
theorem rd0_r {iv : Nat → Nat → Int32} (h : iv 80 1 = nI 0) : RepC (rd0 iv) ts0 := by
  have ho : ∀ q j, q ≠ 46 + 0 → q ≠ 41 → rd0 iv q j = iv q j := fun q j h1 h2 => by
    unfold rd0
    rw [elOpen_o h1, u2n (Or.inl h2), u2n (Or.inl h2), u2n (Or.inl h2)]
  refine ⟨?_, ?_, ?_, fun t ht => absurd ht (Nat.not_lt_zero _), fun i hi => ?_, fun i h1 h2 => ?_, ?_⟩
  · unfold rd0
    rw [elOpen_o (by decide), u2n (Or.inr (by decide)), u2n (Or.inr (by decide)), u2s]
    rfl
  · unfold rd0
    rw [elOpen_o (by decide), u2s]
    rfl
  · unfold rd0
    rw [elOpen_o (by decide), u2n (Or.inr (by decide)), u2s]
    rfl
  · have hi0 : i = 0 := by
      have : i ≤ 0 := hi
      omega
    subst hi0
    unfold elR rd0 elOpen
    refine ⟨?_, ?_, ?_, ?_, ?_, ?_, ?_⟩
    · rw [u2n (Or.inr (by decide)), u2n (Or.inr (by decide)), u2n (Or.inr (by decide)), u2n (Or.inr (by decide)), u2n (Or.inr (by decide)), u2n (Or.inr (by decide)), u2s]; rfl
    · rw [u2n (Or.inr (by decide)), u2n (Or.inr (by decide)), u2n (Or.inr (by decide)), u2n (Or.inr (by decide)), u2n (Or.inr (by decide)), u2s]; rfl
    · rw [u2n (Or.inr (by decide)), u2n (Or.inr (by decide)), u2n (Or.inr (by decide)), u2n (Or.inr (by decide)), u2s]; rfl
    · rw [u2n (Or.inr (by decide)), u2n (Or.inr (by decide)), u2n (Or.inr (by decide)), u2s]; rfl
    · rw [u2n (Or.inr (by decide)), u2n (Or.inr (by decide)), u2s]; rfl
    · rw [u2n (Or.inr (by decide)), u2s]; rfl
    · rw [u2s]; rfl
  · have : i ≤ 0 := h2
    omega
  · exact ⟨(ho 80 1 (by decide) (by decide)).trans h, fun i hi => absurd hi (Nat.not_lt_zero _), fun x hx => absurd hx List.not_mem_nil⟩
set_option maxRecDepth 100000 in
set_option maxHeartbeats 4000000 in
theorem ct_Tr_read (l : Launch) (G : ex_G) (iv : Nat → Nat → Int32) (mp : Nat → Nat) (sp mo : Nat) (a : Nat → Int32) (n : Nat) (hA : TxA iv a n) (h80 : iv 80 1 = nI 0) : CT l G 4 M_Tr_read [.ref 41, .ref 80] (HP iv mp sp mo) 0 0 (fun r h' => ∃ iv2, h' = HP iv2 mp sp mo ∧ r = none ∧ RepC iv2 (tAll a n) ∧ elD iv2 ((tAll a n).e 0) 0 ∧ FrC iv iv2) := by
  refine ex_enter (by decide) (Nat.le_of_ble_eq_true rfl) (fun v hv => by simp at hv; rcases hv with rfl | rfl <;> rfl) (fun p e s m args below meth c => ?_)
  refine ex_aload_n (pc := 0) (i := 0) d_Tr_read_0 rfl rfl ?_
  refine ex_iconst (pc := 1) (v := (nI 0)) d_Tr_read_1 (by decide) ?_
  refine ex_puti (pc := 2) 11 2 .int d_Tr_read_2 (PF_Tr_32 _) (Nat.le_of_ble_eq_true rfl) rfl rfl rfl ?_
  refine ex_aload_n (pc := 5) (i := 0) d_Tr_read_5 rfl rfl ?_
  refine ex_iconst (pc := 6) (v := (nI 0)) d_Tr_read_6 (by decide) ?_
  refine ex_puti (pc := 7) 11 7 .int d_Tr_read_7 (PF_Tr_36 _) (Nat.le_of_ble_eq_true rfl) rfl rfl rfl ?_
  refine ex_aload_n (pc := 10) (i := 0) d_Tr_read_10 rfl rfl ?_
  refine ex_iconst (pc := 11) (v := (nI 0)) d_Tr_read_11 (by decide) ?_
  refine ex_puti (pc := 12) 11 3 .int d_Tr_read_12 (PF_Tr_39 _) (Nat.le_of_ble_eq_true rfl) rfl rfl rfl ?_
  refine ex_aload_n (pc := 15) (i := 0) d_Tr_read_15 rfl rfl ?_
  refine ex_getr (pc := 16) 11 1 d_Tr_read_16 FL_Tr_11 (Nat.le_of_ble_eq_true rfl) rfl rfl ?_
  refine ex_iconst (pc := 19) (v := (nI 0)) d_Tr_read_19 (by decide) ?_
  refine ex_aald (pc := 20) 0 d_Tr_read_20 (Nat.le_of_ble_eq_true rfl) rfl rfl rfl (nI_t (by omega)) (show 0 < 34 by omega) (el_rf (mp := mp) (sp := sp) (mo := mo) (show 0 < 34 by omega)) ?_
  refine ex_bipush (pc := 21) (v := (nI 46)) d_Tr_read_21 (by decide) ?_
  refine ex_iconst (pc := 23) (v := (-1)) d_Tr_read_23 (by decide) ?_
  refine ex_iconst (pc := 24) (v := (nI 0)) d_Tr_read_24 (by decide) ?_
  refine ex_iconst (pc := 25) (v := (nI 0)) d_Tr_read_25 (by decide) ?_
  refine ex_iconst (pc := 26) (v := (nI 0)) d_Tr_read_26 (by decide) ?_
  refine ex_callV (pc := 27) (M' := M_El_open) (as := [.int (nI 46), .int (-1), .int (nI 0), .int (nI 0), .int (nI 0)]) (st := []) d_Tr_read_27 MW_El_open MI_El_open LK_Tr_42 (el_lt (show 0 < 34 by omega)) (el_sh (show 0 < 34 by omega)) rfl rfl (ct_El_open l G _ mp sp mo 0 (by omega) (nI 46) (-1) (nI 0) (nI 0) (nI 0)) (ex_lt_rm (by decide)) ⟨Nat.le_refl _, Nat.le_refl _⟩ rfl rfl (Nat.le_of_ble_eq_true rfl) ?_
  rintro _ _ ⟨rfl, rfl⟩
  refine ex_heap (show _ = HP (rd0 iv) mp sp mo from rfl) ?_
  refine ex_iconst (pc := 30) (v := (nI 0)) d_Tr_read_30 (by decide) ?_
  refine ex_istore_n (pc := 31) (i := 2) d_Tr_read_31 rfl (by decide) ?_
  refine ex_iconst (pc := 32) (v := (nI 0)) d_Tr_read_32 (by decide) ?_
  refine ex_istore_n (pc := 33) (i := 3) d_Tr_read_33 rfl (by decide) ?_
  have hn := hA.1
  have e1 : tRn a n 100 0 ts0 = tRn a n n 0 ts0 := tRn_fu 100 n 0 ts0 (by omega) (by omega)
  unfold tAll
  rw [← e1]
  exact lp_Tr_read l G iv mp sp mo a n hA _ 100 0 0 ts0 (rd0 iv) (by omega) (Nat.zero_le _) (by omega) (rd0_f iv) (rd0_r h80) tX_0 rfl

