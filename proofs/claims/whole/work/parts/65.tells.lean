/-! what is told of elements and faults, on both sides -/
def elAns (T : TS) (x y : Int32) : Int32 := if x < 0 ∨ nI T.cn < x then -1 else if y.toInt = 0 then (T.e x.toInt.toNat).nm else if y.toInt = 1 then (if x.toInt.toNat = 0 then -1 else nI (T.e x.toInt.toNat).pr) else if y.toInt = 2 then nI (T.e x.toInt.toNat).bg else if y.toInt = 3 then nI (T.e x.toInt.toNat).bh else if y.toInt = 4 then nI (chC T.e T.cn x.toInt.toNat) else if y.toInt = 5 then (if (T.e x.toInt.toNat).ck = 3 then nI 1 else nI 0) else -1
def faAns (l : List Nat) (m : Nat) (x y : Int32) : Int32 := if 0 ≤ x.toInt ∧ x.toInt < m then (if y.toInt = 0 then nI (l.getD x.toInt.toNat 0 % 8) else if y.toInt = 1 then nI (l.getD x.toInt.toNat 0 / 8) else -1) else -1
theorem nI_div8 {v : Nat} (h : v ≤ 10000) : nI v / nI 8 = nI (v / 8) := by
  refine Int32.toInt_inj.mp ?_
  rw [Int32.toInt_div, nI_t (by omega), nI_t (by omega), nI_t (by omega)]
  have e : Int.tdiv (v : Int) ((8 : Nat) : Int) = ((v / 8 : Nat) : Int) := rfl
  rw [e]
  exact Int.bmod_eq_of_le (by omega) (by omega)
theorem nI_sub {u v : Nat} (h : v ≤ u) : nI u - nI v = nI (u - v) := pk_sub h
theorem nI_rem8 {v : Nat} (h : v ≤ 10000) : nI v - nI v / nI 8 * nI 8 = nI (v % 8) := by
  rw [nI_div8 h, nI_mul8, nI_sub (by omega), show v - v / 8 * 8 = v % 8 by omega]
theorem x_nat {x : Int32} {m : Nat} (hm : m ≤ 1000) (h0 : ¬ x < 0) (h1 : ¬ nI m < x) : ∃ i, i ≤ m ∧ x = nI i ∧ x.toInt.toNat = i := by
  have a1 := i_nlt h0
  have a2 := i_nlt h1
  rw [nI_t (by omega)] at a2
  have z0 : (0 : Int32).toInt = 0 := by decide
  refine ⟨x.toInt.toNat, by omega, Int32.toInt_inj.mp ?_, rfl⟩
  rw [nI_t (by omega)]
  omega
theorem faTell_a {iv : Nat → Nat → Int32} {A : List Nat} (h : FaC iv A) (hl : A.length ≤ 1000) (x y : Int32) : faTell iv x y = faAns (srt A) A.length x y := by
  unfold faTell faAns
  rw [h.1, nI_t (by omega)]
  by_cases hx : 0 ≤ x.toInt ∧ x.toInt < A.length
  · have hi : x.toInt.toNat < A.length := by omega
    have hb : (srt A).getD x.toInt.toNat 0 ≤ 10000 := h.2.2 _ ((srt_mem A _).mp (getD_mem (by rw [srt_len]; exact hi)))
    rw [if_pos hx, if_pos hx, h.2.1 _ hi, nI_rem8 hb, nI_div8 hb]
  · rw [if_neg hx, if_neg hx]
theorem elTell_a {iv : Nat → Nat → Int32} {mp : Nat → Nat} {T : TS} {a : Nat → Int32} {n : Nat} (hn : n ≤ 100) (hX : tX a T n) (hs : T.stk = []) (h0 : (T.e 0).ck ≤ 3) (hC : ClsT iv mp T) {i : Nat} (hi : i ≤ T.cn) (y : Int32) : elTell iv i y = elAns T (nI i) y := by
  have hcn : T.cn ≤ 33 := by have := hX.1.1; omega
  have e1 : (nI i).toInt.toNat = i := by rw [nI_t (by omega)]; rfl
  obtain ⟨⟨r0, r1, r2, r3, r4, r7, r9⟩, d5, d6, d8⟩ := hC.2.2.2.1 i hi
  have hck : (T.e i).ck ≤ 3 := by
    by_cases z : i = 0
    · rw [z]; exact h0
    · have := (hX.1.2.2.2.2.2.1 i (by omega) hi (by rw [hs]; exact List.not_mem_nil)).2.2.2.2
      omega
  unfold elTell elAns
  have hnb : ¬ (nI i < 0 ∨ nI T.cn < nI i) := fun z => z.elim (i_ge0 (by omega)) (fun z => by have := (n_lt (by omega) (by omega)).mp z; omega)
  rw [e1, if_neg hnb, r0, r1, r3, d6, r7, d8]
  by_cases h3 : (T.e i).ck = 3
  · rw [if_pos h3, h3, if_pos rfl]
  · rw [if_neg h3, if_neg (show ¬ nI (T.e i).ck = nI 3 from fun z => h3 ((n_eq (by omega) (by omega)).mp z))]
theorem tAll_0 {a : Nat → Int32} {n : Nat} (hn : n ≤ 100) (ha : ∀ k, n ≤ k → a k = -1) : ((tAll a n).e 0).ck = 0 ∧ ((tAll a n).e 0).bh = n ∧ ((tAll a n).e 0).iT = n := by
  have hI := tI_rn ha n 0 ts0 (Nat.zero_le _) (by omega) tI_0
  have h0 : 0 ∉ (tRn a n n 0 ts0).stk := fun z => Nat.lt_irrefl _ (chn_pos _ hI.2.1.1 0 z)
  have e1 : (tAll a n).e 0 = elC ((tRn a n n 0 ts0).e 0) 0 n n 0 := by
    show (if 0 ∈ (tRn a n n 0 ts0).stk then _ else if 0 = 0 then _ else _) = _
    rw [if_neg h0, if_pos rfl]
  rw [e1]
  exact ⟨rfl, rfl, rfl⟩
set_option maxRecDepth 100000 in
set_option maxHeartbeats 4000000 in
theorem ct_TG_element (l : Launch) (G : ex_G) (iv : Nat → Nat → Int32) (mp : Nat → Nat) (sp mo : Nat) (hmp : ∀ k, k < 9 → mp k < 10) (a : Nat → Int32) (n : Nat) (hA : TxA iv a n) (hst : iv 0 9 = 0 → ClsT iv mp (tAll a n)) (x y : Int32) : CT l G 6 M_TG_element [.ref 0, .int x, .int y] (HP iv mp sp mo) 0 0 (fun r h' => ∃ iv2, h' = HP iv2 mp sp mo ∧ r = some (.int (elAns (tAll a n) x y)) ∧ ClsT iv2 mp (tAll a n) ∧ (∀ q j, (q ≠ 0 ∨ j ≠ 9) → (q < 41 ∨ q = 42 ∨ 82 ≤ q) → iv2 q j = iv q j) ∧ iv2 0 9 = nI 0) := by
  refine ex_enter (by decide) (Nat.le_of_ble_eq_true rfl) (fun v hv => by simp at hv; rcases hv with rfl | rfl | rfl <;> rfl) (fun p e s m args below meth c => ?_)
  have hn := hA.1
  have hTX := tX_all hA.1 hA.2.2.2
  have hcn : (tAll a n).cn ≤ 33 := by have := hTX.1.1.1; omega
  refine ex_aload_n (pc := 0) (i := 0) d_TG_element_0 rfl rfl ?_
  refine ex_callV (pc := 1) (M' := M_TG_refresh) (as := []) (st := []) d_TG_element_1 MW_TG_refresh MI_TG_refresh LK_TG_148 (Nat.le_of_ble_eq_true rfl) rfl rfl rfl (ct_TG_refresh l G iv mp sp mo hmp a n hA hst) (ex_lt_rm (by decide)) ⟨Nat.le_refl _, Nat.le_refl _⟩ rfl rfl (Nat.le_of_ble_eq_true rfl) ?_
  rintro _ _ ⟨iv2, rfl, rfl, hC2, hF2, h09⟩
  refine ex_iload_n (pc := 4) (i := 1) d_TG_element_4 rfl rfl ?_
  refine ex_if_lt (pc := 5) (tgt := 19) d_TG_element_5 rfl (fun c5 => ?_) (fun c5 => ?_)
  · refine ex_iconst (pc := 19) (v := (-1)) d_TG_element_19 (by decide) ?_
    refine ex_goto (pc := 20) (tgt := 36) d_TG_element_20 rfl ?_
    refine ex_iret (ty := .int) d_TG_element_36 rfl rfl rfl (Nat.le_refl _) ?_
    exact ⟨iv2, rfl, by rw [elAns, if_pos (Or.inl c5)], hC2, hF2, h09⟩
  · refine ex_iload_n (pc := 8) (i := 1) d_TG_element_8 rfl rfl ?_
    refine ex_aload_n (pc := 9) (i := 0) d_TG_element_9 rfl rfl ?_
    refine ex_getr (pc := 10) 0 4 d_TG_element_10 FL_TG_44 (Nat.le_of_ble_eq_true rfl) rfl rfl ?_
    refine ex_getx (pc := 13) 11 2 (nI (tAll a n).cn) d_TG_element_13 FL_TG_165 (Nat.le_of_ble_eq_true rfl) rfl hC2.1 ?_
    refine ex_icmp_le (pc := 16) (tgt := 23) d_TG_element_16 rfl (fun c16 => ?_) (fun c16 => ?_)
    · obtain ⟨i9, hi9, hx2, hx3⟩ := x_nat (m := (tAll a n).cn) (by omega) c5 (fun z => by have z1 := i_lt.mp z; have z2 := i_le.mp c16; omega)
      refine ex_aload_n (pc := 23) (i := 0) d_TG_element_23 rfl rfl ?_
      refine ex_getr (pc := 24) 0 4 d_TG_element_24 FL_TG_44 (Nat.le_of_ble_eq_true rfl) rfl rfl ?_
      refine ex_getr (pc := 27) 11 1 d_TG_element_27 FL_TG_168 (Nat.le_of_ble_eq_true rfl) rfl rfl ?_
      refine ex_iload_n (pc := 30) (i := 1) d_TG_element_30 rfl rfl ?_
      refine ex_aald (pc := 31) i9 d_TG_element_31 (Nat.le_of_ble_eq_true rfl) rfl rfl rfl (by rw [hx2]; exact nI_t (by omega)) (show i9 < 34 by omega) (el_rf (mp := mp) (sp := sp) (mo := mo) (show i9 < 34 by omega)) ?_
      refine ex_iload_n (pc := 32) (i := 2) d_TG_element_32 rfl rfl ?_
      refine ex_callV (pc := 33) (M' := M_El_tell) (as := [.int y]) (st := []) d_TG_element_33 MW_El_tell MI_El_tell LK_TG_172 (el_lt (show i9 < 34 by omega)) (el_sh (show i9 < 34 by omega)) rfl rfl (ct_El_tell l G iv2 mp sp mo i9 (by omega) y) (ex_lt_rm (by decide)) ⟨Nat.le_refl _, Nat.le_refl _⟩ rfl rfl (Nat.le_of_ble_eq_true rfl) ?_
      rintro _ _ ⟨rfl, rfl⟩
      refine ex_iret (ty := .int) d_TG_element_36 rfl rfl rfl (Nat.le_refl _) ?_
      exact ⟨iv2, rfl, by rw [hx2, elTell_a hn hTX.1 hTX.2 (by rw [(tAll_0 hn hA.2.2.2).1]; omega) hC2 hi9], hC2, hF2, h09⟩
    · refine ex_iconst (pc := 19) (v := (-1)) d_TG_element_19 (by decide) ?_
      refine ex_goto (pc := 20) (tgt := 36) d_TG_element_20 rfl ?_
      refine ex_iret (ty := .int) d_TG_element_36 rfl rfl rfl (Nat.le_refl _) ?_
      exact ⟨iv2, rfl, by rw [elAns, if_pos (Or.inr (i_lt.mpr (i_nle c16)))], hC2, hF2, h09⟩

/-- the faults of the class's tree -/
def ClF (iv : Nat → Nat → Int32) (mp : Nat → Nat) (T : TS) : List Nat := gA (fun i => jq (prB iv mp) (fbB iv mp) (alwF iv mp T.cn) T.e i ++ j4 T.e i) (T.cn + 1) 0 T.fl
theorem clF_len {iv : Nat → Nat → Int32} {mp : Nat → Nat} {T : TS} {p9 : Nat} (h : tI T p9) (hp : p9 ≤ 100) : (ClF iv mp T).length ≤ 200 := by
  have h1 := gA_len (f := fun i => jq (prB iv mp) (fbB iv mp) (alwF iv mp T.cn) T.e i ++ j4 T.e i) (m := 3) (T.cn + 1) 0 T.fl (fun q _ _ => (jq_len _ _ _ T.e q (fun z => by unfold fbB fbF at z; unfold prB; exact (Bool.and_eq_true_iff.mp z).1)).2)
  have := h.1
  unfold ClF
  omega
set_option maxRecDepth 100000 in
set_option maxHeartbeats 4000000 in
theorem ct_TG_fault (l : Launch) (G : ex_G) (iv : Nat → Nat → Int32) (mp : Nat → Nat) (sp mo : Nat) (hmp : ∀ k, k < 9 → mp k < 10) (a : Nat → Int32) (n : Nat) (hA : TxA iv a n) (hst : iv 0 9 = 0 → ClsT iv mp (tAll a n)) (x y : Int32) : CT l G 6 M_TG_fault [.ref 0, .int x, .int y] (HP iv mp sp mo) 0 0 (fun r h' => ∃ iv2, h' = HP iv2 mp sp mo ∧ r = some (.int (faAns (srt (ClF iv2 mp (tAll a n))) (ClF iv2 mp (tAll a n)).length x y)) ∧ ClsT iv2 mp (tAll a n) ∧ (∀ q j, (q ≠ 0 ∨ j ≠ 9) → (q < 41 ∨ q = 42 ∨ 82 ≤ q) → iv2 q j = iv q j) ∧ iv2 0 9 = nI 0) := by
  refine ex_enter (by decide) (Nat.le_of_ble_eq_true rfl) (fun v hv => by simp at hv; rcases hv with rfl | rfl | rfl <;> rfl) (fun p e s m args below meth c => ?_)
  have hn := hA.1
  have hTX := tX_all hA.1 hA.2.2.2
  refine ex_aload_n (pc := 0) (i := 0) d_TG_fault_0 rfl rfl ?_
  refine ex_callV (pc := 1) (M' := M_TG_refresh) (as := []) (st := []) d_TG_fault_1 MW_TG_refresh MI_TG_refresh LK_TG_148 (Nat.le_of_ble_eq_true rfl) rfl rfl rfl (ct_TG_refresh l G iv mp sp mo hmp a n hA hst) (ex_lt_rm (by decide)) ⟨Nat.le_refl _, Nat.le_refl _⟩ rfl rfl (Nat.le_of_ble_eq_true rfl) ?_
  rintro _ _ ⟨iv2, rfl, rfl, hC2, hF2, h09⟩
  have hlen : (ClF iv2 mp (tAll a n)).length ≤ 200 := clF_len hTX.1.1 hn
  have hFa : FaC iv2 (ClF iv2 mp (tAll a n)) := hC2.2.2.2.2
  have hb2 : (iv2 80 1).toInt ≤ 201 := by rw [hFa.1, nI_t (by omega)]; omega
  refine ex_aload_n (pc := 4) (i := 0) d_TG_fault_4 rfl rfl ?_
  refine ex_getr (pc := 5) 0 5 d_TG_fault_5 FL_TG_51 (Nat.le_of_ble_eq_true rfl) rfl rfl ?_
  refine ex_iload_n (pc := 8) (i := 1) d_TG_fault_8 rfl rfl ?_
  refine ex_iload_n (pc := 9) (i := 2) d_TG_fault_9 rfl rfl ?_
  refine ex_callV (pc := 10) (M' := M_Fa_tell) (as := [.int x, .int y]) (st := []) d_TG_fault_10 MW_Fa_tell MI_Fa_tell LK_TG_177 (Nat.le_of_ble_eq_true rfl) rfl rfl rfl (ct_Fa_tell l G iv2 mp sp mo x y hb2) (ex_lt_rm (by decide)) ⟨Nat.le_refl _, Nat.le_refl _⟩ rfl rfl (Nat.le_of_ble_eq_true rfl) ?_
  rintro _ _ ⟨rfl, rfl⟩
  refine ex_iret (ty := .int) d_TG_fault_13 rfl rfl rfl (Nat.le_refl _) ?_
  exact ⟨iv2, rfl, by rw [faTell_a hFa (by omega)], hC2, hF2, h09⟩

theorem chC_cnt {iv : Nat → Nat → Int32} {T : TS} {i : Nat} (hcn : T.cn ≤ 33) (hp : ∀ k, 0 < k → k ≤ T.cn → (T.e k).pr < k) (hR : ∀ k, k ≤ T.cn → erA iv (T.e k) k) (hi : i ≤ T.cn) : ∀ m, m ≤ T.cn → cntF (fun q => decide (iv 108 q = nI i)) m 1 0 = chC T.e m i := by
  intro m
  induction m with
  | zero => intro _; rfl
  | succ m ih =>
    intro hm
    rw [cnt_last, chC, ih (by omega), show 1 + m = m + 1 by omega]
    have e1 : iv 108 (m + 1) = nI (T.e (m + 1)).pr := by
      have := (hR (m + 1) hm).2.1
      rw [if_neg (by omega)] at this
      exact this
    have hl := hp (m + 1) (by omega) hm
    by_cases z : (T.e (m + 1)).pr = i
    · rw [if_pos z, if_pos (decide_eq_true (by rw [e1, z]))]
    · rw [if_neg z, if_neg (fun w => z ((n_eq (by omega) (by omega)).mp (e1.symm.trans (of_decide_eq_true w))))]
set_option maxRecDepth 100000 in
set_option maxHeartbeats 4000000 in
theorem lp_RF_element {p : Program} {e : Env} {s : State} {m : MethodId} {args : Array Value} {below : List Frame} {meth : Method} {c : Code} (l : Launch) (G : ex_G) (mp : Nat → Nat) (sp mo : Nat) (iv2 : Nat → Nat → Int32) (cn i9 : Nat) (hcn : cn ≤ 33) (h16 : iv2 92 16 = nI (cn + 1)) (y : Int32) (v : Nat) (PP : Option Value → ex_H → Prop) (hK : ∀ u : Option Value, EXM M_RF_element l G 4 PP p e s m args below meth c 52 [some (.ref 92), some (.int (nI i9)), some (.int y), some (.int (nI v)), u] [] (HP iv2 mp sp mo)) : ∀ (k q acc : Nat), q + k = cn + 1 → 0 < q → acc + k ≤ 100 → cntF (fun q => decide (iv2 108 q = nI i9)) k q acc = v → EXM M_RF_element l G 4 (fun r h' => PP r h') p e s m args below meth c 23 [some (.ref 92), some (.int (nI i9)), some (.int y), some (.int (nI acc)), some (.int (nI q))] [] (HP iv2 mp sp mo) := by
  intro k
  induction k with
  | zero =>
    intro q acc hik hq0 hl hv
    have hv2 : acc = v := hv
    subst hv2
    refine ex_iload (pc := 23) d_RF_element_23 rfl ?_
    refine ex_aload_n (pc := 25) (i := 0) d_RF_element_25 rfl rfl ?_
    refine ex_getx (pc := 26) 12 16 (nI (cn + 1)) d_RF_element_26 FL_RF_185 (Nat.le_of_ble_eq_true rfl) rfl h16 ?_
    refine ex_icmp_ge (pc := 29) (tgt := 52) d_RF_element_29 rfl (fun c29 => ?_) (fun c29 => ?_)
    · exact hK _
    · exact absurd ((n_ge (by omega) (by omega)).mpr (by omega)) c29
  | succ k ih =>
    intro q acc hik hq0 hl hv
    rw [cntF] at hv
    refine ex_iload (pc := 23) d_RF_element_23 rfl ?_
    refine ex_aload_n (pc := 25) (i := 0) d_RF_element_25 rfl rfl ?_
    refine ex_getx (pc := 26) 12 16 (nI (cn + 1)) d_RF_element_26 FL_RF_185 (Nat.le_of_ble_eq_true rfl) rfl h16 ?_
    refine ex_icmp_ge (pc := 29) (tgt := 52) d_RF_element_29 rfl (fun c29 => ?_) (fun c29 => ?_)
    · exact absurd ((n_ge (by omega) (by omega)).mp c29) (by omega)
    · refine ex_aload_n (pc := 32) (i := 0) d_RF_element_32 rfl rfl ?_
      refine ex_getr (pc := 33) 12 18 d_RF_element_33 FL_RF_56 (Nat.le_of_ble_eq_true rfl) rfl rfl ?_
      refine ex_iload (pc := 36) d_RF_element_36 rfl ?_
      refine ex_ialdx (pc := 38) q (iv2 108 q) d_RF_element_38 (Nat.le_of_ble_eq_true rfl) rfl rfl rfl (nI_t (by omega)) (show q < 40 by omega) rfl ?_
      refine ex_iload_n (pc := 39) (i := 1) d_RF_element_39 rfl rfl ?_
      refine ex_icmp_ne (pc := 40) (tgt := 46) d_RF_element_40 rfl (fun c40 => ?_) (fun c40 => ?_)
      · refine ex_iinc (pc := 46) (v := (nI (q + 1))) d_RF_element_46 rfl (nI_1 q) (by decide) ?_
        refine ex_goto (pc := 49) (tgt := 23) d_RF_element_49 rfl ?_
        exact ih (q + 1) acc (by omega) (by omega) (by omega) (by rw [if_neg (fun z => c40 (of_decide_eq_true z))] at hv; exact hv)
      · refine ex_iinc (pc := 43) (v := (nI (acc + 1))) d_RF_element_43 rfl (nI_1 acc) (by decide) ?_
        refine ex_iinc (pc := 46) (v := (nI (q + 1))) d_RF_element_46 rfl (nI_1 q) (by decide) ?_
        refine ex_goto (pc := 49) (tgt := 23) d_RF_element_49 rfl ?_
        exact ih (q + 1) (acc + 1) (by omega) (by omega) (by omega) (by rw [if_pos (decide_eq_true c40)] at hv; exact hv)

set_option maxRecDepth 100000 in
set_option maxHeartbeats 4000000 in
theorem ct_RF_element (l : Launch) (G : ex_G) (iv : Nat → Nat → Int32) (mp : Nat → Nat) (sp mo : Nat) (a : Nat → Int32) (n : Nat) (hA : TxR iv a n) (mn : Nat → Nat) (hmn : ∀ k, k < 9 → iv 99 k = nI (mn k) ∧ mn k ≤ 10) (x y : Int32) : CT l G 4 M_RF_element [.ref 92, .int x, .int y] (HP iv mp sp mo) 0 0 (fun r h' => ∃ iv2, h' = HP iv2 mp sp mo ∧ r = some (.int (elAns (tAll a n) x y)) ∧ RefT iv2 mn n (tAll a n) ∧ FrR iv iv2) := by
  refine ex_enter (by decide) (Nat.le_of_ble_eq_true rfl) (fun v hv => by simp at hv; rcases hv with rfl | rfl | rfl <;> rfl) (fun p e s m args below meth c => ?_)
  have hn := hA.1
  have hTX := tX_all hA.1 hA.2.2.2
  have hcn : (tAll a n).cn ≤ 33 := by have := hTX.1.1.1; omega
  refine ex_aload_n (pc := 0) (i := 0) d_RF_element_0 rfl rfl ?_
  refine ex_callV (pc := 1) (M' := M_RF_analyse) (as := []) (st := []) d_RF_element_1 MW_RF_analyse MI_RF_analyse LK_RF_277 (Nat.le_of_ble_eq_true rfl) rfl rfl rfl (ct_RF_analyse l G iv mp sp mo a n hA mn hmn) (ex_lt_rm (by decide)) ⟨Nat.le_refl _, Nat.le_refl _⟩ rfl rfl (Nat.le_of_ble_eq_true rfl) ?_
  rintro _ _ ⟨iv2, rfl, rfl, hT2, hF2⟩
  refine ex_iload_n (pc := 4) (i := 1) d_RF_element_4 rfl rfl ?_
  refine ex_if_lt (pc := 5) (tgt := 16) d_RF_element_5 rfl (fun c5 => ?_) (fun c5 => ?_)
  · refine ex_iconst (pc := 16) (v := (-1)) d_RF_element_16 (by decide) ?_
    refine ex_iret (ty := .int) d_RF_element_17 rfl rfl rfl (Nat.le_refl _) ?_
    exact ⟨iv2, rfl, by rw [elAns, if_pos (Or.inl c5)], hT2, hF2⟩
  · refine ex_iload_n (pc := 8) (i := 1) d_RF_element_8 rfl rfl ?_
    refine ex_aload_n (pc := 9) (i := 0) d_RF_element_9 rfl rfl ?_
    refine ex_getx (pc := 10) 12 16 (nI ((tAll a n).cn + 1)) d_RF_element_10 FL_RF_185 (Nat.le_of_ble_eq_true rfl) rfl hT2.1 ?_
    refine ex_icmp_lt (pc := 13) (tgt := 18) d_RF_element_13 rfl (fun c13 => ?_) (fun c13 => ?_)
    · have hle : ¬ nI (tAll a n).cn < x := by
        intro z
        have z1 := i_lt.mp z
        have z2 := i_lt.mp c13
        rw [nI_t (by omega)] at z1 z2
        omega
      obtain ⟨i9, hi9, hx2, hi3⟩ := x_nat (by omega) c5 hle
      have hnb : ¬ (x < 0 ∨ nI (tAll a n).cn < x) := fun z => z.elim c5 hle
      subst hx2
      have hE := hT2.2.1 i9 hi9
      have hckE : ((tAll a n).e i9).iT ≤ 1000 := by
        by_cases z : i9 = 0
        · rw [z, (tAll_0 hn hA.2.2.2).2.2]; omega
        · have := (hTX.1.1.2.2.2.2.2.1 i9 (by omega) hi9 (by rw [hTX.2]; exact List.not_mem_nil)).1
          omega
      have h110 : iv2 110 i9 = nI ((tAll a n).e i9).bh := by
        by_cases z : i9 = 0
        · rw [z, (tAll_0 hn hA.2.2.2).2.1]; exact hT2.2.2.2.2.1
        · exact (hT2.2.2.1 i9 (by omega) hi9).2.1
      have h113 : iv2 113 i9 = (if ((tAll a n).e i9).ck = 3 then nI ((tAll a n).e i9).iT else -1) := by
        by_cases z : i9 = 0
        · rw [z, (tAll_0 hn hA.2.2.2).1]; exact hT2.2.2.2.2.2.2.1
        · exact (hT2.2.2.1 i9 (by omega) hi9).2.2.2.2
      refine ex_iconst (pc := 18) (v := (nI 0)) d_RF_element_18 (by decide) ?_
      refine ex_istore_n (pc := 19) (i := 3) d_RF_element_19 rfl (by decide) ?_
      refine ex_iconst (pc := 20) (v := (nI 1)) d_RF_element_20 (by decide) ?_
      refine ex_istore (pc := 21) d_RF_element_21 (by decide) ?_
      refine lp_RF_element l G mp sp mo iv2 (tAll a n).cn i9 hcn hT2.1 y (chC (tAll a n).e (tAll a n).cn i9) _ (fun u => ?_) (tAll a n).cn 1 0 (by omega) (by omega) (by omega) (chC_cnt hcn (fun k z1 z2 => (hTX.1.1.2.2.2.1 k z1 z2).2.1) hT2.2.1 hi9 _ (Nat.le_refl _))
      refine ex_iload_n (pc := 52) (i := 2) d_RF_element_52 rfl rfl ?_
      by_cases w53_0 : y.toInt = 0
      · refine ex_tableIn (pc := 53) (off := 39) (tgt := 92) d_RF_element_53 (by omega) (by omega) (by rw [w53_0]; rfl) rfl ?_
        refine ex_aload_n (pc := 92) (i := 0) d_RF_element_92 rfl rfl ?_
        refine ex_getr (pc := 93) 12 17 d_RF_element_93 FL_RF_53 (Nat.le_of_ble_eq_true rfl) rfl rfl ?_
        refine ex_iload_n (pc := 96) (i := 1) d_RF_element_96 rfl rfl ?_
        refine ex_ialdx (pc := 97) i9 ((tAll a n).e i9).nm d_RF_element_97 (Nat.le_of_ble_eq_true rfl) rfl rfl rfl (nI_t (by omega)) (show i9 < 40 by omega) hE.1 ?_
        refine ex_iret (ty := .int) d_RF_element_98 rfl rfl rfl (Nat.le_refl _) ?_
        exact ⟨iv2, rfl, by unfold elAns; rw [hi3, if_neg hnb, if_pos w53_0], hT2, hF2⟩
      by_cases w53_1 : y.toInt = 1
      · refine ex_tableIn (pc := 53) (off := 46) (tgt := 99) d_RF_element_53 (by omega) (by omega) (by rw [w53_1]; rfl) rfl ?_
        refine ex_aload_n (pc := 99) (i := 0) d_RF_element_99 rfl rfl ?_
        refine ex_getr (pc := 100) 12 18 d_RF_element_100 FL_RF_56 (Nat.le_of_ble_eq_true rfl) rfl rfl ?_
        refine ex_iload_n (pc := 103) (i := 1) d_RF_element_103 rfl rfl ?_
        refine ex_ialdx (pc := 104) i9 (if i9 = 0 then -1 else nI ((tAll a n).e i9).pr) d_RF_element_104 (Nat.le_of_ble_eq_true rfl) rfl rfl rfl (nI_t (by omega)) (show i9 < 40 by omega) hE.2.1 ?_
        refine ex_iret (ty := .int) d_RF_element_105 rfl rfl rfl (Nat.le_refl _) ?_
        exact ⟨iv2, rfl, by unfold elAns; rw [hi3, if_neg hnb, if_neg w53_0, if_pos w53_1], hT2, hF2⟩
      by_cases w53_2 : y.toInt = 2
      · refine ex_tableIn (pc := 53) (off := 53) (tgt := 106) d_RF_element_53 (by omega) (by omega) (by rw [w53_2]; rfl) rfl ?_
        refine ex_aload_n (pc := 106) (i := 0) d_RF_element_106 rfl rfl ?_
        refine ex_getr (pc := 107) 12 19 d_RF_element_107 FL_RF_59 (Nat.le_of_ble_eq_true rfl) rfl rfl ?_
        refine ex_iload_n (pc := 110) (i := 1) d_RF_element_110 rfl rfl ?_
        refine ex_ialdx (pc := 111) i9 (nI ((tAll a n).e i9).bg) d_RF_element_111 (Nat.le_of_ble_eq_true rfl) rfl rfl rfl (nI_t (by omega)) (show i9 < 40 by omega) hE.2.2.1 ?_
        refine ex_iret (ty := .int) d_RF_element_112 rfl rfl rfl (Nat.le_refl _) ?_
        exact ⟨iv2, rfl, by unfold elAns; rw [hi3, if_neg hnb, if_neg w53_0, if_neg w53_1, if_pos w53_2], hT2, hF2⟩
      by_cases w53_3 : y.toInt = 3
      · refine ex_tableIn (pc := 53) (off := 60) (tgt := 113) d_RF_element_53 (by omega) (by omega) (by rw [w53_3]; rfl) rfl ?_
        refine ex_aload_n (pc := 113) (i := 0) d_RF_element_113 rfl rfl ?_
        refine ex_getr (pc := 114) 12 20 d_RF_element_114 FL_RF_62 (Nat.le_of_ble_eq_true rfl) rfl rfl ?_
        refine ex_iload_n (pc := 117) (i := 1) d_RF_element_117 rfl rfl ?_
        refine ex_ialdx (pc := 118) i9 (nI ((tAll a n).e i9).bh) d_RF_element_118 (Nat.le_of_ble_eq_true rfl) rfl rfl rfl (nI_t (by omega)) (show i9 < 40 by omega) h110 ?_
        refine ex_iret (ty := .int) d_RF_element_119 rfl rfl rfl (Nat.le_refl _) ?_
        exact ⟨iv2, rfl, by unfold elAns; rw [hi3, if_neg hnb, if_neg w53_0, if_neg w53_1, if_neg w53_2, if_pos w53_3], hT2, hF2⟩
      by_cases w53_4 : y.toInt = 4
      · refine ex_tableIn (pc := 53) (off := 67) (tgt := 120) d_RF_element_53 (by omega) (by omega) (by rw [w53_4]; rfl) rfl ?_
        refine ex_iload_n (pc := 120) (i := 3) d_RF_element_120 rfl rfl ?_
        refine ex_iret (ty := .int) d_RF_element_121 rfl rfl rfl (Nat.le_refl _) ?_
        exact ⟨iv2, rfl, by unfold elAns; rw [hi3, if_neg hnb, if_neg w53_0, if_neg w53_1, if_neg w53_2, if_neg w53_3, if_pos w53_4], hT2, hF2⟩
      by_cases w53_5 : y.toInt = 5
      · refine ex_tableIn (pc := 53) (off := 69) (tgt := 122) d_RF_element_53 (by omega) (by omega) (by rw [w53_5]; rfl) rfl ?_
        refine ex_aload_n (pc := 122) (i := 0) d_RF_element_122 rfl rfl ?_
        refine ex_getr (pc := 123) 12 23 d_RF_element_123 FL_RF_71 (Nat.le_of_ble_eq_true rfl) rfl rfl ?_
        refine ex_iload_n (pc := 126) (i := 1) d_RF_element_126 rfl rfl ?_
        refine ex_ialdx (pc := 127) i9 (if ((tAll a n).e i9).ck = 3 then nI ((tAll a n).e i9).iT else -1) d_RF_element_127 (Nat.le_of_ble_eq_true rfl) rfl rfl rfl (nI_t (by omega)) (show i9 < 40 by omega) h113 ?_
        refine ex_if_lt (pc := 128) (tgt := 135) d_RF_element_128 rfl (fun c128 => ?_) (fun c128 => ?_)
        · refine ex_iconst (pc := 135) (v := (nI 0)) d_RF_element_135 (by decide) ?_
          refine ex_iret (ty := .int) d_RF_element_136 rfl rfl rfl (Nat.le_refl _) ?_
          exact ⟨iv2, rfl, by unfold elAns; rw [hi3, if_neg hnb, if_neg w53_0, if_neg w53_1, if_neg w53_2, if_neg w53_3, if_neg w53_4, if_pos w53_5, if_neg (fun z => by rw [if_pos z] at c128; exact i_ge0 hckE c128)], hT2, hF2⟩
        · refine ex_iconst (pc := 131) (v := (nI 1)) d_RF_element_131 (by decide) ?_
          refine ex_goto (pc := 132) (tgt := 136) d_RF_element_132 rfl ?_
          refine ex_iret (ty := .int) d_RF_element_136 rfl rfl rfl (Nat.le_refl _) ?_
          exact ⟨iv2, rfl, by unfold elAns; rw [hi3, if_neg hnb, if_neg w53_0, if_neg w53_1, if_neg w53_2, if_neg w53_3, if_neg w53_4, if_pos w53_5, if_pos (Classical.byContradiction (fun z => by rw [if_neg z] at c128; exact c128 (by decide)))], hT2, hF2⟩
      refine ex_tableOut (pc := 53) (tgt := 137) d_RF_element_53 (by omega) rfl ?_
      refine ex_iconst (pc := 137) (v := (-1)) d_RF_element_137 (by decide) ?_
      refine ex_iret (ty := .int) d_RF_element_138 rfl rfl rfl (Nat.le_refl _) ?_
      exact ⟨iv2, rfl, by unfold elAns; rw [hi3, if_neg hnb, if_neg w53_0, if_neg w53_1, if_neg w53_2, if_neg w53_3, if_neg w53_4, if_neg w53_5], hT2, hF2⟩
    · refine ex_iconst (pc := 16) (v := (-1)) d_RF_element_16 (by decide) ?_
      refine ex_iret (ty := .int) d_RF_element_17 rfl rfl rfl (Nat.le_refl _) ?_
      exact ⟨iv2, rfl, by rw [elAns, if_pos (Or.inr (i_lt.mpr (by have z2 := i_nlt c13; rw [nI_t (by omega)] at z2 ⊢; omega)))], hT2, hF2⟩

def RfF (iv : Nat → Nat → Int32) (mn : Nat → Nat) (T : TS) (Bl : List Nat) : List Nat := gA (fun i => jq (prR iv T) (fbR iv T) (alR iv mn T) T.e i) (T.cn + 1) 0 Bl
theorem rfF_len {iv : Nat → Nat → Int32} {mn : Nat → Nat} {T : TS} {Bl : List Nat} {p9 : Nat} (h : tI T p9) (hp : p9 ≤ 100) (hB : Bl.Perm (T.fl ++ T.br.map (k4 T.e))) : (RfF iv mn T Bl).length ≤ 300 := by
  have h1 := gA_len (f := fun i => jq (prR iv T) (fbR iv T) (alR iv mn T) T.e i) (m := 2) (T.cn + 1) 0 Bl (fun q _ _ => (jq_len _ _ _ T.e q (fun z => by unfold fbR at z; exact (Bool.and_eq_true_iff.mp z).1)).1)
  have e1 := hB.length_eq
  rw [List.length_append, List.length_map] at e1
  have e2 := br_le h
  have := h.1
  unfold RfF
  omega
set_option maxRecDepth 100000 in
set_option maxHeartbeats 4000000 in
theorem ct_RF_fault (l : Launch) (G : ex_G) (iv : Nat → Nat → Int32) (mp : Nat → Nat) (sp mo : Nat) (a : Nat → Int32) (n : Nat) (hA : TxR iv a n) (mn : Nat → Nat) (hmn : ∀ k, k < 9 → iv 99 k = nI (mn k) ∧ mn k ≤ 10) (x y : Int32) : CT l G 4 M_RF_fault [.ref 92, .int x, .int y] (HP iv mp sp mo) 0 0 (fun r h' => ∃ iv2 Bl, h' = HP iv2 mp sp mo ∧ r = some (.int (faAns (srt (RfF iv2 mn (tAll a n) Bl)) (RfF iv2 mn (tAll a n) Bl).length x y)) ∧ RefT iv2 mn n (tAll a n) ∧ FrR iv iv2 ∧ Bl.Perm ((tAll a n).fl ++ (tAll a n).br.map (k4 (tAll a n).e)) ∧ FaR iv2 (RfF iv2 mn (tAll a n) Bl)) := by
  refine ex_enter (by decide) (Nat.le_of_ble_eq_true rfl) (fun v hv => by simp at hv; rcases hv with rfl | rfl | rfl <;> rfl) (fun p e s m args below meth c => ?_)
  have hn := hA.1
  have hTX := tX_all hA.1 hA.2.2.2
  refine ex_aload_n (pc := 0) (i := 0) d_RF_fault_0 rfl rfl ?_
  refine ex_callV (pc := 1) (M' := M_RF_analyse) (as := []) (st := []) d_RF_fault_1 MW_RF_analyse MI_RF_analyse LK_RF_277 (Nat.le_of_ble_eq_true rfl) rfl rfl rfl (ct_RF_analyse l G iv mp sp mo a n hA mn hmn) (ex_lt_rm (by decide)) ⟨Nat.le_refl _, Nat.le_refl _⟩ rfl rfl (Nat.le_of_ble_eq_true rfl) ?_
  rintro _ _ ⟨iv2, rfl, rfl, hT2, hF2⟩
  have hT3 := hT2
  obtain ⟨_, _, _, _, _, _, _, _, Bl, hBl, hFl⟩ := hT3
  have hlen : (RfF iv2 mn (tAll a n) Bl).length ≤ 300 := rfF_len hTX.1.1 hn hBl
  have hFa : FaR iv2 (RfF iv2 mn (tAll a n) Bl) := hFl
  refine ex_iload_n (pc := 4) (i := 1) d_RF_fault_4 rfl rfl ?_
  refine ex_if_lt (pc := 5) (tgt := 25) d_RF_fault_5 rfl (fun c5 => ?_) (fun c5 => ?_)
  · refine ex_iconst (pc := 25) (v := (-1)) d_RF_fault_25 (by decide) ?_
    refine ex_iret (ty := .int) d_RF_fault_26 rfl rfl rfl (Nat.le_refl _) ?_
    exact ⟨iv2, Bl, rfl, by unfold faAns; rw [if_neg (fun z => by have := i_lt.mp c5; have z0 : (0 : Int32).toInt = 0 := (by decide); omega)], hT2, hF2, hBl, hFa⟩
  · refine ex_iload_n (pc := 8) (i := 1) d_RF_fault_8 rfl rfl ?_
    refine ex_aload_n (pc := 9) (i := 0) d_RF_fault_9 rfl rfl ?_
    refine ex_getx (pc := 10) 12 29 (nI (RfF iv2 mn (tAll a n) Bl).length) d_RF_fault_10 FL_RF_182 (Nat.le_of_ble_eq_true rfl) rfl hFa.1 ?_
    refine ex_icmp_ge (pc := 13) (tgt := 25) d_RF_fault_13 rfl (fun c13 => ?_) (fun c13 => ?_)
    · refine ex_iconst (pc := 25) (v := (-1)) d_RF_fault_25 (by decide) ?_
      refine ex_iret (ty := .int) d_RF_fault_26 rfl rfl rfl (Nat.le_refl _) ?_
      exact ⟨iv2, Bl, rfl, by unfold faAns; rw [if_neg (fun z => by have := i_le.mp c13; rw [nI_t (by omega)] at this; omega)], hT2, hF2, hBl, hFa⟩
    · have hi0 := i_nlt c5
      have hi1 := i_nle c13
      rw [nI_t (by omega)] at hi1
      have z0 : (0 : Int32).toInt = 0 := by decide
      obtain ⟨i9, hi9, hxi, hxt⟩ : ∃ i9, i9 < (RfF iv2 mn (tAll a n) Bl).length ∧ x = nI i9 ∧ x.toInt = (i9 : Int) := ⟨x.toInt.toNat, by omega, Int32.toInt_inj.mp (by rw [nI_t (by omega)]; omega), by omega⟩
      have hxn : x.toInt.toNat = i9 := by omega
      subst hxi
      have hpos : 0 ≤ (nI i9).toInt ∧ (nI i9).toInt < (RfF iv2 mn (tAll a n) Bl).length := by omega
      refine ex_iload_n (pc := 16) (i := 2) d_RF_fault_16 rfl rfl ?_
      refine ex_if_lt (pc := 17) (tgt := 25) d_RF_fault_17 rfl (fun c17 => ?_) (fun c17 => ?_)
      · refine ex_iconst (pc := 25) (v := (-1)) d_RF_fault_25 (by decide) ?_
        refine ex_iret (ty := .int) d_RF_fault_26 rfl rfl rfl (Nat.le_refl _) ?_
        exact ⟨iv2, Bl, rfl, by unfold faAns; rw [if_pos hpos, if_neg (fun z => by have := i_lt.mp c17; omega), if_neg (fun z => by have := i_lt.mp c17; omega)], hT2, hF2, hBl, hFa⟩
      · refine ex_iload_n (pc := 20) (i := 2) d_RF_fault_20 rfl rfl ?_
        refine ex_iconst (pc := 21) (v := (nI 1)) d_RF_fault_21 (by decide) ?_
        refine ex_icmp_le (pc := 22) (tgt := 27) d_RF_fault_22 rfl (fun c22 => ?_) (fun c22 => ?_)
        · refine ex_iload_n (pc := 27) (i := 2) d_RF_fault_27 rfl rfl ?_
          refine ex_if_ne (pc := 28) (tgt := 40) d_RF_fault_28 rfl (fun c28 => ?_) (fun c28 => ?_)
          · refine ex_aload_n (pc := 40) (i := 0) d_RF_fault_40 rfl rfl ?_
            refine ex_getr (pc := 41) 12 31 d_RF_fault_41 FL_RF_92 (Nat.le_of_ble_eq_true rfl) rfl rfl ?_
            refine ex_iload_n (pc := 44) (i := 1) d_RF_fault_44 rfl rfl ?_
            refine ex_ialdx (pc := 45) i9 (nI ((srt (RfF iv2 mn (tAll a n) Bl)).getD i9 0 / 8)) d_RF_fault_45 (Nat.le_of_ble_eq_true rfl) rfl rfl rfl (nI_t (by omega)) (show i9 < 400 by omega) (hFa.2.1 i9 hi9).2 ?_
            refine ex_iret (ty := .int) d_RF_fault_46 rfl rfl rfl (Nat.le_refl _) ?_
            have z1 := i_nlt c17
            have z2 := i_le.mp c22
            have z3 : (nI 1).toInt = 1 := by decide
            have z4 : ¬ y.toInt = 0 := fun z => c28 (Int32.toInt_inj.mp (by rw [z]; exact z0.symm))
            exact ⟨iv2, Bl, rfl, by unfold faAns; rw [if_pos hpos, if_neg z4, if_pos (by omega), hxn], hT2, hF2, hBl, hFa⟩
          · refine ex_aload_n (pc := 31) (i := 0) d_RF_fault_31 rfl rfl ?_
            refine ex_getr (pc := 32) 12 30 d_RF_fault_32 FL_RF_89 (Nat.le_of_ble_eq_true rfl) rfl rfl ?_
            refine ex_iload_n (pc := 35) (i := 1) d_RF_fault_35 rfl rfl ?_
            refine ex_ialdx (pc := 36) i9 (nI ((srt (RfF iv2 mn (tAll a n) Bl)).getD i9 0 % 8)) d_RF_fault_36 (Nat.le_of_ble_eq_true rfl) rfl rfl rfl (nI_t (by omega)) (show i9 < 400 by omega) (hFa.2.1 i9 hi9).1 ?_
            refine ex_goto (pc := 37) (tgt := 46) d_RF_fault_37 rfl ?_
            refine ex_iret (ty := .int) d_RF_fault_46 rfl rfl rfl (Nat.le_refl _) ?_
            exact ⟨iv2, Bl, rfl, by unfold faAns; rw [if_pos hpos, if_pos (by rw [c28]; decide), hxn], hT2, hF2, hBl, hFa⟩
        · refine ex_iconst (pc := 25) (v := (-1)) d_RF_fault_25 (by decide) ?_
          refine ex_iret (ty := .int) d_RF_fault_26 rfl rfl rfl (Nat.le_refl _) ?_
          have z1 := i_nle c22
          have z2 : (nI 1).toInt = 1 := by decide
          exact ⟨iv2, Bl, rfl, by unfold faAns; rw [if_pos hpos, if_neg (show ¬ y.toInt = 0 by omega), if_neg (show ¬ y.toInt = 1 by omega)], hT2, hF2, hBl, hFa⟩

