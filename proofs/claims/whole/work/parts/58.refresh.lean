/-! judging (class) -/
def FqC (iv iv1 : Nat → Nat → Int32) (A : List Nat) : Prop := FaC iv1 A ∧ ∀ q j, q ≠ 81 → (q ≠ 80 ∨ j ≠ 1) → iv1 q j = iv q j
theorem fq_add {iv iv1 : Nat → Nat → Int32} {A : List Nat} (h : FqC iv iv1 A) {kd pl : Nat} (hk : kd < 8) (hp : pl ≤ 1000) : FqC iv (faAdd iv1 A.length (nI pl * nI 8 + nI kd)) ((pl * 8 + kd) :: A) := ⟨faC_add8 h.1 hk hp, fun q j h1 h2 => (faAdd_o h1 h2).trans (h.2 q j h1 h2)⟩
def prB (iv : Nat → Nat → Int32) (mp : Nat → Nat) (i : Nat) : Bool := decide (¬ iv (9 + 3 * elMo iv mp i) 0 = 0)
def fbB (iv : Nat → Nat → Int32) (mp : Nat → Nat) (i : Nat) : Bool := fbF iv (elMo iv mp i)
theorem mo_cg {iv iv1 : Nat → Nat → Int32} (hc : ∀ q j, q < 80 → iv1 q j = iv q j) {j : Nat} (hj : j < 10) : iv1 (9 + 3 * j) = iv (9 + 3 * j) ∧ iv1 (10 + 3 * j) = iv (10 + 3 * j) ∧ iv1 (11 + 3 * j) = iv (11 + 3 * j) :=
  ⟨funext (fun k => hc _ k (by omega)), funext (fun k => hc _ k (by omega)), funext (fun k => hc _ k (by omega))⟩
theorem stc_cg {iv iv1 : Nat → Nat → Int32} (hc : ∀ q j, q < 80 → iv1 q j = iv q j) {j nu : Nat} (hj : j < 10) {fr to : Int32} : ∀ k i acc, i + k ≤ 34 → stcF iv1 j nu fr to k i acc = stcF iv j nu fr to k i acc := by
  intro k
  induction k with
  | zero => intros; rfl
  | succ k ih =>
    intro i acc hi
    rw [stcF, stcF, ih _ _ (by omega), hc _ 1 (by omega), hc _ 3 (by omega), hc _ 0 (by omega)]
    unfold stpF folF
    rw [(mo_cg hc hj).2.1, (mo_cg hc hj).2.2]
theorem alw_cg {iv iv1 : Nat → Nat → Int32} (hc : ∀ q j, q < 80 → iv1 q j = iv q j) {mp : Nat → Nat} (hmp : ∀ k, k < 9 → mp k < 10) {cn nu : Nat} (hcn : cn ≤ 33) (hnu : nu ≤ cn) : alwF iv1 mp cn nu = alwF iv mp cn nu := by
  unfold alwF elMo accF
  rw [hc _ 0 (by omega), stc_cg hc (hmp _ (rowN_lt _)) _ _ _ (by omega), (mo_cg hc (hmp _ (rowN_lt _))).1]
set_option maxRecDepth 100000 in
set_option maxHeartbeats 4000000 in
theorem lj4_Fa_judge {p : Program} {e : Env} {s : State} {m : MethodId} {args : Array Value} {below : List Frame} {meth : Method} {c : Code} (l : Launch) (G : ex_G) (iv : Nat → Nat → Int32) (mp : Nat → Nat) (sp mo : Nat) (hmp : ∀ k, k < 9 → mp k < 10) (a : Nat → Int32) (n : Nat) (hn : n ≤ 100) (T : TS) (hR : RepC iv T) (hD : elD iv (T.e 0) 0) (hX : tX a T n) (hs : T.stk = []) (i : Nat) (hi : i ≤ T.cn) (iv1 : Nat → Nat → Int32) (A : List Nat) (hq : FqC iv iv1 A) (hlen : A.length ≤ 200) (PP : Option Value → ex_H → Prop) (hK : ∀ iv2, FqC iv iv2 ((j4 T.e i) ++ A) → EXM M_Fa_judge l G 4 PP p e s m args below meth c 51 [some (.ref 80), some (.ref 41), some (.ref 7), some (.int (nI i)), some (.ref (46 + i)), some (.ref (9 + 3 * (elMo iv mp i)))] [] (HP iv2 mp sp mo)) : EXM M_Fa_judge l G 4 PP p e s m args below meth c 29 [some (.ref 80), some (.ref 41), some (.ref 7), some (.int (nI i)), some (.ref (46 + i)), some (.ref (9 + 3 * (elMo iv mp i)))] [] (HP iv1 mp sp mo) := by
  have hcn : T.cn ≤ 33 := by have := hX.1.1; omega
  have hE := hR.2.2.2.2.1 i hi
  have hiN : i = 0 ∨ 0 < i := by omega
  have hbg : (T.e i).bg ≤ 1000 := by
    rcases hiN with z | z
    · rw [z, hX.1.2.2.1.2.2.2.1]; omega
    · have := (hX.1.2.2.2.1 i z hi).2.2.1; omega
  have hcb : iv1 (46 + i) 3 = nI (T.e i).bg := (hq.2 _ _ (by omega) (Or.inl (by omega))).trans hE.2.2.2.1
  have hck0 : iv (46 + i) 8 = nI (T.e i).ck := by
    rcases hiN with z | z
    · rw [z]; exact hD.2.2
    · exact (hR.2.2.2.2.2.1 i z hi (by rw [hs]; exact List.not_mem_nil)).2.2
  have hck : iv1 (46 + i) 8 = nI (T.e i).ck := (hq.2 _ _ (by omega) (Or.inl (by omega))).trans hck0
  have hckb : ¬ i = 0 → (T.e i).ck ≤ 3 := fun z => by have := (hX.1.2.2.2.2.2.1 i (by omega) hi (by rw [hs]; exact List.not_mem_nil)).2.2.2.2; omega
  refine ex_iload_n (pc := 29) (i := 3) d_Fa_judge_29 rfl rfl ?_
  refine ex_if_eq (pc := 30) (tgt := 51) d_Fa_judge_30 rfl (fun c30 => ?_) (fun c30 => ?_)
  · refine hK iv1 ?_
    unfold j4
    rw [if_neg (fun z => z.1 ((n_eq (by omega) (by omega)).mp (show nI i = nI 0 from c30)))]
    exact hq
  · refine ex_aload (pc := 33) d_Fa_judge_33 rfl ?_
    refine ex_getx (pc := 35) 3 8 (nI (T.e i).ck) d_Fa_judge_35 FL_Fa_39 (el_lt (show i < 34 by omega)) (el_sh (show i < 34 by omega)) hck ?_
    refine ex_if_ne (pc := 38) (tgt := 51) d_Fa_judge_38 rfl (fun c38 => ?_) (fun c38 => ?_)
    · refine hK iv1 ?_
      unfold j4
      rw [if_neg (fun z => c38 (by rw [z.2]; rfl))]
      exact hq
    · refine ex_aload_n (pc := 41) (i := 0) d_Fa_judge_41 rfl rfl ?_
      refine ex_iconst (pc := 42) (v := (nI 4)) d_Fa_judge_42 (by decide) ?_
      refine ex_aload (pc := 43) d_Fa_judge_43 rfl ?_
      refine ex_getx (pc := 45) 3 3 (nI (T.e i).bg) d_Fa_judge_45 FL_Fa_42 (el_lt (show i < 34 by omega)) (el_sh (show i < 34 by omega)) hcb ?_
      refine ex_callV (pc := 48) (M' := M_Fa_add) (as := [.int (nI 4), .int (nI (T.e i).bg)]) (st := []) d_Fa_judge_48 MW_Fa_add MI_Fa_add LK_Fa_45 (Nat.le_of_ble_eq_true rfl) rfl rfl rfl (ct_Fa_add l G iv1 mp sp mo (nI 4) (nI (T.e i).bg) A.length hq.1.1 hlen) (ex_lt_rm (by decide)) ⟨Nat.le_refl _, Nat.le_refl _⟩ rfl rfl (Nat.le_of_ble_eq_true rfl) ?_
      rintro _ _ ⟨rfl, rfl⟩
      refine hK _ ?_
      unfold j4
      rw [if_pos ⟨fun z => c30 (by rw [z]; rfl), (n_eq (by have := hckb (fun z => c30 (by rw [z]; rfl)); omega) (by omega)).mp (show nI (T.e i).ck = nI 0 from c38)⟩]
      exact fq_add hq (by decide) hbg
set_option maxRecDepth 100000 in
set_option maxHeartbeats 4000000 in
theorem lj5_Fa_judge {p : Program} {e : Env} {s : State} {m : MethodId} {args : Array Value} {below : List Frame} {meth : Method} {c : Code} (l : Launch) (G : ex_G) (iv : Nat → Nat → Int32) (mp : Nat → Nat) (sp mo : Nat) (hmp : ∀ k, k < 9 → mp k < 10) (a : Nat → Int32) (n : Nat) (hn : n ≤ 100) (T : TS) (hR : RepC iv T) (hD : elD iv (T.e 0) 0) (hX : tX a T n) (hs : T.stk = []) (i : Nat) (hi : i ≤ T.cn) (iv1 : Nat → Nat → Int32) (A : List Nat) (hq : FqC iv iv1 A) (hlen : A.length ≤ 200) (PP : Option Value → ex_H → Prop) (hK : ∀ iv2, FqC iv iv2 ((if ¬ i = 0 ∧ prB iv mp i = false then [(T.e i).bg * 8 + 5] else []) ++ A) → EXM M_Fa_judge l G 4 PP p e s m args below meth c 73 [some (.ref 80), some (.ref 41), some (.ref 7), some (.int (nI i)), some (.ref (46 + i)), some (.ref (9 + 3 * (elMo iv mp i)))] [] (HP iv2 mp sp mo)) : EXM M_Fa_judge l G 4 PP p e s m args below meth c 51 [some (.ref 80), some (.ref 41), some (.ref 7), some (.int (nI i)), some (.ref (46 + i)), some (.ref (9 + 3 * (elMo iv mp i)))] [] (HP iv1 mp sp mo) := by
  have hcn : T.cn ≤ 33 := by have := hX.1.1; omega
  have hE := hR.2.2.2.2.1 i hi
  have hiN : i = 0 ∨ 0 < i := by omega
  have hbg : (T.e i).bg ≤ 1000 := by
    rcases hiN with z | z
    · rw [z, hX.1.2.2.1.2.2.2.1]; omega
    · have := (hX.1.2.2.2.1 i z hi).2.2.1; omega
  have hcb : iv1 (46 + i) 3 = nI (T.e i).bg := (hq.2 _ _ (by omega) (Or.inl (by omega))).trans hE.2.2.2.1
  have hmo : elMo iv mp i < 10 := hmp _ (rowN_lt _)
  have hpr : iv1 (9 + 3 * elMo iv mp i) 0 = iv (9 + 3 * elMo iv mp i) 0 := hq.2 _ _ (by omega) (Or.inl (by omega))
  refine ex_iload_n (pc := 51) (i := 3) d_Fa_judge_51 rfl rfl ?_
  refine ex_if_eq (pc := 52) (tgt := 73) d_Fa_judge_52 rfl (fun c52 => ?_) (fun c52 => ?_)
  · refine hK iv1 ?_
    rw [if_neg (fun z => z.1 ((n_eq (by omega) (by omega)).mp (show nI i = nI 0 from c52)))]
    exact hq
  · refine ex_aload (pc := 55) d_Fa_judge_55 rfl ?_
    refine ex_getx (pc := 57) 7 0 (iv (9 + 3 * (elMo iv mp i)) 0) d_Fa_judge_57 FL_Fa_49 (mo_lt (hmp _ (rowN_lt _))) (mo_sh (hmp _ (rowN_lt _))) hpr ?_
    refine ex_if_ne (pc := 60) (tgt := 73) d_Fa_judge_60 rfl (fun c60 => ?_) (fun c60 => ?_)
    · refine hK iv1 ?_
      rw [if_neg (fun z => by have z2 := z.2; unfold prB at z2; exact (of_decide_eq_false z2) c60)]
      exact hq
    · refine ex_aload_n (pc := 63) (i := 0) d_Fa_judge_63 rfl rfl ?_
      refine ex_iconst (pc := 64) (v := (nI 5)) d_Fa_judge_64 (by decide) ?_
      refine ex_aload (pc := 65) d_Fa_judge_65 rfl ?_
      refine ex_getx (pc := 67) 3 3 (nI (T.e i).bg) d_Fa_judge_67 FL_Fa_42 (el_lt (show i < 34 by omega)) (el_sh (show i < 34 by omega)) hcb ?_
      refine ex_callV (pc := 70) (M' := M_Fa_add) (as := [.int (nI 5), .int (nI (T.e i).bg)]) (st := []) d_Fa_judge_70 MW_Fa_add MI_Fa_add LK_Fa_45 (Nat.le_of_ble_eq_true rfl) rfl rfl rfl (ct_Fa_add l G iv1 mp sp mo (nI 5) (nI (T.e i).bg) A.length hq.1.1 hlen) (ex_lt_rm (by decide)) ⟨Nat.le_refl _, Nat.le_refl _⟩ rfl rfl (Nat.le_of_ble_eq_true rfl) ?_
      rintro _ _ ⟨rfl, rfl⟩
      refine hK _ ?_
      rw [if_pos ⟨fun z => c52 (by rw [z]; rfl), decide_eq_false (fun z => z c60)⟩]
      exact fq_add hq (by decide) hbg
set_option maxRecDepth 100000 in
set_option maxHeartbeats 4000000 in
theorem lj6_Fa_judge {p : Program} {e : Env} {s : State} {m : MethodId} {args : Array Value} {below : List Frame} {meth : Method} {c : Code} (l : Launch) (G : ex_G) (iv : Nat → Nat → Int32) (mp : Nat → Nat) (sp mo : Nat) (hmp : ∀ k, k < 9 → mp k < 10) (a : Nat → Int32) (n : Nat) (hn : n ≤ 100) (T : TS) (hR : RepC iv T) (hD : elD iv (T.e 0) 0) (hX : tX a T n) (hs : T.stk = []) (i : Nat) (hi : i ≤ T.cn) (iv1 : Nat → Nat → Int32) (A : List Nat) (hq : FqC iv iv1 A) (hlen : A.length ≤ 200) (PP : Option Value → ex_H → Prop) (hK : ∀ iv2, FqC iv iv2 ((if fbB iv mp i = true ∧ ¬ (T.e i).ik = -1 then [ikN (T.e i) * 8 + 6] else []) ++ A) → EXM M_Fa_judge l G 4 PP p e s m args below meth c 101 [some (.ref 80), some (.ref 41), some (.ref 7), some (.int (nI i)), some (.ref (46 + i)), some (.ref (9 + 3 * (elMo iv mp i)))] [] (HP iv2 mp sp mo)) : EXM M_Fa_judge l G 4 PP p e s m args below meth c 73 [some (.ref 80), some (.ref 41), some (.ref 7), some (.int (nI i)), some (.ref (46 + i)), some (.ref (9 + 3 * (elMo iv mp i)))] [] (HP iv1 mp sp mo) := by
  have hcn : T.cn ≤ 33 := by have := hX.1.1; omega
  have hE := hR.2.2.2.2.1 i hi
  have hiN : i = 0 ∨ 0 < i := by omega
  have hbg : (T.e i).bg ≤ 1000 := by
    rcases hiN with z | z
    · rw [z, hX.1.2.2.1.2.2.2.1]; omega
    · have := (hX.1.2.2.2.1 i z hi).2.2.1; omega
  have hcb : iv1 (46 + i) 3 = nI (T.e i).bg := (hq.2 _ _ (by omega) (Or.inl (by omega))).trans hE.2.2.2.1
  have hmo : elMo iv mp i < 10 := hmp _ (rowN_lt _)
  have hpr : iv1 (9 + 3 * elMo iv mp i) 0 = iv (9 + 3 * elMo iv mp i) 0 := hq.2 _ _ (by omega) (Or.inl (by omega))
  have hik1 : iv1 (46 + i) 9 = (T.e i).ik := (hq.2 _ _ (by omega) (Or.inl (by omega))).trans hE.2.2.2.2.2.2
  have hikN : ¬ (T.e i).ik = -1 → (T.e i).ik = nI (ikN (T.e i)) ∧ ikN (T.e i) ≤ 1000 := by
    intro z
    rcases hX.1.2.2.2.2.2.2 i hi with w | ⟨q, w1, w2⟩
    · exact absurd w z
    · unfold ikN
      rw [w2, nI_t (by omega)]
      exact ⟨rfl, by show q ≤ 1000; omega⟩
  have hfb : (decide (¬ iv1 (9 + 3 * elMo iv mp i) 0 = 0) && decide (iv1 (9 + 3 * elMo iv mp i) 1 = 0)) = fbB iv mp i := by
    unfold fbB fbF
    rw [hpr, hq.2 _ 1 (by omega) (Or.inl (by omega))]
  refine ex_aload (pc := 73) d_Fa_judge_73 rfl ?_
  refine ex_callV (pc := 75) (M' := M_Mo_forbidsCharacters) (as := []) (st := []) d_Fa_judge_75 MW_Mo_forbidsCharacters MI_Mo_forbidsCharacters LK_Fa_55 (mo_lt (hmp _ (rowN_lt _))) (mo_sh (hmp _ (rowN_lt _))) rfl rfl (ct_Mo_forbidsCharacters l G iv1 mp sp mo (elMo iv mp i) hmo) (ex_lt_rm (by decide)) ⟨Nat.le_refl _, Nat.le_refl _⟩ rfl rfl (Nat.le_of_ble_eq_true rfl) ?_
  rintro _ _ ⟨rfl, rfl⟩
  refine ex_top (congrArg b2i hfb) ?_
  refine ex_if_eq (pc := 78) (tgt := 101) d_Fa_judge_78 rfl (fun c78 => ?_) (fun c78 => ?_)
  · refine hK iv1 ?_
    rw [if_neg (fun z => by have z1 := z.1; rw [b2i_0 c78] at z1; cases z1)]
    exact hq
  · refine ex_aload (pc := 81) d_Fa_judge_81 rfl ?_
    refine ex_getx (pc := 83) 3 9 (T.e i).ik d_Fa_judge_83 FL_Fa_59 (el_lt (show i < 34 by omega)) (el_sh (show i < 34 by omega)) hik1 ?_
    refine ex_iconst (pc := 86) (v := (-1)) d_Fa_judge_86 (by decide) ?_
    refine ex_icmp_eq (pc := 87) (tgt := 101) d_Fa_judge_87 rfl (fun c87 => ?_) (fun c87 => ?_)
    · refine hK iv1 ?_
      rw [if_neg (fun z => z.2 c87)]
      exact hq
    · refine ex_aload_n (pc := 90) (i := 0) d_Fa_judge_90 rfl rfl ?_
      refine ex_bipush (pc := 91) (v := (nI 6)) d_Fa_judge_91 (by decide) ?_
      refine ex_aload (pc := 93) d_Fa_judge_93 rfl ?_
      refine ex_getx (pc := 95) 3 9 (T.e i).ik d_Fa_judge_95 FL_Fa_59 (el_lt (show i < 34 by omega)) (el_sh (show i < 34 by omega)) hik1 ?_
      refine ex_top (hikN c87).1 ?_
      refine ex_callV (pc := 98) (M' := M_Fa_add) (as := [.int (nI 6), .int (nI (ikN (T.e i)))]) (st := []) d_Fa_judge_98 MW_Fa_add MI_Fa_add LK_Fa_45 (Nat.le_of_ble_eq_true rfl) rfl rfl rfl (ct_Fa_add l G iv1 mp sp mo (nI 6) (nI (ikN (T.e i))) A.length hq.1.1 hlen) (ex_lt_rm (by decide)) ⟨Nat.le_refl _, Nat.le_refl _⟩ rfl rfl (Nat.le_of_ble_eq_true rfl) ?_
      rintro _ _ ⟨rfl, rfl⟩
      refine hK _ ?_
      rw [if_pos ⟨b2i_1 c78, c87⟩]
      exact fq_add hq (by decide) (hikN c87).2
set_option maxRecDepth 100000 in
set_option maxHeartbeats 4000000 in
theorem lj7_Fa_judge {p : Program} {e : Env} {s : State} {m : MethodId} {args : Array Value} {below : List Frame} {meth : Method} {c : Code} (l : Launch) (G : ex_G) (iv : Nat → Nat → Int32) (mp : Nat → Nat) (sp mo : Nat) (hmp : ∀ k, k < 9 → mp k < 10) (a : Nat → Int32) (n : Nat) (hn : n ≤ 100) (T : TS) (hR : RepC iv T) (hD : elD iv (T.e 0) 0) (hX : tX a T n) (hs : T.stk = []) (i : Nat) (hi : i ≤ T.cn) (iv1 : Nat → Nat → Int32) (A : List Nat) (hq : FqC iv iv1 A) (hlen : A.length ≤ 200) (PP : Option Value → ex_H → Prop) (hK : ∀ iv2, FqC iv iv2 ((if prB iv mp i = true ∧ alwF iv mp T.cn i = false then [(T.e i).bg * 8 + 7] else []) ++ A) → EXM M_Fa_judge l G 4 PP p e s m args below meth c 129 [some (.ref 80), some (.ref 41), some (.ref 7), some (.int (nI i)), some (.ref (46 + i)), some (.ref (9 + 3 * (elMo iv mp i)))] [] (HP iv2 mp sp mo)) : EXM M_Fa_judge l G 4 PP p e s m args below meth c 101 [some (.ref 80), some (.ref 41), some (.ref 7), some (.int (nI i)), some (.ref (46 + i)), some (.ref (9 + 3 * (elMo iv mp i)))] [] (HP iv1 mp sp mo) := by
  have hcn : T.cn ≤ 33 := by have := hX.1.1; omega
  have hE := hR.2.2.2.2.1 i hi
  have hiN : i = 0 ∨ 0 < i := by omega
  have hbg : (T.e i).bg ≤ 1000 := by
    rcases hiN with z | z
    · rw [z, hX.1.2.2.1.2.2.2.1]; omega
    · have := (hX.1.2.2.2.1 i z hi).2.2.1; omega
  have hcb : iv1 (46 + i) 3 = nI (T.e i).bg := (hq.2 _ _ (by omega) (Or.inl (by omega))).trans hE.2.2.2.1
  have hmo : elMo iv mp i < 10 := hmp _ (rowN_lt _)
  have hpr : iv1 (9 + 3 * elMo iv mp i) 0 = iv (9 + 3 * elMo iv mp i) 0 := hq.2 _ _ (by omega) (Or.inl (by omega))
  have h80 : ∀ q j, q < 80 → iv1 q j = iv q j := fun q j h => hq.2 q j (by omega) (Or.inl (by omega))
  refine ex_aload (pc := 101) d_Fa_judge_101 rfl ?_
  refine ex_getx (pc := 103) 7 0 (iv (9 + 3 * (elMo iv mp i)) 0) d_Fa_judge_103 FL_Fa_49 (mo_lt (hmp _ (rowN_lt _))) (mo_sh (hmp _ (rowN_lt _))) hpr ?_
  refine ex_if_eq (pc := 106) (tgt := 129) d_Fa_judge_106 rfl (fun c106 => ?_) (fun c106 => ?_)
  · refine hK iv1 ?_
    rw [if_neg (fun z => by have z1 := z.1; unfold prB at z1; exact (of_decide_eq_true z1) c106)]
    exact hq
  · refine ex_aload_n (pc := 109) (i := 2) d_Fa_judge_109 rfl rfl ?_
    refine ex_aload_n (pc := 110) (i := 1) d_Fa_judge_110 rfl rfl ?_
    refine ex_iload_n (pc := 111) (i := 3) d_Fa_judge_111 rfl rfl ?_
    refine ex_callV (pc := 112) (M' := M_Ms_allowChildren) (as := [.ref 41, .int (nI i)]) (st := []) d_Fa_judge_112 MW_Ms_allowChildren MI_Ms_allowChildren LK_Fa_62 (Nat.le_of_ble_eq_true rfl) rfl rfl rfl (ct_Ms_allowChildren l G iv1 mp sp mo hmp T.cn i ((h80 41 2 (by decide)).trans hR.1) hcn hi) (ex_lt_rm (by decide)) ⟨Nat.le_refl _, Nat.le_refl _⟩ rfl rfl (Nat.le_of_ble_eq_true rfl) ?_
    rintro _ _ ⟨rfl, rfl⟩
    refine ex_top (congrArg b2i (alw_cg h80 hmp hcn hi)) ?_
    refine ex_if_ne (pc := 115) (tgt := 129) d_Fa_judge_115 rfl (fun c115 => ?_) (fun c115 => ?_)
    · refine hK iv1 ?_
      rw [if_neg (fun z => by have z1 := z.2; rw [b2i_1 c115] at z1; cases z1)]
      exact hq
    · refine ex_aload_n (pc := 118) (i := 0) d_Fa_judge_118 rfl rfl ?_
      refine ex_bipush (pc := 119) (v := (nI 7)) d_Fa_judge_119 (by decide) ?_
      refine ex_aload (pc := 121) d_Fa_judge_121 rfl ?_
      refine ex_getx (pc := 123) 3 3 (nI (T.e i).bg) d_Fa_judge_123 FL_Fa_42 (el_lt (show i < 34 by omega)) (el_sh (show i < 34 by omega)) hcb ?_
      refine ex_callV (pc := 126) (M' := M_Fa_add) (as := [.int (nI 7), .int (nI (T.e i).bg)]) (st := []) d_Fa_judge_126 MW_Fa_add MI_Fa_add LK_Fa_45 (Nat.le_of_ble_eq_true rfl) rfl rfl rfl (ct_Fa_add l G iv1 mp sp mo (nI 7) (nI (T.e i).bg) A.length hq.1.1 hlen) (ex_lt_rm (by decide)) ⟨Nat.le_refl _, Nat.le_refl _⟩ rfl rfl (Nat.le_of_ble_eq_true rfl) ?_
      rintro _ _ ⟨rfl, rfl⟩
      refine hK _ ?_
      rw [if_pos ⟨decide_eq_true c106, b2i_0 c115⟩]
      exact fq_add hq (by decide) hbg
theorem jq_l {pr fb al : Nat → Bool} {f : Nat → EL} {i : Nat} {A : List Nat} : (jq pr fb al f i ++ j4 f i) ++ A = (if pr i = true ∧ al i = false then [(f i).bg * 8 + 7] else []) ++ ((if fb i = true ∧ ¬ (f i).ik = -1 then [ikN (f i) * 8 + 6] else []) ++ ((if ¬ i = 0 ∧ pr i = false then [(f i).bg * 8 + 5] else []) ++ (j4 f i ++ A))) := by
  unfold jq
  simp only [List.append_assoc]
theorem one_l {α : Type} {c : Prop} [Decidable c] {x : α} : (if c then [x] else []).length ≤ 1 := by split <;> simp
set_option maxRecDepth 100000 in
set_option maxHeartbeats 4000000 in
theorem lp_Fa_judge {p : Program} {e : Env} {s : State} {m : MethodId} {args : Array Value} {below : List Frame} {meth : Method} {c : Code} (l : Launch) (G : ex_G) (iv : Nat → Nat → Int32) (mp : Nat → Nat) (sp mo : Nat) (hmp : ∀ k, k < 9 → mp k < 10) (a : Nat → Int32) (n : Nat) (hn : n ≤ 100) (T : TS) (hR : RepC iv T) (hD : elD iv (T.e 0) 0) (hX : tX a T n) (hs : T.stk = []) (Z : List Nat) : ∀ (k i : Nat) (iv1 : Nat → Nat → Int32) (A : List Nat) (u4 u5 : Option Value), i + k = T.cn + 1 → FqC iv iv1 A → A.length + 4 * k ≤ 200 → gA (fun i => jq (prB iv mp) (fbB iv mp) (alwF iv mp T.cn) T.e i ++ j4 T.e i) k i A = Z → EXM M_Fa_judge l G 4 (fun r h' => ∃ iv2, h' = HP iv2 mp sp mo ∧ r = none ∧ FqC iv iv2 Z) p e s m args below meth c 2 [some (.ref 80), some (.ref 41), some (.ref 7), some (.int (nI i)), u4, u5] [] (HP iv1 mp sp mo) := by
  intro k
  induction k with
  | zero =>
    intro i iv1 A u4 u5 hik hq hlen hv
    have hcn : T.cn ≤ 33 := by have := hX.1.1; omega
    have hct : iv1 41 2 = nI T.cn := (hq.2 _ _ (by decide) (Or.inl (by decide))).trans hR.1
    have hv2 : A = Z := hv
    subst hv2
    refine ex_iload_n (pc := 2) (i := 3) d_Fa_judge_2 rfl rfl ?_
    refine ex_aload_n (pc := 3) (i := 1) d_Fa_judge_3 rfl rfl ?_
    refine ex_getx (pc := 4) 11 2 (nI T.cn) d_Fa_judge_4 FL_Fa_19 (Nat.le_of_ble_eq_true rfl) rfl hct ?_
    refine ex_icmp_gt (pc := 7) (tgt := 135) d_Fa_judge_7 rfl (fun c7 => ?_) (fun c7 => ?_)
    · refine ex_vret d_Fa_judge_135 rfl rfl (Nat.le_refl _) ?_
      exact ⟨_, rfl, rfl, hq⟩
    · exact absurd ((n_lt (by omega) (by omega)).mpr (by omega)) c7
  | succ k ih =>
    intro i iv1 A u4 u5 hik hq hlen hv
    have hcn : T.cn ≤ 33 := by have := hX.1.1; omega
    have hct : iv1 41 2 = nI T.cn := (hq.2 _ _ (by decide) (Or.inl (by decide))).trans hR.1
    have hnm : iv1 (46 + i) 0 = iv (46 + i) 0 := hq.2 _ _ (by omega) (Or.inl (by omega))
    rw [gA, jq_l] at hv
    refine ex_iload_n (pc := 2) (i := 3) d_Fa_judge_2 rfl rfl ?_
    refine ex_aload_n (pc := 3) (i := 1) d_Fa_judge_3 rfl rfl ?_
    refine ex_getx (pc := 4) 11 2 (nI T.cn) d_Fa_judge_4 FL_Fa_19 (Nat.le_of_ble_eq_true rfl) rfl hct ?_
    refine ex_icmp_gt (pc := 7) (tgt := 135) d_Fa_judge_7 rfl (fun c7 => ?_) (fun c7 => ?_)
    · exact absurd ((n_lt (by omega) (by omega)).mp c7) (by omega)
    · refine ex_aload_n (pc := 10) (i := 1) d_Fa_judge_10 rfl rfl ?_
      refine ex_getr (pc := 11) 11 1 d_Fa_judge_11 FL_Fa_24 (Nat.le_of_ble_eq_true rfl) rfl rfl ?_
      refine ex_iload_n (pc := 14) (i := 3) d_Fa_judge_14 rfl rfl ?_
      refine ex_aald (pc := 15) i d_Fa_judge_15 (Nat.le_of_ble_eq_true rfl) rfl rfl rfl (nI_t (by omega)) (show i < 34 by omega) (el_rf (mp := mp) (sp := sp) (mo := mo) (show i < 34 by omega)) ?_
      refine ex_astore (pc := 16) d_Fa_judge_16 (by decide) ?_
      refine ex_aload_n (pc := 18) (i := 2) d_Fa_judge_18 rfl rfl ?_
      refine ex_aload (pc := 19) d_Fa_judge_19 rfl ?_
      refine ex_getx (pc := 21) 3 0 (iv (46 + i) 0) d_Fa_judge_21 FL_Fa_28 (el_lt (show i < 34 by omega)) (el_sh (show i < 34 by omega)) hnm ?_
      refine ex_callV (pc := 24) (M' := M_Ms_of) (as := [.int (iv (46 + i) 0)]) (st := []) d_Fa_judge_24 MW_Ms_of MI_Ms_of LK_Fa_33 (Nat.le_of_ble_eq_true rfl) rfl rfl rfl (ct_Ms_of l G iv1 mp sp mo (iv (46 + i) 0)) (ex_lt_rm (by decide)) ⟨Nat.le_refl _, Nat.le_refl _⟩ rfl rfl (Nat.le_of_ble_eq_true rfl) ?_
      rintro _ _ ⟨rfl, rfl⟩
      refine ex_astore (pc := 27) d_Fa_judge_27 (by decide) ?_
      refine lj4_Fa_judge l G iv mp sp mo hmp a n hn T hR hD hX hs i (by omega) iv1 A hq (by omega) _ (fun iv2 hq2 => ?_)
      have g4 : (j4 T.e i).length ≤ 1 := one_l
      refine lj5_Fa_judge l G iv mp sp mo hmp a n hn T hR hD hX hs i (by omega) iv2 _ hq2 (by rw [List.length_append]; omega) _ (fun iv3 hq3 => ?_)
      have g5 : (if ¬ i = 0 ∧ prB iv mp i = false then [(T.e i).bg * 8 + 5] else []).length ≤ 1 := one_l
      refine lj6_Fa_judge l G iv mp sp mo hmp a n hn T hR hD hX hs i (by omega) iv3 _ hq3 (by rw [List.length_append, List.length_append]; omega) _ (fun iv4 hq4 => ?_)
      have g6 : (if fbB iv mp i = true ∧ ¬ (T.e i).ik = -1 then [ikN (T.e i) * 8 + 6] else []).length ≤ 1 := one_l
      refine lj7_Fa_judge l G iv mp sp mo hmp a n hn T hR hD hX hs i (by omega) iv4 _ hq4 (by rw [List.length_append, List.length_append, List.length_append]; omega) _ (fun iv5 hq5 => ?_)
      have g7 : (if prB iv mp i = true ∧ alwF iv mp T.cn i = false then [(T.e i).bg * 8 + 7] else []).length ≤ 1 := one_l
      refine ex_iinc (pc := 129) (v := (nI (i + 1))) d_Fa_judge_129 rfl (nI_1 i) (by decide) ?_
      refine ex_goto (pc := 132) (tgt := 2) d_Fa_judge_132 rfl ?_
      exact ih (i + 1) iv5 _ _ _ (by omega) hq5 (by rw [List.length_append, List.length_append, List.length_append, List.length_append]; omega) hv

set_option maxRecDepth 100000 in
set_option maxHeartbeats 4000000 in
theorem ct_Fa_judge (l : Launch) (G : ex_G) (iv : Nat → Nat → Int32) (mp : Nat → Nat) (sp mo : Nat) (hmp : ∀ k, k < 9 → mp k < 10) (a : Nat → Int32) (n : Nat) (hn : n ≤ 100) (T : TS) (hR : RepC iv T) (hD : elD iv (T.e 0) 0) (hX : tX a T n) (hs : T.stk = []) : CT l G 4 M_Fa_judge [.ref 80, .ref 41, .ref 7] (HP iv mp sp mo) 0 0 (fun r h' => ∃ iv2, h' = HP iv2 mp sp mo ∧ r = none ∧ FqC iv iv2 (gA (fun i => jq (prB iv mp) (fbB iv mp) (alwF iv mp T.cn) T.e i ++ j4 T.e i) (T.cn + 1) 0 T.fl)) := by
  refine ex_enter (by decide) (Nat.le_of_ble_eq_true rfl) (fun v hv => by simp at hv; rcases hv with rfl | rfl | rfl <;> rfl) (fun p e s m args below meth c => ?_)
  refine ex_iconst (pc := 0) (v := (nI 0)) d_Fa_judge_0 (by decide) ?_
  refine ex_istore_n (pc := 1) (i := 3) d_Fa_judge_1 rfl (by decide) ?_
  exact lp_Fa_judge l G iv mp sp mo hmp a n hn T hR hD hX hs _ (T.cn + 1) 0 iv T.fl _ _ (by omega) ⟨hR.2.2.2.2.2.2, fun _ _ _ _ => rfl⟩ (by have := hX.1.1; omega) rfl

/-- what the class has when nothing is stale: the tree of its text, and the faults by its models -/
def ClsT (iv : Nat → Nat → Int32) (mp : Nat → Nat) (T : TS) : Prop := iv 41 2 = nI T.cn ∧ iv 41 7 = nI T.tn ∧ (∀ t, t < T.tn → tgR iv (T.tg t) t) ∧ (∀ i, i ≤ T.cn → elR iv (T.e i) (chC T.e T.cn i) i ∧ elD iv (T.e i) i) ∧ FaC iv (gA (fun i => jq (prB iv mp) (fbB iv mp) (alwF iv mp T.cn) T.e i ++ j4 T.e i) (T.cn + 1) 0 T.fl)
theorem rx_cls {iv iv1 iv2 : Nat → Nat → Int32} {mp : Nat → Nat} (hmp : ∀ k, k < 9 → mp k < 10) {a : Nat → Int32} {n : Nat} {T : TS} (hn : n ≤ 100) (hR : RepC iv1 T) (hD : elD iv1 (T.e 0) 0) (hX : tX a T n) (hs : T.stk = []) (hF : FrC iv iv1) (hq : FqC iv1 iv2 (gA (fun i => jq (prB iv1 mp) (fbB iv1 mp) (alwF iv1 mp T.cn) T.e i ++ j4 T.e i) (T.cn + 1) 0 T.fl)) : ClsT iv2 mp T ∧ FrC iv iv2 := by
  have hcn : T.cn ≤ 33 := by have := hX.1.1; omega
  have h80 : ∀ q j, q < 80 → iv2 q j = iv1 q j := fun q j h => hq.2 q j (by omega) (Or.inl (by omega))
  have e1 : gA (fun i => jq (prB iv2 mp) (fbB iv2 mp) (alwF iv2 mp T.cn) T.e i ++ j4 T.e i) (T.cn + 1) 0 T.fl = gA (fun i => jq (prB iv1 mp) (fbB iv1 mp) (alwF iv1 mp T.cn) T.e i ++ j4 T.e i) (T.cn + 1) 0 T.fl := by
    refine gA_cg _ _ _ (fun i _ hi => ?_)
    have m1 : elMo iv2 mp i = elMo iv1 mp i := by unfold elMo; rw [h80 _ 0 (by omega)]
    have m2 : prB iv2 mp i = prB iv1 mp i := by unfold prB; rw [m1, (mo_cg h80 (j := elMo iv1 mp i) (hmp _ (rowN_lt _))).1]
    have m3 : fbB iv2 mp i = fbB iv1 mp i := by unfold fbB fbF; rw [m1, (mo_cg h80 (j := elMo iv1 mp i) (hmp _ (rowN_lt _))).1]
    have m4 : alwF iv2 mp T.cn i = alwF iv1 mp T.cn i := alw_cg h80 hmp hcn (by omega)
    unfold jq
    rw [m2, m3, m4]
  refine ⟨⟨(h80 _ _ (by decide)).trans hR.1, (h80 _ _ (by decide)).trans hR.2.2.1, fun t ht => ?_, fun i hi => ⟨?_, ?_⟩, by rw [e1]; exact hq.1⟩, hF.t (fun q j h => hq.2 q j (by omega) (Or.inl (by omega)))⟩
  · have := hR.2.2.2.1 t ht
    unfold tgR at this ⊢
    rw [h80 _ _ (by decide), h80 _ _ (by decide), h80 _ _ (by decide)]
    exact this
  · have := hR.2.2.2.2.1 i hi
    unfold elR at this ⊢
    rw [h80 _ 0 (by omega), h80 _ 1 (by omega), h80 _ 2 (by omega), h80 _ 3 (by omega), h80 _ 4 (by omega), h80 _ 7 (by omega), h80 _ 9 (by omega)]
    exact this
  · have hd : elD iv1 (T.e i) i := by
      by_cases h0 : i = 0
      · rw [h0]; exact hD
      · exact hR.2.2.2.2.2.1 i (by omega) hi (by rw [hs]; exact List.not_mem_nil)
    unfold elD at hd ⊢
    rw [h80 _ 5 (by omega), h80 _ 6 (by omega), h80 _ 8 (by omega)]
    exact hd
theorem cls_u0 {iv : Nat → Nat → Int32} {mp : Nat → Nat} {T : TS} {a0 k0 : Nat} {v : Int32} (hmp : ∀ k, k < 9 → mp k < 10) (hcn : T.cn ≤ 33) (ha : a0 < 9) (h : ClsT iv mp T) : ClsT (ex_u2 iv a0 k0 v) mp T := by
  have hg : ∀ q j, q ≠ a0 → ex_u2 iv a0 k0 v q j = iv q j := fun q j hq => u2n (Or.inl hq)
  obtain ⟨h1, h2, h3, h4, h5⟩ := h
  have mo3 : ∀ j, ex_u2 iv a0 k0 v (9 + 3 * j) = iv (9 + 3 * j) ∧ ex_u2 iv a0 k0 v (10 + 3 * j) = iv (10 + 3 * j) ∧ ex_u2 iv a0 k0 v (11 + 3 * j) = iv (11 + 3 * j) := fun j => ⟨funext (fun k => hg _ _ (by omega)), funext (fun k => hg _ _ (by omega)), funext (fun k => hg _ _ (by omega))⟩
  have sc : ∀ (j nu : Nat) (fr to : Int32) k i acc, stcF (ex_u2 iv a0 k0 v) j nu fr to k i acc = stcF iv j nu fr to k i acc := by
    intro j nu fr to k
    induction k with
    | zero => intros; rfl
    | succ k ih =>
      intro i acc
      rw [stcF, stcF, ih, hg _ 1 (by omega), hg _ 3 (by omega), hg _ 0 (by omega)]
      unfold stpF folF
      rw [(mo3 j).2.1, (mo3 j).2.2]
  have e1 : gA (fun i => jq (prB (ex_u2 iv a0 k0 v) mp) (fbB (ex_u2 iv a0 k0 v) mp) (alwF (ex_u2 iv a0 k0 v) mp T.cn) T.e i ++ j4 T.e i) (T.cn + 1) 0 T.fl = gA (fun i => jq (prB iv mp) (fbB iv mp) (alwF iv mp T.cn) T.e i ++ j4 T.e i) (T.cn + 1) 0 T.fl := by
    refine gA_cg _ _ _ (fun i _ hi => ?_)
    have m1 : elMo (ex_u2 iv a0 k0 v) mp i = elMo iv mp i := by unfold elMo; rw [hg _ 0 (by omega)]
    have m2 : prB (ex_u2 iv a0 k0 v) mp i = prB iv mp i := by unfold prB; rw [m1, (mo3 _).1]
    have m3 : fbB (ex_u2 iv a0 k0 v) mp i = fbB iv mp i := by unfold fbB fbF; rw [m1, (mo3 _).1]
    have m4 : alwF (ex_u2 iv a0 k0 v) mp T.cn i = alwF iv mp T.cn i := by unfold alwF accF; rw [m1, sc, (mo3 _).1]
    unfold jq
    rw [m2, m3, m4]
  refine ⟨(hg _ _ (by omega)).trans h1, (hg _ _ (by omega)).trans h2, fun t ht => ?_, fun i hi => ⟨?_, ?_⟩, ?_⟩
  · have := h3 t ht
    unfold tgR at this ⊢
    rw [hg _ _ (by omega), hg _ _ (by omega), hg _ _ (by omega)]
    exact this
  · have := (h4 i hi).1
    unfold elR at this ⊢
    rw [hg _ 0 (by omega), hg _ 1 (by omega), hg _ 2 (by omega), hg _ 3 (by omega), hg _ 4 (by omega), hg _ 7 (by omega), hg _ 9 (by omega)]
    exact this
  · have := (h4 i hi).2
    unfold elD at this ⊢
    rw [hg _ 5 (by omega), hg _ 6 (by omega), hg _ 8 (by omega)]
    exact this
  · rw [e1]
    exact faC_cg h5 (hg _ _ (by omega)) (fun i => hg _ _ (by omega))
set_option maxRecDepth 100000 in
set_option maxHeartbeats 4000000 in
theorem ct_TG_refresh (l : Launch) (G : ex_G) (iv : Nat → Nat → Int32) (mp : Nat → Nat) (sp mo : Nat) (hmp : ∀ k, k < 9 → mp k < 10) (a : Nat → Int32) (n : Nat) (hA : TxA iv a n) (hst : iv 0 9 = 0 → ClsT iv mp (tAll a n)) : CT l G 5 M_TG_refresh [.ref 0] (HP iv mp sp mo) 0 0 (fun r h' => ∃ iv2, h' = HP iv2 mp sp mo ∧ r = none ∧ ClsT iv2 mp (tAll a n) ∧ (∀ q j, (q ≠ 0 ∨ j ≠ 9) → (q < 41 ∨ q = 42 ∨ 82 ≤ q) → iv2 q j = iv q j) ∧ iv2 0 9 = nI 0) := by
  refine ex_enter (by decide) (Nat.le_of_ble_eq_true rfl) (fun v hv => by simp at hv; rcases hv with rfl <;> rfl) (fun p e s m args below meth c => ?_)
  have hn := hA.1
  have hTX := tX_all hA.1 hA.2.2.2
  have hA2 : TxA (ex_u2 iv 80 1 (nI 0)) a n := ⟨hA.1, (u2n (Or.inl (by decide))).trans hA.2.1, fun k hk => (u2n (Or.inl (by decide))).trans (hA.2.2.1 k hk), hA.2.2.2⟩
  refine ex_aload_n (pc := 0) (i := 0) d_TG_refresh_0 rfl rfl ?_
  refine ex_getx (pc := 1) 0 9 (iv 0 9) d_TG_refresh_1 FL_TG_78 (Nat.le_of_ble_eq_true rfl) rfl rfl ?_
  refine ex_if_ne (pc := 4) (tgt := 8) d_TG_refresh_4 rfl (fun c4 => ?_) (fun c4 => ?_)
  · refine ex_aload_n (pc := 8) (i := 0) d_TG_refresh_8 rfl rfl ?_
    refine ex_getr (pc := 9) 0 5 d_TG_refresh_9 FL_TG_51 (Nat.le_of_ble_eq_true rfl) rfl rfl ?_
    refine ex_callV (pc := 12) (M' := M_Fa_clear) (as := []) (st := []) d_TG_refresh_12 MW_Fa_clear MI_Fa_clear LK_TG_219 (Nat.le_of_ble_eq_true rfl) rfl rfl rfl (ct_Fa_clear l G iv mp sp mo) (ex_lt_rm (by decide)) ⟨Nat.le_refl _, Nat.le_refl _⟩ rfl rfl (Nat.le_of_ble_eq_true rfl) ?_
    rintro _ _ ⟨rfl, rfl⟩
    refine ex_aload_n (pc := 15) (i := 0) d_TG_refresh_15 rfl rfl ?_
    refine ex_getr (pc := 16) 0 4 d_TG_refresh_16 FL_TG_44 (Nat.le_of_ble_eq_true rfl) rfl rfl ?_
    refine ex_aload_n (pc := 19) (i := 0) d_TG_refresh_19 rfl rfl ?_
    refine ex_getr (pc := 20) 0 5 d_TG_refresh_20 FL_TG_51 (Nat.le_of_ble_eq_true rfl) rfl rfl ?_
    refine ex_callV (pc := 23) (M' := M_Tr_read) (as := [.ref 80]) (st := []) d_TG_refresh_23 MW_Tr_read MI_Tr_read LK_TG_220 (Nat.le_of_ble_eq_true rfl) rfl rfl rfl (ct_Tr_read l G (ex_u2 iv 80 1 (nI 0)) mp sp mo a n hA2 u2s) (ex_lt_rm (by decide)) ⟨Nat.le_refl _, Nat.le_refl _⟩ rfl rfl (Nat.le_of_ble_eq_true rfl) ?_
    rintro _ _ ⟨iv3, rfl, rfl, hR3, hD3, hF3⟩
    refine ex_aload_n (pc := 26) (i := 0) d_TG_refresh_26 rfl rfl ?_
    refine ex_getr (pc := 27) 0 5 d_TG_refresh_27 FL_TG_51 (Nat.le_of_ble_eq_true rfl) rfl rfl ?_
    refine ex_aload_n (pc := 30) (i := 0) d_TG_refresh_30 rfl rfl ?_
    refine ex_getr (pc := 31) 0 4 d_TG_refresh_31 FL_TG_44 (Nat.le_of_ble_eq_true rfl) rfl rfl ?_
    refine ex_aload_n (pc := 34) (i := 0) d_TG_refresh_34 rfl rfl ?_
    refine ex_getr (pc := 35) 0 2 d_TG_refresh_35 FL_TG_28 (Nat.le_of_ble_eq_true rfl) rfl rfl ?_
    refine ex_callV (pc := 38) (M' := M_Fa_judge) (as := [.ref 41, .ref 7]) (st := []) d_TG_refresh_38 MW_Fa_judge MI_Fa_judge LK_TG_224 (Nat.le_of_ble_eq_true rfl) rfl rfl rfl (ct_Fa_judge l G iv3 mp sp mo hmp a n hn (tAll a n) hR3 hD3 hTX.1 hTX.2) (ex_lt_rm (by decide)) ⟨Nat.le_refl _, Nat.le_refl _⟩ rfl rfl (Nat.le_of_ble_eq_true rfl) ?_
    rintro _ _ ⟨iv4, rfl, rfl, hq4⟩
    refine ex_aload_n (pc := 41) (i := 0) d_TG_refresh_41 rfl rfl ?_
    refine ex_iconst (pc := 42) (v := (nI 0)) d_TG_refresh_42 (by decide) ?_
    refine ex_puti (pc := 43) 0 9 .boolean d_TG_refresh_43 (PF_TG_78 _) (Nat.le_of_ble_eq_true rfl) rfl rfl rfl ?_
    refine ex_vret d_TG_refresh_46 rfl rfl (Nat.le_refl _) ?_
    obtain ⟨hcl, hfr⟩ := rx_cls hmp hn hR3 hD3 hTX.1 hTX.2 hF3 hq4
    exact ⟨_, rfl, rfl, cls_u0 hmp (by have := hTX.1.1.1; omega) (by decide) hcl, fun q j h1 h2 => (u2n h1).trans ((hfr q j h2).trans (u2n (Or.inl (by omega)))), u2s⟩
  · refine ex_vret d_TG_refresh_7 rfl rfl (Nat.le_refl _) ?_
    exact ⟨iv, rfl, rfl, hst c4, fun _ _ _ _ => rfl, c4⟩

