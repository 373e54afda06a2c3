/-! judging (reference) -/
def FqR (iv iv1 : Nat → Nat → Int32) (A : List Nat) : Prop := FaR iv1 A ∧ ∀ q j, q ≠ 119 → q ≠ 120 → (q ≠ 92 ∨ j ≠ 29) → iv1 q j = iv q j
theorem fqR_add {iv iv1 : Nat → Nat → Int32} {A : List Nat} (h : FqR iv iv1 A) {kd pl : Nat} (hk : kd < 8) (hp : pl ≤ 1000) : FqR iv (rfFlt iv1 A.length (nI kd) (nI pl)) ((pl * 8 + kd) :: A) := ⟨faR_add h.1 hk hp, fun q j h1 h2 h3 => (rfFlt_o h1 h2 h3).trans (h.2 q j h1 h2 h3)⟩
def prR (iv : Nat → Nat → Int32) (T : TS) (i : Nat) : Bool := decide (¬ iv 94 (moR T i) = 0)
def fbR (iv : Nat → Nat → Int32) (T : TS) (i : Nat) : Bool := prR iv T i && decide (iv 95 (moR T i) = 0)
def alR (iv : Nat → Nat → Int32) (mn : Nat → Nat) (T : TS) (i : Nat) : Bool := accR iv (moR T i) (rstF iv (moR T i) (mn (moR T i)) i (fun _ => true) T.cn 1 (nI 1024))
section JR
variable {iv iv1 : Nat → Nat → Int32}
theorem stpR_cg (hc : ∀ q j, 93 ≤ q → q < 119 → iv1 q j = iv q j) (mm n : Nat) (x ns : Int32) : stpR iv1 mm n x ns = stpR iv mm n x ns := by
  unfold stpR nxtR
  have e1 : (fun k => iv1 100 (10 * mm + k)) = fun k => iv 100 (10 * mm + k) := funext (fun k => hc _ _ (by decide) (by decide))
  have e2 : (fun k => iv1 101 (10 * mm + k)) = fun k => iv 101 (10 * mm + k) := funext (fun k => hc _ _ (by decide) (by decide))
  rw [e1, e2, hc 96 mm (by decide) (by decide)]
theorem accR_cg (hc : ∀ q j, 93 ≤ q → q < 119 → iv1 q j = iv q j) (mm : Nat) (x : Int32) : accR iv1 mm x = accR iv mm x := by
  unfold accR
  rw [hc 97 mm (by decide) (by decide), hc 98 mm (by decide) (by decide)]
theorem rst_cg (hc : ∀ q j, 93 ≤ q → q < 119 → iv1 q j = iv q j) {mm n u : Nat} {C : Nat → Bool} : ∀ k i acc, rstF iv1 mm n u C k i acc = rstF iv mm n u C k i acc := by
  intro k
  induction k with
  | zero => intros; rfl
  | succ k ih =>
    intro i acc
    rw [rstF, rstF, ih, hc 108 i (by decide) (by decide), hc 107 i (by decide) (by decide), stpR_cg hc]
end JR
set_option maxRecDepth 100000 in
set_option maxHeartbeats 4000000 in
theorem lp_RF_judge {p : Program} {e : Env} {s : State} {m : MethodId} {args : Array Value} {below : List Frame} {meth : Method} {c : Code} (l : Launch) (G : ex_G) (iv : Nat → Nat → Int32) (mp : Nat → Nat) (sp mo : Nat) (mn : Nat → Nat) (hmn : ∀ k, k < 9 → iv 99 k = nI (mn k) ∧ mn k ≤ 10) (a : Nat → Int32) (n : Nat) (hn : n ≤ 100) (T : TS) (B : List Nat) (hR : RepR iv T B) (hX : tX a T n) (i : Nat) (hi : i ≤ T.cn) (iv1 : Nat → Nat → Int32) (A : List Nat) (hq : FqR iv iv1 A) (v : Int32) (PP : Option Value → ex_H → Prop) (hK : ∀ u : Option Value, EXM M_RF_judge l G 2 PP p e s m args below meth c 113 [some (.ref 92), some (.int (nI i)), some (.int (nI (moR T i))), some (.int v), u] [] (HP iv1 mp sp mo)) : ∀ (k q : Nat) (acc : Int32), q + k = T.cn + 1 → 0 < q → rstF iv (moR T i) (mn (moR T i)) i (fun _ => true) k q acc = v → EXM M_RF_judge l G 2 (fun r h' => PP r h') p e s m args below meth c 68 [some (.ref 92), some (.int (nI i)), some (.int (nI (moR T i))), some (.int acc), some (.int (nI q))] [] (HP iv1 mp sp mo) := by
  intro k
  induction k with
  | zero =>
    intro q acc hik hq0 hv
    have hcn : T.cn ≤ 33 := by have := hX.1.1; omega
    have hm9 : moR T i < 9 := moR_lt hX.1 hi
    have hc : ∀ q j, 93 ≤ q → q < 119 → iv1 q j = iv q j := fun q j h1 h2 => hq.2 q j (by omega) (by omega) (Or.inl (by omega))
    have h16 : iv1 92 16 = nI (T.cn + 1) := (hq.2 _ _ (by decide) (by decide) (Or.inr (by decide))).trans hR.1
    have hE := hR.2.1 i hi
    have hbg : (T.e i).bg ≤ 1000 := by
      by_cases z : i = 0
      · rw [z, hX.1.2.2.1.2.2.2.1]; omega
      · have := (hX.1.2.2.2.1 i (by omega) hi).2.2.1; omega
    have hcb : iv1 109 i = nI (T.e i).bg := (hc _ _ (by decide) (by decide)).trans hE.2.2.1
    have hv2 : acc = v := hv
    subst hv2
    refine ex_iload (pc := 68) d_RF_judge_68 rfl ?_
    refine ex_aload_n (pc := 70) (i := 0) d_RF_judge_70 rfl rfl ?_
    refine ex_getx (pc := 71) 12 16 (nI (T.cn + 1)) d_RF_judge_71 FL_RF_185 (Nat.le_of_ble_eq_true rfl) rfl h16 ?_
    refine ex_icmp_ge (pc := 74) (tgt := 113) d_RF_judge_74 rfl (fun c74 => ?_) (fun c74 => ?_)
    · exact hK _
    · exact absurd ((n_ge (by omega) (by omega)).mpr (by omega)) c74
  | succ k ih =>
    intro q acc hik hq0 hv
    have hcn : T.cn ≤ 33 := by have := hX.1.1; omega
    have hm9 : moR T i < 9 := moR_lt hX.1 hi
    have hc : ∀ q j, 93 ≤ q → q < 119 → iv1 q j = iv q j := fun q j h1 h2 => hq.2 q j (by omega) (by omega) (Or.inl (by omega))
    have h16 : iv1 92 16 = nI (T.cn + 1) := (hq.2 _ _ (by decide) (by decide) (Or.inr (by decide))).trans hR.1
    have hE := hR.2.1 i hi
    have hbg : (T.e i).bg ≤ 1000 := by
      by_cases z : i = 0
      · rw [z, hX.1.2.2.1.2.2.2.1]; omega
      · have := (hX.1.2.2.2.1 i (by omega) hi).2.2.1; omega
    have hcb : iv1 109 i = nI (T.e i).bg := (hc _ _ (by decide) (by decide)).trans hE.2.2.1
    rw [rstF] at hv
    refine ex_iload (pc := 68) d_RF_judge_68 rfl ?_
    refine ex_aload_n (pc := 70) (i := 0) d_RF_judge_70 rfl rfl ?_
    refine ex_getx (pc := 71) 12 16 (nI (T.cn + 1)) d_RF_judge_71 FL_RF_185 (Nat.le_of_ble_eq_true rfl) rfl h16 ?_
    refine ex_icmp_ge (pc := 74) (tgt := 113) d_RF_judge_74 rfl (fun c74 => ?_) (fun c74 => ?_)
    · exact absurd ((n_ge (by omega) (by omega)).mp c74) (by omega)
    · refine ex_aload_n (pc := 77) (i := 0) d_RF_judge_77 rfl rfl ?_
      refine ex_getr (pc := 78) 12 18 d_RF_judge_78 FL_RF_56 (Nat.le_of_ble_eq_true rfl) rfl rfl ?_
      refine ex_iload (pc := 81) d_RF_judge_81 rfl ?_
      refine ex_ialdx (pc := 83) q (iv 108 q) d_RF_judge_83 (Nat.le_of_ble_eq_true rfl) rfl rfl rfl (nI_t (by omega)) (show q < 40 by omega) (hc _ _ (by decide) (by decide)) ?_
      refine ex_iload_n (pc := 84) (i := 1) d_RF_judge_84 rfl rfl ?_
      refine ex_icmp_ne (pc := 85) (tgt := 107) d_RF_judge_85 rfl (fun c85 => ?_) (fun c85 => ?_)
      · refine ex_iinc (pc := 107) (v := (nI (q + 1))) d_RF_judge_107 rfl (nI_1 q) (by decide) ?_
        refine ex_goto (pc := 110) (tgt := 68) d_RF_judge_110 rfl ?_
        exact ih (q + 1) _ (by omega) (by omega) (by rw [if_neg (fun z => c85 z.1)] at hv; exact hv)
      · refine ex_aload_n (pc := 88) (i := 0) d_RF_judge_88 rfl rfl ?_
        refine ex_iload_n (pc := 89) (i := 2) d_RF_judge_89 rfl rfl ?_
        refine ex_iload_n (pc := 90) (i := 3) d_RF_judge_90 rfl rfl ?_
        refine ex_iconst (pc := 91) (v := (nI 1)) d_RF_judge_91 (by decide) ?_
        refine ex_aload_n (pc := 92) (i := 0) d_RF_judge_92 rfl rfl ?_
        refine ex_getr (pc := 93) 12 17 d_RF_judge_93 FL_RF_53 (Nat.le_of_ble_eq_true rfl) rfl rfl ?_
        refine ex_iload (pc := 96) d_RF_judge_96 rfl ?_
        refine ex_ialdx (pc := 98) q (iv 107 q) d_RF_judge_98 (Nat.le_of_ble_eq_true rfl) rfl rfl rfl (nI_t (by omega)) (show q < 40 by omega) (hc _ _ (by decide) (by decide)) ?_
        refine ex_bipush (pc := 99) (v := (nI 97)) d_RF_judge_99 (by decide) ?_
        refine ex_isub (pc := 101) d_RF_judge_101 ?_
        refine ex_ishl (pc := 102) d_RF_judge_102 ?_
        refine ex_callV (pc := 103) (M' := M_RF_step) (as := [.int (nI (moR T i)), .int acc, .int (nI 1 <<< ((iv 107 q - nI 97) &&& 31))]) (st := []) d_RF_judge_103 MW_RF_step MI_RF_step LK_RF_168 (Nat.le_of_ble_eq_true rfl) rfl rfl rfl (ct_RF_step l G iv1 mp sp mo (moR T i) (mn (moR T i)) (by omega) ((hc _ _ (by decide) (by decide)).trans (hmn _ hm9).1) (hmn _ hm9).2 acc (nI 1 <<< ((iv 107 q - nI 97) &&& 31))) (ex_lt_rm (by decide)) ⟨Nat.le_refl _, Nat.le_refl _⟩ rfl rfl (Nat.le_of_ble_eq_true rfl) ?_
        rintro _ _ ⟨rfl, rfl⟩
        refine ex_top (stpR_cg hc _ _ _ _) ?_
        refine ex_istore_n (pc := 106) (i := 3) d_RF_judge_106 rfl (by decide) ?_
        refine ex_iinc (pc := 107) (v := (nI (q + 1))) d_RF_judge_107 rfl (nI_1 q) (by decide) ?_
        refine ex_goto (pc := 110) (tgt := 68) d_RF_judge_110 rfl ?_
        exact ih (q + 1) _ (by omega) (by omega) (by rw [if_pos ⟨c85, rfl⟩] at hv; exact hv)

set_option maxRecDepth 100000 in
set_option maxHeartbeats 4000000 in
theorem lt_RF_judge {p : Program} {e : Env} {s : State} {m : MethodId} {args : Array Value} {below : List Frame} {meth : Method} {c : Code} (l : Launch) (G : ex_G) (iv : Nat → Nat → Int32) (mp : Nat → Nat) (sp mo : Nat) (mn : Nat → Nat) (hmn : ∀ k, k < 9 → iv 99 k = nI (mn k) ∧ mn k ≤ 10) (a : Nat → Int32) (n : Nat) (hn : n ≤ 100) (T : TS) (B : List Nat) (hR : RepR iv T B) (hX : tX a T n) (i : Nat) (hi : i ≤ T.cn) (iv1 : Nat → Nat → Int32) (A : List Nat) (hq : FqR iv iv1 A) (hlen : A.length < 400) (PP : Option Value → ex_H → Prop) (hPP : ∀ iv2, FqR iv iv2 ((if alR iv mn T i = false then [(T.e i).bg * 8 + 7] else []) ++ A) → PP none (HP iv2 mp sp mo)) (u3 u4 : Option Value) : EXM M_RF_judge l G 2 (fun r h' => PP r h') p e s m args below meth c 61 [some (.ref 92), some (.int (nI i)), some (.int (nI (moR T i))), u3, u4] [] (HP iv1 mp sp mo) := by
  have hcn : T.cn ≤ 33 := by have := hX.1.1; omega
  have hm9 : moR T i < 9 := moR_lt hX.1 hi
  have hc : ∀ q j, 93 ≤ q → q < 119 → iv1 q j = iv q j := fun q j h1 h2 => hq.2 q j (by omega) (by omega) (Or.inl (by omega))
  have h16 : iv1 92 16 = nI (T.cn + 1) := (hq.2 _ _ (by decide) (by decide) (Or.inr (by decide))).trans hR.1
  have hE := hR.2.1 i hi
  have hbg : (T.e i).bg ≤ 1000 := by
    by_cases z : i = 0
    · rw [z, hX.1.2.2.1.2.2.2.1]; omega
    · have := (hX.1.2.2.2.1 i (by omega) hi).2.2.1; omega
  have hcb : iv1 109 i = nI (T.e i).bg := (hc _ _ (by decide) (by decide)).trans hE.2.2.1
  refine ex_sipush (pc := 61) (v := (nI 1024)) d_RF_judge_61 (by decide) ?_
  refine ex_istore_n (pc := 64) (i := 3) d_RF_judge_64 rfl (by decide) ?_
  refine ex_iconst (pc := 65) (v := (nI 1)) d_RF_judge_65 (by decide) ?_
  refine ex_istore (pc := 66) d_RF_judge_66 (by decide) ?_
  refine lp_RF_judge l G iv mp sp mo mn hmn a n hn T B hR hX i hi iv1 A hq _ _ (fun u => ?_) T.cn 1 (nI 1024) (by omega) (by omega) rfl
  refine ex_aload_n (pc := 113) (i := 0) d_RF_judge_113 rfl rfl ?_
  refine ex_iload_n (pc := 114) (i := 2) d_RF_judge_114 rfl rfl ?_
  refine ex_iload_n (pc := 115) (i := 3) d_RF_judge_115 rfl rfl ?_
  refine ex_callV (pc := 116) (M' := M_RF_accepts) (as := [.int (nI (moR T i)), .int (rstF iv (moR T i) (mn (moR T i)) i (fun _ => true) T.cn 1 (nI 1024))]) (st := []) d_RF_judge_116 MW_RF_accepts MI_RF_accepts LK_RF_175 (Nat.le_of_ble_eq_true rfl) rfl rfl rfl (ct_RF_accepts l G iv1 mp sp mo (moR T i) (by omega) _) (ex_lt_rm (by decide)) ⟨Nat.le_refl _, Nat.le_refl _⟩ rfl rfl (Nat.le_of_ble_eq_true rfl) ?_
  rintro _ _ ⟨rfl, rfl⟩
  refine ex_top (show _ = b2i (alR iv mn T i) from congrArg b2i (accR_cg hc _ _)) ?_
  refine ex_if_ne (pc := 119) (tgt := 134) d_RF_judge_119 rfl (fun c119 => ?_) (fun c119 => ?_)
  · refine ex_vret d_RF_judge_134 rfl rfl (Nat.le_refl _) ?_
    refine hPP iv1 ?_
    rw [if_neg (by rw [b2i_1 c119]; decide)]
    exact hq
  · refine ex_aload_n (pc := 122) (i := 0) d_RF_judge_122 rfl rfl ?_
    refine ex_bipush (pc := 123) (v := (nI 7)) d_RF_judge_123 (by decide) ?_
    refine ex_aload_n (pc := 125) (i := 0) d_RF_judge_125 rfl rfl ?_
    refine ex_getr (pc := 126) 12 19 d_RF_judge_126 FL_RF_59 (Nat.le_of_ble_eq_true rfl) rfl rfl ?_
    refine ex_iload_n (pc := 129) (i := 1) d_RF_judge_129 rfl rfl ?_
    refine ex_ialdx (pc := 130) i (nI (T.e i).bg) d_RF_judge_130 (Nat.le_of_ble_eq_true rfl) rfl rfl rfl (nI_t (by omega)) (show i < 40 by omega) hcb ?_
    refine ex_callV (pc := 131) (M' := M_RF_addFault) (as := [.int (nI 7), .int (nI (T.e i).bg)]) (st := []) d_RF_judge_131 MW_RF_addFault MI_RF_addFault LK_RF_188 (Nat.le_of_ble_eq_true rfl) rfl rfl rfl (ct_RF_addFault l G iv1 mp sp mo (nI 7) (nI (T.e i).bg) A.length hq.1.1 hlen) (ex_lt_rm (by decide)) ⟨Nat.le_refl _, Nat.le_refl _⟩ rfl rfl (Nat.le_of_ble_eq_true rfl) ?_
    rintro _ _ ⟨rfl, rfl⟩
    refine ex_vret d_RF_judge_134 rfl rfl (Nat.le_refl _) ?_
    refine hPP _ ?_
    rw [if_pos (b2i_0 c119)]
    exact fqR_add hq (by decide) hbg
set_option maxRecDepth 100000 in
set_option maxHeartbeats 4000000 in
theorem ct_RF_judge (l : Launch) (G : ex_G) (iv : Nat → Nat → Int32) (mp : Nat → Nat) (sp mo : Nat) (mn : Nat → Nat) (hmn : ∀ k, k < 9 → iv 99 k = nI (mn k) ∧ mn k ≤ 10) (a : Nat → Int32) (n : Nat) (hn : n ≤ 100) (T : TS) (B : List Nat) (hR : RepR iv T B) (hX : tX a T n) (i : Nat) (hi : i ≤ T.cn) (iv1 : Nat → Nat → Int32) (A : List Nat) (hq : FqR iv iv1 A) (hlen : A.length < 399) : CT l G 2 M_RF_judge [.ref 92, .int (nI i)] (HP iv1 mp sp mo) 0 0 (fun r h' => ∃ iv2, h' = HP iv2 mp sp mo ∧ r = none ∧ FqR iv iv2 (jq (prR iv T) (fbR iv T) (alR iv mn T) T.e i ++ A)) := by
  refine ex_enter (by decide) (Nat.le_of_ble_eq_true rfl) (fun v hv => by simp at hv; rcases hv with rfl | rfl <;> rfl) (fun p e s m args below meth c => ?_)
  have hcn : T.cn ≤ 33 := by have := hX.1.1; omega
  have hm9 : moR T i < 9 := moR_lt hX.1 hi
  have hc : ∀ q j, 93 ≤ q → q < 119 → iv1 q j = iv q j := fun q j h1 h2 => hq.2 q j (by omega) (by omega) (Or.inl (by omega))
  have h16 : iv1 92 16 = nI (T.cn + 1) := (hq.2 _ _ (by decide) (by decide) (Or.inr (by decide))).trans hR.1
  have hE := hR.2.1 i hi
  have hbg : (T.e i).bg ≤ 1000 := by
    by_cases z : i = 0
    · rw [z, hX.1.2.2.1.2.2.2.1]; omega
    · have := (hX.1.2.2.2.1 i (by omega) hi).2.2.1; omega
  have hcb : iv1 109 i = nI (T.e i).bg := (hc _ _ (by decide) (by decide)).trans hE.2.2.1
  have hik1 : iv1 114 i = (T.e i).ik := (hc _ _ (by decide) (by decide)).trans hE.2.2.2
  have hikN : ¬ (T.e i).ik = -1 → (T.e i).ik = nI (ikN (T.e i)) ∧ ikN (T.e i) ≤ 1000 := by
    intro z
    rcases hX.1.2.2.2.2.2.2 i hi with w | ⟨q, w1, w2⟩
    · exact absurd w z
    · unfold ikN
      rw [w2, nI_t (by omega)]
      exact ⟨rfl, by show q ≤ 1000; omega⟩
  have hneg := ik_neg (show n ≤ 1000 by omega) (hX.1.2.2.2.2.2.2 i hi)
  have hmo : (if i = 0 then nI 8 else iv1 107 i - nI 97) = nI (moR T i) := by
    by_cases z : i = 0
    · rw [if_pos z, z, moR_0 hX.1]
    · have hnm := (hX.1.2.2.2.1 i (by omega) hi).1
      rw [if_neg z, hc 107 i (by decide) (by decide), hE.1, nmS hnm]
      unfold moR
      rw [(row_nm hnm).1]
  refine ex_aload_n (pc := 0) (i := 0) d_RF_judge_0 rfl rfl ?_
  refine ex_iload_n (pc := 1) (i := 1) d_RF_judge_1 rfl rfl ?_
  refine ex_callV (pc := 2) (M' := M_RF_modelOf) (as := [.int (nI i)]) (st := []) d_RF_judge_2 MW_RF_modelOf MI_RF_modelOf LK_RF_225 (Nat.le_of_ble_eq_true rfl) rfl rfl rfl (ct_RF_modelOf l G iv1 mp sp mo i (by omega)) (ex_lt_rm (by decide)) ⟨Nat.le_refl _, Nat.le_refl _⟩ rfl rfl (Nat.le_of_ble_eq_true rfl) ?_
  rintro _ _ ⟨rfl, rfl⟩
  refine ex_top hmo ?_
  refine ex_istore_n (pc := 5) (i := 2) d_RF_judge_5 rfl (by decide) ?_
  refine ex_aload_n (pc := 6) (i := 0) d_RF_judge_6 rfl rfl ?_
  refine ex_getr (pc := 7) 12 2 d_RF_judge_7 FL_RF_13 (Nat.le_of_ble_eq_true rfl) rfl rfl ?_
  refine ex_iload_n (pc := 10) (i := 2) d_RF_judge_10 rfl rfl ?_
  refine ex_zaldx (pc := 11) (moR T i) (iv 94 (moR T i)) d_RF_judge_11 (Nat.le_of_ble_eq_true rfl) rfl rfl rfl (nI_t (by omega)) (show (moR T i) < 10 by omega) (hc _ _ (by decide) (by decide)) ?_
  refine ex_if_ne (pc := 12) (tgt := 31) d_RF_judge_12 rfl (fun c12 => ?_) (fun c12 => ?_)
  · refine ex_aload_n (pc := 31) (i := 0) d_RF_judge_31 rfl rfl ?_
    refine ex_getr (pc := 32) 12 3 d_RF_judge_32 FL_RF_17 (Nat.le_of_ble_eq_true rfl) rfl rfl ?_
    refine ex_iload_n (pc := 35) (i := 2) d_RF_judge_35 rfl rfl ?_
    refine ex_zaldx (pc := 36) (moR T i) (iv 95 (moR T i)) d_RF_judge_36 (Nat.le_of_ble_eq_true rfl) rfl rfl rfl (nI_t (by omega)) (show (moR T i) < 10 by omega) (hc _ _ (by decide) (by decide)) ?_
    refine ex_if_ne (pc := 37) (tgt := 61) d_RF_judge_37 rfl (fun c37 => ?_) (fun c37 => ?_)
    · have k1 : prR iv T i = true := decide_eq_true c12
      have k2 : fbR iv T i = false := by unfold fbR; rw [decide_eq_false c37, Bool.and_false]
      refine lt_RF_judge l G iv mp sp mo mn hmn a n hn T B hR hX i hi iv1 A hq (by omega) _ (fun iv2 h2 => ⟨iv2, rfl, rfl, ?_⟩) _ _
      unfold jq
      rw [k1, k2]
      simpa using h2
    · refine ex_aload_n (pc := 40) (i := 0) d_RF_judge_40 rfl rfl ?_
      refine ex_getr (pc := 41) 12 24 d_RF_judge_41 FL_RF_74 (Nat.le_of_ble_eq_true rfl) rfl rfl ?_
      refine ex_iload_n (pc := 44) (i := 1) d_RF_judge_44 rfl rfl ?_
      refine ex_ialdx (pc := 45) i (T.e i).ik d_RF_judge_45 (Nat.le_of_ble_eq_true rfl) rfl rfl rfl (nI_t (by omega)) (show i < 40 by omega) hik1 ?_
      refine ex_if_lt (pc := 46) (tgt := 61) d_RF_judge_46 rfl (fun c46 => ?_) (fun c46 => ?_)
      · have k1 : prR iv T i = true := decide_eq_true c12
        refine lt_RF_judge l G iv mp sp mo mn hmn a n hn T B hR hX i hi iv1 A hq (by omega) _ (fun iv2 h2 => ⟨iv2, rfl, rfl, ?_⟩) _ _
        unfold jq
        rw [k1]
        have k4 : (T.e i).ik = -1 := hneg.mp c46
        simpa [k4] using h2
      · refine ex_aload_n (pc := 49) (i := 0) d_RF_judge_49 rfl rfl ?_
        refine ex_bipush (pc := 50) (v := (nI 6)) d_RF_judge_50 (by decide) ?_
        refine ex_aload_n (pc := 52) (i := 0) d_RF_judge_52 rfl rfl ?_
        refine ex_getr (pc := 53) 12 24 d_RF_judge_53 FL_RF_74 (Nat.le_of_ble_eq_true rfl) rfl rfl ?_
        refine ex_iload_n (pc := 56) (i := 1) d_RF_judge_56 rfl rfl ?_
        refine ex_ialdx (pc := 57) i (T.e i).ik d_RF_judge_57 (Nat.le_of_ble_eq_true rfl) rfl rfl rfl (nI_t (by omega)) (show i < 40 by omega) hik1 ?_
        have hnk : ¬ (T.e i).ik = -1 := fun z => c46 (hneg.mpr z)
        refine ex_top (hikN hnk).1 ?_
        refine ex_callV (pc := 58) (M' := M_RF_addFault) (as := [.int (nI 6), .int (nI (ikN (T.e i)))]) (st := []) d_RF_judge_58 MW_RF_addFault MI_RF_addFault LK_RF_188 (Nat.le_of_ble_eq_true rfl) rfl rfl rfl (ct_RF_addFault l G iv1 mp sp mo (nI 6) (nI (ikN (T.e i))) A.length hq.1.1 (by omega)) (ex_lt_rm (by decide)) ⟨Nat.le_refl _, Nat.le_refl _⟩ rfl rfl (Nat.le_of_ble_eq_true rfl) ?_
        rintro _ _ ⟨rfl, rfl⟩
        have k1 : prR iv T i = true := decide_eq_true c12
        have k2 : fbR iv T i = true := by unfold fbR; rw [k1, decide_eq_true c37]; rfl
        refine lt_RF_judge l G iv mp sp mo mn hmn a n hn T B hR hX i hi _ _ (fqR_add hq (kd := 6) (by decide) (hikN hnk).2) (by rw [List.length_cons]; omega) _ (fun iv2 h2 => ⟨iv2, rfl, rfl, ?_⟩) _ _
        unfold jq
        rw [k1, k2]
        simpa [hnk] using h2
  · refine ex_iload_n (pc := 15) (i := 1) d_RF_judge_15 rfl rfl ?_
    refine ex_if_le (pc := 16) (tgt := 30) d_RF_judge_16 rfl (fun c16 => ?_) (fun c16 => ?_)
    · refine ex_vret d_RF_judge_30 rfl rfl (Nat.le_refl _) ?_
      have k1 : prR iv T i = false := decide_eq_false (fun z => z c12)
      have k2 : fbR iv T i = false := by unfold fbR; rw [k1]; rfl
      have k3 : i = 0 := by have := (n_ge (b := 0) (by omega) (by omega)).mp c16; omega
      refine ⟨iv1, rfl, rfl, ?_⟩
      unfold jq
      rw [k1, k2]
      simpa [k3] using hq
    · refine ex_aload_n (pc := 19) (i := 0) d_RF_judge_19 rfl rfl ?_
      refine ex_iconst (pc := 20) (v := (nI 5)) d_RF_judge_20 (by decide) ?_
      refine ex_aload_n (pc := 21) (i := 0) d_RF_judge_21 rfl rfl ?_
      refine ex_getr (pc := 22) 12 19 d_RF_judge_22 FL_RF_59 (Nat.le_of_ble_eq_true rfl) rfl rfl ?_
      refine ex_iload_n (pc := 25) (i := 1) d_RF_judge_25 rfl rfl ?_
      refine ex_ialdx (pc := 26) i (nI (T.e i).bg) d_RF_judge_26 (Nat.le_of_ble_eq_true rfl) rfl rfl rfl (nI_t (by omega)) (show i < 40 by omega) hcb ?_
      refine ex_callV (pc := 27) (M' := M_RF_addFault) (as := [.int (nI 5), .int (nI (T.e i).bg)]) (st := []) d_RF_judge_27 MW_RF_addFault MI_RF_addFault LK_RF_188 (Nat.le_of_ble_eq_true rfl) rfl rfl rfl (ct_RF_addFault l G iv1 mp sp mo (nI 5) (nI (T.e i).bg) A.length hq.1.1 (by omega)) (ex_lt_rm (by decide)) ⟨Nat.le_refl _, Nat.le_refl _⟩ rfl rfl (Nat.le_of_ble_eq_true rfl) ?_
      rintro _ _ ⟨rfl, rfl⟩
      refine ex_vret d_RF_judge_30 rfl rfl (Nat.le_refl _) ?_
      have k1 : prR iv T i = false := decide_eq_false (fun z => z c12)
      have k2 : fbR iv T i = false := by unfold fbR; rw [k1]; rfl
      have k3 : ¬ i = 0 := fun z => c16 (by rw [z]; decide)
      refine ⟨_, rfl, rfl, ?_⟩
      unfold jq
      rw [k1, k2]
      have h5 := fqR_add hq (kd := 5) (by decide) hbg
      simpa [k3] using h5

