/-! the reference analyses its text -/
theorem rcl_f {x : Int32} {q j : Nat} (h1 : q ≠ 115 ∧ q ≠ 112 ∧ q ≠ 110 ∧ q ≠ 119 ∧ q ≠ 120) (h2 : q ≠ 92 ∨ j ≠ 29) : ∀ k i (z : Nat × (Nat → Nat → Int32)), (rcl x k i z).2 q j = z.2 q j := by
  intro k
  induction k with
  | zero => intros; rfl
  | succ k ih =>
    intro i z
    rw [rcl, ih]
    split
    · rfl
    · show rfFlt (rfCls z.2 i x) z.1 (nI 4) (z.2 109 i) q j = _
      rw [rfFlt_o h1.2.2.2.1 h1.2.2.2.2 h2, rfCls_o (Or.inl ⟨h1.1, h1.2.1, h1.2.2.1⟩)]
theorem fr_mk {iv : Nat → Nat → Int32} {x y z : Nat} {v : Int32} : FrR iv (rfMk iv x y z v) := fun q j h1 _ => rfMk_o ⟨by omega, by omega, by omega⟩
theorem fr_fl {iv : Nat → Nat → Int32} {m : Nat} {k v : Int32} : FrR iv (rfFlt iv m k v) := fun q j h1 h2 => rfFlt_o (by omega) (by omega) (by omega)
theorem fr_st {iv : Nat → Nat → Int32} {cn p9 to : Nat} {c u : Int32} : FrR iv (rfSt iv cn p9 to c u) := fun q j h1 h2 => rfSt_c ⟨by omega, by omega, by omega⟩ (by omega) (by omega)
theorem fr_em {iv : Nat → Nat → Int32} {cn p9 to : Nat} {c u : Int32} : FrR iv (rfEm iv cn p9 to c u) := fun q j h1 h2 => by
  unfold rfEm
  rw [u2n (Or.inl (by omega)), u2n (Or.inl (by omega)), u2n (Or.inl (by omega))]
  exact fr_st q j h1 h2
theorem fr_en {iv : Nat → Nat → Int32} {cn x p9 nf : Nat} : FrR iv (rfEn iv cn x p9 nf) := fun q j h1 h2 => by
  unfold rfEn rfE4
  rw [rfMk_o ⟨by omega, by omega, by omega⟩, u2n (Or.inl (by omega)), u2n (Or.inl (by omega)), u2n (Or.inl (by omega)), u2n (Or.inl (by omega)), rcl_f ⟨by omega, by omega, by omega, by omega, by omega⟩ (by omega)]
  exact rfMk_o ⟨by omega, by omega, by omega⟩
theorem fr_ch {iv : Nat → Nat → Int32} {u nf p9 : Nat} {c : Int32} : FrR iv (rfCh iv u nf c p9) := fun q j h1 h2 => by
  have e1 : rfC1 iv nf c p9 q j = iv q j := by
    unfold rfC1
    split
    · exact fr_fl q j h1 h2
    · rfl
  unfold rfCh
  split
  · rw [u2n (Or.inl (by omega))]; exact e1
  · exact e1
theorem fr_fin {iv : Nat → Nat → Int32} {cn n nf : Nat} : FrR iv (rfFin iv cn n nf) := fun q j h1 h2 => by
  unfold rfFin
  rw [u2n (Or.inl (by omega)), u2n (Or.inl (by omega)), rcl_f ⟨by omega, by omega, by omega, by omega, by omega⟩ (by omega)]
theorem br_le {T : TS} {p9 : Nat} (h : tI T p9) : T.br.length ≤ T.cn := by
  have e1 := cnt_mem T.br T.cn (fun y hy => ⟨((h.2.2.2.2.1.2 y).mp hy).1, ((h.2.2.2.2.1.2 y).mp hy).2.1⟩) h.2.2.2.2.1.1
  have e2 := cnt_le (fun q => decide (q ∈ T.br)) T.cn 1 0
  omega
theorem B_le {iv : Nat → Nat → Int32} {T : TS} {p9 : Nat} {Bl : List Nat} (hR : RepR iv T Bl) (h : tI T p9) (hp : p9 ≤ 100) : Bl.length ≤ 133 ∧ T.cn ≤ 33 := by
  have e1 := hR.2.2.2.2.2.2.length_eq
  rw [List.length_append, List.length_map] at e1
  have e2 := br_le h
  have := h.1
  omega
def clT (iv : Nat → Nat → Int32) (i : Nat) : Nat → Nat → Int32 := va_up iv 116 (mkF (iv 116) 0 i (-1))
theorem clT_0 {iv : Nat → Nat → Int32} : iv = clT iv 0 := by
  funext q k
  unfold clT va_up mkF
  split
  · rename_i h
    rw [h]
    exact (if_neg (by omega)).symm
  · rfl
theorem clT_s {iv : Nat → Nat → Int32} {i : Nat} : ex_u2 (clT iv i) 116 i (-1) = clT iv (i + 1) := by
  funext q k
  unfold ex_u2 clT va_up mkF
  by_cases h : q = 116
  · subst h
    simp only [if_true, true_and]
    by_cases h2 : k = i
    · rw [if_pos h2, if_pos (by omega)]
    · rw [if_neg h2]
      by_cases h3 : 0 ≤ k ∧ k < i
      · rw [if_pos h3, if_pos (by omega)]
      · rw [if_neg h3, if_neg (by omega)]
  · rw [if_neg (fun z => h z.1), if_neg h, if_neg h]
def aI1 (iv : Nat → Nat → Int32) : Nat → Nat → Int32 := clT (ex_u2 (ex_u2 iv 92 16 (nI 0)) 92 29 (nI 0)) 101
def aI (iv : Nat → Nat → Int32) : Nat → Nat → Int32 := rfNew (aI1 iv) 0 (nI 46) (-1) (nI 0) (nI 0)
theorem aI1_o {iv : Nat → Nat → Int32} {q j : Nat} (h : q ≠ 116) : aI1 iv q j = ex_u2 (ex_u2 iv 92 16 (nI 0)) 92 29 (nI 0) q j := by
  unfold aI1 clT
  rw [va_up_ne _ _ h]
theorem aI_f {iv : Nat → Nat → Int32} : FrR iv (aI iv) := fun q j h1 h2 => by
  unfold aI
  rw [rfNew_o ⟨by omega, by omega⟩, aI1_o (by omega), u2n (by omega), u2n (by omega)]
theorem aI_r {iv : Nat → Nat → Int32} : RepR (aI iv) ts0 [] := by
  obtain ⟨v1, v2, v3, v4, v5, v6, v7, v8, v9, v10⟩ := rfNew_v (iv := aI1 iv) (m := 0) (k1 := nI 46) (k2 := -1) (k3 := nI 0) (k4 := nI 0)
  refine ⟨v10, fun i hi => ?_, fun i hi _ => ?_, fun i h1 h2 => ?_, ⟨fun k hk _ => ?_, fun t ht => absurd ht (Nat.not_lt_zero _)⟩, ⟨?_, fun i hi => absurd hi (Nat.not_lt_zero _), fun x hx => absurd hx List.not_mem_nil⟩, List.Perm.refl _⟩
  · have : i ≤ 0 := hi
    rw [show i = 0 by omega]
    exact ⟨v1, v2, v3, v8⟩
  · have : i ≤ 0 := hi
    rw [show i = 0 by omega]
    exact ⟨v9, v7, v4⟩
  · have : i ≤ 0 := h2
    omega
  · unfold aI
    rw [rfNew_o ⟨by omega, by omega⟩]
    unfold aI1 clT
    rw [va_up_self]
    unfold mkF
    rw [if_pos (by omega)]
  · unfold aI
    rw [rfNew_o ⟨by omega, by omega⟩, aI1_o (by decide)]
    exact u2s
set_option maxRecDepth 100000 in
set_option maxHeartbeats 4000000 in
theorem ls0_RF_analyse {p : Program} {e : Env} {s : State} {m : MethodId} {args : Array Value} {below : List Frame} {meth : Method} {c : Code} (l : Launch) (G : ex_G) (iv : Nat → Nat → Int32) (mp : Nat → Nat) (sp mo : Nat) (a : Nat → Int32) (n : Nat) (hA : TxR iv a n) (iv1 : Nat → Nat → Int32) (T : TS) (Bl : List Nat) (p9 : Nat) (hp : p9 < n) (hF : FrR iv iv1) (hR : RepR iv1 T Bl) (hX : tX a T p9) (hk : tKd a p9 = 0) (PP : Option Value → ex_H → Prop) (v2 v3 : Int32) (hK : ∀ iv2 B2 (u2 u3 u4 u5 u6 u7 : Option Value), FrR iv iv2 → RepR iv2 (tSp a T p9) B2 → EXM M_RF_analyse l G 3 PP p e s m args below meth c 43 [some (.ref 92), some (.int (nI (p9 + 1))), u2, u3, u4, u5, u6, u7] [] (HP iv2 mp sp mo)) : EXM M_RF_analyse l G 3 PP p e s m args below meth c 228 [some (.ref 92), some (.int (nI p9)), some (.int v2), some (.int v3), some (.int (nI 0)), some (.int (nI 0)), some (.int (nI 0)), some (.int (nI (p9 + 1)))] [] (HP iv1 mp sp mo) := by
  have hn := hA.1
  have hA1 := txR_fr hA hF
  obtain ⟨hbl, hcn⟩ := B_le hR hX.1 (by omega)
  have hto := tTo_le hA.2.2.2 hp
  have hsp : tSp a T p9 = tCh a T p9 := by
    unfold tSp
    rw [if_neg (show ¬ tKd a p9 = 1 by omega), if_neg (show ¬ tKd a p9 = 2 by omega), if_neg (show ¬ tKd a p9 = 3 by omega)]
  have hto2 : p9 + 1 ≤ n := by
    unfold tTo at hto
    rw [if_neg (show ¬ tKd a p9 = 1 by omega), if_neg (show ¬ tKd a p9 = 2 by omega), if_neg (show ¬ tKd a p9 = 3 by omega)] at hto
    exact hto
  refine ex_iload (pc := 228) d_RF_analyse_228 rfl ?_
  refine ex_iload_n (pc := 230) (i := 1) d_RF_analyse_230 rfl rfl ?_
  refine ex_iconst (pc := 231) (v := (nI 1)) d_RF_analyse_231 (by decide) ?_
  refine ex_iadd (pc := 232) d_RF_analyse_232 ?_
  refine ex_top (nI_add p9 1) ?_
  refine ex_icmp_le (pc := 233) (tgt := 244) d_RF_analyse_233 rfl (fun c233 => ?_) (fun c233 => ?_)
  · refine ex_iload (pc := 244) d_RF_analyse_244 rfl ?_
    refine ex_if_ne (pc := 246) (tgt := 254) d_RF_analyse_246 rfl (fun c246 => ?_) (fun c246 => ?_)
    · exact absurd rfl c246
    · refine ex_iload (pc := 249) d_RF_analyse_249 rfl ?_
      refine ex_if_eq (pc := 251) (tgt := 264) d_RF_analyse_251 rfl (fun c251 => ?_) (fun c251 => ?_)
      · refine ex_iload (pc := 264) d_RF_analyse_264 rfl ?_
        refine ex_if_eq (pc := 266) (tgt := 277) d_RF_analyse_266 rfl (fun c266 => ?_) (fun c266 => ?_)
        · refine ex_aload_n (pc := 277) (i := 0) d_RF_analyse_277 rfl rfl ?_
          refine ex_iload_n (pc := 278) (i := 1) d_RF_analyse_278 rfl rfl ?_
          refine ex_callV (pc := 279) (M' := M_RF_takeCharacter) (as := [.int (nI p9)]) (st := []) d_RF_analyse_279 MW_RF_takeCharacter MI_RF_takeCharacter LK_RF_219 (Nat.le_of_ble_eq_true rfl) rfl rfl rfl (ct_RF_takeCharacter l G iv1 mp sp mo a n hA1 p9 hp T Bl hR hX.1 (by omega)) (ex_lt_rm (by decide)) ⟨Nat.le_refl _, Nat.le_refl _⟩ rfl rfl (Nat.le_of_ble_eq_true rfl) ?_
          rintro _ h2 ⟨rfl, rfl⟩
          have hR2 := rr_ch (a := a) hR hX.1 (by omega)
          rw [← hsp] at hR2
          have hF2 : FrR iv1 (rfCh iv1 T.cur Bl.length (a p9) p9) := fr_ch
          refine ex_iload (pc := 282) d_RF_analyse_282 rfl ?_
          refine ex_istore_n (pc := 284) (i := 1) d_RF_analyse_284 rfl (by decide) ?_
          refine ex_goto (pc := 285) (tgt := 43) d_RF_analyse_285 rfl ?_
          exact hK _ _ _ _ _ _ _ _ (hF.t hF2) hR2
        · exact absurd rfl c266
      · exact absurd rfl c251
  · exact absurd ((n_ge (by omega) (by omega)).mpr (by omega)) c233
set_option maxRecDepth 100000 in
set_option maxHeartbeats 4000000 in
theorem ls1_RF_analyse {p : Program} {e : Env} {s : State} {m : MethodId} {args : Array Value} {below : List Frame} {meth : Method} {c : Code} (l : Launch) (G : ex_G) (iv : Nat → Nat → Int32) (mp : Nat → Nat) (sp mo : Nat) (a : Nat → Int32) (n : Nat) (hA : TxR iv a n) (iv1 : Nat → Nat → Int32) (T : TS) (Bl : List Nat) (p9 : Nat) (hp : p9 < n) (hF : FrR iv iv1) (hR : RepR iv1 T Bl) (hX : tX a T p9) (hk : tKd a p9 = 1) (PP : Option Value → ex_H → Prop) (v2 v3 : Int32) (hK : ∀ iv2 B2 (u2 u3 u4 u5 u6 u7 : Option Value), FrR iv iv2 → RepR iv2 (tSp a T p9) B2 → EXM M_RF_analyse l G 3 PP p e s m args below meth c 43 [some (.ref 92), some (.int (nI (p9 + 3))), u2, u3, u4, u5, u6, u7] [] (HP iv2 mp sp mo)) : EXM M_RF_analyse l G 3 PP p e s m args below meth c 228 [some (.ref 92), some (.int (nI p9)), some (.int v2), some (.int v3), some (.int (nI 1)), some (.int (nI 0)), some (.int (nI 0)), some (.int (nI (p9 + 3)))] [] (HP iv1 mp sp mo) := by
  have hn := hA.1
  have hA1 := txR_fr hA hF
  obtain ⟨hbl, hcn⟩ := B_le hR hX.1 (by omega)
  have hto := tTo_le hA.2.2.2 hp
  have hsp : tSp a T p9 = if T.stk.length < 8 then tSt a T p9 else tDp T p9 (p9 + 3) 2 := by
    unfold tSp
    rw [if_pos hk]
  have hto2 : p9 + 3 ≤ n := by
    unfold tTo at hto
    rw [if_pos hk] at hto
    exact hto
  have hAm : TxR (rfMk iv1 p9 (p9 + 3) (p9 + 3) (-1)) a n := txR_fr hA1 fr_mk
  have e115 : (rfMk iv1 p9 (p9 + 3) (p9 + 3) (-1)) 115 = iv1 115 := funext (fun z => rfMk_o (by decide))
  have e107 : (rfMk iv1 p9 (p9 + 3) (p9 + 3) (-1)) 107 = iv1 107 := funext (fun z => rfMk_o (by decide))
  have m16 : (rfMk iv1 p9 (p9 + 3) (p9 + 3) (-1)) 92 16 = nI (T.cn + 1) := (rfMk_o (by decide)).trans hR.1
  have m29 : (rfMk iv1 p9 (p9 + 3) (p9 + 3) (-1)) 92 29 = nI Bl.length := (rfMk_o (by decide)).trans hR.2.2.2.2.2.1.1
  refine ex_iload (pc := 228) d_RF_analyse_228 rfl ?_
  refine ex_iload_n (pc := 230) (i := 1) d_RF_analyse_230 rfl rfl ?_
  refine ex_iconst (pc := 231) (v := (nI 1)) d_RF_analyse_231 (by decide) ?_
  refine ex_iadd (pc := 232) d_RF_analyse_232 ?_
  refine ex_top (nI_add p9 1) ?_
  refine ex_icmp_le (pc := 233) (tgt := 244) d_RF_analyse_233 rfl (fun c233 => ?_) (fun c233 => ?_)
  · exact absurd ((n_ge (by omega) (by omega)).mp c233) (by omega)
  · refine ex_aload_n (pc := 236) (i := 0) d_RF_analyse_236 rfl rfl ?_
    refine ex_iload_n (pc := 237) (i := 1) d_RF_analyse_237 rfl rfl ?_
    refine ex_iload (pc := 238) d_RF_analyse_238 rfl ?_
    refine ex_iconst (pc := 240) (v := (-1)) d_RF_analyse_240 (by decide) ?_
    refine ex_callV (pc := 241) (M' := M_RF_mark) (as := [.int (nI p9), .int (nI (p9 + 3)), .int (-1)]) (st := []) d_RF_analyse_241 MW_RF_mark MI_RF_mark LK_RF_197 (Nat.le_of_ble_eq_true rfl) rfl rfl rfl (ct_RF_mark l G iv1 mp sp mo p9 (p9 + 3) (-1) (by omega) (by omega)) (ex_lt_rm (by decide)) ⟨Nat.le_refl _, Nat.le_refl _⟩ rfl rfl (Nat.le_of_ble_eq_true rfl) ?_
    rintro _ _ ⟨rfl, rfl⟩
    refine ex_iload (pc := 244) d_RF_analyse_244 rfl ?_
    refine ex_if_ne (pc := 246) (tgt := 254) d_RF_analyse_246 rfl (fun c246 => ?_) (fun c246 => ?_)
    · refine ex_aload_n (pc := 254) (i := 0) d_RF_analyse_254 rfl rfl ?_
      refine ex_iload_n (pc := 255) (i := 1) d_RF_analyse_255 rfl rfl ?_
      refine ex_iload (pc := 256) d_RF_analyse_256 rfl ?_
      refine ex_callV (pc := 258) (M' := M_RF_takeStart) (as := [.int (nI p9), .int (nI 0)]) (st := []) d_RF_analyse_258 MW_RF_takeStart MI_RF_takeStart LK_RF_212 (Nat.le_of_ble_eq_true rfl) rfl rfl rfl (ct_RF_takeStart3 l G (rfMk iv1 p9 (p9 + 3) (p9 + 3) (-1)) mp sp mo a n hAm p9 hp T.cn T.cur Bl.length T.stk.length m16 (by omega) m29 (by omega) (by rw [e115]; exact cur_a hR hX.1) (by rw [e115]; exact opn_n hR hX.1) (by have := hX.1.2.1.2.2; omega) hto2) (ex_lt_rm (by decide)) ⟨Nat.le_refl _, Nat.le_refl _⟩ rfl rfl (Nat.le_of_ble_eq_true rfl) ?_
      rintro _ h2 ⟨rfl, h8, h9⟩
      obtain ⟨iv2, B2, rfl, hR2, hF2⟩ : ∃ iv2 B2, h2 = HP iv2 mp sp mo ∧ RepR iv2 (tSp a T p9) B2 ∧ FrR iv1 iv2 := by
        rw [hsp]
        by_cases hl : T.stk.length < 8
        · rw [if_pos hl]
          exact ⟨_, Bl, h9 (by omega), rr_st hR hX.1 hX.2.1, fr_st⟩
        · rw [if_neg hl]
          exact ⟨_, _, h8 (by have := hX.1.2.1.2.2; omega), rr_dp hR hX.2.1 (by omega) (by decide), fr_mk.t fr_fl⟩
      refine ex_goto (pc := 261) (tgt := 282) d_RF_analyse_261 rfl ?_
      refine ex_iload (pc := 282) d_RF_analyse_282 rfl ?_
      refine ex_istore_n (pc := 284) (i := 1) d_RF_analyse_284 rfl (by decide) ?_
      refine ex_goto (pc := 285) (tgt := 43) d_RF_analyse_285 rfl ?_
      exact hK _ _ _ _ _ _ _ _ (hF.t hF2) hR2
    · exact absurd c246 (by decide)
set_option maxRecDepth 100000 in
set_option maxHeartbeats 4000000 in
theorem ls2_RF_analyse {p : Program} {e : Env} {s : State} {m : MethodId} {args : Array Value} {below : List Frame} {meth : Method} {c : Code} (l : Launch) (G : ex_G) (iv : Nat → Nat → Int32) (mp : Nat → Nat) (sp mo : Nat) (a : Nat → Int32) (n : Nat) (hA : TxR iv a n) (iv1 : Nat → Nat → Int32) (T : TS) (Bl : List Nat) (p9 : Nat) (hp : p9 < n) (hF : FrR iv iv1) (hR : RepR iv1 T Bl) (hX : tX a T p9) (hk : tKd a p9 = 2) (PP : Option Value → ex_H → Prop) (v2 v3 : Int32) (hK : ∀ iv2 B2 (u2 u3 u4 u5 u6 u7 : Option Value), FrR iv iv2 → RepR iv2 (tSp a T p9) B2 → EXM M_RF_analyse l G 3 PP p e s m args below meth c 43 [some (.ref 92), some (.int (nI (p9 + 4))), u2, u3, u4, u5, u6, u7] [] (HP iv2 mp sp mo)) : EXM M_RF_analyse l G 3 PP p e s m args below meth c 228 [some (.ref 92), some (.int (nI p9)), some (.int v2), some (.int v3), some (.int (nI 0)), some (.int (nI 1)), some (.int (nI 0)), some (.int (nI (p9 + 4)))] [] (HP iv1 mp sp mo) := by
  have hn := hA.1
  have hA1 := txR_fr hA hF
  obtain ⟨hbl, hcn⟩ := B_le hR hX.1 (by omega)
  have hto := tTo_le hA.2.2.2 hp
  have hsp : tSp a T p9 = if T.stk.length < 8 then tEm a T p9 else tDp T p9 (p9 + 4) 2 := by
    unfold tSp
    rw [if_neg (show ¬ tKd a p9 = 1 by omega), if_pos hk]
  have hto2 : p9 + 4 ≤ n := by
    unfold tTo at hto
    rw [if_neg (show ¬ tKd a p9 = 1 by omega), if_pos hk] at hto
    exact hto
  have hAm : TxR (rfMk iv1 p9 (p9 + 4) (p9 + 4) (-1)) a n := txR_fr hA1 fr_mk
  have e115 : (rfMk iv1 p9 (p9 + 4) (p9 + 4) (-1)) 115 = iv1 115 := funext (fun z => rfMk_o (by decide))
  have e107 : (rfMk iv1 p9 (p9 + 4) (p9 + 4) (-1)) 107 = iv1 107 := funext (fun z => rfMk_o (by decide))
  have m16 : (rfMk iv1 p9 (p9 + 4) (p9 + 4) (-1)) 92 16 = nI (T.cn + 1) := (rfMk_o (by decide)).trans hR.1
  have m29 : (rfMk iv1 p9 (p9 + 4) (p9 + 4) (-1)) 92 29 = nI Bl.length := (rfMk_o (by decide)).trans hR.2.2.2.2.2.1.1
  refine ex_iload (pc := 228) d_RF_analyse_228 rfl ?_
  refine ex_iload_n (pc := 230) (i := 1) d_RF_analyse_230 rfl rfl ?_
  refine ex_iconst (pc := 231) (v := (nI 1)) d_RF_analyse_231 (by decide) ?_
  refine ex_iadd (pc := 232) d_RF_analyse_232 ?_
  refine ex_top (nI_add p9 1) ?_
  refine ex_icmp_le (pc := 233) (tgt := 244) d_RF_analyse_233 rfl (fun c233 => ?_) (fun c233 => ?_)
  · exact absurd ((n_ge (by omega) (by omega)).mp c233) (by omega)
  · refine ex_aload_n (pc := 236) (i := 0) d_RF_analyse_236 rfl rfl ?_
    refine ex_iload_n (pc := 237) (i := 1) d_RF_analyse_237 rfl rfl ?_
    refine ex_iload (pc := 238) d_RF_analyse_238 rfl ?_
    refine ex_iconst (pc := 240) (v := (-1)) d_RF_analyse_240 (by decide) ?_
    refine ex_callV (pc := 241) (M' := M_RF_mark) (as := [.int (nI p9), .int (nI (p9 + 4)), .int (-1)]) (st := []) d_RF_analyse_241 MW_RF_mark MI_RF_mark LK_RF_197 (Nat.le_of_ble_eq_true rfl) rfl rfl rfl (ct_RF_mark l G iv1 mp sp mo p9 (p9 + 4) (-1) (by omega) (by omega)) (ex_lt_rm (by decide)) ⟨Nat.le_refl _, Nat.le_refl _⟩ rfl rfl (Nat.le_of_ble_eq_true rfl) ?_
    rintro _ _ ⟨rfl, rfl⟩
    refine ex_iload (pc := 244) d_RF_analyse_244 rfl ?_
    refine ex_if_ne (pc := 246) (tgt := 254) d_RF_analyse_246 rfl (fun c246 => ?_) (fun c246 => ?_)
    · exact absurd rfl c246
    · refine ex_iload (pc := 249) d_RF_analyse_249 rfl ?_
      refine ex_if_eq (pc := 251) (tgt := 264) d_RF_analyse_251 rfl (fun c251 => ?_) (fun c251 => ?_)
      · exact absurd c251 (by decide)
      · refine ex_aload_n (pc := 254) (i := 0) d_RF_analyse_254 rfl rfl ?_
        refine ex_iload_n (pc := 255) (i := 1) d_RF_analyse_255 rfl rfl ?_
        refine ex_iload (pc := 256) d_RF_analyse_256 rfl ?_
        refine ex_callV (pc := 258) (M' := M_RF_takeStart) (as := [.int (nI p9), .int (nI 1)]) (st := []) d_RF_analyse_258 MW_RF_takeStart MI_RF_takeStart LK_RF_212 (Nat.le_of_ble_eq_true rfl) rfl rfl rfl (ct_RF_takeStart4 l G (rfMk iv1 p9 (p9 + 4) (p9 + 4) (-1)) mp sp mo a n hAm p9 hp T.cn T.cur Bl.length T.stk.length m16 (by omega) m29 (by omega) (by rw [e115]; exact cur_a hR hX.1) (by rw [e115]; exact opn_n hR hX.1) (by have := hX.1.2.1.2.2; omega) hto2) (ex_lt_rm (by decide)) ⟨Nat.le_refl _, Nat.le_refl _⟩ rfl rfl (Nat.le_of_ble_eq_true rfl) ?_
        rintro _ h2 ⟨rfl, h8, h9⟩
        obtain ⟨iv2, B2, rfl, hR2, hF2⟩ : ∃ iv2 B2, h2 = HP iv2 mp sp mo ∧ RepR iv2 (tSp a T p9) B2 ∧ FrR iv1 iv2 := by
          rw [hsp]
          by_cases hl : T.stk.length < 8
          · rw [if_pos hl]
            exact ⟨_, Bl, h9 (by omega), rr_em hR hX.1 hX.2.1, fr_em⟩
          · rw [if_neg hl]
            exact ⟨_, _, h8 (by have := hX.1.2.1.2.2; omega), rr_dp hR hX.2.1 (by omega) (by decide), fr_mk.t fr_fl⟩
        refine ex_goto (pc := 261) (tgt := 282) d_RF_analyse_261 rfl ?_
        refine ex_iload (pc := 282) d_RF_analyse_282 rfl ?_
        refine ex_istore_n (pc := 284) (i := 1) d_RF_analyse_284 rfl (by decide) ?_
        refine ex_goto (pc := 285) (tgt := 43) d_RF_analyse_285 rfl ?_
        exact hK _ _ _ _ _ _ _ _ (hF.t hF2) hR2
set_option maxRecDepth 100000 in
set_option maxHeartbeats 4000000 in
theorem ls3_RF_analyse {p : Program} {e : Env} {s : State} {m : MethodId} {args : Array Value} {below : List Frame} {meth : Method} {c : Code} (l : Launch) (G : ex_G) (iv : Nat → Nat → Int32) (mp : Nat → Nat) (sp mo : Nat) (a : Nat → Int32) (n : Nat) (hA : TxR iv a n) (iv1 : Nat → Nat → Int32) (T : TS) (Bl : List Nat) (p9 : Nat) (hp : p9 < n) (hF : FrR iv iv1) (hR : RepR iv1 T Bl) (hX : tX a T p9) (hk : tKd a p9 = 3) (PP : Option Value → ex_H → Prop) (v2 v3 : Int32) (hK : ∀ iv2 B2 (u2 u3 u4 u5 u6 u7 : Option Value), FrR iv iv2 → RepR iv2 (tSp a T p9) B2 → EXM M_RF_analyse l G 3 PP p e s m args below meth c 43 [some (.ref 92), some (.int (nI (p9 + 4))), u2, u3, u4, u5, u6, u7] [] (HP iv2 mp sp mo)) : EXM M_RF_analyse l G 3 PP p e s m args below meth c 228 [some (.ref 92), some (.int (nI p9)), some (.int v2), some (.int v3), some (.int (nI 0)), some (.int (nI 0)), some (.int (nI 1)), some (.int (nI (p9 + 4)))] [] (HP iv1 mp sp mo) := by
  have hn := hA.1
  have hA1 := txR_fr hA hF
  obtain ⟨hbl, hcn⟩ := B_le hR hX.1 (by omega)
  have hto := tTo_le hA.2.2.2 hp
  have hsp : tSp a T p9 = if (spl T.e (a (p9 + 2)) T.stk).2.1 = 0 then tDp T p9 (p9 + 4) 3 else tEn T p9 (spl T.e (a (p9 + 2)) T.stk).1 (spl T.e (a (p9 + 2)) T.stk).2.1 (spl T.e (a (p9 + 2)) T.stk).2.2 := by
    unfold tSp
    rw [if_neg (show ¬ tKd a p9 = 1 by omega), if_neg (show ¬ tKd a p9 = 2 by omega), if_pos hk]
  have hto2 : p9 + 4 ≤ n := by
    unfold tTo at hto
    rw [if_neg (show ¬ tKd a p9 = 1 by omega), if_neg (show ¬ tKd a p9 = 2 by omega), if_pos hk] at hto
    exact hto
  have hAm : TxR (rfMk iv1 p9 (p9 + 4) (p9 + 4) (-1)) a n := txR_fr hA1 fr_mk
  have e115 : (rfMk iv1 p9 (p9 + 4) (p9 + 4) (-1)) 115 = iv1 115 := funext (fun z => rfMk_o (by decide))
  have e107 : (rfMk iv1 p9 (p9 + 4) (p9 + 4) (-1)) 107 = iv1 107 := funext (fun z => rfMk_o (by decide))
  have m16 : (rfMk iv1 p9 (p9 + 4) (p9 + 4) (-1)) 92 16 = nI (T.cn + 1) := (rfMk_o (by decide)).trans hR.1
  have m29 : (rfMk iv1 p9 (p9 + 4) (p9 + 4) (-1)) 92 29 = nI Bl.length := (rfMk_o (by decide)).trans hR.2.2.2.2.2.1.1
  refine ex_iload (pc := 228) d_RF_analyse_228 rfl ?_
  refine ex_iload_n (pc := 230) (i := 1) d_RF_analyse_230 rfl rfl ?_
  refine ex_iconst (pc := 231) (v := (nI 1)) d_RF_analyse_231 (by decide) ?_
  refine ex_iadd (pc := 232) d_RF_analyse_232 ?_
  refine ex_top (nI_add p9 1) ?_
  refine ex_icmp_le (pc := 233) (tgt := 244) d_RF_analyse_233 rfl (fun c233 => ?_) (fun c233 => ?_)
  · exact absurd ((n_ge (by omega) (by omega)).mp c233) (by omega)
  · refine ex_aload_n (pc := 236) (i := 0) d_RF_analyse_236 rfl rfl ?_
    refine ex_iload_n (pc := 237) (i := 1) d_RF_analyse_237 rfl rfl ?_
    refine ex_iload (pc := 238) d_RF_analyse_238 rfl ?_
    refine ex_iconst (pc := 240) (v := (-1)) d_RF_analyse_240 (by decide) ?_
    refine ex_callV (pc := 241) (M' := M_RF_mark) (as := [.int (nI p9), .int (nI (p9 + 4)), .int (-1)]) (st := []) d_RF_analyse_241 MW_RF_mark MI_RF_mark LK_RF_197 (Nat.le_of_ble_eq_true rfl) rfl rfl rfl (ct_RF_mark l G iv1 mp sp mo p9 (p9 + 4) (-1) (by omega) (by omega)) (ex_lt_rm (by decide)) ⟨Nat.le_refl _, Nat.le_refl _⟩ rfl rfl (Nat.le_of_ble_eq_true rfl) ?_
    rintro _ _ ⟨rfl, rfl⟩
    refine ex_iload (pc := 244) d_RF_analyse_244 rfl ?_
    refine ex_if_ne (pc := 246) (tgt := 254) d_RF_analyse_246 rfl (fun c246 => ?_) (fun c246 => ?_)
    · exact absurd rfl c246
    · refine ex_iload (pc := 249) d_RF_analyse_249 rfl ?_
      refine ex_if_eq (pc := 251) (tgt := 264) d_RF_analyse_251 rfl (fun c251 => ?_) (fun c251 => ?_)
      · refine ex_iload (pc := 264) d_RF_analyse_264 rfl ?_
        refine ex_if_eq (pc := 266) (tgt := 277) d_RF_analyse_266 rfl (fun c266 => ?_) (fun c266 => ?_)
        · exact absurd c266 (by decide)
        · refine ex_aload_n (pc := 269) (i := 0) d_RF_analyse_269 rfl rfl ?_
          refine ex_iload_n (pc := 270) (i := 1) d_RF_analyse_270 rfl rfl ?_
          refine ex_callV (pc := 271) (M' := M_RF_takeEnd) (as := [.int (nI p9)]) (st := []) d_RF_analyse_271 MW_RF_takeEnd MI_RF_takeEnd LK_RF_216 (Nat.le_of_ble_eq_true rfl) rfl rfl rfl (ct_RF_takeEnd l G (rfMk iv1 p9 (p9 + 4) (p9 + 4) (-1)) mp sp mo a n hAm p9 hp T.cn Bl.length m16 (by omega) m29 (by omega) hto2) (ex_lt_rm (by decide)) ⟨Nat.le_refl _, Nat.le_refl _⟩ rfl rfl (Nat.le_of_ble_eq_true rfl) ?_
          rintro _ h2 ⟨rfl, h8, h9⟩
          rw [e115, e107, seek_a hR hX.1] at h8 h9
          obtain ⟨iv2, B2, rfl, hR2, hF2⟩ : ∃ iv2 B2, h2 = HP iv2 mp sp mo ∧ RepR iv2 (tSp a T p9) B2 ∧ FrR iv1 iv2 := by
            rw [hsp]
            by_cases h0 : (spl T.e (a (p9 + 2)) T.stk).2.1 = 0
            · rw [if_pos h0]
              exact ⟨_, _, h8 h0, rr_dp hR hX.2.1 (by omega) (by decide), fr_mk.t fr_fl⟩
            · rw [if_neg h0]
              obtain ⟨B2, hr, _, _⟩ := rr_en hR hX.1 hX.2.1 (by omega) ((spl_x T.e (a (p9 + 2)) T.stk (chn_pos _ hX.1.2.1.1)).1 h0).1
              exact ⟨_, B2, h9 h0, hr, fr_en⟩
          refine ex_goto (pc := 274) (tgt := 282) d_RF_analyse_274 rfl ?_
          refine ex_iload (pc := 282) d_RF_analyse_282 rfl ?_
          refine ex_istore_n (pc := 284) (i := 1) d_RF_analyse_284 rfl (by decide) ?_
          refine ex_goto (pc := 285) (tgt := 43) d_RF_analyse_285 rfl ?_
          exact hK _ _ _ _ _ _ _ _ (hF.t hF2) hR2
      · exact absurd rfl c251
