theorem rdIt_gt {d : Nat → Int32} {p9 L m : Nat} {P : Nat → Pt} {fo nm : Nat → Int32} {f g : Int32} {eB : Bool} : p9 < (rdIt d p9 L m P fo nm f g eB).1 := by
  unfold rdIt
  dsimp only
  split <;> omega
theorem rdIt_le {d : Nat → Int32} {p9 L m : Nat} {P : Nat → Pt} {fo nm : Nat → Int32} {f g : Int32} {eB : Bool} : (rdIt d p9 L m P fo nm f g eB).1 ≤ p9 + 2 := by
  unfold rdIt
  dsimp only
  split <;> omega
set_option maxRecDepth 100000 in
set_option maxHeartbeats 4000000 in
theorem le_RF_readExpression {p : Program} {e : Env} {s : State} {m : MethodId} {args : Array Value} {below : List Frame} {meth : Method} {c : Code} (l : Launch) (G : ex_G) (iv : Nat → Nat → Int32) (mp : Nat → Nat) (sp mo : Nat) (n : Nat) (f : Nat → Int32) (hd : DrR iv n f) (fr : Int32) (R : RS) (hL : R.lv ≤ 6) (p9 : Nat) (hp9 : n ≤ p9) (hp8 : p9 ≤ 1000) (u5 u6 u7 u8 u9 u10 : Option Value) : EXM M_RF_readExpression l G 2 (fun r h' => h' = HP (rxE iv R) mp sp mo ∧ r = none) p e s m args below meth c 60 [some (.ref 92), some (.int fr), some (.int (nI R.lv)), some (.int (nI R.n)), some (.int (nI p9)), u5, u6, u7, u8, u9, u10] [] (HP (rxI iv R) mp sp mo) := by
  have hn40 := hd.1
  refine ex_iload (pc := 60) d_RF_readExpression_60 rfl ?_
  refine ex_aload_n (pc := 62) (i := 0) d_RF_readExpression_62 rfl rfl ?_
  refine ex_getx (pc := 63) 12 0 (nI n) d_RF_readExpression_63 FL_RF_119 (Nat.le_of_ble_eq_true rfl) rfl (dr_rx (R := R) hd).2.1 ?_
  refine ex_icmp_ge (pc := 66) (tgt := 312) d_RF_readExpression_66 rfl (fun c66 => ?_) (fun c66 => ?_)
  · refine ex_aload_n (pc := 312) (i := 0) d_RF_readExpression_312 rfl rfl ?_
    refine ex_iconst (pc := 313) (v := (nI 0)) d_RF_readExpression_313 (by decide) ?_
    refine ex_callV (pc := 314) (M' := M_RF_choose) (as := [.int (nI 0)]) (st := []) d_RF_readExpression_314 MW_RF_choose MI_RF_choose LK_RF_139 (Nat.le_of_ble_eq_true rfl) rfl rfl rfl (ct_RF_choose l G iv mp sp mo R 0 (by omega)) (ex_lt_rm (by decide)) ⟨Nat.le_refl _, Nat.le_refl _⟩ rfl rfl (Nat.le_of_ble_eq_true rfl) ?_
    rintro _ _ ⟨rfl, rfl⟩
    refine ex_aload_n (pc := 317) (i := 0) d_RF_readExpression_317 rfl rfl ?_
    refine ex_getr (pc := 318) 12 7 d_RF_readExpression_318 FL_RF_29 (Nat.le_of_ble_eq_true rfl) rfl rfl ?_
    refine ex_bipush (pc := 321) (v := (nI 9)) d_RF_readExpression_321 (by decide) ?_
    refine ex_iload_n (pc := 323) (i := 3) d_RF_readExpression_323 rfl rfl ?_
    refine ex_iast (pc := 324) 9 d_RF_readExpression_324 (Nat.le_of_ble_eq_true rfl) rfl rfl rfl (nI_t (by omega)) (show 9 < 10 by omega) ?_
    refine ex_aload_n (pc := 325) (i := 0) d_RF_readExpression_325 rfl rfl ?_
    refine ex_getr (pc := 326) 12 4 d_RF_readExpression_326 FL_RF_20 (Nat.le_of_ble_eq_true rfl) rfl rfl ?_
    refine ex_bipush (pc := 329) (v := (nI 9)) d_RF_readExpression_329 (by decide) ?_
    refine ex_aload_n (pc := 331) (i := 0) d_RF_readExpression_331 rfl rfl ?_
    refine ex_getr (pc := 332) 12 11 d_RF_readExpression_332 FL_RF_41 (Nat.le_of_ble_eq_true rfl) rfl rfl ?_
    refine ex_iconst (pc := 335) (v := (nI 0)) d_RF_readExpression_335 (by decide) ?_
    refine ex_ialdx (pc := 336) 0 (chPs R.P 0 0).2.1 d_RF_readExpression_336 (Nat.le_of_ble_eq_true rfl) rfl rfl rfl (nI_t (by omega)) (show 0 < 14 by omega) (show ex_u2 (rxI iv (R.lv, R.n, chPs R.P 0, R.fo, R.nm)) 99 9 (nI R.n) 103 0 = (chPs R.P 0 0).2.1 from (u2n (Or.inl (by decide))).trans (rx_fi (by decide))) ?_
    refine ex_iast (pc := 337) 9 d_RF_readExpression_337 (Nat.le_of_ble_eq_true rfl) rfl rfl rfl (nI_t (by omega)) (show 9 < 10 by omega) ?_
    refine ex_aload_n (pc := 338) (i := 0) d_RF_readExpression_338 rfl rfl ?_
    refine ex_getr (pc := 339) 12 5 d_RF_readExpression_339 FL_RF_23 (Nat.le_of_ble_eq_true rfl) rfl rfl ?_
    refine ex_bipush (pc := 342) (v := (nI 9)) d_RF_readExpression_342 (by decide) ?_
    refine ex_aload_n (pc := 344) (i := 0) d_RF_readExpression_344 rfl rfl ?_
    refine ex_getr (pc := 345) 12 12 d_RF_readExpression_345 FL_RF_44 (Nat.le_of_ble_eq_true rfl) rfl rfl ?_
    refine ex_iconst (pc := 348) (v := (nI 0)) d_RF_readExpression_348 (by decide) ?_
    refine ex_ialdx (pc := 349) 0 (chPs R.P 0 0).2.2.1 d_RF_readExpression_349 (Nat.le_of_ble_eq_true rfl) rfl rfl rfl (nI_t (by omega)) (show 0 < 14 by omega) (show ex_u2 (ex_u2 (rxI iv (R.lv, R.n, chPs R.P 0, R.fo, R.nm)) 99 9 (nI R.n)) 96 9 (chPs R.P 0 0).2.1 104 0 = (chPs R.P 0 0).2.2.1 from (u2n (Or.inl (by decide))).trans ((u2n (Or.inl (by decide))).trans (rx_la (by decide)))) ?_
    refine ex_iast (pc := 350) 9 d_RF_readExpression_350 (Nat.le_of_ble_eq_true rfl) rfl rfl rfl (nI_t (by omega)) (show 9 < 10 by omega) ?_
    refine ex_aload_n (pc := 351) (i := 0) d_RF_readExpression_351 rfl rfl ?_
    refine ex_getr (pc := 352) 12 6 d_RF_readExpression_352 FL_RF_26 (Nat.le_of_ble_eq_true rfl) rfl rfl ?_
    refine ex_bipush (pc := 355) (v := (nI 9)) d_RF_readExpression_355 (by decide) ?_
    refine ex_aload_n (pc := 357) (i := 0) d_RF_readExpression_357 rfl rfl ?_
    refine ex_getr (pc := 358) 12 13 d_RF_readExpression_358 FL_RF_47 (Nat.le_of_ble_eq_true rfl) rfl rfl ?_
    refine ex_iconst (pc := 361) (v := (nI 0)) d_RF_readExpression_361 (by decide) ?_
    refine ex_zaldx (pc := 362) 0 (b2i (chPs R.P 0 0).2.2.2) d_RF_readExpression_362 (Nat.le_of_ble_eq_true rfl) rfl rfl rfl (nI_t (by omega)) (show 0 < 14 by omega) (show ex_u2 (ex_u2 (ex_u2 (rxI iv (R.lv, R.n, chPs R.P 0, R.fo, R.nm)) 99 9 (nI R.n)) 96 9 (chPs R.P 0 0).2.1) 97 9 (chPs R.P 0 0).2.2.1 105 0 = b2i (chPs R.P 0 0).2.2.2 from (u2n (Or.inl (by decide))).trans ((u2n (Or.inl (by decide))).trans ((u2n (Or.inl (by decide))).trans (rx_em (by decide))))) ?_
    refine ex_zast (pc := 363) 9 d_RF_readExpression_363 (Nat.le_of_ble_eq_true rfl) rfl rfl rfl (nI_t (by omega)) (show 9 < 10 by omega) ?_
    refine ex_heap (congrArg (fun z => HP (ex_u2 (ex_u2 (ex_u2 (ex_u2 (rxI iv (R.lv, R.n, chPs R.P 0, R.fo, R.nm)) 99 9 (nI R.n)) 96 9 (chPs R.P 0 0).2.1) 97 9 (chPs R.P 0 0).2.2.1) 98 9 z) mp sp mo) (vp_b (chPs R.P 0 0).2.2.2)) ?_
    refine ex_vret d_RF_readExpression_364 rfl rfl (Nat.le_refl _) ?_
    exact ⟨rfl, rfl⟩
  · exact absurd ((n_ge (by omega) (by omega)).mpr (by omega)) c66
set_option maxRecDepth 100000 in
set_option maxHeartbeats 4000000 in
theorem lp_RF_readExpression {p : Program} {e : Env} {s : State} {m : MethodId} {args : Array Value} {below : List Frame} {meth : Method} {c : Code} (l : Launch) (G : ex_G) (iv : Nat → Nat → Int32) (mp : Nat → Nat) (sp mo : Nat) (n : Nat) (f : Nat → Int32) (hd : DrR iv n f) (fr : Int32) (RE : RS) : ∀ (k p9 : Nat) (R : RS) (u5 u6 u7 u8 u9 u10 : Option Value), n ≤ p9 + k → R.lv ≤ 6 → p9 ≤ 1000 → rdn (dCh f n) n k p9 R = some RE → EXM M_RF_readExpression l G 2 (fun r h' => h' = HP (rxE iv RE) mp sp mo ∧ r = none) p e s m args below meth c 60 [some (.ref 92), some (.int fr), some (.int (nI R.lv)), some (.int (nI R.n)), some (.int (nI p9)), u5, u6, u7, u8, u9, u10] [] (HP (rxI iv R) mp sp mo) := by
  intro k
  induction k with
  | zero =>
    intro p9 R u5 u6 u7 u8 u9 u10 hpk hL hp8 hv
    have hv2 : R = RE := Option.some.inj hv
    subst hv2
    exact le_RF_readExpression l G iv mp sp mo n f hd fr R hL p9 (by omega) hp8 u5 u6 u7 u8 u9 u10
  | succ k ih =>
    intro p9 R u5 u6 u7 u8 u9 u10 hpk hL hp8 hv
    have hn40 := hd.1
    by_cases hpn : n ≤ p9
    case pos =>
      have hv2 : R = RE := by
        rw [rdn, if_neg (by omega)] at hv
        exact Option.some.inj hv
      subst hv2
      exact le_RF_readExpression l G iv mp sp mo n f hd fr R hL p9 hpn hp8 u5 u6 u7 u8 u9 u10
    refine ex_iload (pc := 60) d_RF_readExpression_60 rfl ?_
    refine ex_aload_n (pc := 62) (i := 0) d_RF_readExpression_62 rfl rfl ?_
    refine ex_getx (pc := 63) 12 0 (nI n) d_RF_readExpression_63 FL_RF_119 (Nat.le_of_ble_eq_true rfl) rfl (dr_rx (R := R) hd).2.1 ?_
    refine ex_icmp_ge (pc := 66) (tgt := 312) d_RF_readExpression_66 rfl (fun c66 => ?_) (fun c66 => ?_)
    · exact absurd ((n_ge (by omega) (by omega)).mp c66) (by omega)
    · refine ex_aload_n (pc := 69) (i := 0) d_RF_readExpression_69 rfl rfl ?_
      refine ex_iload (pc := 70) d_RF_readExpression_70 rfl ?_
      refine ex_callV (pc := 72) (M' := M_RF_at) (as := [.int (nI p9)]) (st := []) d_RF_readExpression_72 MW_RF_at MI_RF_at LK_RF_123 (Nat.le_of_ble_eq_true rfl) rfl rfl rfl (ct_RF_at l G (rxI iv R) mp sp mo (nI p9) (nI_0t (by omega)) (dr_b (dr_rx hd))) (ex_lt_rm (by decide)) ⟨Nat.le_refl _, Nat.le_refl _⟩ rfl rfl (Nat.le_of_ble_eq_true rfl) ?_
      rintro _ _ ⟨rfl, rfl⟩
      refine ex_top (dr_at (dr_rx hd) (show p9 < n by omega)) ?_
      refine ex_istore (pc := 75) d_RF_readExpression_75 (by decide) ?_
      refine ex_iload (pc := 77) d_RF_readExpression_77 rfl ?_
      refine ex_bipush (pc := 79) (v := (nI 40)) d_RF_readExpression_79 (by decide) ?_
      refine ex_icmp_ne (pc := 81) (tgt := 114) d_RF_readExpression_81 rfl (fun c81 => ?_) (fun c81 => ?_)
      · refine ex_iload (pc := 114) d_RF_readExpression_114 rfl ?_
        refine ex_bipush (pc := 116) (v := (nI 124)) d_RF_readExpression_116 (by decide) ?_
        refine ex_icmp_ne (pc := 118) (tgt := 129) d_RF_readExpression_118 rfl (fun c118 => ?_) (fun c118 => ?_)
        · refine ex_iload (pc := 129) d_RF_readExpression_129 rfl ?_
          refine ex_bipush (pc := 131) (v := (nI 44)) d_RF_readExpression_131 (by decide) ?_
          refine ex_icmp_eq (pc := 133) (tgt := 306) d_RF_readExpression_133 rfl (fun c133 => ?_) (fun c133 => ?_)
          · refine ex_iinc (pc := 306) (v := (nI (p9 + 1))) d_RF_readExpression_306 rfl (nI_1 p9) (by decide) ?_
            refine ex_goto (pc := 309) (tgt := 60) d_RF_readExpression_309 rfl ?_
            rw [rdn, if_pos (show p9 < n by omega)] at hv
            unfold rdS at hv
            rw [if_neg c81, if_neg c118, if_pos c133] at hv
            exact ih (p9 + 1) R _ _ _ _ _ _ (by omega) hL (by omega) hv
          · refine ex_iconst (pc := 136) (v := (nI 1)) d_RF_readExpression_136 (by decide) ?_
            refine ex_iload_n (pc := 137) (i := 3) d_RF_readExpression_137 rfl rfl ?_
            refine ex_ishl (pc := 138) d_RF_readExpression_138 ?_
            refine ex_istore (pc := 139) d_RF_readExpression_139 (by decide) ?_
            refine ex_iload (pc := 141) d_RF_readExpression_141 rfl ?_
            refine ex_istore (pc := 143) d_RF_readExpression_143 (by decide) ?_
            refine ex_iconst (pc := 145) (v := (nI 0)) d_RF_readExpression_145 (by decide) ?_
            refine ex_istore (pc := 146) d_RF_readExpression_146 (by decide) ?_
            refine ex_iload (pc := 148) d_RF_readExpression_148 rfl ?_
            refine ex_bipush (pc := 150) (v := (nI 41)) d_RF_readExpression_150 (by decide) ?_
            refine ex_icmp_ne (pc := 152) (tgt := 196) d_RF_readExpression_152 rfl (fun c152 => ?_) (fun c152 => ?_)
            · have hn10 : R.n < 10 := by
                refine Classical.byContradiction (fun hz => ?_)
                rw [rdn, if_pos (show p9 < n by omega)] at hv
                unfold rdS at hv
                rw [if_neg c81, if_neg c118, if_neg c133, if_neg c152, if_neg hz] at hv
                cases hv
              refine ex_aload_n (pc := 196) (i := 0) d_RF_readExpression_196 rfl rfl ?_
              refine ex_getr (pc := 197) 12 8 d_RF_readExpression_197 FL_RF_32 (Nat.le_of_ble_eq_true rfl) rfl rfl ?_
              refine ex_bipush (pc := 200) (v := (nI 90)) d_RF_readExpression_200 (by decide) ?_
              refine ex_iload_n (pc := 202) (i := 3) d_RF_readExpression_202 rfl rfl ?_
              refine ex_iadd (pc := 203) d_RF_readExpression_203 ?_
              refine ex_top (nI_add 90 R.n) ?_
              refine ex_iload (pc := 204) d_RF_readExpression_204 rfl ?_
              refine ex_iast (pc := 206) (90 + R.n) d_RF_readExpression_206 (Nat.le_of_ble_eq_true rfl) rfl rfl rfl (nI_t (by omega)) (show 90 + R.n < 100 by omega) ?_
              refine ex_heap (congrArg (fun z => HP z mp sp mo) (rxW_nm hn10 _)) ?_
              refine ex_iinc (pc := 207) (v := (nI (R.n + 1))) d_RF_readExpression_207 rfl (nI_1 R.n) (by decide) ?_
              rw [rdn, if_pos (show p9 < n by omega)] at hv
              unfold rdS at hv
              rw [if_neg c81, if_neg c118, if_neg c133, if_neg c152, if_pos hn10] at hv
              have g1 : p9 < (rdIt (dCh f n) p9 R.lv (R.n + 1) R.P R.fo (va_up R.nm R.n (dCh f n p9)) (nI 1 <<< (nI R.n &&& 31)) (nI 1 <<< (nI R.n &&& 31)) false).1 := rdIt_gt
              have g2 : (rdIt (dCh f n) p9 R.lv (R.n + 1) R.P R.fo (va_up R.nm R.n (dCh f n p9)) (nI 1 <<< (nI R.n &&& 31)) (nI 1 <<< (nI R.n &&& 31)) false).1 ≤ p9 + 2 := rdIt_le
              exact lt_RF_readExpression l G iv mp sp mo n f hd fr RE (R.lv, R.n + 1, R.P, R.fo, va_up R.nm R.n (dCh f n p9)) hL p9 (by omega) (dCh f n p9) (nI 1 <<< (nI R.n &&& 31)) (nI 1 <<< (nI R.n &&& 31)) false _ _ (fun v5 v6 v7 v8 v9 v10 => ih (rdIt (dCh f n) p9 R.lv (R.n + 1) R.P R.fo (va_up R.nm R.n (dCh f n p9)) (nI 1 <<< (nI R.n &&& 31)) (nI 1 <<< (nI R.n &&& 31)) false).1 (rdIt (dCh f n) p9 R.lv (R.n + 1) R.P R.fo (va_up R.nm R.n (dCh f n p9)) (nI 1 <<< (nI R.n &&& 31)) (nI 1 <<< (nI R.n &&& 31)) false).2 v5 v6 v7 v8 v9 v10 (by omega) hL (by omega) hv)
            · have hL0 : ¬ R.lv = 0 := by
                intro hz
                rw [rdn, if_pos (show p9 < n by omega)] at hv
                unfold rdS at hv
                rw [if_neg c81, if_neg c118, if_neg c133, if_pos c152, if_pos hz] at hv
                cases hv
              refine ex_aload_n (pc := 155) (i := 0) d_RF_readExpression_155 rfl rfl ?_
              refine ex_iload_n (pc := 156) (i := 2) d_RF_readExpression_156 rfl rfl ?_
              refine ex_callV (pc := 157) (M' := M_RF_choose) (as := [.int (nI R.lv)]) (st := []) d_RF_readExpression_157 MW_RF_choose MI_RF_choose LK_RF_139 (Nat.le_of_ble_eq_true rfl) rfl rfl rfl (ct_RF_choose l G iv mp sp mo R R.lv hL) (ex_lt_rm (by decide)) ⟨Nat.le_refl _, Nat.le_refl _⟩ rfl rfl (Nat.le_of_ble_eq_true rfl) ?_
              rintro _ _ ⟨rfl, rfl⟩
              refine ex_aload_n (pc := 160) (i := 0) d_RF_readExpression_160 rfl rfl ?_
              refine ex_getr (pc := 161) 12 11 d_RF_readExpression_161 FL_RF_41 (Nat.le_of_ble_eq_true rfl) rfl rfl ?_
              refine ex_iconst (pc := 164) (v := (nI 2)) d_RF_readExpression_164 (by decide) ?_
              refine ex_iload_n (pc := 165) (i := 2) d_RF_readExpression_165 rfl rfl ?_
              refine ex_imul (pc := 166) d_RF_readExpression_166 ?_
              refine ex_top (nI_mul 2 R.lv) ?_
              refine ex_ialdx (pc := 167) (2 * R.lv) (chPs R.P R.lv (2 * R.lv)).2.1 d_RF_readExpression_167 (Nat.le_of_ble_eq_true rfl) rfl rfl rfl (nI_t (by omega)) (show 2 * R.lv < 14 by omega) (rx_fi (by omega)) ?_
              refine ex_istore (pc := 168) d_RF_readExpression_168 (by decide) ?_
              refine ex_aload_n (pc := 170) (i := 0) d_RF_readExpression_170 rfl rfl ?_
              refine ex_getr (pc := 171) 12 12 d_RF_readExpression_171 FL_RF_44 (Nat.le_of_ble_eq_true rfl) rfl rfl ?_
              refine ex_iconst (pc := 174) (v := (nI 2)) d_RF_readExpression_174 (by decide) ?_
              refine ex_iload_n (pc := 175) (i := 2) d_RF_readExpression_175 rfl rfl ?_
              refine ex_imul (pc := 176) d_RF_readExpression_176 ?_
              refine ex_top (nI_mul 2 R.lv) ?_
              refine ex_ialdx (pc := 177) (2 * R.lv) (chPs R.P R.lv (2 * R.lv)).2.2.1 d_RF_readExpression_177 (Nat.le_of_ble_eq_true rfl) rfl rfl rfl (nI_t (by omega)) (show 2 * R.lv < 14 by omega) (rx_la (by omega)) ?_
              refine ex_istore (pc := 178) d_RF_readExpression_178 (by decide) ?_
              refine ex_aload_n (pc := 180) (i := 0) d_RF_readExpression_180 rfl rfl ?_
              refine ex_getr (pc := 181) 12 13 d_RF_readExpression_181 FL_RF_47 (Nat.le_of_ble_eq_true rfl) rfl rfl ?_
              refine ex_iconst (pc := 184) (v := (nI 2)) d_RF_readExpression_184 (by decide) ?_
              refine ex_iload_n (pc := 185) (i := 2) d_RF_readExpression_185 rfl rfl ?_
              refine ex_imul (pc := 186) d_RF_readExpression_186 ?_
              refine ex_top (nI_mul 2 R.lv) ?_
              refine ex_zaldx (pc := 187) (2 * R.lv) (b2i (chPs R.P R.lv (2 * R.lv)).2.2.2) d_RF_readExpression_187 (Nat.le_of_ble_eq_true rfl) rfl rfl rfl (nI_t (by omega)) (show 2 * R.lv < 14 by omega) (rx_em (by omega)) ?_
              refine ex_istore (pc := 188) d_RF_readExpression_188 (by decide) ?_
              refine ex_iinc (pc := 190) (v := (nI (R.lv - 1))) d_RF_readExpression_190 rfl (lv_dn (by omega) (by omega)) (by decide) ?_
              refine ex_goto (pc := 193) (tgt := 210) d_RF_readExpression_193 rfl ?_
              rw [rdn, if_pos (show p9 < n by omega)] at hv
              unfold rdS at hv
              rw [if_neg c81, if_neg c118, if_neg c133, if_pos c152, if_neg hL0] at hv
              have hL1 : R.lv - 1 ≤ 6 := by omega
              have g1 : p9 < (rdIt (dCh f n) p9 (R.lv - 1) R.n (chPs R.P R.lv) R.fo R.nm (chPs R.P R.lv (2 * R.lv)).2.1 (chPs R.P R.lv (2 * R.lv)).2.2.1 (chPs R.P R.lv (2 * R.lv)).2.2.2).1 := rdIt_gt
              have g2 : (rdIt (dCh f n) p9 (R.lv - 1) R.n (chPs R.P R.lv) R.fo R.nm (chPs R.P R.lv (2 * R.lv)).2.1 (chPs R.P R.lv (2 * R.lv)).2.2.1 (chPs R.P R.lv (2 * R.lv)).2.2.2).1 ≤ p9 + 2 := rdIt_le
              exact lt_RF_readExpression l G iv mp sp mo n f hd fr RE (R.lv - 1, R.n, chPs R.P R.lv, R.fo, R.nm) hL1 p9 (by omega) (dCh f n p9) (chPs R.P R.lv (2 * R.lv)).2.1 (chPs R.P R.lv (2 * R.lv)).2.2.1 (chPs R.P R.lv (2 * R.lv)).2.2.2 _ _ (fun v5 v6 v7 v8 v9 v10 => ih (rdIt (dCh f n) p9 (R.lv - 1) R.n (chPs R.P R.lv) R.fo R.nm (chPs R.P R.lv (2 * R.lv)).2.1 (chPs R.P R.lv (2 * R.lv)).2.2.1 (chPs R.P R.lv (2 * R.lv)).2.2.2).1 (rdIt (dCh f n) p9 (R.lv - 1) R.n (chPs R.P R.lv) R.fo R.nm (chPs R.P R.lv (2 * R.lv)).2.1 (chPs R.P R.lv (2 * R.lv)).2.2.1 (chPs R.P R.lv (2 * R.lv)).2.2.2).2 v5 v6 v7 v8 v9 v10 (by omega) hL1 (by omega) hv)
        · refine ex_aload_n (pc := 121) (i := 0) d_RF_readExpression_121 rfl rfl ?_
          refine ex_iload_n (pc := 122) (i := 2) d_RF_readExpression_122 rfl rfl ?_
          refine ex_callV (pc := 123) (M' := M_RF_choose) (as := [.int (nI R.lv)]) (st := []) d_RF_readExpression_123 MW_RF_choose MI_RF_choose LK_RF_139 (Nat.le_of_ble_eq_true rfl) rfl rfl rfl (ct_RF_choose l G iv mp sp mo R R.lv hL) (ex_lt_rm (by decide)) ⟨Nat.le_refl _, Nat.le_refl _⟩ rfl rfl (Nat.le_of_ble_eq_true rfl) ?_
          rintro _ _ ⟨rfl, rfl⟩
          refine ex_goto (pc := 126) (tgt := 306) d_RF_readExpression_126 rfl ?_
          refine ex_iinc (pc := 306) (v := (nI (p9 + 1))) d_RF_readExpression_306 rfl (nI_1 p9) (by decide) ?_
          refine ex_goto (pc := 309) (tgt := 60) d_RF_readExpression_309 rfl ?_
          rw [rdn, if_pos (show p9 < n by omega)] at hv
          unfold rdS at hv
          rw [if_neg c81, if_pos c118] at hv
          exact ih (p9 + 1) (R.lv, R.n, chPs R.P R.lv, R.fo, R.nm) _ _ _ _ _ _ (by omega) hL (by omega) hv
      · have hL6 : R.lv < 6 := by
          refine Classical.byContradiction (fun hz => ?_)
          rw [rdn, if_pos (show p9 < n by omega)] at hv
          unfold rdS at hv
          rw [if_pos c81, if_neg hz] at hv
          cases hv
        refine ex_iinc (pc := 84) (v := (nI (R.lv + 1))) d_RF_readExpression_84 rfl (nI_1 R.lv) (by decide) ?_
        refine ex_aload_n (pc := 87) (i := 0) d_RF_readExpression_87 rfl rfl ?_
        refine ex_iconst (pc := 88) (v := (nI 2)) d_RF_readExpression_88 (by decide) ?_
        refine ex_iload_n (pc := 89) (i := 2) d_RF_readExpression_89 rfl rfl ?_
        refine ex_imul (pc := 90) d_RF_readExpression_90 ?_
        refine ex_top (nI_mul 2 (R.lv + 1)) ?_
        refine ex_iconst (pc := 91) (v := (nI 0)) d_RF_readExpression_91 (by decide) ?_
        refine ex_iconst (pc := 92) (v := (nI 0)) d_RF_readExpression_92 (by decide) ?_
        refine ex_iconst (pc := 93) (v := (nI 0)) d_RF_readExpression_93 (by decide) ?_
        refine ex_iconst (pc := 94) (v := (nI 0)) d_RF_readExpression_94 (by decide) ?_
        refine ex_callV (pc := 95) (M' := M_RF_setPart) (as := [.int (nI (2 * (R.lv + 1))), .int (nI 0), .int (nI 0), .int (nI 0), .int (nI 0)]) (st := []) d_RF_readExpression_95 MW_RF_setPart MI_RF_setPart LK_RF_131 (Nat.le_of_ble_eq_true rfl) rfl rfl rfl (ct_RF_setPart l G (rxI iv R) mp sp mo (2 * (R.lv + 1)) (by omega) false (nI 0) (nI 0) false) (ex_lt_rm (by decide)) ⟨Nat.le_refl _, Nat.le_refl _⟩ rfl rfl (Nat.le_of_ble_eq_true rfl) ?_
        rintro _ _ ⟨rfl, rfl⟩
        refine ex_heap (congrArg (fun z => HP z mp sp mo) (rxW_set (by omega) _ _ _ _)) ?_
        refine ex_aload_n (pc := 98) (i := 0) d_RF_readExpression_98 rfl rfl ?_
        refine ex_iconst (pc := 99) (v := (nI 2)) d_RF_readExpression_99 (by decide) ?_
        refine ex_iload_n (pc := 100) (i := 2) d_RF_readExpression_100 rfl rfl ?_
        refine ex_imul (pc := 101) d_RF_readExpression_101 ?_
        refine ex_top (nI_mul 2 (R.lv + 1)) ?_
        refine ex_iconst (pc := 102) (v := (nI 1)) d_RF_readExpression_102 (by decide) ?_
        refine ex_iadd (pc := 103) d_RF_readExpression_103 ?_
        refine ex_top (nI_s (2 * (R.lv + 1))) ?_
        refine ex_iconst (pc := 104) (v := (nI 0)) d_RF_readExpression_104 (by decide) ?_
        refine ex_iconst (pc := 105) (v := (nI 0)) d_RF_readExpression_105 (by decide) ?_
        refine ex_iconst (pc := 106) (v := (nI 0)) d_RF_readExpression_106 (by decide) ?_
        refine ex_iconst (pc := 107) (v := (nI 0)) d_RF_readExpression_107 (by decide) ?_
        refine ex_callV (pc := 108) (M' := M_RF_setPart) (as := [.int (nI (2 * (R.lv + 1) + 1)), .int (nI 0), .int (nI 0), .int (nI 0), .int (nI 0)]) (st := []) d_RF_readExpression_108 MW_RF_setPart MI_RF_setPart LK_RF_131 (Nat.le_of_ble_eq_true rfl) rfl rfl rfl (ct_RF_setPart l G _ mp sp mo (2 * (R.lv + 1) + 1) (by omega) false (nI 0) (nI 0) false) (ex_lt_rm (by decide)) ⟨Nat.le_refl _, Nat.le_refl _⟩ rfl rfl (Nat.le_of_ble_eq_true rfl) ?_
        rintro _ _ ⟨rfl, rfl⟩
        refine ex_heap (congrArg (fun z => HP z mp sp mo) (rxW_set (by omega) _ _ _ _)) ?_
        refine ex_goto (pc := 111) (tgt := 306) d_RF_readExpression_111 rfl ?_
        refine ex_iinc (pc := 306) (v := (nI (p9 + 1))) d_RF_readExpression_306 rfl (nI_1 p9) (by decide) ?_
        refine ex_goto (pc := 309) (tgt := 60) d_RF_readExpression_309 rfl ?_
        rw [rdn, if_pos (show p9 < n by omega)] at hv
        unfold rdS at hv
        rw [if_pos c81, if_pos hL6] at hv
        exact ih (p9 + 1) (R.lv + 1, R.n, va_up (va_up R.P (2 * (R.lv + 1)) pt0) (2 * (R.lv + 1) + 1) pt0, R.fo, R.nm) _ _ _ _ _ _ (by omega) (show R.lv + 1 ≤ 6 by omega) (by omega) hv

theorem rc1_0 {iv : Nat → Nat → Int32} : iv = rc1 iv 0 := by
  funext q k
  unfold rc1
  rw [if_neg (by omega)]
theorem rc2_0 {iv : Nat → Nat → Int32} : iv = rc2 iv 0 := by
  funext q k
  unfold rc2
  rw [if_neg (by omega)]
set_option maxRecDepth 100000 in
set_option maxHeartbeats 4000000 in
theorem lq1_RF_readExpression {p : Program} {e : Env} {s : State} {m : MethodId} {args : Array Value} {below : List Frame} {meth : Method} {c : Code} (l : Launch) (G : ex_G) (iv : Nat → Nat → Int32) (mp : Nat → Nat) (sp mo : Nat) (fr : Int32) (PP : Option Value → ex_H → Prop) (u5 u6 u7 u8 u9 u10 : Option Value) (hK : EXM M_RF_readExpression l G 2 PP p e s m args below meth c 31 [some (.ref 92), some (.int fr), some (.int (nI 0)), some (.int (nI 0)), some (.int (nI 10)), u5, u6, u7, u8, u9, u10] [] (HP (rc1 iv 10) mp sp mo)) : ∀ (k i : Nat), i + k = 10 → EXM M_RF_readExpression l G 2 (fun r h' => PP r h') p e s m args below meth c 7 [some (.ref 92), some (.int fr), some (.int (nI 0)), some (.int (nI 0)), some (.int (nI i)), u5, u6, u7, u8, u9, u10] [] (HP (rc1 iv i) mp sp mo) := by
  intro k
  induction k with
  | zero =>
    intro i hik
    have hi : i = 10 := by omega
    subst hi
    refine ex_iload (pc := 7) d_RF_readExpression_7 rfl ?_
    refine ex_bipush (pc := 9) (v := (nI 10)) d_RF_readExpression_9 (by decide) ?_
    refine ex_icmp_ge (pc := 11) (tgt := 31) d_RF_readExpression_11 rfl (fun c11 => ?_) (fun c11 => ?_)
    · exact hK
    · exact absurd ((n_ge (by omega) (by omega)).mpr (by omega)) c11
  | succ k ih =>
    intro i hik
    refine ex_iload (pc := 7) d_RF_readExpression_7 rfl ?_
    refine ex_bipush (pc := 9) (v := (nI 10)) d_RF_readExpression_9 (by decide) ?_
    refine ex_icmp_ge (pc := 11) (tgt := 31) d_RF_readExpression_11 rfl (fun c11 => ?_) (fun c11 => ?_)
    · exact absurd ((n_ge (by omega) (by omega)).mp c11) (by omega)
    · refine ex_aload_n (pc := 14) (i := 0) d_RF_readExpression_14 rfl rfl ?_
      refine ex_getr (pc := 15) 12 9 d_RF_readExpression_15 FL_RF_35 (Nat.le_of_ble_eq_true rfl) rfl rfl ?_
      refine ex_bipush (pc := 18) (v := (nI 90)) d_RF_readExpression_18 (by decide) ?_
      refine ex_iload (pc := 20) d_RF_readExpression_20 rfl ?_
      refine ex_iadd (pc := 22) d_RF_readExpression_22 ?_
      refine ex_top (nI_add 90 i) ?_
      refine ex_iconst (pc := 23) (v := (nI 0)) d_RF_readExpression_23 (by decide) ?_
      refine ex_iast (pc := 24) (90 + i) d_RF_readExpression_24 (Nat.le_of_ble_eq_true rfl) rfl rfl rfl (nI_t (by omega)) (show 90 + i < 100 by omega) ?_
      refine ex_heap (congrArg (fun z => HP z mp sp mo) rc1_s) ?_
      refine ex_iinc (pc := 25) (v := (nI (i + 1))) d_RF_readExpression_25 rfl (nI_1 i) (by decide) ?_
      refine ex_goto (pc := 28) (tgt := 7) d_RF_readExpression_28 rfl ?_
      exact ih (i + 1) (by omega)

set_option maxRecDepth 100000 in
set_option maxHeartbeats 4000000 in
theorem lq2_RF_readExpression {p : Program} {e : Env} {s : State} {m : MethodId} {args : Array Value} {below : List Frame} {meth : Method} {c : Code} (l : Launch) (G : ex_G) (iv : Nat → Nat → Int32) (mp : Nat → Nat) (sp mo : Nat) (fr : Int32) (PP : Option Value → ex_H → Prop) (u5 u6 u7 u8 u9 u10 : Option Value) (hK : EXM M_RF_readExpression l G 2 PP p e s m args below meth c 57 [some (.ref 92), some (.int fr), some (.int (nI 0)), some (.int (nI 0)), some (.int (nI 14)), u5, u6, u7, u8, u9, u10] [] (HP (rc2 iv 14) mp sp mo)) : ∀ (k i : Nat), i + k = 14 → EXM M_RF_readExpression l G 2 (fun r h' => PP r h') p e s m args below meth c 34 [some (.ref 92), some (.int fr), some (.int (nI 0)), some (.int (nI 0)), some (.int (nI i)), u5, u6, u7, u8, u9, u10] [] (HP (rc2 iv i) mp sp mo) := by
  intro k
  induction k with
  | zero =>
    intro i hik
    have hi : i = 14 := by omega
    subst hi
    refine ex_iload (pc := 34) d_RF_readExpression_34 rfl ?_
    refine ex_bipush (pc := 36) (v := (nI 14)) d_RF_readExpression_36 (by decide) ?_
    refine ex_icmp_ge (pc := 38) (tgt := 57) d_RF_readExpression_38 rfl (fun c38 => ?_) (fun c38 => ?_)
    · exact hK
    · exact absurd ((n_ge (by omega) (by omega)).mpr (by omega)) c38
  | succ k ih =>
    intro i hik
    refine ex_iload (pc := 34) d_RF_readExpression_34 rfl ?_
    refine ex_bipush (pc := 36) (v := (nI 14)) d_RF_readExpression_36 (by decide) ?_
    refine ex_icmp_ge (pc := 38) (tgt := 57) d_RF_readExpression_38 rfl (fun c38 => ?_) (fun c38 => ?_)
    · exact absurd ((n_ge (by omega) (by omega)).mp c38) (by omega)
    · refine ex_aload_n (pc := 41) (i := 0) d_RF_readExpression_41 rfl rfl ?_
      refine ex_iload (pc := 42) d_RF_readExpression_42 rfl ?_
      refine ex_iconst (pc := 44) (v := (nI 0)) d_RF_readExpression_44 (by decide) ?_
      refine ex_iconst (pc := 45) (v := (nI 0)) d_RF_readExpression_45 (by decide) ?_
      refine ex_iconst (pc := 46) (v := (nI 0)) d_RF_readExpression_46 (by decide) ?_
      refine ex_iconst (pc := 47) (v := (nI 0)) d_RF_readExpression_47 (by decide) ?_
      refine ex_callV (pc := 48) (M' := M_RF_setPart) (as := [.int (nI i), .int (nI 0), .int (nI 0), .int (nI 0), .int (nI 0)]) (st := []) d_RF_readExpression_48 MW_RF_setPart MI_RF_setPart LK_RF_131 (Nat.le_of_ble_eq_true rfl) rfl rfl rfl (ct_RF_setPart l G (rc2 iv i) mp sp mo i (by omega) false (nI 0) (nI 0) false) (ex_lt_rm (by decide)) ⟨Nat.le_refl _, Nat.le_refl _⟩ rfl rfl (Nat.le_of_ble_eq_true rfl) ?_
      rintro _ _ ⟨rfl, rfl⟩
      refine ex_heap (congrArg (fun z => HP z mp sp mo) rc2_s) ?_
      refine ex_iinc (pc := 51) (v := (nI (i + 1))) d_RF_readExpression_51 rfl (nI_1 i) (by decide) ?_
      refine ex_goto (pc := 54) (tgt := 34) d_RF_readExpression_54 rfl ?_
      exact ih (i + 1) (by omega)

set_option maxRecDepth 100000 in
set_option maxHeartbeats 4000000 in
theorem ct_RF_readExpression (l : Launch) (G : ex_G) (iv : Nat → Nat → Int32) (mp : Nat → Nat) (sp mo : Nat) (n : Nat) (f : Nat → Int32) (hd : DrR iv n f) (fr : Nat) (hfr : fr ≤ n) (RE : RS) (hRE : rdP (dCh f n) n fr (rx0 iv) = some RE) : CT l G 2 M_RF_readExpression [.ref 92, .int (nI fr)] (HP iv mp sp mo) 0 0 (fun r h' => h' = HP (rxE iv RE) mp sp mo ∧ r = none) := by
  refine ex_enter (by decide) (Nat.le_of_ble_eq_true rfl) (fun v hv => by simp at hv; rcases hv with rfl | rfl <;> rfl) (fun p e s m args below meth c => ?_)
  refine ex_iconst (pc := 0) (v := (nI 0)) d_RF_readExpression_0 (by decide) ?_
  refine ex_istore_n (pc := 1) (i := 2) d_RF_readExpression_1 rfl (by decide) ?_
  refine ex_iconst (pc := 2) (v := (nI 0)) d_RF_readExpression_2 (by decide) ?_
  refine ex_istore_n (pc := 3) (i := 3) d_RF_readExpression_3 rfl (by decide) ?_
  refine ex_iconst (pc := 4) (v := (nI 0)) d_RF_readExpression_4 (by decide) ?_
  refine ex_istore (pc := 5) d_RF_readExpression_5 (by decide) ?_
  refine ex_heap (congrArg (fun z => HP z mp sp mo) rc1_0) ?_
  refine lq1_RF_readExpression l G iv mp sp mo (nI fr) _ _ _ _ _ _ _ ?_ 10 0 (by omega)
  refine ex_iconst (pc := 31) (v := (nI 0)) d_RF_readExpression_31 (by decide) ?_
  refine ex_istore (pc := 32) d_RF_readExpression_32 (by decide) ?_
  refine ex_heap (congrArg (fun z => HP z mp sp mo) rc2_0) ?_
  refine lq2_RF_readExpression l G (rc1 iv 10) mp sp mo (nI fr) _ _ _ _ _ _ _ ?_ 14 0 (by omega)
  refine ex_iload_n (pc := 57) (i := 1) d_RF_readExpression_57 rfl rfl ?_
  refine ex_istore (pc := 58) d_RF_readExpression_58 (by decide) ?_
  refine ex_heap (congrArg (fun z => HP z mp sp mo) rc_rx) ?_
  exact lp_RF_readExpression l G iv mp sp mo n f hd (nI fr) RE (n - fr) fr (rx0 iv) _ _ _ _ _ _ (by omega) (Nat.zero_le _) (by have := hd.1; omega) hRE

