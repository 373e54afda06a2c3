set_option maxRecDepth 100000 in
set_option maxHeartbeats 4000000 in
theorem lp_RF_analyse {p : Program} {e : Env} {s : State} {m : MethodId} {args : Array Value} {below : List Frame} {meth : Method} {c : Code} (l : Launch) (G : ex_G) (iv : Nat → Nat → Int32) (mp : Nat → Nat) (sp mo : Nat) (a : Nat → Int32) (n : Nat) (hA : TxR iv a n) (TE : TS) (PP : Option Value → ex_H → Prop) (hE : ∀ (iv1 : Nat → Nat → Int32) (Bl : List Nat) (u2 u3 u4 u5 u6 u7 : Option Value), FrR iv iv1 → RepR iv1 TE Bl → tX a TE n → EXM M_RF_analyse l G 3 PP p e s m args below meth c 288 [some (.ref 92), some (.int (nI n)), u2, u3, u4, u5, u6, u7] [] (HP iv1 mp sp mo)) : ∀ (k p9 : Nat) (T : TS) (Bl : List Nat) (iv1 : Nat → Nat → Int32) (u2 u3 u4 u5 u6 u7 : Option Value), p9 ≤ n → n ≤ p9 + k → FrR iv iv1 → RepR iv1 T Bl → tX a T p9 → tRn a n k p9 T = TE → EXM M_RF_analyse l G 3 (fun r h' => PP r h') p e s m args below meth c 43 [some (.ref 92), some (.int (nI p9)), u2, u3, u4, u5, u6, u7] [] (HP iv1 mp sp mo) := by
  intro k
  induction k with
  | zero =>
    intro p9 T Bl iv1 u2 u3 u4 u5 u6 u7 h1 h2 hF hR hX hv
    have hn := hA.1
    have hA1 := txR_fr hA hF
    have hpn : p9 = n := by omega
    subst hpn
    have hv2 : T = TE := hv
    subst hv2
    refine ex_iload_n (pc := 43) (i := 1) d_RF_analyse_43 rfl rfl ?_
    refine ex_aload_n (pc := 44) (i := 0) d_RF_analyse_44 rfl rfl ?_
    refine ex_getx (pc := 45) 12 14 (nI p9) d_RF_analyse_45 FL_RF_179 (Nat.le_of_ble_eq_true rfl) rfl hA1.2.1 ?_
    refine ex_icmp_ge (pc := 48) (tgt := 288) d_RF_analyse_48 rfl (fun c48 => ?_) (fun c48 => ?_)
    · exact hE iv1 Bl _ _ _ _ _ _ hF hR hX
    · exact absurd ((n_ge (by omega) (by omega)).mpr (by omega)) c48
  | succ k ih =>
    intro p9 T Bl iv1 u2 u3 u4 u5 u6 u7 h1 h2 hF hR hX hv
    have hn := hA.1
    have hA1 := txR_fr hA hF
    rw [tRn] at hv
    by_cases hp : p9 < n
    case neg =>
      have hpn : p9 = n := by omega
      subst hpn
      rw [if_neg hp] at hv
      subst hv
      refine ex_iload_n (pc := 43) (i := 1) d_RF_analyse_43 rfl rfl ?_
      refine ex_aload_n (pc := 44) (i := 0) d_RF_analyse_44 rfl rfl ?_
      refine ex_getx (pc := 45) 12 14 (nI p9) d_RF_analyse_45 FL_RF_179 (Nat.le_of_ble_eq_true rfl) rfl hA1.2.1 ?_
      refine ex_icmp_ge (pc := 48) (tgt := 288) d_RF_analyse_48 rfl (fun c48 => ?_) (fun c48 => absurd ((n_ge (by omega) (by omega)).mpr (Nat.le_refl _)) c48)
      exact hE iv1 Bl _ _ _ _ _ _ hF hR hX
    refine ex_iload_n (pc := 43) (i := 1) d_RF_analyse_43 rfl rfl ?_
    refine ex_aload_n (pc := 44) (i := 0) d_RF_analyse_44 rfl rfl ?_
    refine ex_getx (pc := 45) 12 14 (nI n) d_RF_analyse_45 FL_RF_179 (Nat.le_of_ble_eq_true rfl) rfl hA1.2.1 ?_
    refine ex_icmp_ge (pc := 48) (tgt := 288) d_RF_analyse_48 rfl (fun c48 => ?_) (fun c48 => ?_)
    · exact absurd ((n_ge (by omega) (by omega)).mp c48) (by omega)
    · refine ex_aload_n (pc := 51) (i := 0) d_RF_analyse_51 rfl rfl ?_
      refine ex_iload_n (pc := 52) (i := 1) d_RF_analyse_52 rfl rfl ?_
      refine ex_callV (pc := 53) (M' := M_RF_charAt) (as := [.int (nI p9)]) (st := []) d_RF_analyse_53 MW_RF_charAt MI_RF_charAt LK_RF_191 (Nat.le_of_ble_eq_true rfl) rfl rfl rfl (ct_RF_charAt l G iv1 mp sp mo (nI p9) (tx_b hA1)) (ex_lt_rm (by decide)) ⟨Nat.le_refl _, Nat.le_refl _⟩ rfl rfl (Nat.le_of_ble_eq_true rfl) ?_
      rintro _ _ ⟨rfl, rfl⟩
      refine ex_bipush (pc := 56) (v := (nI 60)) d_RF_analyse_56 (by decide) ?_
      refine ex_icmp_ne (pc := 58) (tgt := 65) d_RF_analyse_58 rfl (fun c58 => ?_) (fun c58 => ?_)
      · refine ex_iconst (pc := 65) (v := (nI 0)) d_RF_analyse_65 (by decide) ?_
        refine ex_istore_n (pc := 66) (i := 2) d_RF_analyse_66 rfl (by decide) ?_
        refine ex_iload_n (pc := 67) (i := 2) d_RF_analyse_67 rfl rfl ?_
        refine ex_if_eq (pc := 68) (tgt := 88) d_RF_analyse_68 rfl (fun c68 => ?_) (fun c68 => ?_)
        · refine ex_iconst (pc := 88) (v := (nI 0)) d_RF_analyse_88 (by decide) ?_
          refine ex_istore_n (pc := 89) (i := 3) d_RF_analyse_89 rfl (by decide) ?_
          refine ex_iload_n (pc := 90) (i := 3) d_RF_analyse_90 rfl rfl ?_
          refine ex_if_eq (pc := 91) (tgt := 110) d_RF_analyse_91 rfl (fun c91 => ?_) (fun c91 => ?_)
          · refine ex_iconst (pc := 110) (v := (nI 0)) d_RF_analyse_110 (by decide) ?_
            refine ex_istore (pc := 111) d_RF_analyse_111 (by decide) ?_
            refine ex_iload_n (pc := 113) (i := 3) d_RF_analyse_113 rfl rfl ?_
            refine ex_if_eq (pc := 114) (tgt := 145) d_RF_analyse_114 rfl (fun c114 => ?_) (fun c114 => ?_)
            · refine ex_iconst (pc := 145) (v := (nI 0)) d_RF_analyse_145 (by decide) ?_
              refine ex_istore (pc := 146) d_RF_analyse_146 (by decide) ?_
              refine ex_iload_n (pc := 148) (i := 2) d_RF_analyse_148 rfl rfl ?_
              refine ex_if_eq (pc := 149) (tgt := 193) d_RF_analyse_149 rfl (fun c149 => ?_) (fun c149 => ?_)
              · refine ex_iconst (pc := 193) (v := (nI 0)) d_RF_analyse_193 (by decide) ?_
                refine ex_istore (pc := 194) d_RF_analyse_194 (by decide) ?_
                refine ex_iload (pc := 196) d_RF_analyse_196 rfl ?_
                refine ex_if_eq (pc := 198) (tgt := 207) d_RF_analyse_198 rfl (fun c198 => ?_) (fun c198 => ?_)
                · refine ex_iload (pc := 207) d_RF_analyse_207 rfl ?_
                  refine ex_if_ne (pc := 209) (tgt := 217) d_RF_analyse_209 rfl (fun c209 => ?_) (fun c209 => ?_)
                  · exact absurd rfl c209
                  · refine ex_iload (pc := 212) d_RF_analyse_212 rfl ?_
                    refine ex_if_eq (pc := 214) (tgt := 223) d_RF_analyse_214 rfl (fun c214 => ?_) (fun c214 => ?_)
                    · refine ex_iload_n (pc := 223) (i := 1) d_RF_analyse_223 rfl rfl ?_
                      refine ex_iconst (pc := 224) (v := (nI 1)) d_RF_analyse_224 (by decide) ?_
                      refine ex_iadd (pc := 225) d_RF_analyse_225 ?_
                      refine ex_top (nI_add p9 1) ?_
                      refine ex_istore (pc := 226) d_RF_analyse_226 (by decide) ?_
                      have h60 : ¬ a p9 = nI 60 := fun z => c58 ((ch_eq hA1 (show p9 ≤ 1000 by omega) (by decide) (by decide)).mpr z)
                      have hk : tKd a p9 = 0 := by
                        unfold tKd
                        rw [if_neg h60]
                      have hto : tTo a p9 = p9 + 1 := by
                        unfold tTo
                        rw [if_neg (show ¬ tKd a p9 = 1 by omega), if_neg (show ¬ tKd a p9 = 2 by omega), if_neg (show ¬ tKd a p9 = 3 by omega)]
                      exact ls0_RF_analyse l G iv mp sp mo a n hA iv1 T Bl p9 hp hF hR hX hk _ _ _ (fun iv2 B2 w2 w3 w4 w5 w6 w7 hF2 hR2 => ih (p9 + 1) (tSp a T p9) B2 iv2 w2 w3 w4 w5 w6 w7 (by have := tTo_le hA.2.2.2 hp; omega) (by omega) hF2 hR2 (by rw [← hto]; exact tX_sp hX (by omega)) (by rw [if_pos hp, hto] at hv; exact hv))
                    · exact absurd rfl c214
                · exact absurd rfl c198
              · exact absurd rfl c149
            · exact absurd rfl c114
          · exact absurd rfl c91
        · exact absurd rfl c68
      · refine ex_iconst (pc := 61) (v := (nI 1)) d_RF_analyse_61 (by decide) ?_
        refine ex_goto (pc := 62) (tgt := 66) d_RF_analyse_62 rfl ?_
        refine ex_istore_n (pc := 66) (i := 2) d_RF_analyse_66 rfl (by decide) ?_
        refine ex_iload_n (pc := 67) (i := 2) d_RF_analyse_67 rfl rfl ?_
        refine ex_if_eq (pc := 68) (tgt := 88) d_RF_analyse_68 rfl (fun c68 => ?_) (fun c68 => ?_)
        · exact absurd c68 (by decide)
        · refine ex_aload_n (pc := 71) (i := 0) d_RF_analyse_71 rfl rfl ?_
          refine ex_iload_n (pc := 72) (i := 1) d_RF_analyse_72 rfl rfl ?_
          refine ex_iconst (pc := 73) (v := (nI 1)) d_RF_analyse_73 (by decide) ?_
          refine ex_iadd (pc := 74) d_RF_analyse_74 ?_
          refine ex_top (nI_add p9 1) ?_
          refine ex_callV (pc := 75) (M' := M_RF_charAt) (as := [.int (nI (p9 + 1))]) (st := []) d_RF_analyse_75 MW_RF_charAt MI_RF_charAt LK_RF_191 (Nat.le_of_ble_eq_true rfl) rfl rfl rfl (ct_RF_charAt l G iv1 mp sp mo (nI (p9 + 1)) (tx_b hA1)) (ex_lt_rm (by decide)) ⟨Nat.le_refl _, Nat.le_refl _⟩ rfl rfl (Nat.le_of_ble_eq_true rfl) ?_
          rintro _ _ ⟨rfl, rfl⟩
          refine ex_callS (pc := 78) (M' := M_RF_isName) (as := [.int (gAt0 (iv1 92 14) (iv1 106) (nI (p9 + 1)))]) (st := []) d_RF_analyse_78 MW_RF_isName ST_RF_isName LK_RF_127 (ct_RF_isName l G (HP iv1 mp sp mo) _) (ex_lt_rm (by decide)) ⟨Nat.le_refl _, Nat.le_refl _⟩ rfl rfl (Nat.le_of_ble_eq_true rfl) ?_
          rintro _ _ ⟨rfl, rfl⟩
          refine ex_top (congrArg b2i (ch_nm hA1 (show p9 + 1 ≤ 1000 by omega))) ?_
          refine ex_if_eq (pc := 81) (tgt := 88) d_RF_analyse_81 rfl (fun c81 => ?_) (fun c81 => ?_)
          · refine ex_iconst (pc := 88) (v := (nI 0)) d_RF_analyse_88 (by decide) ?_
            refine ex_istore_n (pc := 89) (i := 3) d_RF_analyse_89 rfl (by decide) ?_
            refine ex_iload_n (pc := 90) (i := 3) d_RF_analyse_90 rfl rfl ?_
            refine ex_if_eq (pc := 91) (tgt := 110) d_RF_analyse_91 rfl (fun c91 => ?_) (fun c91 => ?_)
            · refine ex_iconst (pc := 110) (v := (nI 0)) d_RF_analyse_110 (by decide) ?_
              refine ex_istore (pc := 111) d_RF_analyse_111 (by decide) ?_
              refine ex_iload_n (pc := 113) (i := 3) d_RF_analyse_113 rfl rfl ?_
              refine ex_if_eq (pc := 114) (tgt := 145) d_RF_analyse_114 rfl (fun c114 => ?_) (fun c114 => ?_)
              · refine ex_iconst (pc := 145) (v := (nI 0)) d_RF_analyse_145 (by decide) ?_
                refine ex_istore (pc := 146) d_RF_analyse_146 (by decide) ?_
                refine ex_iload_n (pc := 148) (i := 2) d_RF_analyse_148 rfl rfl ?_
                refine ex_if_eq (pc := 149) (tgt := 193) d_RF_analyse_149 rfl (fun c149 => ?_) (fun c149 => ?_)
                · exact absurd c149 (by decide)
                · refine ex_aload_n (pc := 152) (i := 0) d_RF_analyse_152 rfl rfl ?_
                  refine ex_iload_n (pc := 153) (i := 1) d_RF_analyse_153 rfl rfl ?_
                  refine ex_iconst (pc := 154) (v := (nI 1)) d_RF_analyse_154 (by decide) ?_
                  refine ex_iadd (pc := 155) d_RF_analyse_155 ?_
                  refine ex_top (nI_add p9 1) ?_
                  refine ex_callV (pc := 156) (M' := M_RF_charAt) (as := [.int (nI (p9 + 1))]) (st := []) d_RF_analyse_156 MW_RF_charAt MI_RF_charAt LK_RF_191 (Nat.le_of_ble_eq_true rfl) rfl rfl rfl (ct_RF_charAt l G iv1 mp sp mo (nI (p9 + 1)) (tx_b hA1)) (ex_lt_rm (by decide)) ⟨Nat.le_refl _, Nat.le_refl _⟩ rfl rfl (Nat.le_of_ble_eq_true rfl) ?_
                  rintro _ _ ⟨rfl, rfl⟩
                  refine ex_bipush (pc := 159) (v := (nI 47)) d_RF_analyse_159 (by decide) ?_
                  refine ex_icmp_ne (pc := 161) (tgt := 193) d_RF_analyse_161 rfl (fun c161 => ?_) (fun c161 => ?_)
                  · refine ex_iconst (pc := 193) (v := (nI 0)) d_RF_analyse_193 (by decide) ?_
                    refine ex_istore (pc := 194) d_RF_analyse_194 (by decide) ?_
                    refine ex_iload (pc := 196) d_RF_analyse_196 rfl ?_
                    refine ex_if_eq (pc := 198) (tgt := 207) d_RF_analyse_198 rfl (fun c198 => ?_) (fun c198 => ?_)
                    · refine ex_iload (pc := 207) d_RF_analyse_207 rfl ?_
                      refine ex_if_ne (pc := 209) (tgt := 217) d_RF_analyse_209 rfl (fun c209 => ?_) (fun c209 => ?_)
                      · exact absurd rfl c209
                      · refine ex_iload (pc := 212) d_RF_analyse_212 rfl ?_
                        refine ex_if_eq (pc := 214) (tgt := 223) d_RF_analyse_214 rfl (fun c214 => ?_) (fun c214 => ?_)
                        · refine ex_iload_n (pc := 223) (i := 1) d_RF_analyse_223 rfl rfl ?_
                          refine ex_iconst (pc := 224) (v := (nI 1)) d_RF_analyse_224 (by decide) ?_
                          refine ex_iadd (pc := 225) d_RF_analyse_225 ?_
                          refine ex_top (nI_add p9 1) ?_
                          refine ex_istore (pc := 226) d_RF_analyse_226 (by decide) ?_
                          have h60 : a p9 = nI 60 := (ch_eq hA1 (show p9 ≤ 1000 by omega) (by decide) (by decide)).mp c58
                          have hn1 : ¬ nmB (a (p9 + 1)) = true := by rw [b2i_0 c81]; decide
                          have h147 : ¬ a (p9 + 1) = nI 47 := fun z => c161 ((ch_eq hA1 (show p9 + 1 ≤ 1000 by omega) (by decide) (by decide)).mpr z)
                          have hk : tKd a p9 = 0 := by
                            unfold tKd
                            rw [if_pos h60, if_neg hn1, if_neg (fun z => h147 z.1)]
                          have hto : tTo a p9 = p9 + 1 := by
                            unfold tTo
                            rw [if_neg (show ¬ tKd a p9 = 1 by omega), if_neg (show ¬ tKd a p9 = 2 by omega), if_neg (show ¬ tKd a p9 = 3 by omega)]
                          exact ls0_RF_analyse l G iv mp sp mo a n hA iv1 T Bl p9 hp hF hR hX hk _ _ _ (fun iv2 B2 w2 w3 w4 w5 w6 w7 hF2 hR2 => ih (p9 + 1) (tSp a T p9) B2 iv2 w2 w3 w4 w5 w6 w7 (by have := tTo_le hA.2.2.2 hp; omega) (by omega) hF2 hR2 (by rw [← hto]; exact tX_sp hX (by omega)) (by rw [if_pos hp, hto] at hv; exact hv))
                        · exact absurd rfl c214
                    · exact absurd rfl c198
                  · refine ex_aload_n (pc := 164) (i := 0) d_RF_analyse_164 rfl rfl ?_
                    refine ex_iload_n (pc := 165) (i := 1) d_RF_analyse_165 rfl rfl ?_
                    refine ex_iconst (pc := 166) (v := (nI 2)) d_RF_analyse_166 (by decide) ?_
                    refine ex_iadd (pc := 167) d_RF_analyse_167 ?_
                    refine ex_top (nI_add p9 2) ?_
                    refine ex_callV (pc := 168) (M' := M_RF_charAt) (as := [.int (nI (p9 + 2))]) (st := []) d_RF_analyse_168 MW_RF_charAt MI_RF_charAt LK_RF_191 (Nat.le_of_ble_eq_true rfl) rfl rfl rfl (ct_RF_charAt l G iv1 mp sp mo (nI (p9 + 2)) (tx_b hA1)) (ex_lt_rm (by decide)) ⟨Nat.le_refl _, Nat.le_refl _⟩ rfl rfl (Nat.le_of_ble_eq_true rfl) ?_
                    rintro _ _ ⟨rfl, rfl⟩
                    refine ex_callS (pc := 171) (M' := M_RF_isName) (as := [.int (gAt0 (iv1 92 14) (iv1 106) (nI (p9 + 2)))]) (st := []) d_RF_analyse_171 MW_RF_isName ST_RF_isName LK_RF_127 (ct_RF_isName l G (HP iv1 mp sp mo) _) (ex_lt_rm (by decide)) ⟨Nat.le_refl _, Nat.le_refl _⟩ rfl rfl (Nat.le_of_ble_eq_true rfl) ?_
                    rintro _ _ ⟨rfl, rfl⟩
                    refine ex_top (congrArg b2i (ch_nm hA1 (show p9 + 2 ≤ 1000 by omega))) ?_
                    refine ex_if_eq (pc := 174) (tgt := 193) d_RF_analyse_174 rfl (fun c174 => ?_) (fun c174 => ?_)
                    · refine ex_iconst (pc := 193) (v := (nI 0)) d_RF_analyse_193 (by decide) ?_
                      refine ex_istore (pc := 194) d_RF_analyse_194 (by decide) ?_
                      refine ex_iload (pc := 196) d_RF_analyse_196 rfl ?_
                      refine ex_if_eq (pc := 198) (tgt := 207) d_RF_analyse_198 rfl (fun c198 => ?_) (fun c198 => ?_)
                      · refine ex_iload (pc := 207) d_RF_analyse_207 rfl ?_
                        refine ex_if_ne (pc := 209) (tgt := 217) d_RF_analyse_209 rfl (fun c209 => ?_) (fun c209 => ?_)
                        · exact absurd rfl c209
                        · refine ex_iload (pc := 212) d_RF_analyse_212 rfl ?_
                          refine ex_if_eq (pc := 214) (tgt := 223) d_RF_analyse_214 rfl (fun c214 => ?_) (fun c214 => ?_)
                          · refine ex_iload_n (pc := 223) (i := 1) d_RF_analyse_223 rfl rfl ?_
                            refine ex_iconst (pc := 224) (v := (nI 1)) d_RF_analyse_224 (by decide) ?_
                            refine ex_iadd (pc := 225) d_RF_analyse_225 ?_
                            refine ex_top (nI_add p9 1) ?_
                            refine ex_istore (pc := 226) d_RF_analyse_226 (by decide) ?_
                            have h60 : a p9 = nI 60 := (ch_eq hA1 (show p9 ≤ 1000 by omega) (by decide) (by decide)).mp c58
                            have hn1 : ¬ nmB (a (p9 + 1)) = true := by rw [b2i_0 c81]; decide
                            have h147 : a (p9 + 1) = nI 47 := (ch_eq hA1 (show p9 + 1 ≤ 1000 by omega) (by decide) (by decide)).mp c161
                            have hn2 : ¬ nmB (a (p9 + 2)) = true := by rw [b2i_0 c174]; decide
                            have hk : tKd a p9 = 0 := by
                              unfold tKd
                              rw [if_pos h60, if_neg hn1, if_neg (fun z => hn2 z.2.1)]
                            have hto : tTo a p9 = p9 + 1 := by
                              unfold tTo
                              rw [if_neg (show ¬ tKd a p9 = 1 by omega), if_neg (show ¬ tKd a p9 = 2 by omega), if_neg (show ¬ tKd a p9 = 3 by omega)]
                            exact ls0_RF_analyse l G iv mp sp mo a n hA iv1 T Bl p9 hp hF hR hX hk _ _ _ (fun iv2 B2 w2 w3 w4 w5 w6 w7 hF2 hR2 => ih (p9 + 1) (tSp a T p9) B2 iv2 w2 w3 w4 w5 w6 w7 (by have := tTo_le hA.2.2.2 hp; omega) (by omega) hF2 hR2 (by rw [← hto]; exact tX_sp hX (by omega)) (by rw [if_pos hp, hto] at hv; exact hv))
                          · exact absurd rfl c214
                      · exact absurd rfl c198
                    · refine ex_aload_n (pc := 177) (i := 0) d_RF_analyse_177 rfl rfl ?_
                      refine ex_iload_n (pc := 178) (i := 1) d_RF_analyse_178 rfl rfl ?_
                      refine ex_iconst (pc := 179) (v := (nI 3)) d_RF_analyse_179 (by decide) ?_
                      refine ex_iadd (pc := 180) d_RF_analyse_180 ?_
                      refine ex_top (nI_add p9 3) ?_
                      refine ex_callV (pc := 181) (M' := M_RF_charAt) (as := [.int (nI (p9 + 3))]) (st := []) d_RF_analyse_181 MW_RF_charAt MI_RF_charAt LK_RF_191 (Nat.le_of_ble_eq_true rfl) rfl rfl rfl (ct_RF_charAt l G iv1 mp sp mo (nI (p9 + 3)) (tx_b hA1)) (ex_lt_rm (by decide)) ⟨Nat.le_refl _, Nat.le_refl _⟩ rfl rfl (Nat.le_of_ble_eq_true rfl) ?_
                      rintro _ _ ⟨rfl, rfl⟩
                      refine ex_bipush (pc := 184) (v := (nI 62)) d_RF_analyse_184 (by decide) ?_
                      refine ex_icmp_ne (pc := 186) (tgt := 193) d_RF_analyse_186 rfl (fun c186 => ?_) (fun c186 => ?_)
                      · refine ex_iconst (pc := 193) (v := (nI 0)) d_RF_analyse_193 (by decide) ?_
                        refine ex_istore (pc := 194) d_RF_analyse_194 (by decide) ?_
                        refine ex_iload (pc := 196) d_RF_analyse_196 rfl ?_
                        refine ex_if_eq (pc := 198) (tgt := 207) d_RF_analyse_198 rfl (fun c198 => ?_) (fun c198 => ?_)
                        · refine ex_iload (pc := 207) d_RF_analyse_207 rfl ?_
                          refine ex_if_ne (pc := 209) (tgt := 217) d_RF_analyse_209 rfl (fun c209 => ?_) (fun c209 => ?_)
                          · exact absurd rfl c209
                          · refine ex_iload (pc := 212) d_RF_analyse_212 rfl ?_
                            refine ex_if_eq (pc := 214) (tgt := 223) d_RF_analyse_214 rfl (fun c214 => ?_) (fun c214 => ?_)
                            · refine ex_iload_n (pc := 223) (i := 1) d_RF_analyse_223 rfl rfl ?_
                              refine ex_iconst (pc := 224) (v := (nI 1)) d_RF_analyse_224 (by decide) ?_
                              refine ex_iadd (pc := 225) d_RF_analyse_225 ?_
                              refine ex_top (nI_add p9 1) ?_
                              refine ex_istore (pc := 226) d_RF_analyse_226 (by decide) ?_
                              have h60 : a p9 = nI 60 := (ch_eq hA1 (show p9 ≤ 1000 by omega) (by decide) (by decide)).mp c58
                              have hn1 : ¬ nmB (a (p9 + 1)) = true := by rw [b2i_0 c81]; decide
                              have h147 : a (p9 + 1) = nI 47 := (ch_eq hA1 (show p9 + 1 ≤ 1000 by omega) (by decide) (by decide)).mp c161
                              have hn2 : nmB (a (p9 + 2)) = true := b2i_1 c174
                              have h4 : ¬ a (p9 + 3) = nI 62 := fun z => c186 ((ch_eq hA1 (show p9 + 3 ≤ 1000 by omega) (by decide) (by decide)).mpr z)
                              have hk : tKd a p9 = 0 := by
                                unfold tKd
                                rw [if_pos h60, if_neg hn1, if_neg (fun z => h4 z.2.2)]
                              have hto : tTo a p9 = p9 + 1 := by
                                unfold tTo
                                rw [if_neg (show ¬ tKd a p9 = 1 by omega), if_neg (show ¬ tKd a p9 = 2 by omega), if_neg (show ¬ tKd a p9 = 3 by omega)]
                              exact ls0_RF_analyse l G iv mp sp mo a n hA iv1 T Bl p9 hp hF hR hX hk _ _ _ (fun iv2 B2 w2 w3 w4 w5 w6 w7 hF2 hR2 => ih (p9 + 1) (tSp a T p9) B2 iv2 w2 w3 w4 w5 w6 w7 (by have := tTo_le hA.2.2.2 hp; omega) (by omega) hF2 hR2 (by rw [← hto]; exact tX_sp hX (by omega)) (by rw [if_pos hp, hto] at hv; exact hv))
                            · exact absurd rfl c214
                        · exact absurd rfl c198
                      · refine ex_iconst (pc := 189) (v := (nI 1)) d_RF_analyse_189 (by decide) ?_
                        refine ex_goto (pc := 190) (tgt := 194) d_RF_analyse_190 rfl ?_
                        refine ex_istore (pc := 194) d_RF_analyse_194 (by decide) ?_
                        refine ex_iload (pc := 196) d_RF_analyse_196 rfl ?_
                        refine ex_if_eq (pc := 198) (tgt := 207) d_RF_analyse_198 rfl (fun c198 => ?_) (fun c198 => ?_)
                        · refine ex_iload (pc := 207) d_RF_analyse_207 rfl ?_
                          refine ex_if_ne (pc := 209) (tgt := 217) d_RF_analyse_209 rfl (fun c209 => ?_) (fun c209 => ?_)
                          · exact absurd rfl c209
                          · refine ex_iload (pc := 212) d_RF_analyse_212 rfl ?_
                            refine ex_if_eq (pc := 214) (tgt := 223) d_RF_analyse_214 rfl (fun c214 => ?_) (fun c214 => ?_)
                            · exact absurd c214 (by decide)
                            · refine ex_iload_n (pc := 217) (i := 1) d_RF_analyse_217 rfl rfl ?_
                              refine ex_iconst (pc := 218) (v := (nI 4)) d_RF_analyse_218 (by decide) ?_
                              refine ex_iadd (pc := 219) d_RF_analyse_219 ?_
                              refine ex_top (nI_add p9 4) ?_
                              refine ex_goto (pc := 220) (tgt := 226) d_RF_analyse_220 rfl ?_
                              refine ex_istore (pc := 226) d_RF_analyse_226 (by decide) ?_
                              have h60 : a p9 = nI 60 := (ch_eq hA1 (show p9 ≤ 1000 by omega) (by decide) (by decide)).mp c58
                              have hn1 : ¬ nmB (a (p9 + 1)) = true := by rw [b2i_0 c81]; decide
                              have h147 : a (p9 + 1) = nI 47 := (ch_eq hA1 (show p9 + 1 ≤ 1000 by omega) (by decide) (by decide)).mp c161
                              have hn2 : nmB (a (p9 + 2)) = true := b2i_1 c174
                              have h4 : a (p9 + 3) = nI 62 := (ch_eq hA1 (show p9 + 3 ≤ 1000 by omega) (by decide) (by decide)).mp c186
                              have hk : tKd a p9 = 3 := by
                                unfold tKd
                                rw [if_pos h60, if_neg hn1, if_pos ⟨h147, hn2, h4⟩]
                              have hto : tTo a p9 = p9 + 4 := by
                                unfold tTo
                                rw [if_neg (show ¬ tKd a p9 = 1 by omega), if_neg (show ¬ tKd a p9 = 2 by omega), if_pos hk]
                              exact ls3_RF_analyse l G iv mp sp mo a n hA iv1 T Bl p9 hp hF hR hX hk _ _ _ (fun iv2 B2 w2 w3 w4 w5 w6 w7 hF2 hR2 => ih (p9 + 4) (tSp a T p9) B2 iv2 w2 w3 w4 w5 w6 w7 (by have := tTo_le hA.2.2.2 hp; omega) (by omega) hF2 hR2 (by rw [← hto]; exact tX_sp hX (by omega)) (by rw [if_pos hp, hto] at hv; exact hv))
                        · exact absurd rfl c198
              · exact absurd rfl c114
            · exact absurd rfl c91
          · refine ex_iconst (pc := 84) (v := (nI 1)) d_RF_analyse_84 (by decide) ?_
            refine ex_goto (pc := 85) (tgt := 89) d_RF_analyse_85 rfl ?_
            refine ex_istore_n (pc := 89) (i := 3) d_RF_analyse_89 rfl (by decide) ?_
            refine ex_iload_n (pc := 90) (i := 3) d_RF_analyse_90 rfl rfl ?_
            refine ex_if_eq (pc := 91) (tgt := 110) d_RF_analyse_91 rfl (fun c91 => ?_) (fun c91 => ?_)
            · exact absurd c91 (by decide)
            · refine ex_aload_n (pc := 94) (i := 0) d_RF_analyse_94 rfl rfl ?_
              refine ex_iload_n (pc := 95) (i := 1) d_RF_analyse_95 rfl rfl ?_
              refine ex_iconst (pc := 96) (v := (nI 2)) d_RF_analyse_96 (by decide) ?_
              refine ex_iadd (pc := 97) d_RF_analyse_97 ?_
              refine ex_top (nI_add p9 2) ?_
              refine ex_callV (pc := 98) (M' := M_RF_charAt) (as := [.int (nI (p9 + 2))]) (st := []) d_RF_analyse_98 MW_RF_charAt MI_RF_charAt LK_RF_191 (Nat.le_of_ble_eq_true rfl) rfl rfl rfl (ct_RF_charAt l G iv1 mp sp mo (nI (p9 + 2)) (tx_b hA1)) (ex_lt_rm (by decide)) ⟨Nat.le_refl _, Nat.le_refl _⟩ rfl rfl (Nat.le_of_ble_eq_true rfl) ?_
              rintro _ _ ⟨rfl, rfl⟩
              refine ex_bipush (pc := 101) (v := (nI 62)) d_RF_analyse_101 (by decide) ?_
              refine ex_icmp_ne (pc := 103) (tgt := 110) d_RF_analyse_103 rfl (fun c103 => ?_) (fun c103 => ?_)
              · refine ex_iconst (pc := 110) (v := (nI 0)) d_RF_analyse_110 (by decide) ?_
                refine ex_istore (pc := 111) d_RF_analyse_111 (by decide) ?_
                refine ex_iload_n (pc := 113) (i := 3) d_RF_analyse_113 rfl rfl ?_
                refine ex_if_eq (pc := 114) (tgt := 145) d_RF_analyse_114 rfl (fun c114 => ?_) (fun c114 => ?_)
                · exact absurd c114 (by decide)
                · refine ex_aload_n (pc := 117) (i := 0) d_RF_analyse_117 rfl rfl ?_
                  refine ex_iload_n (pc := 118) (i := 1) d_RF_analyse_118 rfl rfl ?_
                  refine ex_iconst (pc := 119) (v := (nI 2)) d_RF_analyse_119 (by decide) ?_
                  refine ex_iadd (pc := 120) d_RF_analyse_120 ?_
                  refine ex_top (nI_add p9 2) ?_
                  refine ex_callV (pc := 121) (M' := M_RF_charAt) (as := [.int (nI (p9 + 2))]) (st := []) d_RF_analyse_121 MW_RF_charAt MI_RF_charAt LK_RF_191 (Nat.le_of_ble_eq_true rfl) rfl rfl rfl (ct_RF_charAt l G iv1 mp sp mo (nI (p9 + 2)) (tx_b hA1)) (ex_lt_rm (by decide)) ⟨Nat.le_refl _, Nat.le_refl _⟩ rfl rfl (Nat.le_of_ble_eq_true rfl) ?_
                  rintro _ _ ⟨rfl, rfl⟩
                  refine ex_bipush (pc := 124) (v := (nI 47)) d_RF_analyse_124 (by decide) ?_
                  refine ex_icmp_ne (pc := 126) (tgt := 145) d_RF_analyse_126 rfl (fun c126 => ?_) (fun c126 => ?_)
                  · refine ex_iconst (pc := 145) (v := (nI 0)) d_RF_analyse_145 (by decide) ?_
                    refine ex_istore (pc := 146) d_RF_analyse_146 (by decide) ?_
                    refine ex_iload_n (pc := 148) (i := 2) d_RF_analyse_148 rfl rfl ?_
                    refine ex_if_eq (pc := 149) (tgt := 193) d_RF_analyse_149 rfl (fun c149 => ?_) (fun c149 => ?_)
                    · exact absurd c149 (by decide)
                    · refine ex_aload_n (pc := 152) (i := 0) d_RF_analyse_152 rfl rfl ?_
                      refine ex_iload_n (pc := 153) (i := 1) d_RF_analyse_153 rfl rfl ?_
                      refine ex_iconst (pc := 154) (v := (nI 1)) d_RF_analyse_154 (by decide) ?_
                      refine ex_iadd (pc := 155) d_RF_analyse_155 ?_
                      refine ex_top (nI_add p9 1) ?_
                      refine ex_callV (pc := 156) (M' := M_RF_charAt) (as := [.int (nI (p9 + 1))]) (st := []) d_RF_analyse_156 MW_RF_charAt MI_RF_charAt LK_RF_191 (Nat.le_of_ble_eq_true rfl) rfl rfl rfl (ct_RF_charAt l G iv1 mp sp mo (nI (p9 + 1)) (tx_b hA1)) (ex_lt_rm (by decide)) ⟨Nat.le_refl _, Nat.le_refl _⟩ rfl rfl (Nat.le_of_ble_eq_true rfl) ?_
                      rintro _ _ ⟨rfl, rfl⟩
                      refine ex_bipush (pc := 159) (v := (nI 47)) d_RF_analyse_159 (by decide) ?_
                      refine ex_icmp_ne (pc := 161) (tgt := 193) d_RF_analyse_161 rfl (fun c161 => ?_) (fun c161 => ?_)
                      · refine ex_iconst (pc := 193) (v := (nI 0)) d_RF_analyse_193 (by decide) ?_
                        refine ex_istore (pc := 194) d_RF_analyse_194 (by decide) ?_
                        refine ex_iload (pc := 196) d_RF_analyse_196 rfl ?_
                        refine ex_if_eq (pc := 198) (tgt := 207) d_RF_analyse_198 rfl (fun c198 => ?_) (fun c198 => ?_)
                        · refine ex_iload (pc := 207) d_RF_analyse_207 rfl ?_
                          refine ex_if_ne (pc := 209) (tgt := 217) d_RF_analyse_209 rfl (fun c209 => ?_) (fun c209 => ?_)
                          · exact absurd rfl c209
                          · refine ex_iload (pc := 212) d_RF_analyse_212 rfl ?_
                            refine ex_if_eq (pc := 214) (tgt := 223) d_RF_analyse_214 rfl (fun c214 => ?_) (fun c214 => ?_)
                            · refine ex_iload_n (pc := 223) (i := 1) d_RF_analyse_223 rfl rfl ?_
                              refine ex_iconst (pc := 224) (v := (nI 1)) d_RF_analyse_224 (by decide) ?_
                              refine ex_iadd (pc := 225) d_RF_analyse_225 ?_
                              refine ex_top (nI_add p9 1) ?_
                              refine ex_istore (pc := 226) d_RF_analyse_226 (by decide) ?_
                              have h60 : a p9 = nI 60 := (ch_eq hA1 (show p9 ≤ 1000 by omega) (by decide) (by decide)).mp c58
                              have hn1 : nmB (a (p9 + 1)) = true := b2i_1 c81
                              have h62 : ¬ a (p9 + 2) = nI 62 := fun z => c103 ((ch_eq hA1 (show p9 + 2 ≤ 1000 by omega) (by decide) (by decide)).mpr z)
                              have h47 : ¬ a (p9 + 2) = nI 47 := fun z => c126 ((ch_eq hA1 (show p9 + 2 ≤ 1000 by omega) (by decide) (by decide)).mpr z)
                              have hk : tKd a p9 = 0 := by
                                unfold tKd
                                rw [if_pos h60, if_pos hn1, if_neg h62, if_neg (fun z => h47 z.1)]
                              have hto : tTo a p9 = p9 + 1 := by
                                unfold tTo
                                rw [if_neg (show ¬ tKd a p9 = 1 by omega), if_neg (show ¬ tKd a p9 = 2 by omega), if_neg (show ¬ tKd a p9 = 3 by omega)]
                              exact ls0_RF_analyse l G iv mp sp mo a n hA iv1 T Bl p9 hp hF hR hX hk _ _ _ (fun iv2 B2 w2 w3 w4 w5 w6 w7 hF2 hR2 => ih (p9 + 1) (tSp a T p9) B2 iv2 w2 w3 w4 w5 w6 w7 (by have := tTo_le hA.2.2.2 hp; omega) (by omega) hF2 hR2 (by rw [← hto]; exact tX_sp hX (by omega)) (by rw [if_pos hp, hto] at hv; exact hv))
                            · exact absurd rfl c214
                        · exact absurd rfl c198
                      · exact absurd ((ch_eq hA1 (show p9 + 1 ≤ 1000 by omega) (by decide) (by decide)).mp c161) (fun z => by have hn1 := b2i_1 c81; rw [z] at hn1; exact absurd hn1 (by decide))
                  · refine ex_aload_n (pc := 129) (i := 0) d_RF_analyse_129 rfl rfl ?_
                    refine ex_iload_n (pc := 130) (i := 1) d_RF_analyse_130 rfl rfl ?_
                    refine ex_iconst (pc := 131) (v := (nI 3)) d_RF_analyse_131 (by decide) ?_
                    refine ex_iadd (pc := 132) d_RF_analyse_132 ?_
                    refine ex_top (nI_add p9 3) ?_
                    refine ex_callV (pc := 133) (M' := M_RF_charAt) (as := [.int (nI (p9 + 3))]) (st := []) d_RF_analyse_133 MW_RF_charAt MI_RF_charAt LK_RF_191 (Nat.le_of_ble_eq_true rfl) rfl rfl rfl (ct_RF_charAt l G iv1 mp sp mo (nI (p9 + 3)) (tx_b hA1)) (ex_lt_rm (by decide)) ⟨Nat.le_refl _, Nat.le_refl _⟩ rfl rfl (Nat.le_of_ble_eq_true rfl) ?_
                    rintro _ _ ⟨rfl, rfl⟩
                    refine ex_bipush (pc := 136) (v := (nI 62)) d_RF_analyse_136 (by decide) ?_
                    refine ex_icmp_ne (pc := 138) (tgt := 145) d_RF_analyse_138 rfl (fun c138 => ?_) (fun c138 => ?_)
                    · refine ex_iconst (pc := 145) (v := (nI 0)) d_RF_analyse_145 (by decide) ?_
                      refine ex_istore (pc := 146) d_RF_analyse_146 (by decide) ?_
                      refine ex_iload_n (pc := 148) (i := 2) d_RF_analyse_148 rfl rfl ?_
                      refine ex_if_eq (pc := 149) (tgt := 193) d_RF_analyse_149 rfl (fun c149 => ?_) (fun c149 => ?_)
                      · exact absurd c149 (by decide)
                      · refine ex_aload_n (pc := 152) (i := 0) d_RF_analyse_152 rfl rfl ?_
                        refine ex_iload_n (pc := 153) (i := 1) d_RF_analyse_153 rfl rfl ?_
                        refine ex_iconst (pc := 154) (v := (nI 1)) d_RF_analyse_154 (by decide) ?_
                        refine ex_iadd (pc := 155) d_RF_analyse_155 ?_
                        refine ex_top (nI_add p9 1) ?_
                        refine ex_callV (pc := 156) (M' := M_RF_charAt) (as := [.int (nI (p9 + 1))]) (st := []) d_RF_analyse_156 MW_RF_charAt MI_RF_charAt LK_RF_191 (Nat.le_of_ble_eq_true rfl) rfl rfl rfl (ct_RF_charAt l G iv1 mp sp mo (nI (p9 + 1)) (tx_b hA1)) (ex_lt_rm (by decide)) ⟨Nat.le_refl _, Nat.le_refl _⟩ rfl rfl (Nat.le_of_ble_eq_true rfl) ?_
                        rintro _ _ ⟨rfl, rfl⟩
                        refine ex_bipush (pc := 159) (v := (nI 47)) d_RF_analyse_159 (by decide) ?_
                        refine ex_icmp_ne (pc := 161) (tgt := 193) d_RF_analyse_161 rfl (fun c161 => ?_) (fun c161 => ?_)
                        · refine ex_iconst (pc := 193) (v := (nI 0)) d_RF_analyse_193 (by decide) ?_
                          refine ex_istore (pc := 194) d_RF_analyse_194 (by decide) ?_
                          refine ex_iload (pc := 196) d_RF_analyse_196 rfl ?_
                          refine ex_if_eq (pc := 198) (tgt := 207) d_RF_analyse_198 rfl (fun c198 => ?_) (fun c198 => ?_)
                          · refine ex_iload (pc := 207) d_RF_analyse_207 rfl ?_
                            refine ex_if_ne (pc := 209) (tgt := 217) d_RF_analyse_209 rfl (fun c209 => ?_) (fun c209 => ?_)
                            · exact absurd rfl c209
                            · refine ex_iload (pc := 212) d_RF_analyse_212 rfl ?_
                              refine ex_if_eq (pc := 214) (tgt := 223) d_RF_analyse_214 rfl (fun c214 => ?_) (fun c214 => ?_)
                              · refine ex_iload_n (pc := 223) (i := 1) d_RF_analyse_223 rfl rfl ?_
                                refine ex_iconst (pc := 224) (v := (nI 1)) d_RF_analyse_224 (by decide) ?_
                                refine ex_iadd (pc := 225) d_RF_analyse_225 ?_
                                refine ex_top (nI_add p9 1) ?_
                                refine ex_istore (pc := 226) d_RF_analyse_226 (by decide) ?_
                                have h60 : a p9 = nI 60 := (ch_eq hA1 (show p9 ≤ 1000 by omega) (by decide) (by decide)).mp c58
                                have hn1 : nmB (a (p9 + 1)) = true := b2i_1 c81
                                have h62 : ¬ a (p9 + 2) = nI 62 := fun z => c103 ((ch_eq hA1 (show p9 + 2 ≤ 1000 by omega) (by decide) (by decide)).mpr z)
                                have h47 : a (p9 + 2) = nI 47 := (ch_eq hA1 (show p9 + 2 ≤ 1000 by omega) (by decide) (by decide)).mp c126
                                have h3 : ¬ a (p9 + 3) = nI 62 := fun z => c138 ((ch_eq hA1 (show p9 + 3 ≤ 1000 by omega) (by decide) (by decide)).mpr z)
                                have hk : tKd a p9 = 0 := by
                                  unfold tKd
                                  rw [if_pos h60, if_pos hn1, if_neg h62, if_neg (fun z => h3 z.2)]
                                have hto : tTo a p9 = p9 + 1 := by
                                  unfold tTo
                                  rw [if_neg (show ¬ tKd a p9 = 1 by omega), if_neg (show ¬ tKd a p9 = 2 by omega), if_neg (show ¬ tKd a p9 = 3 by omega)]
                                exact ls0_RF_analyse l G iv mp sp mo a n hA iv1 T Bl p9 hp hF hR hX hk _ _ _ (fun iv2 B2 w2 w3 w4 w5 w6 w7 hF2 hR2 => ih (p9 + 1) (tSp a T p9) B2 iv2 w2 w3 w4 w5 w6 w7 (by have := tTo_le hA.2.2.2 hp; omega) (by omega) hF2 hR2 (by rw [← hto]; exact tX_sp hX (by omega)) (by rw [if_pos hp, hto] at hv; exact hv))
                              · exact absurd rfl c214
                          · exact absurd rfl c198
                        · exact absurd ((ch_eq hA1 (show p9 + 1 ≤ 1000 by omega) (by decide) (by decide)).mp c161) (fun z => by have hn1 := b2i_1 c81; rw [z] at hn1; exact absurd hn1 (by decide))
                    · refine ex_iconst (pc := 141) (v := (nI 1)) d_RF_analyse_141 (by decide) ?_
                      refine ex_goto (pc := 142) (tgt := 146) d_RF_analyse_142 rfl ?_
                      refine ex_istore (pc := 146) d_RF_analyse_146 (by decide) ?_
                      refine ex_iload_n (pc := 148) (i := 2) d_RF_analyse_148 rfl rfl ?_
                      refine ex_if_eq (pc := 149) (tgt := 193) d_RF_analyse_149 rfl (fun c149 => ?_) (fun c149 => ?_)
                      · exact absurd c149 (by decide)
                      · refine ex_aload_n (pc := 152) (i := 0) d_RF_analyse_152 rfl rfl ?_
                        refine ex_iload_n (pc := 153) (i := 1) d_RF_analyse_153 rfl rfl ?_
                        refine ex_iconst (pc := 154) (v := (nI 1)) d_RF_analyse_154 (by decide) ?_
                        refine ex_iadd (pc := 155) d_RF_analyse_155 ?_
                        refine ex_top (nI_add p9 1) ?_
                        refine ex_callV (pc := 156) (M' := M_RF_charAt) (as := [.int (nI (p9 + 1))]) (st := []) d_RF_analyse_156 MW_RF_charAt MI_RF_charAt LK_RF_191 (Nat.le_of_ble_eq_true rfl) rfl rfl rfl (ct_RF_charAt l G iv1 mp sp mo (nI (p9 + 1)) (tx_b hA1)) (ex_lt_rm (by decide)) ⟨Nat.le_refl _, Nat.le_refl _⟩ rfl rfl (Nat.le_of_ble_eq_true rfl) ?_
                        rintro _ _ ⟨rfl, rfl⟩
                        refine ex_bipush (pc := 159) (v := (nI 47)) d_RF_analyse_159 (by decide) ?_
                        refine ex_icmp_ne (pc := 161) (tgt := 193) d_RF_analyse_161 rfl (fun c161 => ?_) (fun c161 => ?_)
                        · refine ex_iconst (pc := 193) (v := (nI 0)) d_RF_analyse_193 (by decide) ?_
                          refine ex_istore (pc := 194) d_RF_analyse_194 (by decide) ?_
                          refine ex_iload (pc := 196) d_RF_analyse_196 rfl ?_
                          refine ex_if_eq (pc := 198) (tgt := 207) d_RF_analyse_198 rfl (fun c198 => ?_) (fun c198 => ?_)
                          · refine ex_iload (pc := 207) d_RF_analyse_207 rfl ?_
                            refine ex_if_ne (pc := 209) (tgt := 217) d_RF_analyse_209 rfl (fun c209 => ?_) (fun c209 => ?_)
                            · refine ex_iload_n (pc := 217) (i := 1) d_RF_analyse_217 rfl rfl ?_
                              refine ex_iconst (pc := 218) (v := (nI 4)) d_RF_analyse_218 (by decide) ?_
                              refine ex_iadd (pc := 219) d_RF_analyse_219 ?_
                              refine ex_top (nI_add p9 4) ?_
                              refine ex_goto (pc := 220) (tgt := 226) d_RF_analyse_220 rfl ?_
                              refine ex_istore (pc := 226) d_RF_analyse_226 (by decide) ?_
                              have h60 : a p9 = nI 60 := (ch_eq hA1 (show p9 ≤ 1000 by omega) (by decide) (by decide)).mp c58
                              have hn1 : nmB (a (p9 + 1)) = true := b2i_1 c81
                              have h62 : ¬ a (p9 + 2) = nI 62 := fun z => c103 ((ch_eq hA1 (show p9 + 2 ≤ 1000 by omega) (by decide) (by decide)).mpr z)
                              have h47 : a (p9 + 2) = nI 47 := (ch_eq hA1 (show p9 + 2 ≤ 1000 by omega) (by decide) (by decide)).mp c126
                              have h3 : a (p9 + 3) = nI 62 := (ch_eq hA1 (show p9 + 3 ≤ 1000 by omega) (by decide) (by decide)).mp c138
                              have hk : tKd a p9 = 2 := by
                                unfold tKd
                                rw [if_pos h60, if_pos hn1, if_neg h62, if_pos ⟨h47, h3⟩]
                              have hto : tTo a p9 = p9 + 4 := by
                                unfold tTo
                                rw [if_neg (show ¬ tKd a p9 = 1 by omega), if_pos hk]
                              exact ls2_RF_analyse l G iv mp sp mo a n hA iv1 T Bl p9 hp hF hR hX hk _ _ _ (fun iv2 B2 w2 w3 w4 w5 w6 w7 hF2 hR2 => ih (p9 + 4) (tSp a T p9) B2 iv2 w2 w3 w4 w5 w6 w7 (by have := tTo_le hA.2.2.2 hp; omega) (by omega) hF2 hR2 (by rw [← hto]; exact tX_sp hX (by omega)) (by rw [if_pos hp, hto] at hv; exact hv))
                            · exact absurd c209 (by decide)
                          · exact absurd rfl c198
                        · exact absurd ((ch_eq hA1 (show p9 + 1 ≤ 1000 by omega) (by decide) (by decide)).mp c161) (fun z => by have hn1 := b2i_1 c81; rw [z] at hn1; exact absurd hn1 (by decide))
              · refine ex_iconst (pc := 106) (v := (nI 1)) d_RF_analyse_106 (by decide) ?_
                refine ex_goto (pc := 107) (tgt := 111) d_RF_analyse_107 rfl ?_
                refine ex_istore (pc := 111) d_RF_analyse_111 (by decide) ?_
                refine ex_iload_n (pc := 113) (i := 3) d_RF_analyse_113 rfl rfl ?_
                refine ex_if_eq (pc := 114) (tgt := 145) d_RF_analyse_114 rfl (fun c114 => ?_) (fun c114 => ?_)
                · exact absurd c114 (by decide)
                · refine ex_aload_n (pc := 117) (i := 0) d_RF_analyse_117 rfl rfl ?_
                  refine ex_iload_n (pc := 118) (i := 1) d_RF_analyse_118 rfl rfl ?_
                  refine ex_iconst (pc := 119) (v := (nI 2)) d_RF_analyse_119 (by decide) ?_
                  refine ex_iadd (pc := 120) d_RF_analyse_120 ?_
                  refine ex_top (nI_add p9 2) ?_
                  refine ex_callV (pc := 121) (M' := M_RF_charAt) (as := [.int (nI (p9 + 2))]) (st := []) d_RF_analyse_121 MW_RF_charAt MI_RF_charAt LK_RF_191 (Nat.le_of_ble_eq_true rfl) rfl rfl rfl (ct_RF_charAt l G iv1 mp sp mo (nI (p9 + 2)) (tx_b hA1)) (ex_lt_rm (by decide)) ⟨Nat.le_refl _, Nat.le_refl _⟩ rfl rfl (Nat.le_of_ble_eq_true rfl) ?_
                  rintro _ _ ⟨rfl, rfl⟩
                  refine ex_bipush (pc := 124) (v := (nI 47)) d_RF_analyse_124 (by decide) ?_
                  refine ex_icmp_ne (pc := 126) (tgt := 145) d_RF_analyse_126 rfl (fun c126 => ?_) (fun c126 => ?_)
                  · refine ex_iconst (pc := 145) (v := (nI 0)) d_RF_analyse_145 (by decide) ?_
                    refine ex_istore (pc := 146) d_RF_analyse_146 (by decide) ?_
                    refine ex_iload_n (pc := 148) (i := 2) d_RF_analyse_148 rfl rfl ?_
                    refine ex_if_eq (pc := 149) (tgt := 193) d_RF_analyse_149 rfl (fun c149 => ?_) (fun c149 => ?_)
                    · exact absurd c149 (by decide)
                    · refine ex_aload_n (pc := 152) (i := 0) d_RF_analyse_152 rfl rfl ?_
                      refine ex_iload_n (pc := 153) (i := 1) d_RF_analyse_153 rfl rfl ?_
                      refine ex_iconst (pc := 154) (v := (nI 1)) d_RF_analyse_154 (by decide) ?_
                      refine ex_iadd (pc := 155) d_RF_analyse_155 ?_
                      refine ex_top (nI_add p9 1) ?_
                      refine ex_callV (pc := 156) (M' := M_RF_charAt) (as := [.int (nI (p9 + 1))]) (st := []) d_RF_analyse_156 MW_RF_charAt MI_RF_charAt LK_RF_191 (Nat.le_of_ble_eq_true rfl) rfl rfl rfl (ct_RF_charAt l G iv1 mp sp mo (nI (p9 + 1)) (tx_b hA1)) (ex_lt_rm (by decide)) ⟨Nat.le_refl _, Nat.le_refl _⟩ rfl rfl (Nat.le_of_ble_eq_true rfl) ?_
                      rintro _ _ ⟨rfl, rfl⟩
                      refine ex_bipush (pc := 159) (v := (nI 47)) d_RF_analyse_159 (by decide) ?_
                      refine ex_icmp_ne (pc := 161) (tgt := 193) d_RF_analyse_161 rfl (fun c161 => ?_) (fun c161 => ?_)
                      · refine ex_iconst (pc := 193) (v := (nI 0)) d_RF_analyse_193 (by decide) ?_
                        refine ex_istore (pc := 194) d_RF_analyse_194 (by decide) ?_
                        refine ex_iload (pc := 196) d_RF_analyse_196 rfl ?_
                        refine ex_if_eq (pc := 198) (tgt := 207) d_RF_analyse_198 rfl (fun c198 => ?_) (fun c198 => ?_)
                        · exact absurd c198 (by decide)
                        · refine ex_iload_n (pc := 201) (i := 1) d_RF_analyse_201 rfl rfl ?_
                          refine ex_iconst (pc := 202) (v := (nI 3)) d_RF_analyse_202 (by decide) ?_
                          refine ex_iadd (pc := 203) d_RF_analyse_203 ?_
                          refine ex_top (nI_add p9 3) ?_
                          refine ex_goto (pc := 204) (tgt := 226) d_RF_analyse_204 rfl ?_
                          refine ex_istore (pc := 226) d_RF_analyse_226 (by decide) ?_
                          have h60 : a p9 = nI 60 := (ch_eq hA1 (show p9 ≤ 1000 by omega) (by decide) (by decide)).mp c58
                          have hn1 : nmB (a (p9 + 1)) = true := b2i_1 c81
                          have h62 : a (p9 + 2) = nI 62 := (ch_eq hA1 (show p9 + 2 ≤ 1000 by omega) (by decide) (by decide)).mp c103
                          have hk : tKd a p9 = 1 := by
                            unfold tKd
                            rw [if_pos h60, if_pos hn1, if_pos h62]
                          have hto : tTo a p9 = p9 + 3 := by
                            unfold tTo
                            rw [if_pos hk]
                          exact ls1_RF_analyse l G iv mp sp mo a n hA iv1 T Bl p9 hp hF hR hX hk _ _ _ (fun iv2 B2 w2 w3 w4 w5 w6 w7 hF2 hR2 => ih (p9 + 3) (tSp a T p9) B2 iv2 w2 w3 w4 w5 w6 w7 (by have := tTo_le hA.2.2.2 hp; omega) (by omega) hF2 hR2 (by rw [← hto]; exact tX_sp hX (by omega)) (by rw [if_pos hp, hto] at hv; exact hv))
                      · exact absurd ((ch_eq hA1 (show p9 + 1 ≤ 1000 by omega) (by decide) (by decide)).mp c161) (fun z => by have hn1 := b2i_1 c81; rw [z] at hn1; exact absurd hn1 (by decide))
                  · exact absurd ((ch_eq hA1 (show p9 + 2 ≤ 1000 by omega) (by decide) (by decide)).mp c103) (by rw [(ch_eq hA1 (show p9 + 2 ≤ 1000 by omega) (by decide) (by decide)).mp c126]; decide)

