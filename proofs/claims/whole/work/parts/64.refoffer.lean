/-! offers at a place (reference) -/
def ofrR (iv : Nat → Nat → Int32) (mn : Nat → Nat) (T : TS) (n q9 : Nat) : Int32 := if wthR iv n (nI q9) = true then -1 else if iv 94 (moR T (insD (isIn iv (nI q9)) T.cn)) = 0 then nI 0 else orrF iv (moR T (insD (isIn iv (nI q9)) T.cn)) (mn (moR T (insD (isIn iv (nI q9)) T.cn))) T.cn (insD (isIn iv (nI q9)) T.cn) (nI q9) (frtR iv mn) 8 0 (nI 0)
theorem nI_m1 (k : Nat) : nI (k + 1) + Int32.ofInt (-1) = nI k := by
  rw [← nI_s k, Int32.add_assoc, show nI 1 + Int32.ofInt (-1) = 0 by decide, Int32.add_zero]
set_option maxRecDepth 100000 in
set_option maxHeartbeats 4000000 in
theorem lp1_RF_offer {p : Program} {e : Env} {s : State} {m : MethodId} {args : Array Value} {below : List Frame} {meth : Method} {c : Code} (l : Launch) (G : ex_G) (iv : Nat → Nat → Int32) (mp : Nat → Nat) (sp mo : Nat) (mn : Nat → Nat) (hmn : ∀ k, k < 9 → iv 99 k = nI (mn k) ∧ mn k ≤ 10) (T : TS) (n : Nat) (hn : n ≤ 100) (h14 : iv 92 14 = nI n) (h16 : iv 92 16 = nI (T.cn + 1)) (hR : RR3 iv T) (hI : tI T n) (q9 : Nat) (hq : q9 ≤ n) (u : Nat) (hu : u ≤ T.cn) (v : Int32) (PP : Option Value → ex_H → Prop) (u7 u8 u9 : Option Value) (hK : ∀ w6 : Option Value, EXM M_RF_offer l G 4 PP p e s m args below meth c 178 [some (.ref 92), some (.int (nI q9)), some (.int (nI u)), some (.int (nI (moR T u))), some (.int (frtR iv mn)), some (.int v), w6, u7, u8, u9] [] (HP iv mp sp mo)) : ∀ (k q : Nat) (acc : Int32), q + k = T.cn + 1 → 0 < q → rstF iv (moR T u) (mn (moR T u)) u (fun q => decide (iv 109 q < nI q9)) k q acc = v → EXM M_RF_offer l G 4 (fun r h' => PP r h') p e s m args below meth c 120 [some (.ref 92), some (.int (nI q9)), some (.int (nI u)), some (.int (nI (moR T u))), some (.int (frtR iv mn)), some (.int acc), some (.int (nI q)), u7, u8, u9] [] (HP iv mp sp mo) := by
  intro k
  induction k with
  | zero =>
    intro q acc hik hq0 hv
    have hcn : T.cn ≤ 33 := by have := hI.1; omega
    have hm9 : moR T u < 9 := moR_lt hI hu
    have hv2 : acc = v := hv
    subst hv2
    refine ex_iload (pc := 120) d_RF_offer_120 rfl ?_
    refine ex_aload_n (pc := 122) (i := 0) d_RF_offer_122 rfl rfl ?_
    refine ex_getx (pc := 123) 12 16 (nI (T.cn + 1)) d_RF_offer_123 FL_RF_185 (Nat.le_of_ble_eq_true rfl) rfl h16 ?_
    refine ex_icmp_ge (pc := 126) (tgt := 178) d_RF_offer_126 rfl (fun c126 => ?_) (fun c126 => ?_)
    · exact hK _
    · exact absurd ((n_ge (by omega) (by omega)).mpr (by omega)) c126
  | succ k ih =>
    intro q acc hik hq0 hv
    have hcn : T.cn ≤ 33 := by have := hI.1; omega
    have hm9 : moR T u < 9 := moR_lt hI hu
    rw [rstF] at hv
    refine ex_iload (pc := 120) d_RF_offer_120 rfl ?_
    refine ex_aload_n (pc := 122) (i := 0) d_RF_offer_122 rfl rfl ?_
    refine ex_getx (pc := 123) 12 16 (nI (T.cn + 1)) d_RF_offer_123 FL_RF_185 (Nat.le_of_ble_eq_true rfl) rfl h16 ?_
    refine ex_icmp_ge (pc := 126) (tgt := 178) d_RF_offer_126 rfl (fun c126 => ?_) (fun c126 => ?_)
    · exact absurd ((n_ge (by omega) (by omega)).mp c126) (by omega)
    · refine ex_aload_n (pc := 129) (i := 0) d_RF_offer_129 rfl rfl ?_
      refine ex_getr (pc := 130) 12 18 d_RF_offer_130 FL_RF_56 (Nat.le_of_ble_eq_true rfl) rfl rfl ?_
      refine ex_iload (pc := 133) d_RF_offer_133 rfl ?_
      refine ex_ialdx (pc := 135) q (iv 108 q) d_RF_offer_135 (Nat.le_of_ble_eq_true rfl) rfl rfl rfl (nI_t (by omega)) (show q < 40 by omega) rfl ?_
      refine ex_iload_n (pc := 136) (i := 2) d_RF_offer_136 rfl rfl ?_
      refine ex_icmp_ne (pc := 137) (tgt := 172) d_RF_offer_137 rfl (fun c137 => ?_) (fun c137 => ?_)
      · refine ex_iinc (pc := 172) (v := (nI (q + 1))) d_RF_offer_172 rfl (nI_1 q) (by decide) ?_
        refine ex_goto (pc := 175) (tgt := 120) d_RF_offer_175 rfl ?_
        exact ih (q + 1) _ (by omega) (by omega) (by rw [if_neg (fun z => c137 z.1)] at hv; exact hv)
      · refine ex_aload_n (pc := 140) (i := 0) d_RF_offer_140 rfl rfl ?_
        refine ex_getr (pc := 141) 12 19 d_RF_offer_141 FL_RF_59 (Nat.le_of_ble_eq_true rfl) rfl rfl ?_
        refine ex_iload (pc := 144) d_RF_offer_144 rfl ?_
        refine ex_ialdx (pc := 146) q (iv 109 q) d_RF_offer_146 (Nat.le_of_ble_eq_true rfl) rfl rfl rfl (nI_t (by omega)) (show q < 40 by omega) rfl ?_
        refine ex_iload_n (pc := 147) (i := 1) d_RF_offer_147 rfl rfl ?_
        refine ex_icmp_ge (pc := 148) (tgt := 172) d_RF_offer_148 rfl (fun c148 => ?_) (fun c148 => ?_)
        · refine ex_iinc (pc := 172) (v := (nI (q + 1))) d_RF_offer_172 rfl (nI_1 q) (by decide) ?_
          refine ex_goto (pc := 175) (tgt := 120) d_RF_offer_175 rfl ?_
          exact ih (q + 1) _ (by omega) (by omega) (by rw [if_neg (fun z => by have z1 := i_lt.mp (of_decide_eq_true z.2); have z2 := i_le.mp c148; omega)] at hv; exact hv)
        · refine ex_aload_n (pc := 151) (i := 0) d_RF_offer_151 rfl rfl ?_
          refine ex_iload_n (pc := 152) (i := 3) d_RF_offer_152 rfl rfl ?_
          refine ex_iload (pc := 153) d_RF_offer_153 rfl ?_
          refine ex_iconst (pc := 155) (v := (nI 1)) d_RF_offer_155 (by decide) ?_
          refine ex_aload_n (pc := 156) (i := 0) d_RF_offer_156 rfl rfl ?_
          refine ex_getr (pc := 157) 12 17 d_RF_offer_157 FL_RF_53 (Nat.le_of_ble_eq_true rfl) rfl rfl ?_
          refine ex_iload (pc := 160) d_RF_offer_160 rfl ?_
          refine ex_ialdx (pc := 162) q (iv 107 q) d_RF_offer_162 (Nat.le_of_ble_eq_true rfl) rfl rfl rfl (nI_t (by omega)) (show q < 40 by omega) rfl ?_
          refine ex_bipush (pc := 163) (v := (nI 97)) d_RF_offer_163 (by decide) ?_
          refine ex_isub (pc := 165) d_RF_offer_165 ?_
          refine ex_ishl (pc := 166) d_RF_offer_166 ?_
          refine ex_callV (pc := 167) (M' := M_RF_step) (as := [.int (nI (moR T u)), .int acc, .int (nI 1 <<< ((iv 107 q - nI 97) &&& 31))]) (st := []) d_RF_offer_167 MW_RF_step MI_RF_step LK_RF_168 (Nat.le_of_ble_eq_true rfl) rfl rfl rfl (ct_RF_step l G iv mp sp mo (moR T u) (mn (moR T u)) (by omega) (hmn _ hm9).1 (hmn _ hm9).2 acc (nI 1 <<< ((iv 107 q - nI 97) &&& 31))) (ex_lt_rm (by decide)) ⟨Nat.le_refl _, Nat.le_refl _⟩ rfl rfl (Nat.le_of_ble_eq_true rfl) ?_
          rintro _ _ ⟨rfl, rfl⟩
          refine ex_istore (pc := 170) d_RF_offer_170 (by decide) ?_
          refine ex_iinc (pc := 172) (v := (nI (q + 1))) d_RF_offer_172 rfl (nI_1 q) (by decide) ?_
          refine ex_goto (pc := 175) (tgt := 120) d_RF_offer_175 rfl ?_
          exact ih (q + 1) _ (by omega) (by omega) (by rw [if_pos ⟨c137, decide_eq_true (i_lt.mpr (i_nle c148))⟩] at hv; exact hv)

set_option maxRecDepth 100000 in
set_option maxHeartbeats 4000000 in
theorem lp2_RF_offer {p : Program} {e : Env} {s : State} {m : MethodId} {args : Array Value} {below : List Frame} {meth : Method} {c : Code} (l : Launch) (G : ex_G) (iv : Nat → Nat → Int32) (mp : Nat → Nat) (sp mo : Nat) (mn : Nat → Nat) (hmn : ∀ k, k < 9 → iv 99 k = nI (mn k) ∧ mn k ≤ 10) (T : TS) (n : Nat) (hn : n ≤ 100) (h14 : iv 92 14 = nI n) (h16 : iv 92 16 = nI (T.cn + 1)) (hR : RR3 iv T) (hI : tI T n) (q9 : Nat) (hq : q9 ≤ n) (u : Nat) (hu : u ≤ T.cn) (gd : Int32) (i : Nat) (v : Int32) (PP : Option Value → ex_H → Prop) (hK : ∀ w9 : Option Value, EXM M_RF_offer l G 4 PP p e s m args below meth c 286 [some (.ref 92), some (.int (nI q9)), some (.int (nI u)), some (.int (nI (moR T u))), some (.int (frtR iv mn)), some (.int (rstF iv (moR T u) (mn (moR T u)) u (fun q => decide (iv 109 q < nI q9)) T.cn 1 (nI 1024))), some (.int gd), some (.int (nI i)), some (.int v), w9] [] (HP iv mp sp mo)) : ∀ (k q : Nat) (acc : Int32), q + k = T.cn + 1 → 0 < q → rstF iv (moR T u) (mn (moR T u)) u (fun q => decide (¬ iv 109 q < nI q9)) k q acc = v → EXM M_RF_offer l G 4 (fun r h' => PP r h') p e s m args below meth c 228 [some (.ref 92), some (.int (nI q9)), some (.int (nI u)), some (.int (nI (moR T u))), some (.int (frtR iv mn)), some (.int (rstF iv (moR T u) (mn (moR T u)) u (fun q => decide (iv 109 q < nI q9)) T.cn 1 (nI 1024))), some (.int gd), some (.int (nI i)), some (.int acc), some (.int (nI q))] [] (HP iv mp sp mo) := by
  intro k
  induction k with
  | zero =>
    intro q acc hik hq0 hv
    have hcn : T.cn ≤ 33 := by have := hI.1; omega
    have hm9 : moR T u < 9 := moR_lt hI hu
    have hv2 : acc = v := hv
    subst hv2
    refine ex_iload (pc := 228) d_RF_offer_228 rfl ?_
    refine ex_aload_n (pc := 230) (i := 0) d_RF_offer_230 rfl rfl ?_
    refine ex_getx (pc := 231) 12 16 (nI (T.cn + 1)) d_RF_offer_231 FL_RF_185 (Nat.le_of_ble_eq_true rfl) rfl h16 ?_
    refine ex_icmp_ge (pc := 234) (tgt := 286) d_RF_offer_234 rfl (fun c234 => ?_) (fun c234 => ?_)
    · exact hK _
    · exact absurd ((n_ge (by omega) (by omega)).mpr (by omega)) c234
  | succ k ih =>
    intro q acc hik hq0 hv
    have hcn : T.cn ≤ 33 := by have := hI.1; omega
    have hm9 : moR T u < 9 := moR_lt hI hu
    rw [rstF] at hv
    refine ex_iload (pc := 228) d_RF_offer_228 rfl ?_
    refine ex_aload_n (pc := 230) (i := 0) d_RF_offer_230 rfl rfl ?_
    refine ex_getx (pc := 231) 12 16 (nI (T.cn + 1)) d_RF_offer_231 FL_RF_185 (Nat.le_of_ble_eq_true rfl) rfl h16 ?_
    refine ex_icmp_ge (pc := 234) (tgt := 286) d_RF_offer_234 rfl (fun c234 => ?_) (fun c234 => ?_)
    · exact absurd ((n_ge (by omega) (by omega)).mp c234) (by omega)
    · refine ex_aload_n (pc := 237) (i := 0) d_RF_offer_237 rfl rfl ?_
      refine ex_getr (pc := 238) 12 18 d_RF_offer_238 FL_RF_56 (Nat.le_of_ble_eq_true rfl) rfl rfl ?_
      refine ex_iload (pc := 241) d_RF_offer_241 rfl ?_
      refine ex_ialdx (pc := 243) q (iv 108 q) d_RF_offer_243 (Nat.le_of_ble_eq_true rfl) rfl rfl rfl (nI_t (by omega)) (show q < 40 by omega) rfl ?_
      refine ex_iload_n (pc := 244) (i := 2) d_RF_offer_244 rfl rfl ?_
      refine ex_icmp_ne (pc := 245) (tgt := 280) d_RF_offer_245 rfl (fun c245 => ?_) (fun c245 => ?_)
      · refine ex_iinc (pc := 280) (v := (nI (q + 1))) d_RF_offer_280 rfl (nI_1 q) (by decide) ?_
        refine ex_goto (pc := 283) (tgt := 228) d_RF_offer_283 rfl ?_
        exact ih (q + 1) _ (by omega) (by omega) (by rw [if_neg (fun z => c245 z.1)] at hv; exact hv)
      · refine ex_aload_n (pc := 248) (i := 0) d_RF_offer_248 rfl rfl ?_
        refine ex_getr (pc := 249) 12 19 d_RF_offer_249 FL_RF_59 (Nat.le_of_ble_eq_true rfl) rfl rfl ?_
        refine ex_iload (pc := 252) d_RF_offer_252 rfl ?_
        refine ex_ialdx (pc := 254) q (iv 109 q) d_RF_offer_254 (Nat.le_of_ble_eq_true rfl) rfl rfl rfl (nI_t (by omega)) (show q < 40 by omega) rfl ?_
        refine ex_iload_n (pc := 255) (i := 1) d_RF_offer_255 rfl rfl ?_
        refine ex_icmp_lt (pc := 256) (tgt := 280) d_RF_offer_256 rfl (fun c256 => ?_) (fun c256 => ?_)
        · refine ex_iinc (pc := 280) (v := (nI (q + 1))) d_RF_offer_280 rfl (nI_1 q) (by decide) ?_
          refine ex_goto (pc := 283) (tgt := 228) d_RF_offer_283 rfl ?_
          exact ih (q + 1) _ (by omega) (by omega) (by rw [if_neg (fun z => (of_decide_eq_true z.2) c256)] at hv; exact hv)
        · refine ex_aload_n (pc := 259) (i := 0) d_RF_offer_259 rfl rfl ?_
          refine ex_iload_n (pc := 260) (i := 3) d_RF_offer_260 rfl rfl ?_
          refine ex_iload (pc := 261) d_RF_offer_261 rfl ?_
          refine ex_iconst (pc := 263) (v := (nI 1)) d_RF_offer_263 (by decide) ?_
          refine ex_aload_n (pc := 264) (i := 0) d_RF_offer_264 rfl rfl ?_
          refine ex_getr (pc := 265) 12 17 d_RF_offer_265 FL_RF_53 (Nat.le_of_ble_eq_true rfl) rfl rfl ?_
          refine ex_iload (pc := 268) d_RF_offer_268 rfl ?_
          refine ex_ialdx (pc := 270) q (iv 107 q) d_RF_offer_270 (Nat.le_of_ble_eq_true rfl) rfl rfl rfl (nI_t (by omega)) (show q < 40 by omega) rfl ?_
          refine ex_bipush (pc := 271) (v := (nI 97)) d_RF_offer_271 (by decide) ?_
          refine ex_isub (pc := 273) d_RF_offer_273 ?_
          refine ex_ishl (pc := 274) d_RF_offer_274 ?_
          refine ex_callV (pc := 275) (M' := M_RF_step) (as := [.int (nI (moR T u)), .int acc, .int (nI 1 <<< ((iv 107 q - nI 97) &&& 31))]) (st := []) d_RF_offer_275 MW_RF_step MI_RF_step LK_RF_168 (Nat.le_of_ble_eq_true rfl) rfl rfl rfl (ct_RF_step l G iv mp sp mo (moR T u) (mn (moR T u)) (by omega) (hmn _ hm9).1 (hmn _ hm9).2 acc (nI 1 <<< ((iv 107 q - nI 97) &&& 31))) (ex_lt_rm (by decide)) ⟨Nat.le_refl _, Nat.le_refl _⟩ rfl rfl (Nat.le_of_ble_eq_true rfl) ?_
          rintro _ _ ⟨rfl, rfl⟩
          refine ex_istore (pc := 278) d_RF_offer_278 (by decide) ?_
          refine ex_iinc (pc := 280) (v := (nI (q + 1))) d_RF_offer_280 rfl (nI_1 q) (by decide) ?_
          refine ex_goto (pc := 283) (tgt := 228) d_RF_offer_283 rfl ?_
          exact ih (q + 1) _ (by omega) (by omega) (by rw [if_pos ⟨c245, decide_eq_true c256⟩] at hv; exact hv)

set_option maxRecDepth 100000 in
set_option maxHeartbeats 4000000 in
theorem lp3_RF_offer {p : Program} {e : Env} {s : State} {m : MethodId} {args : Array Value} {below : List Frame} {meth : Method} {c : Code} (l : Launch) (G : ex_G) (iv : Nat → Nat → Int32) (mp : Nat → Nat) (sp mo : Nat) (mn : Nat → Nat) (hmn : ∀ k, k < 9 → iv 99 k = nI (mn k) ∧ mn k ≤ 10) (T : TS) (n : Nat) (hn : n ≤ 100) (h14 : iv 92 14 = nI n) (h16 : iv 92 16 = nI (T.cn + 1)) (hR : RR3 iv T) (hI : tI T n) (q9 : Nat) (hq : q9 ≤ n) (u : Nat) (hu : u ≤ T.cn) (v : Int32) : ∀ (k i : Nat) (acc : Int32) (u8 u9 : Option Value), i + k = 8 → orrF iv (moR T u) (mn (moR T u)) T.cn u (nI q9) (frtR iv mn) k i acc = v → EXM M_RF_offer l G 4 (fun r h' => h' = HP iv mp sp mo ∧ r = some (.int v)) p e s m args below meth c 184 [some (.ref 92), some (.int (nI q9)), some (.int (nI u)), some (.int (nI (moR T u))), some (.int (frtR iv mn)), some (.int (rstF iv (moR T u) (mn (moR T u)) u (fun q => decide (iv 109 q < nI q9)) T.cn 1 (nI 1024))), some (.int acc), some (.int (nI i)), u8, u9] [] (HP iv mp sp mo) := by
  intro k
  induction k with
  | zero =>
    intro i acc u8 u9 hik hv
    subst hv
    refine ex_iload (pc := 184) d_RF_offer_184 rfl ?_
    refine ex_bipush (pc := 186) (v := (nI 8)) d_RF_offer_186 (by decide) ?_
    refine ex_icmp_ge (pc := 188) (tgt := 311) d_RF_offer_188 rfl (fun c188 => ?_) (fun c188 => ?_)
    · refine ex_iload (pc := 311) d_RF_offer_311 rfl ?_
      refine ex_iret (ty := .int) d_RF_offer_313 rfl rfl rfl (Nat.le_refl _) ?_
      exact ⟨rfl, rfl⟩
    · exact absurd ((n_ge (by omega) (by omega)).mpr (by omega)) c188
  | succ k ih =>
    intro i acc u8 u9 hik hv
    have hcn : T.cn ≤ 33 := by have := hI.1; omega
    have hm9 : moR T u < 9 := moR_lt hI hu
    rw [orrF] at hv
    refine ex_iload (pc := 184) d_RF_offer_184 rfl ?_
    refine ex_bipush (pc := 186) (v := (nI 8)) d_RF_offer_186 (by decide) ?_
    refine ex_icmp_ge (pc := 188) (tgt := 311) d_RF_offer_188 rfl (fun c188 => ?_) (fun c188 => ?_)
    · exact absurd ((n_ge (by omega) (by omega)).mp c188) (by omega)
    · refine ex_aload_n (pc := 191) (i := 0) d_RF_offer_191 rfl rfl ?_
      refine ex_iload (pc := 192) d_RF_offer_192 rfl ?_
      refine ex_iload (pc := 194) d_RF_offer_194 rfl ?_
      refine ex_callV (pc := 196) (M' := M_RF_isBit) (as := [.int (frtR iv mn), .int (nI i)]) (st := []) d_RF_offer_196 MW_RF_isBit MI_RF_isBit LK_RF_231 (Nat.le_of_ble_eq_true rfl) rfl rfl rfl (ct_RF_isBit l G (HP iv mp sp mo) 92 (Nat.le_of_ble_eq_true rfl) (frtR iv mn) (nI i)) (ex_lt_rm (by decide)) ⟨Nat.le_refl _, Nat.le_refl _⟩ rfl rfl (Nat.le_of_ble_eq_true rfl) ?_
      rintro _ _ ⟨rfl, rfl⟩
      refine ex_if_ne (pc := 199) (tgt := 205) d_RF_offer_199 rfl (fun c199 => ?_) (fun c199 => ?_)
      · refine ex_aload_n (pc := 205) (i := 0) d_RF_offer_205 rfl rfl ?_
        refine ex_iload_n (pc := 206) (i := 3) d_RF_offer_206 rfl rfl ?_
        refine ex_aload_n (pc := 207) (i := 0) d_RF_offer_207 rfl rfl ?_
        refine ex_iload_n (pc := 208) (i := 3) d_RF_offer_208 rfl rfl ?_
        refine ex_iload (pc := 209) d_RF_offer_209 rfl ?_
        refine ex_iconst (pc := 211) (v := (nI 1)) d_RF_offer_211 (by decide) ?_
        refine ex_iload (pc := 212) d_RF_offer_212 rfl ?_
        refine ex_ishl (pc := 214) d_RF_offer_214 ?_
        refine ex_callV (pc := 215) (M' := M_RF_step) (as := [.int (nI (moR T u)), .int (rstF iv (moR T u) (mn (moR T u)) u (fun q => decide (iv 109 q < nI q9)) T.cn 1 (nI 1024)), .int (nI 1 <<< (nI i &&& 31))]) (st := [.int (nI (moR T u)), .ref 92]) d_RF_offer_215 MW_RF_step MI_RF_step LK_RF_168 (Nat.le_of_ble_eq_true rfl) rfl rfl rfl (ct_RF_step l G iv mp sp mo (moR T u) (mn (moR T u)) (by omega) (hmn _ hm9).1 (hmn _ hm9).2 (rstF iv (moR T u) (mn (moR T u)) u (fun q => decide (iv 109 q < nI q9)) T.cn 1 (nI 1024)) (nI 1 <<< (nI i &&& 31))) (ex_lt_rm (by decide)) ⟨Nat.le_refl _, Nat.le_refl _⟩ rfl rfl (Nat.le_of_ble_eq_true rfl) ?_
        rintro _ _ ⟨rfl, rfl⟩
        refine ex_iload (pc := 218) d_RF_offer_218 rfl ?_
        refine ex_callV (pc := 220) (M' := M_RF_steps) (as := [.int (nI (moR T u)), .int (stpR iv (moR T u) (mn (moR T u)) (rstF iv (moR T u) (mn (moR T u)) u (fun q => decide (iv 109 q < nI q9)) T.cn 1 (nI 1024)) (nI 1 <<< (nI i &&& 31))), .int (frtR iv mn)]) (st := []) d_RF_offer_220 MW_RF_steps MI_RF_steps LK_RF_172 (Nat.le_of_ble_eq_true rfl) rfl rfl rfl (ct_RF_steps l G iv mp sp mo (moR T u) (mn (moR T u)) (by omega) (hmn _ hm9).1 (hmn _ hm9).2 (stpR iv (moR T u) (mn (moR T u)) (rstF iv (moR T u) (mn (moR T u)) u (fun q => decide (iv 109 q < nI q9)) T.cn 1 (nI 1024)) (nI 1 <<< (nI i &&& 31))) (frtR iv mn)) (ex_lt_rm (by decide)) ⟨Nat.le_refl _, Nat.le_refl _⟩ rfl rfl (Nat.le_of_ble_eq_true rfl) ?_
        rintro _ _ ⟨rfl, rfl⟩
        refine ex_istore (pc := 223) d_RF_offer_223 (by decide) ?_
        refine ex_iconst (pc := 225) (v := (nI 1)) d_RF_offer_225 (by decide) ?_
        refine ex_istore (pc := 226) d_RF_offer_226 (by decide) ?_
        refine lp2_RF_offer l G iv mp sp mo mn hmn T n hn h14 h16 hR hI q9 hq u hu acc i _ _ (fun w9 => ?_) T.cn 1 (stsR iv (moR T u) (mn (moR T u)) (stpR iv (moR T u) (mn (moR T u)) (rstF iv (moR T u) (mn (moR T u)) u (fun q => decide (iv 109 q < nI q9)) T.cn 1 (nI 1024)) (nI 1 <<< (nI i &&& 31))) (frtR iv mn)) (by omega) (by omega) rfl
        refine ex_aload_n (pc := 286) (i := 0) d_RF_offer_286 rfl rfl ?_
        refine ex_iload_n (pc := 287) (i := 3) d_RF_offer_287 rfl rfl ?_
        refine ex_iload (pc := 288) d_RF_offer_288 rfl ?_
        refine ex_callV (pc := 290) (M' := M_RF_accepts) (as := [.int (nI (moR T u)), .int (rstF iv (moR T u) (mn (moR T u)) u (fun q => decide (¬ iv 109 q < nI q9)) T.cn 1 (stsR iv (moR T u) (mn (moR T u)) (stpR iv (moR T u) (mn (moR T u)) (rstF iv (moR T u) (mn (moR T u)) u (fun q => decide (iv 109 q < nI q9)) T.cn 1 (nI 1024)) (nI 1 <<< (nI i &&& 31))) (frtR iv mn)))]) (st := []) d_RF_offer_290 MW_RF_accepts MI_RF_accepts LK_RF_175 (Nat.le_of_ble_eq_true rfl) rfl rfl rfl (ct_RF_accepts l G iv mp sp mo (moR T u) (by omega) _) (ex_lt_rm (by decide)) ⟨Nat.le_refl _, Nat.le_refl _⟩ rfl rfl (Nat.le_of_ble_eq_true rfl) ?_
        rintro _ _ ⟨rfl, rfl⟩
        refine ex_top (show _ = b2i (orr1 iv (moR T u) (mn (moR T u)) T.cn u (nI q9) (frtR iv mn) i) from rfl) ?_
        refine ex_if_eq (pc := 293) (tgt := 305) d_RF_offer_293 rfl (fun c293 => ?_) (fun c293 => ?_)
        · refine ex_iinc (pc := 305) (v := (nI (i + 1))) d_RF_offer_305 rfl (nI_1 i) (by decide) ?_
          refine ex_goto (pc := 308) (tgt := 184) d_RF_offer_308 rfl ?_
          exact ih (i + 1) _ _ _ (by omega) (by rw [if_pos (of_decide_eq_true (b2i_1 c199)), if_neg (by rw [b2i_0 c293]; decide)] at hv; exact hv)
        · refine ex_iload (pc := 296) d_RF_offer_296 rfl ?_
          refine ex_iconst (pc := 298) (v := (nI 1)) d_RF_offer_298 (by decide) ?_
          refine ex_iload (pc := 299) d_RF_offer_299 rfl ?_
          refine ex_ishl (pc := 301) d_RF_offer_301 ?_
          refine ex_ior (pc := 302) d_RF_offer_302 ?_
          refine ex_istore (pc := 303) d_RF_offer_303 (by decide) ?_
          refine ex_iinc (pc := 305) (v := (nI (i + 1))) d_RF_offer_305 rfl (nI_1 i) (by decide) ?_
          refine ex_goto (pc := 308) (tgt := 184) d_RF_offer_308 rfl ?_
          exact ih (i + 1) _ _ _ (by omega) (by rw [if_pos (of_decide_eq_true (b2i_1 c199)), if_pos (b2i_1 c293)] at hv; exact hv)
      · refine ex_goto (pc := 202) (tgt := 305) d_RF_offer_202 rfl ?_
        refine ex_iinc (pc := 305) (v := (nI (i + 1))) d_RF_offer_305 rfl (nI_1 i) (by decide) ?_
        refine ex_goto (pc := 308) (tgt := 184) d_RF_offer_308 rfl ?_
        exact ih (i + 1) _ _ _ (by omega) (by rw [if_neg (of_decide_eq_false (b2i_0 c199))] at hv; exact hv)

set_option maxRecDepth 100000 in
set_option maxHeartbeats 4000000 in
theorem lt_RF_offer {p : Program} {e : Env} {s : State} {m : MethodId} {args : Array Value} {below : List Frame} {meth : Method} {c : Code} (l : Launch) (G : ex_G) (iv : Nat → Nat → Int32) (mp : Nat → Nat) (sp mo : Nat) (mn : Nat → Nat) (hmn : ∀ k, k < 9 → iv 99 k = nI (mn k) ∧ mn k ≤ 10) (T : TS) (n : Nat) (hn : n ≤ 100) (h14 : iv 92 14 = nI n) (h16 : iv 92 16 = nI (T.cn + 1)) (hR : RR3 iv T) (hI : tI T n) (q9 : Nat) (hq : q9 ≤ n) (u : Nat) (hu : u ≤ T.cn) (u3 u4 u5 u6 u7 u8 u9 : Option Value) : EXM M_RF_offer l G 4 (fun r h' => h' = HP iv mp sp mo ∧ r = some (.int (if iv 94 (moR T u) = 0 then nI 0 else orrF iv (moR T u) (mn (moR T u)) T.cn u (nI q9) (frtR iv mn) 8 0 (nI 0)))) p e s m args below meth c 89 [some (.ref 92), some (.int (nI q9)), some (.int (nI u)), u3, u4, u5, u6, u7, u8, u9] [] (HP iv mp sp mo) := by
  have hcn : T.cn ≤ 33 := by have := hI.1; omega
  have hm9 : moR T u < 9 := moR_lt hI hu
  have hmo : (if u = 0 then nI 8 else iv 107 u - nI 97) = nI (moR T u) := by
    by_cases z : u = 0
    · rw [if_pos z, z, moR_0 hI]
    · have hnm := (hI.2.2.2.1 u (by omega) hu).1
      rw [if_neg z, (hR.1 u hu).1, nmS hnm]
      unfold moR
      rw [(row_nm hnm).1]
  refine ex_aload_n (pc := 89) (i := 0) d_RF_offer_89 rfl rfl ?_
  refine ex_iload_n (pc := 90) (i := 2) d_RF_offer_90 rfl rfl ?_
  refine ex_callV (pc := 91) (M' := M_RF_modelOf) (as := [.int (nI u)]) (st := []) d_RF_offer_91 MW_RF_modelOf MI_RF_modelOf LK_RF_225 (Nat.le_of_ble_eq_true rfl) rfl rfl rfl (ct_RF_modelOf l G iv mp sp mo u (by omega)) (ex_lt_rm (by decide)) ⟨Nat.le_refl _, Nat.le_refl _⟩ rfl rfl (Nat.le_of_ble_eq_true rfl) ?_
  rintro _ _ ⟨rfl, rfl⟩
  refine ex_top hmo ?_
  refine ex_istore_n (pc := 94) (i := 3) d_RF_offer_94 rfl (by decide) ?_
  refine ex_aload_n (pc := 95) (i := 0) d_RF_offer_95 rfl rfl ?_
  refine ex_getr (pc := 96) 12 2 d_RF_offer_96 FL_RF_13 (Nat.le_of_ble_eq_true rfl) rfl rfl ?_
  refine ex_iload_n (pc := 99) (i := 3) d_RF_offer_99 rfl rfl ?_
  refine ex_zaldx (pc := 100) (moR T u) (iv 94 (moR T u)) d_RF_offer_100 (Nat.le_of_ble_eq_true rfl) rfl rfl rfl (nI_t (by omega)) (show (moR T u) < 10 by omega) rfl ?_
  refine ex_if_ne (pc := 101) (tgt := 106) d_RF_offer_101 rfl (fun c101 => ?_) (fun c101 => ?_)
  · refine ex_aload_n (pc := 106) (i := 0) d_RF_offer_106 rfl rfl ?_
    refine ex_callV (pc := 107) (M' := M_RF_fertile) (as := []) (st := []) d_RF_offer_107 MW_RF_fertile MI_RF_fertile LK_RF_228 (Nat.le_of_ble_eq_true rfl) rfl rfl rfl (ct_RF_fertile l G iv mp sp mo mn (fun k hk => (hmn k hk).1) (fun k hk => (hmn k hk).2)) (ex_lt_rm (by decide)) ⟨Nat.le_refl _, Nat.le_refl _⟩ rfl rfl (Nat.le_of_ble_eq_true rfl) ?_
    rintro _ _ ⟨rfl, rfl⟩
    refine ex_istore (pc := 110) d_RF_offer_110 (by decide) ?_
    refine ex_sipush (pc := 112) (v := (nI 1024)) d_RF_offer_112 (by decide) ?_
    refine ex_istore (pc := 115) d_RF_offer_115 (by decide) ?_
    refine ex_iconst (pc := 117) (v := (nI 1)) d_RF_offer_117 (by decide) ?_
    refine ex_istore (pc := 118) d_RF_offer_118 (by decide) ?_
    refine lp1_RF_offer l G iv mp sp mo mn hmn T n hn h14 h16 hR hI q9 hq u hu _ _ _ _ _ (fun w6 => ?_) T.cn 1 (nI 1024) (by omega) (by omega) rfl
    refine ex_iconst (pc := 178) (v := (nI 0)) d_RF_offer_178 (by decide) ?_
    refine ex_istore (pc := 179) d_RF_offer_179 (by decide) ?_
    refine ex_iconst (pc := 181) (v := (nI 0)) d_RF_offer_181 (by decide) ?_
    refine ex_istore (pc := 182) d_RF_offer_182 (by decide) ?_
    exact lp3_RF_offer l G iv mp sp mo mn hmn T n hn h14 h16 hR hI q9 hq u hu _ 8 0 (nI 0) _ _ (by omega) (by rw [if_neg c101])
  · refine ex_iconst (pc := 104) (v := (nI 0)) d_RF_offer_104 (by decide) ?_
    refine ex_iret (ty := .int) d_RF_offer_105 rfl rfl rfl (Nat.le_refl _) ?_
    exact ⟨rfl, by rw [if_pos c101]⟩
set_option maxRecDepth 100000 in
set_option maxHeartbeats 4000000 in
theorem lp4_RF_offer {p : Program} {e : Env} {s : State} {m : MethodId} {args : Array Value} {below : List Frame} {meth : Method} {c : Code} (l : Launch) (G : ex_G) (iv : Nat → Nat → Int32) (mp : Nat → Nat) (sp mo : Nat) (mn : Nat → Nat) (hmn : ∀ k, k < 9 → iv 99 k = nI (mn k) ∧ mn k ≤ 10) (T : TS) (n : Nat) (hn : n ≤ 100) (h14 : iv 92 14 = nI n) (h16 : iv 92 16 = nI (T.cn + 1)) (hR : RR3 iv T) (hI : tI T n) (q9 : Nat) (hq : q9 ≤ n) (u : Nat) (u3 u4 u5 u6 u7 u8 u9 : Option Value) : ∀ (k : Nat), k ≤ T.cn → insD (isIn iv (nI q9)) k = u → EXM M_RF_offer l G 4 (fun r h' => h' = HP iv mp sp mo ∧ r = some (.int (if iv 94 (moR T u) = 0 then nI 0 else orrF iv (moR T u) (mn (moR T u)) T.cn u (nI q9) (frtR iv mn) 8 0 (nI 0)))) p e s m args below meth c 50 [some (.ref 92), some (.int (nI q9)), some (.int (nI k)), u3, u4, u5, u6, u7, u8, u9] [] (HP iv mp sp mo) := by
  intro k
  induction k with
  | zero =>
    intro hk hv
    have hv2 : 0 = u := hv
    subst hv2
    refine ex_iload_n (pc := 50) (i := 2) d_RF_offer_50 rfl rfl ?_
    refine ex_if_le (pc := 51) (tgt := 89) d_RF_offer_51 rfl (fun c51 => ?_) (fun c51 => ?_)
    · exact lt_RF_offer l G iv mp sp mo mn hmn T n hn h14 h16 hR hI q9 hq 0 (by omega) _ _ _ _ _ _ _
    · exact absurd (by decide) c51
  | succ k ih =>
    intro hk hv
    have hcn : T.cn ≤ 33 := by have := hI.1; omega
    rw [insD] at hv
    refine ex_iload_n (pc := 50) (i := 2) d_RF_offer_50 rfl rfl ?_
    refine ex_if_le (pc := 51) (tgt := 89) d_RF_offer_51 rfl (fun c51 => ?_) (fun c51 => ?_)
    · exact absurd ((n_ge (b := 0) (by omega) (by omega)).mp c51) (by omega)
    · refine ex_aload_n (pc := 54) (i := 0) d_RF_offer_54 rfl rfl ?_
      refine ex_getr (pc := 55) 12 21 d_RF_offer_55 FL_RF_65 (Nat.le_of_ble_eq_true rfl) rfl rfl ?_
      refine ex_iload_n (pc := 58) (i := 2) d_RF_offer_58 rfl rfl ?_
      refine ex_ialdx (pc := 59) (k + 1) (iv 111 (k + 1)) d_RF_offer_59 (Nat.le_of_ble_eq_true rfl) rfl rfl rfl (nI_t (by omega)) (show k + 1 < 40 by omega) rfl ?_
      refine ex_if_lt (pc := 60) (tgt := 83) d_RF_offer_60 rfl (fun c60 => ?_) (fun c60 => ?_)
      · refine ex_iinc (pc := 83) (v := (nI k)) d_RF_offer_83 rfl (nI_m1 k) (by decide) ?_
        refine ex_goto (pc := 86) (tgt := 50) d_RF_offer_86 rfl ?_
        exact ih (by omega) (by rw [if_neg (by unfold isIn; rw [decide_eq_false (fun z => z c60), Bool.false_and]; decide)] at hv; exact hv)
      · refine ex_iload_n (pc := 63) (i := 1) d_RF_offer_63 rfl rfl ?_
        refine ex_aload_n (pc := 64) (i := 0) d_RF_offer_64 rfl rfl ?_
        refine ex_getr (pc := 65) 12 21 d_RF_offer_65 FL_RF_65 (Nat.le_of_ble_eq_true rfl) rfl rfl ?_
        refine ex_iload_n (pc := 68) (i := 2) d_RF_offer_68 rfl rfl ?_
        refine ex_ialdx (pc := 69) (k + 1) (iv 111 (k + 1)) d_RF_offer_69 (Nat.le_of_ble_eq_true rfl) rfl rfl rfl (nI_t (by omega)) (show k + 1 < 40 by omega) rfl ?_
        refine ex_icmp_lt (pc := 70) (tgt := 83) d_RF_offer_70 rfl (fun c70 => ?_) (fun c70 => ?_)
        · refine ex_iinc (pc := 83) (v := (nI k)) d_RF_offer_83 rfl (nI_m1 k) (by decide) ?_
          refine ex_goto (pc := 86) (tgt := 50) d_RF_offer_86 rfl ?_
          exact ih (by omega) (by rw [if_neg (by unfold isIn; rw [decide_eq_false (p := ¬ nI q9 < iv 111 (k + 1)) (fun z => z c70), Bool.false_and, Bool.and_false]; decide)] at hv; exact hv)
        · refine ex_iload_n (pc := 73) (i := 1) d_RF_offer_73 rfl rfl ?_
          refine ex_aload_n (pc := 74) (i := 0) d_RF_offer_74 rfl rfl ?_
          refine ex_getr (pc := 75) 12 22 d_RF_offer_75 FL_RF_68 (Nat.le_of_ble_eq_true rfl) rfl rfl ?_
          refine ex_iload_n (pc := 78) (i := 2) d_RF_offer_78 rfl rfl ?_
          refine ex_ialdx (pc := 79) (k + 1) (iv 112 (k + 1)) d_RF_offer_79 (Nat.le_of_ble_eq_true rfl) rfl rfl rfl (nI_t (by omega)) (show k + 1 < 40 by omega) rfl ?_
          refine ex_icmp_le (pc := 80) (tgt := 89) d_RF_offer_80 rfl (fun c80 => ?_) (fun c80 => ?_)
          · rw [if_pos (by unfold isIn; rw [decide_eq_true c60, decide_eq_true c70, decide_eq_true (p := ¬ iv 112 (k + 1) < nI q9) (fun z => by have z1 := i_lt.mp z; have z2 := i_le.mp c80; omega)]; rfl)] at hv
            subst hv
            exact lt_RF_offer l G iv mp sp mo mn hmn T n hn h14 h16 hR hI q9 hq (k + 1) (by omega) _ _ _ _ _ _ _
          · refine ex_iinc (pc := 83) (v := (nI k)) d_RF_offer_83 rfl (nI_m1 k) (by decide) ?_
            refine ex_goto (pc := 86) (tgt := 50) d_RF_offer_86 rfl ?_
            exact ih (by omega) (by rw [if_neg (by unfold isIn; rw [decide_eq_false (p := ¬ iv 112 (k + 1) < nI q9) (fun z => z (i_lt.mpr (i_nle c80))), Bool.and_false, Bool.and_false]; decide)] at hv; exact hv)

set_option maxRecDepth 100000 in
set_option maxHeartbeats 4000000 in
theorem ct_RF_offer (l : Launch) (G : ex_G) (iv : Nat → Nat → Int32) (mp : Nat → Nat) (sp mo : Nat) (mn : Nat → Nat) (hmn : ∀ k, k < 9 → iv 99 k = nI (mn k) ∧ mn k ≤ 10) (T : TS) (n : Nat) (hn : n ≤ 100) (h14 : iv 92 14 = nI n) (h16 : iv 92 16 = nI (T.cn + 1)) (hR : RR3 iv T) (hI : tI T n) (q9 : Nat) (hq : q9 ≤ n) : CT l G 4 M_RF_offer [.ref 92, .int (nI q9)] (HP iv mp sp mo) 0 0 (fun r h' => h' = HP iv mp sp mo ∧ r = some (.int (ofrR iv mn T n q9))) := by
  refine ex_enter (by decide) (Nat.le_of_ble_eq_true rfl) (fun v hv => by simp at hv; rcases hv with rfl | rfl <;> rfl) (fun p e s m args below meth c => ?_)
  have hcn : T.cn ≤ 33 := by have := hI.1; omega
  have hqq : (nI q9).toInt.toNat = q9 := by rw [nI_t (by omega)]; rfl
  refine ex_iload_n (pc := 0) (i := 1) d_RF_offer_0 rfl rfl ?_
  refine ex_if_lt (pc := 1) (tgt := 12) d_RF_offer_1 rfl (fun c1 => ?_) (fun c1 => ?_)
  · exact absurd c1 (i_ge0 (by omega))
  · refine ex_iload_n (pc := 4) (i := 1) d_RF_offer_4 rfl rfl ?_
    refine ex_aload_n (pc := 5) (i := 0) d_RF_offer_5 rfl rfl ?_
    refine ex_getx (pc := 6) 12 14 (nI n) d_RF_offer_6 FL_RF_179 (Nat.le_of_ble_eq_true rfl) rfl h14 ?_
    refine ex_icmp_le (pc := 9) (tgt := 14) d_RF_offer_9 rfl (fun c9 => ?_) (fun c9 => ?_)
    · refine ex_iload_n (pc := 14) (i := 1) d_RF_offer_14 rfl rfl ?_
      refine ex_aload_n (pc := 15) (i := 0) d_RF_offer_15 rfl rfl ?_
      refine ex_getx (pc := 16) 12 14 (nI n) d_RF_offer_16 FL_RF_179 (Nat.le_of_ble_eq_true rfl) rfl h14 ?_
      refine ex_icmp_ge (pc := 19) (tgt := 43) d_RF_offer_19 rfl (fun c19 => ?_) (fun c19 => ?_)
      · refine ex_aload_n (pc := 43) (i := 0) d_RF_offer_43 rfl rfl ?_
        refine ex_getx (pc := 44) 12 16 (nI (T.cn + 1)) d_RF_offer_44 FL_RF_185 (Nat.le_of_ble_eq_true rfl) rfl h16 ?_
        refine ex_iconst (pc := 47) (v := (nI 1)) d_RF_offer_47 (by decide) ?_
        refine ex_isub (pc := 48) d_RF_offer_48 ?_
        refine ex_top (pk_sub (show 1 ≤ T.cn + 1 by omega)) ?_
        refine ex_istore_n (pc := 49) (i := 2) d_RF_offer_49 rfl (by decide) ?_
        have hw : wthR iv n (nI q9) = false := by unfold wthR; rw [decide_eq_false (fun z => by have z1 := (n_lt (by omega) (by omega)).mp z; have z2 := (n_ge (by omega) (by omega)).mp c19; omega)]; rfl
        exact (by
          rw [ofrR, if_neg (by rw [hw]; decide)]
          exact lp4_RF_offer l G iv mp sp mo mn hmn T n hn h14 h16 hR hI q9 hq _ _ _ _ _ _ _ _ T.cn (Nat.le_refl _) rfl)
      · refine ex_aload_n (pc := 22) (i := 0) d_RF_offer_22 rfl rfl ?_
        refine ex_getr (pc := 23) 12 26 d_RF_offer_23 FL_RF_80 (Nat.le_of_ble_eq_true rfl) rfl rfl ?_
        refine ex_iload_n (pc := 26) (i := 1) d_RF_offer_26 rfl rfl ?_
        refine ex_ialdx (pc := 27) q9 (iv 116 q9) d_RF_offer_27 (Nat.le_of_ble_eq_true rfl) rfl rfl rfl (nI_t (by omega)) (show q9 < 101 by omega) rfl ?_
        refine ex_if_lt (pc := 28) (tgt := 43) d_RF_offer_28 rfl (fun c28 => ?_) (fun c28 => ?_)
        · refine ex_aload_n (pc := 43) (i := 0) d_RF_offer_43 rfl rfl ?_
          refine ex_getx (pc := 44) 12 16 (nI (T.cn + 1)) d_RF_offer_44 FL_RF_185 (Nat.le_of_ble_eq_true rfl) rfl h16 ?_
          refine ex_iconst (pc := 47) (v := (nI 1)) d_RF_offer_47 (by decide) ?_
          refine ex_isub (pc := 48) d_RF_offer_48 ?_
          refine ex_top (pk_sub (show 1 ≤ T.cn + 1 by omega)) ?_
          refine ex_istore_n (pc := 49) (i := 2) d_RF_offer_49 rfl (by decide) ?_
          have hw : wthR iv n (nI q9) = false := by unfold wthR; rw [hqq, decide_eq_false (p := ¬ iv 116 q9 < 0) (fun z => z c28), Bool.false_and, Bool.and_false]
          exact (by
            rw [ofrR, if_neg (by rw [hw]; decide)]
            exact lp4_RF_offer l G iv mp sp mo mn hmn T n hn h14 h16 hR hI q9 hq _ _ _ _ _ _ _ _ T.cn (Nat.le_refl _) rfl)
        · refine ex_aload_n (pc := 31) (i := 0) d_RF_offer_31 rfl rfl ?_
          refine ex_getr (pc := 32) 12 26 d_RF_offer_32 FL_RF_80 (Nat.le_of_ble_eq_true rfl) rfl rfl ?_
          refine ex_iload_n (pc := 35) (i := 1) d_RF_offer_35 rfl rfl ?_
          refine ex_ialdx (pc := 36) q9 (iv 116 q9) d_RF_offer_36 (Nat.le_of_ble_eq_true rfl) rfl rfl rfl (nI_t (by omega)) (show q9 < 101 by omega) rfl ?_
          refine ex_iload_n (pc := 37) (i := 1) d_RF_offer_37 rfl rfl ?_
          refine ex_icmp_ge (pc := 38) (tgt := 43) d_RF_offer_38 rfl (fun c38 => ?_) (fun c38 => ?_)
          · refine ex_aload_n (pc := 43) (i := 0) d_RF_offer_43 rfl rfl ?_
            refine ex_getx (pc := 44) 12 16 (nI (T.cn + 1)) d_RF_offer_44 FL_RF_185 (Nat.le_of_ble_eq_true rfl) rfl h16 ?_
            refine ex_iconst (pc := 47) (v := (nI 1)) d_RF_offer_47 (by decide) ?_
            refine ex_isub (pc := 48) d_RF_offer_48 ?_
            refine ex_top (pk_sub (show 1 ≤ T.cn + 1 by omega)) ?_
            refine ex_istore_n (pc := 49) (i := 2) d_RF_offer_49 rfl (by decide) ?_
            have hw : wthR iv n (nI q9) = false := by unfold wthR; rw [hqq, decide_eq_false (p := iv 116 q9 < nI q9) (fun z => by have z1 := i_lt.mp z; have z2 := i_le.mp c38; omega), Bool.and_false, Bool.and_false]
            exact (by
              rw [ofrR, if_neg (by rw [hw]; decide)]
              exact lp4_RF_offer l G iv mp sp mo mn hmn T n hn h14 h16 hR hI q9 hq _ _ _ _ _ _ _ _ T.cn (Nat.le_refl _) rfl)
          · refine ex_iconst (pc := 41) (v := (-1)) d_RF_offer_41 (by decide) ?_
            refine ex_iret (ty := .int) d_RF_offer_42 rfl rfl rfl (Nat.le_refl _) ?_
            have hw : wthR iv n (nI q9) = true := by unfold wthR; rw [hqq, decide_eq_true (i_lt.mpr (i_nle c19)), decide_eq_true c28, decide_eq_true (i_lt.mpr (i_nle c38))]; rfl
            exact ⟨rfl, by rw [ofrR, if_pos hw]⟩
    · exact absurd ((n_ge (by omega) (by omega)).mpr hq) c9

set_option maxRecDepth 100000 in
set_option maxHeartbeats 4000000 in
theorem ct_RF_offerBad (l : Launch) (G : ex_G) (iv : Nat → Nat → Int32) (mp : Nat → Nat) (sp mo : Nat) (n : Nat) (hn : n ≤ 100) (h14 : iv 92 14 = nI n) (x : Int32) (hx : x < 0 ∨ nI n < x) : CT l G 4 M_RF_offer [.ref 92, .int x] (HP iv mp sp mo) 0 0 (fun r h' => h' = HP iv mp sp mo ∧ r = some (.int (-1))) := by
  refine ex_enter (by decide) (Nat.le_of_ble_eq_true rfl) (fun v hv => by simp at hv; rcases hv with rfl | rfl <;> rfl) (fun p e s m args below meth c => ?_)
  refine ex_iload_n (pc := 0) (i := 1) d_RF_offer_0 rfl rfl ?_
  refine ex_if_lt (pc := 1) (tgt := 12) d_RF_offer_1 rfl (fun c1 => ?_) (fun c1 => ?_)
  · refine ex_iconst (pc := 12) (v := (-1)) d_RF_offer_12 (by decide) ?_
    refine ex_iret (ty := .int) d_RF_offer_13 rfl rfl rfl (Nat.le_refl _) ?_
    exact ⟨rfl, rfl⟩
  · refine ex_iload_n (pc := 4) (i := 1) d_RF_offer_4 rfl rfl ?_
    refine ex_aload_n (pc := 5) (i := 0) d_RF_offer_5 rfl rfl ?_
    refine ex_getx (pc := 6) 12 14 (nI n) d_RF_offer_6 FL_RF_179 (Nat.le_of_ble_eq_true rfl) rfl h14 ?_
    refine ex_icmp_le (pc := 9) (tgt := 14) d_RF_offer_9 rfl (fun c9 => ?_) (fun c9 => ?_)
    · exact absurd (hx.resolve_left c1) (fun z => by have z1 := i_lt.mp z; have z2 := i_le.mp c9; omega)
    · refine ex_iconst (pc := 12) (v := (-1)) d_RF_offer_12 (by decide) ?_
      refine ex_iret (ty := .int) d_RF_offer_13 rfl rfl rfl (Nat.le_refl _) ?_
      exact ⟨rfl, rfl⟩

