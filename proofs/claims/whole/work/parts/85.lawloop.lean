/-! the law's loop -/
def LLaw (b x : Nat) : List (Option Value) := [some (.retAddr b), some (.ref 0), some (.ref 92), some (.int (nI (4 * x)))]
/-- the character of a number -/
def chI (x : Int32) : Int32 := (x.toUInt32 % 65536).toInt32
theorem sub4 {N : Nat} (h : N ≤ 2048) : (nI N - nI 4).toInt = (N : Int) - 4 := by
  have e : ∀ N, N ≤ 2048 → (nI N - nI 4).toInt = (N : Int) - 4 := by
    intro N h
    rw [Int32.toInt_sub, nI_t (by omega), nI_t (by omega)]
    exact Int.bmod_eq_of_le (by omega) (by omega)
  exact e N h
section LL
variable {p : Program} {e : Env} {s : State} {m : MethodId} {args : Array Value} {below : List Frame} {meth : Method} {c : Code}
theorem law_next (l : Launch) (G : ex_G) (Q : State → Prop) (nm : String) (b x : Nat) (h : ex_H) (k : EX (M_LW nm) l G room_1 Q p e s m args below meth c 129 4847 18 (LLaw b (x + 1)) [] h) : EX (M_LW nm) l G room_1 Q p e s m args below meth c 129 4847 481 (LLaw b x) [] h := by
  refine ex_iinc (pc := 481) (v := nI (4 * (x + 1))) d_LW_law_481 rfl (show nI (4 * x) + nI 4 = nI (4 * (x + 1)) from nI_add (4 * x) 4) (show 3 < 4 by decide) ?_
  refine ex_goto (pc := 484) (tgt := 18) d_LW_law_484 rfl ?_
  exact k
set_option maxRecDepth 100000 in
set_option maxHeartbeats 4000000 in
theorem law_write (l : Launch) (G : ex_G) (Q : State → Prop) (nm : String) (b N x : Nat) (xs : Nat → Int32) (hX : va_X b N xs s s.heap) (hbl : b < s.heap.size) (hG : s.heap.size ≤ G.1) (hN : N ≤ 2048) (hx : 4 * x + 4 ≤ N) (iv : Nat → Nat → Int32) (mp : Nat → Nat) (sp mo : Nat) (hR : Rel9 x iv mp sp) (k : ∀ iv mp sp mo, Rel9 (x + 1) iv mp sp → EX (M_LW nm) l G room_1 Q p e s m args below meth c 129 4847 481 (LLaw b x) [] (HP iv mp sp mo)) : EX (M_LW nm) l G room_1 Q p e s m args below meth c 129 4847 108 (LLaw b x) [] (HP iv mp sp mo) := by
  refine ex_aload_n (pc := 108) (i := 1) d_LW_law_108 rfl rfl ?_
  refine ex_aloadX (pc := 109) (i := 0) d_LW_law_109 rfl rfl ?_
  refine ex_iload_n (pc := 110) (i := 3) d_LW_law_110 rfl rfl ?_
  refine ex_iconst (pc := 111) (v := nI 1) d_LW_law_111 (by decide) ?_
  refine ex_iadd (pc := 112) d_LW_law_112 ?_
  refine ex_sld (pc := 113) (4 * x + 1) hX hbl hG (by rw [nI_add]; exact nI_t (by omega)) (by omega) d_LW_law_113 ?_
  refine ex_i2c (pc := 114) d_LW_law_114 rfl ?_
  refine ex_callV (pc := 115) (M' := M_TG_write) (as := [.int (chI (xs (4 * x + 1)))]) (st := []) d_LW_law_115 MW_TG_write MI_TG_write LK_LW_13 (Nat.le_of_ble_eq_true rfl) rfl rfl rfl (op_write hR (chI (xs (4 * x + 1)))) ⟨by decide, by decide⟩ ⟨(Nat.le_of_ble_eq_true rfl), (Nat.le_of_ble_eq_true rfl)⟩ rfl rfl (Nat.le_of_ble_eq_true rfl) ?_
  rintro _ _ ⟨iv1, mp1, sp1, mo1, v, rfl, rfl, hct⟩
  refine ex_aload_n (pc := 118) (i := 2) d_LW_law_118 rfl rfl ?_
  refine ex_aloadX (pc := 119) (i := 0) d_LW_law_119 rfl rfl ?_
  refine ex_iload_n (pc := 120) (i := 3) d_LW_law_120 rfl rfl ?_
  refine ex_iconst (pc := 121) (v := nI 1) d_LW_law_121 (by decide) ?_
  refine ex_iadd (pc := 122) d_LW_law_122 ?_
  refine ex_sld (pc := 123) (4 * x + 1) hX hbl hG (by rw [nI_add]; exact nI_t (by omega)) (by omega) d_LW_law_123 ?_
  refine ex_i2c (pc := 124) d_LW_law_124 rfl ?_
  refine ex_callV (pc := 125) (M' := M_RF_write) (as := [.int (chI (xs (4 * x + 1)))]) (st := [.int v]) d_LW_law_125 MW_RF_write MI_RF_write LK_LW_17 (Nat.le_of_ble_eq_true rfl) rfl rfl rfl hct ⟨by decide, by decide⟩ ⟨(Nat.le_of_ble_eq_true rfl), (Nat.le_of_ble_eq_true rfl)⟩ rfl rfl (Nat.le_of_ble_eq_true rfl) ?_
  rintro _ _ ⟨iv2, rfl, rfl, hR2⟩
  refine ex_icmp_eq (pc := 128) (tgt := 481) d_LW_law_128 rfl (fun _ => ?_) (fun z => absurd rfl z)
  exact k iv2 mp1 sp1 mo1 hR2
set_option maxRecDepth 100000 in
set_option maxHeartbeats 4000000 in
theorem law_define (l : Launch) (G : ex_G) (Q : State → Prop) (nm : String) (b N x : Nat) (xs : Nat → Int32) (hX : va_X b N xs s s.heap) (hbl : b < s.heap.size) (hG : s.heap.size ≤ G.1) (hN : N ≤ 2048) (hx : 4 * x + 4 ≤ N) (iv : Nat → Nat → Int32) (mp : Nat → Nat) (sp mo : Nat) (hR : Rel9 x iv mp sp) (k : ∀ iv mp sp mo, Rel9 (x + 1) iv mp sp → EX (M_LW nm) l G room_1 Q p e s m args below meth c 129 4847 481 (LLaw b x) [] (HP iv mp sp mo)) : EX (M_LW nm) l G room_1 Q p e s m args below meth c 129 4847 133 (LLaw b x) [] (HP iv mp sp mo) := by
  refine ex_aload_n (pc := 133) (i := 1) d_LW_law_133 rfl rfl ?_
  refine ex_aloadX (pc := 134) (i := 0) d_LW_law_134 rfl rfl ?_
  refine ex_iload_n (pc := 135) (i := 3) d_LW_law_135 rfl rfl ?_
  refine ex_iconst (pc := 136) (v := nI 1) d_LW_law_136 (by decide) ?_
  refine ex_iadd (pc := 137) d_LW_law_137 ?_
  refine ex_sld (pc := 138) (4 * x + 1) hX hbl hG (by rw [nI_add]; exact nI_t (by omega)) (by omega) d_LW_law_138 ?_
  refine ex_i2c (pc := 139) d_LW_law_139 rfl ?_
  refine ex_callV (pc := 140) (M' := M_TG_define) (as := [.int (chI (xs (4 * x + 1)))]) (st := []) d_LW_law_140 MW_TG_define MI_TG_define LK_LW_18 (Nat.le_of_ble_eq_true rfl) rfl rfl rfl (op_define hR (chI (xs (4 * x + 1)))) ⟨by decide, by decide⟩ ⟨(Nat.le_of_ble_eq_true rfl), (Nat.le_of_ble_eq_true rfl)⟩ rfl rfl (Nat.le_of_ble_eq_true rfl) ?_
  rintro _ _ ⟨iv1, mp1, sp1, mo1, v, rfl, rfl, hct⟩
  refine ex_aload_n (pc := 143) (i := 2) d_LW_law_143 rfl rfl ?_
  refine ex_aloadX (pc := 144) (i := 0) d_LW_law_144 rfl rfl ?_
  refine ex_iload_n (pc := 145) (i := 3) d_LW_law_145 rfl rfl ?_
  refine ex_iconst (pc := 146) (v := nI 1) d_LW_law_146 (by decide) ?_
  refine ex_iadd (pc := 147) d_LW_law_147 ?_
  refine ex_sld (pc := 148) (4 * x + 1) hX hbl hG (by rw [nI_add]; exact nI_t (by omega)) (by omega) d_LW_law_148 ?_
  refine ex_i2c (pc := 149) d_LW_law_149 rfl ?_
  refine ex_callV (pc := 150) (M' := M_RF_define) (as := [.int (chI (xs (4 * x + 1)))]) (st := [.int v]) d_LW_law_150 MW_RF_define MI_RF_define LK_LW_22 (Nat.le_of_ble_eq_true rfl) rfl rfl rfl hct ⟨by decide, by decide⟩ ⟨(Nat.le_of_ble_eq_true rfl), (Nat.le_of_ble_eq_true rfl)⟩ rfl rfl (Nat.le_of_ble_eq_true rfl) ?_
  rintro _ _ ⟨iv2, rfl, rfl, hR2⟩
  refine ex_icmp_eq (pc := 153) (tgt := 481) d_LW_law_153 rfl (fun _ => ?_) (fun z => absurd rfl z)
  exact k iv2 mp1 sp1 mo1 hR2
set_option maxRecDepth 100000 in
set_option maxHeartbeats 4000000 in
theorem law_insert (l : Launch) (G : ex_G) (Q : State → Prop) (nm : String) (b N x : Nat) (xs : Nat → Int32) (hX : va_X b N xs s s.heap) (hbl : b < s.heap.size) (hG : s.heap.size ≤ G.1) (hN : N ≤ 2048) (hx : 4 * x + 4 ≤ N) (iv : Nat → Nat → Int32) (mp : Nat → Nat) (sp mo : Nat) (hR : Rel9 x iv mp sp) (k : ∀ iv mp sp mo, Rel9 (x + 1) iv mp sp → EX (M_LW nm) l G room_1 Q p e s m args below meth c 129 4847 481 (LLaw b x) [] (HP iv mp sp mo)) : EX (M_LW nm) l G room_1 Q p e s m args below meth c 129 4847 158 (LLaw b x) [] (HP iv mp sp mo) := by
  refine ex_aload_n (pc := 158) (i := 1) d_LW_law_158 rfl rfl ?_
  refine ex_aloadX (pc := 159) (i := 0) d_LW_law_159 rfl rfl ?_
  refine ex_iload_n (pc := 160) (i := 3) d_LW_law_160 rfl rfl ?_
  refine ex_iconst (pc := 161) (v := nI 1) d_LW_law_161 (by decide) ?_
  refine ex_iadd (pc := 162) d_LW_law_162 ?_
  refine ex_sld (pc := 163) (4 * x + 1) hX hbl hG (by rw [nI_add]; exact nI_t (by omega)) (by omega) d_LW_law_163 ?_
  refine ex_aloadX (pc := 164) (i := 0) d_LW_law_164 rfl rfl ?_
  refine ex_iload_n (pc := 165) (i := 3) d_LW_law_165 rfl rfl ?_
  refine ex_iconst (pc := 166) (v := nI 2) d_LW_law_166 (by decide) ?_
  refine ex_iadd (pc := 167) d_LW_law_167 ?_
  refine ex_sld (pc := 168) (4 * x + 2) hX hbl hG (by rw [nI_add]; exact nI_t (by omega)) (by omega) d_LW_law_168 ?_
  refine ex_i2c (pc := 169) d_LW_law_169 rfl ?_
  refine ex_callV (pc := 170) (M' := M_TG_insert) (as := [.int (xs (4 * x + 1)), .int (chI (xs (4 * x + 2)))]) (st := []) d_LW_law_170 MW_TG_insert MI_TG_insert LK_LW_23 (Nat.le_of_ble_eq_true rfl) rfl rfl rfl (op_insert hR (xs (4 * x + 1)) (chI (xs (4 * x + 2)))) ⟨by decide, by decide⟩ ⟨(Nat.le_of_ble_eq_true rfl), (Nat.le_of_ble_eq_true rfl)⟩ rfl rfl (Nat.le_of_ble_eq_true rfl) ?_
  rintro _ _ ⟨iv1, mp1, sp1, mo1, v, rfl, rfl, hct⟩
  refine ex_aload_n (pc := 173) (i := 2) d_LW_law_173 rfl rfl ?_
  refine ex_aloadX (pc := 174) (i := 0) d_LW_law_174 rfl rfl ?_
  refine ex_iload_n (pc := 175) (i := 3) d_LW_law_175 rfl rfl ?_
  refine ex_iconst (pc := 176) (v := nI 1) d_LW_law_176 (by decide) ?_
  refine ex_iadd (pc := 177) d_LW_law_177 ?_
  refine ex_sld (pc := 178) (4 * x + 1) hX hbl hG (by rw [nI_add]; exact nI_t (by omega)) (by omega) d_LW_law_178 ?_
  refine ex_aloadX (pc := 179) (i := 0) d_LW_law_179 rfl rfl ?_
  refine ex_iload_n (pc := 180) (i := 3) d_LW_law_180 rfl rfl ?_
  refine ex_iconst (pc := 181) (v := nI 2) d_LW_law_181 (by decide) ?_
  refine ex_iadd (pc := 182) d_LW_law_182 ?_
  refine ex_sld (pc := 183) (4 * x + 2) hX hbl hG (by rw [nI_add]; exact nI_t (by omega)) (by omega) d_LW_law_183 ?_
  refine ex_i2c (pc := 184) d_LW_law_184 rfl ?_
  refine ex_callV (pc := 185) (M' := M_RF_insert) (as := [.int (xs (4 * x + 1)), .int (chI (xs (4 * x + 2)))]) (st := [.int v]) d_LW_law_185 MW_RF_insert MI_RF_insert LK_LW_27 (Nat.le_of_ble_eq_true rfl) rfl rfl rfl hct ⟨by decide, by decide⟩ ⟨(Nat.le_of_ble_eq_true rfl), (Nat.le_of_ble_eq_true rfl)⟩ rfl rfl (Nat.le_of_ble_eq_true rfl) ?_
  rintro _ _ ⟨iv2, rfl, rfl, hR2⟩
  refine ex_icmp_eq (pc := 188) (tgt := 481) d_LW_law_188 rfl (fun _ => ?_) (fun z => absurd rfl z)
  exact k iv2 mp1 sp1 mo1 hR2
set_option maxRecDepth 100000 in
set_option maxHeartbeats 4000000 in
theorem law_erase (l : Launch) (G : ex_G) (Q : State → Prop) (nm : String) (b N x : Nat) (xs : Nat → Int32) (hX : va_X b N xs s s.heap) (hbl : b < s.heap.size) (hG : s.heap.size ≤ G.1) (hN : N ≤ 2048) (hx : 4 * x + 4 ≤ N) (iv : Nat → Nat → Int32) (mp : Nat → Nat) (sp mo : Nat) (hR : Rel9 x iv mp sp) (k : ∀ iv mp sp mo, Rel9 (x + 1) iv mp sp → EX (M_LW nm) l G room_1 Q p e s m args below meth c 129 4847 481 (LLaw b x) [] (HP iv mp sp mo)) : EX (M_LW nm) l G room_1 Q p e s m args below meth c 129 4847 193 (LLaw b x) [] (HP iv mp sp mo) := by
  refine ex_aload_n (pc := 193) (i := 1) d_LW_law_193 rfl rfl ?_
  refine ex_aloadX (pc := 194) (i := 0) d_LW_law_194 rfl rfl ?_
  refine ex_iload_n (pc := 195) (i := 3) d_LW_law_195 rfl rfl ?_
  refine ex_iconst (pc := 196) (v := nI 1) d_LW_law_196 (by decide) ?_
  refine ex_iadd (pc := 197) d_LW_law_197 ?_
  refine ex_sld (pc := 198) (4 * x + 1) hX hbl hG (by rw [nI_add]; exact nI_t (by omega)) (by omega) d_LW_law_198 ?_
  refine ex_aloadX (pc := 199) (i := 0) d_LW_law_199 rfl rfl ?_
  refine ex_iload_n (pc := 200) (i := 3) d_LW_law_200 rfl rfl ?_
  refine ex_iconst (pc := 201) (v := nI 2) d_LW_law_201 (by decide) ?_
  refine ex_iadd (pc := 202) d_LW_law_202 ?_
  refine ex_sld (pc := 203) (4 * x + 2) hX hbl hG (by rw [nI_add]; exact nI_t (by omega)) (by omega) d_LW_law_203 ?_
  refine ex_callV (pc := 204) (M' := M_TG_erase) (as := [.int (xs (4 * x + 1)), .int (xs (4 * x + 2))]) (st := []) d_LW_law_204 MW_TG_erase MI_TG_erase LK_LW_28 (Nat.le_of_ble_eq_true rfl) rfl rfl rfl (op_erase hR (xs (4 * x + 1)) (xs (4 * x + 2))) ⟨by decide, by decide⟩ ⟨(Nat.le_of_ble_eq_true rfl), (Nat.le_of_ble_eq_true rfl)⟩ rfl rfl (Nat.le_of_ble_eq_true rfl) ?_
  rintro _ _ ⟨iv1, mp1, sp1, mo1, v, rfl, rfl, hct⟩
  refine ex_aload_n (pc := 207) (i := 2) d_LW_law_207 rfl rfl ?_
  refine ex_aloadX (pc := 208) (i := 0) d_LW_law_208 rfl rfl ?_
  refine ex_iload_n (pc := 209) (i := 3) d_LW_law_209 rfl rfl ?_
  refine ex_iconst (pc := 210) (v := nI 1) d_LW_law_210 (by decide) ?_
  refine ex_iadd (pc := 211) d_LW_law_211 ?_
  refine ex_sld (pc := 212) (4 * x + 1) hX hbl hG (by rw [nI_add]; exact nI_t (by omega)) (by omega) d_LW_law_212 ?_
  refine ex_aloadX (pc := 213) (i := 0) d_LW_law_213 rfl rfl ?_
  refine ex_iload_n (pc := 214) (i := 3) d_LW_law_214 rfl rfl ?_
  refine ex_iconst (pc := 215) (v := nI 2) d_LW_law_215 (by decide) ?_
  refine ex_iadd (pc := 216) d_LW_law_216 ?_
  refine ex_sld (pc := 217) (4 * x + 2) hX hbl hG (by rw [nI_add]; exact nI_t (by omega)) (by omega) d_LW_law_217 ?_
  refine ex_callV (pc := 218) (M' := M_RF_erase) (as := [.int (xs (4 * x + 1)), .int (xs (4 * x + 2))]) (st := [.int v]) d_LW_law_218 MW_RF_erase MI_RF_erase LK_LW_32 (Nat.le_of_ble_eq_true rfl) rfl rfl rfl hct ⟨by decide, by decide⟩ ⟨(Nat.le_of_ble_eq_true rfl), (Nat.le_of_ble_eq_true rfl)⟩ rfl rfl (Nat.le_of_ble_eq_true rfl) ?_
  rintro _ _ ⟨iv2, rfl, rfl, hR2⟩
  refine ex_icmp_eq (pc := 221) (tgt := 481) d_LW_law_221 rfl (fun _ => ?_) (fun z => absurd rfl z)
  exact k iv2 mp1 sp1 mo1 hR2
set_option maxRecDepth 100000 in
set_option maxHeartbeats 4000000 in
theorem law_ask (l : Launch) (G : ex_G) (Q : State → Prop) (nm : String) (b N x : Nat) (xs : Nat → Int32) (hX : va_X b N xs s s.heap) (hbl : b < s.heap.size) (hG : s.heap.size ≤ G.1) (hN : N ≤ 2048) (hx : 4 * x + 4 ≤ N) (hc9 : x ≤ 9000) (iv : Nat → Nat → Int32) (mp : Nat → Nat) (sp mo : Nat) (hR : Rel9 x iv mp sp) (k : ∀ iv mp sp mo, Rel9 (x + 1) iv mp sp → EX (M_LW nm) l G room_1 Q p e s m args below meth c 129 4847 481 (LLaw b x) [] (HP iv mp sp mo)) : EX (M_LW nm) l G room_1 Q p e s m args below meth c 129 4847 226 (LLaw b x) [] (HP iv mp sp mo) := by
  refine ex_aload_n (pc := 226) (i := 1) d_LW_law_226 rfl rfl ?_
  refine ex_aloadX (pc := 227) (i := 0) d_LW_law_227 rfl rfl ?_
  refine ex_iload_n (pc := 228) (i := 3) d_LW_law_228 rfl rfl ?_
  refine ex_iconst (pc := 229) (v := nI 1) d_LW_law_229 (by decide) ?_
  refine ex_iadd (pc := 230) d_LW_law_230 ?_
  refine ex_sld (pc := 231) (4 * x + 1) hX hbl hG (by rw [nI_add]; exact nI_t (by omega)) (by omega) d_LW_law_231 ?_
  refine ex_aloadX (pc := 232) (i := 0) d_LW_law_232 rfl rfl ?_
  refine ex_iload_n (pc := 233) (i := 3) d_LW_law_233 rfl rfl ?_
  refine ex_iconst (pc := 234) (v := nI 2) d_LW_law_234 (by decide) ?_
  refine ex_iadd (pc := 235) d_LW_law_235 ?_
  refine ex_sld (pc := 236) (4 * x + 2) hX hbl hG (by rw [nI_add]; exact nI_t (by omega)) (by omega) d_LW_law_236 ?_
  refine ex_aloadX (pc := 237) (i := 0) d_LW_law_237 rfl rfl ?_
  refine ex_iload_n (pc := 238) (i := 3) d_LW_law_238 rfl rfl ?_
  refine ex_iconst (pc := 239) (v := nI 3) d_LW_law_239 (by decide) ?_
  refine ex_iadd (pc := 240) d_LW_law_240 ?_
  refine ex_sld (pc := 241) (4 * x + 3) hX hbl hG (by rw [nI_add]; exact nI_t (by omega)) (by omega) d_LW_law_241 ?_
  refine ex_i2c (pc := 242) d_LW_law_242 rfl ?_
  refine ex_callV (pc := 243) (M' := M_TG_ask) (as := [.int (xs (4 * x + 1)), .int (xs (4 * x + 2)), .int (chI (xs (4 * x + 3)))]) (st := []) d_LW_law_243 MW_TG_ask MI_TG_ask LK_LW_33 (Nat.le_of_ble_eq_true rfl) rfl rfl rfl (op_ask hR hc9 (xs (4 * x + 1)) (xs (4 * x + 2)) (chI (xs (4 * x + 3)))) ⟨by decide, by decide⟩ ⟨(Nat.le_of_ble_eq_true rfl), (Nat.le_of_ble_eq_true rfl)⟩ rfl rfl (Nat.le_of_ble_eq_true rfl) ?_
  rintro _ _ ⟨iv1, mp1, sp1, mo1, v, rfl, rfl, hct⟩
  refine ex_aload_n (pc := 246) (i := 2) d_LW_law_246 rfl rfl ?_
  refine ex_aloadX (pc := 247) (i := 0) d_LW_law_247 rfl rfl ?_
  refine ex_iload_n (pc := 248) (i := 3) d_LW_law_248 rfl rfl ?_
  refine ex_iconst (pc := 249) (v := nI 1) d_LW_law_249 (by decide) ?_
  refine ex_iadd (pc := 250) d_LW_law_250 ?_
  refine ex_sld (pc := 251) (4 * x + 1) hX hbl hG (by rw [nI_add]; exact nI_t (by omega)) (by omega) d_LW_law_251 ?_
  refine ex_aloadX (pc := 252) (i := 0) d_LW_law_252 rfl rfl ?_
  refine ex_iload_n (pc := 253) (i := 3) d_LW_law_253 rfl rfl ?_
  refine ex_iconst (pc := 254) (v := nI 2) d_LW_law_254 (by decide) ?_
  refine ex_iadd (pc := 255) d_LW_law_255 ?_
  refine ex_sld (pc := 256) (4 * x + 2) hX hbl hG (by rw [nI_add]; exact nI_t (by omega)) (by omega) d_LW_law_256 ?_
  refine ex_aloadX (pc := 257) (i := 0) d_LW_law_257 rfl rfl ?_
  refine ex_iload_n (pc := 258) (i := 3) d_LW_law_258 rfl rfl ?_
  refine ex_iconst (pc := 259) (v := nI 3) d_LW_law_259 (by decide) ?_
  refine ex_iadd (pc := 260) d_LW_law_260 ?_
  refine ex_sld (pc := 261) (4 * x + 3) hX hbl hG (by rw [nI_add]; exact nI_t (by omega)) (by omega) d_LW_law_261 ?_
  refine ex_i2c (pc := 262) d_LW_law_262 rfl ?_
  refine ex_callV (pc := 263) (M' := M_RF_ask) (as := [.int (xs (4 * x + 1)), .int (xs (4 * x + 2)), .int (chI (xs (4 * x + 3)))]) (st := [.int v]) d_LW_law_263 MW_RF_ask MI_RF_ask LK_LW_37 (Nat.le_of_ble_eq_true rfl) rfl rfl rfl hct ⟨by decide, by decide⟩ ⟨(Nat.le_of_ble_eq_true rfl), (Nat.le_of_ble_eq_true rfl)⟩ rfl rfl (Nat.le_of_ble_eq_true rfl) ?_
  rintro _ _ ⟨iv2, rfl, rfl, hR2⟩
  refine ex_icmp_eq (pc := 266) (tgt := 481) d_LW_law_266 rfl (fun _ => ?_) (fun z => absurd rfl z)
  exact k iv2 mp1 sp1 mo1 hR2
set_option maxRecDepth 100000 in
set_option maxHeartbeats 4000000 in
theorem law_cancel (l : Launch) (G : ex_G) (Q : State → Prop) (nm : String) (b N x : Nat) (xs : Nat → Int32) (hX : va_X b N xs s s.heap) (hbl : b < s.heap.size) (hG : s.heap.size ≤ G.1) (hN : N ≤ 2048) (hx : 4 * x + 4 ≤ N) (iv : Nat → Nat → Int32) (mp : Nat → Nat) (sp mo : Nat) (hR : Rel9 x iv mp sp) (k : ∀ iv mp sp mo, Rel9 (x + 1) iv mp sp → EX (M_LW nm) l G room_1 Q p e s m args below meth c 129 4847 481 (LLaw b x) [] (HP iv mp sp mo)) : EX (M_LW nm) l G room_1 Q p e s m args below meth c 129 4847 271 (LLaw b x) [] (HP iv mp sp mo) := by
  refine ex_aload_n (pc := 271) (i := 1) d_LW_law_271 rfl rfl ?_
  refine ex_aloadX (pc := 272) (i := 0) d_LW_law_272 rfl rfl ?_
  refine ex_iload_n (pc := 273) (i := 3) d_LW_law_273 rfl rfl ?_
  refine ex_iconst (pc := 274) (v := nI 1) d_LW_law_274 (by decide) ?_
  refine ex_iadd (pc := 275) d_LW_law_275 ?_
  refine ex_sld (pc := 276) (4 * x + 1) hX hbl hG (by rw [nI_add]; exact nI_t (by omega)) (by omega) d_LW_law_276 ?_
  refine ex_callV (pc := 277) (M' := M_TG_cancel) (as := [.int (xs (4 * x + 1))]) (st := []) d_LW_law_277 MW_TG_cancel MI_TG_cancel LK_LW_38 (Nat.le_of_ble_eq_true rfl) rfl rfl rfl (op_cancel hR (xs (4 * x + 1))) ⟨by decide, by decide⟩ ⟨(Nat.le_of_ble_eq_true rfl), (Nat.le_of_ble_eq_true rfl)⟩ rfl rfl (Nat.le_of_ble_eq_true rfl) ?_
  rintro _ _ ⟨iv1, mp1, sp1, mo1, v, rfl, rfl, hct⟩
  refine ex_aload_n (pc := 280) (i := 2) d_LW_law_280 rfl rfl ?_
  refine ex_aloadX (pc := 281) (i := 0) d_LW_law_281 rfl rfl ?_
  refine ex_iload_n (pc := 282) (i := 3) d_LW_law_282 rfl rfl ?_
  refine ex_iconst (pc := 283) (v := nI 1) d_LW_law_283 (by decide) ?_
  refine ex_iadd (pc := 284) d_LW_law_284 ?_
  refine ex_sld (pc := 285) (4 * x + 1) hX hbl hG (by rw [nI_add]; exact nI_t (by omega)) (by omega) d_LW_law_285 ?_
  refine ex_callV (pc := 286) (M' := M_RF_cancel) (as := [.int (xs (4 * x + 1))]) (st := [.int v]) d_LW_law_286 MW_RF_cancel MI_RF_cancel LK_LW_42 (Nat.le_of_ble_eq_true rfl) rfl rfl rfl hct ⟨by decide, by decide⟩ ⟨(Nat.le_of_ble_eq_true rfl), (Nat.le_of_ble_eq_true rfl)⟩ rfl rfl (Nat.le_of_ble_eq_true rfl) ?_
  rintro _ _ ⟨iv2, rfl, rfl, hR2⟩
  refine ex_icmp_eq (pc := 289) (tgt := 481) d_LW_law_289 rfl (fun _ => ?_) (fun z => absurd rfl z)
  exact k iv2 mp1 sp1 mo1 hR2
set_option maxRecDepth 100000 in
set_option maxHeartbeats 4000000 in
theorem law_work (l : Launch) (G : ex_G) (Q : State → Prop) (nm : String) (b N x : Nat) (xs : Nat → Int32) (hX : va_X b N xs s s.heap) (hbl : b < s.heap.size) (hG : s.heap.size ≤ G.1) (hN : N ≤ 2048) (hx : 4 * x + 4 ≤ N) (hc9 : x ≤ 9000) (iv : Nat → Nat → Int32) (mp : Nat → Nat) (sp mo : Nat) (hR : Rel9 x iv mp sp) (k : ∀ iv mp sp mo, Rel9 (x + 1) iv mp sp → EX (M_LW nm) l G room_1 Q p e s m args below meth c 129 4847 481 (LLaw b x) [] (HP iv mp sp mo)) : EX (M_LW nm) l G room_1 Q p e s m args below meth c 129 4847 294 (LLaw b x) [] (HP iv mp sp mo) := by
  refine ex_aload_n (pc := 294) (i := 1) d_LW_law_294 rfl rfl ?_
  refine ex_callV (pc := 295) (M' := M_TG_work) (as := []) (st := []) d_LW_law_295 MW_TG_work MI_TG_work LK_LW_43 (Nat.le_of_ble_eq_true rfl) rfl rfl rfl (op_work hR hc9) ⟨by decide, by decide⟩ ⟨(Nat.le_of_ble_eq_true rfl), (Nat.le_of_ble_eq_true rfl)⟩ rfl rfl (Nat.le_of_ble_eq_true rfl) ?_
  rintro _ _ ⟨iv1, mp1, sp1, mo1, v, rfl, rfl, hct⟩
  refine ex_aload_n (pc := 298) (i := 2) d_LW_law_298 rfl rfl ?_
  refine ex_callV (pc := 299) (M' := M_RF_work) (as := []) (st := [.int v]) d_LW_law_299 MW_RF_work MI_RF_work LK_LW_47 (Nat.le_of_ble_eq_true rfl) rfl rfl rfl hct ⟨by decide, by decide⟩ ⟨(Nat.le_of_ble_eq_true rfl), (Nat.le_of_ble_eq_true rfl)⟩ rfl rfl (Nat.le_of_ble_eq_true rfl) ?_
  rintro _ _ ⟨iv2, rfl, rfl, hR2⟩
  refine ex_icmp_eq (pc := 302) (tgt := 481) d_LW_law_302 rfl (fun _ => ?_) (fun z => absurd rfl z)
  exact k iv2 mp1 sp1 mo1 hR2
set_option maxRecDepth 100000 in
set_option maxHeartbeats 4000000 in
theorem law_answer (l : Launch) (G : ex_G) (Q : State → Prop) (nm : String) (b N x : Nat) (xs : Nat → Int32) (hX : va_X b N xs s s.heap) (hbl : b < s.heap.size) (hG : s.heap.size ≤ G.1) (hN : N ≤ 2048) (hx : 4 * x + 4 ≤ N) (hc9 : x ≤ 9000) (iv : Nat → Nat → Int32) (mp : Nat → Nat) (sp mo : Nat) (hR : Rel9 x iv mp sp) (k : ∀ iv mp sp mo, Rel9 (x + 1) iv mp sp → EX (M_LW nm) l G room_1 Q p e s m args below meth c 129 4847 481 (LLaw b x) [] (HP iv mp sp mo)) : EX (M_LW nm) l G room_1 Q p e s m args below meth c 129 4847 307 (LLaw b x) [] (HP iv mp sp mo) := by
  refine ex_aload_n (pc := 307) (i := 1) d_LW_law_307 rfl rfl ?_
  refine ex_aloadX (pc := 308) (i := 0) d_LW_law_308 rfl rfl ?_
  refine ex_iload_n (pc := 309) (i := 3) d_LW_law_309 rfl rfl ?_
  refine ex_iconst (pc := 310) (v := nI 1) d_LW_law_310 (by decide) ?_
  refine ex_iadd (pc := 311) d_LW_law_311 ?_
  refine ex_sld (pc := 312) (4 * x + 1) hX hbl hG (by rw [nI_add]; exact nI_t (by omega)) (by omega) d_LW_law_312 ?_
  refine ex_callV (pc := 313) (M' := M_TG_answer) (as := [.int (xs (4 * x + 1))]) (st := []) d_LW_law_313 MW_TG_answer MI_TG_answer LK_LW_48 (Nat.le_of_ble_eq_true rfl) rfl rfl rfl (op_answer hR hc9 (xs (4 * x + 1))) ⟨by decide, by decide⟩ ⟨(Nat.le_of_ble_eq_true rfl), (Nat.le_of_ble_eq_true rfl)⟩ rfl rfl (Nat.le_of_ble_eq_true rfl) ?_
  rintro _ _ ⟨iv1, mp1, sp1, mo1, v, rfl, rfl, hct⟩
  refine ex_aload_n (pc := 316) (i := 2) d_LW_law_316 rfl rfl ?_
  refine ex_aloadX (pc := 317) (i := 0) d_LW_law_317 rfl rfl ?_
  refine ex_iload_n (pc := 318) (i := 3) d_LW_law_318 rfl rfl ?_
  refine ex_iconst (pc := 319) (v := nI 1) d_LW_law_319 (by decide) ?_
  refine ex_iadd (pc := 320) d_LW_law_320 ?_
  refine ex_sld (pc := 321) (4 * x + 1) hX hbl hG (by rw [nI_add]; exact nI_t (by omega)) (by omega) d_LW_law_321 ?_
  refine ex_callV (pc := 322) (M' := M_RF_answer) (as := [.int (xs (4 * x + 1))]) (st := [.int v]) d_LW_law_322 MW_RF_answer MI_RF_answer LK_LW_52 (Nat.le_of_ble_eq_true rfl) rfl rfl rfl hct ⟨by decide, by decide⟩ ⟨(Nat.le_of_ble_eq_true rfl), (Nat.le_of_ble_eq_true rfl)⟩ rfl rfl (Nat.le_of_ble_eq_true rfl) ?_
  rintro _ _ ⟨iv2, rfl, rfl, hR2⟩
  refine ex_icmp_eq (pc := 325) (tgt := 481) d_LW_law_325 rfl (fun _ => ?_) (fun z => absurd rfl z)
  exact k iv2 mp1 sp1 mo1 hR2
set_option maxRecDepth 100000 in
set_option maxHeartbeats 4000000 in
theorem law_inbox (l : Launch) (G : ex_G) (Q : State → Prop) (nm : String) (b N x : Nat) (xs : Nat → Int32) (hX : va_X b N xs s s.heap) (hbl : b < s.heap.size) (hG : s.heap.size ≤ G.1) (hN : N ≤ 2048) (hx : 4 * x + 4 ≤ N) (iv : Nat → Nat → Int32) (mp : Nat → Nat) (sp mo : Nat) (hR : Rel9 x iv mp sp) (k : ∀ iv mp sp mo, Rel9 (x + 1) iv mp sp → EX (M_LW nm) l G room_1 Q p e s m args below meth c 129 4847 481 (LLaw b x) [] (HP iv mp sp mo)) : EX (M_LW nm) l G room_1 Q p e s m args below meth c 129 4847 330 (LLaw b x) [] (HP iv mp sp mo) := by
  refine ex_aload_n (pc := 330) (i := 1) d_LW_law_330 rfl rfl ?_
  refine ex_callV (pc := 331) (M' := M_TG_inbox) (as := []) (st := []) d_LW_law_331 MW_TG_inbox MI_TG_inbox LK_LW_53 (Nat.le_of_ble_eq_true rfl) rfl rfl rfl (op_inbox hR) ⟨by decide, by decide⟩ ⟨(Nat.le_of_ble_eq_true rfl), (Nat.le_of_ble_eq_true rfl)⟩ rfl rfl (Nat.le_of_ble_eq_true rfl) ?_
  rintro _ _ ⟨iv1, mp1, sp1, mo1, v, rfl, rfl, hct⟩
  refine ex_aload_n (pc := 334) (i := 2) d_LW_law_334 rfl rfl ?_
  refine ex_callV (pc := 335) (M' := M_RF_inbox) (as := []) (st := [.int v]) d_LW_law_335 MW_RF_inbox MI_RF_inbox LK_LW_56 (Nat.le_of_ble_eq_true rfl) rfl rfl rfl hct ⟨by decide, by decide⟩ ⟨(Nat.le_of_ble_eq_true rfl), (Nat.le_of_ble_eq_true rfl)⟩ rfl rfl (Nat.le_of_ble_eq_true rfl) ?_
  rintro _ _ ⟨iv2, rfl, rfl, hR2⟩
  refine ex_icmp_eq (pc := 338) (tgt := 481) d_LW_law_338 rfl (fun _ => ?_) (fun z => absurd rfl z)
  exact k iv2 mp1 sp1 mo1 hR2
set_option maxRecDepth 100000 in
set_option maxHeartbeats 4000000 in
theorem law_length (l : Launch) (G : ex_G) (Q : State → Prop) (nm : String) (b N x : Nat) (xs : Nat → Int32) (hX : va_X b N xs s s.heap) (hbl : b < s.heap.size) (hG : s.heap.size ≤ G.1) (hN : N ≤ 2048) (hx : 4 * x + 4 ≤ N) (iv : Nat → Nat → Int32) (mp : Nat → Nat) (sp mo : Nat) (hR : Rel9 x iv mp sp) (k : ∀ iv mp sp mo, Rel9 (x + 1) iv mp sp → EX (M_LW nm) l G room_1 Q p e s m args below meth c 129 4847 481 (LLaw b x) [] (HP iv mp sp mo)) : EX (M_LW nm) l G room_1 Q p e s m args below meth c 129 4847 343 (LLaw b x) [] (HP iv mp sp mo) := by
  refine ex_aload_n (pc := 343) (i := 1) d_LW_law_343 rfl rfl ?_
  refine ex_callV (pc := 344) (M' := M_TG_length) (as := []) (st := []) d_LW_law_344 MW_TG_length MI_TG_length LK_LW_57 (Nat.le_of_ble_eq_true rfl) rfl rfl rfl (op_length hR) ⟨by decide, by decide⟩ ⟨(Nat.le_of_ble_eq_true rfl), (Nat.le_of_ble_eq_true rfl)⟩ rfl rfl (Nat.le_of_ble_eq_true rfl) ?_
  rintro _ _ ⟨iv1, mp1, sp1, mo1, v, rfl, rfl, hct⟩
  refine ex_aload_n (pc := 347) (i := 2) d_LW_law_347 rfl rfl ?_
  refine ex_callV (pc := 348) (M' := M_RF_length) (as := []) (st := [.int v]) d_LW_law_348 MW_RF_length MI_RF_length LK_LW_60 (Nat.le_of_ble_eq_true rfl) rfl rfl rfl hct ⟨by decide, by decide⟩ ⟨(Nat.le_of_ble_eq_true rfl), (Nat.le_of_ble_eq_true rfl)⟩ rfl rfl (Nat.le_of_ble_eq_true rfl) ?_
  rintro _ _ ⟨iv2, rfl, rfl, hR2⟩
  refine ex_icmp_eq (pc := 351) (tgt := 481) d_LW_law_351 rfl (fun _ => ?_) (fun z => absurd rfl z)
  exact k iv2 mp1 sp1 mo1 hR2
set_option maxRecDepth 100000 in
set_option maxHeartbeats 4000000 in
theorem law_character (l : Launch) (G : ex_G) (Q : State → Prop) (nm : String) (b N x : Nat) (xs : Nat → Int32) (hX : va_X b N xs s s.heap) (hbl : b < s.heap.size) (hG : s.heap.size ≤ G.1) (hN : N ≤ 2048) (hx : 4 * x + 4 ≤ N) (iv : Nat → Nat → Int32) (mp : Nat → Nat) (sp mo : Nat) (hR : Rel9 x iv mp sp) (k : ∀ iv mp sp mo, Rel9 (x + 1) iv mp sp → EX (M_LW nm) l G room_1 Q p e s m args below meth c 129 4847 481 (LLaw b x) [] (HP iv mp sp mo)) : EX (M_LW nm) l G room_1 Q p e s m args below meth c 129 4847 356 (LLaw b x) [] (HP iv mp sp mo) := by
  refine ex_aload_n (pc := 356) (i := 1) d_LW_law_356 rfl rfl ?_
  refine ex_aloadX (pc := 357) (i := 0) d_LW_law_357 rfl rfl ?_
  refine ex_iload_n (pc := 358) (i := 3) d_LW_law_358 rfl rfl ?_
  refine ex_iconst (pc := 359) (v := nI 1) d_LW_law_359 (by decide) ?_
  refine ex_iadd (pc := 360) d_LW_law_360 ?_
  refine ex_sld (pc := 361) (4 * x + 1) hX hbl hG (by rw [nI_add]; exact nI_t (by omega)) (by omega) d_LW_law_361 ?_
  refine ex_callV (pc := 362) (M' := M_TG_character) (as := [.int (xs (4 * x + 1))]) (st := []) d_LW_law_362 MW_TG_character MI_TG_character LK_LW_61 (Nat.le_of_ble_eq_true rfl) rfl rfl rfl (op_character hR (xs (4 * x + 1))) ⟨by decide, by decide⟩ ⟨(Nat.le_of_ble_eq_true rfl), (Nat.le_of_ble_eq_true rfl)⟩ rfl rfl (Nat.le_of_ble_eq_true rfl) ?_
  rintro _ _ ⟨iv1, mp1, sp1, mo1, v, rfl, rfl, hct⟩
  refine ex_aload_n (pc := 365) (i := 2) d_LW_law_365 rfl rfl ?_
  refine ex_aloadX (pc := 366) (i := 0) d_LW_law_366 rfl rfl ?_
  refine ex_iload_n (pc := 367) (i := 3) d_LW_law_367 rfl rfl ?_
  refine ex_iconst (pc := 368) (v := nI 1) d_LW_law_368 (by decide) ?_
  refine ex_iadd (pc := 369) d_LW_law_369 ?_
  refine ex_sld (pc := 370) (4 * x + 1) hX hbl hG (by rw [nI_add]; exact nI_t (by omega)) (by omega) d_LW_law_370 ?_
  refine ex_callV (pc := 371) (M' := M_RF_character) (as := [.int (xs (4 * x + 1))]) (st := [.int v]) d_LW_law_371 MW_RF_character MI_RF_character LK_LW_64 (Nat.le_of_ble_eq_true rfl) rfl rfl rfl hct ⟨by decide, by decide⟩ ⟨(Nat.le_of_ble_eq_true rfl), (Nat.le_of_ble_eq_true rfl)⟩ rfl rfl (Nat.le_of_ble_eq_true rfl) ?_
  rintro _ _ ⟨iv2, rfl, rfl, hR2⟩
  refine ex_icmp_eq (pc := 374) (tgt := 481) d_LW_law_374 rfl (fun _ => ?_) (fun z => absurd rfl z)
  exact k iv2 mp1 sp1 mo1 hR2
set_option maxRecDepth 100000 in
set_option maxHeartbeats 4000000 in
theorem law_element (l : Launch) (G : ex_G) (Q : State → Prop) (nm : String) (b N x : Nat) (xs : Nat → Int32) (hX : va_X b N xs s s.heap) (hbl : b < s.heap.size) (hG : s.heap.size ≤ G.1) (hN : N ≤ 2048) (hx : 4 * x + 4 ≤ N) (iv : Nat → Nat → Int32) (mp : Nat → Nat) (sp mo : Nat) (hR : Rel9 x iv mp sp) (k : ∀ iv mp sp mo, Rel9 (x + 1) iv mp sp → EX (M_LW nm) l G room_1 Q p e s m args below meth c 129 4847 481 (LLaw b x) [] (HP iv mp sp mo)) : EX (M_LW nm) l G room_1 Q p e s m args below meth c 129 4847 379 (LLaw b x) [] (HP iv mp sp mo) := by
  refine ex_aload_n (pc := 379) (i := 1) d_LW_law_379 rfl rfl ?_
  refine ex_aloadX (pc := 380) (i := 0) d_LW_law_380 rfl rfl ?_
  refine ex_iload_n (pc := 381) (i := 3) d_LW_law_381 rfl rfl ?_
  refine ex_iconst (pc := 382) (v := nI 1) d_LW_law_382 (by decide) ?_
  refine ex_iadd (pc := 383) d_LW_law_383 ?_
  refine ex_sld (pc := 384) (4 * x + 1) hX hbl hG (by rw [nI_add]; exact nI_t (by omega)) (by omega) d_LW_law_384 ?_
  refine ex_aloadX (pc := 385) (i := 0) d_LW_law_385 rfl rfl ?_
  refine ex_iload_n (pc := 386) (i := 3) d_LW_law_386 rfl rfl ?_
  refine ex_iconst (pc := 387) (v := nI 2) d_LW_law_387 (by decide) ?_
  refine ex_iadd (pc := 388) d_LW_law_388 ?_
  refine ex_sld (pc := 389) (4 * x + 2) hX hbl hG (by rw [nI_add]; exact nI_t (by omega)) (by omega) d_LW_law_389 ?_
  refine ex_callV (pc := 390) (M' := M_TG_element) (as := [.int (xs (4 * x + 1)), .int (xs (4 * x + 2))]) (st := []) d_LW_law_390 MW_TG_element MI_TG_element LK_LW_65 (Nat.le_of_ble_eq_true rfl) rfl rfl rfl (op_element hR (xs (4 * x + 1)) (xs (4 * x + 2))) ⟨by decide, by decide⟩ ⟨(Nat.le_of_ble_eq_true rfl), (Nat.le_of_ble_eq_true rfl)⟩ rfl rfl (Nat.le_of_ble_eq_true rfl) ?_
  rintro _ _ ⟨iv1, mp1, sp1, mo1, v, rfl, rfl, hct⟩
  refine ex_aload_n (pc := 393) (i := 2) d_LW_law_393 rfl rfl ?_
  refine ex_aloadX (pc := 394) (i := 0) d_LW_law_394 rfl rfl ?_
  refine ex_iload_n (pc := 395) (i := 3) d_LW_law_395 rfl rfl ?_
  refine ex_iconst (pc := 396) (v := nI 1) d_LW_law_396 (by decide) ?_
  refine ex_iadd (pc := 397) d_LW_law_397 ?_
  refine ex_sld (pc := 398) (4 * x + 1) hX hbl hG (by rw [nI_add]; exact nI_t (by omega)) (by omega) d_LW_law_398 ?_
  refine ex_aloadX (pc := 399) (i := 0) d_LW_law_399 rfl rfl ?_
  refine ex_iload_n (pc := 400) (i := 3) d_LW_law_400 rfl rfl ?_
  refine ex_iconst (pc := 401) (v := nI 2) d_LW_law_401 (by decide) ?_
  refine ex_iadd (pc := 402) d_LW_law_402 ?_
  refine ex_sld (pc := 403) (4 * x + 2) hX hbl hG (by rw [nI_add]; exact nI_t (by omega)) (by omega) d_LW_law_403 ?_
  refine ex_callV (pc := 404) (M' := M_RF_element) (as := [.int (xs (4 * x + 1)), .int (xs (4 * x + 2))]) (st := [.int v]) d_LW_law_404 MW_RF_element MI_RF_element LK_LW_69 (Nat.le_of_ble_eq_true rfl) rfl rfl rfl hct ⟨by decide, by decide⟩ ⟨(Nat.le_of_ble_eq_true rfl), (Nat.le_of_ble_eq_true rfl)⟩ rfl rfl (Nat.le_of_ble_eq_true rfl) ?_
  rintro _ _ ⟨iv2, rfl, rfl, hR2⟩
  refine ex_icmp_eq (pc := 407) (tgt := 481) d_LW_law_407 rfl (fun _ => ?_) (fun z => absurd rfl z)
  exact k iv2 mp1 sp1 mo1 hR2
set_option maxRecDepth 100000 in
set_option maxHeartbeats 4000000 in
theorem law_fault (l : Launch) (G : ex_G) (Q : State → Prop) (nm : String) (b N x : Nat) (xs : Nat → Int32) (hX : va_X b N xs s s.heap) (hbl : b < s.heap.size) (hG : s.heap.size ≤ G.1) (hN : N ≤ 2048) (hx : 4 * x + 4 ≤ N) (iv : Nat → Nat → Int32) (mp : Nat → Nat) (sp mo : Nat) (hR : Rel9 x iv mp sp) (k : ∀ iv mp sp mo, Rel9 (x + 1) iv mp sp → EX (M_LW nm) l G room_1 Q p e s m args below meth c 129 4847 481 (LLaw b x) [] (HP iv mp sp mo)) : EX (M_LW nm) l G room_1 Q p e s m args below meth c 129 4847 412 (LLaw b x) [] (HP iv mp sp mo) := by
  refine ex_aload_n (pc := 412) (i := 1) d_LW_law_412 rfl rfl ?_
  refine ex_aloadX (pc := 413) (i := 0) d_LW_law_413 rfl rfl ?_
  refine ex_iload_n (pc := 414) (i := 3) d_LW_law_414 rfl rfl ?_
  refine ex_iconst (pc := 415) (v := nI 1) d_LW_law_415 (by decide) ?_
  refine ex_iadd (pc := 416) d_LW_law_416 ?_
  refine ex_sld (pc := 417) (4 * x + 1) hX hbl hG (by rw [nI_add]; exact nI_t (by omega)) (by omega) d_LW_law_417 ?_
  refine ex_aloadX (pc := 418) (i := 0) d_LW_law_418 rfl rfl ?_
  refine ex_iload_n (pc := 419) (i := 3) d_LW_law_419 rfl rfl ?_
  refine ex_iconst (pc := 420) (v := nI 2) d_LW_law_420 (by decide) ?_
  refine ex_iadd (pc := 421) d_LW_law_421 ?_
  refine ex_sld (pc := 422) (4 * x + 2) hX hbl hG (by rw [nI_add]; exact nI_t (by omega)) (by omega) d_LW_law_422 ?_
  refine ex_callV (pc := 423) (M' := M_TG_fault) (as := [.int (xs (4 * x + 1)), .int (xs (4 * x + 2))]) (st := []) d_LW_law_423 MW_TG_fault MI_TG_fault LK_LW_70 (Nat.le_of_ble_eq_true rfl) rfl rfl rfl (op_fault hR (xs (4 * x + 1)) (xs (4 * x + 2))) ⟨by decide, by decide⟩ ⟨(Nat.le_of_ble_eq_true rfl), (Nat.le_of_ble_eq_true rfl)⟩ rfl rfl (Nat.le_of_ble_eq_true rfl) ?_
  rintro _ _ ⟨iv1, mp1, sp1, mo1, v, rfl, rfl, hct⟩
  refine ex_aload_n (pc := 426) (i := 2) d_LW_law_426 rfl rfl ?_
  refine ex_aloadX (pc := 427) (i := 0) d_LW_law_427 rfl rfl ?_
  refine ex_iload_n (pc := 428) (i := 3) d_LW_law_428 rfl rfl ?_
  refine ex_iconst (pc := 429) (v := nI 1) d_LW_law_429 (by decide) ?_
  refine ex_iadd (pc := 430) d_LW_law_430 ?_
  refine ex_sld (pc := 431) (4 * x + 1) hX hbl hG (by rw [nI_add]; exact nI_t (by omega)) (by omega) d_LW_law_431 ?_
  refine ex_aloadX (pc := 432) (i := 0) d_LW_law_432 rfl rfl ?_
  refine ex_iload_n (pc := 433) (i := 3) d_LW_law_433 rfl rfl ?_
  refine ex_iconst (pc := 434) (v := nI 2) d_LW_law_434 (by decide) ?_
  refine ex_iadd (pc := 435) d_LW_law_435 ?_
  refine ex_sld (pc := 436) (4 * x + 2) hX hbl hG (by rw [nI_add]; exact nI_t (by omega)) (by omega) d_LW_law_436 ?_
  refine ex_callV (pc := 437) (M' := M_RF_fault) (as := [.int (xs (4 * x + 1)), .int (xs (4 * x + 2))]) (st := [.int v]) d_LW_law_437 MW_RF_fault MI_RF_fault LK_LW_73 (Nat.le_of_ble_eq_true rfl) rfl rfl rfl hct ⟨by decide, by decide⟩ ⟨(Nat.le_of_ble_eq_true rfl), (Nat.le_of_ble_eq_true rfl)⟩ rfl rfl (Nat.le_of_ble_eq_true rfl) ?_
  rintro _ _ ⟨iv2, rfl, rfl, hR2⟩
  refine ex_icmp_eq (pc := 440) (tgt := 481) d_LW_law_440 rfl (fun _ => ?_) (fun z => absurd rfl z)
  exact k iv2 mp1 sp1 mo1 hR2
set_option maxRecDepth 100000 in
set_option maxHeartbeats 4000000 in
theorem law_fertile (l : Launch) (G : ex_G) (Q : State → Prop) (nm : String) (b N x : Nat) (xs : Nat → Int32) (hX : va_X b N xs s s.heap) (hbl : b < s.heap.size) (hG : s.heap.size ≤ G.1) (hN : N ≤ 2048) (hx : 4 * x + 4 ≤ N) (iv : Nat → Nat → Int32) (mp : Nat → Nat) (sp mo : Nat) (hR : Rel9 x iv mp sp) (k : ∀ iv mp sp mo, Rel9 (x + 1) iv mp sp → EX (M_LW nm) l G room_1 Q p e s m args below meth c 129 4847 481 (LLaw b x) [] (HP iv mp sp mo)) : EX (M_LW nm) l G room_1 Q p e s m args below meth c 129 4847 445 (LLaw b x) [] (HP iv mp sp mo) := by
  refine ex_aload_n (pc := 445) (i := 1) d_LW_law_445 rfl rfl ?_
  refine ex_callV (pc := 446) (M' := M_TG_fertile) (as := []) (st := []) d_LW_law_446 MW_TG_fertile MI_TG_fertile LK_LW_74 (Nat.le_of_ble_eq_true rfl) rfl rfl rfl (op_fertile hR) ⟨by decide, by decide⟩ ⟨(Nat.le_of_ble_eq_true rfl), (Nat.le_of_ble_eq_true rfl)⟩ rfl rfl (Nat.le_of_ble_eq_true rfl) ?_
  rintro _ _ ⟨iv1, mp1, sp1, mo1, v, rfl, rfl, hct⟩
  refine ex_aload_n (pc := 449) (i := 2) d_LW_law_449 rfl rfl ?_
  refine ex_callV (pc := 450) (M' := M_RF_fertile) (as := []) (st := [.int v]) d_LW_law_450 MW_RF_fertile MI_RF_fertile LK_LW_77 (Nat.le_of_ble_eq_true rfl) rfl rfl rfl hct ⟨by decide, by decide⟩ ⟨(Nat.le_of_ble_eq_true rfl), (Nat.le_of_ble_eq_true rfl)⟩ rfl rfl (Nat.le_of_ble_eq_true rfl) ?_
  rintro _ _ ⟨iv2, rfl, rfl, hR2⟩
  refine ex_icmp_eq (pc := 453) (tgt := 481) d_LW_law_453 rfl (fun _ => ?_) (fun z => absurd rfl z)
  exact k iv2 mp1 sp1 mo1 hR2
set_option maxRecDepth 100000 in
set_option maxHeartbeats 4000000 in
theorem law_formed (l : Launch) (G : ex_G) (Q : State → Prop) (nm : String) (b N x : Nat) (xs : Nat → Int32) (hX : va_X b N xs s s.heap) (hbl : b < s.heap.size) (hG : s.heap.size ≤ G.1) (hN : N ≤ 2048) (hx : 4 * x + 4 ≤ N) (iv : Nat → Nat → Int32) (mp : Nat → Nat) (sp mo : Nat) (hR : Rel9 x iv mp sp) (k : ∀ iv mp sp mo, Rel9 (x + 1) iv mp sp → EX (M_LW nm) l G room_1 Q p e s m args below meth c 129 4847 481 (LLaw b x) [] (HP iv mp sp mo)) : EX (M_LW nm) l G room_1 Q p e s m args below meth c 129 4847 458 (LLaw b x) [] (HP iv mp sp mo) := by
  refine ex_aload_n (pc := 458) (i := 1) d_LW_law_458 rfl rfl ?_
  refine ex_aloadX (pc := 459) (i := 0) d_LW_law_459 rfl rfl ?_
  refine ex_iload_n (pc := 460) (i := 3) d_LW_law_460 rfl rfl ?_
  refine ex_iconst (pc := 461) (v := nI 1) d_LW_law_461 (by decide) ?_
  refine ex_iadd (pc := 462) d_LW_law_462 ?_
  refine ex_sld (pc := 463) (4 * x + 1) hX hbl hG (by rw [nI_add]; exact nI_t (by omega)) (by omega) d_LW_law_463 ?_
  refine ex_callV (pc := 464) (M' := M_TG_formed) (as := [.int (xs (4 * x + 1))]) (st := []) d_LW_law_464 MW_TG_formed MI_TG_formed LK_LW_78 (Nat.le_of_ble_eq_true rfl) rfl rfl rfl (op_formed hR (xs (4 * x + 1))) ⟨by decide, by decide⟩ ⟨(Nat.le_of_ble_eq_true rfl), (Nat.le_of_ble_eq_true rfl)⟩ rfl rfl (Nat.le_of_ble_eq_true rfl) ?_
  rintro _ _ ⟨iv1, mp1, sp1, mo1, v, rfl, rfl, hct⟩
  refine ex_aload_n (pc := 467) (i := 2) d_LW_law_467 rfl rfl ?_
  refine ex_aloadX (pc := 468) (i := 0) d_LW_law_468 rfl rfl ?_
  refine ex_iload_n (pc := 469) (i := 3) d_LW_law_469 rfl rfl ?_
  refine ex_iconst (pc := 470) (v := nI 1) d_LW_law_470 (by decide) ?_
  refine ex_iadd (pc := 471) d_LW_law_471 ?_
  refine ex_sld (pc := 472) (4 * x + 1) hX hbl hG (by rw [nI_add]; exact nI_t (by omega)) (by omega) d_LW_law_472 ?_
  refine ex_callV (pc := 473) (M' := M_RF_formed) (as := [.int (xs (4 * x + 1))]) (st := [.int v]) d_LW_law_473 MW_RF_formed MI_RF_formed LK_LW_81 (Nat.le_of_ble_eq_true rfl) rfl rfl rfl hct ⟨by decide, by decide⟩ ⟨(Nat.le_of_ble_eq_true rfl), (Nat.le_of_ble_eq_true rfl)⟩ rfl rfl (Nat.le_of_ble_eq_true rfl) ?_
  rintro _ _ ⟨iv2, rfl, rfl, hR2⟩
  refine ex_icmp_eq (pc := 476) (tgt := 481) d_LW_law_476 rfl (fun _ => ?_) (fun z => absurd rfl z)
  exact k iv2 mp1 sp1 mo1 hR2
set_option maxRecDepth 100000 in
set_option maxHeartbeats 4000000 in
theorem law_loop (l : Launch) (G : ex_G) (nm : String) (b N : Nat) (xs : Nat → Int32) (hX : va_X b N xs s s.heap) (hbl : b < s.heap.size) (hG : s.heap.size ≤ G.1) (hN : N ≤ 2048) : ∀ (j x : Nat) (iv : Nat → Nat → Int32) (mp : Nat → Nat) (sp mo : Nat), N < 4 * x + 4 * j + 4 → 4 * x ≤ N → Rel9 x iv mp sp → EX (M_LW nm) l G room_1 (lw_Z below #[Value.ref b] s) p e s m #[Value.ref b] below meth c 129 4847 18 (LLaw b x) [] (HP iv mp sp mo) := by
  intro j
  induction j with
  | zero =>
    intro x iv mp sp mo hj hxN hR
    refine ex_iload_n (pc := 18) (i := 3) d_LW_law_18 rfl rfl ?_
    refine ex_aloadX (pc := 19) (i := 0) d_LW_law_19 rfl rfl ?_
    refine ex_slen (pc := 20) hX hbl hG d_LW_law_20 ?_
    refine ex_iconst (pc := 21) (v := nI 4) d_LW_law_21 (by decide) ?_
    refine ex_isub (pc := 22) d_LW_law_22 ?_
    refine ex_icmp_gt (pc := 23) (tgt := 487) d_LW_law_23 rfl (fun _ => ?_) (fun z => ?_)
    · refine ex_iconst (pc := 487) (v := nI 1) d_LW_law_487 (by decide) ?_
      exact ex_lwret (pc := 488) d_LW_law_488 hG (by omega) (by omega)
    · refine absurd (i_lt.mpr ?_) z
      rw [sub4 (by omega), nI_t (by omega)]
      omega
  | succ j ih =>
    intro x iv mp sp mo hj hxN hR
    refine ex_iload_n (pc := 18) (i := 3) d_LW_law_18 rfl rfl ?_
    refine ex_aloadX (pc := 19) (i := 0) d_LW_law_19 rfl rfl ?_
    refine ex_slen (pc := 20) hX hbl hG d_LW_law_20 ?_
    refine ex_iconst (pc := 21) (v := nI 4) d_LW_law_21 (by decide) ?_
    refine ex_isub (pc := 22) d_LW_law_22 ?_
    refine ex_icmp_gt (pc := 23) (tgt := 487) d_LW_law_23 rfl (fun _ => ?_) (fun z => ?_)
    · refine ex_iconst (pc := 487) (v := nI 1) d_LW_law_487 (by decide) ?_
      exact ex_lwret (pc := 488) d_LW_law_488 hG (by omega) (by omega)
    have hx4 : 4 * x + 4 ≤ N := by
      have z1 := i_nlt z
      rw [sub4 (by omega), nI_t (by omega)] at z1
      omega
    have k : ∀ iv mp sp mo, Rel9 (x + 1) iv mp sp → EX (M_LW nm) l G room_1 (lw_Z below #[Value.ref b] s) p e s m #[Value.ref b] below meth c 129 4847 481 (LLaw b x) [] (HP iv mp sp mo) := fun iv mp sp mo hR2 => law_next l G _ nm b x _ (ih (x + 1) iv mp sp mo (by omega) (by omega) hR2)
    refine ex_aloadX (pc := 26) (i := 0) d_LW_law_26 rfl rfl ?_
    refine ex_iload_n (pc := 27) (i := 3) d_LW_law_27 rfl rfl ?_
    refine ex_sld (pc := 28) (4 * x) hX hbl hG (nI_t (by omega)) (by omega) d_LW_law_28 ?_
    refine ex_bipush (pc := 29) (v := nI 15) d_LW_law_29 (by decide) ?_
    refine ex_iand (pc := 31) d_LW_law_31 ?_
    by_cases w32_0 : (xs (4 * x) &&& nI 15).toInt = 0
    · refine ex_tableIn (pc := 32) (off := 76) (tgt := 108) d_LW_law_32 (by omega) (by omega) (by rw [w32_0]; rfl) rfl ?_
      exact law_write l G _ nm b N x xs hX hbl hG hN hx4 iv mp sp mo hR k
    by_cases w32_1 : (xs (4 * x) &&& nI 15).toInt = 1
    · refine ex_tableIn (pc := 32) (off := 101) (tgt := 133) d_LW_law_32 (by omega) (by omega) (by rw [w32_1]; rfl) rfl ?_
      exact law_define l G _ nm b N x xs hX hbl hG hN hx4 iv mp sp mo hR k
    by_cases w32_2 : (xs (4 * x) &&& nI 15).toInt = 2
    · refine ex_tableIn (pc := 32) (off := 126) (tgt := 158) d_LW_law_32 (by omega) (by omega) (by rw [w32_2]; rfl) rfl ?_
      exact law_insert l G _ nm b N x xs hX hbl hG hN hx4 iv mp sp mo hR k
    by_cases w32_3 : (xs (4 * x) &&& nI 15).toInt = 3
    · refine ex_tableIn (pc := 32) (off := 161) (tgt := 193) d_LW_law_32 (by omega) (by omega) (by rw [w32_3]; rfl) rfl ?_
      exact law_erase l G _ nm b N x xs hX hbl hG hN hx4 iv mp sp mo hR k
    by_cases w32_4 : (xs (4 * x) &&& nI 15).toInt = 4
    · refine ex_tableIn (pc := 32) (off := 194) (tgt := 226) d_LW_law_32 (by omega) (by omega) (by rw [w32_4]; rfl) rfl ?_
      exact law_ask l G _ nm b N x xs hX hbl hG hN hx4 (by omega) iv mp sp mo hR k
    by_cases w32_5 : (xs (4 * x) &&& nI 15).toInt = 5
    · refine ex_tableIn (pc := 32) (off := 239) (tgt := 271) d_LW_law_32 (by omega) (by omega) (by rw [w32_5]; rfl) rfl ?_
      exact law_cancel l G _ nm b N x xs hX hbl hG hN hx4 iv mp sp mo hR k
    by_cases w32_6 : (xs (4 * x) &&& nI 15).toInt = 6
    · refine ex_tableIn (pc := 32) (off := 262) (tgt := 294) d_LW_law_32 (by omega) (by omega) (by rw [w32_6]; rfl) rfl ?_
      exact law_work l G _ nm b N x xs hX hbl hG hN hx4 (by omega) iv mp sp mo hR k
    by_cases w32_7 : (xs (4 * x) &&& nI 15).toInt = 7
    · refine ex_tableIn (pc := 32) (off := 275) (tgt := 307) d_LW_law_32 (by omega) (by omega) (by rw [w32_7]; rfl) rfl ?_
      exact law_answer l G _ nm b N x xs hX hbl hG hN hx4 (by omega) iv mp sp mo hR k
    by_cases w32_8 : (xs (4 * x) &&& nI 15).toInt = 8
    · refine ex_tableIn (pc := 32) (off := 298) (tgt := 330) d_LW_law_32 (by omega) (by omega) (by rw [w32_8]; rfl) rfl ?_
      exact law_inbox l G _ nm b N x xs hX hbl hG hN hx4 iv mp sp mo hR k
    by_cases w32_9 : (xs (4 * x) &&& nI 15).toInt = 9
    · refine ex_tableIn (pc := 32) (off := 311) (tgt := 343) d_LW_law_32 (by omega) (by omega) (by rw [w32_9]; rfl) rfl ?_
      exact law_length l G _ nm b N x xs hX hbl hG hN hx4 iv mp sp mo hR k
    by_cases w32_10 : (xs (4 * x) &&& nI 15).toInt = 10
    · refine ex_tableIn (pc := 32) (off := 324) (tgt := 356) d_LW_law_32 (by omega) (by omega) (by rw [w32_10]; rfl) rfl ?_
      exact law_character l G _ nm b N x xs hX hbl hG hN hx4 iv mp sp mo hR k
    by_cases w32_11 : (xs (4 * x) &&& nI 15).toInt = 11
    · refine ex_tableIn (pc := 32) (off := 347) (tgt := 379) d_LW_law_32 (by omega) (by omega) (by rw [w32_11]; rfl) rfl ?_
      exact law_element l G _ nm b N x xs hX hbl hG hN hx4 iv mp sp mo hR k
    by_cases w32_12 : (xs (4 * x) &&& nI 15).toInt = 12
    · refine ex_tableIn (pc := 32) (off := 380) (tgt := 412) d_LW_law_32 (by omega) (by omega) (by rw [w32_12]; rfl) rfl ?_
      exact law_fault l G _ nm b N x xs hX hbl hG hN hx4 iv mp sp mo hR k
    by_cases w32_13 : (xs (4 * x) &&& nI 15).toInt = 13
    · refine ex_tableIn (pc := 32) (off := 413) (tgt := 445) d_LW_law_32 (by omega) (by omega) (by rw [w32_13]; rfl) rfl ?_
      exact law_fertile l G _ nm b N x xs hX hbl hG hN hx4 iv mp sp mo hR k
    by_cases w32_14 : (xs (4 * x) &&& nI 15).toInt = 14
    · refine ex_tableIn (pc := 32) (off := 426) (tgt := 458) d_LW_law_32 (by omega) (by omega) (by rw [w32_14]; rfl) rfl ?_
      exact law_formed l G _ nm b N x xs hX hbl hG hN hx4 iv mp sp mo hR k
    refine ex_tableOut (pc := 32) (tgt := 481) d_LW_law_32 (by omega) rfl ?_
    exact k iv mp sp mo (rel_up hR)
end LL
