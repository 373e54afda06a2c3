def tkd (iv : Nat → Nat → Int32) (q : Nat) (mix : Bool) : Nat → Nat → Int32 := ex_u2 (ex_u2 (ex_u2 (ex_u2 (ex_u2 (ex_u2 iv 94 q (nI 1)) 95 q (b2i mix)) 96 q (iv 96 9)) 97 q (iv 97 9)) 98 q (iv 98 9)) 99 q (iv 99 9)
def cpN (iv : Nat → Nat → Int32) (q i : Nat) : Nat → Nat → Int32 := fun u k => if (u = 100 ∨ u = 101) ∧ 10 * q ≤ k ∧ k < 10 * q + i then iv u (90 + (k - 10 * q)) else iv u k
theorem cpN_0 {iv : Nat → Nat → Int32} {q : Nat} : iv = cpN iv q 0 := by
  funext u k
  unfold cpN
  rw [if_neg (by omega)]
theorem cpN_9 {iv : Nat → Nat → Int32} {q i u k : Nat} (hq : q < 9) (hi : i ≤ 10) (hk : 90 ≤ k) : cpN iv q i u k = iv u k := by
  unfold cpN
  rw [if_neg (by omega)]
theorem cpN_s {iv : Nat → Nat → Int32} {q i : Nat} (hq : q < 9) (hi : i < 10) : ex_u2 (ex_u2 (cpN iv q i) 100 (10 * q + i) (iv 100 (90 + i))) 101 (10 * q + i) (iv 101 (90 + i)) = cpN iv q (i + 1) := by
  funext u k
  unfold ex_u2 cpN
  by_cases h1 : u = 101 ∧ k = 10 * q + i
  · rw [if_pos h1, if_pos ⟨Or.inr h1.1, by omega, by omega⟩, h1.1, h1.2, show 10 * q + i - 10 * q = i by omega]
  · rw [if_neg h1]
    by_cases h2 : u = 100 ∧ k = 10 * q + i
    · rw [if_pos h2, if_pos ⟨Or.inl h2.1, by omega, by omega⟩, h2.1, h2.2, show 10 * q + i - 10 * q = i by omega]
    · rw [if_neg h2]
      by_cases h3 : (u = 100 ∨ u = 101) ∧ 10 * q ≤ k ∧ k < 10 * q + i
      · rw [if_pos h3, if_pos ⟨h3.1, h3.2.1, by omega⟩]
      · rw [if_neg h3, if_neg (by omega)]
def tkD (iv : Nat → Nat → Int32) (q : Nat) (mix : Bool) : Nat → Nat → Int32 := cpN (tkd iv q mix) q 10
set_option maxRecDepth 100000 in
set_option maxHeartbeats 4000000 in
theorem lp_RF_takeDraft {p : Program} {e : Env} {s : State} {m : MethodId} {args : Array Value} {below : List Frame} {meth : Method} {c : Code} (l : Launch) (G : ex_G) (iv : Nat → Nat → Int32) (mp : Nat → Nat) (sp mo : Nat) (q : Nat) (hq : q < 9) (y mx fr : Int32) (PP : Option Value → ex_H → Prop) (hPP : PP (some (.int (nI 0))) (HP (cpN iv q 10) mp sp mo)) : ∀ (k i : Nat), i + k = 10 → EXM M_RF_takeDraft l G 3 (fun r h' => PP r h') p e s m args below meth c 189 [some (.ref 92), some (.int y), some (.int mx), some (.int fr), some (.int (nI q)), some (.int (nI i))] [] (HP (cpN iv q i) mp sp mo) := by
  intro k
  induction k with
  | zero =>
    intro i hik
    have hi : i = 10 := by omega
    subst hi
    refine ex_iload (pc := 189) d_RF_takeDraft_189 rfl ?_
    refine ex_bipush (pc := 191) (v := (nI 10)) d_RF_takeDraft_191 (by decide) ?_
    refine ex_icmp_ge (pc := 193) (tgt := 248) d_RF_takeDraft_193 rfl (fun c193 => ?_) (fun c193 => ?_)
    · refine ex_iconst (pc := 248) (v := (nI 0)) d_RF_takeDraft_248 (by decide) ?_
      refine ex_iret (ty := .int) d_RF_takeDraft_249 rfl rfl rfl (Nat.le_refl _) ?_
      exact hPP
    · exact absurd ((n_ge (by omega) (by omega)).mpr (by omega)) c193
  | succ k ih =>
    intro i hik
    refine ex_iload (pc := 189) d_RF_takeDraft_189 rfl ?_
    refine ex_bipush (pc := 191) (v := (nI 10)) d_RF_takeDraft_191 (by decide) ?_
    refine ex_icmp_ge (pc := 193) (tgt := 248) d_RF_takeDraft_193 rfl (fun c193 => ?_) (fun c193 => ?_)
    · exact absurd ((n_ge (by omega) (by omega)).mp c193) (by omega)
    · refine ex_aload_n (pc := 196) (i := 0) d_RF_takeDraft_196 rfl rfl ?_
      refine ex_getr (pc := 197) 12 8 d_RF_takeDraft_197 FL_RF_32 (Nat.le_of_ble_eq_true rfl) rfl rfl ?_
      refine ex_bipush (pc := 200) (v := (nI 10)) d_RF_takeDraft_200 (by decide) ?_
      refine ex_iload (pc := 202) d_RF_takeDraft_202 rfl ?_
      refine ex_imul (pc := 204) d_RF_takeDraft_204 ?_
      refine ex_top (nI_mul 10 q) ?_
      refine ex_iload (pc := 205) d_RF_takeDraft_205 rfl ?_
      refine ex_iadd (pc := 207) d_RF_takeDraft_207 ?_
      refine ex_top (nI_add (10 * q) i) ?_
      refine ex_aload_n (pc := 208) (i := 0) d_RF_takeDraft_208 rfl rfl ?_
      refine ex_getr (pc := 209) 12 8 d_RF_takeDraft_209 FL_RF_32 (Nat.le_of_ble_eq_true rfl) rfl rfl ?_
      refine ex_bipush (pc := 212) (v := (nI 90)) d_RF_takeDraft_212 (by decide) ?_
      refine ex_iload (pc := 214) d_RF_takeDraft_214 rfl ?_
      refine ex_iadd (pc := 216) d_RF_takeDraft_216 ?_
      refine ex_top (nI_add 90 i) ?_
      refine ex_ialdx (pc := 217) (90 + i) (iv 100 (90 + i)) d_RF_takeDraft_217 (Nat.le_of_ble_eq_true rfl) rfl rfl rfl (nI_t (by omega)) (show (90 + i) < 100 by omega) (cpN_9 hq (by omega) (by omega)) ?_
      refine ex_iast (pc := 218) (10 * q + i) d_RF_takeDraft_218 (Nat.le_of_ble_eq_true rfl) rfl rfl rfl (nI_t (by omega)) (show (10 * q + i) < 100 by omega) ?_
      refine ex_aload_n (pc := 219) (i := 0) d_RF_takeDraft_219 rfl rfl ?_
      refine ex_getr (pc := 220) 12 9 d_RF_takeDraft_220 FL_RF_35 (Nat.le_of_ble_eq_true rfl) rfl rfl ?_
      refine ex_bipush (pc := 223) (v := (nI 10)) d_RF_takeDraft_223 (by decide) ?_
      refine ex_iload (pc := 225) d_RF_takeDraft_225 rfl ?_
      refine ex_imul (pc := 227) d_RF_takeDraft_227 ?_
      refine ex_top (nI_mul 10 q) ?_
      refine ex_iload (pc := 228) d_RF_takeDraft_228 rfl ?_
      refine ex_iadd (pc := 230) d_RF_takeDraft_230 ?_
      refine ex_top (nI_add (10 * q) i) ?_
      refine ex_aload_n (pc := 231) (i := 0) d_RF_takeDraft_231 rfl rfl ?_
      refine ex_getr (pc := 232) 12 9 d_RF_takeDraft_232 FL_RF_35 (Nat.le_of_ble_eq_true rfl) rfl rfl ?_
      refine ex_bipush (pc := 235) (v := (nI 90)) d_RF_takeDraft_235 (by decide) ?_
      refine ex_iload (pc := 237) d_RF_takeDraft_237 rfl ?_
      refine ex_iadd (pc := 239) d_RF_takeDraft_239 ?_
      refine ex_top (nI_add 90 i) ?_
      refine ex_ialdx (pc := 240) (90 + i) (iv 101 (90 + i)) d_RF_takeDraft_240 (Nat.le_of_ble_eq_true rfl) rfl rfl rfl (nI_t (by omega)) (show (90 + i) < 100 by omega) (show ex_u2 (cpN iv q i) 100 (10 * q + i) (iv 100 (90 + i)) 101 (90 + i) = iv 101 (90 + i) from (u2n (Or.inl (by decide))).trans (cpN_9 hq (by omega) (by omega))) ?_
      refine ex_iast (pc := 241) (10 * q + i) d_RF_takeDraft_241 (Nat.le_of_ble_eq_true rfl) rfl rfl rfl (nI_t (by omega)) (show (10 * q + i) < 100 by omega) ?_
      refine ex_heap (congrArg (fun z => HP z mp sp mo) (cpN_s hq (by omega))) ?_
      refine ex_iinc (pc := 242) (v := (nI (i + 1))) d_RF_takeDraft_242 rfl (nI_1 i) (by decide) ?_
      refine ex_goto (pc := 245) (tgt := 189) d_RF_takeDraft_245 rfl ?_
      exact ih (i + 1) (by omega)

theorem row_of {y : Int32} (hy : y = nI 46 ∨ nmB y = true) : (y = nI 46 → rowN y = 8) ∧ (¬ y = nI 46 → y - nI 97 = nI (rowN y)) := by
  refine ⟨fun h => by rw [h]; exact row_doc, fun h => ?_⟩
  have hn := hy.resolve_left h
  rw [(row_nm hn).1]
  exact nmS hn
set_option maxRecDepth 100000 in
set_option maxHeartbeats 4000000 in
theorem lt_RF_takeDraft {p : Program} {e : Env} {s : State} {m : MethodId} {args : Array Value} {below : List Frame} {meth : Method} {c : Code} (l : Launch) (G : ex_G) (iv : Nat → Nat → Int32) (mp : Nat → Nat) (sp mo : Nat) (y : Int32) (hy : y = nI 46 ∨ nmB y = true) (mixB eB : Bool) (h98 : iv 98 9 = b2i eB) (fr : Int32) (u4 u5 : Option Value) (PP : Option Value → ex_H → Prop) (hPP : PP (some (.int (nI 0))) (HP (tkD iv (rowN y) mixB) mp sp mo)) : EXM M_RF_takeDraft l G 3 (fun r h' => PP r h') p e s m args below meth c 97 [some (.ref 92), some (.int y), some (.int (b2i mixB)), some (.int fr), u4, u5] [] (HP iv mp sp mo) := by
  refine ex_iload_n (pc := 97) (i := 1) d_RF_takeDraft_97 rfl rfl ?_
  refine ex_bipush (pc := 98) (v := (nI 46)) d_RF_takeDraft_98 (by decide) ?_
  refine ex_icmp_ne (pc := 100) (tgt := 108) d_RF_takeDraft_100 rfl (fun c100 => ?_) (fun c100 => ?_)
  · refine ex_iload_n (pc := 108) (i := 1) d_RF_takeDraft_108 rfl rfl ?_
    refine ex_bipush (pc := 109) (v := (nI 97)) d_RF_takeDraft_109 (by decide) ?_
    refine ex_isub (pc := 111) d_RF_takeDraft_111 ?_
    refine ex_top ((row_of hy).2 c100) ?_
    refine ex_istore (pc := 112) d_RF_takeDraft_112 (by decide) ?_
    refine ex_aload_n (pc := 114) (i := 0) d_RF_takeDraft_114 rfl rfl ?_
    refine ex_getr (pc := 115) 12 2 d_RF_takeDraft_115 FL_RF_13 (Nat.le_of_ble_eq_true rfl) rfl rfl ?_
    refine ex_iload (pc := 118) d_RF_takeDraft_118 rfl ?_
    refine ex_iconst (pc := 120) (v := (nI 1)) d_RF_takeDraft_120 (by decide) ?_
    refine ex_zast (pc := 121) (rowN y) d_RF_takeDraft_121 (Nat.le_of_ble_eq_true rfl) rfl rfl rfl (nI_t (by have := rowN_lt y; omega)) (show (rowN y) < 10 by have := rowN_lt y; omega) ?_
    refine ex_aload_n (pc := 122) (i := 0) d_RF_takeDraft_122 rfl rfl ?_
    refine ex_getr (pc := 123) 12 3 d_RF_takeDraft_123 FL_RF_17 (Nat.le_of_ble_eq_true rfl) rfl rfl ?_
    refine ex_iload (pc := 126) d_RF_takeDraft_126 rfl ?_
    refine ex_iload_n (pc := 128) (i := 2) d_RF_takeDraft_128 rfl rfl ?_
    refine ex_zast (pc := 129) (rowN y) d_RF_takeDraft_129 (Nat.le_of_ble_eq_true rfl) rfl rfl rfl (nI_t (by have := rowN_lt y; omega)) (show (rowN y) < 10 by have := rowN_lt y; omega) ?_
    refine ex_heap (congrArg (fun z => HP (ex_u2 (ex_u2 iv 94 (rowN y) (nI 1)) 95 (rowN y) z) mp sp mo) (vp_b mixB)) ?_
    refine ex_aload_n (pc := 130) (i := 0) d_RF_takeDraft_130 rfl rfl ?_
    refine ex_getr (pc := 131) 12 4 d_RF_takeDraft_131 FL_RF_20 (Nat.le_of_ble_eq_true rfl) rfl rfl ?_
    refine ex_iload (pc := 134) d_RF_takeDraft_134 rfl ?_
    refine ex_aload_n (pc := 136) (i := 0) d_RF_takeDraft_136 rfl rfl ?_
    refine ex_getr (pc := 137) 12 4 d_RF_takeDraft_137 FL_RF_20 (Nat.le_of_ble_eq_true rfl) rfl rfl ?_
    refine ex_bipush (pc := 140) (v := (nI 9)) d_RF_takeDraft_140 (by decide) ?_
    refine ex_ialdx (pc := 142) 9 (iv 96 9) d_RF_takeDraft_142 (Nat.le_of_ble_eq_true rfl) rfl rfl rfl (nI_t (by omega)) (show 9 < 10 by omega) (show (ex_u2 (ex_u2 iv 94 (rowN y) (nI 1)) 95 (rowN y) (b2i mixB)) 96 9 = iv 96 9 from ((u2n (Or.inl (by decide))).trans ((u2n (Or.inl (by decide))).trans rfl))) ?_
    refine ex_iast (pc := 143) (rowN y) d_RF_takeDraft_143 (Nat.le_of_ble_eq_true rfl) rfl rfl rfl (nI_t (by have := rowN_lt y; omega)) (show (rowN y) < 10 by have := rowN_lt y; omega) ?_
    refine ex_aload_n (pc := 144) (i := 0) d_RF_takeDraft_144 rfl rfl ?_
    refine ex_getr (pc := 145) 12 5 d_RF_takeDraft_145 FL_RF_23 (Nat.le_of_ble_eq_true rfl) rfl rfl ?_
    refine ex_iload (pc := 148) d_RF_takeDraft_148 rfl ?_
    refine ex_aload_n (pc := 150) (i := 0) d_RF_takeDraft_150 rfl rfl ?_
    refine ex_getr (pc := 151) 12 5 d_RF_takeDraft_151 FL_RF_23 (Nat.le_of_ble_eq_true rfl) rfl rfl ?_
    refine ex_bipush (pc := 154) (v := (nI 9)) d_RF_takeDraft_154 (by decide) ?_
    refine ex_ialdx (pc := 156) 9 (iv 97 9) d_RF_takeDraft_156 (Nat.le_of_ble_eq_true rfl) rfl rfl rfl (nI_t (by omega)) (show 9 < 10 by omega) (show (ex_u2 (ex_u2 (ex_u2 iv 94 (rowN y) (nI 1)) 95 (rowN y) (b2i mixB)) 96 (rowN y) (iv 96 9)) 97 9 = iv 97 9 from ((u2n (Or.inl (by decide))).trans ((u2n (Or.inl (by decide))).trans ((u2n (Or.inl (by decide))).trans rfl)))) ?_
    refine ex_iast (pc := 157) (rowN y) d_RF_takeDraft_157 (Nat.le_of_ble_eq_true rfl) rfl rfl rfl (nI_t (by have := rowN_lt y; omega)) (show (rowN y) < 10 by have := rowN_lt y; omega) ?_
    refine ex_aload_n (pc := 158) (i := 0) d_RF_takeDraft_158 rfl rfl ?_
    refine ex_getr (pc := 159) 12 6 d_RF_takeDraft_159 FL_RF_26 (Nat.le_of_ble_eq_true rfl) rfl rfl ?_
    refine ex_iload (pc := 162) d_RF_takeDraft_162 rfl ?_
    refine ex_aload_n (pc := 164) (i := 0) d_RF_takeDraft_164 rfl rfl ?_
    refine ex_getr (pc := 165) 12 6 d_RF_takeDraft_165 FL_RF_26 (Nat.le_of_ble_eq_true rfl) rfl rfl ?_
    refine ex_bipush (pc := 168) (v := (nI 9)) d_RF_takeDraft_168 (by decide) ?_
    refine ex_zaldx (pc := 170) 9 (iv 98 9) d_RF_takeDraft_170 (Nat.le_of_ble_eq_true rfl) rfl rfl rfl (nI_t (by omega)) (show 9 < 10 by omega) (show (ex_u2 (ex_u2 (ex_u2 (ex_u2 iv 94 (rowN y) (nI 1)) 95 (rowN y) (b2i mixB)) 96 (rowN y) (iv 96 9)) 97 (rowN y) (iv 97 9)) 98 9 = iv 98 9 from ((u2n (Or.inl (by decide))).trans ((u2n (Or.inl (by decide))).trans ((u2n (Or.inl (by decide))).trans ((u2n (Or.inl (by decide))).trans rfl))))) ?_
    refine ex_zast (pc := 171) (rowN y) d_RF_takeDraft_171 (Nat.le_of_ble_eq_true rfl) rfl rfl rfl (nI_t (by have := rowN_lt y; omega)) (show (rowN y) < 10 by have := rowN_lt y; omega) ?_
    refine ex_heap (congrArg (fun z => HP (ex_u2 (ex_u2 (ex_u2 (ex_u2 (ex_u2 iv 94 (rowN y) (nI 1)) 95 (rowN y) (b2i mixB)) 96 (rowN y) (iv 96 9)) 97 (rowN y) (iv 97 9)) 98 (rowN y) z) mp sp mo) (show vp_nar .boolean (iv 98 9) = iv 98 9 by rw [h98]; exact vp_b eB)) ?_
    refine ex_aload_n (pc := 172) (i := 0) d_RF_takeDraft_172 rfl rfl ?_
    refine ex_getr (pc := 173) 12 7 d_RF_takeDraft_173 FL_RF_29 (Nat.le_of_ble_eq_true rfl) rfl rfl ?_
    refine ex_iload (pc := 176) d_RF_takeDraft_176 rfl ?_
    refine ex_aload_n (pc := 178) (i := 0) d_RF_takeDraft_178 rfl rfl ?_
    refine ex_getr (pc := 179) 12 7 d_RF_takeDraft_179 FL_RF_29 (Nat.le_of_ble_eq_true rfl) rfl rfl ?_
    refine ex_bipush (pc := 182) (v := (nI 9)) d_RF_takeDraft_182 (by decide) ?_
    refine ex_ialdx (pc := 184) 9 (iv 99 9) d_RF_takeDraft_184 (Nat.le_of_ble_eq_true rfl) rfl rfl rfl (nI_t (by omega)) (show 9 < 10 by omega) (show (ex_u2 (ex_u2 (ex_u2 (ex_u2 (ex_u2 iv 94 (rowN y) (nI 1)) 95 (rowN y) (b2i mixB)) 96 (rowN y) (iv 96 9)) 97 (rowN y) (iv 97 9)) 98 (rowN y) (iv 98 9)) 99 9 = iv 99 9 from ((u2n (Or.inl (by decide))).trans ((u2n (Or.inl (by decide))).trans ((u2n (Or.inl (by decide))).trans ((u2n (Or.inl (by decide))).trans ((u2n (Or.inl (by decide))).trans rfl)))))) ?_
    refine ex_iast (pc := 185) (rowN y) d_RF_takeDraft_185 (Nat.le_of_ble_eq_true rfl) rfl rfl rfl (nI_t (by have := rowN_lt y; omega)) (show (rowN y) < 10 by have := rowN_lt y; omega) ?_
    refine ex_iconst (pc := 186) (v := (nI 0)) d_RF_takeDraft_186 (by decide) ?_
    refine ex_istore (pc := 187) d_RF_takeDraft_187 (by decide) ?_
    refine ex_heap (congrArg (fun z => HP z mp sp mo) (show _ = cpN (tkd iv (rowN y) mixB) (rowN y) 0 from cpN_0)) ?_
    exact lp_RF_takeDraft l G (tkd iv (rowN y) mixB) mp sp mo (rowN y) (rowN_lt y) y _ fr PP hPP 10 0 (by omega)
  · refine ex_bipush (pc := 103) (v := (nI 8)) d_RF_takeDraft_103 (by decide) ?_
    refine ex_goto (pc := 105) (tgt := 112) d_RF_takeDraft_105 rfl ?_
    refine ex_top (show nI 8 = nI (rowN y) by rw [(row_of hy).1 c100]) ?_
    refine ex_istore (pc := 112) d_RF_takeDraft_112 (by decide) ?_
    refine ex_aload_n (pc := 114) (i := 0) d_RF_takeDraft_114 rfl rfl ?_
    refine ex_getr (pc := 115) 12 2 d_RF_takeDraft_115 FL_RF_13 (Nat.le_of_ble_eq_true rfl) rfl rfl ?_
    refine ex_iload (pc := 118) d_RF_takeDraft_118 rfl ?_
    refine ex_iconst (pc := 120) (v := (nI 1)) d_RF_takeDraft_120 (by decide) ?_
    refine ex_zast (pc := 121) (rowN y) d_RF_takeDraft_121 (Nat.le_of_ble_eq_true rfl) rfl rfl rfl (nI_t (by have := rowN_lt y; omega)) (show (rowN y) < 10 by have := rowN_lt y; omega) ?_
    refine ex_aload_n (pc := 122) (i := 0) d_RF_takeDraft_122 rfl rfl ?_
    refine ex_getr (pc := 123) 12 3 d_RF_takeDraft_123 FL_RF_17 (Nat.le_of_ble_eq_true rfl) rfl rfl ?_
    refine ex_iload (pc := 126) d_RF_takeDraft_126 rfl ?_
    refine ex_iload_n (pc := 128) (i := 2) d_RF_takeDraft_128 rfl rfl ?_
    refine ex_zast (pc := 129) (rowN y) d_RF_takeDraft_129 (Nat.le_of_ble_eq_true rfl) rfl rfl rfl (nI_t (by have := rowN_lt y; omega)) (show (rowN y) < 10 by have := rowN_lt y; omega) ?_
    refine ex_heap (congrArg (fun z => HP (ex_u2 (ex_u2 iv 94 (rowN y) (nI 1)) 95 (rowN y) z) mp sp mo) (vp_b mixB)) ?_
    refine ex_aload_n (pc := 130) (i := 0) d_RF_takeDraft_130 rfl rfl ?_
    refine ex_getr (pc := 131) 12 4 d_RF_takeDraft_131 FL_RF_20 (Nat.le_of_ble_eq_true rfl) rfl rfl ?_
    refine ex_iload (pc := 134) d_RF_takeDraft_134 rfl ?_
    refine ex_aload_n (pc := 136) (i := 0) d_RF_takeDraft_136 rfl rfl ?_
    refine ex_getr (pc := 137) 12 4 d_RF_takeDraft_137 FL_RF_20 (Nat.le_of_ble_eq_true rfl) rfl rfl ?_
    refine ex_bipush (pc := 140) (v := (nI 9)) d_RF_takeDraft_140 (by decide) ?_
    refine ex_ialdx (pc := 142) 9 (iv 96 9) d_RF_takeDraft_142 (Nat.le_of_ble_eq_true rfl) rfl rfl rfl (nI_t (by omega)) (show 9 < 10 by omega) (show (ex_u2 (ex_u2 iv 94 (rowN y) (nI 1)) 95 (rowN y) (b2i mixB)) 96 9 = iv 96 9 from ((u2n (Or.inl (by decide))).trans ((u2n (Or.inl (by decide))).trans rfl))) ?_
    refine ex_iast (pc := 143) (rowN y) d_RF_takeDraft_143 (Nat.le_of_ble_eq_true rfl) rfl rfl rfl (nI_t (by have := rowN_lt y; omega)) (show (rowN y) < 10 by have := rowN_lt y; omega) ?_
    refine ex_aload_n (pc := 144) (i := 0) d_RF_takeDraft_144 rfl rfl ?_
    refine ex_getr (pc := 145) 12 5 d_RF_takeDraft_145 FL_RF_23 (Nat.le_of_ble_eq_true rfl) rfl rfl ?_
    refine ex_iload (pc := 148) d_RF_takeDraft_148 rfl ?_
    refine ex_aload_n (pc := 150) (i := 0) d_RF_takeDraft_150 rfl rfl ?_
    refine ex_getr (pc := 151) 12 5 d_RF_takeDraft_151 FL_RF_23 (Nat.le_of_ble_eq_true rfl) rfl rfl ?_
    refine ex_bipush (pc := 154) (v := (nI 9)) d_RF_takeDraft_154 (by decide) ?_
    refine ex_ialdx (pc := 156) 9 (iv 97 9) d_RF_takeDraft_156 (Nat.le_of_ble_eq_true rfl) rfl rfl rfl (nI_t (by omega)) (show 9 < 10 by omega) (show (ex_u2 (ex_u2 (ex_u2 iv 94 (rowN y) (nI 1)) 95 (rowN y) (b2i mixB)) 96 (rowN y) (iv 96 9)) 97 9 = iv 97 9 from ((u2n (Or.inl (by decide))).trans ((u2n (Or.inl (by decide))).trans ((u2n (Or.inl (by decide))).trans rfl)))) ?_
    refine ex_iast (pc := 157) (rowN y) d_RF_takeDraft_157 (Nat.le_of_ble_eq_true rfl) rfl rfl rfl (nI_t (by have := rowN_lt y; omega)) (show (rowN y) < 10 by have := rowN_lt y; omega) ?_
    refine ex_aload_n (pc := 158) (i := 0) d_RF_takeDraft_158 rfl rfl ?_
    refine ex_getr (pc := 159) 12 6 d_RF_takeDraft_159 FL_RF_26 (Nat.le_of_ble_eq_true rfl) rfl rfl ?_
    refine ex_iload (pc := 162) d_RF_takeDraft_162 rfl ?_
    refine ex_aload_n (pc := 164) (i := 0) d_RF_takeDraft_164 rfl rfl ?_
    refine ex_getr (pc := 165) 12 6 d_RF_takeDraft_165 FL_RF_26 (Nat.le_of_ble_eq_true rfl) rfl rfl ?_
    refine ex_bipush (pc := 168) (v := (nI 9)) d_RF_takeDraft_168 (by decide) ?_
    refine ex_zaldx (pc := 170) 9 (iv 98 9) d_RF_takeDraft_170 (Nat.le_of_ble_eq_true rfl) rfl rfl rfl (nI_t (by omega)) (show 9 < 10 by omega) (show (ex_u2 (ex_u2 (ex_u2 (ex_u2 iv 94 (rowN y) (nI 1)) 95 (rowN y) (b2i mixB)) 96 (rowN y) (iv 96 9)) 97 (rowN y) (iv 97 9)) 98 9 = iv 98 9 from ((u2n (Or.inl (by decide))).trans ((u2n (Or.inl (by decide))).trans ((u2n (Or.inl (by decide))).trans ((u2n (Or.inl (by decide))).trans rfl))))) ?_
    refine ex_zast (pc := 171) (rowN y) d_RF_takeDraft_171 (Nat.le_of_ble_eq_true rfl) rfl rfl rfl (nI_t (by have := rowN_lt y; omega)) (show (rowN y) < 10 by have := rowN_lt y; omega) ?_
    refine ex_heap (congrArg (fun z => HP (ex_u2 (ex_u2 (ex_u2 (ex_u2 (ex_u2 iv 94 (rowN y) (nI 1)) 95 (rowN y) (b2i mixB)) 96 (rowN y) (iv 96 9)) 97 (rowN y) (iv 97 9)) 98 (rowN y) z) mp sp mo) (show vp_nar .boolean (iv 98 9) = iv 98 9 by rw [h98]; exact vp_b eB)) ?_
    refine ex_aload_n (pc := 172) (i := 0) d_RF_takeDraft_172 rfl rfl ?_
    refine ex_getr (pc := 173) 12 7 d_RF_takeDraft_173 FL_RF_29 (Nat.le_of_ble_eq_true rfl) rfl rfl ?_
    refine ex_iload (pc := 176) d_RF_takeDraft_176 rfl ?_
    refine ex_aload_n (pc := 178) (i := 0) d_RF_takeDraft_178 rfl rfl ?_
    refine ex_getr (pc := 179) 12 7 d_RF_takeDraft_179 FL_RF_29 (Nat.le_of_ble_eq_true rfl) rfl rfl ?_
    refine ex_bipush (pc := 182) (v := (nI 9)) d_RF_takeDraft_182 (by decide) ?_
    refine ex_ialdx (pc := 184) 9 (iv 99 9) d_RF_takeDraft_184 (Nat.le_of_ble_eq_true rfl) rfl rfl rfl (nI_t (by omega)) (show 9 < 10 by omega) (show (ex_u2 (ex_u2 (ex_u2 (ex_u2 (ex_u2 iv 94 (rowN y) (nI 1)) 95 (rowN y) (b2i mixB)) 96 (rowN y) (iv 96 9)) 97 (rowN y) (iv 97 9)) 98 (rowN y) (iv 98 9)) 99 9 = iv 99 9 from ((u2n (Or.inl (by decide))).trans ((u2n (Or.inl (by decide))).trans ((u2n (Or.inl (by decide))).trans ((u2n (Or.inl (by decide))).trans ((u2n (Or.inl (by decide))).trans rfl)))))) ?_
    refine ex_iast (pc := 185) (rowN y) d_RF_takeDraft_185 (Nat.le_of_ble_eq_true rfl) rfl rfl rfl (nI_t (by have := rowN_lt y; omega)) (show (rowN y) < 10 by have := rowN_lt y; omega) ?_
    refine ex_iconst (pc := 186) (v := (nI 0)) d_RF_takeDraft_186 (by decide) ?_
    refine ex_istore (pc := 187) d_RF_takeDraft_187 (by decide) ?_
    refine ex_heap (congrArg (fun z => HP z mp sp mo) (show _ = cpN (tkd iv (rowN y) mixB) (rowN y) 0 from cpN_0)) ?_
    exact lp_RF_takeDraft l G (tkd iv (rowN y) mixB) mp sp mo (rowN y) (rowN_lt y) y _ fr PP hPP 10 0 (by omega)
