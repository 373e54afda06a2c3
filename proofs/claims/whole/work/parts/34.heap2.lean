/-! .. and everywhere -/
def iv_0 : Nat → Nat → Int32 := fun a k => if a = 0 ∧ k = 9 then nI 1 else 0
def dj (h : ex_H) : Prop := 0 < h.1 ∧ ∀ a k, h.2.2.2.1 a k = iv_0 a k
theorem iv_0n {a k : Nat} (h : 0 < a) : iv_0 a k = 0 := if_neg (fun q => by omega)
theorem dj_no {h : ex_H} (t : Nat) (d : dj h) : dj (ex_no h t) := by
  refine ⟨Nat.lt_succ_of_lt d.1, fun a k => ?_⟩
  show va_up h.2.2.2.1 h.1 (fun _ => 0) a k = _
  by_cases hn : a = h.1
  · rw [hn, va_up_self, iv_0n d.1]
  · rw [va_up_ne _ _ hn]
    exact d.2 a k
theorem dj_na {h : ex_H} (t n : Nat) (d : dj h) : dj (ex_na h t n) := by
  refine ⟨Nat.lt_succ_of_lt d.1, fun a k => ?_⟩
  show va_up h.2.2.2.1 h.1 (fun _ => 0) a k = _
  by_cases hn : a = h.1
  · rw [hn, va_up_self, iv_0n d.1]
  · rw [va_up_ne _ _ hn]
    exact d.2 a k
theorem dj_sr {h : ex_H} (b k : Nat) (v : Option Nat) (d : dj h) : dj (ex_sr h b k v) := d
theorem dj_RF {h : ex_H} {a : Nat} (d0 : dj h) : dj (ini_RF h a) := by
  have d1 := dj_na 0 40 d0
  have d2 := dj_sr a 1 (some (h.1 + 0)) d1
  have d3 := dj_na 2 10 d2
  have d4 := dj_sr a 2 (some (h.1 + 1)) d3
  have d5 := dj_na 2 10 d4
  have d6 := dj_sr a 3 (some (h.1 + 2)) d5
  have d7 := dj_na 0 10 d6
  have d8 := dj_sr a 4 (some (h.1 + 3)) d7
  have d9 := dj_na 0 10 d8
  have d10 := dj_sr a 5 (some (h.1 + 4)) d9
  have d11 := dj_na 2 10 d10
  have d12 := dj_sr a 6 (some (h.1 + 5)) d11
  have d13 := dj_na 0 10 d12
  have d14 := dj_sr a 7 (some (h.1 + 6)) d13
  have d15 := dj_na 0 100 d14
  have d16 := dj_sr a 8 (some (h.1 + 7)) d15
  have d17 := dj_na 0 100 d16
  have d18 := dj_sr a 9 (some (h.1 + 8)) d17
  have d19 := dj_na 2 14 d18
  have d20 := dj_sr a 10 (some (h.1 + 9)) d19
  have d21 := dj_na 0 14 d20
  have d22 := dj_sr a 11 (some (h.1 + 10)) d21
  have d23 := dj_na 0 14 d22
  have d24 := dj_sr a 12 (some (h.1 + 11)) d23
  have d25 := dj_na 2 14 d24
  have d26 := dj_sr a 13 (some (h.1 + 12)) d25
  have d27 := dj_na 0 100 d26
  have d28 := dj_sr a 15 (some (h.1 + 13)) d27
  have d29 := dj_na 0 40 d28
  have d30 := dj_sr a 17 (some (h.1 + 14)) d29
  have d31 := dj_na 0 40 d30
  have d32 := dj_sr a 18 (some (h.1 + 15)) d31
  have d33 := dj_na 0 40 d32
  have d34 := dj_sr a 19 (some (h.1 + 16)) d33
  have d35 := dj_na 0 40 d34
  have d36 := dj_sr a 20 (some (h.1 + 17)) d35
  have d37 := dj_na 0 40 d36
  have d38 := dj_sr a 21 (some (h.1 + 18)) d37
  have d39 := dj_na 0 40 d38
  have d40 := dj_sr a 22 (some (h.1 + 19)) d39
  have d41 := dj_na 0 40 d40
  have d42 := dj_sr a 23 (some (h.1 + 20)) d41
  have d43 := dj_na 0 40 d42
  have d44 := dj_sr a 24 (some (h.1 + 21)) d43
  have d45 := dj_na 2 40 d44
  have d46 := dj_sr a 25 (some (h.1 + 22)) d45
  have d47 := dj_na 0 101 d46
  have d48 := dj_sr a 26 (some (h.1 + 23)) d47
  have d49 := dj_na 0 101 d48
  have d50 := dj_sr a 27 (some (h.1 + 24)) d49
  have d51 := dj_na 0 101 d50
  have d52 := dj_sr a 28 (some (h.1 + 25)) d51
  have d53 := dj_na 0 400 d52
  have d54 := dj_sr a 30 (some (h.1 + 26)) d53
  have d55 := dj_na 0 400 d54
  have d56 := dj_sr a 31 (some (h.1 + 27)) d55
  have d57 := dj_na 0 13 d56
  have d58 := dj_sr a 33 (some (h.1 + 28)) d57
  have d59 := dj_na 0 13 d58
  have d60 := dj_sr a 34 (some (h.1 + 29)) d59
  have d61 := dj_na 0 13 d60
  have d62 := dj_sr a 35 (some (h.1 + 30)) d61
  have d63 := dj_na 0 13 d62
  have d64 := dj_sr a 36 (some (h.1 + 31)) d63
  have d65 := dj_na 0 13 d64
  have d66 := dj_sr a 37 (some (h.1 + 32)) d65
  have d67 := dj_na 0 8 d66
  have d68 := dj_sr a 40 (some (h.1 + 33)) d67
  have d69 := dj_na 0 8 d68
  have d70 := dj_sr a 41 (some (h.1 + 34)) d69
  have d71 := dj_na 0 900 d70
  have d72 := dj_sr a 43 (some (h.1 + 35)) d71
  exact d72
def sS (h h' : ex_H) : Prop := h.1 = h'.1 ∧ h.2.1 = h'.2.1 ∧ h.2.2.1 = h'.2.2.1 ∧ h.2.2.2.2 = h'.2.2.2.2
theorem sS_no {h h' : ex_H} (t : Nat) (q : sS h h') : sS (ex_no h t) (ex_no h' t) := by
  obtain ⟨q1, q2, q3, q4⟩ := q
  unfold ex_no sS
  rw [q1, q2, q3, q4]
  exact ⟨rfl, rfl, rfl, rfl⟩
theorem sS_na {h h' : ex_H} (t n : Nat) (q : sS h h') : sS (ex_na h t n) (ex_na h' t n) := by
  obtain ⟨q1, q2, q3, q4⟩ := q
  unfold ex_na sS
  rw [q1, q2, q3, q4]
  exact ⟨rfl, rfl, rfl, rfl⟩
theorem sS_sr {h h' : ex_H} (b k : Nat) (v : Option Nat) {v' : Option Nat} (hv : v = v') (q : sS h h') : sS (ex_sr h b k v) (ex_sr h' b k v') := by
  obtain ⟨q1, q2, q3, q4⟩ := q
  subst hv
  unfold ex_sr sS
  rw [q1, q2, q3, q4]
  exact ⟨rfl, rfl, rfl, rfl⟩
theorem sS_RF {h h' : ex_H} {a : Nat} (q0 : sS h h') : sS (ini_RF h a) (ini_RF h' a) := by
  have q1 := sS_na 0 40 q0
  have q2 := sS_sr a 1 (some (h.1 + 0)) (v' := some (h'.1 + 0)) (by rw [q0.1]) q1
  have q3 := sS_na 2 10 q2
  have q4 := sS_sr a 2 (some (h.1 + 1)) (v' := some (h'.1 + 1)) (by rw [q0.1]) q3
  have q5 := sS_na 2 10 q4
  have q6 := sS_sr a 3 (some (h.1 + 2)) (v' := some (h'.1 + 2)) (by rw [q0.1]) q5
  have q7 := sS_na 0 10 q6
  have q8 := sS_sr a 4 (some (h.1 + 3)) (v' := some (h'.1 + 3)) (by rw [q0.1]) q7
  have q9 := sS_na 0 10 q8
  have q10 := sS_sr a 5 (some (h.1 + 4)) (v' := some (h'.1 + 4)) (by rw [q0.1]) q9
  have q11 := sS_na 2 10 q10
  have q12 := sS_sr a 6 (some (h.1 + 5)) (v' := some (h'.1 + 5)) (by rw [q0.1]) q11
  have q13 := sS_na 0 10 q12
  have q14 := sS_sr a 7 (some (h.1 + 6)) (v' := some (h'.1 + 6)) (by rw [q0.1]) q13
  have q15 := sS_na 0 100 q14
  have q16 := sS_sr a 8 (some (h.1 + 7)) (v' := some (h'.1 + 7)) (by rw [q0.1]) q15
  have q17 := sS_na 0 100 q16
  have q18 := sS_sr a 9 (some (h.1 + 8)) (v' := some (h'.1 + 8)) (by rw [q0.1]) q17
  have q19 := sS_na 2 14 q18
  have q20 := sS_sr a 10 (some (h.1 + 9)) (v' := some (h'.1 + 9)) (by rw [q0.1]) q19
  have q21 := sS_na 0 14 q20
  have q22 := sS_sr a 11 (some (h.1 + 10)) (v' := some (h'.1 + 10)) (by rw [q0.1]) q21
  have q23 := sS_na 0 14 q22
  have q24 := sS_sr a 12 (some (h.1 + 11)) (v' := some (h'.1 + 11)) (by rw [q0.1]) q23
  have q25 := sS_na 2 14 q24
  have q26 := sS_sr a 13 (some (h.1 + 12)) (v' := some (h'.1 + 12)) (by rw [q0.1]) q25
  have q27 := sS_na 0 100 q26
  have q28 := sS_sr a 15 (some (h.1 + 13)) (v' := some (h'.1 + 13)) (by rw [q0.1]) q27
  have q29 := sS_na 0 40 q28
  have q30 := sS_sr a 17 (some (h.1 + 14)) (v' := some (h'.1 + 14)) (by rw [q0.1]) q29
  have q31 := sS_na 0 40 q30
  have q32 := sS_sr a 18 (some (h.1 + 15)) (v' := some (h'.1 + 15)) (by rw [q0.1]) q31
  have q33 := sS_na 0 40 q32
  have q34 := sS_sr a 19 (some (h.1 + 16)) (v' := some (h'.1 + 16)) (by rw [q0.1]) q33
  have q35 := sS_na 0 40 q34
  have q36 := sS_sr a 20 (some (h.1 + 17)) (v' := some (h'.1 + 17)) (by rw [q0.1]) q35
  have q37 := sS_na 0 40 q36
  have q38 := sS_sr a 21 (some (h.1 + 18)) (v' := some (h'.1 + 18)) (by rw [q0.1]) q37
  have q39 := sS_na 0 40 q38
  have q40 := sS_sr a 22 (some (h.1 + 19)) (v' := some (h'.1 + 19)) (by rw [q0.1]) q39
  have q41 := sS_na 0 40 q40
  have q42 := sS_sr a 23 (some (h.1 + 20)) (v' := some (h'.1 + 20)) (by rw [q0.1]) q41
  have q43 := sS_na 0 40 q42
  have q44 := sS_sr a 24 (some (h.1 + 21)) (v' := some (h'.1 + 21)) (by rw [q0.1]) q43
  have q45 := sS_na 2 40 q44
  have q46 := sS_sr a 25 (some (h.1 + 22)) (v' := some (h'.1 + 22)) (by rw [q0.1]) q45
  have q47 := sS_na 0 101 q46
  have q48 := sS_sr a 26 (some (h.1 + 23)) (v' := some (h'.1 + 23)) (by rw [q0.1]) q47
  have q49 := sS_na 0 101 q48
  have q50 := sS_sr a 27 (some (h.1 + 24)) (v' := some (h'.1 + 24)) (by rw [q0.1]) q49
  have q51 := sS_na 0 101 q50
  have q52 := sS_sr a 28 (some (h.1 + 25)) (v' := some (h'.1 + 25)) (by rw [q0.1]) q51
  have q53 := sS_na 0 400 q52
  have q54 := sS_sr a 30 (some (h.1 + 26)) (v' := some (h'.1 + 26)) (by rw [q0.1]) q53
  have q55 := sS_na 0 400 q54
  have q56 := sS_sr a 31 (some (h.1 + 27)) (v' := some (h'.1 + 27)) (by rw [q0.1]) q55
  have q57 := sS_na 0 13 q56
  have q58 := sS_sr a 33 (some (h.1 + 28)) (v' := some (h'.1 + 28)) (by rw [q0.1]) q57
  have q59 := sS_na 0 13 q58
  have q60 := sS_sr a 34 (some (h.1 + 29)) (v' := some (h'.1 + 29)) (by rw [q0.1]) q59
  have q61 := sS_na 0 13 q60
  have q62 := sS_sr a 35 (some (h.1 + 30)) (v' := some (h'.1 + 30)) (by rw [q0.1]) q61
  have q63 := sS_na 0 13 q62
  have q64 := sS_sr a 36 (some (h.1 + 31)) (v' := some (h'.1 + 31)) (by rw [q0.1]) q63
  have q65 := sS_na 0 13 q64
  have q66 := sS_sr a 37 (some (h.1 + 32)) (v' := some (h'.1 + 32)) (by rw [q0.1]) q65
  have q67 := sS_na 0 8 q66
  have q68 := sS_sr a 40 (some (h.1 + 33)) (v' := some (h'.1 + 33)) (by rw [q0.1]) q67
  have q69 := sS_na 0 8 q68
  have q70 := sS_sr a 41 (some (h.1 + 34)) (v' := some (h'.1 + 34)) (by rw [q0.1]) q69
  have q71 := sS_na 0 900 q70
  have q72 := sS_sr a 43 (some (h.1 + 35)) (v' := some (h'.1 + 35)) (by rw [q0.1]) q71
  exact q72
theorem sS_F : sS hF hE := sS_RF (sS_no 12 ⟨rfl, rfl, rfl, rfl⟩)
theorem dj_10 : dj g_10 := by
  refine ⟨ga_9.1, fun a k => ?_⟩
  show ex_u2 g_9.2.2.2.1 0 9 (nI 1) a k = iv_0 a k
  unfold ex_u2 iv_0
  by_cases h : a = 0 ∧ k = 9
  · rw [if_pos h, if_pos h]
  · rw [if_neg h, if_neg h]
    exact dg_9.2.1 a k
theorem dj_F : dj hF := dj_RF (dj_no 12 dj_10)
theorem gd {α : Type} (l : List α) (n : Nat) (d : α) (h : l.length ≤ n) : l.getD n d = d := by
  rw [List.getD_eq_getElem?_getD, List.getElem?_eq_none h]
  rfl
theorem sh_hi {a : Nat} (h : 129 ≤ a) : exSh a = .inl 0 := gd exShL a (.inl 0) (Nat.le_trans (show exShL.length ≤ 129 by decide +kernel) h)
theorem ln_hi {a : Nat} (h : 129 ≤ a) : exLn a = 0 := gd exLnL a 0 (Nat.le_trans (show exLnL.length ≤ 129 by decide +kernel) h)
theorem rl_a : (exRvL (fun q => q + 1) 0 4).length ≤ 129 := by decide +kernel
theorem rl_k : ∀ a, a < 129 → ((exRvL (fun q => q + 1) 0 4).getD a []).length ≤ 50 := by decide +kernel
theorem RV_hi {a k : Nat} (h : 129 ≤ a ∨ 50 ≤ k) : RV (fun q => q + 1) 0 4 a k = none := by
  show ((exRvL (fun q => q + 1) 0 4).getD a []).getD k none = none
  by_cases ha : 129 ≤ a
  · rw [gd (exRvL (fun q => q + 1) 0 4) a [] (Nat.le_trans rl_a ha)]
    rfl
  · exact gd _ _ _ (Nat.le_trans (rl_k a (by omega)) (h.resolve_left ha))
theorem hF_sh (a : Nat) : hF.2.1 a = exSh a := by
  rw [sS_F.2.1]
  by_cases ha : a < 129
  · exact hE_sh a ha
  · rw [sh_hi (by omega)]
    exact (dE.1 a (by rw [hE_n]; omega)).1
theorem hF_ln (a : Nat) : hF.2.2.1 a = exLn a := by
  rw [sS_F.2.2.1]
  by_cases ha : a < 129
  · exact hE_ln a ha
  · rw [ln_hi (by omega)]
    exact (dE.1 a (by rw [hE_n]; omega)).2
theorem hF_rv (a k : Nat) : hF.2.2.2.2 a k = RV (fun q => q + 1) 0 4 a k := by
  rw [sS_F.2.2.2]
  by_cases ha : a < 129 ∧ k < 50
  · exact hE_rv a ha.1 k ha.2
  · rw [RV_hi (by omega)]
    exact dE.2.2 a k (by rw [hE_n]; omega)
/-- behind both constructors -/
theorem hF_eq : hF = HP iv_0 (fun q => q + 1) 0 4 :=
  Prod.ext (sS_F.1.trans hE_n) (Prod.ext (funext hF_sh) (Prod.ext (funext hF_ln) (Prod.ext (funext fun a => funext fun k => dj_F.2 a k) (funext fun a => funext fun k => hF_rv a k))))
