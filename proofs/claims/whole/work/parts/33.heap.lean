/-! the heap behind both constructors is HP -/
def dfl (h : ex_H) : Prop := (∀ a, h.1 ≤ a → h.2.1 a = .inl 0 ∧ h.2.2.1 a = 0) ∧ (∀ a k, h.2.2.2.1 a k = 0) ∧ ∀ a k, (h.1 ≤ a ∨ 50 ≤ k) → h.2.2.2.2 a k = none
theorem dfl_0 : dfl h_0 := ⟨fun _ _ => ⟨rfl, rfl⟩, fun _ _ => rfl, fun _ _ _ => rfl⟩
theorem dfl_no {h : ex_H} (t : Nat) (d : dfl h) : dfl (ex_no h t) := by
  refine ⟨fun a ha => ?_, fun a k => ?_, fun a k hk => ?_⟩
  · have ha : h.1 + 1 ≤ a := ha
    have hn : a ≠ h.1 := by omega
    exact ⟨(va_up_ne _ _ hn).trans (d.1 a (by omega)).1, (d.1 a (by omega)).2⟩
  · show va_up h.2.2.2.1 h.1 (fun _ => 0) a k = 0
    by_cases hn : a = h.1
    · rw [hn, va_up_self]
    · rw [va_up_ne _ _ hn]
      exact d.2.1 a k
  · show va_up h.2.2.2.2 h.1 (fun _ => none) a k = none
    by_cases hn : a = h.1
    · rw [hn, va_up_self]
    · rw [va_up_ne _ _ hn]
      have hk : h.1 + 1 ≤ a ∨ 50 ≤ k := hk
      exact d.2.2 a k (by omega)
theorem dfl_na {h : ex_H} (t n : Nat) (d : dfl h) : dfl (ex_na h t n) := by
  refine ⟨fun a ha => ?_, fun a k => ?_, fun a k hk => ?_⟩
  · have ha : h.1 + 1 ≤ a := ha
    have hn : a ≠ h.1 := by omega
    exact ⟨(va_up_ne _ _ hn).trans (d.1 a (by omega)).1, (va_up_ne _ _ hn).trans (d.1 a (by omega)).2⟩
  · show va_up h.2.2.2.1 h.1 (fun _ => 0) a k = 0
    by_cases hn : a = h.1
    · rw [hn, va_up_self]
    · rw [va_up_ne _ _ hn]
      exact d.2.1 a k
  · show va_up h.2.2.2.2 h.1 (fun _ => none) a k = none
    by_cases hn : a = h.1
    · rw [hn, va_up_self]
    · rw [va_up_ne _ _ hn]
      have hk : h.1 + 1 ≤ a ∨ 50 ≤ k := hk
      exact d.2.2 a k (by omega)
theorem dfl_sr {h : ex_H} (b k : Nat) (v : Option Nat) (hb : b < h.1) (hk : k < 50) (d : dfl h) : dfl (ex_sr h b k v) := by
  refine ⟨d.1, d.2.1, fun a j hj => ?_⟩
  have hj : h.1 ≤ a ∨ 50 ≤ j := hj
  show ex_u2 h.2.2.2.2 b k v a j = none
  rw [u2g (by omega)]
  exact d.2.2 a j hj
theorem df_Dr {h : ex_H} {a : Nat} (hI : a < h.1) (d0 : dfl h) : dfl (ini_Dr h a) := by
  have d1 := dfl_na 1 40 d0
  have d2 := dfl_sr a 0 (some (h.1 + 0)) (show a < h.1 + 1 by omega) (by decide) d1
  exact d2
theorem df_Mo {h : ex_H} {a : Nat} (hI : a < h.1) (d0 : dfl h) : dfl (ini_Mo h a) := by
  have d1 := dfl_na 0 11 d0
  have d2 := dfl_sr a 3 (some (h.1 + 0)) (show a < h.1 + 1 by omega) (by decide) d1
  have d3 := dfl_na 0 8 d2
  have d4 := dfl_sr a 4 (some (h.1 + 1)) (show a < h.1 + 2 by omega) (by decide) d3
  exact d4
theorem df_Tx {h : ex_H} {a : Nat} (hI : a < h.1) (d0 : dfl h) : dfl (ini_Tx h a) := by
  have d1 := dfl_na 1 100 d0
  have d2 := dfl_sr a 0 (some (h.1 + 0)) (show a < h.1 + 1 by omega) (by decide) d1
  exact d2
theorem df_Fa {h : ex_H} {a : Nat} (hI : a < h.1) (d0 : dfl h) : dfl (ini_Fa h a) := by
  have d1 := dfl_na 0 201 d0
  have d2 := dfl_sr a 0 (some (h.1 + 0)) (show a < h.1 + 1 by omega) (by decide) d1
  exact d2
theorem df_In {h : ex_H} {a : Nat} (hI : a < h.1) (d0 : dfl h) : dfl (ini_In h a) := by
  have d1 := dfl_na 0 12 d0
  have d2 := dfl_sr a 0 (some (h.1 + 0)) (show a < h.1 + 1 by omega) (by decide) d1
  have d3 := dfl_na 0 12 d2
  have d4 := dfl_sr a 1 (some (h.1 + 1)) (show a < h.1 + 2 by omega) (by decide) d3
  have d5 := dfl_na 0 12 d4
  have d6 := dfl_sr a 2 (some (h.1 + 2)) (show a < h.1 + 3 by omega) (by decide) d5
  have d7 := dfl_na 0 12 d6
  have d8 := dfl_sr a 3 (some (h.1 + 3)) (show a < h.1 + 4 by omega) (by decide) d7
  exact d8
theorem df_An {h : ex_H} {a : Nat} (hI : a < h.1) (d0 : dfl h) : dfl (ini_An h a) := by
  have d1 := dfl_na 0 8 d0
  have d2 := dfl_sr a 0 (some (h.1 + 0)) (show a < h.1 + 1 by omega) (by decide) d1
  have d3 := dfl_na 0 8 d2
  have d4 := dfl_sr a 1 (some (h.1 + 1)) (show a < h.1 + 2 by omega) (by decide) d3
  exact d4
theorem df_RF {h : ex_H} {a : Nat} (hI : a < h.1) (d0 : dfl h) : dfl (ini_RF h a) := by
  have d1 := dfl_na 0 40 d0
  have d2 := dfl_sr a 1 (some (h.1 + 0)) (show a < h.1 + 1 by omega) (by decide) d1
  have d3 := dfl_na 2 10 d2
  have d4 := dfl_sr a 2 (some (h.1 + 1)) (show a < h.1 + 2 by omega) (by decide) d3
  have d5 := dfl_na 2 10 d4
  have d6 := dfl_sr a 3 (some (h.1 + 2)) (show a < h.1 + 3 by omega) (by decide) d5
  have d7 := dfl_na 0 10 d6
  have d8 := dfl_sr a 4 (some (h.1 + 3)) (show a < h.1 + 4 by omega) (by decide) d7
  have d9 := dfl_na 0 10 d8
  have d10 := dfl_sr a 5 (some (h.1 + 4)) (show a < h.1 + 5 by omega) (by decide) d9
  have d11 := dfl_na 2 10 d10
  have d12 := dfl_sr a 6 (some (h.1 + 5)) (show a < h.1 + 6 by omega) (by decide) d11
  have d13 := dfl_na 0 10 d12
  have d14 := dfl_sr a 7 (some (h.1 + 6)) (show a < h.1 + 7 by omega) (by decide) d13
  have d15 := dfl_na 0 100 d14
  have d16 := dfl_sr a 8 (some (h.1 + 7)) (show a < h.1 + 8 by omega) (by decide) d15
  have d17 := dfl_na 0 100 d16
  have d18 := dfl_sr a 9 (some (h.1 + 8)) (show a < h.1 + 9 by omega) (by decide) d17
  have d19 := dfl_na 2 14 d18
  have d20 := dfl_sr a 10 (some (h.1 + 9)) (show a < h.1 + 10 by omega) (by decide) d19
  have d21 := dfl_na 0 14 d20
  have d22 := dfl_sr a 11 (some (h.1 + 10)) (show a < h.1 + 11 by omega) (by decide) d21
  have d23 := dfl_na 0 14 d22
  have d24 := dfl_sr a 12 (some (h.1 + 11)) (show a < h.1 + 12 by omega) (by decide) d23
  have d25 := dfl_na 2 14 d24
  have d26 := dfl_sr a 13 (some (h.1 + 12)) (show a < h.1 + 13 by omega) (by decide) d25
  have d27 := dfl_na 0 100 d26
  have d28 := dfl_sr a 15 (some (h.1 + 13)) (show a < h.1 + 14 by omega) (by decide) d27
  have d29 := dfl_na 0 40 d28
  have d30 := dfl_sr a 17 (some (h.1 + 14)) (show a < h.1 + 15 by omega) (by decide) d29
  have d31 := dfl_na 0 40 d30
  have d32 := dfl_sr a 18 (some (h.1 + 15)) (show a < h.1 + 16 by omega) (by decide) d31
  have d33 := dfl_na 0 40 d32
  have d34 := dfl_sr a 19 (some (h.1 + 16)) (show a < h.1 + 17 by omega) (by decide) d33
  have d35 := dfl_na 0 40 d34
  have d36 := dfl_sr a 20 (some (h.1 + 17)) (show a < h.1 + 18 by omega) (by decide) d35
  have d37 := dfl_na 0 40 d36
  have d38 := dfl_sr a 21 (some (h.1 + 18)) (show a < h.1 + 19 by omega) (by decide) d37
  have d39 := dfl_na 0 40 d38
  have d40 := dfl_sr a 22 (some (h.1 + 19)) (show a < h.1 + 20 by omega) (by decide) d39
  have d41 := dfl_na 0 40 d40
  have d42 := dfl_sr a 23 (some (h.1 + 20)) (show a < h.1 + 21 by omega) (by decide) d41
  have d43 := dfl_na 0 40 d42
  have d44 := dfl_sr a 24 (some (h.1 + 21)) (show a < h.1 + 22 by omega) (by decide) d43
  have d45 := dfl_na 2 40 d44
  have d46 := dfl_sr a 25 (some (h.1 + 22)) (show a < h.1 + 23 by omega) (by decide) d45
  have d47 := dfl_na 0 101 d46
  have d48 := dfl_sr a 26 (some (h.1 + 23)) (show a < h.1 + 24 by omega) (by decide) d47
  have d49 := dfl_na 0 101 d48
  have d50 := dfl_sr a 27 (some (h.1 + 24)) (show a < h.1 + 25 by omega) (by decide) d49
  have d51 := dfl_na 0 101 d50
  have d52 := dfl_sr a 28 (some (h.1 + 25)) (show a < h.1 + 26 by omega) (by decide) d51
  have d53 := dfl_na 0 400 d52
  have d54 := dfl_sr a 30 (some (h.1 + 26)) (show a < h.1 + 27 by omega) (by decide) d53
  have d55 := dfl_na 0 400 d54
  have d56 := dfl_sr a 31 (some (h.1 + 27)) (show a < h.1 + 28 by omega) (by decide) d55
  have d57 := dfl_na 0 13 d56
  have d58 := dfl_sr a 33 (some (h.1 + 28)) (show a < h.1 + 29 by omega) (by decide) d57
  have d59 := dfl_na 0 13 d58
  have d60 := dfl_sr a 34 (some (h.1 + 29)) (show a < h.1 + 30 by omega) (by decide) d59
  have d61 := dfl_na 0 13 d60
  have d62 := dfl_sr a 35 (some (h.1 + 30)) (show a < h.1 + 31 by omega) (by decide) d61
  have d63 := dfl_na 0 13 d62
  have d64 := dfl_sr a 36 (some (h.1 + 31)) (show a < h.1 + 32 by omega) (by decide) d63
  have d65 := dfl_na 0 13 d64
  have d66 := dfl_sr a 37 (some (h.1 + 32)) (show a < h.1 + 33 by omega) (by decide) d65
  have d67 := dfl_na 0 8 d66
  have d68 := dfl_sr a 40 (some (h.1 + 33)) (show a < h.1 + 34 by omega) (by decide) d67
  have d69 := dfl_na 0 8 d68
  have d70 := dfl_sr a 41 (some (h.1 + 34)) (show a < h.1 + 35 by omega) (by decide) d69
  have d71 := dfl_na 0 900 d70
  have d72 := dfl_sr a 43 (some (h.1 + 35)) (show a < h.1 + 36 by omega) (by decide) d71
  exact d72
theorem mo_sz (h : ex_H) (b : Nat) : (ini_Mo h b).1 = h.1 + 2 := rfl
theorem df_Mr {h : ex_H} {a b : Nat} (hI : a < h.1) (d0 : dfl h) : dfl (ini_Mr h a b) := by
  have d1 := df_Mo (a := h.1) (show h.1 < (ex_no h 7).1 from Nat.lt_succ_self _) (dfl_no 7 d0)
  exact dfl_sr a 0 (some b) (show a < h.1 + 1 + 2 by omega) (by decide) (dfl_sr a 1 (some h.1) (show a < h.1 + 1 + 2 by omega) (by decide) d1)
theorem df_msL {h : ex_H} {u : Nat} (hu : u < h.1) (d0 : dfl h) : ∀ i, i ≤ 9 → dfl (msL h u i) ∧ u < (msL h u i).1 := by
  intro i
  induction i with
  | zero => exact fun _ => ⟨d0, hu⟩
  | succ i ih =>
    intro hi
    obtain ⟨d1, h1⟩ := ih (by omega)
    have d2 := df_Mo (a := (msL h u i).1) (show (msL h u i).1 < (ex_no (msL h u i) 7).1 from Nat.lt_succ_self _) (dfl_no 7 d1)
    have h2 : u < (msL h u i).1 + 1 + 2 := by omega
    exact ⟨dfl_sr u i (some (msL h u i).1) h2 (by omega) d2, h2⟩
theorem df_Ms {h : ex_H} {a : Nat} (hI : a < h.1) (d0 : dfl h) : dfl (ini_Ms h a) := by
  have d1 := dfl_sr a 0 (some h.1) (show a < h.1 + 1 by omega) (by decide) (dfl_na 3 9 d0)
  have d2 := df_Mo (a := h.1 + 1) (show h.1 + 1 < h.1 + 1 + 1 by omega) (dfl_no 7 d1)
  have d3 := dfl_sr a 1 (some (h.1 + 1)) (show a < h.1 + 1 + 1 + 2 by omega) (by decide) d2
  exact (df_msL (h := ms0 h a) (u := h.1) (show h.1 < h.1 + 1 + 1 + 2 by omega) d3 9 (Nat.le_refl _)).1
theorem df_trL {h : ex_H} {u : Nat} (hu : u < h.1) (d0 : dfl h) : ∀ i, i ≤ 34 → dfl (trL h u i) ∧ u < (trL h u i).1 := by
  intro i
  induction i with
  | zero => exact fun _ => ⟨d0, hu⟩
  | succ i ih =>
    intro hi
    obtain ⟨d1, h1⟩ := ih (by omega)
    have h2 : u < (trL h u i).1 + 1 := by omega
    exact ⟨dfl_sr u i (some (trL h u i).1) h2 (by omega) (dfl_no 3 d1), h2⟩
theorem df_Tr {h : ex_H} {a b : Nat} (hI : a < h.1) (d0 : dfl h) : dfl (ini_Tr h a b) := by
  have d1 := dfl_sr a 1 (some h.1) (show a < h.1 + 1 by omega) (by decide) (dfl_na 4 34 d0)
  have d2 := dfl_sr a 4 (some (h.1 + 1)) (show a < h.1 + 1 + 1 by omega) (by decide) (dfl_na 0 33 d1)
  have d3 := dfl_sr a 5 (some (h.1 + 2)) (show a < h.1 + 1 + 1 + 1 by omega) (by decide) (dfl_na 0 33 d2)
  have d4 := dfl_sr a 6 (some (h.1 + 3)) (show a < h.1 + 1 + 1 + 1 + 1 by omega) (by decide) (dfl_na 0 33 d3)
  have d5 := dfl_sr a 0 (some b) (show a < h.1 + 1 + 1 + 1 + 1 by omega) (by decide) d4
  exact (df_trL (h := tr0 h a b) (u := h.1) (show h.1 < h.1 + 1 + 1 + 1 + 1 by omega) d5 34 (Nat.le_refl _)).1
theorem df_Fo {h : ex_H} {a b1 b2 b3 : Nat} (hI : a < h.1) (d0 : dfl h) : dfl (ini_Fo h a b1 b2 b3) := by
  have d1 := dfl_sr a 3 (some h.1) (show a < h.1 + 1 by omega) (by decide) (dfl_na 1 694 d0)
  exact dfl_sr a 2 (some b3) (show a < h.1 + 1 by omega) (by decide) (dfl_sr a 1 (some b2) (show a < h.1 + 1 by omega) (by decide) (dfl_sr a 0 (some b1) (show a < h.1 + 1 by omega) (by decide) d1))
theorem dg_0 : dfl g_0 := dfl_no 0 dfl_0
theorem dg_1 : dfl g_1 := dfl_sr 0 0 (some g_0.1) gb_0.1 (by decide) (df_Dr (a := g_0.1) (show g_0.1 < g_0.1 + 1 by omega) (dfl_no 2 dg_0))
theorem dg_2 : dfl g_2 := dfl_sr 0 1 (some g_1.1) gb_1.1 (by decide) (df_Mr (a := g_1.1) (show g_1.1 < g_1.1 + 1 by omega) (dfl_no 8 dg_1))
theorem dg_3 : dfl g_3 := dfl_sr 0 2 (some g_2.1) gb_2.1 (by decide) (df_Ms (a := g_2.1) (show g_2.1 < g_2.1 + 1 by omega) (dfl_no 9 dg_2))
theorem dg_4 : dfl g_4 := dfl_sr 0 3 (some g_3.1) gb_3.1 (by decide) (df_Tx (a := g_3.1) (show g_3.1 < g_3.1 + 1 by omega) (dfl_no 10 dg_3))
theorem dg_5 : dfl g_5 := dfl_sr 0 4 (some g_4.1) gb_4.1 (by decide) (df_Tr (a := g_4.1) (show g_4.1 < g_4.1 + 1 by omega) (dfl_no 11 dg_4))
theorem dg_6 : dfl g_6 := dfl_sr 0 5 (some g_5.1) gb_5.1 (by decide) (df_Fa (a := g_5.1) (show g_5.1 < g_5.1 + 1 by omega) (dfl_no 4 dg_5))
theorem dg_7 : dfl g_7 := dfl_sr 0 6 (some g_6.1) gb_6.1 (by decide) (df_Fo (a := g_6.1) (show g_6.1 < g_6.1 + 1 by omega) (dfl_no 5 dg_6))
theorem dg_8 : dfl g_8 := dfl_sr 0 7 (some g_7.1) gb_7.1 (by decide) (df_In (a := g_7.1) (show g_7.1 < g_7.1 + 1 by omega) (dfl_no 6 dg_7))
theorem dg_9 : dfl g_9 := dfl_sr 0 8 (some g_8.1) gb_8.1 (by decide) (df_An (a := g_8.1) (show g_8.1 < g_8.1 + 1 by omega) (dfl_no 1 dg_8))
/-- both sides made; the stale flag is written before the reference is made: it is put last here -/
def hF : ex_H := ini_RF (ex_no g_10 12) g_10.1
def hE : ex_H := ini_RF (ex_no g_9 12) g_9.1
theorem dE : dfl hE := df_RF (a := g_9.1) (show g_9.1 < g_9.1 + 1 by omega) (dfl_no 12 dg_9)
theorem hE_n : hE.1 = 129 := by decide +kernel
theorem hE_sh : ∀ a, a < 129 → hE.2.1 a = exSh a := by decide +kernel
theorem hE_ln : ∀ a, a < 129 → hE.2.2.1 a = exLn a := by decide +kernel
theorem hE_rv : ∀ a, a < 129 → ∀ k, k < 50 → hE.2.2.2.2 a k = RV (fun q => q + 1) 0 4 a k := by decide +kernel
