/-! asking, cancelling, the answers -/
section OQ
variable {l : Launch} {G : ex_G} {iv : Nat → Nat → Int32} {mp : Nat → Nat} {sp mo c9 : Nat}
theorem u2_cg {iv iv1 : Nat → Nat → Int32} {a k q j : Nat} {v : Int32} (h : iv1 q j = iv q j) : ex_u2 iv1 a k v q j = ex_u2 iv a k v q j := by
  show (if q = a ∧ j = k then v else iv1 q j) = (if q = a ∧ j = k then v else iv q j)
  rw [h]
theorem post_cg {iv iv1 : Nat → Nat → Int32} {n q j : Nat} {k1 k2 k3 k4 k5 : Int32} (h : iv1 q j = iv q j) : rfPost iv1 n k1 k2 k3 k4 k5 q j = rfPost iv n k1 k2 k3 k4 k5 q j := u2_cg (u2_cg (u2_cg (u2_cg (u2_cg (u2_cg h)))))
theorem op_ask (hR : Rel9 c9 iv mp sp) (hc : c9 ≤ 9000) (k x y : Int32) : PR l G 3 1 M_TG_ask M_RF_ask [.int k, .int x, .int y] c9 iv mp sp mo := by
  obtain ⟨m9, q9, h1, h2, h3, h4, h5, h6, h7⟩ := hR.2.2.2.1
  refine ct_post (ct_TG_ask l G iv mp sp mo m9 q9 k x y h3 h1 h5) (fun r h' hp => ?_)
  obtain ⟨p1, p2⟩ := hp
  by_cases e : 0 ≤ k.toInt ∧ k.toInt ≤ 3 ∧ m9 < 12
  · rw [if_pos e] at p1
    have ho : ∀ q j, ¬ (84 ≤ q ∧ q ≤ 88) → inAsk iv m9 q9 k x y q j = iv q j := fun q j hq => by unfold inAsk; rw [u2n (Or.inl (by omega)), inPut_o hq]
    refine ⟨_, mp, sp, mo, _, p1, p2, ct_post (ct_RF_ask l G _ mp sp mo m9 q9 k x y ((ho 92 32 (by omega)).trans h4) h1 ((ho 92 38 (by omega)).trans h6)) (fun r h' hp => ?_)⟩
    obtain ⟨p1, p2⟩ := hp
    rw [if_pos e] at p1
    refine ⟨_, p1, p2, ?_⟩
    have hk : k = nI k.toInt.toNat := Int32.toInt_inj.mp (by rw [nI_t (by omega)]; omega)
    have hR2 := rel_put (k1 := k) (k2 := nI (q9 + 1)) (k3 := x) (k4 := y) (j1 := nI 2) (j5 := k) hR h3 e.2.2 (Or.inr ⟨k.toInt.toNat, q9 + 1, by omega, by omega, by omega, hk, hk, rfl, rfl⟩)
    have hg : ∀ q j, (q ≠ 84 ∨ j ≠ 5) → (q ≠ 92 ∨ j ≠ 38) → rfAsk (inAsk iv m9 q9 k x y) m9 q9 k x y q j = rfPost (inPut iv m9 k (nI (q9 + 1)) x y) m9 (nI 2) x y (nI (q9 + 1)) k q j := by
      intro q j e1 e2
      unfold rfAsk inAsk
      exact post_cg ((u2n e2).trans (u2n e1))
    obtain ⟨r1, r2, r3, ⟨m8, q8, g1, g2, g3, g4, g5, g6, g7⟩, r5, r6⟩ := hR2
    refine ⟨rlD_cg r1 (fun q j hq => hg q j (by omega) (by omega)), rlM_cg r2 (fun q j hq => hg q j (by omega) (by omega)), rlT_cg r2.1 r3 (fun q j hq => hg q j (by omega) (by omega)), ⟨m8, q9 + 1, g1, by omega, (hg _ _ (by omega) (by omega)).trans g3, (hg _ _ (by omega) (by omega)).trans g4, ?_, ?_, fun j hj => row_cg (g7 j hj) (fun q hq => hg q j (by omega) (by omega))⟩, rlA_cg (Nat.le_refl _) r5 (fun q j hq => hg q j (by omega) (by omega)), rlF_cg r6 (fun q j hq => hg q j (by omega) (by omega))⟩
    · unfold rfAsk
      rw [rfPost_o (by omega) (by omega), u2n (Or.inl (by omega))]
      unfold inAsk
      rw [u2s]
    · unfold rfAsk
      rw [rfPost_o (by omega) (by omega), u2s]
  · rw [if_neg e] at p1
    refine ⟨_, mp, sp, mo, _, p1, p2, ct_post (ct_RF_ask l G iv mp sp mo m9 q9 k x y h4 h1 h6) (fun r h' hp => ?_)⟩
    obtain ⟨p1, p2⟩ := hp
    rw [if_neg e] at p1
    exact ⟨_, p1, p2, rel_up hR⟩
theorem fi_cg {P Q : Nat → Bool} : ∀ k i, (∀ j, i ≤ j → j < i + k → P j = Q j) → fndI P k i = fndI Q k i := by
  intro k
  induction k with
  | zero => intros; rfl
  | succ k ih =>
    intro i h
    rw [fndI, fndI, h i (Nat.le_refl _) (by omega), ih (i + 1) (fun j h1 h2 => h j (by omega) (by omega))]
theorem fi_v {P : Nat → Bool} : ∀ k i, (fndI P k i = -1 ∧ ∀ j, i ≤ j → j < i + k → P j = false) ∨ ∃ j, i ≤ j ∧ j < i + k ∧ P j = true ∧ fndI P k i = nI j := by
  intro k
  induction k with
  | zero => intro i; exact Or.inl ⟨rfl, fun j h1 h2 => by omega⟩
  | succ k ih =>
    intro i
    rw [fndI]
    by_cases h : P i = true
    · rw [if_pos h]
      exact Or.inr ⟨i, Nat.le_refl _, by omega, h, rfl⟩
    · rw [if_neg h]
      rcases ih (i + 1) with ⟨z1, z2⟩ | ⟨t, t1, t2, t3, t4⟩
      · refine Or.inl ⟨z1, fun t h1 h2 => ?_⟩
        by_cases e1 : t = i
        · rw [e1]; exact Bool.eq_false_iff.mpr h
        · exact z2 t (by omega) (by omega)
      · exact Or.inr ⟨t, by omega, by omega, t3, t4⟩
theorem find_same {m9 : Nat} (h : ∀ j, j < m9 → rowR iv j) (x : Int32) : rfind iv m9 x = cfind iv m9 x := by
  have z0 : (nI 0).toInt = 0 := nI_t (by omega)
  unfold rfind cfind
  by_cases hx : x.toInt < 1
  · rw [if_pos hx]
    rcases fi_v (P := fun j => decide (iv 121 j = nI 2) && decide (iv 124 j = x)) m9 0 with z | ⟨t, t1, t2, t3, t4⟩
    · exact z.1
    · exfalso
      rw [Bool.and_eq_true, decide_eq_true_eq, decide_eq_true_eq] at t3
      obtain ⟨_, _, g3, g4⟩ := h t (by omega)
      rcases g4 with ⟨e1, e2 | e2⟩ | ⟨w, t, w1, w2, w3, w4, w5, w6, w7⟩
      · rw [e2.2] at t3; exact absurd t3.1 (by decide)
      · rw [e2.2] at t3; exact absurd t3.1 (by decide)
      · rw [← t3.2, g3, w7, nI_t (by omega)] at hx; omega
  · rw [if_neg hx]
    refine fi_cg _ _ (fun j _ hj => ?_)
    obtain ⟨_, _, g3, g4⟩ := h j (by omega)
    rw [g3]
    rcases g4 with ⟨e1, e2 | e2⟩ | ⟨w, t, w1, w2, w3, w4, w5, w6, w7⟩
    · have : ¬ nI 0 = x := fun z => hx (by rw [← z]; omega)
      rw [e1, decide_eq_false this, Bool.and_false]
    · have : ¬ nI 0 = x := fun z => hx (by rw [← z]; omega)
      rw [e1, decide_eq_false this, Bool.and_false]
    · rw [w6, decide_eq_true (rfl : nI 2 = nI 2), Bool.true_and]
theorem find_v (m9 : Nat) (x : Int32) : cfind iv m9 x = -1 ∨ ∃ j, j < m9 ∧ cfind iv m9 x = nI j := by
  unfold cfind
  by_cases hx : x.toInt < 1
  · rw [if_pos hx]; exact Or.inl rfl
  · rw [if_neg hx]
    rcases fi_v (P := fun j => decide (iv 86 j = x)) m9 0 with z | ⟨t, t1, t2, t3, t4⟩
    · exact Or.inl z.1
    · exact Or.inr ⟨t, by omega, t4⟩
/-- a row taken out by both sides -/
theorem rel_out {m9 row : Nat} (hR : Rel9 c9 iv mp sp) (hm : iv 84 4 = nI m9) (hm12 : m9 ≤ 12) (hr : row < m9) : Rel9 c9 (rfOut (inOut iv m9 row) m9 row) mp sp := by
  obtain ⟨r1, r2, r3, ⟨m8, q9, h1, h2, h3, h4, h5, h6, h7⟩, r5, r6⟩ := hR
  have hmn : m8 = m9 := (n_eq (by omega) (by omega)).mp (h3.symm.trans hm)
  subst hmn
  have hg : ∀ q j, ¬ (84 ≤ q ∧ q ≤ 88) → ¬ (121 ≤ q ∧ q ≤ 125) → (q ≠ 92 ∨ j ≠ 32) → rfOut (inOut iv m8 row) m8 row q j = iv q j := fun q j e1 e2 e3 => (rfOut_o e2 e3).trans (inOut_o (by omega))
  have hS : ∀ q j, ((85 ≤ q ∧ q ≤ 88) ∨ (121 ≤ q ∧ q ≤ 125)) → j < m8 - 1 → rfOut (inOut iv m8 row) m8 row q j = iv q (if row ≤ j then j + 1 else j) := by
    intro q j hq hj
    rcases hq with hq | hq
    · rw [rfOut_o (by omega) (by omega)]
      unfold inOut shf
      have e1 : S_in q = true := by unfold S_in; rw [decide_eq_true hq.1, decide_eq_true hq.2]; rfl
      by_cases hj2 : row ≤ j
      · rw [if_pos ⟨e1, hj2, hj⟩, if_pos hj2, u2n (Or.inl (by omega))]
      · rw [if_neg (fun z => hj2 z.2.1), if_neg hj2, u2n (Or.inl (by omega))]
    · unfold rfOut shf
      have e1 : S_rf q = true := by unfold S_rf; rw [decide_eq_true hq.1, decide_eq_true hq.2]; rfl
      by_cases hj2 : row ≤ j
      · rw [if_pos ⟨e1, hj2, hj⟩, if_pos hj2, u2n (Or.inl (by omega)), inOut_o (by omega)]
      · rw [if_neg (fun z => hj2 z.2.1), if_neg hj2, u2n (Or.inl (by omega)), inOut_o (by omega)]
  have h84 : ∀ j, rfOut (inOut iv m8 row) m8 row 84 j = ex_u2 iv 84 4 (nI (m8 - 1)) 84 j := by
    intro j
    rw [rfOut_o (by omega) (by omega)]
    unfold inOut shf
    rw [if_neg (fun z => absurd z.1 (by decide))]
  refine ⟨rlD_cg r1 (fun q j hq => hg q j (by omega) (by omega) (by omega)), rlM_cg r2 (fun q j hq => hg q j (by omega) (by omega) (by omega)), rlT_cg r2.1 r3 (fun q j hq => hg q j (by omega) (by omega) (by omega)), ⟨m8 - 1, q9, by omega, by omega, ?_, ?_, ?_, ?_, fun j hj => row_cg (h7 (if row ≤ j then j + 1 else j) ?_) (fun q hq => hS q j hq hj)⟩, rlA_cg (Nat.le_refl _) r5 (fun q j hq => hg q j (by omega) (by omega) (by omega)), rlF_cg r6 (fun q j hq => hg q j (by omega) (by omega) (by omega))⟩
  · rw [h84, u2s]
  · unfold rfOut shf
    rw [if_neg (fun z => absurd z.1 (by decide)), u2s]
  · rw [h84, u2n (Or.inr (by omega))]; exact h5
  · exact (hg _ _ (by omega) (by omega) (by omega)).trans h6
  · split <;> omega
theorem op_cancel (hR : Rel9 c9 iv mp sp) (x : Int32) : PR l G 1 1 M_TG_cancel M_RF_cancel [.int x] c9 iv mp sp mo := by
  obtain ⟨m9, q9, h1, h2, h3, h4, h5, h6, h7⟩ := hR.2.2.2.1
  have z1 : (-1 : Int32).toInt = -1 := by decide
  have ef := find_same h7 x
  refine ct_post (ct_TG_cancel l G iv mp sp mo x m9 h3 h1) (fun r h' hp => ?_)
  obtain ⟨p1, p2⟩ := hp
  rcases find_v (iv := iv) m9 x with e | ⟨j, hj, e⟩
  · rw [e] at p1 p2 ef
    rw [if_neg (fun z => by have := z.1; omega)] at p1
    refine ⟨_, mp, sp, mo, _, p1, p2, ct_post (ct_RF_cancel l G iv mp sp mo x m9 h4 h1) (fun r h' hp => ?_)⟩
    obtain ⟨p1, p2⟩ := hp
    rw [ef] at p1 p2
    rw [if_neg (fun z => by omega)] at p1
    exact ⟨_, p1, p2, rel_up hR⟩
  · have hj2 : (nI j).toInt = (j : Int) := nI_t (by omega)
    rw [e] at p1 p2 ef
    rw [if_pos ⟨by omega, by omega⟩] at p1
    rw [decide_eq_true ⟨by omega, by omega⟩] at p2
    have hfo : rfind (inOut iv m9 (nI j).toInt.toNat) m9 x = nI j := by
      rw [← ef]
      unfold rfind
      refine fi_cg _ _ (fun q _ _ => ?_)
      rw [inOut_o (by omega), inOut_o (by omega)]
    refine ⟨_, mp, sp, mo, _, p1, p2, ct_post (ct_RF_cancel l G _ mp sp mo x m9 ((inOut_o (by omega)).trans h4) h1) (fun r h' hp => ?_)⟩
    obtain ⟨p1, p2⟩ := hp
    rw [hfo] at p1 p2
    rw [if_pos (by omega)] at p1
    rw [decide_eq_true (by omega)] at p2
    exact ⟨_, p1, p2, rel_up (rel_out hR h3 h1 (by omega))⟩
theorem op_answer (hR : Rel9 c9 iv mp sp) (hc : c9 ≤ 9000) (x : Int32) : PR l G 1 1 M_TG_answer M_RF_answer [.int x] c9 iv mp sp mo := by
  obtain ⟨m9, q9, h1, h2, h3, h4, h5, h6, h7⟩ := hR.2.2.2.1
  obtain ⟨t9, g1, g2, g3, g4, g5⟩ := hR.2.2.2.2.1
  have z1 : (-1 : Int32).toInt = -1 := by decide
  have z0 : (nI 0).toInt = 0 := nI_t (by omega)
  refine ct_post (ct_TG_answer l G iv mp sp mo x m9 h3 h1) (fun r h' hp => ⟨_, mp, sp, mo, _, hp.1, hp.2, ?_⟩)
  refine ct_post (ct_RF_answer l G iv mp sp mo x m9 t9 h4 h1 g3 (by omega)) (fun r h' hp => ⟨_, hp.1, ?_, rel_up hR⟩)
  rw [hp.2]
  have ef := find_same h7 x
  suffices hs : rAns iv m9 t9 x = cAns iv m9 x by rw [hs]
  unfold rAns cAns
  rw [ef]
  rcases find_v (iv := iv) m9 x with e | ⟨j, hj, e⟩
  · rw [e, if_neg (by omega), if_pos rfl]
    have hfn : ∀ k i, i + k = min 8 t9 → fndV (fun j => decide (iv 126 j = x)) (iv 127) k i = fndV (fun j => decide (iv 90 j = x)) (iv 91) k i := by
      intro k i hk
      refine fnd_cg _ _ (fun j _ hj => ?_)
      obtain ⟨a1, a2, _⟩ := g4 j (by omega) (by omega)
      rw [a1, a2]
      exact ⟨rfl, rfl⟩
    rw [hfn _ _ (by omega)]
    by_cases hx : 0 < x.toInt
    · rw [if_pos hx]
      have hext : ∀ k i, i + k = min 8 t9 → fndV (fun j => decide (iv 90 j = x)) (iv 91) k i = fndV (fun j => decide (iv 90 j = x)) (iv 91) (8 - i) i := by
        intro k
        induction k with
        | zero =>
          intro i hi
          rcases fnd_v (P := fun j => decide (iv 90 j = x)) (f := iv 91) (8 - i) i with z | ⟨t, t1, t2, t3, t4⟩
          · rw [z.1]; rfl
          · exfalso
            have : ¬ t9 > t := by omega
            rw [decide_eq_true_eq, g5 t (by omega) (by omega)] at t3
            rw [← t3] at hx
            omega
        | succ k ih =>
          intro i hi
          rw [show 8 - i = (8 - (i + 1)) + 1 by omega, fndV, fndV, ih (i + 1) (by omega)]
      rw [hext _ _ (by omega)]
    · rw [if_neg hx]
      rcases fnd_v (P := fun j => decide (iv 90 j = x)) (f := iv 91) (min 8 t9) 0 with z | ⟨t, t1, t2, t3, t4⟩
      · exact z.1
      · exfalso
        obtain ⟨_, _, u, u1, u2, u3⟩ := g4 t (by omega) (by omega)
        rw [decide_eq_true_eq, u3] at t3
        rw [← t3, nI_t (by omega)] at hx
        omega
  · have hj2 : (nI j).toInt = (j : Int) := nI_t (by omega)
    rw [e, if_pos (by omega), if_neg (fun z => absurd z.symm (nI_ne1 (by omega)))]
end OQ
