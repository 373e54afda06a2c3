/-! the plain calls of both sides -/
section OP
variable {l : Launch} {G : ex_G} {iv : Nat → Nat → Int32} {mp : Nat → Nat} {sp mo c9 : Nat}
theorem apH_o {o k b n q j : Nat} {ch : Int32} (h1 : q ≠ b) (h2 : q ≠ o ∨ j ≠ k) : apH iv o k b n ch q j = iv q j := by
  unfold apH
  rw [u2n h2, u2n (Or.inl h1)]
theorem op_write (hR : Rel9 c9 iv mp sp) (ch : Int32) : PR l G 2 0 M_TG_write M_RF_write [.int ch] c9 iv mp sp mo := by
  obtain ⟨⟨n, f, ⟨a1, a2, a3⟩, ⟨b1, b2, b3⟩⟩, r2, r3, r4, r5, r6⟩ := hR
  refine ct_post (ct_TG_write l G iv mp sp mo n ch a2 a1) (fun r h' hp => ?_)
  obtain ⟨p1, p2⟩ := hp
  by_cases hw : wrB ch = true ∧ n < 40
  · rw [if_pos hw] at p1
    refine ⟨_, mp, sp, mo, _, p1, p2, ?_⟩
    refine ct_post (ct_RF_write l G _ mp sp mo n ch ((apH_o (by omega) (by omega)).trans b2) b1) (fun r h' hp => ?_)
    obtain ⟨p1, p2⟩ := hp
    rw [if_pos hw] at p1
    have hg : ∀ q j, q ≠ 1 → q ≠ 2 → q ≠ 93 → (q ≠ 92 ∨ j ≠ 0) → apH (apH iv 1 1 2 n ch) 92 0 93 n ch q j = iv q j := fun q j h1 h2 h3 h4 => (apH_o h3 h4).trans (apH_o h2 (Or.inl h1))
    refine ⟨_, p1, p2, ⟨n + 1, fun k => if k = n then ch else f k, ⟨by omega, ?_, fun k hk => ?_⟩, ⟨by omega, ?_, fun k hk => ?_⟩⟩, rlM_cg r2 (fun q j hq => hg q j (by omega) (by omega) (by omega) (by omega)), rlT_cg r2.1 r3 (fun q j hq => hg q j (by omega) (by omega) (by omega) (by omega)), rlI_cg (Nat.le_succ _) r4 (fun q j hq => hg q j (by omega) (by omega) (by omega) (by omega)), rlA_cg (Nat.le_succ _) r5 (fun q j hq => hg q j (by omega) (by omega) (by omega) (by omega)), rlF_cg r6 (fun q j hq => hg q j (by omega) (by omega) (by omega) (by omega))⟩
    · rw [apH_o (by omega) (by omega)]; unfold apH; rw [u2s]
    · rw [apH_o (by omega) (by omega)]; unfold apH; rw [u2n (Or.inl (by omega))]
      by_cases e : k = n
      · rw [e, u2s]; exact (if_pos rfl).symm
      · rw [u2n (Or.inr e)]; exact (a3 k (by omega)).trans (if_neg e).symm
    · unfold apH; rw [u2s]
    · unfold apH; rw [u2n (Or.inl (by omega))]
      by_cases e : k = n
      · rw [e, u2s]; exact (if_pos rfl).symm
      · rw [u2n (Or.inr e), u2n (Or.inl (by omega)), u2n (Or.inl (by omega))]; exact (b3 k (by omega)).trans (if_neg e).symm
  · rw [if_neg hw] at p1
    refine ⟨_, mp, sp, mo, _, p1, p2, ?_⟩
    refine ct_post (ct_RF_write l G _ mp sp mo n ch b2 b1) (fun r h' hp => ?_)
    obtain ⟨p1, p2⟩ := hp
    rw [if_neg hw] at p1
    exact ⟨_, p1, p2, rel_up ⟨⟨n, f, ⟨a1, a2, a3⟩, ⟨b1, b2, b3⟩⟩, r2, r3, r4, r5, r6⟩⟩
theorem op_inbox (hR : Rel9 c9 iv mp sp) : PR l G 0 0 M_TG_inbox M_RF_inbox [] c9 iv mp sp mo := by
  refine ct_post (ct_TG_inbox l G iv mp sp mo) (fun r h' hp => ⟨_, mp, sp, mo, _, hp.1, hp.2, ?_⟩)
  refine ct_post (ct_RF_inbox l G iv mp sp mo) (fun r h' hp => ⟨_, hp.1, ?_, rel_up hR⟩)
  obtain ⟨m9, q9, h1, h2, h3, h4, _⟩ := hR.2.2.2.1
  rw [hp.2, h3, h4]
theorem op_length (hR : Rel9 c9 iv mp sp) : PR l G 0 0 M_TG_length M_RF_length [] c9 iv mp sp mo := by
  refine ct_post (ct_TG_length l G iv mp sp mo) (fun r h' hp => ⟨_, mp, sp, mo, _, hp.1, hp.2, ?_⟩)
  refine ct_post (ct_RF_length l G iv mp sp mo) (fun r h' hp => ⟨_, hp.1, ?_, rel_up hR⟩)
  obtain ⟨a, n, h1, h2, h3, _⟩ := hR.2.2.1
  rw [hp.2, h1.2.1, h3.2.1]
theorem gAt_cg {n : Nat} {f g : Nat → Int32} (hn : n ≤ 1000) (h : ∀ k, k < n → f k = g k) (x : Int32) : gAt (nI n) f x = gAt (nI n) g x := by
  unfold gAt
  by_cases hx : 0 ≤ x.toInt ∧ x.toInt < (nI n).toInt
  · rw [if_pos hx, if_pos hx, h _ (by rw [nI_t (by omega)] at hx; omega)]
  · rw [if_neg hx, if_neg hx]
theorem op_character (hR : Rel9 c9 iv mp sp) (x : Int32) : PR l G 1 0 M_TG_character M_RF_character [.int x] c9 iv mp sp mo := by
  obtain ⟨a, n, h1, h2, h3, _⟩ := hR.2.2.1
  have hn := h1.1
  refine ct_post (ct_TG_character l G iv mp sp mo x (by rw [h1.2.1, nI_t (by omega)]; omega)) (fun r h' hp => ⟨_, mp, sp, mo, _, hp.1, hp.2, ?_⟩)
  refine ct_post (ct_RF_character l G iv mp sp mo x (by rw [h3.2.1, nI_t (by omega)]; omega)) (fun r h' hp => ⟨_, hp.1, ?_, rel_up hR⟩)
  rw [hp.2, h1.2.1, h3.2.1, gAt_cg (by omega) (fun k hk => (h3.2.2.1 k hk).trans (h1.2.2.1 k hk).symm)]
theorem op_formed (hR : Rel9 c9 iv mp sp) (x : Int32) : PR l G 1 0 M_TG_formed M_RF_formed [.int x] c9 iv mp sp mo := by
  obtain ⟨n, hn, h2, h3, h4⟩ := hR.2.2.2.2.2
  refine ct_post (ct_TG_formed l G iv mp sp mo x (by rw [h2, nI_t (by omega)]; omega)) (fun r h' hp => ⟨_, mp, sp, mo, _, hp.1, hp.2, ?_⟩)
  refine ct_post (ct_RF_formed l G iv mp sp mo x (by rw [h3, nI_t (by omega)]; omega)) (fun r h' hp => ⟨_, hp.1, ?_, rel_up hR⟩)
  rw [hp.2, h2, h3, gAt_cg (by omega) h4]
theorem op_fertile (hR : Rel9 c9 iv mp sp) : PR l G 0 3 M_TG_fertile M_RF_fertile [] c9 iv mp sp mo := by
  obtain ⟨_, _, _, _, _, mn, pr, h6, h7⟩ := hR.2.1
  refine ct_post (ct_TG_fertile l G iv mp sp mo) (fun r h' hp => ⟨_, mp, sp, mo, _, hp.1, hp.2, ?_⟩)
  refine ct_post (ct_RF_fertile l G iv mp sp mo mn (fun i hi => (h6 i hi).2.1) (fun i hi => (h6 i hi).1)) (fun r h' hp => ⟨_, hp.1, ?_, rel_up hR⟩)
  rw [hp.2, h7]
theorem inPut_o {n q j : Nat} {k1 k2 k3 k4 : Int32} (h : ¬ (84 ≤ q ∧ q ≤ 88)) : inPut iv n k1 k2 k3 k4 q j = iv q j := by
  unfold inPut
  rw [u2n (Or.inl (by omega)), u2n (Or.inl (by omega)), u2n (Or.inl (by omega)), u2n (Or.inl (by omega)), u2n (Or.inl (by omega))]
theorem rfPost_o {n q j : Nat} {k1 k2 k3 k4 k5 : Int32} (h : ¬ (121 ≤ q ∧ q ≤ 125)) (h2 : q ≠ 92 ∨ j ≠ 32) : rfPost iv n k1 k2 k3 k4 k5 q j = iv q j := by
  unfold rfPost
  rw [u2n h2, u2n (Or.inl (by omega)), u2n (Or.inl (by omega)), u2n (Or.inl (by omega)), u2n (Or.inl (by omega)), u2n (Or.inl (by omega))]
/-- both sides put a row: what it was before, and the new row -/
theorem put_row {n : Nat} {k1 k2 k3 k4 j1 j5 : Int32} : (∀ q j, (84 ≤ q ∧ q ≤ 88) ∨ (121 ≤ q ∧ q ≤ 125) → j ≠ n → (q ≠ 84 ∨ j ≠ 4) → rfPost (inPut iv n k1 k2 k3 k4) n j1 k3 k4 k2 j5 q j = iv q j) ∧ rfPost (inPut iv n k1 k2 k3 k4) n j1 k3 k4 k2 j5 84 4 = nI (n + 1) ∧ rfPost (inPut iv n k1 k2 k3 k4) n j1 k3 k4 k2 j5 92 32 = nI (n + 1) ∧
    rfPost (inPut iv n k1 k2 k3 k4) n j1 k3 k4 k2 j5 85 n = k1 ∧ rfPost (inPut iv n k1 k2 k3 k4) n j1 k3 k4 k2 j5 86 n = k2 ∧ rfPost (inPut iv n k1 k2 k3 k4) n j1 k3 k4 k2 j5 87 n = k3 ∧ rfPost (inPut iv n k1 k2 k3 k4) n j1 k3 k4 k2 j5 88 n = k4 ∧
    rfPost (inPut iv n k1 k2 k3 k4) n j1 k3 k4 k2 j5 121 n = j1 ∧ rfPost (inPut iv n k1 k2 k3 k4) n j1 k3 k4 k2 j5 122 n = k3 ∧ rfPost (inPut iv n k1 k2 k3 k4) n j1 k3 k4 k2 j5 123 n = k4 ∧ rfPost (inPut iv n k1 k2 k3 k4) n j1 k3 k4 k2 j5 124 n = k2 ∧ rfPost (inPut iv n k1 k2 k3 k4) n j1 k3 k4 k2 j5 125 n = j5 := by
  refine ⟨fun q j hq hj h4 => ?_, ?_, ?_, ?_, ?_, ?_, ?_, ?_, ?_, ?_, ?_, ?_⟩
  · unfold rfPost inPut
    rw [u2n (Or.inl (by omega)), u2n (Or.inr hj), u2n (Or.inr hj), u2n (Or.inr hj), u2n (Or.inr hj), u2n (Or.inr hj), u2n h4, u2n (Or.inr hj), u2n (Or.inr hj), u2n (Or.inr hj), u2n (Or.inr hj)]
  all_goals (unfold rfPost inPut ex_u2; simp)
theorem rel_put {n : Nat} {k1 k2 k3 k4 j1 j5 : Int32} (hR : Rel9 c9 iv mp sp) (hm : iv 84 4 = nI n) (hn : n < 12) (hrow : (k2 = nI 0 ∧ ((k1 = nI 4 ∧ j1 = nI 0) ∨ (k1 = nI 5 ∧ j1 = nI 1))) ∨ ∃ w t, w ≤ 3 ∧ 1 ≤ t ∧ t ≤ 9999 ∧ k1 = nI w ∧ j5 = nI w ∧ j1 = nI 2 ∧ k2 = nI t) : Rel9 (c9 + 1) (rfPost (inPut iv n k1 k2 k3 k4) n j1 k3 k4 k2 j5) mp sp := by
  obtain ⟨r1, r2, r3, ⟨m9, q9, h1, h2, h3, h4, h5, h6, h7⟩, r5, r6⟩ := hR
  have hmn : m9 = n := (n_eq (by omega) (by omega)).mp (h3.symm.trans hm)
  subst hmn
  obtain ⟨g0, g1, g2, g3, g4, g5, g6, g7, g8, g9, ga, gb⟩ := put_row (iv := iv) (n := m9) (k1 := k1) (k2 := k2) (k3 := k3) (k4 := k4) (j1 := j1) (j5 := j5)
  have hg : ∀ q j, ¬ (84 ≤ q ∧ q ≤ 88) → ¬ (121 ≤ q ∧ q ≤ 125) → (q ≠ 92 ∨ j ≠ 32) → rfPost (inPut iv m9 k1 k2 k3 k4) m9 j1 k3 k4 k2 j5 q j = iv q j := fun q j e1 e2 e3 => (rfPost_o e2 e3).trans (inPut_o e1)
  refine ⟨rlD_cg r1 (fun q j hq => hg q j (by omega) (by omega) (by omega)), rlM_cg r2 (fun q j hq => hg q j (by omega) (by omega) (by omega)), rlT_cg r2.1 r3 (fun q j hq => hg q j (by omega) (by omega) (by omega)), ⟨m9 + 1, q9, by omega, by omega, g1, g2, ?_, ?_, fun j hj => ?_⟩, rlA_cg (Nat.le_succ _) r5 (fun q j hq => hg q j (by omega) (by omega) (by omega)), rlF_cg r6 (fun q j hq => hg q j (by omega) (by omega) (by omega))⟩
  · rw [rfPost_o (by omega) (by omega)]
    unfold inPut
    rw [u2n (Or.inr (by omega)), u2n (Or.inl (by omega)), u2n (Or.inl (by omega)), u2n (Or.inl (by omega)), u2n (Or.inl (by omega))]
    exact h5
  · exact (hg 92 38 (by omega) (by omega) (by omega)).trans h6
  · by_cases e : j = m9
    · subst e
      unfold rowR
      rw [g3, g4, g5, g6, g7, g8, g9, ga, gb]
      exact ⟨rfl, rfl, rfl, hrow⟩
    · exact row_cg (h7 j (by omega)) (fun q hq => g0 q j (by omega) e (by omega))
theorem op_insert (hR : Rel9 c9 iv mp sp) (x y : Int32) : PR l G 2 1 M_TG_insert M_RF_insert [.int x, .int y] c9 iv mp sp mo := by
  obtain ⟨m9, q9, h1, h2, h3, h4, h5, h6, h7⟩ := hR.2.2.2.1
  refine ct_post (ct_TG_insert l G iv mp sp mo m9 x y h3 h1) (fun r h' hp => ?_)
  obtain ⟨p1, p2⟩ := hp
  by_cases e : m9 = 12
  · rw [if_pos e] at p1
    refine ⟨_, mp, sp, mo, _, p1, p2, ct_post (ct_RF_insert l G iv mp sp mo m9 x y h4 h1) (fun r h' hp => ?_)⟩
    obtain ⟨p1, p2⟩ := hp
    rw [if_pos e] at p1
    exact ⟨_, p1, p2, rel_up hR⟩
  · rw [if_neg e] at p1
    refine ⟨_, mp, sp, mo, _, p1, p2, ct_post (ct_RF_insert l G _ mp sp mo m9 x y ((inPut_o (by omega)).trans h4) h1) (fun r h' hp => ?_)⟩
    obtain ⟨p1, p2⟩ := hp
    rw [if_neg e] at p1
    exact ⟨_, p1, p2, rel_put hR h3 (by omega) (Or.inl ⟨rfl, Or.inl ⟨rfl, rfl⟩⟩)⟩
theorem op_erase (hR : Rel9 c9 iv mp sp) (x y : Int32) : PR l G 2 1 M_TG_erase M_RF_erase [.int x, .int y] c9 iv mp sp mo := by
  obtain ⟨m9, q9, h1, h2, h3, h4, h5, h6, h7⟩ := hR.2.2.2.1
  refine ct_post (ct_TG_erase l G iv mp sp mo m9 x y h3 h1) (fun r h' hp => ?_)
  obtain ⟨p1, p2⟩ := hp
  by_cases e : m9 = 12
  · rw [if_pos e] at p1
    refine ⟨_, mp, sp, mo, _, p1, p2, ct_post (ct_RF_erase l G iv mp sp mo m9 x y h4 h1) (fun r h' hp => ?_)⟩
    obtain ⟨p1, p2⟩ := hp
    rw [if_pos e] at p1
    exact ⟨_, p1, p2, rel_up hR⟩
  · rw [if_neg e] at p1
    refine ⟨_, mp, sp, mo, _, p1, p2, ct_post (ct_RF_erase l G _ mp sp mo m9 x y ((inPut_o (by omega)).trans h4) h1) (fun r h' hp => ?_)⟩
    obtain ⟨p1, p2⟩ := hp
    rw [if_neg e] at p1
    exact ⟨_, p1, p2, rel_put hR h3 (by omega) (Or.inl ⟨rfl, Or.inr ⟨rfl, rfl⟩⟩)⟩
end OP
