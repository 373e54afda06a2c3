/-! working off, whole -/
section OX
variable {l : Launch} {G : ex_G} {iv : Nat → Nat → Int32} {mp mn : Nat → Nat} {sp mo c9 : Nat}
theorem op_workC (hR : Rel9 c9 iv mp sp) {m9 : Nat} (hm : iv 84 4 = nI m9) (hm2 : iv 92 32 = nI m9) (hm12 : m9 ≤ 12) (h0 : 0 < m9) (hrow : rowR iv 0) (b : Bool) (hb : (b = true ∧ iv 85 0 = nI 4 ∧ iv 121 0 = nI 0) ∨ (b = false ∧ iv 85 0 = nI 5 ∧ iv 121 0 = nI 1)) (h86 : iv 86 0 = nI 0) : PR l G 15 6 M_TG_work M_RF_work [] c9 iv mp sp mo := by
  obtain ⟨a, n, hA, hTC, hA2, hst⟩ := hR.2.2.1
  have hb2 : (b = true ∧ iv 85 0 = nI 4) ∨ (b = false ∧ ¬ iv 85 0 = nI 4) := by
    rcases hb with ⟨z1, z2, z3⟩ | ⟨z1, z2, z3⟩
    · exact Or.inl ⟨z1, z2⟩
    · exact Or.inr ⟨z1, by rw [z2]; decide⟩
  refine ct_post (ct_TG_workC l G iv mp sp mo m9 hm hm12 h0 a n hA hTC b hb2 h86) (fun r h' hp => ?_)
  obtain ⟨iv3, p1, p2, hCh⟩ := hp
  have hg : ∀ q j, 92 ≤ q → iv3 q j = iv q j := fun q j hq => (hCh.1 q j (by omega) (by omega) (by omega)).trans (inOut_o (by omega))
  have hA3 : TxR iv3 a n := ⟨hA2.1, (hg _ _ (by omega)).trans hA2.2.1, fun k hk => (hg _ _ (by omega)).trans (hA2.2.2.1 k hk), hA2.2.2.2⟩
  have e124 : iv3 124 0 = nI 0 := (hg _ _ (by omega)).trans (hrow.2.2.1.trans h86)
  have e122 : iv3 122 0 = iv 87 0 := (hg _ _ (by omega)).trans hrow.1
  have e123 : iv3 123 0 = iv 88 0 := (hg _ _ (by omega)).trans hrow.2.1
  refine ⟨iv3, mp, sp, mo, _, p1, p2, ?_⟩
  rcases hb with ⟨z1, z2, z3⟩ | ⟨z1, z2, z3⟩
  · subst z1
    refine ct_post (ct_RF_workI l G iv3 mp sp mo m9 ((hg _ _ (by omega)).trans hm2) hm12 h0 a n hA3 ((hg _ _ (by omega)).trans z3)) (fun r h' hp => ?_)
    obtain ⟨iv4, p1, p2, hChR⟩ := hp
    rw [e122, e123] at hChR
    exact ⟨iv4, p1, by rw [p2, e124], rel_up (rel_ch hR hm hm12 h0 hCh hChR)⟩
  · subst z1
    refine ct_post (ct_RF_workE l G iv3 mp sp mo m9 ((hg _ _ (by omega)).trans hm2) hm12 h0 a n hA3 ((hg _ _ (by omega)).trans z3)) (fun r h' hp => ?_)
    obtain ⟨iv4, p1, p2, hChR⟩ := hp
    rw [e122, e123] at hChR
    exact ⟨iv4, p1, by rw [p2, e124], rel_up (rel_ch hR hm hm12 h0 hCh hChR)⟩
theorem anKeep_o {iv : Nat → Nat → Int32} {nx q j : Nat} {t v : Int32} (h : ¬ (89 ≤ q ∧ q ≤ 91)) : anKeep iv nx t v q j = iv q j := by
  unfold anKeep
  rw [u2n (Or.inl (by omega)), u2n (Or.inl (by omega)), u2n (Or.inl (by omega))]
theorem rfKeep_o {iv : Nat → Nat → Int32} {t q j : Nat} {v : Int32} (h : q ≠ 127) (h2 : ¬ (q = 92 ∧ j = 39)) : rfKeep iv t v q j = iv q j := by
  unfold rfKeep
  rw [u2n (by omega), u2n (Or.inl h)]
theorem op_workR (hR : Rel9 c9 iv mp sp) (hc9 : c9 ≤ 9000) {m9 : Nat} (hm : iv 84 4 = nI m9) (hm2 : iv 92 32 = nI m9) (hm12 : m9 ≤ 12) (h0 : 0 < m9) (hrow : rowR iv 0) {w t : Nat} (hw : w ≤ 3) (ht1 : 1 ≤ t) (ht2 : t ≤ 9999) (h85 : iv 85 0 = nI w) (h125 : iv 125 0 = nI w) (h121 : iv 121 0 = nI 2) (h86 : iv 86 0 = nI t) : PR l G 15 6 M_TG_work M_RF_work [] c9 iv mp sp mo := by
  obtain ⟨a, n, hA, hTC, hA2, hst⟩ := hR.2.2.1
  obtain ⟨hmp, _, _, _, _, mn, pr, h6, h7⟩ := hR.2.1
  obtain ⟨t9, g1, g2, g3, g4, g5⟩ := hR.2.2.2.2.1
  have hn := hA.1
  have hTX := tX_all hA.1 hA.2.2.2
  have hcn : (tAll a n).cn ≤ 33 := by have := hTX.1.1.1; omega
  refine ct_post (ct_TG_workR l G iv mp sp mo m9 hm hm12 h0 hmp a n hA hTC hst w t (t9 % 8) hw h85 ht1 (by omega) h86 g2 (by omega)) (fun r h' hp => ?_)
  obtain ⟨iv2, iv3, v, p1, p2, hC2, h09, hF2, hRp⟩ := hp
  have hq3 := rpC_fr hw hTX.1 hC2.2.2.1 hRp
  generalize hXe : anKeep iv3 (t9 % 8) (nI t) v = X at p1
  have hX3 : ∀ q j, ¬ (89 ≤ q ∧ q ≤ 91) → X q j = iv3 q j := fun q j hq => by rw [← hXe]; exact anKeep_o hq
  have hXi : ∀ q j, q ≠ 40 → ¬ (q = 0 ∧ j = 9) → ¬ (q = 41 ∨ (43 ≤ q ∧ q ≤ 81)) → ¬ (q = 82 ∧ j = 4) → q ≠ 83 → ¬ (89 ≤ q ∧ q ≤ 91) → X q j = inOut iv m9 0 q j := fun q j e1 e2 e3 e4 e5 e6 => (hX3 q j e6).trans ((hq3 q j e1 e5 (by omega) (by omega)).trans (hF2 q j (by omega) (by omega)))
  have hX9 : ∀ q j, 92 ≤ q → X q j = iv q j := fun q j hq => (hXi q j (by omega) (by omega) (by omega) (by omega) (by omega) (by omega)).trans (inOut_o (by omega))
  have hAX : TxR X a n := ⟨hA2.1, (hX9 _ _ (by omega)).trans hA2.2.1, fun k hk => (hX9 _ _ (by omega)).trans (hA2.2.2.1 k hk), hA2.2.2.2⟩
  refine ⟨X, mp, sp, mo, _, p1, p2, ?_⟩
  refine ct_post (ct_RF_workR l G X mp sp mo m9 ((hX9 _ _ (by omega)).trans hm2) hm12 h0 a n hAX mn (fun k hk => ⟨(hX9 _ _ (by omega)).trans (h6 k hk).2.1, (h6 k hk).1⟩) w t9 hw ((hX9 _ _ (by omega)).trans h121) ((hX9 _ _ (by omega)).trans h125) (by omega) ((hX9 _ _ (by omega)).trans g3)) (fun r h' hp => ?_)
  obtain ⟨R, iv3r, Bl, v2, p1, p2, hT, hFR, hB, hFa, hRr⟩ := hp
  have e124 : X 124 0 = nI t := (hX9 _ _ (by omega)).trans (hrow.2.2.1.trans h86)
  have e122 : X 122 0 = iv 87 0 := (hX9 _ _ (by omega)).trans hrow.1
  have e123 : X 123 0 = iv 88 0 := (hX9 _ _ (by omega)).trans hrow.2.1
  rw [e122, e123] at hRr
  rw [e124] at hFR p2
  have hRX : ∀ q j, ¬ (107 ≤ q ∧ q ≤ 120) → ¬ (q = 92 ∧ (j = 16 ∨ j = 29)) → q ≠ 126 → R q j = rfOut X m9 0 q j := fun q j e1 e2 e3 => (hFR q j e1 (by omega)).trans (u2n (Or.inl e3))
  have hRc : ∀ q j, q < 92 → R q j = X q j := fun q j hq => (hRX q j (by omega) (by omega) (by omega)).trans (rfOut_o (by omega) (by omega))
  have hg : ∀ q j, fpC q → R q j = iv2 q j := fun q j hq => by
    unfold fpC at hq
    exact (hRc q j (by omega)).trans ((hX3 q j (by omega)).trans (hq3 q j (by omega) (by omega) (by omega) (by omega)))
  have hRi : ∀ q j, (q = 3 ∨ q = 7 ∨ (9 ≤ q ∧ q ≤ 39) ∨ (94 ≤ q ∧ q ≤ 101)) → R q j = iv q j := fun q j hq => (hRX q j (by omega) (by omega) (by omega)).trans ((rfOut_o (by omega) (by omega)).trans ((hXi q j (by omega) (by omega) (by omega) (by omega) (by omega) (by omega)).trans (inOut_o (by omega))))
  have hM : ∀ k, k < 9 → MRel R (mp k) k (mn k) (pr k) := fun k hk => mr_cg (fun q hq => funext (fun j => by have := hmp k hk; exact hRi q j (by omega))) (h6 k hk)
  have h7R : R 7 2 = frtR R mn := by
    rw [hRi _ _ (by omega), h7]
    exact (frt_cg (fun q e1 e2 => funext (fun j => hRi q j (by omega)))).symm
  have h39 : R 39 1 = nI n := (hRi _ _ (by omega)).trans hA.2.1
  obtain ⟨ev, hTx, hFm⟩ := rp_same hmp hM h7R hC2 hg h39 hT hTX.1 hTX.2 hn hB hw hRp hRr
  subst ev
  have hq3r := rpR_fr hw hTX.1.2.2.2.1 hRr
  generalize hYe : rfKeep iv3r t9 v2 = Y at p1
  have hY3 : ∀ q j, q ≠ 127 → ¬ (q = 92 ∧ j = 39) → Y q j = iv3r q j := fun q j e1 e2 => by rw [← hYe]; exact rfKeep_o e1 e2
  have hYX : ∀ q j, q ≠ 127 → ¬ (q = 92 ∧ (j = 39 ∨ j = 42 ∨ j = 16 ∨ j = 29)) → q ≠ 106 → q ≠ 128 → ¬ (107 ≤ q ∧ q ≤ 120) → q ≠ 126 → Y q j = rfOut X m9 0 q j := fun q j e1 e2 e3 e4 e5 e6 => (hY3 q j e1 (by omega)).trans ((hq3r q j e3 e4 (by omega)).trans (hRX q j e5 (by omega) e6))
  have hYc : ∀ q j, q < 92 → Y q j = X q j := fun q j hq => (hYX q j (by omega) (by omega) (by omega) (by omega) (by omega) (by omega)).trans (rfOut_o (by omega) (by omega))
  have hYZ : ∀ q j, q ≠ 40 → ¬ (q = 0 ∧ j = 9) → ¬ (q = 41 ∨ (43 ≤ q ∧ q ≤ 81)) → q ≠ 82 → q ≠ 83 → ¬ (89 ≤ q ∧ q ≤ 91) → q ≠ 127 → ¬ (q = 92 ∧ (j = 39 ∨ j = 42 ∨ j = 16 ∨ j = 29)) → q ≠ 106 → q ≠ 128 → ¬ (107 ≤ q ∧ q ≤ 120) → q ≠ 126 → Y q j = rfOut (inOut iv m9 0) m9 0 q j := fun q j e1 e2 e3 e4 e5 e6 e7 e8 e9 ea eb ec => (hYX q j e7 e8 e9 ea eb ec).trans (out_cg (hXi q j e1 e2 e3 (by omega) e5 e6) (fun f1 f2 j => hXi q j (by omega) (by omega) (by omega) (by omega) (by omega) (by omega)))
  obtain ⟨r1, r2, _, r4, _, _⟩ := rel_out hR hm hm12 h0
  refine ⟨Y, p1, p2, rlD_cg r1 (fun q j hq => hYZ q j (by omega) (by omega) (by omega) (by omega) (by omega) (by omega) (by omega) (by omega) (by omega) (by omega) (by omega) (by omega)), rlM_cg r2 (fun q j hq => hYZ q j (by omega) (by omega) (by omega) (by omega) (by omega) (by omega) (by omega) (by omega) (by omega) (by omega) (by omega) (by omega)), ?_, rlI_cg (Nat.le_succ _) r4 (fun q j hq => hYZ q j (by omega) (by omega) (by omega) (by omega) (by omega) (by omega) (by omega) (by omega) (by omega) (by omega) (by omega) (by omega)), ?_, ?_⟩
  · have y39 : Y 39 1 = nI n := (hYc _ _ (by omega)).trans ((hXi _ _ (by omega) (by omega) (by omega) (by omega) (by omega) (by omega)).trans ((inOut_o (by omega)).trans hA.2.1))
    have y14 : Y 92 14 = nI n := (hYX _ _ (by omega) (by omega) (by omega) (by omega) (by omega) (by omega)).trans ((rfOut_o (by omega) (by omega)).trans hAX.2.1)
    have yX40 : ∀ k, Y 40 k = iv3 40 k := fun k => (hYc _ _ (by omega)).trans (hX3 _ _ (by omega))
    have y106 : ∀ k, Y 106 k = iv3r 106 k := fun k => hY3 _ _ (by omega) (by omega)
    have R106 : ∀ k, k < n → R 106 k = a k := fun k hk => (hRX _ _ (by omega) (by omega) (by omega)).trans ((rfOut_o (by omega) (by omega)).trans (hAX.2.2.1 k hk))
    have i40 : ∀ k, iv2 40 k = iv 40 k := fun k => (hF2 _ _ (by omega) (by omega)).trans (inOut_o (by omega))
    have y09 : Y 0 9 = iv3 0 9 := (hYc _ _ (by omega)).trans (hX3 _ _ (by omega))
    have hCY : ClsT Y mp (tAll a n) := cls_fr3 hmp hcn (fun q j hq => (hYc q j (by omega)).trans ((hRc q j (by omega)).symm.trans (hg q j (by unfold fpC; omega)))) hC2
    rcases hTx with ⟨x1, x2, x3⟩ | ⟨E, hy, x1, x2, x3⟩
    · refine ⟨a, n, ⟨hn, y39, fun k hk => ?_, hA.2.2.2⟩, fun k hk => ?_, ⟨hn, y14, fun k hk => ?_, hA.2.2.2⟩, fun _ => hCY⟩
      · rw [yX40, x1, i40]; exact hA.2.2.1 k hk
      · rw [yX40, x1, i40]; exact hTC k hk
      · rw [y106, x3]; exact R106 k hk
    · have ha : ∀ k, k < n → wrB (a k) = true := fun k hk => by rw [← hA.2.2.1 k hk]; exact hTC k hk
      refine ⟨fun k => if k < n then rnT a E (iv 88 0) k else -1, n, ⟨hn, y39, fun k hk => ?_, fun k hk => if_neg (by omega)⟩, fun k hk => ?_, ⟨hn, y14, fun k hk => ?_, fun k hk => if_neg (by omega)⟩, fun z => absurd ((y09.trans x1).symm.trans z) (by decide)⟩
      · rw [yX40, x2 k hk]; exact (if_pos hk).symm
      · rw [yX40, x2 k hk]; exact rn_wr hy (ha k hk)
      · rw [y106, x3, (r2_a R106).1 k hk]; exact (if_pos hk).symm
  · have y89 : Y 89 2 = nI ((t9 + 1) % 8) := by
      rw [hYc _ _ (by omega), ← hXe]
      unfold anKeep
      rw [u2s]
      congr 1
      omega
    have y39 : Y 92 39 = nI (t9 + 1) := by
      rw [← hYe]
      unfold rfKeep
      rw [u2s]
    have y90 : ∀ i, Y 90 i = if i = t9 % 8 then nI t else iv 90 i := by
      intro i
      rw [hYc _ _ (by omega), ← hXe]
      unfold anKeep
      rw [u2n (Or.inl (by omega)), u2n (Or.inl (by omega))]
      by_cases e : i = t9 % 8
      · rw [e, u2s, if_pos rfl]
      · rw [u2n (Or.inr e), if_neg e]
        exact (hq3 _ _ (by omega) (by omega) (by omega) (by omega)).trans ((hF2 _ _ (by omega) (by omega)).trans (inOut_o (by omega)))
    have y91 : ∀ i, Y 91 i = if i = t9 % 8 then v2 else iv 91 i := by
      intro i
      rw [hYc _ _ (by omega), ← hXe]
      unfold anKeep
      rw [u2n (Or.inl (by omega))]
      by_cases e : i = t9 % 8
      · rw [e, u2s, if_pos rfl]
      · rw [u2n (Or.inr e), u2n (Or.inl (by omega)), if_neg e]
        exact (hq3 _ _ (by omega) (by omega) (by omega) (by omega)).trans ((hF2 _ _ (by omega) (by omega)).trans (inOut_o (by omega)))
    have y126 : ∀ i, Y 126 i = if i = t9 % 8 then nI t else iv 126 i := by
      intro i
      rw [hY3 _ _ (by omega) (by omega), hq3r _ _ (by omega) (by omega) (by omega), hFR _ _ (by omega) (by omega)]
      by_cases e : i = t9 % 8
      · rw [e, u2s, if_pos rfl]
      · rw [u2n (Or.inr e), if_neg e, rfOut_o (by omega) (by omega)]
        exact hX9 _ _ (by omega)
    have y127 : ∀ i, Y 127 i = if i = t9 % 8 then v2 else iv 127 i := by
      intro i
      rw [← hYe]
      unfold rfKeep
      rw [u2n (Or.inl (by omega))]
      by_cases e : i = t9 % 8
      · rw [e, u2s, if_pos rfl]
      · rw [u2n (Or.inr e), if_neg e, hq3r _ _ (by omega) (by omega) (by omega), hRX _ _ (by omega) (by omega) (by omega), rfOut_o (by omega) (by omega)]
        exact hX9 _ _ (by omega)
    refine ⟨t9 + 1, by omega, y89, y39, fun i e1 e2 => ?_, fun i e1 e2 => ?_⟩
    · rw [y90, y91, y126, y127]
      by_cases e : i = t9 % 8
      · rw [if_pos e, if_pos e, if_pos e, if_pos e]
        exact ⟨rfl, rfl, t, ht1, ht2, rfl⟩
      · rw [if_neg e, if_neg e, if_neg e, if_neg e]
        exact g4 i e1 (by omega)
    · rw [y90, if_neg (by omega)]
      exact g5 i e1 (by omega)
  · obtain ⟨fl, f1, f2, f3, f4⟩ := hR.2.2.2.2.2
    have a82 : Y 82 4 = iv3 82 4 := (hYc _ _ (by omega)).trans (hX3 _ _ (by omega))
    have a83 : ∀ k, Y 83 k = iv3 83 k := fun k => (hYc _ _ (by omega)).trans (hX3 _ _ (by omega))
    have a42 : Y 92 42 = iv3r 92 42 := hY3 _ _ (by omega) (by omega)
    have a128 : ∀ k, Y 128 k = iv3r 128 k := fun k => hY3 _ _ (by omega) (by omega)
    rcases hFm with ⟨x1, x2, x3, x4⟩ | ⟨s, x1, x2, x3, x4⟩
    · refine ⟨fl, f1, ?_, ?_, fun i hi => ?_⟩
      · rw [a82, x1, hF2 _ _ (by omega) (by omega), inOut_o (by omega)]; exact f2
      · rw [a42, x3, hRX _ _ (by omega) (by omega) (by omega), rfOut_o (by omega) (by omega), hX9 _ _ (by omega)]; exact f3
      · rw [a83, x2, hF2 _ _ (by omega) (by omega), inOut_o (by omega), a128, x4, hRX _ _ (by omega) (by omega) (by omega), rfOut_o (by omega) (by omega), hX9 _ _ (by omega)]; exact f4 i hi
    · refine ⟨s.length, by omega, a82.trans x2, a42.trans x3, fun i hi => ?_⟩
      rw [a83, a128, (x4 i hi).1, (x4 i hi).2]
theorem op_work (hR : Rel9 c9 iv mp sp) (hc9 : c9 ≤ 9000) : PR l G 15 6 M_TG_work M_RF_work [] c9 iv mp sp mo := by
  obtain ⟨m9, q9, h1, h2, h3, h4, h5, h6, h7⟩ := hR.2.2.2.1
  by_cases h0 : m9 = 0
  · subst h0
    refine ct_post (ct_TG_work0 l G iv mp sp mo h3) (fun r h' hp => ⟨_, mp, sp, mo, _, hp.1, hp.2, ?_⟩)
    exact ct_post (ct_RF_work0 l G iv mp sp mo h4) (fun r h' hp => ⟨_, hp.1, hp.2, rel_up hR⟩)
  · have hrow := h7 0 (by omega)
    rcases hrow.2.2.2 with ⟨e1, e2 | e2⟩ | ⟨w, t, w1, w2, w3, w4, w5, w6, w7⟩
    · exact op_workC hR h3 h4 h1 (by omega) hrow true (Or.inl ⟨rfl, e2.1, e2.2⟩) e1
    · exact op_workC hR h3 h4 h1 (by omega) hrow false (Or.inr ⟨rfl, e2.1, e2.2⟩) e1
    · exact op_workR hR hc9 h3 h4 h1 (by omega) hrow w1 w2 w3 w4 w5 w6 w7
end OX
