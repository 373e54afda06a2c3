/-! defining, whole -/
section OD
variable {l : Launch} {G : ex_G} {iv : Nat → Nat → Int32} {mp : Nat → Nat} {sp mo c9 : Nat}
/-- a definition that changes no model in use -/
theorem rel_nd {iv1 : Nat → Nat → Int32} (hR : Rel9 c9 iv mp sp) (hg : ∀ q j, ¬ (q = 1 ∧ j = 1) → q ≠ 3 → q ≠ 9 + 3 * sp → q ≠ 10 + 3 * sp → q ≠ 11 + 3 * sp → iv1 q j = iv q j) (h11 : iv1 1 1 = nI 0) (h35 : ∃ sk, iv1 3 5 = b2i sk) : Rel9 c9 (ex_u2 iv1 92 0 (nI 0)) mp sp := by
  obtain ⟨r1, ⟨hmp, hsp, hne, hinj, _, mn, pr, h6, h7⟩, ⟨a, n, hA, hTC, hA2, hst⟩, r4, r5, r6⟩ := hR
  have hk : ∀ q j, ¬ (q = 92 ∧ j = 0) → ¬ (q = 1 ∧ j = 1) → q ≠ 3 → q ≠ 9 + 3 * sp → q ≠ 10 + 3 * sp → q ≠ 11 + 3 * sp → ex_u2 iv1 92 0 (nI 0) q j = iv q j := fun q j e0 e1 e2 e3 e4 e5 => (u2n (by omega)).trans (hg q j e1 e2 e3 e4 e5)
  have hmo : ∀ k, k < 9 → ex_u2 iv1 92 0 (nI 0) (9 + 3 * mp k) = iv (9 + 3 * mp k) ∧ ex_u2 iv1 92 0 (nI 0) (10 + 3 * mp k) = iv (10 + 3 * mp k) ∧ ex_u2 iv1 92 0 (nI 0) (11 + 3 * mp k) = iv (11 + 3 * mp k) := by
    intro k h
    have h1 := hmp k h
    have h2 := hne k h
    exact ⟨funext (fun i => hk _ _ (by omega) (by omega) (by omega) (by omega) (by omega) (by omega)), funext (fun i => hk _ _ (by omega) (by omega) (by omega) (by omega) (by omega) (by omega)), funext (fun i => hk _ _ (by omega) (by omega) (by omega) (by omega) (by omega) (by omega))⟩
  refine ⟨⟨0, fun _ => 0, ⟨by omega, (u2n (by omega)).trans h11, fun k hk => absurd hk (Nat.not_lt_zero _)⟩, ⟨by omega, u2s, fun k hk => absurd hk (Nat.not_lt_zero _)⟩⟩, ⟨hmp, hsp, hne, hinj, ?_, mn, pr, fun k h => ?_, ?_⟩, ⟨a, n, ⟨hA.1, (hk _ _ (by omega) (by omega) (by omega) (by omega) (by omega) (by omega)).trans hA.2.1, fun k h => (hk _ _ (by omega) (by omega) (by omega) (by omega) (by omega) (by omega)).trans (hA.2.2.1 k h), hA.2.2.2⟩, fun k h => ?_, ⟨hA2.1, (hk _ _ (by omega) (by omega) (by omega) (by omega) (by omega) (by omega)).trans hA2.2.1, fun k h => (hk _ _ (by omega) (by omega) (by omega) (by omega) (by omega) (by omega)).trans (hA2.2.2.1 k h), hA2.2.2.2⟩, fun z => ?_⟩, rlI_cg (Nat.le_refl _) r4 (fun q j hq => hk q j (by omega) (by omega) (by omega) (by omega) (by omega) (by omega)), rlA_cg (Nat.le_refl _) r5 (fun q j hq => hk q j (by omega) (by omega) (by omega) (by omega) (by omega) (by omega)), rlF_cg r6 (fun q j hq => hk q j (by omega) (by omega) (by omega) (by omega) (by omega) (by omega))⟩
  · obtain ⟨sk, e⟩ := h35
    exact ⟨sk, (u2n (by omega)).trans e⟩
  · exact mr_cg2 (hmo k h).1 (hmo k h).2.1 (hmo k h).2.2 (fun q _ _ => hk _ _ (by omega) (by omega) (by omega) (by omega) (by omega) (by omega)) (fun q _ => ⟨hk _ _ (by omega) (by omega) (by omega) (by omega) (by omega) (by omega), hk _ _ (by omega) (by omega) (by omega) (by omega) (by omega) (by omega)⟩) (h6 k h)
  · rw [hk _ _ (by omega) (by omega) (by omega) (by omega) (by omega) (by omega), h7]
    exact (frt_cg (fun q e1 e2 => funext (fun j => hk _ _ (by omega) (by omega) (by omega) (by omega) (by omega) (by omega)))).symm
  · rw [hk _ _ (by omega) (by omega) (by omega) (by omega) (by omega) (by omega)]; exact hTC k h
  · exact cls_fr4 (by have := (tX_all hA.1 hA.2.2.2).1.1.1; have := hA.1; omega) hmo (fun q j hq => hk q j (by omega) (by omega) (by omega) (by omega) (by omega) (by omega)) (hst ((hk _ _ (by omega) (by omega) (by omega) (by omega) (by omega) (by omega)).symm.trans z))
/-- a definition that takes the spare model into use -/
theorem rel_df {W X iv1 : Nat → Nat → Int32} {q0 nn : Nat} {fi la : Int32} {sk mix : Bool} (hR : Rel9 c9 iv mp sp) (hq0 : q0 < 9)
    (hW : ∀ q j, q ≠ 3 → q ≠ 9 + 3 * sp → q ≠ 10 + 3 * sp → q ≠ 11 + 3 * sp → W q j = iv q j) (h35 : ∃ sk, W 3 5 = b2i sk)
    (h1 : iv1 = ex_u2 (ex_u2 (ex_u2 W 7 2 (frcF W (va_up mp q0 sp))) 0 9 (nI 1)) 1 1 (nI 0))
    (hx0 : ∀ q j, q < 94 ∨ 105 < q → X q j = iv1 q j) (hX : ∀ q j, 94 ≤ q → q ≤ 99 → j < 9 → X q j = iv1 q j) (hX2 : ∀ q j, (q = 100 ∨ q = 101) → j < 90 → X q j = iv1 q j)
    (x6 : X 96 9 = fi) (x7 : X 97 9 = la) (x8 : X 98 9 = b2i sk) (x9 : X 99 9 = nI nn)
    (z1 : W (9 + 3 * sp) 0 = nI 1) (z2 : W (9 + 3 * sp) 1 = b2i mix) (z3 : W (10 + 3 * sp) 10 = fi) (z4 : W (9 + 3 * sp) 5 = if b2i sk = 0 then la else la ||| nI 1024)
    (hnn : nn ≤ 10) (b1 : bl nn fi) (b2 : bl nn la) (b3 : ∀ q, q < 10 → W (10 + 3 * sp) q = if q < nn then X 101 (90 + q) else nI 0) (b4 : ∀ q, q < nn → bl nn (X 101 (90 + q))) (b5 : nmR nn (W (11 + 3 * sp)) (fun k => X 100 (90 + k))) :
    Rel9 c9 (ex_u2 (tkD X q0 mix) 92 0 (nI 0)) (va_up mp q0 sp) (mp q0) := by
  obtain ⟨r1, ⟨hmp, hsp, hne, hinj, _, mn, pr, h6, h7⟩, ⟨a, n, hA, hTC, hA2, hst⟩, r4, r5, r6⟩ := hR
  have hW1 : ∀ q j, q ≠ 0 → q ≠ 1 → q ≠ 7 → iv1 q j = W q j := fun q j e0 e1 e7 => by
    rw [h1, u2n (Or.inl e1), u2n (Or.inl e0), u2n (Or.inl e7)]
  have hc : ∀ q j, q < 92 ∨ (q = 92 ∧ j ≠ 0) ∨ q = 93 ∨ 105 < q → ex_u2 (tkD X q0 mix) 92 0 (nI 0) q j = iv1 q j := fun q j hq => by
    rw [u2n (by omega), tk_o (by omega), hx0 _ _ (by omega)]
  have hcW : ∀ q j, q < 92 ∨ (q = 92 ∧ j ≠ 0) ∨ q = 93 ∨ 105 < q → q ≠ 0 → q ≠ 1 → q ≠ 7 → ex_u2 (tkD X q0 mix) 92 0 (nI 0) q j = W q j := fun q j hq e0 e1 e7 => (hc q j hq).trans (hW1 q j e0 e1 e7)
  have hci : ∀ q j, q < 92 ∨ (q = 92 ∧ j ≠ 0) ∨ q = 93 ∨ 105 < q → q ≠ 0 → q ≠ 1 → q ≠ 7 → q ≠ 3 → q ≠ 9 + 3 * sp → q ≠ 10 + 3 * sp → q ≠ 11 + 3 * sp → ex_u2 (tkD X q0 mix) 92 0 (nI 0) q j = iv q j := fun q j hq e0 e1 e7 e3 e4 e5 e6 => (hcW q j hq e0 e1 e7).trans (hW q j e3 e4 e5 e6)
  have h1i : ∀ q j, 94 ≤ q → q ≤ 101 → iv1 q j = iv q j := fun q j e1 e2 => (hW1 q j (by omega) (by omega) (by omega)).trans (hW q j (by omega) (by omega) (by omega) (by omega))
  have hMN := mr_new (Z := ex_u2 (tkD X q0 mix) 92 0 (nI 0)) (mix := mix) h6 hne hq0 (fun q j e1 e2 e3 => (hX q j e1 e2 e3).trans (h1i q j (by omega) (by omega))) (fun q j e1 e2 => (hX2 q j e1 e2).trans (h1i q j (by omega) (by omega))) x6 x7 x8 x9 (fun q j e1 e2 => u2n (by omega)) (fun q j e1 e2 e3 e4 e5 => hci q j (by omega) (by omega) (by omega) (by omega) (by omega) e3 e4 e5) hmp
    ((hcW _ _ (by omega) (by omega) (by omega) (by omega)).trans z1) ((hcW _ _ (by omega) (by omega) (by omega) (by omega)).trans z2) ((hcW _ _ (by omega) (by omega) (by omega) (by omega)).trans z3) ((hcW _ _ (by omega) (by omega) (by omega) (by omega)).trans z4) hnn b1 b2 (fun q hq => (hcW _ _ (by omega) (by omega) (by omega) (by omega)).trans (b3 q hq)) b4 (by
      have e : ex_u2 (tkD X q0 mix) 92 0 (nI 0) (11 + 3 * sp) = W (11 + 3 * sp) := funext (fun k => hcW _ _ (by omega) (by omega) (by omega) (by omega))
      rw [e]; exact b5)
  have hmp2 : ∀ k, k < 9 → va_up mp q0 sp k < 10 := by
    intro k hk
    by_cases e : k = q0
    · rw [e, va_up_self]; exact hsp
    · rw [va_up_ne _ _ e]; exact hmp k hk
  refine ⟨⟨0, fun _ => 0, ⟨by omega, ?_, fun k hk => absurd hk (Nat.not_lt_zero _)⟩, ⟨by omega, u2s, fun k hk => absurd hk (Nat.not_lt_zero _)⟩⟩, ⟨hmp2, hmp q0 hq0, fun k hk => ?_, fun k j hk hj he => ?_, ?_, va_up mn q0 nn, va_up pr q0 true, hMN, ?_⟩, ⟨a, n, ⟨hA.1, (hci _ _ (by omega) (by omega) (by omega) (by omega) (by omega) (by omega) (by omega) (by omega)).trans hA.2.1, fun k h => (hci _ _ (by omega) (by omega) (by omega) (by omega) (by omega) (by omega) (by omega) (by omega)).trans (hA.2.2.1 k h), hA.2.2.2⟩, fun k h => ?_, ⟨hA2.1, (hci _ _ (by omega) (by omega) (by omega) (by omega) (by omega) (by omega) (by omega) (by omega)).trans hA2.2.1, fun k h => (hci _ _ (by omega) (by omega) (by omega) (by omega) (by omega) (by omega) (by omega) (by omega)).trans (hA2.2.2.1 k h), hA2.2.2.2⟩, fun z => ?_⟩, rlI_cg (Nat.le_refl _) r4 (fun q j hq => hci q j (by omega) (by omega) (by omega) (by omega) (by omega) (by omega) (by omega) (by omega)), rlA_cg (Nat.le_refl _) r5 (fun q j hq => hci q j (by omega) (by omega) (by omega) (by omega) (by omega) (by omega) (by omega) (by omega)), rlF_cg r6 (fun q j hq => hci q j (by omega) (by omega) (by omega) (by omega) (by omega) (by omega) (by omega) (by omega))⟩
  · rw [hc _ _ (by omega), h1, u2s]
  · by_cases e : k = q0
    · rw [e, va_up_self]; exact fun z => hne q0 hq0 z.symm
    · rw [va_up_ne _ _ e]; exact fun z => e (hinj k q0 hk hq0 z)
  · by_cases e : k = q0
    · by_cases e2 : j = q0
      · rw [e, e2]
      · rw [e, va_up_self, va_up_ne _ _ e2] at he
        exact absurd he.symm (hne j hj)
    · by_cases e2 : j = q0
      · rw [e2, va_up_self, va_up_ne _ _ e] at he
        exact absurd he (hne k hk)
      · rw [va_up_ne _ _ e, va_up_ne _ _ e2] at he
        exact hinj k j hk hj he
  · obtain ⟨sk, e⟩ := h35
    exact ⟨sk, (hcW _ _ (by omega) (by omega) (by omega) (by omega)).trans e⟩
  · rw [← frt_all (fun i hi => hMN i (by omega)), hc _ _ (by omega), h1, u2n (by omega), u2n (by omega), u2s]
    exact (frc_cg hmp2 (fun q e1 e2 => funext (fun j => hcW _ _ (by omega) (by omega) (by omega) (by omega)))).symm
  · rw [hci _ _ (by omega) (by omega) (by omega) (by omega) (by omega) (by omega) (by omega) (by omega)]; exact hTC k h
  · rw [hc _ _ (by omega), h1, u2n (by omega), u2s] at z
    exact absurd z (by decide)
theorem mo_vals {S : PS} {x y z : Int32} {mix : Bool} : (∀ q j, q ≠ 3 → q ≠ 9 + 3 * sp → q ≠ 10 + 3 * sp → q ≠ 11 + 3 * sp → moCom (mrI (rdX iv sp mix) sp S) sp x y z q j = iv q j) ∧ moCom (mrI (rdX iv sp mix) sp S) sp x y z 3 5 = b2i S.sk ∧ moCom (mrI (rdX iv sp mix) sp S) sp x y z (9 + 3 * sp) 0 = nI 1 ∧ moCom (mrI (rdX iv sp mix) sp S) sp x y z (9 + 3 * sp) 1 = b2i mix ∧ moCom (mrI (rdX iv sp mix) sp S) sp x y z (10 + 3 * sp) 10 = x ∧ moCom (mrI (rdX iv sp mix) sp S) sp x y z (9 + 3 * sp) 5 = (if z = 0 then y else y ||| nI 1024) ∧ (∀ q, q < 10 → moCom (mrI (rdX iv sp mix) sp S) sp x y z (10 + 3 * sp) q = S.fo q) ∧ moCom (mrI (rdX iv sp mix) sp S) sp x y z (11 + 3 * sp) = S.sn := by
  refine ⟨fun q j e1 e2 e3 e4 => ?_, ?_, ?_, ?_, ?_, ?_, fun q hq => ?_, ?_⟩
  · unfold moCom
    rw [u2n (Or.inl e2), u2n (Or.inl e2), u2n (Or.inl e3)]
    unfold mrI
    rw [if_neg e4, if_neg e3, if_neg (fun w => e2 w.1), if_neg (fun w => e1 w.1), if_neg (fun w => e1 w.1), if_neg (fun w => e1 w.1), if_neg (fun w => e1 w.1)]
    unfold rdX moC0
    rw [u2n (Or.inl e2), u2n (Or.inl e2), u2n (Or.inl e2), u2n (Or.inl e2), u2n (Or.inl e2)]
  · unfold moCom
    rw [u2n (Or.inl (by omega)), u2n (Or.inl (by omega)), u2n (Or.inl (by omega)), mrI_sk]
  · unfold moCom
    rw [u2s]
  · unfold moCom
    rw [u2n (Or.inr (by omega)), u2n (Or.inr (by omega)), u2n (Or.inl (by omega))]
    unfold mrI
    rw [if_neg (by omega), if_neg (by omega), if_neg (by omega), if_neg (by omega), if_neg (by omega), if_neg (by omega), if_neg (by omega)]
    unfold rdX
    rw [u2s]
  · unfold moCom
    rw [u2n (Or.inl (by omega)), u2n (Or.inl (by omega)), u2s]
  · unfold moCom
    rw [u2n (Or.inr (by omega)), u2s]
  · unfold moCom
    rw [u2n (Or.inl (by omega)), u2n (Or.inl (by omega)), u2n (Or.inr (by omega)), mrI_fo]
  · funext k
    unfold moCom
    rw [u2n (Or.inl (by omega)), u2n (Or.inl (by omega)), u2n (Or.inl (by omega)), mrI_sn]
theorem rxE_v {R : RS} : (∀ q j, q < 94 ∨ 105 < q → rxE iv R q j = iv q j) ∧ (∀ q j, 94 ≤ q → q ≤ 99 → j < 9 → rxE iv R q j = iv q j) ∧ (∀ q j, (q = 100 ∨ q = 101) → j < 90 → rxE iv R q j = iv q j) ∧ rxE iv R 96 9 = (chQ (R.P 0) (R.P 1)).2.1 ∧ rxE iv R 97 9 = (chQ (R.P 0) (R.P 1)).2.2.1 ∧ rxE iv R 98 9 = b2i (chQ (R.P 0) (R.P 1)).2.2.2 ∧ rxE iv R 99 9 = nI R.n ∧ (∀ q, q < 10 → rxE iv R 101 (90 + q) = R.fo q) ∧ ∀ q, q < 10 → rxE iv R 100 (90 + q) = R.nm q := by
  have hch : chPs R.P 0 0 = chQ (R.P 0) (R.P 1) := by
    show va_up (va_up R.P 0 (chQ (R.P 0) (R.P 1))) 1 pt0 0 = _
    rw [va_up_ne _ _ (by decide), va_up_self]
  unfold rxE
  rw [hch]
  refine ⟨fun q j h => ?_, fun q j h1 h2 h3 => ?_, fun q j h1 h2 => ?_, ?_, ?_, ?_, ?_, fun q hq => ?_, fun q hq => ?_⟩
  · rw [u2n (by omega), u2n (by omega), u2n (by omega), u2n (by omega), rx_o (by omega)]
  · rw [u2n (by omega), u2n (by omega), u2n (by omega), u2n (by omega), rx_o (by omega)]
  · rw [u2n (by omega), u2n (by omega), u2n (by omega), u2n (by omega)]
    unfold rxI
    rw [if_neg (by omega), if_neg (by omega), if_neg (by omega), if_neg (by omega), if_neg (by omega), if_neg (by omega)]
  · rw [u2n (by omega), u2n (by omega), u2s]
  · rw [u2n (by omega), u2s]
  · rw [u2s]
  · rw [u2n (by omega), u2n (by omega), u2n (by omega), u2s]
  · rw [u2n (by omega), u2n (by omega), u2n (by omega), u2n (by omega)]
    unfold rxI
    rw [if_neg (by omega), if_neg (by omega), if_neg (by omega), if_neg (by omega), if_pos (by omega), show 90 + q - 90 = q by omega]
    rfl
  · rw [u2n (by omega), u2n (by omega), u2n (by omega), u2n (by omega)]
    unfold rxI
    rw [if_neg (by omega), if_neg (by omega), if_neg (by omega), if_neg (by omega), if_neg (by omega), if_pos (by omega), show 90 + q - 90 = q by omega]
    rfl
theorem rxN_v : (∀ q j, q < 94 ∨ 105 < q → rxN iv q j = iv q j) ∧ (∀ q j, 94 ≤ q → q ≤ 99 → j < 9 → rxN iv q j = iv q j) ∧ (∀ q j, (q = 100 ∨ q = 101) → j < 90 → rxN iv q j = iv q j) ∧ rxN iv 96 9 = nI 0 ∧ rxN iv 97 9 = nI 0 ∧ rxN iv 98 9 = b2i true ∧ rxN iv 99 9 = nI 0 := by
  unfold rxN
  refine ⟨fun q j h => ?_, fun q j h1 h2 h3 => ?_, fun q j h1 h2 => ?_, ?_, ?_, ?_, ?_⟩
  · rw [u2n (by omega), u2n (by omega), u2n (by omega), u2n (by omega)]
  · rw [u2n (by omega), u2n (by omega), u2n (by omega), u2n (by omega)]
  · rw [u2n (by omega), u2n (by omega), u2n (by omega), u2n (by omega)]
  · rw [u2n (by omega), u2n (by omega), u2s]
  · rw [u2n (by omega), u2s]
  · rw [u2s]; rfl
  · rw [u2n (by omega), u2n (by omega), u2n (by omega), u2s]
theorem hp_iv {iv1 iv2 : Nat → Nat → Int32} (h : HP iv1 mp sp mo = HP iv2 mp sp mo) : iv1 = iv2 := congrArg (fun h : ex_H => h.2.2.2.1) h
theorem op_define (hR : Rel9 c9 iv mp sp) (y : Int32) : PR l G 25 4 M_TG_define M_RF_define [.int y] c9 iv mp sp mo := by
  obtain ⟨n, f, hd, hd2⟩ := hR.1
  obtain ⟨hmp, hsp, hne, hinj, ⟨sk, hsk⟩, mn, pr, h6, h7⟩ := hR.2.1
  have hn := hd.1
  have htC := too_C hd
  refine ct_post (ct_TG_define l G iv mp sp mo hmp hsp n f hd sk hsk y) (fun r h' hp => ?_)
  obtain ⟨d1, d2, d3⟩ := hp
  have hdf : ∀ iv1 mp1 sp1 mo1, (∀ k, iv1 92 k = iv 92 k) → (∀ k, iv1 93 k = iv 93 k) → ∃ RE, CT l G 4 M_RF_define [.ref 92, .int y] (HP iv1 mp1 sp1 mo1) 0 0 (fun r h' => ∃ h1 iv2, TdP iv1 mp1 sp1 mo1 n f y RE r h1 ∧ h1 = HP iv2 mp1 sp1 mo1 ∧ h' = HP (ex_u2 iv2 92 0 (nI 0)) mp1 sp1 mo1) ∧ tooR iv1 n = tooD (dCh f n) n ∧ (tooD (dCh f n) n = false → frO (dCh f n) ≠ n → scP (dCh f n) n (frO (dCh f n)) 0 false false = true → rdP (dCh f n) n (frO (dCh f n)) (rx0 iv1) = some RE) := by
    intro iv1 mp1 sp1 mo1 e1 e2
    obtain ⟨RE, hRE⟩ := re_ex (f := f) hn iv1
    have hdr : DrR iv1 n f := ⟨hd2.1, (e1 0).trans hd2.2.1, fun k hk => (e2 k).trans (hd2.2.2 k hk)⟩
    have htR := too_R hdr
    exact ⟨RE, ct_RF_define l G iv1 mp1 sp1 mo1 n f hdr y RE (fun z => hRE (htR.symm.trans z)), htR, hRE⟩
  by_cases hy : y = nI 46 ∨ nmB y = true
  · cases ht : tooB iv n with
    | true =>
      obtain ⟨p1, p2⟩ := d2 hy ht
      obtain ⟨RE, hct, htR, _⟩ := hdf (ex_u2 iv 1 1 (nI 0)) mp sp mo (fun k => u2n (Or.inl (by omega))) (fun k => u2n (Or.inl (by omega)))
      refine ⟨_, mp, sp, mo, _, p2, p1, ct_post hct (fun r h' hp => ?_)⟩
      obtain ⟨h1, iv2, hT, e1, e2⟩ := hp
      obtain ⟨q1, q2⟩ := hT.2.1 hy (htR.trans (htC.symm.trans ht))
      have e3 := hp_iv (e1.symm.trans q2)
      subst e3
      exact ⟨_, e2, q1, rel_up (rel_nd hR (fun q j h1 h2 h3 h4 h5 => u2n (by omega)) u2s ⟨sk, (u2n (by omega)).trans hsk⟩)⟩
    | false =>
      have htD : tooD (dCh f n) n = false := htC.symm.trans ht
      obtain ⟨ivp, r', hrd, hcs⟩ := d1 hy ht
      rcases hrd with ⟨f1, f2, f3⟩ | ⟨f1, S2, s1, s2, f2, f3⟩ | ⟨f1, s1, f2, S2, f3⟩
      · rcases hcs with ⟨c1, _, _⟩ | ⟨c1, c2, c3⟩
        · rw [f2] at c1; exact absurd c1 (by decide)
        · obtain ⟨v0, v1, v2, v3, v4, v5, v6, v7⟩ := mo_vals (iv := iv) (sp := sp) (S := rdS0 iv sp sk (frO (dCh f n))) (x := nI 0) (y := nI 0) (z := nI 1) (mix := decide (dCh f n 0 = nI 35))
          rw [← f3] at v0 v1 v2 v3 v4 v5 v6 v7
          have hc9 : ∀ q j, 92 ≤ q → ex_u2 (ex_u2 (ex_u2 ivp 7 2 (frcF ivp (va_up mp (rowN y) sp))) 0 9 (nI 1)) 1 1 (nI 0) q j = iv q j := fun q j hq => by rw [u2n (by omega), u2n (by omega), u2n (by omega), v0 _ _ (by omega) (by omega) (by omega) (by omega)]
          obtain ⟨RE, hct, htR, _⟩ := hdf _ (va_up mp (rowN y) sp) (mp (rowN y)) (9 + 3 * sp) (fun k => hc9 92 k (by omega)) (fun k => hc9 93 k (by omega))
          refine ⟨_, _, _, _, _, c3, c2.trans c1, ct_post hct (fun r h' hp => ?_)⟩
          obtain ⟨h1, iv2, hT, e1, e2⟩ := hp
          rcases hT.1 hy (htR.trans htD) with ⟨g1, g2, g3⟩ | ⟨g1, _⟩ | ⟨g1, _⟩
          · have e3 := hp_iv (e1.symm.trans g3)
            subst e3
            obtain ⟨w0, w1, w2, w3, w4, w5, w6⟩ := rxN_v (iv := ex_u2 (ex_u2 (ex_u2 ivp 7 2 (frcF ivp (va_up mp (rowN y) sp))) 0 9 (nI 1)) 1 1 (nI 0))
            exact ⟨_, e2, g2, rel_up (rel_df hR (rowN_lt y) v0 ⟨_, v1⟩ rfl w0 w1 w2 w3 w4 w5 w6 v2 v3 v4 v5 (by omega) (fun b _ _ => bq_0 b) (fun b _ _ => bq_0 b) (fun q hq => by rw [v6 q hq, if_neg (by omega)]; exact if_pos (by omega)) (fun q hq => absurd hq (Nat.not_lt_zero _)) ⟨fun q hq k hk => by
              rw [v7, decide_eq_false (fun z => absurd z.1 (Nat.not_lt_zero _))]
              show bq (clrF (iv (11 + 3 * sp)) 8 q) k = false
              unfold clrF
              rw [if_pos hq]
              exact bq_0 k, fun k hk => absurd hk (Nat.not_lt_zero _)⟩)⟩
          · exact absurd f1 g1
          · exact absurd f1 g1
      · rcases hcs with ⟨c1, _, _⟩ | ⟨c1, c2, c3⟩
        · rw [f2] at c1; exact absurd c1 (by decide)
        · obtain ⟨v0, v1, v2, v3, v4, v5, v6, v7⟩ := mo_vals (iv := iv) (sp := sp) (S := S2) (x := S2.fi) (y := S2.la) (z := b2i S2.sk) (mix := decide (dCh f n 0 = nI 35))
          rw [← f3] at v0 v1 v2 v3 v4 v5 v6 v7
          have hc9 : ∀ q j, 92 ≤ q → ex_u2 (ex_u2 (ex_u2 ivp 7 2 (frcF ivp (va_up mp (rowN y) sp))) 0 9 (nI 1)) 1 1 (nI 0) q j = iv q j := fun q j hq => by rw [u2n (by omega), u2n (by omega), u2n (by omega), v0 _ _ (by omega) (by omega) (by omega) (by omega)]
          obtain ⟨RE, hct, htR, hRE⟩ := hdf _ (va_up mp (rowN y) sp) (mp (rowN y)) (9 + 3 * sp) (fun k => hc9 92 k (by omega)) (fun k => hc9 93 k (by omega))
          obtain ⟨pa1, pa2⟩ := prs_all (iv := iv) (j := sp) (sk := sk) hn htD f1
          have hsc := pa1.mpr ⟨S2, s1, s2⟩
          obtain ⟨k1, k2, k3, k4, k5⟩ := pa2 S2 s1 s2
          obtain ⟨R', q1, q2, q3, q4, q5, q6⟩ := k5 (rx0 (ex_u2 (ex_u2 (ex_u2 ivp 7 2 (frcF ivp (va_up mp (rowN y) sp))) 0 9 (nI 1)) 1 1 (nI 0))) rfl rfl (fun _ _ => rfl) rfl rfl
          have hRR : RE = R' := Option.some.inj ((hRE htD f1 hsc).symm.trans q1)
          subst hRR
          refine ⟨_, _, _, _, _, c3, c2.trans c1, ct_post hct (fun r h' hp => ?_)⟩
          obtain ⟨h1, iv2, hT, e1, e2⟩ := hp
          rcases hT.1 hy (htR.trans htD) with ⟨g1, _⟩ | ⟨g1, g2, g3, g4⟩ | ⟨g1, g2, _⟩
          · exact absurd g1 f1
          · have e3 := hp_iv (e1.symm.trans g4)
            subst e3
            obtain ⟨w0, w1, w2, w3, w4, w5, w6, w7, w8⟩ := rxE_v (iv := ex_u2 (ex_u2 (ex_u2 ivp 7 2 (frcF ivp (va_up mp (rowN y) sp))) 0 9 (nI 1)) 1 1 (nI 0)) (R := RE)
            rw [q3] at w3 w4 w5
            rw [q4] at w6
            refine ⟨_, e2, g3, rel_up (rel_df hR (rowN_lt y) v0 ⟨_, v1⟩ rfl w0 w1 w2 w3 w4 w5 w6 v2 v3 v4 v5 k1 k3 k4 (fun q hq => ?_) (fun q hq => ?_) ?_)⟩
            · rw [v6 q hq]
              by_cases h : q < S2.ns
              · rw [if_pos h, w7 q hq, q5 q hq]
              · rw [if_neg h]; exact k2.2 q hq (by omega)
            · rw [w7 q (by omega), q5 q (by omega)]; exact k2.1 q (by omega)
            · rw [v7]; exact nmR_cg (fun k hk => w8 k (by omega)) q6
          · rw [hsc] at g2; cases g2
      · rcases hcs with ⟨c1, c2, c3⟩ | ⟨c1, _, _⟩
        · have v0 : ∀ q j, q ≠ 3 → q ≠ 9 + 3 * sp → q ≠ 10 + 3 * sp → q ≠ 11 + 3 * sp → ivp q j = iv q j := by
            intro q j e1 e2 e3 e4
            rw [f3]
            unfold mrI
            rw [if_neg e4, if_neg e3, if_neg (fun w => e2 w.1), if_neg (fun w => e1 w.1), if_neg (fun w => e1 w.1), if_neg (fun w => e1 w.1), if_neg (fun w => e1 w.1)]
            unfold rdX moC0
            rw [u2n (Or.inl e2), u2n (Or.inl e2), u2n (Or.inl e2), u2n (Or.inl e2), u2n (Or.inl e2)]
          have v1 : ivp 3 5 = b2i S2.sk := by rw [f3, mrI_sk]
          obtain ⟨RE, hct, htR, hRE⟩ := hdf (ex_u2 ivp 1 1 (nI 0)) mp sp (9 + 3 * sp) (fun k => (u2n (by omega)).trans (v0 _ _ (by omega) (by omega) (by omega) (by omega))) (fun k => (u2n (by omega)).trans (v0 _ _ (by omega) (by omega) (by omega) (by omega)))
          obtain ⟨pa1, pa2⟩ := prs_all (iv := iv) (j := sp) (sk := sk) hn htD f1
          refine ⟨_, _, _, _, _, c3, c2.trans c1, ct_post hct (fun r h' hp => ?_)⟩
          obtain ⟨h1, iv2, hT, e1, e2⟩ := hp
          rcases hT.1 hy (htR.trans htD) with ⟨g1, _⟩ | ⟨g1, g2, g3, g4⟩ | ⟨g1, g2, g3, g4⟩
          · exact absurd g1 f1
          · obtain ⟨S', z1, z2⟩ := pa1.mp g2
            exact absurd z2 (s1 S' z1)
          · have e3 := hp_iv (e1.symm.trans g4)
            subst e3
            exact ⟨_, e2, g3, rel_up (rel_nd hR (fun q j h1 h2 h3 h4 h5 => (u2n (by omega)).trans (v0 q j h2 h3 h4 h5)) u2s ⟨S2.sk, (u2n (by omega)).trans v1⟩)⟩
        · rw [f2] at c1; exact absurd c1 (by decide)
  · obtain ⟨p1, p2⟩ := d3 hy
    obtain ⟨RE, hct, htR, _⟩ := hdf (ex_u2 iv 1 1 (nI 0)) mp sp mo (fun k => u2n (Or.inl (by omega))) (fun k => u2n (Or.inl (by omega)))
    refine ⟨_, mp, sp, mo, _, p2, p1, ct_post hct (fun r h' hp => ?_)⟩
    obtain ⟨h1, iv2, hT, e1, e2⟩ := hp
    obtain ⟨q1, q2⟩ := hT.2.2 hy
    have e3 := hp_iv (e1.symm.trans q2)
    subst e3
    exact ⟨_, e2, q1, rel_up (rel_nd hR (fun q j h1 h2 h3 h4 h5 => u2n (by omega)) u2s ⟨sk, (u2n (by omega)).trans hsk⟩)⟩
end OD
