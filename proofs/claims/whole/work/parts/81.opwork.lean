/-! working off: both sides answer and leave the same -/
section OW
variable {l : Launch} {G : ex_G} {iv : Nat → Nat → Int32} {mp mn : Nat → Nat} {sp mo c9 : Nat} {pr : Nat → Bool}
theorem rp_same {iv2 iv3 R iv3r : Nat → Nat → Int32} {a : Nat → Int32} {n : Nat} {T : TS} {Bl : List Nat} {w9 : Nat} {x y v v2 : Int32} (hmp : ∀ k, k < 9 → mp k < 10) (hM : ∀ k, k < 9 → MRel R (mp k) k (mn k) (pr k)) (h7 : R 7 2 = frtR R mn) (hC2 : ClsT iv2 mp T) (hg : ∀ q j, fpC q → R q j = iv2 q j) (h39 : R 39 1 = nI n) (hT : RefT R mn n T) (hX : tX a T n) (hs : T.stk = []) (hn : n ≤ 100) (hB : Bl.Perm (T.fl ++ T.br.map (k4 T.e))) (hw : w9 ≤ 3) (hc : RpC iv2 mp a n T (nI w9) x y v iv3) (hr : RpR R mn a n T Bl (nI w9) x y v2 iv3r) :
    v2 = v ∧ ((iv3 40 = iv2 40 ∧ iv3 0 9 = iv2 0 9 ∧ iv3r 106 = R 106) ∨ ∃ E, nmB y = true ∧ iv3 0 9 = nI 1 ∧ (∀ k, k < n → iv3 40 k = rnT a E y k) ∧ iv3r = r2 R E y) ∧
    ((iv3 82 4 = iv2 82 4 ∧ iv3 83 = iv2 83 ∧ iv3r 92 42 = R 92 42 ∧ iv3r 128 = R 128) ∨ ∃ s : List Int32, s.length ≤ 400 ∧ iv3 82 4 = nI s.length ∧ iv3r 92 42 = nI s.length ∧ ∀ i, i < s.length → iv3 83 i = s.getD i 0 ∧ iv3r 128 i = s.getD i 0) := by
  have hcn : T.cn ≤ 33 := by have := hX.1.1; omega
  have hC : ClsT R mp T := cls_fr3 hmp hcn (fun q j hq => hg q j (by unfold fpC; omega)) hC2
  obtain ⟨f1, f2⟩ := fa_same hM hC hT hX hs hn hB
  rw [clF_cg hmp hg hcn] at f1 f2
  have hw4 : w9 = 0 ∨ w9 = 1 ∨ w9 = 2 ∨ w9 = 3 := by omega
  rcases hw4 with z | z | z | z
  · obtain ⟨c1, c2⟩ := hc.1 (by rw [z])
    obtain ⟨⟨r1, r2⟩, r3⟩ := hr.1 (by rw [z])
    subst c2 r3
    refine ⟨?_, Or.inl ⟨rfl, rfl, rfl⟩, Or.inl ⟨rfl, rfl, rfl, rfl⟩⟩
    obtain ⟨o1, o2⟩ := ofr_same hM h7 h39 hC hT hX hs hn x
    rw [c1, ← ofrC_cg hmp hg hcn]
    by_cases hx : x < 0 ∨ nI n < x
    · rw [r1 hx, o1 hx]
    · have h1 := i_nlt (fun q => hx (Or.inl q))
      have h2 := i_nlt (fun q => hx (Or.inr q))
      have z0 : (0 : Int32).toInt = 0 := by decide
      rw [nI_t (by omega)] at h2
      have he : x = nI x.toInt.toNat := Int32.toInt_inj.mp (by rw [nI_t (by omega)]; omega)
      rw [r2 _ (by omega) he, o2 _ (by omega) he]
  · obtain ⟨c1, c2⟩ := hc.2.1 (by rw [z])
    obtain ⟨r1, r3⟩ := hr.2.1 (by rw [z])
    subst c2 r3
    exact ⟨by rw [c1, r1, f2], Or.inl ⟨rfl, rfl, rfl⟩, Or.inl ⟨rfl, rfl, rfl, rfl⟩⟩
  · obtain ⟨c1, c2⟩ := hc.2.2.1 (by rw [z])
    obtain ⟨r1, r3⟩ := hr.2.2.1 (by rw [z])
    rw [ow_C hC2.2.2.1 x] at c1 c2
    by_cases hb : owF T x = -1 ∨ nmB y = false
    · obtain ⟨c3, c4⟩ := c1 hb
      obtain ⟨r4, r5⟩ := r1 hb
      subst c4 r5
      exact ⟨by rw [c3, r4], Or.inl ⟨rfl, rfl, rfl⟩, Or.inl ⟨rfl, rfl, rfl, rfl⟩⟩
    · have hy : nmB y = true := Classical.byContradiction (fun q => hb (Or.inr (Bool.eq_false_iff.mpr q)))
      obtain ⟨i, i1, i2, i3⟩ := (ow_v hX.2.2.2.1 x).resolve_left (fun q => hb (Or.inl q))
      obtain ⟨g, g1, g2, g3⟩ := c2 i i1 i2 i3 hy
      obtain ⟨s1, s2⟩ := r3 i i1 i2 i3 hy
      subst g1
      refine ⟨by rw [g3, s2], Or.inr ⟨T.e i, hy, ?_, fun k hk => ?_, s1⟩, Or.inl ⟨?_, ?_, ?_, ?_⟩⟩
      · rw [va_up_ne _ _ (by decide), u2s]
      · rw [va_up_self]; exact g2 k hk
      · rw [va_up_ne _ _ (by decide), u2n (Or.inl (by decide))]
      · funext k; rw [va_up_ne _ _ (by decide), u2n (Or.inl (by decide))]
      · rw [s1]; exact (r2_a (n := 0) (a := a) (fun k hk => absurd hk (Nat.not_lt_zero _))).2 _ _ (by decide)
      · rw [s1]; funext k; exact (r2_a (n := 0) (a := a) (fun k hk => absurd hk (Nat.not_lt_zero _))).2 _ _ (by decide)
  · obtain ⟨c1, c2⟩ := hc.2.2.2 (by rw [z])
    obtain ⟨r1, r3⟩ := hr.2.2.2 (by rw [z])
    rw [← f1, ← f2] at r1 r3
    cases hp : pvK (srt (ClF iv2 mp T)) (ClF iv2 mp T).length 0 with
    | true =>
      obtain ⟨c3, c4⟩ := c1 hp
      obtain ⟨r4, r5⟩ := r1 hp
      subst c4 r5
      exact ⟨by rw [c3, r4], Or.inl ⟨rfl, rfl, rfl⟩, Or.inl ⟨rfl, rfl, rfl, rfl⟩⟩
    | false =>
      obtain ⟨c3, c4, c5, c6⟩ := c2 hp
      obtain ⟨r4, r5, r6, r7⟩ := r3 hp
      have hl : fmL a n T (looF iv2 mp) = fmL a n T (looR R T) := fm_cg (fun i hi => by rw [← looF_cg hmp hg (by omega), loo_same hM hC hX hn hi]) loo_1
      have hlen : (fmL a n T (looR R T)).length ≤ 400 := fm_len hX hs hn (pv_ckC hp)
      rw [hl] at c3 c4 c5
      refine ⟨by rw [c3, r4], Or.inl ⟨?_, ?_, ?_⟩, Or.inr ⟨_, hlen, c4, r5, fun i hi => ⟨c5 i hi, r6 i hi⟩⟩⟩
      · funext k; exact c6 _ _ (by decide) (Or.inl (by decide))
      · exact c6 _ _ (by decide) (Or.inl (by decide))
      · funext k; exact r7 _ _ (by decide) (Or.inl (by decide))
theorem out_cg {iv1 iv2 : Nat → Nat → Int32} {m9 row q j : Nat} (h : iv1 q j = iv2 q j) (hS : 121 ≤ q → q ≤ 125 → ∀ j, iv1 q j = iv2 q j) : rfOut iv1 m9 row q j = rfOut iv2 m9 row q j := by
  unfold rfOut shf
  by_cases hs : S_rf q = true ∧ row ≤ j ∧ j < m9 - 1
  · rw [if_pos hs, if_pos hs]
    have h1 := hs.1
    unfold S_rf at h1
    rw [Bool.and_eq_true, decide_eq_true_eq, decide_eq_true_eq] at h1
    exact u2_cg (hS h1.1 h1.2 _)
  · rw [if_neg hs, if_neg hs]
    exact u2_cg h
theorem rn_wr {a : Nat → Int32} {E : EL} {y : Int32} {k : Nat} (hy : nmB y = true) (h : wrB (a k) = true) : wrB (rnT a E y k) = true := by
  unfold rnT
  split
  · exact nm_wr hy
  · exact h
theorem rel_ch {iv3 iv4 : Nat → Nat → Int32} {a : Nat → Int32} {n m9 : Nat} {b : Bool} {x y : Int32} (hR : Rel9 c9 iv mp sp) (hm : iv 84 4 = nI m9) (hm12 : m9 ≤ 12) (h0 : 0 < m9) (hc : ChC (inOut iv m9 0) iv3 a n b x y) (hr : ChR (rfOut iv3 m9 0) iv4 a n b x y) : Rel9 c9 iv4 mp sp := by
  have hZ := rel_out hR hm hm12 h0
  obtain ⟨c1, c2, c3, c4⟩ := hc
  obtain ⟨d1, d3, d4⟩ := hr
  have hg : ∀ q j, q ≠ 40 → ¬ (q = 39 ∧ j = 1) → ¬ (q = 0 ∧ j = 9) → q ≠ 106 → ¬ (q = 92 ∧ j = 14) → iv4 q j = rfOut (inOut iv m9 0) m9 0 q j := by
    intro q j e1 e2 e3 e4 e5
    rw [d1 q j e4 (by omega)]
    exact out_cg (c1 q j e1 (by omega) (by omega)) (fun h1 h2 j => c1 q j (by omega) (by omega) (by omega))
  have hcl : ∀ q j, q < 92 → iv4 q j = iv3 q j := fun q j hq => (d1 q j (by omega) (by omega)).trans (rfOut_o (by omega) (by omega))
  obtain ⟨r1, r2, _, r4, r5, r6⟩ := hZ
  have hT : ∀ a2 n2, (TxA iv3 a2 n2 ∧ txC iv3 n2) → TxR iv4 a2 n2 → RlT iv4 mp := fun a2 n2 h1 h2 => ⟨a2, n2, ⟨h1.1.1, (hcl _ _ (by omega)).trans h1.1.2.1, fun k hk => (hcl _ _ (by omega)).trans (h1.1.2.2.1 k hk), h1.1.2.2.2⟩, fun k hk => by rw [hcl _ _ (by omega)]; exact h1.2 k hk, h2, fun z => absurd (((hcl _ _ (by omega)).trans c2).symm.trans z) (by decide)⟩
  refine ⟨rlD_cg r1 (fun q j hq => hg q j (by omega) (by omega) (by omega) (by omega) (by omega)), rlM_cg r2 (fun q j hq => hg q j (by omega) (by omega) (by omega) (by omega) (by omega)), ?_, rlI_cg (Nat.le_refl _) r4 (fun q j hq => hg q j (by omega) (by omega) (by omega) (by omega) (by omega)), rlA_cg (Nat.le_refl _) r5 (fun q j hq => hg q j (by omega) (by omega) (by omega) (by omega) (by omega)), rlF_cg r6 (fun q j hq => hg q j (by omega) (by omega) (by omega) (by omega) (by omega))⟩
  cases b with
  | true =>
    by_cases ho : inOk n x y
    · exact hT _ _ ((c3 rfl).1 ho) ((d3 rfl).1 ho)
    · exact hT _ _ ((c3 rfl).2 ho) ((d3 rfl).2 ho)
  | false =>
    by_cases ho : delOk n x y
    · exact hT _ _ ((c4 rfl).1 ho) ((d4 rfl).1 ho)
    · exact hT _ _ ((c4 rfl).2 ho) ((d4 rfl).2 ho)
end OW
