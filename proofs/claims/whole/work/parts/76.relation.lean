/-! the relation of both sides -/
theorem cls_fr3 {iv iv1 : Nat → Nat → Int32} {mp : Nat → Nat} {T : TS} (hmp : ∀ k, k < 9 → mp k < 10) (hcn : T.cn ≤ 33) (hg : ∀ q j, ((9 ≤ q ∧ q ≤ 38) ∨ q = 41 ∨ (43 ≤ q ∧ q ≤ 81)) → iv1 q j = iv q j) (h : ClsT iv mp T) : ClsT iv1 mp T := by
  obtain ⟨h1, h2, h3, h4, h5⟩ := h
  have mo3 : ∀ j, j < 10 → iv1 (9 + 3 * j) = iv (9 + 3 * j) ∧ iv1 (10 + 3 * j) = iv (10 + 3 * j) ∧ iv1 (11 + 3 * j) = iv (11 + 3 * j) := fun j hj => ⟨funext (fun k => hg _ _ (by omega)), funext (fun k => hg _ _ (by omega)), funext (fun k => hg _ _ (by omega))⟩
  have sc : ∀ (j nu : Nat) (_ : j < 10) (fr to : Int32) k i acc, i + k ≤ 34 → stcF iv1 j nu fr to k i acc = stcF iv j nu fr to k i acc := by
    intro j nu hj fr to k
    induction k with
    | zero => intros; rfl
    | succ k ih =>
      intro i acc hi
      rw [stcF, stcF, ih _ _ (by omega), hg _ 1 (by omega), hg _ 3 (by omega), hg _ 0 (by omega)]
      unfold stpF folF
      rw [(mo3 j hj).2.1, (mo3 j hj).2.2]
  have e1 : gA (fun i => jq (prB iv1 mp) (fbB iv1 mp) (alwF iv1 mp T.cn) T.e i ++ j4 T.e i) (T.cn + 1) 0 T.fl = gA (fun i => jq (prB iv mp) (fbB iv mp) (alwF iv mp T.cn) T.e i ++ j4 T.e i) (T.cn + 1) 0 T.fl := by
    refine gA_cg _ _ _ (fun i _ hi => ?_)
    have m1 : elMo iv1 mp i = elMo iv mp i := by unfold elMo; rw [hg _ 0 (by omega)]
    have hm : elMo iv mp i < 10 := hmp _ (rowN_lt _)
    have m2 : prB iv1 mp i = prB iv mp i := by unfold prB; rw [m1, (mo3 _ hm).1]
    have m3 : fbB iv1 mp i = fbB iv mp i := by unfold fbB fbF; rw [m1, (mo3 _ hm).1]
    have m4 : alwF iv1 mp T.cn i = alwF iv mp T.cn i := by
      unfold alwF accF
      rw [m1, sc _ _ hm _ _ _ _ _ (by omega), (mo3 _ hm).1]
    unfold jq
    rw [m2, m3, m4]
  refine ⟨(hg _ _ (by omega)).trans h1, (hg _ _ (by omega)).trans h2, fun t ht => ?_, fun i hi => ⟨?_, ?_⟩, ?_⟩
  · have := h3 t ht
    unfold tgR at this ⊢
    rw [hg _ _ (by omega), hg _ _ (by omega), hg _ _ (by omega)]
    exact this
  · have := (h4 i hi).1
    unfold elR at this ⊢
    rw [hg _ 0 (by omega), hg _ 1 (by omega), hg _ 2 (by omega), hg _ 3 (by omega), hg _ 4 (by omega), hg _ 7 (by omega), hg _ 9 (by omega)]
    exact this
  · have := (h4 i hi).2
    unfold elD at this ⊢
    rw [hg _ 5 (by omega), hg _ 6 (by omega), hg _ 8 (by omega)]
    exact this
  · rw [e1]
    exact faC_cg h5 (hg _ _ (by omega)) (fun i => hg _ _ (by omega))
theorem frt_cg {iv iv1 : Nat → Nat → Int32} {mn : Nat → Nat} (hg : ∀ q, 94 ≤ q → q ≤ 101 → iv1 q = iv q) : frtR iv1 mn = frtR iv mn := by
  have e1 : ∀ i ns, frt1 iv1 mn i ns = frt1 iv mn i ns := by
    intro i ns
    unfold frt1 accR stsR stpR nxtR
    rw [hg 94 (by omega) (by omega), hg 97 (by omega) (by omega), hg 98 (by omega) (by omega), hg 100 (by omega) (by omega), hg 101 (by omega) (by omega), hg 96 (by omega) (by omega)]
  have e2 : ∀ k i ns, frtM iv1 mn k i ns = frtM iv mn k i ns := by
    intro k
    induction k with
    | zero => intros; rfl
    | succ k ih => intro i ns; rw [frtM, frtM, e1, ih]
  unfold frtR
  exact itr_cg (fun x => e2 _ _ _) _ _
theorem mr_cg {iv iv1 : Nat → Nat → Int32} {j mm n : Nat} {pr : Bool} (hc : ∀ q, q = 9 + 3 * j ∨ q = 10 + 3 * j ∨ q = 11 + 3 * j ∨ (94 ≤ q ∧ q ≤ 101) → iv1 q = iv q) (h : MRel iv j mm n pr) : MRel iv1 j mm n pr := by
  unfold MRel at h ⊢
  rw [hc 94 (by omega), hc 95 (by omega), hc 96 (by omega), hc 97 (by omega), hc 98 (by omega), hc 99 (by omega), hc 100 (by omega), hc 101 (by omega), hc (9 + 3 * j) (by omega), hc (10 + 3 * j) (by omega), hc (11 + 3 * j) (by omega)]
  exact h
def RlD (iv : Nat → Nat → Int32) : Prop := ∃ n f, DrI iv n f ∧ DrR iv n f
def RlM (iv : Nat → Nat → Int32) (mp : Nat → Nat) (sp : Nat) : Prop := (∀ k, k < 9 → mp k < 10) ∧ sp < 10 ∧ (∀ k, k < 9 → mp k ≠ sp) ∧ (∀ k j, k < 9 → j < 9 → mp k = mp j → k = j) ∧ (∃ sk, iv 3 5 = b2i sk) ∧ ∃ (mn : Nat → Nat) (pr : Nat → Bool), (∀ k, k < 9 → MRel iv (mp k) k (mn k) (pr k)) ∧ iv 7 2 = frtR iv mn
def RlT (iv : Nat → Nat → Int32) (mp : Nat → Nat) : Prop := ∃ a n, TxA iv a n ∧ txC iv n ∧ TxR iv a n ∧ (iv 0 9 = 0 → ClsT iv mp (tAll a n))
/-- one row of the inbox -/
def rowR (iv : Nat → Nat → Int32) (j : Nat) : Prop := iv 122 j = iv 87 j ∧ iv 123 j = iv 88 j ∧ iv 124 j = iv 86 j ∧ ((iv 86 j = nI 0 ∧ ((iv 85 j = nI 4 ∧ iv 121 j = nI 0) ∨ (iv 85 j = nI 5 ∧ iv 121 j = nI 1))) ∨ ∃ w t, w ≤ 3 ∧ 1 ≤ t ∧ t ≤ 9999 ∧ iv 85 j = nI w ∧ iv 125 j = nI w ∧ iv 121 j = nI 2 ∧ iv 86 j = nI t)
def RlI (c9 : Nat) (iv : Nat → Nat → Int32) : Prop := ∃ m9 q9, m9 ≤ 12 ∧ q9 ≤ c9 ∧ iv 84 4 = nI m9 ∧ iv 92 32 = nI m9 ∧ iv 84 5 = nI q9 ∧ iv 92 38 = nI q9 ∧ ∀ j, j < m9 → rowR iv j
def RlA (c9 : Nat) (iv : Nat → Nat → Int32) : Prop := ∃ t9, t9 ≤ c9 ∧ iv 89 2 = nI (t9 % 8) ∧ iv 92 39 = nI t9 ∧ (∀ i, i < 8 → i < t9 → iv 126 i = iv 90 i ∧ iv 127 i = iv 91 i ∧ ∃ u, 1 ≤ u ∧ u ≤ 9999 ∧ iv 90 i = nI u) ∧ ∀ i, i < 8 → t9 ≤ i → iv 90 i = nI 0
def RlF (iv : Nat → Nat → Int32) : Prop := ∃ n, n ≤ 694 ∧ iv 82 4 = nI n ∧ iv 92 42 = nI n ∧ ∀ i, i < n → iv 83 i = iv 128 i
def Rel9 (c9 : Nat) (iv : Nat → Nat → Int32) (mp : Nat → Nat) (sp : Nat) : Prop := RlD iv ∧ RlM iv mp sp ∧ RlT iv mp ∧ RlI c9 iv ∧ RlA c9 iv ∧ RlF iv
section RL
variable {iv iv1 : Nat → Nat → Int32} {mp : Nat → Nat} {sp c9 c8 : Nat}
theorem rlD_cg (h : RlD iv) (hg : ∀ q j, (q = 1 ∨ q = 2 ∨ q = 93 ∨ (q = 92 ∧ j = 0)) → iv1 q j = iv q j) : RlD iv1 := by
  obtain ⟨n, f, ⟨a1, a2, a3⟩, ⟨b1, b2, b3⟩⟩ := h
  exact ⟨n, f, ⟨a1, (hg _ _ (by omega)).trans a2, fun k hk => (hg _ _ (by omega)).trans (a3 k hk)⟩, ⟨b1, (hg _ _ (by omega)).trans b2, fun k hk => (hg _ _ (by omega)).trans (b3 k hk)⟩⟩
theorem rlM_cg (h : RlM iv mp sp) (hg : ∀ q j, (q = 3 ∨ q = 7 ∨ (9 ≤ q ∧ q ≤ 38) ∨ (94 ≤ q ∧ q ≤ 101)) → iv1 q j = iv q j) : RlM iv1 mp sp := by
  obtain ⟨h1, h2, h3, h4, ⟨sk, h5⟩, mn, pr, h6, h7⟩ := h
  refine ⟨h1, h2, h3, h4, ⟨sk, (hg _ _ (by omega)).trans h5⟩, mn, pr, fun k hk => mr_cg (fun q hq => funext (fun j => hg q j ?_)) (h6 k hk), ?_⟩
  · have := h1 k hk; omega
  · rw [hg _ _ (by omega), h7]
    exact (frt_cg (fun q h1 h2 => funext (fun j => hg q j (by omega)))).symm
theorem rlT_cg (hmp : ∀ k, k < 9 → mp k < 10) (h : RlT iv mp) (hg : ∀ q j, ((q = 0 ∧ j = 9) ∨ (9 ≤ q ∧ q ≤ 41) ∨ (43 ≤ q ∧ q ≤ 81) ∨ (q = 92 ∧ j = 14) ∨ q = 106) → iv1 q j = iv q j) : RlT iv1 mp := by
  obtain ⟨a, n, ⟨a1, a2, a3, a4⟩, h2, ⟨b1, b2, b3, b4⟩, h4⟩ := h
  refine ⟨a, n, ⟨a1, (hg _ _ (by omega)).trans a2, fun k hk => (hg _ _ (by omega)).trans (a3 k hk), a4⟩, fun k hk => ?_, ⟨b1, (hg _ _ (by omega)).trans b2, fun k hk => (hg _ _ (by omega)).trans (b3 k hk), b4⟩, fun z => ?_⟩
  · rw [hg _ _ (by omega)]; exact h2 k hk
  · exact cls_fr3 hmp (by have := (tX_all a1 a4).1.1.1; omega) (fun q j hq => hg q j (by omega)) (h4 ((hg _ _ (by omega)).symm.trans z))
theorem row_cg {j i : Nat} (h : rowR iv i) (hg : ∀ q, ((85 ≤ q ∧ q ≤ 88) ∨ (121 ≤ q ∧ q ≤ 125)) → iv1 q j = iv q i) : rowR iv1 j := by
  unfold rowR at h ⊢
  rw [hg 85 (by omega), hg 86 (by omega), hg 87 (by omega), hg 88 (by omega), hg 121 (by omega), hg 122 (by omega), hg 123 (by omega), hg 124 (by omega), hg 125 (by omega)]
  exact h
theorem rlI_cg (hc : c9 ≤ c8) (h : RlI c9 iv) (hg : ∀ q j, ((84 ≤ q ∧ q ≤ 88) ∨ (121 ≤ q ∧ q ≤ 125) ∨ (q = 92 ∧ (j = 32 ∨ j = 38))) → iv1 q j = iv q j) : RlI c8 iv1 := by
  obtain ⟨m9, q9, h1, h2, h3, h4, h5, h6, h7⟩ := h
  exact ⟨m9, q9, h1, by omega, (hg _ _ (by omega)).trans h3, (hg _ _ (by omega)).trans h4, (hg _ _ (by omega)).trans h5, (hg _ _ (by omega)).trans h6, fun j hj => row_cg (h7 j hj) (fun q hq => hg q j (by omega))⟩
theorem rlA_cg (hc : c9 ≤ c8) (h : RlA c9 iv) (hg : ∀ q j, ((89 ≤ q ∧ q ≤ 91) ∨ q = 126 ∨ q = 127 ∨ (q = 92 ∧ j = 39)) → iv1 q j = iv q j) : RlA c8 iv1 := by
  obtain ⟨t9, h1, h2, h3, h4, h5⟩ := h
  refine ⟨t9, by omega, (hg _ _ (by omega)).trans h2, (hg _ _ (by omega)).trans h3, fun i h1 h2 => ?_, fun i h1 h2 => (hg _ _ (by omega)).trans (h5 i h1 h2)⟩
  rw [hg 126 i (by omega), hg 127 i (by omega), hg 90 i (by omega), hg 91 i (by omega)]
  exact h4 i h1 h2
theorem rlF_cg (h : RlF iv) (hg : ∀ q j, (q = 82 ∨ q = 83 ∨ q = 128 ∨ (q = 92 ∧ j = 42)) → iv1 q j = iv q j) : RlF iv1 := by
  obtain ⟨n, h1, h2, h3, h4⟩ := h
  refine ⟨n, h1, (hg _ _ (by omega)).trans h2, (hg _ _ (by omega)).trans h3, fun i hi => ?_⟩
  rw [hg 83 i (by omega), hg 128 i (by omega)]
  exact h4 i hi
end RL
theorem rel_up {c9 : Nat} {iv : Nat → Nat → Int32} {mp : Nat → Nat} {sp : Nat} (h : Rel9 c9 iv mp sp) : Rel9 (c9 + 1) iv mp sp := ⟨h.1, h.2.1, h.2.2.1, rlI_cg (Nat.le_succ _) h.2.2.2.1 (fun _ _ _ => rfl), rlA_cg (Nat.le_succ _) h.2.2.2.2.1 (fun _ _ _ => rfl), h.2.2.2.2.2⟩
/-- one call of both sides -/
def PR (l : Launch) (G : ex_G) (d d2 : Nat) (M M2 : ex_M) (as : List Value) (c9 : Nat) (iv : Nat → Nat → Int32) (mp : Nat → Nat) (sp mo : Nat) : Prop :=
  CT l G d M (.ref 0 :: as) (HP iv mp sp mo) 0 0 (fun r h' => ∃ iv1 mp1 sp1 mo1 v, h' = HP iv1 mp1 sp1 mo1 ∧ r = some (.int v) ∧ CT l G d2 M2 (.ref 92 :: as) (HP iv1 mp1 sp1 mo1) 0 0 (fun r h' => ∃ iv2, h' = HP iv2 mp1 sp1 mo1 ∧ r = some (.int v) ∧ Rel9 (c9 + 1) iv2 mp1 sp1))
theorem rel_0 : Rel9 0 iv_0 (fun q => q + 1) 0 := by
  have z : ∀ a k, 0 < a → iv_0 a k = 0 := fun a k h => iv_0n h
  have n0 : (0 : Int32) = nI 0 := rfl
  refine ⟨⟨0, fun _ => 0, ⟨by omega, z _ _ (by omega), fun k hk => absurd hk (Nat.not_lt_zero _)⟩, ⟨by omega, z _ _ (by omega), fun k hk => absurd hk (Nat.not_lt_zero _)⟩⟩, ⟨fun k hk => by show k + 1 < 10; omega, by omega, fun k hk => by show k + 1 ≠ 0; omega, fun k j _ _ e => by have : k + 1 = j + 1 := e; omega, ⟨false, z _ _ (by omega)⟩, fun _ => 0, fun _ => false, fun k hk => ?_, ?_⟩, ⟨fun _ => -1, 0, ⟨by omega, z _ _ (by omega), fun k hk => absurd hk (Nat.not_lt_zero _), fun _ _ => rfl⟩, fun k hk => absurd hk (Nat.not_lt_zero _), ⟨by omega, z _ _ (by omega), fun k hk => absurd hk (Nat.not_lt_zero _), fun _ _ => rfl⟩, fun q => absurd q (by decide)⟩, ⟨0, 0, by omega, by omega, z _ _ (by omega), z _ _ (by omega), z _ _ (by omega), z _ _ (by omega), fun j hj => absurd hj (Nat.not_lt_zero _)⟩, ⟨0, by omega, z _ _ (by omega), z _ _ (by omega), fun i _ h => absurd h (Nat.not_lt_zero _), fun i _ _ => z _ _ (by omega)⟩, ⟨0, by omega, z _ _ (by omega), z _ _ (by omega), fun i hi => absurd hi (Nat.not_lt_zero _)⟩⟩
  · exact ⟨by show 0 ≤ 10; omega, z _ _ (by omega), z _ _ (by omega), z _ _ (by omega), fun _ => z _ _ (by omega), fun q => (by cases q)⟩
  · rw [z 7 2 (by omega)]
    have e1 : ∀ i ns, frt1 iv_0 (fun _ => 0) i ns = ns := fun i ns => if_pos (z _ _ (by omega))
    have e2 : ∀ k i ns, frtM iv_0 (fun _ => 0) k i ns = ns := by
      intro k
      induction k with
      | zero => intros; rfl
      | succ k ih => intro i ns; rw [frtM, e1, ih]
    unfold frtR
    rw [itr_cg (g' := fun x => x) (fun x => e2 _ _ _)]
    rfl
