/-! what both sides say of one text is the same -/
section SM
variable {iv R : Nat → Nat → Int32} {mp : Nat → Nat} {T : TS} {a : Nat → Int32} {n : Nat}
/-- the cells that the class's sayings read -/
def fpC (q : Nat) : Prop := q = 7 ∨ (9 ≤ q ∧ q ≤ 39) ∨ q = 41 ∨ (43 ≤ q ∧ q ≤ 81)
theorem sc_cg (hg : ∀ q j, fpC q → R q j = iv q j) {j nu : Nat} (hj : j < 10) (fr to : Int32) : ∀ k i acc, i + k ≤ 34 → stcF R j nu fr to k i acc = stcF iv j nu fr to k i acc := by
  have e1 : R (10 + 3 * j) = iv (10 + 3 * j) := funext (fun k => hg _ _ (by unfold fpC; omega))
  have e2 : R (11 + 3 * j) = iv (11 + 3 * j) := funext (fun k => hg _ _ (by unfold fpC; omega))
  intro k
  induction k with
  | zero => intros; rfl
  | succ k ih =>
    intro i acc hi
    rw [stcF, stcF, ih _ _ (by omega), hg _ 1 (by unfold fpC; omega), hg _ 3 (by unfold fpC; omega), hg _ 0 (by unfold fpC; omega)]
    unfold stpF folF
    rw [e1, e2]
theorem ofrC_cg (hmp : ∀ k, k < 9 → mp k < 10) (hg : ∀ q j, fpC q → R q j = iv q j) {cn tn : Nat} (hcn : cn ≤ 33) (x : Int32) : ofrC R mp cn tn x = ofrC iv mp cn tn x := by
  have hin : inEl R cn x = inEl iv cn x := by
    unfold inEl
    refine insD_cg cn (fun q h1 h2 => ?_)
    unfold hasIn
    rw [hg _ 8 (by unfold fpC; omega), hg _ 4 (by unfold fpC; omega), hg _ 5 (by unfold fpC; omega)]
  have hle : inEl iv cn x ≤ cn := by
    unfold inEl
    have : ∀ (P : Nat → Bool) c, insD P c ≤ c := by
      intro P c
      induction c with
      | zero => exact Nat.le_refl _
      | succ c ih => rw [insD]; split <;> omega
    exact this _ _
  have hmo : elMo R mp (inEl iv cn x) = elMo iv mp (inEl iv cn x) := by unfold elMo; rw [hg _ 0 (by unfold fpC; omega)]
  have hj : elMo iv mp (inEl iv cn x) < 10 := hmp _ (rowN_lt _)
  have hwt : witP R x = witP iv x := by
    funext i
    unfold witP
    rw [hg _ _ (by unfold fpC; omega), hg _ _ (by unfold fpC; omega)]
  have m1 : ∀ j, j < 10 → R (9 + 3 * j) = iv (9 + 3 * j) := fun j hj => funext (fun k => hg _ _ (by unfold fpC; omega))
  have m2 : ∀ j, j < 10 → R (10 + 3 * j) = iv (10 + 3 * j) := fun j hj => funext (fun k => hg _ _ (by unfold fpC; omega))
  have m3 : ∀ j, j < 10 → R (11 + 3 * j) = iv (11 + 3 * j) := fun j hj => funext (fun k => hg _ _ (by unfold fpC; omega))
  have h7 : R 7 2 = iv 7 2 := hg _ _ (by unfold fpC; omega)
  have o1 : ∀ j nu i, j < 10 → nu ≤ cn → ofr1 R j cn nu x i = ofr1 iv j cn nu x i := by
    intro j nu i hj hnu
    unfold ofr1
    rw [sc_cg hg hj _ _ _ _ _ (by omega), sc_cg hg hj _ _ _ _ _ (by omega)]
    unfold accF sprF stpF folF usbF
    rw [m1 j hj, m2 j hj, m3 j hj, h7]
  have o2 : ∀ j nu, j < 10 → nu ≤ cn → ∀ k i acc, ofrF R j cn nu x k i acc = ofrF iv j cn nu x k i acc := by
    intro j nu hj hnu k
    induction k with
    | zero => intros; rfl
    | succ k ih => intro i acc; rw [ofrF, ofrF, ih, h7, o1 j nu i hj hnu]
  unfold ofrC
  rw [hin, hmo, hwt, hg 39 1 (by unfold fpC; omega), o2 _ _ hj hle]
theorem clF_cg (hmp : ∀ k, k < 9 → mp k < 10) (hg : ∀ q j, fpC q → R q j = iv q j) (hcn : T.cn ≤ 33) : ClF R mp T = ClF iv mp T := by
  have m1 : ∀ j, j < 10 → R (9 + 3 * j) = iv (9 + 3 * j) := fun j hj => funext (fun k => hg _ _ (by unfold fpC; omega))
  unfold ClF
  refine gA_cg _ _ _ (fun i _ hi => ?_)
  have e1 : elMo R mp i = elMo iv mp i := by unfold elMo; rw [hg _ 0 (by unfold fpC; omega)]
  have hm : elMo iv mp i < 10 := hmp _ (rowN_lt _)
  have e2 : prB R mp i = prB iv mp i := by unfold prB; rw [e1, m1 _ hm]
  have e3 : fbB R mp i = fbB iv mp i := by unfold fbB fbF; rw [e1, m1 _ hm]
  have e4 : alwF R mp T.cn i = alwF iv mp T.cn i := by
    unfold alwF accF
    rw [e1, sc_cg hg hm _ _ _ _ _ (by omega), m1 _ hm]
  unfold jq
  rw [e2, e3, e4]
theorem looF_cg (hmp : ∀ k, k < 9 → mp k < 10) (hg : ∀ q j, fpC q → R q j = iv q j) {i : Nat} (hi : i ≤ 33) : looF R mp i = looF iv mp i := by
  have m1 : ∀ j, j < 10 → R (9 + 3 * j) = iv (9 + 3 * j) := fun j hj => funext (fun k => hg _ _ (by unfold fpC; omega))
  have e1 : elMo R mp i = elMo iv mp i := by unfold elMo; rw [hg _ 0 (by unfold fpC; omega)]
  have hm : elMo iv mp i < 10 := hmp _ (rowN_lt _)
  unfold looF fbF
  rw [e1, m1 _ hm, hg _ 7 (by unfold fpC; omega), hg _ 9 (by unfold fpC; omega)]
end SM
section SN
variable {R : Nat → Nat → Int32} {mp mn : Nat → Nat} {pr : Nat → Bool} {T : TS} {a : Nat → Int32} {n : Nat}
theorem rc3_of (hC : ClsT R mp T) : RC3 R T := ⟨hC.2.2.1, fun i hi => (hC.2.2.2.1 i hi).1, fun i _ hi _ => (hC.2.2.2.1 i hi).2⟩
theorem rr3_of (hT : RefT R mn n T) : RR3 R T := ⟨hT.2.1, fun i h0 hi _ => hT.2.2.1 i h0 hi, hT.2.2.2.1⟩
theorem elMo_of (hC : ClsT R mp T) {i : Nat} (hi : i ≤ T.cn) : elMo R mp i = mp (moR T i) := by
  unfold elMo moR
  rw [(hC.2.2.2.1 i hi).1.1]
theorem pr_same (hM : ∀ k, k < 9 → MRel R (mp k) k (mn k) (pr k)) (hC : ClsT R mp T) {i : Nat} (hi : i ≤ T.cn) : prB R mp i = pr (moR T i) ∧ prR R T i = pr (moR T i) := by
  have hm := hM (moR T i) (rowN_lt _)
  unfold prB prR
  rw [elMo_of hC hi, hm.2.2.1, hm.2.2.2.1]
  cases pr (moR T i) <;> exact ⟨rfl, rfl⟩
theorem fb_same (hM : ∀ k, k < 9 → MRel R (mp k) k (mn k) (pr k)) (hC : ClsT R mp T) {i : Nat} (hi : i ≤ T.cn) : fbB R mp i = fbR R T i := by
  have hm := hM (moR T i) (rowN_lt _)
  have hp := pr_same hM hC hi
  have e1 : fbB R mp i = (prB R mp i && decide (R (9 + 3 * elMo R mp i) 1 = 0)) := rfl
  rw [e1]
  unfold fbR
  rw [hp.1, hp.2, elMo_of hC hi]
  cases hv : pr (moR T i) with
  | false => rfl
  | true => rw [((hm.2.2.2.2.2) hv).1]
theorem al_same (hM : ∀ k, k < 9 → MRel R (mp k) k (mn k) (pr k)) (hC : ClsT R mp T) (hT : RefT R mn n T) (hX : tX a T n) (hn : n ≤ 100) {i : Nat} (hi : i ≤ T.cn) (hp : pr (moR T i) = true) : alwF R mp T.cn i = alR R mn T i := by
  have hm := hM (moR T i) (rowN_lt _)
  rw [hp] at hm
  unfold alR
  refine alw_eq (rc3_of hC) (rr3_of hT) hX.1 hn hi ?_
  rw [elMo_of hC hi]
  exact hm
theorem fa_same (hM : ∀ k, k < 9 → MRel R (mp k) k (mn k) (pr k)) (hC : ClsT R mp T) (hT : RefT R mn n T) (hX : tX a T n) (hs : T.stk = []) (hn : n ≤ 100) {Bl : List Nat} (hB : Bl.Perm (T.fl ++ T.br.map (k4 T.e))) : srt (ClF R mp T) = srt (RfF R mn T Bl) ∧ (ClF R mp T).length = (RfF R mn T Bl).length := by
  have h1 := jd_same hX.1 hs hB (fun i => jq (prR R T) (fbR R T) (alR R mn T) T.e i)
  have e1 : ClF R mp T = gA (fun i => jq (prR R T) (fbR R T) (alR R mn T) T.e i ++ j4 T.e i) (T.cn + 1) 0 T.fl := by
    unfold ClF
    refine gA_cg _ _ _ (fun i _ hi => ?_)
    have hi2 : i ≤ T.cn := by omega
    have hp := pr_same hM hC hi2
    have hf := fb_same hM hC hi2
    unfold jq
    rw [hp.1, hp.2, hf]
    cases hv : pr (moR T i) with
    | false => rfl
    | true => rw [al_same hM hC hT hX hn hi2 hv]
  rw [e1]
  exact h1
theorem ofr_same (hM : ∀ k, k < 9 → MRel R (mp k) k (mn k) (pr k)) (h7 : R 7 2 = frtR R mn) (h39 : R 39 1 = nI n) (hC : ClsT R mp T) (hT : RefT R mn n T) (hX : tX a T n) (hs : T.stk = []) (hn : n ≤ 100) (x : Int32) : ((x < 0 ∨ nI n < x) → ofrC R mp T.cn T.tn x = -1) ∧ ∀ q9, q9 ≤ n → x = nI q9 → ofrC R mp T.cn T.tn x = ofrR R mn T n q9 := by
  refine ⟨fun hx => ?_, fun q9 hq he => ?_⟩
  · unfold ofrC
    rw [h39]
    by_cases h0 : x < 0
    · rw [if_pos h0]
    · rw [if_neg h0, if_pos (hx.resolve_left h0)]
  · subst he
    have hC3 := rc3_of hC
    have hR3 := rr3_of hT
    unfold ofrC ofrR
    rw [h39, if_neg (i_ge0 (by omega)), if_neg (fun z => by have := (n_lt (by omega) (by omega)).mp z; omega), wth_eq hC3 hR3 hX.2.1 hn hq, in_eq hC3 hR3 hX.1 hs hn]
    by_cases hw : wthR R n (nI q9) = true
    · rw [if_pos hw, if_pos hw]
    · rw [if_neg hw, if_neg hw]
      have hle : insD (isIn R (nI q9)) T.cn ≤ T.cn := by
        have : ∀ (P : Nat → Bool) c, insD P c ≤ c := by
          intro P c
          induction c with
          | zero => exact Nat.le_refl _
          | succ c ih => rw [insD]; split <;> omega
        exact this _ _
      have hm := hM (moR T (insD (isIn R (nI q9)) T.cn)) (rowN_lt _)
      rw [elMo_of hC hle, hm.2.2.2.1]
      cases hv : pr (moR T (insD (isIn R (nI q9)) T.cn)) with
      | false =>
        rw [hv] at hm
        rw [if_pos (show b2i false = 0 from rfl), ofrF_no hm]
      | true =>
        rw [hv] at hm
        rw [if_neg (by decide), ofrF_eq hC3 hR3 hX.1 hn hle hm (by omega) h7 8 0 _ (by omega)]
theorem loo_same (hM : ∀ k, k < 9 → MRel R (mp k) k (mn k) (pr k)) (hC : ClsT R mp T) (hX : tX a T n) (hn : n ≤ 100) {i : Nat} (hi : i ≤ T.cn) : looF R mp i = looR R T i := by
  have h1 := (hC.2.2.2.1 i hi).1
  have hcn : T.cn ≤ 33 := by have := hX.1.1; omega
  have hch : chC T.e T.cn i ≤ 1000 := by
    have : ∀ c, chC T.e c i ≤ c := by
      intro c
      induction c with
      | zero => exact Nat.le_refl _
      | succ c ih => rw [chC]; split <;> omega
    have := this T.cn
    omega
  have hf : fbF R (elMo R mp i) = fbR R T i := fb_same hM hC hi
  unfold looF looR
  rw [hf, h1.2.2.2.2.2.1, h1.2.2.2.2.2.2]
  have e : decide (¬ nI (chC T.e T.cn i) ≤ 0) = decide (0 < chC T.e T.cn i) := by
    refine decide_eq_decide.mpr ⟨fun z => ?_, fun z w => ?_⟩
    · refine Nat.pos_of_ne_zero (fun q => z ?_)
      rw [q]; decide
    · have := (n_ge (a := chC T.e T.cn i) (b := 0) (by omega) (by omega)).mp w
      omega
  rw [e]
theorem cF_lo {e : Nat → EL} {cn : Nat} {lo lo2 : Nat → Bool} {tx : Nat → Nat → List Int32} (h : ∀ i, i ≤ cn → lo i = lo2 i) : ∀ k i, i ≤ cn → cF e cn lo tx k i = cF e cn lo2 tx k i := by
  intro k
  induction k with
  | zero => intros; rfl
  | succ k ih =>
    intro i hi
    rw [cF, cF, h i hi, cS_cg _ _ (fun y h1 h2 _ => ih y (by omega))]
theorem fm_cg {lo lo2 : Nat → Bool} (h : ∀ i, i ≤ T.cn → lo i = lo2 i) (h1 : lo2 0 = true → 1 ≤ T.cn) : fmL a n T lo = fmL a n T lo2 := by
  unfold fmL
  rw [h 0 (Nat.zero_le _)]
  cases hv : lo2 0 with
  | false => rfl
  | true =>
    have hc := h1 hv
    rw [if_pos rfl, if_pos rfl]
    unfold cSS cFF
    rw [cF_lo h _ 1 hc, cS_cg _ _ (fun y h1 h2 _ => cF_lo h _ y (by omega))]
theorem loo_1 (hl : looR R T 0 = true) : 1 ≤ T.cn := by
  unfold looR at hl
  rw [Bool.and_eq_true, Bool.and_eq_true] at hl
  obtain ⟨k, k1, k2, _⟩ := chC_pos T.cn (of_decide_eq_true hl.2.1)
  omega
theorem fm_len (hX : tX a T n) (hs : T.stk = []) (hn : n ≤ 100) (hck : ∀ i, 0 < i → i ≤ T.cn → ¬ (T.e i).ck = 0) : (fmL a n T (looR R T)).length ≤ 400 := by
  unfold fmL
  cases hv : looR R T 0 with
  | false =>
    rw [if_neg (by decide)]
    unfold txL
    rw [sl_len]
    omega
  | true =>
    rw [if_pos rfl]
    refine form_len (g := a) (fOk_x hX) (fLk_x hX hs hck (fun i hi hl => ?_)) (loo_1 hv) hn
    unfold looR at hl
    rw [Bool.and_eq_true, Bool.and_eq_true] at hl
    exact of_decide_eq_true hl.2.1
end SN
