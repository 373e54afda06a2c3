/-! element and fault -/
section OT
variable {l : Launch} {G : ex_G} {iv : Nat → Nat → Int32} {mp : Nat → Nat} {sp mo c9 : Nat}
/-- both sides read the text anew: the relation stays -/
theorem rel_an {iv3 : Nat → Nat → Int32} {a : Nat → Int32} {n : Nat} (hR : Rel9 c9 iv mp sp) (hA : TxA iv a n) (hTC : txC iv n) (hA2 : TxR iv a n) (hg : ∀ q j, ¬ (q = 0 ∧ j = 9) → ¬ (q = 41 ∨ (43 ≤ q ∧ q ≤ 81)) → ¬ (107 ≤ q ∧ q ≤ 120) → ¬ (q = 92 ∧ (j = 16 ∨ j = 29)) → iv3 q j = iv q j) (hC : ClsT iv3 mp (tAll a n)) : Rel9 c9 iv3 mp sp := by
  obtain ⟨r1, r2, _, r4, r5, r6⟩ := hR
  refine ⟨rlD_cg r1 (fun q j hq => hg q j (by omega) (by omega) (by omega) (by omega)), rlM_cg r2 (fun q j hq => hg q j (by omega) (by omega) (by omega) (by omega)), ⟨a, n, ⟨hA.1, (hg _ _ (by omega) (by omega) (by omega) (by omega)).trans hA.2.1, fun k hk => (hg _ _ (by omega) (by omega) (by omega) (by omega)).trans (hA.2.2.1 k hk), hA.2.2.2⟩, fun k hk => ?_, ⟨hA2.1, (hg _ _ (by omega) (by omega) (by omega) (by omega)).trans hA2.2.1, fun k hk => (hg _ _ (by omega) (by omega) (by omega) (by omega)).trans (hA2.2.2.1 k hk), hA2.2.2.2⟩, fun _ => hC⟩, rlI_cg (Nat.le_refl _) r4 (fun q j hq => hg q j (by omega) (by omega) (by omega) (by omega)), rlA_cg (Nat.le_refl _) r5 (fun q j hq => hg q j (by omega) (by omega) (by omega) (by omega)), rlF_cg r6 (fun q j hq => hg q j (by omega) (by omega) (by omega) (by omega))⟩
  rw [hg _ _ (by omega) (by omega) (by omega) (by omega)]
  exact hTC k hk
theorem op_element (hR : Rel9 c9 iv mp sp) (x y : Int32) : PR l G 6 4 M_TG_element M_RF_element [.int x, .int y] c9 iv mp sp mo := by
  obtain ⟨a, n, hA, hTC, hA2, hst⟩ := hR.2.2.1
  obtain ⟨hmp, _, _, _, _, mn, pr, h6, h7⟩ := hR.2.1
  have hcn : (tAll a n).cn ≤ 33 := by have := (tX_all hA.1 hA.2.2.2).1.1.1; have := hA.1; omega
  refine ct_post (ct_TG_element l G iv mp sp mo hmp a n hA hst x y) (fun r h' hp => ?_)
  obtain ⟨iv2, p1, p2, hC2, hF2, h09⟩ := hp
  have hf : ∀ q j, ¬ (q = 0 ∧ j = 9) → ¬ (q = 41 ∨ (43 ≤ q ∧ q ≤ 81)) → iv2 q j = iv q j := fun q j h1 h2 => hF2 q j (by omega) (by omega)
  refine ⟨iv2, mp, sp, mo, _, p1, p2, ?_⟩
  refine ct_post (ct_RF_element l G iv2 mp sp mo a n ⟨hA2.1, (hf _ _ (by omega) (by omega)).trans hA2.2.1, fun k hk => (hf _ _ (by omega) (by omega)).trans (hA2.2.2.1 k hk), hA2.2.2.2⟩ mn (fun k hk => ⟨(hf _ _ (by omega) (by omega)).trans (h6 k hk).2.1, (h6 k hk).1⟩) x y) (fun r h' hp => ?_)
  obtain ⟨iv3, p1, p2, hT3, hF3⟩ := hp
  refine ⟨iv3, p1, p2, rel_up (rel_an hR hA hTC hA2 (fun q j e1 e2 e3 e4 => (hF3 q j e3 (by omega)).trans (hf q j e1 e2)) ?_)⟩
  exact cls_fr3 hmp hcn (fun q j hq => hF3 q j (by omega) (by omega)) hC2
theorem op_fault (hR : Rel9 c9 iv mp sp) (x y : Int32) : PR l G 6 4 M_TG_fault M_RF_fault [.int x, .int y] c9 iv mp sp mo := by
  obtain ⟨a, n, hA, hTC, hA2, hst⟩ := hR.2.2.1
  obtain ⟨hmp, _, _, _, _, mn, pr, h6, h7⟩ := hR.2.1
  have hTX := tX_all hA.1 hA.2.2.2
  have hn := hA.1
  have hcn : (tAll a n).cn ≤ 33 := by have := hTX.1.1.1; omega
  refine ct_post (ct_TG_fault l G iv mp sp mo hmp a n hA hst x y) (fun r h' hp => ?_)
  obtain ⟨iv2, p1, p2, hC2, hF2, h09⟩ := hp
  have hf : ∀ q j, ¬ (q = 0 ∧ j = 9) → ¬ (q = 41 ∨ (43 ≤ q ∧ q ≤ 81)) → iv2 q j = iv q j := fun q j h1 h2 => hF2 q j (by omega) (by omega)
  refine ⟨iv2, mp, sp, mo, _, p1, p2, ?_⟩
  refine ct_post (ct_RF_fault l G iv2 mp sp mo a n ⟨hA2.1, (hf _ _ (by omega) (by omega)).trans hA2.2.1, fun k hk => (hf _ _ (by omega) (by omega)).trans (hA2.2.2.1 k hk), hA2.2.2.2⟩ mn (fun k hk => ⟨(hf _ _ (by omega) (by omega)).trans (h6 k hk).2.1, (h6 k hk).1⟩) x y) (fun r h' hp => ?_)
  obtain ⟨iv3, Bl, p1, p2, hT3, hF3, hB, hFa⟩ := hp
  have hg3 : ∀ q j, ¬ (q = 0 ∧ j = 9) → ¬ (q = 41 ∨ (43 ≤ q ∧ q ≤ 81)) → ¬ (107 ≤ q ∧ q ≤ 120) → ¬ (q = 92 ∧ (j = 16 ∨ j = 29)) → iv3 q j = iv q j := fun q j e1 e2 e3 e4 => (hF3 q j e3 (by omega)).trans (hf q j e1 e2)
  have hC3 : ClsT iv3 mp (tAll a n) := cls_fr3 hmp hcn (fun q j hq => hF3 q j (by omega) (by omega)) hC2
  have hM3 : ∀ k, k < 9 → MRel iv3 (mp k) k (mn k) (pr k) := fun k hk => mr_cg (fun q hq => funext (fun j => by have := hmp k hk; exact hg3 q j (by omega) (by omega) (by omega) (by omega))) (h6 k hk)
  obtain ⟨s1, s2⟩ := fa_same hM3 hC3 hT3 hTX.1 hTX.2 hn hB
  have s3 : ClF iv3 mp (tAll a n) = ClF iv2 mp (tAll a n) := clF_cg hmp (fun q j hq => by unfold fpC at hq; exact hF3 q j (by omega) (by omega)) hcn
  refine ⟨iv3, p1, ?_, rel_up (rel_an hR hA hTC hA2 hg3 hC3)⟩
  rw [p2, ← s1, ← s2, s3]
end OT
