/-! the law up to its loop: both objects are made -/
theorem g10_n : g_10.1 = 92 := by decide +kernel
set_option maxRecDepth 100000 in
set_option maxHeartbeats 4000000 in
theorem law_head {p : Program} {e : Env} {s : State} {m : MethodId} {args : Array Value} {below : List Frame} {meth : Method} {c : Code} (l : Launch) (G : ex_G) (Q : State → Prop) (nm : String) (b : Nat)
    (k : EX (M_LW nm) l G room_1 Q p e s m args below meth c 129 4847 18 [some (.retAddr b), some (.ref 0), some (.ref 92), some (.int (nI 0))] [] (HP iv_0 (fun q => q + 1) 0 4)) : EX (M_LW nm) l G room_1 Q p e s m args below meth c 0 0 0 [some (.retAddr b), none, none, none] [] h_0 := by
  refine ex_new (pc := 0) 0 d_LW_law_0 CL_TG NL_LW_7 (Nat.le_of_ble_eq_true rfl) (Nat.le_of_ble_eq_true rfl) ?_
  refine ex_dup (pc := 3) d_LW_law_3 rfl ?_
  refine ex_callI (pc := 4) (M' := M_TG_init) (as := []) (st := [.ref 0]) d_LW_law_4 MW_TG_init IN_TG_init rfl rfl LK_LW_9 (ct_TG_init l G) ⟨by decide, by decide⟩ ⟨(Nat.le_of_ble_eq_true rfl), (Nat.le_of_ble_eq_true rfl)⟩ rfl rfl (Nat.le_of_ble_eq_true rfl) ?_
  rintro _ _ ⟨rfl, rfl⟩
  refine ex_astore_n (pc := 7) (i := 1) d_LW_law_7 rfl (show 1 < 4 by decide) ?_
  refine ex_new (pc := 8) 12 d_LW_law_8 CL_RF NL_LW_10 (Nat.le_of_ble_eq_true rfl) (Nat.le_of_ble_eq_true rfl) ?_
  refine ex_dup (pc := 11) d_LW_law_11 rfl ?_
  refine ex_callI (pc := 12) (M' := M_RF_init) (as := []) (st := [.ref g_10.1]) d_LW_law_12 MW_RF_init IN_RF_init rfl rfl LK_LW_12 (ct_RF_init l G (ex_no g_10 12) g_10.1 (at_new (h := g_10))) ⟨by decide, by decide⟩ ⟨(Nat.le_of_ble_eq_true rfl), (Nat.le_of_ble_eq_true rfl)⟩ rfl rfl (Nat.le_of_ble_eq_true rfl) ?_
  rintro _ _ ⟨rfl, rfl⟩
  refine ex_heap (h' := HP iv_0 (fun q => q + 1) 0 4) hF_eq ?_
  rw [g10_n]
  refine ex_astore_n (pc := 15) (i := 2) d_LW_law_15 rfl (show 2 < 4 by decide) ?_
  refine ex_iconst (pc := 16) (v := nI 0) d_LW_law_16 (by decide) ?_
  refine ex_istore_n (pc := 17) (i := 3) d_LW_law_17 rfl (show 3 < 4 by decide) ?_
  exact k
