/-! models on both sides: raw functions of what the arrays hold -/
section EXT
variable {p : Program} {l : Launch} {e : Env} {s : State} {m : MethodId} {args : Array Value} {below : List Frame} {meth : Method} {c : Code} {M : ex_M} {G : ex_G} {R : Room} {Q : State → Prop} {cells slots pc : Nat} {L : List (Option Value)} {st : List Value} {h : ex_H}
theorem ex_alenx {a t : Nat} {ty : FieldType} (n : Nat) (hd : decode M.2.1 pc = .ok (.arraylength, 1)) (ha : a < h.1) (hs : h.2.1 a = .inr t) (ht : exTy[t]? = some ty) (hx : h.2.2.1 a = n) (kk : EX M l G R Q p e s m args below meth c cells slots (pc + 1) L (.int (nI n) :: st) h) : EX M l G R Q p e s m args below meth c cells slots pc L (.ref a :: st) h := by
  subst hx
  exact ex_alen hd ha hs ht kk
end EXT
theorem mo_l1 {iv : Nat → Nat → Int32} {mp : Nat → Nat} {sp mo j : Nat} (h : j < 10) : 10 + 3 * j < (HP iv mp sp mo).1 := by
  show 10 + 3 * j < 129
  omega
theorem mo_l2 {iv : Nat → Nat → Int32} {mp : Nat → Nat} {sp mo j : Nat} (h : j < 10) : 11 + 3 * j < (HP iv mp sp mo).1 := by
  show 11 + 3 * j < 129
  omega
theorem mo_n1 {j k : Nat} (h : j < 10) (hk : k < 11) : k < exLn (10 + 3 * j) := by rw [(mo_sh0 j h).2.2.2.1]; exact hk
theorem mo_n2 {j k : Nat} (h : j < 10) (hk : k < 8) : k < exLn (11 + 3 * j) := by rw [(mo_sh0 j h).2.2.2.2]; exact hk
/-- what F holds at those of the k places from i on whose bits are in x, all together with acc -/
def orF (F : Nat → Int32) (x : Int32) : Nat → Nat → Int32 → Int32
  | 0, _, acc => acc
  | k + 1, i, acc => orF F x k (i + 1) (if x >>> (nI i &&& 31) &&& nI 1 = 0 then acc else acc ||| F i)
def orR (F : Nat → Int32) (x : Int32) : Nat → Nat → Int32 → Int32
  | 0, _, acc => acc
  | k + 1, i, acc => orR F x k (i + 1) (if x >>> (nI i &&& 31) &&& nI 1 = nI 1 then acc ||| F i else acc)
def mskF (N : Nat → Int32) (names : Int32) : Nat → Nat → Int32 → Int32
  | 0, _, acc => acc
  | k + 1, i, acc => mskF N names k (i + 1) (if names >>> ((N i - nI 97) &&& 31) &&& nI 1 = 0 then acc &&& ((nI 1 <<< (nI i &&& 31)) ^^^ (-1)) else acc)
def spr (g : Int32 → Int32) : Nat → Int32 → Int32
  | 0, x => x
  | k + 1, x => if g x = x then x else spr g k (g x)
def itr (g : Int32 → Int32) : Nat → Int32 → Int32
  | 0, x => x
  | k + 1, x => itr g k (g x)
/-- the class's model j -/
def folF (iv : Nat → Nat → Int32) (j : Nat) (x : Int32) : Int32 := orF (iv (10 + 3 * j)) x 11 0 (nI 0)
def stpF (iv : Nat → Nat → Int32) (j : Nat) (x y : Int32) : Int32 := if nmB y = true then folF iv j x &&& iv (11 + 3 * j) (y.toInt - 97).toNat else nI 0
def usbF (iv : Nat → Nat → Int32) (j : Nat) (ns : Int32) : Int32 := orF (iv (11 + 3 * j)) ns 8 0 (nI 0)
def sprF (iv : Nat → Nat → Int32) (j : Nat) (x ns : Int32) : Int32 := spr (fun z => z ||| (folF iv j z &&& usbF iv j ns)) 11 x
def accF (iv : Nat → Nat → Int32) (j : Nat) (x : Int32) : Bool := decide (¬ x &&& iv (9 + 3 * j) 5 = 0)
/-- the reference's model mm -/
def nxtR (iv : Nat → Nat → Int32) (mm n : Nat) (x : Int32) : Int32 := orR (fun k => iv 101 (10 * mm + k)) x n 0 (if x &&& nI 1024 = 0 then nI 0 else iv 96 mm)
def stpR (iv : Nat → Nat → Int32) (mm n : Nat) (x ns : Int32) : Int32 := mskF (fun k => iv 100 (10 * mm + k)) ns n 0 (nxtR iv mm n x)
def stsR (iv : Nat → Nat → Int32) (mm n : Nat) (x ns : Int32) : Int32 := itr (fun z => z ||| stpR iv mm n z ns) 11 x
def accR (iv : Nat → Nat → Int32) (mm : Nat) (x : Int32) : Bool := decide (¬ x &&& iv 97 mm = 0) || (decide (¬ x &&& nI 1024 = 0) && decide (¬ iv 98 mm = 0))
set_option maxRecDepth 100000 in
set_option maxHeartbeats 4000000 in
theorem ct_Mo_start (l : Launch) (G : ex_G) (iv : Nat → Nat → Int32) (mp : Nat → Nat) (sp mo : Nat) (j : Nat) (hj : j < 10) : CT l G 0 M_Mo_start [.ref (9 + 3 * j)] (HP iv mp sp mo) 0 0 (fun r h' => h' = HP iv mp sp mo ∧ r = some (.int (nI 1024))) := by
  refine ex_enter (by decide) (Nat.le_of_ble_eq_true rfl) (fun v hv => by simp at hv; rcases hv with rfl <;> rfl) (fun p e s m args below meth c => ?_)
  refine ex_sipush (pc := 0) (v := (nI 1024)) d_Mo_start_0 (by decide) ?_
  refine ex_iret (ty := .int) d_Mo_start_3 rfl rfl rfl (Nat.le_refl _) ?_
  exact ⟨rfl, rfl⟩

set_option maxRecDepth 100000 in
set_option maxHeartbeats 4000000 in
theorem ct_Mo_accepts (l : Launch) (G : ex_G) (iv : Nat → Nat → Int32) (mp : Nat → Nat) (sp mo : Nat) (j : Nat) (hj : j < 10) (x : Int32) : CT l G 0 M_Mo_accepts [.ref (9 + 3 * j), .int x] (HP iv mp sp mo) 0 0 (fun r h' => h' = HP iv mp sp mo ∧ r = some (.int (b2i (accF iv j x)))) := by
  refine ex_enter (by decide) (Nat.le_of_ble_eq_true rfl) (fun v hv => by simp at hv; rcases hv with rfl | rfl <;> rfl) (fun p e s m args below meth c => ?_)
  refine ex_iload_n (pc := 0) (i := 1) d_Mo_accepts_0 rfl rfl ?_
  refine ex_aload_n (pc := 1) (i := 0) d_Mo_accepts_1 rfl rfl ?_
  refine ex_getx (pc := 2) 7 5 (iv (9 + 3 * j) 5) d_Mo_accepts_2 FL_Mo_29 (mo_lt hj) (mo_sh hj) rfl ?_
  refine ex_iand (pc := 5) d_Mo_accepts_5 ?_
  refine ex_if_eq (pc := 6) (tgt := 13) d_Mo_accepts_6 rfl (fun c6 => ?_) (fun c6 => ?_)
  · refine ex_iconst (pc := 13) (v := (nI 0)) d_Mo_accepts_13 (by decide) ?_
    refine ex_iret (ty := .boolean) d_Mo_accepts_14 rfl rfl rfl (Nat.le_refl _) ?_
    exact ⟨rfl, by rw [accF, decide_eq_false (fun q => q c6)]; rfl⟩
  · refine ex_iconst (pc := 9) (v := (nI 1)) d_Mo_accepts_9 (by decide) ?_
    refine ex_goto (pc := 10) (tgt := 14) d_Mo_accepts_10 rfl ?_
    refine ex_iret (ty := .boolean) d_Mo_accepts_14 rfl rfl rfl (Nat.le_refl _) ?_
    exact ⟨rfl, by rw [accF, decide_eq_true c6]; rfl⟩

set_option maxRecDepth 100000 in
set_option maxHeartbeats 4000000 in
theorem ct_Mo_forbidsCharacters (l : Launch) (G : ex_G) (iv : Nat → Nat → Int32) (mp : Nat → Nat) (sp mo : Nat) (j : Nat) (hj : j < 10) : CT l G 0 M_Mo_forbidsCharacters [.ref (9 + 3 * j)] (HP iv mp sp mo) 0 0 (fun r h' => h' = HP iv mp sp mo ∧ r = some (.int (b2i (decide (¬ iv (9 + 3 * j) 0 = 0) && decide (iv (9 + 3 * j) 1 = 0))))) := by
  refine ex_enter (by decide) (Nat.le_of_ble_eq_true rfl) (fun v hv => by simp at hv; rcases hv with rfl <;> rfl) (fun p e s m args below meth c => ?_)
  refine ex_aload_n (pc := 0) (i := 0) d_Mo_forbidsCharacters_0 rfl rfl ?_
  refine ex_getx (pc := 1) 7 0 (iv (9 + 3 * j) 0) d_Mo_forbidsCharacters_1 FL_Mo_18 (mo_lt hj) (mo_sh hj) rfl ?_
  refine ex_if_eq (pc := 4) (tgt := 18) d_Mo_forbidsCharacters_4 rfl (fun c4 => ?_) (fun c4 => ?_)
  · refine ex_iconst (pc := 18) (v := (nI 0)) d_Mo_forbidsCharacters_18 (by decide) ?_
    refine ex_iret (ty := .boolean) d_Mo_forbidsCharacters_19 rfl rfl rfl (Nat.le_refl _) ?_
    exact ⟨rfl, by rw [decide_eq_false (fun q => q c4)]; rfl⟩
  · refine ex_aload_n (pc := 7) (i := 0) d_Mo_forbidsCharacters_7 rfl rfl ?_
    refine ex_getx (pc := 8) 7 1 (iv (9 + 3 * j) 1) d_Mo_forbidsCharacters_8 FL_Mo_22 (mo_lt hj) (mo_sh hj) rfl ?_
    refine ex_if_ne (pc := 11) (tgt := 18) d_Mo_forbidsCharacters_11 rfl (fun c11 => ?_) (fun c11 => ?_)
    · refine ex_iconst (pc := 18) (v := (nI 0)) d_Mo_forbidsCharacters_18 (by decide) ?_
      refine ex_iret (ty := .boolean) d_Mo_forbidsCharacters_19 rfl rfl rfl (Nat.le_refl _) ?_
      exact ⟨rfl, by rw [decide_eq_false c11, Bool.and_false]; rfl⟩
    · refine ex_iconst (pc := 14) (v := (nI 1)) d_Mo_forbidsCharacters_14 (by decide) ?_
      refine ex_goto (pc := 15) (tgt := 19) d_Mo_forbidsCharacters_15 rfl ?_
      refine ex_iret (ty := .boolean) d_Mo_forbidsCharacters_19 rfl rfl rfl (Nat.le_refl _) ?_
      exact ⟨rfl, by rw [decide_eq_true c4, decide_eq_true c11]; rfl⟩

set_option maxRecDepth 100000 in
set_option maxHeartbeats 4000000 in
theorem lp_Mo_followersOf {p : Program} {e : Env} {s : State} {m : MethodId} {args : Array Value} {below : List Frame} {meth : Method} {c : Code} (l : Launch) (G : ex_G) (iv : Nat → Nat → Int32) (mp : Nat → Nat) (sp mo : Nat) (j : Nat) (hj : j < 10) (x v : Int32) : ∀ (k i : Nat) (acc : Int32), i + k = 11 → orF (iv (10 + 3 * j)) x k i acc = v → EXM M_Mo_followersOf l G 0 (fun r h' => h' = HP iv mp sp mo ∧ r = some (.int v)) p e s m args below meth c 4 [some (.ref (9 + 3 * j)), some (.int x), some (.int acc), some (.int (nI i))] [] (HP iv mp sp mo) := by
  intro k
  induction k with
  | zero =>
    intro i acc hik hv
    subst hv
    refine ex_iload_n (pc := 4) (i := 3) d_Mo_followersOf_4 rfl rfl ?_
    refine ex_aload_n (pc := 5) (i := 0) d_Mo_followersOf_5 rfl rfl ?_
    refine ex_getr (pc := 6) 7 3 d_Mo_followersOf_6 FL_Mo_9 (mo_lt hj) (mo_sh hj) (mo_rf hj).1 ?_
    refine ex_alenx (pc := 9) 11 d_Mo_followersOf_9 (mo_l1 hj) (mo_sh0 j hj).2.1 rfl (mo_sh0 j hj).2.2.2.1 ?_
    refine ex_icmp_ge (pc := 10) (tgt := 36) d_Mo_followersOf_10 rfl (fun c10 => ?_) (fun c10 => ?_)
    · refine ex_iload_n (pc := 36) (i := 2) d_Mo_followersOf_36 rfl rfl ?_
      refine ex_iret (ty := .int) d_Mo_followersOf_37 rfl rfl rfl (Nat.le_refl _) ?_
      exact ⟨rfl, rfl⟩
    · exact absurd ((n_ge (by omega) (by omega)).mpr (by omega)) c10
  | succ k ih =>
    intro i acc hik hv
    rw [orF] at hv
    refine ex_iload_n (pc := 4) (i := 3) d_Mo_followersOf_4 rfl rfl ?_
    refine ex_aload_n (pc := 5) (i := 0) d_Mo_followersOf_5 rfl rfl ?_
    refine ex_getr (pc := 6) 7 3 d_Mo_followersOf_6 FL_Mo_9 (mo_lt hj) (mo_sh hj) (mo_rf hj).1 ?_
    refine ex_alenx (pc := 9) 11 d_Mo_followersOf_9 (mo_l1 hj) (mo_sh0 j hj).2.1 rfl (mo_sh0 j hj).2.2.2.1 ?_
    refine ex_icmp_ge (pc := 10) (tgt := 36) d_Mo_followersOf_10 rfl (fun c10 => ?_) (fun c10 => ?_)
    · exact absurd ((n_ge (by omega) (by omega)).mp c10) (by omega)
    · refine ex_iload_n (pc := 13) (i := 1) d_Mo_followersOf_13 rfl rfl ?_
      refine ex_iload_n (pc := 14) (i := 3) d_Mo_followersOf_14 rfl rfl ?_
      refine ex_ishr (pc := 15) d_Mo_followersOf_15 ?_
      refine ex_iconst (pc := 16) (v := (nI 1)) d_Mo_followersOf_16 (by decide) ?_
      refine ex_iand (pc := 17) d_Mo_followersOf_17 ?_
      refine ex_if_eq (pc := 18) (tgt := 30) d_Mo_followersOf_18 rfl (fun c18 => ?_) (fun c18 => ?_)
      · refine ex_iinc (pc := 30) (v := (nI (i + 1))) d_Mo_followersOf_30 rfl (nI_1 i) (by decide) ?_
        refine ex_goto (pc := 33) (tgt := 4) d_Mo_followersOf_33 rfl ?_
        first | exact ih (i + 1) _ (by omega) (by rw [if_pos c18] at hv; exact hv) | exact ih (i + 1) _ (by omega) (by rw [if_neg c18] at hv; exact hv)
      · refine ex_iload_n (pc := 21) (i := 2) d_Mo_followersOf_21 rfl rfl ?_
        refine ex_aload_n (pc := 22) (i := 0) d_Mo_followersOf_22 rfl rfl ?_
        refine ex_getr (pc := 23) 7 3 d_Mo_followersOf_23 FL_Mo_9 (mo_lt hj) (mo_sh hj) (mo_rf hj).1 ?_
        refine ex_iload_n (pc := 26) (i := 3) d_Mo_followersOf_26 rfl rfl ?_
        refine ex_ialdx (pc := 27) i (iv (10 + 3 * j) i) d_Mo_followersOf_27 (mo_l1 hj) (mo_sh0 j hj).2.1 rfl rfl (nI_t (by omega)) (mo_n1 hj (by omega)) rfl ?_
        refine ex_ior (pc := 28) d_Mo_followersOf_28 ?_
        refine ex_istore_n (pc := 29) (i := 2) d_Mo_followersOf_29 rfl (by decide) ?_
        refine ex_iinc (pc := 30) (v := (nI (i + 1))) d_Mo_followersOf_30 rfl (nI_1 i) (by decide) ?_
        refine ex_goto (pc := 33) (tgt := 4) d_Mo_followersOf_33 rfl ?_
        first | exact ih (i + 1) _ (by omega) (by rw [if_pos c18] at hv; exact hv) | exact ih (i + 1) _ (by omega) (by rw [if_neg c18] at hv; exact hv)

set_option maxRecDepth 100000 in
set_option maxHeartbeats 4000000 in
theorem ct_Mo_followersOf (l : Launch) (G : ex_G) (iv : Nat → Nat → Int32) (mp : Nat → Nat) (sp mo : Nat) (j : Nat) (hj : j < 10) (x : Int32) : CT l G 0 M_Mo_followersOf [.ref (9 + 3 * j), .int x] (HP iv mp sp mo) 0 0 (fun r h' => h' = HP iv mp sp mo ∧ r = some (.int (folF iv j x))) := by
  refine ex_enter (by decide) (Nat.le_of_ble_eq_true rfl) (fun v hv => by simp at hv; rcases hv with rfl | rfl <;> rfl) (fun p e s m args below meth c => ?_)
  refine ex_iconst (pc := 0) (v := (nI 0)) d_Mo_followersOf_0 (by decide) ?_
  refine ex_istore_n (pc := 1) (i := 2) d_Mo_followersOf_1 rfl (by decide) ?_
  refine ex_iconst (pc := 2) (v := (nI 0)) d_Mo_followersOf_2 (by decide) ?_
  refine ex_istore_n (pc := 3) (i := 3) d_Mo_followersOf_3 rfl (by decide) ?_
  exact lp_Mo_followersOf l G iv mp sp mo j hj x _ 11 0 (nI 0) (by omega) rfl

theorem nm_q {y : Int32} (h : nmB y = true) : ∃ q, q < 8 ∧ y = nI (97 + q) := by
  simp only [nmB, Bool.and_eq_true, decide_eq_true_eq] at h
  refine ⟨(y.toInt - 97).toNat, by omega, ?_⟩
  have e := i_of y (by omega)
  rw [e]
  congr 1
  rw [← e]
  omega
theorem nm_v {q : Nat} (h : q < 8) : nmB (nI (97 + q)) = true ∧ ((nI (97 + q)).toInt - 97).toNat = q ∧ nI (97 + q) - nI 97 = nI q := by
  have e : (nI (97 + q)).toInt = ((97 + q : Nat) : Int) := nI_t (by omega)
  refine ⟨?_, by omega, ?_⟩
  · simp only [nmB, Bool.and_eq_true, decide_eq_true_eq]
    omega
  · rw [pk_sub (by omega)]
    congr 1
    omega
set_option maxRecDepth 100000 in
set_option maxHeartbeats 4000000 in
theorem ct_Mo_step (l : Launch) (G : ex_G) (iv : Nat → Nat → Int32) (mp : Nat → Nat) (sp mo : Nat) (j : Nat) (hj : j < 10) (x y : Int32) : CT l G 1 M_Mo_step [.ref (9 + 3 * j), .int x, .int y] (HP iv mp sp mo) 0 0 (fun r h' => h' = HP iv mp sp mo ∧ r = some (.int (stpF iv j x y))) := by
  refine ex_enter (by decide) (Nat.le_of_ble_eq_true rfl) (fun v hv => by simp at hv; rcases hv with rfl | rfl | rfl <;> rfl) (fun p e s m args below meth c => ?_)
  refine ex_iload_n (pc := 0) (i := 2) d_Mo_step_0 rfl rfl ?_
  refine ex_callS (pc := 1) (M' := M_TG_isName) (as := [.int y]) (st := []) d_Mo_step_1 MW_TG_isName ST_TG_isName LK_Mo_32 (ct_TG_isName l G (HP iv mp sp mo) y) (ex_lt_rm (by decide)) ⟨Nat.le_refl _, Nat.le_refl _⟩ rfl rfl (Nat.le_of_ble_eq_true rfl) ?_
  rintro _ _ ⟨rfl, rfl⟩
  refine ex_if_eq (pc := 4) (tgt := 25) d_Mo_step_4 rfl (fun c4 => ?_) (fun c4 => ?_)
  · refine ex_iconst (pc := 25) (v := (nI 0)) d_Mo_step_25 (by decide) ?_
    refine ex_iret (ty := .int) d_Mo_step_26 rfl rfl rfl (Nat.le_refl _) ?_
    exact ⟨rfl, by rw [stpF, b2i_0 c4]; rfl⟩
  · obtain ⟨q, hq, rfl⟩ := nm_q (b2i_1 c4)
    obtain ⟨hq1, hq2, hq3⟩ := nm_v hq
    refine ex_aload_n (pc := 7) (i := 0) d_Mo_step_7 rfl rfl ?_
    refine ex_iload_n (pc := 8) (i := 1) d_Mo_step_8 rfl rfl ?_
    refine ex_callV (pc := 9) (M' := M_Mo_followersOf) (as := [.int x]) (st := []) d_Mo_step_9 MW_Mo_followersOf MI_Mo_followersOf LK_Mo_40 (mo_lt hj) (mo_sh hj) rfl rfl (ct_Mo_followersOf l G iv mp sp mo j hj x) (ex_lt_rm (by decide)) ⟨Nat.le_refl _, Nat.le_refl _⟩ rfl rfl (Nat.le_of_ble_eq_true rfl) ?_
    rintro _ _ ⟨rfl, rfl⟩
    refine ex_aload_n (pc := 12) (i := 0) d_Mo_step_12 rfl rfl ?_
    refine ex_getr (pc := 13) 7 4 d_Mo_step_13 FL_Mo_15 (mo_lt hj) (mo_sh hj) (mo_rf hj).2 ?_
    refine ex_iload_n (pc := 16) (i := 2) d_Mo_step_16 rfl rfl ?_
    refine ex_bipush (pc := 17) (v := (nI 97)) d_Mo_step_17 (by decide) ?_
    refine ex_isub (pc := 19) d_Mo_step_19 ?_
    refine ex_ialdx (pc := 20) q (iv (11 + 3 * j) q) d_Mo_step_20 (mo_l2 hj) (mo_sh0 j hj).2.2.1 rfl rfl (by rw [hq3]; exact nI_t (by omega)) (mo_n2 hj hq) rfl ?_
    refine ex_iand (pc := 21) d_Mo_step_21 ?_
    refine ex_goto (pc := 22) (tgt := 26) d_Mo_step_22 rfl ?_
    refine ex_iret (ty := .int) d_Mo_step_26 rfl rfl rfl (Nat.le_refl _) ?_
    exact ⟨rfl, by rw [stpF, if_pos hq1, hq2]⟩

set_option maxRecDepth 100000 in
set_option maxHeartbeats 4000000 in
theorem lq_Mo_spread {p : Program} {e : Env} {s : State} {m : MethodId} {args : Array Value} {below : List Frame} {meth : Method} {c : Code} (l : Launch) (G : ex_G) (iv : Nat → Nat → Int32) (mp : Nat → Nat) (sp mo : Nat) (j : Nat) (hj : j < 10) (x ns u v : Int32) : ∀ (k : Nat) (i : Nat) (z : Int32), i + k = 11 → spr (fun z => z ||| (folF iv j z &&& u)) k z = v → EXM M_Mo_spread l G 1 (fun r h' => h' = HP iv mp sp mo ∧ r = some (.int v)) p e s m args below meth c 43 [some (.ref (9 + 3 * j)), some (.int x), some (.int ns), some (.int u), some (.int z), some (.int (nI i)), none] [] (HP iv mp sp mo) := by
  intro k
  induction k with
  | zero =>
    intro i z hik hv
    subst hv
    refine ex_iload (pc := 43) d_Mo_spread_43 rfl ?_
    refine ex_bipush (pc := 45) (v := (nI 10)) d_Mo_spread_45 (by decide) ?_
    refine ex_icmp_gt (pc := 47) (tgt := 83) d_Mo_spread_47 rfl (fun c47 => ?_) (fun c47 => ?_)
    · refine ex_iload (pc := 83) d_Mo_spread_83 rfl ?_
      refine ex_iret (ty := .int) d_Mo_spread_85 rfl rfl rfl (Nat.le_refl _) ?_
      exact ⟨rfl, rfl⟩
    · exact absurd ((n_lt (by omega) (by omega)).mpr (by omega)) c47
  | succ k ih =>
    intro i z hik hv
    rw [spr] at hv
    refine ex_iload (pc := 43) d_Mo_spread_43 rfl ?_
    refine ex_bipush (pc := 45) (v := (nI 10)) d_Mo_spread_45 (by decide) ?_
    refine ex_icmp_gt (pc := 47) (tgt := 83) d_Mo_spread_47 rfl (fun c47 => ?_) (fun c47 => ?_)
    · exact absurd ((n_lt (by omega) (by omega)).mp c47) (by omega)
    · refine ex_iload (pc := 50) d_Mo_spread_50 rfl ?_
      refine ex_aload_n (pc := 52) (i := 0) d_Mo_spread_52 rfl rfl ?_
      refine ex_iload (pc := 53) d_Mo_spread_53 rfl ?_
      refine ex_callV (pc := 55) (M' := M_Mo_followersOf) (as := [.int z]) (st := [.int z]) d_Mo_spread_55 MW_Mo_followersOf MI_Mo_followersOf LK_Mo_40 (mo_lt hj) (mo_sh hj) rfl rfl (ct_Mo_followersOf l G iv mp sp mo j hj z) (ex_lt_rm (by decide)) ⟨Nat.le_refl _, Nat.le_refl _⟩ rfl rfl (Nat.le_of_ble_eq_true rfl) ?_
      rintro _ _ ⟨rfl, rfl⟩
      refine ex_iload_n (pc := 58) (i := 3) d_Mo_spread_58 rfl rfl ?_
      refine ex_iand (pc := 59) d_Mo_spread_59 ?_
      refine ex_ior (pc := 60) d_Mo_spread_60 ?_
      refine ex_istore (pc := 61) d_Mo_spread_61 (by decide) ?_
      refine ex_iload (pc := 63) d_Mo_spread_63 rfl ?_
      refine ex_iload (pc := 65) d_Mo_spread_65 rfl ?_
      refine ex_icmp_ne (pc := 67) (tgt := 73) d_Mo_spread_67 rfl (fun c67 => ?_) (fun c67 => ?_)
      · refine ex_iload (pc := 73) d_Mo_spread_73 rfl ?_
        refine ex_istore (pc := 75) d_Mo_spread_75 (by decide) ?_
        refine ex_iinc (pc := 77) (v := (nI (i + 1))) d_Mo_spread_77 rfl (nI_1 i) (by decide) ?_
        refine ex_goto (pc := 80) (tgt := 43) d_Mo_spread_80 rfl ?_
        rw [if_neg c67] at hv
        refine ex_drop 6 ?_
        exact ih (i + 1) _ (by omega) hv
      · refine ex_goto (pc := 70) (tgt := 83) d_Mo_spread_70 rfl ?_
        refine ex_iload (pc := 83) d_Mo_spread_83 rfl ?_
        refine ex_iret (ty := .int) d_Mo_spread_85 rfl rfl rfl (Nat.le_refl _) ?_
        rw [if_pos c67] at hv
        exact ⟨rfl, by rw [← hv]⟩

set_option maxRecDepth 100000 in
set_option maxHeartbeats 4000000 in
theorem lp_Mo_spread {p : Program} {e : Env} {s : State} {m : MethodId} {args : Array Value} {below : List Frame} {meth : Method} {c : Code} (l : Launch) (G : ex_G) (iv : Nat → Nat → Int32) (mp : Nat → Nat) (sp mo : Nat) (j : Nat) (hj : j < 10) (x ns v : Int32) : ∀ (k i : Nat) (acc : Int32), i + k = 8 → spr (fun z => z ||| (folF iv j z &&& orF (iv (11 + 3 * j)) ns k i acc)) 11 x = v → EXM M_Mo_spread l G 1 (fun r h' => h' = HP iv mp sp mo ∧ r = some (.int v)) p e s m args below meth c 5 [some (.ref (9 + 3 * j)), some (.int x), some (.int ns), some (.int acc), some (.int (nI i)), none, none] [] (HP iv mp sp mo) := by
  intro k
  induction k with
  | zero =>
    intro i acc hik hv
    refine ex_iload (pc := 5) d_Mo_spread_5 rfl ?_
    refine ex_bipush (pc := 7) (v := (nI 8)) d_Mo_spread_7 (by decide) ?_
    refine ex_icmp_ge (pc := 9) (tgt := 37) d_Mo_spread_9 rfl (fun c9 => ?_) (fun c9 => ?_)
    · refine ex_iload_n (pc := 37) (i := 1) d_Mo_spread_37 rfl rfl ?_
      refine ex_istore (pc := 38) d_Mo_spread_38 (by decide) ?_
      refine ex_iconst (pc := 40) (v := (nI 0)) d_Mo_spread_40 (by decide) ?_
      refine ex_istore (pc := 41) d_Mo_spread_41 (by decide) ?_
      exact lq_Mo_spread l G iv mp sp mo j hj x ns acc v 11 0 x (by omega) hv
    · exact absurd ((n_ge (by omega) (by omega)).mpr (by omega)) c9
  | succ k ih =>
    intro i acc hik hv
    rw [orF] at hv
    refine ex_iload (pc := 5) d_Mo_spread_5 rfl ?_
    refine ex_bipush (pc := 7) (v := (nI 8)) d_Mo_spread_7 (by decide) ?_
    refine ex_icmp_ge (pc := 9) (tgt := 37) d_Mo_spread_9 rfl (fun c9 => ?_) (fun c9 => ?_)
    · exact absurd ((n_ge (by omega) (by omega)).mp c9) (by omega)
    · refine ex_iload_n (pc := 12) (i := 2) d_Mo_spread_12 rfl rfl ?_
      refine ex_iload (pc := 13) d_Mo_spread_13 rfl ?_
      refine ex_ishr (pc := 15) d_Mo_spread_15 ?_
      refine ex_iconst (pc := 16) (v := (nI 1)) d_Mo_spread_16 (by decide) ?_
      refine ex_iand (pc := 17) d_Mo_spread_17 ?_
      refine ex_if_eq (pc := 18) (tgt := 31) d_Mo_spread_18 rfl (fun c18 => ?_) (fun c18 => ?_)
      · refine ex_iinc (pc := 31) (v := (nI (i + 1))) d_Mo_spread_31 rfl (nI_1 i) (by decide) ?_
        refine ex_goto (pc := 34) (tgt := 5) d_Mo_spread_34 rfl ?_
        first | exact ih (i + 1) _ (by omega) (by rw [if_pos c18] at hv; exact hv) | exact ih (i + 1) _ (by omega) (by rw [if_neg c18] at hv; exact hv)
      · refine ex_iload_n (pc := 21) (i := 3) d_Mo_spread_21 rfl rfl ?_
        refine ex_aload_n (pc := 22) (i := 0) d_Mo_spread_22 rfl rfl ?_
        refine ex_getr (pc := 23) 7 4 d_Mo_spread_23 FL_Mo_15 (mo_lt hj) (mo_sh hj) (mo_rf hj).2 ?_
        refine ex_iload (pc := 26) d_Mo_spread_26 rfl ?_
        refine ex_ialdx (pc := 28) i (iv (11 + 3 * j) i) d_Mo_spread_28 (mo_l2 hj) (mo_sh0 j hj).2.2.1 rfl rfl (nI_t (by omega)) (mo_n2 hj (by omega)) rfl ?_
        refine ex_ior (pc := 29) d_Mo_spread_29 ?_
        refine ex_istore_n (pc := 30) (i := 3) d_Mo_spread_30 rfl (by decide) ?_
        refine ex_iinc (pc := 31) (v := (nI (i + 1))) d_Mo_spread_31 rfl (nI_1 i) (by decide) ?_
        refine ex_goto (pc := 34) (tgt := 5) d_Mo_spread_34 rfl ?_
        first | exact ih (i + 1) _ (by omega) (by rw [if_pos c18] at hv; exact hv) | exact ih (i + 1) _ (by omega) (by rw [if_neg c18] at hv; exact hv)

set_option maxRecDepth 100000 in
set_option maxHeartbeats 4000000 in
theorem ct_Mo_spread (l : Launch) (G : ex_G) (iv : Nat → Nat → Int32) (mp : Nat → Nat) (sp mo : Nat) (j : Nat) (hj : j < 10) (x ns : Int32) : CT l G 1 M_Mo_spread [.ref (9 + 3 * j), .int x, .int ns] (HP iv mp sp mo) 0 0 (fun r h' => h' = HP iv mp sp mo ∧ r = some (.int (sprF iv j x ns))) := by
  refine ex_enter (by decide) (Nat.le_of_ble_eq_true rfl) (fun v hv => by simp at hv; rcases hv with rfl | rfl | rfl <;> rfl) (fun p e s m args below meth c => ?_)
  refine ex_iconst (pc := 0) (v := (nI 0)) d_Mo_spread_0 (by decide) ?_
  refine ex_istore_n (pc := 1) (i := 3) d_Mo_spread_1 rfl (by decide) ?_
  refine ex_iconst (pc := 2) (v := (nI 0)) d_Mo_spread_2 (by decide) ?_
  refine ex_istore (pc := 3) d_Mo_spread_3 (by decide) ?_
  exact lp_Mo_spread l G iv mp sp mo j hj x ns _ 8 0 (nI 0) (by omega) rfl

