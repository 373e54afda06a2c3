/-! THE CLAIM OUT OF ONE WALK OF THE LAW'S BODY. Your part is whole_start (and what it stands on); all else here is the same for every law, but numbers. -/
def R_law : String := "TagGuideLaw"
def lw_P (b : Addr) (xs : List Int32) (args : Array Value) (s : State) : Prop := args = #[.ref b] ∧ s.IntsAt b xs ∧ xs.length ≤ 2048 ∧ (Jvm.Cond.and given_1 narrow_1).before args s = true
def lw_Q (_ : Array Value) (s : State) (o : Outcome) (t : State) : Prop := o = .returned (some (.int 1)) ∧ Framed s o t [] 600000 7302250
def lw_Z (below : List Frame) (a : Array Value) (s : State) : State → Prop := fun t => ∃ o, t.status = .running ∧ Ended t below o ∧ lw_Q a s o t
/-- the law's own end, with 1 on the stack, nothing written that was there before, its room as the claim has it -/
theorem lw_ret {p : Program} {l : Launch} {e : Env} {s : State} {m : MethodId} {below : List Frame} {meth : Method} {c : Code} {b : Nat} (hx : p.tables.exec = Jvm.exec) (hb : c.code = code) (hr : meth.sig.returnType = ret) (hlocks : meth.locks = false) {pc : Nat} {H : Heap} {ls : Array Slot} (hdg : decode code pc = .ok (.ireturn, 1)) : W p l e room_1 s m #[Value.ref b] below meth c H [] 600000 7302250 (lw_Z below #[Value.ref b] s) (F0 m pc ls [.int 1]) := by
  intro T hT X
  obtain ⟨fs, hret, hrun, hended, hW, hframe⟩ := X.leave (v := some (.int 1)) (hlocks := hlocks) (fun h => by rw [hr] at h; cases h)
  have hmeth' : T.vm.method? m = some meth := X.method'
  refine ⟨T.setFrames fs, ?_, .returned (some (.int 1)), hrun, hended, rfl, ⟨_, rfl⟩, hW, hframe⟩
  jvm_step X.here [X.here.top, hx, hb, hdg, hmeth', hr, ret, narrow_b1]
  (try refine ⟨rfl, ?_⟩); (try refine ⟨rfl, ?_⟩)
  first | (intro acts; rw [hret _ acts rfl rfl rfl]) | rw [hret _ _ rfl rfl rfl]
  exact Steps.refl _
/-- what holds at the law's entry: the machine, the code, the tables' words (any of lw_tbl by 'hts w (by decide +kernel)'), the script of L ints xs at the cell b, what the Statement gives of the start (any of its parts by flat_of_before) -/
def lw_At (p : Program) (s : State) (m : MethodId) (meth : Method) (c : Code) (b L : Nat) (xs : Nat → Int32) : Prop :=
  p.tables.exec = Jvm.exec ∧ c.code = code ∧ meth.sig.returnType = ret ∧ c.maxLocals = 4 ∧ s.vm.findClass R_law = some m.cls ∧ (∀ w ∈ lw_tbl, w.before #[Value.ref b] s = true) ∧ va_X b L xs s s.heap ∧ b < s.heap.size ∧ meth.locks = false ∧ (Jvm.Cond.and given_1 narrow_1).before #[Value.ref b] s = true
/-! the start: what is known of the tables, the empty heap, the script -/
def M_LW (nm : String) : ex_M := (⟨"TagGuideLaw", nm, "([I)Z"⟩, code, 4, some .boolean)
theorem ex_K0 {s : State} {args : Array Value} (hts : ∀ w ∈ lw_tbl, w.before args s = true) (base : Nat) : ∃ (D : va_G) (tc : Nat → ClassId), ex_K (base, D, tc) s := by
  have hT : ∀ w ∈ exTW, w.before args s = true := fun w h => hts w (List.mem_filter.mp h).1
  have hcl : ∀ (ci : Nat) (C : String) (N : Nat), ex_CL ci C N → ∃ (cC : ClassId) (iS : Nat → Nat), ∀ q, exCl[ci]? = some q → u_Kn s q.1 q.2.1 q.2.2 cC iS := by
    intro ci C N h
    obtain ⟨T, ty, h1, -, h3, -, -, h6, -⟩ := h
    obtain ⟨cC, iS, hk⟩ := u_known hT h3 (hT _ h6)
    refine ⟨cC, iS, fun q hq => ?_⟩
    have e := Option.some.inj (h1.symm.trans hq)
    rw [← e]
    exact hk
  have hall : ∀ ci : Nat, ∃ (cC : ClassId) (iS : Nat → Nat), ∀ q : vw_C, exCl[ci]? = some q → u_Kn s q.1 q.2.1 q.2.2 cC iS := by
    intro ci
    match ci with
    | 0 => exact hcl 0 _ _ CL_TG
    | 1 => exact hcl 1 _ _ CL_An
    | 2 => exact hcl 2 _ _ CL_Dr
    | 3 => exact hcl 3 _ _ CL_El
    | 4 => exact hcl 4 _ _ CL_Fa
    | 5 => exact hcl 5 _ _ CL_Fo
    | 6 => exact hcl 6 _ _ CL_In
    | 7 => exact hcl 7 _ _ CL_Mo
    | 8 => exact hcl 8 _ _ CL_Mr
    | 9 => exact hcl 9 _ _ CL_Ms
    | 10 => exact hcl 10 _ _ CL_Tx
    | 11 => exact hcl 11 _ _ CL_Tr
    | 12 => exact hcl 12 _ _ CL_RF
    | n + 13 => exact ⟨0, fun _ => 0, fun q hq => absurd (List.getElem?_eq_some_iff.mp hq).1 (by show ¬ n + 13 < 13; omega)⟩
  have hp : ∀ ty, Cond.arrayClass ty ∈ exTW → ∃ cA, ArrOfT s cA ty ∧ s.vm.findClass ("[" ++ ty.toString) = some cA := by
    intro ty h
    obtain ⟨c, k, comp, h1, h2, h3⟩ := Cond.arrayClass_spec (hT _ h)
    exact ⟨c, fun n z => ⟨fun k h => (by cases h), k, h2, comp, h3⟩, h1⟩
  have ho : ∀ n, Cond.arrayOver (.object n) ∈ lw_tbl → ∃ cA, ArrOfT s cA (.object n) ∧ va_RA s cA (.object n) := by
    intro n h
    obtain ⟨comp, c, k, h1, -, h3, h4, h5⟩ := Cond.arrayOver_spec (hts _ h)
    exact ⟨c, fun n z => ⟨fun k h => (by cases h), k, h3, comp, h4⟩, k, comp, h3, h4, h1, h5⟩
  obtain ⟨cI, hI1, hI2⟩ := hp _ AR_int
  obtain ⟨cC, hC1, hC2⟩ := hp _ AR_char
  obtain ⟨cZ, hZ1, hZ2⟩ := hp _ AR_boolean
  obtain ⟨cM, hM1, hM2⟩ := ho _ AO_Mo
  obtain ⟨cE, hE1, hE2⟩ := ho _ AO_El
  refine ⟨(fun c => Classical.choose (hall c), fun c => Classical.choose (Classical.choose_spec (hall c))), fun t => match t with | 0 => cI | 1 => cC | 2 => cZ | 3 => cM | _ => cE, ⟨fun c q hq => Classical.choose_spec (Classical.choose_spec (hall c)) q hq, fun k q hk => ?_⟩, fun w hw => va_Nw.of (ex_nest_on (exNW_nest w hw)) (hts w (List.mem_filter.mp hw).1), fun C hC => ?_⟩
  · have hlt : k < 5 := by
      have h1 := (List.getElem?_eq_some_iff.mp hk).1
      simpa [ex_ty, exTy] using h1
    match k with
    | 0 => cases hk; exact ⟨hI1, hI2⟩
    | 1 => cases hk; exact ⟨hC1, hC2⟩
    | 2 => cases hk; exact ⟨hZ1, hZ2⟩
    | 3 => cases hk; exact ⟨hM1, hM2⟩
    | 4 => cases hk; exact ⟨hE1, hE2⟩
    | n + 5 => omega
  · simp only [exAO, List.mem_cons, List.not_mem_nil, or_false] at hC
    rcases hC with rfl | rfl
    · exact va_AO.of (hts _ AO_Mo)
    · exact va_AO.of (hts _ AO_El)
def h_0 : ex_H := (0, fun _ => .inl 0, fun _ => 0, fun _ _ => 0, fun _ _ => none)
section EXL
variable {p : Program} {l : Launch} {e : Env} {s : State} {m : MethodId} {args : Array Value} {below : List Frame} {meth : Method} {c : Code} {M : ex_M} {G : ex_G} {R : Room} {Q : State → Prop} {cells slots pc : Nat} {L : List (Option Value)} {st : List Value} {h : ex_H}
theorem ex_aloadX {k : Fin 4} {i q : Nat} (hd : decode M.2.1 pc = .ok (.aload_n k, 1)) (hi : (k : Nat) = i) (hL : L[i]? = some (some (.retAddr q))) (kk : EX M l G R Q p e s m args below meth c cells slots (pc + 1) L (.retAddr q :: st) h) : EX M l G R Q p e s m args below meth c cells slots pc L st h :=
  fun hg H ls locs hl hP hn hS => lv_aload_n hg.1 hg.2.1 hd hi (hl.2.2 i _ hL).2 (kk hg H ls locs hl hP hn hS)
theorem ex_slen {b N : Nat} {xs : Nat → Int32} (hX : va_X b N xs s s.heap) (hbl : b < s.heap.size) (hG : s.heap.size ≤ G.1) (hd : decode M.2.1 pc = .ok (.arraylength, 1)) (kk : EX M l G R Q p e s m args below meth c cells slots (pc + 1) L (.int (nI N) :: st) h) : EX M l G R Q p e s m args below meth c cells slots pc L (.retAddr b :: st) h :=
  fun hg H ls locs hl hP hn hS => va_slen hg.1 hg.2.1 hX hbl (fun q => absurd (Nat.le_trans hG q) (Nat.not_le.mpr hbl)) hS hd (kk hg H ls locs hl hP hn hS)
theorem ex_sld {b N : Nat} {xs : Nat → Int32} {i : Int32} (n : Nat) (hX : va_X b N xs s s.heap) (hbl : b < s.heap.size) (hG : s.heap.size ≤ G.1) (hi : i.toInt = (n : Int)) (hN : n < N) (hd : decode M.2.1 pc = .ok (.iaload, 1)) (kk : EX M l G R Q p e s m args below meth c cells slots (pc + 1) L (.int (xs n) :: st) h) : EX M l G R Q p e s m args below meth c cells slots pc L (.int i :: .retAddr b :: st) h := by
  intro hg H ls locs hl hP hn hS
  obtain ⟨h1, h2⟩ := ex_in hi hN
  refine va_sld hg.1 hg.2.1 hX hbl (fun q => absurd (Nat.le_trans hG q) (Nat.not_le.mpr hbl)) hS h1 hd ?_
  rw [h2]
  exact kk hg H ls locs hl hP hn hS
end EXL
theorem ex_lwret {p : Program} {l : Launch} {e : Env} {s : State} {m : MethodId} {below : List Frame} {meth : Method} {c : Code} {G : ex_G} {nm : String} {b cells slots pc : Nat} {L : List (Option Value)} {h : ex_H} (hd : decode code pc = .ok (.ireturn, 1)) (hG : s.heap.size ≤ G.1) (hc : cells ≤ 600000) (hs : slots ≤ 7302250) : EX (M_LW nm) l G room_1 (lw_Z below #[Value.ref b] s) p e s m #[Value.ref b] below meth c cells slots pc L [.int (nI 1)] h := by
  intro hg H ls locs hl hP hn hS
  refine va_forget (fun q hq => Nat.le_trans hG (hS.2.2 q hq)) ?_
  refine W.widen hc hs ?_
  exact lw_ret hg.1 hg.2.1 hg.2.2.2.2.2.2.2.1 hg.2.2.2.2.2.1 hd
/-- from the law's first instruction, with nothing made yet, to the claim's start -/
theorem ws_of {p : Program} {e : Env} {s : State} {m : MethodId} {below : List Frame} {meth : Method} {c : Code} (l : Launch) {b N : Nat} {xs : Nat → Int32} (C0 : lw_At p s m meth c b N xs)
    (k : ∀ (D : va_G) (tc : Nat → ClassId), EX (M_LW meth.name) l (s.heap.size, D, tc) room_1 (lw_Z below #[Value.ref b] s) p e s m #[Value.ref b] below meth c 0 0 0 [some (.retAddr b), none, none, none] [] h_0) : W p l e room_1 s m #[Value.ref b] below meth c s.heap [] 0 0 (lw_Z below #[Value.ref b] s) (entryFrame m ([Value.ref b] : List Value).toArray 4) := by
  obtain ⟨h1, h2, h3, h4, h5, h6, h7, h8, h9, h10⟩ := C0
  obtain ⟨D, tc, hK⟩ := ex_K0 h6 s.heap.size
  rw [lg_entry_eq]
  have hl := lv_entry ([.ref b]) (n := 4) (Nat.le_of_ble_eq_true rfl)
  refine k D tc ⟨h1, h2, h4, h5, fun w hw => h6 w (List.mem_filter.mp hw).1, h9, rfl, h3, hK, Nat.le_refl _⟩ s.heap _ [] ⟨hl.1, hl.2.1, fun i v hi => ?_⟩ (fun k q hk => ?_) (Nat.add_zero _) va_S.rf
  · match i with
    | 0 =>
      cases hi
      exact ⟨rfl, hl.2.2 (0, .ref b) List.mem_cons_self⟩
    | 1 => cases hi
    | 2 => cases hi
    | 3 => cases hi
    | n + 4 => cases hi
  · have h11 := (ex_w_of hk).1
    exact absurd h11 (Nat.not_lt_zero k)
