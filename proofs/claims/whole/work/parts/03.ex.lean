/-! One judgement for a frame: EX. A pure heap is (n, sh, ln, iv, rv): n cells, each an object of class number ci (.inl ci) or an array of kind t (.inr t) of length ln; its numbers iv, its references rv (by the cells' numbers). The cells lie at G.1, G.1 + 1, ..: nothing else is made. -/
abbrev ex_H : Type := Nat × (Nat → Nat ⊕ Nat) × (Nat → Nat) × (Nat → Nat → Int32) × (Nat → Nat → Option Nat)
abbrev ex_G : Type := Nat × va_G × (Nat → ClassId)
abbrev ex_M : Type := MethodName × ByteArray × Nat × Option FieldType
def ex_u2 {α : Type} (F : Nat → Nat → α) (a k : Nat) (v : α) : Nat → Nat → α := fun i j => if i = a ∧ j = k then v else F i j
theorem ex_u2_row {α : Type} (F : Nat → Nat → α) (a k : Nat) (v : α) : ex_u2 F a k v a = va_up (F a) k v := by
  funext j
  simp [ex_u2, va_up]
theorem ex_u2_ne {α : Type} (F : Nat → Nat → α) {a i : Nat} (k : Nat) (v : α) (h : i ≠ a) : ex_u2 F a k v i = F i := by
  funext j
  simp [ex_u2, h]
def ex_si (h : ex_H) (a k : Nat) (x : Int32) : ex_H := (h.1, h.2.1, h.2.2.1, ex_u2 h.2.2.2.1 a k x, h.2.2.2.2)
def ex_sr (h : ex_H) (a k : Nat) (x : Option Nat) : ex_H := (h.1, h.2.1, h.2.2.1, h.2.2.2.1, ex_u2 h.2.2.2.2 a k x)
def ex_sa (h : ex_H) (a : Nat) (f : Nat → Int32) : ex_H := (h.1, h.2.1, h.2.2.1, va_up h.2.2.2.1 a f, h.2.2.2.2)
def ex_no (h : ex_H) (ci : Nat) : ex_H := (h.1 + 1, va_up h.2.1 h.1 (.inl ci), h.2.2.1, va_up h.2.2.2.1 h.1 (fun _ => 0), va_up h.2.2.2.2 h.1 (fun _ => none))
def ex_na (h : ex_H) (t n : Nat) : ex_H := (h.1 + 1, va_up h.2.1 h.1 (.inr t), va_up h.2.2.1 h.1 n, va_up h.2.2.2.1 h.1 (fun _ => 0), va_up h.2.2.2.2 h.1 (fun _ => none))
/-- a value of the pure heap in the machine: a cell's number becomes its address; .retAddr stands for a reference to a cell outside (the law's script) -/
def ex_v (b : Nat) (v : Value) : Value := match v with
  | .ref i => .ref (b + i)
  | .retAddr q => .ref q
  | w => w
theorem ex_v_cat (b : Nat) (v : Value) : (ex_v b v).category = v.category := by cases v <;> rfl
def ex_fs (b : Nat) (ks : List Bool) (I : Nat → Int32) (R : Nat → Option Nat) : List Value := (List.range ks.length).map fun k => if ks.getD k false = true then va_rf ((R k).map (b + ·)) else .int (I k)
theorem ex_fs_at {b : Nat} {ks : List Bool} {I : Nat → Int32} {R : Nat → Option Nat} {k : Nat} (hk : k < ks.length) : (ex_fs b ks I R)[k]? = some (if ks.getD k false = true then va_rf ((R k).map (b + ·)) else .int (I k)) := by
  rw [ex_fs, List.getElem?_map, List.getElem?_range hk]
  rfl
theorem ex_fs_len {b : Nat} {ks : List Bool} {I : Nat → Int32} {R : Nat → Option Nat} : (ex_fs b ks I R).length = ks.length := by simp [ex_fs]
theorem ex_fs_set {b : Nat} {ks : List Bool} {I I' : Nat → Int32} {R R' : Nat → Option Nat} {k : Nat} {v : Value} (hk : k < ks.length) (hv : (if ks.getD k false = true then va_rf ((R' k).map (b + ·)) else .int (I' k)) = v) (ho : ∀ j, j ≠ k → I' j = I j ∧ R' j = R j) : (ex_fs b ks I R).set k v = ex_fs b ks I' R' := by
  apply List.ext_getElem?
  intro j
  rw [List.getElem?_set]
  by_cases hj : j < ks.length
  · rw [ex_fs_at (I := I') (R := R') hj]
    by_cases e : k = j
    · subst e
      rw [if_pos rfl, if_pos (by rw [ex_fs_len]; exact hk), hv]
    · rw [if_neg e, ex_fs_at hj, (ho j (Ne.symm e)).1, (ho j (Ne.symm e)).2]
  · have e : k ≠ j := by omega
    rw [if_neg e, List.getElem?_eq_none (by rw [ex_fs_len]; omega), List.getElem?_eq_none (by rw [ex_fs_len]; omega)]
def ex_cell (G : ex_G) (h : ex_H) (a : Nat) : va_E := match h.2.1 a with
  | .inl ci => .inr (ci, ex_fs G.1 (exFk ci) (h.2.2.2.1 a) (h.2.2.2.2 a))
  | .inr t => .inl (G.2.2 t, h.2.2.1 a, if exRk t = true then .inr (.inr (.inr (.inr (fun j => (h.2.2.2.2 a j).map (G.1 + ·))))) else .inl (h.2.2.2.1 a))
theorem ex_cell_o {G : ex_G} {h : ex_H} {a ci : Nat} (hs : h.2.1 a = .inl ci) : ex_cell G h a = .inr (ci, ex_fs G.1 (exFk ci) (h.2.2.2.1 a) (h.2.2.2.2 a)) := by
  unfold ex_cell
  rw [hs]
theorem ex_cell_i {G : ex_G} {h : ex_H} {a t : Nat} (hs : h.2.1 a = .inr t) (hr : exRk t = false) : ex_cell G h a = .inl (G.2.2 t, h.2.2.1 a, .inl (h.2.2.2.1 a)) := by
  unfold ex_cell
  rw [hs]
  simp [hr]
theorem ex_cell_q {G : ex_G} {h : ex_H} {a t : Nat} (hs : h.2.1 a = .inr t) (hr : exRk t = true) : ex_cell G h a = .inl (G.2.2 t, h.2.2.1 a, .inr (.inr (.inr (.inr (fun j => (h.2.2.2.2 a j).map (G.1 + ·)))))) := by
  unfold ex_cell
  rw [hs]
  simp [hr]
theorem ex_cell_c {G : ex_G} {h h' : ex_H} {j : Nat} (h1 : h'.2.1 j = h.2.1 j) (h2 : h'.2.2.1 j = h.2.2.1 j) (h3 : h'.2.2.2.1 j = h.2.2.2.1 j) (h4 : h'.2.2.2.2 j = h.2.2.2.2 j) : ex_cell G h' j = ex_cell G h j := by
  unfold ex_cell
  rw [h1, h2, h3, h4]
def ex_w (G : ex_G) (h : ex_H) : va_W := (List.range h.1).map fun a => (G.1 + a, ex_cell G h a)
theorem ex_w_at {G : ex_G} {h : ex_H} {a : Nat} (ha : a < h.1) : (ex_w G h)[a]? = some (G.1 + a, ex_cell G h a) := by
  rw [ex_w, List.getElem?_map, List.getElem?_range ha]
  rfl
theorem ex_w_len {G : ex_G} {h : ex_H} : (ex_w G h).length = h.1 := by simp [ex_w]
theorem ex_w_of {G : ex_G} {h : ex_H} {k : Nat} {q : Nat × va_E} (hq : (ex_w G h)[k]? = some q) : k < h.1 ∧ q = (G.1 + k, ex_cell G h k) := by
  have hk : k < h.1 := by
    have h1 := (List.getElem?_eq_some_iff.mp hq).1
    rw [ex_w_len] at h1
    exact h1
  rw [ex_w_at hk] at hq
  exact ⟨hk, (Option.some.inj hq).symm⟩
theorem ex_D (G : ex_G) (h : ex_H) : va_D (fun q => G.1 ≤ q) (ex_w G h) := by
  refine ⟨fun i j x y hp hq e => ?_, fun k q hq => ?_⟩
  · obtain ⟨-, rfl⟩ := ex_w_of hp
    obtain ⟨-, rfl⟩ := ex_w_of hq
    have e' : G.1 + i = G.1 + j := e
    omega
  · obtain ⟨-, rfl⟩ := ex_w_of hq
    exact Nat.le_add_right _ _
theorem ex_w_set {G : ex_G} {h h' : ex_H} {a : Nat} {E : va_E} (ha : a < h.1) (hn : h'.1 = h.1) (he : ex_cell G h' a = E) (ho : ∀ j, j ≠ a → ex_cell G h' j = ex_cell G h j) : (ex_w G h).set a (G.1 + a, E) = ex_w G h' := by
  apply List.ext_getElem?
  intro k
  rw [List.getElem?_set]
  by_cases hk : k < h.1
  · rw [ex_w_at (h := h') (by rw [hn]; exact hk)]
    by_cases e : a = k
    · subst e
      rw [if_pos rfl, if_pos (by rw [ex_w_len]; exact ha), he]
    · rw [if_neg e, ex_w_at hk, ho k (Ne.symm e)]
  · have e : a ≠ k := by omega
    rw [if_neg e, List.getElem?_eq_none (by rw [ex_w_len]; omega), List.getElem?_eq_none (by rw [ex_w_len, hn]; omega)]
theorem ex_w_push {G : ex_G} {h h' : ex_H} (hn : h'.1 = h.1 + 1) (ho : ∀ j, j < h.1 → ex_cell G h' j = ex_cell G h j) : ex_w G h ++ [(G.1 + h.1, ex_cell G h' h.1)] = ex_w G h' := by
  unfold ex_w
  rw [hn, List.range_succ, List.map_append]
  congr 1
  exact List.map_congr_left (fun j hj => by rw [ho j (List.mem_range.mp hj)])
def ex_ty (G : ex_G) : List (ClassId × FieldType) := (List.range exTy.length).map fun t => (G.2.2 t, exTy.getD t .int)
theorem ex_ty_at {G : ex_G} {t : Nat} {ty : FieldType} (ht : exTy[t]? = some ty) : (ex_ty G)[t]? = some (G.2.2 t, ty) := by
  rw [ex_ty, List.getElem?_map, List.getElem?_range (List.getElem?_eq_some_iff.mp ht).1, Option.map_some, List.getD_eq_getElem?_getD, ht]
  rfl
/-- what is known of the tables -/
def ex_K (G : ex_G) (U : State) : Prop := va_K G.2.1 exCl (ex_ty G) U ∧ (∀ w ∈ exNW, va_Nw w U) ∧ ∀ C ∈ exAO, va_AO C U
theorem ex_nest_warm {w : Cond} (hw : ex_nest w = true) {s U : State} (hW : s.WarmedH U.vm) (h : va_Nw w s) : va_Nw w U := by
  cases w <;> first | exact va_Nw.warmF hW h | exact va_Nw.warmM hW h | (simp [ex_nest] at hw; done)
theorem ex_nest_on {w : Cond} (hw : ex_nest w = true) : w.onTables = true := by
  cases w <;> first | rfl | (simp [ex_nest] at hw; done)
theorem ex_K.warm {G : ex_G} {s U : State} (hW : s.WarmedH U.vm) (h : ex_K G s) : ex_K G U :=
  ⟨va_K.moved hW.alike h.1, fun w hw => ex_nest_warm (exNW_nest w hw) hW (h.2.1 w hw), fun C hC => va_AO.moved hW.alike (h.2.2 C hC)⟩
theorem ex_K.same {G : ex_G} {s U : State} (hv : s.vm = U.vm) (h : ex_K G s) : ex_K G U :=
  ⟨va_K.moved (by rw [hv]; exact Vm.Alike.refl _) h.1, fun w hw => va_Nw.same (ex_nest_on (exNW_nest w hw)) hv (h.2.1 w hw), fun C hC => va_AO.moved (by rw [hv]; exact Vm.Alike.refl _) (h.2.2 C hC)⟩
def ex_P (G : ex_G) (h : ex_H) (U : State) : Prop := va_P G.2.1 exCl (ex_w G h) U.heap ∧ U.heap.size = G.1 + h.1 ∧ ex_K G U
def ex_Q (G : ex_G) (mc : Nat) (Post : Option Value → ex_H → Prop) : Array Value → State → Outcome → State → Prop := fun _ st oc t => (∃ (r : Option Value) (h' : ex_H), oc = .returned (r.map (ex_v G.1)) ∧ Post r h' ∧ ex_P G h' t ∧ st.heap.size + mc = G.1 + h'.1) ∧ va_F (fun q => G.1 ≤ q) st t
abbrev ex_rm (d mc ms : Nat) : Room := { frames := d, cells := mc, slots := ms, locals := 64 * d }
/-- method M at depth d, on these arguments and this heap, returns with Post of its answer and its heap; mc cells of at most ms slots are new -/
def CT (l : Launch) (G : ex_G) (d : Nat) (M : ex_M) (as : List Value) (h : ex_H) (mc ms : Nat) (Post : Option Value → ex_H → Prop) : Prop :=
  Met l M.1 (.code M.1 M.2.1 M.2.2.1 M.2.2.2 :: exTW) (ex_rm d mc ms) (va_Pc (as.map (ex_v G.1)) (ex_P G h)) (ex_Q G mc Post) mc ms (fun q => G.1 ≤ q)
/-- the room has place for a callee of depth d' -/
def ex_lt (R : Room) (d' : Nat) : Prop := d' + 1 ≤ R.frames ∧ 64 * d' + 64 ≤ R.locals
theorem ex_lt_rm {d d' mc ms : Nat} (h : d' < d) : ex_lt (ex_rm d mc ms) d' := ⟨h, by show 64 * d' + 64 ≤ 64 * d; omega⟩
def ex_has (b nL : Nat) (ls : Array Slot) (L : List (Option Value)) : Prop := ls.size = nL ∧ lv_wf ls ∧ ∀ (i : Nat) (v : Value), L[i]? = some (some v) → v.category = 1 ∧ ls[i]? = some (.val (ex_v b v))
def ex_lv (b : Nat) (L : List (Option Value)) : List (Nat × Value) := (List.range L.length).filterMap fun i => (L[i]?.getD none).map fun v => (i, ex_v b v)
theorem ex_lv_in {b i : Nat} {L : List (Option Value)} {v : Value} (h : L[i]? = some (some v)) : (i, ex_v b v) ∈ ex_lv b L := by
  refine List.mem_filterMap.mpr ⟨i, List.mem_range.mpr (List.getElem?_eq_some_iff.mp h).1, ?_⟩
  rw [h]
  rfl
theorem ex_lv_of {b : Nat} {L : List (Option Value)} {q : Nat × Value} (h : q ∈ ex_lv b L) : ∃ v, L[q.1]? = some (some v) ∧ q.2 = ex_v b v := by
  obtain ⟨i, hi, he⟩ := List.mem_filterMap.mp h
  cases hL : L[i]? with
  | none =>
    rw [hL] at he
    cases he
  | some o =>
    cases o with
    | none =>
      rw [hL] at he
      cases he
    | some v =>
      rw [hL] at he
      cases he
      exact ⟨v, hL, rfl⟩
theorem ex_has_lv {b nL : Nat} {ls : Array Slot} {L : List (Option Value)} (h : ex_has b nL ls L) : lv_has ls nL (ex_lv b L) := ⟨h.1, h.2.1, fun q hq => by
  obtain ⟨v, h1, h2⟩ := ex_lv_of hq
  rw [h2]
  exact (h.2.2 q.1 v h1).2⟩
theorem ex_has_set {b nL i : Nat} {ls ls' : Array Slot} {L : List (Option Value)} {v : Value} (h : ex_has b nL ls L) (hc : v.category = 1) (h' : lv_has ls' nL ((i, ex_v b v) :: (ex_lv b L).filter (fun q => !(q.1 == i) && !(q.1 + 1 == i && q.2.category == 2)))) : ex_has b nL ls' (L.set i (some v)) := by
  refine ⟨h'.1, h'.2.1, fun j w hj => ?_⟩
  rw [List.getElem?_set] at hj
  by_cases e : i = j
  · subst e
    rw [if_pos rfl] at hj
    split at hj
    · cases hj
      exact ⟨hc, h'.2.2 _ List.mem_cons_self⟩
    · cases hj
  · rw [if_neg e] at hj
    have h1 := (h.2.2 j w hj).1
    refine ⟨h1, h'.2.2 (j, ex_v b w) (List.mem_cons_of_mem _ (List.mem_filter.mpr ⟨ex_lv_in hj, ?_⟩))⟩
    simp [Ne.symm e, ex_v_cat, h1]
theorem ex_has_none {b nL i : Nat} {ls : Array Slot} {L : List (Option Value)} (h : ex_has b nL ls L) : ex_has b nL ls (L.set i none) := by
  refine ⟨h.1, h.2.1, fun j w hj => ?_⟩
  rw [List.getElem?_set] at hj
  by_cases e : i = j
  · subst e
    rw [if_pos rfl] at hj
    split at hj
    · cases hj
    · cases hj
  · rw [if_neg e] at hj
    exact h.2.2 j w hj
theorem ex_args_in (vs : List Value) : ∀ (j i : Nat) (v : Value), (∀ w ∈ vs, w.category = 1) → vs[i]? = some v → (j + i, v) ∈ lv_args j vs := by
  induction vs with
  | nil => intro j i v _ h; cases h
  | cons w ws ih =>
    intro j i v hc h
    have hw : w.category = 1 := hc w List.mem_cons_self
    cases i with
    | zero =>
      cases h
      exact List.mem_cons_self
    | succ i =>
      have h2 := ih (j + 1) i v (fun x hx => hc x (List.mem_cons_of_mem _ hx)) (by simpa using h)
      have e : j + (i + 1) = j + 1 + i := by omega
      rw [e]
      show (j + 1 + i, v) ∈ (j, w) :: lv_args (if w.category = 2 then j + 2 else j + 1) ws
      rw [hw]
      exact List.mem_cons_of_mem _ h2
theorem ex_sl (vs : List Value) (hc : ∀ w ∈ vs, w.category = 1) : (lg_sl vs).length = vs.length := by
  induction vs with
  | nil => rfl
  | cons w ws ih =>
    have hw : w.category = 1 := hc w List.mem_cons_self
    have h2 := ih (fun x hx => hc x (List.mem_cons_of_mem _ hx))
    show ((if w.category = 2 then [Slot.val w, .second] else [.val w]) ++ lg_sl ws).length = _
    rw [hw]
    simp [h2]
def ex_as (as : List Value) (n : Nat) : List (Option Value) := as.map some ++ List.replicate (n - as.length) none

section EXR
variable {p : Program} {l : Launch} {e : Env} {s : State} {m : MethodId} {args : Array Value} {below : List Frame} {meth : Method} {c : Code} {M : ex_M} {G : ex_G} {R : Room} {Q : State → Prop} {d mc ms cells slots pc : Nat} {Post : Option Value → ex_H → Prop} {L : List (Option Value)} {st : List Value} {h : ex_H}

def ex_ok (M : ex_M) (G : ex_G) (p : Program) (s : State) (m : MethodId) (args : Array Value) (meth : Method) (c : Code) : Prop :=
  p.tables.exec = Jvm.exec ∧ c.code = M.2.1 ∧ c.maxLocals = M.2.2.1 ∧ s.vm.findClass M.1.cls = some m.cls ∧ (∀ w ∈ exTW, w.before args s = true) ∧ meth.locks = false ∧ meth.name = M.1.name ∧ meth.sig.returnType = M.2.2.2 ∧ ex_K G s ∧ G.1 ≤ s.heap.size
def EX (M : ex_M) (l : Launch) (G : ex_G) (R : Room) (Q : State → Prop) (p : Program) (e : Env) (s : State) (m : MethodId) (args : Array Value) (below : List Frame) (meth : Method) (c : Code) (cells slots pc : Nat) (L : List (Option Value)) (st : List Value) (h : ex_H) : Prop :=
  ex_ok M G p s m args meth c → ∀ (H : Heap) (ls : Array Slot) (locs : List Loc), ex_has G.1 M.2.2.1 ls L → va_P G.2.1 exCl (ex_w G h) H → s.heap.size + cells = G.1 + h.1 → va_S (fun q => G.1 ≤ q) s.heap H locs →
    W p l e R s m args below meth c H locs cells slots Q (F0 m pc ls (st.map (ex_v G.1)))
theorem ex_size {H : Heap} {locs : List Loc} {g : JFrame} (k : H.size ≤ s.heap.size + cells → W p l e R s m args below meth c H locs cells slots Q g) : W p l e R s m args below meth c H locs cells slots Q g := by
  intro T hT X
  exact k (by rw [← hT]; exact X.same.2.2.1) T hT X
theorem ex_low {H : Heap} {locs : List Loc} (hP : va_P G.2.1 exCl (ex_w G h) H) (hS : va_S (fun q => G.1 ≤ q) s.heap H locs) (hb : G.1 ≤ s.heap.size) : G.1 + h.1 ≤ H.size := by
  cases hn : h.1 with
  | zero => exact Nat.le_trans hb hS.1
  | succ n =>
    have h1 := (hP n _ (ex_w_at (h := h) (by omega))).lt
    have h2 : G.1 + n < H.size := h1
    omega
theorem ex_enter {as : List Value} (hy : plainName M.1.cls = true) (hn : as.length ≤ M.2.2.1) (hc : ∀ v ∈ as, v.category = 1)
    (k : ∀ (p : Program) (e : Env) (s : State) (m : MethodId) (args : Array Value) (below : List Frame) (meth : Method) (c : Code), EX M l G (ex_rm d mc ms) (MQ below (ex_Q G mc Post) args s mc ms (fun q => G.1 ≤ q)) p e s m args below meth c 0 0 0 (ex_as as M.2.2.1) [] h) : CT l G d M as h mc ms Post := by
  refine Met.ofW (cc := M.2.1) (maxL := M.2.2.1) (ret := M.2.2.2) hy rfl ?_
  intro p e s m args below meth c s₁ B hml hv
  obtain ⟨rfl, hP, hz, hK⟩ := hv
  have hts := atoms_spec B.pre
  have hown : s.vm.findClass M.1.cls = some m.cls := findClass_of_methodNamed B.named
  have hin : meth.name = M.1.name := (name_of_methodNamed B.named B.method).1
  have hc' : ∀ w ∈ as.map (ex_v G.1), w.category = 1 := by
    intro w hw
    obtain ⟨v, hv, rfl⟩ := List.mem_map.mp hw
    rw [ex_v_cat]
    exact hc v hv
  rw [lg_entry_eq]
  have hl := lv_entry (as.map (ex_v G.1)) (n := M.2.2.1) (by rw [ex_sl _ hc', List.length_map]; exact hn)
  refine k p e s m _ below meth c ⟨B.exec, B.bytes, hml, hown, fun w hw => hts w (List.mem_cons_of_mem _ hw), B.notSynchronized, hin, B.returns, hK, by omega⟩ s.heap _ [] ⟨hl.1, hl.2.1, fun i v hi => ?_⟩ hP (by omega) va_S.rf
  by_cases hlt : i < (as.map (some : Value → Option Value)).length
  · rw [ex_as, List.getElem?_append_left hlt, List.getElem?_map] at hi
    cases ha : as[i]? with
    | none => rw [ha] at hi; cases hi
    | some w =>
      rw [ha] at hi
      cases hi
      refine ⟨hc _ (List.mem_of_getElem? ha), ?_⟩
      have h3 := hl.2.2 _ (ex_args_in (as.map (ex_v G.1)) 0 i (ex_v G.1 v) hc' (by rw [List.getElem?_map, ha]; rfl))
      rw [Nat.zero_add] at h3
      exact h3
  · rw [ex_as, List.getElem?_append_right (by omega), List.getElem?_replicate] at hi
    split at hi
    · cases hi
    · cases hi

theorem ex_iconst {n : Int} {v : Int32} (hd : decode M.2.1 pc = .ok (.iconst n, 1)) (hv : Int32.ofInt n = v) (k : EX M l G R Q p e s m args below meth c cells slots (pc + 1) L (.int v :: st) h) : EX M l G R Q p e s m args below meth c cells slots pc L st h :=
  fun hg H ls locs hl hP hn hS => lv_iconst hg.1 hg.2.1 hd hv (k hg H ls locs hl hP hn hS)
theorem ex_bipush {n : Int} {v : Int32} (hd : decode M.2.1 pc = .ok (.bipush n, 2)) (hv : (Int8.ofInt n).toInt32 = v) (k : EX M l G R Q p e s m args below meth c cells slots (pc + 2) L (.int v :: st) h) : EX M l G R Q p e s m args below meth c cells slots pc L st h :=
  fun hg H ls locs hl hP hn hS => lv_bipush hg.1 hg.2.1 hd hv (k hg H ls locs hl hP hn hS)
theorem ex_sipush {n : Int} {v : Int32} (hd : decode M.2.1 pc = .ok (.sipush n, 3)) (hv : (Int16.ofInt n).toInt32 = v) (k : EX M l G R Q p e s m args below meth c cells slots (pc + 3) L (.int v :: st) h) : EX M l G R Q p e s m args below meth c cells slots pc L st h :=
  fun hg H ls locs hl hP hn hS => lv_sipush hg.1 hg.2.1 hd hv (k hg H ls locs hl hP hn hS)
theorem ex_iadd {x y : Int32} (hd : decode M.2.1 pc = .ok (.iadd, 1)) (k : EX M l G R Q p e s m args below meth c cells slots (pc + 1) L (.int (x + y) :: st) h) : EX M l G R Q p e s m args below meth c cells slots pc L (.int y :: .int x :: st) h :=
  fun hg H ls locs hl hP hn hS => lv_iadd hg.1 hg.2.1 hd (k hg H ls locs hl hP hn hS)
theorem ex_isub {x y : Int32} (hd : decode M.2.1 pc = .ok (.isub, 1)) (k : EX M l G R Q p e s m args below meth c cells slots (pc + 1) L (.int (x - y) :: st) h) : EX M l G R Q p e s m args below meth c cells slots pc L (.int y :: .int x :: st) h :=
  fun hg H ls locs hl hP hn hS => lv_isub hg.1 hg.2.1 hd (k hg H ls locs hl hP hn hS)
theorem ex_imul {x y : Int32} (hd : decode M.2.1 pc = .ok (.imul, 1)) (k : EX M l G R Q p e s m args below meth c cells slots (pc + 1) L (.int (x * y) :: st) h) : EX M l G R Q p e s m args below meth c cells slots pc L (.int y :: .int x :: st) h :=
  fun hg H ls locs hl hP hn hS => lv_imul hg.1 hg.2.1 hd (k hg H ls locs hl hP hn hS)
theorem ex_iand {x y : Int32} (hd : decode M.2.1 pc = .ok (.iand, 1)) (k : EX M l G R Q p e s m args below meth c cells slots (pc + 1) L (.int (x &&& y) :: st) h) : EX M l G R Q p e s m args below meth c cells slots pc L (.int y :: .int x :: st) h :=
  fun hg H ls locs hl hP hn hS => lv_iand hg.1 hg.2.1 hd (k hg H ls locs hl hP hn hS)
theorem ex_ior {x y : Int32} (hd : decode M.2.1 pc = .ok (.ior, 1)) (k : EX M l G R Q p e s m args below meth c cells slots (pc + 1) L (.int (x ||| y) :: st) h) : EX M l G R Q p e s m args below meth c cells slots pc L (.int y :: .int x :: st) h :=
  fun hg H ls locs hl hP hn hS => lv_ior hg.1 hg.2.1 hd (k hg H ls locs hl hP hn hS)
theorem ex_ixor {x y : Int32} (hd : decode M.2.1 pc = .ok (.ixor, 1)) (k : EX M l G R Q p e s m args below meth c cells slots (pc + 1) L (.int (x ^^^ y) :: st) h) : EX M l G R Q p e s m args below meth c cells slots pc L (.int y :: .int x :: st) h :=
  fun hg H ls locs hl hP hn hS => lv_ixor hg.1 hg.2.1 hd (k hg H ls locs hl hP hn hS)
theorem ex_ishl {x y : Int32} (hd : decode M.2.1 pc = .ok (.ishl, 1)) (k : EX M l G R Q p e s m args below meth c cells slots (pc + 1) L (.int (x <<< (y &&& 31)) :: st) h) : EX M l G R Q p e s m args below meth c cells slots pc L (.int y :: .int x :: st) h :=
  fun hg H ls locs hl hP hn hS => lv_ishl hg.1 hg.2.1 hd (k hg H ls locs hl hP hn hS)
theorem ex_ishr {x y : Int32} (hd : decode M.2.1 pc = .ok (.ishr, 1)) (k : EX M l G R Q p e s m args below meth c cells slots (pc + 1) L (.int (x >>> (y &&& 31)) :: st) h) : EX M l G R Q p e s m args below meth c cells slots pc L (.int y :: .int x :: st) h :=
  fun hg H ls locs hl hP hn hS => lv_ishr hg.1 hg.2.1 hd (k hg H ls locs hl hP hn hS)
theorem ex_ineg {x : Int32} (hd : decode M.2.1 pc = .ok (.ineg, 1)) (k : EX M l G R Q p e s m args below meth c cells slots (pc + 1) L (.int (-x) :: st) h) : EX M l G R Q p e s m args below meth c cells slots pc L (.int x :: st) h :=
  fun hg H ls locs hl hP hn hS => lv_ineg hg.1 hg.2.1 hd (k hg H ls locs hl hP hn hS)
theorem ex_idiv {x y : Int32} (hd : decode M.2.1 pc = .ok (.idiv, 1)) (hne : ¬ y = 0) (k : EX M l G R Q p e s m args below meth c cells slots (pc + 1) L (.int (x / y) :: st) h) : EX M l G R Q p e s m args below meth c cells slots pc L (.int y :: .int x :: st) h :=
  fun hg H ls locs hl hP hn hS => lv_idiv hg.1 hg.2.1 hd hne (k hg H ls locs hl hP hn hS)
theorem ex_irem {x y : Int32} (hd : decode M.2.1 pc = .ok (.irem, 1)) (hne : ¬ y = 0) (k : EX M l G R Q p e s m args below meth c cells slots (pc + 1) L (.int (x - x / y * y) :: st) h) : EX M l G R Q p e s m args below meth c cells slots pc L (.int y :: .int x :: st) h :=
  fun hg H ls locs hl hP hn hS => lv_irem hg.1 hg.2.1 hd hne (k hg H ls locs hl hP hn hS)
theorem ex_i2c {x v : Int32} (hd : decode M.2.1 pc = .ok (.i2c, 1)) (hv : (x.toUInt32 % 65536).toInt32 = v) (k : EX M l G R Q p e s m args below meth c cells slots (pc + 1) L (.int v :: st) h) : EX M l G R Q p e s m args below meth c cells slots pc L (.int x :: st) h :=
  fun hg H ls locs hl hP hn hS => lv_i2c hg.1 hg.2.1 hd hv (k hg H ls locs hl hP hn hS)
theorem ex_iushr {x y v : Int32} (hd : decode M.2.1 pc = .ok (.iushr, 1)) (hv : (x.toUInt32 >>> (y.toUInt32 &&& Int32.toUInt32 31)).toInt32 = v) (k : EX M l G R Q p e s m args below meth c cells slots (pc + 1) L (.int v :: st) h) : EX M l G R Q p e s m args below meth c cells slots pc L (.int y :: .int x :: st) h :=
  fun hg H ls locs hl hP hn hS => lv_iushr hg.1 hg.2.1 hd hv (k hg H ls locs hl hP hn hS)
theorem ex_dup {va : Value} (hd : decode M.2.1 pc = .ok (.dup, 1)) (h1 : va.category = 1) (k : EX M l G R Q p e s m args below meth c cells slots (pc + 1) L (va :: va :: st) h) : EX M l G R Q p e s m args below meth c cells slots pc L (va :: st) h :=
  fun hg H ls locs hl hP hn hS => lv_dup hg.1 hg.2.1 hd (by rw [ex_v_cat]; exact h1) (k hg H ls locs hl hP hn hS)
theorem ex_pop {va : Value} (hd : decode M.2.1 pc = .ok (.pop, 1)) (h1 : va.category = 1) (k : EX M l G R Q p e s m args below meth c cells slots (pc + 1) L st h) : EX M l G R Q p e s m args below meth c cells slots pc L (va :: st) h :=
  fun hg H ls locs hl hP hn hS => lv_pop hg.1 hg.2.1 hd (by rw [ex_v_cat]; exact h1) (k hg H ls locs hl hP hn hS)
theorem ex_dup_x1 {va vb : Value} (hd : decode M.2.1 pc = .ok (.dup_x1, 1)) (h1 : va.category = 1) (h2 : vb.category = 1) (k : EX M l G R Q p e s m args below meth c cells slots (pc + 1) L (va :: vb :: va :: st) h) : EX M l G R Q p e s m args below meth c cells slots pc L (va :: vb :: st) h :=
  fun hg H ls locs hl hP hn hS => lv_dup_x1 hg.1 hg.2.1 hd (by rw [ex_v_cat]; exact h1) (by rw [ex_v_cat]; exact h2) (k hg H ls locs hl hP hn hS)
theorem ex_dup_x2 {va vb vd : Value} (hd : decode M.2.1 pc = .ok (.dup_x2, 1)) (h1 : va.category = 1) (h2 : vb.category = 1) (h3 : vd.category = 1) (k : EX M l G R Q p e s m args below meth c cells slots (pc + 1) L (va :: vb :: vd :: va :: st) h) : EX M l G R Q p e s m args below meth c cells slots pc L (va :: vb :: vd :: st) h :=
  fun hg H ls locs hl hP hn hS => lv_dup_x2 hg.1 hg.2.1 hd (by rw [ex_v_cat]; exact h1) (by rw [ex_v_cat]; exact h2) (by rw [ex_v_cat]; exact h3) (k hg H ls locs hl hP hn hS)
theorem ex_dup2 {va vb : Value} (hd : decode M.2.1 pc = .ok (.dup2, 1)) (h1 : va.category = 1) (h2 : vb.category = 1) (k : EX M l G R Q p e s m args below meth c cells slots (pc + 1) L (va :: vb :: va :: vb :: st) h) : EX M l G R Q p e s m args below meth c cells slots pc L (va :: vb :: st) h :=
  fun hg H ls locs hl hP hn hS => lv_dup2_11 hg.1 hg.2.1 hd (by rw [ex_v_cat]; exact h1) (by rw [ex_v_cat]; exact h2) (k hg H ls locs hl hP hn hS)
theorem ex_null (hd : decode M.2.1 pc = .ok (.aconst_null, 1)) (k : EX M l G R Q p e s m args below meth c cells slots (pc + 1) L (.null :: st) h) : EX M l G R Q p e s m args below meth c cells slots pc L st h :=
  fun hg H ls locs hl hP hn hS => lv_null hg.1 hg.2.1 hd (k hg H ls locs hl hP hn hS)
theorem ex_iload_n {k : Fin 4} {i : Nat} {x : Int32} (hd : decode M.2.1 pc = .ok (.iload_n k, 1)) (hi : (k : Nat) = i) (hL : L[i]? = some (some (.int x))) (kk : EX M l G R Q p e s m args below meth c cells slots (pc + 1) L (.int x :: st) h) : EX M l G R Q p e s m args below meth c cells slots pc L st h :=
  fun hg H ls locs hl hP hn hS => lv_iload_n hg.1 hg.2.1 hd hi (hl.2.2 i _ hL).2 (kk hg H ls locs hl hP hn hS)
theorem ex_iload {i : Nat} {x : Int32} (hd : decode M.2.1 pc = .ok (.iload i, 2)) (hL : L[i]? = some (some (.int x))) (kk : EX M l G R Q p e s m args below meth c cells slots (pc + 2) L (.int x :: st) h) : EX M l G R Q p e s m args below meth c cells slots pc L st h :=
  fun hg H ls locs hl hP hn hS => lv_iload hg.1 hg.2.1 hd (hl.2.2 i _ hL).2 (kk hg H ls locs hl hP hn hS)
theorem ex_istore_n {k : Fin 4} {i : Nat} {x : Int32} (hd : decode M.2.1 pc = .ok (.istore_n k, 1)) (hi : (k : Nat) = i) (hN : i < M.2.2.1) (kk : EX M l G R Q p e s m args below meth c cells slots (pc + 1) (L.set i (some (.int x))) st h) : EX M l G R Q p e s m args below meth c cells slots pc L (.int x :: st) h :=
  fun hg H ls locs hl hP hn hS => lv_istore_n hg.1 hg.2.1 hd hi (ex_has_lv hl) hN rfl (fun ls' h' => kk hg H ls' locs (ex_has_set (v := .int x) hl rfl h') hP hn hS)
theorem ex_istore {i : Nat} {x : Int32} (hd : decode M.2.1 pc = .ok (.istore i, 2)) (hN : i < M.2.2.1) (kk : EX M l G R Q p e s m args below meth c cells slots (pc + 2) (L.set i (some (.int x))) st h) : EX M l G R Q p e s m args below meth c cells slots pc L (.int x :: st) h :=
  fun hg H ls locs hl hP hn hS => lv_istore hg.1 hg.2.1 hd (ex_has_lv hl) hN rfl (fun ls' h' => kk hg H ls' locs (ex_has_set (v := .int x) hl rfl h') hP hn hS)
theorem ex_aload_n {k : Fin 4} {i : Nat} {x : Nat} (hd : decode M.2.1 pc = .ok (.aload_n k, 1)) (hi : (k : Nat) = i) (hL : L[i]? = some (some (.ref x))) (kk : EX M l G R Q p e s m args below meth c cells slots (pc + 1) L (.ref x :: st) h) : EX M l G R Q p e s m args below meth c cells slots pc L st h :=
  fun hg H ls locs hl hP hn hS => lv_aload_n hg.1 hg.2.1 hd hi (hl.2.2 i _ hL).2 (kk hg H ls locs hl hP hn hS)
theorem ex_aload {i : Nat} {x : Nat} (hd : decode M.2.1 pc = .ok (.aload i, 2)) (hL : L[i]? = some (some (.ref x))) (kk : EX M l G R Q p e s m args below meth c cells slots (pc + 2) L (.ref x :: st) h) : EX M l G R Q p e s m args below meth c cells slots pc L st h :=
  fun hg H ls locs hl hP hn hS => lv_aload hg.1 hg.2.1 hd (hl.2.2 i _ hL).2 (kk hg H ls locs hl hP hn hS)
theorem ex_astore_n {k : Fin 4} {i : Nat} {x : Nat} (hd : decode M.2.1 pc = .ok (.astore_n k, 1)) (hi : (k : Nat) = i) (hN : i < M.2.2.1) (kk : EX M l G R Q p e s m args below meth c cells slots (pc + 1) (L.set i (some (.ref x))) st h) : EX M l G R Q p e s m args below meth c cells slots pc L (.ref x :: st) h :=
  fun hg H ls locs hl hP hn hS => lv_astore_n hg.1 hg.2.1 hd hi (ex_has_lv hl) hN rfl (fun ls' h' => kk hg H ls' locs (ex_has_set (v := .ref x) hl rfl h') hP hn hS)
theorem ex_astore {i : Nat} {x : Nat} (hd : decode M.2.1 pc = .ok (.astore i, 2)) (hN : i < M.2.2.1) (kk : EX M l G R Q p e s m args below meth c cells slots (pc + 2) (L.set i (some (.ref x))) st h) : EX M l G R Q p e s m args below meth c cells slots pc L (.ref x :: st) h :=
  fun hg H ls locs hl hP hn hS => lv_astore hg.1 hg.2.1 hd (ex_has_lv hl) hN rfl (fun ls' h' => kk hg H ls' locs (ex_has_set (v := .ref x) hl rfl h') hP hn hS)
theorem ex_iinc {i : Nat} {n : Int} {x v : Int32} (hd : decode M.2.1 pc = .ok (.iinc i n, 3)) (hL : L[i]? = some (some (.int x))) (hv : x + Int32.ofInt n = v) (hN : i < M.2.2.1) (kk : EX M l G R Q p e s m args below meth c cells slots (pc + 3) (L.set i (some (.int v))) st h) : EX M l G R Q p e s m args below meth c cells slots pc L st h := by
  intro hg H ls locs hl hP hn hS
  obtain ⟨k, hk⟩ := List.getElem?_of_mem (ex_lv_in (b := G.1) hL)
  exact lv_iinc hg.1 hg.2.1 hd (ex_has_lv hl) hk hv hN rfl (fun ls' h' => kk hg H ls' locs (ex_has_set (v := .int v) hl rfl h') hP hn hS)
theorem ex_drop (i : Nat) (kk : EX M l G R Q p e s m args below meth c cells slots pc (L.set i none) st h) : EX M l G R Q p e s m args below meth c cells slots pc L st h :=
  fun hg H ls locs hl hP hn hS => kk hg H ls locs (ex_has_none hl) hP hn hS
theorem ex_if_eq {x : Int32} {off : Int} {tgt : Nat} (hd : decode M.2.1 pc = .ok (.ifCond .eq off, 3)) (ht : (pc : Int) + off = (tgt : Int)) (kt : x = 0 → EX M l G R Q p e s m args below meth c cells slots tgt L st h) (kf : ¬ x = 0 → EX M l G R Q p e s m args below meth c cells slots (pc + 3) L st h) : EX M l G R Q p e s m args below meth c cells slots pc L (.int x :: st) h :=
  fun hg H ls locs hl hP hn hS => lv_if_eq hg.1 hg.2.1 hd ht (fun q => kt q hg H ls locs hl hP hn hS) (fun q => kf q hg H ls locs hl hP hn hS)
theorem ex_icmp_eq {x y : Int32} {off : Int} {tgt : Nat} (hd : decode M.2.1 pc = .ok (.if_icmp .eq off, 3)) (ht : (pc : Int) + off = (tgt : Int)) (kt : x = y → EX M l G R Q p e s m args below meth c cells slots tgt L st h) (kf : ¬ x = y → EX M l G R Q p e s m args below meth c cells slots (pc + 3) L st h) : EX M l G R Q p e s m args below meth c cells slots pc L (.int y :: .int x :: st) h :=
  fun hg H ls locs hl hP hn hS => lv_icmp_eq hg.1 hg.2.1 hd ht (fun q => kt q hg H ls locs hl hP hn hS) (fun q => kf q hg H ls locs hl hP hn hS)
theorem ex_if_ne {x : Int32} {off : Int} {tgt : Nat} (hd : decode M.2.1 pc = .ok (.ifCond .ne off, 3)) (ht : (pc : Int) + off = (tgt : Int)) (kt : ¬ x = 0 → EX M l G R Q p e s m args below meth c cells slots tgt L st h) (kf : x = 0 → EX M l G R Q p e s m args below meth c cells slots (pc + 3) L st h) : EX M l G R Q p e s m args below meth c cells slots pc L (.int x :: st) h :=
  fun hg H ls locs hl hP hn hS => lv_if_ne hg.1 hg.2.1 hd ht (fun q => kt q hg H ls locs hl hP hn hS) (fun q => kf q hg H ls locs hl hP hn hS)
theorem ex_icmp_ne {x y : Int32} {off : Int} {tgt : Nat} (hd : decode M.2.1 pc = .ok (.if_icmp .ne off, 3)) (ht : (pc : Int) + off = (tgt : Int)) (kt : ¬ x = y → EX M l G R Q p e s m args below meth c cells slots tgt L st h) (kf : x = y → EX M l G R Q p e s m args below meth c cells slots (pc + 3) L st h) : EX M l G R Q p e s m args below meth c cells slots pc L (.int y :: .int x :: st) h :=
  fun hg H ls locs hl hP hn hS => lv_icmp_ne hg.1 hg.2.1 hd ht (fun q => kt q hg H ls locs hl hP hn hS) (fun q => kf q hg H ls locs hl hP hn hS)
theorem ex_if_lt {x : Int32} {off : Int} {tgt : Nat} (hd : decode M.2.1 pc = .ok (.ifCond .lt off, 3)) (ht : (pc : Int) + off = (tgt : Int)) (kt : x < 0 → EX M l G R Q p e s m args below meth c cells slots tgt L st h) (kf : ¬ x < 0 → EX M l G R Q p e s m args below meth c cells slots (pc + 3) L st h) : EX M l G R Q p e s m args below meth c cells slots pc L (.int x :: st) h :=
  fun hg H ls locs hl hP hn hS => lv_if_lt hg.1 hg.2.1 hd ht (fun q => kt q hg H ls locs hl hP hn hS) (fun q => kf q hg H ls locs hl hP hn hS)
theorem ex_icmp_lt {x y : Int32} {off : Int} {tgt : Nat} (hd : decode M.2.1 pc = .ok (.if_icmp .lt off, 3)) (ht : (pc : Int) + off = (tgt : Int)) (kt : x < y → EX M l G R Q p e s m args below meth c cells slots tgt L st h) (kf : ¬ x < y → EX M l G R Q p e s m args below meth c cells slots (pc + 3) L st h) : EX M l G R Q p e s m args below meth c cells slots pc L (.int y :: .int x :: st) h :=
  fun hg H ls locs hl hP hn hS => lv_icmp_lt hg.1 hg.2.1 hd ht (fun q => kt q hg H ls locs hl hP hn hS) (fun q => kf q hg H ls locs hl hP hn hS)
theorem ex_if_ge {x : Int32} {off : Int} {tgt : Nat} (hd : decode M.2.1 pc = .ok (.ifCond .ge off, 3)) (ht : (pc : Int) + off = (tgt : Int)) (kt : 0 ≤ x → EX M l G R Q p e s m args below meth c cells slots tgt L st h) (kf : ¬ 0 ≤ x → EX M l G R Q p e s m args below meth c cells slots (pc + 3) L st h) : EX M l G R Q p e s m args below meth c cells slots pc L (.int x :: st) h :=
  fun hg H ls locs hl hP hn hS => lv_if_ge hg.1 hg.2.1 hd ht (fun q => kt q hg H ls locs hl hP hn hS) (fun q => kf q hg H ls locs hl hP hn hS)
theorem ex_icmp_ge {x y : Int32} {off : Int} {tgt : Nat} (hd : decode M.2.1 pc = .ok (.if_icmp .ge off, 3)) (ht : (pc : Int) + off = (tgt : Int)) (kt : y ≤ x → EX M l G R Q p e s m args below meth c cells slots tgt L st h) (kf : ¬ y ≤ x → EX M l G R Q p e s m args below meth c cells slots (pc + 3) L st h) : EX M l G R Q p e s m args below meth c cells slots pc L (.int y :: .int x :: st) h :=
  fun hg H ls locs hl hP hn hS => lv_icmp_ge hg.1 hg.2.1 hd ht (fun q => kt q hg H ls locs hl hP hn hS) (fun q => kf q hg H ls locs hl hP hn hS)
theorem ex_if_gt {x : Int32} {off : Int} {tgt : Nat} (hd : decode M.2.1 pc = .ok (.ifCond .gt off, 3)) (ht : (pc : Int) + off = (tgt : Int)) (kt : 0 < x → EX M l G R Q p e s m args below meth c cells slots tgt L st h) (kf : ¬ 0 < x → EX M l G R Q p e s m args below meth c cells slots (pc + 3) L st h) : EX M l G R Q p e s m args below meth c cells slots pc L (.int x :: st) h :=
  fun hg H ls locs hl hP hn hS => lv_if_gt hg.1 hg.2.1 hd ht (fun q => kt q hg H ls locs hl hP hn hS) (fun q => kf q hg H ls locs hl hP hn hS)
theorem ex_icmp_gt {x y : Int32} {off : Int} {tgt : Nat} (hd : decode M.2.1 pc = .ok (.if_icmp .gt off, 3)) (ht : (pc : Int) + off = (tgt : Int)) (kt : y < x → EX M l G R Q p e s m args below meth c cells slots tgt L st h) (kf : ¬ y < x → EX M l G R Q p e s m args below meth c cells slots (pc + 3) L st h) : EX M l G R Q p e s m args below meth c cells slots pc L (.int y :: .int x :: st) h :=
  fun hg H ls locs hl hP hn hS => lv_icmp_gt hg.1 hg.2.1 hd ht (fun q => kt q hg H ls locs hl hP hn hS) (fun q => kf q hg H ls locs hl hP hn hS)
theorem ex_if_le {x : Int32} {off : Int} {tgt : Nat} (hd : decode M.2.1 pc = .ok (.ifCond .le off, 3)) (ht : (pc : Int) + off = (tgt : Int)) (kt : x ≤ 0 → EX M l G R Q p e s m args below meth c cells slots tgt L st h) (kf : ¬ x ≤ 0 → EX M l G R Q p e s m args below meth c cells slots (pc + 3) L st h) : EX M l G R Q p e s m args below meth c cells slots pc L (.int x :: st) h :=
  fun hg H ls locs hl hP hn hS => lv_if_le hg.1 hg.2.1 hd ht (fun q => kt q hg H ls locs hl hP hn hS) (fun q => kf q hg H ls locs hl hP hn hS)
theorem ex_icmp_le {x y : Int32} {off : Int} {tgt : Nat} (hd : decode M.2.1 pc = .ok (.if_icmp .le off, 3)) (ht : (pc : Int) + off = (tgt : Int)) (kt : x ≤ y → EX M l G R Q p e s m args below meth c cells slots tgt L st h) (kf : ¬ x ≤ y → EX M l G R Q p e s m args below meth c cells slots (pc + 3) L st h) : EX M l G R Q p e s m args below meth c cells slots pc L (.int y :: .int x :: st) h :=
  fun hg H ls locs hl hP hn hS => lv_icmp_le hg.1 hg.2.1 hd ht (fun q => kt q hg H ls locs hl hP hn hS) (fun q => kf q hg H ls locs hl hP hn hS)
theorem ex_goto {off : Int} {tgt : Nat} (hd : decode M.2.1 pc = .ok (.goto off, 3)) (ht : (pc : Int) + off = (tgt : Int)) (k : EX M l G R Q p e s m args below meth c cells slots tgt L st h) : EX M l G R Q p e s m args below meth c cells slots pc L st h :=
  fun hg H ls locs hl hP hn hS => lv_goto hg.1 hg.2.1 hd ht (k hg H ls locs hl hP hn hS)
theorem ex_lookup {dflt : Int} {ps : Array (Int × Int)} {len : Nat} {x : Int32} {off : Int} {tgt : Nat} (hd : decode M.2.1 pc = .ok (.lookupswitch dflt ps, len)) (hp : (ps.toList.zip (ps.toList.drop 1)).all (fun (a, next) => a.1 < next.1) = true) (ho : Op.lookupswitch.offset ps.toList dflt x.toInt = off) (ht : (pc : Int) + off = (tgt : Int)) (k : EX M l G R Q p e s m args below meth c cells slots tgt L st h) : EX M l G R Q p e s m args below meth c cells slots pc L (.int x :: st) h :=
  fun hg H ls locs hl hP hn hS => lv_lookup hg.1 hg.2.1 hd hp ho ht (k hg H ls locs hl hP hn hS)
theorem ex_tableOut {dflt lo hi : Int} {offs : Array Int} {len : Nat} {x : Int32} {tgt : Nat} (hd : decode M.2.1 pc = .ok (.tableswitch dflt lo hi offs, len)) (ho : x.toInt < lo ∨ hi < x.toInt) (ht : (pc : Int) + dflt = (tgt : Int)) (k : EX M l G R Q p e s m args below meth c cells slots tgt L st h) : EX M l G R Q p e s m args below meth c cells slots pc L (.int x :: st) h :=
  fun hg H ls locs hl hP hn hS => lv_tableOut hg.1 hg.2.1 hd ho ht (k hg H ls locs hl hP hn hS)
theorem ex_tableIn {dflt lo hi : Int} {offs : Array Int} {len : Nat} {x : Int32} {off : Int} {tgt : Nat} (hd : decode M.2.1 pc = .ok (.tableswitch dflt lo hi offs, len)) (h1 : ¬ x.toInt < lo) (h2 : ¬ hi < x.toInt) (ho : offs[(x.toInt - lo).toNat]? = some off) (ht : (pc : Int) + off = (tgt : Int)) (k : EX M l G R Q p e s m args below meth c cells slots tgt L st h) : EX M l G R Q p e s m args below meth c cells slots pc L (.int x :: st) h :=
  fun hg H ls locs hl hP hn hS => lv_tableIn hg.1 hg.2.1 hd h1 h2 ho ht (k hg H ls locs hl hP hn hS)
theorem ex_ldc {idx : Nat} {v : Int32} (hd : decode M.2.1 pc = .ok (.ldc idx, 2)) (hw : Jvm.Cond.constant M.1.cls idx v ∈ exTW) (k : EX M l G R Q p e s m args below meth c cells slots (pc + 2) L (.int v :: st) h) : EX M l G R Q p e s m args below meth c cells slots pc L st h :=
  fun hg H ls locs hl hP hn hS => lv_ldc hg.1 hg.2.1 hg.2.2.2.1 (hg.2.2.2.2.1 _ hw) hd (k hg H ls locs hl hP hn hS)
/-- the entry idx of own's pool is field k of class ci (q: a reference) -/
def ex_FL (own : String) (idx ci k : Nat) (q : Bool) : Prop := ∃ (C : String) (T : u_T) (N : Nat), exCl[ci]? = some (C, T, N) ∧ k < N ∧ (exFk ci).length = N ∧ (exFk ci).getD k false = q ∧ (∀ w ∈ u_ws C T N, w ∈ exTW) ∧ (Cond.fieldLink own idx (T k).1 (T k).2.1 (T k).2.2.1 ∈ exTW ∨ ∃ host, Cond.fieldLinkNest own idx (T k).1 (T k).2.1 (T k).2.2.1 host ∈ exNW)
theorem ex_getv {a idx ci k : Nat} {q : Bool} {v : Value} (hd : decode M.2.1 pc = .ok (.getfield idx, 3)) (hf : ex_FL M.1.cls idx ci k q) (ha : a < h.1) (hs : h.2.1 a = .inl ci) (hv : (if q = true then va_rf ((h.2.2.2.2 a k).map (G.1 + ·)) else .int (h.2.2.2.1 a k)) = ex_v G.1 v) (kk : EX M l G R Q p e s m args below meth c cells slots (pc + 3) L (v :: st) h) : EX M l G R Q p e s m args below meth c cells slots pc L (.ref a :: st) h := by
  intro hg H ls locs hl hP hn hS
  obtain ⟨C, T, N, hc, hk, hN, hq, hu, hlk⟩ := hf
  have he : (ex_w G h)[a]? = some (G.1 + a, .inr (ci, ex_fs G.1 (exFk ci) (h.2.2.2.1 a) (h.2.2.2.2 a))) := by rw [ex_w_at ha, ex_cell_o hs]
  have hw : (ex_fs G.1 (exFk ci) (h.2.2.2.1 a) (h.2.2.2.2 a))[k]? = some (ex_v G.1 v) := by rw [ex_fs_at (by rw [hN]; exact hk), hq, hv]
  have kk' := kk hg H ls locs hl hP hn hS
  rcases hlk with hlk | ⟨host, hlk⟩
  · exact va_get (ci := ci) hg.1 hg.2.1 hg.2.2.2.2.1 hu hg.2.2.2.1 hg.2.2.2.2.2.2.2.2.1.1 hP a he hc k hk (hg.2.2.2.2.1 _ hlk) (fun _ h9 => h9) hw hd kk'
  · exact va_getN (ci := ci) hg.1 hg.2.1 hg.2.2.2.2.1 hu hg.2.2.2.1 hg.2.2.2.2.2.2.2.2.1.1 hP a he hc k hk (va_Nw.use rfl (hg.2.2.2.2.2.2.2.2.1.2.1 _ hlk)) (fun _ h9 => h9) hw hd (kk')

theorem ex_geti {a idx : Nat} (ci k : Nat) (hd : decode M.2.1 pc = .ok (.getfield idx, 3)) (hf : ex_FL M.1.cls idx ci k false) (ha : a < h.1) (hs : h.2.1 a = .inl ci) (kk : EX M l G R Q p e s m args below meth c cells slots (pc + 3) L (.int (h.2.2.2.1 a k) :: st) h) : EX M l G R Q p e s m args below meth c cells slots pc L (.ref a :: st) h :=
  ex_getv hd hf ha hs rfl kk
theorem ex_getr {a idx b : Nat} (ci k : Nat) (hd : decode M.2.1 pc = .ok (.getfield idx, 3)) (hf : ex_FL M.1.cls idx ci k true) (ha : a < h.1) (hs : h.2.1 a = .inl ci) (hr : h.2.2.2.2 a k = some b) (kk : EX M l G R Q p e s m args below meth c cells slots (pc + 3) L (.ref b :: st) h) : EX M l G R Q p e s m args below meth c cells slots pc L (.ref a :: st) h :=
  ex_getv (v := .ref b) hd hf ha hs (by rw [hr]; rfl) kk
/-- .. and may be written: by a plain method, or, if it is final, by its own class's constructor; ty its type -/
def ex_PF (own : String) (idx ci k : Nat) (q : Bool) (ty : FieldType) (nm : String) : Prop := ∃ (C : String) (T : u_T) (N : Nat) (t0 : Nat → FieldType), exCl[ci]? = some (C, T, N) ∧ k < N ∧ (exFk ci).length = N ∧ (exFk ci).getD k false = q ∧ (∀ w ∈ u_ws C T N, w ∈ exTW) ∧ (∀ k, k < N → parseFieldDescriptor (T k).2.2.1 = some (t0 k)) ∧ (∀ a, a < N → ∀ b, b < N → a ≠ b → (T a).2.1 ≠ (T b).2.1) ∧ parseFieldDescriptor (T k).2.2.1 = some ty ∧
  (((T k).2.2.2 = false ∧ (Cond.fieldLink own idx (T k).1 (T k).2.1 (T k).2.2.1 ∈ exTW ∨ ∃ host, Cond.fieldLinkNest own idx (T k).1 (T k).2.1 (T k).2.2.1 host ∈ exNW)) ∨ ((T k).2.2.2 = true ∧ nm = "<init>" ∧ (T k).1 = own ∧ Cond.fieldLink own idx (T k).1 (T k).2.1 (T k).2.2.1 ∈ exTW))
theorem ex_putv {a idx ci k : Nat} {q : Bool} {ty : FieldType} {v : Value} {h' : ex_H} (hd : decode M.2.1 pc = .ok (.putfield idx, 3)) (hf : ex_PF M.1.cls idx ci k q ty M.1.name) (ha : a < h.1) (hs : h.2.1 a = .inl ci) (hn9 : narrow ty (ex_v G.1 v) = ex_v G.1 v) (hf9 : fits ty (ex_v G.1 v) = true) (e1 : h'.1 = h.1) (e2 : h'.2.1 = h.2.1) (e3 : h'.2.2.1 = h.2.2.1) (e4 : ∀ i, i ≠ a → h'.2.2.2.1 i = h.2.2.2.1 i ∧ h'.2.2.2.2 i = h.2.2.2.2 i) (e5 : ∀ j, j ≠ k → h'.2.2.2.1 a j = h.2.2.2.1 a j ∧ h'.2.2.2.2 a j = h.2.2.2.2 a j) (hv : (if q = true then va_rf ((h'.2.2.2.2 a k).map (G.1 + ·)) else .int (h'.2.2.2.1 a k)) = ex_v G.1 v) (kk : EX M l G R Q p e s m args below meth c cells slots (pc + 3) L st h') : EX M l G R Q p e s m args below meth c cells slots pc L (v :: .ref a :: st) h := by
  intro hg H ls locs hl hP hn hS
  obtain ⟨C, T, N, t0, hc, hk, hN, hq, hu, hty, hnm, hd0, hlk⟩ := hf
  have he : (ex_w G h)[a]? = some (G.1 + a, .inr (ci, ex_fs G.1 (exFk ci) (h.2.2.2.1 a) (h.2.2.2.2 a))) := by rw [ex_w_at ha, ex_cell_o hs]
  have hset : (ex_w G h).set a (G.1 + a, .inr (ci, (ex_fs G.1 (exFk ci) (h.2.2.2.1 a) (h.2.2.2.2 a)).set k (ex_v G.1 v))) = ex_w G h' := by
    refine ex_w_set ha e1 ?_ (fun j hj => ex_cell_c (by rw [e2]) (by rw [e3]) (e4 j hj).1 (e4 j hj).2)
    rw [ex_cell_o (h := h') (ci := ci) (by rw [e2]; exact hs), ex_fs_set (I' := h'.2.2.2.1 a) (R' := h'.2.2.2.2 a) (by rw [hN]; exact hk) (by rw [hq]; exact hv) e5]
  have kk' : ∀ (H1 : Heap) (locs1 : List Loc), va_P G.2.1 exCl ((ex_w G h).set a (G.1 + a, .inr (ci, (ex_fs G.1 (exFk ci) (h.2.2.2.1 a) (h.2.2.2.2 a)).set k (ex_v G.1 v)))) H1 → va_D (fun q => G.1 ≤ q) ((ex_w G h).set a (G.1 + a, .inr (ci, (ex_fs G.1 (exFk ci) (h.2.2.2.1 a) (h.2.2.2.2 a)).set k (ex_v G.1 v)))) → va_S (fun q => G.1 ≤ q) s.heap H1 locs1 → W p l e R s m args below meth c H1 locs1 cells slots Q (F0 m (pc + 3) ls (st.map (ex_v G.1))) := by
    intro H1 locs1 hP1 _ hS1
    rw [hset] at hP1
    exact kk hg H1 ls locs1 hl hP1 (by rw [e1]; exact hn) hS1
  have hlen : k < (ex_fs G.1 (exFk ci) (h.2.2.2.1 a) (h.2.2.2.2 a)).length := by rw [ex_fs_len, hN]; exact hk
  rcases hlk with ⟨hfin, hlk | ⟨host, hlk⟩⟩ | ⟨hfin, hini, hdc, hlk⟩
  · exact va_put (ci := ci) hg.1 hg.2.1 hg.2.2.2.2.1 hu t0 hty hnm hg.2.2.2.1 hg.2.2.2.2.2.2.2.2.1.1 hP (ex_D G h) hS a he hc k hk (hg.2.2.2.2.1 _ hlk) (fun _ h9 => h9) hfin hd0 hn9 hf9 hlen hd kk'
  · exact va_putN (ci := ci) hg.1 hg.2.1 hg.2.2.2.2.1 hu t0 hty hnm hg.2.2.2.1 hg.2.2.2.2.2.2.2.2.1.1 hP (ex_D G h) hS a he hc k hk (va_Nw.use rfl (hg.2.2.2.2.2.2.2.2.1.2.1 _ hlk)) (fun _ h9 => h9) hfin hd0 hn9 hf9 hlen hd kk'
  · exact va_putF (ci := ci) hg.1 hg.2.1 hg.2.2.2.2.1 hu t0 hty hnm hg.2.2.2.1 hg.2.2.2.2.2.2.2.2.1.1 hP (ex_D G h) hS a he hc k hk (hg.2.2.2.2.1 _ hlk) (fun _ h9 => h9) hfin (by rw [hg.2.2.2.2.2.2.1]; exact hini) hdc hd0 hn9 hf9 hlen hd (kk')

theorem ex_puti {a idx : Nat} {x : Int32} (ci k : Nat) (ty : FieldType) (hd : decode M.2.1 pc = .ok (.putfield idx, 3)) (hf : ex_PF M.1.cls idx ci k false ty M.1.name) (ha : a < h.1) (hs : h.2.1 a = .inl ci) (hn9 : narrow ty (.int x) = .int x) (hf9 : fits ty (.int x) = true) (kk : EX M l G R Q p e s m args below meth c cells slots (pc + 3) L st (ex_si h a k x)) : EX M l G R Q p e s m args below meth c cells slots pc L (.int x :: .ref a :: st) h :=
  ex_putv (v := .int x) (h' := ex_si h a k x) hd hf ha hs hn9 hf9 rfl rfl rfl (fun i hi => ⟨ex_u2_ne _ _ _ hi, rfl⟩) (fun j hj => ⟨by simp [ex_si, ex_u2, hj], rfl⟩) (by simp [ex_si, ex_u2, ex_v]) kk
theorem ex_putr {a idx b : Nat} (ci k : Nat) (ty : FieldType) (hd : decode M.2.1 pc = .ok (.putfield idx, 3)) (hf : ex_PF M.1.cls idx ci k true ty M.1.name) (ha : a < h.1) (hs : h.2.1 a = .inl ci) (hn9 : narrow ty (.ref (G.1 + b)) = .ref (G.1 + b)) (hf9 : fits ty (.ref (G.1 + b)) = true) (kk : EX M l G R Q p e s m args below meth c cells slots (pc + 3) L st (ex_sr h a k (some b))) : EX M l G R Q p e s m args below meth c cells slots pc L (.ref b :: .ref a :: st) h :=
  ex_putv (v := .ref b) (h' := ex_sr h a k (some b)) hd hf ha hs hn9 hf9 rfl rfl rfl (fun i hi => ⟨rfl, ex_u2_ne _ _ _ hi⟩) (fun j hj => ⟨rfl, by simp [ex_sr, ex_u2, hj]⟩) (by simp [ex_sr, ex_u2, ex_v, va_rf]) kk
theorem ex_in {i : Int32} {n N : Nat} (hi : i.toInt = (n : Int)) (hn : n < N) : vp_in i N ∧ i.toNatClampNeg = n := by
  refine ⟨vp_in_iff.mpr (by omega), ?_⟩
  show i.toInt.toNat = n
  omega
theorem ex_iald {a t : Nat} {i : Int32} (n : Nat) (hd : decode M.2.1 pc = .ok (.iaload, 1)) (ha : a < h.1) (hs : h.2.1 a = .inr t) (hr : exRk t = false) (ht : exTy[t]? = some .int) (hi : i.toInt = (n : Int)) (hN : n < h.2.2.1 a) (kk : EX M l G R Q p e s m args below meth c cells slots (pc + 1) L (.int (h.2.2.2.1 a n) :: st) h) : EX M l G R Q p e s m args below meth c cells slots pc L (.int i :: .ref a :: st) h := by
  intro hg H ls locs hl hP hn hS
  obtain ⟨h1, h2⟩ := ex_in hi hN
  refine va_iald hg.1 hg.2.1 hg.2.2.2.2.2.2.2.2.1.1 hP a t (by rw [ex_w_at ha, ex_cell_i hs hr]) (ex_ty_at ht) h1 hd ?_
  rw [h2]
  exact kk hg H ls locs hl hP hn hS
theorem ex_cald {a t : Nat} {i : Int32} (n : Nat) (hd : decode M.2.1 pc = .ok (.caload, 1)) (ha : a < h.1) (hs : h.2.1 a = .inr t) (hr : exRk t = false) (ht : exTy[t]? = some .char) (hi : i.toInt = (n : Int)) (hN : n < h.2.2.1 a) (kk : EX M l G R Q p e s m args below meth c cells slots (pc + 1) L (.int (h.2.2.2.1 a n) :: st) h) : EX M l G R Q p e s m args below meth c cells slots pc L (.int i :: .ref a :: st) h := by
  intro hg H ls locs hl hP hn hS
  obtain ⟨h1, h2⟩ := ex_in hi hN
  refine va_cald hg.1 hg.2.1 hg.2.2.2.2.2.2.2.2.1.1 hP a t (by rw [ex_w_at ha, ex_cell_i hs hr]) (ex_ty_at ht) h1 hd ?_
  rw [h2]
  exact kk hg H ls locs hl hP hn hS
theorem ex_zald {a t : Nat} {i : Int32} (n : Nat) (hd : decode M.2.1 pc = .ok (.baload, 1)) (ha : a < h.1) (hs : h.2.1 a = .inr t) (hr : exRk t = false) (ht : exTy[t]? = some .boolean) (hi : i.toInt = (n : Int)) (hN : n < h.2.2.1 a) (kk : EX M l G R Q p e s m args below meth c cells slots (pc + 1) L (.int (h.2.2.2.1 a n) :: st) h) : EX M l G R Q p e s m args below meth c cells slots pc L (.int i :: .ref a :: st) h := by
  intro hg H ls locs hl hP hn hS
  obtain ⟨h1, h2⟩ := ex_in hi hN
  refine va_zald hg.1 hg.2.1 hg.2.2.2.2.2.2.2.2.1.1 hP a t (by rw [ex_w_at ha, ex_cell_i hs hr]) (ex_ty_at ht) h1 hd ?_
  rw [h2]
  exact kk hg H ls locs hl hP hn hS
theorem ex_bald {a t : Nat} {i : Int32} (n : Nat) (hd : decode M.2.1 pc = .ok (.baload, 1)) (ha : a < h.1) (hs : h.2.1 a = .inr t) (hr : exRk t = false) (ht : exTy[t]? = some .byte) (hi : i.toInt = (n : Int)) (hN : n < h.2.2.1 a) (kk : EX M l G R Q p e s m args below meth c cells slots (pc + 1) L (.int (h.2.2.2.1 a n) :: st) h) : EX M l G R Q p e s m args below meth c cells slots pc L (.int i :: .ref a :: st) h := by
  intro hg H ls locs hl hP hn hS
  obtain ⟨h1, h2⟩ := ex_in hi hN
  refine va_bald hg.1 hg.2.1 hg.2.2.2.2.2.2.2.2.1.1 hP a t (by rw [ex_w_at ha, ex_cell_i hs hr]) (ex_ty_at ht) h1 hd ?_
  rw [h2]
  exact kk hg H ls locs hl hP hn hS
theorem ex_iast {a t : Nat} {i x : Int32} (n : Nat) (hd : decode M.2.1 pc = .ok (.iastore, 1)) (ha : a < h.1) (hs : h.2.1 a = .inr t) (hr : exRk t = false) (ht : exTy[t]? = some .int) (hi : i.toInt = (n : Int)) (hN : n < h.2.2.1 a) (kk : EX M l G R Q p e s m args below meth c cells slots (pc + 1) L st (ex_si h a n x)) : EX M l G R Q p e s m args below meth c cells slots pc L (.int x :: .int i :: .ref a :: st) h := by
  intro hg H ls locs hl hP hn hS
  obtain ⟨h1, h2⟩ := ex_in hi hN
  refine va_iast hg.1 hg.2.1 hg.2.2.2.2.2.2.2.2.1.1 hP (ex_D G h) hS a t (by rw [ex_w_at ha, ex_cell_i hs hr]) (ex_ty_at ht) h1 hd ?_
  rw [h2]
  intro H1 locs1 hP1 _ hS1
  have hset : (ex_w G h).set a (G.1 + a, .inl (G.2.2 t, h.2.2.1 a, .inl (upd (h.2.2.2.1 a) n x))) = ex_w G (ex_si h a n x) := by
    refine ex_w_set ha rfl ?_ (fun j hj => ex_cell_c rfl rfl (ex_u2_ne _ _ _ hj) rfl)
    rw [ex_cell_i (h := ex_si h a n x) (t := t) hs hr]
    show Sum.inl (G.2.2 t, h.2.2.1 a, Sum.inl (ex_u2 h.2.2.2.1 a n x a)) = _
    rw [ex_u2_row]
    rfl
  rw [hset] at hP1
  exact kk hg H1 ls locs1 hl hP1 hn hS1
theorem ex_cast {a t : Nat} {i x : Int32} (n : Nat) (hd : decode M.2.1 pc = .ok (.castore, 1)) (ha : a < h.1) (hs : h.2.1 a = .inr t) (hr : exRk t = false) (ht : exTy[t]? = some .char) (hi : i.toInt = (n : Int)) (hN : n < h.2.2.1 a) (kk : EX M l G R Q p e s m args below meth c cells slots (pc + 1) L st (ex_si h a n (vp_nar .char x))) : EX M l G R Q p e s m args below meth c cells slots pc L (.int x :: .int i :: .ref a :: st) h := by
  intro hg H ls locs hl hP hn hS
  obtain ⟨h1, h2⟩ := ex_in hi hN
  refine va_cast hg.1 hg.2.1 hg.2.2.2.2.2.2.2.2.1.1 hP (ex_D G h) hS a t (by rw [ex_w_at ha, ex_cell_i hs hr]) (ex_ty_at ht) h1 hd ?_
  rw [h2]
  intro H1 locs1 hP1 _ hS1
  have hset : (ex_w G h).set a (G.1 + a, .inl (G.2.2 t, h.2.2.1 a, .inl (upd (h.2.2.2.1 a) n (vp_nar .char x)))) = ex_w G (ex_si h a n (vp_nar .char x)) := by
    refine ex_w_set ha rfl ?_ (fun j hj => ex_cell_c rfl rfl (ex_u2_ne _ _ _ hj) rfl)
    rw [ex_cell_i (h := ex_si h a n (vp_nar .char x)) (t := t) hs hr]
    show Sum.inl (G.2.2 t, h.2.2.1 a, Sum.inl (ex_u2 h.2.2.2.1 a n (vp_nar .char x) a)) = _
    rw [ex_u2_row]
    rfl
  rw [hset] at hP1
  exact kk hg H1 ls locs1 hl hP1 hn hS1
theorem ex_zast {a t : Nat} {i x : Int32} (n : Nat) (hd : decode M.2.1 pc = .ok (.bastore, 1)) (ha : a < h.1) (hs : h.2.1 a = .inr t) (hr : exRk t = false) (ht : exTy[t]? = some .boolean) (hi : i.toInt = (n : Int)) (hN : n < h.2.2.1 a) (kk : EX M l G R Q p e s m args below meth c cells slots (pc + 1) L st (ex_si h a n (vp_nar .boolean x))) : EX M l G R Q p e s m args below meth c cells slots pc L (.int x :: .int i :: .ref a :: st) h := by
  intro hg H ls locs hl hP hn hS
  obtain ⟨h1, h2⟩ := ex_in hi hN
  refine va_zast hg.1 hg.2.1 hg.2.2.2.2.2.2.2.2.1.1 hP (ex_D G h) hS a t (by rw [ex_w_at ha, ex_cell_i hs hr]) (ex_ty_at ht) h1 hd ?_
  rw [h2]
  intro H1 locs1 hP1 _ hS1
  have hset : (ex_w G h).set a (G.1 + a, .inl (G.2.2 t, h.2.2.1 a, .inl (upd (h.2.2.2.1 a) n (vp_nar .boolean x)))) = ex_w G (ex_si h a n (vp_nar .boolean x)) := by
    refine ex_w_set ha rfl ?_ (fun j hj => ex_cell_c rfl rfl (ex_u2_ne _ _ _ hj) rfl)
    rw [ex_cell_i (h := ex_si h a n (vp_nar .boolean x)) (t := t) hs hr]
    show Sum.inl (G.2.2 t, h.2.2.1 a, Sum.inl (ex_u2 h.2.2.2.1 a n (vp_nar .boolean x) a)) = _
    rw [ex_u2_row]
    rfl
  rw [hset] at hP1
  exact kk hg H1 ls locs1 hl hP1 hn hS1
theorem ex_bast {a t : Nat} {i x : Int32} (n : Nat) (hd : decode M.2.1 pc = .ok (.bastore, 1)) (ha : a < h.1) (hs : h.2.1 a = .inr t) (hr : exRk t = false) (ht : exTy[t]? = some .byte) (hi : i.toInt = (n : Int)) (hN : n < h.2.2.1 a) (kk : EX M l G R Q p e s m args below meth c cells slots (pc + 1) L st (ex_si h a n (vp_nar .byte x))) : EX M l G R Q p e s m args below meth c cells slots pc L (.int x :: .int i :: .ref a :: st) h := by
  intro hg H ls locs hl hP hn hS
  obtain ⟨h1, h2⟩ := ex_in hi hN
  refine va_bast hg.1 hg.2.1 hg.2.2.2.2.2.2.2.2.1.1 hP (ex_D G h) hS a t (by rw [ex_w_at ha, ex_cell_i hs hr]) (ex_ty_at ht) h1 hd ?_
  rw [h2]
  intro H1 locs1 hP1 _ hS1
  have hset : (ex_w G h).set a (G.1 + a, .inl (G.2.2 t, h.2.2.1 a, .inl (upd (h.2.2.2.1 a) n (vp_nar .byte x)))) = ex_w G (ex_si h a n (vp_nar .byte x)) := by
    refine ex_w_set ha rfl ?_ (fun j hj => ex_cell_c rfl rfl (ex_u2_ne _ _ _ hj) rfl)
    rw [ex_cell_i (h := ex_si h a n (vp_nar .byte x)) (t := t) hs hr]
    show Sum.inl (G.2.2 t, h.2.2.1 a, Sum.inl (ex_u2 h.2.2.2.1 a n (vp_nar .byte x) a)) = _
    rw [ex_u2_row]
    rfl
  rw [hset] at hP1
  exact kk hg H1 ls locs1 hl hP1 hn hS1
theorem ex_aald {a t b : Nat} {i : Int32} {C : String} (n : Nat) (hd : decode M.2.1 pc = .ok (.aaload, 1)) (ha : a < h.1) (hs : h.2.1 a = .inr t) (hr : exRk t = true) (ht : exTy[t]? = some (.object C)) (hi : i.toInt = (n : Int)) (hN : n < h.2.2.1 a) (hb : h.2.2.2.2 a n = some b) (kk : EX M l G R Q p e s m args below meth c cells slots (pc + 1) L (.ref b :: st) h) : EX M l G R Q p e s m args below meth c cells slots pc L (.int i :: .ref a :: st) h := by
  intro hg H ls locs hl hP hn hS
  obtain ⟨h1, h2⟩ := ex_in hi hN
  refine va_aldq hg.1 hg.2.1 hg.2.2.2.2.2.2.2.2.1.1 hP a t (by rw [ex_w_at ha, ex_cell_q hs hr]) (ex_ty_at ht) h1 hd ?_
  rw [h2, hb]
  exact kk hg H ls locs hl hP hn hS
theorem ex_aast {a t b ci : Nat} {i : Int32} {r : vw_C} (n : Nat) (hd : decode M.2.1 pc = .ok (.aastore, 1)) (ha : a < h.1) (hs : h.2.1 a = .inr t) (hr : exRk t = true) (ht : exTy[t]? = some (.object r.1)) (hb : b < h.1) (hsb : h.2.1 b = .inl ci) (hc : exCl[ci]? = some r) (hi : i.toInt = (n : Int)) (hN : n < h.2.2.1 a) (kk : EX M l G R Q p e s m args below meth c cells slots (pc + 1) L st (ex_sr h a n (some b))) : EX M l G R Q p e s m args below meth c cells slots pc L (.ref b :: .int i :: .ref a :: st) h := by
  intro hg H ls locs hl hP hn hS
  obtain ⟨h1, h2⟩ := ex_in hi hN
  refine va_astq hg.1 hg.2.1 hg.2.2.2.2.2.2.2.2.1.1 hP (ex_D G h) hS a t b ci (by rw [ex_w_at ha, ex_cell_q hs hr]) (ex_ty_at ht) (by rw [ex_w_at hb, ex_cell_o hsb]) hc h1 hd ?_
  rw [h2]
  intro H1 locs1 hP1 _ hS1
  have hset : (ex_w G h).set a (G.1 + a, .inl (G.2.2 t, h.2.2.1 a, .inr (.inr (.inr (.inr (va_up (fun j => (h.2.2.2.2 a j).map (G.1 + ·)) n (some (G.1 + b)))))))) = ex_w G (ex_sr h a n (some b)) := by
    refine ex_w_set ha rfl ?_ (fun j hj => ex_cell_c rfl rfl rfl (ex_u2_ne _ _ _ hj))
    rw [ex_cell_q (h := ex_sr h a n (some b)) (t := t) hs hr]
    show Sum.inl (G.2.2 t, h.2.2.1 a, Sum.inr (Sum.inr (Sum.inr (Sum.inr (fun j => (ex_u2 h.2.2.2.2 a n (some b) a j).map (G.1 + ·)))))) = _
    congr 7
    funext j
    rw [ex_u2_row]
    by_cases hj : j = n
    · subst hj
      simp [va_up]
    · simp [va_up, hj]
  rw [hset] at hP1
  exact kk hg H1 ls locs1 hl hP1 hn hS1
theorem ex_alen {a t : Nat} {ty : FieldType} (hd : decode M.2.1 pc = .ok (.arraylength, 1)) (ha : a < h.1) (hs : h.2.1 a = .inr t) (ht : exTy[t]? = some ty) (kk : EX M l G R Q p e s m args below meth c cells slots (pc + 1) L (.int (Int32.ofNat (h.2.2.1 a)) :: st) h) : EX M l G R Q p e s m args below meth c cells slots pc L (.ref a :: st) h := by
  intro hg H ls locs hl hP hn hS
  cases hr : exRk t with
  | false => exact va_alen (x := (h.2.2.1 a, .inl (h.2.2.2.1 a))) hg.1 hg.2.1 hg.2.2.2.2.2.2.2.2.1.1 hP a t (by rw [ex_w_at ha, ex_cell_i hs hr]) (ex_ty_at ht) rfl hd (kk hg H ls locs hl hP hn hS)
  | true => exact va_alen (x := (h.2.2.1 a, .inr (.inr (.inr (.inr (fun j => (h.2.2.2.2 a j).map (G.1 + ·))))))) hg.1 hg.2.1 hg.2.2.2.2.2.2.2.2.1.1 hP a t (by rw [ex_w_at ha, ex_cell_q hs hr]) (ex_ty_at ht) rfl hd (kk hg H ls locs hl hP hn hS)
theorem ex_iret {x : Int32} {ty : FieldType} (hd : decode M.2.1 pc = .ok (.ireturn, 1)) (hr : M.2.2.2 = some ty) (hx : narrow ty (.int x) = .int x) (hc : cells = mc) (hs : slots ≤ ms) (hq : Post (some (.int x)) h) : EX M l G (ex_rm d mc ms) (MQ below (ex_Q G mc Post) args s mc ms (fun q => G.1 ≤ q)) p e s m args below meth c cells slots pc L [.int x] h := by
  intro hg H ls locs hl hP hn hS
  refine ex_size fun hz => ?_
  have hlo := ex_low hP hS hg.2.2.2.2.2.2.2.2.2
  subst hc
  refine W.widen (Nat.le_refl _) hs ?_
  exact W.zret hg.1 hg.2.1 (by rw [hg.2.2.2.2.2.2.2.1]; exact hr) hx (fun t ht hW => ⟨⟨some (.int x), h, rfl, hq, ⟨by rw [ht]; exact hP, by rw [ht]; omega, ex_K.warm hW hg.2.2.2.2.2.2.2.2.1⟩, hn⟩, hS.F ht⟩) hS.2.2 hd hg.2.2.2.2.2.1
theorem ex_vret (hd : decode M.2.1 pc = .ok (.return_, 1)) (hr : M.2.2.2 = none) (hc : cells = mc) (hs : slots ≤ ms) (hq : Post none h) : EX M l G (ex_rm d mc ms) (MQ below (ex_Q G mc Post) args s mc ms (fun q => G.1 ≤ q)) p e s m args below meth c cells slots pc L [] h := by
  intro hg H ls locs hl hP hn hS
  refine ex_size fun hz => ?_
  have hlo := ex_low hP hS hg.2.2.2.2.2.2.2.2.2
  subst hc
  refine W.widen (Nat.le_refl _) hs ?_
  exact W.vret hg.1 hg.2.1 (by rw [hg.2.2.2.2.2.2.2.1]; exact hr) (fun t ht hW => ⟨⟨none, h, rfl, hq, ⟨by rw [ht]; exact hP, by rw [ht]; omega, ex_K.warm hW hg.2.2.2.2.2.2.2.2.1⟩, hn⟩, hS.F ht⟩) hS.2.2 hd hg.2.2.2.2.2.1
theorem ex_aret {a : Nat} {C : String} (hd : decode M.2.1 pc = .ok (.areturn, 1)) (hr : M.2.2.2 = some (.object C)) (hc : cells = mc) (hs : slots ≤ ms) (hq : Post (some (.ref a)) h) : EX M l G (ex_rm d mc ms) (MQ below (ex_Q G mc Post) args s mc ms (fun q => G.1 ≤ q)) p e s m args below meth c cells slots pc L [.ref a] h := by
  intro hg H ls locs hl hP hn hS
  refine ex_size fun hz => ?_
  have hlo := ex_low hP hS hg.2.2.2.2.2.2.2.2.2
  subst hc
  refine W.widen (Nat.le_refl _) hs ?_
  exact W.aret hg.1 hg.2.1 (by rw [hg.2.2.2.2.2.2.2.1]; exact hr) (Or.inl ⟨_, rfl⟩) (Or.inr ⟨_, rfl⟩) (fun t ht hW => ⟨⟨some (.ref a), h, rfl, hq, ⟨by rw [ht]; exact hP, by rw [ht]; omega, ex_K.warm hW hg.2.2.2.2.2.2.2.2.1⟩, hn⟩, hS.F ht⟩) hS.2.2 hd hg.2.2.2.2.2.1
def ex_MW (M' : ex_M) (n : Nat) : Prop := Cond.code M'.1 M'.2.1 M'.2.2.1 M'.2.2.2 ∈ exTW ∧ Cond.initialized M'.1.cls ∈ exTW ∧ M'.1.cls ≠ "java/lang/invoke/MethodHandle" ∧ M'.1.cls ≠ "java/lang/invoke/VarHandle" ∧ (parseMethodDescriptor M'.1.desc).map (fun d => d.parameters.length) = some n ∧ M'.2.2.1 ≤ 45
def ex_MI (M' : ex_M) : Prop := Cond.instanceMethod M'.1 ∈ exTW ∧ Cond.selects M'.1.cls M'.1 M'.1 ∈ exTW
def ex_LK (own : String) (idx : Nat) (y : MethodName) : Prop := Cond.methodLink own idx y ∈ exTW ∨ ∃ host, Cond.methodLinkNest own idx y host ∈ exNW
theorem ex_good {M' : ex_M} (h : Cond.code M'.1 M'.2.1 M'.2.2.1 M'.2.2.2 ∈ exTW) : GoodIn exTW (.code M'.1 M'.2.1 M'.2.2.1 M'.2.2.2 :: exTW) := by
  intro w hw
  rcases List.mem_cons.mp hw with rfl | hw
  · exact ⟨h, Or.inl rfl⟩
  · exact ⟨hw, good_of_word (exTW_good w hw)⟩
theorem ex_blind {as : List Value} : FrameBlind (va_Pc (as.map (ex_v G.1)) (ex_P G h)) := by
  intro a U g mk q
  obtain ⟨q0, q1, q2, q3⟩ := q
  exact ⟨q0, q1, q2, ex_K.same (s := U) (U := U.calling g mk a) rfl q3⟩
theorem ex_pre {as : List Value} {H : Heap} (hP : va_P G.2.1 exCl (ex_w G h) H) (hz : H.size = G.1 + h.1) (hK : ex_K G s) : ∀ U : State, U.heap = H → s.WarmedH U.vm → va_Pc (as.map (ex_v G.1)) (ex_P G h) (as.map (ex_v G.1)).toArray U :=
  fun U hU hW => ⟨rfl, by rw [hU]; exact hP, by rw [hU]; exact hz, ex_K.warm hW hK⟩
theorem ex_after {P : Option Value → ex_H → Prop} {H : Heap} {ls : Array Slot} {locs : List Loc} {st0 : List Value} {a0 : Array Value} {mc' ms' : Nat} (hg : ex_ok M G p s m args meth c) (hl : ex_has G.1 M.2.2.1 ls L) (hn : s.heap.size + cells = G.1 + h.1) (hz : H.size = G.1 + h.1) (hS : va_S (fun q => G.1 ≤ q) s.heap H locs) (hr : va_Run p l e R s m args below meth c H locs cells slots mc' ms' (F0 m pc ls st0) (st.map (ex_v G.1)) (ex_Q G mc' P a0) (fun q => G.1 ≤ q))
    (kk : ∀ r h', P r h' → EX M l G R Q p e s m args below meth c (cells + mc') (slots + ms') (pc + 3) L (r.toList ++ st) h') : W p l e R s m args below meth c H locs cells slots Q (F0 m pc ls st0) := by
  intro T hT X
  obtain ⟨v, st₀, t, T', L', h0, X', hL, e1, e2, ⟨⟨r, h', hv, hp, ⟨hP1, hz1, hK1⟩, hsz⟩, hz2, hk⟩, st9⟩ := hr T hT X
  cases hv
  rw [h0] at hz2 hk hsz
  have hS1 : va_S (fun q => G.1 ≤ q) s.heap T'.heap (locs ++ L') := by
    refine ⟨Nat.le_trans hS.1 (by rw [e1]; exact hz2), fun q h1 h2 => ?_, fun q hq => ?_⟩
    · rw [e1, hk q (Nat.lt_of_lt_of_le h1 hS.1) h2]
      exact hS.2.1 q h1 h2
    · rcases List.mem_append.mp hq with h9 | h9
      · exact hS.2.2 q h9
      · exact hL q h9
  obtain ⟨t2, a1, b1⟩ := kk r h' hp hg T'.heap ls (locs ++ L') hl (by rw [e1]; exact hP1) (by omega) hS1 T' rfl X'
  refine ⟨t2, st9 t2 ?_, b1⟩
  have e9 : (r.toList ++ st).map (ex_v G.1) = (r.map (ex_v G.1)).toList ++ st.map (ex_v G.1) := by cases r <;> simp
  rw [e9] at a1
  exact a1
theorem ex_cat (st : List Value) (h8 : (st.map fun v => v.category).sum ≤ 8) : ((st.map (ex_v G.1)).map fun v => v.category).sum ≤ 8 := by
  have e : (st.map (ex_v G.1)).map (fun v => v.category) = st.map fun v => v.category := by
    rw [List.map_map]
    exact List.map_congr_left (fun v _ => ex_v_cat _ v)
  rw [e]
  exact h8
theorem ex_callV {a ci : Nat} {r0 : vw_C} {M' : ex_M} {P : Option Value → ex_H → Prop} {idx n d' mc' ms' : Nat} {as st stk : List Value} (hd : decode M.2.1 pc = .ok (.invokevirtual idx, 3)) (hw : ex_MW M' n) (hi : ex_MI M') (hlk : ex_LK M.1.cls idx M'.1) (ha : a < h.1) (hs : h.2.1 a = .inl ci) (hc : exCl[ci]? = some r0) (hcn : r0.1 = M'.1.cls) (hct : CT l G d' M' (.ref a :: as) h mc' ms' P) (hdd : ex_lt R d') (hroom : cells + mc' ≤ R.cells ∧ slots + ms' ≤ R.slots) (hlen : as.length = n) (hstk : stk = as.reverse ++ .ref a :: st) (h8 : (st.map fun v => v.category).sum ≤ 8) (kk : ∀ r h', P r h' → EX M l G R Q p e s m args below meth c (cells + mc') (slots + ms') (pc + 3) L (r.toList ++ st) h') : EX M l G R Q p e s m args below meth c cells slots pc L stk h := by
  subst hstk
  intro hg H ls locs hl hP hn hS
  refine ex_size fun hz => ?_
  have hlo := ex_low hP hS hg.2.2.2.2.2.2.2.2.2
  have hz1 : H.size = G.1 + h.1 := by omega
  obtain ⟨w1, w2, w3, w4, w5, w6⟩ := hw
  have hts := hg.2.2.2.2.1
  have hpv : PreV s H M'.1.cls (G.1 + a) (va_Pc ((Value.ref a :: as).map (ex_v G.1)) (ex_P G h)) (as.map (ex_v G.1)) := by
    refine ⟨ex_blind, ?_, ex_pre (as := .ref a :: as) hP hz1 hg.2.2.2.2.2.2.2.2.1⟩
    rw [← hcn]
    exact va_recv hg.2.2.2.2.2.2.2.2.1.1 hP hc (by rw [ex_w_at ha, ex_cell_o hs])
  have hstk2 : (F0 m pc ls ((as.reverse ++ .ref a :: st).map (ex_v G.1))).stack = (as.map (ex_v G.1)).reverse ++ .ref (G.1 + a) :: st.map (ex_v G.1) := by
    show (as.reverse ++ .ref a :: st).map (ex_v G.1) = _
    rw [List.map_append, List.map_reverse]
    rfl
  have hR : (ex_rm d' mc' ms').frames + 1 ≤ R.frames ∧ 8 + (M'.2.2.1 + 11) + (ex_rm d' mc' ms').locals ≤ R.locals := by
    refine ⟨hdd.1, ?_⟩
    have h9 := hdd.2
    show 8 + (M'.2.2.1 + 11) + 64 * d' ≤ R.locals
    omega
  rcases hlk with hlk | ⟨host, hlk⟩
  · exact ex_after hg hl hn hz1 hS (va_runV (nL := M.2.2.1) ⟨hg.1, hg.2.1, hg.2.2.1, hg.2.2.2.1, hts⟩ hct ⟨callB_of n hts (ex_good w1) rfl rfl rfl (hts _ w2) (hts _ hlk) ⟨w3, w4, w5⟩ hR, hts _ hi.1, hts _ hi.2⟩ hpv rfl (by rw [List.length_map]; exact hlen) hl.1 hstk2 (lv_room (ex_cat st h8)) hd hroom) kk
  · exact ex_after hg hl hn hz1 hS (va_runVN (nL := M.2.2.1) (C := M'.1.cls) ⟨hg.1, hg.2.1, hg.2.2.1, hg.2.2.2.1, hts⟩ hct ⟨va_cnB n hts (ex_good w1) rfl rfl rfl (hg.2.2.2.2.2.2.2.2.1.2.1 _ hlk) (hts _ w2) ⟨w3, w4, w5⟩ hR, hts _ hi.1, hts _ hi.2⟩ hpv rfl (by rw [List.length_map]; exact hlen) hl.1 hstk2 (lv_room (ex_cat st h8)) hd hroom) kk
theorem ex_callS {M' : ex_M} {P : Option Value → ex_H → Prop} {idx n d' mc' ms' : Nat} {as st stk : List Value} (hd : decode M.2.1 pc = .ok (.invokestatic idx, 3)) (hw : ex_MW M' n) (hi : Cond.static M'.1 ∈ exTW) (hlk : ex_LK M.1.cls idx M'.1) (hct : CT l G d' M' as h mc' ms' P) (hdd : ex_lt R d') (hroom : cells + mc' ≤ R.cells ∧ slots + ms' ≤ R.slots) (hlen : as.length = n) (hstk : stk = as.reverse ++ st) (h8 : (st.map fun v => v.category).sum ≤ 8) (kk : ∀ r h', P r h' → EX M l G R Q p e s m args below meth c (cells + mc') (slots + ms') (pc + 3) L (r.toList ++ st) h') : EX M l G R Q p e s m args below meth c cells slots pc L stk h := by
  subst hstk
  intro hg H ls locs hl hP hn hS
  refine ex_size fun hz => ?_
  have hlo := ex_low hP hS hg.2.2.2.2.2.2.2.2.2
  have hz1 : H.size = G.1 + h.1 := by omega
  obtain ⟨w1, w2, w3, w4, w5, w6⟩ := hw
  have hts := hg.2.2.2.2.1
  have hpv : PreS s H (va_Pc (as.map (ex_v G.1)) (ex_P G h)) (as.map (ex_v G.1)) := ⟨ex_blind, ex_pre hP hz1 hg.2.2.2.2.2.2.2.2.1⟩
  have hstk2 : (F0 m pc ls ((as.reverse ++ st).map (ex_v G.1))).stack = (as.map (ex_v G.1)).reverse ++ st.map (ex_v G.1) := by
    show (as.reverse ++ st).map (ex_v G.1) = _
    rw [List.map_append, List.map_reverse]
  have hR : (ex_rm d' mc' ms').frames + 1 ≤ R.frames ∧ 8 + (M'.2.2.1 + 11) + (ex_rm d' mc' ms').locals ≤ R.locals := by
    refine ⟨hdd.1, ?_⟩
    have h9 := hdd.2
    show 8 + (M'.2.2.1 + 11) + 64 * d' ≤ R.locals
    omega
  rcases hlk with hlk | ⟨host, hlk⟩
  · exact ex_after hg hl hn hz1 hS (va_runS (nL := M.2.2.1) ⟨hg.1, hg.2.1, hg.2.2.1, hg.2.2.2.1, hts⟩ hct ⟨callB_of n hts (ex_good w1) rfl rfl rfl (hts _ w2) (hts _ hlk) ⟨w3, w4, w5⟩ hR, hts _ hi⟩ hpv rfl (by rw [List.length_map]; exact hlen) hl.1 hstk2 (lv_room (ex_cat st h8)) hd hroom) kk
  · exact ex_after hg hl hn hz1 hS (va_runSN (nL := M.2.2.1) ⟨hg.1, hg.2.1, hg.2.2.1, hg.2.2.2.1, hts⟩ hct ⟨va_cnB n hts (ex_good w1) rfl rfl rfl (hg.2.2.2.2.2.2.2.2.1.2.1 _ hlk) (hts _ w2) ⟨w3, w4, w5⟩ hR, hts _ hi, trivial⟩ hpv rfl (by rw [List.length_map]; exact hlen) hl.1 hstk2 (lv_room (ex_cat st h8)) hd hroom) kk
theorem ex_callI {a : Nat} {M' : ex_M} {P : Option Value → ex_H → Prop} {idx n d' mc' ms' : Nat} {as st stk : List Value} (hd : decode M.2.1 pc = .ok (.invokespecial idx, 3)) (hw : ex_MW M' n) (hi : Cond.instanceMethod M'.1 ∈ exTW) (hnm : M'.1.name = "<init>") (hret : M'.2.2.2 = none) (hlk : ex_LK M.1.cls idx M'.1) (hct : CT l G d' M' (.ref a :: as) h mc' ms' P) (hdd : ex_lt R d') (hroom : cells + mc' ≤ R.cells ∧ slots + ms' ≤ R.slots) (hlen : as.length = n) (hstk : stk = as.reverse ++ .ref a :: st) (h8 : (st.map fun v => v.category).sum ≤ 8) (kk : ∀ r h', P r h' → EX M l G R Q p e s m args below meth c (cells + mc') (slots + ms') (pc + 3) L (r.toList ++ st) h') : EX M l G R Q p e s m args below meth c cells slots pc L stk h := by
  subst hstk
  intro hg H ls locs hl hP hn hS
  refine ex_size fun hz => ?_
  have hlo := ex_low hP hS hg.2.2.2.2.2.2.2.2.2
  have hz1 : H.size = G.1 + h.1 := by omega
  obtain ⟨w1, w2, w3, w4, w5, w6⟩ := hw
  have hts := hg.2.2.2.2.1
  have hpv : PreS s H (va_Pc ((Value.ref a :: as).map (ex_v G.1)) (ex_P G h)) (.ref (G.1 + a) :: as.map (ex_v G.1)) := ⟨ex_blind, ex_pre (as := .ref a :: as) hP hz1 hg.2.2.2.2.2.2.2.2.1⟩
  have hstk2 : (F0 m pc ls ((as.reverse ++ .ref a :: st).map (ex_v G.1))).stack = (as.map (ex_v G.1)).reverse ++ .ref (G.1 + a) :: st.map (ex_v G.1) := by
    show (as.reverse ++ .ref a :: st).map (ex_v G.1) = _
    rw [List.map_append, List.map_reverse]
    rfl
  have hR : (ex_rm d' mc' ms').frames + 1 ≤ R.frames ∧ 8 + (M'.2.2.1 + 11) + (ex_rm d' mc' ms').locals ≤ R.locals := by
    refine ⟨hdd.1, ?_⟩
    have h9 := hdd.2
    show 8 + (M'.2.2.1 + 11) + 64 * d' ≤ R.locals
    omega
  have hcode : Cond.code M'.1 M'.2.1 M'.2.2.1 M'.2.2.2 = Cond.code M'.1 M'.2.1 M'.2.2.1 none := by rw [hret]
  rcases hlk with hlk | ⟨host, hlk⟩
  · exact ex_after hg hl hn hz1 hS (va_runI (nL := M.2.2.1) (bytes := M'.2.1) (maxL := M'.2.2.1) ⟨hg.1, hg.2.1, hg.2.2.1, hg.2.2.2.1, hts⟩ hct ⟨callB_of n hts (ex_good w1) (by rw [hcode]) rfl rfl (hts _ w2) (hts _ hlk) ⟨w3, w4, w5⟩ hR, hnm, hts _ hi⟩ hpv rfl (by rw [List.length_map]; exact hlen) hl.1 hstk2 (lv_room (ex_cat st h8)) hd hroom) kk
  · exact ex_after hg hl hn hz1 hS (va_runIN (nL := M.2.2.1) (bytes := M'.2.1) (maxL := M'.2.2.1) ⟨hg.1, hg.2.1, hg.2.2.1, hg.2.2.2.1, hts⟩ hct ⟨va_cnB n hts (ex_good w1) (by rw [hcode]) rfl rfl (hg.2.2.2.2.2.2.2.2.1.2.1 _ hlk) (hts _ w2) ⟨w3, w4, w5⟩ hR, hnm, hts _ hi⟩ hpv rfl (by rw [List.length_map]; exact hlen) hl.1 hstk2 (lv_room (ex_cat st h8)) hd hroom) kk
theorem ex_objInit {idx a : Nat} (hd : decode M.2.1 pc = .ok (.invokespecial idx, 3)) (hw1 : Cond.methodLink M.1.cls idx Lib.objectInit ∈ exTW) (hw2 : Cond.instanceMethod Lib.objectInit ∈ exTW) (hw3 : Cond.code Lib.objectInit ⟨#[0xb1]⟩ 1 none ∈ exTW) (hdd : ex_lt R 0) (h8 : (st.map fun v => v.category).sum ≤ 8) (kk : EX M l G R Q p e s m args below meth c cells slots (pc + 3) L st h) : EX M l G R Q p e s m args below meth c cells slots pc L (.ref a :: st) h := by
  intro hg H ls locs hl hP hn hS
  have hts := hg.2.2.2.2.1
  refine W.objInit hg.1 hg.2.1 hg.2.2.2.1 (hts _ hw1) (hts _ hw2) (hts _ hw3) rfl (by rw [hg.2.2.1]; exact hl.1) rfl hd hdd.1 ?_ (kk hg H ls locs hl hP hn hS)
  have h9 := lv_room (m := m) (pc := pc) (ls := ls) (rest := (Value.ref a :: st).map (ex_v G.1)) (ex_cat (G := G) st h8)
  have h7 := hdd.2
  omega
theorem ex_RA {c1 c2 : ClassId} {ty : FieldType} (h1 : va_RA s c1 ty) (h2 : va_RA s c2 ty) : c1 = c2 := by
  cases ty with
  | object C =>
    obtain ⟨_, _, -, -, -, e1⟩ := h1
    obtain ⟨_, _, -, -, -, e2⟩ := h2
    exact Option.some.inj (e1.symm.trans e2)
  | _ => exact Option.some.inj (Eq.trans (Eq.symm h1) h2)
theorem ex_newat {H1 : Heap} {q : Nat} {E : va_E} (hP1 : va_P G.2.1 exCl (ex_w G h ++ [(q, E)]) H1) (hD1 : va_D (fun q => G.1 ≤ q) (ex_w G h ++ [(q, E)])) (hz : H1.size ≤ G.1 + h.1 + 1) : q = G.1 + h.1 := by
  have hat : (ex_w G h ++ [(q, E)])[h.1]? = some (q, E) := by
    rw [List.getElem?_append_right (by rw [ex_w_len]; exact Nat.le_refl _), ex_w_len, Nat.sub_self]
    rfl
  have h1 : q < H1.size := (hP1 h.1 _ hat).lt
  have h2 : G.1 ≤ q := hD1.2 h.1 _ hat
  have h3 : ¬ q < G.1 + h.1 := by
    intro hlt
    have hk : q - G.1 < h.1 := by omega
    have h4 : (ex_w G h ++ [(q, E)])[q - G.1]? = some (G.1 + (q - G.1), ex_cell G h (q - G.1)) := by
      rw [List.getElem?_append_left (by rw [ex_w_len]; exact hk), ex_w_at hk]
    have h5 := hD1.1 _ _ _ _ h4 hat (show G.1 + (q - G.1) = q by omega)
    omega
  omega
/-- a class of the tables: its name, its fields, what a new object holds -/
def ex_CL (ci : Nat) (C : String) (N : Nat) : Prop := ∃ (T : u_T) (ty : Nat → FieldType), exCl[ci]? = some (C, T, N) ∧ (exFk ci).length = N ∧ (∀ w ∈ u_ws C T N, w ∈ exTW) ∧ (∀ k, k < N → parseFieldDescriptor (T k).2.2.1 = some (ty k)) ∧ (∀ k, k < N → defaultValue (ty k) = if (exFk ci).getD k false = true then .null else .int 0) ∧ Cond.instantiable C N ∈ exTW ∧ Cond.initialized C ∈ exTW
theorem ex_new {idx N : Nat} {C : String} (ci : Nat) (hd : decode M.2.1 pc = .ok (.new idx, 3)) (hcl : ex_CL ci C N) (hlk : Cond.classLink M.1.cls idx C ∈ exTW) (hc1 : cells + 1 ≤ R.cells) (hs1 : slots + N ≤ R.slots) (kk : EX M l G R Q p e s m args below meth c (cells + 1) (slots + N) (pc + 3) L (.ref h.1 :: st) (ex_no h ci)) : EX M l G R Q p e s m args below meth c cells slots pc L st h := by
  intro hg H ls locs hl hP hn hS
  obtain ⟨T, ty, hc, hN, hu, hty, hdf, hw1, hw2⟩ := hcl
  have hts := hg.2.2.2.2.1
  have hfs : ∀ j, j < N → defaultValue (ty j) = vp_V (ex_fs G.1 (exFk ci) (fun _ => 0) (fun _ => none)) j := by
    intro j hj
    have e9 : (ex_fs G.1 (exFk ci) (fun _ => 0) (fun _ => none)).getD j .null = if (exFk ci).getD j false = true then .null else .int 0 := by
      rw [List.getD_eq_getElem?_getD, ex_fs_at (by rw [hN]; exact hj)]
      rfl
    rw [hdf j hj]
    exact e9.symm
  refine va_new (ci := ci) hg.1 hg.2.1 hts hu ty hty hg.2.2.2.1 (hts _ hlk) (hts _ hw1) (hts _ hw2) hg.2.2.2.2.2.2.2.2.1.1 hP (ex_D G h) hS (fun q hq => Nat.le_trans hg.2.2.2.2.2.2.2.2.2 hq) hc hfs hc1 hs1 hd (fun q H1 hP1 hD1 hS1 => ?_)
  refine ex_size fun hz => ?_
  have hq := ex_newat hP1 hD1 (by omega)
  subst hq
  have hw : ex_w G h ++ [(G.1 + h.1, .inr (ci, ex_fs G.1 (exFk ci) (fun _ => 0) (fun _ => none)))] = ex_w G (ex_no h ci) := by
    have e1 : ex_cell G (ex_no h ci) h.1 = .inr (ci, ex_fs G.1 (exFk ci) (fun _ => 0) (fun _ => none)) := by
      rw [ex_cell_o (h := ex_no h ci) (ci := ci) (va_up_self _ _ _)]
      show Sum.inr (ci, ex_fs G.1 (exFk ci) (va_up h.2.2.2.1 h.1 (fun _ => 0) h.1) (va_up h.2.2.2.2 h.1 (fun _ => none) h.1)) = _
      rw [va_up_self, va_up_self]
    rw [← e1]
    exact ex_w_push rfl (fun j hj => ex_cell_c (va_up_ne _ _ (Nat.ne_of_lt hj)) rfl (va_up_ne _ _ (Nat.ne_of_lt hj)) (va_up_ne _ _ (Nat.ne_of_lt hj)))
  rw [hw] at hP1
  refine kk hg H1 ls locs hl hP1 ?_ hS1
  show _ = G.1 + (h.1 + 1)
  omega
theorem ex_newarr {x : Int32} {atype : ArrayType} {ty : FieldType} (t n : Nat) (hd : decode M.2.1 pc = .ok (.newarray atype, 2)) (harr : Cond.arrayClass (newarray.typeOf atype) ∈ exTW) (hty : newarray.typeOf atype = ty) (ht : exTy[t]? = some ty) (hr : exRk t = false) (hdv : defaultValue ty = .int 0) (hx : x.toInt = (n : Int)) (hb : n * componentBytes ty ≤ 536870912) (hc1 : cells + 1 ≤ R.cells) (hs1 : slots + n ≤ R.slots) (kk : EX M l G R Q p e s m args below meth c (cells + 1) (slots + n) (pc + 2) L (.ref h.1 :: st) (ex_na h t n)) : EX M l G R Q p e s m args below meth c cells slots pc L (.int x :: st) h := by
  intro hg H ls locs hl hP hn hS
  have hts := hg.2.2.2.2.1
  have hx0 : ¬ x < 0 := fun q => by
    have h1 := Int32.lt_iff_toInt_lt.mp q
    have h2 : (0 : Int32).toInt = 0 := rfl
    omega
  refine va_newa (a0 := (n, .inl (fun _ => 0))) hg.1 hg.2.1 (hts _ harr) hty hg.2.2.2.2.2.2.2.2.1.1 hP (ex_D G h) hS (fun q hq => Nat.le_trans hg.2.2.2.2.2.2.2.2.2 hq) (fun cA => by rw [vp_cell_i, hdv]) hx0 (show x.toInt.toNat = n by omega) hb hc1 hs1 hd (fun q cA H1 hK1 hP1 hD1 hS1 => ?_)
  refine ex_size fun hz => ?_
  have hq := ex_newat hP1 hD1 (by omega)
  subst hq
  have hcA : cA = G.2.2 t := by
    have h1 := (hK1.2 (ex_ty G).length _ (by rw [List.getElem?_append_right (Nat.le_refl _), Nat.sub_self]; rfl)).2
    exact ex_RA h1 (hg.2.2.2.2.2.2.2.2.1.1.2 t _ (ex_ty_at ht)).2
  subst hcA
  have hw : ex_w G h ++ [(G.1 + h.1, .inl (G.2.2 t, n, .inl (fun _ => 0)))] = ex_w G (ex_na h t n) := by
    have e1 : ex_cell G (ex_na h t n) h.1 = .inl (G.2.2 t, n, .inl (fun _ => 0)) := by
      rw [ex_cell_i (h := ex_na h t n) (t := t) (va_up_self _ _ _) hr]
      show Sum.inl (G.2.2 t, va_up h.2.2.1 h.1 n h.1, Sum.inl (va_up h.2.2.2.1 h.1 (fun _ => 0) h.1)) = _
      rw [va_up_self, va_up_self]
    rw [← e1]
    exact ex_w_push rfl (fun j hj => ex_cell_c (va_up_ne _ _ (Nat.ne_of_lt hj)) (va_up_ne _ _ (Nat.ne_of_lt hj)) (va_up_ne _ _ (Nat.ne_of_lt hj)) (va_up_ne _ _ (Nat.ne_of_lt hj)))
  rw [hw] at hP1
  refine kk hg H1 ls locs hl hP1 ?_ hS1
  show _ = G.1 + (h.1 + 1)
  omega
theorem ex_newref {x : Int32} {idx : Nat} {C : String} (t n : Nat) (hd : decode M.2.1 pc = .ok (.anewarray idx, 3)) (hlk : Cond.classLink M.1.cls idx C ∈ exTW) (hao : C ∈ exAO) (ht : exTy[t]? = some (.object C)) (hr : exRk t = true) (hx : x.toInt = (n : Int)) (hb : n * 4 ≤ 536870912) (hc1 : cells + 1 ≤ R.cells) (hs1 : slots + n ≤ R.slots) (kk : EX M l G R Q p e s m args below meth c (cells + 1) (slots + n) (pc + 3) L (.ref h.1 :: st) (ex_na h t n)) : EX M l G R Q p e s m args below meth c cells slots pc L (.int x :: st) h := by
  intro hg H ls locs hl hP hn hS
  have hts := hg.2.2.2.2.1
  have hx0 : ¬ x < 0 := fun q => by
    have h1 := Int32.lt_iff_toInt_lt.mp q
    have h2 : (0 : Int32).toInt = 0 := rfl
    omega
  refine va_newq hg.1 hg.2.1 hg.2.2.2.1 (hts _ hlk) (hg.2.2.2.2.2.2.2.2.1.2.2 _ hao) hg.2.2.2.2.2.2.2.2.1.1 hP (ex_D G h) hS (fun q hq => Nat.le_trans hg.2.2.2.2.2.2.2.2.2 hq) hx0 (show x.toInt.toNat = n by omega) hb hc1 hs1 hd (fun q cA H1 hK1 hP1 hD1 hS1 => ?_)
  refine ex_size fun hz => ?_
  have hq := ex_newat hP1 hD1 (by omega)
  subst hq
  have hcA : cA = G.2.2 t := by
    have h1 := (hK1.2 (ex_ty G).length _ (by rw [List.getElem?_append_right (Nat.le_refl _), Nat.sub_self]; rfl)).2
    exact ex_RA h1 (hg.2.2.2.2.2.2.2.2.1.1.2 t _ (ex_ty_at ht)).2
  subst hcA
  have hw : ex_w G h ++ [(G.1 + h.1, .inl (G.2.2 t, n, .inr (.inr (.inr (.inr (fun _ => none))))))] = ex_w G (ex_na h t n) := by
    have e1 : ex_cell G (ex_na h t n) h.1 = .inl (G.2.2 t, n, .inr (.inr (.inr (.inr (fun _ => none))))) := by
      rw [ex_cell_q (h := ex_na h t n) (t := t) (va_up_self _ _ _) hr]
      show Sum.inl (G.2.2 t, va_up h.2.2.1 h.1 n h.1, Sum.inr (Sum.inr (Sum.inr (Sum.inr (fun j => (va_up h.2.2.2.2 h.1 (fun _ => none) h.1 j).map (G.1 + ·)))))) = _
      rw [va_up_self, va_up_self]
      rfl
    rw [← e1]
    exact ex_w_push rfl (fun j hj => ex_cell_c (va_up_ne _ _ (Nat.ne_of_lt hj)) (va_up_ne _ _ (Nat.ne_of_lt hj)) (va_up_ne _ _ (Nat.ne_of_lt hj)) (va_up_ne _ _ (Nat.ne_of_lt hj)))
  rw [hw] at hP1
  refine kk hg H1 ls locs hl hP1 ?_ hS1
  show _ = G.1 + (h.1 + 1)
  omega
theorem ex_copy {idx a b t : Nat} {sp dp nn : Int32} {ty : FieldType} (i j n : Nat) (hd : decode M.2.1 pc = .ok (.invokestatic idx, 3)) (hw1 : Cond.methodLink M.1.cls idx arraycopyName ∈ exTW) (hw2 : Cond.native arraycopyName ∈ exTW) (hw3 : Cond.static arraycopyName ∈ exTW) (hw4 : Cond.initialized "java/lang/System" ∈ exTW) (ha : a < h.1) (hs : h.2.1 a = .inr t) (hb : b < h.1) (hsb : h.2.1 b = .inr t) (hr : exRk t = false) (ht : exTy[t]? = some ty) (hprim : refKind ty = false) (h1 : sp.toInt = (i : Int)) (h2 : dp.toInt = (j : Int)) (h3 : nn.toInt = (n : Int)) (h4 : i + n ≤ h.2.2.1 a) (h5 : j + n ≤ h.2.2.1 b) (hfit : ∀ k, k < n → fits ty (.int (h.2.2.2.1 a (i + k))) = true) (hdd : ex_lt R 0) (h8 : (st.map fun v => v.category).sum ≤ 8) (kk : EX M l G R Q p e s m args below meth c cells slots (pc + 3) L st (ex_sa h b (va_cpy (h.2.2.2.1 a) (h.2.2.2.1 b) i j n))) : EX M l G R Q p e s m args below meth c cells slots pc L (.int nn :: .int dp :: .ref b :: .int sp :: .ref a :: st) h := by
  intro hg H ls locs hl hP hn hS
  have hts := hg.2.2.2.2.1
  have c1 : sp.toNatClampNeg = i := by show sp.toInt.toNat = i; omega
  have c2 : dp.toNatClampNeg = j := by show dp.toInt.toNat = j; omega
  have c3 : nn.toNatClampNeg = n := by show nn.toInt.toNat = n; omega
  have nz : ∀ (z : Int32) (k : Nat), z.toInt = (k : Int) → ¬ z < 0 := fun z k hz q => by
    have g1 := Int32.lt_iff_toInt_lt.mp q
    have g2 : (0 : Int32).toInt = 0 := rfl
    omega
  have h9 := ex_cat (G := G) st h8
  have h7 := hdd.2
  have h6 : nativeFrameWords "java/lang/System" "arraycopy" 5 = 7 := by decide +kernel
  refine va_copyi hg.1 hg.2.1 (by rw [hg.2.2.1]; exact hl.1.symm) hg.2.2.2.1 (hts _ hw1) (hts _ hw2) (hts _ hw3) (hts _ hw4) hg.2.2.2.2.2.2.2.2.1.1 hP (ex_D G h) hS a b t t (by rw [ex_w_at ha, ex_cell_i hs hr]) (by rw [ex_w_at hb, ex_cell_i hsb hr]) (ex_ty_at ht) (ex_ty_at ht) hprim (nz sp i h1) (nz dp j h2) (nz nn n h3) (by rw [c1, c3]; exact h4) (by rw [c2, c3]; exact h5) (by rw [c1, c3]; exact hfit) hdd.1 (by rw [h6]; omega) hd ?_
  rw [c1, c2, c3]
  intro H1 locs1 hP1 _ hS1
  have hset : (ex_w G h).set b (G.1 + b, .inl (G.2.2 t, h.2.2.1 b, .inl (va_cpy (h.2.2.2.1 a) (h.2.2.2.1 b) i j n))) = ex_w G (ex_sa h b (va_cpy (h.2.2.2.1 a) (h.2.2.2.1 b) i j n)) := by
    refine ex_w_set hb rfl ?_ (fun j hj => ex_cell_c rfl rfl (va_up_ne _ _ hj) rfl)
    rw [ex_cell_i (h := ex_sa h b _) (t := t) hsb hr]
    show Sum.inl (G.2.2 t, h.2.2.1 b, Sum.inl (va_up h.2.2.2.1 b _ b)) = _
    rw [va_up_self]
  rw [hset] at hP1
  exact kk hg H1 ls locs1 hl hP1 hn hS1
end EXR
