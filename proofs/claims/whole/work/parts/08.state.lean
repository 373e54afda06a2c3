/-! The heap behind both constructors (wip/whole/state.py): 129 cells; HP iv mp sp mo: the numbers iv; the models in use mp (model j lies at 9 + 3 * j), the spare one sp, the reader's model mo. -/
def exShL : List (Nat ⊕ Nat) := [.inl 0, .inl 2, .inr 1, .inl 8, .inl 7, .inr 0, .inr 0, .inl 9, .inr 3, .inl 7, .inr 0, .inr 0, .inl 7, .inr 0, .inr 0, .inl 7, .inr 0, .inr 0, .inl 7, .inr 0, .inr 0, .inl 7, .inr 0, .inr 0, .inl 7, .inr 0, .inr 0, .inl 7, .inr 0, .inr 0, .inl 7, .inr 0, .inr 0, .inl 7, .inr 0, .inr 0, .inl 7, .inr 0, .inr 0, .inl 10, .inr 1, .inl 11, .inr 4, .inr 0, .inr 0, .inr 0, .inl 3, .inl 3, .inl 3, .inl 3, .inl 3, .inl 3, .inl 3, .inl 3, .inl 3, .inl 3, .inl 3, .inl 3, .inl 3, .inl 3, .inl 3, .inl 3, .inl 3, .inl 3, .inl 3, .inl 3, .inl 3, .inl 3, .inl 3, .inl 3, .inl 3, .inl 3, .inl 3, .inl 3, .inl 3, .inl 3, .inl 3, .inl 3, .inl 3, .inl 3, .inl 4, .inr 0, .inl 5, .inr 1, .inl 6, .inr 0, .inr 0, .inr 0, .inr 0, .inl 1, .inr 0, .inr 0, .inl 12, .inr 0, .inr 2, .inr 2, .inr 0, .inr 0, .inr 2, .inr 0, .inr 0, .inr 0, .inr 2, .inr 0, .inr 0, .inr 2, .inr 0, .inr 0, .inr 0, .inr 0, .inr 0, .inr 0, .inr 0, .inr 0, .inr 0, .inr 2, .inr 0, .inr 0, .inr 0, .inr 0, .inr 0, .inr 0, .inr 0, .inr 0, .inr 0, .inr 0, .inr 0, .inr 0, .inr 0]
def exLnL : List Nat := [0, 0, 40, 0, 0, 11, 8, 0, 9, 0, 11, 8, 0, 11, 8, 0, 11, 8, 0, 11, 8, 0, 11, 8, 0, 11, 8, 0, 11, 8, 0, 11, 8, 0, 11, 8, 0, 11, 8, 0, 100, 0, 34, 33, 33, 33, 0, 0, 0, 0, 0, 0, 0, 0, 0, 0, 0, 0, 0, 0, 0, 0, 0, 0, 0, 0, 0, 0, 0, 0, 0, 0, 0, 0, 0, 0, 0, 0, 0, 0, 0, 201, 0, 694, 0, 12, 12, 12, 12, 0, 8, 8, 0, 40, 10, 10, 10, 10, 10, 10, 100, 100, 14, 14, 14, 14, 100, 40, 40, 40, 40, 40, 40, 40, 40, 40, 101, 101, 101, 400, 400, 13, 13, 13, 13, 13, 8, 8, 900]
def exSh (a : Nat) : Nat ⊕ Nat := exShL.getD a (.inl 0)
def exLn (a : Nat) : Nat := exLnL.getD a 0
def exRvL (mp : Nat → Nat) (sp mo : Nat) : List (List (Option Nat)) := [[some 1, some 3, some 7, some 39, some 41, some 80, some 82, some 84, some 89], [some 2], [], [some 1, some mo], [none, none, none, some 5, some 6], [], [], [some 8, some (9 + 3 * sp)], [some (9 + 3 * mp 0), some (9 + 3 * mp 1), some (9 + 3 * mp 2), some (9 + 3 * mp 3), some (9 + 3 * mp 4), some (9 + 3 * mp 5), some (9 + 3 * mp 6), some (9 + 3 * mp 7), some (9 + 3 * mp 8)], [none, none, none, some 10, some 11], [], [], [none, none, none, some 13, some 14], [], [], [none, none, none, some 16, some 17], [], [], [none, none, none, some 19, some 20], [], [], [none, none, none, some 22, some 23], [], [], [none, none, none, some 25, some 26], [], [], [none, none, none, some 28, some 29], [], [], [none, none, none, some 31, some 32], [], [], [none, none, none, some 34, some 35], [], [], [none, none, none, some 37, some 38], [], [], [some 40], [], [some 39, some 42, none, none, some 43, some 44, some 45], [some 46, some 47, some 48, some 49, some 50, some 51, some 52, some 53, some 54, some 55, some 56, some 57, some 58, some 59, some 60, some 61, some 62, some 63, some 64, some 65, some 66, some 67, some 68, some 69, some 70, some 71, some 72, some 73, some 74, some 75, some 76, some 77, some 78, some 79], [], [], [], [], [], [], [], [], [], [], [], [], [], [], [], [], [], [], [], [], [], [], [], [], [], [], [], [], [], [], [], [], [], [], [], [], [], [some 81], [], [some 39, some 41, some 7, some 83], [], [some 85, some 86, some 87, some 88], [], [], [], [], [some 90, some 91], [], [], [none, some 93, some 94, some 95, some 96, some 97, some 98, some 99, some 100, some 101, some 102, some 103, some 104, some 105, none, some 106, none, some 107, some 108, some 109, some 110, some 111, some 112, some 113, some 114, some 115, some 116, some 117, some 118, none, some 119, some 120, none, some 121, some 122, some 123, some 124, some 125, none, none, some 126, some 127, none, some 128], [], [], [], [], [], [], [], [], [], [], [], [], [], [], [], [], [], [], [], [], [], [], [], [], [], [], [], [], [], [], [], [], [], [], [], []]
def RV (mp : Nat → Nat) (sp mo : Nat) : Nat → Nat → Option Nat := fun a k => ((exRvL mp sp mo).getD a []).getD k none
def HP (iv : Nat → Nat → Int32) (mp : Nat → Nat) (sp mo : Nat) : ex_H := (129, exSh, exLn, iv, RV mp sp mo)
theorem mo_lt {iv : Nat → Nat → Int32} {mp : Nat → Nat} {sp mo j : Nat} (h : j < 10) : 9 + 3 * j < (HP iv mp sp mo).1 := by
  show 9 + 3 * j < 129
  omega
theorem mo_sh0 : ∀ j, j < 10 → exSh (9 + 3 * j) = .inl 7 ∧ exSh (10 + 3 * j) = .inr 0 ∧ exSh (11 + 3 * j) = .inr 0 ∧ exLn (10 + 3 * j) = 11 ∧ exLn (11 + 3 * j) = 8 := by decide +kernel
theorem mo_sh {iv : Nat → Nat → Int32} {mp : Nat → Nat} {sp mo j : Nat} (h : j < 10) : (HP iv mp sp mo).2.1 (9 + 3 * j) = .inl 7 := (mo_sh0 j h).1
theorem mo_rf {mp : Nat → Nat} {sp mo j : Nat} (h : j < 10) : RV mp sp mo (9 + 3 * j) 3 = some (10 + 3 * j) ∧ RV mp sp mo (9 + 3 * j) 4 = some (11 + 3 * j) := by
  have h9 : j = 0 ∨ j = 1 ∨ j = 2 ∨ j = 3 ∨ j = 4 ∨ j = 5 ∨ j = 6 ∨ j = 7 ∨ j = 8 ∨ j = 9 := by omega
  rcases h9 with rfl | rfl | rfl | rfl | rfl | rfl | rfl | rfl | rfl | rfl <;> exact ⟨rfl, rfl⟩
theorem el_sh0 : ∀ i, i < 34 → exSh (46 + i) = .inl 3 := by decide +kernel
theorem el_sh {iv : Nat → Nat → Int32} {mp : Nat → Nat} {sp mo i : Nat} (h : i < 34) : (HP iv mp sp mo).2.1 (46 + i) = .inl 3 := el_sh0 i h
theorem el_lt {iv : Nat → Nat → Int32} {mp : Nat → Nat} {sp mo i : Nat} (h : i < 34) : 46 + i < (HP iv mp sp mo).1 := by
  show 46 + i < 129
  omega
theorem el_rf0 : ∀ i, i < 34 → RV (fun _ => 0) 0 0 42 i = some (46 + i) := by decide +kernel
theorem el_rf {mp : Nat → Nat} {sp mo i : Nat} (h : i < 34) : RV mp sp mo 42 i = some (46 + i) := el_rf0 i h
theorem us_rf {mp : Nat → Nat} {sp mo k : Nat} (h : k < 9) : RV mp sp mo 8 k = some (9 + 3 * mp k) := by
  have h9 : k = 0 ∨ k = 1 ∨ k = 2 ∨ k = 3 ∨ k = 4 ∨ k = 5 ∨ k = 6 ∨ k = 7 ∨ k = 8 := by omega
  rcases h9 with rfl | rfl | rfl | rfl | rfl | rfl | rfl | rfl | rfl <;> rfl
/-- numbers -/
theorem i_lt {x y : Int32} : x < y ↔ x.toInt < y.toInt := Int32.lt_iff_toInt_lt
theorem i_le {x y : Int32} : x ≤ y ↔ x.toInt ≤ y.toInt := Int32.le_iff_toInt_le
theorem i_eq {x y : Int32} : x = y ↔ x.toInt = y.toInt := Int32.toInt_inj.symm
theorem i_nlt {x y : Int32} (h : ¬ x < y) : y.toInt ≤ x.toInt := Int.not_lt.mp (fun q => h (i_lt.mpr q))
theorem i_nle {x y : Int32} (h : ¬ x ≤ y) : y.toInt < x.toInt := Int.not_le.mp (fun q => h (i_le.mpr q))
theorem i_m1 : (-1 : Int32).toInt = -1 := by decide
theorem i_m2 : (-2 : Int32).toInt = -2 := by decide
theorem i_m3 : (-3 : Int32).toInt = -3 := by decide
theorem i_0 : (0 : Int32).toInt = 0 := by decide
theorem i_rng (x : Int32) : -2147483648 ≤ x.toInt ∧ x.toInt ≤ 2147483647 := by
  have h1 := Int32.le_toInt x
  have h2 := Int32.toInt_lt x
  omega
theorem i_of (x : Int32) (h : 0 ≤ x.toInt) : x = nI x.toInt.toNat := by
  have h2 := i_rng x
  refine i_eq.mpr ?_
  rw [nI_toInt (by omega)]
  omega
section EXS
variable {p : Program} {l : Launch} {e : Env} {s : State} {m : MethodId} {args : Array Value} {below : List Frame} {meth : Method} {c : Code} {M : ex_M} {G : ex_G} {R : Room} {Q : State → Prop} {cells slots pc : Nat} {L : List (Option Value)} {st : List Value} {h : ex_H}
theorem ex_getx {a idx : Nat} (ci k : Nat) (x : Int32) (hd : decode M.2.1 pc = .ok (.getfield idx, 3)) (hf : ex_FL M.1.cls idx ci k false) (ha : a < h.1) (hs : h.2.1 a = .inl ci) (hx : h.2.2.2.1 a k = x) (kk : EX M l G R Q p e s m args below meth c cells slots (pc + 3) L (.int x :: st) h) : EX M l G R Q p e s m args below meth c cells slots pc L (.ref a :: st) h := by
  subst hx
  exact ex_geti ci k hd hf ha hs kk
theorem ex_ialdx {a t : Nat} {i : Int32} (n : Nat) (x : Int32) (hd : decode M.2.1 pc = .ok (.iaload, 1)) (ha : a < h.1) (hs : h.2.1 a = .inr t) (hr : exRk t = false) (ht : exTy[t]? = some .int) (hi : i.toInt = (n : Int)) (hN : n < h.2.2.1 a) (hx : h.2.2.2.1 a n = x) (kk : EX M l G R Q p e s m args below meth c cells slots (pc + 1) L (.int x :: st) h) : EX M l G R Q p e s m args below meth c cells slots pc L (.int i :: .ref a :: st) h := by
  subst hx
  exact ex_iald n hd ha hs hr ht hi hN kk
theorem ex_caldx {a t : Nat} {i : Int32} (n : Nat) (x : Int32) (hd : decode M.2.1 pc = .ok (.caload, 1)) (ha : a < h.1) (hs : h.2.1 a = .inr t) (hr : exRk t = false) (ht : exTy[t]? = some .char) (hi : i.toInt = (n : Int)) (hN : n < h.2.2.1 a) (hx : h.2.2.2.1 a n = x) (kk : EX M l G R Q p e s m args below meth c cells slots (pc + 1) L (.int x :: st) h) : EX M l G R Q p e s m args below meth c cells slots pc L (.int i :: .ref a :: st) h := by
  subst hx
  exact ex_cald n hd ha hs hr ht hi hN kk
theorem ex_zaldx {a t : Nat} {i : Int32} (n : Nat) (x : Int32) (hd : decode M.2.1 pc = .ok (.baload, 1)) (ha : a < h.1) (hs : h.2.1 a = .inr t) (hr : exRk t = false) (ht : exTy[t]? = some .boolean) (hi : i.toInt = (n : Int)) (hN : n < h.2.2.1 a) (hx : h.2.2.2.1 a n = x) (kk : EX M l G R Q p e s m args below meth c cells slots (pc + 1) L (.int x :: st) h) : EX M l G R Q p e s m args below meth c cells slots pc L (.int i :: .ref a :: st) h := by
  subst hx
  exact ex_zald n hd ha hs hr ht hi hN kk
/-- the number on top under another name -/
theorem ex_top {x y : Int32} (hx : x = y) (kk : EX M l G R Q p e s m args below meth c cells slots pc L (.int y :: st) h) : EX M l G R Q p e s m args below meth c cells slots pc L (.int x :: st) h := by
  subst hx
  exact kk
theorem ex_heap {h' : ex_H} (hx : h = h') (kk : EX M l G R Q p e s m args below meth c cells slots pc L st h') : EX M l G R Q p e s m args below meth c cells slots pc L st h := by
  subst hx
  exact kk
end EXS
