/-! names of this class, of the reference and of the law, by program (wip/whole/names.py) -/
def R_TG : String := "TagGuide"
def T_TG : u_T := fun k => match k with
  | 0 => ("TagGuide", "draft", "LTagGuide$Draft;", true)
  | 1 => ("TagGuide", "reader", "LTagGuide$ModelReader;", true)
  | 2 => ("TagGuide", "models", "LTagGuide$Models;", true)
  | 3 => ("TagGuide", "text", "LTagGuide$Text;", true)
  | 4 => ("TagGuide", "tree", "LTagGuide$Tree;", true)
  | 5 => ("TagGuide", "faults", "LTagGuide$Faults;", true)
  | 6 => ("TagGuide", "former", "LTagGuide$Former;", true)
  | 7 => ("TagGuide", "messages", "LTagGuide$Inbox;", true)
  | 8 => ("TagGuide", "answers", "LTagGuide$Answers;", true)
  | _ => ("TagGuide", "stale", "Z", false)
def t_TG : Nat → FieldType := fun k => match k with
  | 0 => .object "TagGuide$Draft"
  | 1 => .object "TagGuide$ModelReader"
  | 2 => .object "TagGuide$Models"
  | 3 => .object "TagGuide$Text"
  | 4 => .object "TagGuide$Tree"
  | 5 => .object "TagGuide$Faults"
  | 6 => .object "TagGuide$Former"
  | 7 => .object "TagGuide$Inbox"
  | 8 => .object "TagGuide$Answers"
  | _ => .boolean
theorem n_TG : ∀ a, a < 10 → ∀ b, b < 10 → a ≠ b → (T_TG a).2.1 ≠ (T_TG b).2.1 := by decide +kernel
theorem t_TG_ok : ∀ k, k < 10 → parseFieldDescriptor (T_TG k).2.2.1 = some (t_TG k) := by decide +kernel
def R_An : String := "TagGuide$Answers"
def T_An : u_T := fun k => match k with
  | 0 => ("TagGuide$Answers", "requests", "[I", true)
  | 1 => ("TagGuide$Answers", "values", "[I", true)
  | _ => ("TagGuide$Answers", "next", "I", false)
def t_An : Nat → FieldType := fun k => match k with
  | 0 => .array .int
  | 1 => .array .int
  | _ => .int
theorem n_An : ∀ a, a < 3 → ∀ b, b < 3 → a ≠ b → (T_An a).2.1 ≠ (T_An b).2.1 := by decide +kernel
theorem t_An_ok : ∀ k, k < 3 → parseFieldDescriptor (T_An k).2.2.1 = some (t_An k) := by decide +kernel
def R_Dr : String := "TagGuide$Draft"
def T_Dr : u_T := fun k => match k with
  | 0 => ("TagGuide$Draft", "codes", "[C", true)
  | _ => ("TagGuide$Draft", "size", "I", false)
def t_Dr : Nat → FieldType := fun k => match k with
  | 0 => .array .char
  | _ => .int
theorem n_Dr : ∀ a, a < 2 → ∀ b, b < 2 → a ≠ b → (T_Dr a).2.1 ≠ (T_Dr b).2.1 := by decide +kernel
theorem t_Dr_ok : ∀ k, k < 2 → parseFieldDescriptor (T_Dr k).2.2.1 = some (t_Dr k) := by decide +kernel
def R_El : String := "TagGuide$Element"
def T_El : u_T := fun k => match k with
  | 0 => ("TagGuide$Element", "name", "I", false)
  | 1 => ("TagGuide$Element", "parent", "I", false)
  | 2 => ("TagGuide$Element", "depth", "I", false)
  | 3 => ("TagGuide$Element", "begin", "I", false)
  | 4 => ("TagGuide$Element", "insideFrom", "I", false)
  | 5 => ("TagGuide$Element", "insideTo", "I", false)
  | 6 => ("TagGuide$Element", "behind", "I", false)
  | 7 => ("TagGuide$Element", "children", "I", false)
  | 8 => ("TagGuide$Element", "closedBy", "I", false)
  | _ => ("TagGuide$Element", "firstInk", "I", false)
def t_El : Nat → FieldType := fun k => match k with
  | 0 => .int
  | 1 => .int
  | 2 => .int
  | 3 => .int
  | 4 => .int
  | 5 => .int
  | 6 => .int
  | 7 => .int
  | 8 => .int
  | _ => .int
theorem n_El : ∀ a, a < 10 → ∀ b, b < 10 → a ≠ b → (T_El a).2.1 ≠ (T_El b).2.1 := by decide +kernel
theorem t_El_ok : ∀ k, k < 10 → parseFieldDescriptor (T_El k).2.2.1 = some (t_El k) := by decide +kernel
def R_Fa : String := "TagGuide$Faults"
def T_Fa : u_T := fun k => match k with
  | 0 => ("TagGuide$Faults", "keys", "[I", true)
  | _ => ("TagGuide$Faults", "size", "I", false)
def t_Fa : Nat → FieldType := fun k => match k with
  | 0 => .array .int
  | _ => .int
theorem n_Fa : ∀ a, a < 2 → ∀ b, b < 2 → a ≠ b → (T_Fa a).2.1 ≠ (T_Fa b).2.1 := by decide +kernel
theorem t_Fa_ok : ∀ k, k < 2 → parseFieldDescriptor (T_Fa k).2.2.1 = some (t_Fa k) := by decide +kernel
def R_Fo : String := "TagGuide$Former"
def T_Fo : u_T := fun k => match k with
  | 0 => ("TagGuide$Former", "text", "LTagGuide$Text;", true)
  | 1 => ("TagGuide$Former", "tree", "LTagGuide$Tree;", true)
  | 2 => ("TagGuide$Former", "models", "LTagGuide$Models;", true)
  | 3 => ("TagGuide$Former", "codes", "[C", true)
  | _ => ("TagGuide$Former", "size", "I", false)
def t_Fo : Nat → FieldType := fun k => match k with
  | 0 => .object "TagGuide$Text"
  | 1 => .object "TagGuide$Tree"
  | 2 => .object "TagGuide$Models"
  | 3 => .array .char
  | _ => .int
theorem n_Fo : ∀ a, a < 5 → ∀ b, b < 5 → a ≠ b → (T_Fo a).2.1 ≠ (T_Fo b).2.1 := by decide +kernel
theorem t_Fo_ok : ∀ k, k < 5 → parseFieldDescriptor (T_Fo k).2.2.1 = some (t_Fo k) := by decide +kernel
def R_In : String := "TagGuide$Inbox"
def T_In : u_T := fun k => match k with
  | 0 => ("TagGuide$Inbox", "kinds", "[I", true)
  | 1 => ("TagGuide$Inbox", "numbers", "[I", true)
  | 2 => ("TagGuide$Inbox", "places", "[I", true)
  | 3 => ("TagGuide$Inbox", "extras", "[I", true)
  | 4 => ("TagGuide$Inbox", "size", "I", false)
  | _ => ("TagGuide$Inbox", "requests", "I", false)
def t_In : Nat → FieldType := fun k => match k with
  | 0 => .array .int
  | 1 => .array .int
  | 2 => .array .int
  | 3 => .array .int
  | 4 => .int
  | _ => .int
theorem n_In : ∀ a, a < 6 → ∀ b, b < 6 → a ≠ b → (T_In a).2.1 ≠ (T_In b).2.1 := by decide +kernel
theorem t_In_ok : ∀ k, k < 6 → parseFieldDescriptor (T_In k).2.2.1 = some (t_In k) := by decide +kernel
def R_Mo : String := "TagGuide$Model"
def T_Mo : u_T := fun k => match k with
  | 0 => ("TagGuide$Model", "present", "Z", false)
  | 1 => ("TagGuide$Model", "mixed", "Z", false)
  | 2 => ("TagGuide$Model", "states", "I", false)
  | 3 => ("TagGuide$Model", "followers", "[I", true)
  | 4 => ("TagGuide$Model", "statesOfName", "[I", true)
  | _ => ("TagGuide$Model", "accepting", "I", false)
def t_Mo : Nat → FieldType := fun k => match k with
  | 0 => .boolean
  | 1 => .boolean
  | 2 => .int
  | 3 => .array .int
  | 4 => .array .int
  | _ => .int
theorem n_Mo : ∀ a, a < 6 → ∀ b, b < 6 → a ≠ b → (T_Mo a).2.1 ≠ (T_Mo b).2.1 := by decide +kernel
theorem t_Mo_ok : ∀ k, k < 6 → parseFieldDescriptor (T_Mo k).2.2.1 = some (t_Mo k) := by decide +kernel
def R_Mr : String := "TagGuide$ModelReader"
def T_Mr : u_T := fun k => match k with
  | 0 => ("TagGuide$ModelReader", "draft", "LTagGuide$Draft;", true)
  | 1 => ("TagGuide$ModelReader", "model", "LTagGuide$Model;", false)
  | 2 => ("TagGuide$ModelReader", "place", "I", false)
  | 3 => ("TagGuide$ModelReader", "first", "I", false)
  | 4 => ("TagGuide$ModelReader", "last", "I", false)
  | _ => ("TagGuide$ModelReader", "skippable", "Z", false)
def t_Mr : Nat → FieldType := fun k => match k with
  | 0 => .object "TagGuide$Draft"
  | 1 => .object "TagGuide$Model"
  | 2 => .int
  | 3 => .int
  | 4 => .int
  | _ => .boolean
theorem n_Mr : ∀ a, a < 6 → ∀ b, b < 6 → a ≠ b → (T_Mr a).2.1 ≠ (T_Mr b).2.1 := by decide +kernel
theorem t_Mr_ok : ∀ k, k < 6 → parseFieldDescriptor (T_Mr k).2.2.1 = some (t_Mr k) := by decide +kernel
def R_Ms : String := "TagGuide$Models"
def T_Ms : u_T := fun k => match k with
  | 0 => ("TagGuide$Models", "inUse", "[LTagGuide$Model;", true)
  | 1 => ("TagGuide$Models", "spare", "LTagGuide$Model;", false)
  | _ => ("TagGuide$Models", "fertileNames", "I", false)
def t_Ms : Nat → FieldType := fun k => match k with
  | 0 => .array (.object "TagGuide$Model")
  | 1 => .object "TagGuide$Model"
  | _ => .int
theorem n_Ms : ∀ a, a < 3 → ∀ b, b < 3 → a ≠ b → (T_Ms a).2.1 ≠ (T_Ms b).2.1 := by decide +kernel
theorem t_Ms_ok : ∀ k, k < 3 → parseFieldDescriptor (T_Ms k).2.2.1 = some (t_Ms k) := by decide +kernel
def R_Tx : String := "TagGuide$Text"
def T_Tx : u_T := fun k => match k with
  | 0 => ("TagGuide$Text", "codes", "[C", true)
  | _ => ("TagGuide$Text", "size", "I", false)
def t_Tx : Nat → FieldType := fun k => match k with
  | 0 => .array .char
  | _ => .int
theorem n_Tx : ∀ a, a < 2 → ∀ b, b < 2 → a ≠ b → (T_Tx a).2.1 ≠ (T_Tx b).2.1 := by decide +kernel
theorem t_Tx_ok : ∀ k, k < 2 → parseFieldDescriptor (T_Tx k).2.2.1 = some (t_Tx k) := by decide +kernel
def R_Tr : String := "TagGuide$Tree"
def T_Tr : u_T := fun k => match k with
  | 0 => ("TagGuide$Tree", "text", "LTagGuide$Text;", true)
  | 1 => ("TagGuide$Tree", "elements", "[LTagGuide$Element;", true)
  | 2 => ("TagGuide$Tree", "count", "I", false)
  | 3 => ("TagGuide$Tree", "open", "I", false)
  | 4 => ("TagGuide$Tree", "tagFrom", "[I", true)
  | 5 => ("TagGuide$Tree", "tagTo", "[I", true)
  | 6 => ("TagGuide$Tree", "tagOwner", "[I", true)
  | _ => ("TagGuide$Tree", "tags", "I", false)
def t_Tr : Nat → FieldType := fun k => match k with
  | 0 => .object "TagGuide$Text"
  | 1 => .array (.object "TagGuide$Element")
  | 2 => .int
  | 3 => .int
  | 4 => .array .int
  | 5 => .array .int
  | 6 => .array .int
  | _ => .int
theorem n_Tr : ∀ a, a < 8 → ∀ b, b < 8 → a ≠ b → (T_Tr a).2.1 ≠ (T_Tr b).2.1 := by decide +kernel
theorem t_Tr_ok : ∀ k, k < 8 → parseFieldDescriptor (T_Tr k).2.2.1 = some (t_Tr k) := by decide +kernel
def R_RF : String := "TagGuideModel"
def T_RF : u_T := fun k => match k with
  | 0 => ("TagGuideModel", "draftSize", "I", false)
  | 1 => ("TagGuideModel", "draft", "[I", false)
  | 2 => ("TagGuideModel", "has", "[Z", false)
  | 3 => ("TagGuideModel", "mixed", "[Z", false)
  | 4 => ("TagGuideModel", "first", "[I", false)
  | 5 => ("TagGuideModel", "last", "[I", false)
  | 6 => ("TagGuideModel", "empty", "[Z", false)
  | 7 => ("TagGuideModel", "many", "[I", false)
  | 8 => ("TagGuideModel", "named", "[I", false)
  | 9 => ("TagGuideModel", "follow", "[I", false)
  | 10 => ("TagGuideModel", "some", "[Z", false)
  | 11 => ("TagGuideModel", "firsts", "[I", false)
  | 12 => ("TagGuideModel", "lasts", "[I", false)
  | 13 => ("TagGuideModel", "empties", "[Z", false)
  | 14 => ("TagGuideModel", "size", "I", false)
  | 15 => ("TagGuideModel", "text", "[I", false)
  | 16 => ("TagGuideModel", "elements", "I", false)
  | 17 => ("TagGuideModel", "name", "[I", false)
  | 18 => ("TagGuideModel", "parent", "[I", false)
  | 19 => ("TagGuideModel", "begin", "[I", false)
  | 20 => ("TagGuideModel", "behind", "[I", false)
  | 21 => ("TagGuideModel", "insideFrom", "[I", false)
  | 22 => ("TagGuideModel", "insideTo", "[I", false)
  | 23 => ("TagGuideModel", "endTag", "[I", false)
  | 24 => ("TagGuideModel", "firstCharacter", "[I", false)
  | 25 => ("TagGuideModel", "open", "[Z", false)
  | 26 => ("TagGuideModel", "tagFrom", "[I", false)
  | 27 => ("TagGuideModel", "tagTo", "[I", false)
  | 28 => ("TagGuideModel", "tagOf", "[I", false)
  | 29 => ("TagGuideModel", "faults", "I", false)
  | 30 => ("TagGuideModel", "faultKind", "[I", false)
  | 31 => ("TagGuideModel", "faultPlace", "[I", false)
  | 32 => ("TagGuideModel", "messages", "I", false)
  | 33 => ("TagGuideModel", "mKind", "[I", false)
  | 34 => ("TagGuideModel", "mPlace", "[I", false)
  | 35 => ("TagGuideModel", "mMore", "[I", false)
  | 36 => ("TagGuideModel", "mNumber", "[I", false)
  | 37 => ("TagGuideModel", "mWhat", "[I", false)
  | 38 => ("TagGuideModel", "requests", "I", false)
  | 39 => ("TagGuideModel", "answered", "I", false)
  | 40 => ("TagGuideModel", "answerOf", "[I", false)
  | 41 => ("TagGuideModel", "answers", "[I", false)
  | 42 => ("TagGuideModel", "formSize", "I", false)
  | _ => ("TagGuideModel", "form", "[I", false)
def t_RF : Nat → FieldType := fun k => match k with
  | 0 => .int
  | 1 => .array .int
  | 2 => .array .boolean
  | 3 => .array .boolean
  | 4 => .array .int
  | 5 => .array .int
  | 6 => .array .boolean
  | 7 => .array .int
  | 8 => .array .int
  | 9 => .array .int
  | 10 => .array .boolean
  | 11 => .array .int
  | 12 => .array .int
  | 13 => .array .boolean
  | 14 => .int
  | 15 => .array .int
  | 16 => .int
  | 17 => .array .int
  | 18 => .array .int
  | 19 => .array .int
  | 20 => .array .int
  | 21 => .array .int
  | 22 => .array .int
  | 23 => .array .int
  | 24 => .array .int
  | 25 => .array .boolean
  | 26 => .array .int
  | 27 => .array .int
  | 28 => .array .int
  | 29 => .int
  | 30 => .array .int
  | 31 => .array .int
  | 32 => .int
  | 33 => .array .int
  | 34 => .array .int
  | 35 => .array .int
  | 36 => .array .int
  | 37 => .array .int
  | 38 => .int
  | 39 => .int
  | 40 => .array .int
  | 41 => .array .int
  | 42 => .int
  | _ => .array .int
theorem n_RF : ∀ a, a < 44 → ∀ b, b < 44 → a ≠ b → (T_RF a).2.1 ≠ (T_RF b).2.1 := by decide +kernel
theorem t_RF_ok : ∀ k, k < 44 → parseFieldDescriptor (T_RF k).2.2.1 = some (t_RF k) := by decide +kernel
abbrev exCl : List vw_C := [(R_TG, T_TG, 10), (R_An, T_An, 3), (R_Dr, T_Dr, 2), (R_El, T_El, 10), (R_Fa, T_Fa, 2), (R_Fo, T_Fo, 5), (R_In, T_In, 6), (R_Mo, T_Mo, 6), (R_Mr, T_Mr, 6), (R_Ms, T_Ms, 3), (R_Tx, T_Tx, 2), (R_Tr, T_Tr, 8), (R_RF, T_RF, 44)]
def exTy : List FieldType := [.int, .char, .boolean, .object "TagGuide$Model", .object "TagGuide$Element"]
def exRk (t : Nat) : Bool := match t with
  | 3 => true
  | 4 => true
  | _ => false
def exFk (ci : Nat) : List Bool := match ci with
  | 0 => [true, true, true, true, true, true, true, true, true, false]
  | 1 => [true, true, false]
  | 2 => [true, false]
  | 3 => [false, false, false, false, false, false, false, false, false, false]
  | 4 => [true, false]
  | 5 => [true, true, true, true, false]
  | 6 => [true, true, true, true, false, false]
  | 7 => [false, false, false, true, true, false]
  | 8 => [true, true, false, false, false, false]
  | 9 => [true, true, false]
  | 10 => [true, false]
  | 11 => [true, true, false, false, true, true, true, false]
  | 12 => [false, true, true, true, true, true, true, true, true, true, true, true, true, true, false, true, false, true, true, true, true, true, true, true, true, true, true, true, true, false, true, true, false, true, true, true, true, true, false, false, true, true, false, true]
  | _ => []
def ex_nest : Cond → Bool
  | .fieldLinkNest .. => true
  | .methodLinkNest .. => true
  | _ => false
def exTW : List Cond := lw_tbl.filter goodWord
def exNW : List Cond := lw_tbl.filter ex_nest
def exAO : List String := ["TagGuide$Model", "TagGuide$Element"]
theorem exTW_good (w : Cond) (h : w ∈ exTW) : goodWord w = true := (List.mem_filter.mp h).2
theorem exNW_nest (w : Cond) (h : w ∈ exNW) : ex_nest w = true := (List.mem_filter.mp h).2
theorem ex_tw {w : Cond} (i : Nat) (h : tables_1[i]? = some w) (hg : goodWord w = true) : w ∈ exTW := List.mem_filter.mpr ⟨List.mem_append_right _ (List.mem_of_getElem? h), hg⟩
theorem ex_ts {w : Cond} (i : Nat) (h : (k2_sels lw_privs)[i]? = some w) (hg : goodWord w = true) : w ∈ exTW := List.mem_filter.mpr ⟨List.mem_append_left _ (List.mem_of_getElem? h), hg⟩
theorem ex_tn {w : Cond} (i : Nat) (h : tables_1[i]? = some w) (hg : ex_nest w = true) : w ∈ exNW := List.mem_filter.mpr ⟨List.mem_append_right _ (List.mem_of_getElem? h), hg⟩
theorem ex_uw {ws : List Cond} (ps : List Nat) (h : ws = ps.filterMap (fun i => tables_1[i]?)) (hg : ws.all goodWord = true) : ∀ w ∈ ws, w ∈ exTW := by
  intro w hw
  have h1 := List.all_eq_true.mp hg w hw
  rw [h] at hw
  obtain ⟨i, -, hi⟩ := List.mem_filterMap.mp hw
  exact ex_tw i hi h1
theorem u_TG : ∀ w ∈ u_ws R_TG T_TG 10, w ∈ exTW := ex_uw [313, 315, 317, 319, 321, 323, 325, 327, 329, 331] (by decide +kernel) (by decide +kernel)
theorem u_An : ∀ w ∈ u_ws R_An T_An 3, w ∈ exTW := ex_uw [296, 298, 300] (by decide +kernel) (by decide +kernel)
theorem u_Dr : ∀ w ∈ u_ws R_Dr T_Dr 2, w ∈ exTW := ex_uw [32, 34] (by decide +kernel) (by decide +kernel)
theorem u_El : ∀ w ∈ u_ws R_El T_El 10, w ∈ exTW := ex_uw [168, 170, 172, 174, 176, 178, 180, 182, 184, 186] (by decide +kernel) (by decide +kernel)
theorem u_Fa : ∀ w ∈ u_ws R_Fa T_Fa 2, w ∈ exTW := ex_uw [230, 232] (by decide +kernel) (by decide +kernel)
theorem u_Fo : ∀ w ∈ u_ws R_Fo T_Fo 5, w ∈ exTW := ex_uw [246, 248, 250, 252, 254] (by decide +kernel) (by decide +kernel)
theorem u_In : ∀ w ∈ u_ws R_In T_In 6, w ∈ exTW := ex_uw [274, 276, 278, 280, 282, 284] (by decide +kernel) (by decide +kernel)
theorem u_Mo : ∀ w ∈ u_ws R_Mo T_Mo 6, w ∈ exTW := ex_uw [58, 60, 62, 64, 66, 68] (by decide +kernel) (by decide +kernel)
theorem u_Mr : ∀ w ∈ u_ws R_Mr T_Mr 6, w ∈ exTW := ex_uw [78, 80, 82, 84, 86, 88] (by decide +kernel) (by decide +kernel)
theorem u_Ms : ∀ w ∈ u_ws R_Ms T_Ms 3, w ∈ exTW := ex_uw [105, 107, 109] (by decide +kernel) (by decide +kernel)
theorem u_Tx : ∀ w ∈ u_ws R_Tx T_Tx 2, w ∈ exTW := ex_uw [123, 125] (by decide +kernel) (by decide +kernel)
theorem u_Tr : ∀ w ∈ u_ws R_Tr T_Tr 8, w ∈ exTW := ex_uw [204, 206, 208, 210, 212, 214, 216, 218] (by decide +kernel) (by decide +kernel)
theorem u_RF : ∀ w ∈ u_ws R_RF T_RF 44, w ∈ exTW := ex_uw [770, 772, 774, 776, 778, 780, 782, 784, 786, 788, 790, 792, 794, 796, 798, 800, 802, 804, 806, 808, 810, 812, 814, 816, 818, 820, 822, 824, 826, 828, 830, 832, 834, 836, 838, 840, 842, 844, 846, 848, 850, 852, 854, 856] (by decide +kernel) (by decide +kernel)
abbrev M_TG_init : MethodName × ByteArray × Nat × Option FieldType := (⟨"TagGuide", "<init>", "()V"⟩, prog_1_method_1_code, 1, none)
abbrev M_Dr_init : MethodName × ByteArray × Nat × Option FieldType := (⟨"TagGuide$Draft", "<init>", "()V"⟩, prog_3_method_1_code, 1, none)
abbrev M_Mr_init : MethodName × ByteArray × Nat × Option FieldType := (⟨"TagGuide$ModelReader", "<init>", "(LTagGuide$Draft;)V"⟩, prog_9_method_1_code, 2, none)
abbrev M_Mo_init : MethodName × ByteArray × Nat × Option FieldType := (⟨"TagGuide$Model", "<init>", "()V"⟩, prog_8_method_1_code, 1, none)
abbrev M_Ms_init : MethodName × ByteArray × Nat × Option FieldType := (⟨"TagGuide$Models", "<init>", "()V"⟩, prog_10_method_1_code, 2, none)
abbrev M_Tx_init : MethodName × ByteArray × Nat × Option FieldType := (⟨"TagGuide$Text", "<init>", "()V"⟩, prog_11_method_1_code, 1, none)
abbrev M_Tr_init : MethodName × ByteArray × Nat × Option FieldType := (⟨"TagGuide$Tree", "<init>", "(LTagGuide$Text;)V"⟩, prog_12_method_1_code, 3, none)
abbrev M_El_init : MethodName × ByteArray × Nat × Option FieldType := (⟨"TagGuide$Element", "<init>", "()V"⟩, prog_4_method_1_code, 1, none)
abbrev M_Fa_init : MethodName × ByteArray × Nat × Option FieldType := (⟨"TagGuide$Faults", "<init>", "()V"⟩, prog_5_method_1_code, 1, none)
abbrev M_Fo_init : MethodName × ByteArray × Nat × Option FieldType := (⟨"TagGuide$Former", "<init>", "(LTagGuide$Text;LTagGuide$Tree;LTagGuide$Models;)V"⟩, prog_6_method_1_code, 4, none)
abbrev M_In_init : MethodName × ByteArray × Nat × Option FieldType := (⟨"TagGuide$Inbox", "<init>", "()V"⟩, prog_7_method_1_code, 1, none)
abbrev M_An_init : MethodName × ByteArray × Nat × Option FieldType := (⟨"TagGuide$Answers", "<init>", "()V"⟩, prog_2_method_1_code, 1, none)
abbrev M_TG_write : MethodName × ByteArray × Nat × Option FieldType := (⟨"TagGuide", "write", "(C)Z"⟩, prog_1_method_2_code, 2, some .boolean)
abbrev M_Dr_append : MethodName × ByteArray × Nat × Option FieldType := (⟨"TagGuide$Draft", "append", "(C)Z"⟩, prog_3_method_2_code, 2, some .boolean)
abbrev M_TG_isWritable : MethodName × ByteArray × Nat × Option FieldType := (⟨"TagGuide", "isWritable", "(I)Z"⟩, prog_1_method_23_code, 1, some .boolean)
abbrev M_TG_define : MethodName × ByteArray × Nat × Option FieldType := (⟨"TagGuide", "define", "(C)I"⟩, prog_1_method_3_code, 3, some .int)
abbrev M_TG_isName : MethodName × ByteArray × Nat × Option FieldType := (⟨"TagGuide", "isName", "(I)Z"⟩, prog_1_method_22_code, 1, some .boolean)
abbrev M_Dr_isTooLarge : MethodName × ByteArray × Nat × Option FieldType := (⟨"TagGuide$Draft", "isTooLarge", "()Z"⟩, prog_3_method_5_code, 4, some .boolean)
abbrev M_Mr_readInto : MethodName × ByteArray × Nat × Option FieldType := (⟨"TagGuide$ModelReader", "readInto", "(LTagGuide$Model;)I"⟩, prog_9_method_2_code, 2, some .int)
abbrev M_Mo_clear : MethodName × ByteArray × Nat × Option FieldType := (⟨"TagGuide$Model", "clear", "()V"⟩, prog_8_method_2_code, 2, none)
abbrev M_Mr_takes : MethodName × ByteArray × Nat × Option FieldType := (⟨"TagGuide$ModelReader", "takes", "(C)Z"⟩, prog_9_method_8_code, 2, some .boolean)
abbrev M_Dr_at : MethodName × ByteArray × Nat × Option FieldType := (⟨"TagGuide$Draft", "at", "(I)I"⟩, prog_3_method_4_code, 2, some .int)
abbrev M_Mo_complete : MethodName × ByteArray × Nat × Option FieldType := (⟨"TagGuide$Model", "complete", "(IIZ)V"⟩, prog_8_method_5_code, 4, none)
abbrev M_Mo_start : MethodName × ByteArray × Nat × Option FieldType := (⟨"TagGuide$Model", "start", "()I"⟩, prog_8_method_7_code, 1, some .int)
abbrev M_Mr_readsExpression : MethodName × ByteArray × Nat × Option FieldType := (⟨"TagGuide$ModelReader", "readsExpression", "(I)Z"⟩, prog_9_method_3_code, 6, some .boolean)
abbrev M_Mr_readsSequence : MethodName × ByteArray × Nat × Option FieldType := (⟨"TagGuide$ModelReader", "readsSequence", "(I)Z"⟩, prog_9_method_4_code, 6, some .boolean)
abbrev M_Mr_readsItem : MethodName × ByteArray × Nat × Option FieldType := (⟨"TagGuide$ModelReader", "readsItem", "(I)Z"⟩, prog_9_method_5_code, 2, some .boolean)
abbrev M_Mr_readsName : MethodName × ByteArray × Nat × Option FieldType := (⟨"TagGuide$ModelReader", "readsName", "()Z"⟩, prog_9_method_6_code, 2, some .boolean)
abbrev M_Mo_addState : MethodName × ByteArray × Nat × Option FieldType := (⟨"TagGuide$Model", "addState", "(I)I"⟩, prog_8_method_3_code, 3, some .int)
abbrev M_Mr_readMark : MethodName × ByteArray × Nat × Option FieldType := (⟨"TagGuide$ModelReader", "readMark", "()V"⟩, prog_9_method_7_code, 1, none)
abbrev M_Mo_join : MethodName × ByteArray × Nat × Option FieldType := (⟨"TagGuide$Model", "join", "(II)V"⟩, prog_8_method_4_code, 4, none)
abbrev M_Ms_useSpareFor : MethodName × ByteArray × Nat × Option FieldType := (⟨"TagGuide$Models", "useSpareFor", "(I)V"⟩, prog_10_method_3_code, 3, none)
abbrev M_Ms_rowOf : MethodName × ByteArray × Nat × Option FieldType := (⟨"TagGuide$Models", "rowOf", "(I)I"⟩, prog_10_method_7_code, 2, some .int)
abbrev M_Ms_findFertileNames : MethodName × ByteArray × Nat × Option FieldType := (⟨"TagGuide$Models", "findFertileNames", "()V"⟩, prog_10_method_8_code, 5, none)
abbrev M_Mo_spread : MethodName × ByteArray × Nat × Option FieldType := (⟨"TagGuide$Model", "spread", "(II)I"⟩, prog_8_method_10_code, 7, some .int)
abbrev M_Mo_followersOf : MethodName × ByteArray × Nat × Option FieldType := (⟨"TagGuide$Model", "followersOf", "(I)I"⟩, prog_8_method_11_code, 4, some .int)
abbrev M_Mo_accepts : MethodName × ByteArray × Nat × Option FieldType := (⟨"TagGuide$Model", "accepts", "(I)Z"⟩, prog_8_method_8_code, 2, some .boolean)
abbrev M_Dr_clear : MethodName × ByteArray × Nat × Option FieldType := (⟨"TagGuide$Draft", "clear", "()V"⟩, prog_3_method_3_code, 1, none)
abbrev M_TG_insert : MethodName × ByteArray × Nat × Option FieldType := (⟨"TagGuide", "insert", "(IC)Z"⟩, prog_1_method_4_code, 3, some .boolean)
abbrev M_In_put : MethodName × ByteArray × Nat × Option FieldType := (⟨"TagGuide$Inbox", "put", "(IIII)Z"⟩, prog_7_method_3_code, 5, some .boolean)
abbrev M_In_isFull : MethodName × ByteArray × Nat × Option FieldType := (⟨"TagGuide$Inbox", "isFull", "()Z"⟩, prog_7_method_2_code, 1, some .boolean)
abbrev M_TG_erase : MethodName × ByteArray × Nat × Option FieldType := (⟨"TagGuide", "erase", "(II)Z"⟩, prog_1_method_5_code, 3, some .boolean)
abbrev M_TG_ask : MethodName × ByteArray × Nat × Option FieldType := (⟨"TagGuide", "ask", "(IIC)I"⟩, prog_1_method_6_code, 4, some .int)
abbrev M_In_putRequest : MethodName × ByteArray × Nat × Option FieldType := (⟨"TagGuide$Inbox", "putRequest", "(III)I"⟩, prog_7_method_4_code, 4, some .int)
abbrev M_TG_cancel : MethodName × ByteArray × Nat × Option FieldType := (⟨"TagGuide", "cancel", "(I)Z"⟩, prog_1_method_7_code, 2, some .boolean)
abbrev M_In_find : MethodName × ByteArray × Nat × Option FieldType := (⟨"TagGuide$Inbox", "find", "(I)I"⟩, prog_7_method_5_code, 3, some .int)
abbrev M_In_takeOut : MethodName × ByteArray × Nat × Option FieldType := (⟨"TagGuide$Inbox", "takeOut", "(I)Z"⟩, prog_7_method_6_code, 3, some .boolean)
abbrev M_TG_work : MethodName × ByteArray × Nat × Option FieldType := (⟨"TagGuide", "work", "()I"⟩, prog_1_method_8_code, 5, some .int)
abbrev M_TG_change : MethodName × ByteArray × Nat × Option FieldType := (⟨"TagGuide", "change", "(III)V"⟩, prog_1_method_17_code, 4, none)
abbrev M_Tx_putIn : MethodName × ByteArray × Nat × Option FieldType := (⟨"TagGuide$Text", "putIn", "(II)V"⟩, prog_11_method_3_code, 3, none)
abbrev M_Tx_takeOut : MethodName × ByteArray × Nat × Option FieldType := (⟨"TagGuide$Text", "takeOut", "(II)V"⟩, prog_11_method_4_code, 3, none)
abbrev M_TG_refresh : MethodName × ByteArray × Nat × Option FieldType := (⟨"TagGuide", "refresh", "()V"⟩, prog_1_method_21_code, 1, none)
abbrev M_Fa_clear : MethodName × ByteArray × Nat × Option FieldType := (⟨"TagGuide$Faults", "clear", "()V"⟩, prog_5_method_2_code, 1, none)
abbrev M_Tr_read : MethodName × ByteArray × Nat × Option FieldType := (⟨"TagGuide$Tree", "read", "(LTagGuide$Faults;)V"⟩, prog_12_method_2_code, 4, none)
abbrev M_El_open : MethodName × ByteArray × Nat × Option FieldType := (⟨"TagGuide$Element", "open", "(IIIII)V"⟩, prog_4_method_2_code, 6, none)
abbrev M_Tr_take : MethodName × ByteArray × Nat × Option FieldType := (⟨"TagGuide$Tree", "take", "(ILTagGuide$Faults;)I"⟩, prog_12_method_3_code, 3, some .int)
abbrev M_Tx_tagKindAt : MethodName × ByteArray × Nat × Option FieldType := (⟨"TagGuide$Text", "tagKindAt", "(I)I"⟩, prog_11_method_6_code, 2, some .int)
abbrev M_Tx_at : MethodName × ByteArray × Nat × Option FieldType := (⟨"TagGuide$Text", "at", "(I)I"⟩, prog_11_method_2_code, 2, some .int)
abbrev M_Tr_takeStartTag : MethodName × ByteArray × Nat × Option FieldType := (⟨"TagGuide$Tree", "takeStartTag", "(IILTagGuide$Faults;)V"⟩, prog_12_method_5_code, 4, none)
abbrev M_Tr_begins : MethodName × ByteArray × Nat × Option FieldType := (⟨"TagGuide$Tree", "begins", "(IILTagGuide$Faults;)Z"⟩, prog_12_method_7_code, 5, some .boolean)
abbrev M_Tr_addTag : MethodName × ByteArray × Nat × Option FieldType := (⟨"TagGuide$Tree", "addTag", "(III)V"⟩, prog_12_method_11_code, 4, none)
abbrev M_Fa_add : MethodName × ByteArray × Nat × Option FieldType := (⟨"TagGuide$Faults", "add", "(II)V"⟩, prog_5_method_3_code, 5, none)
abbrev M_Tr_takeEmptyTag : MethodName × ByteArray × Nat × Option FieldType := (⟨"TagGuide$Tree", "takeEmptyTag", "(IILTagGuide$Faults;)V"⟩, prog_12_method_6_code, 4, none)
abbrev M_El_close : MethodName × ByteArray × Nat × Option FieldType := (⟨"TagGuide$Element", "close", "(III)V"⟩, prog_4_method_3_code, 4, none)
abbrev M_Tr_takeEndTag : MethodName × ByteArray × Nat × Option FieldType := (⟨"TagGuide$Tree", "takeEndTag", "(IILTagGuide$Faults;)V"⟩, prog_12_method_8_code, 5, none)
abbrev M_Tr_latestOpenWith : MethodName × ByteArray × Nat × Option FieldType := (⟨"TagGuide$Tree", "latestOpenWith", "(I)I"⟩, prog_12_method_9_code, 4, some .int)
abbrev M_Tr_closeUpTo : MethodName × ByteArray × Nat × Option FieldType := (⟨"TagGuide$Tree", "closeUpTo", "(II)V"⟩, prog_12_method_10_code, 4, none)
abbrev M_Tr_takeCharacter : MethodName × ByteArray × Nat × Option FieldType := (⟨"TagGuide$Tree", "takeCharacter", "(ILTagGuide$Faults;)V"⟩, prog_12_method_4_code, 4, none)
abbrev M_El_takeCharacter : MethodName × ByteArray × Nat × Option FieldType := (⟨"TagGuide$Element", "takeCharacter", "(II)V"⟩, prog_4_method_4_code, 3, none)
abbrev M_Fa_judge : MethodName × ByteArray × Nat × Option FieldType := (⟨"TagGuide$Faults", "judge", "(LTagGuide$Tree;LTagGuide$Models;)V"⟩, prog_5_method_4_code, 6, none)
abbrev M_Ms_of : MethodName × ByteArray × Nat × Option FieldType := (⟨"TagGuide$Models", "of", "(I)LTagGuide$Model;"⟩, prog_10_method_2_code, 2, some (.object "TagGuide$Model"))
abbrev M_Mo_forbidsCharacters : MethodName × ByteArray × Nat × Option FieldType := (⟨"TagGuide$Model", "forbidsCharacters", "()Z"⟩, prog_8_method_6_code, 1, some .boolean)
abbrev M_Ms_allowChildren : MethodName × ByteArray × Nat × Option FieldType := (⟨"TagGuide$Models", "allowChildren", "(LTagGuide$Tree;I)Z"⟩, prog_10_method_4_code, 4, some .boolean)
abbrev M_Tr_stepChildren : MethodName × ByteArray × Nat × Option FieldType := (⟨"TagGuide$Tree", "stepChildren", "(LTagGuide$Model;IIII)I"⟩, prog_12_method_16_code, 9, some .int)
abbrev M_Mo_step : MethodName × ByteArray × Nat × Option FieldType := (⟨"TagGuide$Model", "step", "(II)I"⟩, prog_8_method_9_code, 3, some .int)
abbrev M_TG_reply : MethodName × ByteArray × Nat × Option FieldType := (⟨"TagGuide", "reply", "(III)I"⟩, prog_1_method_18_code, 4, some .int)
abbrev M_TG_offerAt : MethodName × ByteArray × Nat × Option FieldType := (⟨"TagGuide", "offerAt", "(I)I"⟩, prog_1_method_19_code, 2, some .int)
abbrev M_Tr_isWithinTag : MethodName × ByteArray × Nat × Option FieldType := (⟨"TagGuide$Tree", "isWithinTag", "(I)Z"⟩, prog_12_method_12_code, 3, some .boolean)
abbrev M_Tr_insideOf : MethodName × ByteArray × Nat × Option FieldType := (⟨"TagGuide$Tree", "insideOf", "(I)I"⟩, prog_12_method_15_code, 3, some .int)
abbrev M_El_hasInside : MethodName × ByteArray × Nat × Option FieldType := (⟨"TagGuide$Element", "hasInside", "(I)Z"⟩, prog_4_method_5_code, 2, some .boolean)
abbrev M_Ms_offer : MethodName × ByteArray × Nat × Option FieldType := (⟨"TagGuide$Models", "offer", "(LTagGuide$Tree;II)I"⟩, prog_10_method_6_code, 9, some .int)
abbrev M_TG_renameAt : MethodName × ByteArray × Nat × Option FieldType := (⟨"TagGuide", "renameAt", "(II)I"⟩, prog_1_method_20_code, 4, some .int)
abbrev M_Tr_ownerOfTagAt : MethodName × ByteArray × Nat × Option FieldType := (⟨"TagGuide$Tree", "ownerOfTagAt", "(I)I"⟩, prog_12_method_13_code, 3, some .int)
abbrev M_Tr_renameTags : MethodName × ByteArray × Nat × Option FieldType := (⟨"TagGuide$Tree", "renameTags", "(II)I"⟩, prog_12_method_14_code, 6, some .int)
abbrev M_Tx_replace : MethodName × ByteArray × Nat × Option FieldType := (⟨"TagGuide$Text", "replace", "(II)V"⟩, prog_11_method_5_code, 3, none)
abbrev M_Fa_preventForm : MethodName × ByteArray × Nat × Option FieldType := (⟨"TagGuide$Faults", "preventForm", "()Z"⟩, prog_5_method_5_code, 2, some .boolean)
abbrev M_Fo_formAnew : MethodName × ByteArray × Nat × Option FieldType := (⟨"TagGuide$Former", "formAnew", "()I"⟩, prog_6_method_3_code, 2, some .int)
abbrev M_Ms_makeLoose : MethodName × ByteArray × Nat × Option FieldType := (⟨"TagGuide$Models", "makeLoose", "(LTagGuide$Element;)Z"⟩, prog_10_method_5_code, 2, some .boolean)
abbrev M_Fo_copy : MethodName × ByteArray × Nat × Option FieldType := (⟨"TagGuide$Former", "copy", "(II)V"⟩, prog_6_method_6_code, 4, none)
abbrev M_Fo_put : MethodName × ByteArray × Nat × Option FieldType := (⟨"TagGuide$Former", "put", "(I)V"⟩, prog_6_method_7_code, 2, none)
abbrev M_Fo_startLine : MethodName × ByteArray × Nat × Option FieldType := (⟨"TagGuide$Former", "startLine", "(I)V"⟩, prog_6_method_5_code, 3, none)
abbrev M_Fo_addForm : MethodName × ByteArray × Nat × Option FieldType := (⟨"TagGuide$Former", "addForm", "(II)V"⟩, prog_6_method_4_code, 5, none)
abbrev M_An_keep : MethodName × ByteArray × Nat × Option FieldType := (⟨"TagGuide$Answers", "keep", "(II)V"⟩, prog_2_method_2_code, 3, none)
abbrev M_TG_answer : MethodName × ByteArray × Nat × Option FieldType := (⟨"TagGuide", "answer", "(I)I"⟩, prog_1_method_9_code, 2, some .int)
abbrev M_An_of : MethodName × ByteArray × Nat × Option FieldType := (⟨"TagGuide$Answers", "of", "(I)I"⟩, prog_2_method_3_code, 3, some .int)
abbrev M_TG_inbox : MethodName × ByteArray × Nat × Option FieldType := (⟨"TagGuide", "inbox", "()I"⟩, prog_1_method_10_code, 1, some .int)
abbrev M_TG_length : MethodName × ByteArray × Nat × Option FieldType := (⟨"TagGuide", "length", "()I"⟩, prog_1_method_11_code, 1, some .int)
abbrev M_TG_character : MethodName × ByteArray × Nat × Option FieldType := (⟨"TagGuide", "character", "(I)I"⟩, prog_1_method_12_code, 2, some .int)
abbrev M_TG_element : MethodName × ByteArray × Nat × Option FieldType := (⟨"TagGuide", "element", "(II)I"⟩, prog_1_method_13_code, 3, some .int)
abbrev M_El_tell : MethodName × ByteArray × Nat × Option FieldType := (⟨"TagGuide$Element", "tell", "(I)I"⟩, prog_4_method_6_code, 2, some .int)
abbrev M_TG_fault : MethodName × ByteArray × Nat × Option FieldType := (⟨"TagGuide", "fault", "(II)I"⟩, prog_1_method_14_code, 3, some .int)
abbrev M_Fa_tell : MethodName × ByteArray × Nat × Option FieldType := (⟨"TagGuide$Faults", "tell", "(II)I"⟩, prog_5_method_6_code, 3, some .int)
abbrev M_TG_fertile : MethodName × ByteArray × Nat × Option FieldType := (⟨"TagGuide", "fertile", "()I"⟩, prog_1_method_15_code, 1, some .int)
abbrev M_TG_formed : MethodName × ByteArray × Nat × Option FieldType := (⟨"TagGuide", "formed", "(I)I"⟩, prog_1_method_16_code, 2, some .int)
abbrev M_Fo_at : MethodName × ByteArray × Nat × Option FieldType := (⟨"TagGuide$Former", "at", "(I)I"⟩, prog_6_method_2_code, 2, some .int)
abbrev M_RF_init : MethodName × ByteArray × Nat × Option FieldType := (⟨"TagGuideModel", "<init>", "()V"⟩, prog_14_method_1_code, 1, none)
abbrev M_RF_write : MethodName × ByteArray × Nat × Option FieldType := (⟨"TagGuideModel", "write", "(C)Z"⟩, prog_14_method_3_code, 2, some .boolean)
abbrev M_RF_define : MethodName × ByteArray × Nat × Option FieldType := (⟨"TagGuideModel", "define", "(C)I"⟩, prog_14_method_14_code, 3, some .int)
abbrev M_RF_takeDraft : MethodName × ByteArray × Nat × Option FieldType := (⟨"TagGuideModel", "takeDraft", "(C)I"⟩, prog_14_method_13_code, 6, some .int)
abbrev M_RF_isName : MethodName × ByteArray × Nat × Option FieldType := (⟨"TagGuideModel", "isName", "(I)Z"⟩, prog_14_method_2_code, 1, some .boolean)
abbrev M_RF_count : MethodName × ByteArray × Nat × Option FieldType := (⟨"TagGuideModel", "count", "(Z)I"⟩, prog_14_method_12_code, 4, some .int)
abbrev M_RF_at : MethodName × ByteArray × Nat × Option FieldType := (⟨"TagGuideModel", "at", "(I)I"⟩, prog_14_method_4_code, 2, some .int)
abbrev M_RF_readNothing : MethodName × ByteArray × Nat × Option FieldType := (⟨"TagGuideModel", "readNothing", "()V"⟩, prog_14_method_11_code, 1, none)
abbrev M_RF_isExpression : MethodName × ByteArray × Nat × Option FieldType := (⟨"TagGuideModel", "isExpression", "(I)Z"⟩, prog_14_method_5_code, 7, some .boolean)
abbrev M_RF_readExpression : MethodName × ByteArray × Nat × Option FieldType := (⟨"TagGuideModel", "readExpression", "(I)V"⟩, prog_14_method_10_code, 11, none)
abbrev M_RF_setPart : MethodName × ByteArray × Nat × Option FieldType := (⟨"TagGuideModel", "setPart", "(IZIIZ)V"⟩, prog_14_method_7_code, 6, none)
abbrev M_RF_choose : MethodName × ByteArray × Nat × Option FieldType := (⟨"TagGuideModel", "choose", "(I)V"⟩, prog_14_method_9_code, 8, none)
abbrev M_RF_link : MethodName × ByteArray × Nat × Option FieldType := (⟨"TagGuideModel", "link", "(II)V"⟩, prog_14_method_6_code, 4, none)
abbrev M_RF_append : MethodName × ByteArray × Nat × Option FieldType := (⟨"TagGuideModel", "append", "(IIIZ)V"⟩, prog_14_method_8_code, 7, none)
abbrev M_RF_fertile : MethodName × ByteArray × Nat × Option FieldType := (⟨"TagGuideModel", "fertile", "()I"⟩, prog_14_method_19_code, 4, some .int)
abbrev M_RF_steps : MethodName × ByteArray × Nat × Option FieldType := (⟨"TagGuideModel", "steps", "(III)I"⟩, prog_14_method_18_code, 6, some .int)
abbrev M_RF_step : MethodName × ByteArray × Nat × Option FieldType := (⟨"TagGuideModel", "step", "(III)I"⟩, prog_14_method_16_code, 6, some .int)
abbrev M_RF_next : MethodName × ByteArray × Nat × Option FieldType := (⟨"TagGuideModel", "next", "(II)I"⟩, prog_14_method_15_code, 5, some .int)
abbrev M_RF_accepts : MethodName × ByteArray × Nat × Option FieldType := (⟨"TagGuideModel", "accepts", "(II)Z"⟩, prog_14_method_17_code, 3, some .boolean)
abbrev M_RF_insert : MethodName × ByteArray × Nat × Option FieldType := (⟨"TagGuideModel", "insert", "(IC)Z"⟩, prog_14_method_46_code, 3, some .boolean)
abbrev M_RF_post : MethodName × ByteArray × Nat × Option FieldType := (⟨"TagGuideModel", "post", "(IIIII)V"⟩, prog_14_method_45_code, 6, none)
abbrev M_RF_erase : MethodName × ByteArray × Nat × Option FieldType := (⟨"TagGuideModel", "erase", "(II)Z"⟩, prog_14_method_47_code, 3, some .boolean)
abbrev M_RF_ask : MethodName × ByteArray × Nat × Option FieldType := (⟨"TagGuideModel", "ask", "(IIC)I"⟩, prog_14_method_48_code, 4, some .int)
abbrev M_RF_cancel : MethodName × ByteArray × Nat × Option FieldType := (⟨"TagGuideModel", "cancel", "(I)Z"⟩, prog_14_method_51_code, 3, some .boolean)
abbrev M_RF_waitsAt : MethodName × ByteArray × Nat × Option FieldType := (⟨"TagGuideModel", "waitsAt", "(I)I"⟩, prog_14_method_50_code, 3, some .int)
abbrev M_RF_strike : MethodName × ByteArray × Nat × Option FieldType := (⟨"TagGuideModel", "strike", "(I)V"⟩, prog_14_method_49_code, 3, none)
abbrev M_RF_work : MethodName × ByteArray × Nat × Option FieldType := (⟨"TagGuideModel", "work", "()I"⟩, prog_14_method_55_code, 6, some .int)
abbrev M_RF_insertNow : MethodName × ByteArray × Nat × Option FieldType := (⟨"TagGuideModel", "insertNow", "(II)V"⟩, prog_14_method_52_code, 4, none)
abbrev M_RF_eraseNow : MethodName × ByteArray × Nat × Option FieldType := (⟨"TagGuideModel", "eraseNow", "(II)V"⟩, prog_14_method_53_code, 4, none)
abbrev M_RF_respond : MethodName × ByteArray × Nat × Option FieldType := (⟨"TagGuideModel", "respond", "(III)I"⟩, prog_14_method_54_code, 4, some .int)
abbrev M_RF_analyse : MethodName × ByteArray × Nat × Option FieldType := (⟨"TagGuideModel", "analyse", "()V"⟩, prog_14_method_30_code, 8, none)
abbrev M_RF_newElement : MethodName × ByteArray × Nat × Option FieldType := (⟨"TagGuideModel", "newElement", "(IIII)I"⟩, prog_14_method_23_code, 5, some .int)
abbrev M_RF_charAt : MethodName × ByteArray × Nat × Option FieldType := (⟨"TagGuideModel", "charAt", "(I)I"⟩, prog_14_method_20_code, 2, some .int)
abbrev M_RF_mark : MethodName × ByteArray × Nat × Option FieldType := (⟨"TagGuideModel", "mark", "(III)V"⟩, prog_14_method_22_code, 5, none)
abbrev M_RF_takeStart : MethodName × ByteArray × Nat × Option FieldType := (⟨"TagGuideModel", "takeStart", "(IZ)V"⟩, prog_14_method_28_code, 5, none)
abbrev M_RF_openElements : MethodName × ByteArray × Nat × Option FieldType := (⟨"TagGuideModel", "openElements", "()I"⟩, prog_14_method_25_code, 3, some .int)
abbrev M_RF_addFault : MethodName × ByteArray × Nat × Option FieldType := (⟨"TagGuideModel", "addFault", "(II)V"⟩, prog_14_method_21_code, 4, none)
abbrev M_RF_current : MethodName × ByteArray × Nat × Option FieldType := (⟨"TagGuideModel", "current", "()I"⟩, prog_14_method_24_code, 2, some .int)
abbrev M_RF_takeEnd : MethodName × ByteArray × Nat × Option FieldType := (⟨"TagGuideModel", "takeEnd", "(I)V"⟩, prog_14_method_27_code, 4, none)
abbrev M_RF_closeBare : MethodName × ByteArray × Nat × Option FieldType := (⟨"TagGuideModel", "closeBare", "(II)V"⟩, prog_14_method_26_code, 3, none)
abbrev M_RF_takeCharacter : MethodName × ByteArray × Nat × Option FieldType := (⟨"TagGuideModel", "takeCharacter", "(I)V"⟩, prog_14_method_29_code, 4, none)
abbrev M_RF_judge : MethodName × ByteArray × Nat × Option FieldType := (⟨"TagGuideModel", "judge", "(I)V"⟩, prog_14_method_33_code, 5, none)
abbrev M_RF_modelOf : MethodName × ByteArray × Nat × Option FieldType := (⟨"TagGuideModel", "modelOf", "(I)I"⟩, prog_14_method_31_code, 2, some .int)
abbrev M_RF_offer : MethodName × ByteArray × Nat × Option FieldType := (⟨"TagGuideModel", "offer", "(I)I"⟩, prog_14_method_34_code, 10, some .int)
abbrev M_RF_isBit : MethodName × ByteArray × Nat × Option FieldType := (⟨"TagGuideModel", "isBit", "(II)Z"⟩, prog_14_method_32_code, 3, some .boolean)
abbrev M_RF_rename : MethodName × ByteArray × Nat × Option FieldType := (⟨"TagGuideModel", "rename", "(II)I"⟩, prog_14_method_35_code, 4, some .int)
abbrev M_RF_makeForm : MethodName × ByteArray × Nat × Option FieldType := (⟨"TagGuideModel", "makeForm", "()I"⟩, prog_14_method_44_code, 3, some .int)
abbrev M_RF_loose : MethodName × ByteArray × Nat × Option FieldType := (⟨"TagGuideModel", "loose", "(I)Z"⟩, prog_14_method_36_code, 5, some .boolean)
abbrev M_RF_putText : MethodName × ByteArray × Nat × Option FieldType := (⟨"TagGuideModel", "putText", "(II)V"⟩, prog_14_method_39_code, 4, none)
abbrev M_RF_put : MethodName × ByteArray × Nat × Option FieldType := (⟨"TagGuideModel", "put", "(I)V"⟩, prog_14_method_38_code, 2, none)
abbrev M_RF_laid : MethodName × ByteArray × Nat × Option FieldType := (⟨"TagGuideModel", "laid", "(I)Z"⟩, prog_14_method_41_code, 4, some .boolean)
abbrev M_RF_endLines : MethodName × ByteArray × Nat × Option FieldType := (⟨"TagGuideModel", "endLines", "(II)V"⟩, prog_14_method_43_code, 4, none)
abbrev M_RF_within : MethodName × ByteArray × Nat × Option FieldType := (⟨"TagGuideModel", "within", "(II)Z"⟩, prog_14_method_42_code, 4, some .boolean)
abbrev M_RF_depthOf : MethodName × ByteArray × Nat × Option FieldType := (⟨"TagGuideModel", "depthOf", "(I)I"⟩, prog_14_method_37_code, 4, some .int)
abbrev M_RF_putLine : MethodName × ByteArray × Nat × Option FieldType := (⟨"TagGuideModel", "putLine", "(I)V"⟩, prog_14_method_40_code, 3, none)
abbrev M_RF_answer : MethodName × ByteArray × Nat × Option FieldType := (⟨"TagGuideModel", "answer", "(I)I"⟩, prog_14_method_56_code, 3, some .int)
abbrev M_RF_inbox : MethodName × ByteArray × Nat × Option FieldType := (⟨"TagGuideModel", "inbox", "()I"⟩, prog_14_method_57_code, 1, some .int)
abbrev M_RF_length : MethodName × ByteArray × Nat × Option FieldType := (⟨"TagGuideModel", "length", "()I"⟩, prog_14_method_58_code, 1, some .int)
abbrev M_RF_character : MethodName × ByteArray × Nat × Option FieldType := (⟨"TagGuideModel", "character", "(I)I"⟩, prog_14_method_59_code, 2, some .int)
abbrev M_RF_element : MethodName × ByteArray × Nat × Option FieldType := (⟨"TagGuideModel", "element", "(II)I"⟩, prog_14_method_60_code, 5, some .int)
abbrev M_RF_fault : MethodName × ByteArray × Nat × Option FieldType := (⟨"TagGuideModel", "fault", "(II)I"⟩, prog_14_method_61_code, 3, some .int)
abbrev M_RF_formed : MethodName × ByteArray × Nat × Option FieldType := (⟨"TagGuideModel", "formed", "(I)I"⟩, prog_14_method_62_code, 2, some .int)
