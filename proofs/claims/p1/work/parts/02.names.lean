def obW : List Cond := lw_tbl.filter goodWord
theorem lw_at (i : Nat) {w : Cond} (h : tables_1[i]? = some w) (hg : goodWord w = true) : w ∈ obW := List.mem_filter.mpr ⟨List.mem_append_right _ (List.mem_of_getElem? h), hg⟩
theorem lw_an (i : Nat) {w : Cond} (h : tables_1[i]? = some w) : w ∈ lw_tbl := List.mem_append_right _ (List.mem_of_getElem? h)
theorem lw_ap (i : Nat) {q : MethodName × Nat} (h : lw_privs[i]? = some q) : Cond.selects q.1.cls q.1 q.1 ∈ obW := List.mem_filter.mpr ⟨List.mem_append_left _ (List.mem_map.mpr ⟨q, List.mem_of_getElem? h, rfl⟩), rfl⟩
theorem lw_ats {ws : List Cond} (ps : List Nat) (h : ws = ps.filterMap (fun i => tables_1[i]?)) (hg : ws.all goodWord = true) : ∀ w ∈ ws, w ∈ obW := fun w hw => by
  have h1 := List.all_eq_true.mp hg w hw
  rw [h] at hw
  obtain ⟨i, -, hi⟩ := List.mem_filterMap.mp hw
  exact lw_at i hi h1
theorem lw_good {w : Cond} (h : w ∈ obW) : (w.onTables && w.keeps) = true ∨ ∃ ty, w = .arrayClass ty := good_of_word (List.mem_filter.mp h).2
theorem gN {c : Cond} (h : c ∈ obW) : GoodIn obW (c :: obW) := fun w hw => by
  rcases List.mem_cons.mp hw with rfl | hw
  · exact ⟨h, lw_good h⟩
  · exact ⟨hw, lw_good hw⟩
theorem gV {own C : String} {idx : Nat} {y : MethodName} {c : Cond} (h1 : Cond.methodLink own idx y ∈ obW) (h2 : Cond.instanceMethod y ∈ obW) (h3 : Cond.selects C y y ∈ obW) (h4 : Cond.initialized C ∈ obW) (h5 : c ∈ obW) : GoodIn obW (wsV own idx C y (c :: obW)) := fun w hw => by
  rcases List.mem_append.mp hw with hw | hw
  · have hm : w ∈ obW := by
      simp only [List.mem_cons, List.not_mem_nil, or_false] at hw
      rcases hw with rfl | rfl | rfl | rfl <;> assumption
    exact ⟨hm, lw_good hm⟩
  · exact gN h5 w hw
theorem gS {own : String} {idx : Nat} {y : MethodName} {c : Cond} (h1 : Cond.methodLink own idx y ∈ obW) (h2 : Cond.static y ∈ obW) (h4 : Cond.initialized y.cls ∈ obW) (h5 : c ∈ obW) : GoodIn obW (va_wsS own idx y (c :: obW)) := fun w hw => by
  rcases List.mem_append.mp hw with hw | hw
  · have hm : w ∈ obW := by
      simp only [List.mem_cons, List.not_mem_nil, or_false] at hw
      rcases hw with rfl | rfl | rfl <;> assumption
    exact ⟨hm, lw_good hm⟩
  · exact gN h5 w hw
/-- the words that do not go with a method's list: they go with its start -/
def obZ (U : State) : Prop := va_AO "ObjectBase$Question" U ∧ ∀ (a : String) (i : Nat) (x : MethodName) (h : String), Cond.methodLinkNest a i x h ∈ lw_tbl → va_Nw (.methodLinkNest a i x h) U
theorem obZ.warm {s U : State} (h : obZ s) (hW : s.WarmedH U.vm) : obZ U := ⟨h.1.moved hW.alike, fun a i x hh hm => va_Nw.warmM hW (h.2 a i x hh hm)⟩
theorem obZ.same {s U : State} (h : obZ s) (he : s.vm = U.vm) : obZ U := ⟨h.1.moved (he ▸ Vm.Alike.refl s.vm), fun a i x hh hm => va_Nw.same rfl he (h.2 a i x hh hm)⟩
def TC_OB : u_T := fun k => match k with
  | 0 => ("ObjectBase", "schema", "LObjectBase$Schema;", true)
  | 1 => ("ObjectBase", "indexes", "LObjectBase$Indexes;", true)
  | 2 => ("ObjectBase", "disk", "LObjectBase$Disk;", true)
  | 3 => ("ObjectBase", "kept", "LObjectBase$Image;", true)
  | 4 => ("ObjectBase", "batch", "LObjectBase$Batch;", true)
  | 5 => ("ObjectBase", "draftText", "LObjectBase$Text;", true)
  | 6 => ("ObjectBase", "questions", "[LObjectBase$Question;", true)
  | 7 => ("ObjectBase", "reader", "LObjectBase$Reader;", true)
  | 8 => ("ObjectBase", "judge", "LObjectBase$Judge;", true)
  | 9 => ("ObjectBase", "latest", "LObjectBase$Answer;", true)
  | 10 => ("ObjectBase", "questionCount", "I", false)
  | 11 => ("ObjectBase", "idsGiven", "I", false)
  | _ => ("ObjectBase", "everBegun", "Z", false)
def tyC_OB : Nat → FieldType := fun k => match k with
  | 0 => .object "ObjectBase$Schema"
  | 1 => .object "ObjectBase$Indexes"
  | 2 => .object "ObjectBase$Disk"
  | 3 => .object "ObjectBase$Image"
  | 4 => .object "ObjectBase$Batch"
  | 5 => .object "ObjectBase$Text"
  | 6 => .array (.object "ObjectBase$Question")
  | 7 => .object "ObjectBase$Reader"
  | 8 => .object "ObjectBase$Judge"
  | 9 => .object "ObjectBase$Answer"
  | 10 => .int
  | 11 => .int
  | _ => .boolean
theorem nmC_OB : ∀ a, a < 13 → ∀ b, b < 13 → a ≠ b → (TC_OB a).2.1 ≠ (TC_OB b).2.1 := by decide +kernel
theorem tyC_OB_ok : ∀ k, k < 13 → parseFieldDescriptor (TC_OB k).2.2.1 = some (tyC_OB k) := by decide +kernel
theorem inC_OB : ∀ w ∈ u_ws "ObjectBase" TC_OB 13, w ∈ obW := lw_ats [245, 247, 249, 251, 253, 255, 257, 259, 261, 263, 265, 267, 269] (by decide +kernel) (by decide +kernel)
def TC_Schema : u_T := fun k => match k with
  | 0 => ("ObjectBase$Schema", "above", "[I", true)
  | 1 => ("ObjectBase$Schema", "owners", "[I", true)
  | 2 => ("ObjectBase$Schema", "kinds", "[I", true)
  | 3 => ("ObjectBase$Schema", "targets", "[I", true)
  | 4 => ("ObjectBase$Schema", "classCount", "I", false)
  | _ => ("ObjectBase$Schema", "fieldCount", "I", false)
def tyC_Schema : Nat → FieldType := fun k => match k with
  | 0 => .array .int
  | 1 => .array .int
  | 2 => .array .int
  | 3 => .array .int
  | 4 => .int
  | _ => .int
theorem nmC_Schema : ∀ a, a < 6 → ∀ b, b < 6 → a ≠ b → (TC_Schema a).2.1 ≠ (TC_Schema b).2.1 := by decide +kernel
theorem tyC_Schema_ok : ∀ k, k < 6 → parseFieldDescriptor (TC_Schema k).2.2.1 = some (tyC_Schema k) := by decide +kernel
theorem inC_Schema : ∀ w ∈ u_ws "ObjectBase$Schema" TC_Schema 6, w ∈ obW := lw_ats [43, 45, 47, 49, 51, 53] (by decide +kernel) (by decide +kernel)
def TC_Indexes : u_T := fun k => match k with
  | 0 => ("ObjectBase$Indexes", "classes", "[I", true)
  | 1 => ("ObjectBase$Indexes", "fields", "[I", true)
  | _ => ("ObjectBase$Indexes", "count", "I", false)
def tyC_Indexes : Nat → FieldType := fun k => match k with
  | 0 => .array .int
  | 1 => .array .int
  | _ => .int
theorem nmC_Indexes : ∀ a, a < 3 → ∀ b, b < 3 → a ≠ b → (TC_Indexes a).2.1 ≠ (TC_Indexes b).2.1 := by decide +kernel
theorem tyC_Indexes_ok : ∀ k, k < 3 → parseFieldDescriptor (TC_Indexes k).2.2.1 = some (tyC_Indexes k) := by decide +kernel
theorem inC_Indexes : ∀ w ∈ u_ws "ObjectBase$Indexes" TC_Indexes 3, w ∈ obW := lw_ats [67, 69, 71] (by decide +kernel) (by decide +kernel)
def TC_Disk : u_T := fun k => match k with
  | 0 => ("ObjectBase$Disk", "written", "I", false)
  | 1 => ("ObjectBase$Disk", "armed", "I", false)
  | 2 => ("ObjectBase$Disk", "half", "I", false)
  | 3 => ("ObjectBase$Disk", "logged", "I", false)
  | 4 => ("ObjectBase$Disk", "marked", "Z", false)
  | _ => ("ObjectBase$Disk", "down", "Z", false)
def tyC_Disk : Nat → FieldType := fun k => match k with
  | 0 => .int
  | 1 => .int
  | 2 => .int
  | 3 => .int
  | 4 => .boolean
  | _ => .boolean
theorem nmC_Disk : ∀ a, a < 6 → ∀ b, b < 6 → a ≠ b → (TC_Disk a).2.1 ≠ (TC_Disk b).2.1 := by decide +kernel
theorem tyC_Disk_ok : ∀ k, k < 6 → parseFieldDescriptor (TC_Disk k).2.2.1 = some (tyC_Disk k) := by decide +kernel
theorem inC_Disk : ∀ w ∈ u_ws "ObjectBase$Disk" TC_Disk 6, w ∈ obW := lw_ats [89, 91, 93, 95, 97, 99] (by decide +kernel) (by decide +kernel)
def TC_Image : u_T := fun k => match k with
  | 0 => ("ObjectBase$Image", "classes", "[I", true)
  | 1 => ("ObjectBase$Image", "values", "[J", true)
  | _ => ("ObjectBase$Image", "names", "[I", true)
def tyC_Image : Nat → FieldType := fun k => match k with
  | 0 => .array .int
  | 1 => .array .long
  | _ => .array .int
theorem nmC_Image : ∀ a, a < 3 → ∀ b, b < 3 → a ≠ b → (TC_Image a).2.1 ≠ (TC_Image b).2.1 := by decide +kernel
theorem tyC_Image_ok : ∀ k, k < 3 → parseFieldDescriptor (TC_Image k).2.2.1 = some (tyC_Image k) := by decide +kernel
theorem inC_Image : ∀ w ∈ u_ws "ObjectBase$Image" TC_Image 3, w ∈ obW := lw_ats [115, 117, 119] (by decide +kernel) (by decide +kernel)
def TC_Batch : u_T := fun k => match k with
  | 0 => ("ObjectBase$Batch", "image", "LObjectBase$Image;", true)
  | 1 => ("ObjectBase$Batch", "known", "J", false)
  | 2 => ("ObjectBase$Batch", "touched", "J", false)
  | 3 => ("ObjectBase$Batch", "namesTouched", "Z", false)
  | _ => ("ObjectBase$Batch", "open", "Z", false)
def tyC_Batch : Nat → FieldType := fun k => match k with
  | 0 => .object "ObjectBase$Image"
  | 1 => .long
  | 2 => .long
  | 3 => .boolean
  | _ => .boolean
theorem nmC_Batch : ∀ a, a < 5 → ∀ b, b < 5 → a ≠ b → (TC_Batch a).2.1 ≠ (TC_Batch b).2.1 := by decide +kernel
theorem tyC_Batch_ok : ∀ k, k < 5 → parseFieldDescriptor (TC_Batch k).2.2.1 = some (tyC_Batch k) := by decide +kernel
theorem inC_Batch : ∀ w ∈ u_ws "ObjectBase$Batch" TC_Batch 5, w ∈ obW := lw_ats [139, 141, 143, 145, 147] (by decide +kernel) (by decide +kernel)
def TC_Text : u_T := fun k => match k with
  | 0 => ("ObjectBase$Text", "chars", "[C", true)
  | _ => ("ObjectBase$Text", "length", "I", false)
def tyC_Text : Nat → FieldType := fun k => match k with
  | 0 => .array .char
  | _ => .int
theorem nmC_Text : ∀ a, a < 2 → ∀ b, b < 2 → a ≠ b → (TC_Text a).2.1 ≠ (TC_Text b).2.1 := by decide +kernel
theorem tyC_Text_ok : ∀ k, k < 2 → parseFieldDescriptor (TC_Text k).2.2.1 = some (tyC_Text k) := by decide +kernel
theorem inC_Text : ∀ w ∈ u_ws "ObjectBase$Text" TC_Text 2, w ∈ obW := lw_ats [161, 163] (by decide +kernel) (by decide +kernel)
def TC_Question : u_T := fun k => match k with
  | 0 => ("ObjectBase$Question", "text", "LObjectBase$Text;", true)
  | 1 => ("ObjectBase$Question", "numbers", "[I", true)
  | 2 => ("ObjectBase$Question", "kinds", "[I", true)
  | 3 => ("ObjectBase$Question", "inner", "[I", true)
  | 4 => ("ObjectBase$Question", "next", "[I", true)
  | 5 => ("ObjectBase$Question", "left", "[I", true)
  | 6 => ("ObjectBase$Question", "right", "[I", true)
  | 7 => ("ObjectBase$Question", "nodeCount", "I", false)
  | 8 => ("ObjectBase$Question", "root", "I", false)
  | 9 => ("ObjectBase$Question", "asked", "I", false)
  | _ => ("ObjectBase$Question", "mode", "C", false)
def tyC_Question : Nat → FieldType := fun k => match k with
  | 0 => .object "ObjectBase$Text"
  | 1 => .array .int
  | 2 => .array .int
  | 3 => .array .int
  | 4 => .array .int
  | 5 => .array .int
  | 6 => .array .int
  | 7 => .int
  | 8 => .int
  | 9 => .int
  | _ => .char
theorem nmC_Question : ∀ a, a < 11 → ∀ b, b < 11 → a ≠ b → (TC_Question a).2.1 ≠ (TC_Question b).2.1 := by decide +kernel
theorem tyC_Question_ok : ∀ k, k < 11 → parseFieldDescriptor (TC_Question k).2.2.1 = some (tyC_Question k) := by decide +kernel
theorem inC_Question : ∀ w ∈ u_ws "ObjectBase$Question" TC_Question 11, w ∈ obW := lw_ats [564, 566, 568, 570, 572, 574, 576, 578, 580, 582, 584] (by decide +kernel) (by decide +kernel)
def TC_Reader : u_T := fun k => match k with
  | 0 => ("ObjectBase$Reader", "schema", "LObjectBase$Schema;", true)
  | 1 => ("ObjectBase$Reader", "standing", "[I", true)
  | 2 => ("ObjectBase$Reader", "question", "LObjectBase$Question;", false)
  | 3 => ("ObjectBase$Reader", "text", "LObjectBase$Text;", false)
  | 4 => ("ObjectBase$Reader", "place", "I", false)
  | _ => ("ObjectBase$Reader", "ledTo", "I", false)
def tyC_Reader : Nat → FieldType := fun k => match k with
  | 0 => .object "ObjectBase$Schema"
  | 1 => .array .int
  | 2 => .object "ObjectBase$Question"
  | 3 => .object "ObjectBase$Text"
  | 4 => .int
  | _ => .int
theorem nmC_Reader : ∀ a, a < 6 → ∀ b, b < 6 → a ≠ b → (TC_Reader a).2.1 ≠ (TC_Reader b).2.1 := by decide +kernel
theorem tyC_Reader_ok : ∀ k, k < 6 → parseFieldDescriptor (TC_Reader k).2.2.1 = some (tyC_Reader k) := by decide +kernel
theorem inC_Reader : ∀ w ∈ u_ws "ObjectBase$Reader" TC_Reader 6, w ∈ obW := lw_ats [181, 183, 185, 187, 189, 191] (by decide +kernel) (by decide +kernel)
def TC_Judge : u_T := fun k => match k with
  | 0 => ("ObjectBase$Judge", "image", "LObjectBase$Image;", true)
  | 1 => ("ObjectBase$Judge", "bound", "[I", true)
  | _ => ("ObjectBase$Judge", "question", "LObjectBase$Question;", false)
def tyC_Judge : Nat → FieldType := fun k => match k with
  | 0 => .object "ObjectBase$Image"
  | 1 => .array .int
  | _ => .object "ObjectBase$Question"
theorem nmC_Judge : ∀ a, a < 3 → ∀ b, b < 3 → a ≠ b → (TC_Judge a).2.1 ≠ (TC_Judge b).2.1 := by decide +kernel
theorem tyC_Judge_ok : ∀ k, k < 3 → parseFieldDescriptor (TC_Judge k).2.2.1 = some (tyC_Judge k) := by decide +kernel
theorem inC_Judge : ∀ w ∈ u_ws "ObjectBase$Judge" TC_Judge 3, w ∈ obW := lw_ats [203, 205, 207] (by decide +kernel) (by decide +kernel)
def TC_Answer : u_T := fun k => match k with
  | 0 => ("ObjectBase$Answer", "mode", "C", false)
  | 1 => ("ObjectBase$Answer", "fitting", "J", false)
  | 2 => ("ObjectBase$Answer", "total", "J", false)
  | _ => ("ObjectBase$Answer", "looked", "I", false)
def tyC_Answer : Nat → FieldType := fun k => match k with
  | 0 => .char
  | 1 => .long
  | 2 => .long
  | _ => .int
theorem nmC_Answer : ∀ a, a < 4 → ∀ b, b < 4 → a ≠ b → (TC_Answer a).2.1 ≠ (TC_Answer b).2.1 := by decide +kernel
theorem tyC_Answer_ok : ∀ k, k < 4 → parseFieldDescriptor (TC_Answer k).2.2.1 = some (tyC_Answer k) := by decide +kernel
theorem inC_Answer : ∀ w ∈ u_ws "ObjectBase$Answer" TC_Answer 4, w ∈ obW := lw_ats [223, 225, 227, 229] (by decide +kernel) (by decide +kernel)
def TC_M : u_T := fun k => match k with
  | 0 => ("ObjectBaseModel", "classes", "I", false)
  | 1 => ("ObjectBaseModel", "parent", "[I", true)
  | 2 => ("ObjectBaseModel", "fields", "I", false)
  | 3 => ("ObjectBaseModel", "owner", "[I", true)
  | 4 => ("ObjectBaseModel", "sort", "[I", true)
  | 5 => ("ObjectBaseModel", "aim", "[I", true)
  | 6 => ("ObjectBaseModel", "begun", "Z", false)
  | 7 => ("ObjectBaseModel", "indexes", "I", false)
  | 8 => ("ObjectBaseModel", "indexClass", "[I", true)
  | 9 => ("ObjectBaseModel", "indexPath", "[I", true)
  | 10 => ("ObjectBaseModel", "made", "I", false)
  | 11 => ("ObjectBaseModel", "classes1", "[I", true)
  | 12 => ("ObjectBaseModel", "dValues", "[I", true)
  | 13 => ("ObjectBaseModel", "dSets", "[J", true)
  | 14 => ("ObjectBaseModel", "dNames", "[I", true)
  | 15 => ("ObjectBaseModel", "values", "[I", true)
  | 16 => ("ObjectBaseModel", "sets", "[J", true)
  | 17 => ("ObjectBaseModel", "names", "[I", true)
  | 18 => ("ObjectBaseModel", "slotted", "J", false)
  | 19 => ("ObjectBaseModel", "half", "I", false)
  | 20 => ("ObjectBaseModel", "open", "Z", false)
  | 21 => ("ObjectBaseModel", "known", "J", false)
  | 22 => ("ObjectBaseModel", "fresh", "J", false)
  | 23 => ("ObjectBaseModel", "changed", "J", false)
  | 24 => ("ObjectBaseModel", "renamed", "Z", false)
  | 25 => ("ObjectBaseModel", "down", "Z", false)
  | 26 => ("ObjectBaseModel", "armed", "I", false)
  | 27 => ("ObjectBaseModel", "written", "I", false)
  | 28 => ("ObjectBaseModel", "logged", "I", false)
  | 29 => ("ObjectBaseModel", "marked", "Z", false)
  | 30 => ("ObjectBaseModel", "logSize", "I", false)
  | 31 => ("ObjectBaseModel", "drafted", "I", false)
  | 32 => ("ObjectBaseModel", "draft", "[I", true)
  | 33 => ("ObjectBaseModel", "questions", "I", false)
  | 34 => ("ObjectBaseModel", "lengths", "[I", true)
  | 35 => ("ObjectBaseModel", "text", "[I", true)
  | 36 => ("ObjectBaseModel", "classOfQuestion", "[I", true)
  | 37 => ("ObjectBaseModel", "split", "[Z", true)
  | 38 => ("ObjectBaseModel", "steps", "[I", true)
  | 39 => ("ObjectBaseModel", "what", "[I", true)
  | 40 => ("ObjectBaseModel", "one", "[I", true)
  | 41 => ("ObjectBaseModel", "two", "[I", true)
  | 42 => ("ObjectBaseModel", "now", "I", false)
  | 43 => ("ObjectBaseModel", "at", "I", false)
  | 44 => ("ObjectBaseModel", "bad", "Z", false)
  | 45 => ("ObjectBaseModel", "opens", "I", false)
  | 46 => ("ObjectBaseModel", "opened", "[I", true)
  | 47 => ("ObjectBaseModel", "openedAt", "[I", true)
  | 48 => ("ObjectBaseModel", "deep", "I", false)
  | 49 => ("ObjectBaseModel", "aimed", "I", false)
  | 50 => ("ObjectBaseModel", "stands", "[I", true)
  | 51 => ("ObjectBaseModel", "variable", "[I", true)
  | 52 => ("ObjectBaseModel", "truths", "I", false)
  | 53 => ("ObjectBaseModel", "truth", "[Z", true)
  | 54 => ("ObjectBaseModel", "loops", "I", false)
  | 55 => ("ObjectBaseModel", "rest", "[J", true)
  | 56 => ("ObjectBaseModel", "loopAt", "[I", true)
  | 57 => ("ObjectBaseModel", "loopFound", "[Z", true)
  | 58 => ("ObjectBaseModel", "valued", "I", false)
  | 59 => ("ObjectBaseModel", "value", "I", false)
  | 60 => ("ObjectBaseModel", "set", "J", false)
  | 61 => ("ObjectBaseModel", "latest", "I", false)
  | 62 => ("ObjectBaseModel", "fits", "I", false)
  | 63 => ("ObjectBaseModel", "hits", "[I", true)
  | 64 => ("ObjectBaseModel", "total", "J", false)
  | _ => ("ObjectBaseModel", "looked", "I", false)
def tyC_M : Nat → FieldType := fun k => match k with
  | 0 => .int
  | 1 => .array .int
  | 2 => .int
  | 3 => .array .int
  | 4 => .array .int
  | 5 => .array .int
  | 6 => .boolean
  | 7 => .int
  | 8 => .array .int
  | 9 => .array .int
  | 10 => .int
  | 11 => .array .int
  | 12 => .array .int
  | 13 => .array .long
  | 14 => .array .int
  | 15 => .array .int
  | 16 => .array .long
  | 17 => .array .int
  | 18 => .long
  | 19 => .int
  | 20 => .boolean
  | 21 => .long
  | 22 => .long
  | 23 => .long
  | 24 => .boolean
  | 25 => .boolean
  | 26 => .int
  | 27 => .int
  | 28 => .int
  | 29 => .boolean
  | 30 => .int
  | 31 => .int
  | 32 => .array .int
  | 33 => .int
  | 34 => .array .int
  | 35 => .array .int
  | 36 => .array .int
  | 37 => .array .boolean
  | 38 => .array .int
  | 39 => .array .int
  | 40 => .array .int
  | 41 => .array .int
  | 42 => .int
  | 43 => .int
  | 44 => .boolean
  | 45 => .int
  | 46 => .array .int
  | 47 => .array .int
  | 48 => .int
  | 49 => .int
  | 50 => .array .int
  | 51 => .array .int
  | 52 => .int
  | 53 => .array .boolean
  | 54 => .int
  | 55 => .array .long
  | 56 => .array .int
  | 57 => .array .boolean
  | 58 => .int
  | 59 => .int
  | 60 => .long
  | 61 => .int
  | 62 => .int
  | 63 => .array .int
  | 64 => .long
  | _ => .int
theorem nmC_M : ∀ a, a < 66 → ∀ b, b < 66 → a ≠ b → (TC_M a).2.1 ≠ (TC_M b).2.1 := by decide +kernel
theorem tyC_M_ok : ∀ k, k < 66 → parseFieldDescriptor (TC_M k).2.2.1 = some (tyC_M k) := by decide +kernel
theorem inC_M : ∀ w ∈ u_ws "ObjectBaseModel" TC_M 66, w ∈ obW := lw_ats [853, 855, 857, 859, 861, 863, 865, 867, 869, 871, 873, 875, 877, 879, 881, 883, 885, 887, 889, 891, 893, 895, 897, 899, 901, 903, 905, 907, 909, 911, 913, 915, 917, 919, 921, 923, 925, 927, 929, 931, 933, 935, 937, 939, 941, 943, 945, 947, 949, 951, 953, 955, 957, 959, 961, 963, 965, 967, 969, 971, 973, 975, 977, 979, 981, 983] (by decide +kernel) (by decide +kernel)
abbrev vwCl : List vw_C := [("ObjectBase", TC_OB, 13), ("ObjectBase$Schema", TC_Schema, 6), ("ObjectBase$Indexes", TC_Indexes, 3), ("ObjectBase$Disk", TC_Disk, 6), ("ObjectBase$Image", TC_Image, 3), ("ObjectBase$Batch", TC_Batch, 5), ("ObjectBase$Text", TC_Text, 2), ("ObjectBase$Question", TC_Question, 11), ("ObjectBase$Reader", TC_Reader, 6), ("ObjectBase$Judge", TC_Judge, 3), ("ObjectBase$Answer", TC_Answer, 4), ("ObjectBaseModel", TC_M, 66)]
def obT (G : Nat → ClassId) : List (ClassId × FieldType) := [(G 0, .int), (G 1, .long), (G 2, .char), (G 3, .boolean), (G 4, .object "ObjectBase$Question")]
