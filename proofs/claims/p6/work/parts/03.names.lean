abbrev R_Finding : String := "ShippedClass$Finding"
def F_Finding : u_T := fun k => match k with
  | 0 => ("ShippedClass$Finding", "fault", "I", false)
  | _ => ("ShippedClass$Finding", "at", "I", false)
def t_Finding : Nat → FieldType := fun k => match k with
  | 0 => .int
  | _ => .int
theorem n_Finding : ∀ a, a < 2 → ∀ b, b < 2 → a ≠ b → (F_Finding a).2.1 ≠ (F_Finding b).2.1 := by decide +kernel
theorem t_Finding_ok : ∀ k, k < 2 → parseFieldDescriptor (F_Finding k).2.2.1 = some (t_Finding k) := by decide +kernel
abbrev R_Frames : String := "ShippedClass$Frames"
def F_Frames : u_T := fun k => match k with
  | 0 => ("ShippedClass$Frames", "rows", "[J", true)
  | 1 => ("ShippedClass$Frames", "begins", "[B", true)
  | 2 => ("ShippedClass$Frames", "waits", "[B", true)
  | 3 => ("ShippedClass$Frames", "deeps", "[B", true)
  | _ => ("ShippedClass$Frames", "lowest", "I", false)
def t_Frames : Nat → FieldType := fun k => match k with
  | 0 => .array .long
  | 1 => .array .byte
  | 2 => .array .byte
  | 3 => .array .byte
  | _ => .int
theorem n_Frames : ∀ a, a < 5 → ∀ b, b < 5 → a ≠ b → (F_Frames a).2.1 ≠ (F_Frames b).2.1 := by decide +kernel
theorem t_Frames_ok : ∀ k, k < 5 → parseFieldDescriptor (F_Frames k).2.2.1 = some (t_Frames k) := by decide +kernel
abbrev R_Image : String := "ShippedClass$Image"
def F_Image : u_T := fun k => match k with
  | 0 => ("ShippedClass$Image", "row", "[B", true)
  | _ => ("ShippedClass$Image", "size", "I", false)
def t_Image : Nat → FieldType := fun k => match k with
  | 0 => .array .byte
  | _ => .int
theorem n_Image : ∀ a, a < 2 → ∀ b, b < 2 → a ≠ b → (F_Image a).2.1 ≠ (F_Image b).2.1 := by decide +kernel
theorem t_Image_ok : ∀ k, k < 2 → parseFieldDescriptor (F_Image k).2.2.1 = some (t_Image k) := by decide +kernel
abbrev R_Layout : String := "ShippedClass$Layout"
def F_Layout : u_T := fun k => match k with
  | 0 => ("ShippedClass$Layout", "image", "LShippedClass$Image;", true)
  | 1 => ("ShippedClass$Layout", "frames", "LShippedClass$Frames;", true)
  | 2 => ("ShippedClass$Layout", "tags", "[I", true)
  | 3 => ("ShippedClass$Layout", "constantAt", "[I", true)
  | 4 => ("ShippedClass$Layout", "firsts", "[I", true)
  | 5 => ("ShippedClass$Layout", "seconds", "[I", true)
  | 6 => ("ShippedClass$Layout", "fieldAt", "[I", true)
  | 7 => ("ShippedClass$Layout", "methodAt", "[I", true)
  | 8 => ("ShippedClass$Layout", "codeAt", "[I", true)
  | 9 => ("ShippedClass$Layout", "numbers", "I", false)
  | 10 => ("ShippedClass$Layout", "thisAt", "I", false)
  | 11 => ("ShippedClass$Layout", "interfaces", "I", false)
  | 12 => ("ShippedClass$Layout", "fields", "I", false)
  | 13 => ("ShippedClass$Layout", "methods", "I", false)
  | _ => ("ShippedClass$Layout", "methodsAt", "I", false)
def t_Layout : Nat → FieldType := fun k => match k with
  | 0 => .object "ShippedClass$Image"
  | 1 => .object "ShippedClass$Frames"
  | 2 => .array .int
  | 3 => .array .int
  | 4 => .array .int
  | 5 => .array .int
  | 6 => .array .int
  | 7 => .array .int
  | 8 => .array .int
  | 9 => .int
  | 10 => .int
  | 11 => .int
  | 12 => .int
  | 13 => .int
  | _ => .int
theorem n_Layout : ∀ a, a < 15 → ∀ b, b < 15 → a ≠ b → (F_Layout a).2.1 ≠ (F_Layout b).2.1 := by decide +kernel
theorem t_Layout_ok : ∀ k, k < 15 → parseFieldDescriptor (F_Layout k).2.2.1 = some (t_Layout k) := by decide +kernel
abbrev R_Linker : String := "ShippedClass$Linker"
def F_Linker : u_T := fun k => match k with
  | 0 => ("ShippedClass$Linker", "layout", "LShippedClass$Layout;", false)
  | 1 => ("ShippedClass$Linker", "image", "LShippedClass$Image;", false)
  | _ => ("ShippedClass$Linker", "finding", "LShippedClass$Finding;", false)
def t_Linker : Nat → FieldType := fun k => match k with
  | 0 => .object "ShippedClass$Layout"
  | 1 => .object "ShippedClass$Image"
  | _ => .object "ShippedClass$Finding"
theorem n_Linker : ∀ a, a < 3 → ∀ b, b < 3 → a ≠ b → (F_Linker a).2.1 ≠ (F_Linker b).2.1 := by decide +kernel
theorem t_Linker_ok : ∀ k, k < 3 → parseFieldDescriptor (F_Linker k).2.2.1 = some (t_Linker k) := by decide +kernel
abbrev R_Machine : String := "ShippedClass$Machine"
def F_Machine : u_T := fun k => match k with
  | 0 => ("ShippedClass$Machine", "stack", "[I", true)
  | 1 => ("ShippedClass$Machine", "locals", "[I", true)
  | 2 => ("ShippedClass$Machine", "letters", "[I", true)
  | 3 => ("ShippedClass$Machine", "layout", "LShippedClass$Layout;", false)
  | 4 => ("ShippedClass$Machine", "deep", "I", false)
  | 5 => ("ShippedClass$Machine", "mostStack", "I", false)
  | 6 => ("ShippedClass$Machine", "mostLocals", "I", false)
  | 7 => ("ShippedClass$Machine", "manyTypes", "I", false)
  | 8 => ("ShippedClass$Machine", "answer", "I", false)
  | 9 => ("ShippedClass$Machine", "ownAnswer", "I", false)
  | _ => ("ShippedClass$Machine", "word", "I", false)
def t_Machine : Nat → FieldType := fun k => match k with
  | 0 => .array .int
  | 1 => .array .int
  | 2 => .array .int
  | 3 => .object "ShippedClass$Layout"
  | 4 => .int
  | 5 => .int
  | 6 => .int
  | 7 => .int
  | 8 => .int
  | 9 => .int
  | _ => .int
theorem n_Machine : ∀ a, a < 11 → ∀ b, b < 11 → a ≠ b → (F_Machine a).2.1 ≠ (F_Machine b).2.1 := by decide +kernel
theorem t_Machine_ok : ∀ k, k < 11 → parseFieldDescriptor (F_Machine k).2.2.1 = some (t_Machine k) := by decide +kernel
abbrev R_Policy : String := "ShippedClass$Policy"
def F_Policy : u_T := fun k => match k with
  | 0 => ("ShippedClass$Policy", "letters", "[B", true)
  | 1 => ("ShippedClass$Policy", "lengths", "[I", true)
  | 2 => ("ShippedClass$Policy", "many", "[I", true)
  | 3 => ("ShippedClass$Policy", "mostMethods", "I", false)
  | _ => ("ShippedClass$Policy", "mostInstructionBytes", "I", false)
def t_Policy : Nat → FieldType := fun k => match k with
  | 0 => .array .byte
  | 1 => .array .int
  | 2 => .array .int
  | 3 => .int
  | _ => .int
theorem n_Policy : ∀ a, a < 5 → ∀ b, b < 5 → a ≠ b → (F_Policy a).2.1 ≠ (F_Policy b).2.1 := by decide +kernel
theorem t_Policy_ok : ∀ k, k < 5 → parseFieldDescriptor (F_Policy k).2.2.1 = some (t_Policy k) := by decide +kernel
abbrev R_Reader : String := "ShippedClass$Reader"
def F_Reader : u_T := fun k => match k with
  | 0 => ("ShippedClass$Reader", "layout", "LShippedClass$Layout;", false)
  | 1 => ("ShippedClass$Reader", "image", "LShippedClass$Image;", false)
  | 2 => ("ShippedClass$Reader", "finding", "LShippedClass$Finding;", false)
  | _ => ("ShippedClass$Reader", "at", "I", false)
def t_Reader : Nat → FieldType := fun k => match k with
  | 0 => .object "ShippedClass$Layout"
  | 1 => .object "ShippedClass$Image"
  | 2 => .object "ShippedClass$Finding"
  | _ => .int
theorem n_Reader : ∀ a, a < 4 → ∀ b, b < 4 → a ≠ b → (F_Reader a).2.1 ≠ (F_Reader b).2.1 := by decide +kernel
theorem t_Reader_ok : ∀ k, k < 4 → parseFieldDescriptor (F_Reader k).2.2.1 = some (t_Reader k) := by decide +kernel
abbrev R_Verifier : String := "ShippedClass$Verifier"
def F_Verifier : u_T := fun k => match k with
  | 0 => ("ShippedClass$Verifier", "machine", "LShippedClass$Machine;", true)
  | 1 => ("ShippedClass$Verifier", "caught", "[J", true)
  | 2 => ("ShippedClass$Verifier", "next", "[J", true)
  | 3 => ("ShippedClass$Verifier", "layout", "LShippedClass$Layout;", false)
  | 4 => ("ShippedClass$Verifier", "image", "LShippedClass$Image;", false)
  | 5 => ("ShippedClass$Verifier", "frames", "LShippedClass$Frames;", false)
  | 6 => ("ShippedClass$Verifier", "finding", "LShippedClass$Finding;", false)
  | 7 => ("ShippedClass$Verifier", "from", "I", false)
  | _ => ("ShippedClass$Verifier", "end", "I", false)
def t_Verifier : Nat → FieldType := fun k => match k with
  | 0 => .object "ShippedClass$Machine"
  | 1 => .array .long
  | 2 => .array .long
  | 3 => .object "ShippedClass$Layout"
  | 4 => .object "ShippedClass$Image"
  | 5 => .object "ShippedClass$Frames"
  | 6 => .object "ShippedClass$Finding"
  | 7 => .int
  | _ => .int
theorem n_Verifier : ∀ a, a < 9 → ∀ b, b < 9 → a ≠ b → (F_Verifier a).2.1 ≠ (F_Verifier b).2.1 := by decide +kernel
theorem t_Verifier_ok : ∀ k, k < 9 → parseFieldDescriptor (F_Verifier k).2.2.1 = some (t_Verifier k) := by decide +kernel
abbrev R_Ship : String := "ShippedClass"
def F_Ship : u_T := fun k => match k with
  | 0 => ("ShippedClass", "bytes", "LShippedClass$Image;", true)
  | 1 => ("ShippedClass", "finding", "LShippedClass$Finding;", true)
  | 2 => ("ShippedClass", "policy", "LShippedClass$Policy;", true)
  | 3 => ("ShippedClass", "reader", "LShippedClass$Reader;", true)
  | 4 => ("ShippedClass", "linker", "LShippedClass$Linker;", true)
  | 5 => ("ShippedClass", "verifier", "LShippedClass$Verifier;", true)
  | 6 => ("ShippedClass", "work", "LShippedClass$Layout;", false)
  | 7 => ("ShippedClass", "good", "LShippedClass$Layout;", false)
  | _ => ("ShippedClass", "isGood", "Z", false)
def t_Ship : Nat → FieldType := fun k => match k with
  | 0 => .object "ShippedClass$Image"
  | 1 => .object "ShippedClass$Finding"
  | 2 => .object "ShippedClass$Policy"
  | 3 => .object "ShippedClass$Reader"
  | 4 => .object "ShippedClass$Linker"
  | 5 => .object "ShippedClass$Verifier"
  | 6 => .object "ShippedClass$Layout"
  | 7 => .object "ShippedClass$Layout"
  | _ => .boolean
theorem n_Ship : ∀ a, a < 9 → ∀ b, b < 9 → a ≠ b → (F_Ship a).2.1 ≠ (F_Ship b).2.1 := by decide +kernel
theorem t_Ship_ok : ∀ k, k < 9 → parseFieldDescriptor (F_Ship k).2.2.1 = some (t_Ship k) := by decide +kernel
abbrev R_Mod : String := "ShippedClassModel"
def F_Mod : u_T := fun k => match k with
  | 0 => ("ShippedClassModel", "refusal", "I", false)
  | 1 => ("ShippedClassModel", "size", "I", false)
  | 2 => ("ShippedClassModel", "bytes", "[I", true)
  | 3 => ("ShippedClassModel", "rules", "[I", true)
  | 4 => ("ShippedClassModel", "ruleSize", "[I", true)
  | 5 => ("ShippedClassModel", "ruleText", "[I", true)
  | 6 => ("ShippedClassModel", "mostMethods", "I", false)
  | 7 => ("ShippedClassModel", "mostBytes", "I", false)
  | 8 => ("ShippedClassModel", "fault", "I", false)
  | 9 => ("ShippedClassModel", "faultPlace", "I", false)
  | 10 => ("ShippedClassModel", "at", "I", false)
  | 11 => ("ShippedClassModel", "end", "I", false)
  | 12 => ("ShippedClassModel", "within", "I", false)
  | 13 => ("ShippedClassModel", "many", "I", false)
  | 14 => ("ShippedClassModel", "tag", "[I", true)
  | 15 => ("ShippedClassModel", "tagPlace", "[I", true)
  | 16 => ("ShippedClassModel", "one", "[I", true)
  | 17 => ("ShippedClassModel", "two", "[I", true)
  | 18 => ("ShippedClassModel", "thisPlace", "I", false)
  | 19 => ("ShippedClassModel", "thisClass", "I", false)
  | 20 => ("ShippedClassModel", "superClass", "I", false)
  | 21 => ("ShippedClassModel", "interfaces", "I", false)
  | 22 => ("ShippedClassModel", "faces", "[I", true)
  | 23 => ("ShippedClassModel", "facePlace", "[I", true)
  | 24 => ("ShippedClassModel", "fields", "I", false)
  | 25 => ("ShippedClassModel", "members", "I", false)
  | 26 => ("ShippedClassModel", "methodsPlace", "I", false)
  | 27 => ("ShippedClassModel", "flags", "[I", true)
  | 28 => ("ShippedClassModel", "place", "[I", true)
  | 29 => ("ShippedClassModel", "name", "[I", true)
  | 30 => ("ShippedClassModel", "type", "[I", true)
  | 31 => ("ShippedClassModel", "codeAt", "[I", true)
  | 32 => ("ShippedClassModel", "stack", "[I", true)
  | 33 => ("ShippedClassModel", "locals", "[I", true)
  | 34 => ("ShippedClassModel", "begin", "[I", true)
  | 35 => ("ShippedClassModel", "length", "[I", true)
  | 36 => ("ShippedClassModel", "handlerFrom", "[I", true)
  | 37 => ("ShippedClassModel", "handlerTo", "[I", true)
  | 38 => ("ShippedClassModel", "handlers", "I", false)
  | 39 => ("ShippedClassModel", "handlerPlace", "[I", true)
  | 40 => ("ShippedClassModel", "isStart", "[Z", true)
  | 41 => ("ShippedClassModel", "depths", "[I", true)
  | 42 => ("ShippedClassModel", "isNew", "[Z", true)
  | 43 => ("ShippedClassModel", "kinds", "[I", true)
  | 44 => ("ShippedClassModel", "method", "I", false)
  | 45 => ("ShippedClassModel", "here", "I", false)
  | 46 => ("ShippedClassModel", "top", "I", false)
  | 47 => ("ShippedClassModel", "now", "[I", true)
  | 48 => ("ShippedClassModel", "before", "[I", true)
  | 49 => ("ShippedClassModel", "args", "I", false)
  | 50 => ("ShippedClassModel", "argKind", "[I", true)
  | 51 => ("ShippedClassModel", "answer", "I", false)
  | 52 => ("ShippedClassModel", "isGood", "Z", false)
  | 53 => ("ShippedClassModel", "goodBytes", "[I", true)
  | 54 => ("ShippedClassModel", "told", "[I", true)
  | 55 => ("ShippedClassModel", "goodTexts", "[I", true)
  | 56 => ("ShippedClassModel", "goodBegin", "[I", true)
  | 57 => ("ShippedClassModel", "goodLength", "[I", true)
  | 58 => ("ShippedClassModel", "goodLocals", "[I", true)
  | 59 => ("ShippedClassModel", "goodDepths", "[I", true)
  | _ => ("ShippedClassModel", "goodKinds", "[I", true)
def t_Mod : Nat → FieldType := fun k => match k with
  | 0 => .int
  | 1 => .int
  | 2 => .array .int
  | 3 => .array .int
  | 4 => .array .int
  | 5 => .array .int
  | 6 => .int
  | 7 => .int
  | 8 => .int
  | 9 => .int
  | 10 => .int
  | 11 => .int
  | 12 => .int
  | 13 => .int
  | 14 => .array .int
  | 15 => .array .int
  | 16 => .array .int
  | 17 => .array .int
  | 18 => .int
  | 19 => .int
  | 20 => .int
  | 21 => .int
  | 22 => .array .int
  | 23 => .array .int
  | 24 => .int
  | 25 => .int
  | 26 => .int
  | 27 => .array .int
  | 28 => .array .int
  | 29 => .array .int
  | 30 => .array .int
  | 31 => .array .int
  | 32 => .array .int
  | 33 => .array .int
  | 34 => .array .int
  | 35 => .array .int
  | 36 => .array .int
  | 37 => .array .int
  | 38 => .int
  | 39 => .array .int
  | 40 => .array .boolean
  | 41 => .array .int
  | 42 => .array .boolean
  | 43 => .array .int
  | 44 => .int
  | 45 => .int
  | 46 => .int
  | 47 => .array .int
  | 48 => .array .int
  | 49 => .int
  | 50 => .array .int
  | 51 => .int
  | 52 => .boolean
  | 53 => .array .int
  | 54 => .array .int
  | 55 => .array .int
  | 56 => .array .int
  | 57 => .array .int
  | 58 => .array .int
  | 59 => .array .int
  | _ => .array .int
theorem n_Mod : ∀ a, a < 61 → ∀ b, b < 61 → a ≠ b → (F_Mod a).2.1 ≠ (F_Mod b).2.1 := by decide +kernel
theorem t_Mod_ok : ∀ k, k < 61 → parseFieldDescriptor (F_Mod k).2.2.1 = some (t_Mod k) := by decide +kernel
abbrev classes : List vw_C := [(R_Finding, F_Finding, 2), (R_Frames, F_Frames, 5), (R_Image, F_Image, 2), (R_Layout, F_Layout, 15), (R_Linker, F_Linker, 3), (R_Machine, F_Machine, 11), (R_Policy, F_Policy, 5), (R_Reader, F_Reader, 4), (R_Verifier, F_Verifier, 9), (R_Ship, F_Ship, 9), (R_Mod, F_Mod, 61)]
theorem tw_s1 : ∀ w ∈ tables_1_1, w ∈ tables_1 := fun _ h => List.mem_append_left _ h
theorem tw_s2 : ∀ w ∈ tables_1_2, w ∈ tables_1 := fun _ h => List.mem_append_right _ (List.mem_append_left _ h)
theorem tw_s3 : ∀ w ∈ tables_1_3, w ∈ tables_1 := fun _ h => List.mem_append_right _ (List.mem_append_right _ (List.mem_append_left _ h))
theorem tw_s4 : ∀ w ∈ tables_1_4, w ∈ tables_1 := fun _ h => List.mem_append_right _ (List.mem_append_right _ (List.mem_append_right _ (List.mem_append_left _ h)))
theorem tw_s5 : ∀ w ∈ tables_1_5, w ∈ tables_1 := fun _ h => List.mem_append_right _ (List.mem_append_right _ (List.mem_append_right _ (List.mem_append_right _ (List.mem_append_left _ h))))
theorem tw_s6 : ∀ w ∈ tables_1_6, w ∈ tables_1 := fun _ h => List.mem_append_right _ (List.mem_append_right _ (List.mem_append_right _ (List.mem_append_right _ (List.mem_append_right _ (List.mem_append_left _ h)))))
theorem tw_s7 : ∀ w ∈ tables_1_7, w ∈ tables_1 := fun _ h => List.mem_append_right _ (List.mem_append_right _ (List.mem_append_right _ (List.mem_append_right _ (List.mem_append_right _ (List.mem_append_right _ (List.mem_append_left _ h))))))
theorem tw_s8 : ∀ w ∈ tables_1_8, w ∈ tables_1 := fun _ h => List.mem_append_right _ (List.mem_append_right _ (List.mem_append_right _ (List.mem_append_right _ (List.mem_append_right _ (List.mem_append_right _ (List.mem_append_right _ h))))))
theorem tw_inK {L : List Cond} {w : Cond} (hL : ∀ w ∈ L, w ∈ tables_1) (i : Nat) (h : L[i]? = some w) (hk : tw_ok w = true) : w ∈ tw_tbl := List.mem_filter.mpr ⟨List.mem_append_right _ (hL _ (List.mem_of_getElem? h)), hk⟩
theorem tw_p1 : ∀ q ∈ lw_privs_1, q ∈ lw_privs := fun _ h => List.mem_append_left _ h
theorem tw_p2 : ∀ q ∈ lw_privs_2, q ∈ lw_privs := fun _ h => List.mem_append_right _ (List.mem_append_left _ h)
theorem tw_p3 : ∀ q ∈ lw_privs_3, q ∈ lw_privs := fun _ h => List.mem_append_right _ (List.mem_append_right _ (List.mem_append_left _ h))
theorem tw_p4 : ∀ q ∈ lw_privs_4, q ∈ lw_privs := fun _ h => List.mem_append_right _ (List.mem_append_right _ (List.mem_append_right _ (List.mem_append_left _ h)))
theorem tw_p5 : ∀ q ∈ lw_privs_5, q ∈ lw_privs := fun _ h => List.mem_append_right _ (List.mem_append_right _ (List.mem_append_right _ (List.mem_append_right _ (List.mem_append_left _ h))))
theorem tw_p6 : ∀ q ∈ lw_privs_6, q ∈ lw_privs := fun _ h => List.mem_append_right _ (List.mem_append_right _ (List.mem_append_right _ (List.mem_append_right _ (List.mem_append_right _ (List.mem_append_left _ h)))))
theorem tw_p7 : ∀ q ∈ lw_privs_7, q ∈ lw_privs := fun _ h => List.mem_append_right _ (List.mem_append_right _ (List.mem_append_right _ (List.mem_append_right _ (List.mem_append_right _ (List.mem_append_right _ (List.mem_append_left _ h))))))
theorem tw_p8 : ∀ q ∈ lw_privs_8, q ∈ lw_privs := fun _ h => List.mem_append_right _ (List.mem_append_right _ (List.mem_append_right _ (List.mem_append_right _ (List.mem_append_right _ (List.mem_append_right _ (List.mem_append_right _ h))))))
set_option maxRecDepth 20000 in
theorem wd_0 : (Jvm.Cond.initialized "ShippedClassLaw") ∈ tw_tbl := tw_inK tw_s1 0 rfl rfl
set_option maxRecDepth 20000 in
theorem wd_1 : (Jvm.Cond.initialized "ShippedClass") ∈ tw_tbl := tw_inK tw_s1 1 rfl rfl
set_option maxRecDepth 20000 in
theorem wd_2 : (Jvm.Cond.initialized "ShippedClass$Image") ∈ tw_tbl := tw_inK tw_s1 2 rfl rfl
set_option maxRecDepth 20000 in
theorem wd_3 : (Jvm.Cond.initialized "ShippedClass$Finding") ∈ tw_tbl := tw_inK tw_s1 3 rfl rfl
set_option maxRecDepth 20000 in
theorem wd_4 : (Jvm.Cond.initialized "ShippedClass$Policy") ∈ tw_tbl := tw_inK tw_s1 4 rfl rfl
set_option maxRecDepth 20000 in
theorem wd_5 : (Jvm.Cond.initialized "ShippedClass$Reader") ∈ tw_tbl := tw_inK tw_s1 5 rfl rfl
set_option maxRecDepth 20000 in
theorem wd_6 : (Jvm.Cond.initialized "ShippedClass$Linker") ∈ tw_tbl := tw_inK tw_s1 6 rfl rfl
set_option maxRecDepth 20000 in
theorem wd_7 : (Jvm.Cond.initialized "ShippedClass$Verifier") ∈ tw_tbl := tw_inK tw_s1 7 rfl rfl
set_option maxRecDepth 20000 in
theorem wd_8 : (Jvm.Cond.initialized "ShippedClass$Machine") ∈ tw_tbl := tw_inK tw_s1 8 rfl rfl
set_option maxRecDepth 20000 in
theorem wd_9 : (Jvm.Cond.initialized "ShippedClass$Layout") ∈ tw_tbl := tw_inK tw_s1 9 rfl rfl
set_option maxRecDepth 20000 in
theorem wd_10 : (Jvm.Cond.initialized "ShippedClass$Frames") ∈ tw_tbl := tw_inK tw_s1 10 rfl rfl
set_option maxRecDepth 20000 in
theorem wd_11 : (Jvm.Cond.initialized "ShippedClassModel") ∈ tw_tbl := tw_inK tw_s1 11 rfl rfl
set_option maxRecDepth 20000 in
theorem wd_12 : (Jvm.Cond.initialized "java/lang/Throwable") ∈ tw_tbl := tw_inK tw_s1 12 rfl rfl
set_option maxRecDepth 20000 in
theorem wd_13 : (Jvm.Cond.initialized "java/lang/Exception") ∈ tw_tbl := tw_inK tw_s1 13 rfl rfl
set_option maxRecDepth 20000 in
theorem wd_14 : (Jvm.Cond.initialized "java/lang/RuntimeException") ∈ tw_tbl := tw_inK tw_s1 14 rfl rfl
set_option maxRecDepth 20000 in
theorem wd_15 : (Jvm.Cond.initialized "java/lang/IllegalArgumentException") ∈ tw_tbl := tw_inK tw_s1 15 rfl rfl
set_option maxRecDepth 20000 in
theorem wd_16 : (Jvm.Cond.initialized "java/lang/IllegalStateException") ∈ tw_tbl := tw_inK tw_s1 16 rfl rfl
set_option maxRecDepth 20000 in
theorem wd_17 : (Jvm.Cond.initialized "java/lang/IndexOutOfBoundsException") ∈ tw_tbl := tw_inK tw_s1 17 rfl rfl
set_option maxRecDepth 20000 in
theorem wd_18 : (Jvm.Cond.initialized "java/lang/System") ∈ tw_tbl := tw_inK tw_s1 18 rfl rfl
set_option maxRecDepth 20000 in
theorem wd_19 : (Jvm.Cond.initialized "java/util/Arrays") ∈ tw_tbl := tw_inK tw_s1 19 rfl rfl
set_option maxRecDepth 20000 in
theorem wd_20 : (Jvm.Cond.initialized "java/lang/String") ∈ tw_tbl := tw_inK tw_s1 20 rfl rfl
set_option maxRecDepth 20000 in
theorem wd_21 : (Jvm.Cond.initialized "java/lang/StringLatin1") ∈ tw_tbl := tw_inK tw_s1 21 rfl rfl
set_option maxRecDepth 20000 in
theorem wd_22 : (Jvm.Cond.initialized "jdk/internal/util/Preconditions") ∈ tw_tbl := tw_inK tw_s1 22 rfl rfl
set_option maxRecDepth 20000 in
theorem wd_23 : (Jvm.Cond.initialized "java/lang/StringUTF16") ∈ tw_tbl := tw_inK tw_s1 23 rfl rfl
set_option maxRecDepth 20000 in
theorem wd_24 : (Jvm.Cond.initialized "ShippedClass$Grammar") ∈ tw_tbl := tw_inK tw_s1 24 rfl rfl
set_option maxRecDepth 20000 in
theorem wd_25 : (Jvm.Cond.initialized "ShippedClass$Opcodes") ∈ tw_tbl := tw_inK tw_s1 25 rfl rfl
set_option maxRecDepth 20000 in
theorem wd_26 : (Jvm.Cond.initialized "java/lang/Math") ∈ tw_tbl := tw_inK tw_s1 26 rfl rfl
set_option maxRecDepth 20000 in
theorem wd_27 : (Jvm.Cond.initialized "java/lang/Character") ∈ tw_tbl := tw_inK tw_s1 27 rfl rfl
set_option maxRecDepth 20000 in
theorem wd_28 : (Jvm.Cond.classLink "ShippedClassLaw" (8 : Nat) "ShippedClass") ∈ tw_tbl := tw_inK tw_s1 28 rfl rfl
set_option maxRecDepth 20000 in
theorem wd_29 : (Jvm.Cond.instantiable "ShippedClass" (9 : Nat)) ∈ tw_tbl := tw_inK tw_s1 29 rfl rfl
set_option maxRecDepth 20000 in
theorem wd_30 : (Jvm.Cond.methodLink "ShippedClassLaw" (48 : Nat) ({ cls := "ShippedClass", name := "<init>", desc := "()V" } : Jvm.MethodName)) ∈ tw_tbl := tw_inK tw_s1 30 rfl rfl
set_option maxRecDepth 20000 in
theorem wd_31 : (Jvm.Cond.instanceMethod ({ cls := "ShippedClass", name := "<init>", desc := "()V" } : Jvm.MethodName)) ∈ tw_tbl := tw_inK tw_s1 31 rfl rfl
set_option maxRecDepth 20000 in
theorem wd_32 : (Jvm.Cond.code ({ cls := "ShippedClass", name := "<init>", desc := "()V" } : Jvm.MethodName) prog_1_method_1_code (1 : Nat) (Option.none : Option Jvm.ClassFile.FieldType)) ∈ tw_tbl := tw_inK tw_s1 32 rfl rfl
set_option maxRecDepth 20000 in
theorem wd_33 : (Jvm.Cond.methodLink "ShippedClass" (1 : Nat) ({ cls := "java/lang/Object", name := "<init>", desc := "()V" } : Jvm.MethodName)) ∈ tw_tbl := tw_inK tw_s1 33 rfl rfl
set_option maxRecDepth 20000 in
theorem wd_34 : (Jvm.Cond.instanceMethod ({ cls := "java/lang/Object", name := "<init>", desc := "()V" } : Jvm.MethodName)) ∈ tw_tbl := tw_inK tw_s1 34 rfl rfl
set_option maxRecDepth 20000 in
theorem wd_35 : (Jvm.Cond.code ({ cls := "java/lang/Object", name := "<init>", desc := "()V" } : Jvm.MethodName) object_method_1_code (1 : Nat) (Option.none : Option Jvm.ClassFile.FieldType)) ∈ tw_tbl := tw_inK tw_s1 35 rfl rfl
set_option maxRecDepth 20000 in
theorem wd_36 : (Jvm.Cond.classLink "ShippedClass" (7 : Nat) "ShippedClass$Image") ∈ tw_tbl := tw_inK tw_s1 36 rfl rfl
set_option maxRecDepth 20000 in
theorem wd_37 : (Jvm.Cond.instantiable "ShippedClass$Image" (2 : Nat)) ∈ tw_tbl := tw_inK tw_s1 37 rfl rfl
set_option maxRecDepth 20000 in
theorem wd_38 : (Jvm.Cond.methodLinkNest "ShippedClass" (9 : Nat) ({ cls := "ShippedClass$Image", name := "<init>", desc := "()V" } : Jvm.MethodName) "ShippedClass") ∈ tw_tbl := tw_inK tw_s1 38 rfl rfl
set_option maxRecDepth 20000 in
theorem wd_39 : (Jvm.Cond.instanceMethod ({ cls := "ShippedClass$Image", name := "<init>", desc := "()V" } : Jvm.MethodName)) ∈ tw_tbl := tw_inK tw_s1 39 rfl rfl
set_option maxRecDepth 20000 in
theorem wd_40 : (Jvm.Cond.code ({ cls := "ShippedClass$Image", name := "<init>", desc := "()V" } : Jvm.MethodName) prog_5_method_1_code (1 : Nat) (Option.none : Option Jvm.ClassFile.FieldType)) ∈ tw_tbl := tw_inK tw_s1 40 rfl rfl
set_option maxRecDepth 20000 in
theorem wd_41 : (Jvm.Cond.methodLink "ShippedClass$Image" (3 : Nat) ({ cls := "java/lang/Object", name := "<init>", desc := "()V" } : Jvm.MethodName)) ∈ tw_tbl := tw_inK tw_s1 41 rfl rfl
set_option maxRecDepth 20000 in
theorem wd_42 : (Jvm.Cond.fieldLink "ShippedClass$Image" (9 : Nat) "ShippedClass$Image" "row" "[B") ∈ tw_tbl := tw_inK tw_s1 42 rfl rfl
set_option maxRecDepth 20000 in
theorem wd_43 : (Jvm.Cond.fieldLink "ShippedClass$Image" (15 : Nat) "ShippedClass$Image" "size" "I") ∈ tw_tbl := tw_inK tw_s1 43 rfl rfl
set_option maxRecDepth 20000 in
theorem wd_44 : (Jvm.Cond.fieldLinkNest "ShippedClass" (64 : Nat) "ShippedClass$Image" "size" "I" "ShippedClass") ∈ tw_tbl := tw_inK tw_s1 44 rfl rfl
set_option maxRecDepth 20000 in
theorem wd_45 : (Jvm.Cond.fieldLinkNest "ShippedClass$Reader" (48 : Nat) "ShippedClass$Image" "size" "I" "ShippedClass") ∈ tw_tbl := tw_inK tw_s1 45 rfl rfl
set_option maxRecDepth 20000 in
theorem wd_46 : (Jvm.Cond.fieldLinkNest "ShippedClass$Policy" (29 : Nat) "ShippedClass$Image" "size" "I" "ShippedClass") ∈ tw_tbl := tw_inK tw_s1 46 rfl rfl
set_option maxRecDepth 20000 in
theorem wd_47 : (Jvm.Cond.laysFinal "ShippedClass$Image" "ShippedClass$Image" "row" "[B") ∈ tw_tbl := tw_inK tw_s1 47 rfl rfl
set_option maxRecDepth 20000 in
theorem wd_48 : (Jvm.Cond.soleField "ShippedClass$Image" "row") ∈ tw_tbl := tw_inK tw_s1 48 rfl rfl
set_option maxRecDepth 20000 in
theorem wd_49 : (Jvm.Cond.lays "ShippedClass$Image" "ShippedClass$Image" "size" "I") ∈ tw_tbl := tw_inK tw_s1 49 rfl rfl
set_option maxRecDepth 20000 in
theorem wd_50 : (Jvm.Cond.soleField "ShippedClass$Image" "size") ∈ tw_tbl := tw_inK tw_s1 50 rfl rfl
set_option maxRecDepth 20000 in
theorem wd_51 : (Jvm.Cond.superclass "ShippedClass$Image" "java/lang/Object") ∈ tw_tbl := tw_inK tw_s1 51 rfl rfl
set_option maxRecDepth 20000 in
theorem wd_52 : (Jvm.Cond.arrayClass Jvm.ClassFile.FieldType.byte) ∈ tw_tbl := tw_inK tw_s1 52 rfl rfl
set_option maxRecDepth 20000 in
theorem wd_53 : (Jvm.Cond.classLink "ShippedClass" (16 : Nat) "ShippedClass$Finding") ∈ tw_tbl := tw_inK tw_s1 53 rfl rfl
set_option maxRecDepth 20000 in
theorem wd_54 : (Jvm.Cond.instantiable "ShippedClass$Finding" (2 : Nat)) ∈ tw_tbl := tw_inK tw_s1 54 rfl rfl
set_option maxRecDepth 20000 in
theorem wd_55 : (Jvm.Cond.methodLinkNest "ShippedClass" (18 : Nat) ({ cls := "ShippedClass$Finding", name := "<init>", desc := "()V" } : Jvm.MethodName) "ShippedClass") ∈ tw_tbl := tw_inK tw_s1 55 rfl rfl
set_option maxRecDepth 20000 in
theorem wd_56 : (Jvm.Cond.instanceMethod ({ cls := "ShippedClass$Finding", name := "<init>", desc := "()V" } : Jvm.MethodName)) ∈ tw_tbl := tw_inK tw_s1 56 rfl rfl
set_option maxRecDepth 20000 in
theorem wd_57 : (Jvm.Cond.code ({ cls := "ShippedClass$Finding", name := "<init>", desc := "()V" } : Jvm.MethodName) prog_2_method_1_code (1 : Nat) (Option.none : Option Jvm.ClassFile.FieldType)) ∈ tw_tbl := tw_inK tw_s1 57 rfl rfl
set_option maxRecDepth 20000 in
theorem wd_58 : (Jvm.Cond.methodLink "ShippedClass$Finding" (3 : Nat) ({ cls := "java/lang/Object", name := "<init>", desc := "()V" } : Jvm.MethodName)) ∈ tw_tbl := tw_inK tw_s1 58 rfl rfl
set_option maxRecDepth 20000 in
theorem wd_59 : (Jvm.Cond.fieldLink "ShippedClass$Finding" (15 : Nat) "ShippedClass$Finding" "fault" "I") ∈ tw_tbl := tw_inK tw_s1 59 rfl rfl
set_option maxRecDepth 20000 in
theorem wd_60 : (Jvm.Cond.fieldLinkNest "ShippedClass" (131 : Nat) "ShippedClass$Finding" "fault" "I" "ShippedClass") ∈ tw_tbl := tw_inK tw_s1 60 rfl rfl
set_option maxRecDepth 20000 in
theorem wd_61 : (Jvm.Cond.fieldLinkNest "ShippedClass$Reader" (138 : Nat) "ShippedClass$Finding" "fault" "I" "ShippedClass") ∈ tw_tbl := tw_inK tw_s1 61 rfl rfl
set_option maxRecDepth 20000 in
theorem wd_62 : (Jvm.Cond.fieldLink "ShippedClass$Finding" (9 : Nat) "ShippedClass$Finding" "at" "I") ∈ tw_tbl := tw_inK tw_s1 62 rfl rfl
set_option maxRecDepth 20000 in
theorem wd_63 : (Jvm.Cond.fieldLinkNest "ShippedClass" (134 : Nat) "ShippedClass$Finding" "at" "I" "ShippedClass") ∈ tw_tbl := tw_inK tw_s1 63 rfl rfl
set_option maxRecDepth 20000 in
theorem wd_64 : (Jvm.Cond.lays "ShippedClass$Finding" "ShippedClass$Finding" "fault" "I") ∈ tw_tbl := tw_inK tw_s1 64 rfl rfl
set_option maxRecDepth 20000 in
theorem wd_65 : (Jvm.Cond.soleField "ShippedClass$Finding" "fault") ∈ tw_tbl := tw_inK tw_s1 65 rfl rfl
set_option maxRecDepth 20000 in
theorem wd_66 : (Jvm.Cond.lays "ShippedClass$Finding" "ShippedClass$Finding" "at" "I") ∈ tw_tbl := tw_inK tw_s1 66 rfl rfl
set_option maxRecDepth 20000 in
theorem wd_67 : (Jvm.Cond.soleField "ShippedClass$Finding" "at") ∈ tw_tbl := tw_inK tw_s1 67 rfl rfl
set_option maxRecDepth 20000 in
theorem wd_68 : (Jvm.Cond.superclass "ShippedClass$Finding" "java/lang/Object") ∈ tw_tbl := tw_inK tw_s1 68 rfl rfl
set_option maxRecDepth 20000 in
theorem wd_69 : (Jvm.Cond.classLink "ShippedClass" (23 : Nat) "ShippedClass$Policy") ∈ tw_tbl := tw_inK tw_s1 69 rfl rfl
set_option maxRecDepth 20000 in
theorem wd_70 : (Jvm.Cond.instantiable "ShippedClass$Policy" (5 : Nat)) ∈ tw_tbl := tw_inK tw_s1 70 rfl rfl
set_option maxRecDepth 20000 in
theorem wd_71 : (Jvm.Cond.methodLinkNest "ShippedClass" (25 : Nat) ({ cls := "ShippedClass$Policy", name := "<init>", desc := "()V" } : Jvm.MethodName) "ShippedClass") ∈ tw_tbl := tw_inK tw_s1 71 rfl rfl
set_option maxRecDepth 20000 in
theorem wd_72 : (Jvm.Cond.instanceMethod ({ cls := "ShippedClass$Policy", name := "<init>", desc := "()V" } : Jvm.MethodName)) ∈ tw_tbl := tw_inK tw_s1 72 rfl rfl
set_option maxRecDepth 20000 in
theorem wd_73 : (Jvm.Cond.code ({ cls := "ShippedClass$Policy", name := "<init>", desc := "()V" } : Jvm.MethodName) prog_10_method_1_code (1 : Nat) (Option.none : Option Jvm.ClassFile.FieldType)) ∈ tw_tbl := tw_inK tw_s1 73 rfl rfl
set_option maxRecDepth 20000 in
theorem wd_74 : (Jvm.Cond.methodLink "ShippedClass$Policy" (3 : Nat) ({ cls := "java/lang/Object", name := "<init>", desc := "()V" } : Jvm.MethodName)) ∈ tw_tbl := tw_inK tw_s1 74 rfl rfl
set_option maxRecDepth 20000 in
theorem wd_75 : (Jvm.Cond.fieldLink "ShippedClass$Policy" (11 : Nat) "ShippedClass$Policy" "letters" "[B") ∈ tw_tbl := tw_inK tw_s1 75 rfl rfl
set_option maxRecDepth 20000 in
theorem wd_76 : (Jvm.Cond.fieldLink "ShippedClass$Policy" (15 : Nat) "ShippedClass$Policy" "lengths" "[I") ∈ tw_tbl := tw_inK tw_s1 76 rfl rfl
set_option maxRecDepth 20000 in
theorem wd_77 : (Jvm.Cond.fieldLink "ShippedClass$Policy" (19 : Nat) "ShippedClass$Policy" "many" "[I") ∈ tw_tbl := tw_inK tw_s1 77 rfl rfl
set_option maxRecDepth 20000 in
theorem wd_78 : (Jvm.Cond.fieldLinkNest "ShippedClass" (97 : Nat) "ShippedClass$Policy" "many" "[I" "ShippedClass") ∈ tw_tbl := tw_inK tw_s1 78 rfl rfl
set_option maxRecDepth 20000 in
theorem wd_79 : (Jvm.Cond.fieldLink "ShippedClass$Policy" (22 : Nat) "ShippedClass$Policy" "mostMethods" "I") ∈ tw_tbl := tw_inK tw_s1 79 rfl rfl
set_option maxRecDepth 20000 in
theorem wd_80 : (Jvm.Cond.fieldLinkNest "ShippedClass" (101 : Nat) "ShippedClass$Policy" "mostMethods" "I" "ShippedClass") ∈ tw_tbl := tw_inK tw_s1 80 rfl rfl
set_option maxRecDepth 20000 in
theorem wd_81 : (Jvm.Cond.fieldLink "ShippedClass$Policy" (26 : Nat) "ShippedClass$Policy" "mostInstructionBytes" "I") ∈ tw_tbl := tw_inK tw_s1 81 rfl rfl
set_option maxRecDepth 20000 in
theorem wd_82 : (Jvm.Cond.fieldLinkNest "ShippedClass" (104 : Nat) "ShippedClass$Policy" "mostInstructionBytes" "I" "ShippedClass") ∈ tw_tbl := tw_inK tw_s1 82 rfl rfl
set_option maxRecDepth 20000 in
theorem wd_83 : (Jvm.Cond.laysFinal "ShippedClass$Policy" "ShippedClass$Policy" "letters" "[B") ∈ tw_tbl := tw_inK tw_s1 83 rfl rfl
set_option maxRecDepth 20000 in
theorem wd_84 : (Jvm.Cond.soleField "ShippedClass$Policy" "letters") ∈ tw_tbl := tw_inK tw_s1 84 rfl rfl
set_option maxRecDepth 20000 in
theorem wd_85 : (Jvm.Cond.laysFinal "ShippedClass$Policy" "ShippedClass$Policy" "lengths" "[I") ∈ tw_tbl := tw_inK tw_s1 85 rfl rfl
set_option maxRecDepth 20000 in
theorem wd_86 : (Jvm.Cond.soleField "ShippedClass$Policy" "lengths") ∈ tw_tbl := tw_inK tw_s1 86 rfl rfl
set_option maxRecDepth 20000 in
theorem wd_87 : (Jvm.Cond.laysFinal "ShippedClass$Policy" "ShippedClass$Policy" "many" "[I") ∈ tw_tbl := tw_inK tw_s1 87 rfl rfl
set_option maxRecDepth 20000 in
theorem wd_88 : (Jvm.Cond.soleField "ShippedClass$Policy" "many") ∈ tw_tbl := tw_inK tw_s1 88 rfl rfl
set_option maxRecDepth 20000 in
theorem wd_89 : (Jvm.Cond.lays "ShippedClass$Policy" "ShippedClass$Policy" "mostMethods" "I") ∈ tw_tbl := tw_inK tw_s1 89 rfl rfl
set_option maxRecDepth 20000 in
theorem wd_90 : (Jvm.Cond.soleField "ShippedClass$Policy" "mostMethods") ∈ tw_tbl := tw_inK tw_s1 90 rfl rfl
set_option maxRecDepth 20000 in
theorem wd_91 : (Jvm.Cond.lays "ShippedClass$Policy" "ShippedClass$Policy" "mostInstructionBytes" "I") ∈ tw_tbl := tw_inK tw_s1 91 rfl rfl
set_option maxRecDepth 20000 in
theorem wd_92 : (Jvm.Cond.soleField "ShippedClass$Policy" "mostInstructionBytes") ∈ tw_tbl := tw_inK tw_s1 92 rfl rfl
set_option maxRecDepth 20000 in
theorem wd_93 : (Jvm.Cond.superclass "ShippedClass$Policy" "java/lang/Object") ∈ tw_tbl := tw_inK tw_s1 93 rfl rfl
set_option maxRecDepth 20000 in
theorem wd_94 : (Jvm.Cond.arrayClass Jvm.ClassFile.FieldType.int) ∈ tw_tbl := tw_inK tw_s1 94 rfl rfl
set_option maxRecDepth 20000 in
theorem wd_95 : (Jvm.Cond.classLink "ShippedClass" (30 : Nat) "ShippedClass$Reader") ∈ tw_tbl := tw_inK tw_s1 95 rfl rfl
set_option maxRecDepth 20000 in
theorem wd_96 : (Jvm.Cond.instantiable "ShippedClass$Reader" (4 : Nat)) ∈ tw_tbl := tw_inK tw_s1 96 rfl rfl
set_option maxRecDepth 20000 in
theorem wd_97 : (Jvm.Cond.methodLinkNest "ShippedClass" (32 : Nat) ({ cls := "ShippedClass$Reader", name := "<init>", desc := "()V" } : Jvm.MethodName) "ShippedClass") ∈ tw_tbl := tw_inK tw_s1 97 rfl rfl
set_option maxRecDepth 20000 in
theorem wd_98 : (Jvm.Cond.instanceMethod ({ cls := "ShippedClass$Reader", name := "<init>", desc := "()V" } : Jvm.MethodName)) ∈ tw_tbl := tw_inK tw_s1 98 rfl rfl
set_option maxRecDepth 20000 in
theorem wd_99 : (Jvm.Cond.code ({ cls := "ShippedClass$Reader", name := "<init>", desc := "()V" } : Jvm.MethodName) prog_11_method_1_code (1 : Nat) (Option.none : Option Jvm.ClassFile.FieldType)) ∈ tw_tbl := tw_inK tw_s1 99 rfl rfl
set_option maxRecDepth 20000 in
theorem wd_100 : (Jvm.Cond.methodLink "ShippedClass$Reader" (3 : Nat) ({ cls := "java/lang/Object", name := "<init>", desc := "()V" } : Jvm.MethodName)) ∈ tw_tbl := tw_inK tw_s1 100 rfl rfl
set_option maxRecDepth 20000 in
theorem wd_101 : (Jvm.Cond.fieldLink "ShippedClass$Reader" (9 : Nat) "ShippedClass$Reader" "layout" "LShippedClass$Layout;") ∈ tw_tbl := tw_inK tw_s1 101 rfl rfl
set_option maxRecDepth 20000 in
theorem wd_102 : (Jvm.Cond.fieldLink "ShippedClass$Reader" (21 : Nat) "ShippedClass$Reader" "image" "LShippedClass$Image;") ∈ tw_tbl := tw_inK tw_s1 102 rfl rfl
set_option maxRecDepth 20000 in
theorem wd_103 : (Jvm.Cond.fieldLink "ShippedClass$Reader" (22 : Nat) "ShippedClass$Reader" "finding" "LShippedClass$Finding;") ∈ tw_tbl := tw_inK tw_s1 103 rfl rfl
set_option maxRecDepth 20000 in
theorem wd_104 : (Jvm.Cond.fieldLink "ShippedClass$Reader" (26 : Nat) "ShippedClass$Reader" "at" "I") ∈ tw_tbl := tw_inK tw_s1 104 rfl rfl
set_option maxRecDepth 20000 in
theorem wd_105 : (Jvm.Cond.lays "ShippedClass$Reader" "ShippedClass$Reader" "layout" "LShippedClass$Layout;") ∈ tw_tbl := tw_inK tw_s1 105 rfl rfl
set_option maxRecDepth 20000 in
theorem wd_106 : (Jvm.Cond.soleField "ShippedClass$Reader" "layout") ∈ tw_tbl := tw_inK tw_s1 106 rfl rfl
set_option maxRecDepth 20000 in
theorem wd_107 : (Jvm.Cond.lays "ShippedClass$Reader" "ShippedClass$Reader" "image" "LShippedClass$Image;") ∈ tw_tbl := tw_inK tw_s1 107 rfl rfl
set_option maxRecDepth 20000 in
theorem wd_108 : (Jvm.Cond.soleField "ShippedClass$Reader" "image") ∈ tw_tbl := tw_inK tw_s1 108 rfl rfl
set_option maxRecDepth 20000 in
theorem wd_109 : (Jvm.Cond.lays "ShippedClass$Reader" "ShippedClass$Reader" "finding" "LShippedClass$Finding;") ∈ tw_tbl := tw_inK tw_s1 109 rfl rfl
set_option maxRecDepth 20000 in
theorem wd_110 : (Jvm.Cond.soleField "ShippedClass$Reader" "finding") ∈ tw_tbl := tw_inK tw_s1 110 rfl rfl
set_option maxRecDepth 20000 in
theorem wd_111 : (Jvm.Cond.lays "ShippedClass$Reader" "ShippedClass$Reader" "at" "I") ∈ tw_tbl := tw_inK tw_s1 111 rfl rfl
set_option maxRecDepth 20000 in
theorem wd_112 : (Jvm.Cond.soleField "ShippedClass$Reader" "at") ∈ tw_tbl := tw_inK tw_s1 112 rfl rfl
set_option maxRecDepth 20000 in
theorem wd_113 : (Jvm.Cond.superclass "ShippedClass$Reader" "java/lang/Object") ∈ tw_tbl := tw_inK tw_s1 113 rfl rfl
set_option maxRecDepth 20000 in
theorem wd_114 : (Jvm.Cond.classLink "ShippedClass" (37 : Nat) "ShippedClass$Linker") ∈ tw_tbl := tw_inK tw_s1 114 rfl rfl
set_option maxRecDepth 20000 in
theorem wd_115 : (Jvm.Cond.instantiable "ShippedClass$Linker" (3 : Nat)) ∈ tw_tbl := tw_inK tw_s1 115 rfl rfl
set_option maxRecDepth 20000 in
theorem wd_116 : (Jvm.Cond.methodLinkNest "ShippedClass" (39 : Nat) ({ cls := "ShippedClass$Linker", name := "<init>", desc := "()V" } : Jvm.MethodName) "ShippedClass") ∈ tw_tbl := tw_inK tw_s1 116 rfl rfl
set_option maxRecDepth 20000 in
theorem wd_117 : (Jvm.Cond.instanceMethod ({ cls := "ShippedClass$Linker", name := "<init>", desc := "()V" } : Jvm.MethodName)) ∈ tw_tbl := tw_inK tw_s1 117 rfl rfl
set_option maxRecDepth 20000 in
theorem wd_118 : (Jvm.Cond.code ({ cls := "ShippedClass$Linker", name := "<init>", desc := "()V" } : Jvm.MethodName) prog_7_method_1_code (1 : Nat) (Option.none : Option Jvm.ClassFile.FieldType)) ∈ tw_tbl := tw_inK tw_s1 118 rfl rfl
set_option maxRecDepth 20000 in
theorem wd_119 : (Jvm.Cond.methodLink "ShippedClass$Linker" (3 : Nat) ({ cls := "java/lang/Object", name := "<init>", desc := "()V" } : Jvm.MethodName)) ∈ tw_tbl := tw_inK tw_s1 119 rfl rfl
set_option maxRecDepth 20000 in
theorem wd_120 : (Jvm.Cond.fieldLink "ShippedClass$Linker" (9 : Nat) "ShippedClass$Linker" "layout" "LShippedClass$Layout;") ∈ tw_tbl := tw_inK tw_s1 120 rfl rfl
set_option maxRecDepth 20000 in
theorem wd_121 : (Jvm.Cond.fieldLink "ShippedClass$Linker" (21 : Nat) "ShippedClass$Linker" "image" "LShippedClass$Image;") ∈ tw_tbl := tw_inK tw_s1 121 rfl rfl
set_option maxRecDepth 20000 in
theorem wd_122 : (Jvm.Cond.fieldLink "ShippedClass$Linker" (22 : Nat) "ShippedClass$Linker" "finding" "LShippedClass$Finding;") ∈ tw_tbl := tw_inK tw_s1 122 rfl rfl
set_option maxRecDepth 20000 in
theorem wd_123 : (Jvm.Cond.lays "ShippedClass$Linker" "ShippedClass$Linker" "layout" "LShippedClass$Layout;") ∈ tw_tbl := tw_inK tw_s1 123 rfl rfl
set_option maxRecDepth 20000 in
theorem wd_124 : (Jvm.Cond.soleField "ShippedClass$Linker" "layout") ∈ tw_tbl := tw_inK tw_s1 124 rfl rfl
set_option maxRecDepth 20000 in
theorem wd_125 : (Jvm.Cond.lays "ShippedClass$Linker" "ShippedClass$Linker" "image" "LShippedClass$Image;") ∈ tw_tbl := tw_inK tw_s1 125 rfl rfl
set_option maxRecDepth 20000 in
theorem wd_126 : (Jvm.Cond.soleField "ShippedClass$Linker" "image") ∈ tw_tbl := tw_inK tw_s1 126 rfl rfl
set_option maxRecDepth 20000 in
theorem wd_127 : (Jvm.Cond.lays "ShippedClass$Linker" "ShippedClass$Linker" "finding" "LShippedClass$Finding;") ∈ tw_tbl := tw_inK tw_s1 127 rfl rfl
set_option maxRecDepth 20000 in
theorem wd_128 : (Jvm.Cond.soleField "ShippedClass$Linker" "finding") ∈ tw_tbl := tw_inK tw_s1 128 rfl rfl
set_option maxRecDepth 20000 in
theorem wd_129 : (Jvm.Cond.superclass "ShippedClass$Linker" "java/lang/Object") ∈ tw_tbl := tw_inK tw_s1 129 rfl rfl
set_option maxRecDepth 20000 in
theorem wd_130 : (Jvm.Cond.classLink "ShippedClass" (44 : Nat) "ShippedClass$Verifier") ∈ tw_tbl := tw_inK tw_s1 130 rfl rfl
set_option maxRecDepth 20000 in
theorem wd_131 : (Jvm.Cond.instantiable "ShippedClass$Verifier" (9 : Nat)) ∈ tw_tbl := tw_inK tw_s1 131 rfl rfl
set_option maxRecDepth 20000 in
theorem wd_132 : (Jvm.Cond.methodLinkNest "ShippedClass" (46 : Nat) ({ cls := "ShippedClass$Verifier", name := "<init>", desc := "()V" } : Jvm.MethodName) "ShippedClass") ∈ tw_tbl := tw_inK tw_s1 132 rfl rfl
set_option maxRecDepth 20000 in
theorem wd_133 : (Jvm.Cond.instanceMethod ({ cls := "ShippedClass$Verifier", name := "<init>", desc := "()V" } : Jvm.MethodName)) ∈ tw_tbl := tw_inK tw_s1 133 rfl rfl
set_option maxRecDepth 20000 in
theorem wd_134 : (Jvm.Cond.code ({ cls := "ShippedClass$Verifier", name := "<init>", desc := "()V" } : Jvm.MethodName) prog_12_method_1_code (1 : Nat) (Option.none : Option Jvm.ClassFile.FieldType)) ∈ tw_tbl := tw_inK tw_s1 134 rfl rfl
set_option maxRecDepth 20000 in
theorem wd_135 : (Jvm.Cond.methodLink "ShippedClass$Verifier" (3 : Nat) ({ cls := "java/lang/Object", name := "<init>", desc := "()V" } : Jvm.MethodName)) ∈ tw_tbl := tw_inK tw_s1 135 rfl rfl
set_option maxRecDepth 20000 in
theorem wd_136 : (Jvm.Cond.classLink "ShippedClass$Verifier" (9 : Nat) "ShippedClass$Machine") ∈ tw_tbl := tw_inK tw_s1 136 rfl rfl
set_option maxRecDepth 20000 in
theorem wd_137 : (Jvm.Cond.instantiable "ShippedClass$Machine" (11 : Nat)) ∈ tw_tbl := tw_inK tw_s1 137 rfl rfl
set_option maxRecDepth 20000 in
theorem wd_138 : (Jvm.Cond.methodLinkNest "ShippedClass$Verifier" (11 : Nat) ({ cls := "ShippedClass$Machine", name := "<init>", desc := "()V" } : Jvm.MethodName) "ShippedClass") ∈ tw_tbl := tw_inK tw_s1 138 rfl rfl
set_option maxRecDepth 20000 in
theorem wd_139 : (Jvm.Cond.instanceMethod ({ cls := "ShippedClass$Machine", name := "<init>", desc := "()V" } : Jvm.MethodName)) ∈ tw_tbl := tw_inK tw_s1 139 rfl rfl
set_option maxRecDepth 20000 in
theorem wd_140 : (Jvm.Cond.code ({ cls := "ShippedClass$Machine", name := "<init>", desc := "()V" } : Jvm.MethodName) prog_8_method_1_code (1 : Nat) (Option.none : Option Jvm.ClassFile.FieldType)) ∈ tw_tbl := tw_inK tw_s1 140 rfl rfl
set_option maxRecDepth 20000 in
theorem wd_141 : (Jvm.Cond.methodLink "ShippedClass$Machine" (3 : Nat) ({ cls := "java/lang/Object", name := "<init>", desc := "()V" } : Jvm.MethodName)) ∈ tw_tbl := tw_inK tw_s1 141 rfl rfl
set_option maxRecDepth 20000 in
theorem wd_142 : (Jvm.Cond.fieldLink "ShippedClass$Machine" (9 : Nat) "ShippedClass$Machine" "stack" "[I") ∈ tw_tbl := tw_inK tw_s1 142 rfl rfl
set_option maxRecDepth 20000 in
theorem wd_143 : (Jvm.Cond.fieldLinkNest "ShippedClass$Frames" (61 : Nat) "ShippedClass$Machine" "stack" "[I" "ShippedClass") ∈ tw_tbl := tw_inK tw_s1 143 rfl rfl
set_option maxRecDepth 20000 in
theorem wd_144 : (Jvm.Cond.fieldLink "ShippedClass$Machine" (15 : Nat) "ShippedClass$Machine" "locals" "[I") ∈ tw_tbl := tw_inK tw_s1 144 rfl rfl
set_option maxRecDepth 20000 in
theorem wd_145 : (Jvm.Cond.fieldLinkNest "ShippedClass$Frames" (68 : Nat) "ShippedClass$Machine" "locals" "[I" "ShippedClass") ∈ tw_tbl := tw_inK tw_s1 145 rfl rfl
set_option maxRecDepth 20000 in
theorem wd_146 : (Jvm.Cond.fieldLink "ShippedClass$Machine" (18 : Nat) "ShippedClass$Machine" "letters" "[I") ∈ tw_tbl := tw_inK tw_s1 146 rfl rfl
set_option maxRecDepth 20000 in
theorem wd_147 : (Jvm.Cond.fieldLink "ShippedClass$Machine" (21 : Nat) "ShippedClass$Machine" "layout" "LShippedClass$Layout;") ∈ tw_tbl := tw_inK tw_s1 147 rfl rfl
set_option maxRecDepth 20000 in
theorem wd_148 : (Jvm.Cond.fieldLink "ShippedClass$Machine" (47 : Nat) "ShippedClass$Machine" "deep" "I") ∈ tw_tbl := tw_inK tw_s1 148 rfl rfl
set_option maxRecDepth 20000 in
theorem wd_149 : (Jvm.Cond.fieldLinkNest "ShippedClass$Verifier" (156 : Nat) "ShippedClass$Machine" "deep" "I" "ShippedClass") ∈ tw_tbl := tw_inK tw_s1 149 rfl rfl
set_option maxRecDepth 20000 in
theorem wd_150 : (Jvm.Cond.fieldLinkNest "ShippedClass$Frames" (56 : Nat) "ShippedClass$Machine" "deep" "I" "ShippedClass") ∈ tw_tbl := tw_inK tw_s1 150 rfl rfl
set_option maxRecDepth 20000 in
theorem wd_151 : (Jvm.Cond.fieldLink "ShippedClass$Machine" (37 : Nat) "ShippedClass$Machine" "mostStack" "I") ∈ tw_tbl := tw_inK tw_s1 151 rfl rfl
set_option maxRecDepth 20000 in
theorem wd_152 : (Jvm.Cond.fieldLinkNest "ShippedClass$Verifier" (162 : Nat) "ShippedClass$Machine" "mostStack" "I" "ShippedClass") ∈ tw_tbl := tw_inK tw_s1 152 rfl rfl
set_option maxRecDepth 20000 in
theorem wd_153 : (Jvm.Cond.fieldLink "ShippedClass$Machine" (44 : Nat) "ShippedClass$Machine" "mostLocals" "I") ∈ tw_tbl := tw_inK tw_s1 153 rfl rfl
set_option maxRecDepth 20000 in
theorem wd_154 : (Jvm.Cond.fieldLinkNest "ShippedClass$Frames" (65 : Nat) "ShippedClass$Machine" "mostLocals" "I" "ShippedClass") ∈ tw_tbl := tw_inK tw_s1 154 rfl rfl
set_option maxRecDepth 20000 in
theorem wd_155 : (Jvm.Cond.fieldLink "ShippedClass$Machine" (88 : Nat) "ShippedClass$Machine" "manyTypes" "I") ∈ tw_tbl := tw_inK tw_s1 155 rfl rfl
set_option maxRecDepth 20000 in
theorem wd_156 : (Jvm.Cond.fieldLink "ShippedClass$Machine" (73 : Nat) "ShippedClass$Machine" "answer" "I") ∈ tw_tbl := tw_inK tw_s1 156 rfl rfl
set_option maxRecDepth 20000 in
theorem wd_157 : (Jvm.Cond.fieldLink "ShippedClass$Machine" (76 : Nat) "ShippedClass$Machine" "ownAnswer" "I") ∈ tw_tbl := tw_inK tw_s1 157 rfl rfl
set_option maxRecDepth 20000 in
theorem wd_158 : (Jvm.Cond.fieldLink "ShippedClass$Machine" (196 : Nat) "ShippedClass$Machine" "word" "I") ∈ tw_tbl := tw_inK tw_s1 158 rfl rfl
set_option maxRecDepth 20000 in
theorem wd_159 : (Jvm.Cond.laysFinal "ShippedClass$Machine" "ShippedClass$Machine" "stack" "[I") ∈ tw_tbl := tw_inK tw_s1 159 rfl rfl
set_option maxRecDepth 20000 in
theorem wd_160 : (Jvm.Cond.soleField "ShippedClass$Machine" "stack") ∈ tw_tbl := tw_inK tw_s1 160 rfl rfl
set_option maxRecDepth 20000 in
theorem wd_161 : (Jvm.Cond.laysFinal "ShippedClass$Machine" "ShippedClass$Machine" "locals" "[I") ∈ tw_tbl := tw_inK tw_s1 161 rfl rfl
set_option maxRecDepth 20000 in
theorem wd_162 : (Jvm.Cond.soleField "ShippedClass$Machine" "locals") ∈ tw_tbl := tw_inK tw_s1 162 rfl rfl
set_option maxRecDepth 20000 in
theorem wd_163 : (Jvm.Cond.laysFinal "ShippedClass$Machine" "ShippedClass$Machine" "letters" "[I") ∈ tw_tbl := tw_inK tw_s1 163 rfl rfl
set_option maxRecDepth 20000 in
theorem wd_164 : (Jvm.Cond.soleField "ShippedClass$Machine" "letters") ∈ tw_tbl := tw_inK tw_s1 164 rfl rfl
set_option maxRecDepth 20000 in
theorem wd_165 : (Jvm.Cond.lays "ShippedClass$Machine" "ShippedClass$Machine" "layout" "LShippedClass$Layout;") ∈ tw_tbl := tw_inK tw_s1 165 rfl rfl
set_option maxRecDepth 20000 in
theorem wd_166 : (Jvm.Cond.soleField "ShippedClass$Machine" "layout") ∈ tw_tbl := tw_inK tw_s1 166 rfl rfl
set_option maxRecDepth 20000 in
theorem wd_167 : (Jvm.Cond.lays "ShippedClass$Machine" "ShippedClass$Machine" "deep" "I") ∈ tw_tbl := tw_inK tw_s1 167 rfl rfl
set_option maxRecDepth 20000 in
theorem wd_168 : (Jvm.Cond.soleField "ShippedClass$Machine" "deep") ∈ tw_tbl := tw_inK tw_s1 168 rfl rfl
set_option maxRecDepth 20000 in
theorem wd_169 : (Jvm.Cond.lays "ShippedClass$Machine" "ShippedClass$Machine" "mostStack" "I") ∈ tw_tbl := tw_inK tw_s1 169 rfl rfl
set_option maxRecDepth 20000 in
theorem wd_170 : (Jvm.Cond.soleField "ShippedClass$Machine" "mostStack") ∈ tw_tbl := tw_inK tw_s1 170 rfl rfl
set_option maxRecDepth 20000 in
theorem wd_171 : (Jvm.Cond.lays "ShippedClass$Machine" "ShippedClass$Machine" "mostLocals" "I") ∈ tw_tbl := tw_inK tw_s1 171 rfl rfl
set_option maxRecDepth 20000 in
theorem wd_172 : (Jvm.Cond.soleField "ShippedClass$Machine" "mostLocals") ∈ tw_tbl := tw_inK tw_s1 172 rfl rfl
set_option maxRecDepth 20000 in
theorem wd_173 : (Jvm.Cond.lays "ShippedClass$Machine" "ShippedClass$Machine" "manyTypes" "I") ∈ tw_tbl := tw_inK tw_s1 173 rfl rfl
set_option maxRecDepth 20000 in
theorem wd_174 : (Jvm.Cond.soleField "ShippedClass$Machine" "manyTypes") ∈ tw_tbl := tw_inK tw_s1 174 rfl rfl
set_option maxRecDepth 20000 in
theorem wd_175 : (Jvm.Cond.lays "ShippedClass$Machine" "ShippedClass$Machine" "answer" "I") ∈ tw_tbl := tw_inK tw_s1 175 rfl rfl
set_option maxRecDepth 20000 in
theorem wd_176 : (Jvm.Cond.soleField "ShippedClass$Machine" "answer") ∈ tw_tbl := tw_inK tw_s1 176 rfl rfl
set_option maxRecDepth 20000 in
theorem wd_177 : (Jvm.Cond.lays "ShippedClass$Machine" "ShippedClass$Machine" "ownAnswer" "I") ∈ tw_tbl := tw_inK tw_s1 177 rfl rfl
set_option maxRecDepth 20000 in
theorem wd_178 : (Jvm.Cond.soleField "ShippedClass$Machine" "ownAnswer") ∈ tw_tbl := tw_inK tw_s1 178 rfl rfl
set_option maxRecDepth 20000 in
theorem wd_179 : (Jvm.Cond.lays "ShippedClass$Machine" "ShippedClass$Machine" "word" "I") ∈ tw_tbl := tw_inK tw_s1 179 rfl rfl
set_option maxRecDepth 20000 in
theorem wd_180 : (Jvm.Cond.soleField "ShippedClass$Machine" "word") ∈ tw_tbl := tw_inK tw_s1 180 rfl rfl
set_option maxRecDepth 20000 in
theorem wd_181 : (Jvm.Cond.superclass "ShippedClass$Machine" "java/lang/Object") ∈ tw_tbl := tw_inK tw_s1 181 rfl rfl
set_option maxRecDepth 20000 in
theorem wd_182 : (Jvm.Cond.fieldLink "ShippedClass$Verifier" (12 : Nat) "ShippedClass$Verifier" "machine" "LShippedClass$Machine;") ∈ tw_tbl := tw_inK tw_s1 182 rfl rfl
set_option maxRecDepth 20000 in
theorem wd_183 : (Jvm.Cond.fieldLink "ShippedClass$Verifier" (20 : Nat) "ShippedClass$Verifier" "caught" "[J") ∈ tw_tbl := tw_inK tw_s1 183 rfl rfl
set_option maxRecDepth 20000 in
theorem wd_184 : (Jvm.Cond.fieldLink "ShippedClass$Verifier" (24 : Nat) "ShippedClass$Verifier" "next" "[J") ∈ tw_tbl := tw_inK tw_s1 184 rfl rfl
set_option maxRecDepth 20000 in
theorem wd_185 : (Jvm.Cond.fieldLink "ShippedClass$Verifier" (27 : Nat) "ShippedClass$Verifier" "layout" "LShippedClass$Layout;") ∈ tw_tbl := tw_inK tw_s1 185 rfl rfl
set_option maxRecDepth 20000 in
theorem wd_186 : (Jvm.Cond.fieldLink "ShippedClass$Verifier" (37 : Nat) "ShippedClass$Verifier" "image" "LShippedClass$Image;") ∈ tw_tbl := tw_inK tw_s1 186 rfl rfl
set_option maxRecDepth 20000 in
theorem wd_187 : (Jvm.Cond.fieldLink "ShippedClass$Verifier" (42 : Nat) "ShippedClass$Verifier" "frames" "LShippedClass$Frames;") ∈ tw_tbl := tw_inK tw_s1 187 rfl rfl
set_option maxRecDepth 20000 in
theorem wd_188 : (Jvm.Cond.fieldLink "ShippedClass$Verifier" (43 : Nat) "ShippedClass$Verifier" "finding" "LShippedClass$Finding;") ∈ tw_tbl := tw_inK tw_s1 188 rfl rfl
set_option maxRecDepth 20000 in
theorem wd_189 : (Jvm.Cond.fieldLink "ShippedClass$Verifier" (62 : Nat) "ShippedClass$Verifier" "from" "I") ∈ tw_tbl := tw_inK tw_s1 189 rfl rfl
set_option maxRecDepth 20000 in
theorem wd_190 : (Jvm.Cond.fieldLink "ShippedClass$Verifier" (68 : Nat) "ShippedClass$Verifier" "end" "I") ∈ tw_tbl := tw_inK tw_s1 190 rfl rfl
set_option maxRecDepth 20000 in
theorem wd_191 : (Jvm.Cond.laysFinal "ShippedClass$Verifier" "ShippedClass$Verifier" "machine" "LShippedClass$Machine;") ∈ tw_tbl := tw_inK tw_s1 191 rfl rfl
set_option maxRecDepth 20000 in
theorem wd_192 : (Jvm.Cond.soleField "ShippedClass$Verifier" "machine") ∈ tw_tbl := tw_inK tw_s1 192 rfl rfl
set_option maxRecDepth 20000 in
theorem wd_193 : (Jvm.Cond.laysFinal "ShippedClass$Verifier" "ShippedClass$Verifier" "caught" "[J") ∈ tw_tbl := tw_inK tw_s1 193 rfl rfl
set_option maxRecDepth 20000 in
theorem wd_194 : (Jvm.Cond.soleField "ShippedClass$Verifier" "caught") ∈ tw_tbl := tw_inK tw_s1 194 rfl rfl
set_option maxRecDepth 20000 in
theorem wd_195 : (Jvm.Cond.laysFinal "ShippedClass$Verifier" "ShippedClass$Verifier" "next" "[J") ∈ tw_tbl := tw_inK tw_s1 195 rfl rfl
set_option maxRecDepth 20000 in
theorem wd_196 : (Jvm.Cond.soleField "ShippedClass$Verifier" "next") ∈ tw_tbl := tw_inK tw_s1 196 rfl rfl
set_option maxRecDepth 20000 in
theorem wd_197 : (Jvm.Cond.lays "ShippedClass$Verifier" "ShippedClass$Verifier" "layout" "LShippedClass$Layout;") ∈ tw_tbl := tw_inK tw_s1 197 rfl rfl
set_option maxRecDepth 20000 in
theorem wd_198 : (Jvm.Cond.soleField "ShippedClass$Verifier" "layout") ∈ tw_tbl := tw_inK tw_s1 198 rfl rfl
set_option maxRecDepth 20000 in
theorem wd_199 : (Jvm.Cond.lays "ShippedClass$Verifier" "ShippedClass$Verifier" "image" "LShippedClass$Image;") ∈ tw_tbl := tw_inK tw_s1 199 rfl rfl
set_option maxRecDepth 20000 in
theorem wd_200 : (Jvm.Cond.soleField "ShippedClass$Verifier" "image") ∈ tw_tbl := tw_inK tw_s1 200 rfl rfl
set_option maxRecDepth 20000 in
theorem wd_201 : (Jvm.Cond.lays "ShippedClass$Verifier" "ShippedClass$Verifier" "frames" "LShippedClass$Frames;") ∈ tw_tbl := tw_inK tw_s1 201 rfl rfl
set_option maxRecDepth 20000 in
theorem wd_202 : (Jvm.Cond.soleField "ShippedClass$Verifier" "frames") ∈ tw_tbl := tw_inK tw_s1 202 rfl rfl
set_option maxRecDepth 20000 in
theorem wd_203 : (Jvm.Cond.lays "ShippedClass$Verifier" "ShippedClass$Verifier" "finding" "LShippedClass$Finding;") ∈ tw_tbl := tw_inK tw_s1 203 rfl rfl
set_option maxRecDepth 20000 in
theorem wd_204 : (Jvm.Cond.soleField "ShippedClass$Verifier" "finding") ∈ tw_tbl := tw_inK tw_s1 204 rfl rfl
set_option maxRecDepth 20000 in
theorem wd_205 : (Jvm.Cond.lays "ShippedClass$Verifier" "ShippedClass$Verifier" "from" "I") ∈ tw_tbl := tw_inK tw_s1 205 rfl rfl
set_option maxRecDepth 20000 in
theorem wd_206 : (Jvm.Cond.soleField "ShippedClass$Verifier" "from") ∈ tw_tbl := tw_inK tw_s1 206 rfl rfl
set_option maxRecDepth 20000 in
theorem wd_207 : (Jvm.Cond.lays "ShippedClass$Verifier" "ShippedClass$Verifier" "end" "I") ∈ tw_tbl := tw_inK tw_s1 207 rfl rfl
set_option maxRecDepth 20000 in
theorem wd_208 : (Jvm.Cond.soleField "ShippedClass$Verifier" "end") ∈ tw_tbl := tw_inK tw_s1 208 rfl rfl
set_option maxRecDepth 20000 in
theorem wd_209 : (Jvm.Cond.superclass "ShippedClass$Verifier" "java/lang/Object") ∈ tw_tbl := tw_inK tw_s1 209 rfl rfl
set_option maxRecDepth 20000 in
theorem wd_210 : (Jvm.Cond.arrayClass Jvm.ClassFile.FieldType.long) ∈ tw_tbl := tw_inK tw_s1 210 rfl rfl
set_option maxRecDepth 20000 in
theorem wd_211 : (Jvm.Cond.classLink "ShippedClass" (51 : Nat) "ShippedClass$Layout") ∈ tw_tbl := tw_inK tw_s1 211 rfl rfl
set_option maxRecDepth 20000 in
theorem wd_212 : (Jvm.Cond.instantiable "ShippedClass$Layout" (15 : Nat)) ∈ tw_tbl := tw_inK tw_s1 212 rfl rfl
set_option maxRecDepth 20000 in
theorem wd_213 : (Jvm.Cond.methodLinkNest "ShippedClass" (53 : Nat) ({ cls := "ShippedClass$Layout", name := "<init>", desc := "()V" } : Jvm.MethodName) "ShippedClass") ∈ tw_tbl := tw_inK tw_s1 213 rfl rfl
set_option maxRecDepth 20000 in
theorem wd_214 : (Jvm.Cond.instanceMethod ({ cls := "ShippedClass$Layout", name := "<init>", desc := "()V" } : Jvm.MethodName)) ∈ tw_tbl := tw_inK tw_s1 214 rfl rfl
set_option maxRecDepth 20000 in
theorem wd_215 : (Jvm.Cond.code ({ cls := "ShippedClass$Layout", name := "<init>", desc := "()V" } : Jvm.MethodName) prog_6_method_1_code (1 : Nat) (Option.none : Option Jvm.ClassFile.FieldType)) ∈ tw_tbl := tw_inK tw_s1 215 rfl rfl
set_option maxRecDepth 20000 in
theorem wd_216 : (Jvm.Cond.methodLink "ShippedClass$Layout" (3 : Nat) ({ cls := "java/lang/Object", name := "<init>", desc := "()V" } : Jvm.MethodName)) ∈ tw_tbl := tw_inK tw_s1 216 rfl rfl
set_option maxRecDepth 20000 in
theorem wd_217 : (Jvm.Cond.classLink "ShippedClass$Layout" (9 : Nat) "ShippedClass$Image") ∈ tw_tbl := tw_inK tw_s1 217 rfl rfl
set_option maxRecDepth 20000 in
theorem wd_218 : (Jvm.Cond.methodLinkNest "ShippedClass$Layout" (11 : Nat) ({ cls := "ShippedClass$Image", name := "<init>", desc := "()V" } : Jvm.MethodName) "ShippedClass") ∈ tw_tbl := tw_inK tw_s1 218 rfl rfl
set_option maxRecDepth 20000 in
theorem wd_219 : (Jvm.Cond.classLink "ShippedClass$Layout" (18 : Nat) "ShippedClass$Frames") ∈ tw_tbl := tw_inK tw_s1 219 rfl rfl
set_option maxRecDepth 20000 in
theorem wd_220 : (Jvm.Cond.instantiable "ShippedClass$Frames" (5 : Nat)) ∈ tw_tbl := tw_inK tw_s1 220 rfl rfl
set_option maxRecDepth 20000 in
theorem wd_221 : (Jvm.Cond.methodLinkNest "ShippedClass$Layout" (20 : Nat) ({ cls := "ShippedClass$Frames", name := "<init>", desc := "()V" } : Jvm.MethodName) "ShippedClass") ∈ tw_tbl := tw_inK tw_s1 221 rfl rfl
set_option maxRecDepth 20000 in
theorem wd_222 : (Jvm.Cond.instanceMethod ({ cls := "ShippedClass$Frames", name := "<init>", desc := "()V" } : Jvm.MethodName)) ∈ tw_tbl := tw_inK tw_s1 222 rfl rfl
set_option maxRecDepth 20000 in
theorem wd_223 : (Jvm.Cond.code ({ cls := "ShippedClass$Frames", name := "<init>", desc := "()V" } : Jvm.MethodName) prog_3_method_1_code (1 : Nat) (Option.none : Option Jvm.ClassFile.FieldType)) ∈ tw_tbl := tw_inK tw_s1 223 rfl rfl
set_option maxRecDepth 20000 in
theorem wd_224 : (Jvm.Cond.methodLink "ShippedClass$Frames" (3 : Nat) ({ cls := "java/lang/Object", name := "<init>", desc := "()V" } : Jvm.MethodName)) ∈ tw_tbl := tw_inK tw_s1 224 rfl rfl
set_option maxRecDepth 20000 in
theorem wd_225 : (Jvm.Cond.fieldLink "ShippedClass$Frames" (11 : Nat) "ShippedClass$Frames" "rows" "[J") ∈ tw_tbl := tw_inK tw_s1 225 rfl rfl
set_option maxRecDepth 20000 in
theorem wd_226 : (Jvm.Cond.fieldLink "ShippedClass$Frames" (15 : Nat) "ShippedClass$Frames" "begins" "[B") ∈ tw_tbl := tw_inK tw_s1 226 rfl rfl
set_option maxRecDepth 20000 in
theorem wd_227 : (Jvm.Cond.fieldLink "ShippedClass$Frames" (19 : Nat) "ShippedClass$Frames" "waits" "[B") ∈ tw_tbl := tw_inK tw_s1 227 rfl rfl
set_option maxRecDepth 20000 in
theorem wd_228 : (Jvm.Cond.fieldLink "ShippedClass$Frames" (22 : Nat) "ShippedClass$Frames" "deeps" "[B") ∈ tw_tbl := tw_inK tw_s1 228 rfl rfl
set_option maxRecDepth 20000 in
theorem wd_229 : (Jvm.Cond.fieldLink "ShippedClass$Frames" (25 : Nat) "ShippedClass$Frames" "lowest" "I") ∈ tw_tbl := tw_inK tw_s1 229 rfl rfl
set_option maxRecDepth 20000 in
theorem wd_230 : (Jvm.Cond.laysFinal "ShippedClass$Frames" "ShippedClass$Frames" "rows" "[J") ∈ tw_tbl := tw_inK tw_s1 230 rfl rfl
set_option maxRecDepth 20000 in
theorem wd_231 : (Jvm.Cond.soleField "ShippedClass$Frames" "rows") ∈ tw_tbl := tw_inK tw_s1 231 rfl rfl
set_option maxRecDepth 20000 in
theorem wd_232 : (Jvm.Cond.laysFinal "ShippedClass$Frames" "ShippedClass$Frames" "begins" "[B") ∈ tw_tbl := tw_inK tw_s1 232 rfl rfl
set_option maxRecDepth 20000 in
theorem wd_233 : (Jvm.Cond.soleField "ShippedClass$Frames" "begins") ∈ tw_tbl := tw_inK tw_s1 233 rfl rfl
set_option maxRecDepth 20000 in
theorem wd_234 : (Jvm.Cond.laysFinal "ShippedClass$Frames" "ShippedClass$Frames" "waits" "[B") ∈ tw_tbl := tw_inK tw_s1 234 rfl rfl
set_option maxRecDepth 20000 in
theorem wd_235 : (Jvm.Cond.soleField "ShippedClass$Frames" "waits") ∈ tw_tbl := tw_inK tw_s1 235 rfl rfl
set_option maxRecDepth 20000 in
theorem wd_236 : (Jvm.Cond.laysFinal "ShippedClass$Frames" "ShippedClass$Frames" "deeps" "[B") ∈ tw_tbl := tw_inK tw_s1 236 rfl rfl
set_option maxRecDepth 20000 in
theorem wd_237 : (Jvm.Cond.soleField "ShippedClass$Frames" "deeps") ∈ tw_tbl := tw_inK tw_s1 237 rfl rfl
set_option maxRecDepth 20000 in
theorem wd_238 : (Jvm.Cond.lays "ShippedClass$Frames" "ShippedClass$Frames" "lowest" "I") ∈ tw_tbl := tw_inK tw_s1 238 rfl rfl
set_option maxRecDepth 20000 in
theorem wd_239 : (Jvm.Cond.soleField "ShippedClass$Frames" "lowest") ∈ tw_tbl := tw_inK tw_s1 239 rfl rfl
set_option maxRecDepth 20000 in
theorem wd_240 : (Jvm.Cond.superclass "ShippedClass$Frames" "java/lang/Object") ∈ tw_tbl := tw_inK tw_s2 0 rfl rfl
set_option maxRecDepth 20000 in
theorem wd_241 : (Jvm.Cond.fieldLink "ShippedClass$Layout" (12 : Nat) "ShippedClass$Layout" "image" "LShippedClass$Image;") ∈ tw_tbl := tw_inK tw_s2 1 rfl rfl
set_option maxRecDepth 20000 in
theorem wd_242 : (Jvm.Cond.fieldLinkNest "ShippedClass$Reader" (15 : Nat) "ShippedClass$Layout" "image" "LShippedClass$Image;" "ShippedClass") ∈ tw_tbl := tw_inK tw_s2 2 rfl rfl
set_option maxRecDepth 20000 in
theorem wd_243 : (Jvm.Cond.fieldLinkNest "ShippedClass$Linker" (15 : Nat) "ShippedClass$Layout" "image" "LShippedClass$Image;" "ShippedClass") ∈ tw_tbl := tw_inK tw_s2 3 rfl rfl
set_option maxRecDepth 20000 in
theorem wd_244 : (Jvm.Cond.fieldLinkNest "ShippedClass$Verifier" (31 : Nat) "ShippedClass$Layout" "image" "LShippedClass$Image;" "ShippedClass") ∈ tw_tbl := tw_inK tw_s2 4 rfl rfl
set_option maxRecDepth 20000 in
theorem wd_245 : (Jvm.Cond.fieldLinkNest "ShippedClass$Machine" (79 : Nat) "ShippedClass$Layout" "image" "LShippedClass$Image;" "ShippedClass") ∈ tw_tbl := tw_inK tw_s2 5 rfl rfl
set_option maxRecDepth 20000 in
theorem wd_246 : (Jvm.Cond.fieldLinkNest "ShippedClass$Policy" (50 : Nat) "ShippedClass$Layout" "image" "LShippedClass$Image;" "ShippedClass") ∈ tw_tbl := tw_inK tw_s2 6 rfl rfl
set_option maxRecDepth 20000 in
theorem wd_247 : (Jvm.Cond.fieldLinkNest "ShippedClass$Grammar" (33 : Nat) "ShippedClass$Layout" "image" "LShippedClass$Image;" "ShippedClass") ∈ tw_tbl := tw_inK tw_s2 7 rfl rfl
set_option maxRecDepth 20000 in
theorem wd_248 : (Jvm.Cond.fieldLink "ShippedClass$Layout" (21 : Nat) "ShippedClass$Layout" "frames" "LShippedClass$Frames;") ∈ tw_tbl := tw_inK tw_s2 8 rfl rfl
set_option maxRecDepth 20000 in
theorem wd_249 : (Jvm.Cond.fieldLinkNest "ShippedClass$Verifier" (38 : Nat) "ShippedClass$Layout" "frames" "LShippedClass$Frames;" "ShippedClass") ∈ tw_tbl := tw_inK tw_s2 9 rfl rfl
set_option maxRecDepth 20000 in
theorem wd_250 : (Jvm.Cond.fieldLinkNest "ShippedClass" (159 : Nat) "ShippedClass$Layout" "frames" "LShippedClass$Frames;" "ShippedClass") ∈ tw_tbl := tw_inK tw_s2 10 rfl rfl
set_option maxRecDepth 20000 in
theorem wd_251 : (Jvm.Cond.fieldLink "ShippedClass$Layout" (25 : Nat) "ShippedClass$Layout" "tags" "[I") ∈ tw_tbl := tw_inK tw_s2 11 rfl rfl
set_option maxRecDepth 20000 in
theorem wd_252 : (Jvm.Cond.fieldLink "ShippedClass$Layout" (29 : Nat) "ShippedClass$Layout" "constantAt" "[I") ∈ tw_tbl := tw_inK tw_s2 12 rfl rfl
set_option maxRecDepth 20000 in
theorem wd_253 : (Jvm.Cond.fieldLink "ShippedClass$Layout" (32 : Nat) "ShippedClass$Layout" "firsts" "[I") ∈ tw_tbl := tw_inK tw_s2 13 rfl rfl
set_option maxRecDepth 20000 in
theorem wd_254 : (Jvm.Cond.fieldLink "ShippedClass$Layout" (35 : Nat) "ShippedClass$Layout" "seconds" "[I") ∈ tw_tbl := tw_inK tw_s2 14 rfl rfl
set_option maxRecDepth 20000 in
theorem wd_255 : (Jvm.Cond.fieldLink "ShippedClass$Layout" (38 : Nat) "ShippedClass$Layout" "fieldAt" "[I") ∈ tw_tbl := tw_inK tw_s2 15 rfl rfl
set_option maxRecDepth 20000 in
theorem wd_256 : (Jvm.Cond.fieldLink "ShippedClass$Layout" (41 : Nat) "ShippedClass$Layout" "methodAt" "[I") ∈ tw_tbl := tw_inK tw_s2 16 rfl rfl
set_option maxRecDepth 20000 in
theorem wd_257 : (Jvm.Cond.fieldLink "ShippedClass$Layout" (44 : Nat) "ShippedClass$Layout" "codeAt" "[I") ∈ tw_tbl := tw_inK tw_s2 17 rfl rfl
set_option maxRecDepth 20000 in
theorem wd_258 : (Jvm.Cond.fieldLinkNest "ShippedClass$Linker" (26 : Nat) "ShippedClass$Layout" "numbers" "I" "ShippedClass") ∈ tw_tbl := tw_inK tw_s2 18 rfl rfl
set_option maxRecDepth 20000 in
theorem wd_259 : (Jvm.Cond.fieldLink "ShippedClass$Layout" (60 : Nat) "ShippedClass$Layout" "numbers" "I") ∈ tw_tbl := tw_inK tw_s2 19 rfl rfl
set_option maxRecDepth 20000 in
theorem wd_260 : (Jvm.Cond.fieldLinkNest "ShippedClass$Reader" (82 : Nat) "ShippedClass$Layout" "numbers" "I" "ShippedClass") ∈ tw_tbl := tw_inK tw_s2 20 rfl rfl
set_option maxRecDepth 20000 in
theorem wd_261 : (Jvm.Cond.fieldLinkNest "ShippedClass$Policy" (75 : Nat) "ShippedClass$Layout" "numbers" "I" "ShippedClass") ∈ tw_tbl := tw_inK tw_s2 21 rfl rfl
set_option maxRecDepth 20000 in
theorem wd_262 : (Jvm.Cond.fieldLinkNest "ShippedClass" (137 : Nat) "ShippedClass$Layout" "numbers" "I" "ShippedClass") ∈ tw_tbl := tw_inK tw_s2 22 rfl rfl
set_option maxRecDepth 20000 in
theorem wd_263 : (Jvm.Cond.fieldLinkNest "ShippedClass$Policy" (66 : Nat) "ShippedClass$Layout" "thisAt" "I" "ShippedClass") ∈ tw_tbl := tw_inK tw_s2 23 rfl rfl
set_option maxRecDepth 20000 in
theorem wd_264 : (Jvm.Cond.fieldLinkNest "ShippedClass$Linker" (109 : Nat) "ShippedClass$Layout" "thisAt" "I" "ShippedClass") ∈ tw_tbl := tw_inK tw_s2 24 rfl rfl
set_option maxRecDepth 20000 in
theorem wd_265 : (Jvm.Cond.fieldLinkNest "ShippedClass$Reader" (100 : Nat) "ShippedClass$Layout" "thisAt" "I" "ShippedClass") ∈ tw_tbl := tw_inK tw_s2 25 rfl rfl
set_option maxRecDepth 20000 in
theorem wd_266 : (Jvm.Cond.fieldLink "ShippedClass$Layout" (83 : Nat) "ShippedClass$Layout" "thisAt" "I") ∈ tw_tbl := tw_inK tw_s2 26 rfl rfl
set_option maxRecDepth 20000 in
theorem wd_267 : (Jvm.Cond.fieldLink "ShippedClass$Layout" (64 : Nat) "ShippedClass$Layout" "interfaces" "I") ∈ tw_tbl := tw_inK tw_s2 27 rfl rfl
set_option maxRecDepth 20000 in
theorem wd_268 : (Jvm.Cond.fieldLinkNest "ShippedClass$Reader" (103 : Nat) "ShippedClass$Layout" "interfaces" "I" "ShippedClass") ∈ tw_tbl := tw_inK tw_s2 28 rfl rfl
set_option maxRecDepth 20000 in
theorem wd_269 : (Jvm.Cond.fieldLinkNest "ShippedClass$Linker" (115 : Nat) "ShippedClass$Layout" "interfaces" "I" "ShippedClass") ∈ tw_tbl := tw_inK tw_s2 29 rfl rfl
set_option maxRecDepth 20000 in
theorem wd_270 : (Jvm.Cond.fieldLinkNest "ShippedClass" (146 : Nat) "ShippedClass$Layout" "interfaces" "I" "ShippedClass") ∈ tw_tbl := tw_inK tw_s2 30 rfl rfl
set_option maxRecDepth 20000 in
theorem wd_271 : (Jvm.Cond.fieldLink "ShippedClass$Layout" (67 : Nat) "ShippedClass$Layout" "fields" "I") ∈ tw_tbl := tw_inK tw_s2 31 rfl rfl
set_option maxRecDepth 20000 in
theorem wd_272 : (Jvm.Cond.fieldLinkNest "ShippedClass" (149 : Nat) "ShippedClass$Layout" "fields" "I" "ShippedClass") ∈ tw_tbl := tw_inK tw_s2 32 rfl rfl
set_option maxRecDepth 20000 in
theorem wd_273 : (Jvm.Cond.fieldLinkNest "ShippedClass$Linker" (127 : Nat) "ShippedClass$Layout" "fields" "I" "ShippedClass") ∈ tw_tbl := tw_inK tw_s2 33 rfl rfl
set_option maxRecDepth 20000 in
theorem wd_274 : (Jvm.Cond.fieldLinkNest "ShippedClass$Verifier" (47 : Nat) "ShippedClass$Layout" "methods" "I" "ShippedClass") ∈ tw_tbl := tw_inK tw_s2 34 rfl rfl
set_option maxRecDepth 20000 in
theorem wd_275 : (Jvm.Cond.fieldLink "ShippedClass$Layout" (70 : Nat) "ShippedClass$Layout" "methods" "I") ∈ tw_tbl := tw_inK tw_s2 35 rfl rfl
set_option maxRecDepth 20000 in
theorem wd_276 : (Jvm.Cond.fieldLinkNest "ShippedClass$Policy" (54 : Nat) "ShippedClass$Layout" "methods" "I" "ShippedClass") ∈ tw_tbl := tw_inK tw_s2 36 rfl rfl
set_option maxRecDepth 20000 in
theorem wd_277 : (Jvm.Cond.fieldLinkNest "ShippedClass" (152 : Nat) "ShippedClass$Layout" "methods" "I" "ShippedClass") ∈ tw_tbl := tw_inK tw_s2 37 rfl rfl
set_option maxRecDepth 20000 in
theorem wd_278 : (Jvm.Cond.fieldLinkNest "ShippedClass$Linker" (124 : Nat) "ShippedClass$Layout" "methods" "I" "ShippedClass") ∈ tw_tbl := tw_inK tw_s2 38 rfl rfl
set_option maxRecDepth 20000 in
theorem wd_279 : (Jvm.Cond.fieldLinkNest "ShippedClass$Policy" (57 : Nat) "ShippedClass$Layout" "methodsAt" "I" "ShippedClass") ∈ tw_tbl := tw_inK tw_s2 39 rfl rfl
set_option maxRecDepth 20000 in
theorem wd_280 : (Jvm.Cond.fieldLinkNest "ShippedClass$Reader" (106 : Nat) "ShippedClass$Layout" "methodsAt" "I" "ShippedClass") ∈ tw_tbl := tw_inK tw_s2 40 rfl rfl
set_option maxRecDepth 20000 in
theorem wd_281 : (Jvm.Cond.laysFinal "ShippedClass$Layout" "ShippedClass$Layout" "image" "LShippedClass$Image;") ∈ tw_tbl := tw_inK tw_s2 41 rfl rfl
set_option maxRecDepth 20000 in
theorem wd_282 : (Jvm.Cond.soleField "ShippedClass$Layout" "image") ∈ tw_tbl := tw_inK tw_s2 42 rfl rfl
set_option maxRecDepth 20000 in
theorem wd_283 : (Jvm.Cond.laysFinal "ShippedClass$Layout" "ShippedClass$Layout" "frames" "LShippedClass$Frames;") ∈ tw_tbl := tw_inK tw_s2 43 rfl rfl
set_option maxRecDepth 20000 in
theorem wd_284 : (Jvm.Cond.soleField "ShippedClass$Layout" "frames") ∈ tw_tbl := tw_inK tw_s2 44 rfl rfl
set_option maxRecDepth 20000 in
theorem wd_285 : (Jvm.Cond.laysFinal "ShippedClass$Layout" "ShippedClass$Layout" "tags" "[I") ∈ tw_tbl := tw_inK tw_s2 45 rfl rfl
set_option maxRecDepth 20000 in
theorem wd_286 : (Jvm.Cond.soleField "ShippedClass$Layout" "tags") ∈ tw_tbl := tw_inK tw_s2 46 rfl rfl
set_option maxRecDepth 20000 in
theorem wd_287 : (Jvm.Cond.laysFinal "ShippedClass$Layout" "ShippedClass$Layout" "constantAt" "[I") ∈ tw_tbl := tw_inK tw_s2 47 rfl rfl
set_option maxRecDepth 20000 in
theorem wd_288 : (Jvm.Cond.soleField "ShippedClass$Layout" "constantAt") ∈ tw_tbl := tw_inK tw_s2 48 rfl rfl
set_option maxRecDepth 20000 in
theorem wd_289 : (Jvm.Cond.laysFinal "ShippedClass$Layout" "ShippedClass$Layout" "firsts" "[I") ∈ tw_tbl := tw_inK tw_s2 49 rfl rfl
set_option maxRecDepth 20000 in
theorem wd_290 : (Jvm.Cond.soleField "ShippedClass$Layout" "firsts") ∈ tw_tbl := tw_inK tw_s2 50 rfl rfl
set_option maxRecDepth 20000 in
theorem wd_291 : (Jvm.Cond.laysFinal "ShippedClass$Layout" "ShippedClass$Layout" "seconds" "[I") ∈ tw_tbl := tw_inK tw_s2 51 rfl rfl
set_option maxRecDepth 20000 in
theorem wd_292 : (Jvm.Cond.soleField "ShippedClass$Layout" "seconds") ∈ tw_tbl := tw_inK tw_s2 52 rfl rfl
set_option maxRecDepth 20000 in
theorem wd_293 : (Jvm.Cond.laysFinal "ShippedClass$Layout" "ShippedClass$Layout" "fieldAt" "[I") ∈ tw_tbl := tw_inK tw_s2 53 rfl rfl
set_option maxRecDepth 20000 in
theorem wd_294 : (Jvm.Cond.soleField "ShippedClass$Layout" "fieldAt") ∈ tw_tbl := tw_inK tw_s2 54 rfl rfl
set_option maxRecDepth 20000 in
theorem wd_295 : (Jvm.Cond.laysFinal "ShippedClass$Layout" "ShippedClass$Layout" "methodAt" "[I") ∈ tw_tbl := tw_inK tw_s2 55 rfl rfl
set_option maxRecDepth 20000 in
theorem wd_296 : (Jvm.Cond.soleField "ShippedClass$Layout" "methodAt") ∈ tw_tbl := tw_inK tw_s2 56 rfl rfl
set_option maxRecDepth 20000 in
theorem wd_297 : (Jvm.Cond.laysFinal "ShippedClass$Layout" "ShippedClass$Layout" "codeAt" "[I") ∈ tw_tbl := tw_inK tw_s2 57 rfl rfl
set_option maxRecDepth 20000 in
theorem wd_298 : (Jvm.Cond.soleField "ShippedClass$Layout" "codeAt") ∈ tw_tbl := tw_inK tw_s2 58 rfl rfl
set_option maxRecDepth 20000 in
theorem wd_299 : (Jvm.Cond.lays "ShippedClass$Layout" "ShippedClass$Layout" "numbers" "I") ∈ tw_tbl := tw_inK tw_s2 59 rfl rfl
set_option maxRecDepth 20000 in
theorem wd_300 : (Jvm.Cond.soleField "ShippedClass$Layout" "numbers") ∈ tw_tbl := tw_inK tw_s2 60 rfl rfl
set_option maxRecDepth 20000 in
theorem wd_301 : (Jvm.Cond.lays "ShippedClass$Layout" "ShippedClass$Layout" "thisAt" "I") ∈ tw_tbl := tw_inK tw_s2 61 rfl rfl
set_option maxRecDepth 20000 in
theorem wd_302 : (Jvm.Cond.soleField "ShippedClass$Layout" "thisAt") ∈ tw_tbl := tw_inK tw_s2 62 rfl rfl
set_option maxRecDepth 20000 in
theorem wd_303 : (Jvm.Cond.lays "ShippedClass$Layout" "ShippedClass$Layout" "interfaces" "I") ∈ tw_tbl := tw_inK tw_s2 63 rfl rfl
set_option maxRecDepth 20000 in
theorem wd_304 : (Jvm.Cond.soleField "ShippedClass$Layout" "interfaces") ∈ tw_tbl := tw_inK tw_s2 64 rfl rfl
set_option maxRecDepth 20000 in
theorem wd_305 : (Jvm.Cond.lays "ShippedClass$Layout" "ShippedClass$Layout" "fields" "I") ∈ tw_tbl := tw_inK tw_s2 65 rfl rfl
set_option maxRecDepth 20000 in
theorem wd_306 : (Jvm.Cond.soleField "ShippedClass$Layout" "fields") ∈ tw_tbl := tw_inK tw_s2 66 rfl rfl
set_option maxRecDepth 20000 in
theorem wd_307 : (Jvm.Cond.lays "ShippedClass$Layout" "ShippedClass$Layout" "methods" "I") ∈ tw_tbl := tw_inK tw_s2 67 rfl rfl
set_option maxRecDepth 20000 in
theorem wd_308 : (Jvm.Cond.soleField "ShippedClass$Layout" "methods") ∈ tw_tbl := tw_inK tw_s2 68 rfl rfl
set_option maxRecDepth 20000 in
theorem wd_309 : (Jvm.Cond.lays "ShippedClass$Layout" "ShippedClass$Layout" "methodsAt" "I") ∈ tw_tbl := tw_inK tw_s2 69 rfl rfl
set_option maxRecDepth 20000 in
theorem wd_310 : (Jvm.Cond.soleField "ShippedClass$Layout" "methodsAt") ∈ tw_tbl := tw_inK tw_s2 70 rfl rfl
set_option maxRecDepth 20000 in
theorem wd_311 : (Jvm.Cond.superclass "ShippedClass$Layout" "java/lang/Object") ∈ tw_tbl := tw_inK tw_s2 71 rfl rfl
set_option maxRecDepth 20000 in
theorem wd_312 : (Jvm.Cond.fieldLink "ShippedClass" (10 : Nat) "ShippedClass" "bytes" "LShippedClass$Image;") ∈ tw_tbl := tw_inK tw_s2 72 rfl rfl
set_option maxRecDepth 20000 in
theorem wd_313 : (Jvm.Cond.fieldLink "ShippedClass" (19 : Nat) "ShippedClass" "finding" "LShippedClass$Finding;") ∈ tw_tbl := tw_inK tw_s2 73 rfl rfl
set_option maxRecDepth 20000 in
theorem wd_314 : (Jvm.Cond.fieldLink "ShippedClass" (26 : Nat) "ShippedClass" "policy" "LShippedClass$Policy;") ∈ tw_tbl := tw_inK tw_s2 74 rfl rfl
set_option maxRecDepth 20000 in
theorem wd_315 : (Jvm.Cond.fieldLink "ShippedClass" (33 : Nat) "ShippedClass" "reader" "LShippedClass$Reader;") ∈ tw_tbl := tw_inK tw_s2 75 rfl rfl
set_option maxRecDepth 20000 in
theorem wd_316 : (Jvm.Cond.fieldLink "ShippedClass" (40 : Nat) "ShippedClass" "linker" "LShippedClass$Linker;") ∈ tw_tbl := tw_inK tw_s2 76 rfl rfl
set_option maxRecDepth 20000 in
theorem wd_317 : (Jvm.Cond.fieldLink "ShippedClass" (47 : Nat) "ShippedClass" "verifier" "LShippedClass$Verifier;") ∈ tw_tbl := tw_inK tw_s2 77 rfl rfl
set_option maxRecDepth 20000 in
theorem wd_318 : (Jvm.Cond.fieldLink "ShippedClass" (54 : Nat) "ShippedClass" "work" "LShippedClass$Layout;") ∈ tw_tbl := tw_inK tw_s2 78 rfl rfl
set_option maxRecDepth 20000 in
theorem wd_319 : (Jvm.Cond.fieldLink "ShippedClass" (58 : Nat) "ShippedClass" "good" "LShippedClass$Layout;") ∈ tw_tbl := tw_inK tw_s2 79 rfl rfl
set_option maxRecDepth 20000 in
theorem wd_320 : (Jvm.Cond.fieldLink "ShippedClass" (127 : Nat) "ShippedClass" "isGood" "Z") ∈ tw_tbl := tw_inK tw_s2 80 rfl rfl
set_option maxRecDepth 20000 in
theorem wd_321 : (Jvm.Cond.laysFinal "ShippedClass" "ShippedClass" "bytes" "LShippedClass$Image;") ∈ tw_tbl := tw_inK tw_s2 81 rfl rfl
set_option maxRecDepth 20000 in
theorem wd_322 : (Jvm.Cond.soleField "ShippedClass" "bytes") ∈ tw_tbl := tw_inK tw_s2 82 rfl rfl
set_option maxRecDepth 20000 in
theorem wd_323 : (Jvm.Cond.laysFinal "ShippedClass" "ShippedClass" "finding" "LShippedClass$Finding;") ∈ tw_tbl := tw_inK tw_s2 83 rfl rfl
set_option maxRecDepth 20000 in
theorem wd_324 : (Jvm.Cond.soleField "ShippedClass" "finding") ∈ tw_tbl := tw_inK tw_s2 84 rfl rfl
set_option maxRecDepth 20000 in
theorem wd_325 : (Jvm.Cond.laysFinal "ShippedClass" "ShippedClass" "policy" "LShippedClass$Policy;") ∈ tw_tbl := tw_inK tw_s2 85 rfl rfl
set_option maxRecDepth 20000 in
theorem wd_326 : (Jvm.Cond.soleField "ShippedClass" "policy") ∈ tw_tbl := tw_inK tw_s2 86 rfl rfl
set_option maxRecDepth 20000 in
theorem wd_327 : (Jvm.Cond.laysFinal "ShippedClass" "ShippedClass" "reader" "LShippedClass$Reader;") ∈ tw_tbl := tw_inK tw_s2 87 rfl rfl
set_option maxRecDepth 20000 in
theorem wd_328 : (Jvm.Cond.soleField "ShippedClass" "reader") ∈ tw_tbl := tw_inK tw_s2 88 rfl rfl
set_option maxRecDepth 20000 in
theorem wd_329 : (Jvm.Cond.laysFinal "ShippedClass" "ShippedClass" "linker" "LShippedClass$Linker;") ∈ tw_tbl := tw_inK tw_s2 89 rfl rfl
set_option maxRecDepth 20000 in
theorem wd_330 : (Jvm.Cond.soleField "ShippedClass" "linker") ∈ tw_tbl := tw_inK tw_s2 90 rfl rfl
set_option maxRecDepth 20000 in
theorem wd_331 : (Jvm.Cond.laysFinal "ShippedClass" "ShippedClass" "verifier" "LShippedClass$Verifier;") ∈ tw_tbl := tw_inK tw_s2 91 rfl rfl
set_option maxRecDepth 20000 in
theorem wd_332 : (Jvm.Cond.soleField "ShippedClass" "verifier") ∈ tw_tbl := tw_inK tw_s2 92 rfl rfl
set_option maxRecDepth 20000 in
theorem wd_333 : (Jvm.Cond.lays "ShippedClass" "ShippedClass" "work" "LShippedClass$Layout;") ∈ tw_tbl := tw_inK tw_s2 93 rfl rfl
set_option maxRecDepth 20000 in
theorem wd_334 : (Jvm.Cond.soleField "ShippedClass" "work") ∈ tw_tbl := tw_inK tw_s2 94 rfl rfl
set_option maxRecDepth 20000 in
theorem wd_335 : (Jvm.Cond.lays "ShippedClass" "ShippedClass" "good" "LShippedClass$Layout;") ∈ tw_tbl := tw_inK tw_s2 95 rfl rfl
set_option maxRecDepth 20000 in
theorem wd_336 : (Jvm.Cond.soleField "ShippedClass" "good") ∈ tw_tbl := tw_inK tw_s2 96 rfl rfl
set_option maxRecDepth 20000 in
theorem wd_337 : (Jvm.Cond.lays "ShippedClass" "ShippedClass" "isGood" "Z") ∈ tw_tbl := tw_inK tw_s2 97 rfl rfl
set_option maxRecDepth 20000 in
theorem wd_338 : (Jvm.Cond.soleField "ShippedClass" "isGood") ∈ tw_tbl := tw_inK tw_s2 98 rfl rfl
set_option maxRecDepth 20000 in
theorem wd_339 : (Jvm.Cond.superclass "ShippedClass" "java/lang/Object") ∈ tw_tbl := tw_inK tw_s2 99 rfl rfl
set_option maxRecDepth 20000 in
theorem wd_340 : (Jvm.Cond.methodLink "ShippedClassLaw" (77 : Nat) ({ cls := "ShippedClass", name := "audit", desc := "()I" } : Jvm.MethodName)) ∈ tw_tbl := tw_inK tw_s2 100 rfl rfl
set_option maxRecDepth 20000 in
theorem wd_341 : (Jvm.Cond.instanceMethod ({ cls := "ShippedClass", name := "audit", desc := "()I" } : Jvm.MethodName)) ∈ tw_tbl := tw_inK tw_s2 101 rfl rfl
set_option maxRecDepth 20000 in
theorem wd_342 : (Jvm.Cond.selects "ShippedClass" ({ cls := "ShippedClass", name := "audit", desc := "()I" } : Jvm.MethodName) ({ cls := "ShippedClass", name := "audit", desc := "()I" } : Jvm.MethodName)) ∈ tw_tbl := tw_inK tw_s2 102 rfl rfl
set_option maxRecDepth 20000 in
theorem wd_343 : (Jvm.Cond.code ({ cls := "ShippedClass", name := "audit", desc := "()I" } : Jvm.MethodName) prog_1_method_7_code (2 : Nat) (Option.some Jvm.ClassFile.FieldType.int)) ∈ tw_tbl := tw_inK tw_s2 103 rfl rfl
set_option maxRecDepth 20000 in
theorem wd_344 : (Jvm.Cond.methodLink "ShippedClass" (107 : Nat) ({ cls := "ShippedClass$Layout", name := "begin", desc := "(LShippedClass$Image;)V" } : Jvm.MethodName)) ∈ tw_tbl := tw_inK tw_s2 104 rfl rfl
set_option maxRecDepth 20000 in
theorem wd_345 : (Jvm.Cond.instanceMethod ({ cls := "ShippedClass$Layout", name := "begin", desc := "(LShippedClass$Image;)V" } : Jvm.MethodName)) ∈ tw_tbl := tw_inK tw_s2 105 rfl rfl
set_option maxRecDepth 20000 in
theorem wd_346 : (Jvm.Cond.selects "ShippedClass$Layout" ({ cls := "ShippedClass$Layout", name := "begin", desc := "(LShippedClass$Image;)V" } : Jvm.MethodName) ({ cls := "ShippedClass$Layout", name := "begin", desc := "(LShippedClass$Image;)V" } : Jvm.MethodName)) ∈ tw_tbl := tw_inK tw_s2 106 rfl rfl
set_option maxRecDepth 20000 in
theorem wd_347 : (Jvm.Cond.code ({ cls := "ShippedClass$Layout", name := "begin", desc := "(LShippedClass$Image;)V" } : Jvm.MethodName) prog_6_method_2_code (2 : Nat) (Option.none : Option Jvm.ClassFile.FieldType)) ∈ tw_tbl := tw_inK tw_s2 107 rfl rfl
set_option maxRecDepth 20000 in
theorem wd_348 : (Jvm.Cond.methodLink "ShippedClass$Layout" (47 : Nat) ({ cls := "ShippedClass$Image", name := "copyFrom", desc := "(LShippedClass$Image;)V" } : Jvm.MethodName)) ∈ tw_tbl := tw_inK tw_s2 108 rfl rfl
set_option maxRecDepth 20000 in
theorem wd_349 : (Jvm.Cond.instanceMethod ({ cls := "ShippedClass$Image", name := "copyFrom", desc := "(LShippedClass$Image;)V" } : Jvm.MethodName)) ∈ tw_tbl := tw_inK tw_s2 109 rfl rfl
set_option maxRecDepth 20000 in
theorem wd_350 : (Jvm.Cond.selects "ShippedClass$Image" ({ cls := "ShippedClass$Image", name := "copyFrom", desc := "(LShippedClass$Image;)V" } : Jvm.MethodName) ({ cls := "ShippedClass$Image", name := "copyFrom", desc := "(LShippedClass$Image;)V" } : Jvm.MethodName)) ∈ tw_tbl := tw_inK tw_s2 110 rfl rfl
set_option maxRecDepth 20000 in
theorem wd_351 : (Jvm.Cond.code ({ cls := "ShippedClass$Image", name := "copyFrom", desc := "(LShippedClass$Image;)V" } : Jvm.MethodName) prog_5_method_4_code (2 : Nat) (Option.none : Option Jvm.ClassFile.FieldType)) ∈ tw_tbl := tw_inK tw_s2 111 rfl rfl
set_option maxRecDepth 20000 in
theorem wd_352 : (Jvm.Cond.methodLink "ShippedClass$Image" (19 : Nat) ({ cls := "java/lang/System", name := "arraycopy", desc := "(Ljava/lang/Object;ILjava/lang/Object;II)V" } : Jvm.MethodName)) ∈ tw_tbl := tw_inK tw_s2 112 rfl rfl
set_option maxRecDepth 20000 in
theorem wd_353 : (Jvm.Cond.static ({ cls := "java/lang/System", name := "arraycopy", desc := "(Ljava/lang/Object;ILjava/lang/Object;II)V" } : Jvm.MethodName)) ∈ tw_tbl := tw_inK tw_s2 113 rfl rfl
set_option maxRecDepth 20000 in
theorem wd_354 : (Jvm.Cond.native ({ cls := "java/lang/System", name := "arraycopy", desc := "(Ljava/lang/Object;ILjava/lang/Object;II)V" } : Jvm.MethodName)) ∈ tw_tbl := tw_inK tw_s2 114 rfl rfl
set_option maxRecDepth 20000 in
theorem wd_355 : (Jvm.Cond.methodLink "ShippedClass$Layout" (51 : Nat) ({ cls := "ShippedClass$Frames", name := "clear", desc := "()V" } : Jvm.MethodName)) ∈ tw_tbl := tw_inK tw_s2 115 rfl rfl
set_option maxRecDepth 20000 in
theorem wd_356 : (Jvm.Cond.instanceMethod ({ cls := "ShippedClass$Frames", name := "clear", desc := "()V" } : Jvm.MethodName)) ∈ tw_tbl := tw_inK tw_s2 116 rfl rfl
set_option maxRecDepth 20000 in
theorem wd_357 : (Jvm.Cond.selects "ShippedClass$Frames" ({ cls := "ShippedClass$Frames", name := "clear", desc := "()V" } : Jvm.MethodName) ({ cls := "ShippedClass$Frames", name := "clear", desc := "()V" } : Jvm.MethodName)) ∈ tw_tbl := tw_inK tw_s2 117 rfl rfl
set_option maxRecDepth 20000 in
theorem wd_358 : (Jvm.Cond.code ({ cls := "ShippedClass$Frames", name := "clear", desc := "()V" } : Jvm.MethodName) prog_3_method_2_code (1 : Nat) (Option.none : Option Jvm.ClassFile.FieldType)) ∈ tw_tbl := tw_inK tw_s2 118 rfl rfl
set_option maxRecDepth 20000 in
theorem wd_359 : (Jvm.Cond.methodLink "ShippedClass$Frames" (29 : Nat) ({ cls := "java/util/Arrays", name := "fill", desc := "([BB)V" } : Jvm.MethodName)) ∈ tw_tbl := tw_inK tw_s2 119 rfl rfl
set_option maxRecDepth 20000 in
theorem wd_360 : (Jvm.Cond.static ({ cls := "java/util/Arrays", name := "fill", desc := "([BB)V" } : Jvm.MethodName)) ∈ tw_tbl := tw_inK tw_s2 120 rfl rfl
set_option maxRecDepth 20000 in
theorem wd_361 : (Jvm.Cond.code ({ cls := "java/util/Arrays", name := "fill", desc := "([BB)V" } : Jvm.MethodName) prog_27_method_109_code (4 : Nat) (Option.none : Option Jvm.ClassFile.FieldType)) ∈ tw_tbl := tw_inK tw_s2 121 rfl rfl
set_option maxRecDepth 20000 in
theorem wd_362 : (Jvm.Cond.methodLink "ShippedClass$Layout" (54 : Nat) ({ cls := "java/util/Arrays", name := "fill", desc := "([II)V" } : Jvm.MethodName)) ∈ tw_tbl := tw_inK tw_s2 122 rfl rfl
set_option maxRecDepth 20000 in
theorem wd_363 : (Jvm.Cond.static ({ cls := "java/util/Arrays", name := "fill", desc := "([II)V" } : Jvm.MethodName)) ∈ tw_tbl := tw_inK tw_s2 123 rfl rfl
set_option maxRecDepth 20000 in
theorem wd_364 : (Jvm.Cond.code ({ cls := "java/util/Arrays", name := "fill", desc := "([II)V" } : Jvm.MethodName) prog_27_method_103_code (4 : Nat) (Option.none : Option Jvm.ClassFile.FieldType)) ∈ tw_tbl := tw_inK tw_s2 124 rfl rfl
set_option maxRecDepth 20000 in
theorem wd_365 : (Jvm.Cond.methodLink "ShippedClass" (111 : Nat) ({ cls := "ShippedClass$Finding", name := "clear", desc := "()V" } : Jvm.MethodName)) ∈ tw_tbl := tw_inK tw_s2 125 rfl rfl
set_option maxRecDepth 20000 in
theorem wd_366 : (Jvm.Cond.instanceMethod ({ cls := "ShippedClass$Finding", name := "clear", desc := "()V" } : Jvm.MethodName)) ∈ tw_tbl := tw_inK tw_s2 126 rfl rfl
set_option maxRecDepth 20000 in
theorem wd_367 : (Jvm.Cond.selects "ShippedClass$Finding" ({ cls := "ShippedClass$Finding", name := "clear", desc := "()V" } : Jvm.MethodName) ({ cls := "ShippedClass$Finding", name := "clear", desc := "()V" } : Jvm.MethodName)) ∈ tw_tbl := tw_inK tw_s2 127 rfl rfl
set_option maxRecDepth 20000 in
theorem wd_368 : (Jvm.Cond.code ({ cls := "ShippedClass$Finding", name := "clear", desc := "()V" } : Jvm.MethodName) prog_2_method_2_code (1 : Nat) (Option.none : Option Jvm.ClassFile.FieldType)) ∈ tw_tbl := tw_inK tw_s2 128 rfl rfl
set_option maxRecDepth 20000 in
theorem wd_369 : (Jvm.Cond.methodLink "ShippedClass" (114 : Nat) ({ cls := "ShippedClass$Reader", name := "reads", desc := "(LShippedClass$Layout;LShippedClass$Finding;)Z" } : Jvm.MethodName)) ∈ tw_tbl := tw_inK tw_s2 129 rfl rfl
set_option maxRecDepth 20000 in
theorem wd_370 : (Jvm.Cond.instanceMethod ({ cls := "ShippedClass$Reader", name := "reads", desc := "(LShippedClass$Layout;LShippedClass$Finding;)Z" } : Jvm.MethodName)) ∈ tw_tbl := tw_inK tw_s2 130 rfl rfl
set_option maxRecDepth 20000 in
theorem wd_371 : (Jvm.Cond.selects "ShippedClass$Reader" ({ cls := "ShippedClass$Reader", name := "reads", desc := "(LShippedClass$Layout;LShippedClass$Finding;)Z" } : Jvm.MethodName) ({ cls := "ShippedClass$Reader", name := "reads", desc := "(LShippedClass$Layout;LShippedClass$Finding;)Z" } : Jvm.MethodName)) ∈ tw_tbl := tw_inK tw_s2 131 rfl rfl
set_option maxRecDepth 20000 in
theorem wd_372 : (Jvm.Cond.code ({ cls := "ShippedClass$Reader", name := "reads", desc := "(LShippedClass$Layout;LShippedClass$Finding;)Z" } : Jvm.MethodName) prog_11_method_2_code (3 : Nat) (Option.some Jvm.ClassFile.FieldType.boolean)) ∈ tw_tbl := tw_inK tw_s2 132 rfl rfl
set_option maxRecDepth 20000 in
theorem wd_373 : (Jvm.Cond.methodLink "ShippedClass$Reader" (30 : Nat) ({ cls := "ShippedClass$Reader", name := "readHead", desc := "()Z" } : Jvm.MethodName)) ∈ tw_tbl := tw_inK tw_s2 133 rfl rfl
set_option maxRecDepth 20000 in
theorem wd_375 : (Jvm.Cond.instanceMethod ({ cls := "ShippedClass$Reader", name := "readHead", desc := "()Z" } : Jvm.MethodName)) ∈ tw_tbl := tw_inK tw_s2 135 rfl rfl
set_option maxRecDepth 20000 in
theorem wd_376 : (Jvm.Cond.code ({ cls := "ShippedClass$Reader", name := "readHead", desc := "()Z" } : Jvm.MethodName) prog_11_method_5_code (2 : Nat) (Option.some Jvm.ClassFile.FieldType.boolean)) ∈ tw_tbl := tw_inK tw_s2 136 rfl rfl
set_option maxRecDepth 20000 in
theorem wd_377 : (Jvm.Cond.constantLong "ShippedClass$Reader" (67 : Nat) (4 : Int64)) ∈ tw_tbl := tw_inK tw_s2 137 rfl rfl
set_option maxRecDepth 20000 in
theorem wd_378 : (Jvm.Cond.methodLink "ShippedClass$Reader" (63 : Nat) ({ cls := "ShippedClass$Reader", name := "passes", desc := "(J)Z" } : Jvm.MethodName)) ∈ tw_tbl := tw_inK tw_s2 138 rfl rfl
set_option maxRecDepth 20000 in
theorem wd_380 : (Jvm.Cond.instanceMethod ({ cls := "ShippedClass$Reader", name := "passes", desc := "(J)Z" } : Jvm.MethodName)) ∈ tw_tbl := tw_inK tw_s2 140 rfl rfl
set_option maxRecDepth 20000 in
theorem wd_381 : (Jvm.Cond.code ({ cls := "ShippedClass$Reader", name := "passes", desc := "(J)Z" } : Jvm.MethodName) prog_11_method_3_code (3 : Nat) (Option.some Jvm.ClassFile.FieldType.boolean)) ∈ tw_tbl := tw_inK tw_s2 141 rfl rfl
set_option maxRecDepth 20000 in
theorem wd_382 : (Jvm.Cond.methodLink "ShippedClass$Reader" (59 : Nat) ({ cls := "ShippedClass$Image", name := "holds", desc := "(IJ)Z" } : Jvm.MethodName)) ∈ tw_tbl := tw_inK tw_s2 142 rfl rfl
set_option maxRecDepth 20000 in
theorem wd_383 : (Jvm.Cond.instanceMethod ({ cls := "ShippedClass$Image", name := "holds", desc := "(IJ)Z" } : Jvm.MethodName)) ∈ tw_tbl := tw_inK tw_s2 143 rfl rfl
set_option maxRecDepth 20000 in
theorem wd_384 : (Jvm.Cond.selects "ShippedClass$Image" ({ cls := "ShippedClass$Image", name := "holds", desc := "(IJ)Z" } : Jvm.MethodName) ({ cls := "ShippedClass$Image", name := "holds", desc := "(IJ)Z" } : Jvm.MethodName)) ∈ tw_tbl := tw_inK tw_s2 144 rfl rfl
set_option maxRecDepth 20000 in
theorem wd_385 : (Jvm.Cond.code ({ cls := "ShippedClass$Image", name := "holds", desc := "(IJ)Z" } : Jvm.MethodName) prog_5_method_8_code (4 : Nat) (Option.some Jvm.ClassFile.FieldType.boolean)) ∈ tw_tbl := tw_inK tw_s2 145 rfl rfl
set_option maxRecDepth 20000 in
theorem wd_386 : (Jvm.Cond.methodLink "ShippedClass$Reader" (53 : Nat) ({ cls := "ShippedClass$Finding", name := "tell", desc := "(II)Z" } : Jvm.MethodName)) ∈ tw_tbl := tw_inK tw_s2 146 rfl rfl
set_option maxRecDepth 20000 in
theorem wd_387 : (Jvm.Cond.instanceMethod ({ cls := "ShippedClass$Finding", name := "tell", desc := "(II)Z" } : Jvm.MethodName)) ∈ tw_tbl := tw_inK tw_s2 147 rfl rfl
set_option maxRecDepth 20000 in
theorem wd_388 : (Jvm.Cond.selects "ShippedClass$Finding" ({ cls := "ShippedClass$Finding", name := "tell", desc := "(II)Z" } : Jvm.MethodName) ({ cls := "ShippedClass$Finding", name := "tell", desc := "(II)Z" } : Jvm.MethodName)) ∈ tw_tbl := tw_inK tw_s2 148 rfl rfl
set_option maxRecDepth 20000 in
theorem wd_389 : (Jvm.Cond.code ({ cls := "ShippedClass$Finding", name := "tell", desc := "(II)Z" } : Jvm.MethodName) prog_2_method_3_code (3 : Nat) (Option.some Jvm.ClassFile.FieldType.boolean)) ∈ tw_tbl := tw_inK tw_s2 149 rfl rfl
set_option maxRecDepth 20000 in
theorem wd_390 : (Jvm.Cond.methodLink "ShippedClass$Reader" (69 : Nat) ({ cls := "ShippedClass$Image", name := "fourAt", desc := "(I)J" } : Jvm.MethodName)) ∈ tw_tbl := tw_inK tw_s2 150 rfl rfl
set_option maxRecDepth 20000 in
theorem wd_391 : (Jvm.Cond.instanceMethod ({ cls := "ShippedClass$Image", name := "fourAt", desc := "(I)J" } : Jvm.MethodName)) ∈ tw_tbl := tw_inK tw_s2 151 rfl rfl
set_option maxRecDepth 20000 in
theorem wd_392 : (Jvm.Cond.selects "ShippedClass$Image" ({ cls := "ShippedClass$Image", name := "fourAt", desc := "(I)J" } : Jvm.MethodName) ({ cls := "ShippedClass$Image", name := "fourAt", desc := "(I)J" } : Jvm.MethodName)) ∈ tw_tbl := tw_inK tw_s2 152 rfl rfl
set_option maxRecDepth 20000 in
theorem wd_393 : (Jvm.Cond.code ({ cls := "ShippedClass$Image", name := "fourAt", desc := "(I)J" } : Jvm.MethodName) prog_5_method_7_code (4 : Nat) (Option.some Jvm.ClassFile.FieldType.long)) ∈ tw_tbl := tw_inK tw_s2 153 rfl rfl
set_option maxRecDepth 20000 in
theorem wd_394 : (Jvm.Cond.methodLink "ShippedClass$Image" (25 : Nat) ({ cls := "ShippedClass$Image", name := "oneAt", desc := "(I)I" } : Jvm.MethodName)) ∈ tw_tbl := tw_inK tw_s2 154 rfl rfl
set_option maxRecDepth 20000 in
theorem wd_395 : (Jvm.Cond.instanceMethod ({ cls := "ShippedClass$Image", name := "oneAt", desc := "(I)I" } : Jvm.MethodName)) ∈ tw_tbl := tw_inK tw_s2 155 rfl rfl
set_option maxRecDepth 20000 in
theorem wd_396 : (Jvm.Cond.selects "ShippedClass$Image" ({ cls := "ShippedClass$Image", name := "oneAt", desc := "(I)I" } : Jvm.MethodName) ({ cls := "ShippedClass$Image", name := "oneAt", desc := "(I)I" } : Jvm.MethodName)) ∈ tw_tbl := tw_inK tw_s2 156 rfl rfl
set_option maxRecDepth 20000 in
theorem wd_397 : (Jvm.Cond.code ({ cls := "ShippedClass$Image", name := "oneAt", desc := "(I)I" } : Jvm.MethodName) prog_5_method_5_code (2 : Nat) (Option.some Jvm.ClassFile.FieldType.int)) ∈ tw_tbl := tw_inK tw_s2 157 rfl rfl
set_option maxRecDepth 20000 in
theorem wd_398 : (Jvm.Cond.constantLong "ShippedClass$Reader" (73 : Nat) (3405691582 : Int64)) ∈ tw_tbl := tw_inK tw_s2 158 rfl rfl
set_option maxRecDepth 20000 in
theorem wd_399 : (Jvm.Cond.methodLink "ShippedClass$Reader" (75 : Nat) ({ cls := "ShippedClass$Reader", name := "passesNumbers", desc := "(II)Z" } : Jvm.MethodName)) ∈ tw_tbl := tw_inK tw_s2 159 rfl rfl
set_option maxRecDepth 20000 in
theorem wd_401 : (Jvm.Cond.instanceMethod ({ cls := "ShippedClass$Reader", name := "passesNumbers", desc := "(II)Z" } : Jvm.MethodName)) ∈ tw_tbl := tw_inK tw_s2 161 rfl rfl
set_option maxRecDepth 20000 in
theorem wd_402 : (Jvm.Cond.code ({ cls := "ShippedClass$Reader", name := "passesNumbers", desc := "(II)Z" } : Jvm.MethodName) prog_11_method_4_code (4 : Nat) (Option.some Jvm.ClassFile.FieldType.boolean)) ∈ tw_tbl := tw_inK tw_s2 162 rfl rfl
set_option maxRecDepth 20000 in
theorem wd_403 : (Jvm.Cond.methodLink "ShippedClass$Reader" (78 : Nat) ({ cls := "ShippedClass$Image", name := "twoAt", desc := "(I)I" } : Jvm.MethodName)) ∈ tw_tbl := tw_inK tw_s2 163 rfl rfl
set_option maxRecDepth 20000 in
theorem wd_404 : (Jvm.Cond.instanceMethod ({ cls := "ShippedClass$Image", name := "twoAt", desc := "(I)I" } : Jvm.MethodName)) ∈ tw_tbl := tw_inK tw_s2 164 rfl rfl
set_option maxRecDepth 20000 in
theorem wd_405 : (Jvm.Cond.selects "ShippedClass$Image" ({ cls := "ShippedClass$Image", name := "twoAt", desc := "(I)I" } : Jvm.MethodName) ({ cls := "ShippedClass$Image", name := "twoAt", desc := "(I)I" } : Jvm.MethodName)) ∈ tw_tbl := tw_inK tw_s2 165 rfl rfl
set_option maxRecDepth 20000 in
theorem wd_406 : (Jvm.Cond.code ({ cls := "ShippedClass$Image", name := "twoAt", desc := "(I)I" } : Jvm.MethodName) prog_5_method_6_code (2 : Nat) (Option.some Jvm.ClassFile.FieldType.int)) ∈ tw_tbl := tw_inK tw_s2 166 rfl rfl
set_option maxRecDepth 20000 in
theorem wd_407 : (Jvm.Cond.constantLong "ShippedClass$Reader" (85 : Nat) (2 : Int64)) ∈ tw_tbl := tw_inK tw_s2 167 rfl rfl
set_option maxRecDepth 20000 in
theorem wd_408 : (Jvm.Cond.methodLink "ShippedClass$Reader" (34 : Nat) ({ cls := "ShippedClass$Reader", name := "readConstants", desc := "()Z" } : Jvm.MethodName)) ∈ tw_tbl := tw_inK tw_s2 168 rfl rfl
set_option maxRecDepth 20000 in
theorem wd_410 : (Jvm.Cond.instanceMethod ({ cls := "ShippedClass$Reader", name := "readConstants", desc := "()Z" } : Jvm.MethodName)) ∈ tw_tbl := tw_inK tw_s2 170 rfl rfl
set_option maxRecDepth 20000 in
theorem wd_411 : (Jvm.Cond.code ({ cls := "ShippedClass$Reader", name := "readConstants", desc := "()Z" } : Jvm.MethodName) prog_11_method_6_code (4 : Nat) (Option.some Jvm.ClassFile.FieldType.boolean)) ∈ tw_tbl := tw_inK tw_s2 171 rfl rfl
set_option maxRecDepth 20000 in
theorem wd_412 : (Jvm.Cond.methodLink "ShippedClass$Reader" (87 : Nat) ({ cls := "ShippedClass$Image", name := "oneAt", desc := "(I)I" } : Jvm.MethodName)) ∈ tw_tbl := tw_inK tw_s2 172 rfl rfl
set_option maxRecDepth 20000 in
theorem wd_413 : (Jvm.Cond.methodLink "ShippedClass$Reader" (90 : Nat) ({ cls := "ShippedClass$Reader", name := "readConstant", desc := "(I)Z" } : Jvm.MethodName)) ∈ tw_tbl := tw_inK tw_s2 173 rfl rfl
set_option maxRecDepth 20000 in
theorem wd_415 : (Jvm.Cond.instanceMethod ({ cls := "ShippedClass$Reader", name := "readConstant", desc := "(I)Z" } : Jvm.MethodName)) ∈ tw_tbl := tw_inK tw_s2 175 rfl rfl
set_option maxRecDepth 20000 in
theorem wd_416 : (Jvm.Cond.code ({ cls := "ShippedClass$Reader", name := "readConstant", desc := "(I)Z" } : Jvm.MethodName) prog_11_method_7_code (2 : Nat) (Option.some Jvm.ClassFile.FieldType.boolean)) ∈ tw_tbl := tw_inK tw_s2 176 rfl rfl
set_option maxRecDepth 20000 in
theorem wd_417 : (Jvm.Cond.methodLink "ShippedClass$Reader" (97 : Nat) ({ cls := "ShippedClass$Reader", name := "readText", desc := "()Z" } : Jvm.MethodName)) ∈ tw_tbl := tw_inK tw_s2 177 rfl rfl
set_option maxRecDepth 20000 in
theorem wd_419 : (Jvm.Cond.instanceMethod ({ cls := "ShippedClass$Reader", name := "readText", desc := "()Z" } : Jvm.MethodName)) ∈ tw_tbl := tw_inK tw_s2 179 rfl rfl
set_option maxRecDepth 20000 in
theorem wd_420 : (Jvm.Cond.code ({ cls := "ShippedClass$Reader", name := "readText", desc := "()Z" } : Jvm.MethodName) prog_11_method_8_code (5 : Nat) (Option.some Jvm.ClassFile.FieldType.boolean)) ∈ tw_tbl := tw_inK tw_s2 180 rfl rfl
set_option maxRecDepth 20000 in
theorem wd_421 : (Jvm.Cond.methodLink "ShippedClass$Reader" (93 : Nat) ({ cls := "ShippedClass$Layout", name := "addConstant", desc := "(III)V" } : Jvm.MethodName)) ∈ tw_tbl := tw_inK tw_s2 181 rfl rfl
set_option maxRecDepth 20000 in
theorem wd_422 : (Jvm.Cond.instanceMethod ({ cls := "ShippedClass$Layout", name := "addConstant", desc := "(III)V" } : Jvm.MethodName)) ∈ tw_tbl := tw_inK tw_s2 182 rfl rfl
set_option maxRecDepth 20000 in
theorem wd_423 : (Jvm.Cond.selects "ShippedClass$Layout" ({ cls := "ShippedClass$Layout", name := "addConstant", desc := "(III)V" } : Jvm.MethodName) ({ cls := "ShippedClass$Layout", name := "addConstant", desc := "(III)V" } : Jvm.MethodName)) ∈ tw_tbl := tw_inK tw_s2 183 rfl rfl
set_option maxRecDepth 20000 in
theorem wd_424 : (Jvm.Cond.code ({ cls := "ShippedClass$Layout", name := "addConstant", desc := "(III)V" } : Jvm.MethodName) prog_6_method_3_code (4 : Nat) (Option.none : Option Jvm.ClassFile.FieldType)) ∈ tw_tbl := tw_inK tw_s2 184 rfl rfl
set_option maxRecDepth 20000 in
theorem wd_425 : (Jvm.Cond.methodLink "ShippedClass$Layout" (73 : Nat) ({ cls := "ShippedClass$Image", name := "twoAt", desc := "(I)I" } : Jvm.MethodName)) ∈ tw_tbl := tw_inK tw_s2 185 rfl rfl
set_option maxRecDepth 20000 in
theorem wd_426 : (Jvm.Cond.methodLink "ShippedClass$Reader" (37 : Nat) ({ cls := "ShippedClass$Reader", name := "readClasses", desc := "()Z" } : Jvm.MethodName)) ∈ tw_tbl := tw_inK tw_s2 186 rfl rfl
set_option maxRecDepth 20000 in
theorem wd_428 : (Jvm.Cond.instanceMethod ({ cls := "ShippedClass$Reader", name := "readClasses", desc := "()Z" } : Jvm.MethodName)) ∈ tw_tbl := tw_inK tw_s2 188 rfl rfl
set_option maxRecDepth 20000 in
theorem wd_429 : (Jvm.Cond.code ({ cls := "ShippedClass$Reader", name := "readClasses", desc := "()Z" } : Jvm.MethodName) prog_11_method_9_code (1 : Nat) (Option.some Jvm.ClassFile.FieldType.boolean)) ∈ tw_tbl := tw_inK tw_s2 189 rfl rfl
set_option maxRecDepth 20000 in
theorem wd_430 : (Jvm.Cond.methodLink "ShippedClass$Reader" (40 : Nat) ({ cls := "ShippedClass$Reader", name := "readMembers", desc := "(Z)Z" } : Jvm.MethodName)) ∈ tw_tbl := tw_inK tw_s2 190 rfl rfl
set_option maxRecDepth 20000 in
theorem wd_432 : (Jvm.Cond.instanceMethod ({ cls := "ShippedClass$Reader", name := "readMembers", desc := "(Z)Z" } : Jvm.MethodName)) ∈ tw_tbl := tw_inK tw_s2 192 rfl rfl
set_option maxRecDepth 20000 in
theorem wd_433 : (Jvm.Cond.code ({ cls := "ShippedClass$Reader", name := "readMembers", desc := "(Z)Z" } : Jvm.MethodName) prog_11_method_10_code (5 : Nat) (Option.some Jvm.ClassFile.FieldType.boolean)) ∈ tw_tbl := tw_inK tw_s2 193 rfl rfl
set_option maxRecDepth 20000 in
theorem wd_434 : (Jvm.Cond.methodLink "ShippedClass$Reader" (109 : Nat) ({ cls := "ShippedClass$Layout", name := "addMember", desc := "(ZI)V" } : Jvm.MethodName)) ∈ tw_tbl := tw_inK tw_s2 194 rfl rfl
set_option maxRecDepth 20000 in
theorem wd_435 : (Jvm.Cond.instanceMethod ({ cls := "ShippedClass$Layout", name := "addMember", desc := "(ZI)V" } : Jvm.MethodName)) ∈ tw_tbl := tw_inK tw_s2 195 rfl rfl
set_option maxRecDepth 20000 in
theorem wd_436 : (Jvm.Cond.selects "ShippedClass$Layout" ({ cls := "ShippedClass$Layout", name := "addMember", desc := "(ZI)V" } : Jvm.MethodName) ({ cls := "ShippedClass$Layout", name := "addMember", desc := "(ZI)V" } : Jvm.MethodName)) ∈ tw_tbl := tw_inK tw_s2 196 rfl rfl
set_option maxRecDepth 20000 in
theorem wd_437 : (Jvm.Cond.code ({ cls := "ShippedClass$Layout", name := "addMember", desc := "(ZI)V" } : Jvm.MethodName) prog_6_method_4_code (3 : Nat) (Option.none : Option Jvm.ClassFile.FieldType)) ∈ tw_tbl := tw_inK tw_s2 197 rfl rfl
set_option maxRecDepth 20000 in
theorem wd_438 : (Jvm.Cond.methodLink "ShippedClass$Reader" (44 : Nat) ({ cls := "ShippedClass$Reader", name := "readAttributes", desc := "(I)Z" } : Jvm.MethodName)) ∈ tw_tbl := tw_inK tw_s2 198 rfl rfl
set_option maxRecDepth 20000 in
theorem wd_440 : (Jvm.Cond.instanceMethod ({ cls := "ShippedClass$Reader", name := "readAttributes", desc := "(I)Z" } : Jvm.MethodName)) ∈ tw_tbl := tw_inK tw_s2 200 rfl rfl
set_option maxRecDepth 20000 in
theorem wd_441 : (Jvm.Cond.code ({ cls := "ShippedClass$Reader", name := "readAttributes", desc := "(I)Z" } : Jvm.MethodName) prog_11_method_11_code (5 : Nat) (Option.some Jvm.ClassFile.FieldType.boolean)) ∈ tw_tbl := tw_inK tw_s2 201 rfl rfl
set_option maxRecDepth 20000 in
theorem wd_442 : (Jvm.Cond.methodLink "ShippedClass$Reader" (113 : Nat) ({ cls := "ShippedClass$Reader", name := "readAttribute", desc := "()Z" } : Jvm.MethodName)) ∈ tw_tbl := tw_inK tw_s2 202 rfl rfl
set_option maxRecDepth 20000 in
theorem wd_444 : (Jvm.Cond.instanceMethod ({ cls := "ShippedClass$Reader", name := "readAttribute", desc := "()Z" } : Jvm.MethodName)) ∈ tw_tbl := tw_inK tw_s2 204 rfl rfl
set_option maxRecDepth 20000 in
theorem wd_445 : (Jvm.Cond.code ({ cls := "ShippedClass$Reader", name := "readAttribute", desc := "()Z" } : Jvm.MethodName) prog_11_method_12_code (2 : Nat) (Option.some Jvm.ClassFile.FieldType.boolean)) ∈ tw_tbl := tw_inK tw_s2 205 rfl rfl
set_option maxRecDepth 20000 in
theorem wd_446 : (Jvm.Cond.methodLink "ShippedClass$Reader" (125 : Nat) ({ cls := "ShippedClass$Layout", name := "tagOf", desc := "(I)I" } : Jvm.MethodName)) ∈ tw_tbl := tw_inK tw_s2 206 rfl rfl
set_option maxRecDepth 20000 in
theorem wd_447 : (Jvm.Cond.instanceMethod ({ cls := "ShippedClass$Layout", name := "tagOf", desc := "(I)I" } : Jvm.MethodName)) ∈ tw_tbl := tw_inK tw_s2 207 rfl rfl
set_option maxRecDepth 20000 in
theorem wd_448 : (Jvm.Cond.selects "ShippedClass$Layout" ({ cls := "ShippedClass$Layout", name := "tagOf", desc := "(I)I" } : Jvm.MethodName) ({ cls := "ShippedClass$Layout", name := "tagOf", desc := "(I)I" } : Jvm.MethodName)) ∈ tw_tbl := tw_inK tw_s2 208 rfl rfl
set_option maxRecDepth 20000 in
theorem wd_449 : (Jvm.Cond.code ({ cls := "ShippedClass$Layout", name := "tagOf", desc := "(I)I" } : Jvm.MethodName) prog_6_method_5_code (2 : Nat) (Option.some Jvm.ClassFile.FieldType.int)) ∈ tw_tbl := tw_inK tw_s2 209 rfl rfl
set_option maxRecDepth 20000 in
theorem wd_451 : (Jvm.Cond.methodLink "ShippedClass$Reader" (118 : Nat) ({ cls := "ShippedClass$Layout", name := "spells", desc := "(ILjava/lang/String;)Z" } : Jvm.MethodName)) ∈ tw_tbl := tw_inK tw_s2 211 rfl rfl
set_option maxRecDepth 20000 in
theorem wd_452 : (Jvm.Cond.instanceMethod ({ cls := "ShippedClass$Layout", name := "spells", desc := "(ILjava/lang/String;)Z" } : Jvm.MethodName)) ∈ tw_tbl := tw_inK tw_s2 212 rfl rfl
set_option maxRecDepth 20000 in
theorem wd_453 : (Jvm.Cond.selects "ShippedClass$Layout" ({ cls := "ShippedClass$Layout", name := "spells", desc := "(ILjava/lang/String;)Z" } : Jvm.MethodName) ({ cls := "ShippedClass$Layout", name := "spells", desc := "(ILjava/lang/String;)Z" } : Jvm.MethodName)) ∈ tw_tbl := tw_inK tw_s2 213 rfl rfl
set_option maxRecDepth 20000 in
theorem wd_454 : (Jvm.Cond.code ({ cls := "ShippedClass$Layout", name := "spells", desc := "(ILjava/lang/String;)Z" } : Jvm.MethodName) prog_6_method_26_code (5 : Nat) (Option.some Jvm.ClassFile.FieldType.boolean)) ∈ tw_tbl := tw_inK tw_s2 214 rfl rfl
set_option maxRecDepth 20000 in
theorem wd_455 : (Jvm.Cond.methodLink "ShippedClass$Layout" (77 : Nat) ({ cls := "ShippedClass$Layout", name := "placeOf", desc := "(I)I" } : Jvm.MethodName)) ∈ tw_tbl := tw_inK tw_s2 215 rfl rfl
set_option maxRecDepth 20000 in
theorem wd_456 : (Jvm.Cond.instanceMethod ({ cls := "ShippedClass$Layout", name := "placeOf", desc := "(I)I" } : Jvm.MethodName)) ∈ tw_tbl := tw_inK tw_s2 216 rfl rfl
set_option maxRecDepth 20000 in
theorem wd_457 : (Jvm.Cond.selects "ShippedClass$Layout" ({ cls := "ShippedClass$Layout", name := "placeOf", desc := "(I)I" } : Jvm.MethodName) ({ cls := "ShippedClass$Layout", name := "placeOf", desc := "(I)I" } : Jvm.MethodName)) ∈ tw_tbl := tw_inK tw_s2 217 rfl rfl
set_option maxRecDepth 20000 in
theorem wd_458 : (Jvm.Cond.code ({ cls := "ShippedClass$Layout", name := "placeOf", desc := "(I)I" } : Jvm.MethodName) prog_6_method_6_code (2 : Nat) (Option.some Jvm.ClassFile.FieldType.int)) ∈ tw_tbl := tw_inK tw_s2 218 rfl rfl
set_option maxRecDepth 20000 in
theorem wd_459 : (Jvm.Cond.methodLink "ShippedClass$Layout" (80 : Nat) ({ cls := "ShippedClass$Layout", name := "firstOf", desc := "(I)I" } : Jvm.MethodName)) ∈ tw_tbl := tw_inK tw_s2 219 rfl rfl
set_option maxRecDepth 20000 in
theorem wd_460 : (Jvm.Cond.instanceMethod ({ cls := "ShippedClass$Layout", name := "firstOf", desc := "(I)I" } : Jvm.MethodName)) ∈ tw_tbl := tw_inK tw_s2 220 rfl rfl
set_option maxRecDepth 20000 in
theorem wd_461 : (Jvm.Cond.selects "ShippedClass$Layout" ({ cls := "ShippedClass$Layout", name := "firstOf", desc := "(I)I" } : Jvm.MethodName) ({ cls := "ShippedClass$Layout", name := "firstOf", desc := "(I)I" } : Jvm.MethodName)) ∈ tw_tbl := tw_inK tw_s2 221 rfl rfl
set_option maxRecDepth 20000 in
theorem wd_462 : (Jvm.Cond.code ({ cls := "ShippedClass$Layout", name := "firstOf", desc := "(I)I" } : Jvm.MethodName) prog_6_method_7_code (2 : Nat) (Option.some Jvm.ClassFile.FieldType.int)) ∈ tw_tbl := tw_inK tw_s2 222 rfl rfl
set_option maxRecDepth 20000 in
theorem wd_463 : (Jvm.Cond.methodLink "ShippedClass$Layout" (121 : Nat) ({ cls := "java/lang/String", name := "length", desc := "()I" } : Jvm.MethodName)) ∈ tw_tbl := tw_inK tw_s2 223 rfl rfl
set_option maxRecDepth 20000 in
theorem wd_464 : (Jvm.Cond.instanceMethod ({ cls := "java/lang/String", name := "length", desc := "()I" } : Jvm.MethodName)) ∈ tw_tbl := tw_inK tw_s2 224 rfl rfl
set_option maxRecDepth 20000 in
theorem wd_465 : (Jvm.Cond.selects "java/lang/String" ({ cls := "java/lang/String", name := "length", desc := "()I" } : Jvm.MethodName) ({ cls := "java/lang/String", name := "length", desc := "()I" } : Jvm.MethodName)) ∈ tw_tbl := tw_inK tw_s2 225 rfl rfl
set_option maxRecDepth 20000 in
theorem wd_466 : (Jvm.Cond.code ({ cls := "java/lang/String", name := "length", desc := "()I" } : Jvm.MethodName) prog_22_method_54_code (1 : Nat) (Option.some Jvm.ClassFile.FieldType.int)) ∈ tw_tbl := tw_inK tw_s2 226 rfl rfl
set_option maxRecDepth 20000 in
theorem wd_467 : (Jvm.Cond.methodLink "java/lang/String" (335 : Nat) ({ cls := "java/lang/String", name := "coder", desc := "()B" } : Jvm.MethodName)) ∈ tw_tbl := tw_inK tw_s2 227 rfl rfl
set_option maxRecDepth 20000 in
theorem wd_468 : (Jvm.Cond.instanceMethod ({ cls := "java/lang/String", name := "coder", desc := "()B" } : Jvm.MethodName)) ∈ tw_tbl := tw_inK tw_s2 228 rfl rfl
set_option maxRecDepth 20000 in
theorem wd_469 : (Jvm.Cond.selects "java/lang/String" ({ cls := "java/lang/String", name := "coder", desc := "()B" } : Jvm.MethodName) ({ cls := "java/lang/String", name := "coder", desc := "()B" } : Jvm.MethodName)) ∈ tw_tbl := tw_inK tw_s2 229 rfl rfl
set_option maxRecDepth 20000 in
theorem wd_470 : (Jvm.Cond.code ({ cls := "java/lang/String", name := "coder", desc := "()B" } : Jvm.MethodName) prog_22_method_152_code (1 : Nat) (Option.some Jvm.ClassFile.FieldType.byte)) ∈ tw_tbl := tw_inK tw_s2 230 rfl rfl
set_option maxRecDepth 20000 in
theorem wd_471 : (Jvm.Cond.fieldLink "java/lang/String" (38 : Nat) "java/lang/String" "COMPACT_STRINGS" "Z") ∈ tw_tbl := tw_inK tw_s2 231 rfl rfl
set_option maxRecDepth 20000 in
theorem wd_473 : (Jvm.Cond.methodLink "ShippedClass$Layout" (118 : Nat) ({ cls := "ShippedClass$Image", name := "oneAt", desc := "(I)I" } : Jvm.MethodName)) ∈ tw_tbl := tw_inK tw_s2 233 rfl rfl
set_option maxRecDepth 20000 in
theorem wd_474 : (Jvm.Cond.methodLink "ShippedClass$Layout" (127 : Nat) ({ cls := "java/lang/String", name := "charAt", desc := "(I)C" } : Jvm.MethodName)) ∈ tw_tbl := tw_inK tw_s2 234 rfl rfl
set_option maxRecDepth 20000 in
theorem wd_475 : (Jvm.Cond.instanceMethod ({ cls := "java/lang/String", name := "charAt", desc := "(I)C" } : Jvm.MethodName)) ∈ tw_tbl := tw_inK tw_s2 235 rfl rfl
set_option maxRecDepth 20000 in
theorem wd_476 : (Jvm.Cond.selects "java/lang/String" ({ cls := "java/lang/String", name := "charAt", desc := "(I)C" } : Jvm.MethodName) ({ cls := "java/lang/String", name := "charAt", desc := "(I)C" } : Jvm.MethodName)) ∈ tw_tbl := tw_inK tw_s2 236 rfl rfl
set_option maxRecDepth 20000 in
theorem wd_477 : (Jvm.Cond.code ({ cls := "java/lang/String", name := "charAt", desc := "(I)C" } : Jvm.MethodName) prog_22_method_56_code (2 : Nat) (Option.some Jvm.ClassFile.FieldType.char)) ∈ tw_tbl := tw_inK tw_s2 237 rfl rfl
set_option maxRecDepth 20000 in
theorem wd_478 : (Jvm.Cond.methodLink "java/lang/String" (492 : Nat) ({ cls := "java/lang/String", name := "isLatin1", desc := "()Z" } : Jvm.MethodName)) ∈ tw_tbl := tw_inK tw_s2 238 rfl rfl
set_option maxRecDepth 20000 in
theorem wd_479 : (Jvm.Cond.instanceMethod ({ cls := "java/lang/String", name := "isLatin1", desc := "()Z" } : Jvm.MethodName)) ∈ tw_tbl := tw_inK tw_s2 239 rfl rfl
set_option maxRecDepth 20000 in
theorem wd_480 : (Jvm.Cond.selects "java/lang/String" ({ cls := "java/lang/String", name := "isLatin1", desc := "()Z" } : Jvm.MethodName) ({ cls := "java/lang/String", name := "isLatin1", desc := "()Z" } : Jvm.MethodName)) ∈ tw_tbl := tw_inK tw_s3 0 rfl rfl
set_option maxRecDepth 20000 in
theorem wd_481 : (Jvm.Cond.code ({ cls := "java/lang/String", name := "isLatin1", desc := "()Z" } : Jvm.MethodName) prog_22_method_154_code (1 : Nat) (Option.some Jvm.ClassFile.FieldType.boolean)) ∈ tw_tbl := tw_inK tw_s3 1 rfl rfl
set_option maxRecDepth 20000 in
theorem wd_482 : (Jvm.Cond.methodLink "java/lang/String" (495 : Nat) ({ cls := "java/lang/StringLatin1", name := "charAt", desc := "([BI)C" } : Jvm.MethodName)) ∈ tw_tbl := tw_inK tw_s3 2 rfl rfl
set_option maxRecDepth 20000 in
theorem wd_483 : (Jvm.Cond.static ({ cls := "java/lang/StringLatin1", name := "charAt", desc := "([BI)C" } : Jvm.MethodName)) ∈ tw_tbl := tw_inK tw_s3 3 rfl rfl
set_option maxRecDepth 20000 in
theorem wd_484 : (Jvm.Cond.code ({ cls := "java/lang/StringLatin1", name := "charAt", desc := "([BI)C" } : Jvm.MethodName) prog_23_method_2_code (2 : Nat) (Option.some Jvm.ClassFile.FieldType.char)) ∈ tw_tbl := tw_inK tw_s3 4 rfl rfl
set_option maxRecDepth 20000 in
theorem wd_485 : (Jvm.Cond.methodLink "java/lang/StringLatin1" (9 : Nat) ({ cls := "java/lang/String", name := "checkIndex", desc := "(II)V" } : Jvm.MethodName)) ∈ tw_tbl := tw_inK tw_s3 5 rfl rfl
set_option maxRecDepth 20000 in
theorem wd_486 : (Jvm.Cond.static ({ cls := "java/lang/String", name := "checkIndex", desc := "(II)V" } : Jvm.MethodName)) ∈ tw_tbl := tw_inK tw_s3 6 rfl rfl
set_option maxRecDepth 20000 in
theorem wd_487 : (Jvm.Cond.code ({ cls := "java/lang/String", name := "checkIndex", desc := "(II)V" } : Jvm.MethodName) prog_22_method_155_code (2 : Nat) (Option.none : Option Jvm.ClassFile.FieldType)) ∈ tw_tbl := tw_inK tw_s3 7 rfl rfl
set_option maxRecDepth 20000 in
theorem wd_488 : (Jvm.Cond.fieldLink "java/lang/String" (1053 : Nat) "jdk/internal/util/Preconditions" "SIOOBE_FORMATTER" "Ljava/util/function/BiFunction;") ∈ tw_tbl := tw_inK tw_s3 8 rfl rfl
set_option maxRecDepth 20000 in
theorem wd_490 : (Jvm.Cond.methodLink "java/lang/String" (1059 : Nat) ({ cls := "jdk/internal/util/Preconditions", name := "checkIndex", desc := "(IILjava/util/function/BiFunction;)I" } : Jvm.MethodName)) ∈ tw_tbl := tw_inK tw_s3 10 rfl rfl
set_option maxRecDepth 20000 in
theorem wd_491 : (Jvm.Cond.static ({ cls := "jdk/internal/util/Preconditions", name := "checkIndex", desc := "(IILjava/util/function/BiFunction;)I" } : Jvm.MethodName)) ∈ tw_tbl := tw_inK tw_s3 11 rfl rfl
set_option maxRecDepth 20000 in
theorem wd_492 : (Jvm.Cond.code ({ cls := "jdk/internal/util/Preconditions", name := "checkIndex", desc := "(IILjava/util/function/BiFunction;)I" } : Jvm.MethodName) prog_28_method_11_code (3 : Nat) (Option.some Jvm.ClassFile.FieldType.int)) ∈ tw_tbl := tw_inK tw_s3 12 rfl rfl
set_option maxRecDepth 20000 in
theorem wd_493 : (Jvm.Cond.methodLink "java/lang/String" (498 : Nat) ({ cls := "java/lang/StringUTF16", name := "charAt", desc := "([BI)C" } : Jvm.MethodName)) ∈ tw_tbl := tw_inK tw_s3 13 rfl rfl
set_option maxRecDepth 20000 in
theorem wd_494 : (Jvm.Cond.static ({ cls := "java/lang/StringUTF16", name := "charAt", desc := "([BI)C" } : Jvm.MethodName)) ∈ tw_tbl := tw_inK tw_s3 14 rfl rfl
set_option maxRecDepth 20000 in
theorem wd_495 : (Jvm.Cond.code ({ cls := "java/lang/StringUTF16", name := "charAt", desc := "([BI)C" } : Jvm.MethodName) prog_24_method_83_code (2 : Nat) (Option.some Jvm.ClassFile.FieldType.char)) ∈ tw_tbl := tw_inK tw_s3 15 rfl rfl
set_option maxRecDepth 20000 in
theorem wd_496 : (Jvm.Cond.methodLink "java/lang/StringUTF16" (67 : Nat) ({ cls := "java/lang/StringUTF16", name := "checkIndex", desc := "(I[B)V" } : Jvm.MethodName)) ∈ tw_tbl := tw_inK tw_s3 16 rfl rfl
set_option maxRecDepth 20000 in
theorem wd_497 : (Jvm.Cond.static ({ cls := "java/lang/StringUTF16", name := "checkIndex", desc := "(I[B)V" } : Jvm.MethodName)) ∈ tw_tbl := tw_inK tw_s3 17 rfl rfl
set_option maxRecDepth 20000 in
theorem wd_498 : (Jvm.Cond.code ({ cls := "java/lang/StringUTF16", name := "checkIndex", desc := "(I[B)V" } : Jvm.MethodName) prog_24_method_91_code (2 : Nat) (Option.none : Option Jvm.ClassFile.FieldType)) ∈ tw_tbl := tw_inK tw_s3 18 rfl rfl
set_option maxRecDepth 20000 in
theorem wd_499 : (Jvm.Cond.methodLink "java/lang/StringUTF16" (48 : Nat) ({ cls := "java/lang/StringUTF16", name := "length", desc := "([B)I" } : Jvm.MethodName)) ∈ tw_tbl := tw_inK tw_s3 19 rfl rfl
set_option maxRecDepth 20000 in
theorem wd_500 : (Jvm.Cond.static ({ cls := "java/lang/StringUTF16", name := "length", desc := "([B)I" } : Jvm.MethodName)) ∈ tw_tbl := tw_inK tw_s3 20 rfl rfl
set_option maxRecDepth 20000 in
theorem wd_501 : (Jvm.Cond.code ({ cls := "java/lang/StringUTF16", name := "length", desc := "([B)I" } : Jvm.MethodName) prog_24_method_6_code (1 : Nat) (Option.some Jvm.ClassFile.FieldType.int)) ∈ tw_tbl := tw_inK tw_s3 21 rfl rfl
set_option maxRecDepth 20000 in
theorem wd_502 : (Jvm.Cond.methodLink "java/lang/StringUTF16" (414 : Nat) ({ cls := "java/lang/String", name := "checkIndex", desc := "(II)V" } : Jvm.MethodName)) ∈ tw_tbl := tw_inK tw_s3 22 rfl rfl
set_option maxRecDepth 20000 in
theorem wd_503 : (Jvm.Cond.methodLink "java/lang/StringUTF16" (71 : Nat) ({ cls := "java/lang/StringUTF16", name := "getChar", desc := "([BI)C" } : Jvm.MethodName)) ∈ tw_tbl := tw_inK tw_s3 23 rfl rfl
set_option maxRecDepth 20000 in
theorem wd_504 : (Jvm.Cond.static ({ cls := "java/lang/StringUTF16", name := "getChar", desc := "([BI)C" } : Jvm.MethodName)) ∈ tw_tbl := tw_inK tw_s3 24 rfl rfl
set_option maxRecDepth 20000 in
theorem wd_505 : (Jvm.Cond.code ({ cls := "java/lang/StringUTF16", name := "getChar", desc := "([BI)C" } : Jvm.MethodName) prog_24_method_5_code (2 : Nat) (Option.some Jvm.ClassFile.FieldType.char)) ∈ tw_tbl := tw_inK tw_s3 25 rfl rfl
set_option maxRecDepth 20000 in
theorem wd_506 : (Jvm.Cond.fieldLink "java/lang/StringUTF16" (44 : Nat) "java/lang/StringUTF16" "$assertionsDisabled" "Z") ∈ tw_tbl := tw_inK tw_s3 26 rfl rfl
set_option maxRecDepth 20000 in
theorem wd_508 : (Jvm.Cond.fieldLink "java/lang/StringUTF16" (59 : Nat) "java/lang/StringUTF16" "HI_BYTE_SHIFT" "I") ∈ tw_tbl := tw_inK tw_s3 28 rfl rfl
set_option maxRecDepth 20000 in
theorem wd_510 : (Jvm.Cond.fieldLink "java/lang/StringUTF16" (63 : Nat) "java/lang/StringUTF16" "LO_BYTE_SHIFT" "I") ∈ tw_tbl := tw_inK tw_s3 30 rfl rfl
set_option maxRecDepth 20000 in
theorem wd_512 : (Jvm.Cond.methodLink "ShippedClass$Reader" (122 : Nat) ({ cls := "ShippedClass$Reader", name := "readCode", desc := "(II)Z" } : Jvm.MethodName)) ∈ tw_tbl := tw_inK tw_s3 32 rfl rfl
set_option maxRecDepth 20000 in
theorem wd_514 : (Jvm.Cond.instanceMethod ({ cls := "ShippedClass$Reader", name := "readCode", desc := "(II)Z" } : Jvm.MethodName)) ∈ tw_tbl := tw_inK tw_s3 34 rfl rfl
set_option maxRecDepth 20000 in
theorem wd_515 : (Jvm.Cond.code ({ cls := "ShippedClass$Reader", name := "readCode", desc := "(II)Z" } : Jvm.MethodName) prog_11_method_13_code (9 : Nat) (Option.some Jvm.ClassFile.FieldType.boolean)) ∈ tw_tbl := tw_inK tw_s3 35 rfl rfl
set_option maxRecDepth 20000 in
theorem wd_516 : (Jvm.Cond.methodLink "ShippedClass$Reader" (128 : Nat) ({ cls := "ShippedClass$Layout", name := "codeOf", desc := "(I)I" } : Jvm.MethodName)) ∈ tw_tbl := tw_inK tw_s3 36 rfl rfl
set_option maxRecDepth 20000 in
theorem wd_517 : (Jvm.Cond.instanceMethod ({ cls := "ShippedClass$Layout", name := "codeOf", desc := "(I)I" } : Jvm.MethodName)) ∈ tw_tbl := tw_inK tw_s3 37 rfl rfl
set_option maxRecDepth 20000 in
theorem wd_518 : (Jvm.Cond.selects "ShippedClass$Layout" ({ cls := "ShippedClass$Layout", name := "codeOf", desc := "(I)I" } : Jvm.MethodName) ({ cls := "ShippedClass$Layout", name := "codeOf", desc := "(I)I" } : Jvm.MethodName)) ∈ tw_tbl := tw_inK tw_s3 38 rfl rfl
set_option maxRecDepth 20000 in
theorem wd_519 : (Jvm.Cond.code ({ cls := "ShippedClass$Layout", name := "codeOf", desc := "(I)I" } : Jvm.MethodName) prog_6_method_16_code (2 : Nat) (Option.some Jvm.ClassFile.FieldType.int)) ∈ tw_tbl := tw_inK tw_s3 39 rfl rfl
set_option maxRecDepth 20000 in
theorem wd_520 : (Jvm.Cond.methodLink "ShippedClass$Reader" (131 : Nat) ({ cls := "ShippedClass$Layout", name := "addCode", desc := "(II)V" } : Jvm.MethodName)) ∈ tw_tbl := tw_inK tw_s3 40 rfl rfl
set_option maxRecDepth 20000 in
theorem wd_521 : (Jvm.Cond.instanceMethod ({ cls := "ShippedClass$Layout", name := "addCode", desc := "(II)V" } : Jvm.MethodName)) ∈ tw_tbl := tw_inK tw_s3 41 rfl rfl
set_option maxRecDepth 20000 in
theorem wd_522 : (Jvm.Cond.selects "ShippedClass$Layout" ({ cls := "ShippedClass$Layout", name := "addCode", desc := "(II)V" } : Jvm.MethodName) ({ cls := "ShippedClass$Layout", name := "addCode", desc := "(II)V" } : Jvm.MethodName)) ∈ tw_tbl := tw_inK tw_s3 42 rfl rfl
set_option maxRecDepth 20000 in
theorem wd_523 : (Jvm.Cond.code ({ cls := "ShippedClass$Layout", name := "addCode", desc := "(II)V" } : Jvm.MethodName) prog_6_method_17_code (3 : Nat) (Option.none : Option Jvm.ClassFile.FieldType)) ∈ tw_tbl := tw_inK tw_s3 43 rfl rfl
set_option maxRecDepth 20000 in
theorem wd_524 : (Jvm.Cond.methodLink "ShippedClass$Reader" (135 : Nat) ({ cls := "ShippedClass$Reader", name := "behindAttributesOfCode", desc := "(I)I" } : Jvm.MethodName)) ∈ tw_tbl := tw_inK tw_s3 44 rfl rfl
set_option maxRecDepth 20000 in
theorem wd_526 : (Jvm.Cond.instanceMethod ({ cls := "ShippedClass$Reader", name := "behindAttributesOfCode", desc := "(I)I" } : Jvm.MethodName)) ∈ tw_tbl := tw_inK tw_s3 46 rfl rfl
set_option maxRecDepth 20000 in
theorem wd_527 : (Jvm.Cond.code ({ cls := "ShippedClass$Reader", name := "behindAttributesOfCode", desc := "(I)I" } : Jvm.MethodName) prog_11_method_14_code (5 : Nat) (Option.some Jvm.ClassFile.FieldType.int)) ∈ tw_tbl := tw_inK tw_s3 47 rfl rfl
set_option maxRecDepth 20000 in
theorem wd_528 : (Jvm.Cond.methodLink "ShippedClass" (118 : Nat) ({ cls := "ShippedClass$Linker", name := "links", desc := "(LShippedClass$Layout;LShippedClass$Finding;)Z" } : Jvm.MethodName)) ∈ tw_tbl := tw_inK tw_s3 48 rfl rfl
set_option maxRecDepth 20000 in
theorem wd_529 : (Jvm.Cond.instanceMethod ({ cls := "ShippedClass$Linker", name := "links", desc := "(LShippedClass$Layout;LShippedClass$Finding;)Z" } : Jvm.MethodName)) ∈ tw_tbl := tw_inK tw_s3 49 rfl rfl
set_option maxRecDepth 20000 in
theorem wd_530 : (Jvm.Cond.selects "ShippedClass$Linker" ({ cls := "ShippedClass$Linker", name := "links", desc := "(LShippedClass$Layout;LShippedClass$Finding;)Z" } : Jvm.MethodName) ({ cls := "ShippedClass$Linker", name := "links", desc := "(LShippedClass$Layout;LShippedClass$Finding;)Z" } : Jvm.MethodName)) ∈ tw_tbl := tw_inK tw_s3 50 rfl rfl
set_option maxRecDepth 20000 in
theorem wd_531 : (Jvm.Cond.code ({ cls := "ShippedClass$Linker", name := "links", desc := "(LShippedClass$Layout;LShippedClass$Finding;)Z" } : Jvm.MethodName) prog_7_method_2_code (5 : Nat) (Option.some Jvm.ClassFile.FieldType.boolean)) ∈ tw_tbl := tw_inK tw_s3 51 rfl rfl
set_option maxRecDepth 20000 in
theorem wd_532 : (Jvm.Cond.methodLink "ShippedClass$Linker" (30 : Nat) ({ cls := "ShippedClass$Linker", name := "faultOfConstant", desc := "(I)I" } : Jvm.MethodName)) ∈ tw_tbl := tw_inK tw_s3 52 rfl rfl
set_option maxRecDepth 20000 in
theorem wd_534 : (Jvm.Cond.instanceMethod ({ cls := "ShippedClass$Linker", name := "faultOfConstant", desc := "(I)I" } : Jvm.MethodName)) ∈ tw_tbl := tw_inK tw_s3 54 rfl rfl
set_option maxRecDepth 20000 in
theorem wd_535 : (Jvm.Cond.code ({ cls := "ShippedClass$Linker", name := "faultOfConstant", desc := "(I)I" } : Jvm.MethodName) prog_7_method_3_code (5 : Nat) (Option.some Jvm.ClassFile.FieldType.int)) ∈ tw_tbl := tw_inK tw_s3 55 rfl rfl
set_option maxRecDepth 20000 in
theorem wd_536 : (Jvm.Cond.methodLink "ShippedClass$Linker" (55 : Nat) ({ cls := "ShippedClass$Layout", name := "firstOf", desc := "(I)I" } : Jvm.MethodName)) ∈ tw_tbl := tw_inK tw_s3 56 rfl rfl
set_option maxRecDepth 20000 in
theorem wd_537 : (Jvm.Cond.methodLink "ShippedClass$Linker" (58 : Nat) ({ cls := "ShippedClass$Layout", name := "tagOf", desc := "(I)I" } : Jvm.MethodName)) ∈ tw_tbl := tw_inK tw_s3 57 rfl rfl
set_option maxRecDepth 20000 in
theorem wd_538 : (Jvm.Cond.methodLink "ShippedClass$Linker" (61 : Nat) ({ cls := "ShippedClass$Linker", name := "isText", desc := "(I)Z" } : Jvm.MethodName)) ∈ tw_tbl := tw_inK tw_s3 58 rfl rfl
set_option maxRecDepth 20000 in
theorem wd_540 : (Jvm.Cond.instanceMethod ({ cls := "ShippedClass$Linker", name := "isText", desc := "(I)Z" } : Jvm.MethodName)) ∈ tw_tbl := tw_inK tw_s3 60 rfl rfl
set_option maxRecDepth 20000 in
theorem wd_541 : (Jvm.Cond.code ({ cls := "ShippedClass$Linker", name := "isText", desc := "(I)Z" } : Jvm.MethodName) prog_7_method_5_code (2 : Nat) (Option.some Jvm.ClassFile.FieldType.boolean)) ∈ tw_tbl := tw_inK tw_s3 61 rfl rfl
set_option maxRecDepth 20000 in
theorem wd_542 : (Jvm.Cond.methodLink "ShippedClass$Linker" (64 : Nat) ({ cls := "ShippedClass$Layout", name := "textEnd", desc := "(I)I" } : Jvm.MethodName)) ∈ tw_tbl := tw_inK tw_s3 62 rfl rfl
set_option maxRecDepth 20000 in
theorem wd_543 : (Jvm.Cond.instanceMethod ({ cls := "ShippedClass$Layout", name := "textEnd", desc := "(I)I" } : Jvm.MethodName)) ∈ tw_tbl := tw_inK tw_s3 63 rfl rfl
set_option maxRecDepth 20000 in
theorem wd_544 : (Jvm.Cond.selects "ShippedClass$Layout" ({ cls := "ShippedClass$Layout", name := "textEnd", desc := "(I)I" } : Jvm.MethodName) ({ cls := "ShippedClass$Layout", name := "textEnd", desc := "(I)I" } : Jvm.MethodName)) ∈ tw_tbl := tw_inK tw_s3 64 rfl rfl
set_option maxRecDepth 20000 in
theorem wd_545 : (Jvm.Cond.code ({ cls := "ShippedClass$Layout", name := "textEnd", desc := "(I)I" } : Jvm.MethodName) prog_6_method_10_code (2 : Nat) (Option.some Jvm.ClassFile.FieldType.int)) ∈ tw_tbl := tw_inK tw_s3 65 rfl rfl
set_option maxRecDepth 20000 in
theorem wd_546 : (Jvm.Cond.methodLink "ShippedClass$Linker" (67 : Nat) ({ cls := "ShippedClass$Layout", name := "textFrom", desc := "(I)I" } : Jvm.MethodName)) ∈ tw_tbl := tw_inK tw_s3 66 rfl rfl
set_option maxRecDepth 20000 in
theorem wd_547 : (Jvm.Cond.instanceMethod ({ cls := "ShippedClass$Layout", name := "textFrom", desc := "(I)I" } : Jvm.MethodName)) ∈ tw_tbl := tw_inK tw_s3 67 rfl rfl
set_option maxRecDepth 20000 in
theorem wd_548 : (Jvm.Cond.selects "ShippedClass$Layout" ({ cls := "ShippedClass$Layout", name := "textFrom", desc := "(I)I" } : Jvm.MethodName) ({ cls := "ShippedClass$Layout", name := "textFrom", desc := "(I)I" } : Jvm.MethodName)) ∈ tw_tbl := tw_inK tw_s3 68 rfl rfl
set_option maxRecDepth 20000 in
theorem wd_549 : (Jvm.Cond.code ({ cls := "ShippedClass$Layout", name := "textFrom", desc := "(I)I" } : Jvm.MethodName) prog_6_method_9_code (2 : Nat) (Option.some Jvm.ClassFile.FieldType.int)) ∈ tw_tbl := tw_inK tw_s3 69 rfl rfl
set_option maxRecDepth 20000 in
theorem wd_550 : (Jvm.Cond.methodLink "ShippedClass$Linker" (70 : Nat) ({ cls := "ShippedClass$Grammar", name := "behindNames", desc := "(LShippedClass$Image;II)I" } : Jvm.MethodName)) ∈ tw_tbl := tw_inK tw_s3 70 rfl rfl
set_option maxRecDepth 20000 in
theorem wd_551 : (Jvm.Cond.static ({ cls := "ShippedClass$Grammar", name := "behindNames", desc := "(LShippedClass$Image;II)I" } : Jvm.MethodName)) ∈ tw_tbl := tw_inK tw_s3 71 rfl rfl
set_option maxRecDepth 20000 in
theorem wd_552 : (Jvm.Cond.code ({ cls := "ShippedClass$Grammar", name := "behindNames", desc := "(LShippedClass$Image;II)I" } : Jvm.MethodName) prog_4_method_4_code (6 : Nat) (Option.some Jvm.ClassFile.FieldType.int)) ∈ tw_tbl := tw_inK tw_s3 72 rfl rfl
set_option maxRecDepth 20000 in
theorem wd_553 : (Jvm.Cond.methodLink "ShippedClass$Grammar" (9 : Nat) ({ cls := "ShippedClass$Image", name := "oneAt", desc := "(I)I" } : Jvm.MethodName)) ∈ tw_tbl := tw_inK tw_s3 73 rfl rfl
set_option maxRecDepth 20000 in
theorem wd_554 : (Jvm.Cond.methodLink "ShippedClass$Grammar" (15 : Nat) ({ cls := "ShippedClass$Grammar", name := "isNameLetter", desc := "(I)Z" } : Jvm.MethodName)) ∈ tw_tbl := tw_inK tw_s3 74 rfl rfl
set_option maxRecDepth 20000 in
theorem wd_555 : (Jvm.Cond.static ({ cls := "ShippedClass$Grammar", name := "isNameLetter", desc := "(I)Z" } : Jvm.MethodName)) ∈ tw_tbl := tw_inK tw_s3 75 rfl rfl
set_option maxRecDepth 20000 in
theorem wd_556 : (Jvm.Cond.code ({ cls := "ShippedClass$Grammar", name := "isNameLetter", desc := "(I)Z" } : Jvm.MethodName) prog_4_method_2_code (1 : Nat) (Option.some Jvm.ClassFile.FieldType.boolean)) ∈ tw_tbl := tw_inK tw_s3 76 rfl rfl
set_option maxRecDepth 20000 in
theorem wd_557 : (Jvm.Cond.methodLink "ShippedClass$Linker" (76 : Nat) ({ cls := "ShippedClass$Layout", name := "secondOf", desc := "(I)I" } : Jvm.MethodName)) ∈ tw_tbl := tw_inK tw_s3 77 rfl rfl
set_option maxRecDepth 20000 in
theorem wd_558 : (Jvm.Cond.instanceMethod ({ cls := "ShippedClass$Layout", name := "secondOf", desc := "(I)I" } : Jvm.MethodName)) ∈ tw_tbl := tw_inK tw_s3 78 rfl rfl
set_option maxRecDepth 20000 in
theorem wd_559 : (Jvm.Cond.selects "ShippedClass$Layout" ({ cls := "ShippedClass$Layout", name := "secondOf", desc := "(I)I" } : Jvm.MethodName) ({ cls := "ShippedClass$Layout", name := "secondOf", desc := "(I)I" } : Jvm.MethodName)) ∈ tw_tbl := tw_inK tw_s3 79 rfl rfl
set_option maxRecDepth 20000 in
theorem wd_560 : (Jvm.Cond.code ({ cls := "ShippedClass$Layout", name := "secondOf", desc := "(I)I" } : Jvm.MethodName) prog_6_method_8_code (2 : Nat) (Option.some Jvm.ClassFile.FieldType.int)) ∈ tw_tbl := tw_inK tw_s3 80 rfl rfl
set_option maxRecDepth 20000 in
theorem wd_561 : (Jvm.Cond.methodLink "ShippedClass$Linker" (79 : Nat) ({ cls := "ShippedClass$Linker", name := "faultOfPair", desc := "(II)I" } : Jvm.MethodName)) ∈ tw_tbl := tw_inK tw_s3 81 rfl rfl
set_option maxRecDepth 20000 in
theorem wd_563 : (Jvm.Cond.instanceMethod ({ cls := "ShippedClass$Linker", name := "faultOfPair", desc := "(II)I" } : Jvm.MethodName)) ∈ tw_tbl := tw_inK tw_s3 83 rfl rfl
set_option maxRecDepth 20000 in
theorem wd_564 : (Jvm.Cond.code ({ cls := "ShippedClass$Linker", name := "faultOfPair", desc := "(II)I" } : Jvm.MethodName) prog_7_method_4_code (3 : Nat) (Option.some Jvm.ClassFile.FieldType.int)) ∈ tw_tbl := tw_inK tw_s3 84 rfl rfl
set_option maxRecDepth 20000 in
theorem wd_565 : (Jvm.Cond.methodLink "ShippedClass$Linker" (83 : Nat) ({ cls := "ShippedClass$Linker", name := "isName", desc := "(I)Z" } : Jvm.MethodName)) ∈ tw_tbl := tw_inK tw_s3 85 rfl rfl
set_option maxRecDepth 20000 in
theorem wd_567 : (Jvm.Cond.instanceMethod ({ cls := "ShippedClass$Linker", name := "isName", desc := "(I)Z" } : Jvm.MethodName)) ∈ tw_tbl := tw_inK tw_s3 87 rfl rfl
set_option maxRecDepth 20000 in
theorem wd_568 : (Jvm.Cond.code ({ cls := "ShippedClass$Linker", name := "isName", desc := "(I)Z" } : Jvm.MethodName) prog_7_method_6_code (2 : Nat) (Option.some Jvm.ClassFile.FieldType.boolean)) ∈ tw_tbl := tw_inK tw_s3 88 rfl rfl
set_option maxRecDepth 20000 in
theorem wd_569 : (Jvm.Cond.methodLink "ShippedClass$Linker" (98 : Nat) ({ cls := "ShippedClass$Grammar", name := "isName", desc := "(LShippedClass$Image;II)Z" } : Jvm.MethodName)) ∈ tw_tbl := tw_inK tw_s3 89 rfl rfl
set_option maxRecDepth 20000 in
theorem wd_570 : (Jvm.Cond.static ({ cls := "ShippedClass$Grammar", name := "isName", desc := "(LShippedClass$Image;II)Z" } : Jvm.MethodName)) ∈ tw_tbl := tw_inK tw_s3 90 rfl rfl
set_option maxRecDepth 20000 in
theorem wd_571 : (Jvm.Cond.code ({ cls := "ShippedClass$Grammar", name := "isName", desc := "(LShippedClass$Image;II)Z" } : Jvm.MethodName) prog_4_method_3_code (4 : Nat) (Option.some Jvm.ClassFile.FieldType.boolean)) ∈ tw_tbl := tw_inK tw_s3 91 rfl rfl
set_option maxRecDepth 20000 in
theorem wd_573 : (Jvm.Cond.methodLink "ShippedClass$Linker" (87 : Nat) ({ cls := "ShippedClass$Layout", name := "spells", desc := "(ILjava/lang/String;)Z" } : Jvm.MethodName)) ∈ tw_tbl := tw_inK tw_s3 93 rfl rfl
set_option maxRecDepth 20000 in
theorem wd_574 : (Jvm.Cond.methodLink "ShippedClass$Linker" (91 : Nat) ({ cls := "ShippedClass$Grammar", name := "isType", desc := "(LShippedClass$Layout;I)Z" } : Jvm.MethodName)) ∈ tw_tbl := tw_inK tw_s3 94 rfl rfl
set_option maxRecDepth 20000 in
theorem wd_575 : (Jvm.Cond.static ({ cls := "ShippedClass$Grammar", name := "isType", desc := "(LShippedClass$Layout;I)Z" } : Jvm.MethodName)) ∈ tw_tbl := tw_inK tw_s3 95 rfl rfl
set_option maxRecDepth 20000 in
theorem wd_576 : (Jvm.Cond.code ({ cls := "ShippedClass$Grammar", name := "isType", desc := "(LShippedClass$Layout;I)Z" } : Jvm.MethodName) prog_4_method_6_code (3 : Nat) (Option.some Jvm.ClassFile.FieldType.boolean)) ∈ tw_tbl := tw_inK tw_s3 96 rfl rfl
set_option maxRecDepth 20000 in
theorem wd_577 : (Jvm.Cond.methodLink "ShippedClass$Grammar" (28 : Nat) ({ cls := "ShippedClass$Layout", name := "textEnd", desc := "(I)I" } : Jvm.MethodName)) ∈ tw_tbl := tw_inK tw_s3 97 rfl rfl
set_option maxRecDepth 20000 in
theorem wd_578 : (Jvm.Cond.methodLink "ShippedClass$Grammar" (37 : Nat) ({ cls := "ShippedClass$Layout", name := "textFrom", desc := "(I)I" } : Jvm.MethodName)) ∈ tw_tbl := tw_inK tw_s3 98 rfl rfl
set_option maxRecDepth 20000 in
theorem wd_579 : (Jvm.Cond.methodLink "ShippedClass$Grammar" (40 : Nat) ({ cls := "ShippedClass$Grammar", name := "behindType", desc := "(LShippedClass$Image;II)I" } : Jvm.MethodName)) ∈ tw_tbl := tw_inK tw_s3 99 rfl rfl
set_option maxRecDepth 20000 in
theorem wd_580 : (Jvm.Cond.static ({ cls := "ShippedClass$Grammar", name := "behindType", desc := "(LShippedClass$Image;II)I" } : Jvm.MethodName)) ∈ tw_tbl := tw_inK tw_s3 100 rfl rfl
set_option maxRecDepth 20000 in
theorem wd_581 : (Jvm.Cond.code ({ cls := "ShippedClass$Grammar", name := "behindType", desc := "(LShippedClass$Image;II)I" } : Jvm.MethodName) prog_4_method_5_code (7 : Nat) (Option.some Jvm.ClassFile.FieldType.int)) ∈ tw_tbl := tw_inK tw_s3 101 rfl rfl
set_option maxRecDepth 20000 in
theorem wd_582 : (Jvm.Cond.methodLink "ShippedClass$Grammar" (21 : Nat) ({ cls := "ShippedClass$Grammar", name := "behindNames", desc := "(LShippedClass$Image;II)I" } : Jvm.MethodName)) ∈ tw_tbl := tw_inK tw_s3 102 rfl rfl
set_option maxRecDepth 20000 in
theorem wd_583 : (Jvm.Cond.methodLink "ShippedClass$Grammar" (25 : Nat) ({ cls := "ShippedClass$Grammar", name := "kindOf", desc := "(I)I" } : Jvm.MethodName)) ∈ tw_tbl := tw_inK tw_s3 103 rfl rfl
set_option maxRecDepth 20000 in
theorem wd_584 : (Jvm.Cond.static ({ cls := "ShippedClass$Grammar", name := "kindOf", desc := "(I)I" } : Jvm.MethodName)) ∈ tw_tbl := tw_inK tw_s3 104 rfl rfl
set_option maxRecDepth 20000 in
theorem wd_585 : (Jvm.Cond.code ({ cls := "ShippedClass$Grammar", name := "kindOf", desc := "(I)I" } : Jvm.MethodName) prog_4_method_8_code (1 : Nat) (Option.some Jvm.ClassFile.FieldType.int)) ∈ tw_tbl := tw_inK tw_s3 105 rfl rfl
set_option maxRecDepth 20000 in
theorem wd_586 : (Jvm.Cond.methodLink "ShippedClass$Linker" (95 : Nat) ({ cls := "ShippedClass$Grammar", name := "isMethodType", desc := "(LShippedClass$Layout;I)Z" } : Jvm.MethodName)) ∈ tw_tbl := tw_inK tw_s3 106 rfl rfl
set_option maxRecDepth 20000 in
theorem wd_587 : (Jvm.Cond.static ({ cls := "ShippedClass$Grammar", name := "isMethodType", desc := "(LShippedClass$Layout;I)Z" } : Jvm.MethodName)) ∈ tw_tbl := tw_inK tw_s3 107 rfl rfl
set_option maxRecDepth 20000 in
theorem wd_588 : (Jvm.Cond.code ({ cls := "ShippedClass$Grammar", name := "isMethodType", desc := "(LShippedClass$Layout;I)Z" } : Jvm.MethodName) prog_4_method_7_code (6 : Nat) (Option.some Jvm.ClassFile.FieldType.boolean)) ∈ tw_tbl := tw_inK tw_s3 108 rfl rfl
set_option maxRecDepth 20000 in
theorem wd_589 : (Jvm.Cond.methodLink "ShippedClass$Linker" (34 : Nat) ({ cls := "ShippedClass$Layout", name := "placeOf", desc := "(I)I" } : Jvm.MethodName)) ∈ tw_tbl := tw_inK tw_s3 109 rfl rfl
set_option maxRecDepth 20000 in
theorem wd_590 : (Jvm.Cond.methodLink "ShippedClass$Linker" (37 : Nat) ({ cls := "ShippedClass$Finding", name := "tell", desc := "(II)Z" } : Jvm.MethodName)) ∈ tw_tbl := tw_inK tw_s3 110 rfl rfl
set_option maxRecDepth 20000 in
theorem wd_591 : (Jvm.Cond.methodLink "ShippedClass$Linker" (43 : Nat) ({ cls := "ShippedClass$Linker", name := "isUseRight", desc := "(I)Z" } : Jvm.MethodName)) ∈ tw_tbl := tw_inK tw_s3 111 rfl rfl
set_option maxRecDepth 20000 in
theorem wd_593 : (Jvm.Cond.instanceMethod ({ cls := "ShippedClass$Linker", name := "isUseRight", desc := "(I)Z" } : Jvm.MethodName)) ∈ tw_tbl := tw_inK tw_s3 113 rfl rfl
set_option maxRecDepth 20000 in
theorem wd_594 : (Jvm.Cond.code ({ cls := "ShippedClass$Linker", name := "isUseRight", desc := "(I)Z" } : Jvm.MethodName) prog_7_method_7_code (6 : Nat) (Option.some Jvm.ClassFile.FieldType.boolean)) ∈ tw_tbl := tw_inK tw_s3 114 rfl rfl
set_option maxRecDepth 20000 in
theorem wd_595 : (Jvm.Cond.methodLink "ShippedClass$Linker" (101 : Nat) ({ cls := "ShippedClass$Linker", name := "mayMake", desc := "(II)Z" } : Jvm.MethodName)) ∈ tw_tbl := tw_inK tw_s3 115 rfl rfl
set_option maxRecDepth 20000 in
theorem wd_597 : (Jvm.Cond.instanceMethod ({ cls := "ShippedClass$Linker", name := "mayMake", desc := "(II)Z" } : Jvm.MethodName)) ∈ tw_tbl := tw_inK tw_s3 117 rfl rfl
set_option maxRecDepth 20000 in
theorem wd_598 : (Jvm.Cond.code ({ cls := "ShippedClass$Linker", name := "mayMake", desc := "(II)Z" } : Jvm.MethodName) prog_7_method_8_code (3 : Nat) (Option.some Jvm.ClassFile.FieldType.boolean)) ∈ tw_tbl := tw_inK tw_s3 118 rfl rfl
set_option maxRecDepth 20000 in
theorem wd_599 : (Jvm.Cond.methodLink "ShippedClass$Linker" (104 : Nat) ({ cls := "ShippedClass$Image", name := "oneAt", desc := "(I)I" } : Jvm.MethodName)) ∈ tw_tbl := tw_inK tw_s3 119 rfl rfl
set_option maxRecDepth 20000 in
theorem wd_600 : (Jvm.Cond.methodLink "ShippedClass$Linker" (47 : Nat) ({ cls := "ShippedClass$Linker", name := "areClassesRight", desc := "()Z" } : Jvm.MethodName)) ∈ tw_tbl := tw_inK tw_s3 120 rfl rfl
set_option maxRecDepth 20000 in
theorem wd_602 : (Jvm.Cond.instanceMethod ({ cls := "ShippedClass$Linker", name := "areClassesRight", desc := "()Z" } : Jvm.MethodName)) ∈ tw_tbl := tw_inK tw_s3 122 rfl rfl
set_option maxRecDepth 20000 in
theorem wd_603 : (Jvm.Cond.code ({ cls := "ShippedClass$Linker", name := "areClassesRight", desc := "()Z" } : Jvm.MethodName) prog_7_method_9_code (2 : Nat) (Option.some Jvm.ClassFile.FieldType.boolean)) ∈ tw_tbl := tw_inK tw_s3 123 rfl rfl
set_option maxRecDepth 20000 in
theorem wd_604 : (Jvm.Cond.methodLink "ShippedClass$Linker" (112 : Nat) ({ cls := "ShippedClass$Linker", name := "isClassAt", desc := "(I)Z" } : Jvm.MethodName)) ∈ tw_tbl := tw_inK tw_s3 124 rfl rfl
set_option maxRecDepth 20000 in
theorem wd_606 : (Jvm.Cond.instanceMethod ({ cls := "ShippedClass$Linker", name := "isClassAt", desc := "(I)Z" } : Jvm.MethodName)) ∈ tw_tbl := tw_inK tw_s3 126 rfl rfl
set_option maxRecDepth 20000 in
theorem wd_607 : (Jvm.Cond.code ({ cls := "ShippedClass$Linker", name := "isClassAt", desc := "(I)Z" } : Jvm.MethodName) prog_7_method_10_code (2 : Nat) (Option.some Jvm.ClassFile.FieldType.boolean)) ∈ tw_tbl := tw_inK tw_s3 127 rfl rfl
set_option maxRecDepth 20000 in
theorem wd_608 : (Jvm.Cond.methodLink "ShippedClass$Linker" (121 : Nat) ({ cls := "ShippedClass$Image", name := "twoAt", desc := "(I)I" } : Jvm.MethodName)) ∈ tw_tbl := tw_inK tw_s3 128 rfl rfl
set_option maxRecDepth 20000 in
theorem wd_609 : (Jvm.Cond.methodLink "ShippedClass$Linker" (118 : Nat) ({ cls := "ShippedClass$Layout", name := "interfaceAt", desc := "(I)I" } : Jvm.MethodName)) ∈ tw_tbl := tw_inK tw_s3 129 rfl rfl
set_option maxRecDepth 20000 in
theorem wd_610 : (Jvm.Cond.instanceMethod ({ cls := "ShippedClass$Layout", name := "interfaceAt", desc := "(I)I" } : Jvm.MethodName)) ∈ tw_tbl := tw_inK tw_s3 130 rfl rfl
set_option maxRecDepth 20000 in
theorem wd_611 : (Jvm.Cond.selects "ShippedClass$Layout" ({ cls := "ShippedClass$Layout", name := "interfaceAt", desc := "(I)I" } : Jvm.MethodName) ({ cls := "ShippedClass$Layout", name := "interfaceAt", desc := "(I)I" } : Jvm.MethodName)) ∈ tw_tbl := tw_inK tw_s3 131 rfl rfl
set_option maxRecDepth 20000 in
theorem wd_612 : (Jvm.Cond.code ({ cls := "ShippedClass$Layout", name := "interfaceAt", desc := "(I)I" } : Jvm.MethodName) prog_6_method_12_code (2 : Nat) (Option.some Jvm.ClassFile.FieldType.int)) ∈ tw_tbl := tw_inK tw_s3 132 rfl rfl
set_option maxRecDepth 20000 in
theorem wd_613 : (Jvm.Cond.methodLink "ShippedClass$Linker" (51 : Nat) ({ cls := "ShippedClass$Linker", name := "areMembersRight", desc := "(Z)Z" } : Jvm.MethodName)) ∈ tw_tbl := tw_inK tw_s3 133 rfl rfl
set_option maxRecDepth 20000 in
theorem wd_615 : (Jvm.Cond.instanceMethod ({ cls := "ShippedClass$Linker", name := "areMembersRight", desc := "(Z)Z" } : Jvm.MethodName)) ∈ tw_tbl := tw_inK tw_s3 135 rfl rfl
set_option maxRecDepth 20000 in
theorem wd_616 : (Jvm.Cond.code ({ cls := "ShippedClass$Linker", name := "areMembersRight", desc := "(Z)Z" } : Jvm.MethodName) prog_7_method_11_code (5 : Nat) (Option.some Jvm.ClassFile.FieldType.boolean)) ∈ tw_tbl := tw_inK tw_s3 136 rfl rfl
set_option maxRecDepth 20000 in
theorem wd_617 : (Jvm.Cond.methodLink "ShippedClass$Linker" (130 : Nat) ({ cls := "ShippedClass$Linker", name := "faultOfMember", desc := "(ZI)I" } : Jvm.MethodName)) ∈ tw_tbl := tw_inK tw_s3 137 rfl rfl
set_option maxRecDepth 20000 in
theorem wd_619 : (Jvm.Cond.instanceMethod ({ cls := "ShippedClass$Linker", name := "faultOfMember", desc := "(ZI)I" } : Jvm.MethodName)) ∈ tw_tbl := tw_inK tw_s3 139 rfl rfl
set_option maxRecDepth 20000 in
theorem wd_620 : (Jvm.Cond.code ({ cls := "ShippedClass$Linker", name := "faultOfMember", desc := "(ZI)I" } : Jvm.MethodName) prog_7_method_12_code (9 : Nat) (Option.some Jvm.ClassFile.FieldType.int)) ∈ tw_tbl := tw_inK tw_s3 140 rfl rfl
set_option maxRecDepth 20000 in
theorem wd_621 : (Jvm.Cond.methodLink "ShippedClass$Linker" (134 : Nat) ({ cls := "ShippedClass$Layout", name := "memberAt", desc := "(ZI)I" } : Jvm.MethodName)) ∈ tw_tbl := tw_inK tw_s3 141 rfl rfl
set_option maxRecDepth 20000 in
theorem wd_622 : (Jvm.Cond.instanceMethod ({ cls := "ShippedClass$Layout", name := "memberAt", desc := "(ZI)I" } : Jvm.MethodName)) ∈ tw_tbl := tw_inK tw_s3 142 rfl rfl
set_option maxRecDepth 20000 in
theorem wd_623 : (Jvm.Cond.selects "ShippedClass$Layout" ({ cls := "ShippedClass$Layout", name := "memberAt", desc := "(ZI)I" } : Jvm.MethodName) ({ cls := "ShippedClass$Layout", name := "memberAt", desc := "(ZI)I" } : Jvm.MethodName)) ∈ tw_tbl := tw_inK tw_s3 143 rfl rfl
set_option maxRecDepth 20000 in
theorem wd_624 : (Jvm.Cond.code ({ cls := "ShippedClass$Layout", name := "memberAt", desc := "(ZI)I" } : Jvm.MethodName) prog_6_method_13_code (3 : Nat) (Option.some Jvm.ClassFile.FieldType.int)) ∈ tw_tbl := tw_inK tw_s3 144 rfl rfl
set_option maxRecDepth 20000 in
theorem wd_625 : (Jvm.Cond.methodLink "ShippedClass$Linker" (137 : Nat) ({ cls := "ShippedClass$Layout", name := "nameAt", desc := "(I)I" } : Jvm.MethodName)) ∈ tw_tbl := tw_inK tw_s3 145 rfl rfl
set_option maxRecDepth 20000 in
theorem wd_626 : (Jvm.Cond.instanceMethod ({ cls := "ShippedClass$Layout", name := "nameAt", desc := "(I)I" } : Jvm.MethodName)) ∈ tw_tbl := tw_inK tw_s3 146 rfl rfl
set_option maxRecDepth 20000 in
theorem wd_627 : (Jvm.Cond.selects "ShippedClass$Layout" ({ cls := "ShippedClass$Layout", name := "nameAt", desc := "(I)I" } : Jvm.MethodName) ({ cls := "ShippedClass$Layout", name := "nameAt", desc := "(I)I" } : Jvm.MethodName)) ∈ tw_tbl := tw_inK tw_s3 147 rfl rfl
set_option maxRecDepth 20000 in
theorem wd_628 : (Jvm.Cond.code ({ cls := "ShippedClass$Layout", name := "nameAt", desc := "(I)I" } : Jvm.MethodName) prog_6_method_14_code (2 : Nat) (Option.some Jvm.ClassFile.FieldType.int)) ∈ tw_tbl := tw_inK tw_s3 148 rfl rfl
set_option maxRecDepth 20000 in
theorem wd_629 : (Jvm.Cond.methodLink "ShippedClass$Linker" (140 : Nat) ({ cls := "ShippedClass$Layout", name := "typeAt", desc := "(I)I" } : Jvm.MethodName)) ∈ tw_tbl := tw_inK tw_s3 149 rfl rfl
set_option maxRecDepth 20000 in
theorem wd_630 : (Jvm.Cond.instanceMethod ({ cls := "ShippedClass$Layout", name := "typeAt", desc := "(I)I" } : Jvm.MethodName)) ∈ tw_tbl := tw_inK tw_s3 150 rfl rfl
set_option maxRecDepth 20000 in
theorem wd_631 : (Jvm.Cond.selects "ShippedClass$Layout" ({ cls := "ShippedClass$Layout", name := "typeAt", desc := "(I)I" } : Jvm.MethodName) ({ cls := "ShippedClass$Layout", name := "typeAt", desc := "(I)I" } : Jvm.MethodName)) ∈ tw_tbl := tw_inK tw_s3 151 rfl rfl
set_option maxRecDepth 20000 in
theorem wd_632 : (Jvm.Cond.code ({ cls := "ShippedClass$Layout", name := "typeAt", desc := "(I)I" } : Jvm.MethodName) prog_6_method_15_code (2 : Nat) (Option.some Jvm.ClassFile.FieldType.int)) ∈ tw_tbl := tw_inK tw_s3 152 rfl rfl
set_option maxRecDepth 20000 in
theorem wd_634 : (Jvm.Cond.methodLink "ShippedClass$Linker" (145 : Nat) ({ cls := "ShippedClass$Linker", name := "isThereBefore", desc := "(ZI)Z" } : Jvm.MethodName)) ∈ tw_tbl := tw_inK tw_s3 154 rfl rfl
set_option maxRecDepth 20000 in
theorem wd_636 : (Jvm.Cond.instanceMethod ({ cls := "ShippedClass$Linker", name := "isThereBefore", desc := "(ZI)Z" } : Jvm.MethodName)) ∈ tw_tbl := tw_inK tw_s3 156 rfl rfl
set_option maxRecDepth 20000 in
theorem wd_637 : (Jvm.Cond.code ({ cls := "ShippedClass$Linker", name := "isThereBefore", desc := "(ZI)Z" } : Jvm.MethodName) prog_7_method_13_code (6 : Nat) (Option.some Jvm.ClassFile.FieldType.boolean)) ∈ tw_tbl := tw_inK tw_s3 157 rfl rfl
set_option maxRecDepth 20000 in
theorem wd_638 : (Jvm.Cond.methodLink "ShippedClass$Linker" (152 : Nat) ({ cls := "ShippedClass$Layout", name := "isSame", desc := "(II)Z" } : Jvm.MethodName)) ∈ tw_tbl := tw_inK tw_s3 158 rfl rfl
set_option maxRecDepth 20000 in
theorem wd_639 : (Jvm.Cond.instanceMethod ({ cls := "ShippedClass$Layout", name := "isSame", desc := "(II)Z" } : Jvm.MethodName)) ∈ tw_tbl := tw_inK tw_s3 159 rfl rfl
set_option maxRecDepth 20000 in
theorem wd_640 : (Jvm.Cond.selects "ShippedClass$Layout" ({ cls := "ShippedClass$Layout", name := "isSame", desc := "(II)Z" } : Jvm.MethodName) ({ cls := "ShippedClass$Layout", name := "isSame", desc := "(II)Z" } : Jvm.MethodName)) ∈ tw_tbl := tw_inK tw_s3 160 rfl rfl
set_option maxRecDepth 20000 in
theorem wd_641 : (Jvm.Cond.code ({ cls := "ShippedClass$Layout", name := "isSame", desc := "(II)Z" } : Jvm.MethodName) prog_6_method_27_code (7 : Nat) (Option.some Jvm.ClassFile.FieldType.boolean)) ∈ tw_tbl := tw_inK tw_s3 161 rfl rfl
set_option maxRecDepth 20000 in
theorem wd_642 : (Jvm.Cond.methodLink "ShippedClass$Layout" (115 : Nat) ({ cls := "ShippedClass$Layout", name := "textFrom", desc := "(I)I" } : Jvm.MethodName)) ∈ tw_tbl := tw_inK tw_s3 162 rfl rfl
set_option maxRecDepth 20000 in
theorem wd_643 : (Jvm.Cond.methodLink "ShippedClass$Linker" (149 : Nat) ({ cls := "ShippedClass$Layout", name := "codeOf", desc := "(I)I" } : Jvm.MethodName)) ∈ tw_tbl := tw_inK tw_s3 163 rfl rfl
set_option maxRecDepth 20000 in
theorem wd_644 : (Jvm.Cond.methodLink "ShippedClass" (121 : Nat) ({ cls := "ShippedClass$Policy", name := "admits", desc := "(LShippedClass$Layout;LShippedClass$Finding;)Z" } : Jvm.MethodName)) ∈ tw_tbl := tw_inK tw_s3 164 rfl rfl
set_option maxRecDepth 20000 in
theorem wd_645 : (Jvm.Cond.instanceMethod ({ cls := "ShippedClass$Policy", name := "admits", desc := "(LShippedClass$Layout;LShippedClass$Finding;)Z" } : Jvm.MethodName)) ∈ tw_tbl := tw_inK tw_s3 165 rfl rfl
set_option maxRecDepth 20000 in
theorem wd_646 : (Jvm.Cond.selects "ShippedClass$Policy" ({ cls := "ShippedClass$Policy", name := "admits", desc := "(LShippedClass$Layout;LShippedClass$Finding;)Z" } : Jvm.MethodName) ({ cls := "ShippedClass$Policy", name := "admits", desc := "(LShippedClass$Layout;LShippedClass$Finding;)Z" } : Jvm.MethodName)) ∈ tw_tbl := tw_inK tw_s3 166 rfl rfl
set_option maxRecDepth 20000 in
theorem wd_647 : (Jvm.Cond.code ({ cls := "ShippedClass$Policy", name := "admits", desc := "(LShippedClass$Layout;LShippedClass$Finding;)Z" } : Jvm.MethodName) prog_10_method_6_code (5 : Nat) (Option.some Jvm.ClassFile.FieldType.boolean)) ∈ tw_tbl := tw_inK tw_s3 167 rfl rfl
set_option maxRecDepth 20000 in
theorem wd_648 : (Jvm.Cond.methodLink "ShippedClass$Policy" (60 : Nat) ({ cls := "ShippedClass$Finding", name := "tell", desc := "(II)Z" } : Jvm.MethodName)) ∈ tw_tbl := tw_inK tw_s3 168 rfl rfl
set_option maxRecDepth 20000 in
theorem wd_649 : (Jvm.Cond.methodLink "ShippedClass$Policy" (69 : Nat) ({ cls := "ShippedClass$Layout", name := "classTextAt", desc := "(I)I" } : Jvm.MethodName)) ∈ tw_tbl := tw_inK tw_s3 169 rfl rfl
set_option maxRecDepth 20000 in
theorem wd_650 : (Jvm.Cond.instanceMethod ({ cls := "ShippedClass$Layout", name := "classTextAt", desc := "(I)I" } : Jvm.MethodName)) ∈ tw_tbl := tw_inK tw_s3 170 rfl rfl
set_option maxRecDepth 20000 in
theorem wd_651 : (Jvm.Cond.selects "ShippedClass$Layout" ({ cls := "ShippedClass$Layout", name := "classTextAt", desc := "(I)I" } : Jvm.MethodName) ({ cls := "ShippedClass$Layout", name := "classTextAt", desc := "(I)I" } : Jvm.MethodName)) ∈ tw_tbl := tw_inK tw_s3 171 rfl rfl
set_option maxRecDepth 20000 in
theorem wd_652 : (Jvm.Cond.code ({ cls := "ShippedClass$Layout", name := "classTextAt", desc := "(I)I" } : Jvm.MethodName) prog_6_method_11_code (2 : Nat) (Option.some Jvm.ClassFile.FieldType.int)) ∈ tw_tbl := tw_inK tw_s3 172 rfl rfl
set_option maxRecDepth 20000 in
theorem wd_653 : (Jvm.Cond.methodLink "ShippedClass$Policy" (72 : Nat) ({ cls := "ShippedClass$Policy", name := "isBegunBy", desc := "(ILShippedClass$Layout;I)Z" } : Jvm.MethodName)) ∈ tw_tbl := tw_inK tw_s3 173 rfl rfl
set_option maxRecDepth 20000 in
theorem wd_655 : (Jvm.Cond.instanceMethod ({ cls := "ShippedClass$Policy", name := "isBegunBy", desc := "(ILShippedClass$Layout;I)Z" } : Jvm.MethodName)) ∈ tw_tbl := tw_inK tw_s3 175 rfl rfl
set_option maxRecDepth 20000 in
theorem wd_656 : (Jvm.Cond.code ({ cls := "ShippedClass$Policy", name := "isBegunBy", desc := "(ILShippedClass$Layout;I)Z" } : Jvm.MethodName) prog_10_method_4_code (5 : Nat) (Option.some Jvm.ClassFile.FieldType.boolean)) ∈ tw_tbl := tw_inK tw_s3 176 rfl rfl
set_option maxRecDepth 20000 in
theorem wd_657 : (Jvm.Cond.methodLink "ShippedClass$Policy" (38 : Nat) ({ cls := "ShippedClass$Policy", name := "isBegunByRow", desc := "(ILShippedClass$Layout;I)Z" } : Jvm.MethodName)) ∈ tw_tbl := tw_inK tw_s3 177 rfl rfl
set_option maxRecDepth 20000 in
theorem wd_659 : (Jvm.Cond.instanceMethod ({ cls := "ShippedClass$Policy", name := "isBegunByRow", desc := "(ILShippedClass$Layout;I)Z" } : Jvm.MethodName)) ∈ tw_tbl := tw_inK tw_s3 179 rfl rfl
set_option maxRecDepth 20000 in
theorem wd_660 : (Jvm.Cond.code ({ cls := "ShippedClass$Policy", name := "isBegunByRow", desc := "(ILShippedClass$Layout;I)Z" } : Jvm.MethodName) prog_10_method_5_code (7 : Nat) (Option.some Jvm.ClassFile.FieldType.boolean)) ∈ tw_tbl := tw_inK tw_s3 180 rfl rfl
set_option maxRecDepth 20000 in
theorem wd_661 : (Jvm.Cond.methodLink "ShippedClass$Policy" (42 : Nat) ({ cls := "ShippedClass$Layout", name := "firstOf", desc := "(I)I" } : Jvm.MethodName)) ∈ tw_tbl := tw_inK tw_s3 181 rfl rfl
set_option maxRecDepth 20000 in
theorem wd_662 : (Jvm.Cond.methodLink "ShippedClass$Policy" (47 : Nat) ({ cls := "ShippedClass$Layout", name := "textFrom", desc := "(I)I" } : Jvm.MethodName)) ∈ tw_tbl := tw_inK tw_s3 182 rfl rfl
set_option maxRecDepth 20000 in
theorem wd_663 : (Jvm.Cond.methodLink "ShippedClass$Policy" (34 : Nat) ({ cls := "ShippedClass$Image", name := "oneAt", desc := "(I)I" } : Jvm.MethodName)) ∈ tw_tbl := tw_inK tw_s3 183 rfl rfl
set_option maxRecDepth 20000 in
theorem wd_664 : (Jvm.Cond.methodLink "ShippedClass$Policy" (78 : Nat) ({ cls := "ShippedClass$Policy", name := "mayUse", desc := "(LShippedClass$Layout;I)Z" } : Jvm.MethodName)) ∈ tw_tbl := tw_inK tw_s3 184 rfl rfl
set_option maxRecDepth 20000 in
theorem wd_666 : (Jvm.Cond.instanceMethod ({ cls := "ShippedClass$Policy", name := "mayUse", desc := "(LShippedClass$Layout;I)Z" } : Jvm.MethodName)) ∈ tw_tbl := tw_inK tw_s3 186 rfl rfl
set_option maxRecDepth 20000 in
theorem wd_667 : (Jvm.Cond.code ({ cls := "ShippedClass$Policy", name := "mayUse", desc := "(LShippedClass$Layout;I)Z" } : Jvm.MethodName) prog_10_method_7_code (5 : Nat) (Option.some Jvm.ClassFile.FieldType.boolean)) ∈ tw_tbl := tw_inK tw_s3 187 rfl rfl
set_option maxRecDepth 20000 in
theorem wd_668 : (Jvm.Cond.methodLink "ShippedClass$Policy" (93 : Nat) ({ cls := "ShippedClass$Layout", name := "tagOf", desc := "(I)I" } : Jvm.MethodName)) ∈ tw_tbl := tw_inK tw_s3 188 rfl rfl
set_option maxRecDepth 20000 in
theorem wd_669 : (Jvm.Cond.methodLink "ShippedClass$Policy" (96 : Nat) ({ cls := "ShippedClass$Layout", name := "isSame", desc := "(II)Z" } : Jvm.MethodName)) ∈ tw_tbl := tw_inK tw_s3 189 rfl rfl
set_option maxRecDepth 20000 in
theorem wd_670 : (Jvm.Cond.methodLink "ShippedClass$Policy" (82 : Nat) ({ cls := "ShippedClass$Layout", name := "placeOf", desc := "(I)I" } : Jvm.MethodName)) ∈ tw_tbl := tw_inK tw_s3 190 rfl rfl
set_option maxRecDepth 20000 in
theorem wd_671 : (Jvm.Cond.methodLink "ShippedClass$Policy" (85 : Nat) ({ cls := "ShippedClass$Policy", name := "faultOfMethod", desc := "(LShippedClass$Layout;I)I" } : Jvm.MethodName)) ∈ tw_tbl := tw_inK tw_s3 191 rfl rfl
set_option maxRecDepth 20000 in
theorem wd_673 : (Jvm.Cond.instanceMethod ({ cls := "ShippedClass$Policy", name := "faultOfMethod", desc := "(LShippedClass$Layout;I)I" } : Jvm.MethodName)) ∈ tw_tbl := tw_inK tw_s3 193 rfl rfl
set_option maxRecDepth 20000 in
theorem wd_674 : (Jvm.Cond.code ({ cls := "ShippedClass$Policy", name := "faultOfMethod", desc := "(LShippedClass$Layout;I)I" } : Jvm.MethodName) prog_10_method_8_code (5 : Nat) (Option.some Jvm.ClassFile.FieldType.int)) ∈ tw_tbl := tw_inK tw_s3 194 rfl rfl
set_option maxRecDepth 20000 in
theorem wd_675 : (Jvm.Cond.methodLink "ShippedClass$Policy" (89 : Nat) ({ cls := "ShippedClass$Layout", name := "memberAt", desc := "(ZI)I" } : Jvm.MethodName)) ∈ tw_tbl := tw_inK tw_s3 195 rfl rfl
set_option maxRecDepth 20000 in
theorem wd_676 : (Jvm.Cond.methodLink "ShippedClass$Policy" (99 : Nat) ({ cls := "ShippedClass$Image", name := "twoAt", desc := "(I)I" } : Jvm.MethodName)) ∈ tw_tbl := tw_inK tw_s3 196 rfl rfl
set_option maxRecDepth 20000 in
theorem wd_677 : (Jvm.Cond.methodLink "ShippedClass$Policy" (102 : Nat) ({ cls := "ShippedClass$Layout", name := "nameAt", desc := "(I)I" } : Jvm.MethodName)) ∈ tw_tbl := tw_inK tw_s3 197 rfl rfl
set_option maxRecDepth 20000 in
theorem wd_679 : (Jvm.Cond.methodLink "ShippedClass$Policy" (107 : Nat) ({ cls := "ShippedClass$Layout", name := "spells", desc := "(ILjava/lang/String;)Z" } : Jvm.MethodName)) ∈ tw_tbl := tw_inK tw_s3 199 rfl rfl
set_option maxRecDepth 20000 in
theorem wd_680 : (Jvm.Cond.methodLink "ShippedClass$Policy" (111 : Nat) ({ cls := "ShippedClass$Layout", name := "typeAt", desc := "(I)I" } : Jvm.MethodName)) ∈ tw_tbl := tw_inK tw_s3 200 rfl rfl
set_option maxRecDepth 20000 in
theorem wd_682 : (Jvm.Cond.methodLink "ShippedClass$Policy" (115 : Nat) ({ cls := "ShippedClass$Layout", name := "codeOf", desc := "(I)I" } : Jvm.MethodName)) ∈ tw_tbl := tw_inK tw_s3 202 rfl rfl
set_option maxRecDepth 20000 in
theorem wd_683 : (Jvm.Cond.methodLink "ShippedClass$Policy" (118 : Nat) ({ cls := "ShippedClass$Layout", name := "lengthOf", desc := "(I)I" } : Jvm.MethodName)) ∈ tw_tbl := tw_inK tw_s3 203 rfl rfl
set_option maxRecDepth 20000 in
theorem wd_684 : (Jvm.Cond.instanceMethod ({ cls := "ShippedClass$Layout", name := "lengthOf", desc := "(I)I" } : Jvm.MethodName)) ∈ tw_tbl := tw_inK tw_s3 204 rfl rfl
set_option maxRecDepth 20000 in
theorem wd_685 : (Jvm.Cond.selects "ShippedClass$Layout" ({ cls := "ShippedClass$Layout", name := "lengthOf", desc := "(I)I" } : Jvm.MethodName) ({ cls := "ShippedClass$Layout", name := "lengthOf", desc := "(I)I" } : Jvm.MethodName)) ∈ tw_tbl := tw_inK tw_s3 205 rfl rfl
set_option maxRecDepth 20000 in
theorem wd_686 : (Jvm.Cond.code ({ cls := "ShippedClass$Layout", name := "lengthOf", desc := "(I)I" } : Jvm.MethodName) prog_6_method_21_code (2 : Nat) (Option.some Jvm.ClassFile.FieldType.int)) ∈ tw_tbl := tw_inK tw_s3 206 rfl rfl
set_option maxRecDepth 20000 in
theorem wd_687 : (Jvm.Cond.methodLink "ShippedClass$Layout" (86 : Nat) ({ cls := "ShippedClass$Layout", name := "codeOf", desc := "(I)I" } : Jvm.MethodName)) ∈ tw_tbl := tw_inK tw_s3 207 rfl rfl
set_option maxRecDepth 20000 in
theorem wd_688 : (Jvm.Cond.methodLink "ShippedClass$Layout" (89 : Nat) ({ cls := "ShippedClass$Image", name := "fourAt", desc := "(I)J" } : Jvm.MethodName)) ∈ tw_tbl := tw_inK tw_s3 208 rfl rfl
set_option maxRecDepth 20000 in
theorem wd_689 : (Jvm.Cond.methodLink "ShippedClass$Policy" (121 : Nat) ({ cls := "ShippedClass$Layout", name := "stackOf", desc := "(I)I" } : Jvm.MethodName)) ∈ tw_tbl := tw_inK tw_s3 209 rfl rfl
set_option maxRecDepth 20000 in
theorem wd_690 : (Jvm.Cond.instanceMethod ({ cls := "ShippedClass$Layout", name := "stackOf", desc := "(I)I" } : Jvm.MethodName)) ∈ tw_tbl := tw_inK tw_s3 210 rfl rfl
set_option maxRecDepth 20000 in
theorem wd_691 : (Jvm.Cond.selects "ShippedClass$Layout" ({ cls := "ShippedClass$Layout", name := "stackOf", desc := "(I)I" } : Jvm.MethodName) ({ cls := "ShippedClass$Layout", name := "stackOf", desc := "(I)I" } : Jvm.MethodName)) ∈ tw_tbl := tw_inK tw_s3 211 rfl rfl
set_option maxRecDepth 20000 in
theorem wd_692 : (Jvm.Cond.code ({ cls := "ShippedClass$Layout", name := "stackOf", desc := "(I)I" } : Jvm.MethodName) prog_6_method_18_code (2 : Nat) (Option.some Jvm.ClassFile.FieldType.int)) ∈ tw_tbl := tw_inK tw_s3 212 rfl rfl
set_option maxRecDepth 20000 in
theorem wd_693 : (Jvm.Cond.methodLink "ShippedClass$Policy" (124 : Nat) ({ cls := "ShippedClass$Layout", name := "localsOf", desc := "(I)I" } : Jvm.MethodName)) ∈ tw_tbl := tw_inK tw_s3 213 rfl rfl
set_option maxRecDepth 20000 in
theorem wd_694 : (Jvm.Cond.instanceMethod ({ cls := "ShippedClass$Layout", name := "localsOf", desc := "(I)I" } : Jvm.MethodName)) ∈ tw_tbl := tw_inK tw_s3 214 rfl rfl
set_option maxRecDepth 20000 in
theorem wd_695 : (Jvm.Cond.selects "ShippedClass$Layout" ({ cls := "ShippedClass$Layout", name := "localsOf", desc := "(I)I" } : Jvm.MethodName) ({ cls := "ShippedClass$Layout", name := "localsOf", desc := "(I)I" } : Jvm.MethodName)) ∈ tw_tbl := tw_inK tw_s3 215 rfl rfl
set_option maxRecDepth 20000 in
theorem wd_696 : (Jvm.Cond.code ({ cls := "ShippedClass$Layout", name := "localsOf", desc := "(I)I" } : Jvm.MethodName) prog_6_method_19_code (2 : Nat) (Option.some Jvm.ClassFile.FieldType.int)) ∈ tw_tbl := tw_inK tw_s3 216 rfl rfl
set_option maxRecDepth 20000 in
theorem wd_697 : (Jvm.Cond.methodLink "ShippedClass" (124 : Nat) ({ cls := "ShippedClass$Verifier", name := "verifies", desc := "(LShippedClass$Layout;LShippedClass$Finding;)Z" } : Jvm.MethodName)) ∈ tw_tbl := tw_inK tw_s3 217 rfl rfl
set_option maxRecDepth 20000 in
theorem wd_698 : (Jvm.Cond.instanceMethod ({ cls := "ShippedClass$Verifier", name := "verifies", desc := "(LShippedClass$Layout;LShippedClass$Finding;)Z" } : Jvm.MethodName)) ∈ tw_tbl := tw_inK tw_s3 218 rfl rfl
set_option maxRecDepth 20000 in
theorem wd_699 : (Jvm.Cond.selects "ShippedClass$Verifier" ({ cls := "ShippedClass$Verifier", name := "verifies", desc := "(LShippedClass$Layout;LShippedClass$Finding;)Z" } : Jvm.MethodName) ({ cls := "ShippedClass$Verifier", name := "verifies", desc := "(LShippedClass$Layout;LShippedClass$Finding;)Z" } : Jvm.MethodName)) ∈ tw_tbl := tw_inK tw_s3 219 rfl rfl
set_option maxRecDepth 20000 in
theorem wd_700 : (Jvm.Cond.code ({ cls := "ShippedClass$Verifier", name := "verifies", desc := "(LShippedClass$Layout;LShippedClass$Finding;)Z" } : Jvm.MethodName) prog_12_method_2_code (4 : Nat) (Option.some Jvm.ClassFile.FieldType.boolean)) ∈ tw_tbl := tw_inK tw_s3 220 rfl rfl
set_option maxRecDepth 20000 in
theorem wd_701 : (Jvm.Cond.methodLink "ShippedClass$Verifier" (51 : Nat) ({ cls := "ShippedClass$Layout", name := "codeOf", desc := "(I)I" } : Jvm.MethodName)) ∈ tw_tbl := tw_inK tw_s3 221 rfl rfl
set_option maxRecDepth 20000 in
theorem wd_702 : (Jvm.Cond.methodLink "ShippedClass$Verifier" (55 : Nat) ({ cls := "ShippedClass$Verifier", name := "isMethodRight", desc := "(I)Z" } : Jvm.MethodName)) ∈ tw_tbl := tw_inK tw_s3 222 rfl rfl
set_option maxRecDepth 20000 in
theorem wd_704 : (Jvm.Cond.instanceMethod ({ cls := "ShippedClass$Verifier", name := "isMethodRight", desc := "(I)Z" } : Jvm.MethodName)) ∈ tw_tbl := tw_inK tw_s3 224 rfl rfl
set_option maxRecDepth 20000 in
theorem wd_705 : (Jvm.Cond.code ({ cls := "ShippedClass$Verifier", name := "isMethodRight", desc := "(I)Z" } : Jvm.MethodName) prog_12_method_3_code (5 : Nat) (Option.some Jvm.ClassFile.FieldType.boolean)) ∈ tw_tbl := tw_inK tw_s3 225 rfl rfl
set_option maxRecDepth 20000 in
theorem wd_706 : (Jvm.Cond.methodLink "ShippedClass$Verifier" (59 : Nat) ({ cls := "ShippedClass$Layout", name := "instructionsAt", desc := "(I)I" } : Jvm.MethodName)) ∈ tw_tbl := tw_inK tw_s3 226 rfl rfl
set_option maxRecDepth 20000 in
theorem wd_707 : (Jvm.Cond.instanceMethod ({ cls := "ShippedClass$Layout", name := "instructionsAt", desc := "(I)I" } : Jvm.MethodName)) ∈ tw_tbl := tw_inK tw_s3 227 rfl rfl
set_option maxRecDepth 20000 in
theorem wd_708 : (Jvm.Cond.selects "ShippedClass$Layout" ({ cls := "ShippedClass$Layout", name := "instructionsAt", desc := "(I)I" } : Jvm.MethodName) ({ cls := "ShippedClass$Layout", name := "instructionsAt", desc := "(I)I" } : Jvm.MethodName)) ∈ tw_tbl := tw_inK tw_s3 228 rfl rfl
set_option maxRecDepth 20000 in
theorem wd_709 : (Jvm.Cond.code ({ cls := "ShippedClass$Layout", name := "instructionsAt", desc := "(I)I" } : Jvm.MethodName) prog_6_method_20_code (2 : Nat) (Option.some Jvm.ClassFile.FieldType.int)) ∈ tw_tbl := tw_inK tw_s3 229 rfl rfl
set_option maxRecDepth 20000 in
theorem wd_710 : (Jvm.Cond.methodLink "ShippedClass$Verifier" (65 : Nat) ({ cls := "ShippedClass$Layout", name := "lengthOf", desc := "(I)I" } : Jvm.MethodName)) ∈ tw_tbl := tw_inK tw_s3 230 rfl rfl
set_option maxRecDepth 20000 in
theorem wd_711 : (Jvm.Cond.methodLink "ShippedClass$Verifier" (71 : Nat) ({ cls := "ShippedClass$Verifier", name := "areInstructionsRight", desc := "()Z" } : Jvm.MethodName)) ∈ tw_tbl := tw_inK tw_s3 231 rfl rfl
set_option maxRecDepth 20000 in
theorem wd_713 : (Jvm.Cond.instanceMethod ({ cls := "ShippedClass$Verifier", name := "areInstructionsRight", desc := "()Z" } : Jvm.MethodName)) ∈ tw_tbl := tw_inK tw_s3 233 rfl rfl
set_option maxRecDepth 20000 in
theorem wd_714 : (Jvm.Cond.code ({ cls := "ShippedClass$Verifier", name := "areInstructionsRight", desc := "()Z" } : Jvm.MethodName) prog_12_method_4_code (3 : Nat) (Option.some Jvm.ClassFile.FieldType.boolean)) ∈ tw_tbl := tw_inK tw_s3 234 rfl rfl
set_option maxRecDepth 20000 in
theorem wd_715 : (Jvm.Cond.methodLink "ShippedClass$Verifier" (108 : Nat) ({ cls := "ShippedClass$Image", name := "oneAt", desc := "(I)I" } : Jvm.MethodName)) ∈ tw_tbl := tw_inK tw_s3 235 rfl rfl
set_option maxRecDepth 20000 in
theorem wd_716 : (Jvm.Cond.methodLink "ShippedClass$Verifier" (113 : Nat) ({ cls := "ShippedClass$Opcodes", name := "lengthOf", desc := "(I)I" } : Jvm.MethodName)) ∈ tw_tbl := tw_inK tw_s3 236 rfl rfl
set_option maxRecDepth 20000 in
theorem wd_717 : (Jvm.Cond.static ({ cls := "ShippedClass$Opcodes", name := "lengthOf", desc := "(I)I" } : Jvm.MethodName)) ∈ tw_tbl := tw_inK tw_s3 237 rfl rfl
set_option maxRecDepth 20000 in
theorem wd_718 : (Jvm.Cond.code ({ cls := "ShippedClass$Opcodes", name := "lengthOf", desc := "(I)I" } : Jvm.MethodName) prog_9_method_3_code (1 : Nat) (Option.some Jvm.ClassFile.FieldType.int)) ∈ tw_tbl := tw_inK tw_s3 238 rfl rfl
set_option maxRecDepth 20000 in
theorem wd_719 : (Jvm.Cond.methodLink "ShippedClass$Opcodes" (9 : Nat) ({ cls := "ShippedClass$Opcodes", name := "isWithin", desc := "(III)Z" } : Jvm.MethodName)) ∈ tw_tbl := tw_inK tw_s3 239 rfl rfl
set_option maxRecDepth 20000 in
theorem wd_720 : (Jvm.Cond.static ({ cls := "ShippedClass$Opcodes", name := "isWithin", desc := "(III)Z" } : Jvm.MethodName)) ∈ tw_tbl := tw_inK tw_s4 0 rfl rfl
set_option maxRecDepth 20000 in
theorem wd_721 : (Jvm.Cond.code ({ cls := "ShippedClass$Opcodes", name := "isWithin", desc := "(III)Z" } : Jvm.MethodName) prog_9_method_2_code (3 : Nat) (Option.some Jvm.ClassFile.FieldType.boolean)) ∈ tw_tbl := tw_inK tw_s4 1 rfl rfl
set_option maxRecDepth 20000 in
theorem wd_722 : (Jvm.Cond.methodLink "ShippedClass$Opcodes" (15 : Nat) ({ cls := "ShippedClass$Opcodes", name := "isAlone", desc := "(I)Z" } : Jvm.MethodName)) ∈ tw_tbl := tw_inK tw_s4 2 rfl rfl
set_option maxRecDepth 20000 in
theorem wd_723 : (Jvm.Cond.static ({ cls := "ShippedClass$Opcodes", name := "isAlone", desc := "(I)Z" } : Jvm.MethodName)) ∈ tw_tbl := tw_inK tw_s4 3 rfl rfl
set_option maxRecDepth 20000 in
theorem wd_724 : (Jvm.Cond.code ({ cls := "ShippedClass$Opcodes", name := "isAlone", desc := "(I)Z" } : Jvm.MethodName) prog_9_method_4_code (1 : Nat) (Option.some Jvm.ClassFile.FieldType.boolean)) ∈ tw_tbl := tw_inK tw_s4 4 rfl rfl
set_option maxRecDepth 20000 in
theorem wd_725 : (Jvm.Cond.methodLink "ShippedClass$Opcodes" (19 : Nat) ({ cls := "ShippedClass$Opcodes", name := "isArithmetic", desc := "(I)Z" } : Jvm.MethodName)) ∈ tw_tbl := tw_inK tw_s4 5 rfl rfl
set_option maxRecDepth 20000 in
theorem wd_726 : (Jvm.Cond.static ({ cls := "ShippedClass$Opcodes", name := "isArithmetic", desc := "(I)Z" } : Jvm.MethodName)) ∈ tw_tbl := tw_inK tw_s4 6 rfl rfl
set_option maxRecDepth 20000 in
theorem wd_727 : (Jvm.Cond.code ({ cls := "ShippedClass$Opcodes", name := "isArithmetic", desc := "(I)Z" } : Jvm.MethodName) prog_9_method_5_code (1 : Nat) (Option.some Jvm.ClassFile.FieldType.boolean)) ∈ tw_tbl := tw_inK tw_s4 7 rfl rfl
set_option maxRecDepth 20000 in
theorem wd_728 : (Jvm.Cond.methodLink "ShippedClass$Verifier" (86 : Nat) ({ cls := "ShippedClass$Finding", name := "tell", desc := "(II)Z" } : Jvm.MethodName)) ∈ tw_tbl := tw_inK tw_s4 8 rfl rfl
set_option maxRecDepth 20000 in
theorem wd_729 : (Jvm.Cond.methodLink "ShippedClass$Verifier" (116 : Nat) ({ cls := "ShippedClass$Frames", name := "setBegin", desc := "(I)V" } : Jvm.MethodName)) ∈ tw_tbl := tw_inK tw_s4 9 rfl rfl
set_option maxRecDepth 20000 in
theorem wd_730 : (Jvm.Cond.instanceMethod ({ cls := "ShippedClass$Frames", name := "setBegin", desc := "(I)V" } : Jvm.MethodName)) ∈ tw_tbl := tw_inK tw_s4 10 rfl rfl
set_option maxRecDepth 20000 in
theorem wd_731 : (Jvm.Cond.selects "ShippedClass$Frames" ({ cls := "ShippedClass$Frames", name := "setBegin", desc := "(I)V" } : Jvm.MethodName) ({ cls := "ShippedClass$Frames", name := "setBegin", desc := "(I)V" } : Jvm.MethodName)) ∈ tw_tbl := tw_inK tw_s4 11 rfl rfl
set_option maxRecDepth 20000 in
theorem wd_732 : (Jvm.Cond.code ({ cls := "ShippedClass$Frames", name := "setBegin", desc := "(I)V" } : Jvm.MethodName) prog_3_method_4_code (2 : Nat) (Option.none : Option Jvm.ClassFile.FieldType)) ∈ tw_tbl := tw_inK tw_s4 12 rfl rfl
set_option maxRecDepth 20000 in
theorem wd_733 : (Jvm.Cond.methodLink "ShippedClass$Frames" (35 : Nat) ({ cls := "ShippedClass$Frames", name := "isThere", desc := "(I)Z" } : Jvm.MethodName)) ∈ tw_tbl := tw_inK tw_s4 13 rfl rfl
set_option maxRecDepth 20000 in
theorem wd_734 : (Jvm.Cond.static ({ cls := "ShippedClass$Frames", name := "isThere", desc := "(I)Z" } : Jvm.MethodName)) ∈ tw_tbl := tw_inK tw_s4 14 rfl rfl
set_option maxRecDepth 20000 in
theorem wd_735 : (Jvm.Cond.code ({ cls := "ShippedClass$Frames", name := "isThere", desc := "(I)Z" } : Jvm.MethodName) prog_3_method_3_code (1 : Nat) (Option.some Jvm.ClassFile.FieldType.boolean)) ∈ tw_tbl := tw_inK tw_s4 15 rfl rfl
set_option maxRecDepth 20000 in
theorem wd_736 : (Jvm.Cond.methodLink "ShippedClass$Verifier" (75 : Nat) ({ cls := "ShippedClass$Verifier", name := "areHandlersRight", desc := "()Z" } : Jvm.MethodName)) ∈ tw_tbl := tw_inK tw_s4 16 rfl rfl
set_option maxRecDepth 20000 in
theorem wd_738 : (Jvm.Cond.instanceMethod ({ cls := "ShippedClass$Verifier", name := "areHandlersRight", desc := "()Z" } : Jvm.MethodName)) ∈ tw_tbl := tw_inK tw_s4 18 rfl rfl
set_option maxRecDepth 20000 in
theorem wd_739 : (Jvm.Cond.code ({ cls := "ShippedClass$Verifier", name := "areHandlersRight", desc := "()Z" } : Jvm.MethodName) prog_12_method_8_code (8 : Nat) (Option.some Jvm.ClassFile.FieldType.boolean)) ∈ tw_tbl := tw_inK tw_s4 19 rfl rfl
set_option maxRecDepth 20000 in
theorem wd_740 : (Jvm.Cond.methodLink "ShippedClass$Verifier" (123 : Nat) ({ cls := "ShippedClass$Image", name := "twoAt", desc := "(I)I" } : Jvm.MethodName)) ∈ tw_tbl := tw_inK tw_s4 20 rfl rfl
set_option maxRecDepth 20000 in
theorem wd_741 : (Jvm.Cond.methodLink "ShippedClass$Verifier" (126 : Nat) ({ cls := "ShippedClass$Verifier", name := "handlerAt", desc := "(I)I" } : Jvm.MethodName)) ∈ tw_tbl := tw_inK tw_s4 21 rfl rfl
set_option maxRecDepth 20000 in
theorem wd_743 : (Jvm.Cond.instanceMethod ({ cls := "ShippedClass$Verifier", name := "handlerAt", desc := "(I)I" } : Jvm.MethodName)) ∈ tw_tbl := tw_inK tw_s4 23 rfl rfl
set_option maxRecDepth 20000 in
theorem wd_744 : (Jvm.Cond.code ({ cls := "ShippedClass$Verifier", name := "handlerAt", desc := "(I)I" } : Jvm.MethodName) prog_12_method_6_code (2 : Nat) (Option.some Jvm.ClassFile.FieldType.int)) ∈ tw_tbl := tw_inK tw_s4 24 rfl rfl
set_option maxRecDepth 20000 in
theorem wd_745 : (Jvm.Cond.methodLink "ShippedClass$Verifier" (129 : Nat) ({ cls := "ShippedClass$Verifier", name := "toldBy", desc := "(II)I" } : Jvm.MethodName)) ∈ tw_tbl := tw_inK tw_s4 25 rfl rfl
set_option maxRecDepth 20000 in
theorem wd_747 : (Jvm.Cond.instanceMethod ({ cls := "ShippedClass$Verifier", name := "toldBy", desc := "(II)I" } : Jvm.MethodName)) ∈ tw_tbl := tw_inK tw_s4 27 rfl rfl
set_option maxRecDepth 20000 in
theorem wd_748 : (Jvm.Cond.code ({ cls := "ShippedClass$Verifier", name := "toldBy", desc := "(II)I" } : Jvm.MethodName) prog_12_method_7_code (3 : Nat) (Option.some Jvm.ClassFile.FieldType.int)) ∈ tw_tbl := tw_inK tw_s4 28 rfl rfl
set_option maxRecDepth 20000 in
theorem wd_749 : (Jvm.Cond.methodLink "ShippedClass$Verifier" (133 : Nat) ({ cls := "ShippedClass$Verifier", name := "isInstruction", desc := "(I)Z" } : Jvm.MethodName)) ∈ tw_tbl := tw_inK tw_s4 29 rfl rfl
set_option maxRecDepth 20000 in
theorem wd_751 : (Jvm.Cond.instanceMethod ({ cls := "ShippedClass$Verifier", name := "isInstruction", desc := "(I)Z" } : Jvm.MethodName)) ∈ tw_tbl := tw_inK tw_s4 31 rfl rfl
set_option maxRecDepth 20000 in
theorem wd_752 : (Jvm.Cond.code ({ cls := "ShippedClass$Verifier", name := "isInstruction", desc := "(I)Z" } : Jvm.MethodName) prog_12_method_5_code (2 : Nat) (Option.some Jvm.ClassFile.FieldType.boolean)) ∈ tw_tbl := tw_inK tw_s4 32 rfl rfl
set_option maxRecDepth 20000 in
theorem wd_753 : (Jvm.Cond.methodLink "ShippedClass$Verifier" (120 : Nat) ({ cls := "ShippedClass$Frames", name := "isBegin", desc := "(I)Z" } : Jvm.MethodName)) ∈ tw_tbl := tw_inK tw_s4 33 rfl rfl
set_option maxRecDepth 20000 in
theorem wd_754 : (Jvm.Cond.instanceMethod ({ cls := "ShippedClass$Frames", name := "isBegin", desc := "(I)Z" } : Jvm.MethodName)) ∈ tw_tbl := tw_inK tw_s4 34 rfl rfl
set_option maxRecDepth 20000 in
theorem wd_755 : (Jvm.Cond.selects "ShippedClass$Frames" ({ cls := "ShippedClass$Frames", name := "isBegin", desc := "(I)Z" } : Jvm.MethodName) ({ cls := "ShippedClass$Frames", name := "isBegin", desc := "(I)Z" } : Jvm.MethodName)) ∈ tw_tbl := tw_inK tw_s4 35 rfl rfl
set_option maxRecDepth 20000 in
theorem wd_756 : (Jvm.Cond.code ({ cls := "ShippedClass$Frames", name := "isBegin", desc := "(I)Z" } : Jvm.MethodName) prog_3_method_5_code (2 : Nat) (Option.some Jvm.ClassFile.FieldType.boolean)) ∈ tw_tbl := tw_inK tw_s4 36 rfl rfl
set_option maxRecDepth 20000 in
theorem wd_757 : (Jvm.Cond.methodLink "ShippedClass$Verifier" (136 : Nat) ({ cls := "ShippedClass$Layout", name := "tagOf", desc := "(I)I" } : Jvm.MethodName)) ∈ tw_tbl := tw_inK tw_s4 37 rfl rfl
set_option maxRecDepth 20000 in
theorem wd_758 : (Jvm.Cond.methodLink "ShippedClass$Verifier" (78 : Nat) ({ cls := "ShippedClass$Machine", name := "begin", desc := "(LShippedClass$Layout;I)I" } : Jvm.MethodName)) ∈ tw_tbl := tw_inK tw_s4 38 rfl rfl
set_option maxRecDepth 20000 in
theorem wd_759 : (Jvm.Cond.instanceMethod ({ cls := "ShippedClass$Machine", name := "begin", desc := "(LShippedClass$Layout;I)I" } : Jvm.MethodName)) ∈ tw_tbl := tw_inK tw_s4 39 rfl rfl
set_option maxRecDepth 20000 in
theorem wd_760 : (Jvm.Cond.selects "ShippedClass$Machine" ({ cls := "ShippedClass$Machine", name := "begin", desc := "(LShippedClass$Layout;I)I" } : Jvm.MethodName) ({ cls := "ShippedClass$Machine", name := "begin", desc := "(LShippedClass$Layout;I)I" } : Jvm.MethodName)) ∈ tw_tbl := tw_inK tw_s4 40 rfl rfl
set_option maxRecDepth 20000 in
theorem wd_761 : (Jvm.Cond.code ({ cls := "ShippedClass$Machine", name := "begin", desc := "(LShippedClass$Layout;I)I" } : Jvm.MethodName) prog_8_method_2_code (9 : Nat) (Option.some Jvm.ClassFile.FieldType.int)) ∈ tw_tbl := tw_inK tw_s4 41 rfl rfl
set_option maxRecDepth 20000 in
theorem wd_762 : (Jvm.Cond.methodLink "ShippedClass$Machine" (25 : Nat) ({ cls := "ShippedClass$Layout", name := "stackOf", desc := "(I)I" } : Jvm.MethodName)) ∈ tw_tbl := tw_inK tw_s4 42 rfl rfl
set_option maxRecDepth 20000 in
theorem wd_763 : (Jvm.Cond.methodLink "ShippedClass$Machine" (31 : Nat) ({ cls := "java/lang/Math", name := "min", desc := "(II)I" } : Jvm.MethodName)) ∈ tw_tbl := tw_inK tw_s4 43 rfl rfl
set_option maxRecDepth 20000 in
theorem wd_764 : (Jvm.Cond.static ({ cls := "java/lang/Math", name := "min", desc := "(II)I" } : Jvm.MethodName)) ∈ tw_tbl := tw_inK tw_s4 44 rfl rfl
set_option maxRecDepth 20000 in
theorem wd_765 : (Jvm.Cond.code ({ cls := "java/lang/Math", name := "min", desc := "(II)I" } : Jvm.MethodName) prog_20_method_69_code (2 : Nat) (Option.some Jvm.ClassFile.FieldType.int)) ∈ tw_tbl := tw_inK tw_s4 45 rfl rfl
set_option maxRecDepth 20000 in
theorem wd_766 : (Jvm.Cond.methodLink "ShippedClass$Machine" (41 : Nat) ({ cls := "ShippedClass$Layout", name := "localsOf", desc := "(I)I" } : Jvm.MethodName)) ∈ tw_tbl := tw_inK tw_s4 46 rfl rfl
set_option maxRecDepth 20000 in
theorem wd_767 : (Jvm.Cond.methodLink "ShippedClass$Machine" (50 : Nat) ({ cls := "java/util/Arrays", name := "fill", desc := "([II)V" } : Jvm.MethodName)) ∈ tw_tbl := tw_inK tw_s4 47 rfl rfl
set_option maxRecDepth 20000 in
theorem wd_768 : (Jvm.Cond.methodLink "ShippedClass$Machine" (56 : Nat) ({ cls := "ShippedClass$Layout", name := "memberAt", desc := "(ZI)I" } : Jvm.MethodName)) ∈ tw_tbl := tw_inK tw_s4 48 rfl rfl
set_option maxRecDepth 20000 in
theorem wd_769 : (Jvm.Cond.methodLink "ShippedClass$Machine" (60 : Nat) ({ cls := "ShippedClass$Layout", name := "typeAt", desc := "(I)I" } : Jvm.MethodName)) ∈ tw_tbl := tw_inK tw_s4 49 rfl rfl
set_option maxRecDepth 20000 in
theorem wd_770 : (Jvm.Cond.methodLink "ShippedClass$Machine" (63 : Nat) ({ cls := "ShippedClass$Layout", name := "textFrom", desc := "(I)I" } : Jvm.MethodName)) ∈ tw_tbl := tw_inK tw_s4 50 rfl rfl
set_option maxRecDepth 20000 in
theorem wd_771 : (Jvm.Cond.methodLink "ShippedClass$Machine" (66 : Nat) ({ cls := "ShippedClass$Layout", name := "textEnd", desc := "(I)I" } : Jvm.MethodName)) ∈ tw_tbl := tw_inK tw_s4 51 rfl rfl
set_option maxRecDepth 20000 in
theorem wd_772 : (Jvm.Cond.methodLink "ShippedClass$Machine" (69 : Nat) ({ cls := "ShippedClass$Machine", name := "spreadTypes", desc := "(II)V" } : Jvm.MethodName)) ∈ tw_tbl := tw_inK tw_s4 52 rfl rfl
set_option maxRecDepth 20000 in
theorem wd_774 : (Jvm.Cond.instanceMethod ({ cls := "ShippedClass$Machine", name := "spreadTypes", desc := "(II)V" } : Jvm.MethodName)) ∈ tw_tbl := tw_inK tw_s4 54 rfl rfl
set_option maxRecDepth 20000 in
theorem wd_775 : (Jvm.Cond.code ({ cls := "ShippedClass$Machine", name := "spreadTypes", desc := "(II)V" } : Jvm.MethodName) prog_8_method_3_code (5 : Nat) (Option.none : Option Jvm.ClassFile.FieldType)) ∈ tw_tbl := tw_inK tw_s4 55 rfl rfl
set_option maxRecDepth 20000 in
theorem wd_776 : (Jvm.Cond.methodLink "ShippedClass$Machine" (99 : Nat) ({ cls := "ShippedClass$Image", name := "oneAt", desc := "(I)I" } : Jvm.MethodName)) ∈ tw_tbl := tw_inK tw_s4 56 rfl rfl
set_option maxRecDepth 20000 in
theorem wd_777 : (Jvm.Cond.methodLink "ShippedClass$Machine" (83 : Nat) ({ cls := "ShippedClass$Image", name := "twoAt", desc := "(I)I" } : Jvm.MethodName)) ∈ tw_tbl := tw_inK tw_s4 57 rfl rfl
set_option maxRecDepth 20000 in
theorem wd_778 : (Jvm.Cond.methodLink "ShippedClass$Machine" (91 : Nat) ({ cls := "ShippedClass$Grammar", name := "kindOf", desc := "(I)I" } : Jvm.MethodName)) ∈ tw_tbl := tw_inK tw_s4 58 rfl rfl
set_option maxRecDepth 20000 in
theorem wd_779 : (Jvm.Cond.methodLink "ShippedClass$Machine" (96 : Nat) ({ cls := "ShippedClass$Machine", name := "setLocal", desc := "(II)V" } : Jvm.MethodName)) ∈ tw_tbl := tw_inK tw_s4 59 rfl rfl
set_option maxRecDepth 20000 in
theorem wd_781 : (Jvm.Cond.instanceMethod ({ cls := "ShippedClass$Machine", name := "setLocal", desc := "(II)V" } : Jvm.MethodName)) ∈ tw_tbl := tw_inK tw_s4 61 rfl rfl
set_option maxRecDepth 20000 in
theorem wd_782 : (Jvm.Cond.code ({ cls := "ShippedClass$Machine", name := "setLocal", desc := "(II)V" } : Jvm.MethodName) prog_8_method_6_code (3 : Nat) (Option.none : Option Jvm.ClassFile.FieldType)) ∈ tw_tbl := tw_inK tw_s4 62 rfl rfl
set_option maxRecDepth 20000 in
theorem wd_783 : (Jvm.Cond.methodLink "ShippedClass$Machine" (168 : Nat) ({ cls := "ShippedClass$Machine", name := "freeOtherHalf", desc := "(I)V" } : Jvm.MethodName)) ∈ tw_tbl := tw_inK tw_s4 63 rfl rfl
set_option maxRecDepth 20000 in
theorem wd_785 : (Jvm.Cond.instanceMethod ({ cls := "ShippedClass$Machine", name := "freeOtherHalf", desc := "(I)V" } : Jvm.MethodName)) ∈ tw_tbl := tw_inK tw_s4 65 rfl rfl
set_option maxRecDepth 20000 in
theorem wd_786 : (Jvm.Cond.code ({ cls := "ShippedClass$Machine", name := "freeOtherHalf", desc := "(I)V" } : Jvm.MethodName) prog_8_method_7_code (2 : Nat) (Option.none : Option Jvm.ClassFile.FieldType)) ∈ tw_tbl := tw_inK tw_s4 66 rfl rfl
set_option maxRecDepth 20000 in
theorem wd_787 : (Jvm.Cond.methodLink "ShippedClass$Verifier" (82 : Nat) ({ cls := "ShippedClass$Layout", name := "memberAt", desc := "(ZI)I" } : Jvm.MethodName)) ∈ tw_tbl := tw_inK tw_s4 67 rfl rfl
set_option maxRecDepth 20000 in
theorem wd_788 : (Jvm.Cond.methodLink "ShippedClass$Verifier" (92 : Nat) ({ cls := "ShippedClass$Frames", name := "lay", desc := "(LShippedClass$Machine;[J)V" } : Jvm.MethodName)) ∈ tw_tbl := tw_inK tw_s4 68 rfl rfl
set_option maxRecDepth 20000 in
theorem wd_789 : (Jvm.Cond.static ({ cls := "ShippedClass$Frames", name := "lay", desc := "(LShippedClass$Machine;[J)V" } : Jvm.MethodName)) ∈ tw_tbl := tw_inK tw_s4 69 rfl rfl
set_option maxRecDepth 20000 in
theorem wd_790 : (Jvm.Cond.code ({ cls := "ShippedClass$Frames", name := "lay", desc := "(LShippedClass$Machine;[J)V" } : Jvm.MethodName) prog_3_method_16_code (3 : Nat) (Option.none : Option Jvm.ClassFile.FieldType)) ∈ tw_tbl := tw_inK tw_s4 70 rfl rfl
set_option maxRecDepth 20000 in
theorem wd_791 : (Jvm.Cond.methodLink "ShippedClass$Frames" (71 : Nat) ({ cls := "java/util/Arrays", name := "fill", desc := "([JJ)V" } : Jvm.MethodName)) ∈ tw_tbl := tw_inK tw_s4 71 rfl rfl
set_option maxRecDepth 20000 in
theorem wd_792 : (Jvm.Cond.static ({ cls := "java/util/Arrays", name := "fill", desc := "([JJ)V" } : Jvm.MethodName)) ∈ tw_tbl := tw_inK tw_s4 72 rfl rfl
set_option maxRecDepth 20000 in
theorem wd_793 : (Jvm.Cond.code ({ cls := "java/util/Arrays", name := "fill", desc := "([JJ)V" } : Jvm.MethodName) prog_27_method_101_code (5 : Nat) (Option.none : Option Jvm.ClassFile.FieldType)) ∈ tw_tbl := tw_inK tw_s4 73 rfl rfl
set_option maxRecDepth 20000 in
theorem wd_794 : (Jvm.Cond.methodLink "ShippedClass$Frames" (74 : Nat) ({ cls := "ShippedClass$Frames", name := "setKindIn", desc := "([JIII)V" } : Jvm.MethodName)) ∈ tw_tbl := tw_inK tw_s4 74 rfl rfl
set_option maxRecDepth 20000 in
theorem wd_795 : (Jvm.Cond.static ({ cls := "ShippedClass$Frames", name := "setKindIn", desc := "([JIII)V" } : Jvm.MethodName)) ∈ tw_tbl := tw_inK tw_s4 75 rfl rfl
set_option maxRecDepth 20000 in
theorem wd_796 : (Jvm.Cond.code ({ cls := "ShippedClass$Frames", name := "setKindIn", desc := "([JIII)V" } : Jvm.MethodName) prog_3_method_9_code (6 : Nat) (Option.none : Option Jvm.ClassFile.FieldType)) ∈ tw_tbl := tw_inK tw_s4 76 rfl rfl
set_option maxRecDepth 20000 in
theorem wd_797 : (Jvm.Cond.constantLong "ShippedClass$Frames" (43 : Nat) (15 : Int64)) ∈ tw_tbl := tw_inK tw_s4 77 rfl rfl
set_option maxRecDepth 20000 in
theorem wd_798 : (Jvm.Cond.constantLong "ShippedClass$Frames" (45 : Nat) (-1 : Int64)) ∈ tw_tbl := tw_inK tw_s4 78 rfl rfl
set_option maxRecDepth 20000 in
theorem wd_799 : (Jvm.Cond.methodLink "ShippedClass$Verifier" (96 : Nat) ({ cls := "ShippedClass$Frames", name := "goOn", desc := "(I[JI)I" } : Jvm.MethodName)) ∈ tw_tbl := tw_inK tw_s4 79 rfl rfl
set_option maxRecDepth 20000 in
theorem wd_800 : (Jvm.Cond.instanceMethod ({ cls := "ShippedClass$Frames", name := "goOn", desc := "(I[JI)I" } : Jvm.MethodName)) ∈ tw_tbl := tw_inK tw_s4 80 rfl rfl
set_option maxRecDepth 20000 in
theorem wd_801 : (Jvm.Cond.selects "ShippedClass$Frames" ({ cls := "ShippedClass$Frames", name := "goOn", desc := "(I[JI)I" } : Jvm.MethodName) ({ cls := "ShippedClass$Frames", name := "goOn", desc := "(I[JI)I" } : Jvm.MethodName)) ∈ tw_tbl := tw_inK tw_s4 81 rfl rfl
set_option maxRecDepth 20000 in
theorem wd_802 : (Jvm.Cond.code ({ cls := "ShippedClass$Frames", name := "goOn", desc := "(I[JI)I" } : Jvm.MethodName) prog_3_method_17_code (6 : Nat) (Option.some Jvm.ClassFile.FieldType.int)) ∈ tw_tbl := tw_inK tw_s4 82 rfl rfl
set_option maxRecDepth 20000 in
theorem wd_803 : (Jvm.Cond.methodLink "ShippedClass$Frames" (78 : Nat) ({ cls := "java/lang/System", name := "arraycopy", desc := "(Ljava/lang/Object;ILjava/lang/Object;II)V" } : Jvm.MethodName)) ∈ tw_tbl := tw_inK tw_s4 83 rfl rfl
set_option maxRecDepth 20000 in
theorem wd_804 : (Jvm.Cond.methodLink "ShippedClass$Frames" (84 : Nat) ({ cls := "ShippedClass$Frames", name := "makeWait", desc := "(I)V" } : Jvm.MethodName)) ∈ tw_tbl := tw_inK tw_s4 84 rfl rfl
set_option maxRecDepth 20000 in
theorem wd_806 : (Jvm.Cond.instanceMethod ({ cls := "ShippedClass$Frames", name := "makeWait", desc := "(I)V" } : Jvm.MethodName)) ∈ tw_tbl := tw_inK tw_s4 86 rfl rfl
set_option maxRecDepth 20000 in
theorem wd_807 : (Jvm.Cond.code ({ cls := "ShippedClass$Frames", name := "makeWait", desc := "(I)V" } : Jvm.MethodName) prog_3_method_13_code (2 : Nat) (Option.none : Option Jvm.ClassFile.FieldType)) ∈ tw_tbl := tw_inK tw_s4 87 rfl rfl
set_option maxRecDepth 20000 in
theorem wd_808 : (Jvm.Cond.methodLink "ShippedClass$Frames" (53 : Nat) ({ cls := "java/lang/Math", name := "min", desc := "(II)I" } : Jvm.MethodName)) ∈ tw_tbl := tw_inK tw_s4 88 rfl rfl
set_option maxRecDepth 20000 in
theorem wd_809 : (Jvm.Cond.methodLink "ShippedClass$Frames" (88 : Nat) ({ cls := "ShippedClass$Frames", name := "meetWord", desc := "(I[JI)Z" } : Jvm.MethodName)) ∈ tw_tbl := tw_inK tw_s4 89 rfl rfl
set_option maxRecDepth 20000 in
theorem wd_811 : (Jvm.Cond.instanceMethod ({ cls := "ShippedClass$Frames", name := "meetWord", desc := "(I[JI)Z" } : Jvm.MethodName)) ∈ tw_tbl := tw_inK tw_s4 91 rfl rfl
set_option maxRecDepth 20000 in
theorem wd_812 : (Jvm.Cond.code ({ cls := "ShippedClass$Frames", name := "meetWord", desc := "(I[JI)Z" } : Jvm.MethodName) prog_3_method_18_code (7 : Nat) (Option.some Jvm.ClassFile.FieldType.boolean)) ∈ tw_tbl := tw_inK tw_s4 92 rfl rfl
set_option maxRecDepth 20000 in
theorem wd_813 : (Jvm.Cond.methodLink "ShippedClass$Frames" (39 : Nat) ({ cls := "ShippedClass$Frames", name := "kindIn", desc := "([JII)I" } : Jvm.MethodName)) ∈ tw_tbl := tw_inK tw_s4 93 rfl rfl
set_option maxRecDepth 20000 in
theorem wd_814 : (Jvm.Cond.static ({ cls := "ShippedClass$Frames", name := "kindIn", desc := "([JII)I" } : Jvm.MethodName)) ∈ tw_tbl := tw_inK tw_s4 94 rfl rfl
set_option maxRecDepth 20000 in
theorem wd_815 : (Jvm.Cond.code ({ cls := "ShippedClass$Frames", name := "kindIn", desc := "([JII)I" } : Jvm.MethodName) prog_3_method_8_code (3 : Nat) (Option.some Jvm.ClassFile.FieldType.int)) ∈ tw_tbl := tw_inK tw_s4 95 rfl rfl
set_option maxRecDepth 20000 in
theorem wd_816 : (Jvm.Cond.constant "ShippedClass$Verifier" (100 : Nat) (1000000 : Int32)) ∈ tw_tbl := tw_inK tw_s4 96 rfl rfl
set_option maxRecDepth 20000 in
theorem wd_817 : (Jvm.Cond.methodLink "ShippedClass$Verifier" (101 : Nat) ({ cls := "ShippedClass$Frames", name := "firstWaiting", desc := "()I" } : Jvm.MethodName)) ∈ tw_tbl := tw_inK tw_s4 97 rfl rfl
set_option maxRecDepth 20000 in
theorem wd_818 : (Jvm.Cond.instanceMethod ({ cls := "ShippedClass$Frames", name := "firstWaiting", desc := "()I" } : Jvm.MethodName)) ∈ tw_tbl := tw_inK tw_s4 98 rfl rfl
set_option maxRecDepth 20000 in
theorem wd_819 : (Jvm.Cond.selects "ShippedClass$Frames" ({ cls := "ShippedClass$Frames", name := "firstWaiting", desc := "()I" } : Jvm.MethodName) ({ cls := "ShippedClass$Frames", name := "firstWaiting", desc := "()I" } : Jvm.MethodName)) ∈ tw_tbl := tw_inK tw_s4 99 rfl rfl
set_option maxRecDepth 20000 in
theorem wd_820 : (Jvm.Cond.code ({ cls := "ShippedClass$Frames", name := "firstWaiting", desc := "()I" } : Jvm.MethodName) prog_3_method_12_code (2 : Nat) (Option.some Jvm.ClassFile.FieldType.int)) ∈ tw_tbl := tw_inK tw_s4 100 rfl rfl
set_option maxRecDepth 20000 in
theorem wd_821 : (Jvm.Cond.methodLink "ShippedClass$Verifier" (105 : Nat) ({ cls := "ShippedClass$Verifier", name := "goThrough", desc := "(I)I" } : Jvm.MethodName)) ∈ tw_tbl := tw_inK tw_s4 101 rfl rfl
set_option maxRecDepth 20000 in
theorem wd_823 : (Jvm.Cond.instanceMethod ({ cls := "ShippedClass$Verifier", name := "goThrough", desc := "(I)I" } : Jvm.MethodName)) ∈ tw_tbl := tw_inK tw_s4 103 rfl rfl
set_option maxRecDepth 20000 in
theorem wd_824 : (Jvm.Cond.code ({ cls := "ShippedClass$Verifier", name := "goThrough", desc := "(I)I" } : Jvm.MethodName) prog_12_method_9_code (5 : Nat) (Option.some Jvm.ClassFile.FieldType.int)) ∈ tw_tbl := tw_inK tw_s4 104 rfl rfl
set_option maxRecDepth 20000 in
theorem wd_825 : (Jvm.Cond.methodLink "ShippedClass$Verifier" (139 : Nat) ({ cls := "ShippedClass$Frames", name := "copyCaught", desc := "(I[J)V" } : Jvm.MethodName)) ∈ tw_tbl := tw_inK tw_s4 105 rfl rfl
set_option maxRecDepth 20000 in
theorem wd_826 : (Jvm.Cond.instanceMethod ({ cls := "ShippedClass$Frames", name := "copyCaught", desc := "(I[J)V" } : Jvm.MethodName)) ∈ tw_tbl := tw_inK tw_s4 106 rfl rfl
set_option maxRecDepth 20000 in
theorem wd_827 : (Jvm.Cond.selects "ShippedClass$Frames" ({ cls := "ShippedClass$Frames", name := "copyCaught", desc := "(I[J)V" } : Jvm.MethodName) ({ cls := "ShippedClass$Frames", name := "copyCaught", desc := "(I[J)V" } : Jvm.MethodName)) ∈ tw_tbl := tw_inK tw_s4 107 rfl rfl
set_option maxRecDepth 20000 in
theorem wd_828 : (Jvm.Cond.code ({ cls := "ShippedClass$Frames", name := "copyCaught", desc := "(I[J)V" } : Jvm.MethodName) prog_3_method_15_code (3 : Nat) (Option.none : Option Jvm.ClassFile.FieldType)) ∈ tw_tbl := tw_inK tw_s4 108 rfl rfl
set_option maxRecDepth 20000 in
theorem wd_829 : (Jvm.Cond.methodLink "ShippedClass$Verifier" (143 : Nat) ({ cls := "ShippedClass$Frames", name := "takeUp", desc := "(ILShippedClass$Machine;)V" } : Jvm.MethodName)) ∈ tw_tbl := tw_inK tw_s4 109 rfl rfl
set_option maxRecDepth 20000 in
theorem wd_830 : (Jvm.Cond.instanceMethod ({ cls := "ShippedClass$Frames", name := "takeUp", desc := "(ILShippedClass$Machine;)V" } : Jvm.MethodName)) ∈ tw_tbl := tw_inK tw_s4 110 rfl rfl
set_option maxRecDepth 20000 in
theorem wd_831 : (Jvm.Cond.selects "ShippedClass$Frames" ({ cls := "ShippedClass$Frames", name := "takeUp", desc := "(ILShippedClass$Machine;)V" } : Jvm.MethodName) ({ cls := "ShippedClass$Frames", name := "takeUp", desc := "(ILShippedClass$Machine;)V" } : Jvm.MethodName)) ∈ tw_tbl := tw_inK tw_s4 111 rfl rfl
set_option maxRecDepth 20000 in
theorem wd_832 : (Jvm.Cond.code ({ cls := "ShippedClass$Frames", name := "takeUp", desc := "(ILShippedClass$Machine;)V" } : Jvm.MethodName) prog_3_method_14_code (4 : Nat) (Option.none : Option Jvm.ClassFile.FieldType)) ∈ tw_tbl := tw_inK tw_s4 112 rfl rfl
set_option maxRecDepth 20000 in
theorem wd_833 : (Jvm.Cond.methodLink "ShippedClass$Verifier" (147 : Nat) ({ cls := "ShippedClass$Machine", name := "act", desc := "(I)I" } : Jvm.MethodName)) ∈ tw_tbl := tw_inK tw_s4 113 rfl rfl
set_option maxRecDepth 20000 in
theorem wd_834 : (Jvm.Cond.instanceMethod ({ cls := "ShippedClass$Machine", name := "act", desc := "(I)I" } : Jvm.MethodName)) ∈ tw_tbl := tw_inK tw_s4 114 rfl rfl
set_option maxRecDepth 20000 in
theorem wd_835 : (Jvm.Cond.selects "ShippedClass$Machine" ({ cls := "ShippedClass$Machine", name := "act", desc := "(I)I" } : Jvm.MethodName) ({ cls := "ShippedClass$Machine", name := "act", desc := "(I)I" } : Jvm.MethodName)) ∈ tw_tbl := tw_inK tw_s4 115 rfl rfl
set_option maxRecDepth 20000 in
theorem wd_836 : (Jvm.Cond.code ({ cls := "ShippedClass$Machine", name := "act", desc := "(I)I" } : Jvm.MethodName) prog_8_method_4_code (6 : Nat) (Option.some Jvm.ClassFile.FieldType.int)) ∈ tw_tbl := tw_inK tw_s4 116 rfl rfl
set_option maxRecDepth 20000 in
theorem wd_837 : (Jvm.Cond.methodLink "ShippedClass$Machine" (102 : Nat) ({ cls := "ShippedClass$Opcodes", name := "tellsLocal", desc := "(I)Z" } : Jvm.MethodName)) ∈ tw_tbl := tw_inK tw_s4 117 rfl rfl
set_option maxRecDepth 20000 in
theorem wd_838 : (Jvm.Cond.static ({ cls := "ShippedClass$Opcodes", name := "tellsLocal", desc := "(I)Z" } : Jvm.MethodName)) ∈ tw_tbl := tw_inK tw_s4 118 rfl rfl
set_option maxRecDepth 20000 in
theorem wd_839 : (Jvm.Cond.code ({ cls := "ShippedClass$Opcodes", name := "tellsLocal", desc := "(I)Z" } : Jvm.MethodName) prog_9_method_6_code (1 : Nat) (Option.some Jvm.ClassFile.FieldType.boolean)) ∈ tw_tbl := tw_inK tw_s4 119 rfl rfl
set_option maxRecDepth 20000 in
theorem wd_840 : (Jvm.Cond.methodLink "ShippedClass$Opcodes" (22 : Nat) ({ cls := "ShippedClass$Opcodes", name := "isStore", desc := "(I)Z" } : Jvm.MethodName)) ∈ tw_tbl := tw_inK tw_s4 120 rfl rfl
set_option maxRecDepth 20000 in
theorem wd_841 : (Jvm.Cond.static ({ cls := "ShippedClass$Opcodes", name := "isStore", desc := "(I)Z" } : Jvm.MethodName)) ∈ tw_tbl := tw_inK tw_s4 121 rfl rfl
set_option maxRecDepth 20000 in
theorem wd_842 : (Jvm.Cond.code ({ cls := "ShippedClass$Opcodes", name := "isStore", desc := "(I)Z" } : Jvm.MethodName) prog_9_method_7_code (1 : Nat) (Option.some Jvm.ClassFile.FieldType.boolean)) ∈ tw_tbl := tw_inK tw_s4 122 rfl rfl
set_option maxRecDepth 20000 in
theorem wd_843 : (Jvm.Cond.methodLink "ShippedClass$Machine" (108 : Nat) ({ cls := "ShippedClass$Machine", name := "actOnLocal", desc := "(II)I" } : Jvm.MethodName)) ∈ tw_tbl := tw_inK tw_s4 123 rfl rfl
set_option maxRecDepth 20000 in
theorem wd_845 : (Jvm.Cond.instanceMethod ({ cls := "ShippedClass$Machine", name := "actOnLocal", desc := "(II)I" } : Jvm.MethodName)) ∈ tw_tbl := tw_inK tw_s4 125 rfl rfl
set_option maxRecDepth 20000 in
theorem wd_846 : (Jvm.Cond.code ({ cls := "ShippedClass$Machine", name := "actOnLocal", desc := "(II)I" } : Jvm.MethodName) prog_8_method_5_code (6 : Nat) (Option.some Jvm.ClassFile.FieldType.int)) ∈ tw_tbl := tw_inK tw_s4 126 rfl rfl
set_option maxRecDepth 20000 in
theorem wd_847 : (Jvm.Cond.methodLink "ShippedClass$Machine" (153 : Nat) ({ cls := "ShippedClass$Opcodes", name := "localOf", desc := "(II)I" } : Jvm.MethodName)) ∈ tw_tbl := tw_inK tw_s4 127 rfl rfl
set_option maxRecDepth 20000 in
theorem wd_848 : (Jvm.Cond.static ({ cls := "ShippedClass$Opcodes", name := "localOf", desc := "(II)I" } : Jvm.MethodName)) ∈ tw_tbl := tw_inK tw_s4 128 rfl rfl
set_option maxRecDepth 20000 in
theorem wd_849 : (Jvm.Cond.code ({ cls := "ShippedClass$Opcodes", name := "localOf", desc := "(II)I" } : Jvm.MethodName) prog_9_method_15_code (2 : Nat) (Option.some Jvm.ClassFile.FieldType.int)) ∈ tw_tbl := tw_inK tw_s4 129 rfl rfl
set_option maxRecDepth 20000 in
theorem wd_850 : (Jvm.Cond.methodLink "ShippedClass$Machine" (156 : Nat) ({ cls := "ShippedClass$Opcodes", name := "localKindOf", desc := "(I)I" } : Jvm.MethodName)) ∈ tw_tbl := tw_inK tw_s4 130 rfl rfl
set_option maxRecDepth 20000 in
theorem wd_851 : (Jvm.Cond.static ({ cls := "ShippedClass$Opcodes", name := "localKindOf", desc := "(I)I" } : Jvm.MethodName)) ∈ tw_tbl := tw_inK tw_s4 131 rfl rfl
set_option maxRecDepth 20000 in
theorem wd_852 : (Jvm.Cond.code ({ cls := "ShippedClass$Opcodes", name := "localKindOf", desc := "(I)I" } : Jvm.MethodName) prog_9_method_16_code (1 : Nat) (Option.some Jvm.ClassFile.FieldType.int)) ∈ tw_tbl := tw_inK tw_s4 132 rfl rfl
set_option maxRecDepth 20000 in
theorem wd_853 : (Jvm.Cond.methodLink "ShippedClass$Machine" (159 : Nat) ({ cls := "ShippedClass$Opcodes", name := "isStore", desc := "(I)Z" } : Jvm.MethodName)) ∈ tw_tbl := tw_inK tw_s4 133 rfl rfl
set_option maxRecDepth 20000 in
theorem wd_854 : (Jvm.Cond.methodLink "ShippedClass$Machine" (162 : Nat) ({ cls := "ShippedClass$Machine", name := "take", desc := "(I)I" } : Jvm.MethodName)) ∈ tw_tbl := tw_inK tw_s4 134 rfl rfl
set_option maxRecDepth 20000 in
theorem wd_856 : (Jvm.Cond.instanceMethod ({ cls := "ShippedClass$Machine", name := "take", desc := "(I)I" } : Jvm.MethodName)) ∈ tw_tbl := tw_inK tw_s4 136 rfl rfl
set_option maxRecDepth 20000 in
theorem wd_857 : (Jvm.Cond.code ({ cls := "ShippedClass$Machine", name := "take", desc := "(I)I" } : Jvm.MethodName) prog_8_method_13_code (2 : Nat) (Option.some Jvm.ClassFile.FieldType.int)) ∈ tw_tbl := tw_inK tw_s4 137 rfl rfl
set_option maxRecDepth 20000 in
theorem wd_858 : (Jvm.Cond.methodLink "ShippedClass$Machine" (165 : Nat) ({ cls := "ShippedClass$Machine", name := "push", desc := "(I)I" } : Jvm.MethodName)) ∈ tw_tbl := tw_inK tw_s4 138 rfl rfl
set_option maxRecDepth 20000 in
theorem wd_860 : (Jvm.Cond.instanceMethod ({ cls := "ShippedClass$Machine", name := "push", desc := "(I)I" } : Jvm.MethodName)) ∈ tw_tbl := tw_inK tw_s4 140 rfl rfl
set_option maxRecDepth 20000 in
theorem wd_861 : (Jvm.Cond.code ({ cls := "ShippedClass$Machine", name := "push", desc := "(I)I" } : Jvm.MethodName) prog_8_method_14_code (3 : Nat) (Option.some Jvm.ClassFile.FieldType.int)) ∈ tw_tbl := tw_inK tw_s4 141 rfl rfl
set_option maxRecDepth 20000 in
theorem wd_862 : (Jvm.Cond.methodLink "ShippedClass$Machine" (111 : Nat) ({ cls := "ShippedClass$Layout", name := "tagOf", desc := "(I)I" } : Jvm.MethodName)) ∈ tw_tbl := tw_inK tw_s4 142 rfl rfl
set_option maxRecDepth 20000 in
theorem wd_863 : (Jvm.Cond.methodLink "ShippedClass$Machine" (114 : Nat) ({ cls := "ShippedClass$Machine", name := "putConstant", desc := "(I)I" } : Jvm.MethodName)) ∈ tw_tbl := tw_inK tw_s4 143 rfl rfl
set_option maxRecDepth 20000 in
theorem wd_865 : (Jvm.Cond.instanceMethod ({ cls := "ShippedClass$Machine", name := "putConstant", desc := "(I)I" } : Jvm.MethodName)) ∈ tw_tbl := tw_inK tw_s4 145 rfl rfl
set_option maxRecDepth 20000 in
theorem wd_866 : (Jvm.Cond.code ({ cls := "ShippedClass$Machine", name := "putConstant", desc := "(I)I" } : Jvm.MethodName) prog_8_method_8_code (2 : Nat) (Option.some Jvm.ClassFile.FieldType.int)) ∈ tw_tbl := tw_inK tw_s4 146 rfl rfl
set_option maxRecDepth 20000 in
theorem wd_867 : (Jvm.Cond.methodLink "ShippedClass$Machine" (117 : Nat) ({ cls := "ShippedClass$Opcodes", name := "tellsConstant", desc := "(I)Z" } : Jvm.MethodName)) ∈ tw_tbl := tw_inK tw_s4 147 rfl rfl
set_option maxRecDepth 20000 in
theorem wd_868 : (Jvm.Cond.static ({ cls := "ShippedClass$Opcodes", name := "tellsConstant", desc := "(I)Z" } : Jvm.MethodName)) ∈ tw_tbl := tw_inK tw_s4 148 rfl rfl
set_option maxRecDepth 20000 in
theorem wd_869 : (Jvm.Cond.code ({ cls := "ShippedClass$Opcodes", name := "tellsConstant", desc := "(I)Z" } : Jvm.MethodName) prog_9_method_8_code (1 : Nat) (Option.some Jvm.ClassFile.FieldType.boolean)) ∈ tw_tbl := tw_inK tw_s4 149 rfl rfl
set_option maxRecDepth 20000 in
theorem wd_870 : (Jvm.Cond.methodLink "ShippedClass$Opcodes" (25 : Nat) ({ cls := "ShippedClass$Opcodes", name := "isFieldUse", desc := "(I)Z" } : Jvm.MethodName)) ∈ tw_tbl := tw_inK tw_s4 150 rfl rfl
set_option maxRecDepth 20000 in
theorem wd_871 : (Jvm.Cond.static ({ cls := "ShippedClass$Opcodes", name := "isFieldUse", desc := "(I)Z" } : Jvm.MethodName)) ∈ tw_tbl := tw_inK tw_s4 151 rfl rfl
set_option maxRecDepth 20000 in
theorem wd_872 : (Jvm.Cond.code ({ cls := "ShippedClass$Opcodes", name := "isFieldUse", desc := "(I)Z" } : Jvm.MethodName) prog_9_method_9_code (1 : Nat) (Option.some Jvm.ClassFile.FieldType.boolean)) ∈ tw_tbl := tw_inK tw_s4 152 rfl rfl
set_option maxRecDepth 20000 in
theorem wd_873 : (Jvm.Cond.methodLink "ShippedClass$Opcodes" (28 : Nat) ({ cls := "ShippedClass$Opcodes", name := "isCall", desc := "(I)Z" } : Jvm.MethodName)) ∈ tw_tbl := tw_inK tw_s4 153 rfl rfl
set_option maxRecDepth 20000 in
theorem wd_874 : (Jvm.Cond.static ({ cls := "ShippedClass$Opcodes", name := "isCall", desc := "(I)Z" } : Jvm.MethodName)) ∈ tw_tbl := tw_inK tw_s4 154 rfl rfl
set_option maxRecDepth 20000 in
theorem wd_875 : (Jvm.Cond.code ({ cls := "ShippedClass$Opcodes", name := "isCall", desc := "(I)Z" } : Jvm.MethodName) prog_9_method_10_code (1 : Nat) (Option.some Jvm.ClassFile.FieldType.boolean)) ∈ tw_tbl := tw_inK tw_s4 155 rfl rfl
set_option maxRecDepth 20000 in
theorem wd_876 : (Jvm.Cond.methodLink "ShippedClass$Machine" (120 : Nat) ({ cls := "ShippedClass$Opcodes", name := "tagOf", desc := "(I)I" } : Jvm.MethodName)) ∈ tw_tbl := tw_inK tw_s4 156 rfl rfl
set_option maxRecDepth 20000 in
theorem wd_877 : (Jvm.Cond.static ({ cls := "ShippedClass$Opcodes", name := "tagOf", desc := "(I)I" } : Jvm.MethodName)) ∈ tw_tbl := tw_inK tw_s4 157 rfl rfl
set_option maxRecDepth 20000 in
theorem wd_878 : (Jvm.Cond.code ({ cls := "ShippedClass$Opcodes", name := "tagOf", desc := "(I)I" } : Jvm.MethodName) prog_9_method_17_code (1 : Nat) (Option.some Jvm.ClassFile.FieldType.int)) ∈ tw_tbl := tw_inK tw_s4 158 rfl rfl
set_option maxRecDepth 20000 in
theorem wd_879 : (Jvm.Cond.methodLink "ShippedClass$Machine" (121 : Nat) ({ cls := "ShippedClass$Opcodes", name := "isFieldUse", desc := "(I)Z" } : Jvm.MethodName)) ∈ tw_tbl := tw_inK tw_s4 159 rfl rfl
set_option maxRecDepth 20000 in
theorem wd_880 : (Jvm.Cond.methodLink "ShippedClass$Machine" (124 : Nat) ({ cls := "ShippedClass$Machine", name := "useField", desc := "(II)I" } : Jvm.MethodName)) ∈ tw_tbl := tw_inK tw_s4 160 rfl rfl
set_option maxRecDepth 20000 in
theorem wd_882 : (Jvm.Cond.instanceMethod ({ cls := "ShippedClass$Machine", name := "useField", desc := "(II)I" } : Jvm.MethodName)) ∈ tw_tbl := tw_inK tw_s4 162 rfl rfl
set_option maxRecDepth 20000 in
theorem wd_883 : (Jvm.Cond.code ({ cls := "ShippedClass$Machine", name := "useField", desc := "(II)I" } : Jvm.MethodName) prog_8_method_9_code (7 : Nat) (Option.some Jvm.ClassFile.FieldType.int)) ∈ tw_tbl := tw_inK tw_s4 163 rfl rfl
set_option maxRecDepth 20000 in
theorem wd_884 : (Jvm.Cond.methodLink "ShippedClass$Machine" (172 : Nat) ({ cls := "ShippedClass$Layout", name := "secondOf", desc := "(I)I" } : Jvm.MethodName)) ∈ tw_tbl := tw_inK tw_s4 164 rfl rfl
set_option maxRecDepth 20000 in
theorem wd_885 : (Jvm.Cond.methodLink "ShippedClass$Machine" (127 : Nat) ({ cls := "ShippedClass$Opcodes", name := "isCall", desc := "(I)Z" } : Jvm.MethodName)) ∈ tw_tbl := tw_inK tw_s4 165 rfl rfl
set_option maxRecDepth 20000 in
theorem wd_886 : (Jvm.Cond.methodLink "ShippedClass$Machine" (130 : Nat) ({ cls := "ShippedClass$Machine", name := "callMethod", desc := "(II)I" } : Jvm.MethodName)) ∈ tw_tbl := tw_inK tw_s4 166 rfl rfl
set_option maxRecDepth 20000 in
theorem wd_888 : (Jvm.Cond.instanceMethod ({ cls := "ShippedClass$Machine", name := "callMethod", desc := "(II)I" } : Jvm.MethodName)) ∈ tw_tbl := tw_inK tw_s4 168 rfl rfl
set_option maxRecDepth 20000 in
theorem wd_889 : (Jvm.Cond.code ({ cls := "ShippedClass$Machine", name := "callMethod", desc := "(II)I" } : Jvm.MethodName) prog_8_method_10_code (7 : Nat) (Option.some Jvm.ClassFile.FieldType.int)) ∈ tw_tbl := tw_inK tw_s4 169 rfl rfl
set_option maxRecDepth 20000 in
theorem wd_890 : (Jvm.Cond.methodLink "ShippedClass$Machine" (175 : Nat) ({ cls := "ShippedClass$Layout", name := "firstOf", desc := "(I)I" } : Jvm.MethodName)) ∈ tw_tbl := tw_inK tw_s4 170 rfl rfl
set_option maxRecDepth 20000 in
theorem wd_892 : (Jvm.Cond.methodLink "ShippedClass$Machine" (179 : Nat) ({ cls := "ShippedClass$Layout", name := "spells", desc := "(ILjava/lang/String;)Z" } : Jvm.MethodName)) ∈ tw_tbl := tw_inK tw_s4 172 rfl rfl
set_option maxRecDepth 20000 in
theorem wd_893 : (Jvm.Cond.methodLink "ShippedClass$Machine" (133 : Nat) ({ cls := "ShippedClass$Opcodes", name := "isShuffle", desc := "(I)Z" } : Jvm.MethodName)) ∈ tw_tbl := tw_inK tw_s4 173 rfl rfl
set_option maxRecDepth 20000 in
theorem wd_894 : (Jvm.Cond.static ({ cls := "ShippedClass$Opcodes", name := "isShuffle", desc := "(I)Z" } : Jvm.MethodName)) ∈ tw_tbl := tw_inK tw_s4 174 rfl rfl
set_option maxRecDepth 20000 in
theorem wd_895 : (Jvm.Cond.code ({ cls := "ShippedClass$Opcodes", name := "isShuffle", desc := "(I)Z" } : Jvm.MethodName) prog_9_method_11_code (1 : Nat) (Option.some Jvm.ClassFile.FieldType.boolean)) ∈ tw_tbl := tw_inK tw_s4 175 rfl rfl
set_option maxRecDepth 20000 in
theorem wd_896 : (Jvm.Cond.methodLink "ShippedClass$Machine" (136 : Nat) ({ cls := "ShippedClass$Machine", name := "shuffle", desc := "(I)I" } : Jvm.MethodName)) ∈ tw_tbl := tw_inK tw_s4 176 rfl rfl
set_option maxRecDepth 20000 in
theorem wd_898 : (Jvm.Cond.instanceMethod ({ cls := "ShippedClass$Machine", name := "shuffle", desc := "(I)I" } : Jvm.MethodName)) ∈ tw_tbl := tw_inK tw_s4 178 rfl rfl
set_option maxRecDepth 20000 in
theorem wd_899 : (Jvm.Cond.code ({ cls := "ShippedClass$Machine", name := "shuffle", desc := "(I)I" } : Jvm.MethodName) prog_8_method_16_code (5 : Nat) (Option.some Jvm.ClassFile.FieldType.int)) ∈ tw_tbl := tw_inK tw_s4 179 rfl rfl
set_option maxRecDepth 20000 in
theorem wd_900 : (Jvm.Cond.methodLink "ShippedClass$Machine" (199 : Nat) ({ cls := "ShippedClass$Machine", name := "pushAll", desc := "(III)I" } : Jvm.MethodName)) ∈ tw_tbl := tw_inK tw_s4 180 rfl rfl
set_option maxRecDepth 20000 in
theorem wd_902 : (Jvm.Cond.instanceMethod ({ cls := "ShippedClass$Machine", name := "pushAll", desc := "(III)I" } : Jvm.MethodName)) ∈ tw_tbl := tw_inK tw_s4 182 rfl rfl
set_option maxRecDepth 20000 in
theorem wd_903 : (Jvm.Cond.code ({ cls := "ShippedClass$Machine", name := "pushAll", desc := "(III)I" } : Jvm.MethodName) prog_8_method_17_code (6 : Nat) (Option.some Jvm.ClassFile.FieldType.int)) ∈ tw_tbl := tw_inK tw_s4 183 rfl rfl
set_option maxRecDepth 20000 in
theorem wd_904 : (Jvm.Cond.methodLink "ShippedClass$Machine" (203 : Nat) ({ cls := "ShippedClass$Machine", name := "takeWord", desc := "()I" } : Jvm.MethodName)) ∈ tw_tbl := tw_inK tw_s4 184 rfl rfl
set_option maxRecDepth 20000 in
theorem wd_906 : (Jvm.Cond.instanceMethod ({ cls := "ShippedClass$Machine", name := "takeWord", desc := "()I" } : Jvm.MethodName)) ∈ tw_tbl := tw_inK tw_s4 186 rfl rfl
set_option maxRecDepth 20000 in
theorem wd_907 : (Jvm.Cond.code ({ cls := "ShippedClass$Machine", name := "takeWord", desc := "()I" } : Jvm.MethodName) prog_8_method_15_code (1 : Nat) (Option.some Jvm.ClassFile.FieldType.int)) ∈ tw_tbl := tw_inK tw_s4 187 rfl rfl
set_option maxRecDepth 20000 in
theorem wd_908 : (Jvm.Cond.methodLink "ShippedClass$Machine" (139 : Nat) ({ cls := "ShippedClass$Opcodes", name := "effectOf", desc := "(I)Ljava/lang/String;" } : Jvm.MethodName)) ∈ tw_tbl := tw_inK tw_s4 188 rfl rfl
set_option maxRecDepth 20000 in
theorem wd_909 : (Jvm.Cond.static ({ cls := "ShippedClass$Opcodes", name := "effectOf", desc := "(I)Ljava/lang/String;" } : Jvm.MethodName)) ∈ tw_tbl := tw_inK tw_s4 189 rfl rfl
set_option maxRecDepth 20000 in
theorem wd_910 : (Jvm.Cond.code ({ cls := "ShippedClass$Opcodes", name := "effectOf", desc := "(I)Ljava/lang/String;" } : Jvm.MethodName) prog_9_method_18_code (1 : Nat) (Option.some (Jvm.ClassFile.FieldType.object "java/lang/String"))) ∈ tw_tbl := tw_inK tw_s4 190 rfl rfl
set_option maxRecDepth 20000 in
theorem wd_911 : (Jvm.Cond.methodLink "ShippedClass$Opcodes" (34 : Nat) ({ cls := "ShippedClass$Opcodes", name := "effectOfArithmetic", desc := "(I)Ljava/lang/String;" } : Jvm.MethodName)) ∈ tw_tbl := tw_inK tw_s4 191 rfl rfl
set_option maxRecDepth 20000 in
theorem wd_912 : (Jvm.Cond.static ({ cls := "ShippedClass$Opcodes", name := "effectOfArithmetic", desc := "(I)Ljava/lang/String;" } : Jvm.MethodName)) ∈ tw_tbl := tw_inK tw_s4 192 rfl rfl
set_option maxRecDepth 20000 in
theorem wd_913 : (Jvm.Cond.code ({ cls := "ShippedClass$Opcodes", name := "effectOfArithmetic", desc := "(I)Ljava/lang/String;" } : Jvm.MethodName) prog_9_method_20_code (2 : Nat) (Option.some (Jvm.ClassFile.FieldType.object "java/lang/String"))) ∈ tw_tbl := tw_inK tw_s4 193 rfl rfl
set_option maxRecDepth 20000 in
theorem wd_922 : (Jvm.Cond.methodLink "ShippedClass$Opcodes" (46 : Nat) ({ cls := "ShippedClass$Opcodes", name := "effectOfRest", desc := "(I)Ljava/lang/String;" } : Jvm.MethodName)) ∈ tw_tbl := tw_inK tw_s4 202 rfl rfl
set_option maxRecDepth 20000 in
theorem wd_923 : (Jvm.Cond.static ({ cls := "ShippedClass$Opcodes", name := "effectOfRest", desc := "(I)Ljava/lang/String;" } : Jvm.MethodName)) ∈ tw_tbl := tw_inK tw_s4 203 rfl rfl
set_option maxRecDepth 20000 in
theorem wd_924 : (Jvm.Cond.code ({ cls := "ShippedClass$Opcodes", name := "effectOfRest", desc := "(I)Ljava/lang/String;" } : Jvm.MethodName) prog_9_method_19_code (1 : Nat) (Option.some (Jvm.ClassFile.FieldType.object "java/lang/String"))) ∈ tw_tbl := tw_inK tw_s4 204 rfl rfl
set_option maxRecDepth 20000 in
theorem wd_936 : (Jvm.Cond.methodLink "ShippedClass$Machine" (143 : Nat) ({ cls := "ShippedClass$Machine", name := "exchange", desc := "(Ljava/lang/String;)I" } : Jvm.MethodName)) ∈ tw_tbl := tw_inK tw_s4 216 rfl rfl
set_option maxRecDepth 20000 in
theorem wd_938 : (Jvm.Cond.instanceMethod ({ cls := "ShippedClass$Machine", name := "exchange", desc := "(Ljava/lang/String;)I" } : Jvm.MethodName)) ∈ tw_tbl := tw_inK tw_s4 218 rfl rfl
set_option maxRecDepth 20000 in
theorem wd_939 : (Jvm.Cond.code ({ cls := "ShippedClass$Machine", name := "exchange", desc := "(Ljava/lang/String;)I" } : Jvm.MethodName) prog_8_method_12_code (6 : Nat) (Option.some Jvm.ClassFile.FieldType.int)) ∈ tw_tbl := tw_inK tw_s4 219 rfl rfl
set_option maxRecDepth 20000 in
theorem wd_940 : (Jvm.Cond.methodLink "ShippedClass$Machine" (183 : Nat) ({ cls := "java/lang/String", name := "indexOf", desc := "(I)I" } : Jvm.MethodName)) ∈ tw_tbl := tw_inK tw_s4 220 rfl rfl
set_option maxRecDepth 20000 in
theorem wd_941 : (Jvm.Cond.instanceMethod ({ cls := "java/lang/String", name := "indexOf", desc := "(I)I" } : Jvm.MethodName)) ∈ tw_tbl := tw_inK tw_s4 221 rfl rfl
set_option maxRecDepth 20000 in
theorem wd_942 : (Jvm.Cond.selects "java/lang/String" ({ cls := "java/lang/String", name := "indexOf", desc := "(I)I" } : Jvm.MethodName) ({ cls := "java/lang/String", name := "indexOf", desc := "(I)I" } : Jvm.MethodName)) ∈ tw_tbl := tw_inK tw_s4 222 rfl rfl
set_option maxRecDepth 20000 in
theorem wd_943 : (Jvm.Cond.code ({ cls := "java/lang/String", name := "indexOf", desc := "(I)I" } : Jvm.MethodName) prog_22_method_79_code (2 : Nat) (Option.some Jvm.ClassFile.FieldType.int)) ∈ tw_tbl := tw_inK tw_s4 223 rfl rfl
set_option maxRecDepth 20000 in
theorem wd_944 : (Jvm.Cond.methodLink "java/lang/String" (633 : Nat) ({ cls := "java/lang/String", name := "indexOf", desc := "(II)I" } : Jvm.MethodName)) ∈ tw_tbl := tw_inK tw_s4 224 rfl rfl
set_option maxRecDepth 20000 in
theorem wd_945 : (Jvm.Cond.instanceMethod ({ cls := "java/lang/String", name := "indexOf", desc := "(II)I" } : Jvm.MethodName)) ∈ tw_tbl := tw_inK tw_s4 225 rfl rfl
set_option maxRecDepth 20000 in
theorem wd_946 : (Jvm.Cond.selects "java/lang/String" ({ cls := "java/lang/String", name := "indexOf", desc := "(II)I" } : Jvm.MethodName) ({ cls := "java/lang/String", name := "indexOf", desc := "(II)I" } : Jvm.MethodName)) ∈ tw_tbl := tw_inK tw_s4 226 rfl rfl
set_option maxRecDepth 20000 in
theorem wd_947 : (Jvm.Cond.code ({ cls := "java/lang/String", name := "indexOf", desc := "(II)I" } : Jvm.MethodName) prog_22_method_80_code (3 : Nat) (Option.some Jvm.ClassFile.FieldType.int)) ∈ tw_tbl := tw_inK tw_s4 227 rfl rfl
set_option maxRecDepth 20000 in
theorem wd_948 : (Jvm.Cond.methodLink "java/lang/String" (505 : Nat) ({ cls := "java/lang/String", name := "length", desc := "()I" } : Jvm.MethodName)) ∈ tw_tbl := tw_inK tw_s4 228 rfl rfl
set_option maxRecDepth 20000 in
theorem wd_949 : (Jvm.Cond.methodLink "java/lang/String" (637 : Nat) ({ cls := "java/lang/StringLatin1", name := "indexOf", desc := "([BIII)I" } : Jvm.MethodName)) ∈ tw_tbl := tw_inK tw_s4 229 rfl rfl
set_option maxRecDepth 20000 in
theorem wd_950 : (Jvm.Cond.static ({ cls := "java/lang/StringLatin1", name := "indexOf", desc := "([BIII)I" } : Jvm.MethodName)) ∈ tw_tbl := tw_inK tw_s4 230 rfl rfl
set_option maxRecDepth 20000 in
theorem wd_951 : (Jvm.Cond.code ({ cls := "java/lang/StringLatin1", name := "indexOf", desc := "([BIII)I" } : Jvm.MethodName) prog_23_method_22_code (4 : Nat) (Option.some Jvm.ClassFile.FieldType.int)) ∈ tw_tbl := tw_inK tw_s4 231 rfl rfl
set_option maxRecDepth 20000 in
theorem wd_952 : (Jvm.Cond.methodLink "java/lang/StringLatin1" (88 : Nat) ({ cls := "java/lang/StringLatin1", name := "canEncode", desc := "(I)Z" } : Jvm.MethodName)) ∈ tw_tbl := tw_inK tw_s4 232 rfl rfl
set_option maxRecDepth 20000 in
theorem wd_953 : (Jvm.Cond.static ({ cls := "java/lang/StringLatin1", name := "canEncode", desc := "(I)Z" } : Jvm.MethodName)) ∈ tw_tbl := tw_inK tw_s4 233 rfl rfl
set_option maxRecDepth 20000 in
theorem wd_954 : (Jvm.Cond.code ({ cls := "java/lang/StringLatin1", name := "canEncode", desc := "(I)Z" } : Jvm.MethodName) prog_23_method_4_code (1 : Nat) (Option.some Jvm.ClassFile.FieldType.boolean)) ∈ tw_tbl := tw_inK tw_s4 234 rfl rfl
set_option maxRecDepth 20000 in
theorem wd_955 : (Jvm.Cond.methodLink "java/lang/StringLatin1" (92 : Nat) ({ cls := "java/lang/Math", name := "max", desc := "(II)I" } : Jvm.MethodName)) ∈ tw_tbl := tw_inK tw_s4 235 rfl rfl
set_option maxRecDepth 20000 in
theorem wd_956 : (Jvm.Cond.static ({ cls := "java/lang/Math", name := "max", desc := "(II)I" } : Jvm.MethodName)) ∈ tw_tbl := tw_inK tw_s4 236 rfl rfl
set_option maxRecDepth 20000 in
theorem wd_957 : (Jvm.Cond.code ({ cls := "java/lang/Math", name := "max", desc := "(II)I" } : Jvm.MethodName) prog_20_method_65_code (2 : Nat) (Option.some Jvm.ClassFile.FieldType.int)) ∈ tw_tbl := tw_inK tw_s4 237 rfl rfl
set_option maxRecDepth 20000 in
theorem wd_958 : (Jvm.Cond.methodLink "java/lang/StringLatin1" (38 : Nat) ({ cls := "java/lang/Math", name := "min", desc := "(II)I" } : Jvm.MethodName)) ∈ tw_tbl := tw_inK tw_s4 238 rfl rfl
set_option maxRecDepth 20000 in
theorem wd_959 : (Jvm.Cond.methodLink "java/lang/StringLatin1" (95 : Nat) ({ cls := "java/lang/StringLatin1", name := "indexOfChar", desc := "([BIII)I" } : Jvm.MethodName)) ∈ tw_tbl := tw_inK tw_s4 239 rfl rfl
set_option maxRecDepth 20000 in
theorem wd_960 : (Jvm.Cond.static ({ cls := "java/lang/StringLatin1", name := "indexOfChar", desc := "([BIII)I" } : Jvm.MethodName)) ∈ tw_tbl := tw_inK tw_s5 0 rfl rfl
set_option maxRecDepth 20000 in
theorem wd_961 : (Jvm.Cond.code ({ cls := "java/lang/StringLatin1", name := "indexOfChar", desc := "([BIII)I" } : Jvm.MethodName) prog_23_method_23_code (6 : Nat) (Option.some Jvm.ClassFile.FieldType.int)) ∈ tw_tbl := tw_inK tw_s5 1 rfl rfl
set_option maxRecDepth 20000 in
theorem wd_962 : (Jvm.Cond.methodLink "java/lang/String" (640 : Nat) ({ cls := "java/lang/StringUTF16", name := "indexOf", desc := "([BIII)I" } : Jvm.MethodName)) ∈ tw_tbl := tw_inK tw_s5 2 rfl rfl
set_option maxRecDepth 20000 in
theorem wd_963 : (Jvm.Cond.static ({ cls := "java/lang/StringUTF16", name := "indexOf", desc := "([BIII)I" } : Jvm.MethodName)) ∈ tw_tbl := tw_inK tw_s5 3 rfl rfl
set_option maxRecDepth 20000 in
theorem wd_964 : (Jvm.Cond.code ({ cls := "java/lang/StringUTF16", name := "indexOf", desc := "([BIII)I" } : Jvm.MethodName) prog_24_method_40_code (4 : Nat) (Option.some Jvm.ClassFile.FieldType.int)) ∈ tw_tbl := tw_inK tw_s5 4 rfl rfl
set_option maxRecDepth 20000 in
theorem wd_965 : (Jvm.Cond.methodLink "java/lang/StringUTF16" (224 : Nat) ({ cls := "java/lang/Math", name := "max", desc := "(II)I" } : Jvm.MethodName)) ∈ tw_tbl := tw_inK tw_s5 5 rfl rfl
set_option maxRecDepth 20000 in
theorem wd_966 : (Jvm.Cond.methodLink "java/lang/StringUTF16" (183 : Nat) ({ cls := "java/lang/Math", name := "min", desc := "(II)I" } : Jvm.MethodName)) ∈ tw_tbl := tw_inK tw_s5 6 rfl rfl
set_option maxRecDepth 20000 in
theorem wd_967 : (Jvm.Cond.constant "java/lang/StringUTF16" (227 : Nat) (65536 : Int32)) ∈ tw_tbl := tw_inK tw_s5 7 rfl rfl
set_option maxRecDepth 20000 in
theorem wd_968 : (Jvm.Cond.methodLink "java/lang/StringUTF16" (228 : Nat) ({ cls := "java/lang/StringUTF16", name := "indexOfChar", desc := "([BIII)I" } : Jvm.MethodName)) ∈ tw_tbl := tw_inK tw_s5 8 rfl rfl
set_option maxRecDepth 20000 in
theorem wd_969 : (Jvm.Cond.static ({ cls := "java/lang/StringUTF16", name := "indexOfChar", desc := "([BIII)I" } : Jvm.MethodName)) ∈ tw_tbl := tw_inK tw_s5 9 rfl rfl
set_option maxRecDepth 20000 in
theorem wd_970 : (Jvm.Cond.code ({ cls := "java/lang/StringUTF16", name := "indexOfChar", desc := "([BIII)I" } : Jvm.MethodName) prog_24_method_47_code (4 : Nat) (Option.some Jvm.ClassFile.FieldType.int)) ∈ tw_tbl := tw_inK tw_s5 10 rfl rfl
set_option maxRecDepth 20000 in
theorem wd_971 : (Jvm.Cond.methodLink "java/lang/StringUTF16" (96 : Nat) ({ cls := "java/lang/StringUTF16", name := "checkBoundsBeginEnd", desc := "(II[B)V" } : Jvm.MethodName)) ∈ tw_tbl := tw_inK tw_s5 11 rfl rfl
set_option maxRecDepth 20000 in
theorem wd_972 : (Jvm.Cond.static ({ cls := "java/lang/StringUTF16", name := "checkBoundsBeginEnd", desc := "(II[B)V" } : Jvm.MethodName)) ∈ tw_tbl := tw_inK tw_s5 12 rfl rfl
set_option maxRecDepth 20000 in
theorem wd_973 : (Jvm.Cond.code ({ cls := "java/lang/StringUTF16", name := "checkBoundsBeginEnd", desc := "(II[B)V" } : Jvm.MethodName) prog_24_method_93_code (3 : Nat) (Option.none : Option Jvm.ClassFile.FieldType)) ∈ tw_tbl := tw_inK tw_s5 13 rfl rfl
set_option maxRecDepth 20000 in
theorem wd_974 : (Jvm.Cond.methodLink "java/lang/StringUTF16" (241 : Nat) ({ cls := "java/lang/String", name := "checkBoundsBeginEnd", desc := "(III)V" } : Jvm.MethodName)) ∈ tw_tbl := tw_inK tw_s5 14 rfl rfl
set_option maxRecDepth 20000 in
theorem wd_975 : (Jvm.Cond.static ({ cls := "java/lang/String", name := "checkBoundsBeginEnd", desc := "(III)V" } : Jvm.MethodName)) ∈ tw_tbl := tw_inK tw_s5 15 rfl rfl
set_option maxRecDepth 20000 in
theorem wd_976 : (Jvm.Cond.code ({ cls := "java/lang/String", name := "checkBoundsBeginEnd", desc := "(III)V" } : Jvm.MethodName) prog_22_method_158_code (3 : Nat) (Option.none : Option Jvm.ClassFile.FieldType)) ∈ tw_tbl := tw_inK tw_s5 16 rfl rfl
set_option maxRecDepth 20000 in
theorem wd_977 : (Jvm.Cond.methodLink "java/lang/String" (1062 : Nat) ({ cls := "jdk/internal/util/Preconditions", name := "checkFromToIndex", desc := "(IIILjava/util/function/BiFunction;)I" } : Jvm.MethodName)) ∈ tw_tbl := tw_inK tw_s5 17 rfl rfl
set_option maxRecDepth 20000 in
theorem wd_978 : (Jvm.Cond.static ({ cls := "jdk/internal/util/Preconditions", name := "checkFromToIndex", desc := "(IIILjava/util/function/BiFunction;)I" } : Jvm.MethodName)) ∈ tw_tbl := tw_inK tw_s5 18 rfl rfl
set_option maxRecDepth 20000 in
theorem wd_979 : (Jvm.Cond.code ({ cls := "jdk/internal/util/Preconditions", name := "checkFromToIndex", desc := "(IIILjava/util/function/BiFunction;)I" } : Jvm.MethodName) prog_28_method_12_code (4 : Nat) (Option.some Jvm.ClassFile.FieldType.int)) ∈ tw_tbl := tw_inK tw_s5 19 rfl rfl
set_option maxRecDepth 20000 in
theorem wd_980 : (Jvm.Cond.methodLink "java/lang/StringUTF16" (244 : Nat) ({ cls := "java/lang/StringUTF16", name := "indexOfCharUnsafe", desc := "([BIII)I" } : Jvm.MethodName)) ∈ tw_tbl := tw_inK tw_s5 20 rfl rfl
set_option maxRecDepth 20000 in
theorem wd_981 : (Jvm.Cond.static ({ cls := "java/lang/StringUTF16", name := "indexOfCharUnsafe", desc := "([BIII)I" } : Jvm.MethodName)) ∈ tw_tbl := tw_inK tw_s5 21 rfl rfl
set_option maxRecDepth 20000 in
theorem wd_982 : (Jvm.Cond.code ({ cls := "java/lang/StringUTF16", name := "indexOfCharUnsafe", desc := "([BIII)I" } : Jvm.MethodName) prog_24_method_48_code (5 : Nat) (Option.some Jvm.ClassFile.FieldType.int)) ∈ tw_tbl := tw_inK tw_s5 22 rfl rfl
set_option maxRecDepth 20000 in
theorem wd_983 : (Jvm.Cond.methodLink "java/lang/StringUTF16" (232 : Nat) ({ cls := "java/lang/StringUTF16", name := "indexOfSupplementary", desc := "([BIII)I" } : Jvm.MethodName)) ∈ tw_tbl := tw_inK tw_s5 23 rfl rfl
set_option maxRecDepth 20000 in
theorem wd_984 : (Jvm.Cond.static ({ cls := "java/lang/StringUTF16", name := "indexOfSupplementary", desc := "([BIII)I" } : Jvm.MethodName)) ∈ tw_tbl := tw_inK tw_s5 24 rfl rfl
set_option maxRecDepth 20000 in
theorem wd_985 : (Jvm.Cond.code ({ cls := "java/lang/StringUTF16", name := "indexOfSupplementary", desc := "([BIII)I" } : Jvm.MethodName) prog_24_method_49_code (7 : Nat) (Option.some Jvm.ClassFile.FieldType.int)) ∈ tw_tbl := tw_inK tw_s5 25 rfl rfl
set_option maxRecDepth 20000 in
theorem wd_986 : (Jvm.Cond.methodLink "java/lang/StringUTF16" (164 : Nat) ({ cls := "java/lang/Character", name := "isValidCodePoint", desc := "(I)Z" } : Jvm.MethodName)) ∈ tw_tbl := tw_inK tw_s5 26 rfl rfl
set_option maxRecDepth 20000 in
theorem wd_987 : (Jvm.Cond.static ({ cls := "java/lang/Character", name := "isValidCodePoint", desc := "(I)Z" } : Jvm.MethodName)) ∈ tw_tbl := tw_inK tw_s5 27 rfl rfl
set_option maxRecDepth 20000 in
theorem wd_988 : (Jvm.Cond.code ({ cls := "java/lang/Character", name := "isValidCodePoint", desc := "(I)Z" } : Jvm.MethodName) prog_15_method_11_code (2 : Nat) (Option.some Jvm.ClassFile.FieldType.boolean)) ∈ tw_tbl := tw_inK tw_s5 28 rfl rfl
set_option maxRecDepth 20000 in
theorem wd_989 : (Jvm.Cond.methodLink "java/lang/StringUTF16" (157 : Nat) ({ cls := "java/lang/Character", name := "highSurrogate", desc := "(I)C" } : Jvm.MethodName)) ∈ tw_tbl := tw_inK tw_s5 29 rfl rfl
set_option maxRecDepth 20000 in
theorem wd_990 : (Jvm.Cond.static ({ cls := "java/lang/Character", name := "highSurrogate", desc := "(I)C" } : Jvm.MethodName)) ∈ tw_tbl := tw_inK tw_s5 30 rfl rfl
set_option maxRecDepth 20000 in
theorem wd_991 : (Jvm.Cond.code ({ cls := "java/lang/Character", name := "highSurrogate", desc := "(I)C" } : Jvm.MethodName) prog_15_method_28_code (1 : Nat) (Option.some Jvm.ClassFile.FieldType.char)) ∈ tw_tbl := tw_inK tw_s5 31 rfl rfl
set_option maxRecDepth 20000 in
theorem wd_992 : (Jvm.Cond.constant "java/lang/Character" (110 : Nat) (55232 : Int32)) ∈ tw_tbl := tw_inK tw_s5 32 rfl rfl
set_option maxRecDepth 20000 in
theorem wd_993 : (Jvm.Cond.methodLink "java/lang/StringUTF16" (161 : Nat) ({ cls := "java/lang/Character", name := "lowSurrogate", desc := "(I)C" } : Jvm.MethodName)) ∈ tw_tbl := tw_inK tw_s5 33 rfl rfl
set_option maxRecDepth 20000 in
theorem wd_994 : (Jvm.Cond.static ({ cls := "java/lang/Character", name := "lowSurrogate", desc := "(I)C" } : Jvm.MethodName)) ∈ tw_tbl := tw_inK tw_s5 34 rfl rfl
set_option maxRecDepth 20000 in
theorem wd_995 : (Jvm.Cond.code ({ cls := "java/lang/Character", name := "lowSurrogate", desc := "(I)C" } : Jvm.MethodName) prog_15_method_29_code (1 : Nat) (Option.some Jvm.ClassFile.FieldType.char)) ∈ tw_tbl := tw_inK tw_s5 35 rfl rfl
set_option maxRecDepth 20000 in
theorem wd_996 : (Jvm.Cond.constant "java/lang/Character" (76 : Nat) (56320 : Int32)) ∈ tw_tbl := tw_inK tw_s5 36 rfl rfl
set_option maxRecDepth 20000 in
theorem wd_997 : (Jvm.Cond.methodLink "ShippedClass$Machine" (188 : Nat) ({ cls := "java/lang/String", name := "length", desc := "()I" } : Jvm.MethodName)) ∈ tw_tbl := tw_inK tw_s5 37 rfl rfl
set_option maxRecDepth 20000 in
theorem wd_998 : (Jvm.Cond.methodLink "ShippedClass$Machine" (192 : Nat) ({ cls := "java/lang/String", name := "charAt", desc := "(I)C" } : Jvm.MethodName)) ∈ tw_tbl := tw_inK tw_s5 38 rfl rfl
set_option maxRecDepth 20000 in
theorem wd_999 : (Jvm.Cond.methodLink "ShippedClass$Machine" (147 : Nat) ({ cls := "ShippedClass$Opcodes", name := "isReturn", desc := "(I)Z" } : Jvm.MethodName)) ∈ tw_tbl := tw_inK tw_s5 39 rfl rfl
set_option maxRecDepth 20000 in
theorem wd_1000 : (Jvm.Cond.static ({ cls := "ShippedClass$Opcodes", name := "isReturn", desc := "(I)Z" } : Jvm.MethodName)) ∈ tw_tbl := tw_inK tw_s5 40 rfl rfl
set_option maxRecDepth 20000 in
theorem wd_1001 : (Jvm.Cond.code ({ cls := "ShippedClass$Opcodes", name := "isReturn", desc := "(I)Z" } : Jvm.MethodName) prog_9_method_12_code (1 : Nat) (Option.some Jvm.ClassFile.FieldType.boolean)) ∈ tw_tbl := tw_inK tw_s5 41 rfl rfl
set_option maxRecDepth 20000 in
theorem wd_1002 : (Jvm.Cond.methodLink "ShippedClass$Machine" (150 : Nat) ({ cls := "ShippedClass$Machine", name := "isAnswer", desc := "(I)Z" } : Jvm.MethodName)) ∈ tw_tbl := tw_inK tw_s5 42 rfl rfl
set_option maxRecDepth 20000 in
theorem wd_1004 : (Jvm.Cond.instanceMethod ({ cls := "ShippedClass$Machine", name := "isAnswer", desc := "(I)Z" } : Jvm.MethodName)) ∈ tw_tbl := tw_inK tw_s5 44 rfl rfl
set_option maxRecDepth 20000 in
theorem wd_1005 : (Jvm.Cond.code ({ cls := "ShippedClass$Machine", name := "isAnswer", desc := "(I)Z" } : Jvm.MethodName) prog_8_method_11_code (2 : Nat) (Option.some Jvm.ClassFile.FieldType.boolean)) ∈ tw_tbl := tw_inK tw_s5 45 rfl rfl
set_option maxRecDepth 20000 in
theorem wd_1006 : (Jvm.Cond.methodLink "ShippedClass$Verifier" (150 : Nat) ({ cls := "ShippedClass$Verifier", name := "goOnToHandlers", desc := "(I)I" } : Jvm.MethodName)) ∈ tw_tbl := tw_inK tw_s5 46 rfl rfl
set_option maxRecDepth 20000 in
theorem wd_1008 : (Jvm.Cond.instanceMethod ({ cls := "ShippedClass$Verifier", name := "goOnToHandlers", desc := "(I)I" } : Jvm.MethodName)) ∈ tw_tbl := tw_inK tw_s5 48 rfl rfl
set_option maxRecDepth 20000 in
theorem wd_1009 : (Jvm.Cond.code ({ cls := "ShippedClass$Verifier", name := "goOnToHandlers", desc := "(I)I" } : Jvm.MethodName) prog_12_method_10_code (6 : Nat) (Option.some Jvm.ClassFile.FieldType.int)) ∈ tw_tbl := tw_inK tw_s5 49 rfl rfl
set_option maxRecDepth 20000 in
theorem wd_1010 : (Jvm.Cond.methodLink "ShippedClass$Verifier" (153 : Nat) ({ cls := "ShippedClass$Opcodes", name := "goesOn", desc := "(I)Z" } : Jvm.MethodName)) ∈ tw_tbl := tw_inK tw_s5 50 rfl rfl
set_option maxRecDepth 20000 in
theorem wd_1011 : (Jvm.Cond.static ({ cls := "ShippedClass$Opcodes", name := "goesOn", desc := "(I)Z" } : Jvm.MethodName)) ∈ tw_tbl := tw_inK tw_s5 51 rfl rfl
set_option maxRecDepth 20000 in
theorem wd_1012 : (Jvm.Cond.code ({ cls := "ShippedClass$Opcodes", name := "goesOn", desc := "(I)Z" } : Jvm.MethodName) prog_9_method_14_code (1 : Nat) (Option.some Jvm.ClassFile.FieldType.boolean)) ∈ tw_tbl := tw_inK tw_s5 52 rfl rfl
set_option maxRecDepth 20000 in
theorem wd_1013 : (Jvm.Cond.methodLink "ShippedClass$Opcodes" (31 : Nat) ({ cls := "ShippedClass$Opcodes", name := "isReturn", desc := "(I)Z" } : Jvm.MethodName)) ∈ tw_tbl := tw_inK tw_s5 53 rfl rfl
set_option maxRecDepth 20000 in
theorem wd_1014 : (Jvm.Cond.methodLink "ShippedClass$Verifier" (159 : Nat) ({ cls := "ShippedClass$Opcodes", name := "mayJump", desc := "(I)Z" } : Jvm.MethodName)) ∈ tw_tbl := tw_inK tw_s5 54 rfl rfl
set_option maxRecDepth 20000 in
theorem wd_1015 : (Jvm.Cond.static ({ cls := "ShippedClass$Opcodes", name := "mayJump", desc := "(I)Z" } : Jvm.MethodName)) ∈ tw_tbl := tw_inK tw_s5 55 rfl rfl
set_option maxRecDepth 20000 in
theorem wd_1016 : (Jvm.Cond.code ({ cls := "ShippedClass$Opcodes", name := "mayJump", desc := "(I)Z" } : Jvm.MethodName) prog_9_method_13_code (1 : Nat) (Option.some Jvm.ClassFile.FieldType.boolean)) ∈ tw_tbl := tw_inK tw_s5 56 rfl rfl
set_option maxRecDepth 20000 in
theorem wd_1017 : (Jvm.Cond.methodLink "ShippedClassLaw" (81 : Nat) ({ cls := "ShippedClass", name := "place", desc := "()I" } : Jvm.MethodName)) ∈ tw_tbl := tw_inK tw_s5 57 rfl rfl
set_option maxRecDepth 20000 in
theorem wd_1018 : (Jvm.Cond.instanceMethod ({ cls := "ShippedClass", name := "place", desc := "()I" } : Jvm.MethodName)) ∈ tw_tbl := tw_inK tw_s5 58 rfl rfl
set_option maxRecDepth 20000 in
theorem wd_1019 : (Jvm.Cond.selects "ShippedClass" ({ cls := "ShippedClass", name := "place", desc := "()I" } : Jvm.MethodName) ({ cls := "ShippedClass", name := "place", desc := "()I" } : Jvm.MethodName)) ∈ tw_tbl := tw_inK tw_s5 59 rfl rfl
set_option maxRecDepth 20000 in
theorem wd_1020 : (Jvm.Cond.code ({ cls := "ShippedClass", name := "place", desc := "()I" } : Jvm.MethodName) prog_1_method_8_code (1 : Nat) (Option.some Jvm.ClassFile.FieldType.int)) ∈ tw_tbl := tw_inK tw_s5 60 rfl rfl
set_option maxRecDepth 20000 in
theorem wd_1021 : (Jvm.Cond.methodLink "ShippedClassLaw" (52 : Nat) ({ cls := "ShippedClassLaw", name := "feed", desc := "(LShippedClass;IIIII[J)I" } : Jvm.MethodName)) ∈ tw_tbl := tw_inK tw_s5 61 rfl rfl
set_option maxRecDepth 20000 in
theorem wd_1022 : (Jvm.Cond.static ({ cls := "ShippedClassLaw", name := "feed", desc := "(LShippedClass;IIIII[J)I" } : Jvm.MethodName)) ∈ tw_tbl := tw_inK tw_s5 62 rfl rfl
set_option maxRecDepth 20000 in
theorem wd_1023 : (Jvm.Cond.codeWith ({ cls := "ShippedClassLaw", name := "feed", desc := "(LShippedClass;IIIII[J)I" } : Jvm.MethodName) method_3_code (8 : Nat) (Option.some Jvm.ClassFile.FieldType.int) [((0 : Nat), (16 : Nat), (19 : Nat), (13 : Nat)), ((0 : Nat), (16 : Nat), (23 : Nat), (15 : Nat))]) ∈ tw_tbl := tw_inK tw_s5 63 rfl rfl
set_option maxRecDepth 20000 in
theorem wd_1024 : (Jvm.Cond.classLink "ShippedClassLaw" (13 : Nat) "java/lang/IllegalArgumentException") ∈ tw_tbl := tw_inK tw_s5 64 rfl rfl
set_option maxRecDepth 20000 in
theorem wd_1025 : (Jvm.Cond.classLink "ShippedClassLaw" (15 : Nat) "java/lang/IllegalStateException") ∈ tw_tbl := tw_inK tw_s5 65 rfl rfl
set_option maxRecDepth 20000 in
theorem wd_1026 : (Jvm.Cond.methodLink "ShippedClassLaw" (7 : Nat) ({ cls := "ShippedClass", name := "feed", desc := "(IIIII)I" } : Jvm.MethodName)) ∈ tw_tbl := tw_inK tw_s5 66 rfl rfl
set_option maxRecDepth 20000 in
theorem wd_1027 : (Jvm.Cond.instanceMethod ({ cls := "ShippedClass", name := "feed", desc := "(IIIII)I" } : Jvm.MethodName)) ∈ tw_tbl := tw_inK tw_s5 67 rfl rfl
set_option maxRecDepth 20000 in
theorem wd_1028 : (Jvm.Cond.selects "ShippedClass" ({ cls := "ShippedClass", name := "feed", desc := "(IIIII)I" } : Jvm.MethodName) ({ cls := "ShippedClass", name := "feed", desc := "(IIIII)I" } : Jvm.MethodName)) ∈ tw_tbl := tw_inK tw_s5 68 rfl rfl
set_option maxRecDepth 20000 in
theorem wd_1029 : (Jvm.Cond.code ({ cls := "ShippedClass", name := "feed", desc := "(IIIII)I" } : Jvm.MethodName) prog_1_method_2_code (8 : Nat) (Option.some Jvm.ClassFile.FieldType.int)) ∈ tw_tbl := tw_inK tw_s5 69 rfl rfl
set_option maxRecDepth 20000 in
theorem wd_1030 : (Jvm.Cond.classLink "ShippedClass" (61 : Nat) "java/lang/IllegalArgumentException") ∈ tw_tbl := tw_inK tw_s5 70 rfl rfl
set_option maxRecDepth 20000 in
theorem wd_1031 : (Jvm.Cond.instantiable "java/lang/IllegalArgumentException" (6 : Nat)) ∈ tw_tbl := tw_inK tw_s5 71 rfl rfl
set_option maxRecDepth 20000 in
theorem wd_1032 : (Jvm.Cond.castable "java/lang/IllegalArgumentException" "java/lang/IllegalArgumentException") ∈ tw_tbl := tw_inK tw_s5 72 rfl rfl
set_option maxRecDepth 20000 in
theorem wd_1033 : (Jvm.Cond.declares ({ cls := "java/lang/RuntimeException", name := "<init>", desc := "()V" } : Jvm.MethodName)) ∈ tw_tbl := tw_inK tw_s5 73 rfl rfl
set_option maxRecDepth 20000 in
theorem wd_1034 : (Jvm.Cond.declares ({ cls := "java/lang/RuntimeException", name := "<init>", desc := "(Ljava/lang/String;)V" } : Jvm.MethodName)) ∈ tw_tbl := tw_inK tw_s5 74 rfl rfl
set_option maxRecDepth 20000 in
theorem wd_1035 : (Jvm.Cond.declares ({ cls := "java/lang/Exception", name := "<init>", desc := "()V" } : Jvm.MethodName)) ∈ tw_tbl := tw_inK tw_s5 75 rfl rfl
set_option maxRecDepth 20000 in
theorem wd_1036 : (Jvm.Cond.declares ({ cls := "java/lang/Exception", name := "<init>", desc := "(Ljava/lang/String;)V" } : Jvm.MethodName)) ∈ tw_tbl := tw_inK tw_s5 76 rfl rfl
set_option maxRecDepth 20000 in
theorem wd_1037 : (Jvm.Cond.declares ({ cls := "java/lang/Throwable", name := "<init>", desc := "()V" } : Jvm.MethodName)) ∈ tw_tbl := tw_inK tw_s5 77 rfl rfl
set_option maxRecDepth 20000 in
theorem wd_1038 : (Jvm.Cond.declares ({ cls := "java/lang/Throwable", name := "<init>", desc := "(Ljava/lang/String;)V" } : Jvm.MethodName)) ∈ tw_tbl := tw_inK tw_s5 78 rfl rfl
set_option maxRecDepth 20000 in
theorem wd_1039 : (Jvm.Cond.selects "java/lang/IllegalArgumentException" ({ cls := "java/lang/Throwable", name := "fillInStackTrace", desc := "(I)Ljava/lang/Throwable;" } : Jvm.MethodName) ({ cls := "java/lang/Throwable", name := "fillInStackTrace", desc := "(I)Ljava/lang/Throwable;" } : Jvm.MethodName)) ∈ tw_tbl := tw_inK tw_s5 79 rfl rfl
set_option maxRecDepth 20000 in
theorem wd_1040 : (Jvm.Cond.selects "java/lang/IllegalArgumentException" ({ cls := "java/lang/Throwable", name := "fillInStackTrace", desc := "()Ljava/lang/Throwable;" } : Jvm.MethodName) ({ cls := "java/lang/Throwable", name := "fillInStackTrace", desc := "()Ljava/lang/Throwable;" } : Jvm.MethodName)) ∈ tw_tbl := tw_inK tw_s5 80 rfl rfl
set_option maxRecDepth 20000 in
theorem wd_1041 : (Jvm.Cond.lays "java/lang/IllegalArgumentException" "java/lang/Throwable" "cause" "Ljava/lang/Throwable;") ∈ tw_tbl := tw_inK tw_s5 81 rfl rfl
set_option maxRecDepth 20000 in
theorem wd_1042 : (Jvm.Cond.lays "java/lang/Throwable" "java/lang/Throwable" "cause" "Ljava/lang/Throwable;") ∈ tw_tbl := tw_inK tw_s5 82 rfl rfl
set_option maxRecDepth 20000 in
theorem wd_1043 : (Jvm.Cond.lays "java/lang/IllegalArgumentException" "java/lang/Throwable" "stackTrace" "[Ljava/lang/StackTraceElement;") ∈ tw_tbl := tw_inK tw_s5 83 rfl rfl
set_option maxRecDepth 20000 in
theorem wd_1044 : (Jvm.Cond.lays "java/lang/Throwable" "java/lang/Throwable" "stackTrace" "[Ljava/lang/StackTraceElement;") ∈ tw_tbl := tw_inK tw_s5 84 rfl rfl
set_option maxRecDepth 20000 in
theorem wd_1045 : (Jvm.Cond.lays "java/lang/IllegalArgumentException" "java/lang/Throwable" "suppressedExceptions" "Ljava/util/List;") ∈ tw_tbl := tw_inK tw_s5 85 rfl rfl
set_option maxRecDepth 20000 in
theorem wd_1046 : (Jvm.Cond.lays "java/lang/Throwable" "java/lang/Throwable" "suppressedExceptions" "Ljava/util/List;") ∈ tw_tbl := tw_inK tw_s5 86 rfl rfl
set_option maxRecDepth 20000 in
theorem wd_1047 : (Jvm.Cond.lays "java/lang/IllegalArgumentException" "java/lang/Throwable" "detailMessage" "Ljava/lang/String;") ∈ tw_tbl := tw_inK tw_s5 87 rfl rfl
set_option maxRecDepth 20000 in
theorem wd_1048 : (Jvm.Cond.lays "java/lang/Throwable" "java/lang/Throwable" "detailMessage" "Ljava/lang/String;") ∈ tw_tbl := tw_inK tw_s5 88 rfl rfl
set_option maxRecDepth 20000 in
theorem wd_1049 : (Jvm.Cond.lays "java/lang/IllegalArgumentException" "java/lang/Throwable" "backtrace" "Ljava/lang/Object;") ∈ tw_tbl := tw_inK tw_s5 89 rfl rfl
set_option maxRecDepth 20000 in
theorem wd_1050 : (Jvm.Cond.lays "java/lang/Throwable" "java/lang/Throwable" "backtrace" "Ljava/lang/Object;") ∈ tw_tbl := tw_inK tw_s5 90 rfl rfl
set_option maxRecDepth 20000 in
theorem wd_1051 : (Jvm.Cond.fieldLink "java/lang/Throwable" (198 : Nat) "java/lang/Throwable" "backtrace" "Ljava/lang/Object;") ∈ tw_tbl := tw_inK tw_s5 91 rfl rfl
set_option maxRecDepth 20000 in
theorem wd_1052 : (Jvm.Cond.superclass "java/lang/Throwable" "java/lang/Object") ∈ tw_tbl := tw_inK tw_s5 92 rfl rfl
set_option maxRecDepth 20000 in
theorem wd_1053 : (Jvm.Cond.instanceMethod ({ cls := "java/lang/Throwable", name := "<init>", desc := "()V" } : Jvm.MethodName)) ∈ tw_tbl := tw_inK tw_s5 93 rfl rfl
set_option maxRecDepth 20000 in
theorem wd_1054 : (Jvm.Cond.code ({ cls := "java/lang/Throwable", name := "<init>", desc := "()V" } : Jvm.MethodName) prog_26_method_1_code (1 : Nat) (Option.none : Option Jvm.ClassFile.FieldType)) ∈ tw_tbl := tw_inK tw_s5 94 rfl rfl
set_option maxRecDepth 20000 in
theorem wd_1055 : (Jvm.Cond.methodLink "java/lang/Throwable" (1 : Nat) ({ cls := "java/lang/Object", name := "<init>", desc := "()V" } : Jvm.MethodName)) ∈ tw_tbl := tw_inK tw_s5 95 rfl rfl
set_option maxRecDepth 20000 in
theorem wd_1056 : (Jvm.Cond.fieldLink "java/lang/Throwable" (13 : Nat) "java/lang/Throwable" "UNASSIGNED_STACK" "[Ljava/lang/StackTraceElement;") ∈ tw_tbl := tw_inK tw_s5 96 rfl rfl
set_option maxRecDepth 20000 in
theorem wd_1058 : (Jvm.Cond.fieldLink "java/lang/Throwable" (20 : Nat) "java/lang/Throwable" "SUPPRESSED_SENTINEL" "Ljava/util/List;") ∈ tw_tbl := tw_inK tw_s5 98 rfl rfl
set_option maxRecDepth 20000 in
theorem wd_1060 : (Jvm.Cond.methodLink "java/lang/Throwable" (27 : Nat) ({ cls := "java/lang/Throwable", name := "fillInStackTrace", desc := "()Ljava/lang/Throwable;" } : Jvm.MethodName)) ∈ tw_tbl := tw_inK tw_s5 100 rfl rfl
set_option maxRecDepth 20000 in
theorem wd_1061 : (Jvm.Cond.instanceMethod ({ cls := "java/lang/Throwable", name := "fillInStackTrace", desc := "()Ljava/lang/Throwable;" } : Jvm.MethodName)) ∈ tw_tbl := tw_inK tw_s5 101 rfl rfl
set_option maxRecDepth 20000 in
theorem wd_1062 : (Jvm.Cond.sameMethod "java/lang/Throwable" "java/lang/Throwable" "fillInStackTrace" "()Ljava/lang/Throwable;") ∈ tw_tbl := tw_inK tw_s5 102 rfl rfl
set_option maxRecDepth 20000 in
theorem wd_1063 : (Jvm.Cond.selects "java/lang/IllegalStateException" ({ cls := "java/lang/Throwable", name := "fillInStackTrace", desc := "()Ljava/lang/Throwable;" } : Jvm.MethodName) ({ cls := "java/lang/Throwable", name := "fillInStackTrace", desc := "()Ljava/lang/Throwable;" } : Jvm.MethodName)) ∈ tw_tbl := tw_inK tw_s5 103 rfl rfl
set_option maxRecDepth 20000 in
theorem wd_1064 : (Jvm.Cond.selects "java/lang/IndexOutOfBoundsException" ({ cls := "java/lang/Throwable", name := "fillInStackTrace", desc := "()Ljava/lang/Throwable;" } : Jvm.MethodName) ({ cls := "java/lang/Throwable", name := "fillInStackTrace", desc := "()Ljava/lang/Throwable;" } : Jvm.MethodName)) ∈ tw_tbl := tw_inK tw_s5 104 rfl rfl
set_option maxRecDepth 20000 in
theorem wd_1065 : (Jvm.Cond.codeSync ({ cls := "java/lang/Throwable", name := "fillInStackTrace", desc := "()Ljava/lang/Throwable;" } : Jvm.MethodName) prog_26_method_18_code (1 : Nat) (Option.some (Jvm.ClassFile.FieldType.object "java/lang/Throwable"))) ∈ tw_tbl := tw_inK tw_s5 105 rfl rfl
set_option maxRecDepth 20000 in
theorem wd_1066 : (Jvm.Cond.methodLink "java/lang/Throwable" (202 : Nat) ({ cls := "java/lang/Throwable", name := "fillInStackTrace", desc := "(I)Ljava/lang/Throwable;" } : Jvm.MethodName)) ∈ tw_tbl := tw_inK tw_s5 106 rfl rfl
set_option maxRecDepth 20000 in
theorem wd_1068 : (Jvm.Cond.instanceMethod ({ cls := "java/lang/Throwable", name := "fillInStackTrace", desc := "(I)Ljava/lang/Throwable;" } : Jvm.MethodName)) ∈ tw_tbl := tw_inK tw_s5 108 rfl rfl
set_option maxRecDepth 20000 in
theorem wd_1069 : (Jvm.Cond.instantiable "java/lang/Throwable" (6 : Nat)) ∈ tw_tbl := tw_inK tw_s5 109 rfl rfl
set_option maxRecDepth 20000 in
theorem wd_1070 : (Jvm.Cond.native ({ cls := "java/lang/Throwable", name := "fillInStackTrace", desc := "(I)Ljava/lang/Throwable;" } : Jvm.MethodName)) ∈ tw_tbl := tw_inK tw_s5 110 rfl rfl
set_option maxRecDepth 20000 in
theorem wd_1071 : (Jvm.Cond.methodLink "ShippedClass" (63 : Nat) ({ cls := "java/lang/IllegalArgumentException", name := "<init>", desc := "()V" } : Jvm.MethodName)) ∈ tw_tbl := tw_inK tw_s5 111 rfl rfl
set_option maxRecDepth 20000 in
theorem wd_1072 : (Jvm.Cond.instanceMethod ({ cls := "java/lang/IllegalArgumentException", name := "<init>", desc := "()V" } : Jvm.MethodName)) ∈ tw_tbl := tw_inK tw_s5 112 rfl rfl
set_option maxRecDepth 20000 in
theorem wd_1073 : (Jvm.Cond.code ({ cls := "java/lang/IllegalArgumentException", name := "<init>", desc := "()V" } : Jvm.MethodName) prog_17_method_1_code (1 : Nat) (Option.none : Option Jvm.ClassFile.FieldType)) ∈ tw_tbl := tw_inK tw_s5 113 rfl rfl
set_option maxRecDepth 20000 in
theorem wd_1074 : (Jvm.Cond.methodLink "java/lang/IllegalArgumentException" (1 : Nat) ({ cls := "java/lang/RuntimeException", name := "<init>", desc := "()V" } : Jvm.MethodName)) ∈ tw_tbl := tw_inK tw_s5 114 rfl rfl
set_option maxRecDepth 20000 in
theorem wd_1075 : (Jvm.Cond.instanceMethod ({ cls := "java/lang/RuntimeException", name := "<init>", desc := "()V" } : Jvm.MethodName)) ∈ tw_tbl := tw_inK tw_s5 115 rfl rfl
set_option maxRecDepth 20000 in
theorem wd_1076 : (Jvm.Cond.code ({ cls := "java/lang/RuntimeException", name := "<init>", desc := "()V" } : Jvm.MethodName) prog_21_method_1_code (1 : Nat) (Option.none : Option Jvm.ClassFile.FieldType)) ∈ tw_tbl := tw_inK tw_s5 116 rfl rfl
set_option maxRecDepth 20000 in
theorem wd_1077 : (Jvm.Cond.methodLink "java/lang/RuntimeException" (1 : Nat) ({ cls := "java/lang/Exception", name := "<init>", desc := "()V" } : Jvm.MethodName)) ∈ tw_tbl := tw_inK tw_s5 117 rfl rfl
set_option maxRecDepth 20000 in
theorem wd_1078 : (Jvm.Cond.instanceMethod ({ cls := "java/lang/Exception", name := "<init>", desc := "()V" } : Jvm.MethodName)) ∈ tw_tbl := tw_inK tw_s5 118 rfl rfl
set_option maxRecDepth 20000 in
theorem wd_1079 : (Jvm.Cond.code ({ cls := "java/lang/Exception", name := "<init>", desc := "()V" } : Jvm.MethodName) prog_16_method_1_code (1 : Nat) (Option.none : Option Jvm.ClassFile.FieldType)) ∈ tw_tbl := tw_inK tw_s5 119 rfl rfl
set_option maxRecDepth 20000 in
theorem wd_1080 : (Jvm.Cond.methodLink "java/lang/Exception" (1 : Nat) ({ cls := "java/lang/Throwable", name := "<init>", desc := "()V" } : Jvm.MethodName)) ∈ tw_tbl := tw_inK tw_s5 120 rfl rfl
set_option maxRecDepth 20000 in
theorem wd_1081 : (Jvm.Cond.fieldLink "java/lang/Throwable" (198 : Nat) "java/lang/Throwable" "backtrace" "Ljava/lang/Object;") ∈ tw_tbl := tw_inK tw_s5 121 rfl rfl
set_option maxRecDepth 20000 in
theorem wd_1082 : (Jvm.Cond.fieldLink "java/lang/Throwable" (7 : Nat) "java/lang/Throwable" "cause" "Ljava/lang/Throwable;") ∈ tw_tbl := tw_inK tw_s5 122 rfl rfl
set_option maxRecDepth 20000 in
theorem wd_1083 : (Jvm.Cond.fieldLink "java/lang/Throwable" (17 : Nat) "java/lang/Throwable" "stackTrace" "[Ljava/lang/StackTraceElement;") ∈ tw_tbl := tw_inK tw_s5 123 rfl rfl
set_option maxRecDepth 20000 in
theorem wd_1084 : (Jvm.Cond.fieldLink "java/lang/Throwable" (24 : Nat) "java/lang/Throwable" "suppressedExceptions" "Ljava/util/List;") ∈ tw_tbl := tw_inK tw_s5 124 rfl rfl
set_option maxRecDepth 20000 in
theorem wd_1085 : (Jvm.Cond.soleField "java/lang/Throwable" "backtrace") ∈ tw_tbl := tw_inK tw_s5 125 rfl rfl
set_option maxRecDepth 20000 in
theorem wd_1086 : (Jvm.Cond.soleField "java/lang/Throwable" "detailMessage") ∈ tw_tbl := tw_inK tw_s5 126 rfl rfl
set_option maxRecDepth 20000 in
theorem wd_1087 : (Jvm.Cond.soleField "java/lang/Throwable" "cause") ∈ tw_tbl := tw_inK tw_s5 127 rfl rfl
set_option maxRecDepth 20000 in
theorem wd_1088 : (Jvm.Cond.soleField "java/lang/Throwable" "stackTrace") ∈ tw_tbl := tw_inK tw_s5 128 rfl rfl
set_option maxRecDepth 20000 in
theorem wd_1089 : (Jvm.Cond.lays "java/lang/IllegalArgumentException" "java/lang/Throwable" "depth" "I") ∈ tw_tbl := tw_inK tw_s5 129 rfl rfl
set_option maxRecDepth 20000 in
theorem wd_1090 : (Jvm.Cond.soleField "java/lang/Throwable" "depth") ∈ tw_tbl := tw_inK tw_s5 130 rfl rfl
set_option maxRecDepth 20000 in
theorem wd_1091 : (Jvm.Cond.soleField "java/lang/Throwable" "suppressedExceptions") ∈ tw_tbl := tw_inK tw_s5 131 rfl rfl
set_option maxRecDepth 20000 in
theorem wd_1092 : (Jvm.Cond.superclass "java/lang/IllegalArgumentException" "java/lang/RuntimeException") ∈ tw_tbl := tw_inK tw_s5 132 rfl rfl
set_option maxRecDepth 20000 in
theorem wd_1093 : (Jvm.Cond.classLink "ShippedClass" (68 : Nat) "java/lang/IllegalStateException") ∈ tw_tbl := tw_inK tw_s5 133 rfl rfl
set_option maxRecDepth 20000 in
theorem wd_1094 : (Jvm.Cond.instantiable "java/lang/IllegalStateException" (6 : Nat)) ∈ tw_tbl := tw_inK tw_s5 134 rfl rfl
set_option maxRecDepth 20000 in
theorem wd_1095 : (Jvm.Cond.castable "java/lang/IllegalStateException" "java/lang/IllegalStateException") ∈ tw_tbl := tw_inK tw_s5 135 rfl rfl
set_option maxRecDepth 20000 in
theorem wd_1096 : (Jvm.Cond.selects "java/lang/IllegalStateException" ({ cls := "java/lang/Throwable", name := "fillInStackTrace", desc := "(I)Ljava/lang/Throwable;" } : Jvm.MethodName) ({ cls := "java/lang/Throwable", name := "fillInStackTrace", desc := "(I)Ljava/lang/Throwable;" } : Jvm.MethodName)) ∈ tw_tbl := tw_inK tw_s5 136 rfl rfl
set_option maxRecDepth 20000 in
theorem wd_1097 : (Jvm.Cond.lays "java/lang/IllegalStateException" "java/lang/Throwable" "cause" "Ljava/lang/Throwable;") ∈ tw_tbl := tw_inK tw_s5 137 rfl rfl
set_option maxRecDepth 20000 in
theorem wd_1098 : (Jvm.Cond.lays "java/lang/IllegalStateException" "java/lang/Throwable" "stackTrace" "[Ljava/lang/StackTraceElement;") ∈ tw_tbl := tw_inK tw_s5 138 rfl rfl
set_option maxRecDepth 20000 in
theorem wd_1099 : (Jvm.Cond.lays "java/lang/IllegalStateException" "java/lang/Throwable" "suppressedExceptions" "Ljava/util/List;") ∈ tw_tbl := tw_inK tw_s5 139 rfl rfl
set_option maxRecDepth 20000 in
theorem wd_1100 : (Jvm.Cond.lays "java/lang/IllegalStateException" "java/lang/Throwable" "detailMessage" "Ljava/lang/String;") ∈ tw_tbl := tw_inK tw_s5 140 rfl rfl
set_option maxRecDepth 20000 in
theorem wd_1101 : (Jvm.Cond.lays "java/lang/IllegalStateException" "java/lang/Throwable" "backtrace" "Ljava/lang/Object;") ∈ tw_tbl := tw_inK tw_s5 141 rfl rfl
set_option maxRecDepth 20000 in
theorem wd_1102 : (Jvm.Cond.methodLink "ShippedClass" (70 : Nat) ({ cls := "java/lang/IllegalStateException", name := "<init>", desc := "()V" } : Jvm.MethodName)) ∈ tw_tbl := tw_inK tw_s5 142 rfl rfl
set_option maxRecDepth 20000 in
theorem wd_1103 : (Jvm.Cond.instanceMethod ({ cls := "java/lang/IllegalStateException", name := "<init>", desc := "()V" } : Jvm.MethodName)) ∈ tw_tbl := tw_inK tw_s5 143 rfl rfl
set_option maxRecDepth 20000 in
theorem wd_1104 : (Jvm.Cond.code ({ cls := "java/lang/IllegalStateException", name := "<init>", desc := "()V" } : Jvm.MethodName) prog_18_method_1_code (1 : Nat) (Option.none : Option Jvm.ClassFile.FieldType)) ∈ tw_tbl := tw_inK tw_s5 144 rfl rfl
set_option maxRecDepth 20000 in
theorem wd_1105 : (Jvm.Cond.methodLink "java/lang/IllegalStateException" (1 : Nat) ({ cls := "java/lang/RuntimeException", name := "<init>", desc := "()V" } : Jvm.MethodName)) ∈ tw_tbl := tw_inK tw_s5 145 rfl rfl
set_option maxRecDepth 20000 in
theorem wd_1106 : (Jvm.Cond.lays "java/lang/IllegalStateException" "java/lang/Throwable" "depth" "I") ∈ tw_tbl := tw_inK tw_s5 146 rfl rfl
set_option maxRecDepth 20000 in
theorem wd_1107 : (Jvm.Cond.superclass "java/lang/IllegalStateException" "java/lang/RuntimeException") ∈ tw_tbl := tw_inK tw_s5 147 rfl rfl
set_option maxRecDepth 20000 in
theorem wd_1108 : (Jvm.Cond.methodLink "ShippedClass" (71 : Nat) ({ cls := "ShippedClass$Image", name := "add", desc := "(I)V" } : Jvm.MethodName)) ∈ tw_tbl := tw_inK tw_s5 148 rfl rfl
set_option maxRecDepth 20000 in
theorem wd_1109 : (Jvm.Cond.instanceMethod ({ cls := "ShippedClass$Image", name := "add", desc := "(I)V" } : Jvm.MethodName)) ∈ tw_tbl := tw_inK tw_s5 149 rfl rfl
set_option maxRecDepth 20000 in
theorem wd_1110 : (Jvm.Cond.selects "ShippedClass$Image" ({ cls := "ShippedClass$Image", name := "add", desc := "(I)V" } : Jvm.MethodName) ({ cls := "ShippedClass$Image", name := "add", desc := "(I)V" } : Jvm.MethodName)) ∈ tw_tbl := tw_inK tw_s5 150 rfl rfl
set_option maxRecDepth 20000 in
theorem wd_1111 : (Jvm.Cond.code ({ cls := "ShippedClass$Image", name := "add", desc := "(I)V" } : Jvm.MethodName) prog_5_method_2_code (2 : Nat) (Option.none : Option Jvm.ClassFile.FieldType)) ∈ tw_tbl := tw_inK tw_s5 151 rfl rfl
set_option maxRecDepth 20000 in
theorem wd_1112 : (Jvm.Cond.methodLink "ShippedClassLaw" (58 : Nat) ({ cls := "ShippedClassLaw", name := "put", desc := "(LShippedClass;II[J)I" } : Jvm.MethodName)) ∈ tw_tbl := tw_inK tw_s5 152 rfl rfl
set_option maxRecDepth 20000 in
theorem wd_1113 : (Jvm.Cond.static ({ cls := "ShippedClassLaw", name := "put", desc := "(LShippedClass;II[J)I" } : Jvm.MethodName)) ∈ tw_tbl := tw_inK tw_s5 153 rfl rfl
set_option maxRecDepth 20000 in
theorem wd_1114 : (Jvm.Cond.codeWith ({ cls := "ShippedClassLaw", name := "put", desc := "(LShippedClass;II[J)I" } : Jvm.MethodName) method_4_code (5 : Nat) (Option.some Jvm.ClassFile.FieldType.int) [((0 : Nat), (10 : Nat), (13 : Nat), (21 : Nat)), ((0 : Nat), (10 : Nat), (17 : Nat), (13 : Nat))]) ∈ tw_tbl := tw_inK tw_s5 154 rfl rfl
set_option maxRecDepth 20000 in
theorem wd_1115 : (Jvm.Cond.classLink "ShippedClassLaw" (21 : Nat) "java/lang/IndexOutOfBoundsException") ∈ tw_tbl := tw_inK tw_s5 155 rfl rfl
set_option maxRecDepth 20000 in
theorem wd_1116 : (Jvm.Cond.methodLink "ShippedClassLaw" (17 : Nat) ({ cls := "ShippedClass", name := "put", desc := "(II)I" } : Jvm.MethodName)) ∈ tw_tbl := tw_inK tw_s5 156 rfl rfl
set_option maxRecDepth 20000 in
theorem wd_1117 : (Jvm.Cond.instanceMethod ({ cls := "ShippedClass", name := "put", desc := "(II)I" } : Jvm.MethodName)) ∈ tw_tbl := tw_inK tw_s5 157 rfl rfl
set_option maxRecDepth 20000 in
theorem wd_1118 : (Jvm.Cond.selects "ShippedClass" ({ cls := "ShippedClass", name := "put", desc := "(II)I" } : Jvm.MethodName) ({ cls := "ShippedClass", name := "put", desc := "(II)I" } : Jvm.MethodName)) ∈ tw_tbl := tw_inK tw_s5 158 rfl rfl
set_option maxRecDepth 20000 in
theorem wd_1119 : (Jvm.Cond.code ({ cls := "ShippedClass", name := "put", desc := "(II)I" } : Jvm.MethodName) prog_1_method_3_code (4 : Nat) (Option.some Jvm.ClassFile.FieldType.int)) ∈ tw_tbl := tw_inK tw_s5 159 rfl rfl
set_option maxRecDepth 20000 in
theorem wd_1120 : (Jvm.Cond.classLink "ShippedClass" (75 : Nat) "java/lang/IndexOutOfBoundsException") ∈ tw_tbl := tw_inK tw_s5 160 rfl rfl
set_option maxRecDepth 20000 in
theorem wd_1121 : (Jvm.Cond.instantiable "java/lang/IndexOutOfBoundsException" (6 : Nat)) ∈ tw_tbl := tw_inK tw_s5 161 rfl rfl
set_option maxRecDepth 20000 in
theorem wd_1122 : (Jvm.Cond.castable "java/lang/IndexOutOfBoundsException" "java/lang/IndexOutOfBoundsException") ∈ tw_tbl := tw_inK tw_s5 162 rfl rfl
set_option maxRecDepth 20000 in
theorem wd_1123 : (Jvm.Cond.selects "java/lang/IndexOutOfBoundsException" ({ cls := "java/lang/Throwable", name := "fillInStackTrace", desc := "(I)Ljava/lang/Throwable;" } : Jvm.MethodName) ({ cls := "java/lang/Throwable", name := "fillInStackTrace", desc := "(I)Ljava/lang/Throwable;" } : Jvm.MethodName)) ∈ tw_tbl := tw_inK tw_s5 163 rfl rfl
set_option maxRecDepth 20000 in
theorem wd_1124 : (Jvm.Cond.lays "java/lang/IndexOutOfBoundsException" "java/lang/Throwable" "cause" "Ljava/lang/Throwable;") ∈ tw_tbl := tw_inK tw_s5 164 rfl rfl
set_option maxRecDepth 20000 in
theorem wd_1125 : (Jvm.Cond.lays "java/lang/IndexOutOfBoundsException" "java/lang/Throwable" "stackTrace" "[Ljava/lang/StackTraceElement;") ∈ tw_tbl := tw_inK tw_s5 165 rfl rfl
set_option maxRecDepth 20000 in
theorem wd_1126 : (Jvm.Cond.lays "java/lang/IndexOutOfBoundsException" "java/lang/Throwable" "suppressedExceptions" "Ljava/util/List;") ∈ tw_tbl := tw_inK tw_s5 166 rfl rfl
set_option maxRecDepth 20000 in
theorem wd_1127 : (Jvm.Cond.lays "java/lang/IndexOutOfBoundsException" "java/lang/Throwable" "detailMessage" "Ljava/lang/String;") ∈ tw_tbl := tw_inK tw_s5 167 rfl rfl
set_option maxRecDepth 20000 in
theorem wd_1128 : (Jvm.Cond.lays "java/lang/IndexOutOfBoundsException" "java/lang/Throwable" "backtrace" "Ljava/lang/Object;") ∈ tw_tbl := tw_inK tw_s5 168 rfl rfl
set_option maxRecDepth 20000 in
theorem wd_1129 : (Jvm.Cond.methodLink "ShippedClass" (77 : Nat) ({ cls := "java/lang/IndexOutOfBoundsException", name := "<init>", desc := "()V" } : Jvm.MethodName)) ∈ tw_tbl := tw_inK tw_s5 169 rfl rfl
set_option maxRecDepth 20000 in
theorem wd_1130 : (Jvm.Cond.instanceMethod ({ cls := "java/lang/IndexOutOfBoundsException", name := "<init>", desc := "()V" } : Jvm.MethodName)) ∈ tw_tbl := tw_inK tw_s5 170 rfl rfl
set_option maxRecDepth 20000 in
theorem wd_1131 : (Jvm.Cond.code ({ cls := "java/lang/IndexOutOfBoundsException", name := "<init>", desc := "()V" } : Jvm.MethodName) prog_19_method_1_code (1 : Nat) (Option.none : Option Jvm.ClassFile.FieldType)) ∈ tw_tbl := tw_inK tw_s5 171 rfl rfl
set_option maxRecDepth 20000 in
theorem wd_1132 : (Jvm.Cond.methodLink "java/lang/IndexOutOfBoundsException" (1 : Nat) ({ cls := "java/lang/RuntimeException", name := "<init>", desc := "()V" } : Jvm.MethodName)) ∈ tw_tbl := tw_inK tw_s5 172 rfl rfl
set_option maxRecDepth 20000 in
theorem wd_1133 : (Jvm.Cond.lays "java/lang/IndexOutOfBoundsException" "java/lang/Throwable" "depth" "I") ∈ tw_tbl := tw_inK tw_s5 173 rfl rfl
set_option maxRecDepth 20000 in
theorem wd_1134 : (Jvm.Cond.superclass "java/lang/IndexOutOfBoundsException" "java/lang/RuntimeException") ∈ tw_tbl := tw_inK tw_s5 174 rfl rfl
set_option maxRecDepth 20000 in
theorem wd_1135 : (Jvm.Cond.methodLink "ShippedClass" (78 : Nat) ({ cls := "ShippedClass$Image", name := "oneAt", desc := "(I)I" } : Jvm.MethodName)) ∈ tw_tbl := tw_inK tw_s5 175 rfl rfl
set_option maxRecDepth 20000 in
theorem wd_1136 : (Jvm.Cond.methodLink "ShippedClass" (82 : Nat) ({ cls := "ShippedClass$Image", name := "change", desc := "(II)V" } : Jvm.MethodName)) ∈ tw_tbl := tw_inK tw_s5 176 rfl rfl
set_option maxRecDepth 20000 in
theorem wd_1137 : (Jvm.Cond.instanceMethod ({ cls := "ShippedClass$Image", name := "change", desc := "(II)V" } : Jvm.MethodName)) ∈ tw_tbl := tw_inK tw_s5 177 rfl rfl
set_option maxRecDepth 20000 in
theorem wd_1138 : (Jvm.Cond.selects "ShippedClass$Image" ({ cls := "ShippedClass$Image", name := "change", desc := "(II)V" } : Jvm.MethodName) ({ cls := "ShippedClass$Image", name := "change", desc := "(II)V" } : Jvm.MethodName)) ∈ tw_tbl := tw_inK tw_s5 178 rfl rfl
set_option maxRecDepth 20000 in
theorem wd_1139 : (Jvm.Cond.code ({ cls := "ShippedClass$Image", name := "change", desc := "(II)V" } : Jvm.MethodName) prog_5_method_3_code (3 : Nat) (Option.none : Option Jvm.ClassFile.FieldType)) ∈ tw_tbl := tw_inK tw_s5 179 rfl rfl
set_option maxRecDepth 20000 in
theorem wd_1140 : (Jvm.Cond.methodLink "ShippedClassLaw" (62 : Nat) ({ cls := "ShippedClassLaw", name := "cut", desc := "(LShippedClass;I[J)I" } : Jvm.MethodName)) ∈ tw_tbl := tw_inK tw_s5 180 rfl rfl
set_option maxRecDepth 20000 in
theorem wd_1141 : (Jvm.Cond.static ({ cls := "ShippedClassLaw", name := "cut", desc := "(LShippedClass;I[J)I" } : Jvm.MethodName)) ∈ tw_tbl := tw_inK tw_s5 181 rfl rfl
set_option maxRecDepth 20000 in
theorem wd_1142 : (Jvm.Cond.codeWith ({ cls := "ShippedClassLaw", name := "cut", desc := "(LShippedClass;I[J)I" } : Jvm.MethodName) method_5_code (4 : Nat) (Option.some Jvm.ClassFile.FieldType.int) [((0 : Nat), (9 : Nat), (12 : Nat), (13 : Nat))]) ∈ tw_tbl := tw_inK tw_s5 182 rfl rfl
set_option maxRecDepth 20000 in
theorem wd_1143 : (Jvm.Cond.methodLink "ShippedClassLaw" (23 : Nat) ({ cls := "ShippedClass", name := "cut", desc := "(I)I" } : Jvm.MethodName)) ∈ tw_tbl := tw_inK tw_s5 183 rfl rfl
set_option maxRecDepth 20000 in
theorem wd_1144 : (Jvm.Cond.instanceMethod ({ cls := "ShippedClass", name := "cut", desc := "(I)I" } : Jvm.MethodName)) ∈ tw_tbl := tw_inK tw_s5 184 rfl rfl
set_option maxRecDepth 20000 in
theorem wd_1145 : (Jvm.Cond.selects "ShippedClass" ({ cls := "ShippedClass", name := "cut", desc := "(I)I" } : Jvm.MethodName) ({ cls := "ShippedClass", name := "cut", desc := "(I)I" } : Jvm.MethodName)) ∈ tw_tbl := tw_inK tw_s5 185 rfl rfl
set_option maxRecDepth 20000 in
theorem wd_1146 : (Jvm.Cond.code ({ cls := "ShippedClass", name := "cut", desc := "(I)I" } : Jvm.MethodName) prog_1_method_4_code (3 : Nat) (Option.some Jvm.ClassFile.FieldType.int)) ∈ tw_tbl := tw_inK tw_s5 186 rfl rfl
set_option maxRecDepth 20000 in
theorem wd_1147 : (Jvm.Cond.methodLink "ShippedClassLaw" (66 : Nat) ({ cls := "ShippedClassLaw", name := "rule", desc := "(LShippedClass;ZI[J)I" } : Jvm.MethodName)) ∈ tw_tbl := tw_inK tw_s5 187 rfl rfl
set_option maxRecDepth 20000 in
theorem wd_1148 : (Jvm.Cond.static ({ cls := "ShippedClassLaw", name := "rule", desc := "(LShippedClass;ZI[J)I" } : Jvm.MethodName)) ∈ tw_tbl := tw_inK tw_s5 188 rfl rfl
set_option maxRecDepth 20000 in
theorem wd_1149 : (Jvm.Cond.codeWith ({ cls := "ShippedClassLaw", name := "rule", desc := "(LShippedClass;ZI[J)I" } : Jvm.MethodName) method_6_code (5 : Nat) (Option.some Jvm.ClassFile.FieldType.int) [((0 : Nat), (10 : Nat), (13 : Nat), (13 : Nat)), ((0 : Nat), (10 : Nat), (17 : Nat), (15 : Nat))]) ∈ tw_tbl := tw_inK tw_s5 189 rfl rfl
set_option maxRecDepth 20000 in
theorem wd_1150 : (Jvm.Cond.methodLink "ShippedClassLaw" (27 : Nat) ({ cls := "ShippedClass", name := "rule", desc := "(ZI)I" } : Jvm.MethodName)) ∈ tw_tbl := tw_inK tw_s5 190 rfl rfl
set_option maxRecDepth 20000 in
theorem wd_1151 : (Jvm.Cond.instanceMethod ({ cls := "ShippedClass", name := "rule", desc := "(ZI)I" } : Jvm.MethodName)) ∈ tw_tbl := tw_inK tw_s5 191 rfl rfl
set_option maxRecDepth 20000 in
theorem wd_1152 : (Jvm.Cond.selects "ShippedClass" ({ cls := "ShippedClass", name := "rule", desc := "(ZI)I" } : Jvm.MethodName) ({ cls := "ShippedClass", name := "rule", desc := "(ZI)I" } : Jvm.MethodName)) ∈ tw_tbl := tw_inK tw_s5 192 rfl rfl
set_option maxRecDepth 20000 in
theorem wd_1153 : (Jvm.Cond.code ({ cls := "ShippedClass", name := "rule", desc := "(ZI)I" } : Jvm.MethodName) prog_1_method_5_code (4 : Nat) (Option.some Jvm.ClassFile.FieldType.int)) ∈ tw_tbl := tw_inK tw_s5 193 rfl rfl
set_option maxRecDepth 20000 in
theorem wd_1154 : (Jvm.Cond.methodLink "ShippedClass" (86 : Nat) ({ cls := "ShippedClass$Image", name := "isWritten", desc := "(I)Z" } : Jvm.MethodName)) ∈ tw_tbl := tw_inK tw_s5 194 rfl rfl
set_option maxRecDepth 20000 in
theorem wd_1155 : (Jvm.Cond.instanceMethod ({ cls := "ShippedClass$Image", name := "isWritten", desc := "(I)Z" } : Jvm.MethodName)) ∈ tw_tbl := tw_inK tw_s5 195 rfl rfl
set_option maxRecDepth 20000 in
theorem wd_1156 : (Jvm.Cond.selects "ShippedClass$Image" ({ cls := "ShippedClass$Image", name := "isWritten", desc := "(I)Z" } : Jvm.MethodName) ({ cls := "ShippedClass$Image", name := "isWritten", desc := "(I)Z" } : Jvm.MethodName)) ∈ tw_tbl := tw_inK tw_s5 196 rfl rfl
set_option maxRecDepth 20000 in
theorem wd_1157 : (Jvm.Cond.code ({ cls := "ShippedClass$Image", name := "isWritten", desc := "(I)Z" } : Jvm.MethodName) prog_5_method_9_code (4 : Nat) (Option.some Jvm.ClassFile.FieldType.boolean)) ∈ tw_tbl := tw_inK tw_s5 197 rfl rfl
set_option maxRecDepth 20000 in
theorem wd_1158 : (Jvm.Cond.methodLink "ShippedClass" (90 : Nat) ({ cls := "ShippedClass$Policy", name := "isFull", desc := "(I)Z" } : Jvm.MethodName)) ∈ tw_tbl := tw_inK tw_s5 198 rfl rfl
set_option maxRecDepth 20000 in
theorem wd_1159 : (Jvm.Cond.instanceMethod ({ cls := "ShippedClass$Policy", name := "isFull", desc := "(I)Z" } : Jvm.MethodName)) ∈ tw_tbl := tw_inK tw_s5 199 rfl rfl
set_option maxRecDepth 20000 in
theorem wd_1160 : (Jvm.Cond.selects "ShippedClass$Policy" ({ cls := "ShippedClass$Policy", name := "isFull", desc := "(I)Z" } : Jvm.MethodName) ({ cls := "ShippedClass$Policy", name := "isFull", desc := "(I)Z" } : Jvm.MethodName)) ∈ tw_tbl := tw_inK tw_s5 200 rfl rfl
set_option maxRecDepth 20000 in
theorem wd_1161 : (Jvm.Cond.code ({ cls := "ShippedClass$Policy", name := "isFull", desc := "(I)Z" } : Jvm.MethodName) prog_10_method_2_code (2 : Nat) (Option.some Jvm.ClassFile.FieldType.boolean)) ∈ tw_tbl := tw_inK tw_s5 201 rfl rfl
set_option maxRecDepth 20000 in
theorem wd_1162 : (Jvm.Cond.methodLink "ShippedClass" (93 : Nat) ({ cls := "ShippedClass$Policy", name := "learn", desc := "(ILShippedClass$Image;I)V" } : Jvm.MethodName)) ∈ tw_tbl := tw_inK tw_s5 202 rfl rfl
set_option maxRecDepth 20000 in
theorem wd_1163 : (Jvm.Cond.instanceMethod ({ cls := "ShippedClass$Policy", name := "learn", desc := "(ILShippedClass$Image;I)V" } : Jvm.MethodName)) ∈ tw_tbl := tw_inK tw_s5 203 rfl rfl
set_option maxRecDepth 20000 in
theorem wd_1164 : (Jvm.Cond.selects "ShippedClass$Policy" ({ cls := "ShippedClass$Policy", name := "learn", desc := "(ILShippedClass$Image;I)V" } : Jvm.MethodName) ({ cls := "ShippedClass$Policy", name := "learn", desc := "(ILShippedClass$Image;I)V" } : Jvm.MethodName)) ∈ tw_tbl := tw_inK tw_s5 204 rfl rfl
set_option maxRecDepth 20000 in
theorem wd_1165 : (Jvm.Cond.code ({ cls := "ShippedClass$Policy", name := "learn", desc := "(ILShippedClass$Image;I)V" } : Jvm.MethodName) prog_10_method_3_code (7 : Nat) (Option.none : Option Jvm.ClassFile.FieldType)) ∈ tw_tbl := tw_inK tw_s5 205 rfl rfl
set_option maxRecDepth 20000 in
theorem wd_1166 : (Jvm.Cond.methodLink "ShippedClassLaw" (70 : Nat) ({ cls := "ShippedClassLaw", name := "limit", desc := "(LShippedClass;II[J)I" } : Jvm.MethodName)) ∈ tw_tbl := tw_inK tw_s5 206 rfl rfl
set_option maxRecDepth 20000 in
theorem wd_1167 : (Jvm.Cond.static ({ cls := "ShippedClassLaw", name := "limit", desc := "(LShippedClass;II[J)I" } : Jvm.MethodName)) ∈ tw_tbl := tw_inK tw_s5 207 rfl rfl
set_option maxRecDepth 20000 in
theorem wd_1168 : (Jvm.Cond.codeWith ({ cls := "ShippedClassLaw", name := "limit", desc := "(LShippedClass;II[J)I" } : Jvm.MethodName) method_7_code (5 : Nat) (Option.some Jvm.ClassFile.FieldType.int) [((0 : Nat), (10 : Nat), (13 : Nat), (13 : Nat))]) ∈ tw_tbl := tw_inK tw_s5 208 rfl rfl
set_option maxRecDepth 20000 in
theorem wd_1169 : (Jvm.Cond.methodLink "ShippedClassLaw" (31 : Nat) ({ cls := "ShippedClass", name := "limit", desc := "(II)I" } : Jvm.MethodName)) ∈ tw_tbl := tw_inK tw_s5 209 rfl rfl
set_option maxRecDepth 20000 in
theorem wd_1170 : (Jvm.Cond.instanceMethod ({ cls := "ShippedClass", name := "limit", desc := "(II)I" } : Jvm.MethodName)) ∈ tw_tbl := tw_inK tw_s5 210 rfl rfl
set_option maxRecDepth 20000 in
theorem wd_1171 : (Jvm.Cond.selects "ShippedClass" ({ cls := "ShippedClass", name := "limit", desc := "(II)I" } : Jvm.MethodName) ({ cls := "ShippedClass", name := "limit", desc := "(II)I" } : Jvm.MethodName)) ∈ tw_tbl := tw_inK tw_s5 211 rfl rfl
set_option maxRecDepth 20000 in
theorem wd_1172 : (Jvm.Cond.code ({ cls := "ShippedClass", name := "limit", desc := "(II)I" } : Jvm.MethodName) prog_1_method_6_code (4 : Nat) (Option.some Jvm.ClassFile.FieldType.int)) ∈ tw_tbl := tw_inK tw_s5 212 rfl rfl
set_option maxRecDepth 20000 in
theorem wd_1173 : (Jvm.Cond.methodLink "ShippedClassLaw" (85 : Nat) ({ cls := "ShippedClassLaw", name := "count", desc := "(LShippedClass;I[J)I" } : Jvm.MethodName)) ∈ tw_tbl := tw_inK tw_s5 213 rfl rfl
set_option maxRecDepth 20000 in
theorem wd_1174 : (Jvm.Cond.static ({ cls := "ShippedClassLaw", name := "count", desc := "(LShippedClass;I[J)I" } : Jvm.MethodName)) ∈ tw_tbl := tw_inK tw_s5 214 rfl rfl
set_option maxRecDepth 20000 in
theorem wd_1175 : (Jvm.Cond.codeWith ({ cls := "ShippedClassLaw", name := "count", desc := "(LShippedClass;I[J)I" } : Jvm.MethodName) method_8_code (4 : Nat) (Option.some Jvm.ClassFile.FieldType.int) [((0 : Nat), (9 : Nat), (12 : Nat), (15 : Nat)), ((0 : Nat), (9 : Nat), (15 : Nat), (13 : Nat))]) ∈ tw_tbl := tw_inK tw_s5 215 rfl rfl
set_option maxRecDepth 20000 in
theorem wd_1176 : (Jvm.Cond.methodLink "ShippedClassLaw" (34 : Nat) ({ cls := "ShippedClass", name := "count", desc := "(I)I" } : Jvm.MethodName)) ∈ tw_tbl := tw_inK tw_s5 216 rfl rfl
set_option maxRecDepth 20000 in
theorem wd_1177 : (Jvm.Cond.instanceMethod ({ cls := "ShippedClass", name := "count", desc := "(I)I" } : Jvm.MethodName)) ∈ tw_tbl := tw_inK tw_s5 217 rfl rfl
set_option maxRecDepth 20000 in
theorem wd_1178 : (Jvm.Cond.selects "ShippedClass" ({ cls := "ShippedClass", name := "count", desc := "(I)I" } : Jvm.MethodName) ({ cls := "ShippedClass", name := "count", desc := "(I)I" } : Jvm.MethodName)) ∈ tw_tbl := tw_inK tw_s5 218 rfl rfl
set_option maxRecDepth 20000 in
theorem wd_1179 : (Jvm.Cond.code ({ cls := "ShippedClass", name := "count", desc := "(I)I" } : Jvm.MethodName) prog_1_method_9_code (2 : Nat) (Option.some Jvm.ClassFile.FieldType.int)) ∈ tw_tbl := tw_inK tw_s5 219 rfl rfl
set_option maxRecDepth 20000 in
theorem wd_1180 : (Jvm.Cond.methodLink "ShippedClass" (140 : Nat) ({ cls := "java/lang/Math", name := "max", desc := "(II)I" } : Jvm.MethodName)) ∈ tw_tbl := tw_inK tw_s5 220 rfl rfl
set_option maxRecDepth 20000 in
theorem wd_1181 : (Jvm.Cond.methodLink "ShippedClass" (155 : Nat) ({ cls := "ShippedClass$Layout", name := "instructionBytes", desc := "()I" } : Jvm.MethodName)) ∈ tw_tbl := tw_inK tw_s5 221 rfl rfl
set_option maxRecDepth 20000 in
theorem wd_1182 : (Jvm.Cond.instanceMethod ({ cls := "ShippedClass$Layout", name := "instructionBytes", desc := "()I" } : Jvm.MethodName)) ∈ tw_tbl := tw_inK tw_s5 222 rfl rfl
set_option maxRecDepth 20000 in
theorem wd_1183 : (Jvm.Cond.selects "ShippedClass$Layout" ({ cls := "ShippedClass$Layout", name := "instructionBytes", desc := "()I" } : Jvm.MethodName) ({ cls := "ShippedClass$Layout", name := "instructionBytes", desc := "()I" } : Jvm.MethodName)) ∈ tw_tbl := tw_inK tw_s5 223 rfl rfl
set_option maxRecDepth 20000 in
theorem wd_1184 : (Jvm.Cond.code ({ cls := "ShippedClass$Layout", name := "instructionBytes", desc := "()I" } : Jvm.MethodName) prog_6_method_22_code (3 : Nat) (Option.some Jvm.ClassFile.FieldType.int)) ∈ tw_tbl := tw_inK tw_s5 224 rfl rfl
set_option maxRecDepth 20000 in
theorem wd_1185 : (Jvm.Cond.methodLink "ShippedClass$Layout" (93 : Nat) ({ cls := "ShippedClass$Layout", name := "lengthOf", desc := "(I)I" } : Jvm.MethodName)) ∈ tw_tbl := tw_inK tw_s5 225 rfl rfl
set_option maxRecDepth 20000 in
theorem wd_1186 : (Jvm.Cond.methodLink "ShippedClass" (163 : Nat) ({ cls := "ShippedClass$Frames", name := "howMany", desc := "()I" } : Jvm.MethodName)) ∈ tw_tbl := tw_inK tw_s5 226 rfl rfl
set_option maxRecDepth 20000 in
theorem wd_1187 : (Jvm.Cond.instanceMethod ({ cls := "ShippedClass$Frames", name := "howMany", desc := "()I" } : Jvm.MethodName)) ∈ tw_tbl := tw_inK tw_s5 227 rfl rfl
set_option maxRecDepth 20000 in
theorem wd_1188 : (Jvm.Cond.selects "ShippedClass$Frames" ({ cls := "ShippedClass$Frames", name := "howMany", desc := "()I" } : Jvm.MethodName) ({ cls := "ShippedClass$Frames", name := "howMany", desc := "()I" } : Jvm.MethodName)) ∈ tw_tbl := tw_inK tw_s5 228 rfl rfl
set_option maxRecDepth 20000 in
theorem wd_1189 : (Jvm.Cond.code ({ cls := "ShippedClass$Frames", name := "howMany", desc := "()I" } : Jvm.MethodName) prog_3_method_10_code (3 : Nat) (Option.some Jvm.ClassFile.FieldType.int)) ∈ tw_tbl := tw_inK tw_s5 229 rfl rfl
set_option maxRecDepth 20000 in
theorem wd_1190 : (Jvm.Cond.methodLink "ShippedClass" (168 : Nat) ({ cls := "ShippedClass$Frames", name := "deepest", desc := "()I" } : Jvm.MethodName)) ∈ tw_tbl := tw_inK tw_s5 230 rfl rfl
set_option maxRecDepth 20000 in
theorem wd_1191 : (Jvm.Cond.instanceMethod ({ cls := "ShippedClass$Frames", name := "deepest", desc := "()I" } : Jvm.MethodName)) ∈ tw_tbl := tw_inK tw_s5 231 rfl rfl
set_option maxRecDepth 20000 in
theorem wd_1192 : (Jvm.Cond.selects "ShippedClass$Frames" ({ cls := "ShippedClass$Frames", name := "deepest", desc := "()I" } : Jvm.MethodName) ({ cls := "ShippedClass$Frames", name := "deepest", desc := "()I" } : Jvm.MethodName)) ∈ tw_tbl := tw_inK tw_s5 232 rfl rfl
set_option maxRecDepth 20000 in
theorem wd_1193 : (Jvm.Cond.code ({ cls := "ShippedClass$Frames", name := "deepest", desc := "()I" } : Jvm.MethodName) prog_3_method_11_code (3 : Nat) (Option.some Jvm.ClassFile.FieldType.int)) ∈ tw_tbl := tw_inK tw_s5 233 rfl rfl
set_option maxRecDepth 20000 in
theorem wd_1194 : (Jvm.Cond.methodLink "ShippedClass$Frames" (47 : Nat) ({ cls := "java/lang/Math", name := "max", desc := "(II)I" } : Jvm.MethodName)) ∈ tw_tbl := tw_inK tw_s5 234 rfl rfl
set_option maxRecDepth 20000 in
theorem wd_1195 : (Jvm.Cond.methodLink "ShippedClassLaw" (88 : Nat) ({ cls := "ShippedClassLaw", name := "text", desc := "(LShippedClass;III[J)I" } : Jvm.MethodName)) ∈ tw_tbl := tw_inK tw_s5 235 rfl rfl
set_option maxRecDepth 20000 in
theorem wd_1196 : (Jvm.Cond.static ({ cls := "ShippedClassLaw", name := "text", desc := "(LShippedClass;III[J)I" } : Jvm.MethodName)) ∈ tw_tbl := tw_inK tw_s5 236 rfl rfl
set_option maxRecDepth 20000 in
theorem wd_1197 : (Jvm.Cond.codeWith ({ cls := "ShippedClassLaw", name := "text", desc := "(LShippedClass;III[J)I" } : Jvm.MethodName) method_9_code (6 : Nat) (Option.some Jvm.ClassFile.FieldType.int) [((0 : Nat), (12 : Nat), (15 : Nat), (15 : Nat)), ((0 : Nat), (12 : Nat), (19 : Nat), (13 : Nat))]) ∈ tw_tbl := tw_inK tw_s5 237 rfl rfl
set_option maxRecDepth 20000 in
theorem wd_1198 : (Jvm.Cond.methodLink "ShippedClassLaw" (37 : Nat) ({ cls := "ShippedClass", name := "text", desc := "(III)C" } : Jvm.MethodName)) ∈ tw_tbl := tw_inK tw_s5 238 rfl rfl
set_option maxRecDepth 20000 in
theorem wd_1199 : (Jvm.Cond.instanceMethod ({ cls := "ShippedClass", name := "text", desc := "(III)C" } : Jvm.MethodName)) ∈ tw_tbl := tw_inK tw_s5 239 rfl rfl
set_option maxRecDepth 20000 in
theorem wd_1200 : (Jvm.Cond.selects "ShippedClass" ({ cls := "ShippedClass", name := "text", desc := "(III)C" } : Jvm.MethodName) ({ cls := "ShippedClass", name := "text", desc := "(III)C" } : Jvm.MethodName)) ∈ tw_tbl := tw_inK tw_s6 0 rfl rfl
set_option maxRecDepth 20000 in
theorem wd_1201 : (Jvm.Cond.code ({ cls := "ShippedClass", name := "text", desc := "(III)C" } : Jvm.MethodName) prog_1_method_10_code (4 : Nat) (Option.some Jvm.ClassFile.FieldType.char)) ∈ tw_tbl := tw_inK tw_s6 1 rfl rfl
set_option maxRecDepth 20000 in
theorem wd_1202 : (Jvm.Cond.methodLink "ShippedClass" (171 : Nat) ({ cls := "ShippedClass$Layout", name := "textNumber", desc := "(II)I" } : Jvm.MethodName)) ∈ tw_tbl := tw_inK tw_s6 2 rfl rfl
set_option maxRecDepth 20000 in
theorem wd_1203 : (Jvm.Cond.instanceMethod ({ cls := "ShippedClass$Layout", name := "textNumber", desc := "(II)I" } : Jvm.MethodName)) ∈ tw_tbl := tw_inK tw_s6 3 rfl rfl
set_option maxRecDepth 20000 in
theorem wd_1204 : (Jvm.Cond.selects "ShippedClass$Layout" ({ cls := "ShippedClass$Layout", name := "textNumber", desc := "(II)I" } : Jvm.MethodName) ({ cls := "ShippedClass$Layout", name := "textNumber", desc := "(II)I" } : Jvm.MethodName)) ∈ tw_tbl := tw_inK tw_s6 4 rfl rfl
set_option maxRecDepth 20000 in
theorem wd_1205 : (Jvm.Cond.code ({ cls := "ShippedClass$Layout", name := "textNumber", desc := "(II)I" } : Jvm.MethodName) prog_6_method_24_code (4 : Nat) (Option.some Jvm.ClassFile.FieldType.int)) ∈ tw_tbl := tw_inK tw_s6 5 rfl rfl
set_option maxRecDepth 20000 in
theorem wd_1206 : (Jvm.Cond.methodLink "ShippedClass$Layout" (99 : Nat) ({ cls := "ShippedClass$Layout", name := "classTextAt", desc := "(I)I" } : Jvm.MethodName)) ∈ tw_tbl := tw_inK tw_s6 6 rfl rfl
set_option maxRecDepth 20000 in
theorem wd_1207 : (Jvm.Cond.methodLink "ShippedClass$Layout" (102 : Nat) ({ cls := "ShippedClass$Layout", name := "interfaceAt", desc := "(I)I" } : Jvm.MethodName)) ∈ tw_tbl := tw_inK tw_s6 7 rfl rfl
set_option maxRecDepth 20000 in
theorem wd_1208 : (Jvm.Cond.methodLink "ShippedClass$Layout" (105 : Nat) ({ cls := "ShippedClass$Layout", name := "memberAt", desc := "(ZI)I" } : Jvm.MethodName)) ∈ tw_tbl := tw_inK tw_s6 8 rfl rfl
set_option maxRecDepth 20000 in
theorem wd_1209 : (Jvm.Cond.methodLink "ShippedClass$Layout" (109 : Nat) ({ cls := "ShippedClass$Layout", name := "nameAt", desc := "(I)I" } : Jvm.MethodName)) ∈ tw_tbl := tw_inK tw_s6 9 rfl rfl
set_option maxRecDepth 20000 in
theorem wd_1210 : (Jvm.Cond.methodLink "ShippedClass$Layout" (112 : Nat) ({ cls := "ShippedClass$Layout", name := "typeAt", desc := "(I)I" } : Jvm.MethodName)) ∈ tw_tbl := tw_inK tw_s6 10 rfl rfl
set_option maxRecDepth 20000 in
theorem wd_1211 : (Jvm.Cond.methodLink "ShippedClass" (174 : Nat) ({ cls := "ShippedClass$Layout", name := "letterOf", desc := "(II)C" } : Jvm.MethodName)) ∈ tw_tbl := tw_inK tw_s6 11 rfl rfl
set_option maxRecDepth 20000 in
theorem wd_1212 : (Jvm.Cond.instanceMethod ({ cls := "ShippedClass$Layout", name := "letterOf", desc := "(II)C" } : Jvm.MethodName)) ∈ tw_tbl := tw_inK tw_s6 12 rfl rfl
set_option maxRecDepth 20000 in
theorem wd_1213 : (Jvm.Cond.selects "ShippedClass$Layout" ({ cls := "ShippedClass$Layout", name := "letterOf", desc := "(II)C" } : Jvm.MethodName) ({ cls := "ShippedClass$Layout", name := "letterOf", desc := "(II)C" } : Jvm.MethodName)) ∈ tw_tbl := tw_inK tw_s6 13 rfl rfl
set_option maxRecDepth 20000 in
theorem wd_1214 : (Jvm.Cond.code ({ cls := "ShippedClass$Layout", name := "letterOf", desc := "(II)C" } : Jvm.MethodName) prog_6_method_25_code (3 : Nat) (Option.some Jvm.ClassFile.FieldType.char)) ∈ tw_tbl := tw_inK tw_s6 14 rfl rfl
set_option maxRecDepth 20000 in
theorem wd_1215 : (Jvm.Cond.methodLink "ShippedClassLaw" (92 : Nat) ({ cls := "ShippedClassLaw", name := "depth", desc := "(LShippedClass;II[J)I" } : Jvm.MethodName)) ∈ tw_tbl := tw_inK tw_s6 15 rfl rfl
set_option maxRecDepth 20000 in
theorem wd_1216 : (Jvm.Cond.static ({ cls := "ShippedClassLaw", name := "depth", desc := "(LShippedClass;II[J)I" } : Jvm.MethodName)) ∈ tw_tbl := tw_inK tw_s6 16 rfl rfl
set_option maxRecDepth 20000 in
theorem wd_1217 : (Jvm.Cond.codeWith ({ cls := "ShippedClassLaw", name := "depth", desc := "(LShippedClass;II[J)I" } : Jvm.MethodName) method_10_code (5 : Nat) (Option.some Jvm.ClassFile.FieldType.int) [((0 : Nat), (10 : Nat), (13 : Nat), (15 : Nat))]) ∈ tw_tbl := tw_inK tw_s6 17 rfl rfl
set_option maxRecDepth 20000 in
theorem wd_1218 : (Jvm.Cond.methodLink "ShippedClassLaw" (41 : Nat) ({ cls := "ShippedClass", name := "depth", desc := "(II)I" } : Jvm.MethodName)) ∈ tw_tbl := tw_inK tw_s6 18 rfl rfl
set_option maxRecDepth 20000 in
theorem wd_1219 : (Jvm.Cond.instanceMethod ({ cls := "ShippedClass", name := "depth", desc := "(II)I" } : Jvm.MethodName)) ∈ tw_tbl := tw_inK tw_s6 19 rfl rfl
set_option maxRecDepth 20000 in
theorem wd_1220 : (Jvm.Cond.selects "ShippedClass" ({ cls := "ShippedClass", name := "depth", desc := "(II)I" } : Jvm.MethodName) ({ cls := "ShippedClass", name := "depth", desc := "(II)I" } : Jvm.MethodName)) ∈ tw_tbl := tw_inK tw_s6 20 rfl rfl
set_option maxRecDepth 20000 in
theorem wd_1221 : (Jvm.Cond.code ({ cls := "ShippedClass", name := "depth", desc := "(II)I" } : Jvm.MethodName) prog_1_method_11_code (3 : Nat) (Option.some Jvm.ClassFile.FieldType.int)) ∈ tw_tbl := tw_inK tw_s6 21 rfl rfl
set_option maxRecDepth 20000 in
theorem wd_1222 : (Jvm.Cond.methodLink "ShippedClass" (178 : Nat) ({ cls := "ShippedClass$Layout", name := "instructionAt", desc := "(II)I" } : Jvm.MethodName)) ∈ tw_tbl := tw_inK tw_s6 22 rfl rfl
set_option maxRecDepth 20000 in
theorem wd_1223 : (Jvm.Cond.instanceMethod ({ cls := "ShippedClass$Layout", name := "instructionAt", desc := "(II)I" } : Jvm.MethodName)) ∈ tw_tbl := tw_inK tw_s6 23 rfl rfl
set_option maxRecDepth 20000 in
theorem wd_1224 : (Jvm.Cond.selects "ShippedClass$Layout" ({ cls := "ShippedClass$Layout", name := "instructionAt", desc := "(II)I" } : Jvm.MethodName) ({ cls := "ShippedClass$Layout", name := "instructionAt", desc := "(II)I" } : Jvm.MethodName)) ∈ tw_tbl := tw_inK tw_s6 24 rfl rfl
set_option maxRecDepth 20000 in
theorem wd_1225 : (Jvm.Cond.code ({ cls := "ShippedClass$Layout", name := "instructionAt", desc := "(II)I" } : Jvm.MethodName) prog_6_method_23_code (3 : Nat) (Option.some Jvm.ClassFile.FieldType.int)) ∈ tw_tbl := tw_inK tw_s6 25 rfl rfl
set_option maxRecDepth 20000 in
theorem wd_1226 : (Jvm.Cond.methodLink "ShippedClass$Layout" (96 : Nat) ({ cls := "ShippedClass$Layout", name := "instructionsAt", desc := "(I)I" } : Jvm.MethodName)) ∈ tw_tbl := tw_inK tw_s6 26 rfl rfl
set_option maxRecDepth 20000 in
theorem wd_1227 : (Jvm.Cond.methodLink "ShippedClass" (181 : Nat) ({ cls := "ShippedClass$Frames", name := "deepAt", desc := "(I)I" } : Jvm.MethodName)) ∈ tw_tbl := tw_inK tw_s6 27 rfl rfl
set_option maxRecDepth 20000 in
theorem wd_1228 : (Jvm.Cond.instanceMethod ({ cls := "ShippedClass$Frames", name := "deepAt", desc := "(I)I" } : Jvm.MethodName)) ∈ tw_tbl := tw_inK tw_s6 28 rfl rfl
set_option maxRecDepth 20000 in
theorem wd_1229 : (Jvm.Cond.selects "ShippedClass$Frames" ({ cls := "ShippedClass$Frames", name := "deepAt", desc := "(I)I" } : Jvm.MethodName) ({ cls := "ShippedClass$Frames", name := "deepAt", desc := "(I)I" } : Jvm.MethodName)) ∈ tw_tbl := tw_inK tw_s6 29 rfl rfl
set_option maxRecDepth 20000 in
theorem wd_1230 : (Jvm.Cond.code ({ cls := "ShippedClass$Frames", name := "deepAt", desc := "(I)I" } : Jvm.MethodName) prog_3_method_6_code (2 : Nat) (Option.some Jvm.ClassFile.FieldType.int)) ∈ tw_tbl := tw_inK tw_s6 30 rfl rfl
set_option maxRecDepth 20000 in
theorem wd_1231 : (Jvm.Cond.methodLink "ShippedClassLaw" (95 : Nat) ({ cls := "ShippedClassLaw", name := "kind", desc := "(LShippedClass;IIZI[J)I" } : Jvm.MethodName)) ∈ tw_tbl := tw_inK tw_s6 31 rfl rfl
set_option maxRecDepth 20000 in
theorem wd_1232 : (Jvm.Cond.static ({ cls := "ShippedClassLaw", name := "kind", desc := "(LShippedClass;IIZI[J)I" } : Jvm.MethodName)) ∈ tw_tbl := tw_inK tw_s6 32 rfl rfl
set_option maxRecDepth 20000 in
theorem wd_1233 : (Jvm.Cond.codeWith ({ cls := "ShippedClassLaw", name := "kind", desc := "(LShippedClass;IIZI[J)I" } : Jvm.MethodName) method_11_code (7 : Nat) (Option.some Jvm.ClassFile.FieldType.int) [((0 : Nat), (14 : Nat), (17 : Nat), (15 : Nat))]) ∈ tw_tbl := tw_inK tw_s6 33 rfl rfl
set_option maxRecDepth 20000 in
theorem wd_1234 : (Jvm.Cond.methodLink "ShippedClassLaw" (44 : Nat) ({ cls := "ShippedClass", name := "kind", desc := "(IIZI)I" } : Jvm.MethodName)) ∈ tw_tbl := tw_inK tw_s6 34 rfl rfl
set_option maxRecDepth 20000 in
theorem wd_1235 : (Jvm.Cond.instanceMethod ({ cls := "ShippedClass", name := "kind", desc := "(IIZI)I" } : Jvm.MethodName)) ∈ tw_tbl := tw_inK tw_s6 35 rfl rfl
set_option maxRecDepth 20000 in
theorem wd_1236 : (Jvm.Cond.selects "ShippedClass" ({ cls := "ShippedClass", name := "kind", desc := "(IIZI)I" } : Jvm.MethodName) ({ cls := "ShippedClass", name := "kind", desc := "(IIZI)I" } : Jvm.MethodName)) ∈ tw_tbl := tw_inK tw_s6 36 rfl rfl
set_option maxRecDepth 20000 in
theorem wd_1237 : (Jvm.Cond.code ({ cls := "ShippedClass", name := "kind", desc := "(IIZI)I" } : Jvm.MethodName) prog_1_method_12_code (8 : Nat) (Option.some Jvm.ClassFile.FieldType.int)) ∈ tw_tbl := tw_inK tw_s6 37 rfl rfl
set_option maxRecDepth 20000 in
theorem wd_1238 : (Jvm.Cond.methodLink "ShippedClass" (184 : Nat) ({ cls := "ShippedClass$Layout", name := "localsOf", desc := "(I)I" } : Jvm.MethodName)) ∈ tw_tbl := tw_inK tw_s6 38 rfl rfl
set_option maxRecDepth 20000 in
theorem wd_1239 : (Jvm.Cond.methodLink "ShippedClass" (187 : Nat) ({ cls := "ShippedClass$Frames", name := "kindAt", desc := "(II)I" } : Jvm.MethodName)) ∈ tw_tbl := tw_inK tw_s6 39 rfl rfl
set_option maxRecDepth 20000 in
theorem wd_1240 : (Jvm.Cond.instanceMethod ({ cls := "ShippedClass$Frames", name := "kindAt", desc := "(II)I" } : Jvm.MethodName)) ∈ tw_tbl := tw_inK tw_s6 40 rfl rfl
set_option maxRecDepth 20000 in
theorem wd_1241 : (Jvm.Cond.selects "ShippedClass$Frames" ({ cls := "ShippedClass$Frames", name := "kindAt", desc := "(II)I" } : Jvm.MethodName) ({ cls := "ShippedClass$Frames", name := "kindAt", desc := "(II)I" } : Jvm.MethodName)) ∈ tw_tbl := tw_inK tw_s6 41 rfl rfl
set_option maxRecDepth 20000 in
theorem wd_1242 : (Jvm.Cond.code ({ cls := "ShippedClass$Frames", name := "kindAt", desc := "(II)I" } : Jvm.MethodName) prog_3_method_7_code (3 : Nat) (Option.some Jvm.ClassFile.FieldType.int)) ∈ tw_tbl := tw_inK tw_s6 42 rfl rfl
set_option maxRecDepth 20000 in
theorem wd_1243 : (Jvm.Cond.classLink "ShippedClassLaw" (49 : Nat) "ShippedClassModel") ∈ tw_tbl := tw_inK tw_s6 43 rfl rfl
set_option maxRecDepth 20000 in
theorem wd_1244 : (Jvm.Cond.instantiable "ShippedClassModel" (61 : Nat)) ∈ tw_tbl := tw_inK tw_s6 44 rfl rfl
set_option maxRecDepth 20000 in
theorem wd_1245 : (Jvm.Cond.methodLink "ShippedClassLaw" (51 : Nat) ({ cls := "ShippedClassModel", name := "<init>", desc := "()V" } : Jvm.MethodName)) ∈ tw_tbl := tw_inK tw_s6 45 rfl rfl
set_option maxRecDepth 20000 in
theorem wd_1246 : (Jvm.Cond.instanceMethod ({ cls := "ShippedClassModel", name := "<init>", desc := "()V" } : Jvm.MethodName)) ∈ tw_tbl := tw_inK tw_s6 46 rfl rfl
set_option maxRecDepth 20000 in
theorem wd_1247 : (Jvm.Cond.code ({ cls := "ShippedClassModel", name := "<init>", desc := "()V" } : Jvm.MethodName) prog_14_method_1_code (1 : Nat) (Option.none : Option Jvm.ClassFile.FieldType)) ∈ tw_tbl := tw_inK tw_s6 47 rfl rfl
set_option maxRecDepth 20000 in
theorem wd_1248 : (Jvm.Cond.methodLink "ShippedClassModel" (1 : Nat) ({ cls := "java/lang/Object", name := "<init>", desc := "()V" } : Jvm.MethodName)) ∈ tw_tbl := tw_inK tw_s6 48 rfl rfl
set_option maxRecDepth 20000 in
theorem wd_1249 : (Jvm.Cond.constant "ShippedClassModel" (96 : Nat) (76800 : Int32)) ∈ tw_tbl := tw_inK tw_s6 49 rfl rfl
set_option maxRecDepth 20000 in
theorem wd_1250 : (Jvm.Cond.fieldLink "ShippedClassModel" (133 : Nat) "ShippedClassModel" "refusal" "I") ∈ tw_tbl := tw_inK tw_s6 50 rfl rfl
set_option maxRecDepth 20000 in
theorem wd_1251 : (Jvm.Cond.fieldLink "ShippedClassModel" (140 : Nat) "ShippedClassModel" "size" "I") ∈ tw_tbl := tw_inK tw_s6 51 rfl rfl
set_option maxRecDepth 20000 in
theorem wd_1252 : (Jvm.Cond.fieldLink "ShippedClassModel" (7 : Nat) "ShippedClassModel" "bytes" "[I") ∈ tw_tbl := tw_inK tw_s6 52 rfl rfl
set_option maxRecDepth 20000 in
theorem wd_1253 : (Jvm.Cond.fieldLink "ShippedClassModel" (13 : Nat) "ShippedClassModel" "rules" "[I") ∈ tw_tbl := tw_inK tw_s6 53 rfl rfl
set_option maxRecDepth 20000 in
theorem wd_1254 : (Jvm.Cond.fieldLink "ShippedClassModel" (16 : Nat) "ShippedClassModel" "ruleSize" "[I") ∈ tw_tbl := tw_inK tw_s6 54 rfl rfl
set_option maxRecDepth 20000 in
theorem wd_1255 : (Jvm.Cond.fieldLink "ShippedClassModel" (19 : Nat) "ShippedClassModel" "ruleText" "[I") ∈ tw_tbl := tw_inK tw_s6 55 rfl rfl
set_option maxRecDepth 20000 in
theorem wd_1256 : (Jvm.Cond.fieldLink "ShippedClassModel" (22 : Nat) "ShippedClassModel" "mostMethods" "I") ∈ tw_tbl := tw_inK tw_s6 56 rfl rfl
set_option maxRecDepth 20000 in
theorem wd_1257 : (Jvm.Cond.fieldLink "ShippedClassModel" (26 : Nat) "ShippedClassModel" "mostBytes" "I") ∈ tw_tbl := tw_inK tw_s6 57 rfl rfl
set_option maxRecDepth 20000 in
theorem wd_1258 : (Jvm.Cond.fieldLink "ShippedClassModel" (147 : Nat) "ShippedClassModel" "fault" "I") ∈ tw_tbl := tw_inK tw_s6 58 rfl rfl
set_option maxRecDepth 20000 in
theorem wd_1259 : (Jvm.Cond.fieldLink "ShippedClassModel" (29 : Nat) "ShippedClassModel" "faultPlace" "I") ∈ tw_tbl := tw_inK tw_s6 59 rfl rfl
set_option maxRecDepth 20000 in
theorem wd_1260 : (Jvm.Cond.fieldLink "ShippedClassModel" (150 : Nat) "ShippedClassModel" "at" "I") ∈ tw_tbl := tw_inK tw_s6 60 rfl rfl
set_option maxRecDepth 20000 in
theorem wd_1261 : (Jvm.Cond.fieldLink "ShippedClassModel" (153 : Nat) "ShippedClassModel" "end" "I") ∈ tw_tbl := tw_inK tw_s6 61 rfl rfl
set_option maxRecDepth 20000 in
theorem wd_1262 : (Jvm.Cond.fieldLink "ShippedClassModel" (156 : Nat) "ShippedClassModel" "within" "I") ∈ tw_tbl := tw_inK tw_s6 62 rfl rfl
set_option maxRecDepth 20000 in
theorem wd_1263 : (Jvm.Cond.fieldLink "ShippedClassModel" (169 : Nat) "ShippedClassModel" "many" "I") ∈ tw_tbl := tw_inK tw_s6 63 rfl rfl
set_option maxRecDepth 20000 in
theorem wd_1264 : (Jvm.Cond.fieldLink "ShippedClassModel" (32 : Nat) "ShippedClassModel" "tag" "[I") ∈ tw_tbl := tw_inK tw_s6 64 rfl rfl
set_option maxRecDepth 20000 in
theorem wd_1265 : (Jvm.Cond.fieldLink "ShippedClassModel" (35 : Nat) "ShippedClassModel" "tagPlace" "[I") ∈ tw_tbl := tw_inK tw_s6 65 rfl rfl
set_option maxRecDepth 20000 in
theorem wd_1266 : (Jvm.Cond.fieldLink "ShippedClassModel" (38 : Nat) "ShippedClassModel" "one" "[I") ∈ tw_tbl := tw_inK tw_s6 66 rfl rfl
set_option maxRecDepth 20000 in
theorem wd_1267 : (Jvm.Cond.fieldLink "ShippedClassModel" (41 : Nat) "ShippedClassModel" "two" "[I") ∈ tw_tbl := tw_inK tw_s6 67 rfl rfl
set_option maxRecDepth 20000 in
theorem wd_1268 : (Jvm.Cond.fieldLink "ShippedClassModel" (216 : Nat) "ShippedClassModel" "thisPlace" "I") ∈ tw_tbl := tw_inK tw_s6 68 rfl rfl
set_option maxRecDepth 20000 in
theorem wd_1269 : (Jvm.Cond.fieldLink "ShippedClassModel" (219 : Nat) "ShippedClassModel" "thisClass" "I") ∈ tw_tbl := tw_inK tw_s6 69 rfl rfl
set_option maxRecDepth 20000 in
theorem wd_1270 : (Jvm.Cond.fieldLink "ShippedClassModel" (222 : Nat) "ShippedClassModel" "superClass" "I") ∈ tw_tbl := tw_inK tw_s6 70 rfl rfl
set_option maxRecDepth 20000 in
theorem wd_1271 : (Jvm.Cond.fieldLink "ShippedClassModel" (225 : Nat) "ShippedClassModel" "interfaces" "I") ∈ tw_tbl := tw_inK tw_s6 71 rfl rfl
set_option maxRecDepth 20000 in
theorem wd_1272 : (Jvm.Cond.fieldLink "ShippedClassModel" (44 : Nat) "ShippedClassModel" "faces" "[I") ∈ tw_tbl := tw_inK tw_s6 72 rfl rfl
set_option maxRecDepth 20000 in
theorem wd_1273 : (Jvm.Cond.fieldLink "ShippedClassModel" (47 : Nat) "ShippedClassModel" "facePlace" "[I") ∈ tw_tbl := tw_inK tw_s6 73 rfl rfl
set_option maxRecDepth 20000 in
theorem wd_1274 : (Jvm.Cond.fieldLink "ShippedClassModel" (232 : Nat) "ShippedClassModel" "fields" "I") ∈ tw_tbl := tw_inK tw_s6 74 rfl rfl
set_option maxRecDepth 20000 in
theorem wd_1275 : (Jvm.Cond.fieldLink "ShippedClassModel" (205 : Nat) "ShippedClassModel" "members" "I") ∈ tw_tbl := tw_inK tw_s6 75 rfl rfl
set_option maxRecDepth 20000 in
theorem wd_1276 : (Jvm.Cond.fieldLink "ShippedClassModel" (235 : Nat) "ShippedClassModel" "methodsPlace" "I") ∈ tw_tbl := tw_inK tw_s6 76 rfl rfl
set_option maxRecDepth 20000 in
theorem wd_1277 : (Jvm.Cond.fieldLink "ShippedClassModel" (50 : Nat) "ShippedClassModel" "flags" "[I") ∈ tw_tbl := tw_inK tw_s6 77 rfl rfl
set_option maxRecDepth 20000 in
theorem wd_1278 : (Jvm.Cond.fieldLink "ShippedClassModel" (53 : Nat) "ShippedClassModel" "place" "[I") ∈ tw_tbl := tw_inK tw_s6 78 rfl rfl
set_option maxRecDepth 20000 in
theorem wd_1279 : (Jvm.Cond.fieldLink "ShippedClassModel" (56 : Nat) "ShippedClassModel" "name" "[I") ∈ tw_tbl := tw_inK tw_s6 79 rfl rfl
set_option maxRecDepth 20000 in
theorem wd_1280 : (Jvm.Cond.fieldLink "ShippedClassModel" (59 : Nat) "ShippedClassModel" "type" "[I") ∈ tw_tbl := tw_inK tw_s6 80 rfl rfl
set_option maxRecDepth 20000 in
theorem wd_1281 : (Jvm.Cond.fieldLink "ShippedClassModel" (62 : Nat) "ShippedClassModel" "codeAt" "[I") ∈ tw_tbl := tw_inK tw_s6 81 rfl rfl
set_option maxRecDepth 20000 in
theorem wd_1282 : (Jvm.Cond.fieldLink "ShippedClassModel" (65 : Nat) "ShippedClassModel" "stack" "[I") ∈ tw_tbl := tw_inK tw_s6 82 rfl rfl
set_option maxRecDepth 20000 in
theorem wd_1283 : (Jvm.Cond.fieldLink "ShippedClassModel" (68 : Nat) "ShippedClassModel" "locals" "[I") ∈ tw_tbl := tw_inK tw_s6 83 rfl rfl
set_option maxRecDepth 20000 in
theorem wd_1284 : (Jvm.Cond.fieldLink "ShippedClassModel" (71 : Nat) "ShippedClassModel" "begin" "[I") ∈ tw_tbl := tw_inK tw_s6 84 rfl rfl
set_option maxRecDepth 20000 in
theorem wd_1285 : (Jvm.Cond.fieldLink "ShippedClassModel" (74 : Nat) "ShippedClassModel" "length" "[I") ∈ tw_tbl := tw_inK tw_s6 85 rfl rfl
set_option maxRecDepth 20000 in
theorem wd_1286 : (Jvm.Cond.fieldLink "ShippedClassModel" (77 : Nat) "ShippedClassModel" "handlerFrom" "[I") ∈ tw_tbl := tw_inK tw_s6 86 rfl rfl
set_option maxRecDepth 20000 in
theorem wd_1287 : (Jvm.Cond.fieldLink "ShippedClassModel" (80 : Nat) "ShippedClassModel" "handlerTo" "[I") ∈ tw_tbl := tw_inK tw_s6 87 rfl rfl
set_option maxRecDepth 20000 in
theorem wd_1288 : (Jvm.Cond.fieldLink "ShippedClassModel" (199 : Nat) "ShippedClassModel" "handlers" "I") ∈ tw_tbl := tw_inK tw_s6 88 rfl rfl
set_option maxRecDepth 20000 in
theorem wd_1289 : (Jvm.Cond.fieldLink "ShippedClassModel" (83 : Nat) "ShippedClassModel" "handlerPlace" "[I") ∈ tw_tbl := tw_inK tw_s6 89 rfl rfl
set_option maxRecDepth 20000 in
theorem wd_1290 : (Jvm.Cond.fieldLink "ShippedClassModel" (86 : Nat) "ShippedClassModel" "isStart" "[Z") ∈ tw_tbl := tw_inK tw_s6 90 rfl rfl
set_option maxRecDepth 20000 in
theorem wd_1291 : (Jvm.Cond.fieldLink "ShippedClassModel" (90 : Nat) "ShippedClassModel" "depths" "[I") ∈ tw_tbl := tw_inK tw_s6 91 rfl rfl
set_option maxRecDepth 20000 in
theorem wd_1292 : (Jvm.Cond.fieldLink "ShippedClassModel" (93 : Nat) "ShippedClassModel" "isNew" "[Z") ∈ tw_tbl := tw_inK tw_s6 92 rfl rfl
set_option maxRecDepth 20000 in
theorem wd_1293 : (Jvm.Cond.fieldLink "ShippedClassModel" (97 : Nat) "ShippedClassModel" "kinds" "[I") ∈ tw_tbl := tw_inK tw_s6 93 rfl rfl
set_option maxRecDepth 20000 in
theorem wd_1294 : (Jvm.Cond.fieldLink "ShippedClassModel" (315 : Nat) "ShippedClassModel" "method" "I") ∈ tw_tbl := tw_inK tw_s6 94 rfl rfl
set_option maxRecDepth 20000 in
theorem wd_1295 : (Jvm.Cond.fieldLink "ShippedClassModel" (309 : Nat) "ShippedClassModel" "here" "I") ∈ tw_tbl := tw_inK tw_s6 95 rfl rfl
set_option maxRecDepth 20000 in
theorem wd_1296 : (Jvm.Cond.fieldLink "ShippedClassModel" (312 : Nat) "ShippedClassModel" "top" "I") ∈ tw_tbl := tw_inK tw_s6 96 rfl rfl
set_option maxRecDepth 20000 in
theorem wd_1297 : (Jvm.Cond.fieldLink "ShippedClassModel" (100 : Nat) "ShippedClassModel" "now" "[I") ∈ tw_tbl := tw_inK tw_s6 97 rfl rfl
set_option maxRecDepth 20000 in
theorem wd_1298 : (Jvm.Cond.fieldLink "ShippedClassModel" (103 : Nat) "ShippedClassModel" "before" "[I") ∈ tw_tbl := tw_inK tw_s6 98 rfl rfl
set_option maxRecDepth 20000 in
theorem wd_1299 : (Jvm.Cond.fieldLink "ShippedClassModel" (300 : Nat) "ShippedClassModel" "args" "I") ∈ tw_tbl := tw_inK tw_s6 99 rfl rfl
set_option maxRecDepth 20000 in
theorem wd_1300 : (Jvm.Cond.fieldLink "ShippedClassModel" (106 : Nat) "ShippedClassModel" "argKind" "[I") ∈ tw_tbl := tw_inK tw_s6 100 rfl rfl
set_option maxRecDepth 20000 in
theorem wd_1301 : (Jvm.Cond.fieldLink "ShippedClassModel" (306 : Nat) "ShippedClassModel" "answer" "I") ∈ tw_tbl := tw_inK tw_s6 101 rfl rfl
set_option maxRecDepth 20000 in
theorem wd_1302 : (Jvm.Cond.fieldLink "ShippedClassModel" (407 : Nat) "ShippedClassModel" "isGood" "Z") ∈ tw_tbl := tw_inK tw_s6 102 rfl rfl
set_option maxRecDepth 20000 in
theorem wd_1303 : (Jvm.Cond.fieldLink "ShippedClassModel" (109 : Nat) "ShippedClassModel" "goodBytes" "[I") ∈ tw_tbl := tw_inK tw_s6 103 rfl rfl
set_option maxRecDepth 20000 in
theorem wd_1304 : (Jvm.Cond.fieldLink "ShippedClassModel" (112 : Nat) "ShippedClassModel" "told" "[I") ∈ tw_tbl := tw_inK tw_s6 104 rfl rfl
set_option maxRecDepth 20000 in
theorem wd_1305 : (Jvm.Cond.fieldLink "ShippedClassModel" (115 : Nat) "ShippedClassModel" "goodTexts" "[I") ∈ tw_tbl := tw_inK tw_s6 105 rfl rfl
set_option maxRecDepth 20000 in
theorem wd_1306 : (Jvm.Cond.fieldLink "ShippedClassModel" (118 : Nat) "ShippedClassModel" "goodBegin" "[I") ∈ tw_tbl := tw_inK tw_s6 106 rfl rfl
set_option maxRecDepth 20000 in
theorem wd_1307 : (Jvm.Cond.fieldLink "ShippedClassModel" (121 : Nat) "ShippedClassModel" "goodLength" "[I") ∈ tw_tbl := tw_inK tw_s6 107 rfl rfl
set_option maxRecDepth 20000 in
theorem wd_1308 : (Jvm.Cond.fieldLink "ShippedClassModel" (124 : Nat) "ShippedClassModel" "goodLocals" "[I") ∈ tw_tbl := tw_inK tw_s6 108 rfl rfl
set_option maxRecDepth 20000 in
theorem wd_1309 : (Jvm.Cond.fieldLink "ShippedClassModel" (127 : Nat) "ShippedClassModel" "goodDepths" "[I") ∈ tw_tbl := tw_inK tw_s6 109 rfl rfl
set_option maxRecDepth 20000 in
theorem wd_1310 : (Jvm.Cond.fieldLink "ShippedClassModel" (130 : Nat) "ShippedClassModel" "goodKinds" "[I") ∈ tw_tbl := tw_inK tw_s6 110 rfl rfl
set_option maxRecDepth 20000 in
theorem wd_1311 : (Jvm.Cond.lays "ShippedClassModel" "ShippedClassModel" "refusal" "I") ∈ tw_tbl := tw_inK tw_s6 111 rfl rfl
set_option maxRecDepth 20000 in
theorem wd_1312 : (Jvm.Cond.soleField "ShippedClassModel" "refusal") ∈ tw_tbl := tw_inK tw_s6 112 rfl rfl
set_option maxRecDepth 20000 in
theorem wd_1313 : (Jvm.Cond.lays "ShippedClassModel" "ShippedClassModel" "size" "I") ∈ tw_tbl := tw_inK tw_s6 113 rfl rfl
set_option maxRecDepth 20000 in
theorem wd_1314 : (Jvm.Cond.soleField "ShippedClassModel" "size") ∈ tw_tbl := tw_inK tw_s6 114 rfl rfl
set_option maxRecDepth 20000 in
theorem wd_1315 : (Jvm.Cond.laysFinal "ShippedClassModel" "ShippedClassModel" "bytes" "[I") ∈ tw_tbl := tw_inK tw_s6 115 rfl rfl
set_option maxRecDepth 20000 in
theorem wd_1316 : (Jvm.Cond.soleField "ShippedClassModel" "bytes") ∈ tw_tbl := tw_inK tw_s6 116 rfl rfl
set_option maxRecDepth 20000 in
theorem wd_1317 : (Jvm.Cond.laysFinal "ShippedClassModel" "ShippedClassModel" "rules" "[I") ∈ tw_tbl := tw_inK tw_s6 117 rfl rfl
set_option maxRecDepth 20000 in
theorem wd_1318 : (Jvm.Cond.soleField "ShippedClassModel" "rules") ∈ tw_tbl := tw_inK tw_s6 118 rfl rfl
set_option maxRecDepth 20000 in
theorem wd_1319 : (Jvm.Cond.laysFinal "ShippedClassModel" "ShippedClassModel" "ruleSize" "[I") ∈ tw_tbl := tw_inK tw_s6 119 rfl rfl
set_option maxRecDepth 20000 in
theorem wd_1320 : (Jvm.Cond.soleField "ShippedClassModel" "ruleSize") ∈ tw_tbl := tw_inK tw_s6 120 rfl rfl
set_option maxRecDepth 20000 in
theorem wd_1321 : (Jvm.Cond.laysFinal "ShippedClassModel" "ShippedClassModel" "ruleText" "[I") ∈ tw_tbl := tw_inK tw_s6 121 rfl rfl
set_option maxRecDepth 20000 in
theorem wd_1322 : (Jvm.Cond.soleField "ShippedClassModel" "ruleText") ∈ tw_tbl := tw_inK tw_s6 122 rfl rfl
set_option maxRecDepth 20000 in
theorem wd_1323 : (Jvm.Cond.lays "ShippedClassModel" "ShippedClassModel" "mostMethods" "I") ∈ tw_tbl := tw_inK tw_s6 123 rfl rfl
set_option maxRecDepth 20000 in
theorem wd_1324 : (Jvm.Cond.soleField "ShippedClassModel" "mostMethods") ∈ tw_tbl := tw_inK tw_s6 124 rfl rfl
set_option maxRecDepth 20000 in
theorem wd_1325 : (Jvm.Cond.lays "ShippedClassModel" "ShippedClassModel" "mostBytes" "I") ∈ tw_tbl := tw_inK tw_s6 125 rfl rfl
set_option maxRecDepth 20000 in
theorem wd_1326 : (Jvm.Cond.soleField "ShippedClassModel" "mostBytes") ∈ tw_tbl := tw_inK tw_s6 126 rfl rfl
set_option maxRecDepth 20000 in
theorem wd_1327 : (Jvm.Cond.lays "ShippedClassModel" "ShippedClassModel" "fault" "I") ∈ tw_tbl := tw_inK tw_s6 127 rfl rfl
set_option maxRecDepth 20000 in
theorem wd_1328 : (Jvm.Cond.soleField "ShippedClassModel" "fault") ∈ tw_tbl := tw_inK tw_s6 128 rfl rfl
set_option maxRecDepth 20000 in
theorem wd_1329 : (Jvm.Cond.lays "ShippedClassModel" "ShippedClassModel" "faultPlace" "I") ∈ tw_tbl := tw_inK tw_s6 129 rfl rfl
set_option maxRecDepth 20000 in
theorem wd_1330 : (Jvm.Cond.soleField "ShippedClassModel" "faultPlace") ∈ tw_tbl := tw_inK tw_s6 130 rfl rfl
set_option maxRecDepth 20000 in
theorem wd_1331 : (Jvm.Cond.lays "ShippedClassModel" "ShippedClassModel" "at" "I") ∈ tw_tbl := tw_inK tw_s6 131 rfl rfl
set_option maxRecDepth 20000 in
theorem wd_1332 : (Jvm.Cond.soleField "ShippedClassModel" "at") ∈ tw_tbl := tw_inK tw_s6 132 rfl rfl
set_option maxRecDepth 20000 in
theorem wd_1333 : (Jvm.Cond.lays "ShippedClassModel" "ShippedClassModel" "end" "I") ∈ tw_tbl := tw_inK tw_s6 133 rfl rfl
set_option maxRecDepth 20000 in
theorem wd_1334 : (Jvm.Cond.soleField "ShippedClassModel" "end") ∈ tw_tbl := tw_inK tw_s6 134 rfl rfl
set_option maxRecDepth 20000 in
theorem wd_1335 : (Jvm.Cond.lays "ShippedClassModel" "ShippedClassModel" "within" "I") ∈ tw_tbl := tw_inK tw_s6 135 rfl rfl
set_option maxRecDepth 20000 in
theorem wd_1336 : (Jvm.Cond.soleField "ShippedClassModel" "within") ∈ tw_tbl := tw_inK tw_s6 136 rfl rfl
set_option maxRecDepth 20000 in
theorem wd_1337 : (Jvm.Cond.lays "ShippedClassModel" "ShippedClassModel" "many" "I") ∈ tw_tbl := tw_inK tw_s6 137 rfl rfl
set_option maxRecDepth 20000 in
theorem wd_1338 : (Jvm.Cond.soleField "ShippedClassModel" "many") ∈ tw_tbl := tw_inK tw_s6 138 rfl rfl
set_option maxRecDepth 20000 in
theorem wd_1339 : (Jvm.Cond.laysFinal "ShippedClassModel" "ShippedClassModel" "tag" "[I") ∈ tw_tbl := tw_inK tw_s6 139 rfl rfl
set_option maxRecDepth 20000 in
theorem wd_1340 : (Jvm.Cond.soleField "ShippedClassModel" "tag") ∈ tw_tbl := tw_inK tw_s6 140 rfl rfl
set_option maxRecDepth 20000 in
theorem wd_1341 : (Jvm.Cond.laysFinal "ShippedClassModel" "ShippedClassModel" "tagPlace" "[I") ∈ tw_tbl := tw_inK tw_s6 141 rfl rfl
set_option maxRecDepth 20000 in
theorem wd_1342 : (Jvm.Cond.soleField "ShippedClassModel" "tagPlace") ∈ tw_tbl := tw_inK tw_s6 142 rfl rfl
set_option maxRecDepth 20000 in
theorem wd_1343 : (Jvm.Cond.laysFinal "ShippedClassModel" "ShippedClassModel" "one" "[I") ∈ tw_tbl := tw_inK tw_s6 143 rfl rfl
set_option maxRecDepth 20000 in
theorem wd_1344 : (Jvm.Cond.soleField "ShippedClassModel" "one") ∈ tw_tbl := tw_inK tw_s6 144 rfl rfl
set_option maxRecDepth 20000 in
theorem wd_1345 : (Jvm.Cond.laysFinal "ShippedClassModel" "ShippedClassModel" "two" "[I") ∈ tw_tbl := tw_inK tw_s6 145 rfl rfl
set_option maxRecDepth 20000 in
theorem wd_1346 : (Jvm.Cond.soleField "ShippedClassModel" "two") ∈ tw_tbl := tw_inK tw_s6 146 rfl rfl
set_option maxRecDepth 20000 in
theorem wd_1347 : (Jvm.Cond.lays "ShippedClassModel" "ShippedClassModel" "thisPlace" "I") ∈ tw_tbl := tw_inK tw_s6 147 rfl rfl
set_option maxRecDepth 20000 in
theorem wd_1348 : (Jvm.Cond.soleField "ShippedClassModel" "thisPlace") ∈ tw_tbl := tw_inK tw_s6 148 rfl rfl
set_option maxRecDepth 20000 in
theorem wd_1349 : (Jvm.Cond.lays "ShippedClassModel" "ShippedClassModel" "thisClass" "I") ∈ tw_tbl := tw_inK tw_s6 149 rfl rfl
set_option maxRecDepth 20000 in
theorem wd_1350 : (Jvm.Cond.soleField "ShippedClassModel" "thisClass") ∈ tw_tbl := tw_inK tw_s6 150 rfl rfl
set_option maxRecDepth 20000 in
theorem wd_1351 : (Jvm.Cond.lays "ShippedClassModel" "ShippedClassModel" "superClass" "I") ∈ tw_tbl := tw_inK tw_s6 151 rfl rfl
set_option maxRecDepth 20000 in
theorem wd_1352 : (Jvm.Cond.soleField "ShippedClassModel" "superClass") ∈ tw_tbl := tw_inK tw_s6 152 rfl rfl
set_option maxRecDepth 20000 in
theorem wd_1353 : (Jvm.Cond.lays "ShippedClassModel" "ShippedClassModel" "interfaces" "I") ∈ tw_tbl := tw_inK tw_s6 153 rfl rfl
set_option maxRecDepth 20000 in
theorem wd_1354 : (Jvm.Cond.soleField "ShippedClassModel" "interfaces") ∈ tw_tbl := tw_inK tw_s6 154 rfl rfl
set_option maxRecDepth 20000 in
theorem wd_1355 : (Jvm.Cond.laysFinal "ShippedClassModel" "ShippedClassModel" "faces" "[I") ∈ tw_tbl := tw_inK tw_s6 155 rfl rfl
set_option maxRecDepth 20000 in
theorem wd_1356 : (Jvm.Cond.soleField "ShippedClassModel" "faces") ∈ tw_tbl := tw_inK tw_s6 156 rfl rfl
set_option maxRecDepth 20000 in
theorem wd_1357 : (Jvm.Cond.laysFinal "ShippedClassModel" "ShippedClassModel" "facePlace" "[I") ∈ tw_tbl := tw_inK tw_s6 157 rfl rfl
set_option maxRecDepth 20000 in
theorem wd_1358 : (Jvm.Cond.soleField "ShippedClassModel" "facePlace") ∈ tw_tbl := tw_inK tw_s6 158 rfl rfl
set_option maxRecDepth 20000 in
theorem wd_1359 : (Jvm.Cond.lays "ShippedClassModel" "ShippedClassModel" "fields" "I") ∈ tw_tbl := tw_inK tw_s6 159 rfl rfl
set_option maxRecDepth 20000 in
theorem wd_1360 : (Jvm.Cond.soleField "ShippedClassModel" "fields") ∈ tw_tbl := tw_inK tw_s6 160 rfl rfl
set_option maxRecDepth 20000 in
theorem wd_1361 : (Jvm.Cond.lays "ShippedClassModel" "ShippedClassModel" "members" "I") ∈ tw_tbl := tw_inK tw_s6 161 rfl rfl
set_option maxRecDepth 20000 in
theorem wd_1362 : (Jvm.Cond.soleField "ShippedClassModel" "members") ∈ tw_tbl := tw_inK tw_s6 162 rfl rfl
set_option maxRecDepth 20000 in
theorem wd_1363 : (Jvm.Cond.lays "ShippedClassModel" "ShippedClassModel" "methodsPlace" "I") ∈ tw_tbl := tw_inK tw_s6 163 rfl rfl
set_option maxRecDepth 20000 in
theorem wd_1364 : (Jvm.Cond.soleField "ShippedClassModel" "methodsPlace") ∈ tw_tbl := tw_inK tw_s6 164 rfl rfl
set_option maxRecDepth 20000 in
theorem wd_1365 : (Jvm.Cond.laysFinal "ShippedClassModel" "ShippedClassModel" "flags" "[I") ∈ tw_tbl := tw_inK tw_s6 165 rfl rfl
set_option maxRecDepth 20000 in
theorem wd_1366 : (Jvm.Cond.soleField "ShippedClassModel" "flags") ∈ tw_tbl := tw_inK tw_s6 166 rfl rfl
set_option maxRecDepth 20000 in
theorem wd_1367 : (Jvm.Cond.laysFinal "ShippedClassModel" "ShippedClassModel" "place" "[I") ∈ tw_tbl := tw_inK tw_s6 167 rfl rfl
set_option maxRecDepth 20000 in
theorem wd_1368 : (Jvm.Cond.soleField "ShippedClassModel" "place") ∈ tw_tbl := tw_inK tw_s6 168 rfl rfl
set_option maxRecDepth 20000 in
theorem wd_1369 : (Jvm.Cond.laysFinal "ShippedClassModel" "ShippedClassModel" "name" "[I") ∈ tw_tbl := tw_inK tw_s6 169 rfl rfl
set_option maxRecDepth 20000 in
theorem wd_1370 : (Jvm.Cond.soleField "ShippedClassModel" "name") ∈ tw_tbl := tw_inK tw_s6 170 rfl rfl
set_option maxRecDepth 20000 in
theorem wd_1371 : (Jvm.Cond.laysFinal "ShippedClassModel" "ShippedClassModel" "type" "[I") ∈ tw_tbl := tw_inK tw_s6 171 rfl rfl
set_option maxRecDepth 20000 in
theorem wd_1372 : (Jvm.Cond.soleField "ShippedClassModel" "type") ∈ tw_tbl := tw_inK tw_s6 172 rfl rfl
set_option maxRecDepth 20000 in
theorem wd_1373 : (Jvm.Cond.laysFinal "ShippedClassModel" "ShippedClassModel" "codeAt" "[I") ∈ tw_tbl := tw_inK tw_s6 173 rfl rfl
set_option maxRecDepth 20000 in
theorem wd_1374 : (Jvm.Cond.soleField "ShippedClassModel" "codeAt") ∈ tw_tbl := tw_inK tw_s6 174 rfl rfl
set_option maxRecDepth 20000 in
theorem wd_1375 : (Jvm.Cond.laysFinal "ShippedClassModel" "ShippedClassModel" "stack" "[I") ∈ tw_tbl := tw_inK tw_s6 175 rfl rfl
set_option maxRecDepth 20000 in
theorem wd_1376 : (Jvm.Cond.soleField "ShippedClassModel" "stack") ∈ tw_tbl := tw_inK tw_s6 176 rfl rfl
set_option maxRecDepth 20000 in
theorem wd_1377 : (Jvm.Cond.laysFinal "ShippedClassModel" "ShippedClassModel" "locals" "[I") ∈ tw_tbl := tw_inK tw_s6 177 rfl rfl
set_option maxRecDepth 20000 in
theorem wd_1378 : (Jvm.Cond.soleField "ShippedClassModel" "locals") ∈ tw_tbl := tw_inK tw_s6 178 rfl rfl
set_option maxRecDepth 20000 in
theorem wd_1379 : (Jvm.Cond.laysFinal "ShippedClassModel" "ShippedClassModel" "begin" "[I") ∈ tw_tbl := tw_inK tw_s6 179 rfl rfl
set_option maxRecDepth 20000 in
theorem wd_1380 : (Jvm.Cond.soleField "ShippedClassModel" "begin") ∈ tw_tbl := tw_inK tw_s6 180 rfl rfl
set_option maxRecDepth 20000 in
theorem wd_1381 : (Jvm.Cond.laysFinal "ShippedClassModel" "ShippedClassModel" "length" "[I") ∈ tw_tbl := tw_inK tw_s6 181 rfl rfl
set_option maxRecDepth 20000 in
theorem wd_1382 : (Jvm.Cond.soleField "ShippedClassModel" "length") ∈ tw_tbl := tw_inK tw_s6 182 rfl rfl
set_option maxRecDepth 20000 in
theorem wd_1383 : (Jvm.Cond.laysFinal "ShippedClassModel" "ShippedClassModel" "handlerFrom" "[I") ∈ tw_tbl := tw_inK tw_s6 183 rfl rfl
set_option maxRecDepth 20000 in
theorem wd_1384 : (Jvm.Cond.soleField "ShippedClassModel" "handlerFrom") ∈ tw_tbl := tw_inK tw_s6 184 rfl rfl
set_option maxRecDepth 20000 in
theorem wd_1385 : (Jvm.Cond.laysFinal "ShippedClassModel" "ShippedClassModel" "handlerTo" "[I") ∈ tw_tbl := tw_inK tw_s6 185 rfl rfl
set_option maxRecDepth 20000 in
theorem wd_1386 : (Jvm.Cond.soleField "ShippedClassModel" "handlerTo") ∈ tw_tbl := tw_inK tw_s6 186 rfl rfl
set_option maxRecDepth 20000 in
theorem wd_1387 : (Jvm.Cond.lays "ShippedClassModel" "ShippedClassModel" "handlers" "I") ∈ tw_tbl := tw_inK tw_s6 187 rfl rfl
set_option maxRecDepth 20000 in
theorem wd_1388 : (Jvm.Cond.soleField "ShippedClassModel" "handlers") ∈ tw_tbl := tw_inK tw_s6 188 rfl rfl
set_option maxRecDepth 20000 in
theorem wd_1389 : (Jvm.Cond.laysFinal "ShippedClassModel" "ShippedClassModel" "handlerPlace" "[I") ∈ tw_tbl := tw_inK tw_s6 189 rfl rfl
set_option maxRecDepth 20000 in
theorem wd_1390 : (Jvm.Cond.soleField "ShippedClassModel" "handlerPlace") ∈ tw_tbl := tw_inK tw_s6 190 rfl rfl
set_option maxRecDepth 20000 in
theorem wd_1391 : (Jvm.Cond.laysFinal "ShippedClassModel" "ShippedClassModel" "isStart" "[Z") ∈ tw_tbl := tw_inK tw_s6 191 rfl rfl
set_option maxRecDepth 20000 in
theorem wd_1392 : (Jvm.Cond.soleField "ShippedClassModel" "isStart") ∈ tw_tbl := tw_inK tw_s6 192 rfl rfl
set_option maxRecDepth 20000 in
theorem wd_1393 : (Jvm.Cond.laysFinal "ShippedClassModel" "ShippedClassModel" "depths" "[I") ∈ tw_tbl := tw_inK tw_s6 193 rfl rfl
set_option maxRecDepth 20000 in
theorem wd_1394 : (Jvm.Cond.soleField "ShippedClassModel" "depths") ∈ tw_tbl := tw_inK tw_s6 194 rfl rfl
set_option maxRecDepth 20000 in
theorem wd_1395 : (Jvm.Cond.laysFinal "ShippedClassModel" "ShippedClassModel" "isNew" "[Z") ∈ tw_tbl := tw_inK tw_s6 195 rfl rfl
set_option maxRecDepth 20000 in
theorem wd_1396 : (Jvm.Cond.soleField "ShippedClassModel" "isNew") ∈ tw_tbl := tw_inK tw_s6 196 rfl rfl
set_option maxRecDepth 20000 in
theorem wd_1397 : (Jvm.Cond.laysFinal "ShippedClassModel" "ShippedClassModel" "kinds" "[I") ∈ tw_tbl := tw_inK tw_s6 197 rfl rfl
set_option maxRecDepth 20000 in
theorem wd_1398 : (Jvm.Cond.soleField "ShippedClassModel" "kinds") ∈ tw_tbl := tw_inK tw_s6 198 rfl rfl
set_option maxRecDepth 20000 in
theorem wd_1399 : (Jvm.Cond.lays "ShippedClassModel" "ShippedClassModel" "method" "I") ∈ tw_tbl := tw_inK tw_s6 199 rfl rfl
set_option maxRecDepth 20000 in
theorem wd_1400 : (Jvm.Cond.soleField "ShippedClassModel" "method") ∈ tw_tbl := tw_inK tw_s6 200 rfl rfl
set_option maxRecDepth 20000 in
theorem wd_1401 : (Jvm.Cond.lays "ShippedClassModel" "ShippedClassModel" "here" "I") ∈ tw_tbl := tw_inK tw_s6 201 rfl rfl
set_option maxRecDepth 20000 in
theorem wd_1402 : (Jvm.Cond.soleField "ShippedClassModel" "here") ∈ tw_tbl := tw_inK tw_s6 202 rfl rfl
set_option maxRecDepth 20000 in
theorem wd_1403 : (Jvm.Cond.lays "ShippedClassModel" "ShippedClassModel" "top" "I") ∈ tw_tbl := tw_inK tw_s6 203 rfl rfl
set_option maxRecDepth 20000 in
theorem wd_1404 : (Jvm.Cond.soleField "ShippedClassModel" "top") ∈ tw_tbl := tw_inK tw_s6 204 rfl rfl
set_option maxRecDepth 20000 in
theorem wd_1405 : (Jvm.Cond.laysFinal "ShippedClassModel" "ShippedClassModel" "now" "[I") ∈ tw_tbl := tw_inK tw_s6 205 rfl rfl
set_option maxRecDepth 20000 in
theorem wd_1406 : (Jvm.Cond.soleField "ShippedClassModel" "now") ∈ tw_tbl := tw_inK tw_s6 206 rfl rfl
set_option maxRecDepth 20000 in
theorem wd_1407 : (Jvm.Cond.laysFinal "ShippedClassModel" "ShippedClassModel" "before" "[I") ∈ tw_tbl := tw_inK tw_s6 207 rfl rfl
set_option maxRecDepth 20000 in
theorem wd_1408 : (Jvm.Cond.soleField "ShippedClassModel" "before") ∈ tw_tbl := tw_inK tw_s6 208 rfl rfl
set_option maxRecDepth 20000 in
theorem wd_1409 : (Jvm.Cond.lays "ShippedClassModel" "ShippedClassModel" "args" "I") ∈ tw_tbl := tw_inK tw_s6 209 rfl rfl
set_option maxRecDepth 20000 in
theorem wd_1410 : (Jvm.Cond.soleField "ShippedClassModel" "args") ∈ tw_tbl := tw_inK tw_s6 210 rfl rfl
set_option maxRecDepth 20000 in
theorem wd_1411 : (Jvm.Cond.laysFinal "ShippedClassModel" "ShippedClassModel" "argKind" "[I") ∈ tw_tbl := tw_inK tw_s6 211 rfl rfl
set_option maxRecDepth 20000 in
theorem wd_1412 : (Jvm.Cond.soleField "ShippedClassModel" "argKind") ∈ tw_tbl := tw_inK tw_s6 212 rfl rfl
set_option maxRecDepth 20000 in
theorem wd_1413 : (Jvm.Cond.lays "ShippedClassModel" "ShippedClassModel" "answer" "I") ∈ tw_tbl := tw_inK tw_s6 213 rfl rfl
set_option maxRecDepth 20000 in
theorem wd_1414 : (Jvm.Cond.soleField "ShippedClassModel" "answer") ∈ tw_tbl := tw_inK tw_s6 214 rfl rfl
set_option maxRecDepth 20000 in
theorem wd_1415 : (Jvm.Cond.lays "ShippedClassModel" "ShippedClassModel" "isGood" "Z") ∈ tw_tbl := tw_inK tw_s6 215 rfl rfl
set_option maxRecDepth 20000 in
theorem wd_1416 : (Jvm.Cond.soleField "ShippedClassModel" "isGood") ∈ tw_tbl := tw_inK tw_s6 216 rfl rfl
set_option maxRecDepth 20000 in
theorem wd_1417 : (Jvm.Cond.laysFinal "ShippedClassModel" "ShippedClassModel" "goodBytes" "[I") ∈ tw_tbl := tw_inK tw_s6 217 rfl rfl
set_option maxRecDepth 20000 in
theorem wd_1418 : (Jvm.Cond.soleField "ShippedClassModel" "goodBytes") ∈ tw_tbl := tw_inK tw_s6 218 rfl rfl
set_option maxRecDepth 20000 in
theorem wd_1419 : (Jvm.Cond.laysFinal "ShippedClassModel" "ShippedClassModel" "told" "[I") ∈ tw_tbl := tw_inK tw_s6 219 rfl rfl
set_option maxRecDepth 20000 in
theorem wd_1420 : (Jvm.Cond.soleField "ShippedClassModel" "told") ∈ tw_tbl := tw_inK tw_s6 220 rfl rfl
set_option maxRecDepth 20000 in
theorem wd_1421 : (Jvm.Cond.laysFinal "ShippedClassModel" "ShippedClassModel" "goodTexts" "[I") ∈ tw_tbl := tw_inK tw_s6 221 rfl rfl
set_option maxRecDepth 20000 in
theorem wd_1422 : (Jvm.Cond.soleField "ShippedClassModel" "goodTexts") ∈ tw_tbl := tw_inK tw_s6 222 rfl rfl
set_option maxRecDepth 20000 in
theorem wd_1423 : (Jvm.Cond.laysFinal "ShippedClassModel" "ShippedClassModel" "goodBegin" "[I") ∈ tw_tbl := tw_inK tw_s6 223 rfl rfl
set_option maxRecDepth 20000 in
theorem wd_1424 : (Jvm.Cond.soleField "ShippedClassModel" "goodBegin") ∈ tw_tbl := tw_inK tw_s6 224 rfl rfl
set_option maxRecDepth 20000 in
theorem wd_1425 : (Jvm.Cond.laysFinal "ShippedClassModel" "ShippedClassModel" "goodLength" "[I") ∈ tw_tbl := tw_inK tw_s6 225 rfl rfl
set_option maxRecDepth 20000 in
theorem wd_1426 : (Jvm.Cond.soleField "ShippedClassModel" "goodLength") ∈ tw_tbl := tw_inK tw_s6 226 rfl rfl
set_option maxRecDepth 20000 in
theorem wd_1427 : (Jvm.Cond.laysFinal "ShippedClassModel" "ShippedClassModel" "goodLocals" "[I") ∈ tw_tbl := tw_inK tw_s6 227 rfl rfl
set_option maxRecDepth 20000 in
theorem wd_1428 : (Jvm.Cond.soleField "ShippedClassModel" "goodLocals") ∈ tw_tbl := tw_inK tw_s6 228 rfl rfl
set_option maxRecDepth 20000 in
theorem wd_1429 : (Jvm.Cond.laysFinal "ShippedClassModel" "ShippedClassModel" "goodDepths" "[I") ∈ tw_tbl := tw_inK tw_s6 229 rfl rfl
set_option maxRecDepth 20000 in
theorem wd_1430 : (Jvm.Cond.soleField "ShippedClassModel" "goodDepths") ∈ tw_tbl := tw_inK tw_s6 230 rfl rfl
set_option maxRecDepth 20000 in
theorem wd_1431 : (Jvm.Cond.laysFinal "ShippedClassModel" "ShippedClassModel" "goodKinds" "[I") ∈ tw_tbl := tw_inK tw_s6 231 rfl rfl
set_option maxRecDepth 20000 in
theorem wd_1432 : (Jvm.Cond.soleField "ShippedClassModel" "goodKinds") ∈ tw_tbl := tw_inK tw_s6 232 rfl rfl
set_option maxRecDepth 20000 in
theorem wd_1433 : (Jvm.Cond.superclass "ShippedClassModel" "java/lang/Object") ∈ tw_tbl := tw_inK tw_s6 233 rfl rfl
set_option maxRecDepth 20000 in
theorem wd_1434 : (Jvm.Cond.arrayClass Jvm.ClassFile.FieldType.boolean) ∈ tw_tbl := tw_inK tw_s6 234 rfl rfl
set_option maxRecDepth 20000 in
theorem wd_1435 : (Jvm.Cond.methodLink "ShippedClassLaw" (73 : Nat) ({ cls := "ShippedClassModel", name := "thrown", desc := "()I" } : Jvm.MethodName)) ∈ tw_tbl := tw_inK tw_s6 235 rfl rfl
set_option maxRecDepth 20000 in
theorem wd_1436 : (Jvm.Cond.instanceMethod ({ cls := "ShippedClassModel", name := "thrown", desc := "()I" } : Jvm.MethodName)) ∈ tw_tbl := tw_inK tw_s6 236 rfl rfl
set_option maxRecDepth 20000 in
theorem wd_1437 : (Jvm.Cond.selects "ShippedClassModel" ({ cls := "ShippedClassModel", name := "thrown", desc := "()I" } : Jvm.MethodName) ({ cls := "ShippedClassModel", name := "thrown", desc := "()I" } : Jvm.MethodName)) ∈ tw_tbl := tw_inK tw_s6 237 rfl rfl
set_option maxRecDepth 20000 in
theorem wd_1438 : (Jvm.Cond.code ({ cls := "ShippedClassModel", name := "thrown", desc := "()I" } : Jvm.MethodName) prog_14_method_2_code (1 : Nat) (Option.some Jvm.ClassFile.FieldType.int)) ∈ tw_tbl := tw_inK tw_s6 238 rfl rfl
set_option maxRecDepth 20000 in
theorem wd_1439 : (Jvm.Cond.methodLink "ShippedClassLaw" (57 : Nat) ({ cls := "ShippedClassModel", name := "feed", desc := "(IIIII)I" } : Jvm.MethodName)) ∈ tw_tbl := tw_inK tw_s6 239 rfl rfl
set_option maxRecDepth 20000 in
theorem wd_1440 : (Jvm.Cond.instanceMethod ({ cls := "ShippedClassModel", name := "feed", desc := "(IIIII)I" } : Jvm.MethodName)) ∈ tw_tbl := tw_inK tw_s7 0 rfl rfl
set_option maxRecDepth 20000 in
theorem wd_1441 : (Jvm.Cond.selects "ShippedClassModel" ({ cls := "ShippedClassModel", name := "feed", desc := "(IIIII)I" } : Jvm.MethodName) ({ cls := "ShippedClassModel", name := "feed", desc := "(IIIII)I" } : Jvm.MethodName)) ∈ tw_tbl := tw_inK tw_s7 1 rfl rfl
set_option maxRecDepth 20000 in
theorem wd_1442 : (Jvm.Cond.code ({ cls := "ShippedClassModel", name := "feed", desc := "(IIIII)I" } : Jvm.MethodName) prog_14_method_5_code (8 : Nat) (Option.some Jvm.ClassFile.FieldType.int)) ∈ tw_tbl := tw_inK tw_s7 2 rfl rfl
set_option maxRecDepth 20000 in
theorem wd_1443 : (Jvm.Cond.methodLink "ShippedClassModel" (136 : Nat) ({ cls := "ShippedClassModel", name := "isIn", desc := "(III)Z" } : Jvm.MethodName)) ∈ tw_tbl := tw_inK tw_s7 3 rfl rfl
set_option maxRecDepth 20000 in
theorem wd_1444 : (Jvm.Cond.static ({ cls := "ShippedClassModel", name := "isIn", desc := "(III)Z" } : Jvm.MethodName)) ∈ tw_tbl := tw_inK tw_s7 4 rfl rfl
set_option maxRecDepth 20000 in
theorem wd_1445 : (Jvm.Cond.code ({ cls := "ShippedClassModel", name := "isIn", desc := "(III)Z" } : Jvm.MethodName) prog_14_method_4_code (3 : Nat) (Option.some Jvm.ClassFile.FieldType.boolean)) ∈ tw_tbl := tw_inK tw_s7 5 rfl rfl
set_option maxRecDepth 20000 in
theorem wd_1446 : (Jvm.Cond.methodLink "ShippedClassModel" (143 : Nat) ({ cls := "ShippedClassModel", name := "refused", desc := "(I)Z" } : Jvm.MethodName)) ∈ tw_tbl := tw_inK tw_s7 6 rfl rfl
set_option maxRecDepth 20000 in
theorem wd_1448 : (Jvm.Cond.instanceMethod ({ cls := "ShippedClassModel", name := "refused", desc := "(I)Z" } : Jvm.MethodName)) ∈ tw_tbl := tw_inK tw_s7 8 rfl rfl
set_option maxRecDepth 20000 in
theorem wd_1449 : (Jvm.Cond.code ({ cls := "ShippedClassModel", name := "refused", desc := "(I)Z" } : Jvm.MethodName) prog_14_method_3_code (2 : Nat) (Option.some Jvm.ClassFile.FieldType.boolean)) ∈ tw_tbl := tw_inK tw_s7 9 rfl rfl
set_option maxRecDepth 20000 in
theorem wd_1450 : (Jvm.Cond.methodLink "ShippedClassLaw" (61 : Nat) ({ cls := "ShippedClassModel", name := "put", desc := "(II)I" } : Jvm.MethodName)) ∈ tw_tbl := tw_inK tw_s7 10 rfl rfl
set_option maxRecDepth 20000 in
theorem wd_1451 : (Jvm.Cond.instanceMethod ({ cls := "ShippedClassModel", name := "put", desc := "(II)I" } : Jvm.MethodName)) ∈ tw_tbl := tw_inK tw_s7 11 rfl rfl
set_option maxRecDepth 20000 in
theorem wd_1452 : (Jvm.Cond.selects "ShippedClassModel" ({ cls := "ShippedClassModel", name := "put", desc := "(II)I" } : Jvm.MethodName) ({ cls := "ShippedClassModel", name := "put", desc := "(II)I" } : Jvm.MethodName)) ∈ tw_tbl := tw_inK tw_s7 12 rfl rfl
set_option maxRecDepth 20000 in
theorem wd_1453 : (Jvm.Cond.code ({ cls := "ShippedClassModel", name := "put", desc := "(II)I" } : Jvm.MethodName) prog_14_method_6_code (4 : Nat) (Option.some Jvm.ClassFile.FieldType.int)) ∈ tw_tbl := tw_inK tw_s7 13 rfl rfl
set_option maxRecDepth 20000 in
theorem wd_1454 : (Jvm.Cond.methodLink "ShippedClassLaw" (65 : Nat) ({ cls := "ShippedClassModel", name := "cut", desc := "(I)I" } : Jvm.MethodName)) ∈ tw_tbl := tw_inK tw_s7 14 rfl rfl
set_option maxRecDepth 20000 in
theorem wd_1455 : (Jvm.Cond.instanceMethod ({ cls := "ShippedClassModel", name := "cut", desc := "(I)I" } : Jvm.MethodName)) ∈ tw_tbl := tw_inK tw_s7 15 rfl rfl
set_option maxRecDepth 20000 in
theorem wd_1456 : (Jvm.Cond.selects "ShippedClassModel" ({ cls := "ShippedClassModel", name := "cut", desc := "(I)I" } : Jvm.MethodName) ({ cls := "ShippedClassModel", name := "cut", desc := "(I)I" } : Jvm.MethodName)) ∈ tw_tbl := tw_inK tw_s7 16 rfl rfl
set_option maxRecDepth 20000 in
theorem wd_1457 : (Jvm.Cond.code ({ cls := "ShippedClassModel", name := "cut", desc := "(I)I" } : Jvm.MethodName) prog_14_method_7_code (3 : Nat) (Option.some Jvm.ClassFile.FieldType.int)) ∈ tw_tbl := tw_inK tw_s7 17 rfl rfl
set_option maxRecDepth 20000 in
theorem wd_1458 : (Jvm.Cond.methodLink "ShippedClassLaw" (69 : Nat) ({ cls := "ShippedClassModel", name := "rule", desc := "(ZI)I" } : Jvm.MethodName)) ∈ tw_tbl := tw_inK tw_s7 18 rfl rfl
set_option maxRecDepth 20000 in
theorem wd_1459 : (Jvm.Cond.instanceMethod ({ cls := "ShippedClassModel", name := "rule", desc := "(ZI)I" } : Jvm.MethodName)) ∈ tw_tbl := tw_inK tw_s7 19 rfl rfl
set_option maxRecDepth 20000 in
theorem wd_1460 : (Jvm.Cond.selects "ShippedClassModel" ({ cls := "ShippedClassModel", name := "rule", desc := "(ZI)I" } : Jvm.MethodName) ({ cls := "ShippedClassModel", name := "rule", desc := "(ZI)I" } : Jvm.MethodName)) ∈ tw_tbl := tw_inK tw_s7 20 rfl rfl
set_option maxRecDepth 20000 in
theorem wd_1461 : (Jvm.Cond.code ({ cls := "ShippedClassModel", name := "rule", desc := "(ZI)I" } : Jvm.MethodName) prog_14_method_8_code (7 : Nat) (Option.some Jvm.ClassFile.FieldType.int)) ∈ tw_tbl := tw_inK tw_s7 21 rfl rfl
set_option maxRecDepth 20000 in
theorem wd_1462 : (Jvm.Cond.methodLink "ShippedClassLaw" (72 : Nat) ({ cls := "ShippedClassModel", name := "limit", desc := "(II)I" } : Jvm.MethodName)) ∈ tw_tbl := tw_inK tw_s7 22 rfl rfl
set_option maxRecDepth 20000 in
theorem wd_1463 : (Jvm.Cond.instanceMethod ({ cls := "ShippedClassModel", name := "limit", desc := "(II)I" } : Jvm.MethodName)) ∈ tw_tbl := tw_inK tw_s7 23 rfl rfl
set_option maxRecDepth 20000 in
theorem wd_1464 : (Jvm.Cond.selects "ShippedClassModel" ({ cls := "ShippedClassModel", name := "limit", desc := "(II)I" } : Jvm.MethodName) ({ cls := "ShippedClassModel", name := "limit", desc := "(II)I" } : Jvm.MethodName)) ∈ tw_tbl := tw_inK tw_s7 24 rfl rfl
set_option maxRecDepth 20000 in
theorem wd_1465 : (Jvm.Cond.code ({ cls := "ShippedClassModel", name := "limit", desc := "(II)I" } : Jvm.MethodName) prog_14_method_9_code (4 : Nat) (Option.some Jvm.ClassFile.FieldType.int)) ∈ tw_tbl := tw_inK tw_s7 25 rfl rfl
set_option maxRecDepth 20000 in
theorem wd_1466 : (Jvm.Cond.methodLink "ShippedClassLaw" (80 : Nat) ({ cls := "ShippedClassModel", name := "audit", desc := "()I" } : Jvm.MethodName)) ∈ tw_tbl := tw_inK tw_s7 26 rfl rfl
set_option maxRecDepth 20000 in
theorem wd_1467 : (Jvm.Cond.instanceMethod ({ cls := "ShippedClassModel", name := "audit", desc := "()I" } : Jvm.MethodName)) ∈ tw_tbl := tw_inK tw_s7 27 rfl rfl
set_option maxRecDepth 20000 in
theorem wd_1468 : (Jvm.Cond.selects "ShippedClassModel" ({ cls := "ShippedClassModel", name := "audit", desc := "()I" } : Jvm.MethodName) ({ cls := "ShippedClassModel", name := "audit", desc := "()I" } : Jvm.MethodName)) ∈ tw_tbl := tw_inK tw_s7 28 rfl rfl
set_option maxRecDepth 20000 in
theorem wd_1469 : (Jvm.Cond.code ({ cls := "ShippedClassModel", name := "audit", desc := "()I" } : Jvm.MethodName) prog_14_method_72_code (2 : Nat) (Option.some Jvm.ClassFile.FieldType.int)) ∈ tw_tbl := tw_inK tw_s7 29 rfl rfl
set_option maxRecDepth 20000 in
theorem wd_1470 : (Jvm.Cond.methodLink "ShippedClassModel" (392 : Nat) ({ cls := "ShippedClassModel", name := "read", desc := "()V" } : Jvm.MethodName)) ∈ tw_tbl := tw_inK tw_s7 30 rfl rfl
set_option maxRecDepth 20000 in
theorem wd_1472 : (Jvm.Cond.instanceMethod ({ cls := "ShippedClassModel", name := "read", desc := "()V" } : Jvm.MethodName)) ∈ tw_tbl := tw_inK tw_s7 32 rfl rfl
set_option maxRecDepth 20000 in
theorem wd_1473 : (Jvm.Cond.code ({ cls := "ShippedClassModel", name := "read", desc := "()V" } : Jvm.MethodName) prog_14_method_23_code (5 : Nat) (Option.none : Option Jvm.ClassFile.FieldType)) ∈ tw_tbl := tw_inK tw_s7 33 rfl rfl
set_option maxRecDepth 20000 in
theorem wd_1474 : (Jvm.Cond.methodLink "ShippedClassModel" (165 : Nat) ({ cls := "ShippedClassModel", name := "number", desc := "(I)J" } : Jvm.MethodName)) ∈ tw_tbl := tw_inK tw_s7 34 rfl rfl
set_option maxRecDepth 20000 in
theorem wd_1476 : (Jvm.Cond.instanceMethod ({ cls := "ShippedClassModel", name := "number", desc := "(I)J" } : Jvm.MethodName)) ∈ tw_tbl := tw_inK tw_s7 36 rfl rfl
set_option maxRecDepth 20000 in
theorem wd_1477 : (Jvm.Cond.code ({ cls := "ShippedClassModel", name := "number", desc := "(I)J" } : Jvm.MethodName) prog_14_method_11_code (5 : Nat) (Option.some Jvm.ClassFile.FieldType.long)) ∈ tw_tbl := tw_inK tw_s7 37 rfl rfl
set_option maxRecDepth 20000 in
theorem wd_1478 : (Jvm.Cond.methodLink "ShippedClassModel" (159 : Nat) ({ cls := "ShippedClassModel", name := "fail", desc := "(II)V" } : Jvm.MethodName)) ∈ tw_tbl := tw_inK tw_s7 38 rfl rfl
set_option maxRecDepth 20000 in
theorem wd_1480 : (Jvm.Cond.instanceMethod ({ cls := "ShippedClassModel", name := "fail", desc := "(II)V" } : Jvm.MethodName)) ∈ tw_tbl := tw_inK tw_s7 40 rfl rfl
set_option maxRecDepth 20000 in
theorem wd_1481 : (Jvm.Cond.code ({ cls := "ShippedClassModel", name := "fail", desc := "(II)V" } : Jvm.MethodName) prog_14_method_10_code (3 : Nat) (Option.none : Option Jvm.ClassFile.FieldType)) ∈ tw_tbl := tw_inK tw_s7 41 rfl rfl
set_option maxRecDepth 20000 in
theorem wd_1482 : (Jvm.Cond.constantLong "ShippedClassModel" (163 : Nat) (256 : Int64)) ∈ tw_tbl := tw_inK tw_s7 42 rfl rfl
set_option maxRecDepth 20000 in
theorem wd_1483 : (Jvm.Cond.constantLong "ShippedClassModel" (211 : Nat) (3405691582 : Int64)) ∈ tw_tbl := tw_inK tw_s7 43 rfl rfl
set_option maxRecDepth 20000 in
theorem wd_1484 : (Jvm.Cond.methodLink "ShippedClassModel" (172 : Nat) ({ cls := "ShippedClassModel", name := "u2", desc := "()I" } : Jvm.MethodName)) ∈ tw_tbl := tw_inK tw_s7 44 rfl rfl
set_option maxRecDepth 20000 in
theorem wd_1486 : (Jvm.Cond.instanceMethod ({ cls := "ShippedClassModel", name := "u2", desc := "()I" } : Jvm.MethodName)) ∈ tw_tbl := tw_inK tw_s7 46 rfl rfl
set_option maxRecDepth 20000 in
theorem wd_1487 : (Jvm.Cond.code ({ cls := "ShippedClassModel", name := "u2", desc := "()I" } : Jvm.MethodName) prog_14_method_12_code (1 : Nat) (Option.some Jvm.ClassFile.FieldType.int)) ∈ tw_tbl := tw_inK tw_s7 47 rfl rfl
set_option maxRecDepth 20000 in
theorem wd_1488 : (Jvm.Cond.methodLink "ShippedClassModel" (213 : Nat) ({ cls := "ShippedClassModel", name := "readConstants", desc := "()V" } : Jvm.MethodName)) ∈ tw_tbl := tw_inK tw_s7 48 rfl rfl
set_option maxRecDepth 20000 in
theorem wd_1490 : (Jvm.Cond.instanceMethod ({ cls := "ShippedClassModel", name := "readConstants", desc := "()V" } : Jvm.MethodName)) ∈ tw_tbl := tw_inK tw_s7 50 rfl rfl
set_option maxRecDepth 20000 in
theorem wd_1491 : (Jvm.Cond.code ({ cls := "ShippedClassModel", name := "readConstants", desc := "()V" } : Jvm.MethodName) prog_14_method_15_code (4 : Nat) (Option.none : Option Jvm.ClassFile.FieldType)) ∈ tw_tbl := tw_inK tw_s7 51 rfl rfl
set_option maxRecDepth 20000 in
theorem wd_1492 : (Jvm.Cond.methodLink "ShippedClassModel" (176 : Nat) ({ cls := "ShippedClassModel", name := "readConstant", desc := "(III)V" } : Jvm.MethodName)) ∈ tw_tbl := tw_inK tw_s7 52 rfl rfl
set_option maxRecDepth 20000 in
theorem wd_1494 : (Jvm.Cond.instanceMethod ({ cls := "ShippedClassModel", name := "readConstant", desc := "(III)V" } : Jvm.MethodName)) ∈ tw_tbl := tw_inK tw_s7 54 rfl rfl
set_option maxRecDepth 20000 in
theorem wd_1495 : (Jvm.Cond.code ({ cls := "ShippedClassModel", name := "readConstant", desc := "(III)V" } : Jvm.MethodName) prog_14_method_16_code (5 : Nat) (Option.none : Option Jvm.ClassFile.FieldType)) ∈ tw_tbl := tw_inK tw_s7 55 rfl rfl
set_option maxRecDepth 20000 in
theorem wd_1496 : (Jvm.Cond.methodLink "ShippedClassModel" (180 : Nat) ({ cls := "ShippedClassModel", name := "skip", desc := "(J)I" } : Jvm.MethodName)) ∈ tw_tbl := tw_inK tw_s7 56 rfl rfl
set_option maxRecDepth 20000 in
theorem wd_1498 : (Jvm.Cond.instanceMethod ({ cls := "ShippedClassModel", name := "skip", desc := "(J)I" } : Jvm.MethodName)) ∈ tw_tbl := tw_inK tw_s7 58 rfl rfl
set_option maxRecDepth 20000 in
theorem wd_1499 : (Jvm.Cond.code ({ cls := "ShippedClassModel", name := "skip", desc := "(J)I" } : Jvm.MethodName) prog_14_method_13_code (4 : Nat) (Option.some Jvm.ClassFile.FieldType.int)) ∈ tw_tbl := tw_inK tw_s7 59 rfl rfl
set_option maxRecDepth 20000 in
theorem wd_1500 : (Jvm.Cond.methodLink "ShippedClassModel" (228 : Nat) ({ cls := "ShippedClassModel", name := "readMembers", desc := "(Z)V" } : Jvm.MethodName)) ∈ tw_tbl := tw_inK tw_s7 60 rfl rfl
set_option maxRecDepth 20000 in
theorem wd_1502 : (Jvm.Cond.instanceMethod ({ cls := "ShippedClassModel", name := "readMembers", desc := "(Z)V" } : Jvm.MethodName)) ∈ tw_tbl := tw_inK tw_s7 62 rfl rfl
set_option maxRecDepth 20000 in
theorem wd_1503 : (Jvm.Cond.code ({ cls := "ShippedClassModel", name := "readMembers", desc := "(Z)V" } : Jvm.MethodName) prog_14_method_22_code (7 : Nat) (Option.none : Option Jvm.ClassFile.FieldType)) ∈ tw_tbl := tw_inK tw_s7 63 rfl rfl
set_option maxRecDepth 20000 in
theorem wd_1504 : (Jvm.Cond.methodLink "ShippedClassModel" (208 : Nat) ({ cls := "ShippedClassModel", name := "readMethodAttribute", desc := "(I)V" } : Jvm.MethodName)) ∈ tw_tbl := tw_inK tw_s7 64 rfl rfl
set_option maxRecDepth 20000 in
theorem wd_1506 : (Jvm.Cond.instanceMethod ({ cls := "ShippedClassModel", name := "readMethodAttribute", desc := "(I)V" } : Jvm.MethodName)) ∈ tw_tbl := tw_inK tw_s7 66 rfl rfl
set_option maxRecDepth 20000 in
theorem wd_1507 : (Jvm.Cond.code ({ cls := "ShippedClassModel", name := "readMethodAttribute", desc := "(I)V" } : Jvm.MethodName) prog_14_method_20_code (9 : Nat) (Option.none : Option Jvm.ClassFile.FieldType)) ∈ tw_tbl := tw_inK tw_s7 67 rfl rfl
set_option maxRecDepth 20000 in
theorem wd_1508 : (Jvm.Cond.methodLink "ShippedClassModel" (184 : Nat) ({ cls := "ShippedClassModel", name := "isTag", desc := "(II)Z" } : Jvm.MethodName)) ∈ tw_tbl := tw_inK tw_s7 68 rfl rfl
set_option maxRecDepth 20000 in
theorem wd_1510 : (Jvm.Cond.instanceMethod ({ cls := "ShippedClassModel", name := "isTag", desc := "(II)Z" } : Jvm.MethodName)) ∈ tw_tbl := tw_inK tw_s7 70 rfl rfl
set_option maxRecDepth 20000 in
theorem wd_1511 : (Jvm.Cond.code ({ cls := "ShippedClassModel", name := "isTag", desc := "(II)Z" } : Jvm.MethodName) prog_14_method_14_code (3 : Nat) (Option.some Jvm.ClassFile.FieldType.boolean)) ∈ tw_tbl := tw_inK tw_s7 71 rfl rfl
set_option maxRecDepth 20000 in
theorem wd_1512 : (Jvm.Cond.methodLink "ShippedClassModel" (191 : Nat) ({ cls := "ShippedClassModel", name := "isText", desc := "(ICCCC)Z" } : Jvm.MethodName)) ∈ tw_tbl := tw_inK tw_s7 72 rfl rfl
set_option maxRecDepth 20000 in
theorem wd_1514 : (Jvm.Cond.instanceMethod ({ cls := "ShippedClassModel", name := "isText", desc := "(ICCCC)Z" } : Jvm.MethodName)) ∈ tw_tbl := tw_inK tw_s7 74 rfl rfl
set_option maxRecDepth 20000 in
theorem wd_1515 : (Jvm.Cond.code ({ cls := "ShippedClassModel", name := "isText", desc := "(ICCCC)Z" } : Jvm.MethodName) prog_14_method_19_code (7 : Nat) (Option.some Jvm.ClassFile.FieldType.boolean)) ∈ tw_tbl := tw_inK tw_s7 75 rfl rfl
set_option maxRecDepth 20000 in
theorem wd_1516 : (Jvm.Cond.methodLink "ShippedClassModel" (195 : Nat) ({ cls := "ShippedClassModel", name := "readCode", desc := "(I)V" } : Jvm.MethodName)) ∈ tw_tbl := tw_inK tw_s7 76 rfl rfl
set_option maxRecDepth 20000 in
theorem wd_1518 : (Jvm.Cond.instanceMethod ({ cls := "ShippedClassModel", name := "readCode", desc := "(I)V" } : Jvm.MethodName)) ∈ tw_tbl := tw_inK tw_s7 78 rfl rfl
set_option maxRecDepth 20000 in
theorem wd_1519 : (Jvm.Cond.code ({ cls := "ShippedClassModel", name := "readCode", desc := "(I)V" } : Jvm.MethodName) prog_14_method_21_code (7 : Nat) (Option.none : Option Jvm.ClassFile.FieldType)) ∈ tw_tbl := tw_inK tw_s7 79 rfl rfl
set_option maxRecDepth 20000 in
theorem wd_1520 : (Jvm.Cond.methodLink "ShippedClassModel" (202 : Nat) ({ cls := "ShippedClassModel", name := "readAttributes", desc := "()V" } : Jvm.MethodName)) ∈ tw_tbl := tw_inK tw_s7 80 rfl rfl
set_option maxRecDepth 20000 in
theorem wd_1522 : (Jvm.Cond.instanceMethod ({ cls := "ShippedClassModel", name := "readAttributes", desc := "()V" } : Jvm.MethodName)) ∈ tw_tbl := tw_inK tw_s7 82 rfl rfl
set_option maxRecDepth 20000 in
theorem wd_1523 : (Jvm.Cond.code ({ cls := "ShippedClassModel", name := "readAttributes", desc := "()V" } : Jvm.MethodName) prog_14_method_18_code (3 : Nat) (Option.none : Option Jvm.ClassFile.FieldType)) ∈ tw_tbl := tw_inK tw_s7 83 rfl rfl
set_option maxRecDepth 20000 in
theorem wd_1524 : (Jvm.Cond.methodLink "ShippedClassModel" (188 : Nat) ({ cls := "ShippedClassModel", name := "readAttribute", desc := "()V" } : Jvm.MethodName)) ∈ tw_tbl := tw_inK tw_s7 84 rfl rfl
set_option maxRecDepth 20000 in
theorem wd_1526 : (Jvm.Cond.instanceMethod ({ cls := "ShippedClassModel", name := "readAttribute", desc := "()V" } : Jvm.MethodName)) ∈ tw_tbl := tw_inK tw_s7 86 rfl rfl
set_option maxRecDepth 20000 in
theorem wd_1527 : (Jvm.Cond.code ({ cls := "ShippedClassModel", name := "readAttribute", desc := "()V" } : Jvm.MethodName) prog_14_method_17_code (5 : Nat) (Option.none : Option Jvm.ClassFile.FieldType)) ∈ tw_tbl := tw_inK tw_s7 87 rfl rfl
set_option maxRecDepth 20000 in
theorem wd_1528 : (Jvm.Cond.methodLink "ShippedClassModel" (395 : Nat) ({ cls := "ShippedClassModel", name := "link", desc := "()V" } : Jvm.MethodName)) ∈ tw_tbl := tw_inK tw_s7 88 rfl rfl
set_option maxRecDepth 20000 in
theorem wd_1530 : (Jvm.Cond.instanceMethod ({ cls := "ShippedClassModel", name := "link", desc := "()V" } : Jvm.MethodName)) ∈ tw_tbl := tw_inK tw_s7 90 rfl rfl
set_option maxRecDepth 20000 in
theorem wd_1531 : (Jvm.Cond.code ({ cls := "ShippedClassModel", name := "link", desc := "()V" } : Jvm.MethodName) prog_14_method_37_code (2 : Nat) (Option.none : Option Jvm.ClassFile.FieldType)) ∈ tw_tbl := tw_inK tw_s7 91 rfl rfl
set_option maxRecDepth 20000 in
theorem wd_1532 : (Jvm.Cond.methodLink "ShippedClassModel" (270 : Nat) ({ cls := "ShippedClassModel", name := "linkConstant", desc := "(I)V" } : Jvm.MethodName)) ∈ tw_tbl := tw_inK tw_s7 92 rfl rfl
set_option maxRecDepth 20000 in
theorem wd_1534 : (Jvm.Cond.instanceMethod ({ cls := "ShippedClassModel", name := "linkConstant", desc := "(I)V" } : Jvm.MethodName)) ∈ tw_tbl := tw_inK tw_s7 94 rfl rfl
set_option maxRecDepth 20000 in
theorem wd_1535 : (Jvm.Cond.code ({ cls := "ShippedClassModel", name := "linkConstant", desc := "(I)V" } : Jvm.MethodName) prog_14_method_34_code (6 : Nat) (Option.none : Option Jvm.ClassFile.FieldType)) ∈ tw_tbl := tw_inK tw_s7 95 rfl rfl
set_option maxRecDepth 20000 in
theorem wd_1536 : (Jvm.Cond.methodLink "ShippedClassModel" (254 : Nat) ({ cls := "ShippedClassModel", name := "endOf", desc := "(I)I" } : Jvm.MethodName)) ∈ tw_tbl := tw_inK tw_s7 96 rfl rfl
set_option maxRecDepth 20000 in
theorem wd_1538 : (Jvm.Cond.instanceMethod ({ cls := "ShippedClassModel", name := "endOf", desc := "(I)I" } : Jvm.MethodName)) ∈ tw_tbl := tw_inK tw_s7 98 rfl rfl
set_option maxRecDepth 20000 in
theorem wd_1539 : (Jvm.Cond.code ({ cls := "ShippedClassModel", name := "endOf", desc := "(I)I" } : Jvm.MethodName) prog_14_method_30_code (2 : Nat) (Option.some Jvm.ClassFile.FieldType.int)) ∈ tw_tbl := tw_inK tw_s7 99 rfl rfl
set_option maxRecDepth 20000 in
theorem wd_1540 : (Jvm.Cond.methodLink "ShippedClassModel" (244 : Nat) ({ cls := "ShippedClassModel", name := "isClassName", desc := "(II)Z" } : Jvm.MethodName)) ∈ tw_tbl := tw_inK tw_s7 100 rfl rfl
set_option maxRecDepth 20000 in
theorem wd_1542 : (Jvm.Cond.instanceMethod ({ cls := "ShippedClassModel", name := "isClassName", desc := "(II)Z" } : Jvm.MethodName)) ∈ tw_tbl := tw_inK tw_s7 102 rfl rfl
set_option maxRecDepth 20000 in
theorem wd_1543 : (Jvm.Cond.code ({ cls := "ShippedClassModel", name := "isClassName", desc := "(II)Z" } : Jvm.MethodName) prog_14_method_26_code (6 : Nat) (Option.some Jvm.ClassFile.FieldType.boolean)) ∈ tw_tbl := tw_inK tw_s7 103 rfl rfl
set_option maxRecDepth 20000 in
theorem wd_1544 : (Jvm.Cond.methodLink "ShippedClassModel" (241 : Nat) ({ cls := "ShippedClassModel", name := "isName", desc := "(II)Z" } : Jvm.MethodName)) ∈ tw_tbl := tw_inK tw_s7 104 rfl rfl
set_option maxRecDepth 20000 in
theorem wd_1546 : (Jvm.Cond.instanceMethod ({ cls := "ShippedClassModel", name := "isName", desc := "(II)Z" } : Jvm.MethodName)) ∈ tw_tbl := tw_inK tw_s7 106 rfl rfl
set_option maxRecDepth 20000 in
theorem wd_1547 : (Jvm.Cond.code ({ cls := "ShippedClassModel", name := "isName", desc := "(II)Z" } : Jvm.MethodName) prog_14_method_25_code (5 : Nat) (Option.some Jvm.ClassFile.FieldType.boolean)) ∈ tw_tbl := tw_inK tw_s7 107 rfl rfl
set_option maxRecDepth 20000 in
theorem wd_1548 : (Jvm.Cond.methodLink "ShippedClassModel" (238 : Nat) ({ cls := "ShippedClassModel", name := "isSign", desc := "(I)Z" } : Jvm.MethodName)) ∈ tw_tbl := tw_inK tw_s7 108 rfl rfl
set_option maxRecDepth 20000 in
theorem wd_1549 : (Jvm.Cond.static ({ cls := "ShippedClassModel", name := "isSign", desc := "(I)Z" } : Jvm.MethodName)) ∈ tw_tbl := tw_inK tw_s7 109 rfl rfl
set_option maxRecDepth 20000 in
theorem wd_1550 : (Jvm.Cond.code ({ cls := "ShippedClassModel", name := "isSign", desc := "(I)Z" } : Jvm.MethodName) prog_14_method_24_code (1 : Nat) (Option.some Jvm.ClassFile.FieldType.boolean)) ∈ tw_tbl := tw_inK tw_s7 110 rfl rfl
set_option maxRecDepth 20000 in
theorem wd_1551 : (Jvm.Cond.methodLink "ShippedClassModel" (258 : Nat) ({ cls := "ShippedClassModel", name := "isInit", desc := "(I)Z" } : Jvm.MethodName)) ∈ tw_tbl := tw_inK tw_s7 111 rfl rfl
set_option maxRecDepth 20000 in
theorem wd_1553 : (Jvm.Cond.instanceMethod ({ cls := "ShippedClassModel", name := "isInit", desc := "(I)Z" } : Jvm.MethodName)) ∈ tw_tbl := tw_inK tw_s7 113 rfl rfl
set_option maxRecDepth 20000 in
theorem wd_1554 : (Jvm.Cond.code ({ cls := "ShippedClassModel", name := "isInit", desc := "(I)Z" } : Jvm.MethodName) prog_14_method_31_code (3 : Nat) (Option.some Jvm.ClassFile.FieldType.boolean)) ∈ tw_tbl := tw_inK tw_s7 114 rfl rfl
set_option maxRecDepth 20000 in
theorem wd_1555 : (Jvm.Cond.methodLink "ShippedClassModel" (251 : Nat) ({ cls := "ShippedClassModel", name := "isType", desc := "(II)Z" } : Jvm.MethodName)) ∈ tw_tbl := tw_inK tw_s7 115 rfl rfl
set_option maxRecDepth 20000 in
theorem wd_1557 : (Jvm.Cond.instanceMethod ({ cls := "ShippedClassModel", name := "isType", desc := "(II)Z" } : Jvm.MethodName)) ∈ tw_tbl := tw_inK tw_s7 117 rfl rfl
set_option maxRecDepth 20000 in
theorem wd_1558 : (Jvm.Cond.code ({ cls := "ShippedClassModel", name := "isType", desc := "(II)Z" } : Jvm.MethodName) prog_14_method_28_code (3 : Nat) (Option.some Jvm.ClassFile.FieldType.boolean)) ∈ tw_tbl := tw_inK tw_s7 118 rfl rfl
set_option maxRecDepth 20000 in
theorem wd_1559 : (Jvm.Cond.methodLink "ShippedClassModel" (247 : Nat) ({ cls := "ShippedClassModel", name := "typeEnd", desc := "(II)I" } : Jvm.MethodName)) ∈ tw_tbl := tw_inK tw_s7 119 rfl rfl
set_option maxRecDepth 20000 in
theorem wd_1561 : (Jvm.Cond.instanceMethod ({ cls := "ShippedClassModel", name := "typeEnd", desc := "(II)I" } : Jvm.MethodName)) ∈ tw_tbl := tw_inK tw_s7 121 rfl rfl
set_option maxRecDepth 20000 in
theorem wd_1562 : (Jvm.Cond.code ({ cls := "ShippedClassModel", name := "typeEnd", desc := "(II)I" } : Jvm.MethodName) prog_14_method_27_code (6 : Nat) (Option.some Jvm.ClassFile.FieldType.int)) ∈ tw_tbl := tw_inK tw_s7 122 rfl rfl
set_option maxRecDepth 20000 in
theorem wd_1563 : (Jvm.Cond.methodLink "ShippedClassModel" (261 : Nat) ({ cls := "ShippedClassModel", name := "isMethodType", desc := "(II)Z" } : Jvm.MethodName)) ∈ tw_tbl := tw_inK tw_s7 123 rfl rfl
set_option maxRecDepth 20000 in
theorem wd_1565 : (Jvm.Cond.instanceMethod ({ cls := "ShippedClassModel", name := "isMethodType", desc := "(II)Z" } : Jvm.MethodName)) ∈ tw_tbl := tw_inK tw_s7 125 rfl rfl
set_option maxRecDepth 20000 in
theorem wd_1566 : (Jvm.Cond.code ({ cls := "ShippedClassModel", name := "isMethodType", desc := "(II)Z" } : Jvm.MethodName) prog_14_method_29_code (4 : Nat) (Option.some Jvm.ClassFile.FieldType.boolean)) ∈ tw_tbl := tw_inK tw_s7 126 rfl rfl
set_option maxRecDepth 20000 in
theorem wd_1567 : (Jvm.Cond.methodLink "ShippedClassModel" (273 : Nat) ({ cls := "ShippedClassModel", name := "linkMemberConstant", desc := "(I)V" } : Jvm.MethodName)) ∈ tw_tbl := tw_inK tw_s7 127 rfl rfl
set_option maxRecDepth 20000 in
theorem wd_1569 : (Jvm.Cond.instanceMethod ({ cls := "ShippedClassModel", name := "linkMemberConstant", desc := "(I)V" } : Jvm.MethodName)) ∈ tw_tbl := tw_inK tw_s7 129 rfl rfl
set_option maxRecDepth 20000 in
theorem wd_1570 : (Jvm.Cond.code ({ cls := "ShippedClassModel", name := "linkMemberConstant", desc := "(I)V" } : Jvm.MethodName) prog_14_method_35_code (6 : Nat) (Option.none : Option Jvm.ClassFile.FieldType)) ∈ tw_tbl := tw_inK tw_s7 130 rfl rfl
set_option maxRecDepth 20000 in
theorem wd_1571 : (Jvm.Cond.methodLink "ShippedClassModel" (276 : Nat) ({ cls := "ShippedClassModel", name := "linkMember", desc := "(I)V" } : Jvm.MethodName)) ∈ tw_tbl := tw_inK tw_s7 131 rfl rfl
set_option maxRecDepth 20000 in
theorem wd_1573 : (Jvm.Cond.instanceMethod ({ cls := "ShippedClassModel", name := "linkMember", desc := "(I)V" } : Jvm.MethodName)) ∈ tw_tbl := tw_inK tw_s7 133 rfl rfl
set_option maxRecDepth 20000 in
theorem wd_1574 : (Jvm.Cond.code ({ cls := "ShippedClassModel", name := "linkMember", desc := "(I)V" } : Jvm.MethodName) prog_14_method_36_code (6 : Nat) (Option.none : Option Jvm.ClassFile.FieldType)) ∈ tw_tbl := tw_inK tw_s7 134 rfl rfl
set_option maxRecDepth 20000 in
theorem wd_1575 : (Jvm.Cond.methodLink "ShippedClassModel" (264 : Nat) ({ cls := "ShippedClassModel", name := "isClassInit", desc := "(I)Z" } : Jvm.MethodName)) ∈ tw_tbl := tw_inK tw_s7 135 rfl rfl
set_option maxRecDepth 20000 in
theorem wd_1577 : (Jvm.Cond.instanceMethod ({ cls := "ShippedClassModel", name := "isClassInit", desc := "(I)Z" } : Jvm.MethodName)) ∈ tw_tbl := tw_inK tw_s7 137 rfl rfl
set_option maxRecDepth 20000 in
theorem wd_1578 : (Jvm.Cond.code ({ cls := "ShippedClassModel", name := "isClassInit", desc := "(I)Z" } : Jvm.MethodName) prog_14_method_32_code (3 : Nat) (Option.some Jvm.ClassFile.FieldType.boolean)) ∈ tw_tbl := tw_inK tw_s7 138 rfl rfl
set_option maxRecDepth 20000 in
theorem wd_1579 : (Jvm.Cond.methodLink "ShippedClassModel" (267 : Nat) ({ cls := "ShippedClassModel", name := "sameTexts", desc := "(II)Z" } : Jvm.MethodName)) ∈ tw_tbl := tw_inK tw_s7 139 rfl rfl
set_option maxRecDepth 20000 in
theorem wd_1581 : (Jvm.Cond.instanceMethod ({ cls := "ShippedClassModel", name := "sameTexts", desc := "(II)Z" } : Jvm.MethodName)) ∈ tw_tbl := tw_inK tw_s7 141 rfl rfl
set_option maxRecDepth 20000 in
theorem wd_1582 : (Jvm.Cond.code ({ cls := "ShippedClassModel", name := "sameTexts", desc := "(II)Z" } : Jvm.MethodName) prog_14_method_33_code (5 : Nat) (Option.some Jvm.ClassFile.FieldType.boolean)) ∈ tw_tbl := tw_inK tw_s7 142 rfl rfl
set_option maxRecDepth 20000 in
theorem wd_1583 : (Jvm.Cond.methodLink "ShippedClassModel" (398 : Nat) ({ cls := "ShippedClassModel", name := "judge", desc := "()V" } : Jvm.MethodName)) ∈ tw_tbl := tw_inK tw_s7 143 rfl rfl
set_option maxRecDepth 20000 in
theorem wd_1585 : (Jvm.Cond.instanceMethod ({ cls := "ShippedClassModel", name := "judge", desc := "()V" } : Jvm.MethodName)) ∈ tw_tbl := tw_inK tw_s7 145 rfl rfl
set_option maxRecDepth 20000 in
theorem wd_1586 : (Jvm.Cond.code ({ cls := "ShippedClassModel", name := "judge", desc := "()V" } : Jvm.MethodName) prog_14_method_40_code (2 : Nat) (Option.none : Option Jvm.ClassFile.FieldType)) ∈ tw_tbl := tw_inK tw_s7 146 rfl rfl
set_option maxRecDepth 20000 in
theorem wd_1587 : (Jvm.Cond.methodLink "ShippedClassModel" (279 : Nat) ({ cls := "ShippedClassModel", name := "begins", desc := "(II)Z" } : Jvm.MethodName)) ∈ tw_tbl := tw_inK tw_s7 147 rfl rfl
set_option maxRecDepth 20000 in
theorem wd_1589 : (Jvm.Cond.instanceMethod ({ cls := "ShippedClassModel", name := "begins", desc := "(II)Z" } : Jvm.MethodName)) ∈ tw_tbl := tw_inK tw_s7 149 rfl rfl
set_option maxRecDepth 20000 in
theorem wd_1590 : (Jvm.Cond.code ({ cls := "ShippedClassModel", name := "begins", desc := "(II)Z" } : Jvm.MethodName) prog_14_method_38_code (7 : Nat) (Option.some Jvm.ClassFile.FieldType.boolean)) ∈ tw_tbl := tw_inK tw_s7 150 rfl rfl
set_option maxRecDepth 20000 in
theorem wd_1591 : (Jvm.Cond.methodLink "ShippedClassModel" (282 : Nat) ({ cls := "ShippedClassModel", name := "isFinalizer", desc := "(I)Z" } : Jvm.MethodName)) ∈ tw_tbl := tw_inK tw_s7 151 rfl rfl
set_option maxRecDepth 20000 in
theorem wd_1593 : (Jvm.Cond.instanceMethod ({ cls := "ShippedClassModel", name := "isFinalizer", desc := "(I)Z" } : Jvm.MethodName)) ∈ tw_tbl := tw_inK tw_s7 153 rfl rfl
set_option maxRecDepth 20000 in
theorem wd_1594 : (Jvm.Cond.code ({ cls := "ShippedClassModel", name := "isFinalizer", desc := "(I)Z" } : Jvm.MethodName) prog_14_method_39_code (5 : Nat) (Option.some Jvm.ClassFile.FieldType.boolean)) ∈ tw_tbl := tw_inK tw_s7 154 rfl rfl
set_option maxRecDepth 20000 in
theorem wd_1595 : (Jvm.Cond.methodLink "ShippedClassModel" (401 : Nat) ({ cls := "ShippedClassModel", name := "verify", desc := "(I)V" } : Jvm.MethodName)) ∈ tw_tbl := tw_inK tw_s7 155 rfl rfl
set_option maxRecDepth 20000 in
theorem wd_1597 : (Jvm.Cond.instanceMethod ({ cls := "ShippedClassModel", name := "verify", desc := "(I)V" } : Jvm.MethodName)) ∈ tw_tbl := tw_inK tw_s7 157 rfl rfl
set_option maxRecDepth 20000 in
theorem wd_1598 : (Jvm.Cond.code ({ cls := "ShippedClassModel", name := "verify", desc := "(I)V" } : Jvm.MethodName) prog_14_method_71_code (4 : Nat) (Option.none : Option Jvm.ClassFile.FieldType)) ∈ tw_tbl := tw_inK tw_s7 158 rfl rfl
set_option maxRecDepth 20000 in
theorem wd_1599 : (Jvm.Cond.methodLink "ShippedClassModel" (380 : Nat) ({ cls := "ShippedClassModel", name := "markInstructions", desc := "(I)V" } : Jvm.MethodName)) ∈ tw_tbl := tw_inK tw_s7 159 rfl rfl
set_option maxRecDepth 20000 in
theorem wd_1601 : (Jvm.Cond.instanceMethod ({ cls := "ShippedClassModel", name := "markInstructions", desc := "(I)V" } : Jvm.MethodName)) ∈ tw_tbl := tw_inK tw_s7 161 rfl rfl
set_option maxRecDepth 20000 in
theorem wd_1602 : (Jvm.Cond.code ({ cls := "ShippedClassModel", name := "markInstructions", desc := "(I)V" } : Jvm.MethodName) prog_14_method_44_code (5 : Nat) (Option.none : Option Jvm.ClassFile.FieldType)) ∈ tw_tbl := tw_inK tw_s7 162 rfl rfl
set_option maxRecDepth 20000 in
theorem wd_1603 : (Jvm.Cond.methodLink "ShippedClassModel" (291 : Nat) ({ cls := "ShippedClassModel", name := "follows", desc := "(I)I" } : Jvm.MethodName)) ∈ tw_tbl := tw_inK tw_s7 163 rfl rfl
set_option maxRecDepth 20000 in
theorem wd_1604 : (Jvm.Cond.static ({ cls := "ShippedClassModel", name := "follows", desc := "(I)I" } : Jvm.MethodName)) ∈ tw_tbl := tw_inK tw_s7 164 rfl rfl
set_option maxRecDepth 20000 in
theorem wd_1605 : (Jvm.Cond.code ({ cls := "ShippedClassModel", name := "follows", desc := "(I)I" } : Jvm.MethodName) prog_14_method_41_code (2 : Nat) (Option.some Jvm.ClassFile.FieldType.int)) ∈ tw_tbl := tw_inK tw_s7 165 rfl rfl
set_option maxRecDepth 20000 in
theorem wd_1606 : (Jvm.Cond.methodLink "ShippedClassModel" (285 : Nat) ({ cls := "ShippedClassModel", name := "isIntegers", desc := "(I)Z" } : Jvm.MethodName)) ∈ tw_tbl := tw_inK tw_s7 166 rfl rfl
set_option maxRecDepth 20000 in
theorem wd_1607 : (Jvm.Cond.static ({ cls := "ShippedClassModel", name := "isIntegers", desc := "(I)Z" } : Jvm.MethodName)) ∈ tw_tbl := tw_inK tw_s7 167 rfl rfl
set_option maxRecDepth 20000 in
theorem wd_1608 : (Jvm.Cond.code ({ cls := "ShippedClassModel", name := "isIntegers", desc := "(I)Z" } : Jvm.MethodName) prog_14_method_42_code (1 : Nat) (Option.some Jvm.ClassFile.FieldType.boolean)) ∈ tw_tbl := tw_inK tw_s7 168 rfl rfl
set_option maxRecDepth 20000 in
theorem wd_1609 : (Jvm.Cond.methodLink "ShippedClassModel" (288 : Nat) ({ cls := "ShippedClassModel", name := "isLongs", desc := "(I)Z" } : Jvm.MethodName)) ∈ tw_tbl := tw_inK tw_s7 169 rfl rfl
set_option maxRecDepth 20000 in
theorem wd_1610 : (Jvm.Cond.static ({ cls := "ShippedClassModel", name := "isLongs", desc := "(I)Z" } : Jvm.MethodName)) ∈ tw_tbl := tw_inK tw_s7 170 rfl rfl
set_option maxRecDepth 20000 in
theorem wd_1611 : (Jvm.Cond.code ({ cls := "ShippedClassModel", name := "isLongs", desc := "(I)Z" } : Jvm.MethodName) prog_14_method_43_code (1 : Nat) (Option.some Jvm.ClassFile.FieldType.boolean)) ∈ tw_tbl := tw_inK tw_s7 171 rfl rfl
set_option maxRecDepth 20000 in
theorem wd_1612 : (Jvm.Cond.methodLink "ShippedClassModel" (383 : Nat) ({ cls := "ShippedClassModel", name := "checkHandlers", desc := "(I)V" } : Jvm.MethodName)) ∈ tw_tbl := tw_inK tw_s7 172 rfl rfl
set_option maxRecDepth 20000 in
theorem wd_1614 : (Jvm.Cond.instanceMethod ({ cls := "ShippedClassModel", name := "checkHandlers", desc := "(I)V" } : Jvm.MethodName)) ∈ tw_tbl := tw_inK tw_s7 174 rfl rfl
set_option maxRecDepth 20000 in
theorem wd_1615 : (Jvm.Cond.code ({ cls := "ShippedClassModel", name := "checkHandlers", desc := "(I)V" } : Jvm.MethodName) prog_14_method_47_code (8 : Nat) (Option.none : Option Jvm.ClassFile.FieldType)) ∈ tw_tbl := tw_inK tw_s7 175 rfl rfl
set_option maxRecDepth 20000 in
theorem wd_1616 : (Jvm.Cond.methodLink "ShippedClassModel" (294 : Nat) ({ cls := "ShippedClassModel", name := "twoAt", desc := "(I)I" } : Jvm.MethodName)) ∈ tw_tbl := tw_inK tw_s7 176 rfl rfl
set_option maxRecDepth 20000 in
theorem wd_1618 : (Jvm.Cond.instanceMethod ({ cls := "ShippedClassModel", name := "twoAt", desc := "(I)I" } : Jvm.MethodName)) ∈ tw_tbl := tw_inK tw_s7 178 rfl rfl
set_option maxRecDepth 20000 in
theorem wd_1619 : (Jvm.Cond.code ({ cls := "ShippedClassModel", name := "twoAt", desc := "(I)I" } : Jvm.MethodName) prog_14_method_45_code (2 : Nat) (Option.some Jvm.ClassFile.FieldType.int)) ∈ tw_tbl := tw_inK tw_s7 179 rfl rfl
set_option maxRecDepth 20000 in
theorem wd_1620 : (Jvm.Cond.methodLink "ShippedClassModel" (297 : Nat) ({ cls := "ShippedClassModel", name := "isInstruction", desc := "(II)Z" } : Jvm.MethodName)) ∈ tw_tbl := tw_inK tw_s7 180 rfl rfl
set_option maxRecDepth 20000 in
theorem wd_1622 : (Jvm.Cond.instanceMethod ({ cls := "ShippedClassModel", name := "isInstruction", desc := "(II)Z" } : Jvm.MethodName)) ∈ tw_tbl := tw_inK tw_s7 182 rfl rfl
set_option maxRecDepth 20000 in
theorem wd_1623 : (Jvm.Cond.code ({ cls := "ShippedClassModel", name := "isInstruction", desc := "(II)Z" } : Jvm.MethodName) prog_14_method_46_code (3 : Nat) (Option.some Jvm.ClassFile.FieldType.boolean)) ∈ tw_tbl := tw_inK tw_s7 183 rfl rfl
set_option maxRecDepth 20000 in
theorem wd_1624 : (Jvm.Cond.methodLink "ShippedClassModel" (386 : Nat) ({ cls := "ShippedClassModel", name := "firstFrame", desc := "(I)V" } : Jvm.MethodName)) ∈ tw_tbl := tw_inK tw_s7 184 rfl rfl
set_option maxRecDepth 20000 in
theorem wd_1626 : (Jvm.Cond.instanceMethod ({ cls := "ShippedClassModel", name := "firstFrame", desc := "(I)V" } : Jvm.MethodName)) ∈ tw_tbl := tw_inK tw_s7 186 rfl rfl
set_option maxRecDepth 20000 in
theorem wd_1627 : (Jvm.Cond.code ({ cls := "ShippedClassModel", name := "firstFrame", desc := "(I)V" } : Jvm.MethodName) prog_14_method_70_code (7 : Nat) (Option.none : Option Jvm.ClassFile.FieldType)) ∈ tw_tbl := tw_inK tw_s7 187 rfl rfl
set_option maxRecDepth 20000 in
theorem wd_1628 : (Jvm.Cond.methodLink "ShippedClassModel" (333 : Nat) ({ cls := "ShippedClassModel", name := "readTypes", desc := "(I)V" } : Jvm.MethodName)) ∈ tw_tbl := tw_inK tw_s7 188 rfl rfl
set_option maxRecDepth 20000 in
theorem wd_1630 : (Jvm.Cond.instanceMethod ({ cls := "ShippedClassModel", name := "readTypes", desc := "(I)V" } : Jvm.MethodName)) ∈ tw_tbl := tw_inK tw_s7 190 rfl rfl
set_option maxRecDepth 20000 in
theorem wd_1631 : (Jvm.Cond.code ({ cls := "ShippedClassModel", name := "readTypes", desc := "(I)V" } : Jvm.MethodName) prog_14_method_49_code (4 : Nat) (Option.none : Option Jvm.ClassFile.FieldType)) ∈ tw_tbl := tw_inK tw_s7 191 rfl rfl
set_option maxRecDepth 20000 in
theorem wd_1632 : (Jvm.Cond.methodLink "ShippedClassModel" (303 : Nat) ({ cls := "ShippedClassModel", name := "kindAt", desc := "(I)I" } : Jvm.MethodName)) ∈ tw_tbl := tw_inK tw_s7 192 rfl rfl
set_option maxRecDepth 20000 in
theorem wd_1634 : (Jvm.Cond.instanceMethod ({ cls := "ShippedClassModel", name := "kindAt", desc := "(I)I" } : Jvm.MethodName)) ∈ tw_tbl := tw_inK tw_s7 194 rfl rfl
set_option maxRecDepth 20000 in
theorem wd_1635 : (Jvm.Cond.code ({ cls := "ShippedClassModel", name := "kindAt", desc := "(I)I" } : Jvm.MethodName) prog_14_method_48_code (3 : Nat) (Option.some Jvm.ClassFile.FieldType.int)) ∈ tw_tbl := tw_inK tw_s7 195 rfl rfl
set_option maxRecDepth 20000 in
theorem wd_1636 : (Jvm.Cond.methodLink "ShippedClassModel" (376 : Nat) ({ cls := "ShippedClassModel", name := "goOn", desc := "(I[II)V" } : Jvm.MethodName)) ∈ tw_tbl := tw_inK tw_s7 196 rfl rfl
set_option maxRecDepth 20000 in
theorem wd_1638 : (Jvm.Cond.instanceMethod ({ cls := "ShippedClassModel", name := "goOn", desc := "(I[II)V" } : Jvm.MethodName)) ∈ tw_tbl := tw_inK tw_s7 198 rfl rfl
set_option maxRecDepth 20000 in
theorem wd_1639 : (Jvm.Cond.code ({ cls := "ShippedClassModel", name := "goOn", desc := "(I[II)V" } : Jvm.MethodName) prog_14_method_67_code (10 : Nat) (Option.none : Option Jvm.ClassFile.FieldType)) ∈ tw_tbl := tw_inK tw_s7 199 rfl rfl
set_option maxRecDepth 20000 in
theorem wd_1640 : (Jvm.Cond.methodLink "ShippedClassModel" (389 : Nat) ({ cls := "ShippedClassModel", name := "through", desc := "(II)V" } : Jvm.MethodName)) ∈ tw_tbl := tw_inK tw_s7 200 rfl rfl
set_option maxRecDepth 20000 in
theorem wd_1642 : (Jvm.Cond.instanceMethod ({ cls := "ShippedClassModel", name := "through", desc := "(II)V" } : Jvm.MethodName)) ∈ tw_tbl := tw_inK tw_s7 202 rfl rfl
set_option maxRecDepth 20000 in
theorem wd_1643 : (Jvm.Cond.code ({ cls := "ShippedClassModel", name := "through", desc := "(II)V" } : Jvm.MethodName) prog_14_method_68_code (8 : Nat) (Option.none : Option Jvm.ClassFile.FieldType)) ∈ tw_tbl := tw_inK tw_s7 203 rfl rfl
set_option maxRecDepth 20000 in
theorem wd_1644 : (Jvm.Cond.methodLink "ShippedClassModel" (367 : Nat) ({ cls := "ShippedClassModel", name := "simple", desc := "(I)Z" } : Jvm.MethodName)) ∈ tw_tbl := tw_inK tw_s7 204 rfl rfl
set_option maxRecDepth 20000 in
theorem wd_1646 : (Jvm.Cond.instanceMethod ({ cls := "ShippedClassModel", name := "simple", desc := "(I)Z" } : Jvm.MethodName)) ∈ tw_tbl := tw_inK tw_s7 206 rfl rfl
set_option maxRecDepth 20000 in
theorem wd_1647 : (Jvm.Cond.code ({ cls := "ShippedClassModel", name := "simple", desc := "(I)Z" } : Jvm.MethodName) prog_14_method_62_code (3 : Nat) (Option.some Jvm.ClassFile.FieldType.boolean)) ∈ tw_tbl := tw_inK tw_s7 207 rfl rfl
set_option maxRecDepth 20000 in
theorem wd_1648 : (Jvm.Cond.methodLink "ShippedClassModel" (321 : Nat) ({ cls := "ShippedClassModel", name := "give", desc := "(I)V" } : Jvm.MethodName)) ∈ tw_tbl := tw_inK tw_s7 208 rfl rfl
set_option maxRecDepth 20000 in
theorem wd_1650 : (Jvm.Cond.instanceMethod ({ cls := "ShippedClassModel", name := "give", desc := "(I)V" } : Jvm.MethodName)) ∈ tw_tbl := tw_inK tw_s7 210 rfl rfl
set_option maxRecDepth 20000 in
theorem wd_1651 : (Jvm.Cond.code ({ cls := "ShippedClassModel", name := "give", desc := "(I)V" } : Jvm.MethodName) prog_14_method_52_code (3 : Nat) (Option.none : Option Jvm.ClassFile.FieldType)) ∈ tw_tbl := tw_inK tw_s7 211 rfl rfl
set_option maxRecDepth 20000 in
theorem wd_1652 : (Jvm.Cond.methodLink "ShippedClassModel" (330 : Nat) ({ cls := "ShippedClassModel", name := "refer", desc := "(Z)V" } : Jvm.MethodName)) ∈ tw_tbl := tw_inK tw_s7 212 rfl rfl
set_option maxRecDepth 20000 in
theorem wd_1654 : (Jvm.Cond.instanceMethod ({ cls := "ShippedClassModel", name := "refer", desc := "(Z)V" } : Jvm.MethodName)) ∈ tw_tbl := tw_inK tw_s7 214 rfl rfl
set_option maxRecDepth 20000 in
theorem wd_1655 : (Jvm.Cond.code ({ cls := "ShippedClassModel", name := "refer", desc := "(Z)V" } : Jvm.MethodName) prog_14_method_57_code (2 : Nat) (Option.none : Option Jvm.ClassFile.FieldType)) ∈ tw_tbl := tw_inK tw_s7 215 rfl rfl
set_option maxRecDepth 20000 in
theorem wd_1656 : (Jvm.Cond.methodLink "ShippedClassModel" (339 : Nat) ({ cls := "ShippedClassModel", name := "fetch", desc := "(II)V" } : Jvm.MethodName)) ∈ tw_tbl := tw_inK tw_s7 216 rfl rfl
set_option maxRecDepth 20000 in
theorem wd_1658 : (Jvm.Cond.instanceMethod ({ cls := "ShippedClassModel", name := "fetch", desc := "(II)V" } : Jvm.MethodName)) ∈ tw_tbl := tw_inK tw_s7 218 rfl rfl
set_option maxRecDepth 20000 in
theorem wd_1659 : (Jvm.Cond.code ({ cls := "ShippedClassModel", name := "fetch", desc := "(II)V" } : Jvm.MethodName) prog_14_method_54_code (3 : Nat) (Option.none : Option Jvm.ClassFile.FieldType)) ∈ tw_tbl := tw_inK tw_s7 219 rfl rfl
set_option maxRecDepth 20000 in
theorem wd_1660 : (Jvm.Cond.methodLink "ShippedClassModel" (318 : Nat) ({ cls := "ShippedClassModel", name := "needLocal", desc := "(II)V" } : Jvm.MethodName)) ∈ tw_tbl := tw_inK tw_s7 220 rfl rfl
set_option maxRecDepth 20000 in
theorem wd_1662 : (Jvm.Cond.instanceMethod ({ cls := "ShippedClassModel", name := "needLocal", desc := "(II)V" } : Jvm.MethodName)) ∈ tw_tbl := tw_inK tw_s7 222 rfl rfl
set_option maxRecDepth 20000 in
theorem wd_1663 : (Jvm.Cond.code ({ cls := "ShippedClassModel", name := "needLocal", desc := "(II)V" } : Jvm.MethodName) prog_14_method_53_code (3 : Nat) (Option.none : Option Jvm.ClassFile.FieldType)) ∈ tw_tbl := tw_inK tw_s7 223 rfl rfl
set_option maxRecDepth 20000 in
theorem wd_1664 : (Jvm.Cond.methodLink "ShippedClassModel" (342 : Nat) ({ cls := "ShippedClassModel", name := "store", desc := "(II)V" } : Jvm.MethodName)) ∈ tw_tbl := tw_inK tw_s7 224 rfl rfl
set_option maxRecDepth 20000 in
theorem wd_1666 : (Jvm.Cond.instanceMethod ({ cls := "ShippedClassModel", name := "store", desc := "(II)V" } : Jvm.MethodName)) ∈ tw_tbl := tw_inK tw_s7 226 rfl rfl
set_option maxRecDepth 20000 in
theorem wd_1667 : (Jvm.Cond.code ({ cls := "ShippedClassModel", name := "store", desc := "(II)V" } : Jvm.MethodName) prog_14_method_56_code (3 : Nat) (Option.none : Option Jvm.ClassFile.FieldType)) ∈ tw_tbl := tw_inK tw_s7 227 rfl rfl
set_option maxRecDepth 20000 in
theorem wd_1668 : (Jvm.Cond.methodLink "ShippedClassModel" (324 : Nat) ({ cls := "ShippedClassModel", name := "take", desc := "(I)V" } : Jvm.MethodName)) ∈ tw_tbl := tw_inK tw_s7 228 rfl rfl
set_option maxRecDepth 20000 in
theorem wd_1670 : (Jvm.Cond.instanceMethod ({ cls := "ShippedClassModel", name := "take", desc := "(I)V" } : Jvm.MethodName)) ∈ tw_tbl := tw_inK tw_s7 230 rfl rfl
set_option maxRecDepth 20000 in
theorem wd_1671 : (Jvm.Cond.code ({ cls := "ShippedClassModel", name := "take", desc := "(I)V" } : Jvm.MethodName) prog_14_method_50_code (2 : Nat) (Option.none : Option Jvm.ClassFile.FieldType)) ∈ tw_tbl := tw_inK tw_s7 231 rfl rfl
set_option maxRecDepth 20000 in
theorem wd_1672 : (Jvm.Cond.methodLink "ShippedClassModel" (327 : Nat) ({ cls := "ShippedClassModel", name := "spoil", desc := "(I)V" } : Jvm.MethodName)) ∈ tw_tbl := tw_inK tw_s7 232 rfl rfl
set_option maxRecDepth 20000 in
theorem wd_1674 : (Jvm.Cond.instanceMethod ({ cls := "ShippedClassModel", name := "spoil", desc := "(I)V" } : Jvm.MethodName)) ∈ tw_tbl := tw_inK tw_s7 234 rfl rfl
set_option maxRecDepth 20000 in
theorem wd_1675 : (Jvm.Cond.code ({ cls := "ShippedClassModel", name := "spoil", desc := "(I)V" } : Jvm.MethodName) prog_14_method_55_code (2 : Nat) (Option.none : Option Jvm.ClassFile.FieldType)) ∈ tw_tbl := tw_inK tw_s7 235 rfl rfl
set_option maxRecDepth 20000 in
theorem wd_1676 : (Jvm.Cond.methodLink "ShippedClassModel" (370 : Nat) ({ cls := "ShippedClassModel", name := "act", desc := "(I)V" } : Jvm.MethodName)) ∈ tw_tbl := tw_inK tw_s7 236 rfl rfl
set_option maxRecDepth 20000 in
theorem wd_1678 : (Jvm.Cond.instanceMethod ({ cls := "ShippedClassModel", name := "act", desc := "(I)V" } : Jvm.MethodName)) ∈ tw_tbl := tw_inK tw_s7 238 rfl rfl
set_option maxRecDepth 20000 in
theorem wd_1679 : (Jvm.Cond.code ({ cls := "ShippedClassModel", name := "act", desc := "(I)V" } : Jvm.MethodName) prog_14_method_66_code (3 : Nat) (Option.none : Option Jvm.ClassFile.FieldType)) ∈ tw_tbl := tw_inK tw_s7 239 rfl rfl
set_option maxRecDepth 20000 in
theorem wd_1680 : (Jvm.Cond.methodLink "ShippedClassModel" (352 : Nat) ({ cls := "ShippedClassModel", name := "returns", desc := "(I)V" } : Jvm.MethodName)) ∈ tw_tbl := tw_inK tw_s8 0 rfl rfl
set_option maxRecDepth 20000 in
theorem wd_1682 : (Jvm.Cond.instanceMethod ({ cls := "ShippedClassModel", name := "returns", desc := "(I)V" } : Jvm.MethodName)) ∈ tw_tbl := tw_inK tw_s8 2 rfl rfl
set_option maxRecDepth 20000 in
theorem wd_1683 : (Jvm.Cond.code ({ cls := "ShippedClassModel", name := "returns", desc := "(I)V" } : Jvm.MethodName) prog_14_method_61_code (2 : Nat) (Option.none : Option Jvm.ClassFile.FieldType)) ∈ tw_tbl := tw_inK tw_s8 3 rfl rfl
set_option maxRecDepth 20000 in
theorem wd_1684 : (Jvm.Cond.methodLink "ShippedClassModel" (355 : Nat) ({ cls := "ShippedClassModel", name := "reachField", desc := "(II)V" } : Jvm.MethodName)) ∈ tw_tbl := tw_inK tw_s8 4 rfl rfl
set_option maxRecDepth 20000 in
theorem wd_1686 : (Jvm.Cond.instanceMethod ({ cls := "ShippedClassModel", name := "reachField", desc := "(II)V" } : Jvm.MethodName)) ∈ tw_tbl := tw_inK tw_s8 6 rfl rfl
set_option maxRecDepth 20000 in
theorem wd_1687 : (Jvm.Cond.code ({ cls := "ShippedClassModel", name := "reachField", desc := "(II)V" } : Jvm.MethodName) prog_14_method_59_code (4 : Nat) (Option.none : Option Jvm.ClassFile.FieldType)) ∈ tw_tbl := tw_inK tw_s8 7 rfl rfl
set_option maxRecDepth 20000 in
theorem wd_1688 : (Jvm.Cond.methodLink "ShippedClassModel" (358 : Nat) ({ cls := "ShippedClassModel", name := "call", desc := "(II)V" } : Jvm.MethodName)) ∈ tw_tbl := tw_inK tw_s8 8 rfl rfl
set_option maxRecDepth 20000 in
theorem wd_1690 : (Jvm.Cond.instanceMethod ({ cls := "ShippedClassModel", name := "call", desc := "(II)V" } : Jvm.MethodName)) ∈ tw_tbl := tw_inK tw_s8 10 rfl rfl
set_option maxRecDepth 20000 in
theorem wd_1691 : (Jvm.Cond.code ({ cls := "ShippedClassModel", name := "call", desc := "(II)V" } : Jvm.MethodName) prog_14_method_60_code (4 : Nat) (Option.none : Option Jvm.ClassFile.FieldType)) ∈ tw_tbl := tw_inK tw_s8 11 rfl rfl
set_option maxRecDepth 20000 in
theorem wd_1692 : (Jvm.Cond.methodLink "ShippedClassModel" (336 : Nat) ({ cls := "ShippedClassModel", name := "giveAnswer", desc := "(I)V" } : Jvm.MethodName)) ∈ tw_tbl := tw_inK tw_s8 12 rfl rfl
set_option maxRecDepth 20000 in
theorem wd_1694 : (Jvm.Cond.instanceMethod ({ cls := "ShippedClassModel", name := "giveAnswer", desc := "(I)V" } : Jvm.MethodName)) ∈ tw_tbl := tw_inK tw_s8 14 rfl rfl
set_option maxRecDepth 20000 in
theorem wd_1695 : (Jvm.Cond.code ({ cls := "ShippedClassModel", name := "giveAnswer", desc := "(I)V" } : Jvm.MethodName) prog_14_method_58_code (2 : Nat) (Option.none : Option Jvm.ClassFile.FieldType)) ∈ tw_tbl := tw_inK tw_s8 15 rfl rfl
set_option maxRecDepth 20000 in
theorem wd_1696 : (Jvm.Cond.methodLink "ShippedClassModel" (361 : Nat) ({ cls := "ShippedClassModel", name := "arrange", desc := "(I)V" } : Jvm.MethodName)) ∈ tw_tbl := tw_inK tw_s8 16 rfl rfl
set_option maxRecDepth 20000 in
theorem wd_1698 : (Jvm.Cond.instanceMethod ({ cls := "ShippedClassModel", name := "arrange", desc := "(I)V" } : Jvm.MethodName)) ∈ tw_tbl := tw_inK tw_s8 18 rfl rfl
set_option maxRecDepth 20000 in
theorem wd_1699 : (Jvm.Cond.code ({ cls := "ShippedClassModel", name := "arrange", desc := "(I)V" } : Jvm.MethodName) prog_14_method_64_code (4 : Nat) (Option.none : Option Jvm.ClassFile.FieldType)) ∈ tw_tbl := tw_inK tw_s8 19 rfl rfl
set_option maxRecDepth 20000 in
theorem wd_1700 : (Jvm.Cond.methodLink "ShippedClassModel" (345 : Nat) ({ cls := "ShippedClassModel", name := "takeSingle", desc := "()I" } : Jvm.MethodName)) ∈ tw_tbl := tw_inK tw_s8 20 rfl rfl
set_option maxRecDepth 20000 in
theorem wd_1702 : (Jvm.Cond.instanceMethod ({ cls := "ShippedClassModel", name := "takeSingle", desc := "()I" } : Jvm.MethodName)) ∈ tw_tbl := tw_inK tw_s8 22 rfl rfl
set_option maxRecDepth 20000 in
theorem wd_1703 : (Jvm.Cond.code ({ cls := "ShippedClassModel", name := "takeSingle", desc := "()I" } : Jvm.MethodName) prog_14_method_51_code (2 : Nat) (Option.some Jvm.ClassFile.FieldType.int)) ∈ tw_tbl := tw_inK tw_s8 23 rfl rfl
set_option maxRecDepth 20000 in
theorem wd_1704 : (Jvm.Cond.methodLink "ShippedClassModel" (348 : Nat) ({ cls := "ShippedClassModel", name := "isLongOnTop", desc := "()Z" } : Jvm.MethodName)) ∈ tw_tbl := tw_inK tw_s8 24 rfl rfl
set_option maxRecDepth 20000 in
theorem wd_1706 : (Jvm.Cond.instanceMethod ({ cls := "ShippedClassModel", name := "isLongOnTop", desc := "()Z" } : Jvm.MethodName)) ∈ tw_tbl := tw_inK tw_s8 26 rfl rfl
set_option maxRecDepth 20000 in
theorem wd_1707 : (Jvm.Cond.code ({ cls := "ShippedClassModel", name := "isLongOnTop", desc := "()Z" } : Jvm.MethodName) prog_14_method_63_code (1 : Nat) (Option.some Jvm.ClassFile.FieldType.boolean)) ∈ tw_tbl := tw_inK tw_s8 27 rfl rfl
set_option maxRecDepth 20000 in
theorem wd_1708 : (Jvm.Cond.methodLink "ShippedClassModel" (364 : Nat) ({ cls := "ShippedClassModel", name := "reckon", desc := "(I)V" } : Jvm.MethodName)) ∈ tw_tbl := tw_inK tw_s8 28 rfl rfl
set_option maxRecDepth 20000 in
theorem wd_1710 : (Jvm.Cond.instanceMethod ({ cls := "ShippedClassModel", name := "reckon", desc := "(I)V" } : Jvm.MethodName)) ∈ tw_tbl := tw_inK tw_s8 30 rfl rfl
set_option maxRecDepth 20000 in
theorem wd_1711 : (Jvm.Cond.code ({ cls := "ShippedClassModel", name := "reckon", desc := "(I)V" } : Jvm.MethodName) prog_14_method_65_code (3 : Nat) (Option.none : Option Jvm.ClassFile.FieldType)) ∈ tw_tbl := tw_inK tw_s8 31 rfl rfl
set_option maxRecDepth 20000 in
theorem wd_1712 : (Jvm.Cond.methodLink "ShippedClassModel" (373 : Nat) ({ cls := "ShippedClassModel", name := "toHandlers", desc := "(II)V" } : Jvm.MethodName)) ∈ tw_tbl := tw_inK tw_s8 32 rfl rfl
set_option maxRecDepth 20000 in
theorem wd_1714 : (Jvm.Cond.instanceMethod ({ cls := "ShippedClassModel", name := "toHandlers", desc := "(II)V" } : Jvm.MethodName)) ∈ tw_tbl := tw_inK tw_s8 34 rfl rfl
set_option maxRecDepth 20000 in
theorem wd_1715 : (Jvm.Cond.code ({ cls := "ShippedClassModel", name := "toHandlers", desc := "(II)V" } : Jvm.MethodName) prog_14_method_69_code (6 : Nat) (Option.none : Option Jvm.ClassFile.FieldType)) ∈ tw_tbl := tw_inK tw_s8 35 rfl rfl
set_option maxRecDepth 20000 in
theorem wd_1716 : (Jvm.Cond.methodLink "ShippedClassModel" (404 : Nat) ({ cls := "ShippedClassModel", name := "keep", desc := "()V" } : Jvm.MethodName)) ∈ tw_tbl := tw_inK tw_s8 36 rfl rfl
set_option maxRecDepth 20000 in
theorem wd_1718 : (Jvm.Cond.instanceMethod ({ cls := "ShippedClassModel", name := "keep", desc := "()V" } : Jvm.MethodName)) ∈ tw_tbl := tw_inK tw_s8 38 rfl rfl
set_option maxRecDepth 20000 in
theorem wd_1719 : (Jvm.Cond.code ({ cls := "ShippedClassModel", name := "keep", desc := "()V" } : Jvm.MethodName) prog_14_method_74_code (4 : Nat) (Option.none : Option Jvm.ClassFile.FieldType)) ∈ tw_tbl := tw_inK tw_s8 39 rfl rfl
set_option maxRecDepth 20000 in
theorem wd_1720 : (Jvm.Cond.methodLink "ShippedClassModel" (411 : Nat) ({ cls := "ShippedClassModel", name := "keepText", desc := "(II)V" } : Jvm.MethodName)) ∈ tw_tbl := tw_inK tw_s8 40 rfl rfl
set_option maxRecDepth 20000 in
theorem wd_1722 : (Jvm.Cond.instanceMethod ({ cls := "ShippedClassModel", name := "keepText", desc := "(II)V" } : Jvm.MethodName)) ∈ tw_tbl := tw_inK tw_s8 42 rfl rfl
set_option maxRecDepth 20000 in
theorem wd_1723 : (Jvm.Cond.code ({ cls := "ShippedClassModel", name := "keepText", desc := "(II)V" } : Jvm.MethodName) prog_14_method_73_code (3 : Nat) (Option.none : Option Jvm.ClassFile.FieldType)) ∈ tw_tbl := tw_inK tw_s8 43 rfl rfl
set_option maxRecDepth 20000 in
theorem wd_1724 : (Jvm.Cond.methodLink "ShippedClassModel" (414 : Nat) ({ cls := "ShippedClassModel", name := "keepFrame", desc := "(I)V" } : Jvm.MethodName)) ∈ tw_tbl := tw_inK tw_s8 44 rfl rfl
set_option maxRecDepth 20000 in
theorem wd_1726 : (Jvm.Cond.instanceMethod ({ cls := "ShippedClassModel", name := "keepFrame", desc := "(I)V" } : Jvm.MethodName)) ∈ tw_tbl := tw_inK tw_s8 46 rfl rfl
set_option maxRecDepth 20000 in
theorem wd_1727 : (Jvm.Cond.code ({ cls := "ShippedClassModel", name := "keepFrame", desc := "(I)V" } : Jvm.MethodName) prog_14_method_75_code (3 : Nat) (Option.none : Option Jvm.ClassFile.FieldType)) ∈ tw_tbl := tw_inK tw_s8 47 rfl rfl
set_option maxRecDepth 20000 in
theorem wd_1728 : (Jvm.Cond.methodLink "ShippedClassLaw" (84 : Nat) ({ cls := "ShippedClassModel", name := "place", desc := "()I" } : Jvm.MethodName)) ∈ tw_tbl := tw_inK tw_s8 48 rfl rfl
set_option maxRecDepth 20000 in
theorem wd_1729 : (Jvm.Cond.instanceMethod ({ cls := "ShippedClassModel", name := "place", desc := "()I" } : Jvm.MethodName)) ∈ tw_tbl := tw_inK tw_s8 49 rfl rfl
set_option maxRecDepth 20000 in
theorem wd_1730 : (Jvm.Cond.selects "ShippedClassModel" ({ cls := "ShippedClassModel", name := "place", desc := "()I" } : Jvm.MethodName) ({ cls := "ShippedClassModel", name := "place", desc := "()I" } : Jvm.MethodName)) ∈ tw_tbl := tw_inK tw_s8 50 rfl rfl
set_option maxRecDepth 20000 in
theorem wd_1731 : (Jvm.Cond.code ({ cls := "ShippedClassModel", name := "place", desc := "()I" } : Jvm.MethodName) prog_14_method_76_code (1 : Nat) (Option.some Jvm.ClassFile.FieldType.int)) ∈ tw_tbl := tw_inK tw_s8 51 rfl rfl
set_option maxRecDepth 20000 in
theorem wd_1732 : (Jvm.Cond.methodLink "ShippedClassLaw" (87 : Nat) ({ cls := "ShippedClassModel", name := "count", desc := "(I)I" } : Jvm.MethodName)) ∈ tw_tbl := tw_inK tw_s8 52 rfl rfl
set_option maxRecDepth 20000 in
theorem wd_1733 : (Jvm.Cond.instanceMethod ({ cls := "ShippedClassModel", name := "count", desc := "(I)I" } : Jvm.MethodName)) ∈ tw_tbl := tw_inK tw_s8 53 rfl rfl
set_option maxRecDepth 20000 in
theorem wd_1734 : (Jvm.Cond.selects "ShippedClassModel" ({ cls := "ShippedClassModel", name := "count", desc := "(I)I" } : Jvm.MethodName) ({ cls := "ShippedClassModel", name := "count", desc := "(I)I" } : Jvm.MethodName)) ∈ tw_tbl := tw_inK tw_s8 54 rfl rfl
set_option maxRecDepth 20000 in
theorem wd_1735 : (Jvm.Cond.code ({ cls := "ShippedClassModel", name := "count", desc := "(I)I" } : Jvm.MethodName) prog_14_method_77_code (2 : Nat) (Option.some Jvm.ClassFile.FieldType.int)) ∈ tw_tbl := tw_inK tw_s8 55 rfl rfl
set_option maxRecDepth 20000 in
theorem wd_1736 : (Jvm.Cond.methodLink "ShippedClassLaw" (91 : Nat) ({ cls := "ShippedClassModel", name := "text", desc := "(III)C" } : Jvm.MethodName)) ∈ tw_tbl := tw_inK tw_s8 56 rfl rfl
set_option maxRecDepth 20000 in
theorem wd_1737 : (Jvm.Cond.instanceMethod ({ cls := "ShippedClassModel", name := "text", desc := "(III)C" } : Jvm.MethodName)) ∈ tw_tbl := tw_inK tw_s8 57 rfl rfl
set_option maxRecDepth 20000 in
theorem wd_1738 : (Jvm.Cond.selects "ShippedClassModel" ({ cls := "ShippedClassModel", name := "text", desc := "(III)C" } : Jvm.MethodName) ({ cls := "ShippedClassModel", name := "text", desc := "(III)C" } : Jvm.MethodName)) ∈ tw_tbl := tw_inK tw_s8 58 rfl rfl
set_option maxRecDepth 20000 in
theorem wd_1739 : (Jvm.Cond.code ({ cls := "ShippedClassModel", name := "text", desc := "(III)C" } : Jvm.MethodName) prog_14_method_78_code (6 : Nat) (Option.some Jvm.ClassFile.FieldType.char)) ∈ tw_tbl := tw_inK tw_s8 59 rfl rfl
set_option maxRecDepth 20000 in
theorem wd_1740 : (Jvm.Cond.methodLink "ShippedClassLaw" (94 : Nat) ({ cls := "ShippedClassModel", name := "depth", desc := "(II)I" } : Jvm.MethodName)) ∈ tw_tbl := tw_inK tw_s8 60 rfl rfl
set_option maxRecDepth 20000 in
theorem wd_1741 : (Jvm.Cond.instanceMethod ({ cls := "ShippedClassModel", name := "depth", desc := "(II)I" } : Jvm.MethodName)) ∈ tw_tbl := tw_inK tw_s8 61 rfl rfl
set_option maxRecDepth 20000 in
theorem wd_1742 : (Jvm.Cond.selects "ShippedClassModel" ({ cls := "ShippedClassModel", name := "depth", desc := "(II)I" } : Jvm.MethodName) ({ cls := "ShippedClassModel", name := "depth", desc := "(II)I" } : Jvm.MethodName)) ∈ tw_tbl := tw_inK tw_s8 62 rfl rfl
set_option maxRecDepth 20000 in
theorem wd_1743 : (Jvm.Cond.code ({ cls := "ShippedClassModel", name := "depth", desc := "(II)I" } : Jvm.MethodName) prog_14_method_80_code (4 : Nat) (Option.some Jvm.ClassFile.FieldType.int)) ∈ tw_tbl := tw_inK tw_s8 63 rfl rfl
set_option maxRecDepth 20000 in
theorem wd_1744 : (Jvm.Cond.methodLink "ShippedClassModel" (417 : Nat) ({ cls := "ShippedClassModel", name := "frameAt", desc := "(II)I" } : Jvm.MethodName)) ∈ tw_tbl := tw_inK tw_s8 64 rfl rfl
set_option maxRecDepth 20000 in
theorem wd_1746 : (Jvm.Cond.instanceMethod ({ cls := "ShippedClassModel", name := "frameAt", desc := "(II)I" } : Jvm.MethodName)) ∈ tw_tbl := tw_inK tw_s8 66 rfl rfl
set_option maxRecDepth 20000 in
theorem wd_1747 : (Jvm.Cond.code ({ cls := "ShippedClassModel", name := "frameAt", desc := "(II)I" } : Jvm.MethodName) prog_14_method_79_code (4 : Nat) (Option.some Jvm.ClassFile.FieldType.int)) ∈ tw_tbl := tw_inK tw_s8 67 rfl rfl
set_option maxRecDepth 20000 in
theorem wd_1748 : (Jvm.Cond.methodLink "ShippedClassLaw" (98 : Nat) ({ cls := "ShippedClassModel", name := "kind", desc := "(IIZI)I" } : Jvm.MethodName)) ∈ tw_tbl := tw_inK tw_s8 68 rfl rfl
set_option maxRecDepth 20000 in
theorem wd_1749 : (Jvm.Cond.instanceMethod ({ cls := "ShippedClassModel", name := "kind", desc := "(IIZI)I" } : Jvm.MethodName)) ∈ tw_tbl := tw_inK tw_s8 69 rfl rfl
set_option maxRecDepth 20000 in
theorem wd_1750 : (Jvm.Cond.selects "ShippedClassModel" ({ cls := "ShippedClassModel", name := "kind", desc := "(IIZI)I" } : Jvm.MethodName) ({ cls := "ShippedClassModel", name := "kind", desc := "(IIZI)I" } : Jvm.MethodName)) ∈ tw_tbl := tw_inK tw_s8 70 rfl rfl
set_option maxRecDepth 20000 in
theorem wd_1751 : (Jvm.Cond.code ({ cls := "ShippedClassModel", name := "kind", desc := "(IIZI)I" } : Jvm.MethodName) prog_14_method_81_code (6 : Nat) (Option.some Jvm.ClassFile.FieldType.int)) ∈ tw_tbl := tw_inK tw_s8 71 rfl rfl
set_option maxRecDepth 20000 in
theorem wd_1752 : (Jvm.Cond.sameMethod "java/lang/Throwable" "java/lang/Throwable" "fillInStackTrace" "(I)Ljava/lang/Throwable;") ∈ tw_tbl := tw_inK tw_s8 72 rfl rfl
set_option maxRecDepth 20000 in
theorem wd_1753 : (Jvm.Cond.fieldLink "java/lang/String" (9 : Nat) "java/lang/String" "value" "[B") ∈ tw_tbl := tw_inK tw_s8 73 rfl rfl
set_option maxRecDepth 20000 in
theorem wd_1754 : (Jvm.Cond.fieldLink "java/lang/String" (15 : Nat) "java/lang/String" "coder" "B") ∈ tw_tbl := tw_inK tw_s8 74 rfl rfl
set_option maxRecDepth 20000 in
theorem in_Finding : ∀ w ∈ u_ws R_Finding F_Finding 2, w ∈ tw_tbl := List.forall_mem_cons.mpr ⟨wd_64, List.forall_mem_cons.mpr ⟨wd_66, fun _ h => absurd h List.not_mem_nil⟩⟩
set_option maxRecDepth 20000 in
theorem in_Frames : ∀ w ∈ u_ws R_Frames F_Frames 5, w ∈ tw_tbl := List.forall_mem_cons.mpr ⟨wd_230, List.forall_mem_cons.mpr ⟨wd_232, List.forall_mem_cons.mpr ⟨wd_234, List.forall_mem_cons.mpr ⟨wd_236, List.forall_mem_cons.mpr ⟨wd_238, fun _ h => absurd h List.not_mem_nil⟩⟩⟩⟩⟩
set_option maxRecDepth 20000 in
theorem in_Image : ∀ w ∈ u_ws R_Image F_Image 2, w ∈ tw_tbl := List.forall_mem_cons.mpr ⟨wd_47, List.forall_mem_cons.mpr ⟨wd_49, fun _ h => absurd h List.not_mem_nil⟩⟩
set_option maxRecDepth 20000 in
theorem in_Layout : ∀ w ∈ u_ws R_Layout F_Layout 15, w ∈ tw_tbl := List.forall_mem_cons.mpr ⟨wd_281, List.forall_mem_cons.mpr ⟨wd_283, List.forall_mem_cons.mpr ⟨wd_285, List.forall_mem_cons.mpr ⟨wd_287, List.forall_mem_cons.mpr ⟨wd_289, List.forall_mem_cons.mpr ⟨wd_291, List.forall_mem_cons.mpr ⟨wd_293, List.forall_mem_cons.mpr ⟨wd_295, List.forall_mem_cons.mpr ⟨wd_297, List.forall_mem_cons.mpr ⟨wd_299, List.forall_mem_cons.mpr ⟨wd_301, List.forall_mem_cons.mpr ⟨wd_303, List.forall_mem_cons.mpr ⟨wd_305, List.forall_mem_cons.mpr ⟨wd_307, List.forall_mem_cons.mpr ⟨wd_309, fun _ h => absurd h List.not_mem_nil⟩⟩⟩⟩⟩⟩⟩⟩⟩⟩⟩⟩⟩⟩⟩
set_option maxRecDepth 20000 in
theorem in_Linker : ∀ w ∈ u_ws R_Linker F_Linker 3, w ∈ tw_tbl := List.forall_mem_cons.mpr ⟨wd_123, List.forall_mem_cons.mpr ⟨wd_125, List.forall_mem_cons.mpr ⟨wd_127, fun _ h => absurd h List.not_mem_nil⟩⟩⟩
set_option maxRecDepth 20000 in
theorem in_Machine : ∀ w ∈ u_ws R_Machine F_Machine 11, w ∈ tw_tbl := List.forall_mem_cons.mpr ⟨wd_159, List.forall_mem_cons.mpr ⟨wd_161, List.forall_mem_cons.mpr ⟨wd_163, List.forall_mem_cons.mpr ⟨wd_165, List.forall_mem_cons.mpr ⟨wd_167, List.forall_mem_cons.mpr ⟨wd_169, List.forall_mem_cons.mpr ⟨wd_171, List.forall_mem_cons.mpr ⟨wd_173, List.forall_mem_cons.mpr ⟨wd_175, List.forall_mem_cons.mpr ⟨wd_177, List.forall_mem_cons.mpr ⟨wd_179, fun _ h => absurd h List.not_mem_nil⟩⟩⟩⟩⟩⟩⟩⟩⟩⟩⟩
set_option maxRecDepth 20000 in
theorem in_Policy : ∀ w ∈ u_ws R_Policy F_Policy 5, w ∈ tw_tbl := List.forall_mem_cons.mpr ⟨wd_83, List.forall_mem_cons.mpr ⟨wd_85, List.forall_mem_cons.mpr ⟨wd_87, List.forall_mem_cons.mpr ⟨wd_89, List.forall_mem_cons.mpr ⟨wd_91, fun _ h => absurd h List.not_mem_nil⟩⟩⟩⟩⟩
set_option maxRecDepth 20000 in
theorem in_Reader : ∀ w ∈ u_ws R_Reader F_Reader 4, w ∈ tw_tbl := List.forall_mem_cons.mpr ⟨wd_105, List.forall_mem_cons.mpr ⟨wd_107, List.forall_mem_cons.mpr ⟨wd_109, List.forall_mem_cons.mpr ⟨wd_111, fun _ h => absurd h List.not_mem_nil⟩⟩⟩⟩
set_option maxRecDepth 20000 in
theorem in_Verifier : ∀ w ∈ u_ws R_Verifier F_Verifier 9, w ∈ tw_tbl := List.forall_mem_cons.mpr ⟨wd_191, List.forall_mem_cons.mpr ⟨wd_193, List.forall_mem_cons.mpr ⟨wd_195, List.forall_mem_cons.mpr ⟨wd_197, List.forall_mem_cons.mpr ⟨wd_199, List.forall_mem_cons.mpr ⟨wd_201, List.forall_mem_cons.mpr ⟨wd_203, List.forall_mem_cons.mpr ⟨wd_205, List.forall_mem_cons.mpr ⟨wd_207, fun _ h => absurd h List.not_mem_nil⟩⟩⟩⟩⟩⟩⟩⟩⟩
set_option maxRecDepth 20000 in
theorem in_Ship : ∀ w ∈ u_ws R_Ship F_Ship 9, w ∈ tw_tbl := List.forall_mem_cons.mpr ⟨wd_321, List.forall_mem_cons.mpr ⟨wd_323, List.forall_mem_cons.mpr ⟨wd_325, List.forall_mem_cons.mpr ⟨wd_327, List.forall_mem_cons.mpr ⟨wd_329, List.forall_mem_cons.mpr ⟨wd_331, List.forall_mem_cons.mpr ⟨wd_333, List.forall_mem_cons.mpr ⟨wd_335, List.forall_mem_cons.mpr ⟨wd_337, fun _ h => absurd h List.not_mem_nil⟩⟩⟩⟩⟩⟩⟩⟩⟩
set_option maxRecDepth 20000 in
theorem in_Mod : ∀ w ∈ u_ws R_Mod F_Mod 61, w ∈ tw_tbl := List.forall_mem_cons.mpr ⟨wd_1311, List.forall_mem_cons.mpr ⟨wd_1313, List.forall_mem_cons.mpr ⟨wd_1315, List.forall_mem_cons.mpr ⟨wd_1317, List.forall_mem_cons.mpr ⟨wd_1319, List.forall_mem_cons.mpr ⟨wd_1321, List.forall_mem_cons.mpr ⟨wd_1323, List.forall_mem_cons.mpr ⟨wd_1325, List.forall_mem_cons.mpr ⟨wd_1327, List.forall_mem_cons.mpr ⟨wd_1329, List.forall_mem_cons.mpr ⟨wd_1331, List.forall_mem_cons.mpr ⟨wd_1333, List.forall_mem_cons.mpr ⟨wd_1335, List.forall_mem_cons.mpr ⟨wd_1337, List.forall_mem_cons.mpr ⟨wd_1339, List.forall_mem_cons.mpr ⟨wd_1341, List.forall_mem_cons.mpr ⟨wd_1343, List.forall_mem_cons.mpr ⟨wd_1345, List.forall_mem_cons.mpr ⟨wd_1347, List.forall_mem_cons.mpr ⟨wd_1349, List.forall_mem_cons.mpr ⟨wd_1351, List.forall_mem_cons.mpr ⟨wd_1353, List.forall_mem_cons.mpr ⟨wd_1355, List.forall_mem_cons.mpr ⟨wd_1357, List.forall_mem_cons.mpr ⟨wd_1359, List.forall_mem_cons.mpr ⟨wd_1361, List.forall_mem_cons.mpr ⟨wd_1363, List.forall_mem_cons.mpr ⟨wd_1365, List.forall_mem_cons.mpr ⟨wd_1367, List.forall_mem_cons.mpr ⟨wd_1369, List.forall_mem_cons.mpr ⟨wd_1371, List.forall_mem_cons.mpr ⟨wd_1373, List.forall_mem_cons.mpr ⟨wd_1375, List.forall_mem_cons.mpr ⟨wd_1377, List.forall_mem_cons.mpr ⟨wd_1379, List.forall_mem_cons.mpr ⟨wd_1381, List.forall_mem_cons.mpr ⟨wd_1383, List.forall_mem_cons.mpr ⟨wd_1385, List.forall_mem_cons.mpr ⟨wd_1387, List.forall_mem_cons.mpr ⟨wd_1389, List.forall_mem_cons.mpr ⟨wd_1391, List.forall_mem_cons.mpr ⟨wd_1393, List.forall_mem_cons.mpr ⟨wd_1395, List.forall_mem_cons.mpr ⟨wd_1397, List.forall_mem_cons.mpr ⟨wd_1399, List.forall_mem_cons.mpr ⟨wd_1401, List.forall_mem_cons.mpr ⟨wd_1403, List.forall_mem_cons.mpr ⟨wd_1405, List.forall_mem_cons.mpr ⟨wd_1407, List.forall_mem_cons.mpr ⟨wd_1409, List.forall_mem_cons.mpr ⟨wd_1411, List.forall_mem_cons.mpr ⟨wd_1413, List.forall_mem_cons.mpr ⟨wd_1415, List.forall_mem_cons.mpr ⟨wd_1417, List.forall_mem_cons.mpr ⟨wd_1419, List.forall_mem_cons.mpr ⟨wd_1421, List.forall_mem_cons.mpr ⟨wd_1423, List.forall_mem_cons.mpr ⟨wd_1425, List.forall_mem_cons.mpr ⟨wd_1427, List.forall_mem_cons.mpr ⟨wd_1429, List.forall_mem_cons.mpr ⟨wd_1431, fun _ h => absurd h List.not_mem_nil⟩⟩⟩⟩⟩⟩⟩⟩⟩⟩⟩⟩⟩⟩⟩⟩⟩⟩⟩⟩⟩⟩⟩⟩⟩⟩⟩⟩⟩⟩⟩⟩⟩⟩⟩⟩⟩⟩⟩⟩⟩⟩⟩⟩⟩⟩⟩⟩⟩⟩⟩⟩⟩⟩⟩⟩⟩⟩⟩⟩⟩
