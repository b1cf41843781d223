def R_PF : String := "PolicyForge"
def T_PF : u_T := fun k => match k with
  | 0 => ("PolicyForge", "reader", "LPolicyForge$Reader;", true)
  | 1 => ("PolicyForge", "trialForm", "LPolicyForge$Form;", true)
  | 2 => ("PolicyForge", "trialRow", "LPolicyForge$Row;", true)
  | 3 => ("PolicyForge", "script", "LPolicyForge$Script;", true)
  | 4 => ("PolicyForge", "facts", "LPolicyForge$Facts;", true)
  | 5 => ("PolicyForge", "witness", "LPolicyForge$Row;", true)
  | 6 => ("PolicyForge", "machine", "LPolicyForge$Machine;", true)
  | _ => ("PolicyForge", "policy", "LPolicyForge$Part;", false)
def t_PF : Nat → FieldType := fun k => match k with
  | 0 => .object "PolicyForge$Reader"
  | 1 => .object "PolicyForge$Form"
  | 2 => .object "PolicyForge$Row"
  | 3 => .object "PolicyForge$Script"
  | 4 => .object "PolicyForge$Facts"
  | 5 => .object "PolicyForge$Row"
  | 6 => .object "PolicyForge$Machine"
  | _ => .object "PolicyForge$Part"
theorem n_PF : ∀ a, a < 8 → ∀ b, b < 8 → a ≠ b → (T_PF a).2.1 ≠ (T_PF b).2.1 := by decide +kernel
theorem t_PF_ok : ∀ k, k < 8 → parseFieldDescriptor (T_PF k).2.2.1 = some (t_PF k) := by decide +kernel
def R_RD : String := "PolicyForge$Reader"
def T_RD : u_T := fun k => match k with
  | 0 => ("PolicyForge$Reader", "characters", "[I", true)
  | 1 => ("PolicyForge$Reader", "parts", "[LPolicyForge$Part;", true)
  | 2 => ("PolicyForge$Reader", "spare", "LPolicyForge$Part;", true)
  | 3 => ("PolicyForge$Reader", "length", "I", false)
  | 4 => ("PolicyForge$Reader", "at", "I", false)
  | 5 => ("PolicyForge$Reader", "place", "I", false)
  | 6 => ("PolicyForge$Reader", "leaves", "I", false)
  | _ => ("PolicyForge$Reader", "used", "I", false)
def t_RD : Nat → FieldType := fun k => match k with
  | 0 => .array .int
  | 1 => .array (.object "PolicyForge$Part")
  | 2 => .object "PolicyForge$Part"
  | 3 => .int
  | 4 => .int
  | 5 => .int
  | 6 => .int
  | _ => .int
theorem n_RD : ∀ a, a < 8 → ∀ b, b < 8 → a ≠ b → (T_RD a).2.1 ≠ (T_RD b).2.1 := by decide +kernel
theorem t_RD_ok : ∀ k, k < 8 → parseFieldDescriptor (T_RD k).2.2.1 = some (t_RD k) := by decide +kernel
def R_PT : String := "PolicyForge$Part"
def T_PT : u_T := fun k => match k with
  | 0 => ("PolicyForge$Part", "parts", "[LPolicyForge$Part;", true)
  | 1 => ("PolicyForge$Part", "formB", "LPolicyForge$Form;", true)
  | 2 => ("PolicyForge$Part", "formD", "LPolicyForge$Form;", true)
  | 3 => ("PolicyForge$Part", "formV", "LPolicyForge$Form;", true)
  | 4 => ("PolicyForge$Part", "kind", "I", false)
  | 5 => ("PolicyForge$Part", "number", "I", false)
  | 6 => ("PolicyForge$Part", "count", "I", false)
  | _ => ("PolicyForge$Part", "held", "Z", false)
def t_PT : Nat → FieldType := fun k => match k with
  | 0 => .array (.object "PolicyForge$Part")
  | 1 => .object "PolicyForge$Form"
  | 2 => .object "PolicyForge$Form"
  | 3 => .object "PolicyForge$Form"
  | 4 => .int
  | 5 => .int
  | 6 => .int
  | _ => .boolean
theorem n_PT : ∀ a, a < 8 → ∀ b, b < 8 → a ≠ b → (T_PT a).2.1 ≠ (T_PT b).2.1 := by decide +kernel
theorem t_PT_ok : ∀ k, k < 8 → parseFieldDescriptor (T_PT k).2.2.1 = some (t_PT k) := by decide +kernel
def R_FM : String := "PolicyForge$Form"
def T_FM : u_T := fun k => match k with
  | 0 => ("PolicyForge$Form", "taken", "[LPolicyForge$Form;", true)
  | 1 => ("PolicyForge$Form", "denies", "Z", true)
  | 2 => ("PolicyForge$Form", "refusal", "LPolicyForge$Row;", true)
  | 3 => ("PolicyForge$Form", "lightest", "LPolicyForge$Row;", true)
  | 4 => ("PolicyForge$Form", "rule", "I", false)
  | 5 => ("PolicyForge$Form", "mark", "I", false)
  | 6 => ("PolicyForge$Form", "need", "I", false)
  | 7 => ("PolicyForge$Form", "count", "I", false)
  | 8 => ("PolicyForge$Form", "words", "I", false)
  | _ => ("PolicyForge$Form", "weight", "I", false)
def t_FM : Nat → FieldType := fun k => match k with
  | 0 => .array (.object "PolicyForge$Form")
  | 1 => .boolean
  | 2 => .object "PolicyForge$Row"
  | 3 => .object "PolicyForge$Row"
  | 4 => .int
  | 5 => .int
  | 6 => .int
  | 7 => .int
  | 8 => .int
  | _ => .int
theorem n_FM : ∀ a, a < 10 → ∀ b, b < 10 → a ≠ b → (T_FM a).2.1 ≠ (T_FM b).2.1 := by decide +kernel
theorem t_FM_ok : ∀ k, k < 10 → parseFieldDescriptor (T_FM k).2.2.1 = some (t_FM k) := by decide +kernel
def R_RW : String := "PolicyForge$Row"
def T_RW : u_T := fun k => match k with
  | 0 => ("PolicyForge$Row", "items", "[I", true)
  | 1 => ("PolicyForge$Row", "count", "I", false)
  | 2 => ("PolicyForge$Row", "weight", "I", false)
  | _ => ("PolicyForge$Row", "made", "Z", false)
def t_RW : Nat → FieldType := fun k => match k with
  | 0 => .array .int
  | 1 => .int
  | 2 => .int
  | _ => .boolean
theorem n_RW : ∀ a, a < 4 → ∀ b, b < 4 → a ≠ b → (T_RW a).2.1 ≠ (T_RW b).2.1 := by decide +kernel
theorem t_RW_ok : ∀ k, k < 4 → parseFieldDescriptor (T_RW k).2.2.1 = some (t_RW k) := by decide +kernel
def R_SC : String := "PolicyForge$Script"
def T_SC : u_T := fun k => match k with
  | 0 => ("PolicyForge$Script", "words", "[I", true)
  | 1 => ("PolicyForge$Script", "forms", "[LPolicyForge$Form;", true)
  | 2 => ("PolicyForge$Script", "count", "I", false)
  | _ => ("PolicyForge$Script", "formCount", "I", false)
def t_SC : Nat → FieldType := fun k => match k with
  | 0 => .array .int
  | 1 => .array (.object "PolicyForge$Form")
  | 2 => .int
  | _ => .int
theorem n_SC : ∀ a, a < 4 → ∀ b, b < 4 → a ≠ b → (T_SC a).2.1 ≠ (T_SC b).2.1 := by decide +kernel
theorem t_SC_ok : ∀ k, k < 4 → parseFieldDescriptor (T_SC k).2.2.1 = some (t_SC k) := by decide +kernel
def R_FA : String := "PolicyForge$Facts"
def T_FA : u_T := fun k => match k with
  | 0 => ("PolicyForge$Facts", "keys", "I", false)
  | 1 => ("PolicyForge$Facts", "secrets", "I", false)
  | 2 => ("PolicyForge$Facts", "height", "I", false)
  | _ => ("PolicyForge$Facts", "age", "I", false)
def t_FA : Nat → FieldType := fun k => match k with
  | 0 => .int
  | 1 => .int
  | 2 => .int
  | _ => .int
theorem n_FA : ∀ a, a < 4 → ∀ b, b < 4 → a ≠ b → (T_FA a).2.1 ≠ (T_FA b).2.1 := by decide +kernel
theorem t_FA_ok : ∀ k, k < 4 → parseFieldDescriptor (T_FA k).2.2.1 = some (t_FA k) := by decide +kernel
def R_MA : String := "PolicyForge$Machine"
def T_MA : u_T := fun k => match k with
  | 0 => ("PolicyForge$Machine", "stack", "[I", true)
  | 1 => ("PolicyForge$Machine", "side", "[I", true)
  | 2 => ("PolicyForge$Machine", "depth", "I", false)
  | 3 => ("PolicyForge$Machine", "sideDepth", "I", false)
  | 4 => ("PolicyForge$Machine", "at", "I", false)
  | 5 => ("PolicyForge$Machine", "steps", "I", false)
  | _ => ("PolicyForge$Machine", "failed", "Z", false)
def t_MA : Nat → FieldType := fun k => match k with
  | 0 => .array .int
  | 1 => .array .int
  | 2 => .int
  | 3 => .int
  | 4 => .int
  | 5 => .int
  | _ => .boolean
theorem n_MA : ∀ a, a < 7 → ∀ b, b < 7 → a ≠ b → (T_MA a).2.1 ≠ (T_MA b).2.1 := by decide +kernel
theorem t_MA_ok : ∀ k, k < 7 → parseFieldDescriptor (T_MA k).2.2.1 = some (t_MA k) := by decide +kernel
def R_MO : String := "PolicyForgeModel"
def T_MO : u_T := fun k => match k with
  | 0 => ("PolicyForgeModel", "thrownCode", "I", false)
  | 1 => ("PolicyForgeModel", "typed", "[I", true)
  | 2 => ("PolicyForgeModel", "typedCount", "I", false)
  | 3 => ("PolicyForgeModel", "faultNow", "I", false)
  | 4 => ("PolicyForgeModel", "there", "Z", false)
  | 5 => ("PolicyForgeModel", "parts", "I", false)
  | 6 => ("PolicyForgeModel", "leaves", "I", false)
  | 7 => ("PolicyForgeModel", "kind", "[I", true)
  | 8 => ("PolicyForgeModel", "arg", "[I", true)
  | 9 => ("PolicyForgeModel", "count", "[I", true)
  | 10 => ("PolicyForgeModel", "child", "[I", true)
  | 11 => ("PolicyForgeModel", "way", "[I", true)
  | 12 => ("PolicyForgeModel", "length", "[I", true)
  | 13 => ("PolicyForgeModel", "weight", "[I", true)
  | 14 => ("PolicyForgeModel", "noWeight", "[I", true)
  | 15 => ("PolicyForgeModel", "script", "[I", true)
  | 16 => ("PolicyForgeModel", "written", "I", false)
  | 17 => ("PolicyForgeModel", "base", "I", false)
  | 18 => ("PolicyForgeModel", "tryLength", "I", false)
  | 19 => ("PolicyForgeModel", "tryWeight", "I", false)
  | 20 => ("PolicyForgeModel", "sat", "[I", true)
  | 21 => ("PolicyForgeModel", "satLength", "[I", true)
  | 22 => ("PolicyForgeModel", "satWeight", "[I", true)
  | 23 => ("PolicyForgeModel", "dis", "[I", true)
  | 24 => ("PolicyForgeModel", "disLength", "[I", true)
  | 25 => ("PolicyForgeModel", "row", "[I", true)
  | 26 => ("PolicyForgeModel", "rowLength", "I", false)
  | 27 => ("PolicyForgeModel", "rowWeight", "I", false)
  | 28 => ("PolicyForgeModel", "best", "[I", true)
  | 29 => ("PolicyForgeModel", "bestLength", "I", false)
  | 30 => ("PolicyForgeModel", "bestWeight", "I", false)
  | 31 => ("PolicyForgeModel", "witness", "[I", true)
  | 32 => ("PolicyForgeModel", "items", "I", false)
  | 33 => ("PolicyForgeModel", "doneNow", "I", false)
  | 34 => ("PolicyForgeModel", "stack", "[I", true)
  | 35 => ("PolicyForgeModel", "high", "I", false)
  | 36 => ("PolicyForgeModel", "side", "[I", true)
  | 37 => ("PolicyForgeModel", "sides", "I", false)
  | 38 => ("PolicyForgeModel", "open", "[I", true)
  | 39 => ("PolicyForgeModel", "opens", "I", false)
  | 40 => ("PolicyForgeModel", "failed", "Z", false)
  | 41 => ("PolicyForgeModel", "letters", "I", false)
  | 42 => ("PolicyForgeModel", "bad", "Z", false)
  | _ => ("PolicyForgeModel", "truth", "[Z", true)
def t_MO : Nat → FieldType := fun k => match k with
  | 0 => .int
  | 1 => .array .int
  | 2 => .int
  | 3 => .int
  | 4 => .boolean
  | 5 => .int
  | 6 => .int
  | 7 => .array .int
  | 8 => .array .int
  | 9 => .array .int
  | 10 => .array .int
  | 11 => .array .int
  | 12 => .array .int
  | 13 => .array .int
  | 14 => .array .int
  | 15 => .array .int
  | 16 => .int
  | 17 => .int
  | 18 => .int
  | 19 => .int
  | 20 => .array .int
  | 21 => .array .int
  | 22 => .array .int
  | 23 => .array .int
  | 24 => .array .int
  | 25 => .array .int
  | 26 => .int
  | 27 => .int
  | 28 => .array .int
  | 29 => .int
  | 30 => .int
  | 31 => .array .int
  | 32 => .int
  | 33 => .int
  | 34 => .array .int
  | 35 => .int
  | 36 => .array .int
  | 37 => .int
  | 38 => .array .int
  | 39 => .int
  | 40 => .boolean
  | 41 => .int
  | 42 => .boolean
  | _ => .array .boolean
theorem n_MO : ∀ a, a < 44 → ∀ b, b < 44 → a ≠ b → (T_MO a).2.1 ≠ (T_MO b).2.1 := by decide +kernel
theorem t_MO_ok : ∀ k, k < 44 → parseFieldDescriptor (T_MO k).2.2.1 = some (t_MO k) := by decide +kernel
abbrev vwCl : List vw_C := [(R_PF, T_PF, 8), (R_RD, T_RD, 8), (R_PT, T_PT, 8), (R_FM, T_FM, 10), (R_RW, T_RW, 4), (R_SC, T_SC, 4), (R_FA, T_FA, 4), (R_MA, T_MA, 7), (R_MO, T_MO, 44)]
/-! kinds: 0 PolicyForge, 1 Reader, 2 Part, 3 Form, 4 Row, 5 Script, 6 Facts, 7 Machine, 8 Row.items, 9 Form.taken, 10 Part.parts, 11 Reader.characters, 12 Reader.parts, 13 Script.words, 14 Script.forms, 15 Machine.stack, 16 Machine.side, 17 the reference, 18 its arrays of ints, 19 its array of booleans, 20 out -/
def ab_tag (c : Nat) : Nat := ([0, 0, 0, 0, 0, 0, 0, 0, 1, 3, 3, 1, 3, 1, 3, 1, 1, 0, 1, 1, 2] : List Nat).getD c 9
def ab_ci (c : Nat) : Nat := ([0, 1, 2, 3, 4, 5, 6, 7, 0, 3, 4, 0, 4, 0, 3, 0, 0, 8, 0, 1, 2] : List Nat).getD c 99
def ab_ts (c : Nat) : List Nat := ([[1, 1, 1, 1, 1, 1, 1, 1], [1, 1, 1, 0, 0, 0, 0, 0], [1, 1, 1, 1, 0, 0, 0, 0], [1, 0, 1, 1, 0, 0, 0, 0, 0, 0], [1, 0, 0, 0], [1, 1, 0, 0], [0, 0, 0, 0], [1, 1, 0, 0, 0, 0, 0], [], [], [], [], [], [], [], [], [], [0, 1, 0, 0, 0, 0, 0, 1, 1, 1, 1, 1, 1, 1, 1, 1, 0, 0, 0, 0, 1, 1, 1, 1, 1, 1, 0, 0, 1, 0, 0, 1, 0, 0, 1, 0, 1, 0, 1, 0, 0, 0, 0, 1]] : List (List Nat)).getD c []
def ab_ln (c i : Nat) : Nat := if c = 8 then (if i < 122 ∧ i % 2 = 1 ∧ i / 2 % 3 ≠ 1 then 0 else 40) else if c = 18 then ([100, 40, 40, 40, 160, 72, 72, 72, 24, 7200, 3600, 72, 72, 1200, 24, 64, 64, 64, 128, 64, 40] : List Nat).getD i 0 else ([0, 0, 0, 0, 0, 0, 0, 0, 40, 4, 4, 120, 19, 128, 38, 168, 128, 0, 0, 24, 1] : List Nat).getD c 0
def ab_tys (ca : Nat → ClassId) : List (ClassId × FieldType) := [(ca 0, .int), (ca 1, .boolean), (ca 2, .long), (ca 3, .object R_FM), (ca 4, .object R_PT)]
/-- the words that every contract asks of the tables -/
def ab_T : List Cond := lw_tbl.filter goodWord
theorem ab_T_good : GoodIn ab_T ab_T := fun w h => ⟨h, good_of_word (List.mem_filter.mp h).2⟩
theorem ab_in {w : Cond} (i : Nat) (h : lw_tbl[i]? = some w) (g : goodWord w = true) : w ∈ ab_T := List.mem_filter.mpr ⟨List.mem_of_getElem? h, g⟩
theorem ab_tw {args : Array Value} {s : State} (h : ∀ w ∈ lw_tbl, w.before args s = true) : ∀ w ∈ ab_T, w.before args s = true := fun w hw => h w (List.mem_filter.mp hw).1
