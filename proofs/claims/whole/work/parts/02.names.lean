/-! names of the classes and methods, their fields, the words of the tables that methods use (out of the printed names, by a program) -/
def RX0 : String := "LinkerYard$Inputs"
def TX0 : u_T := fun k => match k with
  | 0 => ("LinkerYard$Inputs", "objects", "LLinkerYard$Table;", true)
  | 1 => ("LinkerYard$Inputs", "sections", "LLinkerYard$Table;", true)
  | 2 => ("LinkerYard$Inputs", "definitions", "LLinkerYard$Table;", true)
  | 3 => ("LinkerYard$Inputs", "commons", "LLinkerYard$Table;", true)
  | _ => ("LinkerYard$Inputs", "references", "LLinkerYard$Table;", true)
def tyX0 : Nat → FieldType := fun k => match k with
  | 0 => .object "LinkerYard$Table"
  | 1 => .object "LinkerYard$Table"
  | 2 => .object "LinkerYard$Table"
  | 3 => .object "LinkerYard$Table"
  | _ => .object "LinkerYard$Table"
theorem nmX0 : ∀ a, a < 5 → ∀ b, b < 5 → a ≠ b → (TX0 a).2.1 ≠ (TX0 b).2.1 := by decide +kernel
theorem tyX0_ok : ∀ k, k < 5 → parseFieldDescriptor (TX0 k).2.2.1 = some (tyX0 k) := by decide +kernel
def RX1 : String := "LinkerYard$Layout"
def TX1 : u_T := fun k => match k with
  | 0 => ("LinkerYard$Layout", "inputs", "LLinkerYard$Inputs;", true)
  | 1 => ("LinkerYard$Layout", "selection", "LLinkerYard$Selection;", true)
  | 2 => ("LinkerYard$Layout", "steads", "LLinkerYard$Row;", true)
  | 3 => ("LinkerYard$Layout", "starts", "LLinkerYard$Row;", true)
  | 4 => ("LinkerYard$Layout", "commonStarts", "LLinkerYard$Row;", true)
  | 5 => ("LinkerYard$Layout", "islandTable", "LLinkerYard$Table;", true)
  | 6 => ("LinkerYard$Layout", "codeStop", "I", false)
  | _ => ("LinkerYard$Layout", "dataStop", "I", false)
def tyX1 : Nat → FieldType := fun k => match k with
  | 0 => .object "LinkerYard$Inputs"
  | 1 => .object "LinkerYard$Selection"
  | 2 => .object "LinkerYard$Row"
  | 3 => .object "LinkerYard$Row"
  | 4 => .object "LinkerYard$Row"
  | 5 => .object "LinkerYard$Table"
  | 6 => .int
  | _ => .int
theorem nmX1 : ∀ a, a < 8 → ∀ b, b < 8 → a ≠ b → (TX1 a).2.1 ≠ (TX1 b).2.1 := by decide +kernel
theorem tyX1_ok : ∀ k, k < 8 → parseFieldDescriptor (TX1 k).2.2.1 = some (tyX1 k) := by decide +kernel
def RX2 : String := "LinkerYard$Libraries"
def TX2 : u_T := fun k => match k with
  | 0 => ("LinkerYard$Libraries", "versions", "LLinkerYard$Table;", true)
  | 1 => ("LinkerYard$Libraries", "needs", "LLinkerYard$Table;", true)
  | 2 => ("LinkerYard$Libraries", "counts", "LLinkerYard$Row;", true)
  | 3 => ("LinkerYard$Libraries", "order", "LLinkerYard$Table;", true)
  | 4 => ("LinkerYard$Libraries", "underway", "LLinkerYard$Row;", true)
  | 5 => ("LinkerYard$Libraries", "bound", "LLinkerYard$Table;", true)
  | 6 => ("LinkerYard$Libraries", "plannedCounts", "LLinkerYard$Row;", true)
  | _ => ("LinkerYard$Libraries", "leaving", "LLinkerYard$Row;", true)
def tyX2 : Nat → FieldType := fun k => match k with
  | 0 => .object "LinkerYard$Table"
  | 1 => .object "LinkerYard$Table"
  | 2 => .object "LinkerYard$Row"
  | 3 => .object "LinkerYard$Table"
  | 4 => .object "LinkerYard$Row"
  | 5 => .object "LinkerYard$Table"
  | 6 => .object "LinkerYard$Row"
  | _ => .object "LinkerYard$Row"
theorem nmX2 : ∀ a, a < 8 → ∀ b, b < 8 → a ≠ b → (TX2 a).2.1 ≠ (TX2 b).2.1 := by decide +kernel
theorem tyX2_ok : ∀ k, k < 8 → parseFieldDescriptor (TX2 k).2.2.1 = some (tyX2 k) := by decide +kernel
def RX3 : String := "LinkerYard$Row"
def TX3 : u_T := fun k => match k with
  | _ => ("LinkerYard$Row", "cells", "[I", true)
def tyX3 : Nat → FieldType := fun k => match k with
  | _ => .array .int
theorem nmX3 : ∀ a, a < 1 → ∀ b, b < 1 → a ≠ b → (TX3 a).2.1 ≠ (TX3 b).2.1 := by decide +kernel
theorem tyX3_ok : ∀ k, k < 1 → parseFieldDescriptor (TX3 k).2.2.1 = some (tyX3 k) := by decide +kernel
def RX4 : String := "LinkerYard$Runner"
def TX4 : u_T := fun k => match k with
  | 0 => ("LinkerYard$Runner", "inputs", "LLinkerYard$Inputs;", true)
  | 1 => ("LinkerYard$Runner", "selection", "LLinkerYard$Selection;", true)
  | 2 => ("LinkerYard$Runner", "layout", "LLinkerYard$Layout;", true)
  | 3 => ("LinkerYard$Runner", "frames", "LLinkerYard$Table;", true)
  | 4 => ("LinkerYard$Runner", "depth", "I", false)
  | 5 => ("LinkerYard$Runner", "output", "I", false)
  | _ => ("LinkerYard$Runner", "begun", "I", false)
def tyX4 : Nat → FieldType := fun k => match k with
  | 0 => .object "LinkerYard$Inputs"
  | 1 => .object "LinkerYard$Selection"
  | 2 => .object "LinkerYard$Layout"
  | 3 => .object "LinkerYard$Table"
  | 4 => .int
  | 5 => .int
  | _ => .int
theorem nmX4 : ∀ a, a < 7 → ∀ b, b < 7 → a ≠ b → (TX4 a).2.1 ≠ (TX4 b).2.1 := by decide +kernel
theorem tyX4_ok : ∀ k, k < 7 → parseFieldDescriptor (TX4 k).2.2.1 = some (tyX4 k) := by decide +kernel
def RX5 : String := "LinkerYard$Selection"
def TX5 : u_T := fun k => match k with
  | 0 => ("LinkerYard$Selection", "inputs", "LLinkerYard$Inputs;", true)
  | 1 => ("LinkerYard$Selection", "taken", "LLinkerYard$Row;", true)
  | 2 => ("LinkerYard$Selection", "open", "LLinkerYard$Row;", true)
  | 3 => ("LinkerYard$Selection", "standing", "LLinkerYard$Row;", true)
  | 4 => ("LinkerYard$Selection", "goals", "LLinkerYard$Row;", true)
  | 5 => ("LinkerYard$Selection", "living", "LLinkerYard$Row;", true)
  | 6 => ("LinkerYard$Selection", "livingCommons", "LLinkerYard$Row;", true)
  | _ => ("LinkerYard$Selection", "rootGoal", "I", false)
def tyX5 : Nat → FieldType := fun k => match k with
  | 0 => .object "LinkerYard$Inputs"
  | 1 => .object "LinkerYard$Row"
  | 2 => .object "LinkerYard$Row"
  | 3 => .object "LinkerYard$Row"
  | 4 => .object "LinkerYard$Row"
  | 5 => .object "LinkerYard$Row"
  | 6 => .object "LinkerYard$Row"
  | _ => .int
theorem nmX5 : ∀ a, a < 8 → ∀ b, b < 8 → a ≠ b → (TX5 a).2.1 ≠ (TX5 b).2.1 := by decide +kernel
theorem tyX5_ok : ∀ k, k < 8 → parseFieldDescriptor (TX5 k).2.2.1 = some (tyX5 k) := by decide +kernel
def RX6 : String := "LinkerYard$Table"
def TX6 : u_T := fun k => match k with
  | 0 => ("LinkerYard$Table", "cells", "[I", true)
  | 1 => ("LinkerYard$Table", "most", "I", true)
  | 2 => ("LinkerYard$Table", "width", "I", true)
  | _ => ("LinkerYard$Table", "rows", "I", false)
def tyX6 : Nat → FieldType := fun k => match k with
  | 0 => .array .int
  | 1 => .int
  | 2 => .int
  | _ => .int
theorem nmX6 : ∀ a, a < 4 → ∀ b, b < 4 → a ≠ b → (TX6 a).2.1 ≠ (TX6 b).2.1 := by decide +kernel
theorem tyX6_ok : ∀ k, k < 4 → parseFieldDescriptor (TX6 k).2.2.1 = some (tyX6 k) := by decide +kernel
def RX7 : String := "LinkerYard"
def TX7 : u_T := fun k => match k with
  | 0 => ("LinkerYard", "inputs", "LLinkerYard$Inputs;", true)
  | 1 => ("LinkerYard", "selection", "LLinkerYard$Selection;", true)
  | 2 => ("LinkerYard", "layout", "LLinkerYard$Layout;", true)
  | 3 => ("LinkerYard", "runner", "LLinkerYard$Runner;", true)
  | 4 => ("LinkerYard", "libraries", "LLinkerYard$Libraries;", true)
  | 5 => ("LinkerYard", "codeRoom", "I", false)
  | 6 => ("LinkerYard", "dataRoom", "I", false)
  | 7 => ("LinkerYard", "reach", "I", false)
  | 8 => ("LinkerYard", "isLinked", "Z", false)
  | _ => ("LinkerYard", "refusals", "I", false)
def tyX7 : Nat → FieldType := fun k => match k with
  | 0 => .object "LinkerYard$Inputs"
  | 1 => .object "LinkerYard$Selection"
  | 2 => .object "LinkerYard$Layout"
  | 3 => .object "LinkerYard$Runner"
  | 4 => .object "LinkerYard$Libraries"
  | 5 => .int
  | 6 => .int
  | 7 => .int
  | 8 => .boolean
  | _ => .int
theorem nmX7 : ∀ a, a < 10 → ∀ b, b < 10 → a ≠ b → (TX7 a).2.1 ≠ (TX7 b).2.1 := by decide +kernel
theorem tyX7_ok : ∀ k, k < 10 → parseFieldDescriptor (TX7 k).2.2.1 = some (tyX7 k) := by decide +kernel
def RX8 : String := "LinkerYardModel"
def TX8 : u_T := fun k => match k with
  | 0 => ("LinkerYardModel", "isMember", "[Z", true)
  | 1 => ("LinkerYardModel", "objects", "I", false)
  | 2 => ("LinkerYardModel", "object", "[I", true)
  | 3 => ("LinkerYardModel", "isCode", "[Z", true)
  | 4 => ("LinkerYardModel", "sizes", "[I", true)
  | 5 => ("LinkerYardModel", "alignments", "[I", true)
  | 6 => ("LinkerYardModel", "contents", "[I", true)
  | 7 => ("LinkerYardModel", "isKept", "[Z", true)
  | 8 => ("LinkerYardModel", "sections", "I", false)
  | 9 => ("LinkerYardModel", "defSection", "[I", true)
  | 10 => ("LinkerYardModel", "defName", "[I", true)
  | 11 => ("LinkerYardModel", "defOffset", "[I", true)
  | 12 => ("LinkerYardModel", "defStrength", "[C", true)
  | 13 => ("LinkerYardModel", "definitions", "I", false)
  | 14 => ("LinkerYardModel", "commons", "[I", true)
  | 15 => ("LinkerYardModel", "refSection", "[I", true)
  | 16 => ("LinkerYardModel", "refOffset", "[I", true)
  | 17 => ("LinkerYardModel", "refName", "[I", true)
  | 18 => ("LinkerYardModel", "refKind", "[C", true)
  | 19 => ("LinkerYardModel", "references", "I", false)
  | 20 => ("LinkerYardModel", "codeRoom", "I", false)
  | 21 => ("LinkerYardModel", "dataRoom", "I", false)
  | 22 => ("LinkerYardModel", "reach", "I", false)
  | 23 => ("LinkerYardModel", "isLinked", "Z", false)
  | 24 => ("LinkerYardModel", "root", "I", false)
  | 25 => ("LinkerYardModel", "isTaken", "[Z", true)
  | 26 => ("LinkerYardModel", "stands", "[I", true)
  | 27 => ("LinkerYardModel", "goals", "[I", true)
  | 28 => ("LinkerYardModel", "isAlive", "[Z", true)
  | 29 => ("LinkerYardModel", "isCommonAlive", "[Z", true)
  | 30 => ("LinkerYardModel", "folded", "[I", true)
  | 31 => ("LinkerYardModel", "addresses", "[I", true)
  | 32 => ("LinkerYardModel", "commonAddress", "[I", true)
  | 33 => ("LinkerYardModel", "islandOf", "[I", true)
  | 34 => ("LinkerYardModel", "islandsIn", "[I", true)
  | 35 => ("LinkerYardModel", "codeEnd", "I", false)
  | 36 => ("LinkerYardModel", "dataEnd", "I", false)
  | 37 => ("LinkerYardModel", "output", "I", false)
  | 38 => ("LinkerYardModel", "steps", "I", false)
  | 39 => ("LinkerYardModel", "provided", "[I", true)
  | 40 => ("LinkerYardModel", "needs", "[Z", true)
  | 41 => ("LinkerYardModel", "counts", "[I", true)
  | 42 => ("LinkerYardModel", "standing", "[I", true)
  | 43 => ("LinkerYardModel", "stood", "I", false)
  | 44 => ("LinkerYardModel", "isPutting", "[Z", true)
  | 45 => ("LinkerYardModel", "libraries", "I", false)
  | 46 => ("LinkerYardModel", "bound", "[I", true)
  | 47 => ("LinkerYardModel", "trial", "[I", true)
  | 48 => ("LinkerYardModel", "leaves", "[Z", true)
  | 49 => ("LinkerYardModel", "refused", "I", false)
  | _ => ("LinkerYardModel", "thrown", "I", false)
def tyX8 : Nat → FieldType := fun k => match k with
  | 0 => .array .boolean
  | 1 => .int
  | 2 => .array .int
  | 3 => .array .boolean
  | 4 => .array .int
  | 5 => .array .int
  | 6 => .array .int
  | 7 => .array .boolean
  | 8 => .int
  | 9 => .array .int
  | 10 => .array .int
  | 11 => .array .int
  | 12 => .array .char
  | 13 => .int
  | 14 => .array .int
  | 15 => .array .int
  | 16 => .array .int
  | 17 => .array .int
  | 18 => .array .char
  | 19 => .int
  | 20 => .int
  | 21 => .int
  | 22 => .int
  | 23 => .boolean
  | 24 => .int
  | 25 => .array .boolean
  | 26 => .array .int
  | 27 => .array .int
  | 28 => .array .boolean
  | 29 => .array .boolean
  | 30 => .array .int
  | 31 => .array .int
  | 32 => .array .int
  | 33 => .array .int
  | 34 => .array .int
  | 35 => .int
  | 36 => .int
  | 37 => .int
  | 38 => .int
  | 39 => .array .int
  | 40 => .array .boolean
  | 41 => .array .int
  | 42 => .array .int
  | 43 => .int
  | 44 => .array .boolean
  | 45 => .int
  | 46 => .array .int
  | 47 => .array .int
  | 48 => .array .boolean
  | 49 => .int
  | _ => .int
theorem nmX8 : ∀ a, a < 51 → ∀ b, b < 51 → a ≠ b → (TX8 a).2.1 ≠ (TX8 b).2.1 := by decide +kernel
theorem tyX8_ok : ∀ k, k < 51 → parseFieldDescriptor (TX8 k).2.2.1 = some (tyX8 k) := by decide +kernel
def yX0_init : MethodName := ⟨RX0, "<init>", "()V"⟩
def yX0_insertObject : MethodName := ⟨RX0, "insertObject", "(Z)I"⟩
def yX0_insertSection : MethodName := ⟨RX0, "insertSection", "(IZIIIZ)I"⟩
def yX0_insertDefinition : MethodName := ⟨RX0, "insertDefinition", "(IIIC)V"⟩
def yX0_insertCommon : MethodName := ⟨RX0, "insertCommon", "(III)V"⟩
def yX0_insertReference : MethodName := ⟨RX0, "insertReference", "(IIIC)I"⟩
def yX0_isMemberObject : MethodName := ⟨RX0, "isMemberObject", "(I)Z"⟩
def yX0_objectOf : MethodName := ⟨RX0, "objectOf", "(I)I"⟩
def yX0_isCodeSection : MethodName := ⟨RX0, "isCodeSection", "(I)Z"⟩
def yX0_sizeOf : MethodName := ⟨RX0, "sizeOf", "(I)I"⟩
def yX0_alignmentOf : MethodName := ⟨RX0, "alignmentOf", "(I)I"⟩
def yX0_contentOf : MethodName := ⟨RX0, "contentOf", "(I)I"⟩
def yX0_isKeptSection : MethodName := ⟨RX0, "isKeptSection", "(I)Z"⟩
def yX0_isOffset : MethodName := ⟨RX0, "isOffset", "(II)Z"⟩
def yX0_definerOf : MethodName := ⟨RX0, "definerOf", "(I)I"⟩
def yX0_nameDefined : MethodName := ⟨RX0, "nameDefined", "(I)I"⟩
def yX0_offsetDefined : MethodName := ⟨RX0, "offsetDefined", "(I)I"⟩
def yX0_strengthOf : MethodName := ⟨RX0, "strengthOf", "(I)I"⟩
def yX0_objectDefining : MethodName := ⟨RX0, "objectDefining", "(I)I"⟩
def yX0_isDefinedIn : MethodName := ⟨RX0, "isDefinedIn", "(II)Z"⟩
def yX0_definitionsOf : MethodName := ⟨RX0, "definitionsOf", "(I)I"⟩
def yX0_localDefinition : MethodName := ⟨RX0, "localDefinition", "(II)I"⟩
def yX0_commonObject : MethodName := ⟨RX0, "commonObject", "(I)I"⟩
def yX0_commonName : MethodName := ⟨RX0, "commonName", "(I)I"⟩
def yX0_commonSize : MethodName := ⟨RX0, "commonSize", "(I)I"⟩
def yX0_hasCommon : MethodName := ⟨RX0, "hasCommon", "(II)Z"⟩
def yX0_commonsFor : MethodName := ⟨RX0, "commonsFor", "(I)I"⟩
def yX0_sectionOf : MethodName := ⟨RX0, "sectionOf", "(I)I"⟩
def yX0_offsetOf : MethodName := ⟨RX0, "offsetOf", "(I)I"⟩
def yX0_nameOf : MethodName := ⟨RX0, "nameOf", "(I)I"⟩
def yX0_isCall : MethodName := ⟨RX0, "isCall", "(I)Z"⟩
def yX0_takesReference : MethodName := ⟨RX0, "takesReference", "(II)Z"⟩
def yX0_nextReference : MethodName := ⟨RX0, "nextReference", "(II)I"⟩
def yX1_init : MethodName := ⟨RX1, "<init>", "(LLinkerYard$Inputs;LLinkerYard$Selection;)V"⟩
def yX1_isLaid : MethodName := ⟨RX1, "isLaid", "(I)Z"⟩
def yX1_fold : MethodName := ⟨RX1, "fold", "()V"⟩
def yX1_searchStead : MethodName := ⟨RX1, "searchStead", "(I)I"⟩
def yX1_isFoldable : MethodName := ⟨RX1, "isFoldable", "(I)Z"⟩
def yX1_areAlike : MethodName := ⟨RX1, "areAlike", "(II)Z"⟩
def yX1_areReferencesAlike : MethodName := ⟨RX1, "areReferencesAlike", "(II)Z"⟩
def yX1_settle : MethodName := ⟨RX1, "settle", "(I)V"⟩
def yX1_layAll : MethodName := ⟨RX1, "layAll", "()V"⟩
def yX1_laySections : MethodName := ⟨RX1, "laySections", "(ZI)I"⟩
def yX1_layIslands : MethodName := ⟨RX1, "layIslands", "(II)I"⟩
def yX1_layCommons : MethodName := ⟨RX1, "layCommons", "(I)I"⟩
def yX1_alignedUp : MethodName := ⟨RX1, "alignedUp", "(II)I"⟩
def yX1_startOf : MethodName := ⟨RX1, "startOf", "(I)I"⟩
def yX1_goalStart : MethodName := ⟨RX1, "goalStart", "(I)I"⟩
def yX1_placeOf : MethodName := ⟨RX1, "placeOf", "(I)I"⟩
def yX1_islandFor : MethodName := ⟨RX1, "islandFor", "(I)I"⟩
def yX1_islandAt : MethodName := ⟨RX1, "islandAt", "(I)I"⟩
def yX1_firstUnreached : MethodName := ⟨RX1, "firstUnreached", "(I)I"⟩
def yX1_isUnreached : MethodName := ⟨RX1, "isUnreached", "(II)Z"⟩
def yX1_value : MethodName := ⟨RX1, "value", "(I)I"⟩
def yX1_sumOfValues : MethodName := ⟨RX1, "sumOfValues", "()J"⟩
def yX1_arrivalOf : MethodName := ⟨RX1, "arrivalOf", "(I)I"⟩
def yX1_codeSectionAt : MethodName := ⟨RX1, "codeSectionAt", "(I)I"⟩
def yX1_keptSection : MethodName := ⟨RX1, "keptSection", "(I)I"⟩
def yX1_searchedSection : MethodName := ⟨RX1, "searchedSection", "(I)I"⟩
def yX1_areTargetsAgreed : MethodName := ⟨RX1, "areTargetsAgreed", "()Z"⟩
def yX1_areSpansApart : MethodName := ⟨RX1, "areSpansApart", "()Z"⟩
def yX1_spanStart : MethodName := ⟨RX1, "spanStart", "(I)I"⟩
def yX1_spanSize : MethodName := ⟨RX1, "spanSize", "(I)I"⟩
def yX1_sectionsLaid : MethodName := ⟨RX1, "sectionsLaid", "()I"⟩
def yX1_sizeLaid : MethodName := ⟨RX1, "sizeLaid", "()I"⟩
def yX2_init : MethodName := ⟨RX2, "<init>", "()V"⟩
def yX2_isFull : MethodName := ⟨RX2, "isFull", "()Z"⟩
def yX2_insert : MethodName := ⟨RX2, "insert", "()I"⟩
def yX2_isLoaded : MethodName := ⟨RX2, "isLoaded", "(I)Z"⟩
def yX2_isNeeding : MethodName := ⟨RX2, "isNeeding", "(II)Z"⟩
def yX2_needsOf : MethodName := ⟨RX2, "needsOf", "(I)I"⟩
def yX2_raise : MethodName := ⟨RX2, "raise", "(I)I"⟩
def yX2_putOn : MethodName := ⟨RX2, "putOn", "(LLinkerYard$Libraries;II)V"⟩
def yX2_raiseNeeded : MethodName := ⟨RX2, "raiseNeeded", "(I)V"⟩
def yX2_planLowering : MethodName := ⟨RX2, "planLowering", "(I)I"⟩
def yX2_lower : MethodName := ⟨RX2, "lower", "(LLinkerYard$Libraries;II)I"⟩
def yX2_isLeavingBound : MethodName := ⟨RX2, "isLeavingBound", "()Z"⟩
def yX2_carryOutPlan : MethodName := ⟨RX2, "carryOutPlan", "()V"⟩
def yX2_dropBindings : MethodName := ⟨RX2, "dropBindings", "()V"⟩
def yX2_boundTo : MethodName := ⟨RX2, "boundTo", "(III)I"⟩
def yX2_firstProvider : MethodName := ⟨RX2, "firstProvider", "(II)I"⟩
def yX2_keepBinding : MethodName := ⟨RX2, "keepBinding", "(IIII)V"⟩
def yX2_bindingsKept : MethodName := ⟨RX2, "bindingsKept", "()I"⟩
def yX3_init : MethodName := ⟨RX3, "<init>", "(I)V"⟩
def yX3_get : MethodName := ⟨RX3, "get", "(I)I"⟩
def yX3_set : MethodName := ⟨RX3, "set", "(II)V"⟩
def yX3_fill : MethodName := ⟨RX3, "fill", "(I)V"⟩
def yX4_init : MethodName := ⟨RX4, "<init>", "(LLinkerYard$Inputs;LLinkerYard$Selection;LLinkerYard$Layout;)V"⟩
def yX4_perform : MethodName := ⟨RX4, "perform", "(Z)V"⟩
def yX4_enter : MethodName := ⟨RX4, "enter", "(I)V"⟩
def yX4_mix : MethodName := ⟨RX4, "mix", "(I)V"⟩
def yX4_advance : MethodName := ⟨RX4, "advance", "(Z)V"⟩
def yX5_init : MethodName := ⟨RX5, "<init>", "(LLinkerYard$Inputs;)V"⟩
def yX5_takes : MethodName := ⟨RX5, "takes", "(I)Z"⟩
def yX5_lives : MethodName := ⟨RX5, "lives", "(I)Z"⟩
def yX5_isLivingGoal : MethodName := ⟨RX5, "isLivingGoal", "(I)Z"⟩
def yX5_takeObjects : MethodName := ⟨RX5, "takeObjects", "(I)V"⟩
def yX5_markOpenNames : MethodName := ⟨RX5, "markOpenNames", "(I)V"⟩
def yX5_isAnswered : MethodName := ⟨RX5, "isAnswered", "(I)Z"⟩
def yX5_isAskedFor : MethodName := ⟨RX5, "isAskedFor", "(I)Z"⟩
def yX5_lowestWanted : MethodName := ⟨RX5, "lowestWanted", "()I"⟩
def yX5_lowerWanted : MethodName := ⟨RX5, "lowerWanted", "(III)I"⟩
def yX5_hasDouble : MethodName := ⟨RX5, "hasDouble", "()Z"⟩
def yX5_resolve : MethodName := ⟨RX5, "resolve", "(I)V"⟩
def yX5_searchGoal : MethodName := ⟨RX5, "searchGoal", "(I)I"⟩
def yX5_searchStanding : MethodName := ⟨RX5, "searchStanding", "(I)I"⟩
def yX5_lowestTaken : MethodName := ⟨RX5, "lowestTaken", "(IC)I"⟩
def yX5_greatestCommon : MethodName := ⟨RX5, "greatestCommon", "(I)I"⟩
def yX5_enliven : MethodName := ⟨RX5, "enliven", "()V"⟩
def yX5_enlivenGoal : MethodName := ⟨RX5, "enlivenGoal", "(I)V"⟩
def yX5_lacksGoal : MethodName := ⟨RX5, "lacksGoal", "()Z"⟩
def yX5_codeSectionOf : MethodName := ⟨RX5, "codeSectionOf", "(I)I"⟩
def yX6_init : MethodName := ⟨RX6, "<init>", "(II)V"⟩
def yX6_isFull : MethodName := ⟨RX6, "isFull", "()Z"⟩
def yX6_has : MethodName := ⟨RX6, "has", "(I)Z"⟩
def yX6_add : MethodName := ⟨RX6, "add", "()I"⟩
def yX6_keep : MethodName := ⟨RX6, "keep", "(I)V"⟩
def yX6_get : MethodName := ⟨RX6, "get", "(II)I"⟩
def yX6_set : MethodName := ⟨RX6, "set", "(III)V"⟩
def yX7_init : MethodName := ⟨RX7, "<init>", "()V"⟩
def yX7_addObject : MethodName := ⟨RX7, "addObject", "(Z)I"⟩
def yX7_addSection : MethodName := ⟨RX7, "addSection", "(IZIIIZ)I"⟩
def yX7_define : MethodName := ⟨RX7, "define", "(IIIC)I"⟩
def yX7_addCommon : MethodName := ⟨RX7, "addCommon", "(III)I"⟩
def yX7_refer : MethodName := ⟨RX7, "refer", "(IIIC)I"⟩
def yX7_setRooms : MethodName := ⟨RX7, "setRooms", "(II)I"⟩
def yX7_setReach : MethodName := ⟨RX7, "setReach", "(I)I"⟩
def yX7_link : MethodName := ⟨RX7, "link", "(I)C"⟩
def yX7_isTaken : MethodName := ⟨RX7, "isTaken", "(I)Z"⟩
def yX7_fate : MethodName := ⟨RX7, "fate", "(I)C"⟩
def yX7_address : MethodName := ⟨RX7, "address", "(I)I"⟩
def yX7_addressOf : MethodName := ⟨RX7, "addressOf", "(I)I"⟩
def yX7_target : MethodName := ⟨RX7, "target", "(I)I"⟩
def yX7_targetAnew : MethodName := ⟨RX7, "targetAnew", "(I)I"⟩
def yX7_valueOf : MethodName := ⟨RX7, "valueOf", "(I)I"⟩
def yX7_hasIsland : MethodName := ⟨RX7, "hasIsland", "(I)Z"⟩
def yX7_islands : MethodName := ⟨RX7, "islands", "()I"⟩
def yX7_codeEnd : MethodName := ⟨RX7, "codeEnd", "()I"⟩
def yX7_dataEnd : MethodName := ⟨RX7, "dataEnd", "()I"⟩
def yX7_checksum : MethodName := ⟨RX7, "checksum", "()J"⟩
def yX7_run : MethodName := ⟨RX7, "run", "()I"⟩
def yX7_runPlain : MethodName := ⟨RX7, "runPlain", "()I"⟩
def yX7_steps : MethodName := ⟨RX7, "steps", "()I"⟩
def yX7_addLibrary : MethodName := ⟨RX7, "addLibrary", "()I"⟩
def yX7_provide : MethodName := ⟨RX7, "provide", "(III)I"⟩
def yX7_need : MethodName := ⟨RX7, "need", "(II)I"⟩
def yX7_load : MethodName := ⟨RX7, "load", "(I)I"⟩
def yX7_unload : MethodName := ⟨RX7, "unload", "(I)I"⟩
def yX7_count : MethodName := ⟨RX7, "count", "(I)I"⟩
def yX7_loadedAt : MethodName := ⟨RX7, "loadedAt", "(I)I"⟩
def yX7_bind : MethodName := ⟨RX7, "bind", "(III)I"⟩
def yX7_bindings : MethodName := ⟨RX7, "bindings", "()I"⟩
def yX7_tell : MethodName := ⟨RX7, "tell", "(ZZ)I"⟩
def yX7_laidShare : MethodName := ⟨RX7, "laidShare", "()F"⟩
def yX7_meanSize : MethodName := ⟨RX7, "meanSize", "()D"⟩
def yX7_isSound : MethodName := ⟨RX7, "isSound", "()Z"⟩
def yX7_requireObject : MethodName := ⟨RX7, "requireObject", "(I)V"⟩
def yX7_requireSection : MethodName := ⟨RX7, "requireSection", "(I)V"⟩
def yX7_requireReference : MethodName := ⟨RX7, "requireReference", "(I)V"⟩
def yX7_requireLivingReference : MethodName := ⟨RX7, "requireLivingReference", "(I)V"⟩
def yX7_requireName : MethodName := ⟨RX7, "requireName", "(I)V"⟩
def yX7_requireVersion : MethodName := ⟨RX7, "requireVersion", "(II)V"⟩
def yX7_requireLink : MethodName := ⟨RX7, "requireLink", "()V"⟩
def yX7_requireLibrary : MethodName := ⟨RX7, "requireLibrary", "(I)V"⟩
def yX7_isName : MethodName := ⟨RX7, "isName", "(I)Z"⟩
def yX7_isSize : MethodName := ⟨RX7, "isSize", "(I)Z"⟩
def yX7_isAlignment : MethodName := ⟨RX7, "isAlignment", "(I)Z"⟩
def yX7_isStrength : MethodName := ⟨RX7, "isStrength", "(C)Z"⟩
def yX8_init : MethodName := ⟨RX8, "<init>", "()V"⟩
def yX8_thrown : MethodName := ⟨RX8, "thrown", "()I"⟩
def yX8_in : MethodName := ⟨RX8, "in", "(JJJ)Z"⟩
def yX8_isName : MethodName := ⟨RX8, "isName", "(I)Z"⟩
def yX8_isObject : MethodName := ⟨RX8, "isObject", "(I)Z"⟩
def yX8_isSection : MethodName := ⟨RX8, "isSection", "(I)Z"⟩
def yX8_addObject : MethodName := ⟨RX8, "addObject", "(Z)I"⟩
def yX8_addSection : MethodName := ⟨RX8, "addSection", "(IZIIIZ)I"⟩
def yX8_define : MethodName := ⟨RX8, "define", "(IIIC)I"⟩
def yX8_addCommon : MethodName := ⟨RX8, "addCommon", "(III)I"⟩
def yX8_refer : MethodName := ⟨RX8, "refer", "(IIIC)I"⟩
def yX8_setRooms : MethodName := ⟨RX8, "setRooms", "(II)I"⟩
def yX8_setReach : MethodName := ⟨RX8, "setReach", "(I)I"⟩
def yX8_takenHas : MethodName := ⟨RX8, "takenHas", "(I)Z"⟩
def yX8_localIn : MethodName := ⟨RX8, "localIn", "(II)I"⟩
def yX8_isOpen : MethodName := ⟨RX8, "isOpen", "(I)Z"⟩
def yX8_helps : MethodName := ⟨RX8, "helps", "(I)Z"⟩
def yX8_takes : MethodName := ⟨RX8, "takes", "()V"⟩
def yX8_isTwice : MethodName := ⟨RX8, "isTwice", "()Z"⟩
def yX8_definitionOf : MethodName := ⟨RX8, "definitionOf", "(IC)I"⟩
def yX8_standsFor : MethodName := ⟨RX8, "standsFor", "(I)I"⟩
def yX8_resolves : MethodName := ⟨RX8, "resolves", "()V"⟩
def yX8_wakes : MethodName := ⟨RX8, "wakes", "(I)Z"⟩
def yX8_lives : MethodName := ⟨RX8, "lives", "()Z"⟩
def yX8_isAsked : MethodName := ⟨RX8, "isAsked", "(I)Z"⟩
def yX8_nextOf : MethodName := ⟨RX8, "nextOf", "(II)I"⟩
def yX8_areAlike : MethodName := ⟨RX8, "areAlike", "(II)Z"⟩
def yX8_folds : MethodName := ⟨RX8, "folds", "()V"⟩
def yX8_isLaid : MethodName := ⟨RX8, "isLaid", "(I)Z"⟩
def yX8_laidOf : MethodName := ⟨RX8, "laidOf", "(I)I"⟩
def yX8_aligned : MethodName := ⟨RX8, "aligned", "(II)I"⟩
def yX8_lays : MethodName := ⟨RX8, "lays", "(ZI)I"⟩
def yX8_laysAll : MethodName := ⟨RX8, "laysAll", "()V"⟩
def yX8_addressOfGoal : MethodName := ⟨RX8, "addressOfGoal", "(I)I"⟩
def yX8_placeOf : MethodName := ⟨RX8, "placeOf", "(I)I"⟩
def yX8_isFar : MethodName := ⟨RX8, "isFar", "(I)Z"⟩
def yX8_firstFar : MethodName := ⟨RX8, "firstFar", "()I"⟩
def yX8_laysIslands : MethodName := ⟨RX8, "laysIslands", "()V"⟩
def yX8_turns : MethodName := ⟨RX8, "turns", "(I)V"⟩
def yX8_goesInto : MethodName := ⟨RX8, "goesInto", "(I)V"⟩
def yX8_runs : MethodName := ⟨RX8, "runs", "()V"⟩
def yX8_link : MethodName := ⟨RX8, "link", "(I)C"⟩
def yX8_isTaken : MethodName := ⟨RX8, "isTaken", "(I)Z"⟩
def yX8_asks : MethodName := ⟨RX8, "asks", "(I)Z"⟩
def yX8_fate : MethodName := ⟨RX8, "fate", "(I)C"⟩
def yX8_address : MethodName := ⟨RX8, "address", "(I)I"⟩
def yX8_addressOf : MethodName := ⟨RX8, "addressOf", "(I)I"⟩
def yX8_asksReference : MethodName := ⟨RX8, "asksReference", "(I)Z"⟩
def yX8_target : MethodName := ⟨RX8, "target", "(I)I"⟩
def yX8_targetAnew : MethodName := ⟨RX8, "targetAnew", "(I)I"⟩
def yX8_valueFor : MethodName := ⟨RX8, "valueFor", "(I)I"⟩
def yX8_valueOf : MethodName := ⟨RX8, "valueOf", "(I)I"⟩
def yX8_hasIsland : MethodName := ⟨RX8, "hasIsland", "(I)Z"⟩
def yX8_asksLink : MethodName := ⟨RX8, "asksLink", "()Z"⟩
def yX8_islands : MethodName := ⟨RX8, "islands", "()I"⟩
def yX8_codeEnd : MethodName := ⟨RX8, "codeEnd", "()I"⟩
def yX8_dataEnd : MethodName := ⟨RX8, "dataEnd", "()I"⟩
def yX8_checksum : MethodName := ⟨RX8, "checksum", "()J"⟩
def yX8_run : MethodName := ⟨RX8, "run", "()I"⟩
def yX8_runPlain : MethodName := ⟨RX8, "runPlain", "()I"⟩
def yX8_steps : MethodName := ⟨RX8, "steps", "()I"⟩
def yX8_isLibrary : MethodName := ⟨RX8, "isLibrary", "(I)Z"⟩
def yX8_placeIn : MethodName := ⟨RX8, "placeIn", "(I)I"⟩
def yX8_addLibrary : MethodName := ⟨RX8, "addLibrary", "()I"⟩
def yX8_provide : MethodName := ⟨RX8, "provide", "(III)I"⟩
def yX8_need : MethodName := ⟨RX8, "need", "(II)I"⟩
def yX8_puts : MethodName := ⟨RX8, "puts", "(I)V"⟩
def yX8_load : MethodName := ⟨RX8, "load", "(I)I"⟩
def yX8_falls : MethodName := ⟨RX8, "falls", "(I)V"⟩
def yX8_isBoundToLeaving : MethodName := ⟨RX8, "isBoundToLeaving", "()Z"⟩
def yX8_goes : MethodName := ⟨RX8, "goes", "()I"⟩
def yX8_unload : MethodName := ⟨RX8, "unload", "(I)I"⟩
def yX8_count : MethodName := ⟨RX8, "count", "(I)I"⟩
def yX8_loadedAt : MethodName := ⟨RX8, "loadedAt", "(I)I"⟩
def yX8_bind : MethodName := ⟨RX8, "bind", "(III)I"⟩
def yX8_bindings : MethodName := ⟨RX8, "bindings", "()I"⟩
def yX8_tell : MethodName := ⟨RX8, "tell", "(ZZ)I"⟩
def yX8_laidShare : MethodName := ⟨RX8, "laidShare", "()F"⟩
def yX8_meanSize : MethodName := ⟨RX8, "meanSize", "()D"⟩
def yX8_isSound : MethodName := ⟨RX8, "isSound", "()Z"⟩
def x_isN : Cond → Bool
  | .fieldLinkNest .. => true
  | .methodLinkNest .. => true
  | _ => false
def x_tbl : List Cond := lw_tbl.filter goodWord
def x_nst : List Cond := tables_1.filter x_isN
theorem x_in1 {w : Cond} (h : w ∈ tables_1_1) : w ∈ tables_1 := List.mem_append_left _ h
theorem x_in2 {w : Cond} (h : w ∈ tables_1_2) : w ∈ tables_1 := List.mem_append_right _ (List.mem_append_left _ h)
theorem x_in3 {w : Cond} (h : w ∈ tables_1_3) : w ∈ tables_1 := List.mem_append_right _ (List.mem_append_right _ (List.mem_append_left _ h))
theorem x_in4 {w : Cond} (h : w ∈ tables_1_4) : w ∈ tables_1 := List.mem_append_right _ (List.mem_append_right _ (List.mem_append_right _ (List.mem_append_left _ h)))
theorem x_in5 {w : Cond} (h : w ∈ tables_1_5) : w ∈ tables_1 := List.mem_append_right _ (List.mem_append_right _ (List.mem_append_right _ (List.mem_append_right _ (List.mem_append_left _ h))))
theorem x_in6 {w : Cond} (h : w ∈ tables_1_6) : w ∈ tables_1 := List.mem_append_right _ (List.mem_append_right _ (List.mem_append_right _ (List.mem_append_right _ (List.mem_append_right _ (List.mem_append_left _ h)))))
theorem x_in7 {w : Cond} (h : w ∈ tables_1_7) : w ∈ tables_1 := List.mem_append_right _ (List.mem_append_right _ (List.mem_append_right _ (List.mem_append_right _ (List.mem_append_right _ (List.mem_append_right _ (List.mem_append_left _ h))))))
theorem x_in8 {w : Cond} (h : w ∈ tables_1_8) : w ∈ tables_1 := List.mem_append_right _ (List.mem_append_right _ (List.mem_append_right _ (List.mem_append_right _ (List.mem_append_right _ (List.mem_append_right _ (List.mem_append_right _ h))))))
theorem x_w1 {w : Cond} (i : Nat) (h : tables_1_1[i]? = some w) (g : goodWord w = true) : w ∈ x_tbl := List.mem_filter.mpr ⟨List.mem_append_right _ (x_in1 (List.mem_of_getElem? h)), g⟩
theorem x_n1 {w : Cond} (i : Nat) (h : tables_1_1[i]? = some w) (g : x_isN w = true) : w ∈ x_nst := List.mem_filter.mpr ⟨x_in1 (List.mem_of_getElem? h), g⟩
theorem x_w2 {w : Cond} (i : Nat) (h : tables_1_2[i]? = some w) (g : goodWord w = true) : w ∈ x_tbl := List.mem_filter.mpr ⟨List.mem_append_right _ (x_in2 (List.mem_of_getElem? h)), g⟩
theorem x_n2 {w : Cond} (i : Nat) (h : tables_1_2[i]? = some w) (g : x_isN w = true) : w ∈ x_nst := List.mem_filter.mpr ⟨x_in2 (List.mem_of_getElem? h), g⟩
theorem x_w3 {w : Cond} (i : Nat) (h : tables_1_3[i]? = some w) (g : goodWord w = true) : w ∈ x_tbl := List.mem_filter.mpr ⟨List.mem_append_right _ (x_in3 (List.mem_of_getElem? h)), g⟩
theorem x_n3 {w : Cond} (i : Nat) (h : tables_1_3[i]? = some w) (g : x_isN w = true) : w ∈ x_nst := List.mem_filter.mpr ⟨x_in3 (List.mem_of_getElem? h), g⟩
theorem x_w4 {w : Cond} (i : Nat) (h : tables_1_4[i]? = some w) (g : goodWord w = true) : w ∈ x_tbl := List.mem_filter.mpr ⟨List.mem_append_right _ (x_in4 (List.mem_of_getElem? h)), g⟩
theorem x_n4 {w : Cond} (i : Nat) (h : tables_1_4[i]? = some w) (g : x_isN w = true) : w ∈ x_nst := List.mem_filter.mpr ⟨x_in4 (List.mem_of_getElem? h), g⟩
theorem x_w5 {w : Cond} (i : Nat) (h : tables_1_5[i]? = some w) (g : goodWord w = true) : w ∈ x_tbl := List.mem_filter.mpr ⟨List.mem_append_right _ (x_in5 (List.mem_of_getElem? h)), g⟩
theorem x_n5 {w : Cond} (i : Nat) (h : tables_1_5[i]? = some w) (g : x_isN w = true) : w ∈ x_nst := List.mem_filter.mpr ⟨x_in5 (List.mem_of_getElem? h), g⟩
theorem x_w6 {w : Cond} (i : Nat) (h : tables_1_6[i]? = some w) (g : goodWord w = true) : w ∈ x_tbl := List.mem_filter.mpr ⟨List.mem_append_right _ (x_in6 (List.mem_of_getElem? h)), g⟩
theorem x_n6 {w : Cond} (i : Nat) (h : tables_1_6[i]? = some w) (g : x_isN w = true) : w ∈ x_nst := List.mem_filter.mpr ⟨x_in6 (List.mem_of_getElem? h), g⟩
theorem x_w7 {w : Cond} (i : Nat) (h : tables_1_7[i]? = some w) (g : goodWord w = true) : w ∈ x_tbl := List.mem_filter.mpr ⟨List.mem_append_right _ (x_in7 (List.mem_of_getElem? h)), g⟩
theorem x_n7 {w : Cond} (i : Nat) (h : tables_1_7[i]? = some w) (g : x_isN w = true) : w ∈ x_nst := List.mem_filter.mpr ⟨x_in7 (List.mem_of_getElem? h), g⟩
theorem x_w8 {w : Cond} (i : Nat) (h : tables_1_8[i]? = some w) (g : goodWord w = true) : w ∈ x_tbl := List.mem_filter.mpr ⟨List.mem_append_right _ (x_in8 (List.mem_of_getElem? h)), g⟩
theorem x_n8 {w : Cond} (i : Nat) (h : tables_1_8[i]? = some w) (g : x_isN w = true) : w ∈ x_nst := List.mem_filter.mpr ⟨x_in8 (List.mem_of_getElem? h), g⟩
theorem x_p1 {q : MethodName × Nat} (i : Nat) (h : lw_privs_1[i]? = some q) (g : goodWord (Cond.selects q.1.cls q.1 q.1) = true) : Cond.selects q.1.cls q.1 q.1 ∈ x_tbl := by
  refine List.mem_filter.mpr ⟨List.mem_append_left _ (List.mem_map.mpr ⟨q, ?_, rfl⟩), g⟩
  show q ∈ lw_privs_1 ++ (lw_privs_2 ++ (lw_privs_3 ++ (lw_privs_4 ++ (lw_privs_5 ++ (lw_privs_6 ++ (lw_privs_7 ++ (lw_privs_8 ++ (lw_privs_9 ++ (lw_privs_10)))))))))
  exact List.mem_append_left _ (List.mem_of_getElem? h)
theorem x_p2 {q : MethodName × Nat} (i : Nat) (h : lw_privs_2[i]? = some q) (g : goodWord (Cond.selects q.1.cls q.1 q.1) = true) : Cond.selects q.1.cls q.1 q.1 ∈ x_tbl := by
  refine List.mem_filter.mpr ⟨List.mem_append_left _ (List.mem_map.mpr ⟨q, ?_, rfl⟩), g⟩
  show q ∈ lw_privs_1 ++ (lw_privs_2 ++ (lw_privs_3 ++ (lw_privs_4 ++ (lw_privs_5 ++ (lw_privs_6 ++ (lw_privs_7 ++ (lw_privs_8 ++ (lw_privs_9 ++ (lw_privs_10)))))))))
  exact List.mem_append_right _ (List.mem_append_left _ (List.mem_of_getElem? h))
theorem x_p3 {q : MethodName × Nat} (i : Nat) (h : lw_privs_3[i]? = some q) (g : goodWord (Cond.selects q.1.cls q.1 q.1) = true) : Cond.selects q.1.cls q.1 q.1 ∈ x_tbl := by
  refine List.mem_filter.mpr ⟨List.mem_append_left _ (List.mem_map.mpr ⟨q, ?_, rfl⟩), g⟩
  show q ∈ lw_privs_1 ++ (lw_privs_2 ++ (lw_privs_3 ++ (lw_privs_4 ++ (lw_privs_5 ++ (lw_privs_6 ++ (lw_privs_7 ++ (lw_privs_8 ++ (lw_privs_9 ++ (lw_privs_10)))))))))
  exact List.mem_append_right _ (List.mem_append_right _ (List.mem_append_left _ (List.mem_of_getElem? h)))
theorem x_p4 {q : MethodName × Nat} (i : Nat) (h : lw_privs_4[i]? = some q) (g : goodWord (Cond.selects q.1.cls q.1 q.1) = true) : Cond.selects q.1.cls q.1 q.1 ∈ x_tbl := by
  refine List.mem_filter.mpr ⟨List.mem_append_left _ (List.mem_map.mpr ⟨q, ?_, rfl⟩), g⟩
  show q ∈ lw_privs_1 ++ (lw_privs_2 ++ (lw_privs_3 ++ (lw_privs_4 ++ (lw_privs_5 ++ (lw_privs_6 ++ (lw_privs_7 ++ (lw_privs_8 ++ (lw_privs_9 ++ (lw_privs_10)))))))))
  exact List.mem_append_right _ (List.mem_append_right _ (List.mem_append_right _ (List.mem_append_left _ (List.mem_of_getElem? h))))
theorem x_p5 {q : MethodName × Nat} (i : Nat) (h : lw_privs_5[i]? = some q) (g : goodWord (Cond.selects q.1.cls q.1 q.1) = true) : Cond.selects q.1.cls q.1 q.1 ∈ x_tbl := by
  refine List.mem_filter.mpr ⟨List.mem_append_left _ (List.mem_map.mpr ⟨q, ?_, rfl⟩), g⟩
  show q ∈ lw_privs_1 ++ (lw_privs_2 ++ (lw_privs_3 ++ (lw_privs_4 ++ (lw_privs_5 ++ (lw_privs_6 ++ (lw_privs_7 ++ (lw_privs_8 ++ (lw_privs_9 ++ (lw_privs_10)))))))))
  exact List.mem_append_right _ (List.mem_append_right _ (List.mem_append_right _ (List.mem_append_right _ (List.mem_append_left _ (List.mem_of_getElem? h)))))
theorem x_p6 {q : MethodName × Nat} (i : Nat) (h : lw_privs_6[i]? = some q) (g : goodWord (Cond.selects q.1.cls q.1 q.1) = true) : Cond.selects q.1.cls q.1 q.1 ∈ x_tbl := by
  refine List.mem_filter.mpr ⟨List.mem_append_left _ (List.mem_map.mpr ⟨q, ?_, rfl⟩), g⟩
  show q ∈ lw_privs_1 ++ (lw_privs_2 ++ (lw_privs_3 ++ (lw_privs_4 ++ (lw_privs_5 ++ (lw_privs_6 ++ (lw_privs_7 ++ (lw_privs_8 ++ (lw_privs_9 ++ (lw_privs_10)))))))))
  exact List.mem_append_right _ (List.mem_append_right _ (List.mem_append_right _ (List.mem_append_right _ (List.mem_append_right _ (List.mem_append_left _ (List.mem_of_getElem? h))))))
theorem x_p7 {q : MethodName × Nat} (i : Nat) (h : lw_privs_7[i]? = some q) (g : goodWord (Cond.selects q.1.cls q.1 q.1) = true) : Cond.selects q.1.cls q.1 q.1 ∈ x_tbl := by
  refine List.mem_filter.mpr ⟨List.mem_append_left _ (List.mem_map.mpr ⟨q, ?_, rfl⟩), g⟩
  show q ∈ lw_privs_1 ++ (lw_privs_2 ++ (lw_privs_3 ++ (lw_privs_4 ++ (lw_privs_5 ++ (lw_privs_6 ++ (lw_privs_7 ++ (lw_privs_8 ++ (lw_privs_9 ++ (lw_privs_10)))))))))
  exact List.mem_append_right _ (List.mem_append_right _ (List.mem_append_right _ (List.mem_append_right _ (List.mem_append_right _ (List.mem_append_right _ (List.mem_append_left _ (List.mem_of_getElem? h)))))))
theorem x_p8 {q : MethodName × Nat} (i : Nat) (h : lw_privs_8[i]? = some q) (g : goodWord (Cond.selects q.1.cls q.1 q.1) = true) : Cond.selects q.1.cls q.1 q.1 ∈ x_tbl := by
  refine List.mem_filter.mpr ⟨List.mem_append_left _ (List.mem_map.mpr ⟨q, ?_, rfl⟩), g⟩
  show q ∈ lw_privs_1 ++ (lw_privs_2 ++ (lw_privs_3 ++ (lw_privs_4 ++ (lw_privs_5 ++ (lw_privs_6 ++ (lw_privs_7 ++ (lw_privs_8 ++ (lw_privs_9 ++ (lw_privs_10)))))))))
  exact List.mem_append_right _ (List.mem_append_right _ (List.mem_append_right _ (List.mem_append_right _ (List.mem_append_right _ (List.mem_append_right _ (List.mem_append_right _ (List.mem_append_left _ (List.mem_of_getElem? h))))))))
theorem x_p9 {q : MethodName × Nat} (i : Nat) (h : lw_privs_9[i]? = some q) (g : goodWord (Cond.selects q.1.cls q.1 q.1) = true) : Cond.selects q.1.cls q.1 q.1 ∈ x_tbl := by
  refine List.mem_filter.mpr ⟨List.mem_append_left _ (List.mem_map.mpr ⟨q, ?_, rfl⟩), g⟩
  show q ∈ lw_privs_1 ++ (lw_privs_2 ++ (lw_privs_3 ++ (lw_privs_4 ++ (lw_privs_5 ++ (lw_privs_6 ++ (lw_privs_7 ++ (lw_privs_8 ++ (lw_privs_9 ++ (lw_privs_10)))))))))
  exact List.mem_append_right _ (List.mem_append_right _ (List.mem_append_right _ (List.mem_append_right _ (List.mem_append_right _ (List.mem_append_right _ (List.mem_append_right _ (List.mem_append_right _ (List.mem_append_left _ (List.mem_of_getElem? h)))))))))
theorem x_p10 {q : MethodName × Nat} (i : Nat) (h : lw_privs_10[i]? = some q) (g : goodWord (Cond.selects q.1.cls q.1 q.1) = true) : Cond.selects q.1.cls q.1 q.1 ∈ x_tbl := by
  refine List.mem_filter.mpr ⟨List.mem_append_left _ (List.mem_map.mpr ⟨q, ?_, rfl⟩), g⟩
  show q ∈ lw_privs_1 ++ (lw_privs_2 ++ (lw_privs_3 ++ (lw_privs_4 ++ (lw_privs_5 ++ (lw_privs_6 ++ (lw_privs_7 ++ (lw_privs_8 ++ (lw_privs_9 ++ (lw_privs_10)))))))))
  exact List.mem_append_right _ (List.mem_append_right _ (List.mem_append_right _ (List.mem_append_right _ (List.mem_append_right _ (List.mem_append_right _ (List.mem_append_right _ (List.mem_append_right _ (List.mem_append_right _ (List.mem_of_getElem? h)))))))))
theorem x_tbl_good : GoodIn lw_tbl x_tbl := fun w h => ⟨(List.mem_filter.mp h).1, good_of_word (List.mem_filter.mp h).2⟩
theorem x_uX0 : ∀ w ∈ u_ws RX0 TX0 5, w ∈ x_tbl := by
  intro w h
  obtain ⟨k, hk, rfl⟩ := List.mem_map.mp h
  have hk := List.mem_range.mp hk
  match k, hk with
  | 0, _ => exact x_w1 79 (by decide +kernel) (by decide +kernel)
  | 1, _ => exact x_w1 81 (by decide +kernel) (by decide +kernel)
  | 2, _ => exact x_w1 83 (by decide +kernel) (by decide +kernel)
  | 3, _ => exact x_w1 85 (by decide +kernel) (by decide +kernel)
  | 4, _ => exact x_w1 87 (by decide +kernel) (by decide +kernel)
  | (k + 5), hk => exact absurd hk (by omega)
theorem x_uX1 : ∀ w ∈ u_ws RX1 TX1 8, w ∈ x_tbl := by
  intro w h
  obtain ⟨k, hk, rfl⟩ := List.mem_map.mp h
  have hk := List.mem_range.mp hk
  match k, hk with
  | 0, _ => exact x_w1 159 (by decide +kernel) (by decide +kernel)
  | 1, _ => exact x_w1 161 (by decide +kernel) (by decide +kernel)
  | 2, _ => exact x_w1 163 (by decide +kernel) (by decide +kernel)
  | 3, _ => exact x_w1 165 (by decide +kernel) (by decide +kernel)
  | 4, _ => exact x_w1 167 (by decide +kernel) (by decide +kernel)
  | 5, _ => exact x_w1 169 (by decide +kernel) (by decide +kernel)
  | 6, _ => exact x_w1 171 (by decide +kernel) (by decide +kernel)
  | 7, _ => exact x_w1 173 (by decide +kernel) (by decide +kernel)
  | (k + 8), hk => exact absurd hk (by omega)
theorem x_uX2 : ∀ w ∈ u_ws RX2 TX2 8, w ∈ x_tbl := by
  intro w h
  obtain ⟨k, hk, rfl⟩ := List.mem_map.mp h
  have hk := List.mem_range.mp hk
  match k, hk with
  | 0, _ => exact x_w1 230 (by decide +kernel) (by decide +kernel)
  | 1, _ => exact x_w1 232 (by decide +kernel) (by decide +kernel)
  | 2, _ => exact x_w1 234 (by decide +kernel) (by decide +kernel)
  | 3, _ => exact x_w1 236 (by decide +kernel) (by decide +kernel)
  | 4, _ => exact x_w1 238 (by decide +kernel) (by decide +kernel)
  | 5, _ => exact x_w2 0 (by decide +kernel) (by decide +kernel)
  | 6, _ => exact x_w2 2 (by decide +kernel) (by decide +kernel)
  | 7, _ => exact x_w2 4 (by decide +kernel) (by decide +kernel)
  | (k + 8), hk => exact absurd hk (by omega)
theorem x_uX3 : ∀ w ∈ u_ws RX3 TX3 1, w ∈ x_tbl := by
  intro w h
  obtain ⟨k, hk, rfl⟩ := List.mem_map.mp h
  have hk := List.mem_range.mp hk
  match k, hk with
  | 0, _ => exact x_w1 103 (by decide +kernel) (by decide +kernel)
  | (k + 1), hk => exact absurd hk (by omega)
theorem x_uX4 : ∀ w ∈ u_ws RX4 TX4 7, w ∈ x_tbl := by
  intro w h
  obtain ⟨k, hk, rfl⟩ := List.mem_map.mp h
  have hk := List.mem_range.mp hk
  match k, hk with
  | 0, _ => exact x_w1 193 (by decide +kernel) (by decide +kernel)
  | 1, _ => exact x_w1 195 (by decide +kernel) (by decide +kernel)
  | 2, _ => exact x_w1 197 (by decide +kernel) (by decide +kernel)
  | 3, _ => exact x_w1 199 (by decide +kernel) (by decide +kernel)
  | 4, _ => exact x_w1 201 (by decide +kernel) (by decide +kernel)
  | 5, _ => exact x_w1 203 (by decide +kernel) (by decide +kernel)
  | 6, _ => exact x_w1 205 (by decide +kernel) (by decide +kernel)
  | (k + 7), hk => exact absurd hk (by omega)
theorem x_uX5 : ∀ w ∈ u_ws RX5 TX5 8, w ∈ x_tbl := by
  intro w h
  obtain ⟨k, hk, rfl⟩ := List.mem_map.mp h
  have hk := List.mem_range.mp hk
  match k, hk with
  | 0, _ => exact x_w1 121 (by decide +kernel) (by decide +kernel)
  | 1, _ => exact x_w1 123 (by decide +kernel) (by decide +kernel)
  | 2, _ => exact x_w1 125 (by decide +kernel) (by decide +kernel)
  | 3, _ => exact x_w1 127 (by decide +kernel) (by decide +kernel)
  | 4, _ => exact x_w1 129 (by decide +kernel) (by decide +kernel)
  | 5, _ => exact x_w1 131 (by decide +kernel) (by decide +kernel)
  | 6, _ => exact x_w1 133 (by decide +kernel) (by decide +kernel)
  | 7, _ => exact x_w1 135 (by decide +kernel) (by decide +kernel)
  | (k + 8), hk => exact absurd hk (by omega)
theorem x_uX6 : ∀ w ∈ u_ws RX6 TX6 4, w ∈ x_tbl := by
  intro w h
  obtain ⟨k, hk, rfl⟩ := List.mem_map.mp h
  have hk := List.mem_range.mp hk
  match k, hk with
  | 0, _ => exact x_w1 53 (by decide +kernel) (by decide +kernel)
  | 1, _ => exact x_w1 55 (by decide +kernel) (by decide +kernel)
  | 2, _ => exact x_w1 57 (by decide +kernel) (by decide +kernel)
  | 3, _ => exact x_w1 59 (by decide +kernel) (by decide +kernel)
  | (k + 4), hk => exact absurd hk (by omega)
theorem x_uX7 : ∀ w ∈ u_ws RX7 TX7 10, w ∈ x_tbl := by
  intro w h
  obtain ⟨k, hk, rfl⟩ := List.mem_map.mp h
  have hk := List.mem_range.mp hk
  match k, hk with
  | 0, _ => exact x_w2 17 (by decide +kernel) (by decide +kernel)
  | 1, _ => exact x_w2 19 (by decide +kernel) (by decide +kernel)
  | 2, _ => exact x_w2 21 (by decide +kernel) (by decide +kernel)
  | 3, _ => exact x_w2 23 (by decide +kernel) (by decide +kernel)
  | 4, _ => exact x_w2 25 (by decide +kernel) (by decide +kernel)
  | 5, _ => exact x_w2 27 (by decide +kernel) (by decide +kernel)
  | 6, _ => exact x_w2 29 (by decide +kernel) (by decide +kernel)
  | 7, _ => exact x_w2 31 (by decide +kernel) (by decide +kernel)
  | 8, _ => exact x_w2 33 (by decide +kernel) (by decide +kernel)
  | 9, _ => exact x_w2 35 (by decide +kernel) (by decide +kernel)
  | (k + 10), hk => exact absurd hk (by omega)
theorem x_uX8 : ∀ w ∈ u_ws RX8 TX8 51, w ∈ x_tbl := by
  intro w h
  obtain ⟨k, hk, rfl⟩ := List.mem_map.mp h
  have hk := List.mem_range.mp hk
  match k, hk with
  | 0, _ => exact x_w6 142 (by decide +kernel) (by decide +kernel)
  | 1, _ => exact x_w6 144 (by decide +kernel) (by decide +kernel)
  | 2, _ => exact x_w6 146 (by decide +kernel) (by decide +kernel)
  | 3, _ => exact x_w6 148 (by decide +kernel) (by decide +kernel)
  | 4, _ => exact x_w6 150 (by decide +kernel) (by decide +kernel)
  | 5, _ => exact x_w6 152 (by decide +kernel) (by decide +kernel)
  | 6, _ => exact x_w6 154 (by decide +kernel) (by decide +kernel)
  | 7, _ => exact x_w6 156 (by decide +kernel) (by decide +kernel)
  | 8, _ => exact x_w6 158 (by decide +kernel) (by decide +kernel)
  | 9, _ => exact x_w6 160 (by decide +kernel) (by decide +kernel)
  | 10, _ => exact x_w6 162 (by decide +kernel) (by decide +kernel)
  | 11, _ => exact x_w6 164 (by decide +kernel) (by decide +kernel)
  | 12, _ => exact x_w6 166 (by decide +kernel) (by decide +kernel)
  | 13, _ => exact x_w6 168 (by decide +kernel) (by decide +kernel)
  | 14, _ => exact x_w6 170 (by decide +kernel) (by decide +kernel)
  | 15, _ => exact x_w6 172 (by decide +kernel) (by decide +kernel)
  | 16, _ => exact x_w6 174 (by decide +kernel) (by decide +kernel)
  | 17, _ => exact x_w6 176 (by decide +kernel) (by decide +kernel)
  | 18, _ => exact x_w6 178 (by decide +kernel) (by decide +kernel)
  | 19, _ => exact x_w6 180 (by decide +kernel) (by decide +kernel)
  | 20, _ => exact x_w6 182 (by decide +kernel) (by decide +kernel)
  | 21, _ => exact x_w6 184 (by decide +kernel) (by decide +kernel)
  | 22, _ => exact x_w6 186 (by decide +kernel) (by decide +kernel)
  | 23, _ => exact x_w6 188 (by decide +kernel) (by decide +kernel)
  | 24, _ => exact x_w6 190 (by decide +kernel) (by decide +kernel)
  | 25, _ => exact x_w6 192 (by decide +kernel) (by decide +kernel)
  | 26, _ => exact x_w6 194 (by decide +kernel) (by decide +kernel)
  | 27, _ => exact x_w6 196 (by decide +kernel) (by decide +kernel)
  | 28, _ => exact x_w6 198 (by decide +kernel) (by decide +kernel)
  | 29, _ => exact x_w6 200 (by decide +kernel) (by decide +kernel)
  | 30, _ => exact x_w6 202 (by decide +kernel) (by decide +kernel)
  | 31, _ => exact x_w6 204 (by decide +kernel) (by decide +kernel)
  | 32, _ => exact x_w6 206 (by decide +kernel) (by decide +kernel)
  | 33, _ => exact x_w6 208 (by decide +kernel) (by decide +kernel)
  | 34, _ => exact x_w6 210 (by decide +kernel) (by decide +kernel)
  | 35, _ => exact x_w6 212 (by decide +kernel) (by decide +kernel)
  | 36, _ => exact x_w6 214 (by decide +kernel) (by decide +kernel)
  | 37, _ => exact x_w6 216 (by decide +kernel) (by decide +kernel)
  | 38, _ => exact x_w6 218 (by decide +kernel) (by decide +kernel)
  | 39, _ => exact x_w6 220 (by decide +kernel) (by decide +kernel)
  | 40, _ => exact x_w6 222 (by decide +kernel) (by decide +kernel)
  | 41, _ => exact x_w6 224 (by decide +kernel) (by decide +kernel)
  | 42, _ => exact x_w6 226 (by decide +kernel) (by decide +kernel)
  | 43, _ => exact x_w6 228 (by decide +kernel) (by decide +kernel)
  | 44, _ => exact x_w6 230 (by decide +kernel) (by decide +kernel)
  | 45, _ => exact x_w6 232 (by decide +kernel) (by decide +kernel)
  | 46, _ => exact x_w6 234 (by decide +kernel) (by decide +kernel)
  | 47, _ => exact x_w6 236 (by decide +kernel) (by decide +kernel)
  | 48, _ => exact x_w6 238 (by decide +kernel) (by decide +kernel)
  | 49, _ => exact x_w7 0 (by decide +kernel) (by decide +kernel)
  | 50, _ => exact x_w7 2 (by decide +kernel) (by decide +kernel)
  | (k + 51), hk => exact absurd hk (by omega)
def x_cl : List vw_C := [(RX0, TX0, 5), (RX1, TX1, 8), (RX2, TX2, 8), (RX3, TX3, 1), (RX4, TX4, 7), (RX5, TX5, 8), (RX6, TX6, 4), (RX7, TX7, 10), (RX8, TX8, 51)]
