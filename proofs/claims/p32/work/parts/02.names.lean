def kR_ArrayList : String := "java/util/ArrayList"
def kF_ArrayList : u_T := fun k => match k with
  | 0 => ("java/util/AbstractList", "modCount", "I", false)
  | 1 => ("java/util/ArrayList", "elementData", "[Ljava/lang/Object;", false)
  | _ => ("java/util/ArrayList", "size", "I", false)
def kt_ArrayList : Nat → FieldType := fun k => match k with
  | 0 => .int
  | 1 => .array (.object "java/lang/Object")
  | _ => .int
theorem kn_ArrayList : ∀ a, a < 3 → ∀ b, b < 3 → a ≠ b → (kF_ArrayList a).2.1 ≠ (kF_ArrayList b).2.1 := by decide +kernel
theorem kto_ArrayList : ∀ k, k < 3 → parseFieldDescriptor (kF_ArrayList k).2.2.1 = some (kt_ArrayList k) := by decide +kernel
theorem ki_ArrayList : ∀ w ∈ u_ws kR_ArrayList kF_ArrayList 3, w ∈ tables_1 := by decide +kernel
def kR_Act : String := "TrustDesk$Act"
def kF_Act : u_T := fun k => match k with
  | 0 => ("TrustDesk$Act", "from", "I", true)
  | 1 => ("TrustDesk$Act", "ruleCount", "I", false)
  | 2 => ("TrustDesk$Act", "bars", "Ljava/util/ArrayList;", true)
  | 3 => ("TrustDesk$Act", "rules", "[I", true)
  | _ => ("TrustDesk$Act", "barKinds", "[I", true)
def kt_Act : Nat → FieldType := fun k => match k with
  | 0 => .int
  | 1 => .int
  | 2 => .object "java/util/ArrayList"
  | 3 => .array .int
  | _ => .array .int
theorem kn_Act : ∀ a, a < 5 → ∀ b, b < 5 → a ≠ b → (kF_Act a).2.1 ≠ (kF_Act b).2.1 := by decide +kernel
theorem kto_Act : ∀ k, k < 5 → parseFieldDescriptor (kF_Act k).2.2.1 = some (kt_Act k) := by decide +kernel
theorem ki_Act : ∀ w ∈ u_ws kR_Act kF_Act 5, w ∈ tables_1 := by decide +kernel
def kR_Code : String := "TrustDesk$Code"
def kF_Code : u_T := fun k => match k with
  | _ => ("TrustDesk$Code", "steps", "[I", true)
def kt_Code : Nat → FieldType := fun k => match k with
  | _ => .array .int
theorem kn_Code : ∀ a, a < 1 → ∀ b, b < 1 → a ≠ b → (kF_Code a).2.1 ≠ (kF_Code b).2.1 := by decide +kernel
theorem kto_Code : ∀ k, k < 1 → parseFieldDescriptor (kF_Code k).2.2.1 = some (kt_Code k) := by decide +kernel
theorem ki_Code : ∀ w ∈ u_ws kR_Code kF_Code 1, w ∈ tables_1 := by decide +kernel
def kR_End : String := "TrustDesk$End"
def kF_End : u_T := fun k => match k with
  | 0 => ("TrustDesk$End", "text", "LTrustDesk$EndText;", false)
  | 1 => ("TrustDesk$End", "state", "I", false)
  | 2 => ("TrustDesk$End", "failedYears", "I", false)
  | _ => ("TrustDesk$End", "diedIn", "I", false)
def kt_End : Nat → FieldType := fun k => match k with
  | 0 => .object "TrustDesk$EndText"
  | 1 => .int
  | 2 => .int
  | _ => .int
theorem kn_End : ∀ a, a < 4 → ∀ b, b < 4 → a ≠ b → (kF_End a).2.1 ≠ (kF_End b).2.1 := by decide +kernel
theorem kto_End : ∀ k, k < 4 → parseFieldDescriptor (kF_End k).2.2.1 = some (kt_End k) := by decide +kernel
theorem ki_End : ∀ w ∈ u_ws kR_End kF_End 4, w ∈ tables_1 := by decide +kernel
def kR_EndText : String := "TrustDesk$EndText"
def kF_EndText : u_T := fun k => match k with
  | 0 => ("TrustDesk$EndText", "name", "J", true)
  | 1 => ("TrustDesk$EndText", "letters", "I", true)
  | 2 => ("TrustDesk$EndText", "sum", "LTrustDesk$Code;", true)
  | 3 => ("TrustDesk$EndText", "condition", "LTrustDesk$Code;", true)
  | _ => ("TrustDesk$EndText", "takesPart", "Z", true)
def kt_EndText : Nat → FieldType := fun k => match k with
  | 0 => .long
  | 1 => .int
  | 2 => .object "TrustDesk$Code"
  | 3 => .object "TrustDesk$Code"
  | _ => .boolean
theorem kn_EndText : ∀ a, a < 5 → ∀ b, b < 5 → a ≠ b → (kF_EndText a).2.1 ≠ (kF_EndText b).2.1 := by decide +kernel
theorem kto_EndText : ∀ k, k < 5 → parseFieldDescriptor (kF_EndText k).2.2.1 = some (kt_EndText k) := by decide +kernel
theorem ki_EndText : ∀ w ∈ u_ws kR_EndText kF_EndText 5, w ∈ tables_1 := by decide +kernel
def kR_Facts : String := "TrustDesk$Facts"
def kF_Facts : u_T := fun k => match k with
  | 0 => ("TrustDesk$Facts", "kinds", "[I", true)
  | 1 => ("TrustDesk$Facts", "years", "[I", true)
  | 2 => ("TrustDesk$Facts", "values", "[I", true)
  | 3 => ("TrustDesk$Facts", "toldOn", "[I", true)
  | _ => ("TrustDesk$Facts", "count", "I", false)
def kt_Facts : Nat → FieldType := fun k => match k with
  | 0 => .array .int
  | 1 => .array .int
  | 2 => .array .int
  | 3 => .array .int
  | _ => .int
theorem kn_Facts : ∀ a, a < 5 → ∀ b, b < 5 → a ≠ b → (kF_Facts a).2.1 ≠ (kF_Facts b).2.1 := by decide +kernel
theorem kto_Facts : ∀ k, k < 5 → parseFieldDescriptor (kF_Facts k).2.2.1 = some (kt_Facts k) := by decide +kernel
theorem ki_Facts : ∀ w ∈ u_ws kR_Facts kF_Facts 5, w ∈ tables_1 := by decide +kernel
def kR_Fund : String := "TrustDesk$Fund"
def kF_Fund : u_T := fun k => match k with
  | 0 => ("TrustDesk$Fund", "number", "I", true)
  | 1 => ("TrustDesk$Fund", "acres", "I", false)
  | 2 => ("TrustDesk$Fund", "stock", "I", false)
  | 3 => ("TrustDesk$Fund", "coin", "J", false)
  | 4 => ("TrustDesk$Fund", "marks", "I", false)
  | 5 => ("TrustDesk$Fund", "trustMost", "I", false)
  | 6 => ("TrustDesk$Fund", "trustNeeds", "I", false)
  | 7 => ("TrustDesk$Fund", "trusteeCount", "I", false)
  | 8 => ("TrustDesk$Fund", "joinedTo", "I", false)
  | 9 => ("TrustDesk$Fund", "laidGroup", "I", false)
  | 10 => ("TrustDesk$Fund", "ledBack", "J", false)
  | 11 => ("TrustDesk$Fund", "ends", "Ljava/util/ArrayList;", true)
  | 12 => ("TrustDesk$Fund", "parts", "[I", true)
  | 13 => ("TrustDesk$Fund", "trustees", "[Z", true)
  | _ => ("TrustDesk$Fund", "accounts", "[Z", true)
def kt_Fund : Nat → FieldType := fun k => match k with
  | 0 => .int
  | 1 => .int
  | 2 => .int
  | 3 => .long
  | 4 => .int
  | 5 => .int
  | 6 => .int
  | 7 => .int
  | 8 => .int
  | 9 => .int
  | 10 => .long
  | 11 => .object "java/util/ArrayList"
  | 12 => .array .int
  | 13 => .array .boolean
  | _ => .array .boolean
theorem kn_Fund : ∀ a, a < 15 → ∀ b, b < 15 → a ≠ b → (kF_Fund a).2.1 ≠ (kF_Fund b).2.1 := by decide +kernel
theorem kto_Fund : ∀ k, k < 15 → parseFieldDescriptor (kF_Fund k).2.2.1 = some (kt_Fund k) := by decide +kernel
theorem ki_Fund : ∀ w ∈ u_ws kR_Fund kF_Fund 15, w ∈ tables_1 := by decide +kernel
def kR_Grouping : String := "TrustDesk$Grouping"
def kF_Grouping : u_T := fun k => match k with
  | 0 => ("TrustDesk$Grouping", "bestIdle", "J", false)
  | 1 => ("TrustDesk$Grouping", "keep", "I", false)
  | 2 => ("TrustDesk$Grouping", "size", "I", false)
  | 3 => ("TrustDesk$Grouping", "bestGroups", "I", false)
  | 4 => ("TrustDesk$Grouping", "marks", "[I", true)
  | 5 => ("TrustDesk$Grouping", "spare", "[J", true)
  | 6 => ("TrustDesk$Grouping", "laid", "[I", true)
  | 7 => ("TrustDesk$Grouping", "groups", "[I", true)
  | 8 => ("TrustDesk$Grouping", "bestOf", "[I", true)
  | 9 => ("TrustDesk$Grouping", "members", "[I", true)
  | 10 => ("TrustDesk$Grouping", "common", "[I", true)
  | 11 => ("TrustDesk$Grouping", "together", "[J", true)
  | 12 => ("TrustDesk$Grouping", "needsFrom", "[J", true)
  | _ => ("TrustDesk$Grouping", "leastOfAll", "J", false)
def kt_Grouping : Nat → FieldType := fun k => match k with
  | 0 => .long
  | 1 => .int
  | 2 => .int
  | 3 => .int
  | 4 => .array .int
  | 5 => .array .long
  | 6 => .array .int
  | 7 => .array .int
  | 8 => .array .int
  | 9 => .array .int
  | 10 => .array .int
  | 11 => .array .long
  | 12 => .array .long
  | _ => .long
theorem kn_Grouping : ∀ a, a < 14 → ∀ b, b < 14 → a ≠ b → (kF_Grouping a).2.1 ≠ (kF_Grouping b).2.1 := by decide +kernel
theorem kto_Grouping : ∀ k, k < 14 → parseFieldDescriptor (kF_Grouping k).2.2.1 = some (kt_Grouping k) := by decide +kernel
theorem ki_Grouping : ∀ w ∈ u_ws kR_Grouping kF_Grouping 14, w ∈ tables_1 := by decide +kernel
def kR_NearEnd : String := "TrustDesk$NearEnd"
def kF_NearEnd : u_T := fun k => match k with
  | 0 => ("TrustDesk$NearEnd", "text", "LTrustDesk$EndText;", true)
  | _ => ("TrustDesk$NearEnd", "marks", "I", true)
def kt_NearEnd : Nat → FieldType := fun k => match k with
  | 0 => .object "TrustDesk$EndText"
  | _ => .int
theorem kn_NearEnd : ∀ a, a < 2 → ∀ b, b < 2 → a ≠ b → (kF_NearEnd a).2.1 ≠ (kF_NearEnd b).2.1 := by decide +kernel
theorem kto_NearEnd : ∀ k, k < 2 → parseFieldDescriptor (kF_NearEnd k).2.2.1 = some (kt_NearEnd k) := by decide +kernel
theorem ki_NearEnd : ∀ w ∈ u_ws kR_NearEnd kF_NearEnd 2, w ∈ tables_1 := by decide +kernel
def kR_Reader : String := "TrustDesk$Reader"
def kF_Reader : u_T := fun k => match k with
  | 0 => ("TrustDesk$Reader", "size", "I", false)
  | 1 => ("TrustDesk$Reader", "fault", "I", false)
  | 2 => ("TrustDesk$Reader", "faultPlace", "I", false)
  | 3 => ("TrustDesk$Reader", "bytes", "[I", true)
  | 4 => ("TrustDesk$Reader", "kinds", "[I", true)
  | 5 => ("TrustDesk$Reader", "starts", "[I", true)
  | 6 => ("TrustDesk$Reader", "stops", "[I", true)
  | 7 => ("TrustDesk$Reader", "values", "[I", true)
  | 8 => ("TrustDesk$Reader", "tokenCount", "I", false)
  | 9 => ("TrustDesk$Reader", "at", "I", false)
  | 10 => ("TrustDesk$Reader", "kind", "I", false)
  | 11 => ("TrustDesk$Reader", "start", "I", false)
  | 12 => ("TrustDesk$Reader", "stop", "I", false)
  | 13 => ("TrustDesk$Reader", "value", "I", false)
  | 14 => ("TrustDesk$Reader", "number", "I", false)
  | 15 => ("TrustDesk$Reader", "nameCount", "I", false)
  | 16 => ("TrustDesk$Reader", "open", "I", false)
  | 17 => ("TrustDesk$Reader", "steps", "[I", true)
  | _ => ("TrustDesk$Reader", "stepCount", "I", false)
def kt_Reader : Nat → FieldType := fun k => match k with
  | 0 => .int
  | 1 => .int
  | 2 => .int
  | 3 => .array .int
  | 4 => .array .int
  | 5 => .array .int
  | 6 => .array .int
  | 7 => .array .int
  | 8 => .int
  | 9 => .int
  | 10 => .int
  | 11 => .int
  | 12 => .int
  | 13 => .int
  | 14 => .int
  | 15 => .int
  | 16 => .int
  | 17 => .array .int
  | _ => .int
theorem kn_Reader : ∀ a, a < 19 → ∀ b, b < 19 → a ≠ b → (kF_Reader a).2.1 ≠ (kF_Reader b).2.1 := by decide +kernel
theorem kto_Reader : ∀ k, k < 19 → parseFieldDescriptor (kF_Reader k).2.2.1 = some (kt_Reader k) := by decide +kernel
theorem ki_Reader : ∀ w ∈ u_ws kR_Reader kF_Reader 19, w ∈ tables_1 := by decide +kernel
def kR_Reckoner : String := "TrustDesk$Reckoner"
def kF_Reckoner : u_T := fun k => match k with
  | 0 => ("TrustDesk$Reckoner", "names", "[J", true)
  | 1 => ("TrustDesk$Reckoner", "firstFalse", "I", false)
  | 2 => ("TrustDesk$Reckoner", "stack", "[J", true)
  | 3 => ("TrustDesk$Reckoner", "top", "I", false)
  | _ => ("TrustDesk$Reckoner", "comparisons", "I", false)
def kt_Reckoner : Nat → FieldType := fun k => match k with
  | 0 => .array .long
  | 1 => .int
  | 2 => .array .long
  | 3 => .int
  | _ => .int
theorem kn_Reckoner : ∀ a, a < 5 → ∀ b, b < 5 → a ≠ b → (kF_Reckoner a).2.1 ≠ (kF_Reckoner b).2.1 := by decide +kernel
theorem kto_Reckoner : ∀ k, k < 5 → parseFieldDescriptor (kF_Reckoner k).2.2.1 = some (kt_Reckoner k) := by decide +kernel
theorem ki_Reckoner : ∀ w ∈ u_ws kR_Reckoner kF_Reckoner 5, w ∈ tables_1 := by decide +kernel
def kR_Scheme : String := "TrustDesk$Scheme"
def kF_Scheme : u_T := fun k => match k with
  | 0 => ("TrustDesk$Scheme", "kind", "I", true)
  | 1 => ("TrustDesk$Scheme", "fund", "I", true)
  | 2 => ("TrustDesk$Scheme", "x", "I", true)
  | 3 => ("TrustDesk$Scheme", "firstDay", "I", true)
  | 4 => ("TrustDesk$Scheme", "lastDay", "I", true)
  | 5 => ("TrustDesk$Scheme", "state", "I", false)
  | 6 => ("TrustDesk$Scheme", "failedBy", "I", false)
  | 7 => ("TrustDesk$Scheme", "objections", "I", false)
  | 8 => ("TrustDesk$Scheme", "saidYes", "I", false)
  | 9 => ("TrustDesk$Scheme", "saidNo", "I", false)
  | 10 => ("TrustDesk$Scheme", "objectors", "[Z", true)
  | _ => ("TrustDesk$Scheme", "votes", "[B", true)
def kt_Scheme : Nat → FieldType := fun k => match k with
  | 0 => .int
  | 1 => .int
  | 2 => .int
  | 3 => .int
  | 4 => .int
  | 5 => .int
  | 6 => .int
  | 7 => .int
  | 8 => .int
  | 9 => .int
  | 10 => .array .boolean
  | _ => .array .byte
theorem kn_Scheme : ∀ a, a < 12 → ∀ b, b < 12 → a ≠ b → (kF_Scheme a).2.1 ≠ (kF_Scheme b).2.1 := by decide +kernel
theorem kto_Scheme : ∀ k, k < 12 → parseFieldDescriptor (kF_Scheme k).2.2.1 = some (kt_Scheme k) := by decide +kernel
theorem ki_Scheme : ∀ w ∈ u_ws kR_Scheme kF_Scheme 12, w ∈ tables_1 := by decide +kernel
def kR_TrustDesk : String := "TrustDesk"
def kF_TrustDesk : u_T := fun k => match k with
  | 0 => ("TrustDesk", "facts", "LTrustDesk$Facts;", true)
  | 1 => ("TrustDesk", "reader", "LTrustDesk$Reader;", true)
  | 2 => ("TrustDesk", "reckoner", "LTrustDesk$Reckoner;", true)
  | 3 => ("TrustDesk", "grouping", "LTrustDesk$Grouping;", true)
  | 4 => ("TrustDesk", "noRules", "LTrustDesk$Act;", true)
  | 5 => ("TrustDesk", "acts", "Ljava/util/ArrayList;", true)
  | 6 => ("TrustDesk", "funds", "Ljava/util/ArrayList;", true)
  | 7 => ("TrustDesk", "nearEnds", "Ljava/util/ArrayList;", true)
  | 8 => ("TrustDesk", "schemes", "Ljava/util/ArrayList;", true)
  | 9 => ("TrustDesk", "entries", "[I", true)
  | 10 => ("TrustDesk", "entryCount", "I", false)
  | 11 => ("TrustDesk", "accountCount", "I", false)
  | _ => ("TrustDesk", "today", "I", false)
def kt_TrustDesk : Nat → FieldType := fun k => match k with
  | 0 => .object "TrustDesk$Facts"
  | 1 => .object "TrustDesk$Reader"
  | 2 => .object "TrustDesk$Reckoner"
  | 3 => .object "TrustDesk$Grouping"
  | 4 => .object "TrustDesk$Act"
  | 5 => .object "java/util/ArrayList"
  | 6 => .object "java/util/ArrayList"
  | 7 => .object "java/util/ArrayList"
  | 8 => .object "java/util/ArrayList"
  | 9 => .array .int
  | 10 => .int
  | 11 => .int
  | _ => .int
theorem kn_TrustDesk : ∀ a, a < 13 → ∀ b, b < 13 → a ≠ b → (kF_TrustDesk a).2.1 ≠ (kF_TrustDesk b).2.1 := by decide +kernel
theorem kto_TrustDesk : ∀ k, k < 13 → parseFieldDescriptor (kF_TrustDesk k).2.2.1 = some (kt_TrustDesk k) := by decide +kernel
theorem ki_TrustDesk : ∀ w ∈ u_ws kR_TrustDesk kF_TrustDesk 13, w ∈ tables_1 := by decide +kernel
def kR_TrustDeskModel : String := "TrustDeskModel"
def kF_TrustDeskModel : u_T := fun k => match k with
  | 0 => ("TrustDeskModel", "thrown", "I", false)
  | 1 => ("TrustDeskModel", "today", "I", false)
  | 2 => ("TrustDeskModel", "facts", "I", false)
  | 3 => ("TrustDeskModel", "fact", "[I", true)
  | 4 => ("TrustDeskModel", "signs", "[I", true)
  | 5 => ("TrustDeskModel", "signMany", "[I", true)
  | 6 => ("TrustDeskModel", "many", "[I", true)
  | 7 => ("TrustDeskModel", "kind", "[I", true)
  | 8 => ("TrustDeskModel", "one", "[I", true)
  | 9 => ("TrustDeskModel", "two", "[I", true)
  | 10 => ("TrustDeskModel", "begins", "[I", true)
  | 11 => ("TrustDeskModel", "middles", "[I", true)
  | 12 => ("TrustDeskModel", "ends", "[I", true)
  | 13 => ("TrustDeskModel", "tape", "[B", true)
  | 14 => ("TrustDeskModel", "taped", "I", false)
  | 15 => ("TrustDeskModel", "at", "I", false)
  | 16 => ("TrustDeskModel", "place", "I", false)
  | 17 => ("TrustDeskModel", "sort", "I", false)
  | 18 => ("TrustDeskModel", "value", "I", false)
  | 19 => ("TrustDeskModel", "fault", "I", false)
  | 20 => ("TrustDeskModel", "faultPlace", "I", false)
  | 21 => ("TrustDeskModel", "lastPlace", "I", false)
  | 22 => ("TrustDeskModel", "open", "I", false)
  | 23 => ("TrustDeskModel", "ofAct", "Z", false)
  | 24 => ("TrustDeskModel", "newEnds", "I", false)
  | 25 => ("TrustDeskModel", "nameFrom", "[I", true)
  | 26 => ("TrustDeskModel", "nameSize", "[I", true)
  | 27 => ("TrustDeskModel", "acts", "I", false)
  | 28 => ("TrustDeskModel", "actFrom", "[I", true)
  | 29 => ("TrustDeskModel", "named", "[I", true)
  | 30 => ("TrustDeskModel", "heap", "[I", true)
  | 31 => ("TrustDeskModel", "firstNot", "I", false)
  | 32 => ("TrustDeskModel", "funds", "I", false)
  | 33 => ("TrustDeskModel", "acres", "[I", true)
  | 34 => ("TrustDeskModel", "stock", "[I", true)
  | 35 => ("TrustDeskModel", "coin", "[J", true)
  | 36 => ("TrustDeskModel", "marks", "[I", true)
  | 37 => ("TrustDeskModel", "joinedTo", "[I", true)
  | 38 => ("TrustDeskModel", "trustMost", "[I", true)
  | 39 => ("TrustDeskModel", "trustYes", "[I", true)
  | 40 => ("TrustDeskModel", "isTrustee", "[Z", true)
  | 41 => ("TrustDeskModel", "part", "[I", true)
  | 42 => ("TrustDeskModel", "paid", "[J", true)
  | 43 => ("TrustDeskModel", "endMany", "[I", true)
  | 44 => ("TrustDeskModel", "endText", "[I", true)
  | 45 => ("TrustDeskModel", "endRow", "[I", true)
  | 46 => ("TrustDeskModel", "endHow", "[I", true)
  | 47 => ("TrustDeskModel", "endFailed", "[I", true)
  | 48 => ("TrustDeskModel", "endDied", "[I", true)
  | 49 => ("TrustDeskModel", "nears", "I", false)
  | 50 => ("TrustDeskModel", "nearMarks", "[I", true)
  | 51 => ("TrustDeskModel", "entries", "I", false)
  | 52 => ("TrustDeskModel", "entry", "[I", true)
  | 53 => ("TrustDeskModel", "schemes", "I", false)
  | 54 => ("TrustDeskModel", "schemeKind", "[I", true)
  | 55 => ("TrustDeskModel", "schemeFund", "[I", true)
  | 56 => ("TrustDeskModel", "schemeX", "[I", true)
  | 57 => ("TrustDeskModel", "schemeDay", "[I", true)
  | 58 => ("TrustDeskModel", "schemeLast", "[I", true)
  | 59 => ("TrustDeskModel", "schemeHow", "[I", true)
  | 60 => ("TrustDeskModel", "schemeBy", "[I", true)
  | 61 => ("TrustDeskModel", "isAgainst", "[Z", true)
  | 62 => ("TrustDeskModel", "said", "[I", true)
  | 63 => ("TrustDeskModel", "over", "[J", true)
  | 64 => ("TrustDeskModel", "tried", "[I", true)
  | 65 => ("TrustDeskModel", "best", "[I", true)
  | 66 => ("TrustDeskModel", "laid", "[I", true)
  | 67 => ("TrustDeskModel", "asked", "I", false)
  | 68 => ("TrustDeskModel", "bestIdle", "J", false)
  | 69 => ("TrustDeskModel", "bestMany", "I", false)
  | 70 => ("TrustDeskModel", "accounts", "I", false)
  | _ => ("TrustDeskModel", "isGiven", "[Z", true)
def kt_TrustDeskModel : Nat → FieldType := fun k => match k with
  | 0 => .int
  | 1 => .int
  | 2 => .int
  | 3 => .array .int
  | 4 => .array .int
  | 5 => .array .int
  | 6 => .array .int
  | 7 => .array .int
  | 8 => .array .int
  | 9 => .array .int
  | 10 => .array .int
  | 11 => .array .int
  | 12 => .array .int
  | 13 => .array .byte
  | 14 => .int
  | 15 => .int
  | 16 => .int
  | 17 => .int
  | 18 => .int
  | 19 => .int
  | 20 => .int
  | 21 => .int
  | 22 => .int
  | 23 => .boolean
  | 24 => .int
  | 25 => .array .int
  | 26 => .array .int
  | 27 => .int
  | 28 => .array .int
  | 29 => .array .int
  | 30 => .array .int
  | 31 => .int
  | 32 => .int
  | 33 => .array .int
  | 34 => .array .int
  | 35 => .array .long
  | 36 => .array .int
  | 37 => .array .int
  | 38 => .array .int
  | 39 => .array .int
  | 40 => .array .boolean
  | 41 => .array .int
  | 42 => .array .long
  | 43 => .array .int
  | 44 => .array .int
  | 45 => .array .int
  | 46 => .array .int
  | 47 => .array .int
  | 48 => .array .int
  | 49 => .int
  | 50 => .array .int
  | 51 => .int
  | 52 => .array .int
  | 53 => .int
  | 54 => .array .int
  | 55 => .array .int
  | 56 => .array .int
  | 57 => .array .int
  | 58 => .array .int
  | 59 => .array .int
  | 60 => .array .int
  | 61 => .array .boolean
  | 62 => .array .int
  | 63 => .array .long
  | 64 => .array .int
  | 65 => .array .int
  | 66 => .array .int
  | 67 => .int
  | 68 => .long
  | 69 => .int
  | 70 => .int
  | _ => .array .boolean
theorem kn_TrustDeskModel : ∀ a, a < 72 → ∀ b, b < 72 → a ≠ b → (kF_TrustDeskModel a).2.1 ≠ (kF_TrustDeskModel b).2.1 := by decide +kernel
theorem kto_TrustDeskModel : ∀ k, k < 72 → parseFieldDescriptor (kF_TrustDeskModel k).2.2.1 = some (kt_TrustDeskModel k) := by decide +kernel
theorem ki_TrustDeskModel : ∀ w ∈ u_ws kR_TrustDeskModel kF_TrustDeskModel 72, w ∈ tables_1 := by decide +kernel
/-- the classes whose objects a run makes, by their numbers: 0 ArrayList, 1 Act, 2 Code, 3 End, 4 EndText, 5 Facts, 6 Fund, 7 Grouping, 8 NearEnd, 9 Reader, 10 Reckoner, 11 Scheme, 12 TrustDesk, 13 TrustDeskModel -/
abbrev kcl : List vw_C := [(kR_ArrayList, kF_ArrayList, 3), (kR_Act, kF_Act, 5), (kR_Code, kF_Code, 1), (kR_End, kF_End, 4), (kR_EndText, kF_EndText, 5), (kR_Facts, kF_Facts, 5), (kR_Fund, kF_Fund, 15), (kR_Grouping, kF_Grouping, 14), (kR_NearEnd, kF_NearEnd, 2), (kR_Reader, kF_Reader, 19), (kR_Reckoner, kF_Reckoner, 5), (kR_Scheme, kF_Scheme, 12), (kR_TrustDesk, kF_TrustDesk, 13), (kR_TrustDeskModel, kF_TrustDeskModel, 72)]
