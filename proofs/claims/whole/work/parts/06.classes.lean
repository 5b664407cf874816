def xR_En : String := "FrameUnwinder$Entry"
def xF_En : u_T := fun k => match k with
  | 0 => ("FrameUnwinder$Entry", "isFrame", "Z", false)
  | 1 => ("FrameUnwinder$Entry", "begins", "I", false)
  | 2 => ("FrameUnwinder$Entry", "instructions", "I", false)
  | 3 => ("FrameUnwinder$Entry", "ends", "I", false)
  | 4 => ("FrameUnwinder$Entry", "common", "I", false)
  | 5 => ("FrameUnwinder$Entry", "code", "I", false)
  | 6 => ("FrameUnwinder$Entry", "data", "I", false)
  | 7 => ("FrameUnwinder$Entry", "returnRegister", "I", false)
  | 8 => ("FrameUnwinder$Entry", "first", "I", false)
  | _ => ("FrameUnwinder$Entry", "range", "I", false)
def xT_En : Nat → FieldType := fun k => match k with
  | 0 => .boolean
  | 1 => .int
  | 2 => .int
  | 3 => .int
  | 4 => .int
  | 5 => .int
  | 6 => .int
  | 7 => .int
  | 8 => .int
  | _ => .int
theorem xn_En : ∀ a, a < 10 → ∀ b, b < 10 → a ≠ b → (xF_En a).2.1 ≠ (xF_En b).2.1 := by decide +kernel
theorem xt_En : ∀ k, k < 10 → parseFieldDescriptor (xF_En k).2.2.1 = some (xT_En k) := by decide +kernel
def xR_Fr : String := "FrameUnwinder$Frame"
def xF_Fr : u_T := fun k => match k with
  | 0 => ("FrameUnwinder$Frame", "values", "[I", true)
  | 1 => ("FrameUnwinder$Frame", "known", "I", false)
  | 2 => ("FrameUnwinder$Frame", "pc", "I", false)
  | _ => ("FrameUnwinder$Frame", "unwound", "I", false)
def xT_Fr : Nat → FieldType := fun k => match k with
  | 0 => .array .int
  | 1 => .int
  | 2 => .int
  | _ => .int
theorem xn_Fr : ∀ a, a < 4 → ∀ b, b < 4 → a ≠ b → (xF_Fr a).2.1 ≠ (xF_Fr b).2.1 := by decide +kernel
theorem xt_Fr : ∀ k, k < 4 → parseFieldDescriptor (xF_Fr k).2.2.1 = some (xT_Fr k) := by decide +kernel
def xR_In : String := "FrameUnwinder$Instruction"
def xF_In : u_T := fun k => match k with
  | 0 => ("FrameUnwinder$Instruction", "operation", "I", false)
  | 1 => ("FrameUnwinder$Instruction", "register", "I", false)
  | 2 => ("FrameUnwinder$Instruction", "number", "I", false)
  | _ => ("FrameUnwinder$Instruction", "bytesFrom", "I", false)
def xT_In : Nat → FieldType := fun k => match k with
  | 0 => .int
  | 1 => .int
  | 2 => .int
  | _ => .int
theorem xn_In : ∀ a, a < 4 → ∀ b, b < 4 → a ≠ b → (xF_In a).2.1 ≠ (xF_In b).2.1 := by decide +kernel
theorem xt_In : ∀ k, k < 4 → parseFieldDescriptor (xF_In k).2.2.1 = some (xT_In k) := by decide +kernel
def xR_La : String := "FrameUnwinder$Layout"
def xF_La : u_T := fun k => match k with
  | 0 => ("FrameUnwinder$Layout", "section", "LFrameUnwinder$Section;", true)
  | 1 => ("FrameUnwinder$Layout", "in", "LFrameUnwinder$Reader;", true)
  | 2 => ("FrameUnwinder$Layout", "instruction", "LFrameUnwinder$Instruction;", true)
  | 3 => ("FrameUnwinder$Layout", "list", "[LFrameUnwinder$Entry;", true)
  | _ => ("FrameUnwinder$Layout", "count", "I", false)
def xT_La : Nat → FieldType := fun k => match k with
  | 0 => .object "FrameUnwinder$Section"
  | 1 => .object "FrameUnwinder$Reader"
  | 2 => .object "FrameUnwinder$Instruction"
  | 3 => .array (.object "FrameUnwinder$Entry")
  | _ => .int
theorem xn_La : ∀ a, a < 5 → ∀ b, b < 5 → a ≠ b → (xF_La a).2.1 ≠ (xF_La b).2.1 := by decide +kernel
theorem xt_La : ∀ k, k < 5 → parseFieldDescriptor (xF_La k).2.2.1 = some (xT_La k) := by decide +kernel
def xR_Me : String := "FrameUnwinder$Memory"
def xF_Me : u_T := fun k => match k with
  | _ => ("FrameUnwinder$Memory", "words", "[I", true)
def xT_Me : Nat → FieldType := fun k => match k with
  | _ => .array .int
theorem xn_Me : ∀ a, a < 1 → ∀ b, b < 1 → a ≠ b → (xF_Me a).2.1 ≠ (xF_Me b).2.1 := by decide +kernel
theorem xt_Me : ∀ k, k < 1 → parseFieldDescriptor (xF_Me k).2.2.1 = some (xT_Me k) := by decide +kernel
def xR_Rd : String := "FrameUnwinder$Reader"
def xF_Rd : u_T := fun k => match k with
  | 0 => ("FrameUnwinder$Reader", "bytes", "[B", true)
  | 1 => ("FrameUnwinder$Reader", "at", "I", false)
  | 2 => ("FrameUnwinder$Reader", "limit", "I", false)
  | _ => ("FrameUnwinder$Reader", "broken", "Z", false)
def xT_Rd : Nat → FieldType := fun k => match k with
  | 0 => .array .byte
  | 1 => .int
  | 2 => .int
  | _ => .boolean
theorem xn_Rd : ∀ a, a < 4 → ∀ b, b < 4 → a ≠ b → (xF_Rd a).2.1 ≠ (xF_Rd b).2.1 := by decide +kernel
theorem xt_Rd : ∀ k, k < 4 → parseFieldDescriptor (xF_Rd k).2.2.1 = some (xT_Rd k) := by decide +kernel
def xR_Rk : String := "FrameUnwinder$Reckoner"
def xF_Rk : u_T := fun k => match k with
  | 0 => ("FrameUnwinder$Reckoner", "in", "LFrameUnwinder$Reader;", true)
  | 1 => ("FrameUnwinder$Reckoner", "memory", "LFrameUnwinder$Memory;", true)
  | 2 => ("FrameUnwinder$Reckoner", "frame", "LFrameUnwinder$Frame;", true)
  | 3 => ("FrameUnwinder$Reckoner", "stack", "[I", true)
  | 4 => ("FrameUnwinder$Reckoner", "height", "I", false)
  | 5 => ("FrameUnwinder$Reckoner", "hasCfa", "Z", false)
  | 6 => ("FrameUnwinder$Reckoner", "cfa", "I", false)
  | _ => ("FrameUnwinder$Reckoner", "begins", "I", false)
def xT_Rk : Nat → FieldType := fun k => match k with
  | 0 => .object "FrameUnwinder$Reader"
  | 1 => .object "FrameUnwinder$Memory"
  | 2 => .object "FrameUnwinder$Frame"
  | 3 => .array .int
  | 4 => .int
  | 5 => .boolean
  | 6 => .int
  | _ => .int
theorem xn_Rk : ∀ a, a < 8 → ∀ b, b < 8 → a ≠ b → (xF_Rk a).2.1 ≠ (xF_Rk b).2.1 := by decide +kernel
theorem xt_Rk : ∀ k, k < 8 → parseFieldDescriptor (xF_Rk k).2.2.1 = some (xT_Rk k) := by decide +kernel
def xR_Ro : String := "FrameUnwinder$Row"
def xF_Ro : u_T := fun k => match k with
  | 0 => ("FrameUnwinder$Row", "kinds", "[I", true)
  | 1 => ("FrameUnwinder$Row", "numbers", "[I", true)
  | _ => ("FrameUnwinder$Row", "seconds", "[I", true)
def xT_Ro : Nat → FieldType := fun k => match k with
  | 0 => .array .int
  | 1 => .array .int
  | _ => .array .int
theorem xn_Ro : ∀ a, a < 3 → ∀ b, b < 3 → a ≠ b → (xF_Ro a).2.1 ≠ (xF_Ro b).2.1 := by decide +kernel
theorem xt_Ro : ∀ k, k < 3 → parseFieldDescriptor (xF_Ro k).2.2.1 = some (xT_Ro k) := by decide +kernel
def xR_Se : String := "FrameUnwinder$Section"
def xF_Se : u_T := fun k => match k with
  | 0 => ("FrameUnwinder$Section", "bytes", "[B", true)
  | _ => ("FrameUnwinder$Section", "size", "I", false)
def xT_Se : Nat → FieldType := fun k => match k with
  | 0 => .array .byte
  | _ => .int
theorem xn_Se : ∀ a, a < 2 → ∀ b, b < 2 → a ≠ b → (xF_Se a).2.1 ≠ (xF_Se b).2.1 := by decide +kernel
theorem xt_Se : ∀ k, k < 2 → parseFieldDescriptor (xF_Se k).2.2.1 = some (xT_Se k) := by decide +kernel
def xR_Tr : String := "FrameUnwinder$Tracer"
def xF_Tr : u_T := fun k => match k with
  | 0 => ("FrameUnwinder$Tracer", "in", "LFrameUnwinder$Reader;", true)
  | 1 => ("FrameUnwinder$Tracer", "instruction", "LFrameUnwinder$Instruction;", true)
  | 2 => ("FrameUnwinder$Tracer", "row", "LFrameUnwinder$Row;", true)
  | 3 => ("FrameUnwinder$Tracer", "commonRow", "LFrameUnwinder$Row;", true)
  | 4 => ("FrameUnwinder$Tracer", "remembered", "[LFrameUnwinder$Row;", true)
  | 5 => ("FrameUnwinder$Tracer", "depth", "I", false)
  | _ => ("FrameUnwinder$Tracer", "place", "I", false)
def xT_Tr : Nat → FieldType := fun k => match k with
  | 0 => .object "FrameUnwinder$Reader"
  | 1 => .object "FrameUnwinder$Instruction"
  | 2 => .object "FrameUnwinder$Row"
  | 3 => .object "FrameUnwinder$Row"
  | 4 => .array (.object "FrameUnwinder$Row")
  | 5 => .int
  | _ => .int
theorem xn_Tr : ∀ a, a < 7 → ∀ b, b < 7 → a ≠ b → (xF_Tr a).2.1 ≠ (xF_Tr b).2.1 := by decide +kernel
theorem xt_Tr : ∀ k, k < 7 → parseFieldDescriptor (xF_Tr k).2.2.1 = some (xT_Tr k) := by decide +kernel
def xR_Fu : String := "FrameUnwinder"
def xF_Fu : u_T := fun k => match k with
  | 0 => ("FrameUnwinder", "section", "LFrameUnwinder$Section;", true)
  | 1 => ("FrameUnwinder", "layout", "LFrameUnwinder$Layout;", true)
  | 2 => ("FrameUnwinder", "tracer", "LFrameUnwinder$Tracer;", true)
  | 3 => ("FrameUnwinder", "memory", "LFrameUnwinder$Memory;", true)
  | 4 => ("FrameUnwinder", "frame", "LFrameUnwinder$Frame;", true)
  | 5 => ("FrameUnwinder", "caller", "LFrameUnwinder$Frame;", true)
  | 6 => ("FrameUnwinder", "reckoner", "LFrameUnwinder$Reckoner;", true)
  | _ => ("FrameUnwinder", "lastValue", "I", false)
def xT_Fu : Nat → FieldType := fun k => match k with
  | 0 => .object "FrameUnwinder$Section"
  | 1 => .object "FrameUnwinder$Layout"
  | 2 => .object "FrameUnwinder$Tracer"
  | 3 => .object "FrameUnwinder$Memory"
  | 4 => .object "FrameUnwinder$Frame"
  | 5 => .object "FrameUnwinder$Frame"
  | 6 => .object "FrameUnwinder$Reckoner"
  | _ => .int
theorem xn_Fu : ∀ a, a < 8 → ∀ b, b < 8 → a ≠ b → (xF_Fu a).2.1 ≠ (xF_Fu b).2.1 := by decide +kernel
theorem xt_Fu : ∀ k, k < 8 → parseFieldDescriptor (xF_Fu k).2.2.1 = some (xT_Fu k) := by decide +kernel
def xR_Md : String := "FrameUnwinderModel"
def xF_Md : u_T := fun k => match k with
  | 0 => ("FrameUnwinderModel", "thrown", "I", false)
  | 1 => ("FrameUnwinderModel", "bytes", "[I", true)
  | 2 => ("FrameUnwinderModel", "size", "I", false)
  | 3 => ("FrameUnwinderModel", "entries", "I", false)
  | 4 => ("FrameUnwinderModel", "begins", "[I", true)
  | 5 => ("FrameUnwinderModel", "isCommon", "[Z", true)
  | 6 => ("FrameUnwinderModel", "common", "[I", true)
  | 7 => ("FrameUnwinderModel", "code", "[I", true)
  | 8 => ("FrameUnwinderModel", "data", "[I", true)
  | 9 => ("FrameUnwinderModel", "back", "[I", true)
  | 10 => ("FrameUnwinderModel", "first", "[I", true)
  | 11 => ("FrameUnwinderModel", "range", "[I", true)
  | 12 => ("FrameUnwinderModel", "from", "[I", true)
  | 13 => ("FrameUnwinderModel", "to", "[I", true)
  | 14 => ("FrameUnwinderModel", "at", "I", false)
  | 15 => ("FrameUnwinderModel", "limit", "I", false)
  | 16 => ("FrameUnwinderModel", "bad", "Z", false)
  | 17 => ("FrameUnwinderModel", "row", "[I", true)
  | 18 => ("FrameUnwinderModel", "commonRow", "[I", true)
  | 19 => ("FrameUnwinderModel", "kept", "[I", true)
  | 20 => ("FrameUnwinderModel", "keptRows", "I", false)
  | 21 => ("FrameUnwinderModel", "place", "I", false)
  | 22 => ("FrameUnwinderModel", "stack", "[I", true)
  | 23 => ("FrameUnwinderModel", "height", "I", false)
  | 24 => ("FrameUnwinderModel", "reckoned", "I", false)
  | 25 => ("FrameUnwinderModel", "value", "I", false)
  | 26 => ("FrameUnwinderModel", "memory", "[I", true)
  | 27 => ("FrameUnwinderModel", "registers", "[I", true)
  | 28 => ("FrameUnwinderModel", "known", "I", false)
  | 29 => ("FrameUnwinderModel", "pc", "I", false)
  | 30 => ("FrameUnwinderModel", "unwound", "I", false)
  | _ => ("FrameUnwinderModel", "next", "[I", true)
def xT_Md : Nat → FieldType := fun k => match k with
  | 0 => .int
  | 1 => .array .int
  | 2 => .int
  | 3 => .int
  | 4 => .array .int
  | 5 => .array .boolean
  | 6 => .array .int
  | 7 => .array .int
  | 8 => .array .int
  | 9 => .array .int
  | 10 => .array .int
  | 11 => .array .int
  | 12 => .array .int
  | 13 => .array .int
  | 14 => .int
  | 15 => .int
  | 16 => .boolean
  | 17 => .array .int
  | 18 => .array .int
  | 19 => .array .int
  | 20 => .int
  | 21 => .int
  | 22 => .array .int
  | 23 => .int
  | 24 => .int
  | 25 => .int
  | 26 => .array .int
  | 27 => .array .int
  | 28 => .int
  | 29 => .int
  | 30 => .int
  | _ => .array .int
theorem xn_Md : ∀ a, a < 32 → ∀ b, b < 32 → a ≠ b → (xF_Md a).2.1 ≠ (xF_Md b).2.1 := by decide +kernel
theorem xt_Md : ∀ k, k < 32 → parseFieldDescriptor (xF_Md k).2.2.1 = some (xT_Md k) := by decide +kernel
abbrev vwCl : List vw_C := [(xR_En, xF_En, 10), (xR_Fr, xF_Fr, 4), (xR_In, xF_In, 4), (xR_La, xF_La, 5), (xR_Me, xF_Me, 1), (xR_Rd, xF_Rd, 4), (xR_Rk, xF_Rk, 8), (xR_Ro, xF_Ro, 3), (xR_Se, xF_Se, 2), (xR_Tr, xF_Tr, 7), (xR_Fu, xF_Fu, 8), (xR_Md, xF_Md, 32)]
abbrev xTy (K : Nat → ClassId) : List (ClassId × FieldType) := [(K 0, .byte), (K 1, .int), (K 2, .boolean), (K 3, .long), (K 4, .object "FrameUnwinder$Entry"), (K 5, .object "FrameUnwinder$Row")]
def LF : Nat := 4096
