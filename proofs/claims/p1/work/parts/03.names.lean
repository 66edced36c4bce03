def RX0 : String := "Selfkindle$Code"
def TX0 : u_T := fun k => match k with
  | 0 => ("Selfkindle$Code", "whats", "[I", true)
  | 1 => ("Selfkindle$Code", "numbers", "[J", true)
  | 2 => ("Selfkindle$Code", "times", "[I", true)
  | 3 => ("Selfkindle$Code", "stops", "[Z", true)
  | 4 => ("Selfkindle$Code", "lengths", "[I", true)
  | 5 => ("Selfkindle$Code", "places", "[I", true)
  | _ => ("Selfkindle$Code", "count", "I", false)
def tyX0 : Nat → FieldType := fun k => match k with
  | 0 => .array .int
  | 1 => .array .long
  | 2 => .array .int
  | 3 => .array .boolean
  | 4 => .array .int
  | 5 => .array .int
  | _ => .int
abbrev wsX00 : List Cond := u_ws RX0 TX0 7
theorem nmX0 : ∀ a, a < 7 → ∀ b, b < 7 → a ≠ b → (TX0 a).2.1 ≠ (TX0 b).2.1 := by decide +kernel
theorem tyX0_ok : ∀ k, k < 7 → parseFieldDescriptor (TX0 k).2.2.1 = some (tyX0 k) := by decide +kernel
def RX1 : String := "Selfkindle$Heap"
def TX1 : u_T := fun k => match k with
  | 0 => ("Selfkindle$Heap", "room", "I", true)
  | 1 => ("Selfkindle$Heap", "kinds", "[I", true)
  | 2 => ("Selfkindle$Heap", "numbers", "[J", true)
  | 3 => ("Selfkindle$Heap", "firsts", "[I", true)
  | 4 => ("Selfkindle$Heap", "seconds", "[I", true)
  | 5 => ("Selfkindle$Heap", "values", "I", false)
  | 6 => ("Selfkindle$Heap", "bound", "[I", true)
  | 7 => ("Selfkindle$Heap", "outers", "[I", true)
  | 8 => ("Selfkindle$Heap", "depths", "[I", true)
  | _ => ("Selfkindle$Heap", "names", "I", false)
def tyX1 : Nat → FieldType := fun k => match k with
  | 0 => .int
  | 1 => .array .int
  | 2 => .array .long
  | 3 => .array .int
  | 4 => .array .int
  | 5 => .int
  | 6 => .array .int
  | 7 => .array .int
  | 8 => .array .int
  | _ => .int
abbrev wsX10 : List Cond := u_ws RX1 TX1 10
theorem nmX1 : ∀ a, a < 10 → ∀ b, b < 10 → a ≠ b → (TX1 a).2.1 ≠ (TX1 b).2.1 := by decide +kernel
theorem tyX1_ok : ∀ k, k < 10 → parseFieldDescriptor (TX1 k).2.2.1 = some (tyX1 k) := by decide +kernel
def RX2 : String := "Selfkindle$Interpreter"
def TX2 : u_T := fun k => match k with
  | 0 => ("Selfkindle$Interpreter", "term", "LSelfkindle$Term;", true)
  | 1 => ("Selfkindle$Interpreter", "heap", "LSelfkindle$Heap;", true)
  | 2 => ("Selfkindle$Interpreter", "terms", "[I", true)
  | 3 => ("Selfkindle$Interpreter", "begun", "[I", true)
  | 4 => ("Selfkindle$Interpreter", "around", "[I", true)
  | 5 => ("Selfkindle$Interpreter", "kept", "[I", true)
  | 6 => ("Selfkindle$Interpreter", "depth", "I", false)
  | 7 => ("Selfkindle$Interpreter", "calls", "I", false)
  | 8 => ("Selfkindle$Interpreter", "result", "I", false)
  | 9 => ("Selfkindle$Interpreter", "outcome", "I", false)
  | _ => ("Selfkindle$Interpreter", "answer", "J", false)
def tyX2 : Nat → FieldType := fun k => match k with
  | 0 => .object "Selfkindle$Term"
  | 1 => .object "Selfkindle$Heap"
  | 2 => .array .int
  | 3 => .array .int
  | 4 => .array .int
  | 5 => .array .int
  | 6 => .int
  | 7 => .int
  | 8 => .int
  | 9 => .int
  | _ => .long
abbrev wsX20 : List Cond := u_ws RX2 TX2 11
theorem nmX2 : ∀ a, a < 11 → ∀ b, b < 11 → a ≠ b → (TX2 a).2.1 ≠ (TX2 b).2.1 := by decide +kernel
theorem tyX2_ok : ∀ k, k < 11 → parseFieldDescriptor (TX2 k).2.2.1 = some (tyX2 k) := by decide +kernel
def RX3 : String := "Selfkindle$Machine"
def TX3 : u_T := fun k => match k with
  | 0 => ("Selfkindle$Machine", "code", "LSelfkindle$Code;", true)
  | 1 => ("Selfkindle$Machine", "heap", "LSelfkindle$Heap;", true)
  | 2 => ("Selfkindle$Machine", "stack", "[I", true)
  | 3 => ("Selfkindle$Machine", "callPlaces", "[I", true)
  | 4 => ("Selfkindle$Machine", "callNames", "[I", true)
  | 5 => ("Selfkindle$Machine", "tryPlaces", "[I", true)
  | 6 => ("Selfkindle$Machine", "tryHeights", "[I", true)
  | 7 => ("Selfkindle$Machine", "tryNames", "[I", true)
  | 8 => ("Selfkindle$Machine", "tryCalls", "[I", true)
  | 9 => ("Selfkindle$Machine", "height", "I", false)
  | 10 => ("Selfkindle$Machine", "names", "I", false)
  | 11 => ("Selfkindle$Machine", "calls", "I", false)
  | 12 => ("Selfkindle$Machine", "tries", "I", false)
  | 13 => ("Selfkindle$Machine", "place", "I", false)
  | 14 => ("Selfkindle$Machine", "steps", "I", false)
  | _ => ("Selfkindle$Machine", "outcome", "I", false)
def tyX3 : Nat → FieldType := fun k => match k with
  | 0 => .object "Selfkindle$Code"
  | 1 => .object "Selfkindle$Heap"
  | 2 => .array .int
  | 3 => .array .int
  | 4 => .array .int
  | 5 => .array .int
  | 6 => .array .int
  | 7 => .array .int
  | 8 => .array .int
  | 9 => .int
  | 10 => .int
  | 11 => .int
  | 12 => .int
  | 13 => .int
  | 14 => .int
  | _ => .int
abbrev wsX30 : List Cond := u_ws RX3 TX3 16
theorem nmX3 : ∀ a, a < 16 → ∀ b, b < 16 → a ≠ b → (TX3 a).2.1 ≠ (TX3 b).2.1 := by decide +kernel
theorem tyX3_ok : ∀ k, k < 16 → parseFieldDescriptor (TX3 k).2.2.1 = some (tyX3 k) := by decide +kernel
def RX4 : String := "Selfkindle$Rewriter"
def TX4 : u_T := fun k => match k with
  | 0 => ("Selfkindle$Rewriter", "made", "LSelfkindle$Term;", true)
  | _ => ("Selfkindle$Rewriter", "spare", "LSelfkindle$Term;", true)
def tyX4 : Nat → FieldType := fun k => match k with
  | 0 => .object "Selfkindle$Term"
  | _ => .object "Selfkindle$Term"
abbrev wsX40 : List Cond := u_ws RX4 TX4 2
theorem nmX4 : ∀ a, a < 2 → ∀ b, b < 2 → a ≠ b → (TX4 a).2.1 ≠ (TX4 b).2.1 := by decide +kernel
theorem tyX4_ok : ∀ k, k < 2 → parseFieldDescriptor (TX4 k).2.2.1 = some (tyX4 k) := by decide +kernel
def RX5 : String := "Selfkindle$Term"
def TX5 : u_T := fun k => match k with
  | 0 => ("Selfkindle$Term", "kinds", "[I", true)
  | 1 => ("Selfkindle$Term", "names", "[I", true)
  | 2 => ("Selfkindle$Term", "others", "[I", true)
  | 3 => ("Selfkindle$Term", "numbers", "[J", true)
  | 4 => ("Selfkindle$Term", "sizes", "[I", true)
  | 5 => ("Selfkindle$Term", "binders", "[I", true)
  | 6 => ("Selfkindle$Term", "distances", "[I", true)
  | _ => ("Selfkindle$Term", "count", "I", false)
def tyX5 : Nat → FieldType := fun k => match k with
  | 0 => .array .int
  | 1 => .array .int
  | 2 => .array .int
  | 3 => .array .long
  | 4 => .array .int
  | 5 => .array .int
  | 6 => .array .int
  | _ => .int
abbrev wsX50 : List Cond := u_ws RX5 TX5 8
theorem nmX5 : ∀ a, a < 8 → ∀ b, b < 8 → a ≠ b → (TX5 a).2.1 ≠ (TX5 b).2.1 := by decide +kernel
theorem tyX5_ok : ∀ k, k < 8 → parseFieldDescriptor (TX5 k).2.2.1 = some (tyX5 k) := by decide +kernel
def RX6 : String := "Selfkindle$Types"
def TX6 : u_T := fun k => match k with
  | 0 => ("Selfkindle$Types", "heads", "[I", true)
  | 1 => ("Selfkindle$Types", "lefts", "[I", true)
  | 2 => ("Selfkindle$Types", "rights", "[I", true)
  | 3 => ("Selfkindle$Types", "copies", "[I", true)
  | 4 => ("Selfkindle$Types", "count", "I", false)
  | 5 => ("Selfkindle$Types", "row", "[I", true)
  | 6 => ("Selfkindle$Types", "work", "[I", true)
  | 7 => ("Selfkindle$Types", "pairs", "[I", true)
  | 8 => ("Selfkindle$Types", "typeOfPart", "[I", true)
  | 9 => ("Selfkindle$Types", "typeOfName", "[I", true)
  | 10 => ("Selfkindle$Types", "levels", "[I", true)
  | 11 => ("Selfkindle$Types", "parents", "[I", true)
  | 12 => ("Selfkindle$Types", "answer", "[I", true)
  | 13 => ("Selfkindle$Types", "answered", "I", false)
  | _ => ("Selfkindle$Types", "isWrong", "Z", false)
def tyX6 : Nat → FieldType := fun k => match k with
  | 0 => .array .int
  | 1 => .array .int
  | 2 => .array .int
  | 3 => .array .int
  | 4 => .int
  | 5 => .array .int
  | 6 => .array .int
  | 7 => .array .int
  | 8 => .array .int
  | 9 => .array .int
  | 10 => .array .int
  | 11 => .array .int
  | 12 => .array .int
  | 13 => .int
  | _ => .boolean
abbrev wsX60 : List Cond := u_ws RX6 TX6 15
theorem nmX6 : ∀ a, a < 15 → ∀ b, b < 15 → a ≠ b → (TX6 a).2.1 ≠ (TX6 b).2.1 := by decide +kernel
theorem tyX6_ok : ∀ k, k < 15 → parseFieldDescriptor (TX6 k).2.2.1 = some (tyX6 k) := by decide +kernel
def RX7 : String := "Selfkindle"
def TX7 : u_T := fun k => match k with
  | 0 => ("Selfkindle", "pile", "LSelfkindle$Term;", true)
  | 1 => ("Selfkindle", "height", "I", false)
  | 2 => ("Selfkindle", "told", "LSelfkindle$Term;", true)
  | 3 => ("Selfkindle", "current", "LSelfkindle$Term;", true)
  | 4 => ("Selfkindle", "wrong", "I", false)
  | 5 => ("Selfkindle", "rewriter", "LSelfkindle$Rewriter;", true)
  | 6 => ("Selfkindle", "types", "LSelfkindle$Types;", true)
  | 7 => ("Selfkindle", "code", "LSelfkindle$Code;", true)
  | 8 => ("Selfkindle", "runner", "LSelfkindle$Machine;", true)
  | 9 => ("Selfkindle", "interpreter", "LSelfkindle$Interpreter;", false)
  | _ => ("Selfkindle", "isInterpreted", "Z", false)
def tyX7 : Nat → FieldType := fun k => match k with
  | 0 => .object "Selfkindle$Term"
  | 1 => .int
  | 2 => .object "Selfkindle$Term"
  | 3 => .object "Selfkindle$Term"
  | 4 => .int
  | 5 => .object "Selfkindle$Rewriter"
  | 6 => .object "Selfkindle$Types"
  | 7 => .object "Selfkindle$Code"
  | 8 => .object "Selfkindle$Machine"
  | 9 => .object "Selfkindle$Interpreter"
  | _ => .boolean
abbrev wsX70 : List Cond := u_ws RX7 TX7 11
theorem nmX7 : ∀ a, a < 11 → ∀ b, b < 11 → a ≠ b → (TX7 a).2.1 ≠ (TX7 b).2.1 := by decide +kernel
theorem tyX7_ok : ∀ k, k < 11 → parseFieldDescriptor (TX7 k).2.2.1 = some (tyX7 k) := by decide +kernel
def RX8 : String := "SelfkindleModel$Mark"
def TX8 : u_T := fun k => match k with
  | 0 => ("SelfkindleModel$Mark", "isTry", "Z", true)
  | 1 => ("SelfkindleModel$Mark", "place", "I", true)
  | 2 => ("SelfkindleModel$Mark", "names", "LSelfkindleModel$Names;", true)
  | _ => ("SelfkindleModel$Mark", "height", "I", true)
def tyX8 : Nat → FieldType := fun k => match k with
  | 0 => .boolean
  | 1 => .int
  | 2 => .object "SelfkindleModel$Names"
  | _ => .int
abbrev wsX80 : List Cond := u_ws RX8 TX8 4
theorem nmX8 : ∀ a, a < 4 → ∀ b, b < 4 → a ≠ b → (TX8 a).2.1 ≠ (TX8 b).2.1 := by decide +kernel
theorem tyX8_ok : ∀ k, k < 4 → parseFieldDescriptor (TX8 k).2.2.1 = some (tyX8 k) := by decide +kernel
def RX9 : String := "SelfkindleModel$Names"
def TX9 : u_T := fun k => match k with
  | 0 => ("SelfkindleModel$Names", "name", "I", true)
  | 1 => ("SelfkindleModel$Names", "type", "LSelfkindleModel$Type;", true)
  | 2 => ("SelfkindleModel$Names", "isGeneral", "Z", true)
  | 3 => ("SelfkindleModel$Names", "value", "LSelfkindleModel$Value;", true)
  | _ => ("SelfkindleModel$Names", "outer", "LSelfkindleModel$Names;", true)
def tyX9 : Nat → FieldType := fun k => match k with
  | 0 => .int
  | 1 => .object "SelfkindleModel$Type"
  | 2 => .boolean
  | 3 => .object "SelfkindleModel$Value"
  | _ => .object "SelfkindleModel$Names"
abbrev wsX90 : List Cond := u_ws RX9 TX9 5
theorem nmX9 : ∀ a, a < 5 → ∀ b, b < 5 → a ≠ b → (TX9 a).2.1 ≠ (TX9 b).2.1 := by decide +kernel
theorem tyX9_ok : ∀ k, k < 5 → parseFieldDescriptor (TX9 k).2.2.1 = some (tyX9 k) := by decide +kernel
def RX10 : String := "SelfkindleModel$Order"
def TX10 : u_T := fun k => match k with
  | 0 => ("SelfkindleModel$Order", "what", "I", true)
  | 1 => ("SelfkindleModel$Order", "number", "J", false)
  | 2 => ("SelfkindleModel$Order", "times", "I", false)
  | _ => ("SelfkindleModel$Order", "isStop", "Z", false)
def tyX10 : Nat → FieldType := fun k => match k with
  | 0 => .int
  | 1 => .long
  | 2 => .int
  | _ => .boolean
abbrev wsX100 : List Cond := u_ws RX10 TX10 4
theorem nmX10 : ∀ a, a < 4 → ∀ b, b < 4 → a ≠ b → (TX10 a).2.1 ≠ (TX10 b).2.1 := by decide +kernel
theorem tyX10_ok : ∀ k, k < 4 → parseFieldDescriptor (TX10 k).2.2.1 = some (tyX10 k) := by decide +kernel
def RX11 : String := "SelfkindleModel$Raised"
def TX11 : u_T := fun k => match k with
  | 0 => ("java/lang/Throwable", "cause", "Ljava/lang/Throwable;", false)
  | 1 => ("java/lang/Throwable", "stackTrace", "[Ljava/lang/StackTraceElement;", false)
  | 2 => ("java/lang/Throwable", "suppressedExceptions", "Ljava/util/List;", false)
  | 3 => ("java/lang/Throwable", "detailMessage", "Ljava/lang/String;", false)
  | 4 => ("java/lang/Throwable", "backtrace", "Ljava/lang/Object;", false)
  | 5 => ("java/lang/Throwable", "depth", "I", false)
  | _ => ("SelfkindleModel$Raised", "number", "J", true)
def tyX11 : Nat → FieldType := fun k => match k with
  | 0 => .object "java/lang/Throwable"
  | 1 => .array (.object "java/lang/StackTraceElement")
  | 2 => .object "java/util/List"
  | 3 => .object "java/lang/String"
  | 4 => .object "java/lang/Object"
  | 5 => .int
  | _ => .long
abbrev wsX110 : List Cond := u_ws RX11 TX11 7
theorem nmX11 : ∀ a, a < 7 → ∀ b, b < 7 → a ≠ b → (TX11 a).2.1 ≠ (TX11 b).2.1 := by decide +kernel
theorem tyX11_ok : ∀ k, k < 7 → parseFieldDescriptor (TX11 k).2.2.1 = some (tyX11 k) := by decide +kernel
def RX12 : String := "SelfkindleModel$Term"
def TX12 : u_T := fun k => match k with
  | 0 => ("SelfkindleModel$Term", "kind", "I", true)
  | 1 => ("SelfkindleModel$Term", "number", "J", true)
  | 2 => ("SelfkindleModel$Term", "x", "I", true)
  | 3 => ("SelfkindleModel$Term", "parts", "[LSelfkindleModel$Term;", true)
  | _ => ("SelfkindleModel$Term", "size", "I", true)
def tyX12 : Nat → FieldType := fun k => match k with
  | 0 => .int
  | 1 => .long
  | 2 => .int
  | 3 => .array (.object "SelfkindleModel$Term")
  | _ => .int
abbrev wsX120 : List Cond := u_ws RX12 TX12 5
theorem nmX12 : ∀ a, a < 5 → ∀ b, b < 5 → a ≠ b → (TX12 a).2.1 ≠ (TX12 b).2.1 := by decide +kernel
theorem tyX12_ok : ∀ k, k < 5 → parseFieldDescriptor (TX12 k).2.2.1 = some (tyX12 k) := by decide +kernel
def RX13 : String := "SelfkindleModel$Tired"
def TX13 : u_T := fun k => match k with
  | 0 => ("java/lang/Throwable", "cause", "Ljava/lang/Throwable;", false)
  | 1 => ("java/lang/Throwable", "stackTrace", "[Ljava/lang/StackTraceElement;", false)
  | 2 => ("java/lang/Throwable", "suppressedExceptions", "Ljava/util/List;", false)
  | 3 => ("java/lang/Throwable", "detailMessage", "Ljava/lang/String;", false)
  | 4 => ("java/lang/Throwable", "backtrace", "Ljava/lang/Object;", false)
  | _ => ("java/lang/Throwable", "depth", "I", false)
def tyX13 : Nat → FieldType := fun k => match k with
  | 0 => .object "java/lang/Throwable"
  | 1 => .array (.object "java/lang/StackTraceElement")
  | 2 => .object "java/util/List"
  | 3 => .object "java/lang/String"
  | 4 => .object "java/lang/Object"
  | _ => .int
abbrev wsX130 : List Cond := u_ws RX13 TX13 6
theorem nmX13 : ∀ a, a < 6 → ∀ b, b < 6 → a ≠ b → (TX13 a).2.1 ≠ (TX13 b).2.1 := by decide +kernel
theorem tyX13_ok : ∀ k, k < 6 → parseFieldDescriptor (TX13 k).2.2.1 = some (tyX13 k) := by decide +kernel
def RX14 : String := "SelfkindleModel$Type"
def TX14 : u_T := fun k => match k with
  | 0 => ("SelfkindleModel$Type", "kind", "I", true)
  | 1 => ("SelfkindleModel$Type", "a", "LSelfkindleModel$Type;", true)
  | 2 => ("SelfkindleModel$Type", "b", "LSelfkindleModel$Type;", true)
  | _ => ("SelfkindleModel$Type", "is", "LSelfkindleModel$Type;", false)
def tyX14 : Nat → FieldType := fun k => match k with
  | 0 => .int
  | 1 => .object "SelfkindleModel$Type"
  | 2 => .object "SelfkindleModel$Type"
  | _ => .object "SelfkindleModel$Type"
abbrev wsX140 : List Cond := u_ws RX14 TX14 4
theorem nmX14 : ∀ a, a < 4 → ∀ b, b < 4 → a ≠ b → (TX14 a).2.1 ≠ (TX14 b).2.1 := by decide +kernel
theorem tyX14_ok : ∀ k, k < 4 → parseFieldDescriptor (TX14 k).2.2.1 = some (tyX14 k) := by decide +kernel
def RX15 : String := "SelfkindleModel$Value"
def TX15 : u_T := fun k => match k with
  | 0 => ("SelfkindleModel$Value", "kind", "I", true)
  | 1 => ("SelfkindleModel$Value", "number", "J", true)
  | 2 => ("SelfkindleModel$Value", "place", "I", true)
  | 3 => ("SelfkindleModel$Value", "isRec", "Z", true)
  | 4 => ("SelfkindleModel$Value", "term", "LSelfkindleModel$Term;", true)
  | 5 => ("SelfkindleModel$Value", "names", "LSelfkindleModel$Names;", true)
  | 6 => ("SelfkindleModel$Value", "a", "LSelfkindleModel$Value;", true)
  | _ => ("SelfkindleModel$Value", "b", "LSelfkindleModel$Value;", true)
def tyX15 : Nat → FieldType := fun k => match k with
  | 0 => .int
  | 1 => .long
  | 2 => .int
  | 3 => .boolean
  | 4 => .object "SelfkindleModel$Term"
  | 5 => .object "SelfkindleModel$Names"
  | 6 => .object "SelfkindleModel$Value"
  | _ => .object "SelfkindleModel$Value"
abbrev wsX150 : List Cond := u_ws RX15 TX15 8
theorem nmX15 : ∀ a, a < 8 → ∀ b, b < 8 → a ≠ b → (TX15 a).2.1 ≠ (TX15 b).2.1 := by decide +kernel
theorem tyX15_ok : ∀ k, k < 8 → parseFieldDescriptor (TX15 k).2.2.1 = some (tyX15 k) := by decide +kernel
def RX16 : String := "SelfkindleModel"
def TX16 : u_T := fun k => match k with
  | 0 => ("SelfkindleModel", "pile", "Ljava/util/ArrayList;", true)
  | 1 => ("SelfkindleModel", "told", "LSelfkindleModel$Term;", false)
  | 2 => ("SelfkindleModel", "program", "LSelfkindleModel$Term;", false)
  | 3 => ("SelfkindleModel", "wrong", "I", false)
  | 4 => ("SelfkindleModel", "thrown", "I", false)
  | 5 => ("SelfkindleModel", "found", "Ljava/util/ArrayList;", true)
  | 6 => ("SelfkindleModel", "counting", "Ljava/util/ArrayList;", true)
  | 7 => ("SelfkindleModel", "looking", "Ljava/util/ArrayList;", true)
  | 8 => ("SelfkindleModel", "looked", "Ljava/util/ArrayList;", true)
  | 9 => ("SelfkindleModel", "joining", "Ljava/util/ArrayList;", true)
  | 10 => ("SelfkindleModel", "typedOf", "LSelfkindleModel$Term;", false)
  | 11 => ("SelfkindleModel", "typed", "LSelfkindleModel$Type;", false)
  | 12 => ("SelfkindleModel", "changed", "I", false)
  | 13 => ("SelfkindleModel", "orders", "Ljava/util/ArrayList;", true)
  | 14 => ("SelfkindleModel", "state", "I", false)
  | 15 => ("SelfkindleModel", "place", "I", false)
  | 16 => ("SelfkindleModel", "steps", "I", false)
  | 17 => ("SelfkindleModel", "given", "J", false)
  | 18 => ("SelfkindleModel", "names", "LSelfkindleModel$Names;", false)
  | 19 => ("SelfkindleModel", "stack", "Ljava/util/ArrayList;", true)
  | 20 => ("SelfkindleModel", "marks", "Ljava/util/ArrayList;", true)
  | 21 => ("SelfkindleModel", "calls", "I", false)
  | 22 => ("SelfkindleModel", "deep", "I", false)
  | _ => ("SelfkindleModel", "anew", "J", false)
def tyX16 : Nat → FieldType := fun k => match k with
  | 0 => .object "java/util/ArrayList"
  | 1 => .object "SelfkindleModel$Term"
  | 2 => .object "SelfkindleModel$Term"
  | 3 => .int
  | 4 => .int
  | 5 => .object "java/util/ArrayList"
  | 6 => .object "java/util/ArrayList"
  | 7 => .object "java/util/ArrayList"
  | 8 => .object "java/util/ArrayList"
  | 9 => .object "java/util/ArrayList"
  | 10 => .object "SelfkindleModel$Term"
  | 11 => .object "SelfkindleModel$Type"
  | 12 => .int
  | 13 => .object "java/util/ArrayList"
  | 14 => .int
  | 15 => .int
  | 16 => .int
  | 17 => .long
  | 18 => .object "SelfkindleModel$Names"
  | 19 => .object "java/util/ArrayList"
  | 20 => .object "java/util/ArrayList"
  | 21 => .int
  | 22 => .int
  | _ => .long
abbrev wsX160 : List Cond := u_ws RX16 TX16 24
theorem nmX16 : ∀ a, a < 24 → ∀ b, b < 24 → a ≠ b → (TX16 a).2.1 ≠ (TX16 b).2.1 := by decide +kernel
theorem tyX16_ok : ∀ k, k < 24 → parseFieldDescriptor (TX16 k).2.2.1 = some (tyX16 k) := by decide +kernel
def RJx4a65c : String := "java/util/ArrayList"
def TJx4a65c : u_T := fun k => match k with
  | 0 => ("java/util/AbstractList", "modCount", "I", false)
  | 1 => ("java/util/ArrayList", "elementData", "[Ljava/lang/Object;", false)
  | _ => ("java/util/ArrayList", "size", "I", false)
def tyJx4a65c : Nat → FieldType := fun k => match k with
  | 0 => .int
  | 1 => .array (.object "java/lang/Object")
  | _ => .int
abbrev wsJx4a65c0 : List Cond := u_ws RJx4a65c TJx4a65c 3
theorem nmJx4a65c : ∀ a, a < 3 → ∀ b, b < 3 → a ≠ b → (TJx4a65c a).2.1 ≠ (TJx4a65c b).2.1 := by decide +kernel
theorem tyJx4a65c_ok : ∀ k, k < 3 → parseFieldDescriptor (TJx4a65c k).2.2.1 = some (tyJx4a65c k) := by decide +kernel
abbrev vwCl : List vw_C := [(RJx4a65c, TJx4a65c, 3), (RX0, TX0, 7), (RX1, TX1, 10), (RX2, TX2, 11), (RX3, TX3, 16), (RX4, TX4, 2), (RX5, TX5, 8), (RX6, TX6, 15), (RX7, TX7, 11), (RX8, TX8, 4), (RX9, TX9, 5), (RX10, TX10, 4), (RX11, TX11, 7), (RX12, TX12, 5), (RX13, TX13, 6), (RX14, TX14, 4), (RX15, TX15, 8), (RX16, TX16, 24)]
