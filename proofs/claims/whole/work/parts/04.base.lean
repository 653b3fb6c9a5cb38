/-! names of classes, from the print of the task; small rows of our own -/
def RX0 : String := "Patchferry$Blocks"
def RX1 : String := "Patchferry$Differ"
def RX2 : String := "Patchferry$Disk"
def RX3 : String := "Patchferry$Edits"
def RX4 : String := "Patchferry$Patch"
def RX5 : String := "Patchferry$Program"
def RX6 : String := "Patchferry$Row"
def RX7 : String := "Patchferry$Runs"
def RX8 : String := "Patchferry$Store"
def RX9 : String := "Patchferry$Tree"
def RX10 : String := "Patchferry$Versions"
def RX11 : String := "Patchferry"
def RX12 : String := "PatchferryModel$Edit"
def RX13 : String := "PatchferryModel$Patch"
def RX14 : String := "PatchferryModel$Step"
def RJx145de : String := "java/io/Serializable"
def RJ5 : String := "java/lang/AbstractStringBuilder"
def RJx2cfe8 : String := "java/lang/Appendable"
def RJx00060 : String := "java/lang/ArrayIndexOutOfBoundsException"
def RJx9f9b0 : String := "java/lang/CharSequence"
def RJx8e188 : String := "java/lang/Cloneable"
def RJxb160c : String := "java/lang/Comparable"
def RJxabbfe : String := "java/lang/Integer$IntegerCache"
def RJ6 : String := "java/lang/Integer"
def RJxab1ab : String := "java/lang/Iterable"
def RJ9 : String := "java/lang/Math"
def RJxd2413 : String := "java/lang/Number"
def RJ0 : String := "java/lang/String"
def RJ4 : String := "java/lang/StringBuilder"
def RJx7c733 : String := "java/lang/StringIndexOutOfBoundsException"
def RJ1 : String := "java/lang/StringLatin1"
def RJ2 : String := "java/lang/StringUTF16"
def RJ10 : String := "java/lang/System"
def RJxfd54e : String := "java/lang/constant/Constable"
def RJx3cf43 : String := "java/lang/constant/ConstantDesc"
def RJxa1e45 : String := "java/util/AbstractCollection"
def RJxc12de : String := "java/util/AbstractList"
def RJx35411 : String := "java/util/ArrayList$Itr"
def RJx4a65c : String := "java/util/ArrayList"
def RJ7 : String := "java/util/Arrays"
def RJx5ef63 : String := "java/util/Collection"
def RJx4d0d8 : String := "java/util/Iterator"
def RJxbd725 : String := "java/util/List"
def RJ15 : String := "java/util/Objects"
def RJxf0a74 : String := "java/util/RandomAccess"
def RJxa66e6 : String := "java/util/SequencedCollection"
def RJ8 : String := "jdk/internal/util/ArraysSupport"
def RJ3 : String := "jdk/internal/util/Preconditions"
def RL : String := "PatchferryLaw"
def TJ0 : u_T := fun k => match k with
  | 0 => ("java/lang/String", "value", "[B", true)
  | 1 => ("java/lang/String", "coder", "B", true)
  | 2 => ("java/lang/String", "hash", "I", false)
  | _ => ("java/lang/String", "hashIsZero", "Z", false)
def tyJ0 : Nat → FieldType := fun k => match k with
  | 0 => .array .byte
  | 1 => .byte
  | 2 => .int
  | _ => .boolean
abbrev wsJ00 : List Cond := u_ws RJ0 TJ0 4
theorem nmJ0 : ∀ a, a < 4 → ∀ b, b < 4 → a ≠ b → (TJ0 a).2.1 ≠ (TJ0 b).2.1 := by decide +kernel
theorem tyJ0_ok : ∀ k, k < 4 → parseFieldDescriptor (TJ0 k).2.2.1 = some (tyJ0 k) := by decide +kernel
def TJ4 : u_T := fun k => match k with
  | 0 => ("java/lang/AbstractStringBuilder", "value", "[B", false)
  | 1 => ("java/lang/AbstractStringBuilder", "coder", "B", false)
  | 2 => ("java/lang/AbstractStringBuilder", "maybeLatin1", "Z", false)
  | _ => ("java/lang/AbstractStringBuilder", "count", "I", false)
def tyJ4 : Nat → FieldType := fun k => match k with
  | 0 => .array .byte
  | 1 => .byte
  | 2 => .boolean
  | _ => .int
abbrev wsJ40 : List Cond := u_ws RJ4 TJ4 4
theorem nmJ4 : ∀ a, a < 4 → ∀ b, b < 4 → a ≠ b → (TJ4 a).2.1 ≠ (TJ4 b).2.1 := by decide +kernel
theorem tyJ4_ok : ∀ k, k < 4 → parseFieldDescriptor (TJ4 k).2.2.1 = some (tyJ4 k) := by decide +kernel
def TJ6 : u_T := fun k => match k with
  | _ => ("java/lang/Integer", "value", "I", true)
def tyJ6 : Nat → FieldType := fun k => match k with
  | _ => .int
abbrev wsJ60 : List Cond := u_ws RJ6 TJ6 1
theorem nmJ6 : ∀ a, a < 1 → ∀ b, b < 1 → a ≠ b → (TJ6 a).2.1 ≠ (TJ6 b).2.1 := by decide +kernel
theorem tyJ6_ok : ∀ k, k < 1 → parseFieldDescriptor (TJ6 k).2.2.1 = some (tyJ6 k) := by decide +kernel
def TJx00060 : u_T := fun k => match k with
  | 0 => ("java/lang/Throwable", "cause", "Ljava/lang/Throwable;", false)
  | 1 => ("java/lang/Throwable", "stackTrace", "[Ljava/lang/StackTraceElement;", false)
  | 2 => ("java/lang/Throwable", "suppressedExceptions", "Ljava/util/List;", false)
  | 3 => ("java/lang/Throwable", "detailMessage", "Ljava/lang/String;", false)
  | 4 => ("java/lang/Throwable", "backtrace", "Ljava/lang/Object;", false)
  | _ => ("java/lang/Throwable", "depth", "I", false)
def tyJx00060 : Nat → FieldType := fun k => match k with
  | 0 => .object "java/lang/Throwable"
  | 1 => .array (.object "java/lang/StackTraceElement")
  | 2 => .object "java/util/List"
  | 3 => .object "java/lang/String"
  | 4 => .object "java/lang/Object"
  | _ => .int
abbrev wsJx000600 : List Cond := u_ws RJx00060 TJx00060 6
theorem nmJx00060 : ∀ a, a < 6 → ∀ b, b < 6 → a ≠ b → (TJx00060 a).2.1 ≠ (TJx00060 b).2.1 := by decide +kernel
theorem tyJx00060_ok : ∀ k, k < 6 → parseFieldDescriptor (TJx00060 k).2.2.1 = some (tyJx00060 k) := by decide +kernel
def TJx7c733 : u_T := fun k => match k with
  | 0 => ("java/lang/Throwable", "backtrace", "Ljava/lang/Object;", false)
  | 1 => ("java/lang/Throwable", "detailMessage", "Ljava/lang/String;", false)
  | 2 => ("java/lang/Throwable", "cause", "Ljava/lang/Throwable;", false)
  | 3 => ("java/lang/Throwable", "stackTrace", "[Ljava/lang/StackTraceElement;", false)
  | 4 => ("java/lang/Throwable", "depth", "I", false)
  | _ => ("java/lang/Throwable", "suppressedExceptions", "Ljava/util/List;", false)
def tyJx7c733 : Nat → FieldType := fun k => match k with
  | 0 => .object "java/lang/Object"
  | 1 => .object "java/lang/String"
  | 2 => .object "java/lang/Throwable"
  | 3 => .array (.object "java/lang/StackTraceElement")
  | 4 => .int
  | _ => .object "java/util/List"
abbrev wsJx7c7330 : List Cond := u_ws RJx7c733 TJx7c733 6
theorem nmJx7c733 : ∀ a, a < 6 → ∀ b, b < 6 → a ≠ b → (TJx7c733 a).2.1 ≠ (TJx7c733 b).2.1 := by decide +kernel
theorem tyJx7c733_ok : ∀ k, k < 6 → parseFieldDescriptor (TJx7c733 k).2.2.1 = some (tyJx7c733 k) := by decide +kernel
def TJx35411 : u_T := fun k => match k with
  | 0 => ("java/util/ArrayList$Itr", "cursor", "I", false)
  | 1 => ("java/util/ArrayList$Itr", "lastRet", "I", false)
  | 2 => ("java/util/ArrayList$Itr", "expectedModCount", "I", false)
  | _ => ("java/util/ArrayList$Itr", "this$0", "Ljava/util/ArrayList;", true)
def tyJx35411 : Nat → FieldType := fun k => match k with
  | 0 => .int
  | 1 => .int
  | 2 => .int
  | _ => .object "java/util/ArrayList"
abbrev wsJx354110 : List Cond := u_ws RJx35411 TJx35411 4
theorem nmJx35411 : ∀ a, a < 4 → ∀ b, b < 4 → a ≠ b → (TJx35411 a).2.1 ≠ (TJx35411 b).2.1 := by decide +kernel
theorem tyJx35411_ok : ∀ k, k < 4 → parseFieldDescriptor (TJx35411 k).2.2.1 = some (tyJx35411 k) := by decide +kernel
def TJx4a65c : u_T := fun k => match k with
  | 0 => ("java/util/AbstractList", "modCount", "I", false)
  | 1 => ("java/util/ArrayList", "elementData", "[Ljava/lang/Object;", false)
  | _ => ("java/util/ArrayList", "size", "I", false)
def tyJx4a65c : Nat → FieldType := fun k => match k with
  | 0 => .int
  | 1 => .array (.object "java/lang/Object")
  | _ => .int
abbrev wsJx4a65c0 : List Cond := u_ws RJx4a65c TJx4a65c 3
theorem nmJx4a65c : ∀ a, a < 3 → ∀ b, b < 3 → a ≠ b → (TJx4a65c a).2.1 ≠ (TJx4a65c b).2.1 := by decide +kernel
theorem tyJx4a65c_ok : ∀ k, k < 3 → parseFieldDescriptor (TJx4a65c k).2.2.1 = some (tyJx4a65c k) := by decide +kernel
def TX0 : u_T := fun k => match k with
  | 0 => ("Patchferry$Blocks", "weaks", "LPatchferry$Row;", true)
  | 1 => ("Patchferry$Blocks", "strongs", "LPatchferry$Row;", true)
  | 2 => ("Patchferry$Blocks", "plain", "I", false)
  | 3 => ("Patchferry$Blocks", "wrong", "I", false)
  | _ => ("Patchferry$Blocks", "used", "I", false)
def tyX0 : Nat → FieldType := fun k => match k with
  | 0 => .object "Patchferry$Row"
  | 1 => .object "Patchferry$Row"
  | 2 => .int
  | 3 => .int
  | _ => .int
abbrev wsX00 : List Cond := u_ws RX0 TX0 5
theorem nmX0 : ∀ a, a < 5 → ∀ b, b < 5 → a ≠ b → (TX0 a).2.1 ≠ (TX0 b).2.1 := by decide +kernel
theorem tyX0_ok : ∀ k, k < 5 → parseFieldDescriptor (TX0 k).2.2.1 = some (tyX0 k) := by decide +kernel
def TX1 : u_T := fun k => match k with
  | 0 => ("Patchferry$Differ", "before", "LPatchferry$Runs;", true)
  | 1 => ("Patchferry$Differ", "after", "LPatchferry$Runs;", true)
  | 2 => ("Patchferry$Differ", "spot", "I", false)
  | 3 => ("Patchferry$Differ", "foundSize", "I", false)
  | 4 => ("Patchferry$Differ", "foundFrom", "I", false)
  | 5 => ("Patchferry$Differ", "stretched", "I", false)
  | 6 => ("Patchferry$Differ", "unlike", "I", false)
  | 7 => ("Patchferry$Differ", "from", "I", false)
  | 8 => ("Patchferry$Differ", "size", "I", false)
  | _ => ("Patchferry$Differ", "changed", "I", false)
def tyX1 : Nat → FieldType := fun k => match k with
  | 0 => .object "Patchferry$Runs"
  | 1 => .object "Patchferry$Runs"
  | 2 => .int
  | 3 => .int
  | 4 => .int
  | 5 => .int
  | 6 => .int
  | 7 => .int
  | 8 => .int
  | _ => .int
abbrev wsX10 : List Cond := u_ws RX1 TX1 10
theorem nmX1 : ∀ a, a < 10 → ∀ b, b < 10 → a ≠ b → (TX1 a).2.1 ≠ (TX1 b).2.1 := by decide +kernel
theorem tyX1_ok : ∀ k, k < 10 → parseFieldDescriptor (TX1 k).2.2.1 = some (tyX1 k) := by decide +kernel
def TX2 : u_T := fun k => match k with
  | 0 => ("Patchferry$Disk", "cells", "LPatchferry$Row;", true)
  | 1 => ("Patchferry$Disk", "ahead", "LPatchferry$Row;", true)
  | 2 => ("Patchferry$Disk", "hand", "LPatchferry$Row;", true)
  | 3 => ("Patchferry$Disk", "begins", "LPatchferry$Row;", true)
  | 4 => ("Patchferry$Disk", "needs", "LPatchferry$Row;", true)
  | 5 => ("Patchferry$Disk", "order", "LPatchferry$Row;", true)
  | 6 => ("Patchferry$Disk", "laid", "LPatchferry$Patch;", false)
  | 7 => ("Patchferry$Disk", "isLaid", "Z", false)
  | 8 => ("Patchferry$Disk", "saved", "I", false)
  | 9 => ("Patchferry$Disk", "savedSize", "I", false)
  | 10 => ("Patchferry$Disk", "done", "I", false)
  | _ => ("Patchferry$Disk", "cut", "I", false)
def tyX2 : Nat → FieldType := fun k => match k with
  | 0 => .object "Patchferry$Row"
  | 1 => .object "Patchferry$Row"
  | 2 => .object "Patchferry$Row"
  | 3 => .object "Patchferry$Row"
  | 4 => .object "Patchferry$Row"
  | 5 => .object "Patchferry$Row"
  | 6 => .object "Patchferry$Patch"
  | 7 => .boolean
  | 8 => .int
  | 9 => .int
  | 10 => .int
  | _ => .int
abbrev wsX20 : List Cond := u_ws RX2 TX2 12
theorem nmX2 : ∀ a, a < 12 → ∀ b, b < 12 → a ≠ b → (TX2 a).2.1 ≠ (TX2 b).2.1 := by decide +kernel
theorem tyX2_ok : ∀ k, k < 12 → parseFieldDescriptor (TX2 k).2.2.1 = some (tyX2 k) := by decide +kernel
def TX3 : u_T := fun k => match k with
  | 0 => ("Patchferry$Edits", "froms", "LPatchferry$Row;", true)
  | 1 => ("Patchferry$Edits", "tos", "LPatchferry$Row;", true)
  | 2 => ("Patchferry$Edits", "begins", "LPatchferry$Row;", true)
  | _ => ("Patchferry$Edits", "values", "LPatchferry$Row;", true)
def tyX3 : Nat → FieldType := fun k => match k with
  | 0 => .object "Patchferry$Row"
  | 1 => .object "Patchferry$Row"
  | 2 => .object "Patchferry$Row"
  | _ => .object "Patchferry$Row"
abbrev wsX30 : List Cond := u_ws RX3 TX3 4
theorem nmX3 : ∀ a, a < 4 → ∀ b, b < 4 → a ≠ b → (TX3 a).2.1 ≠ (TX3 b).2.1 := by decide +kernel
theorem tyX3_ok : ∀ k, k < 4 → parseFieldDescriptor (TX3 k).2.2.1 = some (tyX3 k) := by decide +kernel
def TX4 : u_T := fun k => match k with
  | 0 => ("Patchferry$Patch", "froms", "LPatchferry$Row;", true)
  | 1 => ("Patchferry$Patch", "sizes", "LPatchferry$Row;", true)
  | 2 => ("Patchferry$Patch", "adds", "LPatchferry$Row;", true)
  | _ => ("Patchferry$Patch", "base", "LPatchferry$Row;", false)
def tyX4 : Nat → FieldType := fun k => match k with
  | 0 => .object "Patchferry$Row"
  | 1 => .object "Patchferry$Row"
  | 2 => .object "Patchferry$Row"
  | _ => .object "Patchferry$Row"
abbrev wsX40 : List Cond := u_ws RX4 TX4 4
theorem nmX4 : ∀ a, a < 4 → ∀ b, b < 4 → a ≠ b → (TX4 a).2.1 ≠ (TX4 b).2.1 := by decide +kernel
theorem tyX4_ok : ∀ k, k < 4 → parseFieldDescriptor (TX4 k).2.2.1 = some (tyX4 k) := by decide +kernel
def TX5 : u_T := fun k => match k with
  | 0 => ("Patchferry$Program", "marks", "LPatchferry$Row;", true)
  | _ => ("Patchferry$Program", "places", "LPatchferry$Row;", true)
def tyX5 : Nat → FieldType := fun k => match k with
  | 0 => .object "Patchferry$Row"
  | _ => .object "Patchferry$Row"
abbrev wsX50 : List Cond := u_ws RX5 TX5 2
theorem nmX5 : ∀ a, a < 2 → ∀ b, b < 2 → a ≠ b → (TX5 a).2.1 ≠ (TX5 b).2.1 := by decide +kernel
theorem tyX5_ok : ∀ k, k < 2 → parseFieldDescriptor (TX5 k).2.2.1 = some (tyX5 k) := by decide +kernel
def TX6 : u_T := fun k => match k with
  | 0 => ("Patchferry$Row", "cells", "[I", true)
  | _ => ("Patchferry$Row", "size", "I", false)
def tyX6 : Nat → FieldType := fun k => match k with
  | 0 => .array .int
  | _ => .int
abbrev wsX60 : List Cond := u_ws RX6 TX6 2
theorem nmX6 : ∀ a, a < 2 → ∀ b, b < 2 → a ≠ b → (TX6 a).2.1 ≠ (TX6 b).2.1 := by decide +kernel
theorem tyX6_ok : ∀ k, k < 2 → parseFieldDescriptor (TX6 k).2.2.1 = some (tyX6 k) := by decide +kernel
def TX7 : u_T := fun k => match k with
  | 0 => ("Patchferry$Runs", "values", "LPatchferry$Row;", true)
  | _ => ("Patchferry$Runs", "ends", "LPatchferry$Row;", true)
def tyX7 : Nat → FieldType := fun k => match k with
  | 0 => .object "Patchferry$Row"
  | _ => .object "Patchferry$Row"
abbrev wsX70 : List Cond := u_ws RX7 TX7 2
theorem nmX7 : ∀ a, a < 2 → ∀ b, b < 2 → a ≠ b → (TX7 a).2.1 ≠ (TX7 b).2.1 := by decide +kernel
theorem tyX7_ok : ∀ k, k < 2 → parseFieldDescriptor (TX7 k).2.2.1 = some (tyX7 k) := by decide +kernel
def TX8 : u_T := fun k => match k with
  | 0 => ("Patchferry$Store", "texts", "Ljava/util/ArrayList;", true)
  | 1 => ("Patchferry$Store", "cuts", "Ljava/util/ArrayList;", true)
  | 2 => ("Patchferry$Store", "none", "LPatchferry$Row;", true)
  | 3 => ("Patchferry$Store", "homes", "LPatchferry$Row;", true)
  | 4 => ("Patchferry$Store", "starts", "LPatchferry$Row;", true)
  | 5 => ("Patchferry$Store", "sizes", "LPatchferry$Row;", true)
  | 6 => ("Patchferry$Store", "sums", "LPatchferry$Row;", true)
  | 7 => ("Patchferry$Store", "uses", "LPatchferry$Row;", true)
  | 8 => ("Patchferry$Store", "kept", "LPatchferry$Row;", true)
  | 9 => ("Patchferry$Store", "isStored", "LPatchferry$Row;", true)
  | 10 => ("Patchferry$Store", "folders", "LPatchferry$Row;", true)
  | 11 => ("Patchferry$Store", "numbers", "LPatchferry$Row;", true)
  | 12 => ("Patchferry$Store", "marks", "LPatchferry$Row;", true)
  | _ => ("Patchferry$Store", "grid", "LPatchferry$Row;", true)
def tyX8 : Nat → FieldType := fun k => match k with
  | 0 => .object "java/util/ArrayList"
  | 1 => .object "java/util/ArrayList"
  | 2 => .object "Patchferry$Row"
  | 3 => .object "Patchferry$Row"
  | 4 => .object "Patchferry$Row"
  | 5 => .object "Patchferry$Row"
  | 6 => .object "Patchferry$Row"
  | 7 => .object "Patchferry$Row"
  | 8 => .object "Patchferry$Row"
  | 9 => .object "Patchferry$Row"
  | 10 => .object "Patchferry$Row"
  | 11 => .object "Patchferry$Row"
  | 12 => .object "Patchferry$Row"
  | _ => .object "Patchferry$Row"
abbrev wsX80 : List Cond := u_ws RX8 TX8 14
theorem nmX8 : ∀ a, a < 14 → ∀ b, b < 14 → a ≠ b → (TX8 a).2.1 ≠ (TX8 b).2.1 := by decide +kernel
theorem tyX8_ok : ∀ k, k < 14 → parseFieldDescriptor (TX8 k).2.2.1 = some (tyX8 k) := by decide +kernel
def TX9 : u_T := fun k => match k with
  | _ => ("Patchferry$Tree", "sums", "LPatchferry$Row;", true)
def tyX9 : Nat → FieldType := fun k => match k with
  | _ => .object "Patchferry$Row"
abbrev wsX90 : List Cond := u_ws RX9 TX9 1
theorem nmX9 : ∀ a, a < 1 → ∀ b, b < 1 → a ≠ b → (TX9 a).2.1 ≠ (TX9 b).2.1 := by decide +kernel
theorem tyX9_ok : ∀ k, k < 1 → parseFieldDescriptor (TX9 k).2.2.1 = some (tyX9 k) := by decide +kernel
def TX10 : u_T := fun k => match k with
  | 0 => ("Patchferry$Versions", "texts", "Ljava/util/ArrayList;", true)
  | 1 => ("Patchferry$Versions", "none", "LPatchferry$Row;", true)
  | 2 => ("Patchferry$Versions", "keys", "LPatchferry$Row;", true)
  | 3 => ("Patchferry$Versions", "counts", "LPatchferry$Row;", true)
  | 4 => ("Patchferry$Versions", "gains", "LPatchferry$Row;", true)
  | _ => ("Patchferry$Versions", "costs", "LPatchferry$Row;", true)
def tyX10 : Nat → FieldType := fun k => match k with
  | 0 => .object "java/util/ArrayList"
  | 1 => .object "Patchferry$Row"
  | 2 => .object "Patchferry$Row"
  | 3 => .object "Patchferry$Row"
  | 4 => .object "Patchferry$Row"
  | _ => .object "Patchferry$Row"
abbrev wsX100 : List Cond := u_ws RX10 TX10 6
theorem nmX10 : ∀ a, a < 6 → ∀ b, b < 6 → a ≠ b → (TX10 a).2.1 ≠ (TX10 b).2.1 := by decide +kernel
theorem tyX10_ok : ∀ k, k < 6 → parseFieldDescriptor (TX10 k).2.2.1 = some (tyX10 k) := by decide +kernel
def TX11 : u_T := fun k => match k with
  | 0 => ("Patchferry", "texts", "Ljava/util/ArrayList;", true)
  | 1 => ("Patchferry", "patches", "Ljava/util/ArrayList;", true)
  | 2 => ("Patchferry", "buffer", "LPatchferry$Row;", true)
  | 3 => ("Patchferry", "word", "Ljava/lang/StringBuilder;", true)
  | 4 => ("Patchferry", "work", "LPatchferry$Row;", true)
  | 5 => ("Patchferry", "spare", "LPatchferry$Row;", true)
  | 6 => ("Patchferry", "signs", "LPatchferry$Row;", true)
  | 7 => ("Patchferry", "runs", "LPatchferry$Runs;", true)
  | 8 => ("Patchferry", "differ", "LPatchferry$Differ;", true)
  | 9 => ("Patchferry", "link", "LPatchferry$Patch;", true)
  | 10 => ("Patchferry", "mine", "LPatchferry$Edits;", true)
  | 11 => ("Patchferry", "theirs", "LPatchferry$Edits;", true)
  | 12 => ("Patchferry", "shelf", "LPatchferry$Store;", true)
  | 13 => ("Patchferry", "blocks", "LPatchferry$Blocks;", true)
  | 14 => ("Patchferry", "program", "LPatchferry$Program;", true)
  | 15 => ("Patchferry", "disk", "LPatchferry$Disk;", true)
  | 16 => ("Patchferry", "versions", "LPatchferry$Versions;", true)
  | 17 => ("Patchferry", "tree", "LPatchferry$Tree;", true)
  | _ => ("Patchferry", "lastClash", "I", false)
def tyX11 : Nat → FieldType := fun k => match k with
  | 0 => .object "java/util/ArrayList"
  | 1 => .object "java/util/ArrayList"
  | 2 => .object "Patchferry$Row"
  | 3 => .object "java/lang/StringBuilder"
  | 4 => .object "Patchferry$Row"
  | 5 => .object "Patchferry$Row"
  | 6 => .object "Patchferry$Row"
  | 7 => .object "Patchferry$Runs"
  | 8 => .object "Patchferry$Differ"
  | 9 => .object "Patchferry$Patch"
  | 10 => .object "Patchferry$Edits"
  | 11 => .object "Patchferry$Edits"
  | 12 => .object "Patchferry$Store"
  | 13 => .object "Patchferry$Blocks"
  | 14 => .object "Patchferry$Program"
  | 15 => .object "Patchferry$Disk"
  | 16 => .object "Patchferry$Versions"
  | 17 => .object "Patchferry$Tree"
  | _ => .int
abbrev wsX110 : List Cond := u_ws RX11 TX11 19
theorem nmX11 : ∀ a, a < 19 → ∀ b, b < 19 → a ≠ b → (TX11 a).2.1 ≠ (TX11 b).2.1 := by decide +kernel
theorem tyX11_ok : ∀ k, k < 19 → parseFieldDescriptor (TX11 k).2.2.1 = some (tyX11 k) := by decide +kernel
def TX12 : u_T := fun k => match k with
  | 0 => ("PatchferryModel$Edit", "from", "I", true)
  | 1 => ("PatchferryModel$Edit", "to", "I", true)
  | _ => ("PatchferryModel$Edit", "bytes", "[I", true)
def tyX12 : Nat → FieldType := fun k => match k with
  | 0 => .int
  | 1 => .int
  | _ => .array .int
abbrev wsX120 : List Cond := u_ws RX12 TX12 3
theorem nmX12 : ∀ a, a < 3 → ∀ b, b < 3 → a ≠ b → (TX12 a).2.1 ≠ (TX12 b).2.1 := by decide +kernel
theorem tyX12_ok : ∀ k, k < 3 → parseFieldDescriptor (TX12 k).2.2.1 = some (tyX12 k) := by decide +kernel
def TX13 : u_T := fun k => match k with
  | 0 => ("PatchferryModel$Patch", "base", "[I", true)
  | _ => ("PatchferryModel$Patch", "steps", "Ljava/util/ArrayList;", true)
def tyX13 : Nat → FieldType := fun k => match k with
  | 0 => .array .int
  | _ => .object "java/util/ArrayList"
abbrev wsX130 : List Cond := u_ws RX13 TX13 2
theorem nmX13 : ∀ a, a < 2 → ∀ b, b < 2 → a ≠ b → (TX13 a).2.1 ≠ (TX13 b).2.1 := by decide +kernel
theorem tyX13_ok : ∀ k, k < 2 → parseFieldDescriptor (TX13 k).2.2.1 = some (tyX13 k) := by decide +kernel
def TX14 : u_T := fun k => match k with
  | 0 => ("PatchferryModel$Step", "from", "I", true)
  | _ => ("PatchferryModel$Step", "bytes", "[I", true)
def tyX14 : Nat → FieldType := fun k => match k with
  | 0 => .int
  | _ => .array .int
abbrev wsX140 : List Cond := u_ws RX14 TX14 2
theorem nmX14 : ∀ a, a < 2 → ∀ b, b < 2 → a ≠ b → (TX14 a).2.1 ≠ (TX14 b).2.1 := by decide +kernel
theorem tyX14_ok : ∀ k, k < 2 → parseFieldDescriptor (TX14 k).2.2.1 = some (tyX14 k) := by decide +kernel
def TX15 : u_T := fun k => match k with
  | 0 => ("PatchferryModel", "thrown", "I", false)
  | 1 => ("PatchferryModel", "buffer", "[I", false)
  | 2 => ("PatchferryModel", "word", "Ljava/lang/String;", false)
  | 3 => ("PatchferryModel", "files", "Ljava/util/ArrayList;", true)
  | 4 => ("PatchferryModel", "patches", "Ljava/util/ArrayList;", true)
  | 5 => ("PatchferryModel", "clash", "I", false)
  | 6 => ("PatchferryModel", "kept", "Ljava/util/ArrayList;", true)
  | 7 => ("PatchferryModel", "uses", "Ljava/util/ArrayList;", true)
  | 8 => ("PatchferryModel", "isStored", "[Z", true)
  | 9 => ("PatchferryModel", "folders", "[I", true)
  | 10 => ("PatchferryModel", "disk", "[I", false)
  | 11 => ("PatchferryModel", "cut", "I", false)
  | 12 => ("PatchferryModel", "laid", "LPatchferryModel$Patch;", false)
  | 13 => ("PatchferryModel", "saved", "I", false)
  | 14 => ("PatchferryModel", "done", "I", false)
  | 15 => ("PatchferryModel", "order", "Ljava/util/ArrayList;", true)
  | 16 => ("PatchferryModel", "savedRows", "Ljava/util/ArrayList;", true)
  | 17 => ("PatchferryModel", "versions", "Ljava/util/ArrayList;", true)
  | 18 => ("PatchferryModel", "areKeys", "[Z", true)
  | 19 => ("PatchferryModel", "counts", "[I", true)
  | 20 => ("PatchferryModel", "literals", "I", false)
  | 21 => ("PatchferryModel", "falseOnes", "I", false)
  | _ => ("PatchferryModel", "used", "I", false)
def tyX15 : Nat → FieldType := fun k => match k with
  | 0 => .int
  | 1 => .array .int
  | 2 => .object "java/lang/String"
  | 3 => .object "java/util/ArrayList"
  | 4 => .object "java/util/ArrayList"
  | 5 => .int
  | 6 => .object "java/util/ArrayList"
  | 7 => .object "java/util/ArrayList"
  | 8 => .array .boolean
  | 9 => .array .int
  | 10 => .array .int
  | 11 => .int
  | 12 => .object "PatchferryModel$Patch"
  | 13 => .int
  | 14 => .int
  | 15 => .object "java/util/ArrayList"
  | 16 => .object "java/util/ArrayList"
  | 17 => .object "java/util/ArrayList"
  | 18 => .array .boolean
  | 19 => .array .int
  | 20 => .int
  | 21 => .int
  | _ => .int
abbrev wsX150 : List Cond := u_ws RX15 TX15 23
theorem nmX15 : ∀ a, a < 23 → ∀ b, b < 23 → a ≠ b → (TX15 a).2.1 ≠ (TX15 b).2.1 := by decide +kernel
theorem tyX15_ok : ∀ k, k < 23 → parseFieldDescriptor (TX15 k).2.2.1 = some (tyX15 k) := by decide +kernel
abbrev vwCl : List vw_C := [(RJ0, TJ0, 4), (RJ4, TJ4, 4), (RJ6, TJ6, 1), (RJx00060, TJx00060, 6), (RJx7c733, TJx7c733, 6), (RJx35411, TJx35411, 4), (RJx4a65c, TJx4a65c, 3), (RX0, TX0, 5), (RX1, TX1, 10), (RX2, TX2, 12), (RX3, TX3, 4), (RX4, TX4, 4), (RX5, TX5, 2), (RX6, TX6, 2), (RX7, TX7, 2), (RX8, TX8, 14), (RX9, TX9, 1), (RX10, TX10, 6), (RX11, TX11, 19), (RX12, TX12, 3), (RX13, TX13, 2), (RX14, TX14, 2), (RX15, TX15, 23)]
/-- the arrays that the worlds hold: of ints, of references to anything -/
abbrev ty0 (cI cO : ClassId) : List (ClassId × FieldType) := [(cI, .int), (cO, .object "java/lang/Object")]
/-- an array of references as a cell of a world -/
abbrev wq (a : Nat) (cA : ClassId) (n : Nat) (f : Nat → Option Nat) : Nat × va_E := (a, .inl (cA, n, .inr (.inr (.inr (.inr f)))))
abbrev wl (a : Nat) (cA : ClassId) (n : Nat) (f : Nat → Int64) : Nat × va_E := (a, .inl (cA, n, .inr (.inl f)))
/-- there is one class of int arrays -/
theorem uc_eq {D : va_G} {cl : List vw_C} {tys : List (ClassId × FieldType)} {U : State} {cA cB : ClassId} (h : va_K D cl tys U) (i j : Nat) (h1 : tys[i]? = some (cA, .int)) (h2 : tys[j]? = some (cB, .int)) : cA = cB := by
  have a : U.vm.findClass ("[" ++ FieldType.int.toString) = some cA := (h.2 i _ h1).2
  have b : U.vm.findClass ("[" ++ FieldType.int.toString) = some cB := (h.2 j _ h2).2
  exact Option.some.inj (a.symm.trans b)
/-- what ArrayList's empty row is: the static that holds it, and the row itself, neither of them ours -/
def uz (z0 : Nat) (A : Nat → Prop) (U : State) : Prop := va_Z "java/util/ArrayList" "DEFAULTCAPACITY_EMPTY_ELEMENTDATA" "[Ljava/lang/Object;" (.ref z0) A U U.heap ∧ ∃ f : Nat → Value, va_T (.object "java/lang/Object") z0 0 f A U U.heap
/-- a method that only reads and hands back a reference -/
def uS_r (post : Nat → Prop) : Array Value → State → Outcome → State → Prop := fun _ st oc t => ∃ k : Nat, oc = .returned (some (.ref k)) ∧ post k ∧ t.heap = st.heap
section UC
variable {p : Program} {l : Launch} {e : Env} {R : Room} {s : State} {m : MethodId} {args : Array Value} {below : List Frame} {meth : Method} {c : Code} {H : Heap} {locs : List Loc} {cells slots : Nat} {Q : State → Prop}
variable {pc : Nat} {ls : Array Slot} {rest st0 : List Value} {a : Array Value}
theorem uc_i {post : Int32 → Prop} (hr : va_Run p l e R s m args below meth c H locs cells slots 0 0 (F0 m pc ls st0) rest (vp_Si post a) (fun _ => False))
    (kk : ∀ r : Int32, post r → W p l e R s m args below meth c H locs cells slots Q (F0 m (pc + 3) ls (.int r :: rest))) : W p l e R s m args below meth c H locs cells slots Q (F0 m pc ls st0) := by
  intro T hT X
  obtain ⟨v, st₀, t, T', L, h0, X', hL, e1, -, ⟨r, hv, hp, hh⟩, st⟩ := hr T hT X
  cases hv
  obtain ⟨t2, a1, b1⟩ := kk r hp T' (by rw [e1, hh, h0]) (Stand.forget X' (fun q h => (hL q h).elim))
  exact ⟨t2, st t2 a1, b1⟩
theorem uc_r {post : Nat → Prop} (hr : va_Run p l e R s m args below meth c H locs cells slots 0 0 (F0 m pc ls st0) rest (uS_r post a) (fun _ => False))
    (kk : ∀ r : Nat, post r → W p l e R s m args below meth c H locs cells slots Q (F0 m (pc + 3) ls (.ref r :: rest))) : W p l e R s m args below meth c H locs cells slots Q (F0 m pc ls st0) := by
  intro T hT X
  obtain ⟨v, st₀, t, T', L, h0, X', hL, e1, -, ⟨r, hv, hp, hh⟩, st⟩ := hr T hT X
  cases hv
  obtain ⟨t2, a1, b1⟩ := kk r hp T' (by rw [e1, hh, h0]) (Stand.forget X' (fun q h => (hL q h).elim))
  exact ⟨t2, st t2 a1, b1⟩
theorem uc_v {post : Unit → Prop} (hr : va_Run p l e R s m args below meth c H locs cells slots 0 0 (F0 m pc ls st0) rest (va_Sv post a) (fun _ => False))
    (kk : W p l e R s m args below meth c H locs cells slots Q (F0 m (pc + 3) ls rest)) : W p l e R s m args below meth c H locs cells slots Q (F0 m pc ls st0) := by
  intro T hT X
  obtain ⟨v, st₀, t, T', L, h0, X', hL, e1, -, ⟨hv, hp, hh⟩, st⟩ := hr T hT X
  cases hv
  obtain ⟨t2, a1, b1⟩ := kk T' (by rw [e1, hh, h0]) (Stand.forget X' (fun q h => (hL q h).elim))
  exact ⟨t2, st t2 a1, b1⟩
end UC
theorem uz.moved {z0 : Nat} {A : Nat → Prop} {U V : State} (h : uz z0 A U) (hvm : U.vm.Alike V.vm) (hh : V.heap = U.heap) : uz z0 A V := by
  obtain ⟨h1, f, h2⟩ := h
  unfold uz
  rw [hh]
  exact ⟨h1.moved hvm, f, h2.moved hvm⟩
theorem uz_call {z0 : Nat} {A B : Nat → Prop} {s U : State} {H : Heap} {locs : List Loc} (h : uz z0 A s) (hS : va_S A s.heap H locs) (hF : ∀ q, B q → A q) (hU : U.heap = H) (hvm : s.vm.Alike U.vm) : uz z0 B U := by
  obtain ⟨h1, f, h2⟩ := h
  unfold uz
  rw [hU]
  exact ⟨((h1.kept hS.2.1).narrow hF).moved hvm, f, ((h2.kept hS.2.1).narrow hF).moved hvm⟩
/-- how far a counter is from its bound -/
def um (x b : Int32) : Nat := (b.toInt - x.toInt).toNat
theorem um_lt {x b : Int32} (h : ¬ b ≤ x) : um (x + 1) b < um x b := by
  have h1 : x.toInt < b.toInt := by
    have : ¬ b.toInt ≤ x.toInt := fun q => h (Int32.le_iff_toInt_le.mpr q)
    omega
  have hb := Int32.toInt_le b
  have hx := Int32.le_toInt x
  have e : (x + 1).toInt = x.toInt + 1 := by
    rw [Int32.toInt_add]
    show (x.toInt + 1).bmod (2 ^ 32) = x.toInt + 1
    exact Int.bmod_eq_of_le (by have : (-2147483648 : Int) ≤ x.toInt := hx; omega) (by have : b.toInt ≤ (2147483647 : Int) := hb; omega)
  unfold um
  rw [e]
  omega

