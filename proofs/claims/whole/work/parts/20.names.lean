/-! NAMES, by program (wip/whole/py/names.py) out of the Statement -/
def GT : List Cond := lw_tbl.filter goodWord
theorem gt_good : ∀ w ∈ GT, goodWord w = true := fun w h => (List.mem_filter.mp h).2
theorem gt_tab {w : Cond} (h : w ∈ tables_1) (g : goodWord w = true) : w ∈ GT := List.mem_filter.mpr ⟨List.mem_append_right _ h, g⟩
theorem gt_p {w : Cond} (i : Nat) (h : (k2_sels lw_privs)[i]? = some w) (g : goodWord w = true) : w ∈ GT := List.mem_filter.mpr ⟨List.mem_append_left _ (List.mem_of_getElem? h), g⟩
theorem gt_1 {w : Cond} (i : Nat) (h : tables_1_1[i]? = some w) (g : goodWord w = true) : w ∈ GT := gt_tab (List.mem_append_left _ (List.mem_of_getElem? h)) g
theorem gt_2 {w : Cond} (i : Nat) (h : tables_1_2[i]? = some w) (g : goodWord w = true) : w ∈ GT := gt_tab (List.mem_append_right _ (List.mem_append_left _ (List.mem_of_getElem? h))) g
theorem gt_3 {w : Cond} (i : Nat) (h : tables_1_3[i]? = some w) (g : goodWord w = true) : w ∈ GT := gt_tab (List.mem_append_right _ (List.mem_append_right _ (List.mem_append_left _ (List.mem_of_getElem? h)))) g
theorem gt_4 {w : Cond} (i : Nat) (h : tables_1_4[i]? = some w) (g : goodWord w = true) : w ∈ GT := gt_tab (List.mem_append_right _ (List.mem_append_right _ (List.mem_append_right _ (List.mem_append_left _ (List.mem_of_getElem? h))))) g
theorem gt_5 {w : Cond} (i : Nat) (h : tables_1_5[i]? = some w) (g : goodWord w = true) : w ∈ GT := gt_tab (List.mem_append_right _ (List.mem_append_right _ (List.mem_append_right _ (List.mem_append_right _ (List.mem_append_left _ (List.mem_of_getElem? h)))))) g
theorem gt_6 {w : Cond} (i : Nat) (h : tables_1_6[i]? = some w) (g : goodWord w = true) : w ∈ GT := gt_tab (List.mem_append_right _ (List.mem_append_right _ (List.mem_append_right _ (List.mem_append_right _ (List.mem_append_right _ (List.mem_of_getElem? h)))))) g
def R0 : String := "java/lang/String"
def T0 : u_T := fun k => match k with
  | 0 => ("java/lang/String", "value", "[B", true)
  | 1 => ("java/lang/String", "coder", "B", true)
  | 2 => ("java/lang/String", "hash", "I", false)
  | _ => ("java/lang/String", "hashIsZero", "Z", false)
def ty0 : Nat → FieldType := fun k => match k with
  | 0 => .array .byte
  | 1 => .byte
  | 2 => .int
  | _ => .boolean
theorem nm0 : ∀ a, a < 4 → ∀ b, b < 4 → a ≠ b → (T0 a).2.1 ≠ (T0 b).2.1 := by decide +kernel
theorem tyok0 : ∀ k, k < 4 → parseFieldDescriptor (T0 k).2.2.1 = some (ty0 k) := by decide +kernel
theorem in0 : ∀ w ∈ u_ws R0 T0 4, w ∈ GT := by
  intro w hw
  obtain ⟨k, hk, rfl⟩ := List.mem_map.mp hw
  have hk := List.mem_range.mp hk
  match k, hk with
  | 0, _ => exact gt_2 139 (by decide +kernel) rfl
  | 1, _ => exact gt_2 141 (by decide +kernel) rfl
  | 2, _ => exact gt_2 143 (by decide +kernel) rfl
  | 3, _ => exact gt_2 145 (by decide +kernel) rfl
  | n + 4, h => exact absurd h (by omega)
def R1 : String := "java/lang/StringBuilder"
def T1 : u_T := fun k => match k with
  | 0 => ("java/lang/AbstractStringBuilder", "value", "[B", false)
  | 1 => ("java/lang/AbstractStringBuilder", "coder", "B", false)
  | 2 => ("java/lang/AbstractStringBuilder", "maybeLatin1", "Z", false)
  | _ => ("java/lang/AbstractStringBuilder", "count", "I", false)
def ty1 : Nat → FieldType := fun k => match k with
  | 0 => .array .byte
  | 1 => .byte
  | 2 => .boolean
  | _ => .int
theorem nm1 : ∀ a, a < 4 → ∀ b, b < 4 → a ≠ b → (T1 a).2.1 ≠ (T1 b).2.1 := by decide +kernel
theorem tyok1 : ∀ k, k < 4 → parseFieldDescriptor (T1 k).2.2.1 = some (ty1 k) := by decide +kernel
theorem in1 : ∀ w ∈ u_ws R1 T1 4, w ∈ GT := by
  intro w hw
  obtain ⟨k, hk, rfl⟩ := List.mem_map.mp hw
  have hk := List.mem_range.mp hk
  match k, hk with
  | 0, _ => exact gt_1 59 (by decide +kernel) rfl
  | 1, _ => exact gt_1 61 (by decide +kernel) rfl
  | 2, _ => exact gt_1 63 (by decide +kernel) rfl
  | 3, _ => exact gt_1 65 (by decide +kernel) rfl
  | n + 4, h => exact absurd h (by omega)
def R2 : String := "java/util/ArrayList"
def T2 : u_T := fun k => match k with
  | 0 => ("java/util/ArrayList", "elementData", "[Ljava/lang/Object;", false)
  | 1 => ("java/util/ArrayList", "size", "I", false)
  | _ => ("java/util/AbstractList", "modCount", "I", false)
def ty2 : Nat → FieldType := fun k => match k with
  | 0 => .array (.object "java/lang/Object")
  | 1 => .int
  | _ => .int
theorem nm2 : ∀ a, a < 3 → ∀ b, b < 3 → a ≠ b → (T2 a).2.1 ≠ (T2 b).2.1 := by decide +kernel
theorem tyok2 : ∀ k, k < 3 → parseFieldDescriptor (T2 k).2.2.1 = some (ty2 k) := by decide +kernel
theorem in2 : ∀ w ∈ u_ws R2 T2 3, w ∈ GT := by
  intro w hw
  obtain ⟨k, hk, rfl⟩ := List.mem_map.mp hw
  have hk := List.mem_range.mp hk
  match k, hk with
  | 0, _ => exact gt_1 100 (by decide +kernel) rfl
  | 1, _ => exact gt_1 102 (by decide +kernel) rfl
  | 2, _ => exact gt_1 104 (by decide +kernel) rfl
  | n + 3, h => exact absurd h (by omega)
def R3 : String := "MenuScreens"
def T3 : u_T := fun k => match k with
  | 0 => ("MenuScreens", "rows", "I", true)
  | 1 => ("MenuScreens", "columns", "I", true)
  | 2 => ("MenuScreens", "text", "Ljava/lang/StringBuilder;", true)
  | 3 => ("MenuScreens", "reader", "LMenuScreens$Reader;", true)
  | 4 => ("MenuScreens", "plan", "LMenuScreens$Plan;", true)
  | 5 => ("MenuScreens", "warnings", "LMenuScreens$Warnings;", true)
  | 6 => ("MenuScreens", "atHand", "I", false)
  | 7 => ("MenuScreens", "speed", "I", false)
  | 8 => ("MenuScreens", "language", "I", false)
  | 9 => ("MenuScreens", "brokenLamps", "I", false)
  | 10 => ("MenuScreens", "trips", "I", false)
  | 11 => ("MenuScreens", "allMetres", "J", false)
  | _ => ("MenuScreens", "allCents", "J", false)
def ty3 : Nat → FieldType := fun k => match k with
  | 0 => .int
  | 1 => .int
  | 2 => .object "java/lang/StringBuilder"
  | 3 => .object "MenuScreens$Reader"
  | 4 => .object "MenuScreens$Plan"
  | 5 => .object "MenuScreens$Warnings"
  | 6 => .int
  | 7 => .int
  | 8 => .int
  | 9 => .int
  | 10 => .int
  | 11 => .long
  | _ => .long
theorem nm3 : ∀ a, a < 13 → ∀ b, b < 13 → a ≠ b → (T3 a).2.1 ≠ (T3 b).2.1 := by decide +kernel
theorem tyok3 : ∀ k, k < 13 → parseFieldDescriptor (T3 k).2.2.1 = some (ty3 k) := by decide +kernel
theorem in3 : ∀ w ∈ u_ws R3 T3 13, w ∈ GT := by
  intro w hw
  obtain ⟨k, hk, rfl⟩ := List.mem_map.mp hw
  have hk := List.mem_range.mp hk
  match k, hk with
  | 0, _ => exact gt_1 197 (by decide +kernel) rfl
  | 1, _ => exact gt_1 199 (by decide +kernel) rfl
  | 2, _ => exact gt_1 201 (by decide +kernel) rfl
  | 3, _ => exact gt_1 203 (by decide +kernel) rfl
  | 4, _ => exact gt_1 205 (by decide +kernel) rfl
  | 5, _ => exact gt_1 207 (by decide +kernel) rfl
  | 6, _ => exact gt_1 209 (by decide +kernel) rfl
  | 7, _ => exact gt_1 211 (by decide +kernel) rfl
  | 8, _ => exact gt_1 213 (by decide +kernel) rfl
  | 9, _ => exact gt_1 215 (by decide +kernel) rfl
  | 10, _ => exact gt_1 217 (by decide +kernel) rfl
  | 11, _ => exact gt_1 219 (by decide +kernel) rfl
  | 12, _ => exact gt_1 221 (by decide +kernel) rfl
  | n + 13, h => exact absurd h (by omega)
def R4 : String := "MenuScreens$Plan"
def T4 : u_T := fun k => match k with
  | 0 => ("MenuScreens$Plan", "values", "Ljava/util/ArrayList;", true)
  | 1 => ("MenuScreens$Plan", "screens", "Ljava/util/ArrayList;", true)
  | 2 => ("MenuScreens$Plan", "rings", "[I", true)
  | _ => ("MenuScreens$Plan", "ringCount", "I", false)
def ty4 : Nat → FieldType := fun k => match k with
  | 0 => .object "java/util/ArrayList"
  | 1 => .object "java/util/ArrayList"
  | 2 => .array .int
  | _ => .int
theorem nm4 : ∀ a, a < 4 → ∀ b, b < 4 → a ≠ b → (T4 a).2.1 ≠ (T4 b).2.1 := by decide +kernel
theorem tyok4 : ∀ k, k < 4 → parseFieldDescriptor (T4 k).2.2.1 = some (ty4 k) := by decide +kernel
theorem in4 : ∀ w ∈ u_ws R4 T4 4, w ∈ GT := by
  intro w hw
  obtain ⟨k, hk, rfl⟩ := List.mem_map.mp hw
  have hk := List.mem_range.mp hk
  match k, hk with
  | 0, _ => exact gt_1 114 (by decide +kernel) rfl
  | 1, _ => exact gt_1 116 (by decide +kernel) rfl
  | 2, _ => exact gt_1 118 (by decide +kernel) rfl
  | 3, _ => exact gt_1 120 (by decide +kernel) rfl
  | n + 4, h => exact absurd h (by omega)
def R5 : String := "MenuScreens$Reader"
def T5 : u_T := fun k => match k with
  | 0 => ("MenuScreens$Reader", "plan", "LMenuScreens$Plan;", true)
  | 1 => ("MenuScreens$Reader", "line", "LMenuScreens$Line;", true)
  | 2 => ("MenuScreens$Reader", "screen", "LMenuScreens$Screen;", false)
  | _ => ("MenuScreens$Reader", "pending", "LMenuScreens$Condition;", false)
def ty5 : Nat → FieldType := fun k => match k with
  | 0 => .object "MenuScreens$Plan"
  | 1 => .object "MenuScreens$Line"
  | 2 => .object "MenuScreens$Screen"
  | _ => .object "MenuScreens$Condition"
theorem nm5 : ∀ a, a < 4 → ∀ b, b < 4 → a ≠ b → (T5 a).2.1 ≠ (T5 b).2.1 := by decide +kernel
theorem tyok5 : ∀ k, k < 4 → parseFieldDescriptor (T5 k).2.2.1 = some (ty5 k) := by decide +kernel
theorem in5 : ∀ w ∈ u_ws R5 T5 4, w ∈ GT := by
  intro w hw
  obtain ⟨k, hk, rfl⟩ := List.mem_map.mp hw
  have hk := List.mem_range.mp hk
  match k, hk with
  | 0, _ => exact gt_1 149 (by decide +kernel) rfl
  | 1, _ => exact gt_1 151 (by decide +kernel) rfl
  | 2, _ => exact gt_1 153 (by decide +kernel) rfl
  | 3, _ => exact gt_1 155 (by decide +kernel) rfl
  | n + 4, h => exact absurd h (by omega)
def R6 : String := "MenuScreens$Line"
def T6 : u_T := fun k => match k with
  | 0 => ("MenuScreens$Line", "starts", "[I", true)
  | 1 => ("MenuScreens$Line", "ends", "[I", true)
  | 2 => ("MenuScreens$Line", "text", "Ljava/lang/String;", false)
  | _ => ("MenuScreens$Line", "count", "I", false)
def ty6 : Nat → FieldType := fun k => match k with
  | 0 => .array .int
  | 1 => .array .int
  | 2 => .object "java/lang/String"
  | _ => .int
theorem nm6 : ∀ a, a < 4 → ∀ b, b < 4 → a ≠ b → (T6 a).2.1 ≠ (T6 b).2.1 := by decide +kernel
theorem tyok6 : ∀ k, k < 4 → parseFieldDescriptor (T6 k).2.2.1 = some (ty6 k) := by decide +kernel
theorem in6 : ∀ w ∈ u_ws R6 T6 4, w ∈ GT := by
  intro w hw
  obtain ⟨k, hk, rfl⟩ := List.mem_map.mp hw
  have hk := List.mem_range.mp hk
  match k, hk with
  | 0, _ => exact gt_1 135 (by decide +kernel) rfl
  | 1, _ => exact gt_1 137 (by decide +kernel) rfl
  | 2, _ => exact gt_1 139 (by decide +kernel) rfl
  | 3, _ => exact gt_1 141 (by decide +kernel) rfl
  | n + 4, h => exact absurd h (by omega)
def R7 : String := "MenuScreens$Warnings"
def T7 : u_T := fun k => match k with
  | 0 => ("MenuScreens$Warnings", "ranks", "[I", true)
  | 1 => ("MenuScreens$Warnings", "times", "[J", true)
  | 2 => ("MenuScreens$Warnings", "open", "[I", true)
  | 3 => ("MenuScreens$Warnings", "count", "I", false)
  | 4 => ("MenuScreens$Warnings", "openCount", "I", false)
  | _ => ("MenuScreens$Warnings", "lastTime", "J", false)
def ty7 : Nat → FieldType := fun k => match k with
  | 0 => .array .int
  | 1 => .array .long
  | 2 => .array .int
  | 3 => .int
  | 4 => .int
  | _ => .long
theorem nm7 : ∀ a, a < 6 → ∀ b, b < 6 → a ≠ b → (T7 a).2.1 ≠ (T7 b).2.1 := by decide +kernel
theorem tyok7 : ∀ k, k < 6 → parseFieldDescriptor (T7 k).2.2.1 = some (ty7 k) := by decide +kernel
theorem in7 : ∀ w ∈ u_ws R7 T7 6, w ∈ GT := by
  intro w hw
  obtain ⟨k, hk, rfl⟩ := List.mem_map.mp hw
  have hk := List.mem_range.mp hk
  match k, hk with
  | 0, _ => exact gt_1 170 (by decide +kernel) rfl
  | 1, _ => exact gt_1 172 (by decide +kernel) rfl
  | 2, _ => exact gt_1 174 (by decide +kernel) rfl
  | 3, _ => exact gt_1 176 (by decide +kernel) rfl
  | 4, _ => exact gt_1 178 (by decide +kernel) rfl
  | 5, _ => exact gt_1 180 (by decide +kernel) rfl
  | n + 6, h => exact absurd h (by omega)
def R8 : String := "MenuScreens$Value"
def T8 : u_T := fun k => match k with
  | 0 => ("MenuScreens$Value", "name", "J", true)
  | 1 => ("MenuScreens$Value", "isSetting", "Z", true)
  | 2 => ("MenuScreens$Value", "low", "J", true)
  | 3 => ("MenuScreens$Value", "high", "J", true)
  | 4 => ("MenuScreens$Value", "now", "J", false)
  | _ => ("MenuScreens$Value", "valid", "Z", false)
def ty8 : Nat → FieldType := fun k => match k with
  | 0 => .long
  | 1 => .boolean
  | 2 => .long
  | 3 => .long
  | 4 => .long
  | _ => .boolean
theorem nm8 : ∀ a, a < 6 → ∀ b, b < 6 → a ≠ b → (T8 a).2.1 ≠ (T8 b).2.1 := by decide +kernel
theorem tyok8 : ∀ k, k < 6 → parseFieldDescriptor (T8 k).2.2.1 = some (ty8 k) := by decide +kernel
theorem in8 : ∀ w ∈ u_ws R8 T8 6, w ∈ GT := by
  intro w hw
  obtain ⟨k, hk, rfl⟩ := List.mem_map.mp hw
  have hk := List.mem_range.mp hk
  match k, hk with
  | 0, _ => exact gt_3 86 (by decide +kernel) rfl
  | 1, _ => exact gt_3 88 (by decide +kernel) rfl
  | 2, _ => exact gt_3 90 (by decide +kernel) rfl
  | 3, _ => exact gt_3 92 (by decide +kernel) rfl
  | 4, _ => exact gt_3 94 (by decide +kernel) rfl
  | 5, _ => exact gt_3 96 (by decide +kernel) rfl
  | n + 6, h => exact absurd h (by omega)
def R9 : String := "MenuScreens$Screen"
def T9 : u_T := fun k => match k with
  | 0 => ("MenuScreens$Screen", "name", "J", true)
  | 1 => ("MenuScreens$Screen", "line", "I", true)
  | 2 => ("MenuScreens$Screen", "pieces", "Ljava/util/ArrayList;", true)
  | 3 => ("MenuScreens$Screen", "keyNames", "[J", true)
  | 4 => ("MenuScreens$Screen", "keyScreens", "[I", true)
  | 5 => ("MenuScreens$Screen", "bar", "I", false)
  | _ => ("MenuScreens$Screen", "leadsHome", "Z", false)
def ty9 : Nat → FieldType := fun k => match k with
  | 0 => .long
  | 1 => .int
  | 2 => .object "java/util/ArrayList"
  | 3 => .array .long
  | 4 => .array .int
  | 5 => .int
  | _ => .boolean
theorem nm9 : ∀ a, a < 7 → ∀ b, b < 7 → a ≠ b → (T9 a).2.1 ≠ (T9 b).2.1 := by decide +kernel
theorem tyok9 : ∀ k, k < 7 → parseFieldDescriptor (T9 k).2.2.1 = some (ty9 k) := by decide +kernel
theorem in9 : ∀ w ∈ u_ws R9 T9 7, w ∈ GT := by
  intro w hw
  obtain ⟨k, hk, rfl⟩ := List.mem_map.mp hw
  have hk := List.mem_range.mp hk
  match k, hk with
  | 0, _ => exact gt_3 191 (by decide +kernel) rfl
  | 1, _ => exact gt_3 193 (by decide +kernel) rfl
  | 2, _ => exact gt_3 195 (by decide +kernel) rfl
  | 3, _ => exact gt_3 197 (by decide +kernel) rfl
  | 4, _ => exact gt_3 199 (by decide +kernel) rfl
  | 5, _ => exact gt_3 201 (by decide +kernel) rfl
  | 6, _ => exact gt_3 203 (by decide +kernel) rfl
  | n + 7, h => exact absurd h (by omega)
def R10 : String := "MenuScreens$WordPiece"
def T10 : u_T := fun k => match k with
  | 0 => ("MenuScreens$WordPiece", "first", "Ljava/lang/String;", true)
  | 1 => ("MenuScreens$WordPiece", "second", "Ljava/lang/String;", true)
  | 2 => ("MenuScreens$Piece", "row", "I", true)
  | 3 => ("MenuScreens$Piece", "column", "I", true)
  | _ => ("MenuScreens$Piece", "conditions", "LMenuScreens$Condition;", true)
def ty10 : Nat → FieldType := fun k => match k with
  | 0 => .object "java/lang/String"
  | 1 => .object "java/lang/String"
  | 2 => .int
  | 3 => .int
  | _ => .object "MenuScreens$Condition"
theorem nm10 : ∀ a, a < 5 → ∀ b, b < 5 → a ≠ b → (T10 a).2.1 ≠ (T10 b).2.1 := by decide +kernel
theorem tyok10 : ∀ k, k < 5 → parseFieldDescriptor (T10 k).2.2.1 = some (ty10 k) := by decide +kernel
theorem in10 : ∀ w ∈ u_ws R10 T10 5, w ∈ GT := by
  intro w hw
  obtain ⟨k, hk, rfl⟩ := List.mem_map.mp hw
  have hk := List.mem_range.mp hk
  match k, hk with
  | 0, _ => exact gt_3 233 (by decide +kernel) rfl
  | 1, _ => exact gt_3 235 (by decide +kernel) rfl
  | 2, _ => exact gt_3 237 (by decide +kernel) rfl
  | 3, _ => exact gt_3 239 (by decide +kernel) rfl
  | 4, _ => exact gt_4 1 (by decide +kernel) rfl
  | n + 5, h => exact absurd h (by omega)
def R11 : String := "MenuScreens$ValuePiece"
def T11 : u_T := fun k => match k with
  | 0 => ("MenuScreens$ValuePiece", "value", "LMenuScreens$Value;", true)
  | 1 => ("MenuScreens$ValuePiece", "width", "I", true)
  | 2 => ("MenuScreens$Piece", "row", "I", true)
  | 3 => ("MenuScreens$Piece", "column", "I", true)
  | _ => ("MenuScreens$Piece", "conditions", "LMenuScreens$Condition;", true)
def ty11 : Nat → FieldType := fun k => match k with
  | 0 => .object "MenuScreens$Value"
  | 1 => .int
  | 2 => .int
  | 3 => .int
  | _ => .object "MenuScreens$Condition"
theorem nm11 : ∀ a, a < 5 → ∀ b, b < 5 → a ≠ b → (T11 a).2.1 ≠ (T11 b).2.1 := by decide +kernel
theorem tyok11 : ∀ k, k < 5 → parseFieldDescriptor (T11 k).2.2.1 = some (ty11 k) := by decide +kernel
theorem in11 : ∀ w ∈ u_ws R11 T11 5, w ∈ GT := by
  intro w hw
  obtain ⟨k, hk, rfl⟩ := List.mem_map.mp hw
  have hk := List.mem_range.mp hk
  match k, hk with
  | 0, _ => exact gt_4 27 (by decide +kernel) rfl
  | 1, _ => exact gt_4 29 (by decide +kernel) rfl
  | 2, _ => exact gt_4 31 (by decide +kernel) rfl
  | 3, _ => exact gt_4 32 (by decide +kernel) rfl
  | 4, _ => exact gt_4 33 (by decide +kernel) rfl
  | n + 5, h => exact absurd h (by omega)
def R12 : String := "MenuScreens$Condition"
def T12 : u_T := fun k => match k with
  | 0 => ("MenuScreens$Condition", "value", "LMenuScreens$Value;", true)
  | 1 => ("MenuScreens$Condition", "op", "C", true)
  | 2 => ("MenuScreens$Condition", "number", "I", true)
  | _ => ("MenuScreens$Condition", "before", "LMenuScreens$Condition;", true)
def ty12 : Nat → FieldType := fun k => match k with
  | 0 => .object "MenuScreens$Value"
  | 1 => .char
  | 2 => .int
  | _ => .object "MenuScreens$Condition"
theorem nm12 : ∀ a, a < 4 → ∀ b, b < 4 → a ≠ b → (T12 a).2.1 ≠ (T12 b).2.1 := by decide +kernel
theorem tyok12 : ∀ k, k < 4 → parseFieldDescriptor (T12 k).2.2.1 = some (ty12 k) := by decide +kernel
theorem in12 : ∀ w ∈ u_ws R12 T12 4, w ∈ GT := by
  intro w hw
  obtain ⟨k, hk, rfl⟩ := List.mem_map.mp hw
  have hk := List.mem_range.mp hk
  match k, hk with
  | 0, _ => exact gt_4 54 (by decide +kernel) rfl
  | 1, _ => exact gt_4 56 (by decide +kernel) rfl
  | 2, _ => exact gt_4 58 (by decide +kernel) rfl
  | 3, _ => exact gt_4 60 (by decide +kernel) rfl
  | n + 4, h => exact absurd h (by omega)
def R13 : String := "MenuScreensModel"
def T13 : u_T := fun k => match k with
  | 0 => ("MenuScreensModel", "code", "I", false)
  | 1 => ("MenuScreensModel", "height", "I", true)
  | 2 => ("MenuScreensModel", "width", "I", true)
  | 3 => ("MenuScreensModel", "length", "I", false)
  | 4 => ("MenuScreensModel", "text", "[I", true)
  | 5 => ("MenuScreensModel", "size", "I", false)
  | 6 => ("MenuScreensModel", "kept", "[I", true)
  | 7 => ("MenuScreensModel", "at", "I", false)
  | 8 => ("MenuScreensModel", "end", "I", false)
  | 9 => ("MenuScreensModel", "from", "I", false)
  | 10 => ("MenuScreensModel", "to", "I", false)
  | 11 => ("MenuScreensModel", "number", "J", false)
  | 12 => ("MenuScreensModel", "values", "I", false)
  | 13 => ("MenuScreensModel", "valueFrom", "[I", true)
  | 14 => ("MenuScreensModel", "valueTo", "[I", true)
  | 15 => ("MenuScreensModel", "isSetting", "[Z", true)
  | 16 => ("MenuScreensModel", "low", "[J", true)
  | 17 => ("MenuScreensModel", "high", "[J", true)
  | 18 => ("MenuScreensModel", "now", "[J", true)
  | 19 => ("MenuScreensModel", "valid", "[Z", true)
  | 20 => ("MenuScreensModel", "screens", "I", false)
  | 21 => ("MenuScreensModel", "screenFrom", "[I", true)
  | 22 => ("MenuScreensModel", "screenTo", "[I", true)
  | 23 => ("MenuScreensModel", "screenLine", "[I", true)
  | 24 => ("MenuScreensModel", "bar", "[J", true)
  | 25 => ("MenuScreensModel", "home", "[Z", true)
  | 26 => ("MenuScreensModel", "keyFrom", "[I", true)
  | 27 => ("MenuScreensModel", "keyTo", "[I", true)
  | 28 => ("MenuScreensModel", "parts", "I", false)
  | 29 => ("MenuScreensModel", "partScreen", "[I", true)
  | 30 => ("MenuScreensModel", "partKind", "[I", true)
  | 31 => ("MenuScreensModel", "partRow", "[I", true)
  | 32 => ("MenuScreensModel", "partColumn", "[I", true)
  | 33 => ("MenuScreensModel", "partValue", "[I", true)
  | 34 => ("MenuScreensModel", "partColumns", "[I", true)
  | 35 => ("MenuScreensModel", "firstFrom", "[I", true)
  | 36 => ("MenuScreensModel", "firstTo", "[I", true)
  | 37 => ("MenuScreensModel", "secondFrom", "[I", true)
  | 38 => ("MenuScreensModel", "secondTo", "[I", true)
  | 39 => ("MenuScreensModel", "conditions", "I", false)
  | 40 => ("MenuScreensModel", "ofScreen", "[I", true)
  | 41 => ("MenuScreensModel", "ofPart", "[I", true)
  | 42 => ("MenuScreensModel", "ofValue", "[I", true)
  | 43 => ("MenuScreensModel", "op", "[I", true)
  | 44 => ("MenuScreensModel", "than", "[J", true)
  | 45 => ("MenuScreensModel", "present", "I", false)
  | 46 => ("MenuScreensModel", "language", "I", false)
  | 47 => ("MenuScreensModel", "speed", "J", false)
  | 48 => ("MenuScreensModel", "rings", "I", false)
  | 49 => ("MenuScreensModel", "ring", "[I", true)
  | 50 => ("MenuScreensModel", "warnings", "I", false)
  | 51 => ("MenuScreensModel", "rank", "[I", true)
  | 52 => ("MenuScreensModel", "time", "[J", true)
  | 53 => ("MenuScreensModel", "accepted", "[Z", true)
  | 54 => ("MenuScreensModel", "last", "J", false)
  | 55 => ("MenuScreensModel", "trips", "I", false)
  | 56 => ("MenuScreensModel", "metres", "J", false)
  | 57 => ("MenuScreensModel", "cents", "J", false)
  | _ => ("MenuScreensModel", "broken", "[Z", true)
def ty13 : Nat → FieldType := fun k => match k with
  | 0 => .int
  | 1 => .int
  | 2 => .int
  | 3 => .int
  | 4 => .array .int
  | 5 => .int
  | 6 => .array .int
  | 7 => .int
  | 8 => .int
  | 9 => .int
  | 10 => .int
  | 11 => .long
  | 12 => .int
  | 13 => .array .int
  | 14 => .array .int
  | 15 => .array .boolean
  | 16 => .array .long
  | 17 => .array .long
  | 18 => .array .long
  | 19 => .array .boolean
  | 20 => .int
  | 21 => .array .int
  | 22 => .array .int
  | 23 => .array .int
  | 24 => .array .long
  | 25 => .array .boolean
  | 26 => .array .int
  | 27 => .array .int
  | 28 => .int
  | 29 => .array .int
  | 30 => .array .int
  | 31 => .array .int
  | 32 => .array .int
  | 33 => .array .int
  | 34 => .array .int
  | 35 => .array .int
  | 36 => .array .int
  | 37 => .array .int
  | 38 => .array .int
  | 39 => .int
  | 40 => .array .int
  | 41 => .array .int
  | 42 => .array .int
  | 43 => .array .int
  | 44 => .array .long
  | 45 => .int
  | 46 => .int
  | 47 => .long
  | 48 => .int
  | 49 => .array .int
  | 50 => .int
  | 51 => .array .int
  | 52 => .array .long
  | 53 => .array .boolean
  | 54 => .long
  | 55 => .int
  | 56 => .long
  | 57 => .long
  | _ => .array .boolean
theorem nm13 : ∀ a, a < 59 → ∀ b, b < 59 → a ≠ b → (T13 a).2.1 ≠ (T13 b).2.1 := by decide +kernel
theorem tyok13 : ∀ k, k < 59 → parseFieldDescriptor (T13 k).2.2.1 = some (ty13 k) := by decide +kernel
theorem in13 : ∀ w ∈ u_ws R13 T13 59, w ∈ GT := by
  intro w hw
  obtain ⟨k, hk, rfl⟩ := List.mem_map.mp hw
  have hk := List.mem_range.mp hk
  match k, hk with
  | 0, _ => exact gt_5 88 (by decide +kernel) rfl
  | 1, _ => exact gt_5 90 (by decide +kernel) rfl
  | 2, _ => exact gt_5 92 (by decide +kernel) rfl
  | 3, _ => exact gt_5 94 (by decide +kernel) rfl
  | 4, _ => exact gt_5 96 (by decide +kernel) rfl
  | 5, _ => exact gt_5 98 (by decide +kernel) rfl
  | 6, _ => exact gt_5 100 (by decide +kernel) rfl
  | 7, _ => exact gt_5 102 (by decide +kernel) rfl
  | 8, _ => exact gt_5 104 (by decide +kernel) rfl
  | 9, _ => exact gt_5 106 (by decide +kernel) rfl
  | 10, _ => exact gt_5 108 (by decide +kernel) rfl
  | 11, _ => exact gt_5 110 (by decide +kernel) rfl
  | 12, _ => exact gt_5 112 (by decide +kernel) rfl
  | 13, _ => exact gt_5 114 (by decide +kernel) rfl
  | 14, _ => exact gt_5 116 (by decide +kernel) rfl
  | 15, _ => exact gt_5 118 (by decide +kernel) rfl
  | 16, _ => exact gt_5 120 (by decide +kernel) rfl
  | 17, _ => exact gt_5 122 (by decide +kernel) rfl
  | 18, _ => exact gt_5 124 (by decide +kernel) rfl
  | 19, _ => exact gt_5 126 (by decide +kernel) rfl
  | 20, _ => exact gt_5 128 (by decide +kernel) rfl
  | 21, _ => exact gt_5 130 (by decide +kernel) rfl
  | 22, _ => exact gt_5 132 (by decide +kernel) rfl
  | 23, _ => exact gt_5 134 (by decide +kernel) rfl
  | 24, _ => exact gt_5 136 (by decide +kernel) rfl
  | 25, _ => exact gt_5 138 (by decide +kernel) rfl
  | 26, _ => exact gt_5 140 (by decide +kernel) rfl
  | 27, _ => exact gt_5 142 (by decide +kernel) rfl
  | 28, _ => exact gt_5 144 (by decide +kernel) rfl
  | 29, _ => exact gt_5 146 (by decide +kernel) rfl
  | 30, _ => exact gt_5 148 (by decide +kernel) rfl
  | 31, _ => exact gt_5 150 (by decide +kernel) rfl
  | 32, _ => exact gt_5 152 (by decide +kernel) rfl
  | 33, _ => exact gt_5 154 (by decide +kernel) rfl
  | 34, _ => exact gt_5 156 (by decide +kernel) rfl
  | 35, _ => exact gt_5 158 (by decide +kernel) rfl
  | 36, _ => exact gt_5 160 (by decide +kernel) rfl
  | 37, _ => exact gt_5 162 (by decide +kernel) rfl
  | 38, _ => exact gt_5 164 (by decide +kernel) rfl
  | 39, _ => exact gt_5 166 (by decide +kernel) rfl
  | 40, _ => exact gt_5 168 (by decide +kernel) rfl
  | 41, _ => exact gt_5 170 (by decide +kernel) rfl
  | 42, _ => exact gt_5 172 (by decide +kernel) rfl
  | 43, _ => exact gt_5 174 (by decide +kernel) rfl
  | 44, _ => exact gt_5 176 (by decide +kernel) rfl
  | 45, _ => exact gt_5 178 (by decide +kernel) rfl
  | 46, _ => exact gt_5 180 (by decide +kernel) rfl
  | 47, _ => exact gt_5 182 (by decide +kernel) rfl
  | 48, _ => exact gt_5 184 (by decide +kernel) rfl
  | 49, _ => exact gt_5 186 (by decide +kernel) rfl
  | 50, _ => exact gt_5 188 (by decide +kernel) rfl
  | 51, _ => exact gt_5 190 (by decide +kernel) rfl
  | 52, _ => exact gt_5 192 (by decide +kernel) rfl
  | 53, _ => exact gt_5 194 (by decide +kernel) rfl
  | 54, _ => exact gt_5 196 (by decide +kernel) rfl
  | 55, _ => exact gt_5 198 (by decide +kernel) rfl
  | 56, _ => exact gt_5 200 (by decide +kernel) rfl
  | 57, _ => exact gt_5 202 (by decide +kernel) rfl
  | 58, _ => exact gt_5 204 (by decide +kernel) rfl
  | n + 59, h => exact absurd h (by omega)
abbrev vcl : List vw_C := [(R0, T0, 4), (R1, T1, 4), (R2, T2, 3), (R3, T3, 13), (R4, T4, 4), (R5, T5, 4), (R6, T6, 4), (R7, T7, 6), (R8, T8, 6), (R9, T9, 7), (R10, T10, 5), (R11, T11, 5), (R12, T12, 4), (R13, T13, 59)]
/-- the arrays' classes: int, long, byte, boolean, Object -/
abbrev vty (dT : Nat → ClassId) : List (ClassId × FieldType) := [(dT 0, .int), (dT 1, .long), (dT 2, .byte), (dT 3, .boolean), (dT 4, .object "java/lang/Object")]
def y_MenuScreens_init : MethodName := ⟨"MenuScreens", "<init>", "(II)V"⟩
def y_Object_init : MethodName := ⟨"java/lang/Object", "<init>", "()V"⟩
def y_StringBuilder_init : MethodName := ⟨"java/lang/StringBuilder", "<init>", "()V"⟩
def y_AbstractStringBuilder_init : MethodName := ⟨"java/lang/AbstractStringBuilder", "<init>", "(I)V"⟩
def y_StringUTF16_newBytesFor : MethodName := ⟨"java/lang/StringUTF16", "newBytesFor", "(I)[B"⟩
def y_StringUTF16_newBytesLength : MethodName := ⟨"java/lang/StringUTF16", "newBytesLength", "(I)I"⟩
def y_Reader_init : MethodName := ⟨"MenuScreens$Reader", "<init>", "()V"⟩
def y_Plan_init : MethodName := ⟨"MenuScreens$Plan", "<init>", "()V"⟩
def y_ArrayList_init : MethodName := ⟨"java/util/ArrayList", "<init>", "()V"⟩
def y_AbstractList_init : MethodName := ⟨"java/util/AbstractList", "<init>", "()V"⟩
def y_AbstractCollection_init : MethodName := ⟨"java/util/AbstractCollection", "<init>", "()V"⟩
def y_Line_init : MethodName := ⟨"MenuScreens$Line", "<init>", "()V"⟩
def y_Warnings_init : MethodName := ⟨"MenuScreens$Warnings", "<init>", "()V"⟩
def y_MenuScreens_sign : MethodName := ⟨"MenuScreens", "sign", "(I)V"⟩
def y_StringBuilder_length : MethodName := ⟨"java/lang/StringBuilder", "length", "()I"⟩
def y_AbstractStringBuilder_length : MethodName := ⟨"java/lang/AbstractStringBuilder", "length", "()I"⟩
def y_StringBuilder_append : MethodName := ⟨"java/lang/StringBuilder", "append", "(C)Ljava/lang/StringBuilder;"⟩
def y_AbstractStringBuilder_append : MethodName := ⟨"java/lang/AbstractStringBuilder", "append", "(C)Ljava/lang/AbstractStringBuilder;"⟩
def y_AbstractStringBuilder_ensureCapacityInternal : MethodName := ⟨"java/lang/AbstractStringBuilder", "ensureCapacityInternal", "(I)V"⟩
def y_AbstractStringBuilder_newCapacity : MethodName := ⟨"java/lang/AbstractStringBuilder", "newCapacity", "(I)I"⟩
def y_ArraysSupport_newLength : MethodName := ⟨"jdk/internal/util/ArraysSupport", "newLength", "(III)I"⟩
def y_Math_max : MethodName := ⟨"java/lang/Math", "max", "(II)I"⟩
def y_ArraysSupport_hugeLength : MethodName := ⟨"jdk/internal/util/ArraysSupport", "hugeLength", "(II)I"⟩
def y_Arrays_copyOf : MethodName := ⟨"java/util/Arrays", "copyOf", "([BI)[B"⟩
def y_Math_min : MethodName := ⟨"java/lang/Math", "min", "(II)I"⟩
def y_AbstractStringBuilder_isLatin1 : MethodName := ⟨"java/lang/AbstractStringBuilder", "isLatin1", "()Z"⟩
def y_StringLatin1_canEncode : MethodName := ⟨"java/lang/StringLatin1", "canEncode", "(C)Z"⟩
def y_AbstractStringBuilder_inflate : MethodName := ⟨"java/lang/AbstractStringBuilder", "inflate", "()V"⟩
def y_StringLatin1_inflate : MethodName := ⟨"java/lang/StringLatin1", "inflate", "([BI[BII)V"⟩
def y_StringUTF16_inflate : MethodName := ⟨"java/lang/StringUTF16", "inflate", "([BI[BII)V"⟩
def y_StringUTF16_checkBoundsOffCount : MethodName := ⟨"java/lang/StringUTF16", "checkBoundsOffCount", "(II[B)V"⟩
def y_StringUTF16_length : MethodName := ⟨"java/lang/StringUTF16", "length", "([B)I"⟩
def y_String_checkBoundsOffCount : MethodName := ⟨"java/lang/String", "checkBoundsOffCount", "(III)I"⟩
def y_Preconditions_checkFromIndexSize : MethodName := ⟨"jdk/internal/util/Preconditions", "checkFromIndexSize", "(IIILjava/util/function/BiFunction;)I"⟩
def y_StringUTF16_putChar : MethodName := ⟨"java/lang/StringUTF16", "putChar", "([BII)V"⟩
def y_StringUTF16_putCharSB : MethodName := ⟨"java/lang/StringUTF16", "putCharSB", "([BII)V"⟩
def y_StringUTF16_checkIndex : MethodName := ⟨"java/lang/StringUTF16", "checkIndex", "(I[B)V"⟩
def y_String_checkIndex : MethodName := ⟨"java/lang/String", "checkIndex", "(II)V"⟩
def y_Preconditions_checkIndex : MethodName := ⟨"jdk/internal/util/Preconditions", "checkIndex", "(IILjava/util/function/BiFunction;)I"⟩
def y_MenuScreens_read : MethodName := ⟨"MenuScreens", "read", "()I"⟩
def y_StringBuilder_toString : MethodName := ⟨"java/lang/StringBuilder", "toString", "()Ljava/lang/String;"⟩
def y_String_init : MethodName := ⟨"java/lang/String", "<init>", "(Ljava/lang/StringBuilder;)V"⟩
def y_String_init_2 : MethodName := ⟨"java/lang/String", "<init>", "(Ljava/lang/AbstractStringBuilder;Ljava/lang/Void;)V"⟩
def y_AbstractStringBuilder_getValue : MethodName := ⟨"java/lang/AbstractStringBuilder", "getValue", "()[B"⟩
def y_Arrays_copyOfRange : MethodName := ⟨"java/util/Arrays", "copyOfRange", "([BII)[B"⟩
def y_Arrays_copyOfRangeByte : MethodName := ⟨"java/util/Arrays", "copyOfRangeByte", "([BII)[B"⟩
def y_Arrays_checkLength : MethodName := ⟨"java/util/Arrays", "checkLength", "(II)V"⟩
def y_StringUTF16_compress : MethodName := ⟨"java/lang/StringUTF16", "compress", "([BII)[B"⟩
def y_StringUTF16_compress_2 : MethodName := ⟨"java/lang/StringUTF16", "compress", "([BI[BII)I"⟩
def y_StringUTF16_getChar : MethodName := ⟨"java/lang/StringUTF16", "getChar", "([BI)C"⟩
def y_StringUTF16_coderFromArrayLen : MethodName := ⟨"java/lang/StringUTF16", "coderFromArrayLen", "([BI)B"⟩
def y_StringBuilder_setLength : MethodName := ⟨"java/lang/StringBuilder", "setLength", "(I)V"⟩
def y_AbstractStringBuilder_setLength : MethodName := ⟨"java/lang/AbstractStringBuilder", "setLength", "(I)V"⟩
def y_StringLatin1_fillNull : MethodName := ⟨"java/lang/StringLatin1", "fillNull", "([BII)V"⟩
def y_Arrays_fill : MethodName := ⟨"java/util/Arrays", "fill", "([BIIB)V"⟩
def y_Arrays_rangeCheck : MethodName := ⟨"java/util/Arrays", "rangeCheck", "(III)V"⟩
def y_StringUTF16_fillNull : MethodName := ⟨"java/lang/StringUTF16", "fillNull", "([BII)V"⟩
def y_Plan_clear : MethodName := ⟨"MenuScreens$Plan", "clear", "()V"⟩
def y_Plan_clearScreensAndValues : MethodName := ⟨"MenuScreens$Plan", "clearScreensAndValues", "()V"⟩
def y_ArrayList_clear : MethodName := ⟨"java/util/ArrayList", "clear", "()V"⟩
def y_Reader_firstWrongLine : MethodName := ⟨"MenuScreens$Reader", "firstWrongLine", "(Ljava/lang/String;)I"⟩
def y_String_length : MethodName := ⟨"java/lang/String", "length", "()I"⟩
def y_String_coder : MethodName := ⟨"java/lang/String", "coder", "()B"⟩
def y_String_charAt : MethodName := ⟨"java/lang/String", "charAt", "(I)C"⟩
def y_String_isLatin1 : MethodName := ⟨"java/lang/String", "isLatin1", "()Z"⟩
def y_StringLatin1_charAt : MethodName := ⟨"java/lang/StringLatin1", "charAt", "([BI)C"⟩
def y_StringUTF16_charAt : MethodName := ⟨"java/lang/StringUTF16", "charAt", "([BI)C"⟩
def y_Line_split : MethodName := ⟨"MenuScreens$Line", "split", "(Ljava/lang/String;II)V"⟩
def y_Line_addWord : MethodName := ⟨"MenuScreens$Line", "addWord", "(II)V"⟩
def y_Line_wordCount : MethodName := ⟨"MenuScreens$Line", "wordCount", "()I"⟩
def y_Reader_takeLine : MethodName := ⟨"MenuScreens$Reader", "takeLine", "(I)Z"⟩
def y_Line_wordAt : MethodName := ⟨"MenuScreens$Line", "wordAt", "(I)Ljava/lang/String;"⟩
def y_String_substring : MethodName := ⟨"java/lang/String", "substring", "(II)Ljava/lang/String;"⟩
def y_String_checkBoundsBeginEnd : MethodName := ⟨"java/lang/String", "checkBoundsBeginEnd", "(III)V"⟩
def y_Preconditions_checkFromToIndex : MethodName := ⟨"jdk/internal/util/Preconditions", "checkFromToIndex", "(IIILjava/util/function/BiFunction;)I"⟩
def y_StringLatin1_newString : MethodName := ⟨"java/lang/StringLatin1", "newString", "([BII)Ljava/lang/String;"⟩
def y_String_init_3 : MethodName := ⟨"java/lang/String", "<init>", "([BB)V"⟩
def y_StringUTF16_newString : MethodName := ⟨"java/lang/StringUTF16", "newString", "([BII)Ljava/lang/String;"⟩
def y_String_equals : MethodName := ⟨"java/lang/String", "equals", "(Ljava/lang/Object;)Z"⟩
def y_StringLatin1_equals : MethodName := ⟨"java/lang/StringLatin1", "equals", "([B[B)Z"⟩
def y_Reader_takeName : MethodName := ⟨"MenuScreens$Reader", "takeName", "()Z"⟩
def y_Line_nameAt : MethodName := ⟨"MenuScreens$Line", "nameAt", "(I)J"⟩
def y_Reader_isFreeForValue : MethodName := ⟨"MenuScreens$Reader", "isFreeForValue", "(J)Z"⟩
def y_ArrayList_size : MethodName := ⟨"java/util/ArrayList", "size", "()I"⟩
def y_Plan_valueNamed : MethodName := ⟨"MenuScreens$Plan", "valueNamed", "(J)LMenuScreens$Value;"⟩
def y_ArrayList_get : MethodName := ⟨"java/util/ArrayList", "get", "(I)Ljava/lang/Object;"⟩
def y_Objects_checkIndex : MethodName := ⟨"java/util/Objects", "checkIndex", "(II)I"⟩
def y_ArrayList_elementData : MethodName := ⟨"java/util/ArrayList", "elementData", "(I)Ljava/lang/Object;"⟩
def y_Value_init : MethodName := ⟨"MenuScreens$Value", "<init>", "(J)V"⟩
def y_ArrayList_add : MethodName := ⟨"java/util/ArrayList", "add", "(Ljava/lang/Object;)Z"⟩
def y_ArrayList_add_2 : MethodName := ⟨"java/util/ArrayList", "add", "(Ljava/lang/Object;[Ljava/lang/Object;I)V"⟩
def y_ArrayList_grow : MethodName := ⟨"java/util/ArrayList", "grow", "()[Ljava/lang/Object;"⟩
def y_ArrayList_grow_2 : MethodName := ⟨"java/util/ArrayList", "grow", "(I)[Ljava/lang/Object;"⟩
def y_Arrays_copyOf_2 : MethodName := ⟨"java/util/Arrays", "copyOf", "([Ljava/lang/Object;I)[Ljava/lang/Object;"⟩
def y_Arrays_copyOf_3 : MethodName := ⟨"java/util/Arrays", "copyOf", "([Ljava/lang/Object;ILjava/lang/Class;)[Ljava/lang/Object;"⟩
def y_Reader_takeSetting : MethodName := ⟨"MenuScreens$Reader", "takeSetting", "()Z"⟩
def y_Line_numberAt : MethodName := ⟨"MenuScreens$Line", "numberAt", "(I)I"⟩
def y_Value_init_2 : MethodName := ⟨"MenuScreens$Value", "<init>", "(JJJJ)V"⟩
def y_Reader_takeScreen : MethodName := ⟨"MenuScreens$Reader", "takeScreen", "(I)Z"⟩
def y_Plan_screenNumberOf : MethodName := ⟨"MenuScreens$Plan", "screenNumberOf", "(J)I"⟩
def y_Screen_init : MethodName := ⟨"MenuScreens$Screen", "<init>", "(JI)V"⟩
def y_Reader_takeLineOf : MethodName := ⟨"MenuScreens$Reader", "takeLineOf", "(LMenuScreens$Screen;Ljava/lang/String;)Z"⟩
def y_Reader_takePut : MethodName := ⟨"MenuScreens$Reader", "takePut", "(LMenuScreens$Screen;)Z"⟩
def y_WordPiece_init : MethodName := ⟨"MenuScreens$WordPiece", "<init>", "(IILMenuScreens$Condition;Ljava/lang/String;Ljava/lang/String;)V"⟩
def y_Piece_init : MethodName := ⟨"MenuScreens$Piece", "<init>", "(IILMenuScreens$Condition;)V"⟩
def y_Reader_takePiece : MethodName := ⟨"MenuScreens$Reader", "takePiece", "(LMenuScreens$Screen;LMenuScreens$Piece;)Z"⟩
def y_Reader_takeSay : MethodName := ⟨"MenuScreens$Reader", "takeSay", "(LMenuScreens$Screen;)Z"⟩
def y_Reader_takeShow : MethodName := ⟨"MenuScreens$Reader", "takeShow", "(LMenuScreens$Screen;)Z"⟩
def y_ValuePiece_init : MethodName := ⟨"MenuScreens$ValuePiece", "<init>", "(IILMenuScreens$Condition;LMenuScreens$Value;I)V"⟩
def y_Reader_takeIf : MethodName := ⟨"MenuScreens$Reader", "takeIf", "()Z"⟩
def y_Condition_init : MethodName := ⟨"MenuScreens$Condition", "<init>", "(LMenuScreens$Value;CILMenuScreens$Condition;)V"⟩
def y_Reader_takeKey : MethodName := ⟨"MenuScreens$Reader", "takeKey", "(LMenuScreens$Screen;)Z"⟩
def y_Reader_takeBar : MethodName := ⟨"MenuScreens$Reader", "takeBar", "(LMenuScreens$Screen;)Z"⟩
def y_Plan_joinKeys : MethodName := ⟨"MenuScreens$Plan", "joinKeys", "()V"⟩
def y_Plan_findRings : MethodName := ⟨"MenuScreens$Plan", "findRings", "()V"⟩
def y_Plan_markScreensThatLeadHome : MethodName := ⟨"MenuScreens$Plan", "markScreensThatLeadHome", "()V"⟩
def y_Plan_hasKeyTowardsHome : MethodName := ⟨"MenuScreens$Plan", "hasKeyTowardsHome", "(LMenuScreens$Screen;)Z"⟩
def y_Screen_screenBehindKey : MethodName := ⟨"MenuScreens$Screen", "screenBehindKey", "(I)I"⟩
def y_Plan_screenNumbered : MethodName := ⟨"MenuScreens$Plan", "screenNumbered", "(I)LMenuScreens$Screen;"⟩
def y_Plan_firstWrongScreenLine : MethodName := ⟨"MenuScreens$Plan", "firstWrongScreenLine", "()I"⟩
def y_Screen_hasKeyToNowhere : MethodName := ⟨"MenuScreens$Screen", "hasKeyToNowhere", "()Z"⟩
def y_MenuScreens_value : MethodName := ⟨"MenuScreens", "value", "(IJZ)I"⟩
def y_Plan_valueNumbered : MethodName := ⟨"MenuScreens$Plan", "valueNumbered", "(I)LMenuScreens$Value;"⟩
def y_MenuScreens_press : MethodName := ⟨"MenuScreens", "press", "(I)I"⟩
def y_Screen_isBarredAt : MethodName := ⟨"MenuScreens$Screen", "isBarredAt", "(I)Z"⟩
def y_MenuScreens_shown : MethodName := ⟨"MenuScreens", "shown", "(II)I"⟩
def y_Warnings_signAt : MethodName := ⟨"MenuScreens$Warnings", "signAt", "(I)I"⟩
def y_Warnings_rankOf : MethodName := ⟨"MenuScreens$Warnings", "rankOf", "(I)I"⟩
def y_Screen_signAt : MethodName := ⟨"MenuScreens$Screen", "signAt", "(III)I"⟩
def y_ValuePiece_signAt : MethodName := ⟨"MenuScreens$ValuePiece", "signAt", "(II)I"⟩
def y_ValuePiece_signFromRight : MethodName := ⟨"MenuScreens$ValuePiece", "signFromRight", "(I)I"⟩
def y_Math_abs : MethodName := ⟨"java/lang/Math", "abs", "(J)J"⟩
def y_ValuePiece_digitsOf : MethodName := ⟨"MenuScreens$ValuePiece", "digitsOf", "(J)I"⟩
def y_ValuePiece_digitFromRight : MethodName := ⟨"MenuScreens$ValuePiece", "digitFromRight", "(JI)I"⟩
def y_WordPiece_signAt : MethodName := ⟨"MenuScreens$WordPiece", "signAt", "(II)I"⟩
def y_Piece_isOn : MethodName := ⟨"MenuScreens$Piece", "isOn", "()Z"⟩
def y_Condition_holds : MethodName := ⟨"MenuScreens$Condition", "holds", "()Z"⟩
def y_MenuScreens_warn : MethodName := ⟨"MenuScreens", "warn", "(IJ)I"⟩
def y_Warnings_add : MethodName := ⟨"MenuScreens$Warnings", "add", "(IJ)I"⟩
def y_Warnings_insertOpen : MethodName := ⟨"MenuScreens$Warnings", "insertOpen", "(II)V"⟩
def y_MenuScreens_warning : MethodName := ⟨"MenuScreens", "warning", "(I)I"⟩
def y_Warnings_openAt : MethodName := ⟨"MenuScreens$Warnings", "openAt", "(I)I"⟩
def y_MenuScreens_accept : MethodName := ⟨"MenuScreens", "accept", "(I)I"⟩
def y_Warnings_close : MethodName := ⟨"MenuScreens$Warnings", "close", "(I)I"⟩
def y_Warnings_placeInOpen : MethodName := ⟨"MenuScreens$Warnings", "placeInOpen", "(I)I"⟩
def y_MenuScreens_trip : MethodName := ⟨"MenuScreens", "trip", "(JJ)I"⟩
def y_MenuScreens_sum : MethodName := ⟨"MenuScreens", "sum", "(II)J"⟩
def y_MenuScreens_greatestDivisor : MethodName := ⟨"MenuScreens", "greatestDivisor", "(JJ)J"⟩
def y_MenuScreens_speed : MethodName := ⟨"MenuScreens", "speed", "(J)I"⟩
def y_MenuScreens_language : MethodName := ⟨"MenuScreens", "language", "(I)I"⟩
def y_MenuScreens_ring : MethodName := ⟨"MenuScreens", "ring", "(I)I"⟩
def y_Plan_ringAt : MethodName := ⟨"MenuScreens$Plan", "ringAt", "(I)I"⟩
def y_MenuScreens_setting : MethodName := ⟨"MenuScreens", "setting", "(IJ)I"⟩
def y_MenuScreens_lamp : MethodName := ⟨"MenuScreens", "lamp", "(IZ)I"⟩
def y_Integer_bitCount : MethodName := ⟨"java/lang/Integer", "bitCount", "(I)I"⟩
def y_MenuScreensLaw_cell : MethodName := ⟨"MenuScreensLaw", "cell", "([II)I"⟩
def y_MenuScreensModel_init : MethodName := ⟨"MenuScreensModel", "<init>", "(II)V"⟩
def y_MenuScreensModel_sign : MethodName := ⟨"MenuScreensModel", "sign", "(I)V"⟩
def y_MenuScreensModel_read : MethodName := ⟨"MenuScreensModel", "read", "()I"⟩
def y_MenuScreensModel_wrong : MethodName := ⟨"MenuScreensModel", "wrong", "()I"⟩
def y_MenuScreensModel_next : MethodName := ⟨"MenuScreensModel", "next", "()Z"⟩
def y_MenuScreensModel_line : MethodName := ⟨"MenuScreensModel", "line", "(I)Z"⟩
def y_MenuScreensModel_word : MethodName := ⟨"MenuScreensModel", "word", "()J"⟩
def y_MenuScreensModel_told : MethodName := ⟨"MenuScreensModel", "told", "(IIIIIII)J"⟩
def y_MenuScreensModel_addValue : MethodName := ⟨"MenuScreensModel", "addValue", "(Z)Z"⟩
def y_MenuScreensModel_name : MethodName := ⟨"MenuScreensModel", "name", "()Z"⟩
def y_MenuScreensModel_isName : MethodName := ⟨"MenuScreensModel", "isName", "()Z"⟩
def y_MenuScreensModel_findValue : MethodName := ⟨"MenuScreensModel", "findValue", "()I"⟩
def y_MenuScreensModel_same : MethodName := ⟨"MenuScreensModel", "same", "(IIII)Z"⟩
def y_MenuScreensModel_number : MethodName := ⟨"MenuScreensModel", "number", "(JJ)Z"⟩
def y_MenuScreensModel_through : MethodName := ⟨"MenuScreensModel", "through", "()Z"⟩
def y_MenuScreensModel_addScreen : MethodName := ⟨"MenuScreensModel", "addScreen", "(I)Z"⟩
def y_MenuScreensModel_findScreen : MethodName := ⟨"MenuScreensModel", "findScreen", "(II)I"⟩
def y_MenuScreensModel_addPart : MethodName := ⟨"MenuScreensModel", "addPart", "(I)Z"⟩
def y_MenuScreensModel_addCondition : MethodName := ⟨"MenuScreensModel", "addCondition", "()Z"⟩
def y_MenuScreensModel_addKey : MethodName := ⟨"MenuScreensModel", "addKey", "()Z"⟩
def y_MenuScreensModel_endLine : MethodName := ⟨"MenuScreensModel", "endLine", "()I"⟩
def y_MenuScreensModel_leads : MethodName := ⟨"MenuScreensModel", "leads", "(II)I"⟩
def y_MenuScreensModel_value : MethodName := ⟨"MenuScreensModel", "value", "(IJZ)I"⟩
def y_MenuScreensModel_setting : MethodName := ⟨"MenuScreensModel", "setting", "(IJ)I"⟩
def y_MenuScreensModel_press : MethodName := ⟨"MenuScreensModel", "press", "(I)I"⟩
def y_MenuScreensModel_barred : MethodName := ⟨"MenuScreensModel", "barred", "()Z"⟩
def y_MenuScreensModel_shown : MethodName := ⟨"MenuScreensModel", "shown", "(II)I"⟩
def y_MenuScreensModel_atHand : MethodName := ⟨"MenuScreensModel", "atHand", "()I"⟩
def y_MenuScreensModel_before : MethodName := ⟨"MenuScreensModel", "before", "(IZ)I"⟩
def y_MenuScreensModel_partAt : MethodName := ⟨"MenuScreensModel", "partAt", "(III)I"⟩
def y_MenuScreensModel_holds : MethodName := ⟨"MenuScreensModel", "holds", "(I)Z"⟩
def y_MenuScreensModel_digit : MethodName := ⟨"MenuScreensModel", "digit", "(III)I"⟩
def y_MenuScreensModel_speed : MethodName := ⟨"MenuScreensModel", "speed", "(J)I"⟩
def y_MenuScreensModel_language : MethodName := ⟨"MenuScreensModel", "language", "(I)I"⟩
def y_MenuScreensModel_ring : MethodName := ⟨"MenuScreensModel", "ring", "(I)I"⟩
def y_MenuScreensModel_warn : MethodName := ⟨"MenuScreensModel", "warn", "(IJ)I"⟩
def y_MenuScreensModel_warning : MethodName := ⟨"MenuScreensModel", "warning", "(I)I"⟩
def y_MenuScreensModel_accept : MethodName := ⟨"MenuScreensModel", "accept", "(I)I"⟩
def y_MenuScreensModel_trip : MethodName := ⟨"MenuScreensModel", "trip", "(JJ)I"⟩
def y_MenuScreensModel_sum : MethodName := ⟨"MenuScreensModel", "sum", "(II)J"⟩
def y_MenuScreensModel_lamp : MethodName := ⟨"MenuScreensModel", "lamp", "(IZ)I"⟩
