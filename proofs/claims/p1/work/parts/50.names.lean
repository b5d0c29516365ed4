def tyX1 : Nat → FieldType := fun k => match k with
  | 0 => .int
  | 1 => .int
  | 2 => .int
  | 3 => .int
  | 4 => .int
  | _ => .int
theorem nmX1 : ∀ a, a < 6 → ∀ b, b < 6 → a ≠ b → (TX1 a).2.1 ≠ (TX1 b).2.1 := by decide +kernel
theorem tyX1_ok : ∀ k, k < 6 → parseFieldDescriptor (TX1 k).2.2.1 = some (tyX1 k) := by decide +kernel
def tyX4 : Nat → FieldType := fun k => match k with
  | 0 => .object "Popupwright$Book"
  | 1 => .array (.object "Popupwright$Picture")
  | _ => .int
theorem nmX4 : ∀ a, a < 3 → ∀ b, b < 3 → a ≠ b → (TX4 a).2.1 ≠ (TX4 b).2.1 := by decide +kernel
theorem tyX4_ok : ∀ k, k < 3 → parseFieldDescriptor (TX4 k).2.2.1 = some (tyX4 k) := by decide +kernel
def tyX8 : Nat → FieldType := fun k => match k with
  | 0 => .array (.object "Popupwright$Pull")
  | _ => .int
theorem nmX8 : ∀ a, a < 2 → ∀ b, b < 2 → a ≠ b → (TX8 a).2.1 ≠ (TX8 b).2.1 := by decide +kernel
theorem tyX8_ok : ∀ k, k < 2 → parseFieldDescriptor (TX8 k).2.2.1 = some (tyX8 k) := by decide +kernel
def tyX9 : Nat → FieldType := fun k => match k with
  | 0 => .boolean
  | 1 => .boolean
  | 2 => .int
  | 3 => .int
  | 4 => .int
  | 5 => .int
  | _ => .int
theorem nmX9 : ∀ a, a < 7 → ∀ b, b < 7 → a ≠ b → (TX9 a).2.1 ≠ (TX9 b).2.1 := by decide +kernel
theorem tyX9_ok : ∀ k, k < 7 → parseFieldDescriptor (TX9 k).2.2.1 = some (tyX9 k) := by decide +kernel
def tyX12 : Nat → FieldType := fun k => match k with
  | 0 => .object "PopupwrightModel$Fold"
  | 1 => .int
  | 2 => .int
  | 3 => .int
  | 4 => .int
  | 5 => .int
  | _ => .int
theorem nmX12 : ∀ a, a < 7 → ∀ b, b < 7 → a ≠ b → (TX12 a).2.1 ≠ (TX12 b).2.1 := by decide +kernel
theorem tyX12_ok : ∀ k, k < 7 → parseFieldDescriptor (TX12 k).2.2.1 = some (tyX12 k) := by decide +kernel
def wsX1_stand : List Cond := .code yX1_stand cX1_stand 5 none :: ([.fieldLink RX1 7 "Popupwright$Crease" "i" "I", .fieldLink RX1 13 "Popupwright$Crease" "j" "I", .fieldLink RX1 16 "Popupwright$Crease" "leftRoom" "I", .fieldLink RX1 19 "Popupwright$Crease" "rightRoom" "I"] ++ wsX10)
def wsX1_span : List Cond := .code yX1_span cX1_span 3 none :: ([.fieldLink RX1 22 "Popupwright$Crease" "low" "I", .fieldLink RX1 25 "Popupwright$Crease" "high" "I"] ++ wsX10)
def wsX9_lay : List Cond := .code yX9_lay cX9_lay 7 none :: ([.fieldLink RX9 9 "Popupwright$Strip" "isMade" "Z", .fieldLink RX9 15 "Popupwright$Strip" "isRight" "Z", .fieldLink RX9 18 "Popupwright$Strip" "i" "I", .fieldLink RX9 22 "Popupwright$Strip" "j" "I", .fieldLink RX9 25 "Popupwright$Strip" "length" "I", .fieldLink RX9 28 "Popupwright$Strip" "low" "I", .fieldLink RX9 31 "Popupwright$Strip" "high" "I"] ++ wsX90)
def wsX0_begin_r1 : List Cond := [Cond.fieldLink RX0 58 "Popupwright$Book" "isBegun" "Z", Cond.fieldLink RX0 62 "Popupwright$Book" "width" "I", Cond.fieldLink RX0 65 "Popupwright$Book" "height" "I", Cond.fieldLink RX0 68 "Popupwright$Book" "count" "I", Cond.fieldLink RX0 19 "Popupwright$Book" "creases" "[LPopupwright$Crease;", Cond.fieldLink RX0 30 "Popupwright$Book" "leftPage" "LPopupwright$Strip;", Cond.fieldLink RX0 34 "Popupwright$Book" "rightPage" "LPopupwright$Strip;", Cond.methodLink RX0 71 yX1_stand, Cond.instanceMethod yX1_stand, Cond.selects RX1 yX1_stand yX1_stand, Cond.initialized RX1, Cond.code yX1_stand cX1_stand 5 none, Cond.fieldLink RX1 7 "Popupwright$Crease" "i" "I", Cond.fieldLink RX1 13 "Popupwright$Crease" "j" "I", Cond.fieldLink RX1 16 "Popupwright$Crease" "leftRoom" "I", Cond.fieldLink RX1 19 "Popupwright$Crease" "rightRoom" "I", Cond.methodLink RX0 75 yX1_span, Cond.instanceMethod yX1_span, Cond.selects RX1 yX1_span yX1_span, Cond.code yX1_span cX1_span 3 none, Cond.fieldLink RX1 22 "Popupwright$Crease" "low" "I", Cond.fieldLink RX1 25 "Popupwright$Crease" "high" "I", Cond.methodLink RX0 79 yX9_lay, Cond.instanceMethod yX9_lay]
def wsX0_begin_r2 : List Cond := [Cond.selects RX9 yX9_lay yX9_lay, Cond.initialized RX9, Cond.code yX9_lay cX9_lay 7 none, Cond.fieldLink RX9 9 "Popupwright$Strip" "isMade" "Z", Cond.fieldLink RX9 15 "Popupwright$Strip" "isRight" "Z", Cond.fieldLink RX9 18 "Popupwright$Strip" "i" "I", Cond.fieldLink RX9 22 "Popupwright$Strip" "j" "I", Cond.fieldLink RX9 25 "Popupwright$Strip" "length" "I", Cond.fieldLink RX9 28 "Popupwright$Strip" "low" "I", Cond.fieldLink RX9 31 "Popupwright$Strip" "high" "I"]
def wsX0_begin : List Cond := .code yX0_begin cX0_begin 3 none :: ((wsX0_begin_r1 ++ wsX0_begin_r2) ++ wsX00 ++ wsX10 ++ wsX90)
def wsX11_spread_r1 : List Cond := [Cond.classLink RX11 57 "java/lang/IllegalArgumentException", Cond.initialized "java/lang/IllegalArgumentException", Cond.fieldLink RX11 10 "Popupwright" "book" "LPopupwright$Book;", Cond.fieldLink RX11 64 "Popupwright$Book" "count" "I", Cond.fieldLink RX11 21 "Popupwright" "layers" "LPopupwright$Layers;", Cond.fieldLink RX11 72 "Popupwright$Layers" "count" "I", Cond.fieldLink RX11 28 "Popupwright" "pulls" "LPopupwright$Pulls;", Cond.fieldLink RX11 73 "Popupwright$Pulls" "count" "I", Cond.methodLink RX11 53 yX11_isWithin, Cond.static yX11_isWithin, Cond.initialized RX11, Cond.code yX11_isWithin cX11_isWithin 3 (some .boolean), Cond.methodLink RX11 68 yX0_begin, Cond.instanceMethod yX0_begin, Cond.selects RX0 yX0_begin yX0_begin, Cond.initialized RX0, Cond.code yX0_begin cX0_begin 3 none, Cond.fieldLink RX0 58 "Popupwright$Book" "isBegun" "Z", Cond.fieldLink RX0 62 "Popupwright$Book" "width" "I", Cond.fieldLink RX0 65 "Popupwright$Book" "height" "I", Cond.fieldLink RX0 68 "Popupwright$Book" "count" "I", Cond.fieldLink RX0 19 "Popupwright$Book" "creases" "[LPopupwright$Crease;", Cond.fieldLink RX0 30 "Popupwright$Book" "leftPage" "LPopupwright$Strip;", Cond.fieldLink RX0 34 "Popupwright$Book" "rightPage" "LPopupwright$Strip;"]
def wsX11_spread_r2 : List Cond := [Cond.methodLink RX0 71 yX1_stand, Cond.instanceMethod yX1_stand, Cond.selects RX1 yX1_stand yX1_stand, Cond.initialized RX1, Cond.code yX1_stand cX1_stand 5 none, Cond.fieldLink RX1 7 "Popupwright$Crease" "i" "I", Cond.fieldLink RX1 13 "Popupwright$Crease" "j" "I", Cond.fieldLink RX1 16 "Popupwright$Crease" "leftRoom" "I", Cond.fieldLink RX1 19 "Popupwright$Crease" "rightRoom" "I", Cond.methodLink RX0 75 yX1_span, Cond.instanceMethod yX1_span, Cond.selects RX1 yX1_span yX1_span, Cond.code yX1_span cX1_span 3 none, Cond.fieldLink RX1 22 "Popupwright$Crease" "low" "I", Cond.fieldLink RX1 25 "Popupwright$Crease" "high" "I", Cond.methodLink RX0 79 yX9_lay, Cond.instanceMethod yX9_lay, Cond.selects RX9 yX9_lay yX9_lay, Cond.initialized RX9, Cond.code yX9_lay cX9_lay 7 none, Cond.fieldLink RX9 9 "Popupwright$Strip" "isMade" "Z", Cond.fieldLink RX9 15 "Popupwright$Strip" "isRight" "Z", Cond.fieldLink RX9 18 "Popupwright$Strip" "i" "I", Cond.fieldLink RX9 22 "Popupwright$Strip" "j" "I"]
def wsX11_spread_r3 : List Cond := [Cond.fieldLink RX9 25 "Popupwright$Strip" "length" "I", Cond.fieldLink RX9 28 "Popupwright$Strip" "low" "I", Cond.fieldLink RX9 31 "Popupwright$Strip" "high" "I"]
def wsX11_spread : List Cond := .code yX11_spread cX11_spread 4 (some .int) :: ((wsX11_spread_r1 ++ (wsX11_spread_r2 ++ wsX11_spread_r3)) ++ wsX110 ++ wsX00 ++ wsX40 ++ wsX80 ++ wsX10 ++ wsX90 ++ (vx_atS RX11 61 "java/lang/IllegalArgumentException" ["java/lang/RuntimeException", "java/lang/Exception"]).filter goodWord)
def wsX12_init : List Cond := .code yX12_init cX12_init 8 none :: ([.methodLink RX12 1 objectInit, .instanceMethod objectInit, .code objectInit ⟨#[0xb1]⟩ 1 none, .fieldLink RX12 7 "PopupwrightModel$Crease" "maker" "LPopupwrightModel$Fold;", .fieldLink RX12 13 "PopupwrightModel$Crease" "i" "I", .fieldLink RX12 17 "PopupwrightModel$Crease" "j" "I", .fieldLink RX12 20 "PopupwrightModel$Crease" "left" "I", .fieldLink RX12 23 "PopupwrightModel$Crease" "right" "I", .fieldLink RX12 26 "PopupwrightModel$Crease" "low" "I", .fieldLink RX12 29 "PopupwrightModel$Crease" "high" "I"] ++ wsX120)
def wsJx4a65c_clear_da8c8 : List Cond := .code yJx4a65c_clear_da8c8 cJx4a65c_clear_da8c8 4 none :: ([.fieldLink RJx4a65c 63 "java/util/ArrayList" "modCount" "I", .sameField "java/util/ArrayList" "java/util/AbstractList" "modCount" "I", .fieldLink RJx4a65c 9 "java/util/ArrayList" "elementData" "[Ljava/lang/Object;", .fieldLink RJx4a65c 48 "java/util/ArrayList" "size" "I"] ++ wsJx4a65c0)
def wsJx4a65c_grow_92f84_r1 : List Cond := [Cond.fieldLink RJx4a65c 9 "java/util/ArrayList" "elementData" "[Ljava/lang/Object;", Cond.fieldLink RJx4a65c 39 "java/util/ArrayList" "DEFAULTCAPACITY_EMPTY_ELEMENTDATA" "[Ljava/lang/Object;", Cond.methodLink RJx4a65c 79 Lib.Math.max.name, Cond.static Lib.Math.max.name, Cond.initialized "java/lang/Math", Cond.code Lib.Math.max.name Lib.Math.max.code 2 (some .int), Cond.classLink RJx4a65c 7 "java/lang/Object", Cond.methodLink RJx4a65c 73 yJ8_newLength_cabcc, Cond.static yJ8_newLength_cabcc, Cond.initialized RJ8, Cond.code yJ8_newLength_cabcc cJ8_newLength_cabcc 4 (some .int), Cond.methodLink RJ8 194 Lib.Math.max.name, Cond.constant RJ8 200 (2147483639), Cond.methodLink RJ8 201 yJ8_hugeLength_7cf53, Cond.static yJ8_hugeLength_7cf53, Cond.code yJ8_hugeLength_7cf53 cJ8_hugeLength_7cf53 3 (some .int), Cond.methodLink RJx4a65c 66 yJ7_copyOf_1904c, Cond.static yJ7_copyOf_1904c, Cond.initialized RJ7, Cond.code yJ7_copyOf_1904c cJ7_copyOf_1904c 2 (some (.array (.object "java/lang/Object"))), Cond.methodLink RJ7 86 ⟨"java/lang/Object", "getClass", "()Ljava/lang/Class;"⟩, Cond.selects "[Ljava/lang/Object;" ⟨"java/lang/Object", "getClass", "()Ljava/lang/Class;"⟩ ⟨"java/lang/Object", "getClass", "()Ljava/lang/Class;"⟩, Cond.instanceMethod ⟨"java/lang/Object", "getClass", "()Ljava/lang/Class;"⟩, Cond.native ⟨"java/lang/Object", "getClass", "()Ljava/lang/Class;"⟩]
def wsJx4a65c_grow_92f84_r2 : List Cond := [Cond.methodLink RJ7 300 yJ7_copyOf_6403c, Cond.static yJ7_copyOf_6403c, Cond.code yJ7_copyOf_6403c cJ7_copyOf_6403c 4 (some (.array (.object "java/lang/Object"))), Cond.classLink RJ7 110 "[Ljava/lang/Object;", Cond.classLink RJ7 2 "java/lang/Object", Cond.methodLink RJ7 304 Lib.Math.min.name, Cond.static Lib.Math.min.name, Cond.code Lib.Math.min.name Lib.Math.min.code 2 (some .int), Cond.methodLink RJ7 150 arraycopyName, Cond.native arraycopyName, Cond.static arraycopyName, Cond.initialized "java/lang/System"]
def wsJx4a65c_grow_92f84 : List Cond := .code yJx4a65c_grow_92f84 cJx4a65c_grow_92f84 4 (some (.array (.object "java/lang/Object"))) :: ((wsJx4a65c_grow_92f84_r1 ++ wsJx4a65c_grow_92f84_r2) ++ wsJx4a65c0)
def wsJx4a65c_grow_d5877_r1 : List Cond := [Cond.fieldLink RJx4a65c 48 "java/util/ArrayList" "size" "I", Cond.methodLink RJx4a65c 69 yJx4a65c_grow_92f84, Cond.instanceMethod yJx4a65c_grow_92f84, Cond.selects RJx4a65c yJx4a65c_grow_92f84 yJx4a65c_grow_92f84, Cond.initialized RJx4a65c, Cond.code yJx4a65c_grow_92f84 cJx4a65c_grow_92f84 4 (some (.array (.object "java/lang/Object"))), Cond.fieldLink RJx4a65c 9 "java/util/ArrayList" "elementData" "[Ljava/lang/Object;", Cond.fieldLink RJx4a65c 39 "java/util/ArrayList" "DEFAULTCAPACITY_EMPTY_ELEMENTDATA" "[Ljava/lang/Object;", Cond.methodLink RJx4a65c 79 Lib.Math.max.name, Cond.static Lib.Math.max.name, Cond.initialized "java/lang/Math", Cond.code Lib.Math.max.name Lib.Math.max.code 2 (some .int), Cond.classLink RJx4a65c 7 "java/lang/Object", Cond.methodLink RJx4a65c 73 yJ8_newLength_cabcc, Cond.static yJ8_newLength_cabcc, Cond.initialized RJ8, Cond.code yJ8_newLength_cabcc cJ8_newLength_cabcc 4 (some .int), Cond.methodLink RJ8 194 Lib.Math.max.name, Cond.constant RJ8 200 (2147483639), Cond.methodLink RJ8 201 yJ8_hugeLength_7cf53, Cond.static yJ8_hugeLength_7cf53, Cond.code yJ8_hugeLength_7cf53 cJ8_hugeLength_7cf53 3 (some .int), Cond.methodLink RJx4a65c 66 yJ7_copyOf_1904c, Cond.static yJ7_copyOf_1904c]
def wsJx4a65c_grow_d5877_r2 : List Cond := [Cond.initialized RJ7, Cond.code yJ7_copyOf_1904c cJ7_copyOf_1904c 2 (some (.array (.object "java/lang/Object"))), Cond.methodLink RJ7 86 ⟨"java/lang/Object", "getClass", "()Ljava/lang/Class;"⟩, Cond.selects "[Ljava/lang/Object;" ⟨"java/lang/Object", "getClass", "()Ljava/lang/Class;"⟩ ⟨"java/lang/Object", "getClass", "()Ljava/lang/Class;"⟩, Cond.instanceMethod ⟨"java/lang/Object", "getClass", "()Ljava/lang/Class;"⟩, Cond.native ⟨"java/lang/Object", "getClass", "()Ljava/lang/Class;"⟩, Cond.methodLink RJ7 300 yJ7_copyOf_6403c, Cond.static yJ7_copyOf_6403c, Cond.code yJ7_copyOf_6403c cJ7_copyOf_6403c 4 (some (.array (.object "java/lang/Object"))), Cond.classLink RJ7 110 "[Ljava/lang/Object;", Cond.classLink RJ7 2 "java/lang/Object", Cond.methodLink RJ7 304 Lib.Math.min.name, Cond.static Lib.Math.min.name, Cond.code Lib.Math.min.name Lib.Math.min.code 2 (some .int), Cond.methodLink RJ7 150 arraycopyName, Cond.native arraycopyName, Cond.static arraycopyName, Cond.initialized "java/lang/System"]
def wsJx4a65c_grow_d5877 : List Cond := .code yJx4a65c_grow_d5877 cJx4a65c_grow_d5877 1 (some (.array (.object "java/lang/Object"))) :: ((wsJx4a65c_grow_d5877_r1 ++ wsJx4a65c_grow_d5877_r2) ++ wsJx4a65c0)
def wsJx4a65c_add_72be8_r1 : List Cond := [Cond.fieldLink RJx4a65c 48 "java/util/ArrayList" "size" "I", Cond.methodLink RJx4a65c 129 yJx4a65c_grow_d5877, Cond.instanceMethod yJx4a65c_grow_d5877, Cond.selects RJx4a65c yJx4a65c_grow_d5877 yJx4a65c_grow_d5877, Cond.initialized RJx4a65c, Cond.code yJx4a65c_grow_d5877 cJx4a65c_grow_d5877 1 (some (.array (.object "java/lang/Object"))), Cond.methodLink RJx4a65c 69 yJx4a65c_grow_92f84, Cond.instanceMethod yJx4a65c_grow_92f84, Cond.selects RJx4a65c yJx4a65c_grow_92f84 yJx4a65c_grow_92f84, Cond.code yJx4a65c_grow_92f84 cJx4a65c_grow_92f84 4 (some (.array (.object "java/lang/Object"))), Cond.fieldLink RJx4a65c 9 "java/util/ArrayList" "elementData" "[Ljava/lang/Object;", Cond.fieldLink RJx4a65c 39 "java/util/ArrayList" "DEFAULTCAPACITY_EMPTY_ELEMENTDATA" "[Ljava/lang/Object;", Cond.methodLink RJx4a65c 79 Lib.Math.max.name, Cond.static Lib.Math.max.name, Cond.initialized "java/lang/Math", Cond.code Lib.Math.max.name Lib.Math.max.code 2 (some .int), Cond.classLink RJx4a65c 7 "java/lang/Object", Cond.methodLink RJx4a65c 73 yJ8_newLength_cabcc, Cond.static yJ8_newLength_cabcc, Cond.initialized RJ8, Cond.code yJ8_newLength_cabcc cJ8_newLength_cabcc 4 (some .int), Cond.methodLink RJ8 194 Lib.Math.max.name, Cond.constant RJ8 200 (2147483639), Cond.methodLink RJ8 201 yJ8_hugeLength_7cf53]
def wsJx4a65c_add_72be8_r2 : List Cond := [Cond.static yJ8_hugeLength_7cf53, Cond.code yJ8_hugeLength_7cf53 cJ8_hugeLength_7cf53 3 (some .int), Cond.methodLink RJx4a65c 66 yJ7_copyOf_1904c, Cond.static yJ7_copyOf_1904c, Cond.initialized RJ7, Cond.code yJ7_copyOf_1904c cJ7_copyOf_1904c 2 (some (.array (.object "java/lang/Object"))), Cond.methodLink RJ7 86 ⟨"java/lang/Object", "getClass", "()Ljava/lang/Class;"⟩, Cond.selects "[Ljava/lang/Object;" ⟨"java/lang/Object", "getClass", "()Ljava/lang/Class;"⟩ ⟨"java/lang/Object", "getClass", "()Ljava/lang/Class;"⟩, Cond.instanceMethod ⟨"java/lang/Object", "getClass", "()Ljava/lang/Class;"⟩, Cond.native ⟨"java/lang/Object", "getClass", "()Ljava/lang/Class;"⟩, Cond.methodLink RJ7 300 yJ7_copyOf_6403c, Cond.static yJ7_copyOf_6403c, Cond.code yJ7_copyOf_6403c cJ7_copyOf_6403c 4 (some (.array (.object "java/lang/Object"))), Cond.classLink RJ7 110 "[Ljava/lang/Object;", Cond.classLink RJ7 2 "java/lang/Object", Cond.methodLink RJ7 304 Lib.Math.min.name, Cond.static Lib.Math.min.name, Cond.code Lib.Math.min.name Lib.Math.min.code 2 (some .int), Cond.methodLink RJ7 150 arraycopyName, Cond.native arraycopyName, Cond.static arraycopyName, Cond.initialized "java/lang/System"]
def wsJx4a65c_add_72be8 : List Cond := .code yJx4a65c_add_72be8 cJx4a65c_add_72be8 4 none :: ((wsJx4a65c_add_72be8_r1 ++ wsJx4a65c_add_72be8_r2) ++ wsJx4a65c0)
def wsJx4a65c_add_9ea2d_r1 : List Cond := [Cond.fieldLink RJx4a65c 63 "java/util/ArrayList" "modCount" "I", Cond.sameField "java/util/ArrayList" "java/util/AbstractList" "modCount" "I", Cond.fieldLink RJx4a65c 9 "java/util/ArrayList" "elementData" "[Ljava/lang/Object;", Cond.fieldLink RJx4a65c 48 "java/util/ArrayList" "size" "I", Cond.methodLink RJx4a65c 131 yJx4a65c_add_72be8, Cond.instanceMethod yJx4a65c_add_72be8, Cond.selects RJx4a65c yJx4a65c_add_72be8 yJx4a65c_add_72be8, Cond.initialized RJx4a65c, Cond.code yJx4a65c_add_72be8 cJx4a65c_add_72be8 4 none, Cond.methodLink RJx4a65c 129 yJx4a65c_grow_d5877, Cond.instanceMethod yJx4a65c_grow_d5877, Cond.selects RJx4a65c yJx4a65c_grow_d5877 yJx4a65c_grow_d5877, Cond.code yJx4a65c_grow_d5877 cJx4a65c_grow_d5877 1 (some (.array (.object "java/lang/Object"))), Cond.methodLink RJx4a65c 69 yJx4a65c_grow_92f84, Cond.instanceMethod yJx4a65c_grow_92f84, Cond.selects RJx4a65c yJx4a65c_grow_92f84 yJx4a65c_grow_92f84, Cond.code yJx4a65c_grow_92f84 cJx4a65c_grow_92f84 4 (some (.array (.object "java/lang/Object"))), Cond.fieldLink RJx4a65c 39 "java/util/ArrayList" "DEFAULTCAPACITY_EMPTY_ELEMENTDATA" "[Ljava/lang/Object;", Cond.methodLink RJx4a65c 79 Lib.Math.max.name, Cond.static Lib.Math.max.name, Cond.initialized "java/lang/Math", Cond.code Lib.Math.max.name Lib.Math.max.code 2 (some .int), Cond.classLink RJx4a65c 7 "java/lang/Object", Cond.methodLink RJx4a65c 73 yJ8_newLength_cabcc]
def wsJx4a65c_add_9ea2d_r2 : List Cond := [Cond.static yJ8_newLength_cabcc, Cond.initialized RJ8, Cond.code yJ8_newLength_cabcc cJ8_newLength_cabcc 4 (some .int), Cond.methodLink RJ8 194 Lib.Math.max.name, Cond.constant RJ8 200 (2147483639), Cond.methodLink RJ8 201 yJ8_hugeLength_7cf53, Cond.static yJ8_hugeLength_7cf53, Cond.code yJ8_hugeLength_7cf53 cJ8_hugeLength_7cf53 3 (some .int), Cond.methodLink RJx4a65c 66 yJ7_copyOf_1904c, Cond.static yJ7_copyOf_1904c, Cond.initialized RJ7, Cond.code yJ7_copyOf_1904c cJ7_copyOf_1904c 2 (some (.array (.object "java/lang/Object"))), Cond.methodLink RJ7 86 ⟨"java/lang/Object", "getClass", "()Ljava/lang/Class;"⟩, Cond.selects "[Ljava/lang/Object;" ⟨"java/lang/Object", "getClass", "()Ljava/lang/Class;"⟩ ⟨"java/lang/Object", "getClass", "()Ljava/lang/Class;"⟩, Cond.instanceMethod ⟨"java/lang/Object", "getClass", "()Ljava/lang/Class;"⟩, Cond.native ⟨"java/lang/Object", "getClass", "()Ljava/lang/Class;"⟩, Cond.methodLink RJ7 300 yJ7_copyOf_6403c, Cond.static yJ7_copyOf_6403c, Cond.code yJ7_copyOf_6403c cJ7_copyOf_6403c 4 (some (.array (.object "java/lang/Object"))), Cond.classLink RJ7 110 "[Ljava/lang/Object;", Cond.classLink RJ7 2 "java/lang/Object", Cond.methodLink RJ7 304 Lib.Math.min.name, Cond.static Lib.Math.min.name, Cond.code Lib.Math.min.name Lib.Math.min.code 2 (some .int)]
def wsJx4a65c_add_9ea2d_r3 : List Cond := [Cond.methodLink RJ7 150 arraycopyName, Cond.native arraycopyName, Cond.static arraycopyName, Cond.initialized "java/lang/System"]
def wsJx4a65c_add_9ea2d : List Cond := .code yJx4a65c_add_9ea2d cJx4a65c_add_9ea2d 2 (some .boolean) :: ((wsJx4a65c_add_9ea2d_r1 ++ (wsJx4a65c_add_9ea2d_r2 ++ wsJx4a65c_add_9ea2d_r3)) ++ wsJx4a65c0)
def wsX17_spread_r1 : List Cond := [Cond.fieldLink RX17 41 "PopupwrightModel" "code" "I", Cond.fieldLink RX17 16 "PopupwrightModel" "folds" "Ljava/util/List;", Cond.fieldLink RX17 58 "PopupwrightModel" "hasSpread" "Z", Cond.fieldLink RX17 62 "PopupwrightModel" "width" "I", Cond.fieldLink RX17 65 "PopupwrightModel" "height" "I", Cond.fieldLink RX17 10 "PopupwrightModel" "creases" "Ljava/util/List;", Cond.fieldLink RX17 19 "PopupwrightModel" "pictures" "Ljava/util/List;", Cond.fieldLink RX17 22 "PopupwrightModel" "pulls" "Ljava/util/List;", Cond.classLink RX17 71 RX12, Cond.instantiable RX12 7, Cond.initialized RX12, Cond.methodLink RX17 44 yX17_in, Cond.static yX17_in, Cond.initialized RX17, Cond.code yX17_in cX17_in 3 (some .boolean), Cond.methodLink RX17 48 yX17_fails, Cond.instanceMethod yX17_fails, Cond.selects RX17 yX17_fails yX17_fails, Cond.code yX17_fails cX17_fails 2 (some .int), Cond.methodLink RX17 52 ⟨"java/util/List", "size", "()I"⟩, Cond.selects RJx4a65c ⟨"java/util/List", "size", "()I"⟩ yJx4a65c_size_8abf5, Cond.instanceMethod yJx4a65c_size_8abf5, Cond.initialized RJx4a65c, Cond.code yJx4a65c_size_8abf5 cJx4a65c_size_8abf5 1 (some .int)]
def wsX17_spread_r2 : List Cond := [Cond.fieldLink RJx4a65c 48 "java/util/ArrayList" "size" "I", Cond.methodLink RX17 68 ⟨"java/util/List", "clear", "()V"⟩, Cond.selects RJx4a65c ⟨"java/util/List", "clear", "()V"⟩ yJx4a65c_clear_da8c8, Cond.instanceMethod yJx4a65c_clear_da8c8, Cond.code yJx4a65c_clear_da8c8 cJx4a65c_clear_da8c8 4 none, Cond.fieldLink RJx4a65c 63 "java/util/ArrayList" "modCount" "I", Cond.sameField "java/util/ArrayList" "java/util/AbstractList" "modCount" "I", Cond.fieldLink RJx4a65c 9 "java/util/ArrayList" "elementData" "[Ljava/lang/Object;", Cond.methodLink RX17 73 yX12_init, Cond.instanceMethod yX12_init, Cond.code yX12_init cX12_init 8 none, Cond.methodLink RX12 1 objectInit, Cond.instanceMethod objectInit, Cond.code objectInit ⟨#[0xb1]⟩ 1 none, Cond.fieldLink RX12 7 "PopupwrightModel$Crease" "maker" "LPopupwrightModel$Fold;", Cond.fieldLink RX12 13 "PopupwrightModel$Crease" "i" "I", Cond.fieldLink RX12 17 "PopupwrightModel$Crease" "j" "I", Cond.fieldLink RX12 20 "PopupwrightModel$Crease" "left" "I", Cond.fieldLink RX12 23 "PopupwrightModel$Crease" "right" "I", Cond.fieldLink RX12 26 "PopupwrightModel$Crease" "low" "I", Cond.fieldLink RX12 29 "PopupwrightModel$Crease" "high" "I", Cond.methodLink RX17 76 ⟨"java/util/List", "add", "(Ljava/lang/Object;)Z"⟩, Cond.selects RJx4a65c ⟨"java/util/List", "add", "(Ljava/lang/Object;)Z"⟩ yJx4a65c_add_9ea2d, Cond.instanceMethod yJx4a65c_add_9ea2d]
def wsX17_spread_r3 : List Cond := [Cond.code yJx4a65c_add_9ea2d cJx4a65c_add_9ea2d 2 (some .boolean), Cond.methodLink RJx4a65c 131 yJx4a65c_add_72be8, Cond.instanceMethod yJx4a65c_add_72be8, Cond.selects RJx4a65c yJx4a65c_add_72be8 yJx4a65c_add_72be8, Cond.code yJx4a65c_add_72be8 cJx4a65c_add_72be8 4 none, Cond.methodLink RJx4a65c 129 yJx4a65c_grow_d5877, Cond.instanceMethod yJx4a65c_grow_d5877, Cond.selects RJx4a65c yJx4a65c_grow_d5877 yJx4a65c_grow_d5877, Cond.code yJx4a65c_grow_d5877 cJx4a65c_grow_d5877 1 (some (.array (.object "java/lang/Object"))), Cond.methodLink RJx4a65c 69 yJx4a65c_grow_92f84, Cond.instanceMethod yJx4a65c_grow_92f84, Cond.selects RJx4a65c yJx4a65c_grow_92f84 yJx4a65c_grow_92f84, Cond.code yJx4a65c_grow_92f84 cJx4a65c_grow_92f84 4 (some (.array (.object "java/lang/Object"))), Cond.fieldLink RJx4a65c 39 "java/util/ArrayList" "DEFAULTCAPACITY_EMPTY_ELEMENTDATA" "[Ljava/lang/Object;", Cond.methodLink RJx4a65c 79 Lib.Math.max.name, Cond.static Lib.Math.max.name, Cond.initialized "java/lang/Math", Cond.code Lib.Math.max.name Lib.Math.max.code 2 (some .int), Cond.classLink RJx4a65c 7 "java/lang/Object", Cond.methodLink RJx4a65c 73 yJ8_newLength_cabcc, Cond.static yJ8_newLength_cabcc, Cond.initialized RJ8, Cond.code yJ8_newLength_cabcc cJ8_newLength_cabcc 4 (some .int), Cond.methodLink RJ8 194 Lib.Math.max.name]
def wsX17_spread_r4 : List Cond := [Cond.constant RJ8 200 (2147483639), Cond.methodLink RJ8 201 yJ8_hugeLength_7cf53, Cond.static yJ8_hugeLength_7cf53, Cond.code yJ8_hugeLength_7cf53 cJ8_hugeLength_7cf53 3 (some .int), Cond.methodLink RJx4a65c 66 yJ7_copyOf_1904c, Cond.static yJ7_copyOf_1904c, Cond.initialized RJ7, Cond.code yJ7_copyOf_1904c cJ7_copyOf_1904c 2 (some (.array (.object "java/lang/Object"))), Cond.methodLink RJ7 86 ⟨"java/lang/Object", "getClass", "()Ljava/lang/Class;"⟩, Cond.selects "[Ljava/lang/Object;" ⟨"java/lang/Object", "getClass", "()Ljava/lang/Class;"⟩ ⟨"java/lang/Object", "getClass", "()Ljava/lang/Class;"⟩, Cond.instanceMethod ⟨"java/lang/Object", "getClass", "()Ljava/lang/Class;"⟩, Cond.native ⟨"java/lang/Object", "getClass", "()Ljava/lang/Class;"⟩, Cond.methodLink RJ7 300 yJ7_copyOf_6403c, Cond.static yJ7_copyOf_6403c, Cond.code yJ7_copyOf_6403c cJ7_copyOf_6403c 4 (some (.array (.object "java/lang/Object"))), Cond.classLink RJ7 110 "[Ljava/lang/Object;", Cond.classLink RJ7 2 "java/lang/Object", Cond.methodLink RJ7 304 Lib.Math.min.name, Cond.static Lib.Math.min.name, Cond.code Lib.Math.min.name Lib.Math.min.code 2 (some .int), Cond.methodLink RJ7 150 arraycopyName, Cond.native arraycopyName, Cond.static arraycopyName, Cond.initialized "java/lang/System"]
def wsX17_spread : List Cond := .code yX17_spread cX17_spread 4 (some .int) :: ((wsX17_spread_r1 ++ (wsX17_spread_r2 ++ (wsX17_spread_r3 ++ wsX17_spread_r4))) ++ wsX170 ++ wsX120 ++ wsJx4a65c0)
def wsL_spread_r1 : List Cond := [Cond.classLink RL 13 "java/lang/IllegalArgumentException", Cond.methodLink RL 7 yX11_spread, Cond.instanceMethod yX11_spread, Cond.selects RX11 yX11_spread yX11_spread, Cond.initialized RX11, Cond.code yX11_spread cX11_spread 4 (some .int), Cond.classLink RX11 57 "java/lang/IllegalArgumentException", Cond.initialized "java/lang/IllegalArgumentException", Cond.fieldLink RX11 10 "Popupwright" "book" "LPopupwright$Book;", Cond.fieldLink RX11 64 "Popupwright$Book" "count" "I", Cond.fieldLink RX11 21 "Popupwright" "layers" "LPopupwright$Layers;", Cond.fieldLink RX11 72 "Popupwright$Layers" "count" "I", Cond.fieldLink RX11 28 "Popupwright" "pulls" "LPopupwright$Pulls;", Cond.fieldLink RX11 73 "Popupwright$Pulls" "count" "I", Cond.methodLink RX11 53 yX11_isWithin, Cond.static yX11_isWithin, Cond.code yX11_isWithin cX11_isWithin 3 (some .boolean), Cond.methodLink RX11 68 yX0_begin, Cond.instanceMethod yX0_begin, Cond.selects RX0 yX0_begin yX0_begin, Cond.initialized RX0, Cond.code yX0_begin cX0_begin 3 none, Cond.fieldLink RX0 58 "Popupwright$Book" "isBegun" "Z", Cond.fieldLink RX0 62 "Popupwright$Book" "width" "I"]
def wsL_spread_r2 : List Cond := [Cond.fieldLink RX0 65 "Popupwright$Book" "height" "I", Cond.fieldLink RX0 68 "Popupwright$Book" "count" "I", Cond.fieldLink RX0 19 "Popupwright$Book" "creases" "[LPopupwright$Crease;", Cond.fieldLink RX0 30 "Popupwright$Book" "leftPage" "LPopupwright$Strip;", Cond.fieldLink RX0 34 "Popupwright$Book" "rightPage" "LPopupwright$Strip;", Cond.methodLink RX0 71 yX1_stand, Cond.instanceMethod yX1_stand, Cond.selects RX1 yX1_stand yX1_stand, Cond.initialized RX1, Cond.code yX1_stand cX1_stand 5 none, Cond.fieldLink RX1 7 "Popupwright$Crease" "i" "I", Cond.fieldLink RX1 13 "Popupwright$Crease" "j" "I", Cond.fieldLink RX1 16 "Popupwright$Crease" "leftRoom" "I", Cond.fieldLink RX1 19 "Popupwright$Crease" "rightRoom" "I", Cond.methodLink RX0 75 yX1_span, Cond.instanceMethod yX1_span, Cond.selects RX1 yX1_span yX1_span, Cond.code yX1_span cX1_span 3 none, Cond.fieldLink RX1 22 "Popupwright$Crease" "low" "I", Cond.fieldLink RX1 25 "Popupwright$Crease" "high" "I", Cond.methodLink RX0 79 yX9_lay, Cond.instanceMethod yX9_lay, Cond.selects RX9 yX9_lay yX9_lay, Cond.initialized RX9]
def wsL_spread_r3 : List Cond := [Cond.code yX9_lay cX9_lay 7 none, Cond.fieldLink RX9 9 "Popupwright$Strip" "isMade" "Z", Cond.fieldLink RX9 15 "Popupwright$Strip" "isRight" "Z", Cond.fieldLink RX9 18 "Popupwright$Strip" "i" "I", Cond.fieldLink RX9 22 "Popupwright$Strip" "j" "I", Cond.fieldLink RX9 25 "Popupwright$Strip" "length" "I", Cond.fieldLink RX9 28 "Popupwright$Strip" "low" "I", Cond.fieldLink RX9 31 "Popupwright$Strip" "high" "I"]
def wsL_spread : List Cond := .codeWith yL_spread cL_spread 5 (some .int) [(0, 10, 13, 13)] :: ((wsL_spread_r1 ++ (wsL_spread_r2 ++ wsL_spread_r3)) ++ wsX110 ++ wsX00 ++ wsX40 ++ wsX80 ++ wsX10 ++ wsX90 ++ (vx_atM "java/lang/ArrayIndexOutOfBoundsException" ["java/lang/IndexOutOfBoundsException", "java/lang/RuntimeException", "java/lang/Exception"]).filter goodWord ++ (vx_atS RX11 61 "java/lang/IllegalArgumentException" ["java/lang/RuntimeException", "java/lang/Exception"]).filter goodWord)
set_option maxRecDepth 20000 in
theorem ggX0_begin_X1_stand : GoodIn wsX0_begin wsX1_stand := goodIn_r _ [12, 13, 14, 15, 16, 46, 47, 48, 49, 50, 51] (by decide +kernel) (by decide +kernel)
set_option maxRecDepth 20000 in
theorem gX0_begin_X1_stand : GoodIn wsX0_begin (wsV RX0 71 RX1 yX1_stand wsX1_stand) := goodIn_app (goodIn_of _ (by decide +kernel)) ggX0_begin_X1_stand
set_option maxRecDepth 20000 in
theorem ggX0_begin_X1_span : GoodIn wsX0_begin wsX1_span := goodIn_r _ [20, 21, 22, 46, 47, 48, 49, 50, 51] (by decide +kernel) (by decide +kernel)
set_option maxRecDepth 20000 in
theorem gX0_begin_X1_span : GoodIn wsX0_begin (wsV RX0 75 RX1 yX1_span wsX1_span) := goodIn_app (goodIn_of _ (by decide +kernel)) ggX0_begin_X1_span
set_option maxRecDepth 20000 in
theorem ggX0_begin_X9_lay : GoodIn wsX0_begin wsX9_lay := goodIn_r _ [27, 28, 29, 30, 31, 32, 33, 34, 52, 53, 54, 55, 56, 57, 58] (by decide +kernel) (by decide +kernel)
set_option maxRecDepth 20000 in
theorem gX0_begin_X9_lay : GoodIn wsX0_begin (wsV RX0 79 RX9 yX9_lay wsX9_lay) := goodIn_app (goodIn_of _ (by decide +kernel)) ggX0_begin_X9_lay
theorem dX0_begin_0 : decode cX0_begin 0 = .ok (.aload_n 0, 1) := by decide +kernel
theorem dX0_begin_1 : decode cX0_begin 1 = .ok (.iconst 1, 1) := by decide +kernel
theorem dX0_begin_2 : decode cX0_begin 2 = .ok (.putfield 58, 3) := by decide +kernel
theorem dX0_begin_5 : decode cX0_begin 5 = .ok (.aload_n 0, 1) := by decide +kernel
theorem dX0_begin_6 : decode cX0_begin 6 = .ok (.iload_n 1, 1) := by decide +kernel
theorem dX0_begin_7 : decode cX0_begin 7 = .ok (.putfield 62, 3) := by decide +kernel
theorem dX0_begin_10 : decode cX0_begin 10 = .ok (.aload_n 0, 1) := by decide +kernel
theorem dX0_begin_11 : decode cX0_begin 11 = .ok (.iload_n 2, 1) := by decide +kernel
theorem dX0_begin_12 : decode cX0_begin 12 = .ok (.putfield 65, 3) := by decide +kernel
theorem dX0_begin_15 : decode cX0_begin 15 = .ok (.aload_n 0, 1) := by decide +kernel
theorem dX0_begin_16 : decode cX0_begin 16 = .ok (.iconst 0, 1) := by decide +kernel
theorem dX0_begin_17 : decode cX0_begin 17 = .ok (.putfield 68, 3) := by decide +kernel
theorem dX0_begin_20 : decode cX0_begin 20 = .ok (.aload_n 0, 1) := by decide +kernel
theorem dX0_begin_21 : decode cX0_begin 21 = .ok (.getfield 19, 3) := by decide +kernel
theorem dX0_begin_24 : decode cX0_begin 24 = .ok (.iconst 0, 1) := by decide +kernel
theorem dX0_begin_25 : decode cX0_begin 25 = .ok (.aaload, 1) := by decide +kernel
theorem dX0_begin_26 : decode cX0_begin 26 = .ok (.iconst 0, 1) := by decide +kernel
theorem dX0_begin_27 : decode cX0_begin 27 = .ok (.iconst 0, 1) := by decide +kernel
theorem dX0_begin_28 : decode cX0_begin 28 = .ok (.aload_n 0, 1) := by decide +kernel
theorem dX0_begin_29 : decode cX0_begin 29 = .ok (.getfield 62, 3) := by decide +kernel
theorem dX0_begin_32 : decode cX0_begin 32 = .ok (.aload_n 0, 1) := by decide +kernel
theorem dX0_begin_33 : decode cX0_begin 33 = .ok (.getfield 62, 3) := by decide +kernel
theorem dX0_begin_36 : decode cX0_begin 36 = .ok (.invokevirtual 71, 3) := by decide +kernel
theorem dX0_begin_39 : decode cX0_begin 39 = .ok (.aload_n 0, 1) := by decide +kernel
theorem dX0_begin_40 : decode cX0_begin 40 = .ok (.getfield 19, 3) := by decide +kernel
theorem dX0_begin_43 : decode cX0_begin 43 = .ok (.iconst 0, 1) := by decide +kernel
theorem dX0_begin_44 : decode cX0_begin 44 = .ok (.aaload, 1) := by decide +kernel
theorem dX0_begin_45 : decode cX0_begin 45 = .ok (.iconst 0, 1) := by decide +kernel
theorem dX0_begin_46 : decode cX0_begin 46 = .ok (.aload_n 0, 1) := by decide +kernel
theorem dX0_begin_47 : decode cX0_begin 47 = .ok (.getfield 65, 3) := by decide +kernel
theorem dX0_begin_50 : decode cX0_begin 50 = .ok (.invokevirtual 75, 3) := by decide +kernel
theorem dX0_begin_53 : decode cX0_begin 53 = .ok (.aload_n 0, 1) := by decide +kernel
theorem dX0_begin_54 : decode cX0_begin 54 = .ok (.getfield 30, 3) := by decide +kernel
theorem dX0_begin_57 : decode cX0_begin 57 = .ok (.iconst 0, 1) := by decide +kernel
theorem dX0_begin_58 : decode cX0_begin 58 = .ok (.iconst 0, 1) := by decide +kernel
theorem dX0_begin_59 : decode cX0_begin 59 = .ok (.iconst 0, 1) := by decide +kernel
theorem dX0_begin_60 : decode cX0_begin 60 = .ok (.aload_n 0, 1) := by decide +kernel
theorem dX0_begin_61 : decode cX0_begin 61 = .ok (.getfield 62, 3) := by decide +kernel
theorem dX0_begin_64 : decode cX0_begin 64 = .ok (.iconst 0, 1) := by decide +kernel
theorem dX0_begin_65 : decode cX0_begin 65 = .ok (.aload_n 0, 1) := by decide +kernel
theorem dX0_begin_66 : decode cX0_begin 66 = .ok (.getfield 65, 3) := by decide +kernel
theorem dX0_begin_69 : decode cX0_begin 69 = .ok (.invokevirtual 79, 3) := by decide +kernel
theorem dX0_begin_72 : decode cX0_begin 72 = .ok (.aload_n 0, 1) := by decide +kernel
theorem dX0_begin_73 : decode cX0_begin 73 = .ok (.getfield 34, 3) := by decide +kernel
theorem dX0_begin_76 : decode cX0_begin 76 = .ok (.iconst 1, 1) := by decide +kernel
theorem dX0_begin_77 : decode cX0_begin 77 = .ok (.iconst 0, 1) := by decide +kernel
theorem dX0_begin_78 : decode cX0_begin 78 = .ok (.iconst 0, 1) := by decide +kernel
theorem dX0_begin_79 : decode cX0_begin 79 = .ok (.aload_n 0, 1) := by decide +kernel
theorem dX0_begin_80 : decode cX0_begin 80 = .ok (.getfield 62, 3) := by decide +kernel
theorem dX0_begin_83 : decode cX0_begin 83 = .ok (.iconst 0, 1) := by decide +kernel
theorem dX0_begin_84 : decode cX0_begin 84 = .ok (.aload_n 0, 1) := by decide +kernel
theorem dX0_begin_85 : decode cX0_begin 85 = .ok (.getfield 65, 3) := by decide +kernel
theorem dX0_begin_88 : decode cX0_begin 88 = .ok (.invokevirtual 79, 3) := by decide +kernel
theorem dX0_begin_91 : decode cX0_begin 91 = .ok (.return_, 1) := by decide +kernel
theorem dX1_stand_0 : decode cX1_stand 0 = .ok (.aload_n 0, 1) := by decide +kernel
theorem dX1_stand_1 : decode cX1_stand 1 = .ok (.iload_n 1, 1) := by decide +kernel
theorem dX1_stand_2 : decode cX1_stand 2 = .ok (.putfield 7, 3) := by decide +kernel
theorem dX1_stand_5 : decode cX1_stand 5 = .ok (.aload_n 0, 1) := by decide +kernel
theorem dX1_stand_6 : decode cX1_stand 6 = .ok (.iload_n 2, 1) := by decide +kernel
theorem dX1_stand_7 : decode cX1_stand 7 = .ok (.putfield 13, 3) := by decide +kernel
theorem dX1_stand_10 : decode cX1_stand 10 = .ok (.aload_n 0, 1) := by decide +kernel
theorem dX1_stand_11 : decode cX1_stand 11 = .ok (.iload_n 3, 1) := by decide +kernel
theorem dX1_stand_12 : decode cX1_stand 12 = .ok (.putfield 16, 3) := by decide +kernel
theorem dX1_stand_15 : decode cX1_stand 15 = .ok (.aload_n 0, 1) := by decide +kernel
theorem dX1_stand_16 : decode cX1_stand 16 = .ok (.iload 4, 2) := by decide +kernel
theorem dX1_stand_18 : decode cX1_stand 18 = .ok (.putfield 19, 3) := by decide +kernel
theorem dX1_stand_21 : decode cX1_stand 21 = .ok (.return_, 1) := by decide +kernel
theorem dX1_span_0 : decode cX1_span 0 = .ok (.aload_n 0, 1) := by decide +kernel
theorem dX1_span_1 : decode cX1_span 1 = .ok (.iload_n 1, 1) := by decide +kernel
theorem dX1_span_2 : decode cX1_span 2 = .ok (.putfield 22, 3) := by decide +kernel
theorem dX1_span_5 : decode cX1_span 5 = .ok (.aload_n 0, 1) := by decide +kernel
theorem dX1_span_6 : decode cX1_span 6 = .ok (.iload_n 2, 1) := by decide +kernel
theorem dX1_span_7 : decode cX1_span 7 = .ok (.putfield 25, 3) := by decide +kernel
theorem dX1_span_10 : decode cX1_span 10 = .ok (.return_, 1) := by decide +kernel
theorem dX9_lay_0 : decode cX9_lay 0 = .ok (.aload_n 0, 1) := by decide +kernel
theorem dX9_lay_1 : decode cX9_lay 1 = .ok (.iconst 1, 1) := by decide +kernel
theorem dX9_lay_2 : decode cX9_lay 2 = .ok (.putfield 9, 3) := by decide +kernel
theorem dX9_lay_5 : decode cX9_lay 5 = .ok (.aload_n 0, 1) := by decide +kernel
theorem dX9_lay_6 : decode cX9_lay 6 = .ok (.iload_n 1, 1) := by decide +kernel
theorem dX9_lay_7 : decode cX9_lay 7 = .ok (.putfield 15, 3) := by decide +kernel
theorem dX9_lay_10 : decode cX9_lay 10 = .ok (.aload_n 0, 1) := by decide +kernel
theorem dX9_lay_11 : decode cX9_lay 11 = .ok (.iload_n 2, 1) := by decide +kernel
theorem dX9_lay_12 : decode cX9_lay 12 = .ok (.putfield 18, 3) := by decide +kernel
theorem dX9_lay_15 : decode cX9_lay 15 = .ok (.aload_n 0, 1) := by decide +kernel
theorem dX9_lay_16 : decode cX9_lay 16 = .ok (.iload_n 3, 1) := by decide +kernel
theorem dX9_lay_17 : decode cX9_lay 17 = .ok (.putfield 22, 3) := by decide +kernel
theorem dX9_lay_20 : decode cX9_lay 20 = .ok (.aload_n 0, 1) := by decide +kernel
theorem dX9_lay_21 : decode cX9_lay 21 = .ok (.iload 4, 2) := by decide +kernel
theorem dX9_lay_23 : decode cX9_lay 23 = .ok (.putfield 25, 3) := by decide +kernel
theorem dX9_lay_26 : decode cX9_lay 26 = .ok (.aload_n 0, 1) := by decide +kernel
theorem dX9_lay_27 : decode cX9_lay 27 = .ok (.iload 5, 2) := by decide +kernel
theorem dX9_lay_29 : decode cX9_lay 29 = .ok (.putfield 28, 3) := by decide +kernel
theorem dX9_lay_32 : decode cX9_lay 32 = .ok (.aload_n 0, 1) := by decide +kernel
theorem dX9_lay_33 : decode cX9_lay 33 = .ok (.iload 6, 2) := by decide +kernel
theorem dX9_lay_35 : decode cX9_lay 35 = .ok (.putfield 31, 3) := by decide +kernel
theorem dX9_lay_38 : decode cX9_lay 38 = .ok (.return_, 1) := by decide +kernel
set_option maxRecDepth 20000 in
theorem ggX11_spread_X11_isWithin : GoodIn wsX11_spread wsX11_isWithin := goodIn_r _ [12] (by decide +kernel) (by decide +kernel)
set_option maxRecDepth 20000 in
theorem gX11_spread_X11_isWithin : GoodIn wsX11_spread (va_wsS RX11 53 yX11_isWithin wsX11_isWithin) := goodIn_app (goodIn_of _ (by decide +kernel)) ggX11_spread_X11_isWithin
set_option maxRecDepth 20000 in
theorem ggX11_spread_X0_begin : GoodIn wsX11_spread wsX0_begin := goodIn_r _ [17, 18, 19, 20, 21, 22, 23, 24, 25, 26, 27, 28, 29, 30, 31, 32, 33, 34, 35, 36, 37, 38, 39, 40, 41, 42, 43, 44, 45, 46, 47, 48, 49, 50, 51, 58, 59, 60, 61, 62, 63, 64, 65, 66, 67, 68, 74, 75, 76, 77, 78, 79, 80, 81, 82, 83, 84, 85, 86] (by decide +kernel) (by decide +kernel)
set_option maxRecDepth 20000 in
theorem gX11_spread_X0_begin : GoodIn wsX11_spread (wsV RX11 68 RX0 yX0_begin wsX0_begin) := goodIn_app (goodIn_of _ (by decide +kernel)) ggX11_spread_X0_begin
theorem dX11_spread_0 : decode cX11_spread 0 = .ok (.iload_n 1, 1) := by decide +kernel
theorem dX11_spread_1 : decode cX11_spread 1 = .ok (.bipush 20, 2) := by decide +kernel
theorem dX11_spread_3 : decode cX11_spread 3 = .ok (.sipush 400, 3) := by decide +kernel
theorem dX11_spread_6 : decode cX11_spread 6 = .ok (.invokestatic 53, 3) := by decide +kernel
theorem dX11_spread_9 : decode cX11_spread 9 = .ok (.ifCond .eq 15, 3) := by decide +kernel
theorem dX11_spread_12 : decode cX11_spread 12 = .ok (.iload_n 2, 1) := by decide +kernel
theorem dX11_spread_13 : decode cX11_spread 13 = .ok (.bipush 20, 2) := by decide +kernel
theorem dX11_spread_15 : decode cX11_spread 15 = .ok (.sipush 400, 3) := by decide +kernel
theorem dX11_spread_18 : decode cX11_spread 18 = .ok (.invokestatic 53, 3) := by decide +kernel
theorem dX11_spread_21 : decode cX11_spread 21 = .ok (.ifCond .ne 13, 3) := by decide +kernel
theorem dX11_spread_24 : decode cX11_spread 24 = .ok (.new 57, 3) := by decide +kernel
theorem dX11_spread_27 : decode cX11_spread 27 = .ok (.dup, 1) := by decide +kernel
theorem dX11_spread_28 : decode cX11_spread 28 = .ok (.ldc 59, 2) := by decide +kernel
theorem dX11_spread_30 : decode cX11_spread 30 = .ok (.invokespecial 61, 3) := by decide +kernel
theorem dX11_spread_33 : decode cX11_spread 33 = .ok (.athrow, 1) := by decide +kernel
theorem dX11_spread_34 : decode cX11_spread 34 = .ok (.aload_n 0, 1) := by decide +kernel
theorem dX11_spread_35 : decode cX11_spread 35 = .ok (.getfield 10, 3) := by decide +kernel
theorem dX11_spread_38 : decode cX11_spread 38 = .ok (.getfield 64, 3) := by decide +kernel
theorem dX11_spread_41 : decode cX11_spread 41 = .ok (.istore_n 3, 1) := by decide +kernel
theorem dX11_spread_42 : decode cX11_spread 42 = .ok (.aload_n 0, 1) := by decide +kernel
theorem dX11_spread_43 : decode cX11_spread 43 = .ok (.getfield 10, 3) := by decide +kernel
theorem dX11_spread_46 : decode cX11_spread 46 = .ok (.iload_n 1, 1) := by decide +kernel
theorem dX11_spread_47 : decode cX11_spread 47 = .ok (.iload_n 2, 1) := by decide +kernel
theorem dX11_spread_48 : decode cX11_spread 48 = .ok (.invokevirtual 68, 3) := by decide +kernel
theorem dX11_spread_51 : decode cX11_spread 51 = .ok (.aload_n 0, 1) := by decide +kernel
theorem dX11_spread_52 : decode cX11_spread 52 = .ok (.getfield 21, 3) := by decide +kernel
theorem dX11_spread_55 : decode cX11_spread 55 = .ok (.iconst 0, 1) := by decide +kernel
theorem dX11_spread_56 : decode cX11_spread 56 = .ok (.putfield 72, 3) := by decide +kernel
theorem dX11_spread_59 : decode cX11_spread 59 = .ok (.aload_n 0, 1) := by decide +kernel
theorem dX11_spread_60 : decode cX11_spread 60 = .ok (.getfield 28, 3) := by decide +kernel
theorem dX11_spread_63 : decode cX11_spread 63 = .ok (.iconst 0, 1) := by decide +kernel
theorem dX11_spread_64 : decode cX11_spread 64 = .ok (.putfield 73, 3) := by decide +kernel
theorem dX11_spread_67 : decode cX11_spread 67 = .ok (.iload_n 3, 1) := by decide +kernel
theorem dX11_spread_68 : decode cX11_spread 68 = .ok (.ireturn, 1) := by decide +kernel
theorem dX12_init_0 : decode cX12_init 0 = .ok (.aload_n 0, 1) := by decide +kernel
theorem dX12_init_1 : decode cX12_init 1 = .ok (.invokespecial 1, 3) := by decide +kernel
theorem dX12_init_4 : decode cX12_init 4 = .ok (.aload_n 0, 1) := by decide +kernel
theorem dX12_init_5 : decode cX12_init 5 = .ok (.aload_n 1, 1) := by decide +kernel
theorem dX12_init_6 : decode cX12_init 6 = .ok (.putfield 7, 3) := by decide +kernel
theorem dX12_init_9 : decode cX12_init 9 = .ok (.aload_n 0, 1) := by decide +kernel
theorem dX12_init_10 : decode cX12_init 10 = .ok (.iload_n 2, 1) := by decide +kernel
theorem dX12_init_11 : decode cX12_init 11 = .ok (.putfield 13, 3) := by decide +kernel
theorem dX12_init_14 : decode cX12_init 14 = .ok (.aload_n 0, 1) := by decide +kernel
theorem dX12_init_15 : decode cX12_init 15 = .ok (.iload_n 3, 1) := by decide +kernel
theorem dX12_init_16 : decode cX12_init 16 = .ok (.putfield 17, 3) := by decide +kernel
theorem dX12_init_19 : decode cX12_init 19 = .ok (.aload_n 0, 1) := by decide +kernel
theorem dX12_init_20 : decode cX12_init 20 = .ok (.iload 4, 2) := by decide +kernel
theorem dX12_init_22 : decode cX12_init 22 = .ok (.putfield 20, 3) := by decide +kernel
theorem dX12_init_25 : decode cX12_init 25 = .ok (.aload_n 0, 1) := by decide +kernel
theorem dX12_init_26 : decode cX12_init 26 = .ok (.iload 5, 2) := by decide +kernel
theorem dX12_init_28 : decode cX12_init 28 = .ok (.putfield 23, 3) := by decide +kernel
theorem dX12_init_31 : decode cX12_init 31 = .ok (.aload_n 0, 1) := by decide +kernel
theorem dX12_init_32 : decode cX12_init 32 = .ok (.iload 6, 2) := by decide +kernel
theorem dX12_init_34 : decode cX12_init 34 = .ok (.putfield 26, 3) := by decide +kernel
theorem dX12_init_37 : decode cX12_init 37 = .ok (.aload_n 0, 1) := by decide +kernel
theorem dX12_init_38 : decode cX12_init 38 = .ok (.iload 7, 2) := by decide +kernel
theorem dX12_init_40 : decode cX12_init 40 = .ok (.putfield 29, 3) := by decide +kernel
theorem dX12_init_43 : decode cX12_init 43 = .ok (.return_, 1) := by decide +kernel
set_option maxRecDepth 20000 in
theorem ggX17_spread_X17_in : GoodIn wsX17_spread wsX17_in := goodIn_r _ [15] (by decide +kernel) (by decide +kernel)
set_option maxRecDepth 20000 in
theorem gX17_spread_X17_in : GoodIn wsX17_spread (va_wsS RX17 44 yX17_in wsX17_in) := goodIn_app (goodIn_of _ (by decide +kernel)) ggX17_spread_X17_in
set_option maxRecDepth 20000 in
theorem ggX17_spread_X17_fails : GoodIn wsX17_spread wsX17_fails := goodIn_r _ [19, 1, 97, 98, 99, 100, 101, 102, 103, 104, 105, 106, 107, 108, 109] (by decide +kernel) (by decide +kernel)
set_option maxRecDepth 20000 in
theorem gX17_spread_X17_fails : GoodIn wsX17_spread (wsV RX17 48 RX17 yX17_fails wsX17_fails) := goodIn_app (goodIn_of _ (by decide +kernel)) ggX17_spread_X17_fails
set_option maxRecDepth 20000 in
theorem ggX17_spread_Jx4a65c_size_8abf5 : GoodIn wsX17_spread wsJx4a65c_size_8abf5 := goodIn_r _ [24, 25, 117, 118, 119] (by decide +kernel) (by decide +kernel)
set_option maxRecDepth 20000 in
theorem gX17_spread_Jx4a65c_size_8abf5_f52Jx4a65c : GoodIn wsX17_spread (va_wsF RX17 52 RJx4a65c ⟨"java/util/List", "size", "()I"⟩ yJx4a65c_size_8abf5 wsJx4a65c_size_8abf5) := goodIn_app (goodIn_of _ (by decide +kernel)) ggX17_spread_Jx4a65c_size_8abf5
set_option maxRecDepth 20000 in
theorem ggX17_spread_Jx4a65c_clear_da8c8 : GoodIn wsX17_spread wsJx4a65c_clear_da8c8 := goodIn_r _ [29, 30, 31, 32, 25, 117, 118, 119] (by decide +kernel) (by decide +kernel)
set_option maxRecDepth 20000 in
theorem gX17_spread_Jx4a65c_clear_da8c8_f68Jx4a65c : GoodIn wsX17_spread (va_wsF RX17 68 RJx4a65c ⟨"java/util/List", "clear", "()V"⟩ yJx4a65c_clear_da8c8 wsJx4a65c_clear_da8c8) := goodIn_app (goodIn_of _ (by decide +kernel)) ggX17_spread_Jx4a65c_clear_da8c8
set_option maxRecDepth 20000 in
theorem ggX17_spread_X12_init : GoodIn wsX17_spread wsX12_init := goodIn_r _ [35, 36, 37, 38, 39, 40, 41, 42, 43, 44, 45, 110, 111, 112, 113, 114, 115, 116] (by decide +kernel) (by decide +kernel)
set_option maxRecDepth 20000 in
theorem gX17_spread_X12_init : GoodIn wsX17_spread (wsX12_init) := ggX17_spread_X12_init
set_option maxRecDepth 20000 in
theorem ggX17_spread_Jx4a65c_add_9ea2d : GoodIn wsX17_spread wsJx4a65c_add_9ea2d := goodIn_r _ [49, 30, 31, 32, 25, 50, 51, 52, 23, 53, 54, 55, 56, 57, 58, 59, 60, 61, 62, 63, 64, 65, 66, 67, 68, 69, 70, 71, 72, 73, 74, 75, 76, 77, 78, 79, 80, 81, 82, 83, 84, 85, 86, 87, 88, 89, 90, 91, 92, 93, 94, 95, 96, 117, 118, 119] (by decide +kernel) (by decide +kernel)
set_option maxRecDepth 20000 in
theorem gX17_spread_Jx4a65c_add_9ea2d_f76Jx4a65c : GoodIn wsX17_spread (va_wsF RX17 76 RJx4a65c ⟨"java/util/List", "add", "(Ljava/lang/Object;)Z"⟩ yJx4a65c_add_9ea2d wsJx4a65c_add_9ea2d) := goodIn_app (goodIn_of _ (by decide +kernel)) ggX17_spread_Jx4a65c_add_9ea2d
theorem dX17_spread_0 : decode cX17_spread 0 = .ok (.aload_n 0, 1) := by decide +kernel
theorem dX17_spread_1 : decode cX17_spread 1 = .ok (.iconst 0, 1) := by decide +kernel
theorem dX17_spread_2 : decode cX17_spread 2 = .ok (.putfield 41, 3) := by decide +kernel
theorem dX17_spread_5 : decode cX17_spread 5 = .ok (.iload_n 1, 1) := by decide +kernel
theorem dX17_spread_6 : decode cX17_spread 6 = .ok (.bipush 20, 2) := by decide +kernel
theorem dX17_spread_8 : decode cX17_spread 8 = .ok (.sipush 400, 3) := by decide +kernel
theorem dX17_spread_11 : decode cX17_spread 11 = .ok (.invokestatic 44, 3) := by decide +kernel
theorem dX17_spread_14 : decode cX17_spread 14 = .ok (.ifCond .eq 15, 3) := by decide +kernel
theorem dX17_spread_17 : decode cX17_spread 17 = .ok (.iload_n 2, 1) := by decide +kernel
theorem dX17_spread_18 : decode cX17_spread 18 = .ok (.bipush 20, 2) := by decide +kernel
theorem dX17_spread_20 : decode cX17_spread 20 = .ok (.sipush 400, 3) := by decide +kernel
theorem dX17_spread_23 : decode cX17_spread 23 = .ok (.invokestatic 44, 3) := by decide +kernel
theorem dX17_spread_26 : decode cX17_spread 26 = .ok (.ifCond .ne 9, 3) := by decide +kernel
theorem dX17_spread_29 : decode cX17_spread 29 = .ok (.aload_n 0, 1) := by decide +kernel
theorem dX17_spread_30 : decode cX17_spread 30 = .ok (.iconst 1, 1) := by decide +kernel
theorem dX17_spread_31 : decode cX17_spread 31 = .ok (.invokevirtual 48, 3) := by decide +kernel
theorem dX17_spread_34 : decode cX17_spread 34 = .ok (.ireturn, 1) := by decide +kernel
theorem dX17_spread_35 : decode cX17_spread 35 = .ok (.aload_n 0, 1) := by decide +kernel
theorem dX17_spread_36 : decode cX17_spread 36 = .ok (.getfield 16, 3) := by decide +kernel
theorem dX17_spread_39 : decode cX17_spread 39 = .ok (.invokeinterface 52 1, 5) := by decide +kernel
theorem dX17_spread_44 : decode cX17_spread 44 = .ok (.istore_n 3, 1) := by decide +kernel
theorem dX17_spread_45 : decode cX17_spread 45 = .ok (.aload_n 0, 1) := by decide +kernel
theorem dX17_spread_46 : decode cX17_spread 46 = .ok (.iconst 1, 1) := by decide +kernel
theorem dX17_spread_47 : decode cX17_spread 47 = .ok (.putfield 58, 3) := by decide +kernel
theorem dX17_spread_50 : decode cX17_spread 50 = .ok (.aload_n 0, 1) := by decide +kernel
theorem dX17_spread_51 : decode cX17_spread 51 = .ok (.iload_n 1, 1) := by decide +kernel
theorem dX17_spread_52 : decode cX17_spread 52 = .ok (.putfield 62, 3) := by decide +kernel
theorem dX17_spread_55 : decode cX17_spread 55 = .ok (.aload_n 0, 1) := by decide +kernel
theorem dX17_spread_56 : decode cX17_spread 56 = .ok (.iload_n 2, 1) := by decide +kernel
theorem dX17_spread_57 : decode cX17_spread 57 = .ok (.putfield 65, 3) := by decide +kernel
theorem dX17_spread_60 : decode cX17_spread 60 = .ok (.aload_n 0, 1) := by decide +kernel
theorem dX17_spread_61 : decode cX17_spread 61 = .ok (.getfield 10, 3) := by decide +kernel
theorem dX17_spread_64 : decode cX17_spread 64 = .ok (.invokeinterface 68 1, 5) := by decide +kernel
theorem dX17_spread_69 : decode cX17_spread 69 = .ok (.aload_n 0, 1) := by decide +kernel
theorem dX17_spread_70 : decode cX17_spread 70 = .ok (.getfield 16, 3) := by decide +kernel
theorem dX17_spread_73 : decode cX17_spread 73 = .ok (.invokeinterface 68 1, 5) := by decide +kernel
theorem dX17_spread_78 : decode cX17_spread 78 = .ok (.aload_n 0, 1) := by decide +kernel
theorem dX17_spread_79 : decode cX17_spread 79 = .ok (.getfield 19, 3) := by decide +kernel
theorem dX17_spread_82 : decode cX17_spread 82 = .ok (.invokeinterface 68 1, 5) := by decide +kernel
theorem dX17_spread_87 : decode cX17_spread 87 = .ok (.aload_n 0, 1) := by decide +kernel
theorem dX17_spread_88 : decode cX17_spread 88 = .ok (.getfield 22, 3) := by decide +kernel
theorem dX17_spread_91 : decode cX17_spread 91 = .ok (.invokeinterface 68 1, 5) := by decide +kernel
theorem dX17_spread_96 : decode cX17_spread 96 = .ok (.aload_n 0, 1) := by decide +kernel
theorem dX17_spread_97 : decode cX17_spread 97 = .ok (.getfield 10, 3) := by decide +kernel
theorem dX17_spread_100 : decode cX17_spread 100 = .ok (.new 71, 3) := by decide +kernel
theorem dX17_spread_103 : decode cX17_spread 103 = .ok (.dup, 1) := by decide +kernel
theorem dX17_spread_104 : decode cX17_spread 104 = .ok (.aconst_null, 1) := by decide +kernel
theorem dX17_spread_105 : decode cX17_spread 105 = .ok (.iconst 0, 1) := by decide +kernel
theorem dX17_spread_106 : decode cX17_spread 106 = .ok (.iconst 0, 1) := by decide +kernel
theorem dX17_spread_107 : decode cX17_spread 107 = .ok (.iload_n 1, 1) := by decide +kernel
theorem dX17_spread_108 : decode cX17_spread 108 = .ok (.iload_n 1, 1) := by decide +kernel
theorem dX17_spread_109 : decode cX17_spread 109 = .ok (.iconst 0, 1) := by decide +kernel
theorem dX17_spread_110 : decode cX17_spread 110 = .ok (.iload_n 2, 1) := by decide +kernel
theorem dX17_spread_111 : decode cX17_spread 111 = .ok (.invokespecial 73, 3) := by decide +kernel
theorem dX17_spread_114 : decode cX17_spread 114 = .ok (.invokeinterface 76 2, 5) := by decide +kernel
theorem dX17_spread_119 : decode cX17_spread 119 = .ok (.pop, 1) := by decide +kernel
theorem dX17_spread_120 : decode cX17_spread 120 = .ok (.iload_n 3, 1) := by decide +kernel
theorem dX17_spread_121 : decode cX17_spread 121 = .ok (.ireturn, 1) := by decide +kernel
theorem dJx4a65c_grow_92f84_0 : decode cJx4a65c_grow_92f84 0 = .ok (.aload_n 0, 1) := by decide +kernel
theorem dJx4a65c_grow_92f84_1 : decode cJx4a65c_grow_92f84 1 = .ok (.getfield 9, 3) := by decide +kernel
theorem dJx4a65c_grow_92f84_4 : decode cJx4a65c_grow_92f84 4 = .ok (.arraylength, 1) := by decide +kernel
theorem dJx4a65c_grow_92f84_5 : decode cJx4a65c_grow_92f84 5 = .ok (.istore_n 2, 1) := by decide +kernel
theorem dJx4a65c_grow_92f84_6 : decode cJx4a65c_grow_92f84 6 = .ok (.iload_n 2, 1) := by decide +kernel
theorem dJx4a65c_grow_92f84_7 : decode cJx4a65c_grow_92f84 7 = .ok (.ifCond .gt 13, 3) := by decide +kernel
theorem dJx4a65c_grow_92f84_10 : decode cJx4a65c_grow_92f84 10 = .ok (.aload_n 0, 1) := by decide +kernel
theorem dJx4a65c_grow_92f84_11 : decode cJx4a65c_grow_92f84 11 = .ok (.getfield 9, 3) := by decide +kernel
theorem dJx4a65c_grow_92f84_14 : decode cJx4a65c_grow_92f84 14 = .ok (.getstatic 39, 3) := by decide +kernel
theorem dJx4a65c_grow_92f84_17 : decode cJx4a65c_grow_92f84 17 = .ok (.if_acmp .eq 28, 3) := by decide +kernel
theorem dJx4a65c_grow_92f84_45 : decode cJx4a65c_grow_92f84 45 = .ok (.aload_n 0, 1) := by decide +kernel
theorem dJx4a65c_grow_92f84_46 : decode cJx4a65c_grow_92f84 46 = .ok (.bipush 10, 2) := by decide +kernel
theorem dJx4a65c_grow_92f84_48 : decode cJx4a65c_grow_92f84 48 = .ok (.iload_n 1, 1) := by decide +kernel
theorem dJx4a65c_grow_92f84_49 : decode cJx4a65c_grow_92f84 49 = .ok (.invokestatic 79, 3) := by decide +kernel
theorem dJx4a65c_grow_92f84_52 : decode cJx4a65c_grow_92f84 52 = .ok (.anewarray 7, 3) := by decide +kernel
theorem dJx4a65c_grow_92f84_55 : decode cJx4a65c_grow_92f84 55 = .ok (.dup_x1, 1) := by decide +kernel
theorem dJx4a65c_grow_92f84_56 : decode cJx4a65c_grow_92f84 56 = .ok (.putfield 9, 3) := by decide +kernel
theorem dJx4a65c_grow_92f84_59 : decode cJx4a65c_grow_92f84 59 = .ok (.areturn, 1) := by decide +kernel
set_option maxRecDepth 20000 in
theorem ggJx4a65c_grow_d5877_Jx4a65c_grow_92f84 : GoodIn wsJx4a65c_grow_d5877 wsJx4a65c_grow_92f84 := goodIn_r _ [6, 7, 8, 9, 10, 11, 12, 13, 14, 15, 16, 17, 18, 19, 20, 21, 22, 23, 24, 25, 26, 27, 28, 29, 30, 31, 32, 33, 34, 35, 36, 37, 38, 39, 40, 41, 42, 43, 44, 45] (by decide +kernel) (by decide +kernel)
set_option maxRecDepth 20000 in
theorem gJx4a65c_grow_d5877_Jx4a65c_grow_92f84 : GoodIn wsJx4a65c_grow_d5877 (wsV RJx4a65c 69 RJx4a65c yJx4a65c_grow_92f84 wsJx4a65c_grow_92f84) := goodIn_app (goodIn_of _ (by decide +kernel)) ggJx4a65c_grow_d5877_Jx4a65c_grow_92f84
theorem dJx4a65c_grow_d5877_0 : decode cJx4a65c_grow_d5877 0 = .ok (.aload_n 0, 1) := by decide +kernel
theorem dJx4a65c_grow_d5877_1 : decode cJx4a65c_grow_d5877 1 = .ok (.aload_n 0, 1) := by decide +kernel
theorem dJx4a65c_grow_d5877_2 : decode cJx4a65c_grow_d5877 2 = .ok (.getfield 48, 3) := by decide +kernel
theorem dJx4a65c_grow_d5877_5 : decode cJx4a65c_grow_d5877 5 = .ok (.iconst 1, 1) := by decide +kernel
theorem dJx4a65c_grow_d5877_6 : decode cJx4a65c_grow_d5877 6 = .ok (.iadd, 1) := by decide +kernel
theorem dJx4a65c_grow_d5877_7 : decode cJx4a65c_grow_d5877 7 = .ok (.invokevirtual 69, 3) := by decide +kernel
theorem dJx4a65c_grow_d5877_10 : decode cJx4a65c_grow_d5877 10 = .ok (.areturn, 1) := by decide +kernel
set_option maxRecDepth 20000 in
theorem ggJx4a65c_add_72be8_Jx4a65c_grow_d5877 : GoodIn wsJx4a65c_add_72be8 wsJx4a65c_grow_d5877 := goodIn_r _ [6, 1, 7, 8, 9, 5, 10, 11, 12, 13, 14, 15, 16, 17, 18, 19, 20, 21, 22, 23, 24, 25, 26, 27, 28, 29, 30, 31, 32, 33, 34, 35, 36, 37, 38, 39, 40, 41, 42, 43, 44, 45, 46, 47, 48, 49] (by decide +kernel) (by decide +kernel)
set_option maxRecDepth 20000 in
theorem gJx4a65c_add_72be8_Jx4a65c_grow_d5877 : GoodIn wsJx4a65c_add_72be8 (wsV RJx4a65c 129 RJx4a65c yJx4a65c_grow_d5877 wsJx4a65c_grow_d5877) := goodIn_app (goodIn_of _ (by decide +kernel)) ggJx4a65c_add_72be8_Jx4a65c_grow_d5877
theorem dJx4a65c_add_72be8_0 : decode cJx4a65c_add_72be8 0 = .ok (.iload_n 3, 1) := by decide +kernel
theorem dJx4a65c_add_72be8_1 : decode cJx4a65c_add_72be8 1 = .ok (.aload_n 2, 1) := by decide +kernel
theorem dJx4a65c_add_72be8_2 : decode cJx4a65c_add_72be8 2 = .ok (.arraylength, 1) := by decide +kernel
theorem dJx4a65c_add_72be8_3 : decode cJx4a65c_add_72be8 3 = .ok (.if_icmp .ne 8, 3) := by decide +kernel
theorem dJx4a65c_add_72be8_6 : decode cJx4a65c_add_72be8 6 = .ok (.aload_n 0, 1) := by decide +kernel
theorem dJx4a65c_add_72be8_7 : decode cJx4a65c_add_72be8 7 = .ok (.invokevirtual 129, 3) := by decide +kernel
theorem dJx4a65c_add_72be8_10 : decode cJx4a65c_add_72be8 10 = .ok (.astore_n 2, 1) := by decide +kernel
theorem dJx4a65c_add_72be8_11 : decode cJx4a65c_add_72be8 11 = .ok (.aload_n 2, 1) := by decide +kernel
theorem dJx4a65c_add_72be8_12 : decode cJx4a65c_add_72be8 12 = .ok (.iload_n 3, 1) := by decide +kernel
theorem dJx4a65c_add_72be8_13 : decode cJx4a65c_add_72be8 13 = .ok (.aload_n 1, 1) := by decide +kernel
theorem dJx4a65c_add_72be8_14 : decode cJx4a65c_add_72be8 14 = .ok (.aastore, 1) := by decide +kernel
theorem dJx4a65c_add_72be8_15 : decode cJx4a65c_add_72be8 15 = .ok (.aload_n 0, 1) := by decide +kernel
theorem dJx4a65c_add_72be8_16 : decode cJx4a65c_add_72be8 16 = .ok (.iload_n 3, 1) := by decide +kernel
theorem dJx4a65c_add_72be8_17 : decode cJx4a65c_add_72be8 17 = .ok (.iconst 1, 1) := by decide +kernel
theorem dJx4a65c_add_72be8_18 : decode cJx4a65c_add_72be8 18 = .ok (.iadd, 1) := by decide +kernel
theorem dJx4a65c_add_72be8_19 : decode cJx4a65c_add_72be8 19 = .ok (.putfield 48, 3) := by decide +kernel
theorem dJx4a65c_add_72be8_22 : decode cJx4a65c_add_72be8 22 = .ok (.return_, 1) := by decide +kernel
set_option maxRecDepth 20000 in
theorem ggJx4a65c_add_9ea2d_Jx4a65c_add_72be8 : GoodIn wsJx4a65c_add_9ea2d wsJx4a65c_add_72be8 := goodIn_r _ [9, 4, 10, 11, 12, 8, 13, 14, 15, 16, 17, 3, 18, 19, 20, 21, 22, 23, 24, 25, 26, 27, 28, 29, 30, 31, 32, 33, 34, 35, 36, 37, 38, 39, 40, 41, 42, 43, 44, 45, 46, 47, 48, 49, 50, 51, 52, 53, 54, 55] (by decide +kernel) (by decide +kernel)
set_option maxRecDepth 20000 in
theorem gJx4a65c_add_9ea2d_Jx4a65c_add_72be8 : GoodIn wsJx4a65c_add_9ea2d (wsV RJx4a65c 131 RJx4a65c yJx4a65c_add_72be8 wsJx4a65c_add_72be8) := goodIn_app (goodIn_of _ (by decide +kernel)) ggJx4a65c_add_9ea2d_Jx4a65c_add_72be8
theorem dJx4a65c_add_9ea2d_0 : decode cJx4a65c_add_9ea2d 0 = .ok (.aload_n 0, 1) := by decide +kernel
theorem dJx4a65c_add_9ea2d_1 : decode cJx4a65c_add_9ea2d 1 = .ok (.dup, 1) := by decide +kernel
theorem dJx4a65c_add_9ea2d_2 : decode cJx4a65c_add_9ea2d 2 = .ok (.getfield 63, 3) := by decide +kernel
theorem dJx4a65c_add_9ea2d_5 : decode cJx4a65c_add_9ea2d 5 = .ok (.iconst 1, 1) := by decide +kernel
theorem dJx4a65c_add_9ea2d_6 : decode cJx4a65c_add_9ea2d 6 = .ok (.iadd, 1) := by decide +kernel
theorem dJx4a65c_add_9ea2d_7 : decode cJx4a65c_add_9ea2d 7 = .ok (.putfield 63, 3) := by decide +kernel
theorem dJx4a65c_add_9ea2d_10 : decode cJx4a65c_add_9ea2d 10 = .ok (.aload_n 0, 1) := by decide +kernel
theorem dJx4a65c_add_9ea2d_11 : decode cJx4a65c_add_9ea2d 11 = .ok (.aload_n 1, 1) := by decide +kernel
theorem dJx4a65c_add_9ea2d_12 : decode cJx4a65c_add_9ea2d 12 = .ok (.aload_n 0, 1) := by decide +kernel
theorem dJx4a65c_add_9ea2d_13 : decode cJx4a65c_add_9ea2d 13 = .ok (.getfield 9, 3) := by decide +kernel
theorem dJx4a65c_add_9ea2d_16 : decode cJx4a65c_add_9ea2d 16 = .ok (.aload_n 0, 1) := by decide +kernel
theorem dJx4a65c_add_9ea2d_17 : decode cJx4a65c_add_9ea2d 17 = .ok (.getfield 48, 3) := by decide +kernel
theorem dJx4a65c_add_9ea2d_20 : decode cJx4a65c_add_9ea2d 20 = .ok (.invokevirtual 131, 3) := by decide +kernel
theorem dJx4a65c_add_9ea2d_23 : decode cJx4a65c_add_9ea2d 23 = .ok (.iconst 1, 1) := by decide +kernel
theorem dJx4a65c_add_9ea2d_24 : decode cJx4a65c_add_9ea2d 24 = .ok (.ireturn, 1) := by decide +kernel
theorem dJx4a65c_clear_da8c8_0 : decode cJx4a65c_clear_da8c8 0 = .ok (.aload_n 0, 1) := by decide +kernel
theorem dJx4a65c_clear_da8c8_1 : decode cJx4a65c_clear_da8c8 1 = .ok (.dup, 1) := by decide +kernel
theorem dJx4a65c_clear_da8c8_2 : decode cJx4a65c_clear_da8c8 2 = .ok (.getfield 63, 3) := by decide +kernel
theorem dJx4a65c_clear_da8c8_5 : decode cJx4a65c_clear_da8c8 5 = .ok (.iconst 1, 1) := by decide +kernel
theorem dJx4a65c_clear_da8c8_6 : decode cJx4a65c_clear_da8c8 6 = .ok (.iadd, 1) := by decide +kernel
theorem dJx4a65c_clear_da8c8_7 : decode cJx4a65c_clear_da8c8 7 = .ok (.putfield 63, 3) := by decide +kernel
theorem dJx4a65c_clear_da8c8_10 : decode cJx4a65c_clear_da8c8 10 = .ok (.aload_n 0, 1) := by decide +kernel
theorem dJx4a65c_clear_da8c8_11 : decode cJx4a65c_clear_da8c8 11 = .ok (.getfield 9, 3) := by decide +kernel
theorem dJx4a65c_clear_da8c8_14 : decode cJx4a65c_clear_da8c8 14 = .ok (.astore_n 1, 1) := by decide +kernel
theorem dJx4a65c_clear_da8c8_15 : decode cJx4a65c_clear_da8c8 15 = .ok (.aload_n 0, 1) := by decide +kernel
theorem dJx4a65c_clear_da8c8_16 : decode cJx4a65c_clear_da8c8 16 = .ok (.getfield 48, 3) := by decide +kernel
theorem dJx4a65c_clear_da8c8_19 : decode cJx4a65c_clear_da8c8 19 = .ok (.istore_n 2, 1) := by decide +kernel
theorem dJx4a65c_clear_da8c8_20 : decode cJx4a65c_clear_da8c8 20 = .ok (.aload_n 0, 1) := by decide +kernel
theorem dJx4a65c_clear_da8c8_21 : decode cJx4a65c_clear_da8c8 21 = .ok (.iconst 0, 1) := by decide +kernel
theorem dJx4a65c_clear_da8c8_22 : decode cJx4a65c_clear_da8c8 22 = .ok (.dup_x1, 1) := by decide +kernel
theorem dJx4a65c_clear_da8c8_23 : decode cJx4a65c_clear_da8c8 23 = .ok (.putfield 48, 3) := by decide +kernel
theorem dJx4a65c_clear_da8c8_26 : decode cJx4a65c_clear_da8c8 26 = .ok (.istore_n 3, 1) := by decide +kernel
theorem dJx4a65c_clear_da8c8_27 : decode cJx4a65c_clear_da8c8 27 = .ok (.iload_n 3, 1) := by decide +kernel
theorem dJx4a65c_clear_da8c8_28 : decode cJx4a65c_clear_da8c8 28 = .ok (.iload_n 2, 1) := by decide +kernel
theorem dJx4a65c_clear_da8c8_29 : decode cJx4a65c_clear_da8c8 29 = .ok (.if_icmp .ge 13, 3) := by decide +kernel
theorem dJx4a65c_clear_da8c8_42 : decode cJx4a65c_clear_da8c8 42 = .ok (.return_, 1) := by decide +kernel
set_option maxRecDepth 20000 in
theorem ggL_spread_X11_spread : GoodIn wsL_spread wsX11_spread := goodIn_ca (goodIn_r _ [6, 7, 8, 9, 10, 11, 12, 13, 14, 15, 16, 5, 17, 18, 19, 20, 21, 22, 23, 24, 25, 26, 27, 28, 29, 30, 31, 32, 33, 34, 35, 36, 37, 38, 39, 40, 41, 42, 43, 44, 45, 46, 47, 48, 49, 50, 51, 52, 53, 54, 55, 56, 57, 58, 59, 60, 61, 62, 63, 64, 65, 66, 67, 68, 69, 70, 71, 72, 73, 74, 75, 76, 77, 78, 79, 80, 81, 82, 83, 84, 85, 86, 87, 88, 89, 90, 91] (by decide +kernel) (by decide +kernel)) (goodIn_sub (fun _ h => List.mem_cons_of_mem _ (List.mem_append_right _ h)) (by decide +kernel))
set_option maxRecDepth 20000 in
theorem gL_spread_X11_spread : GoodIn wsL_spread (wsV RL 7 RX11 yX11_spread wsX11_spread) := goodIn_app (goodIn_of _ (by decide +kernel)) ggL_spread_X11_spread
theorem dL_spread_0 : decode cL_spread 0 = .ok (.aload_n 3, 1) := by decide +kernel
theorem dL_spread_1 : decode cL_spread 1 = .ok (.iconst 0, 1) := by decide +kernel
theorem dL_spread_2 : decode cL_spread 2 = .ok (.aload_n 0, 1) := by decide +kernel
theorem dL_spread_3 : decode cL_spread 3 = .ok (.iload_n 1, 1) := by decide +kernel
theorem dL_spread_4 : decode cL_spread 4 = .ok (.iload_n 2, 1) := by decide +kernel
theorem dL_spread_5 : decode cL_spread 5 = .ok (.invokevirtual 7, 3) := by decide +kernel
theorem dL_spread_8 : decode cL_spread 8 = .ok (.i2l, 1) := by decide +kernel
theorem dL_spread_9 : decode cL_spread 9 = .ok (.lastore, 1) := by decide +kernel
theorem dL_spread_10 : decode cL_spread 10 = .ok (.goto 7, 3) := by decide +kernel
theorem dL_spread_13 : decode cL_spread 13 = .ok (.astore 4, 2) := by decide +kernel
theorem dL_spread_15 : decode cL_spread 15 = .ok (.iconst 1, 1) := by decide +kernel
theorem dL_spread_16 : decode cL_spread 16 = .ok (.ireturn, 1) := by decide +kernel
theorem dL_spread_17 : decode cL_spread 17 = .ok (.iconst 0, 1) := by decide +kernel
theorem dL_spread_18 : decode cL_spread 18 = .ok (.ireturn, 1) := by decide +kernel
