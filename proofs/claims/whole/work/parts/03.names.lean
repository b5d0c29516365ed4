def RX0 : String := "Popupwright$Book"
def TX0 : u_T := fun k => match k with
  | 0 => ("Popupwright$Book", "folds", "[LPopupwright$Fold;", true)
  | 1 => ("Popupwright$Book", "creases", "[LPopupwright$Crease;", true)
  | 2 => ("Popupwright$Book", "strips", "[LPopupwright$Strip;", true)
  | 3 => ("Popupwright$Book", "leftPage", "LPopupwright$Strip;", true)
  | 4 => ("Popupwright$Book", "rightPage", "LPopupwright$Strip;", true)
  | 5 => ("Popupwright$Book", "sample", "[LPopupwright$Strip;", true)
  | 6 => ("Popupwright$Book", "isBegun", "Z", false)
  | 7 => ("Popupwright$Book", "width", "I", false)
  | 8 => ("Popupwright$Book", "height", "I", false)
  | 9 => ("Popupwright$Book", "count", "I", false)
  | _ => ("Popupwright$Book", "weight", "I", false)
abbrev wsX00 : List Cond := u_ws RX0 TX0 11
abbrev cX0_creaseOf : ByteArray := prog_2_method_3_code
def yX0_creaseOf : MethodName := ⟨RX0, "creaseOf", "(I)LPopupwright$Crease;"⟩
def RX1 : String := "Popupwright$Crease"
def TX1 : u_T := fun k => match k with
  | 0 => ("Popupwright$Crease", "i", "I", false)
  | 1 => ("Popupwright$Crease", "j", "I", false)
  | 2 => ("Popupwright$Crease", "leftRoom", "I", false)
  | 3 => ("Popupwright$Crease", "rightRoom", "I", false)
  | 4 => ("Popupwright$Crease", "low", "I", false)
  | _ => ("Popupwright$Crease", "high", "I", false)
abbrev wsX10 : List Cond := u_ws RX1 TX1 6
def RX2 : String := "Popupwright$Fold"
def TX2 : u_T := fun k => match k with
  | 0 => ("Popupwright$Fold", "firstPanel", "LPopupwright$Strip;", true)
  | 1 => ("Popupwright$Fold", "secondPanel", "LPopupwright$Strip;", true)
  | 2 => ("Popupwright$Fold", "firstArm", "LPopupwright$Strip;", true)
  | 3 => ("Popupwright$Fold", "secondArm", "LPopupwright$Strip;", true)
  | 4 => ("Popupwright$Fold", "crease", "I", false)
  | 5 => ("Popupwright$Fold", "a", "I", false)
  | 6 => ("Popupwright$Fold", "b", "I", false)
  | 7 => ("Popupwright$Fold", "low", "I", false)
  | 8 => ("Popupwright$Fold", "high", "I", false)
  | 9 => ("Popupwright$Fold", "tiredness", "I", false)
  | 10 => ("Popupwright$Fold", "mends", "I", false)
  | _ => ("Popupwright$Fold", "isTorn", "Z", false)
def RX3 : String := "Popupwright$Hands"
def TX3 : u_T := fun k => match k with
  | 0 => ("Popupwright$Hands", "book", "LPopupwright$Book;", true)
  | 1 => ("Popupwright$Hands", "waitsFor", "[I", true)
  | 2 => ("Popupwright$Hands", "waitsForAll", "[I", true)
  | 3 => ("Popupwright$Hands", "waiters", "[I", true)
  | 4 => ("Popupwright$Hands", "dryAt", "[I", true)
  | 5 => ("Popupwright$Hands", "order", "[I", true)
  | 6 => ("Popupwright$Hands", "begun", "[I", true)
  | 7 => ("Popupwright$Hands", "drying", "I", false)
  | _ => ("Popupwright$Hands", "lastMinute", "I", false)
def RX4 : String := "Popupwright$Layers"
def TX4 : u_T := fun k => match k with
  | 0 => ("Popupwright$Layers", "book", "LPopupwright$Book;", true)
  | 1 => ("Popupwright$Layers", "pictures", "[LPopupwright$Picture;", true)
  | _ => ("Popupwright$Layers", "count", "I", false)
def RX5 : String := "Popupwright$Nets"
def TX5 : u_T := fun k => match k with
  | 0 => ("Popupwright$Nets", "book", "LPopupwright$Book;", true)
  | 1 => ("Popupwright$Nets", "sheetOfNet", "[I", true)
  | 2 => ("Popupwright$Nets", "acrossOfNet", "[I", true)
  | 3 => ("Popupwright$Nets", "alongOfNet", "[I", true)
  | 4 => ("Popupwright$Nets", "sheetOfShelf", "[I", true)
  | 5 => ("Popupwright$Nets", "alongOfShelf", "[I", true)
  | 6 => ("Popupwright$Nets", "lengthOfShelf", "[I", true)
  | 7 => ("Popupwright$Nets", "usedOfShelf", "[I", true)
  | 8 => ("Popupwright$Nets", "usedOfSheet", "[I", true)
  | 9 => ("Popupwright$Nets", "sheetWidth", "I", false)
  | 10 => ("Popupwright$Nets", "sheetLength", "I", false)
  | 11 => ("Popupwright$Nets", "shelfCount", "I", false)
  | _ => ("Popupwright$Nets", "sheetCount", "I", false)
def RX6 : String := "Popupwright$Picture"
def TX6 : u_T := fun k => match k with
  | 0 => ("Popupwright$Picture", "strip", "I", false)
  | 1 => ("Popupwright$Picture", "from", "I", false)
  | 2 => ("Popupwright$Picture", "to", "I", false)
  | 3 => ("Popupwright$Picture", "low", "I", false)
  | 4 => ("Popupwright$Picture", "high", "I", false)
  | 5 => ("Popupwright$Picture", "colour", "I", false)
  | 6 => ("Popupwright$Picture", "hasFlap", "Z", false)
  | _ => ("Popupwright$Picture", "isFlapDown", "Z", false)
def RX7 : String := "Popupwright$Pull"
def TX7 : u_T := fun k => match k with
  | 0 => ("Popupwright$Pull", "from", "I", false)
  | 1 => ("Popupwright$Pull", "to", "I", false)
  | 2 => ("Popupwright$Pull", "friction", "I", false)
  | 3 => ("Popupwright$Pull", "place", "I", false)
  | 4 => ("Popupwright$Pull", "isFollowing", "Z", false)
  | _ => ("Popupwright$Pull", "follower", "LPopupwright$Pull;", false)
def RX8 : String := "Popupwright$Pulls"
def TX8 : u_T := fun k => match k with
  | 0 => ("Popupwright$Pulls", "pulls", "[LPopupwright$Pull;", true)
  | _ => ("Popupwright$Pulls", "count", "I", false)
def RX9 : String := "Popupwright$Strip"
def TX9 : u_T := fun k => match k with
  | 0 => ("Popupwright$Strip", "isMade", "Z", false)
  | 1 => ("Popupwright$Strip", "isRight", "Z", false)
  | 2 => ("Popupwright$Strip", "i", "I", false)
  | 3 => ("Popupwright$Strip", "j", "I", false)
  | 4 => ("Popupwright$Strip", "length", "I", false)
  | 5 => ("Popupwright$Strip", "low", "I", false)
  | _ => ("Popupwright$Strip", "high", "I", false)
def RX10 : String := "Popupwright$Wisher"
def TX10 : u_T := fun k => match k with
  | 0 => ("Popupwright$Wisher", "book", "LPopupwright$Book;", true)
  | 1 => ("Popupwright$Wisher", "ridgeI", "I", false)
  | 2 => ("Popupwright$Wisher", "ridgeJ", "I", false)
  | 3 => ("Popupwright$Wisher", "low", "I", false)
  | 4 => ("Popupwright$Wisher", "high", "I", false)
  | _ => ("Popupwright$Wisher", "isHopeless", "Z", false)
def RX11 : String := "Popupwright"
def TX11 : u_T := fun k => match k with
  | 0 => ("Popupwright", "book", "LPopupwright$Book;", true)
  | 1 => ("Popupwright", "layers", "LPopupwright$Layers;", true)
  | 2 => ("Popupwright", "pulls", "LPopupwright$Pulls;", true)
  | 3 => ("Popupwright", "nets", "LPopupwright$Nets;", true)
  | 4 => ("Popupwright", "hands", "LPopupwright$Hands;", true)
  | _ => ("Popupwright", "wisher", "LPopupwright$Wisher;", true)
abbrev wsX110 : List Cond := u_ws RX11 TX11 6
abbrev cX11_room : ByteArray := prog_1_method_4_code
def yX11_room : MethodName := ⟨RX11, "room", "(IZ)I"⟩
abbrev cX11_needCrease : ByteArray := prog_1_method_53_code
def yX11_needCrease : MethodName := ⟨RX11, "needCrease", "(I)LPopupwright$Crease;"⟩
abbrev cX11_isWithin : ByteArray := prog_1_method_62_code
def yX11_isWithin : MethodName := ⟨RX11, "isWithin", "(III)Z"⟩
def RX12 : String := "PopupwrightModel$Crease"
def TX12 : u_T := fun k => match k with
  | 0 => ("PopupwrightModel$Crease", "maker", "LPopupwrightModel$Fold;", true)
  | 1 => ("PopupwrightModel$Crease", "i", "I", true)
  | 2 => ("PopupwrightModel$Crease", "j", "I", true)
  | 3 => ("PopupwrightModel$Crease", "left", "I", true)
  | 4 => ("PopupwrightModel$Crease", "right", "I", true)
  | 5 => ("PopupwrightModel$Crease", "low", "I", true)
  | _ => ("PopupwrightModel$Crease", "high", "I", true)
def RX13 : String := "PopupwrightModel$Fold"
def TX13 : u_T := fun k => match k with
  | 0 => ("PopupwrightModel$Fold", "number", "I", true)
  | 1 => ("PopupwrightModel$Fold", "crease", "LPopupwrightModel$Crease;", true)
  | 2 => ("PopupwrightModel$Fold", "a", "I", true)
  | 3 => ("PopupwrightModel$Fold", "b", "I", true)
  | 4 => ("PopupwrightModel$Fold", "low", "I", true)
  | 5 => ("PopupwrightModel$Fold", "high", "I", true)
  | 6 => ("PopupwrightModel$Fold", "arms", "[I", true)
  | 7 => ("PopupwrightModel$Fold", "lows", "[I", true)
  | 8 => ("PopupwrightModel$Fold", "highs", "[I", true)
  | 9 => ("PopupwrightModel$Fold", "tired", "I", false)
  | _ => ("PopupwrightModel$Fold", "mended", "I", false)
def RX14 : String := "PopupwrightModel$Picture"
def TX14 : u_T := fun k => match k with
  | 0 => ("PopupwrightModel$Picture", "strip", "I", true)
  | 1 => ("PopupwrightModel$Picture", "from", "I", true)
  | 2 => ("PopupwrightModel$Picture", "to", "I", true)
  | 3 => ("PopupwrightModel$Picture", "low", "I", true)
  | 4 => ("PopupwrightModel$Picture", "high", "I", true)
  | 5 => ("PopupwrightModel$Picture", "colour", "I", true)
  | 6 => ("PopupwrightModel$Picture", "hasFlap", "Z", false)
  | _ => ("PopupwrightModel$Picture", "isDown", "Z", false)
def RX15 : String := "PopupwrightModel$Pull"
def TX15 : u_T := fun k => match k with
  | 0 => ("PopupwrightModel$Pull", "from", "I", true)
  | 1 => ("PopupwrightModel$Pull", "to", "I", true)
  | 2 => ("PopupwrightModel$Pull", "friction", "I", true)
  | 3 => ("PopupwrightModel$Pull", "at", "I", false)
  | 4 => ("PopupwrightModel$Pull", "follower", "LPopupwrightModel$Pull;", false)
  | _ => ("PopupwrightModel$Pull", "follows", "Z", false)
def RX16 : String := "PopupwrightModel$Strip"
def TX16 : u_T := fun k => match k with
  | 0 => ("PopupwrightModel$Strip", "number", "I", true)
  | 1 => ("PopupwrightModel$Strip", "isRight", "Z", true)
  | 2 => ("PopupwrightModel$Strip", "i", "I", true)
  | 3 => ("PopupwrightModel$Strip", "j", "I", true)
  | 4 => ("PopupwrightModel$Strip", "length", "I", true)
  | 5 => ("PopupwrightModel$Strip", "low", "I", true)
  | _ => ("PopupwrightModel$Strip", "high", "I", true)
def RX17 : String := "PopupwrightModel"
def TX17 : u_T := fun k => match k with
  | 0 => ("PopupwrightModel", "code", "I", false)
  | 1 => ("PopupwrightModel", "hasSpread", "Z", false)
  | 2 => ("PopupwrightModel", "width", "I", false)
  | 3 => ("PopupwrightModel", "height", "I", false)
  | 4 => ("PopupwrightModel", "creases", "Ljava/util/List;", true)
  | 5 => ("PopupwrightModel", "folds", "Ljava/util/List;", true)
  | 6 => ("PopupwrightModel", "pictures", "Ljava/util/List;", true)
  | 7 => ("PopupwrightModel", "pulls", "Ljava/util/List;", true)
  | 8 => ("PopupwrightModel", "sheetWidth", "I", false)
  | 9 => ("PopupwrightModel", "sheetLength", "I", false)
  | 10 => ("PopupwrightModel", "drying", "I", false)
  | 11 => ("PopupwrightModel", "weight", "I", false)
  | _ => ("PopupwrightModel", "there", "Ljava/util/List;", false)
def RJx00060 : String := "java/lang/ArrayIndexOutOfBoundsException"
def TJx00060 : u_T := fun k => match k with
  | 0 => ("java/lang/Throwable", "backtrace", "Ljava/lang/Object;", false)
  | 1 => ("java/lang/Throwable", "detailMessage", "Ljava/lang/String;", false)
  | 2 => ("java/lang/Throwable", "cause", "Ljava/lang/Throwable;", false)
  | 3 => ("java/lang/Throwable", "stackTrace", "[Ljava/lang/StackTraceElement;", false)
  | 4 => ("java/lang/Throwable", "depth", "I", false)
  | _ => ("java/lang/Throwable", "suppressedExceptions", "Ljava/util/List;", false)
def RJ6 : String := "java/lang/Integer"
def TJ6 : u_T := fun k => match k with
  | _ => ("java/lang/Integer", "value", "I", true)
def RJ0 : String := "java/lang/String"
def TJ0 : u_T := fun k => match k with
  | 0 => ("java/lang/String", "value", "[B", true)
  | _ => ("java/lang/String", "coder", "B", true)
def RJx35411 : String := "java/util/ArrayList$Itr"
def TJx35411 : u_T := fun k => match k with
  | 0 => ("java/util/ArrayList$Itr", "cursor", "I", false)
  | 1 => ("java/util/ArrayList$Itr", "lastRet", "I", false)
  | 2 => ("java/util/ArrayList$Itr", "expectedModCount", "I", false)
  | _ => ("java/util/ArrayList$Itr", "this$0", "Ljava/util/ArrayList;", true)
def RJx4a65c : String := "java/util/ArrayList"
def TJx4a65c : u_T := fun k => match k with
  | 0 => ("java/util/AbstractList", "modCount", "I", false)
  | 1 => ("java/util/ArrayList", "elementData", "[Ljava/lang/Object;", false)
  | _ => ("java/util/ArrayList", "size", "I", false)
def RL : String := "PopupwrightLaw"
abbrev cL_room : ByteArray := method_5_code
def yL_room : MethodName := ⟨RL, "room", "(LPopupwright;IZ[J)I"⟩
def wsX0_creaseOf : List Cond := .code yX0_creaseOf cX0_creaseOf 2 (some (.object "Popupwright$Crease")) :: ([.fieldLink RX0 58 "Popupwright$Book" "isBegun" "Z", .fieldLink RX0 68 "Popupwright$Book" "count" "I", .fieldLink RX0 19 "Popupwright$Book" "creases" "[LPopupwright$Crease;"] ++ wsX00)
def wsX11_isWithin : List Cond := .code yX11_isWithin cX11_isWithin 3 (some .boolean) :: ([])
def wsX11_needCrease : List Cond := .code yX11_needCrease cX11_needCrease 3 (some (.object "Popupwright$Crease")) :: ([.classLink RX11 470 "java/lang/IndexOutOfBoundsException", .initialized "java/lang/IndexOutOfBoundsException", .fieldLink RX11 10 "Popupwright" "book" "LPopupwright$Book;", .methodLink RX11 467 yX0_creaseOf, .instanceMethod yX0_creaseOf, .selects RX0 yX0_creaseOf yX0_creaseOf, .initialized RX0, .code yX0_creaseOf cX0_creaseOf 2 (some (.object "Popupwright$Crease")), .fieldLink RX0 58 "Popupwright$Book" "isBegun" "Z", .fieldLink RX0 68 "Popupwright$Book" "count" "I", .fieldLink RX0 19 "Popupwright$Book" "creases" "[LPopupwright$Crease;"] ++ wsX110 ++ wsX00 ++ (vx_atS RX11 474 "java/lang/IndexOutOfBoundsException" ["java/lang/RuntimeException", "java/lang/Exception"]).filter goodWord)
def wsX11_room : List Cond := .code yX11_room cX11_room 4 (some .int) :: ([.fieldLink RX11 82 "Popupwright$Crease" "leftRoom" "I", .fieldLink RX11 87 "Popupwright$Crease" "rightRoom" "I", .methodLink RX11 78 yX11_needCrease, .instanceMethod yX11_needCrease, .selects RX11 yX11_needCrease yX11_needCrease, .initialized RX11, .code yX11_needCrease cX11_needCrease 3 (some (.object "Popupwright$Crease")), .classLink RX11 470 "java/lang/IndexOutOfBoundsException", .initialized "java/lang/IndexOutOfBoundsException", .fieldLink RX11 10 "Popupwright" "book" "LPopupwright$Book;", .methodLink RX11 467 yX0_creaseOf, .instanceMethod yX0_creaseOf, .selects RX0 yX0_creaseOf yX0_creaseOf, .initialized RX0, .code yX0_creaseOf cX0_creaseOf 2 (some (.object "Popupwright$Crease")), .fieldLink RX0 58 "Popupwright$Book" "isBegun" "Z", .fieldLink RX0 68 "Popupwright$Book" "count" "I", .fieldLink RX0 19 "Popupwright$Book" "creases" "[LPopupwright$Crease;"] ++ wsX10 ++ wsX110 ++ wsX00 ++ (vx_atS RX11 474 "java/lang/IndexOutOfBoundsException" ["java/lang/RuntimeException", "java/lang/Exception"]).filter goodWord)
def wsL_room : List Cond := .codeWith yL_room cL_room 5 (some .int) [(0, 10, 13, 19)] :: ([.classLink RL 19 "java/lang/IndexOutOfBoundsException", .methodLink RL 23 yX11_room, .instanceMethod yX11_room, .selects RX11 yX11_room yX11_room, .initialized RX11, .code yX11_room cX11_room 4 (some .int), .fieldLink RX11 82 "Popupwright$Crease" "leftRoom" "I", .fieldLink RX11 87 "Popupwright$Crease" "rightRoom" "I", .methodLink RX11 78 yX11_needCrease, .instanceMethod yX11_needCrease, .selects RX11 yX11_needCrease yX11_needCrease, .code yX11_needCrease cX11_needCrease 3 (some (.object "Popupwright$Crease")), .classLink RX11 470 "java/lang/IndexOutOfBoundsException", .initialized "java/lang/IndexOutOfBoundsException", .fieldLink RX11 10 "Popupwright" "book" "LPopupwright$Book;", .methodLink RX11 467 yX0_creaseOf, .instanceMethod yX0_creaseOf, .selects RX0 yX0_creaseOf yX0_creaseOf, .initialized RX0, .code yX0_creaseOf cX0_creaseOf 2 (some (.object "Popupwright$Crease")), .fieldLink RX0 58 "Popupwright$Book" "isBegun" "Z", .fieldLink RX0 68 "Popupwright$Book" "count" "I", .fieldLink RX0 19 "Popupwright$Book" "creases" "[LPopupwright$Crease;"] ++ wsX10 ++ wsX110 ++ wsX00 ++ (vx_atM "java/lang/ArrayIndexOutOfBoundsException" ["java/lang/IndexOutOfBoundsException", "java/lang/RuntimeException", "java/lang/Exception"]).filter goodWord ++ (vx_atS RX11 474 "java/lang/IndexOutOfBoundsException" ["java/lang/RuntimeException", "java/lang/Exception"]).filter goodWord)
theorem dX0_creaseOf_0 : decode cX0_creaseOf 0 = .ok (.aload_n 0, 1) := by decide +kernel
theorem dX0_creaseOf_1 : decode cX0_creaseOf 1 = .ok (.getfield 58, 3) := by decide +kernel
theorem dX0_creaseOf_4 : decode cX0_creaseOf 4 = .ok (.ifCond .eq 26, 3) := by decide +kernel
theorem dX0_creaseOf_30 : decode cX0_creaseOf 30 = .ok (.aconst_null, 1) := by decide +kernel
theorem dX0_creaseOf_31 : decode cX0_creaseOf 31 = .ok (.areturn, 1) := by decide +kernel
set_option maxRecDepth 20000 in
theorem ggX11_room_X11_needCrease : GoodIn wsX11_room wsX11_needCrease := goodIn_ca (goodIn_r _ [7, 8, 9, 10, 11, 12, 13, 14, 15, 16, 17, 18, 25, 26, 27, 28, 29, 30, 31, 32, 33, 34, 35, 36, 37, 38, 39, 40, 41] (by decide +kernel) (by decide +kernel)) (goodIn_sub (fun _ h => List.mem_cons_of_mem _ (List.mem_append_right _ h)) (by decide +kernel))
set_option maxRecDepth 20000 in
theorem gX11_room_X11_needCrease : GoodIn wsX11_room (wsV RX11 78 RX11 yX11_needCrease wsX11_needCrease) := goodIn_app (goodIn_of _ (by decide +kernel)) ggX11_room_X11_needCrease
theorem dX11_room_0 : decode cX11_room 0 = .ok (.aload_n 0, 1) := by decide +kernel
theorem dX11_room_1 : decode cX11_room 1 = .ok (.iload_n 1, 1) := by decide +kernel
theorem dX11_room_2 : decode cX11_room 2 = .ok (.invokevirtual 78, 3) := by decide +kernel
set_option maxRecDepth 20000 in
theorem ggX11_needCrease_X0_creaseOf : GoodIn wsX11_needCrease wsX0_creaseOf := goodIn_r _ [8, 9, 10, 11, 18, 19, 20, 21, 22, 23, 24, 25, 26, 27, 28] (by decide +kernel) (by decide +kernel)
set_option maxRecDepth 20000 in
theorem gX11_needCrease_X0_creaseOf : GoodIn wsX11_needCrease (wsV RX11 467 RX0 yX0_creaseOf wsX0_creaseOf) := goodIn_app (goodIn_of _ (by decide +kernel)) ggX11_needCrease_X0_creaseOf
theorem dX11_needCrease_0 : decode cX11_needCrease 0 = .ok (.aload_n 0, 1) := by decide +kernel
theorem dX11_needCrease_1 : decode cX11_needCrease 1 = .ok (.getfield 10, 3) := by decide +kernel
theorem dX11_needCrease_4 : decode cX11_needCrease 4 = .ok (.iload_n 1, 1) := by decide +kernel
theorem dX11_needCrease_5 : decode cX11_needCrease 5 = .ok (.invokevirtual 467, 3) := by decide +kernel
theorem dX11_needCrease_8 : decode cX11_needCrease 8 = .ok (.astore_n 2, 1) := by decide +kernel
theorem dX11_needCrease_9 : decode cX11_needCrease 9 = .ok (.aload_n 2, 1) := by decide +kernel
theorem dX11_needCrease_10 : decode cX11_needCrease 10 = .ok (.ifnonnull 14, 3) := by decide +kernel
theorem dX11_needCrease_13 : decode cX11_needCrease 13 = .ok (.new 470, 3) := by decide +kernel
theorem dX11_needCrease_16 : decode cX11_needCrease 16 = .ok (.dup, 1) := by decide +kernel
theorem dX11_needCrease_17 : decode cX11_needCrease 17 = .ok (.ldc_w 472, 3) := by decide +kernel
theorem dX11_needCrease_20 : decode cX11_needCrease 20 = .ok (.invokespecial 474, 3) := by decide +kernel
theorem dX11_needCrease_23 : decode cX11_needCrease 23 = .ok (.athrow, 1) := by decide +kernel
theorem dX11_isWithin_0 : decode cX11_isWithin 0 = .ok (.iload_n 0, 1) := by decide +kernel
theorem dX11_isWithin_1 : decode cX11_isWithin 1 = .ok (.iload_n 1, 1) := by decide +kernel
theorem dX11_isWithin_2 : decode cX11_isWithin 2 = .ok (.if_icmp .lt 12, 3) := by decide +kernel
theorem dX11_isWithin_5 : decode cX11_isWithin 5 = .ok (.iload_n 0, 1) := by decide +kernel
theorem dX11_isWithin_6 : decode cX11_isWithin 6 = .ok (.iload_n 2, 1) := by decide +kernel
theorem dX11_isWithin_7 : decode cX11_isWithin 7 = .ok (.if_icmp .gt 7, 3) := by decide +kernel
theorem dX11_isWithin_10 : decode cX11_isWithin 10 = .ok (.iconst 1, 1) := by decide +kernel
theorem dX11_isWithin_11 : decode cX11_isWithin 11 = .ok (.goto 4, 3) := by decide +kernel
theorem dX11_isWithin_14 : decode cX11_isWithin 14 = .ok (.iconst 0, 1) := by decide +kernel
theorem dX11_isWithin_15 : decode cX11_isWithin 15 = .ok (.ireturn, 1) := by decide +kernel
set_option maxRecDepth 20000 in
theorem ggL_room_X11_room : GoodIn wsL_room wsX11_room := goodIn_ca (goodIn_r _ [6, 7, 8, 9, 10, 11, 5, 12, 13, 14, 15, 16, 17, 18, 19, 20, 21, 22, 23, 24, 25, 26, 27, 28, 29, 30, 31, 32, 33, 34, 35, 36, 37, 38, 39, 40, 41, 42, 43, 44, 45, 46] (by decide +kernel) (by decide +kernel)) (goodIn_sub (fun _ h => List.mem_cons_of_mem _ (List.mem_append_right _ h)) (by decide +kernel))
set_option maxRecDepth 20000 in
theorem gL_room_X11_room : GoodIn wsL_room (wsV RL 23 RX11 yX11_room wsX11_room) := goodIn_app (goodIn_of _ (by decide +kernel)) ggL_room_X11_room
theorem dL_room_0 : decode cL_room 0 = .ok (.aload_n 3, 1) := by decide +kernel
theorem dL_room_1 : decode cL_room 1 = .ok (.iconst 0, 1) := by decide +kernel
theorem dL_room_2 : decode cL_room 2 = .ok (.aload_n 0, 1) := by decide +kernel
theorem dL_room_3 : decode cL_room 3 = .ok (.iload_n 1, 1) := by decide +kernel
theorem dL_room_4 : decode cL_room 4 = .ok (.iload_n 2, 1) := by decide +kernel
theorem dL_room_5 : decode cL_room 5 = .ok (.invokevirtual 23, 3) := by decide +kernel
theorem dL_room_13 : decode cL_room 13 = .ok (.astore 4, 2) := by decide +kernel
theorem dL_room_15 : decode cL_room 15 = .ok (.iconst 1, 1) := by decide +kernel
theorem dL_room_16 : decode cL_room 16 = .ok (.ireturn, 1) := by decide +kernel
abbrev vwCl : List vw_C := [(RJ0, TJ0, 2), (RJ6, TJ6, 1), (RJx00060, TJx00060, 6), (RJx35411, TJx35411, 4), (RJx4a65c, TJx4a65c, 3), (RX0, TX0, 11), (RX1, TX1, 6), (RX2, TX2, 12), (RX3, TX3, 9), (RX4, TX4, 3), (RX5, TX5, 13), (RX6, TX6, 8), (RX7, TX7, 6), (RX8, TX8, 2), (RX9, TX9, 7), (RX10, TX10, 6), (RX11, TX11, 6), (RX12, TX12, 7), (RX13, TX13, 11), (RX14, TX14, 8), (RX15, TX15, 6), (RX16, TX16, 7), (RX17, TX17, 13)]
