def RX0 : String := "Popupwright$Book"
def TX0 : u_T := fun k => match k with
  | 0 => ("Popupwright$Book", "folds", "[LPopupwright$Fold;", true)
  | 1 => ("Popupwright$Book", "creases", "[LPopupwright$Crease;", true)
  | 2 => ("Popupwright$Book", "strips", "[LPopupwright$Strip;", true)
  | 3 => ("Popupwright$Book", "leftPage", "LPopupwright$Strip;", true)
  | 4 => ("Popupwright$Book", "rightPage", "LPopupwright$Strip;", true)
  | 5 => ("Popupwright$Book", "sample", "[LPopupwright$Strip;", true)
  | 6 => ("Popupwright$Book", "isBegun", "Z", false)
  | 7 => ("Popupwright$Book", "width", "I", false)
  | 8 => ("Popupwright$Book", "height", "I", false)
  | 9 => ("Popupwright$Book", "count", "I", false)
  | _ => ("Popupwright$Book", "weight", "I", false)
def RX1 : String := "Popupwright$Crease"
def TX1 : u_T := fun k => match k with
  | 0 => ("Popupwright$Crease", "i", "I", false)
  | 1 => ("Popupwright$Crease", "j", "I", false)
  | 2 => ("Popupwright$Crease", "leftRoom", "I", false)
  | 3 => ("Popupwright$Crease", "rightRoom", "I", false)
  | 4 => ("Popupwright$Crease", "low", "I", false)
  | _ => ("Popupwright$Crease", "high", "I", false)
def RX2 : String := "Popupwright$Fold"
def TX2 : u_T := fun k => match k with
  | 0 => ("Popupwright$Fold", "firstPanel", "LPopupwright$Strip;", true)
  | 1 => ("Popupwright$Fold", "secondPanel", "LPopupwright$Strip;", true)
  | 2 => ("Popupwright$Fold", "firstArm", "LPopupwright$Strip;", true)
  | 3 => ("Popupwright$Fold", "secondArm", "LPopupwright$Strip;", true)
  | 4 => ("Popupwright$Fold", "crease", "I", false)
  | 5 => ("Popupwright$Fold", "a", "I", false)
  | 6 => ("Popupwright$Fold", "b", "I", false)
  | 7 => ("Popupwright$Fold", "low", "I", false)
  | 8 => ("Popupwright$Fold", "high", "I", false)
  | 9 => ("Popupwright$Fold", "tiredness", "I", false)
  | 10 => ("Popupwright$Fold", "mends", "I", false)
  | _ => ("Popupwright$Fold", "isTorn", "Z", false)
def RX3 : String := "Popupwright$Hands"
def TX3 : u_T := fun k => match k with
  | 0 => ("Popupwright$Hands", "book", "LPopupwright$Book;", true)
  | 1 => ("Popupwright$Hands", "waitsFor", "[I", true)
  | 2 => ("Popupwright$Hands", "waitsForAll", "[I", true)
  | 3 => ("Popupwright$Hands", "waiters", "[I", true)
  | 4 => ("Popupwright$Hands", "dryAt", "[I", true)
  | 5 => ("Popupwright$Hands", "order", "[I", true)
  | 6 => ("Popupwright$Hands", "begun", "[I", true)
  | 7 => ("Popupwright$Hands", "drying", "I", false)
  | _ => ("Popupwright$Hands", "lastMinute", "I", false)
def RX4 : String := "Popupwright$Layers"
def TX4 : u_T := fun k => match k with
  | 0 => ("Popupwright$Layers", "book", "LPopupwright$Book;", true)
  | 1 => ("Popupwright$Layers", "pictures", "[LPopupwright$Picture;", true)
  | _ => ("Popupwright$Layers", "count", "I", false)
def RX5 : String := "Popupwright$Nets"
def TX5 : u_T := fun k => match k with
  | 0 => ("Popupwright$Nets", "book", "LPopupwright$Book;", true)
  | 1 => ("Popupwright$Nets", "sheetOfNet", "[I", true)
  | 2 => ("Popupwright$Nets", "acrossOfNet", "[I", true)
  | 3 => ("Popupwright$Nets", "alongOfNet", "[I", true)
  | 4 => ("Popupwright$Nets", "sheetOfShelf", "[I", true)
  | 5 => ("Popupwright$Nets", "alongOfShelf", "[I", true)
  | 6 => ("Popupwright$Nets", "lengthOfShelf", "[I", true)
  | 7 => ("Popupwright$Nets", "usedOfShelf", "[I", true)
  | 8 => ("Popupwright$Nets", "usedOfSheet", "[I", true)
  | 9 => ("Popupwright$Nets", "sheetWidth", "I", false)
  | 10 => ("Popupwright$Nets", "sheetLength", "I", false)
  | 11 => ("Popupwright$Nets", "shelfCount", "I", false)
  | _ => ("Popupwright$Nets", "sheetCount", "I", false)
def RX6 : String := "Popupwright$Picture"
def TX6 : u_T := fun k => match k with
  | 0 => ("Popupwright$Picture", "strip", "I", false)
  | 1 => ("Popupwright$Picture", "from", "I", false)
  | 2 => ("Popupwright$Picture", "to", "I", false)
  | 3 => ("Popupwright$Picture", "low", "I", false)
  | 4 => ("Popupwright$Picture", "high", "I", false)
  | 5 => ("Popupwright$Picture", "colour", "I", false)
  | 6 => ("Popupwright$Picture", "hasFlap", "Z", false)
  | _ => ("Popupwright$Picture", "isFlapDown", "Z", false)
def RX7 : String := "Popupwright$Pull"
def TX7 : u_T := fun k => match k with
  | 0 => ("Popupwright$Pull", "from", "I", false)
  | 1 => ("Popupwright$Pull", "to", "I", false)
  | 2 => ("Popupwright$Pull", "friction", "I", false)
  | 3 => ("Popupwright$Pull", "place", "I", false)
  | 4 => ("Popupwright$Pull", "isFollowing", "Z", false)
  | _ => ("Popupwright$Pull", "follower", "LPopupwright$Pull;", false)
def RX8 : String := "Popupwright$Pulls"
def TX8 : u_T := fun k => match k with
  | 0 => ("Popupwright$Pulls", "pulls", "[LPopupwright$Pull;", true)
  | _ => ("Popupwright$Pulls", "count", "I", false)
def RX9 : String := "Popupwright$Strip"
def TX9 : u_T := fun k => match k with
  | 0 => ("Popupwright$Strip", "isMade", "Z", false)
  | 1 => ("Popupwright$Strip", "isRight", "Z", false)
  | 2 => ("Popupwright$Strip", "i", "I", false)
  | 3 => ("Popupwright$Strip", "j", "I", false)
  | 4 => ("Popupwright$Strip", "length", "I", false)
  | 5 => ("Popupwright$Strip", "low", "I", false)
  | _ => ("Popupwright$Strip", "high", "I", false)
def RX10 : String := "Popupwright$Wisher"
def TX10 : u_T := fun k => match k with
  | 0 => ("Popupwright$Wisher", "book", "LPopupwright$Book;", true)
  | 1 => ("Popupwright$Wisher", "ridgeI", "I", false)
  | 2 => ("Popupwright$Wisher", "ridgeJ", "I", false)
  | 3 => ("Popupwright$Wisher", "low", "I", false)
  | 4 => ("Popupwright$Wisher", "high", "I", false)
  | _ => ("Popupwright$Wisher", "isHopeless", "Z", false)
def RX11 : String := "Popupwright"
def TX11 : u_T := fun k => match k with
  | 0 => ("Popupwright", "book", "LPopupwright$Book;", true)
  | 1 => ("Popupwright", "layers", "LPopupwright$Layers;", true)
  | 2 => ("Popupwright", "pulls", "LPopupwright$Pulls;", true)
  | 3 => ("Popupwright", "nets", "LPopupwright$Nets;", true)
  | 4 => ("Popupwright", "hands", "LPopupwright$Hands;", true)
  | _ => ("Popupwright", "wisher", "LPopupwright$Wisher;", true)
def yX11_isWithin : MethodName := ⟨RX11, "isWithin", "(III)Z"⟩
def yX11_isPart : MethodName := ⟨RX11, "isPart", "(IIII)Z"⟩
def yX11_alongOf : MethodName := ⟨RX11, "alongOf", "(I)I"⟩
def yX11_upOf : MethodName := ⟨RX11, "upOf", "(I)I"⟩
def RX12 : String := "PopupwrightModel$Crease"
def TX12 : u_T := fun k => match k with
  | 0 => ("PopupwrightModel$Crease", "maker", "LPopupwrightModel$Fold;", true)
  | 1 => ("PopupwrightModel$Crease", "i", "I", true)
  | 2 => ("PopupwrightModel$Crease", "j", "I", true)
  | 3 => ("PopupwrightModel$Crease", "left", "I", true)
  | 4 => ("PopupwrightModel$Crease", "right", "I", true)
  | 5 => ("PopupwrightModel$Crease", "low", "I", true)
  | _ => ("PopupwrightModel$Crease", "high", "I", true)
def RX13 : String := "PopupwrightModel$Fold"
def TX13 : u_T := fun k => match k with
  | 0 => ("PopupwrightModel$Fold", "number", "I", true)
  | 1 => ("PopupwrightModel$Fold", "crease", "LPopupwrightModel$Crease;", true)
  | 2 => ("PopupwrightModel$Fold", "a", "I", true)
  | 3 => ("PopupwrightModel$Fold", "b", "I", true)
  | 4 => ("PopupwrightModel$Fold", "low", "I", true)
  | 5 => ("PopupwrightModel$Fold", "high", "I", true)
  | 6 => ("PopupwrightModel$Fold", "arms", "[I", true)
  | 7 => ("PopupwrightModel$Fold", "lows", "[I", true)
  | 8 => ("PopupwrightModel$Fold", "highs", "[I", true)
  | 9 => ("PopupwrightModel$Fold", "tired", "I", false)
  | _ => ("PopupwrightModel$Fold", "mended", "I", false)
def RX14 : String := "PopupwrightModel$Picture"
def TX14 : u_T := fun k => match k with
  | 0 => ("PopupwrightModel$Picture", "strip", "I", true)
  | 1 => ("PopupwrightModel$Picture", "from", "I", true)
  | 2 => ("PopupwrightModel$Picture", "to", "I", true)
  | 3 => ("PopupwrightModel$Picture", "low", "I", true)
  | 4 => ("PopupwrightModel$Picture", "high", "I", true)
  | 5 => ("PopupwrightModel$Picture", "colour", "I", true)
  | 6 => ("PopupwrightModel$Picture", "hasFlap", "Z", false)
  | _ => ("PopupwrightModel$Picture", "isDown", "Z", false)
def RX15 : String := "PopupwrightModel$Pull"
def TX15 : u_T := fun k => match k with
  | 0 => ("PopupwrightModel$Pull", "from", "I", true)
  | 1 => ("PopupwrightModel$Pull", "to", "I", true)
  | 2 => ("PopupwrightModel$Pull", "friction", "I", true)
  | 3 => ("PopupwrightModel$Pull", "at", "I", false)
  | 4 => ("PopupwrightModel$Pull", "follower", "LPopupwrightModel$Pull;", false)
  | _ => ("PopupwrightModel$Pull", "follows", "Z", false)
def RX16 : String := "PopupwrightModel$Strip"
def TX16 : u_T := fun k => match k with
  | 0 => ("PopupwrightModel$Strip", "number", "I", true)
  | 1 => ("PopupwrightModel$Strip", "isRight", "Z", true)
  | 2 => ("PopupwrightModel$Strip", "i", "I", true)
  | 3 => ("PopupwrightModel$Strip", "j", "I", true)
  | 4 => ("PopupwrightModel$Strip", "length", "I", true)
  | 5 => ("PopupwrightModel$Strip", "low", "I", true)
  | _ => ("PopupwrightModel$Strip", "high", "I", true)
def RX17 : String := "PopupwrightModel"
def TX17 : u_T := fun k => match k with
  | 0 => ("PopupwrightModel", "code", "I", false)
  | 1 => ("PopupwrightModel", "hasSpread", "Z", false)
  | 2 => ("PopupwrightModel", "width", "I", false)
  | 3 => ("PopupwrightModel", "height", "I", false)
  | 4 => ("PopupwrightModel", "creases", "Ljava/util/List;", true)
  | 5 => ("PopupwrightModel", "folds", "Ljava/util/List;", true)
  | 6 => ("PopupwrightModel", "pictures", "Ljava/util/List;", true)
  | 7 => ("PopupwrightModel", "pulls", "Ljava/util/List;", true)
  | 8 => ("PopupwrightModel", "sheetWidth", "I", false)
  | 9 => ("PopupwrightModel", "sheetLength", "I", false)
  | 10 => ("PopupwrightModel", "drying", "I", false)
  | 11 => ("PopupwrightModel", "weight", "I", false)
  | _ => ("PopupwrightModel", "there", "Ljava/util/List;", false)
def RJx00060 : String := "java/lang/ArrayIndexOutOfBoundsException"
def TJx00060 : u_T := fun k => match k with
  | 0 => ("java/lang/Throwable", "backtrace", "Ljava/lang/Object;", false)
  | 1 => ("java/lang/Throwable", "detailMessage", "Ljava/lang/String;", false)
  | 2 => ("java/lang/Throwable", "cause", "Ljava/lang/Throwable;", false)
  | 3 => ("java/lang/Throwable", "stackTrace", "[Ljava/lang/StackTraceElement;", false)
  | 4 => ("java/lang/Throwable", "depth", "I", false)
  | _ => ("java/lang/Throwable", "suppressedExceptions", "Ljava/util/List;", false)
def RJ6 : String := "java/lang/Integer"
def TJ6 : u_T := fun k => match k with
  | _ => ("java/lang/Integer", "value", "I", true)
def RJ0 : String := "java/lang/String"
def TJ0 : u_T := fun k => match k with
  | 0 => ("java/lang/String", "value", "[B", true)
  | _ => ("java/lang/String", "coder", "B", true)
def RJx35411 : String := "java/util/ArrayList$Itr"
def TJx35411 : u_T := fun k => match k with
  | 0 => ("java/util/ArrayList$Itr", "cursor", "I", false)
  | 1 => ("java/util/ArrayList$Itr", "lastRet", "I", false)
  | 2 => ("java/util/ArrayList$Itr", "expectedModCount", "I", false)
  | _ => ("java/util/ArrayList$Itr", "this$0", "Ljava/util/ArrayList;", true)
def yJx35411_hasNext_aae02 : MethodName := ⟨RJx35411, "hasNext", "()Z"⟩
def yJx35411_next_0502b : MethodName := ⟨RJx35411, "next", "()Ljava/lang/Object;"⟩
def RJx4a65c : String := "java/util/ArrayList"
def TJx4a65c : u_T := fun k => match k with
  | 0 => ("java/util/AbstractList", "modCount", "I", false)
  | 1 => ("java/util/ArrayList", "elementData", "[Ljava/lang/Object;", false)
  | _ => ("java/util/ArrayList", "size", "I", false)
def yJx4a65c_size_8abf5 : MethodName := ⟨RJx4a65c, "size", "()I"⟩
def yJx4a65c_isEmpty_aae02 : MethodName := ⟨RJx4a65c, "isEmpty", "()Z"⟩
def yJx4a65c_get_915e3 : MethodName := ⟨RJx4a65c, "get", "(I)Ljava/lang/Object;"⟩
def yJx4a65c_set_bcc79 : MethodName := ⟨RJx4a65c, "set", "(ILjava/lang/Object;)Ljava/lang/Object;"⟩
def yJx4a65c_add_9ea2d : MethodName := ⟨RJx4a65c, "add", "(Ljava/lang/Object;)Z"⟩
def yJx4a65c_remove_915e3 : MethodName := ⟨RJx4a65c, "remove", "(I)Ljava/lang/Object;"⟩
def yJx4a65c_clear_da8c8 : MethodName := ⟨RJx4a65c, "clear", "()V"⟩
def yJx4a65c_iterator_32c93 : MethodName := ⟨RJx4a65c, "iterator", "()Ljava/util/Iterator;"⟩
abbrev vwCl : List vw_C := [(RJ0, TJ0, 2), (RJ6, TJ6, 1), (RJx00060, TJx00060, 6), (RJx35411, TJx35411, 4), (RJx4a65c, TJx4a65c, 3), (RX0, TX0, 11), (RX1, TX1, 6), (RX2, TX2, 12), (RX3, TX3, 9), (RX4, TX4, 3), (RX5, TX5, 13), (RX6, TX6, 8), (RX7, TX7, 6), (RX8, TX8, 2), (RX9, TX9, 7), (RX10, TX10, 6), (RX11, TX11, 6), (RX12, TX12, 7), (RX13, TX13, 11), (RX14, TX14, 8), (RX15, TX15, 6), (RX16, TX16, 7), (RX17, TX17, 13)]
