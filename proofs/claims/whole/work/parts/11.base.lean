/-! THE BASE: what every contract of this proof is said with. A method's world is a list of cells; facts of the tables that the good words don't give stand in TK, facts of static cells in ZK. -/
def tkE : List String := ["java/lang/IllegalArgumentException", "java/lang/IllegalStateException", "java/lang/IndexOutOfBoundsException", "java/lang/ArithmeticException", "java/lang/UnsupportedOperationException", "java/util/NoSuchElementException"]
def tkY : List MethodName := [⟨"java/lang/RuntimeException", "<init>", "(Ljava/lang/String;)V"⟩, ⟨"java/lang/Exception", "<init>", "(Ljava/lang/String;)V"⟩, ⟨"java/lang/Throwable", "<init>", "(Ljava/lang/String;)V"⟩]
def tkN : List (String × String) := [("java/util/NoSuchElementException", "java/lang/IllegalArgumentException"), ("java/lang/UnsupportedOperationException", "java/lang/IllegalArgumentException"), ("java/lang/UnsupportedOperationException", "java/lang/IndexOutOfBoundsException"), ("java/util/NoSuchElementException", "java/lang/IndexOutOfBoundsException"), ("java/lang/IllegalArgumentException", "java/lang/IndexOutOfBoundsException")]
def tkS : List (String × Nat × String) := [(RX11, 59, "a page is 20 to 400 wide and high"), (RX11, 106, "no such arm"), (RX11, 123, "there is an arm"), (RX11, 141, "no such place or step"), (RX11, 185, "it clashes with none"), (RX11, 198, "nothing is seen there"), (RX11, 202, "not on the strip, or no such colour"), (RX11, 206, "there are 30 pictures"), (RX11, 219, "not on the strip"), (RX11, 235, "no step shows all pictures"), (RX11, 240, "it has a flap"), (RX11, 248, "it has no flap"), (RX11, 250, "not on the strip, or no such friction"), (RX11, 252, "there are 10 pulls"), (RX11, 273, "they cannot be joined"), (RX11, 278, "no such way or force"), (RX11, 290, "a sheet is 20 to 2000 wide and long"), (RX11, 304, "no such thing of a net"), (RX11, 310, "0 to 99 is added"), (RX11, 316, "glue dries in 0 to 99 minutes"), (RX11, 321, "no such fold in the order"), (RX11, 345, "a day has 1 to 9999 minutes"), (RX11, 347, "there is no fold"), (RX11, 352, "paper has a weight of 100 to 400"), (RX11, 360, "it is opened 1 to 9999 times"), (RX11, 374, "it is torn"), (RX11, 382, "it cannot be mended"), (RX11, 387, "a ridge is at 1 to 400"), (RX11, 392, "no such part of y"), (RX11, 403, "no folds make this ridge"), (RX11, 405, "a child has 0 to 99 years"), (RX11, 423, "there are no folds"), (RX11, 429, "there are no strips"), (RX11, 449, "the crease has no room for it"), (RX11, 451, "there are 24 folds"), (RX11, 460, "a net cannot be laid"), (RX11, 465, "there is no spread"), (RX11, 472, "no such crease"), (RX11, 478, "no such fold"), (RX11, 483, "no such strip"), (RX11, 488, "no such picture"), (RX11, 493, "no such pull"), (RX11, 495, "no such step"), (RX11, 497, "no such step for an eye"), (RX11, 499, "no such step of an opening"), (RX11, 501, "there are 1 to 9 stations")]
def tkM : List (String × Nat × MethodName × String) := [(RX1, 28, yX11_isWithin, "Popupwright"), (RX10, 74, yX11_isPart, "Popupwright"), (RX4, 44, yX11_alongOf, "Popupwright"), (RX6, 35, yX11_isWithin, "Popupwright"), (RX9, 34, yX11_isWithin, "Popupwright"), (RX9, 38, yX11_alongOf, "Popupwright"), (RX9, 42, yX11_upOf, "Popupwright")]
def tkW : List (String × MethodName × MethodName) := [(RJx35411, ⟨"java/util/Iterator", "hasNext", "()Z"⟩, yJx35411_hasNext_aae02), (RJx35411, ⟨"java/util/Iterator", "next", "()Ljava/lang/Object;"⟩, yJx35411_next_0502b), (RJx4a65c, ⟨"java/util/List", "add", "(Ljava/lang/Object;)Z"⟩, yJx4a65c_add_9ea2d), (RJx4a65c, ⟨"java/util/List", "clear", "()V"⟩, yJx4a65c_clear_da8c8), (RJx4a65c, ⟨"java/util/List", "get", "(I)Ljava/lang/Object;"⟩, yJx4a65c_get_915e3), (RJx4a65c, ⟨"java/util/List", "isEmpty", "()Z"⟩, yJx4a65c_isEmpty_aae02), (RJx4a65c, ⟨"java/util/List", "iterator", "()Ljava/util/Iterator;"⟩, yJx4a65c_iterator_32c93), (RJx4a65c, ⟨"java/util/List", "remove", "(I)Ljava/lang/Object;"⟩, yJx4a65c_remove_915e3), (RJx4a65c, ⟨"java/util/List", "set", "(ILjava/lang/Object;)Ljava/lang/Object;"⟩, yJx4a65c_set_bcc79), (RJx4a65c, ⟨"java/util/List", "size", "()I"⟩, yJx4a65c_size_8abf5)]
theorem tkW_ok : ∀ q ∈ tkW, q.2.1.cls ≠ "java/lang/invoke/MethodHandle" ∧ q.2.1.cls ≠ "java/lang/invoke/VarHandle" := by decide +kernel
def TK (U : State) : Prop := (∀ E ∈ tkE, va_Nw (.castable E E) U) ∧ (∀ Y ∈ tkY, va_Nw (.declares Y) U) ∧ (∀ q ∈ tkN, va_Nc q.1 q.2 U) ∧ (∀ q ∈ tkS, ∃ sa : Nat, vk_R q.1 q.2.1 q.2.2 sa U) ∧ (∀ q ∈ tkM, va_Nw (.methodLinkNest q.1 q.2.1 q.2.2.1 q.2.2.2) U) ∧ (∀ q ∈ tkW, va_Fw q.1 q.2.1 q.2.2 U)
theorem TK.warm {s U : State} (hW : s.WarmedH U.vm) (h : TK s) : TK U := by
  obtain ⟨h1, h2, h3, h4, h5, h6⟩ := h
  refine ⟨fun E hE => va_Nw.warmC hW (h1 E hE), fun Y hY => va_Nw.warmD hW (h2 Y hY), fun q hq => va_Nc.moved hW.alike (h3 q hq), fun q hq => ?_, fun q hq => va_Nw.warmM hW (h5 q hq), fun q hq => va_Fw.moved (tkW_ok q hq) hW.alike (h6 q hq)⟩
  obtain ⟨sa, ha⟩ := h4 q hq
  exact ⟨sa, vk_R.warm hW ha⟩
abbrev zDE : String := "DEFAULTCAPACITY_EMPTY_ELEMENTDATA"
def ZA (A : Nat → Prop) (U : State) (H : Heap) : Prop := ∃ (t : Nat) (f : Nat → Int32), va_Z "Popupwright" "ALONG" "[I" (.ref t) A U H ∧ va_T .int t 19 (fun j => .int (f j)) A U H
def ZK (de : Nat) (A : Nat → Prop) (U : State) (H : Heap) : Prop := vx_Zq Bundle.tN "UNASSIGNED_STACK" Bundle.steD A U H ∧ vx_Zq Bundle.tN "SUPPRESSED_SENTINEL" Bundle.listD A U H ∧ va_Z "java/util/ArrayList" zDE "[Ljava/lang/Object;" (.ref de) A U H ∧ ZA A U H
theorem ZK.moved {de : Nat} {A : Nat → Prop} {u U : State} {H : Heap} (hvm : u.vm.Alike U.vm) (h : ZK de A u H) : ZK de A U H := by
  obtain ⟨h1, h2, h3, t, f, h4, h5⟩ := h
  exact ⟨vx_Zq.moved hvm h1, vx_Zq.moved hvm h2, va_Z.moved hvm h3, t, f, va_Z.moved hvm h4, va_T.moved hvm h5⟩
theorem ZK.kept {de : Nat} {A : Nat → Prop} {U : State} {H H1 : Heap} (h : ZK de A U H) (hq : ∀ a : Nat, a < H.size → ¬ A a → H1[a]? = H[a]?) : ZK de A U H1 := by
  obtain ⟨h1, h2, h3, t, f, h4, h5⟩ := h
  exact ⟨vx_Zq.kept h1 hq, vx_Zq.kept h2 hq, va_Z.kept h3 hq, t, f, va_Z.kept h4 hq, va_T.kept h5 hq⟩
theorem ZK.narrow {de : Nat} {A B : Nat → Prop} {U : State} {H : Heap} (h : ZK de A U H) (hAB : ∀ q, B q → A q) : ZK de B U H := by
  obtain ⟨h1, h2, h3, t, f, h4, h5⟩ := h
  exact ⟨vx_Zq.narrow h1 hAB, vx_Zq.narrow h2 hAB, va_Z.narrow h3 hAB, t, f, va_Z.narrow h4 hAB, va_T.narrow h5 hAB⟩
abbrev TyL : Type := List (ClassId × FieldType)
/-- what holds at a method's start -/
def PX (de : Nat) (D : va_G) (tys : TyL) (ws : va_W) (sz : Nat) (U : State) : Prop := U.heap.size = sz ∧ va_P D vwCl ws U.heap ∧ va_K D vwCl tys U ∧ va_D (fun _ => True) ws ∧ TK U ∧ ZK de (va_A ws sz) U U.heap
/-- a world behind a method -/
def PW (D : va_G) (tys : TyL) (A : Nat → Prop) (ws : va_W) (t : State) : Prop := va_P D vwCl ws t.heap ∧ va_K D vwCl tys t ∧ va_D A ws
theorem px_blind {av : List Value} {de : Nat} {D : va_G} {tys : TyL} {ws : va_W} {sz : Nat} : FrameBlind (va_Pc av (PX de D tys ws sz)) := by
  intro a U g mk h
  obtain ⟨h0, h1, h2, h3, h4, h5, h6⟩ := h
  exact ⟨h0, h1, h2, va_K.moved (u := U) (U := U.calling g mk a) (Vm.Alike.refl U.vm) h3, h4, TK.warm (s := U) (U := U.calling g mk a) (State.WarmedH.refl U) h5, ZK.moved (u := U) (U := U.calling g mk a) (Vm.Alike.refl U.vm) h6⟩
theorem px_pre {av : List Value} {de : Nat} {s : State} {D : va_G} {tys tysC : TyL} {ws wc : va_W} {A : Nat → Prop} {H : Heap} {locs : List Loc} (hP : va_P D vwCl ws H) (hD : va_D A ws) (hK : va_K D vwCl tys s) (hS : va_S A s.heap H locs) (hA : ∀ q, s.heap.size ≤ q → A q) (hTK : TK s) (hZ : ZK de A s s.heap) (isC : List Nat) (hC : isC.map (fun i => ws[i]?) = wc.map some) (hC2 : isC.filterMap (fun i => ws[i]?) = wc) (hn : va_nd isC = true) (isT : List Nat) (hT : isT.filterMap (fun i => tys[i]?) = tysC) :
    ∀ U : State, U.heap = H → s.WarmedH U.vm → va_Pc av (PX de D tysC wc H.size) av.toArray U := by
  intro U hU hW
  refine ⟨rfl, by rw [hU], by rw [hU]; exact hP.sub isC hC2, va_K.moved hW.alike (hK.sub isT hT), (hD.sub isC hn hC).weaken (fun _ _ _ _ => trivial), TK.warm hW hTK, ?_⟩
  rw [hU]
  exact ZK.moved hW.alike ((hZ.kept hS.2.1).narrow (va_free hD hS hA isC hC))
section KX
variable {p : Program} {l : Launch} {e : Env} {R : Room} {s : State} {m : MethodId} {args : Array Value} {below : List Frame} {meth : Method} {c : Code} {H : Heap} {locs : List Loc} {cells slots : Nat} {Q : State → Prop}
variable {pc : Nat} {ls : Array Slot} {rest st0 : List Value} {a : Array Value} {A : Nat → Prop} {mc ms : Nat}
variable {D : va_G} {ws wc wr : va_W} {tys : TyL}
/-- behind a call that returns an int -/
theorem kx_i {S : Type} {post : Int32 → S → Prop} {w1 : S → va_W} {t1 : S → TyL} (hP : va_P D vwCl ws H) (hD : va_D A ws) (hS : va_S A s.heap H locs) (hA : ∀ q, s.heap.size ≤ q → A q) (isC isR : List Nat) (hC : isC.map (fun i => ws[i]?) = wc.map some) (hR : isR.map (fun i => ws[i]?) = wr.map some) (hn : va_nd isR = true) (hdis : ∀ i ∈ isR, i ∉ isC)
    (hr : va_Run p l e R s m args below meth c H locs cells slots mc ms (F0 m pc ls st0) rest (va_Qi post (fun u t => PW D (t1 u) (va_A wc H.size) (w1 u) t) (va_A wc H.size) a) (va_A wc H.size))
    (kk : ∀ (r : Int32) (u : S) (H1 : Heap) (locs1 : List Loc), post r u → va_P D vwCl (wr ++ w1 u) H1 → va_D A (wr ++ w1 u) → va_K D vwCl (t1 u) s → va_S A s.heap H1 locs1 → W p l e R s m args below meth c H1 locs1 (cells + mc) (slots + ms) Q (F0 m (pc + 3) ls (.int r :: rest))) : W p l e R s m args below meth c H locs cells slots Q (F0 m pc ls st0) := by
  have hF := va_free hD hS hA isC hC
  refine va_calli hr hS (fun q _ h => hF q h) hF (fun r u t H1 locs1 ht hvm hp hB _ hk hS1 => ?_)
  obtain ⟨hP1, hK1, hD1⟩ := hB
  rw [ht] at hP1
  obtain ⟨hP2, hD2⟩ := va_join hP hD isC isR hC hR hn hdis hk hF hP1 hD1
  exact kk r u H1 locs1 hp hP2 hD2 (va_K.moved hvm.symm hK1) hS1
theorem kx_l {S : Type} {post : Int64 → S → Prop} {w1 : S → va_W} {t1 : S → TyL} (hP : va_P D vwCl ws H) (hD : va_D A ws) (hS : va_S A s.heap H locs) (hA : ∀ q, s.heap.size ≤ q → A q) (isC isR : List Nat) (hC : isC.map (fun i => ws[i]?) = wc.map some) (hR : isR.map (fun i => ws[i]?) = wr.map some) (hn : va_nd isR = true) (hdis : ∀ i ∈ isR, i ∉ isC)
    (hr : va_Run p l e R s m args below meth c H locs cells slots mc ms (F0 m pc ls st0) rest (va_Ql post (fun u t => PW D (t1 u) (va_A wc H.size) (w1 u) t) (va_A wc H.size) a) (va_A wc H.size))
    (kk : ∀ (r : Int64) (u : S) (H1 : Heap) (locs1 : List Loc), post r u → va_P D vwCl (wr ++ w1 u) H1 → va_D A (wr ++ w1 u) → va_K D vwCl (t1 u) s → va_S A s.heap H1 locs1 → W p l e R s m args below meth c H1 locs1 (cells + mc) (slots + ms) Q (F0 m (pc + 3) ls (.long r :: rest))) : W p l e R s m args below meth c H locs cells slots Q (F0 m pc ls st0) := by
  have hF := va_free hD hS hA isC hC
  refine va_calll hr hS (fun q _ h => hF q h) hF (fun r u t H1 locs1 ht hvm hp hB _ hk hS1 => ?_)
  obtain ⟨hP1, hK1, hD1⟩ := hB
  rw [ht] at hP1
  obtain ⟨hP2, hD2⟩ := va_join hP hD isC isR hC hR hn hdis hk hF hP1 hD1
  exact kk r u H1 locs1 hp hP2 hD2 (va_K.moved hvm.symm hK1) hS1
theorem kx_v {S : Type} {post : S → Prop} {w1 : S → va_W} {t1 : S → TyL} (hP : va_P D vwCl ws H) (hD : va_D A ws) (hS : va_S A s.heap H locs) (hA : ∀ q, s.heap.size ≤ q → A q) (isC isR : List Nat) (hC : isC.map (fun i => ws[i]?) = wc.map some) (hR : isR.map (fun i => ws[i]?) = wr.map some) (hn : va_nd isR = true) (hdis : ∀ i ∈ isR, i ∉ isC)
    (hr : va_Run p l e R s m args below meth c H locs cells slots mc ms (F0 m pc ls st0) rest (va_Qv post (fun u t => PW D (t1 u) (va_A wc H.size) (w1 u) t) (va_A wc H.size) a) (va_A wc H.size))
    (kk : ∀ (u : S) (H1 : Heap) (locs1 : List Loc), post u → va_P D vwCl (wr ++ w1 u) H1 → va_D A (wr ++ w1 u) → va_K D vwCl (t1 u) s → va_S A s.heap H1 locs1 → W p l e R s m args below meth c H1 locs1 (cells + mc) (slots + ms) Q (F0 m (pc + 3) ls rest)) : W p l e R s m args below meth c H locs cells slots Q (F0 m pc ls st0) := by
  have hF := va_free hD hS hA isC hC
  refine va_callv hr hS (fun q _ h => hF q h) hF (fun u t H1 locs1 ht hvm hp hB _ hk hS1 => ?_)
  obtain ⟨hP1, hK1, hD1⟩ := hB
  rw [ht] at hP1
  obtain ⟨hP2, hD2⟩ := va_join hP hD isC isR hC hR hn hdis hk hF hP1 hD1
  exact kk u H1 locs1 hp hP2 hD2 (va_K.moved hvm.symm hK1) hS1
theorem kx_q {S : Type} {post : Option Nat → S → Prop} {w1 : S → va_W} {t1 : S → TyL} (hP : va_P D vwCl ws H) (hD : va_D A ws) (hS : va_S A s.heap H locs) (hA : ∀ q, s.heap.size ≤ q → A q) (isC isR : List Nat) (hC : isC.map (fun i => ws[i]?) = wc.map some) (hR : isR.map (fun i => ws[i]?) = wr.map some) (hn : va_nd isR = true) (hdis : ∀ i ∈ isR, i ∉ isC)
    (hr : va_Run p l e R s m args below meth c H locs cells slots mc ms (F0 m pc ls st0) rest (va_Qq post (fun u t => PW D (t1 u) (va_A wc H.size) (w1 u) t) (va_A wc H.size) a) (va_A wc H.size))
    (kk : ∀ (r : Option Nat) (u : S) (H1 : Heap) (locs1 : List Loc), post r u → va_P D vwCl (wr ++ w1 u) H1 → va_D A (wr ++ w1 u) → va_K D vwCl (t1 u) s → va_S A s.heap H1 locs1 → W p l e R s m args below meth c H1 locs1 (cells + mc) (slots + ms) Q (F0 m (pc + 3) ls (va_rf r :: rest))) : W p l e R s m args below meth c H locs cells slots Q (F0 m pc ls st0) := by
  have hF := va_free hD hS hA isC hC
  refine va_callq hr hS (fun q _ h => hF q h) hF (fun r u t H1 locs1 ht hvm hp hB _ hk hS1 => ?_)
  obtain ⟨hP1, hK1, hD1⟩ := hB
  rw [ht] at hP1
  obtain ⟨hP2, hD2⟩ := va_join hP hD isC isR hC hR hn hdis hk hF hP1 hD1
  exact kk r u H1 locs1 hp hP2 hD2 (va_K.moved hvm.symm hK1) hS1
theorem kx_Fi {S : Type} {post : Int32 → S → Prop} {w1 : S → va_W} {t1 : S → TyL} (hP : va_P D vwCl ws H) (hD : va_D A ws) (hS : va_S A s.heap H locs) (hA : ∀ q, s.heap.size ≤ q → A q) (isC isR : List Nat) (hC : isC.map (fun i => ws[i]?) = wc.map some) (hR : isR.map (fun i => ws[i]?) = wr.map some) (hn : va_nd isR = true) (hdis : ∀ i ∈ isR, i ∉ isC)
    (hr : va_Run5 p l e R s m args below meth c H locs cells slots mc ms (F0 m pc ls st0) rest (va_Qi post (fun u t => PW D (t1 u) (va_A wc H.size) (w1 u) t) (va_A wc H.size) a) (va_A wc H.size))
    (kk : ∀ (r : Int32) (u : S) (H1 : Heap) (locs1 : List Loc), post r u → va_P D vwCl (wr ++ w1 u) H1 → va_D A (wr ++ w1 u) → va_K D vwCl (t1 u) s → va_S A s.heap H1 locs1 → W p l e R s m args below meth c H1 locs1 (cells + mc) (slots + ms) Q (F0 m (pc + 5) ls (.int r :: rest))) : W p l e R s m args below meth c H locs cells slots Q (F0 m pc ls st0) := by
  have hF := va_free hD hS hA isC hC
  refine va_callFi hr hS (fun q _ h => hF q h) hF (fun r u t H1 locs1 ht hvm hp hB _ hk hS1 => ?_)
  obtain ⟨hP1, hK1, hD1⟩ := hB
  rw [ht] at hP1
  obtain ⟨hP2, hD2⟩ := va_join hP hD isC isR hC hR hn hdis hk hF hP1 hD1
  exact kk r u H1 locs1 hp hP2 hD2 (va_K.moved hvm.symm hK1) hS1
theorem kx_Fv {S : Type} {post : S → Prop} {w1 : S → va_W} {t1 : S → TyL} (hP : va_P D vwCl ws H) (hD : va_D A ws) (hS : va_S A s.heap H locs) (hA : ∀ q, s.heap.size ≤ q → A q) (isC isR : List Nat) (hC : isC.map (fun i => ws[i]?) = wc.map some) (hR : isR.map (fun i => ws[i]?) = wr.map some) (hn : va_nd isR = true) (hdis : ∀ i ∈ isR, i ∉ isC)
    (hr : va_Run5 p l e R s m args below meth c H locs cells slots mc ms (F0 m pc ls st0) rest (va_Qv post (fun u t => PW D (t1 u) (va_A wc H.size) (w1 u) t) (va_A wc H.size) a) (va_A wc H.size))
    (kk : ∀ (u : S) (H1 : Heap) (locs1 : List Loc), post u → va_P D vwCl (wr ++ w1 u) H1 → va_D A (wr ++ w1 u) → va_K D vwCl (t1 u) s → va_S A s.heap H1 locs1 → W p l e R s m args below meth c H1 locs1 (cells + mc) (slots + ms) Q (F0 m (pc + 5) ls rest)) : W p l e R s m args below meth c H locs cells slots Q (F0 m pc ls st0) := by
  have hF := va_free hD hS hA isC hC
  refine va_callFv hr hS (fun q _ h => hF q h) hF (fun u t H1 locs1 ht hvm hp hB _ hk hS1 => ?_)
  obtain ⟨hP1, hK1, hD1⟩ := hB
  rw [ht] at hP1
  obtain ⟨hP2, hD2⟩ := va_join hP hD isC isR hC hR hn hdis hk hF hP1 hD1
  exact kk u H1 locs1 hp hP2 hD2 (va_K.moved hvm.symm hK1) hS1
theorem kx_Fq {S : Type} {post : Option Nat → S → Prop} {w1 : S → va_W} {t1 : S → TyL} (hP : va_P D vwCl ws H) (hD : va_D A ws) (hS : va_S A s.heap H locs) (hA : ∀ q, s.heap.size ≤ q → A q) (isC isR : List Nat) (hC : isC.map (fun i => ws[i]?) = wc.map some) (hR : isR.map (fun i => ws[i]?) = wr.map some) (hn : va_nd isR = true) (hdis : ∀ i ∈ isR, i ∉ isC)
    (hr : va_Run5 p l e R s m args below meth c H locs cells slots mc ms (F0 m pc ls st0) rest (va_Qq post (fun u t => PW D (t1 u) (va_A wc H.size) (w1 u) t) (va_A wc H.size) a) (va_A wc H.size))
    (kk : ∀ (r : Option Nat) (u : S) (H1 : Heap) (locs1 : List Loc), post r u → va_P D vwCl (wr ++ w1 u) H1 → va_D A (wr ++ w1 u) → va_K D vwCl (t1 u) s → va_S A s.heap H1 locs1 → W p l e R s m args below meth c H1 locs1 (cells + mc) (slots + ms) Q (F0 m (pc + 5) ls (va_rf r :: rest))) : W p l e R s m args below meth c H locs cells slots Q (F0 m pc ls st0) := by
  have hF := va_free hD hS hA isC hC
  refine va_callFq hr hS (fun q _ h => hF q h) hF (fun r u t H1 locs1 ht hvm hp hB _ hk hS1 => ?_)
  obtain ⟨hP1, hK1, hD1⟩ := hB
  rw [ht] at hP1
  obtain ⟨hP2, hD2⟩ := va_join hP hD isC isR hC hR hn hdis hk hF hP1 hD1
  exact kk r u H1 locs1 hp hP2 hD2 (va_K.moved hvm.symm hK1) hS1
end KX
/-- what a method that throws says of it: the class by its name -/
def XN (P : String → Prop) (A : Nat → Prop) : String → State → State → Prop := vx_X (fun _ : Unit => True) (fun E _ _ => P E) A
section KT
variable {p : Program} {l : Launch} {e : Env} {R : Room} {s : State} {m : MethodId} {args : Array Value} {below : List Frame} {meth : Method} {c : Code} {H : Heap} {locs : List Loc} {cells slots : Nat} {Q : State → Prop}
variable {pc : Nat} {ls : Array Slot} {rest st0 : List Value} {a : Array Value} {A : Nat → Prop} {mc ms : Nat}
variable {D : va_G} {ws wc wr : va_W} {tys : TyL} {PE : String → Prop}
/-- what a thrown thing is, seen by the caller -/
def Thrown (s : State) (H : Heap) (E : String) (q : Nat) : Prop := ∃ ce : Cell, H[q]? = some ce ∧ ce.vm = .none ∧ s.vm.findClass E = some ce.cls
theorem kt_i {S : Type} {post : Int32 → S → Prop} {w1 : S → va_W} {t1 : S → TyL} (hP : va_P D vwCl ws H) (hD : va_D A ws) (hS : va_S A s.heap H locs) (hA : ∀ q, s.heap.size ≤ q → A q) (isC isR : List Nat) (hC : isC.map (fun i => ws[i]?) = wc.map some) (hR : isR.map (fun i => ws[i]?) = wr.map some) (hn : va_nd isR = true) (hdis : ∀ i ∈ isR, i ∉ isC)
    (hr : vx_Run p l e R s m args below meth c H locs cells slots mc ms (F0 m pc ls st0) rest (va_Qi post (fun u t => PW D (t1 u) (va_A wc H.size) (w1 u) t) (va_A wc H.size) a) (XN PE (va_A wc H.size)) (va_A wc H.size))
    (kx : ∀ (E : String) (q9 : Nat) (H1 : Heap) (locs1 : List Loc), PE E → Thrown s H1 E q9 → va_P D vwCl wr H1 → va_D A wr → va_S A s.heap H1 locs1 → vx_W p l e R s m args below meth c H1 locs1 (cells + mc) (slots + ms) Q (F0 m pc ls rest) q9)
    (kk : ∀ (r : Int32) (u : S) (H1 : Heap) (locs1 : List Loc), post r u → va_P D vwCl (wr ++ w1 u) H1 → va_D A (wr ++ w1 u) → va_K D vwCl (t1 u) s → va_S A s.heap H1 locs1 → W p l e R s m args below meth c H1 locs1 (cells + mc) (slots + ms) Q (F0 m (pc + 3) ls (.int r :: rest))) : W p l e R s m args below meth c H locs cells slots Q (F0 m pc ls st0) := by
  have hF := va_free hD hS hA isC hC
  refine vx_calli hr hS (fun q _ h => hF q h) hF (fun q _ h => hF q h) (fun E ce q9 u t H1 locs1 ht hvm hp hB _ hk hS1 h1 h2 h3 => ?_) (fun r u t H1 locs1 ht hvm hp hB _ hk hS1 => ?_)
  · obtain ⟨hP2, hD2⟩ := va_join (w1 := []) hP hD isC isR hC hR hn hdis hk hF (fun k q h => by simp at h) ⟨fun i j p q h => by simp at h, fun k q h => by simp at h⟩
    rw [List.append_nil] at hP2 hD2
    exact kx E q9 H1 locs1 hB ⟨ce, h1, h2, h3⟩ hP2 hD2 hS1
  · obtain ⟨hP1, hK1, hD1⟩ := hB
    rw [ht] at hP1
    obtain ⟨hP2, hD2⟩ := va_join hP hD isC isR hC hR hn hdis hk hF hP1 hD1
    exact kk r u H1 locs1 hp hP2 hD2 (va_K.moved hvm.symm hK1) hS1
theorem kt_l {S : Type} {post : Int64 → S → Prop} {w1 : S → va_W} {t1 : S → TyL} (hP : va_P D vwCl ws H) (hD : va_D A ws) (hS : va_S A s.heap H locs) (hA : ∀ q, s.heap.size ≤ q → A q) (isC isR : List Nat) (hC : isC.map (fun i => ws[i]?) = wc.map some) (hR : isR.map (fun i => ws[i]?) = wr.map some) (hn : va_nd isR = true) (hdis : ∀ i ∈ isR, i ∉ isC)
    (hr : vx_Run p l e R s m args below meth c H locs cells slots mc ms (F0 m pc ls st0) rest (va_Ql post (fun u t => PW D (t1 u) (va_A wc H.size) (w1 u) t) (va_A wc H.size) a) (XN PE (va_A wc H.size)) (va_A wc H.size))
    (kx : ∀ (E : String) (q9 : Nat) (H1 : Heap) (locs1 : List Loc), PE E → Thrown s H1 E q9 → va_P D vwCl wr H1 → va_D A wr → va_S A s.heap H1 locs1 → vx_W p l e R s m args below meth c H1 locs1 (cells + mc) (slots + ms) Q (F0 m pc ls rest) q9)
    (kk : ∀ (r : Int64) (u : S) (H1 : Heap) (locs1 : List Loc), post r u → va_P D vwCl (wr ++ w1 u) H1 → va_D A (wr ++ w1 u) → va_K D vwCl (t1 u) s → va_S A s.heap H1 locs1 → W p l e R s m args below meth c H1 locs1 (cells + mc) (slots + ms) Q (F0 m (pc + 3) ls (.long r :: rest))) : W p l e R s m args below meth c H locs cells slots Q (F0 m pc ls st0) := by
  have hF := va_free hD hS hA isC hC
  refine vx_calll hr hS (fun q _ h => hF q h) hF (fun q _ h => hF q h) (fun E ce q9 u t H1 locs1 ht hvm hp hB _ hk hS1 h1 h2 h3 => ?_) (fun r u t H1 locs1 ht hvm hp hB _ hk hS1 => ?_)
  · obtain ⟨hP2, hD2⟩ := va_join (w1 := []) hP hD isC isR hC hR hn hdis hk hF (fun k q h => by simp at h) ⟨fun i j p q h => by simp at h, fun k q h => by simp at h⟩
    rw [List.append_nil] at hP2 hD2
    exact kx E q9 H1 locs1 hB ⟨ce, h1, h2, h3⟩ hP2 hD2 hS1
  · obtain ⟨hP1, hK1, hD1⟩ := hB
    rw [ht] at hP1
    obtain ⟨hP2, hD2⟩ := va_join hP hD isC isR hC hR hn hdis hk hF hP1 hD1
    exact kk r u H1 locs1 hp hP2 hD2 (va_K.moved hvm.symm hK1) hS1
theorem kt_f {S : Type} {post : UInt32 → S → Prop} {w1 : S → va_W} {t1 : S → TyL} (hP : va_P D vwCl ws H) (hD : va_D A ws) (hS : va_S A s.heap H locs) (hA : ∀ q, s.heap.size ≤ q → A q) (isC isR : List Nat) (hC : isC.map (fun i => ws[i]?) = wc.map some) (hR : isR.map (fun i => ws[i]?) = wr.map some) (hn : va_nd isR = true) (hdis : ∀ i ∈ isR, i ∉ isC)
    (hr : vx_Run p l e R s m args below meth c H locs cells slots mc ms (F0 m pc ls st0) rest (va_Qf post (fun u t => PW D (t1 u) (va_A wc H.size) (w1 u) t) (va_A wc H.size) a) (XN PE (va_A wc H.size)) (va_A wc H.size))
    (kx : ∀ (E : String) (q9 : Nat) (H1 : Heap) (locs1 : List Loc), PE E → Thrown s H1 E q9 → va_P D vwCl wr H1 → va_D A wr → va_S A s.heap H1 locs1 → vx_W p l e R s m args below meth c H1 locs1 (cells + mc) (slots + ms) Q (F0 m pc ls rest) q9)
    (kk : ∀ (r : UInt32) (u : S) (H1 : Heap) (locs1 : List Loc), post r u → va_P D vwCl (wr ++ w1 u) H1 → va_D A (wr ++ w1 u) → va_K D vwCl (t1 u) s → va_S A s.heap H1 locs1 → W p l e R s m args below meth c H1 locs1 (cells + mc) (slots + ms) Q (F0 m (pc + 3) ls (.float r :: rest))) : W p l e R s m args below meth c H locs cells slots Q (F0 m pc ls st0) := by
  have hF := va_free hD hS hA isC hC
  refine vx_callf hr hS (fun q _ h => hF q h) hF (fun q _ h => hF q h) (fun E ce q9 u t H1 locs1 ht hvm hp hB _ hk hS1 h1 h2 h3 => ?_) (fun r u t H1 locs1 ht hvm hp hB _ hk hS1 => ?_)
  · obtain ⟨hP2, hD2⟩ := va_join (w1 := []) hP hD isC isR hC hR hn hdis hk hF (fun k q h => by simp at h) ⟨fun i j p q h => by simp at h, fun k q h => by simp at h⟩
    rw [List.append_nil] at hP2 hD2
    exact kx E q9 H1 locs1 hB ⟨ce, h1, h2, h3⟩ hP2 hD2 hS1
  · obtain ⟨hP1, hK1, hD1⟩ := hB
    rw [ht] at hP1
    obtain ⟨hP2, hD2⟩ := va_join hP hD isC isR hC hR hn hdis hk hF hP1 hD1
    exact kk r u H1 locs1 hp hP2 hD2 (va_K.moved hvm.symm hK1) hS1
theorem vx_callq9 {S SX : Type} {post : Option Nat → S → Prop} {px : SX → Prop} {B : S → State → Prop} {BX : String → SX → State → Prop} {A0 A1 AX free : Nat → Prop} {H0 : Heap} (hr : vx_Run p l e R s m args below meth c H locs cells slots mc ms (F0 m pc ls st0) rest (va_Qq post B A1 a) (vx_X px BX AX) free) (hS : va_S A0 H0 H locs) (hA : ∀ q, q < H.size → A1 q → A0 q) (hf : ∀ q, free q → A0 q) (hAX : ∀ q, q < H.size → AX q → A0 q)
    (kx : ∀ (E : String) (ce : Cell) (q9 : Addr) (u : SX) (t : State) (H1 : Heap) (locs1 : List Loc), t.heap = H1 → s.vm.Alike t.vm → px u → BX E u t → H.size ≤ H1.size → (∀ q : Nat, q < H.size → ¬ AX q → H1[q]? = H[q]?) → va_S A0 H0 H1 locs1 → H1[q9]? = some ce → ce.vm = .none → s.vm.findClass E = some ce.cls → vx_W p l e R s m args below meth c H1 locs1 (cells + mc) (slots + ms) Q (F0 m pc ls rest) q9)
    (kk : ∀ (r : Option Nat) (u : S) (t : State) (H1 : Heap) (locs1 : List Loc), t.heap = H1 → s.vm.Alike t.vm → post r u → B u t → H.size ≤ H1.size → (∀ q : Nat, q < H.size → ¬ A1 q → H1[q]? = H[q]?) → va_S A0 H0 H1 locs1 → W p l e R s m args below meth c H1 locs1 (cells + mc) (slots + ms) Q (F0 m (pc + 3) ls (va_rf r :: rest))) : W p l e R s m args below meth c H locs cells slots Q (F0 m pc ls st0) := by
  intro T hT X
  rcases hr T hT X with ⟨v, st₀, t, T', L, h0, X', hL, e1, e2, ⟨⟨r, u, hv, hp, hb⟩, hF⟩, st⟩ | ⟨q, st₀, t, T', L, E, ce, h0, X', hL, e1, e2, ⟨u, hp, hb, hF⟩, hce, hcv, hcl, st⟩
  · cases hv
    obtain ⟨k1, k2, k3⟩ := vx_keep h0 e1 hS hA hf hL hF
    obtain ⟨t2, a1, b1⟩ := kk r u t T'.heap (locs ++ L) e1.symm (by rw [← e2]; exact X'.warmed.alike) hp hb k1 k2 k3 T' rfl X'
    exact ⟨t2, st t2 a1, b1⟩
  · obtain ⟨k1, k2, k3⟩ := vx_keep h0 e1 hS hAX hf hL hF
    obtain ⟨t2, a1, b1⟩ := kx E ce q u t T'.heap (locs ++ L) e1.symm (by rw [← e2]; exact X'.warmed.alike) hp hb k1 k2 k3 (by rw [e1]; exact hce) hcv hcl T' rfl X'
    exact ⟨t2, st.trans a1, b1⟩
theorem kt_q {S : Type} {post : Option Nat → S → Prop} {w1 : S → va_W} {t1 : S → TyL} (hP : va_P D vwCl ws H) (hD : va_D A ws) (hS : va_S A s.heap H locs) (hA : ∀ q, s.heap.size ≤ q → A q) (isC isR : List Nat) (hC : isC.map (fun i => ws[i]?) = wc.map some) (hR : isR.map (fun i => ws[i]?) = wr.map some) (hn : va_nd isR = true) (hdis : ∀ i ∈ isR, i ∉ isC)
    (hr : vx_Run p l e R s m args below meth c H locs cells slots mc ms (F0 m pc ls st0) rest (va_Qq post (fun u t => PW D (t1 u) (va_A wc H.size) (w1 u) t) (va_A wc H.size) a) (XN PE (va_A wc H.size)) (va_A wc H.size))
    (kx : ∀ (E : String) (q9 : Nat) (H1 : Heap) (locs1 : List Loc), PE E → Thrown s H1 E q9 → va_P D vwCl wr H1 → va_D A wr → va_S A s.heap H1 locs1 → vx_W p l e R s m args below meth c H1 locs1 (cells + mc) (slots + ms) Q (F0 m pc ls rest) q9)
    (kk : ∀ (r : Option Nat) (u : S) (H1 : Heap) (locs1 : List Loc), post r u → va_P D vwCl (wr ++ w1 u) H1 → va_D A (wr ++ w1 u) → va_K D vwCl (t1 u) s → va_S A s.heap H1 locs1 → W p l e R s m args below meth c H1 locs1 (cells + mc) (slots + ms) Q (F0 m (pc + 3) ls (va_rf r :: rest))) : W p l e R s m args below meth c H locs cells slots Q (F0 m pc ls st0) := by
  have hF := va_free hD hS hA isC hC
  refine vx_callq9 hr hS (fun q _ h => hF q h) hF (fun q _ h => hF q h) (fun E ce q9 u t H1 locs1 ht hvm hp hB _ hk hS1 h1 h2 h3 => ?_) (fun r u t H1 locs1 ht hvm hp hB _ hk hS1 => ?_)
  · obtain ⟨hP2, hD2⟩ := va_join (w1 := []) hP hD isC isR hC hR hn hdis hk hF (fun k q h => by simp at h) ⟨fun i j p q h => by simp at h, fun k q h => by simp at h⟩
    rw [List.append_nil] at hP2 hD2
    exact kx E q9 H1 locs1 hB ⟨ce, h1, h2, h3⟩ hP2 hD2 hS1
  · obtain ⟨hP1, hK1, hD1⟩ := hB
    rw [ht] at hP1
    obtain ⟨hP2, hD2⟩ := va_join hP hD isC isR hC hR hn hdis hk hF hP1 hD1
    exact kk r u H1 locs1 hp hP2 hD2 (va_K.moved hvm.symm hK1) hS1
theorem kt_d {S : Type} {post : UInt64 → S → Prop} {w1 : S → va_W} {t1 : S → TyL} (hP : va_P D vwCl ws H) (hD : va_D A ws) (hS : va_S A s.heap H locs) (hA : ∀ q, s.heap.size ≤ q → A q) (isC isR : List Nat) (hC : isC.map (fun i => ws[i]?) = wc.map some) (hR : isR.map (fun i => ws[i]?) = wr.map some) (hn : va_nd isR = true) (hdis : ∀ i ∈ isR, i ∉ isC)
    (hr : vx_Run p l e R s m args below meth c H locs cells slots mc ms (F0 m pc ls st0) rest (va_Qd post (fun u t => PW D (t1 u) (va_A wc H.size) (w1 u) t) (va_A wc H.size) a) (XN PE (va_A wc H.size)) (va_A wc H.size))
    (kx : ∀ (E : String) (q9 : Nat) (H1 : Heap) (locs1 : List Loc), PE E → Thrown s H1 E q9 → va_P D vwCl wr H1 → va_D A wr → va_S A s.heap H1 locs1 → vx_W p l e R s m args below meth c H1 locs1 (cells + mc) (slots + ms) Q (F0 m pc ls rest) q9)
    (kk : ∀ (r : UInt64) (u : S) (H1 : Heap) (locs1 : List Loc), post r u → va_P D vwCl (wr ++ w1 u) H1 → va_D A (wr ++ w1 u) → va_K D vwCl (t1 u) s → va_S A s.heap H1 locs1 → W p l e R s m args below meth c H1 locs1 (cells + mc) (slots + ms) Q (F0 m (pc + 3) ls (.double r :: rest))) : W p l e R s m args below meth c H locs cells slots Q (F0 m pc ls st0) := by
  have hF := va_free hD hS hA isC hC
  refine vx_calld hr hS (fun q _ h => hF q h) hF (fun q _ h => hF q h) (fun E ce q9 u t H1 locs1 ht hvm hp hB _ hk hS1 h1 h2 h3 => ?_) (fun r u t H1 locs1 ht hvm hp hB _ hk hS1 => ?_)
  · obtain ⟨hP2, hD2⟩ := va_join (w1 := []) hP hD isC isR hC hR hn hdis hk hF (fun k q h => by simp at h) ⟨fun i j p q h => by simp at h, fun k q h => by simp at h⟩
    rw [List.append_nil] at hP2 hD2
    exact kx E q9 H1 locs1 hB ⟨ce, h1, h2, h3⟩ hP2 hD2 hS1
  · obtain ⟨hP1, hK1, hD1⟩ := hB
    rw [ht] at hP1
    obtain ⟨hP2, hD2⟩ := va_join hP hD isC isR hC hR hn hdis hk hF hP1 hD1
    exact kk r u H1 locs1 hp hP2 hD2 (va_K.moved hvm.symm hK1) hS1
theorem kt_v {S : Type} {post : S → Prop} {w1 : S → va_W} {t1 : S → TyL} (hP : va_P D vwCl ws H) (hD : va_D A ws) (hS : va_S A s.heap H locs) (hA : ∀ q, s.heap.size ≤ q → A q) (isC isR : List Nat) (hC : isC.map (fun i => ws[i]?) = wc.map some) (hR : isR.map (fun i => ws[i]?) = wr.map some) (hn : va_nd isR = true) (hdis : ∀ i ∈ isR, i ∉ isC)
    (hr : vx_Run p l e R s m args below meth c H locs cells slots mc ms (F0 m pc ls st0) rest (va_Qv post (fun u t => PW D (t1 u) (va_A wc H.size) (w1 u) t) (va_A wc H.size) a) (XN PE (va_A wc H.size)) (va_A wc H.size))
    (kx : ∀ (E : String) (q9 : Nat) (H1 : Heap) (locs1 : List Loc), PE E → Thrown s H1 E q9 → va_P D vwCl wr H1 → va_D A wr → va_S A s.heap H1 locs1 → vx_W p l e R s m args below meth c H1 locs1 (cells + mc) (slots + ms) Q (F0 m pc ls rest) q9)
    (kk : ∀ (u : S) (H1 : Heap) (locs1 : List Loc), post u → va_P D vwCl (wr ++ w1 u) H1 → va_D A (wr ++ w1 u) → va_K D vwCl (t1 u) s → va_S A s.heap H1 locs1 → W p l e R s m args below meth c H1 locs1 (cells + mc) (slots + ms) Q (F0 m (pc + 3) ls rest)) : W p l e R s m args below meth c H locs cells slots Q (F0 m pc ls st0) := by
  have hF := va_free hD hS hA isC hC
  refine vx_callv hr hS (fun q _ h => hF q h) hF (fun q _ h => hF q h) (fun E ce q9 u t H1 locs1 ht hvm hp hB _ hk hS1 h1 h2 h3 => ?_) (fun u t H1 locs1 ht hvm hp hB _ hk hS1 => ?_)
  · obtain ⟨hP2, hD2⟩ := va_join (w1 := []) hP hD isC isR hC hR hn hdis hk hF (fun k q h => by simp at h) ⟨fun i j p q h => by simp at h, fun k q h => by simp at h⟩
    rw [List.append_nil] at hP2 hD2
    exact kx E q9 H1 locs1 hB ⟨ce, h1, h2, h3⟩ hP2 hD2 hS1
  · obtain ⟨hP1, hK1, hD1⟩ := hB
    rw [ht] at hP1
    obtain ⟨hP2, hD2⟩ := va_join hP hD isC isR hC hR hn hdis hk hF hP1 hD1
    exact kk u H1 locs1 hp hP2 hD2 (va_K.moved hvm.symm hK1) hS1
/-- not caught here -/
theorem kt_out {E : String} {q : Nat} {Qc : Array Value → State → Outcome → State → Prop} (hq : Thrown s H E q) (hnt : ∀ x ∈ c.exceptionTable.toList, False) (hlocks : meth.locks = false) (hS : va_S A s.heap H locs) (hE : PE E) (hc : cells ≤ mc) (hs : slots ≤ ms) :
    vx_W p l e R s m args below meth c H locs cells slots (vx_MQ below Qc (XN PE A) args s mc ms A) (F0 m pc ls rest) q := by
  obtain ⟨ce, h1, h2, h3⟩ := hq
  exact vx_out (fun x hx => (hnt x hx).elim) hlocks h1 h2 h3 (fun t ht _ => ⟨(), trivial, hE, hS.F ht⟩) hS.2.2 hc hs
end KT
/-- 'throw new E(text)' -/
abbrev thrNames : List String := ["java/lang/RuntimeException", "java/lang/Exception"]
def thrBad (E : String) : List Cond := .castable E E :: tkY.map (fun Y => .declares Y)
theorem thr_bad {args : Array Value} {s : State} {E : String} (hE : E ∈ tkE) (h : TK s) : ∀ w ∈ thrBad E, w.before args s = true := by
  intro w hw
  rcases List.mem_cons.mp hw with rfl | hw
  · exact va_Nw.use rfl (h.1 E hE)
  · obtain ⟨Y, hY, rfl⟩ := List.mem_map.mp hw
    exact va_Nw.use rfl (h.2.1 Y hY)
section THR
variable {p : Program} {l : Launch} {e : Env} {R : Room} {s : State} {m : MethodId} {args : Array Value} {below : List Frame} {meth : Method} {c : Code} {H : Heap} {locs : List Loc} {cells slots : Nat}
variable {ls : Array Slot} {rest : List Value} {Qc : Array Value → State → Outcome → State → Prop} {PE : String → Prop} {cc : ByteArray} {pc : Nat}
theorem kt_throw {de mc ms ik is ic nL : Nat} {own cls text : String} {A : Nat → Prop} {Ts : List Cond} (hexec : p.tables.exec = Jvm.exec) (hb : c.code = cc) (hl : l.stackTraces = false) (hml : c.maxLocals = nL) (hsz : ls.size = nL) (hts : ∀ w ∈ Ts, w.before args s = true) (hcls : Bundle.fit cls = true) (hE : cls ∈ tkE)
    (hown : s.vm.findClass own = some m.cls) (hTK : TK s) (hZ : ZK de A s s.heap) (hS : va_S A s.heap H locs) (hstr : (own, is, text) ∈ tkS)
    (hgoodIn : ∀ w ∈ Cond.classLink own ik cls :: Cond.initialized cls :: (vx_atS own ic cls thrNames).filter goodWord, w ∈ Ts)
    (hbad : ∀ w ∈ (vx_atS own ic cls thrNames).filter (fun w => !goodWord w), w ∈ thrBad cls)
    (hgood : ∀ w ∈ Cond.classLink own ik cls :: Cond.initialized cls :: vx_atS own ic cls thrNames, vx_ot w = true)
    (d0 : decode cc pc = .ok (.new ik, 3)) (d3 : decode cc (pc + 3) = .ok (.dup, 1)) (d4 : decode cc (pc + 4) = .ok (.ldc is, 2)) (d6 : decode cc (pc + 6) = .ok (.invokespecial ic, 3)) (d9 : decode cc (pc + 9) = .ok (.athrow, 1))
    (hnt : ∀ x ∈ c.exceptionTable.toList, False) (hRf : 5 < R.frames) (hRl : (rest.map fun v => v.category).sum + 82 ≤ R.locals) (hRc : cells + 1 ≤ R.cells) (hRs : slots + 6 ≤ R.slots) (hlocks : meth.locks = false) (hPE : PE cls) (hc : cells + 1 ≤ mc) (hs : slots + 6 ≤ ms) :
    W p l e R s m args below meth c H locs cells slots (vx_MQ below Qc (XN PE A) args s mc ms A) (F0 m pc ls rest) := by
  obtain ⟨sa, hsa⟩ := hTK.2.2.2.1 _ hstr
  refine vx_throwS (names := thrNames) hexec hb hl hown hcls (by decide +kernel) (hts _ (hgoodIn _ List.mem_cons_self)) (hts _ (hgoodIn _ (List.mem_cons_of_mem _ List.mem_cons_self))) hsa
    (vx_hat (B := thrBad cls) (fun w hw => hts w (hgoodIn w (List.mem_cons_of_mem _ (List.mem_cons_of_mem _ hw)))) hbad (thr_bad hE hTK)) hgood hZ.1 hZ.2.1 hS (hsz.trans hml.symm) d0 d3 d4 d6 d9 (fun x hx => (hnt x hx).elim) hRf hRl hRc hRs hlocks
    (fun t hvm h1 h2 => ⟨(), trivial, hPE, ⟨Nat.le_trans hS.1 h1, fun q hq hn => (h2 q (Nat.lt_of_lt_of_le hq hS.1)).trans (hS.2.1 q hq hn)⟩⟩) hS.2.2 hc hs
theorem kt_throwW {de mc ms ik is ic nL : Nat} {own cls text : String} {A : Nat → Prop} {Ts : List Cond} (hexec : p.tables.exec = Jvm.exec) (hb : c.code = cc) (hl : l.stackTraces = false) (hml : c.maxLocals = nL) (hsz : ls.size = nL) (hts : ∀ w ∈ Ts, w.before args s = true) (hcls : Bundle.fit cls = true) (hE : cls ∈ tkE)
    (hown : s.vm.findClass own = some m.cls) (hTK : TK s) (hZ : ZK de A s s.heap) (hS : va_S A s.heap H locs) (hstr : (own, is, text) ∈ tkS)
    (hgoodIn : ∀ w ∈ Cond.classLink own ik cls :: Cond.initialized cls :: (vx_atS own ic cls thrNames).filter goodWord, w ∈ Ts)
    (hbad : ∀ w ∈ (vx_atS own ic cls thrNames).filter (fun w => !goodWord w), w ∈ thrBad cls)
    (hgood : ∀ w ∈ Cond.classLink own ik cls :: Cond.initialized cls :: vx_atS own ic cls thrNames, vx_ot w = true)
    (d0 : decode cc pc = .ok (.new ik, 3)) (d3 : decode cc (pc + 3) = .ok (.dup, 1)) (d4 : decode cc (pc + 4) = .ok (.ldc_w is, 3)) (d6 : decode cc (pc + 7) = .ok (.invokespecial ic, 3)) (d9 : decode cc (pc + 10) = .ok (.athrow, 1))
    (hnt : ∀ x ∈ c.exceptionTable.toList, False) (hRf : 5 < R.frames) (hRl : (rest.map fun v => v.category).sum + 82 ≤ R.locals) (hRc : cells + 1 ≤ R.cells) (hRs : slots + 6 ≤ R.slots) (hlocks : meth.locks = false) (hPE : PE cls) (hc : cells + 1 ≤ mc) (hs : slots + 6 ≤ ms) :
    W p l e R s m args below meth c H locs cells slots (vx_MQ below Qc (XN PE A) args s mc ms A) (F0 m pc ls rest) := by
  obtain ⟨sa, hsa⟩ := hTK.2.2.2.1 _ hstr
  refine vx_throwSW (names := thrNames) hexec hb hl hown hcls (by decide +kernel) (hts _ (hgoodIn _ List.mem_cons_self)) (hts _ (hgoodIn _ (List.mem_cons_of_mem _ List.mem_cons_self))) hsa
    (vx_hat (B := thrBad cls) (fun w hw => hts w (hgoodIn w (List.mem_cons_of_mem _ (List.mem_cons_of_mem _ hw)))) hbad (thr_bad hE hTK)) hgood hZ.1 hZ.2.1 hS (hsz.trans hml.symm) d0 d3 d4 d6 d9 (fun x hx => (hnt x hx).elim) hRf hRl hRc hRs hlocks
    (fun t hvm h1 h2 => ⟨(), trivial, hPE, ⟨Nat.le_trans hS.1 h1, fun q hq hn => (h2 q (Nat.lt_of_lt_of_le hq hS.1)).trans (hS.2.1 q hq hn)⟩⟩) hS.2.2 hc hs
end THR
/-- a number lies in a range, as the machine tells it -/
def inR (x a b : Int32) : Int32 := if a ≤ x ∧ x ≤ b then 1 else 0
theorem vp_in_cmp {x : Int32} (h1 : ¬ x < 0) (h2 : ¬ 19 ≤ x) : vp_in x 19 := by
  rw [vp_in_iff]
  have a1 : (0 : Int32) ≤ x := Int32.not_lt.mp h1
  have a2 : x < (19 : Int32) := Int32.not_le.mp h2
  rw [Int32.le_iff_toInt_le] at a1
  rw [Int32.lt_iff_toInt_lt] at a2
  exact ⟨a1, a2⟩

theorem inR_lo {x a b : Int32} (h : x < a) : inR x a b = 0 := if_neg (fun z => absurd z.1 (Int32.not_le.mpr h))
theorem inR_hi {x a b : Int32} (h : b < x) : inR x a b = 0 := if_neg (fun z => absurd z.2 (Int32.not_le.mpr h))
theorem inR_in {x a b : Int32} (h1 : ¬ x < a) (h2 : ¬ b < x) : inR x a b = 1 := if_pos ⟨Int32.not_lt.mp h1, Int32.not_lt.mp h2⟩
theorem inR_bit (x a b : Int32) : inR x a b = 0 ∨ inR x a b = 1 := by
  unfold inR
  by_cases h : a ≤ x ∧ x ≤ b
  · rw [if_pos h]; exact Or.inr rfl
  · rw [if_neg h]; exact Or.inl rfl
theorem inR_nar (x a b : Int32) : narrow .boolean (.int (inR x a b)) = .int (inR x a b) := by
  rcases inR_bit x a b with h | h <;> rw [h] <;> decide
theorem inR_none (x : Int32) : inR x 0 (-1) = 0 := by
  unfold inR
  rw [if_neg]
  intro h
  have h2 : (0 : Int32) ≤ -1 := Int32.le_trans h.1 h.2
  exact absurd h2 (by decide)
theorem thrB_RX11_125 : ∀ w ∈ (vx_atS RX11 125 "java/lang/UnsupportedOperationException" thrNames).filter (fun w => !goodWord w), w ∈ thrBad "java/lang/UnsupportedOperationException" := by decide +kernel
theorem thrG_RX11_121_125 : ∀ w ∈ Cond.classLink RX11 121 "java/lang/UnsupportedOperationException" :: Cond.initialized "java/lang/UnsupportedOperationException" :: vx_atS RX11 125 "java/lang/UnsupportedOperationException" thrNames, vx_ot w = true := by decide +kernel
theorem thrB_RX11_187 : ∀ w ∈ (vx_atS RX11 187 "java/util/NoSuchElementException" thrNames).filter (fun w => !goodWord w), w ∈ thrBad "java/util/NoSuchElementException" := by decide +kernel
theorem thrG_RX11_183_187 : ∀ w ∈ Cond.classLink RX11 183 "java/util/NoSuchElementException" :: Cond.initialized "java/util/NoSuchElementException" :: vx_atS RX11 187 "java/util/NoSuchElementException" thrNames, vx_ot w = true := by decide +kernel
theorem thrB_RX11_208 : ∀ w ∈ (vx_atS RX11 208 "java/lang/IllegalStateException" thrNames).filter (fun w => !goodWord w), w ∈ thrBad "java/lang/IllegalStateException" := by decide +kernel
theorem thrG_RX11_204_208 : ∀ w ∈ Cond.classLink RX11 204 "java/lang/IllegalStateException" :: Cond.initialized "java/lang/IllegalStateException" :: vx_atS RX11 208 "java/lang/IllegalStateException" thrNames, vx_ot w = true := by decide +kernel
theorem thrB_RX11_425 : ∀ w ∈ (vx_atS RX11 425 "java/lang/ArithmeticException" thrNames).filter (fun w => !goodWord w), w ∈ thrBad "java/lang/ArithmeticException" := by decide +kernel
theorem thrG_RX11_421_425 : ∀ w ∈ Cond.classLink RX11 421 "java/lang/ArithmeticException" :: Cond.initialized "java/lang/ArithmeticException" :: vx_atS RX11 425 "java/lang/ArithmeticException" thrNames, vx_ot w = true := by decide +kernel
theorem thrB_RX11_474 : ∀ w ∈ (vx_atS RX11 474 "java/lang/IndexOutOfBoundsException" thrNames).filter (fun w => !goodWord w), w ∈ thrBad "java/lang/IndexOutOfBoundsException" := by decide +kernel
theorem thrG_RX11_470_474 : ∀ w ∈ Cond.classLink RX11 470 "java/lang/IndexOutOfBoundsException" :: Cond.initialized "java/lang/IndexOutOfBoundsException" :: vx_atS RX11 474 "java/lang/IndexOutOfBoundsException" thrNames, vx_ot w = true := by decide +kernel
theorem thrB_RX11_61 : ∀ w ∈ (vx_atS RX11 61 "java/lang/IllegalArgumentException" thrNames).filter (fun w => !goodWord w), w ∈ thrBad "java/lang/IllegalArgumentException" := by decide +kernel
theorem thrG_RX11_57_61 : ∀ w ∈ Cond.classLink RX11 57 "java/lang/IllegalArgumentException" :: Cond.initialized "java/lang/IllegalArgumentException" :: vx_atS RX11 61 "java/lang/IllegalArgumentException" thrNames, vx_ot w = true := by decide +kernel
abbrev wX (ad : Nat → Nat) : va_W := [(ad 0, .inr (16, [.ref (ad 1), .ref (ad 2), .ref (ad 3), .ref (ad 4), .ref (ad 5), .ref (ad 6)])), (ad 1, .inr (5, [.ref (ad 7), .ref (ad 8), .ref (ad 9), .ref (ad 10), .ref (ad 11), .ref (ad 12), .int 0, .int 0, .int 0, .int 0, .int 200])), (ad 2, .inr (9, [.ref (ad 1), .ref (ad 13), .int 0])), (ad 3, .inr (13, [.ref (ad 14), .int 0])), (ad 4, .inr (10, [.ref (ad 1), .ref (ad 15), .ref (ad 16), .ref (ad 17), .ref (ad 18), .ref (ad 19), .ref (ad 20), .ref (ad 21), .ref (ad 22), .int 500, .int 700, .int 0, .int 0])), (ad 5, .inr (8, [.ref (ad 1), .ref (ad 23), .ref (ad 24), .ref (ad 25), .ref (ad 26), .ref (ad 27), .ref (ad 28), .int 10, .int 0]))]
