/-! AN EXCEPTION WHOSE OWN CONSTRUCTOR LINKS ITS SUPERCLASS'S AT ANOTHER PLACE (NoSuchElementException of this JDK: 13). Turned from the rows for pasting (exceptions as objects). -/
def nx_own (own : String) (ic : Nat) (X Y : String) (ix : Nat) (rx : ByteArray) (names : List String) : List Cond :=
  Bundle.throwableAtoms ++ Bundle.throwableSAtoms ++ Bundle.passSAtoms X Y ix rx ++ Bundle.chainSAtoms Y names ++
  [.methodLink own ic (Bundle.initS X), .instantiable X 6, .castable X X, .selects X Bundle.tFill0 Bundle.tFill0, .selects X Bundle.tFill Bundle.tFill,
   .lays X Bundle.tN "cause" "Ljava/lang/Throwable;", .lays X Bundle.tN "stackTrace" Bundle.steD, .lays X Bundle.tN "suppressedExceptions" Bundle.listD, .lays X Bundle.tN "detailMessage" "Ljava/lang/String;",
   .isRef (.static Bundle.tN "UNASSIGNED_STACK" Bundle.steD), .isRef (.static Bundle.tN "SUPPRESSED_SENTINEL" Bundle.listD),
   .fieldLink Bundle.tN 198 Bundle.tN "backtrace" "Ljava/lang/Object;", .lays Bundle.tN Bundle.tN "backtrace" "Ljava/lang/Object;", .lays X Bundle.tN "backtrace" "Ljava/lang/Object;"]
def nx_at (own : String) (ic : Nat) (X Y : String) (ix : Nat) (rx : ByteArray) (names : List String) : List Cond := (nx_own own ic X Y ix rx names).filter vx_no
theorem nx_chain {args : Array Value} {s : State} {pl : Platform} (hpl : pl.magicAccessors = ({} : Platform).magicAccessors) {top : MethodId} (htop : s.methodNamed? (Bundle.initS Bundle.tN) = some top)
    {ix : Nat} {rx : ByteArray} (x0 : decode rx 0 = .ok (.aload_n 0, 1)) (x1 : decode rx 1 = .ok (.aload_n 1, 1)) (x2 : decode rx 2 = .ok (.invokespecial ix, 3)) (x5 : decode rx 5 = .ok (.return_, 1))
    (names : List String) (X Y : String) (hX : Bundle.fit X = true) (hY : Bundle.fit Y = true) (hn : ∀ n ∈ names, Bundle.fit n = true) (h1 : ∀ c ∈ Bundle.passSAtoms X Y ix rx, c.before args s = true) (h2 : ∀ c ∈ Bundle.chainSAtoms Y names, c.before args s = true) :
      ∃ (P1 : PassC) (Ps : List PassC), Ps.length = names.length + 1 ∧ P1.LinksS pl s ∧ (∀ P, P ∈ Ps → P.LinksS pl s) ∧ s.methodNamed? (Bundle.initS X) = some P1.m ∧
        P1.sup = firstOf top (Ps.map (·.toPassT)) ∧ PassesOn top (Ps.map (·.toPassT)) := by
  obtain ⟨P, L, hm, hs⟩ := PassC.ofS_atoms (args := args) (s := s) hpl (X := X) (Y := Y) (Bundle.fit_spec hX).1 (Bundle.fit_spec hY).2 x0 x1 x2 x5 h1
  obtain ⟨P', Ps, hlen, L', hL, hm', hsup, hpass⟩ := Bundle.chainS (args := args) hpl htop names Y hY hn h2
  refine ⟨P, P' :: Ps, by simp [hlen], L, ?_, hm, Option.some.inj (hs.symm.trans hm'), hsup, hpass⟩
  intro Q hQ
  rcases List.mem_cons.mp hQ with rfl | hQ
  · exact L'
  · exact hL Q hQ
section NX
variable {p : Program} {l : Launch} {e : Env} {R : Room} {s : State} {m₀ : MethodId} {args : Array Value} {below : List Frame} {meth : Method} {c : Code} {W : State} {locs : List Loc} {cells slots : Nat}
set_option maxHeartbeats 1000000 in
theorem nx_made (X : Stand p l e R s m₀ args below meth c W locs cells slots) (hexec : p.tables.exec = Jvm.exec) (htr : e.platform.stackTraces = false) {own cls sup : String} {names : List String} {ic ix : Nat} {rx : ByteArray} (x0 : decode rx 0 = .ok (.aload_n 0, 1)) (x1 : decode rx 1 = .ok (.aload_n 1, 1)) (x2 : decode rx 2 = .ok (.invokespecial ix, 3)) (x5 : decode rx 5 = .ok (.return_, 1)) (hsup9 : Bundle.fit sup = true)
    (hown : s.vm.findClass own = some m₀.cls) (hcls : Bundle.fit cls = true) (hnames : ∀ n ∈ names, Bundle.fit n = true)
    (h : ∀ a ∈ nx_own own ic cls sup ix rx names, a.before args s = true)
    (hlocs : ∀ x ∈ locs, ∀ cell, s.heap[x.base]? = some cell → cell.vm.isStatics = false)
    {a : Addr} {cX : ClassId} {kX : Class} (hfoundX : s.vm.findClass cls = some cX) (hkX : s.vm.classes[cX]? = some kX) (hcell : W.heap[a]? = some (freshCell cX kX)) (hnew : s.heap.size ≤ a)
    {msg : Value} (hmsg : msg.isRef = true)
    {g : JFrame} (hg : g.method = m₀) (hsize : g.locals.size = c.maxLocals) {rest : List Value} (hstack : g.stack = msg :: .ref a :: .ref a :: rest)
    (hd6 : decode c.code g.pc = .ok (.invokespecial ic, 3))
    (hRframes : names.length + 4 < R.frames) (hRlocals : 2 * g.monitorRoom + ((Value.ref a :: rest).map fun v => v.category).sum + (13 * (names.length + 2) + 42) ≤ R.locals) :
    ∃ (V : State) (ce : Cell) (L : List Loc), Stand p l e R s m₀ args below meth c (V.setCell a ce) (locs ++ L) cells slots ∧ (∀ y ∈ L, y.base = a) ∧ a < V.heap.size ∧ ce.cls = cX ∧ ce.vm = .none ∧
      ∀ target, Steps p.tables e below ((V.setCell a ce).setTop { g with stack := .ref a :: rest, pc := g.pc + 3 }) target → Steps p.tables e below (W.setTop g) target := by
  have howns : e.platform.frameOwnsMonitors = true := by rw [X.admits.platform]
  have hfin : e.platform.finalization = false := by rw [X.admits.platform]
  have hpl : e.platform.magicAccessors = ({} : Platform).magicAccessors := by rw [X.admits.platform]
  have a' : ∀ x, x ∈ nx_own own ic cls sup ix rx names → x.holds args s none s [] = true := fun x hx => h x hx
  obtain ⟨T, Z0, L, -, Y⟩ := ThrowableC.of_atoms (args := args) howns hfin hpl (fun x hx => h x (by simp [nx_own, hx]))
  obtain ⟨Z, M, LZ, LM, hnZ⟩ := Init0T.ofS_atoms (args := args) hpl L Y (fun x hx => h x (by simp [nx_own, hx]))
  obtain ⟨P1, Ps, hlen, L1, hL, hP1m, hlink1, hlink⟩ := nx_chain (args := args) hpl hnZ x0 x1 x2 x5 names cls sup hcls hsup9 hnames (fun x hx => h x (by simp [nx_own, hx])) (fun x hx => h x (by simp [nx_own, hx]))
  have hfound : s.vm.findClass cls = some P1.m.cls := findClass_of_methodNamed hP1m
  cases Option.some.inj (hfoundX.symm.trans hfound)
  obtain ⟨c1, kX', hc1, hk, hord, -, -, hn6⟩ := Cond.instantiable_spec (a' (.instantiable cls 6) (by simp [nx_own]))
  cases Option.some.inj (hc1.symm.trans hfound)
  cases Option.some.inj (hkX.symm.trans hk)
  have hsel0 : selectMethod e.platform s.vm P1.m.cls T.fill0 = .method T.fill0 := by
    obtain ⟨c2, r2, m2, q1, q2, q3, q4, -⟩ := Cond.selects_spec (a' (.selects cls Bundle.tFill0 Bundle.tFill0) (by simp [nx_own]))
    cases Option.some.inj (q1.symm.trans hfound)
    cases Option.some.inj (q2.symm.trans (State.methodFound?_of_named Y.fill0 (by decide)))
    cases Option.some.inj (q3.symm.trans Y.fill0)
    rw [Launch.admits_selectMethod X.admits]; exact q4
  have hselF : selectMethod e.platform s.vm P1.m.cls T.fill = .method T.fill := by
    obtain ⟨c2, r2, m2, q1, q2, q3, q4, -⟩ := Cond.selects_spec (a' (.selects cls Bundle.tFill Bundle.tFill) (by simp [nx_own]))
    cases Option.some.inj (q1.symm.trans hfound)
    cases Option.some.inj (q2.symm.trans (State.methodFound?_of_named Y.fill (by decide)))
    cases Option.some.inj (q3.symm.trans Y.fill)
    rw [Launch.admits_selectMethod X.admits]; exact q4
  obtain ⟨cellS0, hcS0, hiss⟩ := Y.statics
  obtain ⟨u0, hu0⟩ := Cond.staticRefV Y.unassigned L.unassignedStatic L.statics hcS0 hiss (a' (.isRef (.static Bundle.tN "UNASSIGNED_STACK" Bundle.steD)) (by simp [nx_own]))
  obtain ⟨sen, hsen⟩ := Cond.staticRefV Y.sentinel L.sentinelStatic L.statics hcS0 hiss (a' (.isRef (.static Bundle.tN "SUPPRESSED_SENTINEL" Bundle.listD)) (by simp [nx_own]))
  obtain ⟨ci198, i198, fB, hk198, hg198, ha198, hsB, -, hnB, htB, hffB⟩ := Cond.ownField (t := .object "java/lang/Object") Y.found L.cls (by decide +kernel) (a' (.fieldLink Bundle.tN 198 Bundle.tN "backtrace" "Ljava/lang/Object;") (by simp [nx_own])) (a' (.lays Bundle.tN Bundle.tN "backtrace" "Ljava/lang/Object;") (by simp [nx_own])) e.platform hpl
  obtain ⟨cellS, hcS', heS, -, hkeep⟩ := X.same.2.2.2.2.2 T.aS cellS0 hcS0
  have hcellS : W.heap[T.aS]? = some cellS := hcS'
  have hout' : ∀ i, (⟨T.aS, i⟩ : Loc) ∉ locs := fun i hmem => by
    have := hlocs _ hmem cellS0 hcS0
    rw [hiss] at this; cases this
  have hknownS : cellS.vm ≠ .unknown := by
    rw [heS]; intro hu
    rw [show cellS0.vm = .unknown from hu] at hiss
    cases hiss
  have hneS : T.aS ≠ a := Nat.ne_of_lt (Nat.lt_of_lt_of_le (Array.getElem?_eq_some_iff.mp hcS0).1 hnew)
  obtain ⟨iM, hffM⟩ := Y.msg
  obtain ⟨tyC, dC, hdC, hdnC⟩ := Cond.laysAt hfound hk Y.cause (a' (.lays cls Bundle.tN "cause" "Ljava/lang/Throwable;") (by simp [nx_own]))
  obtain ⟨tyS, dS, hdS, hdnS⟩ := Cond.laysAt hfound hk Y.stack (a' (.lays cls Bundle.tN "stackTrace" Bundle.steD) (by simp [nx_own]))
  obtain ⟨tyP, dP, hdP, hdnP⟩ := Cond.laysAt hfound hk Y.supp (a' (.lays cls Bundle.tN "suppressedExceptions" Bundle.listD) (by simp [nx_own]))
  obtain ⟨tyM, dM, hdM, hdnM⟩ := Cond.laysAt hfound hk hffM (a' (.lays cls Bundle.tN "detailMessage" "Ljava/lang/String;") (by simp [nx_own]))
  obtain ⟨tyB, dB, hdB, hdnB⟩ := Cond.laysAt hfound hk hffB (a' (.lays cls Bundle.tN "backtrace" "Ljava/lang/Object;") (by simp [nx_own]))
  have bC := Cond.laysApart hdB hdC hdnB hdnC (by rw [hnB, Y.causeName]; decide)
  have bS := Cond.laysApart hdB hdS hdnB hdnS (by rw [hnB, Y.stackName]; decide)
  have bP := Cond.laysApart hdB hdP hdnB hdnP (by rw [hnB, Y.suppName]; decide)
  have hskip : SkipFacts T e.platform s (fun u => u) u0 ((preparedCellV T.toThrowableT (freshCell P1.m.cls kX) a u0 sen).withEntry W.cur) :=
    ⟨{ ci198 := ci198, i198 := i198, fBack := fB }, ⟨hk198, hg198, ha198, hsB⟩, by
      have := fresh_default (c := P1.m.cls) tyB
      rw [htB] at this
      simpa [preparedCellV, Cell.setSlot, Cell.withEntry, Array.getElem?_setIfInBounds, bC, bS, bP, bC.symm, bS.symm, bP.symm, defaultValue] using this, fun _ _ => rfl⟩
  obtain ⟨tm, methC, cdC, kC, vm₁, hnC, -, -, -, -, -, -, -, hW₁, st1⟩ := Steps.initColdS (tb := p.tables) (e := e) (below := below) (s := s) (U := W) X.here hexec X.warmed hpl hown (t := Bundle.initS cls) rfl rfl (Bundle.fit_spec hcls).2
    (a' (.methodLink own ic (Bundle.initS cls)) (by simp [nx_own])) (h (.instanceMethod (Bundle.initS cls)) (by simp [nx_own, Bundle.passSAtoms])) (bytes := rx) (maxL := 2) (h (.code (Bundle.initS cls) rx 2 none) (by simp [nx_own, Bundle.passSAtoms]))
    (f := g) hg (a := a) (msg := msg) (rest := .ref a :: rest) hstack hd6
  cases Option.some.inj (hnC.symm.trans hP1m)
  have X₁ := X.noted hW₁
  obtain ⟨vm₂, X₂, st2⟩ := X₁.ctorMessageOffV hexec (g := { g with stack := .ref a :: rest }) hg hsize T L Z LZ M LM (P1 :: Ps)
    (fun P hP => by rcases List.mem_cons.mp hP with rfl | hP; exact L1; exact hL P hP) ⟨hlink1, hlink⟩ (u0 := u0) (sen := sen) (self := a) hmsg (cell := freshCell P1.m.cls kX) (cellS := cellS)
    hcell (fun _ => by simp) (by simp) rfl rfl hsel0 hselF hcellS hneS hknownS (by rw [hkeep _ (hout' _)]; exact hu0) (by rw [hkeep _ (hout' _)]; exact hsen)
    (Takes.of_laid hk hord tyC (by rw [Y.causeType]; rfl)) (Takes.of_laid hk hord tyS (by rw [Y.stackType]; exact fits_refV_array _ u0)) (Takes.of_laid hk hord tyP (by rw [Y.suppType]; exact fits_refV_object _ sen))
    (Takes.of_laid hk hord tyM (by rw [Y.msgType]; exact fits_refV_object _ ⟨msg, hmsg⟩)) Y.objLocals hskip htr [] hd6
    (by simp only [List.length_cons, hlen]; omega) (by simp only [List.length_cons, hlen]; exact hRlocals)
  have hlt : a < ((W.setVm vm₁).setVm vm₂).heap.size := (Array.getElem?_eq_some_iff.mp hcell).1
  refine ⟨(W.setVm vm₁).setVm vm₂, _, _, X₂, fun y hy => ?_, hlt, rfl, rfl, fun target hwalk => st1 _ (fun acts => ?_)⟩
  · simp only [List.mem_cons, List.not_mem_nil, or_false] at hy
    rcases hy with rfl | rfl | rfl | rfl | rfl <;> rfl
  · rw [doInvoke_state]
    exact st2 _ hwalk
end NX
section NX2
variable {p : Program} {l : Launch} {e : Env} {R : Room} {s : State} {m : MethodId} {args : Array Value} {below : List Frame} {meth : Method} {c : Code} {H : Heap} {locs : List Loc} {cells slots : Nat} {Q : State → Prop}
variable {ls : Array Slot} {rest : List Value}
set_option maxHeartbeats 1000000 in
theorem nx_make {cc : ByteArray} {pc : Nat} (hexec : p.tables.exec = Jvm.exec) (hb : c.code = cc) (hl : l.stackTraces = false) {own cls sup text : String} {names : List String} {ik is ic ix sa : Nat} {rx : ByteArray} {A : Nat → Prop} (x0 : decode rx 0 = .ok (.aload_n 0, 1)) (x1 : decode rx 1 = .ok (.aload_n 1, 1)) (x2 : decode rx 2 = .ok (.invokespecial ix, 3)) (x5 : decode rx 5 = .ok (.return_, 1)) (hsup9 : Bundle.fit sup = true)
    (hown : s.vm.findClass own = some m.cls) (hcls : Bundle.fit cls = true) (hnames : ∀ n ∈ names, Bundle.fit n = true)
    (hk : (Cond.classLink own ik cls).before args s = true) (hini : (Cond.initialized cls).before args s = true) (hstr : vk_R own is text sa s) (hat : ∀ w ∈ nx_at own ic cls sup ix rx names, w.before args s = true)
    (hgood : ∀ w ∈ Cond.classLink own ik cls :: Cond.initialized cls :: nx_at own ic cls sup ix rx names, vx_ot w = true)
    (hU : vx_Zq Bundle.tN "UNASSIGNED_STACK" Bundle.steD A s s.heap) (hN : vx_Zq Bundle.tN "SUPPRESSED_SENTINEL" Bundle.listD A s s.heap) (hS : va_S A s.heap H locs) (hsize : ls.size = c.maxLocals)
    (d0 : decode cc pc = .ok (.new ik, 3)) (d3 : decode cc (pc + 3) = .ok (.dup, 1)) (d4 : decode cc (pc + 4) = .ok (.ldc is, 2)) (d6 : decode cc (pc + 6) = .ok (.invokespecial ic, 3))
    (hRframes : names.length + 4 < R.frames) (hRlocals : (rest.map fun v => v.category).sum + (13 * (names.length + 2) + 43) ≤ R.locals) (hRcells : cells + 1 ≤ R.cells) (hRslots : slots + 6 ≤ R.slots)
    (kk : ∀ (q : Nat) (ce : Cell) (H1 : Heap), H.size ≤ H1.size → (∀ x : Nat, x < H.size → H1[x]? = H[x]?) → H1[q]? = some ce → ce.vm = .none → s.vm.findClass cls = some ce.cls → W p l e R s m args below meth c H1 locs (cells + 1) (slots + 6) Q (F0 m (pc + 9) ls (.ref q :: rest))) :
    W p l e R s m args below meth c H locs cells slots Q (F0 m pc ls rest) := by
  intro T hT X
  subst hT
  have htr : e.platform.stackTraces = false := (show e.platform.stackTraces = l.stackTraces by rw [X.admits.platform]).trans hl
  have Y := vx_rebase X (R' := { frames := R.frames, locals := R.locals, cells := 1, slots := 6 }) (Nat.le_refl _) (Nat.le_refl _) hRcells hRslots
  obtain ⟨s', hA'⟩ : ∃ z, z = (T.setVm s.vm).setFrames (.invoking m args :: below) := ⟨_, rfl⟩
  rw [← hA'] at Y
  have hvm : s'.vm = s.vm := by rw [hA']; rfl
  have hhp : s'.heap = T.heap := by rw [hA']; rfl
  have hW0 : s.WarmedH s'.vm := by rw [hvm]; exact State.WarmedH.refl s
  have hat' : ∀ w ∈ nx_at own ic cls sup ix rx names, w.before args s' = true := fun w hw => vx_ot_at hW0 hvm.symm (hgood w (List.mem_cons_of_mem _ (List.mem_cons_of_mem _ hw))) (hat w hw)
  have hk' : (Cond.classLink own ik cls).before args s' = true := vx_ot_at hW0 hvm.symm (hgood _ List.mem_cons_self) hk
  have hini' : (Cond.initialized cls).before args s' = true := vx_ot_at hW0 hvm.symm (hgood _ (List.mem_cons_of_mem _ List.mem_cons_self)) hini
  have hU' : vx_Zq Bundle.tN "UNASSIGNED_STACK" Bundle.steD A s' s'.heap := by rw [hhp]; exact vx_Zq.moved hW0.alike (hU.kept hS.2.1)
  have hN' : vx_Zq Bundle.tN "SUPPRESSED_SENTINEL" Bundle.listD A s' s'.heap := by rw [hhp]; exact vx_Zq.moved hW0.alike (hN.kept hS.2.1)
  have h : ∀ w ∈ nx_own own ic cls sup ix rx names, w.before args s' = true := vx_own hat' (vx_isRefq hU'.1) (vx_isRefq hN'.1) hU'.2.word hN'.2.word
  have hown' : s'.vm.findClass own = some m.cls := by rw [hvm]; exact hown
  have hins : (Cond.instantiable cls 6).before args s' = true := h _ (by simp [nx_own])
  obtain ⟨vm₁, cX, kX, hfX, hkX, -, -, X₁, st1⟩ := Y.newCold hexec (own := own) (C := cls) (index := ik) (n := 6) hown' hk' hins hini'
    (g := F0 m pc ls rest) rfl (by rw [hb]; exact d0) (Nat.le_refl _) (Nat.le_refl _)
  generalize hT1 : (T.setVm vm₁).pushCell { cls := cX, slots := kX.instanceTypes.map defaultValue, vm := .none } = T1 at X₁ st1
  have hcat : (Value.ref T.heap.size).category = 1 := rfl
  have hcellA : T1.heap[T.heap.size]? = some (freshCell cX kX) := by rw [← hT1]; exact State.heap_pushCell_size _ _
  have d3' : decode c.code (pc + 3) = .ok (.dup, 1) := by rw [hb]; exact d3
  have d4' : decode c.code (pc + 4) = .ok (.ldc is, 2) := by rw [hb]; exact d4
  have hstr' : vk_R own is text sa s' := vk_R.warm hW0 hstr
  obtain ⟨V, ce, L, Z, hL, hlt, hcl9, hvm9, st⟩ := nx_made X₁ hexec htr x0 x1 x2 x5 hsup9 (own := own) (cls := cls) (names := names) (ic := ic) hown' hcls hnames h (fun x hx => nomatch hx) hfX hkX hcellA (by rw [hhp]; exact Nat.le_refl _) (msg := .ref sa) rfl
    (g := { method := m, pc := pc + 6, locals := ls, stack := .ref sa :: .ref T.heap.size :: .ref T.heap.size :: rest, locked := none }) rfl hsize (rest := rest) rfl
    (by rw [hb]; exact d6) hRframes (by simp only [List.map_cons, List.sum_cons, hcat]; omega)
  have Z0 := Stand.forget (locs := []) Z (fun y hy => by rw [hL y hy, hhp]; exact Nat.le_refl _)
  obtain ⟨f1, f2⟩ := vx_frame Z0.same
  rw [hhp] at f1 f2
  have hcid : s.vm.findClass cls = some ce.cls := by
    rw [hcl9, ← hvm]
    exact hfX
  have hh : (V.setCell T.heap.size ce).heap[T.heap.size]? = some ce := heapAt_setCell_self (s := V) ce hlt
  subst hA'
  have X5 := vx_back9 X Y Z0
  have X6 : Stand p l e R s m args below meth c (V.setCell T.heap.size ce) locs (cells + 1) (slots + 6) := { X5 with same := X5.same.mono (by omega) (by omega) }
  obtain ⟨t, a1, b1⟩ := kk T.heap.size ce (V.setCell T.heap.size ce).heap f1 (fun x hx => f2 x hx (fun z hz => nomatch hz)) hh hvm9 hcid _ rfl X6
  refine ⟨t, st1 _ ?_, b1⟩
  show Steps p.tables e below (T1.setTop { method := m, pc := pc + 3, locals := ls, stack := .ref T.heap.size :: rest, locked := none }) _
  jvm_step X₁.here [X₁.here.top, hexec, d3', Value.category]
  exact X₁.ldcString hexec (own := own) (text := text) (index := is) (a := sa) hown' hstr'.1 hstr'.2
    (g := { method := m, pc := pc + 4, locals := ls, stack := .ref T.heap.size :: .ref T.heap.size :: rest, locked := none }) rfl d4' _ (st _ a1)
set_option maxHeartbeats 1000000 in
theorem nx_makeW {cc : ByteArray} {pc : Nat} (hexec : p.tables.exec = Jvm.exec) (hb : c.code = cc) (hl : l.stackTraces = false) {own cls sup text : String} {names : List String} {ik is ic ix sa : Nat} {rx : ByteArray} {A : Nat → Prop} (x0 : decode rx 0 = .ok (.aload_n 0, 1)) (x1 : decode rx 1 = .ok (.aload_n 1, 1)) (x2 : decode rx 2 = .ok (.invokespecial ix, 3)) (x5 : decode rx 5 = .ok (.return_, 1)) (hsup9 : Bundle.fit sup = true)
    (hown : s.vm.findClass own = some m.cls) (hcls : Bundle.fit cls = true) (hnames : ∀ n ∈ names, Bundle.fit n = true)
    (hk : (Cond.classLink own ik cls).before args s = true) (hini : (Cond.initialized cls).before args s = true) (hstr : vk_R own is text sa s) (hat : ∀ w ∈ nx_at own ic cls sup ix rx names, w.before args s = true)
    (hgood : ∀ w ∈ Cond.classLink own ik cls :: Cond.initialized cls :: nx_at own ic cls sup ix rx names, vx_ot w = true)
    (hU : vx_Zq Bundle.tN "UNASSIGNED_STACK" Bundle.steD A s s.heap) (hN : vx_Zq Bundle.tN "SUPPRESSED_SENTINEL" Bundle.listD A s s.heap) (hS : va_S A s.heap H locs) (hsize : ls.size = c.maxLocals)
    (d0 : decode cc pc = .ok (.new ik, 3)) (d3 : decode cc (pc + 3) = .ok (.dup, 1)) (d4 : decode cc (pc + 4) = .ok (.ldc_w is, 3)) (d6 : decode cc (pc + 7) = .ok (.invokespecial ic, 3))
    (hRframes : names.length + 4 < R.frames) (hRlocals : (rest.map fun v => v.category).sum + (13 * (names.length + 2) + 43) ≤ R.locals) (hRcells : cells + 1 ≤ R.cells) (hRslots : slots + 6 ≤ R.slots)
    (kk : ∀ (q : Nat) (ce : Cell) (H1 : Heap), H.size ≤ H1.size → (∀ x : Nat, x < H.size → H1[x]? = H[x]?) → H1[q]? = some ce → ce.vm = .none → s.vm.findClass cls = some ce.cls → W p l e R s m args below meth c H1 locs (cells + 1) (slots + 6) Q (F0 m (pc + 10) ls (.ref q :: rest))) :
    W p l e R s m args below meth c H locs cells slots Q (F0 m pc ls rest) := by
  intro T hT X
  subst hT
  have htr : e.platform.stackTraces = false := (show e.platform.stackTraces = l.stackTraces by rw [X.admits.platform]).trans hl
  have Y := vx_rebase X (R' := { frames := R.frames, locals := R.locals, cells := 1, slots := 6 }) (Nat.le_refl _) (Nat.le_refl _) hRcells hRslots
  obtain ⟨s', hA'⟩ : ∃ z, z = (T.setVm s.vm).setFrames (.invoking m args :: below) := ⟨_, rfl⟩
  rw [← hA'] at Y
  have hvm : s'.vm = s.vm := by rw [hA']; rfl
  have hhp : s'.heap = T.heap := by rw [hA']; rfl
  have hW0 : s.WarmedH s'.vm := by rw [hvm]; exact State.WarmedH.refl s
  have hat' : ∀ w ∈ nx_at own ic cls sup ix rx names, w.before args s' = true := fun w hw => vx_ot_at hW0 hvm.symm (hgood w (List.mem_cons_of_mem _ (List.mem_cons_of_mem _ hw))) (hat w hw)
  have hk' : (Cond.classLink own ik cls).before args s' = true := vx_ot_at hW0 hvm.symm (hgood _ List.mem_cons_self) hk
  have hini' : (Cond.initialized cls).before args s' = true := vx_ot_at hW0 hvm.symm (hgood _ (List.mem_cons_of_mem _ List.mem_cons_self)) hini
  have hU' : vx_Zq Bundle.tN "UNASSIGNED_STACK" Bundle.steD A s' s'.heap := by rw [hhp]; exact vx_Zq.moved hW0.alike (hU.kept hS.2.1)
  have hN' : vx_Zq Bundle.tN "SUPPRESSED_SENTINEL" Bundle.listD A s' s'.heap := by rw [hhp]; exact vx_Zq.moved hW0.alike (hN.kept hS.2.1)
  have h : ∀ w ∈ nx_own own ic cls sup ix rx names, w.before args s' = true := vx_own hat' (vx_isRefq hU'.1) (vx_isRefq hN'.1) hU'.2.word hN'.2.word
  have hown' : s'.vm.findClass own = some m.cls := by rw [hvm]; exact hown
  have hins : (Cond.instantiable cls 6).before args s' = true := h _ (by simp [nx_own])
  obtain ⟨vm₁, cX, kX, hfX, hkX, -, -, X₁, st1⟩ := Y.newCold hexec (own := own) (C := cls) (index := ik) (n := 6) hown' hk' hins hini'
    (g := F0 m pc ls rest) rfl (by rw [hb]; exact d0) (Nat.le_refl _) (Nat.le_refl _)
  generalize hT1 : (T.setVm vm₁).pushCell { cls := cX, slots := kX.instanceTypes.map defaultValue, vm := .none } = T1 at X₁ st1
  have hcat : (Value.ref T.heap.size).category = 1 := rfl
  have hcellA : T1.heap[T.heap.size]? = some (freshCell cX kX) := by rw [← hT1]; exact State.heap_pushCell_size _ _
  have d3' : decode c.code (pc + 3) = .ok (.dup, 1) := by rw [hb]; exact d3
  have d4' : decode c.code (pc + 4) = .ok (.ldc_w is, 3) := by rw [hb]; exact d4
  have hstr' : vk_R own is text sa s' := vk_R.warm hW0 hstr
  obtain ⟨V, ce, L, Z, hL, hlt, hcl9, hvm9, st⟩ := nx_made X₁ hexec htr x0 x1 x2 x5 hsup9 (own := own) (cls := cls) (names := names) (ic := ic) hown' hcls hnames h (fun x hx => nomatch hx) hfX hkX hcellA (by rw [hhp]; exact Nat.le_refl _) (msg := .ref sa) rfl
    (g := { method := m, pc := pc + 7, locals := ls, stack := .ref sa :: .ref T.heap.size :: .ref T.heap.size :: rest, locked := none }) rfl hsize (rest := rest) rfl
    (by rw [hb]; exact d6) hRframes (by simp only [List.map_cons, List.sum_cons, hcat]; omega)
  have Z0 := Stand.forget (locs := []) Z (fun y hy => by rw [hL y hy, hhp]; exact Nat.le_refl _)
  obtain ⟨f1, f2⟩ := vx_frame Z0.same
  rw [hhp] at f1 f2
  have hcid : s.vm.findClass cls = some ce.cls := by
    rw [hcl9, ← hvm]
    exact hfX
  have hh : (V.setCell T.heap.size ce).heap[T.heap.size]? = some ce := heapAt_setCell_self (s := V) ce hlt
  subst hA'
  have X5 := vx_back9 X Y Z0
  have X6 : Stand p l e R s m args below meth c (V.setCell T.heap.size ce) locs (cells + 1) (slots + 6) := { X5 with same := X5.same.mono (by omega) (by omega) }
  obtain ⟨t, a1, b1⟩ := kk T.heap.size ce (V.setCell T.heap.size ce).heap f1 (fun x hx => f2 x hx (fun z hz => nomatch hz)) hh hvm9 hcid _ rfl X6
  refine ⟨t, st1 _ ?_, b1⟩
  show Steps p.tables e below (T1.setTop { method := m, pc := pc + 3, locals := ls, stack := .ref T.heap.size :: rest, locked := none }) _
  jvm_step X₁.here [X₁.here.top, hexec, d3', Value.category]
  exact X₁.ldcStringW hexec (own := own) (text := text) (index := is) (a := sa) hown' hstr'.1 hstr'.2
    (g := { method := m, pc := pc + 4, locals := ls, stack := .ref T.heap.size :: .ref T.heap.size :: rest, locked := none }) rfl d4' _ (st _ a1)
theorem nx_athrow {cc : ByteArray} {pc : Nat} (hexec : p.tables.exec = Jvm.exec) (hb : c.code = cc) {q : Addr} (hdg : decode cc pc = .ok (.athrow, 1)) (k : vx_W p l e R s m args below meth c H locs cells slots Q (F0 m pc ls rest) q) : W p l e R s m args below meth c H locs cells slots Q (F0 m pc ls (.ref q :: rest)) := by
  intro T hT X
  obtain ⟨t, st, hq⟩ := k T hT X
  refine ⟨t, ?_, hq⟩
  have hdg' : decode c.code pc = .ok (.athrow, 1) := by rw [hb]; exact hdg
  jvm_step X.here [X.here.top, hexec, hdg', athrow.wp_sem]
  exact st
end NX2
/-! THE BASE: what every contract of this proof is said with. A method's world is a list of cells; facts of the tables that the good words don't give stand in TK, facts of static cells in ZK. -/
def tkE : List String := ["java/lang/IllegalArgumentException", "java/lang/IllegalStateException", "java/lang/IndexOutOfBoundsException", "java/lang/ArithmeticException", "java/lang/UnsupportedOperationException", "java/util/NoSuchElementException"]
def tkY : List MethodName := [⟨"java/lang/RuntimeException", "<init>", "(Ljava/lang/String;)V"⟩, ⟨"java/lang/Exception", "<init>", "(Ljava/lang/String;)V"⟩, ⟨"java/lang/Throwable", "<init>", "(Ljava/lang/String;)V"⟩]
def tkN : List (String × String) := [("java/util/NoSuchElementException", "java/lang/IllegalArgumentException"), ("java/lang/UnsupportedOperationException", "java/lang/IllegalArgumentException"), ("java/lang/UnsupportedOperationException", "java/lang/IndexOutOfBoundsException"), ("java/util/NoSuchElementException", "java/lang/IndexOutOfBoundsException"), ("java/lang/IllegalArgumentException", "java/lang/IndexOutOfBoundsException")]
def tkS : List (String × Nat × String) := [(RX11, 59, "a page is 20 to 400 wide and high"), (RX11, 106, "no such arm"), (RX11, 123, "there is an arm"), (RX11, 141, "no such place or step"), (RX11, 185, "it clashes with none"), (RX11, 198, "nothing is seen there"), (RX11, 202, "not on the strip, or no such colour"), (RX11, 206, "there are 30 pictures"), (RX11, 219, "not on the strip"), (RX11, 235, "no step shows all pictures"), (RX11, 240, "it has a flap"), (RX11, 248, "it has no flap"), (RX11, 250, "not on the strip, or no such friction"), (RX11, 252, "there are 10 pulls"), (RX11, 273, "they cannot be joined"), (RX11, 278, "no such way or force"), (RX11, 290, "a sheet is 20 to 2000 wide and long"), (RX11, 304, "no such thing of a net"), (RX11, 310, "0 to 99 is added"), (RX11, 316, "glue dries in 0 to 99 minutes"), (RX11, 321, "no such fold in the order"), (RX11, 345, "a day has 1 to 9999 minutes"), (RX11, 347, "there is no fold"), (RX11, 352, "paper has a weight of 100 to 400"), (RX11, 360, "it is opened 1 to 9999 times"), (RX11, 374, "it is torn"), (RX11, 382, "it cannot be mended"), (RX11, 387, "a ridge is at 1 to 400"), (RX11, 392, "no such part of y"), (RX11, 403, "no folds make this ridge"), (RX11, 405, "a child has 0 to 99 years"), (RX11, 423, "there are no folds"), (RX11, 429, "there are no strips"), (RX11, 449, "the crease has no room for it"), (RX11, 451, "there are 24 folds"), (RX11, 460, "a net cannot be laid"), (RX11, 465, "there is no spread"), (RX11, 472, "no such crease"), (RX11, 478, "no such fold"), (RX11, 483, "no such strip"), (RX11, 488, "no such picture"), (RX11, 493, "no such pull"), (RX11, 495, "no such step"), (RX11, 497, "no such step for an eye"), (RX11, 499, "no such step of an opening"), (RX11, 501, "there are 1 to 9 stations")]
def tkM : List (String × Nat × MethodName × String) := [(RX1, 28, yX11_isWithin, "Popupwright"), (RX10, 74, yX11_isPart, "Popupwright"), (RX4, 44, yX11_alongOf, "Popupwright"), (RX6, 35, yX11_isWithin, "Popupwright"), (RX9, 34, yX11_isWithin, "Popupwright"), (RX9, 38, yX11_alongOf, "Popupwright"), (RX9, 42, yX11_upOf, "Popupwright")]
def tkW : List (String × MethodName × MethodName) := [(RJx35411, ⟨"java/util/Iterator", "hasNext", "()Z"⟩, yJx35411_hasNext_aae02), (RJx35411, ⟨"java/util/Iterator", "next", "()Ljava/lang/Object;"⟩, yJx35411_next_0502b), (RJx4a65c, ⟨"java/util/List", "add", "(Ljava/lang/Object;)Z"⟩, yJx4a65c_add_9ea2d), (RJx4a65c, ⟨"java/util/List", "clear", "()V"⟩, yJx4a65c_clear_da8c8), (RJx4a65c, ⟨"java/util/List", "get", "(I)Ljava/lang/Object;"⟩, yJx4a65c_get_915e3), (RJx4a65c, ⟨"java/util/List", "isEmpty", "()Z"⟩, yJx4a65c_isEmpty_aae02), (RJx4a65c, ⟨"java/util/List", "iterator", "()Ljava/util/Iterator;"⟩, yJx4a65c_iterator_32c93), (RJx4a65c, ⟨"java/util/List", "remove", "(I)Ljava/lang/Object;"⟩, yJx4a65c_remove_915e3), (RJx4a65c, ⟨"java/util/List", "set", "(ILjava/lang/Object;)Ljava/lang/Object;"⟩, yJx4a65c_set_bcc79), (RJx4a65c, ⟨"java/util/List", "size", "()I"⟩, yJx4a65c_size_8abf5)]
def tkF : List (String × Nat × String × String × String × String) := [(RJx35411, 28, "java/util/ArrayList", "size", "I", "java/util/ArrayList"), (RX13, 42, "PopupwrightModel$Crease", "i", "I", "PopupwrightModel"), (RX13, 47, "PopupwrightModel$Crease", "j", "I", "PopupwrightModel"), (RX13, 65, "PopupwrightModel$Crease", "maker", "LPopupwrightModel$Fold;", "PopupwrightModel"), (RX16, 38, "PopupwrightModel", "C", "[I", "PopupwrightModel"), (RX16, 45, "PopupwrightModel", "S", "[I", "PopupwrightModel"), (RX17, 122, "PopupwrightModel$Fold", "low", "I", "PopupwrightModel"), (RX17, 125, "PopupwrightModel$Fold", "high", "I", "PopupwrightModel"), (RX17, 128, "PopupwrightModel$Fold", "arms", "[I", "PopupwrightModel"), (RX17, 132, "PopupwrightModel$Fold", "lows", "[I", "PopupwrightModel"), (RX17, 135, "PopupwrightModel$Fold", "highs", "[I", "PopupwrightModel"), (RX17, 149, "PopupwrightModel$Strip", "length", "I", "PopupwrightModel"), (RX17, 203, "PopupwrightModel$Strip", "number", "I", "PopupwrightModel"), (RX17, 220, "PopupwrightModel$Strip", "low", "I", "PopupwrightModel"), (RX17, 221, "PopupwrightModel$Strip", "high", "I", "PopupwrightModel"), (RX17, 230, "PopupwrightModel$Picture", "colour", "I", "PopupwrightModel"), (RX17, 233, "PopupwrightModel$Picture", "isDown", "Z", "PopupwrightModel"), (RX17, 236, "PopupwrightModel$Picture", "strip", "I", "PopupwrightModel"), (RX17, 238, "PopupwrightModel$Picture", "from", "I", "PopupwrightModel"), (RX17, 241, "PopupwrightModel$Picture", "to", "I", "PopupwrightModel"), (RX17, 244, "PopupwrightModel$Picture", "low", "I", "PopupwrightModel"), (RX17, 245, "PopupwrightModel$Picture", "high", "I", "PopupwrightModel"), (RX17, 256, "PopupwrightModel$Picture", "hasFlap", "Z", "PopupwrightModel"), (RX17, 270, "PopupwrightModel$Pull", "follower", "LPopupwrightModel$Pull;", "PopupwrightModel"), (RX17, 274, "PopupwrightModel$Pull", "follows", "Z", "PopupwrightModel"), (RX17, 280, "PopupwrightModel$Pull", "friction", "I", "PopupwrightModel"), (RX17, 286, "PopupwrightModel$Pull", "at", "I", "PopupwrightModel"), (RX17, 333, "PopupwrightModel$Fold", "tired", "I", "PopupwrightModel"), (RX17, 342, "PopupwrightModel$Fold", "mended", "I", "PopupwrightModel"), (RX17, 85, "PopupwrightModel$Crease", "i", "I", "PopupwrightModel"), (RX17, 88, "PopupwrightModel$Crease", "j", "I", "PopupwrightModel"), (RX17, 91, "PopupwrightModel$Crease", "left", "I", "PopupwrightModel"), (RX17, 94, "PopupwrightModel$Crease", "right", "I", "PopupwrightModel"), (RX17, 97, "PopupwrightModel$Fold", "number", "I", "PopupwrightModel")]
def tkA : List String := ["Popupwright$Crease", "Popupwright$Fold", "Popupwright$Picture", "Popupwright$Pull", "Popupwright$Strip", "java/lang/Object"]
def tkC : List (String × Nat × String) := [(RL, 13, "java/lang/IllegalArgumentException"), (RL, 19, "java/lang/IndexOutOfBoundsException"), (RL, 21, "java/lang/IllegalStateException"), (RL, 31, "java/lang/UnsupportedOperationException"), (RL, 55, "java/util/NoSuchElementException"), (RL, 163, "java/lang/ArithmeticException")]
abbrev NSEc : String := "java/util/NoSuchElementException"
abbrev NSEs : String := "java/lang/RuntimeException"
def nseRx : ByteArray := ⟨#[0x2a, 0x2b, 0xb7, 0x00, 0x0d, 0xb1]⟩
def nxAt : List Cond := nx_at RX11 187 NSEc NSEs 13 nseRx ["java/lang/Exception"]
def nxW : List Cond := nxAt.filter goodWord
theorem nxW_ok : ∀ w ∈ nxW, w.onTables = true ∧ w.keeps = true := by decide +kernel
/-- what the printed words say of that constructor, and no table says -/
def LF : List Cond := [.code (Bundle.initS NSEc) Bundle.six 2 none, .methodLink NSEc 7 (Bundle.initS NSEs)]
def nsF (h : Cond) (ws : List Cond) : List Cond := h :: ws.tail.filter (fun w => decide (w ∉ LF))
theorem nsF_mem {ws t : List Cond} {h w : Cond} (e : ws = h :: t) (hh : h ∉ LF) (hw : w ∈ nsF h ws) : w ∈ ws ∧ w ∉ LF := by
  subst e
  rcases List.mem_cons.mp hw with rfl | hw
  · exact ⟨List.mem_cons_self, hh⟩
  · have q := List.mem_filter.mp hw
    exact ⟨List.mem_cons_of_mem _ q.1, of_decide_eq_true q.2⟩
theorem mem_nsF {ws t : List Cond} {h w : Cond} (e : ws = h :: t) (hw : w ∈ ws) (hn : w ∉ LF) : w ∈ nsF h ws := by
  subst e
  rcases List.mem_cons.mp hw with rfl | hw
  · exact List.mem_cons_self
  · exact List.mem_cons_of_mem _ (List.mem_filter.mpr ⟨hw, decide_eq_true hn⟩)
theorem gn_big {ws ws' t : List Cond} {h : Cond} (e : ws = h :: t) (g : GoodIn ws ws') (hn : ∀ w ∈ ws', w ∉ LF) : GoodIn (nsF h ws) ws' := fun w hw => ⟨mem_nsF e (g w hw).1 (hn w hw), (g w hw).2⟩
theorem gn_both {ws ws' t t' : List Cond} {h h' : Cond} (e : ws = h :: t) (e' : ws' = h' :: t') (hh : h' ∉ LF) (g : GoodIn ws ws') : GoodIn (nsF h ws) (nsF h' ws') := fun w hw => have q := nsF_mem e' hh hw; ⟨mem_nsF e (g w q.1).1 q.2, (g w q.1).2⟩
theorem tkW_ok : ∀ q ∈ tkW, q.2.1.cls ≠ "java/lang/invoke/MethodHandle" ∧ q.2.1.cls ≠ "java/lang/invoke/VarHandle" := by decide +kernel
/-- the class of arrays of int arrays, by what the tables say -/
def va_AOI (U : State) : Prop := (Cond.arrayOver (.array .int)).before #[] U = true
theorem aoi_idx (vm : Vm) (comp : ClassId) : (vm.bare.classes.findIdx? fun (x : Class) => match x.kind with | .array component _ => component == comp | _ => false) = (vm.classes.findIdx? fun (x : Class) => match x.kind with | .array component _ => component == comp | _ => false) := va_idx_bare vm comp
theorem va_AOI.moved {u U : State} (hvm : u.vm.Alike U.vm) (h : va_AOI u) : va_AOI U := by
  obtain ⟨comp, c, k, h1, h2, h3, h4, h5⟩ := arrayOverA_spec h
  obtain ⟨k', hk', he⟩ := hvm.2.2 _ _ h3
  have hi : (U.vm.classes.findIdx? fun (x : Class) => match x.kind with | .array component _ => component == comp | _ => false) = some c := by
    rw [← aoi_idx]
    first | rw [hvm.bare_eq] | rw [← hvm.bare_eq]
    rw [aoi_idx]
    exact h2
  have hkind : k'.kind = .array comp (.array .int) := by rw [he]; exact h4
  have f1 : U.vm.findClass (FieldType.array .int).toString = some comp := by rw [hvm.findClass]; exact h1
  have f2 : U.vm.findClass ("[" ++ (FieldType.array .int).toString) = some c := by rw [hvm.findClass]; exact h5
  unfold va_AOI Cond.before Cond.holds
  simp only [Cond.value]
  rw [f1, Option.bind_some]
  refine (congrArg (fun o : Option Nat => (o.bind (fun c => (U.vm.classes[c]?).map fun (k : Class) => match k.kind with | .array _ ty => decide (ty = FieldType.array .int) && decide (U.vm.findClass ("[" ++ (FieldType.array .int).toString) = some c) | _ => false) == some true)) hi).trans ?_
  simp [hk', hkind, f2]
def TK (U : State) : Prop := (∀ E ∈ tkE, va_Nw (.castable E E) U) ∧ (∀ Y ∈ tkY, va_Nw (.declares Y) U) ∧ (∀ q ∈ tkN, va_Nc q.1 q.2 U) ∧ (∀ q ∈ tkS, ∃ sa : Nat, vk_R q.1 q.2.1 q.2.2 sa U) ∧ (∀ q ∈ tkM, va_Nw (.methodLinkNest q.1 q.2.1 q.2.2.1 q.2.2.2) U) ∧ (∀ q ∈ tkW, va_Fw q.1 q.2.1 q.2.2 U) ∧ (∀ q ∈ tkF, va_Nw (.fieldLinkNest q.1 q.2.1 q.2.2.1 q.2.2.2.1 q.2.2.2.2.1 q.2.2.2.2.2) U) ∧ (∀ C ∈ tkA, va_AO C U) ∧ va_AOI U ∧ va_Nw (.castable "PopupwrightModel$Crease" "java/lang/Object") U ∧ (∀ q ∈ tkC, va_Nw (.classLink q.1 q.2.1 q.2.2) U) ∧ (∀ w ∈ nxW, va_Nw w U)
theorem TK.warm {s U : State} (hW : s.WarmedH U.vm) (h : TK s) : TK U := by
  obtain ⟨h1, h2, h3, h4, h5, h6, h7, h8, h9, h10, h11, h12⟩ := h
  refine ⟨fun E hE => va_Nw.warmC hW (h1 E hE), fun Y hY => va_Nw.warmD hW (h2 Y hY), fun q hq => va_Nc.moved hW.alike (h3 q hq), fun q hq => ?_, fun q hq => va_Nw.warmM hW (h5 q hq), fun q hq => va_Fw.moved (tkW_ok q hq) hW.alike (h6 q hq), fun q hq => va_Nw.warmF hW (h7 q hq), fun C hC => va_AO.moved hW.alike (h8 C hC), va_AOI.moved hW.alike h9, va_Nw.warmC hW h10, fun q hq => Cond.onTables_warm (T := U) hW rfl rfl (h11 q hq), fun w hw => Cond.onTables_warm (T := U) hW (nxW_ok w hw).1 (nxW_ok w hw).2 (h12 w hw)⟩
  obtain ⟨sa, ha⟩ := h4 q hq
  exact ⟨sa, vk_R.warm hW ha⟩
abbrev zDE : String := "DEFAULTCAPACITY_EMPTY_ELEMENTDATA"
def ZA (A : Nat → Prop) (U : State) (H : Heap) : Prop := ∃ (t : Nat) (f : Nat → Int32), va_Z "Popupwright" "ALONG" "[I" (.ref t) A U H ∧ va_T .int t 19 (fun j => .int (f j)) A U H
def ZK (de : Nat) (A : Nat → Prop) (U : State) (H : Heap) : Prop := vx_Zq Bundle.tN "UNASSIGNED_STACK" Bundle.steD A U H ∧ vx_Zq Bundle.tN "SUPPRESSED_SENTINEL" Bundle.listD A U H ∧ va_Z "java/util/ArrayList" zDE "[Ljava/lang/Object;" (.ref de) A U H ∧ va_T (.object "java/lang/Object") de 0 (fun _ => .null) A U H ∧ ZA A U H
theorem ZK.moved {de : Nat} {A : Nat → Prop} {u U : State} {H : Heap} (hvm : u.vm.Alike U.vm) (h : ZK de A u H) : ZK de A U H := by
  obtain ⟨h1, h2, h3, h6, t, f, h4, h5⟩ := h
  exact ⟨vx_Zq.moved hvm h1, vx_Zq.moved hvm h2, va_Z.moved hvm h3, va_T.moved hvm h6, t, f, va_Z.moved hvm h4, va_T.moved hvm h5⟩
theorem ZK.kept {de : Nat} {A : Nat → Prop} {U : State} {H H1 : Heap} (h : ZK de A U H) (hq : ∀ a : Nat, a < H.size → ¬ A a → H1[a]? = H[a]?) : ZK de A U H1 := by
  obtain ⟨h1, h2, h3, h6, t, f, h4, h5⟩ := h
  exact ⟨vx_Zq.kept h1 hq, vx_Zq.kept h2 hq, va_Z.kept h3 hq, va_T.kept h6 hq, t, f, va_Z.kept h4 hq, va_T.kept h5 hq⟩
theorem ZK.narrow {de : Nat} {A B : Nat → Prop} {U : State} {H : Heap} (h : ZK de A U H) (hAB : ∀ q, B q → A q) : ZK de B U H := by
  obtain ⟨h1, h2, h3, h6, t, f, h4, h5⟩ := h
  exact ⟨vx_Zq.narrow h1 hAB, vx_Zq.narrow h2 hAB, va_Z.narrow h3 hAB, va_T.narrow h6 hAB, t, f, va_Z.narrow h4 hAB, va_T.narrow h5 hAB⟩
abbrev TyL : Type := List (ClassId × FieldType)
/-- what holds at a method's start -/
def PX (de : Nat) (D : va_G) (tys : TyL) (ws : va_W) (sz : Nat) (U : State) : Prop := U.heap.size = sz ∧ va_P D vwCl ws U.heap ∧ va_K D vwCl tys U ∧ va_D (fun _ => True) ws ∧ TK U ∧ ZK de (va_A ws sz) U U.heap
/-- a world behind a method -/
def PW (D : va_G) (tys : TyL) (A : Nat → Prop) (ws : va_W) (t : State) : Prop := va_P D vwCl ws t.heap ∧ va_K D vwCl tys t ∧ va_D A ws
theorem px_blind {av : List Value} {de : Nat} {D : va_G} {tys : TyL} {ws : va_W} {sz : Nat} : FrameBlind (va_Pc av (PX de D tys ws sz)) := by
  intro a U g mk h
  obtain ⟨h0, h1, h2, h3, h4, h5, h6⟩ := h
  exact ⟨h0, h1, h2, va_K.moved (u := U) (U := U.calling g mk a) (Vm.Alike.refl U.vm) h3, h4, TK.warm (s := U) (U := U.calling g mk a) (State.WarmedH.refl U) h5, ZK.moved (u := U) (U := U.calling g mk a) (Vm.Alike.refl U.vm) h6⟩
theorem px_pre {av : List Value} {de : Nat} {s : State} {D : va_G} {tys tysC : TyL} {ws wc : va_W} {A : Nat → Prop} {H : Heap} {locs : List Loc} (hP : va_P D vwCl ws H) (hD : va_D A ws) (hK : va_K D vwCl tys s) (hS : va_S A s.heap H locs) (hA : ∀ q, s.heap.size ≤ q → A q) (hTK : TK s) (hZ : ZK de A s s.heap) (isC : List Nat) (hC : isC.map (fun i => ws[i]?) = wc.map some) (hC2 : isC.filterMap (fun i => ws[i]?) = wc) (hn : va_nd isC = true) (isT : List Nat) (hT : isT.filterMap (fun i => tys[i]?) = tysC) :
    ∀ U : State, U.heap = H → s.WarmedH U.vm → va_Pc av (PX de D tysC wc H.size) av.toArray U := by
  intro U hU hW
  refine ⟨rfl, by rw [hU], by rw [hU]; exact hP.sub isC hC2, va_K.moved hW.alike (hK.sub isT hT), (hD.sub isC hn hC).weaken (fun _ _ _ _ => trivial), TK.warm hW hTK, ?_⟩
  rw [hU]
  exact ZK.moved hW.alike ((hZ.kept hS.2.1).narrow (va_free hD hS hA isC hC))
section KX
variable {p : Program} {l : Launch} {e : Env} {R : Room} {s : State} {m : MethodId} {args : Array Value} {below : List Frame} {meth : Method} {c : Code} {H : Heap} {locs : List Loc} {cells slots : Nat} {Q : State → Prop}
variable {pc : Nat} {ls : Array Slot} {rest st0 : List Value} {a : Array Value} {A : Nat → Prop} {mc ms : Nat}
variable {D : va_G} {ws wc wr : va_W} {tys : TyL}
/-- behind a call that returns an int -/
theorem kx_i {S : Type} {post : Int32 → S → Prop} {w1 : S → va_W} {t1 : S → TyL} (hP : va_P D vwCl ws H) (hD : va_D A ws) (hS : va_S A s.heap H locs) (hA : ∀ q, s.heap.size ≤ q → A q) (isC isR : List Nat) (hC : isC.map (fun i => ws[i]?) = wc.map some) (hR : isR.map (fun i => ws[i]?) = wr.map some) (hn : va_nd isR = true) (hdis : ∀ i ∈ isR, i ∉ isC)
    (hr : va_Run p l e R s m args below meth c H locs cells slots mc ms (F0 m pc ls st0) rest (va_Qi post (fun u t => PW D (t1 u) (va_A wc H.size) (w1 u) t) (va_A wc H.size) a) (va_A wc H.size))
    (kk : ∀ (r : Int32) (u : S) (H1 : Heap) (locs1 : List Loc), post r u → va_P D vwCl (wr ++ w1 u) H1 → va_D A (wr ++ w1 u) → va_K D vwCl (t1 u) s → va_S A s.heap H1 locs1 → W p l e R s m args below meth c H1 locs1 (cells + mc) (slots + ms) Q (F0 m (pc + 3) ls (.int r :: rest))) : W p l e R s m args below meth c H locs cells slots Q (F0 m pc ls st0) := by
  have hF := va_free hD hS hA isC hC
  refine va_calli hr hS (fun q _ h => hF q h) hF (fun r u t H1 locs1 ht hvm hp hB _ hk hS1 => ?_)
  obtain ⟨hP1, hK1, hD1⟩ := hB
  rw [ht] at hP1
  obtain ⟨hP2, hD2⟩ := va_join hP hD isC isR hC hR hn hdis hk hF hP1 hD1
  exact kk r u H1 locs1 hp hP2 hD2 (va_K.moved hvm.symm hK1) hS1
theorem kx_l {S : Type} {post : Int64 → S → Prop} {w1 : S → va_W} {t1 : S → TyL} (hP : va_P D vwCl ws H) (hD : va_D A ws) (hS : va_S A s.heap H locs) (hA : ∀ q, s.heap.size ≤ q → A q) (isC isR : List Nat) (hC : isC.map (fun i => ws[i]?) = wc.map some) (hR : isR.map (fun i => ws[i]?) = wr.map some) (hn : va_nd isR = true) (hdis : ∀ i ∈ isR, i ∉ isC)
    (hr : va_Run p l e R s m args below meth c H locs cells slots mc ms (F0 m pc ls st0) rest (va_Ql post (fun u t => PW D (t1 u) (va_A wc H.size) (w1 u) t) (va_A wc H.size) a) (va_A wc H.size))
    (kk : ∀ (r : Int64) (u : S) (H1 : Heap) (locs1 : List Loc), post r u → va_P D vwCl (wr ++ w1 u) H1 → va_D A (wr ++ w1 u) → va_K D vwCl (t1 u) s → va_S A s.heap H1 locs1 → W p l e R s m args below meth c H1 locs1 (cells + mc) (slots + ms) Q (F0 m (pc + 3) ls (.long r :: rest))) : W p l e R s m args below meth c H locs cells slots Q (F0 m pc ls st0) := by
  have hF := va_free hD hS hA isC hC
  refine va_calll hr hS (fun q _ h => hF q h) hF (fun r u t H1 locs1 ht hvm hp hB _ hk hS1 => ?_)
  obtain ⟨hP1, hK1, hD1⟩ := hB
  rw [ht] at hP1
  obtain ⟨hP2, hD2⟩ := va_join hP hD isC isR hC hR hn hdis hk hF hP1 hD1
  exact kk r u H1 locs1 hp hP2 hD2 (va_K.moved hvm.symm hK1) hS1
theorem kx_f {S : Type} {post : UInt32 → S → Prop} {w1 : S → va_W} {t1 : S → TyL} (hP : va_P D vwCl ws H) (hD : va_D A ws) (hS : va_S A s.heap H locs) (hA : ∀ q, s.heap.size ≤ q → A q) (isC isR : List Nat) (hC : isC.map (fun i => ws[i]?) = wc.map some) (hR : isR.map (fun i => ws[i]?) = wr.map some) (hn : va_nd isR = true) (hdis : ∀ i ∈ isR, i ∉ isC)
    (hr : va_Run p l e R s m args below meth c H locs cells slots mc ms (F0 m pc ls st0) rest (va_Qf post (fun u t => PW D (t1 u) (va_A wc H.size) (w1 u) t) (va_A wc H.size) a) (va_A wc H.size))
    (kk : ∀ (r : UInt32) (u : S) (H1 : Heap) (locs1 : List Loc), post r u → va_P D vwCl (wr ++ w1 u) H1 → va_D A (wr ++ w1 u) → va_K D vwCl (t1 u) s → va_S A s.heap H1 locs1 → W p l e R s m args below meth c H1 locs1 (cells + mc) (slots + ms) Q (F0 m (pc + 3) ls (.float r :: rest))) : W p l e R s m args below meth c H locs cells slots Q (F0 m pc ls st0) := by
  have hF := va_free hD hS hA isC hC
  refine va_callf hr hS (fun q _ h => hF q h) hF (fun r u t H1 locs1 ht hvm hp hB _ hk hS1 => ?_)
  obtain ⟨hP1, hK1, hD1⟩ := hB
  rw [ht] at hP1
  obtain ⟨hP2, hD2⟩ := va_join hP hD isC isR hC hR hn hdis hk hF hP1 hD1
  exact kk r u H1 locs1 hp hP2 hD2 (va_K.moved hvm.symm hK1) hS1
theorem kx_d {S : Type} {post : UInt64 → S → Prop} {w1 : S → va_W} {t1 : S → TyL} (hP : va_P D vwCl ws H) (hD : va_D A ws) (hS : va_S A s.heap H locs) (hA : ∀ q, s.heap.size ≤ q → A q) (isC isR : List Nat) (hC : isC.map (fun i => ws[i]?) = wc.map some) (hR : isR.map (fun i => ws[i]?) = wr.map some) (hn : va_nd isR = true) (hdis : ∀ i ∈ isR, i ∉ isC)
    (hr : va_Run p l e R s m args below meth c H locs cells slots mc ms (F0 m pc ls st0) rest (va_Qd post (fun u t => PW D (t1 u) (va_A wc H.size) (w1 u) t) (va_A wc H.size) a) (va_A wc H.size))
    (kk : ∀ (r : UInt64) (u : S) (H1 : Heap) (locs1 : List Loc), post r u → va_P D vwCl (wr ++ w1 u) H1 → va_D A (wr ++ w1 u) → va_K D vwCl (t1 u) s → va_S A s.heap H1 locs1 → W p l e R s m args below meth c H1 locs1 (cells + mc) (slots + ms) Q (F0 m (pc + 3) ls (.double r :: rest))) : W p l e R s m args below meth c H locs cells slots Q (F0 m pc ls st0) := by
  have hF := va_free hD hS hA isC hC
  refine va_calld hr hS (fun q _ h => hF q h) hF (fun r u t H1 locs1 ht hvm hp hB _ hk hS1 => ?_)
  obtain ⟨hP1, hK1, hD1⟩ := hB
  rw [ht] at hP1
  obtain ⟨hP2, hD2⟩ := va_join hP hD isC isR hC hR hn hdis hk hF hP1 hD1
  exact kk r u H1 locs1 hp hP2 hD2 (va_K.moved hvm.symm hK1) hS1
theorem kx_v {S : Type} {post : S → Prop} {w1 : S → va_W} {t1 : S → TyL} (hP : va_P D vwCl ws H) (hD : va_D A ws) (hS : va_S A s.heap H locs) (hA : ∀ q, s.heap.size ≤ q → A q) (isC isR : List Nat) (hC : isC.map (fun i => ws[i]?) = wc.map some) (hR : isR.map (fun i => ws[i]?) = wr.map some) (hn : va_nd isR = true) (hdis : ∀ i ∈ isR, i ∉ isC)
    (hr : va_Run p l e R s m args below meth c H locs cells slots mc ms (F0 m pc ls st0) rest (va_Qv post (fun u t => PW D (t1 u) (va_A wc H.size) (w1 u) t) (va_A wc H.size) a) (va_A wc H.size))
    (kk : ∀ (u : S) (H1 : Heap) (locs1 : List Loc), post u → va_P D vwCl (wr ++ w1 u) H1 → va_D A (wr ++ w1 u) → va_K D vwCl (t1 u) s → va_S A s.heap H1 locs1 → W p l e R s m args below meth c H1 locs1 (cells + mc) (slots + ms) Q (F0 m (pc + 3) ls rest)) : W p l e R s m args below meth c H locs cells slots Q (F0 m pc ls st0) := by
  have hF := va_free hD hS hA isC hC
  refine va_callv hr hS (fun q _ h => hF q h) hF (fun u t H1 locs1 ht hvm hp hB _ hk hS1 => ?_)
  obtain ⟨hP1, hK1, hD1⟩ := hB
  rw [ht] at hP1
  obtain ⟨hP2, hD2⟩ := va_join hP hD isC isR hC hR hn hdis hk hF hP1 hD1
  exact kk u H1 locs1 hp hP2 hD2 (va_K.moved hvm.symm hK1) hS1
theorem kx_q {S : Type} {post : Option Nat → S → Prop} {w1 : S → va_W} {t1 : S → TyL} (hP : va_P D vwCl ws H) (hD : va_D A ws) (hS : va_S A s.heap H locs) (hA : ∀ q, s.heap.size ≤ q → A q) (isC isR : List Nat) (hC : isC.map (fun i => ws[i]?) = wc.map some) (hR : isR.map (fun i => ws[i]?) = wr.map some) (hn : va_nd isR = true) (hdis : ∀ i ∈ isR, i ∉ isC)
    (hr : va_Run p l e R s m args below meth c H locs cells slots mc ms (F0 m pc ls st0) rest (va_Qq post (fun u t => PW D (t1 u) (va_A wc H.size) (w1 u) t) (va_A wc H.size) a) (va_A wc H.size))
    (kk : ∀ (r : Option Nat) (u : S) (H1 : Heap) (locs1 : List Loc), post r u → va_P D vwCl (wr ++ w1 u) H1 → va_D A (wr ++ w1 u) → va_K D vwCl (t1 u) s → va_S A s.heap H1 locs1 → W p l e R s m args below meth c H1 locs1 (cells + mc) (slots + ms) Q (F0 m (pc + 3) ls (va_rf r :: rest))) : W p l e R s m args below meth c H locs cells slots Q (F0 m pc ls st0) := by
  have hF := va_free hD hS hA isC hC
  refine va_callq hr hS (fun q _ h => hF q h) hF (fun r u t H1 locs1 ht hvm hp hB _ hk hS1 => ?_)
  obtain ⟨hP1, hK1, hD1⟩ := hB
  rw [ht] at hP1
  obtain ⟨hP2, hD2⟩ := va_join hP hD isC isR hC hR hn hdis hk hF hP1 hD1
  exact kk r u H1 locs1 hp hP2 hD2 (va_K.moved hvm.symm hK1) hS1
theorem kx_Fi {S : Type} {post : Int32 → S → Prop} {w1 : S → va_W} {t1 : S → TyL} (hP : va_P D vwCl ws H) (hD : va_D A ws) (hS : va_S A s.heap H locs) (hA : ∀ q, s.heap.size ≤ q → A q) (isC isR : List Nat) (hC : isC.map (fun i => ws[i]?) = wc.map some) (hR : isR.map (fun i => ws[i]?) = wr.map some) (hn : va_nd isR = true) (hdis : ∀ i ∈ isR, i ∉ isC)
    (hr : va_Run5 p l e R s m args below meth c H locs cells slots mc ms (F0 m pc ls st0) rest (va_Qi post (fun u t => PW D (t1 u) (va_A wc H.size) (w1 u) t) (va_A wc H.size) a) (va_A wc H.size))
    (kk : ∀ (r : Int32) (u : S) (H1 : Heap) (locs1 : List Loc), post r u → va_P D vwCl (wr ++ w1 u) H1 → va_D A (wr ++ w1 u) → va_K D vwCl (t1 u) s → va_S A s.heap H1 locs1 → W p l e R s m args below meth c H1 locs1 (cells + mc) (slots + ms) Q (F0 m (pc + 5) ls (.int r :: rest))) : W p l e R s m args below meth c H locs cells slots Q (F0 m pc ls st0) := by
  have hF := va_free hD hS hA isC hC
  refine va_callFi hr hS (fun q _ h => hF q h) hF (fun r u t H1 locs1 ht hvm hp hB _ hk hS1 => ?_)
  obtain ⟨hP1, hK1, hD1⟩ := hB
  rw [ht] at hP1
  obtain ⟨hP2, hD2⟩ := va_join hP hD isC isR hC hR hn hdis hk hF hP1 hD1
  exact kk r u H1 locs1 hp hP2 hD2 (va_K.moved hvm.symm hK1) hS1
theorem kx_Fv {S : Type} {post : S → Prop} {w1 : S → va_W} {t1 : S → TyL} (hP : va_P D vwCl ws H) (hD : va_D A ws) (hS : va_S A s.heap H locs) (hA : ∀ q, s.heap.size ≤ q → A q) (isC isR : List Nat) (hC : isC.map (fun i => ws[i]?) = wc.map some) (hR : isR.map (fun i => ws[i]?) = wr.map some) (hn : va_nd isR = true) (hdis : ∀ i ∈ isR, i ∉ isC)
    (hr : va_Run5 p l e R s m args below meth c H locs cells slots mc ms (F0 m pc ls st0) rest (va_Qv post (fun u t => PW D (t1 u) (va_A wc H.size) (w1 u) t) (va_A wc H.size) a) (va_A wc H.size))
    (kk : ∀ (u : S) (H1 : Heap) (locs1 : List Loc), post u → va_P D vwCl (wr ++ w1 u) H1 → va_D A (wr ++ w1 u) → va_K D vwCl (t1 u) s → va_S A s.heap H1 locs1 → W p l e R s m args below meth c H1 locs1 (cells + mc) (slots + ms) Q (F0 m (pc + 5) ls rest)) : W p l e R s m args below meth c H locs cells slots Q (F0 m pc ls st0) := by
  have hF := va_free hD hS hA isC hC
  refine va_callFv hr hS (fun q _ h => hF q h) hF (fun u t H1 locs1 ht hvm hp hB _ hk hS1 => ?_)
  obtain ⟨hP1, hK1, hD1⟩ := hB
  rw [ht] at hP1
  obtain ⟨hP2, hD2⟩ := va_join hP hD isC isR hC hR hn hdis hk hF hP1 hD1
  exact kk u H1 locs1 hp hP2 hD2 (va_K.moved hvm.symm hK1) hS1
theorem kx_Fq {S : Type} {post : Option Nat → S → Prop} {w1 : S → va_W} {t1 : S → TyL} (hP : va_P D vwCl ws H) (hD : va_D A ws) (hS : va_S A s.heap H locs) (hA : ∀ q, s.heap.size ≤ q → A q) (isC isR : List Nat) (hC : isC.map (fun i => ws[i]?) = wc.map some) (hR : isR.map (fun i => ws[i]?) = wr.map some) (hn : va_nd isR = true) (hdis : ∀ i ∈ isR, i ∉ isC)
    (hr : va_Run5 p l e R s m args below meth c H locs cells slots mc ms (F0 m pc ls st0) rest (va_Qq post (fun u t => PW D (t1 u) (va_A wc H.size) (w1 u) t) (va_A wc H.size) a) (va_A wc H.size))
    (kk : ∀ (r : Option Nat) (u : S) (H1 : Heap) (locs1 : List Loc), post r u → va_P D vwCl (wr ++ w1 u) H1 → va_D A (wr ++ w1 u) → va_K D vwCl (t1 u) s → va_S A s.heap H1 locs1 → W p l e R s m args below meth c H1 locs1 (cells + mc) (slots + ms) Q (F0 m (pc + 5) ls (va_rf r :: rest))) : W p l e R s m args below meth c H locs cells slots Q (F0 m pc ls st0) := by
  have hF := va_free hD hS hA isC hC
  refine va_callFq hr hS (fun q _ h => hF q h) hF (fun r u t H1 locs1 ht hvm hp hB _ hk hS1 => ?_)
  obtain ⟨hP1, hK1, hD1⟩ := hB
  rw [ht] at hP1
  obtain ⟨hP2, hD2⟩ := va_join hP hD isC isR hC hR hn hdis hk hF hP1 hD1
  exact kk r u H1 locs1 hp hP2 hD2 (va_K.moved hvm.symm hK1) hS1
end KX
/-- what a method that throws says of it: the class by its name -/
def XN (P : String → Prop) (A : Nat → Prop) : String → State → State → Prop := vx_X (fun _ : Unit => True) (fun E _ _ => P E) A
section KT
variable {p : Program} {l : Launch} {e : Env} {R : Room} {s : State} {m : MethodId} {args : Array Value} {below : List Frame} {meth : Method} {c : Code} {H : Heap} {locs : List Loc} {cells slots : Nat} {Q : State → Prop}
variable {pc : Nat} {ls : Array Slot} {rest st0 : List Value} {a : Array Value} {A : Nat → Prop} {mc ms : Nat}
variable {D : va_G} {ws wc wr : va_W} {tys : TyL} {PE : String → Prop}
/-- what a thrown thing is, seen by the caller -/
def Thrown (s : State) (H : Heap) (E : String) (q : Nat) : Prop := ∃ ce : Cell, H[q]? = some ce ∧ ce.vm = .none ∧ s.vm.findClass E = some ce.cls
theorem kt_i {S : Type} {post : Int32 → S → Prop} {w1 : S → va_W} {t1 : S → TyL} (hP : va_P D vwCl ws H) (hD : va_D A ws) (hS : va_S A s.heap H locs) (hA : ∀ q, s.heap.size ≤ q → A q) (isC isR : List Nat) (hC : isC.map (fun i => ws[i]?) = wc.map some) (hR : isR.map (fun i => ws[i]?) = wr.map some) (hn : va_nd isR = true) (hdis : ∀ i ∈ isR, i ∉ isC)
    (hr : vx_Run p l e R s m args below meth c H locs cells slots mc ms (F0 m pc ls st0) rest (va_Qi post (fun u t => PW D (t1 u) (va_A wc H.size) (w1 u) t) (va_A wc H.size) a) (XN PE (va_A wc H.size)) (va_A wc H.size))
    (kx : ∀ (E : String) (q9 : Nat) (H1 : Heap) (locs1 : List Loc), PE E → Thrown s H1 E q9 → va_P D vwCl wr H1 → va_D A wr → va_S A s.heap H1 locs1 → vx_W p l e R s m args below meth c H1 locs1 (cells + mc) (slots + ms) Q (F0 m pc ls rest) q9)
    (kk : ∀ (r : Int32) (u : S) (H1 : Heap) (locs1 : List Loc), post r u → va_P D vwCl (wr ++ w1 u) H1 → va_D A (wr ++ w1 u) → va_K D vwCl (t1 u) s → va_S A s.heap H1 locs1 → W p l e R s m args below meth c H1 locs1 (cells + mc) (slots + ms) Q (F0 m (pc + 3) ls (.int r :: rest))) : W p l e R s m args below meth c H locs cells slots Q (F0 m pc ls st0) := by
  have hF := va_free hD hS hA isC hC
  refine vx_calli hr hS (fun q _ h => hF q h) hF (fun q _ h => hF q h) (fun E ce q9 u t H1 locs1 ht hvm hp hB _ hk hS1 h1 h2 h3 => ?_) (fun r u t H1 locs1 ht hvm hp hB _ hk hS1 => ?_)
  · obtain ⟨hP2, hD2⟩ := va_join (w1 := []) hP hD isC isR hC hR hn hdis hk hF (fun k q h => by simp at h) ⟨fun i j p q h => by simp at h, fun k q h => by simp at h⟩
    rw [List.append_nil] at hP2 hD2
    exact kx E q9 H1 locs1 hB ⟨ce, h1, h2, h3⟩ hP2 hD2 hS1
  · obtain ⟨hP1, hK1, hD1⟩ := hB
    rw [ht] at hP1
    obtain ⟨hP2, hD2⟩ := va_join hP hD isC isR hC hR hn hdis hk hF hP1 hD1
    exact kk r u H1 locs1 hp hP2 hD2 (va_K.moved hvm.symm hK1) hS1
theorem kt_l {S : Type} {post : Int64 → S → Prop} {w1 : S → va_W} {t1 : S → TyL} (hP : va_P D vwCl ws H) (hD : va_D A ws) (hS : va_S A s.heap H locs) (hA : ∀ q, s.heap.size ≤ q → A q) (isC isR : List Nat) (hC : isC.map (fun i => ws[i]?) = wc.map some) (hR : isR.map (fun i => ws[i]?) = wr.map some) (hn : va_nd isR = true) (hdis : ∀ i ∈ isR, i ∉ isC)
    (hr : vx_Run p l e R s m args below meth c H locs cells slots mc ms (F0 m pc ls st0) rest (va_Ql post (fun u t => PW D (t1 u) (va_A wc H.size) (w1 u) t) (va_A wc H.size) a) (XN PE (va_A wc H.size)) (va_A wc H.size))
    (kx : ∀ (E : String) (q9 : Nat) (H1 : Heap) (locs1 : List Loc), PE E → Thrown s H1 E q9 → va_P D vwCl wr H1 → va_D A wr → va_S A s.heap H1 locs1 → vx_W p l e R s m args below meth c H1 locs1 (cells + mc) (slots + ms) Q (F0 m pc ls rest) q9)
    (kk : ∀ (r : Int64) (u : S) (H1 : Heap) (locs1 : List Loc), post r u → va_P D vwCl (wr ++ w1 u) H1 → va_D A (wr ++ w1 u) → va_K D vwCl (t1 u) s → va_S A s.heap H1 locs1 → W p l e R s m args below meth c H1 locs1 (cells + mc) (slots + ms) Q (F0 m (pc + 3) ls (.long r :: rest))) : W p l e R s m args below meth c H locs cells slots Q (F0 m pc ls st0) := by
  have hF := va_free hD hS hA isC hC
  refine vx_calll hr hS (fun q _ h => hF q h) hF (fun q _ h => hF q h) (fun E ce q9 u t H1 locs1 ht hvm hp hB _ hk hS1 h1 h2 h3 => ?_) (fun r u t H1 locs1 ht hvm hp hB _ hk hS1 => ?_)
  · obtain ⟨hP2, hD2⟩ := va_join (w1 := []) hP hD isC isR hC hR hn hdis hk hF (fun k q h => by simp at h) ⟨fun i j p q h => by simp at h, fun k q h => by simp at h⟩
    rw [List.append_nil] at hP2 hD2
    exact kx E q9 H1 locs1 hB ⟨ce, h1, h2, h3⟩ hP2 hD2 hS1
  · obtain ⟨hP1, hK1, hD1⟩ := hB
    rw [ht] at hP1
    obtain ⟨hP2, hD2⟩ := va_join hP hD isC isR hC hR hn hdis hk hF hP1 hD1
    exact kk r u H1 locs1 hp hP2 hD2 (va_K.moved hvm.symm hK1) hS1
theorem kt_f {S : Type} {post : UInt32 → S → Prop} {w1 : S → va_W} {t1 : S → TyL} (hP : va_P D vwCl ws H) (hD : va_D A ws) (hS : va_S A s.heap H locs) (hA : ∀ q, s.heap.size ≤ q → A q) (isC isR : List Nat) (hC : isC.map (fun i => ws[i]?) = wc.map some) (hR : isR.map (fun i => ws[i]?) = wr.map some) (hn : va_nd isR = true) (hdis : ∀ i ∈ isR, i ∉ isC)
    (hr : vx_Run p l e R s m args below meth c H locs cells slots mc ms (F0 m pc ls st0) rest (va_Qf post (fun u t => PW D (t1 u) (va_A wc H.size) (w1 u) t) (va_A wc H.size) a) (XN PE (va_A wc H.size)) (va_A wc H.size))
    (kx : ∀ (E : String) (q9 : Nat) (H1 : Heap) (locs1 : List Loc), PE E → Thrown s H1 E q9 → va_P D vwCl wr H1 → va_D A wr → va_S A s.heap H1 locs1 → vx_W p l e R s m args below meth c H1 locs1 (cells + mc) (slots + ms) Q (F0 m pc ls rest) q9)
    (kk : ∀ (r : UInt32) (u : S) (H1 : Heap) (locs1 : List Loc), post r u → va_P D vwCl (wr ++ w1 u) H1 → va_D A (wr ++ w1 u) → va_K D vwCl (t1 u) s → va_S A s.heap H1 locs1 → W p l e R s m args below meth c H1 locs1 (cells + mc) (slots + ms) Q (F0 m (pc + 3) ls (.float r :: rest))) : W p l e R s m args below meth c H locs cells slots Q (F0 m pc ls st0) := by
  have hF := va_free hD hS hA isC hC
  refine vx_callf hr hS (fun q _ h => hF q h) hF (fun q _ h => hF q h) (fun E ce q9 u t H1 locs1 ht hvm hp hB _ hk hS1 h1 h2 h3 => ?_) (fun r u t H1 locs1 ht hvm hp hB _ hk hS1 => ?_)
  · obtain ⟨hP2, hD2⟩ := va_join (w1 := []) hP hD isC isR hC hR hn hdis hk hF (fun k q h => by simp at h) ⟨fun i j p q h => by simp at h, fun k q h => by simp at h⟩
    rw [List.append_nil] at hP2 hD2
    exact kx E q9 H1 locs1 hB ⟨ce, h1, h2, h3⟩ hP2 hD2 hS1
  · obtain ⟨hP1, hK1, hD1⟩ := hB
    rw [ht] at hP1
    obtain ⟨hP2, hD2⟩ := va_join hP hD isC isR hC hR hn hdis hk hF hP1 hD1
    exact kk r u H1 locs1 hp hP2 hD2 (va_K.moved hvm.symm hK1) hS1
theorem vx_callq9 {S SX : Type} {post : Option Nat → S → Prop} {px : SX → Prop} {B : S → State → Prop} {BX : String → SX → State → Prop} {A0 A1 AX free : Nat → Prop} {H0 : Heap} (hr : vx_Run p l e R s m args below meth c H locs cells slots mc ms (F0 m pc ls st0) rest (va_Qq post B A1 a) (vx_X px BX AX) free) (hS : va_S A0 H0 H locs) (hA : ∀ q, q < H.size → A1 q → A0 q) (hf : ∀ q, free q → A0 q) (hAX : ∀ q, q < H.size → AX q → A0 q)
    (kx : ∀ (E : String) (ce : Cell) (q9 : Addr) (u : SX) (t : State) (H1 : Heap) (locs1 : List Loc), t.heap = H1 → s.vm.Alike t.vm → px u → BX E u t → H.size ≤ H1.size → (∀ q : Nat, q < H.size → ¬ AX q → H1[q]? = H[q]?) → va_S A0 H0 H1 locs1 → H1[q9]? = some ce → ce.vm = .none → s.vm.findClass E = some ce.cls → vx_W p l e R s m args below meth c H1 locs1 (cells + mc) (slots + ms) Q (F0 m pc ls rest) q9)
    (kk : ∀ (r : Option Nat) (u : S) (t : State) (H1 : Heap) (locs1 : List Loc), t.heap = H1 → s.vm.Alike t.vm → post r u → B u t → H.size ≤ H1.size → (∀ q : Nat, q < H.size → ¬ A1 q → H1[q]? = H[q]?) → va_S A0 H0 H1 locs1 → W p l e R s m args below meth c H1 locs1 (cells + mc) (slots + ms) Q (F0 m (pc + 3) ls (va_rf r :: rest))) : W p l e R s m args below meth c H locs cells slots Q (F0 m pc ls st0) := by
  intro T hT X
  rcases hr T hT X with ⟨v, st₀, t, T', L, h0, X', hL, e1, e2, ⟨⟨r, u, hv, hp, hb⟩, hF⟩, st⟩ | ⟨q, st₀, t, T', L, E, ce, h0, X', hL, e1, e2, ⟨u, hp, hb, hF⟩, hce, hcv, hcl, st⟩
  · cases hv
    obtain ⟨k1, k2, k3⟩ := vx_keep h0 e1 hS hA hf hL hF
    obtain ⟨t2, a1, b1⟩ := kk r u t T'.heap (locs ++ L) e1.symm (by rw [← e2]; exact X'.warmed.alike) hp hb k1 k2 k3 T' rfl X'
    exact ⟨t2, st t2 a1, b1⟩
  · obtain ⟨k1, k2, k3⟩ := vx_keep h0 e1 hS hAX hf hL hF
    obtain ⟨t2, a1, b1⟩ := kx E ce q u t T'.heap (locs ++ L) e1.symm (by rw [← e2]; exact X'.warmed.alike) hp hb k1 k2 k3 (by rw [e1]; exact hce) hcv hcl T' rfl X'
    exact ⟨t2, st.trans a1, b1⟩
theorem kt_q {S : Type} {post : Option Nat → S → Prop} {w1 : S → va_W} {t1 : S → TyL} (hP : va_P D vwCl ws H) (hD : va_D A ws) (hS : va_S A s.heap H locs) (hA : ∀ q, s.heap.size ≤ q → A q) (isC isR : List Nat) (hC : isC.map (fun i => ws[i]?) = wc.map some) (hR : isR.map (fun i => ws[i]?) = wr.map some) (hn : va_nd isR = true) (hdis : ∀ i ∈ isR, i ∉ isC)
    (hr : vx_Run p l e R s m args below meth c H locs cells slots mc ms (F0 m pc ls st0) rest (va_Qq post (fun u t => PW D (t1 u) (va_A wc H.size) (w1 u) t) (va_A wc H.size) a) (XN PE (va_A wc H.size)) (va_A wc H.size))
    (kx : ∀ (E : String) (q9 : Nat) (H1 : Heap) (locs1 : List Loc), PE E → Thrown s H1 E q9 → va_P D vwCl wr H1 → va_D A wr → va_S A s.heap H1 locs1 → vx_W p l e R s m args below meth c H1 locs1 (cells + mc) (slots + ms) Q (F0 m pc ls rest) q9)
    (kk : ∀ (r : Option Nat) (u : S) (H1 : Heap) (locs1 : List Loc), post r u → va_P D vwCl (wr ++ w1 u) H1 → va_D A (wr ++ w1 u) → va_K D vwCl (t1 u) s → va_S A s.heap H1 locs1 → W p l e R s m args below meth c H1 locs1 (cells + mc) (slots + ms) Q (F0 m (pc + 3) ls (va_rf r :: rest))) : W p l e R s m args below meth c H locs cells slots Q (F0 m pc ls st0) := by
  have hF := va_free hD hS hA isC hC
  refine vx_callq9 hr hS (fun q _ h => hF q h) hF (fun q _ h => hF q h) (fun E ce q9 u t H1 locs1 ht hvm hp hB _ hk hS1 h1 h2 h3 => ?_) (fun r u t H1 locs1 ht hvm hp hB _ hk hS1 => ?_)
  · obtain ⟨hP2, hD2⟩ := va_join (w1 := []) hP hD isC isR hC hR hn hdis hk hF (fun k q h => by simp at h) ⟨fun i j p q h => by simp at h, fun k q h => by simp at h⟩
    rw [List.append_nil] at hP2 hD2
    exact kx E q9 H1 locs1 hB ⟨ce, h1, h2, h3⟩ hP2 hD2 hS1
  · obtain ⟨hP1, hK1, hD1⟩ := hB
    rw [ht] at hP1
    obtain ⟨hP2, hD2⟩ := va_join hP hD isC isR hC hR hn hdis hk hF hP1 hD1
    exact kk r u H1 locs1 hp hP2 hD2 (va_K.moved hvm.symm hK1) hS1
theorem kt_d {S : Type} {post : UInt64 → S → Prop} {w1 : S → va_W} {t1 : S → TyL} (hP : va_P D vwCl ws H) (hD : va_D A ws) (hS : va_S A s.heap H locs) (hA : ∀ q, s.heap.size ≤ q → A q) (isC isR : List Nat) (hC : isC.map (fun i => ws[i]?) = wc.map some) (hR : isR.map (fun i => ws[i]?) = wr.map some) (hn : va_nd isR = true) (hdis : ∀ i ∈ isR, i ∉ isC)
    (hr : vx_Run p l e R s m args below meth c H locs cells slots mc ms (F0 m pc ls st0) rest (va_Qd post (fun u t => PW D (t1 u) (va_A wc H.size) (w1 u) t) (va_A wc H.size) a) (XN PE (va_A wc H.size)) (va_A wc H.size))
    (kx : ∀ (E : String) (q9 : Nat) (H1 : Heap) (locs1 : List Loc), PE E → Thrown s H1 E q9 → va_P D vwCl wr H1 → va_D A wr → va_S A s.heap H1 locs1 → vx_W p l e R s m args below meth c H1 locs1 (cells + mc) (slots + ms) Q (F0 m pc ls rest) q9)
    (kk : ∀ (r : UInt64) (u : S) (H1 : Heap) (locs1 : List Loc), post r u → va_P D vwCl (wr ++ w1 u) H1 → va_D A (wr ++ w1 u) → va_K D vwCl (t1 u) s → va_S A s.heap H1 locs1 → W p l e R s m args below meth c H1 locs1 (cells + mc) (slots + ms) Q (F0 m (pc + 3) ls (.double r :: rest))) : W p l e R s m args below meth c H locs cells slots Q (F0 m pc ls st0) := by
  have hF := va_free hD hS hA isC hC
  refine vx_calld hr hS (fun q _ h => hF q h) hF (fun q _ h => hF q h) (fun E ce q9 u t H1 locs1 ht hvm hp hB _ hk hS1 h1 h2 h3 => ?_) (fun r u t H1 locs1 ht hvm hp hB _ hk hS1 => ?_)
  · obtain ⟨hP2, hD2⟩ := va_join (w1 := []) hP hD isC isR hC hR hn hdis hk hF (fun k q h => by simp at h) ⟨fun i j p q h => by simp at h, fun k q h => by simp at h⟩
    rw [List.append_nil] at hP2 hD2
    exact kx E q9 H1 locs1 hB ⟨ce, h1, h2, h3⟩ hP2 hD2 hS1
  · obtain ⟨hP1, hK1, hD1⟩ := hB
    rw [ht] at hP1
    obtain ⟨hP2, hD2⟩ := va_join hP hD isC isR hC hR hn hdis hk hF hP1 hD1
    exact kk r u H1 locs1 hp hP2 hD2 (va_K.moved hvm.symm hK1) hS1
theorem kt_v {S : Type} {post : S → Prop} {w1 : S → va_W} {t1 : S → TyL} (hP : va_P D vwCl ws H) (hD : va_D A ws) (hS : va_S A s.heap H locs) (hA : ∀ q, s.heap.size ≤ q → A q) (isC isR : List Nat) (hC : isC.map (fun i => ws[i]?) = wc.map some) (hR : isR.map (fun i => ws[i]?) = wr.map some) (hn : va_nd isR = true) (hdis : ∀ i ∈ isR, i ∉ isC)
    (hr : vx_Run p l e R s m args below meth c H locs cells slots mc ms (F0 m pc ls st0) rest (va_Qv post (fun u t => PW D (t1 u) (va_A wc H.size) (w1 u) t) (va_A wc H.size) a) (XN PE (va_A wc H.size)) (va_A wc H.size))
    (kx : ∀ (E : String) (q9 : Nat) (H1 : Heap) (locs1 : List Loc), PE E → Thrown s H1 E q9 → va_P D vwCl wr H1 → va_D A wr → va_S A s.heap H1 locs1 → vx_W p l e R s m args below meth c H1 locs1 (cells + mc) (slots + ms) Q (F0 m pc ls rest) q9)
    (kk : ∀ (u : S) (H1 : Heap) (locs1 : List Loc), post u → va_P D vwCl (wr ++ w1 u) H1 → va_D A (wr ++ w1 u) → va_K D vwCl (t1 u) s → va_S A s.heap H1 locs1 → W p l e R s m args below meth c H1 locs1 (cells + mc) (slots + ms) Q (F0 m (pc + 3) ls rest)) : W p l e R s m args below meth c H locs cells slots Q (F0 m pc ls st0) := by
  have hF := va_free hD hS hA isC hC
  refine vx_callv hr hS (fun q _ h => hF q h) hF (fun q _ h => hF q h) (fun E ce q9 u t H1 locs1 ht hvm hp hB _ hk hS1 h1 h2 h3 => ?_) (fun u t H1 locs1 ht hvm hp hB _ hk hS1 => ?_)
  · obtain ⟨hP2, hD2⟩ := va_join (w1 := []) hP hD isC isR hC hR hn hdis hk hF (fun k q h => by simp at h) ⟨fun i j p q h => by simp at h, fun k q h => by simp at h⟩
    rw [List.append_nil] at hP2 hD2
    exact kx E q9 H1 locs1 hB ⟨ce, h1, h2, h3⟩ hP2 hD2 hS1
  · obtain ⟨hP1, hK1, hD1⟩ := hB
    rw [ht] at hP1
    obtain ⟨hP2, hD2⟩ := va_join hP hD isC isR hC hR hn hdis hk hF hP1 hD1
    exact kk u H1 locs1 hp hP2 hD2 (va_K.moved hvm.symm hK1) hS1
/-- not caught here -/
theorem kt_out {E : String} {q : Nat} {Qc : Array Value → State → Outcome → State → Prop} (hq : Thrown s H E q) (hnt : ∀ x ∈ c.exceptionTable.toList, False) (hlocks : meth.locks = false) (hS : va_S A s.heap H locs) (hE : PE E) (hc : cells ≤ mc) (hs : slots ≤ ms) :
    vx_W p l e R s m args below meth c H locs cells slots (vx_MQ below Qc (XN PE A) args s mc ms A) (F0 m pc ls rest) q := by
  obtain ⟨ce, h1, h2, h3⟩ := hq
  exact vx_out (fun x hx => (hnt x hx).elim) hlocks h1 h2 h3 (fun t ht _ => ⟨(), trivial, hE, hS.F ht⟩) hS.2.2 hc hs
end KT
/-- 'throw new E(text)' -/
abbrev thrNames : List String := ["java/lang/RuntimeException", "java/lang/Exception"]
def thrBad (E : String) : List Cond := .castable E E :: tkY.map (fun Y => .declares Y)
theorem thr_bad {args : Array Value} {s : State} {E : String} (hE : E ∈ tkE) (h : TK s) : ∀ w ∈ thrBad E, w.before args s = true := by
  intro w hw
  rcases List.mem_cons.mp hw with rfl | hw
  · exact va_Nw.use rfl (h.1 E hE)
  · obtain ⟨Y, hY, rfl⟩ := List.mem_map.mp hw
    exact va_Nw.use rfl (h.2.1 Y hY)
section THR
variable {p : Program} {l : Launch} {e : Env} {R : Room} {s : State} {m : MethodId} {args : Array Value} {below : List Frame} {meth : Method} {c : Code} {H : Heap} {locs : List Loc} {cells slots : Nat}
variable {ls : Array Slot} {rest : List Value} {Qc : Array Value → State → Outcome → State → Prop} {PE : String → Prop} {cc : ByteArray} {pc : Nat}
theorem kt_throw {de mc ms ik is ic nL : Nat} {own cls text : String} {A : Nat → Prop} {Ts : List Cond} (hexec : p.tables.exec = Jvm.exec) (hb : c.code = cc) (hl : l.stackTraces = false) (hml : c.maxLocals = nL) (hsz : ls.size = nL) (hts : ∀ w ∈ Ts, w.before args s = true) (hcls : Bundle.fit cls = true) (hE : cls ∈ tkE)
    (hown : s.vm.findClass own = some m.cls) (hTK : TK s) (hZ : ZK de A s s.heap) (hS : va_S A s.heap H locs) (hstr : (own, is, text) ∈ tkS)
    (hgoodIn : ∀ w ∈ Cond.classLink own ik cls :: Cond.initialized cls :: (vx_atS own ic cls thrNames).filter goodWord, w ∈ Ts)
    (hbad : ∀ w ∈ (vx_atS own ic cls thrNames).filter (fun w => !goodWord w), w ∈ thrBad cls)
    (hgood : ∀ w ∈ Cond.classLink own ik cls :: Cond.initialized cls :: vx_atS own ic cls thrNames, vx_ot w = true)
    (d0 : decode cc pc = .ok (.new ik, 3)) (d3 : decode cc (pc + 3) = .ok (.dup, 1)) (d4 : decode cc (pc + 4) = .ok (.ldc is, 2)) (d6 : decode cc (pc + 6) = .ok (.invokespecial ic, 3)) (d9 : decode cc (pc + 9) = .ok (.athrow, 1))
    (hnt : ∀ x ∈ c.exceptionTable.toList, False) (hRf : 5 < R.frames) (hRl : (rest.map fun v => v.category).sum + 82 ≤ R.locals) (hRc : cells + 1 ≤ R.cells) (hRs : slots + 6 ≤ R.slots) (hlocks : meth.locks = false) (hPE : PE cls) (hc : cells + 1 ≤ mc) (hs : slots + 6 ≤ ms) :
    W p l e R s m args below meth c H locs cells slots (vx_MQ below Qc (XN PE A) args s mc ms A) (F0 m pc ls rest) := by
  obtain ⟨sa, hsa⟩ := hTK.2.2.2.1 _ hstr
  refine vx_throwS (names := thrNames) hexec hb hl hown hcls (by decide +kernel) (hts _ (hgoodIn _ List.mem_cons_self)) (hts _ (hgoodIn _ (List.mem_cons_of_mem _ List.mem_cons_self))) hsa
    (vx_hat (B := thrBad cls) (fun w hw => hts w (hgoodIn w (List.mem_cons_of_mem _ (List.mem_cons_of_mem _ hw)))) hbad (thr_bad hE hTK)) hgood hZ.1 hZ.2.1 hS (hsz.trans hml.symm) d0 d3 d4 d6 d9 (fun x hx => (hnt x hx).elim) hRf hRl hRc hRs hlocks
    (fun t hvm h1 h2 => ⟨(), trivial, hPE, ⟨Nat.le_trans hS.1 h1, fun q hq hn => (h2 q (Nat.lt_of_lt_of_le hq hS.1)).trans (hS.2.1 q hq hn)⟩⟩) hS.2.2 hc hs
theorem kt_throwW {de mc ms ik is ic nL : Nat} {own cls text : String} {A : Nat → Prop} {Ts : List Cond} (hexec : p.tables.exec = Jvm.exec) (hb : c.code = cc) (hl : l.stackTraces = false) (hml : c.maxLocals = nL) (hsz : ls.size = nL) (hts : ∀ w ∈ Ts, w.before args s = true) (hcls : Bundle.fit cls = true) (hE : cls ∈ tkE)
    (hown : s.vm.findClass own = some m.cls) (hTK : TK s) (hZ : ZK de A s s.heap) (hS : va_S A s.heap H locs) (hstr : (own, is, text) ∈ tkS)
    (hgoodIn : ∀ w ∈ Cond.classLink own ik cls :: Cond.initialized cls :: (vx_atS own ic cls thrNames).filter goodWord, w ∈ Ts)
    (hbad : ∀ w ∈ (vx_atS own ic cls thrNames).filter (fun w => !goodWord w), w ∈ thrBad cls)
    (hgood : ∀ w ∈ Cond.classLink own ik cls :: Cond.initialized cls :: vx_atS own ic cls thrNames, vx_ot w = true)
    (d0 : decode cc pc = .ok (.new ik, 3)) (d3 : decode cc (pc + 3) = .ok (.dup, 1)) (d4 : decode cc (pc + 4) = .ok (.ldc_w is, 3)) (d6 : decode cc (pc + 7) = .ok (.invokespecial ic, 3)) (d9 : decode cc (pc + 10) = .ok (.athrow, 1))
    (hnt : ∀ x ∈ c.exceptionTable.toList, False) (hRf : 5 < R.frames) (hRl : (rest.map fun v => v.category).sum + 82 ≤ R.locals) (hRc : cells + 1 ≤ R.cells) (hRs : slots + 6 ≤ R.slots) (hlocks : meth.locks = false) (hPE : PE cls) (hc : cells + 1 ≤ mc) (hs : slots + 6 ≤ ms) :
    W p l e R s m args below meth c H locs cells slots (vx_MQ below Qc (XN PE A) args s mc ms A) (F0 m pc ls rest) := by
  obtain ⟨sa, hsa⟩ := hTK.2.2.2.1 _ hstr
  refine vx_throwSW (names := thrNames) hexec hb hl hown hcls (by decide +kernel) (hts _ (hgoodIn _ List.mem_cons_self)) (hts _ (hgoodIn _ (List.mem_cons_of_mem _ List.mem_cons_self))) hsa
    (vx_hat (B := thrBad cls) (fun w hw => hts w (hgoodIn w (List.mem_cons_of_mem _ (List.mem_cons_of_mem _ hw)))) hbad (thr_bad hE hTK)) hgood hZ.1 hZ.2.1 hS (hsz.trans hml.symm) d0 d3 d4 d6 d9 (fun x hx => (hnt x hx).elim) hRf hRl hRc hRs hlocks
    (fun t hvm h1 h2 => ⟨(), trivial, hPE, ⟨Nat.le_trans hS.1 h1, fun q hq hn => (h2 q (Nat.lt_of_lt_of_le hq hS.1)).trans (hS.2.1 q hq hn)⟩⟩) hS.2.2 hc hs
theorem nx_badOk : ∀ w ∈ nxAt.filter (fun w => !goodWord w), w ∈ thrBad NSEc := by decide +kernel
theorem nx_goodOk : ∀ w ∈ Cond.classLink RX11 183 NSEc :: Cond.initialized NSEc :: nxAt, vx_ot w = true := by decide +kernel
theorem kn_throw {de mc ms is nL : Nat} {text : String} {A : Nat → Prop} (hexec : p.tables.exec = Jvm.exec) (hb : c.code = cc) (hl : l.stackTraces = false) (hml : c.maxLocals = nL) (hsz : ls.size = nL) (hk : (Cond.classLink RX11 183 NSEc).before args s = true) (hini : (Cond.initialized NSEc).before args s = true)
    (hown : s.vm.findClass RX11 = some m.cls) (hTK : TK s) (hZ : ZK de A s s.heap) (hS : va_S A s.heap H locs) (hstr : (RX11, is, text) ∈ tkS)
    (d0 : decode cc pc = .ok (.new 183, 3)) (d3 : decode cc (pc + 3) = .ok (.dup, 1)) (d4 : decode cc (pc + 4) = .ok (.ldc is, 2)) (d6 : decode cc (pc + 6) = .ok (.invokespecial 187, 3)) (d9 : decode cc (pc + 9) = .ok (.athrow, 1))
    (hnt : ∀ x ∈ c.exceptionTable.toList, False) (hRf : 5 < R.frames) (hRl : (rest.map fun v => v.category).sum + 82 ≤ R.locals) (hRc : cells + 1 ≤ R.cells) (hRs : slots + 6 ≤ R.slots) (hlocks : meth.locks = false) (hPE : PE NSEc) (hc : cells + 1 ≤ mc) (hs : slots + 6 ≤ ms) :
    W p l e R s m args below meth c H locs cells slots (vx_MQ below Qc (XN PE A) args s mc ms A) (F0 m pc ls rest) := by
  obtain ⟨sa, hsa⟩ := hTK.2.2.2.1 _ hstr
  refine nx_make (cls := NSEc) (sup := NSEs) (ix := 13) (rx := nseRx) (names := ["java/lang/Exception"]) hexec hb hl (by decide +kernel) (by decide +kernel) (by decide +kernel) (by decide +kernel) (by decide +kernel) hown (by decide +kernel) (by decide +kernel) hk hini hsa
    (vx_hat (B := thrBad NSEc) (fun w hw => va_Nw.use (nxW_ok w hw).1 (hTK.2.2.2.2.2.2.2.2.2.2.2 w hw)) nx_badOk (thr_bad (by decide) hTK)) nx_goodOk hZ.1 hZ.2.1 hS (hsz.trans hml.symm) d0 d3 d4 d6 hRf hRl hRc hRs (fun q ce H1 g1 g2 g3 g4 g5 => ?_)
  have hS1 : va_S A s.heap H1 locs := ⟨Nat.le_trans hS.1 g1, fun q h1 h2 => (g2 q (Nat.lt_of_lt_of_le h1 hS.1)).trans (hS.2.1 q h1 h2), hS.2.2⟩
  exact nx_athrow hexec hb d9 (vx_out (fun x hx => (hnt x hx).elim) hlocks g3 g4 g5 (fun t ht _ => ⟨(), trivial, hPE, hS1.F ht⟩) hS.2.2 hc hs)
theorem kn_throwW {de mc ms is nL : Nat} {text : String} {A : Nat → Prop} (hexec : p.tables.exec = Jvm.exec) (hb : c.code = cc) (hl : l.stackTraces = false) (hml : c.maxLocals = nL) (hsz : ls.size = nL) (hk : (Cond.classLink RX11 183 NSEc).before args s = true) (hini : (Cond.initialized NSEc).before args s = true)
    (hown : s.vm.findClass RX11 = some m.cls) (hTK : TK s) (hZ : ZK de A s s.heap) (hS : va_S A s.heap H locs) (hstr : (RX11, is, text) ∈ tkS)
    (d0 : decode cc pc = .ok (.new 183, 3)) (d3 : decode cc (pc + 3) = .ok (.dup, 1)) (d4 : decode cc (pc + 4) = .ok (.ldc_w is, 3)) (d6 : decode cc (pc + 7) = .ok (.invokespecial 187, 3)) (d9 : decode cc (pc + 10) = .ok (.athrow, 1))
    (hnt : ∀ x ∈ c.exceptionTable.toList, False) (hRf : 5 < R.frames) (hRl : (rest.map fun v => v.category).sum + 82 ≤ R.locals) (hRc : cells + 1 ≤ R.cells) (hRs : slots + 6 ≤ R.slots) (hlocks : meth.locks = false) (hPE : PE NSEc) (hc : cells + 1 ≤ mc) (hs : slots + 6 ≤ ms) :
    W p l e R s m args below meth c H locs cells slots (vx_MQ below Qc (XN PE A) args s mc ms A) (F0 m pc ls rest) := by
  obtain ⟨sa, hsa⟩ := hTK.2.2.2.1 _ hstr
  refine nx_makeW (cls := NSEc) (sup := NSEs) (ix := 13) (rx := nseRx) (names := ["java/lang/Exception"]) hexec hb hl (by decide +kernel) (by decide +kernel) (by decide +kernel) (by decide +kernel) (by decide +kernel) hown (by decide +kernel) (by decide +kernel) hk hini hsa
    (vx_hat (B := thrBad NSEc) (fun w hw => va_Nw.use (nxW_ok w hw).1 (hTK.2.2.2.2.2.2.2.2.2.2.2 w hw)) nx_badOk (thr_bad (by decide) hTK)) nx_goodOk hZ.1 hZ.2.1 hS (hsz.trans hml.symm) d0 d3 d4 d6 hRf hRl hRc hRs (fun q ce H1 g1 g2 g3 g4 g5 => ?_)
  have hS1 : va_S A s.heap H1 locs := ⟨Nat.le_trans hS.1 g1, fun q h1 h2 => (g2 q (Nat.lt_of_lt_of_le h1 hS.1)).trans (hS.2.1 q h1 h2), hS.2.2⟩
  exact nx_athrow hexec hb d9 (vx_out (fun x hx => (hnt x hx).elim) hlocks g3 g4 g5 (fun t ht _ => ⟨(), trivial, hPE, hS1.F ht⟩) hS.2.2 hc hs)
end THR
/-- a number lies in a range, as the machine tells it -/
def inR (x a b : Int32) : Int32 := if a ≤ x ∧ x ≤ b then 1 else 0
theorem vp_in_cmp {x : Int32} (h1 : ¬ x < 0) (h2 : ¬ 19 ≤ x) : vp_in x 19 := by
  rw [vp_in_iff]
  have a1 : (0 : Int32) ≤ x := Int32.not_lt.mp h1
  have a2 : x < (19 : Int32) := Int32.not_le.mp h2
  rw [Int32.le_iff_toInt_le] at a1
  rw [Int32.lt_iff_toInt_lt] at a2
  exact ⟨a1, a2⟩
section KA
variable {p : Program} {l : Launch} {e : Env} {R : Room} {s : State} {m : MethodId} {args : Array Value} {below : List Frame} {meth : Method} {c : Code} {H : Heap} {locs : List Loc} {cells slots : Nat} {Q : State → Prop}
variable {pc : Nat} {ls : Array Slot} {rest : List Value} {A : Nat → Prop} {cc : ByteArray} {D : va_G} {cl : List vw_C} {tys : TyL} {ws : va_W} {H0 : Heap}
/-- a new array of int arrays -/
theorem ka_newqa (hexec : p.tables.exec = Jvm.exec) (hb : c.code = cc) {own : String} {index : Nat} (hown : s.vm.findClass own = some m.cls) (hclink : (Cond.classLink own index "[I").before args s = true) (hover : va_AOI s) (hK : va_K D cl tys s) (hP : va_P D cl ws H) (hD : va_D A ws) (hS : va_S A H0 H locs) (hA : ∀ q, H0.size ≤ q → A q)
    {n : Int32} {N' : Nat} (hn : ¬ n < 0) (hN : n.toNatClampNeg = N') (hbytes : N' * 4 ≤ 536870912) (hcells : cells + 1 ≤ R.cells) (hslots : slots + N' ≤ R.slots) (hdg : decode cc pc = .ok (.anewarray index, 3))
    (kk : ∀ (q : Nat) (cA : ClassId) (H1 : Heap), va_K D cl (tys ++ [(cA, .array .int)]) s → va_P D cl (ws ++ [(q, .inl (cA, N', .inr (.inr (.inr (.inr (fun _ => none))))))]) H1 → va_D A (ws ++ [(q, .inl (cA, N', .inr (.inr (.inr (.inr (fun _ => none))))))]) → va_S A H0 H1 locs →
      W p l e R s m args below meth c H1 locs (cells + 1) (slots + N') Q (F0 m (pc + 3) ls (.ref q :: rest))) : W p l e R s m args below meth c H locs cells slots Q (F0 m pc ls (.int n :: rest)) := by
  subst hN
  refine W.anewA (t := .int) hexec hb hown hclink hover rfl hdg rfl hn hbytes hcells hslots fun cA kA comp f1 f2 f3 f4 => ?_
  generalize hH1 : H.push ({ cls := cA, slots := Array.replicate n.toNatClampNeg .null, vm := .none } : Cell) = H1
  have z1 : H1.size = H.size + 1 := by rw [← hH1, Array.size_push]
  have e1 : H1[H.size]? = some (arrV cA n.toNatClampNeg (fun _ => .null)) := by rw [← hH1, Array.getElem?_push_size, ← arrV_new]
  have o1 : ∀ q : Nat, q < H.size → H1[q]? = H[q]? := fun q hq => by rw [← hH1, Array.getElem?_push, if_neg (Nat.ne_of_lt hq)]
  have hAr : ArrOfT s cA (.array .int) := fun N z => ⟨(fun k h => by cases h), kA, f2, comp, f3⟩
  have hk : ∀ (k : Nat) (x : Nat × va_E), ws[k]? = some x → H1[x.1]? = H[x.1]? := fun k x hx => o1 x.1 ((hP k x hx).lt)
  refine kk H.size cA H1 ⟨hK.1, fun k x hx => ?_⟩ ((hP.kept hk).app (fun k x hx => ?_)) (hD.push hP rfl (hA _ hS.1)) ⟨Nat.le_trans hS.1 (by omega), fun x h1 h2 => (o1 x (Nat.lt_of_lt_of_le h1 hS.1)).trans (hS.2.1 x h1 h2), hS.2.2⟩
  · by_cases hl : k < tys.length
    · rw [List.getElem?_append_left hl] at hx
      exact hK.2 k x hx
    · rw [List.getElem?_append_right (by omega)] at hx
      have hz : k - tys.length < 1 := (List.getElem?_eq_some_iff.mp hx).1
      rw [show k - tys.length = 0 by omega] at hx
      cases hx
      exact ⟨hAr, f1⟩
  · have hz : k < 1 := (List.getElem?_eq_some_iff.mp hx).1
    rw [show k = 0 by omega] at hx
    cases hx
    show H1[H.size]? = some (vp_cell _ _)
    rw [vp_cell_q]
    exact e1
end KA
section KL
variable {p : Program} {l : Launch} {e : Env} {R : Room} {s : State} {m : MethodId} {args : Array Value} {below : List Frame} {meth : Method} {c : Code} {Q : State → Prop} {pc : Nat}
/-- a loop that counts from a to N; an iteration makes at most ca cells of sa slots -/
theorem kl_loop (a N c0 ca s0 sa : Nat) (I : Nat → Heap → List Loc → Array Slot → Prop) (haN : a ≤ N)
    (hstep : ∀ (k : Nat) (H : Heap) (locs : List Loc) (ls : Array Slot), a ≤ k → k < N → I k H locs ls → (∀ (H1 : Heap) (locs1 : List Loc) (ls1 : Array Slot), I (k + 1) H1 locs1 ls1 → W p l e R s m args below meth c H1 locs1 (c0 + ca * (k + 1)) (s0 + sa * (k + 1)) Q (F0 m pc ls1 [])) → W p l e R s m args below meth c H locs (c0 + ca * k) (s0 + sa * k) Q (F0 m pc ls []))
    (hexit : ∀ (H : Heap) (locs : List Loc) (ls : Array Slot), I N H locs ls → W p l e R s m args below meth c H locs (c0 + ca * N) (s0 + sa * N) Q (F0 m pc ls []))
    (H : Heap) (locs : List Loc) (ls : Array Slot) (h0 : I a H locs ls) : W p l e R s m args below meth c H locs (c0 + ca * a) (s0 + sa * a) Q (F0 m pc ls []) := by
  have K : ∀ (n k : Nat) (H : Heap) (locs : List Loc) (ls : Array Slot), k + n = N → a ≤ k → I k H locs ls → W p l e R s m args below meth c H locs (c0 + ca * k) (s0 + sa * k) Q (F0 m pc ls []) := by
    intro n
    induction n with
    | zero =>
      intro k H locs ls h1 _ h2
      have hk : k = N := by omega
      subst hk
      exact hexit H locs ls h2
    | succ n ih =>
      intro k H locs ls h1 ha h2
      exact hstep k H locs ls ha (by omega) h2 (fun H1 locs1 ls1 h3 => ih (k + 1) H1 locs1 ls1 (by omega) (by omega) h3)
  exact K (N - a) a H locs ls (by omega) (Nat.le_refl a) h0
end KL
theorem nI_m4 (k : Nat) : (4 : Int32) * nI k = nI (4 * k) := (Int32.ofNat_mul 4 k).symm
theorem up_0 {f : Nat → Option Nat} {k : Nat} {v : Option Nat} (hk : 1 ≤ k) (hN : k < 2 ^ 31) : va_up f (nI k).toNatClampNeg v 0 = f 0 := by
  rw [nI_clamp hN]
  unfold va_up
  rw [if_neg (by omega)]

theorem inR_lo {x a b : Int32} (h : x < a) : inR x a b = 0 := if_neg (fun z => absurd z.1 (Int32.not_le.mpr h))
theorem inR_hi {x a b : Int32} (h : b < x) : inR x a b = 0 := if_neg (fun z => absurd z.2 (Int32.not_le.mpr h))
theorem inR_in {x a b : Int32} (h1 : ¬ x < a) (h2 : ¬ b < x) : inR x a b = 1 := if_pos ⟨Int32.not_lt.mp h1, Int32.not_lt.mp h2⟩
theorem inR_bit (x a b : Int32) : inR x a b = 0 ∨ inR x a b = 1 := by
  unfold inR
  by_cases h : a ≤ x ∧ x ≤ b
  · rw [if_pos h]; exact Or.inr rfl
  · rw [if_neg h]; exact Or.inl rfl
theorem inR_nar (x a b : Int32) : narrow .boolean (.int (inR x a b)) = .int (inR x a b) := by
  rcases inR_bit x a b with h | h <;> rw [h] <;> decide
theorem inR_none (x : Int32) : inR x 0 (-1) = 0 := by
  unfold inR
  rw [if_neg]
  intro h
  have h2 : (0 : Int32) ≤ -1 := Int32.le_trans h.1 h.2
  exact absurd h2 (by decide)
theorem thrB_RX11_125 : ∀ w ∈ (vx_atS RX11 125 "java/lang/UnsupportedOperationException" thrNames).filter (fun w => !goodWord w), w ∈ thrBad "java/lang/UnsupportedOperationException" := by decide +kernel
theorem thrG_RX11_121_125 : ∀ w ∈ Cond.classLink RX11 121 "java/lang/UnsupportedOperationException" :: Cond.initialized "java/lang/UnsupportedOperationException" :: vx_atS RX11 125 "java/lang/UnsupportedOperationException" thrNames, vx_ot w = true := by decide +kernel
theorem thrB_RX11_208 : ∀ w ∈ (vx_atS RX11 208 "java/lang/IllegalStateException" thrNames).filter (fun w => !goodWord w), w ∈ thrBad "java/lang/IllegalStateException" := by decide +kernel
theorem thrG_RX11_204_208 : ∀ w ∈ Cond.classLink RX11 204 "java/lang/IllegalStateException" :: Cond.initialized "java/lang/IllegalStateException" :: vx_atS RX11 208 "java/lang/IllegalStateException" thrNames, vx_ot w = true := by decide +kernel
theorem thrB_RX11_425 : ∀ w ∈ (vx_atS RX11 425 "java/lang/ArithmeticException" thrNames).filter (fun w => !goodWord w), w ∈ thrBad "java/lang/ArithmeticException" := by decide +kernel
theorem thrG_RX11_421_425 : ∀ w ∈ Cond.classLink RX11 421 "java/lang/ArithmeticException" :: Cond.initialized "java/lang/ArithmeticException" :: vx_atS RX11 425 "java/lang/ArithmeticException" thrNames, vx_ot w = true := by decide +kernel
theorem thrB_RX11_474 : ∀ w ∈ (vx_atS RX11 474 "java/lang/IndexOutOfBoundsException" thrNames).filter (fun w => !goodWord w), w ∈ thrBad "java/lang/IndexOutOfBoundsException" := by decide +kernel
theorem thrG_RX11_470_474 : ∀ w ∈ Cond.classLink RX11 470 "java/lang/IndexOutOfBoundsException" :: Cond.initialized "java/lang/IndexOutOfBoundsException" :: vx_atS RX11 474 "java/lang/IndexOutOfBoundsException" thrNames, vx_ot w = true := by decide +kernel
theorem thrB_RX11_61 : ∀ w ∈ (vx_atS RX11 61 "java/lang/IllegalArgumentException" thrNames).filter (fun w => !goodWord w), w ∈ thrBad "java/lang/IllegalArgumentException" := by decide +kernel
theorem thrG_RX11_57_61 : ∀ w ∈ Cond.classLink RX11 57 "java/lang/IllegalArgumentException" :: Cond.initialized "java/lang/IllegalArgumentException" :: vx_atS RX11 61 "java/lang/IllegalArgumentException" thrNames, vx_ot w = true := by decide +kernel
def wnL_clashOf : List Cond := nsF (.codeWith yL_clashOf cL_clashOf 4 (some .int) [(0, 9, 12, 19), (0, 9, 15, 55)]) wsL_clashOf
def wnL_orderAt : List Cond := nsF (.codeWith yL_orderAt cL_orderAt 4 (some .int) [(0, 9, 12, 55)]) wsL_orderAt
def wnL_sees : List Cond := nsF (.codeWith yL_sees cL_sees 6 (some .int) [(0, 12, 15, 13), (0, 12, 19, 55)]) wsL_sees
def wnL_showStep : List Cond := nsF (.codeWith yL_showStep cL_showStep 3 (some .int) [(0, 8, 11, 55)]) wsL_showStep
def wnL_wish : List Cond := nsF (.codeWith yL_wish cL_wish 7 (some .int) [(0, 14, 17, 13), (0, 14, 21, 31), (0, 14, 25, 55)]) wsL_wish
def wnX11_clashOf : List Cond := nsF (.code yX11_clashOf cX11_clashOf 4 (some .int)) wsX11_clashOf
def wnX11_orderAt : List Cond := nsF (.code yX11_orderAt cX11_orderAt 2 (some .int)) wsX11_orderAt
def wnX11_sees : List Cond := nsF (.code yX11_sees cX11_sees 5 (some .int)) wsX11_sees
def wnX11_showStep : List Cond := nsF (.code yX11_showStep cX11_showStep 2 (some .int)) wsX11_showStep
def wnX11_wish : List Cond := nsF (.code yX11_wish cX11_wish 6 (some .int)) wsX11_wish
def wnL_law : List Cond := wsL_law.filter (fun w => decide (w ∉ LF))
theorem gn_law {ws : List Cond} (g : GoodIn wsL_law ws) (h : ∀ w ∈ ws, w ∉ LF) : GoodIn wnL_law ws := fun w hw => ⟨List.mem_filter.mpr ⟨(g w hw).1, decide_eq_true (h w hw)⟩, (g w hw).2⟩
theorem gn_lawN {ws t : List Cond} {h : Cond} (e : ws = h :: t) (hh : h ∉ LF) (g : GoodIn wsL_law ws) : GoodIn wnL_law (nsF h ws) := fun w hw => have q := nsF_mem e hh hw; ⟨List.mem_filter.mpr ⟨(g w q.1).1, decide_eq_true q.2⟩, (g w q.1).2⟩
abbrev wX (ad : Nat → Nat) : va_W := [(ad 0, .inr (16, [.ref (ad 1), .ref (ad 2), .ref (ad 3), .ref (ad 4), .ref (ad 5), .ref (ad 6)])), (ad 1, .inr (5, [.ref (ad 7), .ref (ad 8), .ref (ad 9), .ref (ad 10), .ref (ad 11), .ref (ad 12), .int 0, .int 0, .int 0, .int 0, .int 200])), (ad 2, .inr (9, [.ref (ad 1), .ref (ad 13), .int 0])), (ad 3, .inr (13, [.ref (ad 14), .int 0])), (ad 4, .inr (10, [.ref (ad 1), .ref (ad 15), .ref (ad 16), .ref (ad 17), .ref (ad 18), .ref (ad 19), .ref (ad 20), .ref (ad 21), .ref (ad 22), .int 500, .int 700, .int 0, .int 0])), (ad 5, .inr (8, [.ref (ad 1), .ref (ad 23), .ref (ad 24), .ref (ad 25), .ref (ad 26), .ref (ad 27), .ref (ad 28), .int 10, .int 0]))]
abbrev wM (ad : Nat → Nat) (de : Nat) (c0 : Int32) : va_W := [(ad 40, .inr (22, [.int c0, .int 0, .int 0, .int 0, .ref (ad 41), .ref (ad 42), .ref (ad 43), .ref (ad 44), .int 500, .int 700, .int 10, .int 200, .ref (ad 45)])), (ad 41, .inr (4, [.int 0, .ref de, .int 0])), (ad 42, .inr (4, [.int 0, .ref de, .int 0])), (ad 43, .inr (4, [.int 0, .ref de, .int 0])), (ad 44, .inr (4, [.int 0, .ref de, .int 0]))]
