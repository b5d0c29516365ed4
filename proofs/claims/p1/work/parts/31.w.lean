set_option maxHeartbeats 4000000 in
set_option maxRecDepth 100000 in
theorem w_fold (l : Launch) (hst : l.stackTraces = false) (D : va_G) (de : Nat) (ad : Nat → Nat) (p0 p1 p2 p3 p4 : Int32) (sz : Nat) : Met l yL_fold wsL_fold ({ frames := 9, cells := 1, slots := 6, locals := 155 } : Room) (va_Pc [.ref (ad 0), .int p0, .int p1, .int p2, .int p3, .int p4, .ref (ad 46)] (PX de D ([]) (wX ad) sz)) (va_Qi (fun (r : Int32) (u : Unit) => (r = 1 ∧ True)) (fun u t => PW D ([]) (va_A (wX ad) sz) ([]) t) (va_A (wX ad) sz)) 1 6 (va_A (wX ad) sz) := by
  refine va_MetW (cc := cL_fold) (maxL := 8) (ret := (some .int)) (by decide) rfl ?_
  intro p e s m args below meth c s₁ B hml hv
  obtain ⟨rfl, hsz, hP, hK, hD0, hTK, hZ⟩ := hv
  have hx := B.exec
  have hb := B.bytes
  have hr := B.returns
  have hts := atoms_spec (ws := wsL_fold) B.pre
  have hown : s.vm.findClass RL = some m.cls := findClass_of_methodNamed B.named
  have hlocks := B.notSynchronized
  have htab := vx_table (x := yL_fold) B (hts _ List.mem_cons_self)
  subst hsz
  have hD := hD0.self (sz := s.heap.size)
  generalize hAe : va_A (wX ad) s.heap.size = A at hD hZ ⊢
  have hA : ∀ q : Nat, s.heap.size ≤ q → A q := fun q h => by rw [← hAe]; exact Or.inr h
  have hS : va_S A s.heap s.heap [] := va_S.rf
  have hP : va_P D vwCl (wX ad) s.heap := hP
  have hD : va_D A (wX ad) := hD
  have hl := lv_entry ([.ref (ad 0), .int p0, .int p1, .int p2, .int p3, .int p4, .ref (ad 46)]) (n := 8) (Nat.le_of_ble_eq_true rfl)
  rw [lg_entry_eq]
  generalize (lg_sl ([.ref (ad 0), .int p0, .int p1, .int p2, .int p3, .int p4, .ref (ad 46)]) ++ List.replicate (8 - (lg_sl ([.ref (ad 0), .int p0, .int p1, .int p2, .int p3, .int p4, .ref (ad 46)])).length) Slot.unset).toArray = ls at hl ⊢
  have hl : lv_has ls 8 [(0, .ref (ad 0)), (1, .int p0), (2, .int p1), (3, .int p2), (4, .int p3), (5, .int p4), (6, .ref (ad 46))] := hl
  refine lv_aload hx hb dL_fold_0 (lv_at hl 6 rfl) ?_
  refine lv_iconst (v := 0) hx hb dL_fold_2 (by decide) ?_
  refine lv_aload_n hx hb dL_fold_3 rfl (lv_at hl 0 rfl) ?_
  refine lv_iload_n hx hb dL_fold_4 rfl (lv_at hl 1 rfl) ?_
  refine lv_iload_n hx hb dL_fold_5 rfl (lv_at hl 2 rfl) ?_
  refine lv_iload_n hx hb dL_fold_6 rfl (lv_at hl 3 rfl) ?_
  refine lv_iload hx hb dL_fold_7 (lv_at hl 4 rfl) ?_
  refine lv_iload hx hb dL_fold_9 (lv_at hl 5 rfl) ?_
  refine kt_i (wc := wX ad) (wr := []) hP hD hS hA [0, 1, 2, 3, 4, 5] [] rfl rfl (by decide) (by decide) (vx_runV (As := [.int p0, .int p1, .int p2, .int p3, .int p4]) (rest := [.int 0, .ref (ad 46)]) ⟨hx, hb, hml, hown, hts⟩ (f_fold l hst D de ad p0 p1 p2 p3 p4 s.heap.size) (cwV 5 hts gL_fold_X11_fold rfl rfl rfl (by decide +kernel) ⟨Nat.le_of_ble_eq_true rfl, Nat.le_of_ble_eq_true rfl⟩) ⟨px_blind, (va_recv hK hP (ci := 16) (q0 := 0) rfl rfl), (px_pre hP hD hK hS hA hTK hZ [0, 1, 2, 3, 4, 5] rfl rfl (by decide) [] rfl)⟩ rfl rfl hl.1 rfl (lv_room (Nat.le_of_ble_eq_true rfl)) dL_fold_11 ⟨(Nat.le_of_ble_eq_true rfl), (Nat.le_of_ble_eq_true rfl)⟩) (fun E q9 H locs hE hq hP hD hS => ?_) (fun r_1 u H locs hw hP hD hK1 hS => hw.elim)
  obtain ⟨rfl, hE⟩ := hE
  obtain ⟨ce9, hq1, hq2, hq3⟩ := hq
  refine vx_catch (own := RL) (name := "java/lang/IndexOutOfBoundsException") hown [] (⟨0, 16, 19, 19⟩ : ExceptionTableEntry) [(⟨0, 16, 23, 13⟩ : ExceptionTableEntry), (⟨0, 16, 27, 21⟩ : ExceptionTableEntry)] htab (fun _ h9 => absurd h9 List.not_mem_nil) (by decide) (by decide) (va_Nw.use rfl (hTK.2.2.2.2.2.2.2.2.2.2.1 (RL, 19, "java/lang/IndexOutOfBoundsException") (by decide +kernel))) (va_Nw.use rfl (hTK.1 "java/lang/IndexOutOfBoundsException" (by decide +kernel))) hq1 hq2 hq3 ?_
  refine W.eq (g2 := F0 m 19 ls [.ref q9]) rfl ?_
  refine lv_astore (lv' := [(7, .ref q9), (0, .ref (ad 0)), (1, .int p0), (2, .int p1), (3, .int p2), (4, .int p3), (5, .int p4), (6, .ref (ad 46))]) hx hb dL_fold_19 hl (by decide) rfl (fun ls hl => ?_)
  refine lv_iconst (v := 1) hx hb dL_fold_21 (by decide) ?_
  refine W.widen (k := 1) (n := 6) (Nat.le_of_ble_eq_true rfl) (Nat.le_of_ble_eq_true rfl) ?_
  have hP9 := hP.sub (ws' := ([])) [] rfl
  have hD9 := hD.sub (ws' := ([])) [] (by decide) rfl
  have hK9 := hK.sub (tys' := []) [] rfl
  exact W.iret (v := 1) hx hb hr (fun t ht hW => ⟨⟨1, (), rfl, ⟨rfl, hE⟩, ⟨by rw [ht]; exact hP9, va_K.moved hW.alike hK9, hD9⟩⟩, hS.F ht⟩) hS.2.2 dL_fold_22 hlocks

set_option maxHeartbeats 4000000 in
set_option maxRecDepth 100000 in
theorem w_room (l : Launch) (hst : l.stackTraces = false) (D : va_G) (de : Nat) (ad : Nat → Nat) (p0 p1 : Int32) (sz : Nat) : Met l yL_room wsL_room ({ frames := 8, cells := 1, slots := 6, locals := 127 } : Room) (va_Pc [.ref (ad 0), .int p0, .int p1, .ref (ad 46)] (PX de D ([]) (wX ad) sz)) (va_Qi (fun (r : Int32) (u : Unit) => (r = 1 ∧ True)) (fun u t => PW D ([]) (va_A (wX ad) sz) ([]) t) (va_A (wX ad) sz)) 1 6 (va_A (wX ad) sz) := by
  refine va_MetW (cc := cL_room) (maxL := 5) (ret := (some .int)) (by decide) rfl ?_
  intro p e s m args below meth c s₁ B hml hv
  obtain ⟨rfl, hsz, hP, hK, hD0, hTK, hZ⟩ := hv
  have hx := B.exec
  have hb := B.bytes
  have hr := B.returns
  have hts := atoms_spec (ws := wsL_room) B.pre
  have hown : s.vm.findClass RL = some m.cls := findClass_of_methodNamed B.named
  have hlocks := B.notSynchronized
  have htab := vx_table (x := yL_room) B (hts _ List.mem_cons_self)
  subst hsz
  have hD := hD0.self (sz := s.heap.size)
  generalize hAe : va_A (wX ad) s.heap.size = A at hD hZ ⊢
  have hA : ∀ q : Nat, s.heap.size ≤ q → A q := fun q h => by rw [← hAe]; exact Or.inr h
  have hS : va_S A s.heap s.heap [] := va_S.rf
  have hP : va_P D vwCl (wX ad) s.heap := hP
  have hD : va_D A (wX ad) := hD
  have hl := lv_entry ([.ref (ad 0), .int p0, .int p1, .ref (ad 46)]) (n := 5) (Nat.le_of_ble_eq_true rfl)
  rw [lg_entry_eq]
  generalize (lg_sl ([.ref (ad 0), .int p0, .int p1, .ref (ad 46)]) ++ List.replicate (5 - (lg_sl ([.ref (ad 0), .int p0, .int p1, .ref (ad 46)])).length) Slot.unset).toArray = ls at hl ⊢
  have hl : lv_has ls 5 [(0, .ref (ad 0)), (1, .int p0), (2, .int p1), (3, .ref (ad 46))] := hl
  refine lv_aload_n hx hb dL_room_0 rfl (lv_at hl 3 rfl) ?_
  refine lv_iconst (v := 0) hx hb dL_room_1 (by decide) ?_
  refine lv_aload_n hx hb dL_room_2 rfl (lv_at hl 0 rfl) ?_
  refine lv_iload_n hx hb dL_room_3 rfl (lv_at hl 1 rfl) ?_
  refine lv_iload_n hx hb dL_room_4 rfl (lv_at hl 2 rfl) ?_
  refine kt_i (wc := wX ad) (wr := []) hP hD hS hA [0, 1, 2, 3, 4, 5] [] rfl rfl (by decide) (by decide) (vx_runV (As := [.int p0, .int p1]) (rest := [.int 0, .ref (ad 46)]) ⟨hx, hb, hml, hown, hts⟩ (f_room l hst D de ad p0 p1 s.heap.size) (cwV 2 hts gL_room_X11_room rfl rfl rfl (by decide +kernel) ⟨Nat.le_of_ble_eq_true rfl, Nat.le_of_ble_eq_true rfl⟩) ⟨px_blind, (va_recv hK hP (ci := 16) (q0 := 0) rfl rfl), (px_pre hP hD hK hS hA hTK hZ [0, 1, 2, 3, 4, 5] rfl rfl (by decide) [] rfl)⟩ rfl rfl hl.1 rfl (lv_room (Nat.le_of_ble_eq_true rfl)) dL_room_5 ⟨(Nat.le_of_ble_eq_true rfl), (Nat.le_of_ble_eq_true rfl)⟩) (fun E q9 H locs hE hq hP hD hS => ?_) (fun r_1 u H locs hw hP hD hK1 hS => hw.elim)
  obtain ⟨rfl, hE⟩ := hE
  obtain ⟨ce9, hq1, hq2, hq3⟩ := hq
  refine vx_catch (own := RL) (name := "java/lang/IndexOutOfBoundsException") hown [] (⟨0, 10, 13, 19⟩ : ExceptionTableEntry) [] htab (fun _ h9 => absurd h9 List.not_mem_nil) (by decide) (by decide) (va_Nw.use rfl (hTK.2.2.2.2.2.2.2.2.2.2.1 (RL, 19, "java/lang/IndexOutOfBoundsException") (by decide +kernel))) (va_Nw.use rfl (hTK.1 "java/lang/IndexOutOfBoundsException" (by decide +kernel))) hq1 hq2 hq3 ?_
  refine W.eq (g2 := F0 m 13 ls [.ref q9]) rfl ?_
  refine lv_astore (lv' := [(4, .ref q9), (0, .ref (ad 0)), (1, .int p0), (2, .int p1), (3, .ref (ad 46))]) hx hb dL_room_13 hl (by decide) rfl (fun ls hl => ?_)
  refine lv_iconst (v := 1) hx hb dL_room_15 (by decide) ?_
  refine W.widen (k := 1) (n := 6) (Nat.le_of_ble_eq_true rfl) (Nat.le_of_ble_eq_true rfl) ?_
  have hP9 := hP.sub (ws' := ([])) [] rfl
  have hD9 := hD.sub (ws' := ([])) [] (by decide) rfl
  have hK9 := hK.sub (tys' := []) [] rfl
  exact W.iret (v := 1) hx hb hr (fun t ht hW => ⟨⟨1, (), rfl, ⟨rfl, hE⟩, ⟨by rw [ht]; exact hP9, va_K.moved hW.alike hK9, hD9⟩⟩, hS.F ht⟩) hS.2.2 dL_room_16 hlocks

set_option maxHeartbeats 4000000 in
set_option maxRecDepth 100000 in
theorem w_arm (l : Launch) (hst : l.stackTraces = false) (D : va_G) (de : Nat) (ad : Nat → Nat) (p0 p1 p2 p3 p4 : Int32) (sz : Nat) : Met l yL_arm wsL_arm ({ frames := 8, cells := 1, slots := 6, locals := 131 } : Room) (va_Pc [.ref (ad 0), .int p0, .int p1, .int p2, .int p3, .int p4, .ref (ad 46)] (PX de D ([]) (wX ad) sz)) (va_Qi (fun (r : Int32) (u : Unit) => (r = 1 ∧ True)) (fun u t => PW D ([]) (va_A (wX ad) sz) ([]) t) (va_A (wX ad) sz)) 1 6 (va_A (wX ad) sz) := by
  refine va_MetW (cc := cL_arm) (maxL := 8) (ret := (some .int)) (by decide) rfl ?_
  intro p e s m args below meth c s₁ B hml hv
  obtain ⟨rfl, hsz, hP, hK, hD0, hTK, hZ⟩ := hv
  have hx := B.exec
  have hb := B.bytes
  have hr := B.returns
  have hts := atoms_spec (ws := wsL_arm) B.pre
  have hown : s.vm.findClass RL = some m.cls := findClass_of_methodNamed B.named
  have hlocks := B.notSynchronized
  have htab := vx_table (x := yL_arm) B (hts _ List.mem_cons_self)
  subst hsz
  have hD := hD0.self (sz := s.heap.size)
  generalize hAe : va_A (wX ad) s.heap.size = A at hD hZ ⊢
  have hA : ∀ q : Nat, s.heap.size ≤ q → A q := fun q h => by rw [← hAe]; exact Or.inr h
  have hS : va_S A s.heap s.heap [] := va_S.rf
  have hP : va_P D vwCl (wX ad) s.heap := hP
  have hD : va_D A (wX ad) := hD
  have hl := lv_entry ([.ref (ad 0), .int p0, .int p1, .int p2, .int p3, .int p4, .ref (ad 46)]) (n := 8) (Nat.le_of_ble_eq_true rfl)
  rw [lg_entry_eq]
  generalize (lg_sl ([.ref (ad 0), .int p0, .int p1, .int p2, .int p3, .int p4, .ref (ad 46)]) ++ List.replicate (8 - (lg_sl ([.ref (ad 0), .int p0, .int p1, .int p2, .int p3, .int p4, .ref (ad 46)])).length) Slot.unset).toArray = ls at hl ⊢
  have hl : lv_has ls 8 [(0, .ref (ad 0)), (1, .int p0), (2, .int p1), (3, .int p2), (4, .int p3), (5, .int p4), (6, .ref (ad 46))] := hl
  refine lv_aload hx hb dL_arm_0 (lv_at hl 6 rfl) ?_
  refine lv_iconst (v := 0) hx hb dL_arm_2 (by decide) ?_
  refine lv_aload_n hx hb dL_arm_3 rfl (lv_at hl 0 rfl) ?_
  refine lv_iload_n hx hb dL_arm_4 rfl (lv_at hl 1 rfl) ?_
  refine lv_iload_n hx hb dL_arm_5 rfl (lv_at hl 2 rfl) ?_
  refine lv_iload_n hx hb dL_arm_6 rfl (lv_at hl 3 rfl) ?_
  refine lv_iload hx hb dL_arm_7 (lv_at hl 4 rfl) ?_
  refine lv_iload hx hb dL_arm_9 (lv_at hl 5 rfl) ?_
  refine kt_i (wc := wX ad) (wr := []) hP hD hS hA [0, 1, 2, 3, 4, 5] [] rfl rfl (by decide) (by decide) (vx_runV (As := [.int p0, .int p1, .int p2, .int p3, .int p4]) (rest := [.int 0, .ref (ad 46)]) ⟨hx, hb, hml, hown, hts⟩ (f_arm l hst D de ad p0 p1 p2 p3 p4 s.heap.size) (cwV 5 hts gL_arm_X11_arm rfl rfl rfl (by decide +kernel) ⟨Nat.le_of_ble_eq_true rfl, Nat.le_of_ble_eq_true rfl⟩) ⟨px_blind, (va_recv hK hP (ci := 16) (q0 := 0) rfl rfl), (px_pre hP hD hK hS hA hTK hZ [0, 1, 2, 3, 4, 5] rfl rfl (by decide) [] rfl)⟩ rfl rfl hl.1 rfl (lv_room (Nat.le_of_ble_eq_true rfl)) dL_arm_11 ⟨(Nat.le_of_ble_eq_true rfl), (Nat.le_of_ble_eq_true rfl)⟩) (fun E q9 H locs hE hq hP hD hS => ?_) (fun r_1 u H locs hw hP hD hK1 hS => hw.elim)
  obtain ⟨rfl, hE⟩ := hE
  obtain ⟨ce9, hq1, hq2, hq3⟩ := hq
  refine vx_catch (own := RL) (name := "java/lang/IndexOutOfBoundsException") hown [] (⟨0, 16, 19, 19⟩ : ExceptionTableEntry) [(⟨0, 16, 23, 13⟩ : ExceptionTableEntry), (⟨0, 16, 27, 31⟩ : ExceptionTableEntry)] htab (fun _ h9 => absurd h9 List.not_mem_nil) (by decide) (by decide) (va_Nw.use rfl (hTK.2.2.2.2.2.2.2.2.2.2.1 (RL, 19, "java/lang/IndexOutOfBoundsException") (by decide +kernel))) (va_Nw.use rfl (hTK.1 "java/lang/IndexOutOfBoundsException" (by decide +kernel))) hq1 hq2 hq3 ?_
  refine W.eq (g2 := F0 m 19 ls [.ref q9]) rfl ?_
  refine lv_astore (lv' := [(7, .ref q9), (0, .ref (ad 0)), (1, .int p0), (2, .int p1), (3, .int p2), (4, .int p3), (5, .int p4), (6, .ref (ad 46))]) hx hb dL_arm_19 hl (by decide) rfl (fun ls hl => ?_)
  refine lv_iconst (v := 1) hx hb dL_arm_21 (by decide) ?_
  refine W.widen (k := 1) (n := 6) (Nat.le_of_ble_eq_true rfl) (Nat.le_of_ble_eq_true rfl) ?_
  have hP9 := hP.sub (ws' := ([])) [] rfl
  have hD9 := hD.sub (ws' := ([])) [] (by decide) rfl
  have hK9 := hK.sub (tys' := []) [] rfl
  exact W.iret (v := 1) hx hb hr (fun t ht hW => ⟨⟨1, (), rfl, ⟨rfl, hE⟩, ⟨by rw [ht]; exact hP9, va_K.moved hW.alike hK9, hD9⟩⟩, hS.F ht⟩) hS.2.2 dL_arm_22 hlocks

set_option maxHeartbeats 4000000 in
set_option maxRecDepth 100000 in
theorem w_across (l : Launch) (hst : l.stackTraces = false) (D : va_G) (de : Nat) (ad : Nat → Nat) (p0 p1 p2 : Int32) (sz : Nat) : Met l yL_across wsL_across ({ frames := 8, cells := 1, slots := 6, locals := 128 } : Room) (va_Pc [.ref (ad 0), .int p0, .int p1, .int p2, .ref (ad 46)] (PX de D ([]) (wX ad) sz)) (va_Qi (fun (r : Int32) (u : Unit) => (r = 1 ∧ True)) (fun u t => PW D ([]) (va_A (wX ad) sz) ([]) t) (va_A (wX ad) sz)) 1 6 (va_A (wX ad) sz) := by
  refine va_MetW (cc := cL_across) (maxL := 6) (ret := (some .int)) (by decide) rfl ?_
  intro p e s m args below meth c s₁ B hml hv
  obtain ⟨rfl, hsz, hP, hK, hD0, hTK, hZ⟩ := hv
  have hx := B.exec
  have hb := B.bytes
  have hr := B.returns
  have hts := atoms_spec (ws := wsL_across) B.pre
  have hown : s.vm.findClass RL = some m.cls := findClass_of_methodNamed B.named
  have hlocks := B.notSynchronized
  have htab := vx_table (x := yL_across) B (hts _ List.mem_cons_self)
  subst hsz
  have hD := hD0.self (sz := s.heap.size)
  generalize hAe : va_A (wX ad) s.heap.size = A at hD hZ ⊢
  have hA : ∀ q : Nat, s.heap.size ≤ q → A q := fun q h => by rw [← hAe]; exact Or.inr h
  have hS : va_S A s.heap s.heap [] := va_S.rf
  have hP : va_P D vwCl (wX ad) s.heap := hP
  have hD : va_D A (wX ad) := hD
  have hl := lv_entry ([.ref (ad 0), .int p0, .int p1, .int p2, .ref (ad 46)]) (n := 6) (Nat.le_of_ble_eq_true rfl)
  rw [lg_entry_eq]
  generalize (lg_sl ([.ref (ad 0), .int p0, .int p1, .int p2, .ref (ad 46)]) ++ List.replicate (6 - (lg_sl ([.ref (ad 0), .int p0, .int p1, .int p2, .ref (ad 46)])).length) Slot.unset).toArray = ls at hl ⊢
  have hl : lv_has ls 6 [(0, .ref (ad 0)), (1, .int p0), (2, .int p1), (3, .int p2), (4, .ref (ad 46))] := hl
  refine lv_aload hx hb dL_across_0 (lv_at hl 4 rfl) ?_
  refine lv_iconst (v := 0) hx hb dL_across_2 (by decide) ?_
  refine lv_aload_n hx hb dL_across_3 rfl (lv_at hl 0 rfl) ?_
  refine lv_iload_n hx hb dL_across_4 rfl (lv_at hl 1 rfl) ?_
  refine lv_iload_n hx hb dL_across_5 rfl (lv_at hl 2 rfl) ?_
  refine lv_iload_n hx hb dL_across_6 rfl (lv_at hl 3 rfl) ?_
  refine kt_i (wc := wX ad) (wr := []) hP hD hS hA [0, 1, 2, 3, 4, 5] [] rfl rfl (by decide) (by decide) (vx_runV (As := [.int p0, .int p1, .int p2]) (rest := [.int 0, .ref (ad 46)]) ⟨hx, hb, hml, hown, hts⟩ (f_across l hst D de ad p0 p1 p2 s.heap.size) (cwV 3 hts gL_across_X11_across rfl rfl rfl (by decide +kernel) ⟨Nat.le_of_ble_eq_true rfl, Nat.le_of_ble_eq_true rfl⟩) ⟨px_blind, (va_recv hK hP (ci := 16) (q0 := 0) rfl rfl), (px_pre hP hD hK hS hA hTK hZ [0, 1, 2, 3, 4, 5] rfl rfl (by decide) [] rfl)⟩ rfl rfl hl.1 rfl (lv_room (Nat.le_of_ble_eq_true rfl)) dL_across_7 ⟨(Nat.le_of_ble_eq_true rfl), (Nat.le_of_ble_eq_true rfl)⟩) (fun E q9 H locs hE hq hP hD hS => ?_) (fun r_1 u H locs hw hP hD hK1 hS => hw.elim)
  obtain ⟨rfl, hE⟩ := hE
  obtain ⟨ce9, hq1, hq2, hq3⟩ := hq
  refine vx_catch (own := RL) (name := "java/lang/IndexOutOfBoundsException") hown [] (⟨0, 12, 15, 19⟩ : ExceptionTableEntry) [(⟨0, 12, 19, 13⟩ : ExceptionTableEntry)] htab (fun _ h9 => absurd h9 List.not_mem_nil) (by decide) (by decide) (va_Nw.use rfl (hTK.2.2.2.2.2.2.2.2.2.2.1 (RL, 19, "java/lang/IndexOutOfBoundsException") (by decide +kernel))) (va_Nw.use rfl (hTK.1 "java/lang/IndexOutOfBoundsException" (by decide +kernel))) hq1 hq2 hq3 ?_
  refine W.eq (g2 := F0 m 15 ls [.ref q9]) rfl ?_
  refine lv_astore (lv' := [(5, .ref q9), (0, .ref (ad 0)), (1, .int p0), (2, .int p1), (3, .int p2), (4, .ref (ad 46))]) hx hb dL_across_15 hl (by decide) rfl (fun ls hl => ?_)
  refine lv_iconst (v := 1) hx hb dL_across_17 (by decide) ?_
  refine W.widen (k := 1) (n := 6) (Nat.le_of_ble_eq_true rfl) (Nat.le_of_ble_eq_true rfl) ?_
  have hP9 := hP.sub (ws' := ([])) [] rfl
  have hD9 := hD.sub (ws' := ([])) [] (by decide) rfl
  have hK9 := hK.sub (tys' := []) [] rfl
  exact W.iret (v := 1) hx hb hr (fun t ht hW => ⟨⟨1, (), rfl, ⟨rfl, hE⟩, ⟨by rw [ht]; exact hP9, va_K.moved hW.alike hK9, hD9⟩⟩, hS.F ht⟩) hS.2.2 dL_across_18 hlocks

set_option maxHeartbeats 4000000 in
set_option maxRecDepth 100000 in
theorem w_above (l : Launch) (hst : l.stackTraces = false) (D : va_G) (de : Nat) (ad : Nat → Nat) (p0 p1 p2 : Int32) (sz : Nat) : Met l yL_above wsL_above ({ frames := 8, cells := 1, slots := 6, locals := 128 } : Room) (va_Pc [.ref (ad 0), .int p0, .int p1, .int p2, .ref (ad 46)] (PX de D ([]) (wX ad) sz)) (va_Qi (fun (r : Int32) (u : Unit) => (r = 1 ∧ True)) (fun u t => PW D ([]) (va_A (wX ad) sz) ([]) t) (va_A (wX ad) sz)) 1 6 (va_A (wX ad) sz) := by
  refine va_MetW (cc := cL_above) (maxL := 6) (ret := (some .int)) (by decide) rfl ?_
  intro p e s m args below meth c s₁ B hml hv
  obtain ⟨rfl, hsz, hP, hK, hD0, hTK, hZ⟩ := hv
  have hx := B.exec
  have hb := B.bytes
  have hr := B.returns
  have hts := atoms_spec (ws := wsL_above) B.pre
  have hown : s.vm.findClass RL = some m.cls := findClass_of_methodNamed B.named
  have hlocks := B.notSynchronized
  have htab := vx_table (x := yL_above) B (hts _ List.mem_cons_self)
  subst hsz
  have hD := hD0.self (sz := s.heap.size)
  generalize hAe : va_A (wX ad) s.heap.size = A at hD hZ ⊢
  have hA : ∀ q : Nat, s.heap.size ≤ q → A q := fun q h => by rw [← hAe]; exact Or.inr h
  have hS : va_S A s.heap s.heap [] := va_S.rf
  have hP : va_P D vwCl (wX ad) s.heap := hP
  have hD : va_D A (wX ad) := hD
  have hl := lv_entry ([.ref (ad 0), .int p0, .int p1, .int p2, .ref (ad 46)]) (n := 6) (Nat.le_of_ble_eq_true rfl)
  rw [lg_entry_eq]
  generalize (lg_sl ([.ref (ad 0), .int p0, .int p1, .int p2, .ref (ad 46)]) ++ List.replicate (6 - (lg_sl ([.ref (ad 0), .int p0, .int p1, .int p2, .ref (ad 46)])).length) Slot.unset).toArray = ls at hl ⊢
  have hl : lv_has ls 6 [(0, .ref (ad 0)), (1, .int p0), (2, .int p1), (3, .int p2), (4, .ref (ad 46))] := hl
  refine lv_aload hx hb dL_above_0 (lv_at hl 4 rfl) ?_
  refine lv_iconst (v := 0) hx hb dL_above_2 (by decide) ?_
  refine lv_aload_n hx hb dL_above_3 rfl (lv_at hl 0 rfl) ?_
  refine lv_iload_n hx hb dL_above_4 rfl (lv_at hl 1 rfl) ?_
  refine lv_iload_n hx hb dL_above_5 rfl (lv_at hl 2 rfl) ?_
  refine lv_iload_n hx hb dL_above_6 rfl (lv_at hl 3 rfl) ?_
  refine kt_i (wc := wX ad) (wr := []) hP hD hS hA [0, 1, 2, 3, 4, 5] [] rfl rfl (by decide) (by decide) (vx_runV (As := [.int p0, .int p1, .int p2]) (rest := [.int 0, .ref (ad 46)]) ⟨hx, hb, hml, hown, hts⟩ (f_above l hst D de ad p0 p1 p2 s.heap.size) (cwV 3 hts gL_above_X11_above rfl rfl rfl (by decide +kernel) ⟨Nat.le_of_ble_eq_true rfl, Nat.le_of_ble_eq_true rfl⟩) ⟨px_blind, (va_recv hK hP (ci := 16) (q0 := 0) rfl rfl), (px_pre hP hD hK hS hA hTK hZ [0, 1, 2, 3, 4, 5] rfl rfl (by decide) [] rfl)⟩ rfl rfl hl.1 rfl (lv_room (Nat.le_of_ble_eq_true rfl)) dL_above_7 ⟨(Nat.le_of_ble_eq_true rfl), (Nat.le_of_ble_eq_true rfl)⟩) (fun E q9 H locs hE hq hP hD hS => ?_) (fun r_1 u H locs hw hP hD hK1 hS => hw.elim)
  obtain ⟨rfl, hE⟩ := hE
  obtain ⟨ce9, hq1, hq2, hq3⟩ := hq
  refine vx_catch (own := RL) (name := "java/lang/IndexOutOfBoundsException") hown [] (⟨0, 12, 15, 19⟩ : ExceptionTableEntry) [(⟨0, 12, 19, 13⟩ : ExceptionTableEntry)] htab (fun _ h9 => absurd h9 List.not_mem_nil) (by decide) (by decide) (va_Nw.use rfl (hTK.2.2.2.2.2.2.2.2.2.2.1 (RL, 19, "java/lang/IndexOutOfBoundsException") (by decide +kernel))) (va_Nw.use rfl (hTK.1 "java/lang/IndexOutOfBoundsException" (by decide +kernel))) hq1 hq2 hq3 ?_
  refine W.eq (g2 := F0 m 15 ls [.ref q9]) rfl ?_
  refine lv_astore (lv' := [(5, .ref q9), (0, .ref (ad 0)), (1, .int p0), (2, .int p1), (3, .int p2), (4, .ref (ad 46))]) hx hb dL_above_15 hl (by decide) rfl (fun ls hl => ?_)
  refine lv_iconst (v := 1) hx hb dL_above_17 (by decide) ?_
  refine W.widen (k := 1) (n := 6) (Nat.le_of_ble_eq_true rfl) (Nat.le_of_ble_eq_true rfl) ?_
  have hP9 := hP.sub (ws' := ([])) [] rfl
  have hD9 := hD.sub (ws' := ([])) [] (by decide) rfl
  have hK9 := hK.sub (tys' := []) [] rfl
  exact W.iret (v := 1) hx hb hr (fun t ht hW => ⟨⟨1, (), rfl, ⟨rfl, hE⟩, ⟨by rw [ht]; exact hP9, va_K.moved hW.alike hK9, hD9⟩⟩, hS.F ht⟩) hS.2.2 dL_above_18 hlocks

set_option maxHeartbeats 4000000 in
set_option maxRecDepth 100000 in
theorem w_apart (l : Launch) (hst : l.stackTraces = false) (D : va_G) (de : Nat) (ad : Nat → Nat) (p0 p1 p2 : Int32) (sz : Nat) : Met l yL_apart wsL_apart ({ frames := 8, cells := 1, slots := 6, locals := 133 } : Room) (va_Pc [.ref (ad 0), .int p0, .int p1, .int p2, .ref (ad 46)] (PX de D ([]) (wX ad) sz)) (va_Qi (fun (r : Int32) (u : Unit) => (r = 1 ∧ True)) (fun u t => PW D ([]) (va_A (wX ad) sz) ([]) t) (va_A (wX ad) sz)) 1 6 (va_A (wX ad) sz) := by
  refine va_MetW (cc := cL_apart) (maxL := 6) (ret := (some .int)) (by decide) rfl ?_
  intro p e s m args below meth c s₁ B hml hv
  obtain ⟨rfl, hsz, hP, hK, hD0, hTK, hZ⟩ := hv
  have hx := B.exec
  have hb := B.bytes
  have hr := B.returns
  have hts := atoms_spec (ws := wsL_apart) B.pre
  have hown : s.vm.findClass RL = some m.cls := findClass_of_methodNamed B.named
  have hlocks := B.notSynchronized
  have htab := vx_table (x := yL_apart) B (hts _ List.mem_cons_self)
  subst hsz
  have hD := hD0.self (sz := s.heap.size)
  generalize hAe : va_A (wX ad) s.heap.size = A at hD hZ ⊢
  have hA : ∀ q : Nat, s.heap.size ≤ q → A q := fun q h => by rw [← hAe]; exact Or.inr h
  have hS : va_S A s.heap s.heap [] := va_S.rf
  have hP : va_P D vwCl (wX ad) s.heap := hP
  have hD : va_D A (wX ad) := hD
  have hl := lv_entry ([.ref (ad 0), .int p0, .int p1, .int p2, .ref (ad 46)]) (n := 6) (Nat.le_of_ble_eq_true rfl)
  rw [lg_entry_eq]
  generalize (lg_sl ([.ref (ad 0), .int p0, .int p1, .int p2, .ref (ad 46)]) ++ List.replicate (6 - (lg_sl ([.ref (ad 0), .int p0, .int p1, .int p2, .ref (ad 46)])).length) Slot.unset).toArray = ls at hl ⊢
  have hl : lv_has ls 6 [(0, .ref (ad 0)), (1, .int p0), (2, .int p1), (3, .int p2), (4, .ref (ad 46))] := hl
  refine lv_aload hx hb dL_apart_0 (lv_at hl 4 rfl) ?_
  refine lv_iconst (v := 0) hx hb dL_apart_2 (by decide) ?_
  refine lv_aload_n hx hb dL_apart_3 rfl (lv_at hl 0 rfl) ?_
  refine lv_iload_n hx hb dL_apart_4 rfl (lv_at hl 1 rfl) ?_
  refine lv_iload_n hx hb dL_apart_5 rfl (lv_at hl 2 rfl) ?_
  refine lv_iload_n hx hb dL_apart_6 rfl (lv_at hl 3 rfl) ?_
  refine kt_l (wc := wX ad) (wr := []) hP hD hS hA [0, 1, 2, 3, 4, 5] [] rfl rfl (by decide) (by decide) (vx_runV (As := [.int p0, .int p1, .int p2]) (rest := [.int 0, .ref (ad 46)]) ⟨hx, hb, hml, hown, hts⟩ (f_apart l hst D de ad p0 p1 p2 s.heap.size) (cwV 3 hts gL_apart_X11_apart rfl rfl rfl (by decide +kernel) ⟨Nat.le_of_ble_eq_true rfl, Nat.le_of_ble_eq_true rfl⟩) ⟨px_blind, (va_recv hK hP (ci := 16) (q0 := 0) rfl rfl), (px_pre hP hD hK hS hA hTK hZ [0, 1, 2, 3, 4, 5] rfl rfl (by decide) [] rfl)⟩ rfl rfl hl.1 rfl (lv_room (Nat.le_of_ble_eq_true rfl)) dL_apart_7 ⟨(Nat.le_of_ble_eq_true rfl), (Nat.le_of_ble_eq_true rfl)⟩) (fun E q9 H locs hE hq hP hD hS => ?_) (fun r_1 u H locs hw hP hD hK1 hS => hw.elim)
  obtain ⟨rfl, hE⟩ := hE
  obtain ⟨ce9, hq1, hq2, hq3⟩ := hq
  refine vx_catch (own := RL) (name := "java/lang/IndexOutOfBoundsException") hown [] (⟨0, 11, 14, 19⟩ : ExceptionTableEntry) [(⟨0, 11, 18, 13⟩ : ExceptionTableEntry)] htab (fun _ h9 => absurd h9 List.not_mem_nil) (by decide) (by decide) (va_Nw.use rfl (hTK.2.2.2.2.2.2.2.2.2.2.1 (RL, 19, "java/lang/IndexOutOfBoundsException") (by decide +kernel))) (va_Nw.use rfl (hTK.1 "java/lang/IndexOutOfBoundsException" (by decide +kernel))) hq1 hq2 hq3 ?_
  refine W.eq (g2 := F0 m 14 ls [.ref q9]) rfl ?_
  refine lv_astore (lv' := [(5, .ref q9), (0, .ref (ad 0)), (1, .int p0), (2, .int p1), (3, .int p2), (4, .ref (ad 46))]) hx hb dL_apart_14 hl (by decide) rfl (fun ls hl => ?_)
  refine lv_iconst (v := 1) hx hb dL_apart_16 (by decide) ?_
  refine W.widen (k := 1) (n := 6) (Nat.le_of_ble_eq_true rfl) (Nat.le_of_ble_eq_true rfl) ?_
  have hP9 := hP.sub (ws' := ([])) [] rfl
  have hD9 := hD.sub (ws' := ([])) [] (by decide) rfl
  have hK9 := hK.sub (tys' := []) [] rfl
  exact W.iret (v := 1) hx hb hr (fun t ht hW => ⟨⟨1, (), rfl, ⟨rfl, hE⟩, ⟨by rw [ht]; exact hP9, va_K.moved hW.alike hK9, hD9⟩⟩, hS.F ht⟩) hS.2.2 dL_apart_17 hlocks

set_option maxHeartbeats 4000000 in
set_option maxRecDepth 100000 in
theorem w_doesShut (l : Launch) (hst : l.stackTraces = false) (D : va_G) (de : Nat) (ad : Nat → Nat) (sz : Nat) : Met l yL_doesShut wsL_doesShut ({ frames := 8, cells := 1, slots := 6, locals := 122 } : Room) (va_Pc [.ref (ad 0), .ref (ad 46)] (PX de D ([]) (wX ad) sz)) (va_Qi (fun (r : Int32) (u : Unit) => (r = 1 ∧ True)) (fun u t => PW D ([]) (va_A (wX ad) sz) ([]) t) (va_A (wX ad) sz)) 1 6 (va_A (wX ad) sz) := by
  refine va_MetW (cc := cL_doesShut) (maxL := 3) (ret := (some .int)) (by decide) rfl ?_
  intro p e s m args below meth c s₁ B hml hv
  obtain ⟨rfl, hsz, hP, hK, hD0, hTK, hZ⟩ := hv
  have hx := B.exec
  have hb := B.bytes
  have hr := B.returns
  have hts := atoms_spec (ws := wsL_doesShut) B.pre
  have hown : s.vm.findClass RL = some m.cls := findClass_of_methodNamed B.named
  have hlocks := B.notSynchronized
  have htab := vx_table (x := yL_doesShut) B (hts _ List.mem_cons_self)
  subst hsz
  have hD := hD0.self (sz := s.heap.size)
  generalize hAe : va_A (wX ad) s.heap.size = A at hD hZ ⊢
  have hA : ∀ q : Nat, s.heap.size ≤ q → A q := fun q h => by rw [← hAe]; exact Or.inr h
  have hS : va_S A s.heap s.heap [] := va_S.rf
  have hP : va_P D vwCl (wX ad) s.heap := hP
  have hD : va_D A (wX ad) := hD
  have hl := lv_entry ([.ref (ad 0), .ref (ad 46)]) (n := 3) (Nat.le_of_ble_eq_true rfl)
  rw [lg_entry_eq]
  generalize (lg_sl ([.ref (ad 0), .ref (ad 46)]) ++ List.replicate (3 - (lg_sl ([.ref (ad 0), .ref (ad 46)])).length) Slot.unset).toArray = ls at hl ⊢
  have hl : lv_has ls 3 [(0, .ref (ad 0)), (1, .ref (ad 46))] := hl
  refine lv_aload_n hx hb dL_doesShut_0 rfl (lv_at hl 1 rfl) ?_
  refine lv_iconst (v := 0) hx hb dL_doesShut_1 (by decide) ?_
  refine lv_aload_n hx hb dL_doesShut_2 rfl (lv_at hl 0 rfl) ?_
  refine kt_i (wc := wX ad) (wr := []) hP hD hS hA [0, 1, 2, 3, 4, 5] [] rfl rfl (by decide) (by decide) (vx_runV (As := []) (rest := [.int 0, .ref (ad 46)]) ⟨hx, hb, hml, hown, hts⟩ (f_doesShut l hst D de ad s.heap.size) (cwV 0 hts gL_doesShut_X11_doesShut rfl rfl rfl (by decide +kernel) ⟨Nat.le_of_ble_eq_true rfl, Nat.le_of_ble_eq_true rfl⟩) ⟨px_blind, (va_recv hK hP (ci := 16) (q0 := 0) rfl rfl), (px_pre hP hD hK hS hA hTK hZ [0, 1, 2, 3, 4, 5] rfl rfl (by decide) [] rfl)⟩ rfl rfl hl.1 rfl (lv_room (Nat.le_of_ble_eq_true rfl)) dL_doesShut_3 ⟨(Nat.le_of_ble_eq_true rfl), (Nat.le_of_ble_eq_true rfl)⟩) (fun E q9 H locs hE hq hP hD hS => ?_) (fun r_1 u H locs hw hP hD hK1 hS => hw.elim)
  obtain ⟨rfl, hE⟩ := hE
  obtain ⟨ce9, hq1, hq2, hq3⟩ := hq
  refine vx_catch (own := RL) (name := "java/lang/UnsupportedOperationException") hown [] (⟨0, 15, 18, 31⟩ : ExceptionTableEntry) [] htab (fun _ h9 => absurd h9 List.not_mem_nil) (by decide) (by decide) (va_Nw.use rfl (hTK.2.2.2.2.2.2.2.2.2.2.1 (RL, 31, "java/lang/UnsupportedOperationException") (by decide +kernel))) (va_Nw.use rfl (hTK.1 "java/lang/UnsupportedOperationException" (by decide +kernel))) hq1 hq2 hq3 ?_
  refine W.eq (g2 := F0 m 18 ls [.ref q9]) rfl ?_
  refine lv_astore_n (lv' := [(2, .ref q9), (0, .ref (ad 0)), (1, .ref (ad 46))]) hx hb dL_doesShut_18 rfl hl (by decide) rfl (fun ls hl => ?_)
  refine lv_iconst (v := 1) hx hb dL_doesShut_19 (by decide) ?_
  refine W.widen (k := 1) (n := 6) (Nat.le_of_ble_eq_true rfl) (Nat.le_of_ble_eq_true rfl) ?_
  have hP9 := hP.sub (ws' := ([])) [] rfl
  have hD9 := hD.sub (ws' := ([])) [] (by decide) rfl
  have hK9 := hK.sub (tys' := []) [] rfl
  exact W.iret (v := 1) hx hb hr (fun t ht hW => ⟨⟨1, (), rfl, ⟨rfl, hE⟩, ⟨by rw [ht]; exact hP9, va_K.moved hW.alike hK9, hD9⟩⟩, hS.F ht⟩) hS.2.2 dL_doesShut_20 hlocks

set_option maxHeartbeats 4000000 in
set_option maxRecDepth 100000 in
theorem w_sticksOut (l : Launch) (hst : l.stackTraces = false) (D : va_G) (de : Nat) (ad : Nat → Nat) (p0 : Int32) (sz : Nat) : Met l yL_sticksOut wsL_sticksOut ({ frames := 8, cells := 1, slots := 6, locals := 125 } : Room) (va_Pc [.ref (ad 0), .int p0, .ref (ad 46)] (PX de D ([]) (wX ad) sz)) (va_Qi (fun (r : Int32) (u : Unit) => (r = 1 ∧ True)) (fun u t => PW D ([]) (va_A (wX ad) sz) ([]) t) (va_A (wX ad) sz)) 1 6 (va_A (wX ad) sz) := by
  refine va_MetW (cc := cL_sticksOut) (maxL := 4) (ret := (some .int)) (by decide) rfl ?_
  intro p e s m args below meth c s₁ B hml hv
  obtain ⟨rfl, hsz, hP, hK, hD0, hTK, hZ⟩ := hv
  have hx := B.exec
  have hb := B.bytes
  have hr := B.returns
  have hts := atoms_spec (ws := wsL_sticksOut) B.pre
  have hown : s.vm.findClass RL = some m.cls := findClass_of_methodNamed B.named
  have hlocks := B.notSynchronized
  have htab := vx_table (x := yL_sticksOut) B (hts _ List.mem_cons_self)
  subst hsz
  have hD := hD0.self (sz := s.heap.size)
  generalize hAe : va_A (wX ad) s.heap.size = A at hD hZ ⊢
  have hA : ∀ q : Nat, s.heap.size ≤ q → A q := fun q h => by rw [← hAe]; exact Or.inr h
  have hS : va_S A s.heap s.heap [] := va_S.rf
  have hP : va_P D vwCl (wX ad) s.heap := hP
  have hD : va_D A (wX ad) := hD
  have hl := lv_entry ([.ref (ad 0), .int p0, .ref (ad 46)]) (n := 4) (Nat.le_of_ble_eq_true rfl)
  rw [lg_entry_eq]
  generalize (lg_sl ([.ref (ad 0), .int p0, .ref (ad 46)]) ++ List.replicate (4 - (lg_sl ([.ref (ad 0), .int p0, .ref (ad 46)])).length) Slot.unset).toArray = ls at hl ⊢
  have hl : lv_has ls 4 [(0, .ref (ad 0)), (1, .int p0), (2, .ref (ad 46))] := hl
  refine lv_aload_n hx hb dL_sticksOut_0 rfl (lv_at hl 2 rfl) ?_
  refine lv_iconst (v := 0) hx hb dL_sticksOut_1 (by decide) ?_
  refine lv_aload_n hx hb dL_sticksOut_2 rfl (lv_at hl 0 rfl) ?_
  refine lv_iload_n hx hb dL_sticksOut_3 rfl (lv_at hl 1 rfl) ?_
  refine kt_i (wc := wX ad) (wr := []) hP hD hS hA [0, 1, 2, 3, 4, 5] [] rfl rfl (by decide) (by decide) (vx_runV (As := [.int p0]) (rest := [.int 0, .ref (ad 46)]) ⟨hx, hb, hml, hown, hts⟩ (f_sticksOut l hst D de ad p0 s.heap.size) (cwV 1 hts gL_sticksOut_X11_sticksOut rfl rfl rfl (by decide +kernel) ⟨Nat.le_of_ble_eq_true rfl, Nat.le_of_ble_eq_true rfl⟩) ⟨px_blind, (va_recv hK hP (ci := 16) (q0 := 0) rfl rfl), (px_pre hP hD hK hS hA hTK hZ [0, 1, 2, 3, 4, 5] rfl rfl (by decide) [] rfl)⟩ rfl rfl hl.1 rfl (lv_room (Nat.le_of_ble_eq_true rfl)) dL_sticksOut_4 ⟨(Nat.le_of_ble_eq_true rfl), (Nat.le_of_ble_eq_true rfl)⟩) (fun E q9 H locs hE hq hP hD hS => ?_) (fun r_1 u H locs hw hP hD hK1 hS => hw.elim)
  obtain ⟨rfl, hE⟩ := hE
  obtain ⟨ce9, hq1, hq2, hq3⟩ := hq
  refine vx_catch (own := RL) (name := "java/lang/IndexOutOfBoundsException") hown [] (⟨0, 9, 12, 19⟩ : ExceptionTableEntry) [] htab (fun _ h9 => absurd h9 List.not_mem_nil) (by decide) (by decide) (va_Nw.use rfl (hTK.2.2.2.2.2.2.2.2.2.2.1 (RL, 19, "java/lang/IndexOutOfBoundsException") (by decide +kernel))) (va_Nw.use rfl (hTK.1 "java/lang/IndexOutOfBoundsException" (by decide +kernel))) hq1 hq2 hq3 ?_
  refine W.eq (g2 := F0 m 12 ls [.ref q9]) rfl ?_
  refine lv_astore_n (lv' := [(3, .ref q9), (0, .ref (ad 0)), (1, .int p0), (2, .ref (ad 46))]) hx hb dL_sticksOut_12 rfl hl (by decide) rfl (fun ls hl => ?_)
  refine lv_iconst (v := 1) hx hb dL_sticksOut_13 (by decide) ?_
  refine W.widen (k := 1) (n := 6) (Nat.le_of_ble_eq_true rfl) (Nat.le_of_ble_eq_true rfl) ?_
  have hP9 := hP.sub (ws' := ([])) [] rfl
  have hD9 := hD.sub (ws' := ([])) [] (by decide) rfl
  have hK9 := hK.sub (tys' := []) [] rfl
  exact W.iret (v := 1) hx hb hr (fun t ht hW => ⟨⟨1, (), rfl, ⟨rfl, hE⟩, ⟨by rw [ht]; exact hP9, va_K.moved hW.alike hK9, hD9⟩⟩, hS.F ht⟩) hS.2.2 dL_sticksOut_14 hlocks

set_option maxHeartbeats 4000000 in
set_option maxRecDepth 100000 in
theorem w_clashOf (l : Launch) (hst : l.stackTraces = false) (D : va_G) (de : Nat) (ad : Nat → Nat) (p0 : Int32) (sz : Nat) : Met l yL_clashOf wnL_clashOf ({ frames := 8, cells := 1, slots := 6, locals := 127 } : Room) (va_Pc [.ref (ad 0), .int p0, .ref (ad 46)] (PX de D ([]) (wX ad) sz)) (va_Qi (fun (r : Int32) (u : Unit) => (r = 1 ∧ True)) (fun u t => PW D ([]) (va_A (wX ad) sz) ([]) t) (va_A (wX ad) sz)) 1 6 (va_A (wX ad) sz) := by
  refine va_MetW (cc := cL_clashOf) (maxL := 4) (ret := (some .int)) (by decide) rfl ?_
  intro p e s m args below meth c s₁ B hml hv
  obtain ⟨rfl, hsz, hP, hK, hD0, hTK, hZ⟩ := hv
  have hx := B.exec
  have hb := B.bytes
  have hr := B.returns
  have hts := atoms_spec (ws := wnL_clashOf) B.pre
  have hown : s.vm.findClass RL = some m.cls := findClass_of_methodNamed B.named
  have hlocks := B.notSynchronized
  have htab := vx_table (x := yL_clashOf) B (hts _ List.mem_cons_self)
  subst hsz
  have hD := hD0.self (sz := s.heap.size)
  generalize hAe : va_A (wX ad) s.heap.size = A at hD hZ ⊢
  have hA : ∀ q : Nat, s.heap.size ≤ q → A q := fun q h => by rw [← hAe]; exact Or.inr h
  have hS : va_S A s.heap s.heap [] := va_S.rf
  have hP : va_P D vwCl (wX ad) s.heap := hP
  have hD : va_D A (wX ad) := hD
  have hl := lv_entry ([.ref (ad 0), .int p0, .ref (ad 46)]) (n := 4) (Nat.le_of_ble_eq_true rfl)
  rw [lg_entry_eq]
  generalize (lg_sl ([.ref (ad 0), .int p0, .ref (ad 46)]) ++ List.replicate (4 - (lg_sl ([.ref (ad 0), .int p0, .ref (ad 46)])).length) Slot.unset).toArray = ls at hl ⊢
  have hl : lv_has ls 4 [(0, .ref (ad 0)), (1, .int p0), (2, .ref (ad 46))] := hl
  refine lv_aload_n hx hb dL_clashOf_0 rfl (lv_at hl 2 rfl) ?_
  refine lv_iconst (v := 0) hx hb dL_clashOf_1 (by decide) ?_
  refine lv_aload_n hx hb dL_clashOf_2 rfl (lv_at hl 0 rfl) ?_
  refine lv_iload_n hx hb dL_clashOf_3 rfl (lv_at hl 1 rfl) ?_
  refine kt_i (wc := wX ad) (wr := []) hP hD hS hA [0, 1, 2, 3, 4, 5] [] rfl rfl (by decide) (by decide) (vx_runV (As := [.int p0]) (rest := [.int 0, .ref (ad 46)]) ⟨hx, hb, hml, hown, hts⟩ (f_clashOf l hst D de ad p0 s.heap.size) (cwV 1 hts (gn_both rfl rfl (by decide +kernel) gL_clashOf_X11_clashOf) rfl rfl rfl (by decide +kernel) ⟨Nat.le_of_ble_eq_true rfl, Nat.le_of_ble_eq_true rfl⟩) ⟨px_blind, (va_recv hK hP (ci := 16) (q0 := 0) rfl rfl), (px_pre hP hD hK hS hA hTK hZ [0, 1, 2, 3, 4, 5] rfl rfl (by decide) [] rfl)⟩ rfl rfl hl.1 rfl (lv_room (Nat.le_of_ble_eq_true rfl)) dL_clashOf_4 ⟨(Nat.le_of_ble_eq_true rfl), (Nat.le_of_ble_eq_true rfl)⟩) (fun E q9 H locs hE hq hP hD hS => ?_) (fun r_1 u H locs hw hP hD hK1 hS => hw.elim)
  obtain ⟨rfl, hE⟩ := hE
  obtain ⟨ce9, hq1, hq2, hq3⟩ := hq
  refine vx_catch (own := RL) (name := "java/lang/IndexOutOfBoundsException") hown [] (⟨0, 9, 12, 19⟩ : ExceptionTableEntry) [(⟨0, 9, 15, 55⟩ : ExceptionTableEntry)] htab (fun _ h9 => absurd h9 List.not_mem_nil) (by decide) (by decide) (va_Nw.use rfl (hTK.2.2.2.2.2.2.2.2.2.2.1 (RL, 19, "java/lang/IndexOutOfBoundsException") (by decide +kernel))) (va_Nw.use rfl (hTK.1 "java/lang/IndexOutOfBoundsException" (by decide +kernel))) hq1 hq2 hq3 ?_
  refine W.eq (g2 := F0 m 12 ls [.ref q9]) rfl ?_
  refine lv_astore_n (lv' := [(3, .ref q9), (0, .ref (ad 0)), (1, .int p0), (2, .ref (ad 46))]) hx hb dL_clashOf_12 rfl hl (by decide) rfl (fun ls hl => ?_)
  refine lv_iconst (v := 1) hx hb dL_clashOf_13 (by decide) ?_
  refine W.widen (k := 1) (n := 6) (Nat.le_of_ble_eq_true rfl) (Nat.le_of_ble_eq_true rfl) ?_
  have hP9 := hP.sub (ws' := ([])) [] rfl
  have hD9 := hD.sub (ws' := ([])) [] (by decide) rfl
  have hK9 := hK.sub (tys' := []) [] rfl
  exact W.iret (v := 1) hx hb hr (fun t ht hW => ⟨⟨1, (), rfl, ⟨rfl, hE⟩, ⟨by rw [ht]; exact hP9, va_K.moved hW.alike hK9, hD9⟩⟩, hS.F ht⟩) hS.2.2 dL_clashOf_14 hlocks

set_option maxHeartbeats 4000000 in
set_option maxRecDepth 100000 in
theorem w_isGood (l : Launch) (hst : l.stackTraces = false) (D : va_G) (de : Nat) (ad : Nat → Nat) (sz : Nat) : Met l yL_isGood wsL_isGood ({ frames := 8, cells := 1, slots := 6, locals := 122 } : Room) (va_Pc [.ref (ad 0), .ref (ad 46)] (PX de D ([]) (wX ad) sz)) (va_Qi (fun (r : Int32) (u : Unit) => (r = 1 ∧ True)) (fun u t => PW D ([]) (va_A (wX ad) sz) ([]) t) (va_A (wX ad) sz)) 1 6 (va_A (wX ad) sz) := by
  refine va_MetW (cc := cL_isGood) (maxL := 3) (ret := (some .int)) (by decide) rfl ?_
  intro p e s m args below meth c s₁ B hml hv
  obtain ⟨rfl, hsz, hP, hK, hD0, hTK, hZ⟩ := hv
  have hx := B.exec
  have hb := B.bytes
  have hr := B.returns
  have hts := atoms_spec (ws := wsL_isGood) B.pre
  have hown : s.vm.findClass RL = some m.cls := findClass_of_methodNamed B.named
  have hlocks := B.notSynchronized
  have htab := vx_table (x := yL_isGood) B (hts _ List.mem_cons_self)
  subst hsz
  have hD := hD0.self (sz := s.heap.size)
  generalize hAe : va_A (wX ad) s.heap.size = A at hD hZ ⊢
  have hA : ∀ q : Nat, s.heap.size ≤ q → A q := fun q h => by rw [← hAe]; exact Or.inr h
  have hS : va_S A s.heap s.heap [] := va_S.rf
  have hP : va_P D vwCl (wX ad) s.heap := hP
  have hD : va_D A (wX ad) := hD
  have hl := lv_entry ([.ref (ad 0), .ref (ad 46)]) (n := 3) (Nat.le_of_ble_eq_true rfl)
  rw [lg_entry_eq]
  generalize (lg_sl ([.ref (ad 0), .ref (ad 46)]) ++ List.replicate (3 - (lg_sl ([.ref (ad 0), .ref (ad 46)])).length) Slot.unset).toArray = ls at hl ⊢
  have hl : lv_has ls 3 [(0, .ref (ad 0)), (1, .ref (ad 46))] := hl
  refine lv_aload_n hx hb dL_isGood_0 rfl (lv_at hl 1 rfl) ?_
  refine lv_iconst (v := 0) hx hb dL_isGood_1 (by decide) ?_
  refine lv_aload_n hx hb dL_isGood_2 rfl (lv_at hl 0 rfl) ?_
  refine kt_i (wc := wX ad) (wr := []) hP hD hS hA [0, 1, 2, 3, 4, 5] [] rfl rfl (by decide) (by decide) (vx_runV (As := []) (rest := [.int 0, .ref (ad 46)]) ⟨hx, hb, hml, hown, hts⟩ (f_isGood l hst D de ad s.heap.size) (cwV 0 hts gL_isGood_X11_isGood rfl rfl rfl (by decide +kernel) ⟨Nat.le_of_ble_eq_true rfl, Nat.le_of_ble_eq_true rfl⟩) ⟨px_blind, (va_recv hK hP (ci := 16) (q0 := 0) rfl rfl), (px_pre hP hD hK hS hA hTK hZ [0, 1, 2, 3, 4, 5] rfl rfl (by decide) [] rfl)⟩ rfl rfl hl.1 rfl (lv_room (Nat.le_of_ble_eq_true rfl)) dL_isGood_3 ⟨(Nat.le_of_ble_eq_true rfl), (Nat.le_of_ble_eq_true rfl)⟩) (fun E q9 H locs hE hq hP hD hS => ?_) (fun r_1 u H locs hw hP hD hK1 hS => hw.elim)
  obtain ⟨rfl, hE⟩ := hE
  obtain ⟨ce9, hq1, hq2, hq3⟩ := hq
  refine vx_catch (own := RL) (name := "java/lang/UnsupportedOperationException") hown [] (⟨0, 15, 18, 31⟩ : ExceptionTableEntry) [] htab (fun _ h9 => absurd h9 List.not_mem_nil) (by decide) (by decide) (va_Nw.use rfl (hTK.2.2.2.2.2.2.2.2.2.2.1 (RL, 31, "java/lang/UnsupportedOperationException") (by decide +kernel))) (va_Nw.use rfl (hTK.1 "java/lang/UnsupportedOperationException" (by decide +kernel))) hq1 hq2 hq3 ?_
  refine W.eq (g2 := F0 m 18 ls [.ref q9]) rfl ?_
  refine lv_astore_n (lv' := [(2, .ref q9), (0, .ref (ad 0)), (1, .ref (ad 46))]) hx hb dL_isGood_18 rfl hl (by decide) rfl (fun ls hl => ?_)
  refine lv_iconst (v := 1) hx hb dL_isGood_19 (by decide) ?_
  refine W.widen (k := 1) (n := 6) (Nat.le_of_ble_eq_true rfl) (Nat.le_of_ble_eq_true rfl) ?_
  have hP9 := hP.sub (ws' := ([])) [] rfl
  have hD9 := hD.sub (ws' := ([])) [] (by decide) rfl
  have hK9 := hK.sub (tys' := []) [] rfl
  exact W.iret (v := 1) hx hb hr (fun t ht hW => ⟨⟨1, (), rfl, ⟨rfl, hE⟩, ⟨by rw [ht]; exact hP9, va_K.moved hW.alike hK9, hD9⟩⟩, hS.F ht⟩) hS.2.2 dL_isGood_20 hlocks

set_option maxHeartbeats 4000000 in
set_option maxRecDepth 100000 in
theorem w_sees (l : Launch) (hst : l.stackTraces = false) (D : va_G) (de : Nat) (ad : Nat → Nat) (p0 p1 p2 : Int32) (sz : Nat) : Met l yL_sees wnL_sees ({ frames := 8, cells := 2, slots := 12, locals := 127 } : Room) (va_Pc [.ref (ad 0), .int p0, .int p1, .int p2, .ref (ad 46)] (PX de D ([]) (wX ad) sz)) (va_Qi (fun (r : Int32) (u : Unit) => (r = 1 ∧ inR p0 1 17 = 0) ∨ (r = 2 ∧ ¬ inR p0 1 17 = 0)) (fun u t => PW D ([]) (va_A (wX ad) sz) ([]) t) (va_A (wX ad) sz)) 2 12 (va_A (wX ad) sz) := by
  refine va_MetW (cc := cL_sees) (maxL := 6) (ret := (some .int)) (by decide) rfl ?_
  intro p e s m args below meth c s₁ B hml hv
  obtain ⟨rfl, hsz, hP, hK, hD0, hTK, hZ⟩ := hv
  have hx := B.exec
  have hb := B.bytes
  have hr := B.returns
  have hts := atoms_spec (ws := wnL_sees) B.pre
  have hown : s.vm.findClass RL = some m.cls := findClass_of_methodNamed B.named
  have hlocks := B.notSynchronized
  have htab := vx_table (x := yL_sees) B (hts _ List.mem_cons_self)
  subst hsz
  have hD := hD0.self (sz := s.heap.size)
  generalize hAe : va_A (wX ad) s.heap.size = A at hD hZ ⊢
  have hA : ∀ q : Nat, s.heap.size ≤ q → A q := fun q h => by rw [← hAe]; exact Or.inr h
  have hS : va_S A s.heap s.heap [] := va_S.rf
  have hP : va_P D vwCl (wX ad) s.heap := hP
  have hD : va_D A (wX ad) := hD
  have hl := lv_entry ([.ref (ad 0), .int p0, .int p1, .int p2, .ref (ad 46)]) (n := 6) (Nat.le_of_ble_eq_true rfl)
  rw [lg_entry_eq]
  generalize (lg_sl ([.ref (ad 0), .int p0, .int p1, .int p2, .ref (ad 46)]) ++ List.replicate (6 - (lg_sl ([.ref (ad 0), .int p0, .int p1, .int p2, .ref (ad 46)])).length) Slot.unset).toArray = ls at hl ⊢
  have hl : lv_has ls 6 [(0, .ref (ad 0)), (1, .int p0), (2, .int p1), (3, .int p2), (4, .ref (ad 46))] := hl
  refine lv_aload hx hb dL_sees_0 (lv_at hl 4 rfl) ?_
  refine lv_iconst (v := 0) hx hb dL_sees_2 (by decide) ?_
  refine lv_aload_n hx hb dL_sees_3 rfl (lv_at hl 0 rfl) ?_
  refine lv_iload_n hx hb dL_sees_4 rfl (lv_at hl 1 rfl) ?_
  refine lv_iload_n hx hb dL_sees_5 rfl (lv_at hl 2 rfl) ?_
  refine lv_iload_n hx hb dL_sees_6 rfl (lv_at hl 3 rfl) ?_
  refine kt_i (wc := wX ad) (wr := []) hP hD hS hA [0, 1, 2, 3, 4, 5] [] rfl rfl (by decide) (by decide) (vx_runV (As := [.int p0, .int p1, .int p2]) (rest := [.int 0, .ref (ad 46)]) ⟨hx, hb, hml, hown, hts⟩ (f_sees l hst D de ad p0 p1 p2 s.heap.size) (cwV 3 hts (gn_both rfl rfl (by decide +kernel) gL_sees_X11_sees) rfl rfl rfl (by decide +kernel) ⟨Nat.le_of_ble_eq_true rfl, Nat.le_of_ble_eq_true rfl⟩) ⟨px_blind, (va_recv hK hP (ci := 16) (q0 := 0) rfl rfl), (px_pre hP hD hK hS hA hTK hZ [0, 1, 2, 3, 4, 5] rfl rfl (by decide) [] rfl)⟩ rfl rfl hl.1 rfl (lv_room (Nat.le_of_ble_eq_true rfl)) dL_sees_7 ⟨(Nat.le_of_ble_eq_true rfl), (Nat.le_of_ble_eq_true rfl)⟩) (fun E q9 H locs hE hq hP hD hS => ?_) (fun r_1 u H locs hw hP hD hK1 hS => hw.elim)
  rcases hE with ⟨rfl, hE⟩ | ⟨rfl, hE⟩
  · obtain ⟨ce9, hq1, hq2, hq3⟩ := hq
    refine vx_catch (own := RL) (name := "java/lang/IllegalArgumentException") hown [] (⟨0, 12, 15, 13⟩ : ExceptionTableEntry) [(⟨0, 12, 19, 55⟩ : ExceptionTableEntry)] htab (fun _ h9 => absurd h9 List.not_mem_nil) (by decide) (by decide) (va_Nw.use rfl (hTK.2.2.2.2.2.2.2.2.2.2.1 (RL, 13, "java/lang/IllegalArgumentException") (by decide +kernel))) (va_Nw.use rfl (hTK.1 "java/lang/IllegalArgumentException" (by decide +kernel))) hq1 hq2 hq3 ?_
    refine W.eq (g2 := F0 m 15 ls [.ref q9]) rfl ?_
    refine lv_astore (lv' := [(5, .ref q9), (0, .ref (ad 0)), (1, .int p0), (2, .int p1), (3, .int p2), (4, .ref (ad 46))]) hx hb dL_sees_15 hl (by decide) rfl (fun ls hl => ?_)
    refine lv_iconst (v := 1) hx hb dL_sees_17 (by decide) ?_
    refine W.widen (k := 2) (n := 12) (Nat.le_of_ble_eq_true rfl) (Nat.le_of_ble_eq_true rfl) ?_
    have hP9 := hP.sub (ws' := ([])) [] rfl
    have hD9 := hD.sub (ws' := ([])) [] (by decide) rfl
    have hK9 := hK.sub (tys' := []) [] rfl
    exact W.iret (v := 1) hx hb hr (fun t ht hW => ⟨⟨1, (), rfl, (Or.inl (⟨rfl, hE⟩)), ⟨by rw [ht]; exact hP9, va_K.moved hW.alike hK9, hD9⟩⟩, hS.F ht⟩) hS.2.2 dL_sees_18 hlocks
  · obtain ⟨ce9, hq1, hq2, hq3⟩ := hq
    refine vx_catch (own := RL) (name := "java/util/NoSuchElementException") hown [(⟨0, 12, 15, 13⟩ : ExceptionTableEntry)] (⟨0, 12, 19, 55⟩ : ExceptionTableEntry) [] htab (List.forall_mem_cons.mpr ⟨Or.inr ⟨by decide, "java/lang/IllegalArgumentException", (va_Nw.use rfl (hTK.2.2.2.2.2.2.2.2.2.2.1 (RL, 13, "java/lang/IllegalArgumentException") (by decide +kernel))), hTK.2.2.1 ("java/util/NoSuchElementException", "java/lang/IllegalArgumentException") (by decide +kernel)⟩, (fun _ h9 => absurd h9 List.not_mem_nil)⟩) (by decide) (by decide) (va_Nw.use rfl (hTK.2.2.2.2.2.2.2.2.2.2.1 (RL, 55, "java/util/NoSuchElementException") (by decide +kernel))) (va_Nw.use rfl (hTK.1 "java/util/NoSuchElementException" (by decide +kernel))) hq1 hq2 hq3 ?_
    refine W.eq (g2 := F0 m 19 ls [.ref q9]) rfl ?_
    refine lv_astore (lv' := [(5, .ref q9), (0, .ref (ad 0)), (1, .int p0), (2, .int p1), (3, .int p2), (4, .ref (ad 46))]) hx hb dL_sees_19 hl (by decide) rfl (fun ls hl => ?_)
    refine lv_iconst (v := 2) hx hb dL_sees_21 (by decide) ?_
    refine W.widen (k := 2) (n := 12) (Nat.le_of_ble_eq_true rfl) (Nat.le_of_ble_eq_true rfl) ?_
    have hP9 := hP.sub (ws' := ([])) [] rfl
    have hD9 := hD.sub (ws' := ([])) [] (by decide) rfl
    have hK9 := hK.sub (tys' := []) [] rfl
    exact W.iret (v := 2) hx hb hr (fun t ht hW => ⟨⟨2, (), rfl, (Or.inr (⟨rfl, hE⟩)), ⟨by rw [ht]; exact hP9, va_K.moved hW.alike hK9, hD9⟩⟩, hS.F ht⟩) hS.2.2 dL_sees_22 hlocks

set_option maxHeartbeats 4000000 in
set_option maxRecDepth 100000 in
theorem w_picture (l : Launch) (hst : l.stackTraces = false) (D : va_G) (de : Nat) (ad : Nat → Nat) (p0 p1 p2 p3 p4 p5 : Int32) (sz : Nat) : Met l yL_picture wsL_picture ({ frames := 8, cells := 1, slots := 6, locals := 132 } : Room) (va_Pc [.ref (ad 0), .int p0, .int p1, .int p2, .int p3, .int p4, .int p5, .ref (ad 46)] (PX de D ([]) (wX ad) sz)) (va_Qi (fun (r : Int32) (u : Unit) => (r = 1 ∧ True)) (fun u t => PW D ([]) (va_A (wX ad) sz) ([]) t) (va_A (wX ad) sz)) 1 6 (va_A (wX ad) sz) := by
  refine va_MetW (cc := cL_picture) (maxL := 9) (ret := (some .int)) (by decide) rfl ?_
  intro p e s m args below meth c s₁ B hml hv
  obtain ⟨rfl, hsz, hP, hK, hD0, hTK, hZ⟩ := hv
  have hx := B.exec
  have hb := B.bytes
  have hr := B.returns
  have hts := atoms_spec (ws := wsL_picture) B.pre
  have hown : s.vm.findClass RL = some m.cls := findClass_of_methodNamed B.named
  have hlocks := B.notSynchronized
  have htab := vx_table (x := yL_picture) B (hts _ List.mem_cons_self)
  subst hsz
  have hD := hD0.self (sz := s.heap.size)
  generalize hAe : va_A (wX ad) s.heap.size = A at hD hZ ⊢
  have hA : ∀ q : Nat, s.heap.size ≤ q → A q := fun q h => by rw [← hAe]; exact Or.inr h
  have hS : va_S A s.heap s.heap [] := va_S.rf
  have hP : va_P D vwCl (wX ad) s.heap := hP
  have hD : va_D A (wX ad) := hD
  have hl := lv_entry ([.ref (ad 0), .int p0, .int p1, .int p2, .int p3, .int p4, .int p5, .ref (ad 46)]) (n := 9) (Nat.le_of_ble_eq_true rfl)
  rw [lg_entry_eq]
  generalize (lg_sl ([.ref (ad 0), .int p0, .int p1, .int p2, .int p3, .int p4, .int p5, .ref (ad 46)]) ++ List.replicate (9 - (lg_sl ([.ref (ad 0), .int p0, .int p1, .int p2, .int p3, .int p4, .int p5, .ref (ad 46)])).length) Slot.unset).toArray = ls at hl ⊢
  have hl : lv_has ls 9 [(0, .ref (ad 0)), (1, .int p0), (2, .int p1), (3, .int p2), (4, .int p3), (5, .int p4), (6, .int p5), (7, .ref (ad 46))] := hl
  refine lv_aload hx hb dL_picture_0 (lv_at hl 7 rfl) ?_
  refine lv_iconst (v := 0) hx hb dL_picture_2 (by decide) ?_
  refine lv_aload_n hx hb dL_picture_3 rfl (lv_at hl 0 rfl) ?_
  refine lv_iload_n hx hb dL_picture_4 rfl (lv_at hl 1 rfl) ?_
  refine lv_iload_n hx hb dL_picture_5 rfl (lv_at hl 2 rfl) ?_
  refine lv_iload_n hx hb dL_picture_6 rfl (lv_at hl 3 rfl) ?_
  refine lv_iload hx hb dL_picture_7 (lv_at hl 4 rfl) ?_
  refine lv_iload hx hb dL_picture_9 (lv_at hl 5 rfl) ?_
  refine lv_iload hx hb dL_picture_11 (lv_at hl 6 rfl) ?_
  refine kt_i (wc := wX ad) (wr := []) hP hD hS hA [0, 1, 2, 3, 4, 5] [] rfl rfl (by decide) (by decide) (vx_runV (As := [.int p0, .int p1, .int p2, .int p3, .int p4, .int p5]) (rest := [.int 0, .ref (ad 46)]) ⟨hx, hb, hml, hown, hts⟩ (f_picture l hst D de ad p0 p1 p2 p3 p4 p5 s.heap.size) (cwV 6 hts gL_picture_X11_picture rfl rfl rfl (by decide +kernel) ⟨Nat.le_of_ble_eq_true rfl, Nat.le_of_ble_eq_true rfl⟩) ⟨px_blind, (va_recv hK hP (ci := 16) (q0 := 0) rfl rfl), (px_pre hP hD hK hS hA hTK hZ [0, 1, 2, 3, 4, 5] rfl rfl (by decide) [] rfl)⟩ rfl rfl hl.1 rfl (lv_room (Nat.le_of_ble_eq_true rfl)) dL_picture_13 ⟨(Nat.le_of_ble_eq_true rfl), (Nat.le_of_ble_eq_true rfl)⟩) (fun E q9 H locs hE hq hP hD hS => ?_) (fun r_1 u H locs hw hP hD hK1 hS => hw.elim)
  obtain ⟨rfl, hE⟩ := hE
  obtain ⟨ce9, hq1, hq2, hq3⟩ := hq
  refine vx_catch (own := RL) (name := "java/lang/IndexOutOfBoundsException") hown [] (⟨0, 18, 21, 19⟩ : ExceptionTableEntry) [(⟨0, 18, 25, 13⟩ : ExceptionTableEntry), (⟨0, 18, 29, 21⟩ : ExceptionTableEntry)] htab (fun _ h9 => absurd h9 List.not_mem_nil) (by decide) (by decide) (va_Nw.use rfl (hTK.2.2.2.2.2.2.2.2.2.2.1 (RL, 19, "java/lang/IndexOutOfBoundsException") (by decide +kernel))) (va_Nw.use rfl (hTK.1 "java/lang/IndexOutOfBoundsException" (by decide +kernel))) hq1 hq2 hq3 ?_
  refine W.eq (g2 := F0 m 21 ls [.ref q9]) rfl ?_
  refine lv_astore (lv' := [(8, .ref q9), (0, .ref (ad 0)), (1, .int p0), (2, .int p1), (3, .int p2), (4, .int p3), (5, .int p4), (6, .int p5), (7, .ref (ad 46))]) hx hb dL_picture_21 hl (by decide) rfl (fun ls hl => ?_)
  refine lv_iconst (v := 1) hx hb dL_picture_23 (by decide) ?_
  refine W.widen (k := 1) (n := 6) (Nat.le_of_ble_eq_true rfl) (Nat.le_of_ble_eq_true rfl) ?_
  have hP9 := hP.sub (ws' := ([])) [] rfl
  have hD9 := hD.sub (ws' := ([])) [] (by decide) rfl
  have hK9 := hK.sub (tys' := []) [] rfl
  exact W.iret (v := 1) hx hb hr (fun t ht hW => ⟨⟨1, (), rfl, ⟨rfl, hE⟩, ⟨by rw [ht]; exact hP9, va_K.moved hW.alike hK9, hD9⟩⟩, hS.F ht⟩) hS.2.2 dL_picture_24 hlocks

set_option maxHeartbeats 4000000 in
set_option maxRecDepth 100000 in
theorem w_colourAt (l : Launch) (hst : l.stackTraces = false) (D : va_G) (de : Nat) (ad : Nat → Nat) (p0 p1 p2 : Int32) (sz : Nat) : Met l yL_colourAt wsL_colourAt ({ frames := 8, cells := 1, slots := 6, locals := 128 } : Room) (va_Pc [.ref (ad 0), .int p0, .int p1, .int p2, .ref (ad 46)] (PX de D ([]) (wX ad) sz)) (va_Qi (fun (r : Int32) (u : Unit) => (r = 1 ∧ True)) (fun u t => PW D ([]) (va_A (wX ad) sz) ([]) t) (va_A (wX ad) sz)) 1 6 (va_A (wX ad) sz) := by
  refine va_MetW (cc := cL_colourAt) (maxL := 6) (ret := (some .int)) (by decide) rfl ?_
  intro p e s m args below meth c s₁ B hml hv
  obtain ⟨rfl, hsz, hP, hK, hD0, hTK, hZ⟩ := hv
  have hx := B.exec
  have hb := B.bytes
  have hr := B.returns
  have hts := atoms_spec (ws := wsL_colourAt) B.pre
  have hown : s.vm.findClass RL = some m.cls := findClass_of_methodNamed B.named
  have hlocks := B.notSynchronized
  have htab := vx_table (x := yL_colourAt) B (hts _ List.mem_cons_self)
  subst hsz
  have hD := hD0.self (sz := s.heap.size)
  generalize hAe : va_A (wX ad) s.heap.size = A at hD hZ ⊢
  have hA : ∀ q : Nat, s.heap.size ≤ q → A q := fun q h => by rw [← hAe]; exact Or.inr h
  have hS : va_S A s.heap s.heap [] := va_S.rf
  have hP : va_P D vwCl (wX ad) s.heap := hP
  have hD : va_D A (wX ad) := hD
  have hl := lv_entry ([.ref (ad 0), .int p0, .int p1, .int p2, .ref (ad 46)]) (n := 6) (Nat.le_of_ble_eq_true rfl)
  rw [lg_entry_eq]
  generalize (lg_sl ([.ref (ad 0), .int p0, .int p1, .int p2, .ref (ad 46)]) ++ List.replicate (6 - (lg_sl ([.ref (ad 0), .int p0, .int p1, .int p2, .ref (ad 46)])).length) Slot.unset).toArray = ls at hl ⊢
  have hl : lv_has ls 6 [(0, .ref (ad 0)), (1, .int p0), (2, .int p1), (3, .int p2), (4, .ref (ad 46))] := hl
  refine lv_aload hx hb dL_colourAt_0 (lv_at hl 4 rfl) ?_
  refine lv_iconst (v := 0) hx hb dL_colourAt_2 (by decide) ?_
  refine lv_aload_n hx hb dL_colourAt_3 rfl (lv_at hl 0 rfl) ?_
  refine lv_iload_n hx hb dL_colourAt_4 rfl (lv_at hl 1 rfl) ?_
  refine lv_iload_n hx hb dL_colourAt_5 rfl (lv_at hl 2 rfl) ?_
  refine lv_iload_n hx hb dL_colourAt_6 rfl (lv_at hl 3 rfl) ?_
  refine kt_i (wc := wX ad) (wr := []) hP hD hS hA [0, 1, 2, 3, 4, 5] [] rfl rfl (by decide) (by decide) (vx_runV (As := [.int p0, .int p1, .int p2]) (rest := [.int 0, .ref (ad 46)]) ⟨hx, hb, hml, hown, hts⟩ (f_colourAt l hst D de ad p0 p1 p2 s.heap.size) (cwV 3 hts gL_colourAt_X11_colourAt rfl rfl rfl (by decide +kernel) ⟨Nat.le_of_ble_eq_true rfl, Nat.le_of_ble_eq_true rfl⟩) ⟨px_blind, (va_recv hK hP (ci := 16) (q0 := 0) rfl rfl), (px_pre hP hD hK hS hA hTK hZ [0, 1, 2, 3, 4, 5] rfl rfl (by decide) [] rfl)⟩ rfl rfl hl.1 rfl (lv_room (Nat.le_of_ble_eq_true rfl)) dL_colourAt_7 ⟨(Nat.le_of_ble_eq_true rfl), (Nat.le_of_ble_eq_true rfl)⟩) (fun E q9 H locs hE hq hP hD hS => ?_) (fun r_1 u H locs hw hP hD hK1 hS => hw.elim)
  obtain ⟨rfl, hE⟩ := hE
  obtain ⟨ce9, hq1, hq2, hq3⟩ := hq
  refine vx_catch (own := RL) (name := "java/lang/IndexOutOfBoundsException") hown [] (⟨0, 12, 15, 19⟩ : ExceptionTableEntry) [(⟨0, 12, 19, 13⟩ : ExceptionTableEntry)] htab (fun _ h9 => absurd h9 List.not_mem_nil) (by decide) (by decide) (va_Nw.use rfl (hTK.2.2.2.2.2.2.2.2.2.2.1 (RL, 19, "java/lang/IndexOutOfBoundsException") (by decide +kernel))) (va_Nw.use rfl (hTK.1 "java/lang/IndexOutOfBoundsException" (by decide +kernel))) hq1 hq2 hq3 ?_
  refine W.eq (g2 := F0 m 15 ls [.ref q9]) rfl ?_
  refine lv_astore (lv' := [(5, .ref q9), (0, .ref (ad 0)), (1, .int p0), (2, .int p1), (3, .int p2), (4, .ref (ad 46))]) hx hb dL_colourAt_15 hl (by decide) rfl (fun ls hl => ?_)
  refine lv_iconst (v := 1) hx hb dL_colourAt_17 (by decide) ?_
  refine W.widen (k := 1) (n := 6) (Nat.le_of_ble_eq_true rfl) (Nat.le_of_ble_eq_true rfl) ?_
  have hP9 := hP.sub (ws' := ([])) [] rfl
  have hD9 := hD.sub (ws' := ([])) [] (by decide) rfl
  have hK9 := hK.sub (tys' := []) [] rfl
  exact W.iret (v := 1) hx hb hr (fun t ht hW => ⟨⟨1, (), rfl, ⟨rfl, hE⟩, ⟨by rw [ht]; exact hP9, va_K.moved hW.alike hK9, hD9⟩⟩, hS.F ht⟩) hS.2.2 dL_colourAt_18 hlocks

set_option maxHeartbeats 4000000 in
set_option maxRecDepth 100000 in
theorem w_isWhole (l : Launch) (hst : l.stackTraces = false) (D : va_G) (de : Nat) (ad : Nat → Nat) (p0 p1 : Int32) (sz : Nat) : Met l yL_isWhole wsL_isWhole ({ frames := 8, cells := 1, slots := 6, locals := 127 } : Room) (va_Pc [.ref (ad 0), .int p0, .int p1, .ref (ad 46)] (PX de D ([]) (wX ad) sz)) (va_Qi (fun (r : Int32) (u : Unit) => (r = 1 ∧ True)) (fun u t => PW D ([]) (va_A (wX ad) sz) ([]) t) (va_A (wX ad) sz)) 1 6 (va_A (wX ad) sz) := by
  refine va_MetW (cc := cL_isWhole) (maxL := 5) (ret := (some .int)) (by decide) rfl ?_
  intro p e s m args below meth c s₁ B hml hv
  obtain ⟨rfl, hsz, hP, hK, hD0, hTK, hZ⟩ := hv
  have hx := B.exec
  have hb := B.bytes
  have hr := B.returns
  have hts := atoms_spec (ws := wsL_isWhole) B.pre
  have hown : s.vm.findClass RL = some m.cls := findClass_of_methodNamed B.named
  have hlocks := B.notSynchronized
  have htab := vx_table (x := yL_isWhole) B (hts _ List.mem_cons_self)
  subst hsz
  have hD := hD0.self (sz := s.heap.size)
  generalize hAe : va_A (wX ad) s.heap.size = A at hD hZ ⊢
  have hA : ∀ q : Nat, s.heap.size ≤ q → A q := fun q h => by rw [← hAe]; exact Or.inr h
  have hS : va_S A s.heap s.heap [] := va_S.rf
  have hP : va_P D vwCl (wX ad) s.heap := hP
  have hD : va_D A (wX ad) := hD
  have hl := lv_entry ([.ref (ad 0), .int p0, .int p1, .ref (ad 46)]) (n := 5) (Nat.le_of_ble_eq_true rfl)
  rw [lg_entry_eq]
  generalize (lg_sl ([.ref (ad 0), .int p0, .int p1, .ref (ad 46)]) ++ List.replicate (5 - (lg_sl ([.ref (ad 0), .int p0, .int p1, .ref (ad 46)])).length) Slot.unset).toArray = ls at hl ⊢
  have hl : lv_has ls 5 [(0, .ref (ad 0)), (1, .int p0), (2, .int p1), (3, .ref (ad 46))] := hl
  refine lv_aload_n hx hb dL_isWhole_0 rfl (lv_at hl 3 rfl) ?_
  refine lv_iconst (v := 0) hx hb dL_isWhole_1 (by decide) ?_
  refine lv_aload_n hx hb dL_isWhole_2 rfl (lv_at hl 0 rfl) ?_
  refine lv_iload_n hx hb dL_isWhole_3 rfl (lv_at hl 1 rfl) ?_
  refine lv_iload_n hx hb dL_isWhole_4 rfl (lv_at hl 2 rfl) ?_
  refine kt_i (wc := wX ad) (wr := []) hP hD hS hA [0, 1, 2, 3, 4, 5] [] rfl rfl (by decide) (by decide) (vx_runV (As := [.int p0, .int p1]) (rest := [.int 0, .ref (ad 46)]) ⟨hx, hb, hml, hown, hts⟩ (f_isWhole l hst D de ad p0 p1 s.heap.size) (cwV 2 hts gL_isWhole_X11_isWhole rfl rfl rfl (by decide +kernel) ⟨Nat.le_of_ble_eq_true rfl, Nat.le_of_ble_eq_true rfl⟩) ⟨px_blind, (va_recv hK hP (ci := 16) (q0 := 0) rfl rfl), (px_pre hP hD hK hS hA hTK hZ [0, 1, 2, 3, 4, 5] rfl rfl (by decide) [] rfl)⟩ rfl rfl hl.1 rfl (lv_room (Nat.le_of_ble_eq_true rfl)) dL_isWhole_5 ⟨(Nat.le_of_ble_eq_true rfl), (Nat.le_of_ble_eq_true rfl)⟩) (fun E q9 H locs hE hq hP hD hS => ?_) (fun r_1 u H locs hw hP hD hK1 hS => hw.elim)
  obtain ⟨rfl, hE⟩ := hE
  obtain ⟨ce9, hq1, hq2, hq3⟩ := hq
  refine vx_catch (own := RL) (name := "java/lang/IndexOutOfBoundsException") hown [] (⟨0, 17, 20, 19⟩ : ExceptionTableEntry) [(⟨0, 17, 24, 13⟩ : ExceptionTableEntry)] htab (fun _ h9 => absurd h9 List.not_mem_nil) (by decide) (by decide) (va_Nw.use rfl (hTK.2.2.2.2.2.2.2.2.2.2.1 (RL, 19, "java/lang/IndexOutOfBoundsException") (by decide +kernel))) (va_Nw.use rfl (hTK.1 "java/lang/IndexOutOfBoundsException" (by decide +kernel))) hq1 hq2 hq3 ?_
  refine W.eq (g2 := F0 m 20 ls [.ref q9]) rfl ?_
  refine lv_astore (lv' := [(4, .ref q9), (0, .ref (ad 0)), (1, .int p0), (2, .int p1), (3, .ref (ad 46))]) hx hb dL_isWhole_20 hl (by decide) rfl (fun ls hl => ?_)
  refine lv_iconst (v := 1) hx hb dL_isWhole_22 (by decide) ?_
  refine W.widen (k := 1) (n := 6) (Nat.le_of_ble_eq_true rfl) (Nat.le_of_ble_eq_true rfl) ?_
  have hP9 := hP.sub (ws' := ([])) [] rfl
  have hD9 := hD.sub (ws' := ([])) [] (by decide) rfl
  have hK9 := hK.sub (tys' := []) [] rfl
  exact W.iret (v := 1) hx hb hr (fun t ht hW => ⟨⟨1, (), rfl, ⟨rfl, hE⟩, ⟨by rw [ht]; exact hP9, va_K.moved hW.alike hK9, hD9⟩⟩, hS.F ht⟩) hS.2.2 dL_isWhole_23 hlocks

set_option maxHeartbeats 4000000 in
set_option maxRecDepth 100000 in
theorem w_showStep (l : Launch) (hst : l.stackTraces = false) (D : va_G) (de : Nat) (ad : Nat → Nat) (sz : Nat) : Met l yL_showStep wnL_showStep ({ frames := 7, cells := 1, slots := 6, locals := 103 } : Room) (va_Pc [.ref (ad 0), .ref (ad 46)] (PX de D ([]) (wX ad) sz)) (va_Qi (fun (r : Int32) (u : Unit) => (r = 1 ∧ True)) (fun u t => PW D ([]) (va_A (wX ad) sz) ([]) t) (va_A (wX ad) sz)) 1 6 (va_A (wX ad) sz) := by
  refine va_MetW (cc := cL_showStep) (maxL := 3) (ret := (some .int)) (by decide) rfl ?_
  intro p e s m args below meth c s₁ B hml hv
  obtain ⟨rfl, hsz, hP, hK, hD0, hTK, hZ⟩ := hv
  have hx := B.exec
  have hb := B.bytes
  have hr := B.returns
  have hts := atoms_spec (ws := wnL_showStep) B.pre
  have hown : s.vm.findClass RL = some m.cls := findClass_of_methodNamed B.named
  have hlocks := B.notSynchronized
  have htab := vx_table (x := yL_showStep) B (hts _ List.mem_cons_self)
  subst hsz
  have hD := hD0.self (sz := s.heap.size)
  generalize hAe : va_A (wX ad) s.heap.size = A at hD hZ ⊢
  have hA : ∀ q : Nat, s.heap.size ≤ q → A q := fun q h => by rw [← hAe]; exact Or.inr h
  have hS : va_S A s.heap s.heap [] := va_S.rf
  have hP : va_P D vwCl (wX ad) s.heap := hP
  have hD : va_D A (wX ad) := hD
  have hl := lv_entry ([.ref (ad 0), .ref (ad 46)]) (n := 3) (Nat.le_of_ble_eq_true rfl)
  rw [lg_entry_eq]
  generalize (lg_sl ([.ref (ad 0), .ref (ad 46)]) ++ List.replicate (3 - (lg_sl ([.ref (ad 0), .ref (ad 46)])).length) Slot.unset).toArray = ls at hl ⊢
  have hl : lv_has ls 3 [(0, .ref (ad 0)), (1, .ref (ad 46))] := hl
  refine lv_aload_n hx hb dL_showStep_0 rfl (lv_at hl 1 rfl) ?_
  refine lv_iconst (v := 0) hx hb dL_showStep_1 (by decide) ?_
  refine lv_aload_n hx hb dL_showStep_2 rfl (lv_at hl 0 rfl) ?_
  refine kt_i (wc := wX ad) (wr := []) hP hD hS hA [0, 1, 2, 3, 4, 5] [] rfl rfl (by decide) (by decide) (vx_runV (As := []) (rest := [.int 0, .ref (ad 46)]) ⟨hx, hb, hml, hown, hts⟩ (f_showStep l hst D de ad s.heap.size) (cwV 0 hts (gn_both rfl rfl (by decide +kernel) gL_showStep_X11_showStep) rfl rfl rfl (by decide +kernel) ⟨Nat.le_of_ble_eq_true rfl, Nat.le_of_ble_eq_true rfl⟩) ⟨px_blind, (va_recv hK hP (ci := 16) (q0 := 0) rfl rfl), (px_pre hP hD hK hS hA hTK hZ [0, 1, 2, 3, 4, 5] rfl rfl (by decide) [] rfl)⟩ rfl rfl hl.1 rfl (lv_room (Nat.le_of_ble_eq_true rfl)) dL_showStep_3 ⟨(Nat.le_of_ble_eq_true rfl), (Nat.le_of_ble_eq_true rfl)⟩) (fun E q9 H locs hE hq hP hD hS => ?_) (fun r_1 u H locs hw hP hD hK1 hS => hw.elim)
  obtain ⟨rfl, hE⟩ := hE
  obtain ⟨ce9, hq1, hq2, hq3⟩ := hq
  refine vx_catch (own := RL) (name := "java/util/NoSuchElementException") hown [] (⟨0, 8, 11, 55⟩ : ExceptionTableEntry) [] htab (fun _ h9 => absurd h9 List.not_mem_nil) (by decide) (by decide) (va_Nw.use rfl (hTK.2.2.2.2.2.2.2.2.2.2.1 (RL, 55, "java/util/NoSuchElementException") (by decide +kernel))) (va_Nw.use rfl (hTK.1 "java/util/NoSuchElementException" (by decide +kernel))) hq1 hq2 hq3 ?_
  refine W.eq (g2 := F0 m 11 ls [.ref q9]) rfl ?_
  refine lv_astore_n (lv' := [(2, .ref q9), (0, .ref (ad 0)), (1, .ref (ad 46))]) hx hb dL_showStep_11 rfl hl (by decide) rfl (fun ls hl => ?_)
  refine lv_iconst (v := 1) hx hb dL_showStep_12 (by decide) ?_
  refine W.widen (k := 1) (n := 6) (Nat.le_of_ble_eq_true rfl) (Nat.le_of_ble_eq_true rfl) ?_
  have hP9 := hP.sub (ws' := ([])) [] rfl
  have hD9 := hD.sub (ws' := ([])) [] (by decide) rfl
  have hK9 := hK.sub (tys' := []) [] rfl
  exact W.iret (v := 1) hx hb hr (fun t ht hW => ⟨⟨1, (), rfl, ⟨rfl, hE⟩, ⟨by rw [ht]; exact hP9, va_K.moved hW.alike hK9, hD9⟩⟩, hS.F ht⟩) hS.2.2 dL_showStep_13 hlocks

set_option maxHeartbeats 4000000 in
set_option maxRecDepth 100000 in
theorem w_flap (l : Launch) (hst : l.stackTraces = false) (D : va_G) (de : Nat) (ad : Nat → Nat) (p0 : Int32) (sz : Nat) : Met l yL_flap wsL_flap ({ frames := 8, cells := 1, slots := 6, locals := 126 } : Room) (va_Pc [.ref (ad 0), .int p0, .ref (ad 46)] (PX de D ([]) (wX ad) sz)) (va_Qi (fun (r : Int32) (u : Unit) => (r = 1 ∧ True)) (fun u t => PW D ([]) (va_A (wX ad) sz) ([]) t) (va_A (wX ad) sz)) 1 6 (va_A (wX ad) sz) := by
  refine va_MetW (cc := cL_flap) (maxL := 4) (ret := (some .int)) (by decide) rfl ?_
  intro p e s m args below meth c s₁ B hml hv
  obtain ⟨rfl, hsz, hP, hK, hD0, hTK, hZ⟩ := hv
  have hx := B.exec
  have hb := B.bytes
  have hr := B.returns
  have hts := atoms_spec (ws := wsL_flap) B.pre
  have hown : s.vm.findClass RL = some m.cls := findClass_of_methodNamed B.named
  have hlocks := B.notSynchronized
  have htab := vx_table (x := yL_flap) B (hts _ List.mem_cons_self)
  subst hsz
  have hD := hD0.self (sz := s.heap.size)
  generalize hAe : va_A (wX ad) s.heap.size = A at hD hZ ⊢
  have hA : ∀ q : Nat, s.heap.size ≤ q → A q := fun q h => by rw [← hAe]; exact Or.inr h
  have hS : va_S A s.heap s.heap [] := va_S.rf
  have hP : va_P D vwCl (wX ad) s.heap := hP
  have hD : va_D A (wX ad) := hD
  have hl := lv_entry ([.ref (ad 0), .int p0, .ref (ad 46)]) (n := 4) (Nat.le_of_ble_eq_true rfl)
  rw [lg_entry_eq]
  generalize (lg_sl ([.ref (ad 0), .int p0, .ref (ad 46)]) ++ List.replicate (4 - (lg_sl ([.ref (ad 0), .int p0, .ref (ad 46)])).length) Slot.unset).toArray = ls at hl ⊢
  have hl : lv_has ls 4 [(0, .ref (ad 0)), (1, .int p0), (2, .ref (ad 46))] := hl
  refine lv_aload_n hx hb dL_flap_0 rfl (lv_at hl 2 rfl) ?_
  refine lv_iconst (v := 0) hx hb dL_flap_1 (by decide) ?_
  refine lv_aload_n hx hb dL_flap_2 rfl (lv_at hl 0 rfl) ?_
  refine lv_iload_n hx hb dL_flap_3 rfl (lv_at hl 1 rfl) ?_
  refine kt_i (wc := wX ad) (wr := []) hP hD hS hA [0, 1, 2, 3, 4, 5] [] rfl rfl (by decide) (by decide) (vx_runV (As := [.int p0]) (rest := [.int 0, .ref (ad 46)]) ⟨hx, hb, hml, hown, hts⟩ (f_flap l hst D de ad p0 s.heap.size) (cwV 1 hts gL_flap_X11_flap rfl rfl rfl (by decide +kernel) ⟨Nat.le_of_ble_eq_true rfl, Nat.le_of_ble_eq_true rfl⟩) ⟨px_blind, (va_recv hK hP (ci := 16) (q0 := 0) rfl rfl), (px_pre hP hD hK hS hA hTK hZ [0, 1, 2, 3, 4, 5] rfl rfl (by decide) [] rfl)⟩ rfl rfl hl.1 rfl (lv_room (Nat.le_of_ble_eq_true rfl)) dL_flap_4 ⟨(Nat.le_of_ble_eq_true rfl), (Nat.le_of_ble_eq_true rfl)⟩) (fun E q9 H locs hE hq hP hD hS => ?_) (fun r_1 u H locs hw hP hD hK1 hS => hw.elim)
  obtain ⟨rfl, hE⟩ := hE
  obtain ⟨ce9, hq1, hq2, hq3⟩ := hq
  refine vx_catch (own := RL) (name := "java/lang/IndexOutOfBoundsException") hown [] (⟨0, 9, 12, 19⟩ : ExceptionTableEntry) [(⟨0, 9, 15, 31⟩ : ExceptionTableEntry)] htab (fun _ h9 => absurd h9 List.not_mem_nil) (by decide) (by decide) (va_Nw.use rfl (hTK.2.2.2.2.2.2.2.2.2.2.1 (RL, 19, "java/lang/IndexOutOfBoundsException") (by decide +kernel))) (va_Nw.use rfl (hTK.1 "java/lang/IndexOutOfBoundsException" (by decide +kernel))) hq1 hq2 hq3 ?_
  refine W.eq (g2 := F0 m 12 ls [.ref q9]) rfl ?_
  refine lv_astore_n (lv' := [(3, .ref q9), (0, .ref (ad 0)), (1, .int p0), (2, .ref (ad 46))]) hx hb dL_flap_12 rfl hl (by decide) rfl (fun ls hl => ?_)
  refine lv_iconst (v := 1) hx hb dL_flap_13 (by decide) ?_
  refine W.widen (k := 1) (n := 6) (Nat.le_of_ble_eq_true rfl) (Nat.le_of_ble_eq_true rfl) ?_
  have hP9 := hP.sub (ws' := ([])) [] rfl
  have hD9 := hD.sub (ws' := ([])) [] (by decide) rfl
  have hK9 := hK.sub (tys' := []) [] rfl
  exact W.iret (v := 1) hx hb hr (fun t ht hW => ⟨⟨1, (), rfl, ⟨rfl, hE⟩, ⟨by rw [ht]; exact hP9, va_K.moved hW.alike hK9, hD9⟩⟩, hS.F ht⟩) hS.2.2 dL_flap_14 hlocks

set_option maxHeartbeats 4000000 in
set_option maxRecDepth 100000 in
theorem w_turn (l : Launch) (hst : l.stackTraces = false) (D : va_G) (de : Nat) (ad : Nat → Nat) (p0 : Int32) (sz : Nat) : Met l yL_turn wsL_turn ({ frames := 8, cells := 1, slots := 6, locals := 126 } : Room) (va_Pc [.ref (ad 0), .int p0, .ref (ad 46)] (PX de D ([]) (wX ad) sz)) (va_Qi (fun (r : Int32) (u : Unit) => (r = 1 ∧ True)) (fun u t => PW D ([]) (va_A (wX ad) sz) ([]) t) (va_A (wX ad) sz)) 1 6 (va_A (wX ad) sz) := by
  refine va_MetW (cc := cL_turn) (maxL := 4) (ret := (some .int)) (by decide) rfl ?_
  intro p e s m args below meth c s₁ B hml hv
  obtain ⟨rfl, hsz, hP, hK, hD0, hTK, hZ⟩ := hv
  have hx := B.exec
  have hb := B.bytes
  have hr := B.returns
  have hts := atoms_spec (ws := wsL_turn) B.pre
  have hown : s.vm.findClass RL = some m.cls := findClass_of_methodNamed B.named
  have hlocks := B.notSynchronized
  have htab := vx_table (x := yL_turn) B (hts _ List.mem_cons_self)
  subst hsz
  have hD := hD0.self (sz := s.heap.size)
  generalize hAe : va_A (wX ad) s.heap.size = A at hD hZ ⊢
  have hA : ∀ q : Nat, s.heap.size ≤ q → A q := fun q h => by rw [← hAe]; exact Or.inr h
  have hS : va_S A s.heap s.heap [] := va_S.rf
  have hP : va_P D vwCl (wX ad) s.heap := hP
  have hD : va_D A (wX ad) := hD
  have hl := lv_entry ([.ref (ad 0), .int p0, .ref (ad 46)]) (n := 4) (Nat.le_of_ble_eq_true rfl)
  rw [lg_entry_eq]
  generalize (lg_sl ([.ref (ad 0), .int p0, .ref (ad 46)]) ++ List.replicate (4 - (lg_sl ([.ref (ad 0), .int p0, .ref (ad 46)])).length) Slot.unset).toArray = ls at hl ⊢
  have hl : lv_has ls 4 [(0, .ref (ad 0)), (1, .int p0), (2, .ref (ad 46))] := hl
  refine lv_aload_n hx hb dL_turn_0 rfl (lv_at hl 2 rfl) ?_
  refine lv_iconst (v := 0) hx hb dL_turn_1 (by decide) ?_
  refine lv_aload_n hx hb dL_turn_2 rfl (lv_at hl 0 rfl) ?_
  refine lv_iload_n hx hb dL_turn_3 rfl (lv_at hl 1 rfl) ?_
  refine kt_i (wc := wX ad) (wr := []) hP hD hS hA [0, 1, 2, 3, 4, 5] [] rfl rfl (by decide) (by decide) (vx_runV (As := [.int p0]) (rest := [.int 0, .ref (ad 46)]) ⟨hx, hb, hml, hown, hts⟩ (f_turn l hst D de ad p0 s.heap.size) (cwV 1 hts gL_turn_X11_turn rfl rfl rfl (by decide +kernel) ⟨Nat.le_of_ble_eq_true rfl, Nat.le_of_ble_eq_true rfl⟩) ⟨px_blind, (va_recv hK hP (ci := 16) (q0 := 0) rfl rfl), (px_pre hP hD hK hS hA hTK hZ [0, 1, 2, 3, 4, 5] rfl rfl (by decide) [] rfl)⟩ rfl rfl hl.1 rfl (lv_room (Nat.le_of_ble_eq_true rfl)) dL_turn_4 ⟨(Nat.le_of_ble_eq_true rfl), (Nat.le_of_ble_eq_true rfl)⟩) (fun E q9 H locs hE hq hP hD hS => ?_) (fun r_1 u H locs hw hP hD hK1 hS => hw.elim)
  obtain ⟨rfl, hE⟩ := hE
  obtain ⟨ce9, hq1, hq2, hq3⟩ := hq
  refine vx_catch (own := RL) (name := "java/lang/IndexOutOfBoundsException") hown [] (⟨0, 16, 19, 19⟩ : ExceptionTableEntry) [(⟨0, 16, 22, 31⟩ : ExceptionTableEntry)] htab (fun _ h9 => absurd h9 List.not_mem_nil) (by decide) (by decide) (va_Nw.use rfl (hTK.2.2.2.2.2.2.2.2.2.2.1 (RL, 19, "java/lang/IndexOutOfBoundsException") (by decide +kernel))) (va_Nw.use rfl (hTK.1 "java/lang/IndexOutOfBoundsException" (by decide +kernel))) hq1 hq2 hq3 ?_
  refine W.eq (g2 := F0 m 19 ls [.ref q9]) rfl ?_
  refine lv_astore_n (lv' := [(3, .ref q9), (0, .ref (ad 0)), (1, .int p0), (2, .ref (ad 46))]) hx hb dL_turn_19 rfl hl (by decide) rfl (fun ls hl => ?_)
  refine lv_iconst (v := 1) hx hb dL_turn_20 (by decide) ?_
  refine W.widen (k := 1) (n := 6) (Nat.le_of_ble_eq_true rfl) (Nat.le_of_ble_eq_true rfl) ?_
  have hP9 := hP.sub (ws' := ([])) [] rfl
  have hD9 := hD.sub (ws' := ([])) [] (by decide) rfl
  have hK9 := hK.sub (tys' := []) [] rfl
  exact W.iret (v := 1) hx hb hr (fun t ht hW => ⟨⟨1, (), rfl, ⟨rfl, hE⟩, ⟨by rw [ht]; exact hP9, va_K.moved hW.alike hK9, hD9⟩⟩, hS.F ht⟩) hS.2.2 dL_turn_21 hlocks

set_option maxHeartbeats 4000000 in
set_option maxRecDepth 100000 in
theorem w_pull (l : Launch) (hst : l.stackTraces = false) (D : va_G) (de : Nat) (ad : Nat → Nat) (p0 p1 p2 p3 : Int32) (sz : Nat) : Met l yL_pull wsL_pull ({ frames := 8, cells := 1, slots := 6, locals := 129 } : Room) (va_Pc [.ref (ad 0), .int p0, .int p1, .int p2, .int p3, .ref (ad 46)] (PX de D ([]) (wX ad) sz)) (va_Qi (fun (r : Int32) (u : Unit) => (r = 1 ∧ True)) (fun u t => PW D ([]) (va_A (wX ad) sz) ([]) t) (va_A (wX ad) sz)) 1 6 (va_A (wX ad) sz) := by
  refine va_MetW (cc := cL_pull) (maxL := 7) (ret := (some .int)) (by decide) rfl ?_
  intro p e s m args below meth c s₁ B hml hv
  obtain ⟨rfl, hsz, hP, hK, hD0, hTK, hZ⟩ := hv
  have hx := B.exec
  have hb := B.bytes
  have hr := B.returns
  have hts := atoms_spec (ws := wsL_pull) B.pre
  have hown : s.vm.findClass RL = some m.cls := findClass_of_methodNamed B.named
  have hlocks := B.notSynchronized
  have htab := vx_table (x := yL_pull) B (hts _ List.mem_cons_self)
  subst hsz
  have hD := hD0.self (sz := s.heap.size)
  generalize hAe : va_A (wX ad) s.heap.size = A at hD hZ ⊢
  have hA : ∀ q : Nat, s.heap.size ≤ q → A q := fun q h => by rw [← hAe]; exact Or.inr h
  have hS : va_S A s.heap s.heap [] := va_S.rf
  have hP : va_P D vwCl (wX ad) s.heap := hP
  have hD : va_D A (wX ad) := hD
  have hl := lv_entry ([.ref (ad 0), .int p0, .int p1, .int p2, .int p3, .ref (ad 46)]) (n := 7) (Nat.le_of_ble_eq_true rfl)
  rw [lg_entry_eq]
  generalize (lg_sl ([.ref (ad 0), .int p0, .int p1, .int p2, .int p3, .ref (ad 46)]) ++ List.replicate (7 - (lg_sl ([.ref (ad 0), .int p0, .int p1, .int p2, .int p3, .ref (ad 46)])).length) Slot.unset).toArray = ls at hl ⊢
  have hl : lv_has ls 7 [(0, .ref (ad 0)), (1, .int p0), (2, .int p1), (3, .int p2), (4, .int p3), (5, .ref (ad 46))] := hl
  refine lv_aload hx hb dL_pull_0 (lv_at hl 5 rfl) ?_
  refine lv_iconst (v := 0) hx hb dL_pull_2 (by decide) ?_
  refine lv_aload_n hx hb dL_pull_3 rfl (lv_at hl 0 rfl) ?_
  refine lv_iload_n hx hb dL_pull_4 rfl (lv_at hl 1 rfl) ?_
  refine lv_iload_n hx hb dL_pull_5 rfl (lv_at hl 2 rfl) ?_
  refine lv_iload_n hx hb dL_pull_6 rfl (lv_at hl 3 rfl) ?_
  refine lv_iload hx hb dL_pull_7 (lv_at hl 4 rfl) ?_
  refine kt_i (wc := wX ad) (wr := []) hP hD hS hA [0, 1, 2, 3, 4, 5] [] rfl rfl (by decide) (by decide) (vx_runV (As := [.int p0, .int p1, .int p2, .int p3]) (rest := [.int 0, .ref (ad 46)]) ⟨hx, hb, hml, hown, hts⟩ (f_pull l hst D de ad p0 p1 p2 p3 s.heap.size) (cwV 4 hts gL_pull_X11_pull rfl rfl rfl (by decide +kernel) ⟨Nat.le_of_ble_eq_true rfl, Nat.le_of_ble_eq_true rfl⟩) ⟨px_blind, (va_recv hK hP (ci := 16) (q0 := 0) rfl rfl), (px_pre hP hD hK hS hA hTK hZ [0, 1, 2, 3, 4, 5] rfl rfl (by decide) [] rfl)⟩ rfl rfl hl.1 rfl (lv_room (Nat.le_of_ble_eq_true rfl)) dL_pull_9 ⟨(Nat.le_of_ble_eq_true rfl), (Nat.le_of_ble_eq_true rfl)⟩) (fun E q9 H locs hE hq hP hD hS => ?_) (fun r_1 u H locs hw hP hD hK1 hS => hw.elim)
  obtain ⟨rfl, hE⟩ := hE
  obtain ⟨ce9, hq1, hq2, hq3⟩ := hq
  refine vx_catch (own := RL) (name := "java/lang/IndexOutOfBoundsException") hown [] (⟨0, 14, 17, 19⟩ : ExceptionTableEntry) [(⟨0, 14, 21, 13⟩ : ExceptionTableEntry), (⟨0, 14, 25, 21⟩ : ExceptionTableEntry)] htab (fun _ h9 => absurd h9 List.not_mem_nil) (by decide) (by decide) (va_Nw.use rfl (hTK.2.2.2.2.2.2.2.2.2.2.1 (RL, 19, "java/lang/IndexOutOfBoundsException") (by decide +kernel))) (va_Nw.use rfl (hTK.1 "java/lang/IndexOutOfBoundsException" (by decide +kernel))) hq1 hq2 hq3 ?_
  refine W.eq (g2 := F0 m 17 ls [.ref q9]) rfl ?_
  refine lv_astore (lv' := [(6, .ref q9), (0, .ref (ad 0)), (1, .int p0), (2, .int p1), (3, .int p2), (4, .int p3), (5, .ref (ad 46))]) hx hb dL_pull_17 hl (by decide) rfl (fun ls hl => ?_)
  refine lv_iconst (v := 1) hx hb dL_pull_19 (by decide) ?_
  refine W.widen (k := 1) (n := 6) (Nat.le_of_ble_eq_true rfl) (Nat.le_of_ble_eq_true rfl) ?_
  have hP9 := hP.sub (ws' := ([])) [] rfl
  have hD9 := hD.sub (ws' := ([])) [] (by decide) rfl
  have hK9 := hK.sub (tys' := []) [] rfl
  exact W.iret (v := 1) hx hb hr (fun t ht hW => ⟨⟨1, (), rfl, ⟨rfl, hE⟩, ⟨by rw [ht]; exact hP9, va_K.moved hW.alike hK9, hD9⟩⟩, hS.F ht⟩) hS.2.2 dL_pull_20 hlocks

set_option maxHeartbeats 4000000 in
set_option maxRecDepth 100000 in
theorem w_join (l : Launch) (hst : l.stackTraces = false) (D : va_G) (de : Nat) (ad : Nat → Nat) (p0 p1 : Int32) (sz : Nat) : Met l yL_join wsL_join ({ frames := 8, cells := 1, slots := 6, locals := 128 } : Room) (va_Pc [.ref (ad 0), .int p0, .int p1, .ref (ad 46)] (PX de D ([]) (wX ad) sz)) (va_Qi (fun (r : Int32) (u : Unit) => (r = 1 ∧ True)) (fun u t => PW D ([]) (va_A (wX ad) sz) ([]) t) (va_A (wX ad) sz)) 1 6 (va_A (wX ad) sz) := by
  refine va_MetW (cc := cL_join) (maxL := 5) (ret := (some .int)) (by decide) rfl ?_
  intro p e s m args below meth c s₁ B hml hv
  obtain ⟨rfl, hsz, hP, hK, hD0, hTK, hZ⟩ := hv
  have hx := B.exec
  have hb := B.bytes
  have hr := B.returns
  have hts := atoms_spec (ws := wsL_join) B.pre
  have hown : s.vm.findClass RL = some m.cls := findClass_of_methodNamed B.named
  have hlocks := B.notSynchronized
  have htab := vx_table (x := yL_join) B (hts _ List.mem_cons_self)
  subst hsz
  have hD := hD0.self (sz := s.heap.size)
  generalize hAe : va_A (wX ad) s.heap.size = A at hD hZ ⊢
  have hA : ∀ q : Nat, s.heap.size ≤ q → A q := fun q h => by rw [← hAe]; exact Or.inr h
  have hS : va_S A s.heap s.heap [] := va_S.rf
  have hP : va_P D vwCl (wX ad) s.heap := hP
  have hD : va_D A (wX ad) := hD
  have hl := lv_entry ([.ref (ad 0), .int p0, .int p1, .ref (ad 46)]) (n := 5) (Nat.le_of_ble_eq_true rfl)
  rw [lg_entry_eq]
  generalize (lg_sl ([.ref (ad 0), .int p0, .int p1, .ref (ad 46)]) ++ List.replicate (5 - (lg_sl ([.ref (ad 0), .int p0, .int p1, .ref (ad 46)])).length) Slot.unset).toArray = ls at hl ⊢
  have hl : lv_has ls 5 [(0, .ref (ad 0)), (1, .int p0), (2, .int p1), (3, .ref (ad 46))] := hl
  refine lv_aload_n hx hb dL_join_0 rfl (lv_at hl 3 rfl) ?_
  refine lv_iconst (v := 0) hx hb dL_join_1 (by decide) ?_
  refine lv_aload_n hx hb dL_join_2 rfl (lv_at hl 0 rfl) ?_
  refine lv_iload_n hx hb dL_join_3 rfl (lv_at hl 1 rfl) ?_
  refine lv_iload_n hx hb dL_join_4 rfl (lv_at hl 2 rfl) ?_
  refine kt_i (wc := wX ad) (wr := []) hP hD hS hA [0, 1, 2, 3, 4, 5] [] rfl rfl (by decide) (by decide) (vx_runV (As := [.int p0, .int p1]) (rest := [.int 0, .ref (ad 46)]) ⟨hx, hb, hml, hown, hts⟩ (f_join l hst D de ad p0 p1 s.heap.size) (cwV 2 hts gL_join_X11_join rfl rfl rfl (by decide +kernel) ⟨Nat.le_of_ble_eq_true rfl, Nat.le_of_ble_eq_true rfl⟩) ⟨px_blind, (va_recv hK hP (ci := 16) (q0 := 0) rfl rfl), (px_pre hP hD hK hS hA hTK hZ [0, 1, 2, 3, 4, 5] rfl rfl (by decide) [] rfl)⟩ rfl rfl hl.1 rfl (lv_room (Nat.le_of_ble_eq_true rfl)) dL_join_5 ⟨(Nat.le_of_ble_eq_true rfl), (Nat.le_of_ble_eq_true rfl)⟩) (fun E q9 H locs hE hq hP hD hS => ?_) (fun r_1 u H locs hw hP hD hK1 hS => hw.elim)
  obtain ⟨rfl, hE⟩ := hE
  obtain ⟨ce9, hq1, hq2, hq3⟩ := hq
  refine vx_catch (own := RL) (name := "java/lang/IndexOutOfBoundsException") hown [] (⟨0, 10, 13, 19⟩ : ExceptionTableEntry) [(⟨0, 10, 17, 31⟩ : ExceptionTableEntry)] htab (fun _ h9 => absurd h9 List.not_mem_nil) (by decide) (by decide) (va_Nw.use rfl (hTK.2.2.2.2.2.2.2.2.2.2.1 (RL, 19, "java/lang/IndexOutOfBoundsException") (by decide +kernel))) (va_Nw.use rfl (hTK.1 "java/lang/IndexOutOfBoundsException" (by decide +kernel))) hq1 hq2 hq3 ?_
  refine W.eq (g2 := F0 m 13 ls [.ref q9]) rfl ?_
  refine lv_astore (lv' := [(4, .ref q9), (0, .ref (ad 0)), (1, .int p0), (2, .int p1), (3, .ref (ad 46))]) hx hb dL_join_13 hl (by decide) rfl (fun ls hl => ?_)
  refine lv_iconst (v := 1) hx hb dL_join_15 (by decide) ?_
  refine W.widen (k := 1) (n := 6) (Nat.le_of_ble_eq_true rfl) (Nat.le_of_ble_eq_true rfl) ?_
  have hP9 := hP.sub (ws' := ([])) [] rfl
  have hD9 := hD.sub (ws' := ([])) [] (by decide) rfl
  have hK9 := hK.sub (tys' := []) [] rfl
  exact W.iret (v := 1) hx hb hr (fun t ht hW => ⟨⟨1, (), rfl, ⟨rfl, hE⟩, ⟨by rw [ht]; exact hP9, va_K.moved hW.alike hK9, hD9⟩⟩, hS.F ht⟩) hS.2.2 dL_join_16 hlocks

set_option maxHeartbeats 4000000 in
set_option maxRecDepth 100000 in
theorem w_move (l : Launch) (hst : l.stackTraces = false) (D : va_G) (de : Nat) (ad : Nat → Nat) (p0 p1 p2 : Int32) (sz : Nat) : Met l yL_move wsL_move ({ frames := 8, cells := 1, slots := 6, locals := 128 } : Room) (va_Pc [.ref (ad 0), .int p0, .int p1, .int p2, .ref (ad 46)] (PX de D ([]) (wX ad) sz)) (va_Qi (fun (r : Int32) (u : Unit) => (r = 1 ∧ True)) (fun u t => PW D ([]) (va_A (wX ad) sz) ([]) t) (va_A (wX ad) sz)) 1 6 (va_A (wX ad) sz) := by
  refine va_MetW (cc := cL_move) (maxL := 6) (ret := (some .int)) (by decide) rfl ?_
  intro p e s m args below meth c s₁ B hml hv
  obtain ⟨rfl, hsz, hP, hK, hD0, hTK, hZ⟩ := hv
  have hx := B.exec
  have hb := B.bytes
  have hr := B.returns
  have hts := atoms_spec (ws := wsL_move) B.pre
  have hown : s.vm.findClass RL = some m.cls := findClass_of_methodNamed B.named
  have hlocks := B.notSynchronized
  have htab := vx_table (x := yL_move) B (hts _ List.mem_cons_self)
  subst hsz
  have hD := hD0.self (sz := s.heap.size)
  generalize hAe : va_A (wX ad) s.heap.size = A at hD hZ ⊢
  have hA : ∀ q : Nat, s.heap.size ≤ q → A q := fun q h => by rw [← hAe]; exact Or.inr h
  have hS : va_S A s.heap s.heap [] := va_S.rf
  have hP : va_P D vwCl (wX ad) s.heap := hP
  have hD : va_D A (wX ad) := hD
  have hl := lv_entry ([.ref (ad 0), .int p0, .int p1, .int p2, .ref (ad 46)]) (n := 6) (Nat.le_of_ble_eq_true rfl)
  rw [lg_entry_eq]
  generalize (lg_sl ([.ref (ad 0), .int p0, .int p1, .int p2, .ref (ad 46)]) ++ List.replicate (6 - (lg_sl ([.ref (ad 0), .int p0, .int p1, .int p2, .ref (ad 46)])).length) Slot.unset).toArray = ls at hl ⊢
  have hl : lv_has ls 6 [(0, .ref (ad 0)), (1, .int p0), (2, .int p1), (3, .int p2), (4, .ref (ad 46))] := hl
  refine lv_aload hx hb dL_move_0 (lv_at hl 4 rfl) ?_
  refine lv_iconst (v := 0) hx hb dL_move_2 (by decide) ?_
  refine lv_aload_n hx hb dL_move_3 rfl (lv_at hl 0 rfl) ?_
  refine lv_iload_n hx hb dL_move_4 rfl (lv_at hl 1 rfl) ?_
  refine lv_iload_n hx hb dL_move_5 rfl (lv_at hl 2 rfl) ?_
  refine lv_iload_n hx hb dL_move_6 rfl (lv_at hl 3 rfl) ?_
  refine kt_i (wc := wX ad) (wr := []) hP hD hS hA [0, 1, 2, 3, 4, 5] [] rfl rfl (by decide) (by decide) (vx_runV (As := [.int p0, .int p1, .int p2]) (rest := [.int 0, .ref (ad 46)]) ⟨hx, hb, hml, hown, hts⟩ (f_move l hst D de ad p0 p1 p2 s.heap.size) (cwV 3 hts gL_move_X11_move rfl rfl rfl (by decide +kernel) ⟨Nat.le_of_ble_eq_true rfl, Nat.le_of_ble_eq_true rfl⟩) ⟨px_blind, (va_recv hK hP (ci := 16) (q0 := 0) rfl rfl), (px_pre hP hD hK hS hA hTK hZ [0, 1, 2, 3, 4, 5] rfl rfl (by decide) [] rfl)⟩ rfl rfl hl.1 rfl (lv_room (Nat.le_of_ble_eq_true rfl)) dL_move_7 ⟨(Nat.le_of_ble_eq_true rfl), (Nat.le_of_ble_eq_true rfl)⟩) (fun E q9 H locs hE hq hP hD hS => ?_) (fun r_1 u H locs hw hP hD hK1 hS => hw.elim)
  obtain ⟨rfl, hE⟩ := hE
  obtain ⟨ce9, hq1, hq2, hq3⟩ := hq
  refine vx_catch (own := RL) (name := "java/lang/IndexOutOfBoundsException") hown [] (⟨0, 12, 15, 19⟩ : ExceptionTableEntry) [(⟨0, 12, 19, 13⟩ : ExceptionTableEntry)] htab (fun _ h9 => absurd h9 List.not_mem_nil) (by decide) (by decide) (va_Nw.use rfl (hTK.2.2.2.2.2.2.2.2.2.2.1 (RL, 19, "java/lang/IndexOutOfBoundsException") (by decide +kernel))) (va_Nw.use rfl (hTK.1 "java/lang/IndexOutOfBoundsException" (by decide +kernel))) hq1 hq2 hq3 ?_
  refine W.eq (g2 := F0 m 15 ls [.ref q9]) rfl ?_
  refine lv_astore (lv' := [(5, .ref q9), (0, .ref (ad 0)), (1, .int p0), (2, .int p1), (3, .int p2), (4, .ref (ad 46))]) hx hb dL_move_15 hl (by decide) rfl (fun ls hl => ?_)
  refine lv_iconst (v := 1) hx hb dL_move_17 (by decide) ?_
  refine W.widen (k := 1) (n := 6) (Nat.le_of_ble_eq_true rfl) (Nat.le_of_ble_eq_true rfl) ?_
  have hP9 := hP.sub (ws' := ([])) [] rfl
  have hD9 := hD.sub (ws' := ([])) [] (by decide) rfl
  have hK9 := hK.sub (tys' := []) [] rfl
  exact W.iret (v := 1) hx hb hr (fun t ht hW => ⟨⟨1, (), rfl, ⟨rfl, hE⟩, ⟨by rw [ht]; exact hP9, va_K.moved hW.alike hK9, hD9⟩⟩, hS.F ht⟩) hS.2.2 dL_move_18 hlocks

set_option maxHeartbeats 4000000 in
set_option maxRecDepth 100000 in
theorem w_pullAt (l : Launch) (hst : l.stackTraces = false) (D : va_G) (de : Nat) (ad : Nat → Nat) (p0 : Int32) (sz : Nat) : Met l yL_pullAt wsL_pullAt ({ frames := 8, cells := 1, slots := 6, locals := 125 } : Room) (va_Pc [.ref (ad 0), .int p0, .ref (ad 46)] (PX de D ([]) (wX ad) sz)) (va_Qi (fun (r : Int32) (u : Unit) => (r = 1 ∧ True)) (fun u t => PW D ([]) (va_A (wX ad) sz) ([]) t) (va_A (wX ad) sz)) 1 6 (va_A (wX ad) sz) := by
  refine va_MetW (cc := cL_pullAt) (maxL := 4) (ret := (some .int)) (by decide) rfl ?_
  intro p e s m args below meth c s₁ B hml hv
  obtain ⟨rfl, hsz, hP, hK, hD0, hTK, hZ⟩ := hv
  have hx := B.exec
  have hb := B.bytes
  have hr := B.returns
  have hts := atoms_spec (ws := wsL_pullAt) B.pre
  have hown : s.vm.findClass RL = some m.cls := findClass_of_methodNamed B.named
  have hlocks := B.notSynchronized
  have htab := vx_table (x := yL_pullAt) B (hts _ List.mem_cons_self)
  subst hsz
  have hD := hD0.self (sz := s.heap.size)
  generalize hAe : va_A (wX ad) s.heap.size = A at hD hZ ⊢
  have hA : ∀ q : Nat, s.heap.size ≤ q → A q := fun q h => by rw [← hAe]; exact Or.inr h
  have hS : va_S A s.heap s.heap [] := va_S.rf
  have hP : va_P D vwCl (wX ad) s.heap := hP
  have hD : va_D A (wX ad) := hD
  have hl := lv_entry ([.ref (ad 0), .int p0, .ref (ad 46)]) (n := 4) (Nat.le_of_ble_eq_true rfl)
  rw [lg_entry_eq]
  generalize (lg_sl ([.ref (ad 0), .int p0, .ref (ad 46)]) ++ List.replicate (4 - (lg_sl ([.ref (ad 0), .int p0, .ref (ad 46)])).length) Slot.unset).toArray = ls at hl ⊢
  have hl : lv_has ls 4 [(0, .ref (ad 0)), (1, .int p0), (2, .ref (ad 46))] := hl
  refine lv_aload_n hx hb dL_pullAt_0 rfl (lv_at hl 2 rfl) ?_
  refine lv_iconst (v := 0) hx hb dL_pullAt_1 (by decide) ?_
  refine lv_aload_n hx hb dL_pullAt_2 rfl (lv_at hl 0 rfl) ?_
  refine lv_iload_n hx hb dL_pullAt_3 rfl (lv_at hl 1 rfl) ?_
  refine kt_i (wc := wX ad) (wr := []) hP hD hS hA [0, 1, 2, 3, 4, 5] [] rfl rfl (by decide) (by decide) (vx_runV (As := [.int p0]) (rest := [.int 0, .ref (ad 46)]) ⟨hx, hb, hml, hown, hts⟩ (f_pullAt l hst D de ad p0 s.heap.size) (cwV 1 hts gL_pullAt_X11_pullAt rfl rfl rfl (by decide +kernel) ⟨Nat.le_of_ble_eq_true rfl, Nat.le_of_ble_eq_true rfl⟩) ⟨px_blind, (va_recv hK hP (ci := 16) (q0 := 0) rfl rfl), (px_pre hP hD hK hS hA hTK hZ [0, 1, 2, 3, 4, 5] rfl rfl (by decide) [] rfl)⟩ rfl rfl hl.1 rfl (lv_room (Nat.le_of_ble_eq_true rfl)) dL_pullAt_4 ⟨(Nat.le_of_ble_eq_true rfl), (Nat.le_of_ble_eq_true rfl)⟩) (fun E q9 H locs hE hq hP hD hS => ?_) (fun r_1 u H locs hw hP hD hK1 hS => hw.elim)
  obtain ⟨rfl, hE⟩ := hE
  obtain ⟨ce9, hq1, hq2, hq3⟩ := hq
  refine vx_catch (own := RL) (name := "java/lang/IndexOutOfBoundsException") hown [] (⟨0, 9, 12, 19⟩ : ExceptionTableEntry) [] htab (fun _ h9 => absurd h9 List.not_mem_nil) (by decide) (by decide) (va_Nw.use rfl (hTK.2.2.2.2.2.2.2.2.2.2.1 (RL, 19, "java/lang/IndexOutOfBoundsException") (by decide +kernel))) (va_Nw.use rfl (hTK.1 "java/lang/IndexOutOfBoundsException" (by decide +kernel))) hq1 hq2 hq3 ?_
  refine W.eq (g2 := F0 m 12 ls [.ref q9]) rfl ?_
  refine lv_astore_n (lv' := [(3, .ref q9), (0, .ref (ad 0)), (1, .int p0), (2, .ref (ad 46))]) hx hb dL_pullAt_12 rfl hl (by decide) rfl (fun ls hl => ?_)
  refine lv_iconst (v := 1) hx hb dL_pullAt_13 (by decide) ?_
  refine W.widen (k := 1) (n := 6) (Nat.le_of_ble_eq_true rfl) (Nat.le_of_ble_eq_true rfl) ?_
  have hP9 := hP.sub (ws' := ([])) [] rfl
  have hD9 := hD.sub (ws' := ([])) [] (by decide) rfl
  have hK9 := hK.sub (tys' := []) [] rfl
  exact W.iret (v := 1) hx hb hr (fun t ht hW => ⟨⟨1, (), rfl, ⟨rfl, hE⟩, ⟨by rw [ht]; exact hP9, va_K.moved hW.alike hK9, hD9⟩⟩, hS.F ht⟩) hS.2.2 dL_pullAt_14 hlocks

set_option maxHeartbeats 4000000 in
set_option maxRecDepth 100000 in
theorem w_netAt (l : Launch) (hst : l.stackTraces = false) (D : va_G) (de : Nat) (ad : Nat → Nat) (p0 p1 : Int32) (sz : Nat) : Met l yL_netAt wsL_netAt ({ frames := 8, cells := 1, slots := 6, locals := 126 } : Room) (va_Pc [.ref (ad 0), .int p0, .int p1, .ref (ad 46)] (PX de D ([]) (wX ad) sz)) (va_Qi (fun (r : Int32) (u : Unit) => (r = 1 ∧ True)) (fun u t => PW D ([]) (va_A (wX ad) sz) ([]) t) (va_A (wX ad) sz)) 1 6 (va_A (wX ad) sz) := by
  refine va_MetW (cc := cL_netAt) (maxL := 5) (ret := (some .int)) (by decide) rfl ?_
  intro p e s m args below meth c s₁ B hml hv
  obtain ⟨rfl, hsz, hP, hK, hD0, hTK, hZ⟩ := hv
  have hx := B.exec
  have hb := B.bytes
  have hr := B.returns
  have hts := atoms_spec (ws := wsL_netAt) B.pre
  have hown : s.vm.findClass RL = some m.cls := findClass_of_methodNamed B.named
  have hlocks := B.notSynchronized
  have htab := vx_table (x := yL_netAt) B (hts _ List.mem_cons_self)
  subst hsz
  have hD := hD0.self (sz := s.heap.size)
  generalize hAe : va_A (wX ad) s.heap.size = A at hD hZ ⊢
  have hA : ∀ q : Nat, s.heap.size ≤ q → A q := fun q h => by rw [← hAe]; exact Or.inr h
  have hS : va_S A s.heap s.heap [] := va_S.rf
  have hP : va_P D vwCl (wX ad) s.heap := hP
  have hD : va_D A (wX ad) := hD
  have hl := lv_entry ([.ref (ad 0), .int p0, .int p1, .ref (ad 46)]) (n := 5) (Nat.le_of_ble_eq_true rfl)
  rw [lg_entry_eq]
  generalize (lg_sl ([.ref (ad 0), .int p0, .int p1, .ref (ad 46)]) ++ List.replicate (5 - (lg_sl ([.ref (ad 0), .int p0, .int p1, .ref (ad 46)])).length) Slot.unset).toArray = ls at hl ⊢
  have hl : lv_has ls 5 [(0, .ref (ad 0)), (1, .int p0), (2, .int p1), (3, .ref (ad 46))] := hl
  refine lv_aload_n hx hb dL_netAt_0 rfl (lv_at hl 3 rfl) ?_
  refine lv_iconst (v := 0) hx hb dL_netAt_1 (by decide) ?_
  refine lv_aload_n hx hb dL_netAt_2 rfl (lv_at hl 0 rfl) ?_
  refine lv_iload_n hx hb dL_netAt_3 rfl (lv_at hl 1 rfl) ?_
  refine lv_iload_n hx hb dL_netAt_4 rfl (lv_at hl 2 rfl) ?_
  refine kt_i (wc := wX ad) (wr := []) hP hD hS hA [0, 1, 2, 3, 4, 5] [] rfl rfl (by decide) (by decide) (vx_runV (As := [.int p0, .int p1]) (rest := [.int 0, .ref (ad 46)]) ⟨hx, hb, hml, hown, hts⟩ (f_netAt l hst D de ad p0 p1 s.heap.size) (cwV 2 hts gL_netAt_X11_netAt rfl rfl rfl (by decide +kernel) ⟨Nat.le_of_ble_eq_true rfl, Nat.le_of_ble_eq_true rfl⟩) ⟨px_blind, (va_recv hK hP (ci := 16) (q0 := 0) rfl rfl), (px_pre hP hD hK hS hA hTK hZ [0, 1, 2, 3, 4, 5] rfl rfl (by decide) [] rfl)⟩ rfl rfl hl.1 rfl (lv_room (Nat.le_of_ble_eq_true rfl)) dL_netAt_5 ⟨(Nat.le_of_ble_eq_true rfl), (Nat.le_of_ble_eq_true rfl)⟩) (fun E q9 H locs hE hq hP hD hS => ?_) (fun r_1 u H locs hw hP hD hK1 hS => hw.elim)
  obtain ⟨rfl, hE⟩ := hE
  obtain ⟨ce9, hq1, hq2, hq3⟩ := hq
  refine vx_catch (own := RL) (name := "java/lang/IndexOutOfBoundsException") hown [] (⟨0, 10, 13, 19⟩ : ExceptionTableEntry) [(⟨0, 10, 17, 13⟩ : ExceptionTableEntry), (⟨0, 10, 21, 31⟩ : ExceptionTableEntry)] htab (fun _ h9 => absurd h9 List.not_mem_nil) (by decide) (by decide) (va_Nw.use rfl (hTK.2.2.2.2.2.2.2.2.2.2.1 (RL, 19, "java/lang/IndexOutOfBoundsException") (by decide +kernel))) (va_Nw.use rfl (hTK.1 "java/lang/IndexOutOfBoundsException" (by decide +kernel))) hq1 hq2 hq3 ?_
  refine W.eq (g2 := F0 m 13 ls [.ref q9]) rfl ?_
  refine lv_astore (lv' := [(4, .ref q9), (0, .ref (ad 0)), (1, .int p0), (2, .int p1), (3, .ref (ad 46))]) hx hb dL_netAt_13 hl (by decide) rfl (fun ls hl => ?_)
  refine lv_iconst (v := 1) hx hb dL_netAt_15 (by decide) ?_
  refine W.widen (k := 1) (n := 6) (Nat.le_of_ble_eq_true rfl) (Nat.le_of_ble_eq_true rfl) ?_
  have hP9 := hP.sub (ws' := ([])) [] rfl
  have hD9 := hD.sub (ws' := ([])) [] (by decide) rfl
  have hK9 := hK.sub (tys' := []) [] rfl
  exact W.iret (v := 1) hx hb hr (fun t ht hW => ⟨⟨1, (), rfl, ⟨rfl, hE⟩, ⟨by rw [ht]; exact hP9, va_K.moved hW.alike hK9, hD9⟩⟩, hS.F ht⟩) hS.2.2 dL_netAt_16 hlocks

set_option maxHeartbeats 4000000 in
set_option maxRecDepth 100000 in
theorem w_orderAt (l : Launch) (hst : l.stackTraces = false) (D : va_G) (de : Nat) (ad : Nat → Nat) (p0 : Int32) (sz : Nat) : Met l yL_orderAt wnL_orderAt ({ frames := 7, cells := 1, slots := 6, locals := 103 } : Room) (va_Pc [.ref (ad 0), .int p0, .ref (ad 46)] (PX de D ([]) (wX ad) sz)) (va_Qi (fun (r : Int32) (u : Unit) => (r = 1 ∧ True)) (fun u t => PW D ([]) (va_A (wX ad) sz) ([]) t) (va_A (wX ad) sz)) 1 6 (va_A (wX ad) sz) := by
  refine va_MetW (cc := cL_orderAt) (maxL := 4) (ret := (some .int)) (by decide) rfl ?_
  intro p e s m args below meth c s₁ B hml hv
  obtain ⟨rfl, hsz, hP, hK, hD0, hTK, hZ⟩ := hv
  have hx := B.exec
  have hb := B.bytes
  have hr := B.returns
  have hts := atoms_spec (ws := wnL_orderAt) B.pre
  have hown : s.vm.findClass RL = some m.cls := findClass_of_methodNamed B.named
  have hlocks := B.notSynchronized
  have htab := vx_table (x := yL_orderAt) B (hts _ List.mem_cons_self)
  subst hsz
  have hD := hD0.self (sz := s.heap.size)
  generalize hAe : va_A (wX ad) s.heap.size = A at hD hZ ⊢
  have hA : ∀ q : Nat, s.heap.size ≤ q → A q := fun q h => by rw [← hAe]; exact Or.inr h
  have hS : va_S A s.heap s.heap [] := va_S.rf
  have hP : va_P D vwCl (wX ad) s.heap := hP
  have hD : va_D A (wX ad) := hD
  have hl := lv_entry ([.ref (ad 0), .int p0, .ref (ad 46)]) (n := 4) (Nat.le_of_ble_eq_true rfl)
  rw [lg_entry_eq]
  generalize (lg_sl ([.ref (ad 0), .int p0, .ref (ad 46)]) ++ List.replicate (4 - (lg_sl ([.ref (ad 0), .int p0, .ref (ad 46)])).length) Slot.unset).toArray = ls at hl ⊢
  have hl : lv_has ls 4 [(0, .ref (ad 0)), (1, .int p0), (2, .ref (ad 46))] := hl
  refine lv_aload_n hx hb dL_orderAt_0 rfl (lv_at hl 2 rfl) ?_
  refine lv_iconst (v := 0) hx hb dL_orderAt_1 (by decide) ?_
  refine lv_aload_n hx hb dL_orderAt_2 rfl (lv_at hl 0 rfl) ?_
  refine lv_iload_n hx hb dL_orderAt_3 rfl (lv_at hl 1 rfl) ?_
  refine kt_i (wc := wX ad) (wr := []) hP hD hS hA [0, 1, 2, 3, 4, 5] [] rfl rfl (by decide) (by decide) (vx_runV (As := [.int p0]) (rest := [.int 0, .ref (ad 46)]) ⟨hx, hb, hml, hown, hts⟩ (f_orderAt l hst D de ad p0 s.heap.size) (cwV 1 hts (gn_both rfl rfl (by decide +kernel) gL_orderAt_X11_orderAt) rfl rfl rfl (by decide +kernel) ⟨Nat.le_of_ble_eq_true rfl, Nat.le_of_ble_eq_true rfl⟩) ⟨px_blind, (va_recv hK hP (ci := 16) (q0 := 0) rfl rfl), (px_pre hP hD hK hS hA hTK hZ [0, 1, 2, 3, 4, 5] rfl rfl (by decide) [] rfl)⟩ rfl rfl hl.1 rfl (lv_room (Nat.le_of_ble_eq_true rfl)) dL_orderAt_4 ⟨(Nat.le_of_ble_eq_true rfl), (Nat.le_of_ble_eq_true rfl)⟩) (fun E q9 H locs hE hq hP hD hS => ?_) (fun r_1 u H locs hw hP hD hK1 hS => hw.elim)
  obtain ⟨rfl, hE⟩ := hE
  obtain ⟨ce9, hq1, hq2, hq3⟩ := hq
  refine vx_catch (own := RL) (name := "java/util/NoSuchElementException") hown [] (⟨0, 9, 12, 55⟩ : ExceptionTableEntry) [] htab (fun _ h9 => absurd h9 List.not_mem_nil) (by decide) (by decide) (va_Nw.use rfl (hTK.2.2.2.2.2.2.2.2.2.2.1 (RL, 55, "java/util/NoSuchElementException") (by decide +kernel))) (va_Nw.use rfl (hTK.1 "java/util/NoSuchElementException" (by decide +kernel))) hq1 hq2 hq3 ?_
  refine W.eq (g2 := F0 m 12 ls [.ref q9]) rfl ?_
  refine lv_astore_n (lv' := [(3, .ref q9), (0, .ref (ad 0)), (1, .int p0), (2, .ref (ad 46))]) hx hb dL_orderAt_12 rfl hl (by decide) rfl (fun ls hl => ?_)
  refine lv_iconst (v := 1) hx hb dL_orderAt_13 (by decide) ?_
  refine W.widen (k := 1) (n := 6) (Nat.le_of_ble_eq_true rfl) (Nat.le_of_ble_eq_true rfl) ?_
  have hP9 := hP.sub (ws' := ([])) [] rfl
  have hD9 := hD.sub (ws' := ([])) [] (by decide) rfl
  have hK9 := hK.sub (tys' := []) [] rfl
  exact W.iret (v := 1) hx hb hr (fun t ht hW => ⟨⟨1, (), rfl, ⟨rfl, hE⟩, ⟨by rw [ht]; exact hP9, va_K.moved hW.alike hK9, hD9⟩⟩, hS.F ht⟩) hS.2.2 dL_orderAt_14 hlocks

set_option maxHeartbeats 4000000 in
set_option maxRecDepth 100000 in
theorem w_begunAt (l : Launch) (hst : l.stackTraces = false) (D : va_G) (de : Nat) (ad : Nat → Nat) (p0 : Int32) (sz : Nat) : Met l yL_begunAt wsL_begunAt ({ frames := 8, cells := 1, slots := 6, locals := 125 } : Room) (va_Pc [.ref (ad 0), .int p0, .ref (ad 46)] (PX de D ([]) (wX ad) sz)) (va_Qi (fun (r : Int32) (u : Unit) => (r = 1 ∧ True)) (fun u t => PW D ([]) (va_A (wX ad) sz) ([]) t) (va_A (wX ad) sz)) 1 6 (va_A (wX ad) sz) := by
  refine va_MetW (cc := cL_begunAt) (maxL := 4) (ret := (some .int)) (by decide) rfl ?_
  intro p e s m args below meth c s₁ B hml hv
  obtain ⟨rfl, hsz, hP, hK, hD0, hTK, hZ⟩ := hv
  have hx := B.exec
  have hb := B.bytes
  have hr := B.returns
  have hts := atoms_spec (ws := wsL_begunAt) B.pre
  have hown : s.vm.findClass RL = some m.cls := findClass_of_methodNamed B.named
  have hlocks := B.notSynchronized
  have htab := vx_table (x := yL_begunAt) B (hts _ List.mem_cons_self)
  subst hsz
  have hD := hD0.self (sz := s.heap.size)
  generalize hAe : va_A (wX ad) s.heap.size = A at hD hZ ⊢
  have hA : ∀ q : Nat, s.heap.size ≤ q → A q := fun q h => by rw [← hAe]; exact Or.inr h
  have hS : va_S A s.heap s.heap [] := va_S.rf
  have hP : va_P D vwCl (wX ad) s.heap := hP
  have hD : va_D A (wX ad) := hD
  have hl := lv_entry ([.ref (ad 0), .int p0, .ref (ad 46)]) (n := 4) (Nat.le_of_ble_eq_true rfl)
  rw [lg_entry_eq]
  generalize (lg_sl ([.ref (ad 0), .int p0, .ref (ad 46)]) ++ List.replicate (4 - (lg_sl ([.ref (ad 0), .int p0, .ref (ad 46)])).length) Slot.unset).toArray = ls at hl ⊢
  have hl : lv_has ls 4 [(0, .ref (ad 0)), (1, .int p0), (2, .ref (ad 46))] := hl
  refine lv_aload_n hx hb dL_begunAt_0 rfl (lv_at hl 2 rfl) ?_
  refine lv_iconst (v := 0) hx hb dL_begunAt_1 (by decide) ?_
  refine lv_aload_n hx hb dL_begunAt_2 rfl (lv_at hl 0 rfl) ?_
  refine lv_iload_n hx hb dL_begunAt_3 rfl (lv_at hl 1 rfl) ?_
  refine kt_i (wc := wX ad) (wr := []) hP hD hS hA [0, 1, 2, 3, 4, 5] [] rfl rfl (by decide) (by decide) (vx_runV (As := [.int p0]) (rest := [.int 0, .ref (ad 46)]) ⟨hx, hb, hml, hown, hts⟩ (f_begunAt l hst D de ad p0 s.heap.size) (cwV 1 hts gL_begunAt_X11_begunAt rfl rfl rfl (by decide +kernel) ⟨Nat.le_of_ble_eq_true rfl, Nat.le_of_ble_eq_true rfl⟩) ⟨px_blind, (va_recv hK hP (ci := 16) (q0 := 0) rfl rfl), (px_pre hP hD hK hS hA hTK hZ [0, 1, 2, 3, 4, 5] rfl rfl (by decide) [] rfl)⟩ rfl rfl hl.1 rfl (lv_room (Nat.le_of_ble_eq_true rfl)) dL_begunAt_4 ⟨(Nat.le_of_ble_eq_true rfl), (Nat.le_of_ble_eq_true rfl)⟩) (fun E q9 H locs hE hq hP hD hS => ?_) (fun r_1 u H locs hw hP hD hK1 hS => hw.elim)
  obtain ⟨rfl, hE⟩ := hE
  obtain ⟨ce9, hq1, hq2, hq3⟩ := hq
  refine vx_catch (own := RL) (name := "java/lang/IndexOutOfBoundsException") hown [] (⟨0, 9, 12, 19⟩ : ExceptionTableEntry) [] htab (fun _ h9 => absurd h9 List.not_mem_nil) (by decide) (by decide) (va_Nw.use rfl (hTK.2.2.2.2.2.2.2.2.2.2.1 (RL, 19, "java/lang/IndexOutOfBoundsException") (by decide +kernel))) (va_Nw.use rfl (hTK.1 "java/lang/IndexOutOfBoundsException" (by decide +kernel))) hq1 hq2 hq3 ?_
  refine W.eq (g2 := F0 m 12 ls [.ref q9]) rfl ?_
  refine lv_astore_n (lv' := [(3, .ref q9), (0, .ref (ad 0)), (1, .int p0), (2, .ref (ad 46))]) hx hb dL_begunAt_12 rfl hl (by decide) rfl (fun ls hl => ?_)
  refine lv_iconst (v := 1) hx hb dL_begunAt_13 (by decide) ?_
  refine W.widen (k := 1) (n := 6) (Nat.le_of_ble_eq_true rfl) (Nat.le_of_ble_eq_true rfl) ?_
  have hP9 := hP.sub (ws' := ([])) [] rfl
  have hD9 := hD.sub (ws' := ([])) [] (by decide) rfl
  have hK9 := hK.sub (tys' := []) [] rfl
  exact W.iret (v := 1) hx hb hr (fun t ht hW => ⟨⟨1, (), rfl, ⟨rfl, hE⟩, ⟨by rw [ht]; exact hP9, va_K.moved hW.alike hK9, hD9⟩⟩, hS.F ht⟩) hS.2.2 dL_begunAt_14 hlocks

set_option maxHeartbeats 4000000 in
set_option maxRecDepth 100000 in
theorem w_waiting (l : Launch) (hst : l.stackTraces = false) (D : va_G) (de : Nat) (ad : Nat → Nat) (p0 : Int32) (sz : Nat) : Met l yL_waiting wsL_waiting ({ frames := 8, cells := 1, slots := 6, locals := 125 } : Room) (va_Pc [.ref (ad 0), .int p0, .ref (ad 46)] (PX de D ([]) (wX ad) sz)) (va_Qi (fun (r : Int32) (u : Unit) => (r = 1 ∧ True)) (fun u t => PW D ([]) (va_A (wX ad) sz) ([]) t) (va_A (wX ad) sz)) 1 6 (va_A (wX ad) sz) := by
  refine va_MetW (cc := cL_waiting) (maxL := 4) (ret := (some .int)) (by decide) rfl ?_
  intro p e s m args below meth c s₁ B hml hv
  obtain ⟨rfl, hsz, hP, hK, hD0, hTK, hZ⟩ := hv
  have hx := B.exec
  have hb := B.bytes
  have hr := B.returns
  have hts := atoms_spec (ws := wsL_waiting) B.pre
  have hown : s.vm.findClass RL = some m.cls := findClass_of_methodNamed B.named
  have hlocks := B.notSynchronized
  have htab := vx_table (x := yL_waiting) B (hts _ List.mem_cons_self)
  subst hsz
  have hD := hD0.self (sz := s.heap.size)
  generalize hAe : va_A (wX ad) s.heap.size = A at hD hZ ⊢
  have hA : ∀ q : Nat, s.heap.size ≤ q → A q := fun q h => by rw [← hAe]; exact Or.inr h
  have hS : va_S A s.heap s.heap [] := va_S.rf
  have hP : va_P D vwCl (wX ad) s.heap := hP
  have hD : va_D A (wX ad) := hD
  have hl := lv_entry ([.ref (ad 0), .int p0, .ref (ad 46)]) (n := 4) (Nat.le_of_ble_eq_true rfl)
  rw [lg_entry_eq]
  generalize (lg_sl ([.ref (ad 0), .int p0, .ref (ad 46)]) ++ List.replicate (4 - (lg_sl ([.ref (ad 0), .int p0, .ref (ad 46)])).length) Slot.unset).toArray = ls at hl ⊢
  have hl : lv_has ls 4 [(0, .ref (ad 0)), (1, .int p0), (2, .ref (ad 46))] := hl
  refine lv_aload_n hx hb dL_waiting_0 rfl (lv_at hl 2 rfl) ?_
  refine lv_iconst (v := 0) hx hb dL_waiting_1 (by decide) ?_
  refine lv_aload_n hx hb dL_waiting_2 rfl (lv_at hl 0 rfl) ?_
  refine lv_iload_n hx hb dL_waiting_3 rfl (lv_at hl 1 rfl) ?_
  refine kt_i (wc := wX ad) (wr := []) hP hD hS hA [0, 1, 2, 3, 4, 5] [] rfl rfl (by decide) (by decide) (vx_runV (As := [.int p0]) (rest := [.int 0, .ref (ad 46)]) ⟨hx, hb, hml, hown, hts⟩ (f_waiting l hst D de ad p0 s.heap.size) (cwV 1 hts gL_waiting_X11_waiting rfl rfl rfl (by decide +kernel) ⟨Nat.le_of_ble_eq_true rfl, Nat.le_of_ble_eq_true rfl⟩) ⟨px_blind, (va_recv hK hP (ci := 16) (q0 := 0) rfl rfl), (px_pre hP hD hK hS hA hTK hZ [0, 1, 2, 3, 4, 5] rfl rfl (by decide) [] rfl)⟩ rfl rfl hl.1 rfl (lv_room (Nat.le_of_ble_eq_true rfl)) dL_waiting_4 ⟨(Nat.le_of_ble_eq_true rfl), (Nat.le_of_ble_eq_true rfl)⟩) (fun E q9 H locs hE hq hP hD hS => ?_) (fun r_1 u H locs hw hP hD hK1 hS => hw.elim)
  obtain ⟨rfl, hE⟩ := hE
  obtain ⟨ce9, hq1, hq2, hq3⟩ := hq
  refine vx_catch (own := RL) (name := "java/lang/IndexOutOfBoundsException") hown [] (⟨0, 9, 12, 19⟩ : ExceptionTableEntry) [] htab (fun _ h9 => absurd h9 List.not_mem_nil) (by decide) (by decide) (va_Nw.use rfl (hTK.2.2.2.2.2.2.2.2.2.2.1 (RL, 19, "java/lang/IndexOutOfBoundsException") (by decide +kernel))) (va_Nw.use rfl (hTK.1 "java/lang/IndexOutOfBoundsException" (by decide +kernel))) hq1 hq2 hq3 ?_
  refine W.eq (g2 := F0 m 12 ls [.ref q9]) rfl ?_
  refine lv_astore_n (lv' := [(3, .ref q9), (0, .ref (ad 0)), (1, .int p0), (2, .ref (ad 46))]) hx hb dL_waiting_12 rfl hl (by decide) rfl (fun ls hl => ?_)
  refine lv_iconst (v := 1) hx hb dL_waiting_13 (by decide) ?_
  refine W.widen (k := 1) (n := 6) (Nat.le_of_ble_eq_true rfl) (Nat.le_of_ble_eq_true rfl) ?_
  have hP9 := hP.sub (ws' := ([])) [] rfl
  have hD9 := hD.sub (ws' := ([])) [] (by decide) rfl
  have hK9 := hK.sub (tys' := []) [] rfl
  exact W.iret (v := 1) hx hb hr (fun t ht hW => ⟨⟨1, (), rfl, ⟨rfl, hE⟩, ⟨by rw [ht]; exact hP9, va_K.moved hW.alike hK9, hD9⟩⟩, hS.F ht⟩) hS.2.2 dL_waiting_14 hlocks

set_option maxHeartbeats 4000000 in
set_option maxRecDepth 100000 in
theorem w_copies (l : Launch) (hst : l.stackTraces = false) (D : va_G) (de : Nat) (ad : Nat → Nat) (p0 p1 : Int32) (sz : Nat) : Met l yL_copies wsL_copies ({ frames := 8, cells := 2, slots := 12, locals := 127 } : Room) (va_Pc [.ref (ad 0), .int p0, .int p1, .ref (ad 46)] (PX de D ([]) (wX ad) sz)) (va_Qi (fun (r : Int32) (u : Unit) => (r = 1 ∧ (inR p0 1 9 = 0 ∨ inR p1 1 9999 = 0)) ∨ (r = 2 ∧ (¬ inR p0 1 9 = 0 ∧ ¬ inR p1 1 9999 = 0))) (fun u t => PW D ([]) (va_A (wX ad) sz) ([]) t) (va_A (wX ad) sz)) 2 12 (va_A (wX ad) sz) := by
  refine va_MetW (cc := cL_copies) (maxL := 5) (ret := (some .int)) (by decide) rfl ?_
  intro p e s m args below meth c s₁ B hml hv
  obtain ⟨rfl, hsz, hP, hK, hD0, hTK, hZ⟩ := hv
  have hx := B.exec
  have hb := B.bytes
  have hr := B.returns
  have hts := atoms_spec (ws := wsL_copies) B.pre
  have hown : s.vm.findClass RL = some m.cls := findClass_of_methodNamed B.named
  have hlocks := B.notSynchronized
  have htab := vx_table (x := yL_copies) B (hts _ List.mem_cons_self)
  subst hsz
  have hD := hD0.self (sz := s.heap.size)
  generalize hAe : va_A (wX ad) s.heap.size = A at hD hZ ⊢
  have hA : ∀ q : Nat, s.heap.size ≤ q → A q := fun q h => by rw [← hAe]; exact Or.inr h
  have hS : va_S A s.heap s.heap [] := va_S.rf
  have hP : va_P D vwCl (wX ad) s.heap := hP
  have hD : va_D A (wX ad) := hD
  have hl := lv_entry ([.ref (ad 0), .int p0, .int p1, .ref (ad 46)]) (n := 5) (Nat.le_of_ble_eq_true rfl)
  rw [lg_entry_eq]
  generalize (lg_sl ([.ref (ad 0), .int p0, .int p1, .ref (ad 46)]) ++ List.replicate (5 - (lg_sl ([.ref (ad 0), .int p0, .int p1, .ref (ad 46)])).length) Slot.unset).toArray = ls at hl ⊢
  have hl : lv_has ls 5 [(0, .ref (ad 0)), (1, .int p0), (2, .int p1), (3, .ref (ad 46))] := hl
  refine lv_aload_n hx hb dL_copies_0 rfl (lv_at hl 3 rfl) ?_
  refine lv_iconst (v := 0) hx hb dL_copies_1 (by decide) ?_
  refine lv_aload_n hx hb dL_copies_2 rfl (lv_at hl 0 rfl) ?_
  refine lv_iload_n hx hb dL_copies_3 rfl (lv_at hl 1 rfl) ?_
  refine lv_iload_n hx hb dL_copies_4 rfl (lv_at hl 2 rfl) ?_
  refine kt_i (wc := wX ad) (wr := []) hP hD hS hA [0, 1, 2, 3, 4, 5] [] rfl rfl (by decide) (by decide) (vx_runV (As := [.int p0, .int p1]) (rest := [.int 0, .ref (ad 46)]) ⟨hx, hb, hml, hown, hts⟩ (f_copies l hst D de ad p0 p1 s.heap.size) (cwV 2 hts gL_copies_X11_copies rfl rfl rfl (by decide +kernel) ⟨Nat.le_of_ble_eq_true rfl, Nat.le_of_ble_eq_true rfl⟩) ⟨px_blind, (va_recv hK hP (ci := 16) (q0 := 0) rfl rfl), (px_pre hP hD hK hS hA hTK hZ [0, 1, 2, 3, 4, 5] rfl rfl (by decide) [] rfl)⟩ rfl rfl hl.1 rfl (lv_room (Nat.le_of_ble_eq_true rfl)) dL_copies_5 ⟨(Nat.le_of_ble_eq_true rfl), (Nat.le_of_ble_eq_true rfl)⟩) (fun E q9 H locs hE hq hP hD hS => ?_) (fun r_1 u H locs hw hP hD hK1 hS => hw.elim)
  rcases hE with ⟨rfl, hE⟩ | ⟨rfl, hE⟩
  · obtain ⟨ce9, hq1, hq2, hq3⟩ := hq
    refine vx_catch (own := RL) (name := "java/lang/IllegalArgumentException") hown [] (⟨0, 10, 13, 13⟩ : ExceptionTableEntry) [(⟨0, 10, 17, 31⟩ : ExceptionTableEntry)] htab (fun _ h9 => absurd h9 List.not_mem_nil) (by decide) (by decide) (va_Nw.use rfl (hTK.2.2.2.2.2.2.2.2.2.2.1 (RL, 13, "java/lang/IllegalArgumentException") (by decide +kernel))) (va_Nw.use rfl (hTK.1 "java/lang/IllegalArgumentException" (by decide +kernel))) hq1 hq2 hq3 ?_
    refine W.eq (g2 := F0 m 13 ls [.ref q9]) rfl ?_
    refine lv_astore (lv' := [(4, .ref q9), (0, .ref (ad 0)), (1, .int p0), (2, .int p1), (3, .ref (ad 46))]) hx hb dL_copies_13 hl (by decide) rfl (fun ls hl => ?_)
    refine lv_iconst (v := 1) hx hb dL_copies_15 (by decide) ?_
    refine W.widen (k := 2) (n := 12) (Nat.le_of_ble_eq_true rfl) (Nat.le_of_ble_eq_true rfl) ?_
    have hP9 := hP.sub (ws' := ([])) [] rfl
    have hD9 := hD.sub (ws' := ([])) [] (by decide) rfl
    have hK9 := hK.sub (tys' := []) [] rfl
    exact W.iret (v := 1) hx hb hr (fun t ht hW => ⟨⟨1, (), rfl, (Or.inl (⟨rfl, hE⟩)), ⟨by rw [ht]; exact hP9, va_K.moved hW.alike hK9, hD9⟩⟩, hS.F ht⟩) hS.2.2 dL_copies_16 hlocks
  · obtain ⟨ce9, hq1, hq2, hq3⟩ := hq
    refine vx_catch (own := RL) (name := "java/lang/UnsupportedOperationException") hown [(⟨0, 10, 13, 13⟩ : ExceptionTableEntry)] (⟨0, 10, 17, 31⟩ : ExceptionTableEntry) [] htab (List.forall_mem_cons.mpr ⟨Or.inr ⟨by decide, "java/lang/IllegalArgumentException", (va_Nw.use rfl (hTK.2.2.2.2.2.2.2.2.2.2.1 (RL, 13, "java/lang/IllegalArgumentException") (by decide +kernel))), hTK.2.2.1 ("java/lang/UnsupportedOperationException", "java/lang/IllegalArgumentException") (by decide +kernel)⟩, (fun _ h9 => absurd h9 List.not_mem_nil)⟩) (by decide) (by decide) (va_Nw.use rfl (hTK.2.2.2.2.2.2.2.2.2.2.1 (RL, 31, "java/lang/UnsupportedOperationException") (by decide +kernel))) (va_Nw.use rfl (hTK.1 "java/lang/UnsupportedOperationException" (by decide +kernel))) hq1 hq2 hq3 ?_
    refine W.eq (g2 := F0 m 17 ls [.ref q9]) rfl ?_
    refine lv_astore (lv' := [(4, .ref q9), (0, .ref (ad 0)), (1, .int p0), (2, .int p1), (3, .ref (ad 46))]) hx hb dL_copies_17 hl (by decide) rfl (fun ls hl => ?_)
    refine lv_iconst (v := 2) hx hb dL_copies_19 (by decide) ?_
    refine W.widen (k := 2) (n := 12) (Nat.le_of_ble_eq_true rfl) (Nat.le_of_ble_eq_true rfl) ?_
    have hP9 := hP.sub (ws' := ([])) [] rfl
    have hD9 := hD.sub (ws' := ([])) [] (by decide) rfl
    have hK9 := hK.sub (tys' := []) [] rfl
    exact W.iret (v := 2) hx hb hr (fun t ht hW => ⟨⟨2, (), rfl, (Or.inr (⟨rfl, hE⟩)), ⟨by rw [ht]; exact hP9, va_K.moved hW.alike hK9, hD9⟩⟩, hS.F ht⟩) hS.2.2 dL_copies_20 hlocks

set_option maxHeartbeats 4000000 in
set_option maxRecDepth 100000 in
theorem w_open (l : Launch) (hst : l.stackTraces = false) (D : va_G) (de : Nat) (ad : Nat → Nat) (p0 p1 : Int32) (sz : Nat) : Met l yL_open wsL_open ({ frames := 8, cells := 2, slots := 12, locals := 125 } : Room) (va_Pc [.ref (ad 0), .int p0, .int p1, .ref (ad 46)] (PX de D ([]) (wX ad) sz)) (va_Qi (fun (r : Int32) (u : Unit) => (r = 1 ∧ (inR p0 1 18 = 0 ∨ inR p1 1 9999 = 0)) ∨ (r = 2 ∧ (¬ inR p0 1 18 = 0 ∧ ¬ inR p1 1 9999 = 0))) (fun u t => PW D ([]) (va_A (wX ad) sz) ([]) t) (va_A (wX ad) sz)) 2 12 (va_A (wX ad) sz) := by
  refine va_MetW (cc := cL_open) (maxL := 5) (ret := (some .int)) (by decide) rfl ?_
  intro p e s m args below meth c s₁ B hml hv
  obtain ⟨rfl, hsz, hP, hK, hD0, hTK, hZ⟩ := hv
  have hx := B.exec
  have hb := B.bytes
  have hr := B.returns
  have hts := atoms_spec (ws := wsL_open) B.pre
  have hown : s.vm.findClass RL = some m.cls := findClass_of_methodNamed B.named
  have hlocks := B.notSynchronized
  have htab := vx_table (x := yL_open) B (hts _ List.mem_cons_self)
  subst hsz
  have hD := hD0.self (sz := s.heap.size)
  generalize hAe : va_A (wX ad) s.heap.size = A at hD hZ ⊢
  have hA : ∀ q : Nat, s.heap.size ≤ q → A q := fun q h => by rw [← hAe]; exact Or.inr h
  have hS : va_S A s.heap s.heap [] := va_S.rf
  have hP : va_P D vwCl (wX ad) s.heap := hP
  have hD : va_D A (wX ad) := hD
  have hl := lv_entry ([.ref (ad 0), .int p0, .int p1, .ref (ad 46)]) (n := 5) (Nat.le_of_ble_eq_true rfl)
  rw [lg_entry_eq]
  generalize (lg_sl ([.ref (ad 0), .int p0, .int p1, .ref (ad 46)]) ++ List.replicate (5 - (lg_sl ([.ref (ad 0), .int p0, .int p1, .ref (ad 46)])).length) Slot.unset).toArray = ls at hl ⊢
  have hl : lv_has ls 5 [(0, .ref (ad 0)), (1, .int p0), (2, .int p1), (3, .ref (ad 46))] := hl
  refine lv_aload_n hx hb dL_open_0 rfl (lv_at hl 3 rfl) ?_
  refine lv_iconst (v := 0) hx hb dL_open_1 (by decide) ?_
  refine lv_aload_n hx hb dL_open_2 rfl (lv_at hl 0 rfl) ?_
  refine lv_iload_n hx hb dL_open_3 rfl (lv_at hl 1 rfl) ?_
  refine lv_iload_n hx hb dL_open_4 rfl (lv_at hl 2 rfl) ?_
  refine kt_i (wc := wX ad) (wr := []) hP hD hS hA [0, 1, 2, 3, 4, 5] [] rfl rfl (by decide) (by decide) (vx_runV (As := [.int p0, .int p1]) (rest := [.int 0, .ref (ad 46)]) ⟨hx, hb, hml, hown, hts⟩ (f_open l hst D de ad p0 p1 s.heap.size) (cwV 2 hts gL_open_X11_open rfl rfl rfl (by decide +kernel) ⟨Nat.le_of_ble_eq_true rfl, Nat.le_of_ble_eq_true rfl⟩) ⟨px_blind, (va_recv hK hP (ci := 16) (q0 := 0) rfl rfl), (px_pre hP hD hK hS hA hTK hZ [0, 1, 2, 3, 4, 5] rfl rfl (by decide) [] rfl)⟩ rfl rfl hl.1 rfl (lv_room (Nat.le_of_ble_eq_true rfl)) dL_open_5 ⟨(Nat.le_of_ble_eq_true rfl), (Nat.le_of_ble_eq_true rfl)⟩) (fun E q9 H locs hE hq hP hD hS => ?_) (fun r_1 u H locs hw hP hD hK1 hS => hw.elim)
  rcases hE with ⟨rfl, hE⟩ | ⟨rfl, hE⟩
  · obtain ⟨ce9, hq1, hq2, hq3⟩ := hq
    refine vx_catch (own := RL) (name := "java/lang/IllegalArgumentException") hown [] (⟨0, 10, 13, 13⟩ : ExceptionTableEntry) [(⟨0, 10, 17, 31⟩ : ExceptionTableEntry)] htab (fun _ h9 => absurd h9 List.not_mem_nil) (by decide) (by decide) (va_Nw.use rfl (hTK.2.2.2.2.2.2.2.2.2.2.1 (RL, 13, "java/lang/IllegalArgumentException") (by decide +kernel))) (va_Nw.use rfl (hTK.1 "java/lang/IllegalArgumentException" (by decide +kernel))) hq1 hq2 hq3 ?_
    refine W.eq (g2 := F0 m 13 ls [.ref q9]) rfl ?_
    refine lv_astore (lv' := [(4, .ref q9), (0, .ref (ad 0)), (1, .int p0), (2, .int p1), (3, .ref (ad 46))]) hx hb dL_open_13 hl (by decide) rfl (fun ls hl => ?_)
    refine lv_iconst (v := 1) hx hb dL_open_15 (by decide) ?_
    refine W.widen (k := 2) (n := 12) (Nat.le_of_ble_eq_true rfl) (Nat.le_of_ble_eq_true rfl) ?_
    have hP9 := hP.sub (ws' := ([])) [] rfl
    have hD9 := hD.sub (ws' := ([])) [] (by decide) rfl
    have hK9 := hK.sub (tys' := []) [] rfl
    exact W.iret (v := 1) hx hb hr (fun t ht hW => ⟨⟨1, (), rfl, (Or.inl (⟨rfl, hE⟩)), ⟨by rw [ht]; exact hP9, va_K.moved hW.alike hK9, hD9⟩⟩, hS.F ht⟩) hS.2.2 dL_open_16 hlocks
  · obtain ⟨ce9, hq1, hq2, hq3⟩ := hq
    refine vx_catch (own := RL) (name := "java/lang/UnsupportedOperationException") hown [(⟨0, 10, 13, 13⟩ : ExceptionTableEntry)] (⟨0, 10, 17, 31⟩ : ExceptionTableEntry) [] htab (List.forall_mem_cons.mpr ⟨Or.inr ⟨by decide, "java/lang/IllegalArgumentException", (va_Nw.use rfl (hTK.2.2.2.2.2.2.2.2.2.2.1 (RL, 13, "java/lang/IllegalArgumentException") (by decide +kernel))), hTK.2.2.1 ("java/lang/UnsupportedOperationException", "java/lang/IllegalArgumentException") (by decide +kernel)⟩, (fun _ h9 => absurd h9 List.not_mem_nil)⟩) (by decide) (by decide) (va_Nw.use rfl (hTK.2.2.2.2.2.2.2.2.2.2.1 (RL, 31, "java/lang/UnsupportedOperationException") (by decide +kernel))) (va_Nw.use rfl (hTK.1 "java/lang/UnsupportedOperationException" (by decide +kernel))) hq1 hq2 hq3 ?_
    refine W.eq (g2 := F0 m 17 ls [.ref q9]) rfl ?_
    refine lv_astore (lv' := [(4, .ref q9), (0, .ref (ad 0)), (1, .int p0), (2, .int p1), (3, .ref (ad 46))]) hx hb dL_open_17 hl (by decide) rfl (fun ls hl => ?_)
    refine lv_iconst (v := 2) hx hb dL_open_19 (by decide) ?_
    refine W.widen (k := 2) (n := 12) (Nat.le_of_ble_eq_true rfl) (Nat.le_of_ble_eq_true rfl) ?_
    have hP9 := hP.sub (ws' := ([])) [] rfl
    have hD9 := hD.sub (ws' := ([])) [] (by decide) rfl
    have hK9 := hK.sub (tys' := []) [] rfl
    exact W.iret (v := 2) hx hb hr (fun t ht hW => ⟨⟨2, (), rfl, (Or.inr (⟨rfl, hE⟩)), ⟨by rw [ht]; exact hP9, va_K.moved hW.alike hK9, hD9⟩⟩, hS.F ht⟩) hS.2.2 dL_open_20 hlocks

set_option maxHeartbeats 4000000 in
set_option maxRecDepth 100000 in
theorem w_tired (l : Launch) (hst : l.stackTraces = false) (D : va_G) (de : Nat) (ad : Nat → Nat) (p0 : Int32) (sz : Nat) : Met l yL_tired wsL_tired ({ frames := 8, cells := 1, slots := 6, locals := 125 } : Room) (va_Pc [.ref (ad 0), .int p0, .ref (ad 46)] (PX de D ([]) (wX ad) sz)) (va_Qi (fun (r : Int32) (u : Unit) => (r = 1 ∧ True)) (fun u t => PW D ([]) (va_A (wX ad) sz) ([]) t) (va_A (wX ad) sz)) 1 6 (va_A (wX ad) sz) := by
  refine va_MetW (cc := cL_tired) (maxL := 4) (ret := (some .int)) (by decide) rfl ?_
  intro p e s m args below meth c s₁ B hml hv
  obtain ⟨rfl, hsz, hP, hK, hD0, hTK, hZ⟩ := hv
  have hx := B.exec
  have hb := B.bytes
  have hr := B.returns
  have hts := atoms_spec (ws := wsL_tired) B.pre
  have hown : s.vm.findClass RL = some m.cls := findClass_of_methodNamed B.named
  have hlocks := B.notSynchronized
  have htab := vx_table (x := yL_tired) B (hts _ List.mem_cons_self)
  subst hsz
  have hD := hD0.self (sz := s.heap.size)
  generalize hAe : va_A (wX ad) s.heap.size = A at hD hZ ⊢
  have hA : ∀ q : Nat, s.heap.size ≤ q → A q := fun q h => by rw [← hAe]; exact Or.inr h
  have hS : va_S A s.heap s.heap [] := va_S.rf
  have hP : va_P D vwCl (wX ad) s.heap := hP
  have hD : va_D A (wX ad) := hD
  have hl := lv_entry ([.ref (ad 0), .int p0, .ref (ad 46)]) (n := 4) (Nat.le_of_ble_eq_true rfl)
  rw [lg_entry_eq]
  generalize (lg_sl ([.ref (ad 0), .int p0, .ref (ad 46)]) ++ List.replicate (4 - (lg_sl ([.ref (ad 0), .int p0, .ref (ad 46)])).length) Slot.unset).toArray = ls at hl ⊢
  have hl : lv_has ls 4 [(0, .ref (ad 0)), (1, .int p0), (2, .ref (ad 46))] := hl
  refine lv_aload_n hx hb dL_tired_0 rfl (lv_at hl 2 rfl) ?_
  refine lv_iconst (v := 0) hx hb dL_tired_1 (by decide) ?_
  refine lv_aload_n hx hb dL_tired_2 rfl (lv_at hl 0 rfl) ?_
  refine lv_iload_n hx hb dL_tired_3 rfl (lv_at hl 1 rfl) ?_
  refine kt_i (wc := wX ad) (wr := []) hP hD hS hA [0, 1, 2, 3, 4, 5] [] rfl rfl (by decide) (by decide) (vx_runV (As := [.int p0]) (rest := [.int 0, .ref (ad 46)]) ⟨hx, hb, hml, hown, hts⟩ (f_tired l hst D de ad p0 s.heap.size) (cwV 1 hts gL_tired_X11_tired rfl rfl rfl (by decide +kernel) ⟨Nat.le_of_ble_eq_true rfl, Nat.le_of_ble_eq_true rfl⟩) ⟨px_blind, (va_recv hK hP (ci := 16) (q0 := 0) rfl rfl), (px_pre hP hD hK hS hA hTK hZ [0, 1, 2, 3, 4, 5] rfl rfl (by decide) [] rfl)⟩ rfl rfl hl.1 rfl (lv_room (Nat.le_of_ble_eq_true rfl)) dL_tired_4 ⟨(Nat.le_of_ble_eq_true rfl), (Nat.le_of_ble_eq_true rfl)⟩) (fun E q9 H locs hE hq hP hD hS => ?_) (fun r_1 u H locs hw hP hD hK1 hS => hw.elim)
  obtain ⟨rfl, hE⟩ := hE
  obtain ⟨ce9, hq1, hq2, hq3⟩ := hq
  refine vx_catch (own := RL) (name := "java/lang/IndexOutOfBoundsException") hown [] (⟨0, 9, 12, 19⟩ : ExceptionTableEntry) [] htab (fun _ h9 => absurd h9 List.not_mem_nil) (by decide) (by decide) (va_Nw.use rfl (hTK.2.2.2.2.2.2.2.2.2.2.1 (RL, 19, "java/lang/IndexOutOfBoundsException") (by decide +kernel))) (va_Nw.use rfl (hTK.1 "java/lang/IndexOutOfBoundsException" (by decide +kernel))) hq1 hq2 hq3 ?_
  refine W.eq (g2 := F0 m 12 ls [.ref q9]) rfl ?_
  refine lv_astore_n (lv' := [(3, .ref q9), (0, .ref (ad 0)), (1, .int p0), (2, .ref (ad 46))]) hx hb dL_tired_12 rfl hl (by decide) rfl (fun ls hl => ?_)
  refine lv_iconst (v := 1) hx hb dL_tired_13 (by decide) ?_
  refine W.widen (k := 1) (n := 6) (Nat.le_of_ble_eq_true rfl) (Nat.le_of_ble_eq_true rfl) ?_
  have hP9 := hP.sub (ws' := ([])) [] rfl
  have hD9 := hD.sub (ws' := ([])) [] (by decide) rfl
  have hK9 := hK.sub (tys' := []) [] rfl
  exact W.iret (v := 1) hx hb hr (fun t ht hW => ⟨⟨1, (), rfl, ⟨rfl, hE⟩, ⟨by rw [ht]; exact hP9, va_K.moved hW.alike hK9, hD9⟩⟩, hS.F ht⟩) hS.2.2 dL_tired_14 hlocks

set_option maxHeartbeats 4000000 in
set_option maxRecDepth 100000 in
theorem w_lasts (l : Launch) (hst : l.stackTraces = false) (D : va_G) (de : Nat) (ad : Nat → Nat) (p0 p1 : Int32) (sz : Nat) : Met l yL_lasts wsL_lasts ({ frames := 8, cells := 1, slots := 6, locals := 127 } : Room) (va_Pc [.ref (ad 0), .int p0, .int p1, .ref (ad 46)] (PX de D ([]) (wX ad) sz)) (va_Qi (fun (r : Int32) (u : Unit) => (r = 1 ∧ True)) (fun u t => PW D ([]) (va_A (wX ad) sz) ([]) t) (va_A (wX ad) sz)) 1 6 (va_A (wX ad) sz) := by
  refine va_MetW (cc := cL_lasts) (maxL := 5) (ret := (some .int)) (by decide) rfl ?_
  intro p e s m args below meth c s₁ B hml hv
  obtain ⟨rfl, hsz, hP, hK, hD0, hTK, hZ⟩ := hv
  have hx := B.exec
  have hb := B.bytes
  have hr := B.returns
  have hts := atoms_spec (ws := wsL_lasts) B.pre
  have hown : s.vm.findClass RL = some m.cls := findClass_of_methodNamed B.named
  have hlocks := B.notSynchronized
  have htab := vx_table (x := yL_lasts) B (hts _ List.mem_cons_self)
  subst hsz
  have hD := hD0.self (sz := s.heap.size)
  generalize hAe : va_A (wX ad) s.heap.size = A at hD hZ ⊢
  have hA : ∀ q : Nat, s.heap.size ≤ q → A q := fun q h => by rw [← hAe]; exact Or.inr h
  have hS : va_S A s.heap s.heap [] := va_S.rf
  have hP : va_P D vwCl (wX ad) s.heap := hP
  have hD : va_D A (wX ad) := hD
  have hl := lv_entry ([.ref (ad 0), .int p0, .int p1, .ref (ad 46)]) (n := 5) (Nat.le_of_ble_eq_true rfl)
  rw [lg_entry_eq]
  generalize (lg_sl ([.ref (ad 0), .int p0, .int p1, .ref (ad 46)]) ++ List.replicate (5 - (lg_sl ([.ref (ad 0), .int p0, .int p1, .ref (ad 46)])).length) Slot.unset).toArray = ls at hl ⊢
  have hl : lv_has ls 5 [(0, .ref (ad 0)), (1, .int p0), (2, .int p1), (3, .ref (ad 46))] := hl
  refine lv_aload_n hx hb dL_lasts_0 rfl (lv_at hl 3 rfl) ?_
  refine lv_iconst (v := 0) hx hb dL_lasts_1 (by decide) ?_
  refine lv_aload_n hx hb dL_lasts_2 rfl (lv_at hl 0 rfl) ?_
  refine lv_iload_n hx hb dL_lasts_3 rfl (lv_at hl 1 rfl) ?_
  refine lv_iload_n hx hb dL_lasts_4 rfl (lv_at hl 2 rfl) ?_
  refine kt_i (wc := wX ad) (wr := []) hP hD hS hA [0, 1, 2, 3, 4, 5] [] rfl rfl (by decide) (by decide) (vx_runV (As := [.int p0, .int p1]) (rest := [.int 0, .ref (ad 46)]) ⟨hx, hb, hml, hown, hts⟩ (f_lasts l hst D de ad p0 p1 s.heap.size) (cwV 2 hts gL_lasts_X11_lasts rfl rfl rfl (by decide +kernel) ⟨Nat.le_of_ble_eq_true rfl, Nat.le_of_ble_eq_true rfl⟩) ⟨px_blind, (va_recv hK hP (ci := 16) (q0 := 0) rfl rfl), (px_pre hP hD hK hS hA hTK hZ [0, 1, 2, 3, 4, 5] rfl rfl (by decide) [] rfl)⟩ rfl rfl hl.1 rfl (lv_room (Nat.le_of_ble_eq_true rfl)) dL_lasts_5 ⟨(Nat.le_of_ble_eq_true rfl), (Nat.le_of_ble_eq_true rfl)⟩) (fun E q9 H locs hE hq hP hD hS => ?_) (fun r_1 u H locs hw hP hD hK1 hS => hw.elim)
  obtain ⟨rfl, hE⟩ := hE
  obtain ⟨ce9, hq1, hq2, hq3⟩ := hq
  refine vx_catch (own := RL) (name := "java/lang/IndexOutOfBoundsException") hown [] (⟨0, 10, 13, 19⟩ : ExceptionTableEntry) [(⟨0, 10, 17, 13⟩ : ExceptionTableEntry), (⟨0, 10, 21, 31⟩ : ExceptionTableEntry)] htab (fun _ h9 => absurd h9 List.not_mem_nil) (by decide) (by decide) (va_Nw.use rfl (hTK.2.2.2.2.2.2.2.2.2.2.1 (RL, 19, "java/lang/IndexOutOfBoundsException") (by decide +kernel))) (va_Nw.use rfl (hTK.1 "java/lang/IndexOutOfBoundsException" (by decide +kernel))) hq1 hq2 hq3 ?_
  refine W.eq (g2 := F0 m 13 ls [.ref q9]) rfl ?_
  refine lv_astore (lv' := [(4, .ref q9), (0, .ref (ad 0)), (1, .int p0), (2, .int p1), (3, .ref (ad 46))]) hx hb dL_lasts_13 hl (by decide) rfl (fun ls hl => ?_)
  refine lv_iconst (v := 1) hx hb dL_lasts_15 (by decide) ?_
  refine W.widen (k := 1) (n := 6) (Nat.le_of_ble_eq_true rfl) (Nat.le_of_ble_eq_true rfl) ?_
  have hP9 := hP.sub (ws' := ([])) [] rfl
  have hD9 := hD.sub (ws' := ([])) [] (by decide) rfl
  have hK9 := hK.sub (tys' := []) [] rfl
  exact W.iret (v := 1) hx hb hr (fun t ht hW => ⟨⟨1, (), rfl, ⟨rfl, hE⟩, ⟨by rw [ht]; exact hP9, va_K.moved hW.alike hK9, hD9⟩⟩, hS.F ht⟩) hS.2.2 dL_lasts_16 hlocks

set_option maxHeartbeats 4000000 in
set_option maxRecDepth 100000 in
theorem w_mend (l : Launch) (hst : l.stackTraces = false) (D : va_G) (de : Nat) (ad : Nat → Nat) (p0 : Int32) (sz : Nat) : Met l yL_mend wsL_mend ({ frames := 8, cells := 1, slots := 6, locals := 126 } : Room) (va_Pc [.ref (ad 0), .int p0, .ref (ad 46)] (PX de D ([]) (wX ad) sz)) (va_Qi (fun (r : Int32) (u : Unit) => (r = 1 ∧ True)) (fun u t => PW D ([]) (va_A (wX ad) sz) ([]) t) (va_A (wX ad) sz)) 1 6 (va_A (wX ad) sz) := by
  refine va_MetW (cc := cL_mend) (maxL := 4) (ret := (some .int)) (by decide) rfl ?_
  intro p e s m args below meth c s₁ B hml hv
  obtain ⟨rfl, hsz, hP, hK, hD0, hTK, hZ⟩ := hv
  have hx := B.exec
  have hb := B.bytes
  have hr := B.returns
  have hts := atoms_spec (ws := wsL_mend) B.pre
  have hown : s.vm.findClass RL = some m.cls := findClass_of_methodNamed B.named
  have hlocks := B.notSynchronized
  have htab := vx_table (x := yL_mend) B (hts _ List.mem_cons_self)
  subst hsz
  have hD := hD0.self (sz := s.heap.size)
  generalize hAe : va_A (wX ad) s.heap.size = A at hD hZ ⊢
  have hA : ∀ q : Nat, s.heap.size ≤ q → A q := fun q h => by rw [← hAe]; exact Or.inr h
  have hS : va_S A s.heap s.heap [] := va_S.rf
  have hP : va_P D vwCl (wX ad) s.heap := hP
  have hD : va_D A (wX ad) := hD
  have hl := lv_entry ([.ref (ad 0), .int p0, .ref (ad 46)]) (n := 4) (Nat.le_of_ble_eq_true rfl)
  rw [lg_entry_eq]
  generalize (lg_sl ([.ref (ad 0), .int p0, .ref (ad 46)]) ++ List.replicate (4 - (lg_sl ([.ref (ad 0), .int p0, .ref (ad 46)])).length) Slot.unset).toArray = ls at hl ⊢
  have hl : lv_has ls 4 [(0, .ref (ad 0)), (1, .int p0), (2, .ref (ad 46))] := hl
  refine lv_aload_n hx hb dL_mend_0 rfl (lv_at hl 2 rfl) ?_
  refine lv_iconst (v := 0) hx hb dL_mend_1 (by decide) ?_
  refine lv_aload_n hx hb dL_mend_2 rfl (lv_at hl 0 rfl) ?_
  refine lv_iload_n hx hb dL_mend_3 rfl (lv_at hl 1 rfl) ?_
  refine kt_i (wc := wX ad) (wr := []) hP hD hS hA [0, 1, 2, 3, 4, 5] [] rfl rfl (by decide) (by decide) (vx_runV (As := [.int p0]) (rest := [.int 0, .ref (ad 46)]) ⟨hx, hb, hml, hown, hts⟩ (f_mend l hst D de ad p0 s.heap.size) (cwV 1 hts gL_mend_X11_mend rfl rfl rfl (by decide +kernel) ⟨Nat.le_of_ble_eq_true rfl, Nat.le_of_ble_eq_true rfl⟩) ⟨px_blind, (va_recv hK hP (ci := 16) (q0 := 0) rfl rfl), (px_pre hP hD hK hS hA hTK hZ [0, 1, 2, 3, 4, 5] rfl rfl (by decide) [] rfl)⟩ rfl rfl hl.1 rfl (lv_room (Nat.le_of_ble_eq_true rfl)) dL_mend_4 ⟨(Nat.le_of_ble_eq_true rfl), (Nat.le_of_ble_eq_true rfl)⟩) (fun E q9 H locs hE hq hP hD hS => ?_) (fun r_1 u H locs hw hP hD hK1 hS => hw.elim)
  obtain ⟨rfl, hE⟩ := hE
  obtain ⟨ce9, hq1, hq2, hq3⟩ := hq
  refine vx_catch (own := RL) (name := "java/lang/IndexOutOfBoundsException") hown [] (⟨0, 9, 12, 19⟩ : ExceptionTableEntry) [(⟨0, 9, 15, 31⟩ : ExceptionTableEntry)] htab (fun _ h9 => absurd h9 List.not_mem_nil) (by decide) (by decide) (va_Nw.use rfl (hTK.2.2.2.2.2.2.2.2.2.2.1 (RL, 19, "java/lang/IndexOutOfBoundsException") (by decide +kernel))) (va_Nw.use rfl (hTK.1 "java/lang/IndexOutOfBoundsException" (by decide +kernel))) hq1 hq2 hq3 ?_
  refine W.eq (g2 := F0 m 12 ls [.ref q9]) rfl ?_
  refine lv_astore_n (lv' := [(3, .ref q9), (0, .ref (ad 0)), (1, .int p0), (2, .ref (ad 46))]) hx hb dL_mend_12 rfl hl (by decide) rfl (fun ls hl => ?_)
  refine lv_iconst (v := 1) hx hb dL_mend_13 (by decide) ?_
  refine W.widen (k := 1) (n := 6) (Nat.le_of_ble_eq_true rfl) (Nat.le_of_ble_eq_true rfl) ?_
  have hP9 := hP.sub (ws' := ([])) [] rfl
  have hD9 := hD.sub (ws' := ([])) [] (by decide) rfl
  have hK9 := hK.sub (tys' := []) [] rfl
  exact W.iret (v := 1) hx hb hr (fun t ht hW => ⟨⟨1, (), rfl, ⟨rfl, hE⟩, ⟨by rw [ht]; exact hP9, va_K.moved hW.alike hK9, hD9⟩⟩, hS.F ht⟩) hS.2.2 dL_mend_14 hlocks

set_option maxHeartbeats 4000000 in
set_option maxRecDepth 100000 in
theorem w_wish (l : Launch) (hst : l.stackTraces = false) (D : va_G) (de : Nat) (ad : Nat → Nat) (p0 p1 p2 p3 : Int32) (sz : Nat) : Met l yL_wish wnL_wish ({ frames := 8, cells := 1, slots := 6, locals := 127 } : Room) (va_Pc [.ref (ad 0), .int p0, .int p1, .int p2, .int p3, .ref (ad 46)] (PX de D ([]) (wX ad) sz)) (va_Qi (fun (r : Int32) (u : Unit) => (r = 1 ∧ (inR p0 1 400 = 0 ∨ inR p1 1 400 = 0)) ∨ (r = 2 ∧ (¬ inR p0 1 400 = 0 ∧ ¬ inR p1 1 400 = 0))) (fun u t => PW D ([]) (va_A (wX ad) sz) ([]) t) (va_A (wX ad) sz)) 1 6 (va_A (wX ad) sz) := by
  refine va_MetW (cc := cL_wish) (maxL := 7) (ret := (some .int)) (by decide) rfl ?_
  intro p e s m args below meth c s₁ B hml hv
  obtain ⟨rfl, hsz, hP, hK, hD0, hTK, hZ⟩ := hv
  have hx := B.exec
  have hb := B.bytes
  have hr := B.returns
  have hts := atoms_spec (ws := wnL_wish) B.pre
  have hown : s.vm.findClass RL = some m.cls := findClass_of_methodNamed B.named
  have hlocks := B.notSynchronized
  have htab := vx_table (x := yL_wish) B (hts _ List.mem_cons_self)
  subst hsz
  have hD := hD0.self (sz := s.heap.size)
  generalize hAe : va_A (wX ad) s.heap.size = A at hD hZ ⊢
  have hA : ∀ q : Nat, s.heap.size ≤ q → A q := fun q h => by rw [← hAe]; exact Or.inr h
  have hS : va_S A s.heap s.heap [] := va_S.rf
  have hP : va_P D vwCl (wX ad) s.heap := hP
  have hD : va_D A (wX ad) := hD
  have hl := lv_entry ([.ref (ad 0), .int p0, .int p1, .int p2, .int p3, .ref (ad 46)]) (n := 7) (Nat.le_of_ble_eq_true rfl)
  rw [lg_entry_eq]
  generalize (lg_sl ([.ref (ad 0), .int p0, .int p1, .int p2, .int p3, .ref (ad 46)]) ++ List.replicate (7 - (lg_sl ([.ref (ad 0), .int p0, .int p1, .int p2, .int p3, .ref (ad 46)])).length) Slot.unset).toArray = ls at hl ⊢
  have hl : lv_has ls 7 [(0, .ref (ad 0)), (1, .int p0), (2, .int p1), (3, .int p2), (4, .int p3), (5, .ref (ad 46))] := hl
  refine lv_aload hx hb dL_wish_0 (lv_at hl 5 rfl) ?_
  refine lv_iconst (v := 0) hx hb dL_wish_2 (by decide) ?_
  refine lv_aload_n hx hb dL_wish_3 rfl (lv_at hl 0 rfl) ?_
  refine lv_iload_n hx hb dL_wish_4 rfl (lv_at hl 1 rfl) ?_
  refine lv_iload_n hx hb dL_wish_5 rfl (lv_at hl 2 rfl) ?_
  refine lv_iload_n hx hb dL_wish_6 rfl (lv_at hl 3 rfl) ?_
  refine lv_iload hx hb dL_wish_7 (lv_at hl 4 rfl) ?_
  refine kt_i (wc := wX ad) (wr := []) hP hD hS hA [0, 1, 2, 3, 4, 5] [] rfl rfl (by decide) (by decide) (vx_runV (As := [.int p0, .int p1, .int p2, .int p3]) (rest := [.int 0, .ref (ad 46)]) ⟨hx, hb, hml, hown, hts⟩ (f_wish l hst D de ad p0 p1 p2 p3 s.heap.size) (cwV 4 hts (gn_both rfl rfl (by decide +kernel) gL_wish_X11_wish) rfl rfl rfl (by decide +kernel) ⟨Nat.le_of_ble_eq_true rfl, Nat.le_of_ble_eq_true rfl⟩) ⟨px_blind, (va_recv hK hP (ci := 16) (q0 := 0) rfl rfl), (px_pre hP hD hK hS hA hTK hZ [0, 1, 2, 3, 4, 5] rfl rfl (by decide) [] rfl)⟩ rfl rfl hl.1 rfl (lv_room (Nat.le_of_ble_eq_true rfl)) dL_wish_9 ⟨(Nat.le_of_ble_eq_true rfl), (Nat.le_of_ble_eq_true rfl)⟩) (fun E q9 H locs hE hq hP hD hS => ?_) (fun r_1 u H locs hw hP hD hK1 hS => hw.elim)
  rcases hE with ⟨rfl, hE⟩ | ⟨rfl, hE⟩
  · obtain ⟨ce9, hq1, hq2, hq3⟩ := hq
    refine vx_catch (own := RL) (name := "java/lang/IllegalArgumentException") hown [] (⟨0, 14, 17, 13⟩ : ExceptionTableEntry) [(⟨0, 14, 21, 31⟩ : ExceptionTableEntry), (⟨0, 14, 25, 55⟩ : ExceptionTableEntry)] htab (fun _ h9 => absurd h9 List.not_mem_nil) (by decide) (by decide) (va_Nw.use rfl (hTK.2.2.2.2.2.2.2.2.2.2.1 (RL, 13, "java/lang/IllegalArgumentException") (by decide +kernel))) (va_Nw.use rfl (hTK.1 "java/lang/IllegalArgumentException" (by decide +kernel))) hq1 hq2 hq3 ?_
    refine W.eq (g2 := F0 m 17 ls [.ref q9]) rfl ?_
    refine lv_astore (lv' := [(6, .ref q9), (0, .ref (ad 0)), (1, .int p0), (2, .int p1), (3, .int p2), (4, .int p3), (5, .ref (ad 46))]) hx hb dL_wish_17 hl (by decide) rfl (fun ls hl => ?_)
    refine lv_iconst (v := 1) hx hb dL_wish_19 (by decide) ?_
    refine W.widen (k := 1) (n := 6) (Nat.le_of_ble_eq_true rfl) (Nat.le_of_ble_eq_true rfl) ?_
    have hP9 := hP.sub (ws' := ([])) [] rfl
    have hD9 := hD.sub (ws' := ([])) [] (by decide) rfl
    have hK9 := hK.sub (tys' := []) [] rfl
    exact W.iret (v := 1) hx hb hr (fun t ht hW => ⟨⟨1, (), rfl, (Or.inl (⟨rfl, hE⟩)), ⟨by rw [ht]; exact hP9, va_K.moved hW.alike hK9, hD9⟩⟩, hS.F ht⟩) hS.2.2 dL_wish_20 hlocks
  · obtain ⟨ce9, hq1, hq2, hq3⟩ := hq
    refine vx_catch (own := RL) (name := "java/lang/UnsupportedOperationException") hown [(⟨0, 14, 17, 13⟩ : ExceptionTableEntry)] (⟨0, 14, 21, 31⟩ : ExceptionTableEntry) [(⟨0, 14, 25, 55⟩ : ExceptionTableEntry)] htab (List.forall_mem_cons.mpr ⟨Or.inr ⟨by decide, "java/lang/IllegalArgumentException", (va_Nw.use rfl (hTK.2.2.2.2.2.2.2.2.2.2.1 (RL, 13, "java/lang/IllegalArgumentException") (by decide +kernel))), hTK.2.2.1 ("java/lang/UnsupportedOperationException", "java/lang/IllegalArgumentException") (by decide +kernel)⟩, (fun _ h9 => absurd h9 List.not_mem_nil)⟩) (by decide) (by decide) (va_Nw.use rfl (hTK.2.2.2.2.2.2.2.2.2.2.1 (RL, 31, "java/lang/UnsupportedOperationException") (by decide +kernel))) (va_Nw.use rfl (hTK.1 "java/lang/UnsupportedOperationException" (by decide +kernel))) hq1 hq2 hq3 ?_
    refine W.eq (g2 := F0 m 21 ls [.ref q9]) rfl ?_
    refine lv_astore (lv' := [(6, .ref q9), (0, .ref (ad 0)), (1, .int p0), (2, .int p1), (3, .int p2), (4, .int p3), (5, .ref (ad 46))]) hx hb dL_wish_21 hl (by decide) rfl (fun ls hl => ?_)
    refine lv_iconst (v := 2) hx hb dL_wish_23 (by decide) ?_
    refine W.widen (k := 1) (n := 6) (Nat.le_of_ble_eq_true rfl) (Nat.le_of_ble_eq_true rfl) ?_
    have hP9 := hP.sub (ws' := ([])) [] rfl
    have hD9 := hD.sub (ws' := ([])) [] (by decide) rfl
    have hK9 := hK.sub (tys' := []) [] rfl
    exact W.iret (v := 2) hx hb hr (fun t ht hW => ⟨⟨2, (), rfl, (Or.inr (⟨rfl, hE⟩)), ⟨by rw [ht]; exact hP9, va_K.moved hW.alike hK9, hD9⟩⟩, hS.F ht⟩) hS.2.2 dL_wish_24 hlocks

set_option maxHeartbeats 4000000 in
set_option maxRecDepth 100000 in
theorem w_restore (l : Launch) (hst : l.stackTraces = false) (D : va_G) (de : Nat) (ad : Nat → Nat) (p0 p1 p2 p3 p4 p5 : Int32) (sz : Nat) : Met l yL_restore wsL_restore ({ frames := 9, cells := 1, slots := 6, locals := 157 } : Room) (va_Pc [.ref (ad 0), .int p0, .int p1, .int p2, .int p3, .int p4, .int p5, .ref (ad 46)] (PX de D ([]) (wX ad) sz)) (va_Qi (fun (r : Int32) (u : Unit) => (r = 1 ∧ True)) (fun u t => PW D ([]) (va_A (wX ad) sz) ([]) t) (va_A (wX ad) sz)) 1 6 (va_A (wX ad) sz) := by
  refine va_MetW (cc := cL_restore) (maxL := 9) (ret := (some .int)) (by decide) rfl ?_
  intro p e s m args below meth c s₁ B hml hv
  obtain ⟨rfl, hsz, hP, hK, hD0, hTK, hZ⟩ := hv
  have hx := B.exec
  have hb := B.bytes
  have hr := B.returns
  have hts := atoms_spec (ws := wsL_restore) B.pre
  have hown : s.vm.findClass RL = some m.cls := findClass_of_methodNamed B.named
  have hlocks := B.notSynchronized
  have htab := vx_table (x := yL_restore) B (hts _ List.mem_cons_self)
  subst hsz
  have hD := hD0.self (sz := s.heap.size)
  generalize hAe : va_A (wX ad) s.heap.size = A at hD hZ ⊢
  have hA : ∀ q : Nat, s.heap.size ≤ q → A q := fun q h => by rw [← hAe]; exact Or.inr h
  have hS : va_S A s.heap s.heap [] := va_S.rf
  have hP : va_P D vwCl (wX ad) s.heap := hP
  have hD : va_D A (wX ad) := hD
  have hl := lv_entry ([.ref (ad 0), .int p0, .int p1, .int p2, .int p3, .int p4, .int p5, .ref (ad 46)]) (n := 9) (Nat.le_of_ble_eq_true rfl)
  rw [lg_entry_eq]
  generalize (lg_sl ([.ref (ad 0), .int p0, .int p1, .int p2, .int p3, .int p4, .int p5, .ref (ad 46)]) ++ List.replicate (9 - (lg_sl ([.ref (ad 0), .int p0, .int p1, .int p2, .int p3, .int p4, .int p5, .ref (ad 46)])).length) Slot.unset).toArray = ls at hl ⊢
  have hl : lv_has ls 9 [(0, .ref (ad 0)), (1, .int p0), (2, .int p1), (3, .int p2), (4, .int p3), (5, .int p4), (6, .int p5), (7, .ref (ad 46))] := hl
  refine lv_aload hx hb dL_restore_0 (lv_at hl 7 rfl) ?_
  refine lv_iconst (v := 0) hx hb dL_restore_2 (by decide) ?_
  refine lv_aload_n hx hb dL_restore_3 rfl (lv_at hl 0 rfl) ?_
  refine lv_iload_n hx hb dL_restore_4 rfl (lv_at hl 1 rfl) ?_
  refine lv_iload_n hx hb dL_restore_5 rfl (lv_at hl 2 rfl) ?_
  refine lv_iload_n hx hb dL_restore_6 rfl (lv_at hl 3 rfl) ?_
  refine lv_iload hx hb dL_restore_7 (lv_at hl 4 rfl) ?_
  refine lv_iload hx hb dL_restore_9 (lv_at hl 5 rfl) ?_
  refine lv_iload hx hb dL_restore_11 (lv_at hl 6 rfl) ?_
  refine kt_i (wc := wX ad) (wr := []) hP hD hS hA [0, 1, 2, 3, 4, 5] [] rfl rfl (by decide) (by decide) (vx_runV (As := [.int p0, .int p1, .int p2, .int p3, .int p4, .int p5]) (rest := [.int 0, .ref (ad 46)]) ⟨hx, hb, hml, hown, hts⟩ (f_restore l hst D de ad p0 p1 p2 p3 p4 p5 s.heap.size) (cwV 6 hts gL_restore_X11_restore rfl rfl rfl (by decide +kernel) ⟨Nat.le_of_ble_eq_true rfl, Nat.le_of_ble_eq_true rfl⟩) ⟨px_blind, (va_recv hK hP (ci := 16) (q0 := 0) rfl rfl), (px_pre hP hD hK hS hA hTK hZ [0, 1, 2, 3, 4, 5] rfl rfl (by decide) [] rfl)⟩ rfl rfl hl.1 rfl (lv_room (Nat.le_of_ble_eq_true rfl)) dL_restore_13 ⟨(Nat.le_of_ble_eq_true rfl), (Nat.le_of_ble_eq_true rfl)⟩) (fun E q9 H locs hE hq hP hD hS => ?_) (fun r_1 u H locs hw hP hD hK1 hS => hw.elim)
  obtain ⟨rfl, hE⟩ := hE
  obtain ⟨ce9, hq1, hq2, hq3⟩ := hq
  refine vx_catch (own := RL) (name := "java/lang/IndexOutOfBoundsException") hown [] (⟨0, 18, 21, 19⟩ : ExceptionTableEntry) [(⟨0, 18, 25, 13⟩ : ExceptionTableEntry), (⟨0, 18, 29, 21⟩ : ExceptionTableEntry)] htab (fun _ h9 => absurd h9 List.not_mem_nil) (by decide) (by decide) (va_Nw.use rfl (hTK.2.2.2.2.2.2.2.2.2.2.1 (RL, 19, "java/lang/IndexOutOfBoundsException") (by decide +kernel))) (va_Nw.use rfl (hTK.1 "java/lang/IndexOutOfBoundsException" (by decide +kernel))) hq1 hq2 hq3 ?_
  refine W.eq (g2 := F0 m 21 ls [.ref q9]) rfl ?_
  refine lv_astore (lv' := [(8, .ref q9), (0, .ref (ad 0)), (1, .int p0), (2, .int p1), (3, .int p2), (4, .int p3), (5, .int p4), (6, .int p5), (7, .ref (ad 46))]) hx hb dL_restore_21 hl (by decide) rfl (fun ls hl => ?_)
  refine lv_iconst (v := 1) hx hb dL_restore_23 (by decide) ?_
  refine W.widen (k := 1) (n := 6) (Nat.le_of_ble_eq_true rfl) (Nat.le_of_ble_eq_true rfl) ?_
  have hP9 := hP.sub (ws' := ([])) [] rfl
  have hD9 := hD.sub (ws' := ([])) [] (by decide) rfl
  have hK9 := hK.sub (tys' := []) [] rfl
  exact W.iret (v := 1) hx hb hr (fun t ht hW => ⟨⟨1, (), rfl, ⟨rfl, hE⟩, ⟨by rw [ht]; exact hP9, va_K.moved hW.alike hK9, hD9⟩⟩, hS.F ht⟩) hS.2.2 dL_restore_24 hlocks

set_option maxHeartbeats 4000000 in
set_option maxRecDepth 100000 in
theorem w_forChild (l : Launch) (hst : l.stackTraces = false) (D : va_G) (de : Nat) (ad : Nat → Nat) (p0 : Int32) (sz : Nat) : Met l yL_forChild wsL_forChild ({ frames := 8, cells := 1, slots := 6, locals := 123 } : Room) (va_Pc [.ref (ad 0), .int p0, .ref (ad 46)] (PX de D ([]) (wX ad) sz)) (va_Qi (fun (r : Int32) (u : Unit) => (r = 1 ∧ inR p0 0 99 = 0) ∨ (r = 2 ∧ ¬ inR p0 0 99 = 0)) (fun u t => PW D ([]) (va_A (wX ad) sz) ([]) t) (va_A (wX ad) sz)) 1 6 (va_A (wX ad) sz) := by
  refine va_MetW (cc := cL_forChild) (maxL := 4) (ret := (some .int)) (by decide) rfl ?_
  intro p e s m args below meth c s₁ B hml hv
  obtain ⟨rfl, hsz, hP, hK, hD0, hTK, hZ⟩ := hv
  have hx := B.exec
  have hb := B.bytes
  have hr := B.returns
  have hts := atoms_spec (ws := wsL_forChild) B.pre
  have hown : s.vm.findClass RL = some m.cls := findClass_of_methodNamed B.named
  have hlocks := B.notSynchronized
  have htab := vx_table (x := yL_forChild) B (hts _ List.mem_cons_self)
  subst hsz
  have hD := hD0.self (sz := s.heap.size)
  generalize hAe : va_A (wX ad) s.heap.size = A at hD hZ ⊢
  have hA : ∀ q : Nat, s.heap.size ≤ q → A q := fun q h => by rw [← hAe]; exact Or.inr h
  have hS : va_S A s.heap s.heap [] := va_S.rf
  have hP : va_P D vwCl (wX ad) s.heap := hP
  have hD : va_D A (wX ad) := hD
  have hl := lv_entry ([.ref (ad 0), .int p0, .ref (ad 46)]) (n := 4) (Nat.le_of_ble_eq_true rfl)
  rw [lg_entry_eq]
  generalize (lg_sl ([.ref (ad 0), .int p0, .ref (ad 46)]) ++ List.replicate (4 - (lg_sl ([.ref (ad 0), .int p0, .ref (ad 46)])).length) Slot.unset).toArray = ls at hl ⊢
  have hl : lv_has ls 4 [(0, .ref (ad 0)), (1, .int p0), (2, .ref (ad 46))] := hl
  refine lv_aload_n hx hb dL_forChild_0 rfl (lv_at hl 2 rfl) ?_
  refine lv_iconst (v := 0) hx hb dL_forChild_1 (by decide) ?_
  refine lv_aload_n hx hb dL_forChild_2 rfl (lv_at hl 0 rfl) ?_
  refine lv_iload_n hx hb dL_forChild_3 rfl (lv_at hl 1 rfl) ?_
  refine kt_i (wc := wX ad) (wr := []) hP hD hS hA [0, 1, 2, 3, 4, 5] [] rfl rfl (by decide) (by decide) (vx_runV (As := [.int p0]) (rest := [.int 0, .ref (ad 46)]) ⟨hx, hb, hml, hown, hts⟩ (f_forChild l hst D de ad p0 s.heap.size) (cwV 1 hts gL_forChild_X11_forChild rfl rfl rfl (by decide +kernel) ⟨Nat.le_of_ble_eq_true rfl, Nat.le_of_ble_eq_true rfl⟩) ⟨px_blind, (va_recv hK hP (ci := 16) (q0 := 0) rfl rfl), (px_pre hP hD hK hS hA hTK hZ [0, 1, 2, 3, 4, 5] rfl rfl (by decide) [] rfl)⟩ rfl rfl hl.1 rfl (lv_room (Nat.le_of_ble_eq_true rfl)) dL_forChild_4 ⟨(Nat.le_of_ble_eq_true rfl), (Nat.le_of_ble_eq_true rfl)⟩) (fun E q9 H locs hE hq hP hD hS => ?_) (fun r_1 u H locs hw hP hD hK1 hS => hw.elim)
  rcases hE with ⟨rfl, hE⟩ | ⟨rfl, hE⟩
  · obtain ⟨ce9, hq1, hq2, hq3⟩ := hq
    refine vx_catch (own := RL) (name := "java/lang/IllegalArgumentException") hown [] (⟨0, 9, 12, 13⟩ : ExceptionTableEntry) [(⟨0, 9, 15, 31⟩ : ExceptionTableEntry)] htab (fun _ h9 => absurd h9 List.not_mem_nil) (by decide) (by decide) (va_Nw.use rfl (hTK.2.2.2.2.2.2.2.2.2.2.1 (RL, 13, "java/lang/IllegalArgumentException") (by decide +kernel))) (va_Nw.use rfl (hTK.1 "java/lang/IllegalArgumentException" (by decide +kernel))) hq1 hq2 hq3 ?_
    refine W.eq (g2 := F0 m 12 ls [.ref q9]) rfl ?_
    refine lv_astore_n (lv' := [(3, .ref q9), (0, .ref (ad 0)), (1, .int p0), (2, .ref (ad 46))]) hx hb dL_forChild_12 rfl hl (by decide) rfl (fun ls hl => ?_)
    refine lv_iconst (v := 1) hx hb dL_forChild_13 (by decide) ?_
    refine W.widen (k := 1) (n := 6) (Nat.le_of_ble_eq_true rfl) (Nat.le_of_ble_eq_true rfl) ?_
    have hP9 := hP.sub (ws' := ([])) [] rfl
    have hD9 := hD.sub (ws' := ([])) [] (by decide) rfl
    have hK9 := hK.sub (tys' := []) [] rfl
    exact W.iret (v := 1) hx hb hr (fun t ht hW => ⟨⟨1, (), rfl, (Or.inl (⟨rfl, hE⟩)), ⟨by rw [ht]; exact hP9, va_K.moved hW.alike hK9, hD9⟩⟩, hS.F ht⟩) hS.2.2 dL_forChild_14 hlocks
  · obtain ⟨ce9, hq1, hq2, hq3⟩ := hq
    refine vx_catch (own := RL) (name := "java/lang/UnsupportedOperationException") hown [(⟨0, 9, 12, 13⟩ : ExceptionTableEntry)] (⟨0, 9, 15, 31⟩ : ExceptionTableEntry) [] htab (List.forall_mem_cons.mpr ⟨Or.inr ⟨by decide, "java/lang/IllegalArgumentException", (va_Nw.use rfl (hTK.2.2.2.2.2.2.2.2.2.2.1 (RL, 13, "java/lang/IllegalArgumentException") (by decide +kernel))), hTK.2.2.1 ("java/lang/UnsupportedOperationException", "java/lang/IllegalArgumentException") (by decide +kernel)⟩, (fun _ h9 => absurd h9 List.not_mem_nil)⟩) (by decide) (by decide) (va_Nw.use rfl (hTK.2.2.2.2.2.2.2.2.2.2.1 (RL, 31, "java/lang/UnsupportedOperationException") (by decide +kernel))) (va_Nw.use rfl (hTK.1 "java/lang/UnsupportedOperationException" (by decide +kernel))) hq1 hq2 hq3 ?_
    refine W.eq (g2 := F0 m 15 ls [.ref q9]) rfl ?_
    refine lv_astore_n (lv' := [(3, .ref q9), (0, .ref (ad 0)), (1, .int p0), (2, .ref (ad 46))]) hx hb dL_forChild_15 rfl hl (by decide) rfl (fun ls hl => ?_)
    refine lv_iconst (v := 2) hx hb dL_forChild_16 (by decide) ?_
    refine W.widen (k := 1) (n := 6) (Nat.le_of_ble_eq_true rfl) (Nat.le_of_ble_eq_true rfl) ?_
    have hP9 := hP.sub (ws' := ([])) [] rfl
    have hD9 := hD.sub (ws' := ([])) [] (by decide) rfl
    have hK9 := hK.sub (tys' := []) [] rfl
    exact W.iret (v := 2) hx hb hr (fun t ht hW => ⟨⟨2, (), rfl, (Or.inr (⟨rfl, hE⟩)), ⟨by rw [ht]; exact hP9, va_K.moved hW.alike hK9, hD9⟩⟩, hS.F ht⟩) hS.2.2 dL_forChild_17 hlocks

set_option maxHeartbeats 4000000 in
set_option maxRecDepth 100000 in
theorem w_tornShare (l : Launch) (hst : l.stackTraces = false) (D : va_G) (de : Nat) (ad : Nat → Nat) (sz : Nat) : Met l yL_tornShare wsL_tornShare ({ frames := 7, cells := 1, slots := 6, locals := 102 } : Room) (va_Pc [.ref (ad 0), .ref (ad 47)] (PX de D ([]) (wX ad) sz)) (va_Qi (fun (r : Int32) (u : Unit) => (r = 1 ∧ True)) (fun u t => PW D ([]) (va_A (wX ad) sz) ([]) t) (va_A (wX ad) sz)) 1 6 (va_A (wX ad) sz) := by
  refine va_MetW (cc := cL_tornShare) (maxL := 3) (ret := (some .int)) (by decide) rfl ?_
  intro p e s m args below meth c s₁ B hml hv
  obtain ⟨rfl, hsz, hP, hK, hD0, hTK, hZ⟩ := hv
  have hx := B.exec
  have hb := B.bytes
  have hr := B.returns
  have hts := atoms_spec (ws := wsL_tornShare) B.pre
  have hown : s.vm.findClass RL = some m.cls := findClass_of_methodNamed B.named
  have hlocks := B.notSynchronized
  have htab := vx_table (x := yL_tornShare) B (hts _ List.mem_cons_self)
  subst hsz
  have hD := hD0.self (sz := s.heap.size)
  generalize hAe : va_A (wX ad) s.heap.size = A at hD hZ ⊢
  have hA : ∀ q : Nat, s.heap.size ≤ q → A q := fun q h => by rw [← hAe]; exact Or.inr h
  have hS : va_S A s.heap s.heap [] := va_S.rf
  have hP : va_P D vwCl (wX ad) s.heap := hP
  have hD : va_D A (wX ad) := hD
  have hl := lv_entry ([.ref (ad 0), .ref (ad 47)]) (n := 3) (Nat.le_of_ble_eq_true rfl)
  rw [lg_entry_eq]
  generalize (lg_sl ([.ref (ad 0), .ref (ad 47)]) ++ List.replicate (3 - (lg_sl ([.ref (ad 0), .ref (ad 47)])).length) Slot.unset).toArray = ls at hl ⊢
  have hl : lv_has ls 3 [(0, .ref (ad 0)), (1, .ref (ad 47))] := hl
  refine lv_aload_n hx hb dL_tornShare_0 rfl (lv_at hl 1 rfl) ?_
  refine lv_iconst (v := 0) hx hb dL_tornShare_1 (by decide) ?_
  refine lv_aload_n hx hb dL_tornShare_2 rfl (lv_at hl 0 rfl) ?_
  refine kt_f (wc := wX ad) (wr := []) hP hD hS hA [0, 1, 2, 3, 4, 5] [] rfl rfl (by decide) (by decide) (vx_runV (As := []) (rest := [.int 0, .ref (ad 47)]) ⟨hx, hb, hml, hown, hts⟩ (f_tornShare l hst D de ad s.heap.size) (cwV 0 hts gL_tornShare_X11_tornShare rfl rfl rfl (by decide +kernel) ⟨Nat.le_of_ble_eq_true rfl, Nat.le_of_ble_eq_true rfl⟩) ⟨px_blind, (va_recv hK hP (ci := 16) (q0 := 0) rfl rfl), (px_pre hP hD hK hS hA hTK hZ [0, 1, 2, 3, 4, 5] rfl rfl (by decide) [] rfl)⟩ rfl rfl hl.1 rfl (lv_room (Nat.le_of_ble_eq_true rfl)) dL_tornShare_3 ⟨(Nat.le_of_ble_eq_true rfl), (Nat.le_of_ble_eq_true rfl)⟩) (fun E q9 H locs hE hq hP hD hS => ?_) (fun r_1 u H locs hw hP hD hK1 hS => hw.elim)
  obtain ⟨rfl, hE⟩ := hE
  obtain ⟨ce9, hq1, hq2, hq3⟩ := hq
  refine vx_catch (own := RL) (name := "java/lang/ArithmeticException") hown [] (⟨0, 8, 11, 163⟩ : ExceptionTableEntry) [] htab (fun _ h9 => absurd h9 List.not_mem_nil) (by decide) (by decide) (va_Nw.use rfl (hTK.2.2.2.2.2.2.2.2.2.2.1 (RL, 163, "java/lang/ArithmeticException") (by decide +kernel))) (va_Nw.use rfl (hTK.1 "java/lang/ArithmeticException" (by decide +kernel))) hq1 hq2 hq3 ?_
  refine W.eq (g2 := F0 m 11 ls [.ref q9]) rfl ?_
  refine lv_astore_n (lv' := [(2, .ref q9), (0, .ref (ad 0)), (1, .ref (ad 47))]) hx hb dL_tornShare_11 rfl hl (by decide) rfl (fun ls hl => ?_)
  refine lv_iconst (v := 1) hx hb dL_tornShare_12 (by decide) ?_
  refine W.widen (k := 1) (n := 6) (Nat.le_of_ble_eq_true rfl) (Nat.le_of_ble_eq_true rfl) ?_
  have hP9 := hP.sub (ws' := ([])) [] rfl
  have hD9 := hD.sub (ws' := ([])) [] (by decide) rfl
  have hK9 := hK.sub (tys' := []) [] rfl
  exact W.iret (v := 1) hx hb hr (fun t ht hW => ⟨⟨1, (), rfl, ⟨rfl, hE⟩, ⟨by rw [ht]; exact hP9, va_K.moved hW.alike hK9, hD9⟩⟩, hS.F ht⟩) hS.2.2 dL_tornShare_13 hlocks

set_option maxHeartbeats 4000000 in
set_option maxRecDepth 100000 in
theorem w_meanLength (l : Launch) (hst : l.stackTraces = false) (D : va_G) (de : Nat) (ad : Nat → Nat) (sz : Nat) : Met l yL_meanLength wsL_meanLength ({ frames := 7, cells := 1, slots := 6, locals := 103 } : Room) (va_Pc [.ref (ad 0), .ref (ad 47)] (PX de D ([]) (wX ad) sz)) (va_Qi (fun (r : Int32) (u : Unit) => (r = 1 ∧ True)) (fun u t => PW D ([]) (va_A (wX ad) sz) ([]) t) (va_A (wX ad) sz)) 1 6 (va_A (wX ad) sz) := by
  refine va_MetW (cc := cL_meanLength) (maxL := 3) (ret := (some .int)) (by decide) rfl ?_
  intro p e s m args below meth c s₁ B hml hv
  obtain ⟨rfl, hsz, hP, hK, hD0, hTK, hZ⟩ := hv
  have hx := B.exec
  have hb := B.bytes
  have hr := B.returns
  have hts := atoms_spec (ws := wsL_meanLength) B.pre
  have hown : s.vm.findClass RL = some m.cls := findClass_of_methodNamed B.named
  have hlocks := B.notSynchronized
  have htab := vx_table (x := yL_meanLength) B (hts _ List.mem_cons_self)
  subst hsz
  have hD := hD0.self (sz := s.heap.size)
  generalize hAe : va_A (wX ad) s.heap.size = A at hD hZ ⊢
  have hA : ∀ q : Nat, s.heap.size ≤ q → A q := fun q h => by rw [← hAe]; exact Or.inr h
  have hS : va_S A s.heap s.heap [] := va_S.rf
  have hP : va_P D vwCl (wX ad) s.heap := hP
  have hD : va_D A (wX ad) := hD
  have hl := lv_entry ([.ref (ad 0), .ref (ad 47)]) (n := 3) (Nat.le_of_ble_eq_true rfl)
  rw [lg_entry_eq]
  generalize (lg_sl ([.ref (ad 0), .ref (ad 47)]) ++ List.replicate (3 - (lg_sl ([.ref (ad 0), .ref (ad 47)])).length) Slot.unset).toArray = ls at hl ⊢
  have hl : lv_has ls 3 [(0, .ref (ad 0)), (1, .ref (ad 47))] := hl
  refine lv_aload_n hx hb dL_meanLength_0 rfl (lv_at hl 1 rfl) ?_
  refine lv_iconst (v := 0) hx hb dL_meanLength_1 (by decide) ?_
  refine lv_aload_n hx hb dL_meanLength_2 rfl (lv_at hl 0 rfl) ?_
  refine kt_d (wc := wX ad) (wr := []) hP hD hS hA [0, 1, 2, 3, 4, 5] [] rfl rfl (by decide) (by decide) (vx_runV (As := []) (rest := [.int 0, .ref (ad 47)]) ⟨hx, hb, hml, hown, hts⟩ (f_meanLength l hst D de ad s.heap.size) (cwV 0 hts gL_meanLength_X11_meanLength rfl rfl rfl (by decide +kernel) ⟨Nat.le_of_ble_eq_true rfl, Nat.le_of_ble_eq_true rfl⟩) ⟨px_blind, (va_recv hK hP (ci := 16) (q0 := 0) rfl rfl), (px_pre hP hD hK hS hA hTK hZ [0, 1, 2, 3, 4, 5] rfl rfl (by decide) [] rfl)⟩ rfl rfl hl.1 rfl (lv_room (Nat.le_of_ble_eq_true rfl)) dL_meanLength_3 ⟨(Nat.le_of_ble_eq_true rfl), (Nat.le_of_ble_eq_true rfl)⟩) (fun E q9 H locs hE hq hP hD hS => ?_) (fun r_1 u H locs hw hP hD hK1 hS => hw.elim)
  obtain ⟨rfl, hE⟩ := hE
  obtain ⟨ce9, hq1, hq2, hq3⟩ := hq
  refine vx_catch (own := RL) (name := "java/lang/ArithmeticException") hown [] (⟨0, 7, 10, 163⟩ : ExceptionTableEntry) [] htab (fun _ h9 => absurd h9 List.not_mem_nil) (by decide) (by decide) (va_Nw.use rfl (hTK.2.2.2.2.2.2.2.2.2.2.1 (RL, 163, "java/lang/ArithmeticException") (by decide +kernel))) (va_Nw.use rfl (hTK.1 "java/lang/ArithmeticException" (by decide +kernel))) hq1 hq2 hq3 ?_
  refine W.eq (g2 := F0 m 10 ls [.ref q9]) rfl ?_
  refine lv_astore_n (lv' := [(2, .ref q9), (0, .ref (ad 0)), (1, .ref (ad 47))]) hx hb dL_meanLength_10 rfl hl (by decide) rfl (fun ls hl => ?_)
  refine lv_iconst (v := 1) hx hb dL_meanLength_11 (by decide) ?_
  refine W.widen (k := 1) (n := 6) (Nat.le_of_ble_eq_true rfl) (Nat.le_of_ble_eq_true rfl) ?_
  have hP9 := hP.sub (ws' := ([])) [] rfl
  have hD9 := hD.sub (ws' := ([])) [] (by decide) rfl
  have hK9 := hK.sub (tys' := []) [] rfl
  exact W.iret (v := 1) hx hb hr (fun t ht hW => ⟨⟨1, (), rfl, ⟨rfl, hE⟩, ⟨by rw [ht]; exact hP9, va_K.moved hW.alike hK9, hD9⟩⟩, hS.F ht⟩) hS.2.2 dL_meanLength_12 hlocks

set_option maxHeartbeats 4000000 in
set_option maxRecDepth 100000 in
theorem w_setSheet (l : Launch) (hst : l.stackTraces = false) (D : va_G) (de : Nat) (ad : Nat → Nat) (p0 p1 : Int32) (cA : ClassId) (f : Nat → Int64) (sz : Nat) : Met l yL_setSheet wsL_setSheet ({ frames := 7, cells := 1, slots := 6, locals := 105 } : Room) (va_Pc [.ref (ad 0), .int p0, .int p1, .ref (ad 46)] (PX de D ([(cA, .long)]) ([(ad 0, .inr (16, [.ref (ad 1), .ref (ad 2), .ref (ad 3), .ref (ad 4), .ref (ad 5), .ref (ad 6)])), (ad 1, .inr (5, [.ref (ad 7), .ref (ad 8), .ref (ad 9), .ref (ad 10), .ref (ad 11), .ref (ad 12), .int 0, .int 0, .int 0, .int 0, .int 200])), (ad 2, .inr (9, [.ref (ad 1), .ref (ad 13), .int 0])), (ad 3, .inr (13, [.ref (ad 14), .int 0])), (ad 4, .inr (10, [.ref (ad 1), .ref (ad 15), .ref (ad 16), .ref (ad 17), .ref (ad 18), .ref (ad 19), .ref (ad 20), .ref (ad 21), .ref (ad 22), .int 500, .int 700, .int 0, .int 0])), (ad 5, .inr (8, [.ref (ad 1), .ref (ad 23), .ref (ad 24), .ref (ad 25), .ref (ad 26), .ref (ad 27), .ref (ad 28), .int 10, .int 0])), (ad 46, .inl (cA, 1, .inr (.inl f)))]) sz)) (va_Qi (fun (r : Int32) (u : Nat → Int64) => (r = 1 ∧ (inR p0 20 2000 = 0 ∨ inR p1 20 2000 = 0)) ∨ (r = 0 ∧ u 0 = 700 ∧ (¬ inR p0 20 2000 = 0 ∧ ¬ inR p1 20 2000 = 0))) (fun u t => PW D ([(cA, .long)]) (va_A ([(ad 0, .inr (16, [.ref (ad 1), .ref (ad 2), .ref (ad 3), .ref (ad 4), .ref (ad 5), .ref (ad 6)])), (ad 1, .inr (5, [.ref (ad 7), .ref (ad 8), .ref (ad 9), .ref (ad 10), .ref (ad 11), .ref (ad 12), .int 0, .int 0, .int 0, .int 0, .int 200])), (ad 2, .inr (9, [.ref (ad 1), .ref (ad 13), .int 0])), (ad 3, .inr (13, [.ref (ad 14), .int 0])), (ad 4, .inr (10, [.ref (ad 1), .ref (ad 15), .ref (ad 16), .ref (ad 17), .ref (ad 18), .ref (ad 19), .ref (ad 20), .ref (ad 21), .ref (ad 22), .int 500, .int 700, .int 0, .int 0])), (ad 5, .inr (8, [.ref (ad 1), .ref (ad 23), .ref (ad 24), .ref (ad 25), .ref (ad 26), .ref (ad 27), .ref (ad 28), .int 10, .int 0])), (ad 46, .inl (cA, 1, .inr (.inl f)))]) sz) ([(ad 46, .inl (cA, 1, .inr (.inl u)))]) t) (va_A ([(ad 0, .inr (16, [.ref (ad 1), .ref (ad 2), .ref (ad 3), .ref (ad 4), .ref (ad 5), .ref (ad 6)])), (ad 1, .inr (5, [.ref (ad 7), .ref (ad 8), .ref (ad 9), .ref (ad 10), .ref (ad 11), .ref (ad 12), .int 0, .int 0, .int 0, .int 0, .int 200])), (ad 2, .inr (9, [.ref (ad 1), .ref (ad 13), .int 0])), (ad 3, .inr (13, [.ref (ad 14), .int 0])), (ad 4, .inr (10, [.ref (ad 1), .ref (ad 15), .ref (ad 16), .ref (ad 17), .ref (ad 18), .ref (ad 19), .ref (ad 20), .ref (ad 21), .ref (ad 22), .int 500, .int 700, .int 0, .int 0])), (ad 5, .inr (8, [.ref (ad 1), .ref (ad 23), .ref (ad 24), .ref (ad 25), .ref (ad 26), .ref (ad 27), .ref (ad 28), .int 10, .int 0])), (ad 46, .inl (cA, 1, .inr (.inl f)))]) sz)) 1 6 (va_A ([(ad 0, .inr (16, [.ref (ad 1), .ref (ad 2), .ref (ad 3), .ref (ad 4), .ref (ad 5), .ref (ad 6)])), (ad 1, .inr (5, [.ref (ad 7), .ref (ad 8), .ref (ad 9), .ref (ad 10), .ref (ad 11), .ref (ad 12), .int 0, .int 0, .int 0, .int 0, .int 200])), (ad 2, .inr (9, [.ref (ad 1), .ref (ad 13), .int 0])), (ad 3, .inr (13, [.ref (ad 14), .int 0])), (ad 4, .inr (10, [.ref (ad 1), .ref (ad 15), .ref (ad 16), .ref (ad 17), .ref (ad 18), .ref (ad 19), .ref (ad 20), .ref (ad 21), .ref (ad 22), .int 500, .int 700, .int 0, .int 0])), (ad 5, .inr (8, [.ref (ad 1), .ref (ad 23), .ref (ad 24), .ref (ad 25), .ref (ad 26), .ref (ad 27), .ref (ad 28), .int 10, .int 0])), (ad 46, .inl (cA, 1, .inr (.inl f)))]) sz) := by
  refine va_MetW (cc := cL_setSheet) (maxL := 5) (ret := (some .int)) (by decide) rfl ?_
  intro p e s m args below meth c s₁ B hml hv
  obtain ⟨rfl, hsz, hP, hK, hD0, hTK, hZ⟩ := hv
  have hx := B.exec
  have hb := B.bytes
  have hr := B.returns
  have hts := atoms_spec (ws := wsL_setSheet) B.pre
  have hown : s.vm.findClass RL = some m.cls := findClass_of_methodNamed B.named
  have hlocks := B.notSynchronized
  have htab := vx_table (x := yL_setSheet) B (hts _ List.mem_cons_self)
  subst hsz
  have hD := hD0.self (sz := s.heap.size)
  generalize hAe : va_A ([(ad 0, .inr (16, [.ref (ad 1), .ref (ad 2), .ref (ad 3), .ref (ad 4), .ref (ad 5), .ref (ad 6)])), (ad 1, .inr (5, [.ref (ad 7), .ref (ad 8), .ref (ad 9), .ref (ad 10), .ref (ad 11), .ref (ad 12), .int 0, .int 0, .int 0, .int 0, .int 200])), (ad 2, .inr (9, [.ref (ad 1), .ref (ad 13), .int 0])), (ad 3, .inr (13, [.ref (ad 14), .int 0])), (ad 4, .inr (10, [.ref (ad 1), .ref (ad 15), .ref (ad 16), .ref (ad 17), .ref (ad 18), .ref (ad 19), .ref (ad 20), .ref (ad 21), .ref (ad 22), .int 500, .int 700, .int 0, .int 0])), (ad 5, .inr (8, [.ref (ad 1), .ref (ad 23), .ref (ad 24), .ref (ad 25), .ref (ad 26), .ref (ad 27), .ref (ad 28), .int 10, .int 0])), (ad 46, .inl (cA, 1, .inr (.inl f)))]) s.heap.size = A at hD hZ ⊢
  have hA : ∀ q : Nat, s.heap.size ≤ q → A q := fun q h => by rw [← hAe]; exact Or.inr h
  have hS : va_S A s.heap s.heap [] := va_S.rf
  have hP : va_P D vwCl ([(ad 0, .inr (16, [.ref (ad 1), .ref (ad 2), .ref (ad 3), .ref (ad 4), .ref (ad 5), .ref (ad 6)])), (ad 1, .inr (5, [.ref (ad 7), .ref (ad 8), .ref (ad 9), .ref (ad 10), .ref (ad 11), .ref (ad 12), .int 0, .int 0, .int 0, .int 0, .int 200])), (ad 2, .inr (9, [.ref (ad 1), .ref (ad 13), .int 0])), (ad 3, .inr (13, [.ref (ad 14), .int 0])), (ad 4, .inr (10, [.ref (ad 1), .ref (ad 15), .ref (ad 16), .ref (ad 17), .ref (ad 18), .ref (ad 19), .ref (ad 20), .ref (ad 21), .ref (ad 22), .int 500, .int 700, .int 0, .int 0])), (ad 5, .inr (8, [.ref (ad 1), .ref (ad 23), .ref (ad 24), .ref (ad 25), .ref (ad 26), .ref (ad 27), .ref (ad 28), .int 10, .int 0])), (ad 46, .inl (cA, 1, .inr (.inl f)))]) s.heap := hP
  have hD : va_D A ([(ad 0, .inr (16, [.ref (ad 1), .ref (ad 2), .ref (ad 3), .ref (ad 4), .ref (ad 5), .ref (ad 6)])), (ad 1, .inr (5, [.ref (ad 7), .ref (ad 8), .ref (ad 9), .ref (ad 10), .ref (ad 11), .ref (ad 12), .int 0, .int 0, .int 0, .int 0, .int 200])), (ad 2, .inr (9, [.ref (ad 1), .ref (ad 13), .int 0])), (ad 3, .inr (13, [.ref (ad 14), .int 0])), (ad 4, .inr (10, [.ref (ad 1), .ref (ad 15), .ref (ad 16), .ref (ad 17), .ref (ad 18), .ref (ad 19), .ref (ad 20), .ref (ad 21), .ref (ad 22), .int 500, .int 700, .int 0, .int 0])), (ad 5, .inr (8, [.ref (ad 1), .ref (ad 23), .ref (ad 24), .ref (ad 25), .ref (ad 26), .ref (ad 27), .ref (ad 28), .int 10, .int 0])), (ad 46, .inl (cA, 1, .inr (.inl f)))]) := hD
  have hl := lv_entry ([.ref (ad 0), .int p0, .int p1, .ref (ad 46)]) (n := 5) (Nat.le_of_ble_eq_true rfl)
  rw [lg_entry_eq]
  generalize (lg_sl ([.ref (ad 0), .int p0, .int p1, .ref (ad 46)]) ++ List.replicate (5 - (lg_sl ([.ref (ad 0), .int p0, .int p1, .ref (ad 46)])).length) Slot.unset).toArray = ls at hl ⊢
  have hl : lv_has ls 5 [(0, .ref (ad 0)), (1, .int p0), (2, .int p1), (3, .ref (ad 46))] := hl
  refine lv_aload_n hx hb dL_setSheet_0 rfl (lv_at hl 3 rfl) ?_
  refine lv_iconst (v := 0) hx hb dL_setSheet_1 (by decide) ?_
  refine lv_aload_n hx hb dL_setSheet_2 rfl (lv_at hl 0 rfl) ?_
  refine lv_iload_n hx hb dL_setSheet_3 rfl (lv_at hl 1 rfl) ?_
  refine lv_iload_n hx hb dL_setSheet_4 rfl (lv_at hl 2 rfl) ?_
  refine kt_i (wc := wX ad) (wr := [(ad 46, .inl (cA, 1, .inr (.inl f)))]) hP hD hS hA [0, 1, 2, 3, 4, 5] [6] rfl rfl (by decide) (by decide) (vx_runV (As := [.int p0, .int p1]) (rest := [.int 0, .ref (ad 46)]) ⟨hx, hb, hml, hown, hts⟩ (f_setSheet l hst D de ad p0 p1 s.heap.size) (cwV 2 hts gL_setSheet_X11_setSheet rfl rfl rfl (by decide +kernel) ⟨Nat.le_of_ble_eq_true rfl, Nat.le_of_ble_eq_true rfl⟩) ⟨px_blind, (va_recv hK hP (ci := 16) (q0 := 0) rfl rfl), (px_pre hP hD hK hS hA hTK hZ [0, 1, 2, 3, 4, 5] rfl rfl (by decide) [] rfl)⟩ rfl rfl hl.1 rfl (lv_room (Nat.le_of_ble_eq_true rfl)) dL_setSheet_5 ⟨(Nat.le_of_ble_eq_true rfl), (Nat.le_of_ble_eq_true rfl)⟩) (fun E q9 H locs hE hq hP hD hS => ?_) (fun r_1 u H locs hw hP hD hK1 hS => ?_)
  · obtain ⟨rfl, hE⟩ := hE
    obtain ⟨ce9, hq1, hq2, hq3⟩ := hq
    refine vx_catch (own := RL) (name := "java/lang/IllegalArgumentException") hown [] (⟨0, 10, 13, 13⟩ : ExceptionTableEntry) [] htab (fun _ h9 => absurd h9 List.not_mem_nil) (by decide) (by decide) (va_Nw.use rfl (hTK.2.2.2.2.2.2.2.2.2.2.1 (RL, 13, "java/lang/IllegalArgumentException") (by decide +kernel))) (va_Nw.use rfl (hTK.1 "java/lang/IllegalArgumentException" (by decide +kernel))) hq1 hq2 hq3 ?_
    refine W.eq (g2 := F0 m 13 ls [.ref q9]) rfl ?_
    refine lv_astore (lv' := [(4, .ref q9), (0, .ref (ad 0)), (1, .int p0), (2, .int p1), (3, .ref (ad 46))]) hx hb dL_setSheet_13 hl (by decide) rfl (fun ls hl => ?_)
    refine lv_iconst (v := 1) hx hb dL_setSheet_15 (by decide) ?_
    refine W.widen (k := 1) (n := 6) (Nat.le_of_ble_eq_true rfl) (Nat.le_of_ble_eq_true rfl) ?_
    have hP9 := hP.sub (ws' := ([(ad 46, .inl (cA, 1, .inr (.inl f)))])) [0] rfl
    have hD9 := hD.sub (ws' := ([(ad 46, .inl (cA, 1, .inr (.inl f)))])) [0] (by decide) rfl
    have hK9 := hK.sub (tys' := [(cA, .long)]) [0] rfl
    exact W.iret (v := 1) hx hb hr (fun t ht hW => ⟨⟨1, (f), rfl, (Or.inl (⟨rfl, hE⟩)), ⟨by rw [ht]; exact hP9, va_K.moved hW.alike hK9, hD9⟩⟩, hS.F ht⟩) hS.2.2 dL_setSheet_16 hlocks
  · have hP : va_P D vwCl ([(ad 46, .inl (cA, 1, .inr (.inl f)))]) H := hP
    have hD : va_D A ([(ad 46, .inl (cA, 1, .inr (.inl f)))]) := hD
    obtain ⟨rfl, hn⟩ : r_1 = 700 ∧ _ := hw
    refine W.widen (k := 1) (n := 6) (Nat.le_of_ble_eq_true rfl) (Nat.le_of_ble_eq_true rfl) ?_
    refine lv_i2l (v := 700) hx hb dL_setSheet_8 (by decide) ?_
    refine va_last hx hb hK hP hD hS 0 0 rfl rfl (by unfold vp_in; decide) dL_setSheet_9 (fun H locs hP hD hS => ?_)
    have hP : va_P D vwCl ([(ad 46, .inl (cA, 1, .inr (.inl (vp_updL f 0 700))))]) H := hP
    have hD : va_D A ([(ad 46, .inl (cA, 1, .inr (.inl (vp_updL f 0 700))))]) := hD
    refine lv_goto (tgt := 17) hx hb dL_setSheet_10 (by decide) ?_
    refine lv_iconst (v := 0) hx hb dL_setSheet_17 (by decide) ?_
    refine W.widen (k := 1) (n := 6) (Nat.le_of_ble_eq_true rfl) (Nat.le_of_ble_eq_true rfl) ?_
    have hP9 := hP.sub (ws' := ([(ad 46, .inl (cA, 1, .inr (.inl (vp_updL f 0 700))))])) [0] rfl
    have hD9 := hD.sub (ws' := ([(ad 46, .inl (cA, 1, .inr (.inl (vp_updL f 0 700))))])) [0] (by decide) rfl
    have hK9 := hK.sub (tys' := [(cA, .long)]) [0] rfl
    exact W.iret (v := 0) hx hb hr (fun t ht hW => ⟨⟨0, (vp_updL f 0 700), rfl, (Or.inr (⟨rfl, rfl, hn⟩)), ⟨by rw [ht]; exact hP9, va_K.moved hW.alike hK9, hD9⟩⟩, hS.F ht⟩) hS.2.2 dL_setSheet_18 hlocks

set_option maxHeartbeats 4000000 in
set_option maxRecDepth 100000 in
theorem w_sheets (l : Launch) (hst : l.stackTraces = false) (D : va_G) (de : Nat) (ad : Nat → Nat) (cA : ClassId) (f : Nat → Int64) (sz : Nat) : Met l yL_sheets wsL_sheets ({ frames := 4, cells := 0, slots := 0, locals := 85 } : Room) (va_Pc [.ref (ad 0), .ref (ad 46)] (PX de D ([(cA, .long)]) ([(ad 0, .inr (16, [.ref (ad 1), .ref (ad 2), .ref (ad 3), .ref (ad 4), .ref (ad 5), .ref (ad 6)])), (ad 1, .inr (5, [.ref (ad 7), .ref (ad 8), .ref (ad 9), .ref (ad 10), .ref (ad 11), .ref (ad 12), .int 0, .int 0, .int 0, .int 0, .int 200])), (ad 2, .inr (9, [.ref (ad 1), .ref (ad 13), .int 0])), (ad 3, .inr (13, [.ref (ad 14), .int 0])), (ad 4, .inr (10, [.ref (ad 1), .ref (ad 15), .ref (ad 16), .ref (ad 17), .ref (ad 18), .ref (ad 19), .ref (ad 20), .ref (ad 21), .ref (ad 22), .int 500, .int 700, .int 0, .int 0])), (ad 5, .inr (8, [.ref (ad 1), .ref (ad 23), .ref (ad 24), .ref (ad 25), .ref (ad 26), .ref (ad 27), .ref (ad 28), .int 10, .int 0])), (ad 46, .inl (cA, 1, .inr (.inl f)))]) sz)) (va_Qi (fun (r : Int32) (u : Nat → Int64) => (r = 0 ∧ u 0 = 0)) (fun u t => PW D ([(cA, .long)]) (va_A ([(ad 0, .inr (16, [.ref (ad 1), .ref (ad 2), .ref (ad 3), .ref (ad 4), .ref (ad 5), .ref (ad 6)])), (ad 1, .inr (5, [.ref (ad 7), .ref (ad 8), .ref (ad 9), .ref (ad 10), .ref (ad 11), .ref (ad 12), .int 0, .int 0, .int 0, .int 0, .int 200])), (ad 2, .inr (9, [.ref (ad 1), .ref (ad 13), .int 0])), (ad 3, .inr (13, [.ref (ad 14), .int 0])), (ad 4, .inr (10, [.ref (ad 1), .ref (ad 15), .ref (ad 16), .ref (ad 17), .ref (ad 18), .ref (ad 19), .ref (ad 20), .ref (ad 21), .ref (ad 22), .int 500, .int 700, .int 0, .int 0])), (ad 5, .inr (8, [.ref (ad 1), .ref (ad 23), .ref (ad 24), .ref (ad 25), .ref (ad 26), .ref (ad 27), .ref (ad 28), .int 10, .int 0])), (ad 46, .inl (cA, 1, .inr (.inl f)))]) sz) ([(ad 46, .inl (cA, 1, .inr (.inl u)))]) t) (va_A ([(ad 0, .inr (16, [.ref (ad 1), .ref (ad 2), .ref (ad 3), .ref (ad 4), .ref (ad 5), .ref (ad 6)])), (ad 1, .inr (5, [.ref (ad 7), .ref (ad 8), .ref (ad 9), .ref (ad 10), .ref (ad 11), .ref (ad 12), .int 0, .int 0, .int 0, .int 0, .int 200])), (ad 2, .inr (9, [.ref (ad 1), .ref (ad 13), .int 0])), (ad 3, .inr (13, [.ref (ad 14), .int 0])), (ad 4, .inr (10, [.ref (ad 1), .ref (ad 15), .ref (ad 16), .ref (ad 17), .ref (ad 18), .ref (ad 19), .ref (ad 20), .ref (ad 21), .ref (ad 22), .int 500, .int 700, .int 0, .int 0])), (ad 5, .inr (8, [.ref (ad 1), .ref (ad 23), .ref (ad 24), .ref (ad 25), .ref (ad 26), .ref (ad 27), .ref (ad 28), .int 10, .int 0])), (ad 46, .inl (cA, 1, .inr (.inl f)))]) sz)) 0 0 (va_A ([(ad 0, .inr (16, [.ref (ad 1), .ref (ad 2), .ref (ad 3), .ref (ad 4), .ref (ad 5), .ref (ad 6)])), (ad 1, .inr (5, [.ref (ad 7), .ref (ad 8), .ref (ad 9), .ref (ad 10), .ref (ad 11), .ref (ad 12), .int 0, .int 0, .int 0, .int 0, .int 200])), (ad 2, .inr (9, [.ref (ad 1), .ref (ad 13), .int 0])), (ad 3, .inr (13, [.ref (ad 14), .int 0])), (ad 4, .inr (10, [.ref (ad 1), .ref (ad 15), .ref (ad 16), .ref (ad 17), .ref (ad 18), .ref (ad 19), .ref (ad 20), .ref (ad 21), .ref (ad 22), .int 500, .int 700, .int 0, .int 0])), (ad 5, .inr (8, [.ref (ad 1), .ref (ad 23), .ref (ad 24), .ref (ad 25), .ref (ad 26), .ref (ad 27), .ref (ad 28), .int 10, .int 0])), (ad 46, .inl (cA, 1, .inr (.inl f)))]) sz) := by
  refine va_MetW (cc := cL_sheets) (maxL := 3) (ret := (some .int)) (by decide) rfl ?_
  intro p e s m args below meth c s₁ B hml hv
  obtain ⟨rfl, hsz, hP, hK, hD0, hTK, hZ⟩ := hv
  have hx := B.exec
  have hb := B.bytes
  have hr := B.returns
  have hts := atoms_spec (ws := wsL_sheets) B.pre
  have hown : s.vm.findClass RL = some m.cls := findClass_of_methodNamed B.named
  have hlocks := B.notSynchronized
  have htab := vx_table (x := yL_sheets) B (hts _ List.mem_cons_self)
  subst hsz
  have hD := hD0.self (sz := s.heap.size)
  generalize hAe : va_A ([(ad 0, .inr (16, [.ref (ad 1), .ref (ad 2), .ref (ad 3), .ref (ad 4), .ref (ad 5), .ref (ad 6)])), (ad 1, .inr (5, [.ref (ad 7), .ref (ad 8), .ref (ad 9), .ref (ad 10), .ref (ad 11), .ref (ad 12), .int 0, .int 0, .int 0, .int 0, .int 200])), (ad 2, .inr (9, [.ref (ad 1), .ref (ad 13), .int 0])), (ad 3, .inr (13, [.ref (ad 14), .int 0])), (ad 4, .inr (10, [.ref (ad 1), .ref (ad 15), .ref (ad 16), .ref (ad 17), .ref (ad 18), .ref (ad 19), .ref (ad 20), .ref (ad 21), .ref (ad 22), .int 500, .int 700, .int 0, .int 0])), (ad 5, .inr (8, [.ref (ad 1), .ref (ad 23), .ref (ad 24), .ref (ad 25), .ref (ad 26), .ref (ad 27), .ref (ad 28), .int 10, .int 0])), (ad 46, .inl (cA, 1, .inr (.inl f)))]) s.heap.size = A at hD hZ ⊢
  have hA : ∀ q : Nat, s.heap.size ≤ q → A q := fun q h => by rw [← hAe]; exact Or.inr h
  have hS : va_S A s.heap s.heap [] := va_S.rf
  have hP : va_P D vwCl ([(ad 0, .inr (16, [.ref (ad 1), .ref (ad 2), .ref (ad 3), .ref (ad 4), .ref (ad 5), .ref (ad 6)])), (ad 1, .inr (5, [.ref (ad 7), .ref (ad 8), .ref (ad 9), .ref (ad 10), .ref (ad 11), .ref (ad 12), .int 0, .int 0, .int 0, .int 0, .int 200])), (ad 2, .inr (9, [.ref (ad 1), .ref (ad 13), .int 0])), (ad 3, .inr (13, [.ref (ad 14), .int 0])), (ad 4, .inr (10, [.ref (ad 1), .ref (ad 15), .ref (ad 16), .ref (ad 17), .ref (ad 18), .ref (ad 19), .ref (ad 20), .ref (ad 21), .ref (ad 22), .int 500, .int 700, .int 0, .int 0])), (ad 5, .inr (8, [.ref (ad 1), .ref (ad 23), .ref (ad 24), .ref (ad 25), .ref (ad 26), .ref (ad 27), .ref (ad 28), .int 10, .int 0])), (ad 46, .inl (cA, 1, .inr (.inl f)))]) s.heap := hP
  have hD : va_D A ([(ad 0, .inr (16, [.ref (ad 1), .ref (ad 2), .ref (ad 3), .ref (ad 4), .ref (ad 5), .ref (ad 6)])), (ad 1, .inr (5, [.ref (ad 7), .ref (ad 8), .ref (ad 9), .ref (ad 10), .ref (ad 11), .ref (ad 12), .int 0, .int 0, .int 0, .int 0, .int 200])), (ad 2, .inr (9, [.ref (ad 1), .ref (ad 13), .int 0])), (ad 3, .inr (13, [.ref (ad 14), .int 0])), (ad 4, .inr (10, [.ref (ad 1), .ref (ad 15), .ref (ad 16), .ref (ad 17), .ref (ad 18), .ref (ad 19), .ref (ad 20), .ref (ad 21), .ref (ad 22), .int 500, .int 700, .int 0, .int 0])), (ad 5, .inr (8, [.ref (ad 1), .ref (ad 23), .ref (ad 24), .ref (ad 25), .ref (ad 26), .ref (ad 27), .ref (ad 28), .int 10, .int 0])), (ad 46, .inl (cA, 1, .inr (.inl f)))]) := hD
  have hl := lv_entry ([.ref (ad 0), .ref (ad 46)]) (n := 3) (Nat.le_of_ble_eq_true rfl)
  rw [lg_entry_eq]
  generalize (lg_sl ([.ref (ad 0), .ref (ad 46)]) ++ List.replicate (3 - (lg_sl ([.ref (ad 0), .ref (ad 46)])).length) Slot.unset).toArray = ls at hl ⊢
  have hl : lv_has ls 3 [(0, .ref (ad 0)), (1, .ref (ad 46))] := hl
  refine lv_aload_n hx hb dL_sheets_0 rfl (lv_at hl 1 rfl) ?_
  refine lv_iconst (v := 0) hx hb dL_sheets_1 (by decide) ?_
  refine lv_aload_n hx hb dL_sheets_2 rfl (lv_at hl 0 rfl) ?_
  refine kx_i (wc := wX ad) (wr := [(ad 46, .inl (cA, 1, .inr (.inl f)))]) hP hD hS hA [0, 1, 2, 3, 4, 5] [6] rfl rfl (by decide) (by decide) (va_runV (As := []) (rest := [.int 0, .ref (ad 46)]) ⟨hx, hb, hml, hown, hts⟩ (f_sheets l D de ad s.heap.size) (cwV 0 hts gL_sheets_X11_sheets rfl rfl rfl (by decide +kernel) ⟨Nat.le_of_ble_eq_true rfl, Nat.le_of_ble_eq_true rfl⟩) ⟨px_blind, (va_recv hK hP (ci := 16) (q0 := 0) rfl rfl), (px_pre hP hD hK hS hA hTK hZ [0, 1, 2, 3, 4, 5] rfl rfl (by decide) [] rfl)⟩ rfl rfl hl.1 rfl (lv_room (Nat.le_of_ble_eq_true rfl)) dL_sheets_3 ⟨(Nat.le_of_ble_eq_true rfl), (Nat.le_of_ble_eq_true rfl)⟩) (fun r_1 u H locs hw hP hD hK1 hS => ?_)
  have hP : va_P D vwCl ([(ad 46, .inl (cA, 1, .inr (.inl f)))]) H := hP
  have hD : va_D A ([(ad 46, .inl (cA, 1, .inr (.inl f)))]) := hD
  obtain rfl : r_1 = 0 := hw
  refine lv_i2l (v := 0) hx hb dL_sheets_6 (by decide) ?_
  refine va_last hx hb hK hP hD hS 0 0 rfl rfl (by unfold vp_in; decide) dL_sheets_7 (fun H locs hP hD hS => ?_)
  have hP : va_P D vwCl ([(ad 46, .inl (cA, 1, .inr (.inl (vp_updL f 0 0))))]) H := hP
  have hD : va_D A ([(ad 46, .inl (cA, 1, .inr (.inl (vp_updL f 0 0))))]) := hD
  refine lv_goto (tgt := 14) hx hb dL_sheets_8 (by decide) ?_
  refine lv_iconst (v := 0) hx hb dL_sheets_14 (by decide) ?_
  refine W.widen (k := 0) (n := 0) (Nat.le_of_ble_eq_true rfl) (Nat.le_of_ble_eq_true rfl) ?_
  have hP9 := hP.sub (ws' := ([(ad 46, .inl (cA, 1, .inr (.inl (vp_updL f 0 0))))])) [0] rfl
  have hD9 := hD.sub (ws' := ([(ad 46, .inl (cA, 1, .inr (.inl (vp_updL f 0 0))))])) [0] (by decide) rfl
  have hK9 := hK.sub (tys' := [(cA, .long)]) [0] rfl
  exact W.iret (v := 0) hx hb hr (fun t ht hW => ⟨⟨0, (vp_updL f 0 0), rfl, ⟨rfl, rfl⟩, ⟨by rw [ht]; exact hP9, va_K.moved hW.alike hK9, hD9⟩⟩, hS.F ht⟩) hS.2.2 dL_sheets_15 hlocks

set_option maxHeartbeats 4000000 in
set_option maxRecDepth 100000 in
theorem w_plates (l : Launch) (hst : l.stackTraces = false) (D : va_G) (de : Nat) (ad : Nat → Nat) (p0 : Int32) (cA : ClassId) (f : Nat → Int64) (sz : Nat) : Met l yL_plates wsL_plates ({ frames := 7, cells := 1, slots := 6, locals := 103 } : Room) (va_Pc [.ref (ad 0), .int p0, .ref (ad 46)] (PX de D ([(cA, .long)]) ([(ad 0, .inr (16, [.ref (ad 1), .ref (ad 2), .ref (ad 3), .ref (ad 4), .ref (ad 5), .ref (ad 6)])), (ad 1, .inr (5, [.ref (ad 7), .ref (ad 8), .ref (ad 9), .ref (ad 10), .ref (ad 11), .ref (ad 12), .int 0, .int 0, .int 0, .int 0, .int 200])), (ad 2, .inr (9, [.ref (ad 1), .ref (ad 13), .int 0])), (ad 3, .inr (13, [.ref (ad 14), .int 0])), (ad 4, .inr (10, [.ref (ad 1), .ref (ad 15), .ref (ad 16), .ref (ad 17), .ref (ad 18), .ref (ad 19), .ref (ad 20), .ref (ad 21), .ref (ad 22), .int 500, .int 700, .int 0, .int 0])), (ad 5, .inr (8, [.ref (ad 1), .ref (ad 23), .ref (ad 24), .ref (ad 25), .ref (ad 26), .ref (ad 27), .ref (ad 28), .int 10, .int 0])), (ad 46, .inl (cA, 1, .inr (.inl f)))]) sz)) (va_Qi (fun (r : Int32) (u : Nat → Int64) => (r = 1 ∧ inR p0 0 99 = 0) ∨ (r = 0 ∧ u 0 = 0 ∧ ¬ inR p0 0 99 = 0)) (fun u t => PW D ([(cA, .long)]) (va_A ([(ad 0, .inr (16, [.ref (ad 1), .ref (ad 2), .ref (ad 3), .ref (ad 4), .ref (ad 5), .ref (ad 6)])), (ad 1, .inr (5, [.ref (ad 7), .ref (ad 8), .ref (ad 9), .ref (ad 10), .ref (ad 11), .ref (ad 12), .int 0, .int 0, .int 0, .int 0, .int 200])), (ad 2, .inr (9, [.ref (ad 1), .ref (ad 13), .int 0])), (ad 3, .inr (13, [.ref (ad 14), .int 0])), (ad 4, .inr (10, [.ref (ad 1), .ref (ad 15), .ref (ad 16), .ref (ad 17), .ref (ad 18), .ref (ad 19), .ref (ad 20), .ref (ad 21), .ref (ad 22), .int 500, .int 700, .int 0, .int 0])), (ad 5, .inr (8, [.ref (ad 1), .ref (ad 23), .ref (ad 24), .ref (ad 25), .ref (ad 26), .ref (ad 27), .ref (ad 28), .int 10, .int 0])), (ad 46, .inl (cA, 1, .inr (.inl f)))]) sz) ([(ad 46, .inl (cA, 1, .inr (.inl u)))]) t) (va_A ([(ad 0, .inr (16, [.ref (ad 1), .ref (ad 2), .ref (ad 3), .ref (ad 4), .ref (ad 5), .ref (ad 6)])), (ad 1, .inr (5, [.ref (ad 7), .ref (ad 8), .ref (ad 9), .ref (ad 10), .ref (ad 11), .ref (ad 12), .int 0, .int 0, .int 0, .int 0, .int 200])), (ad 2, .inr (9, [.ref (ad 1), .ref (ad 13), .int 0])), (ad 3, .inr (13, [.ref (ad 14), .int 0])), (ad 4, .inr (10, [.ref (ad 1), .ref (ad 15), .ref (ad 16), .ref (ad 17), .ref (ad 18), .ref (ad 19), .ref (ad 20), .ref (ad 21), .ref (ad 22), .int 500, .int 700, .int 0, .int 0])), (ad 5, .inr (8, [.ref (ad 1), .ref (ad 23), .ref (ad 24), .ref (ad 25), .ref (ad 26), .ref (ad 27), .ref (ad 28), .int 10, .int 0])), (ad 46, .inl (cA, 1, .inr (.inl f)))]) sz)) 1 6 (va_A ([(ad 0, .inr (16, [.ref (ad 1), .ref (ad 2), .ref (ad 3), .ref (ad 4), .ref (ad 5), .ref (ad 6)])), (ad 1, .inr (5, [.ref (ad 7), .ref (ad 8), .ref (ad 9), .ref (ad 10), .ref (ad 11), .ref (ad 12), .int 0, .int 0, .int 0, .int 0, .int 200])), (ad 2, .inr (9, [.ref (ad 1), .ref (ad 13), .int 0])), (ad 3, .inr (13, [.ref (ad 14), .int 0])), (ad 4, .inr (10, [.ref (ad 1), .ref (ad 15), .ref (ad 16), .ref (ad 17), .ref (ad 18), .ref (ad 19), .ref (ad 20), .ref (ad 21), .ref (ad 22), .int 500, .int 700, .int 0, .int 0])), (ad 5, .inr (8, [.ref (ad 1), .ref (ad 23), .ref (ad 24), .ref (ad 25), .ref (ad 26), .ref (ad 27), .ref (ad 28), .int 10, .int 0])), (ad 46, .inl (cA, 1, .inr (.inl f)))]) sz) := by
  refine va_MetW (cc := cL_plates) (maxL := 4) (ret := (some .int)) (by decide) rfl ?_
  intro p e s m args below meth c s₁ B hml hv
  obtain ⟨rfl, hsz, hP, hK, hD0, hTK, hZ⟩ := hv
  have hx := B.exec
  have hb := B.bytes
  have hr := B.returns
  have hts := atoms_spec (ws := wsL_plates) B.pre
  have hown : s.vm.findClass RL = some m.cls := findClass_of_methodNamed B.named
  have hlocks := B.notSynchronized
  have htab := vx_table (x := yL_plates) B (hts _ List.mem_cons_self)
  subst hsz
  have hD := hD0.self (sz := s.heap.size)
  generalize hAe : va_A ([(ad 0, .inr (16, [.ref (ad 1), .ref (ad 2), .ref (ad 3), .ref (ad 4), .ref (ad 5), .ref (ad 6)])), (ad 1, .inr (5, [.ref (ad 7), .ref (ad 8), .ref (ad 9), .ref (ad 10), .ref (ad 11), .ref (ad 12), .int 0, .int 0, .int 0, .int 0, .int 200])), (ad 2, .inr (9, [.ref (ad 1), .ref (ad 13), .int 0])), (ad 3, .inr (13, [.ref (ad 14), .int 0])), (ad 4, .inr (10, [.ref (ad 1), .ref (ad 15), .ref (ad 16), .ref (ad 17), .ref (ad 18), .ref (ad 19), .ref (ad 20), .ref (ad 21), .ref (ad 22), .int 500, .int 700, .int 0, .int 0])), (ad 5, .inr (8, [.ref (ad 1), .ref (ad 23), .ref (ad 24), .ref (ad 25), .ref (ad 26), .ref (ad 27), .ref (ad 28), .int 10, .int 0])), (ad 46, .inl (cA, 1, .inr (.inl f)))]) s.heap.size = A at hD hZ ⊢
  have hA : ∀ q : Nat, s.heap.size ≤ q → A q := fun q h => by rw [← hAe]; exact Or.inr h
  have hS : va_S A s.heap s.heap [] := va_S.rf
  have hP : va_P D vwCl ([(ad 0, .inr (16, [.ref (ad 1), .ref (ad 2), .ref (ad 3), .ref (ad 4), .ref (ad 5), .ref (ad 6)])), (ad 1, .inr (5, [.ref (ad 7), .ref (ad 8), .ref (ad 9), .ref (ad 10), .ref (ad 11), .ref (ad 12), .int 0, .int 0, .int 0, .int 0, .int 200])), (ad 2, .inr (9, [.ref (ad 1), .ref (ad 13), .int 0])), (ad 3, .inr (13, [.ref (ad 14), .int 0])), (ad 4, .inr (10, [.ref (ad 1), .ref (ad 15), .ref (ad 16), .ref (ad 17), .ref (ad 18), .ref (ad 19), .ref (ad 20), .ref (ad 21), .ref (ad 22), .int 500, .int 700, .int 0, .int 0])), (ad 5, .inr (8, [.ref (ad 1), .ref (ad 23), .ref (ad 24), .ref (ad 25), .ref (ad 26), .ref (ad 27), .ref (ad 28), .int 10, .int 0])), (ad 46, .inl (cA, 1, .inr (.inl f)))]) s.heap := hP
  have hD : va_D A ([(ad 0, .inr (16, [.ref (ad 1), .ref (ad 2), .ref (ad 3), .ref (ad 4), .ref (ad 5), .ref (ad 6)])), (ad 1, .inr (5, [.ref (ad 7), .ref (ad 8), .ref (ad 9), .ref (ad 10), .ref (ad 11), .ref (ad 12), .int 0, .int 0, .int 0, .int 0, .int 200])), (ad 2, .inr (9, [.ref (ad 1), .ref (ad 13), .int 0])), (ad 3, .inr (13, [.ref (ad 14), .int 0])), (ad 4, .inr (10, [.ref (ad 1), .ref (ad 15), .ref (ad 16), .ref (ad 17), .ref (ad 18), .ref (ad 19), .ref (ad 20), .ref (ad 21), .ref (ad 22), .int 500, .int 700, .int 0, .int 0])), (ad 5, .inr (8, [.ref (ad 1), .ref (ad 23), .ref (ad 24), .ref (ad 25), .ref (ad 26), .ref (ad 27), .ref (ad 28), .int 10, .int 0])), (ad 46, .inl (cA, 1, .inr (.inl f)))]) := hD
  have hl := lv_entry ([.ref (ad 0), .int p0, .ref (ad 46)]) (n := 4) (Nat.le_of_ble_eq_true rfl)
  rw [lg_entry_eq]
  generalize (lg_sl ([.ref (ad 0), .int p0, .ref (ad 46)]) ++ List.replicate (4 - (lg_sl ([.ref (ad 0), .int p0, .ref (ad 46)])).length) Slot.unset).toArray = ls at hl ⊢
  have hl : lv_has ls 4 [(0, .ref (ad 0)), (1, .int p0), (2, .ref (ad 46))] := hl
  refine lv_aload_n hx hb dL_plates_0 rfl (lv_at hl 2 rfl) ?_
  refine lv_iconst (v := 0) hx hb dL_plates_1 (by decide) ?_
  refine lv_aload_n hx hb dL_plates_2 rfl (lv_at hl 0 rfl) ?_
  refine lv_iload_n hx hb dL_plates_3 rfl (lv_at hl 1 rfl) ?_
  refine kt_i (wc := wX ad) (wr := [(ad 46, .inl (cA, 1, .inr (.inl f)))]) hP hD hS hA [0, 1, 2, 3, 4, 5] [6] rfl rfl (by decide) (by decide) (vx_runV (As := [.int p0]) (rest := [.int 0, .ref (ad 46)]) ⟨hx, hb, hml, hown, hts⟩ (f_plates l hst D de ad p0 s.heap.size) (cwV 1 hts gL_plates_X11_plates rfl rfl rfl (by decide +kernel) ⟨Nat.le_of_ble_eq_true rfl, Nat.le_of_ble_eq_true rfl⟩) ⟨px_blind, (va_recv hK hP (ci := 16) (q0 := 0) rfl rfl), (px_pre hP hD hK hS hA hTK hZ [0, 1, 2, 3, 4, 5] rfl rfl (by decide) [] rfl)⟩ rfl rfl hl.1 rfl (lv_room (Nat.le_of_ble_eq_true rfl)) dL_plates_4 ⟨(Nat.le_of_ble_eq_true rfl), (Nat.le_of_ble_eq_true rfl)⟩) (fun E q9 H locs hE hq hP hD hS => ?_) (fun r_1 u H locs hw hP hD hK1 hS => ?_)
  · obtain ⟨rfl, hE⟩ := hE
    obtain ⟨ce9, hq1, hq2, hq3⟩ := hq
    refine vx_catch (own := RL) (name := "java/lang/IllegalArgumentException") hown [] (⟨0, 9, 12, 13⟩ : ExceptionTableEntry) [(⟨0, 9, 15, 31⟩ : ExceptionTableEntry)] htab (fun _ h9 => absurd h9 List.not_mem_nil) (by decide) (by decide) (va_Nw.use rfl (hTK.2.2.2.2.2.2.2.2.2.2.1 (RL, 13, "java/lang/IllegalArgumentException") (by decide +kernel))) (va_Nw.use rfl (hTK.1 "java/lang/IllegalArgumentException" (by decide +kernel))) hq1 hq2 hq3 ?_
    refine W.eq (g2 := F0 m 12 ls [.ref q9]) rfl ?_
    refine lv_astore_n (lv' := [(3, .ref q9), (0, .ref (ad 0)), (1, .int p0), (2, .ref (ad 46))]) hx hb dL_plates_12 rfl hl (by decide) rfl (fun ls hl => ?_)
    refine lv_iconst (v := 1) hx hb dL_plates_13 (by decide) ?_
    refine W.widen (k := 1) (n := 6) (Nat.le_of_ble_eq_true rfl) (Nat.le_of_ble_eq_true rfl) ?_
    have hP9 := hP.sub (ws' := ([(ad 46, .inl (cA, 1, .inr (.inl f)))])) [0] rfl
    have hD9 := hD.sub (ws' := ([(ad 46, .inl (cA, 1, .inr (.inl f)))])) [0] (by decide) rfl
    have hK9 := hK.sub (tys' := [(cA, .long)]) [0] rfl
    exact W.iret (v := 1) hx hb hr (fun t ht hW => ⟨⟨1, (f), rfl, (Or.inl (⟨rfl, hE⟩)), ⟨by rw [ht]; exact hP9, va_K.moved hW.alike hK9, hD9⟩⟩, hS.F ht⟩) hS.2.2 dL_plates_14 hlocks
  · have hP : va_P D vwCl ([(ad 46, .inl (cA, 1, .inr (.inl f)))]) H := hP
    have hD : va_D A ([(ad 46, .inl (cA, 1, .inr (.inl f)))]) := hD
    obtain ⟨rfl, hn⟩ : r_1 = 0 ∧ _ := hw
    refine W.widen (k := 1) (n := 6) (Nat.le_of_ble_eq_true rfl) (Nat.le_of_ble_eq_true rfl) ?_
    refine lv_i2l (v := 0) hx hb dL_plates_7 (by decide) ?_
    refine va_last hx hb hK hP hD hS 0 0 rfl rfl (by unfold vp_in; decide) dL_plates_8 (fun H locs hP hD hS => ?_)
    have hP : va_P D vwCl ([(ad 46, .inl (cA, 1, .inr (.inl (vp_updL f 0 0))))]) H := hP
    have hD : va_D A ([(ad 46, .inl (cA, 1, .inr (.inl (vp_updL f 0 0))))]) := hD
    refine lv_goto (tgt := 18) hx hb dL_plates_9 (by decide) ?_
    refine lv_iconst (v := 0) hx hb dL_plates_18 (by decide) ?_
    refine W.widen (k := 1) (n := 6) (Nat.le_of_ble_eq_true rfl) (Nat.le_of_ble_eq_true rfl) ?_
    have hP9 := hP.sub (ws' := ([(ad 46, .inl (cA, 1, .inr (.inl (vp_updL f 0 0))))])) [0] rfl
    have hD9 := hD.sub (ws' := ([(ad 46, .inl (cA, 1, .inr (.inl (vp_updL f 0 0))))])) [0] (by decide) rfl
    have hK9 := hK.sub (tys' := [(cA, .long)]) [0] rfl
    exact W.iret (v := 0) hx hb hr (fun t ht hW => ⟨⟨0, (vp_updL f 0 0), rfl, (Or.inr (⟨rfl, rfl, hn⟩)), ⟨by rw [ht]; exact hP9, va_K.moved hW.alike hK9, hD9⟩⟩, hS.F ht⟩) hS.2.2 dL_plates_19 hlocks

set_option maxHeartbeats 4000000 in
set_option maxRecDepth 100000 in
theorem w_setGlue (l : Launch) (hst : l.stackTraces = false) (D : va_G) (de : Nat) (ad : Nat → Nat) (p0 : Int32) (cA : ClassId) (f : Nat → Int64) (sz : Nat) : Met l yL_setGlue wsL_setGlue ({ frames := 7, cells := 1, slots := 6, locals := 104 } : Room) (va_Pc [.ref (ad 0), .int p0, .ref (ad 46)] (PX de D ([(cA, .long)]) ([(ad 0, .inr (16, [.ref (ad 1), .ref (ad 2), .ref (ad 3), .ref (ad 4), .ref (ad 5), .ref (ad 6)])), (ad 1, .inr (5, [.ref (ad 7), .ref (ad 8), .ref (ad 9), .ref (ad 10), .ref (ad 11), .ref (ad 12), .int 0, .int 0, .int 0, .int 0, .int 200])), (ad 2, .inr (9, [.ref (ad 1), .ref (ad 13), .int 0])), (ad 3, .inr (13, [.ref (ad 14), .int 0])), (ad 4, .inr (10, [.ref (ad 1), .ref (ad 15), .ref (ad 16), .ref (ad 17), .ref (ad 18), .ref (ad 19), .ref (ad 20), .ref (ad 21), .ref (ad 22), .int 500, .int 700, .int 0, .int 0])), (ad 5, .inr (8, [.ref (ad 1), .ref (ad 23), .ref (ad 24), .ref (ad 25), .ref (ad 26), .ref (ad 27), .ref (ad 28), .int 10, .int 0])), (ad 46, .inl (cA, 1, .inr (.inl f)))]) sz)) (va_Qi (fun (r : Int32) (u : Nat → Int64) => (r = 1 ∧ inR p0 0 99 = 0) ∨ (r = 0 ∧ u 0 = 10 ∧ ¬ inR p0 0 99 = 0)) (fun u t => PW D ([(cA, .long)]) (va_A ([(ad 0, .inr (16, [.ref (ad 1), .ref (ad 2), .ref (ad 3), .ref (ad 4), .ref (ad 5), .ref (ad 6)])), (ad 1, .inr (5, [.ref (ad 7), .ref (ad 8), .ref (ad 9), .ref (ad 10), .ref (ad 11), .ref (ad 12), .int 0, .int 0, .int 0, .int 0, .int 200])), (ad 2, .inr (9, [.ref (ad 1), .ref (ad 13), .int 0])), (ad 3, .inr (13, [.ref (ad 14), .int 0])), (ad 4, .inr (10, [.ref (ad 1), .ref (ad 15), .ref (ad 16), .ref (ad 17), .ref (ad 18), .ref (ad 19), .ref (ad 20), .ref (ad 21), .ref (ad 22), .int 500, .int 700, .int 0, .int 0])), (ad 5, .inr (8, [.ref (ad 1), .ref (ad 23), .ref (ad 24), .ref (ad 25), .ref (ad 26), .ref (ad 27), .ref (ad 28), .int 10, .int 0])), (ad 46, .inl (cA, 1, .inr (.inl f)))]) sz) ([(ad 46, .inl (cA, 1, .inr (.inl u)))]) t) (va_A ([(ad 0, .inr (16, [.ref (ad 1), .ref (ad 2), .ref (ad 3), .ref (ad 4), .ref (ad 5), .ref (ad 6)])), (ad 1, .inr (5, [.ref (ad 7), .ref (ad 8), .ref (ad 9), .ref (ad 10), .ref (ad 11), .ref (ad 12), .int 0, .int 0, .int 0, .int 0, .int 200])), (ad 2, .inr (9, [.ref (ad 1), .ref (ad 13), .int 0])), (ad 3, .inr (13, [.ref (ad 14), .int 0])), (ad 4, .inr (10, [.ref (ad 1), .ref (ad 15), .ref (ad 16), .ref (ad 17), .ref (ad 18), .ref (ad 19), .ref (ad 20), .ref (ad 21), .ref (ad 22), .int 500, .int 700, .int 0, .int 0])), (ad 5, .inr (8, [.ref (ad 1), .ref (ad 23), .ref (ad 24), .ref (ad 25), .ref (ad 26), .ref (ad 27), .ref (ad 28), .int 10, .int 0])), (ad 46, .inl (cA, 1, .inr (.inl f)))]) sz)) 1 6 (va_A ([(ad 0, .inr (16, [.ref (ad 1), .ref (ad 2), .ref (ad 3), .ref (ad 4), .ref (ad 5), .ref (ad 6)])), (ad 1, .inr (5, [.ref (ad 7), .ref (ad 8), .ref (ad 9), .ref (ad 10), .ref (ad 11), .ref (ad 12), .int 0, .int 0, .int 0, .int 0, .int 200])), (ad 2, .inr (9, [.ref (ad 1), .ref (ad 13), .int 0])), (ad 3, .inr (13, [.ref (ad 14), .int 0])), (ad 4, .inr (10, [.ref (ad 1), .ref (ad 15), .ref (ad 16), .ref (ad 17), .ref (ad 18), .ref (ad 19), .ref (ad 20), .ref (ad 21), .ref (ad 22), .int 500, .int 700, .int 0, .int 0])), (ad 5, .inr (8, [.ref (ad 1), .ref (ad 23), .ref (ad 24), .ref (ad 25), .ref (ad 26), .ref (ad 27), .ref (ad 28), .int 10, .int 0])), (ad 46, .inl (cA, 1, .inr (.inl f)))]) sz) := by
  refine va_MetW (cc := cL_setGlue) (maxL := 4) (ret := (some .int)) (by decide) rfl ?_
  intro p e s m args below meth c s₁ B hml hv
  obtain ⟨rfl, hsz, hP, hK, hD0, hTK, hZ⟩ := hv
  have hx := B.exec
  have hb := B.bytes
  have hr := B.returns
  have hts := atoms_spec (ws := wsL_setGlue) B.pre
  have hown : s.vm.findClass RL = some m.cls := findClass_of_methodNamed B.named
  have hlocks := B.notSynchronized
  have htab := vx_table (x := yL_setGlue) B (hts _ List.mem_cons_self)
  subst hsz
  have hD := hD0.self (sz := s.heap.size)
  generalize hAe : va_A ([(ad 0, .inr (16, [.ref (ad 1), .ref (ad 2), .ref (ad 3), .ref (ad 4), .ref (ad 5), .ref (ad 6)])), (ad 1, .inr (5, [.ref (ad 7), .ref (ad 8), .ref (ad 9), .ref (ad 10), .ref (ad 11), .ref (ad 12), .int 0, .int 0, .int 0, .int 0, .int 200])), (ad 2, .inr (9, [.ref (ad 1), .ref (ad 13), .int 0])), (ad 3, .inr (13, [.ref (ad 14), .int 0])), (ad 4, .inr (10, [.ref (ad 1), .ref (ad 15), .ref (ad 16), .ref (ad 17), .ref (ad 18), .ref (ad 19), .ref (ad 20), .ref (ad 21), .ref (ad 22), .int 500, .int 700, .int 0, .int 0])), (ad 5, .inr (8, [.ref (ad 1), .ref (ad 23), .ref (ad 24), .ref (ad 25), .ref (ad 26), .ref (ad 27), .ref (ad 28), .int 10, .int 0])), (ad 46, .inl (cA, 1, .inr (.inl f)))]) s.heap.size = A at hD hZ ⊢
  have hA : ∀ q : Nat, s.heap.size ≤ q → A q := fun q h => by rw [← hAe]; exact Or.inr h
  have hS : va_S A s.heap s.heap [] := va_S.rf
  have hP : va_P D vwCl ([(ad 0, .inr (16, [.ref (ad 1), .ref (ad 2), .ref (ad 3), .ref (ad 4), .ref (ad 5), .ref (ad 6)])), (ad 1, .inr (5, [.ref (ad 7), .ref (ad 8), .ref (ad 9), .ref (ad 10), .ref (ad 11), .ref (ad 12), .int 0, .int 0, .int 0, .int 0, .int 200])), (ad 2, .inr (9, [.ref (ad 1), .ref (ad 13), .int 0])), (ad 3, .inr (13, [.ref (ad 14), .int 0])), (ad 4, .inr (10, [.ref (ad 1), .ref (ad 15), .ref (ad 16), .ref (ad 17), .ref (ad 18), .ref (ad 19), .ref (ad 20), .ref (ad 21), .ref (ad 22), .int 500, .int 700, .int 0, .int 0])), (ad 5, .inr (8, [.ref (ad 1), .ref (ad 23), .ref (ad 24), .ref (ad 25), .ref (ad 26), .ref (ad 27), .ref (ad 28), .int 10, .int 0])), (ad 46, .inl (cA, 1, .inr (.inl f)))]) s.heap := hP
  have hD : va_D A ([(ad 0, .inr (16, [.ref (ad 1), .ref (ad 2), .ref (ad 3), .ref (ad 4), .ref (ad 5), .ref (ad 6)])), (ad 1, .inr (5, [.ref (ad 7), .ref (ad 8), .ref (ad 9), .ref (ad 10), .ref (ad 11), .ref (ad 12), .int 0, .int 0, .int 0, .int 0, .int 200])), (ad 2, .inr (9, [.ref (ad 1), .ref (ad 13), .int 0])), (ad 3, .inr (13, [.ref (ad 14), .int 0])), (ad 4, .inr (10, [.ref (ad 1), .ref (ad 15), .ref (ad 16), .ref (ad 17), .ref (ad 18), .ref (ad 19), .ref (ad 20), .ref (ad 21), .ref (ad 22), .int 500, .int 700, .int 0, .int 0])), (ad 5, .inr (8, [.ref (ad 1), .ref (ad 23), .ref (ad 24), .ref (ad 25), .ref (ad 26), .ref (ad 27), .ref (ad 28), .int 10, .int 0])), (ad 46, .inl (cA, 1, .inr (.inl f)))]) := hD
  have hl := lv_entry ([.ref (ad 0), .int p0, .ref (ad 46)]) (n := 4) (Nat.le_of_ble_eq_true rfl)
  rw [lg_entry_eq]
  generalize (lg_sl ([.ref (ad 0), .int p0, .ref (ad 46)]) ++ List.replicate (4 - (lg_sl ([.ref (ad 0), .int p0, .ref (ad 46)])).length) Slot.unset).toArray = ls at hl ⊢
  have hl : lv_has ls 4 [(0, .ref (ad 0)), (1, .int p0), (2, .ref (ad 46))] := hl
  refine lv_aload_n hx hb dL_setGlue_0 rfl (lv_at hl 2 rfl) ?_
  refine lv_iconst (v := 0) hx hb dL_setGlue_1 (by decide) ?_
  refine lv_aload_n hx hb dL_setGlue_2 rfl (lv_at hl 0 rfl) ?_
  refine lv_iload_n hx hb dL_setGlue_3 rfl (lv_at hl 1 rfl) ?_
  refine kt_i (wc := wX ad) (wr := [(ad 46, .inl (cA, 1, .inr (.inl f)))]) hP hD hS hA [0, 1, 2, 3, 4, 5] [6] rfl rfl (by decide) (by decide) (vx_runV (As := [.int p0]) (rest := [.int 0, .ref (ad 46)]) ⟨hx, hb, hml, hown, hts⟩ (f_setGlue l hst D de ad p0 s.heap.size) (cwV 1 hts gL_setGlue_X11_setGlue rfl rfl rfl (by decide +kernel) ⟨Nat.le_of_ble_eq_true rfl, Nat.le_of_ble_eq_true rfl⟩) ⟨px_blind, (va_recv hK hP (ci := 16) (q0 := 0) rfl rfl), (px_pre hP hD hK hS hA hTK hZ [0, 1, 2, 3, 4, 5] rfl rfl (by decide) [] rfl)⟩ rfl rfl hl.1 rfl (lv_room (Nat.le_of_ble_eq_true rfl)) dL_setGlue_4 ⟨(Nat.le_of_ble_eq_true rfl), (Nat.le_of_ble_eq_true rfl)⟩) (fun E q9 H locs hE hq hP hD hS => ?_) (fun r_1 u H locs hw hP hD hK1 hS => ?_)
  · obtain ⟨rfl, hE⟩ := hE
    obtain ⟨ce9, hq1, hq2, hq3⟩ := hq
    refine vx_catch (own := RL) (name := "java/lang/IllegalArgumentException") hown [] (⟨0, 9, 12, 13⟩ : ExceptionTableEntry) [] htab (fun _ h9 => absurd h9 List.not_mem_nil) (by decide) (by decide) (va_Nw.use rfl (hTK.2.2.2.2.2.2.2.2.2.2.1 (RL, 13, "java/lang/IllegalArgumentException") (by decide +kernel))) (va_Nw.use rfl (hTK.1 "java/lang/IllegalArgumentException" (by decide +kernel))) hq1 hq2 hq3 ?_
    refine W.eq (g2 := F0 m 12 ls [.ref q9]) rfl ?_
    refine lv_astore_n (lv' := [(3, .ref q9), (0, .ref (ad 0)), (1, .int p0), (2, .ref (ad 46))]) hx hb dL_setGlue_12 rfl hl (by decide) rfl (fun ls hl => ?_)
    refine lv_iconst (v := 1) hx hb dL_setGlue_13 (by decide) ?_
    refine W.widen (k := 1) (n := 6) (Nat.le_of_ble_eq_true rfl) (Nat.le_of_ble_eq_true rfl) ?_
    have hP9 := hP.sub (ws' := ([(ad 46, .inl (cA, 1, .inr (.inl f)))])) [0] rfl
    have hD9 := hD.sub (ws' := ([(ad 46, .inl (cA, 1, .inr (.inl f)))])) [0] (by decide) rfl
    have hK9 := hK.sub (tys' := [(cA, .long)]) [0] rfl
    exact W.iret (v := 1) hx hb hr (fun t ht hW => ⟨⟨1, (f), rfl, (Or.inl (⟨rfl, hE⟩)), ⟨by rw [ht]; exact hP9, va_K.moved hW.alike hK9, hD9⟩⟩, hS.F ht⟩) hS.2.2 dL_setGlue_14 hlocks
  · have hP : va_P D vwCl ([(ad 46, .inl (cA, 1, .inr (.inl f)))]) H := hP
    have hD : va_D A ([(ad 46, .inl (cA, 1, .inr (.inl f)))]) := hD
    obtain ⟨rfl, hn⟩ : r_1 = 10 ∧ _ := hw
    refine W.widen (k := 1) (n := 6) (Nat.le_of_ble_eq_true rfl) (Nat.le_of_ble_eq_true rfl) ?_
    refine lv_i2l (v := 10) hx hb dL_setGlue_7 (by decide) ?_
    refine va_last hx hb hK hP hD hS 0 0 rfl rfl (by unfold vp_in; decide) dL_setGlue_8 (fun H locs hP hD hS => ?_)
    have hP : va_P D vwCl ([(ad 46, .inl (cA, 1, .inr (.inl (vp_updL f 0 10))))]) H := hP
    have hD : va_D A ([(ad 46, .inl (cA, 1, .inr (.inl (vp_updL f 0 10))))]) := hD
    refine lv_goto (tgt := 15) hx hb dL_setGlue_9 (by decide) ?_
    refine lv_iconst (v := 0) hx hb dL_setGlue_15 (by decide) ?_
    refine W.widen (k := 1) (n := 6) (Nat.le_of_ble_eq_true rfl) (Nat.le_of_ble_eq_true rfl) ?_
    have hP9 := hP.sub (ws' := ([(ad 46, .inl (cA, 1, .inr (.inl (vp_updL f 0 10))))])) [0] rfl
    have hD9 := hD.sub (ws' := ([(ad 46, .inl (cA, 1, .inr (.inl (vp_updL f 0 10))))])) [0] (by decide) rfl
    have hK9 := hK.sub (tys' := [(cA, .long)]) [0] rfl
    exact W.iret (v := 0) hx hb hr (fun t ht hW => ⟨⟨0, (vp_updL f 0 10), rfl, (Or.inr (⟨rfl, rfl, hn⟩)), ⟨by rw [ht]; exact hP9, va_K.moved hW.alike hK9, hD9⟩⟩, hS.F ht⟩) hS.2.2 dL_setGlue_16 hlocks

set_option maxHeartbeats 4000000 in
set_option maxRecDepth 100000 in
theorem w_balance (l : Launch) (hst : l.stackTraces = false) (D : va_G) (de : Nat) (ad : Nat → Nat) (p0 : Int32) (cA : ClassId) (f : Nat → Int64) (sz : Nat) : Met l yL_balance wsL_balance ({ frames := 8, cells := 1, slots := 6, locals := 124 } : Room) (va_Pc [.ref (ad 0), .int p0, .ref (ad 46)] (PX de D ([(cA, .long)]) ([(ad 0, .inr (16, [.ref (ad 1), .ref (ad 2), .ref (ad 3), .ref (ad 4), .ref (ad 5), .ref (ad 6)])), (ad 1, .inr (5, [.ref (ad 7), .ref (ad 8), .ref (ad 9), .ref (ad 10), .ref (ad 11), .ref (ad 12), .int 0, .int 0, .int 0, .int 0, .int 200])), (ad 2, .inr (9, [.ref (ad 1), .ref (ad 13), .int 0])), (ad 3, .inr (13, [.ref (ad 14), .int 0])), (ad 4, .inr (10, [.ref (ad 1), .ref (ad 15), .ref (ad 16), .ref (ad 17), .ref (ad 18), .ref (ad 19), .ref (ad 20), .ref (ad 21), .ref (ad 22), .int 500, .int 700, .int 0, .int 0])), (ad 5, .inr (8, [.ref (ad 1), .ref (ad 23), .ref (ad 24), .ref (ad 25), .ref (ad 26), .ref (ad 27), .ref (ad 28), .int 10, .int 0])), (ad 46, .inl (cA, 1, .inr (.inl f)))]) sz)) (va_Qi (fun (r : Int32) (u : Nat → Int64) => (r = 1 ∧ inR p0 1 9 = 0) ∨ (r = 0 ∧ u 0 = 0 ∧ ¬ inR p0 1 9 = 0)) (fun u t => PW D ([(cA, .long)]) (va_A ([(ad 0, .inr (16, [.ref (ad 1), .ref (ad 2), .ref (ad 3), .ref (ad 4), .ref (ad 5), .ref (ad 6)])), (ad 1, .inr (5, [.ref (ad 7), .ref (ad 8), .ref (ad 9), .ref (ad 10), .ref (ad 11), .ref (ad 12), .int 0, .int 0, .int 0, .int 0, .int 200])), (ad 2, .inr (9, [.ref (ad 1), .ref (ad 13), .int 0])), (ad 3, .inr (13, [.ref (ad 14), .int 0])), (ad 4, .inr (10, [.ref (ad 1), .ref (ad 15), .ref (ad 16), .ref (ad 17), .ref (ad 18), .ref (ad 19), .ref (ad 20), .ref (ad 21), .ref (ad 22), .int 500, .int 700, .int 0, .int 0])), (ad 5, .inr (8, [.ref (ad 1), .ref (ad 23), .ref (ad 24), .ref (ad 25), .ref (ad 26), .ref (ad 27), .ref (ad 28), .int 10, .int 0])), (ad 46, .inl (cA, 1, .inr (.inl f)))]) sz) ([(ad 46, .inl (cA, 1, .inr (.inl u)))]) t) (va_A ([(ad 0, .inr (16, [.ref (ad 1), .ref (ad 2), .ref (ad 3), .ref (ad 4), .ref (ad 5), .ref (ad 6)])), (ad 1, .inr (5, [.ref (ad 7), .ref (ad 8), .ref (ad 9), .ref (ad 10), .ref (ad 11), .ref (ad 12), .int 0, .int 0, .int 0, .int 0, .int 200])), (ad 2, .inr (9, [.ref (ad 1), .ref (ad 13), .int 0])), (ad 3, .inr (13, [.ref (ad 14), .int 0])), (ad 4, .inr (10, [.ref (ad 1), .ref (ad 15), .ref (ad 16), .ref (ad 17), .ref (ad 18), .ref (ad 19), .ref (ad 20), .ref (ad 21), .ref (ad 22), .int 500, .int 700, .int 0, .int 0])), (ad 5, .inr (8, [.ref (ad 1), .ref (ad 23), .ref (ad 24), .ref (ad 25), .ref (ad 26), .ref (ad 27), .ref (ad 28), .int 10, .int 0])), (ad 46, .inl (cA, 1, .inr (.inl f)))]) sz)) 1 6 (va_A ([(ad 0, .inr (16, [.ref (ad 1), .ref (ad 2), .ref (ad 3), .ref (ad 4), .ref (ad 5), .ref (ad 6)])), (ad 1, .inr (5, [.ref (ad 7), .ref (ad 8), .ref (ad 9), .ref (ad 10), .ref (ad 11), .ref (ad 12), .int 0, .int 0, .int 0, .int 0, .int 200])), (ad 2, .inr (9, [.ref (ad 1), .ref (ad 13), .int 0])), (ad 3, .inr (13, [.ref (ad 14), .int 0])), (ad 4, .inr (10, [.ref (ad 1), .ref (ad 15), .ref (ad 16), .ref (ad 17), .ref (ad 18), .ref (ad 19), .ref (ad 20), .ref (ad 21), .ref (ad 22), .int 500, .int 700, .int 0, .int 0])), (ad 5, .inr (8, [.ref (ad 1), .ref (ad 23), .ref (ad 24), .ref (ad 25), .ref (ad 26), .ref (ad 27), .ref (ad 28), .int 10, .int 0])), (ad 46, .inl (cA, 1, .inr (.inl f)))]) sz) := by
  refine va_MetW (cc := cL_balance) (maxL := 4) (ret := (some .int)) (by decide) rfl ?_
  intro p e s m args below meth c s₁ B hml hv
  obtain ⟨rfl, hsz, hP, hK, hD0, hTK, hZ⟩ := hv
  have hx := B.exec
  have hb := B.bytes
  have hr := B.returns
  have hts := atoms_spec (ws := wsL_balance) B.pre
  have hown : s.vm.findClass RL = some m.cls := findClass_of_methodNamed B.named
  have hlocks := B.notSynchronized
  have htab := vx_table (x := yL_balance) B (hts _ List.mem_cons_self)
  subst hsz
  have hD := hD0.self (sz := s.heap.size)
  generalize hAe : va_A ([(ad 0, .inr (16, [.ref (ad 1), .ref (ad 2), .ref (ad 3), .ref (ad 4), .ref (ad 5), .ref (ad 6)])), (ad 1, .inr (5, [.ref (ad 7), .ref (ad 8), .ref (ad 9), .ref (ad 10), .ref (ad 11), .ref (ad 12), .int 0, .int 0, .int 0, .int 0, .int 200])), (ad 2, .inr (9, [.ref (ad 1), .ref (ad 13), .int 0])), (ad 3, .inr (13, [.ref (ad 14), .int 0])), (ad 4, .inr (10, [.ref (ad 1), .ref (ad 15), .ref (ad 16), .ref (ad 17), .ref (ad 18), .ref (ad 19), .ref (ad 20), .ref (ad 21), .ref (ad 22), .int 500, .int 700, .int 0, .int 0])), (ad 5, .inr (8, [.ref (ad 1), .ref (ad 23), .ref (ad 24), .ref (ad 25), .ref (ad 26), .ref (ad 27), .ref (ad 28), .int 10, .int 0])), (ad 46, .inl (cA, 1, .inr (.inl f)))]) s.heap.size = A at hD hZ ⊢
  have hA : ∀ q : Nat, s.heap.size ≤ q → A q := fun q h => by rw [← hAe]; exact Or.inr h
  have hS : va_S A s.heap s.heap [] := va_S.rf
  have hP : va_P D vwCl ([(ad 0, .inr (16, [.ref (ad 1), .ref (ad 2), .ref (ad 3), .ref (ad 4), .ref (ad 5), .ref (ad 6)])), (ad 1, .inr (5, [.ref (ad 7), .ref (ad 8), .ref (ad 9), .ref (ad 10), .ref (ad 11), .ref (ad 12), .int 0, .int 0, .int 0, .int 0, .int 200])), (ad 2, .inr (9, [.ref (ad 1), .ref (ad 13), .int 0])), (ad 3, .inr (13, [.ref (ad 14), .int 0])), (ad 4, .inr (10, [.ref (ad 1), .ref (ad 15), .ref (ad 16), .ref (ad 17), .ref (ad 18), .ref (ad 19), .ref (ad 20), .ref (ad 21), .ref (ad 22), .int 500, .int 700, .int 0, .int 0])), (ad 5, .inr (8, [.ref (ad 1), .ref (ad 23), .ref (ad 24), .ref (ad 25), .ref (ad 26), .ref (ad 27), .ref (ad 28), .int 10, .int 0])), (ad 46, .inl (cA, 1, .inr (.inl f)))]) s.heap := hP
  have hD : va_D A ([(ad 0, .inr (16, [.ref (ad 1), .ref (ad 2), .ref (ad 3), .ref (ad 4), .ref (ad 5), .ref (ad 6)])), (ad 1, .inr (5, [.ref (ad 7), .ref (ad 8), .ref (ad 9), .ref (ad 10), .ref (ad 11), .ref (ad 12), .int 0, .int 0, .int 0, .int 0, .int 200])), (ad 2, .inr (9, [.ref (ad 1), .ref (ad 13), .int 0])), (ad 3, .inr (13, [.ref (ad 14), .int 0])), (ad 4, .inr (10, [.ref (ad 1), .ref (ad 15), .ref (ad 16), .ref (ad 17), .ref (ad 18), .ref (ad 19), .ref (ad 20), .ref (ad 21), .ref (ad 22), .int 500, .int 700, .int 0, .int 0])), (ad 5, .inr (8, [.ref (ad 1), .ref (ad 23), .ref (ad 24), .ref (ad 25), .ref (ad 26), .ref (ad 27), .ref (ad 28), .int 10, .int 0])), (ad 46, .inl (cA, 1, .inr (.inl f)))]) := hD
  have hl := lv_entry ([.ref (ad 0), .int p0, .ref (ad 46)]) (n := 4) (Nat.le_of_ble_eq_true rfl)
  rw [lg_entry_eq]
  generalize (lg_sl ([.ref (ad 0), .int p0, .ref (ad 46)]) ++ List.replicate (4 - (lg_sl ([.ref (ad 0), .int p0, .ref (ad 46)])).length) Slot.unset).toArray = ls at hl ⊢
  have hl : lv_has ls 4 [(0, .ref (ad 0)), (1, .int p0), (2, .ref (ad 46))] := hl
  refine lv_aload_n hx hb dL_balance_0 rfl (lv_at hl 2 rfl) ?_
  refine lv_iconst (v := 0) hx hb dL_balance_1 (by decide) ?_
  refine lv_aload_n hx hb dL_balance_2 rfl (lv_at hl 0 rfl) ?_
  refine lv_iload_n hx hb dL_balance_3 rfl (lv_at hl 1 rfl) ?_
  refine kt_i (wc := wX ad) (wr := [(ad 46, .inl (cA, 1, .inr (.inl f)))]) hP hD hS hA [0, 1, 2, 3, 4, 5] [6] rfl rfl (by decide) (by decide) (vx_runV (As := [.int p0]) (rest := [.int 0, .ref (ad 46)]) ⟨hx, hb, hml, hown, hts⟩ (f_balance l hst D de ad p0 s.heap.size) (cwV 1 hts gL_balance_X11_balance rfl rfl rfl (by decide +kernel) ⟨Nat.le_of_ble_eq_true rfl, Nat.le_of_ble_eq_true rfl⟩) ⟨px_blind, (va_recv hK hP (ci := 16) (q0 := 0) rfl rfl), (px_pre hP hD hK hS hA hTK hZ [0, 1, 2, 3, 4, 5] rfl rfl (by decide) [] rfl)⟩ rfl rfl hl.1 rfl (lv_room (Nat.le_of_ble_eq_true rfl)) dL_balance_4 ⟨(Nat.le_of_ble_eq_true rfl), (Nat.le_of_ble_eq_true rfl)⟩) (fun E q9 H locs hE hq hP hD hS => ?_) (fun r_1 u H locs hw hP hD hK1 hS => ?_)
  · obtain ⟨rfl, hE⟩ := hE
    obtain ⟨ce9, hq1, hq2, hq3⟩ := hq
    refine vx_catch (own := RL) (name := "java/lang/IllegalArgumentException") hown [] (⟨0, 9, 12, 13⟩ : ExceptionTableEntry) [] htab (fun _ h9 => absurd h9 List.not_mem_nil) (by decide) (by decide) (va_Nw.use rfl (hTK.2.2.2.2.2.2.2.2.2.2.1 (RL, 13, "java/lang/IllegalArgumentException") (by decide +kernel))) (va_Nw.use rfl (hTK.1 "java/lang/IllegalArgumentException" (by decide +kernel))) hq1 hq2 hq3 ?_
    refine W.eq (g2 := F0 m 12 ls [.ref q9]) rfl ?_
    refine lv_astore_n (lv' := [(3, .ref q9), (0, .ref (ad 0)), (1, .int p0), (2, .ref (ad 46))]) hx hb dL_balance_12 rfl hl (by decide) rfl (fun ls hl => ?_)
    refine lv_iconst (v := 1) hx hb dL_balance_13 (by decide) ?_
    refine W.widen (k := 1) (n := 6) (Nat.le_of_ble_eq_true rfl) (Nat.le_of_ble_eq_true rfl) ?_
    have hP9 := hP.sub (ws' := ([(ad 46, .inl (cA, 1, .inr (.inl f)))])) [0] rfl
    have hD9 := hD.sub (ws' := ([(ad 46, .inl (cA, 1, .inr (.inl f)))])) [0] (by decide) rfl
    have hK9 := hK.sub (tys' := [(cA, .long)]) [0] rfl
    exact W.iret (v := 1) hx hb hr (fun t ht hW => ⟨⟨1, (f), rfl, (Or.inl (⟨rfl, hE⟩)), ⟨by rw [ht]; exact hP9, va_K.moved hW.alike hK9, hD9⟩⟩, hS.F ht⟩) hS.2.2 dL_balance_14 hlocks
  · have hP : va_P D vwCl ([(ad 46, .inl (cA, 1, .inr (.inl f)))]) H := hP
    have hD : va_D A ([(ad 46, .inl (cA, 1, .inr (.inl f)))]) := hD
    obtain ⟨rfl, hn⟩ : r_1 = 0 ∧ _ := hw
    refine W.widen (k := 1) (n := 6) (Nat.le_of_ble_eq_true rfl) (Nat.le_of_ble_eq_true rfl) ?_
    refine lv_i2l (v := 0) hx hb dL_balance_7 (by decide) ?_
    refine va_last hx hb hK hP hD hS 0 0 rfl rfl (by unfold vp_in; decide) dL_balance_8 (fun H locs hP hD hS => ?_)
    have hP : va_P D vwCl ([(ad 46, .inl (cA, 1, .inr (.inl (vp_updL f 0 0))))]) H := hP
    have hD : va_D A ([(ad 46, .inl (cA, 1, .inr (.inl (vp_updL f 0 0))))]) := hD
    refine lv_goto (tgt := 15) hx hb dL_balance_9 (by decide) ?_
    refine lv_iconst (v := 0) hx hb dL_balance_15 (by decide) ?_
    refine W.widen (k := 1) (n := 6) (Nat.le_of_ble_eq_true rfl) (Nat.le_of_ble_eq_true rfl) ?_
    have hP9 := hP.sub (ws' := ([(ad 46, .inl (cA, 1, .inr (.inl (vp_updL f 0 0))))])) [0] rfl
    have hD9 := hD.sub (ws' := ([(ad 46, .inl (cA, 1, .inr (.inl (vp_updL f 0 0))))])) [0] (by decide) rfl
    have hK9 := hK.sub (tys' := [(cA, .long)]) [0] rfl
    exact W.iret (v := 0) hx hb hr (fun t ht hW => ⟨⟨0, (vp_updL f 0 0), rfl, (Or.inr (⟨rfl, rfl, hn⟩)), ⟨by rw [ht]; exact hP9, va_K.moved hW.alike hK9, hD9⟩⟩, hS.F ht⟩) hS.2.2 dL_balance_16 hlocks

set_option maxHeartbeats 4000000 in
set_option maxRecDepth 100000 in
theorem w_setPaper (l : Launch) (hst : l.stackTraces = false) (D : va_G) (de : Nat) (ad : Nat → Nat) (p0 : Int32) (cA : ClassId) (f : Nat → Int64) (sz : Nat) : Met l yL_setPaper wsL_setPaper ({ frames := 7, cells := 1, slots := 6, locals := 104 } : Room) (va_Pc [.ref (ad 0), .int p0, .ref (ad 46)] (PX de D ([(cA, .long)]) ([(ad 0, .inr (16, [.ref (ad 1), .ref (ad 2), .ref (ad 3), .ref (ad 4), .ref (ad 5), .ref (ad 6)])), (ad 1, .inr (5, [.ref (ad 7), .ref (ad 8), .ref (ad 9), .ref (ad 10), .ref (ad 11), .ref (ad 12), .int 0, .int 0, .int 0, .int 0, .int 200])), (ad 2, .inr (9, [.ref (ad 1), .ref (ad 13), .int 0])), (ad 3, .inr (13, [.ref (ad 14), .int 0])), (ad 4, .inr (10, [.ref (ad 1), .ref (ad 15), .ref (ad 16), .ref (ad 17), .ref (ad 18), .ref (ad 19), .ref (ad 20), .ref (ad 21), .ref (ad 22), .int 500, .int 700, .int 0, .int 0])), (ad 5, .inr (8, [.ref (ad 1), .ref (ad 23), .ref (ad 24), .ref (ad 25), .ref (ad 26), .ref (ad 27), .ref (ad 28), .int 10, .int 0])), (ad 46, .inl (cA, 1, .inr (.inl f)))]) sz)) (va_Qi (fun (r : Int32) (u : Nat → Int64) => (r = 1 ∧ inR p0 100 400 = 0) ∨ (r = 0 ∧ u 0 = 200 ∧ ¬ inR p0 100 400 = 0)) (fun u t => PW D ([(cA, .long)]) (va_A ([(ad 0, .inr (16, [.ref (ad 1), .ref (ad 2), .ref (ad 3), .ref (ad 4), .ref (ad 5), .ref (ad 6)])), (ad 1, .inr (5, [.ref (ad 7), .ref (ad 8), .ref (ad 9), .ref (ad 10), .ref (ad 11), .ref (ad 12), .int 0, .int 0, .int 0, .int 0, .int 200])), (ad 2, .inr (9, [.ref (ad 1), .ref (ad 13), .int 0])), (ad 3, .inr (13, [.ref (ad 14), .int 0])), (ad 4, .inr (10, [.ref (ad 1), .ref (ad 15), .ref (ad 16), .ref (ad 17), .ref (ad 18), .ref (ad 19), .ref (ad 20), .ref (ad 21), .ref (ad 22), .int 500, .int 700, .int 0, .int 0])), (ad 5, .inr (8, [.ref (ad 1), .ref (ad 23), .ref (ad 24), .ref (ad 25), .ref (ad 26), .ref (ad 27), .ref (ad 28), .int 10, .int 0])), (ad 46, .inl (cA, 1, .inr (.inl f)))]) sz) ([(ad 46, .inl (cA, 1, .inr (.inl u)))]) t) (va_A ([(ad 0, .inr (16, [.ref (ad 1), .ref (ad 2), .ref (ad 3), .ref (ad 4), .ref (ad 5), .ref (ad 6)])), (ad 1, .inr (5, [.ref (ad 7), .ref (ad 8), .ref (ad 9), .ref (ad 10), .ref (ad 11), .ref (ad 12), .int 0, .int 0, .int 0, .int 0, .int 200])), (ad 2, .inr (9, [.ref (ad 1), .ref (ad 13), .int 0])), (ad 3, .inr (13, [.ref (ad 14), .int 0])), (ad 4, .inr (10, [.ref (ad 1), .ref (ad 15), .ref (ad 16), .ref (ad 17), .ref (ad 18), .ref (ad 19), .ref (ad 20), .ref (ad 21), .ref (ad 22), .int 500, .int 700, .int 0, .int 0])), (ad 5, .inr (8, [.ref (ad 1), .ref (ad 23), .ref (ad 24), .ref (ad 25), .ref (ad 26), .ref (ad 27), .ref (ad 28), .int 10, .int 0])), (ad 46, .inl (cA, 1, .inr (.inl f)))]) sz)) 1 6 (va_A ([(ad 0, .inr (16, [.ref (ad 1), .ref (ad 2), .ref (ad 3), .ref (ad 4), .ref (ad 5), .ref (ad 6)])), (ad 1, .inr (5, [.ref (ad 7), .ref (ad 8), .ref (ad 9), .ref (ad 10), .ref (ad 11), .ref (ad 12), .int 0, .int 0, .int 0, .int 0, .int 200])), (ad 2, .inr (9, [.ref (ad 1), .ref (ad 13), .int 0])), (ad 3, .inr (13, [.ref (ad 14), .int 0])), (ad 4, .inr (10, [.ref (ad 1), .ref (ad 15), .ref (ad 16), .ref (ad 17), .ref (ad 18), .ref (ad 19), .ref (ad 20), .ref (ad 21), .ref (ad 22), .int 500, .int 700, .int 0, .int 0])), (ad 5, .inr (8, [.ref (ad 1), .ref (ad 23), .ref (ad 24), .ref (ad 25), .ref (ad 26), .ref (ad 27), .ref (ad 28), .int 10, .int 0])), (ad 46, .inl (cA, 1, .inr (.inl f)))]) sz) := by
  refine va_MetW (cc := cL_setPaper) (maxL := 4) (ret := (some .int)) (by decide) rfl ?_
  intro p e s m args below meth c s₁ B hml hv
  obtain ⟨rfl, hsz, hP, hK, hD0, hTK, hZ⟩ := hv
  have hx := B.exec
  have hb := B.bytes
  have hr := B.returns
  have hts := atoms_spec (ws := wsL_setPaper) B.pre
  have hown : s.vm.findClass RL = some m.cls := findClass_of_methodNamed B.named
  have hlocks := B.notSynchronized
  have htab := vx_table (x := yL_setPaper) B (hts _ List.mem_cons_self)
  subst hsz
  have hD := hD0.self (sz := s.heap.size)
  generalize hAe : va_A ([(ad 0, .inr (16, [.ref (ad 1), .ref (ad 2), .ref (ad 3), .ref (ad 4), .ref (ad 5), .ref (ad 6)])), (ad 1, .inr (5, [.ref (ad 7), .ref (ad 8), .ref (ad 9), .ref (ad 10), .ref (ad 11), .ref (ad 12), .int 0, .int 0, .int 0, .int 0, .int 200])), (ad 2, .inr (9, [.ref (ad 1), .ref (ad 13), .int 0])), (ad 3, .inr (13, [.ref (ad 14), .int 0])), (ad 4, .inr (10, [.ref (ad 1), .ref (ad 15), .ref (ad 16), .ref (ad 17), .ref (ad 18), .ref (ad 19), .ref (ad 20), .ref (ad 21), .ref (ad 22), .int 500, .int 700, .int 0, .int 0])), (ad 5, .inr (8, [.ref (ad 1), .ref (ad 23), .ref (ad 24), .ref (ad 25), .ref (ad 26), .ref (ad 27), .ref (ad 28), .int 10, .int 0])), (ad 46, .inl (cA, 1, .inr (.inl f)))]) s.heap.size = A at hD hZ ⊢
  have hA : ∀ q : Nat, s.heap.size ≤ q → A q := fun q h => by rw [← hAe]; exact Or.inr h
  have hS : va_S A s.heap s.heap [] := va_S.rf
  have hP : va_P D vwCl ([(ad 0, .inr (16, [.ref (ad 1), .ref (ad 2), .ref (ad 3), .ref (ad 4), .ref (ad 5), .ref (ad 6)])), (ad 1, .inr (5, [.ref (ad 7), .ref (ad 8), .ref (ad 9), .ref (ad 10), .ref (ad 11), .ref (ad 12), .int 0, .int 0, .int 0, .int 0, .int 200])), (ad 2, .inr (9, [.ref (ad 1), .ref (ad 13), .int 0])), (ad 3, .inr (13, [.ref (ad 14), .int 0])), (ad 4, .inr (10, [.ref (ad 1), .ref (ad 15), .ref (ad 16), .ref (ad 17), .ref (ad 18), .ref (ad 19), .ref (ad 20), .ref (ad 21), .ref (ad 22), .int 500, .int 700, .int 0, .int 0])), (ad 5, .inr (8, [.ref (ad 1), .ref (ad 23), .ref (ad 24), .ref (ad 25), .ref (ad 26), .ref (ad 27), .ref (ad 28), .int 10, .int 0])), (ad 46, .inl (cA, 1, .inr (.inl f)))]) s.heap := hP
  have hD : va_D A ([(ad 0, .inr (16, [.ref (ad 1), .ref (ad 2), .ref (ad 3), .ref (ad 4), .ref (ad 5), .ref (ad 6)])), (ad 1, .inr (5, [.ref (ad 7), .ref (ad 8), .ref (ad 9), .ref (ad 10), .ref (ad 11), .ref (ad 12), .int 0, .int 0, .int 0, .int 0, .int 200])), (ad 2, .inr (9, [.ref (ad 1), .ref (ad 13), .int 0])), (ad 3, .inr (13, [.ref (ad 14), .int 0])), (ad 4, .inr (10, [.ref (ad 1), .ref (ad 15), .ref (ad 16), .ref (ad 17), .ref (ad 18), .ref (ad 19), .ref (ad 20), .ref (ad 21), .ref (ad 22), .int 500, .int 700, .int 0, .int 0])), (ad 5, .inr (8, [.ref (ad 1), .ref (ad 23), .ref (ad 24), .ref (ad 25), .ref (ad 26), .ref (ad 27), .ref (ad 28), .int 10, .int 0])), (ad 46, .inl (cA, 1, .inr (.inl f)))]) := hD
  have hl := lv_entry ([.ref (ad 0), .int p0, .ref (ad 46)]) (n := 4) (Nat.le_of_ble_eq_true rfl)
  rw [lg_entry_eq]
  generalize (lg_sl ([.ref (ad 0), .int p0, .ref (ad 46)]) ++ List.replicate (4 - (lg_sl ([.ref (ad 0), .int p0, .ref (ad 46)])).length) Slot.unset).toArray = ls at hl ⊢
  have hl : lv_has ls 4 [(0, .ref (ad 0)), (1, .int p0), (2, .ref (ad 46))] := hl
  refine lv_aload_n hx hb dL_setPaper_0 rfl (lv_at hl 2 rfl) ?_
  refine lv_iconst (v := 0) hx hb dL_setPaper_1 (by decide) ?_
  refine lv_aload_n hx hb dL_setPaper_2 rfl (lv_at hl 0 rfl) ?_
  refine lv_iload_n hx hb dL_setPaper_3 rfl (lv_at hl 1 rfl) ?_
  refine kt_i (wc := wX ad) (wr := [(ad 46, .inl (cA, 1, .inr (.inl f)))]) hP hD hS hA [0, 1, 2, 3, 4, 5] [6] rfl rfl (by decide) (by decide) (vx_runV (As := [.int p0]) (rest := [.int 0, .ref (ad 46)]) ⟨hx, hb, hml, hown, hts⟩ (f_setPaper l hst D de ad p0 s.heap.size) (cwV 1 hts gL_setPaper_X11_setPaper rfl rfl rfl (by decide +kernel) ⟨Nat.le_of_ble_eq_true rfl, Nat.le_of_ble_eq_true rfl⟩) ⟨px_blind, (va_recv hK hP (ci := 16) (q0 := 0) rfl rfl), (px_pre hP hD hK hS hA hTK hZ [0, 1, 2, 3, 4, 5] rfl rfl (by decide) [] rfl)⟩ rfl rfl hl.1 rfl (lv_room (Nat.le_of_ble_eq_true rfl)) dL_setPaper_4 ⟨(Nat.le_of_ble_eq_true rfl), (Nat.le_of_ble_eq_true rfl)⟩) (fun E q9 H locs hE hq hP hD hS => ?_) (fun r_1 u H locs hw hP hD hK1 hS => ?_)
  · obtain ⟨rfl, hE⟩ := hE
    obtain ⟨ce9, hq1, hq2, hq3⟩ := hq
    refine vx_catch (own := RL) (name := "java/lang/IllegalArgumentException") hown [] (⟨0, 9, 12, 13⟩ : ExceptionTableEntry) [] htab (fun _ h9 => absurd h9 List.not_mem_nil) (by decide) (by decide) (va_Nw.use rfl (hTK.2.2.2.2.2.2.2.2.2.2.1 (RL, 13, "java/lang/IllegalArgumentException") (by decide +kernel))) (va_Nw.use rfl (hTK.1 "java/lang/IllegalArgumentException" (by decide +kernel))) hq1 hq2 hq3 ?_
    refine W.eq (g2 := F0 m 12 ls [.ref q9]) rfl ?_
    refine lv_astore_n (lv' := [(3, .ref q9), (0, .ref (ad 0)), (1, .int p0), (2, .ref (ad 46))]) hx hb dL_setPaper_12 rfl hl (by decide) rfl (fun ls hl => ?_)
    refine lv_iconst (v := 1) hx hb dL_setPaper_13 (by decide) ?_
    refine W.widen (k := 1) (n := 6) (Nat.le_of_ble_eq_true rfl) (Nat.le_of_ble_eq_true rfl) ?_
    have hP9 := hP.sub (ws' := ([(ad 46, .inl (cA, 1, .inr (.inl f)))])) [0] rfl
    have hD9 := hD.sub (ws' := ([(ad 46, .inl (cA, 1, .inr (.inl f)))])) [0] (by decide) rfl
    have hK9 := hK.sub (tys' := [(cA, .long)]) [0] rfl
    exact W.iret (v := 1) hx hb hr (fun t ht hW => ⟨⟨1, (f), rfl, (Or.inl (⟨rfl, hE⟩)), ⟨by rw [ht]; exact hP9, va_K.moved hW.alike hK9, hD9⟩⟩, hS.F ht⟩) hS.2.2 dL_setPaper_14 hlocks
  · have hP : va_P D vwCl ([(ad 46, .inl (cA, 1, .inr (.inl f)))]) H := hP
    have hD : va_D A ([(ad 46, .inl (cA, 1, .inr (.inl f)))]) := hD
    obtain ⟨rfl, hn⟩ : r_1 = 200 ∧ _ := hw
    refine W.widen (k := 1) (n := 6) (Nat.le_of_ble_eq_true rfl) (Nat.le_of_ble_eq_true rfl) ?_
    refine lv_i2l (v := 200) hx hb dL_setPaper_7 (by decide) ?_
    refine va_last hx hb hK hP hD hS 0 0 rfl rfl (by unfold vp_in; decide) dL_setPaper_8 (fun H locs hP hD hS => ?_)
    have hP : va_P D vwCl ([(ad 46, .inl (cA, 1, .inr (.inl (vp_updL f 0 200))))]) H := hP
    have hD : va_D A ([(ad 46, .inl (cA, 1, .inr (.inl (vp_updL f 0 200))))]) := hD
    refine lv_goto (tgt := 15) hx hb dL_setPaper_9 (by decide) ?_
    refine lv_iconst (v := 0) hx hb dL_setPaper_15 (by decide) ?_
    refine W.widen (k := 1) (n := 6) (Nat.le_of_ble_eq_true rfl) (Nat.le_of_ble_eq_true rfl) ?_
    have hP9 := hP.sub (ws' := ([(ad 46, .inl (cA, 1, .inr (.inl (vp_updL f 0 200))))])) [0] rfl
    have hD9 := hD.sub (ws' := ([(ad 46, .inl (cA, 1, .inr (.inl (vp_updL f 0 200))))])) [0] (by decide) rfl
    have hK9 := hK.sub (tys' := [(cA, .long)]) [0] rfl
    exact W.iret (v := 0) hx hb hr (fun t ht hW => ⟨⟨0, (vp_updL f 0 200), rfl, (Or.inr (⟨rfl, rfl, hn⟩)), ⟨by rw [ht]; exact hP9, va_K.moved hW.alike hK9, hD9⟩⟩, hS.F ht⟩) hS.2.2 dL_setPaper_16 hlocks

set_option maxHeartbeats 4000000 in
set_option maxRecDepth 100000 in
theorem w_scene (l : Launch) (hst : l.stackTraces = false) (D : va_G) (de : Nat) (ad : Nat → Nat) (p0 : Int32) (cA : ClassId) (f : Nat → Int64) (sz : Nat) : Met l yL_scene wsL_scene ({ frames := 8, cells := 1, slots := 6, locals := 124 } : Room) (va_Pc [.ref (ad 0), .int p0, .ref (ad 46)] (PX de D ([(cA, .long)]) ([(ad 0, .inr (16, [.ref (ad 1), .ref (ad 2), .ref (ad 3), .ref (ad 4), .ref (ad 5), .ref (ad 6)])), (ad 1, .inr (5, [.ref (ad 7), .ref (ad 8), .ref (ad 9), .ref (ad 10), .ref (ad 11), .ref (ad 12), .int 0, .int 0, .int 0, .int 0, .int 200])), (ad 2, .inr (9, [.ref (ad 1), .ref (ad 13), .int 0])), (ad 3, .inr (13, [.ref (ad 14), .int 0])), (ad 4, .inr (10, [.ref (ad 1), .ref (ad 15), .ref (ad 16), .ref (ad 17), .ref (ad 18), .ref (ad 19), .ref (ad 20), .ref (ad 21), .ref (ad 22), .int 500, .int 700, .int 0, .int 0])), (ad 5, .inr (8, [.ref (ad 1), .ref (ad 23), .ref (ad 24), .ref (ad 25), .ref (ad 26), .ref (ad 27), .ref (ad 28), .int 10, .int 0])), (ad 46, .inl (cA, 1, .inr (.inl f)))]) sz)) (va_Qi (fun (r : Int32) (u : Nat → Int64) => (r = 1 ∧ inR p0 0 18 = 0) ∨ (r = 0 ∧ u 0 = 0 ∧ ¬ inR p0 0 18 = 0)) (fun u t => PW D ([(cA, .long)]) (va_A ([(ad 0, .inr (16, [.ref (ad 1), .ref (ad 2), .ref (ad 3), .ref (ad 4), .ref (ad 5), .ref (ad 6)])), (ad 1, .inr (5, [.ref (ad 7), .ref (ad 8), .ref (ad 9), .ref (ad 10), .ref (ad 11), .ref (ad 12), .int 0, .int 0, .int 0, .int 0, .int 200])), (ad 2, .inr (9, [.ref (ad 1), .ref (ad 13), .int 0])), (ad 3, .inr (13, [.ref (ad 14), .int 0])), (ad 4, .inr (10, [.ref (ad 1), .ref (ad 15), .ref (ad 16), .ref (ad 17), .ref (ad 18), .ref (ad 19), .ref (ad 20), .ref (ad 21), .ref (ad 22), .int 500, .int 700, .int 0, .int 0])), (ad 5, .inr (8, [.ref (ad 1), .ref (ad 23), .ref (ad 24), .ref (ad 25), .ref (ad 26), .ref (ad 27), .ref (ad 28), .int 10, .int 0])), (ad 46, .inl (cA, 1, .inr (.inl f)))]) sz) ([(ad 46, .inl (cA, 1, .inr (.inl u)))]) t) (va_A ([(ad 0, .inr (16, [.ref (ad 1), .ref (ad 2), .ref (ad 3), .ref (ad 4), .ref (ad 5), .ref (ad 6)])), (ad 1, .inr (5, [.ref (ad 7), .ref (ad 8), .ref (ad 9), .ref (ad 10), .ref (ad 11), .ref (ad 12), .int 0, .int 0, .int 0, .int 0, .int 200])), (ad 2, .inr (9, [.ref (ad 1), .ref (ad 13), .int 0])), (ad 3, .inr (13, [.ref (ad 14), .int 0])), (ad 4, .inr (10, [.ref (ad 1), .ref (ad 15), .ref (ad 16), .ref (ad 17), .ref (ad 18), .ref (ad 19), .ref (ad 20), .ref (ad 21), .ref (ad 22), .int 500, .int 700, .int 0, .int 0])), (ad 5, .inr (8, [.ref (ad 1), .ref (ad 23), .ref (ad 24), .ref (ad 25), .ref (ad 26), .ref (ad 27), .ref (ad 28), .int 10, .int 0])), (ad 46, .inl (cA, 1, .inr (.inl f)))]) sz)) 1 6 (va_A ([(ad 0, .inr (16, [.ref (ad 1), .ref (ad 2), .ref (ad 3), .ref (ad 4), .ref (ad 5), .ref (ad 6)])), (ad 1, .inr (5, [.ref (ad 7), .ref (ad 8), .ref (ad 9), .ref (ad 10), .ref (ad 11), .ref (ad 12), .int 0, .int 0, .int 0, .int 0, .int 200])), (ad 2, .inr (9, [.ref (ad 1), .ref (ad 13), .int 0])), (ad 3, .inr (13, [.ref (ad 14), .int 0])), (ad 4, .inr (10, [.ref (ad 1), .ref (ad 15), .ref (ad 16), .ref (ad 17), .ref (ad 18), .ref (ad 19), .ref (ad 20), .ref (ad 21), .ref (ad 22), .int 500, .int 700, .int 0, .int 0])), (ad 5, .inr (8, [.ref (ad 1), .ref (ad 23), .ref (ad 24), .ref (ad 25), .ref (ad 26), .ref (ad 27), .ref (ad 28), .int 10, .int 0])), (ad 46, .inl (cA, 1, .inr (.inl f)))]) sz) := by
  refine va_MetW (cc := cL_scene) (maxL := 4) (ret := (some .int)) (by decide) rfl ?_
  intro p e s m args below meth c s₁ B hml hv
  obtain ⟨rfl, hsz, hP, hK, hD0, hTK, hZ⟩ := hv
  have hx := B.exec
  have hb := B.bytes
  have hr := B.returns
  have hts := atoms_spec (ws := wsL_scene) B.pre
  have hown : s.vm.findClass RL = some m.cls := findClass_of_methodNamed B.named
  have hlocks := B.notSynchronized
  have htab := vx_table (x := yL_scene) B (hts _ List.mem_cons_self)
  subst hsz
  have hD := hD0.self (sz := s.heap.size)
  generalize hAe : va_A ([(ad 0, .inr (16, [.ref (ad 1), .ref (ad 2), .ref (ad 3), .ref (ad 4), .ref (ad 5), .ref (ad 6)])), (ad 1, .inr (5, [.ref (ad 7), .ref (ad 8), .ref (ad 9), .ref (ad 10), .ref (ad 11), .ref (ad 12), .int 0, .int 0, .int 0, .int 0, .int 200])), (ad 2, .inr (9, [.ref (ad 1), .ref (ad 13), .int 0])), (ad 3, .inr (13, [.ref (ad 14), .int 0])), (ad 4, .inr (10, [.ref (ad 1), .ref (ad 15), .ref (ad 16), .ref (ad 17), .ref (ad 18), .ref (ad 19), .ref (ad 20), .ref (ad 21), .ref (ad 22), .int 500, .int 700, .int 0, .int 0])), (ad 5, .inr (8, [.ref (ad 1), .ref (ad 23), .ref (ad 24), .ref (ad 25), .ref (ad 26), .ref (ad 27), .ref (ad 28), .int 10, .int 0])), (ad 46, .inl (cA, 1, .inr (.inl f)))]) s.heap.size = A at hD hZ ⊢
  have hA : ∀ q : Nat, s.heap.size ≤ q → A q := fun q h => by rw [← hAe]; exact Or.inr h
  have hS : va_S A s.heap s.heap [] := va_S.rf
  have hP : va_P D vwCl ([(ad 0, .inr (16, [.ref (ad 1), .ref (ad 2), .ref (ad 3), .ref (ad 4), .ref (ad 5), .ref (ad 6)])), (ad 1, .inr (5, [.ref (ad 7), .ref (ad 8), .ref (ad 9), .ref (ad 10), .ref (ad 11), .ref (ad 12), .int 0, .int 0, .int 0, .int 0, .int 200])), (ad 2, .inr (9, [.ref (ad 1), .ref (ad 13), .int 0])), (ad 3, .inr (13, [.ref (ad 14), .int 0])), (ad 4, .inr (10, [.ref (ad 1), .ref (ad 15), .ref (ad 16), .ref (ad 17), .ref (ad 18), .ref (ad 19), .ref (ad 20), .ref (ad 21), .ref (ad 22), .int 500, .int 700, .int 0, .int 0])), (ad 5, .inr (8, [.ref (ad 1), .ref (ad 23), .ref (ad 24), .ref (ad 25), .ref (ad 26), .ref (ad 27), .ref (ad 28), .int 10, .int 0])), (ad 46, .inl (cA, 1, .inr (.inl f)))]) s.heap := hP
  have hD : va_D A ([(ad 0, .inr (16, [.ref (ad 1), .ref (ad 2), .ref (ad 3), .ref (ad 4), .ref (ad 5), .ref (ad 6)])), (ad 1, .inr (5, [.ref (ad 7), .ref (ad 8), .ref (ad 9), .ref (ad 10), .ref (ad 11), .ref (ad 12), .int 0, .int 0, .int 0, .int 0, .int 200])), (ad 2, .inr (9, [.ref (ad 1), .ref (ad 13), .int 0])), (ad 3, .inr (13, [.ref (ad 14), .int 0])), (ad 4, .inr (10, [.ref (ad 1), .ref (ad 15), .ref (ad 16), .ref (ad 17), .ref (ad 18), .ref (ad 19), .ref (ad 20), .ref (ad 21), .ref (ad 22), .int 500, .int 700, .int 0, .int 0])), (ad 5, .inr (8, [.ref (ad 1), .ref (ad 23), .ref (ad 24), .ref (ad 25), .ref (ad 26), .ref (ad 27), .ref (ad 28), .int 10, .int 0])), (ad 46, .inl (cA, 1, .inr (.inl f)))]) := hD
  have hl := lv_entry ([.ref (ad 0), .int p0, .ref (ad 46)]) (n := 4) (Nat.le_of_ble_eq_true rfl)
  rw [lg_entry_eq]
  generalize (lg_sl ([.ref (ad 0), .int p0, .ref (ad 46)]) ++ List.replicate (4 - (lg_sl ([.ref (ad 0), .int p0, .ref (ad 46)])).length) Slot.unset).toArray = ls at hl ⊢
  have hl : lv_has ls 4 [(0, .ref (ad 0)), (1, .int p0), (2, .ref (ad 46))] := hl
  refine lv_aload_n hx hb dL_scene_0 rfl (lv_at hl 2 rfl) ?_
  refine lv_iconst (v := 0) hx hb dL_scene_1 (by decide) ?_
  refine lv_aload_n hx hb dL_scene_2 rfl (lv_at hl 0 rfl) ?_
  refine lv_iload_n hx hb dL_scene_3 rfl (lv_at hl 1 rfl) ?_
  refine kt_l (wc := wX ad) (wr := [(ad 46, .inl (cA, 1, .inr (.inl f)))]) hP hD hS hA [0, 1, 2, 3, 4, 5] [6] rfl rfl (by decide) (by decide) (vx_runV (As := [.int p0]) (rest := [.int 0, .ref (ad 46)]) ⟨hx, hb, hml, hown, hts⟩ (f_scene l hst D de ad p0 s.heap.size) (cwV 1 hts gL_scene_X11_scene rfl rfl rfl (by decide +kernel) ⟨Nat.le_of_ble_eq_true rfl, Nat.le_of_ble_eq_true rfl⟩) ⟨px_blind, (va_recv hK hP (ci := 16) (q0 := 0) rfl rfl), (px_pre hP hD hK hS hA hTK hZ [0, 1, 2, 3, 4, 5] rfl rfl (by decide) [] rfl)⟩ rfl rfl hl.1 rfl (lv_room (Nat.le_of_ble_eq_true rfl)) dL_scene_4 ⟨(Nat.le_of_ble_eq_true rfl), (Nat.le_of_ble_eq_true rfl)⟩) (fun E q9 H locs hE hq hP hD hS => ?_) (fun r_1 u H locs hw hP hD hK1 hS => ?_)
  · obtain ⟨rfl, hE⟩ := hE
    obtain ⟨ce9, hq1, hq2, hq3⟩ := hq
    refine vx_catch (own := RL) (name := "java/lang/IllegalArgumentException") hown [] (⟨0, 8, 11, 13⟩ : ExceptionTableEntry) [] htab (fun _ h9 => absurd h9 List.not_mem_nil) (by decide) (by decide) (va_Nw.use rfl (hTK.2.2.2.2.2.2.2.2.2.2.1 (RL, 13, "java/lang/IllegalArgumentException") (by decide +kernel))) (va_Nw.use rfl (hTK.1 "java/lang/IllegalArgumentException" (by decide +kernel))) hq1 hq2 hq3 ?_
    refine W.eq (g2 := F0 m 11 ls [.ref q9]) rfl ?_
    refine lv_astore_n (lv' := [(3, .ref q9), (0, .ref (ad 0)), (1, .int p0), (2, .ref (ad 46))]) hx hb dL_scene_11 rfl hl (by decide) rfl (fun ls hl => ?_)
    refine lv_iconst (v := 1) hx hb dL_scene_12 (by decide) ?_
    refine W.widen (k := 1) (n := 6) (Nat.le_of_ble_eq_true rfl) (Nat.le_of_ble_eq_true rfl) ?_
    have hP9 := hP.sub (ws' := ([(ad 46, .inl (cA, 1, .inr (.inl f)))])) [0] rfl
    have hD9 := hD.sub (ws' := ([(ad 46, .inl (cA, 1, .inr (.inl f)))])) [0] (by decide) rfl
    have hK9 := hK.sub (tys' := [(cA, .long)]) [0] rfl
    exact W.iret (v := 1) hx hb hr (fun t ht hW => ⟨⟨1, (f), rfl, (Or.inl (⟨rfl, hE⟩)), ⟨by rw [ht]; exact hP9, va_K.moved hW.alike hK9, hD9⟩⟩, hS.F ht⟩) hS.2.2 dL_scene_13 hlocks
  · have hP : va_P D vwCl ([(ad 46, .inl (cA, 1, .inr (.inl f)))]) H := hP
    have hD : va_D A ([(ad 46, .inl (cA, 1, .inr (.inl f)))]) := hD
    obtain ⟨rfl, hn⟩ : r_1 = 0 ∧ _ := hw
    refine W.widen (k := 1) (n := 6) (Nat.le_of_ble_eq_true rfl) (Nat.le_of_ble_eq_true rfl) ?_
    refine va_last hx hb hK hP hD hS 0 0 rfl rfl (by unfold vp_in; decide) dL_scene_7 (fun H locs hP hD hS => ?_)
    have hP : va_P D vwCl ([(ad 46, .inl (cA, 1, .inr (.inl (vp_updL f 0 0))))]) H := hP
    have hD : va_D A ([(ad 46, .inl (cA, 1, .inr (.inl (vp_updL f 0 0))))]) := hD
    refine lv_goto (tgt := 14) hx hb dL_scene_8 (by decide) ?_
    refine lv_iconst (v := 0) hx hb dL_scene_14 (by decide) ?_
    refine W.widen (k := 1) (n := 6) (Nat.le_of_ble_eq_true rfl) (Nat.le_of_ble_eq_true rfl) ?_
    have hP9 := hP.sub (ws' := ([(ad 46, .inl (cA, 1, .inr (.inl (vp_updL f 0 0))))])) [0] rfl
    have hD9 := hD.sub (ws' := ([(ad 46, .inl (cA, 1, .inr (.inl (vp_updL f 0 0))))])) [0] (by decide) rfl
    have hK9 := hK.sub (tys' := [(cA, .long)]) [0] rfl
    exact W.iret (v := 0) hx hb hr (fun t ht hW => ⟨⟨0, (vp_updL f 0 0), rfl, (Or.inr (⟨rfl, rfl, hn⟩)), ⟨by rw [ht]; exact hP9, va_K.moved hW.alike hK9, hD9⟩⟩, hS.F ht⟩) hS.2.2 dL_scene_15 hlocks
