set_option maxHeartbeats 4000000 in
set_option maxRecDepth 100000 in
theorem l_size (l : Launch) (D : va_G) (de : Nat) (q el : Nat) (mo : Int32) (sz : Nat) : Met l yJx4a65c_size_8abf5 wsJx4a65c_size_8abf5 ({ frames := 0, cells := 0, slots := 0, locals := 0 } : Room) (va_Pc [.ref q] (PX de D ([]) ([(q, .inr (4, [.int mo, .ref el, .int 0]))]) sz)) (va_Qi (fun (r : Int32) (u : Unit) => r = 0) (fun (_ : Unit) t => PW D ([]) (va_A ([(q, .inr (4, [.int mo, .ref el, .int 0]))]) sz) ([(q, .inr (4, [.int mo, .ref el, .int 0]))]) t) (va_A ([(q, .inr (4, [.int mo, .ref el, .int 0]))]) sz)) 0 0 (va_A ([(q, .inr (4, [.int mo, .ref el, .int 0]))]) sz) := by
  refine Met.ofW (cc := cJx4a65c_size_8abf5) (maxL := 1) (ret := (some .int)) (by decide) rfl ?_
  intro p e s m args below meth c s₁ B hml hv
  obtain ⟨rfl, hsz, hP, hK, hD0, hTK, hZ⟩ := hv
  have hx := B.exec
  have hb := B.bytes
  have hr := B.returns
  have hts := atoms_spec (ws := wsJx4a65c_size_8abf5) B.pre
  have hown : s.vm.findClass RJx4a65c = some m.cls := findClass_of_methodNamed B.named
  have hlocks := B.notSynchronized
  have hin_RJx4a65c : ∀ w ∈ u_ws RJx4a65c TJx4a65c 3, w ∈ wsJx4a65c_size_8abf5 := by decide +kernel
  subst hsz
  have hD := hD0.self (sz := s.heap.size)
  generalize hAe : va_A ([(q, .inr (4, [.int mo, .ref el, .int 0]))]) s.heap.size = A at hD hZ ⊢
  have hA : ∀ q : Nat, s.heap.size ≤ q → A q := fun q h => by rw [← hAe]; exact Or.inr h
  have hS : va_S A s.heap s.heap [] := va_S.rf
  have hP : va_P D vwCl ([(q, .inr (4, [.int mo, .ref el, .int 0]))]) s.heap := hP
  have hD : va_D A ([(q, .inr (4, [.int mo, .ref el, .int 0]))]) := hD
  have hl := lv_entry ([.ref q]) (n := 1) (Nat.le_of_ble_eq_true rfl)
  rw [lg_entry_eq]
  generalize (lg_sl ([.ref q]) ++ List.replicate (1 - (lg_sl ([.ref q])).length) Slot.unset).toArray = ls at hl ⊢
  have hl : lv_has ls 1 [(0, .ref q)] := hl
  refine lv_aload_n hx hb dJx4a65c_size_8abf5_0 rfl (lv_at hl 0 rfl) ?_
  refine va_get (D := D) (ci := 4) (v := .int 0) (C := RJx4a65c) (T := TJx4a65c) (N := 3) hx hb hts hin_RJx4a65c hown hK hP 0 rfl rfl 2 (by decide) (hts (.fieldLink RJx4a65c 48 "java/util/ArrayList" "size" "I") (by decide +kernel)) (fun _ h9 => h9) rfl dJx4a65c_size_8abf5_1 ?_
  refine W.widen (k := 0) (n := 0) (Nat.le_of_ble_eq_true rfl) (Nat.le_of_ble_eq_true rfl) ?_
  have hP9 := hP.sub (ws' := ([(q, .inr (4, [.int mo, .ref el, .int 0]))])) [0] rfl
  have hD9 := hD.sub (ws' := ([(q, .inr (4, [.int mo, .ref el, .int 0]))])) [0] (by decide) rfl
  have hK9 := hK.sub (tys' := []) [] rfl
  exact W.iret (v := 0) hx hb hr (fun t ht hW => ⟨⟨0, (), rfl, rfl, ⟨by rw [ht]; exact hP9, va_K.moved hW.alike hK9, hD9⟩⟩, hS.F ht⟩) hS.2.2 dJx4a65c_size_8abf5_4 hlocks

set_option maxHeartbeats 4000000 in
set_option maxRecDepth 100000 in
theorem l_isEmpty (l : Launch) (D : va_G) (de : Nat) (q el : Nat) (mo : Int32) (sz : Nat) : Met l yJx4a65c_isEmpty_aae02 wsJx4a65c_isEmpty_aae02 ({ frames := 0, cells := 0, slots := 0, locals := 0 } : Room) (va_Pc [.ref q] (PX de D ([]) ([(q, .inr (4, [.int mo, .ref el, .int 0]))]) sz)) (va_Qi (fun (r : Int32) (u : Unit) => r = 1) (fun (_ : Unit) t => PW D ([]) (va_A ([(q, .inr (4, [.int mo, .ref el, .int 0]))]) sz) ([(q, .inr (4, [.int mo, .ref el, .int 0]))]) t) (va_A ([(q, .inr (4, [.int mo, .ref el, .int 0]))]) sz)) 0 0 (va_A ([(q, .inr (4, [.int mo, .ref el, .int 0]))]) sz) := by
  refine Met.ofW (cc := cJx4a65c_isEmpty_aae02) (maxL := 1) (ret := (some .boolean)) (by decide) rfl ?_
  intro p e s m args below meth c s₁ B hml hv
  obtain ⟨rfl, hsz, hP, hK, hD0, hTK, hZ⟩ := hv
  have hx := B.exec
  have hb := B.bytes
  have hr := B.returns
  have hts := atoms_spec (ws := wsJx4a65c_isEmpty_aae02) B.pre
  have hown : s.vm.findClass RJx4a65c = some m.cls := findClass_of_methodNamed B.named
  have hlocks := B.notSynchronized
  have hin_RJx4a65c : ∀ w ∈ u_ws RJx4a65c TJx4a65c 3, w ∈ wsJx4a65c_isEmpty_aae02 := by decide +kernel
  subst hsz
  have hD := hD0.self (sz := s.heap.size)
  generalize hAe : va_A ([(q, .inr (4, [.int mo, .ref el, .int 0]))]) s.heap.size = A at hD hZ ⊢
  have hA : ∀ q : Nat, s.heap.size ≤ q → A q := fun q h => by rw [← hAe]; exact Or.inr h
  have hS : va_S A s.heap s.heap [] := va_S.rf
  have hP : va_P D vwCl ([(q, .inr (4, [.int mo, .ref el, .int 0]))]) s.heap := hP
  have hD : va_D A ([(q, .inr (4, [.int mo, .ref el, .int 0]))]) := hD
  have hl := lv_entry ([.ref q]) (n := 1) (Nat.le_of_ble_eq_true rfl)
  rw [lg_entry_eq]
  generalize (lg_sl ([.ref q]) ++ List.replicate (1 - (lg_sl ([.ref q])).length) Slot.unset).toArray = ls at hl ⊢
  have hl : lv_has ls 1 [(0, .ref q)] := hl
  refine lv_aload_n hx hb dJx4a65c_isEmpty_aae02_0 rfl (lv_at hl 0 rfl) ?_
  refine va_get (D := D) (ci := 4) (v := .int 0) (C := RJx4a65c) (T := TJx4a65c) (N := 3) hx hb hts hin_RJx4a65c hown hK hP 0 rfl rfl 2 (by decide) (hts (.fieldLink RJx4a65c 48 "java/util/ArrayList" "size" "I") (by decide +kernel)) (fun _ h9 => h9) rfl dJx4a65c_isEmpty_aae02_1 ?_
  refine lv_if_ne (tgt := 11) hx hb dJx4a65c_isEmpty_aae02_4 (by decide) (fun h_ => absurd (by decide) h_) (fun _ => ?_)
  refine lv_iconst (v := 1) hx hb dJx4a65c_isEmpty_aae02_7 (by decide) ?_
  refine lv_goto (tgt := 12) hx hb dJx4a65c_isEmpty_aae02_8 (by decide) ?_
  refine W.widen (k := 0) (n := 0) (Nat.le_of_ble_eq_true rfl) (Nat.le_of_ble_eq_true rfl) ?_
  have hP9 := hP.sub (ws' := ([(q, .inr (4, [.int mo, .ref el, .int 0]))])) [0] rfl
  have hD9 := hD.sub (ws' := ([(q, .inr (4, [.int mo, .ref el, .int 0]))])) [0] (by decide) rfl
  have hK9 := hK.sub (tys' := []) [] rfl
  exact W.zret (v := 1) hx hb hr (by decide) (fun t ht hW => ⟨⟨1, (), rfl, rfl, ⟨by rw [ht]; exact hP9, va_K.moved hW.alike hK9, hD9⟩⟩, hS.F ht⟩) hS.2.2 dJx4a65c_isEmpty_aae02_12 hlocks

set_option maxHeartbeats 4000000 in
set_option maxRecDepth 100000 in
theorem l_c0 (l : Launch) (D : va_G) (de : Nat) (q : Nat) (sz : Nat) : Met l yJxa1e45_init_da8c8 wsJxa1e45_init_da8c8 ({ frames := 1, cells := 0, slots := 0, locals := 12 } : Room) (va_Pc [.ref q] (PX de D ([]) ([(q, .inr (4, [.int 0, .null, .int 0]))]) sz)) (va_Qv (fun (u : Unit) => True) (fun (_ : Unit) t => PW D ([]) (va_A ([(q, .inr (4, [.int 0, .null, .int 0]))]) sz) ([(q, .inr (4, [.int 0, .null, .int 0]))]) t) (va_A ([(q, .inr (4, [.int 0, .null, .int 0]))]) sz)) 0 0 (va_A ([(q, .inr (4, [.int 0, .null, .int 0]))]) sz) := by
  refine Met.ofW (cc := cJxa1e45_init_da8c8) (maxL := 1) (ret := none) (by decide) rfl ?_
  intro p e s m args below meth c s₁ B hml hv
  obtain ⟨rfl, hsz, hP, hK, hD0, hTK, hZ⟩ := hv
  have hx := B.exec
  have hb := B.bytes
  have hr := B.returns
  have hts := atoms_spec (ws := wsJxa1e45_init_da8c8) B.pre
  have hown : s.vm.findClass RJxa1e45 = some m.cls := findClass_of_methodNamed B.named
  have hlocks := B.notSynchronized
  have hin2 : meth.name = "<init>" := (name_of_methodNamed B.named B.method).1
  subst hsz
  have hD := hD0.self (sz := s.heap.size)
  generalize hAe : va_A ([(q, .inr (4, [.int 0, .null, .int 0]))]) s.heap.size = A at hD hZ ⊢
  have hA : ∀ q : Nat, s.heap.size ≤ q → A q := fun q h => by rw [← hAe]; exact Or.inr h
  have hS : va_S A s.heap s.heap [] := va_S.rf
  have hP : va_P D vwCl ([(q, .inr (4, [.int 0, .null, .int 0]))]) s.heap := hP
  have hD : va_D A ([(q, .inr (4, [.int 0, .null, .int 0]))]) := hD
  have hl := lv_entry ([.ref q]) (n := 1) (Nat.le_of_ble_eq_true rfl)
  rw [lg_entry_eq]
  generalize (lg_sl ([.ref q]) ++ List.replicate (1 - (lg_sl ([.ref q])).length) Slot.unset).toArray = ls at hl ⊢
  have hl : lv_has ls 1 [(0, .ref q)] := hl
  refine lv_aload_n hx hb dJxa1e45_init_da8c8_0 rfl (lv_at hl 0 rfl) ?_
  refine W.objInit hx hb hown (hts (.methodLink RJxa1e45 1 objectInit) (by decide +kernel)) (hts (.instanceMethod objectInit) (by decide +kernel)) (hts (.code objectInit ⟨#[0xb1]⟩ 1 none) (by decide +kernel)) rfl (by rw [hml]; exact hl.1) rfl dJxa1e45_init_da8c8_1 (Nat.le_of_ble_eq_true rfl) (Nat.le_of_ble_eq_true rfl) ?_
  refine W.eq (g2 := F0 m 4 ls []) rfl ?_
  refine W.widen (k := 0) (n := 0) (Nat.le_of_ble_eq_true rfl) (Nat.le_of_ble_eq_true rfl) ?_
  have hP9 := hP.sub (ws' := ([(q, .inr (4, [.int 0, .null, .int 0]))])) [0] rfl
  have hD9 := hD.sub (ws' := ([(q, .inr (4, [.int 0, .null, .int 0]))])) [0] (by decide) rfl
  have hK9 := hK.sub (tys' := []) [] rfl
  exact W.vret hx hb hr (fun t ht hW => ⟨⟨(), rfl, trivial, ⟨by rw [ht]; exact hP9, va_K.moved hW.alike hK9, hD9⟩⟩, hS.F ht⟩) hS.2.2 dJxa1e45_init_da8c8_4 hlocks

set_option maxHeartbeats 4000000 in
set_option maxRecDepth 100000 in
theorem l_c1 (l : Launch) (D : va_G) (de : Nat) (q : Nat) (sz : Nat) : Met l yJxc12de_init_da8c8 wsJxc12de_init_da8c8 ({ frames := 2, cells := 0, slots := 0, locals := 32 } : Room) (va_Pc [.ref q] (PX de D ([]) ([(q, .inr (4, [.int 0, .null, .int 0]))]) sz)) (va_Qv (fun (u : Unit) => True) (fun (_ : Unit) t => PW D ([]) (va_A ([(q, .inr (4, [.int 0, .null, .int 0]))]) sz) ([(q, .inr (4, [.int 0, .null, .int 0]))]) t) (va_A ([(q, .inr (4, [.int 0, .null, .int 0]))]) sz)) 0 0 (va_A ([(q, .inr (4, [.int 0, .null, .int 0]))]) sz) := by
  refine Met.ofW (cc := cJxc12de_init_da8c8) (maxL := 1) (ret := none) (by decide) rfl ?_
  intro p e s m args below meth c s₁ B hml hv
  obtain ⟨rfl, hsz, hP, hK, hD0, hTK, hZ⟩ := hv
  have hx := B.exec
  have hb := B.bytes
  have hr := B.returns
  have hts := atoms_spec (ws := wsJxc12de_init_da8c8) B.pre
  have hown : s.vm.findClass RJxc12de = some m.cls := findClass_of_methodNamed B.named
  have hlocks := B.notSynchronized
  have hin2 : meth.name = "<init>" := (name_of_methodNamed B.named B.method).1
  have hin_RJx4a65c : ∀ w ∈ u_ws RJx4a65c TJx4a65c 3, w ∈ wsJxc12de_init_da8c8 := by decide +kernel
  subst hsz
  have hD := hD0.self (sz := s.heap.size)
  generalize hAe : va_A ([(q, .inr (4, [.int 0, .null, .int 0]))]) s.heap.size = A at hD hZ ⊢
  have hA : ∀ q : Nat, s.heap.size ≤ q → A q := fun q h => by rw [← hAe]; exact Or.inr h
  have hS : va_S A s.heap s.heap [] := va_S.rf
  have hP : va_P D vwCl ([(q, .inr (4, [.int 0, .null, .int 0]))]) s.heap := hP
  have hD : va_D A ([(q, .inr (4, [.int 0, .null, .int 0]))]) := hD
  have hl := lv_entry ([.ref q]) (n := 1) (Nat.le_of_ble_eq_true rfl)
  rw [lg_entry_eq]
  generalize (lg_sl ([.ref q]) ++ List.replicate (1 - (lg_sl ([.ref q])).length) Slot.unset).toArray = ls at hl ⊢
  have hl : lv_has ls 1 [(0, .ref q)] := hl
  refine lv_aload_n hx hb dJxc12de_init_da8c8_0 rfl (lv_at hl 0 rfl) ?_
  refine kx_v (wc := [(q, .inr (4, [.int 0, .null, .int 0]))]) (wr := []) hP hD hS hA [0] [] rfl rfl (by decide) (by decide) (va_runI (As := []) (rest := []) ⟨hx, hb, hml, hown, hts⟩ (l_c0 l D de q s.heap.size) (cwI 0 hts gJxc12de_init_da8c8_Jxa1e45_init_da8c8 rfl rfl rfl (hts (.initialized RJxa1e45) (by decide +kernel)) (hts (.methodLink RJxc12de 1 yJxa1e45_init_da8c8) (by decide +kernel)) (hts (.instanceMethod yJxa1e45_init_da8c8) (by decide +kernel)) rfl (by decide +kernel) ⟨Nat.le_of_ble_eq_true rfl, Nat.le_of_ble_eq_true rfl⟩) ⟨px_blind, (px_pre hP hD hK hS hA hTK hZ [0] rfl rfl (by decide) [] rfl)⟩ rfl rfl hl.1 rfl (lv_room (Nat.le_of_ble_eq_true rfl)) dJxc12de_init_da8c8_1 ⟨(Nat.le_of_ble_eq_true rfl), (Nat.le_of_ble_eq_true rfl)⟩) (fun u H locs hw hP hD hK1 hS => ?_)
  have hP : va_P D vwCl ([(q, .inr (4, [.int 0, .null, .int 0]))]) H := hP
  have hD : va_D A ([(q, .inr (4, [.int 0, .null, .int 0]))]) := hD
  refine lv_aload_n hx hb dJxc12de_init_da8c8_4 rfl (lv_at hl 0 rfl) ?_
  refine lv_iconst (v := 0) hx hb dJxc12de_init_da8c8_5 (by decide) ?_
  refine va_put (D := D) (ci := 4) (v := .int 0) (ty := .int) (C := RJx4a65c) (T := TJx4a65c) (N := 3) hx hb hts hin_RJx4a65c tyJx4a65c tyJx4a65c_ok nmJx4a65c hown hK hP hD hS 0 rfl rfl 0 (by decide) (hts (.fieldLink RJxc12de 7 "java/util/AbstractList" "modCount" "I") (by decide +kernel)) (fun _ h9 => h9) rfl (by decide +kernel) rfl rfl (Nat.le_of_ble_eq_true rfl) dJxc12de_init_da8c8_6 (fun H locs hP hD hS => ?_)
  have hP : va_P D vwCl ([(q, .inr (4, [.int 0, .null, .int 0]))]) H := hP
  have hD : va_D A ([(q, .inr (4, [.int 0, .null, .int 0]))]) := hD
  refine W.widen (k := 0) (n := 0) (Nat.le_of_ble_eq_true rfl) (Nat.le_of_ble_eq_true rfl) ?_
  have hP9 := hP.sub (ws' := ([(q, .inr (4, [.int 0, .null, .int 0]))])) [0] rfl
  have hD9 := hD.sub (ws' := ([(q, .inr (4, [.int 0, .null, .int 0]))])) [0] (by decide) rfl
  have hK9 := hK.sub (tys' := []) [] rfl
  exact W.vret hx hb hr (fun t ht hW => ⟨⟨(), rfl, trivial, ⟨by rw [ht]; exact hP9, va_K.moved hW.alike hK9, hD9⟩⟩, hS.F ht⟩) hS.2.2 dJxc12de_init_da8c8_9 hlocks

set_option maxHeartbeats 4000000 in
set_option maxRecDepth 100000 in
theorem l_new (l : Launch) (D : va_G) (de : Nat) (q : Nat) (sz : Nat) : Met l yJx4a65c_init_da8c8 wsJx4a65c_init_da8c8 ({ frames := 3, cells := 0, slots := 0, locals := 52 } : Room) (va_Pc [.ref q] (PX de D ([]) ([(q, .inr (4, [.int 0, .null, .int 0]))]) sz)) (va_Qv (fun (u : Unit) => True) (fun u t => PW D ([]) (va_A ([(q, .inr (4, [.int 0, .null, .int 0]))]) sz) ([(q, .inr (4, [.int 0, .ref de, .int 0]))]) t) (va_A ([(q, .inr (4, [.int 0, .null, .int 0]))]) sz)) 0 0 (va_A ([(q, .inr (4, [.int 0, .null, .int 0]))]) sz) := by
  refine Met.ofW (cc := cJx4a65c_init_da8c8) (maxL := 1) (ret := none) (by decide) rfl ?_
  intro p e s m args below meth c s₁ B hml hv
  obtain ⟨rfl, hsz, hP, hK, hD0, hTK, hZ⟩ := hv
  have hx := B.exec
  have hb := B.bytes
  have hr := B.returns
  have hts := atoms_spec (ws := wsJx4a65c_init_da8c8) B.pre
  have hown : s.vm.findClass RJx4a65c = some m.cls := findClass_of_methodNamed B.named
  have hlocks := B.notSynchronized
  have hin2 : meth.name = "<init>" := (name_of_methodNamed B.named B.method).1
  have hin_RJx4a65c : ∀ w ∈ u_ws RJx4a65c TJx4a65c 3, w ∈ wsJx4a65c_init_da8c8 := by decide +kernel
  subst hsz
  have hD := hD0.self (sz := s.heap.size)
  generalize hAe : va_A ([(q, .inr (4, [.int 0, .null, .int 0]))]) s.heap.size = A at hD hZ ⊢
  have hA : ∀ q : Nat, s.heap.size ≤ q → A q := fun q h => by rw [← hAe]; exact Or.inr h
  have hS : va_S A s.heap s.heap [] := va_S.rf
  have hP : va_P D vwCl ([(q, .inr (4, [.int 0, .null, .int 0]))]) s.heap := hP
  have hD : va_D A ([(q, .inr (4, [.int 0, .null, .int 0]))]) := hD
  have hl := lv_entry ([.ref q]) (n := 1) (Nat.le_of_ble_eq_true rfl)
  rw [lg_entry_eq]
  generalize (lg_sl ([.ref q]) ++ List.replicate (1 - (lg_sl ([.ref q])).length) Slot.unset).toArray = ls at hl ⊢
  have hl : lv_has ls 1 [(0, .ref q)] := hl
  refine lv_aload_n hx hb dJx4a65c_init_da8c8_0 rfl (lv_at hl 0 rfl) ?_
  refine kx_v (wc := [(q, .inr (4, [.int 0, .null, .int 0]))]) (wr := []) hP hD hS hA [0] [] rfl rfl (by decide) (by decide) (va_runI (As := []) (rest := []) ⟨hx, hb, hml, hown, hts⟩ (l_c1 l D de q s.heap.size) (cwI 0 hts gJx4a65c_init_da8c8_Jxc12de_init_da8c8 rfl rfl rfl (hts (.initialized RJxc12de) (by decide +kernel)) (hts (.methodLink RJx4a65c 1 yJxc12de_init_da8c8) (by decide +kernel)) (hts (.instanceMethod yJxc12de_init_da8c8) (by decide +kernel)) rfl (by decide +kernel) ⟨Nat.le_of_ble_eq_true rfl, Nat.le_of_ble_eq_true rfl⟩) ⟨px_blind, (px_pre hP hD hK hS hA hTK hZ [0] rfl rfl (by decide) [] rfl)⟩ rfl rfl hl.1 rfl (lv_room (Nat.le_of_ble_eq_true rfl)) dJx4a65c_init_da8c8_1 ⟨(Nat.le_of_ble_eq_true rfl), (Nat.le_of_ble_eq_true rfl)⟩) (fun u H locs hw hP hD hK1 hS => ?_)
  have hP : va_P D vwCl ([(q, .inr (4, [.int 0, .null, .int 0]))]) H := hP
  have hD : va_D A ([(q, .inr (4, [.int 0, .null, .int 0]))]) := hD
  refine lv_aload_n hx hb dJx4a65c_init_da8c8_4 rfl (lv_at hl 0 rfl) ?_
  refine va_gets (v := .ref de) hx hb hZ.2.2.1 hS hown (hts (.fieldLink RJx4a65c 39 "java/util/ArrayList" "DEFAULTCAPACITY_EMPTY_ELEMENTDATA" "[Ljava/lang/Object;") (by decide +kernel)) (fun _ h9 => h9) dJx4a65c_init_da8c8_5 ?_
  refine va_put (D := D) (ci := 4) (v := .ref de) (ty := (.array (.object "java/lang/Object"))) (C := RJx4a65c) (T := TJx4a65c) (N := 3) hx hb hts hin_RJx4a65c tyJx4a65c tyJx4a65c_ok nmJx4a65c hown hK hP hD hS 0 rfl rfl 1 (by decide) (hts (.fieldLink RJx4a65c 9 "java/util/ArrayList" "elementData" "[Ljava/lang/Object;") (by decide +kernel)) (fun _ h9 => h9) rfl (by decide +kernel) rfl rfl (Nat.le_of_ble_eq_true rfl) dJx4a65c_init_da8c8_8 (fun H locs hP hD hS => ?_)
  have hP : va_P D vwCl ([(q, .inr (4, [.int 0, .ref de, .int 0]))]) H := hP
  have hD : va_D A ([(q, .inr (4, [.int 0, .ref de, .int 0]))]) := hD
  refine W.widen (k := 0) (n := 0) (Nat.le_of_ble_eq_true rfl) (Nat.le_of_ble_eq_true rfl) ?_
  have hP9 := hP.sub (ws' := ([(q, .inr (4, [.int 0, .ref de, .int 0]))])) [0] rfl
  have hD9 := hD.sub (ws' := ([(q, .inr (4, [.int 0, .ref de, .int 0]))])) [0] (by decide) rfl
  have hK9 := hK.sub (tys' := []) [] rfl
  exact W.vret hx hb hr (fun t ht hW => ⟨⟨(), rfl, trivial, ⟨by rw [ht]; exact hP9, va_K.moved hW.alike hK9, hD9⟩⟩, hS.F ht⟩) hS.2.2 dJx4a65c_init_da8c8_11 hlocks

set_option maxHeartbeats 4000000 in
set_option maxRecDepth 100000 in
theorem l_itnew (l : Launch) (D : va_G) (de : Nat) (i q el : Nat) (mo : Int32) (sz : Nat) : Met l yJx35411_init_45d68 wsJx35411_init_45d68 ({ frames := 1, cells := 0, slots := 0, locals := 12 } : Room) (va_Pc [.ref i, .ref q] (PX de D ([]) ([(i, .inr (3, [.int 0, .int 0, .int 0, .null])), (q, .inr (4, [.int mo, .ref el, .int 0]))]) sz)) (va_Qv (fun (u : Unit) => True) (fun u t => PW D ([]) (va_A ([(i, .inr (3, [.int 0, .int 0, .int 0, .null])), (q, .inr (4, [.int mo, .ref el, .int 0]))]) sz) ([(i, .inr (3, [.int 0, .int (-1), .int mo, .ref q])), (q, .inr (4, [.int mo, .ref el, .int 0]))]) t) (va_A ([(i, .inr (3, [.int 0, .int 0, .int 0, .null])), (q, .inr (4, [.int mo, .ref el, .int 0]))]) sz)) 0 0 (va_A ([(i, .inr (3, [.int 0, .int 0, .int 0, .null])), (q, .inr (4, [.int mo, .ref el, .int 0]))]) sz) := by
  refine Met.ofW (cc := cJx35411_init_45d68) (maxL := 2) (ret := none) (by decide) rfl ?_
  intro p e s m args below meth c s₁ B hml hv
  obtain ⟨rfl, hsz, hP, hK, hD0, hTK, hZ⟩ := hv
  have hx := B.exec
  have hb := B.bytes
  have hr := B.returns
  have hts := atoms_spec (ws := wsJx35411_init_45d68) B.pre
  have hown : s.vm.findClass RJx35411 = some m.cls := findClass_of_methodNamed B.named
  have hlocks := B.notSynchronized
  have hin2 : meth.name = "<init>" := (name_of_methodNamed B.named B.method).1
  have hin_RJx35411 : ∀ w ∈ u_ws RJx35411 TJx35411 4, w ∈ wsJx35411_init_45d68 := by decide +kernel
  have hin_RJx4a65c : ∀ w ∈ u_ws RJx4a65c TJx4a65c 3, w ∈ wsJx35411_init_45d68 := by decide +kernel
  subst hsz
  have hD := hD0.self (sz := s.heap.size)
  generalize hAe : va_A ([(i, .inr (3, [.int 0, .int 0, .int 0, .null])), (q, .inr (4, [.int mo, .ref el, .int 0]))]) s.heap.size = A at hD hZ ⊢
  have hA : ∀ q : Nat, s.heap.size ≤ q → A q := fun q h => by rw [← hAe]; exact Or.inr h
  have hS : va_S A s.heap s.heap [] := va_S.rf
  have hP : va_P D vwCl ([(i, .inr (3, [.int 0, .int 0, .int 0, .null])), (q, .inr (4, [.int mo, .ref el, .int 0]))]) s.heap := hP
  have hD : va_D A ([(i, .inr (3, [.int 0, .int 0, .int 0, .null])), (q, .inr (4, [.int mo, .ref el, .int 0]))]) := hD
  have hl := lv_entry ([.ref i, .ref q]) (n := 2) (Nat.le_of_ble_eq_true rfl)
  rw [lg_entry_eq]
  generalize (lg_sl ([.ref i, .ref q]) ++ List.replicate (2 - (lg_sl ([.ref i, .ref q])).length) Slot.unset).toArray = ls at hl ⊢
  have hl : lv_has ls 2 [(0, .ref i), (1, .ref q)] := hl
  refine lv_aload_n hx hb dJx35411_init_45d68_0 rfl (lv_at hl 0 rfl) ?_
  refine lv_aload_n hx hb dJx35411_init_45d68_1 rfl (lv_at hl 1 rfl) ?_
  refine va_putF (D := D) (ci := 3) (v := .ref q) (ty := (.object "java/util/ArrayList")) (C := RJx35411) (T := TJx35411) (N := 4) hx hb hts hin_RJx35411 tyJx35411 tyJx35411_ok nmJx35411 hown hK hP hD hS 0 rfl rfl 3 (by decide) (hts (.fieldLink RJx35411 1 "java/util/ArrayList$Itr" "this$0" "Ljava/util/ArrayList;") (by decide +kernel)) (fun _ h9 => h9) rfl hin2 rfl (by decide +kernel) rfl rfl (Nat.le_of_ble_eq_true rfl) dJx35411_init_45d68_2 (fun H locs hP hD hS => ?_)
  have hP : va_P D vwCl ([(i, .inr (3, [.int 0, .int 0, .int 0, .ref q])), (q, .inr (4, [.int mo, .ref el, .int 0]))]) H := hP
  have hD : va_D A ([(i, .inr (3, [.int 0, .int 0, .int 0, .ref q])), (q, .inr (4, [.int mo, .ref el, .int 0]))]) := hD
  refine lv_aload_n hx hb dJx35411_init_45d68_5 rfl (lv_at hl 0 rfl) ?_
  refine W.objInit hx hb hown (hts (.methodLink RJx35411 7 objectInit) (by decide +kernel)) (hts (.instanceMethod objectInit) (by decide +kernel)) (hts (.code objectInit ⟨#[0xb1]⟩ 1 none) (by decide +kernel)) rfl (by rw [hml]; exact hl.1) rfl dJx35411_init_45d68_6 (Nat.le_of_ble_eq_true rfl) (Nat.le_of_ble_eq_true rfl) ?_
  refine W.eq (g2 := F0 m 9 ls []) rfl ?_
  refine lv_aload_n hx hb dJx35411_init_45d68_9 rfl (lv_at hl 0 rfl) ?_
  refine lv_iconst (v := (-1)) hx hb dJx35411_init_45d68_10 (by decide) ?_
  refine va_put (D := D) (ci := 3) (v := .int (-1)) (ty := .int) (C := RJx35411) (T := TJx35411) (N := 4) hx hb hts hin_RJx35411 tyJx35411 tyJx35411_ok nmJx35411 hown hK hP hD hS 0 rfl rfl 1 (by decide) (hts (.fieldLink RJx35411 13 "java/util/ArrayList$Itr" "lastRet" "I") (by decide +kernel)) (fun _ h9 => h9) rfl (by decide +kernel) rfl rfl (Nat.le_of_ble_eq_true rfl) dJx35411_init_45d68_11 (fun H locs hP hD hS => ?_)
  have hP : va_P D vwCl ([(i, .inr (3, [.int 0, .int (-1), .int 0, .ref q])), (q, .inr (4, [.int mo, .ref el, .int 0]))]) H := hP
  have hD : va_D A ([(i, .inr (3, [.int 0, .int (-1), .int 0, .ref q])), (q, .inr (4, [.int mo, .ref el, .int 0]))]) := hD
  refine lv_aload_n hx hb dJx35411_init_45d68_14 rfl (lv_at hl 0 rfl) ?_
  refine lv_aload_n hx hb dJx35411_init_45d68_15 rfl (lv_at hl 0 rfl) ?_
  refine va_get (D := D) (ci := 3) (v := .ref q) (C := RJx35411) (T := TJx35411) (N := 4) hx hb hts hin_RJx35411 hown hK hP 0 rfl rfl 3 (by decide) (hts (.fieldLink RJx35411 1 "java/util/ArrayList$Itr" "this$0" "Ljava/util/ArrayList;") (by decide +kernel)) (fun _ h9 => h9) rfl dJx35411_init_45d68_16 ?_
  refine va_get (D := D) (ci := 4) (v := .int mo) (C := RJx4a65c) (T := TJx4a65c) (N := 3) hx hb hts hin_RJx4a65c hown hK hP 1 rfl rfl 0 (by decide) (hts (.fieldLink RJx35411 17 "java/util/ArrayList" "modCount" "I") (by decide +kernel)) (fun x hx9 => u_same (hts (.sameField "java/util/ArrayList" "java/util/AbstractList" "modCount" "I") (by decide +kernel)) x hx9) rfl dJx35411_init_45d68_19 ?_
  refine va_put (D := D) (ci := 3) (v := .int mo) (ty := .int) (C := RJx35411) (T := TJx35411) (N := 4) hx hb hts hin_RJx35411 tyJx35411 tyJx35411_ok nmJx35411 hown hK hP hD hS 0 rfl rfl 2 (by decide) (hts (.fieldLink RJx35411 22 "java/util/ArrayList$Itr" "expectedModCount" "I") (by decide +kernel)) (fun _ h9 => h9) rfl (by decide +kernel) rfl rfl (Nat.le_of_ble_eq_true rfl) dJx35411_init_45d68_22 (fun H locs hP hD hS => ?_)
  have hP : va_P D vwCl ([(i, .inr (3, [.int 0, .int (-1), .int mo, .ref q])), (q, .inr (4, [.int mo, .ref el, .int 0]))]) H := hP
  have hD : va_D A ([(i, .inr (3, [.int 0, .int (-1), .int mo, .ref q])), (q, .inr (4, [.int mo, .ref el, .int 0]))]) := hD
  refine W.widen (k := 0) (n := 0) (Nat.le_of_ble_eq_true rfl) (Nat.le_of_ble_eq_true rfl) ?_
  have hP9 := hP.sub (ws' := ([(i, .inr (3, [.int 0, .int (-1), .int mo, .ref q])), (q, .inr (4, [.int mo, .ref el, .int 0]))])) [0, 1] rfl
  have hD9 := hD.sub (ws' := ([(i, .inr (3, [.int 0, .int (-1), .int mo, .ref q])), (q, .inr (4, [.int mo, .ref el, .int 0]))])) [0, 1] (by decide) rfl
  have hK9 := hK.sub (tys' := []) [] rfl
  exact W.vret hx hb hr (fun t ht hW => ⟨⟨(), rfl, trivial, ⟨by rw [ht]; exact hP9, va_K.moved hW.alike hK9, hD9⟩⟩, hS.F ht⟩) hS.2.2 dJx35411_init_45d68_25 hlocks

set_option maxHeartbeats 4000000 in
set_option maxRecDepth 100000 in
theorem l_iterator (l : Launch) (D : va_G) (de : Nat) (q el : Nat) (mo : Int32) (sz : Nat) : Met l yJx4a65c_iterator_32c93 wsJx4a65c_iterator_32c93 ({ frames := 2, cells := 1, slots := 4, locals := 33 } : Room) (va_Pc [.ref q] (PX de D ([]) ([(q, .inr (4, [.int mo, .ref el, .int 0]))]) sz)) (va_Qq (fun (r : Option Nat) (u : Nat) => r = some u) (fun u t => PW D ([]) (va_A ([(q, .inr (4, [.int mo, .ref el, .int 0]))]) sz) ([(u, .inr (3, [.int 0, .int (-1), .int mo, .ref q])), (q, .inr (4, [.int mo, .ref el, .int 0]))]) t) (va_A ([(q, .inr (4, [.int mo, .ref el, .int 0]))]) sz)) 1 4 (va_A ([(q, .inr (4, [.int mo, .ref el, .int 0]))]) sz) := by
  refine Met.ofW (cc := cJx4a65c_iterator_32c93) (maxL := 1) (ret := (some (.object "java/util/Iterator"))) (by decide) rfl ?_
  intro p e s m args below meth c s₁ B hml hv
  obtain ⟨rfl, hsz, hP, hK, hD0, hTK, hZ⟩ := hv
  have hx := B.exec
  have hb := B.bytes
  have hr := B.returns
  have hts := atoms_spec (ws := wsJx4a65c_iterator_32c93) B.pre
  have hown : s.vm.findClass RJx4a65c = some m.cls := findClass_of_methodNamed B.named
  have hlocks := B.notSynchronized
  have hin_RJx35411 : ∀ w ∈ u_ws RJx35411 TJx35411 4, w ∈ wsJx4a65c_iterator_32c93 := by decide +kernel
  subst hsz
  have hD := hD0.self (sz := s.heap.size)
  generalize hAe : va_A ([(q, .inr (4, [.int mo, .ref el, .int 0]))]) s.heap.size = A at hD hZ ⊢
  have hA : ∀ q : Nat, s.heap.size ≤ q → A q := fun q h => by rw [← hAe]; exact Or.inr h
  have hS : va_S A s.heap s.heap [] := va_S.rf
  have hP : va_P D vwCl ([(q, .inr (4, [.int mo, .ref el, .int 0]))]) s.heap := hP
  have hD : va_D A ([(q, .inr (4, [.int mo, .ref el, .int 0]))]) := hD
  have hl := lv_entry ([.ref q]) (n := 1) (Nat.le_of_ble_eq_true rfl)
  rw [lg_entry_eq]
  generalize (lg_sl ([.ref q]) ++ List.replicate (1 - (lg_sl ([.ref q])).length) Slot.unset).toArray = ls at hl ⊢
  have hl : lv_has ls 1 [(0, .ref q)] := hl
  refine va_new (ci := 3) (fs := [.int 0, .int 0, .int 0, .null]) (C := RJx35411) (T := TJx35411) (N := 4) hx hb hts hin_RJx35411 tyJx35411 tyJx35411_ok hown (hts (.classLink RJx4a65c 267 RJx35411) (by decide +kernel)) (hts (.instantiable RJx35411 4) (by decide +kernel)) (hts (.initialized RJx35411) (by decide +kernel)) hK hP hD hS hA rfl (fun j hj => by have hj9 : j < 4 := hj; (match j, hj9 with | 0, _ => rfl | 1, _ => rfl | 2, _ => rfl | 3, _ => rfl)) (Nat.le_of_ble_eq_true rfl) (Nat.le_of_ble_eq_true rfl) dJx4a65c_iterator_32c93_0 (fun q_1 H hP hD hS => ?_)
  have hP : va_P D vwCl ([(q, .inr (4, [.int mo, .ref el, .int 0])), (q_1, .inr (3, [.int 0, .int 0, .int 0, .null]))]) H := hP
  have hD : va_D A ([(q, .inr (4, [.int mo, .ref el, .int 0])), (q_1, .inr (3, [.int 0, .int 0, .int 0, .null]))]) := hD
  refine W.widen (k := 1) (n := 4) (Nat.le_of_ble_eq_true rfl) (Nat.le_of_ble_eq_true rfl) ?_
  refine lv_dup hx hb dJx4a65c_iterator_32c93_3 rfl ?_
  refine lv_aload_n hx hb dJx4a65c_iterator_32c93_4 rfl (lv_at hl 0 rfl) ?_
  refine kx_v (wc := [(q_1, .inr (3, [.int 0, .int 0, .int 0, .null])), (q, .inr (4, [.int mo, .ref el, .int 0]))]) (wr := []) hP hD hS hA [1, 0] [] rfl rfl (by decide) (by decide) (va_runI (As := [.ref q]) (rest := [.ref q_1]) ⟨hx, hb, hml, hown, hts⟩ (l_itnew l D de q_1 q el mo H.size) (cwI 1 hts gJx4a65c_iterator_32c93_Jx35411_init_45d68 rfl rfl rfl (hts (.initialized RJx35411) (by decide +kernel)) (hts (.methodLink RJx4a65c 269 yJx35411_init_45d68) (by decide +kernel)) (hts (.instanceMethod yJx35411_init_45d68) (by decide +kernel)) rfl (by decide +kernel) ⟨Nat.le_of_ble_eq_true rfl, Nat.le_of_ble_eq_true rfl⟩) ⟨px_blind, (px_pre hP hD hK hS hA hTK hZ [1, 0] rfl rfl (by decide) [] rfl)⟩ rfl rfl hl.1 rfl (lv_room (Nat.le_of_ble_eq_true rfl)) dJx4a65c_iterator_32c93_5 ⟨(Nat.le_of_ble_eq_true rfl), (Nat.le_of_ble_eq_true rfl)⟩) (fun u H locs hw hP hD hK1 hS => ?_)
  have hP : va_P D vwCl ([(q_1, .inr (3, [.int 0, .int (-1), .int mo, .ref q])), (q, .inr (4, [.int mo, .ref el, .int 0]))]) H := hP
  have hD : va_D A ([(q_1, .inr (3, [.int 0, .int (-1), .int mo, .ref q])), (q, .inr (4, [.int mo, .ref el, .int 0]))]) := hD
  refine W.widen (k := 1) (n := 4) (Nat.le_of_ble_eq_true rfl) (Nat.le_of_ble_eq_true rfl) ?_
  refine W.widen (k := 1) (n := 4) (Nat.le_of_ble_eq_true rfl) (Nat.le_of_ble_eq_true rfl) ?_
  have hP9 := hP.sub (ws' := ([(q_1, .inr (3, [.int 0, .int (-1), .int mo, .ref q])), (q, .inr (4, [.int mo, .ref el, .int 0]))])) [0, 1] rfl
  have hD9 := hD.sub (ws' := ([(q_1, .inr (3, [.int 0, .int (-1), .int mo, .ref q])), (q, .inr (4, [.int mo, .ref el, .int 0]))])) [0, 1] (by decide) rfl
  have hK9 := hK.sub (tys' := []) [] rfl
  exact W.aret (v := .ref q_1) hx hb hr (Or.inl ⟨_, rfl⟩) (Or.inr ⟨_, rfl⟩) (fun t ht hW => ⟨⟨some q_1, q_1, rfl, rfl, ⟨by rw [ht]; exact hP9, va_K.moved hW.alike hK9, hD9⟩⟩, hS.F ht⟩) hS.2.2 dJx4a65c_iterator_32c93_8 hlocks

set_option maxHeartbeats 4000000 in
set_option maxRecDepth 100000 in
theorem l_hasNext (l : Launch) (D : va_G) (de : Nat) (i q el : Nat) (mo : Int32) (sz : Nat) : Met l yJx35411_hasNext_aae02 wsJx35411_hasNext_aae02 ({ frames := 0, cells := 0, slots := 0, locals := 0 } : Room) (va_Pc [.ref i] (PX de D ([]) ([(i, .inr (3, [.int 0, .int (-1), .int mo, .ref q])), (q, .inr (4, [.int mo, .ref el, .int 0]))]) sz)) (va_Qi (fun (r : Int32) (u : Unit) => r = 0) (fun (_ : Unit) t => PW D ([]) (va_A ([(i, .inr (3, [.int 0, .int (-1), .int mo, .ref q])), (q, .inr (4, [.int mo, .ref el, .int 0]))]) sz) ([(i, .inr (3, [.int 0, .int (-1), .int mo, .ref q])), (q, .inr (4, [.int mo, .ref el, .int 0]))]) t) (va_A ([(i, .inr (3, [.int 0, .int (-1), .int mo, .ref q])), (q, .inr (4, [.int mo, .ref el, .int 0]))]) sz)) 0 0 (va_A ([(i, .inr (3, [.int 0, .int (-1), .int mo, .ref q])), (q, .inr (4, [.int mo, .ref el, .int 0]))]) sz) := by
  refine Met.ofW (cc := cJx35411_hasNext_aae02) (maxL := 1) (ret := (some .boolean)) (by decide) rfl ?_
  intro p e s m args below meth c s₁ B hml hv
  obtain ⟨rfl, hsz, hP, hK, hD0, hTK, hZ⟩ := hv
  have hx := B.exec
  have hb := B.bytes
  have hr := B.returns
  have hts := atoms_spec (ws := wsJx35411_hasNext_aae02) B.pre
  have hown : s.vm.findClass RJx35411 = some m.cls := findClass_of_methodNamed B.named
  have hlocks := B.notSynchronized
  have hin_RJx35411 : ∀ w ∈ u_ws RJx35411 TJx35411 4, w ∈ wsJx35411_hasNext_aae02 := by decide +kernel
  have hin_RJx4a65c : ∀ w ∈ u_ws RJx4a65c TJx4a65c 3, w ∈ wsJx35411_hasNext_aae02 := by decide +kernel
  subst hsz
  have hD := hD0.self (sz := s.heap.size)
  generalize hAe : va_A ([(i, .inr (3, [.int 0, .int (-1), .int mo, .ref q])), (q, .inr (4, [.int mo, .ref el, .int 0]))]) s.heap.size = A at hD hZ ⊢
  have hA : ∀ q : Nat, s.heap.size ≤ q → A q := fun q h => by rw [← hAe]; exact Or.inr h
  have hS : va_S A s.heap s.heap [] := va_S.rf
  have hP : va_P D vwCl ([(i, .inr (3, [.int 0, .int (-1), .int mo, .ref q])), (q, .inr (4, [.int mo, .ref el, .int 0]))]) s.heap := hP
  have hD : va_D A ([(i, .inr (3, [.int 0, .int (-1), .int mo, .ref q])), (q, .inr (4, [.int mo, .ref el, .int 0]))]) := hD
  have hl := lv_entry ([.ref i]) (n := 1) (Nat.le_of_ble_eq_true rfl)
  rw [lg_entry_eq]
  generalize (lg_sl ([.ref i]) ++ List.replicate (1 - (lg_sl ([.ref i])).length) Slot.unset).toArray = ls at hl ⊢
  have hl : lv_has ls 1 [(0, .ref i)] := hl
  refine lv_aload_n hx hb dJx35411_hasNext_aae02_0 rfl (lv_at hl 0 rfl) ?_
  refine va_get (D := D) (ci := 3) (v := .int 0) (C := RJx35411) (T := TJx35411) (N := 4) hx hb hts hin_RJx35411 hown hK hP 0 rfl rfl 0 (by decide) (hts (.fieldLink RJx35411 25 "java/util/ArrayList$Itr" "cursor" "I") (by decide +kernel)) (fun _ h9 => h9) rfl dJx35411_hasNext_aae02_1 ?_
  refine lv_aload_n hx hb dJx35411_hasNext_aae02_4 rfl (lv_at hl 0 rfl) ?_
  refine va_get (D := D) (ci := 3) (v := .ref q) (C := RJx35411) (T := TJx35411) (N := 4) hx hb hts hin_RJx35411 hown hK hP 0 rfl rfl 3 (by decide) (hts (.fieldLink RJx35411 1 "java/util/ArrayList$Itr" "this$0" "Ljava/util/ArrayList;") (by decide +kernel)) (fun _ h9 => h9) rfl dJx35411_hasNext_aae02_5 ?_
  refine va_getN (D := D) (ci := 4) (v := .int 0) (C := RJx4a65c) (T := TJx4a65c) (N := 3) hx hb hts hin_RJx4a65c hown hK hP 1 rfl rfl 2 (by decide) (va_Nw.use rfl (hTK.2.2.2.2.2.2.1 (RJx35411, 28, "java/util/ArrayList", "size", "I", "java/util/ArrayList") (by decide +kernel))) (fun _ h9 => h9) rfl dJx35411_hasNext_aae02_8 ?_
  refine lv_icmp_eq (tgt := 18) hx hb dJx35411_hasNext_aae02_11 (by decide) (fun _ => ?_) (fun h_ => absurd (by decide) h_)
  refine lv_iconst (v := 0) hx hb dJx35411_hasNext_aae02_18 (by decide) ?_
  refine W.widen (k := 0) (n := 0) (Nat.le_of_ble_eq_true rfl) (Nat.le_of_ble_eq_true rfl) ?_
  have hP9 := hP.sub (ws' := ([(i, .inr (3, [.int 0, .int (-1), .int mo, .ref q])), (q, .inr (4, [.int mo, .ref el, .int 0]))])) [0, 1] rfl
  have hD9 := hD.sub (ws' := ([(i, .inr (3, [.int 0, .int (-1), .int mo, .ref q])), (q, .inr (4, [.int mo, .ref el, .int 0]))])) [0, 1] (by decide) rfl
  have hK9 := hK.sub (tys' := []) [] rfl
  exact W.zret (v := 0) hx hb hr (by decide) (fun t ht hW => ⟨⟨0, (), rfl, rfl, ⟨by rw [ht]; exact hP9, va_K.moved hW.alike hK9, hD9⟩⟩, hS.F ht⟩) hS.2.2 dJx35411_hasNext_aae02_19 hlocks
