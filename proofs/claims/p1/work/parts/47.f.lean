set_option maxHeartbeats 4000000 in
set_option maxRecDepth 100000 in
theorem m_thrown (l : Launch) (D : va_G) (de : Nat) (q : Nat) (c0 : Int32) (tl : List Value) (sz : Nat) : Met l yX17_thrown wsX17_thrown ({ frames := 0, cells := 0, slots := 0, locals := 0 } : Room) (va_Pc [.ref q] (PX de D ([]) ([(q, .inr (22, .int c0 :: tl))]) sz)) (va_Qi (fun (r : Int32) (u : Unit) => r = c0) (fun (_ : Unit) t => PW D ([]) (va_A ([(q, .inr (22, .int c0 :: tl))]) sz) ([(q, .inr (22, .int c0 :: tl))]) t) (va_A ([(q, .inr (22, .int c0 :: tl))]) sz)) 0 0 (va_A ([(q, .inr (22, .int c0 :: tl))]) sz) := by
  refine Met.ofW (cc := cX17_thrown) (maxL := 1) (ret := (some .int)) (by decide) rfl ?_
  intro p e s m args below meth c s₁ B hml hv
  obtain ⟨rfl, hsz, hP, hK, hD0, hTK, hZ⟩ := hv
  have hx := B.exec
  have hb := B.bytes
  have hr := B.returns
  have hts := atoms_spec (ws := wsX17_thrown) B.pre
  have hown : s.vm.findClass RX17 = some m.cls := findClass_of_methodNamed B.named
  have hlocks := B.notSynchronized
  have hin_RX17 : ∀ w ∈ u_ws RX17 TX17 13, w ∈ wsX17_thrown := by decide +kernel
  subst hsz
  have hD := hD0.self (sz := s.heap.size)
  generalize hAe : va_A ([(q, .inr (22, .int c0 :: tl))]) s.heap.size = A at hD hZ ⊢
  have hA : ∀ q : Nat, s.heap.size ≤ q → A q := fun q h => by rw [← hAe]; exact Or.inr h
  have hS : va_S A s.heap s.heap [] := va_S.rf
  have hP : va_P D vwCl ([(q, .inr (22, .int c0 :: tl))]) s.heap := hP
  have hD : va_D A ([(q, .inr (22, .int c0 :: tl))]) := hD
  have hl := lv_entry ([.ref q]) (n := 1) (Nat.le_of_ble_eq_true rfl)
  rw [lg_entry_eq]
  generalize (lg_sl ([.ref q]) ++ List.replicate (1 - (lg_sl ([.ref q])).length) Slot.unset).toArray = ls at hl ⊢
  have hl : lv_has ls 1 [(0, .ref q)] := hl
  refine lv_aload_n hx hb dX17_thrown_0 rfl (lv_at hl 0 rfl) ?_
  refine va_get (D := D) (ci := 22) (v := .int c0) (C := RX17) (T := TX17) (N := 13) hx hb hts hin_RX17 hown hK hP 0 rfl rfl 0 (by decide) (hts (.fieldLink RX17 41 "PopupwrightModel" "code" "I") (by decide +kernel)) (fun _ h9 => h9) rfl dX17_thrown_1 ?_
  refine W.widen (k := 0) (n := 0) (Nat.le_of_ble_eq_true rfl) (Nat.le_of_ble_eq_true rfl) ?_
  have hP9 := hP.sub (ws' := ([(q, .inr (22, .int c0 :: tl))])) [0] rfl
  have hD9 := hD.sub (ws' := ([(q, .inr (22, .int c0 :: tl))])) [0] (by decide) rfl
  have hK9 := hK.sub (tys' := []) [] rfl
  exact W.iret (v := c0) hx hb hr (fun t ht hW => ⟨⟨c0, (), rfl, rfl, ⟨by rw [ht]; exact hP9, va_K.moved hW.alike hK9, hD9⟩⟩, hS.F ht⟩) hS.2.2 dX17_thrown_4 hlocks

set_option maxHeartbeats 4000000 in
set_option maxRecDepth 100000 in
theorem m_fold (l : Launch) (D : va_G) (de : Nat) (ad : Nat → Nat) (c0 : Int32) (p0 p1 p2 p3 p4 : Int32) (sz : Nat) : Met l yX17_fold wsX17_fold ({ frames := 2, cells := 0, slots := 0, locals := 43 } : Room) (va_Pc [.ref (ad 40), .int p0, .int p1, .int p2, .int p3, .int p4] (PX de D ([]) (wM ad de c0) sz)) (va_Qi (fun (r : Int32) (u : Int32 × List Value) => (u.1 = 1 ∧ r = 0)) (fun u t => PW D ([]) (va_A (wM ad de c0) sz) ([(ad 40, .inr (22, .int u.1 :: u.2))]) t) (va_A (wM ad de c0) sz)) 0 0 (va_A (wM ad de c0) sz) := by
  refine Met.ofW (cc := cX17_fold) (maxL := 6) (ret := (some .int)) (by decide) rfl ?_
  intro p e s m args below meth c s₁ B hml hv
  obtain ⟨rfl, hsz, hP, hK, hD0, hTK, hZ⟩ := hv
  have hx := B.exec
  have hb := B.bytes
  have hr := B.returns
  have hts := atoms_spec (ws := wsX17_fold) B.pre
  have hown : s.vm.findClass RX17 = some m.cls := findClass_of_methodNamed B.named
  have hlocks := B.notSynchronized
  have hin_RX17 : ∀ w ∈ u_ws RX17 TX17 13, w ∈ wsX17_fold := by decide +kernel
  subst hsz
  have hD := hD0.self (sz := s.heap.size)
  generalize hAe : va_A (wM ad de c0) s.heap.size = A at hD hZ ⊢
  have hA : ∀ q : Nat, s.heap.size ≤ q → A q := fun q h => by rw [← hAe]; exact Or.inr h
  have hS : va_S A s.heap s.heap [] := va_S.rf
  have hP : va_P D vwCl (wM ad de c0) s.heap := hP
  have hD : va_D A (wM ad de c0) := hD
  have hl := lv_entry ([.ref (ad 40), .int p0, .int p1, .int p2, .int p3, .int p4]) (n := 6) (Nat.le_of_ble_eq_true rfl)
  rw [lg_entry_eq]
  generalize (lg_sl ([.ref (ad 40), .int p0, .int p1, .int p2, .int p3, .int p4]) ++ List.replicate (6 - (lg_sl ([.ref (ad 40), .int p0, .int p1, .int p2, .int p3, .int p4])).length) Slot.unset).toArray = ls at hl ⊢
  have hl : lv_has ls 6 [(0, .ref (ad 40)), (1, .int p0), (2, .int p1), (3, .int p2), (4, .int p3), (5, .int p4)] := hl
  refine lv_aload_n hx hb dX17_fold_0 rfl (lv_at hl 0 rfl) ?_
  refine lv_iconst (v := 0) hx hb dX17_fold_1 (by decide) ?_
  refine va_put (D := D) (ci := 22) (v := .int 0) (ty := .int) (C := RX17) (T := TX17) (N := 13) hx hb hts hin_RX17 tyX17 tyX17_ok nmX17 hown hK hP hD hS 0 rfl rfl 0 (by decide) (hts (.fieldLink RX17 41 "PopupwrightModel" "code" "I") (by decide +kernel)) (fun _ h9 => h9) rfl (by decide +kernel) rfl rfl (Nat.le_of_ble_eq_true rfl) dX17_fold_2 (fun H locs hP hD hS => ?_)
  have hP : va_P D vwCl (wM ad de 0) H := hP
  have hD : va_D A (wM ad de 0) := hD
  refine lv_aload_n hx hb dX17_fold_5 rfl (lv_at hl 0 rfl) ?_
  refine lv_iload_n hx hb dX17_fold_6 rfl (lv_at hl 1 rfl) ?_
  refine kx_i (wc := wM ad de 0) (wr := []) hP hD hS hA [0, 1, 2, 3, 4] [] rfl rfl (by decide) (by decide) (va_runV (As := [.int p0]) (rest := []) ⟨hx, hb, hml, hown, hts⟩ (c_isCrease l D de ad 0 p0 H.size) (cwV 1 hts gX17_fold_X17_isCrease rfl rfl rfl (by decide +kernel) ⟨Nat.le_of_ble_eq_true rfl, Nat.le_of_ble_eq_true rfl⟩) ⟨px_blind, (va_recv hK hP (ci := 22) (q0 := 0) rfl rfl), (px_pre hP hD hK hS hA hTK hZ [0, 1, 2, 3, 4] rfl rfl (by decide) [] rfl)⟩ rfl rfl hl.1 rfl (lv_room (Nat.le_of_ble_eq_true rfl)) dX17_fold_7 ⟨(Nat.le_of_ble_eq_true rfl), (Nat.le_of_ble_eq_true rfl)⟩) (fun r_1 u H locs hw hP hD hK1 hS => ?_)
  have hP : va_P D vwCl (wM ad de 0) H := hP
  have hD : va_D A (wM ad de 0) := hD
  obtain rfl : r_1 = 0 := hw
  refine lv_if_ne (tgt := 19) hx hb dX17_fold_10 (by decide) (fun h_ => absurd (by decide) h_) (fun _ => ?_)
  refine lv_aload_n hx hb dX17_fold_13 rfl (lv_at hl 0 rfl) ?_
  refine lv_iconst (v := 1) hx hb dX17_fold_14 (by decide) ?_
  refine kx_i (wc := wM ad de 0) (wr := []) hP hD hS hA [0, 1, 2, 3, 4] [] rfl rfl (by decide) (by decide) (va_runV (As := [.int 1]) (rest := []) ⟨hx, hb, hml, hown, hts⟩ (c_fails l D de ad 0 1 H.size) (cwV 1 hts gX17_fold_X17_fails rfl rfl rfl (by decide +kernel) ⟨Nat.le_of_ble_eq_true rfl, Nat.le_of_ble_eq_true rfl⟩) ⟨px_blind, (va_recv hK hP (ci := 22) (q0 := 0) rfl rfl), (px_pre hP hD hK hS hA hTK hZ [0, 1, 2, 3, 4] rfl rfl (by decide) [] rfl)⟩ rfl rfl hl.1 rfl (lv_room (Nat.le_of_ble_eq_true rfl)) dX17_fold_15 ⟨(Nat.le_of_ble_eq_true rfl), (Nat.le_of_ble_eq_true rfl)⟩) (fun r_2 u H locs hw hP hD hK1 hS => ?_)
  have hP : va_P D vwCl (wM ad de 1) H := hP
  have hD : va_D A (wM ad de 1) := hD
  obtain rfl : r_2 = 0 := hw
  refine W.widen (k := 0) (n := 0) (Nat.le_of_ble_eq_true rfl) (Nat.le_of_ble_eq_true rfl) ?_
  have hP9 := hP.sub (ws' := ([(ad 40, .inr (22, [.int 1, .int 0, .int 0, .int 0, .ref (ad 41), .ref (ad 42), .ref (ad 43), .ref (ad 44), .int 500, .int 700, .int 10, .int 200, .ref (ad 45)]))])) [0] rfl
  have hD9 := hD.sub (ws' := ([(ad 40, .inr (22, [.int 1, .int 0, .int 0, .int 0, .ref (ad 41), .ref (ad 42), .ref (ad 43), .ref (ad 44), .int 500, .int 700, .int 10, .int 200, .ref (ad 45)]))])) [0] (by decide) rfl
  have hK9 := hK.sub (tys' := []) [] rfl
  exact W.iret (v := 0) hx hb hr (fun t ht hW => ⟨⟨0, (1, [.int 0, .int 0, .int 0, .ref (ad 41), .ref (ad 42), .ref (ad 43), .ref (ad 44), .int 500, .int 700, .int 10, .int 200, .ref (ad 45)]), rfl, (by first | exact ⟨rfl, rfl⟩ | exact ⟨rfl, rfl, by assumption⟩ | exact Or.inl ⟨rfl, rfl, by assumption⟩ | exact Or.inr ⟨rfl, rfl, by assumption⟩ | exact Or.inl ⟨rfl, rfl, Or.inl (by assumption)⟩ | exact Or.inl ⟨rfl, rfl, Or.inr (by assumption)⟩ | exact Or.inr ⟨rfl, rfl, by assumption, by assumption⟩), ⟨by rw [ht]; exact hP9, va_K.moved hW.alike hK9, hD9⟩⟩, hS.F ht⟩) hS.2.2 dX17_fold_18 hlocks

set_option maxHeartbeats 4000000 in
set_option maxRecDepth 100000 in
theorem m_room (l : Launch) (D : va_G) (de : Nat) (ad : Nat → Nat) (c0 : Int32) (p0 p1 : Int32) (sz : Nat) : Met l yX17_room wsX17_room ({ frames := 2, cells := 0, slots := 0, locals := 43 } : Room) (va_Pc [.ref (ad 40), .int p0, .int p1] (PX de D ([]) (wM ad de c0) sz)) (va_Qi (fun (r : Int32) (u : Int32 × List Value) => (u.1 = 1 ∧ r = 0)) (fun u t => PW D ([]) (va_A (wM ad de c0) sz) ([(ad 40, .inr (22, .int u.1 :: u.2))]) t) (va_A (wM ad de c0) sz)) 0 0 (va_A (wM ad de c0) sz) := by
  refine Met.ofW (cc := cX17_room) (maxL := 3) (ret := (some .int)) (by decide) rfl ?_
  intro p e s m args below meth c s₁ B hml hv
  obtain ⟨rfl, hsz, hP, hK, hD0, hTK, hZ⟩ := hv
  have hx := B.exec
  have hb := B.bytes
  have hr := B.returns
  have hts := atoms_spec (ws := wsX17_room) B.pre
  have hown : s.vm.findClass RX17 = some m.cls := findClass_of_methodNamed B.named
  have hlocks := B.notSynchronized
  have hin_RX17 : ∀ w ∈ u_ws RX17 TX17 13, w ∈ wsX17_room := by decide +kernel
  subst hsz
  have hD := hD0.self (sz := s.heap.size)
  generalize hAe : va_A (wM ad de c0) s.heap.size = A at hD hZ ⊢
  have hA : ∀ q : Nat, s.heap.size ≤ q → A q := fun q h => by rw [← hAe]; exact Or.inr h
  have hS : va_S A s.heap s.heap [] := va_S.rf
  have hP : va_P D vwCl (wM ad de c0) s.heap := hP
  have hD : va_D A (wM ad de c0) := hD
  have hl := lv_entry ([.ref (ad 40), .int p0, .int p1]) (n := 3) (Nat.le_of_ble_eq_true rfl)
  rw [lg_entry_eq]
  generalize (lg_sl ([.ref (ad 40), .int p0, .int p1]) ++ List.replicate (3 - (lg_sl ([.ref (ad 40), .int p0, .int p1])).length) Slot.unset).toArray = ls at hl ⊢
  have hl : lv_has ls 3 [(0, .ref (ad 40)), (1, .int p0), (2, .int p1)] := hl
  refine lv_aload_n hx hb dX17_room_0 rfl (lv_at hl 0 rfl) ?_
  refine lv_iconst (v := 0) hx hb dX17_room_1 (by decide) ?_
  refine va_put (D := D) (ci := 22) (v := .int 0) (ty := .int) (C := RX17) (T := TX17) (N := 13) hx hb hts hin_RX17 tyX17 tyX17_ok nmX17 hown hK hP hD hS 0 rfl rfl 0 (by decide) (hts (.fieldLink RX17 41 "PopupwrightModel" "code" "I") (by decide +kernel)) (fun _ h9 => h9) rfl (by decide +kernel) rfl rfl (Nat.le_of_ble_eq_true rfl) dX17_room_2 (fun H locs hP hD hS => ?_)
  have hP : va_P D vwCl (wM ad de 0) H := hP
  have hD : va_D A (wM ad de 0) := hD
  refine lv_aload_n hx hb dX17_room_5 rfl (lv_at hl 0 rfl) ?_
  refine lv_iload_n hx hb dX17_room_6 rfl (lv_at hl 1 rfl) ?_
  refine kx_i (wc := wM ad de 0) (wr := []) hP hD hS hA [0, 1, 2, 3, 4] [] rfl rfl (by decide) (by decide) (va_runV (As := [.int p0]) (rest := []) ⟨hx, hb, hml, hown, hts⟩ (c_isCrease l D de ad 0 p0 H.size) (cwV 1 hts gX17_room_X17_isCrease rfl rfl rfl (by decide +kernel) ⟨Nat.le_of_ble_eq_true rfl, Nat.le_of_ble_eq_true rfl⟩) ⟨px_blind, (va_recv hK hP (ci := 22) (q0 := 0) rfl rfl), (px_pre hP hD hK hS hA hTK hZ [0, 1, 2, 3, 4] rfl rfl (by decide) [] rfl)⟩ rfl rfl hl.1 rfl (lv_room (Nat.le_of_ble_eq_true rfl)) dX17_room_7 ⟨(Nat.le_of_ble_eq_true rfl), (Nat.le_of_ble_eq_true rfl)⟩) (fun r_1 u H locs hw hP hD hK1 hS => ?_)
  have hP : va_P D vwCl (wM ad de 0) H := hP
  have hD : va_D A (wM ad de 0) := hD
  obtain rfl : r_1 = 0 := hw
  refine lv_if_ne (tgt := 19) hx hb dX17_room_10 (by decide) (fun h_ => absurd (by decide) h_) (fun _ => ?_)
  refine lv_aload_n hx hb dX17_room_13 rfl (lv_at hl 0 rfl) ?_
  refine lv_iconst (v := 1) hx hb dX17_room_14 (by decide) ?_
  refine kx_i (wc := wM ad de 0) (wr := []) hP hD hS hA [0, 1, 2, 3, 4] [] rfl rfl (by decide) (by decide) (va_runV (As := [.int 1]) (rest := []) ⟨hx, hb, hml, hown, hts⟩ (c_fails l D de ad 0 1 H.size) (cwV 1 hts gX17_room_X17_fails rfl rfl rfl (by decide +kernel) ⟨Nat.le_of_ble_eq_true rfl, Nat.le_of_ble_eq_true rfl⟩) ⟨px_blind, (va_recv hK hP (ci := 22) (q0 := 0) rfl rfl), (px_pre hP hD hK hS hA hTK hZ [0, 1, 2, 3, 4] rfl rfl (by decide) [] rfl)⟩ rfl rfl hl.1 rfl (lv_room (Nat.le_of_ble_eq_true rfl)) dX17_room_15 ⟨(Nat.le_of_ble_eq_true rfl), (Nat.le_of_ble_eq_true rfl)⟩) (fun r_2 u H locs hw hP hD hK1 hS => ?_)
  have hP : va_P D vwCl (wM ad de 1) H := hP
  have hD : va_D A (wM ad de 1) := hD
  obtain rfl : r_2 = 0 := hw
  refine W.widen (k := 0) (n := 0) (Nat.le_of_ble_eq_true rfl) (Nat.le_of_ble_eq_true rfl) ?_
  have hP9 := hP.sub (ws' := ([(ad 40, .inr (22, [.int 1, .int 0, .int 0, .int 0, .ref (ad 41), .ref (ad 42), .ref (ad 43), .ref (ad 44), .int 500, .int 700, .int 10, .int 200, .ref (ad 45)]))])) [0] rfl
  have hD9 := hD.sub (ws' := ([(ad 40, .inr (22, [.int 1, .int 0, .int 0, .int 0, .ref (ad 41), .ref (ad 42), .ref (ad 43), .ref (ad 44), .int 500, .int 700, .int 10, .int 200, .ref (ad 45)]))])) [0] (by decide) rfl
  have hK9 := hK.sub (tys' := []) [] rfl
  exact W.iret (v := 0) hx hb hr (fun t ht hW => ⟨⟨0, (1, [.int 0, .int 0, .int 0, .ref (ad 41), .ref (ad 42), .ref (ad 43), .ref (ad 44), .int 500, .int 700, .int 10, .int 200, .ref (ad 45)]), rfl, (by first | exact ⟨rfl, rfl⟩ | exact ⟨rfl, rfl, by assumption⟩ | exact Or.inl ⟨rfl, rfl, by assumption⟩ | exact Or.inr ⟨rfl, rfl, by assumption⟩ | exact Or.inl ⟨rfl, rfl, Or.inl (by assumption)⟩ | exact Or.inl ⟨rfl, rfl, Or.inr (by assumption)⟩ | exact Or.inr ⟨rfl, rfl, by assumption, by assumption⟩), ⟨by rw [ht]; exact hP9, va_K.moved hW.alike hK9, hD9⟩⟩, hS.F ht⟩) hS.2.2 dX17_room_18 hlocks

set_option maxHeartbeats 4000000 in
set_option maxRecDepth 100000 in
theorem m_arm (l : Launch) (D : va_G) (de : Nat) (ad : Nat → Nat) (c0 : Int32) (p0 p1 p2 p3 p4 : Int32) (sz : Nat) : Met l yX17_arm wsX17_arm ({ frames := 2, cells := 0, slots := 0, locals := 43 } : Room) (va_Pc [.ref (ad 40), .int p0, .int p1, .int p2, .int p3, .int p4] (PX de D ([]) (wM ad de c0) sz)) (va_Qi (fun (r : Int32) (u : Int32 × List Value) => (u.1 = 1 ∧ r = 0)) (fun u t => PW D ([]) (va_A (wM ad de c0) sz) ([(ad 40, .inr (22, .int u.1 :: u.2))]) t) (va_A (wM ad de c0) sz)) 0 0 (va_A (wM ad de c0) sz) := by
  refine Met.ofW (cc := cX17_arm) (maxL := 8) (ret := (some .int)) (by decide) rfl ?_
  intro p e s m args below meth c s₁ B hml hv
  obtain ⟨rfl, hsz, hP, hK, hD0, hTK, hZ⟩ := hv
  have hx := B.exec
  have hb := B.bytes
  have hr := B.returns
  have hts := atoms_spec (ws := wsX17_arm) B.pre
  have hown : s.vm.findClass RX17 = some m.cls := findClass_of_methodNamed B.named
  have hlocks := B.notSynchronized
  have hin_RX17 : ∀ w ∈ u_ws RX17 TX17 13, w ∈ wsX17_arm := by decide +kernel
  subst hsz
  have hD := hD0.self (sz := s.heap.size)
  generalize hAe : va_A (wM ad de c0) s.heap.size = A at hD hZ ⊢
  have hA : ∀ q : Nat, s.heap.size ≤ q → A q := fun q h => by rw [← hAe]; exact Or.inr h
  have hS : va_S A s.heap s.heap [] := va_S.rf
  have hP : va_P D vwCl (wM ad de c0) s.heap := hP
  have hD : va_D A (wM ad de c0) := hD
  have hl := lv_entry ([.ref (ad 40), .int p0, .int p1, .int p2, .int p3, .int p4]) (n := 8) (Nat.le_of_ble_eq_true rfl)
  rw [lg_entry_eq]
  generalize (lg_sl ([.ref (ad 40), .int p0, .int p1, .int p2, .int p3, .int p4]) ++ List.replicate (8 - (lg_sl ([.ref (ad 40), .int p0, .int p1, .int p2, .int p3, .int p4])).length) Slot.unset).toArray = ls at hl ⊢
  have hl : lv_has ls 8 [(0, .ref (ad 40)), (1, .int p0), (2, .int p1), (3, .int p2), (4, .int p3), (5, .int p4)] := hl
  refine lv_aload_n hx hb dX17_arm_0 rfl (lv_at hl 0 rfl) ?_
  refine lv_iconst (v := 0) hx hb dX17_arm_1 (by decide) ?_
  refine va_put (D := D) (ci := 22) (v := .int 0) (ty := .int) (C := RX17) (T := TX17) (N := 13) hx hb hts hin_RX17 tyX17 tyX17_ok nmX17 hown hK hP hD hS 0 rfl rfl 0 (by decide) (hts (.fieldLink RX17 41 "PopupwrightModel" "code" "I") (by decide +kernel)) (fun _ h9 => h9) rfl (by decide +kernel) rfl rfl (Nat.le_of_ble_eq_true rfl) dX17_arm_2 (fun H locs hP hD hS => ?_)
  have hP : va_P D vwCl (wM ad de 0) H := hP
  have hD : va_D A (wM ad de 0) := hD
  refine lv_aload_n hx hb dX17_arm_5 rfl (lv_at hl 0 rfl) ?_
  refine lv_iload_n hx hb dX17_arm_6 rfl (lv_at hl 1 rfl) ?_
  refine kx_i (wc := wM ad de 0) (wr := []) hP hD hS hA [0, 1, 2, 3, 4] [] rfl rfl (by decide) (by decide) (va_runV (As := [.int p0]) (rest := []) ⟨hx, hb, hml, hown, hts⟩ (c_isFold l D de ad 0 p0 H.size) (cwV 1 hts gX17_arm_X17_isFold rfl rfl rfl (by decide +kernel) ⟨Nat.le_of_ble_eq_true rfl, Nat.le_of_ble_eq_true rfl⟩) ⟨px_blind, (va_recv hK hP (ci := 22) (q0 := 0) rfl rfl), (px_pre hP hD hK hS hA hTK hZ [0, 1, 2, 3, 4] rfl rfl (by decide) [] rfl)⟩ rfl rfl hl.1 rfl (lv_room (Nat.le_of_ble_eq_true rfl)) dX17_arm_7 ⟨(Nat.le_of_ble_eq_true rfl), (Nat.le_of_ble_eq_true rfl)⟩) (fun r_1 u H locs hw hP hD hK1 hS => ?_)
  have hP : va_P D vwCl (wM ad de 0) H := hP
  have hD : va_D A (wM ad de 0) := hD
  obtain rfl : r_1 = 0 := hw
  refine lv_if_ne (tgt := 19) hx hb dX17_arm_10 (by decide) (fun h_ => absurd (by decide) h_) (fun _ => ?_)
  refine lv_aload_n hx hb dX17_arm_13 rfl (lv_at hl 0 rfl) ?_
  refine lv_iconst (v := 1) hx hb dX17_arm_14 (by decide) ?_
  refine kx_i (wc := wM ad de 0) (wr := []) hP hD hS hA [0, 1, 2, 3, 4] [] rfl rfl (by decide) (by decide) (va_runV (As := [.int 1]) (rest := []) ⟨hx, hb, hml, hown, hts⟩ (c_fails l D de ad 0 1 H.size) (cwV 1 hts gX17_arm_X17_fails rfl rfl rfl (by decide +kernel) ⟨Nat.le_of_ble_eq_true rfl, Nat.le_of_ble_eq_true rfl⟩) ⟨px_blind, (va_recv hK hP (ci := 22) (q0 := 0) rfl rfl), (px_pre hP hD hK hS hA hTK hZ [0, 1, 2, 3, 4] rfl rfl (by decide) [] rfl)⟩ rfl rfl hl.1 rfl (lv_room (Nat.le_of_ble_eq_true rfl)) dX17_arm_15 ⟨(Nat.le_of_ble_eq_true rfl), (Nat.le_of_ble_eq_true rfl)⟩) (fun r_2 u H locs hw hP hD hK1 hS => ?_)
  have hP : va_P D vwCl (wM ad de 1) H := hP
  have hD : va_D A (wM ad de 1) := hD
  obtain rfl : r_2 = 0 := hw
  refine W.widen (k := 0) (n := 0) (Nat.le_of_ble_eq_true rfl) (Nat.le_of_ble_eq_true rfl) ?_
  have hP9 := hP.sub (ws' := ([(ad 40, .inr (22, [.int 1, .int 0, .int 0, .int 0, .ref (ad 41), .ref (ad 42), .ref (ad 43), .ref (ad 44), .int 500, .int 700, .int 10, .int 200, .ref (ad 45)]))])) [0] rfl
  have hD9 := hD.sub (ws' := ([(ad 40, .inr (22, [.int 1, .int 0, .int 0, .int 0, .ref (ad 41), .ref (ad 42), .ref (ad 43), .ref (ad 44), .int 500, .int 700, .int 10, .int 200, .ref (ad 45)]))])) [0] (by decide) rfl
  have hK9 := hK.sub (tys' := []) [] rfl
  exact W.iret (v := 0) hx hb hr (fun t ht hW => ⟨⟨0, (1, [.int 0, .int 0, .int 0, .ref (ad 41), .ref (ad 42), .ref (ad 43), .ref (ad 44), .int 500, .int 700, .int 10, .int 200, .ref (ad 45)]), rfl, (by first | exact ⟨rfl, rfl⟩ | exact ⟨rfl, rfl, by assumption⟩ | exact Or.inl ⟨rfl, rfl, by assumption⟩ | exact Or.inr ⟨rfl, rfl, by assumption⟩ | exact Or.inl ⟨rfl, rfl, Or.inl (by assumption)⟩ | exact Or.inl ⟨rfl, rfl, Or.inr (by assumption)⟩ | exact Or.inr ⟨rfl, rfl, by assumption, by assumption⟩), ⟨by rw [ht]; exact hP9, va_K.moved hW.alike hK9, hD9⟩⟩, hS.F ht⟩) hS.2.2 dX17_arm_18 hlocks

set_option maxHeartbeats 4000000 in
set_option maxRecDepth 100000 in
theorem m_across (l : Launch) (D : va_G) (de : Nat) (ad : Nat → Nat) (c0 : Int32) (p0 p1 p2 : Int32) (sz : Nat) : Met l yX17_across wsX17_across ({ frames := 2, cells := 0, slots := 0, locals := 44 } : Room) (va_Pc [.ref (ad 40), .int p0, .int p1, .int p2] (PX de D ([]) (wM ad de c0) sz)) (va_Qi (fun (r : Int32) (u : Int32 × List Value) => (u.1 = 1 ∧ r = 0)) (fun u t => PW D ([]) (va_A (wM ad de c0) sz) ([(ad 40, .inr (22, .int u.1 :: u.2))]) t) (va_A (wM ad de c0) sz)) 0 0 (va_A (wM ad de c0) sz) := by
  refine Met.ofW (cc := cX17_across) (maxL := 5) (ret := (some .int)) (by decide) rfl ?_
  intro p e s m args below meth c s₁ B hml hv
  obtain ⟨rfl, hsz, hP, hK, hD0, hTK, hZ⟩ := hv
  have hx := B.exec
  have hb := B.bytes
  have hr := B.returns
  have hts := atoms_spec (ws := wsX17_across) B.pre
  have hown : s.vm.findClass RX17 = some m.cls := findClass_of_methodNamed B.named
  have hlocks := B.notSynchronized
  have hin_RX17 : ∀ w ∈ u_ws RX17 TX17 13, w ∈ wsX17_across := by decide +kernel
  subst hsz
  have hD := hD0.self (sz := s.heap.size)
  generalize hAe : va_A (wM ad de c0) s.heap.size = A at hD hZ ⊢
  have hA : ∀ q : Nat, s.heap.size ≤ q → A q := fun q h => by rw [← hAe]; exact Or.inr h
  have hS : va_S A s.heap s.heap [] := va_S.rf
  have hP : va_P D vwCl (wM ad de c0) s.heap := hP
  have hD : va_D A (wM ad de c0) := hD
  have hl := lv_entry ([.ref (ad 40), .int p0, .int p1, .int p2]) (n := 5) (Nat.le_of_ble_eq_true rfl)
  rw [lg_entry_eq]
  generalize (lg_sl ([.ref (ad 40), .int p0, .int p1, .int p2]) ++ List.replicate (5 - (lg_sl ([.ref (ad 40), .int p0, .int p1, .int p2])).length) Slot.unset).toArray = ls at hl ⊢
  have hl : lv_has ls 5 [(0, .ref (ad 40)), (1, .int p0), (2, .int p1), (3, .int p2)] := hl
  refine lv_aload_n hx hb dX17_across_0 rfl (lv_at hl 0 rfl) ?_
  refine lv_iconst (v := 0) hx hb dX17_across_1 (by decide) ?_
  refine va_put (D := D) (ci := 22) (v := .int 0) (ty := .int) (C := RX17) (T := TX17) (N := 13) hx hb hts hin_RX17 tyX17 tyX17_ok nmX17 hown hK hP hD hS 0 rfl rfl 0 (by decide) (hts (.fieldLink RX17 41 "PopupwrightModel" "code" "I") (by decide +kernel)) (fun _ h9 => h9) rfl (by decide +kernel) rfl rfl (Nat.le_of_ble_eq_true rfl) dX17_across_2 (fun H locs hP hD hS => ?_)
  have hP : va_P D vwCl (wM ad de 0) H := hP
  have hD : va_D A (wM ad de 0) := hD
  refine lv_aload_n hx hb dX17_across_5 rfl (lv_at hl 0 rfl) ?_
  refine lv_iload_n hx hb dX17_across_6 rfl (lv_at hl 1 rfl) ?_
  refine kx_q (wc := wM ad de 0) (wr := []) hP hD hS hA [0, 1, 2, 3, 4] [] rfl rfl (by decide) (by decide) (va_runV (As := [.int p0]) (rest := []) ⟨hx, hb, hml, hown, hts⟩ (c_stripAt l D de ad 0 p0 H.size) (cwV 1 hts gX17_across_X17_stripAt rfl rfl rfl (by decide +kernel) ⟨Nat.le_of_ble_eq_true rfl, Nat.le_of_ble_eq_true rfl⟩) ⟨px_blind, (va_recv hK hP (ci := 22) (q0 := 0) rfl rfl), (px_pre hP hD hK hS hA hTK hZ [0, 1, 2, 3, 4] rfl rfl (by decide) [] rfl)⟩ rfl rfl hl.1 rfl (lv_room (Nat.le_of_ble_eq_true rfl)) dX17_across_7 ⟨(Nat.le_of_ble_eq_true rfl), (Nat.le_of_ble_eq_true rfl)⟩) (fun r_1 u H locs hw hP hD hK1 hS => ?_)
  have hP : va_P D vwCl (wM ad de 0) H := hP
  have hD : va_D A (wM ad de 0) := hD
  obtain rfl : r_1 = none := hw
  refine lv_astoreN (lv' := [(4, .null), (0, .ref (ad 40)), (1, .int p0), (2, .int p1), (3, .int p2)]) hx hb dX17_across_10 hl (by decide) rfl (fun ls hl => ?_)
  refine lv_aloadN hx hb dX17_across_12 (lv_at hl 0 rfl) ?_
  refine lv_ifnonnullN hx hb dX17_across_14 ?_
  refine lv_aload_n hx hb dX17_across_17 rfl (lv_at hl 1 rfl) ?_
  refine lv_iconst (v := 1) hx hb dX17_across_18 (by decide) ?_
  refine kx_i (wc := wM ad de 0) (wr := []) hP hD hS hA [0, 1, 2, 3, 4] [] rfl rfl (by decide) (by decide) (va_runV (As := [.int 1]) (rest := []) ⟨hx, hb, hml, hown, hts⟩ (c_fails l D de ad 0 1 H.size) (cwV 1 hts gX17_across_X17_fails rfl rfl rfl (by decide +kernel) ⟨Nat.le_of_ble_eq_true rfl, Nat.le_of_ble_eq_true rfl⟩) ⟨px_blind, (va_recv hK hP (ci := 22) (q0 := 0) rfl rfl), (px_pre hP hD hK hS hA hTK hZ [0, 1, 2, 3, 4] rfl rfl (by decide) [] rfl)⟩ rfl rfl hl.1 rfl (lv_room (Nat.le_of_ble_eq_true rfl)) dX17_across_19 ⟨(Nat.le_of_ble_eq_true rfl), (Nat.le_of_ble_eq_true rfl)⟩) (fun r_2 u H locs hw hP hD hK1 hS => ?_)
  have hP : va_P D vwCl (wM ad de 1) H := hP
  have hD : va_D A (wM ad de 1) := hD
  obtain rfl : r_2 = 0 := hw
  refine W.widen (k := 0) (n := 0) (Nat.le_of_ble_eq_true rfl) (Nat.le_of_ble_eq_true rfl) ?_
  have hP9 := hP.sub (ws' := ([(ad 40, .inr (22, [.int 1, .int 0, .int 0, .int 0, .ref (ad 41), .ref (ad 42), .ref (ad 43), .ref (ad 44), .int 500, .int 700, .int 10, .int 200, .ref (ad 45)]))])) [0] rfl
  have hD9 := hD.sub (ws' := ([(ad 40, .inr (22, [.int 1, .int 0, .int 0, .int 0, .ref (ad 41), .ref (ad 42), .ref (ad 43), .ref (ad 44), .int 500, .int 700, .int 10, .int 200, .ref (ad 45)]))])) [0] (by decide) rfl
  have hK9 := hK.sub (tys' := []) [] rfl
  exact W.iret (v := 0) hx hb hr (fun t ht hW => ⟨⟨0, (1, [.int 0, .int 0, .int 0, .ref (ad 41), .ref (ad 42), .ref (ad 43), .ref (ad 44), .int 500, .int 700, .int 10, .int 200, .ref (ad 45)]), rfl, (by first | exact ⟨rfl, rfl⟩ | exact ⟨rfl, rfl, by assumption⟩ | exact Or.inl ⟨rfl, rfl, by assumption⟩ | exact Or.inr ⟨rfl, rfl, by assumption⟩ | exact Or.inl ⟨rfl, rfl, Or.inl (by assumption)⟩ | exact Or.inl ⟨rfl, rfl, Or.inr (by assumption)⟩ | exact Or.inr ⟨rfl, rfl, by assumption, by assumption⟩), ⟨by rw [ht]; exact hP9, va_K.moved hW.alike hK9, hD9⟩⟩, hS.F ht⟩) hS.2.2 dX17_across_22 hlocks

set_option maxHeartbeats 4000000 in
set_option maxRecDepth 100000 in
theorem m_above (l : Launch) (D : va_G) (de : Nat) (ad : Nat → Nat) (c0 : Int32) (p0 p1 p2 : Int32) (sz : Nat) : Met l yX17_above wsX17_above ({ frames := 2, cells := 0, slots := 0, locals := 44 } : Room) (va_Pc [.ref (ad 40), .int p0, .int p1, .int p2] (PX de D ([]) (wM ad de c0) sz)) (va_Qi (fun (r : Int32) (u : Int32 × List Value) => (u.1 = 1 ∧ r = 0)) (fun u t => PW D ([]) (va_A (wM ad de c0) sz) ([(ad 40, .inr (22, .int u.1 :: u.2))]) t) (va_A (wM ad de c0) sz)) 0 0 (va_A (wM ad de c0) sz) := by
  refine Met.ofW (cc := cX17_above) (maxL := 5) (ret := (some .int)) (by decide) rfl ?_
  intro p e s m args below meth c s₁ B hml hv
  obtain ⟨rfl, hsz, hP, hK, hD0, hTK, hZ⟩ := hv
  have hx := B.exec
  have hb := B.bytes
  have hr := B.returns
  have hts := atoms_spec (ws := wsX17_above) B.pre
  have hown : s.vm.findClass RX17 = some m.cls := findClass_of_methodNamed B.named
  have hlocks := B.notSynchronized
  have hin_RX17 : ∀ w ∈ u_ws RX17 TX17 13, w ∈ wsX17_above := by decide +kernel
  subst hsz
  have hD := hD0.self (sz := s.heap.size)
  generalize hAe : va_A (wM ad de c0) s.heap.size = A at hD hZ ⊢
  have hA : ∀ q : Nat, s.heap.size ≤ q → A q := fun q h => by rw [← hAe]; exact Or.inr h
  have hS : va_S A s.heap s.heap [] := va_S.rf
  have hP : va_P D vwCl (wM ad de c0) s.heap := hP
  have hD : va_D A (wM ad de c0) := hD
  have hl := lv_entry ([.ref (ad 40), .int p0, .int p1, .int p2]) (n := 5) (Nat.le_of_ble_eq_true rfl)
  rw [lg_entry_eq]
  generalize (lg_sl ([.ref (ad 40), .int p0, .int p1, .int p2]) ++ List.replicate (5 - (lg_sl ([.ref (ad 40), .int p0, .int p1, .int p2])).length) Slot.unset).toArray = ls at hl ⊢
  have hl : lv_has ls 5 [(0, .ref (ad 40)), (1, .int p0), (2, .int p1), (3, .int p2)] := hl
  refine lv_aload_n hx hb dX17_above_0 rfl (lv_at hl 0 rfl) ?_
  refine lv_iconst (v := 0) hx hb dX17_above_1 (by decide) ?_
  refine va_put (D := D) (ci := 22) (v := .int 0) (ty := .int) (C := RX17) (T := TX17) (N := 13) hx hb hts hin_RX17 tyX17 tyX17_ok nmX17 hown hK hP hD hS 0 rfl rfl 0 (by decide) (hts (.fieldLink RX17 41 "PopupwrightModel" "code" "I") (by decide +kernel)) (fun _ h9 => h9) rfl (by decide +kernel) rfl rfl (Nat.le_of_ble_eq_true rfl) dX17_above_2 (fun H locs hP hD hS => ?_)
  have hP : va_P D vwCl (wM ad de 0) H := hP
  have hD : va_D A (wM ad de 0) := hD
  refine lv_aload_n hx hb dX17_above_5 rfl (lv_at hl 0 rfl) ?_
  refine lv_iload_n hx hb dX17_above_6 rfl (lv_at hl 1 rfl) ?_
  refine kx_q (wc := wM ad de 0) (wr := []) hP hD hS hA [0, 1, 2, 3, 4] [] rfl rfl (by decide) (by decide) (va_runV (As := [.int p0]) (rest := []) ⟨hx, hb, hml, hown, hts⟩ (c_stripAt l D de ad 0 p0 H.size) (cwV 1 hts gX17_above_X17_stripAt rfl rfl rfl (by decide +kernel) ⟨Nat.le_of_ble_eq_true rfl, Nat.le_of_ble_eq_true rfl⟩) ⟨px_blind, (va_recv hK hP (ci := 22) (q0 := 0) rfl rfl), (px_pre hP hD hK hS hA hTK hZ [0, 1, 2, 3, 4] rfl rfl (by decide) [] rfl)⟩ rfl rfl hl.1 rfl (lv_room (Nat.le_of_ble_eq_true rfl)) dX17_above_7 ⟨(Nat.le_of_ble_eq_true rfl), (Nat.le_of_ble_eq_true rfl)⟩) (fun r_1 u H locs hw hP hD hK1 hS => ?_)
  have hP : va_P D vwCl (wM ad de 0) H := hP
  have hD : va_D A (wM ad de 0) := hD
  obtain rfl : r_1 = none := hw
  refine lv_astoreN (lv' := [(4, .null), (0, .ref (ad 40)), (1, .int p0), (2, .int p1), (3, .int p2)]) hx hb dX17_above_10 hl (by decide) rfl (fun ls hl => ?_)
  refine lv_aloadN hx hb dX17_above_12 (lv_at hl 0 rfl) ?_
  refine lv_ifnonnullN hx hb dX17_above_14 ?_
  refine lv_aload_n hx hb dX17_above_17 rfl (lv_at hl 1 rfl) ?_
  refine lv_iconst (v := 1) hx hb dX17_above_18 (by decide) ?_
  refine kx_i (wc := wM ad de 0) (wr := []) hP hD hS hA [0, 1, 2, 3, 4] [] rfl rfl (by decide) (by decide) (va_runV (As := [.int 1]) (rest := []) ⟨hx, hb, hml, hown, hts⟩ (c_fails l D de ad 0 1 H.size) (cwV 1 hts gX17_above_X17_fails rfl rfl rfl (by decide +kernel) ⟨Nat.le_of_ble_eq_true rfl, Nat.le_of_ble_eq_true rfl⟩) ⟨px_blind, (va_recv hK hP (ci := 22) (q0 := 0) rfl rfl), (px_pre hP hD hK hS hA hTK hZ [0, 1, 2, 3, 4] rfl rfl (by decide) [] rfl)⟩ rfl rfl hl.1 rfl (lv_room (Nat.le_of_ble_eq_true rfl)) dX17_above_19 ⟨(Nat.le_of_ble_eq_true rfl), (Nat.le_of_ble_eq_true rfl)⟩) (fun r_2 u H locs hw hP hD hK1 hS => ?_)
  have hP : va_P D vwCl (wM ad de 1) H := hP
  have hD : va_D A (wM ad de 1) := hD
  obtain rfl : r_2 = 0 := hw
  refine W.widen (k := 0) (n := 0) (Nat.le_of_ble_eq_true rfl) (Nat.le_of_ble_eq_true rfl) ?_
  have hP9 := hP.sub (ws' := ([(ad 40, .inr (22, [.int 1, .int 0, .int 0, .int 0, .ref (ad 41), .ref (ad 42), .ref (ad 43), .ref (ad 44), .int 500, .int 700, .int 10, .int 200, .ref (ad 45)]))])) [0] rfl
  have hD9 := hD.sub (ws' := ([(ad 40, .inr (22, [.int 1, .int 0, .int 0, .int 0, .ref (ad 41), .ref (ad 42), .ref (ad 43), .ref (ad 44), .int 500, .int 700, .int 10, .int 200, .ref (ad 45)]))])) [0] (by decide) rfl
  have hK9 := hK.sub (tys' := []) [] rfl
  exact W.iret (v := 0) hx hb hr (fun t ht hW => ⟨⟨0, (1, [.int 0, .int 0, .int 0, .ref (ad 41), .ref (ad 42), .ref (ad 43), .ref (ad 44), .int 500, .int 700, .int 10, .int 200, .ref (ad 45)]), rfl, (by first | exact ⟨rfl, rfl⟩ | exact ⟨rfl, rfl, by assumption⟩ | exact Or.inl ⟨rfl, rfl, by assumption⟩ | exact Or.inr ⟨rfl, rfl, by assumption⟩ | exact Or.inl ⟨rfl, rfl, Or.inl (by assumption)⟩ | exact Or.inl ⟨rfl, rfl, Or.inr (by assumption)⟩ | exact Or.inr ⟨rfl, rfl, by assumption, by assumption⟩), ⟨by rw [ht]; exact hP9, va_K.moved hW.alike hK9, hD9⟩⟩, hS.F ht⟩) hS.2.2 dX17_above_22 hlocks

set_option maxHeartbeats 4000000 in
set_option maxRecDepth 100000 in
theorem m_apart (l : Launch) (D : va_G) (de : Nat) (ad : Nat → Nat) (c0 : Int32) (p0 p1 p2 : Int32) (sz : Nat) : Met l yX17_apart wsX17_apart ({ frames := 2, cells := 0, slots := 0, locals := 44 } : Room) (va_Pc [.ref (ad 40), .int p0, .int p1, .int p2] (PX de D ([]) (wM ad de c0) sz)) (va_Ql (fun (r : Int64) (u : Int32 × List Value) => (u.1 = 1 ∧ r = 0)) (fun u t => PW D ([]) (va_A (wM ad de c0) sz) ([(ad 40, .inr (22, .int u.1 :: u.2))]) t) (va_A (wM ad de c0) sz)) 0 0 (va_A (wM ad de c0) sz) := by
  refine Met.ofW (cc := cX17_apart) (maxL := 10) (ret := (some .long)) (by decide) rfl ?_
  intro p e s m args below meth c s₁ B hml hv
  obtain ⟨rfl, hsz, hP, hK, hD0, hTK, hZ⟩ := hv
  have hx := B.exec
  have hb := B.bytes
  have hr := B.returns
  have hts := atoms_spec (ws := wsX17_apart) B.pre
  have hown : s.vm.findClass RX17 = some m.cls := findClass_of_methodNamed B.named
  have hlocks := B.notSynchronized
  have hin_RX17 : ∀ w ∈ u_ws RX17 TX17 13, w ∈ wsX17_apart := by decide +kernel
  subst hsz
  have hD := hD0.self (sz := s.heap.size)
  generalize hAe : va_A (wM ad de c0) s.heap.size = A at hD hZ ⊢
  have hA : ∀ q : Nat, s.heap.size ≤ q → A q := fun q h => by rw [← hAe]; exact Or.inr h
  have hS : va_S A s.heap s.heap [] := va_S.rf
  have hP : va_P D vwCl (wM ad de c0) s.heap := hP
  have hD : va_D A (wM ad de c0) := hD
  have hl := lv_entry ([.ref (ad 40), .int p0, .int p1, .int p2]) (n := 10) (Nat.le_of_ble_eq_true rfl)
  rw [lg_entry_eq]
  generalize (lg_sl ([.ref (ad 40), .int p0, .int p1, .int p2]) ++ List.replicate (10 - (lg_sl ([.ref (ad 40), .int p0, .int p1, .int p2])).length) Slot.unset).toArray = ls at hl ⊢
  have hl : lv_has ls 10 [(0, .ref (ad 40)), (1, .int p0), (2, .int p1), (3, .int p2)] := hl
  refine lv_aload_n hx hb dX17_apart_0 rfl (lv_at hl 0 rfl) ?_
  refine lv_iload_n hx hb dX17_apart_1 rfl (lv_at hl 1 rfl) ?_
  refine kx_q (wc := wM ad de c0) (wr := []) hP hD hS hA [0, 1, 2, 3, 4] [] rfl rfl (by decide) (by decide) (va_runV (As := [.int p0]) (rest := []) ⟨hx, hb, hml, hown, hts⟩ (c_stripAt l D de ad c0 p0 s.heap.size) (cwV 1 hts gX17_apart_X17_stripAt rfl rfl rfl (by decide +kernel) ⟨Nat.le_of_ble_eq_true rfl, Nat.le_of_ble_eq_true rfl⟩) ⟨px_blind, (va_recv hK hP (ci := 22) (q0 := 0) rfl rfl), (px_pre hP hD hK hS hA hTK hZ [0, 1, 2, 3, 4] rfl rfl (by decide) [] rfl)⟩ rfl rfl hl.1 rfl (lv_room (Nat.le_of_ble_eq_true rfl)) dX17_apart_2 ⟨(Nat.le_of_ble_eq_true rfl), (Nat.le_of_ble_eq_true rfl)⟩) (fun r_1 u H locs hw hP hD hK1 hS => ?_)
  have hP : va_P D vwCl (wM ad de c0) H := hP
  have hD : va_D A (wM ad de c0) := hD
  obtain rfl : r_1 = none := hw
  refine lv_astoreN (lv' := [(4, .null), (0, .ref (ad 40)), (1, .int p0), (2, .int p1), (3, .int p2)]) hx hb dX17_apart_5 hl (by decide) rfl (fun ls hl => ?_)
  refine lv_aload_n hx hb dX17_apart_7 rfl (lv_at hl 1 rfl) ?_
  refine lv_iload_n hx hb dX17_apart_8 rfl (lv_at hl 3 rfl) ?_
  refine kx_q (wc := wM ad de c0) (wr := []) hP hD hS hA [0, 1, 2, 3, 4] [] rfl rfl (by decide) (by decide) (va_runV (As := [.int p1]) (rest := []) ⟨hx, hb, hml, hown, hts⟩ (c_stripAt l D de ad c0 p1 H.size) (cwV 1 hts gX17_apart_X17_stripAt rfl rfl rfl (by decide +kernel) ⟨Nat.le_of_ble_eq_true rfl, Nat.le_of_ble_eq_true rfl⟩) ⟨px_blind, (va_recv hK hP (ci := 22) (q0 := 0) rfl rfl), (px_pre hP hD hK hS hA hTK hZ [0, 1, 2, 3, 4] rfl rfl (by decide) [] rfl)⟩ rfl rfl hl.1 rfl (lv_room (Nat.le_of_ble_eq_true rfl)) dX17_apart_9 ⟨(Nat.le_of_ble_eq_true rfl), (Nat.le_of_ble_eq_true rfl)⟩) (fun r_2 u H locs hw hP hD hK1 hS => ?_)
  have hP : va_P D vwCl (wM ad de c0) H := hP
  have hD : va_D A (wM ad de c0) := hD
  obtain rfl : r_2 = none := hw
  refine lv_astoreN (lv' := [(5, .null), (4, .null), (0, .ref (ad 40)), (1, .int p0), (2, .int p1), (3, .int p2)]) hx hb dX17_apart_12 hl (by decide) rfl (fun ls hl => ?_)
  refine lv_aload_n hx hb dX17_apart_14 rfl (lv_at hl 2 rfl) ?_
  refine lv_aloadN hx hb dX17_apart_15 (lv_at hl 1 rfl) ?_
  refine lv_ifnullN (tgt := 25) hx hb dX17_apart_17 (by decide) ?_
  refine lv_iconst (v := 1) hx hb dX17_apart_25 (by decide) ?_
  refine lv_goto (tgt := 44) hx hb dX17_apart_26 (by decide) ?_
  refine va_put (D := D) (ci := 22) (v := .int 1) (ty := .int) (C := RX17) (T := TX17) (N := 13) hx hb hts hin_RX17 tyX17 tyX17_ok nmX17 hown hK hP hD hS 0 rfl rfl 0 (by decide) (hts (.fieldLink RX17 41 "PopupwrightModel" "code" "I") (by decide +kernel)) (fun _ h9 => h9) rfl (by decide +kernel) rfl rfl (Nat.le_of_ble_eq_true rfl) dX17_apart_44 (fun H locs hP hD hS => ?_)
  have hP : va_P D vwCl (wM ad de 1) H := hP
  have hD : va_D A (wM ad de 1) := hD
  refine lv_aload_n hx hb dX17_apart_47 rfl (lv_at hl 2 rfl) ?_
  refine va_get (D := D) (ci := 22) (v := .int 1) (C := RX17) (T := TX17) (N := 13) hx hb hts hin_RX17 hown hK hP 0 rfl rfl 0 (by decide) (hts (.fieldLink RX17 41 "PopupwrightModel" "code" "I") (by decide +kernel)) (fun _ h9 => h9) rfl dX17_apart_48 ?_
  refine lv_if_le (tgt := 56) hx hb dX17_apart_51 (by decide) (fun h_ => absurd h_ (by decide)) (fun _ => ?_)
  refine lv_lconst (v := 0) hx hb dX17_apart_54 (by decide) ?_
  refine W.widen (k := 0) (n := 0) (Nat.le_of_ble_eq_true rfl) (Nat.le_of_ble_eq_true rfl) ?_
  have hP9 := hP.sub (ws' := ([(ad 40, .inr (22, [.int 1, .int 0, .int 0, .int 0, .ref (ad 41), .ref (ad 42), .ref (ad 43), .ref (ad 44), .int 500, .int 700, .int 10, .int 200, .ref (ad 45)]))])) [0] rfl
  have hD9 := hD.sub (ws' := ([(ad 40, .inr (22, [.int 1, .int 0, .int 0, .int 0, .ref (ad 41), .ref (ad 42), .ref (ad 43), .ref (ad 44), .int 500, .int 700, .int 10, .int 200, .ref (ad 45)]))])) [0] (by decide) rfl
  have hK9 := hK.sub (tys' := []) [] rfl
  exact W.lret (v := 0) hx hb hr (fun t ht hW => ⟨⟨0, (1, [.int 0, .int 0, .int 0, .ref (ad 41), .ref (ad 42), .ref (ad 43), .ref (ad 44), .int 500, .int 700, .int 10, .int 200, .ref (ad 45)]), rfl, (by first | exact ⟨rfl, rfl⟩ | exact ⟨rfl, rfl, by assumption⟩ | exact Or.inl ⟨rfl, rfl, by assumption⟩ | exact Or.inr ⟨rfl, rfl, by assumption⟩ | exact Or.inl ⟨rfl, rfl, Or.inl (by assumption)⟩ | exact Or.inl ⟨rfl, rfl, Or.inr (by assumption)⟩ | exact Or.inr ⟨rfl, rfl, by assumption, by assumption⟩), ⟨by rw [ht]; exact hP9, va_K.moved hW.alike hK9, hD9⟩⟩, hS.F ht⟩) hS.2.2 dX17_apart_55 hlocks

set_option maxHeartbeats 4000000 in
set_option maxRecDepth 100000 in
theorem m_doesShut (l : Launch) (D : va_G) (de : Nat) (ad : Nat → Nat) (c0 : Int32) (sz : Nat) : Met l yX17_doesShut wsX17_doesShut ({ frames := 0, cells := 0, slots := 0, locals := 0 } : Room) (va_Pc [.ref (ad 40)] (PX de D ([]) (wM ad de c0) sz)) (va_Qi (fun (r : Int32) (u : Int32 × List Value) => (u.1 = 1 ∧ r = 0)) (fun u t => PW D ([]) (va_A (wM ad de c0) sz) ([(ad 40, .inr (22, .int u.1 :: u.2))]) t) (va_A (wM ad de c0) sz)) 0 0 (va_A (wM ad de c0) sz) := by
  refine Met.ofW (cc := cX17_doesShut) (maxL := 1) (ret := (some .boolean)) (by decide) rfl ?_
  intro p e s m args below meth c s₁ B hml hv
  obtain ⟨rfl, hsz, hP, hK, hD0, hTK, hZ⟩ := hv
  have hx := B.exec
  have hb := B.bytes
  have hr := B.returns
  have hts := atoms_spec (ws := wsX17_doesShut) B.pre
  have hown : s.vm.findClass RX17 = some m.cls := findClass_of_methodNamed B.named
  have hlocks := B.notSynchronized
  have hin_RX17 : ∀ w ∈ u_ws RX17 TX17 13, w ∈ wsX17_doesShut := by decide +kernel
  subst hsz
  have hD := hD0.self (sz := s.heap.size)
  generalize hAe : va_A (wM ad de c0) s.heap.size = A at hD hZ ⊢
  have hA : ∀ q : Nat, s.heap.size ≤ q → A q := fun q h => by rw [← hAe]; exact Or.inr h
  have hS : va_S A s.heap s.heap [] := va_S.rf
  have hP : va_P D vwCl (wM ad de c0) s.heap := hP
  have hD : va_D A (wM ad de c0) := hD
  have hl := lv_entry ([.ref (ad 40)]) (n := 1) (Nat.le_of_ble_eq_true rfl)
  rw [lg_entry_eq]
  generalize (lg_sl ([.ref (ad 40)]) ++ List.replicate (1 - (lg_sl ([.ref (ad 40)])).length) Slot.unset).toArray = ls at hl ⊢
  have hl : lv_has ls 1 [(0, .ref (ad 40))] := hl
  refine lv_aload_n hx hb dX17_doesShut_0 rfl (lv_at hl 0 rfl) ?_
  refine lv_aload_n hx hb dX17_doesShut_1 rfl (lv_at hl 0 rfl) ?_
  refine va_get (D := D) (ci := 22) (v := .int 0) (C := RX17) (T := TX17) (N := 13) hx hb hts hin_RX17 hown hK hP 0 rfl rfl 1 (by decide) (hts (.fieldLink RX17 58 "PopupwrightModel" "hasSpread" "Z") (by decide +kernel)) (fun _ h9 => h9) rfl dX17_doesShut_2 ?_
  refine lv_if_eq (tgt := 12) hx hb dX17_doesShut_5 (by decide) (fun _ => ?_) (fun h_ => absurd (by decide) h_)
  refine lv_iconst (v := 1) hx hb dX17_doesShut_12 (by decide) ?_
  refine va_put (D := D) (ci := 22) (v := .int 1) (ty := .int) (C := RX17) (T := TX17) (N := 13) hx hb hts hin_RX17 tyX17 tyX17_ok nmX17 hown hK hP hD hS 0 rfl rfl 0 (by decide) (hts (.fieldLink RX17 41 "PopupwrightModel" "code" "I") (by decide +kernel)) (fun _ h9 => h9) rfl (by decide +kernel) rfl rfl (Nat.le_of_ble_eq_true rfl) dX17_doesShut_13 (fun H locs hP hD hS => ?_)
  have hP : va_P D vwCl (wM ad de 1) H := hP
  have hD : va_D A (wM ad de 1) := hD
  refine lv_aload_n hx hb dX17_doesShut_16 rfl (lv_at hl 0 rfl) ?_
  refine va_get (D := D) (ci := 22) (v := .int 0) (C := RX17) (T := TX17) (N := 13) hx hb hts hin_RX17 hown hK hP 0 rfl rfl 1 (by decide) (hts (.fieldLink RX17 58 "PopupwrightModel" "hasSpread" "Z") (by decide +kernel)) (fun _ h9 => h9) rfl dX17_doesShut_17 ?_
  refine lv_if_eq (tgt := 34) hx hb dX17_doesShut_20 (by decide) (fun _ => ?_) (fun h_ => absurd (by decide) h_)
  refine lv_iconst (v := 0) hx hb dX17_doesShut_34 (by decide) ?_
  refine W.widen (k := 0) (n := 0) (Nat.le_of_ble_eq_true rfl) (Nat.le_of_ble_eq_true rfl) ?_
  have hP9 := hP.sub (ws' := ([(ad 40, .inr (22, [.int 1, .int 0, .int 0, .int 0, .ref (ad 41), .ref (ad 42), .ref (ad 43), .ref (ad 44), .int 500, .int 700, .int 10, .int 200, .ref (ad 45)]))])) [0] rfl
  have hD9 := hD.sub (ws' := ([(ad 40, .inr (22, [.int 1, .int 0, .int 0, .int 0, .ref (ad 41), .ref (ad 42), .ref (ad 43), .ref (ad 44), .int 500, .int 700, .int 10, .int 200, .ref (ad 45)]))])) [0] (by decide) rfl
  have hK9 := hK.sub (tys' := []) [] rfl
  exact W.zret (v := 0) hx hb hr (by decide) (fun t ht hW => ⟨⟨0, (1, [.int 0, .int 0, .int 0, .ref (ad 41), .ref (ad 42), .ref (ad 43), .ref (ad 44), .int 500, .int 700, .int 10, .int 200, .ref (ad 45)]), rfl, (by first | exact ⟨rfl, rfl⟩ | exact ⟨rfl, rfl, by assumption⟩ | exact Or.inl ⟨rfl, rfl, by assumption⟩ | exact Or.inr ⟨rfl, rfl, by assumption⟩ | exact Or.inl ⟨rfl, rfl, Or.inl (by assumption)⟩ | exact Or.inl ⟨rfl, rfl, Or.inr (by assumption)⟩ | exact Or.inr ⟨rfl, rfl, by assumption, by assumption⟩), ⟨by rw [ht]; exact hP9, va_K.moved hW.alike hK9, hD9⟩⟩, hS.F ht⟩) hS.2.2 dX17_doesShut_35 hlocks

set_option maxHeartbeats 4000000 in
set_option maxRecDepth 100000 in
theorem m_sticksOut (l : Launch) (D : va_G) (de : Nat) (ad : Nat → Nat) (c0 : Int32) (p0 : Int32) (sz : Nat) : Met l yX17_sticksOut wsX17_sticksOut ({ frames := 2, cells := 0, slots := 0, locals := 43 } : Room) (va_Pc [.ref (ad 40), .int p0] (PX de D ([]) (wM ad de c0) sz)) (va_Qi (fun (r : Int32) (u : Int32 × List Value) => (u.1 = 1 ∧ r = 0)) (fun u t => PW D ([]) (va_A (wM ad de c0) sz) ([(ad 40, .inr (22, .int u.1 :: u.2))]) t) (va_A (wM ad de c0) sz)) 0 0 (va_A (wM ad de c0) sz) := by
  refine Met.ofW (cc := cX17_sticksOut) (maxL := 5) (ret := (some .int)) (by decide) rfl ?_
  intro p e s m args below meth c s₁ B hml hv
  obtain ⟨rfl, hsz, hP, hK, hD0, hTK, hZ⟩ := hv
  have hx := B.exec
  have hb := B.bytes
  have hr := B.returns
  have hts := atoms_spec (ws := wsX17_sticksOut) B.pre
  have hown : s.vm.findClass RX17 = some m.cls := findClass_of_methodNamed B.named
  have hlocks := B.notSynchronized
  have hin_RX17 : ∀ w ∈ u_ws RX17 TX17 13, w ∈ wsX17_sticksOut := by decide +kernel
  subst hsz
  have hD := hD0.self (sz := s.heap.size)
  generalize hAe : va_A (wM ad de c0) s.heap.size = A at hD hZ ⊢
  have hA : ∀ q : Nat, s.heap.size ≤ q → A q := fun q h => by rw [← hAe]; exact Or.inr h
  have hS : va_S A s.heap s.heap [] := va_S.rf
  have hP : va_P D vwCl (wM ad de c0) s.heap := hP
  have hD : va_D A (wM ad de c0) := hD
  have hl := lv_entry ([.ref (ad 40), .int p0]) (n := 5) (Nat.le_of_ble_eq_true rfl)
  rw [lg_entry_eq]
  generalize (lg_sl ([.ref (ad 40), .int p0]) ++ List.replicate (5 - (lg_sl ([.ref (ad 40), .int p0])).length) Slot.unset).toArray = ls at hl ⊢
  have hl : lv_has ls 5 [(0, .ref (ad 40)), (1, .int p0)] := hl
  refine lv_aload_n hx hb dX17_sticksOut_0 rfl (lv_at hl 0 rfl) ?_
  refine lv_iconst (v := 0) hx hb dX17_sticksOut_1 (by decide) ?_
  refine va_put (D := D) (ci := 22) (v := .int 0) (ty := .int) (C := RX17) (T := TX17) (N := 13) hx hb hts hin_RX17 tyX17 tyX17_ok nmX17 hown hK hP hD hS 0 rfl rfl 0 (by decide) (hts (.fieldLink RX17 41 "PopupwrightModel" "code" "I") (by decide +kernel)) (fun _ h9 => h9) rfl (by decide +kernel) rfl rfl (Nat.le_of_ble_eq_true rfl) dX17_sticksOut_2 (fun H locs hP hD hS => ?_)
  have hP : va_P D vwCl (wM ad de 0) H := hP
  have hD : va_D A (wM ad de 0) := hD
  refine lv_aload_n hx hb dX17_sticksOut_5 rfl (lv_at hl 0 rfl) ?_
  refine lv_iload_n hx hb dX17_sticksOut_6 rfl (lv_at hl 1 rfl) ?_
  refine kx_i (wc := wM ad de 0) (wr := []) hP hD hS hA [0, 1, 2, 3, 4] [] rfl rfl (by decide) (by decide) (va_runV (As := [.int p0]) (rest := []) ⟨hx, hb, hml, hown, hts⟩ (c_isFold l D de ad 0 p0 H.size) (cwV 1 hts gX17_sticksOut_X17_isFold rfl rfl rfl (by decide +kernel) ⟨Nat.le_of_ble_eq_true rfl, Nat.le_of_ble_eq_true rfl⟩) ⟨px_blind, (va_recv hK hP (ci := 22) (q0 := 0) rfl rfl), (px_pre hP hD hK hS hA hTK hZ [0, 1, 2, 3, 4] rfl rfl (by decide) [] rfl)⟩ rfl rfl hl.1 rfl (lv_room (Nat.le_of_ble_eq_true rfl)) dX17_sticksOut_7 ⟨(Nat.le_of_ble_eq_true rfl), (Nat.le_of_ble_eq_true rfl)⟩) (fun r_1 u H locs hw hP hD hK1 hS => ?_)
  have hP : va_P D vwCl (wM ad de 0) H := hP
  have hD : va_D A (wM ad de 0) := hD
  obtain rfl : r_1 = 0 := hw
  refine lv_if_ne (tgt := 19) hx hb dX17_sticksOut_10 (by decide) (fun h_ => absurd (by decide) h_) (fun _ => ?_)
  refine lv_aload_n hx hb dX17_sticksOut_13 rfl (lv_at hl 0 rfl) ?_
  refine lv_iconst (v := 1) hx hb dX17_sticksOut_14 (by decide) ?_
  refine kx_i (wc := wM ad de 0) (wr := []) hP hD hS hA [0, 1, 2, 3, 4] [] rfl rfl (by decide) (by decide) (va_runV (As := [.int 1]) (rest := []) ⟨hx, hb, hml, hown, hts⟩ (c_fails l D de ad 0 1 H.size) (cwV 1 hts gX17_sticksOut_X17_fails rfl rfl rfl (by decide +kernel) ⟨Nat.le_of_ble_eq_true rfl, Nat.le_of_ble_eq_true rfl⟩) ⟨px_blind, (va_recv hK hP (ci := 22) (q0 := 0) rfl rfl), (px_pre hP hD hK hS hA hTK hZ [0, 1, 2, 3, 4] rfl rfl (by decide) [] rfl)⟩ rfl rfl hl.1 rfl (lv_room (Nat.le_of_ble_eq_true rfl)) dX17_sticksOut_15 ⟨(Nat.le_of_ble_eq_true rfl), (Nat.le_of_ble_eq_true rfl)⟩) (fun r_2 u H locs hw hP hD hK1 hS => ?_)
  have hP : va_P D vwCl (wM ad de 1) H := hP
  have hD : va_D A (wM ad de 1) := hD
  obtain rfl : r_2 = 0 := hw
  refine W.widen (k := 0) (n := 0) (Nat.le_of_ble_eq_true rfl) (Nat.le_of_ble_eq_true rfl) ?_
  have hP9 := hP.sub (ws' := ([(ad 40, .inr (22, [.int 1, .int 0, .int 0, .int 0, .ref (ad 41), .ref (ad 42), .ref (ad 43), .ref (ad 44), .int 500, .int 700, .int 10, .int 200, .ref (ad 45)]))])) [0] rfl
  have hD9 := hD.sub (ws' := ([(ad 40, .inr (22, [.int 1, .int 0, .int 0, .int 0, .ref (ad 41), .ref (ad 42), .ref (ad 43), .ref (ad 44), .int 500, .int 700, .int 10, .int 200, .ref (ad 45)]))])) [0] (by decide) rfl
  have hK9 := hK.sub (tys' := []) [] rfl
  exact W.iret (v := 0) hx hb hr (fun t ht hW => ⟨⟨0, (1, [.int 0, .int 0, .int 0, .ref (ad 41), .ref (ad 42), .ref (ad 43), .ref (ad 44), .int 500, .int 700, .int 10, .int 200, .ref (ad 45)]), rfl, (by first | exact ⟨rfl, rfl⟩ | exact ⟨rfl, rfl, by assumption⟩ | exact Or.inl ⟨rfl, rfl, by assumption⟩ | exact Or.inr ⟨rfl, rfl, by assumption⟩ | exact Or.inl ⟨rfl, rfl, Or.inl (by assumption)⟩ | exact Or.inl ⟨rfl, rfl, Or.inr (by assumption)⟩ | exact Or.inr ⟨rfl, rfl, by assumption, by assumption⟩), ⟨by rw [ht]; exact hP9, va_K.moved hW.alike hK9, hD9⟩⟩, hS.F ht⟩) hS.2.2 dX17_sticksOut_18 hlocks

set_option maxHeartbeats 4000000 in
set_option maxRecDepth 100000 in
theorem m_clashOf (l : Launch) (D : va_G) (de : Nat) (ad : Nat → Nat) (c0 : Int32) (p0 : Int32) (sz : Nat) : Met l yX17_clashOf wsX17_clashOf ({ frames := 2, cells := 0, slots := 0, locals := 44 } : Room) (va_Pc [.ref (ad 40), .int p0] (PX de D ([]) (wM ad de c0) sz)) (va_Qi (fun (r : Int32) (u : Int32 × List Value) => (u.1 = 1 ∧ r = 0)) (fun u t => PW D ([]) (va_A (wM ad de c0) sz) ([(ad 40, .inr (22, .int u.1 :: u.2))]) t) (va_A (wM ad de c0) sz)) 0 0 (va_A (wM ad de c0) sz) := by
  refine Met.ofW (cc := cX17_clashOf) (maxL := 5) (ret := (some .int)) (by decide) rfl ?_
  intro p e s m args below meth c s₁ B hml hv
  obtain ⟨rfl, hsz, hP, hK, hD0, hTK, hZ⟩ := hv
  have hx := B.exec
  have hb := B.bytes
  have hr := B.returns
  have hts := atoms_spec (ws := wsX17_clashOf) B.pre
  have hown : s.vm.findClass RX17 = some m.cls := findClass_of_methodNamed B.named
  have hlocks := B.notSynchronized
  have hin_RX17 : ∀ w ∈ u_ws RX17 TX17 13, w ∈ wsX17_clashOf := by decide +kernel
  subst hsz
  have hD := hD0.self (sz := s.heap.size)
  generalize hAe : va_A (wM ad de c0) s.heap.size = A at hD hZ ⊢
  have hA : ∀ q : Nat, s.heap.size ≤ q → A q := fun q h => by rw [← hAe]; exact Or.inr h
  have hS : va_S A s.heap s.heap [] := va_S.rf
  have hP : va_P D vwCl (wM ad de c0) s.heap := hP
  have hD : va_D A (wM ad de c0) := hD
  have hl := lv_entry ([.ref (ad 40), .int p0]) (n := 5) (Nat.le_of_ble_eq_true rfl)
  rw [lg_entry_eq]
  generalize (lg_sl ([.ref (ad 40), .int p0]) ++ List.replicate (5 - (lg_sl ([.ref (ad 40), .int p0])).length) Slot.unset).toArray = ls at hl ⊢
  have hl : lv_has ls 5 [(0, .ref (ad 40)), (1, .int p0)] := hl
  refine lv_aload_n hx hb dX17_clashOf_0 rfl (lv_at hl 0 rfl) ?_
  refine lv_iconst (v := 0) hx hb dX17_clashOf_1 (by decide) ?_
  refine va_put (D := D) (ci := 22) (v := .int 0) (ty := .int) (C := RX17) (T := TX17) (N := 13) hx hb hts hin_RX17 tyX17 tyX17_ok nmX17 hown hK hP hD hS 0 rfl rfl 0 (by decide) (hts (.fieldLink RX17 41 "PopupwrightModel" "code" "I") (by decide +kernel)) (fun _ h9 => h9) rfl (by decide +kernel) rfl rfl (Nat.le_of_ble_eq_true rfl) dX17_clashOf_2 (fun H locs hP hD hS => ?_)
  have hP : va_P D vwCl (wM ad de 0) H := hP
  have hD : va_D A (wM ad de 0) := hD
  refine lv_aload_n hx hb dX17_clashOf_5 rfl (lv_at hl 0 rfl) ?_
  refine lv_iload_n hx hb dX17_clashOf_6 rfl (lv_at hl 1 rfl) ?_
  refine kx_q (wc := wM ad de 0) (wr := []) hP hD hS hA [0, 1, 2, 3, 4] [] rfl rfl (by decide) (by decide) (va_runV (As := [.int p0]) (rest := []) ⟨hx, hb, hml, hown, hts⟩ (c_stripAt l D de ad 0 p0 H.size) (cwV 1 hts gX17_clashOf_X17_stripAt rfl rfl rfl (by decide +kernel) ⟨Nat.le_of_ble_eq_true rfl, Nat.le_of_ble_eq_true rfl⟩) ⟨px_blind, (va_recv hK hP (ci := 22) (q0 := 0) rfl rfl), (px_pre hP hD hK hS hA hTK hZ [0, 1, 2, 3, 4] rfl rfl (by decide) [] rfl)⟩ rfl rfl hl.1 rfl (lv_room (Nat.le_of_ble_eq_true rfl)) dX17_clashOf_7 ⟨(Nat.le_of_ble_eq_true rfl), (Nat.le_of_ble_eq_true rfl)⟩) (fun r_1 u H locs hw hP hD hK1 hS => ?_)
  have hP : va_P D vwCl (wM ad de 0) H := hP
  have hD : va_D A (wM ad de 0) := hD
  obtain rfl : r_1 = none := hw
  refine lv_astore_nN (lv' := [(2, .null), (0, .ref (ad 40)), (1, .int p0)]) hx hb dX17_clashOf_10 rfl hl (by decide) rfl (fun ls hl => ?_)
  refine lv_aload_nN hx hb dX17_clashOf_11 rfl (lv_at hl 0 rfl) ?_
  refine lv_ifnonnullN hx hb dX17_clashOf_12 ?_
  refine lv_aload_n hx hb dX17_clashOf_15 rfl (lv_at hl 1 rfl) ?_
  refine lv_iconst (v := 1) hx hb dX17_clashOf_16 (by decide) ?_
  refine kx_i (wc := wM ad de 0) (wr := []) hP hD hS hA [0, 1, 2, 3, 4] [] rfl rfl (by decide) (by decide) (va_runV (As := [.int 1]) (rest := []) ⟨hx, hb, hml, hown, hts⟩ (c_fails l D de ad 0 1 H.size) (cwV 1 hts gX17_clashOf_X17_fails rfl rfl rfl (by decide +kernel) ⟨Nat.le_of_ble_eq_true rfl, Nat.le_of_ble_eq_true rfl⟩) ⟨px_blind, (va_recv hK hP (ci := 22) (q0 := 0) rfl rfl), (px_pre hP hD hK hS hA hTK hZ [0, 1, 2, 3, 4] rfl rfl (by decide) [] rfl)⟩ rfl rfl hl.1 rfl (lv_room (Nat.le_of_ble_eq_true rfl)) dX17_clashOf_17 ⟨(Nat.le_of_ble_eq_true rfl), (Nat.le_of_ble_eq_true rfl)⟩) (fun r_2 u H locs hw hP hD hK1 hS => ?_)
  have hP : va_P D vwCl (wM ad de 1) H := hP
  have hD : va_D A (wM ad de 1) := hD
  obtain rfl : r_2 = 0 := hw
  refine W.widen (k := 0) (n := 0) (Nat.le_of_ble_eq_true rfl) (Nat.le_of_ble_eq_true rfl) ?_
  have hP9 := hP.sub (ws' := ([(ad 40, .inr (22, [.int 1, .int 0, .int 0, .int 0, .ref (ad 41), .ref (ad 42), .ref (ad 43), .ref (ad 44), .int 500, .int 700, .int 10, .int 200, .ref (ad 45)]))])) [0] rfl
  have hD9 := hD.sub (ws' := ([(ad 40, .inr (22, [.int 1, .int 0, .int 0, .int 0, .ref (ad 41), .ref (ad 42), .ref (ad 43), .ref (ad 44), .int 500, .int 700, .int 10, .int 200, .ref (ad 45)]))])) [0] (by decide) rfl
  have hK9 := hK.sub (tys' := []) [] rfl
  exact W.iret (v := 0) hx hb hr (fun t ht hW => ⟨⟨0, (1, [.int 0, .int 0, .int 0, .ref (ad 41), .ref (ad 42), .ref (ad 43), .ref (ad 44), .int 500, .int 700, .int 10, .int 200, .ref (ad 45)]), rfl, (by first | exact ⟨rfl, rfl⟩ | exact ⟨rfl, rfl, by assumption⟩ | exact Or.inl ⟨rfl, rfl, by assumption⟩ | exact Or.inr ⟨rfl, rfl, by assumption⟩ | exact Or.inl ⟨rfl, rfl, Or.inl (by assumption)⟩ | exact Or.inl ⟨rfl, rfl, Or.inr (by assumption)⟩ | exact Or.inr ⟨rfl, rfl, by assumption, by assumption⟩), ⟨by rw [ht]; exact hP9, va_K.moved hW.alike hK9, hD9⟩⟩, hS.F ht⟩) hS.2.2 dX17_clashOf_20 hlocks

set_option maxHeartbeats 4000000 in
set_option maxRecDepth 100000 in
theorem m_isGood (l : Launch) (D : va_G) (de : Nat) (ad : Nat → Nat) (c0 : Int32) (sz : Nat) : Met l yX17_isGood wsX17_isGood ({ frames := 0, cells := 0, slots := 0, locals := 0 } : Room) (va_Pc [.ref (ad 40)] (PX de D ([]) (wM ad de c0) sz)) (va_Qi (fun (r : Int32) (u : Int32 × List Value) => (u.1 = 1 ∧ r = 0)) (fun u t => PW D ([]) (va_A (wM ad de c0) sz) ([(ad 40, .inr (22, .int u.1 :: u.2))]) t) (va_A (wM ad de c0) sz)) 0 0 (va_A (wM ad de c0) sz) := by
  refine Met.ofW (cc := cX17_isGood) (maxL := 1) (ret := (some .boolean)) (by decide) rfl ?_
  intro p e s m args below meth c s₁ B hml hv
  obtain ⟨rfl, hsz, hP, hK, hD0, hTK, hZ⟩ := hv
  have hx := B.exec
  have hb := B.bytes
  have hr := B.returns
  have hts := atoms_spec (ws := wsX17_isGood) B.pre
  have hown : s.vm.findClass RX17 = some m.cls := findClass_of_methodNamed B.named
  have hlocks := B.notSynchronized
  have hin_RX17 : ∀ w ∈ u_ws RX17 TX17 13, w ∈ wsX17_isGood := by decide +kernel
  subst hsz
  have hD := hD0.self (sz := s.heap.size)
  generalize hAe : va_A (wM ad de c0) s.heap.size = A at hD hZ ⊢
  have hA : ∀ q : Nat, s.heap.size ≤ q → A q := fun q h => by rw [← hAe]; exact Or.inr h
  have hS : va_S A s.heap s.heap [] := va_S.rf
  have hP : va_P D vwCl (wM ad de c0) s.heap := hP
  have hD : va_D A (wM ad de c0) := hD
  have hl := lv_entry ([.ref (ad 40)]) (n := 1) (Nat.le_of_ble_eq_true rfl)
  rw [lg_entry_eq]
  generalize (lg_sl ([.ref (ad 40)]) ++ List.replicate (1 - (lg_sl ([.ref (ad 40)])).length) Slot.unset).toArray = ls at hl ⊢
  have hl : lv_has ls 1 [(0, .ref (ad 40))] := hl
  refine lv_aload_n hx hb dX17_isGood_0 rfl (lv_at hl 0 rfl) ?_
  refine lv_aload_n hx hb dX17_isGood_1 rfl (lv_at hl 0 rfl) ?_
  refine va_get (D := D) (ci := 22) (v := .int 0) (C := RX17) (T := TX17) (N := 13) hx hb hts hin_RX17 hown hK hP 0 rfl rfl 1 (by decide) (hts (.fieldLink RX17 58 "PopupwrightModel" "hasSpread" "Z") (by decide +kernel)) (fun _ h9 => h9) rfl dX17_isGood_2 ?_
  refine lv_if_eq (tgt := 12) hx hb dX17_isGood_5 (by decide) (fun _ => ?_) (fun h_ => absurd (by decide) h_)
  refine lv_iconst (v := 1) hx hb dX17_isGood_12 (by decide) ?_
  refine va_put (D := D) (ci := 22) (v := .int 1) (ty := .int) (C := RX17) (T := TX17) (N := 13) hx hb hts hin_RX17 tyX17 tyX17_ok nmX17 hown hK hP hD hS 0 rfl rfl 0 (by decide) (hts (.fieldLink RX17 41 "PopupwrightModel" "code" "I") (by decide +kernel)) (fun _ h9 => h9) rfl (by decide +kernel) rfl rfl (Nat.le_of_ble_eq_true rfl) dX17_isGood_13 (fun H locs hP hD hS => ?_)
  have hP : va_P D vwCl (wM ad de 1) H := hP
  have hD : va_D A (wM ad de 1) := hD
  refine lv_aload_n hx hb dX17_isGood_16 rfl (lv_at hl 0 rfl) ?_
  refine va_get (D := D) (ci := 22) (v := .int 0) (C := RX17) (T := TX17) (N := 13) hx hb hts hin_RX17 hown hK hP 0 rfl rfl 1 (by decide) (hts (.fieldLink RX17 58 "PopupwrightModel" "hasSpread" "Z") (by decide +kernel)) (fun _ h9 => h9) rfl dX17_isGood_17 ?_
  refine lv_if_eq (tgt := 34) hx hb dX17_isGood_20 (by decide) (fun _ => ?_) (fun h_ => absurd (by decide) h_)
  refine lv_iconst (v := 0) hx hb dX17_isGood_34 (by decide) ?_
  refine W.widen (k := 0) (n := 0) (Nat.le_of_ble_eq_true rfl) (Nat.le_of_ble_eq_true rfl) ?_
  have hP9 := hP.sub (ws' := ([(ad 40, .inr (22, [.int 1, .int 0, .int 0, .int 0, .ref (ad 41), .ref (ad 42), .ref (ad 43), .ref (ad 44), .int 500, .int 700, .int 10, .int 200, .ref (ad 45)]))])) [0] rfl
  have hD9 := hD.sub (ws' := ([(ad 40, .inr (22, [.int 1, .int 0, .int 0, .int 0, .ref (ad 41), .ref (ad 42), .ref (ad 43), .ref (ad 44), .int 500, .int 700, .int 10, .int 200, .ref (ad 45)]))])) [0] (by decide) rfl
  have hK9 := hK.sub (tys' := []) [] rfl
  exact W.zret (v := 0) hx hb hr (by decide) (fun t ht hW => ⟨⟨0, (1, [.int 0, .int 0, .int 0, .ref (ad 41), .ref (ad 42), .ref (ad 43), .ref (ad 44), .int 500, .int 700, .int 10, .int 200, .ref (ad 45)]), rfl, (by first | exact ⟨rfl, rfl⟩ | exact ⟨rfl, rfl, by assumption⟩ | exact Or.inl ⟨rfl, rfl, by assumption⟩ | exact Or.inr ⟨rfl, rfl, by assumption⟩ | exact Or.inl ⟨rfl, rfl, Or.inl (by assumption)⟩ | exact Or.inl ⟨rfl, rfl, Or.inr (by assumption)⟩ | exact Or.inr ⟨rfl, rfl, by assumption, by assumption⟩), ⟨by rw [ht]; exact hP9, va_K.moved hW.alike hK9, hD9⟩⟩, hS.F ht⟩) hS.2.2 dX17_isGood_35 hlocks

set_option maxHeartbeats 4000000 in
set_option maxRecDepth 100000 in
theorem m_picture (l : Launch) (D : va_G) (de : Nat) (ad : Nat → Nat) (c0 : Int32) (p0 p1 p2 p3 p4 p5 : Int32) (sz : Nat) : Met l yX17_picture wsX17_picture ({ frames := 2, cells := 0, slots := 0, locals := 44 } : Room) (va_Pc [.ref (ad 40), .int p0, .int p1, .int p2, .int p3, .int p4, .int p5] (PX de D ([]) (wM ad de c0) sz)) (va_Qi (fun (r : Int32) (u : Int32 × List Value) => (u.1 = 1 ∧ r = 0)) (fun u t => PW D ([]) (va_A (wM ad de c0) sz) ([(ad 40, .inr (22, .int u.1 :: u.2))]) t) (va_A (wM ad de c0) sz)) 0 0 (va_A (wM ad de c0) sz) := by
  refine Met.ofW (cc := cX17_picture) (maxL := 8) (ret := (some .int)) (by decide) rfl ?_
  intro p e s m args below meth c s₁ B hml hv
  obtain ⟨rfl, hsz, hP, hK, hD0, hTK, hZ⟩ := hv
  have hx := B.exec
  have hb := B.bytes
  have hr := B.returns
  have hts := atoms_spec (ws := wsX17_picture) B.pre
  have hown : s.vm.findClass RX17 = some m.cls := findClass_of_methodNamed B.named
  have hlocks := B.notSynchronized
  have hin_RX17 : ∀ w ∈ u_ws RX17 TX17 13, w ∈ wsX17_picture := by decide +kernel
  subst hsz
  have hD := hD0.self (sz := s.heap.size)
  generalize hAe : va_A (wM ad de c0) s.heap.size = A at hD hZ ⊢
  have hA : ∀ q : Nat, s.heap.size ≤ q → A q := fun q h => by rw [← hAe]; exact Or.inr h
  have hS : va_S A s.heap s.heap [] := va_S.rf
  have hP : va_P D vwCl (wM ad de c0) s.heap := hP
  have hD : va_D A (wM ad de c0) := hD
  have hl := lv_entry ([.ref (ad 40), .int p0, .int p1, .int p2, .int p3, .int p4, .int p5]) (n := 8) (Nat.le_of_ble_eq_true rfl)
  rw [lg_entry_eq]
  generalize (lg_sl ([.ref (ad 40), .int p0, .int p1, .int p2, .int p3, .int p4, .int p5]) ++ List.replicate (8 - (lg_sl ([.ref (ad 40), .int p0, .int p1, .int p2, .int p3, .int p4, .int p5])).length) Slot.unset).toArray = ls at hl ⊢
  have hl : lv_has ls 8 [(0, .ref (ad 40)), (1, .int p0), (2, .int p1), (3, .int p2), (4, .int p3), (5, .int p4), (6, .int p5)] := hl
  refine lv_aload_n hx hb dX17_picture_0 rfl (lv_at hl 0 rfl) ?_
  refine lv_iconst (v := 0) hx hb dX17_picture_1 (by decide) ?_
  refine va_put (D := D) (ci := 22) (v := .int 0) (ty := .int) (C := RX17) (T := TX17) (N := 13) hx hb hts hin_RX17 tyX17 tyX17_ok nmX17 hown hK hP hD hS 0 rfl rfl 0 (by decide) (hts (.fieldLink RX17 41 "PopupwrightModel" "code" "I") (by decide +kernel)) (fun _ h9 => h9) rfl (by decide +kernel) rfl rfl (Nat.le_of_ble_eq_true rfl) dX17_picture_2 (fun H locs hP hD hS => ?_)
  have hP : va_P D vwCl (wM ad de 0) H := hP
  have hD : va_D A (wM ad de 0) := hD
  refine lv_aload_n hx hb dX17_picture_5 rfl (lv_at hl 0 rfl) ?_
  refine lv_iload_n hx hb dX17_picture_6 rfl (lv_at hl 1 rfl) ?_
  refine kx_q (wc := wM ad de 0) (wr := []) hP hD hS hA [0, 1, 2, 3, 4] [] rfl rfl (by decide) (by decide) (va_runV (As := [.int p0]) (rest := []) ⟨hx, hb, hml, hown, hts⟩ (c_stripAt l D de ad 0 p0 H.size) (cwV 1 hts gX17_picture_X17_stripAt rfl rfl rfl (by decide +kernel) ⟨Nat.le_of_ble_eq_true rfl, Nat.le_of_ble_eq_true rfl⟩) ⟨px_blind, (va_recv hK hP (ci := 22) (q0 := 0) rfl rfl), (px_pre hP hD hK hS hA hTK hZ [0, 1, 2, 3, 4] rfl rfl (by decide) [] rfl)⟩ rfl rfl hl.1 rfl (lv_room (Nat.le_of_ble_eq_true rfl)) dX17_picture_7 ⟨(Nat.le_of_ble_eq_true rfl), (Nat.le_of_ble_eq_true rfl)⟩) (fun r_1 u H locs hw hP hD hK1 hS => ?_)
  have hP : va_P D vwCl (wM ad de 0) H := hP
  have hD : va_D A (wM ad de 0) := hD
  obtain rfl : r_1 = none := hw
  refine lv_astoreN (lv' := [(7, .null), (0, .ref (ad 40)), (1, .int p0), (2, .int p1), (3, .int p2), (4, .int p3), (5, .int p4), (6, .int p5)]) hx hb dX17_picture_10 hl (by decide) rfl (fun ls hl => ?_)
  refine lv_aloadN hx hb dX17_picture_12 (lv_at hl 0 rfl) ?_
  refine lv_ifnonnullN hx hb dX17_picture_14 ?_
  refine lv_aload_n hx hb dX17_picture_17 rfl (lv_at hl 1 rfl) ?_
  refine lv_iconst (v := 1) hx hb dX17_picture_18 (by decide) ?_
  refine kx_i (wc := wM ad de 0) (wr := []) hP hD hS hA [0, 1, 2, 3, 4] [] rfl rfl (by decide) (by decide) (va_runV (As := [.int 1]) (rest := []) ⟨hx, hb, hml, hown, hts⟩ (c_fails l D de ad 0 1 H.size) (cwV 1 hts gX17_picture_X17_fails rfl rfl rfl (by decide +kernel) ⟨Nat.le_of_ble_eq_true rfl, Nat.le_of_ble_eq_true rfl⟩) ⟨px_blind, (va_recv hK hP (ci := 22) (q0 := 0) rfl rfl), (px_pre hP hD hK hS hA hTK hZ [0, 1, 2, 3, 4] rfl rfl (by decide) [] rfl)⟩ rfl rfl hl.1 rfl (lv_room (Nat.le_of_ble_eq_true rfl)) dX17_picture_19 ⟨(Nat.le_of_ble_eq_true rfl), (Nat.le_of_ble_eq_true rfl)⟩) (fun r_2 u H locs hw hP hD hK1 hS => ?_)
  have hP : va_P D vwCl (wM ad de 1) H := hP
  have hD : va_D A (wM ad de 1) := hD
  obtain rfl : r_2 = 0 := hw
  refine W.widen (k := 0) (n := 0) (Nat.le_of_ble_eq_true rfl) (Nat.le_of_ble_eq_true rfl) ?_
  have hP9 := hP.sub (ws' := ([(ad 40, .inr (22, [.int 1, .int 0, .int 0, .int 0, .ref (ad 41), .ref (ad 42), .ref (ad 43), .ref (ad 44), .int 500, .int 700, .int 10, .int 200, .ref (ad 45)]))])) [0] rfl
  have hD9 := hD.sub (ws' := ([(ad 40, .inr (22, [.int 1, .int 0, .int 0, .int 0, .ref (ad 41), .ref (ad 42), .ref (ad 43), .ref (ad 44), .int 500, .int 700, .int 10, .int 200, .ref (ad 45)]))])) [0] (by decide) rfl
  have hK9 := hK.sub (tys' := []) [] rfl
  exact W.iret (v := 0) hx hb hr (fun t ht hW => ⟨⟨0, (1, [.int 0, .int 0, .int 0, .ref (ad 41), .ref (ad 42), .ref (ad 43), .ref (ad 44), .int 500, .int 700, .int 10, .int 200, .ref (ad 45)]), rfl, (by first | exact ⟨rfl, rfl⟩ | exact ⟨rfl, rfl, by assumption⟩ | exact Or.inl ⟨rfl, rfl, by assumption⟩ | exact Or.inr ⟨rfl, rfl, by assumption⟩ | exact Or.inl ⟨rfl, rfl, Or.inl (by assumption)⟩ | exact Or.inl ⟨rfl, rfl, Or.inr (by assumption)⟩ | exact Or.inr ⟨rfl, rfl, by assumption, by assumption⟩), ⟨by rw [ht]; exact hP9, va_K.moved hW.alike hK9, hD9⟩⟩, hS.F ht⟩) hS.2.2 dX17_picture_22 hlocks

set_option maxHeartbeats 4000000 in
set_option maxRecDepth 100000 in
theorem m_colourAt (l : Launch) (D : va_G) (de : Nat) (ad : Nat → Nat) (c0 : Int32) (p0 p1 p2 : Int32) (sz : Nat) : Met l yX17_colourAt wsX17_colourAt ({ frames := 2, cells := 0, slots := 0, locals := 44 } : Room) (va_Pc [.ref (ad 40), .int p0, .int p1, .int p2] (PX de D ([]) (wM ad de c0) sz)) (va_Qi (fun (r : Int32) (u : Int32 × List Value) => (u.1 = 1 ∧ r = 0)) (fun u t => PW D ([]) (va_A (wM ad de c0) sz) ([(ad 40, .inr (22, .int u.1 :: u.2))]) t) (va_A (wM ad de c0) sz)) 0 0 (va_A (wM ad de c0) sz) := by
  refine Met.ofW (cc := cX17_colourAt) (maxL := 10) (ret := (some .int)) (by decide) rfl ?_
  intro p e s m args below meth c s₁ B hml hv
  obtain ⟨rfl, hsz, hP, hK, hD0, hTK, hZ⟩ := hv
  have hx := B.exec
  have hb := B.bytes
  have hr := B.returns
  have hts := atoms_spec (ws := wsX17_colourAt) B.pre
  have hown : s.vm.findClass RX17 = some m.cls := findClass_of_methodNamed B.named
  have hlocks := B.notSynchronized
  have hin_RX17 : ∀ w ∈ u_ws RX17 TX17 13, w ∈ wsX17_colourAt := by decide +kernel
  subst hsz
  have hD := hD0.self (sz := s.heap.size)
  generalize hAe : va_A (wM ad de c0) s.heap.size = A at hD hZ ⊢
  have hA : ∀ q : Nat, s.heap.size ≤ q → A q := fun q h => by rw [← hAe]; exact Or.inr h
  have hS : va_S A s.heap s.heap [] := va_S.rf
  have hP : va_P D vwCl (wM ad de c0) s.heap := hP
  have hD : va_D A (wM ad de c0) := hD
  have hl := lv_entry ([.ref (ad 40), .int p0, .int p1, .int p2]) (n := 10) (Nat.le_of_ble_eq_true rfl)
  rw [lg_entry_eq]
  generalize (lg_sl ([.ref (ad 40), .int p0, .int p1, .int p2]) ++ List.replicate (10 - (lg_sl ([.ref (ad 40), .int p0, .int p1, .int p2])).length) Slot.unset).toArray = ls at hl ⊢
  have hl : lv_has ls 10 [(0, .ref (ad 40)), (1, .int p0), (2, .int p1), (3, .int p2)] := hl
  refine lv_aload_n hx hb dX17_colourAt_0 rfl (lv_at hl 0 rfl) ?_
  refine lv_iconst (v := 0) hx hb dX17_colourAt_1 (by decide) ?_
  refine va_put (D := D) (ci := 22) (v := .int 0) (ty := .int) (C := RX17) (T := TX17) (N := 13) hx hb hts hin_RX17 tyX17 tyX17_ok nmX17 hown hK hP hD hS 0 rfl rfl 0 (by decide) (hts (.fieldLink RX17 41 "PopupwrightModel" "code" "I") (by decide +kernel)) (fun _ h9 => h9) rfl (by decide +kernel) rfl rfl (Nat.le_of_ble_eq_true rfl) dX17_colourAt_2 (fun H locs hP hD hS => ?_)
  have hP : va_P D vwCl (wM ad de 0) H := hP
  have hD : va_D A (wM ad de 0) := hD
  refine lv_aload_n hx hb dX17_colourAt_5 rfl (lv_at hl 0 rfl) ?_
  refine lv_iload_n hx hb dX17_colourAt_6 rfl (lv_at hl 1 rfl) ?_
  refine kx_q (wc := wM ad de 0) (wr := []) hP hD hS hA [0, 1, 2, 3, 4] [] rfl rfl (by decide) (by decide) (va_runV (As := [.int p0]) (rest := []) ⟨hx, hb, hml, hown, hts⟩ (c_stripAt l D de ad 0 p0 H.size) (cwV 1 hts gX17_colourAt_X17_stripAt rfl rfl rfl (by decide +kernel) ⟨Nat.le_of_ble_eq_true rfl, Nat.le_of_ble_eq_true rfl⟩) ⟨px_blind, (va_recv hK hP (ci := 22) (q0 := 0) rfl rfl), (px_pre hP hD hK hS hA hTK hZ [0, 1, 2, 3, 4] rfl rfl (by decide) [] rfl)⟩ rfl rfl hl.1 rfl (lv_room (Nat.le_of_ble_eq_true rfl)) dX17_colourAt_7 ⟨(Nat.le_of_ble_eq_true rfl), (Nat.le_of_ble_eq_true rfl)⟩) (fun r_1 u H locs hw hP hD hK1 hS => ?_)
  have hP : va_P D vwCl (wM ad de 0) H := hP
  have hD : va_D A (wM ad de 0) := hD
  obtain rfl : r_1 = none := hw
  refine lv_astoreN (lv' := [(4, .null), (0, .ref (ad 40)), (1, .int p0), (2, .int p1), (3, .int p2)]) hx hb dX17_colourAt_10 hl (by decide) rfl (fun ls hl => ?_)
  refine lv_aloadN hx hb dX17_colourAt_12 (lv_at hl 0 rfl) ?_
  refine lv_ifnonnullN hx hb dX17_colourAt_14 ?_
  refine lv_aload_n hx hb dX17_colourAt_17 rfl (lv_at hl 1 rfl) ?_
  refine lv_iconst (v := 1) hx hb dX17_colourAt_18 (by decide) ?_
  refine kx_i (wc := wM ad de 0) (wr := []) hP hD hS hA [0, 1, 2, 3, 4] [] rfl rfl (by decide) (by decide) (va_runV (As := [.int 1]) (rest := []) ⟨hx, hb, hml, hown, hts⟩ (c_fails l D de ad 0 1 H.size) (cwV 1 hts gX17_colourAt_X17_fails rfl rfl rfl (by decide +kernel) ⟨Nat.le_of_ble_eq_true rfl, Nat.le_of_ble_eq_true rfl⟩) ⟨px_blind, (va_recv hK hP (ci := 22) (q0 := 0) rfl rfl), (px_pre hP hD hK hS hA hTK hZ [0, 1, 2, 3, 4] rfl rfl (by decide) [] rfl)⟩ rfl rfl hl.1 rfl (lv_room (Nat.le_of_ble_eq_true rfl)) dX17_colourAt_19 ⟨(Nat.le_of_ble_eq_true rfl), (Nat.le_of_ble_eq_true rfl)⟩) (fun r_2 u H locs hw hP hD hK1 hS => ?_)
  have hP : va_P D vwCl (wM ad de 1) H := hP
  have hD : va_D A (wM ad de 1) := hD
  obtain rfl : r_2 = 0 := hw
  refine W.widen (k := 0) (n := 0) (Nat.le_of_ble_eq_true rfl) (Nat.le_of_ble_eq_true rfl) ?_
  have hP9 := hP.sub (ws' := ([(ad 40, .inr (22, [.int 1, .int 0, .int 0, .int 0, .ref (ad 41), .ref (ad 42), .ref (ad 43), .ref (ad 44), .int 500, .int 700, .int 10, .int 200, .ref (ad 45)]))])) [0] rfl
  have hD9 := hD.sub (ws' := ([(ad 40, .inr (22, [.int 1, .int 0, .int 0, .int 0, .ref (ad 41), .ref (ad 42), .ref (ad 43), .ref (ad 44), .int 500, .int 700, .int 10, .int 200, .ref (ad 45)]))])) [0] (by decide) rfl
  have hK9 := hK.sub (tys' := []) [] rfl
  exact W.iret (v := 0) hx hb hr (fun t ht hW => ⟨⟨0, (1, [.int 0, .int 0, .int 0, .ref (ad 41), .ref (ad 42), .ref (ad 43), .ref (ad 44), .int 500, .int 700, .int 10, .int 200, .ref (ad 45)]), rfl, (by first | exact ⟨rfl, rfl⟩ | exact ⟨rfl, rfl, by assumption⟩ | exact Or.inl ⟨rfl, rfl, by assumption⟩ | exact Or.inr ⟨rfl, rfl, by assumption⟩ | exact Or.inl ⟨rfl, rfl, Or.inl (by assumption)⟩ | exact Or.inl ⟨rfl, rfl, Or.inr (by assumption)⟩ | exact Or.inr ⟨rfl, rfl, by assumption, by assumption⟩), ⟨by rw [ht]; exact hP9, va_K.moved hW.alike hK9, hD9⟩⟩, hS.F ht⟩) hS.2.2 dX17_colourAt_22 hlocks

set_option maxHeartbeats 4000000 in
set_option maxRecDepth 100000 in
theorem m_isWhole (l : Launch) (D : va_G) (de : Nat) (ad : Nat → Nat) (c0 : Int32) (p0 p1 : Int32) (sz : Nat) : Met l yX17_isWhole wsX17_isWhole ({ frames := 2, cells := 0, slots := 0, locals := 43 } : Room) (va_Pc [.ref (ad 40), .int p0, .int p1] (PX de D ([]) (wM ad de c0) sz)) (va_Qi (fun (r : Int32) (u : Int32 × List Value) => (u.1 = 1 ∧ r = 0)) (fun u t => PW D ([]) (va_A (wM ad de c0) sz) ([(ad 40, .inr (22, .int u.1 :: u.2))]) t) (va_A (wM ad de c0) sz)) 0 0 (va_A (wM ad de c0) sz) := by
  refine Met.ofW (cc := cX17_isWhole) (maxL := 3) (ret := (some .boolean)) (by decide) rfl ?_
  intro p e s m args below meth c s₁ B hml hv
  obtain ⟨rfl, hsz, hP, hK, hD0, hTK, hZ⟩ := hv
  have hx := B.exec
  have hb := B.bytes
  have hr := B.returns
  have hts := atoms_spec (ws := wsX17_isWhole) B.pre
  have hown : s.vm.findClass RX17 = some m.cls := findClass_of_methodNamed B.named
  have hlocks := B.notSynchronized
  have hin_RX17 : ∀ w ∈ u_ws RX17 TX17 13, w ∈ wsX17_isWhole := by decide +kernel
  subst hsz
  have hD := hD0.self (sz := s.heap.size)
  generalize hAe : va_A (wM ad de c0) s.heap.size = A at hD hZ ⊢
  have hA : ∀ q : Nat, s.heap.size ≤ q → A q := fun q h => by rw [← hAe]; exact Or.inr h
  have hS : va_S A s.heap s.heap [] := va_S.rf
  have hP : va_P D vwCl (wM ad de c0) s.heap := hP
  have hD : va_D A (wM ad de c0) := hD
  have hl := lv_entry ([.ref (ad 40), .int p0, .int p1]) (n := 3) (Nat.le_of_ble_eq_true rfl)
  rw [lg_entry_eq]
  generalize (lg_sl ([.ref (ad 40), .int p0, .int p1]) ++ List.replicate (3 - (lg_sl ([.ref (ad 40), .int p0, .int p1])).length) Slot.unset).toArray = ls at hl ⊢
  have hl : lv_has ls 3 [(0, .ref (ad 40)), (1, .int p0), (2, .int p1)] := hl
  refine lv_aload_n hx hb dX17_isWhole_0 rfl (lv_at hl 0 rfl) ?_
  refine lv_aload_n hx hb dX17_isWhole_1 rfl (lv_at hl 0 rfl) ?_
  refine lv_iload_n hx hb dX17_isWhole_2 rfl (lv_at hl 1 rfl) ?_
  refine kx_i (wc := wM ad de c0) (wr := []) hP hD hS hA [0, 1, 2, 3, 4] [] rfl rfl (by decide) (by decide) (va_runV (As := [.int p0]) (rest := [.ref (ad 40)]) ⟨hx, hb, hml, hown, hts⟩ (c_isPicture l D de ad c0 p0 s.heap.size) (cwV 1 hts gX17_isWhole_X17_isPicture rfl rfl rfl (by decide +kernel) ⟨Nat.le_of_ble_eq_true rfl, Nat.le_of_ble_eq_true rfl⟩) ⟨px_blind, (va_recv hK hP (ci := 22) (q0 := 0) rfl rfl), (px_pre hP hD hK hS hA hTK hZ [0, 1, 2, 3, 4] rfl rfl (by decide) [] rfl)⟩ rfl rfl hl.1 rfl (lv_room (Nat.le_of_ble_eq_true rfl)) dX17_isWhole_3 ⟨(Nat.le_of_ble_eq_true rfl), (Nat.le_of_ble_eq_true rfl)⟩) (fun r_1 u H locs hw hP hD hK1 hS => ?_)
  have hP : va_P D vwCl (wM ad de c0) H := hP
  have hD : va_D A (wM ad de c0) := hD
  obtain rfl : r_1 = 0 := hw
  refine lv_if_ne (tgt := 13) hx hb dX17_isWhole_6 (by decide) (fun h_ => absurd (by decide) h_) (fun _ => ?_)
  refine lv_iconst (v := 1) hx hb dX17_isWhole_9 (by decide) ?_
  refine lv_goto (tgt := 28) hx hb dX17_isWhole_10 (by decide) ?_
  refine va_put (D := D) (ci := 22) (v := .int 1) (ty := .int) (C := RX17) (T := TX17) (N := 13) hx hb hts hin_RX17 tyX17 tyX17_ok nmX17 hown hK hP hD hS 0 rfl rfl 0 (by decide) (hts (.fieldLink RX17 41 "PopupwrightModel" "code" "I") (by decide +kernel)) (fun _ h9 => h9) rfl (by decide +kernel) rfl rfl (Nat.le_of_ble_eq_true rfl) dX17_isWhole_28 (fun H locs hP hD hS => ?_)
  have hP : va_P D vwCl (wM ad de 1) H := hP
  have hD : va_D A (wM ad de 1) := hD
  refine lv_aload_n hx hb dX17_isWhole_31 rfl (lv_at hl 0 rfl) ?_
  refine va_get (D := D) (ci := 22) (v := .int 1) (C := RX17) (T := TX17) (N := 13) hx hb hts hin_RX17 hown hK hP 0 rfl rfl 0 (by decide) (hts (.fieldLink RX17 41 "PopupwrightModel" "code" "I") (by decide +kernel)) (fun _ h9 => h9) rfl dX17_isWhole_32 ?_
  refine lv_if_ne (tgt := 63) hx hb dX17_isWhole_35 (by decide) (fun _ => ?_) (fun h_ => absurd h_ (by decide))
  refine lv_iconst (v := 0) hx hb dX17_isWhole_63 (by decide) ?_
  refine W.widen (k := 0) (n := 0) (Nat.le_of_ble_eq_true rfl) (Nat.le_of_ble_eq_true rfl) ?_
  have hP9 := hP.sub (ws' := ([(ad 40, .inr (22, [.int 1, .int 0, .int 0, .int 0, .ref (ad 41), .ref (ad 42), .ref (ad 43), .ref (ad 44), .int 500, .int 700, .int 10, .int 200, .ref (ad 45)]))])) [0] rfl
  have hD9 := hD.sub (ws' := ([(ad 40, .inr (22, [.int 1, .int 0, .int 0, .int 0, .ref (ad 41), .ref (ad 42), .ref (ad 43), .ref (ad 44), .int 500, .int 700, .int 10, .int 200, .ref (ad 45)]))])) [0] (by decide) rfl
  have hK9 := hK.sub (tys' := []) [] rfl
  exact W.zret (v := 0) hx hb hr (by decide) (fun t ht hW => ⟨⟨0, (1, [.int 0, .int 0, .int 0, .ref (ad 41), .ref (ad 42), .ref (ad 43), .ref (ad 44), .int 500, .int 700, .int 10, .int 200, .ref (ad 45)]), rfl, (by first | exact ⟨rfl, rfl⟩ | exact ⟨rfl, rfl, by assumption⟩ | exact Or.inl ⟨rfl, rfl, by assumption⟩ | exact Or.inr ⟨rfl, rfl, by assumption⟩ | exact Or.inl ⟨rfl, rfl, Or.inl (by assumption)⟩ | exact Or.inl ⟨rfl, rfl, Or.inr (by assumption)⟩ | exact Or.inr ⟨rfl, rfl, by assumption, by assumption⟩), ⟨by rw [ht]; exact hP9, va_K.moved hW.alike hK9, hD9⟩⟩, hS.F ht⟩) hS.2.2 dX17_isWhole_64 hlocks

set_option maxHeartbeats 4000000 in
set_option maxRecDepth 100000 in
theorem m_showStep (l : Launch) (D : va_G) (de : Nat) (ad : Nat → Nat) (c0 : Int32) (sz : Nat) : Met l yX17_showStep wsX17_showStep ({ frames := 1, cells := 0, slots := 0, locals := 21 } : Room) (va_Pc [.ref (ad 40)] (PX de D ([]) (wM ad de c0) sz)) (va_Qi (fun (r : Int32) (u : Int32 × List Value) => (u.1 = 1 ∧ r = 0)) (fun u t => PW D ([]) (va_A (wM ad de c0) sz) ([(ad 40, .inr (22, .int u.1 :: u.2))]) t) (va_A (wM ad de c0) sz)) 0 0 (va_A (wM ad de c0) sz) := by
  refine Met.ofW (cc := cX17_showStep) (maxL := 5) (ret := (some .int)) (by decide) rfl ?_
  intro p e s m args below meth c s₁ B hml hv
  obtain ⟨rfl, hsz, hP, hK, hD0, hTK, hZ⟩ := hv
  have hx := B.exec
  have hb := B.bytes
  have hr := B.returns
  have hts := atoms_spec (ws := wsX17_showStep) B.pre
  have hown : s.vm.findClass RX17 = some m.cls := findClass_of_methodNamed B.named
  have hlocks := B.notSynchronized
  have hin_RX17 : ∀ w ∈ u_ws RX17 TX17 13, w ∈ wsX17_showStep := by decide +kernel
  subst hsz
  have hD := hD0.self (sz := s.heap.size)
  generalize hAe : va_A (wM ad de c0) s.heap.size = A at hD hZ ⊢
  have hA : ∀ q : Nat, s.heap.size ≤ q → A q := fun q h => by rw [← hAe]; exact Or.inr h
  have hS : va_S A s.heap s.heap [] := va_S.rf
  have hP : va_P D vwCl (wM ad de c0) s.heap := hP
  have hD : va_D A (wM ad de c0) := hD
  have hl := lv_entry ([.ref (ad 40)]) (n := 5) (Nat.le_of_ble_eq_true rfl)
  rw [lg_entry_eq]
  generalize (lg_sl ([.ref (ad 40)]) ++ List.replicate (5 - (lg_sl ([.ref (ad 40)])).length) Slot.unset).toArray = ls at hl ⊢
  have hl : lv_has ls 5 [(0, .ref (ad 40))] := hl
  refine lv_aload_n hx hb dX17_showStep_0 rfl (lv_at hl 0 rfl) ?_
  refine lv_iconst (v := 0) hx hb dX17_showStep_1 (by decide) ?_
  refine va_put (D := D) (ci := 22) (v := .int 0) (ty := .int) (C := RX17) (T := TX17) (N := 13) hx hb hts hin_RX17 tyX17 tyX17_ok nmX17 hown hK hP hD hS 0 rfl rfl 0 (by decide) (hts (.fieldLink RX17 41 "PopupwrightModel" "code" "I") (by decide +kernel)) (fun _ h9 => h9) rfl (by decide +kernel) rfl rfl (Nat.le_of_ble_eq_true rfl) dX17_showStep_2 (fun H locs hP hD hS => ?_)
  have hP : va_P D vwCl (wM ad de 0) H := hP
  have hD : va_D A (wM ad de 0) := hD
  refine lv_iconst (v := 1) hx hb dX17_showStep_5 (by decide) ?_
  refine lv_istore_n (lv' := [(1, .int 1), (0, .ref (ad 40))]) hx hb dX17_showStep_6 rfl hl (by decide) rfl (fun ls hl => ?_)
  refine lv_iload_n hx hb dX17_showStep_7 rfl (lv_at hl 0 rfl) ?_
  refine lv_bipush (v := 18) hx hb dX17_showStep_8 (by decide) ?_
  refine lv_icmp_ge (tgt := 92) hx hb dX17_showStep_10 (by decide) (fun h_ => absurd h_ (by decide)) (fun _ => ?_)
  refine lv_aload_n hx hb dX17_showStep_13 rfl (lv_at hl 1 rfl) ?_
  refine va_get (D := D) (ci := 22) (v := .ref (ad 43)) (C := RX17) (T := TX17) (N := 13) hx hb hts hin_RX17 hown hK hP 0 rfl rfl 6 (by decide) (hts (.fieldLink RX17 19 "PopupwrightModel" "pictures" "Ljava/util/List;") (by decide +kernel)) (fun _ h9 => h9) rfl dX17_showStep_14 ?_
  refine kx_Fi (wc := [(ad 43, .inr (4, [.int 0, .ref de, .int 0]))]) (wr := [(ad 40, .inr (22, [.int 0, .int 0, .int 0, .int 0, .ref (ad 41), .ref (ad 42), .ref (ad 43), .ref (ad 44), .int 500, .int 700, .int 10, .int 200, .ref (ad 45)])), (ad 41, .inr (4, [.int 0, .ref de, .int 0])), (ad 42, .inr (4, [.int 0, .ref de, .int 0])), (ad 44, .inr (4, [.int 0, .ref de, .int 0]))]) hP hD hS hA [3] [0, 1, 2, 4] rfl rfl (by decide) (by decide) (va_runF (As := []) (rest := []) (hK.1 4 _ rfl).2 ⟨hx, hb, hml, hown, hts⟩ (l_isEmpty l D de (ad 43) de 0 H.size) (va_cwF 0 hts gX17_showStep_Jx4a65c_isEmpty_aae02_f253Jx4a65c rfl rfl rfl (hTK.2.2.2.2.2.1 (RJx4a65c, ⟨"java/util/List", "isEmpty", "()Z"⟩, yJx4a65c_isEmpty_aae02) (by decide +kernel)) (by decide +kernel) ⟨Nat.le_of_ble_eq_true rfl, Nat.le_of_ble_eq_true rfl⟩) ⟨px_blind, (va_recv hK hP (ci := 4) (q0 := 3) rfl rfl), (px_pre hP hD hK hS hA hTK hZ [3] rfl rfl (by decide) [] rfl)⟩ rfl rfl hl.1 rfl (lv_room (Nat.le_of_ble_eq_true rfl)) dX17_showStep_17 ⟨(Nat.le_of_ble_eq_true rfl), (Nat.le_of_ble_eq_true rfl)⟩) (fun r_1 u H locs hw hP hD hK1 hS => ?_)
  have hP : va_P D vwCl ([(ad 40, .inr (22, [.int 0, .int 0, .int 0, .int 0, .ref (ad 41), .ref (ad 42), .ref (ad 43), .ref (ad 44), .int 500, .int 700, .int 10, .int 200, .ref (ad 45)])), (ad 41, .inr (4, [.int 0, .ref de, .int 0])), (ad 42, .inr (4, [.int 0, .ref de, .int 0])), (ad 44, .inr (4, [.int 0, .ref de, .int 0])), (ad 43, .inr (4, [.int 0, .ref de, .int 0]))]) H := hP
  have hD : va_D A ([(ad 40, .inr (22, [.int 0, .int 0, .int 0, .int 0, .ref (ad 41), .ref (ad 42), .ref (ad 43), .ref (ad 44), .int 500, .int 700, .int 10, .int 200, .ref (ad 45)])), (ad 41, .inr (4, [.int 0, .ref de, .int 0])), (ad 42, .inr (4, [.int 0, .ref de, .int 0])), (ad 44, .inr (4, [.int 0, .ref de, .int 0])), (ad 43, .inr (4, [.int 0, .ref de, .int 0]))]) := hD
  obtain rfl : r_1 = 1 := hw
  refine lv_if_ne (tgt := 92) hx hb dX17_showStep_22 (by decide) (fun _ => ?_) (fun h_ => absurd h_ (by decide))
  refine lv_aload_n hx hb dX17_showStep_92 rfl (lv_at hl 1 rfl) ?_
  refine lv_iconst (v := 1) hx hb dX17_showStep_93 (by decide) ?_
  refine kx_i (wc := wM ad de 0) (wr := []) hP hD hS hA [0, 1, 2, 4, 3] [] rfl rfl (by decide) (by decide) (va_runV (As := [.int 1]) (rest := []) ⟨hx, hb, hml, hown, hts⟩ (c_fails l D de ad 0 1 H.size) (cwV 1 hts gX17_showStep_X17_fails rfl rfl rfl (by decide +kernel) ⟨Nat.le_of_ble_eq_true rfl, Nat.le_of_ble_eq_true rfl⟩) ⟨px_blind, (va_recv hK hP (ci := 22) (q0 := 0) rfl rfl), (px_pre hP hD hK hS hA hTK hZ [0, 1, 2, 4, 3] rfl rfl (by decide) [] rfl)⟩ rfl rfl hl.1 rfl (lv_room (Nat.le_of_ble_eq_true rfl)) dX17_showStep_94 ⟨(Nat.le_of_ble_eq_true rfl), (Nat.le_of_ble_eq_true rfl)⟩) (fun r_2 u H locs hw hP hD hK1 hS => ?_)
  have hP : va_P D vwCl (wM ad de 1) H := hP
  have hD : va_D A (wM ad de 1) := hD
  obtain rfl : r_2 = 0 := hw
  refine W.widen (k := 0) (n := 0) (Nat.le_of_ble_eq_true rfl) (Nat.le_of_ble_eq_true rfl) ?_
  have hP9 := hP.sub (ws' := ([(ad 40, .inr (22, [.int 1, .int 0, .int 0, .int 0, .ref (ad 41), .ref (ad 42), .ref (ad 43), .ref (ad 44), .int 500, .int 700, .int 10, .int 200, .ref (ad 45)]))])) [0] rfl
  have hD9 := hD.sub (ws' := ([(ad 40, .inr (22, [.int 1, .int 0, .int 0, .int 0, .ref (ad 41), .ref (ad 42), .ref (ad 43), .ref (ad 44), .int 500, .int 700, .int 10, .int 200, .ref (ad 45)]))])) [0] (by decide) rfl
  have hK9 := hK.sub (tys' := []) [] rfl
  exact W.iret (v := 0) hx hb hr (fun t ht hW => ⟨⟨0, (1, [.int 0, .int 0, .int 0, .ref (ad 41), .ref (ad 42), .ref (ad 43), .ref (ad 44), .int 500, .int 700, .int 10, .int 200, .ref (ad 45)]), rfl, (by first | exact ⟨rfl, rfl⟩ | exact ⟨rfl, rfl, by assumption⟩ | exact Or.inl ⟨rfl, rfl, by assumption⟩ | exact Or.inr ⟨rfl, rfl, by assumption⟩ | exact Or.inl ⟨rfl, rfl, Or.inl (by assumption)⟩ | exact Or.inl ⟨rfl, rfl, Or.inr (by assumption)⟩ | exact Or.inr ⟨rfl, rfl, by assumption, by assumption⟩), ⟨by rw [ht]; exact hP9, va_K.moved hW.alike hK9, hD9⟩⟩, hS.F ht⟩) hS.2.2 dX17_showStep_97 hlocks

set_option maxHeartbeats 4000000 in
set_option maxRecDepth 100000 in
theorem m_flap (l : Launch) (D : va_G) (de : Nat) (ad : Nat → Nat) (c0 : Int32) (p0 : Int32) (sz : Nat) : Met l yX17_flap wsX17_flap ({ frames := 2, cells := 0, slots := 0, locals := 43 } : Room) (va_Pc [.ref (ad 40), .int p0] (PX de D ([]) (wM ad de c0) sz)) (va_Qi (fun (r : Int32) (u : Int32 × List Value) => (u.1 = 1 ∧ r = 0)) (fun u t => PW D ([]) (va_A (wM ad de c0) sz) ([(ad 40, .inr (22, .int u.1 :: u.2))]) t) (va_A (wM ad de c0) sz)) 0 0 (va_A (wM ad de c0) sz) := by
  refine Met.ofW (cc := cX17_flap) (maxL := 5) (ret := (some .int)) (by decide) rfl ?_
  intro p e s m args below meth c s₁ B hml hv
  obtain ⟨rfl, hsz, hP, hK, hD0, hTK, hZ⟩ := hv
  have hx := B.exec
  have hb := B.bytes
  have hr := B.returns
  have hts := atoms_spec (ws := wsX17_flap) B.pre
  have hown : s.vm.findClass RX17 = some m.cls := findClass_of_methodNamed B.named
  have hlocks := B.notSynchronized
  have hin_RX17 : ∀ w ∈ u_ws RX17 TX17 13, w ∈ wsX17_flap := by decide +kernel
  subst hsz
  have hD := hD0.self (sz := s.heap.size)
  generalize hAe : va_A (wM ad de c0) s.heap.size = A at hD hZ ⊢
  have hA : ∀ q : Nat, s.heap.size ≤ q → A q := fun q h => by rw [← hAe]; exact Or.inr h
  have hS : va_S A s.heap s.heap [] := va_S.rf
  have hP : va_P D vwCl (wM ad de c0) s.heap := hP
  have hD : va_D A (wM ad de c0) := hD
  have hl := lv_entry ([.ref (ad 40), .int p0]) (n := 5) (Nat.le_of_ble_eq_true rfl)
  rw [lg_entry_eq]
  generalize (lg_sl ([.ref (ad 40), .int p0]) ++ List.replicate (5 - (lg_sl ([.ref (ad 40), .int p0])).length) Slot.unset).toArray = ls at hl ⊢
  have hl : lv_has ls 5 [(0, .ref (ad 40)), (1, .int p0)] := hl
  refine lv_aload_n hx hb dX17_flap_0 rfl (lv_at hl 0 rfl) ?_
  refine lv_iconst (v := 0) hx hb dX17_flap_1 (by decide) ?_
  refine va_put (D := D) (ci := 22) (v := .int 0) (ty := .int) (C := RX17) (T := TX17) (N := 13) hx hb hts hin_RX17 tyX17 tyX17_ok nmX17 hown hK hP hD hS 0 rfl rfl 0 (by decide) (hts (.fieldLink RX17 41 "PopupwrightModel" "code" "I") (by decide +kernel)) (fun _ h9 => h9) rfl (by decide +kernel) rfl rfl (Nat.le_of_ble_eq_true rfl) dX17_flap_2 (fun H locs hP hD hS => ?_)
  have hP : va_P D vwCl (wM ad de 0) H := hP
  have hD : va_D A (wM ad de 0) := hD
  refine lv_aload_n hx hb dX17_flap_5 rfl (lv_at hl 0 rfl) ?_
  refine lv_iload_n hx hb dX17_flap_6 rfl (lv_at hl 1 rfl) ?_
  refine kx_i (wc := wM ad de 0) (wr := []) hP hD hS hA [0, 1, 2, 3, 4] [] rfl rfl (by decide) (by decide) (va_runV (As := [.int p0]) (rest := []) ⟨hx, hb, hml, hown, hts⟩ (c_isPicture l D de ad 0 p0 H.size) (cwV 1 hts gX17_flap_X17_isPicture rfl rfl rfl (by decide +kernel) ⟨Nat.le_of_ble_eq_true rfl, Nat.le_of_ble_eq_true rfl⟩) ⟨px_blind, (va_recv hK hP (ci := 22) (q0 := 0) rfl rfl), (px_pre hP hD hK hS hA hTK hZ [0, 1, 2, 3, 4] rfl rfl (by decide) [] rfl)⟩ rfl rfl hl.1 rfl (lv_room (Nat.le_of_ble_eq_true rfl)) dX17_flap_7 ⟨(Nat.le_of_ble_eq_true rfl), (Nat.le_of_ble_eq_true rfl)⟩) (fun r_1 u H locs hw hP hD hK1 hS => ?_)
  have hP : va_P D vwCl (wM ad de 0) H := hP
  have hD : va_D A (wM ad de 0) := hD
  obtain rfl : r_1 = 0 := hw
  refine lv_if_ne (tgt := 19) hx hb dX17_flap_10 (by decide) (fun h_ => absurd (by decide) h_) (fun _ => ?_)
  refine lv_aload_n hx hb dX17_flap_13 rfl (lv_at hl 0 rfl) ?_
  refine lv_iconst (v := 1) hx hb dX17_flap_14 (by decide) ?_
  refine kx_i (wc := wM ad de 0) (wr := []) hP hD hS hA [0, 1, 2, 3, 4] [] rfl rfl (by decide) (by decide) (va_runV (As := [.int 1]) (rest := []) ⟨hx, hb, hml, hown, hts⟩ (c_fails l D de ad 0 1 H.size) (cwV 1 hts gX17_flap_X17_fails rfl rfl rfl (by decide +kernel) ⟨Nat.le_of_ble_eq_true rfl, Nat.le_of_ble_eq_true rfl⟩) ⟨px_blind, (va_recv hK hP (ci := 22) (q0 := 0) rfl rfl), (px_pre hP hD hK hS hA hTK hZ [0, 1, 2, 3, 4] rfl rfl (by decide) [] rfl)⟩ rfl rfl hl.1 rfl (lv_room (Nat.le_of_ble_eq_true rfl)) dX17_flap_15 ⟨(Nat.le_of_ble_eq_true rfl), (Nat.le_of_ble_eq_true rfl)⟩) (fun r_2 u H locs hw hP hD hK1 hS => ?_)
  have hP : va_P D vwCl (wM ad de 1) H := hP
  have hD : va_D A (wM ad de 1) := hD
  obtain rfl : r_2 = 0 := hw
  refine W.widen (k := 0) (n := 0) (Nat.le_of_ble_eq_true rfl) (Nat.le_of_ble_eq_true rfl) ?_
  have hP9 := hP.sub (ws' := ([(ad 40, .inr (22, [.int 1, .int 0, .int 0, .int 0, .ref (ad 41), .ref (ad 42), .ref (ad 43), .ref (ad 44), .int 500, .int 700, .int 10, .int 200, .ref (ad 45)]))])) [0] rfl
  have hD9 := hD.sub (ws' := ([(ad 40, .inr (22, [.int 1, .int 0, .int 0, .int 0, .ref (ad 41), .ref (ad 42), .ref (ad 43), .ref (ad 44), .int 500, .int 700, .int 10, .int 200, .ref (ad 45)]))])) [0] (by decide) rfl
  have hK9 := hK.sub (tys' := []) [] rfl
  exact W.iret (v := 0) hx hb hr (fun t ht hW => ⟨⟨0, (1, [.int 0, .int 0, .int 0, .ref (ad 41), .ref (ad 42), .ref (ad 43), .ref (ad 44), .int 500, .int 700, .int 10, .int 200, .ref (ad 45)]), rfl, (by first | exact ⟨rfl, rfl⟩ | exact ⟨rfl, rfl, by assumption⟩ | exact Or.inl ⟨rfl, rfl, by assumption⟩ | exact Or.inr ⟨rfl, rfl, by assumption⟩ | exact Or.inl ⟨rfl, rfl, Or.inl (by assumption)⟩ | exact Or.inl ⟨rfl, rfl, Or.inr (by assumption)⟩ | exact Or.inr ⟨rfl, rfl, by assumption, by assumption⟩), ⟨by rw [ht]; exact hP9, va_K.moved hW.alike hK9, hD9⟩⟩, hS.F ht⟩) hS.2.2 dX17_flap_18 hlocks

set_option maxHeartbeats 4000000 in
set_option maxRecDepth 100000 in
theorem m_turn (l : Launch) (D : va_G) (de : Nat) (ad : Nat → Nat) (c0 : Int32) (p0 : Int32) (sz : Nat) : Met l yX17_turn wsX17_turn ({ frames := 2, cells := 0, slots := 0, locals := 43 } : Room) (va_Pc [.ref (ad 40), .int p0] (PX de D ([]) (wM ad de c0) sz)) (va_Qi (fun (r : Int32) (u : Int32 × List Value) => (u.1 = 1 ∧ r = 0)) (fun u t => PW D ([]) (va_A (wM ad de c0) sz) ([(ad 40, .inr (22, .int u.1 :: u.2))]) t) (va_A (wM ad de c0) sz)) 0 0 (va_A (wM ad de c0) sz) := by
  refine Met.ofW (cc := cX17_turn) (maxL := 2) (ret := (some .boolean)) (by decide) rfl ?_
  intro p e s m args below meth c s₁ B hml hv
  obtain ⟨rfl, hsz, hP, hK, hD0, hTK, hZ⟩ := hv
  have hx := B.exec
  have hb := B.bytes
  have hr := B.returns
  have hts := atoms_spec (ws := wsX17_turn) B.pre
  have hown : s.vm.findClass RX17 = some m.cls := findClass_of_methodNamed B.named
  have hlocks := B.notSynchronized
  subst hsz
  have hD := hD0.self (sz := s.heap.size)
  generalize hAe : va_A (wM ad de c0) s.heap.size = A at hD hZ ⊢
  have hA : ∀ q : Nat, s.heap.size ≤ q → A q := fun q h => by rw [← hAe]; exact Or.inr h
  have hS : va_S A s.heap s.heap [] := va_S.rf
  have hP : va_P D vwCl (wM ad de c0) s.heap := hP
  have hD : va_D A (wM ad de c0) := hD
  have hl := lv_entry ([.ref (ad 40), .int p0]) (n := 2) (Nat.le_of_ble_eq_true rfl)
  rw [lg_entry_eq]
  generalize (lg_sl ([.ref (ad 40), .int p0]) ++ List.replicate (2 - (lg_sl ([.ref (ad 40), .int p0])).length) Slot.unset).toArray = ls at hl ⊢
  have hl : lv_has ls 2 [(0, .ref (ad 40)), (1, .int p0)] := hl
  refine lv_aload_n hx hb dX17_turn_0 rfl (lv_at hl 0 rfl) ?_
  refine lv_iload_n hx hb dX17_turn_1 rfl (lv_at hl 1 rfl) ?_
  refine kx_i (wc := wM ad de c0) (wr := []) hP hD hS hA [0, 1, 2, 3, 4] [] rfl rfl (by decide) (by decide) (va_runV (As := [.int p0]) (rest := []) ⟨hx, hb, hml, hown, hts⟩ (c_isPicture l D de ad c0 p0 s.heap.size) (cwV 1 hts gX17_turn_X17_isPicture rfl rfl rfl (by decide +kernel) ⟨Nat.le_of_ble_eq_true rfl, Nat.le_of_ble_eq_true rfl⟩) ⟨px_blind, (va_recv hK hP (ci := 22) (q0 := 0) rfl rfl), (px_pre hP hD hK hS hA hTK hZ [0, 1, 2, 3, 4] rfl rfl (by decide) [] rfl)⟩ rfl rfl hl.1 rfl (lv_room (Nat.le_of_ble_eq_true rfl)) dX17_turn_2 ⟨(Nat.le_of_ble_eq_true rfl), (Nat.le_of_ble_eq_true rfl)⟩) (fun r_1 u H locs hw hP hD hK1 hS => ?_)
  have hP : va_P D vwCl (wM ad de c0) H := hP
  have hD : va_D A (wM ad de c0) := hD
  obtain rfl : r_1 = 0 := hw
  refine lv_if_eq (tgt := 27) hx hb dX17_turn_5 (by decide) (fun _ => ?_) (fun h_ => absurd (by decide) h_)
  refine lv_aload_n hx hb dX17_turn_27 rfl (lv_at hl 0 rfl) ?_
  refine lv_aload_n hx hb dX17_turn_28 rfl (lv_at hl 0 rfl) ?_
  refine lv_iload_n hx hb dX17_turn_29 rfl (lv_at hl 1 rfl) ?_
  refine kx_i (wc := wM ad de c0) (wr := []) hP hD hS hA [0, 1, 2, 3, 4] [] rfl rfl (by decide) (by decide) (va_runV (As := [.int p0]) (rest := [.ref (ad 40)]) ⟨hx, hb, hml, hown, hts⟩ (c_isPicture l D de ad c0 p0 H.size) (cwV 1 hts gX17_turn_X17_isPicture rfl rfl rfl (by decide +kernel) ⟨Nat.le_of_ble_eq_true rfl, Nat.le_of_ble_eq_true rfl⟩) ⟨px_blind, (va_recv hK hP (ci := 22) (q0 := 0) rfl rfl), (px_pre hP hD hK hS hA hTK hZ [0, 1, 2, 3, 4] rfl rfl (by decide) [] rfl)⟩ rfl rfl hl.1 rfl (lv_room (Nat.le_of_ble_eq_true rfl)) dX17_turn_30 ⟨(Nat.le_of_ble_eq_true rfl), (Nat.le_of_ble_eq_true rfl)⟩) (fun r_2 u H locs hw hP hD hK1 hS => ?_)
  have hP : va_P D vwCl (wM ad de c0) H := hP
  have hD : va_D A (wM ad de c0) := hD
  obtain rfl : r_2 = 0 := hw
  refine lv_if_eq (tgt := 40) hx hb dX17_turn_33 (by decide) (fun _ => ?_) (fun h_ => absurd (by decide) h_)
  refine lv_iconst (v := 1) hx hb dX17_turn_40 (by decide) ?_
  refine kx_i (wc := wM ad de c0) (wr := []) hP hD hS hA [0, 1, 2, 3, 4] [] rfl rfl (by decide) (by decide) (va_runV (As := [.int 1]) (rest := []) ⟨hx, hb, hml, hown, hts⟩ (c_failsBoolean l D de ad c0 1 H.size) (cwV 1 hts gX17_turn_X17_failsBoolean rfl rfl rfl (by decide +kernel) ⟨Nat.le_of_ble_eq_true rfl, Nat.le_of_ble_eq_true rfl⟩) ⟨px_blind, (va_recv hK hP (ci := 22) (q0 := 0) rfl rfl), (px_pre hP hD hK hS hA hTK hZ [0, 1, 2, 3, 4] rfl rfl (by decide) [] rfl)⟩ rfl rfl hl.1 rfl (lv_room (Nat.le_of_ble_eq_true rfl)) dX17_turn_41 ⟨(Nat.le_of_ble_eq_true rfl), (Nat.le_of_ble_eq_true rfl)⟩) (fun r_3 u H locs hw hP hD hK1 hS => ?_)
  have hP : va_P D vwCl (wM ad de 1) H := hP
  have hD : va_D A (wM ad de 1) := hD
  obtain rfl : r_3 = 0 := hw
  refine W.widen (k := 0) (n := 0) (Nat.le_of_ble_eq_true rfl) (Nat.le_of_ble_eq_true rfl) ?_
  have hP9 := hP.sub (ws' := ([(ad 40, .inr (22, [.int 1, .int 0, .int 0, .int 0, .ref (ad 41), .ref (ad 42), .ref (ad 43), .ref (ad 44), .int 500, .int 700, .int 10, .int 200, .ref (ad 45)]))])) [0] rfl
  have hD9 := hD.sub (ws' := ([(ad 40, .inr (22, [.int 1, .int 0, .int 0, .int 0, .ref (ad 41), .ref (ad 42), .ref (ad 43), .ref (ad 44), .int 500, .int 700, .int 10, .int 200, .ref (ad 45)]))])) [0] (by decide) rfl
  have hK9 := hK.sub (tys' := []) [] rfl
  exact W.zret (v := 0) hx hb hr (by decide) (fun t ht hW => ⟨⟨0, (1, [.int 0, .int 0, .int 0, .ref (ad 41), .ref (ad 42), .ref (ad 43), .ref (ad 44), .int 500, .int 700, .int 10, .int 200, .ref (ad 45)]), rfl, (by first | exact ⟨rfl, rfl⟩ | exact ⟨rfl, rfl, by assumption⟩ | exact Or.inl ⟨rfl, rfl, by assumption⟩ | exact Or.inr ⟨rfl, rfl, by assumption⟩ | exact Or.inl ⟨rfl, rfl, Or.inl (by assumption)⟩ | exact Or.inl ⟨rfl, rfl, Or.inr (by assumption)⟩ | exact Or.inr ⟨rfl, rfl, by assumption, by assumption⟩), ⟨by rw [ht]; exact hP9, va_K.moved hW.alike hK9, hD9⟩⟩, hS.F ht⟩) hS.2.2 dX17_turn_44 hlocks

set_option maxHeartbeats 4000000 in
set_option maxRecDepth 100000 in
theorem m_pull (l : Launch) (D : va_G) (de : Nat) (ad : Nat → Nat) (c0 : Int32) (p0 p1 p2 p3 : Int32) (sz : Nat) : Met l yX17_pull wsX17_pull ({ frames := 2, cells := 0, slots := 0, locals := 44 } : Room) (va_Pc [.ref (ad 40), .int p0, .int p1, .int p2, .int p3] (PX de D ([]) (wM ad de c0) sz)) (va_Qi (fun (r : Int32) (u : Int32 × List Value) => (u.1 = 1 ∧ r = 0)) (fun u t => PW D ([]) (va_A (wM ad de c0) sz) ([(ad 40, .inr (22, .int u.1 :: u.2))]) t) (va_A (wM ad de c0) sz)) 0 0 (va_A (wM ad de c0) sz) := by
  refine Met.ofW (cc := cX17_pull) (maxL := 6) (ret := (some .int)) (by decide) rfl ?_
  intro p e s m args below meth c s₁ B hml hv
  obtain ⟨rfl, hsz, hP, hK, hD0, hTK, hZ⟩ := hv
  have hx := B.exec
  have hb := B.bytes
  have hr := B.returns
  have hts := atoms_spec (ws := wsX17_pull) B.pre
  have hown : s.vm.findClass RX17 = some m.cls := findClass_of_methodNamed B.named
  have hlocks := B.notSynchronized
  have hin_RX17 : ∀ w ∈ u_ws RX17 TX17 13, w ∈ wsX17_pull := by decide +kernel
  subst hsz
  have hD := hD0.self (sz := s.heap.size)
  generalize hAe : va_A (wM ad de c0) s.heap.size = A at hD hZ ⊢
  have hA : ∀ q : Nat, s.heap.size ≤ q → A q := fun q h => by rw [← hAe]; exact Or.inr h
  have hS : va_S A s.heap s.heap [] := va_S.rf
  have hP : va_P D vwCl (wM ad de c0) s.heap := hP
  have hD : va_D A (wM ad de c0) := hD
  have hl := lv_entry ([.ref (ad 40), .int p0, .int p1, .int p2, .int p3]) (n := 6) (Nat.le_of_ble_eq_true rfl)
  rw [lg_entry_eq]
  generalize (lg_sl ([.ref (ad 40), .int p0, .int p1, .int p2, .int p3]) ++ List.replicate (6 - (lg_sl ([.ref (ad 40), .int p0, .int p1, .int p2, .int p3])).length) Slot.unset).toArray = ls at hl ⊢
  have hl : lv_has ls 6 [(0, .ref (ad 40)), (1, .int p0), (2, .int p1), (3, .int p2), (4, .int p3)] := hl
  refine lv_aload_n hx hb dX17_pull_0 rfl (lv_at hl 0 rfl) ?_
  refine lv_iconst (v := 0) hx hb dX17_pull_1 (by decide) ?_
  refine va_put (D := D) (ci := 22) (v := .int 0) (ty := .int) (C := RX17) (T := TX17) (N := 13) hx hb hts hin_RX17 tyX17 tyX17_ok nmX17 hown hK hP hD hS 0 rfl rfl 0 (by decide) (hts (.fieldLink RX17 41 "PopupwrightModel" "code" "I") (by decide +kernel)) (fun _ h9 => h9) rfl (by decide +kernel) rfl rfl (Nat.le_of_ble_eq_true rfl) dX17_pull_2 (fun H locs hP hD hS => ?_)
  have hP : va_P D vwCl (wM ad de 0) H := hP
  have hD : va_D A (wM ad de 0) := hD
  refine lv_aload_n hx hb dX17_pull_5 rfl (lv_at hl 0 rfl) ?_
  refine lv_iload_n hx hb dX17_pull_6 rfl (lv_at hl 1 rfl) ?_
  refine kx_q (wc := wM ad de 0) (wr := []) hP hD hS hA [0, 1, 2, 3, 4] [] rfl rfl (by decide) (by decide) (va_runV (As := [.int p0]) (rest := []) ⟨hx, hb, hml, hown, hts⟩ (c_stripAt l D de ad 0 p0 H.size) (cwV 1 hts gX17_pull_X17_stripAt rfl rfl rfl (by decide +kernel) ⟨Nat.le_of_ble_eq_true rfl, Nat.le_of_ble_eq_true rfl⟩) ⟨px_blind, (va_recv hK hP (ci := 22) (q0 := 0) rfl rfl), (px_pre hP hD hK hS hA hTK hZ [0, 1, 2, 3, 4] rfl rfl (by decide) [] rfl)⟩ rfl rfl hl.1 rfl (lv_room (Nat.le_of_ble_eq_true rfl)) dX17_pull_7 ⟨(Nat.le_of_ble_eq_true rfl), (Nat.le_of_ble_eq_true rfl)⟩) (fun r_1 u H locs hw hP hD hK1 hS => ?_)
  have hP : va_P D vwCl (wM ad de 0) H := hP
  have hD : va_D A (wM ad de 0) := hD
  obtain rfl : r_1 = none := hw
  refine lv_astoreN (lv' := [(5, .null), (0, .ref (ad 40)), (1, .int p0), (2, .int p1), (3, .int p2), (4, .int p3)]) hx hb dX17_pull_10 hl (by decide) rfl (fun ls hl => ?_)
  refine lv_aloadN hx hb dX17_pull_12 (lv_at hl 0 rfl) ?_
  refine lv_ifnonnullN hx hb dX17_pull_14 ?_
  refine lv_aload_n hx hb dX17_pull_17 rfl (lv_at hl 1 rfl) ?_
  refine lv_iconst (v := 1) hx hb dX17_pull_18 (by decide) ?_
  refine kx_i (wc := wM ad de 0) (wr := []) hP hD hS hA [0, 1, 2, 3, 4] [] rfl rfl (by decide) (by decide) (va_runV (As := [.int 1]) (rest := []) ⟨hx, hb, hml, hown, hts⟩ (c_fails l D de ad 0 1 H.size) (cwV 1 hts gX17_pull_X17_fails rfl rfl rfl (by decide +kernel) ⟨Nat.le_of_ble_eq_true rfl, Nat.le_of_ble_eq_true rfl⟩) ⟨px_blind, (va_recv hK hP (ci := 22) (q0 := 0) rfl rfl), (px_pre hP hD hK hS hA hTK hZ [0, 1, 2, 3, 4] rfl rfl (by decide) [] rfl)⟩ rfl rfl hl.1 rfl (lv_room (Nat.le_of_ble_eq_true rfl)) dX17_pull_19 ⟨(Nat.le_of_ble_eq_true rfl), (Nat.le_of_ble_eq_true rfl)⟩) (fun r_2 u H locs hw hP hD hK1 hS => ?_)
  have hP : va_P D vwCl (wM ad de 1) H := hP
  have hD : va_D A (wM ad de 1) := hD
  obtain rfl : r_2 = 0 := hw
  refine W.widen (k := 0) (n := 0) (Nat.le_of_ble_eq_true rfl) (Nat.le_of_ble_eq_true rfl) ?_
  have hP9 := hP.sub (ws' := ([(ad 40, .inr (22, [.int 1, .int 0, .int 0, .int 0, .ref (ad 41), .ref (ad 42), .ref (ad 43), .ref (ad 44), .int 500, .int 700, .int 10, .int 200, .ref (ad 45)]))])) [0] rfl
  have hD9 := hD.sub (ws' := ([(ad 40, .inr (22, [.int 1, .int 0, .int 0, .int 0, .ref (ad 41), .ref (ad 42), .ref (ad 43), .ref (ad 44), .int 500, .int 700, .int 10, .int 200, .ref (ad 45)]))])) [0] (by decide) rfl
  have hK9 := hK.sub (tys' := []) [] rfl
  exact W.iret (v := 0) hx hb hr (fun t ht hW => ⟨⟨0, (1, [.int 0, .int 0, .int 0, .ref (ad 41), .ref (ad 42), .ref (ad 43), .ref (ad 44), .int 500, .int 700, .int 10, .int 200, .ref (ad 45)]), rfl, (by first | exact ⟨rfl, rfl⟩ | exact ⟨rfl, rfl, by assumption⟩ | exact Or.inl ⟨rfl, rfl, by assumption⟩ | exact Or.inr ⟨rfl, rfl, by assumption⟩ | exact Or.inl ⟨rfl, rfl, Or.inl (by assumption)⟩ | exact Or.inl ⟨rfl, rfl, Or.inr (by assumption)⟩ | exact Or.inr ⟨rfl, rfl, by assumption, by assumption⟩), ⟨by rw [ht]; exact hP9, va_K.moved hW.alike hK9, hD9⟩⟩, hS.F ht⟩) hS.2.2 dX17_pull_22 hlocks

set_option maxHeartbeats 4000000 in
set_option maxRecDepth 100000 in
theorem m_join (l : Launch) (D : va_G) (de : Nat) (ad : Nat → Nat) (c0 : Int32) (p0 p1 : Int32) (sz : Nat) : Met l yX17_join wsX17_join ({ frames := 2, cells := 0, slots := 0, locals := 43 } : Room) (va_Pc [.ref (ad 40), .int p0, .int p1] (PX de D ([]) (wM ad de c0) sz)) (va_Qi (fun (r : Int32) (u : Int32 × List Value) => (u.1 = 1 ∧ r = 0)) (fun u t => PW D ([]) (va_A (wM ad de c0) sz) ([(ad 40, .inr (22, .int u.1 :: u.2))]) t) (va_A (wM ad de c0) sz)) 0 0 (va_A (wM ad de c0) sz) := by
  refine Met.ofW (cc := cX17_join) (maxL := 8) (ret := (some .int)) (by decide) rfl ?_
  intro p e s m args below meth c s₁ B hml hv
  obtain ⟨rfl, hsz, hP, hK, hD0, hTK, hZ⟩ := hv
  have hx := B.exec
  have hb := B.bytes
  have hr := B.returns
  have hts := atoms_spec (ws := wsX17_join) B.pre
  have hown : s.vm.findClass RX17 = some m.cls := findClass_of_methodNamed B.named
  have hlocks := B.notSynchronized
  have hin_RX17 : ∀ w ∈ u_ws RX17 TX17 13, w ∈ wsX17_join := by decide +kernel
  subst hsz
  have hD := hD0.self (sz := s.heap.size)
  generalize hAe : va_A (wM ad de c0) s.heap.size = A at hD hZ ⊢
  have hA : ∀ q : Nat, s.heap.size ≤ q → A q := fun q h => by rw [← hAe]; exact Or.inr h
  have hS : va_S A s.heap s.heap [] := va_S.rf
  have hP : va_P D vwCl (wM ad de c0) s.heap := hP
  have hD : va_D A (wM ad de c0) := hD
  have hl := lv_entry ([.ref (ad 40), .int p0, .int p1]) (n := 8) (Nat.le_of_ble_eq_true rfl)
  rw [lg_entry_eq]
  generalize (lg_sl ([.ref (ad 40), .int p0, .int p1]) ++ List.replicate (8 - (lg_sl ([.ref (ad 40), .int p0, .int p1])).length) Slot.unset).toArray = ls at hl ⊢
  have hl : lv_has ls 8 [(0, .ref (ad 40)), (1, .int p0), (2, .int p1)] := hl
  refine lv_aload_n hx hb dX17_join_0 rfl (lv_at hl 0 rfl) ?_
  refine lv_iconst (v := 0) hx hb dX17_join_1 (by decide) ?_
  refine va_put (D := D) (ci := 22) (v := .int 0) (ty := .int) (C := RX17) (T := TX17) (N := 13) hx hb hts hin_RX17 tyX17 tyX17_ok nmX17 hown hK hP hD hS 0 rfl rfl 0 (by decide) (hts (.fieldLink RX17 41 "PopupwrightModel" "code" "I") (by decide +kernel)) (fun _ h9 => h9) rfl (by decide +kernel) rfl rfl (Nat.le_of_ble_eq_true rfl) dX17_join_2 (fun H locs hP hD hS => ?_)
  have hP : va_P D vwCl (wM ad de 0) H := hP
  have hD : va_D A (wM ad de 0) := hD
  refine lv_aload_n hx hb dX17_join_5 rfl (lv_at hl 0 rfl) ?_
  refine lv_iload_n hx hb dX17_join_6 rfl (lv_at hl 1 rfl) ?_
  refine kx_i (wc := wM ad de 0) (wr := []) hP hD hS hA [0, 1, 2, 3, 4] [] rfl rfl (by decide) (by decide) (va_runV (As := [.int p0]) (rest := []) ⟨hx, hb, hml, hown, hts⟩ (c_isPull l D de ad 0 p0 H.size) (cwV 1 hts gX17_join_X17_isPull rfl rfl rfl (by decide +kernel) ⟨Nat.le_of_ble_eq_true rfl, Nat.le_of_ble_eq_true rfl⟩) ⟨px_blind, (va_recv hK hP (ci := 22) (q0 := 0) rfl rfl), (px_pre hP hD hK hS hA hTK hZ [0, 1, 2, 3, 4] rfl rfl (by decide) [] rfl)⟩ rfl rfl hl.1 rfl (lv_room (Nat.le_of_ble_eq_true rfl)) dX17_join_7 ⟨(Nat.le_of_ble_eq_true rfl), (Nat.le_of_ble_eq_true rfl)⟩) (fun r_1 u H locs hw hP hD hK1 hS => ?_)
  have hP : va_P D vwCl (wM ad de 0) H := hP
  have hD : va_D A (wM ad de 0) := hD
  obtain rfl : r_1 = 0 := hw
  refine lv_if_eq (tgt := 21) hx hb dX17_join_10 (by decide) (fun _ => ?_) (fun h_ => absurd (by decide) h_)
  refine lv_aload_n hx hb dX17_join_21 rfl (lv_at hl 0 rfl) ?_
  refine lv_iconst (v := 1) hx hb dX17_join_22 (by decide) ?_
  refine kx_i (wc := wM ad de 0) (wr := []) hP hD hS hA [0, 1, 2, 3, 4] [] rfl rfl (by decide) (by decide) (va_runV (As := [.int 1]) (rest := []) ⟨hx, hb, hml, hown, hts⟩ (c_fails l D de ad 0 1 H.size) (cwV 1 hts gX17_join_X17_fails rfl rfl rfl (by decide +kernel) ⟨Nat.le_of_ble_eq_true rfl, Nat.le_of_ble_eq_true rfl⟩) ⟨px_blind, (va_recv hK hP (ci := 22) (q0 := 0) rfl rfl), (px_pre hP hD hK hS hA hTK hZ [0, 1, 2, 3, 4] rfl rfl (by decide) [] rfl)⟩ rfl rfl hl.1 rfl (lv_room (Nat.le_of_ble_eq_true rfl)) dX17_join_23 ⟨(Nat.le_of_ble_eq_true rfl), (Nat.le_of_ble_eq_true rfl)⟩) (fun r_2 u H locs hw hP hD hK1 hS => ?_)
  have hP : va_P D vwCl (wM ad de 1) H := hP
  have hD : va_D A (wM ad de 1) := hD
  obtain rfl : r_2 = 0 := hw
  refine W.widen (k := 0) (n := 0) (Nat.le_of_ble_eq_true rfl) (Nat.le_of_ble_eq_true rfl) ?_
  have hP9 := hP.sub (ws' := ([(ad 40, .inr (22, [.int 1, .int 0, .int 0, .int 0, .ref (ad 41), .ref (ad 42), .ref (ad 43), .ref (ad 44), .int 500, .int 700, .int 10, .int 200, .ref (ad 45)]))])) [0] rfl
  have hD9 := hD.sub (ws' := ([(ad 40, .inr (22, [.int 1, .int 0, .int 0, .int 0, .ref (ad 41), .ref (ad 42), .ref (ad 43), .ref (ad 44), .int 500, .int 700, .int 10, .int 200, .ref (ad 45)]))])) [0] (by decide) rfl
  have hK9 := hK.sub (tys' := []) [] rfl
  exact W.iret (v := 0) hx hb hr (fun t ht hW => ⟨⟨0, (1, [.int 0, .int 0, .int 0, .ref (ad 41), .ref (ad 42), .ref (ad 43), .ref (ad 44), .int 500, .int 700, .int 10, .int 200, .ref (ad 45)]), rfl, (by first | exact ⟨rfl, rfl⟩ | exact ⟨rfl, rfl, by assumption⟩ | exact Or.inl ⟨rfl, rfl, by assumption⟩ | exact Or.inr ⟨rfl, rfl, by assumption⟩ | exact Or.inl ⟨rfl, rfl, Or.inl (by assumption)⟩ | exact Or.inl ⟨rfl, rfl, Or.inr (by assumption)⟩ | exact Or.inr ⟨rfl, rfl, by assumption, by assumption⟩), ⟨by rw [ht]; exact hP9, va_K.moved hW.alike hK9, hD9⟩⟩, hS.F ht⟩) hS.2.2 dX17_join_26 hlocks

set_option maxHeartbeats 4000000 in
set_option maxRecDepth 100000 in
theorem m_move (l : Launch) (D : va_G) (de : Nat) (ad : Nat → Nat) (c0 : Int32) (p0 p1 p2 : Int32) (sz : Nat) : Met l yX17_move wsX17_move ({ frames := 2, cells := 0, slots := 0, locals := 43 } : Room) (va_Pc [.ref (ad 40), .int p0, .int p1, .int p2] (PX de D ([]) (wM ad de c0) sz)) (va_Qi (fun (r : Int32) (u : Int32 × List Value) => (u.1 = 1 ∧ r = 0)) (fun u t => PW D ([]) (va_A (wM ad de c0) sz) ([(ad 40, .inr (22, .int u.1 :: u.2))]) t) (va_A (wM ad de c0) sz)) 0 0 (va_A (wM ad de c0) sz) := by
  refine Met.ofW (cc := cX17_move) (maxL := 8) (ret := (some .int)) (by decide) rfl ?_
  intro p e s m args below meth c s₁ B hml hv
  obtain ⟨rfl, hsz, hP, hK, hD0, hTK, hZ⟩ := hv
  have hx := B.exec
  have hb := B.bytes
  have hr := B.returns
  have hts := atoms_spec (ws := wsX17_move) B.pre
  have hown : s.vm.findClass RX17 = some m.cls := findClass_of_methodNamed B.named
  have hlocks := B.notSynchronized
  have hin_RX17 : ∀ w ∈ u_ws RX17 TX17 13, w ∈ wsX17_move := by decide +kernel
  subst hsz
  have hD := hD0.self (sz := s.heap.size)
  generalize hAe : va_A (wM ad de c0) s.heap.size = A at hD hZ ⊢
  have hA : ∀ q : Nat, s.heap.size ≤ q → A q := fun q h => by rw [← hAe]; exact Or.inr h
  have hS : va_S A s.heap s.heap [] := va_S.rf
  have hP : va_P D vwCl (wM ad de c0) s.heap := hP
  have hD : va_D A (wM ad de c0) := hD
  have hl := lv_entry ([.ref (ad 40), .int p0, .int p1, .int p2]) (n := 8) (Nat.le_of_ble_eq_true rfl)
  rw [lg_entry_eq]
  generalize (lg_sl ([.ref (ad 40), .int p0, .int p1, .int p2]) ++ List.replicate (8 - (lg_sl ([.ref (ad 40), .int p0, .int p1, .int p2])).length) Slot.unset).toArray = ls at hl ⊢
  have hl : lv_has ls 8 [(0, .ref (ad 40)), (1, .int p0), (2, .int p1), (3, .int p2)] := hl
  refine lv_aload_n hx hb dX17_move_0 rfl (lv_at hl 0 rfl) ?_
  refine lv_iconst (v := 0) hx hb dX17_move_1 (by decide) ?_
  refine va_put (D := D) (ci := 22) (v := .int 0) (ty := .int) (C := RX17) (T := TX17) (N := 13) hx hb hts hin_RX17 tyX17 tyX17_ok nmX17 hown hK hP hD hS 0 rfl rfl 0 (by decide) (hts (.fieldLink RX17 41 "PopupwrightModel" "code" "I") (by decide +kernel)) (fun _ h9 => h9) rfl (by decide +kernel) rfl rfl (Nat.le_of_ble_eq_true rfl) dX17_move_2 (fun H locs hP hD hS => ?_)
  have hP : va_P D vwCl (wM ad de 0) H := hP
  have hD : va_D A (wM ad de 0) := hD
  refine lv_aload_n hx hb dX17_move_5 rfl (lv_at hl 0 rfl) ?_
  refine lv_iload_n hx hb dX17_move_6 rfl (lv_at hl 1 rfl) ?_
  refine kx_i (wc := wM ad de 0) (wr := []) hP hD hS hA [0, 1, 2, 3, 4] [] rfl rfl (by decide) (by decide) (va_runV (As := [.int p0]) (rest := []) ⟨hx, hb, hml, hown, hts⟩ (c_isPull l D de ad 0 p0 H.size) (cwV 1 hts gX17_move_X17_isPull rfl rfl rfl (by decide +kernel) ⟨Nat.le_of_ble_eq_true rfl, Nat.le_of_ble_eq_true rfl⟩) ⟨px_blind, (va_recv hK hP (ci := 22) (q0 := 0) rfl rfl), (px_pre hP hD hK hS hA hTK hZ [0, 1, 2, 3, 4] rfl rfl (by decide) [] rfl)⟩ rfl rfl hl.1 rfl (lv_room (Nat.le_of_ble_eq_true rfl)) dX17_move_7 ⟨(Nat.le_of_ble_eq_true rfl), (Nat.le_of_ble_eq_true rfl)⟩) (fun r_1 u H locs hw hP hD hK1 hS => ?_)
  have hP : va_P D vwCl (wM ad de 0) H := hP
  have hD : va_D A (wM ad de 0) := hD
  obtain rfl : r_1 = 0 := hw
  refine lv_if_ne (tgt := 19) hx hb dX17_move_10 (by decide) (fun h_ => absurd (by decide) h_) (fun _ => ?_)
  refine lv_aload_n hx hb dX17_move_13 rfl (lv_at hl 0 rfl) ?_
  refine lv_iconst (v := 1) hx hb dX17_move_14 (by decide) ?_
  refine kx_i (wc := wM ad de 0) (wr := []) hP hD hS hA [0, 1, 2, 3, 4] [] rfl rfl (by decide) (by decide) (va_runV (As := [.int 1]) (rest := []) ⟨hx, hb, hml, hown, hts⟩ (c_fails l D de ad 0 1 H.size) (cwV 1 hts gX17_move_X17_fails rfl rfl rfl (by decide +kernel) ⟨Nat.le_of_ble_eq_true rfl, Nat.le_of_ble_eq_true rfl⟩) ⟨px_blind, (va_recv hK hP (ci := 22) (q0 := 0) rfl rfl), (px_pre hP hD hK hS hA hTK hZ [0, 1, 2, 3, 4] rfl rfl (by decide) [] rfl)⟩ rfl rfl hl.1 rfl (lv_room (Nat.le_of_ble_eq_true rfl)) dX17_move_15 ⟨(Nat.le_of_ble_eq_true rfl), (Nat.le_of_ble_eq_true rfl)⟩) (fun r_2 u H locs hw hP hD hK1 hS => ?_)
  have hP : va_P D vwCl (wM ad de 1) H := hP
  have hD : va_D A (wM ad de 1) := hD
  obtain rfl : r_2 = 0 := hw
  refine W.widen (k := 0) (n := 0) (Nat.le_of_ble_eq_true rfl) (Nat.le_of_ble_eq_true rfl) ?_
  have hP9 := hP.sub (ws' := ([(ad 40, .inr (22, [.int 1, .int 0, .int 0, .int 0, .ref (ad 41), .ref (ad 42), .ref (ad 43), .ref (ad 44), .int 500, .int 700, .int 10, .int 200, .ref (ad 45)]))])) [0] rfl
  have hD9 := hD.sub (ws' := ([(ad 40, .inr (22, [.int 1, .int 0, .int 0, .int 0, .ref (ad 41), .ref (ad 42), .ref (ad 43), .ref (ad 44), .int 500, .int 700, .int 10, .int 200, .ref (ad 45)]))])) [0] (by decide) rfl
  have hK9 := hK.sub (tys' := []) [] rfl
  exact W.iret (v := 0) hx hb hr (fun t ht hW => ⟨⟨0, (1, [.int 0, .int 0, .int 0, .ref (ad 41), .ref (ad 42), .ref (ad 43), .ref (ad 44), .int 500, .int 700, .int 10, .int 200, .ref (ad 45)]), rfl, (by first | exact ⟨rfl, rfl⟩ | exact ⟨rfl, rfl, by assumption⟩ | exact Or.inl ⟨rfl, rfl, by assumption⟩ | exact Or.inr ⟨rfl, rfl, by assumption⟩ | exact Or.inl ⟨rfl, rfl, Or.inl (by assumption)⟩ | exact Or.inl ⟨rfl, rfl, Or.inr (by assumption)⟩ | exact Or.inr ⟨rfl, rfl, by assumption, by assumption⟩), ⟨by rw [ht]; exact hP9, va_K.moved hW.alike hK9, hD9⟩⟩, hS.F ht⟩) hS.2.2 dX17_move_18 hlocks

set_option maxHeartbeats 4000000 in
set_option maxRecDepth 100000 in
theorem m_pullAt (l : Launch) (D : va_G) (de : Nat) (ad : Nat → Nat) (c0 : Int32) (p0 : Int32) (sz : Nat) : Met l yX17_pullAt wsX17_pullAt ({ frames := 2, cells := 0, slots := 0, locals := 43 } : Room) (va_Pc [.ref (ad 40), .int p0] (PX de D ([]) (wM ad de c0) sz)) (va_Qi (fun (r : Int32) (u : Int32 × List Value) => (u.1 = 1 ∧ r = 0)) (fun u t => PW D ([]) (va_A (wM ad de c0) sz) ([(ad 40, .inr (22, .int u.1 :: u.2))]) t) (va_A (wM ad de c0) sz)) 0 0 (va_A (wM ad de c0) sz) := by
  refine Met.ofW (cc := cX17_pullAt) (maxL := 2) (ret := (some .int)) (by decide) rfl ?_
  intro p e s m args below meth c s₁ B hml hv
  obtain ⟨rfl, hsz, hP, hK, hD0, hTK, hZ⟩ := hv
  have hx := B.exec
  have hb := B.bytes
  have hr := B.returns
  have hts := atoms_spec (ws := wsX17_pullAt) B.pre
  have hown : s.vm.findClass RX17 = some m.cls := findClass_of_methodNamed B.named
  have hlocks := B.notSynchronized
  have hin_RX17 : ∀ w ∈ u_ws RX17 TX17 13, w ∈ wsX17_pullAt := by decide +kernel
  subst hsz
  have hD := hD0.self (sz := s.heap.size)
  generalize hAe : va_A (wM ad de c0) s.heap.size = A at hD hZ ⊢
  have hA : ∀ q : Nat, s.heap.size ≤ q → A q := fun q h => by rw [← hAe]; exact Or.inr h
  have hS : va_S A s.heap s.heap [] := va_S.rf
  have hP : va_P D vwCl (wM ad de c0) s.heap := hP
  have hD : va_D A (wM ad de c0) := hD
  have hl := lv_entry ([.ref (ad 40), .int p0]) (n := 2) (Nat.le_of_ble_eq_true rfl)
  rw [lg_entry_eq]
  generalize (lg_sl ([.ref (ad 40), .int p0]) ++ List.replicate (2 - (lg_sl ([.ref (ad 40), .int p0])).length) Slot.unset).toArray = ls at hl ⊢
  have hl : lv_has ls 2 [(0, .ref (ad 40)), (1, .int p0)] := hl
  refine lv_aload_n hx hb dX17_pullAt_0 rfl (lv_at hl 0 rfl) ?_
  refine lv_iconst (v := 0) hx hb dX17_pullAt_1 (by decide) ?_
  refine va_put (D := D) (ci := 22) (v := .int 0) (ty := .int) (C := RX17) (T := TX17) (N := 13) hx hb hts hin_RX17 tyX17 tyX17_ok nmX17 hown hK hP hD hS 0 rfl rfl 0 (by decide) (hts (.fieldLink RX17 41 "PopupwrightModel" "code" "I") (by decide +kernel)) (fun _ h9 => h9) rfl (by decide +kernel) rfl rfl (Nat.le_of_ble_eq_true rfl) dX17_pullAt_2 (fun H locs hP hD hS => ?_)
  have hP : va_P D vwCl (wM ad de 0) H := hP
  have hD : va_D A (wM ad de 0) := hD
  refine lv_aload_n hx hb dX17_pullAt_5 rfl (lv_at hl 0 rfl) ?_
  refine lv_iload_n hx hb dX17_pullAt_6 rfl (lv_at hl 1 rfl) ?_
  refine kx_i (wc := wM ad de 0) (wr := []) hP hD hS hA [0, 1, 2, 3, 4] [] rfl rfl (by decide) (by decide) (va_runV (As := [.int p0]) (rest := []) ⟨hx, hb, hml, hown, hts⟩ (c_isPull l D de ad 0 p0 H.size) (cwV 1 hts gX17_pullAt_X17_isPull rfl rfl rfl (by decide +kernel) ⟨Nat.le_of_ble_eq_true rfl, Nat.le_of_ble_eq_true rfl⟩) ⟨px_blind, (va_recv hK hP (ci := 22) (q0 := 0) rfl rfl), (px_pre hP hD hK hS hA hTK hZ [0, 1, 2, 3, 4] rfl rfl (by decide) [] rfl)⟩ rfl rfl hl.1 rfl (lv_room (Nat.le_of_ble_eq_true rfl)) dX17_pullAt_7 ⟨(Nat.le_of_ble_eq_true rfl), (Nat.le_of_ble_eq_true rfl)⟩) (fun r_1 u H locs hw hP hD hK1 hS => ?_)
  have hP : va_P D vwCl (wM ad de 0) H := hP
  have hD : va_D A (wM ad de 0) := hD
  obtain rfl : r_1 = 0 := hw
  refine lv_if_eq (tgt := 32) hx hb dX17_pullAt_10 (by decide) (fun _ => ?_) (fun h_ => absurd (by decide) h_)
  refine lv_aload_n hx hb dX17_pullAt_32 rfl (lv_at hl 0 rfl) ?_
  refine lv_iconst (v := 1) hx hb dX17_pullAt_33 (by decide) ?_
  refine kx_i (wc := wM ad de 0) (wr := []) hP hD hS hA [0, 1, 2, 3, 4] [] rfl rfl (by decide) (by decide) (va_runV (As := [.int 1]) (rest := []) ⟨hx, hb, hml, hown, hts⟩ (c_fails l D de ad 0 1 H.size) (cwV 1 hts gX17_pullAt_X17_fails rfl rfl rfl (by decide +kernel) ⟨Nat.le_of_ble_eq_true rfl, Nat.le_of_ble_eq_true rfl⟩) ⟨px_blind, (va_recv hK hP (ci := 22) (q0 := 0) rfl rfl), (px_pre hP hD hK hS hA hTK hZ [0, 1, 2, 3, 4] rfl rfl (by decide) [] rfl)⟩ rfl rfl hl.1 rfl (lv_room (Nat.le_of_ble_eq_true rfl)) dX17_pullAt_34 ⟨(Nat.le_of_ble_eq_true rfl), (Nat.le_of_ble_eq_true rfl)⟩) (fun r_2 u H locs hw hP hD hK1 hS => ?_)
  have hP : va_P D vwCl (wM ad de 1) H := hP
  have hD : va_D A (wM ad de 1) := hD
  obtain rfl : r_2 = 0 := hw
  refine W.widen (k := 0) (n := 0) (Nat.le_of_ble_eq_true rfl) (Nat.le_of_ble_eq_true rfl) ?_
  have hP9 := hP.sub (ws' := ([(ad 40, .inr (22, [.int 1, .int 0, .int 0, .int 0, .ref (ad 41), .ref (ad 42), .ref (ad 43), .ref (ad 44), .int 500, .int 700, .int 10, .int 200, .ref (ad 45)]))])) [0] rfl
  have hD9 := hD.sub (ws' := ([(ad 40, .inr (22, [.int 1, .int 0, .int 0, .int 0, .ref (ad 41), .ref (ad 42), .ref (ad 43), .ref (ad 44), .int 500, .int 700, .int 10, .int 200, .ref (ad 45)]))])) [0] (by decide) rfl
  have hK9 := hK.sub (tys' := []) [] rfl
  exact W.iret (v := 0) hx hb hr (fun t ht hW => ⟨⟨0, (1, [.int 0, .int 0, .int 0, .ref (ad 41), .ref (ad 42), .ref (ad 43), .ref (ad 44), .int 500, .int 700, .int 10, .int 200, .ref (ad 45)]), rfl, (by first | exact ⟨rfl, rfl⟩ | exact ⟨rfl, rfl, by assumption⟩ | exact Or.inl ⟨rfl, rfl, by assumption⟩ | exact Or.inr ⟨rfl, rfl, by assumption⟩ | exact Or.inl ⟨rfl, rfl, Or.inl (by assumption)⟩ | exact Or.inl ⟨rfl, rfl, Or.inr (by assumption)⟩ | exact Or.inr ⟨rfl, rfl, by assumption, by assumption⟩), ⟨by rw [ht]; exact hP9, va_K.moved hW.alike hK9, hD9⟩⟩, hS.F ht⟩) hS.2.2 dX17_pullAt_37 hlocks

set_option maxHeartbeats 4000000 in
set_option maxRecDepth 100000 in
theorem m_netAt (l : Launch) (D : va_G) (de : Nat) (ad : Nat → Nat) (c0 : Int32) (p0 p1 : Int32) (sz : Nat) : Met l yX17_netAt wsX17_netAt ({ frames := 2, cells := 0, slots := 0, locals := 43 } : Room) (va_Pc [.ref (ad 40), .int p0, .int p1] (PX de D ([]) (wM ad de c0) sz)) (va_Qi (fun (r : Int32) (u : Int32 × List Value) => (u.1 = 1 ∧ r = 0)) (fun u t => PW D ([]) (va_A (wM ad de c0) sz) ([(ad 40, .inr (22, .int u.1 :: u.2))]) t) (va_A (wM ad de c0) sz)) 0 0 (va_A (wM ad de c0) sz) := by
  refine Met.ofW (cc := cX17_netAt) (maxL := 4) (ret := (some .int)) (by decide) rfl ?_
  intro p e s m args below meth c s₁ B hml hv
  obtain ⟨rfl, hsz, hP, hK, hD0, hTK, hZ⟩ := hv
  have hx := B.exec
  have hb := B.bytes
  have hr := B.returns
  have hts := atoms_spec (ws := wsX17_netAt) B.pre
  have hown : s.vm.findClass RX17 = some m.cls := findClass_of_methodNamed B.named
  have hlocks := B.notSynchronized
  have hin_RX17 : ∀ w ∈ u_ws RX17 TX17 13, w ∈ wsX17_netAt := by decide +kernel
  subst hsz
  have hD := hD0.self (sz := s.heap.size)
  generalize hAe : va_A (wM ad de c0) s.heap.size = A at hD hZ ⊢
  have hA : ∀ q : Nat, s.heap.size ≤ q → A q := fun q h => by rw [← hAe]; exact Or.inr h
  have hS : va_S A s.heap s.heap [] := va_S.rf
  have hP : va_P D vwCl (wM ad de c0) s.heap := hP
  have hD : va_D A (wM ad de c0) := hD
  have hl := lv_entry ([.ref (ad 40), .int p0, .int p1]) (n := 4) (Nat.le_of_ble_eq_true rfl)
  rw [lg_entry_eq]
  generalize (lg_sl ([.ref (ad 40), .int p0, .int p1]) ++ List.replicate (4 - (lg_sl ([.ref (ad 40), .int p0, .int p1])).length) Slot.unset).toArray = ls at hl ⊢
  have hl : lv_has ls 4 [(0, .ref (ad 40)), (1, .int p0), (2, .int p1)] := hl
  refine lv_aload_n hx hb dX17_netAt_0 rfl (lv_at hl 0 rfl) ?_
  refine lv_iconst (v := 0) hx hb dX17_netAt_1 (by decide) ?_
  refine va_put (D := D) (ci := 22) (v := .int 0) (ty := .int) (C := RX17) (T := TX17) (N := 13) hx hb hts hin_RX17 tyX17 tyX17_ok nmX17 hown hK hP hD hS 0 rfl rfl 0 (by decide) (hts (.fieldLink RX17 41 "PopupwrightModel" "code" "I") (by decide +kernel)) (fun _ h9 => h9) rfl (by decide +kernel) rfl rfl (Nat.le_of_ble_eq_true rfl) dX17_netAt_2 (fun H locs hP hD hS => ?_)
  have hP : va_P D vwCl (wM ad de 0) H := hP
  have hD : va_D A (wM ad de 0) := hD
  refine lv_aload_n hx hb dX17_netAt_5 rfl (lv_at hl 0 rfl) ?_
  refine lv_iload_n hx hb dX17_netAt_6 rfl (lv_at hl 1 rfl) ?_
  refine kx_i (wc := wM ad de 0) (wr := []) hP hD hS hA [0, 1, 2, 3, 4] [] rfl rfl (by decide) (by decide) (va_runV (As := [.int p0]) (rest := []) ⟨hx, hb, hml, hown, hts⟩ (c_isFold l D de ad 0 p0 H.size) (cwV 1 hts gX17_netAt_X17_isFold rfl rfl rfl (by decide +kernel) ⟨Nat.le_of_ble_eq_true rfl, Nat.le_of_ble_eq_true rfl⟩) ⟨px_blind, (va_recv hK hP (ci := 22) (q0 := 0) rfl rfl), (px_pre hP hD hK hS hA hTK hZ [0, 1, 2, 3, 4] rfl rfl (by decide) [] rfl)⟩ rfl rfl hl.1 rfl (lv_room (Nat.le_of_ble_eq_true rfl)) dX17_netAt_7 ⟨(Nat.le_of_ble_eq_true rfl), (Nat.le_of_ble_eq_true rfl)⟩) (fun r_1 u H locs hw hP hD hK1 hS => ?_)
  have hP : va_P D vwCl (wM ad de 0) H := hP
  have hD : va_D A (wM ad de 0) := hD
  obtain rfl : r_1 = 0 := hw
  refine lv_if_ne (tgt := 19) hx hb dX17_netAt_10 (by decide) (fun h_ => absurd (by decide) h_) (fun _ => ?_)
  refine lv_aload_n hx hb dX17_netAt_13 rfl (lv_at hl 0 rfl) ?_
  refine lv_iconst (v := 1) hx hb dX17_netAt_14 (by decide) ?_
  refine kx_i (wc := wM ad de 0) (wr := []) hP hD hS hA [0, 1, 2, 3, 4] [] rfl rfl (by decide) (by decide) (va_runV (As := [.int 1]) (rest := []) ⟨hx, hb, hml, hown, hts⟩ (c_fails l D de ad 0 1 H.size) (cwV 1 hts gX17_netAt_X17_fails rfl rfl rfl (by decide +kernel) ⟨Nat.le_of_ble_eq_true rfl, Nat.le_of_ble_eq_true rfl⟩) ⟨px_blind, (va_recv hK hP (ci := 22) (q0 := 0) rfl rfl), (px_pre hP hD hK hS hA hTK hZ [0, 1, 2, 3, 4] rfl rfl (by decide) [] rfl)⟩ rfl rfl hl.1 rfl (lv_room (Nat.le_of_ble_eq_true rfl)) dX17_netAt_15 ⟨(Nat.le_of_ble_eq_true rfl), (Nat.le_of_ble_eq_true rfl)⟩) (fun r_2 u H locs hw hP hD hK1 hS => ?_)
  have hP : va_P D vwCl (wM ad de 1) H := hP
  have hD : va_D A (wM ad de 1) := hD
  obtain rfl : r_2 = 0 := hw
  refine W.widen (k := 0) (n := 0) (Nat.le_of_ble_eq_true rfl) (Nat.le_of_ble_eq_true rfl) ?_
  have hP9 := hP.sub (ws' := ([(ad 40, .inr (22, [.int 1, .int 0, .int 0, .int 0, .ref (ad 41), .ref (ad 42), .ref (ad 43), .ref (ad 44), .int 500, .int 700, .int 10, .int 200, .ref (ad 45)]))])) [0] rfl
  have hD9 := hD.sub (ws' := ([(ad 40, .inr (22, [.int 1, .int 0, .int 0, .int 0, .ref (ad 41), .ref (ad 42), .ref (ad 43), .ref (ad 44), .int 500, .int 700, .int 10, .int 200, .ref (ad 45)]))])) [0] (by decide) rfl
  have hK9 := hK.sub (tys' := []) [] rfl
  exact W.iret (v := 0) hx hb hr (fun t ht hW => ⟨⟨0, (1, [.int 0, .int 0, .int 0, .ref (ad 41), .ref (ad 42), .ref (ad 43), .ref (ad 44), .int 500, .int 700, .int 10, .int 200, .ref (ad 45)]), rfl, (by first | exact ⟨rfl, rfl⟩ | exact ⟨rfl, rfl, by assumption⟩ | exact Or.inl ⟨rfl, rfl, by assumption⟩ | exact Or.inr ⟨rfl, rfl, by assumption⟩ | exact Or.inl ⟨rfl, rfl, Or.inl (by assumption)⟩ | exact Or.inl ⟨rfl, rfl, Or.inr (by assumption)⟩ | exact Or.inr ⟨rfl, rfl, by assumption, by assumption⟩), ⟨by rw [ht]; exact hP9, va_K.moved hW.alike hK9, hD9⟩⟩, hS.F ht⟩) hS.2.2 dX17_netAt_18 hlocks

set_option maxHeartbeats 4000000 in
set_option maxRecDepth 100000 in
theorem m_orderAt (l : Launch) (D : va_G) (de : Nat) (ad : Nat → Nat) (c0 : Int32) (p0 : Int32) (sz : Nat) : Met l yX17_orderAt wsX17_orderAt ({ frames := 1, cells := 0, slots := 0, locals := 22 } : Room) (va_Pc [.ref (ad 40), .int p0] (PX de D ([]) (wM ad de c0) sz)) (va_Qi (fun (r : Int32) (u : Int32 × List Value) => (u.1 = 1 ∧ r = 0)) (fun u t => PW D ([]) (va_A (wM ad de c0) sz) ([(ad 40, .inr (22, .int u.1 :: u.2))]) t) (va_A (wM ad de c0) sz)) 0 0 (va_A (wM ad de c0) sz) := by
  refine Met.ofW (cc := cX17_orderAt) (maxL := 2) (ret := (some .int)) (by decide) rfl ?_
  intro p e s m args below meth c s₁ B hml hv
  obtain ⟨rfl, hsz, hP, hK, hD0, hTK, hZ⟩ := hv
  have hx := B.exec
  have hb := B.bytes
  have hr := B.returns
  have hts := atoms_spec (ws := wsX17_orderAt) B.pre
  have hown : s.vm.findClass RX17 = some m.cls := findClass_of_methodNamed B.named
  have hlocks := B.notSynchronized
  have hin_RX17 : ∀ w ∈ u_ws RX17 TX17 13, w ∈ wsX17_orderAt := by decide +kernel
  subst hsz
  have hD := hD0.self (sz := s.heap.size)
  generalize hAe : va_A (wM ad de c0) s.heap.size = A at hD hZ ⊢
  have hA : ∀ q : Nat, s.heap.size ≤ q → A q := fun q h => by rw [← hAe]; exact Or.inr h
  have hS : va_S A s.heap s.heap [] := va_S.rf
  have hP : va_P D vwCl (wM ad de c0) s.heap := hP
  have hD : va_D A (wM ad de c0) := hD
  have hl := lv_entry ([.ref (ad 40), .int p0]) (n := 2) (Nat.le_of_ble_eq_true rfl)
  rw [lg_entry_eq]
  generalize (lg_sl ([.ref (ad 40), .int p0]) ++ List.replicate (2 - (lg_sl ([.ref (ad 40), .int p0])).length) Slot.unset).toArray = ls at hl ⊢
  have hl : lv_has ls 2 [(0, .ref (ad 40)), (1, .int p0)] := hl
  refine lv_aload_n hx hb dX17_orderAt_0 rfl (lv_at hl 0 rfl) ?_
  refine lv_iconst (v := 0) hx hb dX17_orderAt_1 (by decide) ?_
  refine va_put (D := D) (ci := 22) (v := .int 0) (ty := .int) (C := RX17) (T := TX17) (N := 13) hx hb hts hin_RX17 tyX17 tyX17_ok nmX17 hown hK hP hD hS 0 rfl rfl 0 (by decide) (hts (.fieldLink RX17 41 "PopupwrightModel" "code" "I") (by decide +kernel)) (fun _ h9 => h9) rfl (by decide +kernel) rfl rfl (Nat.le_of_ble_eq_true rfl) dX17_orderAt_2 (fun H locs hP hD hS => ?_)
  have hP : va_P D vwCl (wM ad de 0) H := hP
  have hD : va_D A (wM ad de 0) := hD
  refine lv_iload_n hx hb dX17_orderAt_5 rfl (lv_at hl 1 rfl) ?_
  refine lv_iconst (v := 0) hx hb dX17_orderAt_6 (by decide) ?_
  refine lv_aload_n hx hb dX17_orderAt_7 rfl (lv_at hl 0 rfl) ?_
  refine va_get (D := D) (ci := 22) (v := .ref (ad 42)) (C := RX17) (T := TX17) (N := 13) hx hb hts hin_RX17 hown hK hP 0 rfl rfl 5 (by decide) (hts (.fieldLink RX17 16 "PopupwrightModel" "folds" "Ljava/util/List;") (by decide +kernel)) (fun _ h9 => h9) rfl dX17_orderAt_8 ?_
  refine kx_Fi (wc := [(ad 42, .inr (4, [.int 0, .ref de, .int 0]))]) (wr := [(ad 40, .inr (22, [.int 0, .int 0, .int 0, .int 0, .ref (ad 41), .ref (ad 42), .ref (ad 43), .ref (ad 44), .int 500, .int 700, .int 10, .int 200, .ref (ad 45)])), (ad 41, .inr (4, [.int 0, .ref de, .int 0])), (ad 43, .inr (4, [.int 0, .ref de, .int 0])), (ad 44, .inr (4, [.int 0, .ref de, .int 0]))]) hP hD hS hA [2] [0, 1, 3, 4] rfl rfl (by decide) (by decide) (va_runF (As := []) (rest := [.int 0, .int p0]) (hK.1 4 _ rfl).2 ⟨hx, hb, hml, hown, hts⟩ (l_size l D de (ad 42) de 0 H.size) (va_cwF 0 hts gX17_orderAt_Jx4a65c_size_8abf5_f52Jx4a65c rfl rfl rfl (hTK.2.2.2.2.2.1 (RJx4a65c, ⟨"java/util/List", "size", "()I"⟩, yJx4a65c_size_8abf5) (by decide +kernel)) (by decide +kernel) ⟨Nat.le_of_ble_eq_true rfl, Nat.le_of_ble_eq_true rfl⟩) ⟨px_blind, (va_recv hK hP (ci := 4) (q0 := 2) rfl rfl), (px_pre hP hD hK hS hA hTK hZ [2] rfl rfl (by decide) [] rfl)⟩ rfl rfl hl.1 rfl (lv_room (Nat.le_of_ble_eq_true rfl)) dX17_orderAt_11 ⟨(Nat.le_of_ble_eq_true rfl), (Nat.le_of_ble_eq_true rfl)⟩) (fun r_1 u H locs hw hP hD hK1 hS => ?_)
  have hP : va_P D vwCl ([(ad 40, .inr (22, [.int 0, .int 0, .int 0, .int 0, .ref (ad 41), .ref (ad 42), .ref (ad 43), .ref (ad 44), .int 500, .int 700, .int 10, .int 200, .ref (ad 45)])), (ad 41, .inr (4, [.int 0, .ref de, .int 0])), (ad 43, .inr (4, [.int 0, .ref de, .int 0])), (ad 44, .inr (4, [.int 0, .ref de, .int 0])), (ad 42, .inr (4, [.int 0, .ref de, .int 0]))]) H := hP
  have hD : va_D A ([(ad 40, .inr (22, [.int 0, .int 0, .int 0, .int 0, .ref (ad 41), .ref (ad 42), .ref (ad 43), .ref (ad 44), .int 500, .int 700, .int 10, .int 200, .ref (ad 45)])), (ad 41, .inr (4, [.int 0, .ref de, .int 0])), (ad 43, .inr (4, [.int 0, .ref de, .int 0])), (ad 44, .inr (4, [.int 0, .ref de, .int 0])), (ad 42, .inr (4, [.int 0, .ref de, .int 0]))]) := hD
  obtain rfl : r_1 = 0 := hw
  refine lv_iconst (v := 1) hx hb dX17_orderAt_16 (by decide) ?_
  refine lv_isub hx hb dX17_orderAt_17 ?_
  refine lv_topi (fun y_ ey_ => ?_)
  obtain rfl : y_ = (-1) := ey_.trans (by decide)
  refine kx_i (wc := []) (wr := [(ad 40, .inr (22, [.int 0, .int 0, .int 0, .int 0, .ref (ad 41), .ref (ad 42), .ref (ad 43), .ref (ad 44), .int 500, .int 700, .int 10, .int 200, .ref (ad 45)])), (ad 41, .inr (4, [.int 0, .ref de, .int 0])), (ad 43, .inr (4, [.int 0, .ref de, .int 0])), (ad 44, .inr (4, [.int 0, .ref de, .int 0])), (ad 42, .inr (4, [.int 0, .ref de, .int 0]))]) hP hD hS hA [] [0, 1, 2, 3, 4] rfl rfl (by decide) (by decide) (va_runS (As := [.int p0, .int 0, .int (-1)]) (rest := []) ⟨hx, hb, hml, hown, hts⟩ (c_in l D de p0 0 (-1) H.size) (va_cwS 3 hts gX17_orderAt_X17_in rfl rfl rfl (by decide +kernel) ⟨Nat.le_of_ble_eq_true rfl, Nat.le_of_ble_eq_true rfl⟩) ⟨px_blind, (px_pre hP hD hK hS hA hTK hZ [] rfl rfl (by decide) [] rfl)⟩ rfl rfl hl.1 rfl (lv_room (Nat.le_of_ble_eq_true rfl)) dX17_orderAt_18 ⟨(Nat.le_of_ble_eq_true rfl), (Nat.le_of_ble_eq_true rfl)⟩) (fun r_2 u H locs hw hP hD hK1 hS => ?_)
  have hP : va_P D vwCl ([(ad 40, .inr (22, [.int 0, .int 0, .int 0, .int 0, .ref (ad 41), .ref (ad 42), .ref (ad 43), .ref (ad 44), .int 500, .int 700, .int 10, .int 200, .ref (ad 45)])), (ad 41, .inr (4, [.int 0, .ref de, .int 0])), (ad 43, .inr (4, [.int 0, .ref de, .int 0])), (ad 44, .inr (4, [.int 0, .ref de, .int 0])), (ad 42, .inr (4, [.int 0, .ref de, .int 0]))]) H := hP
  have hD : va_D A ([(ad 40, .inr (22, [.int 0, .int 0, .int 0, .int 0, .ref (ad 41), .ref (ad 42), .ref (ad 43), .ref (ad 44), .int 500, .int 700, .int 10, .int 200, .ref (ad 45)])), (ad 41, .inr (4, [.int 0, .ref de, .int 0])), (ad 43, .inr (4, [.int 0, .ref de, .int 0])), (ad 44, .inr (4, [.int 0, .ref de, .int 0])), (ad 42, .inr (4, [.int 0, .ref de, .int 0]))]) := hD
  obtain rfl : r_2 = 0 := hw.trans (inR_none _)
  refine lv_if_eq (tgt := 46) hx hb dX17_orderAt_21 (by decide) (fun _ => ?_) (fun h_ => absurd (by decide) h_)
  refine lv_aload_n hx hb dX17_orderAt_46 rfl (lv_at hl 0 rfl) ?_
  refine lv_iconst (v := 1) hx hb dX17_orderAt_47 (by decide) ?_
  refine kx_i (wc := wM ad de 0) (wr := []) hP hD hS hA [0, 1, 4, 2, 3] [] rfl rfl (by decide) (by decide) (va_runV (As := [.int 1]) (rest := []) ⟨hx, hb, hml, hown, hts⟩ (c_fails l D de ad 0 1 H.size) (cwV 1 hts gX17_orderAt_X17_fails rfl rfl rfl (by decide +kernel) ⟨Nat.le_of_ble_eq_true rfl, Nat.le_of_ble_eq_true rfl⟩) ⟨px_blind, (va_recv hK hP (ci := 22) (q0 := 0) rfl rfl), (px_pre hP hD hK hS hA hTK hZ [0, 1, 4, 2, 3] rfl rfl (by decide) [] rfl)⟩ rfl rfl hl.1 rfl (lv_room (Nat.le_of_ble_eq_true rfl)) dX17_orderAt_48 ⟨(Nat.le_of_ble_eq_true rfl), (Nat.le_of_ble_eq_true rfl)⟩) (fun r_3 u H locs hw hP hD hK1 hS => ?_)
  have hP : va_P D vwCl (wM ad de 1) H := hP
  have hD : va_D A (wM ad de 1) := hD
  obtain rfl : r_3 = 0 := hw
  refine W.widen (k := 0) (n := 0) (Nat.le_of_ble_eq_true rfl) (Nat.le_of_ble_eq_true rfl) ?_
  have hP9 := hP.sub (ws' := ([(ad 40, .inr (22, [.int 1, .int 0, .int 0, .int 0, .ref (ad 41), .ref (ad 42), .ref (ad 43), .ref (ad 44), .int 500, .int 700, .int 10, .int 200, .ref (ad 45)]))])) [0] rfl
  have hD9 := hD.sub (ws' := ([(ad 40, .inr (22, [.int 1, .int 0, .int 0, .int 0, .ref (ad 41), .ref (ad 42), .ref (ad 43), .ref (ad 44), .int 500, .int 700, .int 10, .int 200, .ref (ad 45)]))])) [0] (by decide) rfl
  have hK9 := hK.sub (tys' := []) [] rfl
  exact W.iret (v := 0) hx hb hr (fun t ht hW => ⟨⟨0, (1, [.int 0, .int 0, .int 0, .ref (ad 41), .ref (ad 42), .ref (ad 43), .ref (ad 44), .int 500, .int 700, .int 10, .int 200, .ref (ad 45)]), rfl, (by first | exact ⟨rfl, rfl⟩ | exact ⟨rfl, rfl, by assumption⟩ | exact Or.inl ⟨rfl, rfl, by assumption⟩ | exact Or.inr ⟨rfl, rfl, by assumption⟩ | exact Or.inl ⟨rfl, rfl, Or.inl (by assumption)⟩ | exact Or.inl ⟨rfl, rfl, Or.inr (by assumption)⟩ | exact Or.inr ⟨rfl, rfl, by assumption, by assumption⟩), ⟨by rw [ht]; exact hP9, va_K.moved hW.alike hK9, hD9⟩⟩, hS.F ht⟩) hS.2.2 dX17_orderAt_51 hlocks

set_option maxHeartbeats 4000000 in
set_option maxRecDepth 100000 in
theorem m_begunAt (l : Launch) (D : va_G) (de : Nat) (ad : Nat → Nat) (c0 : Int32) (p0 : Int32) (sz : Nat) : Met l yX17_begunAt wsX17_begunAt ({ frames := 2, cells := 0, slots := 0, locals := 43 } : Room) (va_Pc [.ref (ad 40), .int p0] (PX de D ([]) (wM ad de c0) sz)) (va_Qi (fun (r : Int32) (u : Int32 × List Value) => (u.1 = 1 ∧ r = 0)) (fun u t => PW D ([]) (va_A (wM ad de c0) sz) ([(ad 40, .inr (22, .int u.1 :: u.2))]) t) (va_A (wM ad de c0) sz)) 0 0 (va_A (wM ad de c0) sz) := by
  refine Met.ofW (cc := cX17_begunAt) (maxL := 4) (ret := (some .int)) (by decide) rfl ?_
  intro p e s m args below meth c s₁ B hml hv
  obtain ⟨rfl, hsz, hP, hK, hD0, hTK, hZ⟩ := hv
  have hx := B.exec
  have hb := B.bytes
  have hr := B.returns
  have hts := atoms_spec (ws := wsX17_begunAt) B.pre
  have hown : s.vm.findClass RX17 = some m.cls := findClass_of_methodNamed B.named
  have hlocks := B.notSynchronized
  have hin_RX17 : ∀ w ∈ u_ws RX17 TX17 13, w ∈ wsX17_begunAt := by decide +kernel
  subst hsz
  have hD := hD0.self (sz := s.heap.size)
  generalize hAe : va_A (wM ad de c0) s.heap.size = A at hD hZ ⊢
  have hA : ∀ q : Nat, s.heap.size ≤ q → A q := fun q h => by rw [← hAe]; exact Or.inr h
  have hS : va_S A s.heap s.heap [] := va_S.rf
  have hP : va_P D vwCl (wM ad de c0) s.heap := hP
  have hD : va_D A (wM ad de c0) := hD
  have hl := lv_entry ([.ref (ad 40), .int p0]) (n := 4) (Nat.le_of_ble_eq_true rfl)
  rw [lg_entry_eq]
  generalize (lg_sl ([.ref (ad 40), .int p0]) ++ List.replicate (4 - (lg_sl ([.ref (ad 40), .int p0])).length) Slot.unset).toArray = ls at hl ⊢
  have hl : lv_has ls 4 [(0, .ref (ad 40)), (1, .int p0)] := hl
  refine lv_aload_n hx hb dX17_begunAt_0 rfl (lv_at hl 0 rfl) ?_
  refine lv_iconst (v := 0) hx hb dX17_begunAt_1 (by decide) ?_
  refine va_put (D := D) (ci := 22) (v := .int 0) (ty := .int) (C := RX17) (T := TX17) (N := 13) hx hb hts hin_RX17 tyX17 tyX17_ok nmX17 hown hK hP hD hS 0 rfl rfl 0 (by decide) (hts (.fieldLink RX17 41 "PopupwrightModel" "code" "I") (by decide +kernel)) (fun _ h9 => h9) rfl (by decide +kernel) rfl rfl (Nat.le_of_ble_eq_true rfl) dX17_begunAt_2 (fun H locs hP hD hS => ?_)
  have hP : va_P D vwCl (wM ad de 0) H := hP
  have hD : va_D A (wM ad de 0) := hD
  refine lv_aload_n hx hb dX17_begunAt_5 rfl (lv_at hl 0 rfl) ?_
  refine lv_iload_n hx hb dX17_begunAt_6 rfl (lv_at hl 1 rfl) ?_
  refine kx_i (wc := wM ad de 0) (wr := []) hP hD hS hA [0, 1, 2, 3, 4] [] rfl rfl (by decide) (by decide) (va_runV (As := [.int p0]) (rest := []) ⟨hx, hb, hml, hown, hts⟩ (c_isFold l D de ad 0 p0 H.size) (cwV 1 hts gX17_begunAt_X17_isFold rfl rfl rfl (by decide +kernel) ⟨Nat.le_of_ble_eq_true rfl, Nat.le_of_ble_eq_true rfl⟩) ⟨px_blind, (va_recv hK hP (ci := 22) (q0 := 0) rfl rfl), (px_pre hP hD hK hS hA hTK hZ [0, 1, 2, 3, 4] rfl rfl (by decide) [] rfl)⟩ rfl rfl hl.1 rfl (lv_room (Nat.le_of_ble_eq_true rfl)) dX17_begunAt_7 ⟨(Nat.le_of_ble_eq_true rfl), (Nat.le_of_ble_eq_true rfl)⟩) (fun r_1 u H locs hw hP hD hK1 hS => ?_)
  have hP : va_P D vwCl (wM ad de 0) H := hP
  have hD : va_D A (wM ad de 0) := hD
  obtain rfl : r_1 = 0 := hw
  refine lv_if_ne (tgt := 19) hx hb dX17_begunAt_10 (by decide) (fun h_ => absurd (by decide) h_) (fun _ => ?_)
  refine lv_aload_n hx hb dX17_begunAt_13 rfl (lv_at hl 0 rfl) ?_
  refine lv_iconst (v := 1) hx hb dX17_begunAt_14 (by decide) ?_
  refine kx_i (wc := wM ad de 0) (wr := []) hP hD hS hA [0, 1, 2, 3, 4] [] rfl rfl (by decide) (by decide) (va_runV (As := [.int 1]) (rest := []) ⟨hx, hb, hml, hown, hts⟩ (c_fails l D de ad 0 1 H.size) (cwV 1 hts gX17_begunAt_X17_fails rfl rfl rfl (by decide +kernel) ⟨Nat.le_of_ble_eq_true rfl, Nat.le_of_ble_eq_true rfl⟩) ⟨px_blind, (va_recv hK hP (ci := 22) (q0 := 0) rfl rfl), (px_pre hP hD hK hS hA hTK hZ [0, 1, 2, 3, 4] rfl rfl (by decide) [] rfl)⟩ rfl rfl hl.1 rfl (lv_room (Nat.le_of_ble_eq_true rfl)) dX17_begunAt_15 ⟨(Nat.le_of_ble_eq_true rfl), (Nat.le_of_ble_eq_true rfl)⟩) (fun r_2 u H locs hw hP hD hK1 hS => ?_)
  have hP : va_P D vwCl (wM ad de 1) H := hP
  have hD : va_D A (wM ad de 1) := hD
  obtain rfl : r_2 = 0 := hw
  refine W.widen (k := 0) (n := 0) (Nat.le_of_ble_eq_true rfl) (Nat.le_of_ble_eq_true rfl) ?_
  have hP9 := hP.sub (ws' := ([(ad 40, .inr (22, [.int 1, .int 0, .int 0, .int 0, .ref (ad 41), .ref (ad 42), .ref (ad 43), .ref (ad 44), .int 500, .int 700, .int 10, .int 200, .ref (ad 45)]))])) [0] rfl
  have hD9 := hD.sub (ws' := ([(ad 40, .inr (22, [.int 1, .int 0, .int 0, .int 0, .ref (ad 41), .ref (ad 42), .ref (ad 43), .ref (ad 44), .int 500, .int 700, .int 10, .int 200, .ref (ad 45)]))])) [0] (by decide) rfl
  have hK9 := hK.sub (tys' := []) [] rfl
  exact W.iret (v := 0) hx hb hr (fun t ht hW => ⟨⟨0, (1, [.int 0, .int 0, .int 0, .ref (ad 41), .ref (ad 42), .ref (ad 43), .ref (ad 44), .int 500, .int 700, .int 10, .int 200, .ref (ad 45)]), rfl, (by first | exact ⟨rfl, rfl⟩ | exact ⟨rfl, rfl, by assumption⟩ | exact Or.inl ⟨rfl, rfl, by assumption⟩ | exact Or.inr ⟨rfl, rfl, by assumption⟩ | exact Or.inl ⟨rfl, rfl, Or.inl (by assumption)⟩ | exact Or.inl ⟨rfl, rfl, Or.inr (by assumption)⟩ | exact Or.inr ⟨rfl, rfl, by assumption, by assumption⟩), ⟨by rw [ht]; exact hP9, va_K.moved hW.alike hK9, hD9⟩⟩, hS.F ht⟩) hS.2.2 dX17_begunAt_18 hlocks

set_option maxHeartbeats 4000000 in
set_option maxRecDepth 100000 in
theorem m_waiting (l : Launch) (D : va_G) (de : Nat) (ad : Nat → Nat) (c0 : Int32) (p0 : Int32) (sz : Nat) : Met l yX17_waiting wsX17_waiting ({ frames := 2, cells := 0, slots := 0, locals := 43 } : Room) (va_Pc [.ref (ad 40), .int p0] (PX de D ([]) (wM ad de c0) sz)) (va_Qi (fun (r : Int32) (u : Int32 × List Value) => (u.1 = 1 ∧ r = 0)) (fun u t => PW D ([]) (va_A (wM ad de c0) sz) ([(ad 40, .inr (22, .int u.1 :: u.2))]) t) (va_A (wM ad de c0) sz)) 0 0 (va_A (wM ad de c0) sz) := by
  refine Met.ofW (cc := cX17_waiting) (maxL := 2) (ret := (some .int)) (by decide) rfl ?_
  intro p e s m args below meth c s₁ B hml hv
  obtain ⟨rfl, hsz, hP, hK, hD0, hTK, hZ⟩ := hv
  have hx := B.exec
  have hb := B.bytes
  have hr := B.returns
  have hts := atoms_spec (ws := wsX17_waiting) B.pre
  have hown : s.vm.findClass RX17 = some m.cls := findClass_of_methodNamed B.named
  have hlocks := B.notSynchronized
  have hin_RX17 : ∀ w ∈ u_ws RX17 TX17 13, w ∈ wsX17_waiting := by decide +kernel
  subst hsz
  have hD := hD0.self (sz := s.heap.size)
  generalize hAe : va_A (wM ad de c0) s.heap.size = A at hD hZ ⊢
  have hA : ∀ q : Nat, s.heap.size ≤ q → A q := fun q h => by rw [← hAe]; exact Or.inr h
  have hS : va_S A s.heap s.heap [] := va_S.rf
  have hP : va_P D vwCl (wM ad de c0) s.heap := hP
  have hD : va_D A (wM ad de c0) := hD
  have hl := lv_entry ([.ref (ad 40), .int p0]) (n := 2) (Nat.le_of_ble_eq_true rfl)
  rw [lg_entry_eq]
  generalize (lg_sl ([.ref (ad 40), .int p0]) ++ List.replicate (2 - (lg_sl ([.ref (ad 40), .int p0])).length) Slot.unset).toArray = ls at hl ⊢
  have hl : lv_has ls 2 [(0, .ref (ad 40)), (1, .int p0)] := hl
  refine lv_aload_n hx hb dX17_waiting_0 rfl (lv_at hl 0 rfl) ?_
  refine lv_iconst (v := 0) hx hb dX17_waiting_1 (by decide) ?_
  refine va_put (D := D) (ci := 22) (v := .int 0) (ty := .int) (C := RX17) (T := TX17) (N := 13) hx hb hts hin_RX17 tyX17 tyX17_ok nmX17 hown hK hP hD hS 0 rfl rfl 0 (by decide) (hts (.fieldLink RX17 41 "PopupwrightModel" "code" "I") (by decide +kernel)) (fun _ h9 => h9) rfl (by decide +kernel) rfl rfl (Nat.le_of_ble_eq_true rfl) dX17_waiting_2 (fun H locs hP hD hS => ?_)
  have hP : va_P D vwCl (wM ad de 0) H := hP
  have hD : va_D A (wM ad de 0) := hD
  refine lv_aload_n hx hb dX17_waiting_5 rfl (lv_at hl 0 rfl) ?_
  refine lv_iload_n hx hb dX17_waiting_6 rfl (lv_at hl 1 rfl) ?_
  refine kx_i (wc := wM ad de 0) (wr := []) hP hD hS hA [0, 1, 2, 3, 4] [] rfl rfl (by decide) (by decide) (va_runV (As := [.int p0]) (rest := []) ⟨hx, hb, hml, hown, hts⟩ (c_isFold l D de ad 0 p0 H.size) (cwV 1 hts gX17_waiting_X17_isFold rfl rfl rfl (by decide +kernel) ⟨Nat.le_of_ble_eq_true rfl, Nat.le_of_ble_eq_true rfl⟩) ⟨px_blind, (va_recv hK hP (ci := 22) (q0 := 0) rfl rfl), (px_pre hP hD hK hS hA hTK hZ [0, 1, 2, 3, 4] rfl rfl (by decide) [] rfl)⟩ rfl rfl hl.1 rfl (lv_room (Nat.le_of_ble_eq_true rfl)) dX17_waiting_7 ⟨(Nat.le_of_ble_eq_true rfl), (Nat.le_of_ble_eq_true rfl)⟩) (fun r_1 u H locs hw hP hD hK1 hS => ?_)
  have hP : va_P D vwCl (wM ad de 0) H := hP
  have hD : va_D A (wM ad de 0) := hD
  obtain rfl : r_1 = 0 := hw
  refine lv_if_eq (tgt := 21) hx hb dX17_waiting_10 (by decide) (fun _ => ?_) (fun h_ => absurd (by decide) h_)
  refine lv_aload_n hx hb dX17_waiting_21 rfl (lv_at hl 0 rfl) ?_
  refine lv_iconst (v := 1) hx hb dX17_waiting_22 (by decide) ?_
  refine kx_i (wc := wM ad de 0) (wr := []) hP hD hS hA [0, 1, 2, 3, 4] [] rfl rfl (by decide) (by decide) (va_runV (As := [.int 1]) (rest := []) ⟨hx, hb, hml, hown, hts⟩ (c_fails l D de ad 0 1 H.size) (cwV 1 hts gX17_waiting_X17_fails rfl rfl rfl (by decide +kernel) ⟨Nat.le_of_ble_eq_true rfl, Nat.le_of_ble_eq_true rfl⟩) ⟨px_blind, (va_recv hK hP (ci := 22) (q0 := 0) rfl rfl), (px_pre hP hD hK hS hA hTK hZ [0, 1, 2, 3, 4] rfl rfl (by decide) [] rfl)⟩ rfl rfl hl.1 rfl (lv_room (Nat.le_of_ble_eq_true rfl)) dX17_waiting_23 ⟨(Nat.le_of_ble_eq_true rfl), (Nat.le_of_ble_eq_true rfl)⟩) (fun r_2 u H locs hw hP hD hK1 hS => ?_)
  have hP : va_P D vwCl (wM ad de 1) H := hP
  have hD : va_D A (wM ad de 1) := hD
  obtain rfl : r_2 = 0 := hw
  refine W.widen (k := 0) (n := 0) (Nat.le_of_ble_eq_true rfl) (Nat.le_of_ble_eq_true rfl) ?_
  have hP9 := hP.sub (ws' := ([(ad 40, .inr (22, [.int 1, .int 0, .int 0, .int 0, .ref (ad 41), .ref (ad 42), .ref (ad 43), .ref (ad 44), .int 500, .int 700, .int 10, .int 200, .ref (ad 45)]))])) [0] rfl
  have hD9 := hD.sub (ws' := ([(ad 40, .inr (22, [.int 1, .int 0, .int 0, .int 0, .ref (ad 41), .ref (ad 42), .ref (ad 43), .ref (ad 44), .int 500, .int 700, .int 10, .int 200, .ref (ad 45)]))])) [0] (by decide) rfl
  have hK9 := hK.sub (tys' := []) [] rfl
  exact W.iret (v := 0) hx hb hr (fun t ht hW => ⟨⟨0, (1, [.int 0, .int 0, .int 0, .ref (ad 41), .ref (ad 42), .ref (ad 43), .ref (ad 44), .int 500, .int 700, .int 10, .int 200, .ref (ad 45)]), rfl, (by first | exact ⟨rfl, rfl⟩ | exact ⟨rfl, rfl, by assumption⟩ | exact Or.inl ⟨rfl, rfl, by assumption⟩ | exact Or.inr ⟨rfl, rfl, by assumption⟩ | exact Or.inl ⟨rfl, rfl, Or.inl (by assumption)⟩ | exact Or.inl ⟨rfl, rfl, Or.inr (by assumption)⟩ | exact Or.inr ⟨rfl, rfl, by assumption, by assumption⟩), ⟨by rw [ht]; exact hP9, va_K.moved hW.alike hK9, hD9⟩⟩, hS.F ht⟩) hS.2.2 dX17_waiting_26 hlocks

set_option maxHeartbeats 4000000 in
set_option maxRecDepth 100000 in
theorem m_tired (l : Launch) (D : va_G) (de : Nat) (ad : Nat → Nat) (c0 : Int32) (p0 : Int32) (sz : Nat) : Met l yX17_tired wsX17_tired ({ frames := 2, cells := 0, slots := 0, locals := 43 } : Room) (va_Pc [.ref (ad 40), .int p0] (PX de D ([]) (wM ad de c0) sz)) (va_Qi (fun (r : Int32) (u : Int32 × List Value) => (u.1 = 1 ∧ r = 0)) (fun u t => PW D ([]) (va_A (wM ad de c0) sz) ([(ad 40, .inr (22, .int u.1 :: u.2))]) t) (va_A (wM ad de c0) sz)) 0 0 (va_A (wM ad de c0) sz) := by
  refine Met.ofW (cc := cX17_tired) (maxL := 2) (ret := (some .int)) (by decide) rfl ?_
  intro p e s m args below meth c s₁ B hml hv
  obtain ⟨rfl, hsz, hP, hK, hD0, hTK, hZ⟩ := hv
  have hx := B.exec
  have hb := B.bytes
  have hr := B.returns
  have hts := atoms_spec (ws := wsX17_tired) B.pre
  have hown : s.vm.findClass RX17 = some m.cls := findClass_of_methodNamed B.named
  have hlocks := B.notSynchronized
  have hin_RX17 : ∀ w ∈ u_ws RX17 TX17 13, w ∈ wsX17_tired := by decide +kernel
  subst hsz
  have hD := hD0.self (sz := s.heap.size)
  generalize hAe : va_A (wM ad de c0) s.heap.size = A at hD hZ ⊢
  have hA : ∀ q : Nat, s.heap.size ≤ q → A q := fun q h => by rw [← hAe]; exact Or.inr h
  have hS : va_S A s.heap s.heap [] := va_S.rf
  have hP : va_P D vwCl (wM ad de c0) s.heap := hP
  have hD : va_D A (wM ad de c0) := hD
  have hl := lv_entry ([.ref (ad 40), .int p0]) (n := 2) (Nat.le_of_ble_eq_true rfl)
  rw [lg_entry_eq]
  generalize (lg_sl ([.ref (ad 40), .int p0]) ++ List.replicate (2 - (lg_sl ([.ref (ad 40), .int p0])).length) Slot.unset).toArray = ls at hl ⊢
  have hl : lv_has ls 2 [(0, .ref (ad 40)), (1, .int p0)] := hl
  refine lv_aload_n hx hb dX17_tired_0 rfl (lv_at hl 0 rfl) ?_
  refine lv_iconst (v := 0) hx hb dX17_tired_1 (by decide) ?_
  refine va_put (D := D) (ci := 22) (v := .int 0) (ty := .int) (C := RX17) (T := TX17) (N := 13) hx hb hts hin_RX17 tyX17 tyX17_ok nmX17 hown hK hP hD hS 0 rfl rfl 0 (by decide) (hts (.fieldLink RX17 41 "PopupwrightModel" "code" "I") (by decide +kernel)) (fun _ h9 => h9) rfl (by decide +kernel) rfl rfl (Nat.le_of_ble_eq_true rfl) dX17_tired_2 (fun H locs hP hD hS => ?_)
  have hP : va_P D vwCl (wM ad de 0) H := hP
  have hD : va_D A (wM ad de 0) := hD
  refine lv_aload_n hx hb dX17_tired_5 rfl (lv_at hl 0 rfl) ?_
  refine lv_iload_n hx hb dX17_tired_6 rfl (lv_at hl 1 rfl) ?_
  refine kx_i (wc := wM ad de 0) (wr := []) hP hD hS hA [0, 1, 2, 3, 4] [] rfl rfl (by decide) (by decide) (va_runV (As := [.int p0]) (rest := []) ⟨hx, hb, hml, hown, hts⟩ (c_isFold l D de ad 0 p0 H.size) (cwV 1 hts gX17_tired_X17_isFold rfl rfl rfl (by decide +kernel) ⟨Nat.le_of_ble_eq_true rfl, Nat.le_of_ble_eq_true rfl⟩) ⟨px_blind, (va_recv hK hP (ci := 22) (q0 := 0) rfl rfl), (px_pre hP hD hK hS hA hTK hZ [0, 1, 2, 3, 4] rfl rfl (by decide) [] rfl)⟩ rfl rfl hl.1 rfl (lv_room (Nat.le_of_ble_eq_true rfl)) dX17_tired_7 ⟨(Nat.le_of_ble_eq_true rfl), (Nat.le_of_ble_eq_true rfl)⟩) (fun r_1 u H locs hw hP hD hK1 hS => ?_)
  have hP : va_P D vwCl (wM ad de 0) H := hP
  have hD : va_D A (wM ad de 0) := hD
  obtain rfl : r_1 = 0 := hw
  refine lv_if_eq (tgt := 32) hx hb dX17_tired_10 (by decide) (fun _ => ?_) (fun h_ => absurd (by decide) h_)
  refine lv_aload_n hx hb dX17_tired_32 rfl (lv_at hl 0 rfl) ?_
  refine lv_iconst (v := 1) hx hb dX17_tired_33 (by decide) ?_
  refine kx_i (wc := wM ad de 0) (wr := []) hP hD hS hA [0, 1, 2, 3, 4] [] rfl rfl (by decide) (by decide) (va_runV (As := [.int 1]) (rest := []) ⟨hx, hb, hml, hown, hts⟩ (c_fails l D de ad 0 1 H.size) (cwV 1 hts gX17_tired_X17_fails rfl rfl rfl (by decide +kernel) ⟨Nat.le_of_ble_eq_true rfl, Nat.le_of_ble_eq_true rfl⟩) ⟨px_blind, (va_recv hK hP (ci := 22) (q0 := 0) rfl rfl), (px_pre hP hD hK hS hA hTK hZ [0, 1, 2, 3, 4] rfl rfl (by decide) [] rfl)⟩ rfl rfl hl.1 rfl (lv_room (Nat.le_of_ble_eq_true rfl)) dX17_tired_34 ⟨(Nat.le_of_ble_eq_true rfl), (Nat.le_of_ble_eq_true rfl)⟩) (fun r_2 u H locs hw hP hD hK1 hS => ?_)
  have hP : va_P D vwCl (wM ad de 1) H := hP
  have hD : va_D A (wM ad de 1) := hD
  obtain rfl : r_2 = 0 := hw
  refine W.widen (k := 0) (n := 0) (Nat.le_of_ble_eq_true rfl) (Nat.le_of_ble_eq_true rfl) ?_
  have hP9 := hP.sub (ws' := ([(ad 40, .inr (22, [.int 1, .int 0, .int 0, .int 0, .ref (ad 41), .ref (ad 42), .ref (ad 43), .ref (ad 44), .int 500, .int 700, .int 10, .int 200, .ref (ad 45)]))])) [0] rfl
  have hD9 := hD.sub (ws' := ([(ad 40, .inr (22, [.int 1, .int 0, .int 0, .int 0, .ref (ad 41), .ref (ad 42), .ref (ad 43), .ref (ad 44), .int 500, .int 700, .int 10, .int 200, .ref (ad 45)]))])) [0] (by decide) rfl
  have hK9 := hK.sub (tys' := []) [] rfl
  exact W.iret (v := 0) hx hb hr (fun t ht hW => ⟨⟨0, (1, [.int 0, .int 0, .int 0, .ref (ad 41), .ref (ad 42), .ref (ad 43), .ref (ad 44), .int 500, .int 700, .int 10, .int 200, .ref (ad 45)]), rfl, (by first | exact ⟨rfl, rfl⟩ | exact ⟨rfl, rfl, by assumption⟩ | exact Or.inl ⟨rfl, rfl, by assumption⟩ | exact Or.inr ⟨rfl, rfl, by assumption⟩ | exact Or.inl ⟨rfl, rfl, Or.inl (by assumption)⟩ | exact Or.inl ⟨rfl, rfl, Or.inr (by assumption)⟩ | exact Or.inr ⟨rfl, rfl, by assumption, by assumption⟩), ⟨by rw [ht]; exact hP9, va_K.moved hW.alike hK9, hD9⟩⟩, hS.F ht⟩) hS.2.2 dX17_tired_37 hlocks

set_option maxHeartbeats 4000000 in
set_option maxRecDepth 100000 in
theorem m_lasts (l : Launch) (D : va_G) (de : Nat) (ad : Nat → Nat) (c0 : Int32) (p0 p1 : Int32) (sz : Nat) : Met l yX17_lasts wsX17_lasts ({ frames := 2, cells := 0, slots := 0, locals := 43 } : Room) (va_Pc [.ref (ad 40), .int p0, .int p1] (PX de D ([]) (wM ad de c0) sz)) (va_Qi (fun (r : Int32) (u : Int32 × List Value) => (u.1 = 1 ∧ r = 0)) (fun u t => PW D ([]) (va_A (wM ad de c0) sz) ([(ad 40, .inr (22, .int u.1 :: u.2))]) t) (va_A (wM ad de c0) sz)) 0 0 (va_A (wM ad de c0) sz) := by
  refine Met.ofW (cc := cX17_lasts) (maxL := 4) (ret := (some .int)) (by decide) rfl ?_
  intro p e s m args below meth c s₁ B hml hv
  obtain ⟨rfl, hsz, hP, hK, hD0, hTK, hZ⟩ := hv
  have hx := B.exec
  have hb := B.bytes
  have hr := B.returns
  have hts := atoms_spec (ws := wsX17_lasts) B.pre
  have hown : s.vm.findClass RX17 = some m.cls := findClass_of_methodNamed B.named
  have hlocks := B.notSynchronized
  have hin_RX17 : ∀ w ∈ u_ws RX17 TX17 13, w ∈ wsX17_lasts := by decide +kernel
  subst hsz
  have hD := hD0.self (sz := s.heap.size)
  generalize hAe : va_A (wM ad de c0) s.heap.size = A at hD hZ ⊢
  have hA : ∀ q : Nat, s.heap.size ≤ q → A q := fun q h => by rw [← hAe]; exact Or.inr h
  have hS : va_S A s.heap s.heap [] := va_S.rf
  have hP : va_P D vwCl (wM ad de c0) s.heap := hP
  have hD : va_D A (wM ad de c0) := hD
  have hl := lv_entry ([.ref (ad 40), .int p0, .int p1]) (n := 4) (Nat.le_of_ble_eq_true rfl)
  rw [lg_entry_eq]
  generalize (lg_sl ([.ref (ad 40), .int p0, .int p1]) ++ List.replicate (4 - (lg_sl ([.ref (ad 40), .int p0, .int p1])).length) Slot.unset).toArray = ls at hl ⊢
  have hl : lv_has ls 4 [(0, .ref (ad 40)), (1, .int p0), (2, .int p1)] := hl
  refine lv_aload_n hx hb dX17_lasts_0 rfl (lv_at hl 0 rfl) ?_
  refine lv_iconst (v := 0) hx hb dX17_lasts_1 (by decide) ?_
  refine va_put (D := D) (ci := 22) (v := .int 0) (ty := .int) (C := RX17) (T := TX17) (N := 13) hx hb hts hin_RX17 tyX17 tyX17_ok nmX17 hown hK hP hD hS 0 rfl rfl 0 (by decide) (hts (.fieldLink RX17 41 "PopupwrightModel" "code" "I") (by decide +kernel)) (fun _ h9 => h9) rfl (by decide +kernel) rfl rfl (Nat.le_of_ble_eq_true rfl) dX17_lasts_2 (fun H locs hP hD hS => ?_)
  have hP : va_P D vwCl (wM ad de 0) H := hP
  have hD : va_D A (wM ad de 0) := hD
  refine lv_aload_n hx hb dX17_lasts_5 rfl (lv_at hl 0 rfl) ?_
  refine lv_iload_n hx hb dX17_lasts_6 rfl (lv_at hl 1 rfl) ?_
  refine kx_i (wc := wM ad de 0) (wr := []) hP hD hS hA [0, 1, 2, 3, 4] [] rfl rfl (by decide) (by decide) (va_runV (As := [.int p0]) (rest := []) ⟨hx, hb, hml, hown, hts⟩ (c_isFold l D de ad 0 p0 H.size) (cwV 1 hts gX17_lasts_X17_isFold rfl rfl rfl (by decide +kernel) ⟨Nat.le_of_ble_eq_true rfl, Nat.le_of_ble_eq_true rfl⟩) ⟨px_blind, (va_recv hK hP (ci := 22) (q0 := 0) rfl rfl), (px_pre hP hD hK hS hA hTK hZ [0, 1, 2, 3, 4] rfl rfl (by decide) [] rfl)⟩ rfl rfl hl.1 rfl (lv_room (Nat.le_of_ble_eq_true rfl)) dX17_lasts_7 ⟨(Nat.le_of_ble_eq_true rfl), (Nat.le_of_ble_eq_true rfl)⟩) (fun r_1 u H locs hw hP hD hK1 hS => ?_)
  have hP : va_P D vwCl (wM ad de 0) H := hP
  have hD : va_D A (wM ad de 0) := hD
  obtain rfl : r_1 = 0 := hw
  refine lv_if_ne (tgt := 19) hx hb dX17_lasts_10 (by decide) (fun h_ => absurd (by decide) h_) (fun _ => ?_)
  refine lv_aload_n hx hb dX17_lasts_13 rfl (lv_at hl 0 rfl) ?_
  refine lv_iconst (v := 1) hx hb dX17_lasts_14 (by decide) ?_
  refine kx_i (wc := wM ad de 0) (wr := []) hP hD hS hA [0, 1, 2, 3, 4] [] rfl rfl (by decide) (by decide) (va_runV (As := [.int 1]) (rest := []) ⟨hx, hb, hml, hown, hts⟩ (c_fails l D de ad 0 1 H.size) (cwV 1 hts gX17_lasts_X17_fails rfl rfl rfl (by decide +kernel) ⟨Nat.le_of_ble_eq_true rfl, Nat.le_of_ble_eq_true rfl⟩) ⟨px_blind, (va_recv hK hP (ci := 22) (q0 := 0) rfl rfl), (px_pre hP hD hK hS hA hTK hZ [0, 1, 2, 3, 4] rfl rfl (by decide) [] rfl)⟩ rfl rfl hl.1 rfl (lv_room (Nat.le_of_ble_eq_true rfl)) dX17_lasts_15 ⟨(Nat.le_of_ble_eq_true rfl), (Nat.le_of_ble_eq_true rfl)⟩) (fun r_2 u H locs hw hP hD hK1 hS => ?_)
  have hP : va_P D vwCl (wM ad de 1) H := hP
  have hD : va_D A (wM ad de 1) := hD
  obtain rfl : r_2 = 0 := hw
  refine W.widen (k := 0) (n := 0) (Nat.le_of_ble_eq_true rfl) (Nat.le_of_ble_eq_true rfl) ?_
  have hP9 := hP.sub (ws' := ([(ad 40, .inr (22, [.int 1, .int 0, .int 0, .int 0, .ref (ad 41), .ref (ad 42), .ref (ad 43), .ref (ad 44), .int 500, .int 700, .int 10, .int 200, .ref (ad 45)]))])) [0] rfl
  have hD9 := hD.sub (ws' := ([(ad 40, .inr (22, [.int 1, .int 0, .int 0, .int 0, .ref (ad 41), .ref (ad 42), .ref (ad 43), .ref (ad 44), .int 500, .int 700, .int 10, .int 200, .ref (ad 45)]))])) [0] (by decide) rfl
  have hK9 := hK.sub (tys' := []) [] rfl
  exact W.iret (v := 0) hx hb hr (fun t ht hW => ⟨⟨0, (1, [.int 0, .int 0, .int 0, .ref (ad 41), .ref (ad 42), .ref (ad 43), .ref (ad 44), .int 500, .int 700, .int 10, .int 200, .ref (ad 45)]), rfl, (by first | exact ⟨rfl, rfl⟩ | exact ⟨rfl, rfl, by assumption⟩ | exact Or.inl ⟨rfl, rfl, by assumption⟩ | exact Or.inr ⟨rfl, rfl, by assumption⟩ | exact Or.inl ⟨rfl, rfl, Or.inl (by assumption)⟩ | exact Or.inl ⟨rfl, rfl, Or.inr (by assumption)⟩ | exact Or.inr ⟨rfl, rfl, by assumption, by assumption⟩), ⟨by rw [ht]; exact hP9, va_K.moved hW.alike hK9, hD9⟩⟩, hS.F ht⟩) hS.2.2 dX17_lasts_18 hlocks

set_option maxHeartbeats 4000000 in
set_option maxRecDepth 100000 in
theorem m_mend (l : Launch) (D : va_G) (de : Nat) (ad : Nat → Nat) (c0 : Int32) (p0 : Int32) (sz : Nat) : Met l yX17_mend wsX17_mend ({ frames := 2, cells := 0, slots := 0, locals := 43 } : Room) (va_Pc [.ref (ad 40), .int p0] (PX de D ([]) (wM ad de c0) sz)) (va_Qi (fun (r : Int32) (u : Int32 × List Value) => (u.1 = 1 ∧ r = 0)) (fun u t => PW D ([]) (va_A (wM ad de c0) sz) ([(ad 40, .inr (22, .int u.1 :: u.2))]) t) (va_A (wM ad de c0) sz)) 0 0 (va_A (wM ad de c0) sz) := by
  refine Met.ofW (cc := cX17_mend) (maxL := 3) (ret := (some .int)) (by decide) rfl ?_
  intro p e s m args below meth c s₁ B hml hv
  obtain ⟨rfl, hsz, hP, hK, hD0, hTK, hZ⟩ := hv
  have hx := B.exec
  have hb := B.bytes
  have hr := B.returns
  have hts := atoms_spec (ws := wsX17_mend) B.pre
  have hown : s.vm.findClass RX17 = some m.cls := findClass_of_methodNamed B.named
  have hlocks := B.notSynchronized
  have hin_RX17 : ∀ w ∈ u_ws RX17 TX17 13, w ∈ wsX17_mend := by decide +kernel
  subst hsz
  have hD := hD0.self (sz := s.heap.size)
  generalize hAe : va_A (wM ad de c0) s.heap.size = A at hD hZ ⊢
  have hA : ∀ q : Nat, s.heap.size ≤ q → A q := fun q h => by rw [← hAe]; exact Or.inr h
  have hS : va_S A s.heap s.heap [] := va_S.rf
  have hP : va_P D vwCl (wM ad de c0) s.heap := hP
  have hD : va_D A (wM ad de c0) := hD
  have hl := lv_entry ([.ref (ad 40), .int p0]) (n := 3) (Nat.le_of_ble_eq_true rfl)
  rw [lg_entry_eq]
  generalize (lg_sl ([.ref (ad 40), .int p0]) ++ List.replicate (3 - (lg_sl ([.ref (ad 40), .int p0])).length) Slot.unset).toArray = ls at hl ⊢
  have hl : lv_has ls 3 [(0, .ref (ad 40)), (1, .int p0)] := hl
  refine lv_aload_n hx hb dX17_mend_0 rfl (lv_at hl 0 rfl) ?_
  refine lv_iconst (v := 0) hx hb dX17_mend_1 (by decide) ?_
  refine va_put (D := D) (ci := 22) (v := .int 0) (ty := .int) (C := RX17) (T := TX17) (N := 13) hx hb hts hin_RX17 tyX17 tyX17_ok nmX17 hown hK hP hD hS 0 rfl rfl 0 (by decide) (hts (.fieldLink RX17 41 "PopupwrightModel" "code" "I") (by decide +kernel)) (fun _ h9 => h9) rfl (by decide +kernel) rfl rfl (Nat.le_of_ble_eq_true rfl) dX17_mend_2 (fun H locs hP hD hS => ?_)
  have hP : va_P D vwCl (wM ad de 0) H := hP
  have hD : va_D A (wM ad de 0) := hD
  refine lv_aload_n hx hb dX17_mend_5 rfl (lv_at hl 0 rfl) ?_
  refine lv_iload_n hx hb dX17_mend_6 rfl (lv_at hl 1 rfl) ?_
  refine kx_i (wc := wM ad de 0) (wr := []) hP hD hS hA [0, 1, 2, 3, 4] [] rfl rfl (by decide) (by decide) (va_runV (As := [.int p0]) (rest := []) ⟨hx, hb, hml, hown, hts⟩ (c_isFold l D de ad 0 p0 H.size) (cwV 1 hts gX17_mend_X17_isFold rfl rfl rfl (by decide +kernel) ⟨Nat.le_of_ble_eq_true rfl, Nat.le_of_ble_eq_true rfl⟩) ⟨px_blind, (va_recv hK hP (ci := 22) (q0 := 0) rfl rfl), (px_pre hP hD hK hS hA hTK hZ [0, 1, 2, 3, 4] rfl rfl (by decide) [] rfl)⟩ rfl rfl hl.1 rfl (lv_room (Nat.le_of_ble_eq_true rfl)) dX17_mend_7 ⟨(Nat.le_of_ble_eq_true rfl), (Nat.le_of_ble_eq_true rfl)⟩) (fun r_1 u H locs hw hP hD hK1 hS => ?_)
  have hP : va_P D vwCl (wM ad de 0) H := hP
  have hD : va_D A (wM ad de 0) := hD
  obtain rfl : r_1 = 0 := hw
  refine lv_if_ne (tgt := 19) hx hb dX17_mend_10 (by decide) (fun h_ => absurd (by decide) h_) (fun _ => ?_)
  refine lv_aload_n hx hb dX17_mend_13 rfl (lv_at hl 0 rfl) ?_
  refine lv_iconst (v := 1) hx hb dX17_mend_14 (by decide) ?_
  refine kx_i (wc := wM ad de 0) (wr := []) hP hD hS hA [0, 1, 2, 3, 4] [] rfl rfl (by decide) (by decide) (va_runV (As := [.int 1]) (rest := []) ⟨hx, hb, hml, hown, hts⟩ (c_fails l D de ad 0 1 H.size) (cwV 1 hts gX17_mend_X17_fails rfl rfl rfl (by decide +kernel) ⟨Nat.le_of_ble_eq_true rfl, Nat.le_of_ble_eq_true rfl⟩) ⟨px_blind, (va_recv hK hP (ci := 22) (q0 := 0) rfl rfl), (px_pre hP hD hK hS hA hTK hZ [0, 1, 2, 3, 4] rfl rfl (by decide) [] rfl)⟩ rfl rfl hl.1 rfl (lv_room (Nat.le_of_ble_eq_true rfl)) dX17_mend_15 ⟨(Nat.le_of_ble_eq_true rfl), (Nat.le_of_ble_eq_true rfl)⟩) (fun r_2 u H locs hw hP hD hK1 hS => ?_)
  have hP : va_P D vwCl (wM ad de 1) H := hP
  have hD : va_D A (wM ad de 1) := hD
  obtain rfl : r_2 = 0 := hw
  refine W.widen (k := 0) (n := 0) (Nat.le_of_ble_eq_true rfl) (Nat.le_of_ble_eq_true rfl) ?_
  have hP9 := hP.sub (ws' := ([(ad 40, .inr (22, [.int 1, .int 0, .int 0, .int 0, .ref (ad 41), .ref (ad 42), .ref (ad 43), .ref (ad 44), .int 500, .int 700, .int 10, .int 200, .ref (ad 45)]))])) [0] rfl
  have hD9 := hD.sub (ws' := ([(ad 40, .inr (22, [.int 1, .int 0, .int 0, .int 0, .ref (ad 41), .ref (ad 42), .ref (ad 43), .ref (ad 44), .int 500, .int 700, .int 10, .int 200, .ref (ad 45)]))])) [0] (by decide) rfl
  have hK9 := hK.sub (tys' := []) [] rfl
  exact W.iret (v := 0) hx hb hr (fun t ht hW => ⟨⟨0, (1, [.int 0, .int 0, .int 0, .ref (ad 41), .ref (ad 42), .ref (ad 43), .ref (ad 44), .int 500, .int 700, .int 10, .int 200, .ref (ad 45)]), rfl, (by first | exact ⟨rfl, rfl⟩ | exact ⟨rfl, rfl, by assumption⟩ | exact Or.inl ⟨rfl, rfl, by assumption⟩ | exact Or.inr ⟨rfl, rfl, by assumption⟩ | exact Or.inl ⟨rfl, rfl, Or.inl (by assumption)⟩ | exact Or.inl ⟨rfl, rfl, Or.inr (by assumption)⟩ | exact Or.inr ⟨rfl, rfl, by assumption, by assumption⟩), ⟨by rw [ht]; exact hP9, va_K.moved hW.alike hK9, hD9⟩⟩, hS.F ht⟩) hS.2.2 dX17_mend_18 hlocks

set_option maxHeartbeats 4000000 in
set_option maxRecDepth 100000 in
theorem m_restore (l : Launch) (D : va_G) (de : Nat) (ad : Nat → Nat) (c0 : Int32) (p0 p1 p2 p3 p4 p5 : Int32) (sz : Nat) : Met l yX17_restore wsX17_restore ({ frames := 3, cells := 0, slots := 0, locals := 68 } : Room) (va_Pc [.ref (ad 40), .int p0, .int p1, .int p2, .int p3, .int p4, .int p5] (PX de D ([]) (wM ad de c0) sz)) (va_Qi (fun (r : Int32) (u : Int32 × List Value) => (u.1 = 1 ∧ r = 0)) (fun u t => PW D ([]) (va_A (wM ad de c0) sz) ([(ad 40, .inr (22, .int u.1 :: u.2))]) t) (va_A (wM ad de c0) sz)) 0 0 (va_A (wM ad de c0) sz) := by
  refine Met.ofW (cc := cX17_restore) (maxL := 7) (ret := (some .int)) (by decide) rfl ?_
  intro p e s m args below meth c s₁ B hml hv
  obtain ⟨rfl, hsz, hP, hK, hD0, hTK, hZ⟩ := hv
  have hx := B.exec
  have hb := B.bytes
  have hr := B.returns
  have hts := atoms_spec (ws := wsX17_restore) B.pre
  have hown : s.vm.findClass RX17 = some m.cls := findClass_of_methodNamed B.named
  have hlocks := B.notSynchronized
  subst hsz
  have hD := hD0.self (sz := s.heap.size)
  generalize hAe : va_A (wM ad de c0) s.heap.size = A at hD hZ ⊢
  have hA : ∀ q : Nat, s.heap.size ≤ q → A q := fun q h => by rw [← hAe]; exact Or.inr h
  have hS : va_S A s.heap s.heap [] := va_S.rf
  have hP : va_P D vwCl (wM ad de c0) s.heap := hP
  have hD : va_D A (wM ad de c0) := hD
  have hl := lv_entry ([.ref (ad 40), .int p0, .int p1, .int p2, .int p3, .int p4, .int p5]) (n := 7) (Nat.le_of_ble_eq_true rfl)
  rw [lg_entry_eq]
  generalize (lg_sl ([.ref (ad 40), .int p0, .int p1, .int p2, .int p3, .int p4, .int p5]) ++ List.replicate (7 - (lg_sl ([.ref (ad 40), .int p0, .int p1, .int p2, .int p3, .int p4, .int p5])).length) Slot.unset).toArray = ls at hl ⊢
  have hl : lv_has ls 7 [(0, .ref (ad 40)), (1, .int p0), (2, .int p1), (3, .int p2), (4, .int p3), (5, .int p4), (6, .int p5)] := hl
  refine lv_aload_n hx hb dX17_restore_0 rfl (lv_at hl 0 rfl) ?_
  refine lv_iload_n hx hb dX17_restore_1 rfl (lv_at hl 1 rfl) ?_
  refine lv_iload hx hb dX17_restore_2 (lv_at hl 4 rfl) ?_
  refine lv_if_eq (tgt := 11) hx hb dX17_restore_4 (by decide) (fun c_4 => ?_) (fun c_4 => ?_)
  · refine lv_iload_n hx hb dX17_restore_11 rfl (lv_at hl 2 rfl) ?_
    refine lv_iload_n hx hb dX17_restore_12 rfl (lv_at hl 3 rfl) ?_
    refine lv_isub hx hb dX17_restore_13 ?_
    refine lv_topi (fun y_1 ey_1 => ?_)
    refine lv_iload hx hb dX17_restore_14 (lv_at hl 4 rfl) ?_
    refine lv_if_eq (tgt := 25) hx hb dX17_restore_16 (by decide) (fun c_16 => ?_) (fun c_16 => ?_)
    · refine lv_iload_n hx hb dX17_restore_25 rfl (lv_at hl 3 rfl) ?_
      refine lv_iload hx hb dX17_restore_26 (lv_at hl 5 rfl) ?_
      refine lv_iload hx hb dX17_restore_28 (lv_at hl 6 rfl) ?_
      refine kx_i (wc := wM ad de c0) (wr := []) hP hD hS hA [0, 1, 2, 3, 4] [] rfl rfl (by decide) (by decide) (va_runV (As := [.int p0, .int y_1, .int p2, .int p4, .int p5]) (rest := []) ⟨hx, hb, hml, hown, hts⟩ (m_fold l D de ad c0 p0 y_1 p2 p4 p5 s.heap.size) (cwV 5 hts gX17_restore_X17_fold rfl rfl rfl (by decide +kernel) ⟨Nat.le_of_ble_eq_true rfl, Nat.le_of_ble_eq_true rfl⟩) ⟨px_blind, (va_recv hK hP (ci := 22) (q0 := 0) rfl rfl), (px_pre hP hD hK hS hA hTK hZ [0, 1, 2, 3, 4] rfl rfl (by decide) [] rfl)⟩ rfl rfl hl.1 rfl (lv_room (Nat.le_of_ble_eq_true rfl)) dX17_restore_30 ⟨(Nat.le_of_ble_eq_true rfl), (Nat.le_of_ble_eq_true rfl)⟩) (fun r_2 u H locs hw hP hD hK1 hS => ?_)
      obtain ⟨cu_3, tu_4⟩ := u
      have hP : va_P D vwCl ([(ad 40, .inr (22, .int cu_3 :: tu_4))]) H := hP
      have hD : va_D A ([(ad 40, .inr (22, .int cu_3 :: tu_4))]) := hD
      refine W.widen (k := 0) (n := 0) (Nat.le_of_ble_eq_true rfl) (Nat.le_of_ble_eq_true rfl) ?_
      have hP9 := hP.sub (ws' := ([(ad 40, .inr (22, .int cu_3 :: tu_4))])) [0] rfl
      have hD9 := hD.sub (ws' := ([(ad 40, .inr (22, .int cu_3 :: tu_4))])) [0] (by decide) rfl
      have hK9 := hK.sub (tys' := []) [] rfl
      exact W.iret (v := r_2) hx hb hr (fun t ht hW => ⟨⟨r_2, (cu_3, tu_4), rfl, hw, ⟨by rw [ht]; exact hP9, va_K.moved hW.alike hK9, hD9⟩⟩, hS.F ht⟩) hS.2.2 dX17_restore_33 hlocks
    · refine lv_iload_n hx hb dX17_restore_19 rfl (lv_at hl 2 rfl) ?_
      refine lv_iload_n hx hb dX17_restore_20 rfl (lv_at hl 3 rfl) ?_
      refine lv_isub hx hb dX17_restore_21 ?_
      refine lv_topi (fun y_5 ey_5 => ?_)
      refine lv_goto (tgt := 26) hx hb dX17_restore_22 (by decide) ?_
      refine lv_iload hx hb dX17_restore_26 (lv_at hl 5 rfl) ?_
      refine lv_iload hx hb dX17_restore_28 (lv_at hl 6 rfl) ?_
      refine kx_i (wc := wM ad de c0) (wr := []) hP hD hS hA [0, 1, 2, 3, 4] [] rfl rfl (by decide) (by decide) (va_runV (As := [.int p0, .int y_1, .int y_5, .int p4, .int p5]) (rest := []) ⟨hx, hb, hml, hown, hts⟩ (m_fold l D de ad c0 p0 y_1 y_5 p4 p5 s.heap.size) (cwV 5 hts gX17_restore_X17_fold rfl rfl rfl (by decide +kernel) ⟨Nat.le_of_ble_eq_true rfl, Nat.le_of_ble_eq_true rfl⟩) ⟨px_blind, (va_recv hK hP (ci := 22) (q0 := 0) rfl rfl), (px_pre hP hD hK hS hA hTK hZ [0, 1, 2, 3, 4] rfl rfl (by decide) [] rfl)⟩ rfl rfl hl.1 rfl (lv_room (Nat.le_of_ble_eq_true rfl)) dX17_restore_30 ⟨(Nat.le_of_ble_eq_true rfl), (Nat.le_of_ble_eq_true rfl)⟩) (fun r_6 u H locs hw hP hD hK1 hS => ?_)
      obtain ⟨cu_7, tu_8⟩ := u
      have hP : va_P D vwCl ([(ad 40, .inr (22, .int cu_7 :: tu_8))]) H := hP
      have hD : va_D A ([(ad 40, .inr (22, .int cu_7 :: tu_8))]) := hD
      refine W.widen (k := 0) (n := 0) (Nat.le_of_ble_eq_true rfl) (Nat.le_of_ble_eq_true rfl) ?_
      have hP9 := hP.sub (ws' := ([(ad 40, .inr (22, .int cu_7 :: tu_8))])) [0] rfl
      have hD9 := hD.sub (ws' := ([(ad 40, .inr (22, .int cu_7 :: tu_8))])) [0] (by decide) rfl
      have hK9 := hK.sub (tys' := []) [] rfl
      exact W.iret (v := r_6) hx hb hr (fun t ht hW => ⟨⟨r_6, (cu_7, tu_8), rfl, hw, ⟨by rw [ht]; exact hP9, va_K.moved hW.alike hK9, hD9⟩⟩, hS.F ht⟩) hS.2.2 dX17_restore_33 hlocks
  · refine lv_iload_n hx hb dX17_restore_7 rfl (lv_at hl 3 rfl) ?_
    refine lv_goto (tgt := 14) hx hb dX17_restore_8 (by decide) ?_
    refine lv_iload hx hb dX17_restore_14 (lv_at hl 4 rfl) ?_
    refine lv_if_eq (tgt := 25) hx hb dX17_restore_16 (by decide) (fun c_16 => ?_) (fun c_16 => ?_)
    · refine lv_iload_n hx hb dX17_restore_25 rfl (lv_at hl 3 rfl) ?_
      refine lv_iload hx hb dX17_restore_26 (lv_at hl 5 rfl) ?_
      refine lv_iload hx hb dX17_restore_28 (lv_at hl 6 rfl) ?_
      refine kx_i (wc := wM ad de c0) (wr := []) hP hD hS hA [0, 1, 2, 3, 4] [] rfl rfl (by decide) (by decide) (va_runV (As := [.int p0, .int p2, .int p2, .int p4, .int p5]) (rest := []) ⟨hx, hb, hml, hown, hts⟩ (m_fold l D de ad c0 p0 p2 p2 p4 p5 s.heap.size) (cwV 5 hts gX17_restore_X17_fold rfl rfl rfl (by decide +kernel) ⟨Nat.le_of_ble_eq_true rfl, Nat.le_of_ble_eq_true rfl⟩) ⟨px_blind, (va_recv hK hP (ci := 22) (q0 := 0) rfl rfl), (px_pre hP hD hK hS hA hTK hZ [0, 1, 2, 3, 4] rfl rfl (by decide) [] rfl)⟩ rfl rfl hl.1 rfl (lv_room (Nat.le_of_ble_eq_true rfl)) dX17_restore_30 ⟨(Nat.le_of_ble_eq_true rfl), (Nat.le_of_ble_eq_true rfl)⟩) (fun r_9 u H locs hw hP hD hK1 hS => ?_)
      obtain ⟨cu_10, tu_11⟩ := u
      have hP : va_P D vwCl ([(ad 40, .inr (22, .int cu_10 :: tu_11))]) H := hP
      have hD : va_D A ([(ad 40, .inr (22, .int cu_10 :: tu_11))]) := hD
      refine W.widen (k := 0) (n := 0) (Nat.le_of_ble_eq_true rfl) (Nat.le_of_ble_eq_true rfl) ?_
      have hP9 := hP.sub (ws' := ([(ad 40, .inr (22, .int cu_10 :: tu_11))])) [0] rfl
      have hD9 := hD.sub (ws' := ([(ad 40, .inr (22, .int cu_10 :: tu_11))])) [0] (by decide) rfl
      have hK9 := hK.sub (tys' := []) [] rfl
      exact W.iret (v := r_9) hx hb hr (fun t ht hW => ⟨⟨r_9, (cu_10, tu_11), rfl, hw, ⟨by rw [ht]; exact hP9, va_K.moved hW.alike hK9, hD9⟩⟩, hS.F ht⟩) hS.2.2 dX17_restore_33 hlocks
    · refine lv_iload_n hx hb dX17_restore_19 rfl (lv_at hl 2 rfl) ?_
      refine lv_iload_n hx hb dX17_restore_20 rfl (lv_at hl 3 rfl) ?_
      refine lv_isub hx hb dX17_restore_21 ?_
      refine lv_topi (fun y_12 ey_12 => ?_)
      refine lv_goto (tgt := 26) hx hb dX17_restore_22 (by decide) ?_
      refine lv_iload hx hb dX17_restore_26 (lv_at hl 5 rfl) ?_
      refine lv_iload hx hb dX17_restore_28 (lv_at hl 6 rfl) ?_
      refine kx_i (wc := wM ad de c0) (wr := []) hP hD hS hA [0, 1, 2, 3, 4] [] rfl rfl (by decide) (by decide) (va_runV (As := [.int p0, .int p2, .int y_12, .int p4, .int p5]) (rest := []) ⟨hx, hb, hml, hown, hts⟩ (m_fold l D de ad c0 p0 p2 y_12 p4 p5 s.heap.size) (cwV 5 hts gX17_restore_X17_fold rfl rfl rfl (by decide +kernel) ⟨Nat.le_of_ble_eq_true rfl, Nat.le_of_ble_eq_true rfl⟩) ⟨px_blind, (va_recv hK hP (ci := 22) (q0 := 0) rfl rfl), (px_pre hP hD hK hS hA hTK hZ [0, 1, 2, 3, 4] rfl rfl (by decide) [] rfl)⟩ rfl rfl hl.1 rfl (lv_room (Nat.le_of_ble_eq_true rfl)) dX17_restore_30 ⟨(Nat.le_of_ble_eq_true rfl), (Nat.le_of_ble_eq_true rfl)⟩) (fun r_13 u H locs hw hP hD hK1 hS => ?_)
      obtain ⟨cu_14, tu_15⟩ := u
      have hP : va_P D vwCl ([(ad 40, .inr (22, .int cu_14 :: tu_15))]) H := hP
      have hD : va_D A ([(ad 40, .inr (22, .int cu_14 :: tu_15))]) := hD
      refine W.widen (k := 0) (n := 0) (Nat.le_of_ble_eq_true rfl) (Nat.le_of_ble_eq_true rfl) ?_
      have hP9 := hP.sub (ws' := ([(ad 40, .inr (22, .int cu_14 :: tu_15))])) [0] rfl
      have hD9 := hD.sub (ws' := ([(ad 40, .inr (22, .int cu_14 :: tu_15))])) [0] (by decide) rfl
      have hK9 := hK.sub (tys' := []) [] rfl
      exact W.iret (v := r_13) hx hb hr (fun t ht hW => ⟨⟨r_13, (cu_14, tu_15), rfl, hw, ⟨by rw [ht]; exact hP9, va_K.moved hW.alike hK9, hD9⟩⟩, hS.F ht⟩) hS.2.2 dX17_restore_33 hlocks

set_option maxHeartbeats 4000000 in
set_option maxRecDepth 100000 in
theorem m_sees (l : Launch) (D : va_G) (de : Nat) (ad : Nat → Nat) (c0 : Int32) (p0 p1 p2 : Int32) (sz : Nat) : Met l yX17_sees wsX17_sees ({ frames := 6, cells := 2, slots := 7, locals := 126 } : Room) (va_Pc [.ref (ad 40), .int p0, .int p1, .int p2] (PX de D ([]) (wM ad de c0) sz)) (va_Qi (fun (r : Int32) (u : Int32 × List Value) => (u.1 = 1 ∧ r = 0 ∧ inR p0 1 17 = 0) ∨ (u.1 = 2 ∧ r = 0 ∧ ¬ inR p0 1 17 = 0)) (fun u t => PW D ([]) (va_A (wM ad de c0) sz) ([(ad 40, .inr (22, .int u.1 :: u.2))]) t) (va_A (wM ad de c0) sz)) 2 7 (va_A (wM ad de c0) sz) := by
  refine Met.ofW (cc := cX17_sees) (maxL := 5) (ret := (some .int)) (by decide) rfl ?_
  intro p e s m args below meth c s₁ B hml hv
  obtain ⟨rfl, hsz, hP, hK, hD0, hTK, hZ⟩ := hv
  have hx := B.exec
  have hb := B.bytes
  have hr := B.returns
  have hts := atoms_spec (ws := wsX17_sees) B.pre
  have hown : s.vm.findClass RX17 = some m.cls := findClass_of_methodNamed B.named
  have hlocks := B.notSynchronized
  have hin_RX17 : ∀ w ∈ u_ws RX17 TX17 13, w ∈ wsX17_sees := by decide +kernel
  subst hsz
  have hD := hD0.self (sz := s.heap.size)
  generalize hAe : va_A (wM ad de c0) s.heap.size = A at hD hZ ⊢
  have hA : ∀ q : Nat, s.heap.size ≤ q → A q := fun q h => by rw [← hAe]; exact Or.inr h
  have hS : va_S A s.heap s.heap [] := va_S.rf
  have hP : va_P D vwCl (wM ad de c0) s.heap := hP
  have hD : va_D A (wM ad de c0) := hD
  have hl := lv_entry ([.ref (ad 40), .int p0, .int p1, .int p2]) (n := 5) (Nat.le_of_ble_eq_true rfl)
  rw [lg_entry_eq]
  generalize (lg_sl ([.ref (ad 40), .int p0, .int p1, .int p2]) ++ List.replicate (5 - (lg_sl ([.ref (ad 40), .int p0, .int p1, .int p2])).length) Slot.unset).toArray = ls at hl ⊢
  have hl : lv_has ls 5 [(0, .ref (ad 40)), (1, .int p0), (2, .int p1), (3, .int p2)] := hl
  refine lv_aload_n hx hb dX17_sees_0 rfl (lv_at hl 0 rfl) ?_
  refine lv_iconst (v := 0) hx hb dX17_sees_1 (by decide) ?_
  refine va_put (D := D) (ci := 22) (v := .int 0) (ty := .int) (C := RX17) (T := TX17) (N := 13) hx hb hts hin_RX17 tyX17 tyX17_ok nmX17 hown hK hP hD hS 0 rfl rfl 0 (by decide) (hts (.fieldLink RX17 41 "PopupwrightModel" "code" "I") (by decide +kernel)) (fun _ h9 => h9) rfl (by decide +kernel) rfl rfl (Nat.le_of_ble_eq_true rfl) dX17_sees_2 (fun H locs hP hD hS => ?_)
  have hP : va_P D vwCl (wM ad de 0) H := hP
  have hD : va_D A (wM ad de 0) := hD
  refine lv_iload_n hx hb dX17_sees_5 rfl (lv_at hl 1 rfl) ?_
  refine lv_iconst (v := 1) hx hb dX17_sees_6 (by decide) ?_
  refine lv_bipush (v := 17) hx hb dX17_sees_7 (by decide) ?_
  refine kx_i (wc := []) (wr := wM ad de 0) hP hD hS hA [] [0, 1, 2, 3, 4] rfl rfl (by decide) (by decide) (va_runS (As := [.int p0, .int 1, .int 17]) (rest := []) ⟨hx, hb, hml, hown, hts⟩ (c_in l D de p0 1 17 H.size) (va_cwS 3 hts gX17_sees_X17_in rfl rfl rfl (by decide +kernel) ⟨Nat.le_of_ble_eq_true rfl, Nat.le_of_ble_eq_true rfl⟩) ⟨px_blind, (px_pre hP hD hK hS hA hTK hZ [] rfl rfl (by decide) [] rfl)⟩ rfl rfl hl.1 rfl (lv_room (Nat.le_of_ble_eq_true rfl)) dX17_sees_9 ⟨(Nat.le_of_ble_eq_true rfl), (Nat.le_of_ble_eq_true rfl)⟩) (fun r_1 u H locs hw hP hD hK1 hS => ?_)
  have hP : va_P D vwCl (wM ad de 0) H := hP
  have hD : va_D A (wM ad de 0) := hD
  obtain rfl : r_1 = inR p0 1 17 := hw
  refine lv_if_ne (tgt := 21) hx hb dX17_sees_12 (by decide) (fun c_12 => ?_) (fun c_12 => ?_)
  · refine lv_aload_n hx hb dX17_sees_21 rfl (lv_at hl 0 rfl) ?_
    refine lv_iload_n hx hb dX17_sees_22 rfl (lv_at hl 1 rfl) ?_
    refine lv_iload_n hx hb dX17_sees_23 rfl (lv_at hl 2 rfl) ?_
    refine lv_iload_n hx hb dX17_sees_24 rfl (lv_at hl 3 rfl) ?_
    refine kx_i (wc := wM ad de 0) (wr := []) hP hD hS hA [0, 1, 2, 3, 4] [] rfl rfl (by decide) (by decide) (va_runV (As := [.int p0, .int p1, .int p2]) (rest := []) ⟨hx, hb, hml, hown, hts⟩ (c_eye l D de ad 0 p0 p1 p2 H.size) (cwV 3 hts gX17_sees_X17_eye rfl rfl rfl (by decide +kernel) ⟨Nat.le_of_ble_eq_true rfl, Nat.le_of_ble_eq_true rfl⟩) ⟨px_blind, (va_recv hK hP (ci := 22) (q0 := 0) rfl rfl), (px_pre hP hD hK hS hA hTK hZ [0, 1, 2, 3, 4] rfl rfl (by decide) [] rfl)⟩ rfl rfl hl.1 rfl (lv_room (Nat.le_of_ble_eq_true rfl)) dX17_sees_25 ⟨(Nat.le_of_ble_eq_true rfl), (Nat.le_of_ble_eq_true rfl)⟩) (fun r_2 u H locs hw hP hD hK1 hS => ?_)
    have hP : va_P D vwCl (wM ad de 0) H := hP
    have hD : va_D A (wM ad de 0) := hD
    obtain rfl : r_2 = (-3) := hw
    refine W.widen (k := 2) (n := 7) (Nat.le_of_ble_eq_true rfl) (Nat.le_of_ble_eq_true rfl) ?_
    refine lv_istore (lv' := [(4, .int (-3)), (0, .ref (ad 40)), (1, .int p0), (2, .int p1), (3, .int p2)]) hx hb dX17_sees_28 hl (by decide) rfl (fun ls hl => ?_)
    refine lv_iload hx hb dX17_sees_30 (lv_at hl 0 rfl) ?_
    refine lv_bipush (v := (-3)) hx hb dX17_sees_32 (by decide) ?_
    refine lv_icmp_ne (tgt := 45) hx hb dX17_sees_34 (by decide) (fun h_ => absurd (by decide) h_) (fun _ => ?_)
    refine lv_aload_n hx hb dX17_sees_37 rfl (lv_at hl 1 rfl) ?_
    refine lv_iconst (v := 2) hx hb dX17_sees_38 (by decide) ?_
    refine kx_i (wc := wM ad de 0) (wr := []) hP hD hS hA [0, 1, 2, 3, 4] [] rfl rfl (by decide) (by decide) (va_runV (As := [.int 2]) (rest := []) ⟨hx, hb, hml, hown, hts⟩ (c_fails l D de ad 0 2 H.size) (cwV 1 hts gX17_sees_X17_fails rfl rfl rfl (by decide +kernel) ⟨Nat.le_of_ble_eq_true rfl, Nat.le_of_ble_eq_true rfl⟩) ⟨px_blind, (va_recv hK hP (ci := 22) (q0 := 0) rfl rfl), (px_pre hP hD hK hS hA hTK hZ [0, 1, 2, 3, 4] rfl rfl (by decide) [] rfl)⟩ rfl rfl hl.1 rfl (lv_room (Nat.le_of_ble_eq_true rfl)) dX17_sees_39 ⟨(Nat.le_of_ble_eq_true rfl), (Nat.le_of_ble_eq_true rfl)⟩) (fun r_3 u H locs hw hP hD hK1 hS => ?_)
    have hP : va_P D vwCl (wM ad de 2) H := hP
    have hD : va_D A (wM ad de 2) := hD
    obtain rfl : r_3 = 0 := hw
    refine W.widen (k := 2) (n := 7) (Nat.le_of_ble_eq_true rfl) (Nat.le_of_ble_eq_true rfl) ?_
    refine lv_goto (tgt := 47) hx hb dX17_sees_42 (by decide) ?_
    refine W.widen (k := 2) (n := 7) (Nat.le_of_ble_eq_true rfl) (Nat.le_of_ble_eq_true rfl) ?_
    have hP9 := hP.sub (ws' := ([(ad 40, .inr (22, [.int 2, .int 0, .int 0, .int 0, .ref (ad 41), .ref (ad 42), .ref (ad 43), .ref (ad 44), .int 500, .int 700, .int 10, .int 200, .ref (ad 45)]))])) [0] rfl
    have hD9 := hD.sub (ws' := ([(ad 40, .inr (22, [.int 2, .int 0, .int 0, .int 0, .ref (ad 41), .ref (ad 42), .ref (ad 43), .ref (ad 44), .int 500, .int 700, .int 10, .int 200, .ref (ad 45)]))])) [0] (by decide) rfl
    have hK9 := hK.sub (tys' := []) [] rfl
    exact W.iret (v := 0) hx hb hr (fun t ht hW => ⟨⟨0, (2, [.int 0, .int 0, .int 0, .ref (ad 41), .ref (ad 42), .ref (ad 43), .ref (ad 44), .int 500, .int 700, .int 10, .int 200, .ref (ad 45)]), rfl, (by first | exact ⟨rfl, rfl⟩ | exact ⟨rfl, rfl, by assumption⟩ | exact Or.inl ⟨rfl, rfl, by assumption⟩ | exact Or.inr ⟨rfl, rfl, by assumption⟩ | exact Or.inl ⟨rfl, rfl, Or.inl (by assumption)⟩ | exact Or.inl ⟨rfl, rfl, Or.inr (by assumption)⟩ | exact Or.inr ⟨rfl, rfl, by assumption, by assumption⟩), ⟨by rw [ht]; exact hP9, va_K.moved hW.alike hK9, hD9⟩⟩, hS.F ht⟩) hS.2.2 dX17_sees_47 hlocks
  · refine lv_aload_n hx hb dX17_sees_15 rfl (lv_at hl 0 rfl) ?_
    refine lv_iconst (v := 1) hx hb dX17_sees_16 (by decide) ?_
    refine kx_i (wc := wM ad de 0) (wr := []) hP hD hS hA [0, 1, 2, 3, 4] [] rfl rfl (by decide) (by decide) (va_runV (As := [.int 1]) (rest := []) ⟨hx, hb, hml, hown, hts⟩ (c_fails l D de ad 0 1 H.size) (cwV 1 hts gX17_sees_X17_fails rfl rfl rfl (by decide +kernel) ⟨Nat.le_of_ble_eq_true rfl, Nat.le_of_ble_eq_true rfl⟩) ⟨px_blind, (va_recv hK hP (ci := 22) (q0 := 0) rfl rfl), (px_pre hP hD hK hS hA hTK hZ [0, 1, 2, 3, 4] rfl rfl (by decide) [] rfl)⟩ rfl rfl hl.1 rfl (lv_room (Nat.le_of_ble_eq_true rfl)) dX17_sees_17 ⟨(Nat.le_of_ble_eq_true rfl), (Nat.le_of_ble_eq_true rfl)⟩) (fun r_4 u H locs hw hP hD hK1 hS => ?_)
    have hP : va_P D vwCl (wM ad de 1) H := hP
    have hD : va_D A (wM ad de 1) := hD
    obtain rfl : r_4 = 0 := hw
    refine W.widen (k := 2) (n := 7) (Nat.le_of_ble_eq_true rfl) (Nat.le_of_ble_eq_true rfl) ?_
    have hP9 := hP.sub (ws' := ([(ad 40, .inr (22, [.int 1, .int 0, .int 0, .int 0, .ref (ad 41), .ref (ad 42), .ref (ad 43), .ref (ad 44), .int 500, .int 700, .int 10, .int 200, .ref (ad 45)]))])) [0] rfl
    have hD9 := hD.sub (ws' := ([(ad 40, .inr (22, [.int 1, .int 0, .int 0, .int 0, .ref (ad 41), .ref (ad 42), .ref (ad 43), .ref (ad 44), .int 500, .int 700, .int 10, .int 200, .ref (ad 45)]))])) [0] (by decide) rfl
    have hK9 := hK.sub (tys' := []) [] rfl
    exact W.iret (v := 0) hx hb hr (fun t ht hW => ⟨⟨0, (1, [.int 0, .int 0, .int 0, .ref (ad 41), .ref (ad 42), .ref (ad 43), .ref (ad 44), .int 500, .int 700, .int 10, .int 200, .ref (ad 45)]), rfl, (by first | exact ⟨rfl, rfl⟩ | exact ⟨rfl, rfl, by assumption⟩ | exact Or.inl ⟨rfl, rfl, by assumption⟩ | exact Or.inr ⟨rfl, rfl, by assumption⟩ | exact Or.inl ⟨rfl, rfl, Or.inl (by assumption)⟩ | exact Or.inl ⟨rfl, rfl, Or.inr (by assumption)⟩ | exact Or.inr ⟨rfl, rfl, by assumption, by assumption⟩), ⟨by rw [ht]; exact hP9, va_K.moved hW.alike hK9, hD9⟩⟩, hS.F ht⟩) hS.2.2 dX17_sees_20 hlocks

set_option maxHeartbeats 4000000 in
set_option maxRecDepth 100000 in
theorem m_clashes (l : Launch) (D : va_G) (de : Nat) (ad : Nat → Nat) (c0 : Int32) (sz : Nat) : Met l yX17_clashes wsX17_clashes ({ frames := 6, cells := 1, slots := 3, locals := 119 } : Room) (va_Pc [.ref (ad 40)] (PX de D ([]) (wM ad de c0) sz)) (va_Qi (fun (r : Int32) (u : Int32 × List Value) => (u.1 = 0 ∧ r = 0)) (fun u t => PW D ([]) (va_A (wM ad de c0) sz) ([(ad 40, .inr (22, .int u.1 :: u.2))]) t) (va_A (wM ad de c0) sz)) 1 3 (va_A (wM ad de c0) sz) := by
  refine Met.ofW (cc := cX17_clashes) (maxL := 1) (ret := (some .int)) (by decide) rfl ?_
  intro p e s m args below meth c s₁ B hml hv
  obtain ⟨rfl, hsz, hP, hK, hD0, hTK, hZ⟩ := hv
  have hx := B.exec
  have hb := B.bytes
  have hr := B.returns
  have hts := atoms_spec (ws := wsX17_clashes) B.pre
  have hown : s.vm.findClass RX17 = some m.cls := findClass_of_methodNamed B.named
  have hlocks := B.notSynchronized
  have hin_RX17 : ∀ w ∈ u_ws RX17 TX17 13, w ∈ wsX17_clashes := by decide +kernel
  subst hsz
  have hD := hD0.self (sz := s.heap.size)
  generalize hAe : va_A (wM ad de c0) s.heap.size = A at hD hZ ⊢
  have hA : ∀ q : Nat, s.heap.size ≤ q → A q := fun q h => by rw [← hAe]; exact Or.inr h
  have hS : va_S A s.heap s.heap [] := va_S.rf
  have hP : va_P D vwCl (wM ad de c0) s.heap := hP
  have hD : va_D A (wM ad de c0) := hD
  have hl := lv_entry ([.ref (ad 40)]) (n := 1) (Nat.le_of_ble_eq_true rfl)
  rw [lg_entry_eq]
  generalize (lg_sl ([.ref (ad 40)]) ++ List.replicate (1 - (lg_sl ([.ref (ad 40)])).length) Slot.unset).toArray = ls at hl ⊢
  have hl : lv_has ls 1 [(0, .ref (ad 40))] := hl
  refine lv_aload_n hx hb dX17_clashes_0 rfl (lv_at hl 0 rfl) ?_
  refine lv_iconst (v := 0) hx hb dX17_clashes_1 (by decide) ?_
  refine va_put (D := D) (ci := 22) (v := .int 0) (ty := .int) (C := RX17) (T := TX17) (N := 13) hx hb hts hin_RX17 tyX17 tyX17_ok nmX17 hown hK hP hD hS 0 rfl rfl 0 (by decide) (hts (.fieldLink RX17 41 "PopupwrightModel" "code" "I") (by decide +kernel)) (fun _ h9 => h9) rfl (by decide +kernel) rfl rfl (Nat.le_of_ble_eq_true rfl) dX17_clashes_2 (fun H locs hP hD hS => ?_)
  have hP : va_P D vwCl (wM ad de 0) H := hP
  have hD : va_D A (wM ad de 0) := hD
  refine lv_aload_n hx hb dX17_clashes_5 rfl (lv_at hl 0 rfl) ?_
  refine kx_i (wc := wM ad de 0) (wr := []) hP hD hS hA [0, 1, 2, 3, 4] [] rfl rfl (by decide) (by decide) (va_runV (As := []) (rest := []) ⟨hx, hb, hml, hown, hts⟩ (c_pairs l D de ad 0 H.size) (cwV 0 hts gX17_clashes_X17_pairs rfl rfl rfl (by decide +kernel) ⟨Nat.le_of_ble_eq_true rfl, Nat.le_of_ble_eq_true rfl⟩) ⟨px_blind, (va_recv hK hP (ci := 22) (q0 := 0) rfl rfl), (px_pre hP hD hK hS hA hTK hZ [0, 1, 2, 3, 4] rfl rfl (by decide) [] rfl)⟩ rfl rfl hl.1 rfl (lv_room (Nat.le_of_ble_eq_true rfl)) dX17_clashes_6 ⟨(Nat.le_of_ble_eq_true rfl), (Nat.le_of_ble_eq_true rfl)⟩) (fun r_1 u H locs hw hP hD hK1 hS => ?_)
  have hP : va_P D vwCl (wM ad de 0) H := hP
  have hD : va_D A (wM ad de 0) := hD
  obtain rfl : r_1 = 0 := hw
  refine W.widen (k := 1) (n := 3) (Nat.le_of_ble_eq_true rfl) (Nat.le_of_ble_eq_true rfl) ?_
  refine W.widen (k := 1) (n := 3) (Nat.le_of_ble_eq_true rfl) (Nat.le_of_ble_eq_true rfl) ?_
  have hP9 := hP.sub (ws' := ([(ad 40, .inr (22, [.int 0, .int 0, .int 0, .int 0, .ref (ad 41), .ref (ad 42), .ref (ad 43), .ref (ad 44), .int 500, .int 700, .int 10, .int 200, .ref (ad 45)]))])) [0] rfl
  have hD9 := hD.sub (ws' := ([(ad 40, .inr (22, [.int 0, .int 0, .int 0, .int 0, .ref (ad 41), .ref (ad 42), .ref (ad 43), .ref (ad 44), .int 500, .int 700, .int 10, .int 200, .ref (ad 45)]))])) [0] (by decide) rfl
  have hK9 := hK.sub (tys' := []) [] rfl
  exact W.iret (v := 0) hx hb hr (fun t ht hW => ⟨⟨0, (0, [.int 0, .int 0, .int 0, .ref (ad 41), .ref (ad 42), .ref (ad 43), .ref (ad 44), .int 500, .int 700, .int 10, .int 200, .ref (ad 45)]), rfl, (by first | exact ⟨rfl, rfl⟩ | exact ⟨rfl, rfl, by assumption⟩ | exact Or.inl ⟨rfl, rfl, by assumption⟩ | exact Or.inr ⟨rfl, rfl, by assumption⟩ | exact Or.inl ⟨rfl, rfl, Or.inl (by assumption)⟩ | exact Or.inl ⟨rfl, rfl, Or.inr (by assumption)⟩ | exact Or.inr ⟨rfl, rfl, by assumption, by assumption⟩), ⟨by rw [ht]; exact hP9, va_K.moved hW.alike hK9, hD9⟩⟩, hS.F ht⟩) hS.2.2 dX17_clashes_9 hlocks

set_option maxHeartbeats 4000000 in
set_option maxRecDepth 100000 in
theorem m_folds (l : Launch) (D : va_G) (de : Nat) (ad : Nat → Nat) (c0 : Int32) (sz : Nat) : Met l yX17_folds wsX17_folds ({ frames := 1, cells := 0, slots := 0, locals := 20 } : Room) (va_Pc [.ref (ad 40)] (PX de D ([]) (wM ad de c0) sz)) (va_Qi (fun (r : Int32) (u : Int32 × List Value) => (u.1 = 0 ∧ r = 0)) (fun u t => PW D ([]) (va_A (wM ad de c0) sz) ([(ad 40, .inr (22, .int u.1 :: u.2))]) t) (va_A (wM ad de c0) sz)) 0 0 (va_A (wM ad de c0) sz) := by
  refine Met.ofW (cc := cX17_folds) (maxL := 1) (ret := (some .int)) (by decide) rfl ?_
  intro p e s m args below meth c s₁ B hml hv
  obtain ⟨rfl, hsz, hP, hK, hD0, hTK, hZ⟩ := hv
  have hx := B.exec
  have hb := B.bytes
  have hr := B.returns
  have hts := atoms_spec (ws := wsX17_folds) B.pre
  have hown : s.vm.findClass RX17 = some m.cls := findClass_of_methodNamed B.named
  have hlocks := B.notSynchronized
  have hin_RX17 : ∀ w ∈ u_ws RX17 TX17 13, w ∈ wsX17_folds := by decide +kernel
  subst hsz
  have hD := hD0.self (sz := s.heap.size)
  generalize hAe : va_A (wM ad de c0) s.heap.size = A at hD hZ ⊢
  have hA : ∀ q : Nat, s.heap.size ≤ q → A q := fun q h => by rw [← hAe]; exact Or.inr h
  have hS : va_S A s.heap s.heap [] := va_S.rf
  have hP : va_P D vwCl (wM ad de c0) s.heap := hP
  have hD : va_D A (wM ad de c0) := hD
  have hl := lv_entry ([.ref (ad 40)]) (n := 1) (Nat.le_of_ble_eq_true rfl)
  rw [lg_entry_eq]
  generalize (lg_sl ([.ref (ad 40)]) ++ List.replicate (1 - (lg_sl ([.ref (ad 40)])).length) Slot.unset).toArray = ls at hl ⊢
  have hl : lv_has ls 1 [(0, .ref (ad 40))] := hl
  refine lv_aload_n hx hb dX17_folds_0 rfl (lv_at hl 0 rfl) ?_
  refine lv_iconst (v := 0) hx hb dX17_folds_1 (by decide) ?_
  refine va_put (D := D) (ci := 22) (v := .int 0) (ty := .int) (C := RX17) (T := TX17) (N := 13) hx hb hts hin_RX17 tyX17 tyX17_ok nmX17 hown hK hP hD hS 0 rfl rfl 0 (by decide) (hts (.fieldLink RX17 41 "PopupwrightModel" "code" "I") (by decide +kernel)) (fun _ h9 => h9) rfl (by decide +kernel) rfl rfl (Nat.le_of_ble_eq_true rfl) dX17_folds_2 (fun H locs hP hD hS => ?_)
  have hP : va_P D vwCl (wM ad de 0) H := hP
  have hD : va_D A (wM ad de 0) := hD
  refine lv_aload_n hx hb dX17_folds_5 rfl (lv_at hl 0 rfl) ?_
  refine va_get (D := D) (ci := 22) (v := .ref (ad 42)) (C := RX17) (T := TX17) (N := 13) hx hb hts hin_RX17 hown hK hP 0 rfl rfl 5 (by decide) (hts (.fieldLink RX17 16 "PopupwrightModel" "folds" "Ljava/util/List;") (by decide +kernel)) (fun _ h9 => h9) rfl dX17_folds_6 ?_
  refine kx_Fi (wc := [(ad 42, .inr (4, [.int 0, .ref de, .int 0]))]) (wr := [(ad 40, .inr (22, [.int 0, .int 0, .int 0, .int 0, .ref (ad 41), .ref (ad 42), .ref (ad 43), .ref (ad 44), .int 500, .int 700, .int 10, .int 200, .ref (ad 45)])), (ad 41, .inr (4, [.int 0, .ref de, .int 0])), (ad 43, .inr (4, [.int 0, .ref de, .int 0])), (ad 44, .inr (4, [.int 0, .ref de, .int 0]))]) hP hD hS hA [2] [0, 1, 3, 4] rfl rfl (by decide) (by decide) (va_runF (As := []) (rest := []) (hK.1 4 _ rfl).2 ⟨hx, hb, hml, hown, hts⟩ (l_size l D de (ad 42) de 0 H.size) (va_cwF 0 hts gX17_folds_Jx4a65c_size_8abf5_f52Jx4a65c rfl rfl rfl (hTK.2.2.2.2.2.1 (RJx4a65c, ⟨"java/util/List", "size", "()I"⟩, yJx4a65c_size_8abf5) (by decide +kernel)) (by decide +kernel) ⟨Nat.le_of_ble_eq_true rfl, Nat.le_of_ble_eq_true rfl⟩) ⟨px_blind, (va_recv hK hP (ci := 4) (q0 := 2) rfl rfl), (px_pre hP hD hK hS hA hTK hZ [2] rfl rfl (by decide) [] rfl)⟩ rfl rfl hl.1 rfl (lv_room (Nat.le_of_ble_eq_true rfl)) dX17_folds_9 ⟨(Nat.le_of_ble_eq_true rfl), (Nat.le_of_ble_eq_true rfl)⟩) (fun r_1 u H locs hw hP hD hK1 hS => ?_)
  have hP : va_P D vwCl ([(ad 40, .inr (22, [.int 0, .int 0, .int 0, .int 0, .ref (ad 41), .ref (ad 42), .ref (ad 43), .ref (ad 44), .int 500, .int 700, .int 10, .int 200, .ref (ad 45)])), (ad 41, .inr (4, [.int 0, .ref de, .int 0])), (ad 43, .inr (4, [.int 0, .ref de, .int 0])), (ad 44, .inr (4, [.int 0, .ref de, .int 0])), (ad 42, .inr (4, [.int 0, .ref de, .int 0]))]) H := hP
  have hD : va_D A ([(ad 40, .inr (22, [.int 0, .int 0, .int 0, .int 0, .ref (ad 41), .ref (ad 42), .ref (ad 43), .ref (ad 44), .int 500, .int 700, .int 10, .int 200, .ref (ad 45)])), (ad 41, .inr (4, [.int 0, .ref de, .int 0])), (ad 43, .inr (4, [.int 0, .ref de, .int 0])), (ad 44, .inr (4, [.int 0, .ref de, .int 0])), (ad 42, .inr (4, [.int 0, .ref de, .int 0]))]) := hD
  obtain rfl : r_1 = 0 := hw
  refine W.widen (k := 0) (n := 0) (Nat.le_of_ble_eq_true rfl) (Nat.le_of_ble_eq_true rfl) ?_
  have hP9 := hP.sub (ws' := ([(ad 40, .inr (22, [.int 0, .int 0, .int 0, .int 0, .ref (ad 41), .ref (ad 42), .ref (ad 43), .ref (ad 44), .int 500, .int 700, .int 10, .int 200, .ref (ad 45)]))])) [0] rfl
  have hD9 := hD.sub (ws' := ([(ad 40, .inr (22, [.int 0, .int 0, .int 0, .int 0, .ref (ad 41), .ref (ad 42), .ref (ad 43), .ref (ad 44), .int 500, .int 700, .int 10, .int 200, .ref (ad 45)]))])) [0] (by decide) rfl
  have hK9 := hK.sub (tys' := []) [] rfl
  exact W.iret (v := 0) hx hb hr (fun t ht hW => ⟨⟨0, (0, [.int 0, .int 0, .int 0, .ref (ad 41), .ref (ad 42), .ref (ad 43), .ref (ad 44), .int 500, .int 700, .int 10, .int 200, .ref (ad 45)]), rfl, (by first | exact ⟨rfl, rfl⟩ | exact ⟨rfl, rfl, by assumption⟩ | exact Or.inl ⟨rfl, rfl, by assumption⟩ | exact Or.inr ⟨rfl, rfl, by assumption⟩ | exact Or.inl ⟨rfl, rfl, Or.inl (by assumption)⟩ | exact Or.inl ⟨rfl, rfl, Or.inr (by assumption)⟩ | exact Or.inr ⟨rfl, rfl, by assumption, by assumption⟩), ⟨by rw [ht]; exact hP9, va_K.moved hW.alike hK9, hD9⟩⟩, hS.F ht⟩) hS.2.2 dX17_folds_14 hlocks

set_option maxHeartbeats 4000000 in
set_option maxRecDepth 100000 in
theorem m_isSound (l : Launch) (D : va_G) (de : Nat) (ad : Nat → Nat) (c0 : Int32) (sz : Nat) : Met l yX17_isSound wsX17_isSound ({ frames := 0, cells := 0, slots := 0, locals := 0 } : Room) (va_Pc [.ref (ad 40)] (PX de D ([]) (wM ad de c0) sz)) (va_Qi (fun (r : Int32) (u : Int32 × List Value) => (u.1 = 0 ∧ r = 1)) (fun u t => PW D ([]) (va_A (wM ad de c0) sz) ([(ad 40, .inr (22, .int u.1 :: u.2))]) t) (va_A (wM ad de c0) sz)) 0 0 (va_A (wM ad de c0) sz) := by
  refine Met.ofW (cc := cX17_isSound) (maxL := 1) (ret := (some .boolean)) (by decide) rfl ?_
  intro p e s m args below meth c s₁ B hml hv
  obtain ⟨rfl, hsz, hP, hK, hD0, hTK, hZ⟩ := hv
  have hx := B.exec
  have hb := B.bytes
  have hr := B.returns
  have hts := atoms_spec (ws := wsX17_isSound) B.pre
  have hown : s.vm.findClass RX17 = some m.cls := findClass_of_methodNamed B.named
  have hlocks := B.notSynchronized
  have hin_RX17 : ∀ w ∈ u_ws RX17 TX17 13, w ∈ wsX17_isSound := by decide +kernel
  subst hsz
  have hD := hD0.self (sz := s.heap.size)
  generalize hAe : va_A (wM ad de c0) s.heap.size = A at hD hZ ⊢
  have hA : ∀ q : Nat, s.heap.size ≤ q → A q := fun q h => by rw [← hAe]; exact Or.inr h
  have hS : va_S A s.heap s.heap [] := va_S.rf
  have hP : va_P D vwCl (wM ad de c0) s.heap := hP
  have hD : va_D A (wM ad de c0) := hD
  have hl := lv_entry ([.ref (ad 40)]) (n := 1) (Nat.le_of_ble_eq_true rfl)
  rw [lg_entry_eq]
  generalize (lg_sl ([.ref (ad 40)]) ++ List.replicate (1 - (lg_sl ([.ref (ad 40)])).length) Slot.unset).toArray = ls at hl ⊢
  have hl : lv_has ls 1 [(0, .ref (ad 40))] := hl
  refine lv_aload_n hx hb dX17_isSound_0 rfl (lv_at hl 0 rfl) ?_
  refine lv_iconst (v := 0) hx hb dX17_isSound_1 (by decide) ?_
  refine va_put (D := D) (ci := 22) (v := .int 0) (ty := .int) (C := RX17) (T := TX17) (N := 13) hx hb hts hin_RX17 tyX17 tyX17_ok nmX17 hown hK hP hD hS 0 rfl rfl 0 (by decide) (hts (.fieldLink RX17 41 "PopupwrightModel" "code" "I") (by decide +kernel)) (fun _ h9 => h9) rfl (by decide +kernel) rfl rfl (Nat.le_of_ble_eq_true rfl) dX17_isSound_2 (fun H locs hP hD hS => ?_)
  have hP : va_P D vwCl (wM ad de 0) H := hP
  have hD : va_D A (wM ad de 0) := hD
  refine lv_iconst (v := 1) hx hb dX17_isSound_5 (by decide) ?_
  refine W.widen (k := 0) (n := 0) (Nat.le_of_ble_eq_true rfl) (Nat.le_of_ble_eq_true rfl) ?_
  have hP9 := hP.sub (ws' := ([(ad 40, .inr (22, [.int 0, .int 0, .int 0, .int 0, .ref (ad 41), .ref (ad 42), .ref (ad 43), .ref (ad 44), .int 500, .int 700, .int 10, .int 200, .ref (ad 45)]))])) [0] rfl
  have hD9 := hD.sub (ws' := ([(ad 40, .inr (22, [.int 0, .int 0, .int 0, .int 0, .ref (ad 41), .ref (ad 42), .ref (ad 43), .ref (ad 44), .int 500, .int 700, .int 10, .int 200, .ref (ad 45)]))])) [0] (by decide) rfl
  have hK9 := hK.sub (tys' := []) [] rfl
  exact W.zret (v := 1) hx hb hr (by decide) (fun t ht hW => ⟨⟨1, (0, [.int 0, .int 0, .int 0, .ref (ad 41), .ref (ad 42), .ref (ad 43), .ref (ad 44), .int 500, .int 700, .int 10, .int 200, .ref (ad 45)]), rfl, (by first | exact ⟨rfl, rfl⟩ | exact ⟨rfl, rfl, by assumption⟩ | exact Or.inl ⟨rfl, rfl, by assumption⟩ | exact Or.inr ⟨rfl, rfl, by assumption⟩ | exact Or.inl ⟨rfl, rfl, Or.inl (by assumption)⟩ | exact Or.inl ⟨rfl, rfl, Or.inr (by assumption)⟩ | exact Or.inr ⟨rfl, rfl, by assumption, by assumption⟩), ⟨by rw [ht]; exact hP9, va_K.moved hW.alike hK9, hD9⟩⟩, hS.F ht⟩) hS.2.2 dX17_isSound_6 hlocks

set_option maxHeartbeats 4000000 in
set_option maxRecDepth 100000 in
theorem m_makingTime (l : Launch) (D : va_G) (de : Nat) (ad : Nat → Nat) (c0 : Int32) (sz : Nat) : Met l yX17_makingTime wsX17_makingTime ({ frames := 5, cells := 4, slots := 3, locals := 105 } : Room) (va_Pc [.ref (ad 40)] (PX de D ([]) (wM ad de c0) sz)) (va_Qi (fun (r : Int32) (u : Int32 × List Value) => (u.1 = 0 ∧ r = 0)) (fun u t => PW D ([]) (va_A (wM ad de c0) sz) ([(ad 40, .inr (22, .int u.1 :: u.2))]) t) (va_A (wM ad de c0) sz)) 4 3 (va_A (wM ad de c0) sz) := by
  refine Met.ofW (cc := cX17_makingTime) (maxL := 3) (ret := (some .int)) (by decide) rfl ?_
  intro p e s m args below meth c s₁ B hml hv
  obtain ⟨rfl, hsz, hP, hK, hD0, hTK, hZ⟩ := hv
  have hx := B.exec
  have hb := B.bytes
  have hr := B.returns
  have hts := atoms_spec (ws := wsX17_makingTime) B.pre
  have hown : s.vm.findClass RX17 = some m.cls := findClass_of_methodNamed B.named
  have hlocks := B.notSynchronized
  have hin_RX17 : ∀ w ∈ u_ws RX17 TX17 13, w ∈ wsX17_makingTime := by decide +kernel
  subst hsz
  have hD := hD0.self (sz := s.heap.size)
  generalize hAe : va_A (wM ad de c0) s.heap.size = A at hD hZ ⊢
  have hA : ∀ q : Nat, s.heap.size ≤ q → A q := fun q h => by rw [← hAe]; exact Or.inr h
  have hS : va_S A s.heap s.heap [] := va_S.rf
  have hP : va_P D vwCl (wM ad de c0) s.heap := hP
  have hD : va_D A (wM ad de c0) := hD
  have hl := lv_entry ([.ref (ad 40)]) (n := 3) (Nat.le_of_ble_eq_true rfl)
  rw [lg_entry_eq]
  generalize (lg_sl ([.ref (ad 40)]) ++ List.replicate (3 - (lg_sl ([.ref (ad 40)])).length) Slot.unset).toArray = ls at hl ⊢
  have hl : lv_has ls 3 [(0, .ref (ad 40))] := hl
  refine lv_aload_n hx hb dX17_makingTime_0 rfl (lv_at hl 0 rfl) ?_
  refine lv_iconst (v := 0) hx hb dX17_makingTime_1 (by decide) ?_
  refine va_put (D := D) (ci := 22) (v := .int 0) (ty := .int) (C := RX17) (T := TX17) (N := 13) hx hb hts hin_RX17 tyX17 tyX17_ok nmX17 hown hK hP hD hS 0 rfl rfl 0 (by decide) (hts (.fieldLink RX17 41 "PopupwrightModel" "code" "I") (by decide +kernel)) (fun _ h9 => h9) rfl (by decide +kernel) rfl rfl (Nat.le_of_ble_eq_true rfl) dX17_makingTime_2 (fun H locs hP hD hS => ?_)
  have hP : va_P D vwCl (wM ad de 0) H := hP
  have hD : va_D A (wM ad de 0) := hD
  refine lv_aload_n hx hb dX17_makingTime_5 rfl (lv_at hl 0 rfl) ?_
  refine kx_q (wc := wM ad de 0) (wr := []) hP hD hS hA [0, 1, 2, 3, 4] [] rfl rfl (by decide) (by decide) (va_runV (As := []) (rest := []) ⟨hx, hb, hml, hown, hts⟩ (c_order l D de ad 0 H.size) (cwV 0 hts gX17_makingTime_X17_order rfl rfl rfl (by decide +kernel) ⟨Nat.le_of_ble_eq_true rfl, Nat.le_of_ble_eq_true rfl⟩) ⟨px_blind, (va_recv hK hP (ci := 22) (q0 := 0) rfl rfl), (px_pre hP hD hK hS hA hTK hZ [0, 1, 2, 3, 4] rfl rfl (by decide) [] rfl)⟩ rfl rfl hl.1 rfl (lv_room (Nat.le_of_ble_eq_true rfl)) dX17_makingTime_6 ⟨(Nat.le_of_ble_eq_true rfl), (Nat.le_of_ble_eq_true rfl)⟩) (fun r_1 u H locs hw hP hD hK1 hS => ?_)
  obtain ⟨nl_2, rfl⟩ : ∃ z, z = u := ⟨_, rfl⟩
  have hP : va_P D vwCl ([(ad 40, .inr (22, [.int 0, .int 0, .int 0, .int 0, .ref (ad 41), .ref (ad 42), .ref (ad 43), .ref (ad 44), .int 500, .int 700, .int 10, .int 200, .ref (ad 45)])), (ad 41, .inr (4, [.int 0, .ref de, .int 0])), (ad 42, .inr (4, [.int 0, .ref de, .int 0])), (ad 43, .inr (4, [.int 0, .ref de, .int 0])), (ad 44, .inr (4, [.int 0, .ref de, .int 0])), (nl_2, .inr (4, [.int 0, .ref de, .int 0]))]) H := hP
  have hD : va_D A ([(ad 40, .inr (22, [.int 0, .int 0, .int 0, .int 0, .ref (ad 41), .ref (ad 42), .ref (ad 43), .ref (ad 44), .int 500, .int 700, .int 10, .int 200, .ref (ad 45)])), (ad 41, .inr (4, [.int 0, .ref de, .int 0])), (ad 42, .inr (4, [.int 0, .ref de, .int 0])), (ad 43, .inr (4, [.int 0, .ref de, .int 0])), (ad 44, .inr (4, [.int 0, .ref de, .int 0])), (nl_2, .inr (4, [.int 0, .ref de, .int 0]))]) := hD
  obtain rfl : r_1 = some nl_2 := hw
  refine W.widen (k := 4) (n := 3) (Nat.le_of_ble_eq_true rfl) (Nat.le_of_ble_eq_true rfl) ?_
  refine lv_astore_n (lv' := [(1, .ref nl_2), (0, .ref (ad 40))]) hx hb dX17_makingTime_9 rfl hl (by decide) rfl (fun ls hl => ?_)
  refine lv_aload_n hx hb dX17_makingTime_10 rfl (lv_at hl 0 rfl) ?_
  refine kx_Fi (wc := [(nl_2, .inr (4, [.int 0, .ref de, .int 0]))]) (wr := wM ad de 0) hP hD hS hA [5] [0, 1, 2, 3, 4] rfl rfl (by decide) (by decide) (va_runF (As := []) (rest := []) (hK.1 4 _ rfl).2 ⟨hx, hb, hml, hown, hts⟩ (l_isEmpty l D de nl_2 de 0 H.size) (va_cwF 0 hts gX17_makingTime_Jx4a65c_isEmpty_aae02_f253Jx4a65c rfl rfl rfl (hTK.2.2.2.2.2.1 (RJx4a65c, ⟨"java/util/List", "isEmpty", "()Z"⟩, yJx4a65c_isEmpty_aae02) (by decide +kernel)) (by decide +kernel) ⟨Nat.le_of_ble_eq_true rfl, Nat.le_of_ble_eq_true rfl⟩) ⟨px_blind, (va_recv hK hP (ci := 4) (q0 := 5) rfl rfl), (px_pre hP hD hK hS hA hTK hZ [5] rfl rfl (by decide) [] rfl)⟩ rfl rfl hl.1 rfl (lv_room (Nat.le_of_ble_eq_true rfl)) dX17_makingTime_11 ⟨(Nat.le_of_ble_eq_true rfl), (Nat.le_of_ble_eq_true rfl)⟩) (fun r_3 u H locs hw hP hD hK1 hS => ?_)
  have hP : va_P D vwCl ([(ad 40, .inr (22, [.int 0, .int 0, .int 0, .int 0, .ref (ad 41), .ref (ad 42), .ref (ad 43), .ref (ad 44), .int 500, .int 700, .int 10, .int 200, .ref (ad 45)])), (ad 41, .inr (4, [.int 0, .ref de, .int 0])), (ad 42, .inr (4, [.int 0, .ref de, .int 0])), (ad 43, .inr (4, [.int 0, .ref de, .int 0])), (ad 44, .inr (4, [.int 0, .ref de, .int 0])), (nl_2, .inr (4, [.int 0, .ref de, .int 0]))]) H := hP
  have hD : va_D A ([(ad 40, .inr (22, [.int 0, .int 0, .int 0, .int 0, .ref (ad 41), .ref (ad 42), .ref (ad 43), .ref (ad 44), .int 500, .int 700, .int 10, .int 200, .ref (ad 45)])), (ad 41, .inr (4, [.int 0, .ref de, .int 0])), (ad 42, .inr (4, [.int 0, .ref de, .int 0])), (ad 43, .inr (4, [.int 0, .ref de, .int 0])), (ad 44, .inr (4, [.int 0, .ref de, .int 0])), (nl_2, .inr (4, [.int 0, .ref de, .int 0]))]) := hD
  obtain rfl : r_3 = 1 := hw
  refine W.widen (k := 4) (n := 3) (Nat.le_of_ble_eq_true rfl) (Nat.le_of_ble_eq_true rfl) ?_
  refine lv_if_eq (tgt := 21) hx hb dX17_makingTime_16 (by decide) (fun h_ => absurd h_ (by decide)) (fun _ => ?_)
  refine lv_iconst (v := 0) hx hb dX17_makingTime_19 (by decide) ?_
  refine W.widen (k := 4) (n := 3) (Nat.le_of_ble_eq_true rfl) (Nat.le_of_ble_eq_true rfl) ?_
  have hP9 := hP.sub (ws' := ([(ad 40, .inr (22, [.int 0, .int 0, .int 0, .int 0, .ref (ad 41), .ref (ad 42), .ref (ad 43), .ref (ad 44), .int 500, .int 700, .int 10, .int 200, .ref (ad 45)]))])) [0] rfl
  have hD9 := hD.sub (ws' := ([(ad 40, .inr (22, [.int 0, .int 0, .int 0, .int 0, .ref (ad 41), .ref (ad 42), .ref (ad 43), .ref (ad 44), .int 500, .int 700, .int 10, .int 200, .ref (ad 45)]))])) [0] (by decide) rfl
  have hK9 := hK.sub (tys' := []) [] rfl
  exact W.iret (v := 0) hx hb hr (fun t ht hW => ⟨⟨0, (0, [.int 0, .int 0, .int 0, .ref (ad 41), .ref (ad 42), .ref (ad 43), .ref (ad 44), .int 500, .int 700, .int 10, .int 200, .ref (ad 45)]), rfl, (by first | exact ⟨rfl, rfl⟩ | exact ⟨rfl, rfl, by assumption⟩ | exact Or.inl ⟨rfl, rfl, by assumption⟩ | exact Or.inr ⟨rfl, rfl, by assumption⟩ | exact Or.inl ⟨rfl, rfl, Or.inl (by assumption)⟩ | exact Or.inl ⟨rfl, rfl, Or.inr (by assumption)⟩ | exact Or.inr ⟨rfl, rfl, by assumption, by assumption⟩), ⟨by rw [ht]; exact hP9, va_K.moved hW.alike hK9, hD9⟩⟩, hS.F ht⟩) hS.2.2 dX17_makingTime_20 hlocks

set_option maxHeartbeats 4000000 in
set_option maxRecDepth 100000 in
theorem m_paper (l : Launch) (D : va_G) (de : Nat) (ad : Nat → Nat) (c0 : Int32) (sz : Nat) : Met l yX17_paper wsX17_paper ({ frames := 3, cells := 1, slots := 4, locals := 53 } : Room) (va_Pc [.ref (ad 40)] (PX de D ([]) (wM ad de c0) sz)) (va_Ql (fun (r : Int64) (u : Int32 × List Value) => (u.1 = 0 ∧ r = 0)) (fun u t => PW D ([]) (va_A (wM ad de c0) sz) ([(ad 40, .inr (22, .int u.1 :: u.2))]) t) (va_A (wM ad de c0) sz)) 1 4 (va_A (wM ad de c0) sz) := by
  refine Met.ofW (cc := cX17_paper) (maxL := 5) (ret := (some .long)) (by decide) rfl ?_
  intro p e s m args below meth c s₁ B hml hv
  obtain ⟨rfl, hsz, hP, hK, hD0, hTK, hZ⟩ := hv
  have hx := B.exec
  have hb := B.bytes
  have hr := B.returns
  have hts := atoms_spec (ws := wsX17_paper) B.pre
  have hown : s.vm.findClass RX17 = some m.cls := findClass_of_methodNamed B.named
  have hlocks := B.notSynchronized
  have hin_RX17 : ∀ w ∈ u_ws RX17 TX17 13, w ∈ wsX17_paper := by decide +kernel
  subst hsz
  have hD := hD0.self (sz := s.heap.size)
  generalize hAe : va_A (wM ad de c0) s.heap.size = A at hD hZ ⊢
  have hA : ∀ q : Nat, s.heap.size ≤ q → A q := fun q h => by rw [← hAe]; exact Or.inr h
  have hS : va_S A s.heap s.heap [] := va_S.rf
  have hP : va_P D vwCl (wM ad de c0) s.heap := hP
  have hD : va_D A (wM ad de c0) := hD
  have hl := lv_entry ([.ref (ad 40)]) (n := 5) (Nat.le_of_ble_eq_true rfl)
  rw [lg_entry_eq]
  generalize (lg_sl ([.ref (ad 40)]) ++ List.replicate (5 - (lg_sl ([.ref (ad 40)])).length) Slot.unset).toArray = ls at hl ⊢
  have hl : lv_has ls 5 [(0, .ref (ad 40))] := hl
  refine lv_aload_n hx hb dX17_paper_0 rfl (lv_at hl 0 rfl) ?_
  refine lv_iconst (v := 0) hx hb dX17_paper_1 (by decide) ?_
  refine va_put (D := D) (ci := 22) (v := .int 0) (ty := .int) (C := RX17) (T := TX17) (N := 13) hx hb hts hin_RX17 tyX17 tyX17_ok nmX17 hown hK hP hD hS 0 rfl rfl 0 (by decide) (hts (.fieldLink RX17 41 "PopupwrightModel" "code" "I") (by decide +kernel)) (fun _ h9 => h9) rfl (by decide +kernel) rfl rfl (Nat.le_of_ble_eq_true rfl) dX17_paper_2 (fun H locs hP hD hS => ?_)
  have hP : va_P D vwCl (wM ad de 0) H := hP
  have hD : va_D A (wM ad de 0) := hD
  refine lv_lconst (v := 0) hx hb dX17_paper_5 (by decide) ?_
  refine lv_lstore_n (lv' := [(1, .long 0), (0, .ref (ad 40))]) hx hb dX17_paper_6 rfl hl (by decide) rfl (fun ls hl => ?_)
  refine lv_aload_n hx hb dX17_paper_7 rfl (lv_at hl 1 rfl) ?_
  refine va_get (D := D) (ci := 22) (v := .ref (ad 42)) (C := RX17) (T := TX17) (N := 13) hx hb hts hin_RX17 hown hK hP 0 rfl rfl 5 (by decide) (hts (.fieldLink RX17 16 "PopupwrightModel" "folds" "Ljava/util/List;") (by decide +kernel)) (fun _ h9 => h9) rfl dX17_paper_8 ?_
  refine kx_Fq (wc := [(ad 42, .inr (4, [.int 0, .ref de, .int 0]))]) (wr := [(ad 40, .inr (22, [.int 0, .int 0, .int 0, .int 0, .ref (ad 41), .ref (ad 42), .ref (ad 43), .ref (ad 44), .int 500, .int 700, .int 10, .int 200, .ref (ad 45)])), (ad 41, .inr (4, [.int 0, .ref de, .int 0])), (ad 43, .inr (4, [.int 0, .ref de, .int 0])), (ad 44, .inr (4, [.int 0, .ref de, .int 0]))]) hP hD hS hA [2] [0, 1, 3, 4] rfl rfl (by decide) (by decide) (va_runF (As := []) (rest := []) (hK.1 4 _ rfl).2 ⟨hx, hb, hml, hown, hts⟩ (l_iterator l D de (ad 42) de 0 H.size) (va_cwF 0 hts gX17_paper_Jx4a65c_iterator_32c93_f171Jx4a65c rfl rfl rfl (hTK.2.2.2.2.2.1 (RJx4a65c, ⟨"java/util/List", "iterator", "()Ljava/util/Iterator;"⟩, yJx4a65c_iterator_32c93) (by decide +kernel)) (by decide +kernel) ⟨Nat.le_of_ble_eq_true rfl, Nat.le_of_ble_eq_true rfl⟩) ⟨px_blind, (va_recv hK hP (ci := 4) (q0 := 2) rfl rfl), (px_pre hP hD hK hS hA hTK hZ [2] rfl rfl (by decide) [] rfl)⟩ rfl rfl hl.1 rfl (lv_room (Nat.le_of_ble_eq_true rfl)) dX17_paper_11 ⟨(Nat.le_of_ble_eq_true rfl), (Nat.le_of_ble_eq_true rfl)⟩) (fun r_1 u H locs hw hP hD hK1 hS => ?_)
  obtain ⟨it_2, rfl⟩ : ∃ z, z = u := ⟨_, rfl⟩
  have hP : va_P D vwCl ([(ad 40, .inr (22, [.int 0, .int 0, .int 0, .int 0, .ref (ad 41), .ref (ad 42), .ref (ad 43), .ref (ad 44), .int 500, .int 700, .int 10, .int 200, .ref (ad 45)])), (ad 41, .inr (4, [.int 0, .ref de, .int 0])), (ad 43, .inr (4, [.int 0, .ref de, .int 0])), (ad 44, .inr (4, [.int 0, .ref de, .int 0])), (it_2, .inr (3, [.int 0, .int (-1), .int 0, .ref (ad 42)])), (ad 42, .inr (4, [.int 0, .ref de, .int 0]))]) H := hP
  have hD : va_D A ([(ad 40, .inr (22, [.int 0, .int 0, .int 0, .int 0, .ref (ad 41), .ref (ad 42), .ref (ad 43), .ref (ad 44), .int 500, .int 700, .int 10, .int 200, .ref (ad 45)])), (ad 41, .inr (4, [.int 0, .ref de, .int 0])), (ad 43, .inr (4, [.int 0, .ref de, .int 0])), (ad 44, .inr (4, [.int 0, .ref de, .int 0])), (it_2, .inr (3, [.int 0, .int (-1), .int 0, .ref (ad 42)])), (ad 42, .inr (4, [.int 0, .ref de, .int 0]))]) := hD
  obtain rfl : r_1 = some it_2 := hw
  refine W.widen (k := 1) (n := 4) (Nat.le_of_ble_eq_true rfl) (Nat.le_of_ble_eq_true rfl) ?_
  refine lv_astore_n (lv' := [(3, .ref it_2), (1, .long 0), (0, .ref (ad 40))]) hx hb dX17_paper_16 rfl hl (by decide) rfl (fun ls hl => ?_)
  refine lv_aload_n hx hb dX17_paper_17 rfl (lv_at hl 0 rfl) ?_
  refine kx_Fi (wc := [(it_2, .inr (3, [.int 0, .int (-1), .int 0, .ref (ad 42)])), (ad 42, .inr (4, [.int 0, .ref de, .int 0]))]) (wr := [(ad 40, .inr (22, [.int 0, .int 0, .int 0, .int 0, .ref (ad 41), .ref (ad 42), .ref (ad 43), .ref (ad 44), .int 500, .int 700, .int 10, .int 200, .ref (ad 45)])), (ad 41, .inr (4, [.int 0, .ref de, .int 0])), (ad 43, .inr (4, [.int 0, .ref de, .int 0])), (ad 44, .inr (4, [.int 0, .ref de, .int 0]))]) hP hD hS hA [4, 5] [0, 1, 2, 3] rfl rfl (by decide) (by decide) (va_runF (As := []) (rest := []) (hK.1 3 _ rfl).2 ⟨hx, hb, hml, hown, hts⟩ (l_hasNext l D de it_2 (ad 42) de 0 H.size) (va_cwF 0 hts gX17_paper_Jx35411_hasNext_aae02_f175Jx35411 rfl rfl rfl (hTK.2.2.2.2.2.1 (RJx35411, ⟨"java/util/Iterator", "hasNext", "()Z"⟩, yJx35411_hasNext_aae02) (by decide +kernel)) (by decide +kernel) ⟨Nat.le_of_ble_eq_true rfl, Nat.le_of_ble_eq_true rfl⟩) ⟨px_blind, (va_recv hK hP (ci := 3) (q0 := 4) rfl rfl), (px_pre hP hD hK hS hA hTK hZ [4, 5] rfl rfl (by decide) [] rfl)⟩ rfl rfl hl.1 rfl (lv_room (Nat.le_of_ble_eq_true rfl)) dX17_paper_18 ⟨(Nat.le_of_ble_eq_true rfl), (Nat.le_of_ble_eq_true rfl)⟩) (fun r_3 u H locs hw hP hD hK1 hS => ?_)
  have hP : va_P D vwCl ([(ad 40, .inr (22, [.int 0, .int 0, .int 0, .int 0, .ref (ad 41), .ref (ad 42), .ref (ad 43), .ref (ad 44), .int 500, .int 700, .int 10, .int 200, .ref (ad 45)])), (ad 41, .inr (4, [.int 0, .ref de, .int 0])), (ad 43, .inr (4, [.int 0, .ref de, .int 0])), (ad 44, .inr (4, [.int 0, .ref de, .int 0])), (it_2, .inr (3, [.int 0, .int (-1), .int 0, .ref (ad 42)])), (ad 42, .inr (4, [.int 0, .ref de, .int 0]))]) H := hP
  have hD : va_D A ([(ad 40, .inr (22, [.int 0, .int 0, .int 0, .int 0, .ref (ad 41), .ref (ad 42), .ref (ad 43), .ref (ad 44), .int 500, .int 700, .int 10, .int 200, .ref (ad 45)])), (ad 41, .inr (4, [.int 0, .ref de, .int 0])), (ad 43, .inr (4, [.int 0, .ref de, .int 0])), (ad 44, .inr (4, [.int 0, .ref de, .int 0])), (it_2, .inr (3, [.int 0, .int (-1), .int 0, .ref (ad 42)])), (ad 42, .inr (4, [.int 0, .ref de, .int 0]))]) := hD
  obtain rfl : r_3 = 0 := hw
  refine W.widen (k := 1) (n := 4) (Nat.le_of_ble_eq_true rfl) (Nat.le_of_ble_eq_true rfl) ?_
  refine lv_if_eq (tgt := 56) hx hb dX17_paper_23 (by decide) (fun _ => ?_) (fun h_ => absurd (by decide) h_)
  refine lv_lload_n hx hb dX17_paper_56 rfl (lv_at hl 1 rfl) ?_
  refine W.widen (k := 1) (n := 4) (Nat.le_of_ble_eq_true rfl) (Nat.le_of_ble_eq_true rfl) ?_
  have hP9 := hP.sub (ws' := ([(ad 40, .inr (22, [.int 0, .int 0, .int 0, .int 0, .ref (ad 41), .ref (ad 42), .ref (ad 43), .ref (ad 44), .int 500, .int 700, .int 10, .int 200, .ref (ad 45)]))])) [0] rfl
  have hD9 := hD.sub (ws' := ([(ad 40, .inr (22, [.int 0, .int 0, .int 0, .int 0, .ref (ad 41), .ref (ad 42), .ref (ad 43), .ref (ad 44), .int 500, .int 700, .int 10, .int 200, .ref (ad 45)]))])) [0] (by decide) rfl
  have hK9 := hK.sub (tys' := []) [] rfl
  exact W.lret (v := 0) hx hb hr (fun t ht hW => ⟨⟨0, (0, [.int 0, .int 0, .int 0, .ref (ad 41), .ref (ad 42), .ref (ad 43), .ref (ad 44), .int 500, .int 700, .int 10, .int 200, .ref (ad 45)]), rfl, (by first | exact ⟨rfl, rfl⟩ | exact ⟨rfl, rfl, by assumption⟩ | exact Or.inl ⟨rfl, rfl, by assumption⟩ | exact Or.inr ⟨rfl, rfl, by assumption⟩ | exact Or.inl ⟨rfl, rfl, Or.inl (by assumption)⟩ | exact Or.inl ⟨rfl, rfl, Or.inr (by assumption)⟩ | exact Or.inr ⟨rfl, rfl, by assumption, by assumption⟩), ⟨by rw [ht]; exact hP9, va_K.moved hW.alike hK9, hD9⟩⟩, hS.F ht⟩) hS.2.2 dX17_paper_57 hlocks

set_option maxHeartbeats 4000000 in
set_option maxRecDepth 100000 in
theorem m_sheets (l : Launch) (D : va_G) (de : Nat) (ad : Nat → Nat) (c0 : Int32) (sz : Nat) : Met l yX17_sheets wsX17_sheets ({ frames := 5, cells := 3, slots := 6, locals := 103 } : Room) (va_Pc [.ref (ad 40)] (PX de D ([]) (wM ad de c0) sz)) (va_Qi (fun (r : Int32) (u : Int32 × List Value) => (u.1 = 0 ∧ r = 0)) (fun u t => PW D ([]) (va_A (wM ad de c0) sz) ([(ad 40, .inr (22, .int u.1 :: u.2))]) t) (va_A (wM ad de c0) sz)) 3 6 (va_A (wM ad de c0) sz) := by
  refine Met.ofW (cc := cX17_sheets) (maxL := 7) (ret := (some .int)) (by decide) rfl ?_
  intro p e s m args below meth c s₁ B hml hv
  obtain ⟨rfl, hsz, hP, hK, hD0, hTK, hZ⟩ := hv
  have hx := B.exec
  have hb := B.bytes
  have hr := B.returns
  have hts := atoms_spec (ws := wsX17_sheets) B.pre
  have hown : s.vm.findClass RX17 = some m.cls := findClass_of_methodNamed B.named
  have hlocks := B.notSynchronized
  have hin_RX17 : ∀ w ∈ u_ws RX17 TX17 13, w ∈ wsX17_sheets := by decide +kernel
  subst hsz
  have hD := hD0.self (sz := s.heap.size)
  generalize hAe : va_A (wM ad de c0) s.heap.size = A at hD hZ ⊢
  have hA : ∀ q : Nat, s.heap.size ≤ q → A q := fun q h => by rw [← hAe]; exact Or.inr h
  have hS : va_S A s.heap s.heap [] := va_S.rf
  have hP : va_P D vwCl (wM ad de c0) s.heap := hP
  have hD : va_D A (wM ad de c0) := hD
  have hl := lv_entry ([.ref (ad 40)]) (n := 7) (Nat.le_of_ble_eq_true rfl)
  rw [lg_entry_eq]
  generalize (lg_sl ([.ref (ad 40)]) ++ List.replicate (7 - (lg_sl ([.ref (ad 40)])).length) Slot.unset).toArray = ls at hl ⊢
  have hl : lv_has ls 7 [(0, .ref (ad 40))] := hl
  refine lv_aload_n hx hb dX17_sheets_0 rfl (lv_at hl 0 rfl) ?_
  refine lv_iconst (v := 0) hx hb dX17_sheets_1 (by decide) ?_
  refine va_put (D := D) (ci := 22) (v := .int 0) (ty := .int) (C := RX17) (T := TX17) (N := 13) hx hb hts hin_RX17 tyX17 tyX17_ok nmX17 hown hK hP hD hS 0 rfl rfl 0 (by decide) (hts (.fieldLink RX17 41 "PopupwrightModel" "code" "I") (by decide +kernel)) (fun _ h9 => h9) rfl (by decide +kernel) rfl rfl (Nat.le_of_ble_eq_true rfl) dX17_sheets_2 (fun H locs hP hD hS => ?_)
  have hP : va_P D vwCl (wM ad de 0) H := hP
  have hD : va_D A (wM ad de 0) := hD
  refine lv_aload_n hx hb dX17_sheets_5 rfl (lv_at hl 0 rfl) ?_
  refine kx_q (wc := wM ad de 0) (wr := []) hP hD hS hA [0, 1, 2, 3, 4] [] rfl rfl (by decide) (by decide) (va_runV (As := []) (rest := []) ⟨hx, hb, hml, hown, hts⟩ (c_laid l D de ad 0 H.size) (cwV 0 hts gX17_sheets_X17_laid rfl rfl rfl (by decide +kernel) ⟨Nat.le_of_ble_eq_true rfl, Nat.le_of_ble_eq_true rfl⟩) ⟨px_blind, (va_recv hK hP (ci := 22) (q0 := 0) rfl rfl), (px_pre hP hD hK hS hA hTK hZ [0, 1, 2, 3, 4] rfl rfl (by decide) [] rfl)⟩ rfl rfl hl.1 rfl (lv_room (Nat.le_of_ble_eq_true rfl)) dX17_sheets_6 ⟨(Nat.le_of_ble_eq_true rfl), (Nat.le_of_ble_eq_true rfl)⟩) (fun r_1 u H locs hw hP hD hK1 hS => ?_)
  obtain ⟨qa_2, ca_3⟩ := u
  have hK := hK.app hK1
  have hK : va_K D vwCl [(ca_3, .array .int)] s := hK
  have hP : va_P D vwCl ([(ad 40, .inr (22, [.int 0, .int 0, .int 0, .int 0, .ref (ad 41), .ref (ad 42), .ref (ad 43), .ref (ad 44), .int 500, .int 700, .int 10, .int 200, .ref (ad 45)])), (ad 41, .inr (4, [.int 0, .ref de, .int 0])), (ad 42, .inr (4, [.int 0, .ref de, .int 0])), (ad 43, .inr (4, [.int 0, .ref de, .int 0])), (ad 44, .inr (4, [.int 0, .ref de, .int 0])), (qa_2, .inl (ca_3, 0, .inr (.inr (.inr (.inr (fun _ => none))))))]) H := hP
  have hD : va_D A ([(ad 40, .inr (22, [.int 0, .int 0, .int 0, .int 0, .ref (ad 41), .ref (ad 42), .ref (ad 43), .ref (ad 44), .int 500, .int 700, .int 10, .int 200, .ref (ad 45)])), (ad 41, .inr (4, [.int 0, .ref de, .int 0])), (ad 42, .inr (4, [.int 0, .ref de, .int 0])), (ad 43, .inr (4, [.int 0, .ref de, .int 0])), (ad 44, .inr (4, [.int 0, .ref de, .int 0])), (qa_2, .inl (ca_3, 0, .inr (.inr (.inr (.inr (fun _ => none))))))]) := hD
  obtain rfl : r_1 = some qa_2 := hw
  refine W.widen (k := 3) (n := 6) (Nat.le_of_ble_eq_true rfl) (Nat.le_of_ble_eq_true rfl) ?_
  refine lv_astore_n (lv' := [(1, .ref qa_2), (0, .ref (ad 40))]) hx hb dX17_sheets_9 rfl hl (by decide) rfl (fun ls hl => ?_)
  refine lv_aload_n hx hb dX17_sheets_10 rfl (lv_at hl 0 rfl) ?_
  refine lv_ifnonnull (tgt := 20) hx hb dX17_sheets_11 (by decide) ?_
  refine lv_iconst (v := 0) hx hb dX17_sheets_20 (by decide) ?_
  refine lv_istore_n (lv' := [(2, .int 0), (1, .ref qa_2), (0, .ref (ad 40))]) hx hb dX17_sheets_21 rfl hl (by decide) rfl (fun ls hl => ?_)
  refine lv_aload_n hx hb dX17_sheets_22 rfl (lv_at hl 1 rfl) ?_
  refine lv_astore_n (lv' := [(3, .ref qa_2), (2, .int 0), (1, .ref qa_2), (0, .ref (ad 40))]) hx hb dX17_sheets_23 rfl hl (by decide) rfl (fun ls hl => ?_)
  refine lv_aload_n hx hb dX17_sheets_24 rfl (lv_at hl 0 rfl) ?_
  refine va_alen hx hb hK hP 5 0 rfl rfl (v := 0) (show Int32.ofNat 0 = 0 by decide) dX17_sheets_25 ?_
  refine lv_istore (lv' := [(4, .int 0), (3, .ref qa_2), (2, .int 0), (1, .ref qa_2), (0, .ref (ad 40))]) hx hb dX17_sheets_26 hl (by decide) rfl (fun ls hl => ?_)
  refine lv_iconst (v := 0) hx hb dX17_sheets_28 (by decide) ?_
  refine lv_istore (lv' := [(5, .int 0), (4, .int 0), (3, .ref qa_2), (2, .int 0), (1, .ref qa_2), (0, .ref (ad 40))]) hx hb dX17_sheets_29 hl (by decide) rfl (fun ls hl => ?_)
  refine lv_iload hx hb dX17_sheets_31 (lv_at hl 0 rfl) ?_
  refine lv_iload hx hb dX17_sheets_33 (lv_at hl 1 rfl) ?_
  refine lv_icmp_ge (tgt := 61) hx hb dX17_sheets_35 (by decide) (fun _ => ?_) (fun h_ => absurd (by decide) h_)
  refine lv_iload_n hx hb dX17_sheets_61 rfl (lv_at hl 3 rfl) ?_
  refine W.widen (k := 3) (n := 6) (Nat.le_of_ble_eq_true rfl) (Nat.le_of_ble_eq_true rfl) ?_
  have hP9 := hP.sub (ws' := ([(ad 40, .inr (22, [.int 0, .int 0, .int 0, .int 0, .ref (ad 41), .ref (ad 42), .ref (ad 43), .ref (ad 44), .int 500, .int 700, .int 10, .int 200, .ref (ad 45)]))])) [0] rfl
  have hD9 := hD.sub (ws' := ([(ad 40, .inr (22, [.int 0, .int 0, .int 0, .int 0, .ref (ad 41), .ref (ad 42), .ref (ad 43), .ref (ad 44), .int 500, .int 700, .int 10, .int 200, .ref (ad 45)]))])) [0] (by decide) rfl
  have hK9 := hK.sub (tys' := []) [] rfl
  exact W.iret (v := 0) hx hb hr (fun t ht hW => ⟨⟨0, (0, [.int 0, .int 0, .int 0, .ref (ad 41), .ref (ad 42), .ref (ad 43), .ref (ad 44), .int 500, .int 700, .int 10, .int 200, .ref (ad 45)]), rfl, (by first | exact ⟨rfl, rfl⟩ | exact ⟨rfl, rfl, by assumption⟩ | exact Or.inl ⟨rfl, rfl, by assumption⟩ | exact Or.inr ⟨rfl, rfl, by assumption⟩ | exact Or.inl ⟨rfl, rfl, Or.inl (by assumption)⟩ | exact Or.inl ⟨rfl, rfl, Or.inr (by assumption)⟩ | exact Or.inr ⟨rfl, rfl, by assumption, by assumption⟩), ⟨by rw [ht]; exact hP9, va_K.moved hW.alike hK9, hD9⟩⟩, hS.F ht⟩) hS.2.2 dX17_sheets_62 hlocks

set_option maxHeartbeats 4000000 in
set_option maxRecDepth 100000 in
theorem m_setSheet (l : Launch) (D : va_G) (de : Nat) (ad : Nat → Nat) (c0 : Int32) (p0 p1 : Int32) (sz : Nat) : Met l yX17_setSheet wsX17_setSheet ({ frames := 1, cells := 0, slots := 0, locals := 22 } : Room) (va_Pc [.ref (ad 40), .int p0, .int p1] (PX de D ([]) (wM ad de c0) sz)) (va_Qi (fun (r : Int32) (u : Int32 × List Value) => (u.1 = 1 ∧ r = 0 ∧ (inR p0 20 2000 = 0 ∨ inR p1 20 2000 = 0)) ∨ (u.1 = 0 ∧ r = 700 ∧ (¬ inR p0 20 2000 = 0 ∧ ¬ inR p1 20 2000 = 0))) (fun u t => PW D ([]) (va_A (wM ad de c0) sz) ([(ad 40, .inr (22, .int u.1 :: u.2))]) t) (va_A (wM ad de c0) sz)) 0 0 (va_A (wM ad de c0) sz) := by
  refine Met.ofW (cc := cX17_setSheet) (maxL := 4) (ret := (some .int)) (by decide) rfl ?_
  intro p e s m args below meth c s₁ B hml hv
  obtain ⟨rfl, hsz, hP, hK, hD0, hTK, hZ⟩ := hv
  have hx := B.exec
  have hb := B.bytes
  have hr := B.returns
  have hts := atoms_spec (ws := wsX17_setSheet) B.pre
  have hown : s.vm.findClass RX17 = some m.cls := findClass_of_methodNamed B.named
  have hlocks := B.notSynchronized
  have hin_RX17 : ∀ w ∈ u_ws RX17 TX17 13, w ∈ wsX17_setSheet := by decide +kernel
  subst hsz
  have hD := hD0.self (sz := s.heap.size)
  generalize hAe : va_A (wM ad de c0) s.heap.size = A at hD hZ ⊢
  have hA : ∀ q : Nat, s.heap.size ≤ q → A q := fun q h => by rw [← hAe]; exact Or.inr h
  have hS : va_S A s.heap s.heap [] := va_S.rf
  have hP : va_P D vwCl (wM ad de c0) s.heap := hP
  have hD : va_D A (wM ad de c0) := hD
  have hl := lv_entry ([.ref (ad 40), .int p0, .int p1]) (n := 4) (Nat.le_of_ble_eq_true rfl)
  rw [lg_entry_eq]
  generalize (lg_sl ([.ref (ad 40), .int p0, .int p1]) ++ List.replicate (4 - (lg_sl ([.ref (ad 40), .int p0, .int p1])).length) Slot.unset).toArray = ls at hl ⊢
  have hl : lv_has ls 4 [(0, .ref (ad 40)), (1, .int p0), (2, .int p1)] := hl
  refine lv_aload_n hx hb dX17_setSheet_0 rfl (lv_at hl 0 rfl) ?_
  refine lv_iconst (v := 0) hx hb dX17_setSheet_1 (by decide) ?_
  refine va_put (D := D) (ci := 22) (v := .int 0) (ty := .int) (C := RX17) (T := TX17) (N := 13) hx hb hts hin_RX17 tyX17 tyX17_ok nmX17 hown hK hP hD hS 0 rfl rfl 0 (by decide) (hts (.fieldLink RX17 41 "PopupwrightModel" "code" "I") (by decide +kernel)) (fun _ h9 => h9) rfl (by decide +kernel) rfl rfl (Nat.le_of_ble_eq_true rfl) dX17_setSheet_2 (fun H locs hP hD hS => ?_)
  have hP : va_P D vwCl (wM ad de 0) H := hP
  have hD : va_D A (wM ad de 0) := hD
  refine lv_iload_n hx hb dX17_setSheet_5 rfl (lv_at hl 1 rfl) ?_
  refine lv_bipush (v := 20) hx hb dX17_setSheet_6 (by decide) ?_
  refine lv_sipush (v := 2000) hx hb dX17_setSheet_8 (by decide) ?_
  refine kx_i (wc := []) (wr := wM ad de 0) hP hD hS hA [] [0, 1, 2, 3, 4] rfl rfl (by decide) (by decide) (va_runS (As := [.int p0, .int 20, .int 2000]) (rest := []) ⟨hx, hb, hml, hown, hts⟩ (c_in l D de p0 20 2000 H.size) (va_cwS 3 hts gX17_setSheet_X17_in rfl rfl rfl (by decide +kernel) ⟨Nat.le_of_ble_eq_true rfl, Nat.le_of_ble_eq_true rfl⟩) ⟨px_blind, (px_pre hP hD hK hS hA hTK hZ [] rfl rfl (by decide) [] rfl)⟩ rfl rfl hl.1 rfl (lv_room (Nat.le_of_ble_eq_true rfl)) dX17_setSheet_11 ⟨(Nat.le_of_ble_eq_true rfl), (Nat.le_of_ble_eq_true rfl)⟩) (fun r_1 u H locs hw hP hD hK1 hS => ?_)
  have hP : va_P D vwCl (wM ad de 0) H := hP
  have hD : va_D A (wM ad de 0) := hD
  obtain rfl : r_1 = inR p0 20 2000 := hw
  refine lv_if_eq (tgt := 29) hx hb dX17_setSheet_14 (by decide) (fun c_14 => ?_) (fun c_14 => ?_)
  · refine lv_aload_n hx hb dX17_setSheet_29 rfl (lv_at hl 0 rfl) ?_
    refine lv_iconst (v := 1) hx hb dX17_setSheet_30 (by decide) ?_
    refine kx_i (wc := wM ad de 0) (wr := []) hP hD hS hA [0, 1, 2, 3, 4] [] rfl rfl (by decide) (by decide) (va_runV (As := [.int 1]) (rest := []) ⟨hx, hb, hml, hown, hts⟩ (c_fails l D de ad 0 1 H.size) (cwV 1 hts gX17_setSheet_X17_fails rfl rfl rfl (by decide +kernel) ⟨Nat.le_of_ble_eq_true rfl, Nat.le_of_ble_eq_true rfl⟩) ⟨px_blind, (va_recv hK hP (ci := 22) (q0 := 0) rfl rfl), (px_pre hP hD hK hS hA hTK hZ [0, 1, 2, 3, 4] rfl rfl (by decide) [] rfl)⟩ rfl rfl hl.1 rfl (lv_room (Nat.le_of_ble_eq_true rfl)) dX17_setSheet_31 ⟨(Nat.le_of_ble_eq_true rfl), (Nat.le_of_ble_eq_true rfl)⟩) (fun r_2 u H locs hw hP hD hK1 hS => ?_)
    have hP : va_P D vwCl (wM ad de 1) H := hP
    have hD : va_D A (wM ad de 1) := hD
    obtain rfl : r_2 = 0 := hw
    refine W.widen (k := 0) (n := 0) (Nat.le_of_ble_eq_true rfl) (Nat.le_of_ble_eq_true rfl) ?_
    have hP9 := hP.sub (ws' := ([(ad 40, .inr (22, [.int 1, .int 0, .int 0, .int 0, .ref (ad 41), .ref (ad 42), .ref (ad 43), .ref (ad 44), .int 500, .int 700, .int 10, .int 200, .ref (ad 45)]))])) [0] rfl
    have hD9 := hD.sub (ws' := ([(ad 40, .inr (22, [.int 1, .int 0, .int 0, .int 0, .ref (ad 41), .ref (ad 42), .ref (ad 43), .ref (ad 44), .int 500, .int 700, .int 10, .int 200, .ref (ad 45)]))])) [0] (by decide) rfl
    have hK9 := hK.sub (tys' := []) [] rfl
    exact W.iret (v := 0) hx hb hr (fun t ht hW => ⟨⟨0, (1, [.int 0, .int 0, .int 0, .ref (ad 41), .ref (ad 42), .ref (ad 43), .ref (ad 44), .int 500, .int 700, .int 10, .int 200, .ref (ad 45)]), rfl, (by first | exact ⟨rfl, rfl⟩ | exact ⟨rfl, rfl, by assumption⟩ | exact Or.inl ⟨rfl, rfl, by assumption⟩ | exact Or.inr ⟨rfl, rfl, by assumption⟩ | exact Or.inl ⟨rfl, rfl, Or.inl (by assumption)⟩ | exact Or.inl ⟨rfl, rfl, Or.inr (by assumption)⟩ | exact Or.inr ⟨rfl, rfl, by assumption, by assumption⟩), ⟨by rw [ht]; exact hP9, va_K.moved hW.alike hK9, hD9⟩⟩, hS.F ht⟩) hS.2.2 dX17_setSheet_34 hlocks
  · refine lv_iload_n hx hb dX17_setSheet_17 rfl (lv_at hl 2 rfl) ?_
    refine lv_bipush (v := 20) hx hb dX17_setSheet_18 (by decide) ?_
    refine lv_sipush (v := 2000) hx hb dX17_setSheet_20 (by decide) ?_
    refine kx_i (wc := []) (wr := wM ad de 0) hP hD hS hA [] [0, 1, 2, 3, 4] rfl rfl (by decide) (by decide) (va_runS (As := [.int p1, .int 20, .int 2000]) (rest := []) ⟨hx, hb, hml, hown, hts⟩ (c_in l D de p1 20 2000 H.size) (va_cwS 3 hts gX17_setSheet_X17_in rfl rfl rfl (by decide +kernel) ⟨Nat.le_of_ble_eq_true rfl, Nat.le_of_ble_eq_true rfl⟩) ⟨px_blind, (px_pre hP hD hK hS hA hTK hZ [] rfl rfl (by decide) [] rfl)⟩ rfl rfl hl.1 rfl (lv_room (Nat.le_of_ble_eq_true rfl)) dX17_setSheet_23 ⟨(Nat.le_of_ble_eq_true rfl), (Nat.le_of_ble_eq_true rfl)⟩) (fun r_3 u H locs hw hP hD hK1 hS => ?_)
    have hP : va_P D vwCl (wM ad de 0) H := hP
    have hD : va_D A (wM ad de 0) := hD
    obtain rfl : r_3 = inR p1 20 2000 := hw
    refine lv_if_ne (tgt := 35) hx hb dX17_setSheet_26 (by decide) (fun c_26 => ?_) (fun c_26 => ?_)
    · refine lv_aload_n hx hb dX17_setSheet_35 rfl (lv_at hl 0 rfl) ?_
      refine va_get (D := D) (ci := 22) (v := .int 700) (C := RX17) (T := TX17) (N := 13) hx hb hts hin_RX17 hown hK hP 0 rfl rfl 9 (by decide) (hts (.fieldLink RX17 29 "PopupwrightModel" "sheetLength" "I") (by decide +kernel)) (fun _ h9 => h9) rfl dX17_setSheet_36 ?_
      refine lv_istore_n (lv' := [(3, .int 700), (0, .ref (ad 40)), (1, .int p0), (2, .int p1)]) hx hb dX17_setSheet_39 rfl hl (by decide) rfl (fun ls hl => ?_)
      refine lv_aload_n hx hb dX17_setSheet_40 rfl (lv_at hl 1 rfl) ?_
      refine lv_iload_n hx hb dX17_setSheet_41 rfl (lv_at hl 2 rfl) ?_
      refine va_put (D := D) (ci := 22) (v := .int p0) (ty := .int) (C := RX17) (T := TX17) (N := 13) hx hb hts hin_RX17 tyX17 tyX17_ok nmX17 hown hK hP hD hS 0 rfl rfl 8 (by decide) (hts (.fieldLink RX17 25 "PopupwrightModel" "sheetWidth" "I") (by decide +kernel)) (fun _ h9 => h9) rfl (by decide +kernel) rfl rfl (Nat.le_of_ble_eq_true rfl) dX17_setSheet_42 (fun H locs hP hD hS => ?_)
      have hP : va_P D vwCl ([(ad 40, .inr (22, [.int 0, .int 0, .int 0, .int 0, .ref (ad 41), .ref (ad 42), .ref (ad 43), .ref (ad 44), .int p0, .int 700, .int 10, .int 200, .ref (ad 45)])), (ad 41, .inr (4, [.int 0, .ref de, .int 0])), (ad 42, .inr (4, [.int 0, .ref de, .int 0])), (ad 43, .inr (4, [.int 0, .ref de, .int 0])), (ad 44, .inr (4, [.int 0, .ref de, .int 0]))]) H := hP
      have hD : va_D A ([(ad 40, .inr (22, [.int 0, .int 0, .int 0, .int 0, .ref (ad 41), .ref (ad 42), .ref (ad 43), .ref (ad 44), .int p0, .int 700, .int 10, .int 200, .ref (ad 45)])), (ad 41, .inr (4, [.int 0, .ref de, .int 0])), (ad 42, .inr (4, [.int 0, .ref de, .int 0])), (ad 43, .inr (4, [.int 0, .ref de, .int 0])), (ad 44, .inr (4, [.int 0, .ref de, .int 0]))]) := hD
      refine lv_aload_n hx hb dX17_setSheet_45 rfl (lv_at hl 1 rfl) ?_
      refine lv_iload_n hx hb dX17_setSheet_46 rfl (lv_at hl 3 rfl) ?_
      refine va_put (D := D) (ci := 22) (v := .int p1) (ty := .int) (C := RX17) (T := TX17) (N := 13) hx hb hts hin_RX17 tyX17 tyX17_ok nmX17 hown hK hP hD hS 0 rfl rfl 9 (by decide) (hts (.fieldLink RX17 29 "PopupwrightModel" "sheetLength" "I") (by decide +kernel)) (fun _ h9 => h9) rfl (by decide +kernel) rfl rfl (Nat.le_of_ble_eq_true rfl) dX17_setSheet_47 (fun H locs hP hD hS => ?_)
      have hP : va_P D vwCl ([(ad 40, .inr (22, [.int 0, .int 0, .int 0, .int 0, .ref (ad 41), .ref (ad 42), .ref (ad 43), .ref (ad 44), .int p0, .int p1, .int 10, .int 200, .ref (ad 45)])), (ad 41, .inr (4, [.int 0, .ref de, .int 0])), (ad 42, .inr (4, [.int 0, .ref de, .int 0])), (ad 43, .inr (4, [.int 0, .ref de, .int 0])), (ad 44, .inr (4, [.int 0, .ref de, .int 0]))]) H := hP
      have hD : va_D A ([(ad 40, .inr (22, [.int 0, .int 0, .int 0, .int 0, .ref (ad 41), .ref (ad 42), .ref (ad 43), .ref (ad 44), .int p0, .int p1, .int 10, .int 200, .ref (ad 45)])), (ad 41, .inr (4, [.int 0, .ref de, .int 0])), (ad 42, .inr (4, [.int 0, .ref de, .int 0])), (ad 43, .inr (4, [.int 0, .ref de, .int 0])), (ad 44, .inr (4, [.int 0, .ref de, .int 0]))]) := hD
      refine lv_iload_n hx hb dX17_setSheet_50 rfl (lv_at hl 0 rfl) ?_
      refine W.widen (k := 0) (n := 0) (Nat.le_of_ble_eq_true rfl) (Nat.le_of_ble_eq_true rfl) ?_
      have hP9 := hP.sub (ws' := ([(ad 40, .inr (22, [.int 0, .int 0, .int 0, .int 0, .ref (ad 41), .ref (ad 42), .ref (ad 43), .ref (ad 44), .int p0, .int p1, .int 10, .int 200, .ref (ad 45)]))])) [0] rfl
      have hD9 := hD.sub (ws' := ([(ad 40, .inr (22, [.int 0, .int 0, .int 0, .int 0, .ref (ad 41), .ref (ad 42), .ref (ad 43), .ref (ad 44), .int p0, .int p1, .int 10, .int 200, .ref (ad 45)]))])) [0] (by decide) rfl
      have hK9 := hK.sub (tys' := []) [] rfl
      exact W.iret (v := 700) hx hb hr (fun t ht hW => ⟨⟨700, (0, [.int 0, .int 0, .int 0, .ref (ad 41), .ref (ad 42), .ref (ad 43), .ref (ad 44), .int p0, .int p1, .int 10, .int 200, .ref (ad 45)]), rfl, (by first | exact ⟨rfl, rfl⟩ | exact ⟨rfl, rfl, by assumption⟩ | exact Or.inl ⟨rfl, rfl, by assumption⟩ | exact Or.inr ⟨rfl, rfl, by assumption⟩ | exact Or.inl ⟨rfl, rfl, Or.inl (by assumption)⟩ | exact Or.inl ⟨rfl, rfl, Or.inr (by assumption)⟩ | exact Or.inr ⟨rfl, rfl, by assumption, by assumption⟩), ⟨by rw [ht]; exact hP9, va_K.moved hW.alike hK9, hD9⟩⟩, hS.F ht⟩) hS.2.2 dX17_setSheet_51 hlocks
    · refine lv_aload_n hx hb dX17_setSheet_29 rfl (lv_at hl 0 rfl) ?_
      refine lv_iconst (v := 1) hx hb dX17_setSheet_30 (by decide) ?_
      refine kx_i (wc := wM ad de 0) (wr := []) hP hD hS hA [0, 1, 2, 3, 4] [] rfl rfl (by decide) (by decide) (va_runV (As := [.int 1]) (rest := []) ⟨hx, hb, hml, hown, hts⟩ (c_fails l D de ad 0 1 H.size) (cwV 1 hts gX17_setSheet_X17_fails rfl rfl rfl (by decide +kernel) ⟨Nat.le_of_ble_eq_true rfl, Nat.le_of_ble_eq_true rfl⟩) ⟨px_blind, (va_recv hK hP (ci := 22) (q0 := 0) rfl rfl), (px_pre hP hD hK hS hA hTK hZ [0, 1, 2, 3, 4] rfl rfl (by decide) [] rfl)⟩ rfl rfl hl.1 rfl (lv_room (Nat.le_of_ble_eq_true rfl)) dX17_setSheet_31 ⟨(Nat.le_of_ble_eq_true rfl), (Nat.le_of_ble_eq_true rfl)⟩) (fun r_4 u H locs hw hP hD hK1 hS => ?_)
      have hP : va_P D vwCl (wM ad de 1) H := hP
      have hD : va_D A (wM ad de 1) := hD
      obtain rfl : r_4 = 0 := hw
      refine W.widen (k := 0) (n := 0) (Nat.le_of_ble_eq_true rfl) (Nat.le_of_ble_eq_true rfl) ?_
      have hP9 := hP.sub (ws' := ([(ad 40, .inr (22, [.int 1, .int 0, .int 0, .int 0, .ref (ad 41), .ref (ad 42), .ref (ad 43), .ref (ad 44), .int 500, .int 700, .int 10, .int 200, .ref (ad 45)]))])) [0] rfl
      have hD9 := hD.sub (ws' := ([(ad 40, .inr (22, [.int 1, .int 0, .int 0, .int 0, .ref (ad 41), .ref (ad 42), .ref (ad 43), .ref (ad 44), .int 500, .int 700, .int 10, .int 200, .ref (ad 45)]))])) [0] (by decide) rfl
      have hK9 := hK.sub (tys' := []) [] rfl
      exact W.iret (v := 0) hx hb hr (fun t ht hW => ⟨⟨0, (1, [.int 0, .int 0, .int 0, .ref (ad 41), .ref (ad 42), .ref (ad 43), .ref (ad 44), .int 500, .int 700, .int 10, .int 200, .ref (ad 45)]), rfl, (by first | exact ⟨rfl, rfl⟩ | exact ⟨rfl, rfl, by assumption⟩ | exact Or.inl ⟨rfl, rfl, by assumption⟩ | exact Or.inr ⟨rfl, rfl, by assumption⟩ | exact Or.inl ⟨rfl, rfl, Or.inl (by assumption)⟩ | exact Or.inl ⟨rfl, rfl, Or.inr (by assumption)⟩ | exact Or.inr ⟨rfl, rfl, by assumption, by assumption⟩), ⟨by rw [ht]; exact hP9, va_K.moved hW.alike hK9, hD9⟩⟩, hS.F ht⟩) hS.2.2 dX17_setSheet_34 hlocks

set_option maxHeartbeats 4000000 in
set_option maxRecDepth 100000 in
theorem m_setGlue (l : Launch) (D : va_G) (de : Nat) (ad : Nat → Nat) (c0 : Int32) (p0 : Int32) (sz : Nat) : Met l yX17_setGlue wsX17_setGlue ({ frames := 1, cells := 0, slots := 0, locals := 22 } : Room) (va_Pc [.ref (ad 40), .int p0] (PX de D ([]) (wM ad de c0) sz)) (va_Qi (fun (r : Int32) (u : Int32 × List Value) => (u.1 = 1 ∧ r = 0 ∧ inR p0 0 99 = 0) ∨ (u.1 = 0 ∧ r = 10 ∧ ¬ inR p0 0 99 = 0)) (fun u t => PW D ([]) (va_A (wM ad de c0) sz) ([(ad 40, .inr (22, .int u.1 :: u.2))]) t) (va_A (wM ad de c0) sz)) 0 0 (va_A (wM ad de c0) sz) := by
  refine Met.ofW (cc := cX17_setGlue) (maxL := 3) (ret := (some .int)) (by decide) rfl ?_
  intro p e s m args below meth c s₁ B hml hv
  obtain ⟨rfl, hsz, hP, hK, hD0, hTK, hZ⟩ := hv
  have hx := B.exec
  have hb := B.bytes
  have hr := B.returns
  have hts := atoms_spec (ws := wsX17_setGlue) B.pre
  have hown : s.vm.findClass RX17 = some m.cls := findClass_of_methodNamed B.named
  have hlocks := B.notSynchronized
  have hin_RX17 : ∀ w ∈ u_ws RX17 TX17 13, w ∈ wsX17_setGlue := by decide +kernel
  subst hsz
  have hD := hD0.self (sz := s.heap.size)
  generalize hAe : va_A (wM ad de c0) s.heap.size = A at hD hZ ⊢
  have hA : ∀ q : Nat, s.heap.size ≤ q → A q := fun q h => by rw [← hAe]; exact Or.inr h
  have hS : va_S A s.heap s.heap [] := va_S.rf
  have hP : va_P D vwCl (wM ad de c0) s.heap := hP
  have hD : va_D A (wM ad de c0) := hD
  have hl := lv_entry ([.ref (ad 40), .int p0]) (n := 3) (Nat.le_of_ble_eq_true rfl)
  rw [lg_entry_eq]
  generalize (lg_sl ([.ref (ad 40), .int p0]) ++ List.replicate (3 - (lg_sl ([.ref (ad 40), .int p0])).length) Slot.unset).toArray = ls at hl ⊢
  have hl : lv_has ls 3 [(0, .ref (ad 40)), (1, .int p0)] := hl
  refine lv_aload_n hx hb dX17_setGlue_0 rfl (lv_at hl 0 rfl) ?_
  refine lv_iconst (v := 0) hx hb dX17_setGlue_1 (by decide) ?_
  refine va_put (D := D) (ci := 22) (v := .int 0) (ty := .int) (C := RX17) (T := TX17) (N := 13) hx hb hts hin_RX17 tyX17 tyX17_ok nmX17 hown hK hP hD hS 0 rfl rfl 0 (by decide) (hts (.fieldLink RX17 41 "PopupwrightModel" "code" "I") (by decide +kernel)) (fun _ h9 => h9) rfl (by decide +kernel) rfl rfl (Nat.le_of_ble_eq_true rfl) dX17_setGlue_2 (fun H locs hP hD hS => ?_)
  have hP : va_P D vwCl (wM ad de 0) H := hP
  have hD : va_D A (wM ad de 0) := hD
  refine lv_iload_n hx hb dX17_setGlue_5 rfl (lv_at hl 1 rfl) ?_
  refine lv_iconst (v := 0) hx hb dX17_setGlue_6 (by decide) ?_
  refine lv_bipush (v := 99) hx hb dX17_setGlue_7 (by decide) ?_
  refine kx_i (wc := []) (wr := wM ad de 0) hP hD hS hA [] [0, 1, 2, 3, 4] rfl rfl (by decide) (by decide) (va_runS (As := [.int p0, .int 0, .int 99]) (rest := []) ⟨hx, hb, hml, hown, hts⟩ (c_in l D de p0 0 99 H.size) (va_cwS 3 hts gX17_setGlue_X17_in rfl rfl rfl (by decide +kernel) ⟨Nat.le_of_ble_eq_true rfl, Nat.le_of_ble_eq_true rfl⟩) ⟨px_blind, (px_pre hP hD hK hS hA hTK hZ [] rfl rfl (by decide) [] rfl)⟩ rfl rfl hl.1 rfl (lv_room (Nat.le_of_ble_eq_true rfl)) dX17_setGlue_9 ⟨(Nat.le_of_ble_eq_true rfl), (Nat.le_of_ble_eq_true rfl)⟩) (fun r_1 u H locs hw hP hD hK1 hS => ?_)
  have hP : va_P D vwCl (wM ad de 0) H := hP
  have hD : va_D A (wM ad de 0) := hD
  obtain rfl : r_1 = inR p0 0 99 := hw
  refine lv_if_ne (tgt := 21) hx hb dX17_setGlue_12 (by decide) (fun c_12 => ?_) (fun c_12 => ?_)
  · refine lv_aload_n hx hb dX17_setGlue_21 rfl (lv_at hl 0 rfl) ?_
    refine va_get (D := D) (ci := 22) (v := .int 10) (C := RX17) (T := TX17) (N := 13) hx hb hts hin_RX17 hown hK hP 0 rfl rfl 10 (by decide) (hts (.fieldLink RX17 32 "PopupwrightModel" "drying" "I") (by decide +kernel)) (fun _ h9 => h9) rfl dX17_setGlue_22 ?_
    refine lv_istore_n (lv' := [(2, .int 10), (0, .ref (ad 40)), (1, .int p0)]) hx hb dX17_setGlue_25 rfl hl (by decide) rfl (fun ls hl => ?_)
    refine lv_aload_n hx hb dX17_setGlue_26 rfl (lv_at hl 1 rfl) ?_
    refine lv_iload_n hx hb dX17_setGlue_27 rfl (lv_at hl 2 rfl) ?_
    refine va_put (D := D) (ci := 22) (v := .int p0) (ty := .int) (C := RX17) (T := TX17) (N := 13) hx hb hts hin_RX17 tyX17 tyX17_ok nmX17 hown hK hP hD hS 0 rfl rfl 10 (by decide) (hts (.fieldLink RX17 32 "PopupwrightModel" "drying" "I") (by decide +kernel)) (fun _ h9 => h9) rfl (by decide +kernel) rfl rfl (Nat.le_of_ble_eq_true rfl) dX17_setGlue_28 (fun H locs hP hD hS => ?_)
    have hP : va_P D vwCl ([(ad 40, .inr (22, [.int 0, .int 0, .int 0, .int 0, .ref (ad 41), .ref (ad 42), .ref (ad 43), .ref (ad 44), .int 500, .int 700, .int p0, .int 200, .ref (ad 45)])), (ad 41, .inr (4, [.int 0, .ref de, .int 0])), (ad 42, .inr (4, [.int 0, .ref de, .int 0])), (ad 43, .inr (4, [.int 0, .ref de, .int 0])), (ad 44, .inr (4, [.int 0, .ref de, .int 0]))]) H := hP
    have hD : va_D A ([(ad 40, .inr (22, [.int 0, .int 0, .int 0, .int 0, .ref (ad 41), .ref (ad 42), .ref (ad 43), .ref (ad 44), .int 500, .int 700, .int p0, .int 200, .ref (ad 45)])), (ad 41, .inr (4, [.int 0, .ref de, .int 0])), (ad 42, .inr (4, [.int 0, .ref de, .int 0])), (ad 43, .inr (4, [.int 0, .ref de, .int 0])), (ad 44, .inr (4, [.int 0, .ref de, .int 0]))]) := hD
    refine lv_iload_n hx hb dX17_setGlue_31 rfl (lv_at hl 0 rfl) ?_
    refine W.widen (k := 0) (n := 0) (Nat.le_of_ble_eq_true rfl) (Nat.le_of_ble_eq_true rfl) ?_
    have hP9 := hP.sub (ws' := ([(ad 40, .inr (22, [.int 0, .int 0, .int 0, .int 0, .ref (ad 41), .ref (ad 42), .ref (ad 43), .ref (ad 44), .int 500, .int 700, .int p0, .int 200, .ref (ad 45)]))])) [0] rfl
    have hD9 := hD.sub (ws' := ([(ad 40, .inr (22, [.int 0, .int 0, .int 0, .int 0, .ref (ad 41), .ref (ad 42), .ref (ad 43), .ref (ad 44), .int 500, .int 700, .int p0, .int 200, .ref (ad 45)]))])) [0] (by decide) rfl
    have hK9 := hK.sub (tys' := []) [] rfl
    exact W.iret (v := 10) hx hb hr (fun t ht hW => ⟨⟨10, (0, [.int 0, .int 0, .int 0, .ref (ad 41), .ref (ad 42), .ref (ad 43), .ref (ad 44), .int 500, .int 700, .int p0, .int 200, .ref (ad 45)]), rfl, (by first | exact ⟨rfl, rfl⟩ | exact ⟨rfl, rfl, by assumption⟩ | exact Or.inl ⟨rfl, rfl, by assumption⟩ | exact Or.inr ⟨rfl, rfl, by assumption⟩ | exact Or.inl ⟨rfl, rfl, Or.inl (by assumption)⟩ | exact Or.inl ⟨rfl, rfl, Or.inr (by assumption)⟩ | exact Or.inr ⟨rfl, rfl, by assumption, by assumption⟩), ⟨by rw [ht]; exact hP9, va_K.moved hW.alike hK9, hD9⟩⟩, hS.F ht⟩) hS.2.2 dX17_setGlue_32 hlocks
  · refine lv_aload_n hx hb dX17_setGlue_15 rfl (lv_at hl 0 rfl) ?_
    refine lv_iconst (v := 1) hx hb dX17_setGlue_16 (by decide) ?_
    refine kx_i (wc := wM ad de 0) (wr := []) hP hD hS hA [0, 1, 2, 3, 4] [] rfl rfl (by decide) (by decide) (va_runV (As := [.int 1]) (rest := []) ⟨hx, hb, hml, hown, hts⟩ (c_fails l D de ad 0 1 H.size) (cwV 1 hts gX17_setGlue_X17_fails rfl rfl rfl (by decide +kernel) ⟨Nat.le_of_ble_eq_true rfl, Nat.le_of_ble_eq_true rfl⟩) ⟨px_blind, (va_recv hK hP (ci := 22) (q0 := 0) rfl rfl), (px_pre hP hD hK hS hA hTK hZ [0, 1, 2, 3, 4] rfl rfl (by decide) [] rfl)⟩ rfl rfl hl.1 rfl (lv_room (Nat.le_of_ble_eq_true rfl)) dX17_setGlue_17 ⟨(Nat.le_of_ble_eq_true rfl), (Nat.le_of_ble_eq_true rfl)⟩) (fun r_2 u H locs hw hP hD hK1 hS => ?_)
    have hP : va_P D vwCl (wM ad de 1) H := hP
    have hD : va_D A (wM ad de 1) := hD
    obtain rfl : r_2 = 0 := hw
    refine W.widen (k := 0) (n := 0) (Nat.le_of_ble_eq_true rfl) (Nat.le_of_ble_eq_true rfl) ?_
    have hP9 := hP.sub (ws' := ([(ad 40, .inr (22, [.int 1, .int 0, .int 0, .int 0, .ref (ad 41), .ref (ad 42), .ref (ad 43), .ref (ad 44), .int 500, .int 700, .int 10, .int 200, .ref (ad 45)]))])) [0] rfl
    have hD9 := hD.sub (ws' := ([(ad 40, .inr (22, [.int 1, .int 0, .int 0, .int 0, .ref (ad 41), .ref (ad 42), .ref (ad 43), .ref (ad 44), .int 500, .int 700, .int 10, .int 200, .ref (ad 45)]))])) [0] (by decide) rfl
    have hK9 := hK.sub (tys' := []) [] rfl
    exact W.iret (v := 0) hx hb hr (fun t ht hW => ⟨⟨0, (1, [.int 0, .int 0, .int 0, .ref (ad 41), .ref (ad 42), .ref (ad 43), .ref (ad 44), .int 500, .int 700, .int 10, .int 200, .ref (ad 45)]), rfl, (by first | exact ⟨rfl, rfl⟩ | exact ⟨rfl, rfl, by assumption⟩ | exact Or.inl ⟨rfl, rfl, by assumption⟩ | exact Or.inr ⟨rfl, rfl, by assumption⟩ | exact Or.inl ⟨rfl, rfl, Or.inl (by assumption)⟩ | exact Or.inl ⟨rfl, rfl, Or.inr (by assumption)⟩ | exact Or.inr ⟨rfl, rfl, by assumption, by assumption⟩), ⟨by rw [ht]; exact hP9, va_K.moved hW.alike hK9, hD9⟩⟩, hS.F ht⟩) hS.2.2 dX17_setGlue_20 hlocks

set_option maxHeartbeats 4000000 in
set_option maxRecDepth 100000 in
theorem m_setPaper (l : Launch) (D : va_G) (de : Nat) (ad : Nat → Nat) (c0 : Int32) (p0 : Int32) (sz : Nat) : Met l yX17_setPaper wsX17_setPaper ({ frames := 1, cells := 0, slots := 0, locals := 22 } : Room) (va_Pc [.ref (ad 40), .int p0] (PX de D ([]) (wM ad de c0) sz)) (va_Qi (fun (r : Int32) (u : Int32 × List Value) => (u.1 = 1 ∧ r = 0 ∧ inR p0 100 400 = 0) ∨ (u.1 = 0 ∧ r = 200 ∧ ¬ inR p0 100 400 = 0)) (fun u t => PW D ([]) (va_A (wM ad de c0) sz) ([(ad 40, .inr (22, .int u.1 :: u.2))]) t) (va_A (wM ad de c0) sz)) 0 0 (va_A (wM ad de c0) sz) := by
  refine Met.ofW (cc := cX17_setPaper) (maxL := 3) (ret := (some .int)) (by decide) rfl ?_
  intro p e s m args below meth c s₁ B hml hv
  obtain ⟨rfl, hsz, hP, hK, hD0, hTK, hZ⟩ := hv
  have hx := B.exec
  have hb := B.bytes
  have hr := B.returns
  have hts := atoms_spec (ws := wsX17_setPaper) B.pre
  have hown : s.vm.findClass RX17 = some m.cls := findClass_of_methodNamed B.named
  have hlocks := B.notSynchronized
  have hin_RX17 : ∀ w ∈ u_ws RX17 TX17 13, w ∈ wsX17_setPaper := by decide +kernel
  subst hsz
  have hD := hD0.self (sz := s.heap.size)
  generalize hAe : va_A (wM ad de c0) s.heap.size = A at hD hZ ⊢
  have hA : ∀ q : Nat, s.heap.size ≤ q → A q := fun q h => by rw [← hAe]; exact Or.inr h
  have hS : va_S A s.heap s.heap [] := va_S.rf
  have hP : va_P D vwCl (wM ad de c0) s.heap := hP
  have hD : va_D A (wM ad de c0) := hD
  have hl := lv_entry ([.ref (ad 40), .int p0]) (n := 3) (Nat.le_of_ble_eq_true rfl)
  rw [lg_entry_eq]
  generalize (lg_sl ([.ref (ad 40), .int p0]) ++ List.replicate (3 - (lg_sl ([.ref (ad 40), .int p0])).length) Slot.unset).toArray = ls at hl ⊢
  have hl : lv_has ls 3 [(0, .ref (ad 40)), (1, .int p0)] := hl
  refine lv_aload_n hx hb dX17_setPaper_0 rfl (lv_at hl 0 rfl) ?_
  refine lv_iconst (v := 0) hx hb dX17_setPaper_1 (by decide) ?_
  refine va_put (D := D) (ci := 22) (v := .int 0) (ty := .int) (C := RX17) (T := TX17) (N := 13) hx hb hts hin_RX17 tyX17 tyX17_ok nmX17 hown hK hP hD hS 0 rfl rfl 0 (by decide) (hts (.fieldLink RX17 41 "PopupwrightModel" "code" "I") (by decide +kernel)) (fun _ h9 => h9) rfl (by decide +kernel) rfl rfl (Nat.le_of_ble_eq_true rfl) dX17_setPaper_2 (fun H locs hP hD hS => ?_)
  have hP : va_P D vwCl (wM ad de 0) H := hP
  have hD : va_D A (wM ad de 0) := hD
  refine lv_iload_n hx hb dX17_setPaper_5 rfl (lv_at hl 1 rfl) ?_
  refine lv_bipush (v := 100) hx hb dX17_setPaper_6 (by decide) ?_
  refine lv_sipush (v := 400) hx hb dX17_setPaper_8 (by decide) ?_
  refine kx_i (wc := []) (wr := wM ad de 0) hP hD hS hA [] [0, 1, 2, 3, 4] rfl rfl (by decide) (by decide) (va_runS (As := [.int p0, .int 100, .int 400]) (rest := []) ⟨hx, hb, hml, hown, hts⟩ (c_in l D de p0 100 400 H.size) (va_cwS 3 hts gX17_setPaper_X17_in rfl rfl rfl (by decide +kernel) ⟨Nat.le_of_ble_eq_true rfl, Nat.le_of_ble_eq_true rfl⟩) ⟨px_blind, (px_pre hP hD hK hS hA hTK hZ [] rfl rfl (by decide) [] rfl)⟩ rfl rfl hl.1 rfl (lv_room (Nat.le_of_ble_eq_true rfl)) dX17_setPaper_11 ⟨(Nat.le_of_ble_eq_true rfl), (Nat.le_of_ble_eq_true rfl)⟩) (fun r_1 u H locs hw hP hD hK1 hS => ?_)
  have hP : va_P D vwCl (wM ad de 0) H := hP
  have hD : va_D A (wM ad de 0) := hD
  obtain rfl : r_1 = inR p0 100 400 := hw
  refine lv_if_ne (tgt := 23) hx hb dX17_setPaper_14 (by decide) (fun c_14 => ?_) (fun c_14 => ?_)
  · refine lv_aload_n hx hb dX17_setPaper_23 rfl (lv_at hl 0 rfl) ?_
    refine va_get (D := D) (ci := 22) (v := .int 200) (C := RX17) (T := TX17) (N := 13) hx hb hts hin_RX17 hown hK hP 0 rfl rfl 11 (by decide) (hts (.fieldLink RX17 35 "PopupwrightModel" "weight" "I") (by decide +kernel)) (fun _ h9 => h9) rfl dX17_setPaper_24 ?_
    refine lv_istore_n (lv' := [(2, .int 200), (0, .ref (ad 40)), (1, .int p0)]) hx hb dX17_setPaper_27 rfl hl (by decide) rfl (fun ls hl => ?_)
    refine lv_aload_n hx hb dX17_setPaper_28 rfl (lv_at hl 1 rfl) ?_
    refine lv_iload_n hx hb dX17_setPaper_29 rfl (lv_at hl 2 rfl) ?_
    refine va_put (D := D) (ci := 22) (v := .int p0) (ty := .int) (C := RX17) (T := TX17) (N := 13) hx hb hts hin_RX17 tyX17 tyX17_ok nmX17 hown hK hP hD hS 0 rfl rfl 11 (by decide) (hts (.fieldLink RX17 35 "PopupwrightModel" "weight" "I") (by decide +kernel)) (fun _ h9 => h9) rfl (by decide +kernel) rfl rfl (Nat.le_of_ble_eq_true rfl) dX17_setPaper_30 (fun H locs hP hD hS => ?_)
    have hP : va_P D vwCl ([(ad 40, .inr (22, [.int 0, .int 0, .int 0, .int 0, .ref (ad 41), .ref (ad 42), .ref (ad 43), .ref (ad 44), .int 500, .int 700, .int 10, .int p0, .ref (ad 45)])), (ad 41, .inr (4, [.int 0, .ref de, .int 0])), (ad 42, .inr (4, [.int 0, .ref de, .int 0])), (ad 43, .inr (4, [.int 0, .ref de, .int 0])), (ad 44, .inr (4, [.int 0, .ref de, .int 0]))]) H := hP
    have hD : va_D A ([(ad 40, .inr (22, [.int 0, .int 0, .int 0, .int 0, .ref (ad 41), .ref (ad 42), .ref (ad 43), .ref (ad 44), .int 500, .int 700, .int 10, .int p0, .ref (ad 45)])), (ad 41, .inr (4, [.int 0, .ref de, .int 0])), (ad 42, .inr (4, [.int 0, .ref de, .int 0])), (ad 43, .inr (4, [.int 0, .ref de, .int 0])), (ad 44, .inr (4, [.int 0, .ref de, .int 0]))]) := hD
    refine lv_iload_n hx hb dX17_setPaper_33 rfl (lv_at hl 0 rfl) ?_
    refine W.widen (k := 0) (n := 0) (Nat.le_of_ble_eq_true rfl) (Nat.le_of_ble_eq_true rfl) ?_
    have hP9 := hP.sub (ws' := ([(ad 40, .inr (22, [.int 0, .int 0, .int 0, .int 0, .ref (ad 41), .ref (ad 42), .ref (ad 43), .ref (ad 44), .int 500, .int 700, .int 10, .int p0, .ref (ad 45)]))])) [0] rfl
    have hD9 := hD.sub (ws' := ([(ad 40, .inr (22, [.int 0, .int 0, .int 0, .int 0, .ref (ad 41), .ref (ad 42), .ref (ad 43), .ref (ad 44), .int 500, .int 700, .int 10, .int p0, .ref (ad 45)]))])) [0] (by decide) rfl
    have hK9 := hK.sub (tys' := []) [] rfl
    exact W.iret (v := 200) hx hb hr (fun t ht hW => ⟨⟨200, (0, [.int 0, .int 0, .int 0, .ref (ad 41), .ref (ad 42), .ref (ad 43), .ref (ad 44), .int 500, .int 700, .int 10, .int p0, .ref (ad 45)]), rfl, (by first | exact ⟨rfl, rfl⟩ | exact ⟨rfl, rfl, by assumption⟩ | exact Or.inl ⟨rfl, rfl, by assumption⟩ | exact Or.inr ⟨rfl, rfl, by assumption⟩ | exact Or.inl ⟨rfl, rfl, Or.inl (by assumption)⟩ | exact Or.inl ⟨rfl, rfl, Or.inr (by assumption)⟩ | exact Or.inr ⟨rfl, rfl, by assumption, by assumption⟩), ⟨by rw [ht]; exact hP9, va_K.moved hW.alike hK9, hD9⟩⟩, hS.F ht⟩) hS.2.2 dX17_setPaper_34 hlocks
  · refine lv_aload_n hx hb dX17_setPaper_17 rfl (lv_at hl 0 rfl) ?_
    refine lv_iconst (v := 1) hx hb dX17_setPaper_18 (by decide) ?_
    refine kx_i (wc := wM ad de 0) (wr := []) hP hD hS hA [0, 1, 2, 3, 4] [] rfl rfl (by decide) (by decide) (va_runV (As := [.int 1]) (rest := []) ⟨hx, hb, hml, hown, hts⟩ (c_fails l D de ad 0 1 H.size) (cwV 1 hts gX17_setPaper_X17_fails rfl rfl rfl (by decide +kernel) ⟨Nat.le_of_ble_eq_true rfl, Nat.le_of_ble_eq_true rfl⟩) ⟨px_blind, (va_recv hK hP (ci := 22) (q0 := 0) rfl rfl), (px_pre hP hD hK hS hA hTK hZ [0, 1, 2, 3, 4] rfl rfl (by decide) [] rfl)⟩ rfl rfl hl.1 rfl (lv_room (Nat.le_of_ble_eq_true rfl)) dX17_setPaper_19 ⟨(Nat.le_of_ble_eq_true rfl), (Nat.le_of_ble_eq_true rfl)⟩) (fun r_2 u H locs hw hP hD hK1 hS => ?_)
    have hP : va_P D vwCl (wM ad de 1) H := hP
    have hD : va_D A (wM ad de 1) := hD
    obtain rfl : r_2 = 0 := hw
    refine W.widen (k := 0) (n := 0) (Nat.le_of_ble_eq_true rfl) (Nat.le_of_ble_eq_true rfl) ?_
    have hP9 := hP.sub (ws' := ([(ad 40, .inr (22, [.int 1, .int 0, .int 0, .int 0, .ref (ad 41), .ref (ad 42), .ref (ad 43), .ref (ad 44), .int 500, .int 700, .int 10, .int 200, .ref (ad 45)]))])) [0] rfl
    have hD9 := hD.sub (ws' := ([(ad 40, .inr (22, [.int 1, .int 0, .int 0, .int 0, .ref (ad 41), .ref (ad 42), .ref (ad 43), .ref (ad 44), .int 500, .int 700, .int 10, .int 200, .ref (ad 45)]))])) [0] (by decide) rfl
    have hK9 := hK.sub (tys' := []) [] rfl
    exact W.iret (v := 0) hx hb hr (fun t ht hW => ⟨⟨0, (1, [.int 0, .int 0, .int 0, .ref (ad 41), .ref (ad 42), .ref (ad 43), .ref (ad 44), .int 500, .int 700, .int 10, .int 200, .ref (ad 45)]), rfl, (by first | exact ⟨rfl, rfl⟩ | exact ⟨rfl, rfl, by assumption⟩ | exact Or.inl ⟨rfl, rfl, by assumption⟩ | exact Or.inr ⟨rfl, rfl, by assumption⟩ | exact Or.inl ⟨rfl, rfl, Or.inl (by assumption)⟩ | exact Or.inl ⟨rfl, rfl, Or.inr (by assumption)⟩ | exact Or.inr ⟨rfl, rfl, by assumption, by assumption⟩), ⟨by rw [ht]; exact hP9, va_K.moved hW.alike hK9, hD9⟩⟩, hS.F ht⟩) hS.2.2 dX17_setPaper_22 hlocks

set_option maxHeartbeats 4000000 in
set_option maxRecDepth 100000 in
theorem m_balance (l : Launch) (D : va_G) (de : Nat) (ad : Nat → Nat) (c0 : Int32) (p0 : Int32) (sz : Nat) : Met l yX17_balance wsX17_balance ({ frames := 6, cells := 4, slots := 3, locals := 134 } : Room) (va_Pc [.ref (ad 40), .int p0] (PX de D ([]) (wM ad de c0) sz)) (va_Qi (fun (r : Int32) (u : Int32 × List Value) => (u.1 = 1 ∧ r = 0 ∧ inR p0 1 9 = 0) ∨ (u.1 = 0 ∧ r = 0 ∧ ¬ inR p0 1 9 = 0)) (fun u t => PW D ([]) (va_A (wM ad de c0) sz) ([(ad 40, .inr (22, .int u.1 :: u.2))]) t) (va_A (wM ad de c0) sz)) 4 3 (va_A (wM ad de c0) sz) := by
  refine Met.ofW (cc := cX17_balance) (maxL := 2) (ret := (some .int)) (by decide) rfl ?_
  intro p e s m args below meth c s₁ B hml hv
  obtain ⟨rfl, hsz, hP, hK, hD0, hTK, hZ⟩ := hv
  have hx := B.exec
  have hb := B.bytes
  have hr := B.returns
  have hts := atoms_spec (ws := wsX17_balance) B.pre
  have hown : s.vm.findClass RX17 = some m.cls := findClass_of_methodNamed B.named
  have hlocks := B.notSynchronized
  have hin_RX17 : ∀ w ∈ u_ws RX17 TX17 13, w ∈ wsX17_balance := by decide +kernel
  subst hsz
  have hD := hD0.self (sz := s.heap.size)
  generalize hAe : va_A (wM ad de c0) s.heap.size = A at hD hZ ⊢
  have hA : ∀ q : Nat, s.heap.size ≤ q → A q := fun q h => by rw [← hAe]; exact Or.inr h
  have hS : va_S A s.heap s.heap [] := va_S.rf
  have hP : va_P D vwCl (wM ad de c0) s.heap := hP
  have hD : va_D A (wM ad de c0) := hD
  have hl := lv_entry ([.ref (ad 40), .int p0]) (n := 2) (Nat.le_of_ble_eq_true rfl)
  rw [lg_entry_eq]
  generalize (lg_sl ([.ref (ad 40), .int p0]) ++ List.replicate (2 - (lg_sl ([.ref (ad 40), .int p0])).length) Slot.unset).toArray = ls at hl ⊢
  have hl : lv_has ls 2 [(0, .ref (ad 40)), (1, .int p0)] := hl
  refine lv_aload_n hx hb dX17_balance_0 rfl (lv_at hl 0 rfl) ?_
  refine lv_iconst (v := 0) hx hb dX17_balance_1 (by decide) ?_
  refine va_put (D := D) (ci := 22) (v := .int 0) (ty := .int) (C := RX17) (T := TX17) (N := 13) hx hb hts hin_RX17 tyX17 tyX17_ok nmX17 hown hK hP hD hS 0 rfl rfl 0 (by decide) (hts (.fieldLink RX17 41 "PopupwrightModel" "code" "I") (by decide +kernel)) (fun _ h9 => h9) rfl (by decide +kernel) rfl rfl (Nat.le_of_ble_eq_true rfl) dX17_balance_2 (fun H locs hP hD hS => ?_)
  have hP : va_P D vwCl (wM ad de 0) H := hP
  have hD : va_D A (wM ad de 0) := hD
  refine lv_iload_n hx hb dX17_balance_5 rfl (lv_at hl 1 rfl) ?_
  refine lv_iconst (v := 1) hx hb dX17_balance_6 (by decide) ?_
  refine lv_bipush (v := 9) hx hb dX17_balance_7 (by decide) ?_
  refine kx_i (wc := []) (wr := wM ad de 0) hP hD hS hA [] [0, 1, 2, 3, 4] rfl rfl (by decide) (by decide) (va_runS (As := [.int p0, .int 1, .int 9]) (rest := []) ⟨hx, hb, hml, hown, hts⟩ (c_in l D de p0 1 9 H.size) (va_cwS 3 hts gX17_balance_X17_in rfl rfl rfl (by decide +kernel) ⟨Nat.le_of_ble_eq_true rfl, Nat.le_of_ble_eq_true rfl⟩) ⟨px_blind, (px_pre hP hD hK hS hA hTK hZ [] rfl rfl (by decide) [] rfl)⟩ rfl rfl hl.1 rfl (lv_room (Nat.le_of_ble_eq_true rfl)) dX17_balance_9 ⟨(Nat.le_of_ble_eq_true rfl), (Nat.le_of_ble_eq_true rfl)⟩) (fun r_1 u H locs hw hP hD hK1 hS => ?_)
  have hP : va_P D vwCl (wM ad de 0) H := hP
  have hD : va_D A (wM ad de 0) := hD
  obtain rfl : r_1 = inR p0 1 9 := hw
  refine lv_if_eq (tgt := 23) hx hb dX17_balance_12 (by decide) (fun c_12 => ?_) (fun c_12 => ?_)
  · refine lv_aload_n hx hb dX17_balance_23 rfl (lv_at hl 0 rfl) ?_
    refine lv_iconst (v := 1) hx hb dX17_balance_24 (by decide) ?_
    refine kx_i (wc := wM ad de 0) (wr := []) hP hD hS hA [0, 1, 2, 3, 4] [] rfl rfl (by decide) (by decide) (va_runV (As := [.int 1]) (rest := []) ⟨hx, hb, hml, hown, hts⟩ (c_fails l D de ad 0 1 H.size) (cwV 1 hts gX17_balance_X17_fails rfl rfl rfl (by decide +kernel) ⟨Nat.le_of_ble_eq_true rfl, Nat.le_of_ble_eq_true rfl⟩) ⟨px_blind, (va_recv hK hP (ci := 22) (q0 := 0) rfl rfl), (px_pre hP hD hK hS hA hTK hZ [0, 1, 2, 3, 4] rfl rfl (by decide) [] rfl)⟩ rfl rfl hl.1 rfl (lv_room (Nat.le_of_ble_eq_true rfl)) dX17_balance_25 ⟨(Nat.le_of_ble_eq_true rfl), (Nat.le_of_ble_eq_true rfl)⟩) (fun r_2 u H locs hw hP hD hK1 hS => ?_)
    have hP : va_P D vwCl (wM ad de 1) H := hP
    have hD : va_D A (wM ad de 1) := hD
    obtain rfl : r_2 = 0 := hw
    refine W.widen (k := 4) (n := 3) (Nat.le_of_ble_eq_true rfl) (Nat.le_of_ble_eq_true rfl) ?_
    have hP9 := hP.sub (ws' := ([(ad 40, .inr (22, [.int 1, .int 0, .int 0, .int 0, .ref (ad 41), .ref (ad 42), .ref (ad 43), .ref (ad 44), .int 500, .int 700, .int 10, .int 200, .ref (ad 45)]))])) [0] rfl
    have hD9 := hD.sub (ws' := ([(ad 40, .inr (22, [.int 1, .int 0, .int 0, .int 0, .ref (ad 41), .ref (ad 42), .ref (ad 43), .ref (ad 44), .int 500, .int 700, .int 10, .int 200, .ref (ad 45)]))])) [0] (by decide) rfl
    have hK9 := hK.sub (tys' := []) [] rfl
    exact W.iret (v := 0) hx hb hr (fun t ht hW => ⟨⟨0, (1, [.int 0, .int 0, .int 0, .ref (ad 41), .ref (ad 42), .ref (ad 43), .ref (ad 44), .int 500, .int 700, .int 10, .int 200, .ref (ad 45)]), rfl, (by first | exact ⟨rfl, rfl⟩ | exact ⟨rfl, rfl, by assumption⟩ | exact Or.inl ⟨rfl, rfl, by assumption⟩ | exact Or.inr ⟨rfl, rfl, by assumption⟩ | exact Or.inl ⟨rfl, rfl, Or.inl (by assumption)⟩ | exact Or.inl ⟨rfl, rfl, Or.inr (by assumption)⟩ | exact Or.inr ⟨rfl, rfl, by assumption, by assumption⟩), ⟨by rw [ht]; exact hP9, va_K.moved hW.alike hK9, hD9⟩⟩, hS.F ht⟩) hS.2.2 dX17_balance_28 hlocks
  · refine lv_aload_n hx hb dX17_balance_15 rfl (lv_at hl 0 rfl) ?_
    refine lv_iload_n hx hb dX17_balance_16 rfl (lv_at hl 1 rfl) ?_
    refine kx_i (wc := wM ad de 0) (wr := []) hP hD hS hA [0, 1, 2, 3, 4] [] rfl rfl (by decide) (by decide) (va_runV (As := [.int p0]) (rest := []) ⟨hx, hb, hml, hown, hts⟩ (c_least l D de ad 0 p0 H.size) (cwV 1 hts gX17_balance_X17_least rfl rfl rfl (by decide +kernel) ⟨Nat.le_of_ble_eq_true rfl, Nat.le_of_ble_eq_true rfl⟩) ⟨px_blind, (va_recv hK hP (ci := 22) (q0 := 0) rfl rfl), (px_pre hP hD hK hS hA hTK hZ [0, 1, 2, 3, 4] rfl rfl (by decide) [] rfl)⟩ rfl rfl hl.1 rfl (lv_room (Nat.le_of_ble_eq_true rfl)) dX17_balance_17 ⟨(Nat.le_of_ble_eq_true rfl), (Nat.le_of_ble_eq_true rfl)⟩) (fun r_3 u H locs hw hP hD hK1 hS => ?_)
    have hP : va_P D vwCl (wM ad de 0) H := hP
    have hD : va_D A (wM ad de 0) := hD
    obtain rfl : r_3 = 0 := hw
    refine W.widen (k := 4) (n := 3) (Nat.le_of_ble_eq_true rfl) (Nat.le_of_ble_eq_true rfl) ?_
    refine lv_goto (tgt := 28) hx hb dX17_balance_20 (by decide) ?_
    refine W.widen (k := 4) (n := 3) (Nat.le_of_ble_eq_true rfl) (Nat.le_of_ble_eq_true rfl) ?_
    have hP9 := hP.sub (ws' := ([(ad 40, .inr (22, [.int 0, .int 0, .int 0, .int 0, .ref (ad 41), .ref (ad 42), .ref (ad 43), .ref (ad 44), .int 500, .int 700, .int 10, .int 200, .ref (ad 45)]))])) [0] rfl
    have hD9 := hD.sub (ws' := ([(ad 40, .inr (22, [.int 0, .int 0, .int 0, .int 0, .ref (ad 41), .ref (ad 42), .ref (ad 43), .ref (ad 44), .int 500, .int 700, .int 10, .int 200, .ref (ad 45)]))])) [0] (by decide) rfl
    have hK9 := hK.sub (tys' := []) [] rfl
    exact W.iret (v := 0) hx hb hr (fun t ht hW => ⟨⟨0, (0, [.int 0, .int 0, .int 0, .ref (ad 41), .ref (ad 42), .ref (ad 43), .ref (ad 44), .int 500, .int 700, .int 10, .int 200, .ref (ad 45)]), rfl, (by first | exact ⟨rfl, rfl⟩ | exact ⟨rfl, rfl, by assumption⟩ | exact Or.inl ⟨rfl, rfl, by assumption⟩ | exact Or.inr ⟨rfl, rfl, by assumption⟩ | exact Or.inl ⟨rfl, rfl, Or.inl (by assumption)⟩ | exact Or.inl ⟨rfl, rfl, Or.inr (by assumption)⟩ | exact Or.inr ⟨rfl, rfl, by assumption, by assumption⟩), ⟨by rw [ht]; exact hP9, va_K.moved hW.alike hK9, hD9⟩⟩, hS.F ht⟩) hS.2.2 dX17_balance_28 hlocks

set_option maxHeartbeats 4000000 in
set_option maxRecDepth 100000 in
theorem m_scene (l : Launch) (D : va_G) (de : Nat) (ad : Nat → Nat) (c0 : Int32) (p0 : Int32) (sz : Nat) : Met l yX17_scene wsX17_scene ({ frames := 5, cells := 2, slots := 7, locals := 95 } : Room) (va_Pc [.ref (ad 40), .int p0] (PX de D ([]) (wM ad de c0) sz)) (va_Ql (fun (r : Int64) (u : Int32 × List Value) => (u.1 = 1 ∧ r = 0 ∧ inR p0 0 18 = 0) ∨ (u.1 = 0 ∧ r = 0 ∧ ¬ inR p0 0 18 = 0)) (fun u t => PW D ([]) (va_A (wM ad de c0) sz) ([(ad 40, .inr (22, .int u.1 :: u.2))]) t) (va_A (wM ad de c0) sz)) 2 7 (va_A (wM ad de c0) sz) := by
  refine Met.ofW (cc := cX17_scene) (maxL := 6) (ret := (some .long)) (by decide) rfl ?_
  intro p e s m args below meth c s₁ B hml hv
  obtain ⟨rfl, hsz, hP, hK, hD0, hTK, hZ⟩ := hv
  have hx := B.exec
  have hb := B.bytes
  have hr := B.returns
  have hts := atoms_spec (ws := wsX17_scene) B.pre
  have hown : s.vm.findClass RX17 = some m.cls := findClass_of_methodNamed B.named
  have hlocks := B.notSynchronized
  have hin_RX17 : ∀ w ∈ u_ws RX17 TX17 13, w ∈ wsX17_scene := by decide +kernel
  subst hsz
  have hD := hD0.self (sz := s.heap.size)
  generalize hAe : va_A (wM ad de c0) s.heap.size = A at hD hZ ⊢
  have hA : ∀ q : Nat, s.heap.size ≤ q → A q := fun q h => by rw [← hAe]; exact Or.inr h
  have hS : va_S A s.heap s.heap [] := va_S.rf
  have hP : va_P D vwCl (wM ad de c0) s.heap := hP
  have hD : va_D A (wM ad de c0) := hD
  have hl := lv_entry ([.ref (ad 40), .int p0]) (n := 6) (Nat.le_of_ble_eq_true rfl)
  rw [lg_entry_eq]
  generalize (lg_sl ([.ref (ad 40), .int p0]) ++ List.replicate (6 - (lg_sl ([.ref (ad 40), .int p0])).length) Slot.unset).toArray = ls at hl ⊢
  have hl : lv_has ls 6 [(0, .ref (ad 40)), (1, .int p0)] := hl
  refine lv_aload_n hx hb dX17_scene_0 rfl (lv_at hl 0 rfl) ?_
  refine lv_iload_n hx hb dX17_scene_1 rfl (lv_at hl 1 rfl) ?_
  refine lv_iconst (v := 0) hx hb dX17_scene_2 (by decide) ?_
  refine lv_bipush (v := 18) hx hb dX17_scene_3 (by decide) ?_
  refine kx_i (wc := []) (wr := wM ad de c0) hP hD hS hA [] [0, 1, 2, 3, 4] rfl rfl (by decide) (by decide) (va_runS (As := [.int p0, .int 0, .int 18]) (rest := [.ref (ad 40)]) ⟨hx, hb, hml, hown, hts⟩ (c_in l D de p0 0 18 s.heap.size) (va_cwS 3 hts gX17_scene_X17_in rfl rfl rfl (by decide +kernel) ⟨Nat.le_of_ble_eq_true rfl, Nat.le_of_ble_eq_true rfl⟩) ⟨px_blind, (px_pre hP hD hK hS hA hTK hZ [] rfl rfl (by decide) [] rfl)⟩ rfl rfl hl.1 rfl (lv_room (Nat.le_of_ble_eq_true rfl)) dX17_scene_5 ⟨(Nat.le_of_ble_eq_true rfl), (Nat.le_of_ble_eq_true rfl)⟩) (fun r_1 u H locs hw hP hD hK1 hS => ?_)
  have hP : va_P D vwCl (wM ad de c0) H := hP
  have hD : va_D A (wM ad de c0) := hD
  obtain rfl : r_1 = inR p0 0 18 := hw
  refine lv_if_eq (tgt := 15) hx hb dX17_scene_8 (by decide) (fun c_8 => ?_) (fun c_8 => ?_)
  · refine lv_iconst (v := 1) hx hb dX17_scene_15 (by decide) ?_
    refine va_put (D := D) (ci := 22) (v := .int 1) (ty := .int) (C := RX17) (T := TX17) (N := 13) hx hb hts hin_RX17 tyX17 tyX17_ok nmX17 hown hK hP hD hS 0 rfl rfl 0 (by decide) (hts (.fieldLink RX17 41 "PopupwrightModel" "code" "I") (by decide +kernel)) (fun _ h9 => h9) rfl (by decide +kernel) rfl rfl (Nat.le_of_ble_eq_true rfl) dX17_scene_16 (fun H locs hP hD hS => ?_)
    have hP : va_P D vwCl (wM ad de 1) H := hP
    have hD : va_D A (wM ad de 1) := hD
    refine lv_lconst (v := 0) hx hb dX17_scene_19 (by decide) ?_
    refine lv_lstore_n (lv' := [(2, .long 0), (0, .ref (ad 40)), (1, .int p0)]) hx hb dX17_scene_20 rfl hl (by decide) rfl (fun ls hl => ?_)
    refine lv_aload_n hx hb dX17_scene_21 rfl (lv_at hl 1 rfl) ?_
    refine kx_q (wc := wM ad de 1) (wr := []) hP hD hS hA [0, 1, 2, 3, 4] [] rfl rfl (by decide) (by decide) (va_runV (As := []) (rest := []) ⟨hx, hb, hml, hown, hts⟩ (c_strips l D de ad 1 H.size) (cwV 0 hts gX17_scene_X17_strips rfl rfl rfl (by decide +kernel) ⟨Nat.le_of_ble_eq_true rfl, Nat.le_of_ble_eq_true rfl⟩) ⟨px_blind, (va_recv hK hP (ci := 22) (q0 := 0) rfl rfl), (px_pre hP hD hK hS hA hTK hZ [0, 1, 2, 3, 4] rfl rfl (by decide) [] rfl)⟩ rfl rfl hl.1 rfl (lv_room (Nat.le_of_ble_eq_true rfl)) dX17_scene_22 ⟨(Nat.le_of_ble_eq_true rfl), (Nat.le_of_ble_eq_true rfl)⟩) (fun r_2 u H locs hw hP hD hK1 hS => ?_)
    obtain ⟨nl_3, rfl⟩ : ∃ z, z = u := ⟨_, rfl⟩
    have hP : va_P D vwCl ([(ad 40, .inr (22, [.int 1, .int 0, .int 0, .int 0, .ref (ad 41), .ref (ad 42), .ref (ad 43), .ref (ad 44), .int 500, .int 700, .int 10, .int 200, .ref (ad 45)])), (ad 41, .inr (4, [.int 0, .ref de, .int 0])), (ad 42, .inr (4, [.int 0, .ref de, .int 0])), (ad 43, .inr (4, [.int 0, .ref de, .int 0])), (ad 44, .inr (4, [.int 0, .ref de, .int 0])), (nl_3, .inr (4, [.int 0, .ref de, .int 0]))]) H := hP
    have hD : va_D A ([(ad 40, .inr (22, [.int 1, .int 0, .int 0, .int 0, .ref (ad 41), .ref (ad 42), .ref (ad 43), .ref (ad 44), .int 500, .int 700, .int 10, .int 200, .ref (ad 45)])), (ad 41, .inr (4, [.int 0, .ref de, .int 0])), (ad 42, .inr (4, [.int 0, .ref de, .int 0])), (ad 43, .inr (4, [.int 0, .ref de, .int 0])), (ad 44, .inr (4, [.int 0, .ref de, .int 0])), (nl_3, .inr (4, [.int 0, .ref de, .int 0]))]) := hD
    obtain rfl : r_2 = some nl_3 := hw
    refine W.widen (k := 1) (n := 3) (Nat.le_of_ble_eq_true rfl) (Nat.le_of_ble_eq_true rfl) ?_
    refine kx_Fq (wc := [(nl_3, .inr (4, [.int 0, .ref de, .int 0]))]) (wr := wM ad de 1) hP hD hS hA [5] [0, 1, 2, 3, 4] rfl rfl (by decide) (by decide) (va_runF (As := []) (rest := []) (hK.1 4 _ rfl).2 ⟨hx, hb, hml, hown, hts⟩ (l_iterator l D de nl_3 de 0 H.size) (va_cwF 0 hts gX17_scene_Jx4a65c_iterator_32c93_f171Jx4a65c rfl rfl rfl (hTK.2.2.2.2.2.1 (RJx4a65c, ⟨"java/util/List", "iterator", "()Ljava/util/Iterator;"⟩, yJx4a65c_iterator_32c93) (by decide +kernel)) (by decide +kernel) ⟨Nat.le_of_ble_eq_true rfl, Nat.le_of_ble_eq_true rfl⟩) ⟨px_blind, (va_recv hK hP (ci := 4) (q0 := 5) rfl rfl), (px_pre hP hD hK hS hA hTK hZ [5] rfl rfl (by decide) [] rfl)⟩ rfl rfl hl.1 rfl (lv_room (Nat.le_of_ble_eq_true rfl)) dX17_scene_25 ⟨(Nat.le_of_ble_eq_true rfl), (Nat.le_of_ble_eq_true rfl)⟩) (fun r_4 u H locs hw hP hD hK1 hS => ?_)
    obtain ⟨it_5, rfl⟩ : ∃ z, z = u := ⟨_, rfl⟩
    have hP : va_P D vwCl ([(ad 40, .inr (22, [.int 1, .int 0, .int 0, .int 0, .ref (ad 41), .ref (ad 42), .ref (ad 43), .ref (ad 44), .int 500, .int 700, .int 10, .int 200, .ref (ad 45)])), (ad 41, .inr (4, [.int 0, .ref de, .int 0])), (ad 42, .inr (4, [.int 0, .ref de, .int 0])), (ad 43, .inr (4, [.int 0, .ref de, .int 0])), (ad 44, .inr (4, [.int 0, .ref de, .int 0])), (it_5, .inr (3, [.int 0, .int (-1), .int 0, .ref nl_3])), (nl_3, .inr (4, [.int 0, .ref de, .int 0]))]) H := hP
    have hD : va_D A ([(ad 40, .inr (22, [.int 1, .int 0, .int 0, .int 0, .ref (ad 41), .ref (ad 42), .ref (ad 43), .ref (ad 44), .int 500, .int 700, .int 10, .int 200, .ref (ad 45)])), (ad 41, .inr (4, [.int 0, .ref de, .int 0])), (ad 42, .inr (4, [.int 0, .ref de, .int 0])), (ad 43, .inr (4, [.int 0, .ref de, .int 0])), (ad 44, .inr (4, [.int 0, .ref de, .int 0])), (it_5, .inr (3, [.int 0, .int (-1), .int 0, .ref nl_3])), (nl_3, .inr (4, [.int 0, .ref de, .int 0]))]) := hD
    obtain rfl : r_4 = some it_5 := hw
    refine W.widen (k := 2) (n := 7) (Nat.le_of_ble_eq_true rfl) (Nat.le_of_ble_eq_true rfl) ?_
    refine lv_astore (lv' := [(4, .ref it_5), (2, .long 0), (0, .ref (ad 40)), (1, .int p0)]) hx hb dX17_scene_30 hl (by decide) rfl (fun ls hl => ?_)
    refine lv_aload hx hb dX17_scene_32 (lv_at hl 0 rfl) ?_
    refine kx_Fi (wc := [(it_5, .inr (3, [.int 0, .int (-1), .int 0, .ref nl_3])), (nl_3, .inr (4, [.int 0, .ref de, .int 0]))]) (wr := wM ad de 1) hP hD hS hA [5, 6] [0, 1, 2, 3, 4] rfl rfl (by decide) (by decide) (va_runF (As := []) (rest := []) (hK.1 3 _ rfl).2 ⟨hx, hb, hml, hown, hts⟩ (l_hasNext l D de it_5 nl_3 de 0 H.size) (va_cwF 0 hts gX17_scene_Jx35411_hasNext_aae02_f175Jx35411 rfl rfl rfl (hTK.2.2.2.2.2.1 (RJx35411, ⟨"java/util/Iterator", "hasNext", "()Z"⟩, yJx35411_hasNext_aae02) (by decide +kernel)) (by decide +kernel) ⟨Nat.le_of_ble_eq_true rfl, Nat.le_of_ble_eq_true rfl⟩) ⟨px_blind, (va_recv hK hP (ci := 3) (q0 := 5) rfl rfl), (px_pre hP hD hK hS hA hTK hZ [5, 6] rfl rfl (by decide) [] rfl)⟩ rfl rfl hl.1 rfl (lv_room (Nat.le_of_ble_eq_true rfl)) dX17_scene_34 ⟨(Nat.le_of_ble_eq_true rfl), (Nat.le_of_ble_eq_true rfl)⟩) (fun r_6 u H locs hw hP hD hK1 hS => ?_)
    have hP : va_P D vwCl ([(ad 40, .inr (22, [.int 1, .int 0, .int 0, .int 0, .ref (ad 41), .ref (ad 42), .ref (ad 43), .ref (ad 44), .int 500, .int 700, .int 10, .int 200, .ref (ad 45)])), (ad 41, .inr (4, [.int 0, .ref de, .int 0])), (ad 42, .inr (4, [.int 0, .ref de, .int 0])), (ad 43, .inr (4, [.int 0, .ref de, .int 0])), (ad 44, .inr (4, [.int 0, .ref de, .int 0])), (it_5, .inr (3, [.int 0, .int (-1), .int 0, .ref nl_3])), (nl_3, .inr (4, [.int 0, .ref de, .int 0]))]) H := hP
    have hD : va_D A ([(ad 40, .inr (22, [.int 1, .int 0, .int 0, .int 0, .ref (ad 41), .ref (ad 42), .ref (ad 43), .ref (ad 44), .int 500, .int 700, .int 10, .int 200, .ref (ad 45)])), (ad 41, .inr (4, [.int 0, .ref de, .int 0])), (ad 42, .inr (4, [.int 0, .ref de, .int 0])), (ad 43, .inr (4, [.int 0, .ref de, .int 0])), (ad 44, .inr (4, [.int 0, .ref de, .int 0])), (it_5, .inr (3, [.int 0, .int (-1), .int 0, .ref nl_3])), (nl_3, .inr (4, [.int 0, .ref de, .int 0]))]) := hD
    obtain rfl : r_6 = 0 := hw
    refine W.widen (k := 2) (n := 7) (Nat.le_of_ble_eq_true rfl) (Nat.le_of_ble_eq_true rfl) ?_
    refine lv_if_eq (tgt := 104) hx hb dX17_scene_39 (by decide) (fun _ => ?_) (fun h_ => absurd (by decide) h_)
    refine lv_lload_n hx hb dX17_scene_104 rfl (lv_at hl 1 rfl) ?_
    refine W.widen (k := 2) (n := 7) (Nat.le_of_ble_eq_true rfl) (Nat.le_of_ble_eq_true rfl) ?_
    have hP9 := hP.sub (ws' := ([(ad 40, .inr (22, [.int 1, .int 0, .int 0, .int 0, .ref (ad 41), .ref (ad 42), .ref (ad 43), .ref (ad 44), .int 500, .int 700, .int 10, .int 200, .ref (ad 45)]))])) [0] rfl
    have hD9 := hD.sub (ws' := ([(ad 40, .inr (22, [.int 1, .int 0, .int 0, .int 0, .ref (ad 41), .ref (ad 42), .ref (ad 43), .ref (ad 44), .int 500, .int 700, .int 10, .int 200, .ref (ad 45)]))])) [0] (by decide) rfl
    have hK9 := hK.sub (tys' := []) [] rfl
    exact W.lret (v := 0) hx hb hr (fun t ht hW => ⟨⟨0, (1, [.int 0, .int 0, .int 0, .ref (ad 41), .ref (ad 42), .ref (ad 43), .ref (ad 44), .int 500, .int 700, .int 10, .int 200, .ref (ad 45)]), rfl, (by first | exact ⟨rfl, rfl⟩ | exact ⟨rfl, rfl, by assumption⟩ | exact Or.inl ⟨rfl, rfl, by assumption⟩ | exact Or.inr ⟨rfl, rfl, by assumption⟩ | exact Or.inl ⟨rfl, rfl, Or.inl (by assumption)⟩ | exact Or.inl ⟨rfl, rfl, Or.inr (by assumption)⟩ | exact Or.inr ⟨rfl, rfl, by assumption, by assumption⟩), ⟨by rw [ht]; exact hP9, va_K.moved hW.alike hK9, hD9⟩⟩, hS.F ht⟩) hS.2.2 dX17_scene_105 hlocks
  · refine lv_iconst (v := 0) hx hb dX17_scene_11 (by decide) ?_
    refine lv_goto (tgt := 16) hx hb dX17_scene_12 (by decide) ?_
    refine va_put (D := D) (ci := 22) (v := .int 0) (ty := .int) (C := RX17) (T := TX17) (N := 13) hx hb hts hin_RX17 tyX17 tyX17_ok nmX17 hown hK hP hD hS 0 rfl rfl 0 (by decide) (hts (.fieldLink RX17 41 "PopupwrightModel" "code" "I") (by decide +kernel)) (fun _ h9 => h9) rfl (by decide +kernel) rfl rfl (Nat.le_of_ble_eq_true rfl) dX17_scene_16 (fun H locs hP hD hS => ?_)
    have hP : va_P D vwCl (wM ad de 0) H := hP
    have hD : va_D A (wM ad de 0) := hD
    refine lv_lconst (v := 0) hx hb dX17_scene_19 (by decide) ?_
    refine lv_lstore_n (lv' := [(2, .long 0), (0, .ref (ad 40)), (1, .int p0)]) hx hb dX17_scene_20 rfl hl (by decide) rfl (fun ls hl => ?_)
    refine lv_aload_n hx hb dX17_scene_21 rfl (lv_at hl 1 rfl) ?_
    refine kx_q (wc := wM ad de 0) (wr := []) hP hD hS hA [0, 1, 2, 3, 4] [] rfl rfl (by decide) (by decide) (va_runV (As := []) (rest := []) ⟨hx, hb, hml, hown, hts⟩ (c_strips l D de ad 0 H.size) (cwV 0 hts gX17_scene_X17_strips rfl rfl rfl (by decide +kernel) ⟨Nat.le_of_ble_eq_true rfl, Nat.le_of_ble_eq_true rfl⟩) ⟨px_blind, (va_recv hK hP (ci := 22) (q0 := 0) rfl rfl), (px_pre hP hD hK hS hA hTK hZ [0, 1, 2, 3, 4] rfl rfl (by decide) [] rfl)⟩ rfl rfl hl.1 rfl (lv_room (Nat.le_of_ble_eq_true rfl)) dX17_scene_22 ⟨(Nat.le_of_ble_eq_true rfl), (Nat.le_of_ble_eq_true rfl)⟩) (fun r_7 u H locs hw hP hD hK1 hS => ?_)
    obtain ⟨nl_8, rfl⟩ : ∃ z, z = u := ⟨_, rfl⟩
    have hP : va_P D vwCl ([(ad 40, .inr (22, [.int 0, .int 0, .int 0, .int 0, .ref (ad 41), .ref (ad 42), .ref (ad 43), .ref (ad 44), .int 500, .int 700, .int 10, .int 200, .ref (ad 45)])), (ad 41, .inr (4, [.int 0, .ref de, .int 0])), (ad 42, .inr (4, [.int 0, .ref de, .int 0])), (ad 43, .inr (4, [.int 0, .ref de, .int 0])), (ad 44, .inr (4, [.int 0, .ref de, .int 0])), (nl_8, .inr (4, [.int 0, .ref de, .int 0]))]) H := hP
    have hD : va_D A ([(ad 40, .inr (22, [.int 0, .int 0, .int 0, .int 0, .ref (ad 41), .ref (ad 42), .ref (ad 43), .ref (ad 44), .int 500, .int 700, .int 10, .int 200, .ref (ad 45)])), (ad 41, .inr (4, [.int 0, .ref de, .int 0])), (ad 42, .inr (4, [.int 0, .ref de, .int 0])), (ad 43, .inr (4, [.int 0, .ref de, .int 0])), (ad 44, .inr (4, [.int 0, .ref de, .int 0])), (nl_8, .inr (4, [.int 0, .ref de, .int 0]))]) := hD
    obtain rfl : r_7 = some nl_8 := hw
    refine W.widen (k := 1) (n := 3) (Nat.le_of_ble_eq_true rfl) (Nat.le_of_ble_eq_true rfl) ?_
    refine kx_Fq (wc := [(nl_8, .inr (4, [.int 0, .ref de, .int 0]))]) (wr := wM ad de 0) hP hD hS hA [5] [0, 1, 2, 3, 4] rfl rfl (by decide) (by decide) (va_runF (As := []) (rest := []) (hK.1 4 _ rfl).2 ⟨hx, hb, hml, hown, hts⟩ (l_iterator l D de nl_8 de 0 H.size) (va_cwF 0 hts gX17_scene_Jx4a65c_iterator_32c93_f171Jx4a65c rfl rfl rfl (hTK.2.2.2.2.2.1 (RJx4a65c, ⟨"java/util/List", "iterator", "()Ljava/util/Iterator;"⟩, yJx4a65c_iterator_32c93) (by decide +kernel)) (by decide +kernel) ⟨Nat.le_of_ble_eq_true rfl, Nat.le_of_ble_eq_true rfl⟩) ⟨px_blind, (va_recv hK hP (ci := 4) (q0 := 5) rfl rfl), (px_pre hP hD hK hS hA hTK hZ [5] rfl rfl (by decide) [] rfl)⟩ rfl rfl hl.1 rfl (lv_room (Nat.le_of_ble_eq_true rfl)) dX17_scene_25 ⟨(Nat.le_of_ble_eq_true rfl), (Nat.le_of_ble_eq_true rfl)⟩) (fun r_9 u H locs hw hP hD hK1 hS => ?_)
    obtain ⟨it_10, rfl⟩ : ∃ z, z = u := ⟨_, rfl⟩
    have hP : va_P D vwCl ([(ad 40, .inr (22, [.int 0, .int 0, .int 0, .int 0, .ref (ad 41), .ref (ad 42), .ref (ad 43), .ref (ad 44), .int 500, .int 700, .int 10, .int 200, .ref (ad 45)])), (ad 41, .inr (4, [.int 0, .ref de, .int 0])), (ad 42, .inr (4, [.int 0, .ref de, .int 0])), (ad 43, .inr (4, [.int 0, .ref de, .int 0])), (ad 44, .inr (4, [.int 0, .ref de, .int 0])), (it_10, .inr (3, [.int 0, .int (-1), .int 0, .ref nl_8])), (nl_8, .inr (4, [.int 0, .ref de, .int 0]))]) H := hP
    have hD : va_D A ([(ad 40, .inr (22, [.int 0, .int 0, .int 0, .int 0, .ref (ad 41), .ref (ad 42), .ref (ad 43), .ref (ad 44), .int 500, .int 700, .int 10, .int 200, .ref (ad 45)])), (ad 41, .inr (4, [.int 0, .ref de, .int 0])), (ad 42, .inr (4, [.int 0, .ref de, .int 0])), (ad 43, .inr (4, [.int 0, .ref de, .int 0])), (ad 44, .inr (4, [.int 0, .ref de, .int 0])), (it_10, .inr (3, [.int 0, .int (-1), .int 0, .ref nl_8])), (nl_8, .inr (4, [.int 0, .ref de, .int 0]))]) := hD
    obtain rfl : r_9 = some it_10 := hw
    refine W.widen (k := 2) (n := 7) (Nat.le_of_ble_eq_true rfl) (Nat.le_of_ble_eq_true rfl) ?_
    refine lv_astore (lv' := [(4, .ref it_10), (2, .long 0), (0, .ref (ad 40)), (1, .int p0)]) hx hb dX17_scene_30 hl (by decide) rfl (fun ls hl => ?_)
    refine lv_aload hx hb dX17_scene_32 (lv_at hl 0 rfl) ?_
    refine kx_Fi (wc := [(it_10, .inr (3, [.int 0, .int (-1), .int 0, .ref nl_8])), (nl_8, .inr (4, [.int 0, .ref de, .int 0]))]) (wr := wM ad de 0) hP hD hS hA [5, 6] [0, 1, 2, 3, 4] rfl rfl (by decide) (by decide) (va_runF (As := []) (rest := []) (hK.1 3 _ rfl).2 ⟨hx, hb, hml, hown, hts⟩ (l_hasNext l D de it_10 nl_8 de 0 H.size) (va_cwF 0 hts gX17_scene_Jx35411_hasNext_aae02_f175Jx35411 rfl rfl rfl (hTK.2.2.2.2.2.1 (RJx35411, ⟨"java/util/Iterator", "hasNext", "()Z"⟩, yJx35411_hasNext_aae02) (by decide +kernel)) (by decide +kernel) ⟨Nat.le_of_ble_eq_true rfl, Nat.le_of_ble_eq_true rfl⟩) ⟨px_blind, (va_recv hK hP (ci := 3) (q0 := 5) rfl rfl), (px_pre hP hD hK hS hA hTK hZ [5, 6] rfl rfl (by decide) [] rfl)⟩ rfl rfl hl.1 rfl (lv_room (Nat.le_of_ble_eq_true rfl)) dX17_scene_34 ⟨(Nat.le_of_ble_eq_true rfl), (Nat.le_of_ble_eq_true rfl)⟩) (fun r_11 u H locs hw hP hD hK1 hS => ?_)
    have hP : va_P D vwCl ([(ad 40, .inr (22, [.int 0, .int 0, .int 0, .int 0, .ref (ad 41), .ref (ad 42), .ref (ad 43), .ref (ad 44), .int 500, .int 700, .int 10, .int 200, .ref (ad 45)])), (ad 41, .inr (4, [.int 0, .ref de, .int 0])), (ad 42, .inr (4, [.int 0, .ref de, .int 0])), (ad 43, .inr (4, [.int 0, .ref de, .int 0])), (ad 44, .inr (4, [.int 0, .ref de, .int 0])), (it_10, .inr (3, [.int 0, .int (-1), .int 0, .ref nl_8])), (nl_8, .inr (4, [.int 0, .ref de, .int 0]))]) H := hP
    have hD : va_D A ([(ad 40, .inr (22, [.int 0, .int 0, .int 0, .int 0, .ref (ad 41), .ref (ad 42), .ref (ad 43), .ref (ad 44), .int 500, .int 700, .int 10, .int 200, .ref (ad 45)])), (ad 41, .inr (4, [.int 0, .ref de, .int 0])), (ad 42, .inr (4, [.int 0, .ref de, .int 0])), (ad 43, .inr (4, [.int 0, .ref de, .int 0])), (ad 44, .inr (4, [.int 0, .ref de, .int 0])), (it_10, .inr (3, [.int 0, .int (-1), .int 0, .ref nl_8])), (nl_8, .inr (4, [.int 0, .ref de, .int 0]))]) := hD
    obtain rfl : r_11 = 0 := hw
    refine W.widen (k := 2) (n := 7) (Nat.le_of_ble_eq_true rfl) (Nat.le_of_ble_eq_true rfl) ?_
    refine lv_if_eq (tgt := 104) hx hb dX17_scene_39 (by decide) (fun _ => ?_) (fun h_ => absurd (by decide) h_)
    refine lv_lload_n hx hb dX17_scene_104 rfl (lv_at hl 1 rfl) ?_
    refine W.widen (k := 2) (n := 7) (Nat.le_of_ble_eq_true rfl) (Nat.le_of_ble_eq_true rfl) ?_
    have hP9 := hP.sub (ws' := ([(ad 40, .inr (22, [.int 0, .int 0, .int 0, .int 0, .ref (ad 41), .ref (ad 42), .ref (ad 43), .ref (ad 44), .int 500, .int 700, .int 10, .int 200, .ref (ad 45)]))])) [0] rfl
    have hD9 := hD.sub (ws' := ([(ad 40, .inr (22, [.int 0, .int 0, .int 0, .int 0, .ref (ad 41), .ref (ad 42), .ref (ad 43), .ref (ad 44), .int 500, .int 700, .int 10, .int 200, .ref (ad 45)]))])) [0] (by decide) rfl
    have hK9 := hK.sub (tys' := []) [] rfl
    exact W.lret (v := 0) hx hb hr (fun t ht hW => ⟨⟨0, (0, [.int 0, .int 0, .int 0, .ref (ad 41), .ref (ad 42), .ref (ad 43), .ref (ad 44), .int 500, .int 700, .int 10, .int 200, .ref (ad 45)]), rfl, (by first | exact ⟨rfl, rfl⟩ | exact ⟨rfl, rfl, by assumption⟩ | exact Or.inl ⟨rfl, rfl, by assumption⟩ | exact Or.inr ⟨rfl, rfl, by assumption⟩ | exact Or.inl ⟨rfl, rfl, Or.inl (by assumption)⟩ | exact Or.inl ⟨rfl, rfl, Or.inr (by assumption)⟩ | exact Or.inr ⟨rfl, rfl, by assumption, by assumption⟩), ⟨by rw [ht]; exact hP9, va_K.moved hW.alike hK9, hD9⟩⟩, hS.F ht⟩) hS.2.2 dX17_scene_105 hlocks

set_option maxHeartbeats 4000000 in
set_option maxRecDepth 100000 in
theorem m_copies (l : Launch) (D : va_G) (de : Nat) (ad : Nat → Nat) (c0 : Int32) (p0 p1 : Int32) (sz : Nat) : Met l yX17_copies wsX17_copies ({ frames := 1, cells := 0, slots := 0, locals := 22 } : Room) (va_Pc [.ref (ad 40), .int p0, .int p1] (PX de D ([]) (wM ad de c0) sz)) (va_Qi (fun (r : Int32) (u : Int32 × List Value) => (u.1 = 1 ∧ r = 0 ∧ (inR p0 1 9 = 0 ∨ inR p1 1 9999 = 0)) ∨ (u.1 = 2 ∧ r = 0 ∧ (¬ inR p0 1 9 = 0 ∧ ¬ inR p1 1 9999 = 0))) (fun u t => PW D ([]) (va_A (wM ad de c0) sz) ([(ad 40, .inr (22, .int u.1 :: u.2))]) t) (va_A (wM ad de c0) sz)) 0 0 (va_A (wM ad de c0) sz) := by
  refine Met.ofW (cc := cX17_copies) (maxL := 6) (ret := (some .int)) (by decide) rfl ?_
  intro p e s m args below meth c s₁ B hml hv
  obtain ⟨rfl, hsz, hP, hK, hD0, hTK, hZ⟩ := hv
  have hx := B.exec
  have hb := B.bytes
  have hr := B.returns
  have hts := atoms_spec (ws := wsX17_copies) B.pre
  have hown : s.vm.findClass RX17 = some m.cls := findClass_of_methodNamed B.named
  have hlocks := B.notSynchronized
  have hin_RX17 : ∀ w ∈ u_ws RX17 TX17 13, w ∈ wsX17_copies := by decide +kernel
  subst hsz
  have hD := hD0.self (sz := s.heap.size)
  generalize hAe : va_A (wM ad de c0) s.heap.size = A at hD hZ ⊢
  have hA : ∀ q : Nat, s.heap.size ≤ q → A q := fun q h => by rw [← hAe]; exact Or.inr h
  have hS : va_S A s.heap s.heap [] := va_S.rf
  have hP : va_P D vwCl (wM ad de c0) s.heap := hP
  have hD : va_D A (wM ad de c0) := hD
  have hl := lv_entry ([.ref (ad 40), .int p0, .int p1]) (n := 6) (Nat.le_of_ble_eq_true rfl)
  rw [lg_entry_eq]
  generalize (lg_sl ([.ref (ad 40), .int p0, .int p1]) ++ List.replicate (6 - (lg_sl ([.ref (ad 40), .int p0, .int p1])).length) Slot.unset).toArray = ls at hl ⊢
  have hl : lv_has ls 6 [(0, .ref (ad 40)), (1, .int p0), (2, .int p1)] := hl
  refine lv_aload_n hx hb dX17_copies_0 rfl (lv_at hl 0 rfl) ?_
  refine lv_iconst (v := 0) hx hb dX17_copies_1 (by decide) ?_
  refine va_put (D := D) (ci := 22) (v := .int 0) (ty := .int) (C := RX17) (T := TX17) (N := 13) hx hb hts hin_RX17 tyX17 tyX17_ok nmX17 hown hK hP hD hS 0 rfl rfl 0 (by decide) (hts (.fieldLink RX17 41 "PopupwrightModel" "code" "I") (by decide +kernel)) (fun _ h9 => h9) rfl (by decide +kernel) rfl rfl (Nat.le_of_ble_eq_true rfl) dX17_copies_2 (fun H locs hP hD hS => ?_)
  have hP : va_P D vwCl (wM ad de 0) H := hP
  have hD : va_D A (wM ad de 0) := hD
  refine lv_iload_n hx hb dX17_copies_5 rfl (lv_at hl 1 rfl) ?_
  refine lv_iconst (v := 1) hx hb dX17_copies_6 (by decide) ?_
  refine lv_bipush (v := 9) hx hb dX17_copies_7 (by decide) ?_
  refine kx_i (wc := []) (wr := wM ad de 0) hP hD hS hA [] [0, 1, 2, 3, 4] rfl rfl (by decide) (by decide) (va_runS (As := [.int p0, .int 1, .int 9]) (rest := []) ⟨hx, hb, hml, hown, hts⟩ (c_in l D de p0 1 9 H.size) (va_cwS 3 hts gX17_copies_X17_in rfl rfl rfl (by decide +kernel) ⟨Nat.le_of_ble_eq_true rfl, Nat.le_of_ble_eq_true rfl⟩) ⟨px_blind, (px_pre hP hD hK hS hA hTK hZ [] rfl rfl (by decide) [] rfl)⟩ rfl rfl hl.1 rfl (lv_room (Nat.le_of_ble_eq_true rfl)) dX17_copies_9 ⟨(Nat.le_of_ble_eq_true rfl), (Nat.le_of_ble_eq_true rfl)⟩) (fun r_1 u H locs hw hP hD hK1 hS => ?_)
  have hP : va_P D vwCl (wM ad de 0) H := hP
  have hD : va_D A (wM ad de 0) := hD
  obtain rfl : r_1 = inR p0 1 9 := hw
  refine lv_if_eq (tgt := 26) hx hb dX17_copies_12 (by decide) (fun c_12 => ?_) (fun c_12 => ?_)
  · refine lv_aload_n hx hb dX17_copies_26 rfl (lv_at hl 0 rfl) ?_
    refine lv_iconst (v := 1) hx hb dX17_copies_27 (by decide) ?_
    refine kx_i (wc := wM ad de 0) (wr := []) hP hD hS hA [0, 1, 2, 3, 4] [] rfl rfl (by decide) (by decide) (va_runV (As := [.int 1]) (rest := []) ⟨hx, hb, hml, hown, hts⟩ (c_fails l D de ad 0 1 H.size) (cwV 1 hts gX17_copies_X17_fails rfl rfl rfl (by decide +kernel) ⟨Nat.le_of_ble_eq_true rfl, Nat.le_of_ble_eq_true rfl⟩) ⟨px_blind, (va_recv hK hP (ci := 22) (q0 := 0) rfl rfl), (px_pre hP hD hK hS hA hTK hZ [0, 1, 2, 3, 4] rfl rfl (by decide) [] rfl)⟩ rfl rfl hl.1 rfl (lv_room (Nat.le_of_ble_eq_true rfl)) dX17_copies_28 ⟨(Nat.le_of_ble_eq_true rfl), (Nat.le_of_ble_eq_true rfl)⟩) (fun r_2 u H locs hw hP hD hK1 hS => ?_)
    have hP : va_P D vwCl (wM ad de 1) H := hP
    have hD : va_D A (wM ad de 1) := hD
    obtain rfl : r_2 = 0 := hw
    refine W.widen (k := 0) (n := 0) (Nat.le_of_ble_eq_true rfl) (Nat.le_of_ble_eq_true rfl) ?_
    have hP9 := hP.sub (ws' := ([(ad 40, .inr (22, [.int 1, .int 0, .int 0, .int 0, .ref (ad 41), .ref (ad 42), .ref (ad 43), .ref (ad 44), .int 500, .int 700, .int 10, .int 200, .ref (ad 45)]))])) [0] rfl
    have hD9 := hD.sub (ws' := ([(ad 40, .inr (22, [.int 1, .int 0, .int 0, .int 0, .ref (ad 41), .ref (ad 42), .ref (ad 43), .ref (ad 44), .int 500, .int 700, .int 10, .int 200, .ref (ad 45)]))])) [0] (by decide) rfl
    have hK9 := hK.sub (tys' := []) [] rfl
    exact W.iret (v := 0) hx hb hr (fun t ht hW => ⟨⟨0, (1, [.int 0, .int 0, .int 0, .ref (ad 41), .ref (ad 42), .ref (ad 43), .ref (ad 44), .int 500, .int 700, .int 10, .int 200, .ref (ad 45)]), rfl, (by first | exact ⟨rfl, rfl⟩ | exact ⟨rfl, rfl, by assumption⟩ | exact Or.inl ⟨rfl, rfl, by assumption⟩ | exact Or.inr ⟨rfl, rfl, by assumption⟩ | exact Or.inl ⟨rfl, rfl, Or.inl (by assumption)⟩ | exact Or.inl ⟨rfl, rfl, Or.inr (by assumption)⟩ | exact Or.inr ⟨rfl, rfl, by assumption, by assumption⟩), ⟨by rw [ht]; exact hP9, va_K.moved hW.alike hK9, hD9⟩⟩, hS.F ht⟩) hS.2.2 dX17_copies_31 hlocks
  · refine lv_iload_n hx hb dX17_copies_15 rfl (lv_at hl 2 rfl) ?_
    refine lv_iconst (v := 1) hx hb dX17_copies_16 (by decide) ?_
    refine lv_sipush (v := 9999) hx hb dX17_copies_17 (by decide) ?_
    refine kx_i (wc := []) (wr := wM ad de 0) hP hD hS hA [] [0, 1, 2, 3, 4] rfl rfl (by decide) (by decide) (va_runS (As := [.int p1, .int 1, .int 9999]) (rest := []) ⟨hx, hb, hml, hown, hts⟩ (c_in l D de p1 1 9999 H.size) (va_cwS 3 hts gX17_copies_X17_in rfl rfl rfl (by decide +kernel) ⟨Nat.le_of_ble_eq_true rfl, Nat.le_of_ble_eq_true rfl⟩) ⟨px_blind, (px_pre hP hD hK hS hA hTK hZ [] rfl rfl (by decide) [] rfl)⟩ rfl rfl hl.1 rfl (lv_room (Nat.le_of_ble_eq_true rfl)) dX17_copies_20 ⟨(Nat.le_of_ble_eq_true rfl), (Nat.le_of_ble_eq_true rfl)⟩) (fun r_3 u H locs hw hP hD hK1 hS => ?_)
    have hP : va_P D vwCl (wM ad de 0) H := hP
    have hD : va_D A (wM ad de 0) := hD
    obtain rfl : r_3 = inR p1 1 9999 := hw
    refine lv_if_ne (tgt := 32) hx hb dX17_copies_23 (by decide) (fun c_23 => ?_) (fun c_23 => ?_)
    · refine lv_aload_n hx hb dX17_copies_32 rfl (lv_at hl 0 rfl) ?_
      refine va_get (D := D) (ci := 22) (v := .ref (ad 42)) (C := RX17) (T := TX17) (N := 13) hx hb hts hin_RX17 hown hK hP 0 rfl rfl 5 (by decide) (hts (.fieldLink RX17 16 "PopupwrightModel" "folds" "Ljava/util/List;") (by decide +kernel)) (fun _ h9 => h9) rfl dX17_copies_33 ?_
      refine kx_Fi (wc := [(ad 42, .inr (4, [.int 0, .ref de, .int 0]))]) (wr := [(ad 40, .inr (22, [.int 0, .int 0, .int 0, .int 0, .ref (ad 41), .ref (ad 42), .ref (ad 43), .ref (ad 44), .int 500, .int 700, .int 10, .int 200, .ref (ad 45)])), (ad 41, .inr (4, [.int 0, .ref de, .int 0])), (ad 43, .inr (4, [.int 0, .ref de, .int 0])), (ad 44, .inr (4, [.int 0, .ref de, .int 0]))]) hP hD hS hA [2] [0, 1, 3, 4] rfl rfl (by decide) (by decide) (va_runF (As := []) (rest := []) (hK.1 4 _ rfl).2 ⟨hx, hb, hml, hown, hts⟩ (l_isEmpty l D de (ad 42) de 0 H.size) (va_cwF 0 hts gX17_copies_Jx4a65c_isEmpty_aae02_f253Jx4a65c rfl rfl rfl (hTK.2.2.2.2.2.1 (RJx4a65c, ⟨"java/util/List", "isEmpty", "()Z"⟩, yJx4a65c_isEmpty_aae02) (by decide +kernel)) (by decide +kernel) ⟨Nat.le_of_ble_eq_true rfl, Nat.le_of_ble_eq_true rfl⟩) ⟨px_blind, (va_recv hK hP (ci := 4) (q0 := 2) rfl rfl), (px_pre hP hD hK hS hA hTK hZ [2] rfl rfl (by decide) [] rfl)⟩ rfl rfl hl.1 rfl (lv_room (Nat.le_of_ble_eq_true rfl)) dX17_copies_36 ⟨(Nat.le_of_ble_eq_true rfl), (Nat.le_of_ble_eq_true rfl)⟩) (fun r_4 u H locs hw hP hD hK1 hS => ?_)
      have hP : va_P D vwCl ([(ad 40, .inr (22, [.int 0, .int 0, .int 0, .int 0, .ref (ad 41), .ref (ad 42), .ref (ad 43), .ref (ad 44), .int 500, .int 700, .int 10, .int 200, .ref (ad 45)])), (ad 41, .inr (4, [.int 0, .ref de, .int 0])), (ad 43, .inr (4, [.int 0, .ref de, .int 0])), (ad 44, .inr (4, [.int 0, .ref de, .int 0])), (ad 42, .inr (4, [.int 0, .ref de, .int 0]))]) H := hP
      have hD : va_D A ([(ad 40, .inr (22, [.int 0, .int 0, .int 0, .int 0, .ref (ad 41), .ref (ad 42), .ref (ad 43), .ref (ad 44), .int 500, .int 700, .int 10, .int 200, .ref (ad 45)])), (ad 41, .inr (4, [.int 0, .ref de, .int 0])), (ad 43, .inr (4, [.int 0, .ref de, .int 0])), (ad 44, .inr (4, [.int 0, .ref de, .int 0])), (ad 42, .inr (4, [.int 0, .ref de, .int 0]))]) := hD
      obtain rfl : r_4 = 1 := hw
      refine lv_if_eq (tgt := 50) hx hb dX17_copies_41 (by decide) (fun h_ => absurd h_ (by decide)) (fun _ => ?_)
      refine lv_aload_n hx hb dX17_copies_44 rfl (lv_at hl 0 rfl) ?_
      refine lv_iconst (v := 2) hx hb dX17_copies_45 (by decide) ?_
      refine kx_i (wc := wM ad de 0) (wr := []) hP hD hS hA [0, 1, 4, 2, 3] [] rfl rfl (by decide) (by decide) (va_runV (As := [.int 2]) (rest := []) ⟨hx, hb, hml, hown, hts⟩ (c_fails l D de ad 0 2 H.size) (cwV 1 hts gX17_copies_X17_fails rfl rfl rfl (by decide +kernel) ⟨Nat.le_of_ble_eq_true rfl, Nat.le_of_ble_eq_true rfl⟩) ⟨px_blind, (va_recv hK hP (ci := 22) (q0 := 0) rfl rfl), (px_pre hP hD hK hS hA hTK hZ [0, 1, 4, 2, 3] rfl rfl (by decide) [] rfl)⟩ rfl rfl hl.1 rfl (lv_room (Nat.le_of_ble_eq_true rfl)) dX17_copies_46 ⟨(Nat.le_of_ble_eq_true rfl), (Nat.le_of_ble_eq_true rfl)⟩) (fun r_5 u H locs hw hP hD hK1 hS => ?_)
      have hP : va_P D vwCl (wM ad de 2) H := hP
      have hD : va_D A (wM ad de 2) := hD
      obtain rfl : r_5 = 0 := hw
      refine W.widen (k := 0) (n := 0) (Nat.le_of_ble_eq_true rfl) (Nat.le_of_ble_eq_true rfl) ?_
      have hP9 := hP.sub (ws' := ([(ad 40, .inr (22, [.int 2, .int 0, .int 0, .int 0, .ref (ad 41), .ref (ad 42), .ref (ad 43), .ref (ad 44), .int 500, .int 700, .int 10, .int 200, .ref (ad 45)]))])) [0] rfl
      have hD9 := hD.sub (ws' := ([(ad 40, .inr (22, [.int 2, .int 0, .int 0, .int 0, .ref (ad 41), .ref (ad 42), .ref (ad 43), .ref (ad 44), .int 500, .int 700, .int 10, .int 200, .ref (ad 45)]))])) [0] (by decide) rfl
      have hK9 := hK.sub (tys' := []) [] rfl
      exact W.iret (v := 0) hx hb hr (fun t ht hW => ⟨⟨0, (2, [.int 0, .int 0, .int 0, .ref (ad 41), .ref (ad 42), .ref (ad 43), .ref (ad 44), .int 500, .int 700, .int 10, .int 200, .ref (ad 45)]), rfl, (by first | exact ⟨rfl, rfl⟩ | exact ⟨rfl, rfl, by assumption⟩ | exact Or.inl ⟨rfl, rfl, by assumption⟩ | exact Or.inr ⟨rfl, rfl, by assumption⟩ | exact Or.inl ⟨rfl, rfl, Or.inl (by assumption)⟩ | exact Or.inl ⟨rfl, rfl, Or.inr (by assumption)⟩ | exact Or.inr ⟨rfl, rfl, by assumption, by assumption⟩), ⟨by rw [ht]; exact hP9, va_K.moved hW.alike hK9, hD9⟩⟩, hS.F ht⟩) hS.2.2 dX17_copies_49 hlocks
    · refine lv_aload_n hx hb dX17_copies_26 rfl (lv_at hl 0 rfl) ?_
      refine lv_iconst (v := 1) hx hb dX17_copies_27 (by decide) ?_
      refine kx_i (wc := wM ad de 0) (wr := []) hP hD hS hA [0, 1, 2, 3, 4] [] rfl rfl (by decide) (by decide) (va_runV (As := [.int 1]) (rest := []) ⟨hx, hb, hml, hown, hts⟩ (c_fails l D de ad 0 1 H.size) (cwV 1 hts gX17_copies_X17_fails rfl rfl rfl (by decide +kernel) ⟨Nat.le_of_ble_eq_true rfl, Nat.le_of_ble_eq_true rfl⟩) ⟨px_blind, (va_recv hK hP (ci := 22) (q0 := 0) rfl rfl), (px_pre hP hD hK hS hA hTK hZ [0, 1, 2, 3, 4] rfl rfl (by decide) [] rfl)⟩ rfl rfl hl.1 rfl (lv_room (Nat.le_of_ble_eq_true rfl)) dX17_copies_28 ⟨(Nat.le_of_ble_eq_true rfl), (Nat.le_of_ble_eq_true rfl)⟩) (fun r_6 u H locs hw hP hD hK1 hS => ?_)
      have hP : va_P D vwCl (wM ad de 1) H := hP
      have hD : va_D A (wM ad de 1) := hD
      obtain rfl : r_6 = 0 := hw
      refine W.widen (k := 0) (n := 0) (Nat.le_of_ble_eq_true rfl) (Nat.le_of_ble_eq_true rfl) ?_
      have hP9 := hP.sub (ws' := ([(ad 40, .inr (22, [.int 1, .int 0, .int 0, .int 0, .ref (ad 41), .ref (ad 42), .ref (ad 43), .ref (ad 44), .int 500, .int 700, .int 10, .int 200, .ref (ad 45)]))])) [0] rfl
      have hD9 := hD.sub (ws' := ([(ad 40, .inr (22, [.int 1, .int 0, .int 0, .int 0, .ref (ad 41), .ref (ad 42), .ref (ad 43), .ref (ad 44), .int 500, .int 700, .int 10, .int 200, .ref (ad 45)]))])) [0] (by decide) rfl
      have hK9 := hK.sub (tys' := []) [] rfl
      exact W.iret (v := 0) hx hb hr (fun t ht hW => ⟨⟨0, (1, [.int 0, .int 0, .int 0, .ref (ad 41), .ref (ad 42), .ref (ad 43), .ref (ad 44), .int 500, .int 700, .int 10, .int 200, .ref (ad 45)]), rfl, (by first | exact ⟨rfl, rfl⟩ | exact ⟨rfl, rfl, by assumption⟩ | exact Or.inl ⟨rfl, rfl, by assumption⟩ | exact Or.inr ⟨rfl, rfl, by assumption⟩ | exact Or.inl ⟨rfl, rfl, Or.inl (by assumption)⟩ | exact Or.inl ⟨rfl, rfl, Or.inr (by assumption)⟩ | exact Or.inr ⟨rfl, rfl, by assumption, by assumption⟩), ⟨by rw [ht]; exact hP9, va_K.moved hW.alike hK9, hD9⟩⟩, hS.F ht⟩) hS.2.2 dX17_copies_31 hlocks

set_option maxHeartbeats 4000000 in
set_option maxRecDepth 100000 in
theorem m_open (l : Launch) (D : va_G) (de : Nat) (ad : Nat → Nat) (c0 : Int32) (p0 p1 : Int32) (sz : Nat) : Met l yX17_open wsX17_open ({ frames := 1, cells := 0, slots := 0, locals := 22 } : Room) (va_Pc [.ref (ad 40), .int p0, .int p1] (PX de D ([]) (wM ad de c0) sz)) (va_Qi (fun (r : Int32) (u : Int32 × List Value) => (u.1 = 1 ∧ r = 0 ∧ (inR p0 1 18 = 0 ∨ inR p1 1 9999 = 0)) ∨ (u.1 = 2 ∧ r = 0 ∧ (¬ inR p0 1 18 = 0 ∧ ¬ inR p1 1 9999 = 0))) (fun u t => PW D ([]) (va_A (wM ad de c0) sz) ([(ad 40, .inr (22, .int u.1 :: u.2))]) t) (va_A (wM ad de c0) sz)) 0 0 (va_A (wM ad de c0) sz) := by
  refine Met.ofW (cc := cX17_open) (maxL := 6) (ret := (some .int)) (by decide) rfl ?_
  intro p e s m args below meth c s₁ B hml hv
  obtain ⟨rfl, hsz, hP, hK, hD0, hTK, hZ⟩ := hv
  have hx := B.exec
  have hb := B.bytes
  have hr := B.returns
  have hts := atoms_spec (ws := wsX17_open) B.pre
  have hown : s.vm.findClass RX17 = some m.cls := findClass_of_methodNamed B.named
  have hlocks := B.notSynchronized
  have hin_RX17 : ∀ w ∈ u_ws RX17 TX17 13, w ∈ wsX17_open := by decide +kernel
  subst hsz
  have hD := hD0.self (sz := s.heap.size)
  generalize hAe : va_A (wM ad de c0) s.heap.size = A at hD hZ ⊢
  have hA : ∀ q : Nat, s.heap.size ≤ q → A q := fun q h => by rw [← hAe]; exact Or.inr h
  have hS : va_S A s.heap s.heap [] := va_S.rf
  have hP : va_P D vwCl (wM ad de c0) s.heap := hP
  have hD : va_D A (wM ad de c0) := hD
  have hl := lv_entry ([.ref (ad 40), .int p0, .int p1]) (n := 6) (Nat.le_of_ble_eq_true rfl)
  rw [lg_entry_eq]
  generalize (lg_sl ([.ref (ad 40), .int p0, .int p1]) ++ List.replicate (6 - (lg_sl ([.ref (ad 40), .int p0, .int p1])).length) Slot.unset).toArray = ls at hl ⊢
  have hl : lv_has ls 6 [(0, .ref (ad 40)), (1, .int p0), (2, .int p1)] := hl
  refine lv_aload_n hx hb dX17_open_0 rfl (lv_at hl 0 rfl) ?_
  refine lv_iconst (v := 0) hx hb dX17_open_1 (by decide) ?_
  refine va_put (D := D) (ci := 22) (v := .int 0) (ty := .int) (C := RX17) (T := TX17) (N := 13) hx hb hts hin_RX17 tyX17 tyX17_ok nmX17 hown hK hP hD hS 0 rfl rfl 0 (by decide) (hts (.fieldLink RX17 41 "PopupwrightModel" "code" "I") (by decide +kernel)) (fun _ h9 => h9) rfl (by decide +kernel) rfl rfl (Nat.le_of_ble_eq_true rfl) dX17_open_2 (fun H locs hP hD hS => ?_)
  have hP : va_P D vwCl (wM ad de 0) H := hP
  have hD : va_D A (wM ad de 0) := hD
  refine lv_iload_n hx hb dX17_open_5 rfl (lv_at hl 1 rfl) ?_
  refine lv_iconst (v := 1) hx hb dX17_open_6 (by decide) ?_
  refine lv_bipush (v := 18) hx hb dX17_open_7 (by decide) ?_
  refine kx_i (wc := []) (wr := wM ad de 0) hP hD hS hA [] [0, 1, 2, 3, 4] rfl rfl (by decide) (by decide) (va_runS (As := [.int p0, .int 1, .int 18]) (rest := []) ⟨hx, hb, hml, hown, hts⟩ (c_in l D de p0 1 18 H.size) (va_cwS 3 hts gX17_open_X17_in rfl rfl rfl (by decide +kernel) ⟨Nat.le_of_ble_eq_true rfl, Nat.le_of_ble_eq_true rfl⟩) ⟨px_blind, (px_pre hP hD hK hS hA hTK hZ [] rfl rfl (by decide) [] rfl)⟩ rfl rfl hl.1 rfl (lv_room (Nat.le_of_ble_eq_true rfl)) dX17_open_9 ⟨(Nat.le_of_ble_eq_true rfl), (Nat.le_of_ble_eq_true rfl)⟩) (fun r_1 u H locs hw hP hD hK1 hS => ?_)
  have hP : va_P D vwCl (wM ad de 0) H := hP
  have hD : va_D A (wM ad de 0) := hD
  obtain rfl : r_1 = inR p0 1 18 := hw
  refine lv_if_eq (tgt := 26) hx hb dX17_open_12 (by decide) (fun c_12 => ?_) (fun c_12 => ?_)
  · refine lv_aload_n hx hb dX17_open_26 rfl (lv_at hl 0 rfl) ?_
    refine lv_iconst (v := 1) hx hb dX17_open_27 (by decide) ?_
    refine kx_i (wc := wM ad de 0) (wr := []) hP hD hS hA [0, 1, 2, 3, 4] [] rfl rfl (by decide) (by decide) (va_runV (As := [.int 1]) (rest := []) ⟨hx, hb, hml, hown, hts⟩ (c_fails l D de ad 0 1 H.size) (cwV 1 hts gX17_open_X17_fails rfl rfl rfl (by decide +kernel) ⟨Nat.le_of_ble_eq_true rfl, Nat.le_of_ble_eq_true rfl⟩) ⟨px_blind, (va_recv hK hP (ci := 22) (q0 := 0) rfl rfl), (px_pre hP hD hK hS hA hTK hZ [0, 1, 2, 3, 4] rfl rfl (by decide) [] rfl)⟩ rfl rfl hl.1 rfl (lv_room (Nat.le_of_ble_eq_true rfl)) dX17_open_28 ⟨(Nat.le_of_ble_eq_true rfl), (Nat.le_of_ble_eq_true rfl)⟩) (fun r_2 u H locs hw hP hD hK1 hS => ?_)
    have hP : va_P D vwCl (wM ad de 1) H := hP
    have hD : va_D A (wM ad de 1) := hD
    obtain rfl : r_2 = 0 := hw
    refine W.widen (k := 0) (n := 0) (Nat.le_of_ble_eq_true rfl) (Nat.le_of_ble_eq_true rfl) ?_
    have hP9 := hP.sub (ws' := ([(ad 40, .inr (22, [.int 1, .int 0, .int 0, .int 0, .ref (ad 41), .ref (ad 42), .ref (ad 43), .ref (ad 44), .int 500, .int 700, .int 10, .int 200, .ref (ad 45)]))])) [0] rfl
    have hD9 := hD.sub (ws' := ([(ad 40, .inr (22, [.int 1, .int 0, .int 0, .int 0, .ref (ad 41), .ref (ad 42), .ref (ad 43), .ref (ad 44), .int 500, .int 700, .int 10, .int 200, .ref (ad 45)]))])) [0] (by decide) rfl
    have hK9 := hK.sub (tys' := []) [] rfl
    exact W.iret (v := 0) hx hb hr (fun t ht hW => ⟨⟨0, (1, [.int 0, .int 0, .int 0, .ref (ad 41), .ref (ad 42), .ref (ad 43), .ref (ad 44), .int 500, .int 700, .int 10, .int 200, .ref (ad 45)]), rfl, (by first | exact ⟨rfl, rfl⟩ | exact ⟨rfl, rfl, by assumption⟩ | exact Or.inl ⟨rfl, rfl, by assumption⟩ | exact Or.inr ⟨rfl, rfl, by assumption⟩ | exact Or.inl ⟨rfl, rfl, Or.inl (by assumption)⟩ | exact Or.inl ⟨rfl, rfl, Or.inr (by assumption)⟩ | exact Or.inr ⟨rfl, rfl, by assumption, by assumption⟩), ⟨by rw [ht]; exact hP9, va_K.moved hW.alike hK9, hD9⟩⟩, hS.F ht⟩) hS.2.2 dX17_open_31 hlocks
  · refine lv_iload_n hx hb dX17_open_15 rfl (lv_at hl 2 rfl) ?_
    refine lv_iconst (v := 1) hx hb dX17_open_16 (by decide) ?_
    refine lv_sipush (v := 9999) hx hb dX17_open_17 (by decide) ?_
    refine kx_i (wc := []) (wr := wM ad de 0) hP hD hS hA [] [0, 1, 2, 3, 4] rfl rfl (by decide) (by decide) (va_runS (As := [.int p1, .int 1, .int 9999]) (rest := []) ⟨hx, hb, hml, hown, hts⟩ (c_in l D de p1 1 9999 H.size) (va_cwS 3 hts gX17_open_X17_in rfl rfl rfl (by decide +kernel) ⟨Nat.le_of_ble_eq_true rfl, Nat.le_of_ble_eq_true rfl⟩) ⟨px_blind, (px_pre hP hD hK hS hA hTK hZ [] rfl rfl (by decide) [] rfl)⟩ rfl rfl hl.1 rfl (lv_room (Nat.le_of_ble_eq_true rfl)) dX17_open_20 ⟨(Nat.le_of_ble_eq_true rfl), (Nat.le_of_ble_eq_true rfl)⟩) (fun r_3 u H locs hw hP hD hK1 hS => ?_)
    have hP : va_P D vwCl (wM ad de 0) H := hP
    have hD : va_D A (wM ad de 0) := hD
    obtain rfl : r_3 = inR p1 1 9999 := hw
    refine lv_if_ne (tgt := 32) hx hb dX17_open_23 (by decide) (fun c_23 => ?_) (fun c_23 => ?_)
    · refine lv_aload_n hx hb dX17_open_32 rfl (lv_at hl 0 rfl) ?_
      refine va_get (D := D) (ci := 22) (v := .int 0) (C := RX17) (T := TX17) (N := 13) hx hb hts hin_RX17 hown hK hP 0 rfl rfl 1 (by decide) (hts (.fieldLink RX17 58 "PopupwrightModel" "hasSpread" "Z") (by decide +kernel)) (fun _ h9 => h9) rfl dX17_open_33 ?_
      refine lv_if_ne (tgt := 45) hx hb dX17_open_36 (by decide) (fun h_ => absurd (by decide) h_) (fun _ => ?_)
      refine lv_aload_n hx hb dX17_open_39 rfl (lv_at hl 0 rfl) ?_
      refine lv_iconst (v := 2) hx hb dX17_open_40 (by decide) ?_
      refine kx_i (wc := wM ad de 0) (wr := []) hP hD hS hA [0, 1, 2, 3, 4] [] rfl rfl (by decide) (by decide) (va_runV (As := [.int 2]) (rest := []) ⟨hx, hb, hml, hown, hts⟩ (c_fails l D de ad 0 2 H.size) (cwV 1 hts gX17_open_X17_fails rfl rfl rfl (by decide +kernel) ⟨Nat.le_of_ble_eq_true rfl, Nat.le_of_ble_eq_true rfl⟩) ⟨px_blind, (va_recv hK hP (ci := 22) (q0 := 0) rfl rfl), (px_pre hP hD hK hS hA hTK hZ [0, 1, 2, 3, 4] rfl rfl (by decide) [] rfl)⟩ rfl rfl hl.1 rfl (lv_room (Nat.le_of_ble_eq_true rfl)) dX17_open_41 ⟨(Nat.le_of_ble_eq_true rfl), (Nat.le_of_ble_eq_true rfl)⟩) (fun r_4 u H locs hw hP hD hK1 hS => ?_)
      have hP : va_P D vwCl (wM ad de 2) H := hP
      have hD : va_D A (wM ad de 2) := hD
      obtain rfl : r_4 = 0 := hw
      refine W.widen (k := 0) (n := 0) (Nat.le_of_ble_eq_true rfl) (Nat.le_of_ble_eq_true rfl) ?_
      have hP9 := hP.sub (ws' := ([(ad 40, .inr (22, [.int 2, .int 0, .int 0, .int 0, .ref (ad 41), .ref (ad 42), .ref (ad 43), .ref (ad 44), .int 500, .int 700, .int 10, .int 200, .ref (ad 45)]))])) [0] rfl
      have hD9 := hD.sub (ws' := ([(ad 40, .inr (22, [.int 2, .int 0, .int 0, .int 0, .ref (ad 41), .ref (ad 42), .ref (ad 43), .ref (ad 44), .int 500, .int 700, .int 10, .int 200, .ref (ad 45)]))])) [0] (by decide) rfl
      have hK9 := hK.sub (tys' := []) [] rfl
      exact W.iret (v := 0) hx hb hr (fun t ht hW => ⟨⟨0, (2, [.int 0, .int 0, .int 0, .ref (ad 41), .ref (ad 42), .ref (ad 43), .ref (ad 44), .int 500, .int 700, .int 10, .int 200, .ref (ad 45)]), rfl, (by first | exact ⟨rfl, rfl⟩ | exact ⟨rfl, rfl, by assumption⟩ | exact Or.inl ⟨rfl, rfl, by assumption⟩ | exact Or.inr ⟨rfl, rfl, by assumption⟩ | exact Or.inl ⟨rfl, rfl, Or.inl (by assumption)⟩ | exact Or.inl ⟨rfl, rfl, Or.inr (by assumption)⟩ | exact Or.inr ⟨rfl, rfl, by assumption, by assumption⟩), ⟨by rw [ht]; exact hP9, va_K.moved hW.alike hK9, hD9⟩⟩, hS.F ht⟩) hS.2.2 dX17_open_44 hlocks
    · refine lv_aload_n hx hb dX17_open_26 rfl (lv_at hl 0 rfl) ?_
      refine lv_iconst (v := 1) hx hb dX17_open_27 (by decide) ?_
      refine kx_i (wc := wM ad de 0) (wr := []) hP hD hS hA [0, 1, 2, 3, 4] [] rfl rfl (by decide) (by decide) (va_runV (As := [.int 1]) (rest := []) ⟨hx, hb, hml, hown, hts⟩ (c_fails l D de ad 0 1 H.size) (cwV 1 hts gX17_open_X17_fails rfl rfl rfl (by decide +kernel) ⟨Nat.le_of_ble_eq_true rfl, Nat.le_of_ble_eq_true rfl⟩) ⟨px_blind, (va_recv hK hP (ci := 22) (q0 := 0) rfl rfl), (px_pre hP hD hK hS hA hTK hZ [0, 1, 2, 3, 4] rfl rfl (by decide) [] rfl)⟩ rfl rfl hl.1 rfl (lv_room (Nat.le_of_ble_eq_true rfl)) dX17_open_28 ⟨(Nat.le_of_ble_eq_true rfl), (Nat.le_of_ble_eq_true rfl)⟩) (fun r_5 u H locs hw hP hD hK1 hS => ?_)
      have hP : va_P D vwCl (wM ad de 1) H := hP
      have hD : va_D A (wM ad de 1) := hD
      obtain rfl : r_5 = 0 := hw
      refine W.widen (k := 0) (n := 0) (Nat.le_of_ble_eq_true rfl) (Nat.le_of_ble_eq_true rfl) ?_
      have hP9 := hP.sub (ws' := ([(ad 40, .inr (22, [.int 1, .int 0, .int 0, .int 0, .ref (ad 41), .ref (ad 42), .ref (ad 43), .ref (ad 44), .int 500, .int 700, .int 10, .int 200, .ref (ad 45)]))])) [0] rfl
      have hD9 := hD.sub (ws' := ([(ad 40, .inr (22, [.int 1, .int 0, .int 0, .int 0, .ref (ad 41), .ref (ad 42), .ref (ad 43), .ref (ad 44), .int 500, .int 700, .int 10, .int 200, .ref (ad 45)]))])) [0] (by decide) rfl
      have hK9 := hK.sub (tys' := []) [] rfl
      exact W.iret (v := 0) hx hb hr (fun t ht hW => ⟨⟨0, (1, [.int 0, .int 0, .int 0, .ref (ad 41), .ref (ad 42), .ref (ad 43), .ref (ad 44), .int 500, .int 700, .int 10, .int 200, .ref (ad 45)]), rfl, (by first | exact ⟨rfl, rfl⟩ | exact ⟨rfl, rfl, by assumption⟩ | exact Or.inl ⟨rfl, rfl, by assumption⟩ | exact Or.inr ⟨rfl, rfl, by assumption⟩ | exact Or.inl ⟨rfl, rfl, Or.inl (by assumption)⟩ | exact Or.inl ⟨rfl, rfl, Or.inr (by assumption)⟩ | exact Or.inr ⟨rfl, rfl, by assumption, by assumption⟩), ⟨by rw [ht]; exact hP9, va_K.moved hW.alike hK9, hD9⟩⟩, hS.F ht⟩) hS.2.2 dX17_open_31 hlocks

set_option maxHeartbeats 4000000 in
set_option maxRecDepth 100000 in
theorem m_wish (l : Launch) (D : va_G) (de : Nat) (ad : Nat → Nat) (c0 : Int32) (p0 p1 p2 p3 : Int32) (sz : Nat) : Met l yX17_wish wsX17_wish ({ frames := 1, cells := 0, slots := 0, locals := 22 } : Room) (va_Pc [.ref (ad 40), .int p0, .int p1, .int p2, .int p3] (PX de D ([]) (wM ad de c0) sz)) (va_Qi (fun (r : Int32) (u : Int32 × List Value) => (u.1 = 1 ∧ r = 0 ∧ (inR p0 1 400 = 0 ∨ inR p1 1 400 = 0)) ∨ (u.1 = 2 ∧ r = 0 ∧ (¬ inR p0 1 400 = 0 ∧ ¬ inR p1 1 400 = 0))) (fun u t => PW D ([]) (va_A (wM ad de c0) sz) ([(ad 40, .inr (22, .int u.1 :: u.2))]) t) (va_A (wM ad de c0) sz)) 0 0 (va_A (wM ad de c0) sz) := by
  refine Met.ofW (cc := cX17_wish) (maxL := 7) (ret := (some .int)) (by decide) rfl ?_
  intro p e s m args below meth c s₁ B hml hv
  obtain ⟨rfl, hsz, hP, hK, hD0, hTK, hZ⟩ := hv
  have hx := B.exec
  have hb := B.bytes
  have hr := B.returns
  have hts := atoms_spec (ws := wsX17_wish) B.pre
  have hown : s.vm.findClass RX17 = some m.cls := findClass_of_methodNamed B.named
  have hlocks := B.notSynchronized
  have hin_RX17 : ∀ w ∈ u_ws RX17 TX17 13, w ∈ wsX17_wish := by decide +kernel
  subst hsz
  have hD := hD0.self (sz := s.heap.size)
  generalize hAe : va_A (wM ad de c0) s.heap.size = A at hD hZ ⊢
  have hA : ∀ q : Nat, s.heap.size ≤ q → A q := fun q h => by rw [← hAe]; exact Or.inr h
  have hS : va_S A s.heap s.heap [] := va_S.rf
  have hP : va_P D vwCl (wM ad de c0) s.heap := hP
  have hD : va_D A (wM ad de c0) := hD
  have hl := lv_entry ([.ref (ad 40), .int p0, .int p1, .int p2, .int p3]) (n := 7) (Nat.le_of_ble_eq_true rfl)
  rw [lg_entry_eq]
  generalize (lg_sl ([.ref (ad 40), .int p0, .int p1, .int p2, .int p3]) ++ List.replicate (7 - (lg_sl ([.ref (ad 40), .int p0, .int p1, .int p2, .int p3])).length) Slot.unset).toArray = ls at hl ⊢
  have hl : lv_has ls 7 [(0, .ref (ad 40)), (1, .int p0), (2, .int p1), (3, .int p2), (4, .int p3)] := hl
  refine lv_aload_n hx hb dX17_wish_0 rfl (lv_at hl 0 rfl) ?_
  refine lv_iconst (v := 0) hx hb dX17_wish_1 (by decide) ?_
  refine va_put (D := D) (ci := 22) (v := .int 0) (ty := .int) (C := RX17) (T := TX17) (N := 13) hx hb hts hin_RX17 tyX17 tyX17_ok nmX17 hown hK hP hD hS 0 rfl rfl 0 (by decide) (hts (.fieldLink RX17 41 "PopupwrightModel" "code" "I") (by decide +kernel)) (fun _ h9 => h9) rfl (by decide +kernel) rfl rfl (Nat.le_of_ble_eq_true rfl) dX17_wish_2 (fun H locs hP hD hS => ?_)
  have hP : va_P D vwCl (wM ad de 0) H := hP
  have hD : va_D A (wM ad de 0) := hD
  refine lv_iload_n hx hb dX17_wish_5 rfl (lv_at hl 1 rfl) ?_
  refine lv_iconst (v := 1) hx hb dX17_wish_6 (by decide) ?_
  refine lv_sipush (v := 400) hx hb dX17_wish_7 (by decide) ?_
  refine kx_i (wc := []) (wr := wM ad de 0) hP hD hS hA [] [0, 1, 2, 3, 4] rfl rfl (by decide) (by decide) (va_runS (As := [.int p0, .int 1, .int 400]) (rest := []) ⟨hx, hb, hml, hown, hts⟩ (c_in l D de p0 1 400 H.size) (va_cwS 3 hts gX17_wish_X17_in rfl rfl rfl (by decide +kernel) ⟨Nat.le_of_ble_eq_true rfl, Nat.le_of_ble_eq_true rfl⟩) ⟨px_blind, (px_pre hP hD hK hS hA hTK hZ [] rfl rfl (by decide) [] rfl)⟩ rfl rfl hl.1 rfl (lv_room (Nat.le_of_ble_eq_true rfl)) dX17_wish_10 ⟨(Nat.le_of_ble_eq_true rfl), (Nat.le_of_ble_eq_true rfl)⟩) (fun r_1 u H locs hw hP hD hK1 hS => ?_)
  have hP : va_P D vwCl (wM ad de 0) H := hP
  have hD : va_D A (wM ad de 0) := hD
  obtain rfl : r_1 = inR p0 1 400 := hw
  refine lv_if_eq (tgt := 27) hx hb dX17_wish_13 (by decide) (fun c_13 => ?_) (fun c_13 => ?_)
  · refine lv_aload_n hx hb dX17_wish_27 rfl (lv_at hl 0 rfl) ?_
    refine lv_iconst (v := 1) hx hb dX17_wish_28 (by decide) ?_
    refine kx_i (wc := wM ad de 0) (wr := []) hP hD hS hA [0, 1, 2, 3, 4] [] rfl rfl (by decide) (by decide) (va_runV (As := [.int 1]) (rest := []) ⟨hx, hb, hml, hown, hts⟩ (c_fails l D de ad 0 1 H.size) (cwV 1 hts gX17_wish_X17_fails rfl rfl rfl (by decide +kernel) ⟨Nat.le_of_ble_eq_true rfl, Nat.le_of_ble_eq_true rfl⟩) ⟨px_blind, (va_recv hK hP (ci := 22) (q0 := 0) rfl rfl), (px_pre hP hD hK hS hA hTK hZ [0, 1, 2, 3, 4] rfl rfl (by decide) [] rfl)⟩ rfl rfl hl.1 rfl (lv_room (Nat.le_of_ble_eq_true rfl)) dX17_wish_29 ⟨(Nat.le_of_ble_eq_true rfl), (Nat.le_of_ble_eq_true rfl)⟩) (fun r_2 u H locs hw hP hD hK1 hS => ?_)
    have hP : va_P D vwCl (wM ad de 1) H := hP
    have hD : va_D A (wM ad de 1) := hD
    obtain rfl : r_2 = 0 := hw
    refine W.widen (k := 0) (n := 0) (Nat.le_of_ble_eq_true rfl) (Nat.le_of_ble_eq_true rfl) ?_
    have hP9 := hP.sub (ws' := ([(ad 40, .inr (22, [.int 1, .int 0, .int 0, .int 0, .ref (ad 41), .ref (ad 42), .ref (ad 43), .ref (ad 44), .int 500, .int 700, .int 10, .int 200, .ref (ad 45)]))])) [0] rfl
    have hD9 := hD.sub (ws' := ([(ad 40, .inr (22, [.int 1, .int 0, .int 0, .int 0, .ref (ad 41), .ref (ad 42), .ref (ad 43), .ref (ad 44), .int 500, .int 700, .int 10, .int 200, .ref (ad 45)]))])) [0] (by decide) rfl
    have hK9 := hK.sub (tys' := []) [] rfl
    exact W.iret (v := 0) hx hb hr (fun t ht hW => ⟨⟨0, (1, [.int 0, .int 0, .int 0, .ref (ad 41), .ref (ad 42), .ref (ad 43), .ref (ad 44), .int 500, .int 700, .int 10, .int 200, .ref (ad 45)]), rfl, (by first | exact ⟨rfl, rfl⟩ | exact ⟨rfl, rfl, by assumption⟩ | exact Or.inl ⟨rfl, rfl, by assumption⟩ | exact Or.inr ⟨rfl, rfl, by assumption⟩ | exact Or.inl ⟨rfl, rfl, Or.inl (by assumption)⟩ | exact Or.inl ⟨rfl, rfl, Or.inr (by assumption)⟩ | exact Or.inr ⟨rfl, rfl, by assumption, by assumption⟩), ⟨by rw [ht]; exact hP9, va_K.moved hW.alike hK9, hD9⟩⟩, hS.F ht⟩) hS.2.2 dX17_wish_32 hlocks
  · refine lv_iload_n hx hb dX17_wish_16 rfl (lv_at hl 2 rfl) ?_
    refine lv_iconst (v := 1) hx hb dX17_wish_17 (by decide) ?_
    refine lv_sipush (v := 400) hx hb dX17_wish_18 (by decide) ?_
    refine kx_i (wc := []) (wr := wM ad de 0) hP hD hS hA [] [0, 1, 2, 3, 4] rfl rfl (by decide) (by decide) (va_runS (As := [.int p1, .int 1, .int 400]) (rest := []) ⟨hx, hb, hml, hown, hts⟩ (c_in l D de p1 1 400 H.size) (va_cwS 3 hts gX17_wish_X17_in rfl rfl rfl (by decide +kernel) ⟨Nat.le_of_ble_eq_true rfl, Nat.le_of_ble_eq_true rfl⟩) ⟨px_blind, (px_pre hP hD hK hS hA hTK hZ [] rfl rfl (by decide) [] rfl)⟩ rfl rfl hl.1 rfl (lv_room (Nat.le_of_ble_eq_true rfl)) dX17_wish_21 ⟨(Nat.le_of_ble_eq_true rfl), (Nat.le_of_ble_eq_true rfl)⟩) (fun r_3 u H locs hw hP hD hK1 hS => ?_)
    have hP : va_P D vwCl (wM ad de 0) H := hP
    have hD : va_D A (wM ad de 0) := hD
    obtain rfl : r_3 = inR p1 1 400 := hw
    refine lv_if_ne (tgt := 33) hx hb dX17_wish_24 (by decide) (fun c_24 => ?_) (fun c_24 => ?_)
    · refine lv_aload_n hx hb dX17_wish_33 rfl (lv_at hl 0 rfl) ?_
      refine va_get (D := D) (ci := 22) (v := .int 0) (C := RX17) (T := TX17) (N := 13) hx hb hts hin_RX17 hown hK hP 0 rfl rfl 1 (by decide) (hts (.fieldLink RX17 58 "PopupwrightModel" "hasSpread" "Z") (by decide +kernel)) (fun _ h9 => h9) rfl dX17_wish_34 ?_
      refine lv_if_eq (tgt := 59) hx hb dX17_wish_37 (by decide) (fun _ => ?_) (fun h_ => absurd (by decide) h_)
      refine lv_aload_n hx hb dX17_wish_59 rfl (lv_at hl 0 rfl) ?_
      refine lv_iconst (v := 2) hx hb dX17_wish_60 (by decide) ?_
      refine kx_i (wc := wM ad de 0) (wr := []) hP hD hS hA [0, 1, 2, 3, 4] [] rfl rfl (by decide) (by decide) (va_runV (As := [.int 2]) (rest := []) ⟨hx, hb, hml, hown, hts⟩ (c_fails l D de ad 0 2 H.size) (cwV 1 hts gX17_wish_X17_fails rfl rfl rfl (by decide +kernel) ⟨Nat.le_of_ble_eq_true rfl, Nat.le_of_ble_eq_true rfl⟩) ⟨px_blind, (va_recv hK hP (ci := 22) (q0 := 0) rfl rfl), (px_pre hP hD hK hS hA hTK hZ [0, 1, 2, 3, 4] rfl rfl (by decide) [] rfl)⟩ rfl rfl hl.1 rfl (lv_room (Nat.le_of_ble_eq_true rfl)) dX17_wish_61 ⟨(Nat.le_of_ble_eq_true rfl), (Nat.le_of_ble_eq_true rfl)⟩) (fun r_4 u H locs hw hP hD hK1 hS => ?_)
      have hP : va_P D vwCl (wM ad de 2) H := hP
      have hD : va_D A (wM ad de 2) := hD
      obtain rfl : r_4 = 0 := hw
      refine W.widen (k := 0) (n := 0) (Nat.le_of_ble_eq_true rfl) (Nat.le_of_ble_eq_true rfl) ?_
      have hP9 := hP.sub (ws' := ([(ad 40, .inr (22, [.int 2, .int 0, .int 0, .int 0, .ref (ad 41), .ref (ad 42), .ref (ad 43), .ref (ad 44), .int 500, .int 700, .int 10, .int 200, .ref (ad 45)]))])) [0] rfl
      have hD9 := hD.sub (ws' := ([(ad 40, .inr (22, [.int 2, .int 0, .int 0, .int 0, .ref (ad 41), .ref (ad 42), .ref (ad 43), .ref (ad 44), .int 500, .int 700, .int 10, .int 200, .ref (ad 45)]))])) [0] (by decide) rfl
      have hK9 := hK.sub (tys' := []) [] rfl
      exact W.iret (v := 0) hx hb hr (fun t ht hW => ⟨⟨0, (2, [.int 0, .int 0, .int 0, .ref (ad 41), .ref (ad 42), .ref (ad 43), .ref (ad 44), .int 500, .int 700, .int 10, .int 200, .ref (ad 45)]), rfl, (by first | exact ⟨rfl, rfl⟩ | exact ⟨rfl, rfl, by assumption⟩ | exact Or.inl ⟨rfl, rfl, by assumption⟩ | exact Or.inr ⟨rfl, rfl, by assumption⟩ | exact Or.inl ⟨rfl, rfl, Or.inl (by assumption)⟩ | exact Or.inl ⟨rfl, rfl, Or.inr (by assumption)⟩ | exact Or.inr ⟨rfl, rfl, by assumption, by assumption⟩), ⟨by rw [ht]; exact hP9, va_K.moved hW.alike hK9, hD9⟩⟩, hS.F ht⟩) hS.2.2 dX17_wish_64 hlocks
    · refine lv_aload_n hx hb dX17_wish_27 rfl (lv_at hl 0 rfl) ?_
      refine lv_iconst (v := 1) hx hb dX17_wish_28 (by decide) ?_
      refine kx_i (wc := wM ad de 0) (wr := []) hP hD hS hA [0, 1, 2, 3, 4] [] rfl rfl (by decide) (by decide) (va_runV (As := [.int 1]) (rest := []) ⟨hx, hb, hml, hown, hts⟩ (c_fails l D de ad 0 1 H.size) (cwV 1 hts gX17_wish_X17_fails rfl rfl rfl (by decide +kernel) ⟨Nat.le_of_ble_eq_true rfl, Nat.le_of_ble_eq_true rfl⟩) ⟨px_blind, (va_recv hK hP (ci := 22) (q0 := 0) rfl rfl), (px_pre hP hD hK hS hA hTK hZ [0, 1, 2, 3, 4] rfl rfl (by decide) [] rfl)⟩ rfl rfl hl.1 rfl (lv_room (Nat.le_of_ble_eq_true rfl)) dX17_wish_29 ⟨(Nat.le_of_ble_eq_true rfl), (Nat.le_of_ble_eq_true rfl)⟩) (fun r_5 u H locs hw hP hD hK1 hS => ?_)
      have hP : va_P D vwCl (wM ad de 1) H := hP
      have hD : va_D A (wM ad de 1) := hD
      obtain rfl : r_5 = 0 := hw
      refine W.widen (k := 0) (n := 0) (Nat.le_of_ble_eq_true rfl) (Nat.le_of_ble_eq_true rfl) ?_
      have hP9 := hP.sub (ws' := ([(ad 40, .inr (22, [.int 1, .int 0, .int 0, .int 0, .ref (ad 41), .ref (ad 42), .ref (ad 43), .ref (ad 44), .int 500, .int 700, .int 10, .int 200, .ref (ad 45)]))])) [0] rfl
      have hD9 := hD.sub (ws' := ([(ad 40, .inr (22, [.int 1, .int 0, .int 0, .int 0, .ref (ad 41), .ref (ad 42), .ref (ad 43), .ref (ad 44), .int 500, .int 700, .int 10, .int 200, .ref (ad 45)]))])) [0] (by decide) rfl
      have hK9 := hK.sub (tys' := []) [] rfl
      exact W.iret (v := 0) hx hb hr (fun t ht hW => ⟨⟨0, (1, [.int 0, .int 0, .int 0, .ref (ad 41), .ref (ad 42), .ref (ad 43), .ref (ad 44), .int 500, .int 700, .int 10, .int 200, .ref (ad 45)]), rfl, (by first | exact ⟨rfl, rfl⟩ | exact ⟨rfl, rfl, by assumption⟩ | exact Or.inl ⟨rfl, rfl, by assumption⟩ | exact Or.inr ⟨rfl, rfl, by assumption⟩ | exact Or.inl ⟨rfl, rfl, Or.inl (by assumption)⟩ | exact Or.inl ⟨rfl, rfl, Or.inr (by assumption)⟩ | exact Or.inr ⟨rfl, rfl, by assumption, by assumption⟩), ⟨by rw [ht]; exact hP9, va_K.moved hW.alike hK9, hD9⟩⟩, hS.F ht⟩) hS.2.2 dX17_wish_32 hlocks

set_option maxHeartbeats 4000000 in
set_option maxRecDepth 100000 in
theorem m_forChild (l : Launch) (D : va_G) (de : Nat) (ad : Nat → Nat) (c0 : Int32) (p0 : Int32) (sz : Nat) : Met l yX17_forChild wsX17_forChild ({ frames := 1, cells := 0, slots := 0, locals := 22 } : Room) (va_Pc [.ref (ad 40), .int p0] (PX de D ([]) (wM ad de c0) sz)) (va_Qi (fun (r : Int32) (u : Int32 × List Value) => (u.1 = 1 ∧ r = 0 ∧ inR p0 0 99 = 0) ∨ (u.1 = 2 ∧ r = 0 ∧ ¬ inR p0 0 99 = 0)) (fun u t => PW D ([]) (va_A (wM ad de c0) sz) ([(ad 40, .inr (22, .int u.1 :: u.2))]) t) (va_A (wM ad de c0) sz)) 0 0 (va_A (wM ad de c0) sz) := by
  refine Met.ofW (cc := cX17_forChild) (maxL := 7) (ret := (some .char)) (by decide) rfl ?_
  intro p e s m args below meth c s₁ B hml hv
  obtain ⟨rfl, hsz, hP, hK, hD0, hTK, hZ⟩ := hv
  have hx := B.exec
  have hb := B.bytes
  have hr := B.returns
  have hts := atoms_spec (ws := wsX17_forChild) B.pre
  have hown : s.vm.findClass RX17 = some m.cls := findClass_of_methodNamed B.named
  have hlocks := B.notSynchronized
  have hin_RX17 : ∀ w ∈ u_ws RX17 TX17 13, w ∈ wsX17_forChild := by decide +kernel
  subst hsz
  have hD := hD0.self (sz := s.heap.size)
  generalize hAe : va_A (wM ad de c0) s.heap.size = A at hD hZ ⊢
  have hA : ∀ q : Nat, s.heap.size ≤ q → A q := fun q h => by rw [← hAe]; exact Or.inr h
  have hS : va_S A s.heap s.heap [] := va_S.rf
  have hP : va_P D vwCl (wM ad de c0) s.heap := hP
  have hD : va_D A (wM ad de c0) := hD
  have hl := lv_entry ([.ref (ad 40), .int p0]) (n := 7) (Nat.le_of_ble_eq_true rfl)
  rw [lg_entry_eq]
  generalize (lg_sl ([.ref (ad 40), .int p0]) ++ List.replicate (7 - (lg_sl ([.ref (ad 40), .int p0])).length) Slot.unset).toArray = ls at hl ⊢
  have hl : lv_has ls 7 [(0, .ref (ad 40)), (1, .int p0)] := hl
  refine lv_aload_n hx hb dX17_forChild_0 rfl (lv_at hl 0 rfl) ?_
  refine lv_iload_n hx hb dX17_forChild_1 rfl (lv_at hl 1 rfl) ?_
  refine lv_iconst (v := 0) hx hb dX17_forChild_2 (by decide) ?_
  refine lv_bipush (v := 99) hx hb dX17_forChild_3 (by decide) ?_
  refine kx_i (wc := []) (wr := wM ad de c0) hP hD hS hA [] [0, 1, 2, 3, 4] rfl rfl (by decide) (by decide) (va_runS (As := [.int p0, .int 0, .int 99]) (rest := [.ref (ad 40)]) ⟨hx, hb, hml, hown, hts⟩ (c_in l D de p0 0 99 s.heap.size) (va_cwS 3 hts gX17_forChild_X17_in rfl rfl rfl (by decide +kernel) ⟨Nat.le_of_ble_eq_true rfl, Nat.le_of_ble_eq_true rfl⟩) ⟨px_blind, (px_pre hP hD hK hS hA hTK hZ [] rfl rfl (by decide) [] rfl)⟩ rfl rfl hl.1 rfl (lv_room (Nat.le_of_ble_eq_true rfl)) dX17_forChild_5 ⟨(Nat.le_of_ble_eq_true rfl), (Nat.le_of_ble_eq_true rfl)⟩) (fun r_1 u H locs hw hP hD hK1 hS => ?_)
  have hP : va_P D vwCl (wM ad de c0) H := hP
  have hD : va_D A (wM ad de c0) := hD
  obtain rfl : r_1 = inR p0 0 99 := hw
  refine lv_if_ne (tgt := 15) hx hb dX17_forChild_8 (by decide) (fun c_8 => ?_) (fun c_8 => ?_)
  · refine lv_aload_n hx hb dX17_forChild_15 rfl (lv_at hl 0 rfl) ?_
    refine va_get (D := D) (ci := 22) (v := .int 0) (C := RX17) (T := TX17) (N := 13) hx hb hts hin_RX17 hown hK hP 0 rfl rfl 1 (by decide) (hts (.fieldLink RX17 58 "PopupwrightModel" "hasSpread" "Z") (by decide +kernel)) (fun _ h9 => h9) rfl dX17_forChild_16 ?_
    refine lv_if_ne (tgt := 26) hx hb dX17_forChild_19 (by decide) (fun h_ => absurd (by decide) h_) (fun _ => ?_)
    refine lv_iconst (v := 2) hx hb dX17_forChild_22 (by decide) ?_
    refine lv_goto (tgt := 27) hx hb dX17_forChild_23 (by decide) ?_
    refine va_put (D := D) (ci := 22) (v := .int 2) (ty := .int) (C := RX17) (T := TX17) (N := 13) hx hb hts hin_RX17 tyX17 tyX17_ok nmX17 hown hK hP hD hS 0 rfl rfl 0 (by decide) (hts (.fieldLink RX17 41 "PopupwrightModel" "code" "I") (by decide +kernel)) (fun _ h9 => h9) rfl (by decide +kernel) rfl rfl (Nat.le_of_ble_eq_true rfl) dX17_forChild_27 (fun H locs hP hD hS => ?_)
    have hP : va_P D vwCl (wM ad de 2) H := hP
    have hD : va_D A (wM ad de 2) := hD
    refine lv_aload_n hx hb dX17_forChild_30 rfl (lv_at hl 0 rfl) ?_
    refine va_get (D := D) (ci := 22) (v := .int 2) (C := RX17) (T := TX17) (N := 13) hx hb hts hin_RX17 hown hK hP 0 rfl rfl 0 (by decide) (hts (.fieldLink RX17 41 "PopupwrightModel" "code" "I") (by decide +kernel)) (fun _ h9 => h9) rfl dX17_forChild_31 ?_
    refine lv_if_le (tgt := 39) hx hb dX17_forChild_34 (by decide) (fun h_ => absurd h_ (by decide)) (fun _ => ?_)
    refine lv_iconst (v := 0) hx hb dX17_forChild_37 (by decide) ?_
    refine W.widen (k := 0) (n := 0) (Nat.le_of_ble_eq_true rfl) (Nat.le_of_ble_eq_true rfl) ?_
    have hP9 := hP.sub (ws' := ([(ad 40, .inr (22, [.int 2, .int 0, .int 0, .int 0, .ref (ad 41), .ref (ad 42), .ref (ad 43), .ref (ad 44), .int 500, .int 700, .int 10, .int 200, .ref (ad 45)]))])) [0] rfl
    have hD9 := hD.sub (ws' := ([(ad 40, .inr (22, [.int 2, .int 0, .int 0, .int 0, .ref (ad 41), .ref (ad 42), .ref (ad 43), .ref (ad 44), .int 500, .int 700, .int 10, .int 200, .ref (ad 45)]))])) [0] (by decide) rfl
    have hK9 := hK.sub (tys' := []) [] rfl
    exact W.zret (v := 0) hx hb hr (by decide) (fun t ht hW => ⟨⟨0, (2, [.int 0, .int 0, .int 0, .ref (ad 41), .ref (ad 42), .ref (ad 43), .ref (ad 44), .int 500, .int 700, .int 10, .int 200, .ref (ad 45)]), rfl, (by first | exact ⟨rfl, rfl⟩ | exact ⟨rfl, rfl, by assumption⟩ | exact Or.inl ⟨rfl, rfl, by assumption⟩ | exact Or.inr ⟨rfl, rfl, by assumption⟩ | exact Or.inl ⟨rfl, rfl, Or.inl (by assumption)⟩ | exact Or.inl ⟨rfl, rfl, Or.inr (by assumption)⟩ | exact Or.inr ⟨rfl, rfl, by assumption, by assumption⟩), ⟨by rw [ht]; exact hP9, va_K.moved hW.alike hK9, hD9⟩⟩, hS.F ht⟩) hS.2.2 dX17_forChild_38 hlocks
  · refine lv_iconst (v := 1) hx hb dX17_forChild_11 (by decide) ?_
    refine lv_goto (tgt := 27) hx hb dX17_forChild_12 (by decide) ?_
    refine va_put (D := D) (ci := 22) (v := .int 1) (ty := .int) (C := RX17) (T := TX17) (N := 13) hx hb hts hin_RX17 tyX17 tyX17_ok nmX17 hown hK hP hD hS 0 rfl rfl 0 (by decide) (hts (.fieldLink RX17 41 "PopupwrightModel" "code" "I") (by decide +kernel)) (fun _ h9 => h9) rfl (by decide +kernel) rfl rfl (Nat.le_of_ble_eq_true rfl) dX17_forChild_27 (fun H locs hP hD hS => ?_)
    have hP : va_P D vwCl (wM ad de 1) H := hP
    have hD : va_D A (wM ad de 1) := hD
    refine lv_aload_n hx hb dX17_forChild_30 rfl (lv_at hl 0 rfl) ?_
    refine va_get (D := D) (ci := 22) (v := .int 1) (C := RX17) (T := TX17) (N := 13) hx hb hts hin_RX17 hown hK hP 0 rfl rfl 0 (by decide) (hts (.fieldLink RX17 41 "PopupwrightModel" "code" "I") (by decide +kernel)) (fun _ h9 => h9) rfl dX17_forChild_31 ?_
    refine lv_if_le (tgt := 39) hx hb dX17_forChild_34 (by decide) (fun h_ => absurd h_ (by decide)) (fun _ => ?_)
    refine lv_iconst (v := 0) hx hb dX17_forChild_37 (by decide) ?_
    refine W.widen (k := 0) (n := 0) (Nat.le_of_ble_eq_true rfl) (Nat.le_of_ble_eq_true rfl) ?_
    have hP9 := hP.sub (ws' := ([(ad 40, .inr (22, [.int 1, .int 0, .int 0, .int 0, .ref (ad 41), .ref (ad 42), .ref (ad 43), .ref (ad 44), .int 500, .int 700, .int 10, .int 200, .ref (ad 45)]))])) [0] rfl
    have hD9 := hD.sub (ws' := ([(ad 40, .inr (22, [.int 1, .int 0, .int 0, .int 0, .ref (ad 41), .ref (ad 42), .ref (ad 43), .ref (ad 44), .int 500, .int 700, .int 10, .int 200, .ref (ad 45)]))])) [0] (by decide) rfl
    have hK9 := hK.sub (tys' := []) [] rfl
    exact W.zret (v := 0) hx hb hr (by decide) (fun t ht hW => ⟨⟨0, (1, [.int 0, .int 0, .int 0, .ref (ad 41), .ref (ad 42), .ref (ad 43), .ref (ad 44), .int 500, .int 700, .int 10, .int 200, .ref (ad 45)]), rfl, (by first | exact ⟨rfl, rfl⟩ | exact ⟨rfl, rfl, by assumption⟩ | exact Or.inl ⟨rfl, rfl, by assumption⟩ | exact Or.inr ⟨rfl, rfl, by assumption⟩ | exact Or.inl ⟨rfl, rfl, Or.inl (by assumption)⟩ | exact Or.inl ⟨rfl, rfl, Or.inr (by assumption)⟩ | exact Or.inr ⟨rfl, rfl, by assumption, by assumption⟩), ⟨by rw [ht]; exact hP9, va_K.moved hW.alike hK9, hD9⟩⟩, hS.F ht⟩) hS.2.2 dX17_forChild_38 hlocks

set_option maxHeartbeats 4000000 in
set_option maxRecDepth 100000 in
theorem m_tornShare (l : Launch) (D : va_G) (de : Nat) (ad : Nat → Nat) (c0 : Int32) (sz : Nat) : Met l yX17_tornShare wsX17_tornShare ({ frames := 1, cells := 0, slots := 0, locals := 20 } : Room) (va_Pc [.ref (ad 40)] (PX de D ([]) (wM ad de c0) sz)) (va_Qf (fun (r : UInt32) (u : Int32 × List Value) => (u.1 = 1 ∧ r = FP.fconst0)) (fun u t => PW D ([]) (va_A (wM ad de c0) sz) ([(ad 40, .inr (22, .int u.1 :: u.2))]) t) (va_A (wM ad de c0) sz)) 0 0 (va_A (wM ad de c0) sz) := by
  refine Met.ofW (cc := cX17_tornShare) (maxL := 1) (ret := (some .float)) (by decide) rfl ?_
  intro p e s m args below meth c s₁ B hml hv
  obtain ⟨rfl, hsz, hP, hK, hD0, hTK, hZ⟩ := hv
  have hx := B.exec
  have hb := B.bytes
  have hr := B.returns
  have hts := atoms_spec (ws := wsX17_tornShare) B.pre
  have hown : s.vm.findClass RX17 = some m.cls := findClass_of_methodNamed B.named
  have hlocks := B.notSynchronized
  have hin_RX17 : ∀ w ∈ u_ws RX17 TX17 13, w ∈ wsX17_tornShare := by decide +kernel
  subst hsz
  have hD := hD0.self (sz := s.heap.size)
  generalize hAe : va_A (wM ad de c0) s.heap.size = A at hD hZ ⊢
  have hA : ∀ q : Nat, s.heap.size ≤ q → A q := fun q h => by rw [← hAe]; exact Or.inr h
  have hS : va_S A s.heap s.heap [] := va_S.rf
  have hP : va_P D vwCl (wM ad de c0) s.heap := hP
  have hD : va_D A (wM ad de c0) := hD
  have hl := lv_entry ([.ref (ad 40)]) (n := 1) (Nat.le_of_ble_eq_true rfl)
  rw [lg_entry_eq]
  generalize (lg_sl ([.ref (ad 40)]) ++ List.replicate (1 - (lg_sl ([.ref (ad 40)])).length) Slot.unset).toArray = ls at hl ⊢
  have hl : lv_has ls 1 [(0, .ref (ad 40))] := hl
  refine lv_aload_n hx hb dX17_tornShare_0 rfl (lv_at hl 0 rfl) ?_
  refine lv_aload_n hx hb dX17_tornShare_1 rfl (lv_at hl 0 rfl) ?_
  refine va_get (D := D) (ci := 22) (v := .ref (ad 42)) (C := RX17) (T := TX17) (N := 13) hx hb hts hin_RX17 hown hK hP 0 rfl rfl 5 (by decide) (hts (.fieldLink RX17 16 "PopupwrightModel" "folds" "Ljava/util/List;") (by decide +kernel)) (fun _ h9 => h9) rfl dX17_tornShare_2 ?_
  refine kx_Fi (wc := [(ad 42, .inr (4, [.int 0, .ref de, .int 0]))]) (wr := [(ad 40, .inr (22, [.int c0, .int 0, .int 0, .int 0, .ref (ad 41), .ref (ad 42), .ref (ad 43), .ref (ad 44), .int 500, .int 700, .int 10, .int 200, .ref (ad 45)])), (ad 41, .inr (4, [.int 0, .ref de, .int 0])), (ad 43, .inr (4, [.int 0, .ref de, .int 0])), (ad 44, .inr (4, [.int 0, .ref de, .int 0]))]) hP hD hS hA [2] [0, 1, 3, 4] rfl rfl (by decide) (by decide) (va_runF (As := []) (rest := [.ref (ad 40)]) (hK.1 4 _ rfl).2 ⟨hx, hb, hml, hown, hts⟩ (l_isEmpty l D de (ad 42) de 0 s.heap.size) (va_cwF 0 hts gX17_tornShare_Jx4a65c_isEmpty_aae02_f253Jx4a65c rfl rfl rfl (hTK.2.2.2.2.2.1 (RJx4a65c, ⟨"java/util/List", "isEmpty", "()Z"⟩, yJx4a65c_isEmpty_aae02) (by decide +kernel)) (by decide +kernel) ⟨Nat.le_of_ble_eq_true rfl, Nat.le_of_ble_eq_true rfl⟩) ⟨px_blind, (va_recv hK hP (ci := 4) (q0 := 2) rfl rfl), (px_pre hP hD hK hS hA hTK hZ [2] rfl rfl (by decide) [] rfl)⟩ rfl rfl hl.1 rfl (lv_room (Nat.le_of_ble_eq_true rfl)) dX17_tornShare_5 ⟨(Nat.le_of_ble_eq_true rfl), (Nat.le_of_ble_eq_true rfl)⟩) (fun r_1 u H locs hw hP hD hK1 hS => ?_)
  have hP : va_P D vwCl ([(ad 40, .inr (22, [.int c0, .int 0, .int 0, .int 0, .ref (ad 41), .ref (ad 42), .ref (ad 43), .ref (ad 44), .int 500, .int 700, .int 10, .int 200, .ref (ad 45)])), (ad 41, .inr (4, [.int 0, .ref de, .int 0])), (ad 43, .inr (4, [.int 0, .ref de, .int 0])), (ad 44, .inr (4, [.int 0, .ref de, .int 0])), (ad 42, .inr (4, [.int 0, .ref de, .int 0]))]) H := hP
  have hD : va_D A ([(ad 40, .inr (22, [.int c0, .int 0, .int 0, .int 0, .ref (ad 41), .ref (ad 42), .ref (ad 43), .ref (ad 44), .int 500, .int 700, .int 10, .int 200, .ref (ad 45)])), (ad 41, .inr (4, [.int 0, .ref de, .int 0])), (ad 43, .inr (4, [.int 0, .ref de, .int 0])), (ad 44, .inr (4, [.int 0, .ref de, .int 0])), (ad 42, .inr (4, [.int 0, .ref de, .int 0]))]) := hD
  obtain rfl : r_1 = 1 := hw
  refine lv_if_eq (tgt := 17) hx hb dX17_tornShare_10 (by decide) (fun h_ => absurd h_ (by decide)) (fun _ => ?_)
  refine lv_iconst (v := 1) hx hb dX17_tornShare_13 (by decide) ?_
  refine lv_goto (tgt := 18) hx hb dX17_tornShare_14 (by decide) ?_
  refine va_put (D := D) (ci := 22) (v := .int 1) (ty := .int) (C := RX17) (T := TX17) (N := 13) hx hb hts hin_RX17 tyX17 tyX17_ok nmX17 hown hK hP hD hS 0 rfl rfl 0 (by decide) (hts (.fieldLink RX17 41 "PopupwrightModel" "code" "I") (by decide +kernel)) (fun _ h9 => h9) rfl (by decide +kernel) rfl rfl (Nat.le_of_ble_eq_true rfl) dX17_tornShare_18 (fun H locs hP hD hS => ?_)
  have hP : va_P D vwCl ([(ad 40, .inr (22, [.int 1, .int 0, .int 0, .int 0, .ref (ad 41), .ref (ad 42), .ref (ad 43), .ref (ad 44), .int 500, .int 700, .int 10, .int 200, .ref (ad 45)])), (ad 41, .inr (4, [.int 0, .ref de, .int 0])), (ad 43, .inr (4, [.int 0, .ref de, .int 0])), (ad 44, .inr (4, [.int 0, .ref de, .int 0])), (ad 42, .inr (4, [.int 0, .ref de, .int 0]))]) H := hP
  have hD : va_D A ([(ad 40, .inr (22, [.int 1, .int 0, .int 0, .int 0, .ref (ad 41), .ref (ad 42), .ref (ad 43), .ref (ad 44), .int 500, .int 700, .int 10, .int 200, .ref (ad 45)])), (ad 41, .inr (4, [.int 0, .ref de, .int 0])), (ad 43, .inr (4, [.int 0, .ref de, .int 0])), (ad 44, .inr (4, [.int 0, .ref de, .int 0])), (ad 42, .inr (4, [.int 0, .ref de, .int 0]))]) := hD
  refine lv_aload_n hx hb dX17_tornShare_21 rfl (lv_at hl 0 rfl) ?_
  refine va_get (D := D) (ci := 22) (v := .int 1) (C := RX17) (T := TX17) (N := 13) hx hb hts hin_RX17 hown hK hP 0 rfl rfl 0 (by decide) (hts (.fieldLink RX17 41 "PopupwrightModel" "code" "I") (by decide +kernel)) (fun _ h9 => h9) rfl dX17_tornShare_22 ?_
  refine lv_if_le (tgt := 32) hx hb dX17_tornShare_25 (by decide) (fun h_ => absurd h_ (by decide)) (fun _ => ?_)
  refine lv_fconst0 hx hb dX17_tornShare_28 ?_
  refine lv_goto (tgt := 48) hx hb dX17_tornShare_29 (by decide) ?_
  refine W.widen (k := 0) (n := 0) (Nat.le_of_ble_eq_true rfl) (Nat.le_of_ble_eq_true rfl) ?_
  have hP9 := hP.sub (ws' := ([(ad 40, .inr (22, [.int 1, .int 0, .int 0, .int 0, .ref (ad 41), .ref (ad 42), .ref (ad 43), .ref (ad 44), .int 500, .int 700, .int 10, .int 200, .ref (ad 45)]))])) [0] rfl
  have hD9 := hD.sub (ws' := ([(ad 40, .inr (22, [.int 1, .int 0, .int 0, .int 0, .ref (ad 41), .ref (ad 42), .ref (ad 43), .ref (ad 44), .int 500, .int 700, .int 10, .int 200, .ref (ad 45)]))])) [0] (by decide) rfl
  have hK9 := hK.sub (tys' := []) [] rfl
  exact W.fret (v := FP.fconst0) hx hb hr (fun t ht hW => ⟨⟨FP.fconst0, (1, [.int 0, .int 0, .int 0, .ref (ad 41), .ref (ad 42), .ref (ad 43), .ref (ad 44), .int 500, .int 700, .int 10, .int 200, .ref (ad 45)]), rfl, (by first | exact ⟨rfl, rfl⟩ | exact ⟨rfl, rfl, by assumption⟩ | exact Or.inl ⟨rfl, rfl, by assumption⟩ | exact Or.inr ⟨rfl, rfl, by assumption⟩ | exact Or.inl ⟨rfl, rfl, Or.inl (by assumption)⟩ | exact Or.inl ⟨rfl, rfl, Or.inr (by assumption)⟩ | exact Or.inr ⟨rfl, rfl, by assumption, by assumption⟩), ⟨by rw [ht]; exact hP9, va_K.moved hW.alike hK9, hD9⟩⟩, hS.F ht⟩) hS.2.2 dX17_tornShare_48 hlocks

set_option maxHeartbeats 4000000 in
set_option maxRecDepth 100000 in
theorem m_meanLength (l : Launch) (D : va_G) (de : Nat) (ad : Nat → Nat) (c0 : Int32) (sz : Nat) : Met l yX17_meanLength wsX17_meanLength ({ frames := 5, cells := 2, slots := 7, locals := 95 } : Room) (va_Pc [.ref (ad 40)] (PX de D ([]) (wM ad de c0) sz)) (va_Qd (fun (r : UInt64) (u : Int32 × List Value) => (u.1 = 1 ∧ r = FP.dconst0)) (fun u t => PW D ([]) (va_A (wM ad de c0) sz) ([(ad 40, .inr (22, .int u.1 :: u.2))]) t) (va_A (wM ad de c0) sz)) 2 7 (va_A (wM ad de c0) sz) := by
  refine Met.ofW (cc := cX17_meanLength) (maxL := 5) (ret := (some .double)) (by decide) rfl ?_
  intro p e s m args below meth c s₁ B hml hv
  obtain ⟨rfl, hsz, hP, hK, hD0, hTK, hZ⟩ := hv
  have hx := B.exec
  have hb := B.bytes
  have hr := B.returns
  have hts := atoms_spec (ws := wsX17_meanLength) B.pre
  have hown : s.vm.findClass RX17 = some m.cls := findClass_of_methodNamed B.named
  have hlocks := B.notSynchronized
  have hin_RX17 : ∀ w ∈ u_ws RX17 TX17 13, w ∈ wsX17_meanLength := by decide +kernel
  subst hsz
  have hD := hD0.self (sz := s.heap.size)
  generalize hAe : va_A (wM ad de c0) s.heap.size = A at hD hZ ⊢
  have hA : ∀ q : Nat, s.heap.size ≤ q → A q := fun q h => by rw [← hAe]; exact Or.inr h
  have hS : va_S A s.heap s.heap [] := va_S.rf
  have hP : va_P D vwCl (wM ad de c0) s.heap := hP
  have hD : va_D A (wM ad de c0) := hD
  have hl := lv_entry ([.ref (ad 40)]) (n := 5) (Nat.le_of_ble_eq_true rfl)
  rw [lg_entry_eq]
  generalize (lg_sl ([.ref (ad 40)]) ++ List.replicate (5 - (lg_sl ([.ref (ad 40)])).length) Slot.unset).toArray = ls at hl ⊢
  have hl : lv_has ls 5 [(0, .ref (ad 40))] := hl
  refine lv_aload_n hx hb dX17_meanLength_0 rfl (lv_at hl 0 rfl) ?_
  refine kx_q (wc := wM ad de c0) (wr := []) hP hD hS hA [0, 1, 2, 3, 4] [] rfl rfl (by decide) (by decide) (va_runV (As := []) (rest := []) ⟨hx, hb, hml, hown, hts⟩ (c_strips l D de ad c0 s.heap.size) (cwV 0 hts gX17_meanLength_X17_strips rfl rfl rfl (by decide +kernel) ⟨Nat.le_of_ble_eq_true rfl, Nat.le_of_ble_eq_true rfl⟩) ⟨px_blind, (va_recv hK hP (ci := 22) (q0 := 0) rfl rfl), (px_pre hP hD hK hS hA hTK hZ [0, 1, 2, 3, 4] rfl rfl (by decide) [] rfl)⟩ rfl rfl hl.1 rfl (lv_room (Nat.le_of_ble_eq_true rfl)) dX17_meanLength_1 ⟨(Nat.le_of_ble_eq_true rfl), (Nat.le_of_ble_eq_true rfl)⟩) (fun r_1 u H locs hw hP hD hK1 hS => ?_)
  obtain ⟨nl_2, rfl⟩ : ∃ z, z = u := ⟨_, rfl⟩
  have hP : va_P D vwCl ([(ad 40, .inr (22, [.int c0, .int 0, .int 0, .int 0, .ref (ad 41), .ref (ad 42), .ref (ad 43), .ref (ad 44), .int 500, .int 700, .int 10, .int 200, .ref (ad 45)])), (ad 41, .inr (4, [.int 0, .ref de, .int 0])), (ad 42, .inr (4, [.int 0, .ref de, .int 0])), (ad 43, .inr (4, [.int 0, .ref de, .int 0])), (ad 44, .inr (4, [.int 0, .ref de, .int 0])), (nl_2, .inr (4, [.int 0, .ref de, .int 0]))]) H := hP
  have hD : va_D A ([(ad 40, .inr (22, [.int c0, .int 0, .int 0, .int 0, .ref (ad 41), .ref (ad 42), .ref (ad 43), .ref (ad 44), .int 500, .int 700, .int 10, .int 200, .ref (ad 45)])), (ad 41, .inr (4, [.int 0, .ref de, .int 0])), (ad 42, .inr (4, [.int 0, .ref de, .int 0])), (ad 43, .inr (4, [.int 0, .ref de, .int 0])), (ad 44, .inr (4, [.int 0, .ref de, .int 0])), (nl_2, .inr (4, [.int 0, .ref de, .int 0]))]) := hD
  obtain rfl : r_1 = some nl_2 := hw
  refine W.widen (k := 1) (n := 3) (Nat.le_of_ble_eq_true rfl) (Nat.le_of_ble_eq_true rfl) ?_
  refine lv_astore_n (lv' := [(1, .ref nl_2), (0, .ref (ad 40))]) hx hb dX17_meanLength_4 rfl hl (by decide) rfl (fun ls hl => ?_)
  refine lv_iconst (v := 0) hx hb dX17_meanLength_5 (by decide) ?_
  refine lv_istore_n (lv' := [(2, .int 0), (1, .ref nl_2), (0, .ref (ad 40))]) hx hb dX17_meanLength_6 rfl hl (by decide) rfl (fun ls hl => ?_)
  refine lv_aload_n hx hb dX17_meanLength_7 rfl (lv_at hl 1 rfl) ?_
  refine kx_Fq (wc := [(nl_2, .inr (4, [.int 0, .ref de, .int 0]))]) (wr := wM ad de c0) hP hD hS hA [5] [0, 1, 2, 3, 4] rfl rfl (by decide) (by decide) (va_runF (As := []) (rest := []) (hK.1 4 _ rfl).2 ⟨hx, hb, hml, hown, hts⟩ (l_iterator l D de nl_2 de 0 H.size) (va_cwF 0 hts gX17_meanLength_Jx4a65c_iterator_32c93_f171Jx4a65c rfl rfl rfl (hTK.2.2.2.2.2.1 (RJx4a65c, ⟨"java/util/List", "iterator", "()Ljava/util/Iterator;"⟩, yJx4a65c_iterator_32c93) (by decide +kernel)) (by decide +kernel) ⟨Nat.le_of_ble_eq_true rfl, Nat.le_of_ble_eq_true rfl⟩) ⟨px_blind, (va_recv hK hP (ci := 4) (q0 := 5) rfl rfl), (px_pre hP hD hK hS hA hTK hZ [5] rfl rfl (by decide) [] rfl)⟩ rfl rfl hl.1 rfl (lv_room (Nat.le_of_ble_eq_true rfl)) dX17_meanLength_8 ⟨(Nat.le_of_ble_eq_true rfl), (Nat.le_of_ble_eq_true rfl)⟩) (fun r_3 u H locs hw hP hD hK1 hS => ?_)
  obtain ⟨it_4, rfl⟩ : ∃ z, z = u := ⟨_, rfl⟩
  have hP : va_P D vwCl ([(ad 40, .inr (22, [.int c0, .int 0, .int 0, .int 0, .ref (ad 41), .ref (ad 42), .ref (ad 43), .ref (ad 44), .int 500, .int 700, .int 10, .int 200, .ref (ad 45)])), (ad 41, .inr (4, [.int 0, .ref de, .int 0])), (ad 42, .inr (4, [.int 0, .ref de, .int 0])), (ad 43, .inr (4, [.int 0, .ref de, .int 0])), (ad 44, .inr (4, [.int 0, .ref de, .int 0])), (it_4, .inr (3, [.int 0, .int (-1), .int 0, .ref nl_2])), (nl_2, .inr (4, [.int 0, .ref de, .int 0]))]) H := hP
  have hD : va_D A ([(ad 40, .inr (22, [.int c0, .int 0, .int 0, .int 0, .ref (ad 41), .ref (ad 42), .ref (ad 43), .ref (ad 44), .int 500, .int 700, .int 10, .int 200, .ref (ad 45)])), (ad 41, .inr (4, [.int 0, .ref de, .int 0])), (ad 42, .inr (4, [.int 0, .ref de, .int 0])), (ad 43, .inr (4, [.int 0, .ref de, .int 0])), (ad 44, .inr (4, [.int 0, .ref de, .int 0])), (it_4, .inr (3, [.int 0, .int (-1), .int 0, .ref nl_2])), (nl_2, .inr (4, [.int 0, .ref de, .int 0]))]) := hD
  obtain rfl : r_3 = some it_4 := hw
  refine W.widen (k := 2) (n := 7) (Nat.le_of_ble_eq_true rfl) (Nat.le_of_ble_eq_true rfl) ?_
  refine lv_astore_n (lv' := [(3, .ref it_4), (2, .int 0), (1, .ref nl_2), (0, .ref (ad 40))]) hx hb dX17_meanLength_13 rfl hl (by decide) rfl (fun ls hl => ?_)
  refine lv_aload_n hx hb dX17_meanLength_14 rfl (lv_at hl 0 rfl) ?_
  refine kx_Fi (wc := [(it_4, .inr (3, [.int 0, .int (-1), .int 0, .ref nl_2])), (nl_2, .inr (4, [.int 0, .ref de, .int 0]))]) (wr := wM ad de c0) hP hD hS hA [5, 6] [0, 1, 2, 3, 4] rfl rfl (by decide) (by decide) (va_runF (As := []) (rest := []) (hK.1 3 _ rfl).2 ⟨hx, hb, hml, hown, hts⟩ (l_hasNext l D de it_4 nl_2 de 0 H.size) (va_cwF 0 hts gX17_meanLength_Jx35411_hasNext_aae02_f175Jx35411 rfl rfl rfl (hTK.2.2.2.2.2.1 (RJx35411, ⟨"java/util/Iterator", "hasNext", "()Z"⟩, yJx35411_hasNext_aae02) (by decide +kernel)) (by decide +kernel) ⟨Nat.le_of_ble_eq_true rfl, Nat.le_of_ble_eq_true rfl⟩) ⟨px_blind, (va_recv hK hP (ci := 3) (q0 := 5) rfl rfl), (px_pre hP hD hK hS hA hTK hZ [5, 6] rfl rfl (by decide) [] rfl)⟩ rfl rfl hl.1 rfl (lv_room (Nat.le_of_ble_eq_true rfl)) dX17_meanLength_15 ⟨(Nat.le_of_ble_eq_true rfl), (Nat.le_of_ble_eq_true rfl)⟩) (fun r_5 u H locs hw hP hD hK1 hS => ?_)
  have hP : va_P D vwCl ([(ad 40, .inr (22, [.int c0, .int 0, .int 0, .int 0, .ref (ad 41), .ref (ad 42), .ref (ad 43), .ref (ad 44), .int 500, .int 700, .int 10, .int 200, .ref (ad 45)])), (ad 41, .inr (4, [.int 0, .ref de, .int 0])), (ad 42, .inr (4, [.int 0, .ref de, .int 0])), (ad 43, .inr (4, [.int 0, .ref de, .int 0])), (ad 44, .inr (4, [.int 0, .ref de, .int 0])), (it_4, .inr (3, [.int 0, .int (-1), .int 0, .ref nl_2])), (nl_2, .inr (4, [.int 0, .ref de, .int 0]))]) H := hP
  have hD : va_D A ([(ad 40, .inr (22, [.int c0, .int 0, .int 0, .int 0, .ref (ad 41), .ref (ad 42), .ref (ad 43), .ref (ad 44), .int 500, .int 700, .int 10, .int 200, .ref (ad 45)])), (ad 41, .inr (4, [.int 0, .ref de, .int 0])), (ad 42, .inr (4, [.int 0, .ref de, .int 0])), (ad 43, .inr (4, [.int 0, .ref de, .int 0])), (ad 44, .inr (4, [.int 0, .ref de, .int 0])), (it_4, .inr (3, [.int 0, .int (-1), .int 0, .ref nl_2])), (nl_2, .inr (4, [.int 0, .ref de, .int 0]))]) := hD
  obtain rfl : r_5 = 0 := hw
  refine W.widen (k := 2) (n := 7) (Nat.le_of_ble_eq_true rfl) (Nat.le_of_ble_eq_true rfl) ?_
  refine lv_if_eq (tgt := 45) hx hb dX17_meanLength_20 (by decide) (fun _ => ?_) (fun h_ => absurd (by decide) h_)
  refine lv_aload_n hx hb dX17_meanLength_45 rfl (lv_at hl 3 rfl) ?_
  refine lv_aload_n hx hb dX17_meanLength_46 rfl (lv_at hl 2 rfl) ?_
  refine kx_Fi (wc := [(nl_2, .inr (4, [.int 0, .ref de, .int 0]))]) (wr := [(ad 40, .inr (22, [.int c0, .int 0, .int 0, .int 0, .ref (ad 41), .ref (ad 42), .ref (ad 43), .ref (ad 44), .int 500, .int 700, .int 10, .int 200, .ref (ad 45)])), (ad 41, .inr (4, [.int 0, .ref de, .int 0])), (ad 42, .inr (4, [.int 0, .ref de, .int 0])), (ad 43, .inr (4, [.int 0, .ref de, .int 0])), (ad 44, .inr (4, [.int 0, .ref de, .int 0])), (it_4, .inr (3, [.int 0, .int (-1), .int 0, .ref nl_2]))]) hP hD hS hA [6] [0, 1, 2, 3, 4, 5] rfl rfl (by decide) (by decide) (va_runF (As := []) (rest := [.ref (ad 40)]) (hK.1 4 _ rfl).2 ⟨hx, hb, hml, hown, hts⟩ (l_isEmpty l D de nl_2 de 0 H.size) (va_cwF 0 hts gX17_meanLength_Jx4a65c_isEmpty_aae02_f253Jx4a65c rfl rfl rfl (hTK.2.2.2.2.2.1 (RJx4a65c, ⟨"java/util/List", "isEmpty", "()Z"⟩, yJx4a65c_isEmpty_aae02) (by decide +kernel)) (by decide +kernel) ⟨Nat.le_of_ble_eq_true rfl, Nat.le_of_ble_eq_true rfl⟩) ⟨px_blind, (va_recv hK hP (ci := 4) (q0 := 6) rfl rfl), (px_pre hP hD hK hS hA hTK hZ [6] rfl rfl (by decide) [] rfl)⟩ rfl rfl hl.1 rfl (lv_room (Nat.le_of_ble_eq_true rfl)) dX17_meanLength_47 ⟨(Nat.le_of_ble_eq_true rfl), (Nat.le_of_ble_eq_true rfl)⟩) (fun r_6 u H locs hw hP hD hK1 hS => ?_)
  have hP : va_P D vwCl ([(ad 40, .inr (22, [.int c0, .int 0, .int 0, .int 0, .ref (ad 41), .ref (ad 42), .ref (ad 43), .ref (ad 44), .int 500, .int 700, .int 10, .int 200, .ref (ad 45)])), (ad 41, .inr (4, [.int 0, .ref de, .int 0])), (ad 42, .inr (4, [.int 0, .ref de, .int 0])), (ad 43, .inr (4, [.int 0, .ref de, .int 0])), (ad 44, .inr (4, [.int 0, .ref de, .int 0])), (it_4, .inr (3, [.int 0, .int (-1), .int 0, .ref nl_2])), (nl_2, .inr (4, [.int 0, .ref de, .int 0]))]) H := hP
  have hD : va_D A ([(ad 40, .inr (22, [.int c0, .int 0, .int 0, .int 0, .ref (ad 41), .ref (ad 42), .ref (ad 43), .ref (ad 44), .int 500, .int 700, .int 10, .int 200, .ref (ad 45)])), (ad 41, .inr (4, [.int 0, .ref de, .int 0])), (ad 42, .inr (4, [.int 0, .ref de, .int 0])), (ad 43, .inr (4, [.int 0, .ref de, .int 0])), (ad 44, .inr (4, [.int 0, .ref de, .int 0])), (it_4, .inr (3, [.int 0, .int (-1), .int 0, .ref nl_2])), (nl_2, .inr (4, [.int 0, .ref de, .int 0]))]) := hD
  obtain rfl : r_6 = 1 := hw
  refine W.widen (k := 2) (n := 7) (Nat.le_of_ble_eq_true rfl) (Nat.le_of_ble_eq_true rfl) ?_
  refine lv_if_eq (tgt := 59) hx hb dX17_meanLength_52 (by decide) (fun h_ => absurd h_ (by decide)) (fun _ => ?_)
  refine lv_iconst (v := 1) hx hb dX17_meanLength_55 (by decide) ?_
  refine lv_goto (tgt := 60) hx hb dX17_meanLength_56 (by decide) ?_
  refine va_put (D := D) (ci := 22) (v := .int 1) (ty := .int) (C := RX17) (T := TX17) (N := 13) hx hb hts hin_RX17 tyX17 tyX17_ok nmX17 hown hK hP hD hS 0 rfl rfl 0 (by decide) (hts (.fieldLink RX17 41 "PopupwrightModel" "code" "I") (by decide +kernel)) (fun _ h9 => h9) rfl (by decide +kernel) rfl rfl (Nat.le_of_ble_eq_true rfl) dX17_meanLength_60 (fun H locs hP hD hS => ?_)
  have hP : va_P D vwCl ([(ad 40, .inr (22, [.int 1, .int 0, .int 0, .int 0, .ref (ad 41), .ref (ad 42), .ref (ad 43), .ref (ad 44), .int 500, .int 700, .int 10, .int 200, .ref (ad 45)])), (ad 41, .inr (4, [.int 0, .ref de, .int 0])), (ad 42, .inr (4, [.int 0, .ref de, .int 0])), (ad 43, .inr (4, [.int 0, .ref de, .int 0])), (ad 44, .inr (4, [.int 0, .ref de, .int 0])), (it_4, .inr (3, [.int 0, .int (-1), .int 0, .ref nl_2])), (nl_2, .inr (4, [.int 0, .ref de, .int 0]))]) H := hP
  have hD : va_D A ([(ad 40, .inr (22, [.int 1, .int 0, .int 0, .int 0, .ref (ad 41), .ref (ad 42), .ref (ad 43), .ref (ad 44), .int 500, .int 700, .int 10, .int 200, .ref (ad 45)])), (ad 41, .inr (4, [.int 0, .ref de, .int 0])), (ad 42, .inr (4, [.int 0, .ref de, .int 0])), (ad 43, .inr (4, [.int 0, .ref de, .int 0])), (ad 44, .inr (4, [.int 0, .ref de, .int 0])), (it_4, .inr (3, [.int 0, .int (-1), .int 0, .ref nl_2])), (nl_2, .inr (4, [.int 0, .ref de, .int 0]))]) := hD
  refine lv_aload_n hx hb dX17_meanLength_63 rfl (lv_at hl 3 rfl) ?_
  refine va_get (D := D) (ci := 22) (v := .int 1) (C := RX17) (T := TX17) (N := 13) hx hb hts hin_RX17 hown hK hP 0 rfl rfl 0 (by decide) (hts (.fieldLink RX17 41 "PopupwrightModel" "code" "I") (by decide +kernel)) (fun _ h9 => h9) rfl dX17_meanLength_64 ?_
  refine lv_if_le (tgt := 74) hx hb dX17_meanLength_67 (by decide) (fun h_ => absurd h_ (by decide)) (fun _ => ?_)
  refine lv_dconst0 hx hb dX17_meanLength_70 ?_
  refine lv_goto (tgt := 84) hx hb dX17_meanLength_71 (by decide) ?_
  refine W.widen (k := 2) (n := 7) (Nat.le_of_ble_eq_true rfl) (Nat.le_of_ble_eq_true rfl) ?_
  have hP9 := hP.sub (ws' := ([(ad 40, .inr (22, [.int 1, .int 0, .int 0, .int 0, .ref (ad 41), .ref (ad 42), .ref (ad 43), .ref (ad 44), .int 500, .int 700, .int 10, .int 200, .ref (ad 45)]))])) [0] rfl
  have hD9 := hD.sub (ws' := ([(ad 40, .inr (22, [.int 1, .int 0, .int 0, .int 0, .ref (ad 41), .ref (ad 42), .ref (ad 43), .ref (ad 44), .int 500, .int 700, .int 10, .int 200, .ref (ad 45)]))])) [0] (by decide) rfl
  have hK9 := hK.sub (tys' := []) [] rfl
  exact W.dret (v := FP.dconst0) hx hb hr (fun t ht hW => ⟨⟨FP.dconst0, (1, [.int 0, .int 0, .int 0, .ref (ad 41), .ref (ad 42), .ref (ad 43), .ref (ad 44), .int 500, .int 700, .int 10, .int 200, .ref (ad 45)]), rfl, (by first | exact ⟨rfl, rfl⟩ | exact ⟨rfl, rfl, by assumption⟩ | exact Or.inl ⟨rfl, rfl, by assumption⟩ | exact Or.inr ⟨rfl, rfl, by assumption⟩ | exact Or.inl ⟨rfl, rfl, Or.inl (by assumption)⟩ | exact Or.inl ⟨rfl, rfl, Or.inr (by assumption)⟩ | exact Or.inr ⟨rfl, rfl, by assumption, by assumption⟩), ⟨by rw [ht]; exact hP9, va_K.moved hW.alike hK9, hD9⟩⟩, hS.F ht⟩) hS.2.2 dX17_meanLength_84 hlocks
