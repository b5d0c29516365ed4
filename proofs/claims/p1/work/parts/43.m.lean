set_option maxHeartbeats 4000000 in
set_option maxRecDepth 100000 in
theorem c_in (l : Launch) (D : va_G) (de : Nat) (p0 p1 p2 : Int32) (sz : Nat) : Met l yX17_in wsX17_in ({ frames := 0, cells := 0, slots := 0, locals := 0 } : Room) (va_Pc [.int p0, .int p1, .int p2] (PX de D ([]) ([]) sz)) (va_Qi (fun (r : Int32) (u : Unit) => r = inR p0 p1 p2) (fun (_ : Unit) t => PW D ([]) (va_A ([]) sz) ([]) t) (va_A ([]) sz)) 0 0 (va_A ([]) sz) := by
  refine Met.ofW (cc := cX17_in) (maxL := 3) (ret := (some .boolean)) (by decide) rfl ?_
  intro p e s m args below meth c s₁ B hml hv
  obtain ⟨rfl, hsz, hP, hK, hD0, hTK, hZ⟩ := hv
  have hx := B.exec
  have hb := B.bytes
  have hr := B.returns
  have hts := atoms_spec (ws := wsX17_in) B.pre
  have hown : s.vm.findClass RX17 = some m.cls := findClass_of_methodNamed B.named
  have hlocks := B.notSynchronized
  subst hsz
  have hD := hD0.self (sz := s.heap.size)
  generalize hAe : va_A ([]) s.heap.size = A at hD hZ ⊢
  have hA : ∀ q : Nat, s.heap.size ≤ q → A q := fun q h => by rw [← hAe]; exact Or.inr h
  have hS : va_S A s.heap s.heap [] := va_S.rf
  have hl := lv_entry ([.int p0, .int p1, .int p2]) (n := 3) (Nat.le_of_ble_eq_true rfl)
  rw [lg_entry_eq]
  generalize (lg_sl ([.int p0, .int p1, .int p2]) ++ List.replicate (3 - (lg_sl ([.int p0, .int p1, .int p2])).length) Slot.unset).toArray = ls at hl ⊢
  have hl : lv_has ls 3 [(0, .int p0), (1, .int p1), (2, .int p2)] := hl
  refine lv_iload_n hx hb dX17_in_0 rfl (lv_at hl 0 rfl) ?_
  refine lv_iload_n hx hb dX17_in_1 rfl (lv_at hl 1 rfl) ?_
  refine lv_icmp_lt (tgt := 14) hx hb dX17_in_2 (by decide) (fun c_2 => ?_) (fun c_2 => ?_)
  · refine lv_iconst (v := 0) hx hb dX17_in_14 (by decide) ?_
    refine W.widen (k := 0) (n := 0) (Nat.le_of_ble_eq_true rfl) (Nat.le_of_ble_eq_true rfl) ?_
    have hP9 := hP.sub (ws' := ([])) [] rfl
    have hD9 := hD.sub (ws' := ([])) [] (by decide) rfl
    have hK9 := hK.sub (tys' := []) [] rfl
    exact W.zret (v := 0) hx hb hr (by decide) (fun t ht hW => ⟨⟨0, (), rfl, (by first | exact (inR_lo (by assumption)).symm | exact (inR_hi (by assumption)).symm | exact (inR_in (by assumption) (by assumption)).symm), ⟨by rw [ht]; exact hP9, va_K.moved hW.alike hK9, hD9⟩⟩, hS.F ht⟩) hS.2.2 dX17_in_15 hlocks
  · refine lv_iload_n hx hb dX17_in_5 rfl (lv_at hl 0 rfl) ?_
    refine lv_iload_n hx hb dX17_in_6 rfl (lv_at hl 2 rfl) ?_
    refine lv_icmp_gt (tgt := 14) hx hb dX17_in_7 (by decide) (fun c_7 => ?_) (fun c_7 => ?_)
    · refine lv_iconst (v := 0) hx hb dX17_in_14 (by decide) ?_
      refine W.widen (k := 0) (n := 0) (Nat.le_of_ble_eq_true rfl) (Nat.le_of_ble_eq_true rfl) ?_
      have hP9 := hP.sub (ws' := ([])) [] rfl
      have hD9 := hD.sub (ws' := ([])) [] (by decide) rfl
      have hK9 := hK.sub (tys' := []) [] rfl
      exact W.zret (v := 0) hx hb hr (by decide) (fun t ht hW => ⟨⟨0, (), rfl, (by first | exact (inR_lo (by assumption)).symm | exact (inR_hi (by assumption)).symm | exact (inR_in (by assumption) (by assumption)).symm), ⟨by rw [ht]; exact hP9, va_K.moved hW.alike hK9, hD9⟩⟩, hS.F ht⟩) hS.2.2 dX17_in_15 hlocks
    · refine lv_iconst (v := 1) hx hb dX17_in_10 (by decide) ?_
      refine lv_goto (tgt := 15) hx hb dX17_in_11 (by decide) ?_
      refine W.widen (k := 0) (n := 0) (Nat.le_of_ble_eq_true rfl) (Nat.le_of_ble_eq_true rfl) ?_
      have hP9 := hP.sub (ws' := ([])) [] rfl
      have hD9 := hD.sub (ws' := ([])) [] (by decide) rfl
      have hK9 := hK.sub (tys' := []) [] rfl
      exact W.zret (v := 1) hx hb hr (by decide) (fun t ht hW => ⟨⟨1, (), rfl, (by first | exact (inR_lo (by assumption)).symm | exact (inR_hi (by assumption)).symm | exact (inR_in (by assumption) (by assumption)).symm), ⟨by rw [ht]; exact hP9, va_K.moved hW.alike hK9, hD9⟩⟩, hS.F ht⟩) hS.2.2 dX17_in_15 hlocks

set_option maxHeartbeats 4000000 in
set_option maxRecDepth 100000 in
theorem c_fails (l : Launch) (D : va_G) (de : Nat) (ad : Nat → Nat) (c0 : Int32) (p0 : Int32) (sz : Nat) : Met l yX17_fails wsX17_fails ({ frames := 0, cells := 0, slots := 0, locals := 0 } : Room) (va_Pc [.ref (ad 40), .int p0] (PX de D ([]) (wM ad de c0) sz)) (va_Qi (fun (r : Int32) (u : Unit) => r = 0) (fun u t => PW D ([]) (va_A (wM ad de c0) sz) (wM ad de p0) t) (va_A (wM ad de c0) sz)) 0 0 (va_A (wM ad de c0) sz) := by
  refine Met.ofW (cc := cX17_fails) (maxL := 2) (ret := (some .int)) (by decide) rfl ?_
  intro p e s m args below meth c s₁ B hml hv
  obtain ⟨rfl, hsz, hP, hK, hD0, hTK, hZ⟩ := hv
  have hx := B.exec
  have hb := B.bytes
  have hr := B.returns
  have hts := atoms_spec (ws := wsX17_fails) B.pre
  have hown : s.vm.findClass RX17 = some m.cls := findClass_of_methodNamed B.named
  have hlocks := B.notSynchronized
  have hin_RX17 : ∀ w ∈ u_ws RX17 TX17 13, w ∈ wsX17_fails := by decide +kernel
  subst hsz
  have hD := hD0.self (sz := s.heap.size)
  generalize hAe : va_A (wM ad de c0) s.heap.size = A at hD hZ ⊢
  have hA : ∀ q : Nat, s.heap.size ≤ q → A q := fun q h => by rw [← hAe]; exact Or.inr h
  have hS : va_S A s.heap s.heap [] := va_S.rf
  have hP : va_P D vwCl (wM ad de c0) s.heap := hP
  have hD : va_D A (wM ad de c0) := hD
  have hl := lv_entry ([.ref (ad 40), .int p0]) (n := 2) (Nat.le_of_ble_eq_true rfl)
  rw [lg_entry_eq]
  generalize (lg_sl ([.ref (ad 40), .int p0]) ++ List.replicate (2 - (lg_sl ([.ref (ad 40), .int p0])).length) Slot.unset).toArray = ls at hl ⊢
  have hl : lv_has ls 2 [(0, .ref (ad 40)), (1, .int p0)] := hl
  refine lv_aload_n hx hb dX17_fails_0 rfl (lv_at hl 0 rfl) ?_
  refine lv_iload_n hx hb dX17_fails_1 rfl (lv_at hl 1 rfl) ?_
  refine va_put (D := D) (ci := 22) (v := .int p0) (ty := .int) (C := RX17) (T := TX17) (N := 13) hx hb hts hin_RX17 tyX17 tyX17_ok nmX17 hown hK hP hD hS 0 rfl rfl 0 (by decide) (hts (.fieldLink RX17 41 "PopupwrightModel" "code" "I") (by decide +kernel)) (fun _ h9 => h9) rfl (by decide +kernel) rfl rfl (Nat.le_of_ble_eq_true rfl) dX17_fails_2 (fun H locs hP hD hS => ?_)
  have hP : va_P D vwCl (wM ad de p0) H := hP
  have hD : va_D A (wM ad de p0) := hD
  refine lv_iconst (v := 0) hx hb dX17_fails_5 (by decide) ?_
  refine W.widen (k := 0) (n := 0) (Nat.le_of_ble_eq_true rfl) (Nat.le_of_ble_eq_true rfl) ?_
  have hP9 := hP.sub (ws' := (wM ad de p0)) [0, 1, 2, 3, 4] rfl
  have hD9 := hD.sub (ws' := (wM ad de p0)) [0, 1, 2, 3, 4] (by decide) rfl
  have hK9 := hK.sub (tys' := []) [] rfl
  exact W.iret (v := 0) hx hb hr (fun t ht hW => ⟨⟨0, (), rfl, rfl, ⟨by rw [ht]; exact hP9, va_K.moved hW.alike hK9, hD9⟩⟩, hS.F ht⟩) hS.2.2 dX17_fails_6 hlocks

set_option maxHeartbeats 4000000 in
set_option maxRecDepth 100000 in
theorem c_failsBoolean (l : Launch) (D : va_G) (de : Nat) (ad : Nat → Nat) (c0 : Int32) (p0 : Int32) (sz : Nat) : Met l yX17_failsBoolean wsX17_failsBoolean ({ frames := 0, cells := 0, slots := 0, locals := 0 } : Room) (va_Pc [.ref (ad 40), .int p0] (PX de D ([]) (wM ad de c0) sz)) (va_Qi (fun (r : Int32) (u : Unit) => r = 0) (fun u t => PW D ([]) (va_A (wM ad de c0) sz) (wM ad de p0) t) (va_A (wM ad de c0) sz)) 0 0 (va_A (wM ad de c0) sz) := by
  refine Met.ofW (cc := cX17_failsBoolean) (maxL := 2) (ret := (some .boolean)) (by decide) rfl ?_
  intro p e s m args below meth c s₁ B hml hv
  obtain ⟨rfl, hsz, hP, hK, hD0, hTK, hZ⟩ := hv
  have hx := B.exec
  have hb := B.bytes
  have hr := B.returns
  have hts := atoms_spec (ws := wsX17_failsBoolean) B.pre
  have hown : s.vm.findClass RX17 = some m.cls := findClass_of_methodNamed B.named
  have hlocks := B.notSynchronized
  have hin_RX17 : ∀ w ∈ u_ws RX17 TX17 13, w ∈ wsX17_failsBoolean := by decide +kernel
  subst hsz
  have hD := hD0.self (sz := s.heap.size)
  generalize hAe : va_A (wM ad de c0) s.heap.size = A at hD hZ ⊢
  have hA : ∀ q : Nat, s.heap.size ≤ q → A q := fun q h => by rw [← hAe]; exact Or.inr h
  have hS : va_S A s.heap s.heap [] := va_S.rf
  have hP : va_P D vwCl (wM ad de c0) s.heap := hP
  have hD : va_D A (wM ad de c0) := hD
  have hl := lv_entry ([.ref (ad 40), .int p0]) (n := 2) (Nat.le_of_ble_eq_true rfl)
  rw [lg_entry_eq]
  generalize (lg_sl ([.ref (ad 40), .int p0]) ++ List.replicate (2 - (lg_sl ([.ref (ad 40), .int p0])).length) Slot.unset).toArray = ls at hl ⊢
  have hl : lv_has ls 2 [(0, .ref (ad 40)), (1, .int p0)] := hl
  refine lv_aload_n hx hb dX17_failsBoolean_0 rfl (lv_at hl 0 rfl) ?_
  refine lv_iload_n hx hb dX17_failsBoolean_1 rfl (lv_at hl 1 rfl) ?_
  refine va_put (D := D) (ci := 22) (v := .int p0) (ty := .int) (C := RX17) (T := TX17) (N := 13) hx hb hts hin_RX17 tyX17 tyX17_ok nmX17 hown hK hP hD hS 0 rfl rfl 0 (by decide) (hts (.fieldLink RX17 41 "PopupwrightModel" "code" "I") (by decide +kernel)) (fun _ h9 => h9) rfl (by decide +kernel) rfl rfl (Nat.le_of_ble_eq_true rfl) dX17_failsBoolean_2 (fun H locs hP hD hS => ?_)
  have hP : va_P D vwCl (wM ad de p0) H := hP
  have hD : va_D A (wM ad de p0) := hD
  refine lv_iconst (v := 0) hx hb dX17_failsBoolean_5 (by decide) ?_
  refine W.widen (k := 0) (n := 0) (Nat.le_of_ble_eq_true rfl) (Nat.le_of_ble_eq_true rfl) ?_
  have hP9 := hP.sub (ws' := (wM ad de p0)) [0, 1, 2, 3, 4] rfl
  have hD9 := hD.sub (ws' := (wM ad de p0)) [0, 1, 2, 3, 4] (by decide) rfl
  have hK9 := hK.sub (tys' := []) [] rfl
  exact W.zret (v := 0) hx hb hr (by decide) (fun t ht hW => ⟨⟨0, (), rfl, rfl, ⟨by rw [ht]; exact hP9, va_K.moved hW.alike hK9, hD9⟩⟩, hS.F ht⟩) hS.2.2 dX17_failsBoolean_6 hlocks

set_option maxHeartbeats 4000000 in
set_option maxRecDepth 100000 in
theorem c_isCrease (l : Launch) (D : va_G) (de : Nat) (ad : Nat → Nat) (c0 : Int32) (p0 : Int32) (sz : Nat) : Met l yX17_isCrease wsX17_isCrease ({ frames := 1, cells := 0, slots := 0, locals := 22 } : Room) (va_Pc [.ref (ad 40), .int p0] (PX de D ([]) (wM ad de c0) sz)) (va_Qi (fun (r : Int32) (u : Unit) => r = 0) (fun (_ : Unit) t => PW D ([]) (va_A (wM ad de c0) sz) (wM ad de c0) t) (va_A (wM ad de c0) sz)) 0 0 (va_A (wM ad de c0) sz) := by
  refine Met.ofW (cc := cX17_isCrease) (maxL := 2) (ret := (some .boolean)) (by decide) rfl ?_
  intro p e s m args below meth c s₁ B hml hv
  obtain ⟨rfl, hsz, hP, hK, hD0, hTK, hZ⟩ := hv
  have hx := B.exec
  have hb := B.bytes
  have hr := B.returns
  have hts := atoms_spec (ws := wsX17_isCrease) B.pre
  have hown : s.vm.findClass RX17 = some m.cls := findClass_of_methodNamed B.named
  have hlocks := B.notSynchronized
  have hin_RX17 : ∀ w ∈ u_ws RX17 TX17 13, w ∈ wsX17_isCrease := by decide +kernel
  subst hsz
  have hD := hD0.self (sz := s.heap.size)
  generalize hAe : va_A (wM ad de c0) s.heap.size = A at hD hZ ⊢
  have hA : ∀ q : Nat, s.heap.size ≤ q → A q := fun q h => by rw [← hAe]; exact Or.inr h
  have hS : va_S A s.heap s.heap [] := va_S.rf
  have hP : va_P D vwCl (wM ad de c0) s.heap := hP
  have hD : va_D A (wM ad de c0) := hD
  have hl := lv_entry ([.ref (ad 40), .int p0]) (n := 2) (Nat.le_of_ble_eq_true rfl)
  rw [lg_entry_eq]
  generalize (lg_sl ([.ref (ad 40), .int p0]) ++ List.replicate (2 - (lg_sl ([.ref (ad 40), .int p0])).length) Slot.unset).toArray = ls at hl ⊢
  have hl : lv_has ls 2 [(0, .ref (ad 40)), (1, .int p0)] := hl
  refine lv_iload_n hx hb dX17_isCrease_0 rfl (lv_at hl 1 rfl) ?_
  refine lv_iconst (v := 0) hx hb dX17_isCrease_1 (by decide) ?_
  refine lv_aload_n hx hb dX17_isCrease_2 rfl (lv_at hl 0 rfl) ?_
  refine va_get (D := D) (ci := 22) (v := .ref (ad 41)) (C := RX17) (T := TX17) (N := 13) hx hb hts hin_RX17 hown hK hP 0 rfl rfl 4 (by decide) (hts (.fieldLink RX17 10 "PopupwrightModel" "creases" "Ljava/util/List;") (by decide +kernel)) (fun _ h9 => h9) rfl dX17_isCrease_3 ?_
  refine kx_Fi (wc := [(ad 41, .inr (4, [.int 0, .ref de, .int 0]))]) (wr := [(ad 40, .inr (22, [.int c0, .int 0, .int 0, .int 0, .ref (ad 41), .ref (ad 42), .ref (ad 43), .ref (ad 44), .int 500, .int 700, .int 10, .int 200, .ref (ad 45)])), (ad 42, .inr (4, [.int 0, .ref de, .int 0])), (ad 43, .inr (4, [.int 0, .ref de, .int 0])), (ad 44, .inr (4, [.int 0, .ref de, .int 0]))]) hP hD hS hA [1] [0, 2, 3, 4] rfl rfl (by decide) (by decide) (va_runF (As := []) (rest := [.int 0, .int p0]) (hK.1 4 _ rfl).2 ⟨hx, hb, hml, hown, hts⟩ (l_size l D de (ad 41) de 0 s.heap.size) (va_cwF 0 hts gX17_isCrease_Jx4a65c_size_8abf5_f52Jx4a65c rfl rfl rfl (hTK.2.2.2.2.2.1 (RJx4a65c, ⟨"java/util/List", "size", "()I"⟩, yJx4a65c_size_8abf5) (by decide +kernel)) (by decide +kernel) ⟨Nat.le_of_ble_eq_true rfl, Nat.le_of_ble_eq_true rfl⟩) ⟨px_blind, (va_recv hK hP (ci := 4) (q0 := 1) rfl rfl), (px_pre hP hD hK hS hA hTK hZ [1] rfl rfl (by decide) [] rfl)⟩ rfl rfl hl.1 rfl (lv_room (Nat.le_of_ble_eq_true rfl)) dX17_isCrease_6 ⟨(Nat.le_of_ble_eq_true rfl), (Nat.le_of_ble_eq_true rfl)⟩) (fun r_1 u H locs hw hP hD hK1 hS => ?_)
  have hP : va_P D vwCl ([(ad 40, .inr (22, [.int c0, .int 0, .int 0, .int 0, .ref (ad 41), .ref (ad 42), .ref (ad 43), .ref (ad 44), .int 500, .int 700, .int 10, .int 200, .ref (ad 45)])), (ad 42, .inr (4, [.int 0, .ref de, .int 0])), (ad 43, .inr (4, [.int 0, .ref de, .int 0])), (ad 44, .inr (4, [.int 0, .ref de, .int 0])), (ad 41, .inr (4, [.int 0, .ref de, .int 0]))]) H := hP
  have hD : va_D A ([(ad 40, .inr (22, [.int c0, .int 0, .int 0, .int 0, .ref (ad 41), .ref (ad 42), .ref (ad 43), .ref (ad 44), .int 500, .int 700, .int 10, .int 200, .ref (ad 45)])), (ad 42, .inr (4, [.int 0, .ref de, .int 0])), (ad 43, .inr (4, [.int 0, .ref de, .int 0])), (ad 44, .inr (4, [.int 0, .ref de, .int 0])), (ad 41, .inr (4, [.int 0, .ref de, .int 0]))]) := hD
  obtain rfl : r_1 = 0 := hw
  refine lv_iconst (v := 1) hx hb dX17_isCrease_11 (by decide) ?_
  refine lv_isub hx hb dX17_isCrease_12 ?_
  refine lv_topi (fun y_ ey_ => ?_)
  obtain rfl : y_ = (-1) := ey_.trans (by decide)
  refine kx_i (wc := []) (wr := [(ad 40, .inr (22, [.int c0, .int 0, .int 0, .int 0, .ref (ad 41), .ref (ad 42), .ref (ad 43), .ref (ad 44), .int 500, .int 700, .int 10, .int 200, .ref (ad 45)])), (ad 42, .inr (4, [.int 0, .ref de, .int 0])), (ad 43, .inr (4, [.int 0, .ref de, .int 0])), (ad 44, .inr (4, [.int 0, .ref de, .int 0])), (ad 41, .inr (4, [.int 0, .ref de, .int 0]))]) hP hD hS hA [] [0, 1, 2, 3, 4] rfl rfl (by decide) (by decide) (va_runS (As := [.int p0, .int 0, .int (-1)]) (rest := []) ⟨hx, hb, hml, hown, hts⟩ (c_in l D de p0 0 (-1) H.size) (va_cwS 3 hts gX17_isCrease_X17_in rfl rfl rfl (by decide +kernel) ⟨Nat.le_of_ble_eq_true rfl, Nat.le_of_ble_eq_true rfl⟩) ⟨px_blind, (px_pre hP hD hK hS hA hTK hZ [] rfl rfl (by decide) [] rfl)⟩ rfl rfl hl.1 rfl (lv_room (Nat.le_of_ble_eq_true rfl)) dX17_isCrease_13 ⟨(Nat.le_of_ble_eq_true rfl), (Nat.le_of_ble_eq_true rfl)⟩) (fun r_2 u H locs hw hP hD hK1 hS => ?_)
  have hP : va_P D vwCl ([(ad 40, .inr (22, [.int c0, .int 0, .int 0, .int 0, .ref (ad 41), .ref (ad 42), .ref (ad 43), .ref (ad 44), .int 500, .int 700, .int 10, .int 200, .ref (ad 45)])), (ad 42, .inr (4, [.int 0, .ref de, .int 0])), (ad 43, .inr (4, [.int 0, .ref de, .int 0])), (ad 44, .inr (4, [.int 0, .ref de, .int 0])), (ad 41, .inr (4, [.int 0, .ref de, .int 0]))]) H := hP
  have hD : va_D A ([(ad 40, .inr (22, [.int c0, .int 0, .int 0, .int 0, .ref (ad 41), .ref (ad 42), .ref (ad 43), .ref (ad 44), .int 500, .int 700, .int 10, .int 200, .ref (ad 45)])), (ad 42, .inr (4, [.int 0, .ref de, .int 0])), (ad 43, .inr (4, [.int 0, .ref de, .int 0])), (ad 44, .inr (4, [.int 0, .ref de, .int 0])), (ad 41, .inr (4, [.int 0, .ref de, .int 0]))]) := hD
  obtain rfl : r_2 = 0 := hw.trans (inR_none _)
  refine W.widen (k := 0) (n := 0) (Nat.le_of_ble_eq_true rfl) (Nat.le_of_ble_eq_true rfl) ?_
  have hP9 := hP.sub (ws' := (wM ad de c0)) [0, 4, 1, 2, 3] rfl
  have hD9 := hD.sub (ws' := (wM ad de c0)) [0, 4, 1, 2, 3] (by decide) rfl
  have hK9 := hK.sub (tys' := []) [] rfl
  exact W.zret (v := 0) hx hb hr (by decide) (fun t ht hW => ⟨⟨0, (), rfl, rfl, ⟨by rw [ht]; exact hP9, va_K.moved hW.alike hK9, hD9⟩⟩, hS.F ht⟩) hS.2.2 dX17_isCrease_16 hlocks

set_option maxHeartbeats 4000000 in
set_option maxRecDepth 100000 in
theorem c_isFold (l : Launch) (D : va_G) (de : Nat) (ad : Nat → Nat) (c0 : Int32) (p0 : Int32) (sz : Nat) : Met l yX17_isFold wsX17_isFold ({ frames := 1, cells := 0, slots := 0, locals := 22 } : Room) (va_Pc [.ref (ad 40), .int p0] (PX de D ([]) (wM ad de c0) sz)) (va_Qi (fun (r : Int32) (u : Unit) => r = 0) (fun (_ : Unit) t => PW D ([]) (va_A (wM ad de c0) sz) (wM ad de c0) t) (va_A (wM ad de c0) sz)) 0 0 (va_A (wM ad de c0) sz) := by
  refine Met.ofW (cc := cX17_isFold) (maxL := 2) (ret := (some .boolean)) (by decide) rfl ?_
  intro p e s m args below meth c s₁ B hml hv
  obtain ⟨rfl, hsz, hP, hK, hD0, hTK, hZ⟩ := hv
  have hx := B.exec
  have hb := B.bytes
  have hr := B.returns
  have hts := atoms_spec (ws := wsX17_isFold) B.pre
  have hown : s.vm.findClass RX17 = some m.cls := findClass_of_methodNamed B.named
  have hlocks := B.notSynchronized
  have hin_RX17 : ∀ w ∈ u_ws RX17 TX17 13, w ∈ wsX17_isFold := by decide +kernel
  subst hsz
  have hD := hD0.self (sz := s.heap.size)
  generalize hAe : va_A (wM ad de c0) s.heap.size = A at hD hZ ⊢
  have hA : ∀ q : Nat, s.heap.size ≤ q → A q := fun q h => by rw [← hAe]; exact Or.inr h
  have hS : va_S A s.heap s.heap [] := va_S.rf
  have hP : va_P D vwCl (wM ad de c0) s.heap := hP
  have hD : va_D A (wM ad de c0) := hD
  have hl := lv_entry ([.ref (ad 40), .int p0]) (n := 2) (Nat.le_of_ble_eq_true rfl)
  rw [lg_entry_eq]
  generalize (lg_sl ([.ref (ad 40), .int p0]) ++ List.replicate (2 - (lg_sl ([.ref (ad 40), .int p0])).length) Slot.unset).toArray = ls at hl ⊢
  have hl : lv_has ls 2 [(0, .ref (ad 40)), (1, .int p0)] := hl
  refine lv_iload_n hx hb dX17_isFold_0 rfl (lv_at hl 1 rfl) ?_
  refine lv_iconst (v := 0) hx hb dX17_isFold_1 (by decide) ?_
  refine lv_aload_n hx hb dX17_isFold_2 rfl (lv_at hl 0 rfl) ?_
  refine va_get (D := D) (ci := 22) (v := .ref (ad 42)) (C := RX17) (T := TX17) (N := 13) hx hb hts hin_RX17 hown hK hP 0 rfl rfl 5 (by decide) (hts (.fieldLink RX17 16 "PopupwrightModel" "folds" "Ljava/util/List;") (by decide +kernel)) (fun _ h9 => h9) rfl dX17_isFold_3 ?_
  refine kx_Fi (wc := [(ad 42, .inr (4, [.int 0, .ref de, .int 0]))]) (wr := [(ad 40, .inr (22, [.int c0, .int 0, .int 0, .int 0, .ref (ad 41), .ref (ad 42), .ref (ad 43), .ref (ad 44), .int 500, .int 700, .int 10, .int 200, .ref (ad 45)])), (ad 41, .inr (4, [.int 0, .ref de, .int 0])), (ad 43, .inr (4, [.int 0, .ref de, .int 0])), (ad 44, .inr (4, [.int 0, .ref de, .int 0]))]) hP hD hS hA [2] [0, 1, 3, 4] rfl rfl (by decide) (by decide) (va_runF (As := []) (rest := [.int 0, .int p0]) (hK.1 4 _ rfl).2 ⟨hx, hb, hml, hown, hts⟩ (l_size l D de (ad 42) de 0 s.heap.size) (va_cwF 0 hts gX17_isFold_Jx4a65c_size_8abf5_f52Jx4a65c rfl rfl rfl (hTK.2.2.2.2.2.1 (RJx4a65c, ⟨"java/util/List", "size", "()I"⟩, yJx4a65c_size_8abf5) (by decide +kernel)) (by decide +kernel) ⟨Nat.le_of_ble_eq_true rfl, Nat.le_of_ble_eq_true rfl⟩) ⟨px_blind, (va_recv hK hP (ci := 4) (q0 := 2) rfl rfl), (px_pre hP hD hK hS hA hTK hZ [2] rfl rfl (by decide) [] rfl)⟩ rfl rfl hl.1 rfl (lv_room (Nat.le_of_ble_eq_true rfl)) dX17_isFold_6 ⟨(Nat.le_of_ble_eq_true rfl), (Nat.le_of_ble_eq_true rfl)⟩) (fun r_1 u H locs hw hP hD hK1 hS => ?_)
  have hP : va_P D vwCl ([(ad 40, .inr (22, [.int c0, .int 0, .int 0, .int 0, .ref (ad 41), .ref (ad 42), .ref (ad 43), .ref (ad 44), .int 500, .int 700, .int 10, .int 200, .ref (ad 45)])), (ad 41, .inr (4, [.int 0, .ref de, .int 0])), (ad 43, .inr (4, [.int 0, .ref de, .int 0])), (ad 44, .inr (4, [.int 0, .ref de, .int 0])), (ad 42, .inr (4, [.int 0, .ref de, .int 0]))]) H := hP
  have hD : va_D A ([(ad 40, .inr (22, [.int c0, .int 0, .int 0, .int 0, .ref (ad 41), .ref (ad 42), .ref (ad 43), .ref (ad 44), .int 500, .int 700, .int 10, .int 200, .ref (ad 45)])), (ad 41, .inr (4, [.int 0, .ref de, .int 0])), (ad 43, .inr (4, [.int 0, .ref de, .int 0])), (ad 44, .inr (4, [.int 0, .ref de, .int 0])), (ad 42, .inr (4, [.int 0, .ref de, .int 0]))]) := hD
  obtain rfl : r_1 = 0 := hw
  refine lv_iconst (v := 1) hx hb dX17_isFold_11 (by decide) ?_
  refine lv_isub hx hb dX17_isFold_12 ?_
  refine lv_topi (fun y_ ey_ => ?_)
  obtain rfl : y_ = (-1) := ey_.trans (by decide)
  refine kx_i (wc := []) (wr := [(ad 40, .inr (22, [.int c0, .int 0, .int 0, .int 0, .ref (ad 41), .ref (ad 42), .ref (ad 43), .ref (ad 44), .int 500, .int 700, .int 10, .int 200, .ref (ad 45)])), (ad 41, .inr (4, [.int 0, .ref de, .int 0])), (ad 43, .inr (4, [.int 0, .ref de, .int 0])), (ad 44, .inr (4, [.int 0, .ref de, .int 0])), (ad 42, .inr (4, [.int 0, .ref de, .int 0]))]) hP hD hS hA [] [0, 1, 2, 3, 4] rfl rfl (by decide) (by decide) (va_runS (As := [.int p0, .int 0, .int (-1)]) (rest := []) ⟨hx, hb, hml, hown, hts⟩ (c_in l D de p0 0 (-1) H.size) (va_cwS 3 hts gX17_isFold_X17_in rfl rfl rfl (by decide +kernel) ⟨Nat.le_of_ble_eq_true rfl, Nat.le_of_ble_eq_true rfl⟩) ⟨px_blind, (px_pre hP hD hK hS hA hTK hZ [] rfl rfl (by decide) [] rfl)⟩ rfl rfl hl.1 rfl (lv_room (Nat.le_of_ble_eq_true rfl)) dX17_isFold_13 ⟨(Nat.le_of_ble_eq_true rfl), (Nat.le_of_ble_eq_true rfl)⟩) (fun r_2 u H locs hw hP hD hK1 hS => ?_)
  have hP : va_P D vwCl ([(ad 40, .inr (22, [.int c0, .int 0, .int 0, .int 0, .ref (ad 41), .ref (ad 42), .ref (ad 43), .ref (ad 44), .int 500, .int 700, .int 10, .int 200, .ref (ad 45)])), (ad 41, .inr (4, [.int 0, .ref de, .int 0])), (ad 43, .inr (4, [.int 0, .ref de, .int 0])), (ad 44, .inr (4, [.int 0, .ref de, .int 0])), (ad 42, .inr (4, [.int 0, .ref de, .int 0]))]) H := hP
  have hD : va_D A ([(ad 40, .inr (22, [.int c0, .int 0, .int 0, .int 0, .ref (ad 41), .ref (ad 42), .ref (ad 43), .ref (ad 44), .int 500, .int 700, .int 10, .int 200, .ref (ad 45)])), (ad 41, .inr (4, [.int 0, .ref de, .int 0])), (ad 43, .inr (4, [.int 0, .ref de, .int 0])), (ad 44, .inr (4, [.int 0, .ref de, .int 0])), (ad 42, .inr (4, [.int 0, .ref de, .int 0]))]) := hD
  obtain rfl : r_2 = 0 := hw.trans (inR_none _)
  refine W.widen (k := 0) (n := 0) (Nat.le_of_ble_eq_true rfl) (Nat.le_of_ble_eq_true rfl) ?_
  have hP9 := hP.sub (ws' := (wM ad de c0)) [0, 1, 4, 2, 3] rfl
  have hD9 := hD.sub (ws' := (wM ad de c0)) [0, 1, 4, 2, 3] (by decide) rfl
  have hK9 := hK.sub (tys' := []) [] rfl
  exact W.zret (v := 0) hx hb hr (by decide) (fun t ht hW => ⟨⟨0, (), rfl, rfl, ⟨by rw [ht]; exact hP9, va_K.moved hW.alike hK9, hD9⟩⟩, hS.F ht⟩) hS.2.2 dX17_isFold_16 hlocks

set_option maxHeartbeats 4000000 in
set_option maxRecDepth 100000 in
theorem c_isPicture (l : Launch) (D : va_G) (de : Nat) (ad : Nat → Nat) (c0 : Int32) (p0 : Int32) (sz : Nat) : Met l yX17_isPicture wsX17_isPicture ({ frames := 1, cells := 0, slots := 0, locals := 22 } : Room) (va_Pc [.ref (ad 40), .int p0] (PX de D ([]) (wM ad de c0) sz)) (va_Qi (fun (r : Int32) (u : Unit) => r = 0) (fun (_ : Unit) t => PW D ([]) (va_A (wM ad de c0) sz) (wM ad de c0) t) (va_A (wM ad de c0) sz)) 0 0 (va_A (wM ad de c0) sz) := by
  refine Met.ofW (cc := cX17_isPicture) (maxL := 2) (ret := (some .boolean)) (by decide) rfl ?_
  intro p e s m args below meth c s₁ B hml hv
  obtain ⟨rfl, hsz, hP, hK, hD0, hTK, hZ⟩ := hv
  have hx := B.exec
  have hb := B.bytes
  have hr := B.returns
  have hts := atoms_spec (ws := wsX17_isPicture) B.pre
  have hown : s.vm.findClass RX17 = some m.cls := findClass_of_methodNamed B.named
  have hlocks := B.notSynchronized
  have hin_RX17 : ∀ w ∈ u_ws RX17 TX17 13, w ∈ wsX17_isPicture := by decide +kernel
  subst hsz
  have hD := hD0.self (sz := s.heap.size)
  generalize hAe : va_A (wM ad de c0) s.heap.size = A at hD hZ ⊢
  have hA : ∀ q : Nat, s.heap.size ≤ q → A q := fun q h => by rw [← hAe]; exact Or.inr h
  have hS : va_S A s.heap s.heap [] := va_S.rf
  have hP : va_P D vwCl (wM ad de c0) s.heap := hP
  have hD : va_D A (wM ad de c0) := hD
  have hl := lv_entry ([.ref (ad 40), .int p0]) (n := 2) (Nat.le_of_ble_eq_true rfl)
  rw [lg_entry_eq]
  generalize (lg_sl ([.ref (ad 40), .int p0]) ++ List.replicate (2 - (lg_sl ([.ref (ad 40), .int p0])).length) Slot.unset).toArray = ls at hl ⊢
  have hl : lv_has ls 2 [(0, .ref (ad 40)), (1, .int p0)] := hl
  refine lv_iload_n hx hb dX17_isPicture_0 rfl (lv_at hl 1 rfl) ?_
  refine lv_iconst (v := 0) hx hb dX17_isPicture_1 (by decide) ?_
  refine lv_aload_n hx hb dX17_isPicture_2 rfl (lv_at hl 0 rfl) ?_
  refine va_get (D := D) (ci := 22) (v := .ref (ad 43)) (C := RX17) (T := TX17) (N := 13) hx hb hts hin_RX17 hown hK hP 0 rfl rfl 6 (by decide) (hts (.fieldLink RX17 19 "PopupwrightModel" "pictures" "Ljava/util/List;") (by decide +kernel)) (fun _ h9 => h9) rfl dX17_isPicture_3 ?_
  refine kx_Fi (wc := [(ad 43, .inr (4, [.int 0, .ref de, .int 0]))]) (wr := [(ad 40, .inr (22, [.int c0, .int 0, .int 0, .int 0, .ref (ad 41), .ref (ad 42), .ref (ad 43), .ref (ad 44), .int 500, .int 700, .int 10, .int 200, .ref (ad 45)])), (ad 41, .inr (4, [.int 0, .ref de, .int 0])), (ad 42, .inr (4, [.int 0, .ref de, .int 0])), (ad 44, .inr (4, [.int 0, .ref de, .int 0]))]) hP hD hS hA [3] [0, 1, 2, 4] rfl rfl (by decide) (by decide) (va_runF (As := []) (rest := [.int 0, .int p0]) (hK.1 4 _ rfl).2 ⟨hx, hb, hml, hown, hts⟩ (l_size l D de (ad 43) de 0 s.heap.size) (va_cwF 0 hts gX17_isPicture_Jx4a65c_size_8abf5_f52Jx4a65c rfl rfl rfl (hTK.2.2.2.2.2.1 (RJx4a65c, ⟨"java/util/List", "size", "()I"⟩, yJx4a65c_size_8abf5) (by decide +kernel)) (by decide +kernel) ⟨Nat.le_of_ble_eq_true rfl, Nat.le_of_ble_eq_true rfl⟩) ⟨px_blind, (va_recv hK hP (ci := 4) (q0 := 3) rfl rfl), (px_pre hP hD hK hS hA hTK hZ [3] rfl rfl (by decide) [] rfl)⟩ rfl rfl hl.1 rfl (lv_room (Nat.le_of_ble_eq_true rfl)) dX17_isPicture_6 ⟨(Nat.le_of_ble_eq_true rfl), (Nat.le_of_ble_eq_true rfl)⟩) (fun r_1 u H locs hw hP hD hK1 hS => ?_)
  have hP : va_P D vwCl ([(ad 40, .inr (22, [.int c0, .int 0, .int 0, .int 0, .ref (ad 41), .ref (ad 42), .ref (ad 43), .ref (ad 44), .int 500, .int 700, .int 10, .int 200, .ref (ad 45)])), (ad 41, .inr (4, [.int 0, .ref de, .int 0])), (ad 42, .inr (4, [.int 0, .ref de, .int 0])), (ad 44, .inr (4, [.int 0, .ref de, .int 0])), (ad 43, .inr (4, [.int 0, .ref de, .int 0]))]) H := hP
  have hD : va_D A ([(ad 40, .inr (22, [.int c0, .int 0, .int 0, .int 0, .ref (ad 41), .ref (ad 42), .ref (ad 43), .ref (ad 44), .int 500, .int 700, .int 10, .int 200, .ref (ad 45)])), (ad 41, .inr (4, [.int 0, .ref de, .int 0])), (ad 42, .inr (4, [.int 0, .ref de, .int 0])), (ad 44, .inr (4, [.int 0, .ref de, .int 0])), (ad 43, .inr (4, [.int 0, .ref de, .int 0]))]) := hD
  obtain rfl : r_1 = 0 := hw
  refine lv_iconst (v := 1) hx hb dX17_isPicture_11 (by decide) ?_
  refine lv_isub hx hb dX17_isPicture_12 ?_
  refine lv_topi (fun y_ ey_ => ?_)
  obtain rfl : y_ = (-1) := ey_.trans (by decide)
  refine kx_i (wc := []) (wr := [(ad 40, .inr (22, [.int c0, .int 0, .int 0, .int 0, .ref (ad 41), .ref (ad 42), .ref (ad 43), .ref (ad 44), .int 500, .int 700, .int 10, .int 200, .ref (ad 45)])), (ad 41, .inr (4, [.int 0, .ref de, .int 0])), (ad 42, .inr (4, [.int 0, .ref de, .int 0])), (ad 44, .inr (4, [.int 0, .ref de, .int 0])), (ad 43, .inr (4, [.int 0, .ref de, .int 0]))]) hP hD hS hA [] [0, 1, 2, 3, 4] rfl rfl (by decide) (by decide) (va_runS (As := [.int p0, .int 0, .int (-1)]) (rest := []) ⟨hx, hb, hml, hown, hts⟩ (c_in l D de p0 0 (-1) H.size) (va_cwS 3 hts gX17_isPicture_X17_in rfl rfl rfl (by decide +kernel) ⟨Nat.le_of_ble_eq_true rfl, Nat.le_of_ble_eq_true rfl⟩) ⟨px_blind, (px_pre hP hD hK hS hA hTK hZ [] rfl rfl (by decide) [] rfl)⟩ rfl rfl hl.1 rfl (lv_room (Nat.le_of_ble_eq_true rfl)) dX17_isPicture_13 ⟨(Nat.le_of_ble_eq_true rfl), (Nat.le_of_ble_eq_true rfl)⟩) (fun r_2 u H locs hw hP hD hK1 hS => ?_)
  have hP : va_P D vwCl ([(ad 40, .inr (22, [.int c0, .int 0, .int 0, .int 0, .ref (ad 41), .ref (ad 42), .ref (ad 43), .ref (ad 44), .int 500, .int 700, .int 10, .int 200, .ref (ad 45)])), (ad 41, .inr (4, [.int 0, .ref de, .int 0])), (ad 42, .inr (4, [.int 0, .ref de, .int 0])), (ad 44, .inr (4, [.int 0, .ref de, .int 0])), (ad 43, .inr (4, [.int 0, .ref de, .int 0]))]) H := hP
  have hD : va_D A ([(ad 40, .inr (22, [.int c0, .int 0, .int 0, .int 0, .ref (ad 41), .ref (ad 42), .ref (ad 43), .ref (ad 44), .int 500, .int 700, .int 10, .int 200, .ref (ad 45)])), (ad 41, .inr (4, [.int 0, .ref de, .int 0])), (ad 42, .inr (4, [.int 0, .ref de, .int 0])), (ad 44, .inr (4, [.int 0, .ref de, .int 0])), (ad 43, .inr (4, [.int 0, .ref de, .int 0]))]) := hD
  obtain rfl : r_2 = 0 := hw.trans (inR_none _)
  refine W.widen (k := 0) (n := 0) (Nat.le_of_ble_eq_true rfl) (Nat.le_of_ble_eq_true rfl) ?_
  have hP9 := hP.sub (ws' := (wM ad de c0)) [0, 1, 2, 4, 3] rfl
  have hD9 := hD.sub (ws' := (wM ad de c0)) [0, 1, 2, 4, 3] (by decide) rfl
  have hK9 := hK.sub (tys' := []) [] rfl
  exact W.zret (v := 0) hx hb hr (by decide) (fun t ht hW => ⟨⟨0, (), rfl, rfl, ⟨by rw [ht]; exact hP9, va_K.moved hW.alike hK9, hD9⟩⟩, hS.F ht⟩) hS.2.2 dX17_isPicture_16 hlocks

set_option maxHeartbeats 4000000 in
set_option maxRecDepth 100000 in
theorem c_isPull (l : Launch) (D : va_G) (de : Nat) (ad : Nat → Nat) (c0 : Int32) (p0 : Int32) (sz : Nat) : Met l yX17_isPull wsX17_isPull ({ frames := 1, cells := 0, slots := 0, locals := 22 } : Room) (va_Pc [.ref (ad 40), .int p0] (PX de D ([]) (wM ad de c0) sz)) (va_Qi (fun (r : Int32) (u : Unit) => r = 0) (fun (_ : Unit) t => PW D ([]) (va_A (wM ad de c0) sz) (wM ad de c0) t) (va_A (wM ad de c0) sz)) 0 0 (va_A (wM ad de c0) sz) := by
  refine Met.ofW (cc := cX17_isPull) (maxL := 2) (ret := (some .boolean)) (by decide) rfl ?_
  intro p e s m args below meth c s₁ B hml hv
  obtain ⟨rfl, hsz, hP, hK, hD0, hTK, hZ⟩ := hv
  have hx := B.exec
  have hb := B.bytes
  have hr := B.returns
  have hts := atoms_spec (ws := wsX17_isPull) B.pre
  have hown : s.vm.findClass RX17 = some m.cls := findClass_of_methodNamed B.named
  have hlocks := B.notSynchronized
  have hin_RX17 : ∀ w ∈ u_ws RX17 TX17 13, w ∈ wsX17_isPull := by decide +kernel
  subst hsz
  have hD := hD0.self (sz := s.heap.size)
  generalize hAe : va_A (wM ad de c0) s.heap.size = A at hD hZ ⊢
  have hA : ∀ q : Nat, s.heap.size ≤ q → A q := fun q h => by rw [← hAe]; exact Or.inr h
  have hS : va_S A s.heap s.heap [] := va_S.rf
  have hP : va_P D vwCl (wM ad de c0) s.heap := hP
  have hD : va_D A (wM ad de c0) := hD
  have hl := lv_entry ([.ref (ad 40), .int p0]) (n := 2) (Nat.le_of_ble_eq_true rfl)
  rw [lg_entry_eq]
  generalize (lg_sl ([.ref (ad 40), .int p0]) ++ List.replicate (2 - (lg_sl ([.ref (ad 40), .int p0])).length) Slot.unset).toArray = ls at hl ⊢
  have hl : lv_has ls 2 [(0, .ref (ad 40)), (1, .int p0)] := hl
  refine lv_iload_n hx hb dX17_isPull_0 rfl (lv_at hl 1 rfl) ?_
  refine lv_iconst (v := 0) hx hb dX17_isPull_1 (by decide) ?_
  refine lv_aload_n hx hb dX17_isPull_2 rfl (lv_at hl 0 rfl) ?_
  refine va_get (D := D) (ci := 22) (v := .ref (ad 44)) (C := RX17) (T := TX17) (N := 13) hx hb hts hin_RX17 hown hK hP 0 rfl rfl 7 (by decide) (hts (.fieldLink RX17 22 "PopupwrightModel" "pulls" "Ljava/util/List;") (by decide +kernel)) (fun _ h9 => h9) rfl dX17_isPull_3 ?_
  refine kx_Fi (wc := [(ad 44, .inr (4, [.int 0, .ref de, .int 0]))]) (wr := [(ad 40, .inr (22, [.int c0, .int 0, .int 0, .int 0, .ref (ad 41), .ref (ad 42), .ref (ad 43), .ref (ad 44), .int 500, .int 700, .int 10, .int 200, .ref (ad 45)])), (ad 41, .inr (4, [.int 0, .ref de, .int 0])), (ad 42, .inr (4, [.int 0, .ref de, .int 0])), (ad 43, .inr (4, [.int 0, .ref de, .int 0]))]) hP hD hS hA [4] [0, 1, 2, 3] rfl rfl (by decide) (by decide) (va_runF (As := []) (rest := [.int 0, .int p0]) (hK.1 4 _ rfl).2 ⟨hx, hb, hml, hown, hts⟩ (l_size l D de (ad 44) de 0 s.heap.size) (va_cwF 0 hts gX17_isPull_Jx4a65c_size_8abf5_f52Jx4a65c rfl rfl rfl (hTK.2.2.2.2.2.1 (RJx4a65c, ⟨"java/util/List", "size", "()I"⟩, yJx4a65c_size_8abf5) (by decide +kernel)) (by decide +kernel) ⟨Nat.le_of_ble_eq_true rfl, Nat.le_of_ble_eq_true rfl⟩) ⟨px_blind, (va_recv hK hP (ci := 4) (q0 := 4) rfl rfl), (px_pre hP hD hK hS hA hTK hZ [4] rfl rfl (by decide) [] rfl)⟩ rfl rfl hl.1 rfl (lv_room (Nat.le_of_ble_eq_true rfl)) dX17_isPull_6 ⟨(Nat.le_of_ble_eq_true rfl), (Nat.le_of_ble_eq_true rfl)⟩) (fun r_1 u H locs hw hP hD hK1 hS => ?_)
  have hP : va_P D vwCl (wM ad de c0) H := hP
  have hD : va_D A (wM ad de c0) := hD
  obtain rfl : r_1 = 0 := hw
  refine lv_iconst (v := 1) hx hb dX17_isPull_11 (by decide) ?_
  refine lv_isub hx hb dX17_isPull_12 ?_
  refine lv_topi (fun y_ ey_ => ?_)
  obtain rfl : y_ = (-1) := ey_.trans (by decide)
  refine kx_i (wc := []) (wr := wM ad de c0) hP hD hS hA [] [0, 1, 2, 3, 4] rfl rfl (by decide) (by decide) (va_runS (As := [.int p0, .int 0, .int (-1)]) (rest := []) ⟨hx, hb, hml, hown, hts⟩ (c_in l D de p0 0 (-1) H.size) (va_cwS 3 hts gX17_isPull_X17_in rfl rfl rfl (by decide +kernel) ⟨Nat.le_of_ble_eq_true rfl, Nat.le_of_ble_eq_true rfl⟩) ⟨px_blind, (px_pre hP hD hK hS hA hTK hZ [] rfl rfl (by decide) [] rfl)⟩ rfl rfl hl.1 rfl (lv_room (Nat.le_of_ble_eq_true rfl)) dX17_isPull_13 ⟨(Nat.le_of_ble_eq_true rfl), (Nat.le_of_ble_eq_true rfl)⟩) (fun r_2 u H locs hw hP hD hK1 hS => ?_)
  have hP : va_P D vwCl (wM ad de c0) H := hP
  have hD : va_D A (wM ad de c0) := hD
  obtain rfl : r_2 = 0 := hw.trans (inR_none _)
  refine W.widen (k := 0) (n := 0) (Nat.le_of_ble_eq_true rfl) (Nat.le_of_ble_eq_true rfl) ?_
  have hP9 := hP.sub (ws' := (wM ad de c0)) [0, 1, 2, 3, 4] rfl
  have hD9 := hD.sub (ws' := (wM ad de c0)) [0, 1, 2, 3, 4] (by decide) rfl
  have hK9 := hK.sub (tys' := []) [] rfl
  exact W.zret (v := 0) hx hb hr (by decide) (fun t ht hW => ⟨⟨0, (), rfl, rfl, ⟨by rw [ht]; exact hP9, va_K.moved hW.alike hK9, hD9⟩⟩, hS.F ht⟩) hS.2.2 dX17_isPull_16 hlocks

set_option maxHeartbeats 4000000 in
set_option maxRecDepth 100000 in
theorem c_stripAt (l : Launch) (D : va_G) (de : Nat) (ad : Nat → Nat) (c0 : Int32) (p0 : Int32) (sz : Nat) : Met l yX17_stripAt wsX17_stripAt ({ frames := 1, cells := 0, slots := 0, locals := 22 } : Room) (va_Pc [.ref (ad 40), .int p0] (PX de D ([]) (wM ad de c0) sz)) (va_Qq (fun (r : Option Nat) (u : Unit) => r = none) (fun (_ : Unit) t => PW D ([]) (va_A (wM ad de c0) sz) (wM ad de c0) t) (va_A (wM ad de c0) sz)) 0 0 (va_A (wM ad de c0) sz) := by
  refine Met.ofW (cc := cX17_stripAt) (maxL := 3) (ret := (some (.object "PopupwrightModel$Strip"))) (by decide) rfl ?_
  intro p e s m args below meth c s₁ B hml hv
  obtain ⟨rfl, hsz, hP, hK, hD0, hTK, hZ⟩ := hv
  have hx := B.exec
  have hb := B.bytes
  have hr := B.returns
  have hts := atoms_spec (ws := wsX17_stripAt) B.pre
  have hown : s.vm.findClass RX17 = some m.cls := findClass_of_methodNamed B.named
  have hlocks := B.notSynchronized
  have hin_RX17 : ∀ w ∈ u_ws RX17 TX17 13, w ∈ wsX17_stripAt := by decide +kernel
  subst hsz
  have hD := hD0.self (sz := s.heap.size)
  generalize hAe : va_A (wM ad de c0) s.heap.size = A at hD hZ ⊢
  have hA : ∀ q : Nat, s.heap.size ≤ q → A q := fun q h => by rw [← hAe]; exact Or.inr h
  have hS : va_S A s.heap s.heap [] := va_S.rf
  have hP : va_P D vwCl (wM ad de c0) s.heap := hP
  have hD : va_D A (wM ad de c0) := hD
  have hl := lv_entry ([.ref (ad 40), .int p0]) (n := 3) (Nat.le_of_ble_eq_true rfl)
  rw [lg_entry_eq]
  generalize (lg_sl ([.ref (ad 40), .int p0]) ++ List.replicate (3 - (lg_sl ([.ref (ad 40), .int p0])).length) Slot.unset).toArray = ls at hl ⊢
  have hl : lv_has ls 3 [(0, .ref (ad 40)), (1, .int p0)] := hl
  refine lv_iload_n hx hb dX17_stripAt_0 rfl (lv_at hl 1 rfl) ?_
  refine lv_iconst (v := 0) hx hb dX17_stripAt_1 (by decide) ?_
  refine lv_iconst (v := 4) hx hb dX17_stripAt_2 (by decide) ?_
  refine lv_aload_n hx hb dX17_stripAt_3 rfl (lv_at hl 0 rfl) ?_
  refine va_get (D := D) (ci := 22) (v := .ref (ad 42)) (C := RX17) (T := TX17) (N := 13) hx hb hts hin_RX17 hown hK hP 0 rfl rfl 5 (by decide) (hts (.fieldLink RX17 16 "PopupwrightModel" "folds" "Ljava/util/List;") (by decide +kernel)) (fun _ h9 => h9) rfl dX17_stripAt_4 ?_
  refine kx_Fi (wc := [(ad 42, .inr (4, [.int 0, .ref de, .int 0]))]) (wr := [(ad 40, .inr (22, [.int c0, .int 0, .int 0, .int 0, .ref (ad 41), .ref (ad 42), .ref (ad 43), .ref (ad 44), .int 500, .int 700, .int 10, .int 200, .ref (ad 45)])), (ad 41, .inr (4, [.int 0, .ref de, .int 0])), (ad 43, .inr (4, [.int 0, .ref de, .int 0])), (ad 44, .inr (4, [.int 0, .ref de, .int 0]))]) hP hD hS hA [2] [0, 1, 3, 4] rfl rfl (by decide) (by decide) (va_runF (As := []) (rest := [.int 4, .int 0, .int p0]) (hK.1 4 _ rfl).2 ⟨hx, hb, hml, hown, hts⟩ (l_size l D de (ad 42) de 0 s.heap.size) (va_cwF 0 hts gX17_stripAt_Jx4a65c_size_8abf5_f52Jx4a65c rfl rfl rfl (hTK.2.2.2.2.2.1 (RJx4a65c, ⟨"java/util/List", "size", "()I"⟩, yJx4a65c_size_8abf5) (by decide +kernel)) (by decide +kernel) ⟨Nat.le_of_ble_eq_true rfl, Nat.le_of_ble_eq_true rfl⟩) ⟨px_blind, (va_recv hK hP (ci := 4) (q0 := 2) rfl rfl), (px_pre hP hD hK hS hA hTK hZ [2] rfl rfl (by decide) [] rfl)⟩ rfl rfl hl.1 rfl (lv_room (Nat.le_of_ble_eq_true rfl)) dX17_stripAt_7 ⟨(Nat.le_of_ble_eq_true rfl), (Nat.le_of_ble_eq_true rfl)⟩) (fun r_1 u H locs hw hP hD hK1 hS => ?_)
  have hP : va_P D vwCl ([(ad 40, .inr (22, [.int c0, .int 0, .int 0, .int 0, .ref (ad 41), .ref (ad 42), .ref (ad 43), .ref (ad 44), .int 500, .int 700, .int 10, .int 200, .ref (ad 45)])), (ad 41, .inr (4, [.int 0, .ref de, .int 0])), (ad 43, .inr (4, [.int 0, .ref de, .int 0])), (ad 44, .inr (4, [.int 0, .ref de, .int 0])), (ad 42, .inr (4, [.int 0, .ref de, .int 0]))]) H := hP
  have hD : va_D A ([(ad 40, .inr (22, [.int c0, .int 0, .int 0, .int 0, .ref (ad 41), .ref (ad 42), .ref (ad 43), .ref (ad 44), .int 500, .int 700, .int 10, .int 200, .ref (ad 45)])), (ad 41, .inr (4, [.int 0, .ref de, .int 0])), (ad 43, .inr (4, [.int 0, .ref de, .int 0])), (ad 44, .inr (4, [.int 0, .ref de, .int 0])), (ad 42, .inr (4, [.int 0, .ref de, .int 0]))]) := hD
  obtain rfl : r_1 = 0 := hw
  refine lv_imul hx hb dX17_stripAt_12 ?_
  refine lv_topi (fun y_ ey_ => ?_)
  obtain rfl : y_ = 0 := ey_.trans (by decide)
  refine lv_iconst (v := 1) hx hb dX17_stripAt_13 (by decide) ?_
  refine lv_isub hx hb dX17_stripAt_14 ?_
  refine lv_topi (fun y_ ey_ => ?_)
  obtain rfl : y_ = (-1) := ey_.trans (by decide)
  refine kx_i (wc := []) (wr := [(ad 40, .inr (22, [.int c0, .int 0, .int 0, .int 0, .ref (ad 41), .ref (ad 42), .ref (ad 43), .ref (ad 44), .int 500, .int 700, .int 10, .int 200, .ref (ad 45)])), (ad 41, .inr (4, [.int 0, .ref de, .int 0])), (ad 43, .inr (4, [.int 0, .ref de, .int 0])), (ad 44, .inr (4, [.int 0, .ref de, .int 0])), (ad 42, .inr (4, [.int 0, .ref de, .int 0]))]) hP hD hS hA [] [0, 1, 2, 3, 4] rfl rfl (by decide) (by decide) (va_runS (As := [.int p0, .int 0, .int (-1)]) (rest := []) ⟨hx, hb, hml, hown, hts⟩ (c_in l D de p0 0 (-1) H.size) (va_cwS 3 hts gX17_stripAt_X17_in rfl rfl rfl (by decide +kernel) ⟨Nat.le_of_ble_eq_true rfl, Nat.le_of_ble_eq_true rfl⟩) ⟨px_blind, (px_pre hP hD hK hS hA hTK hZ [] rfl rfl (by decide) [] rfl)⟩ rfl rfl hl.1 rfl (lv_room (Nat.le_of_ble_eq_true rfl)) dX17_stripAt_15 ⟨(Nat.le_of_ble_eq_true rfl), (Nat.le_of_ble_eq_true rfl)⟩) (fun r_2 u H locs hw hP hD hK1 hS => ?_)
  have hP : va_P D vwCl ([(ad 40, .inr (22, [.int c0, .int 0, .int 0, .int 0, .ref (ad 41), .ref (ad 42), .ref (ad 43), .ref (ad 44), .int 500, .int 700, .int 10, .int 200, .ref (ad 45)])), (ad 41, .inr (4, [.int 0, .ref de, .int 0])), (ad 43, .inr (4, [.int 0, .ref de, .int 0])), (ad 44, .inr (4, [.int 0, .ref de, .int 0])), (ad 42, .inr (4, [.int 0, .ref de, .int 0]))]) H := hP
  have hD : va_D A ([(ad 40, .inr (22, [.int c0, .int 0, .int 0, .int 0, .ref (ad 41), .ref (ad 42), .ref (ad 43), .ref (ad 44), .int 500, .int 700, .int 10, .int 200, .ref (ad 45)])), (ad 41, .inr (4, [.int 0, .ref de, .int 0])), (ad 43, .inr (4, [.int 0, .ref de, .int 0])), (ad 44, .inr (4, [.int 0, .ref de, .int 0])), (ad 42, .inr (4, [.int 0, .ref de, .int 0]))]) := hD
  obtain rfl : r_2 = 0 := hw.trans (inR_none _)
  refine lv_if_eq (tgt := 46) hx hb dX17_stripAt_18 (by decide) (fun _ => ?_) (fun h_ => absurd (by decide) h_)
  refine lv_iconst (v := 0) hx hb dX17_stripAt_46 (by decide) ?_
  refine lv_istore_n (lv' := [(2, .int 0), (0, .ref (ad 40)), (1, .int p0)]) hx hb dX17_stripAt_47 rfl hl (by decide) rfl (fun ls hl => ?_)
  refine lv_iload_n hx hb dX17_stripAt_48 rfl (lv_at hl 0 rfl) ?_
  refine lv_if_eq (tgt := 76) hx hb dX17_stripAt_49 (by decide) (fun _ => ?_) (fun h_ => absurd (by decide) h_)
  refine lv_null hx hb dX17_stripAt_76 ?_
  refine W.widen (k := 0) (n := 0) (Nat.le_of_ble_eq_true rfl) (Nat.le_of_ble_eq_true rfl) ?_
  have hP9 := hP.sub (ws' := (wM ad de c0)) [0, 1, 4, 2, 3] rfl
  have hD9 := hD.sub (ws' := (wM ad de c0)) [0, 1, 4, 2, 3] (by decide) rfl
  have hK9 := hK.sub (tys' := []) [] rfl
  exact W.aret (v := .null) hx hb hr (Or.inl ⟨_, rfl⟩) (Or.inl rfl) (fun t ht hW => ⟨⟨none, (), rfl, rfl, ⟨by rw [ht]; exact hP9, va_K.moved hW.alike hK9, hD9⟩⟩, hS.F ht⟩) hS.2.2 dX17_stripAt_77 hlocks

set_option maxHeartbeats 4000000 in
set_option maxRecDepth 100000 in
theorem c_strips (l : Launch) (D : va_G) (de : Nat) (ad : Nat → Nat) (c0 : Int32) (sz : Nat) : Met l yX17_strips wsX17_strips ({ frames := 4, cells := 1, slots := 3, locals := 72 } : Room) (va_Pc [.ref (ad 40)] (PX de D ([]) (wM ad de c0) sz)) (va_Qq (fun (r : Option Nat) (u : Nat) => r = some u) (fun u t => PW D ([]) (va_A (wM ad de c0) sz) (wM ad de c0 ++ [(u, .inr (4, [.int 0, .ref de, .int 0]))]) t) (va_A (wM ad de c0) sz)) 1 3 (va_A (wM ad de c0) sz) := by
  refine Met.ofW (cc := cX17_strips) (maxL := 4) (ret := (some (.object "java/util/List"))) (by decide) rfl ?_
  intro p e s m args below meth c s₁ B hml hv
  obtain ⟨rfl, hsz, hP, hK, hD0, hTK, hZ⟩ := hv
  have hx := B.exec
  have hb := B.bytes
  have hr := B.returns
  have hts := atoms_spec (ws := wsX17_strips) B.pre
  have hown : s.vm.findClass RX17 = some m.cls := findClass_of_methodNamed B.named
  have hlocks := B.notSynchronized
  have hin_RJx4a65c : ∀ w ∈ u_ws RJx4a65c TJx4a65c 3, w ∈ wsX17_strips := by decide +kernel
  have hin_RX17 : ∀ w ∈ u_ws RX17 TX17 13, w ∈ wsX17_strips := by decide +kernel
  subst hsz
  have hD := hD0.self (sz := s.heap.size)
  generalize hAe : va_A (wM ad de c0) s.heap.size = A at hD hZ ⊢
  have hA : ∀ q : Nat, s.heap.size ≤ q → A q := fun q h => by rw [← hAe]; exact Or.inr h
  have hS : va_S A s.heap s.heap [] := va_S.rf
  have hP : va_P D vwCl (wM ad de c0) s.heap := hP
  have hD : va_D A (wM ad de c0) := hD
  have hl := lv_entry ([.ref (ad 40)]) (n := 4) (Nat.le_of_ble_eq_true rfl)
  rw [lg_entry_eq]
  generalize (lg_sl ([.ref (ad 40)]) ++ List.replicate (4 - (lg_sl ([.ref (ad 40)])).length) Slot.unset).toArray = ls at hl ⊢
  have hl : lv_has ls 4 [(0, .ref (ad 40))] := hl
  refine va_new (ci := 4) (fs := [.int 0, .null, .int 0]) (C := RJx4a65c) (T := TJx4a65c) (N := 3) hx hb hts hin_RJx4a65c tyJx4a65c tyJx4a65c_ok hown (hts (.classLink RX17 7 RJx4a65c) (by decide +kernel)) (hts (.instantiable RJx4a65c 3) (by decide +kernel)) (hts (.initialized RJx4a65c) (by decide +kernel)) hK hP hD hS hA rfl (fun j hj => by have hj9 : j < 3 := hj; (match j, hj9 with | 0, _ => rfl | 1, _ => rfl | 2, _ => rfl)) (Nat.le_of_ble_eq_true rfl) (Nat.le_of_ble_eq_true rfl) dX17_strips_0 (fun q_1 H hP hD hS => ?_)
  have hP : va_P D vwCl ([(ad 40, .inr (22, [.int c0, .int 0, .int 0, .int 0, .ref (ad 41), .ref (ad 42), .ref (ad 43), .ref (ad 44), .int 500, .int 700, .int 10, .int 200, .ref (ad 45)])), (ad 41, .inr (4, [.int 0, .ref de, .int 0])), (ad 42, .inr (4, [.int 0, .ref de, .int 0])), (ad 43, .inr (4, [.int 0, .ref de, .int 0])), (ad 44, .inr (4, [.int 0, .ref de, .int 0])), (q_1, .inr (4, [.int 0, .null, .int 0]))]) H := hP
  have hD : va_D A ([(ad 40, .inr (22, [.int c0, .int 0, .int 0, .int 0, .ref (ad 41), .ref (ad 42), .ref (ad 43), .ref (ad 44), .int 500, .int 700, .int 10, .int 200, .ref (ad 45)])), (ad 41, .inr (4, [.int 0, .ref de, .int 0])), (ad 42, .inr (4, [.int 0, .ref de, .int 0])), (ad 43, .inr (4, [.int 0, .ref de, .int 0])), (ad 44, .inr (4, [.int 0, .ref de, .int 0])), (q_1, .inr (4, [.int 0, .null, .int 0]))]) := hD
  refine W.widen (k := 1) (n := 3) (Nat.le_of_ble_eq_true rfl) (Nat.le_of_ble_eq_true rfl) ?_
  refine lv_dup hx hb dX17_strips_3 rfl ?_
  refine kx_v (wc := [(q_1, .inr (4, [.int 0, .null, .int 0]))]) (wr := wM ad de c0) hP hD hS hA [5] [0, 1, 2, 3, 4] rfl rfl (by decide) (by decide) (va_runI (As := []) (rest := [.ref q_1]) ⟨hx, hb, hml, hown, hts⟩ (l_new l D de q_1 H.size) (cwI 0 hts gX17_strips_Jx4a65c_init_da8c8 rfl rfl rfl (hts (.initialized RJx4a65c) (by decide +kernel)) (hts (.methodLink RX17 9 yJx4a65c_init_da8c8) (by decide +kernel)) (hts (.instanceMethod yJx4a65c_init_da8c8) (by decide +kernel)) rfl (by decide +kernel) ⟨Nat.le_of_ble_eq_true rfl, Nat.le_of_ble_eq_true rfl⟩) ⟨px_blind, (px_pre hP hD hK hS hA hTK hZ [5] rfl rfl (by decide) [] rfl)⟩ rfl rfl hl.1 rfl (lv_room (Nat.le_of_ble_eq_true rfl)) dX17_strips_4 ⟨(Nat.le_of_ble_eq_true rfl), (Nat.le_of_ble_eq_true rfl)⟩) (fun u H locs hw hP hD hK1 hS => ?_)
  have hP : va_P D vwCl ([(ad 40, .inr (22, [.int c0, .int 0, .int 0, .int 0, .ref (ad 41), .ref (ad 42), .ref (ad 43), .ref (ad 44), .int 500, .int 700, .int 10, .int 200, .ref (ad 45)])), (ad 41, .inr (4, [.int 0, .ref de, .int 0])), (ad 42, .inr (4, [.int 0, .ref de, .int 0])), (ad 43, .inr (4, [.int 0, .ref de, .int 0])), (ad 44, .inr (4, [.int 0, .ref de, .int 0])), (q_1, .inr (4, [.int 0, .ref de, .int 0]))]) H := hP
  have hD : va_D A ([(ad 40, .inr (22, [.int c0, .int 0, .int 0, .int 0, .ref (ad 41), .ref (ad 42), .ref (ad 43), .ref (ad 44), .int 500, .int 700, .int 10, .int 200, .ref (ad 45)])), (ad 41, .inr (4, [.int 0, .ref de, .int 0])), (ad 42, .inr (4, [.int 0, .ref de, .int 0])), (ad 43, .inr (4, [.int 0, .ref de, .int 0])), (ad 44, .inr (4, [.int 0, .ref de, .int 0])), (q_1, .inr (4, [.int 0, .ref de, .int 0]))]) := hD
  refine W.widen (k := 1) (n := 3) (Nat.le_of_ble_eq_true rfl) (Nat.le_of_ble_eq_true rfl) ?_
  refine lv_astore_n (lv' := [(1, .ref q_1), (0, .ref (ad 40))]) hx hb dX17_strips_7 rfl hl (by decide) rfl (fun ls hl => ?_)
  refine lv_iconst (v := 0) hx hb dX17_strips_8 (by decide) ?_
  refine lv_istore_n (lv' := [(2, .int 0), (1, .ref q_1), (0, .ref (ad 40))]) hx hb dX17_strips_9 rfl hl (by decide) rfl (fun ls hl => ?_)
  refine lv_iload_n hx hb dX17_strips_10 rfl (lv_at hl 0 rfl) ?_
  refine lv_iconst (v := 4) hx hb dX17_strips_11 (by decide) ?_
  refine lv_aload_n hx hb dX17_strips_12 rfl (lv_at hl 2 rfl) ?_
  refine va_get (D := D) (ci := 22) (v := .ref (ad 42)) (C := RX17) (T := TX17) (N := 13) hx hb hts hin_RX17 hown hK hP 0 rfl rfl 5 (by decide) (hts (.fieldLink RX17 16 "PopupwrightModel" "folds" "Ljava/util/List;") (by decide +kernel)) (fun _ h9 => h9) rfl dX17_strips_13 ?_
  refine kx_Fi (wc := [(ad 42, .inr (4, [.int 0, .ref de, .int 0]))]) (wr := [(ad 40, .inr (22, [.int c0, .int 0, .int 0, .int 0, .ref (ad 41), .ref (ad 42), .ref (ad 43), .ref (ad 44), .int 500, .int 700, .int 10, .int 200, .ref (ad 45)])), (ad 41, .inr (4, [.int 0, .ref de, .int 0])), (ad 43, .inr (4, [.int 0, .ref de, .int 0])), (ad 44, .inr (4, [.int 0, .ref de, .int 0])), (q_1, .inr (4, [.int 0, .ref de, .int 0]))]) hP hD hS hA [2] [0, 1, 3, 4, 5] rfl rfl (by decide) (by decide) (va_runF (As := []) (rest := [.int 4, .int 0]) (hK.1 4 _ rfl).2 ⟨hx, hb, hml, hown, hts⟩ (l_size l D de (ad 42) de 0 H.size) (va_cwF 0 hts gX17_strips_Jx4a65c_size_8abf5_f52Jx4a65c rfl rfl rfl (hTK.2.2.2.2.2.1 (RJx4a65c, ⟨"java/util/List", "size", "()I"⟩, yJx4a65c_size_8abf5) (by decide +kernel)) (by decide +kernel) ⟨Nat.le_of_ble_eq_true rfl, Nat.le_of_ble_eq_true rfl⟩) ⟨px_blind, (va_recv hK hP (ci := 4) (q0 := 2) rfl rfl), (px_pre hP hD hK hS hA hTK hZ [2] rfl rfl (by decide) [] rfl)⟩ rfl rfl hl.1 rfl (lv_room (Nat.le_of_ble_eq_true rfl)) dX17_strips_16 ⟨(Nat.le_of_ble_eq_true rfl), (Nat.le_of_ble_eq_true rfl)⟩) (fun r_3 u H locs hw hP hD hK1 hS => ?_)
  have hP : va_P D vwCl ([(ad 40, .inr (22, [.int c0, .int 0, .int 0, .int 0, .ref (ad 41), .ref (ad 42), .ref (ad 43), .ref (ad 44), .int 500, .int 700, .int 10, .int 200, .ref (ad 45)])), (ad 41, .inr (4, [.int 0, .ref de, .int 0])), (ad 43, .inr (4, [.int 0, .ref de, .int 0])), (ad 44, .inr (4, [.int 0, .ref de, .int 0])), (q_1, .inr (4, [.int 0, .ref de, .int 0])), (ad 42, .inr (4, [.int 0, .ref de, .int 0]))]) H := hP
  have hD : va_D A ([(ad 40, .inr (22, [.int c0, .int 0, .int 0, .int 0, .ref (ad 41), .ref (ad 42), .ref (ad 43), .ref (ad 44), .int 500, .int 700, .int 10, .int 200, .ref (ad 45)])), (ad 41, .inr (4, [.int 0, .ref de, .int 0])), (ad 43, .inr (4, [.int 0, .ref de, .int 0])), (ad 44, .inr (4, [.int 0, .ref de, .int 0])), (q_1, .inr (4, [.int 0, .ref de, .int 0])), (ad 42, .inr (4, [.int 0, .ref de, .int 0]))]) := hD
  obtain rfl : r_3 = 0 := hw
  refine W.widen (k := 1) (n := 3) (Nat.le_of_ble_eq_true rfl) (Nat.le_of_ble_eq_true rfl) ?_
  refine lv_imul hx hb dX17_strips_21 ?_
  refine lv_topi (fun y_ ey_ => ?_)
  obtain rfl : y_ = 0 := ey_.trans (by decide)
  refine lv_icmp_ge (tgt := 49) hx hb dX17_strips_22 (by decide) (fun _ => ?_) (fun h_ => absurd (by decide) h_)
  refine lv_aload_n hx hb dX17_strips_49 rfl (lv_at hl 1 rfl) ?_
  refine W.widen (k := 1) (n := 3) (Nat.le_of_ble_eq_true rfl) (Nat.le_of_ble_eq_true rfl) ?_
  have hP9 := hP.sub (ws' := (wM ad de c0 ++ [(q_1, .inr (4, [.int 0, .ref de, .int 0]))])) [0, 1, 5, 2, 3, 4] rfl
  have hD9 := hD.sub (ws' := (wM ad de c0 ++ [(q_1, .inr (4, [.int 0, .ref de, .int 0]))])) [0, 1, 5, 2, 3, 4] (by decide) rfl
  have hK9 := hK.sub (tys' := []) [] rfl
  exact W.aret (v := .ref q_1) hx hb hr (Or.inl ⟨_, rfl⟩) (Or.inr ⟨_, rfl⟩) (fun t ht hW => ⟨⟨some q_1, q_1, rfl, rfl, ⟨by rw [ht]; exact hP9, va_K.moved hW.alike hK9, hD9⟩⟩, hS.F ht⟩) hS.2.2 dX17_strips_50 hlocks

set_option maxHeartbeats 4000000 in
set_option maxRecDepth 100000 in
theorem c_pairs (l : Launch) (D : va_G) (de : Nat) (ad : Nat → Nat) (c0 : Int32) (sz : Nat) : Met l yX17_pairs wsX17_pairs ({ frames := 5, cells := 1, slots := 3, locals := 95 } : Room) (va_Pc [.ref (ad 40)] (PX de D ([]) (wM ad de c0) sz)) (va_Qi (fun (r : Int32) (u : Unit) => r = 0) (fun (_ : Unit) t => PW D ([]) (va_A (wM ad de c0) sz) (wM ad de c0) t) (va_A (wM ad de c0) sz)) 1 3 (va_A (wM ad de c0) sz) := by
  refine Met.ofW (cc := cX17_pairs) (maxL := 5) (ret := (some .int)) (by decide) rfl ?_
  intro p e s m args below meth c s₁ B hml hv
  obtain ⟨rfl, hsz, hP, hK, hD0, hTK, hZ⟩ := hv
  have hx := B.exec
  have hb := B.bytes
  have hr := B.returns
  have hts := atoms_spec (ws := wsX17_pairs) B.pre
  have hown : s.vm.findClass RX17 = some m.cls := findClass_of_methodNamed B.named
  have hlocks := B.notSynchronized
  subst hsz
  have hD := hD0.self (sz := s.heap.size)
  generalize hAe : va_A (wM ad de c0) s.heap.size = A at hD hZ ⊢
  have hA : ∀ q : Nat, s.heap.size ≤ q → A q := fun q h => by rw [← hAe]; exact Or.inr h
  have hS : va_S A s.heap s.heap [] := va_S.rf
  have hP : va_P D vwCl (wM ad de c0) s.heap := hP
  have hD : va_D A (wM ad de c0) := hD
  have hl := lv_entry ([.ref (ad 40)]) (n := 5) (Nat.le_of_ble_eq_true rfl)
  rw [lg_entry_eq]
  generalize (lg_sl ([.ref (ad 40)]) ++ List.replicate (5 - (lg_sl ([.ref (ad 40)])).length) Slot.unset).toArray = ls at hl ⊢
  have hl : lv_has ls 5 [(0, .ref (ad 40))] := hl
  refine lv_aload_n hx hb dX17_pairs_0 rfl (lv_at hl 0 rfl) ?_
  refine kx_q (wc := wM ad de c0) (wr := []) hP hD hS hA [0, 1, 2, 3, 4] [] rfl rfl (by decide) (by decide) (va_runV (As := []) (rest := []) ⟨hx, hb, hml, hown, hts⟩ (c_strips l D de ad c0 s.heap.size) (cwV 0 hts gX17_pairs_X17_strips rfl rfl rfl (by decide +kernel) ⟨Nat.le_of_ble_eq_true rfl, Nat.le_of_ble_eq_true rfl⟩) ⟨px_blind, (va_recv hK hP (ci := 22) (q0 := 0) rfl rfl), (px_pre hP hD hK hS hA hTK hZ [0, 1, 2, 3, 4] rfl rfl (by decide) [] rfl)⟩ rfl rfl hl.1 rfl (lv_room (Nat.le_of_ble_eq_true rfl)) dX17_pairs_1 ⟨(Nat.le_of_ble_eq_true rfl), (Nat.le_of_ble_eq_true rfl)⟩) (fun r_1 u H locs hw hP hD hK1 hS => ?_)
  obtain ⟨nl_2, rfl⟩ : ∃ z, z = u := ⟨_, rfl⟩
  have hP : va_P D vwCl ([(ad 40, .inr (22, [.int c0, .int 0, .int 0, .int 0, .ref (ad 41), .ref (ad 42), .ref (ad 43), .ref (ad 44), .int 500, .int 700, .int 10, .int 200, .ref (ad 45)])), (ad 41, .inr (4, [.int 0, .ref de, .int 0])), (ad 42, .inr (4, [.int 0, .ref de, .int 0])), (ad 43, .inr (4, [.int 0, .ref de, .int 0])), (ad 44, .inr (4, [.int 0, .ref de, .int 0])), (nl_2, .inr (4, [.int 0, .ref de, .int 0]))]) H := hP
  have hD : va_D A ([(ad 40, .inr (22, [.int c0, .int 0, .int 0, .int 0, .ref (ad 41), .ref (ad 42), .ref (ad 43), .ref (ad 44), .int 500, .int 700, .int 10, .int 200, .ref (ad 45)])), (ad 41, .inr (4, [.int 0, .ref de, .int 0])), (ad 42, .inr (4, [.int 0, .ref de, .int 0])), (ad 43, .inr (4, [.int 0, .ref de, .int 0])), (ad 44, .inr (4, [.int 0, .ref de, .int 0])), (nl_2, .inr (4, [.int 0, .ref de, .int 0]))]) := hD
  obtain rfl : r_1 = some nl_2 := hw
  refine W.widen (k := 1) (n := 3) (Nat.le_of_ble_eq_true rfl) (Nat.le_of_ble_eq_true rfl) ?_
  refine lv_astore_n (lv' := [(1, .ref nl_2), (0, .ref (ad 40))]) hx hb dX17_pairs_4 rfl hl (by decide) rfl (fun ls hl => ?_)
  refine lv_iconst (v := 0) hx hb dX17_pairs_5 (by decide) ?_
  refine lv_istore_n (lv' := [(2, .int 0), (1, .ref nl_2), (0, .ref (ad 40))]) hx hb dX17_pairs_6 rfl hl (by decide) rfl (fun ls hl => ?_)
  refine lv_iconst (v := 0) hx hb dX17_pairs_7 (by decide) ?_
  refine lv_istore_n (lv' := [(3, .int 0), (2, .int 0), (1, .ref nl_2), (0, .ref (ad 40))]) hx hb dX17_pairs_8 rfl hl (by decide) rfl (fun ls hl => ?_)
  refine lv_iload_n hx hb dX17_pairs_9 rfl (lv_at hl 0 rfl) ?_
  refine lv_aload_n hx hb dX17_pairs_10 rfl (lv_at hl 2 rfl) ?_
  refine kx_Fi (wc := [(nl_2, .inr (4, [.int 0, .ref de, .int 0]))]) (wr := wM ad de c0) hP hD hS hA [5] [0, 1, 2, 3, 4] rfl rfl (by decide) (by decide) (va_runF (As := []) (rest := [.int 0]) (hK.1 4 _ rfl).2 ⟨hx, hb, hml, hown, hts⟩ (l_size l D de nl_2 de 0 H.size) (va_cwF 0 hts gX17_pairs_Jx4a65c_size_8abf5_f52Jx4a65c rfl rfl rfl (hTK.2.2.2.2.2.1 (RJx4a65c, ⟨"java/util/List", "size", "()I"⟩, yJx4a65c_size_8abf5) (by decide +kernel)) (by decide +kernel) ⟨Nat.le_of_ble_eq_true rfl, Nat.le_of_ble_eq_true rfl⟩) ⟨px_blind, (va_recv hK hP (ci := 4) (q0 := 5) rfl rfl), (px_pre hP hD hK hS hA hTK hZ [5] rfl rfl (by decide) [] rfl)⟩ rfl rfl hl.1 rfl (lv_room (Nat.le_of_ble_eq_true rfl)) dX17_pairs_11 ⟨(Nat.le_of_ble_eq_true rfl), (Nat.le_of_ble_eq_true rfl)⟩) (fun r_3 u H locs hw hP hD hK1 hS => ?_)
  have hP : va_P D vwCl ([(ad 40, .inr (22, [.int c0, .int 0, .int 0, .int 0, .ref (ad 41), .ref (ad 42), .ref (ad 43), .ref (ad 44), .int 500, .int 700, .int 10, .int 200, .ref (ad 45)])), (ad 41, .inr (4, [.int 0, .ref de, .int 0])), (ad 42, .inr (4, [.int 0, .ref de, .int 0])), (ad 43, .inr (4, [.int 0, .ref de, .int 0])), (ad 44, .inr (4, [.int 0, .ref de, .int 0])), (nl_2, .inr (4, [.int 0, .ref de, .int 0]))]) H := hP
  have hD : va_D A ([(ad 40, .inr (22, [.int c0, .int 0, .int 0, .int 0, .ref (ad 41), .ref (ad 42), .ref (ad 43), .ref (ad 44), .int 500, .int 700, .int 10, .int 200, .ref (ad 45)])), (ad 41, .inr (4, [.int 0, .ref de, .int 0])), (ad 42, .inr (4, [.int 0, .ref de, .int 0])), (ad 43, .inr (4, [.int 0, .ref de, .int 0])), (ad 44, .inr (4, [.int 0, .ref de, .int 0])), (nl_2, .inr (4, [.int 0, .ref de, .int 0]))]) := hD
  obtain rfl : r_3 = 0 := hw
  refine W.widen (k := 1) (n := 3) (Nat.le_of_ble_eq_true rfl) (Nat.le_of_ble_eq_true rfl) ?_
  refine lv_icmp_ge (tgt := 75) hx hb dX17_pairs_16 (by decide) (fun _ => ?_) (fun h_ => absurd (by decide) h_)
  refine lv_iload_n hx hb dX17_pairs_75 rfl (lv_at hl 1 rfl) ?_
  refine W.widen (k := 1) (n := 3) (Nat.le_of_ble_eq_true rfl) (Nat.le_of_ble_eq_true rfl) ?_
  have hP9 := hP.sub (ws' := (wM ad de c0)) [0, 1, 2, 3, 4] rfl
  have hD9 := hD.sub (ws' := (wM ad de c0)) [0, 1, 2, 3, 4] (by decide) rfl
  have hK9 := hK.sub (tys' := []) [] rfl
  exact W.iret (v := 0) hx hb hr (fun t ht hW => ⟨⟨0, (), rfl, rfl, ⟨by rw [ht]; exact hP9, va_K.moved hW.alike hK9, hD9⟩⟩, hS.F ht⟩) hS.2.2 dX17_pairs_76 hlocks

set_option maxHeartbeats 4000000 in
set_option maxRecDepth 100000 in
theorem c_eye (l : Launch) (D : va_G) (de : Nat) (ad : Nat → Nat) (c0 : Int32) (p0 p1 p2 : Int32) (sz : Nat) : Met l yX17_eye wsX17_eye ({ frames := 5, cells := 2, slots := 7, locals := 95 } : Room) (va_Pc [.ref (ad 40), .int p0, .int p1, .int p2] (PX de D ([]) (wM ad de c0) sz)) (va_Qi (fun (r : Int32) (u : Unit) => r = -3) (fun (_ : Unit) t => PW D ([]) (va_A (wM ad de c0) sz) (wM ad de c0) t) (va_A (wM ad de c0) sz)) 2 7 (va_A (wM ad de c0) sz) := by
  refine Met.ofW (cc := cX17_eye) (maxL := 12) (ret := (some .int)) (by decide) rfl ?_
  intro p e s m args below meth c s₁ B hml hv
  obtain ⟨rfl, hsz, hP, hK, hD0, hTK, hZ⟩ := hv
  have hx := B.exec
  have hb := B.bytes
  have hr := B.returns
  have hts := atoms_spec (ws := wsX17_eye) B.pre
  have hown : s.vm.findClass RX17 = some m.cls := findClass_of_methodNamed B.named
  have hlocks := B.notSynchronized
  have hin_RX17 : ∀ w ∈ u_ws RX17 TX17 13, w ∈ wsX17_eye := by decide +kernel
  subst hsz
  have hD := hD0.self (sz := s.heap.size)
  generalize hAe : va_A (wM ad de c0) s.heap.size = A at hD hZ ⊢
  have hA : ∀ q : Nat, s.heap.size ≤ q → A q := fun q h => by rw [← hAe]; exact Or.inr h
  have hS : va_S A s.heap s.heap [] := va_S.rf
  have hP : va_P D vwCl (wM ad de c0) s.heap := hP
  have hD : va_D A (wM ad de c0) := hD
  have hl := lv_entry ([.ref (ad 40), .int p0, .int p1, .int p2]) (n := 12) (Nat.le_of_ble_eq_true rfl)
  rw [lg_entry_eq]
  generalize (lg_sl ([.ref (ad 40), .int p0, .int p1, .int p2]) ++ List.replicate (12 - (lg_sl ([.ref (ad 40), .int p0, .int p1, .int p2])).length) Slot.unset).toArray = ls at hl ⊢
  have hl : lv_has ls 12 [(0, .ref (ad 40)), (1, .int p0), (2, .int p1), (3, .int p2)] := hl
  refine lv_bipush (v := (-3)) hx hb dX17_eye_0 (by decide) ?_
  refine lv_istore (lv' := [(4, .int (-3)), (0, .ref (ad 40)), (1, .int p0), (2, .int p1), (3, .int p2)]) hx hb dX17_eye_2 hl (by decide) rfl (fun ls hl => ?_)
  refine lv_ldc2 (v := (-1)) hx hb hown (hts (.constantLong RX17 207 (-1)) (by decide +kernel)) dX17_eye_4 ?_
  refine lv_lstore (lv' := [(5, .long (-1)), (4, .int (-3)), (0, .ref (ad 40)), (1, .int p0), (2, .int p1), (3, .int p2)]) hx hb dX17_eye_7 hl (by decide) rfl (fun ls hl => ?_)
  refine lv_aload_n hx hb dX17_eye_9 rfl (lv_at hl 2 rfl) ?_
  refine kx_q (wc := wM ad de c0) (wr := []) hP hD hS hA [0, 1, 2, 3, 4] [] rfl rfl (by decide) (by decide) (va_runV (As := []) (rest := []) ⟨hx, hb, hml, hown, hts⟩ (c_strips l D de ad c0 s.heap.size) (cwV 0 hts gX17_eye_X17_strips rfl rfl rfl (by decide +kernel) ⟨Nat.le_of_ble_eq_true rfl, Nat.le_of_ble_eq_true rfl⟩) ⟨px_blind, (va_recv hK hP (ci := 22) (q0 := 0) rfl rfl), (px_pre hP hD hK hS hA hTK hZ [0, 1, 2, 3, 4] rfl rfl (by decide) [] rfl)⟩ rfl rfl hl.1 rfl (lv_room (Nat.le_of_ble_eq_true rfl)) dX17_eye_10 ⟨(Nat.le_of_ble_eq_true rfl), (Nat.le_of_ble_eq_true rfl)⟩) (fun r_1 u H locs hw hP hD hK1 hS => ?_)
  obtain ⟨nl_2, rfl⟩ : ∃ z, z = u := ⟨_, rfl⟩
  have hP : va_P D vwCl ([(ad 40, .inr (22, [.int c0, .int 0, .int 0, .int 0, .ref (ad 41), .ref (ad 42), .ref (ad 43), .ref (ad 44), .int 500, .int 700, .int 10, .int 200, .ref (ad 45)])), (ad 41, .inr (4, [.int 0, .ref de, .int 0])), (ad 42, .inr (4, [.int 0, .ref de, .int 0])), (ad 43, .inr (4, [.int 0, .ref de, .int 0])), (ad 44, .inr (4, [.int 0, .ref de, .int 0])), (nl_2, .inr (4, [.int 0, .ref de, .int 0]))]) H := hP
  have hD : va_D A ([(ad 40, .inr (22, [.int c0, .int 0, .int 0, .int 0, .ref (ad 41), .ref (ad 42), .ref (ad 43), .ref (ad 44), .int 500, .int 700, .int 10, .int 200, .ref (ad 45)])), (ad 41, .inr (4, [.int 0, .ref de, .int 0])), (ad 42, .inr (4, [.int 0, .ref de, .int 0])), (ad 43, .inr (4, [.int 0, .ref de, .int 0])), (ad 44, .inr (4, [.int 0, .ref de, .int 0])), (nl_2, .inr (4, [.int 0, .ref de, .int 0]))]) := hD
  obtain rfl : r_1 = some nl_2 := hw
  refine W.widen (k := 1) (n := 3) (Nat.le_of_ble_eq_true rfl) (Nat.le_of_ble_eq_true rfl) ?_
  refine lv_astore (lv' := [(7, .ref nl_2), (5, .long (-1)), (4, .int (-3)), (0, .ref (ad 40)), (1, .int p0), (2, .int p1), (3, .int p2)]) hx hb dX17_eye_13 hl (by decide) rfl (fun ls hl => ?_)
  refine lv_aload_n hx hb dX17_eye_15 rfl (lv_at hl 3 rfl) ?_
  refine va_get (D := D) (ci := 22) (v := .int 0) (C := RX17) (T := TX17) (N := 13) hx hb hts hin_RX17 hown hK hP 0 rfl rfl 1 (by decide) (hts (.fieldLink RX17 58 "PopupwrightModel" "hasSpread" "Z") (by decide +kernel)) (fun _ h9 => h9) rfl dX17_eye_16 ?_
  refine lv_if_eq (tgt := 79) hx hb dX17_eye_19 (by decide) (fun _ => ?_) (fun h_ => absurd (by decide) h_)
  refine lv_aload hx hb dX17_eye_79 (lv_at hl 0 rfl) ?_
  refine kx_Fq (wc := [(nl_2, .inr (4, [.int 0, .ref de, .int 0]))]) (wr := wM ad de c0) hP hD hS hA [5] [0, 1, 2, 3, 4] rfl rfl (by decide) (by decide) (va_runF (As := []) (rest := []) (hK.1 4 _ rfl).2 ⟨hx, hb, hml, hown, hts⟩ (l_iterator l D de nl_2 de 0 H.size) (va_cwF 0 hts gX17_eye_Jx4a65c_iterator_32c93_f171Jx4a65c rfl rfl rfl (hTK.2.2.2.2.2.1 (RJx4a65c, ⟨"java/util/List", "iterator", "()Ljava/util/Iterator;"⟩, yJx4a65c_iterator_32c93) (by decide +kernel)) (by decide +kernel) ⟨Nat.le_of_ble_eq_true rfl, Nat.le_of_ble_eq_true rfl⟩) ⟨px_blind, (va_recv hK hP (ci := 4) (q0 := 5) rfl rfl), (px_pre hP hD hK hS hA hTK hZ [5] rfl rfl (by decide) [] rfl)⟩ rfl rfl hl.1 rfl (lv_room (Nat.le_of_ble_eq_true rfl)) dX17_eye_81 ⟨(Nat.le_of_ble_eq_true rfl), (Nat.le_of_ble_eq_true rfl)⟩) (fun r_3 u H locs hw hP hD hK1 hS => ?_)
  obtain ⟨it_4, rfl⟩ : ∃ z, z = u := ⟨_, rfl⟩
  have hP : va_P D vwCl ([(ad 40, .inr (22, [.int c0, .int 0, .int 0, .int 0, .ref (ad 41), .ref (ad 42), .ref (ad 43), .ref (ad 44), .int 500, .int 700, .int 10, .int 200, .ref (ad 45)])), (ad 41, .inr (4, [.int 0, .ref de, .int 0])), (ad 42, .inr (4, [.int 0, .ref de, .int 0])), (ad 43, .inr (4, [.int 0, .ref de, .int 0])), (ad 44, .inr (4, [.int 0, .ref de, .int 0])), (it_4, .inr (3, [.int 0, .int (-1), .int 0, .ref nl_2])), (nl_2, .inr (4, [.int 0, .ref de, .int 0]))]) H := hP
  have hD : va_D A ([(ad 40, .inr (22, [.int c0, .int 0, .int 0, .int 0, .ref (ad 41), .ref (ad 42), .ref (ad 43), .ref (ad 44), .int 500, .int 700, .int 10, .int 200, .ref (ad 45)])), (ad 41, .inr (4, [.int 0, .ref de, .int 0])), (ad 42, .inr (4, [.int 0, .ref de, .int 0])), (ad 43, .inr (4, [.int 0, .ref de, .int 0])), (ad 44, .inr (4, [.int 0, .ref de, .int 0])), (it_4, .inr (3, [.int 0, .int (-1), .int 0, .ref nl_2])), (nl_2, .inr (4, [.int 0, .ref de, .int 0]))]) := hD
  obtain rfl : r_3 = some it_4 := hw
  refine W.widen (k := 2) (n := 7) (Nat.le_of_ble_eq_true rfl) (Nat.le_of_ble_eq_true rfl) ?_
  refine lv_astore (lv' := [(8, .ref it_4), (7, .ref nl_2), (5, .long (-1)), (4, .int (-3)), (0, .ref (ad 40)), (1, .int p0), (2, .int p1), (3, .int p2)]) hx hb dX17_eye_86 hl (by decide) rfl (fun ls hl => ?_)
  refine lv_aload hx hb dX17_eye_88 (lv_at hl 0 rfl) ?_
  refine kx_Fi (wc := [(it_4, .inr (3, [.int 0, .int (-1), .int 0, .ref nl_2])), (nl_2, .inr (4, [.int 0, .ref de, .int 0]))]) (wr := wM ad de c0) hP hD hS hA [5, 6] [0, 1, 2, 3, 4] rfl rfl (by decide) (by decide) (va_runF (As := []) (rest := []) (hK.1 3 _ rfl).2 ⟨hx, hb, hml, hown, hts⟩ (l_hasNext l D de it_4 nl_2 de 0 H.size) (va_cwF 0 hts gX17_eye_Jx35411_hasNext_aae02_f175Jx35411 rfl rfl rfl (hTK.2.2.2.2.2.1 (RJx35411, ⟨"java/util/Iterator", "hasNext", "()Z"⟩, yJx35411_hasNext_aae02) (by decide +kernel)) (by decide +kernel) ⟨Nat.le_of_ble_eq_true rfl, Nat.le_of_ble_eq_true rfl⟩) ⟨px_blind, (va_recv hK hP (ci := 3) (q0 := 5) rfl rfl), (px_pre hP hD hK hS hA hTK hZ [5, 6] rfl rfl (by decide) [] rfl)⟩ rfl rfl hl.1 rfl (lv_room (Nat.le_of_ble_eq_true rfl)) dX17_eye_90 ⟨(Nat.le_of_ble_eq_true rfl), (Nat.le_of_ble_eq_true rfl)⟩) (fun r_5 u H locs hw hP hD hK1 hS => ?_)
  have hP : va_P D vwCl ([(ad 40, .inr (22, [.int c0, .int 0, .int 0, .int 0, .ref (ad 41), .ref (ad 42), .ref (ad 43), .ref (ad 44), .int 500, .int 700, .int 10, .int 200, .ref (ad 45)])), (ad 41, .inr (4, [.int 0, .ref de, .int 0])), (ad 42, .inr (4, [.int 0, .ref de, .int 0])), (ad 43, .inr (4, [.int 0, .ref de, .int 0])), (ad 44, .inr (4, [.int 0, .ref de, .int 0])), (it_4, .inr (3, [.int 0, .int (-1), .int 0, .ref nl_2])), (nl_2, .inr (4, [.int 0, .ref de, .int 0]))]) H := hP
  have hD : va_D A ([(ad 40, .inr (22, [.int c0, .int 0, .int 0, .int 0, .ref (ad 41), .ref (ad 42), .ref (ad 43), .ref (ad 44), .int 500, .int 700, .int 10, .int 200, .ref (ad 45)])), (ad 41, .inr (4, [.int 0, .ref de, .int 0])), (ad 42, .inr (4, [.int 0, .ref de, .int 0])), (ad 43, .inr (4, [.int 0, .ref de, .int 0])), (ad 44, .inr (4, [.int 0, .ref de, .int 0])), (it_4, .inr (3, [.int 0, .int (-1), .int 0, .ref nl_2])), (nl_2, .inr (4, [.int 0, .ref de, .int 0]))]) := hD
  obtain rfl : r_5 = 0 := hw
  refine W.widen (k := 2) (n := 7) (Nat.le_of_ble_eq_true rfl) (Nat.le_of_ble_eq_true rfl) ?_
  refine lv_if_eq (tgt := 142) hx hb dX17_eye_95 (by decide) (fun _ => ?_) (fun h_ => absurd (by decide) h_)
  refine lv_iload hx hb dX17_eye_142 (lv_at hl 3 rfl) ?_
  refine W.widen (k := 2) (n := 7) (Nat.le_of_ble_eq_true rfl) (Nat.le_of_ble_eq_true rfl) ?_
  have hP9 := hP.sub (ws' := (wM ad de c0)) [0, 1, 2, 3, 4] rfl
  have hD9 := hD.sub (ws' := (wM ad de c0)) [0, 1, 2, 3, 4] (by decide) rfl
  have hK9 := hK.sub (tys' := []) [] rfl
  exact W.iret (v := (-3)) hx hb hr (fun t ht hW => ⟨⟨(-3), (), rfl, rfl, ⟨by rw [ht]; exact hP9, va_K.moved hW.alike hK9, hD9⟩⟩, hS.F ht⟩) hS.2.2 dX17_eye_144 hlocks

set_option maxHeartbeats 4000000 in
set_option maxRecDepth 100000 in
theorem c_torn (l : Launch) (D : va_G) (de : Nat) (ad : Nat → Nat) (c0 : Int32) (sz : Nat) : Met l yX17_torn wsX17_torn ({ frames := 3, cells := 1, slots := 4, locals := 53 } : Room) (va_Pc [.ref (ad 40)] (PX de D ([]) (wM ad de c0) sz)) (va_Qi (fun (r : Int32) (u : Unit) => r = 0) (fun (_ : Unit) t => PW D ([]) (va_A (wM ad de c0) sz) (wM ad de c0) t) (va_A (wM ad de c0) sz)) 1 4 (va_A (wM ad de c0) sz) := by
  refine Met.ofW (cc := cX17_torn) (maxL := 4) (ret := (some .int)) (by decide) rfl ?_
  intro p e s m args below meth c s₁ B hml hv
  obtain ⟨rfl, hsz, hP, hK, hD0, hTK, hZ⟩ := hv
  have hx := B.exec
  have hb := B.bytes
  have hr := B.returns
  have hts := atoms_spec (ws := wsX17_torn) B.pre
  have hown : s.vm.findClass RX17 = some m.cls := findClass_of_methodNamed B.named
  have hlocks := B.notSynchronized
  have hin_RX17 : ∀ w ∈ u_ws RX17 TX17 13, w ∈ wsX17_torn := by decide +kernel
  subst hsz
  have hD := hD0.self (sz := s.heap.size)
  generalize hAe : va_A (wM ad de c0) s.heap.size = A at hD hZ ⊢
  have hA : ∀ q : Nat, s.heap.size ≤ q → A q := fun q h => by rw [← hAe]; exact Or.inr h
  have hS : va_S A s.heap s.heap [] := va_S.rf
  have hP : va_P D vwCl (wM ad de c0) s.heap := hP
  have hD : va_D A (wM ad de c0) := hD
  have hl := lv_entry ([.ref (ad 40)]) (n := 4) (Nat.le_of_ble_eq_true rfl)
  rw [lg_entry_eq]
  generalize (lg_sl ([.ref (ad 40)]) ++ List.replicate (4 - (lg_sl ([.ref (ad 40)])).length) Slot.unset).toArray = ls at hl ⊢
  have hl : lv_has ls 4 [(0, .ref (ad 40))] := hl
  refine lv_iconst (v := 0) hx hb dX17_torn_0 (by decide) ?_
  refine lv_istore_n (lv' := [(1, .int 0), (0, .ref (ad 40))]) hx hb dX17_torn_1 rfl hl (by decide) rfl (fun ls hl => ?_)
  refine lv_aload_n hx hb dX17_torn_2 rfl (lv_at hl 1 rfl) ?_
  refine va_get (D := D) (ci := 22) (v := .ref (ad 42)) (C := RX17) (T := TX17) (N := 13) hx hb hts hin_RX17 hown hK hP 0 rfl rfl 5 (by decide) (hts (.fieldLink RX17 16 "PopupwrightModel" "folds" "Ljava/util/List;") (by decide +kernel)) (fun _ h9 => h9) rfl dX17_torn_3 ?_
  refine kx_Fq (wc := [(ad 42, .inr (4, [.int 0, .ref de, .int 0]))]) (wr := [(ad 40, .inr (22, [.int c0, .int 0, .int 0, .int 0, .ref (ad 41), .ref (ad 42), .ref (ad 43), .ref (ad 44), .int 500, .int 700, .int 10, .int 200, .ref (ad 45)])), (ad 41, .inr (4, [.int 0, .ref de, .int 0])), (ad 43, .inr (4, [.int 0, .ref de, .int 0])), (ad 44, .inr (4, [.int 0, .ref de, .int 0]))]) hP hD hS hA [2] [0, 1, 3, 4] rfl rfl (by decide) (by decide) (va_runF (As := []) (rest := []) (hK.1 4 _ rfl).2 ⟨hx, hb, hml, hown, hts⟩ (l_iterator l D de (ad 42) de 0 s.heap.size) (va_cwF 0 hts gX17_torn_Jx4a65c_iterator_32c93_f171Jx4a65c rfl rfl rfl (hTK.2.2.2.2.2.1 (RJx4a65c, ⟨"java/util/List", "iterator", "()Ljava/util/Iterator;"⟩, yJx4a65c_iterator_32c93) (by decide +kernel)) (by decide +kernel) ⟨Nat.le_of_ble_eq_true rfl, Nat.le_of_ble_eq_true rfl⟩) ⟨px_blind, (va_recv hK hP (ci := 4) (q0 := 2) rfl rfl), (px_pre hP hD hK hS hA hTK hZ [2] rfl rfl (by decide) [] rfl)⟩ rfl rfl hl.1 rfl (lv_room (Nat.le_of_ble_eq_true rfl)) dX17_torn_6 ⟨(Nat.le_of_ble_eq_true rfl), (Nat.le_of_ble_eq_true rfl)⟩) (fun r_1 u H locs hw hP hD hK1 hS => ?_)
  obtain ⟨it_2, rfl⟩ : ∃ z, z = u := ⟨_, rfl⟩
  have hP : va_P D vwCl ([(ad 40, .inr (22, [.int c0, .int 0, .int 0, .int 0, .ref (ad 41), .ref (ad 42), .ref (ad 43), .ref (ad 44), .int 500, .int 700, .int 10, .int 200, .ref (ad 45)])), (ad 41, .inr (4, [.int 0, .ref de, .int 0])), (ad 43, .inr (4, [.int 0, .ref de, .int 0])), (ad 44, .inr (4, [.int 0, .ref de, .int 0])), (it_2, .inr (3, [.int 0, .int (-1), .int 0, .ref (ad 42)])), (ad 42, .inr (4, [.int 0, .ref de, .int 0]))]) H := hP
  have hD : va_D A ([(ad 40, .inr (22, [.int c0, .int 0, .int 0, .int 0, .ref (ad 41), .ref (ad 42), .ref (ad 43), .ref (ad 44), .int 500, .int 700, .int 10, .int 200, .ref (ad 45)])), (ad 41, .inr (4, [.int 0, .ref de, .int 0])), (ad 43, .inr (4, [.int 0, .ref de, .int 0])), (ad 44, .inr (4, [.int 0, .ref de, .int 0])), (it_2, .inr (3, [.int 0, .int (-1), .int 0, .ref (ad 42)])), (ad 42, .inr (4, [.int 0, .ref de, .int 0]))]) := hD
  obtain rfl : r_1 = some it_2 := hw
  refine W.widen (k := 1) (n := 4) (Nat.le_of_ble_eq_true rfl) (Nat.le_of_ble_eq_true rfl) ?_
  refine lv_astore_n (lv' := [(2, .ref it_2), (1, .int 0), (0, .ref (ad 40))]) hx hb dX17_torn_11 rfl hl (by decide) rfl (fun ls hl => ?_)
  refine lv_aload_n hx hb dX17_torn_12 rfl (lv_at hl 0 rfl) ?_
  refine kx_Fi (wc := [(it_2, .inr (3, [.int 0, .int (-1), .int 0, .ref (ad 42)])), (ad 42, .inr (4, [.int 0, .ref de, .int 0]))]) (wr := [(ad 40, .inr (22, [.int c0, .int 0, .int 0, .int 0, .ref (ad 41), .ref (ad 42), .ref (ad 43), .ref (ad 44), .int 500, .int 700, .int 10, .int 200, .ref (ad 45)])), (ad 41, .inr (4, [.int 0, .ref de, .int 0])), (ad 43, .inr (4, [.int 0, .ref de, .int 0])), (ad 44, .inr (4, [.int 0, .ref de, .int 0]))]) hP hD hS hA [4, 5] [0, 1, 2, 3] rfl rfl (by decide) (by decide) (va_runF (As := []) (rest := []) (hK.1 3 _ rfl).2 ⟨hx, hb, hml, hown, hts⟩ (l_hasNext l D de it_2 (ad 42) de 0 H.size) (va_cwF 0 hts gX17_torn_Jx35411_hasNext_aae02_f175Jx35411 rfl rfl rfl (hTK.2.2.2.2.2.1 (RJx35411, ⟨"java/util/Iterator", "hasNext", "()Z"⟩, yJx35411_hasNext_aae02) (by decide +kernel)) (by decide +kernel) ⟨Nat.le_of_ble_eq_true rfl, Nat.le_of_ble_eq_true rfl⟩) ⟨px_blind, (va_recv hK hP (ci := 3) (q0 := 4) rfl rfl), (px_pre hP hD hK hS hA hTK hZ [4, 5] rfl rfl (by decide) [] rfl)⟩ rfl rfl hl.1 rfl (lv_room (Nat.le_of_ble_eq_true rfl)) dX17_torn_13 ⟨(Nat.le_of_ble_eq_true rfl), (Nat.le_of_ble_eq_true rfl)⟩) (fun r_3 u H locs hw hP hD hK1 hS => ?_)
  have hP : va_P D vwCl ([(ad 40, .inr (22, [.int c0, .int 0, .int 0, .int 0, .ref (ad 41), .ref (ad 42), .ref (ad 43), .ref (ad 44), .int 500, .int 700, .int 10, .int 200, .ref (ad 45)])), (ad 41, .inr (4, [.int 0, .ref de, .int 0])), (ad 43, .inr (4, [.int 0, .ref de, .int 0])), (ad 44, .inr (4, [.int 0, .ref de, .int 0])), (it_2, .inr (3, [.int 0, .int (-1), .int 0, .ref (ad 42)])), (ad 42, .inr (4, [.int 0, .ref de, .int 0]))]) H := hP
  have hD : va_D A ([(ad 40, .inr (22, [.int c0, .int 0, .int 0, .int 0, .ref (ad 41), .ref (ad 42), .ref (ad 43), .ref (ad 44), .int 500, .int 700, .int 10, .int 200, .ref (ad 45)])), (ad 41, .inr (4, [.int 0, .ref de, .int 0])), (ad 43, .inr (4, [.int 0, .ref de, .int 0])), (ad 44, .inr (4, [.int 0, .ref de, .int 0])), (it_2, .inr (3, [.int 0, .int (-1), .int 0, .ref (ad 42)])), (ad 42, .inr (4, [.int 0, .ref de, .int 0]))]) := hD
  obtain rfl : r_3 = 0 := hw
  refine W.widen (k := 1) (n := 4) (Nat.le_of_ble_eq_true rfl) (Nat.le_of_ble_eq_true rfl) ?_
  refine lv_if_eq (tgt := 49) hx hb dX17_torn_18 (by decide) (fun _ => ?_) (fun h_ => absurd (by decide) h_)
  refine lv_iload_n hx hb dX17_torn_49 rfl (lv_at hl 1 rfl) ?_
  refine W.widen (k := 1) (n := 4) (Nat.le_of_ble_eq_true rfl) (Nat.le_of_ble_eq_true rfl) ?_
  have hP9 := hP.sub (ws' := (wM ad de c0)) [0, 1, 5, 2, 3] rfl
  have hD9 := hD.sub (ws' := (wM ad de c0)) [0, 1, 5, 2, 3] (by decide) rfl
  have hK9 := hK.sub (tys' := []) [] rfl
  exact W.iret (v := 0) hx hb hr (fun t ht hW => ⟨⟨0, (), rfl, rfl, ⟨by rw [ht]; exact hP9, va_K.moved hW.alike hK9, hD9⟩⟩, hS.F ht⟩) hS.2.2 dX17_torn_50 hlocks

set_option maxHeartbeats 4000000 in
set_option maxRecDepth 100000 in
theorem c_order (l : Launch) (D : va_G) (de : Nat) (ad : Nat → Nat) (c0 : Int32) (sz : Nat) : Met l yX17_order wsX17_order ({ frames := 4, cells := 4, slots := 3, locals := 72 } : Room) (va_Pc [.ref (ad 40)] (PX de D ([]) (wM ad de c0) sz)) (va_Qq (fun (r : Option Nat) (u : Nat) => r = some u) (fun u t => PW D ([]) (va_A (wM ad de c0) sz) (wM ad de c0 ++ [(u, .inr (4, [.int 0, .ref de, .int 0]))]) t) (va_A (wM ad de c0) sz)) 4 3 (va_A (wM ad de c0) sz) := by
  refine Met.ofW (cc := cX17_order) (maxL := 14) (ret := (some (.object "java/util/List"))) (by decide) rfl ?_
  intro p e s m args below meth c s₁ B hml hv
  obtain ⟨rfl, hsz, hP, hK, hD0, hTK, hZ⟩ := hv
  have hx := B.exec
  have hb := B.bytes
  have hr := B.returns
  have hts := atoms_spec (ws := wsX17_order) B.pre
  have hown : s.vm.findClass RX17 = some m.cls := findClass_of_methodNamed B.named
  have hlocks := B.notSynchronized
  have hin_RJx4a65c : ∀ w ∈ u_ws RJx4a65c TJx4a65c 3, w ∈ wsX17_order := by decide +kernel
  have hin_RX17 : ∀ w ∈ u_ws RX17 TX17 13, w ∈ wsX17_order := by decide +kernel
  subst hsz
  have hD := hD0.self (sz := s.heap.size)
  generalize hAe : va_A (wM ad de c0) s.heap.size = A at hD hZ ⊢
  have hA : ∀ q : Nat, s.heap.size ≤ q → A q := fun q h => by rw [← hAe]; exact Or.inr h
  have hS : va_S A s.heap s.heap [] := va_S.rf
  have hP : va_P D vwCl (wM ad de c0) s.heap := hP
  have hD : va_D A (wM ad de c0) := hD
  have hl := lv_entry ([.ref (ad 40)]) (n := 14) (Nat.le_of_ble_eq_true rfl)
  rw [lg_entry_eq]
  generalize (lg_sl ([.ref (ad 40)]) ++ List.replicate (14 - (lg_sl ([.ref (ad 40)])).length) Slot.unset).toArray = ls at hl ⊢
  have hl : lv_has ls 14 [(0, .ref (ad 40))] := hl
  refine va_new (ci := 4) (fs := [.int 0, .null, .int 0]) (C := RJx4a65c) (T := TJx4a65c) (N := 3) hx hb hts hin_RJx4a65c tyJx4a65c tyJx4a65c_ok hown (hts (.classLink RX17 7 RJx4a65c) (by decide +kernel)) (hts (.instantiable RJx4a65c 3) (by decide +kernel)) (hts (.initialized RJx4a65c) (by decide +kernel)) hK hP hD hS hA rfl (fun j hj => by have hj9 : j < 3 := hj; (match j, hj9 with | 0, _ => rfl | 1, _ => rfl | 2, _ => rfl)) (Nat.le_of_ble_eq_true rfl) (Nat.le_of_ble_eq_true rfl) dX17_order_0 (fun q_1 H hP hD hS => ?_)
  have hP : va_P D vwCl ([(ad 40, .inr (22, [.int c0, .int 0, .int 0, .int 0, .ref (ad 41), .ref (ad 42), .ref (ad 43), .ref (ad 44), .int 500, .int 700, .int 10, .int 200, .ref (ad 45)])), (ad 41, .inr (4, [.int 0, .ref de, .int 0])), (ad 42, .inr (4, [.int 0, .ref de, .int 0])), (ad 43, .inr (4, [.int 0, .ref de, .int 0])), (ad 44, .inr (4, [.int 0, .ref de, .int 0])), (q_1, .inr (4, [.int 0, .null, .int 0]))]) H := hP
  have hD : va_D A ([(ad 40, .inr (22, [.int c0, .int 0, .int 0, .int 0, .ref (ad 41), .ref (ad 42), .ref (ad 43), .ref (ad 44), .int 500, .int 700, .int 10, .int 200, .ref (ad 45)])), (ad 41, .inr (4, [.int 0, .ref de, .int 0])), (ad 42, .inr (4, [.int 0, .ref de, .int 0])), (ad 43, .inr (4, [.int 0, .ref de, .int 0])), (ad 44, .inr (4, [.int 0, .ref de, .int 0])), (q_1, .inr (4, [.int 0, .null, .int 0]))]) := hD
  refine W.widen (k := 1) (n := 3) (Nat.le_of_ble_eq_true rfl) (Nat.le_of_ble_eq_true rfl) ?_
  refine lv_dup hx hb dX17_order_3 rfl ?_
  refine kx_v (wc := [(q_1, .inr (4, [.int 0, .null, .int 0]))]) (wr := wM ad de c0) hP hD hS hA [5] [0, 1, 2, 3, 4] rfl rfl (by decide) (by decide) (va_runI (As := []) (rest := [.ref q_1]) ⟨hx, hb, hml, hown, hts⟩ (l_new l D de q_1 H.size) (cwI 0 hts gX17_order_Jx4a65c_init_da8c8 rfl rfl rfl (hts (.initialized RJx4a65c) (by decide +kernel)) (hts (.methodLink RX17 9 yJx4a65c_init_da8c8) (by decide +kernel)) (hts (.instanceMethod yJx4a65c_init_da8c8) (by decide +kernel)) rfl (by decide +kernel) ⟨Nat.le_of_ble_eq_true rfl, Nat.le_of_ble_eq_true rfl⟩) ⟨px_blind, (px_pre hP hD hK hS hA hTK hZ [5] rfl rfl (by decide) [] rfl)⟩ rfl rfl hl.1 rfl (lv_room (Nat.le_of_ble_eq_true rfl)) dX17_order_4 ⟨(Nat.le_of_ble_eq_true rfl), (Nat.le_of_ble_eq_true rfl)⟩) (fun u H locs hw hP hD hK1 hS => ?_)
  have hP : va_P D vwCl ([(ad 40, .inr (22, [.int c0, .int 0, .int 0, .int 0, .ref (ad 41), .ref (ad 42), .ref (ad 43), .ref (ad 44), .int 500, .int 700, .int 10, .int 200, .ref (ad 45)])), (ad 41, .inr (4, [.int 0, .ref de, .int 0])), (ad 42, .inr (4, [.int 0, .ref de, .int 0])), (ad 43, .inr (4, [.int 0, .ref de, .int 0])), (ad 44, .inr (4, [.int 0, .ref de, .int 0])), (q_1, .inr (4, [.int 0, .ref de, .int 0]))]) H := hP
  have hD : va_D A ([(ad 40, .inr (22, [.int c0, .int 0, .int 0, .int 0, .ref (ad 41), .ref (ad 42), .ref (ad 43), .ref (ad 44), .int 500, .int 700, .int 10, .int 200, .ref (ad 45)])), (ad 41, .inr (4, [.int 0, .ref de, .int 0])), (ad 42, .inr (4, [.int 0, .ref de, .int 0])), (ad 43, .inr (4, [.int 0, .ref de, .int 0])), (ad 44, .inr (4, [.int 0, .ref de, .int 0])), (q_1, .inr (4, [.int 0, .ref de, .int 0]))]) := hD
  refine W.widen (k := 1) (n := 3) (Nat.le_of_ble_eq_true rfl) (Nat.le_of_ble_eq_true rfl) ?_
  refine lv_astore_n (lv' := [(1, .ref q_1), (0, .ref (ad 40))]) hx hb dX17_order_7 rfl hl (by decide) rfl (fun ls hl => ?_)
  refine lv_aload_n hx hb dX17_order_8 rfl (lv_at hl 1 rfl) ?_
  refine va_get (D := D) (ci := 22) (v := .ref (ad 42)) (C := RX17) (T := TX17) (N := 13) hx hb hts hin_RX17 hown hK hP 0 rfl rfl 5 (by decide) (hts (.fieldLink RX17 16 "PopupwrightModel" "folds" "Ljava/util/List;") (by decide +kernel)) (fun _ h9 => h9) rfl dX17_order_9 ?_
  refine kx_Fi (wc := [(ad 42, .inr (4, [.int 0, .ref de, .int 0]))]) (wr := [(ad 40, .inr (22, [.int c0, .int 0, .int 0, .int 0, .ref (ad 41), .ref (ad 42), .ref (ad 43), .ref (ad 44), .int 500, .int 700, .int 10, .int 200, .ref (ad 45)])), (ad 41, .inr (4, [.int 0, .ref de, .int 0])), (ad 43, .inr (4, [.int 0, .ref de, .int 0])), (ad 44, .inr (4, [.int 0, .ref de, .int 0])), (q_1, .inr (4, [.int 0, .ref de, .int 0]))]) hP hD hS hA [2] [0, 1, 3, 4, 5] rfl rfl (by decide) (by decide) (va_runF (As := []) (rest := []) (hK.1 4 _ rfl).2 ⟨hx, hb, hml, hown, hts⟩ (l_size l D de (ad 42) de 0 H.size) (va_cwF 0 hts gX17_order_Jx4a65c_size_8abf5_f52Jx4a65c rfl rfl rfl (hTK.2.2.2.2.2.1 (RJx4a65c, ⟨"java/util/List", "size", "()I"⟩, yJx4a65c_size_8abf5) (by decide +kernel)) (by decide +kernel) ⟨Nat.le_of_ble_eq_true rfl, Nat.le_of_ble_eq_true rfl⟩) ⟨px_blind, (va_recv hK hP (ci := 4) (q0 := 2) rfl rfl), (px_pre hP hD hK hS hA hTK hZ [2] rfl rfl (by decide) [] rfl)⟩ rfl rfl hl.1 rfl (lv_room (Nat.le_of_ble_eq_true rfl)) dX17_order_12 ⟨(Nat.le_of_ble_eq_true rfl), (Nat.le_of_ble_eq_true rfl)⟩) (fun r_3 u H locs hw hP hD hK1 hS => ?_)
  have hP : va_P D vwCl ([(ad 40, .inr (22, [.int c0, .int 0, .int 0, .int 0, .ref (ad 41), .ref (ad 42), .ref (ad 43), .ref (ad 44), .int 500, .int 700, .int 10, .int 200, .ref (ad 45)])), (ad 41, .inr (4, [.int 0, .ref de, .int 0])), (ad 43, .inr (4, [.int 0, .ref de, .int 0])), (ad 44, .inr (4, [.int 0, .ref de, .int 0])), (q_1, .inr (4, [.int 0, .ref de, .int 0])), (ad 42, .inr (4, [.int 0, .ref de, .int 0]))]) H := hP
  have hD : va_D A ([(ad 40, .inr (22, [.int c0, .int 0, .int 0, .int 0, .ref (ad 41), .ref (ad 42), .ref (ad 43), .ref (ad 44), .int 500, .int 700, .int 10, .int 200, .ref (ad 45)])), (ad 41, .inr (4, [.int 0, .ref de, .int 0])), (ad 43, .inr (4, [.int 0, .ref de, .int 0])), (ad 44, .inr (4, [.int 0, .ref de, .int 0])), (q_1, .inr (4, [.int 0, .ref de, .int 0])), (ad 42, .inr (4, [.int 0, .ref de, .int 0]))]) := hD
  obtain rfl : r_3 = 0 := hw
  refine W.widen (k := 1) (n := 3) (Nat.le_of_ble_eq_true rfl) (Nat.le_of_ble_eq_true rfl) ?_
  refine lv_istore_n (lv' := [(2, .int 0), (1, .ref q_1), (0, .ref (ad 40))]) hx hb dX17_order_17 rfl hl (by decide) rfl (fun ls hl => ?_)
  refine lv_iload_n hx hb dX17_order_18 rfl (lv_at hl 0 rfl) ?_
  refine va_newa (atype := .int) (a0 := (0, .inl (fun _ => 0))) hx hb (hts (.arrayClass .int) (by decide +kernel)) rfl hK hP hD hS hA (fun _ => rfl) (by decide) (by decide) (by decide) (Nat.le_of_ble_eq_true rfl) (Nat.le_of_ble_eq_true rfl) dX17_order_19 (fun q_4 cAq_4 H hK hP hD hS => ?_)
  have hP : va_P D vwCl ([(ad 40, .inr (22, [.int c0, .int 0, .int 0, .int 0, .ref (ad 41), .ref (ad 42), .ref (ad 43), .ref (ad 44), .int 500, .int 700, .int 10, .int 200, .ref (ad 45)])), (ad 41, .inr (4, [.int 0, .ref de, .int 0])), (ad 43, .inr (4, [.int 0, .ref de, .int 0])), (ad 44, .inr (4, [.int 0, .ref de, .int 0])), (q_1, .inr (4, [.int 0, .ref de, .int 0])), (ad 42, .inr (4, [.int 0, .ref de, .int 0])), (q_4, .inl (cAq_4, 0, .inl (fun _ => 0)))]) H := hP
  have hD : va_D A ([(ad 40, .inr (22, [.int c0, .int 0, .int 0, .int 0, .ref (ad 41), .ref (ad 42), .ref (ad 43), .ref (ad 44), .int 500, .int 700, .int 10, .int 200, .ref (ad 45)])), (ad 41, .inr (4, [.int 0, .ref de, .int 0])), (ad 43, .inr (4, [.int 0, .ref de, .int 0])), (ad 44, .inr (4, [.int 0, .ref de, .int 0])), (q_1, .inr (4, [.int 0, .ref de, .int 0])), (ad 42, .inr (4, [.int 0, .ref de, .int 0])), (q_4, .inl (cAq_4, 0, .inl (fun _ => 0)))]) := hD
  refine W.widen (k := 2) (n := 3) (Nat.le_of_ble_eq_true rfl) (Nat.le_of_ble_eq_true rfl) ?_
  refine lv_astore_n (lv' := [(3, .ref q_4), (2, .int 0), (1, .ref q_1), (0, .ref (ad 40))]) hx hb dX17_order_21 rfl hl (by decide) rfl (fun ls hl => ?_)
  refine lv_iload_n hx hb dX17_order_22 rfl (lv_at hl 1 rfl) ?_
  refine va_newa (atype := .boolean) (a0 := (0, .inl (fun _ => 0))) hx hb (hts (.arrayClass .boolean) (by decide +kernel)) rfl hK hP hD hS hA (fun _ => rfl) (by decide) (by decide) (by decide) (Nat.le_of_ble_eq_true rfl) (Nat.le_of_ble_eq_true rfl) dX17_order_23 (fun q_5 cAq_5 H hK hP hD hS => ?_)
  have hP : va_P D vwCl ([(ad 40, .inr (22, [.int c0, .int 0, .int 0, .int 0, .ref (ad 41), .ref (ad 42), .ref (ad 43), .ref (ad 44), .int 500, .int 700, .int 10, .int 200, .ref (ad 45)])), (ad 41, .inr (4, [.int 0, .ref de, .int 0])), (ad 43, .inr (4, [.int 0, .ref de, .int 0])), (ad 44, .inr (4, [.int 0, .ref de, .int 0])), (q_1, .inr (4, [.int 0, .ref de, .int 0])), (ad 42, .inr (4, [.int 0, .ref de, .int 0])), (q_4, .inl (cAq_4, 0, .inl (fun _ => 0))), (q_5, .inl (cAq_5, 0, .inl (fun _ => 0)))]) H := hP
  have hD : va_D A ([(ad 40, .inr (22, [.int c0, .int 0, .int 0, .int 0, .ref (ad 41), .ref (ad 42), .ref (ad 43), .ref (ad 44), .int 500, .int 700, .int 10, .int 200, .ref (ad 45)])), (ad 41, .inr (4, [.int 0, .ref de, .int 0])), (ad 43, .inr (4, [.int 0, .ref de, .int 0])), (ad 44, .inr (4, [.int 0, .ref de, .int 0])), (q_1, .inr (4, [.int 0, .ref de, .int 0])), (ad 42, .inr (4, [.int 0, .ref de, .int 0])), (q_4, .inl (cAq_4, 0, .inl (fun _ => 0))), (q_5, .inl (cAq_5, 0, .inl (fun _ => 0)))]) := hD
  refine W.widen (k := 3) (n := 3) (Nat.le_of_ble_eq_true rfl) (Nat.le_of_ble_eq_true rfl) ?_
  refine lv_astore (lv' := [(4, .ref q_5), (3, .ref q_4), (2, .int 0), (1, .ref q_1), (0, .ref (ad 40))]) hx hb dX17_order_25 hl (by decide) rfl (fun ls hl => ?_)
  refine lv_iload_n hx hb dX17_order_27 rfl (lv_at hl 2 rfl) ?_
  refine va_newa (atype := .int) (a0 := (0, .inl (fun _ => 0))) hx hb (hts (.arrayClass .int) (by decide +kernel)) rfl hK hP hD hS hA (fun _ => rfl) (by decide) (by decide) (by decide) (Nat.le_of_ble_eq_true rfl) (Nat.le_of_ble_eq_true rfl) dX17_order_28 (fun q_6 cAq_6 H hK hP hD hS => ?_)
  have hP : va_P D vwCl ([(ad 40, .inr (22, [.int c0, .int 0, .int 0, .int 0, .ref (ad 41), .ref (ad 42), .ref (ad 43), .ref (ad 44), .int 500, .int 700, .int 10, .int 200, .ref (ad 45)])), (ad 41, .inr (4, [.int 0, .ref de, .int 0])), (ad 43, .inr (4, [.int 0, .ref de, .int 0])), (ad 44, .inr (4, [.int 0, .ref de, .int 0])), (q_1, .inr (4, [.int 0, .ref de, .int 0])), (ad 42, .inr (4, [.int 0, .ref de, .int 0])), (q_4, .inl (cAq_4, 0, .inl (fun _ => 0))), (q_5, .inl (cAq_5, 0, .inl (fun _ => 0))), (q_6, .inl (cAq_6, 0, .inl (fun _ => 0)))]) H := hP
  have hD : va_D A ([(ad 40, .inr (22, [.int c0, .int 0, .int 0, .int 0, .ref (ad 41), .ref (ad 42), .ref (ad 43), .ref (ad 44), .int 500, .int 700, .int 10, .int 200, .ref (ad 45)])), (ad 41, .inr (4, [.int 0, .ref de, .int 0])), (ad 43, .inr (4, [.int 0, .ref de, .int 0])), (ad 44, .inr (4, [.int 0, .ref de, .int 0])), (q_1, .inr (4, [.int 0, .ref de, .int 0])), (ad 42, .inr (4, [.int 0, .ref de, .int 0])), (q_4, .inl (cAq_4, 0, .inl (fun _ => 0))), (q_5, .inl (cAq_5, 0, .inl (fun _ => 0))), (q_6, .inl (cAq_6, 0, .inl (fun _ => 0)))]) := hD
  refine W.widen (k := 4) (n := 3) (Nat.le_of_ble_eq_true rfl) (Nat.le_of_ble_eq_true rfl) ?_
  refine lv_astore (lv' := [(5, .ref q_6), (4, .ref q_5), (3, .ref q_4), (2, .int 0), (1, .ref q_1), (0, .ref (ad 40))]) hx hb dX17_order_30 hl (by decide) rfl (fun ls hl => ?_)
  refine lv_iconst (v := 0) hx hb dX17_order_32 (by decide) ?_
  refine lv_istore (lv' := [(6, .int 0), (5, .ref q_6), (4, .ref q_5), (3, .ref q_4), (2, .int 0), (1, .ref q_1), (0, .ref (ad 40))]) hx hb dX17_order_33 hl (by decide) rfl (fun ls hl => ?_)
  refine lv_iload hx hb dX17_order_35 (lv_at hl 0 rfl) ?_
  refine lv_iload_n hx hb dX17_order_37 rfl (lv_at hl 4 rfl) ?_
  refine lv_icmp_ge (tgt := 58) hx hb dX17_order_38 (by decide) (fun _ => ?_) (fun h_ => absurd (by decide) h_)
  refine lv_iconst (v := 0) hx hb dX17_order_58 (by decide) ?_
  refine lv_istore (lv' := [(6, .int 0), (5, .ref q_6), (4, .ref q_5), (3, .ref q_4), (2, .int 0), (1, .ref q_1), (0, .ref (ad 40))]) hx hb dX17_order_59 hl (by decide) rfl (fun ls hl => ?_)
  refine lv_aload_n hx hb dX17_order_61 rfl (lv_at hl 5 rfl) ?_
  refine kx_Fi (wc := [(q_1, .inr (4, [.int 0, .ref de, .int 0]))]) (wr := [(ad 40, .inr (22, [.int c0, .int 0, .int 0, .int 0, .ref (ad 41), .ref (ad 42), .ref (ad 43), .ref (ad 44), .int 500, .int 700, .int 10, .int 200, .ref (ad 45)])), (ad 41, .inr (4, [.int 0, .ref de, .int 0])), (ad 43, .inr (4, [.int 0, .ref de, .int 0])), (ad 44, .inr (4, [.int 0, .ref de, .int 0])), (ad 42, .inr (4, [.int 0, .ref de, .int 0])), (q_4, .inl (cAq_4, 0, .inl (fun _ => 0))), (q_5, .inl (cAq_5, 0, .inl (fun _ => 0))), (q_6, .inl (cAq_6, 0, .inl (fun _ => 0)))]) hP hD hS hA [4] [0, 1, 2, 3, 5, 6, 7, 8] rfl rfl (by decide) (by decide) (va_runF (As := []) (rest := []) (hK.1 4 _ rfl).2 ⟨hx, hb, hml, hown, hts⟩ (l_size l D de q_1 de 0 H.size) (va_cwF 0 hts gX17_order_Jx4a65c_size_8abf5_f52Jx4a65c rfl rfl rfl (hTK.2.2.2.2.2.1 (RJx4a65c, ⟨"java/util/List", "size", "()I"⟩, yJx4a65c_size_8abf5) (by decide +kernel)) (by decide +kernel) ⟨Nat.le_of_ble_eq_true rfl, Nat.le_of_ble_eq_true rfl⟩) ⟨px_blind, (va_recv hK hP (ci := 4) (q0 := 4) rfl rfl), (px_pre hP hD hK hS hA hTK hZ [4] rfl rfl (by decide) [] rfl)⟩ rfl rfl hl.1 rfl (lv_room (Nat.le_of_ble_eq_true rfl)) dX17_order_62 ⟨(Nat.le_of_ble_eq_true rfl), (Nat.le_of_ble_eq_true rfl)⟩) (fun r_7 u H locs hw hP hD hK1 hS => ?_)
  have hP : va_P D vwCl ([(ad 40, .inr (22, [.int c0, .int 0, .int 0, .int 0, .ref (ad 41), .ref (ad 42), .ref (ad 43), .ref (ad 44), .int 500, .int 700, .int 10, .int 200, .ref (ad 45)])), (ad 41, .inr (4, [.int 0, .ref de, .int 0])), (ad 43, .inr (4, [.int 0, .ref de, .int 0])), (ad 44, .inr (4, [.int 0, .ref de, .int 0])), (ad 42, .inr (4, [.int 0, .ref de, .int 0])), (q_4, .inl (cAq_4, 0, .inl (fun _ => 0))), (q_5, .inl (cAq_5, 0, .inl (fun _ => 0))), (q_6, .inl (cAq_6, 0, .inl (fun _ => 0))), (q_1, .inr (4, [.int 0, .ref de, .int 0]))]) H := hP
  have hD : va_D A ([(ad 40, .inr (22, [.int c0, .int 0, .int 0, .int 0, .ref (ad 41), .ref (ad 42), .ref (ad 43), .ref (ad 44), .int 500, .int 700, .int 10, .int 200, .ref (ad 45)])), (ad 41, .inr (4, [.int 0, .ref de, .int 0])), (ad 43, .inr (4, [.int 0, .ref de, .int 0])), (ad 44, .inr (4, [.int 0, .ref de, .int 0])), (ad 42, .inr (4, [.int 0, .ref de, .int 0])), (q_4, .inl (cAq_4, 0, .inl (fun _ => 0))), (q_5, .inl (cAq_5, 0, .inl (fun _ => 0))), (q_6, .inl (cAq_6, 0, .inl (fun _ => 0))), (q_1, .inr (4, [.int 0, .ref de, .int 0]))]) := hD
  obtain rfl : r_7 = 0 := hw
  refine W.widen (k := 4) (n := 3) (Nat.le_of_ble_eq_true rfl) (Nat.le_of_ble_eq_true rfl) ?_
  refine lv_iload_n hx hb dX17_order_67 rfl (lv_at hl 4 rfl) ?_
  refine lv_icmp_ge (tgt := 332) hx hb dX17_order_68 (by decide) (fun _ => ?_) (fun h_ => absurd (by decide) h_)
  refine lv_aload_n hx hb dX17_order_332 rfl (lv_at hl 5 rfl) ?_
  refine W.widen (k := 4) (n := 3) (Nat.le_of_ble_eq_true rfl) (Nat.le_of_ble_eq_true rfl) ?_
  have hP9 := hP.sub (ws' := (wM ad de c0 ++ [(q_1, .inr (4, [.int 0, .ref de, .int 0]))])) [0, 1, 4, 2, 3, 8] rfl
  have hD9 := hD.sub (ws' := (wM ad de c0 ++ [(q_1, .inr (4, [.int 0, .ref de, .int 0]))])) [0, 1, 4, 2, 3, 8] (by decide) rfl
  have hK9 := hK.sub (tys' := []) [] rfl
  exact W.aret (v := .ref q_1) hx hb hr (Or.inl ⟨_, rfl⟩) (Or.inr ⟨_, rfl⟩) (fun t ht hW => ⟨⟨some q_1, q_1, rfl, rfl, ⟨by rw [ht]; exact hP9, va_K.moved hW.alike hK9, hD9⟩⟩, hS.F ht⟩) hS.2.2 dX17_order_333 hlocks

set_option maxHeartbeats 4000000 in
set_option maxRecDepth 100000 in
theorem c_least (l : Launch) (D : va_G) (de : Nat) (ad : Nat → Nat) (c0 : Int32) (p0 : Int32) (sz : Nat) : Met l yX17_least wsX17_least ({ frames := 5, cells := 4, slots := 3, locals := 105 } : Room) (va_Pc [.ref (ad 40), .int p0] (PX de D ([]) (wM ad de c0) sz)) (va_Qi (fun (r : Int32) (u : Unit) => r = 0) (fun (_ : Unit) t => PW D ([]) (va_A (wM ad de c0) sz) (wM ad de c0) t) (va_A (wM ad de c0) sz)) 4 3 (va_A (wM ad de c0) sz) := by
  refine Met.ofW (cc := cX17_least) (maxL := 10) (ret := (some .int)) (by decide) rfl ?_
  intro p e s m args below meth c s₁ B hml hv
  obtain ⟨rfl, hsz, hP, hK, hD0, hTK, hZ⟩ := hv
  have hx := B.exec
  have hb := B.bytes
  have hr := B.returns
  have hts := atoms_spec (ws := wsX17_least) B.pre
  have hown : s.vm.findClass RX17 = some m.cls := findClass_of_methodNamed B.named
  have hlocks := B.notSynchronized
  subst hsz
  have hD := hD0.self (sz := s.heap.size)
  generalize hAe : va_A (wM ad de c0) s.heap.size = A at hD hZ ⊢
  have hA : ∀ q : Nat, s.heap.size ≤ q → A q := fun q h => by rw [← hAe]; exact Or.inr h
  have hS : va_S A s.heap s.heap [] := va_S.rf
  have hP : va_P D vwCl (wM ad de c0) s.heap := hP
  have hD : va_D A (wM ad de c0) := hD
  have hl := lv_entry ([.ref (ad 40), .int p0]) (n := 10) (Nat.le_of_ble_eq_true rfl)
  rw [lg_entry_eq]
  generalize (lg_sl ([.ref (ad 40), .int p0]) ++ List.replicate (10 - (lg_sl ([.ref (ad 40), .int p0])).length) Slot.unset).toArray = ls at hl ⊢
  have hl : lv_has ls 10 [(0, .ref (ad 40)), (1, .int p0)] := hl
  refine lv_aload_n hx hb dX17_least_0 rfl (lv_at hl 0 rfl) ?_
  refine kx_q (wc := wM ad de c0) (wr := []) hP hD hS hA [0, 1, 2, 3, 4] [] rfl rfl (by decide) (by decide) (va_runV (As := []) (rest := []) ⟨hx, hb, hml, hown, hts⟩ (c_order l D de ad c0 s.heap.size) (cwV 0 hts gX17_least_X17_order rfl rfl rfl (by decide +kernel) ⟨Nat.le_of_ble_eq_true rfl, Nat.le_of_ble_eq_true rfl⟩) ⟨px_blind, (va_recv hK hP (ci := 22) (q0 := 0) rfl rfl), (px_pre hP hD hK hS hA hTK hZ [0, 1, 2, 3, 4] rfl rfl (by decide) [] rfl)⟩ rfl rfl hl.1 rfl (lv_room (Nat.le_of_ble_eq_true rfl)) dX17_least_1 ⟨(Nat.le_of_ble_eq_true rfl), (Nat.le_of_ble_eq_true rfl)⟩) (fun r_1 u H locs hw hP hD hK1 hS => ?_)
  obtain ⟨nl_2, rfl⟩ : ∃ z, z = u := ⟨_, rfl⟩
  have hP : va_P D vwCl ([(ad 40, .inr (22, [.int c0, .int 0, .int 0, .int 0, .ref (ad 41), .ref (ad 42), .ref (ad 43), .ref (ad 44), .int 500, .int 700, .int 10, .int 200, .ref (ad 45)])), (ad 41, .inr (4, [.int 0, .ref de, .int 0])), (ad 42, .inr (4, [.int 0, .ref de, .int 0])), (ad 43, .inr (4, [.int 0, .ref de, .int 0])), (ad 44, .inr (4, [.int 0, .ref de, .int 0])), (nl_2, .inr (4, [.int 0, .ref de, .int 0]))]) H := hP
  have hD : va_D A ([(ad 40, .inr (22, [.int c0, .int 0, .int 0, .int 0, .ref (ad 41), .ref (ad 42), .ref (ad 43), .ref (ad 44), .int 500, .int 700, .int 10, .int 200, .ref (ad 45)])), (ad 41, .inr (4, [.int 0, .ref de, .int 0])), (ad 42, .inr (4, [.int 0, .ref de, .int 0])), (ad 43, .inr (4, [.int 0, .ref de, .int 0])), (ad 44, .inr (4, [.int 0, .ref de, .int 0])), (nl_2, .inr (4, [.int 0, .ref de, .int 0]))]) := hD
  obtain rfl : r_1 = some nl_2 := hw
  refine W.widen (k := 4) (n := 3) (Nat.le_of_ble_eq_true rfl) (Nat.le_of_ble_eq_true rfl) ?_
  refine lv_astore_n (lv' := [(2, .ref nl_2), (0, .ref (ad 40)), (1, .int p0)]) hx hb dX17_least_4 rfl hl (by decide) rfl (fun ls hl => ?_)
  refine lv_iconst (v := 0) hx hb dX17_least_5 (by decide) ?_
  refine lv_istore_n (lv' := [(3, .int 0), (2, .ref nl_2), (0, .ref (ad 40)), (1, .int p0)]) hx hb dX17_least_6 rfl hl (by decide) rfl (fun ls hl => ?_)
  refine lv_iload_n hx hb dX17_least_7 rfl (lv_at hl 3 rfl) ?_
  refine lv_iconst (v := 1) hx hb dX17_least_8 (by decide) ?_
  refine lv_iadd hx hb dX17_least_9 ?_
  refine lv_topi (fun y_3 ey_3 => ?_)
  refine lv_istore (lv' := [(4, .int y_3), (3, .int 0), (2, .ref nl_2), (0, .ref (ad 40)), (1, .int p0)]) hx hb dX17_least_10 hl (by decide) rfl (fun ls hl => ?_)
  refine lv_iload hx hb dX17_least_12 (lv_at hl 0 rfl) ?_
  refine lv_iload_n hx hb dX17_least_14 rfl (lv_at hl 4 rfl) ?_
  refine lv_icmp_le (tgt := 161) hx hb dX17_least_15 (by decide) (fun c_15 => ?_) (fun c_15 => ?_)
  · refine lv_iload_n hx hb dX17_least_161 rfl (lv_at hl 1 rfl) ?_
    refine W.widen (k := 4) (n := 3) (Nat.le_of_ble_eq_true rfl) (Nat.le_of_ble_eq_true rfl) ?_
    have hP9 := hP.sub (ws' := (wM ad de c0)) [0, 1, 2, 3, 4] rfl
    have hD9 := hD.sub (ws' := (wM ad de c0)) [0, 1, 2, 3, 4] (by decide) rfl
    have hK9 := hK.sub (tys' := []) [] rfl
    exact W.iret (v := 0) hx hb hr (fun t ht hW => ⟨⟨0, (), rfl, rfl, ⟨by rw [ht]; exact hP9, va_K.moved hW.alike hK9, hD9⟩⟩, hS.F ht⟩) hS.2.2 dX17_least_162 hlocks
  · refine lv_aload_n hx hb dX17_least_18 rfl (lv_at hl 2 rfl) ?_
    refine kx_Fi (wc := [(nl_2, .inr (4, [.int 0, .ref de, .int 0]))]) (wr := wM ad de c0) hP hD hS hA [5] [0, 1, 2, 3, 4] rfl rfl (by decide) (by decide) (va_runF (As := []) (rest := []) (hK.1 4 _ rfl).2 ⟨hx, hb, hml, hown, hts⟩ (l_isEmpty l D de nl_2 de 0 H.size) (va_cwF 0 hts gX17_least_Jx4a65c_isEmpty_aae02_f253Jx4a65c rfl rfl rfl (hTK.2.2.2.2.2.1 (RJx4a65c, ⟨"java/util/List", "isEmpty", "()Z"⟩, yJx4a65c_isEmpty_aae02) (by decide +kernel)) (by decide +kernel) ⟨Nat.le_of_ble_eq_true rfl, Nat.le_of_ble_eq_true rfl⟩) ⟨px_blind, (va_recv hK hP (ci := 4) (q0 := 5) rfl rfl), (px_pre hP hD hK hS hA hTK hZ [5] rfl rfl (by decide) [] rfl)⟩ rfl rfl hl.1 rfl (lv_room (Nat.le_of_ble_eq_true rfl)) dX17_least_19 ⟨(Nat.le_of_ble_eq_true rfl), (Nat.le_of_ble_eq_true rfl)⟩) (fun r_4 u H locs hw hP hD hK1 hS => ?_)
    have hP : va_P D vwCl ([(ad 40, .inr (22, [.int c0, .int 0, .int 0, .int 0, .ref (ad 41), .ref (ad 42), .ref (ad 43), .ref (ad 44), .int 500, .int 700, .int 10, .int 200, .ref (ad 45)])), (ad 41, .inr (4, [.int 0, .ref de, .int 0])), (ad 42, .inr (4, [.int 0, .ref de, .int 0])), (ad 43, .inr (4, [.int 0, .ref de, .int 0])), (ad 44, .inr (4, [.int 0, .ref de, .int 0])), (nl_2, .inr (4, [.int 0, .ref de, .int 0]))]) H := hP
    have hD : va_D A ([(ad 40, .inr (22, [.int c0, .int 0, .int 0, .int 0, .ref (ad 41), .ref (ad 42), .ref (ad 43), .ref (ad 44), .int 500, .int 700, .int 10, .int 200, .ref (ad 45)])), (ad 41, .inr (4, [.int 0, .ref de, .int 0])), (ad 42, .inr (4, [.int 0, .ref de, .int 0])), (ad 43, .inr (4, [.int 0, .ref de, .int 0])), (ad 44, .inr (4, [.int 0, .ref de, .int 0])), (nl_2, .inr (4, [.int 0, .ref de, .int 0]))]) := hD
    obtain rfl : r_4 = 1 := hw
    refine W.widen (k := 4) (n := 3) (Nat.le_of_ble_eq_true rfl) (Nat.le_of_ble_eq_true rfl) ?_
    refine lv_if_ne (tgt := 161) hx hb dX17_least_24 (by decide) (fun _ => ?_) (fun h_ => absurd h_ (by decide))
    refine lv_iload_n hx hb dX17_least_161 rfl (lv_at hl 1 rfl) ?_
    refine W.widen (k := 4) (n := 3) (Nat.le_of_ble_eq_true rfl) (Nat.le_of_ble_eq_true rfl) ?_
    have hP9 := hP.sub (ws' := (wM ad de c0)) [0, 1, 2, 3, 4] rfl
    have hD9 := hD.sub (ws' := (wM ad de c0)) [0, 1, 2, 3, 4] (by decide) rfl
    have hK9 := hK.sub (tys' := []) [] rfl
    exact W.iret (v := 0) hx hb hr (fun t ht hW => ⟨⟨0, (), rfl, rfl, ⟨by rw [ht]; exact hP9, va_K.moved hW.alike hK9, hD9⟩⟩, hS.F ht⟩) hS.2.2 dX17_least_162 hlocks
