set_option maxHeartbeats 4000000 in
set_option maxRecDepth 100000 in
theorem c_isWithin (l : Launch) (D : va_G) (de : Nat) (p0 p1 p2 : Int32) (sz : Nat) : Met l yX11_isWithin wsX11_isWithin ({ frames := 0, cells := 0, slots := 0, locals := 0 } : Room) (va_Pc [.int p0, .int p1, .int p2] (PX de D ([]) ([]) sz)) (va_Qi (fun (r : Int32) (u : Unit) => r = inR p0 p1 p2) (fun (_ : Unit) t => PW D ([]) (va_A ([]) sz) ([]) t) (va_A ([]) sz)) 0 0 (va_A ([]) sz) := by
  refine Met.ofW (cc := cX11_isWithin) (maxL := 3) (ret := (some .boolean)) (by decide) rfl ?_
  intro p e s m args below meth c s₁ B hml hv
  obtain ⟨rfl, hsz, hP, hK, hD0, hTK, hZ⟩ := hv
  have hx := B.exec
  have hb := B.bytes
  have hr := B.returns
  have hts := atoms_spec (ws := wsX11_isWithin) B.pre
  have hown : s.vm.findClass RX11 = some m.cls := findClass_of_methodNamed B.named
  have hlocks := B.notSynchronized
  subst hsz
  have hD := hD0.self (sz := s.heap.size)
  generalize hAe : va_A ([]) s.heap.size = A at hD hZ ⊢
  have hA : ∀ q : Nat, s.heap.size ≤ q → A q := fun q h => by rw [← hAe]; exact Or.inr h
  have hS : va_S A s.heap s.heap [] := va_S.rf
  have hl := lv_entry ([.int p0, .int p1, .int p2]) (n := 3) (Nat.le_of_ble_eq_true rfl)
  rw [lg_entry_eq]
  generalize (lg_sl ([.int p0, .int p1, .int p2]) ++ List.replicate (3 - (lg_sl ([.int p0, .int p1, .int p2])).length) Slot.unset).toArray = ls at hl ⊢
  have hl : lv_has ls 3 [(0, .int p0), (1, .int p1), (2, .int p2)] := hl
  refine lv_iload_n hx hb dX11_isWithin_0 rfl (lv_at hl 0 rfl) ?_
  refine lv_iload_n hx hb dX11_isWithin_1 rfl (lv_at hl 1 rfl) ?_
  refine lv_icmp_lt (tgt := 14) hx hb dX11_isWithin_2 (by decide) (fun c_2 => ?_) (fun c_2 => ?_)
  · refine lv_iconst (v := 0) hx hb dX11_isWithin_14 (by decide) ?_
    refine W.widen (k := 0) (n := 0) (Nat.le_of_ble_eq_true rfl) (Nat.le_of_ble_eq_true rfl) ?_
    have hP9 := hP.sub (ws' := ([])) [] rfl
    have hD9 := hD.sub (ws' := ([])) [] (by decide) rfl
    have hK9 := hK.sub (tys' := []) [] rfl
    exact W.zret (v := 0) hx hb hr (by decide) (fun t ht hW => ⟨⟨0, (), rfl, (by first | exact (inR_lo (by assumption)).symm | exact (inR_hi (by assumption)).symm | exact (inR_in (by assumption) (by assumption)).symm), ⟨by rw [ht]; exact hP9, va_K.moved hW.alike hK9, hD9⟩⟩, hS.F ht⟩) hS.2.2 dX11_isWithin_15 hlocks
  · refine lv_iload_n hx hb dX11_isWithin_5 rfl (lv_at hl 0 rfl) ?_
    refine lv_iload_n hx hb dX11_isWithin_6 rfl (lv_at hl 2 rfl) ?_
    refine lv_icmp_gt (tgt := 14) hx hb dX11_isWithin_7 (by decide) (fun c_7 => ?_) (fun c_7 => ?_)
    · refine lv_iconst (v := 0) hx hb dX11_isWithin_14 (by decide) ?_
      refine W.widen (k := 0) (n := 0) (Nat.le_of_ble_eq_true rfl) (Nat.le_of_ble_eq_true rfl) ?_
      have hP9 := hP.sub (ws' := ([])) [] rfl
      have hD9 := hD.sub (ws' := ([])) [] (by decide) rfl
      have hK9 := hK.sub (tys' := []) [] rfl
      exact W.zret (v := 0) hx hb hr (by decide) (fun t ht hW => ⟨⟨0, (), rfl, (by first | exact (inR_lo (by assumption)).symm | exact (inR_hi (by assumption)).symm | exact (inR_in (by assumption) (by assumption)).symm), ⟨by rw [ht]; exact hP9, va_K.moved hW.alike hK9, hD9⟩⟩, hS.F ht⟩) hS.2.2 dX11_isWithin_15 hlocks
    · refine lv_iconst (v := 1) hx hb dX11_isWithin_10 (by decide) ?_
      refine lv_goto (tgt := 15) hx hb dX11_isWithin_11 (by decide) ?_
      refine W.widen (k := 0) (n := 0) (Nat.le_of_ble_eq_true rfl) (Nat.le_of_ble_eq_true rfl) ?_
      have hP9 := hP.sub (ws' := ([])) [] rfl
      have hD9 := hD.sub (ws' := ([])) [] (by decide) rfl
      have hK9 := hK.sub (tys' := []) [] rfl
      exact W.zret (v := 1) hx hb hr (by decide) (fun t ht hW => ⟨⟨1, (), rfl, (by first | exact (inR_lo (by assumption)).symm | exact (inR_hi (by assumption)).symm | exact (inR_in (by assumption) (by assumption)).symm), ⟨by rw [ht]; exact hP9, va_K.moved hW.alike hK9, hD9⟩⟩, hS.F ht⟩) hS.2.2 dX11_isWithin_15 hlocks

set_option maxHeartbeats 4000000 in
set_option maxRecDepth 100000 in
theorem c_creaseOf (l : Launch) (D : va_G) (de : Nat) (ad : Nat → Nat) (p0 : Int32) (sz : Nat) : Met l yX0_creaseOf wsX0_creaseOf ({ frames := 0, cells := 0, slots := 0, locals := 0 } : Room) (va_Pc [.ref (ad 1), .int p0] (PX de D ([]) (wX ad) sz)) (va_Qq (fun (r : Option Nat) (u : Unit) => r = none) (fun (_ : Unit) t => PW D ([]) (va_A (wX ad) sz) (wX ad) t) (va_A (wX ad) sz)) 0 0 (va_A (wX ad) sz) := by
  refine Met.ofW (cc := cX0_creaseOf) (maxL := 2) (ret := (some (.object "Popupwright$Crease"))) (by decide) rfl ?_
  intro p e s m args below meth c s₁ B hml hv
  obtain ⟨rfl, hsz, hP, hK, hD0, hTK, hZ⟩ := hv
  have hx := B.exec
  have hb := B.bytes
  have hr := B.returns
  have hts := atoms_spec (ws := wsX0_creaseOf) B.pre
  have hown : s.vm.findClass RX0 = some m.cls := findClass_of_methodNamed B.named
  have hlocks := B.notSynchronized
  have hin_RX0 : ∀ w ∈ u_ws RX0 TX0 11, w ∈ wsX0_creaseOf := by decide +kernel
  subst hsz
  have hD := hD0.self (sz := s.heap.size)
  generalize hAe : va_A (wX ad) s.heap.size = A at hD hZ ⊢
  have hA : ∀ q : Nat, s.heap.size ≤ q → A q := fun q h => by rw [← hAe]; exact Or.inr h
  have hS : va_S A s.heap s.heap [] := va_S.rf
  have hP : va_P D vwCl (wX ad) s.heap := hP
  have hD : va_D A (wX ad) := hD
  have hl := lv_entry ([.ref (ad 1), .int p0]) (n := 2) (Nat.le_of_ble_eq_true rfl)
  rw [lg_entry_eq]
  generalize (lg_sl ([.ref (ad 1), .int p0]) ++ List.replicate (2 - (lg_sl ([.ref (ad 1), .int p0])).length) Slot.unset).toArray = ls at hl ⊢
  have hl : lv_has ls 2 [(0, .ref (ad 1)), (1, .int p0)] := hl
  refine lv_aload_n hx hb dX0_creaseOf_0 rfl (lv_at hl 0 rfl) ?_
  refine va_get (D := D) (ci := 5) (v := .int 0) (C := RX0) (T := TX0) (N := 11) hx hb hts hin_RX0 hown hK hP 1 rfl rfl 6 (by decide) (hts (.fieldLink RX0 58 "Popupwright$Book" "isBegun" "Z") (by decide +kernel)) (fun _ h9 => h9) rfl dX0_creaseOf_1 ?_
  refine lv_if_eq (tgt := 30) hx hb dX0_creaseOf_4 (by decide) (fun _ => ?_) (fun h_ => absurd (by decide) h_)
  refine lv_null hx hb dX0_creaseOf_30 ?_
  refine W.widen (k := 0) (n := 0) (Nat.le_of_ble_eq_true rfl) (Nat.le_of_ble_eq_true rfl) ?_
  have hP9 := hP.sub (ws' := (wX ad)) [0, 1, 2, 3, 4, 5] rfl
  have hD9 := hD.sub (ws' := (wX ad)) [0, 1, 2, 3, 4, 5] (by decide) rfl
  have hK9 := hK.sub (tys' := []) [] rfl
  exact W.aret (v := .null) hx hb hr (Or.inl ⟨_, rfl⟩) (Or.inl rfl) (fun t ht hW => ⟨⟨none, (), rfl, rfl, ⟨by rw [ht]; exact hP9, va_K.moved hW.alike hK9, hD9⟩⟩, hS.F ht⟩) hS.2.2 dX0_creaseOf_31 hlocks

set_option maxHeartbeats 4000000 in
set_option maxRecDepth 100000 in
theorem c_foldOf (l : Launch) (D : va_G) (de : Nat) (ad : Nat → Nat) (p0 : Int32) (sz : Nat) : Met l yX0_foldOf wsX0_foldOf ({ frames := 0, cells := 0, slots := 0, locals := 0 } : Room) (va_Pc [.ref (ad 1), .int p0] (PX de D ([]) (wX ad) sz)) (va_Qq (fun (r : Option Nat) (u : Unit) => r = none) (fun (_ : Unit) t => PW D ([]) (va_A (wX ad) sz) (wX ad) t) (va_A (wX ad) sz)) 0 0 (va_A (wX ad) sz) := by
  refine Met.ofW (cc := cX0_foldOf) (maxL := 2) (ret := (some (.object "Popupwright$Fold"))) (by decide) rfl ?_
  intro p e s m args below meth c s₁ B hml hv
  obtain ⟨rfl, hsz, hP, hK, hD0, hTK, hZ⟩ := hv
  have hx := B.exec
  have hb := B.bytes
  have hr := B.returns
  have hts := atoms_spec (ws := wsX0_foldOf) B.pre
  have hown : s.vm.findClass RX0 = some m.cls := findClass_of_methodNamed B.named
  have hlocks := B.notSynchronized
  have hin_RX0 : ∀ w ∈ u_ws RX0 TX0 11, w ∈ wsX0_foldOf := by decide +kernel
  subst hsz
  have hD := hD0.self (sz := s.heap.size)
  generalize hAe : va_A (wX ad) s.heap.size = A at hD hZ ⊢
  have hA : ∀ q : Nat, s.heap.size ≤ q → A q := fun q h => by rw [← hAe]; exact Or.inr h
  have hS : va_S A s.heap s.heap [] := va_S.rf
  have hP : va_P D vwCl (wX ad) s.heap := hP
  have hD : va_D A (wX ad) := hD
  have hl := lv_entry ([.ref (ad 1), .int p0]) (n := 2) (Nat.le_of_ble_eq_true rfl)
  rw [lg_entry_eq]
  generalize (lg_sl ([.ref (ad 1), .int p0]) ++ List.replicate (2 - (lg_sl ([.ref (ad 1), .int p0])).length) Slot.unset).toArray = ls at hl ⊢
  have hl : lv_has ls 2 [(0, .ref (ad 1)), (1, .int p0)] := hl
  refine lv_iload_n hx hb dX0_foldOf_0 rfl (lv_at hl 1 rfl) ?_
  refine lv_if_lt (tgt := 21) hx hb dX0_foldOf_1 (by decide) (fun c_1 => ?_) (fun c_1 => ?_)
  · refine lv_null hx hb dX0_foldOf_21 ?_
    refine W.widen (k := 0) (n := 0) (Nat.le_of_ble_eq_true rfl) (Nat.le_of_ble_eq_true rfl) ?_
    have hP9 := hP.sub (ws' := (wX ad)) [0, 1, 2, 3, 4, 5] rfl
    have hD9 := hD.sub (ws' := (wX ad)) [0, 1, 2, 3, 4, 5] (by decide) rfl
    have hK9 := hK.sub (tys' := []) [] rfl
    exact W.aret (v := .null) hx hb hr (Or.inl ⟨_, rfl⟩) (Or.inl rfl) (fun t ht hW => ⟨⟨none, (), rfl, rfl, ⟨by rw [ht]; exact hP9, va_K.moved hW.alike hK9, hD9⟩⟩, hS.F ht⟩) hS.2.2 dX0_foldOf_22 hlocks
  · refine lv_iload_n hx hb dX0_foldOf_4 rfl (lv_at hl 1 rfl) ?_
    refine lv_aload_n hx hb dX0_foldOf_5 rfl (lv_at hl 0 rfl) ?_
    refine va_get (D := D) (ci := 5) (v := .int 0) (C := RX0) (T := TX0) (N := 11) hx hb hts hin_RX0 hown hK hP 1 rfl rfl 9 (by decide) (hts (.fieldLink RX0 68 "Popupwright$Book" "count" "I") (by decide +kernel)) (fun _ h9 => h9) rfl dX0_foldOf_6 ?_
    refine lv_icmp_ge (tgt := 21) hx hb dX0_foldOf_9 (by decide) (fun c_9 => ?_) (fun c_9 => (c_9 (Int32.not_lt.mp c_1)).elim)
    refine lv_null hx hb dX0_foldOf_21 ?_
    refine W.widen (k := 0) (n := 0) (Nat.le_of_ble_eq_true rfl) (Nat.le_of_ble_eq_true rfl) ?_
    have hP9 := hP.sub (ws' := (wX ad)) [0, 1, 2, 3, 4, 5] rfl
    have hD9 := hD.sub (ws' := (wX ad)) [0, 1, 2, 3, 4, 5] (by decide) rfl
    have hK9 := hK.sub (tys' := []) [] rfl
    exact W.aret (v := .null) hx hb hr (Or.inl ⟨_, rfl⟩) (Or.inl rfl) (fun t ht hW => ⟨⟨none, (), rfl, rfl, ⟨by rw [ht]; exact hP9, va_K.moved hW.alike hK9, hD9⟩⟩, hS.F ht⟩) hS.2.2 dX0_foldOf_22 hlocks

set_option maxHeartbeats 4000000 in
set_option maxRecDepth 100000 in
theorem c_stripAmong (l : Launch) (D : va_G) (de : Nat) (ad : Nat → Nat) (p0 : Int32) (sz : Nat) : Met l yX0_stripAmong wsX0_stripAmong ({ frames := 0, cells := 0, slots := 0, locals := 0 } : Room) (va_Pc [.ref (ad 1), .int p0, .int 0] (PX de D ([]) (wX ad) sz)) (va_Qq (fun (r : Option Nat) (u : Unit) => r = none) (fun (_ : Unit) t => PW D ([]) (va_A (wX ad) sz) (wX ad) t) (va_A (wX ad) sz)) 0 0 (va_A (wX ad) sz) := by
  refine Met.ofW (cc := cX0_stripAmong) (maxL := 4) (ret := (some (.object "Popupwright$Strip"))) (by decide) rfl ?_
  intro p e s m args below meth c s₁ B hml hv
  obtain ⟨rfl, hsz, hP, hK, hD0, hTK, hZ⟩ := hv
  have hx := B.exec
  have hb := B.bytes
  have hr := B.returns
  have hts := atoms_spec (ws := wsX0_stripAmong) B.pre
  have hown : s.vm.findClass RX0 = some m.cls := findClass_of_methodNamed B.named
  have hlocks := B.notSynchronized
  subst hsz
  have hD := hD0.self (sz := s.heap.size)
  generalize hAe : va_A (wX ad) s.heap.size = A at hD hZ ⊢
  have hA : ∀ q : Nat, s.heap.size ≤ q → A q := fun q h => by rw [← hAe]; exact Or.inr h
  have hS : va_S A s.heap s.heap [] := va_S.rf
  have hP : va_P D vwCl (wX ad) s.heap := hP
  have hD : va_D A (wX ad) := hD
  have hl := lv_entry ([.ref (ad 1), .int p0, .int 0]) (n := 4) (Nat.le_of_ble_eq_true rfl)
  rw [lg_entry_eq]
  generalize (lg_sl ([.ref (ad 1), .int p0, .int 0]) ++ List.replicate (4 - (lg_sl ([.ref (ad 1), .int p0, .int 0])).length) Slot.unset).toArray = ls at hl ⊢
  have hl : lv_has ls 4 [(0, .ref (ad 1)), (1, .int p0), (2, .int 0)] := hl
  refine lv_iload_n hx hb dX0_stripAmong_0 rfl (lv_at hl 1 rfl) ?_
  refine lv_if_lt (tgt := 11) hx hb dX0_stripAmong_1 (by decide) (fun c_1 => ?_) (fun c_1 => ?_)
  · refine lv_null hx hb dX0_stripAmong_11 ?_
    refine W.widen (k := 0) (n := 0) (Nat.le_of_ble_eq_true rfl) (Nat.le_of_ble_eq_true rfl) ?_
    have hP9 := hP.sub (ws' := (wX ad)) [0, 1, 2, 3, 4, 5] rfl
    have hD9 := hD.sub (ws' := (wX ad)) [0, 1, 2, 3, 4, 5] (by decide) rfl
    have hK9 := hK.sub (tys' := []) [] rfl
    exact W.aret (v := .null) hx hb hr (Or.inl ⟨_, rfl⟩) (Or.inl rfl) (fun t ht hW => ⟨⟨none, (), rfl, rfl, ⟨by rw [ht]; exact hP9, va_K.moved hW.alike hK9, hD9⟩⟩, hS.F ht⟩) hS.2.2 dX0_stripAmong_12 hlocks
  · refine lv_iload_n hx hb dX0_stripAmong_4 rfl (lv_at hl 1 rfl) ?_
    refine lv_iconst (v := 4) hx hb dX0_stripAmong_5 (by decide) ?_
    refine lv_iload_n hx hb dX0_stripAmong_6 rfl (lv_at hl 2 rfl) ?_
    refine lv_imul hx hb dX0_stripAmong_7 ?_
    refine lv_topi (fun y_ ey_ => ?_)
    obtain rfl : y_ = 0 := ey_.trans (by decide)
    refine lv_icmp_lt (tgt := 13) hx hb dX0_stripAmong_8 (by decide) (fun c_8 => (c_1 c_8).elim) (fun c_8 => ?_)
    refine lv_null hx hb dX0_stripAmong_11 ?_
    refine W.widen (k := 0) (n := 0) (Nat.le_of_ble_eq_true rfl) (Nat.le_of_ble_eq_true rfl) ?_
    have hP9 := hP.sub (ws' := (wX ad)) [0, 1, 2, 3, 4, 5] rfl
    have hD9 := hD.sub (ws' := (wX ad)) [0, 1, 2, 3, 4, 5] (by decide) rfl
    have hK9 := hK.sub (tys' := []) [] rfl
    exact W.aret (v := .null) hx hb hr (Or.inl ⟨_, rfl⟩) (Or.inl rfl) (fun t ht hW => ⟨⟨none, (), rfl, rfl, ⟨by rw [ht]; exact hP9, va_K.moved hW.alike hK9, hD9⟩⟩, hS.F ht⟩) hS.2.2 dX0_stripAmong_12 hlocks

set_option maxHeartbeats 4000000 in
set_option maxRecDepth 100000 in
theorem c_stripOf (l : Launch) (D : va_G) (de : Nat) (ad : Nat → Nat) (p0 : Int32) (sz : Nat) : Met l yX0_stripOf wsX0_stripOf ({ frames := 1, cells := 0, slots := 0, locals := 23 } : Room) (va_Pc [.ref (ad 1), .int p0] (PX de D ([]) (wX ad) sz)) (va_Qq (fun (r : Option Nat) (u : Unit) => r = none) (fun (_ : Unit) t => PW D ([]) (va_A (wX ad) sz) (wX ad) t) (va_A (wX ad) sz)) 0 0 (va_A (wX ad) sz) := by
  refine Met.ofW (cc := cX0_stripOf) (maxL := 2) (ret := (some (.object "Popupwright$Strip"))) (by decide) rfl ?_
  intro p e s m args below meth c s₁ B hml hv
  obtain ⟨rfl, hsz, hP, hK, hD0, hTK, hZ⟩ := hv
  have hx := B.exec
  have hb := B.bytes
  have hr := B.returns
  have hts := atoms_spec (ws := wsX0_stripOf) B.pre
  have hown : s.vm.findClass RX0 = some m.cls := findClass_of_methodNamed B.named
  have hlocks := B.notSynchronized
  have hin_RX0 : ∀ w ∈ u_ws RX0 TX0 11, w ∈ wsX0_stripOf := by decide +kernel
  subst hsz
  have hD := hD0.self (sz := s.heap.size)
  generalize hAe : va_A (wX ad) s.heap.size = A at hD hZ ⊢
  have hA : ∀ q : Nat, s.heap.size ≤ q → A q := fun q h => by rw [← hAe]; exact Or.inr h
  have hS : va_S A s.heap s.heap [] := va_S.rf
  have hP : va_P D vwCl (wX ad) s.heap := hP
  have hD : va_D A (wX ad) := hD
  have hl := lv_entry ([.ref (ad 1), .int p0]) (n := 2) (Nat.le_of_ble_eq_true rfl)
  rw [lg_entry_eq]
  generalize (lg_sl ([.ref (ad 1), .int p0]) ++ List.replicate (2 - (lg_sl ([.ref (ad 1), .int p0])).length) Slot.unset).toArray = ls at hl ⊢
  have hl : lv_has ls 2 [(0, .ref (ad 1)), (1, .int p0)] := hl
  refine lv_aload_n hx hb dX0_stripOf_0 rfl (lv_at hl 0 rfl) ?_
  refine lv_iload_n hx hb dX0_stripOf_1 rfl (lv_at hl 1 rfl) ?_
  refine lv_aload_n hx hb dX0_stripOf_2 rfl (lv_at hl 0 rfl) ?_
  refine va_get (D := D) (ci := 5) (v := .int 0) (C := RX0) (T := TX0) (N := 11) hx hb hts hin_RX0 hown hK hP 1 rfl rfl 9 (by decide) (hts (.fieldLink RX0 68 "Popupwright$Book" "count" "I") (by decide +kernel)) (fun _ h9 => h9) rfl dX0_stripOf_3 ?_
  refine kx_q (wc := wX ad) (wr := []) hP hD hS hA [0, 1, 2, 3, 4, 5] [] rfl rfl (by decide) (by decide) (va_runV (As := [.int p0, .int 0]) (rest := []) ⟨hx, hb, hml, hown, hts⟩ (c_stripAmong l D de ad p0 s.heap.size) (cwV 2 hts gX0_stripOf_X0_stripAmong rfl rfl rfl (by decide +kernel) ⟨Nat.le_of_ble_eq_true rfl, Nat.le_of_ble_eq_true rfl⟩) ⟨px_blind, (va_recv hK hP (ci := 5) (q0 := 1) rfl rfl), (px_pre hP hD hK hS hA hTK hZ [0, 1, 2, 3, 4, 5] rfl rfl (by decide) [] rfl)⟩ rfl rfl hl.1 rfl (lv_room (Nat.le_of_ble_eq_true rfl)) dX0_stripOf_6 ⟨(Nat.le_of_ble_eq_true rfl), (Nat.le_of_ble_eq_true rfl)⟩) (fun r_1 u H locs hw hP hD hK1 hS => ?_)
  have hP : va_P D vwCl (wX ad) H := hP
  have hD : va_D A (wX ad) := hD
  obtain rfl : r_1 = none := hw
  refine W.widen (k := 0) (n := 0) (Nat.le_of_ble_eq_true rfl) (Nat.le_of_ble_eq_true rfl) ?_
  have hP9 := hP.sub (ws' := (wX ad)) [0, 1, 2, 3, 4, 5] rfl
  have hD9 := hD.sub (ws' := (wX ad)) [0, 1, 2, 3, 4, 5] (by decide) rfl
  have hK9 := hK.sub (tys' := []) [] rfl
  exact W.aret (v := .null) hx hb hr (Or.inl ⟨_, rfl⟩) (Or.inl rfl) (fun t ht hW => ⟨⟨none, (), rfl, rfl, ⟨by rw [ht]; exact hP9, va_K.moved hW.alike hK9, hD9⟩⟩, hS.F ht⟩) hS.2.2 dX0_stripOf_9 hlocks

set_option maxHeartbeats 4000000 in
set_option maxRecDepth 100000 in
theorem c_pictureOf (l : Launch) (D : va_G) (de : Nat) (ad : Nat → Nat) (p0 : Int32) (sz : Nat) : Met l yX4_pictureOf wsX4_pictureOf ({ frames := 0, cells := 0, slots := 0, locals := 0 } : Room) (va_Pc [.ref (ad 2), .int p0] (PX de D ([]) (wX ad) sz)) (va_Qq (fun (r : Option Nat) (u : Unit) => r = none) (fun (_ : Unit) t => PW D ([]) (va_A (wX ad) sz) (wX ad) t) (va_A (wX ad) sz)) 0 0 (va_A (wX ad) sz) := by
  refine Met.ofW (cc := cX4_pictureOf) (maxL := 2) (ret := (some (.object "Popupwright$Picture"))) (by decide) rfl ?_
  intro p e s m args below meth c s₁ B hml hv
  obtain ⟨rfl, hsz, hP, hK, hD0, hTK, hZ⟩ := hv
  have hx := B.exec
  have hb := B.bytes
  have hr := B.returns
  have hts := atoms_spec (ws := wsX4_pictureOf) B.pre
  have hown : s.vm.findClass RX4 = some m.cls := findClass_of_methodNamed B.named
  have hlocks := B.notSynchronized
  have hin_RX4 : ∀ w ∈ u_ws RX4 TX4 3, w ∈ wsX4_pictureOf := by decide +kernel
  subst hsz
  have hD := hD0.self (sz := s.heap.size)
  generalize hAe : va_A (wX ad) s.heap.size = A at hD hZ ⊢
  have hA : ∀ q : Nat, s.heap.size ≤ q → A q := fun q h => by rw [← hAe]; exact Or.inr h
  have hS : va_S A s.heap s.heap [] := va_S.rf
  have hP : va_P D vwCl (wX ad) s.heap := hP
  have hD : va_D A (wX ad) := hD
  have hl := lv_entry ([.ref (ad 2), .int p0]) (n := 2) (Nat.le_of_ble_eq_true rfl)
  rw [lg_entry_eq]
  generalize (lg_sl ([.ref (ad 2), .int p0]) ++ List.replicate (2 - (lg_sl ([.ref (ad 2), .int p0])).length) Slot.unset).toArray = ls at hl ⊢
  have hl : lv_has ls 2 [(0, .ref (ad 2)), (1, .int p0)] := hl
  refine lv_iload_n hx hb dX4_pictureOf_0 rfl (lv_at hl 1 rfl) ?_
  refine lv_if_lt (tgt := 21) hx hb dX4_pictureOf_1 (by decide) (fun c_1 => ?_) (fun c_1 => ?_)
  · refine lv_null hx hb dX4_pictureOf_21 ?_
    refine W.widen (k := 0) (n := 0) (Nat.le_of_ble_eq_true rfl) (Nat.le_of_ble_eq_true rfl) ?_
    have hP9 := hP.sub (ws' := (wX ad)) [0, 1, 2, 3, 4, 5] rfl
    have hD9 := hD.sub (ws' := (wX ad)) [0, 1, 2, 3, 4, 5] (by decide) rfl
    have hK9 := hK.sub (tys' := []) [] rfl
    exact W.aret (v := .null) hx hb hr (Or.inl ⟨_, rfl⟩) (Or.inl rfl) (fun t ht hW => ⟨⟨none, (), rfl, rfl, ⟨by rw [ht]; exact hP9, va_K.moved hW.alike hK9, hD9⟩⟩, hS.F ht⟩) hS.2.2 dX4_pictureOf_22 hlocks
  · refine lv_iload_n hx hb dX4_pictureOf_4 rfl (lv_at hl 1 rfl) ?_
    refine lv_aload_n hx hb dX4_pictureOf_5 rfl (lv_at hl 0 rfl) ?_
    refine va_get (D := D) (ci := 9) (v := .int 0) (C := RX4) (T := TX4) (N := 3) hx hb hts hin_RX4 hown hK hP 2 rfl rfl 2 (by decide) (hts (.fieldLink RX4 22 "Popupwright$Layers" "count" "I") (by decide +kernel)) (fun _ h9 => h9) rfl dX4_pictureOf_6 ?_
    refine lv_icmp_ge (tgt := 21) hx hb dX4_pictureOf_9 (by decide) (fun c_9 => ?_) (fun c_9 => (c_9 (Int32.not_lt.mp c_1)).elim)
    refine lv_null hx hb dX4_pictureOf_21 ?_
    refine W.widen (k := 0) (n := 0) (Nat.le_of_ble_eq_true rfl) (Nat.le_of_ble_eq_true rfl) ?_
    have hP9 := hP.sub (ws' := (wX ad)) [0, 1, 2, 3, 4, 5] rfl
    have hD9 := hD.sub (ws' := (wX ad)) [0, 1, 2, 3, 4, 5] (by decide) rfl
    have hK9 := hK.sub (tys' := []) [] rfl
    exact W.aret (v := .null) hx hb hr (Or.inl ⟨_, rfl⟩) (Or.inl rfl) (fun t ht hW => ⟨⟨none, (), rfl, rfl, ⟨by rw [ht]; exact hP9, va_K.moved hW.alike hK9, hD9⟩⟩, hS.F ht⟩) hS.2.2 dX4_pictureOf_22 hlocks

set_option maxHeartbeats 4000000 in
set_option maxRecDepth 100000 in
theorem c_pullOf (l : Launch) (D : va_G) (de : Nat) (ad : Nat → Nat) (p0 : Int32) (sz : Nat) : Met l yX8_pullOf wsX8_pullOf ({ frames := 0, cells := 0, slots := 0, locals := 0 } : Room) (va_Pc [.ref (ad 3), .int p0] (PX de D ([]) (wX ad) sz)) (va_Qq (fun (r : Option Nat) (u : Unit) => r = none) (fun (_ : Unit) t => PW D ([]) (va_A (wX ad) sz) (wX ad) t) (va_A (wX ad) sz)) 0 0 (va_A (wX ad) sz) := by
  refine Met.ofW (cc := cX8_pullOf) (maxL := 2) (ret := (some (.object "Popupwright$Pull"))) (by decide) rfl ?_
  intro p e s m args below meth c s₁ B hml hv
  obtain ⟨rfl, hsz, hP, hK, hD0, hTK, hZ⟩ := hv
  have hx := B.exec
  have hb := B.bytes
  have hr := B.returns
  have hts := atoms_spec (ws := wsX8_pullOf) B.pre
  have hown : s.vm.findClass RX8 = some m.cls := findClass_of_methodNamed B.named
  have hlocks := B.notSynchronized
  have hin_RX8 : ∀ w ∈ u_ws RX8 TX8 2, w ∈ wsX8_pullOf := by decide +kernel
  subst hsz
  have hD := hD0.self (sz := s.heap.size)
  generalize hAe : va_A (wX ad) s.heap.size = A at hD hZ ⊢
  have hA : ∀ q : Nat, s.heap.size ≤ q → A q := fun q h => by rw [← hAe]; exact Or.inr h
  have hS : va_S A s.heap s.heap [] := va_S.rf
  have hP : va_P D vwCl (wX ad) s.heap := hP
  have hD : va_D A (wX ad) := hD
  have hl := lv_entry ([.ref (ad 3), .int p0]) (n := 2) (Nat.le_of_ble_eq_true rfl)
  rw [lg_entry_eq]
  generalize (lg_sl ([.ref (ad 3), .int p0]) ++ List.replicate (2 - (lg_sl ([.ref (ad 3), .int p0])).length) Slot.unset).toArray = ls at hl ⊢
  have hl : lv_has ls 2 [(0, .ref (ad 3)), (1, .int p0)] := hl
  refine lv_iload_n hx hb dX8_pullOf_0 rfl (lv_at hl 1 rfl) ?_
  refine lv_if_lt (tgt := 21) hx hb dX8_pullOf_1 (by decide) (fun c_1 => ?_) (fun c_1 => ?_)
  · refine lv_null hx hb dX8_pullOf_21 ?_
    refine W.widen (k := 0) (n := 0) (Nat.le_of_ble_eq_true rfl) (Nat.le_of_ble_eq_true rfl) ?_
    have hP9 := hP.sub (ws' := (wX ad)) [0, 1, 2, 3, 4, 5] rfl
    have hD9 := hD.sub (ws' := (wX ad)) [0, 1, 2, 3, 4, 5] (by decide) rfl
    have hK9 := hK.sub (tys' := []) [] rfl
    exact W.aret (v := .null) hx hb hr (Or.inl ⟨_, rfl⟩) (Or.inl rfl) (fun t ht hW => ⟨⟨none, (), rfl, rfl, ⟨by rw [ht]; exact hP9, va_K.moved hW.alike hK9, hD9⟩⟩, hS.F ht⟩) hS.2.2 dX8_pullOf_22 hlocks
  · refine lv_iload_n hx hb dX8_pullOf_4 rfl (lv_at hl 1 rfl) ?_
    refine lv_aload_n hx hb dX8_pullOf_5 rfl (lv_at hl 0 rfl) ?_
    refine va_get (D := D) (ci := 13) (v := .int 0) (C := RX8) (T := TX8) (N := 2) hx hb hts hin_RX8 hown hK hP 3 rfl rfl 1 (by decide) (hts (.fieldLink RX8 18 "Popupwright$Pulls" "count" "I") (by decide +kernel)) (fun _ h9 => h9) rfl dX8_pullOf_6 ?_
    refine lv_icmp_ge (tgt := 21) hx hb dX8_pullOf_9 (by decide) (fun c_9 => ?_) (fun c_9 => (c_9 (Int32.not_lt.mp c_1)).elim)
    refine lv_null hx hb dX8_pullOf_21 ?_
    refine W.widen (k := 0) (n := 0) (Nat.le_of_ble_eq_true rfl) (Nat.le_of_ble_eq_true rfl) ?_
    have hP9 := hP.sub (ws' := (wX ad)) [0, 1, 2, 3, 4, 5] rfl
    have hD9 := hD.sub (ws' := (wX ad)) [0, 1, 2, 3, 4, 5] (by decide) rfl
    have hK9 := hK.sub (tys' := []) [] rfl
    exact W.aret (v := .null) hx hb hr (Or.inl ⟨_, rfl⟩) (Or.inl rfl) (fun t ht hW => ⟨⟨none, (), rfl, rfl, ⟨by rw [ht]; exact hP9, va_K.moved hW.alike hK9, hD9⟩⟩, hS.F ht⟩) hS.2.2 dX8_pullOf_22 hlocks

set_option maxHeartbeats 4000000 in
set_option maxRecDepth 100000 in
theorem c_needCrease (l : Launch) (hst : l.stackTraces = false) (D : va_G) (de : Nat) (ad : Nat → Nat) (p0 : Int32) (sz : Nat) : vx_Met l yX11_needCrease wsX11_needCrease ({ frames := 6, cells := 1, slots := 6, locals := 82 } : Room) (va_Pc [.ref (ad 0), .int p0] (PX de D ([]) (wX ad) sz)) (va_Qq (fun (r : Option Nat) (u : Unit) => False) (fun (_ : Unit) t => PW D ([]) (va_A (wX ad) sz) (wX ad) t) (va_A (wX ad) sz)) (XN (fun E => (E = "java/lang/IndexOutOfBoundsException" ∧ True)) (va_A (wX ad) sz)) 1 6 (va_A (wX ad) sz) := by
  refine vx_ofW (cc := cX11_needCrease) (maxL := 3) (ret := (some (.object "Popupwright$Crease"))) (by decide) rfl ?_
  intro p e s m args below meth c s₁ B hml hnt hv
  obtain ⟨rfl, hsz, hP, hK, hD0, hTK, hZ⟩ := hv
  have hx := B.exec
  have hb := B.bytes
  have hr := B.returns
  have hts := atoms_spec (ws := wsX11_needCrease) B.pre
  have hown : s.vm.findClass RX11 = some m.cls := findClass_of_methodNamed B.named
  have hlocks := B.notSynchronized
  have hin_RX11 : ∀ w ∈ u_ws RX11 TX11 6, w ∈ wsX11_needCrease := by decide +kernel
  subst hsz
  have hD := hD0.self (sz := s.heap.size)
  generalize hAe : va_A (wX ad) s.heap.size = A at hD hZ ⊢
  have hA : ∀ q : Nat, s.heap.size ≤ q → A q := fun q h => by rw [← hAe]; exact Or.inr h
  have hS : va_S A s.heap s.heap [] := va_S.rf
  have hP : va_P D vwCl (wX ad) s.heap := hP
  have hD : va_D A (wX ad) := hD
  have hl := lv_entry ([.ref (ad 0), .int p0]) (n := 3) (Nat.le_of_ble_eq_true rfl)
  rw [lg_entry_eq]
  generalize (lg_sl ([.ref (ad 0), .int p0]) ++ List.replicate (3 - (lg_sl ([.ref (ad 0), .int p0])).length) Slot.unset).toArray = ls at hl ⊢
  have hl : lv_has ls 3 [(0, .ref (ad 0)), (1, .int p0)] := hl
  refine lv_aload_n hx hb dX11_needCrease_0 rfl (lv_at hl 0 rfl) ?_
  refine va_get (D := D) (ci := 16) (v := .ref (ad 1)) (C := RX11) (T := TX11) (N := 6) hx hb hts hin_RX11 hown hK hP 0 rfl rfl 0 (by decide) (hts (.fieldLink RX11 10 "Popupwright" "book" "LPopupwright$Book;") (by decide +kernel)) (fun _ h9 => h9) rfl dX11_needCrease_1 ?_
  refine lv_iload_n hx hb dX11_needCrease_4 rfl (lv_at hl 1 rfl) ?_
  refine kx_q (wc := wX ad) (wr := []) hP hD hS hA [0, 1, 2, 3, 4, 5] [] rfl rfl (by decide) (by decide) (va_runV (As := [.int p0]) (rest := []) ⟨hx, hb, hml, hown, hts⟩ (c_creaseOf l D de ad p0 s.heap.size) (cwV 1 hts gX11_needCrease_X0_creaseOf rfl rfl rfl (by decide +kernel) ⟨Nat.le_of_ble_eq_true rfl, Nat.le_of_ble_eq_true rfl⟩) ⟨px_blind, (va_recv hK hP (ci := 5) (q0 := 1) rfl rfl), (px_pre hP hD hK hS hA hTK hZ [0, 1, 2, 3, 4, 5] rfl rfl (by decide) [] rfl)⟩ rfl rfl hl.1 rfl (lv_room (Nat.le_of_ble_eq_true rfl)) dX11_needCrease_5 ⟨(Nat.le_of_ble_eq_true rfl), (Nat.le_of_ble_eq_true rfl)⟩) (fun r_1 u H locs hw hP hD hK1 hS => ?_)
  have hP : va_P D vwCl (wX ad) H := hP
  have hD : va_D A (wX ad) := hD
  obtain rfl : r_1 = none := hw
  refine lv_astore_nN (lv' := [(2, .null), (0, .ref (ad 0)), (1, .int p0)]) hx hb dX11_needCrease_8 rfl hl (by decide) rfl (fun ls hl => ?_)
  refine lv_aload_nN hx hb dX11_needCrease_9 rfl (lv_at hl 0 rfl) ?_
  refine lv_ifnonnullN hx hb dX11_needCrease_10 ?_
  exact kt_throwW (mc := 1) (ms := 6) (own := RX11) (cls := "java/lang/IndexOutOfBoundsException") (text := "no such crease") hx hb hst hml hl.1 hts (by decide +kernel) (by decide +kernel) hown hTK hZ hS (by decide +kernel) (by decide +kernel) (thrB_RX11_474) (thrG_RX11_470_474) dX11_needCrease_13 dX11_needCrease_16 dX11_needCrease_17 dX11_needCrease_20 dX11_needCrease_23 hnt (Nat.le_of_ble_eq_true rfl) (Nat.le_of_ble_eq_true rfl) (Nat.le_of_ble_eq_true rfl) (Nat.le_of_ble_eq_true rfl) hlocks (⟨rfl, trivial⟩) (Nat.le_of_ble_eq_true rfl) (Nat.le_of_ble_eq_true rfl)

set_option maxHeartbeats 4000000 in
set_option maxRecDepth 100000 in
theorem c_needFold (l : Launch) (hst : l.stackTraces = false) (D : va_G) (de : Nat) (ad : Nat → Nat) (p0 : Int32) (sz : Nat) : vx_Met l yX11_needFold wsX11_needFold ({ frames := 6, cells := 1, slots := 6, locals := 82 } : Room) (va_Pc [.ref (ad 0), .int p0] (PX de D ([]) (wX ad) sz)) (va_Qq (fun (r : Option Nat) (u : Unit) => False) (fun (_ : Unit) t => PW D ([]) (va_A (wX ad) sz) (wX ad) t) (va_A (wX ad) sz)) (XN (fun E => (E = "java/lang/IndexOutOfBoundsException" ∧ True)) (va_A (wX ad) sz)) 1 6 (va_A (wX ad) sz) := by
  refine vx_ofW (cc := cX11_needFold) (maxL := 3) (ret := (some (.object "Popupwright$Fold"))) (by decide) rfl ?_
  intro p e s m args below meth c s₁ B hml hnt hv
  obtain ⟨rfl, hsz, hP, hK, hD0, hTK, hZ⟩ := hv
  have hx := B.exec
  have hb := B.bytes
  have hr := B.returns
  have hts := atoms_spec (ws := wsX11_needFold) B.pre
  have hown : s.vm.findClass RX11 = some m.cls := findClass_of_methodNamed B.named
  have hlocks := B.notSynchronized
  have hin_RX11 : ∀ w ∈ u_ws RX11 TX11 6, w ∈ wsX11_needFold := by decide +kernel
  subst hsz
  have hD := hD0.self (sz := s.heap.size)
  generalize hAe : va_A (wX ad) s.heap.size = A at hD hZ ⊢
  have hA : ∀ q : Nat, s.heap.size ≤ q → A q := fun q h => by rw [← hAe]; exact Or.inr h
  have hS : va_S A s.heap s.heap [] := va_S.rf
  have hP : va_P D vwCl (wX ad) s.heap := hP
  have hD : va_D A (wX ad) := hD
  have hl := lv_entry ([.ref (ad 0), .int p0]) (n := 3) (Nat.le_of_ble_eq_true rfl)
  rw [lg_entry_eq]
  generalize (lg_sl ([.ref (ad 0), .int p0]) ++ List.replicate (3 - (lg_sl ([.ref (ad 0), .int p0])).length) Slot.unset).toArray = ls at hl ⊢
  have hl : lv_has ls 3 [(0, .ref (ad 0)), (1, .int p0)] := hl
  refine lv_aload_n hx hb dX11_needFold_0 rfl (lv_at hl 0 rfl) ?_
  refine va_get (D := D) (ci := 16) (v := .ref (ad 1)) (C := RX11) (T := TX11) (N := 6) hx hb hts hin_RX11 hown hK hP 0 rfl rfl 0 (by decide) (hts (.fieldLink RX11 10 "Popupwright" "book" "LPopupwright$Book;") (by decide +kernel)) (fun _ h9 => h9) rfl dX11_needFold_1 ?_
  refine lv_iload_n hx hb dX11_needFold_4 rfl (lv_at hl 1 rfl) ?_
  refine kx_q (wc := wX ad) (wr := []) hP hD hS hA [0, 1, 2, 3, 4, 5] [] rfl rfl (by decide) (by decide) (va_runV (As := [.int p0]) (rest := []) ⟨hx, hb, hml, hown, hts⟩ (c_foldOf l D de ad p0 s.heap.size) (cwV 1 hts gX11_needFold_X0_foldOf rfl rfl rfl (by decide +kernel) ⟨Nat.le_of_ble_eq_true rfl, Nat.le_of_ble_eq_true rfl⟩) ⟨px_blind, (va_recv hK hP (ci := 5) (q0 := 1) rfl rfl), (px_pre hP hD hK hS hA hTK hZ [0, 1, 2, 3, 4, 5] rfl rfl (by decide) [] rfl)⟩ rfl rfl hl.1 rfl (lv_room (Nat.le_of_ble_eq_true rfl)) dX11_needFold_5 ⟨(Nat.le_of_ble_eq_true rfl), (Nat.le_of_ble_eq_true rfl)⟩) (fun r_1 u H locs hw hP hD hK1 hS => ?_)
  have hP : va_P D vwCl (wX ad) H := hP
  have hD : va_D A (wX ad) := hD
  obtain rfl : r_1 = none := hw
  refine lv_astore_nN (lv' := [(2, .null), (0, .ref (ad 0)), (1, .int p0)]) hx hb dX11_needFold_8 rfl hl (by decide) rfl (fun ls hl => ?_)
  refine lv_aload_nN hx hb dX11_needFold_9 rfl (lv_at hl 0 rfl) ?_
  refine lv_ifnonnullN hx hb dX11_needFold_10 ?_
  exact kt_throwW (mc := 1) (ms := 6) (own := RX11) (cls := "java/lang/IndexOutOfBoundsException") (text := "no such fold") hx hb hst hml hl.1 hts (by decide +kernel) (by decide +kernel) hown hTK hZ hS (by decide +kernel) (by decide +kernel) (thrB_RX11_474) (thrG_RX11_470_474) dX11_needFold_13 dX11_needFold_16 dX11_needFold_17 dX11_needFold_20 dX11_needFold_23 hnt (Nat.le_of_ble_eq_true rfl) (Nat.le_of_ble_eq_true rfl) (Nat.le_of_ble_eq_true rfl) (Nat.le_of_ble_eq_true rfl) hlocks (⟨rfl, trivial⟩) (Nat.le_of_ble_eq_true rfl) (Nat.le_of_ble_eq_true rfl)

set_option maxHeartbeats 4000000 in
set_option maxRecDepth 100000 in
theorem c_needStrip (l : Launch) (hst : l.stackTraces = false) (D : va_G) (de : Nat) (ad : Nat → Nat) (p0 : Int32) (sz : Nat) : vx_Met l yX11_needStrip wsX11_needStrip ({ frames := 6, cells := 1, slots := 6, locals := 82 } : Room) (va_Pc [.ref (ad 0), .int p0] (PX de D ([]) (wX ad) sz)) (va_Qq (fun (r : Option Nat) (u : Unit) => False) (fun (_ : Unit) t => PW D ([]) (va_A (wX ad) sz) (wX ad) t) (va_A (wX ad) sz)) (XN (fun E => (E = "java/lang/IndexOutOfBoundsException" ∧ True)) (va_A (wX ad) sz)) 1 6 (va_A (wX ad) sz) := by
  refine vx_ofW (cc := cX11_needStrip) (maxL := 3) (ret := (some (.object "Popupwright$Strip"))) (by decide) rfl ?_
  intro p e s m args below meth c s₁ B hml hnt hv
  obtain ⟨rfl, hsz, hP, hK, hD0, hTK, hZ⟩ := hv
  have hx := B.exec
  have hb := B.bytes
  have hr := B.returns
  have hts := atoms_spec (ws := wsX11_needStrip) B.pre
  have hown : s.vm.findClass RX11 = some m.cls := findClass_of_methodNamed B.named
  have hlocks := B.notSynchronized
  have hin_RX11 : ∀ w ∈ u_ws RX11 TX11 6, w ∈ wsX11_needStrip := by decide +kernel
  subst hsz
  have hD := hD0.self (sz := s.heap.size)
  generalize hAe : va_A (wX ad) s.heap.size = A at hD hZ ⊢
  have hA : ∀ q : Nat, s.heap.size ≤ q → A q := fun q h => by rw [← hAe]; exact Or.inr h
  have hS : va_S A s.heap s.heap [] := va_S.rf
  have hP : va_P D vwCl (wX ad) s.heap := hP
  have hD : va_D A (wX ad) := hD
  have hl := lv_entry ([.ref (ad 0), .int p0]) (n := 3) (Nat.le_of_ble_eq_true rfl)
  rw [lg_entry_eq]
  generalize (lg_sl ([.ref (ad 0), .int p0]) ++ List.replicate (3 - (lg_sl ([.ref (ad 0), .int p0])).length) Slot.unset).toArray = ls at hl ⊢
  have hl : lv_has ls 3 [(0, .ref (ad 0)), (1, .int p0)] := hl
  refine lv_aload_n hx hb dX11_needStrip_0 rfl (lv_at hl 0 rfl) ?_
  refine va_get (D := D) (ci := 16) (v := .ref (ad 1)) (C := RX11) (T := TX11) (N := 6) hx hb hts hin_RX11 hown hK hP 0 rfl rfl 0 (by decide) (hts (.fieldLink RX11 10 "Popupwright" "book" "LPopupwright$Book;") (by decide +kernel)) (fun _ h9 => h9) rfl dX11_needStrip_1 ?_
  refine lv_iload_n hx hb dX11_needStrip_4 rfl (lv_at hl 1 rfl) ?_
  refine kx_q (wc := wX ad) (wr := []) hP hD hS hA [0, 1, 2, 3, 4, 5] [] rfl rfl (by decide) (by decide) (va_runV (As := [.int p0]) (rest := []) ⟨hx, hb, hml, hown, hts⟩ (c_stripOf l D de ad p0 s.heap.size) (cwV 1 hts gX11_needStrip_X0_stripOf rfl rfl rfl (by decide +kernel) ⟨Nat.le_of_ble_eq_true rfl, Nat.le_of_ble_eq_true rfl⟩) ⟨px_blind, (va_recv hK hP (ci := 5) (q0 := 1) rfl rfl), (px_pre hP hD hK hS hA hTK hZ [0, 1, 2, 3, 4, 5] rfl rfl (by decide) [] rfl)⟩ rfl rfl hl.1 rfl (lv_room (Nat.le_of_ble_eq_true rfl)) dX11_needStrip_5 ⟨(Nat.le_of_ble_eq_true rfl), (Nat.le_of_ble_eq_true rfl)⟩) (fun r_1 u H locs hw hP hD hK1 hS => ?_)
  have hP : va_P D vwCl (wX ad) H := hP
  have hD : va_D A (wX ad) := hD
  obtain rfl : r_1 = none := hw
  refine lv_astore_nN (lv' := [(2, .null), (0, .ref (ad 0)), (1, .int p0)]) hx hb dX11_needStrip_8 rfl hl (by decide) rfl (fun ls hl => ?_)
  refine lv_aload_nN hx hb dX11_needStrip_9 rfl (lv_at hl 0 rfl) ?_
  refine lv_ifnonnullN hx hb dX11_needStrip_10 ?_
  exact kt_throwW (mc := 1) (ms := 6) (own := RX11) (cls := "java/lang/IndexOutOfBoundsException") (text := "no such strip") hx hb hst hml hl.1 hts (by decide +kernel) (by decide +kernel) hown hTK hZ hS (by decide +kernel) (by decide +kernel) (thrB_RX11_474) (thrG_RX11_470_474) dX11_needStrip_13 dX11_needStrip_16 dX11_needStrip_17 dX11_needStrip_20 dX11_needStrip_23 hnt (Nat.le_of_ble_eq_true rfl) (Nat.le_of_ble_eq_true rfl) (Nat.le_of_ble_eq_true rfl) (Nat.le_of_ble_eq_true rfl) hlocks (⟨rfl, trivial⟩) (Nat.le_of_ble_eq_true rfl) (Nat.le_of_ble_eq_true rfl)

set_option maxHeartbeats 4000000 in
set_option maxRecDepth 100000 in
theorem c_needPicture (l : Launch) (hst : l.stackTraces = false) (D : va_G) (de : Nat) (ad : Nat → Nat) (p0 : Int32) (sz : Nat) : vx_Met l yX11_needPicture wsX11_needPicture ({ frames := 6, cells := 1, slots := 6, locals := 82 } : Room) (va_Pc [.ref (ad 0), .int p0] (PX de D ([]) (wX ad) sz)) (va_Qq (fun (r : Option Nat) (u : Unit) => False) (fun (_ : Unit) t => PW D ([]) (va_A (wX ad) sz) (wX ad) t) (va_A (wX ad) sz)) (XN (fun E => (E = "java/lang/IndexOutOfBoundsException" ∧ True)) (va_A (wX ad) sz)) 1 6 (va_A (wX ad) sz) := by
  refine vx_ofW (cc := cX11_needPicture) (maxL := 3) (ret := (some (.object "Popupwright$Picture"))) (by decide) rfl ?_
  intro p e s m args below meth c s₁ B hml hnt hv
  obtain ⟨rfl, hsz, hP, hK, hD0, hTK, hZ⟩ := hv
  have hx := B.exec
  have hb := B.bytes
  have hr := B.returns
  have hts := atoms_spec (ws := wsX11_needPicture) B.pre
  have hown : s.vm.findClass RX11 = some m.cls := findClass_of_methodNamed B.named
  have hlocks := B.notSynchronized
  have hin_RX11 : ∀ w ∈ u_ws RX11 TX11 6, w ∈ wsX11_needPicture := by decide +kernel
  subst hsz
  have hD := hD0.self (sz := s.heap.size)
  generalize hAe : va_A (wX ad) s.heap.size = A at hD hZ ⊢
  have hA : ∀ q : Nat, s.heap.size ≤ q → A q := fun q h => by rw [← hAe]; exact Or.inr h
  have hS : va_S A s.heap s.heap [] := va_S.rf
  have hP : va_P D vwCl (wX ad) s.heap := hP
  have hD : va_D A (wX ad) := hD
  have hl := lv_entry ([.ref (ad 0), .int p0]) (n := 3) (Nat.le_of_ble_eq_true rfl)
  rw [lg_entry_eq]
  generalize (lg_sl ([.ref (ad 0), .int p0]) ++ List.replicate (3 - (lg_sl ([.ref (ad 0), .int p0])).length) Slot.unset).toArray = ls at hl ⊢
  have hl : lv_has ls 3 [(0, .ref (ad 0)), (1, .int p0)] := hl
  refine lv_aload_n hx hb dX11_needPicture_0 rfl (lv_at hl 0 rfl) ?_
  refine va_get (D := D) (ci := 16) (v := .ref (ad 2)) (C := RX11) (T := TX11) (N := 6) hx hb hts hin_RX11 hown hK hP 0 rfl rfl 1 (by decide) (hts (.fieldLink RX11 21 "Popupwright" "layers" "LPopupwright$Layers;") (by decide +kernel)) (fun _ h9 => h9) rfl dX11_needPicture_1 ?_
  refine lv_iload_n hx hb dX11_needPicture_4 rfl (lv_at hl 1 rfl) ?_
  refine kx_q (wc := wX ad) (wr := []) hP hD hS hA [0, 1, 2, 3, 4, 5] [] rfl rfl (by decide) (by decide) (va_runV (As := [.int p0]) (rest := []) ⟨hx, hb, hml, hown, hts⟩ (c_pictureOf l D de ad p0 s.heap.size) (cwV 1 hts gX11_needPicture_X4_pictureOf rfl rfl rfl (by decide +kernel) ⟨Nat.le_of_ble_eq_true rfl, Nat.le_of_ble_eq_true rfl⟩) ⟨px_blind, (va_recv hK hP (ci := 9) (q0 := 2) rfl rfl), (px_pre hP hD hK hS hA hTK hZ [0, 1, 2, 3, 4, 5] rfl rfl (by decide) [] rfl)⟩ rfl rfl hl.1 rfl (lv_room (Nat.le_of_ble_eq_true rfl)) dX11_needPicture_5 ⟨(Nat.le_of_ble_eq_true rfl), (Nat.le_of_ble_eq_true rfl)⟩) (fun r_1 u H locs hw hP hD hK1 hS => ?_)
  have hP : va_P D vwCl (wX ad) H := hP
  have hD : va_D A (wX ad) := hD
  obtain rfl : r_1 = none := hw
  refine lv_astore_nN (lv' := [(2, .null), (0, .ref (ad 0)), (1, .int p0)]) hx hb dX11_needPicture_8 rfl hl (by decide) rfl (fun ls hl => ?_)
  refine lv_aload_nN hx hb dX11_needPicture_9 rfl (lv_at hl 0 rfl) ?_
  refine lv_ifnonnullN hx hb dX11_needPicture_10 ?_
  exact kt_throwW (mc := 1) (ms := 6) (own := RX11) (cls := "java/lang/IndexOutOfBoundsException") (text := "no such picture") hx hb hst hml hl.1 hts (by decide +kernel) (by decide +kernel) hown hTK hZ hS (by decide +kernel) (by decide +kernel) (thrB_RX11_474) (thrG_RX11_470_474) dX11_needPicture_13 dX11_needPicture_16 dX11_needPicture_17 dX11_needPicture_20 dX11_needPicture_23 hnt (Nat.le_of_ble_eq_true rfl) (Nat.le_of_ble_eq_true rfl) (Nat.le_of_ble_eq_true rfl) (Nat.le_of_ble_eq_true rfl) hlocks (⟨rfl, trivial⟩) (Nat.le_of_ble_eq_true rfl) (Nat.le_of_ble_eq_true rfl)

set_option maxHeartbeats 4000000 in
set_option maxRecDepth 100000 in
theorem c_needPull (l : Launch) (hst : l.stackTraces = false) (D : va_G) (de : Nat) (ad : Nat → Nat) (p0 : Int32) (sz : Nat) : vx_Met l yX11_needPull wsX11_needPull ({ frames := 6, cells := 1, slots := 6, locals := 82 } : Room) (va_Pc [.ref (ad 0), .int p0] (PX de D ([]) (wX ad) sz)) (va_Qq (fun (r : Option Nat) (u : Unit) => False) (fun (_ : Unit) t => PW D ([]) (va_A (wX ad) sz) (wX ad) t) (va_A (wX ad) sz)) (XN (fun E => (E = "java/lang/IndexOutOfBoundsException" ∧ True)) (va_A (wX ad) sz)) 1 6 (va_A (wX ad) sz) := by
  refine vx_ofW (cc := cX11_needPull) (maxL := 3) (ret := (some (.object "Popupwright$Pull"))) (by decide) rfl ?_
  intro p e s m args below meth c s₁ B hml hnt hv
  obtain ⟨rfl, hsz, hP, hK, hD0, hTK, hZ⟩ := hv
  have hx := B.exec
  have hb := B.bytes
  have hr := B.returns
  have hts := atoms_spec (ws := wsX11_needPull) B.pre
  have hown : s.vm.findClass RX11 = some m.cls := findClass_of_methodNamed B.named
  have hlocks := B.notSynchronized
  have hin_RX11 : ∀ w ∈ u_ws RX11 TX11 6, w ∈ wsX11_needPull := by decide +kernel
  subst hsz
  have hD := hD0.self (sz := s.heap.size)
  generalize hAe : va_A (wX ad) s.heap.size = A at hD hZ ⊢
  have hA : ∀ q : Nat, s.heap.size ≤ q → A q := fun q h => by rw [← hAe]; exact Or.inr h
  have hS : va_S A s.heap s.heap [] := va_S.rf
  have hP : va_P D vwCl (wX ad) s.heap := hP
  have hD : va_D A (wX ad) := hD
  have hl := lv_entry ([.ref (ad 0), .int p0]) (n := 3) (Nat.le_of_ble_eq_true rfl)
  rw [lg_entry_eq]
  generalize (lg_sl ([.ref (ad 0), .int p0]) ++ List.replicate (3 - (lg_sl ([.ref (ad 0), .int p0])).length) Slot.unset).toArray = ls at hl ⊢
  have hl : lv_has ls 3 [(0, .ref (ad 0)), (1, .int p0)] := hl
  refine lv_aload_n hx hb dX11_needPull_0 rfl (lv_at hl 0 rfl) ?_
  refine va_get (D := D) (ci := 16) (v := .ref (ad 3)) (C := RX11) (T := TX11) (N := 6) hx hb hts hin_RX11 hown hK hP 0 rfl rfl 2 (by decide) (hts (.fieldLink RX11 28 "Popupwright" "pulls" "LPopupwright$Pulls;") (by decide +kernel)) (fun _ h9 => h9) rfl dX11_needPull_1 ?_
  refine lv_iload_n hx hb dX11_needPull_4 rfl (lv_at hl 1 rfl) ?_
  refine kx_q (wc := wX ad) (wr := []) hP hD hS hA [0, 1, 2, 3, 4, 5] [] rfl rfl (by decide) (by decide) (va_runV (As := [.int p0]) (rest := []) ⟨hx, hb, hml, hown, hts⟩ (c_pullOf l D de ad p0 s.heap.size) (cwV 1 hts gX11_needPull_X8_pullOf rfl rfl rfl (by decide +kernel) ⟨Nat.le_of_ble_eq_true rfl, Nat.le_of_ble_eq_true rfl⟩) ⟨px_blind, (va_recv hK hP (ci := 13) (q0 := 3) rfl rfl), (px_pre hP hD hK hS hA hTK hZ [0, 1, 2, 3, 4, 5] rfl rfl (by decide) [] rfl)⟩ rfl rfl hl.1 rfl (lv_room (Nat.le_of_ble_eq_true rfl)) dX11_needPull_5 ⟨(Nat.le_of_ble_eq_true rfl), (Nat.le_of_ble_eq_true rfl)⟩) (fun r_1 u H locs hw hP hD hK1 hS => ?_)
  have hP : va_P D vwCl (wX ad) H := hP
  have hD : va_D A (wX ad) := hD
  obtain rfl : r_1 = none := hw
  refine lv_astore_nN (lv' := [(2, .null), (0, .ref (ad 0)), (1, .int p0)]) hx hb dX11_needPull_8 rfl hl (by decide) rfl (fun ls hl => ?_)
  refine lv_aload_nN hx hb dX11_needPull_9 rfl (lv_at hl 0 rfl) ?_
  refine lv_ifnonnullN hx hb dX11_needPull_10 ?_
  exact kt_throwW (mc := 1) (ms := 6) (own := RX11) (cls := "java/lang/IndexOutOfBoundsException") (text := "no such pull") hx hb hst hml hl.1 hts (by decide +kernel) (by decide +kernel) hown hTK hZ hS (by decide +kernel) (by decide +kernel) (thrB_RX11_474) (thrG_RX11_470_474) dX11_needPull_13 dX11_needPull_16 dX11_needPull_17 dX11_needPull_20 dX11_needPull_23 hnt (Nat.le_of_ble_eq_true rfl) (Nat.le_of_ble_eq_true rfl) (Nat.le_of_ble_eq_true rfl) (Nat.le_of_ble_eq_true rfl) hlocks (⟨rfl, trivial⟩) (Nat.le_of_ble_eq_true rfl) (Nat.le_of_ble_eq_true rfl)

set_option maxHeartbeats 4000000 in
set_option maxRecDepth 100000 in
theorem c_needSpread (l : Launch) (hst : l.stackTraces = false) (D : va_G) (de : Nat) (ad : Nat → Nat) (sz : Nat) : vx_Met l yX11_needSpread wsX11_needSpread ({ frames := 6, cells := 1, slots := 6, locals := 82 } : Room) (va_Pc [.ref (ad 0)] (PX de D ([]) (wX ad) sz)) (va_Qv (fun (u : Unit) => False) (fun (_ : Unit) t => PW D ([]) (va_A (wX ad) sz) (wX ad) t) (va_A (wX ad) sz)) (XN (fun E => (E = "java/lang/UnsupportedOperationException" ∧ True)) (va_A (wX ad) sz)) 1 6 (va_A (wX ad) sz) := by
  refine vx_ofW (cc := cX11_needSpread) (maxL := 1) (ret := none) (by decide) rfl ?_
  intro p e s m args below meth c s₁ B hml hnt hv
  obtain ⟨rfl, hsz, hP, hK, hD0, hTK, hZ⟩ := hv
  have hx := B.exec
  have hb := B.bytes
  have hr := B.returns
  have hts := atoms_spec (ws := wsX11_needSpread) B.pre
  have hown : s.vm.findClass RX11 = some m.cls := findClass_of_methodNamed B.named
  have hlocks := B.notSynchronized
  have hin_RX0 : ∀ w ∈ u_ws RX0 TX0 11, w ∈ wsX11_needSpread := by decide +kernel
  have hin_RX11 : ∀ w ∈ u_ws RX11 TX11 6, w ∈ wsX11_needSpread := by decide +kernel
  subst hsz
  have hD := hD0.self (sz := s.heap.size)
  generalize hAe : va_A (wX ad) s.heap.size = A at hD hZ ⊢
  have hA : ∀ q : Nat, s.heap.size ≤ q → A q := fun q h => by rw [← hAe]; exact Or.inr h
  have hS : va_S A s.heap s.heap [] := va_S.rf
  have hP : va_P D vwCl (wX ad) s.heap := hP
  have hD : va_D A (wX ad) := hD
  have hl := lv_entry ([.ref (ad 0)]) (n := 1) (Nat.le_of_ble_eq_true rfl)
  rw [lg_entry_eq]
  generalize (lg_sl ([.ref (ad 0)]) ++ List.replicate (1 - (lg_sl ([.ref (ad 0)])).length) Slot.unset).toArray = ls at hl ⊢
  have hl : lv_has ls 1 [(0, .ref (ad 0))] := hl
  refine lv_aload_n hx hb dX11_needSpread_0 rfl (lv_at hl 0 rfl) ?_
  refine va_get (D := D) (ci := 16) (v := .ref (ad 1)) (C := RX11) (T := TX11) (N := 6) hx hb hts hin_RX11 hown hK hP 0 rfl rfl 0 (by decide) (hts (.fieldLink RX11 10 "Popupwright" "book" "LPopupwright$Book;") (by decide +kernel)) (fun _ h9 => h9) rfl dX11_needSpread_1 ?_
  refine va_get (D := D) (ci := 5) (v := .int 0) (C := RX0) (T := TX0) (N := 11) hx hb hts hin_RX0 hown hK hP 1 rfl rfl 6 (by decide) (hts (.fieldLink RX11 462 "Popupwright$Book" "isBegun" "Z") (by decide +kernel)) (fun _ h9 => h9) rfl dX11_needSpread_4 ?_
  refine lv_if_ne (tgt := 21) hx hb dX11_needSpread_7 (by decide) (fun h_ => absurd (by decide) h_) (fun _ => ?_)
  exact kt_throwW (mc := 1) (ms := 6) (own := RX11) (cls := "java/lang/UnsupportedOperationException") (text := "there is no spread") hx hb hst hml hl.1 hts (by decide +kernel) (by decide +kernel) hown hTK hZ hS (by decide +kernel) (by decide +kernel) (thrB_RX11_125) (thrG_RX11_121_125) dX11_needSpread_10 dX11_needSpread_13 dX11_needSpread_14 dX11_needSpread_17 dX11_needSpread_20 hnt (Nat.le_of_ble_eq_true rfl) (Nat.le_of_ble_eq_true rfl) (Nat.le_of_ble_eq_true rfl) (Nat.le_of_ble_eq_true rfl) hlocks (⟨rfl, trivial⟩) (Nat.le_of_ble_eq_true rfl) (Nat.le_of_ble_eq_true rfl)

set_option maxHeartbeats 4000000 in
set_option maxRecDepth 100000 in
theorem c_isStep (l : Launch) (D : va_G) (de : Nat) (p0 : Int32) (sz : Nat) : Met l yX11_isStep wsX11_isStep ({ frames := 1, cells := 0, slots := 0, locals := 22 } : Room) (va_Pc [.int p0] (PX de D ([]) ([]) sz)) (va_Qi (fun (r : Int32) (u : Unit) => r = inR p0 0 18) (fun (_ : Unit) t => PW D ([]) (va_A ([]) sz) ([]) t) (va_A ([]) sz)) 0 0 (va_A ([]) sz) := by
  refine Met.ofW (cc := cX11_isStep) (maxL := 1) (ret := (some .boolean)) (by decide) rfl ?_
  intro p e s m args below meth c s₁ B hml hv
  obtain ⟨rfl, hsz, hP, hK, hD0, hTK, hZ⟩ := hv
  have hx := B.exec
  have hb := B.bytes
  have hr := B.returns
  have hts := atoms_spec (ws := wsX11_isStep) B.pre
  have hown : s.vm.findClass RX11 = some m.cls := findClass_of_methodNamed B.named
  have hlocks := B.notSynchronized
  subst hsz
  have hD := hD0.self (sz := s.heap.size)
  generalize hAe : va_A ([]) s.heap.size = A at hD hZ ⊢
  have hA : ∀ q : Nat, s.heap.size ≤ q → A q := fun q h => by rw [← hAe]; exact Or.inr h
  have hS : va_S A s.heap s.heap [] := va_S.rf
  have hl := lv_entry ([.int p0]) (n := 1) (Nat.le_of_ble_eq_true rfl)
  rw [lg_entry_eq]
  generalize (lg_sl ([.int p0]) ++ List.replicate (1 - (lg_sl ([.int p0])).length) Slot.unset).toArray = ls at hl ⊢
  have hl : lv_has ls 1 [(0, .int p0)] := hl
  refine lv_iload_n hx hb dX11_isStep_0 rfl (lv_at hl 0 rfl) ?_
  refine lv_iconst (v := 0) hx hb dX11_isStep_1 (by decide) ?_
  refine lv_bipush (v := 18) hx hb dX11_isStep_2 (by decide) ?_
  refine kx_i (wc := []) (wr := []) hP hD hS hA [] [] rfl rfl (by decide) (by decide) (va_runS (As := [.int p0, .int 0, .int 18]) (rest := []) ⟨hx, hb, hml, hown, hts⟩ (c_isWithin l D de p0 0 18 s.heap.size) (va_cwS 3 hts gX11_isStep_X11_isWithin rfl rfl rfl (by decide +kernel) ⟨Nat.le_of_ble_eq_true rfl, Nat.le_of_ble_eq_true rfl⟩) ⟨px_blind, (px_pre hP hD hK hS hA hTK hZ [] rfl rfl (by decide) [] rfl)⟩ rfl rfl hl.1 rfl (lv_room (Nat.le_of_ble_eq_true rfl)) dX11_isStep_4 ⟨(Nat.le_of_ble_eq_true rfl), (Nat.le_of_ble_eq_true rfl)⟩) (fun r_1 u H locs hw hP hD hK1 hS => ?_)
  have hP : va_P D vwCl ([]) H := hP
  have hD : va_D A ([]) := hD
  obtain rfl : r_1 = inR p0 0 18 := hw
  refine W.widen (k := 0) (n := 0) (Nat.le_of_ble_eq_true rfl) (Nat.le_of_ble_eq_true rfl) ?_
  have hP9 := hP.sub (ws' := ([])) [] rfl
  have hD9 := hD.sub (ws' := ([])) [] (by decide) rfl
  have hK9 := hK.sub (tys' := []) [] rfl
  exact W.zret (v := inR p0 0 18) hx hb hr (inR_nar _ _ _) (fun t ht hW => ⟨⟨inR p0 0 18, (), rfl, rfl, ⟨by rw [ht]; exact hP9, va_K.moved hW.alike hK9, hD9⟩⟩, hS.F ht⟩) hS.2.2 dX11_isStep_7 hlocks

set_option maxHeartbeats 4000000 in
set_option maxRecDepth 100000 in
theorem c_needStep (l : Launch) (hst : l.stackTraces = false) (D : va_G) (de : Nat) (ad : Nat → Nat) (p0 : Int32) (sz : Nat) : vx_Met l yX11_needStep wsX11_needStep ({ frames := 6, cells := 1, slots := 6, locals := 82 } : Room) (va_Pc [.ref (ad 0), .int p0] (PX de D ([]) (wX ad) sz)) (va_Qv (fun (u : Unit) => u = () ∧ ¬ inR p0 0 18 = 0) (fun (_ : Unit) t => PW D ([]) (va_A (wX ad) sz) (wX ad) t) (va_A (wX ad) sz)) (XN (fun E => (E = "java/lang/IllegalArgumentException" ∧ inR p0 0 18 = 0)) (va_A (wX ad) sz)) 1 6 (va_A (wX ad) sz) := by
  refine vx_ofW (cc := cX11_needStep) (maxL := 2) (ret := none) (by decide) rfl ?_
  intro p e s m args below meth c s₁ B hml hnt hv
  obtain ⟨rfl, hsz, hP, hK, hD0, hTK, hZ⟩ := hv
  have hx := B.exec
  have hb := B.bytes
  have hr := B.returns
  have hts := atoms_spec (ws := wsX11_needStep) B.pre
  have hown : s.vm.findClass RX11 = some m.cls := findClass_of_methodNamed B.named
  have hlocks := B.notSynchronized
  subst hsz
  have hD := hD0.self (sz := s.heap.size)
  generalize hAe : va_A (wX ad) s.heap.size = A at hD hZ ⊢
  have hA : ∀ q : Nat, s.heap.size ≤ q → A q := fun q h => by rw [← hAe]; exact Or.inr h
  have hS : va_S A s.heap s.heap [] := va_S.rf
  have hP : va_P D vwCl (wX ad) s.heap := hP
  have hD : va_D A (wX ad) := hD
  have hl := lv_entry ([.ref (ad 0), .int p0]) (n := 2) (Nat.le_of_ble_eq_true rfl)
  rw [lg_entry_eq]
  generalize (lg_sl ([.ref (ad 0), .int p0]) ++ List.replicate (2 - (lg_sl ([.ref (ad 0), .int p0])).length) Slot.unset).toArray = ls at hl ⊢
  have hl : lv_has ls 2 [(0, .ref (ad 0)), (1, .int p0)] := hl
  refine lv_iload_n hx hb dX11_needStep_0 rfl (lv_at hl 1 rfl) ?_
  refine kx_i (wc := []) (wr := wX ad) hP hD hS hA [] [0, 1, 2, 3, 4, 5] rfl rfl (by decide) (by decide) (va_runS (As := [.int p0]) (rest := []) ⟨hx, hb, hml, hown, hts⟩ (c_isStep l D de p0 s.heap.size) (va_cwS 1 hts gX11_needStep_X11_isStep rfl rfl rfl (by decide +kernel) ⟨Nat.le_of_ble_eq_true rfl, Nat.le_of_ble_eq_true rfl⟩) ⟨px_blind, (px_pre hP hD hK hS hA hTK hZ [] rfl rfl (by decide) [] rfl)⟩ rfl rfl hl.1 rfl (lv_room (Nat.le_of_ble_eq_true rfl)) dX11_needStep_1 ⟨(Nat.le_of_ble_eq_true rfl), (Nat.le_of_ble_eq_true rfl)⟩) (fun r_1 u H locs hw hP hD hK1 hS => ?_)
  have hP : va_P D vwCl (wX ad) H := hP
  have hD : va_D A (wX ad) := hD
  obtain rfl : r_1 = inR p0 0 18 := hw
  refine lv_if_ne (tgt := 18) hx hb dX11_needStep_4 (by decide) (fun c_4 => ?_) (fun c_4 => ?_)
  · refine W.widen (k := 1) (n := 6) (Nat.le_of_ble_eq_true rfl) (Nat.le_of_ble_eq_true rfl) ?_
    refine vx_ret ?_
    have hP9 := hP.sub (ws' := (wX ad)) [0, 1, 2, 3, 4, 5] rfl
    have hD9 := hD.sub (ws' := (wX ad)) [0, 1, 2, 3, 4, 5] (by decide) rfl
    have hK9 := hK.sub (tys' := []) [] rfl
    exact W.vret hx hb hr (fun t ht hW => ⟨⟨(), rfl, ⟨rfl, by assumption⟩, ⟨by rw [ht]; exact hP9, va_K.moved hW.alike hK9, hD9⟩⟩, hS.F ht⟩) hS.2.2 dX11_needStep_18 hlocks
  · exact kt_throwW (mc := 1) (ms := 6) (own := RX11) (cls := "java/lang/IllegalArgumentException") (text := "no such step") hx hb hst hml hl.1 hts (by decide +kernel) (by decide +kernel) hown hTK hZ hS (by decide +kernel) (by decide +kernel) (thrB_RX11_61) (thrG_RX11_57_61) dX11_needStep_7 dX11_needStep_10 dX11_needStep_11 dX11_needStep_14 dX11_needStep_17 hnt (Nat.le_of_ble_eq_true rfl) (Nat.le_of_ble_eq_true rfl) (Nat.le_of_ble_eq_true rfl) (Nat.le_of_ble_eq_true rfl) hlocks (⟨rfl, by assumption⟩) (Nat.le_of_ble_eq_true rfl) (Nat.le_of_ble_eq_true rfl)

set_option maxHeartbeats 4000000 in
set_option maxRecDepth 100000 in
theorem c_needView (l : Launch) (hst : l.stackTraces = false) (D : va_G) (de : Nat) (ad : Nat → Nat) (p0 : Int32) (sz : Nat) : vx_Met l yX11_needView wsX11_needView ({ frames := 6, cells := 1, slots := 6, locals := 82 } : Room) (va_Pc [.ref (ad 0), .int p0] (PX de D ([]) (wX ad) sz)) (va_Qv (fun (u : Unit) => u = () ∧ ¬ inR p0 1 17 = 0) (fun (_ : Unit) t => PW D ([]) (va_A (wX ad) sz) (wX ad) t) (va_A (wX ad) sz)) (XN (fun E => (E = "java/lang/IllegalArgumentException" ∧ inR p0 1 17 = 0)) (va_A (wX ad) sz)) 1 6 (va_A (wX ad) sz) := by
  refine vx_ofW (cc := cX11_needView) (maxL := 2) (ret := none) (by decide) rfl ?_
  intro p e s m args below meth c s₁ B hml hnt hv
  obtain ⟨rfl, hsz, hP, hK, hD0, hTK, hZ⟩ := hv
  have hx := B.exec
  have hb := B.bytes
  have hr := B.returns
  have hts := atoms_spec (ws := wsX11_needView) B.pre
  have hown : s.vm.findClass RX11 = some m.cls := findClass_of_methodNamed B.named
  have hlocks := B.notSynchronized
  subst hsz
  have hD := hD0.self (sz := s.heap.size)
  generalize hAe : va_A (wX ad) s.heap.size = A at hD hZ ⊢
  have hA : ∀ q : Nat, s.heap.size ≤ q → A q := fun q h => by rw [← hAe]; exact Or.inr h
  have hS : va_S A s.heap s.heap [] := va_S.rf
  have hP : va_P D vwCl (wX ad) s.heap := hP
  have hD : va_D A (wX ad) := hD
  have hl := lv_entry ([.ref (ad 0), .int p0]) (n := 2) (Nat.le_of_ble_eq_true rfl)
  rw [lg_entry_eq]
  generalize (lg_sl ([.ref (ad 0), .int p0]) ++ List.replicate (2 - (lg_sl ([.ref (ad 0), .int p0])).length) Slot.unset).toArray = ls at hl ⊢
  have hl : lv_has ls 2 [(0, .ref (ad 0)), (1, .int p0)] := hl
  refine lv_iload_n hx hb dX11_needView_0 rfl (lv_at hl 1 rfl) ?_
  refine lv_iconst (v := 1) hx hb dX11_needView_1 (by decide) ?_
  refine lv_bipush (v := 17) hx hb dX11_needView_2 (by decide) ?_
  refine kx_i (wc := []) (wr := wX ad) hP hD hS hA [] [0, 1, 2, 3, 4, 5] rfl rfl (by decide) (by decide) (va_runS (As := [.int p0, .int 1, .int 17]) (rest := []) ⟨hx, hb, hml, hown, hts⟩ (c_isWithin l D de p0 1 17 s.heap.size) (va_cwS 3 hts gX11_needView_X11_isWithin rfl rfl rfl (by decide +kernel) ⟨Nat.le_of_ble_eq_true rfl, Nat.le_of_ble_eq_true rfl⟩) ⟨px_blind, (px_pre hP hD hK hS hA hTK hZ [] rfl rfl (by decide) [] rfl)⟩ rfl rfl hl.1 rfl (lv_room (Nat.le_of_ble_eq_true rfl)) dX11_needView_4 ⟨(Nat.le_of_ble_eq_true rfl), (Nat.le_of_ble_eq_true rfl)⟩) (fun r_1 u H locs hw hP hD hK1 hS => ?_)
  have hP : va_P D vwCl (wX ad) H := hP
  have hD : va_D A (wX ad) := hD
  obtain rfl : r_1 = inR p0 1 17 := hw
  refine lv_if_ne (tgt := 21) hx hb dX11_needView_7 (by decide) (fun c_7 => ?_) (fun c_7 => ?_)
  · refine W.widen (k := 1) (n := 6) (Nat.le_of_ble_eq_true rfl) (Nat.le_of_ble_eq_true rfl) ?_
    refine vx_ret ?_
    have hP9 := hP.sub (ws' := (wX ad)) [0, 1, 2, 3, 4, 5] rfl
    have hD9 := hD.sub (ws' := (wX ad)) [0, 1, 2, 3, 4, 5] (by decide) rfl
    have hK9 := hK.sub (tys' := []) [] rfl
    exact W.vret hx hb hr (fun t ht hW => ⟨⟨(), rfl, ⟨rfl, by assumption⟩, ⟨by rw [ht]; exact hP9, va_K.moved hW.alike hK9, hD9⟩⟩, hS.F ht⟩) hS.2.2 dX11_needView_21 hlocks
  · exact kt_throwW (mc := 1) (ms := 6) (own := RX11) (cls := "java/lang/IllegalArgumentException") (text := "no such step for an eye") hx hb hst hml hl.1 hts (by decide +kernel) (by decide +kernel) hown hTK hZ hS (by decide +kernel) (by decide +kernel) (thrB_RX11_61) (thrG_RX11_57_61) dX11_needView_10 dX11_needView_13 dX11_needView_14 dX11_needView_17 dX11_needView_20 hnt (Nat.le_of_ble_eq_true rfl) (Nat.le_of_ble_eq_true rfl) (Nat.le_of_ble_eq_true rfl) (Nat.le_of_ble_eq_true rfl) hlocks (⟨rfl, by assumption⟩) (Nat.le_of_ble_eq_true rfl) (Nat.le_of_ble_eq_true rfl)

set_option maxHeartbeats 4000000 in
set_option maxRecDepth 100000 in
theorem c_needOpening (l : Launch) (hst : l.stackTraces = false) (D : va_G) (de : Nat) (ad : Nat → Nat) (p0 : Int32) (sz : Nat) : vx_Met l yX11_needOpening wsX11_needOpening ({ frames := 6, cells := 1, slots := 6, locals := 82 } : Room) (va_Pc [.ref (ad 0), .int p0] (PX de D ([]) (wX ad) sz)) (va_Qv (fun (u : Unit) => u = () ∧ ¬ inR p0 1 18 = 0) (fun (_ : Unit) t => PW D ([]) (va_A (wX ad) sz) (wX ad) t) (va_A (wX ad) sz)) (XN (fun E => (E = "java/lang/IllegalArgumentException" ∧ inR p0 1 18 = 0)) (va_A (wX ad) sz)) 1 6 (va_A (wX ad) sz) := by
  refine vx_ofW (cc := cX11_needOpening) (maxL := 2) (ret := none) (by decide) rfl ?_
  intro p e s m args below meth c s₁ B hml hnt hv
  obtain ⟨rfl, hsz, hP, hK, hD0, hTK, hZ⟩ := hv
  have hx := B.exec
  have hb := B.bytes
  have hr := B.returns
  have hts := atoms_spec (ws := wsX11_needOpening) B.pre
  have hown : s.vm.findClass RX11 = some m.cls := findClass_of_methodNamed B.named
  have hlocks := B.notSynchronized
  subst hsz
  have hD := hD0.self (sz := s.heap.size)
  generalize hAe : va_A (wX ad) s.heap.size = A at hD hZ ⊢
  have hA : ∀ q : Nat, s.heap.size ≤ q → A q := fun q h => by rw [← hAe]; exact Or.inr h
  have hS : va_S A s.heap s.heap [] := va_S.rf
  have hP : va_P D vwCl (wX ad) s.heap := hP
  have hD : va_D A (wX ad) := hD
  have hl := lv_entry ([.ref (ad 0), .int p0]) (n := 2) (Nat.le_of_ble_eq_true rfl)
  rw [lg_entry_eq]
  generalize (lg_sl ([.ref (ad 0), .int p0]) ++ List.replicate (2 - (lg_sl ([.ref (ad 0), .int p0])).length) Slot.unset).toArray = ls at hl ⊢
  have hl : lv_has ls 2 [(0, .ref (ad 0)), (1, .int p0)] := hl
  refine lv_iload_n hx hb dX11_needOpening_0 rfl (lv_at hl 1 rfl) ?_
  refine lv_iconst (v := 1) hx hb dX11_needOpening_1 (by decide) ?_
  refine lv_bipush (v := 18) hx hb dX11_needOpening_2 (by decide) ?_
  refine kx_i (wc := []) (wr := wX ad) hP hD hS hA [] [0, 1, 2, 3, 4, 5] rfl rfl (by decide) (by decide) (va_runS (As := [.int p0, .int 1, .int 18]) (rest := []) ⟨hx, hb, hml, hown, hts⟩ (c_isWithin l D de p0 1 18 s.heap.size) (va_cwS 3 hts gX11_needOpening_X11_isWithin rfl rfl rfl (by decide +kernel) ⟨Nat.le_of_ble_eq_true rfl, Nat.le_of_ble_eq_true rfl⟩) ⟨px_blind, (px_pre hP hD hK hS hA hTK hZ [] rfl rfl (by decide) [] rfl)⟩ rfl rfl hl.1 rfl (lv_room (Nat.le_of_ble_eq_true rfl)) dX11_needOpening_4 ⟨(Nat.le_of_ble_eq_true rfl), (Nat.le_of_ble_eq_true rfl)⟩) (fun r_1 u H locs hw hP hD hK1 hS => ?_)
  have hP : va_P D vwCl (wX ad) H := hP
  have hD : va_D A (wX ad) := hD
  obtain rfl : r_1 = inR p0 1 18 := hw
  refine lv_if_ne (tgt := 21) hx hb dX11_needOpening_7 (by decide) (fun c_7 => ?_) (fun c_7 => ?_)
  · refine W.widen (k := 1) (n := 6) (Nat.le_of_ble_eq_true rfl) (Nat.le_of_ble_eq_true rfl) ?_
    refine vx_ret ?_
    have hP9 := hP.sub (ws' := (wX ad)) [0, 1, 2, 3, 4, 5] rfl
    have hD9 := hD.sub (ws' := (wX ad)) [0, 1, 2, 3, 4, 5] (by decide) rfl
    have hK9 := hK.sub (tys' := []) [] rfl
    exact W.vret hx hb hr (fun t ht hW => ⟨⟨(), rfl, ⟨rfl, by assumption⟩, ⟨by rw [ht]; exact hP9, va_K.moved hW.alike hK9, hD9⟩⟩, hS.F ht⟩) hS.2.2 dX11_needOpening_21 hlocks
  · exact kt_throwW (mc := 1) (ms := 6) (own := RX11) (cls := "java/lang/IllegalArgumentException") (text := "no such step of an opening") hx hb hst hml hl.1 hts (by decide +kernel) (by decide +kernel) hown hTK hZ hS (by decide +kernel) (by decide +kernel) (thrB_RX11_61) (thrG_RX11_57_61) dX11_needOpening_10 dX11_needOpening_13 dX11_needOpening_14 dX11_needOpening_17 dX11_needOpening_20 hnt (Nat.le_of_ble_eq_true rfl) (Nat.le_of_ble_eq_true rfl) (Nat.le_of_ble_eq_true rfl) (Nat.le_of_ble_eq_true rfl) hlocks (⟨rfl, by assumption⟩) (Nat.le_of_ble_eq_true rfl) (Nat.le_of_ble_eq_true rfl)

set_option maxHeartbeats 4000000 in
set_option maxRecDepth 100000 in
theorem c_needStations (l : Launch) (hst : l.stackTraces = false) (D : va_G) (de : Nat) (ad : Nat → Nat) (p0 : Int32) (sz : Nat) : vx_Met l yX11_needStations wsX11_needStations ({ frames := 6, cells := 1, slots := 6, locals := 82 } : Room) (va_Pc [.ref (ad 0), .int p0] (PX de D ([]) (wX ad) sz)) (va_Qv (fun (u : Unit) => u = () ∧ ¬ inR p0 1 9 = 0) (fun (_ : Unit) t => PW D ([]) (va_A (wX ad) sz) (wX ad) t) (va_A (wX ad) sz)) (XN (fun E => (E = "java/lang/IllegalArgumentException" ∧ inR p0 1 9 = 0)) (va_A (wX ad) sz)) 1 6 (va_A (wX ad) sz) := by
  refine vx_ofW (cc := cX11_needStations) (maxL := 2) (ret := none) (by decide) rfl ?_
  intro p e s m args below meth c s₁ B hml hnt hv
  obtain ⟨rfl, hsz, hP, hK, hD0, hTK, hZ⟩ := hv
  have hx := B.exec
  have hb := B.bytes
  have hr := B.returns
  have hts := atoms_spec (ws := wsX11_needStations) B.pre
  have hown : s.vm.findClass RX11 = some m.cls := findClass_of_methodNamed B.named
  have hlocks := B.notSynchronized
  subst hsz
  have hD := hD0.self (sz := s.heap.size)
  generalize hAe : va_A (wX ad) s.heap.size = A at hD hZ ⊢
  have hA : ∀ q : Nat, s.heap.size ≤ q → A q := fun q h => by rw [← hAe]; exact Or.inr h
  have hS : va_S A s.heap s.heap [] := va_S.rf
  have hP : va_P D vwCl (wX ad) s.heap := hP
  have hD : va_D A (wX ad) := hD
  have hl := lv_entry ([.ref (ad 0), .int p0]) (n := 2) (Nat.le_of_ble_eq_true rfl)
  rw [lg_entry_eq]
  generalize (lg_sl ([.ref (ad 0), .int p0]) ++ List.replicate (2 - (lg_sl ([.ref (ad 0), .int p0])).length) Slot.unset).toArray = ls at hl ⊢
  have hl : lv_has ls 2 [(0, .ref (ad 0)), (1, .int p0)] := hl
  refine lv_iload_n hx hb dX11_needStations_0 rfl (lv_at hl 1 rfl) ?_
  refine lv_iconst (v := 1) hx hb dX11_needStations_1 (by decide) ?_
  refine lv_bipush (v := 9) hx hb dX11_needStations_2 (by decide) ?_
  refine kx_i (wc := []) (wr := wX ad) hP hD hS hA [] [0, 1, 2, 3, 4, 5] rfl rfl (by decide) (by decide) (va_runS (As := [.int p0, .int 1, .int 9]) (rest := []) ⟨hx, hb, hml, hown, hts⟩ (c_isWithin l D de p0 1 9 s.heap.size) (va_cwS 3 hts gX11_needStations_X11_isWithin rfl rfl rfl (by decide +kernel) ⟨Nat.le_of_ble_eq_true rfl, Nat.le_of_ble_eq_true rfl⟩) ⟨px_blind, (px_pre hP hD hK hS hA hTK hZ [] rfl rfl (by decide) [] rfl)⟩ rfl rfl hl.1 rfl (lv_room (Nat.le_of_ble_eq_true rfl)) dX11_needStations_4 ⟨(Nat.le_of_ble_eq_true rfl), (Nat.le_of_ble_eq_true rfl)⟩) (fun r_1 u H locs hw hP hD hK1 hS => ?_)
  have hP : va_P D vwCl (wX ad) H := hP
  have hD : va_D A (wX ad) := hD
  obtain rfl : r_1 = inR p0 1 9 := hw
  refine lv_if_ne (tgt := 21) hx hb dX11_needStations_7 (by decide) (fun c_7 => ?_) (fun c_7 => ?_)
  · refine W.widen (k := 1) (n := 6) (Nat.le_of_ble_eq_true rfl) (Nat.le_of_ble_eq_true rfl) ?_
    refine vx_ret ?_
    have hP9 := hP.sub (ws' := (wX ad)) [0, 1, 2, 3, 4, 5] rfl
    have hD9 := hD.sub (ws' := (wX ad)) [0, 1, 2, 3, 4, 5] (by decide) rfl
    have hK9 := hK.sub (tys' := []) [] rfl
    exact W.vret hx hb hr (fun t ht hW => ⟨⟨(), rfl, ⟨rfl, by assumption⟩, ⟨by rw [ht]; exact hP9, va_K.moved hW.alike hK9, hD9⟩⟩, hS.F ht⟩) hS.2.2 dX11_needStations_21 hlocks
  · exact kt_throwW (mc := 1) (ms := 6) (own := RX11) (cls := "java/lang/IllegalArgumentException") (text := "there are 1 to 9 stations") hx hb hst hml hl.1 hts (by decide +kernel) (by decide +kernel) hown hTK hZ hS (by decide +kernel) (by decide +kernel) (thrB_RX11_61) (thrG_RX11_57_61) dX11_needStations_10 dX11_needStations_13 dX11_needStations_14 dX11_needStations_17 dX11_needStations_20 hnt (Nat.le_of_ble_eq_true rfl) (Nat.le_of_ble_eq_true rfl) (Nat.le_of_ble_eq_true rfl) (Nat.le_of_ble_eq_true rfl) hlocks (⟨rfl, by assumption⟩) (Nat.le_of_ble_eq_true rfl) (Nat.le_of_ble_eq_true rfl)

set_option maxHeartbeats 4000000 in
set_option maxRecDepth 100000 in
theorem c_clashPairs (l : Launch) (D : va_G) (de : Nat) (ad : Nat → Nat) (sz : Nat) : Met l yX0_clashPairs wsX0_clashPairs ({ frames := 0, cells := 0, slots := 0, locals := 0 } : Room) (va_Pc [.ref (ad 1)] (PX de D ([]) (wX ad) sz)) (va_Qi (fun (r : Int32) (u : Unit) => r = 0) (fun (_ : Unit) t => PW D ([]) (va_A (wX ad) sz) (wX ad) t) (va_A (wX ad) sz)) 0 0 (va_A (wX ad) sz) := by
  refine Met.ofW (cc := cX0_clashPairs) (maxL := 4) (ret := (some .int)) (by decide) rfl ?_
  intro p e s m args below meth c s₁ B hml hv
  obtain ⟨rfl, hsz, hP, hK, hD0, hTK, hZ⟩ := hv
  have hx := B.exec
  have hb := B.bytes
  have hr := B.returns
  have hts := atoms_spec (ws := wsX0_clashPairs) B.pre
  have hown : s.vm.findClass RX0 = some m.cls := findClass_of_methodNamed B.named
  have hlocks := B.notSynchronized
  have hin_RX0 : ∀ w ∈ u_ws RX0 TX0 11, w ∈ wsX0_clashPairs := by decide +kernel
  subst hsz
  have hD := hD0.self (sz := s.heap.size)
  generalize hAe : va_A (wX ad) s.heap.size = A at hD hZ ⊢
  have hA : ∀ q : Nat, s.heap.size ≤ q → A q := fun q h => by rw [← hAe]; exact Or.inr h
  have hS : va_S A s.heap s.heap [] := va_S.rf
  have hP : va_P D vwCl (wX ad) s.heap := hP
  have hD : va_D A (wX ad) := hD
  have hl := lv_entry ([.ref (ad 1)]) (n := 4) (Nat.le_of_ble_eq_true rfl)
  rw [lg_entry_eq]
  generalize (lg_sl ([.ref (ad 1)]) ++ List.replicate (4 - (lg_sl ([.ref (ad 1)])).length) Slot.unset).toArray = ls at hl ⊢
  have hl : lv_has ls 4 [(0, .ref (ad 1))] := hl
  refine lv_iconst (v := 0) hx hb dX0_clashPairs_0 (by decide) ?_
  refine lv_istore_n (lv' := [(1, .int 0), (0, .ref (ad 1))]) hx hb dX0_clashPairs_1 rfl hl (by decide) rfl (fun ls hl => ?_)
  refine lv_iconst (v := 0) hx hb dX0_clashPairs_2 (by decide) ?_
  refine lv_istore_n (lv' := [(2, .int 0), (1, .int 0), (0, .ref (ad 1))]) hx hb dX0_clashPairs_3 rfl hl (by decide) rfl (fun ls hl => ?_)
  refine lv_iload_n hx hb dX0_clashPairs_4 rfl (lv_at hl 0 rfl) ?_
  refine lv_iconst (v := 4) hx hb dX0_clashPairs_5 (by decide) ?_
  refine lv_aload_n hx hb dX0_clashPairs_6 rfl (lv_at hl 2 rfl) ?_
  refine va_get (D := D) (ci := 5) (v := .int 0) (C := RX0) (T := TX0) (N := 11) hx hb hts hin_RX0 hown hK hP 1 rfl rfl 9 (by decide) (hts (.fieldLink RX0 68 "Popupwright$Book" "count" "I") (by decide +kernel)) (fun _ h9 => h9) rfl dX0_clashPairs_7 ?_
  refine lv_imul hx hb dX0_clashPairs_10 ?_
  refine lv_topi (fun y_ ey_ => ?_)
  obtain rfl : y_ = 0 := ey_.trans (by decide)
  refine lv_icmp_ge (tgt := 39) hx hb dX0_clashPairs_11 (by decide) (fun _ => ?_) (fun h_ => absurd (by decide) h_)
  refine lv_iload_n hx hb dX0_clashPairs_39 rfl (lv_at hl 1 rfl) ?_
  refine W.widen (k := 0) (n := 0) (Nat.le_of_ble_eq_true rfl) (Nat.le_of_ble_eq_true rfl) ?_
  have hP9 := hP.sub (ws' := (wX ad)) [0, 1, 2, 3, 4, 5] rfl
  have hD9 := hD.sub (ws' := (wX ad)) [0, 1, 2, 3, 4, 5] (by decide) rfl
  have hK9 := hK.sub (tys' := []) [] rfl
  exact W.iret (v := 0) hx hb hr (fun t ht hW => ⟨⟨0, (), rfl, rfl, ⟨by rw [ht]; exact hP9, va_K.moved hW.alike hK9, hD9⟩⟩, hS.F ht⟩) hS.2.2 dX0_clashPairs_40 hlocks

set_option maxHeartbeats 4000000 in
set_option maxRecDepth 100000 in
theorem c_tornCount (l : Launch) (D : va_G) (de : Nat) (ad : Nat → Nat) (sz : Nat) : Met l yX0_tornCount wsX0_tornCount ({ frames := 0, cells := 0, slots := 0, locals := 0 } : Room) (va_Pc [.ref (ad 1)] (PX de D ([]) (wX ad) sz)) (va_Qi (fun (r : Int32) (u : Unit) => r = 0) (fun (_ : Unit) t => PW D ([]) (va_A (wX ad) sz) (wX ad) t) (va_A (wX ad) sz)) 0 0 (va_A (wX ad) sz) := by
  refine Met.ofW (cc := cX0_tornCount) (maxL := 3) (ret := (some .int)) (by decide) rfl ?_
  intro p e s m args below meth c s₁ B hml hv
  obtain ⟨rfl, hsz, hP, hK, hD0, hTK, hZ⟩ := hv
  have hx := B.exec
  have hb := B.bytes
  have hr := B.returns
  have hts := atoms_spec (ws := wsX0_tornCount) B.pre
  have hown : s.vm.findClass RX0 = some m.cls := findClass_of_methodNamed B.named
  have hlocks := B.notSynchronized
  have hin_RX0 : ∀ w ∈ u_ws RX0 TX0 11, w ∈ wsX0_tornCount := by decide +kernel
  subst hsz
  have hD := hD0.self (sz := s.heap.size)
  generalize hAe : va_A (wX ad) s.heap.size = A at hD hZ ⊢
  have hA : ∀ q : Nat, s.heap.size ≤ q → A q := fun q h => by rw [← hAe]; exact Or.inr h
  have hS : va_S A s.heap s.heap [] := va_S.rf
  have hP : va_P D vwCl (wX ad) s.heap := hP
  have hD : va_D A (wX ad) := hD
  have hl := lv_entry ([.ref (ad 1)]) (n := 3) (Nat.le_of_ble_eq_true rfl)
  rw [lg_entry_eq]
  generalize (lg_sl ([.ref (ad 1)]) ++ List.replicate (3 - (lg_sl ([.ref (ad 1)])).length) Slot.unset).toArray = ls at hl ⊢
  have hl : lv_has ls 3 [(0, .ref (ad 1))] := hl
  refine lv_iconst (v := 0) hx hb dX0_tornCount_0 (by decide) ?_
  refine lv_istore_n (lv' := [(1, .int 0), (0, .ref (ad 1))]) hx hb dX0_tornCount_1 rfl hl (by decide) rfl (fun ls hl => ?_)
  refine lv_iconst (v := 0) hx hb dX0_tornCount_2 (by decide) ?_
  refine lv_istore_n (lv' := [(2, .int 0), (1, .int 0), (0, .ref (ad 1))]) hx hb dX0_tornCount_3 rfl hl (by decide) rfl (fun ls hl => ?_)
  refine lv_iload_n hx hb dX0_tornCount_4 rfl (lv_at hl 0 rfl) ?_
  refine lv_aload_n hx hb dX0_tornCount_5 rfl (lv_at hl 2 rfl) ?_
  refine va_get (D := D) (ci := 5) (v := .int 0) (C := RX0) (T := TX0) (N := 11) hx hb hts hin_RX0 hown hK hP 1 rfl rfl 9 (by decide) (hts (.fieldLink RX0 68 "Popupwright$Book" "count" "I") (by decide +kernel)) (fun _ h9 => h9) rfl dX0_tornCount_6 ?_
  refine lv_icmp_ge (tgt := 33) hx hb dX0_tornCount_9 (by decide) (fun _ => ?_) (fun h_ => absurd (by decide) h_)
  refine lv_iload_n hx hb dX0_tornCount_33 rfl (lv_at hl 1 rfl) ?_
  refine W.widen (k := 0) (n := 0) (Nat.le_of_ble_eq_true rfl) (Nat.le_of_ble_eq_true rfl) ?_
  have hP9 := hP.sub (ws' := (wX ad)) [0, 1, 2, 3, 4, 5] rfl
  have hD9 := hD.sub (ws' := (wX ad)) [0, 1, 2, 3, 4, 5] (by decide) rfl
  have hK9 := hK.sub (tys' := []) [] rfl
  exact W.iret (v := 0) hx hb hr (fun t ht hW => ⟨⟨0, (), rfl, rfl, ⟨by rw [ht]; exact hP9, va_K.moved hW.alike hK9, hD9⟩⟩, hS.F ht⟩) hS.2.2 dX0_tornCount_34 hlocks

set_option maxHeartbeats 4000000 in
set_option maxRecDepth 100000 in
theorem c_netAreas (l : Launch) (D : va_G) (de : Nat) (ad : Nat → Nat) (sz : Nat) : Met l yX0_netAreas wsX0_netAreas ({ frames := 0, cells := 0, slots := 0, locals := 0 } : Room) (va_Pc [.ref (ad 1)] (PX de D ([]) (wX ad) sz)) (va_Ql (fun (r : Int64) (u : Unit) => r = 0) (fun (_ : Unit) t => PW D ([]) (va_A (wX ad) sz) (wX ad) t) (va_A (wX ad) sz)) 0 0 (va_A (wX ad) sz) := by
  refine Met.ofW (cc := cX0_netAreas) (maxL := 4) (ret := (some .long)) (by decide) rfl ?_
  intro p e s m args below meth c s₁ B hml hv
  obtain ⟨rfl, hsz, hP, hK, hD0, hTK, hZ⟩ := hv
  have hx := B.exec
  have hb := B.bytes
  have hr := B.returns
  have hts := atoms_spec (ws := wsX0_netAreas) B.pre
  have hown : s.vm.findClass RX0 = some m.cls := findClass_of_methodNamed B.named
  have hlocks := B.notSynchronized
  have hin_RX0 : ∀ w ∈ u_ws RX0 TX0 11, w ∈ wsX0_netAreas := by decide +kernel
  subst hsz
  have hD := hD0.self (sz := s.heap.size)
  generalize hAe : va_A (wX ad) s.heap.size = A at hD hZ ⊢
  have hA : ∀ q : Nat, s.heap.size ≤ q → A q := fun q h => by rw [← hAe]; exact Or.inr h
  have hS : va_S A s.heap s.heap [] := va_S.rf
  have hP : va_P D vwCl (wX ad) s.heap := hP
  have hD : va_D A (wX ad) := hD
  have hl := lv_entry ([.ref (ad 1)]) (n := 4) (Nat.le_of_ble_eq_true rfl)
  rw [lg_entry_eq]
  generalize (lg_sl ([.ref (ad 1)]) ++ List.replicate (4 - (lg_sl ([.ref (ad 1)])).length) Slot.unset).toArray = ls at hl ⊢
  have hl : lv_has ls 4 [(0, .ref (ad 1))] := hl
  refine lv_lconst (v := 0) hx hb dX0_netAreas_0 (by decide) ?_
  refine lv_lstore_n (lv' := [(1, .long 0), (0, .ref (ad 1))]) hx hb dX0_netAreas_1 rfl hl (by decide) rfl (fun ls hl => ?_)
  refine lv_iconst (v := 0) hx hb dX0_netAreas_2 (by decide) ?_
  refine lv_istore_n (lv' := [(3, .int 0), (1, .long 0), (0, .ref (ad 1))]) hx hb dX0_netAreas_3 rfl hl (by decide) rfl (fun ls hl => ?_)
  refine lv_iload_n hx hb dX0_netAreas_4 rfl (lv_at hl 0 rfl) ?_
  refine lv_aload_n hx hb dX0_netAreas_5 rfl (lv_at hl 2 rfl) ?_
  refine va_get (D := D) (ci := 5) (v := .int 0) (C := RX0) (T := TX0) (N := 11) hx hb hts hin_RX0 hown hK hP 1 rfl rfl 9 (by decide) (hts (.fieldLink RX0 68 "Popupwright$Book" "count" "I") (by decide +kernel)) (fun _ h9 => h9) rfl dX0_netAreas_6 ?_
  refine lv_icmp_ge (tgt := 42) hx hb dX0_netAreas_9 (by decide) (fun _ => ?_) (fun h_ => absurd (by decide) h_)
  refine lv_lload_n hx hb dX0_netAreas_42 rfl (lv_at hl 1 rfl) ?_
  refine W.widen (k := 0) (n := 0) (Nat.le_of_ble_eq_true rfl) (Nat.le_of_ble_eq_true rfl) ?_
  have hP9 := hP.sub (ws' := (wX ad)) [0, 1, 2, 3, 4, 5] rfl
  have hD9 := hD.sub (ws' := (wX ad)) [0, 1, 2, 3, 4, 5] (by decide) rfl
  have hK9 := hK.sub (tys' := []) [] rfl
  exact W.lret (v := 0) hx hb hr (fun t ht hW => ⟨⟨0, (), rfl, rfl, ⟨by rw [ht]; exact hP9, va_K.moved hW.alike hK9, hD9⟩⟩, hS.F ht⟩) hS.2.2 dX0_netAreas_43 hlocks

set_option maxHeartbeats 4000000 in
set_option maxRecDepth 100000 in
theorem c_endsSum (l : Launch) (D : va_G) (de : Nat) (ad : Nat → Nat) (p0 : Int32) (sz : Nat) : Met l yX0_endsSum wsX0_endsSum ({ frames := 0, cells := 0, slots := 0, locals := 0 } : Room) (va_Pc [.ref (ad 1), .int p0] (PX de D ([]) (wX ad) sz)) (va_Ql (fun (r : Int64) (u : Unit) => r = 0) (fun (_ : Unit) t => PW D ([]) (va_A (wX ad) sz) (wX ad) t) (va_A (wX ad) sz)) 0 0 (va_A (wX ad) sz) := by
  refine Met.ofW (cc := cX0_endsSum) (maxL := 8) (ret := (some .long)) (by decide) rfl ?_
  intro p e s m args below meth c s₁ B hml hv
  obtain ⟨rfl, hsz, hP, hK, hD0, hTK, hZ⟩ := hv
  have hx := B.exec
  have hb := B.bytes
  have hr := B.returns
  have hts := atoms_spec (ws := wsX0_endsSum) B.pre
  have hown : s.vm.findClass RX0 = some m.cls := findClass_of_methodNamed B.named
  have hlocks := B.notSynchronized
  have hin_RX0 : ∀ w ∈ u_ws RX0 TX0 11, w ∈ wsX0_endsSum := by decide +kernel
  subst hsz
  have hD := hD0.self (sz := s.heap.size)
  generalize hAe : va_A (wX ad) s.heap.size = A at hD hZ ⊢
  have hA : ∀ q : Nat, s.heap.size ≤ q → A q := fun q h => by rw [← hAe]; exact Or.inr h
  have hS : va_S A s.heap s.heap [] := va_S.rf
  have hP : va_P D vwCl (wX ad) s.heap := hP
  have hD : va_D A (wX ad) := hD
  have hl := lv_entry ([.ref (ad 1), .int p0]) (n := 8) (Nat.le_of_ble_eq_true rfl)
  rw [lg_entry_eq]
  generalize (lg_sl ([.ref (ad 1), .int p0]) ++ List.replicate (8 - (lg_sl ([.ref (ad 1), .int p0])).length) Slot.unset).toArray = ls at hl ⊢
  have hl : lv_has ls 8 [(0, .ref (ad 1)), (1, .int p0)] := hl
  refine lv_lconst (v := 0) hx hb dX0_endsSum_0 (by decide) ?_
  refine lv_lstore_n (lv' := [(2, .long 0), (0, .ref (ad 1)), (1, .int p0)]) hx hb dX0_endsSum_1 rfl hl (by decide) rfl (fun ls hl => ?_)
  refine lv_iconst (v := 0) hx hb dX0_endsSum_2 (by decide) ?_
  refine lv_istore (lv' := [(4, .int 0), (2, .long 0), (0, .ref (ad 1)), (1, .int p0)]) hx hb dX0_endsSum_3 hl (by decide) rfl (fun ls hl => ?_)
  refine lv_iload hx hb dX0_endsSum_5 (lv_at hl 0 rfl) ?_
  refine lv_iconst (v := 4) hx hb dX0_endsSum_7 (by decide) ?_
  refine lv_aload_n hx hb dX0_endsSum_8 rfl (lv_at hl 2 rfl) ?_
  refine va_get (D := D) (ci := 5) (v := .int 0) (C := RX0) (T := TX0) (N := 11) hx hb hts hin_RX0 hown hK hP 1 rfl rfl 9 (by decide) (hts (.fieldLink RX0 68 "Popupwright$Book" "count" "I") (by decide +kernel)) (fun _ h9 => h9) rfl dX0_endsSum_9 ?_
  refine lv_imul hx hb dX0_endsSum_12 ?_
  refine lv_topi (fun y_ ey_ => ?_)
  obtain rfl : y_ = 0 := ey_.trans (by decide)
  refine lv_icmp_ge (tgt := 72) hx hb dX0_endsSum_13 (by decide) (fun _ => ?_) (fun h_ => absurd (by decide) h_)
  refine lv_lload_n hx hb dX0_endsSum_72 rfl (lv_at hl 1 rfl) ?_
  refine W.widen (k := 0) (n := 0) (Nat.le_of_ble_eq_true rfl) (Nat.le_of_ble_eq_true rfl) ?_
  have hP9 := hP.sub (ws' := (wX ad)) [0, 1, 2, 3, 4, 5] rfl
  have hD9 := hD.sub (ws' := (wX ad)) [0, 1, 2, 3, 4, 5] (by decide) rfl
  have hK9 := hK.sub (tys' := []) [] rfl
  exact W.lret (v := 0) hx hb hr (fun t ht hW => ⟨⟨0, (), rfl, rfl, ⟨by rw [ht]; exact hP9, va_K.moved hW.alike hK9, hD9⟩⟩, hS.F ht⟩) hS.2.2 dX0_endsSum_73 hlocks

set_option maxHeartbeats 4000000 in
set_option maxRecDepth 100000 in
theorem c_stripCount (l : Launch) (D : va_G) (de : Nat) (ad : Nat → Nat) (sz : Nat) : Met l yX0_stripCount wsX0_stripCount ({ frames := 0, cells := 0, slots := 0, locals := 0 } : Room) (va_Pc [.ref (ad 1)] (PX de D ([]) (wX ad) sz)) (va_Qi (fun (r : Int32) (u : Unit) => r = 0) (fun (_ : Unit) t => PW D ([]) (va_A (wX ad) sz) (wX ad) t) (va_A (wX ad) sz)) 0 0 (va_A (wX ad) sz) := by
  refine Met.ofW (cc := cX0_stripCount) (maxL := 3) (ret := (some .int)) (by decide) rfl ?_
  intro p e s m args below meth c s₁ B hml hv
  obtain ⟨rfl, hsz, hP, hK, hD0, hTK, hZ⟩ := hv
  have hx := B.exec
  have hb := B.bytes
  have hr := B.returns
  have hts := atoms_spec (ws := wsX0_stripCount) B.pre
  have hown : s.vm.findClass RX0 = some m.cls := findClass_of_methodNamed B.named
  have hlocks := B.notSynchronized
  have hin_RX0 : ∀ w ∈ u_ws RX0 TX0 11, w ∈ wsX0_stripCount := by decide +kernel
  subst hsz
  have hD := hD0.self (sz := s.heap.size)
  generalize hAe : va_A (wX ad) s.heap.size = A at hD hZ ⊢
  have hA : ∀ q : Nat, s.heap.size ≤ q → A q := fun q h => by rw [← hAe]; exact Or.inr h
  have hS : va_S A s.heap s.heap [] := va_S.rf
  have hP : va_P D vwCl (wX ad) s.heap := hP
  have hD : va_D A (wX ad) := hD
  have hl := lv_entry ([.ref (ad 1)]) (n := 3) (Nat.le_of_ble_eq_true rfl)
  rw [lg_entry_eq]
  generalize (lg_sl ([.ref (ad 1)]) ++ List.replicate (3 - (lg_sl ([.ref (ad 1)])).length) Slot.unset).toArray = ls at hl ⊢
  have hl : lv_has ls 3 [(0, .ref (ad 1))] := hl
  refine lv_iconst (v := 0) hx hb dX0_stripCount_0 (by decide) ?_
  refine lv_istore_n (lv' := [(1, .int 0), (0, .ref (ad 1))]) hx hb dX0_stripCount_1 rfl hl (by decide) rfl (fun ls hl => ?_)
  refine lv_iconst (v := 0) hx hb dX0_stripCount_2 (by decide) ?_
  refine lv_istore_n (lv' := [(2, .int 0), (1, .int 0), (0, .ref (ad 1))]) hx hb dX0_stripCount_3 rfl hl (by decide) rfl (fun ls hl => ?_)
  refine lv_iload_n hx hb dX0_stripCount_4 rfl (lv_at hl 0 rfl) ?_
  refine lv_iconst (v := 4) hx hb dX0_stripCount_5 (by decide) ?_
  refine lv_aload_n hx hb dX0_stripCount_6 rfl (lv_at hl 2 rfl) ?_
  refine va_get (D := D) (ci := 5) (v := .int 0) (C := RX0) (T := TX0) (N := 11) hx hb hts hin_RX0 hown hK hP 1 rfl rfl 9 (by decide) (hts (.fieldLink RX0 68 "Popupwright$Book" "count" "I") (by decide +kernel)) (fun _ h9 => h9) rfl dX0_stripCount_7 ?_
  refine lv_imul hx hb dX0_stripCount_10 ?_
  refine lv_topi (fun y_ ey_ => ?_)
  obtain rfl : y_ = 0 := ey_.trans (by decide)
  refine lv_icmp_ge (tgt := 31) hx hb dX0_stripCount_11 (by decide) (fun _ => ?_) (fun h_ => absurd (by decide) h_)
  refine lv_iload_n hx hb dX0_stripCount_31 rfl (lv_at hl 1 rfl) ?_
  refine W.widen (k := 0) (n := 0) (Nat.le_of_ble_eq_true rfl) (Nat.le_of_ble_eq_true rfl) ?_
  have hP9 := hP.sub (ws' := (wX ad)) [0, 1, 2, 3, 4, 5] rfl
  have hD9 := hD.sub (ws' := (wX ad)) [0, 1, 2, 3, 4, 5] (by decide) rfl
  have hK9 := hK.sub (tys' := []) [] rfl
  exact W.iret (v := 0) hx hb hr (fun t ht hW => ⟨⟨0, (), rfl, rfl, ⟨by rw [ht]; exact hP9, va_K.moved hW.alike hK9, hD9⟩⟩, hS.F ht⟩) hS.2.2 dX0_stripCount_32 hlocks

set_option maxHeartbeats 4000000 in
set_option maxRecDepth 100000 in
theorem c_keepsLengths (l : Launch) (D : va_G) (de : Nat) (ad : Nat → Nat) (sz : Nat) : Met l yX0_keepsLengths wsX0_keepsLengths ({ frames := 0, cells := 0, slots := 0, locals := 0 } : Room) (va_Pc [.ref (ad 1)] (PX de D ([]) (wX ad) sz)) (va_Qi (fun (r : Int32) (u : Unit) => r = 1) (fun (_ : Unit) t => PW D ([]) (va_A (wX ad) sz) (wX ad) t) (va_A (wX ad) sz)) 0 0 (va_A (wX ad) sz) := by
  refine Met.ofW (cc := cX0_keepsLengths) (maxL := 3) (ret := (some .boolean)) (by decide) rfl ?_
  intro p e s m args below meth c s₁ B hml hv
  obtain ⟨rfl, hsz, hP, hK, hD0, hTK, hZ⟩ := hv
  have hx := B.exec
  have hb := B.bytes
  have hr := B.returns
  have hts := atoms_spec (ws := wsX0_keepsLengths) B.pre
  have hown : s.vm.findClass RX0 = some m.cls := findClass_of_methodNamed B.named
  have hlocks := B.notSynchronized
  have hin_RX0 : ∀ w ∈ u_ws RX0 TX0 11, w ∈ wsX0_keepsLengths := by decide +kernel
  subst hsz
  have hD := hD0.self (sz := s.heap.size)
  generalize hAe : va_A (wX ad) s.heap.size = A at hD hZ ⊢
  have hA : ∀ q : Nat, s.heap.size ≤ q → A q := fun q h => by rw [← hAe]; exact Or.inr h
  have hS : va_S A s.heap s.heap [] := va_S.rf
  have hP : va_P D vwCl (wX ad) s.heap := hP
  have hD : va_D A (wX ad) := hD
  have hl := lv_entry ([.ref (ad 1)]) (n := 3) (Nat.le_of_ble_eq_true rfl)
  rw [lg_entry_eq]
  generalize (lg_sl ([.ref (ad 1)]) ++ List.replicate (3 - (lg_sl ([.ref (ad 1)])).length) Slot.unset).toArray = ls at hl ⊢
  have hl : lv_has ls 3 [(0, .ref (ad 1))] := hl
  refine lv_iconst (v := 0) hx hb dX0_keepsLengths_0 (by decide) ?_
  refine lv_istore_n (lv' := [(1, .int 0), (0, .ref (ad 1))]) hx hb dX0_keepsLengths_1 rfl hl (by decide) rfl (fun ls hl => ?_)
  refine lv_iload_n hx hb dX0_keepsLengths_2 rfl (lv_at hl 0 rfl) ?_
  refine lv_iconst (v := 4) hx hb dX0_keepsLengths_3 (by decide) ?_
  refine lv_aload_n hx hb dX0_keepsLengths_4 rfl (lv_at hl 1 rfl) ?_
  refine va_get (D := D) (ci := 5) (v := .int 0) (C := RX0) (T := TX0) (N := 11) hx hb hts hin_RX0 hown hK hP 1 rfl rfl 9 (by decide) (hts (.fieldLink RX0 68 "Popupwright$Book" "count" "I") (by decide +kernel)) (fun _ h9 => h9) rfl dX0_keepsLengths_5 ?_
  refine lv_imul hx hb dX0_keepsLengths_8 ?_
  refine lv_topi (fun y_ ey_ => ?_)
  obtain rfl : y_ = 0 := ey_.trans (by decide)
  refine lv_icmp_ge (tgt := 37) hx hb dX0_keepsLengths_9 (by decide) (fun _ => ?_) (fun h_ => absurd (by decide) h_)
  refine lv_iconst (v := 1) hx hb dX0_keepsLengths_37 (by decide) ?_
  refine W.widen (k := 0) (n := 0) (Nat.le_of_ble_eq_true rfl) (Nat.le_of_ble_eq_true rfl) ?_
  have hP9 := hP.sub (ws' := (wX ad)) [0, 1, 2, 3, 4, 5] rfl
  have hD9 := hD.sub (ws' := (wX ad)) [0, 1, 2, 3, 4, 5] (by decide) rfl
  have hK9 := hK.sub (tys' := []) [] rfl
  exact W.zret (v := 1) hx hb hr (by decide) (fun t ht hW => ⟨⟨1, (), rfl, rfl, ⟨by rw [ht]; exact hP9, va_K.moved hW.alike hK9, hD9⟩⟩, hS.F ht⟩) hS.2.2 dX0_keepsLengths_38 hlocks

set_option maxHeartbeats 4000000 in
set_option maxRecDepth 100000 in
theorem c_takeSample (l : Launch) (D : va_G) (de : Nat) (ad : Nat → Nat) (sz : Nat) : Met l yX0_takeSample wsX0_takeSample ({ frames := 0, cells := 0, slots := 0, locals := 0 } : Room) (va_Pc [.ref (ad 1)] (PX de D ([]) (wX ad) sz)) (va_Qi (fun (r : Int32) (u : Unit) => r = 0) (fun (_ : Unit) t => PW D ([]) (va_A (wX ad) sz) (wX ad) t) (va_A (wX ad) sz)) 0 0 (va_A (wX ad) sz) := by
  refine Met.ofW (cc := cX0_takeSample) (maxL := 4) (ret := (some .int)) (by decide) rfl ?_
  intro p e s m args below meth c s₁ B hml hv
  obtain ⟨rfl, hsz, hP, hK, hD0, hTK, hZ⟩ := hv
  have hx := B.exec
  have hb := B.bytes
  have hr := B.returns
  have hts := atoms_spec (ws := wsX0_takeSample) B.pre
  have hown : s.vm.findClass RX0 = some m.cls := findClass_of_methodNamed B.named
  have hlocks := B.notSynchronized
  have hin_RX0 : ∀ w ∈ u_ws RX0 TX0 11, w ∈ wsX0_takeSample := by decide +kernel
  subst hsz
  have hD := hD0.self (sz := s.heap.size)
  generalize hAe : va_A (wX ad) s.heap.size = A at hD hZ ⊢
  have hA : ∀ q : Nat, s.heap.size ≤ q → A q := fun q h => by rw [← hAe]; exact Or.inr h
  have hS : va_S A s.heap s.heap [] := va_S.rf
  have hP : va_P D vwCl (wX ad) s.heap := hP
  have hD : va_D A (wX ad) := hD
  have hl := lv_entry ([.ref (ad 1)]) (n := 4) (Nat.le_of_ble_eq_true rfl)
  rw [lg_entry_eq]
  generalize (lg_sl ([.ref (ad 1)]) ++ List.replicate (4 - (lg_sl ([.ref (ad 1)])).length) Slot.unset).toArray = ls at hl ⊢
  have hl : lv_has ls 4 [(0, .ref (ad 1))] := hl
  refine lv_iconst (v := 0) hx hb dX0_takeSample_0 (by decide) ?_
  refine lv_istore_n (lv' := [(1, .int 0), (0, .ref (ad 1))]) hx hb dX0_takeSample_1 rfl hl (by decide) rfl (fun ls hl => ?_)
  refine lv_iconst (v := 0) hx hb dX0_takeSample_2 (by decide) ?_
  refine lv_istore_n (lv' := [(2, .int 0), (1, .int 0), (0, .ref (ad 1))]) hx hb dX0_takeSample_3 rfl hl (by decide) rfl (fun ls hl => ?_)
  refine lv_iload_n hx hb dX0_takeSample_4 rfl (lv_at hl 0 rfl) ?_
  refine lv_iconst (v := 4) hx hb dX0_takeSample_5 (by decide) ?_
  refine lv_aload_n hx hb dX0_takeSample_6 rfl (lv_at hl 2 rfl) ?_
  refine va_get (D := D) (ci := 5) (v := .int 0) (C := RX0) (T := TX0) (N := 11) hx hb hts hin_RX0 hown hK hP 1 rfl rfl 9 (by decide) (hts (.fieldLink RX0 68 "Popupwright$Book" "count" "I") (by decide +kernel)) (fun _ h9 => h9) rfl dX0_takeSample_7 ?_
  refine lv_imul hx hb dX0_takeSample_10 ?_
  refine lv_topi (fun y_ ey_ => ?_)
  obtain rfl : y_ = 0 := ey_.trans (by decide)
  refine lv_icmp_ge (tgt := 55) hx hb dX0_takeSample_11 (by decide) (fun _ => ?_) (fun h_ => absurd (by decide) h_)
  refine lv_iload_n hx hb dX0_takeSample_55 rfl (lv_at hl 1 rfl) ?_
  refine W.widen (k := 0) (n := 0) (Nat.le_of_ble_eq_true rfl) (Nat.le_of_ble_eq_true rfl) ?_
  have hP9 := hP.sub (ws' := (wX ad)) [0, 1, 2, 3, 4, 5] rfl
  have hD9 := hD.sub (ws' := (wX ad)) [0, 1, 2, 3, 4, 5] (by decide) rfl
  have hK9 := hK.sub (tys' := []) [] rfl
  exact W.iret (v := 0) hx hb hr (fun t ht hW => ⟨⟨0, (), rfl, rfl, ⟨by rw [ht]; exact hP9, va_K.moved hW.alike hK9, hD9⟩⟩, hS.F ht⟩) hS.2.2 dX0_takeSample_56 hlocks

set_option maxHeartbeats 4000000 in
set_option maxRecDepth 100000 in
theorem c_clashesByHalves (l : Launch) (D : va_G) (de : Nat) (ad : Nat → Nat) (sz : Nat) : Met l yX0_clashesByHalves wsX0_clashesByHalves ({ frames := 1, cells := 0, slots := 0, locals := 23 } : Room) (va_Pc [.ref (ad 1)] (PX de D ([]) (wX ad) sz)) (va_Qi (fun (r : Int32) (u : Unit) => r = 1) (fun (_ : Unit) t => PW D ([]) (va_A (wX ad) sz) (wX ad) t) (va_A (wX ad) sz)) 0 0 (va_A (wX ad) sz) := by
  refine Met.ofW (cc := cX0_clashesByHalves) (maxL := 4) (ret := (some .boolean)) (by decide) rfl ?_
  intro p e s m args below meth c s₁ B hml hv
  obtain ⟨rfl, hsz, hP, hK, hD0, hTK, hZ⟩ := hv
  have hx := B.exec
  have hb := B.bytes
  have hr := B.returns
  have hts := atoms_spec (ws := wsX0_clashesByHalves) B.pre
  have hown : s.vm.findClass RX0 = some m.cls := findClass_of_methodNamed B.named
  have hlocks := B.notSynchronized
  subst hsz
  have hD := hD0.self (sz := s.heap.size)
  generalize hAe : va_A (wX ad) s.heap.size = A at hD hZ ⊢
  have hA : ∀ q : Nat, s.heap.size ≤ q → A q := fun q h => by rw [← hAe]; exact Or.inr h
  have hS : va_S A s.heap s.heap [] := va_S.rf
  have hP : va_P D vwCl (wX ad) s.heap := hP
  have hD : va_D A (wX ad) := hD
  have hl := lv_entry ([.ref (ad 1)]) (n := 4) (Nat.le_of_ble_eq_true rfl)
  rw [lg_entry_eq]
  generalize (lg_sl ([.ref (ad 1)]) ++ List.replicate (4 - (lg_sl ([.ref (ad 1)])).length) Slot.unset).toArray = ls at hl ⊢
  have hl : lv_has ls 4 [(0, .ref (ad 1))] := hl
  refine lv_aload_n hx hb dX0_clashesByHalves_0 rfl (lv_at hl 0 rfl) ?_
  refine kx_i (wc := wX ad) (wr := []) hP hD hS hA [0, 1, 2, 3, 4, 5] [] rfl rfl (by decide) (by decide) (va_runV (As := []) (rest := []) ⟨hx, hb, hml, hown, hts⟩ (c_takeSample l D de ad s.heap.size) (cwV 0 hts gX0_clashesByHalves_X0_takeSample rfl rfl rfl (by decide +kernel) ⟨Nat.le_of_ble_eq_true rfl, Nat.le_of_ble_eq_true rfl⟩) ⟨px_blind, (va_recv hK hP (ci := 5) (q0 := 1) rfl rfl), (px_pre hP hD hK hS hA hTK hZ [0, 1, 2, 3, 4, 5] rfl rfl (by decide) [] rfl)⟩ rfl rfl hl.1 rfl (lv_room (Nat.le_of_ble_eq_true rfl)) dX0_clashesByHalves_1 ⟨(Nat.le_of_ble_eq_true rfl), (Nat.le_of_ble_eq_true rfl)⟩) (fun r_1 u H locs hw hP hD hK1 hS => ?_)
  have hP : va_P D vwCl (wX ad) H := hP
  have hD : va_D A (wX ad) := hD
  obtain rfl : r_1 = 0 := hw
  refine lv_istore_n (lv' := [(1, .int 0), (0, .ref (ad 1))]) hx hb dX0_clashesByHalves_4 rfl hl (by decide) rfl (fun ls hl => ?_)
  refine lv_iconst (v := 0) hx hb dX0_clashesByHalves_5 (by decide) ?_
  refine lv_istore_n (lv' := [(2, .int 0), (1, .int 0), (0, .ref (ad 1))]) hx hb dX0_clashesByHalves_6 rfl hl (by decide) rfl (fun ls hl => ?_)
  refine lv_iload_n hx hb dX0_clashesByHalves_7 rfl (lv_at hl 0 rfl) ?_
  refine lv_iload_n hx hb dX0_clashesByHalves_8 rfl (lv_at hl 1 rfl) ?_
  refine lv_icmp_ge (tgt := 66) hx hb dX0_clashesByHalves_9 (by decide) (fun _ => ?_) (fun h_ => absurd (by decide) h_)
  refine lv_iconst (v := 1) hx hb dX0_clashesByHalves_66 (by decide) ?_
  refine W.widen (k := 0) (n := 0) (Nat.le_of_ble_eq_true rfl) (Nat.le_of_ble_eq_true rfl) ?_
  have hP9 := hP.sub (ws' := (wX ad)) [0, 1, 2, 3, 4, 5] rfl
  have hD9 := hD.sub (ws' := (wX ad)) [0, 1, 2, 3, 4, 5] (by decide) rfl
  have hK9 := hK.sub (tys' := []) [] rfl
  exact W.zret (v := 1) hx hb hr (by decide) (fun t ht hW => ⟨⟨1, (), rfl, rfl, ⟨by rw [ht]; exact hP9, va_K.moved hW.alike hK9, hD9⟩⟩, hS.F ht⟩) hS.2.2 dX0_clashesByHalves_67 hlocks

set_option maxHeartbeats 4000000 in
set_option maxRecDepth 100000 in
theorem c_fitsEach (l : Launch) (D : va_G) (de : Nat) (ad : Nat → Nat) (sz : Nat) : Met l yX5_fitsEach wsX5_fitsEach ({ frames := 0, cells := 0, slots := 0, locals := 0 } : Room) (va_Pc [.ref (ad 4)] (PX de D ([]) (wX ad) sz)) (va_Qi (fun (r : Int32) (u : Unit) => r = 1) (fun (_ : Unit) t => PW D ([]) (va_A (wX ad) sz) (wX ad) t) (va_A (wX ad) sz)) 0 0 (va_A (wX ad) sz) := by
  refine Met.ofW (cc := cX5_fitsEach) (maxL := 3) (ret := (some .boolean)) (by decide) rfl ?_
  intro p e s m args below meth c s₁ B hml hv
  obtain ⟨rfl, hsz, hP, hK, hD0, hTK, hZ⟩ := hv
  have hx := B.exec
  have hb := B.bytes
  have hr := B.returns
  have hts := atoms_spec (ws := wsX5_fitsEach) B.pre
  have hown : s.vm.findClass RX5 = some m.cls := findClass_of_methodNamed B.named
  have hlocks := B.notSynchronized
  have hin_RX0 : ∀ w ∈ u_ws RX0 TX0 11, w ∈ wsX5_fitsEach := by decide +kernel
  have hin_RX5 : ∀ w ∈ u_ws RX5 TX5 13, w ∈ wsX5_fitsEach := by decide +kernel
  subst hsz
  have hD := hD0.self (sz := s.heap.size)
  generalize hAe : va_A (wX ad) s.heap.size = A at hD hZ ⊢
  have hA : ∀ q : Nat, s.heap.size ≤ q → A q := fun q h => by rw [← hAe]; exact Or.inr h
  have hS : va_S A s.heap s.heap [] := va_S.rf
  have hP : va_P D vwCl (wX ad) s.heap := hP
  have hD : va_D A (wX ad) := hD
  have hl := lv_entry ([.ref (ad 4)]) (n := 3) (Nat.le_of_ble_eq_true rfl)
  rw [lg_entry_eq]
  generalize (lg_sl ([.ref (ad 4)]) ++ List.replicate (3 - (lg_sl ([.ref (ad 4)])).length) Slot.unset).toArray = ls at hl ⊢
  have hl : lv_has ls 3 [(0, .ref (ad 4))] := hl
  refine lv_iconst (v := 0) hx hb dX5_fitsEach_0 (by decide) ?_
  refine lv_istore_n (lv' := [(1, .int 0), (0, .ref (ad 4))]) hx hb dX5_fitsEach_1 rfl hl (by decide) rfl (fun ls hl => ?_)
  refine lv_iload_n hx hb dX5_fitsEach_2 rfl (lv_at hl 0 rfl) ?_
  refine lv_aload_n hx hb dX5_fitsEach_3 rfl (lv_at hl 1 rfl) ?_
  refine va_get (D := D) (ci := 10) (v := .ref (ad 1)) (C := RX5) (T := TX5) (N := 13) hx hb hts hin_RX5 hown hK hP 4 rfl rfl 0 (by decide) (hts (.fieldLink RX5 43 "Popupwright$Nets" "book" "LPopupwright$Book;") (by decide +kernel)) (fun _ h9 => h9) rfl dX5_fitsEach_4 ?_
  refine va_get (D := D) (ci := 5) (v := .int 0) (C := RX0) (T := TX0) (N := 11) hx hb hts hin_RX0 hown hK hP 1 rfl rfl 9 (by decide) (hts (.fieldLink RX5 57 "Popupwright$Book" "count" "I") (by decide +kernel)) (fun _ h9 => h9) rfl dX5_fitsEach_7 ?_
  refine lv_icmp_ge (tgt := 53) hx hb dX5_fitsEach_10 (by decide) (fun _ => ?_) (fun h_ => absurd (by decide) h_)
  refine lv_iconst (v := 1) hx hb dX5_fitsEach_53 (by decide) ?_
  refine W.widen (k := 0) (n := 0) (Nat.le_of_ble_eq_true rfl) (Nat.le_of_ble_eq_true rfl) ?_
  have hP9 := hP.sub (ws' := (wX ad)) [0, 1, 2, 3, 4, 5] rfl
  have hD9 := hD.sub (ws' := (wX ad)) [0, 1, 2, 3, 4, 5] (by decide) rfl
  have hK9 := hK.sub (tys' := []) [] rfl
  exact W.zret (v := 1) hx hb hr (by decide) (fun t ht hW => ⟨⟨1, (), rfl, rfl, ⟨by rw [ht]; exact hP9, va_K.moved hW.alike hK9, hD9⟩⟩, hS.F ht⟩) hS.2.2 dX5_fitsEach_54 hlocks

set_option maxHeartbeats 4000000 in
set_option maxRecDepth 100000 in
theorem c_layAll (l : Launch) (D : va_G) (de : Nat) (ad : Nat → Nat) (sz : Nat) : Met l yX5_layAll wsX5_layAll ({ frames := 1, cells := 0, slots := 0, locals := 22 } : Room) (va_Pc [.ref (ad 4)] (PX de D ([]) (wX ad) sz)) (va_Qi (fun (r : Int32) (u : Unit) => r = 1) (fun (_ : Unit) t => PW D ([]) (va_A (wX ad) sz) (wX ad) t) (va_A (wX ad) sz)) 0 0 (va_A (wX ad) sz) := by
  refine Met.ofW (cc := cX5_layAll) (maxL := 4) (ret := (some .boolean)) (by decide) rfl ?_
  intro p e s m args below meth c s₁ B hml hv
  obtain ⟨rfl, hsz, hP, hK, hD0, hTK, hZ⟩ := hv
  have hx := B.exec
  have hb := B.bytes
  have hr := B.returns
  have hts := atoms_spec (ws := wsX5_layAll) B.pre
  have hown : s.vm.findClass RX5 = some m.cls := findClass_of_methodNamed B.named
  have hlocks := B.notSynchronized
  have hin_RX0 : ∀ w ∈ u_ws RX0 TX0 11, w ∈ wsX5_layAll := by decide +kernel
  have hin_RX5 : ∀ w ∈ u_ws RX5 TX5 13, w ∈ wsX5_layAll := by decide +kernel
  subst hsz
  have hD := hD0.self (sz := s.heap.size)
  generalize hAe : va_A (wX ad) s.heap.size = A at hD hZ ⊢
  have hA : ∀ q : Nat, s.heap.size ≤ q → A q := fun q h => by rw [← hAe]; exact Or.inr h
  have hS : va_S A s.heap s.heap [] := va_S.rf
  have hP : va_P D vwCl (wX ad) s.heap := hP
  have hD : va_D A (wX ad) := hD
  have hl := lv_entry ([.ref (ad 4)]) (n := 4) (Nat.le_of_ble_eq_true rfl)
  rw [lg_entry_eq]
  generalize (lg_sl ([.ref (ad 4)]) ++ List.replicate (4 - (lg_sl ([.ref (ad 4)])).length) Slot.unset).toArray = ls at hl ⊢
  have hl : lv_has ls 4 [(0, .ref (ad 4))] := hl
  refine lv_aload_n hx hb dX5_layAll_0 rfl (lv_at hl 0 rfl) ?_
  refine lv_iconst (v := 0) hx hb dX5_layAll_1 (by decide) ?_
  refine va_put (D := D) (ci := 10) (v := .int 0) (ty := .int) (C := RX5) (T := TX5) (N := 13) hx hb hts hin_RX5 tyX5 tyX5_ok nmX5 hown hK hP hD hS 4 rfl rfl 11 (by decide) (hts (.fieldLink RX5 47 "Popupwright$Nets" "shelfCount" "I") (by decide +kernel)) (fun _ h9 => h9) rfl (by decide +kernel) rfl rfl (Nat.le_of_ble_eq_true rfl) dX5_layAll_2 (fun H locs hP hD hS => ?_)
  have hP : va_P D vwCl (wX ad) H := hP
  have hD : va_D A (wX ad) := hD
  refine lv_aload_n hx hb dX5_layAll_5 rfl (lv_at hl 0 rfl) ?_
  refine lv_iconst (v := 0) hx hb dX5_layAll_6 (by decide) ?_
  refine va_put (D := D) (ci := 10) (v := .int 0) (ty := .int) (C := RX5) (T := TX5) (N := 13) hx hb hts hin_RX5 tyX5 tyX5_ok nmX5 hown hK hP hD hS 4 rfl rfl 12 (by decide) (hts (.fieldLink RX5 50 "Popupwright$Nets" "sheetCount" "I") (by decide +kernel)) (fun _ h9 => h9) rfl (by decide +kernel) rfl rfl (Nat.le_of_ble_eq_true rfl) dX5_layAll_7 (fun H locs hP hD hS => ?_)
  have hP : va_P D vwCl (wX ad) H := hP
  have hD : va_D A (wX ad) := hD
  refine lv_aload_n hx hb dX5_layAll_10 rfl (lv_at hl 0 rfl) ?_
  refine kx_i (wc := wX ad) (wr := []) hP hD hS hA [0, 1, 2, 3, 4, 5] [] rfl rfl (by decide) (by decide) (va_runV (As := []) (rest := []) ⟨hx, hb, hml, hown, hts⟩ (c_fitsEach l D de ad H.size) (cwV 0 hts gX5_layAll_X5_fitsEach rfl rfl rfl (by decide +kernel) ⟨Nat.le_of_ble_eq_true rfl, Nat.le_of_ble_eq_true rfl⟩) ⟨px_blind, (va_recv hK hP (ci := 10) (q0 := 4) rfl rfl), (px_pre hP hD hK hS hA hTK hZ [0, 1, 2, 3, 4, 5] rfl rfl (by decide) [] rfl)⟩ rfl rfl hl.1 rfl (lv_room (Nat.le_of_ble_eq_true rfl)) dX5_layAll_11 ⟨(Nat.le_of_ble_eq_true rfl), (Nat.le_of_ble_eq_true rfl)⟩) (fun r_1 u H locs hw hP hD hK1 hS => ?_)
  have hP : va_P D vwCl (wX ad) H := hP
  have hD : va_D A (wX ad) := hD
  obtain rfl : r_1 = 1 := hw
  refine lv_if_ne (tgt := 19) hx hb dX5_layAll_14 (by decide) (fun _ => ?_) (fun h_ => absurd h_ (by decide))
  refine lv_iconst (v := 0) hx hb dX5_layAll_19 (by decide) ?_
  refine lv_istore_n (lv' := [(1, .int 0), (0, .ref (ad 4))]) hx hb dX5_layAll_20 rfl hl (by decide) rfl (fun ls hl => ?_)
  refine lv_iconst (v := 0) hx hb dX5_layAll_21 (by decide) ?_
  refine lv_istore_n (lv' := [(2, .int 0), (1, .int 0), (0, .ref (ad 4))]) hx hb dX5_layAll_22 rfl hl (by decide) rfl (fun ls hl => ?_)
  refine lv_iload_n hx hb dX5_layAll_23 rfl (lv_at hl 0 rfl) ?_
  refine lv_aload_n hx hb dX5_layAll_24 rfl (lv_at hl 2 rfl) ?_
  refine va_get (D := D) (ci := 10) (v := .ref (ad 1)) (C := RX5) (T := TX5) (N := 13) hx hb hts hin_RX5 hown hK hP 4 rfl rfl 0 (by decide) (hts (.fieldLink RX5 43 "Popupwright$Nets" "book" "LPopupwright$Book;") (by decide +kernel)) (fun _ h9 => h9) rfl dX5_layAll_25 ?_
  refine va_get (D := D) (ci := 5) (v := .int 0) (C := RX0) (T := TX0) (N := 11) hx hb hts hin_RX0 hown hK hP 1 rfl rfl 9 (by decide) (hts (.fieldLink RX5 57 "Popupwright$Book" "count" "I") (by decide +kernel)) (fun _ h9 => h9) rfl dX5_layAll_28 ?_
  refine lv_icmp_ge (tgt := 63) hx hb dX5_layAll_31 (by decide) (fun _ => ?_) (fun h_ => absurd (by decide) h_)
  refine lv_iconst (v := 1) hx hb dX5_layAll_63 (by decide) ?_
  refine W.widen (k := 0) (n := 0) (Nat.le_of_ble_eq_true rfl) (Nat.le_of_ble_eq_true rfl) ?_
  have hP9 := hP.sub (ws' := (wX ad)) [0, 1, 2, 3, 4, 5] rfl
  have hD9 := hD.sub (ws' := (wX ad)) [0, 1, 2, 3, 4, 5] (by decide) rfl
  have hK9 := hK.sub (tys' := []) [] rfl
  exact W.zret (v := 1) hx hb hr (by decide) (fun t ht hW => ⟨⟨1, (), rfl, rfl, ⟨by rw [ht]; exact hP9, va_K.moved hW.alike hK9, hD9⟩⟩, hS.F ht⟩) hS.2.2 dX5_layAll_64 hlocks

set_option maxHeartbeats 4000000 in
set_option maxRecDepth 100000 in
theorem c_plateCount (l : Launch) (D : va_G) (de : Nat) (ad : Nat → Nat) (p0 : Int32) (sz : Nat) : Met l yX5_plateCount wsX5_plateCount ({ frames := 0, cells := 0, slots := 0, locals := 0 } : Room) (va_Pc [.ref (ad 4), .ref (ad 2), .int p0] (PX de D ([]) (wX ad) sz)) (va_Qi (fun (r : Int32) (u : Unit) => r = 0) (fun (_ : Unit) t => PW D ([]) (va_A (wX ad) sz) (wX ad) t) (va_A (wX ad) sz)) 0 0 (va_A (wX ad) sz) := by
  refine Met.ofW (cc := cX5_plateCount) (maxL := 9) (ret := (some .int)) (by decide) rfl ?_
  intro p e s m args below meth c s₁ B hml hv
  obtain ⟨rfl, hsz, hP, hK, hD0, hTK, hZ⟩ := hv
  have hx := B.exec
  have hb := B.bytes
  have hr := B.returns
  have hts := atoms_spec (ws := wsX5_plateCount) B.pre
  have hown : s.vm.findClass RX5 = some m.cls := findClass_of_methodNamed B.named
  have hlocks := B.notSynchronized
  have hin_RX4 : ∀ w ∈ u_ws RX4 TX4 3, w ∈ wsX5_plateCount := by decide +kernel
  subst hsz
  have hD := hD0.self (sz := s.heap.size)
  generalize hAe : va_A (wX ad) s.heap.size = A at hD hZ ⊢
  have hA : ∀ q : Nat, s.heap.size ≤ q → A q := fun q h => by rw [← hAe]; exact Or.inr h
  have hS : va_S A s.heap s.heap [] := va_S.rf
  have hP : va_P D vwCl (wX ad) s.heap := hP
  have hD : va_D A (wX ad) := hD
  have hl := lv_entry ([.ref (ad 4), .ref (ad 2), .int p0]) (n := 9) (Nat.le_of_ble_eq_true rfl)
  rw [lg_entry_eq]
  generalize (lg_sl ([.ref (ad 4), .ref (ad 2), .int p0]) ++ List.replicate (9 - (lg_sl ([.ref (ad 4), .ref (ad 2), .int p0])).length) Slot.unset).toArray = ls at hl ⊢
  have hl : lv_has ls 9 [(0, .ref (ad 4)), (1, .ref (ad 2)), (2, .int p0)] := hl
  refine lv_iconst (v := 0) hx hb dX5_plateCount_0 (by decide) ?_
  refine lv_istore_n (lv' := [(3, .int 0), (0, .ref (ad 4)), (1, .ref (ad 2)), (2, .int p0)]) hx hb dX5_plateCount_1 rfl hl (by decide) rfl (fun ls hl => ?_)
  refine lv_iconst (v := 0) hx hb dX5_plateCount_2 (by decide) ?_
  refine lv_istore (lv' := [(4, .int 0), (3, .int 0), (0, .ref (ad 4)), (1, .ref (ad 2)), (2, .int p0)]) hx hb dX5_plateCount_3 hl (by decide) rfl (fun ls hl => ?_)
  refine lv_iload hx hb dX5_plateCount_5 (lv_at hl 0 rfl) ?_
  refine lv_aload_n hx hb dX5_plateCount_7 rfl (lv_at hl 3 rfl) ?_
  refine va_get (D := D) (ci := 9) (v := .int 0) (C := RX4) (T := TX4) (N := 3) hx hb hts hin_RX4 hown hK hP 2 rfl rfl 2 (by decide) (hts (.fieldLink RX5 94 "Popupwright$Layers" "count" "I") (by decide +kernel)) (fun _ h9 => h9) rfl dX5_plateCount_8 ?_
  refine lv_icmp_ge (tgt := 100) hx hb dX5_plateCount_11 (by decide) (fun _ => ?_) (fun h_ => absurd (by decide) h_)
  refine lv_iload_n hx hb dX5_plateCount_100 rfl (lv_at hl 1 rfl) ?_
  refine W.widen (k := 0) (n := 0) (Nat.le_of_ble_eq_true rfl) (Nat.le_of_ble_eq_true rfl) ?_
  have hP9 := hP.sub (ws' := (wX ad)) [0, 1, 2, 3, 4, 5] rfl
  have hD9 := hD.sub (ws' := (wX ad)) [0, 1, 2, 3, 4, 5] (by decide) rfl
  have hK9 := hK.sub (tys' := []) [] rfl
  exact W.iret (v := 0) hx hb hr (fun t ht hW => ⟨⟨0, (), rfl, rfl, ⟨by rw [ht]; exact hP9, va_K.moved hW.alike hK9, hD9⟩⟩, hS.F ht⟩) hS.2.2 dX5_plateCount_101 hlocks

set_option maxHeartbeats 4000000 in
set_option maxRecDepth 100000 in
theorem c_addWaitsByOthers (l : Launch) (D : va_G) (de : Nat) (ad : Nat → Nat) (sz : Nat) : Met l yX3_addWaitsByOthers wsX3_addWaitsByOthers ({ frames := 0, cells := 0, slots := 0, locals := 0 } : Room) (va_Pc [.ref (ad 5)] (PX de D ([]) (wX ad) sz)) (va_Qv (fun (u : Unit) => True) (fun (_ : Unit) t => PW D ([]) (va_A (wX ad) sz) (wX ad) t) (va_A (wX ad) sz)) 0 0 (va_A (wX ad) sz) := by
  refine Met.ofW (cc := cX3_addWaitsByOthers) (maxL := 3) (ret := none) (by decide) rfl ?_
  intro p e s m args below meth c s₁ B hml hv
  obtain ⟨rfl, hsz, hP, hK, hD0, hTK, hZ⟩ := hv
  have hx := B.exec
  have hb := B.bytes
  have hr := B.returns
  have hts := atoms_spec (ws := wsX3_addWaitsByOthers) B.pre
  have hown : s.vm.findClass RX3 = some m.cls := findClass_of_methodNamed B.named
  have hlocks := B.notSynchronized
  have hin_RX0 : ∀ w ∈ u_ws RX0 TX0 11, w ∈ wsX3_addWaitsByOthers := by decide +kernel
  have hin_RX3 : ∀ w ∈ u_ws RX3 TX3 9, w ∈ wsX3_addWaitsByOthers := by decide +kernel
  subst hsz
  have hD := hD0.self (sz := s.heap.size)
  generalize hAe : va_A (wX ad) s.heap.size = A at hD hZ ⊢
  have hA : ∀ q : Nat, s.heap.size ≤ q → A q := fun q h => by rw [← hAe]; exact Or.inr h
  have hS : va_S A s.heap s.heap [] := va_S.rf
  have hP : va_P D vwCl (wX ad) s.heap := hP
  have hD : va_D A (wX ad) := hD
  have hl := lv_entry ([.ref (ad 5)]) (n := 3) (Nat.le_of_ble_eq_true rfl)
  rw [lg_entry_eq]
  generalize (lg_sl ([.ref (ad 5)]) ++ List.replicate (3 - (lg_sl ([.ref (ad 5)])).length) Slot.unset).toArray = ls at hl ⊢
  have hl : lv_has ls 3 [(0, .ref (ad 5))] := hl
  refine lv_iconst (v := 0) hx hb dX3_addWaitsByOthers_0 (by decide) ?_
  refine lv_istore_n (lv' := [(1, .int 0), (0, .ref (ad 5))]) hx hb dX3_addWaitsByOthers_1 rfl hl (by decide) rfl (fun ls hl => ?_)
  refine lv_iload_n hx hb dX3_addWaitsByOthers_2 rfl (lv_at hl 0 rfl) ?_
  refine lv_aload_n hx hb dX3_addWaitsByOthers_3 rfl (lv_at hl 1 rfl) ?_
  refine va_get (D := D) (ci := 8) (v := .ref (ad 1)) (C := RX3) (T := TX3) (N := 9) hx hb hts hin_RX3 hown hK hP 5 rfl rfl 0 (by decide) (hts (.fieldLink RX3 34 "Popupwright$Hands" "book" "LPopupwright$Book;") (by decide +kernel)) (fun _ h9 => h9) rfl dX3_addWaitsByOthers_4 ?_
  refine va_get (D := D) (ci := 5) (v := .int 0) (C := RX0) (T := TX0) (N := 11) hx hb hts hin_RX0 hown hK hP 1 rfl rfl 9 (by decide) (hts (.fieldLink RX3 38 "Popupwright$Book" "count" "I") (by decide +kernel)) (fun _ h9 => h9) rfl dX3_addWaitsByOthers_7 ?_
  refine lv_icmp_ge (tgt := 66) hx hb dX3_addWaitsByOthers_10 (by decide) (fun _ => ?_) (fun h_ => absurd (by decide) h_)
  refine W.widen (k := 0) (n := 0) (Nat.le_of_ble_eq_true rfl) (Nat.le_of_ble_eq_true rfl) ?_
  have hP9 := hP.sub (ws' := (wX ad)) [0, 1, 2, 3, 4, 5] rfl
  have hD9 := hD.sub (ws' := (wX ad)) [0, 1, 2, 3, 4, 5] (by decide) rfl
  have hK9 := hK.sub (tys' := []) [] rfl
  exact W.vret hx hb hr (fun t ht hW => ⟨⟨(), rfl, trivial, ⟨by rw [ht]; exact hP9, va_K.moved hW.alike hK9, hD9⟩⟩, hS.F ht⟩) hS.2.2 dX3_addWaitsByOthers_66 hlocks

set_option maxHeartbeats 4000000 in
set_option maxRecDepth 100000 in
theorem c_countWaiters (l : Launch) (D : va_G) (de : Nat) (ad : Nat → Nat) (sz : Nat) : Met l yX3_countWaiters wsX3_countWaiters ({ frames := 0, cells := 0, slots := 0, locals := 0 } : Room) (va_Pc [.ref (ad 5)] (PX de D ([]) (wX ad) sz)) (va_Qv (fun (u : Unit) => True) (fun (_ : Unit) t => PW D ([]) (va_A (wX ad) sz) (wX ad) t) (va_A (wX ad) sz)) 0 0 (va_A (wX ad) sz) := by
  refine Met.ofW (cc := cX3_countWaiters) (maxL := 3) (ret := none) (by decide) rfl ?_
  intro p e s m args below meth c s₁ B hml hv
  obtain ⟨rfl, hsz, hP, hK, hD0, hTK, hZ⟩ := hv
  have hx := B.exec
  have hb := B.bytes
  have hr := B.returns
  have hts := atoms_spec (ws := wsX3_countWaiters) B.pre
  have hown : s.vm.findClass RX3 = some m.cls := findClass_of_methodNamed B.named
  have hlocks := B.notSynchronized
  have hin_RX0 : ∀ w ∈ u_ws RX0 TX0 11, w ∈ wsX3_countWaiters := by decide +kernel
  have hin_RX3 : ∀ w ∈ u_ws RX3 TX3 9, w ∈ wsX3_countWaiters := by decide +kernel
  subst hsz
  have hD := hD0.self (sz := s.heap.size)
  generalize hAe : va_A (wX ad) s.heap.size = A at hD hZ ⊢
  have hA : ∀ q : Nat, s.heap.size ≤ q → A q := fun q h => by rw [← hAe]; exact Or.inr h
  have hS : va_S A s.heap s.heap [] := va_S.rf
  have hP : va_P D vwCl (wX ad) s.heap := hP
  have hD : va_D A (wX ad) := hD
  have hl := lv_entry ([.ref (ad 5)]) (n := 3) (Nat.le_of_ble_eq_true rfl)
  rw [lg_entry_eq]
  generalize (lg_sl ([.ref (ad 5)]) ++ List.replicate (3 - (lg_sl ([.ref (ad 5)])).length) Slot.unset).toArray = ls at hl ⊢
  have hl : lv_has ls 3 [(0, .ref (ad 5))] := hl
  refine lv_iconst (v := 0) hx hb dX3_countWaiters_0 (by decide) ?_
  refine lv_istore_n (lv' := [(1, .int 0), (0, .ref (ad 5))]) hx hb dX3_countWaiters_1 rfl hl (by decide) rfl (fun ls hl => ?_)
  refine lv_iload_n hx hb dX3_countWaiters_2 rfl (lv_at hl 0 rfl) ?_
  refine lv_aload_n hx hb dX3_countWaiters_3 rfl (lv_at hl 1 rfl) ?_
  refine va_get (D := D) (ci := 8) (v := .ref (ad 1)) (C := RX3) (T := TX3) (N := 9) hx hb hts hin_RX3 hown hK hP 5 rfl rfl 0 (by decide) (hts (.fieldLink RX3 34 "Popupwright$Hands" "book" "LPopupwright$Book;") (by decide +kernel)) (fun _ h9 => h9) rfl dX3_countWaiters_4 ?_
  refine va_get (D := D) (ci := 5) (v := .int 0) (C := RX0) (T := TX0) (N := 11) hx hb hts hin_RX0 hown hK hP 1 rfl rfl 9 (by decide) (hts (.fieldLink RX3 38 "Popupwright$Book" "count" "I") (by decide +kernel)) (fun _ h9 => h9) rfl dX3_countWaiters_7 ?_
  refine lv_icmp_ge (tgt := 61) hx hb dX3_countWaiters_10 (by decide) (fun _ => ?_) (fun h_ => absurd (by decide) h_)
  refine W.widen (k := 0) (n := 0) (Nat.le_of_ble_eq_true rfl) (Nat.le_of_ble_eq_true rfl) ?_
  have hP9 := hP.sub (ws' := (wX ad)) [0, 1, 2, 3, 4, 5] rfl
  have hD9 := hD.sub (ws' := (wX ad)) [0, 1, 2, 3, 4, 5] (by decide) rfl
  have hK9 := hK.sub (tys' := []) [] rfl
  exact W.vret hx hb hr (fun t ht hW => ⟨⟨(), rfl, trivial, ⟨by rw [ht]; exact hP9, va_K.moved hW.alike hK9, hD9⟩⟩, hS.F ht⟩) hS.2.2 dX3_countWaiters_61 hlocks

set_option maxHeartbeats 4000000 in
set_option maxRecDepth 100000 in
theorem c_glueAll (l : Launch) (D : va_G) (de : Nat) (ad : Nat → Nat) (sz : Nat) : Met l yX3_glueAll wsX3_glueAll ({ frames := 0, cells := 0, slots := 0, locals := 0 } : Room) (va_Pc [.ref (ad 5)] (PX de D ([]) (wX ad) sz)) (va_Qv (fun (u : Unit) => True) (fun (_ : Unit) t => PW D ([]) (va_A (wX ad) sz) (wX ad) t) (va_A (wX ad) sz)) 0 0 (va_A (wX ad) sz) := by
  refine Met.ofW (cc := cX3_glueAll) (maxL := 5) (ret := none) (by decide) rfl ?_
  intro p e s m args below meth c s₁ B hml hv
  obtain ⟨rfl, hsz, hP, hK, hD0, hTK, hZ⟩ := hv
  have hx := B.exec
  have hb := B.bytes
  have hr := B.returns
  have hts := atoms_spec (ws := wsX3_glueAll) B.pre
  have hown : s.vm.findClass RX3 = some m.cls := findClass_of_methodNamed B.named
  have hlocks := B.notSynchronized
  have hin_RX0 : ∀ w ∈ u_ws RX0 TX0 11, w ∈ wsX3_glueAll := by decide +kernel
  have hin_RX3 : ∀ w ∈ u_ws RX3 TX3 9, w ∈ wsX3_glueAll := by decide +kernel
  subst hsz
  have hD := hD0.self (sz := s.heap.size)
  generalize hAe : va_A (wX ad) s.heap.size = A at hD hZ ⊢
  have hA : ∀ q : Nat, s.heap.size ≤ q → A q := fun q h => by rw [← hAe]; exact Or.inr h
  have hS : va_S A s.heap s.heap [] := va_S.rf
  have hP : va_P D vwCl (wX ad) s.heap := hP
  have hD : va_D A (wX ad) := hD
  have hl := lv_entry ([.ref (ad 5)]) (n := 5) (Nat.le_of_ble_eq_true rfl)
  rw [lg_entry_eq]
  generalize (lg_sl ([.ref (ad 5)]) ++ List.replicate (5 - (lg_sl ([.ref (ad 5)])).length) Slot.unset).toArray = ls at hl ⊢
  have hl : lv_has ls 5 [(0, .ref (ad 5))] := hl
  refine lv_iconst (v := 0) hx hb dX3_glueAll_0 (by decide) ?_
  refine lv_istore_n (lv' := [(1, .int 0), (0, .ref (ad 5))]) hx hb dX3_glueAll_1 rfl hl (by decide) rfl (fun ls hl => ?_)
  refine lv_iconst (v := 0) hx hb dX3_glueAll_2 (by decide) ?_
  refine lv_istore_n (lv' := [(2, .int 0), (1, .int 0), (0, .ref (ad 5))]) hx hb dX3_glueAll_3 rfl hl (by decide) rfl (fun ls hl => ?_)
  refine lv_aload_n hx hb dX3_glueAll_4 rfl (lv_at hl 2 rfl) ?_
  refine lv_iconst (v := 0) hx hb dX3_glueAll_5 (by decide) ?_
  refine va_put (D := D) (ci := 8) (v := .int 0) (ty := .int) (C := RX3) (T := TX3) (N := 9) hx hb hts hin_RX3 tyX3 tyX3_ok nmX3 hown hK hP hD hS 5 rfl rfl 8 (by decide) (hts (.fieldLink RX3 69 "Popupwright$Hands" "lastMinute" "I") (by decide +kernel)) (fun _ h9 => h9) rfl (by decide +kernel) rfl rfl (Nat.le_of_ble_eq_true rfl) dX3_glueAll_6 (fun H locs hP hD hS => ?_)
  have hP : va_P D vwCl (wX ad) H := hP
  have hD : va_D A (wX ad) := hD
  refine lv_iconst (v := 0) hx hb dX3_glueAll_9 (by decide) ?_
  refine lv_istore_n (lv' := [(3, .int 0), (2, .int 0), (1, .int 0), (0, .ref (ad 5))]) hx hb dX3_glueAll_10 rfl hl (by decide) rfl (fun ls hl => ?_)
  refine lv_iload_n hx hb dX3_glueAll_11 rfl (lv_at hl 0 rfl) ?_
  refine lv_aload_n hx hb dX3_glueAll_12 rfl (lv_at hl 3 rfl) ?_
  refine va_get (D := D) (ci := 8) (v := .ref (ad 1)) (C := RX3) (T := TX3) (N := 9) hx hb hts hin_RX3 hown hK hP 5 rfl rfl 0 (by decide) (hts (.fieldLink RX3 34 "Popupwright$Hands" "book" "LPopupwright$Book;") (by decide +kernel)) (fun _ h9 => h9) rfl dX3_glueAll_13 ?_
  refine va_get (D := D) (ci := 5) (v := .int 0) (C := RX0) (T := TX0) (N := 11) hx hb hts hin_RX0 hown hK hP 1 rfl rfl 9 (by decide) (hts (.fieldLink RX3 38 "Popupwright$Book" "count" "I") (by decide +kernel)) (fun _ h9 => h9) rfl dX3_glueAll_16 ?_
  refine lv_icmp_ge (tgt := 118) hx hb dX3_glueAll_19 (by decide) (fun _ => ?_) (fun h_ => absurd (by decide) h_)
  refine W.widen (k := 0) (n := 0) (Nat.le_of_ble_eq_true rfl) (Nat.le_of_ble_eq_true rfl) ?_
  have hP9 := hP.sub (ws' := (wX ad)) [0, 1, 2, 3, 4, 5] rfl
  have hD9 := hD.sub (ws' := (wX ad)) [0, 1, 2, 3, 4, 5] (by decide) rfl
  have hK9 := hK.sub (tys' := []) [] rfl
  exact W.vret hx hb hr (fun t ht hW => ⟨⟨(), rfl, trivial, ⟨by rw [ht]; exact hP9, va_K.moved hW.alike hK9, hD9⟩⟩, hS.F ht⟩) hS.2.2 dX3_glueAll_118 hlocks

set_option maxHeartbeats 4000000 in
set_option maxRecDepth 100000 in
theorem c_plan (l : Launch) (D : va_G) (de : Nat) (ad : Nat → Nat) (sz : Nat) : Met l yX3_plan wsX3_plan ({ frames := 1, cells := 0, slots := 0, locals := 24 } : Room) (va_Pc [.ref (ad 5)] (PX de D ([]) (wX ad) sz)) (va_Qv (fun (u : Unit) => True) (fun (_ : Unit) t => PW D ([]) (va_A (wX ad) sz) (wX ad) t) (va_A (wX ad) sz)) 0 0 (va_A (wX ad) sz) := by
  refine Met.ofW (cc := cX3_plan) (maxL := 2) (ret := none) (by decide) rfl ?_
  intro p e s m args below meth c s₁ B hml hv
  obtain ⟨rfl, hsz, hP, hK, hD0, hTK, hZ⟩ := hv
  have hx := B.exec
  have hb := B.bytes
  have hr := B.returns
  have hts := atoms_spec (ws := wsX3_plan) B.pre
  have hown : s.vm.findClass RX3 = some m.cls := findClass_of_methodNamed B.named
  have hlocks := B.notSynchronized
  have hin_RX0 : ∀ w ∈ u_ws RX0 TX0 11, w ∈ wsX3_plan := by decide +kernel
  have hin_RX3 : ∀ w ∈ u_ws RX3 TX3 9, w ∈ wsX3_plan := by decide +kernel
  subst hsz
  have hD := hD0.self (sz := s.heap.size)
  generalize hAe : va_A (wX ad) s.heap.size = A at hD hZ ⊢
  have hA : ∀ q : Nat, s.heap.size ≤ q → A q := fun q h => by rw [← hAe]; exact Or.inr h
  have hS : va_S A s.heap s.heap [] := va_S.rf
  have hP : va_P D vwCl (wX ad) s.heap := hP
  have hD : va_D A (wX ad) := hD
  have hl := lv_entry ([.ref (ad 5)]) (n := 2) (Nat.le_of_ble_eq_true rfl)
  rw [lg_entry_eq]
  generalize (lg_sl ([.ref (ad 5)]) ++ List.replicate (2 - (lg_sl ([.ref (ad 5)])).length) Slot.unset).toArray = ls at hl ⊢
  have hl : lv_has ls 2 [(0, .ref (ad 5))] := hl
  refine lv_iconst (v := 0) hx hb dX3_plan_0 (by decide) ?_
  refine lv_istore_n (lv' := [(1, .int 0), (0, .ref (ad 5))]) hx hb dX3_plan_1 rfl hl (by decide) rfl (fun ls hl => ?_)
  refine lv_iload_n hx hb dX3_plan_2 rfl (lv_at hl 0 rfl) ?_
  refine lv_aload_n hx hb dX3_plan_3 rfl (lv_at hl 1 rfl) ?_
  refine va_get (D := D) (ci := 8) (v := .ref (ad 1)) (C := RX3) (T := TX3) (N := 9) hx hb hts hin_RX3 hown hK hP 5 rfl rfl 0 (by decide) (hts (.fieldLink RX3 34 "Popupwright$Hands" "book" "LPopupwright$Book;") (by decide +kernel)) (fun _ h9 => h9) rfl dX3_plan_4 ?_
  refine va_get (D := D) (ci := 5) (v := .int 0) (C := RX0) (T := TX0) (N := 11) hx hb hts hin_RX0 hown hK hP 1 rfl rfl 9 (by decide) (hts (.fieldLink RX3 38 "Popupwright$Book" "count" "I") (by decide +kernel)) (fun _ h9 => h9) rfl dX3_plan_7 ?_
  refine lv_icmp_ge (tgt := 56) hx hb dX3_plan_10 (by decide) (fun _ => ?_) (fun h_ => absurd (by decide) h_)
  refine lv_aload_n hx hb dX3_plan_56 rfl (lv_at hl 1 rfl) ?_
  refine kx_v (wc := wX ad) (wr := []) hP hD hS hA [0, 1, 2, 3, 4, 5] [] rfl rfl (by decide) (by decide) (va_runV (As := []) (rest := []) ⟨hx, hb, hml, hown, hts⟩ (c_addWaitsByOthers l D de ad s.heap.size) (cwV 0 hts gX3_plan_X3_addWaitsByOthers rfl rfl rfl (by decide +kernel) ⟨Nat.le_of_ble_eq_true rfl, Nat.le_of_ble_eq_true rfl⟩) ⟨px_blind, (va_recv hK hP (ci := 8) (q0 := 5) rfl rfl), (px_pre hP hD hK hS hA hTK hZ [0, 1, 2, 3, 4, 5] rfl rfl (by decide) [] rfl)⟩ rfl rfl hl.1 rfl (lv_room (Nat.le_of_ble_eq_true rfl)) dX3_plan_57 ⟨(Nat.le_of_ble_eq_true rfl), (Nat.le_of_ble_eq_true rfl)⟩) (fun u H locs hw hP hD hK1 hS => ?_)
  have hP : va_P D vwCl (wX ad) H := hP
  have hD : va_D A (wX ad) := hD
  refine lv_aload_n hx hb dX3_plan_60 rfl (lv_at hl 1 rfl) ?_
  refine kx_v (wc := wX ad) (wr := []) hP hD hS hA [0, 1, 2, 3, 4, 5] [] rfl rfl (by decide) (by decide) (va_runV (As := []) (rest := []) ⟨hx, hb, hml, hown, hts⟩ (c_countWaiters l D de ad H.size) (cwV 0 hts gX3_plan_X3_countWaiters rfl rfl rfl (by decide +kernel) ⟨Nat.le_of_ble_eq_true rfl, Nat.le_of_ble_eq_true rfl⟩) ⟨px_blind, (va_recv hK hP (ci := 8) (q0 := 5) rfl rfl), (px_pre hP hD hK hS hA hTK hZ [0, 1, 2, 3, 4, 5] rfl rfl (by decide) [] rfl)⟩ rfl rfl hl.1 rfl (lv_room (Nat.le_of_ble_eq_true rfl)) dX3_plan_61 ⟨(Nat.le_of_ble_eq_true rfl), (Nat.le_of_ble_eq_true rfl)⟩) (fun u H locs hw hP hD hK1 hS => ?_)
  have hP : va_P D vwCl (wX ad) H := hP
  have hD : va_D A (wX ad) := hD
  refine lv_aload_n hx hb dX3_plan_64 rfl (lv_at hl 1 rfl) ?_
  refine kx_v (wc := wX ad) (wr := []) hP hD hS hA [0, 1, 2, 3, 4, 5] [] rfl rfl (by decide) (by decide) (va_runV (As := []) (rest := []) ⟨hx, hb, hml, hown, hts⟩ (c_glueAll l D de ad H.size) (cwV 0 hts gX3_plan_X3_glueAll rfl rfl rfl (by decide +kernel) ⟨Nat.le_of_ble_eq_true rfl, Nat.le_of_ble_eq_true rfl⟩) ⟨px_blind, (va_recv hK hP (ci := 8) (q0 := 5) rfl rfl), (px_pre hP hD hK hS hA hTK hZ [0, 1, 2, 3, 4, 5] rfl rfl (by decide) [] rfl)⟩ rfl rfl hl.1 rfl (lv_room (Nat.le_of_ble_eq_true rfl)) dX3_plan_65 ⟨(Nat.le_of_ble_eq_true rfl), (Nat.le_of_ble_eq_true rfl)⟩) (fun u H locs hw hP hD hK1 hS => ?_)
  have hP : va_P D vwCl (wX ad) H := hP
  have hD : va_D A (wX ad) := hD
  refine W.widen (k := 0) (n := 0) (Nat.le_of_ble_eq_true rfl) (Nat.le_of_ble_eq_true rfl) ?_
  have hP9 := hP.sub (ws' := (wX ad)) [0, 1, 2, 3, 4, 5] rfl
  have hD9 := hD.sub (ws' := (wX ad)) [0, 1, 2, 3, 4, 5] (by decide) rfl
  have hK9 := hK.sub (tys' := []) [] rfl
  exact W.vret hx hb hr (fun t ht hW => ⟨⟨(), rfl, trivial, ⟨by rw [ht]; exact hP9, va_K.moved hW.alike hK9, hD9⟩⟩, hS.F ht⟩) hS.2.2 dX3_plan_68 hlocks

set_option maxHeartbeats 4000000 in
set_option maxRecDepth 100000 in
theorem c_allMinutes (l : Launch) (D : va_G) (de : Nat) (ad : Nat → Nat) (sz : Nat) : Met l yX3_allMinutes wsX3_allMinutes ({ frames := 0, cells := 0, slots := 0, locals := 0 } : Room) (va_Pc [.ref (ad 5)] (PX de D ([]) (wX ad) sz)) (va_Qi (fun (r : Int32) (u : Unit) => r = 0) (fun (_ : Unit) t => PW D ([]) (va_A (wX ad) sz) (wX ad) t) (va_A (wX ad) sz)) 0 0 (va_A (wX ad) sz) := by
  refine Met.ofW (cc := cX3_allMinutes) (maxL := 3) (ret := (some .int)) (by decide) rfl ?_
  intro p e s m args below meth c s₁ B hml hv
  obtain ⟨rfl, hsz, hP, hK, hD0, hTK, hZ⟩ := hv
  have hx := B.exec
  have hb := B.bytes
  have hr := B.returns
  have hts := atoms_spec (ws := wsX3_allMinutes) B.pre
  have hown : s.vm.findClass RX3 = some m.cls := findClass_of_methodNamed B.named
  have hlocks := B.notSynchronized
  have hin_RX0 : ∀ w ∈ u_ws RX0 TX0 11, w ∈ wsX3_allMinutes := by decide +kernel
  have hin_RX3 : ∀ w ∈ u_ws RX3 TX3 9, w ∈ wsX3_allMinutes := by decide +kernel
  subst hsz
  have hD := hD0.self (sz := s.heap.size)
  generalize hAe : va_A (wX ad) s.heap.size = A at hD hZ ⊢
  have hA : ∀ q : Nat, s.heap.size ≤ q → A q := fun q h => by rw [← hAe]; exact Or.inr h
  have hS : va_S A s.heap s.heap [] := va_S.rf
  have hP : va_P D vwCl (wX ad) s.heap := hP
  have hD : va_D A (wX ad) := hD
  have hl := lv_entry ([.ref (ad 5)]) (n := 3) (Nat.le_of_ble_eq_true rfl)
  rw [lg_entry_eq]
  generalize (lg_sl ([.ref (ad 5)]) ++ List.replicate (3 - (lg_sl ([.ref (ad 5)])).length) Slot.unset).toArray = ls at hl ⊢
  have hl : lv_has ls 3 [(0, .ref (ad 5))] := hl
  refine lv_iconst (v := 0) hx hb dX3_allMinutes_0 (by decide) ?_
  refine lv_istore_n (lv' := [(1, .int 0), (0, .ref (ad 5))]) hx hb dX3_allMinutes_1 rfl hl (by decide) rfl (fun ls hl => ?_)
  refine lv_iconst (v := 0) hx hb dX3_allMinutes_2 (by decide) ?_
  refine lv_istore_n (lv' := [(2, .int 0), (1, .int 0), (0, .ref (ad 5))]) hx hb dX3_allMinutes_3 rfl hl (by decide) rfl (fun ls hl => ?_)
  refine lv_iload_n hx hb dX3_allMinutes_4 rfl (lv_at hl 0 rfl) ?_
  refine lv_aload_n hx hb dX3_allMinutes_5 rfl (lv_at hl 2 rfl) ?_
  refine va_get (D := D) (ci := 8) (v := .ref (ad 1)) (C := RX3) (T := TX3) (N := 9) hx hb hts hin_RX3 hown hK hP 5 rfl rfl 0 (by decide) (hts (.fieldLink RX3 34 "Popupwright$Hands" "book" "LPopupwright$Book;") (by decide +kernel)) (fun _ h9 => h9) rfl dX3_allMinutes_6 ?_
  refine va_get (D := D) (ci := 5) (v := .int 0) (C := RX0) (T := TX0) (N := 11) hx hb hts hin_RX0 hown hK hP 1 rfl rfl 9 (by decide) (hts (.fieldLink RX3 38 "Popupwright$Book" "count" "I") (by decide +kernel)) (fun _ h9 => h9) rfl dX3_allMinutes_9 ?_
  refine lv_icmp_ge (tgt := 36) hx hb dX3_allMinutes_12 (by decide) (fun _ => ?_) (fun h_ => absurd (by decide) h_)
  refine lv_iload_n hx hb dX3_allMinutes_36 rfl (lv_at hl 1 rfl) ?_
  refine W.widen (k := 0) (n := 0) (Nat.le_of_ble_eq_true rfl) (Nat.le_of_ble_eq_true rfl) ?_
  have hP9 := hP.sub (ws' := (wX ad)) [0, 1, 2, 3, 4, 5] rfl
  have hD9 := hD.sub (ws' := (wX ad)) [0, 1, 2, 3, 4, 5] (by decide) rfl
  have hK9 := hK.sub (tys' := []) [] rfl
  exact W.iret (v := 0) hx hb hr (fun t ht hW => ⟨⟨0, (), rfl, rfl, ⟨by rw [ht]; exact hP9, va_K.moved hW.alike hK9, hD9⟩⟩, hS.F ht⟩) hS.2.2 dX3_allMinutes_37 hlocks

set_option maxHeartbeats 4000000 in
set_option maxRecDepth 100000 in
theorem c_leastGreatest (l : Launch) (D : va_G) (de : Nat) (ad : Nat → Nat) (p0 : Int32) (sz : Nat) : Met l yX3_leastGreatest wsX3_leastGreatest ({ frames := 1, cells := 0, slots := 0, locals := 22 } : Room) (va_Pc [.ref (ad 5), .int p0] (PX de D ([]) (wX ad) sz)) (va_Qi (fun (r : Int32) (u : Unit) => r = 0) (fun (_ : Unit) t => PW D ([]) (va_A (wX ad) sz) (wX ad) t) (va_A (wX ad) sz)) 0 0 (va_A (wX ad) sz) := by
  refine Met.ofW (cc := cX3_leastGreatest) (maxL := 5) (ret := (some .int)) (by decide) rfl ?_
  intro p e s m args below meth c s₁ B hml hv
  obtain ⟨rfl, hsz, hP, hK, hD0, hTK, hZ⟩ := hv
  have hx := B.exec
  have hb := B.bytes
  have hr := B.returns
  have hts := atoms_spec (ws := wsX3_leastGreatest) B.pre
  have hown : s.vm.findClass RX3 = some m.cls := findClass_of_methodNamed B.named
  have hlocks := B.notSynchronized
  have hin_RX0 : ∀ w ∈ u_ws RX0 TX0 11, w ∈ wsX3_leastGreatest := by decide +kernel
  have hin_RX3 : ∀ w ∈ u_ws RX3 TX3 9, w ∈ wsX3_leastGreatest := by decide +kernel
  subst hsz
  have hD := hD0.self (sz := s.heap.size)
  generalize hAe : va_A (wX ad) s.heap.size = A at hD hZ ⊢
  have hA : ∀ q : Nat, s.heap.size ≤ q → A q := fun q h => by rw [← hAe]; exact Or.inr h
  have hS : va_S A s.heap s.heap [] := va_S.rf
  have hP : va_P D vwCl (wX ad) s.heap := hP
  have hD : va_D A (wX ad) := hD
  have hl := lv_entry ([.ref (ad 5), .int p0]) (n := 5) (Nat.le_of_ble_eq_true rfl)
  rw [lg_entry_eq]
  generalize (lg_sl ([.ref (ad 5), .int p0]) ++ List.replicate (5 - (lg_sl ([.ref (ad 5), .int p0])).length) Slot.unset).toArray = ls at hl ⊢
  have hl : lv_has ls 5 [(0, .ref (ad 5)), (1, .int p0)] := hl
  refine lv_iconst (v := 0) hx hb dX3_leastGreatest_0 (by decide) ?_
  refine lv_istore_n (lv' := [(2, .int 0), (0, .ref (ad 5)), (1, .int p0)]) hx hb dX3_leastGreatest_1 rfl hl (by decide) rfl (fun ls hl => ?_)
  refine lv_iconst (v := 0) hx hb dX3_leastGreatest_2 (by decide) ?_
  refine lv_istore_n (lv' := [(3, .int 0), (2, .int 0), (0, .ref (ad 5)), (1, .int p0)]) hx hb dX3_leastGreatest_3 rfl hl (by decide) rfl (fun ls hl => ?_)
  refine lv_iload_n hx hb dX3_leastGreatest_4 rfl (lv_at hl 0 rfl) ?_
  refine lv_aload_n hx hb dX3_leastGreatest_5 rfl (lv_at hl 2 rfl) ?_
  refine va_get (D := D) (ci := 8) (v := .ref (ad 1)) (C := RX3) (T := TX3) (N := 9) hx hb hts hin_RX3 hown hK hP 5 rfl rfl 0 (by decide) (hts (.fieldLink RX3 34 "Popupwright$Hands" "book" "LPopupwright$Book;") (by decide +kernel)) (fun _ h9 => h9) rfl dX3_leastGreatest_6 ?_
  refine va_get (D := D) (ci := 5) (v := .int 0) (C := RX0) (T := TX0) (N := 11) hx hb hts hin_RX0 hown hK hP 1 rfl rfl 9 (by decide) (hts (.fieldLink RX3 38 "Popupwright$Book" "count" "I") (by decide +kernel)) (fun _ h9 => h9) rfl dX3_leastGreatest_9 ?_
  refine lv_icmp_ge (tgt := 38) hx hb dX3_leastGreatest_12 (by decide) (fun _ => ?_) (fun h_ => absurd (by decide) h_)
  refine lv_aload_n hx hb dX3_leastGreatest_38 rfl (lv_at hl 2 rfl) ?_
  refine kx_i (wc := wX ad) (wr := []) hP hD hS hA [0, 1, 2, 3, 4, 5] [] rfl rfl (by decide) (by decide) (va_runV (As := []) (rest := []) ⟨hx, hb, hml, hown, hts⟩ (c_allMinutes l D de ad s.heap.size) (cwV 0 hts gX3_leastGreatest_X3_allMinutes rfl rfl rfl (by decide +kernel) ⟨Nat.le_of_ble_eq_true rfl, Nat.le_of_ble_eq_true rfl⟩) ⟨px_blind, (va_recv hK hP (ci := 8) (q0 := 5) rfl rfl), (px_pre hP hD hK hS hA hTK hZ [0, 1, 2, 3, 4, 5] rfl rfl (by decide) [] rfl)⟩ rfl rfl hl.1 rfl (lv_room (Nat.le_of_ble_eq_true rfl)) dX3_leastGreatest_39 ⟨(Nat.le_of_ble_eq_true rfl), (Nat.le_of_ble_eq_true rfl)⟩) (fun r_1 u H locs hw hP hD hK1 hS => ?_)
  have hP : va_P D vwCl (wX ad) H := hP
  have hD : va_D A (wX ad) := hD
  obtain rfl : r_1 = 0 := hw
  refine lv_istore_n (lv' := [(3, .int 0), (2, .int 0), (0, .ref (ad 5)), (1, .int p0)]) hx hb dX3_leastGreatest_42 rfl hl (by decide) rfl (fun ls hl => ?_)
  refine lv_iload_n hx hb dX3_leastGreatest_43 rfl (lv_at hl 1 rfl) ?_
  refine lv_istore (lv' := [(4, .int 0), (3, .int 0), (2, .int 0), (0, .ref (ad 5)), (1, .int p0)]) hx hb dX3_leastGreatest_44 hl (by decide) rfl (fun ls hl => ?_)
  refine lv_iload hx hb dX3_leastGreatest_46 (lv_at hl 0 rfl) ?_
  refine lv_iload_n hx hb dX3_leastGreatest_48 rfl (lv_at hl 1 rfl) ?_
  refine lv_icmp_ge (tgt := 71) hx hb dX3_leastGreatest_49 (by decide) (fun _ => ?_) (fun h_ => absurd (by decide) h_)
  refine lv_iload_n hx hb dX3_leastGreatest_71 rfl (lv_at hl 1 rfl) ?_
  refine W.widen (k := 0) (n := 0) (Nat.le_of_ble_eq_true rfl) (Nat.le_of_ble_eq_true rfl) ?_
  have hP9 := hP.sub (ws' := (wX ad)) [0, 1, 2, 3, 4, 5] rfl
  have hD9 := hD.sub (ws' := (wX ad)) [0, 1, 2, 3, 4, 5] (by decide) rfl
  have hK9 := hK.sub (tys' := []) [] rfl
  exact W.iret (v := 0) hx hb hr (fun t ht hW => ⟨⟨0, (), rfl, rfl, ⟨by rw [ht]; exact hP9, va_K.moved hW.alike hK9, hD9⟩⟩, hS.F ht⟩) hS.2.2 dX3_leastGreatest_72 hlocks

set_option maxHeartbeats 4000000 in
set_option maxRecDepth 100000 in
theorem c_waitsTillDry (l : Launch) (D : va_G) (de : Nat) (ad : Nat → Nat) (sz : Nat) : Met l yX3_waitsTillDry wsX3_waitsTillDry ({ frames := 0, cells := 0, slots := 0, locals := 0 } : Room) (va_Pc [.ref (ad 5)] (PX de D ([]) (wX ad) sz)) (va_Qi (fun (r : Int32) (u : Unit) => r = 1) (fun (_ : Unit) t => PW D ([]) (va_A (wX ad) sz) (wX ad) t) (va_A (wX ad) sz)) 0 0 (va_A (wX ad) sz) := by
  refine Met.ofW (cc := cX3_waitsTillDry) (maxL := 4) (ret := (some .boolean)) (by decide) rfl ?_
  intro p e s m args below meth c s₁ B hml hv
  obtain ⟨rfl, hsz, hP, hK, hD0, hTK, hZ⟩ := hv
  have hx := B.exec
  have hb := B.bytes
  have hr := B.returns
  have hts := atoms_spec (ws := wsX3_waitsTillDry) B.pre
  have hown : s.vm.findClass RX3 = some m.cls := findClass_of_methodNamed B.named
  have hlocks := B.notSynchronized
  have hin_RX0 : ∀ w ∈ u_ws RX0 TX0 11, w ∈ wsX3_waitsTillDry := by decide +kernel
  have hin_RX3 : ∀ w ∈ u_ws RX3 TX3 9, w ∈ wsX3_waitsTillDry := by decide +kernel
  subst hsz
  have hD := hD0.self (sz := s.heap.size)
  generalize hAe : va_A (wX ad) s.heap.size = A at hD hZ ⊢
  have hA : ∀ q : Nat, s.heap.size ≤ q → A q := fun q h => by rw [← hAe]; exact Or.inr h
  have hS : va_S A s.heap s.heap [] := va_S.rf
  have hP : va_P D vwCl (wX ad) s.heap := hP
  have hD : va_D A (wX ad) := hD
  have hl := lv_entry ([.ref (ad 5)]) (n := 4) (Nat.le_of_ble_eq_true rfl)
  rw [lg_entry_eq]
  generalize (lg_sl ([.ref (ad 5)]) ++ List.replicate (4 - (lg_sl ([.ref (ad 5)])).length) Slot.unset).toArray = ls at hl ⊢
  have hl : lv_has ls 4 [(0, .ref (ad 5))] := hl
  refine lv_iconst (v := 0) hx hb dX3_waitsTillDry_0 (by decide) ?_
  refine lv_istore_n (lv' := [(1, .int 0), (0, .ref (ad 5))]) hx hb dX3_waitsTillDry_1 rfl hl (by decide) rfl (fun ls hl => ?_)
  refine lv_iload_n hx hb dX3_waitsTillDry_2 rfl (lv_at hl 0 rfl) ?_
  refine lv_aload_n hx hb dX3_waitsTillDry_3 rfl (lv_at hl 1 rfl) ?_
  refine va_get (D := D) (ci := 8) (v := .ref (ad 1)) (C := RX3) (T := TX3) (N := 9) hx hb hts hin_RX3 hown hK hP 5 rfl rfl 0 (by decide) (hts (.fieldLink RX3 34 "Popupwright$Hands" "book" "LPopupwright$Book;") (by decide +kernel)) (fun _ h9 => h9) rfl dX3_waitsTillDry_4 ?_
  refine va_get (D := D) (ci := 5) (v := .int 0) (C := RX0) (T := TX0) (N := 11) hx hb hts hin_RX0 hown hK hP 1 rfl rfl 9 (by decide) (hts (.fieldLink RX3 38 "Popupwright$Book" "count" "I") (by decide +kernel)) (fun _ h9 => h9) rfl dX3_waitsTillDry_7 ?_
  refine lv_icmp_ge (tgt := 88) hx hb dX3_waitsTillDry_10 (by decide) (fun _ => ?_) (fun h_ => absurd (by decide) h_)
  refine lv_iconst (v := 1) hx hb dX3_waitsTillDry_88 (by decide) ?_
  refine W.widen (k := 0) (n := 0) (Nat.le_of_ble_eq_true rfl) (Nat.le_of_ble_eq_true rfl) ?_
  have hP9 := hP.sub (ws' := (wX ad)) [0, 1, 2, 3, 4, 5] rfl
  have hD9 := hD.sub (ws' := (wX ad)) [0, 1, 2, 3, 4, 5] (by decide) rfl
  have hK9 := hK.sub (tys' := []) [] rfl
  exact W.zret (v := 1) hx hb hr (by decide) (fun t ht hW => ⟨⟨1, (), rfl, rfl, ⟨by rw [ht]; exact hP9, va_K.moved hW.alike hK9, hD9⟩⟩, hS.F ht⟩) hS.2.2 dX3_waitsTillDry_89 hlocks

set_option maxHeartbeats 4000000 in
set_option maxRecDepth 100000 in
theorem c_firstStepForAll (l : Launch) (D : va_G) (de : Nat) (ad : Nat → Nat) (sz : Nat) : Met l yX4_firstStepForAll wsX4_firstStepForAll ({ frames := 0, cells := 0, slots := 0, locals := 0 } : Room) (va_Pc [.ref (ad 2)] (PX de D ([]) (wX ad) sz)) (va_Qi (fun (r : Int32) (u : Unit) => r = -1) (fun (_ : Unit) t => PW D ([]) (va_A (wX ad) sz) (wX ad) t) (va_A (wX ad) sz)) 0 0 (va_A (wX ad) sz) := by
  refine Met.ofW (cc := cX4_firstStepForAll) (maxL := 2) (ret := (some .int)) (by decide) rfl ?_
  intro p e s m args below meth c s₁ B hml hv
  obtain ⟨rfl, hsz, hP, hK, hD0, hTK, hZ⟩ := hv
  have hx := B.exec
  have hb := B.bytes
  have hr := B.returns
  have hts := atoms_spec (ws := wsX4_firstStepForAll) B.pre
  have hown : s.vm.findClass RX4 = some m.cls := findClass_of_methodNamed B.named
  have hlocks := B.notSynchronized
  have hin_RX4 : ∀ w ∈ u_ws RX4 TX4 3, w ∈ wsX4_firstStepForAll := by decide +kernel
  subst hsz
  have hD := hD0.self (sz := s.heap.size)
  generalize hAe : va_A (wX ad) s.heap.size = A at hD hZ ⊢
  have hA : ∀ q : Nat, s.heap.size ≤ q → A q := fun q h => by rw [← hAe]; exact Or.inr h
  have hS : va_S A s.heap s.heap [] := va_S.rf
  have hP : va_P D vwCl (wX ad) s.heap := hP
  have hD : va_D A (wX ad) := hD
  have hl := lv_entry ([.ref (ad 2)]) (n := 2) (Nat.le_of_ble_eq_true rfl)
  rw [lg_entry_eq]
  generalize (lg_sl ([.ref (ad 2)]) ++ List.replicate (2 - (lg_sl ([.ref (ad 2)])).length) Slot.unset).toArray = ls at hl ⊢
  have hl : lv_has ls 2 [(0, .ref (ad 2))] := hl
  refine lv_aload_n hx hb dX4_firstStepForAll_0 rfl (lv_at hl 0 rfl) ?_
  refine va_get (D := D) (ci := 9) (v := .int 0) (C := RX4) (T := TX4) (N := 3) hx hb hts hin_RX4 hown hK hP 2 rfl rfl 2 (by decide) (hts (.fieldLink RX4 22 "Popupwright$Layers" "count" "I") (by decide +kernel)) (fun _ h9 => h9) rfl dX4_firstStepForAll_1 ?_
  refine lv_if_ne (tgt := 9) hx hb dX4_firstStepForAll_4 (by decide) (fun h_ => absurd (by decide) h_) (fun _ => ?_)
  refine lv_iconst (v := (-1)) hx hb dX4_firstStepForAll_7 (by decide) ?_
  refine W.widen (k := 0) (n := 0) (Nat.le_of_ble_eq_true rfl) (Nat.le_of_ble_eq_true rfl) ?_
  have hP9 := hP.sub (ws' := (wX ad)) [0, 1, 2, 3, 4, 5] rfl
  have hD9 := hD.sub (ws' := (wX ad)) [0, 1, 2, 3, 4, 5] (by decide) rfl
  have hK9 := hK.sub (tys' := []) [] rfl
  exact W.iret (v := (-1)) hx hb hr (fun t ht hW => ⟨⟨(-1), (), rfl, rfl, ⟨by rw [ht]; exact hP9, va_K.moved hW.alike hK9, hD9⟩⟩, hS.F ht⟩) hS.2.2 dX4_firstStepForAll_8 hlocks

set_option maxHeartbeats 4000000 in
set_option maxRecDepth 100000 in
theorem c_layNets (l : Launch) (D : va_G) (de : Nat) (ad : Nat → Nat) (sz : Nat) : Met l yX11_layNets wsX11_layNets ({ frames := 2, cells := 0, slots := 0, locals := 45 } : Room) (va_Pc [.ref (ad 0)] (PX de D ([]) (wX ad) sz)) (va_Qv (fun (u : Unit) => True) (fun (_ : Unit) t => PW D ([]) (va_A (wX ad) sz) (wX ad) t) (va_A (wX ad) sz)) 0 0 (va_A (wX ad) sz) := by
  refine Met.ofW (cc := cX11_layNets) (maxL := 1) (ret := none) (by decide) rfl ?_
  intro p e s m args below meth c s₁ B hml hv
  obtain ⟨rfl, hsz, hP, hK, hD0, hTK, hZ⟩ := hv
  have hx := B.exec
  have hb := B.bytes
  have hr := B.returns
  have hts := atoms_spec (ws := wsX11_layNets) B.pre
  have hown : s.vm.findClass RX11 = some m.cls := findClass_of_methodNamed B.named
  have hlocks := B.notSynchronized
  have hin_RX11 : ∀ w ∈ u_ws RX11 TX11 6, w ∈ wsX11_layNets := by decide +kernel
  subst hsz
  have hD := hD0.self (sz := s.heap.size)
  generalize hAe : va_A (wX ad) s.heap.size = A at hD hZ ⊢
  have hA : ∀ q : Nat, s.heap.size ≤ q → A q := fun q h => by rw [← hAe]; exact Or.inr h
  have hS : va_S A s.heap s.heap [] := va_S.rf
  have hP : va_P D vwCl (wX ad) s.heap := hP
  have hD : va_D A (wX ad) := hD
  have hl := lv_entry ([.ref (ad 0)]) (n := 1) (Nat.le_of_ble_eq_true rfl)
  rw [lg_entry_eq]
  generalize (lg_sl ([.ref (ad 0)]) ++ List.replicate (1 - (lg_sl ([.ref (ad 0)])).length) Slot.unset).toArray = ls at hl ⊢
  have hl : lv_has ls 1 [(0, .ref (ad 0))] := hl
  refine lv_aload_n hx hb dX11_layNets_0 rfl (lv_at hl 0 rfl) ?_
  refine va_get (D := D) (ci := 16) (v := .ref (ad 4)) (C := RX11) (T := TX11) (N := 6) hx hb hts hin_RX11 hown hK hP 0 rfl rfl 3 (by decide) (hts (.fieldLink RX11 35 "Popupwright" "nets" "LPopupwright$Nets;") (by decide +kernel)) (fun _ h9 => h9) rfl dX11_layNets_1 ?_
  refine kx_i (wc := wX ad) (wr := []) hP hD hS hA [0, 1, 2, 3, 4, 5] [] rfl rfl (by decide) (by decide) (va_runV (As := []) (rest := []) ⟨hx, hb, hml, hown, hts⟩ (c_layAll l D de ad s.heap.size) (cwV 0 hts gX11_layNets_X5_layAll rfl rfl rfl (by decide +kernel) ⟨Nat.le_of_ble_eq_true rfl, Nat.le_of_ble_eq_true rfl⟩) ⟨px_blind, (va_recv hK hP (ci := 10) (q0 := 4) rfl rfl), (px_pre hP hD hK hS hA hTK hZ [0, 1, 2, 3, 4, 5] rfl rfl (by decide) [] rfl)⟩ rfl rfl hl.1 rfl (lv_room (Nat.le_of_ble_eq_true rfl)) dX11_layNets_4 ⟨(Nat.le_of_ble_eq_true rfl), (Nat.le_of_ble_eq_true rfl)⟩) (fun r_1 u H locs hw hP hD hK1 hS => ?_)
  have hP : va_P D vwCl (wX ad) H := hP
  have hD : va_D A (wX ad) := hD
  obtain rfl : r_1 = 1 := hw
  refine lv_if_ne (tgt := 21) hx hb dX11_layNets_7 (by decide) (fun _ => ?_) (fun h_ => absurd h_ (by decide))
  refine W.widen (k := 0) (n := 0) (Nat.le_of_ble_eq_true rfl) (Nat.le_of_ble_eq_true rfl) ?_
  have hP9 := hP.sub (ws' := (wX ad)) [0, 1, 2, 3, 4, 5] rfl
  have hD9 := hD.sub (ws' := (wX ad)) [0, 1, 2, 3, 4, 5] (by decide) rfl
  have hK9 := hK.sub (tys' := []) [] rfl
  exact W.vret hx hb hr (fun t ht hW => ⟨⟨(), rfl, trivial, ⟨by rw [ht]; exact hP9, va_K.moved hW.alike hK9, hD9⟩⟩, hS.F ht⟩) hS.2.2 dX11_layNets_21 hlocks

set_option maxHeartbeats 4000000 in
set_option maxRecDepth 100000 in
theorem c_alongOf (l : Launch) (D : va_G) (de : Nat) (p0 : Int32) (sz : Nat) : Met l yX11_alongOf wsX11_alongOf ({ frames := 0, cells := 0, slots := 0, locals := 0 } : Room) (va_Pc [.int p0] (PX de D ([]) ([]) sz)) (va_Qi (fun (r : Int32) (u : Unit) => True) (fun (_ : Unit) t => PW D ([]) (va_A ([]) sz) ([]) t) (va_A ([]) sz)) 0 0 (va_A ([]) sz) := by
  refine Met.ofW (cc := cX11_alongOf) (maxL := 1) (ret := (some .int)) (by decide) rfl ?_
  intro p e s m args below meth c s₁ B hml hv
  obtain ⟨rfl, hsz, hP, hK, hD0, hTK, hZ⟩ := hv
  have hx := B.exec
  have hb := B.bytes
  have hr := B.returns
  have hts := atoms_spec (ws := wsX11_alongOf) B.pre
  have hown : s.vm.findClass RX11 = some m.cls := findClass_of_methodNamed B.named
  have hlocks := B.notSynchronized
  subst hsz
  have hD := hD0.self (sz := s.heap.size)
  generalize hAe : va_A ([]) s.heap.size = A at hD hZ ⊢
  have hA : ∀ q : Nat, s.heap.size ≤ q → A q := fun q h => by rw [← hAe]; exact Or.inr h
  have hS : va_S A s.heap s.heap [] := va_S.rf
  have hl := lv_entry ([.int p0]) (n := 1) (Nat.le_of_ble_eq_true rfl)
  rw [lg_entry_eq]
  generalize (lg_sl ([.int p0]) ++ List.replicate (1 - (lg_sl ([.int p0])).length) Slot.unset).toArray = ls at hl ⊢
  have hl : lv_has ls 1 [(0, .int p0)] := hl
  obtain ⟨t9, f9, hZ9, hT9⟩ := hZ.2.2.2.2
  refine lv_iload_n hx hb dX11_alongOf_0 rfl (lv_at hl 0 rfl) ?_
  refine lv_if_lt (tgt := 20) hx hb dX11_alongOf_1 (by decide) (fun c_1 => ?_) (fun c_1 => ?_)
  · refine lv_iconst (v := 0) hx hb dX11_alongOf_20 (by decide) ?_
    refine W.widen (k := 0) (n := 0) (Nat.le_of_ble_eq_true rfl) (Nat.le_of_ble_eq_true rfl) ?_
    have hP9 := hP.sub (ws' := ([])) [] rfl
    have hD9 := hD.sub (ws' := ([])) [] (by decide) rfl
    have hK9 := hK.sub (tys' := []) [] rfl
    exact W.iret (v := 0) hx hb hr (fun t ht hW => ⟨⟨0, (), rfl, trivial, ⟨by rw [ht]; exact hP9, va_K.moved hW.alike hK9, hD9⟩⟩, hS.F ht⟩) hS.2.2 dX11_alongOf_21 hlocks
  · refine lv_iload_n hx hb dX11_alongOf_4 rfl (lv_at hl 0 rfl) ?_
    refine va_gets (v := .ref t9) hx hb hZ9 hS hown (hts (.fieldLink RX11 503 "Popupwright" "ALONG" "[I") (by decide +kernel)) (fun _ h9 => h9) dX11_alongOf_5 ?_
    refine va_tlen hx hb hT9 hS (v := 19) (by decide) dX11_alongOf_8 ?_
    refine lv_icmp_ge (tgt := 20) hx hb dX11_alongOf_9 (by decide) (fun c_9 => ?_) (fun c_9 => ?_)
    · refine lv_iconst (v := 0) hx hb dX11_alongOf_20 (by decide) ?_
      refine W.widen (k := 0) (n := 0) (Nat.le_of_ble_eq_true rfl) (Nat.le_of_ble_eq_true rfl) ?_
      have hP9 := hP.sub (ws' := ([])) [] rfl
      have hD9 := hD.sub (ws' := ([])) [] (by decide) rfl
      have hK9 := hK.sub (tys' := []) [] rfl
      exact W.iret (v := 0) hx hb hr (fun t ht hW => ⟨⟨0, (), rfl, trivial, ⟨by rw [ht]; exact hP9, va_K.moved hW.alike hK9, hD9⟩⟩, hS.F ht⟩) hS.2.2 dX11_alongOf_21 hlocks
    · refine va_gets (v := .ref t9) hx hb hZ9 hS hown (hts (.fieldLink RX11 503 "Popupwright" "ALONG" "[I") (by decide +kernel)) (fun _ h9 => h9) dX11_alongOf_12 ?_
      refine lv_iload_n hx hb dX11_alongOf_15 rfl (lv_at hl 0 rfl) ?_
      refine va_ti hx hb hT9 hS (vp_in_cmp (by assumption) (by assumption)) (v := .int (f9 p0.toNatClampNeg)) rfl dX11_alongOf_16 ?_
      refine lv_goto (tgt := 21) hx hb dX11_alongOf_17 (by decide) ?_
      refine W.widen (k := 0) (n := 0) (Nat.le_of_ble_eq_true rfl) (Nat.le_of_ble_eq_true rfl) ?_
      have hP9 := hP.sub (ws' := ([])) [] rfl
      have hD9 := hD.sub (ws' := ([])) [] (by decide) rfl
      have hK9 := hK.sub (tys' := []) [] rfl
      exact W.iret (v := f9 p0.toNatClampNeg) hx hb hr (fun t ht hW => ⟨⟨f9 p0.toNatClampNeg, (), rfl, trivial, ⟨by rw [ht]; exact hP9, va_K.moved hW.alike hK9, hD9⟩⟩, hS.F ht⟩) hS.2.2 dX11_alongOf_21 hlocks

set_option maxHeartbeats 4000000 in
set_option maxRecDepth 100000 in
theorem c_seenAt (l : Launch) (D : va_G) (de : Nat) (ad : Nat → Nat) (p0 p1 p2 : Int32) (sz : Nat) : Met l yX4_seenAt wsX4_seenAt ({ frames := 1, cells := 0, slots := 0, locals := 20 } : Room) (va_Pc [.ref (ad 2), .int p0, .int p1, .int p2] (PX de D ([]) (wX ad) sz)) (va_Qi (fun (r : Int32) (u : Unit) => r = -3) (fun (_ : Unit) t => PW D ([]) (va_A (wX ad) sz) (wX ad) t) (va_A (wX ad) sz)) 0 0 (va_A (wX ad) sz) := by
  refine Met.ofW (cc := cX4_seenAt) (maxL := 13) (ret := (some .int)) (by decide) rfl ?_
  intro p e s m args below meth c s₁ B hml hv
  obtain ⟨rfl, hsz, hP, hK, hD0, hTK, hZ⟩ := hv
  have hx := B.exec
  have hb := B.bytes
  have hr := B.returns
  have hts := atoms_spec (ws := wsX4_seenAt) B.pre
  have hown : s.vm.findClass RX4 = some m.cls := findClass_of_methodNamed B.named
  have hlocks := B.notSynchronized
  have hin_RX0 : ∀ w ∈ u_ws RX0 TX0 11, w ∈ wsX4_seenAt := by decide +kernel
  have hin_RX4 : ∀ w ∈ u_ws RX4 TX4 3, w ∈ wsX4_seenAt := by decide +kernel
  subst hsz
  have hD := hD0.self (sz := s.heap.size)
  generalize hAe : va_A (wX ad) s.heap.size = A at hD hZ ⊢
  have hA : ∀ q : Nat, s.heap.size ≤ q → A q := fun q h => by rw [← hAe]; exact Or.inr h
  have hS : va_S A s.heap s.heap [] := va_S.rf
  have hP : va_P D vwCl (wX ad) s.heap := hP
  have hD : va_D A (wX ad) := hD
  have hl := lv_entry ([.ref (ad 2), .int p0, .int p1, .int p2]) (n := 13) (Nat.le_of_ble_eq_true rfl)
  rw [lg_entry_eq]
  generalize (lg_sl ([.ref (ad 2), .int p0, .int p1, .int p2]) ++ List.replicate (13 - (lg_sl ([.ref (ad 2), .int p0, .int p1, .int p2])).length) Slot.unset).toArray = ls at hl ⊢
  have hl : lv_has ls 13 [(0, .ref (ad 2)), (1, .int p0), (2, .int p1), (3, .int p2)] := hl
  refine lv_iload_n hx hb dX4_seenAt_0 rfl (lv_at hl 1 rfl) ?_
  refine kx_i (wc := []) (wr := wX ad) hP hD hS hA [] [0, 1, 2, 3, 4, 5] rfl rfl (by decide) (by decide) (va_runSN (As := [.int p0]) (rest := []) ⟨hx, hb, hml, hown, hts⟩ (c_alongOf l D de p0 s.heap.size) ⟨va_cnB (host := "Popupwright") 1 hts ggX4_seenAt_X11_alongOf rfl rfl rfl (hTK.2.2.2.2.1 (RX4, 44, yX11_alongOf, "Popupwright") (by decide +kernel)) (hts (.initialized RX11) (by decide +kernel)) (by decide +kernel) ⟨Nat.le_of_ble_eq_true rfl, Nat.le_of_ble_eq_true rfl⟩, (hts (.static yX11_alongOf) (by decide +kernel)), trivial⟩ ⟨px_blind, (px_pre hP hD hK hS hA hTK hZ [] rfl rfl (by decide) [] rfl)⟩ rfl rfl hl.1 rfl (lv_room (Nat.le_of_ble_eq_true rfl)) dX4_seenAt_1 ⟨(Nat.le_of_ble_eq_true rfl), (Nat.le_of_ble_eq_true rfl)⟩) (fun r_1 u H locs hw hP hD hK1 hS => ?_)
  have hP : va_P D vwCl (wX ad) H := hP
  have hD : va_D A (wX ad) := hD
  refine lv_i2l (v := r_1.toInt64) hx hb dX4_seenAt_4 rfl ?_
  refine lv_lstore (lv' := [(4, .long r_1.toInt64), (0, .ref (ad 2)), (1, .int p0), (2, .int p1), (3, .int p2)]) hx hb dX4_seenAt_5 hl (by decide) rfl (fun ls hl => ?_)
  refine lv_bipush (v := (-3)) hx hb dX4_seenAt_7 (by decide) ?_
  refine lv_istore (lv' := [(6, .int (-3)), (4, .long r_1.toInt64), (0, .ref (ad 2)), (1, .int p0), (2, .int p1), (3, .int p2)]) hx hb dX4_seenAt_9 hl (by decide) rfl (fun ls hl => ?_)
  refine lv_ldc2 (v := (-3)) hx hb hown (hts (.constantLong RX4 48 (-3)) (by decide +kernel)) dX4_seenAt_11 ?_
  refine lv_lstore (lv' := [(7, .long (-3)), (6, .int (-3)), (4, .long r_1.toInt64), (0, .ref (ad 2)), (1, .int p0), (2, .int p1), (3, .int p2)]) hx hb dX4_seenAt_14 hl (by decide) rfl (fun ls hl => ?_)
  refine lv_iconst (v := 0) hx hb dX4_seenAt_16 (by decide) ?_
  refine lv_istore (lv' := [(9, .int 0), (7, .long (-3)), (6, .int (-3)), (4, .long r_1.toInt64), (0, .ref (ad 2)), (1, .int p0), (2, .int p1), (3, .int p2)]) hx hb dX4_seenAt_17 hl (by decide) rfl (fun ls hl => ?_)
  refine lv_iload hx hb dX4_seenAt_19 (lv_at hl 0 rfl) ?_
  refine lv_iconst (v := 4) hx hb dX4_seenAt_21 (by decide) ?_
  refine lv_aload_n hx hb dX4_seenAt_22 rfl (lv_at hl 4 rfl) ?_
  refine va_get (D := D) (ci := 9) (v := .ref (ad 1)) (C := RX4) (T := TX4) (N := 3) hx hb hts hin_RX4 hown hK hP 2 rfl rfl 0 (by decide) (hts (.fieldLink RX4 17 "Popupwright$Layers" "book" "LPopupwright$Book;") (by decide +kernel)) (fun _ h9 => h9) rfl dX4_seenAt_23 ?_
  refine va_get (D := D) (ci := 5) (v := .int 0) (C := RX0) (T := TX0) (N := 11) hx hb hts hin_RX0 hown hK hP 1 rfl rfl 9 (by decide) (hts (.fieldLink RX4 50 "Popupwright$Book" "count" "I") (by decide +kernel)) (fun _ h9 => h9) rfl dX4_seenAt_26 ?_
  refine lv_imul hx hb dX4_seenAt_29 ?_
  refine lv_topi (fun y_ ey_ => ?_)
  obtain rfl : y_ = 0 := ey_.trans (by decide)
  refine lv_icmp_ge (tgt := 82) hx hb dX4_seenAt_30 (by decide) (fun _ => ?_) (fun h_ => absurd (by decide) h_)
  refine lv_aload_n hx hb dX4_seenAt_82 rfl (lv_at hl 4 rfl) ?_
  refine va_get (D := D) (ci := 9) (v := .ref (ad 1)) (C := RX4) (T := TX4) (N := 3) hx hb hts hin_RX4 hown hK hP 2 rfl rfl 0 (by decide) (hts (.fieldLink RX4 17 "Popupwright$Layers" "book" "LPopupwright$Book;") (by decide +kernel)) (fun _ h9 => h9) rfl dX4_seenAt_83 ?_
  refine va_get (D := D) (ci := 5) (v := .int 0) (C := RX0) (T := TX0) (N := 11) hx hb hts hin_RX0 hown hK hP 1 rfl rfl 6 (by decide) (hts (.fieldLink RX4 63 "Popupwright$Book" "isBegun" "Z") (by decide +kernel)) (fun _ h9 => h9) rfl dX4_seenAt_86 ?_
  refine lv_if_ne (tgt := 95) hx hb dX4_seenAt_89 (by decide) (fun h_ => absurd (by decide) h_) (fun _ => ?_)
  refine lv_bipush (v := (-3)) hx hb dX4_seenAt_92 (by decide) ?_
  refine W.widen (k := 0) (n := 0) (Nat.le_of_ble_eq_true rfl) (Nat.le_of_ble_eq_true rfl) ?_
  have hP9 := hP.sub (ws' := (wX ad)) [0, 1, 2, 3, 4, 5] rfl
  have hD9 := hD.sub (ws' := (wX ad)) [0, 1, 2, 3, 4, 5] (by decide) rfl
  have hK9 := hK.sub (tys' := []) [] rfl
  exact W.iret (v := (-3)) hx hb hr (fun t ht hW => ⟨⟨(-3), (), rfl, rfl, ⟨by rw [ht]; exact hP9, va_K.moved hW.alike hK9, hD9⟩⟩, hS.F ht⟩) hS.2.2 dX4_seenAt_94 hlocks

set_option maxHeartbeats 4000000 in
set_option maxRecDepth 100000 in
theorem c_addFold (l : Launch) (hst : l.stackTraces = false) (D : va_G) (de : Nat) (ad : Nat → Nat) (p0 p1 p2 p3 p4 : Int32) (sz : Nat) : vx_Met l yX11_addFold wsX11_addFold ({ frames := 7, cells := 1, slots := 6, locals := 104 } : Room) (va_Pc [.ref (ad 0), .int p0, .int p1, .int p2, .int p3, .int p4] (PX de D ([]) (wX ad) sz)) (va_Qi (fun (r : Int32) (u : Unit) => False) (fun (_ : Unit) t => PW D ([]) (va_A (wX ad) sz) (wX ad) t) (va_A (wX ad) sz)) (XN (fun E => (E = "java/lang/IndexOutOfBoundsException" ∧ True)) (va_A (wX ad) sz)) 1 6 (va_A (wX ad) sz) := by
  refine vx_ofW (cc := cX11_addFold) (maxL := 7) (ret := (some .int)) (by decide) rfl ?_
  intro p e s m args below meth c s₁ B hml hnt hv
  obtain ⟨rfl, hsz, hP, hK, hD0, hTK, hZ⟩ := hv
  have hx := B.exec
  have hb := B.bytes
  have hr := B.returns
  have hts := atoms_spec (ws := wsX11_addFold) B.pre
  have hown : s.vm.findClass RX11 = some m.cls := findClass_of_methodNamed B.named
  have hlocks := B.notSynchronized
  subst hsz
  have hD := hD0.self (sz := s.heap.size)
  generalize hAe : va_A (wX ad) s.heap.size = A at hD hZ ⊢
  have hA : ∀ q : Nat, s.heap.size ≤ q → A q := fun q h => by rw [← hAe]; exact Or.inr h
  have hS : va_S A s.heap s.heap [] := va_S.rf
  have hP : va_P D vwCl (wX ad) s.heap := hP
  have hD : va_D A (wX ad) := hD
  have hl := lv_entry ([.ref (ad 0), .int p0, .int p1, .int p2, .int p3, .int p4]) (n := 7) (Nat.le_of_ble_eq_true rfl)
  rw [lg_entry_eq]
  generalize (lg_sl ([.ref (ad 0), .int p0, .int p1, .int p2, .int p3, .int p4]) ++ List.replicate (7 - (lg_sl ([.ref (ad 0), .int p0, .int p1, .int p2, .int p3, .int p4])).length) Slot.unset).toArray = ls at hl ⊢
  have hl : lv_has ls 7 [(0, .ref (ad 0)), (1, .int p0), (2, .int p1), (3, .int p2), (4, .int p3), (5, .int p4)] := hl
  refine lv_aload_n hx hb dX11_addFold_0 rfl (lv_at hl 0 rfl) ?_
  refine lv_iload_n hx hb dX11_addFold_1 rfl (lv_at hl 1 rfl) ?_
  refine kt_q (wc := wX ad) (wr := []) hP hD hS hA [0, 1, 2, 3, 4, 5] [] rfl rfl (by decide) (by decide) (vx_runV (As := [.int p0]) (rest := []) ⟨hx, hb, hml, hown, hts⟩ (c_needCrease l hst D de ad p0 s.heap.size) (cwV 1 hts gX11_addFold_X11_needCrease rfl rfl rfl (by decide +kernel) ⟨Nat.le_of_ble_eq_true rfl, Nat.le_of_ble_eq_true rfl⟩) ⟨px_blind, (va_recv hK hP (ci := 16) (q0 := 0) rfl rfl), (px_pre hP hD hK hS hA hTK hZ [0, 1, 2, 3, 4, 5] rfl rfl (by decide) [] rfl)⟩ rfl rfl hl.1 rfl (lv_room (Nat.le_of_ble_eq_true rfl)) dX11_addFold_2 ⟨(Nat.le_of_ble_eq_true rfl), (Nat.le_of_ble_eq_true rfl)⟩) (fun E q9 H locs hE hq hP hD hS => ?_) (fun r_1 u H locs hw hP hD hK1 hS => hw.elim)
  exact kt_out hq hnt hlocks hS hE (Nat.le_of_ble_eq_true rfl) (Nat.le_of_ble_eq_true rfl)

set_option maxHeartbeats 4000000 in
set_option maxRecDepth 100000 in
theorem f_fold (l : Launch) (hst : l.stackTraces = false) (D : va_G) (de : Nat) (ad : Nat → Nat) (p0 p1 p2 p3 p4 : Int32) (sz : Nat) : vx_Met l yX11_fold wsX11_fold ({ frames := 8, cells := 1, slots := 6, locals := 130 } : Room) (va_Pc [.ref (ad 0), .int p0, .int p1, .int p2, .int p3, .int p4] (PX de D ([]) (wX ad) sz)) (va_Qi (fun (r : Int32) (u : Unit) => False) (fun u t => PW D ([]) (va_A (wX ad) sz) ([]) t) (va_A (wX ad) sz)) (XN (fun E => (E = "java/lang/IndexOutOfBoundsException" ∧ True)) (va_A (wX ad) sz)) 1 6 (va_A (wX ad) sz) := by
  refine vx_ofW (cc := cX11_fold) (maxL := 6) (ret := (some .int)) (by decide) rfl ?_
  intro p e s m args below meth c s₁ B hml hnt hv
  obtain ⟨rfl, hsz, hP, hK, hD0, hTK, hZ⟩ := hv
  have hx := B.exec
  have hb := B.bytes
  have hr := B.returns
  have hts := atoms_spec (ws := wsX11_fold) B.pre
  have hown : s.vm.findClass RX11 = some m.cls := findClass_of_methodNamed B.named
  have hlocks := B.notSynchronized
  subst hsz
  have hD := hD0.self (sz := s.heap.size)
  generalize hAe : va_A (wX ad) s.heap.size = A at hD hZ ⊢
  have hA : ∀ q : Nat, s.heap.size ≤ q → A q := fun q h => by rw [← hAe]; exact Or.inr h
  have hS : va_S A s.heap s.heap [] := va_S.rf
  have hP : va_P D vwCl (wX ad) s.heap := hP
  have hD : va_D A (wX ad) := hD
  have hl := lv_entry ([.ref (ad 0), .int p0, .int p1, .int p2, .int p3, .int p4]) (n := 6) (Nat.le_of_ble_eq_true rfl)
  rw [lg_entry_eq]
  generalize (lg_sl ([.ref (ad 0), .int p0, .int p1, .int p2, .int p3, .int p4]) ++ List.replicate (6 - (lg_sl ([.ref (ad 0), .int p0, .int p1, .int p2, .int p3, .int p4])).length) Slot.unset).toArray = ls at hl ⊢
  have hl : lv_has ls 6 [(0, .ref (ad 0)), (1, .int p0), (2, .int p1), (3, .int p2), (4, .int p3), (5, .int p4)] := hl
  refine lv_aload_n hx hb dX11_fold_0 rfl (lv_at hl 0 rfl) ?_
  refine lv_iload_n hx hb dX11_fold_1 rfl (lv_at hl 1 rfl) ?_
  refine lv_iload_n hx hb dX11_fold_2 rfl (lv_at hl 2 rfl) ?_
  refine lv_iload_n hx hb dX11_fold_3 rfl (lv_at hl 3 rfl) ?_
  refine lv_iload hx hb dX11_fold_4 (lv_at hl 4 rfl) ?_
  refine lv_iload hx hb dX11_fold_6 (lv_at hl 5 rfl) ?_
  refine kt_i (wc := wX ad) (wr := []) hP hD hS hA [0, 1, 2, 3, 4, 5] [] rfl rfl (by decide) (by decide) (vx_runV (As := [.int p0, .int p1, .int p2, .int p3, .int p4]) (rest := []) ⟨hx, hb, hml, hown, hts⟩ (c_addFold l hst D de ad p0 p1 p2 p3 p4 s.heap.size) (cwV 5 hts gX11_fold_X11_addFold rfl rfl rfl (by decide +kernel) ⟨Nat.le_of_ble_eq_true rfl, Nat.le_of_ble_eq_true rfl⟩) ⟨px_blind, (va_recv hK hP (ci := 16) (q0 := 0) rfl rfl), (px_pre hP hD hK hS hA hTK hZ [0, 1, 2, 3, 4, 5] rfl rfl (by decide) [] rfl)⟩ rfl rfl hl.1 rfl (lv_room (Nat.le_of_ble_eq_true rfl)) dX11_fold_8 ⟨(Nat.le_of_ble_eq_true rfl), (Nat.le_of_ble_eq_true rfl)⟩) (fun E q9 H locs hE hq hP hD hS => ?_) (fun r_1 u H locs hw hP hD hK1 hS => hw.elim)
  exact kt_out hq hnt hlocks hS hE (Nat.le_of_ble_eq_true rfl) (Nat.le_of_ble_eq_true rfl)

set_option maxHeartbeats 4000000 in
set_option maxRecDepth 100000 in
theorem f_room (l : Launch) (hst : l.stackTraces = false) (D : va_G) (de : Nat) (ad : Nat → Nat) (p0 p1 : Int32) (sz : Nat) : vx_Met l yX11_room wsX11_room ({ frames := 7, cells := 1, slots := 6, locals := 104 } : Room) (va_Pc [.ref (ad 0), .int p0, .int p1] (PX de D ([]) (wX ad) sz)) (va_Qi (fun (r : Int32) (u : Unit) => False) (fun u t => PW D ([]) (va_A (wX ad) sz) ([]) t) (va_A (wX ad) sz)) (XN (fun E => (E = "java/lang/IndexOutOfBoundsException" ∧ True)) (va_A (wX ad) sz)) 1 6 (va_A (wX ad) sz) := by
  refine vx_ofW (cc := cX11_room) (maxL := 4) (ret := (some .int)) (by decide) rfl ?_
  intro p e s m args below meth c s₁ B hml hnt hv
  obtain ⟨rfl, hsz, hP, hK, hD0, hTK, hZ⟩ := hv
  have hx := B.exec
  have hb := B.bytes
  have hr := B.returns
  have hts := atoms_spec (ws := wsX11_room) B.pre
  have hown : s.vm.findClass RX11 = some m.cls := findClass_of_methodNamed B.named
  have hlocks := B.notSynchronized
  subst hsz
  have hD := hD0.self (sz := s.heap.size)
  generalize hAe : va_A (wX ad) s.heap.size = A at hD hZ ⊢
  have hA : ∀ q : Nat, s.heap.size ≤ q → A q := fun q h => by rw [← hAe]; exact Or.inr h
  have hS : va_S A s.heap s.heap [] := va_S.rf
  have hP : va_P D vwCl (wX ad) s.heap := hP
  have hD : va_D A (wX ad) := hD
  have hl := lv_entry ([.ref (ad 0), .int p0, .int p1]) (n := 4) (Nat.le_of_ble_eq_true rfl)
  rw [lg_entry_eq]
  generalize (lg_sl ([.ref (ad 0), .int p0, .int p1]) ++ List.replicate (4 - (lg_sl ([.ref (ad 0), .int p0, .int p1])).length) Slot.unset).toArray = ls at hl ⊢
  have hl : lv_has ls 4 [(0, .ref (ad 0)), (1, .int p0), (2, .int p1)] := hl
  refine lv_aload_n hx hb dX11_room_0 rfl (lv_at hl 0 rfl) ?_
  refine lv_iload_n hx hb dX11_room_1 rfl (lv_at hl 1 rfl) ?_
  refine kt_q (wc := wX ad) (wr := []) hP hD hS hA [0, 1, 2, 3, 4, 5] [] rfl rfl (by decide) (by decide) (vx_runV (As := [.int p0]) (rest := []) ⟨hx, hb, hml, hown, hts⟩ (c_needCrease l hst D de ad p0 s.heap.size) (cwV 1 hts gX11_room_X11_needCrease rfl rfl rfl (by decide +kernel) ⟨Nat.le_of_ble_eq_true rfl, Nat.le_of_ble_eq_true rfl⟩) ⟨px_blind, (va_recv hK hP (ci := 16) (q0 := 0) rfl rfl), (px_pre hP hD hK hS hA hTK hZ [0, 1, 2, 3, 4, 5] rfl rfl (by decide) [] rfl)⟩ rfl rfl hl.1 rfl (lv_room (Nat.le_of_ble_eq_true rfl)) dX11_room_2 ⟨(Nat.le_of_ble_eq_true rfl), (Nat.le_of_ble_eq_true rfl)⟩) (fun E q9 H locs hE hq hP hD hS => ?_) (fun r_1 u H locs hw hP hD hK1 hS => hw.elim)
  exact kt_out hq hnt hlocks hS hE (Nat.le_of_ble_eq_true rfl) (Nat.le_of_ble_eq_true rfl)

set_option maxHeartbeats 4000000 in
set_option maxRecDepth 100000 in
theorem f_arm (l : Launch) (hst : l.stackTraces = false) (D : va_G) (de : Nat) (ad : Nat → Nat) (p0 p1 p2 p3 p4 : Int32) (sz : Nat) : vx_Met l yX11_arm wsX11_arm ({ frames := 7, cells := 1, slots := 6, locals := 104 } : Room) (va_Pc [.ref (ad 0), .int p0, .int p1, .int p2, .int p3, .int p4] (PX de D ([]) (wX ad) sz)) (va_Qi (fun (r : Int32) (u : Unit) => False) (fun u t => PW D ([]) (va_A (wX ad) sz) ([]) t) (va_A (wX ad) sz)) (XN (fun E => (E = "java/lang/IndexOutOfBoundsException" ∧ True)) (va_A (wX ad) sz)) 1 6 (va_A (wX ad) sz) := by
  refine vx_ofW (cc := cX11_arm) (maxL := 8) (ret := (some .int)) (by decide) rfl ?_
  intro p e s m args below meth c s₁ B hml hnt hv
  obtain ⟨rfl, hsz, hP, hK, hD0, hTK, hZ⟩ := hv
  have hx := B.exec
  have hb := B.bytes
  have hr := B.returns
  have hts := atoms_spec (ws := wsX11_arm) B.pre
  have hown : s.vm.findClass RX11 = some m.cls := findClass_of_methodNamed B.named
  have hlocks := B.notSynchronized
  subst hsz
  have hD := hD0.self (sz := s.heap.size)
  generalize hAe : va_A (wX ad) s.heap.size = A at hD hZ ⊢
  have hA : ∀ q : Nat, s.heap.size ≤ q → A q := fun q h => by rw [← hAe]; exact Or.inr h
  have hS : va_S A s.heap s.heap [] := va_S.rf
  have hP : va_P D vwCl (wX ad) s.heap := hP
  have hD : va_D A (wX ad) := hD
  have hl := lv_entry ([.ref (ad 0), .int p0, .int p1, .int p2, .int p3, .int p4]) (n := 8) (Nat.le_of_ble_eq_true rfl)
  rw [lg_entry_eq]
  generalize (lg_sl ([.ref (ad 0), .int p0, .int p1, .int p2, .int p3, .int p4]) ++ List.replicate (8 - (lg_sl ([.ref (ad 0), .int p0, .int p1, .int p2, .int p3, .int p4])).length) Slot.unset).toArray = ls at hl ⊢
  have hl : lv_has ls 8 [(0, .ref (ad 0)), (1, .int p0), (2, .int p1), (3, .int p2), (4, .int p3), (5, .int p4)] := hl
  refine lv_aload_n hx hb dX11_arm_0 rfl (lv_at hl 0 rfl) ?_
  refine lv_iload_n hx hb dX11_arm_1 rfl (lv_at hl 1 rfl) ?_
  refine kt_q (wc := wX ad) (wr := []) hP hD hS hA [0, 1, 2, 3, 4, 5] [] rfl rfl (by decide) (by decide) (vx_runV (As := [.int p0]) (rest := []) ⟨hx, hb, hml, hown, hts⟩ (c_needFold l hst D de ad p0 s.heap.size) (cwV 1 hts gX11_arm_X11_needFold rfl rfl rfl (by decide +kernel) ⟨Nat.le_of_ble_eq_true rfl, Nat.le_of_ble_eq_true rfl⟩) ⟨px_blind, (va_recv hK hP (ci := 16) (q0 := 0) rfl rfl), (px_pre hP hD hK hS hA hTK hZ [0, 1, 2, 3, 4, 5] rfl rfl (by decide) [] rfl)⟩ rfl rfl hl.1 rfl (lv_room (Nat.le_of_ble_eq_true rfl)) dX11_arm_2 ⟨(Nat.le_of_ble_eq_true rfl), (Nat.le_of_ble_eq_true rfl)⟩) (fun E q9 H locs hE hq hP hD hS => ?_) (fun r_1 u H locs hw hP hD hK1 hS => hw.elim)
  exact kt_out hq hnt hlocks hS hE (Nat.le_of_ble_eq_true rfl) (Nat.le_of_ble_eq_true rfl)

set_option maxHeartbeats 4000000 in
set_option maxRecDepth 100000 in
theorem f_across (l : Launch) (hst : l.stackTraces = false) (D : va_G) (de : Nat) (ad : Nat → Nat) (p0 p1 p2 : Int32) (sz : Nat) : vx_Met l yX11_across wsX11_across ({ frames := 7, cells := 1, slots := 6, locals := 104 } : Room) (va_Pc [.ref (ad 0), .int p0, .int p1, .int p2] (PX de D ([]) (wX ad) sz)) (va_Qi (fun (r : Int32) (u : Unit) => False) (fun u t => PW D ([]) (va_A (wX ad) sz) ([]) t) (va_A (wX ad) sz)) (XN (fun E => (E = "java/lang/IndexOutOfBoundsException" ∧ True)) (va_A (wX ad) sz)) 1 6 (va_A (wX ad) sz) := by
  refine vx_ofW (cc := cX11_across) (maxL := 5) (ret := (some .int)) (by decide) rfl ?_
  intro p e s m args below meth c s₁ B hml hnt hv
  obtain ⟨rfl, hsz, hP, hK, hD0, hTK, hZ⟩ := hv
  have hx := B.exec
  have hb := B.bytes
  have hr := B.returns
  have hts := atoms_spec (ws := wsX11_across) B.pre
  have hown : s.vm.findClass RX11 = some m.cls := findClass_of_methodNamed B.named
  have hlocks := B.notSynchronized
  subst hsz
  have hD := hD0.self (sz := s.heap.size)
  generalize hAe : va_A (wX ad) s.heap.size = A at hD hZ ⊢
  have hA : ∀ q : Nat, s.heap.size ≤ q → A q := fun q h => by rw [← hAe]; exact Or.inr h
  have hS : va_S A s.heap s.heap [] := va_S.rf
  have hP : va_P D vwCl (wX ad) s.heap := hP
  have hD : va_D A (wX ad) := hD
  have hl := lv_entry ([.ref (ad 0), .int p0, .int p1, .int p2]) (n := 5) (Nat.le_of_ble_eq_true rfl)
  rw [lg_entry_eq]
  generalize (lg_sl ([.ref (ad 0), .int p0, .int p1, .int p2]) ++ List.replicate (5 - (lg_sl ([.ref (ad 0), .int p0, .int p1, .int p2])).length) Slot.unset).toArray = ls at hl ⊢
  have hl : lv_has ls 5 [(0, .ref (ad 0)), (1, .int p0), (2, .int p1), (3, .int p2)] := hl
  refine lv_aload_n hx hb dX11_across_0 rfl (lv_at hl 0 rfl) ?_
  refine lv_iload_n hx hb dX11_across_1 rfl (lv_at hl 1 rfl) ?_
  refine kt_q (wc := wX ad) (wr := []) hP hD hS hA [0, 1, 2, 3, 4, 5] [] rfl rfl (by decide) (by decide) (vx_runV (As := [.int p0]) (rest := []) ⟨hx, hb, hml, hown, hts⟩ (c_needStrip l hst D de ad p0 s.heap.size) (cwV 1 hts gX11_across_X11_needStrip rfl rfl rfl (by decide +kernel) ⟨Nat.le_of_ble_eq_true rfl, Nat.le_of_ble_eq_true rfl⟩) ⟨px_blind, (va_recv hK hP (ci := 16) (q0 := 0) rfl rfl), (px_pre hP hD hK hS hA hTK hZ [0, 1, 2, 3, 4, 5] rfl rfl (by decide) [] rfl)⟩ rfl rfl hl.1 rfl (lv_room (Nat.le_of_ble_eq_true rfl)) dX11_across_2 ⟨(Nat.le_of_ble_eq_true rfl), (Nat.le_of_ble_eq_true rfl)⟩) (fun E q9 H locs hE hq hP hD hS => ?_) (fun r_1 u H locs hw hP hD hK1 hS => hw.elim)
  exact kt_out hq hnt hlocks hS hE (Nat.le_of_ble_eq_true rfl) (Nat.le_of_ble_eq_true rfl)

set_option maxHeartbeats 4000000 in
set_option maxRecDepth 100000 in
theorem f_above (l : Launch) (hst : l.stackTraces = false) (D : va_G) (de : Nat) (ad : Nat → Nat) (p0 p1 p2 : Int32) (sz : Nat) : vx_Met l yX11_above wsX11_above ({ frames := 7, cells := 1, slots := 6, locals := 104 } : Room) (va_Pc [.ref (ad 0), .int p0, .int p1, .int p2] (PX de D ([]) (wX ad) sz)) (va_Qi (fun (r : Int32) (u : Unit) => False) (fun u t => PW D ([]) (va_A (wX ad) sz) ([]) t) (va_A (wX ad) sz)) (XN (fun E => (E = "java/lang/IndexOutOfBoundsException" ∧ True)) (va_A (wX ad) sz)) 1 6 (va_A (wX ad) sz) := by
  refine vx_ofW (cc := cX11_above) (maxL := 5) (ret := (some .int)) (by decide) rfl ?_
  intro p e s m args below meth c s₁ B hml hnt hv
  obtain ⟨rfl, hsz, hP, hK, hD0, hTK, hZ⟩ := hv
  have hx := B.exec
  have hb := B.bytes
  have hr := B.returns
  have hts := atoms_spec (ws := wsX11_above) B.pre
  have hown : s.vm.findClass RX11 = some m.cls := findClass_of_methodNamed B.named
  have hlocks := B.notSynchronized
  subst hsz
  have hD := hD0.self (sz := s.heap.size)
  generalize hAe : va_A (wX ad) s.heap.size = A at hD hZ ⊢
  have hA : ∀ q : Nat, s.heap.size ≤ q → A q := fun q h => by rw [← hAe]; exact Or.inr h
  have hS : va_S A s.heap s.heap [] := va_S.rf
  have hP : va_P D vwCl (wX ad) s.heap := hP
  have hD : va_D A (wX ad) := hD
  have hl := lv_entry ([.ref (ad 0), .int p0, .int p1, .int p2]) (n := 5) (Nat.le_of_ble_eq_true rfl)
  rw [lg_entry_eq]
  generalize (lg_sl ([.ref (ad 0), .int p0, .int p1, .int p2]) ++ List.replicate (5 - (lg_sl ([.ref (ad 0), .int p0, .int p1, .int p2])).length) Slot.unset).toArray = ls at hl ⊢
  have hl : lv_has ls 5 [(0, .ref (ad 0)), (1, .int p0), (2, .int p1), (3, .int p2)] := hl
  refine lv_aload_n hx hb dX11_above_0 rfl (lv_at hl 0 rfl) ?_
  refine lv_iload_n hx hb dX11_above_1 rfl (lv_at hl 1 rfl) ?_
  refine kt_q (wc := wX ad) (wr := []) hP hD hS hA [0, 1, 2, 3, 4, 5] [] rfl rfl (by decide) (by decide) (vx_runV (As := [.int p0]) (rest := []) ⟨hx, hb, hml, hown, hts⟩ (c_needStrip l hst D de ad p0 s.heap.size) (cwV 1 hts gX11_above_X11_needStrip rfl rfl rfl (by decide +kernel) ⟨Nat.le_of_ble_eq_true rfl, Nat.le_of_ble_eq_true rfl⟩) ⟨px_blind, (va_recv hK hP (ci := 16) (q0 := 0) rfl rfl), (px_pre hP hD hK hS hA hTK hZ [0, 1, 2, 3, 4, 5] rfl rfl (by decide) [] rfl)⟩ rfl rfl hl.1 rfl (lv_room (Nat.le_of_ble_eq_true rfl)) dX11_above_2 ⟨(Nat.le_of_ble_eq_true rfl), (Nat.le_of_ble_eq_true rfl)⟩) (fun E q9 H locs hE hq hP hD hS => ?_) (fun r_1 u H locs hw hP hD hK1 hS => hw.elim)
  exact kt_out hq hnt hlocks hS hE (Nat.le_of_ble_eq_true rfl) (Nat.le_of_ble_eq_true rfl)

set_option maxHeartbeats 4000000 in
set_option maxRecDepth 100000 in
theorem f_apart (l : Launch) (hst : l.stackTraces = false) (D : va_G) (de : Nat) (ad : Nat → Nat) (p0 p1 p2 : Int32) (sz : Nat) : vx_Met l yX11_apart wsX11_apart ({ frames := 7, cells := 1, slots := 6, locals := 104 } : Room) (va_Pc [.ref (ad 0), .int p0, .int p1, .int p2] (PX de D ([]) (wX ad) sz)) (va_Ql (fun (r : Int64) (u : Unit) => False) (fun u t => PW D ([]) (va_A (wX ad) sz) ([]) t) (va_A (wX ad) sz)) (XN (fun E => (E = "java/lang/IndexOutOfBoundsException" ∧ True)) (va_A (wX ad) sz)) 1 6 (va_A (wX ad) sz) := by
  refine vx_ofW (cc := cX11_apart) (maxL := 10) (ret := (some .long)) (by decide) rfl ?_
  intro p e s m args below meth c s₁ B hml hnt hv
  obtain ⟨rfl, hsz, hP, hK, hD0, hTK, hZ⟩ := hv
  have hx := B.exec
  have hb := B.bytes
  have hr := B.returns
  have hts := atoms_spec (ws := wsX11_apart) B.pre
  have hown : s.vm.findClass RX11 = some m.cls := findClass_of_methodNamed B.named
  have hlocks := B.notSynchronized
  subst hsz
  have hD := hD0.self (sz := s.heap.size)
  generalize hAe : va_A (wX ad) s.heap.size = A at hD hZ ⊢
  have hA : ∀ q : Nat, s.heap.size ≤ q → A q := fun q h => by rw [← hAe]; exact Or.inr h
  have hS : va_S A s.heap s.heap [] := va_S.rf
  have hP : va_P D vwCl (wX ad) s.heap := hP
  have hD : va_D A (wX ad) := hD
  have hl := lv_entry ([.ref (ad 0), .int p0, .int p1, .int p2]) (n := 10) (Nat.le_of_ble_eq_true rfl)
  rw [lg_entry_eq]
  generalize (lg_sl ([.ref (ad 0), .int p0, .int p1, .int p2]) ++ List.replicate (10 - (lg_sl ([.ref (ad 0), .int p0, .int p1, .int p2])).length) Slot.unset).toArray = ls at hl ⊢
  have hl : lv_has ls 10 [(0, .ref (ad 0)), (1, .int p0), (2, .int p1), (3, .int p2)] := hl
  refine lv_aload_n hx hb dX11_apart_0 rfl (lv_at hl 0 rfl) ?_
  refine lv_iload_n hx hb dX11_apart_1 rfl (lv_at hl 1 rfl) ?_
  refine kt_q (wc := wX ad) (wr := []) hP hD hS hA [0, 1, 2, 3, 4, 5] [] rfl rfl (by decide) (by decide) (vx_runV (As := [.int p0]) (rest := []) ⟨hx, hb, hml, hown, hts⟩ (c_needStrip l hst D de ad p0 s.heap.size) (cwV 1 hts gX11_apart_X11_needStrip rfl rfl rfl (by decide +kernel) ⟨Nat.le_of_ble_eq_true rfl, Nat.le_of_ble_eq_true rfl⟩) ⟨px_blind, (va_recv hK hP (ci := 16) (q0 := 0) rfl rfl), (px_pre hP hD hK hS hA hTK hZ [0, 1, 2, 3, 4, 5] rfl rfl (by decide) [] rfl)⟩ rfl rfl hl.1 rfl (lv_room (Nat.le_of_ble_eq_true rfl)) dX11_apart_2 ⟨(Nat.le_of_ble_eq_true rfl), (Nat.le_of_ble_eq_true rfl)⟩) (fun E q9 H locs hE hq hP hD hS => ?_) (fun r_1 u H locs hw hP hD hK1 hS => hw.elim)
  exact kt_out hq hnt hlocks hS hE (Nat.le_of_ble_eq_true rfl) (Nat.le_of_ble_eq_true rfl)

set_option maxHeartbeats 4000000 in
set_option maxRecDepth 100000 in
theorem f_doesShut (l : Launch) (hst : l.stackTraces = false) (D : va_G) (de : Nat) (ad : Nat → Nat) (sz : Nat) : vx_Met l yX11_doesShut wsX11_doesShut ({ frames := 7, cells := 1, slots := 6, locals := 102 } : Room) (va_Pc [.ref (ad 0)] (PX de D ([]) (wX ad) sz)) (va_Qi (fun (r : Int32) (u : Unit) => False) (fun u t => PW D ([]) (va_A (wX ad) sz) ([]) t) (va_A (wX ad) sz)) (XN (fun E => (E = "java/lang/UnsupportedOperationException" ∧ True)) (va_A (wX ad) sz)) 1 6 (va_A (wX ad) sz) := by
  refine vx_ofW (cc := cX11_doesShut) (maxL := 1) (ret := (some .boolean)) (by decide) rfl ?_
  intro p e s m args below meth c s₁ B hml hnt hv
  obtain ⟨rfl, hsz, hP, hK, hD0, hTK, hZ⟩ := hv
  have hx := B.exec
  have hb := B.bytes
  have hr := B.returns
  have hts := atoms_spec (ws := wsX11_doesShut) B.pre
  have hown : s.vm.findClass RX11 = some m.cls := findClass_of_methodNamed B.named
  have hlocks := B.notSynchronized
  subst hsz
  have hD := hD0.self (sz := s.heap.size)
  generalize hAe : va_A (wX ad) s.heap.size = A at hD hZ ⊢
  have hA : ∀ q : Nat, s.heap.size ≤ q → A q := fun q h => by rw [← hAe]; exact Or.inr h
  have hS : va_S A s.heap s.heap [] := va_S.rf
  have hP : va_P D vwCl (wX ad) s.heap := hP
  have hD : va_D A (wX ad) := hD
  have hl := lv_entry ([.ref (ad 0)]) (n := 1) (Nat.le_of_ble_eq_true rfl)
  rw [lg_entry_eq]
  generalize (lg_sl ([.ref (ad 0)]) ++ List.replicate (1 - (lg_sl ([.ref (ad 0)])).length) Slot.unset).toArray = ls at hl ⊢
  have hl : lv_has ls 1 [(0, .ref (ad 0))] := hl
  refine lv_aload_n hx hb dX11_doesShut_0 rfl (lv_at hl 0 rfl) ?_
  refine kt_v (wc := wX ad) (wr := []) hP hD hS hA [0, 1, 2, 3, 4, 5] [] rfl rfl (by decide) (by decide) (vx_runV (As := []) (rest := []) ⟨hx, hb, hml, hown, hts⟩ (c_needSpread l hst D de ad s.heap.size) (cwV 0 hts gX11_doesShut_X11_needSpread rfl rfl rfl (by decide +kernel) ⟨Nat.le_of_ble_eq_true rfl, Nat.le_of_ble_eq_true rfl⟩) ⟨px_blind, (va_recv hK hP (ci := 16) (q0 := 0) rfl rfl), (px_pre hP hD hK hS hA hTK hZ [0, 1, 2, 3, 4, 5] rfl rfl (by decide) [] rfl)⟩ rfl rfl hl.1 rfl (lv_room (Nat.le_of_ble_eq_true rfl)) dX11_doesShut_1 ⟨(Nat.le_of_ble_eq_true rfl), (Nat.le_of_ble_eq_true rfl)⟩) (fun E q9 H locs hE hq hP hD hS => ?_) (fun u H locs hw hP hD hK1 hS => hw.elim)
  exact kt_out hq hnt hlocks hS hE (Nat.le_of_ble_eq_true rfl) (Nat.le_of_ble_eq_true rfl)

set_option maxHeartbeats 4000000 in
set_option maxRecDepth 100000 in
theorem f_sticksOut (l : Launch) (hst : l.stackTraces = false) (D : va_G) (de : Nat) (ad : Nat → Nat) (p0 : Int32) (sz : Nat) : vx_Met l yX11_sticksOut wsX11_sticksOut ({ frames := 7, cells := 1, slots := 6, locals := 104 } : Room) (va_Pc [.ref (ad 0), .int p0] (PX de D ([]) (wX ad) sz)) (va_Qi (fun (r : Int32) (u : Unit) => False) (fun u t => PW D ([]) (va_A (wX ad) sz) ([]) t) (va_A (wX ad) sz)) (XN (fun E => (E = "java/lang/IndexOutOfBoundsException" ∧ True)) (va_A (wX ad) sz)) 1 6 (va_A (wX ad) sz) := by
  refine vx_ofW (cc := cX11_sticksOut) (maxL := 2) (ret := (some .int)) (by decide) rfl ?_
  intro p e s m args below meth c s₁ B hml hnt hv
  obtain ⟨rfl, hsz, hP, hK, hD0, hTK, hZ⟩ := hv
  have hx := B.exec
  have hb := B.bytes
  have hr := B.returns
  have hts := atoms_spec (ws := wsX11_sticksOut) B.pre
  have hown : s.vm.findClass RX11 = some m.cls := findClass_of_methodNamed B.named
  have hlocks := B.notSynchronized
  subst hsz
  have hD := hD0.self (sz := s.heap.size)
  generalize hAe : va_A (wX ad) s.heap.size = A at hD hZ ⊢
  have hA : ∀ q : Nat, s.heap.size ≤ q → A q := fun q h => by rw [← hAe]; exact Or.inr h
  have hS : va_S A s.heap s.heap [] := va_S.rf
  have hP : va_P D vwCl (wX ad) s.heap := hP
  have hD : va_D A (wX ad) := hD
  have hl := lv_entry ([.ref (ad 0), .int p0]) (n := 2) (Nat.le_of_ble_eq_true rfl)
  rw [lg_entry_eq]
  generalize (lg_sl ([.ref (ad 0), .int p0]) ++ List.replicate (2 - (lg_sl ([.ref (ad 0), .int p0])).length) Slot.unset).toArray = ls at hl ⊢
  have hl : lv_has ls 2 [(0, .ref (ad 0)), (1, .int p0)] := hl
  refine lv_iconst (v := 0) hx hb dX11_sticksOut_0 (by decide) ?_
  refine lv_aload_n hx hb dX11_sticksOut_1 rfl (lv_at hl 0 rfl) ?_
  refine lv_iload_n hx hb dX11_sticksOut_2 rfl (lv_at hl 1 rfl) ?_
  refine kt_q (wc := wX ad) (wr := []) hP hD hS hA [0, 1, 2, 3, 4, 5] [] rfl rfl (by decide) (by decide) (vx_runV (As := [.int p0]) (rest := [.int 0]) ⟨hx, hb, hml, hown, hts⟩ (c_needFold l hst D de ad p0 s.heap.size) (cwV 1 hts gX11_sticksOut_X11_needFold rfl rfl rfl (by decide +kernel) ⟨Nat.le_of_ble_eq_true rfl, Nat.le_of_ble_eq_true rfl⟩) ⟨px_blind, (va_recv hK hP (ci := 16) (q0 := 0) rfl rfl), (px_pre hP hD hK hS hA hTK hZ [0, 1, 2, 3, 4, 5] rfl rfl (by decide) [] rfl)⟩ rfl rfl hl.1 rfl (lv_room (Nat.le_of_ble_eq_true rfl)) dX11_sticksOut_3 ⟨(Nat.le_of_ble_eq_true rfl), (Nat.le_of_ble_eq_true rfl)⟩) (fun E q9 H locs hE hq hP hD hS => ?_) (fun r_1 u H locs hw hP hD hK1 hS => hw.elim)
  exact kt_out hq hnt hlocks hS hE (Nat.le_of_ble_eq_true rfl) (Nat.le_of_ble_eq_true rfl)

set_option maxHeartbeats 4000000 in
set_option maxRecDepth 100000 in
theorem f_clashes (l : Launch) (D : va_G) (de : Nat) (ad : Nat → Nat) (sz : Nat) : Met l yX11_clashes wsX11_clashes ({ frames := 1, cells := 0, slots := 0, locals := 23 } : Room) (va_Pc [.ref (ad 0)] (PX de D ([]) (wX ad) sz)) (va_Qi (fun (r : Int32) (u : Unit) => r = 0) (fun u t => PW D ([]) (va_A (wX ad) sz) ([]) t) (va_A (wX ad) sz)) 0 0 (va_A (wX ad) sz) := by
  refine Met.ofW (cc := cX11_clashes) (maxL := 1) (ret := (some .int)) (by decide) rfl ?_
  intro p e s m args below meth c s₁ B hml hv
  obtain ⟨rfl, hsz, hP, hK, hD0, hTK, hZ⟩ := hv
  have hx := B.exec
  have hb := B.bytes
  have hr := B.returns
  have hts := atoms_spec (ws := wsX11_clashes) B.pre
  have hown : s.vm.findClass RX11 = some m.cls := findClass_of_methodNamed B.named
  have hlocks := B.notSynchronized
  have hin_RX11 : ∀ w ∈ u_ws RX11 TX11 6, w ∈ wsX11_clashes := by decide +kernel
  subst hsz
  have hD := hD0.self (sz := s.heap.size)
  generalize hAe : va_A (wX ad) s.heap.size = A at hD hZ ⊢
  have hA : ∀ q : Nat, s.heap.size ≤ q → A q := fun q h => by rw [← hAe]; exact Or.inr h
  have hS : va_S A s.heap s.heap [] := va_S.rf
  have hP : va_P D vwCl (wX ad) s.heap := hP
  have hD : va_D A (wX ad) := hD
  have hl := lv_entry ([.ref (ad 0)]) (n := 1) (Nat.le_of_ble_eq_true rfl)
  rw [lg_entry_eq]
  generalize (lg_sl ([.ref (ad 0)]) ++ List.replicate (1 - (lg_sl ([.ref (ad 0)])).length) Slot.unset).toArray = ls at hl ⊢
  have hl : lv_has ls 1 [(0, .ref (ad 0))] := hl
  refine lv_aload_n hx hb dX11_clashes_0 rfl (lv_at hl 0 rfl) ?_
  refine va_get (D := D) (ci := 16) (v := .ref (ad 1)) (C := RX11) (T := TX11) (N := 6) hx hb hts hin_RX11 hown hK hP 0 rfl rfl 0 (by decide) (hts (.fieldLink RX11 10 "Popupwright" "book" "LPopupwright$Book;") (by decide +kernel)) (fun _ h9 => h9) rfl dX11_clashes_1 ?_
  refine kx_i (wc := wX ad) (wr := []) hP hD hS hA [0, 1, 2, 3, 4, 5] [] rfl rfl (by decide) (by decide) (va_runV (As := []) (rest := []) ⟨hx, hb, hml, hown, hts⟩ (c_clashPairs l D de ad s.heap.size) (cwV 0 hts gX11_clashes_X0_clashPairs rfl rfl rfl (by decide +kernel) ⟨Nat.le_of_ble_eq_true rfl, Nat.le_of_ble_eq_true rfl⟩) ⟨px_blind, (va_recv hK hP (ci := 5) (q0 := 1) rfl rfl), (px_pre hP hD hK hS hA hTK hZ [0, 1, 2, 3, 4, 5] rfl rfl (by decide) [] rfl)⟩ rfl rfl hl.1 rfl (lv_room (Nat.le_of_ble_eq_true rfl)) dX11_clashes_4 ⟨(Nat.le_of_ble_eq_true rfl), (Nat.le_of_ble_eq_true rfl)⟩) (fun r_1 u H locs hw hP hD hK1 hS => ?_)
  have hP : va_P D vwCl (wX ad) H := hP
  have hD : va_D A (wX ad) := hD
  obtain rfl : r_1 = 0 := hw
  refine W.widen (k := 0) (n := 0) (Nat.le_of_ble_eq_true rfl) (Nat.le_of_ble_eq_true rfl) ?_
  have hP9 := hP.sub (ws' := ([])) [] rfl
  have hD9 := hD.sub (ws' := ([])) [] (by decide) rfl
  have hK9 := hK.sub (tys' := []) [] rfl
  exact W.iret (v := 0) hx hb hr (fun t ht hW => ⟨⟨0, (), rfl, rfl, ⟨by rw [ht]; exact hP9, va_K.moved hW.alike hK9, hD9⟩⟩, hS.F ht⟩) hS.2.2 dX11_clashes_7 hlocks

set_option maxHeartbeats 4000000 in
set_option maxRecDepth 100000 in
theorem f_clashOf (l : Launch) (hst : l.stackTraces = false) (D : va_G) (de : Nat) (ad : Nat → Nat) (p0 : Int32) (sz : Nat) : vx_Met l yX11_clashOf wnX11_clashOf ({ frames := 7, cells := 1, slots := 6, locals := 104 } : Room) (va_Pc [.ref (ad 0), .int p0] (PX de D ([]) (wX ad) sz)) (va_Qi (fun (r : Int32) (u : Unit) => False) (fun u t => PW D ([]) (va_A (wX ad) sz) ([]) t) (va_A (wX ad) sz)) (XN (fun E => (E = "java/lang/IndexOutOfBoundsException" ∧ True)) (va_A (wX ad) sz)) 1 6 (va_A (wX ad) sz) := by
  refine vx_ofW (cc := cX11_clashOf) (maxL := 4) (ret := (some .int)) (by decide) rfl ?_
  intro p e s m args below meth c s₁ B hml hnt hv
  obtain ⟨rfl, hsz, hP, hK, hD0, hTK, hZ⟩ := hv
  have hx := B.exec
  have hb := B.bytes
  have hr := B.returns
  have hts := atoms_spec (ws := wnX11_clashOf) B.pre
  have hown : s.vm.findClass RX11 = some m.cls := findClass_of_methodNamed B.named
  have hlocks := B.notSynchronized
  subst hsz
  have hD := hD0.self (sz := s.heap.size)
  generalize hAe : va_A (wX ad) s.heap.size = A at hD hZ ⊢
  have hA : ∀ q : Nat, s.heap.size ≤ q → A q := fun q h => by rw [← hAe]; exact Or.inr h
  have hS : va_S A s.heap s.heap [] := va_S.rf
  have hP : va_P D vwCl (wX ad) s.heap := hP
  have hD : va_D A (wX ad) := hD
  have hl := lv_entry ([.ref (ad 0), .int p0]) (n := 4) (Nat.le_of_ble_eq_true rfl)
  rw [lg_entry_eq]
  generalize (lg_sl ([.ref (ad 0), .int p0]) ++ List.replicate (4 - (lg_sl ([.ref (ad 0), .int p0])).length) Slot.unset).toArray = ls at hl ⊢
  have hl : lv_has ls 4 [(0, .ref (ad 0)), (1, .int p0)] := hl
  refine lv_aload_n hx hb dX11_clashOf_0 rfl (lv_at hl 0 rfl) ?_
  refine lv_iload_n hx hb dX11_clashOf_1 rfl (lv_at hl 1 rfl) ?_
  refine kt_q (wc := wX ad) (wr := []) hP hD hS hA [0, 1, 2, 3, 4, 5] [] rfl rfl (by decide) (by decide) (vx_runV (As := [.int p0]) (rest := []) ⟨hx, hb, hml, hown, hts⟩ (c_needStrip l hst D de ad p0 s.heap.size) (cwV 1 hts (gn_big rfl gX11_clashOf_X11_needStrip (by decide +kernel)) rfl rfl rfl (by decide +kernel) ⟨Nat.le_of_ble_eq_true rfl, Nat.le_of_ble_eq_true rfl⟩) ⟨px_blind, (va_recv hK hP (ci := 16) (q0 := 0) rfl rfl), (px_pre hP hD hK hS hA hTK hZ [0, 1, 2, 3, 4, 5] rfl rfl (by decide) [] rfl)⟩ rfl rfl hl.1 rfl (lv_room (Nat.le_of_ble_eq_true rfl)) dX11_clashOf_2 ⟨(Nat.le_of_ble_eq_true rfl), (Nat.le_of_ble_eq_true rfl)⟩) (fun E q9 H locs hE hq hP hD hS => ?_) (fun r_1 u H locs hw hP hD hK1 hS => hw.elim)
  exact kt_out hq hnt hlocks hS hE (Nat.le_of_ble_eq_true rfl) (Nat.le_of_ble_eq_true rfl)

set_option maxHeartbeats 4000000 in
set_option maxRecDepth 100000 in
theorem f_isGood (l : Launch) (hst : l.stackTraces = false) (D : va_G) (de : Nat) (ad : Nat → Nat) (sz : Nat) : vx_Met l yX11_isGood wsX11_isGood ({ frames := 7, cells := 1, slots := 6, locals := 102 } : Room) (va_Pc [.ref (ad 0)] (PX de D ([]) (wX ad) sz)) (va_Qi (fun (r : Int32) (u : Unit) => False) (fun u t => PW D ([]) (va_A (wX ad) sz) ([]) t) (va_A (wX ad) sz)) (XN (fun E => (E = "java/lang/UnsupportedOperationException" ∧ True)) (va_A (wX ad) sz)) 1 6 (va_A (wX ad) sz) := by
  refine vx_ofW (cc := cX11_isGood) (maxL := 1) (ret := (some .boolean)) (by decide) rfl ?_
  intro p e s m args below meth c s₁ B hml hnt hv
  obtain ⟨rfl, hsz, hP, hK, hD0, hTK, hZ⟩ := hv
  have hx := B.exec
  have hb := B.bytes
  have hr := B.returns
  have hts := atoms_spec (ws := wsX11_isGood) B.pre
  have hown : s.vm.findClass RX11 = some m.cls := findClass_of_methodNamed B.named
  have hlocks := B.notSynchronized
  subst hsz
  have hD := hD0.self (sz := s.heap.size)
  generalize hAe : va_A (wX ad) s.heap.size = A at hD hZ ⊢
  have hA : ∀ q : Nat, s.heap.size ≤ q → A q := fun q h => by rw [← hAe]; exact Or.inr h
  have hS : va_S A s.heap s.heap [] := va_S.rf
  have hP : va_P D vwCl (wX ad) s.heap := hP
  have hD : va_D A (wX ad) := hD
  have hl := lv_entry ([.ref (ad 0)]) (n := 1) (Nat.le_of_ble_eq_true rfl)
  rw [lg_entry_eq]
  generalize (lg_sl ([.ref (ad 0)]) ++ List.replicate (1 - (lg_sl ([.ref (ad 0)])).length) Slot.unset).toArray = ls at hl ⊢
  have hl : lv_has ls 1 [(0, .ref (ad 0))] := hl
  refine lv_aload_n hx hb dX11_isGood_0 rfl (lv_at hl 0 rfl) ?_
  refine kt_v (wc := wX ad) (wr := []) hP hD hS hA [0, 1, 2, 3, 4, 5] [] rfl rfl (by decide) (by decide) (vx_runV (As := []) (rest := []) ⟨hx, hb, hml, hown, hts⟩ (c_needSpread l hst D de ad s.heap.size) (cwV 0 hts gX11_isGood_X11_needSpread rfl rfl rfl (by decide +kernel) ⟨Nat.le_of_ble_eq_true rfl, Nat.le_of_ble_eq_true rfl⟩) ⟨px_blind, (va_recv hK hP (ci := 16) (q0 := 0) rfl rfl), (px_pre hP hD hK hS hA hTK hZ [0, 1, 2, 3, 4, 5] rfl rfl (by decide) [] rfl)⟩ rfl rfl hl.1 rfl (lv_room (Nat.le_of_ble_eq_true rfl)) dX11_isGood_1 ⟨(Nat.le_of_ble_eq_true rfl), (Nat.le_of_ble_eq_true rfl)⟩) (fun E q9 H locs hE hq hP hD hS => ?_) (fun u H locs hw hP hD hK1 hS => hw.elim)
  exact kt_out hq hnt hlocks hS hE (Nat.le_of_ble_eq_true rfl) (Nat.le_of_ble_eq_true rfl)

set_option maxHeartbeats 4000000 in
set_option maxRecDepth 100000 in
theorem f_sees (l : Launch) (hst : l.stackTraces = false) (D : va_G) (de : Nat) (ad : Nat → Nat) (p0 p1 p2 : Int32) (sz : Nat) : vx_Met l yX11_sees wnX11_sees ({ frames := 7, cells := 2, slots := 12, locals := 103 } : Room) (va_Pc [.ref (ad 0), .int p0, .int p1, .int p2] (PX de D ([]) (wX ad) sz)) (va_Qi (fun (r : Int32) (u : Unit) => False) (fun u t => PW D ([]) (va_A (wX ad) sz) ([]) t) (va_A (wX ad) sz)) (XN (fun E => (E = "java/lang/IllegalArgumentException" ∧ inR p0 1 17 = 0) ∨ (E = "java/util/NoSuchElementException" ∧ ¬ inR p0 1 17 = 0)) (va_A (wX ad) sz)) 2 12 (va_A (wX ad) sz) := by
  refine vx_ofW (cc := cX11_sees) (maxL := 5) (ret := (some .int)) (by decide) rfl ?_
  intro p e s m args below meth c s₁ B hml hnt hv
  obtain ⟨rfl, hsz, hP, hK, hD0, hTK, hZ⟩ := hv
  have hx := B.exec
  have hb := B.bytes
  have hr := B.returns
  have hts := atoms_spec (ws := wnX11_sees) B.pre
  have hown : s.vm.findClass RX11 = some m.cls := findClass_of_methodNamed B.named
  have hlocks := B.notSynchronized
  have hin_RX11 : ∀ w ∈ u_ws RX11 TX11 6, w ∈ wnX11_sees := by decide +kernel
  subst hsz
  have hD := hD0.self (sz := s.heap.size)
  generalize hAe : va_A (wX ad) s.heap.size = A at hD hZ ⊢
  have hA : ∀ q : Nat, s.heap.size ≤ q → A q := fun q h => by rw [← hAe]; exact Or.inr h
  have hS : va_S A s.heap s.heap [] := va_S.rf
  have hP : va_P D vwCl (wX ad) s.heap := hP
  have hD : va_D A (wX ad) := hD
  have hl := lv_entry ([.ref (ad 0), .int p0, .int p1, .int p2]) (n := 5) (Nat.le_of_ble_eq_true rfl)
  rw [lg_entry_eq]
  generalize (lg_sl ([.ref (ad 0), .int p0, .int p1, .int p2]) ++ List.replicate (5 - (lg_sl ([.ref (ad 0), .int p0, .int p1, .int p2])).length) Slot.unset).toArray = ls at hl ⊢
  have hl : lv_has ls 5 [(0, .ref (ad 0)), (1, .int p0), (2, .int p1), (3, .int p2)] := hl
  refine lv_aload_n hx hb dX11_sees_0 rfl (lv_at hl 0 rfl) ?_
  refine lv_iload_n hx hb dX11_sees_1 rfl (lv_at hl 1 rfl) ?_
  refine kt_v (wc := wX ad) (wr := []) hP hD hS hA [0, 1, 2, 3, 4, 5] [] rfl rfl (by decide) (by decide) (vx_runV (As := [.int p0]) (rest := []) ⟨hx, hb, hml, hown, hts⟩ (c_needView l hst D de ad p0 s.heap.size) (cwV 1 hts (gn_big rfl gX11_sees_X11_needView (by decide +kernel)) rfl rfl rfl (by decide +kernel) ⟨Nat.le_of_ble_eq_true rfl, Nat.le_of_ble_eq_true rfl⟩) ⟨px_blind, (va_recv hK hP (ci := 16) (q0 := 0) rfl rfl), (px_pre hP hD hK hS hA hTK hZ [0, 1, 2, 3, 4, 5] rfl rfl (by decide) [] rfl)⟩ rfl rfl hl.1 rfl (lv_room (Nat.le_of_ble_eq_true rfl)) dX11_sees_2 ⟨(Nat.le_of_ble_eq_true rfl), (Nat.le_of_ble_eq_true rfl)⟩) (fun E q9 H locs hE hq hP hD hS => ?_) (fun u H locs hw hP hD hK1 hS => ?_)
  · exact kt_out hq hnt hlocks hS (Or.inl hE) (Nat.le_of_ble_eq_true rfl) (Nat.le_of_ble_eq_true rfl)
  · have hP : va_P D vwCl (wX ad) H := hP
    have hD : va_D A (wX ad) := hD
    have hin_p0 := hw.2
    refine W.widen (k := 1) (n := 6) (Nat.le_of_ble_eq_true rfl) (Nat.le_of_ble_eq_true rfl) ?_
    refine lv_aload_n hx hb dX11_sees_5 rfl (lv_at hl 0 rfl) ?_
    refine va_get (D := D) (ci := 16) (v := .ref (ad 2)) (C := RX11) (T := TX11) (N := 6) hx hb hts hin_RX11 hown hK hP 0 rfl rfl 1 (by decide) (hts (.fieldLink RX11 21 "Popupwright" "layers" "LPopupwright$Layers;") (by decide +kernel)) (fun _ h9 => h9) rfl dX11_sees_6 ?_
    refine lv_iload_n hx hb dX11_sees_9 rfl (lv_at hl 1 rfl) ?_
    refine lv_iload_n hx hb dX11_sees_10 rfl (lv_at hl 2 rfl) ?_
    refine lv_iload_n hx hb dX11_sees_11 rfl (lv_at hl 3 rfl) ?_
    refine kx_i (wc := wX ad) (wr := []) hP hD hS hA [0, 1, 2, 3, 4, 5] [] rfl rfl (by decide) (by decide) (va_runV (As := [.int p0, .int p1, .int p2]) (rest := []) ⟨hx, hb, hml, hown, hts⟩ (c_seenAt l D de ad p0 p1 p2 H.size) (cwV 3 hts (gn_big rfl gX11_sees_X4_seenAt (by decide +kernel)) rfl rfl rfl (by decide +kernel) ⟨Nat.le_of_ble_eq_true rfl, Nat.le_of_ble_eq_true rfl⟩) ⟨px_blind, (va_recv hK hP (ci := 9) (q0 := 2) rfl rfl), (px_pre hP hD hK hS hA hTK hZ [0, 1, 2, 3, 4, 5] rfl rfl (by decide) [] rfl)⟩ rfl rfl hl.1 rfl (lv_room (Nat.le_of_ble_eq_true rfl)) dX11_sees_12 ⟨(Nat.le_of_ble_eq_true rfl), (Nat.le_of_ble_eq_true rfl)⟩) (fun r_2 u H locs hw hP hD hK1 hS => ?_)
    have hP : va_P D vwCl (wX ad) H := hP
    have hD : va_D A (wX ad) := hD
    obtain rfl : r_2 = (-3) := hw
    refine W.widen (k := 1) (n := 6) (Nat.le_of_ble_eq_true rfl) (Nat.le_of_ble_eq_true rfl) ?_
    refine lv_istore (lv' := [(4, .int (-3)), (0, .ref (ad 0)), (1, .int p0), (2, .int p1), (3, .int p2)]) hx hb dX11_sees_15 hl (by decide) rfl (fun ls hl => ?_)
    refine lv_iload hx hb dX11_sees_17 (lv_at hl 0 rfl) ?_
    refine lv_bipush (v := (-3)) hx hb dX11_sees_19 (by decide) ?_
    refine lv_icmp_ne (tgt := 34) hx hb dX11_sees_21 (by decide) (fun h_ => absurd (by decide) h_) (fun _ => ?_)
    exact kn_throw (mc := 2) (ms := 12) (text := "nothing is seen there") hx hb hst hml hl.1 (hts (.classLink RX11 183 "java/util/NoSuchElementException") (by decide +kernel)) (hts (.initialized "java/util/NoSuchElementException") (by decide +kernel)) hown hTK hZ hS (by decide +kernel)  dX11_sees_24 dX11_sees_27 dX11_sees_28 dX11_sees_30 dX11_sees_33 hnt (Nat.le_of_ble_eq_true rfl) (Nat.le_of_ble_eq_true rfl) (Nat.le_of_ble_eq_true rfl) (Nat.le_of_ble_eq_true rfl) hlocks (Or.inr ⟨rfl, hin_p0⟩) (Nat.le_of_ble_eq_true rfl) (Nat.le_of_ble_eq_true rfl)

set_option maxHeartbeats 4000000 in
set_option maxRecDepth 100000 in
theorem f_picture (l : Launch) (hst : l.stackTraces = false) (D : va_G) (de : Nat) (ad : Nat → Nat) (p0 p1 p2 p3 p4 p5 : Int32) (sz : Nat) : vx_Met l yX11_picture wsX11_picture ({ frames := 7, cells := 1, slots := 6, locals := 104 } : Room) (va_Pc [.ref (ad 0), .int p0, .int p1, .int p2, .int p3, .int p4, .int p5] (PX de D ([]) (wX ad) sz)) (va_Qi (fun (r : Int32) (u : Unit) => False) (fun u t => PW D ([]) (va_A (wX ad) sz) ([]) t) (va_A (wX ad) sz)) (XN (fun E => (E = "java/lang/IndexOutOfBoundsException" ∧ True)) (va_A (wX ad) sz)) 1 6 (va_A (wX ad) sz) := by
  refine vx_ofW (cc := cX11_picture) (maxL := 9) (ret := (some .int)) (by decide) rfl ?_
  intro p e s m args below meth c s₁ B hml hnt hv
  obtain ⟨rfl, hsz, hP, hK, hD0, hTK, hZ⟩ := hv
  have hx := B.exec
  have hb := B.bytes
  have hr := B.returns
  have hts := atoms_spec (ws := wsX11_picture) B.pre
  have hown : s.vm.findClass RX11 = some m.cls := findClass_of_methodNamed B.named
  have hlocks := B.notSynchronized
  subst hsz
  have hD := hD0.self (sz := s.heap.size)
  generalize hAe : va_A (wX ad) s.heap.size = A at hD hZ ⊢
  have hA : ∀ q : Nat, s.heap.size ≤ q → A q := fun q h => by rw [← hAe]; exact Or.inr h
  have hS : va_S A s.heap s.heap [] := va_S.rf
  have hP : va_P D vwCl (wX ad) s.heap := hP
  have hD : va_D A (wX ad) := hD
  have hl := lv_entry ([.ref (ad 0), .int p0, .int p1, .int p2, .int p3, .int p4, .int p5]) (n := 9) (Nat.le_of_ble_eq_true rfl)
  rw [lg_entry_eq]
  generalize (lg_sl ([.ref (ad 0), .int p0, .int p1, .int p2, .int p3, .int p4, .int p5]) ++ List.replicate (9 - (lg_sl ([.ref (ad 0), .int p0, .int p1, .int p2, .int p3, .int p4, .int p5])).length) Slot.unset).toArray = ls at hl ⊢
  have hl : lv_has ls 9 [(0, .ref (ad 0)), (1, .int p0), (2, .int p1), (3, .int p2), (4, .int p3), (5, .int p4), (6, .int p5)] := hl
  refine lv_aload_n hx hb dX11_picture_0 rfl (lv_at hl 0 rfl) ?_
  refine lv_iload_n hx hb dX11_picture_1 rfl (lv_at hl 1 rfl) ?_
  refine kt_q (wc := wX ad) (wr := []) hP hD hS hA [0, 1, 2, 3, 4, 5] [] rfl rfl (by decide) (by decide) (vx_runV (As := [.int p0]) (rest := []) ⟨hx, hb, hml, hown, hts⟩ (c_needStrip l hst D de ad p0 s.heap.size) (cwV 1 hts gX11_picture_X11_needStrip rfl rfl rfl (by decide +kernel) ⟨Nat.le_of_ble_eq_true rfl, Nat.le_of_ble_eq_true rfl⟩) ⟨px_blind, (va_recv hK hP (ci := 16) (q0 := 0) rfl rfl), (px_pre hP hD hK hS hA hTK hZ [0, 1, 2, 3, 4, 5] rfl rfl (by decide) [] rfl)⟩ rfl rfl hl.1 rfl (lv_room (Nat.le_of_ble_eq_true rfl)) dX11_picture_2 ⟨(Nat.le_of_ble_eq_true rfl), (Nat.le_of_ble_eq_true rfl)⟩) (fun E q9 H locs hE hq hP hD hS => ?_) (fun r_1 u H locs hw hP hD hK1 hS => hw.elim)
  exact kt_out hq hnt hlocks hS hE (Nat.le_of_ble_eq_true rfl) (Nat.le_of_ble_eq_true rfl)

set_option maxHeartbeats 4000000 in
set_option maxRecDepth 100000 in
theorem f_colourAt (l : Launch) (hst : l.stackTraces = false) (D : va_G) (de : Nat) (ad : Nat → Nat) (p0 p1 p2 : Int32) (sz : Nat) : vx_Met l yX11_colourAt wsX11_colourAt ({ frames := 7, cells := 1, slots := 6, locals := 104 } : Room) (va_Pc [.ref (ad 0), .int p0, .int p1, .int p2] (PX de D ([]) (wX ad) sz)) (va_Qi (fun (r : Int32) (u : Unit) => False) (fun u t => PW D ([]) (va_A (wX ad) sz) ([]) t) (va_A (wX ad) sz)) (XN (fun E => (E = "java/lang/IndexOutOfBoundsException" ∧ True)) (va_A (wX ad) sz)) 1 6 (va_A (wX ad) sz) := by
  refine vx_ofW (cc := cX11_colourAt) (maxL := 5) (ret := (some .int)) (by decide) rfl ?_
  intro p e s m args below meth c s₁ B hml hnt hv
  obtain ⟨rfl, hsz, hP, hK, hD0, hTK, hZ⟩ := hv
  have hx := B.exec
  have hb := B.bytes
  have hr := B.returns
  have hts := atoms_spec (ws := wsX11_colourAt) B.pre
  have hown : s.vm.findClass RX11 = some m.cls := findClass_of_methodNamed B.named
  have hlocks := B.notSynchronized
  subst hsz
  have hD := hD0.self (sz := s.heap.size)
  generalize hAe : va_A (wX ad) s.heap.size = A at hD hZ ⊢
  have hA : ∀ q : Nat, s.heap.size ≤ q → A q := fun q h => by rw [← hAe]; exact Or.inr h
  have hS : va_S A s.heap s.heap [] := va_S.rf
  have hP : va_P D vwCl (wX ad) s.heap := hP
  have hD : va_D A (wX ad) := hD
  have hl := lv_entry ([.ref (ad 0), .int p0, .int p1, .int p2]) (n := 5) (Nat.le_of_ble_eq_true rfl)
  rw [lg_entry_eq]
  generalize (lg_sl ([.ref (ad 0), .int p0, .int p1, .int p2]) ++ List.replicate (5 - (lg_sl ([.ref (ad 0), .int p0, .int p1, .int p2])).length) Slot.unset).toArray = ls at hl ⊢
  have hl : lv_has ls 5 [(0, .ref (ad 0)), (1, .int p0), (2, .int p1), (3, .int p2)] := hl
  refine lv_aload_n hx hb dX11_colourAt_0 rfl (lv_at hl 0 rfl) ?_
  refine lv_iload_n hx hb dX11_colourAt_1 rfl (lv_at hl 1 rfl) ?_
  refine kt_q (wc := wX ad) (wr := []) hP hD hS hA [0, 1, 2, 3, 4, 5] [] rfl rfl (by decide) (by decide) (vx_runV (As := [.int p0]) (rest := []) ⟨hx, hb, hml, hown, hts⟩ (c_needStrip l hst D de ad p0 s.heap.size) (cwV 1 hts gX11_colourAt_X11_needStrip rfl rfl rfl (by decide +kernel) ⟨Nat.le_of_ble_eq_true rfl, Nat.le_of_ble_eq_true rfl⟩) ⟨px_blind, (va_recv hK hP (ci := 16) (q0 := 0) rfl rfl), (px_pre hP hD hK hS hA hTK hZ [0, 1, 2, 3, 4, 5] rfl rfl (by decide) [] rfl)⟩ rfl rfl hl.1 rfl (lv_room (Nat.le_of_ble_eq_true rfl)) dX11_colourAt_2 ⟨(Nat.le_of_ble_eq_true rfl), (Nat.le_of_ble_eq_true rfl)⟩) (fun E q9 H locs hE hq hP hD hS => ?_) (fun r_1 u H locs hw hP hD hK1 hS => hw.elim)
  exact kt_out hq hnt hlocks hS hE (Nat.le_of_ble_eq_true rfl) (Nat.le_of_ble_eq_true rfl)

set_option maxHeartbeats 4000000 in
set_option maxRecDepth 100000 in
theorem f_isWhole (l : Launch) (hst : l.stackTraces = false) (D : va_G) (de : Nat) (ad : Nat → Nat) (p0 p1 : Int32) (sz : Nat) : vx_Met l yX11_isWhole wsX11_isWhole ({ frames := 7, cells := 1, slots := 6, locals := 104 } : Room) (va_Pc [.ref (ad 0), .int p0, .int p1] (PX de D ([]) (wX ad) sz)) (va_Qi (fun (r : Int32) (u : Unit) => False) (fun u t => PW D ([]) (va_A (wX ad) sz) ([]) t) (va_A (wX ad) sz)) (XN (fun E => (E = "java/lang/IndexOutOfBoundsException" ∧ True)) (va_A (wX ad) sz)) 1 6 (va_A (wX ad) sz) := by
  refine vx_ofW (cc := cX11_isWhole) (maxL := 4) (ret := (some .boolean)) (by decide) rfl ?_
  intro p e s m args below meth c s₁ B hml hnt hv
  obtain ⟨rfl, hsz, hP, hK, hD0, hTK, hZ⟩ := hv
  have hx := B.exec
  have hb := B.bytes
  have hr := B.returns
  have hts := atoms_spec (ws := wsX11_isWhole) B.pre
  have hown : s.vm.findClass RX11 = some m.cls := findClass_of_methodNamed B.named
  have hlocks := B.notSynchronized
  subst hsz
  have hD := hD0.self (sz := s.heap.size)
  generalize hAe : va_A (wX ad) s.heap.size = A at hD hZ ⊢
  have hA : ∀ q : Nat, s.heap.size ≤ q → A q := fun q h => by rw [← hAe]; exact Or.inr h
  have hS : va_S A s.heap s.heap [] := va_S.rf
  have hP : va_P D vwCl (wX ad) s.heap := hP
  have hD : va_D A (wX ad) := hD
  have hl := lv_entry ([.ref (ad 0), .int p0, .int p1]) (n := 4) (Nat.le_of_ble_eq_true rfl)
  rw [lg_entry_eq]
  generalize (lg_sl ([.ref (ad 0), .int p0, .int p1]) ++ List.replicate (4 - (lg_sl ([.ref (ad 0), .int p0, .int p1])).length) Slot.unset).toArray = ls at hl ⊢
  have hl : lv_has ls 4 [(0, .ref (ad 0)), (1, .int p0), (2, .int p1)] := hl
  refine lv_aload_n hx hb dX11_isWhole_0 rfl (lv_at hl 0 rfl) ?_
  refine lv_iload_n hx hb dX11_isWhole_1 rfl (lv_at hl 1 rfl) ?_
  refine kt_q (wc := wX ad) (wr := []) hP hD hS hA [0, 1, 2, 3, 4, 5] [] rfl rfl (by decide) (by decide) (vx_runV (As := [.int p0]) (rest := []) ⟨hx, hb, hml, hown, hts⟩ (c_needPicture l hst D de ad p0 s.heap.size) (cwV 1 hts gX11_isWhole_X11_needPicture rfl rfl rfl (by decide +kernel) ⟨Nat.le_of_ble_eq_true rfl, Nat.le_of_ble_eq_true rfl⟩) ⟨px_blind, (va_recv hK hP (ci := 16) (q0 := 0) rfl rfl), (px_pre hP hD hK hS hA hTK hZ [0, 1, 2, 3, 4, 5] rfl rfl (by decide) [] rfl)⟩ rfl rfl hl.1 rfl (lv_room (Nat.le_of_ble_eq_true rfl)) dX11_isWhole_2 ⟨(Nat.le_of_ble_eq_true rfl), (Nat.le_of_ble_eq_true rfl)⟩) (fun E q9 H locs hE hq hP hD hS => ?_) (fun r_1 u H locs hw hP hD hK1 hS => hw.elim)
  exact kt_out hq hnt hlocks hS hE (Nat.le_of_ble_eq_true rfl) (Nat.le_of_ble_eq_true rfl)

set_option maxHeartbeats 4000000 in
set_option maxRecDepth 100000 in
theorem f_showStep (l : Launch) (hst : l.stackTraces = false) (D : va_G) (de : Nat) (ad : Nat → Nat) (sz : Nat) : vx_Met l yX11_showStep wnX11_showStep ({ frames := 6, cells := 1, slots := 6, locals := 82 } : Room) (va_Pc [.ref (ad 0)] (PX de D ([]) (wX ad) sz)) (va_Qi (fun (r : Int32) (u : Unit) => False) (fun u t => PW D ([]) (va_A (wX ad) sz) ([]) t) (va_A (wX ad) sz)) (XN (fun E => (E = "java/util/NoSuchElementException" ∧ True)) (va_A (wX ad) sz)) 1 6 (va_A (wX ad) sz) := by
  refine vx_ofW (cc := cX11_showStep) (maxL := 2) (ret := (some .int)) (by decide) rfl ?_
  intro p e s m args below meth c s₁ B hml hnt hv
  obtain ⟨rfl, hsz, hP, hK, hD0, hTK, hZ⟩ := hv
  have hx := B.exec
  have hb := B.bytes
  have hr := B.returns
  have hts := atoms_spec (ws := wnX11_showStep) B.pre
  have hown : s.vm.findClass RX11 = some m.cls := findClass_of_methodNamed B.named
  have hlocks := B.notSynchronized
  have hin_RX11 : ∀ w ∈ u_ws RX11 TX11 6, w ∈ wnX11_showStep := by decide +kernel
  subst hsz
  have hD := hD0.self (sz := s.heap.size)
  generalize hAe : va_A (wX ad) s.heap.size = A at hD hZ ⊢
  have hA : ∀ q : Nat, s.heap.size ≤ q → A q := fun q h => by rw [← hAe]; exact Or.inr h
  have hS : va_S A s.heap s.heap [] := va_S.rf
  have hP : va_P D vwCl (wX ad) s.heap := hP
  have hD : va_D A (wX ad) := hD
  have hl := lv_entry ([.ref (ad 0)]) (n := 2) (Nat.le_of_ble_eq_true rfl)
  rw [lg_entry_eq]
  generalize (lg_sl ([.ref (ad 0)]) ++ List.replicate (2 - (lg_sl ([.ref (ad 0)])).length) Slot.unset).toArray = ls at hl ⊢
  have hl : lv_has ls 2 [(0, .ref (ad 0))] := hl
  refine lv_aload_n hx hb dX11_showStep_0 rfl (lv_at hl 0 rfl) ?_
  refine va_get (D := D) (ci := 16) (v := .ref (ad 2)) (C := RX11) (T := TX11) (N := 6) hx hb hts hin_RX11 hown hK hP 0 rfl rfl 1 (by decide) (hts (.fieldLink RX11 21 "Popupwright" "layers" "LPopupwright$Layers;") (by decide +kernel)) (fun _ h9 => h9) rfl dX11_showStep_1 ?_
  refine kx_i (wc := wX ad) (wr := []) hP hD hS hA [0, 1, 2, 3, 4, 5] [] rfl rfl (by decide) (by decide) (va_runV (As := []) (rest := []) ⟨hx, hb, hml, hown, hts⟩ (c_firstStepForAll l D de ad s.heap.size) (cwV 0 hts (gn_big rfl gX11_showStep_X4_firstStepForAll (by decide +kernel)) rfl rfl rfl (by decide +kernel) ⟨Nat.le_of_ble_eq_true rfl, Nat.le_of_ble_eq_true rfl⟩) ⟨px_blind, (va_recv hK hP (ci := 9) (q0 := 2) rfl rfl), (px_pre hP hD hK hS hA hTK hZ [0, 1, 2, 3, 4, 5] rfl rfl (by decide) [] rfl)⟩ rfl rfl hl.1 rfl (lv_room (Nat.le_of_ble_eq_true rfl)) dX11_showStep_4 ⟨(Nat.le_of_ble_eq_true rfl), (Nat.le_of_ble_eq_true rfl)⟩) (fun r_1 u H locs hw hP hD hK1 hS => ?_)
  have hP : va_P D vwCl (wX ad) H := hP
  have hD : va_D A (wX ad) := hD
  obtain rfl : r_1 = (-1) := hw
  refine lv_istore_n (lv' := [(1, .int (-1)), (0, .ref (ad 0))]) hx hb dX11_showStep_7 rfl hl (by decide) rfl (fun ls hl => ?_)
  refine lv_iload_n hx hb dX11_showStep_8 rfl (lv_at hl 0 rfl) ?_
  refine lv_if_ge (tgt := 22) hx hb dX11_showStep_9 (by decide) (fun h_ => absurd h_ (by decide)) (fun _ => ?_)
  exact kn_throw (mc := 1) (ms := 6) (text := "no step shows all pictures") hx hb hst hml hl.1 (hts (.classLink RX11 183 "java/util/NoSuchElementException") (by decide +kernel)) (hts (.initialized "java/util/NoSuchElementException") (by decide +kernel)) hown hTK hZ hS (by decide +kernel)  dX11_showStep_12 dX11_showStep_15 dX11_showStep_16 dX11_showStep_18 dX11_showStep_21 hnt (Nat.le_of_ble_eq_true rfl) (Nat.le_of_ble_eq_true rfl) (Nat.le_of_ble_eq_true rfl) (Nat.le_of_ble_eq_true rfl) hlocks (⟨rfl, trivial⟩) (Nat.le_of_ble_eq_true rfl) (Nat.le_of_ble_eq_true rfl)

set_option maxHeartbeats 4000000 in
set_option maxRecDepth 100000 in
theorem f_flap (l : Launch) (hst : l.stackTraces = false) (D : va_G) (de : Nat) (ad : Nat → Nat) (p0 : Int32) (sz : Nat) : vx_Met l yX11_flap wsX11_flap ({ frames := 7, cells := 1, slots := 6, locals := 104 } : Room) (va_Pc [.ref (ad 0), .int p0] (PX de D ([]) (wX ad) sz)) (va_Qi (fun (r : Int32) (u : Unit) => False) (fun u t => PW D ([]) (va_A (wX ad) sz) ([]) t) (va_A (wX ad) sz)) (XN (fun E => (E = "java/lang/IndexOutOfBoundsException" ∧ True)) (va_A (wX ad) sz)) 1 6 (va_A (wX ad) sz) := by
  refine vx_ofW (cc := cX11_flap) (maxL := 3) (ret := (some .int)) (by decide) rfl ?_
  intro p e s m args below meth c s₁ B hml hnt hv
  obtain ⟨rfl, hsz, hP, hK, hD0, hTK, hZ⟩ := hv
  have hx := B.exec
  have hb := B.bytes
  have hr := B.returns
  have hts := atoms_spec (ws := wsX11_flap) B.pre
  have hown : s.vm.findClass RX11 = some m.cls := findClass_of_methodNamed B.named
  have hlocks := B.notSynchronized
  subst hsz
  have hD := hD0.self (sz := s.heap.size)
  generalize hAe : va_A (wX ad) s.heap.size = A at hD hZ ⊢
  have hA : ∀ q : Nat, s.heap.size ≤ q → A q := fun q h => by rw [← hAe]; exact Or.inr h
  have hS : va_S A s.heap s.heap [] := va_S.rf
  have hP : va_P D vwCl (wX ad) s.heap := hP
  have hD : va_D A (wX ad) := hD
  have hl := lv_entry ([.ref (ad 0), .int p0]) (n := 3) (Nat.le_of_ble_eq_true rfl)
  rw [lg_entry_eq]
  generalize (lg_sl ([.ref (ad 0), .int p0]) ++ List.replicate (3 - (lg_sl ([.ref (ad 0), .int p0])).length) Slot.unset).toArray = ls at hl ⊢
  have hl : lv_has ls 3 [(0, .ref (ad 0)), (1, .int p0)] := hl
  refine lv_aload_n hx hb dX11_flap_0 rfl (lv_at hl 0 rfl) ?_
  refine lv_iload_n hx hb dX11_flap_1 rfl (lv_at hl 1 rfl) ?_
  refine kt_q (wc := wX ad) (wr := []) hP hD hS hA [0, 1, 2, 3, 4, 5] [] rfl rfl (by decide) (by decide) (vx_runV (As := [.int p0]) (rest := []) ⟨hx, hb, hml, hown, hts⟩ (c_needPicture l hst D de ad p0 s.heap.size) (cwV 1 hts gX11_flap_X11_needPicture rfl rfl rfl (by decide +kernel) ⟨Nat.le_of_ble_eq_true rfl, Nat.le_of_ble_eq_true rfl⟩) ⟨px_blind, (va_recv hK hP (ci := 16) (q0 := 0) rfl rfl), (px_pre hP hD hK hS hA hTK hZ [0, 1, 2, 3, 4, 5] rfl rfl (by decide) [] rfl)⟩ rfl rfl hl.1 rfl (lv_room (Nat.le_of_ble_eq_true rfl)) dX11_flap_2 ⟨(Nat.le_of_ble_eq_true rfl), (Nat.le_of_ble_eq_true rfl)⟩) (fun E q9 H locs hE hq hP hD hS => ?_) (fun r_1 u H locs hw hP hD hK1 hS => hw.elim)
  exact kt_out hq hnt hlocks hS hE (Nat.le_of_ble_eq_true rfl) (Nat.le_of_ble_eq_true rfl)

set_option maxHeartbeats 4000000 in
set_option maxRecDepth 100000 in
theorem f_turn (l : Launch) (hst : l.stackTraces = false) (D : va_G) (de : Nat) (ad : Nat → Nat) (p0 : Int32) (sz : Nat) : vx_Met l yX11_turn wsX11_turn ({ frames := 7, cells := 1, slots := 6, locals := 104 } : Room) (va_Pc [.ref (ad 0), .int p0] (PX de D ([]) (wX ad) sz)) (va_Qi (fun (r : Int32) (u : Unit) => False) (fun u t => PW D ([]) (va_A (wX ad) sz) ([]) t) (va_A (wX ad) sz)) (XN (fun E => (E = "java/lang/IndexOutOfBoundsException" ∧ True)) (va_A (wX ad) sz)) 1 6 (va_A (wX ad) sz) := by
  refine vx_ofW (cc := cX11_turn) (maxL := 3) (ret := (some .boolean)) (by decide) rfl ?_
  intro p e s m args below meth c s₁ B hml hnt hv
  obtain ⟨rfl, hsz, hP, hK, hD0, hTK, hZ⟩ := hv
  have hx := B.exec
  have hb := B.bytes
  have hr := B.returns
  have hts := atoms_spec (ws := wsX11_turn) B.pre
  have hown : s.vm.findClass RX11 = some m.cls := findClass_of_methodNamed B.named
  have hlocks := B.notSynchronized
  subst hsz
  have hD := hD0.self (sz := s.heap.size)
  generalize hAe : va_A (wX ad) s.heap.size = A at hD hZ ⊢
  have hA : ∀ q : Nat, s.heap.size ≤ q → A q := fun q h => by rw [← hAe]; exact Or.inr h
  have hS : va_S A s.heap s.heap [] := va_S.rf
  have hP : va_P D vwCl (wX ad) s.heap := hP
  have hD : va_D A (wX ad) := hD
  have hl := lv_entry ([.ref (ad 0), .int p0]) (n := 3) (Nat.le_of_ble_eq_true rfl)
  rw [lg_entry_eq]
  generalize (lg_sl ([.ref (ad 0), .int p0]) ++ List.replicate (3 - (lg_sl ([.ref (ad 0), .int p0])).length) Slot.unset).toArray = ls at hl ⊢
  have hl : lv_has ls 3 [(0, .ref (ad 0)), (1, .int p0)] := hl
  refine lv_aload_n hx hb dX11_turn_0 rfl (lv_at hl 0 rfl) ?_
  refine lv_iload_n hx hb dX11_turn_1 rfl (lv_at hl 1 rfl) ?_
  refine kt_q (wc := wX ad) (wr := []) hP hD hS hA [0, 1, 2, 3, 4, 5] [] rfl rfl (by decide) (by decide) (vx_runV (As := [.int p0]) (rest := []) ⟨hx, hb, hml, hown, hts⟩ (c_needPicture l hst D de ad p0 s.heap.size) (cwV 1 hts gX11_turn_X11_needPicture rfl rfl rfl (by decide +kernel) ⟨Nat.le_of_ble_eq_true rfl, Nat.le_of_ble_eq_true rfl⟩) ⟨px_blind, (va_recv hK hP (ci := 16) (q0 := 0) rfl rfl), (px_pre hP hD hK hS hA hTK hZ [0, 1, 2, 3, 4, 5] rfl rfl (by decide) [] rfl)⟩ rfl rfl hl.1 rfl (lv_room (Nat.le_of_ble_eq_true rfl)) dX11_turn_2 ⟨(Nat.le_of_ble_eq_true rfl), (Nat.le_of_ble_eq_true rfl)⟩) (fun E q9 H locs hE hq hP hD hS => ?_) (fun r_1 u H locs hw hP hD hK1 hS => hw.elim)
  exact kt_out hq hnt hlocks hS hE (Nat.le_of_ble_eq_true rfl) (Nat.le_of_ble_eq_true rfl)

set_option maxHeartbeats 4000000 in
set_option maxRecDepth 100000 in
theorem f_pull (l : Launch) (hst : l.stackTraces = false) (D : va_G) (de : Nat) (ad : Nat → Nat) (p0 p1 p2 p3 : Int32) (sz : Nat) : vx_Met l yX11_pull wsX11_pull ({ frames := 7, cells := 1, slots := 6, locals := 104 } : Room) (va_Pc [.ref (ad 0), .int p0, .int p1, .int p2, .int p3] (PX de D ([]) (wX ad) sz)) (va_Qi (fun (r : Int32) (u : Unit) => False) (fun u t => PW D ([]) (va_A (wX ad) sz) ([]) t) (va_A (wX ad) sz)) (XN (fun E => (E = "java/lang/IndexOutOfBoundsException" ∧ True)) (va_A (wX ad) sz)) 1 6 (va_A (wX ad) sz) := by
  refine vx_ofW (cc := cX11_pull) (maxL := 6) (ret := (some .int)) (by decide) rfl ?_
  intro p e s m args below meth c s₁ B hml hnt hv
  obtain ⟨rfl, hsz, hP, hK, hD0, hTK, hZ⟩ := hv
  have hx := B.exec
  have hb := B.bytes
  have hr := B.returns
  have hts := atoms_spec (ws := wsX11_pull) B.pre
  have hown : s.vm.findClass RX11 = some m.cls := findClass_of_methodNamed B.named
  have hlocks := B.notSynchronized
  subst hsz
  have hD := hD0.self (sz := s.heap.size)
  generalize hAe : va_A (wX ad) s.heap.size = A at hD hZ ⊢
  have hA : ∀ q : Nat, s.heap.size ≤ q → A q := fun q h => by rw [← hAe]; exact Or.inr h
  have hS : va_S A s.heap s.heap [] := va_S.rf
  have hP : va_P D vwCl (wX ad) s.heap := hP
  have hD : va_D A (wX ad) := hD
  have hl := lv_entry ([.ref (ad 0), .int p0, .int p1, .int p2, .int p3]) (n := 6) (Nat.le_of_ble_eq_true rfl)
  rw [lg_entry_eq]
  generalize (lg_sl ([.ref (ad 0), .int p0, .int p1, .int p2, .int p3]) ++ List.replicate (6 - (lg_sl ([.ref (ad 0), .int p0, .int p1, .int p2, .int p3])).length) Slot.unset).toArray = ls at hl ⊢
  have hl : lv_has ls 6 [(0, .ref (ad 0)), (1, .int p0), (2, .int p1), (3, .int p2), (4, .int p3)] := hl
  refine lv_aload_n hx hb dX11_pull_0 rfl (lv_at hl 0 rfl) ?_
  refine lv_iload_n hx hb dX11_pull_1 rfl (lv_at hl 1 rfl) ?_
  refine kt_q (wc := wX ad) (wr := []) hP hD hS hA [0, 1, 2, 3, 4, 5] [] rfl rfl (by decide) (by decide) (vx_runV (As := [.int p0]) (rest := []) ⟨hx, hb, hml, hown, hts⟩ (c_needStrip l hst D de ad p0 s.heap.size) (cwV 1 hts gX11_pull_X11_needStrip rfl rfl rfl (by decide +kernel) ⟨Nat.le_of_ble_eq_true rfl, Nat.le_of_ble_eq_true rfl⟩) ⟨px_blind, (va_recv hK hP (ci := 16) (q0 := 0) rfl rfl), (px_pre hP hD hK hS hA hTK hZ [0, 1, 2, 3, 4, 5] rfl rfl (by decide) [] rfl)⟩ rfl rfl hl.1 rfl (lv_room (Nat.le_of_ble_eq_true rfl)) dX11_pull_2 ⟨(Nat.le_of_ble_eq_true rfl), (Nat.le_of_ble_eq_true rfl)⟩) (fun E q9 H locs hE hq hP hD hS => ?_) (fun r_1 u H locs hw hP hD hK1 hS => hw.elim)
  exact kt_out hq hnt hlocks hS hE (Nat.le_of_ble_eq_true rfl) (Nat.le_of_ble_eq_true rfl)

set_option maxHeartbeats 4000000 in
set_option maxRecDepth 100000 in
theorem f_join (l : Launch) (hst : l.stackTraces = false) (D : va_G) (de : Nat) (ad : Nat → Nat) (p0 p1 : Int32) (sz : Nat) : vx_Met l yX11_join wsX11_join ({ frames := 7, cells := 1, slots := 6, locals := 104 } : Room) (va_Pc [.ref (ad 0), .int p0, .int p1] (PX de D ([]) (wX ad) sz)) (va_Qi (fun (r : Int32) (u : Unit) => False) (fun u t => PW D ([]) (va_A (wX ad) sz) ([]) t) (va_A (wX ad) sz)) (XN (fun E => (E = "java/lang/IndexOutOfBoundsException" ∧ True)) (va_A (wX ad) sz)) 1 6 (va_A (wX ad) sz) := by
  refine vx_ofW (cc := cX11_join) (maxL := 5) (ret := (some .int)) (by decide) rfl ?_
  intro p e s m args below meth c s₁ B hml hnt hv
  obtain ⟨rfl, hsz, hP, hK, hD0, hTK, hZ⟩ := hv
  have hx := B.exec
  have hb := B.bytes
  have hr := B.returns
  have hts := atoms_spec (ws := wsX11_join) B.pre
  have hown : s.vm.findClass RX11 = some m.cls := findClass_of_methodNamed B.named
  have hlocks := B.notSynchronized
  subst hsz
  have hD := hD0.self (sz := s.heap.size)
  generalize hAe : va_A (wX ad) s.heap.size = A at hD hZ ⊢
  have hA : ∀ q : Nat, s.heap.size ≤ q → A q := fun q h => by rw [← hAe]; exact Or.inr h
  have hS : va_S A s.heap s.heap [] := va_S.rf
  have hP : va_P D vwCl (wX ad) s.heap := hP
  have hD : va_D A (wX ad) := hD
  have hl := lv_entry ([.ref (ad 0), .int p0, .int p1]) (n := 5) (Nat.le_of_ble_eq_true rfl)
  rw [lg_entry_eq]
  generalize (lg_sl ([.ref (ad 0), .int p0, .int p1]) ++ List.replicate (5 - (lg_sl ([.ref (ad 0), .int p0, .int p1])).length) Slot.unset).toArray = ls at hl ⊢
  have hl : lv_has ls 5 [(0, .ref (ad 0)), (1, .int p0), (2, .int p1)] := hl
  refine lv_aload_n hx hb dX11_join_0 rfl (lv_at hl 0 rfl) ?_
  refine lv_iload_n hx hb dX11_join_1 rfl (lv_at hl 1 rfl) ?_
  refine kt_q (wc := wX ad) (wr := []) hP hD hS hA [0, 1, 2, 3, 4, 5] [] rfl rfl (by decide) (by decide) (vx_runV (As := [.int p0]) (rest := []) ⟨hx, hb, hml, hown, hts⟩ (c_needPull l hst D de ad p0 s.heap.size) (cwV 1 hts gX11_join_X11_needPull rfl rfl rfl (by decide +kernel) ⟨Nat.le_of_ble_eq_true rfl, Nat.le_of_ble_eq_true rfl⟩) ⟨px_blind, (va_recv hK hP (ci := 16) (q0 := 0) rfl rfl), (px_pre hP hD hK hS hA hTK hZ [0, 1, 2, 3, 4, 5] rfl rfl (by decide) [] rfl)⟩ rfl rfl hl.1 rfl (lv_room (Nat.le_of_ble_eq_true rfl)) dX11_join_2 ⟨(Nat.le_of_ble_eq_true rfl), (Nat.le_of_ble_eq_true rfl)⟩) (fun E q9 H locs hE hq hP hD hS => ?_) (fun r_1 u H locs hw hP hD hK1 hS => hw.elim)
  exact kt_out hq hnt hlocks hS hE (Nat.le_of_ble_eq_true rfl) (Nat.le_of_ble_eq_true rfl)

set_option maxHeartbeats 4000000 in
set_option maxRecDepth 100000 in
theorem f_move (l : Launch) (hst : l.stackTraces = false) (D : va_G) (de : Nat) (ad : Nat → Nat) (p0 p1 p2 : Int32) (sz : Nat) : vx_Met l yX11_move wsX11_move ({ frames := 7, cells := 1, slots := 6, locals := 104 } : Room) (va_Pc [.ref (ad 0), .int p0, .int p1, .int p2] (PX de D ([]) (wX ad) sz)) (va_Qi (fun (r : Int32) (u : Unit) => False) (fun u t => PW D ([]) (va_A (wX ad) sz) ([]) t) (va_A (wX ad) sz)) (XN (fun E => (E = "java/lang/IndexOutOfBoundsException" ∧ True)) (va_A (wX ad) sz)) 1 6 (va_A (wX ad) sz) := by
  refine vx_ofW (cc := cX11_move) (maxL := 5) (ret := (some .int)) (by decide) rfl ?_
  intro p e s m args below meth c s₁ B hml hnt hv
  obtain ⟨rfl, hsz, hP, hK, hD0, hTK, hZ⟩ := hv
  have hx := B.exec
  have hb := B.bytes
  have hr := B.returns
  have hts := atoms_spec (ws := wsX11_move) B.pre
  have hown : s.vm.findClass RX11 = some m.cls := findClass_of_methodNamed B.named
  have hlocks := B.notSynchronized
  subst hsz
  have hD := hD0.self (sz := s.heap.size)
  generalize hAe : va_A (wX ad) s.heap.size = A at hD hZ ⊢
  have hA : ∀ q : Nat, s.heap.size ≤ q → A q := fun q h => by rw [← hAe]; exact Or.inr h
  have hS : va_S A s.heap s.heap [] := va_S.rf
  have hP : va_P D vwCl (wX ad) s.heap := hP
  have hD : va_D A (wX ad) := hD
  have hl := lv_entry ([.ref (ad 0), .int p0, .int p1, .int p2]) (n := 5) (Nat.le_of_ble_eq_true rfl)
  rw [lg_entry_eq]
  generalize (lg_sl ([.ref (ad 0), .int p0, .int p1, .int p2]) ++ List.replicate (5 - (lg_sl ([.ref (ad 0), .int p0, .int p1, .int p2])).length) Slot.unset).toArray = ls at hl ⊢
  have hl : lv_has ls 5 [(0, .ref (ad 0)), (1, .int p0), (2, .int p1), (3, .int p2)] := hl
  refine lv_aload_n hx hb dX11_move_0 rfl (lv_at hl 0 rfl) ?_
  refine lv_iload_n hx hb dX11_move_1 rfl (lv_at hl 1 rfl) ?_
  refine kt_q (wc := wX ad) (wr := []) hP hD hS hA [0, 1, 2, 3, 4, 5] [] rfl rfl (by decide) (by decide) (vx_runV (As := [.int p0]) (rest := []) ⟨hx, hb, hml, hown, hts⟩ (c_needPull l hst D de ad p0 s.heap.size) (cwV 1 hts gX11_move_X11_needPull rfl rfl rfl (by decide +kernel) ⟨Nat.le_of_ble_eq_true rfl, Nat.le_of_ble_eq_true rfl⟩) ⟨px_blind, (va_recv hK hP (ci := 16) (q0 := 0) rfl rfl), (px_pre hP hD hK hS hA hTK hZ [0, 1, 2, 3, 4, 5] rfl rfl (by decide) [] rfl)⟩ rfl rfl hl.1 rfl (lv_room (Nat.le_of_ble_eq_true rfl)) dX11_move_2 ⟨(Nat.le_of_ble_eq_true rfl), (Nat.le_of_ble_eq_true rfl)⟩) (fun E q9 H locs hE hq hP hD hS => ?_) (fun r_1 u H locs hw hP hD hK1 hS => hw.elim)
  exact kt_out hq hnt hlocks hS hE (Nat.le_of_ble_eq_true rfl) (Nat.le_of_ble_eq_true rfl)

set_option maxHeartbeats 4000000 in
set_option maxRecDepth 100000 in
theorem f_pullAt (l : Launch) (hst : l.stackTraces = false) (D : va_G) (de : Nat) (ad : Nat → Nat) (p0 : Int32) (sz : Nat) : vx_Met l yX11_pullAt wsX11_pullAt ({ frames := 7, cells := 1, slots := 6, locals := 104 } : Room) (va_Pc [.ref (ad 0), .int p0] (PX de D ([]) (wX ad) sz)) (va_Qi (fun (r : Int32) (u : Unit) => False) (fun u t => PW D ([]) (va_A (wX ad) sz) ([]) t) (va_A (wX ad) sz)) (XN (fun E => (E = "java/lang/IndexOutOfBoundsException" ∧ True)) (va_A (wX ad) sz)) 1 6 (va_A (wX ad) sz) := by
  refine vx_ofW (cc := cX11_pullAt) (maxL := 2) (ret := (some .int)) (by decide) rfl ?_
  intro p e s m args below meth c s₁ B hml hnt hv
  obtain ⟨rfl, hsz, hP, hK, hD0, hTK, hZ⟩ := hv
  have hx := B.exec
  have hb := B.bytes
  have hr := B.returns
  have hts := atoms_spec (ws := wsX11_pullAt) B.pre
  have hown : s.vm.findClass RX11 = some m.cls := findClass_of_methodNamed B.named
  have hlocks := B.notSynchronized
  subst hsz
  have hD := hD0.self (sz := s.heap.size)
  generalize hAe : va_A (wX ad) s.heap.size = A at hD hZ ⊢
  have hA : ∀ q : Nat, s.heap.size ≤ q → A q := fun q h => by rw [← hAe]; exact Or.inr h
  have hS : va_S A s.heap s.heap [] := va_S.rf
  have hP : va_P D vwCl (wX ad) s.heap := hP
  have hD : va_D A (wX ad) := hD
  have hl := lv_entry ([.ref (ad 0), .int p0]) (n := 2) (Nat.le_of_ble_eq_true rfl)
  rw [lg_entry_eq]
  generalize (lg_sl ([.ref (ad 0), .int p0]) ++ List.replicate (2 - (lg_sl ([.ref (ad 0), .int p0])).length) Slot.unset).toArray = ls at hl ⊢
  have hl : lv_has ls 2 [(0, .ref (ad 0)), (1, .int p0)] := hl
  refine lv_aload_n hx hb dX11_pullAt_0 rfl (lv_at hl 0 rfl) ?_
  refine lv_iload_n hx hb dX11_pullAt_1 rfl (lv_at hl 1 rfl) ?_
  refine kt_q (wc := wX ad) (wr := []) hP hD hS hA [0, 1, 2, 3, 4, 5] [] rfl rfl (by decide) (by decide) (vx_runV (As := [.int p0]) (rest := []) ⟨hx, hb, hml, hown, hts⟩ (c_needPull l hst D de ad p0 s.heap.size) (cwV 1 hts gX11_pullAt_X11_needPull rfl rfl rfl (by decide +kernel) ⟨Nat.le_of_ble_eq_true rfl, Nat.le_of_ble_eq_true rfl⟩) ⟨px_blind, (va_recv hK hP (ci := 16) (q0 := 0) rfl rfl), (px_pre hP hD hK hS hA hTK hZ [0, 1, 2, 3, 4, 5] rfl rfl (by decide) [] rfl)⟩ rfl rfl hl.1 rfl (lv_room (Nat.le_of_ble_eq_true rfl)) dX11_pullAt_2 ⟨(Nat.le_of_ble_eq_true rfl), (Nat.le_of_ble_eq_true rfl)⟩) (fun E q9 H locs hE hq hP hD hS => ?_) (fun r_1 u H locs hw hP hD hK1 hS => hw.elim)
  exact kt_out hq hnt hlocks hS hE (Nat.le_of_ble_eq_true rfl) (Nat.le_of_ble_eq_true rfl)

set_option maxHeartbeats 4000000 in
set_option maxRecDepth 100000 in
theorem f_setSheet (l : Launch) (hst : l.stackTraces = false) (D : va_G) (de : Nat) (ad : Nat → Nat) (p0 p1 : Int32) (sz : Nat) : vx_Met l yX11_setSheet wsX11_setSheet ({ frames := 6, cells := 1, slots := 6, locals := 82 } : Room) (va_Pc [.ref (ad 0), .int p0, .int p1] (PX de D ([]) (wX ad) sz)) (va_Qi (fun (r : Int32) (u : Unit) => r = 700 ∧ ¬ inR p0 20 2000 = 0 ∧ ¬ inR p1 20 2000 = 0) (fun u t => PW D ([]) (va_A (wX ad) sz) ([]) t) (va_A (wX ad) sz)) (XN (fun E => (E = "java/lang/IllegalArgumentException" ∧ (inR p0 20 2000 = 0 ∨ inR p1 20 2000 = 0))) (va_A (wX ad) sz)) 1 6 (va_A (wX ad) sz) := by
  refine vx_ofW (cc := cX11_setSheet) (maxL := 4) (ret := (some .int)) (by decide) rfl ?_
  intro p e s m args below meth c s₁ B hml hnt hv
  obtain ⟨rfl, hsz, hP, hK, hD0, hTK, hZ⟩ := hv
  have hx := B.exec
  have hb := B.bytes
  have hr := B.returns
  have hts := atoms_spec (ws := wsX11_setSheet) B.pre
  have hown : s.vm.findClass RX11 = some m.cls := findClass_of_methodNamed B.named
  have hlocks := B.notSynchronized
  have hin_RX11 : ∀ w ∈ u_ws RX11 TX11 6, w ∈ wsX11_setSheet := by decide +kernel
  have hin_RX5 : ∀ w ∈ u_ws RX5 TX5 13, w ∈ wsX11_setSheet := by decide +kernel
  subst hsz
  have hD := hD0.self (sz := s.heap.size)
  generalize hAe : va_A (wX ad) s.heap.size = A at hD hZ ⊢
  have hA : ∀ q : Nat, s.heap.size ≤ q → A q := fun q h => by rw [← hAe]; exact Or.inr h
  have hS : va_S A s.heap s.heap [] := va_S.rf
  have hP : va_P D vwCl (wX ad) s.heap := hP
  have hD : va_D A (wX ad) := hD
  have hl := lv_entry ([.ref (ad 0), .int p0, .int p1]) (n := 4) (Nat.le_of_ble_eq_true rfl)
  rw [lg_entry_eq]
  generalize (lg_sl ([.ref (ad 0), .int p0, .int p1]) ++ List.replicate (4 - (lg_sl ([.ref (ad 0), .int p0, .int p1])).length) Slot.unset).toArray = ls at hl ⊢
  have hl : lv_has ls 4 [(0, .ref (ad 0)), (1, .int p0), (2, .int p1)] := hl
  refine lv_iload_n hx hb dX11_setSheet_0 rfl (lv_at hl 1 rfl) ?_
  refine lv_bipush (v := 20) hx hb dX11_setSheet_1 (by decide) ?_
  refine lv_sipush (v := 2000) hx hb dX11_setSheet_3 (by decide) ?_
  refine kx_i (wc := []) (wr := wX ad) hP hD hS hA [] [0, 1, 2, 3, 4, 5] rfl rfl (by decide) (by decide) (va_runS (As := [.int p0, .int 20, .int 2000]) (rest := []) ⟨hx, hb, hml, hown, hts⟩ (c_isWithin l D de p0 20 2000 s.heap.size) (va_cwS 3 hts gX11_setSheet_X11_isWithin rfl rfl rfl (by decide +kernel) ⟨Nat.le_of_ble_eq_true rfl, Nat.le_of_ble_eq_true rfl⟩) ⟨px_blind, (px_pre hP hD hK hS hA hTK hZ [] rfl rfl (by decide) [] rfl)⟩ rfl rfl hl.1 rfl (lv_room (Nat.le_of_ble_eq_true rfl)) dX11_setSheet_6 ⟨(Nat.le_of_ble_eq_true rfl), (Nat.le_of_ble_eq_true rfl)⟩) (fun r_1 u H locs hw hP hD hK1 hS => ?_)
  have hP : va_P D vwCl (wX ad) H := hP
  have hD : va_D A (wX ad) := hD
  obtain rfl : r_1 = inR p0 20 2000 := hw
  refine lv_if_eq (tgt := 24) hx hb dX11_setSheet_9 (by decide) (fun c_9 => ?_) (fun c_9 => ?_)
  · exact kt_throwW (mc := 1) (ms := 6) (own := RX11) (cls := "java/lang/IllegalArgumentException") (text := "a sheet is 20 to 2000 wide and long") hx hb hst hml hl.1 hts (by decide +kernel) (by decide +kernel) hown hTK hZ hS (by decide +kernel) (by decide +kernel) (thrB_RX11_61) (thrG_RX11_57_61) dX11_setSheet_24 dX11_setSheet_27 dX11_setSheet_28 dX11_setSheet_31 dX11_setSheet_34 hnt (Nat.le_of_ble_eq_true rfl) (Nat.le_of_ble_eq_true rfl) (Nat.le_of_ble_eq_true rfl) (Nat.le_of_ble_eq_true rfl) hlocks (by first | exact ⟨rfl, by assumption⟩ | exact ⟨rfl, Or.inl (by assumption)⟩ | exact ⟨rfl, Or.inr (by assumption)⟩ | exact Or.inl ⟨rfl, by assumption⟩ | exact Or.inl ⟨rfl, Or.inl (by assumption)⟩ | exact Or.inl ⟨rfl, Or.inr (by assumption)⟩ | exact Or.inr ⟨rfl, by assumption⟩ | exact Or.inr ⟨rfl, by assumption, by assumption⟩) (Nat.le_of_ble_eq_true rfl) (Nat.le_of_ble_eq_true rfl)
  · refine lv_iload_n hx hb dX11_setSheet_12 rfl (lv_at hl 2 rfl) ?_
    refine lv_bipush (v := 20) hx hb dX11_setSheet_13 (by decide) ?_
    refine lv_sipush (v := 2000) hx hb dX11_setSheet_15 (by decide) ?_
    refine kx_i (wc := []) (wr := wX ad) hP hD hS hA [] [0, 1, 2, 3, 4, 5] rfl rfl (by decide) (by decide) (va_runS (As := [.int p1, .int 20, .int 2000]) (rest := []) ⟨hx, hb, hml, hown, hts⟩ (c_isWithin l D de p1 20 2000 H.size) (va_cwS 3 hts gX11_setSheet_X11_isWithin rfl rfl rfl (by decide +kernel) ⟨Nat.le_of_ble_eq_true rfl, Nat.le_of_ble_eq_true rfl⟩) ⟨px_blind, (px_pre hP hD hK hS hA hTK hZ [] rfl rfl (by decide) [] rfl)⟩ rfl rfl hl.1 rfl (lv_room (Nat.le_of_ble_eq_true rfl)) dX11_setSheet_18 ⟨(Nat.le_of_ble_eq_true rfl), (Nat.le_of_ble_eq_true rfl)⟩) (fun r_2 u H locs hw hP hD hK1 hS => ?_)
    have hP : va_P D vwCl (wX ad) H := hP
    have hD : va_D A (wX ad) := hD
    obtain rfl : r_2 = inR p1 20 2000 := hw
    refine lv_if_ne (tgt := 35) hx hb dX11_setSheet_21 (by decide) (fun c_21 => ?_) (fun c_21 => ?_)
    · refine lv_aload_n hx hb dX11_setSheet_35 rfl (lv_at hl 0 rfl) ?_
      refine va_get (D := D) (ci := 16) (v := .ref (ad 4)) (C := RX11) (T := TX11) (N := 6) hx hb hts hin_RX11 hown hK hP 0 rfl rfl 3 (by decide) (hts (.fieldLink RX11 35 "Popupwright" "nets" "LPopupwright$Nets;") (by decide +kernel)) (fun _ h9 => h9) rfl dX11_setSheet_36 ?_
      refine va_get (D := D) (ci := 10) (v := .int 700) (C := RX5) (T := TX5) (N := 13) hx hb hts hin_RX5 hown hK hP 4 rfl rfl 10 (by decide) (hts (.fieldLink RX11 292 "Popupwright$Nets" "sheetLength" "I") (by decide +kernel)) (fun _ h9 => h9) rfl dX11_setSheet_39 ?_
      refine lv_istore_n (lv' := [(3, .int 700), (0, .ref (ad 0)), (1, .int p0), (2, .int p1)]) hx hb dX11_setSheet_42 rfl hl (by decide) rfl (fun ls hl => ?_)
      refine lv_aload_n hx hb dX11_setSheet_43 rfl (lv_at hl 1 rfl) ?_
      refine va_get (D := D) (ci := 16) (v := .ref (ad 4)) (C := RX11) (T := TX11) (N := 6) hx hb hts hin_RX11 hown hK hP 0 rfl rfl 3 (by decide) (hts (.fieldLink RX11 35 "Popupwright" "nets" "LPopupwright$Nets;") (by decide +kernel)) (fun _ h9 => h9) rfl dX11_setSheet_44 ?_
      refine lv_iload_n hx hb dX11_setSheet_47 rfl (lv_at hl 2 rfl) ?_
      refine va_put (D := D) (ci := 10) (v := .int p0) (ty := .int) (C := RX5) (T := TX5) (N := 13) hx hb hts hin_RX5 tyX5 tyX5_ok nmX5 hown hK hP hD hS 4 rfl rfl 9 (by decide) (hts (.fieldLink RX11 295 "Popupwright$Nets" "sheetWidth" "I") (by decide +kernel)) (fun _ h9 => h9) rfl (by decide +kernel) rfl rfl (Nat.le_of_ble_eq_true rfl) dX11_setSheet_48 (fun H locs hP hD hS => ?_)
      have hP : va_P D vwCl ([(ad 0, .inr (16, [.ref (ad 1), .ref (ad 2), .ref (ad 3), .ref (ad 4), .ref (ad 5), .ref (ad 6)])), (ad 1, .inr (5, [.ref (ad 7), .ref (ad 8), .ref (ad 9), .ref (ad 10), .ref (ad 11), .ref (ad 12), .int 0, .int 0, .int 0, .int 0, .int 200])), (ad 2, .inr (9, [.ref (ad 1), .ref (ad 13), .int 0])), (ad 3, .inr (13, [.ref (ad 14), .int 0])), (ad 4, .inr (10, [.ref (ad 1), .ref (ad 15), .ref (ad 16), .ref (ad 17), .ref (ad 18), .ref (ad 19), .ref (ad 20), .ref (ad 21), .ref (ad 22), .int p0, .int 700, .int 0, .int 0])), (ad 5, .inr (8, [.ref (ad 1), .ref (ad 23), .ref (ad 24), .ref (ad 25), .ref (ad 26), .ref (ad 27), .ref (ad 28), .int 10, .int 0]))]) H := hP
      have hD : va_D A ([(ad 0, .inr (16, [.ref (ad 1), .ref (ad 2), .ref (ad 3), .ref (ad 4), .ref (ad 5), .ref (ad 6)])), (ad 1, .inr (5, [.ref (ad 7), .ref (ad 8), .ref (ad 9), .ref (ad 10), .ref (ad 11), .ref (ad 12), .int 0, .int 0, .int 0, .int 0, .int 200])), (ad 2, .inr (9, [.ref (ad 1), .ref (ad 13), .int 0])), (ad 3, .inr (13, [.ref (ad 14), .int 0])), (ad 4, .inr (10, [.ref (ad 1), .ref (ad 15), .ref (ad 16), .ref (ad 17), .ref (ad 18), .ref (ad 19), .ref (ad 20), .ref (ad 21), .ref (ad 22), .int p0, .int 700, .int 0, .int 0])), (ad 5, .inr (8, [.ref (ad 1), .ref (ad 23), .ref (ad 24), .ref (ad 25), .ref (ad 26), .ref (ad 27), .ref (ad 28), .int 10, .int 0]))]) := hD
      refine lv_aload_n hx hb dX11_setSheet_51 rfl (lv_at hl 1 rfl) ?_
      refine va_get (D := D) (ci := 16) (v := .ref (ad 4)) (C := RX11) (T := TX11) (N := 6) hx hb hts hin_RX11 hown hK hP 0 rfl rfl 3 (by decide) (hts (.fieldLink RX11 35 "Popupwright" "nets" "LPopupwright$Nets;") (by decide +kernel)) (fun _ h9 => h9) rfl dX11_setSheet_52 ?_
      refine lv_iload_n hx hb dX11_setSheet_55 rfl (lv_at hl 3 rfl) ?_
      refine va_put (D := D) (ci := 10) (v := .int p1) (ty := .int) (C := RX5) (T := TX5) (N := 13) hx hb hts hin_RX5 tyX5 tyX5_ok nmX5 hown hK hP hD hS 4 rfl rfl 10 (by decide) (hts (.fieldLink RX11 292 "Popupwright$Nets" "sheetLength" "I") (by decide +kernel)) (fun _ h9 => h9) rfl (by decide +kernel) rfl rfl (Nat.le_of_ble_eq_true rfl) dX11_setSheet_56 (fun H locs hP hD hS => ?_)
      have hP : va_P D vwCl ([(ad 0, .inr (16, [.ref (ad 1), .ref (ad 2), .ref (ad 3), .ref (ad 4), .ref (ad 5), .ref (ad 6)])), (ad 1, .inr (5, [.ref (ad 7), .ref (ad 8), .ref (ad 9), .ref (ad 10), .ref (ad 11), .ref (ad 12), .int 0, .int 0, .int 0, .int 0, .int 200])), (ad 2, .inr (9, [.ref (ad 1), .ref (ad 13), .int 0])), (ad 3, .inr (13, [.ref (ad 14), .int 0])), (ad 4, .inr (10, [.ref (ad 1), .ref (ad 15), .ref (ad 16), .ref (ad 17), .ref (ad 18), .ref (ad 19), .ref (ad 20), .ref (ad 21), .ref (ad 22), .int p0, .int p1, .int 0, .int 0])), (ad 5, .inr (8, [.ref (ad 1), .ref (ad 23), .ref (ad 24), .ref (ad 25), .ref (ad 26), .ref (ad 27), .ref (ad 28), .int 10, .int 0]))]) H := hP
      have hD : va_D A ([(ad 0, .inr (16, [.ref (ad 1), .ref (ad 2), .ref (ad 3), .ref (ad 4), .ref (ad 5), .ref (ad 6)])), (ad 1, .inr (5, [.ref (ad 7), .ref (ad 8), .ref (ad 9), .ref (ad 10), .ref (ad 11), .ref (ad 12), .int 0, .int 0, .int 0, .int 0, .int 200])), (ad 2, .inr (9, [.ref (ad 1), .ref (ad 13), .int 0])), (ad 3, .inr (13, [.ref (ad 14), .int 0])), (ad 4, .inr (10, [.ref (ad 1), .ref (ad 15), .ref (ad 16), .ref (ad 17), .ref (ad 18), .ref (ad 19), .ref (ad 20), .ref (ad 21), .ref (ad 22), .int p0, .int p1, .int 0, .int 0])), (ad 5, .inr (8, [.ref (ad 1), .ref (ad 23), .ref (ad 24), .ref (ad 25), .ref (ad 26), .ref (ad 27), .ref (ad 28), .int 10, .int 0]))]) := hD
      refine lv_iload_n hx hb dX11_setSheet_59 rfl (lv_at hl 0 rfl) ?_
      refine W.widen (k := 1) (n := 6) (Nat.le_of_ble_eq_true rfl) (Nat.le_of_ble_eq_true rfl) ?_
      refine vx_ret ?_
      have hP9 := hP.sub (ws' := ([])) [] rfl
      have hD9 := hD.sub (ws' := ([])) [] (by decide) rfl
      have hK9 := hK.sub (tys' := []) [] rfl
      exact W.iret (v := 700) hx hb hr (fun t ht hW => ⟨⟨700, (), rfl, ⟨rfl, by assumption, by assumption⟩, ⟨by rw [ht]; exact hP9, va_K.moved hW.alike hK9, hD9⟩⟩, hS.F ht⟩) hS.2.2 dX11_setSheet_60 hlocks
    · exact kt_throwW (mc := 1) (ms := 6) (own := RX11) (cls := "java/lang/IllegalArgumentException") (text := "a sheet is 20 to 2000 wide and long") hx hb hst hml hl.1 hts (by decide +kernel) (by decide +kernel) hown hTK hZ hS (by decide +kernel) (by decide +kernel) (thrB_RX11_61) (thrG_RX11_57_61) dX11_setSheet_24 dX11_setSheet_27 dX11_setSheet_28 dX11_setSheet_31 dX11_setSheet_34 hnt (Nat.le_of_ble_eq_true rfl) (Nat.le_of_ble_eq_true rfl) (Nat.le_of_ble_eq_true rfl) (Nat.le_of_ble_eq_true rfl) hlocks (by first | exact ⟨rfl, by assumption⟩ | exact ⟨rfl, Or.inl (by assumption)⟩ | exact ⟨rfl, Or.inr (by assumption)⟩ | exact Or.inl ⟨rfl, by assumption⟩ | exact Or.inl ⟨rfl, Or.inl (by assumption)⟩ | exact Or.inl ⟨rfl, Or.inr (by assumption)⟩ | exact Or.inr ⟨rfl, by assumption⟩ | exact Or.inr ⟨rfl, by assumption, by assumption⟩) (Nat.le_of_ble_eq_true rfl) (Nat.le_of_ble_eq_true rfl)

set_option maxHeartbeats 4000000 in
set_option maxRecDepth 100000 in
theorem f_sheets (l : Launch) (D : va_G) (de : Nat) (ad : Nat → Nat) (sz : Nat) : Met l yX11_sheets wsX11_sheets ({ frames := 3, cells := 0, slots := 0, locals := 65 } : Room) (va_Pc [.ref (ad 0)] (PX de D ([]) (wX ad) sz)) (va_Qi (fun (r : Int32) (u : Unit) => r = 0) (fun u t => PW D ([]) (va_A (wX ad) sz) ([]) t) (va_A (wX ad) sz)) 0 0 (va_A (wX ad) sz) := by
  refine Met.ofW (cc := cX11_sheets) (maxL := 1) (ret := (some .int)) (by decide) rfl ?_
  intro p e s m args below meth c s₁ B hml hv
  obtain ⟨rfl, hsz, hP, hK, hD0, hTK, hZ⟩ := hv
  have hx := B.exec
  have hb := B.bytes
  have hr := B.returns
  have hts := atoms_spec (ws := wsX11_sheets) B.pre
  have hown : s.vm.findClass RX11 = some m.cls := findClass_of_methodNamed B.named
  have hlocks := B.notSynchronized
  have hin_RX11 : ∀ w ∈ u_ws RX11 TX11 6, w ∈ wsX11_sheets := by decide +kernel
  have hin_RX5 : ∀ w ∈ u_ws RX5 TX5 13, w ∈ wsX11_sheets := by decide +kernel
  subst hsz
  have hD := hD0.self (sz := s.heap.size)
  generalize hAe : va_A (wX ad) s.heap.size = A at hD hZ ⊢
  have hA : ∀ q : Nat, s.heap.size ≤ q → A q := fun q h => by rw [← hAe]; exact Or.inr h
  have hS : va_S A s.heap s.heap [] := va_S.rf
  have hP : va_P D vwCl (wX ad) s.heap := hP
  have hD : va_D A (wX ad) := hD
  have hl := lv_entry ([.ref (ad 0)]) (n := 1) (Nat.le_of_ble_eq_true rfl)
  rw [lg_entry_eq]
  generalize (lg_sl ([.ref (ad 0)]) ++ List.replicate (1 - (lg_sl ([.ref (ad 0)])).length) Slot.unset).toArray = ls at hl ⊢
  have hl : lv_has ls 1 [(0, .ref (ad 0))] := hl
  refine lv_aload_n hx hb dX11_sheets_0 rfl (lv_at hl 0 rfl) ?_
  refine kx_v (wc := wX ad) (wr := []) hP hD hS hA [0, 1, 2, 3, 4, 5] [] rfl rfl (by decide) (by decide) (va_runV (As := []) (rest := []) ⟨hx, hb, hml, hown, hts⟩ (c_layNets l D de ad s.heap.size) (cwV 0 hts gX11_sheets_X11_layNets rfl rfl rfl (by decide +kernel) ⟨Nat.le_of_ble_eq_true rfl, Nat.le_of_ble_eq_true rfl⟩) ⟨px_blind, (va_recv hK hP (ci := 16) (q0 := 0) rfl rfl), (px_pre hP hD hK hS hA hTK hZ [0, 1, 2, 3, 4, 5] rfl rfl (by decide) [] rfl)⟩ rfl rfl hl.1 rfl (lv_room (Nat.le_of_ble_eq_true rfl)) dX11_sheets_1 ⟨(Nat.le_of_ble_eq_true rfl), (Nat.le_of_ble_eq_true rfl)⟩) (fun u H locs hw hP hD hK1 hS => ?_)
  have hP : va_P D vwCl (wX ad) H := hP
  have hD : va_D A (wX ad) := hD
  refine lv_aload_n hx hb dX11_sheets_4 rfl (lv_at hl 0 rfl) ?_
  refine va_get (D := D) (ci := 16) (v := .ref (ad 4)) (C := RX11) (T := TX11) (N := 6) hx hb hts hin_RX11 hown hK hP 0 rfl rfl 3 (by decide) (hts (.fieldLink RX11 35 "Popupwright" "nets" "LPopupwright$Nets;") (by decide +kernel)) (fun _ h9 => h9) rfl dX11_sheets_5 ?_
  refine va_get (D := D) (ci := 10) (v := .int 0) (C := RX5) (T := TX5) (N := 13) hx hb hts hin_RX5 hown hK hP 4 rfl rfl 12 (by decide) (hts (.fieldLink RX11 301 "Popupwright$Nets" "sheetCount" "I") (by decide +kernel)) (fun _ h9 => h9) rfl dX11_sheets_8 ?_
  refine W.widen (k := 0) (n := 0) (Nat.le_of_ble_eq_true rfl) (Nat.le_of_ble_eq_true rfl) ?_
  have hP9 := hP.sub (ws' := ([])) [] rfl
  have hD9 := hD.sub (ws' := ([])) [] (by decide) rfl
  have hK9 := hK.sub (tys' := []) [] rfl
  exact W.iret (v := 0) hx hb hr (fun t ht hW => ⟨⟨0, (), rfl, rfl, ⟨by rw [ht]; exact hP9, va_K.moved hW.alike hK9, hD9⟩⟩, hS.F ht⟩) hS.2.2 dX11_sheets_11 hlocks

set_option maxHeartbeats 4000000 in
set_option maxRecDepth 100000 in
theorem f_netAt (l : Launch) (hst : l.stackTraces = false) (D : va_G) (de : Nat) (ad : Nat → Nat) (p0 p1 : Int32) (sz : Nat) : vx_Met l yX11_netAt wsX11_netAt ({ frames := 7, cells := 1, slots := 6, locals := 104 } : Room) (va_Pc [.ref (ad 0), .int p0, .int p1] (PX de D ([]) (wX ad) sz)) (va_Qi (fun (r : Int32) (u : Unit) => False) (fun u t => PW D ([]) (va_A (wX ad) sz) ([]) t) (va_A (wX ad) sz)) (XN (fun E => (E = "java/lang/IndexOutOfBoundsException" ∧ True)) (va_A (wX ad) sz)) 1 6 (va_A (wX ad) sz) := by
  refine vx_ofW (cc := cX11_netAt) (maxL := 3) (ret := (some .int)) (by decide) rfl ?_
  intro p e s m args below meth c s₁ B hml hnt hv
  obtain ⟨rfl, hsz, hP, hK, hD0, hTK, hZ⟩ := hv
  have hx := B.exec
  have hb := B.bytes
  have hr := B.returns
  have hts := atoms_spec (ws := wsX11_netAt) B.pre
  have hown : s.vm.findClass RX11 = some m.cls := findClass_of_methodNamed B.named
  have hlocks := B.notSynchronized
  subst hsz
  have hD := hD0.self (sz := s.heap.size)
  generalize hAe : va_A (wX ad) s.heap.size = A at hD hZ ⊢
  have hA : ∀ q : Nat, s.heap.size ≤ q → A q := fun q h => by rw [← hAe]; exact Or.inr h
  have hS : va_S A s.heap s.heap [] := va_S.rf
  have hP : va_P D vwCl (wX ad) s.heap := hP
  have hD : va_D A (wX ad) := hD
  have hl := lv_entry ([.ref (ad 0), .int p0, .int p1]) (n := 3) (Nat.le_of_ble_eq_true rfl)
  rw [lg_entry_eq]
  generalize (lg_sl ([.ref (ad 0), .int p0, .int p1]) ++ List.replicate (3 - (lg_sl ([.ref (ad 0), .int p0, .int p1])).length) Slot.unset).toArray = ls at hl ⊢
  have hl : lv_has ls 3 [(0, .ref (ad 0)), (1, .int p0), (2, .int p1)] := hl
  refine lv_aload_n hx hb dX11_netAt_0 rfl (lv_at hl 0 rfl) ?_
  refine lv_iload_n hx hb dX11_netAt_1 rfl (lv_at hl 1 rfl) ?_
  refine kt_q (wc := wX ad) (wr := []) hP hD hS hA [0, 1, 2, 3, 4, 5] [] rfl rfl (by decide) (by decide) (vx_runV (As := [.int p0]) (rest := []) ⟨hx, hb, hml, hown, hts⟩ (c_needFold l hst D de ad p0 s.heap.size) (cwV 1 hts gX11_netAt_X11_needFold rfl rfl rfl (by decide +kernel) ⟨Nat.le_of_ble_eq_true rfl, Nat.le_of_ble_eq_true rfl⟩) ⟨px_blind, (va_recv hK hP (ci := 16) (q0 := 0) rfl rfl), (px_pre hP hD hK hS hA hTK hZ [0, 1, 2, 3, 4, 5] rfl rfl (by decide) [] rfl)⟩ rfl rfl hl.1 rfl (lv_room (Nat.le_of_ble_eq_true rfl)) dX11_netAt_2 ⟨(Nat.le_of_ble_eq_true rfl), (Nat.le_of_ble_eq_true rfl)⟩) (fun E q9 H locs hE hq hP hD hS => ?_) (fun r_1 u H locs hw hP hD hK1 hS => hw.elim)
  exact kt_out hq hnt hlocks hS hE (Nat.le_of_ble_eq_true rfl) (Nat.le_of_ble_eq_true rfl)

set_option maxHeartbeats 4000000 in
set_option maxRecDepth 100000 in
theorem f_plates (l : Launch) (hst : l.stackTraces = false) (D : va_G) (de : Nat) (ad : Nat → Nat) (p0 : Int32) (sz : Nat) : vx_Met l yX11_plates wsX11_plates ({ frames := 6, cells := 1, slots := 6, locals := 82 } : Room) (va_Pc [.ref (ad 0), .int p0] (PX de D ([]) (wX ad) sz)) (va_Qi (fun (r : Int32) (u : Unit) => r = 0 ∧ ¬ inR p0 0 99 = 0) (fun u t => PW D ([]) (va_A (wX ad) sz) ([]) t) (va_A (wX ad) sz)) (XN (fun E => (E = "java/lang/IllegalArgumentException" ∧ inR p0 0 99 = 0)) (va_A (wX ad) sz)) 1 6 (va_A (wX ad) sz) := by
  refine vx_ofW (cc := cX11_plates) (maxL := 2) (ret := (some .int)) (by decide) rfl ?_
  intro p e s m args below meth c s₁ B hml hnt hv
  obtain ⟨rfl, hsz, hP, hK, hD0, hTK, hZ⟩ := hv
  have hx := B.exec
  have hb := B.bytes
  have hr := B.returns
  have hts := atoms_spec (ws := wsX11_plates) B.pre
  have hown : s.vm.findClass RX11 = some m.cls := findClass_of_methodNamed B.named
  have hlocks := B.notSynchronized
  have hin_RX11 : ∀ w ∈ u_ws RX11 TX11 6, w ∈ wsX11_plates := by decide +kernel
  subst hsz
  have hD := hD0.self (sz := s.heap.size)
  generalize hAe : va_A (wX ad) s.heap.size = A at hD hZ ⊢
  have hA : ∀ q : Nat, s.heap.size ≤ q → A q := fun q h => by rw [← hAe]; exact Or.inr h
  have hS : va_S A s.heap s.heap [] := va_S.rf
  have hP : va_P D vwCl (wX ad) s.heap := hP
  have hD : va_D A (wX ad) := hD
  have hl := lv_entry ([.ref (ad 0), .int p0]) (n := 2) (Nat.le_of_ble_eq_true rfl)
  rw [lg_entry_eq]
  generalize (lg_sl ([.ref (ad 0), .int p0]) ++ List.replicate (2 - (lg_sl ([.ref (ad 0), .int p0])).length) Slot.unset).toArray = ls at hl ⊢
  have hl : lv_has ls 2 [(0, .ref (ad 0)), (1, .int p0)] := hl
  refine lv_iload_n hx hb dX11_plates_0 rfl (lv_at hl 1 rfl) ?_
  refine lv_iconst (v := 0) hx hb dX11_plates_1 (by decide) ?_
  refine lv_bipush (v := 99) hx hb dX11_plates_2 (by decide) ?_
  refine kx_i (wc := []) (wr := wX ad) hP hD hS hA [] [0, 1, 2, 3, 4, 5] rfl rfl (by decide) (by decide) (va_runS (As := [.int p0, .int 0, .int 99]) (rest := []) ⟨hx, hb, hml, hown, hts⟩ (c_isWithin l D de p0 0 99 s.heap.size) (va_cwS 3 hts gX11_plates_X11_isWithin rfl rfl rfl (by decide +kernel) ⟨Nat.le_of_ble_eq_true rfl, Nat.le_of_ble_eq_true rfl⟩) ⟨px_blind, (px_pre hP hD hK hS hA hTK hZ [] rfl rfl (by decide) [] rfl)⟩ rfl rfl hl.1 rfl (lv_room (Nat.le_of_ble_eq_true rfl)) dX11_plates_4 ⟨(Nat.le_of_ble_eq_true rfl), (Nat.le_of_ble_eq_true rfl)⟩) (fun r_1 u H locs hw hP hD hK1 hS => ?_)
  have hP : va_P D vwCl (wX ad) H := hP
  have hD : va_D A (wX ad) := hD
  obtain rfl : r_1 = inR p0 0 99 := hw
  refine lv_if_ne (tgt := 21) hx hb dX11_plates_7 (by decide) (fun c_7 => ?_) (fun c_7 => ?_)
  · refine lv_aload_n hx hb dX11_plates_21 rfl (lv_at hl 0 rfl) ?_
    refine kx_v (wc := wX ad) (wr := []) hP hD hS hA [0, 1, 2, 3, 4, 5] [] rfl rfl (by decide) (by decide) (va_runV (As := []) (rest := []) ⟨hx, hb, hml, hown, hts⟩ (c_layNets l D de ad H.size) (cwV 0 hts gX11_plates_X11_layNets rfl rfl rfl (by decide +kernel) ⟨Nat.le_of_ble_eq_true rfl, Nat.le_of_ble_eq_true rfl⟩) ⟨px_blind, (va_recv hK hP (ci := 16) (q0 := 0) rfl rfl), (px_pre hP hD hK hS hA hTK hZ [0, 1, 2, 3, 4, 5] rfl rfl (by decide) [] rfl)⟩ rfl rfl hl.1 rfl (lv_room (Nat.le_of_ble_eq_true rfl)) dX11_plates_22 ⟨(Nat.le_of_ble_eq_true rfl), (Nat.le_of_ble_eq_true rfl)⟩) (fun u H locs hw hP hD hK1 hS => ?_)
    have hP : va_P D vwCl (wX ad) H := hP
    have hD : va_D A (wX ad) := hD
    refine lv_aload_n hx hb dX11_plates_25 rfl (lv_at hl 0 rfl) ?_
    refine va_get (D := D) (ci := 16) (v := .ref (ad 4)) (C := RX11) (T := TX11) (N := 6) hx hb hts hin_RX11 hown hK hP 0 rfl rfl 3 (by decide) (hts (.fieldLink RX11 35 "Popupwright" "nets" "LPopupwright$Nets;") (by decide +kernel)) (fun _ h9 => h9) rfl dX11_plates_26 ?_
    refine lv_aload_n hx hb dX11_plates_29 rfl (lv_at hl 0 rfl) ?_
    refine va_get (D := D) (ci := 16) (v := .ref (ad 2)) (C := RX11) (T := TX11) (N := 6) hx hb hts hin_RX11 hown hK hP 0 rfl rfl 1 (by decide) (hts (.fieldLink RX11 21 "Popupwright" "layers" "LPopupwright$Layers;") (by decide +kernel)) (fun _ h9 => h9) rfl dX11_plates_30 ?_
    refine lv_iload_n hx hb dX11_plates_33 rfl (lv_at hl 1 rfl) ?_
    refine kx_i (wc := wX ad) (wr := []) hP hD hS hA [0, 1, 2, 3, 4, 5] [] rfl rfl (by decide) (by decide) (va_runV (As := [.ref (ad 2), .int p0]) (rest := []) ⟨hx, hb, hml, hown, hts⟩ (c_plateCount l D de ad p0 H.size) (cwV 2 hts gX11_plates_X5_plateCount rfl rfl rfl (by decide +kernel) ⟨Nat.le_of_ble_eq_true rfl, Nat.le_of_ble_eq_true rfl⟩) ⟨px_blind, (va_recv hK hP (ci := 10) (q0 := 4) rfl rfl), (px_pre hP hD hK hS hA hTK hZ [0, 1, 2, 3, 4, 5] rfl rfl (by decide) [] rfl)⟩ rfl rfl hl.1 rfl (lv_room (Nat.le_of_ble_eq_true rfl)) dX11_plates_34 ⟨(Nat.le_of_ble_eq_true rfl), (Nat.le_of_ble_eq_true rfl)⟩) (fun r_3 u H locs hw hP hD hK1 hS => ?_)
    have hP : va_P D vwCl (wX ad) H := hP
    have hD : va_D A (wX ad) := hD
    obtain rfl : r_3 = 0 := hw
    refine W.widen (k := 1) (n := 6) (Nat.le_of_ble_eq_true rfl) (Nat.le_of_ble_eq_true rfl) ?_
    refine vx_ret ?_
    have hP9 := hP.sub (ws' := ([])) [] rfl
    have hD9 := hD.sub (ws' := ([])) [] (by decide) rfl
    have hK9 := hK.sub (tys' := []) [] rfl
    exact W.iret (v := 0) hx hb hr (fun t ht hW => ⟨⟨0, (), rfl, ⟨rfl, by assumption⟩, ⟨by rw [ht]; exact hP9, va_K.moved hW.alike hK9, hD9⟩⟩, hS.F ht⟩) hS.2.2 dX11_plates_37 hlocks
  · exact kt_throwW (mc := 1) (ms := 6) (own := RX11) (cls := "java/lang/IllegalArgumentException") (text := "0 to 99 is added") hx hb hst hml hl.1 hts (by decide +kernel) (by decide +kernel) hown hTK hZ hS (by decide +kernel) (by decide +kernel) (thrB_RX11_61) (thrG_RX11_57_61) dX11_plates_10 dX11_plates_13 dX11_plates_14 dX11_plates_17 dX11_plates_20 hnt (Nat.le_of_ble_eq_true rfl) (Nat.le_of_ble_eq_true rfl) (Nat.le_of_ble_eq_true rfl) (Nat.le_of_ble_eq_true rfl) hlocks (by first | exact ⟨rfl, by assumption⟩ | exact ⟨rfl, Or.inl (by assumption)⟩ | exact ⟨rfl, Or.inr (by assumption)⟩ | exact Or.inl ⟨rfl, by assumption⟩ | exact Or.inl ⟨rfl, Or.inl (by assumption)⟩ | exact Or.inl ⟨rfl, Or.inr (by assumption)⟩ | exact Or.inr ⟨rfl, by assumption⟩ | exact Or.inr ⟨rfl, by assumption, by assumption⟩) (Nat.le_of_ble_eq_true rfl) (Nat.le_of_ble_eq_true rfl)

set_option maxHeartbeats 4000000 in
set_option maxRecDepth 100000 in
theorem f_setGlue (l : Launch) (hst : l.stackTraces = false) (D : va_G) (de : Nat) (ad : Nat → Nat) (p0 : Int32) (sz : Nat) : vx_Met l yX11_setGlue wsX11_setGlue ({ frames := 6, cells := 1, slots := 6, locals := 82 } : Room) (va_Pc [.ref (ad 0), .int p0] (PX de D ([]) (wX ad) sz)) (va_Qi (fun (r : Int32) (u : Unit) => r = 10 ∧ ¬ inR p0 0 99 = 0) (fun u t => PW D ([]) (va_A (wX ad) sz) ([]) t) (va_A (wX ad) sz)) (XN (fun E => (E = "java/lang/IllegalArgumentException" ∧ inR p0 0 99 = 0)) (va_A (wX ad) sz)) 1 6 (va_A (wX ad) sz) := by
  refine vx_ofW (cc := cX11_setGlue) (maxL := 3) (ret := (some .int)) (by decide) rfl ?_
  intro p e s m args below meth c s₁ B hml hnt hv
  obtain ⟨rfl, hsz, hP, hK, hD0, hTK, hZ⟩ := hv
  have hx := B.exec
  have hb := B.bytes
  have hr := B.returns
  have hts := atoms_spec (ws := wsX11_setGlue) B.pre
  have hown : s.vm.findClass RX11 = some m.cls := findClass_of_methodNamed B.named
  have hlocks := B.notSynchronized
  have hin_RX11 : ∀ w ∈ u_ws RX11 TX11 6, w ∈ wsX11_setGlue := by decide +kernel
  have hin_RX3 : ∀ w ∈ u_ws RX3 TX3 9, w ∈ wsX11_setGlue := by decide +kernel
  subst hsz
  have hD := hD0.self (sz := s.heap.size)
  generalize hAe : va_A (wX ad) s.heap.size = A at hD hZ ⊢
  have hA : ∀ q : Nat, s.heap.size ≤ q → A q := fun q h => by rw [← hAe]; exact Or.inr h
  have hS : va_S A s.heap s.heap [] := va_S.rf
  have hP : va_P D vwCl (wX ad) s.heap := hP
  have hD : va_D A (wX ad) := hD
  have hl := lv_entry ([.ref (ad 0), .int p0]) (n := 3) (Nat.le_of_ble_eq_true rfl)
  rw [lg_entry_eq]
  generalize (lg_sl ([.ref (ad 0), .int p0]) ++ List.replicate (3 - (lg_sl ([.ref (ad 0), .int p0])).length) Slot.unset).toArray = ls at hl ⊢
  have hl : lv_has ls 3 [(0, .ref (ad 0)), (1, .int p0)] := hl
  refine lv_iload_n hx hb dX11_setGlue_0 rfl (lv_at hl 1 rfl) ?_
  refine lv_iconst (v := 0) hx hb dX11_setGlue_1 (by decide) ?_
  refine lv_bipush (v := 99) hx hb dX11_setGlue_2 (by decide) ?_
  refine kx_i (wc := []) (wr := wX ad) hP hD hS hA [] [0, 1, 2, 3, 4, 5] rfl rfl (by decide) (by decide) (va_runS (As := [.int p0, .int 0, .int 99]) (rest := []) ⟨hx, hb, hml, hown, hts⟩ (c_isWithin l D de p0 0 99 s.heap.size) (va_cwS 3 hts gX11_setGlue_X11_isWithin rfl rfl rfl (by decide +kernel) ⟨Nat.le_of_ble_eq_true rfl, Nat.le_of_ble_eq_true rfl⟩) ⟨px_blind, (px_pre hP hD hK hS hA hTK hZ [] rfl rfl (by decide) [] rfl)⟩ rfl rfl hl.1 rfl (lv_room (Nat.le_of_ble_eq_true rfl)) dX11_setGlue_4 ⟨(Nat.le_of_ble_eq_true rfl), (Nat.le_of_ble_eq_true rfl)⟩) (fun r_1 u H locs hw hP hD hK1 hS => ?_)
  have hP : va_P D vwCl (wX ad) H := hP
  have hD : va_D A (wX ad) := hD
  obtain rfl : r_1 = inR p0 0 99 := hw
  refine lv_if_ne (tgt := 21) hx hb dX11_setGlue_7 (by decide) (fun c_7 => ?_) (fun c_7 => ?_)
  · refine lv_aload_n hx hb dX11_setGlue_21 rfl (lv_at hl 0 rfl) ?_
    refine va_get (D := D) (ci := 16) (v := .ref (ad 5)) (C := RX11) (T := TX11) (N := 6) hx hb hts hin_RX11 hown hK hP 0 rfl rfl 4 (by decide) (hts (.fieldLink RX11 42 "Popupwright" "hands" "LPopupwright$Hands;") (by decide +kernel)) (fun _ h9 => h9) rfl dX11_setGlue_22 ?_
    refine va_get (D := D) (ci := 8) (v := .int 10) (C := RX3) (T := TX3) (N := 9) hx hb hts hin_RX3 hown hK hP 5 rfl rfl 7 (by decide) (hts (.fieldLink RX11 318 "Popupwright$Hands" "drying" "I") (by decide +kernel)) (fun _ h9 => h9) rfl dX11_setGlue_25 ?_
    refine lv_istore_n (lv' := [(2, .int 10), (0, .ref (ad 0)), (1, .int p0)]) hx hb dX11_setGlue_28 rfl hl (by decide) rfl (fun ls hl => ?_)
    refine lv_aload_n hx hb dX11_setGlue_29 rfl (lv_at hl 1 rfl) ?_
    refine va_get (D := D) (ci := 16) (v := .ref (ad 5)) (C := RX11) (T := TX11) (N := 6) hx hb hts hin_RX11 hown hK hP 0 rfl rfl 4 (by decide) (hts (.fieldLink RX11 42 "Popupwright" "hands" "LPopupwright$Hands;") (by decide +kernel)) (fun _ h9 => h9) rfl dX11_setGlue_30 ?_
    refine lv_iload_n hx hb dX11_setGlue_33 rfl (lv_at hl 2 rfl) ?_
    refine va_put (D := D) (ci := 8) (v := .int p0) (ty := .int) (C := RX3) (T := TX3) (N := 9) hx hb hts hin_RX3 tyX3 tyX3_ok nmX3 hown hK hP hD hS 5 rfl rfl 7 (by decide) (hts (.fieldLink RX11 318 "Popupwright$Hands" "drying" "I") (by decide +kernel)) (fun _ h9 => h9) rfl (by decide +kernel) rfl rfl (Nat.le_of_ble_eq_true rfl) dX11_setGlue_34 (fun H locs hP hD hS => ?_)
    have hP : va_P D vwCl ([(ad 0, .inr (16, [.ref (ad 1), .ref (ad 2), .ref (ad 3), .ref (ad 4), .ref (ad 5), .ref (ad 6)])), (ad 1, .inr (5, [.ref (ad 7), .ref (ad 8), .ref (ad 9), .ref (ad 10), .ref (ad 11), .ref (ad 12), .int 0, .int 0, .int 0, .int 0, .int 200])), (ad 2, .inr (9, [.ref (ad 1), .ref (ad 13), .int 0])), (ad 3, .inr (13, [.ref (ad 14), .int 0])), (ad 4, .inr (10, [.ref (ad 1), .ref (ad 15), .ref (ad 16), .ref (ad 17), .ref (ad 18), .ref (ad 19), .ref (ad 20), .ref (ad 21), .ref (ad 22), .int 500, .int 700, .int 0, .int 0])), (ad 5, .inr (8, [.ref (ad 1), .ref (ad 23), .ref (ad 24), .ref (ad 25), .ref (ad 26), .ref (ad 27), .ref (ad 28), .int p0, .int 0]))]) H := hP
    have hD : va_D A ([(ad 0, .inr (16, [.ref (ad 1), .ref (ad 2), .ref (ad 3), .ref (ad 4), .ref (ad 5), .ref (ad 6)])), (ad 1, .inr (5, [.ref (ad 7), .ref (ad 8), .ref (ad 9), .ref (ad 10), .ref (ad 11), .ref (ad 12), .int 0, .int 0, .int 0, .int 0, .int 200])), (ad 2, .inr (9, [.ref (ad 1), .ref (ad 13), .int 0])), (ad 3, .inr (13, [.ref (ad 14), .int 0])), (ad 4, .inr (10, [.ref (ad 1), .ref (ad 15), .ref (ad 16), .ref (ad 17), .ref (ad 18), .ref (ad 19), .ref (ad 20), .ref (ad 21), .ref (ad 22), .int 500, .int 700, .int 0, .int 0])), (ad 5, .inr (8, [.ref (ad 1), .ref (ad 23), .ref (ad 24), .ref (ad 25), .ref (ad 26), .ref (ad 27), .ref (ad 28), .int p0, .int 0]))]) := hD
    refine lv_iload_n hx hb dX11_setGlue_37 rfl (lv_at hl 0 rfl) ?_
    refine W.widen (k := 1) (n := 6) (Nat.le_of_ble_eq_true rfl) (Nat.le_of_ble_eq_true rfl) ?_
    refine vx_ret ?_
    have hP9 := hP.sub (ws' := ([])) [] rfl
    have hD9 := hD.sub (ws' := ([])) [] (by decide) rfl
    have hK9 := hK.sub (tys' := []) [] rfl
    exact W.iret (v := 10) hx hb hr (fun t ht hW => ⟨⟨10, (), rfl, ⟨rfl, by assumption⟩, ⟨by rw [ht]; exact hP9, va_K.moved hW.alike hK9, hD9⟩⟩, hS.F ht⟩) hS.2.2 dX11_setGlue_38 hlocks
  · exact kt_throwW (mc := 1) (ms := 6) (own := RX11) (cls := "java/lang/IllegalArgumentException") (text := "glue dries in 0 to 99 minutes") hx hb hst hml hl.1 hts (by decide +kernel) (by decide +kernel) hown hTK hZ hS (by decide +kernel) (by decide +kernel) (thrB_RX11_61) (thrG_RX11_57_61) dX11_setGlue_10 dX11_setGlue_13 dX11_setGlue_14 dX11_setGlue_17 dX11_setGlue_20 hnt (Nat.le_of_ble_eq_true rfl) (Nat.le_of_ble_eq_true rfl) (Nat.le_of_ble_eq_true rfl) (Nat.le_of_ble_eq_true rfl) hlocks (by first | exact ⟨rfl, by assumption⟩ | exact ⟨rfl, Or.inl (by assumption)⟩ | exact ⟨rfl, Or.inr (by assumption)⟩ | exact Or.inl ⟨rfl, by assumption⟩ | exact Or.inl ⟨rfl, Or.inl (by assumption)⟩ | exact Or.inl ⟨rfl, Or.inr (by assumption)⟩ | exact Or.inr ⟨rfl, by assumption⟩ | exact Or.inr ⟨rfl, by assumption, by assumption⟩) (Nat.le_of_ble_eq_true rfl) (Nat.le_of_ble_eq_true rfl)

set_option maxHeartbeats 4000000 in
set_option maxRecDepth 100000 in
theorem f_orderAt (l : Launch) (hst : l.stackTraces = false) (D : va_G) (de : Nat) (ad : Nat → Nat) (p0 : Int32) (sz : Nat) : vx_Met l yX11_orderAt wnX11_orderAt ({ frames := 6, cells := 1, slots := 6, locals := 82 } : Room) (va_Pc [.ref (ad 0), .int p0] (PX de D ([]) (wX ad) sz)) (va_Qi (fun (r : Int32) (u : Unit) => False) (fun u t => PW D ([]) (va_A (wX ad) sz) ([]) t) (va_A (wX ad) sz)) (XN (fun E => (E = "java/util/NoSuchElementException" ∧ True)) (va_A (wX ad) sz)) 1 6 (va_A (wX ad) sz) := by
  refine vx_ofW (cc := cX11_orderAt) (maxL := 2) (ret := (some .int)) (by decide) rfl ?_
  intro p e s m args below meth c s₁ B hml hnt hv
  obtain ⟨rfl, hsz, hP, hK, hD0, hTK, hZ⟩ := hv
  have hx := B.exec
  have hb := B.bytes
  have hr := B.returns
  have hts := atoms_spec (ws := wnX11_orderAt) B.pre
  have hown : s.vm.findClass RX11 = some m.cls := findClass_of_methodNamed B.named
  have hlocks := B.notSynchronized
  have hin_RX0 : ∀ w ∈ u_ws RX0 TX0 11, w ∈ wnX11_orderAt := by decide +kernel
  have hin_RX11 : ∀ w ∈ u_ws RX11 TX11 6, w ∈ wnX11_orderAt := by decide +kernel
  subst hsz
  have hD := hD0.self (sz := s.heap.size)
  generalize hAe : va_A (wX ad) s.heap.size = A at hD hZ ⊢
  have hA : ∀ q : Nat, s.heap.size ≤ q → A q := fun q h => by rw [← hAe]; exact Or.inr h
  have hS : va_S A s.heap s.heap [] := va_S.rf
  have hP : va_P D vwCl (wX ad) s.heap := hP
  have hD : va_D A (wX ad) := hD
  have hl := lv_entry ([.ref (ad 0), .int p0]) (n := 2) (Nat.le_of_ble_eq_true rfl)
  rw [lg_entry_eq]
  generalize (lg_sl ([.ref (ad 0), .int p0]) ++ List.replicate (2 - (lg_sl ([.ref (ad 0), .int p0])).length) Slot.unset).toArray = ls at hl ⊢
  have hl : lv_has ls 2 [(0, .ref (ad 0)), (1, .int p0)] := hl
  refine lv_iload_n hx hb dX11_orderAt_0 rfl (lv_at hl 1 rfl) ?_
  refine lv_if_lt (tgt := 15) hx hb dX11_orderAt_1 (by decide) (fun c_1 => ?_) (fun c_1 => ?_)
  · exact kn_throwW (mc := 1) (ms := 6) (text := "no such fold in the order") hx hb hst hml hl.1 (hts (.classLink RX11 183 "java/util/NoSuchElementException") (by decide +kernel)) (hts (.initialized "java/util/NoSuchElementException") (by decide +kernel)) hown hTK hZ hS (by decide +kernel)  dX11_orderAt_15 dX11_orderAt_18 dX11_orderAt_19 dX11_orderAt_22 dX11_orderAt_25 hnt (Nat.le_of_ble_eq_true rfl) (Nat.le_of_ble_eq_true rfl) (Nat.le_of_ble_eq_true rfl) (Nat.le_of_ble_eq_true rfl) hlocks (⟨rfl, trivial⟩) (Nat.le_of_ble_eq_true rfl) (Nat.le_of_ble_eq_true rfl)
  · refine lv_iload_n hx hb dX11_orderAt_4 rfl (lv_at hl 1 rfl) ?_
    refine lv_aload_n hx hb dX11_orderAt_5 rfl (lv_at hl 0 rfl) ?_
    refine va_get (D := D) (ci := 16) (v := .ref (ad 1)) (C := RX11) (T := TX11) (N := 6) hx hb hts hin_RX11 hown hK hP 0 rfl rfl 0 (by decide) (hts (.fieldLink RX11 10 "Popupwright" "book" "LPopupwright$Book;") (by decide +kernel)) (fun _ h9 => h9) rfl dX11_orderAt_6 ?_
    refine va_get (D := D) (ci := 5) (v := .int 0) (C := RX0) (T := TX0) (N := 11) hx hb hts hin_RX0 hown hK hP 1 rfl rfl 9 (by decide) (hts (.fieldLink RX11 64 "Popupwright$Book" "count" "I") (by decide +kernel)) (fun _ h9 => h9) rfl dX11_orderAt_9 ?_
    refine lv_icmp_lt (tgt := 26) hx hb dX11_orderAt_12 (by decide) (fun c_12 => (c_1 c_12).elim) (fun c_12 => ?_)
    exact kn_throwW (mc := 1) (ms := 6) (text := "no such fold in the order") hx hb hst hml hl.1 (hts (.classLink RX11 183 "java/util/NoSuchElementException") (by decide +kernel)) (hts (.initialized "java/util/NoSuchElementException") (by decide +kernel)) hown hTK hZ hS (by decide +kernel)  dX11_orderAt_15 dX11_orderAt_18 dX11_orderAt_19 dX11_orderAt_22 dX11_orderAt_25 hnt (Nat.le_of_ble_eq_true rfl) (Nat.le_of_ble_eq_true rfl) (Nat.le_of_ble_eq_true rfl) (Nat.le_of_ble_eq_true rfl) hlocks (⟨rfl, trivial⟩) (Nat.le_of_ble_eq_true rfl) (Nat.le_of_ble_eq_true rfl)

set_option maxHeartbeats 4000000 in
set_option maxRecDepth 100000 in
theorem f_begunAt (l : Launch) (hst : l.stackTraces = false) (D : va_G) (de : Nat) (ad : Nat → Nat) (p0 : Int32) (sz : Nat) : vx_Met l yX11_begunAt wsX11_begunAt ({ frames := 7, cells := 1, slots := 6, locals := 104 } : Room) (va_Pc [.ref (ad 0), .int p0] (PX de D ([]) (wX ad) sz)) (va_Qi (fun (r : Int32) (u : Unit) => False) (fun u t => PW D ([]) (va_A (wX ad) sz) ([]) t) (va_A (wX ad) sz)) (XN (fun E => (E = "java/lang/IndexOutOfBoundsException" ∧ True)) (va_A (wX ad) sz)) 1 6 (va_A (wX ad) sz) := by
  refine vx_ofW (cc := cX11_begunAt) (maxL := 2) (ret := (some .int)) (by decide) rfl ?_
  intro p e s m args below meth c s₁ B hml hnt hv
  obtain ⟨rfl, hsz, hP, hK, hD0, hTK, hZ⟩ := hv
  have hx := B.exec
  have hb := B.bytes
  have hr := B.returns
  have hts := atoms_spec (ws := wsX11_begunAt) B.pre
  have hown : s.vm.findClass RX11 = some m.cls := findClass_of_methodNamed B.named
  have hlocks := B.notSynchronized
  subst hsz
  have hD := hD0.self (sz := s.heap.size)
  generalize hAe : va_A (wX ad) s.heap.size = A at hD hZ ⊢
  have hA : ∀ q : Nat, s.heap.size ≤ q → A q := fun q h => by rw [← hAe]; exact Or.inr h
  have hS : va_S A s.heap s.heap [] := va_S.rf
  have hP : va_P D vwCl (wX ad) s.heap := hP
  have hD : va_D A (wX ad) := hD
  have hl := lv_entry ([.ref (ad 0), .int p0]) (n := 2) (Nat.le_of_ble_eq_true rfl)
  rw [lg_entry_eq]
  generalize (lg_sl ([.ref (ad 0), .int p0]) ++ List.replicate (2 - (lg_sl ([.ref (ad 0), .int p0])).length) Slot.unset).toArray = ls at hl ⊢
  have hl : lv_has ls 2 [(0, .ref (ad 0)), (1, .int p0)] := hl
  refine lv_aload_n hx hb dX11_begunAt_0 rfl (lv_at hl 0 rfl) ?_
  refine lv_iload_n hx hb dX11_begunAt_1 rfl (lv_at hl 1 rfl) ?_
  refine kt_q (wc := wX ad) (wr := []) hP hD hS hA [0, 1, 2, 3, 4, 5] [] rfl rfl (by decide) (by decide) (vx_runV (As := [.int p0]) (rest := []) ⟨hx, hb, hml, hown, hts⟩ (c_needFold l hst D de ad p0 s.heap.size) (cwV 1 hts gX11_begunAt_X11_needFold rfl rfl rfl (by decide +kernel) ⟨Nat.le_of_ble_eq_true rfl, Nat.le_of_ble_eq_true rfl⟩) ⟨px_blind, (va_recv hK hP (ci := 16) (q0 := 0) rfl rfl), (px_pre hP hD hK hS hA hTK hZ [0, 1, 2, 3, 4, 5] rfl rfl (by decide) [] rfl)⟩ rfl rfl hl.1 rfl (lv_room (Nat.le_of_ble_eq_true rfl)) dX11_begunAt_2 ⟨(Nat.le_of_ble_eq_true rfl), (Nat.le_of_ble_eq_true rfl)⟩) (fun E q9 H locs hE hq hP hD hS => ?_) (fun r_1 u H locs hw hP hD hK1 hS => hw.elim)
  exact kt_out hq hnt hlocks hS hE (Nat.le_of_ble_eq_true rfl) (Nat.le_of_ble_eq_true rfl)

set_option maxHeartbeats 4000000 in
set_option maxRecDepth 100000 in
theorem f_waiting (l : Launch) (hst : l.stackTraces = false) (D : va_G) (de : Nat) (ad : Nat → Nat) (p0 : Int32) (sz : Nat) : vx_Met l yX11_waiting wsX11_waiting ({ frames := 7, cells := 1, slots := 6, locals := 104 } : Room) (va_Pc [.ref (ad 0), .int p0] (PX de D ([]) (wX ad) sz)) (va_Qi (fun (r : Int32) (u : Unit) => False) (fun u t => PW D ([]) (va_A (wX ad) sz) ([]) t) (va_A (wX ad) sz)) (XN (fun E => (E = "java/lang/IndexOutOfBoundsException" ∧ True)) (va_A (wX ad) sz)) 1 6 (va_A (wX ad) sz) := by
  refine vx_ofW (cc := cX11_waiting) (maxL := 2) (ret := (some .int)) (by decide) rfl ?_
  intro p e s m args below meth c s₁ B hml hnt hv
  obtain ⟨rfl, hsz, hP, hK, hD0, hTK, hZ⟩ := hv
  have hx := B.exec
  have hb := B.bytes
  have hr := B.returns
  have hts := atoms_spec (ws := wsX11_waiting) B.pre
  have hown : s.vm.findClass RX11 = some m.cls := findClass_of_methodNamed B.named
  have hlocks := B.notSynchronized
  subst hsz
  have hD := hD0.self (sz := s.heap.size)
  generalize hAe : va_A (wX ad) s.heap.size = A at hD hZ ⊢
  have hA : ∀ q : Nat, s.heap.size ≤ q → A q := fun q h => by rw [← hAe]; exact Or.inr h
  have hS : va_S A s.heap s.heap [] := va_S.rf
  have hP : va_P D vwCl (wX ad) s.heap := hP
  have hD : va_D A (wX ad) := hD
  have hl := lv_entry ([.ref (ad 0), .int p0]) (n := 2) (Nat.le_of_ble_eq_true rfl)
  rw [lg_entry_eq]
  generalize (lg_sl ([.ref (ad 0), .int p0]) ++ List.replicate (2 - (lg_sl ([.ref (ad 0), .int p0])).length) Slot.unset).toArray = ls at hl ⊢
  have hl : lv_has ls 2 [(0, .ref (ad 0)), (1, .int p0)] := hl
  refine lv_aload_n hx hb dX11_waiting_0 rfl (lv_at hl 0 rfl) ?_
  refine lv_iload_n hx hb dX11_waiting_1 rfl (lv_at hl 1 rfl) ?_
  refine kt_q (wc := wX ad) (wr := []) hP hD hS hA [0, 1, 2, 3, 4, 5] [] rfl rfl (by decide) (by decide) (vx_runV (As := [.int p0]) (rest := []) ⟨hx, hb, hml, hown, hts⟩ (c_needFold l hst D de ad p0 s.heap.size) (cwV 1 hts gX11_waiting_X11_needFold rfl rfl rfl (by decide +kernel) ⟨Nat.le_of_ble_eq_true rfl, Nat.le_of_ble_eq_true rfl⟩) ⟨px_blind, (va_recv hK hP (ci := 16) (q0 := 0) rfl rfl), (px_pre hP hD hK hS hA hTK hZ [0, 1, 2, 3, 4, 5] rfl rfl (by decide) [] rfl)⟩ rfl rfl hl.1 rfl (lv_room (Nat.le_of_ble_eq_true rfl)) dX11_waiting_2 ⟨(Nat.le_of_ble_eq_true rfl), (Nat.le_of_ble_eq_true rfl)⟩) (fun E q9 H locs hE hq hP hD hS => ?_) (fun r_1 u H locs hw hP hD hK1 hS => hw.elim)
  exact kt_out hq hnt hlocks hS hE (Nat.le_of_ble_eq_true rfl) (Nat.le_of_ble_eq_true rfl)

set_option maxHeartbeats 4000000 in
set_option maxRecDepth 100000 in
theorem f_makingTime (l : Launch) (D : va_G) (de : Nat) (ad : Nat → Nat) (sz : Nat) : Met l yX11_makingTime wsX11_makingTime ({ frames := 2, cells := 0, slots := 0, locals := 45 } : Room) (va_Pc [.ref (ad 0)] (PX de D ([]) (wX ad) sz)) (va_Qi (fun (r : Int32) (u : Unit) => r = 0) (fun u t => PW D ([]) (va_A (wX ad) sz) ([]) t) (va_A (wX ad) sz)) 0 0 (va_A (wX ad) sz) := by
  refine Met.ofW (cc := cX11_makingTime) (maxL := 1) (ret := (some .int)) (by decide) rfl ?_
  intro p e s m args below meth c s₁ B hml hv
  obtain ⟨rfl, hsz, hP, hK, hD0, hTK, hZ⟩ := hv
  have hx := B.exec
  have hb := B.bytes
  have hr := B.returns
  have hts := atoms_spec (ws := wsX11_makingTime) B.pre
  have hown : s.vm.findClass RX11 = some m.cls := findClass_of_methodNamed B.named
  have hlocks := B.notSynchronized
  have hin_RX11 : ∀ w ∈ u_ws RX11 TX11 6, w ∈ wsX11_makingTime := by decide +kernel
  have hin_RX3 : ∀ w ∈ u_ws RX3 TX3 9, w ∈ wsX11_makingTime := by decide +kernel
  subst hsz
  have hD := hD0.self (sz := s.heap.size)
  generalize hAe : va_A (wX ad) s.heap.size = A at hD hZ ⊢
  have hA : ∀ q : Nat, s.heap.size ≤ q → A q := fun q h => by rw [← hAe]; exact Or.inr h
  have hS : va_S A s.heap s.heap [] := va_S.rf
  have hP : va_P D vwCl (wX ad) s.heap := hP
  have hD : va_D A (wX ad) := hD
  have hl := lv_entry ([.ref (ad 0)]) (n := 1) (Nat.le_of_ble_eq_true rfl)
  rw [lg_entry_eq]
  generalize (lg_sl ([.ref (ad 0)]) ++ List.replicate (1 - (lg_sl ([.ref (ad 0)])).length) Slot.unset).toArray = ls at hl ⊢
  have hl : lv_has ls 1 [(0, .ref (ad 0))] := hl
  refine lv_aload_n hx hb dX11_makingTime_0 rfl (lv_at hl 0 rfl) ?_
  refine va_get (D := D) (ci := 16) (v := .ref (ad 5)) (C := RX11) (T := TX11) (N := 6) hx hb hts hin_RX11 hown hK hP 0 rfl rfl 4 (by decide) (hts (.fieldLink RX11 42 "Popupwright" "hands" "LPopupwright$Hands;") (by decide +kernel)) (fun _ h9 => h9) rfl dX11_makingTime_1 ?_
  refine kx_v (wc := wX ad) (wr := []) hP hD hS hA [0, 1, 2, 3, 4, 5] [] rfl rfl (by decide) (by decide) (va_runV (As := []) (rest := []) ⟨hx, hb, hml, hown, hts⟩ (c_plan l D de ad s.heap.size) (cwV 0 hts gX11_makingTime_X3_plan rfl rfl rfl (by decide +kernel) ⟨Nat.le_of_ble_eq_true rfl, Nat.le_of_ble_eq_true rfl⟩) ⟨px_blind, (va_recv hK hP (ci := 8) (q0 := 5) rfl rfl), (px_pre hP hD hK hS hA hTK hZ [0, 1, 2, 3, 4, 5] rfl rfl (by decide) [] rfl)⟩ rfl rfl hl.1 rfl (lv_room (Nat.le_of_ble_eq_true rfl)) dX11_makingTime_4 ⟨(Nat.le_of_ble_eq_true rfl), (Nat.le_of_ble_eq_true rfl)⟩) (fun u H locs hw hP hD hK1 hS => ?_)
  have hP : va_P D vwCl (wX ad) H := hP
  have hD : va_D A (wX ad) := hD
  refine lv_aload_n hx hb dX11_makingTime_7 rfl (lv_at hl 0 rfl) ?_
  refine va_get (D := D) (ci := 16) (v := .ref (ad 5)) (C := RX11) (T := TX11) (N := 6) hx hb hts hin_RX11 hown hK hP 0 rfl rfl 4 (by decide) (hts (.fieldLink RX11 42 "Popupwright" "hands" "LPopupwright$Hands;") (by decide +kernel)) (fun _ h9 => h9) rfl dX11_makingTime_8 ?_
  refine va_get (D := D) (ci := 8) (v := .int 0) (C := RX3) (T := TX3) (N := 9) hx hb hts hin_RX3 hown hK hP 5 rfl rfl 8 (by decide) (hts (.fieldLink RX11 336 "Popupwright$Hands" "lastMinute" "I") (by decide +kernel)) (fun _ h9 => h9) rfl dX11_makingTime_11 ?_
  refine W.widen (k := 0) (n := 0) (Nat.le_of_ble_eq_true rfl) (Nat.le_of_ble_eq_true rfl) ?_
  have hP9 := hP.sub (ws' := ([])) [] rfl
  have hD9 := hD.sub (ws' := ([])) [] (by decide) rfl
  have hK9 := hK.sub (tys' := []) [] rfl
  exact W.iret (v := 0) hx hb hr (fun t ht hW => ⟨⟨0, (), rfl, rfl, ⟨by rw [ht]; exact hP9, va_K.moved hW.alike hK9, hD9⟩⟩, hS.F ht⟩) hS.2.2 dX11_makingTime_14 hlocks

set_option maxHeartbeats 4000000 in
set_option maxRecDepth 100000 in
theorem f_balance (l : Launch) (hst : l.stackTraces = false) (D : va_G) (de : Nat) (ad : Nat → Nat) (p0 : Int32) (sz : Nat) : vx_Met l yX11_balance wsX11_balance ({ frames := 7, cells := 1, slots := 6, locals := 103 } : Room) (va_Pc [.ref (ad 0), .int p0] (PX de D ([]) (wX ad) sz)) (va_Qi (fun (r : Int32) (u : Unit) => r = 0 ∧ ¬ inR p0 1 9 = 0) (fun u t => PW D ([]) (va_A (wX ad) sz) ([]) t) (va_A (wX ad) sz)) (XN (fun E => (E = "java/lang/IllegalArgumentException" ∧ inR p0 1 9 = 0)) (va_A (wX ad) sz)) 1 6 (va_A (wX ad) sz) := by
  refine vx_ofW (cc := cX11_balance) (maxL := 2) (ret := (some .int)) (by decide) rfl ?_
  intro p e s m args below meth c s₁ B hml hnt hv
  obtain ⟨rfl, hsz, hP, hK, hD0, hTK, hZ⟩ := hv
  have hx := B.exec
  have hb := B.bytes
  have hr := B.returns
  have hts := atoms_spec (ws := wsX11_balance) B.pre
  have hown : s.vm.findClass RX11 = some m.cls := findClass_of_methodNamed B.named
  have hlocks := B.notSynchronized
  have hin_RX11 : ∀ w ∈ u_ws RX11 TX11 6, w ∈ wsX11_balance := by decide +kernel
  subst hsz
  have hD := hD0.self (sz := s.heap.size)
  generalize hAe : va_A (wX ad) s.heap.size = A at hD hZ ⊢
  have hA : ∀ q : Nat, s.heap.size ≤ q → A q := fun q h => by rw [← hAe]; exact Or.inr h
  have hS : va_S A s.heap s.heap [] := va_S.rf
  have hP : va_P D vwCl (wX ad) s.heap := hP
  have hD : va_D A (wX ad) := hD
  have hl := lv_entry ([.ref (ad 0), .int p0]) (n := 2) (Nat.le_of_ble_eq_true rfl)
  rw [lg_entry_eq]
  generalize (lg_sl ([.ref (ad 0), .int p0]) ++ List.replicate (2 - (lg_sl ([.ref (ad 0), .int p0])).length) Slot.unset).toArray = ls at hl ⊢
  have hl : lv_has ls 2 [(0, .ref (ad 0)), (1, .int p0)] := hl
  refine lv_aload_n hx hb dX11_balance_0 rfl (lv_at hl 0 rfl) ?_
  refine lv_iload_n hx hb dX11_balance_1 rfl (lv_at hl 1 rfl) ?_
  refine kt_v (wc := wX ad) (wr := []) hP hD hS hA [0, 1, 2, 3, 4, 5] [] rfl rfl (by decide) (by decide) (vx_runV (As := [.int p0]) (rest := []) ⟨hx, hb, hml, hown, hts⟩ (c_needStations l hst D de ad p0 s.heap.size) (cwV 1 hts gX11_balance_X11_needStations rfl rfl rfl (by decide +kernel) ⟨Nat.le_of_ble_eq_true rfl, Nat.le_of_ble_eq_true rfl⟩) ⟨px_blind, (va_recv hK hP (ci := 16) (q0 := 0) rfl rfl), (px_pre hP hD hK hS hA hTK hZ [0, 1, 2, 3, 4, 5] rfl rfl (by decide) [] rfl)⟩ rfl rfl hl.1 rfl (lv_room (Nat.le_of_ble_eq_true rfl)) dX11_balance_2 ⟨(Nat.le_of_ble_eq_true rfl), (Nat.le_of_ble_eq_true rfl)⟩) (fun E q9 H locs hE hq hP hD hS => ?_) (fun u H locs hw hP hD hK1 hS => ?_)
  · exact kt_out hq hnt hlocks hS hE (Nat.le_of_ble_eq_true rfl) (Nat.le_of_ble_eq_true rfl)
  · have hP : va_P D vwCl (wX ad) H := hP
    have hD : va_D A (wX ad) := hD
    have hin_p0 := hw.2
    refine W.widen (k := 1) (n := 6) (Nat.le_of_ble_eq_true rfl) (Nat.le_of_ble_eq_true rfl) ?_
    refine lv_aload_n hx hb dX11_balance_5 rfl (lv_at hl 0 rfl) ?_
    refine va_get (D := D) (ci := 16) (v := .ref (ad 5)) (C := RX11) (T := TX11) (N := 6) hx hb hts hin_RX11 hown hK hP 0 rfl rfl 4 (by decide) (hts (.fieldLink RX11 42 "Popupwright" "hands" "LPopupwright$Hands;") (by decide +kernel)) (fun _ h9 => h9) rfl dX11_balance_6 ?_
    refine kx_v (wc := wX ad) (wr := []) hP hD hS hA [0, 1, 2, 3, 4, 5] [] rfl rfl (by decide) (by decide) (va_runV (As := []) (rest := []) ⟨hx, hb, hml, hown, hts⟩ (c_plan l D de ad H.size) (cwV 0 hts gX11_balance_X3_plan rfl rfl rfl (by decide +kernel) ⟨Nat.le_of_ble_eq_true rfl, Nat.le_of_ble_eq_true rfl⟩) ⟨px_blind, (va_recv hK hP (ci := 8) (q0 := 5) rfl rfl), (px_pre hP hD hK hS hA hTK hZ [0, 1, 2, 3, 4, 5] rfl rfl (by decide) [] rfl)⟩ rfl rfl hl.1 rfl (lv_room (Nat.le_of_ble_eq_true rfl)) dX11_balance_9 ⟨(Nat.le_of_ble_eq_true rfl), (Nat.le_of_ble_eq_true rfl)⟩) (fun u H locs hw hP hD hK1 hS => ?_)
    have hP : va_P D vwCl (wX ad) H := hP
    have hD : va_D A (wX ad) := hD
    refine W.widen (k := 1) (n := 6) (Nat.le_of_ble_eq_true rfl) (Nat.le_of_ble_eq_true rfl) ?_
    refine lv_aload_n hx hb dX11_balance_12 rfl (lv_at hl 0 rfl) ?_
    refine va_get (D := D) (ci := 16) (v := .ref (ad 5)) (C := RX11) (T := TX11) (N := 6) hx hb hts hin_RX11 hown hK hP 0 rfl rfl 4 (by decide) (hts (.fieldLink RX11 42 "Popupwright" "hands" "LPopupwright$Hands;") (by decide +kernel)) (fun _ h9 => h9) rfl dX11_balance_13 ?_
    refine lv_iload_n hx hb dX11_balance_16 rfl (lv_at hl 1 rfl) ?_
    refine kx_i (wc := wX ad) (wr := []) hP hD hS hA [0, 1, 2, 3, 4, 5] [] rfl rfl (by decide) (by decide) (va_runV (As := [.int p0]) (rest := []) ⟨hx, hb, hml, hown, hts⟩ (c_leastGreatest l D de ad p0 H.size) (cwV 1 hts gX11_balance_X3_leastGreatest rfl rfl rfl (by decide +kernel) ⟨Nat.le_of_ble_eq_true rfl, Nat.le_of_ble_eq_true rfl⟩) ⟨px_blind, (va_recv hK hP (ci := 8) (q0 := 5) rfl rfl), (px_pre hP hD hK hS hA hTK hZ [0, 1, 2, 3, 4, 5] rfl rfl (by decide) [] rfl)⟩ rfl rfl hl.1 rfl (lv_room (Nat.le_of_ble_eq_true rfl)) dX11_balance_17 ⟨(Nat.le_of_ble_eq_true rfl), (Nat.le_of_ble_eq_true rfl)⟩) (fun r_3 u H locs hw hP hD hK1 hS => ?_)
    have hP : va_P D vwCl (wX ad) H := hP
    have hD : va_D A (wX ad) := hD
    obtain rfl : r_3 = 0 := hw
    refine W.widen (k := 1) (n := 6) (Nat.le_of_ble_eq_true rfl) (Nat.le_of_ble_eq_true rfl) ?_
    refine W.widen (k := 1) (n := 6) (Nat.le_of_ble_eq_true rfl) (Nat.le_of_ble_eq_true rfl) ?_
    refine vx_ret ?_
    have hP9 := hP.sub (ws' := ([])) [] rfl
    have hD9 := hD.sub (ws' := ([])) [] (by decide) rfl
    have hK9 := hK.sub (tys' := []) [] rfl
    exact W.iret (v := 0) hx hb hr (fun t ht hW => ⟨⟨0, (), rfl, ⟨rfl, by assumption⟩, ⟨by rw [ht]; exact hP9, va_K.moved hW.alike hK9, hD9⟩⟩, hS.F ht⟩) hS.2.2 dX11_balance_20 hlocks

set_option maxHeartbeats 4000000 in
set_option maxRecDepth 100000 in
theorem f_copies (l : Launch) (hst : l.stackTraces = false) (D : va_G) (de : Nat) (ad : Nat → Nat) (p0 p1 : Int32) (sz : Nat) : vx_Met l yX11_copies wsX11_copies ({ frames := 7, cells := 2, slots := 12, locals := 103 } : Room) (va_Pc [.ref (ad 0), .int p0, .int p1] (PX de D ([]) (wX ad) sz)) (va_Qi (fun (r : Int32) (u : Unit) => False) (fun u t => PW D ([]) (va_A (wX ad) sz) ([]) t) (va_A (wX ad) sz)) (XN (fun E => (E = "java/lang/IllegalArgumentException" ∧ (inR p0 1 9 = 0 ∨ inR p1 1 9999 = 0)) ∨ (E = "java/lang/UnsupportedOperationException" ∧ (¬ inR p0 1 9 = 0 ∧ ¬ inR p1 1 9999 = 0))) (va_A (wX ad) sz)) 2 12 (va_A (wX ad) sz) := by
  refine vx_ofW (cc := cX11_copies) (maxL := 5) (ret := (some .int)) (by decide) rfl ?_
  intro p e s m args below meth c s₁ B hml hnt hv
  obtain ⟨rfl, hsz, hP, hK, hD0, hTK, hZ⟩ := hv
  have hx := B.exec
  have hb := B.bytes
  have hr := B.returns
  have hts := atoms_spec (ws := wsX11_copies) B.pre
  have hown : s.vm.findClass RX11 = some m.cls := findClass_of_methodNamed B.named
  have hlocks := B.notSynchronized
  have hin_RX0 : ∀ w ∈ u_ws RX0 TX0 11, w ∈ wsX11_copies := by decide +kernel
  have hin_RX11 : ∀ w ∈ u_ws RX11 TX11 6, w ∈ wsX11_copies := by decide +kernel
  subst hsz
  have hD := hD0.self (sz := s.heap.size)
  generalize hAe : va_A (wX ad) s.heap.size = A at hD hZ ⊢
  have hA : ∀ q : Nat, s.heap.size ≤ q → A q := fun q h => by rw [← hAe]; exact Or.inr h
  have hS : va_S A s.heap s.heap [] := va_S.rf
  have hP : va_P D vwCl (wX ad) s.heap := hP
  have hD : va_D A (wX ad) := hD
  have hl := lv_entry ([.ref (ad 0), .int p0, .int p1]) (n := 5) (Nat.le_of_ble_eq_true rfl)
  rw [lg_entry_eq]
  generalize (lg_sl ([.ref (ad 0), .int p0, .int p1]) ++ List.replicate (5 - (lg_sl ([.ref (ad 0), .int p0, .int p1])).length) Slot.unset).toArray = ls at hl ⊢
  have hl : lv_has ls 5 [(0, .ref (ad 0)), (1, .int p0), (2, .int p1)] := hl
  refine lv_aload_n hx hb dX11_copies_0 rfl (lv_at hl 0 rfl) ?_
  refine lv_iload_n hx hb dX11_copies_1 rfl (lv_at hl 1 rfl) ?_
  refine kt_v (wc := wX ad) (wr := []) hP hD hS hA [0, 1, 2, 3, 4, 5] [] rfl rfl (by decide) (by decide) (vx_runV (As := [.int p0]) (rest := []) ⟨hx, hb, hml, hown, hts⟩ (c_needStations l hst D de ad p0 s.heap.size) (cwV 1 hts gX11_copies_X11_needStations rfl rfl rfl (by decide +kernel) ⟨Nat.le_of_ble_eq_true rfl, Nat.le_of_ble_eq_true rfl⟩) ⟨px_blind, (va_recv hK hP (ci := 16) (q0 := 0) rfl rfl), (px_pre hP hD hK hS hA hTK hZ [0, 1, 2, 3, 4, 5] rfl rfl (by decide) [] rfl)⟩ rfl rfl hl.1 rfl (lv_room (Nat.le_of_ble_eq_true rfl)) dX11_copies_2 ⟨(Nat.le_of_ble_eq_true rfl), (Nat.le_of_ble_eq_true rfl)⟩) (fun E q9 H locs hE hq hP hD hS => ?_) (fun u H locs hw hP hD hK1 hS => ?_)
  · exact kt_out hq hnt hlocks hS (Or.inl ⟨hE.1, Or.inl hE.2⟩) (Nat.le_of_ble_eq_true rfl) (Nat.le_of_ble_eq_true rfl)
  · have hP : va_P D vwCl (wX ad) H := hP
    have hD : va_D A (wX ad) := hD
    have hin_p0 := hw.2
    refine W.widen (k := 1) (n := 6) (Nat.le_of_ble_eq_true rfl) (Nat.le_of_ble_eq_true rfl) ?_
    refine lv_iload_n hx hb dX11_copies_5 rfl (lv_at hl 2 rfl) ?_
    refine lv_iconst (v := 1) hx hb dX11_copies_6 (by decide) ?_
    refine lv_sipush (v := 9999) hx hb dX11_copies_7 (by decide) ?_
    refine kx_i (wc := []) (wr := wX ad) hP hD hS hA [] [0, 1, 2, 3, 4, 5] rfl rfl (by decide) (by decide) (va_runS (As := [.int p1, .int 1, .int 9999]) (rest := []) ⟨hx, hb, hml, hown, hts⟩ (c_isWithin l D de p1 1 9999 H.size) (va_cwS 3 hts gX11_copies_X11_isWithin rfl rfl rfl (by decide +kernel) ⟨Nat.le_of_ble_eq_true rfl, Nat.le_of_ble_eq_true rfl⟩) ⟨px_blind, (px_pre hP hD hK hS hA hTK hZ [] rfl rfl (by decide) [] rfl)⟩ rfl rfl hl.1 rfl (lv_room (Nat.le_of_ble_eq_true rfl)) dX11_copies_10 ⟨(Nat.le_of_ble_eq_true rfl), (Nat.le_of_ble_eq_true rfl)⟩) (fun r_2 u H locs hw hP hD hK1 hS => ?_)
    have hP : va_P D vwCl (wX ad) H := hP
    have hD : va_D A (wX ad) := hD
    obtain rfl : r_2 = inR p1 1 9999 := hw
    refine W.widen (k := 1) (n := 6) (Nat.le_of_ble_eq_true rfl) (Nat.le_of_ble_eq_true rfl) ?_
    refine lv_if_ne (tgt := 27) hx hb dX11_copies_13 (by decide) (fun c_13 => ?_) (fun c_13 => ?_)
    · refine lv_aload_n hx hb dX11_copies_27 rfl (lv_at hl 0 rfl) ?_
      refine va_get (D := D) (ci := 16) (v := .ref (ad 1)) (C := RX11) (T := TX11) (N := 6) hx hb hts hin_RX11 hown hK hP 0 rfl rfl 0 (by decide) (hts (.fieldLink RX11 10 "Popupwright" "book" "LPopupwright$Book;") (by decide +kernel)) (fun _ h9 => h9) rfl dX11_copies_28 ?_
      refine va_get (D := D) (ci := 5) (v := .int 0) (C := RX0) (T := TX0) (N := 11) hx hb hts hin_RX0 hown hK hP 1 rfl rfl 9 (by decide) (hts (.fieldLink RX11 64 "Popupwright$Book" "count" "I") (by decide +kernel)) (fun _ h9 => h9) rfl dX11_copies_31 ?_
      refine lv_if_ne (tgt := 48) hx hb dX11_copies_34 (by decide) (fun h_ => absurd (by decide) h_) (fun _ => ?_)
      exact kt_throwW (mc := 2) (ms := 12) (own := RX11) (cls := "java/lang/UnsupportedOperationException") (text := "there is no fold") hx hb hst hml hl.1 hts (by decide +kernel) (by decide +kernel) hown hTK hZ hS (by decide +kernel) (by decide +kernel) (thrB_RX11_125) (thrG_RX11_121_125) dX11_copies_37 dX11_copies_40 dX11_copies_41 dX11_copies_44 dX11_copies_47 hnt (Nat.le_of_ble_eq_true rfl) (Nat.le_of_ble_eq_true rfl) (Nat.le_of_ble_eq_true rfl) (Nat.le_of_ble_eq_true rfl) hlocks (by first | exact Or.inl ⟨rfl, Or.inr (by assumption)⟩ | exact Or.inr ⟨rfl, hin_p0, by assumption⟩) (Nat.le_of_ble_eq_true rfl) (Nat.le_of_ble_eq_true rfl)
    · exact kt_throwW (mc := 2) (ms := 12) (own := RX11) (cls := "java/lang/IllegalArgumentException") (text := "a day has 1 to 9999 minutes") hx hb hst hml hl.1 hts (by decide +kernel) (by decide +kernel) hown hTK hZ hS (by decide +kernel) (by decide +kernel) (thrB_RX11_61) (thrG_RX11_57_61) dX11_copies_16 dX11_copies_19 dX11_copies_20 dX11_copies_23 dX11_copies_26 hnt (Nat.le_of_ble_eq_true rfl) (Nat.le_of_ble_eq_true rfl) (Nat.le_of_ble_eq_true rfl) (Nat.le_of_ble_eq_true rfl) hlocks (by first | exact Or.inl ⟨rfl, Or.inr (by assumption)⟩ | exact Or.inr ⟨rfl, hin_p0, by assumption⟩) (Nat.le_of_ble_eq_true rfl) (Nat.le_of_ble_eq_true rfl)

set_option maxHeartbeats 4000000 in
set_option maxRecDepth 100000 in
theorem f_setPaper (l : Launch) (hst : l.stackTraces = false) (D : va_G) (de : Nat) (ad : Nat → Nat) (p0 : Int32) (sz : Nat) : vx_Met l yX11_setPaper wsX11_setPaper ({ frames := 6, cells := 1, slots := 6, locals := 82 } : Room) (va_Pc [.ref (ad 0), .int p0] (PX de D ([]) (wX ad) sz)) (va_Qi (fun (r : Int32) (u : Unit) => r = 200 ∧ ¬ inR p0 100 400 = 0) (fun u t => PW D ([]) (va_A (wX ad) sz) ([]) t) (va_A (wX ad) sz)) (XN (fun E => (E = "java/lang/IllegalArgumentException" ∧ inR p0 100 400 = 0)) (va_A (wX ad) sz)) 1 6 (va_A (wX ad) sz) := by
  refine vx_ofW (cc := cX11_setPaper) (maxL := 3) (ret := (some .int)) (by decide) rfl ?_
  intro p e s m args below meth c s₁ B hml hnt hv
  obtain ⟨rfl, hsz, hP, hK, hD0, hTK, hZ⟩ := hv
  have hx := B.exec
  have hb := B.bytes
  have hr := B.returns
  have hts := atoms_spec (ws := wsX11_setPaper) B.pre
  have hown : s.vm.findClass RX11 = some m.cls := findClass_of_methodNamed B.named
  have hlocks := B.notSynchronized
  have hin_RX0 : ∀ w ∈ u_ws RX0 TX0 11, w ∈ wsX11_setPaper := by decide +kernel
  have hin_RX11 : ∀ w ∈ u_ws RX11 TX11 6, w ∈ wsX11_setPaper := by decide +kernel
  subst hsz
  have hD := hD0.self (sz := s.heap.size)
  generalize hAe : va_A (wX ad) s.heap.size = A at hD hZ ⊢
  have hA : ∀ q : Nat, s.heap.size ≤ q → A q := fun q h => by rw [← hAe]; exact Or.inr h
  have hS : va_S A s.heap s.heap [] := va_S.rf
  have hP : va_P D vwCl (wX ad) s.heap := hP
  have hD : va_D A (wX ad) := hD
  have hl := lv_entry ([.ref (ad 0), .int p0]) (n := 3) (Nat.le_of_ble_eq_true rfl)
  rw [lg_entry_eq]
  generalize (lg_sl ([.ref (ad 0), .int p0]) ++ List.replicate (3 - (lg_sl ([.ref (ad 0), .int p0])).length) Slot.unset).toArray = ls at hl ⊢
  have hl : lv_has ls 3 [(0, .ref (ad 0)), (1, .int p0)] := hl
  refine lv_iload_n hx hb dX11_setPaper_0 rfl (lv_at hl 1 rfl) ?_
  refine lv_bipush (v := 100) hx hb dX11_setPaper_1 (by decide) ?_
  refine lv_sipush (v := 400) hx hb dX11_setPaper_3 (by decide) ?_
  refine kx_i (wc := []) (wr := wX ad) hP hD hS hA [] [0, 1, 2, 3, 4, 5] rfl rfl (by decide) (by decide) (va_runS (As := [.int p0, .int 100, .int 400]) (rest := []) ⟨hx, hb, hml, hown, hts⟩ (c_isWithin l D de p0 100 400 s.heap.size) (va_cwS 3 hts gX11_setPaper_X11_isWithin rfl rfl rfl (by decide +kernel) ⟨Nat.le_of_ble_eq_true rfl, Nat.le_of_ble_eq_true rfl⟩) ⟨px_blind, (px_pre hP hD hK hS hA hTK hZ [] rfl rfl (by decide) [] rfl)⟩ rfl rfl hl.1 rfl (lv_room (Nat.le_of_ble_eq_true rfl)) dX11_setPaper_6 ⟨(Nat.le_of_ble_eq_true rfl), (Nat.le_of_ble_eq_true rfl)⟩) (fun r_1 u H locs hw hP hD hK1 hS => ?_)
  have hP : va_P D vwCl (wX ad) H := hP
  have hD : va_D A (wX ad) := hD
  obtain rfl : r_1 = inR p0 100 400 := hw
  refine lv_if_ne (tgt := 23) hx hb dX11_setPaper_9 (by decide) (fun c_9 => ?_) (fun c_9 => ?_)
  · refine lv_aload_n hx hb dX11_setPaper_23 rfl (lv_at hl 0 rfl) ?_
    refine va_get (D := D) (ci := 16) (v := .ref (ad 1)) (C := RX11) (T := TX11) (N := 6) hx hb hts hin_RX11 hown hK hP 0 rfl rfl 0 (by decide) (hts (.fieldLink RX11 10 "Popupwright" "book" "LPopupwright$Book;") (by decide +kernel)) (fun _ h9 => h9) rfl dX11_setPaper_24 ?_
    refine va_get (D := D) (ci := 5) (v := .int 200) (C := RX0) (T := TX0) (N := 11) hx hb hts hin_RX0 hown hK hP 1 rfl rfl 10 (by decide) (hts (.fieldLink RX11 354 "Popupwright$Book" "weight" "I") (by decide +kernel)) (fun _ h9 => h9) rfl dX11_setPaper_27 ?_
    refine lv_istore_n (lv' := [(2, .int 200), (0, .ref (ad 0)), (1, .int p0)]) hx hb dX11_setPaper_30 rfl hl (by decide) rfl (fun ls hl => ?_)
    refine lv_aload_n hx hb dX11_setPaper_31 rfl (lv_at hl 1 rfl) ?_
    refine va_get (D := D) (ci := 16) (v := .ref (ad 1)) (C := RX11) (T := TX11) (N := 6) hx hb hts hin_RX11 hown hK hP 0 rfl rfl 0 (by decide) (hts (.fieldLink RX11 10 "Popupwright" "book" "LPopupwright$Book;") (by decide +kernel)) (fun _ h9 => h9) rfl dX11_setPaper_32 ?_
    refine lv_iload_n hx hb dX11_setPaper_35 rfl (lv_at hl 2 rfl) ?_
    refine va_put (D := D) (ci := 5) (v := .int p0) (ty := .int) (C := RX0) (T := TX0) (N := 11) hx hb hts hin_RX0 tyX0 tyX0_ok nmX0 hown hK hP hD hS 1 rfl rfl 10 (by decide) (hts (.fieldLink RX11 354 "Popupwright$Book" "weight" "I") (by decide +kernel)) (fun _ h9 => h9) rfl (by decide +kernel) rfl rfl (Nat.le_of_ble_eq_true rfl) dX11_setPaper_36 (fun H locs hP hD hS => ?_)
    have hP : va_P D vwCl ([(ad 0, .inr (16, [.ref (ad 1), .ref (ad 2), .ref (ad 3), .ref (ad 4), .ref (ad 5), .ref (ad 6)])), (ad 1, .inr (5, [.ref (ad 7), .ref (ad 8), .ref (ad 9), .ref (ad 10), .ref (ad 11), .ref (ad 12), .int 0, .int 0, .int 0, .int 0, .int p0])), (ad 2, .inr (9, [.ref (ad 1), .ref (ad 13), .int 0])), (ad 3, .inr (13, [.ref (ad 14), .int 0])), (ad 4, .inr (10, [.ref (ad 1), .ref (ad 15), .ref (ad 16), .ref (ad 17), .ref (ad 18), .ref (ad 19), .ref (ad 20), .ref (ad 21), .ref (ad 22), .int 500, .int 700, .int 0, .int 0])), (ad 5, .inr (8, [.ref (ad 1), .ref (ad 23), .ref (ad 24), .ref (ad 25), .ref (ad 26), .ref (ad 27), .ref (ad 28), .int 10, .int 0]))]) H := hP
    have hD : va_D A ([(ad 0, .inr (16, [.ref (ad 1), .ref (ad 2), .ref (ad 3), .ref (ad 4), .ref (ad 5), .ref (ad 6)])), (ad 1, .inr (5, [.ref (ad 7), .ref (ad 8), .ref (ad 9), .ref (ad 10), .ref (ad 11), .ref (ad 12), .int 0, .int 0, .int 0, .int 0, .int p0])), (ad 2, .inr (9, [.ref (ad 1), .ref (ad 13), .int 0])), (ad 3, .inr (13, [.ref (ad 14), .int 0])), (ad 4, .inr (10, [.ref (ad 1), .ref (ad 15), .ref (ad 16), .ref (ad 17), .ref (ad 18), .ref (ad 19), .ref (ad 20), .ref (ad 21), .ref (ad 22), .int 500, .int 700, .int 0, .int 0])), (ad 5, .inr (8, [.ref (ad 1), .ref (ad 23), .ref (ad 24), .ref (ad 25), .ref (ad 26), .ref (ad 27), .ref (ad 28), .int 10, .int 0]))]) := hD
    refine lv_iload_n hx hb dX11_setPaper_39 rfl (lv_at hl 0 rfl) ?_
    refine W.widen (k := 1) (n := 6) (Nat.le_of_ble_eq_true rfl) (Nat.le_of_ble_eq_true rfl) ?_
    refine vx_ret ?_
    have hP9 := hP.sub (ws' := ([])) [] rfl
    have hD9 := hD.sub (ws' := ([])) [] (by decide) rfl
    have hK9 := hK.sub (tys' := []) [] rfl
    exact W.iret (v := 200) hx hb hr (fun t ht hW => ⟨⟨200, (), rfl, ⟨rfl, by assumption⟩, ⟨by rw [ht]; exact hP9, va_K.moved hW.alike hK9, hD9⟩⟩, hS.F ht⟩) hS.2.2 dX11_setPaper_40 hlocks
  · exact kt_throwW (mc := 1) (ms := 6) (own := RX11) (cls := "java/lang/IllegalArgumentException") (text := "paper has a weight of 100 to 400") hx hb hst hml hl.1 hts (by decide +kernel) (by decide +kernel) hown hTK hZ hS (by decide +kernel) (by decide +kernel) (thrB_RX11_61) (thrG_RX11_57_61) dX11_setPaper_12 dX11_setPaper_15 dX11_setPaper_16 dX11_setPaper_19 dX11_setPaper_22 hnt (Nat.le_of_ble_eq_true rfl) (Nat.le_of_ble_eq_true rfl) (Nat.le_of_ble_eq_true rfl) (Nat.le_of_ble_eq_true rfl) hlocks (by first | exact ⟨rfl, by assumption⟩ | exact ⟨rfl, Or.inl (by assumption)⟩ | exact ⟨rfl, Or.inr (by assumption)⟩ | exact Or.inl ⟨rfl, by assumption⟩ | exact Or.inl ⟨rfl, Or.inl (by assumption)⟩ | exact Or.inl ⟨rfl, Or.inr (by assumption)⟩ | exact Or.inr ⟨rfl, by assumption⟩ | exact Or.inr ⟨rfl, by assumption, by assumption⟩) (Nat.le_of_ble_eq_true rfl) (Nat.le_of_ble_eq_true rfl)

set_option maxHeartbeats 4000000 in
set_option maxRecDepth 100000 in
theorem f_open (l : Launch) (hst : l.stackTraces = false) (D : va_G) (de : Nat) (ad : Nat → Nat) (p0 p1 : Int32) (sz : Nat) : vx_Met l yX11_open wsX11_open ({ frames := 7, cells := 2, slots := 12, locals := 103 } : Room) (va_Pc [.ref (ad 0), .int p0, .int p1] (PX de D ([]) (wX ad) sz)) (va_Qi (fun (r : Int32) (u : Unit) => False) (fun u t => PW D ([]) (va_A (wX ad) sz) ([]) t) (va_A (wX ad) sz)) (XN (fun E => (E = "java/lang/IllegalArgumentException" ∧ (inR p0 1 18 = 0 ∨ inR p1 1 9999 = 0)) ∨ (E = "java/lang/UnsupportedOperationException" ∧ (¬ inR p0 1 18 = 0 ∧ ¬ inR p1 1 9999 = 0))) (va_A (wX ad) sz)) 2 12 (va_A (wX ad) sz) := by
  refine vx_ofW (cc := cX11_open) (maxL := 3) (ret := (some .int)) (by decide) rfl ?_
  intro p e s m args below meth c s₁ B hml hnt hv
  obtain ⟨rfl, hsz, hP, hK, hD0, hTK, hZ⟩ := hv
  have hx := B.exec
  have hb := B.bytes
  have hr := B.returns
  have hts := atoms_spec (ws := wsX11_open) B.pre
  have hown : s.vm.findClass RX11 = some m.cls := findClass_of_methodNamed B.named
  have hlocks := B.notSynchronized
  subst hsz
  have hD := hD0.self (sz := s.heap.size)
  generalize hAe : va_A (wX ad) s.heap.size = A at hD hZ ⊢
  have hA : ∀ q : Nat, s.heap.size ≤ q → A q := fun q h => by rw [← hAe]; exact Or.inr h
  have hS : va_S A s.heap s.heap [] := va_S.rf
  have hP : va_P D vwCl (wX ad) s.heap := hP
  have hD : va_D A (wX ad) := hD
  have hl := lv_entry ([.ref (ad 0), .int p0, .int p1]) (n := 3) (Nat.le_of_ble_eq_true rfl)
  rw [lg_entry_eq]
  generalize (lg_sl ([.ref (ad 0), .int p0, .int p1]) ++ List.replicate (3 - (lg_sl ([.ref (ad 0), .int p0, .int p1])).length) Slot.unset).toArray = ls at hl ⊢
  have hl : lv_has ls 3 [(0, .ref (ad 0)), (1, .int p0), (2, .int p1)] := hl
  refine lv_aload_n hx hb dX11_open_0 rfl (lv_at hl 0 rfl) ?_
  refine lv_iload_n hx hb dX11_open_1 rfl (lv_at hl 1 rfl) ?_
  refine kt_v (wc := wX ad) (wr := []) hP hD hS hA [0, 1, 2, 3, 4, 5] [] rfl rfl (by decide) (by decide) (vx_runV (As := [.int p0]) (rest := []) ⟨hx, hb, hml, hown, hts⟩ (c_needOpening l hst D de ad p0 s.heap.size) (cwV 1 hts gX11_open_X11_needOpening rfl rfl rfl (by decide +kernel) ⟨Nat.le_of_ble_eq_true rfl, Nat.le_of_ble_eq_true rfl⟩) ⟨px_blind, (va_recv hK hP (ci := 16) (q0 := 0) rfl rfl), (px_pre hP hD hK hS hA hTK hZ [0, 1, 2, 3, 4, 5] rfl rfl (by decide) [] rfl)⟩ rfl rfl hl.1 rfl (lv_room (Nat.le_of_ble_eq_true rfl)) dX11_open_2 ⟨(Nat.le_of_ble_eq_true rfl), (Nat.le_of_ble_eq_true rfl)⟩) (fun E q9 H locs hE hq hP hD hS => ?_) (fun u H locs hw hP hD hK1 hS => ?_)
  · exact kt_out hq hnt hlocks hS (by first | exact Or.inl ⟨hE.1, Or.inl hE.2⟩ | exact Or.inr ⟨hE.1, hin_p0, by assumption⟩) (Nat.le_of_ble_eq_true rfl) (Nat.le_of_ble_eq_true rfl)
  · have hP : va_P D vwCl (wX ad) H := hP
    have hD : va_D A (wX ad) := hD
    have hin_p0 := hw.2
    refine W.widen (k := 1) (n := 6) (Nat.le_of_ble_eq_true rfl) (Nat.le_of_ble_eq_true rfl) ?_
    refine lv_iload_n hx hb dX11_open_5 rfl (lv_at hl 2 rfl) ?_
    refine lv_iconst (v := 1) hx hb dX11_open_6 (by decide) ?_
    refine lv_sipush (v := 9999) hx hb dX11_open_7 (by decide) ?_
    refine kx_i (wc := []) (wr := wX ad) hP hD hS hA [] [0, 1, 2, 3, 4, 5] rfl rfl (by decide) (by decide) (va_runS (As := [.int p1, .int 1, .int 9999]) (rest := []) ⟨hx, hb, hml, hown, hts⟩ (c_isWithin l D de p1 1 9999 H.size) (va_cwS 3 hts gX11_open_X11_isWithin rfl rfl rfl (by decide +kernel) ⟨Nat.le_of_ble_eq_true rfl, Nat.le_of_ble_eq_true rfl⟩) ⟨px_blind, (px_pre hP hD hK hS hA hTK hZ [] rfl rfl (by decide) [] rfl)⟩ rfl rfl hl.1 rfl (lv_room (Nat.le_of_ble_eq_true rfl)) dX11_open_10 ⟨(Nat.le_of_ble_eq_true rfl), (Nat.le_of_ble_eq_true rfl)⟩) (fun r_2 u H locs hw hP hD hK1 hS => ?_)
    have hP : va_P D vwCl (wX ad) H := hP
    have hD : va_D A (wX ad) := hD
    obtain rfl : r_2 = inR p1 1 9999 := hw
    refine W.widen (k := 1) (n := 6) (Nat.le_of_ble_eq_true rfl) (Nat.le_of_ble_eq_true rfl) ?_
    refine lv_if_ne (tgt := 27) hx hb dX11_open_13 (by decide) (fun c_13 => ?_) (fun c_13 => ?_)
    · refine lv_aload_n hx hb dX11_open_27 rfl (lv_at hl 0 rfl) ?_
      refine kt_v (wc := wX ad) (wr := []) hP hD hS hA [0, 1, 2, 3, 4, 5] [] rfl rfl (by decide) (by decide) (vx_runV (As := []) (rest := []) ⟨hx, hb, hml, hown, hts⟩ (c_needSpread l hst D de ad H.size) (cwV 0 hts gX11_open_X11_needSpread rfl rfl rfl (by decide +kernel) ⟨Nat.le_of_ble_eq_true rfl, Nat.le_of_ble_eq_true rfl⟩) ⟨px_blind, (va_recv hK hP (ci := 16) (q0 := 0) rfl rfl), (px_pre hP hD hK hS hA hTK hZ [0, 1, 2, 3, 4, 5] rfl rfl (by decide) [] rfl)⟩ rfl rfl hl.1 rfl (lv_room (Nat.le_of_ble_eq_true rfl)) dX11_open_28 ⟨(Nat.le_of_ble_eq_true rfl), (Nat.le_of_ble_eq_true rfl)⟩) (fun E q9 H locs hE hq hP hD hS => ?_) (fun u H locs hw hP hD hK1 hS => hw.elim)
      exact kt_out hq hnt hlocks hS (by first | exact Or.inl ⟨hE.1, Or.inl hE.2⟩ | exact Or.inr ⟨hE.1, hin_p0, by assumption⟩) (Nat.le_of_ble_eq_true rfl) (Nat.le_of_ble_eq_true rfl)
    · exact kt_throwW (mc := 2) (ms := 12) (own := RX11) (cls := "java/lang/IllegalArgumentException") (text := "it is opened 1 to 9999 times") hx hb hst hml hl.1 hts (by decide +kernel) (by decide +kernel) hown hTK hZ hS (by decide +kernel) (by decide +kernel) (thrB_RX11_61) (thrG_RX11_57_61) dX11_open_16 dX11_open_19 dX11_open_20 dX11_open_23 dX11_open_26 hnt (Nat.le_of_ble_eq_true rfl) (Nat.le_of_ble_eq_true rfl) (Nat.le_of_ble_eq_true rfl) (Nat.le_of_ble_eq_true rfl) hlocks (Or.inl ⟨rfl, Or.inr (by assumption)⟩) (Nat.le_of_ble_eq_true rfl) (Nat.le_of_ble_eq_true rfl)

set_option maxHeartbeats 4000000 in
set_option maxRecDepth 100000 in
theorem f_tired (l : Launch) (hst : l.stackTraces = false) (D : va_G) (de : Nat) (ad : Nat → Nat) (p0 : Int32) (sz : Nat) : vx_Met l yX11_tired wsX11_tired ({ frames := 7, cells := 1, slots := 6, locals := 104 } : Room) (va_Pc [.ref (ad 0), .int p0] (PX de D ([]) (wX ad) sz)) (va_Qi (fun (r : Int32) (u : Unit) => False) (fun u t => PW D ([]) (va_A (wX ad) sz) ([]) t) (va_A (wX ad) sz)) (XN (fun E => (E = "java/lang/IndexOutOfBoundsException" ∧ True)) (va_A (wX ad) sz)) 1 6 (va_A (wX ad) sz) := by
  refine vx_ofW (cc := cX11_tired) (maxL := 2) (ret := (some .int)) (by decide) rfl ?_
  intro p e s m args below meth c s₁ B hml hnt hv
  obtain ⟨rfl, hsz, hP, hK, hD0, hTK, hZ⟩ := hv
  have hx := B.exec
  have hb := B.bytes
  have hr := B.returns
  have hts := atoms_spec (ws := wsX11_tired) B.pre
  have hown : s.vm.findClass RX11 = some m.cls := findClass_of_methodNamed B.named
  have hlocks := B.notSynchronized
  subst hsz
  have hD := hD0.self (sz := s.heap.size)
  generalize hAe : va_A (wX ad) s.heap.size = A at hD hZ ⊢
  have hA : ∀ q : Nat, s.heap.size ≤ q → A q := fun q h => by rw [← hAe]; exact Or.inr h
  have hS : va_S A s.heap s.heap [] := va_S.rf
  have hP : va_P D vwCl (wX ad) s.heap := hP
  have hD : va_D A (wX ad) := hD
  have hl := lv_entry ([.ref (ad 0), .int p0]) (n := 2) (Nat.le_of_ble_eq_true rfl)
  rw [lg_entry_eq]
  generalize (lg_sl ([.ref (ad 0), .int p0]) ++ List.replicate (2 - (lg_sl ([.ref (ad 0), .int p0])).length) Slot.unset).toArray = ls at hl ⊢
  have hl : lv_has ls 2 [(0, .ref (ad 0)), (1, .int p0)] := hl
  refine lv_aload_n hx hb dX11_tired_0 rfl (lv_at hl 0 rfl) ?_
  refine lv_iload_n hx hb dX11_tired_1 rfl (lv_at hl 1 rfl) ?_
  refine kt_q (wc := wX ad) (wr := []) hP hD hS hA [0, 1, 2, 3, 4, 5] [] rfl rfl (by decide) (by decide) (vx_runV (As := [.int p0]) (rest := []) ⟨hx, hb, hml, hown, hts⟩ (c_needFold l hst D de ad p0 s.heap.size) (cwV 1 hts gX11_tired_X11_needFold rfl rfl rfl (by decide +kernel) ⟨Nat.le_of_ble_eq_true rfl, Nat.le_of_ble_eq_true rfl⟩) ⟨px_blind, (va_recv hK hP (ci := 16) (q0 := 0) rfl rfl), (px_pre hP hD hK hS hA hTK hZ [0, 1, 2, 3, 4, 5] rfl rfl (by decide) [] rfl)⟩ rfl rfl hl.1 rfl (lv_room (Nat.le_of_ble_eq_true rfl)) dX11_tired_2 ⟨(Nat.le_of_ble_eq_true rfl), (Nat.le_of_ble_eq_true rfl)⟩) (fun E q9 H locs hE hq hP hD hS => ?_) (fun r_1 u H locs hw hP hD hK1 hS => hw.elim)
  exact kt_out hq hnt hlocks hS hE (Nat.le_of_ble_eq_true rfl) (Nat.le_of_ble_eq_true rfl)

set_option maxHeartbeats 4000000 in
set_option maxRecDepth 100000 in
theorem f_lasts (l : Launch) (hst : l.stackTraces = false) (D : va_G) (de : Nat) (ad : Nat → Nat) (p0 p1 : Int32) (sz : Nat) : vx_Met l yX11_lasts wsX11_lasts ({ frames := 7, cells := 1, slots := 6, locals := 104 } : Room) (va_Pc [.ref (ad 0), .int p0, .int p1] (PX de D ([]) (wX ad) sz)) (va_Qi (fun (r : Int32) (u : Unit) => False) (fun u t => PW D ([]) (va_A (wX ad) sz) ([]) t) (va_A (wX ad) sz)) (XN (fun E => (E = "java/lang/IndexOutOfBoundsException" ∧ True)) (va_A (wX ad) sz)) 1 6 (va_A (wX ad) sz) := by
  refine vx_ofW (cc := cX11_lasts) (maxL := 4) (ret := (some .int)) (by decide) rfl ?_
  intro p e s m args below meth c s₁ B hml hnt hv
  obtain ⟨rfl, hsz, hP, hK, hD0, hTK, hZ⟩ := hv
  have hx := B.exec
  have hb := B.bytes
  have hr := B.returns
  have hts := atoms_spec (ws := wsX11_lasts) B.pre
  have hown : s.vm.findClass RX11 = some m.cls := findClass_of_methodNamed B.named
  have hlocks := B.notSynchronized
  subst hsz
  have hD := hD0.self (sz := s.heap.size)
  generalize hAe : va_A (wX ad) s.heap.size = A at hD hZ ⊢
  have hA : ∀ q : Nat, s.heap.size ≤ q → A q := fun q h => by rw [← hAe]; exact Or.inr h
  have hS : va_S A s.heap s.heap [] := va_S.rf
  have hP : va_P D vwCl (wX ad) s.heap := hP
  have hD : va_D A (wX ad) := hD
  have hl := lv_entry ([.ref (ad 0), .int p0, .int p1]) (n := 4) (Nat.le_of_ble_eq_true rfl)
  rw [lg_entry_eq]
  generalize (lg_sl ([.ref (ad 0), .int p0, .int p1]) ++ List.replicate (4 - (lg_sl ([.ref (ad 0), .int p0, .int p1])).length) Slot.unset).toArray = ls at hl ⊢
  have hl : lv_has ls 4 [(0, .ref (ad 0)), (1, .int p0), (2, .int p1)] := hl
  refine lv_aload_n hx hb dX11_lasts_0 rfl (lv_at hl 0 rfl) ?_
  refine lv_iload_n hx hb dX11_lasts_1 rfl (lv_at hl 1 rfl) ?_
  refine kt_q (wc := wX ad) (wr := []) hP hD hS hA [0, 1, 2, 3, 4, 5] [] rfl rfl (by decide) (by decide) (vx_runV (As := [.int p0]) (rest := []) ⟨hx, hb, hml, hown, hts⟩ (c_needFold l hst D de ad p0 s.heap.size) (cwV 1 hts gX11_lasts_X11_needFold rfl rfl rfl (by decide +kernel) ⟨Nat.le_of_ble_eq_true rfl, Nat.le_of_ble_eq_true rfl⟩) ⟨px_blind, (va_recv hK hP (ci := 16) (q0 := 0) rfl rfl), (px_pre hP hD hK hS hA hTK hZ [0, 1, 2, 3, 4, 5] rfl rfl (by decide) [] rfl)⟩ rfl rfl hl.1 rfl (lv_room (Nat.le_of_ble_eq_true rfl)) dX11_lasts_2 ⟨(Nat.le_of_ble_eq_true rfl), (Nat.le_of_ble_eq_true rfl)⟩) (fun E q9 H locs hE hq hP hD hS => ?_) (fun r_1 u H locs hw hP hD hK1 hS => hw.elim)
  exact kt_out hq hnt hlocks hS hE (Nat.le_of_ble_eq_true rfl) (Nat.le_of_ble_eq_true rfl)

set_option maxHeartbeats 4000000 in
set_option maxRecDepth 100000 in
theorem f_mend (l : Launch) (hst : l.stackTraces = false) (D : va_G) (de : Nat) (ad : Nat → Nat) (p0 : Int32) (sz : Nat) : vx_Met l yX11_mend wsX11_mend ({ frames := 7, cells := 1, slots := 6, locals := 104 } : Room) (va_Pc [.ref (ad 0), .int p0] (PX de D ([]) (wX ad) sz)) (va_Qi (fun (r : Int32) (u : Unit) => False) (fun u t => PW D ([]) (va_A (wX ad) sz) ([]) t) (va_A (wX ad) sz)) (XN (fun E => (E = "java/lang/IndexOutOfBoundsException" ∧ True)) (va_A (wX ad) sz)) 1 6 (va_A (wX ad) sz) := by
  refine vx_ofW (cc := cX11_mend) (maxL := 3) (ret := (some .int)) (by decide) rfl ?_
  intro p e s m args below meth c s₁ B hml hnt hv
  obtain ⟨rfl, hsz, hP, hK, hD0, hTK, hZ⟩ := hv
  have hx := B.exec
  have hb := B.bytes
  have hr := B.returns
  have hts := atoms_spec (ws := wsX11_mend) B.pre
  have hown : s.vm.findClass RX11 = some m.cls := findClass_of_methodNamed B.named
  have hlocks := B.notSynchronized
  subst hsz
  have hD := hD0.self (sz := s.heap.size)
  generalize hAe : va_A (wX ad) s.heap.size = A at hD hZ ⊢
  have hA : ∀ q : Nat, s.heap.size ≤ q → A q := fun q h => by rw [← hAe]; exact Or.inr h
  have hS : va_S A s.heap s.heap [] := va_S.rf
  have hP : va_P D vwCl (wX ad) s.heap := hP
  have hD : va_D A (wX ad) := hD
  have hl := lv_entry ([.ref (ad 0), .int p0]) (n := 3) (Nat.le_of_ble_eq_true rfl)
  rw [lg_entry_eq]
  generalize (lg_sl ([.ref (ad 0), .int p0]) ++ List.replicate (3 - (lg_sl ([.ref (ad 0), .int p0])).length) Slot.unset).toArray = ls at hl ⊢
  have hl : lv_has ls 3 [(0, .ref (ad 0)), (1, .int p0)] := hl
  refine lv_aload_n hx hb dX11_mend_0 rfl (lv_at hl 0 rfl) ?_
  refine lv_iload_n hx hb dX11_mend_1 rfl (lv_at hl 1 rfl) ?_
  refine kt_q (wc := wX ad) (wr := []) hP hD hS hA [0, 1, 2, 3, 4, 5] [] rfl rfl (by decide) (by decide) (vx_runV (As := [.int p0]) (rest := []) ⟨hx, hb, hml, hown, hts⟩ (c_needFold l hst D de ad p0 s.heap.size) (cwV 1 hts gX11_mend_X11_needFold rfl rfl rfl (by decide +kernel) ⟨Nat.le_of_ble_eq_true rfl, Nat.le_of_ble_eq_true rfl⟩) ⟨px_blind, (va_recv hK hP (ci := 16) (q0 := 0) rfl rfl), (px_pre hP hD hK hS hA hTK hZ [0, 1, 2, 3, 4, 5] rfl rfl (by decide) [] rfl)⟩ rfl rfl hl.1 rfl (lv_room (Nat.le_of_ble_eq_true rfl)) dX11_mend_2 ⟨(Nat.le_of_ble_eq_true rfl), (Nat.le_of_ble_eq_true rfl)⟩) (fun E q9 H locs hE hq hP hD hS => ?_) (fun r_1 u H locs hw hP hD hK1 hS => hw.elim)
  exact kt_out hq hnt hlocks hS hE (Nat.le_of_ble_eq_true rfl) (Nat.le_of_ble_eq_true rfl)

set_option maxHeartbeats 4000000 in
set_option maxRecDepth 100000 in
theorem f_wish (l : Launch) (hst : l.stackTraces = false) (D : va_G) (de : Nat) (ad : Nat → Nat) (p0 p1 p2 p3 : Int32) (sz : Nat) : vx_Met l yX11_wish wnX11_wish ({ frames := 7, cells := 1, slots := 6, locals := 102 } : Room) (va_Pc [.ref (ad 0), .int p0, .int p1, .int p2, .int p3] (PX de D ([]) (wX ad) sz)) (va_Qi (fun (r : Int32) (u : Unit) => False) (fun u t => PW D ([]) (va_A (wX ad) sz) ([]) t) (va_A (wX ad) sz)) (XN (fun E => (E = "java/lang/IllegalArgumentException" ∧ (inR p0 1 400 = 0 ∨ inR p1 1 400 = 0)) ∨ (E = "java/lang/UnsupportedOperationException" ∧ (¬ inR p0 1 400 = 0 ∧ ¬ inR p1 1 400 = 0))) (va_A (wX ad) sz)) 1 6 (va_A (wX ad) sz) := by
  refine vx_ofW (cc := cX11_wish) (maxL := 6) (ret := (some .int)) (by decide) rfl ?_
  intro p e s m args below meth c s₁ B hml hnt hv
  obtain ⟨rfl, hsz, hP, hK, hD0, hTK, hZ⟩ := hv
  have hx := B.exec
  have hb := B.bytes
  have hr := B.returns
  have hts := atoms_spec (ws := wnX11_wish) B.pre
  have hown : s.vm.findClass RX11 = some m.cls := findClass_of_methodNamed B.named
  have hlocks := B.notSynchronized
  subst hsz
  have hD := hD0.self (sz := s.heap.size)
  generalize hAe : va_A (wX ad) s.heap.size = A at hD hZ ⊢
  have hA : ∀ q : Nat, s.heap.size ≤ q → A q := fun q h => by rw [← hAe]; exact Or.inr h
  have hS : va_S A s.heap s.heap [] := va_S.rf
  have hP : va_P D vwCl (wX ad) s.heap := hP
  have hD : va_D A (wX ad) := hD
  have hl := lv_entry ([.ref (ad 0), .int p0, .int p1, .int p2, .int p3]) (n := 6) (Nat.le_of_ble_eq_true rfl)
  rw [lg_entry_eq]
  generalize (lg_sl ([.ref (ad 0), .int p0, .int p1, .int p2, .int p3]) ++ List.replicate (6 - (lg_sl ([.ref (ad 0), .int p0, .int p1, .int p2, .int p3])).length) Slot.unset).toArray = ls at hl ⊢
  have hl : lv_has ls 6 [(0, .ref (ad 0)), (1, .int p0), (2, .int p1), (3, .int p2), (4, .int p3)] := hl
  refine lv_iload_n hx hb dX11_wish_0 rfl (lv_at hl 1 rfl) ?_
  refine lv_iconst (v := 1) hx hb dX11_wish_1 (by decide) ?_
  refine lv_sipush (v := 400) hx hb dX11_wish_2 (by decide) ?_
  refine kx_i (wc := []) (wr := wX ad) hP hD hS hA [] [0, 1, 2, 3, 4, 5] rfl rfl (by decide) (by decide) (va_runS (As := [.int p0, .int 1, .int 400]) (rest := []) ⟨hx, hb, hml, hown, hts⟩ (c_isWithin l D de p0 1 400 s.heap.size) (va_cwS 3 hts (gn_big rfl gX11_wish_X11_isWithin (by decide +kernel)) rfl rfl rfl (by decide +kernel) ⟨Nat.le_of_ble_eq_true rfl, Nat.le_of_ble_eq_true rfl⟩) ⟨px_blind, (px_pre hP hD hK hS hA hTK hZ [] rfl rfl (by decide) [] rfl)⟩ rfl rfl hl.1 rfl (lv_room (Nat.le_of_ble_eq_true rfl)) dX11_wish_5 ⟨(Nat.le_of_ble_eq_true rfl), (Nat.le_of_ble_eq_true rfl)⟩) (fun r_1 u H locs hw hP hD hK1 hS => ?_)
  have hP : va_P D vwCl (wX ad) H := hP
  have hD : va_D A (wX ad) := hD
  obtain rfl : r_1 = inR p0 1 400 := hw
  refine lv_if_eq (tgt := 22) hx hb dX11_wish_8 (by decide) (fun c_8 => ?_) (fun c_8 => ?_)
  · exact kt_throwW (mc := 1) (ms := 6) (own := RX11) (cls := "java/lang/IllegalArgumentException") (text := "a ridge is at 1 to 400") hx hb hst hml hl.1 hts (by decide +kernel) (by decide +kernel) hown hTK hZ hS (by decide +kernel) (by decide +kernel) (thrB_RX11_61) (thrG_RX11_57_61) dX11_wish_22 dX11_wish_25 dX11_wish_26 dX11_wish_29 dX11_wish_32 hnt (Nat.le_of_ble_eq_true rfl) (Nat.le_of_ble_eq_true rfl) (Nat.le_of_ble_eq_true rfl) (Nat.le_of_ble_eq_true rfl) hlocks (by first | exact Or.inl ⟨rfl, Or.inl (by assumption)⟩ | exact Or.inl ⟨rfl, Or.inr (by assumption)⟩) (Nat.le_of_ble_eq_true rfl) (Nat.le_of_ble_eq_true rfl)
  · refine lv_iload_n hx hb dX11_wish_11 rfl (lv_at hl 2 rfl) ?_
    refine lv_iconst (v := 1) hx hb dX11_wish_12 (by decide) ?_
    refine lv_sipush (v := 400) hx hb dX11_wish_13 (by decide) ?_
    refine kx_i (wc := []) (wr := wX ad) hP hD hS hA [] [0, 1, 2, 3, 4, 5] rfl rfl (by decide) (by decide) (va_runS (As := [.int p1, .int 1, .int 400]) (rest := []) ⟨hx, hb, hml, hown, hts⟩ (c_isWithin l D de p1 1 400 H.size) (va_cwS 3 hts (gn_big rfl gX11_wish_X11_isWithin (by decide +kernel)) rfl rfl rfl (by decide +kernel) ⟨Nat.le_of_ble_eq_true rfl, Nat.le_of_ble_eq_true rfl⟩) ⟨px_blind, (px_pre hP hD hK hS hA hTK hZ [] rfl rfl (by decide) [] rfl)⟩ rfl rfl hl.1 rfl (lv_room (Nat.le_of_ble_eq_true rfl)) dX11_wish_16 ⟨(Nat.le_of_ble_eq_true rfl), (Nat.le_of_ble_eq_true rfl)⟩) (fun r_2 u H locs hw hP hD hK1 hS => ?_)
    have hP : va_P D vwCl (wX ad) H := hP
    have hD : va_D A (wX ad) := hD
    obtain rfl : r_2 = inR p1 1 400 := hw
    refine lv_if_ne (tgt := 33) hx hb dX11_wish_19 (by decide) (fun c_19 => ?_) (fun c_19 => ?_)
    · refine lv_aload_n hx hb dX11_wish_33 rfl (lv_at hl 0 rfl) ?_
      refine kt_v (wc := wX ad) (wr := []) hP hD hS hA [0, 1, 2, 3, 4, 5] [] rfl rfl (by decide) (by decide) (vx_runV (As := []) (rest := []) ⟨hx, hb, hml, hown, hts⟩ (c_needSpread l hst D de ad H.size) (cwV 0 hts (gn_big rfl gX11_wish_X11_needSpread (by decide +kernel)) rfl rfl rfl (by decide +kernel) ⟨Nat.le_of_ble_eq_true rfl, Nat.le_of_ble_eq_true rfl⟩) ⟨px_blind, (va_recv hK hP (ci := 16) (q0 := 0) rfl rfl), (px_pre hP hD hK hS hA hTK hZ [0, 1, 2, 3, 4, 5] rfl rfl (by decide) [] rfl)⟩ rfl rfl hl.1 rfl (lv_room (Nat.le_of_ble_eq_true rfl)) dX11_wish_34 ⟨(Nat.le_of_ble_eq_true rfl), (Nat.le_of_ble_eq_true rfl)⟩) (fun E q9 H locs hE hq hP hD hS => ?_) (fun u H locs hw hP hD hK1 hS => hw.elim)
      exact kt_out hq hnt hlocks hS (Or.inr ⟨hE.1, by assumption, by assumption⟩) (Nat.le_of_ble_eq_true rfl) (Nat.le_of_ble_eq_true rfl)
    · exact kt_throwW (mc := 1) (ms := 6) (own := RX11) (cls := "java/lang/IllegalArgumentException") (text := "a ridge is at 1 to 400") hx hb hst hml hl.1 hts (by decide +kernel) (by decide +kernel) hown hTK hZ hS (by decide +kernel) (by decide +kernel) (thrB_RX11_61) (thrG_RX11_57_61) dX11_wish_22 dX11_wish_25 dX11_wish_26 dX11_wish_29 dX11_wish_32 hnt (Nat.le_of_ble_eq_true rfl) (Nat.le_of_ble_eq_true rfl) (Nat.le_of_ble_eq_true rfl) (Nat.le_of_ble_eq_true rfl) hlocks (by first | exact Or.inl ⟨rfl, Or.inl (by assumption)⟩ | exact Or.inl ⟨rfl, Or.inr (by assumption)⟩) (Nat.le_of_ble_eq_true rfl) (Nat.le_of_ble_eq_true rfl)

set_option maxHeartbeats 4000000 in
set_option maxRecDepth 100000 in
theorem f_restore (l : Launch) (hst : l.stackTraces = false) (D : va_G) (de : Nat) (ad : Nat → Nat) (p0 p1 p2 p3 p4 p5 : Int32) (sz : Nat) : vx_Met l yX11_restore wsX11_restore ({ frames := 8, cells := 1, slots := 6, locals := 130 } : Room) (va_Pc [.ref (ad 0), .int p0, .int p1, .int p2, .int p3, .int p4, .int p5] (PX de D ([]) (wX ad) sz)) (va_Qi (fun (r : Int32) (u : Unit) => False) (fun u t => PW D ([]) (va_A (wX ad) sz) ([]) t) (va_A (wX ad) sz)) (XN (fun E => (E = "java/lang/IndexOutOfBoundsException" ∧ True)) (va_A (wX ad) sz)) 1 6 (va_A (wX ad) sz) := by
  refine vx_ofW (cc := cX11_restore) (maxL := 8) (ret := (some .int)) (by decide) rfl ?_
  intro p e s m args below meth c s₁ B hml hnt hv
  obtain ⟨rfl, hsz, hP, hK, hD0, hTK, hZ⟩ := hv
  have hx := B.exec
  have hb := B.bytes
  have hr := B.returns
  have hts := atoms_spec (ws := wsX11_restore) B.pre
  have hown : s.vm.findClass RX11 = some m.cls := findClass_of_methodNamed B.named
  have hlocks := B.notSynchronized
  subst hsz
  have hD := hD0.self (sz := s.heap.size)
  generalize hAe : va_A (wX ad) s.heap.size = A at hD hZ ⊢
  have hA : ∀ q : Nat, s.heap.size ≤ q → A q := fun q h => by rw [← hAe]; exact Or.inr h
  have hS : va_S A s.heap s.heap [] := va_S.rf
  have hP : va_P D vwCl (wX ad) s.heap := hP
  have hD : va_D A (wX ad) := hD
  have hl := lv_entry ([.ref (ad 0), .int p0, .int p1, .int p2, .int p3, .int p4, .int p5]) (n := 8) (Nat.le_of_ble_eq_true rfl)
  rw [lg_entry_eq]
  generalize (lg_sl ([.ref (ad 0), .int p0, .int p1, .int p2, .int p3, .int p4, .int p5]) ++ List.replicate (8 - (lg_sl ([.ref (ad 0), .int p0, .int p1, .int p2, .int p3, .int p4, .int p5])).length) Slot.unset).toArray = ls at hl ⊢
  have hl : lv_has ls 8 [(0, .ref (ad 0)), (1, .int p0), (2, .int p1), (3, .int p2), (4, .int p3), (5, .int p4), (6, .int p5)] := hl
  refine lv_iload_n hx hb dX11_restore_0 rfl (lv_at hl 2 rfl) ?_
  refine lv_iload_n hx hb dX11_restore_1 rfl (lv_at hl 3 rfl) ?_
  refine lv_isub hx hb dX11_restore_2 ?_
  refine lv_topi (fun y_1 ey_1 => ?_)
  refine lv_istore (lv' := [(7, .int y_1), (0, .ref (ad 0)), (1, .int p0), (2, .int p1), (3, .int p2), (4, .int p3), (5, .int p4), (6, .int p5)]) hx hb dX11_restore_3 hl (by decide) rfl (fun ls hl => ?_)
  refine lv_iload hx hb dX11_restore_5 (lv_at hl 5 rfl) ?_
  refine lv_if_eq (tgt := 25) hx hb dX11_restore_7 (by decide) (fun c_7 => ?_) (fun c_7 => ?_)
  · refine lv_aload_n hx hb dX11_restore_25 rfl (lv_at hl 1 rfl) ?_
    refine lv_iload_n hx hb dX11_restore_26 rfl (lv_at hl 2 rfl) ?_
    refine lv_iload hx hb dX11_restore_27 (lv_at hl 0 rfl) ?_
    refine lv_iload_n hx hb dX11_restore_29 rfl (lv_at hl 4 rfl) ?_
    refine lv_iload hx hb dX11_restore_30 (lv_at hl 6 rfl) ?_
    refine lv_iload hx hb dX11_restore_32 (lv_at hl 7 rfl) ?_
    refine kt_i (wc := wX ad) (wr := []) hP hD hS hA [0, 1, 2, 3, 4, 5] [] rfl rfl (by decide) (by decide) (vx_runV (As := [.int p0, .int y_1, .int p2, .int p4, .int p5]) (rest := []) ⟨hx, hb, hml, hown, hts⟩ (c_addFold l hst D de ad p0 y_1 p2 p4 p5 s.heap.size) (cwV 5 hts gX11_restore_X11_addFold rfl rfl rfl (by decide +kernel) ⟨Nat.le_of_ble_eq_true rfl, Nat.le_of_ble_eq_true rfl⟩) ⟨px_blind, (va_recv hK hP (ci := 16) (q0 := 0) rfl rfl), (px_pre hP hD hK hS hA hTK hZ [0, 1, 2, 3, 4, 5] rfl rfl (by decide) [] rfl)⟩ rfl rfl hl.1 rfl (lv_room (Nat.le_of_ble_eq_true rfl)) dX11_restore_34 ⟨(Nat.le_of_ble_eq_true rfl), (Nat.le_of_ble_eq_true rfl)⟩) (fun E q9 H locs hE hq hP hD hS => ?_) (fun r_2 u H locs hw hP hD hK1 hS => hw.elim)
    exact kt_out hq hnt hlocks hS hE (Nat.le_of_ble_eq_true rfl) (Nat.le_of_ble_eq_true rfl)
  · refine lv_aload_n hx hb dX11_restore_10 rfl (lv_at hl 1 rfl) ?_
    refine lv_iload_n hx hb dX11_restore_11 rfl (lv_at hl 2 rfl) ?_
    refine lv_iload_n hx hb dX11_restore_12 rfl (lv_at hl 4 rfl) ?_
    refine lv_iload hx hb dX11_restore_13 (lv_at hl 0 rfl) ?_
    refine lv_iload hx hb dX11_restore_15 (lv_at hl 6 rfl) ?_
    refine lv_iload hx hb dX11_restore_17 (lv_at hl 7 rfl) ?_
    refine kt_i (wc := wX ad) (wr := []) hP hD hS hA [0, 1, 2, 3, 4, 5] [] rfl rfl (by decide) (by decide) (vx_runV (As := [.int p0, .int p2, .int y_1, .int p4, .int p5]) (rest := []) ⟨hx, hb, hml, hown, hts⟩ (c_addFold l hst D de ad p0 p2 y_1 p4 p5 s.heap.size) (cwV 5 hts gX11_restore_X11_addFold rfl rfl rfl (by decide +kernel) ⟨Nat.le_of_ble_eq_true rfl, Nat.le_of_ble_eq_true rfl⟩) ⟨px_blind, (va_recv hK hP (ci := 16) (q0 := 0) rfl rfl), (px_pre hP hD hK hS hA hTK hZ [0, 1, 2, 3, 4, 5] rfl rfl (by decide) [] rfl)⟩ rfl rfl hl.1 rfl (lv_room (Nat.le_of_ble_eq_true rfl)) dX11_restore_19 ⟨(Nat.le_of_ble_eq_true rfl), (Nat.le_of_ble_eq_true rfl)⟩) (fun E q9 H locs hE hq hP hD hS => ?_) (fun r_3 u H locs hw hP hD hK1 hS => hw.elim)
    exact kt_out hq hnt hlocks hS hE (Nat.le_of_ble_eq_true rfl) (Nat.le_of_ble_eq_true rfl)

set_option maxHeartbeats 4000000 in
set_option maxRecDepth 100000 in
theorem f_forChild (l : Launch) (hst : l.stackTraces = false) (D : va_G) (de : Nat) (ad : Nat → Nat) (p0 : Int32) (sz : Nat) : vx_Met l yX11_forChild wsX11_forChild ({ frames := 7, cells := 1, slots := 6, locals := 102 } : Room) (va_Pc [.ref (ad 0), .int p0] (PX de D ([]) (wX ad) sz)) (va_Qi (fun (r : Int32) (u : Unit) => False) (fun u t => PW D ([]) (va_A (wX ad) sz) ([]) t) (va_A (wX ad) sz)) (XN (fun E => (E = "java/lang/IllegalArgumentException" ∧ inR p0 0 99 = 0) ∨ (E = "java/lang/UnsupportedOperationException" ∧ ¬ inR p0 0 99 = 0)) (va_A (wX ad) sz)) 1 6 (va_A (wX ad) sz) := by
  refine vx_ofW (cc := cX11_forChild) (maxL := 2) (ret := (some .char)) (by decide) rfl ?_
  intro p e s m args below meth c s₁ B hml hnt hv
  obtain ⟨rfl, hsz, hP, hK, hD0, hTK, hZ⟩ := hv
  have hx := B.exec
  have hb := B.bytes
  have hr := B.returns
  have hts := atoms_spec (ws := wsX11_forChild) B.pre
  have hown : s.vm.findClass RX11 = some m.cls := findClass_of_methodNamed B.named
  have hlocks := B.notSynchronized
  subst hsz
  have hD := hD0.self (sz := s.heap.size)
  generalize hAe : va_A (wX ad) s.heap.size = A at hD hZ ⊢
  have hA : ∀ q : Nat, s.heap.size ≤ q → A q := fun q h => by rw [← hAe]; exact Or.inr h
  have hS : va_S A s.heap s.heap [] := va_S.rf
  have hP : va_P D vwCl (wX ad) s.heap := hP
  have hD : va_D A (wX ad) := hD
  have hl := lv_entry ([.ref (ad 0), .int p0]) (n := 2) (Nat.le_of_ble_eq_true rfl)
  rw [lg_entry_eq]
  generalize (lg_sl ([.ref (ad 0), .int p0]) ++ List.replicate (2 - (lg_sl ([.ref (ad 0), .int p0])).length) Slot.unset).toArray = ls at hl ⊢
  have hl : lv_has ls 2 [(0, .ref (ad 0)), (1, .int p0)] := hl
  refine lv_iload_n hx hb dX11_forChild_0 rfl (lv_at hl 1 rfl) ?_
  refine lv_iconst (v := 0) hx hb dX11_forChild_1 (by decide) ?_
  refine lv_bipush (v := 99) hx hb dX11_forChild_2 (by decide) ?_
  refine kx_i (wc := []) (wr := wX ad) hP hD hS hA [] [0, 1, 2, 3, 4, 5] rfl rfl (by decide) (by decide) (va_runS (As := [.int p0, .int 0, .int 99]) (rest := []) ⟨hx, hb, hml, hown, hts⟩ (c_isWithin l D de p0 0 99 s.heap.size) (va_cwS 3 hts gX11_forChild_X11_isWithin rfl rfl rfl (by decide +kernel) ⟨Nat.le_of_ble_eq_true rfl, Nat.le_of_ble_eq_true rfl⟩) ⟨px_blind, (px_pre hP hD hK hS hA hTK hZ [] rfl rfl (by decide) [] rfl)⟩ rfl rfl hl.1 rfl (lv_room (Nat.le_of_ble_eq_true rfl)) dX11_forChild_4 ⟨(Nat.le_of_ble_eq_true rfl), (Nat.le_of_ble_eq_true rfl)⟩) (fun r_1 u H locs hw hP hD hK1 hS => ?_)
  have hP : va_P D vwCl (wX ad) H := hP
  have hD : va_D A (wX ad) := hD
  obtain rfl : r_1 = inR p0 0 99 := hw
  refine lv_if_ne (tgt := 21) hx hb dX11_forChild_7 (by decide) (fun c_7 => ?_) (fun c_7 => ?_)
  · refine lv_aload_n hx hb dX11_forChild_21 rfl (lv_at hl 0 rfl) ?_
    refine kt_v (wc := wX ad) (wr := []) hP hD hS hA [0, 1, 2, 3, 4, 5] [] rfl rfl (by decide) (by decide) (vx_runV (As := []) (rest := []) ⟨hx, hb, hml, hown, hts⟩ (c_needSpread l hst D de ad H.size) (cwV 0 hts gX11_forChild_X11_needSpread rfl rfl rfl (by decide +kernel) ⟨Nat.le_of_ble_eq_true rfl, Nat.le_of_ble_eq_true rfl⟩) ⟨px_blind, (va_recv hK hP (ci := 16) (q0 := 0) rfl rfl), (px_pre hP hD hK hS hA hTK hZ [0, 1, 2, 3, 4, 5] rfl rfl (by decide) [] rfl)⟩ rfl rfl hl.1 rfl (lv_room (Nat.le_of_ble_eq_true rfl)) dX11_forChild_22 ⟨(Nat.le_of_ble_eq_true rfl), (Nat.le_of_ble_eq_true rfl)⟩) (fun E q9 H locs hE hq hP hD hS => ?_) (fun u H locs hw hP hD hK1 hS => hw.elim)
    exact kt_out hq hnt hlocks hS (Or.inr ⟨hE.1, by assumption⟩) (Nat.le_of_ble_eq_true rfl) (Nat.le_of_ble_eq_true rfl)
  · exact kt_throwW (mc := 1) (ms := 6) (own := RX11) (cls := "java/lang/IllegalArgumentException") (text := "a child has 0 to 99 years") hx hb hst hml hl.1 hts (by decide +kernel) (by decide +kernel) hown hTK hZ hS (by decide +kernel) (by decide +kernel) (thrB_RX11_61) (thrG_RX11_57_61) dX11_forChild_10 dX11_forChild_13 dX11_forChild_14 dX11_forChild_17 dX11_forChild_20 hnt (Nat.le_of_ble_eq_true rfl) (Nat.le_of_ble_eq_true rfl) (Nat.le_of_ble_eq_true rfl) (Nat.le_of_ble_eq_true rfl) hlocks (Or.inl ⟨rfl, by assumption⟩) (Nat.le_of_ble_eq_true rfl) (Nat.le_of_ble_eq_true rfl)

set_option maxHeartbeats 4000000 in
set_option maxRecDepth 100000 in
theorem f_folds (l : Launch) (D : va_G) (de : Nat) (ad : Nat → Nat) (sz : Nat) : Met l yX11_folds wsX11_folds ({ frames := 0, cells := 0, slots := 0, locals := 0 } : Room) (va_Pc [.ref (ad 0)] (PX de D ([]) (wX ad) sz)) (va_Qi (fun (r : Int32) (u : Unit) => r = 0) (fun u t => PW D ([]) (va_A (wX ad) sz) ([]) t) (va_A (wX ad) sz)) 0 0 (va_A (wX ad) sz) := by
  refine Met.ofW (cc := cX11_folds) (maxL := 1) (ret := (some .int)) (by decide) rfl ?_
  intro p e s m args below meth c s₁ B hml hv
  obtain ⟨rfl, hsz, hP, hK, hD0, hTK, hZ⟩ := hv
  have hx := B.exec
  have hb := B.bytes
  have hr := B.returns
  have hts := atoms_spec (ws := wsX11_folds) B.pre
  have hown : s.vm.findClass RX11 = some m.cls := findClass_of_methodNamed B.named
  have hlocks := B.notSynchronized
  have hin_RX0 : ∀ w ∈ u_ws RX0 TX0 11, w ∈ wsX11_folds := by decide +kernel
  have hin_RX11 : ∀ w ∈ u_ws RX11 TX11 6, w ∈ wsX11_folds := by decide +kernel
  subst hsz
  have hD := hD0.self (sz := s.heap.size)
  generalize hAe : va_A (wX ad) s.heap.size = A at hD hZ ⊢
  have hA : ∀ q : Nat, s.heap.size ≤ q → A q := fun q h => by rw [← hAe]; exact Or.inr h
  have hS : va_S A s.heap s.heap [] := va_S.rf
  have hP : va_P D vwCl (wX ad) s.heap := hP
  have hD : va_D A (wX ad) := hD
  have hl := lv_entry ([.ref (ad 0)]) (n := 1) (Nat.le_of_ble_eq_true rfl)
  rw [lg_entry_eq]
  generalize (lg_sl ([.ref (ad 0)]) ++ List.replicate (1 - (lg_sl ([.ref (ad 0)])).length) Slot.unset).toArray = ls at hl ⊢
  have hl : lv_has ls 1 [(0, .ref (ad 0))] := hl
  refine lv_aload_n hx hb dX11_folds_0 rfl (lv_at hl 0 rfl) ?_
  refine va_get (D := D) (ci := 16) (v := .ref (ad 1)) (C := RX11) (T := TX11) (N := 6) hx hb hts hin_RX11 hown hK hP 0 rfl rfl 0 (by decide) (hts (.fieldLink RX11 10 "Popupwright" "book" "LPopupwright$Book;") (by decide +kernel)) (fun _ h9 => h9) rfl dX11_folds_1 ?_
  refine va_get (D := D) (ci := 5) (v := .int 0) (C := RX0) (T := TX0) (N := 11) hx hb hts hin_RX0 hown hK hP 1 rfl rfl 9 (by decide) (hts (.fieldLink RX11 64 "Popupwright$Book" "count" "I") (by decide +kernel)) (fun _ h9 => h9) rfl dX11_folds_4 ?_
  refine W.widen (k := 0) (n := 0) (Nat.le_of_ble_eq_true rfl) (Nat.le_of_ble_eq_true rfl) ?_
  have hP9 := hP.sub (ws' := ([])) [] rfl
  have hD9 := hD.sub (ws' := ([])) [] (by decide) rfl
  have hK9 := hK.sub (tys' := []) [] rfl
  exact W.iret (v := 0) hx hb hr (fun t ht hW => ⟨⟨0, (), rfl, rfl, ⟨by rw [ht]; exact hP9, va_K.moved hW.alike hK9, hD9⟩⟩, hS.F ht⟩) hS.2.2 dX11_folds_7 hlocks

set_option maxHeartbeats 4000000 in
set_option maxRecDepth 100000 in
theorem f_paper (l : Launch) (D : va_G) (de : Nat) (ad : Nat → Nat) (sz : Nat) : Met l yX11_paper wsX11_paper ({ frames := 1, cells := 0, slots := 0, locals := 23 } : Room) (va_Pc [.ref (ad 0)] (PX de D ([]) (wX ad) sz)) (va_Ql (fun (r : Int64) (u : Unit) => r = 0) (fun u t => PW D ([]) (va_A (wX ad) sz) ([]) t) (va_A (wX ad) sz)) 0 0 (va_A (wX ad) sz) := by
  refine Met.ofW (cc := cX11_paper) (maxL := 1) (ret := (some .long)) (by decide) rfl ?_
  intro p e s m args below meth c s₁ B hml hv
  obtain ⟨rfl, hsz, hP, hK, hD0, hTK, hZ⟩ := hv
  have hx := B.exec
  have hb := B.bytes
  have hr := B.returns
  have hts := atoms_spec (ws := wsX11_paper) B.pre
  have hown : s.vm.findClass RX11 = some m.cls := findClass_of_methodNamed B.named
  have hlocks := B.notSynchronized
  have hin_RX11 : ∀ w ∈ u_ws RX11 TX11 6, w ∈ wsX11_paper := by decide +kernel
  subst hsz
  have hD := hD0.self (sz := s.heap.size)
  generalize hAe : va_A (wX ad) s.heap.size = A at hD hZ ⊢
  have hA : ∀ q : Nat, s.heap.size ≤ q → A q := fun q h => by rw [← hAe]; exact Or.inr h
  have hS : va_S A s.heap s.heap [] := va_S.rf
  have hP : va_P D vwCl (wX ad) s.heap := hP
  have hD : va_D A (wX ad) := hD
  have hl := lv_entry ([.ref (ad 0)]) (n := 1) (Nat.le_of_ble_eq_true rfl)
  rw [lg_entry_eq]
  generalize (lg_sl ([.ref (ad 0)]) ++ List.replicate (1 - (lg_sl ([.ref (ad 0)])).length) Slot.unset).toArray = ls at hl ⊢
  have hl : lv_has ls 1 [(0, .ref (ad 0))] := hl
  refine lv_aload_n hx hb dX11_paper_0 rfl (lv_at hl 0 rfl) ?_
  refine va_get (D := D) (ci := 16) (v := .ref (ad 1)) (C := RX11) (T := TX11) (N := 6) hx hb hts hin_RX11 hown hK hP 0 rfl rfl 0 (by decide) (hts (.fieldLink RX11 10 "Popupwright" "book" "LPopupwright$Book;") (by decide +kernel)) (fun _ h9 => h9) rfl dX11_paper_1 ?_
  refine kx_l (wc := wX ad) (wr := []) hP hD hS hA [0, 1, 2, 3, 4, 5] [] rfl rfl (by decide) (by decide) (va_runV (As := []) (rest := []) ⟨hx, hb, hml, hown, hts⟩ (c_netAreas l D de ad s.heap.size) (cwV 0 hts gX11_paper_X0_netAreas rfl rfl rfl (by decide +kernel) ⟨Nat.le_of_ble_eq_true rfl, Nat.le_of_ble_eq_true rfl⟩) ⟨px_blind, (va_recv hK hP (ci := 5) (q0 := 1) rfl rfl), (px_pre hP hD hK hS hA hTK hZ [0, 1, 2, 3, 4, 5] rfl rfl (by decide) [] rfl)⟩ rfl rfl hl.1 rfl (lv_room (Nat.le_of_ble_eq_true rfl)) dX11_paper_4 ⟨(Nat.le_of_ble_eq_true rfl), (Nat.le_of_ble_eq_true rfl)⟩) (fun r_1 u H locs hw hP hD hK1 hS => ?_)
  have hP : va_P D vwCl (wX ad) H := hP
  have hD : va_D A (wX ad) := hD
  obtain rfl : r_1 = 0 := hw
  refine W.widen (k := 0) (n := 0) (Nat.le_of_ble_eq_true rfl) (Nat.le_of_ble_eq_true rfl) ?_
  have hP9 := hP.sub (ws' := ([])) [] rfl
  have hD9 := hD.sub (ws' := ([])) [] (by decide) rfl
  have hK9 := hK.sub (tys' := []) [] rfl
  exact W.lret (v := 0) hx hb hr (fun t ht hW => ⟨⟨0, (), rfl, rfl, ⟨by rw [ht]; exact hP9, va_K.moved hW.alike hK9, hD9⟩⟩, hS.F ht⟩) hS.2.2 dX11_paper_7 hlocks

set_option maxHeartbeats 4000000 in
set_option maxRecDepth 100000 in
theorem f_scene (l : Launch) (hst : l.stackTraces = false) (D : va_G) (de : Nat) (ad : Nat → Nat) (p0 : Int32) (sz : Nat) : vx_Met l yX11_scene wsX11_scene ({ frames := 7, cells := 1, slots := 6, locals := 103 } : Room) (va_Pc [.ref (ad 0), .int p0] (PX de D ([]) (wX ad) sz)) (va_Ql (fun (r : Int64) (u : Unit) => r = 0 ∧ ¬ inR p0 0 18 = 0) (fun u t => PW D ([]) (va_A (wX ad) sz) ([]) t) (va_A (wX ad) sz)) (XN (fun E => (E = "java/lang/IllegalArgumentException" ∧ inR p0 0 18 = 0)) (va_A (wX ad) sz)) 1 6 (va_A (wX ad) sz) := by
  refine vx_ofW (cc := cX11_scene) (maxL := 2) (ret := (some .long)) (by decide) rfl ?_
  intro p e s m args below meth c s₁ B hml hnt hv
  obtain ⟨rfl, hsz, hP, hK, hD0, hTK, hZ⟩ := hv
  have hx := B.exec
  have hb := B.bytes
  have hr := B.returns
  have hts := atoms_spec (ws := wsX11_scene) B.pre
  have hown : s.vm.findClass RX11 = some m.cls := findClass_of_methodNamed B.named
  have hlocks := B.notSynchronized
  have hin_RX11 : ∀ w ∈ u_ws RX11 TX11 6, w ∈ wsX11_scene := by decide +kernel
  subst hsz
  have hD := hD0.self (sz := s.heap.size)
  generalize hAe : va_A (wX ad) s.heap.size = A at hD hZ ⊢
  have hA : ∀ q : Nat, s.heap.size ≤ q → A q := fun q h => by rw [← hAe]; exact Or.inr h
  have hS : va_S A s.heap s.heap [] := va_S.rf
  have hP : va_P D vwCl (wX ad) s.heap := hP
  have hD : va_D A (wX ad) := hD
  have hl := lv_entry ([.ref (ad 0), .int p0]) (n := 2) (Nat.le_of_ble_eq_true rfl)
  rw [lg_entry_eq]
  generalize (lg_sl ([.ref (ad 0), .int p0]) ++ List.replicate (2 - (lg_sl ([.ref (ad 0), .int p0])).length) Slot.unset).toArray = ls at hl ⊢
  have hl : lv_has ls 2 [(0, .ref (ad 0)), (1, .int p0)] := hl
  refine lv_aload_n hx hb dX11_scene_0 rfl (lv_at hl 0 rfl) ?_
  refine lv_iload_n hx hb dX11_scene_1 rfl (lv_at hl 1 rfl) ?_
  refine kt_v (wc := wX ad) (wr := []) hP hD hS hA [0, 1, 2, 3, 4, 5] [] rfl rfl (by decide) (by decide) (vx_runV (As := [.int p0]) (rest := []) ⟨hx, hb, hml, hown, hts⟩ (c_needStep l hst D de ad p0 s.heap.size) (cwV 1 hts gX11_scene_X11_needStep rfl rfl rfl (by decide +kernel) ⟨Nat.le_of_ble_eq_true rfl, Nat.le_of_ble_eq_true rfl⟩) ⟨px_blind, (va_recv hK hP (ci := 16) (q0 := 0) rfl rfl), (px_pre hP hD hK hS hA hTK hZ [0, 1, 2, 3, 4, 5] rfl rfl (by decide) [] rfl)⟩ rfl rfl hl.1 rfl (lv_room (Nat.le_of_ble_eq_true rfl)) dX11_scene_2 ⟨(Nat.le_of_ble_eq_true rfl), (Nat.le_of_ble_eq_true rfl)⟩) (fun E q9 H locs hE hq hP hD hS => ?_) (fun u H locs hw hP hD hK1 hS => ?_)
  · exact kt_out hq hnt hlocks hS hE (Nat.le_of_ble_eq_true rfl) (Nat.le_of_ble_eq_true rfl)
  · have hP : va_P D vwCl (wX ad) H := hP
    have hD : va_D A (wX ad) := hD
    have hin_p0 := hw.2
    refine W.widen (k := 1) (n := 6) (Nat.le_of_ble_eq_true rfl) (Nat.le_of_ble_eq_true rfl) ?_
    refine lv_aload_n hx hb dX11_scene_5 rfl (lv_at hl 0 rfl) ?_
    refine va_get (D := D) (ci := 16) (v := .ref (ad 1)) (C := RX11) (T := TX11) (N := 6) hx hb hts hin_RX11 hown hK hP 0 rfl rfl 0 (by decide) (hts (.fieldLink RX11 10 "Popupwright" "book" "LPopupwright$Book;") (by decide +kernel)) (fun _ h9 => h9) rfl dX11_scene_6 ?_
    refine lv_iload_n hx hb dX11_scene_9 rfl (lv_at hl 1 rfl) ?_
    refine kx_l (wc := wX ad) (wr := []) hP hD hS hA [0, 1, 2, 3, 4, 5] [] rfl rfl (by decide) (by decide) (va_runV (As := [.int p0]) (rest := []) ⟨hx, hb, hml, hown, hts⟩ (c_endsSum l D de ad p0 H.size) (cwV 1 hts gX11_scene_X0_endsSum rfl rfl rfl (by decide +kernel) ⟨Nat.le_of_ble_eq_true rfl, Nat.le_of_ble_eq_true rfl⟩) ⟨px_blind, (va_recv hK hP (ci := 5) (q0 := 1) rfl rfl), (px_pre hP hD hK hS hA hTK hZ [0, 1, 2, 3, 4, 5] rfl rfl (by decide) [] rfl)⟩ rfl rfl hl.1 rfl (lv_room (Nat.le_of_ble_eq_true rfl)) dX11_scene_10 ⟨(Nat.le_of_ble_eq_true rfl), (Nat.le_of_ble_eq_true rfl)⟩) (fun r_2 u H locs hw hP hD hK1 hS => ?_)
    have hP : va_P D vwCl (wX ad) H := hP
    have hD : va_D A (wX ad) := hD
    obtain rfl : r_2 = 0 := hw
    refine W.widen (k := 1) (n := 6) (Nat.le_of_ble_eq_true rfl) (Nat.le_of_ble_eq_true rfl) ?_
    refine W.widen (k := 1) (n := 6) (Nat.le_of_ble_eq_true rfl) (Nat.le_of_ble_eq_true rfl) ?_
    refine vx_ret ?_
    have hP9 := hP.sub (ws' := ([])) [] rfl
    have hD9 := hD.sub (ws' := ([])) [] (by decide) rfl
    have hK9 := hK.sub (tys' := []) [] rfl
    exact W.lret (v := 0) hx hb hr (fun t ht hW => ⟨⟨0, (), rfl, ⟨rfl, by assumption⟩, ⟨by rw [ht]; exact hP9, va_K.moved hW.alike hK9, hD9⟩⟩, hS.F ht⟩) hS.2.2 dX11_scene_13 hlocks

set_option maxHeartbeats 4000000 in
set_option maxRecDepth 100000 in
theorem f_tornShare (l : Launch) (hst : l.stackTraces = false) (D : va_G) (de : Nat) (ad : Nat → Nat) (sz : Nat) : vx_Met l yX11_tornShare wsX11_tornShare ({ frames := 6, cells := 1, slots := 6, locals := 82 } : Room) (va_Pc [.ref (ad 0)] (PX de D ([]) (wX ad) sz)) (va_Qf (fun (r : UInt32) (u : Unit) => False) (fun u t => PW D ([]) (va_A (wX ad) sz) ([]) t) (va_A (wX ad) sz)) (XN (fun E => (E = "java/lang/ArithmeticException" ∧ True)) (va_A (wX ad) sz)) 1 6 (va_A (wX ad) sz) := by
  refine vx_ofW (cc := cX11_tornShare) (maxL := 1) (ret := (some .float)) (by decide) rfl ?_
  intro p e s m args below meth c s₁ B hml hnt hv
  obtain ⟨rfl, hsz, hP, hK, hD0, hTK, hZ⟩ := hv
  have hx := B.exec
  have hb := B.bytes
  have hr := B.returns
  have hts := atoms_spec (ws := wsX11_tornShare) B.pre
  have hown : s.vm.findClass RX11 = some m.cls := findClass_of_methodNamed B.named
  have hlocks := B.notSynchronized
  have hin_RX0 : ∀ w ∈ u_ws RX0 TX0 11, w ∈ wsX11_tornShare := by decide +kernel
  have hin_RX11 : ∀ w ∈ u_ws RX11 TX11 6, w ∈ wsX11_tornShare := by decide +kernel
  subst hsz
  have hD := hD0.self (sz := s.heap.size)
  generalize hAe : va_A (wX ad) s.heap.size = A at hD hZ ⊢
  have hA : ∀ q : Nat, s.heap.size ≤ q → A q := fun q h => by rw [← hAe]; exact Or.inr h
  have hS : va_S A s.heap s.heap [] := va_S.rf
  have hP : va_P D vwCl (wX ad) s.heap := hP
  have hD : va_D A (wX ad) := hD
  have hl := lv_entry ([.ref (ad 0)]) (n := 1) (Nat.le_of_ble_eq_true rfl)
  rw [lg_entry_eq]
  generalize (lg_sl ([.ref (ad 0)]) ++ List.replicate (1 - (lg_sl ([.ref (ad 0)])).length) Slot.unset).toArray = ls at hl ⊢
  have hl : lv_has ls 1 [(0, .ref (ad 0))] := hl
  refine lv_aload_n hx hb dX11_tornShare_0 rfl (lv_at hl 0 rfl) ?_
  refine va_get (D := D) (ci := 16) (v := .ref (ad 1)) (C := RX11) (T := TX11) (N := 6) hx hb hts hin_RX11 hown hK hP 0 rfl rfl 0 (by decide) (hts (.fieldLink RX11 10 "Popupwright" "book" "LPopupwright$Book;") (by decide +kernel)) (fun _ h9 => h9) rfl dX11_tornShare_1 ?_
  refine va_get (D := D) (ci := 5) (v := .int 0) (C := RX0) (T := TX0) (N := 11) hx hb hts hin_RX0 hown hK hP 1 rfl rfl 9 (by decide) (hts (.fieldLink RX11 64 "Popupwright$Book" "count" "I") (by decide +kernel)) (fun _ h9 => h9) rfl dX11_tornShare_4 ?_
  refine lv_if_ne (tgt := 21) hx hb dX11_tornShare_7 (by decide) (fun h_ => absurd (by decide) h_) (fun _ => ?_)
  exact kt_throwW (mc := 1) (ms := 6) (own := RX11) (cls := "java/lang/ArithmeticException") (text := "there are no folds") hx hb hst hml hl.1 hts (by decide +kernel) (by decide +kernel) hown hTK hZ hS (by decide +kernel) (by decide +kernel) (thrB_RX11_425) (thrG_RX11_421_425) dX11_tornShare_10 dX11_tornShare_13 dX11_tornShare_14 dX11_tornShare_17 dX11_tornShare_20 hnt (Nat.le_of_ble_eq_true rfl) (Nat.le_of_ble_eq_true rfl) (Nat.le_of_ble_eq_true rfl) (Nat.le_of_ble_eq_true rfl) hlocks (⟨rfl, trivial⟩) (Nat.le_of_ble_eq_true rfl) (Nat.le_of_ble_eq_true rfl)

set_option maxHeartbeats 4000000 in
set_option maxRecDepth 100000 in
theorem f_meanLength (l : Launch) (hst : l.stackTraces = false) (D : va_G) (de : Nat) (ad : Nat → Nat) (sz : Nat) : vx_Met l yX11_meanLength wsX11_meanLength ({ frames := 6, cells := 1, slots := 6, locals := 82 } : Room) (va_Pc [.ref (ad 0)] (PX de D ([]) (wX ad) sz)) (va_Qd (fun (r : UInt64) (u : Unit) => False) (fun u t => PW D ([]) (va_A (wX ad) sz) ([]) t) (va_A (wX ad) sz)) (XN (fun E => (E = "java/lang/ArithmeticException" ∧ True)) (va_A (wX ad) sz)) 1 6 (va_A (wX ad) sz) := by
  refine vx_ofW (cc := cX11_meanLength) (maxL := 2) (ret := (some .double)) (by decide) rfl ?_
  intro p e s m args below meth c s₁ B hml hnt hv
  obtain ⟨rfl, hsz, hP, hK, hD0, hTK, hZ⟩ := hv
  have hx := B.exec
  have hb := B.bytes
  have hr := B.returns
  have hts := atoms_spec (ws := wsX11_meanLength) B.pre
  have hown : s.vm.findClass RX11 = some m.cls := findClass_of_methodNamed B.named
  have hlocks := B.notSynchronized
  have hin_RX11 : ∀ w ∈ u_ws RX11 TX11 6, w ∈ wsX11_meanLength := by decide +kernel
  subst hsz
  have hD := hD0.self (sz := s.heap.size)
  generalize hAe : va_A (wX ad) s.heap.size = A at hD hZ ⊢
  have hA : ∀ q : Nat, s.heap.size ≤ q → A q := fun q h => by rw [← hAe]; exact Or.inr h
  have hS : va_S A s.heap s.heap [] := va_S.rf
  have hP : va_P D vwCl (wX ad) s.heap := hP
  have hD : va_D A (wX ad) := hD
  have hl := lv_entry ([.ref (ad 0)]) (n := 2) (Nat.le_of_ble_eq_true rfl)
  rw [lg_entry_eq]
  generalize (lg_sl ([.ref (ad 0)]) ++ List.replicate (2 - (lg_sl ([.ref (ad 0)])).length) Slot.unset).toArray = ls at hl ⊢
  have hl : lv_has ls 2 [(0, .ref (ad 0))] := hl
  refine lv_aload_n hx hb dX11_meanLength_0 rfl (lv_at hl 0 rfl) ?_
  refine va_get (D := D) (ci := 16) (v := .ref (ad 1)) (C := RX11) (T := TX11) (N := 6) hx hb hts hin_RX11 hown hK hP 0 rfl rfl 0 (by decide) (hts (.fieldLink RX11 10 "Popupwright" "book" "LPopupwright$Book;") (by decide +kernel)) (fun _ h9 => h9) rfl dX11_meanLength_1 ?_
  refine kx_i (wc := wX ad) (wr := []) hP hD hS hA [0, 1, 2, 3, 4, 5] [] rfl rfl (by decide) (by decide) (va_runV (As := []) (rest := []) ⟨hx, hb, hml, hown, hts⟩ (c_stripCount l D de ad s.heap.size) (cwV 0 hts gX11_meanLength_X0_stripCount rfl rfl rfl (by decide +kernel) ⟨Nat.le_of_ble_eq_true rfl, Nat.le_of_ble_eq_true rfl⟩) ⟨px_blind, (va_recv hK hP (ci := 5) (q0 := 1) rfl rfl), (px_pre hP hD hK hS hA hTK hZ [0, 1, 2, 3, 4, 5] rfl rfl (by decide) [] rfl)⟩ rfl rfl hl.1 rfl (lv_room (Nat.le_of_ble_eq_true rfl)) dX11_meanLength_4 ⟨(Nat.le_of_ble_eq_true rfl), (Nat.le_of_ble_eq_true rfl)⟩) (fun r_1 u H locs hw hP hD hK1 hS => ?_)
  have hP : va_P D vwCl (wX ad) H := hP
  have hD : va_D A (wX ad) := hD
  obtain rfl : r_1 = 0 := hw
  refine lv_istore_n (lv' := [(1, .int 0), (0, .ref (ad 0))]) hx hb dX11_meanLength_7 rfl hl (by decide) rfl (fun ls hl => ?_)
  refine lv_iload_n hx hb dX11_meanLength_8 rfl (lv_at hl 0 rfl) ?_
  refine lv_if_ne (tgt := 23) hx hb dX11_meanLength_9 (by decide) (fun h_ => absurd (by decide) h_) (fun _ => ?_)
  exact kt_throwW (mc := 1) (ms := 6) (own := RX11) (cls := "java/lang/ArithmeticException") (text := "there are no strips") hx hb hst hml hl.1 hts (by decide +kernel) (by decide +kernel) hown hTK hZ hS (by decide +kernel) (by decide +kernel) (thrB_RX11_425) (thrG_RX11_421_425) dX11_meanLength_12 dX11_meanLength_15 dX11_meanLength_16 dX11_meanLength_19 dX11_meanLength_22 hnt (Nat.le_of_ble_eq_true rfl) (Nat.le_of_ble_eq_true rfl) (Nat.le_of_ble_eq_true rfl) (Nat.le_of_ble_eq_true rfl) hlocks (⟨rfl, trivial⟩) (Nat.le_of_ble_eq_true rfl) (Nat.le_of_ble_eq_true rfl)

set_option maxHeartbeats 4000000 in
set_option maxRecDepth 100000 in
theorem f_isSound (l : Launch) (D : va_G) (de : Nat) (ad : Nat → Nat) (sz : Nat) : Met l yX11_isSound wsX11_isSound ({ frames := 2, cells := 0, slots := 0, locals := 46 } : Room) (va_Pc [.ref (ad 0)] (PX de D ([]) (wX ad) sz)) (va_Qi (fun (r : Int32) (u : Unit) => r = 1) (fun u t => PW D ([]) (va_A (wX ad) sz) ([]) t) (va_A (wX ad) sz)) 0 0 (va_A (wX ad) sz) := by
  refine Met.ofW (cc := cX11_isSound) (maxL := 1) (ret := (some .boolean)) (by decide) rfl ?_
  intro p e s m args below meth c s₁ B hml hv
  obtain ⟨rfl, hsz, hP, hK, hD0, hTK, hZ⟩ := hv
  have hx := B.exec
  have hb := B.bytes
  have hr := B.returns
  have hts := atoms_spec (ws := wsX11_isSound) B.pre
  have hown : s.vm.findClass RX11 = some m.cls := findClass_of_methodNamed B.named
  have hlocks := B.notSynchronized
  have hin_RX11 : ∀ w ∈ u_ws RX11 TX11 6, w ∈ wsX11_isSound := by decide +kernel
  subst hsz
  have hD := hD0.self (sz := s.heap.size)
  generalize hAe : va_A (wX ad) s.heap.size = A at hD hZ ⊢
  have hA : ∀ q : Nat, s.heap.size ≤ q → A q := fun q h => by rw [← hAe]; exact Or.inr h
  have hS : va_S A s.heap s.heap [] := va_S.rf
  have hP : va_P D vwCl (wX ad) s.heap := hP
  have hD : va_D A (wX ad) := hD
  have hl := lv_entry ([.ref (ad 0)]) (n := 1) (Nat.le_of_ble_eq_true rfl)
  rw [lg_entry_eq]
  generalize (lg_sl ([.ref (ad 0)]) ++ List.replicate (1 - (lg_sl ([.ref (ad 0)])).length) Slot.unset).toArray = ls at hl ⊢
  have hl : lv_has ls 1 [(0, .ref (ad 0))] := hl
  refine lv_aload_n hx hb dX11_isSound_0 rfl (lv_at hl 0 rfl) ?_
  refine va_get (D := D) (ci := 16) (v := .ref (ad 5)) (C := RX11) (T := TX11) (N := 6) hx hb hts hin_RX11 hown hK hP 0 rfl rfl 4 (by decide) (hts (.fieldLink RX11 42 "Popupwright" "hands" "LPopupwright$Hands;") (by decide +kernel)) (fun _ h9 => h9) rfl dX11_isSound_1 ?_
  refine kx_v (wc := wX ad) (wr := []) hP hD hS hA [0, 1, 2, 3, 4, 5] [] rfl rfl (by decide) (by decide) (va_runV (As := []) (rest := []) ⟨hx, hb, hml, hown, hts⟩ (c_plan l D de ad s.heap.size) (cwV 0 hts gX11_isSound_X3_plan rfl rfl rfl (by decide +kernel) ⟨Nat.le_of_ble_eq_true rfl, Nat.le_of_ble_eq_true rfl⟩) ⟨px_blind, (va_recv hK hP (ci := 8) (q0 := 5) rfl rfl), (px_pre hP hD hK hS hA hTK hZ [0, 1, 2, 3, 4, 5] rfl rfl (by decide) [] rfl)⟩ rfl rfl hl.1 rfl (lv_room (Nat.le_of_ble_eq_true rfl)) dX11_isSound_4 ⟨(Nat.le_of_ble_eq_true rfl), (Nat.le_of_ble_eq_true rfl)⟩) (fun u H locs hw hP hD hK1 hS => ?_)
  have hP : va_P D vwCl (wX ad) H := hP
  have hD : va_D A (wX ad) := hD
  refine lv_aload_n hx hb dX11_isSound_7 rfl (lv_at hl 0 rfl) ?_
  refine va_get (D := D) (ci := 16) (v := .ref (ad 1)) (C := RX11) (T := TX11) (N := 6) hx hb hts hin_RX11 hown hK hP 0 rfl rfl 0 (by decide) (hts (.fieldLink RX11 10 "Popupwright" "book" "LPopupwright$Book;") (by decide +kernel)) (fun _ h9 => h9) rfl dX11_isSound_8 ?_
  refine kx_i (wc := wX ad) (wr := []) hP hD hS hA [0, 1, 2, 3, 4, 5] [] rfl rfl (by decide) (by decide) (va_runV (As := []) (rest := []) ⟨hx, hb, hml, hown, hts⟩ (c_keepsLengths l D de ad H.size) (cwV 0 hts gX11_isSound_X0_keepsLengths rfl rfl rfl (by decide +kernel) ⟨Nat.le_of_ble_eq_true rfl, Nat.le_of_ble_eq_true rfl⟩) ⟨px_blind, (va_recv hK hP (ci := 5) (q0 := 1) rfl rfl), (px_pre hP hD hK hS hA hTK hZ [0, 1, 2, 3, 4, 5] rfl rfl (by decide) [] rfl)⟩ rfl rfl hl.1 rfl (lv_room (Nat.le_of_ble_eq_true rfl)) dX11_isSound_11 ⟨(Nat.le_of_ble_eq_true rfl), (Nat.le_of_ble_eq_true rfl)⟩) (fun r_2 u H locs hw hP hD hK1 hS => ?_)
  have hP : va_P D vwCl (wX ad) H := hP
  have hD : va_D A (wX ad) := hD
  obtain rfl : r_2 = 1 := hw
  refine lv_if_eq (tgt := 41) hx hb dX11_isSound_14 (by decide) (fun h_ => absurd h_ (by decide)) (fun _ => ?_)
  refine lv_aload_n hx hb dX11_isSound_17 rfl (lv_at hl 0 rfl) ?_
  refine va_get (D := D) (ci := 16) (v := .ref (ad 1)) (C := RX11) (T := TX11) (N := 6) hx hb hts hin_RX11 hown hK hP 0 rfl rfl 0 (by decide) (hts (.fieldLink RX11 10 "Popupwright" "book" "LPopupwright$Book;") (by decide +kernel)) (fun _ h9 => h9) rfl dX11_isSound_18 ?_
  refine kx_i (wc := wX ad) (wr := []) hP hD hS hA [0, 1, 2, 3, 4, 5] [] rfl rfl (by decide) (by decide) (va_runV (As := []) (rest := []) ⟨hx, hb, hml, hown, hts⟩ (c_clashesByHalves l D de ad H.size) (cwV 0 hts gX11_isSound_X0_clashesByHalves rfl rfl rfl (by decide +kernel) ⟨Nat.le_of_ble_eq_true rfl, Nat.le_of_ble_eq_true rfl⟩) ⟨px_blind, (va_recv hK hP (ci := 5) (q0 := 1) rfl rfl), (px_pre hP hD hK hS hA hTK hZ [0, 1, 2, 3, 4, 5] rfl rfl (by decide) [] rfl)⟩ rfl rfl hl.1 rfl (lv_room (Nat.le_of_ble_eq_true rfl)) dX11_isSound_21 ⟨(Nat.le_of_ble_eq_true rfl), (Nat.le_of_ble_eq_true rfl)⟩) (fun r_3 u H locs hw hP hD hK1 hS => ?_)
  have hP : va_P D vwCl (wX ad) H := hP
  have hD : va_D A (wX ad) := hD
  obtain rfl : r_3 = 1 := hw
  refine lv_if_eq (tgt := 41) hx hb dX11_isSound_24 (by decide) (fun h_ => absurd h_ (by decide)) (fun _ => ?_)
  refine lv_aload_n hx hb dX11_isSound_27 rfl (lv_at hl 0 rfl) ?_
  refine va_get (D := D) (ci := 16) (v := .ref (ad 5)) (C := RX11) (T := TX11) (N := 6) hx hb hts hin_RX11 hown hK hP 0 rfl rfl 4 (by decide) (hts (.fieldLink RX11 42 "Popupwright" "hands" "LPopupwright$Hands;") (by decide +kernel)) (fun _ h9 => h9) rfl dX11_isSound_28 ?_
  refine kx_i (wc := wX ad) (wr := []) hP hD hS hA [0, 1, 2, 3, 4, 5] [] rfl rfl (by decide) (by decide) (va_runV (As := []) (rest := []) ⟨hx, hb, hml, hown, hts⟩ (c_waitsTillDry l D de ad H.size) (cwV 0 hts gX11_isSound_X3_waitsTillDry rfl rfl rfl (by decide +kernel) ⟨Nat.le_of_ble_eq_true rfl, Nat.le_of_ble_eq_true rfl⟩) ⟨px_blind, (va_recv hK hP (ci := 8) (q0 := 5) rfl rfl), (px_pre hP hD hK hS hA hTK hZ [0, 1, 2, 3, 4, 5] rfl rfl (by decide) [] rfl)⟩ rfl rfl hl.1 rfl (lv_room (Nat.le_of_ble_eq_true rfl)) dX11_isSound_31 ⟨(Nat.le_of_ble_eq_true rfl), (Nat.le_of_ble_eq_true rfl)⟩) (fun r_4 u H locs hw hP hD hK1 hS => ?_)
  have hP : va_P D vwCl (wX ad) H := hP
  have hD : va_D A (wX ad) := hD
  obtain rfl : r_4 = 1 := hw
  refine lv_if_eq (tgt := 41) hx hb dX11_isSound_34 (by decide) (fun h_ => absurd h_ (by decide)) (fun _ => ?_)
  refine lv_iconst (v := 1) hx hb dX11_isSound_37 (by decide) ?_
  refine lv_goto (tgt := 42) hx hb dX11_isSound_38 (by decide) ?_
  refine W.widen (k := 0) (n := 0) (Nat.le_of_ble_eq_true rfl) (Nat.le_of_ble_eq_true rfl) ?_
  have hP9 := hP.sub (ws' := ([])) [] rfl
  have hD9 := hD.sub (ws' := ([])) [] (by decide) rfl
  have hK9 := hK.sub (tys' := []) [] rfl
  exact W.zret (v := 1) hx hb hr (by decide) (fun t ht hW => ⟨⟨1, (), rfl, rfl, ⟨by rw [ht]; exact hP9, va_K.moved hW.alike hK9, hD9⟩⟩, hS.F ht⟩) hS.2.2 dX11_isSound_42 hlocks
