set_option maxHeartbeats 4000000 in
set_option maxRecDepth 100000 in
theorem c_isWithin (l : Launch) (D : va_G) (de : Nat) (p0 p1 p2 : Int32) (sz : Nat) : Met l yX11_isWithin wsX11_isWithin ({ frames := 0, cells := 0, slots := 0, locals := 0 } : Room) (va_Pc [.int p0, .int p1, .int p2] (PX de D ([]) ([]) sz)) (va_Qi (fun (r : Int32) (u : Unit) => r = inR p0 p1 p2) (fun (_ : Unit) t => PW D ([]) (va_A ([]) sz) ([]) t) (va_A ([]) sz)) 0 0 (va_A ([]) sz) := by
  refine Met.ofW (cc := cX11_isWithin) (maxL := 3) (ret := (some .boolean)) (by decide) rfl ?_
  intro p e s m args below meth c s₁ B hml hv
  obtain ⟨rfl, hsz, hP, hK, hD0, hTK, hZ⟩ := hv
  have hx := B.exec
  have hb := B.bytes
  have hr := B.returns
  have hts := atoms_spec (ws := wsX11_isWithin) B.pre
  have hown : s.vm.findClass RX11 = some m.cls := findClass_of_methodNamed B.named
  have hlocks := B.notSynchronized
  subst hsz
  have hD := hD0.self (sz := s.heap.size)
  generalize hAe : va_A ([]) s.heap.size = A at hD hZ ⊢
  have hA : ∀ q : Nat, s.heap.size ≤ q → A q := fun q h => by rw [← hAe]; exact Or.inr h
  have hS : va_S A s.heap s.heap [] := va_S.rf
  have hl := lv_entry ([.int p0, .int p1, .int p2]) (n := 3) (Nat.le_of_ble_eq_true rfl)
  rw [lg_entry_eq]
  generalize (lg_sl ([.int p0, .int p1, .int p2]) ++ List.replicate (3 - (lg_sl ([.int p0, .int p1, .int p2])).length) Slot.unset).toArray = ls at hl ⊢
  have hl : lv_has ls 3 [(0, .int p0), (1, .int p1), (2, .int p2)] := hl
  refine lv_iload_n hx hb dX11_isWithin_0 rfl (lv_at hl 0 rfl) ?_
  refine lv_iload_n hx hb dX11_isWithin_1 rfl (lv_at hl 1 rfl) ?_
  refine lv_icmp_lt (tgt := 14) hx hb dX11_isWithin_2 (by decide) (fun c_2 => ?_) (fun c_2 => ?_)
  · refine lv_iconst (v := 0) hx hb dX11_isWithin_14 (by decide) ?_
    refine W.widen (k := 0) (n := 0) (Nat.le_of_ble_eq_true rfl) (Nat.le_of_ble_eq_true rfl) ?_
    have hP9 := hP.sub (ws' := ([])) [] rfl
    have hD9 := hD.sub (ws' := ([])) [] (by decide) rfl
    have hK9 := hK.sub (tys' := []) [] rfl
    exact W.zret (v := 0) hx hb hr (by decide) (fun t ht hW => ⟨⟨0, (), rfl, (by first | exact (inR_lo (by assumption)).symm | exact (inR_hi (by assumption)).symm | exact (inR_in (by assumption) (by assumption)).symm), ⟨by rw [ht]; exact hP9, va_K.moved hW.alike hK9, hD9⟩⟩, hS.F ht⟩) hS.2.2 dX11_isWithin_15 hlocks
  · refine lv_iload_n hx hb dX11_isWithin_5 rfl (lv_at hl 0 rfl) ?_
    refine lv_iload_n hx hb dX11_isWithin_6 rfl (lv_at hl 2 rfl) ?_
    refine lv_icmp_gt (tgt := 14) hx hb dX11_isWithin_7 (by decide) (fun c_7 => ?_) (fun c_7 => ?_)
    · refine lv_iconst (v := 0) hx hb dX11_isWithin_14 (by decide) ?_
      refine W.widen (k := 0) (n := 0) (Nat.le_of_ble_eq_true rfl) (Nat.le_of_ble_eq_true rfl) ?_
      have hP9 := hP.sub (ws' := ([])) [] rfl
      have hD9 := hD.sub (ws' := ([])) [] (by decide) rfl
      have hK9 := hK.sub (tys' := []) [] rfl
      exact W.zret (v := 0) hx hb hr (by decide) (fun t ht hW => ⟨⟨0, (), rfl, (by first | exact (inR_lo (by assumption)).symm | exact (inR_hi (by assumption)).symm | exact (inR_in (by assumption) (by assumption)).symm), ⟨by rw [ht]; exact hP9, va_K.moved hW.alike hK9, hD9⟩⟩, hS.F ht⟩) hS.2.2 dX11_isWithin_15 hlocks
    · refine lv_iconst (v := 1) hx hb dX11_isWithin_10 (by decide) ?_
      refine lv_goto (tgt := 15) hx hb dX11_isWithin_11 (by decide) ?_
      refine W.widen (k := 0) (n := 0) (Nat.le_of_ble_eq_true rfl) (Nat.le_of_ble_eq_true rfl) ?_
      have hP9 := hP.sub (ws' := ([])) [] rfl
      have hD9 := hD.sub (ws' := ([])) [] (by decide) rfl
      have hK9 := hK.sub (tys' := []) [] rfl
      exact W.zret (v := 1) hx hb hr (by decide) (fun t ht hW => ⟨⟨1, (), rfl, (by first | exact (inR_lo (by assumption)).symm | exact (inR_hi (by assumption)).symm | exact (inR_in (by assumption) (by assumption)).symm), ⟨by rw [ht]; exact hP9, va_K.moved hW.alike hK9, hD9⟩⟩, hS.F ht⟩) hS.2.2 dX11_isWithin_15 hlocks

set_option maxHeartbeats 4000000 in
set_option maxRecDepth 100000 in
theorem c_creaseOf (l : Launch) (D : va_G) (de : Nat) (ad : Nat → Nat) (p0 : Int32) (sz : Nat) : Met l yX0_creaseOf wsX0_creaseOf ({ frames := 0, cells := 0, slots := 0, locals := 0 } : Room) (va_Pc [.ref (ad 1), .int p0] (PX de D ([]) (wX ad) sz)) (va_Qq (fun (r : Option Nat) (u : Unit) => r = none) (fun (_ : Unit) t => PW D ([]) (va_A (wX ad) sz) (wX ad) t) (va_A (wX ad) sz)) 0 0 (va_A (wX ad) sz) := by
  refine Met.ofW (cc := cX0_creaseOf) (maxL := 2) (ret := (some (.object "Popupwright$Crease"))) (by decide) rfl ?_
  intro p e s m args below meth c s₁ B hml hv
  obtain ⟨rfl, hsz, hP, hK, hD0, hTK, hZ⟩ := hv
  have hx := B.exec
  have hb := B.bytes
  have hr := B.returns
  have hts := atoms_spec (ws := wsX0_creaseOf) B.pre
  have hown : s.vm.findClass RX0 = some m.cls := findClass_of_methodNamed B.named
  have hlocks := B.notSynchronized
  have hin_RX0 : ∀ w ∈ u_ws RX0 TX0 11, w ∈ wsX0_creaseOf := by decide +kernel
  subst hsz
  have hD := hD0.self (sz := s.heap.size)
  generalize hAe : va_A (wX ad) s.heap.size = A at hD hZ ⊢
  have hA : ∀ q : Nat, s.heap.size ≤ q → A q := fun q h => by rw [← hAe]; exact Or.inr h
  have hS : va_S A s.heap s.heap [] := va_S.rf
  have hP : va_P D vwCl (wX ad) s.heap := hP
  have hD : va_D A (wX ad) := hD
  have hl := lv_entry ([.ref (ad 1), .int p0]) (n := 2) (Nat.le_of_ble_eq_true rfl)
  rw [lg_entry_eq]
  generalize (lg_sl ([.ref (ad 1), .int p0]) ++ List.replicate (2 - (lg_sl ([.ref (ad 1), .int p0])).length) Slot.unset).toArray = ls at hl ⊢
  have hl : lv_has ls 2 [(0, .ref (ad 1)), (1, .int p0)] := hl
  refine lv_aload_n hx hb dX0_creaseOf_0 rfl (lv_at hl 0 rfl) ?_
  refine va_get (D := D) (ci := 5) (v := .int 0) (C := RX0) (T := TX0) (N := 11) hx hb hts hin_RX0 hown hK hP 1 rfl rfl 6 (by decide) (hts (.fieldLink RX0 58 "Popupwright$Book" "isBegun" "Z") (by decide +kernel)) (fun _ h9 => h9) rfl dX0_creaseOf_1 ?_
  refine lv_if_eq (tgt := 30) hx hb dX0_creaseOf_4 (by decide) (fun _ => ?_) (fun h_ => absurd (by decide) h_)
  refine lv_null hx hb dX0_creaseOf_30 ?_
  refine W.widen (k := 0) (n := 0) (Nat.le_of_ble_eq_true rfl) (Nat.le_of_ble_eq_true rfl) ?_
  have hP9 := hP.sub (ws' := (wX ad)) [0, 1, 2, 3, 4, 5] rfl
  have hD9 := hD.sub (ws' := (wX ad)) [0, 1, 2, 3, 4, 5] (by decide) rfl
  have hK9 := hK.sub (tys' := []) [] rfl
  exact W.aret (v := .null) hx hb hr (Or.inl ⟨_, rfl⟩) (Or.inl rfl) (fun t ht hW => ⟨⟨none, (), rfl, rfl, ⟨by rw [ht]; exact hP9, va_K.moved hW.alike hK9, hD9⟩⟩, hS.F ht⟩) hS.2.2 dX0_creaseOf_31 hlocks

set_option maxHeartbeats 4000000 in
set_option maxRecDepth 100000 in
theorem c_needCrease (l : Launch) (hst : l.stackTraces = false) (D : va_G) (de : Nat) (ad : Nat → Nat) (p0 : Int32) (sz : Nat) : vx_Met l yX11_needCrease wsX11_needCrease ({ frames := 6, cells := 1, slots := 6, locals := 82 } : Room) (va_Pc [.ref (ad 0), .int p0] (PX de D ([]) (wX ad) sz)) (va_Qq (fun (r : Option Nat) (u : Unit) => False) (fun (_ : Unit) t => PW D ([]) (va_A (wX ad) sz) (wX ad) t) (va_A (wX ad) sz)) (XN (fun E => (E = "java/lang/IndexOutOfBoundsException" ∧ True)) (va_A (wX ad) sz)) 1 6 (va_A (wX ad) sz) := by
  refine vx_ofW (cc := cX11_needCrease) (maxL := 3) (ret := (some (.object "Popupwright$Crease"))) (by decide) rfl ?_
  intro p e s m args below meth c s₁ B hml hnt hv
  obtain ⟨rfl, hsz, hP, hK, hD0, hTK, hZ⟩ := hv
  have hx := B.exec
  have hb := B.bytes
  have hr := B.returns
  have hts := atoms_spec (ws := wsX11_needCrease) B.pre
  have hown : s.vm.findClass RX11 = some m.cls := findClass_of_methodNamed B.named
  have hlocks := B.notSynchronized
  have hin_RX11 : ∀ w ∈ u_ws RX11 TX11 6, w ∈ wsX11_needCrease := by decide +kernel
  subst hsz
  have hD := hD0.self (sz := s.heap.size)
  generalize hAe : va_A (wX ad) s.heap.size = A at hD hZ ⊢
  have hA : ∀ q : Nat, s.heap.size ≤ q → A q := fun q h => by rw [← hAe]; exact Or.inr h
  have hS : va_S A s.heap s.heap [] := va_S.rf
  have hP : va_P D vwCl (wX ad) s.heap := hP
  have hD : va_D A (wX ad) := hD
  have hl := lv_entry ([.ref (ad 0), .int p0]) (n := 3) (Nat.le_of_ble_eq_true rfl)
  rw [lg_entry_eq]
  generalize (lg_sl ([.ref (ad 0), .int p0]) ++ List.replicate (3 - (lg_sl ([.ref (ad 0), .int p0])).length) Slot.unset).toArray = ls at hl ⊢
  have hl : lv_has ls 3 [(0, .ref (ad 0)), (1, .int p0)] := hl
  refine lv_aload_n hx hb dX11_needCrease_0 rfl (lv_at hl 0 rfl) ?_
  refine va_get (D := D) (ci := 16) (v := .ref (ad 1)) (C := RX11) (T := TX11) (N := 6) hx hb hts hin_RX11 hown hK hP 0 rfl rfl 0 (by decide) (hts (.fieldLink RX11 10 "Popupwright" "book" "LPopupwright$Book;") (by decide +kernel)) (fun _ h9 => h9) rfl dX11_needCrease_1 ?_
  refine lv_iload_n hx hb dX11_needCrease_4 rfl (lv_at hl 1 rfl) ?_
  refine kx_q (wc := wX ad) (wr := []) hP hD hS hA [0, 1, 2, 3, 4, 5] [] rfl rfl (by decide) (by decide) (va_runV (As := [.int p0]) (rest := []) ⟨hx, hb, hml, hown, hts⟩ (c_creaseOf l D de ad p0 s.heap.size) (cwV 1 hts gX11_needCrease_X0_creaseOf rfl rfl rfl (by decide +kernel) ⟨Nat.le_of_ble_eq_true rfl, Nat.le_of_ble_eq_true rfl⟩) ⟨px_blind, (va_recv hK hP (ci := 5) (q0 := 1) rfl rfl), (px_pre hP hD hK hS hA hTK hZ [0, 1, 2, 3, 4, 5] rfl rfl (by decide) [] rfl)⟩ rfl rfl hl.1 rfl (lv_room (Nat.le_of_ble_eq_true rfl)) dX11_needCrease_5 ⟨Nat.le_of_ble_eq_true rfl, Nat.le_of_ble_eq_true rfl⟩) (fun r_1 u H locs hw hP hD hK1 hS => ?_)
  have hP : va_P D vwCl (wX ad) H := hP
  have hD : va_D A (wX ad) := hD
  obtain rfl : r_1 = none := hw
  refine lv_astore_nN (lv' := [(2, .null), (0, .ref (ad 0)), (1, .int p0)]) hx hb dX11_needCrease_8 rfl hl (by decide) rfl (fun ls hl => ?_)
  refine lv_aload_nN hx hb dX11_needCrease_9 rfl (lv_at hl 0 rfl) ?_
  refine lv_ifnonnullN hx hb dX11_needCrease_10 ?_
  exact kt_throwW (mc := 1) (ms := 6) (own := RX11) (cls := "java/lang/IndexOutOfBoundsException") (text := "no such crease") hx hb hst hml hl.1 hts (by decide +kernel) (by decide +kernel) hown hTK hZ hS (by decide +kernel) (by decide +kernel) (thrB_RX11_474) (thrG_RX11_470_474) dX11_needCrease_13 dX11_needCrease_16 dX11_needCrease_17 dX11_needCrease_20 dX11_needCrease_23 hnt (Nat.le_of_ble_eq_true rfl) (Nat.le_of_ble_eq_true rfl) (Nat.le_of_ble_eq_true rfl) (Nat.le_of_ble_eq_true rfl) hlocks (⟨rfl, trivial⟩) (Nat.le_of_ble_eq_true rfl) (Nat.le_of_ble_eq_true rfl)

set_option maxHeartbeats 4000000 in
set_option maxRecDepth 100000 in
theorem c_room (l : Launch) (hst : l.stackTraces = false) (D : va_G) (de : Nat) (ad : Nat → Nat) (p0 p1 : Int32) (sz : Nat) : vx_Met l yX11_room wsX11_room ({ frames := 7, cells := 1, slots := 6, locals := 104 } : Room) (va_Pc [.ref (ad 0), .int p0, .int p1] (PX de D ([]) (wX ad) sz)) (va_Qi (fun (r : Int32) (u : Unit) => False) (fun (_ : Unit) t => PW D ([]) (va_A (wX ad) sz) (wX ad) t) (va_A (wX ad) sz)) (XN (fun E => (E = "java/lang/IndexOutOfBoundsException" ∧ True)) (va_A (wX ad) sz)) 1 6 (va_A (wX ad) sz) := by
  refine vx_ofW (cc := cX11_room) (maxL := 4) (ret := (some .int)) (by decide) rfl ?_
  intro p e s m args below meth c s₁ B hml hnt hv
  obtain ⟨rfl, hsz, hP, hK, hD0, hTK, hZ⟩ := hv
  have hx := B.exec
  have hb := B.bytes
  have hr := B.returns
  have hts := atoms_spec (ws := wsX11_room) B.pre
  have hown : s.vm.findClass RX11 = some m.cls := findClass_of_methodNamed B.named
  have hlocks := B.notSynchronized
  subst hsz
  have hD := hD0.self (sz := s.heap.size)
  generalize hAe : va_A (wX ad) s.heap.size = A at hD hZ ⊢
  have hA : ∀ q : Nat, s.heap.size ≤ q → A q := fun q h => by rw [← hAe]; exact Or.inr h
  have hS : va_S A s.heap s.heap [] := va_S.rf
  have hP : va_P D vwCl (wX ad) s.heap := hP
  have hD : va_D A (wX ad) := hD
  have hl := lv_entry ([.ref (ad 0), .int p0, .int p1]) (n := 4) (Nat.le_of_ble_eq_true rfl)
  rw [lg_entry_eq]
  generalize (lg_sl ([.ref (ad 0), .int p0, .int p1]) ++ List.replicate (4 - (lg_sl ([.ref (ad 0), .int p0, .int p1])).length) Slot.unset).toArray = ls at hl ⊢
  have hl : lv_has ls 4 [(0, .ref (ad 0)), (1, .int p0), (2, .int p1)] := hl
  refine lv_aload_n hx hb dX11_room_0 rfl (lv_at hl 0 rfl) ?_
  refine lv_iload_n hx hb dX11_room_1 rfl (lv_at hl 1 rfl) ?_
  refine kt_q (wc := wX ad) (wr := []) hP hD hS hA [0, 1, 2, 3, 4, 5] [] rfl rfl (by decide) (by decide) (vx_runV (As := [.int p0]) (rest := []) ⟨hx, hb, hml, hown, hts⟩ (c_needCrease l hst D de ad p0 s.heap.size) (cwV 1 hts gX11_room_X11_needCrease rfl rfl rfl (by decide +kernel) ⟨Nat.le_of_ble_eq_true rfl, Nat.le_of_ble_eq_true rfl⟩) ⟨px_blind, (va_recv hK hP (ci := 16) (q0 := 0) rfl rfl), (px_pre hP hD hK hS hA hTK hZ [0, 1, 2, 3, 4, 5] rfl rfl (by decide) [] rfl)⟩ rfl rfl hl.1 rfl (lv_room (Nat.le_of_ble_eq_true rfl)) dX11_room_2 ⟨Nat.le_of_ble_eq_true rfl, Nat.le_of_ble_eq_true rfl⟩) (fun E q9 H locs hE hq hP hD hS => ?_) (fun r_1 u H locs hw hP hD hK1 hS => hw.elim)
  exact kt_out hq hnt hlocks hS hE (Nat.le_of_ble_eq_true rfl) (Nat.le_of_ble_eq_true rfl)

set_option maxHeartbeats 4000000 in
set_option maxRecDepth 100000 in
theorem c_L_room (l : Launch) (hst : l.stackTraces = false) (D : va_G) (de : Nat) (ad : Nat → Nat) (cA : ClassId) (f : Nat → Int64) (p0 p1 : Int32) (sz : Nat) : Met l yL_room wsL_room ({ frames := 8, cells := 1, slots := 6, locals := 127 } : Room) (va_Pc [.ref (ad 0), .int p0, .int p1, .ref (ad 46)] (PX de D ([(cA, .long)]) ([(ad 0, .inr (16, [.ref (ad 1), .ref (ad 2), .ref (ad 3), .ref (ad 4), .ref (ad 5), .ref (ad 6)])), (ad 1, .inr (5, [.ref (ad 7), .ref (ad 8), .ref (ad 9), .ref (ad 10), .ref (ad 11), .ref (ad 12), .int 0, .int 0, .int 0, .int 0, .int 200])), (ad 2, .inr (9, [.ref (ad 1), .ref (ad 13), .int 0])), (ad 3, .inr (13, [.ref (ad 14), .int 0])), (ad 4, .inr (10, [.ref (ad 1), .ref (ad 15), .ref (ad 16), .ref (ad 17), .ref (ad 18), .ref (ad 19), .ref (ad 20), .ref (ad 21), .ref (ad 22), .int 500, .int 700, .int 0, .int 0])), (ad 5, .inr (8, [.ref (ad 1), .ref (ad 23), .ref (ad 24), .ref (ad 25), .ref (ad 26), .ref (ad 27), .ref (ad 28), .int 10, .int 0])), (ad 46, .inl (cA, 1, .inr (.inl f)))]) sz)) (va_Qi (fun (r : Int32) (u : Unit) => r = 1) (fun (_ : Unit) t => PW D ([(cA, .long)]) (va_A ([(ad 0, .inr (16, [.ref (ad 1), .ref (ad 2), .ref (ad 3), .ref (ad 4), .ref (ad 5), .ref (ad 6)])), (ad 1, .inr (5, [.ref (ad 7), .ref (ad 8), .ref (ad 9), .ref (ad 10), .ref (ad 11), .ref (ad 12), .int 0, .int 0, .int 0, .int 0, .int 200])), (ad 2, .inr (9, [.ref (ad 1), .ref (ad 13), .int 0])), (ad 3, .inr (13, [.ref (ad 14), .int 0])), (ad 4, .inr (10, [.ref (ad 1), .ref (ad 15), .ref (ad 16), .ref (ad 17), .ref (ad 18), .ref (ad 19), .ref (ad 20), .ref (ad 21), .ref (ad 22), .int 500, .int 700, .int 0, .int 0])), (ad 5, .inr (8, [.ref (ad 1), .ref (ad 23), .ref (ad 24), .ref (ad 25), .ref (ad 26), .ref (ad 27), .ref (ad 28), .int 10, .int 0])), (ad 46, .inl (cA, 1, .inr (.inl f)))]) sz) ([(ad 0, .inr (16, [.ref (ad 1), .ref (ad 2), .ref (ad 3), .ref (ad 4), .ref (ad 5), .ref (ad 6)])), (ad 1, .inr (5, [.ref (ad 7), .ref (ad 8), .ref (ad 9), .ref (ad 10), .ref (ad 11), .ref (ad 12), .int 0, .int 0, .int 0, .int 0, .int 200])), (ad 2, .inr (9, [.ref (ad 1), .ref (ad 13), .int 0])), (ad 3, .inr (13, [.ref (ad 14), .int 0])), (ad 4, .inr (10, [.ref (ad 1), .ref (ad 15), .ref (ad 16), .ref (ad 17), .ref (ad 18), .ref (ad 19), .ref (ad 20), .ref (ad 21), .ref (ad 22), .int 500, .int 700, .int 0, .int 0])), (ad 5, .inr (8, [.ref (ad 1), .ref (ad 23), .ref (ad 24), .ref (ad 25), .ref (ad 26), .ref (ad 27), .ref (ad 28), .int 10, .int 0])), (ad 46, .inl (cA, 1, .inr (.inl f)))]) t) (va_A ([(ad 0, .inr (16, [.ref (ad 1), .ref (ad 2), .ref (ad 3), .ref (ad 4), .ref (ad 5), .ref (ad 6)])), (ad 1, .inr (5, [.ref (ad 7), .ref (ad 8), .ref (ad 9), .ref (ad 10), .ref (ad 11), .ref (ad 12), .int 0, .int 0, .int 0, .int 0, .int 200])), (ad 2, .inr (9, [.ref (ad 1), .ref (ad 13), .int 0])), (ad 3, .inr (13, [.ref (ad 14), .int 0])), (ad 4, .inr (10, [.ref (ad 1), .ref (ad 15), .ref (ad 16), .ref (ad 17), .ref (ad 18), .ref (ad 19), .ref (ad 20), .ref (ad 21), .ref (ad 22), .int 500, .int 700, .int 0, .int 0])), (ad 5, .inr (8, [.ref (ad 1), .ref (ad 23), .ref (ad 24), .ref (ad 25), .ref (ad 26), .ref (ad 27), .ref (ad 28), .int 10, .int 0])), (ad 46, .inl (cA, 1, .inr (.inl f)))]) sz)) 1 6 (va_A ([(ad 0, .inr (16, [.ref (ad 1), .ref (ad 2), .ref (ad 3), .ref (ad 4), .ref (ad 5), .ref (ad 6)])), (ad 1, .inr (5, [.ref (ad 7), .ref (ad 8), .ref (ad 9), .ref (ad 10), .ref (ad 11), .ref (ad 12), .int 0, .int 0, .int 0, .int 0, .int 200])), (ad 2, .inr (9, [.ref (ad 1), .ref (ad 13), .int 0])), (ad 3, .inr (13, [.ref (ad 14), .int 0])), (ad 4, .inr (10, [.ref (ad 1), .ref (ad 15), .ref (ad 16), .ref (ad 17), .ref (ad 18), .ref (ad 19), .ref (ad 20), .ref (ad 21), .ref (ad 22), .int 500, .int 700, .int 0, .int 0])), (ad 5, .inr (8, [.ref (ad 1), .ref (ad 23), .ref (ad 24), .ref (ad 25), .ref (ad 26), .ref (ad 27), .ref (ad 28), .int 10, .int 0])), (ad 46, .inl (cA, 1, .inr (.inl f)))]) sz) := by
  refine va_MetW (cc := cL_room) (maxL := 5) (ret := (some .int)) (by decide) rfl ?_
  intro p e s m args below meth c s₁ B hml hv
  obtain ⟨rfl, hsz, hP, hK, hD0, hTK, hZ⟩ := hv
  have hx := B.exec
  have hb := B.bytes
  have hr := B.returns
  have hts := atoms_spec (ws := wsL_room) B.pre
  have hown : s.vm.findClass RL = some m.cls := findClass_of_methodNamed B.named
  have hlocks := B.notSynchronized
  have htab := vx_table B (hts _ List.mem_cons_self)
  subst hsz
  have hD := hD0.self (sz := s.heap.size)
  generalize hAe : va_A ([(ad 0, .inr (16, [.ref (ad 1), .ref (ad 2), .ref (ad 3), .ref (ad 4), .ref (ad 5), .ref (ad 6)])), (ad 1, .inr (5, [.ref (ad 7), .ref (ad 8), .ref (ad 9), .ref (ad 10), .ref (ad 11), .ref (ad 12), .int 0, .int 0, .int 0, .int 0, .int 200])), (ad 2, .inr (9, [.ref (ad 1), .ref (ad 13), .int 0])), (ad 3, .inr (13, [.ref (ad 14), .int 0])), (ad 4, .inr (10, [.ref (ad 1), .ref (ad 15), .ref (ad 16), .ref (ad 17), .ref (ad 18), .ref (ad 19), .ref (ad 20), .ref (ad 21), .ref (ad 22), .int 500, .int 700, .int 0, .int 0])), (ad 5, .inr (8, [.ref (ad 1), .ref (ad 23), .ref (ad 24), .ref (ad 25), .ref (ad 26), .ref (ad 27), .ref (ad 28), .int 10, .int 0])), (ad 46, .inl (cA, 1, .inr (.inl f)))]) s.heap.size = A at hD hZ ⊢
  have hA : ∀ q : Nat, s.heap.size ≤ q → A q := fun q h => by rw [← hAe]; exact Or.inr h
  have hS : va_S A s.heap s.heap [] := va_S.rf
  have hP : va_P D vwCl ([(ad 0, .inr (16, [.ref (ad 1), .ref (ad 2), .ref (ad 3), .ref (ad 4), .ref (ad 5), .ref (ad 6)])), (ad 1, .inr (5, [.ref (ad 7), .ref (ad 8), .ref (ad 9), .ref (ad 10), .ref (ad 11), .ref (ad 12), .int 0, .int 0, .int 0, .int 0, .int 200])), (ad 2, .inr (9, [.ref (ad 1), .ref (ad 13), .int 0])), (ad 3, .inr (13, [.ref (ad 14), .int 0])), (ad 4, .inr (10, [.ref (ad 1), .ref (ad 15), .ref (ad 16), .ref (ad 17), .ref (ad 18), .ref (ad 19), .ref (ad 20), .ref (ad 21), .ref (ad 22), .int 500, .int 700, .int 0, .int 0])), (ad 5, .inr (8, [.ref (ad 1), .ref (ad 23), .ref (ad 24), .ref (ad 25), .ref (ad 26), .ref (ad 27), .ref (ad 28), .int 10, .int 0])), (ad 46, .inl (cA, 1, .inr (.inl f)))]) s.heap := hP
  have hD : va_D A ([(ad 0, .inr (16, [.ref (ad 1), .ref (ad 2), .ref (ad 3), .ref (ad 4), .ref (ad 5), .ref (ad 6)])), (ad 1, .inr (5, [.ref (ad 7), .ref (ad 8), .ref (ad 9), .ref (ad 10), .ref (ad 11), .ref (ad 12), .int 0, .int 0, .int 0, .int 0, .int 200])), (ad 2, .inr (9, [.ref (ad 1), .ref (ad 13), .int 0])), (ad 3, .inr (13, [.ref (ad 14), .int 0])), (ad 4, .inr (10, [.ref (ad 1), .ref (ad 15), .ref (ad 16), .ref (ad 17), .ref (ad 18), .ref (ad 19), .ref (ad 20), .ref (ad 21), .ref (ad 22), .int 500, .int 700, .int 0, .int 0])), (ad 5, .inr (8, [.ref (ad 1), .ref (ad 23), .ref (ad 24), .ref (ad 25), .ref (ad 26), .ref (ad 27), .ref (ad 28), .int 10, .int 0])), (ad 46, .inl (cA, 1, .inr (.inl f)))]) := hD
  have hl := lv_entry ([.ref (ad 0), .int p0, .int p1, .ref (ad 46)]) (n := 5) (Nat.le_of_ble_eq_true rfl)
  rw [lg_entry_eq]
  generalize (lg_sl ([.ref (ad 0), .int p0, .int p1, .ref (ad 46)]) ++ List.replicate (5 - (lg_sl ([.ref (ad 0), .int p0, .int p1, .ref (ad 46)])).length) Slot.unset).toArray = ls at hl ⊢
  have hl : lv_has ls 5 [(0, .ref (ad 0)), (1, .int p0), (2, .int p1), (3, .ref (ad 46))] := hl
  refine lv_aload_n hx hb dL_room_0 rfl (lv_at hl 3 rfl) ?_
  refine lv_iconst (v := 0) hx hb dL_room_1 (by decide) ?_
  refine lv_aload_n hx hb dL_room_2 rfl (lv_at hl 0 rfl) ?_
  refine lv_iload_n hx hb dL_room_3 rfl (lv_at hl 1 rfl) ?_
  refine lv_iload_n hx hb dL_room_4 rfl (lv_at hl 2 rfl) ?_
  refine kt_i (wc := wX ad) (wr := [(ad 46, .inl (cA, 1, .inr (.inl f)))]) hP hD hS hA [0, 1, 2, 3, 4, 5] [6] rfl rfl (by decide) (by decide) (vx_runV (As := [.int p0, .int p1]) (rest := [.int 0, .ref (ad 46)]) ⟨hx, hb, hml, hown, hts⟩ (c_room l hst D de ad p0 p1 s.heap.size) (cwV 2 hts gL_room_X11_room rfl rfl rfl (by decide +kernel) ⟨Nat.le_of_ble_eq_true rfl, Nat.le_of_ble_eq_true rfl⟩) ⟨px_blind, (va_recv hK hP (ci := 16) (q0 := 0) rfl rfl), (px_pre hP hD hK hS hA hTK hZ [0, 1, 2, 3, 4, 5] rfl rfl (by decide) [] rfl)⟩ rfl rfl hl.1 rfl (lv_room (Nat.le_of_ble_eq_true rfl)) dL_room_5 ⟨Nat.le_of_ble_eq_true rfl, Nat.le_of_ble_eq_true rfl⟩) (fun E q9 H locs hE hq hP hD hS => ?_) (fun r_1 u H locs hw hP hD hK1 hS => hw.elim)
  obtain ⟨rfl, hE⟩ := hE
  obtain ⟨ce9, hq1, hq2, hq3⟩ := hq
  refine vx_catch (own := RL) (name := "java/lang/IndexOutOfBoundsException") hown [] (⟨0, 10, 13, 19⟩ : ExceptionTableEntry) [] htab (fun _ h9 => absurd h9 List.not_mem_nil) (by decide) (by decide) (hts (.classLink RL 19 "java/lang/IndexOutOfBoundsException") (by decide +kernel)) (va_Nw.use rfl (hTK.1 "java/lang/IndexOutOfBoundsException" (by decide +kernel))) hq1 hq2 hq3 ?_
  refine W.eq (g2 := F0 m 13 ls [.ref q9]) rfl ?_
  refine lv_astore (lv' := [(4, .ref q9), (0, .ref (ad 0)), (1, .int p0), (2, .int p1), (3, .ref (ad 46))]) hx hb dL_room_13 hl (by decide) rfl (fun ls hl => ?_)
  refine lv_iconst (v := 1) hx hb dL_room_15 (by decide) ?_
  refine W.widen (k := 1) (n := 6) (Nat.le_of_ble_eq_true rfl) (Nat.le_of_ble_eq_true rfl) ?_
  have hP9 := hP.sub (ws' := ([(ad 46, .inl (cA, 1, .inr (.inl f)))])) [0] rfl
  have hD9 := hD.sub (ws' := ([(ad 46, .inl (cA, 1, .inr (.inl f)))])) [0] (by decide) rfl
  have hK9 := hK.sub (tys' := [(cA, .long)]) [0] rfl
  exact W.iret (v := 1) hx hb hr (fun t ht hW => ⟨⟨1, (), rfl, rfl, ⟨by rw [ht]; exact hP9, va_K.moved hW.alike hK9, hD9⟩⟩, hS.F ht⟩) hS.2.2 dL_room_16 hlocks
