set_option maxHeartbeats 4000000 in
set_option maxRecDepth 100000 in
theorem c_stand (l : Launch) (D : va_G) (de : Nat) (q : Nat) (p0 p1 p2 p3 : Int32) (sz : Nat) : Met l yX1_stand wsX1_stand ({ frames := 0, cells := 0, slots := 0, locals := 0 } : Room) (va_Pc [.ref q, .int p0, .int p1, .int p2, .int p3] (PX de D ([]) ([(q, .inr (6, [.int 0, .int 0, .int 0, .int 0, .int 0, .int 0]))]) sz)) (va_Qv (fun (u : Unit) => True) (fun u t => PW D ([]) (va_A ([(q, .inr (6, [.int 0, .int 0, .int 0, .int 0, .int 0, .int 0]))]) sz) ([(q, .inr (6, [.int p0, .int p1, .int p2, .int p3, .int 0, .int 0]))]) t) (va_A ([(q, .inr (6, [.int 0, .int 0, .int 0, .int 0, .int 0, .int 0]))]) sz)) 0 0 (va_A ([(q, .inr (6, [.int 0, .int 0, .int 0, .int 0, .int 0, .int 0]))]) sz) := by
  refine Met.ofW (cc := cX1_stand) (maxL := 5) (ret := none) (by decide) rfl ?_
  intro p e s m args below meth c s₁ B hml hv
  obtain ⟨rfl, hsz, hP, hK, hD0, hTK, hZ⟩ := hv
  have hx := B.exec
  have hb := B.bytes
  have hr := B.returns
  have hts := atoms_spec (ws := wsX1_stand) B.pre
  have hown : s.vm.findClass RX1 = some m.cls := findClass_of_methodNamed B.named
  have hlocks := B.notSynchronized
  have hin_RX1 : ∀ w ∈ u_ws RX1 TX1 6, w ∈ wsX1_stand := by decide +kernel
  subst hsz
  have hD := hD0.self (sz := s.heap.size)
  generalize hAe : va_A ([(q, .inr (6, [.int 0, .int 0, .int 0, .int 0, .int 0, .int 0]))]) s.heap.size = A at hD hZ ⊢
  have hA : ∀ q : Nat, s.heap.size ≤ q → A q := fun q h => by rw [← hAe]; exact Or.inr h
  have hS : va_S A s.heap s.heap [] := va_S.rf
  have hP : va_P D vwCl ([(q, .inr (6, [.int 0, .int 0, .int 0, .int 0, .int 0, .int 0]))]) s.heap := hP
  have hD : va_D A ([(q, .inr (6, [.int 0, .int 0, .int 0, .int 0, .int 0, .int 0]))]) := hD
  have hl := lv_entry ([.ref q, .int p0, .int p1, .int p2, .int p3]) (n := 5) (Nat.le_of_ble_eq_true rfl)
  rw [lg_entry_eq]
  generalize (lg_sl ([.ref q, .int p0, .int p1, .int p2, .int p3]) ++ List.replicate (5 - (lg_sl ([.ref q, .int p0, .int p1, .int p2, .int p3])).length) Slot.unset).toArray = ls at hl ⊢
  have hl : lv_has ls 5 [(0, .ref q), (1, .int p0), (2, .int p1), (3, .int p2), (4, .int p3)] := hl
  refine lv_aload_n hx hb dX1_stand_0 rfl (lv_at hl 0 rfl) ?_
  refine lv_iload_n hx hb dX1_stand_1 rfl (lv_at hl 1 rfl) ?_
  refine va_put (D := D) (ci := 6) (v := .int p0) (ty := .int) (C := RX1) (T := TX1) (N := 6) hx hb hts hin_RX1 tyX1 tyX1_ok nmX1 hown hK hP hD hS 0 rfl rfl 0 (by decide) (hts (.fieldLink RX1 7 "Popupwright$Crease" "i" "I") (by decide +kernel)) (fun _ h9 => h9) rfl (by decide +kernel) rfl rfl (Nat.le_of_ble_eq_true rfl) dX1_stand_2 (fun H locs hP hD hS => ?_)
  have hP : va_P D vwCl ([(q, .inr (6, [.int p0, .int 0, .int 0, .int 0, .int 0, .int 0]))]) H := hP
  have hD : va_D A ([(q, .inr (6, [.int p0, .int 0, .int 0, .int 0, .int 0, .int 0]))]) := hD
  refine lv_aload_n hx hb dX1_stand_5 rfl (lv_at hl 0 rfl) ?_
  refine lv_iload_n hx hb dX1_stand_6 rfl (lv_at hl 2 rfl) ?_
  refine va_put (D := D) (ci := 6) (v := .int p1) (ty := .int) (C := RX1) (T := TX1) (N := 6) hx hb hts hin_RX1 tyX1 tyX1_ok nmX1 hown hK hP hD hS 0 rfl rfl 1 (by decide) (hts (.fieldLink RX1 13 "Popupwright$Crease" "j" "I") (by decide +kernel)) (fun _ h9 => h9) rfl (by decide +kernel) rfl rfl (Nat.le_of_ble_eq_true rfl) dX1_stand_7 (fun H locs hP hD hS => ?_)
  have hP : va_P D vwCl ([(q, .inr (6, [.int p0, .int p1, .int 0, .int 0, .int 0, .int 0]))]) H := hP
  have hD : va_D A ([(q, .inr (6, [.int p0, .int p1, .int 0, .int 0, .int 0, .int 0]))]) := hD
  refine lv_aload_n hx hb dX1_stand_10 rfl (lv_at hl 0 rfl) ?_
  refine lv_iload_n hx hb dX1_stand_11 rfl (lv_at hl 3 rfl) ?_
  refine va_put (D := D) (ci := 6) (v := .int p2) (ty := .int) (C := RX1) (T := TX1) (N := 6) hx hb hts hin_RX1 tyX1 tyX1_ok nmX1 hown hK hP hD hS 0 rfl rfl 2 (by decide) (hts (.fieldLink RX1 16 "Popupwright$Crease" "leftRoom" "I") (by decide +kernel)) (fun _ h9 => h9) rfl (by decide +kernel) rfl rfl (Nat.le_of_ble_eq_true rfl) dX1_stand_12 (fun H locs hP hD hS => ?_)
  have hP : va_P D vwCl ([(q, .inr (6, [.int p0, .int p1, .int p2, .int 0, .int 0, .int 0]))]) H := hP
  have hD : va_D A ([(q, .inr (6, [.int p0, .int p1, .int p2, .int 0, .int 0, .int 0]))]) := hD
  refine lv_aload_n hx hb dX1_stand_15 rfl (lv_at hl 0 rfl) ?_
  refine lv_iload hx hb dX1_stand_16 (lv_at hl 4 rfl) ?_
  refine va_put (D := D) (ci := 6) (v := .int p3) (ty := .int) (C := RX1) (T := TX1) (N := 6) hx hb hts hin_RX1 tyX1 tyX1_ok nmX1 hown hK hP hD hS 0 rfl rfl 3 (by decide) (hts (.fieldLink RX1 19 "Popupwright$Crease" "rightRoom" "I") (by decide +kernel)) (fun _ h9 => h9) rfl (by decide +kernel) rfl rfl (Nat.le_of_ble_eq_true rfl) dX1_stand_18 (fun H locs hP hD hS => ?_)
  have hP : va_P D vwCl ([(q, .inr (6, [.int p0, .int p1, .int p2, .int p3, .int 0, .int 0]))]) H := hP
  have hD : va_D A ([(q, .inr (6, [.int p0, .int p1, .int p2, .int p3, .int 0, .int 0]))]) := hD
  refine W.widen (k := 0) (n := 0) (Nat.le_of_ble_eq_true rfl) (Nat.le_of_ble_eq_true rfl) ?_
  have hP9 := hP.sub (ws' := ([(q, .inr (6, [.int p0, .int p1, .int p2, .int p3, .int 0, .int 0]))])) [0] rfl
  have hD9 := hD.sub (ws' := ([(q, .inr (6, [.int p0, .int p1, .int p2, .int p3, .int 0, .int 0]))])) [0] (by decide) rfl
  have hK9 := hK.sub (tys' := []) [] rfl
  exact W.vret hx hb hr (fun t ht hW => ⟨⟨(), rfl, trivial, ⟨by rw [ht]; exact hP9, va_K.moved hW.alike hK9, hD9⟩⟩, hS.F ht⟩) hS.2.2 dX1_stand_21 hlocks

set_option maxHeartbeats 4000000 in
set_option maxRecDepth 100000 in
theorem c_span (l : Launch) (D : va_G) (de : Nat) (q : Nat) (v0 v1 v2 v3 v4 v5 p0 p1 : Int32) (sz : Nat) : Met l yX1_span wsX1_span ({ frames := 0, cells := 0, slots := 0, locals := 0 } : Room) (va_Pc [.ref q, .int p0, .int p1] (PX de D ([]) ([(q, .inr (6, [.int v0, .int v1, .int v2, .int v3, .int v4, .int v5]))]) sz)) (va_Qv (fun (u : Unit) => True) (fun u t => PW D ([]) (va_A ([(q, .inr (6, [.int v0, .int v1, .int v2, .int v3, .int v4, .int v5]))]) sz) ([]) t) (va_A ([(q, .inr (6, [.int v0, .int v1, .int v2, .int v3, .int v4, .int v5]))]) sz)) 0 0 (va_A ([(q, .inr (6, [.int v0, .int v1, .int v2, .int v3, .int v4, .int v5]))]) sz) := by
  refine Met.ofW (cc := cX1_span) (maxL := 3) (ret := none) (by decide) rfl ?_
  intro p e s m args below meth c s₁ B hml hv
  obtain ⟨rfl, hsz, hP, hK, hD0, hTK, hZ⟩ := hv
  have hx := B.exec
  have hb := B.bytes
  have hr := B.returns
  have hts := atoms_spec (ws := wsX1_span) B.pre
  have hown : s.vm.findClass RX1 = some m.cls := findClass_of_methodNamed B.named
  have hlocks := B.notSynchronized
  have hin_RX1 : ∀ w ∈ u_ws RX1 TX1 6, w ∈ wsX1_span := by decide +kernel
  subst hsz
  have hD := hD0.self (sz := s.heap.size)
  generalize hAe : va_A ([(q, .inr (6, [.int v0, .int v1, .int v2, .int v3, .int v4, .int v5]))]) s.heap.size = A at hD hZ ⊢
  have hA : ∀ q : Nat, s.heap.size ≤ q → A q := fun q h => by rw [← hAe]; exact Or.inr h
  have hS : va_S A s.heap s.heap [] := va_S.rf
  have hP : va_P D vwCl ([(q, .inr (6, [.int v0, .int v1, .int v2, .int v3, .int v4, .int v5]))]) s.heap := hP
  have hD : va_D A ([(q, .inr (6, [.int v0, .int v1, .int v2, .int v3, .int v4, .int v5]))]) := hD
  have hl := lv_entry ([.ref q, .int p0, .int p1]) (n := 3) (Nat.le_of_ble_eq_true rfl)
  rw [lg_entry_eq]
  generalize (lg_sl ([.ref q, .int p0, .int p1]) ++ List.replicate (3 - (lg_sl ([.ref q, .int p0, .int p1])).length) Slot.unset).toArray = ls at hl ⊢
  have hl : lv_has ls 3 [(0, .ref q), (1, .int p0), (2, .int p1)] := hl
  refine lv_aload_n hx hb dX1_span_0 rfl (lv_at hl 0 rfl) ?_
  refine lv_iload_n hx hb dX1_span_1 rfl (lv_at hl 1 rfl) ?_
  refine va_put (D := D) (ci := 6) (v := .int p0) (ty := .int) (C := RX1) (T := TX1) (N := 6) hx hb hts hin_RX1 tyX1 tyX1_ok nmX1 hown hK hP hD hS 0 rfl rfl 4 (by decide) (hts (.fieldLink RX1 22 "Popupwright$Crease" "low" "I") (by decide +kernel)) (fun _ h9 => h9) rfl (by decide +kernel) rfl rfl (Nat.le_of_ble_eq_true rfl) dX1_span_2 (fun H locs hP hD hS => ?_)
  have hP : va_P D vwCl ([(q, .inr (6, [.int v0, .int v1, .int v2, .int v3, .int p0, .int v5]))]) H := hP
  have hD : va_D A ([(q, .inr (6, [.int v0, .int v1, .int v2, .int v3, .int p0, .int v5]))]) := hD
  refine lv_aload_n hx hb dX1_span_5 rfl (lv_at hl 0 rfl) ?_
  refine lv_iload_n hx hb dX1_span_6 rfl (lv_at hl 2 rfl) ?_
  refine va_put (D := D) (ci := 6) (v := .int p1) (ty := .int) (C := RX1) (T := TX1) (N := 6) hx hb hts hin_RX1 tyX1 tyX1_ok nmX1 hown hK hP hD hS 0 rfl rfl 5 (by decide) (hts (.fieldLink RX1 25 "Popupwright$Crease" "high" "I") (by decide +kernel)) (fun _ h9 => h9) rfl (by decide +kernel) rfl rfl (Nat.le_of_ble_eq_true rfl) dX1_span_7 (fun H locs hP hD hS => ?_)
  have hP : va_P D vwCl ([(q, .inr (6, [.int v0, .int v1, .int v2, .int v3, .int p0, .int p1]))]) H := hP
  have hD : va_D A ([(q, .inr (6, [.int v0, .int v1, .int v2, .int v3, .int p0, .int p1]))]) := hD
  refine W.widen (k := 0) (n := 0) (Nat.le_of_ble_eq_true rfl) (Nat.le_of_ble_eq_true rfl) ?_
  have hP9 := hP.sub (ws' := ([])) [] rfl
  have hD9 := hD.sub (ws' := ([])) [] (by decide) rfl
  have hK9 := hK.sub (tys' := []) [] rfl
  exact W.vret hx hb hr (fun t ht hW => ⟨⟨(), rfl, trivial, ⟨by rw [ht]; exact hP9, va_K.moved hW.alike hK9, hD9⟩⟩, hS.F ht⟩) hS.2.2 dX1_span_10 hlocks

set_option maxHeartbeats 4000000 in
set_option maxRecDepth 100000 in
theorem c_lay0 (l : Launch) (D : va_G) (de : Nat) (q : Nat) (p0 p1 p2 p3 p4 : Int32) (sz : Nat) : Met l yX9_lay wsX9_lay ({ frames := 0, cells := 0, slots := 0, locals := 0 } : Room) (va_Pc [.ref q, .int 0, .int p0, .int p1, .int p2, .int p3, .int p4] (PX de D ([]) ([(q, .inr (14, [.int 0, .int 0, .int 0, .int 0, .int 0, .int 0, .int 0]))]) sz)) (va_Qv (fun (u : Unit) => True) (fun u t => PW D ([]) (va_A ([(q, .inr (14, [.int 0, .int 0, .int 0, .int 0, .int 0, .int 0, .int 0]))]) sz) ([]) t) (va_A ([(q, .inr (14, [.int 0, .int 0, .int 0, .int 0, .int 0, .int 0, .int 0]))]) sz)) 0 0 (va_A ([(q, .inr (14, [.int 0, .int 0, .int 0, .int 0, .int 0, .int 0, .int 0]))]) sz) := by
  refine Met.ofW (cc := cX9_lay) (maxL := 7) (ret := none) (by decide) rfl ?_
  intro p e s m args below meth c s₁ B hml hv
  obtain ⟨rfl, hsz, hP, hK, hD0, hTK, hZ⟩ := hv
  have hx := B.exec
  have hb := B.bytes
  have hr := B.returns
  have hts := atoms_spec (ws := wsX9_lay) B.pre
  have hown : s.vm.findClass RX9 = some m.cls := findClass_of_methodNamed B.named
  have hlocks := B.notSynchronized
  have hin_RX9 : ∀ w ∈ u_ws RX9 TX9 7, w ∈ wsX9_lay := by decide +kernel
  subst hsz
  have hD := hD0.self (sz := s.heap.size)
  generalize hAe : va_A ([(q, .inr (14, [.int 0, .int 0, .int 0, .int 0, .int 0, .int 0, .int 0]))]) s.heap.size = A at hD hZ ⊢
  have hA : ∀ q : Nat, s.heap.size ≤ q → A q := fun q h => by rw [← hAe]; exact Or.inr h
  have hS : va_S A s.heap s.heap [] := va_S.rf
  have hP : va_P D vwCl ([(q, .inr (14, [.int 0, .int 0, .int 0, .int 0, .int 0, .int 0, .int 0]))]) s.heap := hP
  have hD : va_D A ([(q, .inr (14, [.int 0, .int 0, .int 0, .int 0, .int 0, .int 0, .int 0]))]) := hD
  have hl := lv_entry ([.ref q, .int 0, .int p0, .int p1, .int p2, .int p3, .int p4]) (n := 7) (Nat.le_of_ble_eq_true rfl)
  rw [lg_entry_eq]
  generalize (lg_sl ([.ref q, .int 0, .int p0, .int p1, .int p2, .int p3, .int p4]) ++ List.replicate (7 - (lg_sl ([.ref q, .int 0, .int p0, .int p1, .int p2, .int p3, .int p4])).length) Slot.unset).toArray = ls at hl ⊢
  have hl : lv_has ls 7 [(0, .ref q), (1, .int 0), (2, .int p0), (3, .int p1), (4, .int p2), (5, .int p3), (6, .int p4)] := hl
  refine lv_aload_n hx hb dX9_lay_0 rfl (lv_at hl 0 rfl) ?_
  refine lv_iconst (v := 1) hx hb dX9_lay_1 (by decide) ?_
  refine va_put (D := D) (ci := 14) (v := .int 1) (ty := .boolean) (C := RX9) (T := TX9) (N := 7) hx hb hts hin_RX9 tyX9 tyX9_ok nmX9 hown hK hP hD hS 0 rfl rfl 0 (by decide) (hts (.fieldLink RX9 9 "Popupwright$Strip" "isMade" "Z") (by decide +kernel)) (fun _ h9 => h9) rfl (by decide +kernel) rfl rfl (Nat.le_of_ble_eq_true rfl) dX9_lay_2 (fun H locs hP hD hS => ?_)
  have hP : va_P D vwCl ([(q, .inr (14, [.int 1, .int 0, .int 0, .int 0, .int 0, .int 0, .int 0]))]) H := hP
  have hD : va_D A ([(q, .inr (14, [.int 1, .int 0, .int 0, .int 0, .int 0, .int 0, .int 0]))]) := hD
  refine lv_aload_n hx hb dX9_lay_5 rfl (lv_at hl 0 rfl) ?_
  refine lv_iload_n hx hb dX9_lay_6 rfl (lv_at hl 1 rfl) ?_
  refine va_put (D := D) (ci := 14) (v := .int 0) (ty := .boolean) (C := RX9) (T := TX9) (N := 7) hx hb hts hin_RX9 tyX9 tyX9_ok nmX9 hown hK hP hD hS 0 rfl rfl 1 (by decide) (hts (.fieldLink RX9 15 "Popupwright$Strip" "isRight" "Z") (by decide +kernel)) (fun _ h9 => h9) rfl (by decide +kernel) rfl rfl (Nat.le_of_ble_eq_true rfl) dX9_lay_7 (fun H locs hP hD hS => ?_)
  have hP : va_P D vwCl ([(q, .inr (14, [.int 1, .int 0, .int 0, .int 0, .int 0, .int 0, .int 0]))]) H := hP
  have hD : va_D A ([(q, .inr (14, [.int 1, .int 0, .int 0, .int 0, .int 0, .int 0, .int 0]))]) := hD
  refine lv_aload_n hx hb dX9_lay_10 rfl (lv_at hl 0 rfl) ?_
  refine lv_iload_n hx hb dX9_lay_11 rfl (lv_at hl 2 rfl) ?_
  refine va_put (D := D) (ci := 14) (v := .int p0) (ty := .int) (C := RX9) (T := TX9) (N := 7) hx hb hts hin_RX9 tyX9 tyX9_ok nmX9 hown hK hP hD hS 0 rfl rfl 2 (by decide) (hts (.fieldLink RX9 18 "Popupwright$Strip" "i" "I") (by decide +kernel)) (fun _ h9 => h9) rfl (by decide +kernel) rfl rfl (Nat.le_of_ble_eq_true rfl) dX9_lay_12 (fun H locs hP hD hS => ?_)
  have hP : va_P D vwCl ([(q, .inr (14, [.int 1, .int 0, .int p0, .int 0, .int 0, .int 0, .int 0]))]) H := hP
  have hD : va_D A ([(q, .inr (14, [.int 1, .int 0, .int p0, .int 0, .int 0, .int 0, .int 0]))]) := hD
  refine lv_aload_n hx hb dX9_lay_15 rfl (lv_at hl 0 rfl) ?_
  refine lv_iload_n hx hb dX9_lay_16 rfl (lv_at hl 3 rfl) ?_
  refine va_put (D := D) (ci := 14) (v := .int p1) (ty := .int) (C := RX9) (T := TX9) (N := 7) hx hb hts hin_RX9 tyX9 tyX9_ok nmX9 hown hK hP hD hS 0 rfl rfl 3 (by decide) (hts (.fieldLink RX9 22 "Popupwright$Strip" "j" "I") (by decide +kernel)) (fun _ h9 => h9) rfl (by decide +kernel) rfl rfl (Nat.le_of_ble_eq_true rfl) dX9_lay_17 (fun H locs hP hD hS => ?_)
  have hP : va_P D vwCl ([(q, .inr (14, [.int 1, .int 0, .int p0, .int p1, .int 0, .int 0, .int 0]))]) H := hP
  have hD : va_D A ([(q, .inr (14, [.int 1, .int 0, .int p0, .int p1, .int 0, .int 0, .int 0]))]) := hD
  refine lv_aload_n hx hb dX9_lay_20 rfl (lv_at hl 0 rfl) ?_
  refine lv_iload hx hb dX9_lay_21 (lv_at hl 4 rfl) ?_
  refine va_put (D := D) (ci := 14) (v := .int p2) (ty := .int) (C := RX9) (T := TX9) (N := 7) hx hb hts hin_RX9 tyX9 tyX9_ok nmX9 hown hK hP hD hS 0 rfl rfl 4 (by decide) (hts (.fieldLink RX9 25 "Popupwright$Strip" "length" "I") (by decide +kernel)) (fun _ h9 => h9) rfl (by decide +kernel) rfl rfl (Nat.le_of_ble_eq_true rfl) dX9_lay_23 (fun H locs hP hD hS => ?_)
  have hP : va_P D vwCl ([(q, .inr (14, [.int 1, .int 0, .int p0, .int p1, .int p2, .int 0, .int 0]))]) H := hP
  have hD : va_D A ([(q, .inr (14, [.int 1, .int 0, .int p0, .int p1, .int p2, .int 0, .int 0]))]) := hD
  refine lv_aload_n hx hb dX9_lay_26 rfl (lv_at hl 0 rfl) ?_
  refine lv_iload hx hb dX9_lay_27 (lv_at hl 5 rfl) ?_
  refine va_put (D := D) (ci := 14) (v := .int p3) (ty := .int) (C := RX9) (T := TX9) (N := 7) hx hb hts hin_RX9 tyX9 tyX9_ok nmX9 hown hK hP hD hS 0 rfl rfl 5 (by decide) (hts (.fieldLink RX9 28 "Popupwright$Strip" "low" "I") (by decide +kernel)) (fun _ h9 => h9) rfl (by decide +kernel) rfl rfl (Nat.le_of_ble_eq_true rfl) dX9_lay_29 (fun H locs hP hD hS => ?_)
  have hP : va_P D vwCl ([(q, .inr (14, [.int 1, .int 0, .int p0, .int p1, .int p2, .int p3, .int 0]))]) H := hP
  have hD : va_D A ([(q, .inr (14, [.int 1, .int 0, .int p0, .int p1, .int p2, .int p3, .int 0]))]) := hD
  refine lv_aload_n hx hb dX9_lay_32 rfl (lv_at hl 0 rfl) ?_
  refine lv_iload hx hb dX9_lay_33 (lv_at hl 6 rfl) ?_
  refine va_put (D := D) (ci := 14) (v := .int p4) (ty := .int) (C := RX9) (T := TX9) (N := 7) hx hb hts hin_RX9 tyX9 tyX9_ok nmX9 hown hK hP hD hS 0 rfl rfl 6 (by decide) (hts (.fieldLink RX9 31 "Popupwright$Strip" "high" "I") (by decide +kernel)) (fun _ h9 => h9) rfl (by decide +kernel) rfl rfl (Nat.le_of_ble_eq_true rfl) dX9_lay_35 (fun H locs hP hD hS => ?_)
  have hP : va_P D vwCl ([(q, .inr (14, [.int 1, .int 0, .int p0, .int p1, .int p2, .int p3, .int p4]))]) H := hP
  have hD : va_D A ([(q, .inr (14, [.int 1, .int 0, .int p0, .int p1, .int p2, .int p3, .int p4]))]) := hD
  refine W.widen (k := 0) (n := 0) (Nat.le_of_ble_eq_true rfl) (Nat.le_of_ble_eq_true rfl) ?_
  have hP9 := hP.sub (ws' := ([])) [] rfl
  have hD9 := hD.sub (ws' := ([])) [] (by decide) rfl
  have hK9 := hK.sub (tys' := []) [] rfl
  exact W.vret hx hb hr (fun t ht hW => ⟨⟨(), rfl, trivial, ⟨by rw [ht]; exact hP9, va_K.moved hW.alike hK9, hD9⟩⟩, hS.F ht⟩) hS.2.2 dX9_lay_38 hlocks

set_option maxHeartbeats 4000000 in
set_option maxRecDepth 100000 in
theorem c_lay1 (l : Launch) (D : va_G) (de : Nat) (q : Nat) (p0 p1 p2 p3 p4 : Int32) (sz : Nat) : Met l yX9_lay wsX9_lay ({ frames := 0, cells := 0, slots := 0, locals := 0 } : Room) (va_Pc [.ref q, .int 1, .int p0, .int p1, .int p2, .int p3, .int p4] (PX de D ([]) ([(q, .inr (14, [.int 0, .int 0, .int 0, .int 0, .int 0, .int 0, .int 0]))]) sz)) (va_Qv (fun (u : Unit) => True) (fun u t => PW D ([]) (va_A ([(q, .inr (14, [.int 0, .int 0, .int 0, .int 0, .int 0, .int 0, .int 0]))]) sz) ([]) t) (va_A ([(q, .inr (14, [.int 0, .int 0, .int 0, .int 0, .int 0, .int 0, .int 0]))]) sz)) 0 0 (va_A ([(q, .inr (14, [.int 0, .int 0, .int 0, .int 0, .int 0, .int 0, .int 0]))]) sz) := by
  refine Met.ofW (cc := cX9_lay) (maxL := 7) (ret := none) (by decide) rfl ?_
  intro p e s m args below meth c s₁ B hml hv
  obtain ⟨rfl, hsz, hP, hK, hD0, hTK, hZ⟩ := hv
  have hx := B.exec
  have hb := B.bytes
  have hr := B.returns
  have hts := atoms_spec (ws := wsX9_lay) B.pre
  have hown : s.vm.findClass RX9 = some m.cls := findClass_of_methodNamed B.named
  have hlocks := B.notSynchronized
  have hin_RX9 : ∀ w ∈ u_ws RX9 TX9 7, w ∈ wsX9_lay := by decide +kernel
  subst hsz
  have hD := hD0.self (sz := s.heap.size)
  generalize hAe : va_A ([(q, .inr (14, [.int 0, .int 0, .int 0, .int 0, .int 0, .int 0, .int 0]))]) s.heap.size = A at hD hZ ⊢
  have hA : ∀ q : Nat, s.heap.size ≤ q → A q := fun q h => by rw [← hAe]; exact Or.inr h
  have hS : va_S A s.heap s.heap [] := va_S.rf
  have hP : va_P D vwCl ([(q, .inr (14, [.int 0, .int 0, .int 0, .int 0, .int 0, .int 0, .int 0]))]) s.heap := hP
  have hD : va_D A ([(q, .inr (14, [.int 0, .int 0, .int 0, .int 0, .int 0, .int 0, .int 0]))]) := hD
  have hl := lv_entry ([.ref q, .int 1, .int p0, .int p1, .int p2, .int p3, .int p4]) (n := 7) (Nat.le_of_ble_eq_true rfl)
  rw [lg_entry_eq]
  generalize (lg_sl ([.ref q, .int 1, .int p0, .int p1, .int p2, .int p3, .int p4]) ++ List.replicate (7 - (lg_sl ([.ref q, .int 1, .int p0, .int p1, .int p2, .int p3, .int p4])).length) Slot.unset).toArray = ls at hl ⊢
  have hl : lv_has ls 7 [(0, .ref q), (1, .int 1), (2, .int p0), (3, .int p1), (4, .int p2), (5, .int p3), (6, .int p4)] := hl
  refine lv_aload_n hx hb dX9_lay_0 rfl (lv_at hl 0 rfl) ?_
  refine lv_iconst (v := 1) hx hb dX9_lay_1 (by decide) ?_
  refine va_put (D := D) (ci := 14) (v := .int 1) (ty := .boolean) (C := RX9) (T := TX9) (N := 7) hx hb hts hin_RX9 tyX9 tyX9_ok nmX9 hown hK hP hD hS 0 rfl rfl 0 (by decide) (hts (.fieldLink RX9 9 "Popupwright$Strip" "isMade" "Z") (by decide +kernel)) (fun _ h9 => h9) rfl (by decide +kernel) rfl rfl (Nat.le_of_ble_eq_true rfl) dX9_lay_2 (fun H locs hP hD hS => ?_)
  have hP : va_P D vwCl ([(q, .inr (14, [.int 1, .int 0, .int 0, .int 0, .int 0, .int 0, .int 0]))]) H := hP
  have hD : va_D A ([(q, .inr (14, [.int 1, .int 0, .int 0, .int 0, .int 0, .int 0, .int 0]))]) := hD
  refine lv_aload_n hx hb dX9_lay_5 rfl (lv_at hl 0 rfl) ?_
  refine lv_iload_n hx hb dX9_lay_6 rfl (lv_at hl 1 rfl) ?_
  refine va_put (D := D) (ci := 14) (v := .int 1) (ty := .boolean) (C := RX9) (T := TX9) (N := 7) hx hb hts hin_RX9 tyX9 tyX9_ok nmX9 hown hK hP hD hS 0 rfl rfl 1 (by decide) (hts (.fieldLink RX9 15 "Popupwright$Strip" "isRight" "Z") (by decide +kernel)) (fun _ h9 => h9) rfl (by decide +kernel) rfl rfl (Nat.le_of_ble_eq_true rfl) dX9_lay_7 (fun H locs hP hD hS => ?_)
  have hP : va_P D vwCl ([(q, .inr (14, [.int 1, .int 1, .int 0, .int 0, .int 0, .int 0, .int 0]))]) H := hP
  have hD : va_D A ([(q, .inr (14, [.int 1, .int 1, .int 0, .int 0, .int 0, .int 0, .int 0]))]) := hD
  refine lv_aload_n hx hb dX9_lay_10 rfl (lv_at hl 0 rfl) ?_
  refine lv_iload_n hx hb dX9_lay_11 rfl (lv_at hl 2 rfl) ?_
  refine va_put (D := D) (ci := 14) (v := .int p0) (ty := .int) (C := RX9) (T := TX9) (N := 7) hx hb hts hin_RX9 tyX9 tyX9_ok nmX9 hown hK hP hD hS 0 rfl rfl 2 (by decide) (hts (.fieldLink RX9 18 "Popupwright$Strip" "i" "I") (by decide +kernel)) (fun _ h9 => h9) rfl (by decide +kernel) rfl rfl (Nat.le_of_ble_eq_true rfl) dX9_lay_12 (fun H locs hP hD hS => ?_)
  have hP : va_P D vwCl ([(q, .inr (14, [.int 1, .int 1, .int p0, .int 0, .int 0, .int 0, .int 0]))]) H := hP
  have hD : va_D A ([(q, .inr (14, [.int 1, .int 1, .int p0, .int 0, .int 0, .int 0, .int 0]))]) := hD
  refine lv_aload_n hx hb dX9_lay_15 rfl (lv_at hl 0 rfl) ?_
  refine lv_iload_n hx hb dX9_lay_16 rfl (lv_at hl 3 rfl) ?_
  refine va_put (D := D) (ci := 14) (v := .int p1) (ty := .int) (C := RX9) (T := TX9) (N := 7) hx hb hts hin_RX9 tyX9 tyX9_ok nmX9 hown hK hP hD hS 0 rfl rfl 3 (by decide) (hts (.fieldLink RX9 22 "Popupwright$Strip" "j" "I") (by decide +kernel)) (fun _ h9 => h9) rfl (by decide +kernel) rfl rfl (Nat.le_of_ble_eq_true rfl) dX9_lay_17 (fun H locs hP hD hS => ?_)
  have hP : va_P D vwCl ([(q, .inr (14, [.int 1, .int 1, .int p0, .int p1, .int 0, .int 0, .int 0]))]) H := hP
  have hD : va_D A ([(q, .inr (14, [.int 1, .int 1, .int p0, .int p1, .int 0, .int 0, .int 0]))]) := hD
  refine lv_aload_n hx hb dX9_lay_20 rfl (lv_at hl 0 rfl) ?_
  refine lv_iload hx hb dX9_lay_21 (lv_at hl 4 rfl) ?_
  refine va_put (D := D) (ci := 14) (v := .int p2) (ty := .int) (C := RX9) (T := TX9) (N := 7) hx hb hts hin_RX9 tyX9 tyX9_ok nmX9 hown hK hP hD hS 0 rfl rfl 4 (by decide) (hts (.fieldLink RX9 25 "Popupwright$Strip" "length" "I") (by decide +kernel)) (fun _ h9 => h9) rfl (by decide +kernel) rfl rfl (Nat.le_of_ble_eq_true rfl) dX9_lay_23 (fun H locs hP hD hS => ?_)
  have hP : va_P D vwCl ([(q, .inr (14, [.int 1, .int 1, .int p0, .int p1, .int p2, .int 0, .int 0]))]) H := hP
  have hD : va_D A ([(q, .inr (14, [.int 1, .int 1, .int p0, .int p1, .int p2, .int 0, .int 0]))]) := hD
  refine lv_aload_n hx hb dX9_lay_26 rfl (lv_at hl 0 rfl) ?_
  refine lv_iload hx hb dX9_lay_27 (lv_at hl 5 rfl) ?_
  refine va_put (D := D) (ci := 14) (v := .int p3) (ty := .int) (C := RX9) (T := TX9) (N := 7) hx hb hts hin_RX9 tyX9 tyX9_ok nmX9 hown hK hP hD hS 0 rfl rfl 5 (by decide) (hts (.fieldLink RX9 28 "Popupwright$Strip" "low" "I") (by decide +kernel)) (fun _ h9 => h9) rfl (by decide +kernel) rfl rfl (Nat.le_of_ble_eq_true rfl) dX9_lay_29 (fun H locs hP hD hS => ?_)
  have hP : va_P D vwCl ([(q, .inr (14, [.int 1, .int 1, .int p0, .int p1, .int p2, .int p3, .int 0]))]) H := hP
  have hD : va_D A ([(q, .inr (14, [.int 1, .int 1, .int p0, .int p1, .int p2, .int p3, .int 0]))]) := hD
  refine lv_aload_n hx hb dX9_lay_32 rfl (lv_at hl 0 rfl) ?_
  refine lv_iload hx hb dX9_lay_33 (lv_at hl 6 rfl) ?_
  refine va_put (D := D) (ci := 14) (v := .int p4) (ty := .int) (C := RX9) (T := TX9) (N := 7) hx hb hts hin_RX9 tyX9 tyX9_ok nmX9 hown hK hP hD hS 0 rfl rfl 6 (by decide) (hts (.fieldLink RX9 31 "Popupwright$Strip" "high" "I") (by decide +kernel)) (fun _ h9 => h9) rfl (by decide +kernel) rfl rfl (Nat.le_of_ble_eq_true rfl) dX9_lay_35 (fun H locs hP hD hS => ?_)
  have hP : va_P D vwCl ([(q, .inr (14, [.int 1, .int 1, .int p0, .int p1, .int p2, .int p3, .int p4]))]) H := hP
  have hD : va_D A ([(q, .inr (14, [.int 1, .int 1, .int p0, .int p1, .int p2, .int p3, .int p4]))]) := hD
  refine W.widen (k := 0) (n := 0) (Nat.le_of_ble_eq_true rfl) (Nat.le_of_ble_eq_true rfl) ?_
  have hP9 := hP.sub (ws' := ([])) [] rfl
  have hD9 := hD.sub (ws' := ([])) [] (by decide) rfl
  have hK9 := hK.sub (tys' := []) [] rfl
  exact W.vret hx hb hr (fun t ht hW => ⟨⟨(), rfl, trivial, ⟨by rw [ht]; exact hP9, va_K.moved hW.alike hK9, hD9⟩⟩, hS.F ht⟩) hS.2.2 dX9_lay_38 hlocks

set_option maxHeartbeats 4000000 in
set_option maxRecDepth 100000 in
theorem c_begin (l : Launch) (D : va_G) (de : Nat) (ad : Nat → Nat) (c8 : ClassId) (f8 : Nat → Option Nat) (p0 p1 : Int32) (sz : Nat) (hf8 : f8 0 = some (ad 30)) : Met l yX0_begin wsX0_begin ({ frames := 1, cells := 0, slots := 0, locals := 26 } : Room) (va_Pc [.ref (ad 1), .int p0, .int p1] (PX de D ([(c8, .object RX1)]) ([(ad 1, .inr (5, [.ref (ad 7), .ref (ad 8), .ref (ad 9), .ref (ad 10), .ref (ad 11), .ref (ad 12), .int 0, .int 0, .int 0, .int 0, .int 200])), (ad 8, .inl (c8, 49, .inr (.inr (.inr (.inr f8))))), (ad 30, .inr (6, [.int 0, .int 0, .int 0, .int 0, .int 0, .int 0])), (ad 10, .inr (14, [.int 0, .int 0, .int 0, .int 0, .int 0, .int 0, .int 0])), (ad 11, .inr (14, [.int 0, .int 0, .int 0, .int 0, .int 0, .int 0, .int 0]))]) sz)) (va_Qv (fun (u : Unit) => True) (fun u t => PW D ([]) (va_A ([(ad 1, .inr (5, [.ref (ad 7), .ref (ad 8), .ref (ad 9), .ref (ad 10), .ref (ad 11), .ref (ad 12), .int 0, .int 0, .int 0, .int 0, .int 200])), (ad 8, .inl (c8, 49, .inr (.inr (.inr (.inr f8))))), (ad 30, .inr (6, [.int 0, .int 0, .int 0, .int 0, .int 0, .int 0])), (ad 10, .inr (14, [.int 0, .int 0, .int 0, .int 0, .int 0, .int 0, .int 0])), (ad 11, .inr (14, [.int 0, .int 0, .int 0, .int 0, .int 0, .int 0, .int 0]))]) sz) ([]) t) (va_A ([(ad 1, .inr (5, [.ref (ad 7), .ref (ad 8), .ref (ad 9), .ref (ad 10), .ref (ad 11), .ref (ad 12), .int 0, .int 0, .int 0, .int 0, .int 200])), (ad 8, .inl (c8, 49, .inr (.inr (.inr (.inr f8))))), (ad 30, .inr (6, [.int 0, .int 0, .int 0, .int 0, .int 0, .int 0])), (ad 10, .inr (14, [.int 0, .int 0, .int 0, .int 0, .int 0, .int 0, .int 0])), (ad 11, .inr (14, [.int 0, .int 0, .int 0, .int 0, .int 0, .int 0, .int 0]))]) sz)) 0 0 (va_A ([(ad 1, .inr (5, [.ref (ad 7), .ref (ad 8), .ref (ad 9), .ref (ad 10), .ref (ad 11), .ref (ad 12), .int 0, .int 0, .int 0, .int 0, .int 200])), (ad 8, .inl (c8, 49, .inr (.inr (.inr (.inr f8))))), (ad 30, .inr (6, [.int 0, .int 0, .int 0, .int 0, .int 0, .int 0])), (ad 10, .inr (14, [.int 0, .int 0, .int 0, .int 0, .int 0, .int 0, .int 0])), (ad 11, .inr (14, [.int 0, .int 0, .int 0, .int 0, .int 0, .int 0, .int 0]))]) sz) := by
  refine Met.ofW (cc := cX0_begin) (maxL := 3) (ret := none) (by decide) rfl ?_
  intro p e s m args below meth c s₁ B hml hv
  obtain ⟨rfl, hsz, hP, hK, hD0, hTK, hZ⟩ := hv
  have hx := B.exec
  have hb := B.bytes
  have hr := B.returns
  have hts := atoms_spec (ws := wsX0_begin) B.pre
  have hown : s.vm.findClass RX0 = some m.cls := findClass_of_methodNamed B.named
  have hlocks := B.notSynchronized
  have hin_RX0 : ∀ w ∈ u_ws RX0 TX0 11, w ∈ wsX0_begin := by decide +kernel
  subst hsz
  have hD := hD0.self (sz := s.heap.size)
  generalize hAe : va_A ([(ad 1, .inr (5, [.ref (ad 7), .ref (ad 8), .ref (ad 9), .ref (ad 10), .ref (ad 11), .ref (ad 12), .int 0, .int 0, .int 0, .int 0, .int 200])), (ad 8, .inl (c8, 49, .inr (.inr (.inr (.inr f8))))), (ad 30, .inr (6, [.int 0, .int 0, .int 0, .int 0, .int 0, .int 0])), (ad 10, .inr (14, [.int 0, .int 0, .int 0, .int 0, .int 0, .int 0, .int 0])), (ad 11, .inr (14, [.int 0, .int 0, .int 0, .int 0, .int 0, .int 0, .int 0]))]) s.heap.size = A at hD hZ ⊢
  have hA : ∀ q : Nat, s.heap.size ≤ q → A q := fun q h => by rw [← hAe]; exact Or.inr h
  have hS : va_S A s.heap s.heap [] := va_S.rf
  have hP : va_P D vwCl ([(ad 1, .inr (5, [.ref (ad 7), .ref (ad 8), .ref (ad 9), .ref (ad 10), .ref (ad 11), .ref (ad 12), .int 0, .int 0, .int 0, .int 0, .int 200])), (ad 8, .inl (c8, 49, .inr (.inr (.inr (.inr f8))))), (ad 30, .inr (6, [.int 0, .int 0, .int 0, .int 0, .int 0, .int 0])), (ad 10, .inr (14, [.int 0, .int 0, .int 0, .int 0, .int 0, .int 0, .int 0])), (ad 11, .inr (14, [.int 0, .int 0, .int 0, .int 0, .int 0, .int 0, .int 0]))]) s.heap := hP
  have hD : va_D A ([(ad 1, .inr (5, [.ref (ad 7), .ref (ad 8), .ref (ad 9), .ref (ad 10), .ref (ad 11), .ref (ad 12), .int 0, .int 0, .int 0, .int 0, .int 200])), (ad 8, .inl (c8, 49, .inr (.inr (.inr (.inr f8))))), (ad 30, .inr (6, [.int 0, .int 0, .int 0, .int 0, .int 0, .int 0])), (ad 10, .inr (14, [.int 0, .int 0, .int 0, .int 0, .int 0, .int 0, .int 0])), (ad 11, .inr (14, [.int 0, .int 0, .int 0, .int 0, .int 0, .int 0, .int 0]))]) := hD
  have hl := lv_entry ([.ref (ad 1), .int p0, .int p1]) (n := 3) (Nat.le_of_ble_eq_true rfl)
  rw [lg_entry_eq]
  generalize (lg_sl ([.ref (ad 1), .int p0, .int p1]) ++ List.replicate (3 - (lg_sl ([.ref (ad 1), .int p0, .int p1])).length) Slot.unset).toArray = ls at hl ⊢
  have hl : lv_has ls 3 [(0, .ref (ad 1)), (1, .int p0), (2, .int p1)] := hl
  refine lv_aload_n hx hb dX0_begin_0 rfl (lv_at hl 0 rfl) ?_
  refine lv_iconst (v := 1) hx hb dX0_begin_1 (by decide) ?_
  refine va_put (D := D) (ci := 5) (v := .int 1) (ty := .boolean) (C := RX0) (T := TX0) (N := 11) hx hb hts hin_RX0 tyX0 tyX0_ok nmX0 hown hK hP hD hS 0 rfl rfl 6 (by decide) (hts (.fieldLink RX0 58 "Popupwright$Book" "isBegun" "Z") (by decide +kernel)) (fun _ h9 => h9) rfl (by decide +kernel) rfl rfl (Nat.le_of_ble_eq_true rfl) dX0_begin_2 (fun H locs hP hD hS => ?_)
  have hP : va_P D vwCl ([(ad 1, .inr (5, [.ref (ad 7), .ref (ad 8), .ref (ad 9), .ref (ad 10), .ref (ad 11), .ref (ad 12), .int 1, .int 0, .int 0, .int 0, .int 200])), (ad 8, .inl (c8, 49, .inr (.inr (.inr (.inr f8))))), (ad 30, .inr (6, [.int 0, .int 0, .int 0, .int 0, .int 0, .int 0])), (ad 10, .inr (14, [.int 0, .int 0, .int 0, .int 0, .int 0, .int 0, .int 0])), (ad 11, .inr (14, [.int 0, .int 0, .int 0, .int 0, .int 0, .int 0, .int 0]))]) H := hP
  have hD : va_D A ([(ad 1, .inr (5, [.ref (ad 7), .ref (ad 8), .ref (ad 9), .ref (ad 10), .ref (ad 11), .ref (ad 12), .int 1, .int 0, .int 0, .int 0, .int 200])), (ad 8, .inl (c8, 49, .inr (.inr (.inr (.inr f8))))), (ad 30, .inr (6, [.int 0, .int 0, .int 0, .int 0, .int 0, .int 0])), (ad 10, .inr (14, [.int 0, .int 0, .int 0, .int 0, .int 0, .int 0, .int 0])), (ad 11, .inr (14, [.int 0, .int 0, .int 0, .int 0, .int 0, .int 0, .int 0]))]) := hD
  refine lv_aload_n hx hb dX0_begin_5 rfl (lv_at hl 0 rfl) ?_
  refine lv_iload_n hx hb dX0_begin_6 rfl (lv_at hl 1 rfl) ?_
  refine va_put (D := D) (ci := 5) (v := .int p0) (ty := .int) (C := RX0) (T := TX0) (N := 11) hx hb hts hin_RX0 tyX0 tyX0_ok nmX0 hown hK hP hD hS 0 rfl rfl 7 (by decide) (hts (.fieldLink RX0 62 "Popupwright$Book" "width" "I") (by decide +kernel)) (fun _ h9 => h9) rfl (by decide +kernel) rfl rfl (Nat.le_of_ble_eq_true rfl) dX0_begin_7 (fun H locs hP hD hS => ?_)
  have hP : va_P D vwCl ([(ad 1, .inr (5, [.ref (ad 7), .ref (ad 8), .ref (ad 9), .ref (ad 10), .ref (ad 11), .ref (ad 12), .int 1, .int p0, .int 0, .int 0, .int 200])), (ad 8, .inl (c8, 49, .inr (.inr (.inr (.inr f8))))), (ad 30, .inr (6, [.int 0, .int 0, .int 0, .int 0, .int 0, .int 0])), (ad 10, .inr (14, [.int 0, .int 0, .int 0, .int 0, .int 0, .int 0, .int 0])), (ad 11, .inr (14, [.int 0, .int 0, .int 0, .int 0, .int 0, .int 0, .int 0]))]) H := hP
  have hD : va_D A ([(ad 1, .inr (5, [.ref (ad 7), .ref (ad 8), .ref (ad 9), .ref (ad 10), .ref (ad 11), .ref (ad 12), .int 1, .int p0, .int 0, .int 0, .int 200])), (ad 8, .inl (c8, 49, .inr (.inr (.inr (.inr f8))))), (ad 30, .inr (6, [.int 0, .int 0, .int 0, .int 0, .int 0, .int 0])), (ad 10, .inr (14, [.int 0, .int 0, .int 0, .int 0, .int 0, .int 0, .int 0])), (ad 11, .inr (14, [.int 0, .int 0, .int 0, .int 0, .int 0, .int 0, .int 0]))]) := hD
  refine lv_aload_n hx hb dX0_begin_10 rfl (lv_at hl 0 rfl) ?_
  refine lv_iload_n hx hb dX0_begin_11 rfl (lv_at hl 2 rfl) ?_
  refine va_put (D := D) (ci := 5) (v := .int p1) (ty := .int) (C := RX0) (T := TX0) (N := 11) hx hb hts hin_RX0 tyX0 tyX0_ok nmX0 hown hK hP hD hS 0 rfl rfl 8 (by decide) (hts (.fieldLink RX0 65 "Popupwright$Book" "height" "I") (by decide +kernel)) (fun _ h9 => h9) rfl (by decide +kernel) rfl rfl (Nat.le_of_ble_eq_true rfl) dX0_begin_12 (fun H locs hP hD hS => ?_)
  have hP : va_P D vwCl ([(ad 1, .inr (5, [.ref (ad 7), .ref (ad 8), .ref (ad 9), .ref (ad 10), .ref (ad 11), .ref (ad 12), .int 1, .int p0, .int p1, .int 0, .int 200])), (ad 8, .inl (c8, 49, .inr (.inr (.inr (.inr f8))))), (ad 30, .inr (6, [.int 0, .int 0, .int 0, .int 0, .int 0, .int 0])), (ad 10, .inr (14, [.int 0, .int 0, .int 0, .int 0, .int 0, .int 0, .int 0])), (ad 11, .inr (14, [.int 0, .int 0, .int 0, .int 0, .int 0, .int 0, .int 0]))]) H := hP
  have hD : va_D A ([(ad 1, .inr (5, [.ref (ad 7), .ref (ad 8), .ref (ad 9), .ref (ad 10), .ref (ad 11), .ref (ad 12), .int 1, .int p0, .int p1, .int 0, .int 200])), (ad 8, .inl (c8, 49, .inr (.inr (.inr (.inr f8))))), (ad 30, .inr (6, [.int 0, .int 0, .int 0, .int 0, .int 0, .int 0])), (ad 10, .inr (14, [.int 0, .int 0, .int 0, .int 0, .int 0, .int 0, .int 0])), (ad 11, .inr (14, [.int 0, .int 0, .int 0, .int 0, .int 0, .int 0, .int 0]))]) := hD
  refine lv_aload_n hx hb dX0_begin_15 rfl (lv_at hl 0 rfl) ?_
  refine lv_iconst (v := 0) hx hb dX0_begin_16 (by decide) ?_
  refine va_put (D := D) (ci := 5) (v := .int 0) (ty := .int) (C := RX0) (T := TX0) (N := 11) hx hb hts hin_RX0 tyX0 tyX0_ok nmX0 hown hK hP hD hS 0 rfl rfl 9 (by decide) (hts (.fieldLink RX0 68 "Popupwright$Book" "count" "I") (by decide +kernel)) (fun _ h9 => h9) rfl (by decide +kernel) rfl rfl (Nat.le_of_ble_eq_true rfl) dX0_begin_17 (fun H locs hP hD hS => ?_)
  have hP : va_P D vwCl ([(ad 1, .inr (5, [.ref (ad 7), .ref (ad 8), .ref (ad 9), .ref (ad 10), .ref (ad 11), .ref (ad 12), .int 1, .int p0, .int p1, .int 0, .int 200])), (ad 8, .inl (c8, 49, .inr (.inr (.inr (.inr f8))))), (ad 30, .inr (6, [.int 0, .int 0, .int 0, .int 0, .int 0, .int 0])), (ad 10, .inr (14, [.int 0, .int 0, .int 0, .int 0, .int 0, .int 0, .int 0])), (ad 11, .inr (14, [.int 0, .int 0, .int 0, .int 0, .int 0, .int 0, .int 0]))]) H := hP
  have hD : va_D A ([(ad 1, .inr (5, [.ref (ad 7), .ref (ad 8), .ref (ad 9), .ref (ad 10), .ref (ad 11), .ref (ad 12), .int 1, .int p0, .int p1, .int 0, .int 200])), (ad 8, .inl (c8, 49, .inr (.inr (.inr (.inr f8))))), (ad 30, .inr (6, [.int 0, .int 0, .int 0, .int 0, .int 0, .int 0])), (ad 10, .inr (14, [.int 0, .int 0, .int 0, .int 0, .int 0, .int 0, .int 0])), (ad 11, .inr (14, [.int 0, .int 0, .int 0, .int 0, .int 0, .int 0, .int 0]))]) := hD
  refine lv_aload_n hx hb dX0_begin_20 rfl (lv_at hl 0 rfl) ?_
  refine va_get (D := D) (ci := 5) (v := .ref (ad 8)) (C := RX0) (T := TX0) (N := 11) hx hb hts hin_RX0 hown hK hP 0 rfl rfl 1 (by decide) (hts (.fieldLink RX0 19 "Popupwright$Book" "creases" "[LPopupwright$Crease;") (by decide +kernel)) (fun _ h9 => h9) rfl dX0_begin_21 ?_
  refine lv_iconst (v := 0) hx hb dX0_begin_24 (by decide) ?_
  refine va_aldq hx hb hK hP 1 0 rfl rfl (by unfold vp_in; decide) dX0_begin_25 ?_
  refine W.eq (g2 := F0 m 26 ls [.ref (ad 30)]) (congrArg (fun z => F0 m 26 ls (va_rf z :: [])) (show (f8) (Int32.toNatClampNeg 0) = some (ad 30) from hf8)) ?_
  refine lv_iconst (v := 0) hx hb dX0_begin_26 (by decide) ?_
  refine lv_iconst (v := 0) hx hb dX0_begin_27 (by decide) ?_
  refine lv_aload_n hx hb dX0_begin_28 rfl (lv_at hl 0 rfl) ?_
  refine va_get (D := D) (ci := 5) (v := .int p0) (C := RX0) (T := TX0) (N := 11) hx hb hts hin_RX0 hown hK hP 0 rfl rfl 7 (by decide) (hts (.fieldLink RX0 62 "Popupwright$Book" "width" "I") (by decide +kernel)) (fun _ h9 => h9) rfl dX0_begin_29 ?_
  refine lv_aload_n hx hb dX0_begin_32 rfl (lv_at hl 0 rfl) ?_
  refine va_get (D := D) (ci := 5) (v := .int p0) (C := RX0) (T := TX0) (N := 11) hx hb hts hin_RX0 hown hK hP 0 rfl rfl 7 (by decide) (hts (.fieldLink RX0 62 "Popupwright$Book" "width" "I") (by decide +kernel)) (fun _ h9 => h9) rfl dX0_begin_33 ?_
  refine kx_v (wc := [(ad 30, .inr (6, [.int 0, .int 0, .int 0, .int 0, .int 0, .int 0]))]) (wr := [(ad 1, .inr (5, [.ref (ad 7), .ref (ad 8), .ref (ad 9), .ref (ad 10), .ref (ad 11), .ref (ad 12), .int 1, .int p0, .int p1, .int 0, .int 200])), (ad 8, .inl (c8, 49, .inr (.inr (.inr (.inr f8))))), (ad 10, .inr (14, [.int 0, .int 0, .int 0, .int 0, .int 0, .int 0, .int 0])), (ad 11, .inr (14, [.int 0, .int 0, .int 0, .int 0, .int 0, .int 0, .int 0]))]) hP hD hS hA [2] [0, 1, 3, 4] rfl rfl (by decide) (by decide) (va_runV (As := [.int 0, .int 0, .int p0, .int p0]) (rest := []) ⟨hx, hb, hml, hown, hts⟩ (c_stand l D de (ad 30) 0 0 p0 p0 H.size) (cwV 4 hts gX0_begin_X1_stand rfl rfl rfl (by decide +kernel) ⟨Nat.le_of_ble_eq_true rfl, Nat.le_of_ble_eq_true rfl⟩) ⟨px_blind, (va_recv hK hP (ci := 6) (q0 := 2) rfl rfl), (px_pre hP hD hK hS hA hTK hZ [2] rfl rfl (by decide) [] rfl)⟩ rfl rfl hl.1 rfl (lv_room (Nat.le_of_ble_eq_true rfl)) dX0_begin_36 ⟨(Nat.le_of_ble_eq_true rfl), (Nat.le_of_ble_eq_true rfl)⟩) (fun u H locs hw hP hD hK1 hS => ?_)
  have hP : va_P D vwCl ([(ad 1, .inr (5, [.ref (ad 7), .ref (ad 8), .ref (ad 9), .ref (ad 10), .ref (ad 11), .ref (ad 12), .int 1, .int p0, .int p1, .int 0, .int 200])), (ad 8, .inl (c8, 49, .inr (.inr (.inr (.inr f8))))), (ad 10, .inr (14, [.int 0, .int 0, .int 0, .int 0, .int 0, .int 0, .int 0])), (ad 11, .inr (14, [.int 0, .int 0, .int 0, .int 0, .int 0, .int 0, .int 0])), (ad 30, .inr (6, [.int 0, .int 0, .int p0, .int p0, .int 0, .int 0]))]) H := hP
  have hD : va_D A ([(ad 1, .inr (5, [.ref (ad 7), .ref (ad 8), .ref (ad 9), .ref (ad 10), .ref (ad 11), .ref (ad 12), .int 1, .int p0, .int p1, .int 0, .int 200])), (ad 8, .inl (c8, 49, .inr (.inr (.inr (.inr f8))))), (ad 10, .inr (14, [.int 0, .int 0, .int 0, .int 0, .int 0, .int 0, .int 0])), (ad 11, .inr (14, [.int 0, .int 0, .int 0, .int 0, .int 0, .int 0, .int 0])), (ad 30, .inr (6, [.int 0, .int 0, .int p0, .int p0, .int 0, .int 0]))]) := hD
  refine lv_aload_n hx hb dX0_begin_39 rfl (lv_at hl 0 rfl) ?_
  refine va_get (D := D) (ci := 5) (v := .ref (ad 8)) (C := RX0) (T := TX0) (N := 11) hx hb hts hin_RX0 hown hK hP 0 rfl rfl 1 (by decide) (hts (.fieldLink RX0 19 "Popupwright$Book" "creases" "[LPopupwright$Crease;") (by decide +kernel)) (fun _ h9 => h9) rfl dX0_begin_40 ?_
  refine lv_iconst (v := 0) hx hb dX0_begin_43 (by decide) ?_
  refine va_aldq hx hb hK hP 1 0 rfl rfl (by unfold vp_in; decide) dX0_begin_44 ?_
  refine W.eq (g2 := F0 m 45 ls [.ref (ad 30)]) (congrArg (fun z => F0 m 45 ls (va_rf z :: [])) (show (f8) (Int32.toNatClampNeg 0) = some (ad 30) from hf8)) ?_
  refine lv_iconst (v := 0) hx hb dX0_begin_45 (by decide) ?_
  refine lv_aload_n hx hb dX0_begin_46 rfl (lv_at hl 0 rfl) ?_
  refine va_get (D := D) (ci := 5) (v := .int p1) (C := RX0) (T := TX0) (N := 11) hx hb hts hin_RX0 hown hK hP 0 rfl rfl 8 (by decide) (hts (.fieldLink RX0 65 "Popupwright$Book" "height" "I") (by decide +kernel)) (fun _ h9 => h9) rfl dX0_begin_47 ?_
  refine kx_v (wc := [(ad 30, .inr (6, [.int 0, .int 0, .int p0, .int p0, .int 0, .int 0]))]) (wr := [(ad 1, .inr (5, [.ref (ad 7), .ref (ad 8), .ref (ad 9), .ref (ad 10), .ref (ad 11), .ref (ad 12), .int 1, .int p0, .int p1, .int 0, .int 200])), (ad 8, .inl (c8, 49, .inr (.inr (.inr (.inr f8))))), (ad 10, .inr (14, [.int 0, .int 0, .int 0, .int 0, .int 0, .int 0, .int 0])), (ad 11, .inr (14, [.int 0, .int 0, .int 0, .int 0, .int 0, .int 0, .int 0]))]) hP hD hS hA [4] [0, 1, 2, 3] rfl rfl (by decide) (by decide) (va_runV (As := [.int 0, .int p1]) (rest := []) ⟨hx, hb, hml, hown, hts⟩ (c_span l D de (ad 30) 0 0 p0 p0 0 0 0 p1 H.size) (cwV 2 hts gX0_begin_X1_span rfl rfl rfl (by decide +kernel) ⟨Nat.le_of_ble_eq_true rfl, Nat.le_of_ble_eq_true rfl⟩) ⟨px_blind, (va_recv hK hP (ci := 6) (q0 := 4) rfl rfl), (px_pre hP hD hK hS hA hTK hZ [4] rfl rfl (by decide) [] rfl)⟩ rfl rfl hl.1 rfl (lv_room (Nat.le_of_ble_eq_true rfl)) dX0_begin_50 ⟨(Nat.le_of_ble_eq_true rfl), (Nat.le_of_ble_eq_true rfl)⟩) (fun u H locs hw hP hD hK1 hS => ?_)
  have hP : va_P D vwCl ([(ad 1, .inr (5, [.ref (ad 7), .ref (ad 8), .ref (ad 9), .ref (ad 10), .ref (ad 11), .ref (ad 12), .int 1, .int p0, .int p1, .int 0, .int 200])), (ad 8, .inl (c8, 49, .inr (.inr (.inr (.inr f8))))), (ad 10, .inr (14, [.int 0, .int 0, .int 0, .int 0, .int 0, .int 0, .int 0])), (ad 11, .inr (14, [.int 0, .int 0, .int 0, .int 0, .int 0, .int 0, .int 0]))]) H := hP
  have hD : va_D A ([(ad 1, .inr (5, [.ref (ad 7), .ref (ad 8), .ref (ad 9), .ref (ad 10), .ref (ad 11), .ref (ad 12), .int 1, .int p0, .int p1, .int 0, .int 200])), (ad 8, .inl (c8, 49, .inr (.inr (.inr (.inr f8))))), (ad 10, .inr (14, [.int 0, .int 0, .int 0, .int 0, .int 0, .int 0, .int 0])), (ad 11, .inr (14, [.int 0, .int 0, .int 0, .int 0, .int 0, .int 0, .int 0]))]) := hD
  refine lv_aload_n hx hb dX0_begin_53 rfl (lv_at hl 0 rfl) ?_
  refine va_get (D := D) (ci := 5) (v := .ref (ad 10)) (C := RX0) (T := TX0) (N := 11) hx hb hts hin_RX0 hown hK hP 0 rfl rfl 3 (by decide) (hts (.fieldLink RX0 30 "Popupwright$Book" "leftPage" "LPopupwright$Strip;") (by decide +kernel)) (fun _ h9 => h9) rfl dX0_begin_54 ?_
  refine lv_iconst (v := 0) hx hb dX0_begin_57 (by decide) ?_
  refine lv_iconst (v := 0) hx hb dX0_begin_58 (by decide) ?_
  refine lv_iconst (v := 0) hx hb dX0_begin_59 (by decide) ?_
  refine lv_aload_n hx hb dX0_begin_60 rfl (lv_at hl 0 rfl) ?_
  refine va_get (D := D) (ci := 5) (v := .int p0) (C := RX0) (T := TX0) (N := 11) hx hb hts hin_RX0 hown hK hP 0 rfl rfl 7 (by decide) (hts (.fieldLink RX0 62 "Popupwright$Book" "width" "I") (by decide +kernel)) (fun _ h9 => h9) rfl dX0_begin_61 ?_
  refine lv_iconst (v := 0) hx hb dX0_begin_64 (by decide) ?_
  refine lv_aload_n hx hb dX0_begin_65 rfl (lv_at hl 0 rfl) ?_
  refine va_get (D := D) (ci := 5) (v := .int p1) (C := RX0) (T := TX0) (N := 11) hx hb hts hin_RX0 hown hK hP 0 rfl rfl 8 (by decide) (hts (.fieldLink RX0 65 "Popupwright$Book" "height" "I") (by decide +kernel)) (fun _ h9 => h9) rfl dX0_begin_66 ?_
  refine kx_v (wc := [(ad 10, .inr (14, [.int 0, .int 0, .int 0, .int 0, .int 0, .int 0, .int 0]))]) (wr := [(ad 1, .inr (5, [.ref (ad 7), .ref (ad 8), .ref (ad 9), .ref (ad 10), .ref (ad 11), .ref (ad 12), .int 1, .int p0, .int p1, .int 0, .int 200])), (ad 8, .inl (c8, 49, .inr (.inr (.inr (.inr f8))))), (ad 11, .inr (14, [.int 0, .int 0, .int 0, .int 0, .int 0, .int 0, .int 0]))]) hP hD hS hA [2] [0, 1, 3] rfl rfl (by decide) (by decide) (va_runV (As := [.int 0, .int 0, .int 0, .int p0, .int 0, .int p1]) (rest := []) ⟨hx, hb, hml, hown, hts⟩ (c_lay0 l D de (ad 10) 0 0 p0 0 p1 H.size) (cwV 6 hts gX0_begin_X9_lay rfl rfl rfl (by decide +kernel) ⟨Nat.le_of_ble_eq_true rfl, Nat.le_of_ble_eq_true rfl⟩) ⟨px_blind, (va_recv hK hP (ci := 14) (q0 := 2) rfl rfl), (px_pre hP hD hK hS hA hTK hZ [2] rfl rfl (by decide) [] rfl)⟩ rfl rfl hl.1 rfl (lv_room (Nat.le_of_ble_eq_true rfl)) dX0_begin_69 ⟨(Nat.le_of_ble_eq_true rfl), (Nat.le_of_ble_eq_true rfl)⟩) (fun u H locs hw hP hD hK1 hS => ?_)
  have hP : va_P D vwCl ([(ad 1, .inr (5, [.ref (ad 7), .ref (ad 8), .ref (ad 9), .ref (ad 10), .ref (ad 11), .ref (ad 12), .int 1, .int p0, .int p1, .int 0, .int 200])), (ad 8, .inl (c8, 49, .inr (.inr (.inr (.inr f8))))), (ad 11, .inr (14, [.int 0, .int 0, .int 0, .int 0, .int 0, .int 0, .int 0]))]) H := hP
  have hD : va_D A ([(ad 1, .inr (5, [.ref (ad 7), .ref (ad 8), .ref (ad 9), .ref (ad 10), .ref (ad 11), .ref (ad 12), .int 1, .int p0, .int p1, .int 0, .int 200])), (ad 8, .inl (c8, 49, .inr (.inr (.inr (.inr f8))))), (ad 11, .inr (14, [.int 0, .int 0, .int 0, .int 0, .int 0, .int 0, .int 0]))]) := hD
  refine lv_aload_n hx hb dX0_begin_72 rfl (lv_at hl 0 rfl) ?_
  refine va_get (D := D) (ci := 5) (v := .ref (ad 11)) (C := RX0) (T := TX0) (N := 11) hx hb hts hin_RX0 hown hK hP 0 rfl rfl 4 (by decide) (hts (.fieldLink RX0 34 "Popupwright$Book" "rightPage" "LPopupwright$Strip;") (by decide +kernel)) (fun _ h9 => h9) rfl dX0_begin_73 ?_
  refine lv_iconst (v := 1) hx hb dX0_begin_76 (by decide) ?_
  refine lv_iconst (v := 0) hx hb dX0_begin_77 (by decide) ?_
  refine lv_iconst (v := 0) hx hb dX0_begin_78 (by decide) ?_
  refine lv_aload_n hx hb dX0_begin_79 rfl (lv_at hl 0 rfl) ?_
  refine va_get (D := D) (ci := 5) (v := .int p0) (C := RX0) (T := TX0) (N := 11) hx hb hts hin_RX0 hown hK hP 0 rfl rfl 7 (by decide) (hts (.fieldLink RX0 62 "Popupwright$Book" "width" "I") (by decide +kernel)) (fun _ h9 => h9) rfl dX0_begin_80 ?_
  refine lv_iconst (v := 0) hx hb dX0_begin_83 (by decide) ?_
  refine lv_aload_n hx hb dX0_begin_84 rfl (lv_at hl 0 rfl) ?_
  refine va_get (D := D) (ci := 5) (v := .int p1) (C := RX0) (T := TX0) (N := 11) hx hb hts hin_RX0 hown hK hP 0 rfl rfl 8 (by decide) (hts (.fieldLink RX0 65 "Popupwright$Book" "height" "I") (by decide +kernel)) (fun _ h9 => h9) rfl dX0_begin_85 ?_
  refine kx_v (wc := [(ad 11, .inr (14, [.int 0, .int 0, .int 0, .int 0, .int 0, .int 0, .int 0]))]) (wr := [(ad 1, .inr (5, [.ref (ad 7), .ref (ad 8), .ref (ad 9), .ref (ad 10), .ref (ad 11), .ref (ad 12), .int 1, .int p0, .int p1, .int 0, .int 200])), (ad 8, .inl (c8, 49, .inr (.inr (.inr (.inr f8)))))]) hP hD hS hA [2] [0, 1] rfl rfl (by decide) (by decide) (va_runV (As := [.int 1, .int 0, .int 0, .int p0, .int 0, .int p1]) (rest := []) ⟨hx, hb, hml, hown, hts⟩ (c_lay1 l D de (ad 11) 0 0 p0 0 p1 H.size) (cwV 6 hts gX0_begin_X9_lay rfl rfl rfl (by decide +kernel) ⟨Nat.le_of_ble_eq_true rfl, Nat.le_of_ble_eq_true rfl⟩) ⟨px_blind, (va_recv hK hP (ci := 14) (q0 := 2) rfl rfl), (px_pre hP hD hK hS hA hTK hZ [2] rfl rfl (by decide) [] rfl)⟩ rfl rfl hl.1 rfl (lv_room (Nat.le_of_ble_eq_true rfl)) dX0_begin_88 ⟨(Nat.le_of_ble_eq_true rfl), (Nat.le_of_ble_eq_true rfl)⟩) (fun u H locs hw hP hD hK1 hS => ?_)
  have hP : va_P D vwCl ([(ad 1, .inr (5, [.ref (ad 7), .ref (ad 8), .ref (ad 9), .ref (ad 10), .ref (ad 11), .ref (ad 12), .int 1, .int p0, .int p1, .int 0, .int 200])), (ad 8, .inl (c8, 49, .inr (.inr (.inr (.inr f8)))))]) H := hP
  have hD : va_D A ([(ad 1, .inr (5, [.ref (ad 7), .ref (ad 8), .ref (ad 9), .ref (ad 10), .ref (ad 11), .ref (ad 12), .int 1, .int p0, .int p1, .int 0, .int 200])), (ad 8, .inl (c8, 49, .inr (.inr (.inr (.inr f8)))))]) := hD
  refine W.widen (k := 0) (n := 0) (Nat.le_of_ble_eq_true rfl) (Nat.le_of_ble_eq_true rfl) ?_
  have hP9 := hP.sub (ws' := ([])) [] rfl
  have hD9 := hD.sub (ws' := ([])) [] (by decide) rfl
  have hK9 := hK.sub (tys' := []) [] rfl
  exact W.vret hx hb hr (fun t ht hW => ⟨⟨(), rfl, trivial, ⟨by rw [ht]; exact hP9, va_K.moved hW.alike hK9, hD9⟩⟩, hS.F ht⟩) hS.2.2 dX0_begin_91 hlocks

set_option maxHeartbeats 4000000 in
set_option maxRecDepth 100000 in
theorem f_spread (l : Launch) (hst : l.stackTraces = false) (D : va_G) (de : Nat) (ad : Nat → Nat) (c8 : ClassId) (f8 : Nat → Option Nat) (p0 p1 : Int32) (sz : Nat) (hf8 : f8 0 = some (ad 30)) : vx_Met l yX11_spread wsX11_spread ({ frames := 6, cells := 1, slots := 6, locals := 82 } : Room) (va_Pc [.ref (ad 0), .int p0, .int p1] (PX de D ([(c8, .object RX1)]) ([(ad 0, .inr (16, [.ref (ad 1), .ref (ad 2), .ref (ad 3), .ref (ad 4), .ref (ad 5), .ref (ad 6)])), (ad 1, .inr (5, [.ref (ad 7), .ref (ad 8), .ref (ad 9), .ref (ad 10), .ref (ad 11), .ref (ad 12), .int 0, .int 0, .int 0, .int 0, .int 200])), (ad 2, .inr (9, [.ref (ad 1), .ref (ad 13), .int 0])), (ad 3, .inr (13, [.ref (ad 14), .int 0])), (ad 4, .inr (10, [.ref (ad 1), .ref (ad 15), .ref (ad 16), .ref (ad 17), .ref (ad 18), .ref (ad 19), .ref (ad 20), .ref (ad 21), .ref (ad 22), .int 500, .int 700, .int 0, .int 0])), (ad 5, .inr (8, [.ref (ad 1), .ref (ad 23), .ref (ad 24), .ref (ad 25), .ref (ad 26), .ref (ad 27), .ref (ad 28), .int 10, .int 0])), (ad 8, .inl (c8, 49, .inr (.inr (.inr (.inr f8))))), (ad 30, .inr (6, [.int 0, .int 0, .int 0, .int 0, .int 0, .int 0])), (ad 10, .inr (14, [.int 0, .int 0, .int 0, .int 0, .int 0, .int 0, .int 0])), (ad 11, .inr (14, [.int 0, .int 0, .int 0, .int 0, .int 0, .int 0, .int 0]))]) sz)) (va_Qi (fun (r : Int32) (u : Unit) => r = 0 ∧ ¬ inR p0 20 400 = 0 ∧ ¬ inR p1 20 400 = 0) (fun u t => PW D ([]) (va_A ([(ad 0, .inr (16, [.ref (ad 1), .ref (ad 2), .ref (ad 3), .ref (ad 4), .ref (ad 5), .ref (ad 6)])), (ad 1, .inr (5, [.ref (ad 7), .ref (ad 8), .ref (ad 9), .ref (ad 10), .ref (ad 11), .ref (ad 12), .int 0, .int 0, .int 0, .int 0, .int 200])), (ad 2, .inr (9, [.ref (ad 1), .ref (ad 13), .int 0])), (ad 3, .inr (13, [.ref (ad 14), .int 0])), (ad 4, .inr (10, [.ref (ad 1), .ref (ad 15), .ref (ad 16), .ref (ad 17), .ref (ad 18), .ref (ad 19), .ref (ad 20), .ref (ad 21), .ref (ad 22), .int 500, .int 700, .int 0, .int 0])), (ad 5, .inr (8, [.ref (ad 1), .ref (ad 23), .ref (ad 24), .ref (ad 25), .ref (ad 26), .ref (ad 27), .ref (ad 28), .int 10, .int 0])), (ad 8, .inl (c8, 49, .inr (.inr (.inr (.inr f8))))), (ad 30, .inr (6, [.int 0, .int 0, .int 0, .int 0, .int 0, .int 0])), (ad 10, .inr (14, [.int 0, .int 0, .int 0, .int 0, .int 0, .int 0, .int 0])), (ad 11, .inr (14, [.int 0, .int 0, .int 0, .int 0, .int 0, .int 0, .int 0]))]) sz) ([]) t) (va_A ([(ad 0, .inr (16, [.ref (ad 1), .ref (ad 2), .ref (ad 3), .ref (ad 4), .ref (ad 5), .ref (ad 6)])), (ad 1, .inr (5, [.ref (ad 7), .ref (ad 8), .ref (ad 9), .ref (ad 10), .ref (ad 11), .ref (ad 12), .int 0, .int 0, .int 0, .int 0, .int 200])), (ad 2, .inr (9, [.ref (ad 1), .ref (ad 13), .int 0])), (ad 3, .inr (13, [.ref (ad 14), .int 0])), (ad 4, .inr (10, [.ref (ad 1), .ref (ad 15), .ref (ad 16), .ref (ad 17), .ref (ad 18), .ref (ad 19), .ref (ad 20), .ref (ad 21), .ref (ad 22), .int 500, .int 700, .int 0, .int 0])), (ad 5, .inr (8, [.ref (ad 1), .ref (ad 23), .ref (ad 24), .ref (ad 25), .ref (ad 26), .ref (ad 27), .ref (ad 28), .int 10, .int 0])), (ad 8, .inl (c8, 49, .inr (.inr (.inr (.inr f8))))), (ad 30, .inr (6, [.int 0, .int 0, .int 0, .int 0, .int 0, .int 0])), (ad 10, .inr (14, [.int 0, .int 0, .int 0, .int 0, .int 0, .int 0, .int 0])), (ad 11, .inr (14, [.int 0, .int 0, .int 0, .int 0, .int 0, .int 0, .int 0]))]) sz)) (XN (fun E => (E = "java/lang/IllegalArgumentException" ∧ (inR p0 20 400 = 0 ∨ inR p1 20 400 = 0))) (va_A ([(ad 0, .inr (16, [.ref (ad 1), .ref (ad 2), .ref (ad 3), .ref (ad 4), .ref (ad 5), .ref (ad 6)])), (ad 1, .inr (5, [.ref (ad 7), .ref (ad 8), .ref (ad 9), .ref (ad 10), .ref (ad 11), .ref (ad 12), .int 0, .int 0, .int 0, .int 0, .int 200])), (ad 2, .inr (9, [.ref (ad 1), .ref (ad 13), .int 0])), (ad 3, .inr (13, [.ref (ad 14), .int 0])), (ad 4, .inr (10, [.ref (ad 1), .ref (ad 15), .ref (ad 16), .ref (ad 17), .ref (ad 18), .ref (ad 19), .ref (ad 20), .ref (ad 21), .ref (ad 22), .int 500, .int 700, .int 0, .int 0])), (ad 5, .inr (8, [.ref (ad 1), .ref (ad 23), .ref (ad 24), .ref (ad 25), .ref (ad 26), .ref (ad 27), .ref (ad 28), .int 10, .int 0])), (ad 8, .inl (c8, 49, .inr (.inr (.inr (.inr f8))))), (ad 30, .inr (6, [.int 0, .int 0, .int 0, .int 0, .int 0, .int 0])), (ad 10, .inr (14, [.int 0, .int 0, .int 0, .int 0, .int 0, .int 0, .int 0])), (ad 11, .inr (14, [.int 0, .int 0, .int 0, .int 0, .int 0, .int 0, .int 0]))]) sz)) 1 6 (va_A ([(ad 0, .inr (16, [.ref (ad 1), .ref (ad 2), .ref (ad 3), .ref (ad 4), .ref (ad 5), .ref (ad 6)])), (ad 1, .inr (5, [.ref (ad 7), .ref (ad 8), .ref (ad 9), .ref (ad 10), .ref (ad 11), .ref (ad 12), .int 0, .int 0, .int 0, .int 0, .int 200])), (ad 2, .inr (9, [.ref (ad 1), .ref (ad 13), .int 0])), (ad 3, .inr (13, [.ref (ad 14), .int 0])), (ad 4, .inr (10, [.ref (ad 1), .ref (ad 15), .ref (ad 16), .ref (ad 17), .ref (ad 18), .ref (ad 19), .ref (ad 20), .ref (ad 21), .ref (ad 22), .int 500, .int 700, .int 0, .int 0])), (ad 5, .inr (8, [.ref (ad 1), .ref (ad 23), .ref (ad 24), .ref (ad 25), .ref (ad 26), .ref (ad 27), .ref (ad 28), .int 10, .int 0])), (ad 8, .inl (c8, 49, .inr (.inr (.inr (.inr f8))))), (ad 30, .inr (6, [.int 0, .int 0, .int 0, .int 0, .int 0, .int 0])), (ad 10, .inr (14, [.int 0, .int 0, .int 0, .int 0, .int 0, .int 0, .int 0])), (ad 11, .inr (14, [.int 0, .int 0, .int 0, .int 0, .int 0, .int 0, .int 0]))]) sz) := by
  refine vx_ofW (cc := cX11_spread) (maxL := 4) (ret := (some .int)) (by decide) rfl ?_
  intro p e s m args below meth c s₁ B hml hnt hv
  obtain ⟨rfl, hsz, hP, hK, hD0, hTK, hZ⟩ := hv
  have hx := B.exec
  have hb := B.bytes
  have hr := B.returns
  have hts := atoms_spec (ws := wsX11_spread) B.pre
  have hown : s.vm.findClass RX11 = some m.cls := findClass_of_methodNamed B.named
  have hlocks := B.notSynchronized
  have hin_RX0 : ∀ w ∈ u_ws RX0 TX0 11, w ∈ wsX11_spread := by decide +kernel
  have hin_RX11 : ∀ w ∈ u_ws RX11 TX11 6, w ∈ wsX11_spread := by decide +kernel
  have hin_RX4 : ∀ w ∈ u_ws RX4 TX4 3, w ∈ wsX11_spread := by decide +kernel
  have hin_RX8 : ∀ w ∈ u_ws RX8 TX8 2, w ∈ wsX11_spread := by decide +kernel
  subst hsz
  have hD := hD0.self (sz := s.heap.size)
  generalize hAe : va_A ([(ad 0, .inr (16, [.ref (ad 1), .ref (ad 2), .ref (ad 3), .ref (ad 4), .ref (ad 5), .ref (ad 6)])), (ad 1, .inr (5, [.ref (ad 7), .ref (ad 8), .ref (ad 9), .ref (ad 10), .ref (ad 11), .ref (ad 12), .int 0, .int 0, .int 0, .int 0, .int 200])), (ad 2, .inr (9, [.ref (ad 1), .ref (ad 13), .int 0])), (ad 3, .inr (13, [.ref (ad 14), .int 0])), (ad 4, .inr (10, [.ref (ad 1), .ref (ad 15), .ref (ad 16), .ref (ad 17), .ref (ad 18), .ref (ad 19), .ref (ad 20), .ref (ad 21), .ref (ad 22), .int 500, .int 700, .int 0, .int 0])), (ad 5, .inr (8, [.ref (ad 1), .ref (ad 23), .ref (ad 24), .ref (ad 25), .ref (ad 26), .ref (ad 27), .ref (ad 28), .int 10, .int 0])), (ad 8, .inl (c8, 49, .inr (.inr (.inr (.inr f8))))), (ad 30, .inr (6, [.int 0, .int 0, .int 0, .int 0, .int 0, .int 0])), (ad 10, .inr (14, [.int 0, .int 0, .int 0, .int 0, .int 0, .int 0, .int 0])), (ad 11, .inr (14, [.int 0, .int 0, .int 0, .int 0, .int 0, .int 0, .int 0]))]) s.heap.size = A at hD hZ ⊢
  have hA : ∀ q : Nat, s.heap.size ≤ q → A q := fun q h => by rw [← hAe]; exact Or.inr h
  have hS : va_S A s.heap s.heap [] := va_S.rf
  have hP : va_P D vwCl ([(ad 0, .inr (16, [.ref (ad 1), .ref (ad 2), .ref (ad 3), .ref (ad 4), .ref (ad 5), .ref (ad 6)])), (ad 1, .inr (5, [.ref (ad 7), .ref (ad 8), .ref (ad 9), .ref (ad 10), .ref (ad 11), .ref (ad 12), .int 0, .int 0, .int 0, .int 0, .int 200])), (ad 2, .inr (9, [.ref (ad 1), .ref (ad 13), .int 0])), (ad 3, .inr (13, [.ref (ad 14), .int 0])), (ad 4, .inr (10, [.ref (ad 1), .ref (ad 15), .ref (ad 16), .ref (ad 17), .ref (ad 18), .ref (ad 19), .ref (ad 20), .ref (ad 21), .ref (ad 22), .int 500, .int 700, .int 0, .int 0])), (ad 5, .inr (8, [.ref (ad 1), .ref (ad 23), .ref (ad 24), .ref (ad 25), .ref (ad 26), .ref (ad 27), .ref (ad 28), .int 10, .int 0])), (ad 8, .inl (c8, 49, .inr (.inr (.inr (.inr f8))))), (ad 30, .inr (6, [.int 0, .int 0, .int 0, .int 0, .int 0, .int 0])), (ad 10, .inr (14, [.int 0, .int 0, .int 0, .int 0, .int 0, .int 0, .int 0])), (ad 11, .inr (14, [.int 0, .int 0, .int 0, .int 0, .int 0, .int 0, .int 0]))]) s.heap := hP
  have hD : va_D A ([(ad 0, .inr (16, [.ref (ad 1), .ref (ad 2), .ref (ad 3), .ref (ad 4), .ref (ad 5), .ref (ad 6)])), (ad 1, .inr (5, [.ref (ad 7), .ref (ad 8), .ref (ad 9), .ref (ad 10), .ref (ad 11), .ref (ad 12), .int 0, .int 0, .int 0, .int 0, .int 200])), (ad 2, .inr (9, [.ref (ad 1), .ref (ad 13), .int 0])), (ad 3, .inr (13, [.ref (ad 14), .int 0])), (ad 4, .inr (10, [.ref (ad 1), .ref (ad 15), .ref (ad 16), .ref (ad 17), .ref (ad 18), .ref (ad 19), .ref (ad 20), .ref (ad 21), .ref (ad 22), .int 500, .int 700, .int 0, .int 0])), (ad 5, .inr (8, [.ref (ad 1), .ref (ad 23), .ref (ad 24), .ref (ad 25), .ref (ad 26), .ref (ad 27), .ref (ad 28), .int 10, .int 0])), (ad 8, .inl (c8, 49, .inr (.inr (.inr (.inr f8))))), (ad 30, .inr (6, [.int 0, .int 0, .int 0, .int 0, .int 0, .int 0])), (ad 10, .inr (14, [.int 0, .int 0, .int 0, .int 0, .int 0, .int 0, .int 0])), (ad 11, .inr (14, [.int 0, .int 0, .int 0, .int 0, .int 0, .int 0, .int 0]))]) := hD
  have hl := lv_entry ([.ref (ad 0), .int p0, .int p1]) (n := 4) (Nat.le_of_ble_eq_true rfl)
  rw [lg_entry_eq]
  generalize (lg_sl ([.ref (ad 0), .int p0, .int p1]) ++ List.replicate (4 - (lg_sl ([.ref (ad 0), .int p0, .int p1])).length) Slot.unset).toArray = ls at hl ⊢
  have hl : lv_has ls 4 [(0, .ref (ad 0)), (1, .int p0), (2, .int p1)] := hl
  refine lv_iload_n hx hb dX11_spread_0 rfl (lv_at hl 1 rfl) ?_
  refine lv_bipush (v := 20) hx hb dX11_spread_1 (by decide) ?_
  refine lv_sipush (v := 400) hx hb dX11_spread_3 (by decide) ?_
  refine kx_i (wc := []) (wr := [(ad 0, .inr (16, [.ref (ad 1), .ref (ad 2), .ref (ad 3), .ref (ad 4), .ref (ad 5), .ref (ad 6)])), (ad 1, .inr (5, [.ref (ad 7), .ref (ad 8), .ref (ad 9), .ref (ad 10), .ref (ad 11), .ref (ad 12), .int 0, .int 0, .int 0, .int 0, .int 200])), (ad 2, .inr (9, [.ref (ad 1), .ref (ad 13), .int 0])), (ad 3, .inr (13, [.ref (ad 14), .int 0])), (ad 4, .inr (10, [.ref (ad 1), .ref (ad 15), .ref (ad 16), .ref (ad 17), .ref (ad 18), .ref (ad 19), .ref (ad 20), .ref (ad 21), .ref (ad 22), .int 500, .int 700, .int 0, .int 0])), (ad 5, .inr (8, [.ref (ad 1), .ref (ad 23), .ref (ad 24), .ref (ad 25), .ref (ad 26), .ref (ad 27), .ref (ad 28), .int 10, .int 0])), (ad 8, .inl (c8, 49, .inr (.inr (.inr (.inr f8))))), (ad 30, .inr (6, [.int 0, .int 0, .int 0, .int 0, .int 0, .int 0])), (ad 10, .inr (14, [.int 0, .int 0, .int 0, .int 0, .int 0, .int 0, .int 0])), (ad 11, .inr (14, [.int 0, .int 0, .int 0, .int 0, .int 0, .int 0, .int 0]))]) hP hD hS hA [] [0, 1, 2, 3, 4, 5, 6, 7, 8, 9] rfl rfl (by decide) (by decide) (va_runS (As := [.int p0, .int 20, .int 400]) (rest := []) ⟨hx, hb, hml, hown, hts⟩ (c_isWithin l D de p0 20 400 s.heap.size) (va_cwS 3 hts gX11_spread_X11_isWithin rfl rfl rfl (by decide +kernel) ⟨Nat.le_of_ble_eq_true rfl, Nat.le_of_ble_eq_true rfl⟩) ⟨px_blind, (px_pre hP hD hK hS hA hTK hZ [] rfl rfl (by decide) [] rfl)⟩ rfl rfl hl.1 rfl (lv_room (Nat.le_of_ble_eq_true rfl)) dX11_spread_6 ⟨(Nat.le_of_ble_eq_true rfl), (Nat.le_of_ble_eq_true rfl)⟩) (fun r_1 u H locs hw hP hD hK1 hS => ?_)
  have hP : va_P D vwCl ([(ad 0, .inr (16, [.ref (ad 1), .ref (ad 2), .ref (ad 3), .ref (ad 4), .ref (ad 5), .ref (ad 6)])), (ad 1, .inr (5, [.ref (ad 7), .ref (ad 8), .ref (ad 9), .ref (ad 10), .ref (ad 11), .ref (ad 12), .int 0, .int 0, .int 0, .int 0, .int 200])), (ad 2, .inr (9, [.ref (ad 1), .ref (ad 13), .int 0])), (ad 3, .inr (13, [.ref (ad 14), .int 0])), (ad 4, .inr (10, [.ref (ad 1), .ref (ad 15), .ref (ad 16), .ref (ad 17), .ref (ad 18), .ref (ad 19), .ref (ad 20), .ref (ad 21), .ref (ad 22), .int 500, .int 700, .int 0, .int 0])), (ad 5, .inr (8, [.ref (ad 1), .ref (ad 23), .ref (ad 24), .ref (ad 25), .ref (ad 26), .ref (ad 27), .ref (ad 28), .int 10, .int 0])), (ad 8, .inl (c8, 49, .inr (.inr (.inr (.inr f8))))), (ad 30, .inr (6, [.int 0, .int 0, .int 0, .int 0, .int 0, .int 0])), (ad 10, .inr (14, [.int 0, .int 0, .int 0, .int 0, .int 0, .int 0, .int 0])), (ad 11, .inr (14, [.int 0, .int 0, .int 0, .int 0, .int 0, .int 0, .int 0]))]) H := hP
  have hD : va_D A ([(ad 0, .inr (16, [.ref (ad 1), .ref (ad 2), .ref (ad 3), .ref (ad 4), .ref (ad 5), .ref (ad 6)])), (ad 1, .inr (5, [.ref (ad 7), .ref (ad 8), .ref (ad 9), .ref (ad 10), .ref (ad 11), .ref (ad 12), .int 0, .int 0, .int 0, .int 0, .int 200])), (ad 2, .inr (9, [.ref (ad 1), .ref (ad 13), .int 0])), (ad 3, .inr (13, [.ref (ad 14), .int 0])), (ad 4, .inr (10, [.ref (ad 1), .ref (ad 15), .ref (ad 16), .ref (ad 17), .ref (ad 18), .ref (ad 19), .ref (ad 20), .ref (ad 21), .ref (ad 22), .int 500, .int 700, .int 0, .int 0])), (ad 5, .inr (8, [.ref (ad 1), .ref (ad 23), .ref (ad 24), .ref (ad 25), .ref (ad 26), .ref (ad 27), .ref (ad 28), .int 10, .int 0])), (ad 8, .inl (c8, 49, .inr (.inr (.inr (.inr f8))))), (ad 30, .inr (6, [.int 0, .int 0, .int 0, .int 0, .int 0, .int 0])), (ad 10, .inr (14, [.int 0, .int 0, .int 0, .int 0, .int 0, .int 0, .int 0])), (ad 11, .inr (14, [.int 0, .int 0, .int 0, .int 0, .int 0, .int 0, .int 0]))]) := hD
  obtain rfl : r_1 = inR p0 20 400 := hw
  refine lv_if_eq (tgt := 24) hx hb dX11_spread_9 (by decide) (fun c_9 => ?_) (fun c_9 => ?_)
  · exact kt_throw (mc := 1) (ms := 6) (own := RX11) (cls := "java/lang/IllegalArgumentException") (text := "a page is 20 to 400 wide and high") hx hb hst hml hl.1 hts (by decide +kernel) (by decide +kernel) hown hTK hZ hS (by decide +kernel) (by decide +kernel) (thrB_RX11_61) (thrG_RX11_57_61) dX11_spread_24 dX11_spread_27 dX11_spread_28 dX11_spread_30 dX11_spread_33 hnt (Nat.le_of_ble_eq_true rfl) (Nat.le_of_ble_eq_true rfl) (Nat.le_of_ble_eq_true rfl) (Nat.le_of_ble_eq_true rfl) hlocks (by first | exact ⟨rfl, Or.inl (by assumption)⟩ | exact ⟨rfl, Or.inr (by assumption)⟩) (Nat.le_of_ble_eq_true rfl) (Nat.le_of_ble_eq_true rfl)
  · refine lv_iload_n hx hb dX11_spread_12 rfl (lv_at hl 2 rfl) ?_
    refine lv_bipush (v := 20) hx hb dX11_spread_13 (by decide) ?_
    refine lv_sipush (v := 400) hx hb dX11_spread_15 (by decide) ?_
    refine kx_i (wc := []) (wr := [(ad 0, .inr (16, [.ref (ad 1), .ref (ad 2), .ref (ad 3), .ref (ad 4), .ref (ad 5), .ref (ad 6)])), (ad 1, .inr (5, [.ref (ad 7), .ref (ad 8), .ref (ad 9), .ref (ad 10), .ref (ad 11), .ref (ad 12), .int 0, .int 0, .int 0, .int 0, .int 200])), (ad 2, .inr (9, [.ref (ad 1), .ref (ad 13), .int 0])), (ad 3, .inr (13, [.ref (ad 14), .int 0])), (ad 4, .inr (10, [.ref (ad 1), .ref (ad 15), .ref (ad 16), .ref (ad 17), .ref (ad 18), .ref (ad 19), .ref (ad 20), .ref (ad 21), .ref (ad 22), .int 500, .int 700, .int 0, .int 0])), (ad 5, .inr (8, [.ref (ad 1), .ref (ad 23), .ref (ad 24), .ref (ad 25), .ref (ad 26), .ref (ad 27), .ref (ad 28), .int 10, .int 0])), (ad 8, .inl (c8, 49, .inr (.inr (.inr (.inr f8))))), (ad 30, .inr (6, [.int 0, .int 0, .int 0, .int 0, .int 0, .int 0])), (ad 10, .inr (14, [.int 0, .int 0, .int 0, .int 0, .int 0, .int 0, .int 0])), (ad 11, .inr (14, [.int 0, .int 0, .int 0, .int 0, .int 0, .int 0, .int 0]))]) hP hD hS hA [] [0, 1, 2, 3, 4, 5, 6, 7, 8, 9] rfl rfl (by decide) (by decide) (va_runS (As := [.int p1, .int 20, .int 400]) (rest := []) ⟨hx, hb, hml, hown, hts⟩ (c_isWithin l D de p1 20 400 H.size) (va_cwS 3 hts gX11_spread_X11_isWithin rfl rfl rfl (by decide +kernel) ⟨Nat.le_of_ble_eq_true rfl, Nat.le_of_ble_eq_true rfl⟩) ⟨px_blind, (px_pre hP hD hK hS hA hTK hZ [] rfl rfl (by decide) [] rfl)⟩ rfl rfl hl.1 rfl (lv_room (Nat.le_of_ble_eq_true rfl)) dX11_spread_18 ⟨(Nat.le_of_ble_eq_true rfl), (Nat.le_of_ble_eq_true rfl)⟩) (fun r_2 u H locs hw hP hD hK1 hS => ?_)
    have hP : va_P D vwCl ([(ad 0, .inr (16, [.ref (ad 1), .ref (ad 2), .ref (ad 3), .ref (ad 4), .ref (ad 5), .ref (ad 6)])), (ad 1, .inr (5, [.ref (ad 7), .ref (ad 8), .ref (ad 9), .ref (ad 10), .ref (ad 11), .ref (ad 12), .int 0, .int 0, .int 0, .int 0, .int 200])), (ad 2, .inr (9, [.ref (ad 1), .ref (ad 13), .int 0])), (ad 3, .inr (13, [.ref (ad 14), .int 0])), (ad 4, .inr (10, [.ref (ad 1), .ref (ad 15), .ref (ad 16), .ref (ad 17), .ref (ad 18), .ref (ad 19), .ref (ad 20), .ref (ad 21), .ref (ad 22), .int 500, .int 700, .int 0, .int 0])), (ad 5, .inr (8, [.ref (ad 1), .ref (ad 23), .ref (ad 24), .ref (ad 25), .ref (ad 26), .ref (ad 27), .ref (ad 28), .int 10, .int 0])), (ad 8, .inl (c8, 49, .inr (.inr (.inr (.inr f8))))), (ad 30, .inr (6, [.int 0, .int 0, .int 0, .int 0, .int 0, .int 0])), (ad 10, .inr (14, [.int 0, .int 0, .int 0, .int 0, .int 0, .int 0, .int 0])), (ad 11, .inr (14, [.int 0, .int 0, .int 0, .int 0, .int 0, .int 0, .int 0]))]) H := hP
    have hD : va_D A ([(ad 0, .inr (16, [.ref (ad 1), .ref (ad 2), .ref (ad 3), .ref (ad 4), .ref (ad 5), .ref (ad 6)])), (ad 1, .inr (5, [.ref (ad 7), .ref (ad 8), .ref (ad 9), .ref (ad 10), .ref (ad 11), .ref (ad 12), .int 0, .int 0, .int 0, .int 0, .int 200])), (ad 2, .inr (9, [.ref (ad 1), .ref (ad 13), .int 0])), (ad 3, .inr (13, [.ref (ad 14), .int 0])), (ad 4, .inr (10, [.ref (ad 1), .ref (ad 15), .ref (ad 16), .ref (ad 17), .ref (ad 18), .ref (ad 19), .ref (ad 20), .ref (ad 21), .ref (ad 22), .int 500, .int 700, .int 0, .int 0])), (ad 5, .inr (8, [.ref (ad 1), .ref (ad 23), .ref (ad 24), .ref (ad 25), .ref (ad 26), .ref (ad 27), .ref (ad 28), .int 10, .int 0])), (ad 8, .inl (c8, 49, .inr (.inr (.inr (.inr f8))))), (ad 30, .inr (6, [.int 0, .int 0, .int 0, .int 0, .int 0, .int 0])), (ad 10, .inr (14, [.int 0, .int 0, .int 0, .int 0, .int 0, .int 0, .int 0])), (ad 11, .inr (14, [.int 0, .int 0, .int 0, .int 0, .int 0, .int 0, .int 0]))]) := hD
    obtain rfl : r_2 = inR p1 20 400 := hw
    refine lv_if_ne (tgt := 34) hx hb dX11_spread_21 (by decide) (fun c_21 => ?_) (fun c_21 => ?_)
    · refine lv_aload_n hx hb dX11_spread_34 rfl (lv_at hl 0 rfl) ?_
      refine va_get (D := D) (ci := 16) (v := .ref (ad 1)) (C := RX11) (T := TX11) (N := 6) hx hb hts hin_RX11 hown hK hP 0 rfl rfl 0 (by decide) (hts (.fieldLink RX11 10 "Popupwright" "book" "LPopupwright$Book;") (by decide +kernel)) (fun _ h9 => h9) rfl dX11_spread_35 ?_
      refine va_get (D := D) (ci := 5) (v := .int 0) (C := RX0) (T := TX0) (N := 11) hx hb hts hin_RX0 hown hK hP 1 rfl rfl 9 (by decide) (hts (.fieldLink RX11 64 "Popupwright$Book" "count" "I") (by decide +kernel)) (fun _ h9 => h9) rfl dX11_spread_38 ?_
      refine lv_istore_n (lv' := [(3, .int 0), (0, .ref (ad 0)), (1, .int p0), (2, .int p1)]) hx hb dX11_spread_41 rfl hl (by decide) rfl (fun ls hl => ?_)
      refine lv_aload_n hx hb dX11_spread_42 rfl (lv_at hl 1 rfl) ?_
      refine va_get (D := D) (ci := 16) (v := .ref (ad 1)) (C := RX11) (T := TX11) (N := 6) hx hb hts hin_RX11 hown hK hP 0 rfl rfl 0 (by decide) (hts (.fieldLink RX11 10 "Popupwright" "book" "LPopupwright$Book;") (by decide +kernel)) (fun _ h9 => h9) rfl dX11_spread_43 ?_
      refine lv_iload_n hx hb dX11_spread_46 rfl (lv_at hl 2 rfl) ?_
      refine lv_iload_n hx hb dX11_spread_47 rfl (lv_at hl 3 rfl) ?_
      refine kx_v (wc := [(ad 1, .inr (5, [.ref (ad 7), .ref (ad 8), .ref (ad 9), .ref (ad 10), .ref (ad 11), .ref (ad 12), .int 0, .int 0, .int 0, .int 0, .int 200])), (ad 8, .inl (c8, 49, .inr (.inr (.inr (.inr f8))))), (ad 30, .inr (6, [.int 0, .int 0, .int 0, .int 0, .int 0, .int 0])), (ad 10, .inr (14, [.int 0, .int 0, .int 0, .int 0, .int 0, .int 0, .int 0])), (ad 11, .inr (14, [.int 0, .int 0, .int 0, .int 0, .int 0, .int 0, .int 0]))]) (wr := [(ad 0, .inr (16, [.ref (ad 1), .ref (ad 2), .ref (ad 3), .ref (ad 4), .ref (ad 5), .ref (ad 6)])), (ad 2, .inr (9, [.ref (ad 1), .ref (ad 13), .int 0])), (ad 3, .inr (13, [.ref (ad 14), .int 0])), (ad 4, .inr (10, [.ref (ad 1), .ref (ad 15), .ref (ad 16), .ref (ad 17), .ref (ad 18), .ref (ad 19), .ref (ad 20), .ref (ad 21), .ref (ad 22), .int 500, .int 700, .int 0, .int 0])), (ad 5, .inr (8, [.ref (ad 1), .ref (ad 23), .ref (ad 24), .ref (ad 25), .ref (ad 26), .ref (ad 27), .ref (ad 28), .int 10, .int 0]))]) hP hD hS hA [1, 6, 7, 8, 9] [0, 2, 3, 4, 5] rfl rfl (by decide) (by decide) (va_runV (As := [.int p0, .int p1]) (rest := []) ⟨hx, hb, hml, hown, hts⟩ (c_begin l D de ad c8 f8 p0 p1 H.size hf8) (cwV 2 hts gX11_spread_X0_begin rfl rfl rfl (by decide +kernel) ⟨Nat.le_of_ble_eq_true rfl, Nat.le_of_ble_eq_true rfl⟩) ⟨px_blind, (va_recv hK hP (ci := 5) (q0 := 1) rfl rfl), (px_pre hP hD hK hS hA hTK hZ [1, 6, 7, 8, 9] rfl rfl (by decide) [0] rfl)⟩ rfl rfl hl.1 rfl (lv_room (Nat.le_of_ble_eq_true rfl)) dX11_spread_48 ⟨(Nat.le_of_ble_eq_true rfl), (Nat.le_of_ble_eq_true rfl)⟩) (fun u H locs hw hP hD hK1 hS => ?_)
      have hP : va_P D vwCl ([(ad 0, .inr (16, [.ref (ad 1), .ref (ad 2), .ref (ad 3), .ref (ad 4), .ref (ad 5), .ref (ad 6)])), (ad 2, .inr (9, [.ref (ad 1), .ref (ad 13), .int 0])), (ad 3, .inr (13, [.ref (ad 14), .int 0])), (ad 4, .inr (10, [.ref (ad 1), .ref (ad 15), .ref (ad 16), .ref (ad 17), .ref (ad 18), .ref (ad 19), .ref (ad 20), .ref (ad 21), .ref (ad 22), .int 500, .int 700, .int 0, .int 0])), (ad 5, .inr (8, [.ref (ad 1), .ref (ad 23), .ref (ad 24), .ref (ad 25), .ref (ad 26), .ref (ad 27), .ref (ad 28), .int 10, .int 0]))]) H := hP
      have hD : va_D A ([(ad 0, .inr (16, [.ref (ad 1), .ref (ad 2), .ref (ad 3), .ref (ad 4), .ref (ad 5), .ref (ad 6)])), (ad 2, .inr (9, [.ref (ad 1), .ref (ad 13), .int 0])), (ad 3, .inr (13, [.ref (ad 14), .int 0])), (ad 4, .inr (10, [.ref (ad 1), .ref (ad 15), .ref (ad 16), .ref (ad 17), .ref (ad 18), .ref (ad 19), .ref (ad 20), .ref (ad 21), .ref (ad 22), .int 500, .int 700, .int 0, .int 0])), (ad 5, .inr (8, [.ref (ad 1), .ref (ad 23), .ref (ad 24), .ref (ad 25), .ref (ad 26), .ref (ad 27), .ref (ad 28), .int 10, .int 0]))]) := hD
      refine lv_aload_n hx hb dX11_spread_51 rfl (lv_at hl 1 rfl) ?_
      refine va_get (D := D) (ci := 16) (v := .ref (ad 2)) (C := RX11) (T := TX11) (N := 6) hx hb hts hin_RX11 hown hK hP 0 rfl rfl 1 (by decide) (hts (.fieldLink RX11 21 "Popupwright" "layers" "LPopupwright$Layers;") (by decide +kernel)) (fun _ h9 => h9) rfl dX11_spread_52 ?_
      refine lv_iconst (v := 0) hx hb dX11_spread_55 (by decide) ?_
      refine va_put (D := D) (ci := 9) (v := .int 0) (ty := .int) (C := RX4) (T := TX4) (N := 3) hx hb hts hin_RX4 tyX4 tyX4_ok nmX4 hown hK hP hD hS 1 rfl rfl 2 (by decide) (hts (.fieldLink RX11 72 "Popupwright$Layers" "count" "I") (by decide +kernel)) (fun _ h9 => h9) rfl (by decide +kernel) rfl rfl (Nat.le_of_ble_eq_true rfl) dX11_spread_56 (fun H locs hP hD hS => ?_)
      have hP : va_P D vwCl ([(ad 0, .inr (16, [.ref (ad 1), .ref (ad 2), .ref (ad 3), .ref (ad 4), .ref (ad 5), .ref (ad 6)])), (ad 2, .inr (9, [.ref (ad 1), .ref (ad 13), .int 0])), (ad 3, .inr (13, [.ref (ad 14), .int 0])), (ad 4, .inr (10, [.ref (ad 1), .ref (ad 15), .ref (ad 16), .ref (ad 17), .ref (ad 18), .ref (ad 19), .ref (ad 20), .ref (ad 21), .ref (ad 22), .int 500, .int 700, .int 0, .int 0])), (ad 5, .inr (8, [.ref (ad 1), .ref (ad 23), .ref (ad 24), .ref (ad 25), .ref (ad 26), .ref (ad 27), .ref (ad 28), .int 10, .int 0]))]) H := hP
      have hD : va_D A ([(ad 0, .inr (16, [.ref (ad 1), .ref (ad 2), .ref (ad 3), .ref (ad 4), .ref (ad 5), .ref (ad 6)])), (ad 2, .inr (9, [.ref (ad 1), .ref (ad 13), .int 0])), (ad 3, .inr (13, [.ref (ad 14), .int 0])), (ad 4, .inr (10, [.ref (ad 1), .ref (ad 15), .ref (ad 16), .ref (ad 17), .ref (ad 18), .ref (ad 19), .ref (ad 20), .ref (ad 21), .ref (ad 22), .int 500, .int 700, .int 0, .int 0])), (ad 5, .inr (8, [.ref (ad 1), .ref (ad 23), .ref (ad 24), .ref (ad 25), .ref (ad 26), .ref (ad 27), .ref (ad 28), .int 10, .int 0]))]) := hD
      refine lv_aload_n hx hb dX11_spread_59 rfl (lv_at hl 1 rfl) ?_
      refine va_get (D := D) (ci := 16) (v := .ref (ad 3)) (C := RX11) (T := TX11) (N := 6) hx hb hts hin_RX11 hown hK hP 0 rfl rfl 2 (by decide) (hts (.fieldLink RX11 28 "Popupwright" "pulls" "LPopupwright$Pulls;") (by decide +kernel)) (fun _ h9 => h9) rfl dX11_spread_60 ?_
      refine lv_iconst (v := 0) hx hb dX11_spread_63 (by decide) ?_
      refine va_put (D := D) (ci := 13) (v := .int 0) (ty := .int) (C := RX8) (T := TX8) (N := 2) hx hb hts hin_RX8 tyX8 tyX8_ok nmX8 hown hK hP hD hS 2 rfl rfl 1 (by decide) (hts (.fieldLink RX11 73 "Popupwright$Pulls" "count" "I") (by decide +kernel)) (fun _ h9 => h9) rfl (by decide +kernel) rfl rfl (Nat.le_of_ble_eq_true rfl) dX11_spread_64 (fun H locs hP hD hS => ?_)
      have hP : va_P D vwCl ([(ad 0, .inr (16, [.ref (ad 1), .ref (ad 2), .ref (ad 3), .ref (ad 4), .ref (ad 5), .ref (ad 6)])), (ad 2, .inr (9, [.ref (ad 1), .ref (ad 13), .int 0])), (ad 3, .inr (13, [.ref (ad 14), .int 0])), (ad 4, .inr (10, [.ref (ad 1), .ref (ad 15), .ref (ad 16), .ref (ad 17), .ref (ad 18), .ref (ad 19), .ref (ad 20), .ref (ad 21), .ref (ad 22), .int 500, .int 700, .int 0, .int 0])), (ad 5, .inr (8, [.ref (ad 1), .ref (ad 23), .ref (ad 24), .ref (ad 25), .ref (ad 26), .ref (ad 27), .ref (ad 28), .int 10, .int 0]))]) H := hP
      have hD : va_D A ([(ad 0, .inr (16, [.ref (ad 1), .ref (ad 2), .ref (ad 3), .ref (ad 4), .ref (ad 5), .ref (ad 6)])), (ad 2, .inr (9, [.ref (ad 1), .ref (ad 13), .int 0])), (ad 3, .inr (13, [.ref (ad 14), .int 0])), (ad 4, .inr (10, [.ref (ad 1), .ref (ad 15), .ref (ad 16), .ref (ad 17), .ref (ad 18), .ref (ad 19), .ref (ad 20), .ref (ad 21), .ref (ad 22), .int 500, .int 700, .int 0, .int 0])), (ad 5, .inr (8, [.ref (ad 1), .ref (ad 23), .ref (ad 24), .ref (ad 25), .ref (ad 26), .ref (ad 27), .ref (ad 28), .int 10, .int 0]))]) := hD
      refine lv_iload_n hx hb dX11_spread_67 rfl (lv_at hl 0 rfl) ?_
      refine W.widen (k := 1) (n := 6) (Nat.le_of_ble_eq_true rfl) (Nat.le_of_ble_eq_true rfl) ?_
      refine vx_ret ?_
      have hP9 := hP.sub (ws' := ([])) [] rfl
      have hD9 := hD.sub (ws' := ([])) [] (by decide) rfl
      have hK9 := hK.sub (tys' := []) [] rfl
      exact W.iret (v := 0) hx hb hr (fun t ht hW => ⟨⟨0, (), rfl, ⟨rfl, by assumption, by assumption⟩, ⟨by rw [ht]; exact hP9, va_K.moved hW.alike hK9, hD9⟩⟩, hS.F ht⟩) hS.2.2 dX11_spread_68 hlocks
    · exact kt_throw (mc := 1) (ms := 6) (own := RX11) (cls := "java/lang/IllegalArgumentException") (text := "a page is 20 to 400 wide and high") hx hb hst hml hl.1 hts (by decide +kernel) (by decide +kernel) hown hTK hZ hS (by decide +kernel) (by decide +kernel) (thrB_RX11_61) (thrG_RX11_57_61) dX11_spread_24 dX11_spread_27 dX11_spread_28 dX11_spread_30 dX11_spread_33 hnt (Nat.le_of_ble_eq_true rfl) (Nat.le_of_ble_eq_true rfl) (Nat.le_of_ble_eq_true rfl) (Nat.le_of_ble_eq_true rfl) hlocks (by first | exact ⟨rfl, Or.inl (by assumption)⟩ | exact ⟨rfl, Or.inr (by assumption)⟩) (Nat.le_of_ble_eq_true rfl) (Nat.le_of_ble_eq_true rfl)

set_option maxHeartbeats 4000000 in
set_option maxRecDepth 100000 in
theorem w_spread (l : Launch) (hst : l.stackTraces = false) (D : va_G) (de : Nat) (ad : Nat → Nat) (c8 : ClassId) (f8 : Nat → Option Nat) (p0 p1 : Int32) (cA : ClassId) (f : Nat → Int64) (sz : Nat) (hf8 : f8 0 = some (ad 30)) : Met l yL_spread wsL_spread ({ frames := 7, cells := 1, slots := 6, locals := 105 } : Room) (va_Pc [.ref (ad 0), .int p0, .int p1, .ref (ad 46)] (PX de D ([(c8, .object RX1), (cA, .long)]) ([(ad 0, .inr (16, [.ref (ad 1), .ref (ad 2), .ref (ad 3), .ref (ad 4), .ref (ad 5), .ref (ad 6)])), (ad 1, .inr (5, [.ref (ad 7), .ref (ad 8), .ref (ad 9), .ref (ad 10), .ref (ad 11), .ref (ad 12), .int 0, .int 0, .int 0, .int 0, .int 200])), (ad 2, .inr (9, [.ref (ad 1), .ref (ad 13), .int 0])), (ad 3, .inr (13, [.ref (ad 14), .int 0])), (ad 4, .inr (10, [.ref (ad 1), .ref (ad 15), .ref (ad 16), .ref (ad 17), .ref (ad 18), .ref (ad 19), .ref (ad 20), .ref (ad 21), .ref (ad 22), .int 500, .int 700, .int 0, .int 0])), (ad 5, .inr (8, [.ref (ad 1), .ref (ad 23), .ref (ad 24), .ref (ad 25), .ref (ad 26), .ref (ad 27), .ref (ad 28), .int 10, .int 0])), (ad 8, .inl (c8, 49, .inr (.inr (.inr (.inr f8))))), (ad 30, .inr (6, [.int 0, .int 0, .int 0, .int 0, .int 0, .int 0])), (ad 10, .inr (14, [.int 0, .int 0, .int 0, .int 0, .int 0, .int 0, .int 0])), (ad 11, .inr (14, [.int 0, .int 0, .int 0, .int 0, .int 0, .int 0, .int 0])), (ad 46, .inl (cA, 1, .inr (.inl f)))]) sz)) (va_Qi (fun (r : Int32) (u : Nat → Int64) => (r = 1 ∧ (inR p0 20 400 = 0 ∨ inR p1 20 400 = 0)) ∨ (r = 0 ∧ u 0 = 0 ∧ (¬ inR p0 20 400 = 0 ∧ ¬ inR p1 20 400 = 0))) (fun u t => PW D ([(cA, .long)]) (va_A ([(ad 0, .inr (16, [.ref (ad 1), .ref (ad 2), .ref (ad 3), .ref (ad 4), .ref (ad 5), .ref (ad 6)])), (ad 1, .inr (5, [.ref (ad 7), .ref (ad 8), .ref (ad 9), .ref (ad 10), .ref (ad 11), .ref (ad 12), .int 0, .int 0, .int 0, .int 0, .int 200])), (ad 2, .inr (9, [.ref (ad 1), .ref (ad 13), .int 0])), (ad 3, .inr (13, [.ref (ad 14), .int 0])), (ad 4, .inr (10, [.ref (ad 1), .ref (ad 15), .ref (ad 16), .ref (ad 17), .ref (ad 18), .ref (ad 19), .ref (ad 20), .ref (ad 21), .ref (ad 22), .int 500, .int 700, .int 0, .int 0])), (ad 5, .inr (8, [.ref (ad 1), .ref (ad 23), .ref (ad 24), .ref (ad 25), .ref (ad 26), .ref (ad 27), .ref (ad 28), .int 10, .int 0])), (ad 8, .inl (c8, 49, .inr (.inr (.inr (.inr f8))))), (ad 30, .inr (6, [.int 0, .int 0, .int 0, .int 0, .int 0, .int 0])), (ad 10, .inr (14, [.int 0, .int 0, .int 0, .int 0, .int 0, .int 0, .int 0])), (ad 11, .inr (14, [.int 0, .int 0, .int 0, .int 0, .int 0, .int 0, .int 0])), (ad 46, .inl (cA, 1, .inr (.inl f)))]) sz) ([(ad 46, .inl (cA, 1, .inr (.inl u)))]) t) (va_A ([(ad 0, .inr (16, [.ref (ad 1), .ref (ad 2), .ref (ad 3), .ref (ad 4), .ref (ad 5), .ref (ad 6)])), (ad 1, .inr (5, [.ref (ad 7), .ref (ad 8), .ref (ad 9), .ref (ad 10), .ref (ad 11), .ref (ad 12), .int 0, .int 0, .int 0, .int 0, .int 200])), (ad 2, .inr (9, [.ref (ad 1), .ref (ad 13), .int 0])), (ad 3, .inr (13, [.ref (ad 14), .int 0])), (ad 4, .inr (10, [.ref (ad 1), .ref (ad 15), .ref (ad 16), .ref (ad 17), .ref (ad 18), .ref (ad 19), .ref (ad 20), .ref (ad 21), .ref (ad 22), .int 500, .int 700, .int 0, .int 0])), (ad 5, .inr (8, [.ref (ad 1), .ref (ad 23), .ref (ad 24), .ref (ad 25), .ref (ad 26), .ref (ad 27), .ref (ad 28), .int 10, .int 0])), (ad 8, .inl (c8, 49, .inr (.inr (.inr (.inr f8))))), (ad 30, .inr (6, [.int 0, .int 0, .int 0, .int 0, .int 0, .int 0])), (ad 10, .inr (14, [.int 0, .int 0, .int 0, .int 0, .int 0, .int 0, .int 0])), (ad 11, .inr (14, [.int 0, .int 0, .int 0, .int 0, .int 0, .int 0, .int 0])), (ad 46, .inl (cA, 1, .inr (.inl f)))]) sz)) 1 6 (va_A ([(ad 0, .inr (16, [.ref (ad 1), .ref (ad 2), .ref (ad 3), .ref (ad 4), .ref (ad 5), .ref (ad 6)])), (ad 1, .inr (5, [.ref (ad 7), .ref (ad 8), .ref (ad 9), .ref (ad 10), .ref (ad 11), .ref (ad 12), .int 0, .int 0, .int 0, .int 0, .int 200])), (ad 2, .inr (9, [.ref (ad 1), .ref (ad 13), .int 0])), (ad 3, .inr (13, [.ref (ad 14), .int 0])), (ad 4, .inr (10, [.ref (ad 1), .ref (ad 15), .ref (ad 16), .ref (ad 17), .ref (ad 18), .ref (ad 19), .ref (ad 20), .ref (ad 21), .ref (ad 22), .int 500, .int 700, .int 0, .int 0])), (ad 5, .inr (8, [.ref (ad 1), .ref (ad 23), .ref (ad 24), .ref (ad 25), .ref (ad 26), .ref (ad 27), .ref (ad 28), .int 10, .int 0])), (ad 8, .inl (c8, 49, .inr (.inr (.inr (.inr f8))))), (ad 30, .inr (6, [.int 0, .int 0, .int 0, .int 0, .int 0, .int 0])), (ad 10, .inr (14, [.int 0, .int 0, .int 0, .int 0, .int 0, .int 0, .int 0])), (ad 11, .inr (14, [.int 0, .int 0, .int 0, .int 0, .int 0, .int 0, .int 0])), (ad 46, .inl (cA, 1, .inr (.inl f)))]) sz) := by
  refine va_MetW (cc := cL_spread) (maxL := 5) (ret := (some .int)) (by decide) rfl ?_
  intro p e s m args below meth c s₁ B hml hv
  obtain ⟨rfl, hsz, hP, hK, hD0, hTK, hZ⟩ := hv
  have hx := B.exec
  have hb := B.bytes
  have hr := B.returns
  have hts := atoms_spec (ws := wsL_spread) B.pre
  have hown : s.vm.findClass RL = some m.cls := findClass_of_methodNamed B.named
  have hlocks := B.notSynchronized
  have htab := vx_table (x := yL_spread) B (hts _ List.mem_cons_self)
  subst hsz
  have hD := hD0.self (sz := s.heap.size)
  generalize hAe : va_A ([(ad 0, .inr (16, [.ref (ad 1), .ref (ad 2), .ref (ad 3), .ref (ad 4), .ref (ad 5), .ref (ad 6)])), (ad 1, .inr (5, [.ref (ad 7), .ref (ad 8), .ref (ad 9), .ref (ad 10), .ref (ad 11), .ref (ad 12), .int 0, .int 0, .int 0, .int 0, .int 200])), (ad 2, .inr (9, [.ref (ad 1), .ref (ad 13), .int 0])), (ad 3, .inr (13, [.ref (ad 14), .int 0])), (ad 4, .inr (10, [.ref (ad 1), .ref (ad 15), .ref (ad 16), .ref (ad 17), .ref (ad 18), .ref (ad 19), .ref (ad 20), .ref (ad 21), .ref (ad 22), .int 500, .int 700, .int 0, .int 0])), (ad 5, .inr (8, [.ref (ad 1), .ref (ad 23), .ref (ad 24), .ref (ad 25), .ref (ad 26), .ref (ad 27), .ref (ad 28), .int 10, .int 0])), (ad 8, .inl (c8, 49, .inr (.inr (.inr (.inr f8))))), (ad 30, .inr (6, [.int 0, .int 0, .int 0, .int 0, .int 0, .int 0])), (ad 10, .inr (14, [.int 0, .int 0, .int 0, .int 0, .int 0, .int 0, .int 0])), (ad 11, .inr (14, [.int 0, .int 0, .int 0, .int 0, .int 0, .int 0, .int 0])), (ad 46, .inl (cA, 1, .inr (.inl f)))]) s.heap.size = A at hD hZ ⊢
  have hA : ∀ q : Nat, s.heap.size ≤ q → A q := fun q h => by rw [← hAe]; exact Or.inr h
  have hS : va_S A s.heap s.heap [] := va_S.rf
  have hP : va_P D vwCl ([(ad 0, .inr (16, [.ref (ad 1), .ref (ad 2), .ref (ad 3), .ref (ad 4), .ref (ad 5), .ref (ad 6)])), (ad 1, .inr (5, [.ref (ad 7), .ref (ad 8), .ref (ad 9), .ref (ad 10), .ref (ad 11), .ref (ad 12), .int 0, .int 0, .int 0, .int 0, .int 200])), (ad 2, .inr (9, [.ref (ad 1), .ref (ad 13), .int 0])), (ad 3, .inr (13, [.ref (ad 14), .int 0])), (ad 4, .inr (10, [.ref (ad 1), .ref (ad 15), .ref (ad 16), .ref (ad 17), .ref (ad 18), .ref (ad 19), .ref (ad 20), .ref (ad 21), .ref (ad 22), .int 500, .int 700, .int 0, .int 0])), (ad 5, .inr (8, [.ref (ad 1), .ref (ad 23), .ref (ad 24), .ref (ad 25), .ref (ad 26), .ref (ad 27), .ref (ad 28), .int 10, .int 0])), (ad 8, .inl (c8, 49, .inr (.inr (.inr (.inr f8))))), (ad 30, .inr (6, [.int 0, .int 0, .int 0, .int 0, .int 0, .int 0])), (ad 10, .inr (14, [.int 0, .int 0, .int 0, .int 0, .int 0, .int 0, .int 0])), (ad 11, .inr (14, [.int 0, .int 0, .int 0, .int 0, .int 0, .int 0, .int 0])), (ad 46, .inl (cA, 1, .inr (.inl f)))]) s.heap := hP
  have hD : va_D A ([(ad 0, .inr (16, [.ref (ad 1), .ref (ad 2), .ref (ad 3), .ref (ad 4), .ref (ad 5), .ref (ad 6)])), (ad 1, .inr (5, [.ref (ad 7), .ref (ad 8), .ref (ad 9), .ref (ad 10), .ref (ad 11), .ref (ad 12), .int 0, .int 0, .int 0, .int 0, .int 200])), (ad 2, .inr (9, [.ref (ad 1), .ref (ad 13), .int 0])), (ad 3, .inr (13, [.ref (ad 14), .int 0])), (ad 4, .inr (10, [.ref (ad 1), .ref (ad 15), .ref (ad 16), .ref (ad 17), .ref (ad 18), .ref (ad 19), .ref (ad 20), .ref (ad 21), .ref (ad 22), .int 500, .int 700, .int 0, .int 0])), (ad 5, .inr (8, [.ref (ad 1), .ref (ad 23), .ref (ad 24), .ref (ad 25), .ref (ad 26), .ref (ad 27), .ref (ad 28), .int 10, .int 0])), (ad 8, .inl (c8, 49, .inr (.inr (.inr (.inr f8))))), (ad 30, .inr (6, [.int 0, .int 0, .int 0, .int 0, .int 0, .int 0])), (ad 10, .inr (14, [.int 0, .int 0, .int 0, .int 0, .int 0, .int 0, .int 0])), (ad 11, .inr (14, [.int 0, .int 0, .int 0, .int 0, .int 0, .int 0, .int 0])), (ad 46, .inl (cA, 1, .inr (.inl f)))]) := hD
  have hl := lv_entry ([.ref (ad 0), .int p0, .int p1, .ref (ad 46)]) (n := 5) (Nat.le_of_ble_eq_true rfl)
  rw [lg_entry_eq]
  generalize (lg_sl ([.ref (ad 0), .int p0, .int p1, .ref (ad 46)]) ++ List.replicate (5 - (lg_sl ([.ref (ad 0), .int p0, .int p1, .ref (ad 46)])).length) Slot.unset).toArray = ls at hl ⊢
  have hl : lv_has ls 5 [(0, .ref (ad 0)), (1, .int p0), (2, .int p1), (3, .ref (ad 46))] := hl
  refine lv_aload_n hx hb dL_spread_0 rfl (lv_at hl 3 rfl) ?_
  refine lv_iconst (v := 0) hx hb dL_spread_1 (by decide) ?_
  refine lv_aload_n hx hb dL_spread_2 rfl (lv_at hl 0 rfl) ?_
  refine lv_iload_n hx hb dL_spread_3 rfl (lv_at hl 1 rfl) ?_
  refine lv_iload_n hx hb dL_spread_4 rfl (lv_at hl 2 rfl) ?_
  refine kt_i (wc := [(ad 0, .inr (16, [.ref (ad 1), .ref (ad 2), .ref (ad 3), .ref (ad 4), .ref (ad 5), .ref (ad 6)])), (ad 1, .inr (5, [.ref (ad 7), .ref (ad 8), .ref (ad 9), .ref (ad 10), .ref (ad 11), .ref (ad 12), .int 0, .int 0, .int 0, .int 0, .int 200])), (ad 2, .inr (9, [.ref (ad 1), .ref (ad 13), .int 0])), (ad 3, .inr (13, [.ref (ad 14), .int 0])), (ad 4, .inr (10, [.ref (ad 1), .ref (ad 15), .ref (ad 16), .ref (ad 17), .ref (ad 18), .ref (ad 19), .ref (ad 20), .ref (ad 21), .ref (ad 22), .int 500, .int 700, .int 0, .int 0])), (ad 5, .inr (8, [.ref (ad 1), .ref (ad 23), .ref (ad 24), .ref (ad 25), .ref (ad 26), .ref (ad 27), .ref (ad 28), .int 10, .int 0])), (ad 8, .inl (c8, 49, .inr (.inr (.inr (.inr f8))))), (ad 30, .inr (6, [.int 0, .int 0, .int 0, .int 0, .int 0, .int 0])), (ad 10, .inr (14, [.int 0, .int 0, .int 0, .int 0, .int 0, .int 0, .int 0])), (ad 11, .inr (14, [.int 0, .int 0, .int 0, .int 0, .int 0, .int 0, .int 0]))]) (wr := [(ad 46, .inl (cA, 1, .inr (.inl f)))]) hP hD hS hA [0, 1, 2, 3, 4, 5, 6, 7, 8, 9] [10] rfl rfl (by decide) (by decide) (vx_runV (As := [.int p0, .int p1]) (rest := [.int 0, .ref (ad 46)]) ⟨hx, hb, hml, hown, hts⟩ (f_spread l hst D de ad c8 f8 p0 p1 s.heap.size hf8) (cwV 2 hts gL_spread_X11_spread rfl rfl rfl (by decide +kernel) ⟨Nat.le_of_ble_eq_true rfl, Nat.le_of_ble_eq_true rfl⟩) ⟨px_blind, (va_recv hK hP (ci := 16) (q0 := 0) rfl rfl), (px_pre hP hD hK hS hA hTK hZ [0, 1, 2, 3, 4, 5, 6, 7, 8, 9] rfl rfl (by decide) [0] rfl)⟩ rfl rfl hl.1 rfl (lv_room (Nat.le_of_ble_eq_true rfl)) dL_spread_5 ⟨(Nat.le_of_ble_eq_true rfl), (Nat.le_of_ble_eq_true rfl)⟩) (fun E q9 H locs hE hq hP hD hS => ?_) (fun r_1 u H locs hw hP hD hK1 hS => ?_)
  · obtain ⟨rfl, hE⟩ := hE
    obtain ⟨ce9, hq1, hq2, hq3⟩ := hq
    refine vx_catch (own := RL) (name := "java/lang/IllegalArgumentException") hown [] (⟨0, 10, 13, 13⟩ : ExceptionTableEntry) [] htab (fun _ h9 => absurd h9 List.not_mem_nil) (by decide) (by decide) (va_Nw.use rfl (hTK.2.2.2.2.2.2.2.2.2.2.1 (RL, 13, "java/lang/IllegalArgumentException") (by decide +kernel))) (va_Nw.use rfl (hTK.1 "java/lang/IllegalArgumentException" (by decide +kernel))) hq1 hq2 hq3 ?_
    refine W.eq (g2 := F0 m 13 ls [.ref q9]) rfl ?_
    refine lv_astore (lv' := [(4, .ref q9), (0, .ref (ad 0)), (1, .int p0), (2, .int p1), (3, .ref (ad 46))]) hx hb dL_spread_13 hl (by decide) rfl (fun ls hl => ?_)
    refine lv_iconst (v := 1) hx hb dL_spread_15 (by decide) ?_
    refine W.widen (k := 1) (n := 6) (Nat.le_of_ble_eq_true rfl) (Nat.le_of_ble_eq_true rfl) ?_
    have hP9 := hP.sub (ws' := ([(ad 46, .inl (cA, 1, .inr (.inl f)))])) [0] rfl
    have hD9 := hD.sub (ws' := ([(ad 46, .inl (cA, 1, .inr (.inl f)))])) [0] (by decide) rfl
    have hK9 := hK.sub (tys' := [(cA, .long)]) [1] rfl
    exact W.iret (v := 1) hx hb hr (fun t ht hW => ⟨⟨1, (f), rfl, (Or.inl (⟨rfl, hE⟩)), ⟨by rw [ht]; exact hP9, va_K.moved hW.alike hK9, hD9⟩⟩, hS.F ht⟩) hS.2.2 dL_spread_16 hlocks
  · have hP : va_P D vwCl ([(ad 46, .inl (cA, 1, .inr (.inl f)))]) H := hP
    have hD : va_D A ([(ad 46, .inl (cA, 1, .inr (.inl f)))]) := hD
    obtain ⟨rfl, hn⟩ : r_1 = 0 ∧ _ := hw
    refine W.widen (k := 1) (n := 6) (Nat.le_of_ble_eq_true rfl) (Nat.le_of_ble_eq_true rfl) ?_
    refine lv_i2l (v := 0) hx hb dL_spread_8 (by decide) ?_
    refine va_last hx hb hK hP hD hS 0 1 rfl rfl (by unfold vp_in; decide) dL_spread_9 (fun H locs hP hD hS => ?_)
    have hP : va_P D vwCl ([(ad 46, .inl (cA, 1, .inr (.inl (vp_updL f 0 0))))]) H := hP
    have hD : va_D A ([(ad 46, .inl (cA, 1, .inr (.inl (vp_updL f 0 0))))]) := hD
    refine lv_goto (tgt := 17) hx hb dL_spread_10 (by decide) ?_
    refine lv_iconst (v := 0) hx hb dL_spread_17 (by decide) ?_
    refine W.widen (k := 1) (n := 6) (Nat.le_of_ble_eq_true rfl) (Nat.le_of_ble_eq_true rfl) ?_
    have hP9 := hP.sub (ws' := ([(ad 46, .inl (cA, 1, .inr (.inl (vp_updL f 0 0))))])) [0] rfl
    have hD9 := hD.sub (ws' := ([(ad 46, .inl (cA, 1, .inr (.inl (vp_updL f 0 0))))])) [0] (by decide) rfl
    have hK9 := hK.sub (tys' := [(cA, .long)]) [1] rfl
    exact W.iret (v := 0) hx hb hr (fun t ht hW => ⟨⟨0, (vp_updL f 0 0), rfl, (Or.inr (⟨rfl, rfl, hn⟩)), ⟨by rw [ht]; exact hP9, va_K.moved hW.alike hK9, hD9⟩⟩, hS.F ht⟩) hS.2.2 dL_spread_18 hlocks

set_option maxHeartbeats 4000000 in
set_option maxRecDepth 100000 in
theorem l_clear (l : Launch) (D : va_G) (de : Nat) (q el : Nat) (mo : Int32) (sz : Nat) : Met l yJx4a65c_clear_da8c8 wsJx4a65c_clear_da8c8 ({ frames := 0, cells := 0, slots := 0, locals := 0 } : Room) (va_Pc [.ref q] (PX de D ([]) ([(q, .inr (4, [.int mo, .ref el, .int 0]))]) sz)) (va_Qv (fun (u : Unit) => True) (fun u t => PW D ([]) (va_A ([(q, .inr (4, [.int mo, .ref el, .int 0]))]) sz) ([(q, .inr (4, [.int (mo + 1), .ref el, .int 0]))]) t) (va_A ([(q, .inr (4, [.int mo, .ref el, .int 0]))]) sz)) 0 0 (va_A ([(q, .inr (4, [.int mo, .ref el, .int 0]))]) sz) := by
  refine Met.ofW (cc := cJx4a65c_clear_da8c8) (maxL := 4) (ret := none) (by decide) rfl ?_
  intro p e s m args below meth c s₁ B hml hv
  obtain ⟨rfl, hsz, hP, hK, hD0, hTK, hZ⟩ := hv
  have hx := B.exec
  have hb := B.bytes
  have hr := B.returns
  have hts := atoms_spec (ws := wsJx4a65c_clear_da8c8) B.pre
  have hown : s.vm.findClass RJx4a65c = some m.cls := findClass_of_methodNamed B.named
  have hlocks := B.notSynchronized
  have hin_RJx4a65c : ∀ w ∈ u_ws RJx4a65c TJx4a65c 3, w ∈ wsJx4a65c_clear_da8c8 := by decide +kernel
  subst hsz
  have hD := hD0.self (sz := s.heap.size)
  generalize hAe : va_A ([(q, .inr (4, [.int mo, .ref el, .int 0]))]) s.heap.size = A at hD hZ ⊢
  have hA : ∀ q : Nat, s.heap.size ≤ q → A q := fun q h => by rw [← hAe]; exact Or.inr h
  have hS : va_S A s.heap s.heap [] := va_S.rf
  have hP : va_P D vwCl ([(q, .inr (4, [.int mo, .ref el, .int 0]))]) s.heap := hP
  have hD : va_D A ([(q, .inr (4, [.int mo, .ref el, .int 0]))]) := hD
  have hl := lv_entry ([.ref q]) (n := 4) (Nat.le_of_ble_eq_true rfl)
  rw [lg_entry_eq]
  generalize (lg_sl ([.ref q]) ++ List.replicate (4 - (lg_sl ([.ref q])).length) Slot.unset).toArray = ls at hl ⊢
  have hl : lv_has ls 4 [(0, .ref q)] := hl
  refine lv_aload_n hx hb dJx4a65c_clear_da8c8_0 rfl (lv_at hl 0 rfl) ?_
  refine lv_dup hx hb dJx4a65c_clear_da8c8_1 rfl ?_
  refine va_get (D := D) (ci := 4) (v := .int mo) (C := RJx4a65c) (T := TJx4a65c) (N := 3) hx hb hts hin_RJx4a65c hown hK hP 0 rfl rfl 0 (by decide) (hts (.fieldLink RJx4a65c 63 "java/util/ArrayList" "modCount" "I") (by decide +kernel)) (fun x hx9 => u_same (hts (.sameField "java/util/ArrayList" "java/util/AbstractList" "modCount" "I") (by decide +kernel)) x hx9) rfl dJx4a65c_clear_da8c8_2 ?_
  refine lv_iconst (v := 1) hx hb dJx4a65c_clear_da8c8_5 (by decide) ?_
  refine lv_iadd hx hb dJx4a65c_clear_da8c8_6 ?_
  refine lv_topi (fun y_1 ey_1 => ?_)
  obtain rfl : y_1 = (mo + 1) := ey_1
  refine va_put (D := D) (ci := 4) (v := .int (mo + 1)) (ty := .int) (C := RJx4a65c) (T := TJx4a65c) (N := 3) hx hb hts hin_RJx4a65c tyJx4a65c tyJx4a65c_ok nmJx4a65c hown hK hP hD hS 0 rfl rfl 0 (by decide) (hts (.fieldLink RJx4a65c 63 "java/util/ArrayList" "modCount" "I") (by decide +kernel)) (fun x hx9 => u_same (hts (.sameField "java/util/ArrayList" "java/util/AbstractList" "modCount" "I") (by decide +kernel)) x hx9) rfl (by decide +kernel) rfl rfl (Nat.le_of_ble_eq_true rfl) dJx4a65c_clear_da8c8_7 (fun H locs hP hD hS => ?_)
  have hP : va_P D vwCl ([(q, .inr (4, [.int (mo + 1), .ref el, .int 0]))]) H := hP
  have hD : va_D A ([(q, .inr (4, [.int (mo + 1), .ref el, .int 0]))]) := hD
  refine lv_aload_n hx hb dJx4a65c_clear_da8c8_10 rfl (lv_at hl 0 rfl) ?_
  refine va_get (D := D) (ci := 4) (v := .ref el) (C := RJx4a65c) (T := TJx4a65c) (N := 3) hx hb hts hin_RJx4a65c hown hK hP 0 rfl rfl 1 (by decide) (hts (.fieldLink RJx4a65c 9 "java/util/ArrayList" "elementData" "[Ljava/lang/Object;") (by decide +kernel)) (fun _ h9 => h9) rfl dJx4a65c_clear_da8c8_11 ?_
  refine lv_astore_n (lv' := [(1, .ref el), (0, .ref q)]) hx hb dJx4a65c_clear_da8c8_14 rfl hl (by decide) rfl (fun ls hl => ?_)
  refine lv_aload_n hx hb dJx4a65c_clear_da8c8_15 rfl (lv_at hl 1 rfl) ?_
  refine va_get (D := D) (ci := 4) (v := .int 0) (C := RJx4a65c) (T := TJx4a65c) (N := 3) hx hb hts hin_RJx4a65c hown hK hP 0 rfl rfl 2 (by decide) (hts (.fieldLink RJx4a65c 48 "java/util/ArrayList" "size" "I") (by decide +kernel)) (fun _ h9 => h9) rfl dJx4a65c_clear_da8c8_16 ?_
  refine lv_istore_n (lv' := [(2, .int 0), (1, .ref el), (0, .ref q)]) hx hb dJx4a65c_clear_da8c8_19 rfl hl (by decide) rfl (fun ls hl => ?_)
  refine lv_aload_n hx hb dJx4a65c_clear_da8c8_20 rfl (lv_at hl 2 rfl) ?_
  refine lv_iconst (v := 0) hx hb dJx4a65c_clear_da8c8_21 (by decide) ?_
  refine lv_dup_x1 hx hb dJx4a65c_clear_da8c8_22 rfl rfl ?_
  refine va_put (D := D) (ci := 4) (v := .int 0) (ty := .int) (C := RJx4a65c) (T := TJx4a65c) (N := 3) hx hb hts hin_RJx4a65c tyJx4a65c tyJx4a65c_ok nmJx4a65c hown hK hP hD hS 0 rfl rfl 2 (by decide) (hts (.fieldLink RJx4a65c 48 "java/util/ArrayList" "size" "I") (by decide +kernel)) (fun _ h9 => h9) rfl (by decide +kernel) rfl rfl (Nat.le_of_ble_eq_true rfl) dJx4a65c_clear_da8c8_23 (fun H locs hP hD hS => ?_)
  have hP : va_P D vwCl ([(q, .inr (4, [.int (mo + 1), .ref el, .int 0]))]) H := hP
  have hD : va_D A ([(q, .inr (4, [.int (mo + 1), .ref el, .int 0]))]) := hD
  refine lv_istore_n (lv' := [(3, .int 0), (2, .int 0), (1, .ref el), (0, .ref q)]) hx hb dJx4a65c_clear_da8c8_26 rfl hl (by decide) rfl (fun ls hl => ?_)
  refine lv_iload_n hx hb dJx4a65c_clear_da8c8_27 rfl (lv_at hl 0 rfl) ?_
  refine lv_iload_n hx hb dJx4a65c_clear_da8c8_28 rfl (lv_at hl 1 rfl) ?_
  refine lv_icmp_ge (tgt := 42) hx hb dJx4a65c_clear_da8c8_29 (by decide) (fun _ => ?_) (fun h_ => absurd (by decide) h_)
  refine W.widen (k := 0) (n := 0) (Nat.le_of_ble_eq_true rfl) (Nat.le_of_ble_eq_true rfl) ?_
  have hP9 := hP.sub (ws' := ([(q, .inr (4, [.int (mo + 1), .ref el, .int 0]))])) [0] rfl
  have hD9 := hD.sub (ws' := ([(q, .inr (4, [.int (mo + 1), .ref el, .int 0]))])) [0] (by decide) rfl
  have hK9 := hK.sub (tys' := []) [] rfl
  exact W.vret hx hb hr (fun t ht hW => ⟨⟨(), rfl, trivial, ⟨by rw [ht]; exact hP9, va_K.moved hW.alike hK9, hD9⟩⟩, hS.F ht⟩) hS.2.2 dJx4a65c_clear_da8c8_42 hlocks

set_option maxHeartbeats 4000000 in
set_option maxRecDepth 100000 in
theorem l_grow1 (l : Launch) (D : va_G) (de : Nat) (q : Nat) (mo : Int32) (sz : Nat) : Met l yJx4a65c_grow_92f84 wsJx4a65c_grow_92f84 ({ frames := 1, cells := 1, slots := 10, locals := 14 } : Room) (va_Pc [.ref q, .int 1] (PX de D ([]) ([(q, .inr (4, [.int mo, .ref de, .int 0]))]) sz)) (va_Qq (fun (r : Option Nat) (u : Nat × ClassId) => r = some u.1) (fun u t => PW D ([(u.2, .object "java/lang/Object")]) (va_A ([(q, .inr (4, [.int mo, .ref de, .int 0]))]) sz) ([(q, .inr (4, [.int mo, .ref u.1, .int 0])), (u.1, .inl (u.2, 10, .inr (.inr (.inr (.inr (fun _ => none))))))]) t) (va_A ([(q, .inr (4, [.int mo, .ref de, .int 0]))]) sz)) 1 10 (va_A ([(q, .inr (4, [.int mo, .ref de, .int 0]))]) sz) := by
  refine Met.ofW (cc := cJx4a65c_grow_92f84) (maxL := 4) (ret := (some (.array (.object "java/lang/Object")))) (by decide) rfl ?_
  intro p e s m args below meth c s₁ B hml hv
  obtain ⟨rfl, hsz, hP, hK, hD0, hTK, hZ⟩ := hv
  have hx := B.exec
  have hb := B.bytes
  have hr := B.returns
  have hts := atoms_spec (ws := wsJx4a65c_grow_92f84) B.pre
  have hown : s.vm.findClass RJx4a65c = some m.cls := findClass_of_methodNamed B.named
  have hlocks := B.notSynchronized
  have hin_RJx4a65c : ∀ w ∈ u_ws RJx4a65c TJx4a65c 3, w ∈ wsJx4a65c_grow_92f84 := by decide +kernel
  subst hsz
  have hD := hD0.self (sz := s.heap.size)
  generalize hAe : va_A ([(q, .inr (4, [.int mo, .ref de, .int 0]))]) s.heap.size = A at hD hZ ⊢
  have hA : ∀ q : Nat, s.heap.size ≤ q → A q := fun q h => by rw [← hAe]; exact Or.inr h
  have hS : va_S A s.heap s.heap [] := va_S.rf
  have hP : va_P D vwCl ([(q, .inr (4, [.int mo, .ref de, .int 0]))]) s.heap := hP
  have hD : va_D A ([(q, .inr (4, [.int mo, .ref de, .int 0]))]) := hD
  have hl := lv_entry ([.ref q, .int 1]) (n := 4) (Nat.le_of_ble_eq_true rfl)
  rw [lg_entry_eq]
  generalize (lg_sl ([.ref q, .int 1]) ++ List.replicate (4 - (lg_sl ([.ref q, .int 1])).length) Slot.unset).toArray = ls at hl ⊢
  have hl : lv_has ls 4 [(0, .ref q), (1, .int 1)] := hl
  refine lv_aload_n hx hb dJx4a65c_grow_92f84_0 rfl (lv_at hl 0 rfl) ?_
  refine va_get (D := D) (ci := 4) (v := .ref de) (C := RJx4a65c) (T := TJx4a65c) (N := 3) hx hb hts hin_RJx4a65c hown hK hP 0 rfl rfl 1 (by decide) (hts (.fieldLink RJx4a65c 9 "java/util/ArrayList" "elementData" "[Ljava/lang/Object;") (by decide +kernel)) (fun _ h9 => h9) rfl dJx4a65c_grow_92f84_1 ?_
  refine va_tlen hx hb hZ.2.2.2.1 hS (v := 0) (by decide) dJx4a65c_grow_92f84_4 ?_
  refine lv_istore_n (lv' := [(2, .int 0), (0, .ref q), (1, .int 1)]) hx hb dJx4a65c_grow_92f84_5 rfl hl (by decide) rfl (fun ls hl => ?_)
  refine lv_iload_n hx hb dJx4a65c_grow_92f84_6 rfl (lv_at hl 0 rfl) ?_
  refine lv_if_gt (tgt := 20) hx hb dJx4a65c_grow_92f84_7 (by decide) (fun h_ => absurd h_ (by decide)) (fun _ => ?_)
  refine lv_aload_n hx hb dJx4a65c_grow_92f84_10 rfl (lv_at hl 1 rfl) ?_
  refine va_get (D := D) (ci := 4) (v := .ref de) (C := RJx4a65c) (T := TJx4a65c) (N := 3) hx hb hts hin_RJx4a65c hown hK hP 0 rfl rfl 1 (by decide) (hts (.fieldLink RJx4a65c 9 "java/util/ArrayList" "elementData" "[Ljava/lang/Object;") (by decide +kernel)) (fun _ h9 => h9) rfl dJx4a65c_grow_92f84_11 ?_
  refine va_gets (v := .ref de) hx hb hZ.2.2.1 hS hown (hts (.fieldLink RJx4a65c 39 "java/util/ArrayList" "DEFAULTCAPACITY_EMPTY_ELEMENTDATA" "[Ljava/lang/Object;") (by decide +kernel)) (fun _ h9 => h9) dJx4a65c_grow_92f84_14 ?_
  refine lv_acmp_eq (rx := some de) (ry := some de) (tgt := 45) hx hb dJx4a65c_grow_92f84_17 (by decide) (fun _ => ?_) (fun h_ => absurd rfl h_)
  refine lv_aload_n hx hb dJx4a65c_grow_92f84_45 rfl (lv_at hl 1 rfl) ?_
  refine lv_bipush (v := 10) hx hb dJx4a65c_grow_92f84_46 (by decide) ?_
  refine lv_iload_n hx hb dJx4a65c_grow_92f84_48 rfl (lv_at hl 2 rfl) ?_
  refine va_mmax hx hb (by rw [hml]; exact hl.1.symm) hown (hts (.methodLink RJx4a65c 79 Lib.Math.max.name) (by decide +kernel)) (hts (.static Lib.Math.max.name) (by decide +kernel)) (hts (.initialized "java/lang/Math") (by decide +kernel)) (hts (.code Lib.Math.max.name Lib.Math.max.code 2 (some .int)) (by decide +kernel)) (Nat.le_of_ble_eq_true rfl) (Nat.le_of_ble_eq_true rfl) (Nat.le_of_ble_eq_true rfl) (Nat.le_of_ble_eq_true rfl) dJx4a65c_grow_92f84_49 ?_
  refine W.eq (g2 := F0 m 52 ls [.int 10, .ref q]) (by congr 2) ?_
  refine va_newq (C := "java/lang/Object") hx hb hown (hts (.classLink RJx4a65c 7 "java/lang/Object") (by decide +kernel)) (hTK.2.2.2.2.2.2.2.1 "java/lang/Object" (by decide +kernel)) hK hP hD hS hA (N' := 10) (by decide) (by decide) (by decide) (Nat.le_of_ble_eq_true rfl) (Nat.le_of_ble_eq_true rfl) dJx4a65c_grow_92f84_52 (fun q_1 cAq_1 H hK hP hD hS => ?_)
  have hP : va_P D vwCl ([(q, .inr (4, [.int mo, .ref de, .int 0])), (q_1, .inl (cAq_1, 10, .inr (.inr (.inr (.inr (fun _ => none))))))]) H := hP
  have hD : va_D A ([(q, .inr (4, [.int mo, .ref de, .int 0])), (q_1, .inl (cAq_1, 10, .inr (.inr (.inr (.inr (fun _ => none))))))]) := hD
  refine W.widen (k := 1) (n := 10) (Nat.le_of_ble_eq_true rfl) (Nat.le_of_ble_eq_true rfl) ?_
  refine lv_dup_x1 hx hb dJx4a65c_grow_92f84_55 rfl rfl ?_
  refine va_put (D := D) (ci := 4) (v := .ref q_1) (ty := (.array (.object "java/lang/Object"))) (C := RJx4a65c) (T := TJx4a65c) (N := 3) hx hb hts hin_RJx4a65c tyJx4a65c tyJx4a65c_ok nmJx4a65c hown hK hP hD hS 0 rfl rfl 1 (by decide) (hts (.fieldLink RJx4a65c 9 "java/util/ArrayList" "elementData" "[Ljava/lang/Object;") (by decide +kernel)) (fun _ h9 => h9) rfl (by decide +kernel) rfl rfl (Nat.le_of_ble_eq_true rfl) dJx4a65c_grow_92f84_56 (fun H locs hP hD hS => ?_)
  have hP : va_P D vwCl ([(q, .inr (4, [.int mo, .ref q_1, .int 0])), (q_1, .inl (cAq_1, 10, .inr (.inr (.inr (.inr (fun _ => none))))))]) H := hP
  have hD : va_D A ([(q, .inr (4, [.int mo, .ref q_1, .int 0])), (q_1, .inl (cAq_1, 10, .inr (.inr (.inr (.inr (fun _ => none))))))]) := hD
  refine W.widen (k := 1) (n := 10) (Nat.le_of_ble_eq_true rfl) (Nat.le_of_ble_eq_true rfl) ?_
  have hP9 := hP.sub (ws' := ([(q, .inr (4, [.int mo, .ref q_1, .int 0])), (q_1, .inl (cAq_1, 10, .inr (.inr (.inr (.inr (fun _ => none))))))])) [0, 1] rfl
  have hD9 := hD.sub (ws' := ([(q, .inr (4, [.int mo, .ref q_1, .int 0])), (q_1, .inl (cAq_1, 10, .inr (.inr (.inr (.inr (fun _ => none))))))])) [0, 1] (by decide) rfl
  have hK9 := hK.sub (tys' := [(cAq_1, .object "java/lang/Object")]) [0] rfl
  exact W.aret (v := .ref q_1) hx hb hr (Or.inr ⟨_, rfl⟩) (Or.inr ⟨_, rfl⟩) (fun t ht hW => ⟨⟨some q_1, (q_1, cAq_1), rfl, rfl, ⟨by rw [ht]; exact hP9, va_K.moved hW.alike hK9, hD9⟩⟩, hS.F ht⟩) hS.2.2 dJx4a65c_grow_92f84_59 hlocks

set_option maxHeartbeats 4000000 in
set_option maxRecDepth 100000 in
theorem l_grow0 (l : Launch) (D : va_G) (de : Nat) (q : Nat) (mo : Int32) (sz : Nat) : Met l yJx4a65c_grow_d5877 wsJx4a65c_grow_d5877 ({ frames := 2, cells := 1, slots := 10, locals := 37 } : Room) (va_Pc [.ref q] (PX de D ([]) ([(q, .inr (4, [.int mo, .ref de, .int 0]))]) sz)) (va_Qq (fun (r : Option Nat) (u : Nat × ClassId) => r = some u.1) (fun u t => PW D ([(u.2, .object "java/lang/Object")]) (va_A ([(q, .inr (4, [.int mo, .ref de, .int 0]))]) sz) ([(q, .inr (4, [.int mo, .ref u.1, .int 0])), (u.1, .inl (u.2, 10, .inr (.inr (.inr (.inr (fun _ => none))))))]) t) (va_A ([(q, .inr (4, [.int mo, .ref de, .int 0]))]) sz)) 1 10 (va_A ([(q, .inr (4, [.int mo, .ref de, .int 0]))]) sz) := by
  refine Met.ofW (cc := cJx4a65c_grow_d5877) (maxL := 1) (ret := (some (.array (.object "java/lang/Object")))) (by decide) rfl ?_
  intro p e s m args below meth c s₁ B hml hv
  obtain ⟨rfl, hsz, hP, hK, hD0, hTK, hZ⟩ := hv
  have hx := B.exec
  have hb := B.bytes
  have hr := B.returns
  have hts := atoms_spec (ws := wsJx4a65c_grow_d5877) B.pre
  have hown : s.vm.findClass RJx4a65c = some m.cls := findClass_of_methodNamed B.named
  have hlocks := B.notSynchronized
  have hin_RJx4a65c : ∀ w ∈ u_ws RJx4a65c TJx4a65c 3, w ∈ wsJx4a65c_grow_d5877 := by decide +kernel
  subst hsz
  have hD := hD0.self (sz := s.heap.size)
  generalize hAe : va_A ([(q, .inr (4, [.int mo, .ref de, .int 0]))]) s.heap.size = A at hD hZ ⊢
  have hA : ∀ q : Nat, s.heap.size ≤ q → A q := fun q h => by rw [← hAe]; exact Or.inr h
  have hS : va_S A s.heap s.heap [] := va_S.rf
  have hP : va_P D vwCl ([(q, .inr (4, [.int mo, .ref de, .int 0]))]) s.heap := hP
  have hD : va_D A ([(q, .inr (4, [.int mo, .ref de, .int 0]))]) := hD
  have hl := lv_entry ([.ref q]) (n := 1) (Nat.le_of_ble_eq_true rfl)
  rw [lg_entry_eq]
  generalize (lg_sl ([.ref q]) ++ List.replicate (1 - (lg_sl ([.ref q])).length) Slot.unset).toArray = ls at hl ⊢
  have hl : lv_has ls 1 [(0, .ref q)] := hl
  refine lv_aload_n hx hb dJx4a65c_grow_d5877_0 rfl (lv_at hl 0 rfl) ?_
  refine lv_aload_n hx hb dJx4a65c_grow_d5877_1 rfl (lv_at hl 0 rfl) ?_
  refine va_get (D := D) (ci := 4) (v := .int 0) (C := RJx4a65c) (T := TJx4a65c) (N := 3) hx hb hts hin_RJx4a65c hown hK hP 0 rfl rfl 2 (by decide) (hts (.fieldLink RJx4a65c 48 "java/util/ArrayList" "size" "I") (by decide +kernel)) (fun _ h9 => h9) rfl dJx4a65c_grow_d5877_2 ?_
  refine lv_iconst (v := 1) hx hb dJx4a65c_grow_d5877_5 (by decide) ?_
  refine lv_iadd hx hb dJx4a65c_grow_d5877_6 ?_
  refine lv_topi (fun y_ ey_ => ?_)
  obtain rfl : y_ = 1 := ey_.trans (by decide)
  refine kx_q (wc := [(q, .inr (4, [.int mo, .ref de, .int 0]))]) (wr := []) hP hD hS hA [0] [] rfl rfl (by decide) (by decide) (va_runV (As := [.int 1]) (rest := []) ⟨hx, hb, hml, hown, hts⟩ (l_grow1 l D de q mo s.heap.size) (cwV 1 hts gJx4a65c_grow_d5877_Jx4a65c_grow_92f84 rfl rfl rfl (by decide +kernel) ⟨Nat.le_of_ble_eq_true rfl, Nat.le_of_ble_eq_true rfl⟩) ⟨px_blind, (va_recv hK hP (ci := 4) (q0 := 0) rfl rfl), (px_pre hP hD hK hS hA hTK hZ [0] rfl rfl (by decide) [] rfl)⟩ rfl rfl hl.1 rfl (lv_room (Nat.le_of_ble_eq_true rfl)) dJx4a65c_grow_d5877_7 ⟨(Nat.le_of_ble_eq_true rfl), (Nat.le_of_ble_eq_true rfl)⟩) (fun r_1 u H locs hw hP hD hK1 hS => ?_)
  obtain ⟨qa_2, ca_3⟩ := u
  have hK := hK.app hK1
  have hK : va_K D vwCl [(ca_3, .object "java/lang/Object")] s := hK
  have hP : va_P D vwCl ([(q, .inr (4, [.int mo, .ref qa_2, .int 0])), (qa_2, .inl (ca_3, 10, .inr (.inr (.inr (.inr (fun _ => none))))))]) H := hP
  have hD : va_D A ([(q, .inr (4, [.int mo, .ref qa_2, .int 0])), (qa_2, .inl (ca_3, 10, .inr (.inr (.inr (.inr (fun _ => none))))))]) := hD
  obtain rfl : r_1 = some qa_2 := hw
  refine W.widen (k := 1) (n := 10) (Nat.le_of_ble_eq_true rfl) (Nat.le_of_ble_eq_true rfl) ?_
  refine W.widen (k := 1) (n := 10) (Nat.le_of_ble_eq_true rfl) (Nat.le_of_ble_eq_true rfl) ?_
  have hP9 := hP.sub (ws' := ([(q, .inr (4, [.int mo, .ref qa_2, .int 0])), (qa_2, .inl (ca_3, 10, .inr (.inr (.inr (.inr (fun _ => none))))))])) [0, 1] rfl
  have hD9 := hD.sub (ws' := ([(q, .inr (4, [.int mo, .ref qa_2, .int 0])), (qa_2, .inl (ca_3, 10, .inr (.inr (.inr (.inr (fun _ => none))))))])) [0, 1] (by decide) rfl
  have hK9 := hK.sub (tys' := [(ca_3, .object "java/lang/Object")]) [0] rfl
  exact W.aret (v := .ref qa_2) hx hb hr (Or.inr ⟨_, rfl⟩) (Or.inr ⟨_, rfl⟩) (fun t ht hW => ⟨⟨some qa_2, (qa_2, ca_3), rfl, rfl, ⟨by rw [ht]; exact hP9, va_K.moved hW.alike hK9, hD9⟩⟩, hS.F ht⟩) hS.2.2 dJx4a65c_grow_d5877_10 hlocks

set_option maxHeartbeats 4000000 in
set_option maxRecDepth 100000 in
theorem l_add3 (l : Launch) (D : va_G) (de : Nat) (q x : Nat) (mo : Int32) (tc : List Value) (sz : Nat) : Met l yJx4a65c_add_72be8 wsJx4a65c_add_72be8 ({ frames := 3, cells := 1, slots := 10, locals := 57 } : Room) (va_Pc [.ref q, .ref x, .ref de, .int 0] (PX de D ([]) ([(q, .inr (4, [.int mo, .ref de, .int 0])), (x, .inr (17, tc))]) sz)) (va_Qv (fun (u : Unit) => True) (fun u t => PW D ([]) (va_A ([(q, .inr (4, [.int mo, .ref de, .int 0])), (x, .inr (17, tc))]) sz) ([]) t) (va_A ([(q, .inr (4, [.int mo, .ref de, .int 0])), (x, .inr (17, tc))]) sz)) 1 10 (va_A ([(q, .inr (4, [.int mo, .ref de, .int 0])), (x, .inr (17, tc))]) sz) := by
  refine Met.ofW (cc := cJx4a65c_add_72be8) (maxL := 4) (ret := none) (by decide) rfl ?_
  intro p e s m args below meth c s₁ B hml hv
  obtain ⟨rfl, hsz, hP, hK, hD0, hTK, hZ⟩ := hv
  have hx := B.exec
  have hb := B.bytes
  have hr := B.returns
  have hts := atoms_spec (ws := wsJx4a65c_add_72be8) B.pre
  have hown : s.vm.findClass RJx4a65c = some m.cls := findClass_of_methodNamed B.named
  have hlocks := B.notSynchronized
  have hin_RJx4a65c : ∀ w ∈ u_ws RJx4a65c TJx4a65c 3, w ∈ wsJx4a65c_add_72be8 := by decide +kernel
  subst hsz
  have hD := hD0.self (sz := s.heap.size)
  generalize hAe : va_A ([(q, .inr (4, [.int mo, .ref de, .int 0])), (x, .inr (17, tc))]) s.heap.size = A at hD hZ ⊢
  have hA : ∀ q : Nat, s.heap.size ≤ q → A q := fun q h => by rw [← hAe]; exact Or.inr h
  have hS : va_S A s.heap s.heap [] := va_S.rf
  have hP : va_P D vwCl ([(q, .inr (4, [.int mo, .ref de, .int 0])), (x, .inr (17, tc))]) s.heap := hP
  have hD : va_D A ([(q, .inr (4, [.int mo, .ref de, .int 0])), (x, .inr (17, tc))]) := hD
  have hl := lv_entry ([.ref q, .ref x, .ref de, .int 0]) (n := 4) (Nat.le_of_ble_eq_true rfl)
  rw [lg_entry_eq]
  generalize (lg_sl ([.ref q, .ref x, .ref de, .int 0]) ++ List.replicate (4 - (lg_sl ([.ref q, .ref x, .ref de, .int 0])).length) Slot.unset).toArray = ls at hl ⊢
  have hl : lv_has ls 4 [(0, .ref q), (1, .ref x), (2, .ref de), (3, .int 0)] := hl
  refine lv_iload_n hx hb dJx4a65c_add_72be8_0 rfl (lv_at hl 3 rfl) ?_
  refine lv_aload_n hx hb dJx4a65c_add_72be8_1 rfl (lv_at hl 2 rfl) ?_
  refine va_tlen hx hb hZ.2.2.2.1 hS (v := 0) (by decide) dJx4a65c_add_72be8_2 ?_
  refine lv_icmp_ne (tgt := 11) hx hb dJx4a65c_add_72be8_3 (by decide) (fun h_ => absurd (by decide) h_) (fun _ => ?_)
  refine lv_aload_n hx hb dJx4a65c_add_72be8_6 rfl (lv_at hl 0 rfl) ?_
  refine kx_q (wc := [(q, .inr (4, [.int mo, .ref de, .int 0]))]) (wr := [(x, .inr (17, tc))]) hP hD hS hA [0] [1] rfl rfl (by decide) (by decide) (va_runV (As := []) (rest := []) ⟨hx, hb, hml, hown, hts⟩ (l_grow0 l D de q mo s.heap.size) (cwV 0 hts gJx4a65c_add_72be8_Jx4a65c_grow_d5877 rfl rfl rfl (by decide +kernel) ⟨Nat.le_of_ble_eq_true rfl, Nat.le_of_ble_eq_true rfl⟩) ⟨px_blind, (va_recv hK hP (ci := 4) (q0 := 0) rfl rfl), (px_pre hP hD hK hS hA hTK hZ [0] rfl rfl (by decide) [] rfl)⟩ rfl rfl hl.1 rfl (lv_room (Nat.le_of_ble_eq_true rfl)) dJx4a65c_add_72be8_7 ⟨(Nat.le_of_ble_eq_true rfl), (Nat.le_of_ble_eq_true rfl)⟩) (fun r_1 u H locs hw hP hD hK1 hS => ?_)
  obtain ⟨qa_2, ca_3⟩ := u
  have hK := hK.app hK1
  have hK : va_K D vwCl [(ca_3, .object "java/lang/Object")] s := hK
  have hP : va_P D vwCl ([(x, .inr (17, tc)), (q, .inr (4, [.int mo, .ref qa_2, .int 0])), (qa_2, .inl (ca_3, 10, .inr (.inr (.inr (.inr (fun _ => none))))))]) H := hP
  have hD : va_D A ([(x, .inr (17, tc)), (q, .inr (4, [.int mo, .ref qa_2, .int 0])), (qa_2, .inl (ca_3, 10, .inr (.inr (.inr (.inr (fun _ => none))))))]) := hD
  obtain rfl : r_1 = some qa_2 := hw
  refine W.widen (k := 1) (n := 10) (Nat.le_of_ble_eq_true rfl) (Nat.le_of_ble_eq_true rfl) ?_
  refine lv_astore_n (lv' := [(2, .ref qa_2), (0, .ref q), (1, .ref x), (3, .int 0)]) hx hb dJx4a65c_add_72be8_10 rfl hl (by decide) rfl (fun ls hl => ?_)
  refine lv_aload_n hx hb dJx4a65c_add_72be8_11 rfl (lv_at hl 0 rfl) ?_
  refine lv_iload_n hx hb dJx4a65c_add_72be8_12 rfl (lv_at hl 3 rfl) ?_
  refine lv_aload_n hx hb dJx4a65c_add_72be8_13 rfl (lv_at hl 2 rfl) ?_
  refine va_astqO (r := (RX12, TX12, 7)) hx hb hK hP hD hS 2 0 0 17 rfl rfl (hTK.2.2.2.2.2.2.2.2.2.1) rfl rfl (by unfold vp_in; decide) dJx4a65c_add_72be8_14 (fun H locs hP hD hS => ?_)
  have hP : va_P D vwCl ([(x, .inr (17, tc)), (q, .inr (4, [.int mo, .ref qa_2, .int 0])), (qa_2, .inl (ca_3, 10, .inr (.inr (.inr (.inr (va_up (fun _ => none) 0 (some x)))))))]) H := hP
  have hD : va_D A ([(x, .inr (17, tc)), (q, .inr (4, [.int mo, .ref qa_2, .int 0])), (qa_2, .inl (ca_3, 10, .inr (.inr (.inr (.inr (va_up (fun _ => none) 0 (some x)))))))]) := hD
  refine lv_aload_n hx hb dJx4a65c_add_72be8_15 rfl (lv_at hl 1 rfl) ?_
  refine lv_iload_n hx hb dJx4a65c_add_72be8_16 rfl (lv_at hl 3 rfl) ?_
  refine lv_iconst (v := 1) hx hb dJx4a65c_add_72be8_17 (by decide) ?_
  refine lv_iadd hx hb dJx4a65c_add_72be8_18 ?_
  refine lv_topi (fun y_ ey_ => ?_)
  obtain rfl : y_ = 1 := ey_.trans (by decide)
  refine va_put (D := D) (ci := 4) (v := .int 1) (ty := .int) (C := RJx4a65c) (T := TJx4a65c) (N := 3) hx hb hts hin_RJx4a65c tyJx4a65c tyJx4a65c_ok nmJx4a65c hown hK hP hD hS 1 rfl rfl 2 (by decide) (hts (.fieldLink RJx4a65c 48 "java/util/ArrayList" "size" "I") (by decide +kernel)) (fun _ h9 => h9) rfl (by decide +kernel) rfl rfl (Nat.le_of_ble_eq_true rfl) dJx4a65c_add_72be8_19 (fun H locs hP hD hS => ?_)
  have hP : va_P D vwCl ([(x, .inr (17, tc)), (q, .inr (4, [.int mo, .ref qa_2, .int 1])), (qa_2, .inl (ca_3, 10, .inr (.inr (.inr (.inr (va_up (fun _ => none) 0 (some x)))))))]) H := hP
  have hD : va_D A ([(x, .inr (17, tc)), (q, .inr (4, [.int mo, .ref qa_2, .int 1])), (qa_2, .inl (ca_3, 10, .inr (.inr (.inr (.inr (va_up (fun _ => none) 0 (some x)))))))]) := hD
  refine W.widen (k := 1) (n := 10) (Nat.le_of_ble_eq_true rfl) (Nat.le_of_ble_eq_true rfl) ?_
  have hP9 := hP.sub (ws' := ([])) [] rfl
  have hD9 := hD.sub (ws' := ([])) [] (by decide) rfl
  have hK9 := hK.sub (tys' := []) [] rfl
  exact W.vret hx hb hr (fun t ht hW => ⟨⟨(), rfl, trivial, ⟨by rw [ht]; exact hP9, va_K.moved hW.alike hK9, hD9⟩⟩, hS.F ht⟩) hS.2.2 dJx4a65c_add_72be8_22 hlocks

set_option maxHeartbeats 4000000 in
set_option maxRecDepth 100000 in
theorem l_add (l : Launch) (D : va_G) (de : Nat) (q x : Nat) (mo : Int32) (tc : List Value) (sz : Nat) : Met l yJx4a65c_add_9ea2d wsJx4a65c_add_9ea2d ({ frames := 4, cells := 1, slots := 10, locals := 80 } : Room) (va_Pc [.ref q, .ref x] (PX de D ([]) ([(q, .inr (4, [.int mo, .ref de, .int 0])), (x, .inr (17, tc))]) sz)) (va_Qi (fun (r : Int32) (u : Unit) => r = 1) (fun u t => PW D ([]) (va_A ([(q, .inr (4, [.int mo, .ref de, .int 0])), (x, .inr (17, tc))]) sz) ([]) t) (va_A ([(q, .inr (4, [.int mo, .ref de, .int 0])), (x, .inr (17, tc))]) sz)) 1 10 (va_A ([(q, .inr (4, [.int mo, .ref de, .int 0])), (x, .inr (17, tc))]) sz) := by
  refine Met.ofW (cc := cJx4a65c_add_9ea2d) (maxL := 2) (ret := (some .boolean)) (by decide) rfl ?_
  intro p e s m args below meth c s₁ B hml hv
  obtain ⟨rfl, hsz, hP, hK, hD0, hTK, hZ⟩ := hv
  have hx := B.exec
  have hb := B.bytes
  have hr := B.returns
  have hts := atoms_spec (ws := wsJx4a65c_add_9ea2d) B.pre
  have hown : s.vm.findClass RJx4a65c = some m.cls := findClass_of_methodNamed B.named
  have hlocks := B.notSynchronized
  have hin_RJx4a65c : ∀ w ∈ u_ws RJx4a65c TJx4a65c 3, w ∈ wsJx4a65c_add_9ea2d := by decide +kernel
  subst hsz
  have hD := hD0.self (sz := s.heap.size)
  generalize hAe : va_A ([(q, .inr (4, [.int mo, .ref de, .int 0])), (x, .inr (17, tc))]) s.heap.size = A at hD hZ ⊢
  have hA : ∀ q : Nat, s.heap.size ≤ q → A q := fun q h => by rw [← hAe]; exact Or.inr h
  have hS : va_S A s.heap s.heap [] := va_S.rf
  have hP : va_P D vwCl ([(q, .inr (4, [.int mo, .ref de, .int 0])), (x, .inr (17, tc))]) s.heap := hP
  have hD : va_D A ([(q, .inr (4, [.int mo, .ref de, .int 0])), (x, .inr (17, tc))]) := hD
  have hl := lv_entry ([.ref q, .ref x]) (n := 2) (Nat.le_of_ble_eq_true rfl)
  rw [lg_entry_eq]
  generalize (lg_sl ([.ref q, .ref x]) ++ List.replicate (2 - (lg_sl ([.ref q, .ref x])).length) Slot.unset).toArray = ls at hl ⊢
  have hl : lv_has ls 2 [(0, .ref q), (1, .ref x)] := hl
  refine lv_aload_n hx hb dJx4a65c_add_9ea2d_0 rfl (lv_at hl 0 rfl) ?_
  refine lv_dup hx hb dJx4a65c_add_9ea2d_1 rfl ?_
  refine va_get (D := D) (ci := 4) (v := .int mo) (C := RJx4a65c) (T := TJx4a65c) (N := 3) hx hb hts hin_RJx4a65c hown hK hP 0 rfl rfl 0 (by decide) (hts (.fieldLink RJx4a65c 63 "java/util/ArrayList" "modCount" "I") (by decide +kernel)) (fun x hx9 => u_same (hts (.sameField "java/util/ArrayList" "java/util/AbstractList" "modCount" "I") (by decide +kernel)) x hx9) rfl dJx4a65c_add_9ea2d_2 ?_
  refine lv_iconst (v := 1) hx hb dJx4a65c_add_9ea2d_5 (by decide) ?_
  refine lv_iadd hx hb dJx4a65c_add_9ea2d_6 ?_
  refine lv_topi (fun y_1 ey_1 => ?_)
  obtain rfl : y_1 = (mo + 1) := ey_1
  refine va_put (D := D) (ci := 4) (v := .int (mo + 1)) (ty := .int) (C := RJx4a65c) (T := TJx4a65c) (N := 3) hx hb hts hin_RJx4a65c tyJx4a65c tyJx4a65c_ok nmJx4a65c hown hK hP hD hS 0 rfl rfl 0 (by decide) (hts (.fieldLink RJx4a65c 63 "java/util/ArrayList" "modCount" "I") (by decide +kernel)) (fun x hx9 => u_same (hts (.sameField "java/util/ArrayList" "java/util/AbstractList" "modCount" "I") (by decide +kernel)) x hx9) rfl (by decide +kernel) rfl rfl (Nat.le_of_ble_eq_true rfl) dJx4a65c_add_9ea2d_7 (fun H locs hP hD hS => ?_)
  have hP : va_P D vwCl ([(q, .inr (4, [.int (mo + 1), .ref de, .int 0])), (x, .inr (17, tc))]) H := hP
  have hD : va_D A ([(q, .inr (4, [.int (mo + 1), .ref de, .int 0])), (x, .inr (17, tc))]) := hD
  refine lv_aload_n hx hb dJx4a65c_add_9ea2d_10 rfl (lv_at hl 0 rfl) ?_
  refine lv_aload_n hx hb dJx4a65c_add_9ea2d_11 rfl (lv_at hl 1 rfl) ?_
  refine lv_aload_n hx hb dJx4a65c_add_9ea2d_12 rfl (lv_at hl 0 rfl) ?_
  refine va_get (D := D) (ci := 4) (v := .ref de) (C := RJx4a65c) (T := TJx4a65c) (N := 3) hx hb hts hin_RJx4a65c hown hK hP 0 rfl rfl 1 (by decide) (hts (.fieldLink RJx4a65c 9 "java/util/ArrayList" "elementData" "[Ljava/lang/Object;") (by decide +kernel)) (fun _ h9 => h9) rfl dJx4a65c_add_9ea2d_13 ?_
  refine lv_aload_n hx hb dJx4a65c_add_9ea2d_16 rfl (lv_at hl 0 rfl) ?_
  refine va_get (D := D) (ci := 4) (v := .int 0) (C := RJx4a65c) (T := TJx4a65c) (N := 3) hx hb hts hin_RJx4a65c hown hK hP 0 rfl rfl 2 (by decide) (hts (.fieldLink RJx4a65c 48 "java/util/ArrayList" "size" "I") (by decide +kernel)) (fun _ h9 => h9) rfl dJx4a65c_add_9ea2d_17 ?_
  refine kx_v (wc := [(q, .inr (4, [.int (mo + 1), .ref de, .int 0])), (x, .inr (17, tc))]) (wr := []) hP hD hS hA [0, 1] [] rfl rfl (by decide) (by decide) (va_runV (As := [.ref x, .ref de, .int 0]) (rest := []) ⟨hx, hb, hml, hown, hts⟩ (l_add3 l D de q x (mo + 1) tc H.size) (cwV 3 hts gJx4a65c_add_9ea2d_Jx4a65c_add_72be8 rfl rfl rfl (by decide +kernel) ⟨Nat.le_of_ble_eq_true rfl, Nat.le_of_ble_eq_true rfl⟩) ⟨px_blind, (va_recv hK hP (ci := 4) (q0 := 0) rfl rfl), (px_pre hP hD hK hS hA hTK hZ [0, 1] rfl rfl (by decide) [] rfl)⟩ rfl rfl hl.1 rfl (lv_room (Nat.le_of_ble_eq_true rfl)) dJx4a65c_add_9ea2d_20 ⟨(Nat.le_of_ble_eq_true rfl), (Nat.le_of_ble_eq_true rfl)⟩) (fun u H locs hw hP hD hK1 hS => ?_)
  have hP : va_P D vwCl ([]) H := hP
  have hD : va_D A ([]) := hD
  refine W.widen (k := 1) (n := 10) (Nat.le_of_ble_eq_true rfl) (Nat.le_of_ble_eq_true rfl) ?_
  refine lv_iconst (v := 1) hx hb dJx4a65c_add_9ea2d_23 (by decide) ?_
  refine W.widen (k := 1) (n := 10) (Nat.le_of_ble_eq_true rfl) (Nat.le_of_ble_eq_true rfl) ?_
  have hP9 := hP.sub (ws' := ([])) [] rfl
  have hD9 := hD.sub (ws' := ([])) [] (by decide) rfl
  have hK9 := hK.sub (tys' := []) [] rfl
  exact W.zret (v := 1) hx hb hr (by decide) (fun t ht hW => ⟨⟨1, (), rfl, rfl, ⟨by rw [ht]; exact hP9, va_K.moved hW.alike hK9, hD9⟩⟩, hS.F ht⟩) hS.2.2 dJx4a65c_add_9ea2d_24 hlocks

set_option maxHeartbeats 4000000 in
set_option maxRecDepth 100000 in
theorem c_crease (l : Launch) (D : va_G) (de : Nat) (q : Nat) (p0 p1 p2 p3 p4 p5 : Int32) (sz : Nat) : Met l yX12_init wsX12_init ({ frames := 1, cells := 0, slots := 0, locals := 12 } : Room) (va_Pc [.ref q, .null, .int p0, .int p1, .int p2, .int p3, .int p4, .int p5] (PX de D ([]) ([(q, .inr (17, [.null, .int 0, .int 0, .int 0, .int 0, .int 0, .int 0]))]) sz)) (va_Qv (fun (u : Unit) => True) (fun u t => PW D ([]) (va_A ([(q, .inr (17, [.null, .int 0, .int 0, .int 0, .int 0, .int 0, .int 0]))]) sz) ([(q, .inr (17, [.null, .int p0, .int p1, .int p2, .int p3, .int p4, .int p5]))]) t) (va_A ([(q, .inr (17, [.null, .int 0, .int 0, .int 0, .int 0, .int 0, .int 0]))]) sz)) 0 0 (va_A ([(q, .inr (17, [.null, .int 0, .int 0, .int 0, .int 0, .int 0, .int 0]))]) sz) := by
  refine Met.ofW (cc := cX12_init) (maxL := 8) (ret := none) (by decide) rfl ?_
  intro p e s m args below meth c s₁ B hml hv
  obtain ⟨rfl, hsz, hP, hK, hD0, hTK, hZ⟩ := hv
  have hx := B.exec
  have hb := B.bytes
  have hr := B.returns
  have hts := atoms_spec (ws := wsX12_init) B.pre
  have hown : s.vm.findClass RX12 = some m.cls := findClass_of_methodNamed B.named
  have hlocks := B.notSynchronized
  have hin2 : meth.name = "<init>" := (name_of_methodNamed B.named B.method).1
  have hin_RX12 : ∀ w ∈ u_ws RX12 TX12 7, w ∈ wsX12_init := by decide +kernel
  subst hsz
  have hD := hD0.self (sz := s.heap.size)
  generalize hAe : va_A ([(q, .inr (17, [.null, .int 0, .int 0, .int 0, .int 0, .int 0, .int 0]))]) s.heap.size = A at hD hZ ⊢
  have hA : ∀ q : Nat, s.heap.size ≤ q → A q := fun q h => by rw [← hAe]; exact Or.inr h
  have hS : va_S A s.heap s.heap [] := va_S.rf
  have hP : va_P D vwCl ([(q, .inr (17, [.null, .int 0, .int 0, .int 0, .int 0, .int 0, .int 0]))]) s.heap := hP
  have hD : va_D A ([(q, .inr (17, [.null, .int 0, .int 0, .int 0, .int 0, .int 0, .int 0]))]) := hD
  have hl := lv_entry ([.ref q, .null, .int p0, .int p1, .int p2, .int p3, .int p4, .int p5]) (n := 8) (Nat.le_of_ble_eq_true rfl)
  rw [lg_entry_eq]
  generalize (lg_sl ([.ref q, .null, .int p0, .int p1, .int p2, .int p3, .int p4, .int p5]) ++ List.replicate (8 - (lg_sl ([.ref q, .null, .int p0, .int p1, .int p2, .int p3, .int p4, .int p5])).length) Slot.unset).toArray = ls at hl ⊢
  have hl : lv_has ls 8 [(0, .ref q), (1, .null), (2, .int p0), (3, .int p1), (4, .int p2), (5, .int p3), (6, .int p4), (7, .int p5)] := hl
  refine lv_aload_n hx hb dX12_init_0 rfl (lv_at hl 0 rfl) ?_
  refine W.objInit hx hb hown (hts (.methodLink RX12 1 objectInit) (by decide +kernel)) (hts (.instanceMethod objectInit) (by decide +kernel)) (hts (.code objectInit ⟨#[0xb1]⟩ 1 none) (by decide +kernel)) rfl (by rw [hml]; exact hl.1) rfl dX12_init_1 (Nat.le_of_ble_eq_true rfl) (Nat.le_of_ble_eq_true rfl) ?_
  refine W.eq (g2 := F0 m 4 ls []) rfl ?_
  refine lv_aload_n hx hb dX12_init_4 rfl (lv_at hl 0 rfl) ?_
  refine lv_aload_nN hx hb dX12_init_5 rfl (lv_at hl 1 rfl) ?_
  refine va_putF (D := D) (ci := 17) (v := .null) (ty := (.object "PopupwrightModel$Fold")) (C := RX12) (T := TX12) (N := 7) hx hb hts hin_RX12 tyX12 tyX12_ok nmX12 hown hK hP hD hS 0 rfl rfl 0 (by decide) (hts (.fieldLink RX12 7 "PopupwrightModel$Crease" "maker" "LPopupwrightModel$Fold;") (by decide +kernel)) (fun _ h9 => h9) rfl hin2 rfl (by decide +kernel) rfl rfl (Nat.le_of_ble_eq_true rfl) dX12_init_6 (fun H locs hP hD hS => ?_)
  have hP : va_P D vwCl ([(q, .inr (17, [.null, .int 0, .int 0, .int 0, .int 0, .int 0, .int 0]))]) H := hP
  have hD : va_D A ([(q, .inr (17, [.null, .int 0, .int 0, .int 0, .int 0, .int 0, .int 0]))]) := hD
  refine lv_aload_n hx hb dX12_init_9 rfl (lv_at hl 0 rfl) ?_
  refine lv_iload_n hx hb dX12_init_10 rfl (lv_at hl 2 rfl) ?_
  refine va_putF (D := D) (ci := 17) (v := .int p0) (ty := .int) (C := RX12) (T := TX12) (N := 7) hx hb hts hin_RX12 tyX12 tyX12_ok nmX12 hown hK hP hD hS 0 rfl rfl 1 (by decide) (hts (.fieldLink RX12 13 "PopupwrightModel$Crease" "i" "I") (by decide +kernel)) (fun _ h9 => h9) rfl hin2 rfl (by decide +kernel) rfl rfl (Nat.le_of_ble_eq_true rfl) dX12_init_11 (fun H locs hP hD hS => ?_)
  have hP : va_P D vwCl ([(q, .inr (17, [.null, .int p0, .int 0, .int 0, .int 0, .int 0, .int 0]))]) H := hP
  have hD : va_D A ([(q, .inr (17, [.null, .int p0, .int 0, .int 0, .int 0, .int 0, .int 0]))]) := hD
  refine lv_aload_n hx hb dX12_init_14 rfl (lv_at hl 0 rfl) ?_
  refine lv_iload_n hx hb dX12_init_15 rfl (lv_at hl 3 rfl) ?_
  refine va_putF (D := D) (ci := 17) (v := .int p1) (ty := .int) (C := RX12) (T := TX12) (N := 7) hx hb hts hin_RX12 tyX12 tyX12_ok nmX12 hown hK hP hD hS 0 rfl rfl 2 (by decide) (hts (.fieldLink RX12 17 "PopupwrightModel$Crease" "j" "I") (by decide +kernel)) (fun _ h9 => h9) rfl hin2 rfl (by decide +kernel) rfl rfl (Nat.le_of_ble_eq_true rfl) dX12_init_16 (fun H locs hP hD hS => ?_)
  have hP : va_P D vwCl ([(q, .inr (17, [.null, .int p0, .int p1, .int 0, .int 0, .int 0, .int 0]))]) H := hP
  have hD : va_D A ([(q, .inr (17, [.null, .int p0, .int p1, .int 0, .int 0, .int 0, .int 0]))]) := hD
  refine lv_aload_n hx hb dX12_init_19 rfl (lv_at hl 0 rfl) ?_
  refine lv_iload hx hb dX12_init_20 (lv_at hl 4 rfl) ?_
  refine va_putF (D := D) (ci := 17) (v := .int p2) (ty := .int) (C := RX12) (T := TX12) (N := 7) hx hb hts hin_RX12 tyX12 tyX12_ok nmX12 hown hK hP hD hS 0 rfl rfl 3 (by decide) (hts (.fieldLink RX12 20 "PopupwrightModel$Crease" "left" "I") (by decide +kernel)) (fun _ h9 => h9) rfl hin2 rfl (by decide +kernel) rfl rfl (Nat.le_of_ble_eq_true rfl) dX12_init_22 (fun H locs hP hD hS => ?_)
  have hP : va_P D vwCl ([(q, .inr (17, [.null, .int p0, .int p1, .int p2, .int 0, .int 0, .int 0]))]) H := hP
  have hD : va_D A ([(q, .inr (17, [.null, .int p0, .int p1, .int p2, .int 0, .int 0, .int 0]))]) := hD
  refine lv_aload_n hx hb dX12_init_25 rfl (lv_at hl 0 rfl) ?_
  refine lv_iload hx hb dX12_init_26 (lv_at hl 5 rfl) ?_
  refine va_putF (D := D) (ci := 17) (v := .int p3) (ty := .int) (C := RX12) (T := TX12) (N := 7) hx hb hts hin_RX12 tyX12 tyX12_ok nmX12 hown hK hP hD hS 0 rfl rfl 4 (by decide) (hts (.fieldLink RX12 23 "PopupwrightModel$Crease" "right" "I") (by decide +kernel)) (fun _ h9 => h9) rfl hin2 rfl (by decide +kernel) rfl rfl (Nat.le_of_ble_eq_true rfl) dX12_init_28 (fun H locs hP hD hS => ?_)
  have hP : va_P D vwCl ([(q, .inr (17, [.null, .int p0, .int p1, .int p2, .int p3, .int 0, .int 0]))]) H := hP
  have hD : va_D A ([(q, .inr (17, [.null, .int p0, .int p1, .int p2, .int p3, .int 0, .int 0]))]) := hD
  refine lv_aload_n hx hb dX12_init_31 rfl (lv_at hl 0 rfl) ?_
  refine lv_iload hx hb dX12_init_32 (lv_at hl 6 rfl) ?_
  refine va_putF (D := D) (ci := 17) (v := .int p4) (ty := .int) (C := RX12) (T := TX12) (N := 7) hx hb hts hin_RX12 tyX12 tyX12_ok nmX12 hown hK hP hD hS 0 rfl rfl 5 (by decide) (hts (.fieldLink RX12 26 "PopupwrightModel$Crease" "low" "I") (by decide +kernel)) (fun _ h9 => h9) rfl hin2 rfl (by decide +kernel) rfl rfl (Nat.le_of_ble_eq_true rfl) dX12_init_34 (fun H locs hP hD hS => ?_)
  have hP : va_P D vwCl ([(q, .inr (17, [.null, .int p0, .int p1, .int p2, .int p3, .int p4, .int 0]))]) H := hP
  have hD : va_D A ([(q, .inr (17, [.null, .int p0, .int p1, .int p2, .int p3, .int p4, .int 0]))]) := hD
  refine lv_aload_n hx hb dX12_init_37 rfl (lv_at hl 0 rfl) ?_
  refine lv_iload hx hb dX12_init_38 (lv_at hl 7 rfl) ?_
  refine va_putF (D := D) (ci := 17) (v := .int p5) (ty := .int) (C := RX12) (T := TX12) (N := 7) hx hb hts hin_RX12 tyX12 tyX12_ok nmX12 hown hK hP hD hS 0 rfl rfl 6 (by decide) (hts (.fieldLink RX12 29 "PopupwrightModel$Crease" "high" "I") (by decide +kernel)) (fun _ h9 => h9) rfl hin2 rfl (by decide +kernel) rfl rfl (Nat.le_of_ble_eq_true rfl) dX12_init_40 (fun H locs hP hD hS => ?_)
  have hP : va_P D vwCl ([(q, .inr (17, [.null, .int p0, .int p1, .int p2, .int p3, .int p4, .int p5]))]) H := hP
  have hD : va_D A ([(q, .inr (17, [.null, .int p0, .int p1, .int p2, .int p3, .int p4, .int p5]))]) := hD
  refine W.widen (k := 0) (n := 0) (Nat.le_of_ble_eq_true rfl) (Nat.le_of_ble_eq_true rfl) ?_
  have hP9 := hP.sub (ws' := ([(q, .inr (17, [.null, .int p0, .int p1, .int p2, .int p3, .int p4, .int p5]))])) [0] rfl
  have hD9 := hD.sub (ws' := ([(q, .inr (17, [.null, .int p0, .int p1, .int p2, .int p3, .int p4, .int p5]))])) [0] (by decide) rfl
  have hK9 := hK.sub (tys' := []) [] rfl
  exact W.vret hx hb hr (fun t ht hW => ⟨⟨(), rfl, trivial, ⟨by rw [ht]; exact hP9, va_K.moved hW.alike hK9, hD9⟩⟩, hS.F ht⟩) hS.2.2 dX12_init_43 hlocks

set_option maxHeartbeats 4000000 in
set_option maxRecDepth 100000 in
theorem m_spread (l : Launch) (D : va_G) (de : Nat) (ad : Nat → Nat) (c0 : Int32) (p0 p1 : Int32) (sz : Nat) : Met l yX17_spread wsX17_spread ({ frames := 5, cells := 2, slots := 17, locals := 101 } : Room) (va_Pc [.ref (ad 40), .int p0, .int p1] (PX de D ([]) (wM ad de c0) sz)) (va_Qi (fun (r : Int32) (u : Int32 × List Value) => (u.1 = 1 ∧ r = 0 ∧ (inR p0 20 400 = 0 ∨ inR p1 20 400 = 0)) ∨ (u.1 = 0 ∧ r = 0 ∧ (¬ inR p0 20 400 = 0 ∧ ¬ inR p1 20 400 = 0))) (fun u t => PW D ([]) (va_A (wM ad de c0) sz) ([(ad 40, .inr (22, .int u.1 :: u.2))]) t) (va_A (wM ad de c0) sz)) 2 17 (va_A (wM ad de c0) sz) := by
  refine Met.ofW (cc := cX17_spread) (maxL := 4) (ret := (some .int)) (by decide) rfl ?_
  intro p e s m args below meth c s₁ B hml hv
  obtain ⟨rfl, hsz, hP, hK, hD0, hTK, hZ⟩ := hv
  have hx := B.exec
  have hb := B.bytes
  have hr := B.returns
  have hts := atoms_spec (ws := wsX17_spread) B.pre
  have hown : s.vm.findClass RX17 = some m.cls := findClass_of_methodNamed B.named
  have hlocks := B.notSynchronized
  have hin_RX12 : ∀ w ∈ u_ws RX12 TX12 7, w ∈ wsX17_spread := by decide +kernel
  have hin_RX17 : ∀ w ∈ u_ws RX17 TX17 13, w ∈ wsX17_spread := by decide +kernel
  subst hsz
  have hD := hD0.self (sz := s.heap.size)
  generalize hAe : va_A (wM ad de c0) s.heap.size = A at hD hZ ⊢
  have hA : ∀ q : Nat, s.heap.size ≤ q → A q := fun q h => by rw [← hAe]; exact Or.inr h
  have hS : va_S A s.heap s.heap [] := va_S.rf
  have hP : va_P D vwCl (wM ad de c0) s.heap := hP
  have hD : va_D A (wM ad de c0) := hD
  have hl := lv_entry ([.ref (ad 40), .int p0, .int p1]) (n := 4) (Nat.le_of_ble_eq_true rfl)
  rw [lg_entry_eq]
  generalize (lg_sl ([.ref (ad 40), .int p0, .int p1]) ++ List.replicate (4 - (lg_sl ([.ref (ad 40), .int p0, .int p1])).length) Slot.unset).toArray = ls at hl ⊢
  have hl : lv_has ls 4 [(0, .ref (ad 40)), (1, .int p0), (2, .int p1)] := hl
  refine lv_aload_n hx hb dX17_spread_0 rfl (lv_at hl 0 rfl) ?_
  refine lv_iconst (v := 0) hx hb dX17_spread_1 (by decide) ?_
  refine va_put (D := D) (ci := 22) (v := .int 0) (ty := .int) (C := RX17) (T := TX17) (N := 13) hx hb hts hin_RX17 tyX17 tyX17_ok nmX17 hown hK hP hD hS 0 rfl rfl 0 (by decide) (hts (.fieldLink RX17 41 "PopupwrightModel" "code" "I") (by decide +kernel)) (fun _ h9 => h9) rfl (by decide +kernel) rfl rfl (Nat.le_of_ble_eq_true rfl) dX17_spread_2 (fun H locs hP hD hS => ?_)
  have hP : va_P D vwCl (wM ad de 0) H := hP
  have hD : va_D A (wM ad de 0) := hD
  refine lv_iload_n hx hb dX17_spread_5 rfl (lv_at hl 1 rfl) ?_
  refine lv_bipush (v := 20) hx hb dX17_spread_6 (by decide) ?_
  refine lv_sipush (v := 400) hx hb dX17_spread_8 (by decide) ?_
  refine kx_i (wc := []) (wr := wM ad de 0) hP hD hS hA [] [0, 1, 2, 3, 4] rfl rfl (by decide) (by decide) (va_runS (As := [.int p0, .int 20, .int 400]) (rest := []) ⟨hx, hb, hml, hown, hts⟩ (c_in l D de p0 20 400 H.size) (va_cwS 3 hts gX17_spread_X17_in rfl rfl rfl (by decide +kernel) ⟨Nat.le_of_ble_eq_true rfl, Nat.le_of_ble_eq_true rfl⟩) ⟨px_blind, (px_pre hP hD hK hS hA hTK hZ [] rfl rfl (by decide) [] rfl)⟩ rfl rfl hl.1 rfl (lv_room (Nat.le_of_ble_eq_true rfl)) dX17_spread_11 ⟨(Nat.le_of_ble_eq_true rfl), (Nat.le_of_ble_eq_true rfl)⟩) (fun r_1 u H locs hw hP hD hK1 hS => ?_)
  have hP : va_P D vwCl (wM ad de 0) H := hP
  have hD : va_D A (wM ad de 0) := hD
  obtain rfl : r_1 = inR p0 20 400 := hw
  refine lv_if_eq (tgt := 29) hx hb dX17_spread_14 (by decide) (fun c_14 => ?_) (fun c_14 => ?_)
  · refine lv_aload_n hx hb dX17_spread_29 rfl (lv_at hl 0 rfl) ?_
    refine lv_iconst (v := 1) hx hb dX17_spread_30 (by decide) ?_
    refine kx_i (wc := wM ad de 0) (wr := []) hP hD hS hA [0, 1, 2, 3, 4] [] rfl rfl (by decide) (by decide) (va_runV (As := [.int 1]) (rest := []) ⟨hx, hb, hml, hown, hts⟩ (c_fails l D de ad 0 1 H.size) (cwV 1 hts gX17_spread_X17_fails rfl rfl rfl (by decide +kernel) ⟨Nat.le_of_ble_eq_true rfl, Nat.le_of_ble_eq_true rfl⟩) ⟨px_blind, (va_recv hK hP (ci := 22) (q0 := 0) rfl rfl), (px_pre hP hD hK hS hA hTK hZ [0, 1, 2, 3, 4] rfl rfl (by decide) [] rfl)⟩ rfl rfl hl.1 rfl (lv_room (Nat.le_of_ble_eq_true rfl)) dX17_spread_31 ⟨(Nat.le_of_ble_eq_true rfl), (Nat.le_of_ble_eq_true rfl)⟩) (fun r_2 u H locs hw hP hD hK1 hS => ?_)
    have hP : va_P D vwCl (wM ad de 1) H := hP
    have hD : va_D A (wM ad de 1) := hD
    obtain rfl : r_2 = 0 := hw
    refine W.widen (k := 2) (n := 17) (Nat.le_of_ble_eq_true rfl) (Nat.le_of_ble_eq_true rfl) ?_
    have hP9 := hP.sub (ws' := ([(ad 40, .inr (22, [.int 1, .int 0, .int 0, .int 0, .ref (ad 41), .ref (ad 42), .ref (ad 43), .ref (ad 44), .int 500, .int 700, .int 10, .int 200, .ref (ad 45)]))])) [0] rfl
    have hD9 := hD.sub (ws' := ([(ad 40, .inr (22, [.int 1, .int 0, .int 0, .int 0, .ref (ad 41), .ref (ad 42), .ref (ad 43), .ref (ad 44), .int 500, .int 700, .int 10, .int 200, .ref (ad 45)]))])) [0] (by decide) rfl
    have hK9 := hK.sub (tys' := []) [] rfl
    exact W.iret (v := 0) hx hb hr (fun t ht hW => ⟨⟨0, (1, [.int 0, .int 0, .int 0, .ref (ad 41), .ref (ad 42), .ref (ad 43), .ref (ad 44), .int 500, .int 700, .int 10, .int 200, .ref (ad 45)]), rfl, (by first | exact ⟨rfl, rfl⟩ | exact ⟨rfl, rfl, by assumption⟩ | exact Or.inl ⟨rfl, rfl, by assumption⟩ | exact Or.inr ⟨rfl, rfl, by assumption⟩ | exact Or.inl ⟨rfl, rfl, Or.inl (by assumption)⟩ | exact Or.inl ⟨rfl, rfl, Or.inr (by assumption)⟩ | exact Or.inr ⟨rfl, rfl, by assumption, by assumption⟩), ⟨by rw [ht]; exact hP9, va_K.moved hW.alike hK9, hD9⟩⟩, hS.F ht⟩) hS.2.2 dX17_spread_34 hlocks
  · refine lv_iload_n hx hb dX17_spread_17 rfl (lv_at hl 2 rfl) ?_
    refine lv_bipush (v := 20) hx hb dX17_spread_18 (by decide) ?_
    refine lv_sipush (v := 400) hx hb dX17_spread_20 (by decide) ?_
    refine kx_i (wc := []) (wr := wM ad de 0) hP hD hS hA [] [0, 1, 2, 3, 4] rfl rfl (by decide) (by decide) (va_runS (As := [.int p1, .int 20, .int 400]) (rest := []) ⟨hx, hb, hml, hown, hts⟩ (c_in l D de p1 20 400 H.size) (va_cwS 3 hts gX17_spread_X17_in rfl rfl rfl (by decide +kernel) ⟨Nat.le_of_ble_eq_true rfl, Nat.le_of_ble_eq_true rfl⟩) ⟨px_blind, (px_pre hP hD hK hS hA hTK hZ [] rfl rfl (by decide) [] rfl)⟩ rfl rfl hl.1 rfl (lv_room (Nat.le_of_ble_eq_true rfl)) dX17_spread_23 ⟨(Nat.le_of_ble_eq_true rfl), (Nat.le_of_ble_eq_true rfl)⟩) (fun r_3 u H locs hw hP hD hK1 hS => ?_)
    have hP : va_P D vwCl (wM ad de 0) H := hP
    have hD : va_D A (wM ad de 0) := hD
    obtain rfl : r_3 = inR p1 20 400 := hw
    refine lv_if_ne (tgt := 35) hx hb dX17_spread_26 (by decide) (fun c_26 => ?_) (fun c_26 => ?_)
    · refine lv_aload_n hx hb dX17_spread_35 rfl (lv_at hl 0 rfl) ?_
      refine va_get (D := D) (ci := 22) (v := .ref (ad 42)) (C := RX17) (T := TX17) (N := 13) hx hb hts hin_RX17 hown hK hP 0 rfl rfl 5 (by decide) (hts (.fieldLink RX17 16 "PopupwrightModel" "folds" "Ljava/util/List;") (by decide +kernel)) (fun _ h9 => h9) rfl dX17_spread_36 ?_
      refine kx_Fi (wc := [(ad 42, .inr (4, [.int 0, .ref de, .int 0]))]) (wr := [(ad 40, .inr (22, [.int 0, .int 0, .int 0, .int 0, .ref (ad 41), .ref (ad 42), .ref (ad 43), .ref (ad 44), .int 500, .int 700, .int 10, .int 200, .ref (ad 45)])), (ad 41, .inr (4, [.int 0, .ref de, .int 0])), (ad 43, .inr (4, [.int 0, .ref de, .int 0])), (ad 44, .inr (4, [.int 0, .ref de, .int 0]))]) hP hD hS hA [2] [0, 1, 3, 4] rfl rfl (by decide) (by decide) (va_runF (As := []) (rest := []) (hK.1 4 _ rfl).2 ⟨hx, hb, hml, hown, hts⟩ (l_size l D de (ad 42) de 0 H.size) (va_cwF 0 hts gX17_spread_Jx4a65c_size_8abf5_f52Jx4a65c rfl rfl rfl (hTK.2.2.2.2.2.1 (RJx4a65c, ⟨"java/util/List", "size", "()I"⟩, yJx4a65c_size_8abf5) (by decide +kernel)) (by decide +kernel) ⟨Nat.le_of_ble_eq_true rfl, Nat.le_of_ble_eq_true rfl⟩) ⟨px_blind, (va_recv hK hP (ci := 4) (q0 := 2) rfl rfl), (px_pre hP hD hK hS hA hTK hZ [2] rfl rfl (by decide) [] rfl)⟩ rfl rfl hl.1 rfl (lv_room (Nat.le_of_ble_eq_true rfl)) dX17_spread_39 ⟨(Nat.le_of_ble_eq_true rfl), (Nat.le_of_ble_eq_true rfl)⟩) (fun r_4 u H locs hw hP hD hK1 hS => ?_)
      have hP : va_P D vwCl ([(ad 40, .inr (22, [.int 0, .int 0, .int 0, .int 0, .ref (ad 41), .ref (ad 42), .ref (ad 43), .ref (ad 44), .int 500, .int 700, .int 10, .int 200, .ref (ad 45)])), (ad 41, .inr (4, [.int 0, .ref de, .int 0])), (ad 43, .inr (4, [.int 0, .ref de, .int 0])), (ad 44, .inr (4, [.int 0, .ref de, .int 0])), (ad 42, .inr (4, [.int 0, .ref de, .int 0]))]) H := hP
      have hD : va_D A ([(ad 40, .inr (22, [.int 0, .int 0, .int 0, .int 0, .ref (ad 41), .ref (ad 42), .ref (ad 43), .ref (ad 44), .int 500, .int 700, .int 10, .int 200, .ref (ad 45)])), (ad 41, .inr (4, [.int 0, .ref de, .int 0])), (ad 43, .inr (4, [.int 0, .ref de, .int 0])), (ad 44, .inr (4, [.int 0, .ref de, .int 0])), (ad 42, .inr (4, [.int 0, .ref de, .int 0]))]) := hD
      obtain rfl : r_4 = 0 := hw
      refine lv_istore_n (lv' := [(3, .int 0), (0, .ref (ad 40)), (1, .int p0), (2, .int p1)]) hx hb dX17_spread_44 rfl hl (by decide) rfl (fun ls hl => ?_)
      refine lv_aload_n hx hb dX17_spread_45 rfl (lv_at hl 1 rfl) ?_
      refine lv_iconst (v := 1) hx hb dX17_spread_46 (by decide) ?_
      refine va_put (D := D) (ci := 22) (v := .int 1) (ty := .boolean) (C := RX17) (T := TX17) (N := 13) hx hb hts hin_RX17 tyX17 tyX17_ok nmX17 hown hK hP hD hS 0 rfl rfl 1 (by decide) (hts (.fieldLink RX17 58 "PopupwrightModel" "hasSpread" "Z") (by decide +kernel)) (fun _ h9 => h9) rfl (by decide +kernel) rfl rfl (Nat.le_of_ble_eq_true rfl) dX17_spread_47 (fun H locs hP hD hS => ?_)
      have hP : va_P D vwCl ([(ad 40, .inr (22, [.int 0, .int 1, .int 0, .int 0, .ref (ad 41), .ref (ad 42), .ref (ad 43), .ref (ad 44), .int 500, .int 700, .int 10, .int 200, .ref (ad 45)])), (ad 41, .inr (4, [.int 0, .ref de, .int 0])), (ad 43, .inr (4, [.int 0, .ref de, .int 0])), (ad 44, .inr (4, [.int 0, .ref de, .int 0])), (ad 42, .inr (4, [.int 0, .ref de, .int 0]))]) H := hP
      have hD : va_D A ([(ad 40, .inr (22, [.int 0, .int 1, .int 0, .int 0, .ref (ad 41), .ref (ad 42), .ref (ad 43), .ref (ad 44), .int 500, .int 700, .int 10, .int 200, .ref (ad 45)])), (ad 41, .inr (4, [.int 0, .ref de, .int 0])), (ad 43, .inr (4, [.int 0, .ref de, .int 0])), (ad 44, .inr (4, [.int 0, .ref de, .int 0])), (ad 42, .inr (4, [.int 0, .ref de, .int 0]))]) := hD
      refine lv_aload_n hx hb dX17_spread_50 rfl (lv_at hl 1 rfl) ?_
      refine lv_iload_n hx hb dX17_spread_51 rfl (lv_at hl 2 rfl) ?_
      refine va_put (D := D) (ci := 22) (v := .int p0) (ty := .int) (C := RX17) (T := TX17) (N := 13) hx hb hts hin_RX17 tyX17 tyX17_ok nmX17 hown hK hP hD hS 0 rfl rfl 2 (by decide) (hts (.fieldLink RX17 62 "PopupwrightModel" "width" "I") (by decide +kernel)) (fun _ h9 => h9) rfl (by decide +kernel) rfl rfl (Nat.le_of_ble_eq_true rfl) dX17_spread_52 (fun H locs hP hD hS => ?_)
      have hP : va_P D vwCl ([(ad 40, .inr (22, [.int 0, .int 1, .int p0, .int 0, .ref (ad 41), .ref (ad 42), .ref (ad 43), .ref (ad 44), .int 500, .int 700, .int 10, .int 200, .ref (ad 45)])), (ad 41, .inr (4, [.int 0, .ref de, .int 0])), (ad 43, .inr (4, [.int 0, .ref de, .int 0])), (ad 44, .inr (4, [.int 0, .ref de, .int 0])), (ad 42, .inr (4, [.int 0, .ref de, .int 0]))]) H := hP
      have hD : va_D A ([(ad 40, .inr (22, [.int 0, .int 1, .int p0, .int 0, .ref (ad 41), .ref (ad 42), .ref (ad 43), .ref (ad 44), .int 500, .int 700, .int 10, .int 200, .ref (ad 45)])), (ad 41, .inr (4, [.int 0, .ref de, .int 0])), (ad 43, .inr (4, [.int 0, .ref de, .int 0])), (ad 44, .inr (4, [.int 0, .ref de, .int 0])), (ad 42, .inr (4, [.int 0, .ref de, .int 0]))]) := hD
      refine lv_aload_n hx hb dX17_spread_55 rfl (lv_at hl 1 rfl) ?_
      refine lv_iload_n hx hb dX17_spread_56 rfl (lv_at hl 3 rfl) ?_
      refine va_put (D := D) (ci := 22) (v := .int p1) (ty := .int) (C := RX17) (T := TX17) (N := 13) hx hb hts hin_RX17 tyX17 tyX17_ok nmX17 hown hK hP hD hS 0 rfl rfl 3 (by decide) (hts (.fieldLink RX17 65 "PopupwrightModel" "height" "I") (by decide +kernel)) (fun _ h9 => h9) rfl (by decide +kernel) rfl rfl (Nat.le_of_ble_eq_true rfl) dX17_spread_57 (fun H locs hP hD hS => ?_)
      have hP : va_P D vwCl ([(ad 40, .inr (22, [.int 0, .int 1, .int p0, .int p1, .ref (ad 41), .ref (ad 42), .ref (ad 43), .ref (ad 44), .int 500, .int 700, .int 10, .int 200, .ref (ad 45)])), (ad 41, .inr (4, [.int 0, .ref de, .int 0])), (ad 43, .inr (4, [.int 0, .ref de, .int 0])), (ad 44, .inr (4, [.int 0, .ref de, .int 0])), (ad 42, .inr (4, [.int 0, .ref de, .int 0]))]) H := hP
      have hD : va_D A ([(ad 40, .inr (22, [.int 0, .int 1, .int p0, .int p1, .ref (ad 41), .ref (ad 42), .ref (ad 43), .ref (ad 44), .int 500, .int 700, .int 10, .int 200, .ref (ad 45)])), (ad 41, .inr (4, [.int 0, .ref de, .int 0])), (ad 43, .inr (4, [.int 0, .ref de, .int 0])), (ad 44, .inr (4, [.int 0, .ref de, .int 0])), (ad 42, .inr (4, [.int 0, .ref de, .int 0]))]) := hD
      refine lv_aload_n hx hb dX17_spread_60 rfl (lv_at hl 1 rfl) ?_
      refine va_get (D := D) (ci := 22) (v := .ref (ad 41)) (C := RX17) (T := TX17) (N := 13) hx hb hts hin_RX17 hown hK hP 0 rfl rfl 4 (by decide) (hts (.fieldLink RX17 10 "PopupwrightModel" "creases" "Ljava/util/List;") (by decide +kernel)) (fun _ h9 => h9) rfl dX17_spread_61 ?_
      refine kx_Fv (wc := [(ad 41, .inr (4, [.int 0, .ref de, .int 0]))]) (wr := [(ad 40, .inr (22, [.int 0, .int 1, .int p0, .int p1, .ref (ad 41), .ref (ad 42), .ref (ad 43), .ref (ad 44), .int 500, .int 700, .int 10, .int 200, .ref (ad 45)])), (ad 43, .inr (4, [.int 0, .ref de, .int 0])), (ad 44, .inr (4, [.int 0, .ref de, .int 0])), (ad 42, .inr (4, [.int 0, .ref de, .int 0]))]) hP hD hS hA [1] [0, 2, 3, 4] rfl rfl (by decide) (by decide) (va_runF (As := []) (rest := []) (hK.1 4 _ rfl).2 ⟨hx, hb, hml, hown, hts⟩ (l_clear l D de (ad 41) de 0 H.size) (va_cwF 0 hts gX17_spread_Jx4a65c_clear_da8c8_f68Jx4a65c rfl rfl rfl (hTK.2.2.2.2.2.1 (RJx4a65c, ⟨"java/util/List", "clear", "()V"⟩, yJx4a65c_clear_da8c8) (by decide +kernel)) (by decide +kernel) ⟨Nat.le_of_ble_eq_true rfl, Nat.le_of_ble_eq_true rfl⟩) ⟨px_blind, (va_recv hK hP (ci := 4) (q0 := 1) rfl rfl), (px_pre hP hD hK hS hA hTK hZ [1] rfl rfl (by decide) [] rfl)⟩ rfl rfl hl.1 rfl (lv_room (Nat.le_of_ble_eq_true rfl)) dX17_spread_64 ⟨(Nat.le_of_ble_eq_true rfl), (Nat.le_of_ble_eq_true rfl)⟩) (fun u H locs hw hP hD hK1 hS => ?_)
      have hP : va_P D vwCl ([(ad 40, .inr (22, [.int 0, .int 1, .int p0, .int p1, .ref (ad 41), .ref (ad 42), .ref (ad 43), .ref (ad 44), .int 500, .int 700, .int 10, .int 200, .ref (ad 45)])), (ad 43, .inr (4, [.int 0, .ref de, .int 0])), (ad 44, .inr (4, [.int 0, .ref de, .int 0])), (ad 42, .inr (4, [.int 0, .ref de, .int 0])), (ad 41, .inr (4, [.int (0 + 1), .ref de, .int 0]))]) H := hP
      have hD : va_D A ([(ad 40, .inr (22, [.int 0, .int 1, .int p0, .int p1, .ref (ad 41), .ref (ad 42), .ref (ad 43), .ref (ad 44), .int 500, .int 700, .int 10, .int 200, .ref (ad 45)])), (ad 43, .inr (4, [.int 0, .ref de, .int 0])), (ad 44, .inr (4, [.int 0, .ref de, .int 0])), (ad 42, .inr (4, [.int 0, .ref de, .int 0])), (ad 41, .inr (4, [.int (0 + 1), .ref de, .int 0]))]) := hD
      refine lv_aload_n hx hb dX17_spread_69 rfl (lv_at hl 1 rfl) ?_
      refine va_get (D := D) (ci := 22) (v := .ref (ad 42)) (C := RX17) (T := TX17) (N := 13) hx hb hts hin_RX17 hown hK hP 0 rfl rfl 5 (by decide) (hts (.fieldLink RX17 16 "PopupwrightModel" "folds" "Ljava/util/List;") (by decide +kernel)) (fun _ h9 => h9) rfl dX17_spread_70 ?_
      refine kx_Fv (wc := [(ad 42, .inr (4, [.int 0, .ref de, .int 0]))]) (wr := [(ad 40, .inr (22, [.int 0, .int 1, .int p0, .int p1, .ref (ad 41), .ref (ad 42), .ref (ad 43), .ref (ad 44), .int 500, .int 700, .int 10, .int 200, .ref (ad 45)])), (ad 43, .inr (4, [.int 0, .ref de, .int 0])), (ad 44, .inr (4, [.int 0, .ref de, .int 0])), (ad 41, .inr (4, [.int (0 + 1), .ref de, .int 0]))]) hP hD hS hA [3] [0, 1, 2, 4] rfl rfl (by decide) (by decide) (va_runF (As := []) (rest := []) (hK.1 4 _ rfl).2 ⟨hx, hb, hml, hown, hts⟩ (l_clear l D de (ad 42) de 0 H.size) (va_cwF 0 hts gX17_spread_Jx4a65c_clear_da8c8_f68Jx4a65c rfl rfl rfl (hTK.2.2.2.2.2.1 (RJx4a65c, ⟨"java/util/List", "clear", "()V"⟩, yJx4a65c_clear_da8c8) (by decide +kernel)) (by decide +kernel) ⟨Nat.le_of_ble_eq_true rfl, Nat.le_of_ble_eq_true rfl⟩) ⟨px_blind, (va_recv hK hP (ci := 4) (q0 := 3) rfl rfl), (px_pre hP hD hK hS hA hTK hZ [3] rfl rfl (by decide) [] rfl)⟩ rfl rfl hl.1 rfl (lv_room (Nat.le_of_ble_eq_true rfl)) dX17_spread_73 ⟨(Nat.le_of_ble_eq_true rfl), (Nat.le_of_ble_eq_true rfl)⟩) (fun u H locs hw hP hD hK1 hS => ?_)
      have hP : va_P D vwCl ([(ad 40, .inr (22, [.int 0, .int 1, .int p0, .int p1, .ref (ad 41), .ref (ad 42), .ref (ad 43), .ref (ad 44), .int 500, .int 700, .int 10, .int 200, .ref (ad 45)])), (ad 43, .inr (4, [.int 0, .ref de, .int 0])), (ad 44, .inr (4, [.int 0, .ref de, .int 0])), (ad 41, .inr (4, [.int (0 + 1), .ref de, .int 0])), (ad 42, .inr (4, [.int (0 + 1), .ref de, .int 0]))]) H := hP
      have hD : va_D A ([(ad 40, .inr (22, [.int 0, .int 1, .int p0, .int p1, .ref (ad 41), .ref (ad 42), .ref (ad 43), .ref (ad 44), .int 500, .int 700, .int 10, .int 200, .ref (ad 45)])), (ad 43, .inr (4, [.int 0, .ref de, .int 0])), (ad 44, .inr (4, [.int 0, .ref de, .int 0])), (ad 41, .inr (4, [.int (0 + 1), .ref de, .int 0])), (ad 42, .inr (4, [.int (0 + 1), .ref de, .int 0]))]) := hD
      refine lv_aload_n hx hb dX17_spread_78 rfl (lv_at hl 1 rfl) ?_
      refine va_get (D := D) (ci := 22) (v := .ref (ad 43)) (C := RX17) (T := TX17) (N := 13) hx hb hts hin_RX17 hown hK hP 0 rfl rfl 6 (by decide) (hts (.fieldLink RX17 19 "PopupwrightModel" "pictures" "Ljava/util/List;") (by decide +kernel)) (fun _ h9 => h9) rfl dX17_spread_79 ?_
      refine kx_Fv (wc := [(ad 43, .inr (4, [.int 0, .ref de, .int 0]))]) (wr := [(ad 40, .inr (22, [.int 0, .int 1, .int p0, .int p1, .ref (ad 41), .ref (ad 42), .ref (ad 43), .ref (ad 44), .int 500, .int 700, .int 10, .int 200, .ref (ad 45)])), (ad 44, .inr (4, [.int 0, .ref de, .int 0])), (ad 41, .inr (4, [.int (0 + 1), .ref de, .int 0])), (ad 42, .inr (4, [.int (0 + 1), .ref de, .int 0]))]) hP hD hS hA [1] [0, 2, 3, 4] rfl rfl (by decide) (by decide) (va_runF (As := []) (rest := []) (hK.1 4 _ rfl).2 ⟨hx, hb, hml, hown, hts⟩ (l_clear l D de (ad 43) de 0 H.size) (va_cwF 0 hts gX17_spread_Jx4a65c_clear_da8c8_f68Jx4a65c rfl rfl rfl (hTK.2.2.2.2.2.1 (RJx4a65c, ⟨"java/util/List", "clear", "()V"⟩, yJx4a65c_clear_da8c8) (by decide +kernel)) (by decide +kernel) ⟨Nat.le_of_ble_eq_true rfl, Nat.le_of_ble_eq_true rfl⟩) ⟨px_blind, (va_recv hK hP (ci := 4) (q0 := 1) rfl rfl), (px_pre hP hD hK hS hA hTK hZ [1] rfl rfl (by decide) [] rfl)⟩ rfl rfl hl.1 rfl (lv_room (Nat.le_of_ble_eq_true rfl)) dX17_spread_82 ⟨(Nat.le_of_ble_eq_true rfl), (Nat.le_of_ble_eq_true rfl)⟩) (fun u H locs hw hP hD hK1 hS => ?_)
      have hP : va_P D vwCl ([(ad 40, .inr (22, [.int 0, .int 1, .int p0, .int p1, .ref (ad 41), .ref (ad 42), .ref (ad 43), .ref (ad 44), .int 500, .int 700, .int 10, .int 200, .ref (ad 45)])), (ad 44, .inr (4, [.int 0, .ref de, .int 0])), (ad 41, .inr (4, [.int (0 + 1), .ref de, .int 0])), (ad 42, .inr (4, [.int (0 + 1), .ref de, .int 0])), (ad 43, .inr (4, [.int (0 + 1), .ref de, .int 0]))]) H := hP
      have hD : va_D A ([(ad 40, .inr (22, [.int 0, .int 1, .int p0, .int p1, .ref (ad 41), .ref (ad 42), .ref (ad 43), .ref (ad 44), .int 500, .int 700, .int 10, .int 200, .ref (ad 45)])), (ad 44, .inr (4, [.int 0, .ref de, .int 0])), (ad 41, .inr (4, [.int (0 + 1), .ref de, .int 0])), (ad 42, .inr (4, [.int (0 + 1), .ref de, .int 0])), (ad 43, .inr (4, [.int (0 + 1), .ref de, .int 0]))]) := hD
      refine lv_aload_n hx hb dX17_spread_87 rfl (lv_at hl 1 rfl) ?_
      refine va_get (D := D) (ci := 22) (v := .ref (ad 44)) (C := RX17) (T := TX17) (N := 13) hx hb hts hin_RX17 hown hK hP 0 rfl rfl 7 (by decide) (hts (.fieldLink RX17 22 "PopupwrightModel" "pulls" "Ljava/util/List;") (by decide +kernel)) (fun _ h9 => h9) rfl dX17_spread_88 ?_
      refine kx_Fv (wc := [(ad 44, .inr (4, [.int 0, .ref de, .int 0]))]) (wr := [(ad 40, .inr (22, [.int 0, .int 1, .int p0, .int p1, .ref (ad 41), .ref (ad 42), .ref (ad 43), .ref (ad 44), .int 500, .int 700, .int 10, .int 200, .ref (ad 45)])), (ad 41, .inr (4, [.int (0 + 1), .ref de, .int 0])), (ad 42, .inr (4, [.int (0 + 1), .ref de, .int 0])), (ad 43, .inr (4, [.int (0 + 1), .ref de, .int 0]))]) hP hD hS hA [1] [0, 2, 3, 4] rfl rfl (by decide) (by decide) (va_runF (As := []) (rest := []) (hK.1 4 _ rfl).2 ⟨hx, hb, hml, hown, hts⟩ (l_clear l D de (ad 44) de 0 H.size) (va_cwF 0 hts gX17_spread_Jx4a65c_clear_da8c8_f68Jx4a65c rfl rfl rfl (hTK.2.2.2.2.2.1 (RJx4a65c, ⟨"java/util/List", "clear", "()V"⟩, yJx4a65c_clear_da8c8) (by decide +kernel)) (by decide +kernel) ⟨Nat.le_of_ble_eq_true rfl, Nat.le_of_ble_eq_true rfl⟩) ⟨px_blind, (va_recv hK hP (ci := 4) (q0 := 1) rfl rfl), (px_pre hP hD hK hS hA hTK hZ [1] rfl rfl (by decide) [] rfl)⟩ rfl rfl hl.1 rfl (lv_room (Nat.le_of_ble_eq_true rfl)) dX17_spread_91 ⟨(Nat.le_of_ble_eq_true rfl), (Nat.le_of_ble_eq_true rfl)⟩) (fun u H locs hw hP hD hK1 hS => ?_)
      have hP : va_P D vwCl ([(ad 40, .inr (22, [.int 0, .int 1, .int p0, .int p1, .ref (ad 41), .ref (ad 42), .ref (ad 43), .ref (ad 44), .int 500, .int 700, .int 10, .int 200, .ref (ad 45)])), (ad 41, .inr (4, [.int (0 + 1), .ref de, .int 0])), (ad 42, .inr (4, [.int (0 + 1), .ref de, .int 0])), (ad 43, .inr (4, [.int (0 + 1), .ref de, .int 0])), (ad 44, .inr (4, [.int (0 + 1), .ref de, .int 0]))]) H := hP
      have hD : va_D A ([(ad 40, .inr (22, [.int 0, .int 1, .int p0, .int p1, .ref (ad 41), .ref (ad 42), .ref (ad 43), .ref (ad 44), .int 500, .int 700, .int 10, .int 200, .ref (ad 45)])), (ad 41, .inr (4, [.int (0 + 1), .ref de, .int 0])), (ad 42, .inr (4, [.int (0 + 1), .ref de, .int 0])), (ad 43, .inr (4, [.int (0 + 1), .ref de, .int 0])), (ad 44, .inr (4, [.int (0 + 1), .ref de, .int 0]))]) := hD
      refine lv_aload_n hx hb dX17_spread_96 rfl (lv_at hl 1 rfl) ?_
      refine va_get (D := D) (ci := 22) (v := .ref (ad 41)) (C := RX17) (T := TX17) (N := 13) hx hb hts hin_RX17 hown hK hP 0 rfl rfl 4 (by decide) (hts (.fieldLink RX17 10 "PopupwrightModel" "creases" "Ljava/util/List;") (by decide +kernel)) (fun _ h9 => h9) rfl dX17_spread_97 ?_
      refine va_new (ci := 17) (fs := [.null, .int 0, .int 0, .int 0, .int 0, .int 0, .int 0]) (C := RX12) (T := TX12) (N := 7) hx hb hts hin_RX12 tyX12 tyX12_ok hown (hts (.classLink RX17 71 RX12) (by decide +kernel)) (hts (.instantiable RX12 7) (by decide +kernel)) (hts (.initialized RX12) (by decide +kernel)) hK hP hD hS hA rfl (fun j hj => by have hj9 : j < 7 := hj; (match j, hj9 with | 0, _ => rfl | 1, _ => rfl | 2, _ => rfl | 3, _ => rfl | 4, _ => rfl | 5, _ => rfl | 6, _ => rfl)) (Nat.le_of_ble_eq_true rfl) (Nat.le_of_ble_eq_true rfl) dX17_spread_100 (fun q_9 H hP hD hS => ?_)
      have hP : va_P D vwCl ([(ad 40, .inr (22, [.int 0, .int 1, .int p0, .int p1, .ref (ad 41), .ref (ad 42), .ref (ad 43), .ref (ad 44), .int 500, .int 700, .int 10, .int 200, .ref (ad 45)])), (ad 41, .inr (4, [.int (0 + 1), .ref de, .int 0])), (ad 42, .inr (4, [.int (0 + 1), .ref de, .int 0])), (ad 43, .inr (4, [.int (0 + 1), .ref de, .int 0])), (ad 44, .inr (4, [.int (0 + 1), .ref de, .int 0])), (q_9, .inr (17, [.null, .int 0, .int 0, .int 0, .int 0, .int 0, .int 0]))]) H := hP
      have hD : va_D A ([(ad 40, .inr (22, [.int 0, .int 1, .int p0, .int p1, .ref (ad 41), .ref (ad 42), .ref (ad 43), .ref (ad 44), .int 500, .int 700, .int 10, .int 200, .ref (ad 45)])), (ad 41, .inr (4, [.int (0 + 1), .ref de, .int 0])), (ad 42, .inr (4, [.int (0 + 1), .ref de, .int 0])), (ad 43, .inr (4, [.int (0 + 1), .ref de, .int 0])), (ad 44, .inr (4, [.int (0 + 1), .ref de, .int 0])), (q_9, .inr (17, [.null, .int 0, .int 0, .int 0, .int 0, .int 0, .int 0]))]) := hD
      refine W.widen (k := 1) (n := 7) (Nat.le_of_ble_eq_true rfl) (Nat.le_of_ble_eq_true rfl) ?_
      refine lv_dup hx hb dX17_spread_103 rfl ?_
      refine lv_null hx hb dX17_spread_104 ?_
      refine lv_iconst (v := 0) hx hb dX17_spread_105 (by decide) ?_
      refine lv_iconst (v := 0) hx hb dX17_spread_106 (by decide) ?_
      refine lv_iload_n hx hb dX17_spread_107 rfl (lv_at hl 2 rfl) ?_
      refine lv_iload_n hx hb dX17_spread_108 rfl (lv_at hl 2 rfl) ?_
      refine lv_iconst (v := 0) hx hb dX17_spread_109 (by decide) ?_
      refine lv_iload_n hx hb dX17_spread_110 rfl (lv_at hl 3 rfl) ?_
      refine kx_v (wc := [(q_9, .inr (17, [.null, .int 0, .int 0, .int 0, .int 0, .int 0, .int 0]))]) (wr := [(ad 40, .inr (22, [.int 0, .int 1, .int p0, .int p1, .ref (ad 41), .ref (ad 42), .ref (ad 43), .ref (ad 44), .int 500, .int 700, .int 10, .int 200, .ref (ad 45)])), (ad 41, .inr (4, [.int (0 + 1), .ref de, .int 0])), (ad 42, .inr (4, [.int (0 + 1), .ref de, .int 0])), (ad 43, .inr (4, [.int (0 + 1), .ref de, .int 0])), (ad 44, .inr (4, [.int (0 + 1), .ref de, .int 0]))]) hP hD hS hA [5] [0, 1, 2, 3, 4] rfl rfl (by decide) (by decide) (va_runI (As := [.null, .int 0, .int 0, .int p0, .int p0, .int 0, .int p1]) (rest := [.ref q_9, .ref (ad 41)]) ⟨hx, hb, hml, hown, hts⟩ (c_crease l D de q_9 0 0 p0 p0 0 p1 H.size) (cwI 7 hts gX17_spread_X12_init rfl rfl rfl (hts (.initialized RX12) (by decide +kernel)) (hts (.methodLink RX17 73 yX12_init) (by decide +kernel)) (hts (.instanceMethod yX12_init) (by decide +kernel)) rfl (by decide +kernel) ⟨Nat.le_of_ble_eq_true rfl, Nat.le_of_ble_eq_true rfl⟩) ⟨px_blind, (px_pre hP hD hK hS hA hTK hZ [5] rfl rfl (by decide) [] rfl)⟩ rfl rfl hl.1 rfl (lv_room (Nat.le_of_ble_eq_true rfl)) dX17_spread_111 ⟨(Nat.le_of_ble_eq_true rfl), (Nat.le_of_ble_eq_true rfl)⟩) (fun u H locs hw hP hD hK1 hS => ?_)
      have hP : va_P D vwCl ([(ad 40, .inr (22, [.int 0, .int 1, .int p0, .int p1, .ref (ad 41), .ref (ad 42), .ref (ad 43), .ref (ad 44), .int 500, .int 700, .int 10, .int 200, .ref (ad 45)])), (ad 41, .inr (4, [.int (0 + 1), .ref de, .int 0])), (ad 42, .inr (4, [.int (0 + 1), .ref de, .int 0])), (ad 43, .inr (4, [.int (0 + 1), .ref de, .int 0])), (ad 44, .inr (4, [.int (0 + 1), .ref de, .int 0])), (q_9, .inr (17, [.null, .int 0, .int 0, .int p0, .int p0, .int 0, .int p1]))]) H := hP
      have hD : va_D A ([(ad 40, .inr (22, [.int 0, .int 1, .int p0, .int p1, .ref (ad 41), .ref (ad 42), .ref (ad 43), .ref (ad 44), .int 500, .int 700, .int 10, .int 200, .ref (ad 45)])), (ad 41, .inr (4, [.int (0 + 1), .ref de, .int 0])), (ad 42, .inr (4, [.int (0 + 1), .ref de, .int 0])), (ad 43, .inr (4, [.int (0 + 1), .ref de, .int 0])), (ad 44, .inr (4, [.int (0 + 1), .ref de, .int 0])), (q_9, .inr (17, [.null, .int 0, .int 0, .int p0, .int p0, .int 0, .int p1]))]) := hD
      refine W.widen (k := 1) (n := 7) (Nat.le_of_ble_eq_true rfl) (Nat.le_of_ble_eq_true rfl) ?_
      refine kx_Fi (wc := [(ad 41, .inr (4, [.int (0 + 1), .ref de, .int 0])), (q_9, .inr (17, [.null, .int 0, .int 0, .int p0, .int p0, .int 0, .int p1]))]) (wr := [(ad 40, .inr (22, [.int 0, .int 1, .int p0, .int p1, .ref (ad 41), .ref (ad 42), .ref (ad 43), .ref (ad 44), .int 500, .int 700, .int 10, .int 200, .ref (ad 45)])), (ad 42, .inr (4, [.int (0 + 1), .ref de, .int 0])), (ad 43, .inr (4, [.int (0 + 1), .ref de, .int 0])), (ad 44, .inr (4, [.int (0 + 1), .ref de, .int 0]))]) hP hD hS hA [1, 5] [0, 2, 3, 4] rfl rfl (by decide) (by decide) (va_runF (As := [.ref q_9]) (rest := []) (hK.1 4 _ rfl).2 ⟨hx, hb, hml, hown, hts⟩ (l_add l D de (ad 41) q_9 (0 + 1) ([.null, .int 0, .int 0, .int p0, .int p0, .int 0, .int p1]) H.size) (va_cwF 1 hts gX17_spread_Jx4a65c_add_9ea2d_f76Jx4a65c rfl rfl rfl (hTK.2.2.2.2.2.1 (RJx4a65c, ⟨"java/util/List", "add", "(Ljava/lang/Object;)Z"⟩, yJx4a65c_add_9ea2d) (by decide +kernel)) (by decide +kernel) ⟨Nat.le_of_ble_eq_true rfl, Nat.le_of_ble_eq_true rfl⟩) ⟨px_blind, (va_recv hK hP (ci := 4) (q0 := 1) rfl rfl), (px_pre hP hD hK hS hA hTK hZ [1, 5] rfl rfl (by decide) [] rfl)⟩ rfl rfl hl.1 rfl (lv_room (Nat.le_of_ble_eq_true rfl)) dX17_spread_114 ⟨(Nat.le_of_ble_eq_true rfl), (Nat.le_of_ble_eq_true rfl)⟩) (fun r_11 u H locs hw hP hD hK1 hS => ?_)
      have hP : va_P D vwCl ([(ad 40, .inr (22, [.int 0, .int 1, .int p0, .int p1, .ref (ad 41), .ref (ad 42), .ref (ad 43), .ref (ad 44), .int 500, .int 700, .int 10, .int 200, .ref (ad 45)])), (ad 42, .inr (4, [.int (0 + 1), .ref de, .int 0])), (ad 43, .inr (4, [.int (0 + 1), .ref de, .int 0])), (ad 44, .inr (4, [.int (0 + 1), .ref de, .int 0]))]) H := hP
      have hD : va_D A ([(ad 40, .inr (22, [.int 0, .int 1, .int p0, .int p1, .ref (ad 41), .ref (ad 42), .ref (ad 43), .ref (ad 44), .int 500, .int 700, .int 10, .int 200, .ref (ad 45)])), (ad 42, .inr (4, [.int (0 + 1), .ref de, .int 0])), (ad 43, .inr (4, [.int (0 + 1), .ref de, .int 0])), (ad 44, .inr (4, [.int (0 + 1), .ref de, .int 0]))]) := hD
      obtain rfl : r_11 = 1 := hw
      refine W.widen (k := 2) (n := 17) (Nat.le_of_ble_eq_true rfl) (Nat.le_of_ble_eq_true rfl) ?_
      refine lv_pop hx hb dX17_spread_119 rfl ?_
      refine lv_iload_n hx hb dX17_spread_120 rfl (lv_at hl 0 rfl) ?_
      refine W.widen (k := 2) (n := 17) (Nat.le_of_ble_eq_true rfl) (Nat.le_of_ble_eq_true rfl) ?_
      have hP9 := hP.sub (ws' := ([(ad 40, .inr (22, [.int 0, .int 1, .int p0, .int p1, .ref (ad 41), .ref (ad 42), .ref (ad 43), .ref (ad 44), .int 500, .int 700, .int 10, .int 200, .ref (ad 45)]))])) [0] rfl
      have hD9 := hD.sub (ws' := ([(ad 40, .inr (22, [.int 0, .int 1, .int p0, .int p1, .ref (ad 41), .ref (ad 42), .ref (ad 43), .ref (ad 44), .int 500, .int 700, .int 10, .int 200, .ref (ad 45)]))])) [0] (by decide) rfl
      have hK9 := hK.sub (tys' := []) [] rfl
      exact W.iret (v := 0) hx hb hr (fun t ht hW => ⟨⟨0, (0, [.int 1, .int p0, .int p1, .ref (ad 41), .ref (ad 42), .ref (ad 43), .ref (ad 44), .int 500, .int 700, .int 10, .int 200, .ref (ad 45)]), rfl, (by first | exact ⟨rfl, rfl⟩ | exact ⟨rfl, rfl, by assumption⟩ | exact Or.inl ⟨rfl, rfl, by assumption⟩ | exact Or.inr ⟨rfl, rfl, by assumption⟩ | exact Or.inl ⟨rfl, rfl, Or.inl (by assumption)⟩ | exact Or.inl ⟨rfl, rfl, Or.inr (by assumption)⟩ | exact Or.inr ⟨rfl, rfl, by assumption, by assumption⟩), ⟨by rw [ht]; exact hP9, va_K.moved hW.alike hK9, hD9⟩⟩, hS.F ht⟩) hS.2.2 dX17_spread_121 hlocks
    · refine lv_aload_n hx hb dX17_spread_29 rfl (lv_at hl 0 rfl) ?_
      refine lv_iconst (v := 1) hx hb dX17_spread_30 (by decide) ?_
      refine kx_i (wc := wM ad de 0) (wr := []) hP hD hS hA [0, 1, 2, 3, 4] [] rfl rfl (by decide) (by decide) (va_runV (As := [.int 1]) (rest := []) ⟨hx, hb, hml, hown, hts⟩ (c_fails l D de ad 0 1 H.size) (cwV 1 hts gX17_spread_X17_fails rfl rfl rfl (by decide +kernel) ⟨Nat.le_of_ble_eq_true rfl, Nat.le_of_ble_eq_true rfl⟩) ⟨px_blind, (va_recv hK hP (ci := 22) (q0 := 0) rfl rfl), (px_pre hP hD hK hS hA hTK hZ [0, 1, 2, 3, 4] rfl rfl (by decide) [] rfl)⟩ rfl rfl hl.1 rfl (lv_room (Nat.le_of_ble_eq_true rfl)) dX17_spread_31 ⟨(Nat.le_of_ble_eq_true rfl), (Nat.le_of_ble_eq_true rfl)⟩) (fun r_12 u H locs hw hP hD hK1 hS => ?_)
      have hP : va_P D vwCl (wM ad de 1) H := hP
      have hD : va_D A (wM ad de 1) := hD
      obtain rfl : r_12 = 0 := hw
      refine W.widen (k := 2) (n := 17) (Nat.le_of_ble_eq_true rfl) (Nat.le_of_ble_eq_true rfl) ?_
      have hP9 := hP.sub (ws' := ([(ad 40, .inr (22, [.int 1, .int 0, .int 0, .int 0, .ref (ad 41), .ref (ad 42), .ref (ad 43), .ref (ad 44), .int 500, .int 700, .int 10, .int 200, .ref (ad 45)]))])) [0] rfl
      have hD9 := hD.sub (ws' := ([(ad 40, .inr (22, [.int 1, .int 0, .int 0, .int 0, .ref (ad 41), .ref (ad 42), .ref (ad 43), .ref (ad 44), .int 500, .int 700, .int 10, .int 200, .ref (ad 45)]))])) [0] (by decide) rfl
      have hK9 := hK.sub (tys' := []) [] rfl
      exact W.iret (v := 0) hx hb hr (fun t ht hW => ⟨⟨0, (1, [.int 0, .int 0, .int 0, .ref (ad 41), .ref (ad 42), .ref (ad 43), .ref (ad 44), .int 500, .int 700, .int 10, .int 200, .ref (ad 45)]), rfl, (by first | exact ⟨rfl, rfl⟩ | exact ⟨rfl, rfl, by assumption⟩ | exact Or.inl ⟨rfl, rfl, by assumption⟩ | exact Or.inr ⟨rfl, rfl, by assumption⟩ | exact Or.inl ⟨rfl, rfl, Or.inl (by assumption)⟩ | exact Or.inl ⟨rfl, rfl, Or.inr (by assumption)⟩ | exact Or.inr ⟨rfl, rfl, by assumption, by assumption⟩), ⟨by rw [ht]; exact hP9, va_K.moved hW.alike hK9, hD9⟩⟩, hS.F ht⟩) hS.2.2 dX17_spread_34 hlocks
