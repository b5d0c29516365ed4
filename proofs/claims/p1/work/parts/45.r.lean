set_option maxHeartbeats 4000000 in
set_option maxRecDepth 100000 in
theorem c_laid (l : Launch) (D : va_G) (de : Nat) (ad : Nat → Nat) (c0 : Int32) (sz : Nat) : Met l yX17_laid wsX17_laid ({ frames := 4, cells := 3, slots := 6, locals := 72 } : Room) (va_Pc [.ref (ad 40)] (PX de D ([]) (wM ad de c0) sz)) (va_Qq (fun (r : Option Nat) (u : Nat × ClassId) => r = some u.1) (fun u t => PW D ([(u.2, .array .int)]) (va_A (wM ad de c0) sz) (wM ad de c0 ++ [(u.1, .inl (u.2, 0, .inr (.inr (.inr (.inr (fun _ => none))))))]) t) (va_A (wM ad de c0) sz)) 3 6 (va_A (wM ad de c0) sz) := by
  refine Met.ofW (cc := cX17_laid) (maxL := 12) (ret := (some (.array (.array .int)))) (by decide) rfl ?_
  intro p e s m args below meth c s₁ B hml hv
  obtain ⟨rfl, hsz, hP, hK, hD0, hTK, hZ⟩ := hv
  have hx := B.exec
  have hb := B.bytes
  have hr := B.returns
  have hts := atoms_spec (ws := wsX17_laid) B.pre
  have hown : s.vm.findClass RX17 = some m.cls := findClass_of_methodNamed B.named
  have hlocks := B.notSynchronized
  have hin_RJx4a65c : ∀ w ∈ u_ws RJx4a65c TJx4a65c 3, w ∈ wsX17_laid := by decide +kernel
  have hin_RX17 : ∀ w ∈ u_ws RX17 TX17 13, w ∈ wsX17_laid := by decide +kernel
  subst hsz
  have hD := hD0.self (sz := s.heap.size)
  generalize hAe : va_A (wM ad de c0) s.heap.size = A at hD hZ ⊢
  have hA : ∀ q : Nat, s.heap.size ≤ q → A q := fun q h => by rw [← hAe]; exact Or.inr h
  have hS : va_S A s.heap s.heap [] := va_S.rf
  have hP : va_P D vwCl (wM ad de c0) s.heap := hP
  have hD : va_D A (wM ad de c0) := hD
  have hl := lv_entry ([.ref (ad 40)]) (n := 12) (Nat.le_of_ble_eq_true rfl)
  rw [lg_entry_eq]
  generalize (lg_sl ([.ref (ad 40)]) ++ List.replicate (12 - (lg_sl ([.ref (ad 40)])).length) Slot.unset).toArray = ls at hl ⊢
  have hl : lv_has ls 12 [(0, .ref (ad 40))] := hl
  refine lv_aload_n hx hb dX17_laid_0 rfl (lv_at hl 0 rfl) ?_
  refine va_get (D := D) (ci := 22) (v := .ref (ad 42)) (C := RX17) (T := TX17) (N := 13) hx hb hts hin_RX17 hown hK hP 0 rfl rfl 5 (by decide) (hts (.fieldLink RX17 16 "PopupwrightModel" "folds" "Ljava/util/List;") (by decide +kernel)) (fun _ h9 => h9) rfl dX17_laid_1 ?_
  refine kx_Fi (wc := [(ad 42, .inr (4, [.int 0, .ref de, .int 0]))]) (wr := [(ad 40, .inr (22, [.int c0, .int 0, .int 0, .int 0, .ref (ad 41), .ref (ad 42), .ref (ad 43), .ref (ad 44), .int 500, .int 700, .int 10, .int 200, .ref (ad 45)])), (ad 41, .inr (4, [.int 0, .ref de, .int 0])), (ad 43, .inr (4, [.int 0, .ref de, .int 0])), (ad 44, .inr (4, [.int 0, .ref de, .int 0]))]) hP hD hS hA [2] [0, 1, 3, 4] rfl rfl (by decide) (by decide) (va_runF (As := []) (rest := []) (hK.1 4 _ rfl).2 ⟨hx, hb, hml, hown, hts⟩ (l_size l D de (ad 42) de 0 s.heap.size) (va_cwF 0 hts gX17_laid_Jx4a65c_size_8abf5_f52Jx4a65c rfl rfl rfl (hTK.2.2.2.2.2.1 (RJx4a65c, ⟨"java/util/List", "size", "()I"⟩, yJx4a65c_size_8abf5) (by decide +kernel)) (by decide +kernel) ⟨Nat.le_of_ble_eq_true rfl, Nat.le_of_ble_eq_true rfl⟩) ⟨px_blind, (va_recv hK hP (ci := 4) (q0 := 2) rfl rfl), (px_pre hP hD hK hS hA hTK hZ [2] rfl rfl (by decide) [] rfl)⟩ rfl rfl hl.1 rfl (lv_room (Nat.le_of_ble_eq_true rfl)) dX17_laid_4 ⟨(Nat.le_of_ble_eq_true rfl), (Nat.le_of_ble_eq_true rfl)⟩) (fun r_1 u H locs hw hP hD hK1 hS => ?_)
  have hP : va_P D vwCl ([(ad 40, .inr (22, [.int c0, .int 0, .int 0, .int 0, .ref (ad 41), .ref (ad 42), .ref (ad 43), .ref (ad 44), .int 500, .int 700, .int 10, .int 200, .ref (ad 45)])), (ad 41, .inr (4, [.int 0, .ref de, .int 0])), (ad 43, .inr (4, [.int 0, .ref de, .int 0])), (ad 44, .inr (4, [.int 0, .ref de, .int 0])), (ad 42, .inr (4, [.int 0, .ref de, .int 0]))]) H := hP
  have hD : va_D A ([(ad 40, .inr (22, [.int c0, .int 0, .int 0, .int 0, .ref (ad 41), .ref (ad 42), .ref (ad 43), .ref (ad 44), .int 500, .int 700, .int 10, .int 200, .ref (ad 45)])), (ad 41, .inr (4, [.int 0, .ref de, .int 0])), (ad 43, .inr (4, [.int 0, .ref de, .int 0])), (ad 44, .inr (4, [.int 0, .ref de, .int 0])), (ad 42, .inr (4, [.int 0, .ref de, .int 0]))]) := hD
  obtain rfl : r_1 = 0 := hw
  refine lv_istore_n (lv' := [(1, .int 0), (0, .ref (ad 40))]) hx hb dX17_laid_9 rfl hl (by decide) rfl (fun ls hl => ?_)
  refine lv_iload_n hx hb dX17_laid_10 rfl (lv_at hl 0 rfl) ?_
  refine ka_newqa hx hb hown (hts (.classLink RX17 289 "[I") (by decide +kernel)) hTK.2.2.2.2.2.2.2.2.1 hK hP hD hS hA (N' := 0) (by decide) (by decide) (by decide) (Nat.le_of_ble_eq_true rfl) (Nat.le_of_ble_eq_true rfl) dX17_laid_11 (fun q_2 cAq_2 H hK hP hD hS => ?_)
  have hP : va_P D vwCl ([(ad 40, .inr (22, [.int c0, .int 0, .int 0, .int 0, .ref (ad 41), .ref (ad 42), .ref (ad 43), .ref (ad 44), .int 500, .int 700, .int 10, .int 200, .ref (ad 45)])), (ad 41, .inr (4, [.int 0, .ref de, .int 0])), (ad 43, .inr (4, [.int 0, .ref de, .int 0])), (ad 44, .inr (4, [.int 0, .ref de, .int 0])), (ad 42, .inr (4, [.int 0, .ref de, .int 0])), (q_2, .inl (cAq_2, 0, .inr (.inr (.inr (.inr (fun _ => none))))))]) H := hP
  have hD : va_D A ([(ad 40, .inr (22, [.int c0, .int 0, .int 0, .int 0, .ref (ad 41), .ref (ad 42), .ref (ad 43), .ref (ad 44), .int 500, .int 700, .int 10, .int 200, .ref (ad 45)])), (ad 41, .inr (4, [.int 0, .ref de, .int 0])), (ad 43, .inr (4, [.int 0, .ref de, .int 0])), (ad 44, .inr (4, [.int 0, .ref de, .int 0])), (ad 42, .inr (4, [.int 0, .ref de, .int 0])), (q_2, .inl (cAq_2, 0, .inr (.inr (.inr (.inr (fun _ => none))))))]) := hD
  refine W.widen (k := 1) (n := 0) (Nat.le_of_ble_eq_true rfl) (Nat.le_of_ble_eq_true rfl) ?_
  refine lv_astore_n (lv' := [(2, .ref q_2), (1, .int 0), (0, .ref (ad 40))]) hx hb dX17_laid_14 rfl hl (by decide) rfl (fun ls hl => ?_)
  refine va_new (ci := 4) (fs := [.int 0, .null, .int 0]) (C := RJx4a65c) (T := TJx4a65c) (N := 3) hx hb hts hin_RJx4a65c tyJx4a65c tyJx4a65c_ok hown (hts (.classLink RX17 7 RJx4a65c) (by decide +kernel)) (hts (.instantiable RJx4a65c 3) (by decide +kernel)) (hts (.initialized RJx4a65c) (by decide +kernel)) hK hP hD hS hA rfl (fun j hj => by have hj9 : j < 3 := hj; (match j, hj9 with | 0, _ => rfl | 1, _ => rfl | 2, _ => rfl)) (Nat.le_of_ble_eq_true rfl) (Nat.le_of_ble_eq_true rfl) dX17_laid_15 (fun q_3 H hP hD hS => ?_)
  have hP : va_P D vwCl ([(ad 40, .inr (22, [.int c0, .int 0, .int 0, .int 0, .ref (ad 41), .ref (ad 42), .ref (ad 43), .ref (ad 44), .int 500, .int 700, .int 10, .int 200, .ref (ad 45)])), (ad 41, .inr (4, [.int 0, .ref de, .int 0])), (ad 43, .inr (4, [.int 0, .ref de, .int 0])), (ad 44, .inr (4, [.int 0, .ref de, .int 0])), (ad 42, .inr (4, [.int 0, .ref de, .int 0])), (q_2, .inl (cAq_2, 0, .inr (.inr (.inr (.inr (fun _ => none)))))), (q_3, .inr (4, [.int 0, .null, .int 0]))]) H := hP
  have hD : va_D A ([(ad 40, .inr (22, [.int c0, .int 0, .int 0, .int 0, .ref (ad 41), .ref (ad 42), .ref (ad 43), .ref (ad 44), .int 500, .int 700, .int 10, .int 200, .ref (ad 45)])), (ad 41, .inr (4, [.int 0, .ref de, .int 0])), (ad 43, .inr (4, [.int 0, .ref de, .int 0])), (ad 44, .inr (4, [.int 0, .ref de, .int 0])), (ad 42, .inr (4, [.int 0, .ref de, .int 0])), (q_2, .inl (cAq_2, 0, .inr (.inr (.inr (.inr (fun _ => none)))))), (q_3, .inr (4, [.int 0, .null, .int 0]))]) := hD
  refine W.widen (k := 2) (n := 3) (Nat.le_of_ble_eq_true rfl) (Nat.le_of_ble_eq_true rfl) ?_
  refine lv_dup hx hb dX17_laid_18 rfl ?_
  refine kx_v (wc := [(q_3, .inr (4, [.int 0, .null, .int 0]))]) (wr := [(ad 40, .inr (22, [.int c0, .int 0, .int 0, .int 0, .ref (ad 41), .ref (ad 42), .ref (ad 43), .ref (ad 44), .int 500, .int 700, .int 10, .int 200, .ref (ad 45)])), (ad 41, .inr (4, [.int 0, .ref de, .int 0])), (ad 43, .inr (4, [.int 0, .ref de, .int 0])), (ad 44, .inr (4, [.int 0, .ref de, .int 0])), (ad 42, .inr (4, [.int 0, .ref de, .int 0])), (q_2, .inl (cAq_2, 0, .inr (.inr (.inr (.inr (fun _ => none))))))]) hP hD hS hA [6] [0, 1, 2, 3, 4, 5] rfl rfl (by decide) (by decide) (va_runI (As := []) (rest := [.ref q_3]) ⟨hx, hb, hml, hown, hts⟩ (l_new l D de q_3 H.size) (cwI 0 hts gX17_laid_Jx4a65c_init_da8c8 rfl rfl rfl (hts (.initialized RJx4a65c) (by decide +kernel)) (hts (.methodLink RX17 9 yJx4a65c_init_da8c8) (by decide +kernel)) (hts (.instanceMethod yJx4a65c_init_da8c8) (by decide +kernel)) rfl (by decide +kernel) ⟨Nat.le_of_ble_eq_true rfl, Nat.le_of_ble_eq_true rfl⟩) ⟨px_blind, (px_pre hP hD hK hS hA hTK hZ [6] rfl rfl (by decide) [] rfl)⟩ rfl rfl hl.1 rfl (lv_room (Nat.le_of_ble_eq_true rfl)) dX17_laid_19 ⟨(Nat.le_of_ble_eq_true rfl), (Nat.le_of_ble_eq_true rfl)⟩) (fun u H locs hw hP hD hK1 hS => ?_)
  have hP : va_P D vwCl ([(ad 40, .inr (22, [.int c0, .int 0, .int 0, .int 0, .ref (ad 41), .ref (ad 42), .ref (ad 43), .ref (ad 44), .int 500, .int 700, .int 10, .int 200, .ref (ad 45)])), (ad 41, .inr (4, [.int 0, .ref de, .int 0])), (ad 43, .inr (4, [.int 0, .ref de, .int 0])), (ad 44, .inr (4, [.int 0, .ref de, .int 0])), (ad 42, .inr (4, [.int 0, .ref de, .int 0])), (q_2, .inl (cAq_2, 0, .inr (.inr (.inr (.inr (fun _ => none)))))), (q_3, .inr (4, [.int 0, .ref de, .int 0]))]) H := hP
  have hD : va_D A ([(ad 40, .inr (22, [.int c0, .int 0, .int 0, .int 0, .ref (ad 41), .ref (ad 42), .ref (ad 43), .ref (ad 44), .int 500, .int 700, .int 10, .int 200, .ref (ad 45)])), (ad 41, .inr (4, [.int 0, .ref de, .int 0])), (ad 43, .inr (4, [.int 0, .ref de, .int 0])), (ad 44, .inr (4, [.int 0, .ref de, .int 0])), (ad 42, .inr (4, [.int 0, .ref de, .int 0])), (q_2, .inl (cAq_2, 0, .inr (.inr (.inr (.inr (fun _ => none)))))), (q_3, .inr (4, [.int 0, .ref de, .int 0]))]) := hD
  refine W.widen (k := 2) (n := 3) (Nat.le_of_ble_eq_true rfl) (Nat.le_of_ble_eq_true rfl) ?_
  refine lv_astore_n (lv' := [(3, .ref q_3), (2, .ref q_2), (1, .int 0), (0, .ref (ad 40))]) hx hb dX17_laid_22 rfl hl (by decide) rfl (fun ls hl => ?_)
  refine va_new (ci := 4) (fs := [.int 0, .null, .int 0]) (C := RJx4a65c) (T := TJx4a65c) (N := 3) hx hb hts hin_RJx4a65c tyJx4a65c tyJx4a65c_ok hown (hts (.classLink RX17 7 RJx4a65c) (by decide +kernel)) (hts (.instantiable RJx4a65c 3) (by decide +kernel)) (hts (.initialized RJx4a65c) (by decide +kernel)) hK hP hD hS hA rfl (fun j hj => by have hj9 : j < 3 := hj; (match j, hj9 with | 0, _ => rfl | 1, _ => rfl | 2, _ => rfl)) (Nat.le_of_ble_eq_true rfl) (Nat.le_of_ble_eq_true rfl) dX17_laid_23 (fun q_5 H hP hD hS => ?_)
  have hP : va_P D vwCl ([(ad 40, .inr (22, [.int c0, .int 0, .int 0, .int 0, .ref (ad 41), .ref (ad 42), .ref (ad 43), .ref (ad 44), .int 500, .int 700, .int 10, .int 200, .ref (ad 45)])), (ad 41, .inr (4, [.int 0, .ref de, .int 0])), (ad 43, .inr (4, [.int 0, .ref de, .int 0])), (ad 44, .inr (4, [.int 0, .ref de, .int 0])), (ad 42, .inr (4, [.int 0, .ref de, .int 0])), (q_2, .inl (cAq_2, 0, .inr (.inr (.inr (.inr (fun _ => none)))))), (q_3, .inr (4, [.int 0, .ref de, .int 0])), (q_5, .inr (4, [.int 0, .null, .int 0]))]) H := hP
  have hD : va_D A ([(ad 40, .inr (22, [.int c0, .int 0, .int 0, .int 0, .ref (ad 41), .ref (ad 42), .ref (ad 43), .ref (ad 44), .int 500, .int 700, .int 10, .int 200, .ref (ad 45)])), (ad 41, .inr (4, [.int 0, .ref de, .int 0])), (ad 43, .inr (4, [.int 0, .ref de, .int 0])), (ad 44, .inr (4, [.int 0, .ref de, .int 0])), (ad 42, .inr (4, [.int 0, .ref de, .int 0])), (q_2, .inl (cAq_2, 0, .inr (.inr (.inr (.inr (fun _ => none)))))), (q_3, .inr (4, [.int 0, .ref de, .int 0])), (q_5, .inr (4, [.int 0, .null, .int 0]))]) := hD
  refine W.widen (k := 3) (n := 6) (Nat.le_of_ble_eq_true rfl) (Nat.le_of_ble_eq_true rfl) ?_
  refine lv_dup hx hb dX17_laid_26 rfl ?_
  refine kx_v (wc := [(q_5, .inr (4, [.int 0, .null, .int 0]))]) (wr := [(ad 40, .inr (22, [.int c0, .int 0, .int 0, .int 0, .ref (ad 41), .ref (ad 42), .ref (ad 43), .ref (ad 44), .int 500, .int 700, .int 10, .int 200, .ref (ad 45)])), (ad 41, .inr (4, [.int 0, .ref de, .int 0])), (ad 43, .inr (4, [.int 0, .ref de, .int 0])), (ad 44, .inr (4, [.int 0, .ref de, .int 0])), (ad 42, .inr (4, [.int 0, .ref de, .int 0])), (q_2, .inl (cAq_2, 0, .inr (.inr (.inr (.inr (fun _ => none)))))), (q_3, .inr (4, [.int 0, .ref de, .int 0]))]) hP hD hS hA [7] [0, 1, 2, 3, 4, 5, 6] rfl rfl (by decide) (by decide) (va_runI (As := []) (rest := [.ref q_5]) ⟨hx, hb, hml, hown, hts⟩ (l_new l D de q_5 H.size) (cwI 0 hts gX17_laid_Jx4a65c_init_da8c8 rfl rfl rfl (hts (.initialized RJx4a65c) (by decide +kernel)) (hts (.methodLink RX17 9 yJx4a65c_init_da8c8) (by decide +kernel)) (hts (.instanceMethod yJx4a65c_init_da8c8) (by decide +kernel)) rfl (by decide +kernel) ⟨Nat.le_of_ble_eq_true rfl, Nat.le_of_ble_eq_true rfl⟩) ⟨px_blind, (px_pre hP hD hK hS hA hTK hZ [7] rfl rfl (by decide) [] rfl)⟩ rfl rfl hl.1 rfl (lv_room (Nat.le_of_ble_eq_true rfl)) dX17_laid_27 ⟨(Nat.le_of_ble_eq_true rfl), (Nat.le_of_ble_eq_true rfl)⟩) (fun u H locs hw hP hD hK1 hS => ?_)
  have hP : va_P D vwCl ([(ad 40, .inr (22, [.int c0, .int 0, .int 0, .int 0, .ref (ad 41), .ref (ad 42), .ref (ad 43), .ref (ad 44), .int 500, .int 700, .int 10, .int 200, .ref (ad 45)])), (ad 41, .inr (4, [.int 0, .ref de, .int 0])), (ad 43, .inr (4, [.int 0, .ref de, .int 0])), (ad 44, .inr (4, [.int 0, .ref de, .int 0])), (ad 42, .inr (4, [.int 0, .ref de, .int 0])), (q_2, .inl (cAq_2, 0, .inr (.inr (.inr (.inr (fun _ => none)))))), (q_3, .inr (4, [.int 0, .ref de, .int 0])), (q_5, .inr (4, [.int 0, .ref de, .int 0]))]) H := hP
  have hD : va_D A ([(ad 40, .inr (22, [.int c0, .int 0, .int 0, .int 0, .ref (ad 41), .ref (ad 42), .ref (ad 43), .ref (ad 44), .int 500, .int 700, .int 10, .int 200, .ref (ad 45)])), (ad 41, .inr (4, [.int 0, .ref de, .int 0])), (ad 43, .inr (4, [.int 0, .ref de, .int 0])), (ad 44, .inr (4, [.int 0, .ref de, .int 0])), (ad 42, .inr (4, [.int 0, .ref de, .int 0])), (q_2, .inl (cAq_2, 0, .inr (.inr (.inr (.inr (fun _ => none)))))), (q_3, .inr (4, [.int 0, .ref de, .int 0])), (q_5, .inr (4, [.int 0, .ref de, .int 0]))]) := hD
  refine W.widen (k := 3) (n := 6) (Nat.le_of_ble_eq_true rfl) (Nat.le_of_ble_eq_true rfl) ?_
  refine lv_astore (lv' := [(4, .ref q_5), (3, .ref q_3), (2, .ref q_2), (1, .int 0), (0, .ref (ad 40))]) hx hb dX17_laid_30 hl (by decide) rfl (fun ls hl => ?_)
  refine lv_iconst (v := 0) hx hb dX17_laid_32 (by decide) ?_
  refine lv_istore (lv' := [(5, .int 0), (4, .ref q_5), (3, .ref q_3), (2, .ref q_2), (1, .int 0), (0, .ref (ad 40))]) hx hb dX17_laid_33 hl (by decide) rfl (fun ls hl => ?_)
  refine lv_iload hx hb dX17_laid_35 (lv_at hl 0 rfl) ?_
  refine lv_iload_n hx hb dX17_laid_37 rfl (lv_at hl 4 rfl) ?_
  refine lv_icmp_ge (tgt := 524) hx hb dX17_laid_38 (by decide) (fun _ => ?_) (fun h_ => absurd (by decide) h_)
  refine lv_aload_n hx hb dX17_laid_524 rfl (lv_at hl 3 rfl) ?_
  refine W.widen (k := 3) (n := 6) (Nat.le_of_ble_eq_true rfl) (Nat.le_of_ble_eq_true rfl) ?_
  have hP9 := hP.sub (ws' := (wM ad de c0 ++ [(q_2, .inl (cAq_2, 0, .inr (.inr (.inr (.inr (fun _ => none))))))])) [0, 1, 4, 2, 3, 5] rfl
  have hD9 := hD.sub (ws' := (wM ad de c0 ++ [(q_2, .inl (cAq_2, 0, .inr (.inr (.inr (.inr (fun _ => none))))))])) [0, 1, 4, 2, 3, 5] (by decide) rfl
  have hK9 := hK.sub (tys' := [(cAq_2, (.array .int))]) [0] rfl
  exact W.aret (v := .ref q_2) hx hb hr (Or.inr ⟨_, rfl⟩) (Or.inr ⟨_, rfl⟩) (fun t ht hW => ⟨⟨some q_2, (q_2, cAq_2), rfl, rfl, ⟨by rw [ht]; exact hP9, va_K.moved hW.alike hK9, hD9⟩⟩, hS.F ht⟩) hS.2.2 dX17_laid_525 hlocks

set_option maxHeartbeats 4000000 in
set_option maxRecDepth 100000 in
theorem m_plates (l : Launch) (D : va_G) (de : Nat) (ad : Nat → Nat) (c0 : Int32) (p0 : Int32) (sz : Nat) : Met l yX17_plates wsX17_plates ({ frames := 5, cells := 6, slots := 9610, locals := 103 } : Room) (va_Pc [.ref (ad 40), .int p0] (PX de D ([]) (wM ad de c0) sz)) (va_Qi (fun (r : Int32) (u : Int32 × List Value) => (u.1 = 1 ∧ r = 0 ∧ inR p0 0 99 = 0) ∨ (u.1 = 0 ∧ r = 0 ∧ ¬ inR p0 0 99 = 0)) (fun u t => PW D ([]) (va_A (wM ad de c0) sz) ([(ad 40, .inr (22, .int u.1 :: u.2))]) t) (va_A (wM ad de c0) sz)) 6 9610 (va_A (wM ad de c0) sz) := by
  refine Met.ofW (cc := cX17_plates) (maxL := 8) (ret := (some .int)) (by decide) rfl ?_
  intro p e s m args below meth c s₁ B hml hv
  obtain ⟨rfl, hsz, hP, hK, hD0, hTK, hZ⟩ := hv
  have hx := B.exec
  have hb := B.bytes
  have hr := B.returns
  have hts := atoms_spec (ws := wsX17_plates) B.pre
  have hown : s.vm.findClass RX17 = some m.cls := findClass_of_methodNamed B.named
  have hlocks := B.notSynchronized
  have hin_RX17 : ∀ w ∈ u_ws RX17 TX17 13, w ∈ wsX17_plates := by decide +kernel
  subst hsz
  have hD := hD0.self (sz := s.heap.size)
  generalize hAe : va_A (wM ad de c0) s.heap.size = A at hD hZ ⊢
  have hA : ∀ q : Nat, s.heap.size ≤ q → A q := fun q h => by rw [← hAe]; exact Or.inr h
  have hS : va_S A s.heap s.heap [] := va_S.rf
  have hP : va_P D vwCl (wM ad de c0) s.heap := hP
  have hD : va_D A (wM ad de c0) := hD
  have hl := lv_entry ([.ref (ad 40), .int p0]) (n := 8) (Nat.le_of_ble_eq_true rfl)
  rw [lg_entry_eq]
  generalize (lg_sl ([.ref (ad 40), .int p0]) ++ List.replicate (8 - (lg_sl ([.ref (ad 40), .int p0])).length) Slot.unset).toArray = ls at hl ⊢
  have hl : lv_has ls 8 [(0, .ref (ad 40)), (1, .int p0)] := hl
  refine lv_aload_n hx hb dX17_plates_0 rfl (lv_at hl 0 rfl) ?_
  refine lv_iconst (v := 0) hx hb dX17_plates_1 (by decide) ?_
  refine va_put (D := D) (ci := 22) (v := .int 0) (ty := .int) (C := RX17) (T := TX17) (N := 13) hx hb hts hin_RX17 tyX17 tyX17_ok nmX17 hown hK hP hD hS 0 rfl rfl 0 (by decide) (hts (.fieldLink RX17 41 "PopupwrightModel" "code" "I") (by decide +kernel)) (fun _ h9 => h9) rfl (by decide +kernel) rfl rfl (Nat.le_of_ble_eq_true rfl) dX17_plates_2 (fun H locs hP hD hS => ?_)
  have hP : va_P D vwCl (wM ad de 0) H := hP
  have hD : va_D A (wM ad de 0) := hD
  refine lv_iload_n hx hb dX17_plates_5 rfl (lv_at hl 1 rfl) ?_
  refine lv_iconst (v := 0) hx hb dX17_plates_6 (by decide) ?_
  refine lv_bipush (v := 99) hx hb dX17_plates_7 (by decide) ?_
  refine kx_i (wc := []) (wr := wM ad de 0) hP hD hS hA [] [0, 1, 2, 3, 4] rfl rfl (by decide) (by decide) (va_runS (As := [.int p0, .int 0, .int 99]) (rest := []) ⟨hx, hb, hml, hown, hts⟩ (c_in l D de p0 0 99 H.size) (va_cwS 3 hts gX17_plates_X17_in rfl rfl rfl (by decide +kernel) ⟨Nat.le_of_ble_eq_true rfl, Nat.le_of_ble_eq_true rfl⟩) ⟨px_blind, (px_pre hP hD hK hS hA hTK hZ [] rfl rfl (by decide) [] rfl)⟩ rfl rfl hl.1 rfl (lv_room (Nat.le_of_ble_eq_true rfl)) dX17_plates_9 ⟨(Nat.le_of_ble_eq_true rfl), (Nat.le_of_ble_eq_true rfl)⟩) (fun r_1 u H locs hw hP hD hK1 hS => ?_)
  have hP : va_P D vwCl (wM ad de 0) H := hP
  have hD : va_D A (wM ad de 0) := hD
  obtain rfl : r_1 = inR p0 0 99 := hw
  refine lv_if_ne (tgt := 21) hx hb dX17_plates_12 (by decide) (fun c_12 => ?_) (fun c_12 => ?_)
  · refine lv_aload_n hx hb dX17_plates_21 rfl (lv_at hl 0 rfl) ?_
    refine kx_q (wc := wM ad de 0) (wr := []) hP hD hS hA [0, 1, 2, 3, 4] [] rfl rfl (by decide) (by decide) (va_runV (As := []) (rest := []) ⟨hx, hb, hml, hown, hts⟩ (c_laid l D de ad 0 H.size) (cwV 0 hts gX17_plates_X17_laid rfl rfl rfl (by decide +kernel) ⟨Nat.le_of_ble_eq_true rfl, Nat.le_of_ble_eq_true rfl⟩) ⟨px_blind, (va_recv hK hP (ci := 22) (q0 := 0) rfl rfl), (px_pre hP hD hK hS hA hTK hZ [0, 1, 2, 3, 4] rfl rfl (by decide) [] rfl)⟩ rfl rfl hl.1 rfl (lv_room (Nat.le_of_ble_eq_true rfl)) dX17_plates_22 ⟨(Nat.le_of_ble_eq_true rfl), (Nat.le_of_ble_eq_true rfl)⟩) (fun r_2 u H locs hw hP hD hK1 hS => ?_)
    obtain ⟨qa_3, ca_4⟩ := u
    have hK := hK.app hK1
    have hK : va_K D vwCl [(ca_4, .array .int)] s := hK
    have hP : va_P D vwCl ([(ad 40, .inr (22, [.int 0, .int 0, .int 0, .int 0, .ref (ad 41), .ref (ad 42), .ref (ad 43), .ref (ad 44), .int 500, .int 700, .int 10, .int 200, .ref (ad 45)])), (ad 41, .inr (4, [.int 0, .ref de, .int 0])), (ad 42, .inr (4, [.int 0, .ref de, .int 0])), (ad 43, .inr (4, [.int 0, .ref de, .int 0])), (ad 44, .inr (4, [.int 0, .ref de, .int 0])), (qa_3, .inl (ca_4, 0, .inr (.inr (.inr (.inr (fun _ => none))))))]) H := hP
    have hD : va_D A ([(ad 40, .inr (22, [.int 0, .int 0, .int 0, .int 0, .ref (ad 41), .ref (ad 42), .ref (ad 43), .ref (ad 44), .int 500, .int 700, .int 10, .int 200, .ref (ad 45)])), (ad 41, .inr (4, [.int 0, .ref de, .int 0])), (ad 42, .inr (4, [.int 0, .ref de, .int 0])), (ad 43, .inr (4, [.int 0, .ref de, .int 0])), (ad 44, .inr (4, [.int 0, .ref de, .int 0])), (qa_3, .inl (ca_4, 0, .inr (.inr (.inr (.inr (fun _ => none))))))]) := hD
    obtain rfl : r_2 = some qa_3 := hw
    refine W.widen (k := 3) (n := 6) (Nat.le_of_ble_eq_true rfl) (Nat.le_of_ble_eq_true rfl) ?_
    refine lv_astore_n (lv' := [(2, .ref qa_3), (0, .ref (ad 40)), (1, .int p0)]) hx hb dX17_plates_25 rfl hl (by decide) rfl (fun ls hl => ?_)
    refine lv_aload_n hx hb dX17_plates_26 rfl (lv_at hl 0 rfl) ?_
    refine lv_ifnonnull (tgt := 36) hx hb dX17_plates_27 (by decide) ?_
    refine lv_sipush (v := 4800) hx hb dX17_plates_36 (by decide) ?_
    refine va_newa (atype := .boolean) (a0 := (4800, .inl (fun _ => 0))) hx hb (hts (.arrayClass .boolean) (by decide +kernel)) rfl hK hP hD hS hA (fun _ => rfl) (by decide) (by decide) (by decide) (Nat.le_of_ble_eq_true rfl) (Nat.le_of_ble_eq_true rfl) dX17_plates_39 (fun q_5 cAq_5 H hK hP hD hS => ?_)
    have hP : va_P D vwCl ([(ad 40, .inr (22, [.int 0, .int 0, .int 0, .int 0, .ref (ad 41), .ref (ad 42), .ref (ad 43), .ref (ad 44), .int 500, .int 700, .int 10, .int 200, .ref (ad 45)])), (ad 41, .inr (4, [.int 0, .ref de, .int 0])), (ad 42, .inr (4, [.int 0, .ref de, .int 0])), (ad 43, .inr (4, [.int 0, .ref de, .int 0])), (ad 44, .inr (4, [.int 0, .ref de, .int 0])), (qa_3, .inl (ca_4, 0, .inr (.inr (.inr (.inr (fun _ => none)))))), (q_5, .inl (cAq_5, 4800, .inl (fun _ => 0)))]) H := hP
    have hD : va_D A ([(ad 40, .inr (22, [.int 0, .int 0, .int 0, .int 0, .ref (ad 41), .ref (ad 42), .ref (ad 43), .ref (ad 44), .int 500, .int 700, .int 10, .int 200, .ref (ad 45)])), (ad 41, .inr (4, [.int 0, .ref de, .int 0])), (ad 42, .inr (4, [.int 0, .ref de, .int 0])), (ad 43, .inr (4, [.int 0, .ref de, .int 0])), (ad 44, .inr (4, [.int 0, .ref de, .int 0])), (qa_3, .inl (ca_4, 0, .inr (.inr (.inr (.inr (fun _ => none)))))), (q_5, .inl (cAq_5, 4800, .inl (fun _ => 0)))]) := hD
    refine W.widen (k := 4) (n := 4806) (Nat.le_of_ble_eq_true rfl) (Nat.le_of_ble_eq_true rfl) ?_
    refine lv_astore_n (lv' := [(3, .ref q_5), (2, .ref qa_3), (0, .ref (ad 40)), (1, .int p0)]) hx hb dX17_plates_41 rfl hl (by decide) rfl (fun ls hl => ?_)
    refine lv_sipush (v := 4800) hx hb dX17_plates_42 (by decide) ?_
    refine va_newa (atype := .boolean) (a0 := (4800, .inl (fun _ => 0))) hx hb (hts (.arrayClass .boolean) (by decide +kernel)) rfl hK hP hD hS hA (fun _ => rfl) (by decide) (by decide) (by decide) (Nat.le_of_ble_eq_true rfl) (Nat.le_of_ble_eq_true rfl) dX17_plates_45 (fun q_6 cAq_6 H hK hP hD hS => ?_)
    have hP : va_P D vwCl ([(ad 40, .inr (22, [.int 0, .int 0, .int 0, .int 0, .ref (ad 41), .ref (ad 42), .ref (ad 43), .ref (ad 44), .int 500, .int 700, .int 10, .int 200, .ref (ad 45)])), (ad 41, .inr (4, [.int 0, .ref de, .int 0])), (ad 42, .inr (4, [.int 0, .ref de, .int 0])), (ad 43, .inr (4, [.int 0, .ref de, .int 0])), (ad 44, .inr (4, [.int 0, .ref de, .int 0])), (qa_3, .inl (ca_4, 0, .inr (.inr (.inr (.inr (fun _ => none)))))), (q_5, .inl (cAq_5, 4800, .inl (fun _ => 0))), (q_6, .inl (cAq_6, 4800, .inl (fun _ => 0)))]) H := hP
    have hD : va_D A ([(ad 40, .inr (22, [.int 0, .int 0, .int 0, .int 0, .ref (ad 41), .ref (ad 42), .ref (ad 43), .ref (ad 44), .int 500, .int 700, .int 10, .int 200, .ref (ad 45)])), (ad 41, .inr (4, [.int 0, .ref de, .int 0])), (ad 42, .inr (4, [.int 0, .ref de, .int 0])), (ad 43, .inr (4, [.int 0, .ref de, .int 0])), (ad 44, .inr (4, [.int 0, .ref de, .int 0])), (qa_3, .inl (ca_4, 0, .inr (.inr (.inr (.inr (fun _ => none)))))), (q_5, .inl (cAq_5, 4800, .inl (fun _ => 0))), (q_6, .inl (cAq_6, 4800, .inl (fun _ => 0)))]) := hD
    refine W.widen (k := 5) (n := 9606) (Nat.le_of_ble_eq_true rfl) (Nat.le_of_ble_eq_true rfl) ?_
    refine lv_astore (lv' := [(4, .ref q_6), (3, .ref q_5), (2, .ref qa_3), (0, .ref (ad 40)), (1, .int p0)]) hx hb dX17_plates_47 hl (by decide) rfl (fun ls hl => ?_)
    refine lv_aload_n hx hb dX17_plates_49 rfl (lv_at hl 3 rfl) ?_
    refine va_get (D := D) (ci := 22) (v := .ref (ad 43)) (C := RX17) (T := TX17) (N := 13) hx hb hts hin_RX17 hown hK hP 0 rfl rfl 6 (by decide) (hts (.fieldLink RX17 19 "PopupwrightModel" "pictures" "Ljava/util/List;") (by decide +kernel)) (fun _ h9 => h9) rfl dX17_plates_50 ?_
    refine kx_Fq (wc := [(ad 43, .inr (4, [.int 0, .ref de, .int 0]))]) (wr := [(ad 40, .inr (22, [.int 0, .int 0, .int 0, .int 0, .ref (ad 41), .ref (ad 42), .ref (ad 43), .ref (ad 44), .int 500, .int 700, .int 10, .int 200, .ref (ad 45)])), (ad 41, .inr (4, [.int 0, .ref de, .int 0])), (ad 42, .inr (4, [.int 0, .ref de, .int 0])), (ad 44, .inr (4, [.int 0, .ref de, .int 0])), (qa_3, .inl (ca_4, 0, .inr (.inr (.inr (.inr (fun _ => none)))))), (q_5, .inl (cAq_5, 4800, .inl (fun _ => 0))), (q_6, .inl (cAq_6, 4800, .inl (fun _ => 0)))]) hP hD hS hA [3] [0, 1, 2, 4, 5, 6, 7] rfl rfl (by decide) (by decide) (va_runF (As := []) (rest := []) (hK.1 4 _ rfl).2 ⟨hx, hb, hml, hown, hts⟩ (l_iterator l D de (ad 43) de 0 H.size) (va_cwF 0 hts gX17_plates_Jx4a65c_iterator_32c93_f171Jx4a65c rfl rfl rfl (hTK.2.2.2.2.2.1 (RJx4a65c, ⟨"java/util/List", "iterator", "()Ljava/util/Iterator;"⟩, yJx4a65c_iterator_32c93) (by decide +kernel)) (by decide +kernel) ⟨Nat.le_of_ble_eq_true rfl, Nat.le_of_ble_eq_true rfl⟩) ⟨px_blind, (va_recv hK hP (ci := 4) (q0 := 3) rfl rfl), (px_pre hP hD hK hS hA hTK hZ [3] rfl rfl (by decide) [] rfl)⟩ rfl rfl hl.1 rfl (lv_room (Nat.le_of_ble_eq_true rfl)) dX17_plates_53 ⟨(Nat.le_of_ble_eq_true rfl), (Nat.le_of_ble_eq_true rfl)⟩) (fun r_7 u H locs hw hP hD hK1 hS => ?_)
    obtain ⟨it_8, rfl⟩ : ∃ z, z = u := ⟨_, rfl⟩
    have hP : va_P D vwCl ([(ad 40, .inr (22, [.int 0, .int 0, .int 0, .int 0, .ref (ad 41), .ref (ad 42), .ref (ad 43), .ref (ad 44), .int 500, .int 700, .int 10, .int 200, .ref (ad 45)])), (ad 41, .inr (4, [.int 0, .ref de, .int 0])), (ad 42, .inr (4, [.int 0, .ref de, .int 0])), (ad 44, .inr (4, [.int 0, .ref de, .int 0])), (qa_3, .inl (ca_4, 0, .inr (.inr (.inr (.inr (fun _ => none)))))), (q_5, .inl (cAq_5, 4800, .inl (fun _ => 0))), (q_6, .inl (cAq_6, 4800, .inl (fun _ => 0))), (it_8, .inr (3, [.int 0, .int (-1), .int 0, .ref (ad 43)])), (ad 43, .inr (4, [.int 0, .ref de, .int 0]))]) H := hP
    have hD : va_D A ([(ad 40, .inr (22, [.int 0, .int 0, .int 0, .int 0, .ref (ad 41), .ref (ad 42), .ref (ad 43), .ref (ad 44), .int 500, .int 700, .int 10, .int 200, .ref (ad 45)])), (ad 41, .inr (4, [.int 0, .ref de, .int 0])), (ad 42, .inr (4, [.int 0, .ref de, .int 0])), (ad 44, .inr (4, [.int 0, .ref de, .int 0])), (qa_3, .inl (ca_4, 0, .inr (.inr (.inr (.inr (fun _ => none)))))), (q_5, .inl (cAq_5, 4800, .inl (fun _ => 0))), (q_6, .inl (cAq_6, 4800, .inl (fun _ => 0))), (it_8, .inr (3, [.int 0, .int (-1), .int 0, .ref (ad 43)])), (ad 43, .inr (4, [.int 0, .ref de, .int 0]))]) := hD
    obtain rfl : r_7 = some it_8 := hw
    refine W.widen (k := 6) (n := 9610) (Nat.le_of_ble_eq_true rfl) (Nat.le_of_ble_eq_true rfl) ?_
    refine lv_astore (lv' := [(5, .ref it_8), (4, .ref q_6), (3, .ref q_5), (2, .ref qa_3), (0, .ref (ad 40)), (1, .int p0)]) hx hb dX17_plates_58 hl (by decide) rfl (fun ls hl => ?_)
    refine lv_aload hx hb dX17_plates_60 (lv_at hl 0 rfl) ?_
    refine kx_Fi (wc := [(it_8, .inr (3, [.int 0, .int (-1), .int 0, .ref (ad 43)])), (ad 43, .inr (4, [.int 0, .ref de, .int 0]))]) (wr := [(ad 40, .inr (22, [.int 0, .int 0, .int 0, .int 0, .ref (ad 41), .ref (ad 42), .ref (ad 43), .ref (ad 44), .int 500, .int 700, .int 10, .int 200, .ref (ad 45)])), (ad 41, .inr (4, [.int 0, .ref de, .int 0])), (ad 42, .inr (4, [.int 0, .ref de, .int 0])), (ad 44, .inr (4, [.int 0, .ref de, .int 0])), (qa_3, .inl (ca_4, 0, .inr (.inr (.inr (.inr (fun _ => none)))))), (q_5, .inl (cAq_5, 4800, .inl (fun _ => 0))), (q_6, .inl (cAq_6, 4800, .inl (fun _ => 0)))]) hP hD hS hA [7, 8] [0, 1, 2, 3, 4, 5, 6] rfl rfl (by decide) (by decide) (va_runF (As := []) (rest := []) (hK.1 3 _ rfl).2 ⟨hx, hb, hml, hown, hts⟩ (l_hasNext l D de it_8 (ad 43) de 0 H.size) (va_cwF 0 hts gX17_plates_Jx35411_hasNext_aae02_f175Jx35411 rfl rfl rfl (hTK.2.2.2.2.2.1 (RJx35411, ⟨"java/util/Iterator", "hasNext", "()Z"⟩, yJx35411_hasNext_aae02) (by decide +kernel)) (by decide +kernel) ⟨Nat.le_of_ble_eq_true rfl, Nat.le_of_ble_eq_true rfl⟩) ⟨px_blind, (va_recv hK hP (ci := 3) (q0 := 7) rfl rfl), (px_pre hP hD hK hS hA hTK hZ [7, 8] rfl rfl (by decide) [] rfl)⟩ rfl rfl hl.1 rfl (lv_room (Nat.le_of_ble_eq_true rfl)) dX17_plates_62 ⟨(Nat.le_of_ble_eq_true rfl), (Nat.le_of_ble_eq_true rfl)⟩) (fun r_9 u H locs hw hP hD hK1 hS => ?_)
    have hP : va_P D vwCl ([(ad 40, .inr (22, [.int 0, .int 0, .int 0, .int 0, .ref (ad 41), .ref (ad 42), .ref (ad 43), .ref (ad 44), .int 500, .int 700, .int 10, .int 200, .ref (ad 45)])), (ad 41, .inr (4, [.int 0, .ref de, .int 0])), (ad 42, .inr (4, [.int 0, .ref de, .int 0])), (ad 44, .inr (4, [.int 0, .ref de, .int 0])), (qa_3, .inl (ca_4, 0, .inr (.inr (.inr (.inr (fun _ => none)))))), (q_5, .inl (cAq_5, 4800, .inl (fun _ => 0))), (q_6, .inl (cAq_6, 4800, .inl (fun _ => 0))), (it_8, .inr (3, [.int 0, .int (-1), .int 0, .ref (ad 43)])), (ad 43, .inr (4, [.int 0, .ref de, .int 0]))]) H := hP
    have hD : va_D A ([(ad 40, .inr (22, [.int 0, .int 0, .int 0, .int 0, .ref (ad 41), .ref (ad 42), .ref (ad 43), .ref (ad 44), .int 500, .int 700, .int 10, .int 200, .ref (ad 45)])), (ad 41, .inr (4, [.int 0, .ref de, .int 0])), (ad 42, .inr (4, [.int 0, .ref de, .int 0])), (ad 44, .inr (4, [.int 0, .ref de, .int 0])), (qa_3, .inl (ca_4, 0, .inr (.inr (.inr (.inr (fun _ => none)))))), (q_5, .inl (cAq_5, 4800, .inl (fun _ => 0))), (q_6, .inl (cAq_6, 4800, .inl (fun _ => 0))), (it_8, .inr (3, [.int 0, .int (-1), .int 0, .ref (ad 43)])), (ad 43, .inr (4, [.int 0, .ref de, .int 0]))]) := hD
    obtain rfl : r_9 = 0 := hw
    refine W.widen (k := 6) (n := 9610) (Nat.le_of_ble_eq_true rfl) (Nat.le_of_ble_eq_true rfl) ?_
    refine lv_if_eq (tgt := 131) hx hb dX17_plates_67 (by decide) (fun _ => ?_) (fun h_ => absurd (by decide) h_)
    refine lv_iconst (v := 0) hx hb dX17_plates_131 (by decide) ?_
    refine lv_istore (lv' := [(5, .int 0), (4, .ref q_6), (3, .ref q_5), (2, .ref qa_3), (0, .ref (ad 40)), (1, .int p0)]) hx hb dX17_plates_132 hl (by decide) rfl (fun ls hl => ?_)
    refine lv_iconst (v := 0) hx hb dX17_plates_134 (by decide) ?_
    refine lv_istore (lv' := [(6, .int 0), (5, .int 0), (4, .ref q_6), (3, .ref q_5), (2, .ref qa_3), (0, .ref (ad 40)), (1, .int p0)]) hx hb dX17_plates_135 hl (by decide) rfl (fun ls hl => ?_)
    have hK := hK.sub (tys' := [(cAq_5, .boolean), (cAq_6, .boolean)]) [1, 2] rfl
    refine W.widen (k := 6 + 0 * 0) (n := 9610 + 0 * 0) (by decide) (by decide) ?_
    refine kl_loop 0 4800 6 0 9610 0 (fun (k : Nat) (H : Heap) (locs : List Loc) (ls : Array Slot) => (True) ∧ va_P D vwCl ([(ad 40, .inr (22, [.int 0, .int 0, .int 0, .int 0, .ref (ad 41), .ref (ad 42), .ref (ad 43), .ref (ad 44), .int 500, .int 700, .int 10, .int 200, .ref (ad 45)])), (q_5, .inl (cAq_5, 4800, .inl (fun _ => 0))), (q_6, .inl (cAq_6, 4800, .inl (fun _ => 0)))]) H ∧ va_D A ([(ad 40, .inr (22, [.int 0, .int 0, .int 0, .int 0, .ref (ad 41), .ref (ad 42), .ref (ad 43), .ref (ad 44), .int 500, .int 700, .int 10, .int 200, .ref (ad 45)])), (q_5, .inl (cAq_5, 4800, .inl (fun _ => 0))), (q_6, .inl (cAq_6, 4800, .inl (fun _ => 0)))]) ∧ va_S A s.heap H locs ∧ lv_has ls 8 [(6, .int (nI k)), (5, .int 0), (4, .ref q_6), (3, .ref q_5), (0, .ref (ad 40)), (1, .int p0)]) (by decide) ?_ ?_ _ _ ls ⟨trivial, hP.sub [0, 5, 6] rfl, hD.sub [0, 5, 6] (by decide) rfl, hS, lv_sub hl [0, 1, 2, 3, 5, 6] rfl⟩
    · intro k H locs ls hak hk hI ih
      obtain ⟨hpr, hP, hD, hS, hl⟩ := hI
      refine lv_iload hx hb dX17_plates_137 (lv_at hl 0 rfl) ?_
      refine lv_aload_n hx hb dX17_plates_139 rfl (lv_at hl 3 rfl) ?_
      refine va_alen hx hb hK hP 1 0 rfl rfl (v := 4800) (show Int32.ofNat 4800 = 4800 by decide) dX17_plates_140 ?_
      refine lv_icmp_ge (tgt := 179) hx hb dX17_plates_141 (by decide) (fun c_141 => absurd c_141 (show ¬ (4800 : Int32) ≤ nI k from nI_ge hk (by decide))) (fun c_141 => ?_)
      refine lv_iload hx hb dX17_plates_144 (lv_at hl 1 rfl) ?_
      refine lv_aload hx hb dX17_plates_146 (lv_at hl 2 rfl) ?_
      refine lv_iload hx hb dX17_plates_148 (lv_at hl 0 rfl) ?_
      refine va_zald hx hb hK hP 2 1 rfl rfl (vp_in_nI hk (by decide)) dX17_plates_150 ?_
      refine W.eq (g2 := F0 m 151 ls [.int 0, .int 0]) rfl ?_
      refine lv_if_eq (tgt := 169) hx hb dX17_plates_151 (by decide) (fun _ => ?_) (fun h_ => absurd (by decide) h_)
      refine lv_iconst (v := 0) hx hb dX17_plates_169 (by decide) ?_
      refine lv_iadd hx hb dX17_plates_170 ?_
      refine lv_topi (fun y_ ey_ => ?_)
      obtain rfl : y_ = 0 := ey_.trans (by decide)
      refine lv_istore (lv' := [(5, .int 0), (6, .int (nI k)), (4, .ref q_6), (3, .ref q_5), (0, .ref (ad 40)), (1, .int p0)]) hx hb dX17_plates_171 hl (by decide) rfl (fun ls hl => ?_)
      refine lv_iinc (v := nI (k + 1)) (lv' := [(6, .int (nI (k + 1))), (5, .int 0), (4, .ref q_6), (3, .ref q_5), (0, .ref (ad 40)), (1, .int p0)]) hx hb dX17_plates_173 hl (k := 1) rfl (nI_1 k) (by decide) rfl (fun ls hl => ?_)
      refine lv_goto (tgt := 137) hx hb dX17_plates_176 (by decide) ?_
      refine W.widen (k := 6 + 0 * (k + 1)) (n := 9610 + 0 * (k + 1)) (by omega) (by omega) ?_
      exact ih _ _ ls ⟨trivial, hP.sub [0, 1, 2] rfl, hD.sub [0, 1, 2] (by decide) rfl, hS, lv_sub hl [0, 1, 2, 3, 4, 5] rfl⟩
    · intro H locs ls hI
      obtain ⟨hpr, hP, hD, hS, hl⟩ := hI
      have hl : lv_has ls 8 [(6, .int 4800), (5, .int 0), (4, .ref q_6), (3, .ref q_5), (0, .ref (ad 40)), (1, .int p0)] := hl
      refine W.widen (k := 6) (n := 9610) (by decide) (by decide) ?_
      refine lv_iload hx hb dX17_plates_137 (lv_at hl 0 rfl) ?_
      refine lv_aload_n hx hb dX17_plates_139 rfl (lv_at hl 3 rfl) ?_
      refine va_alen hx hb hK hP 1 0 rfl rfl (v := 4800) (show Int32.ofNat 4800 = 4800 by decide) dX17_plates_140 ?_
      refine lv_icmp_ge (tgt := 179) hx hb dX17_plates_141 (by decide) (fun _ => ?_) (fun h_ => absurd (by decide) h_)
      refine lv_iload hx hb dX17_plates_179 (lv_at hl 1 rfl) ?_
      refine W.widen (k := 6) (n := 9610) (Nat.le_of_ble_eq_true rfl) (Nat.le_of_ble_eq_true rfl) ?_
      have hP9 := hP.sub (ws' := ([(ad 40, .inr (22, [.int 0, .int 0, .int 0, .int 0, .ref (ad 41), .ref (ad 42), .ref (ad 43), .ref (ad 44), .int 500, .int 700, .int 10, .int 200, .ref (ad 45)]))])) [0] rfl
      have hD9 := hD.sub (ws' := ([(ad 40, .inr (22, [.int 0, .int 0, .int 0, .int 0, .ref (ad 41), .ref (ad 42), .ref (ad 43), .ref (ad 44), .int 500, .int 700, .int 10, .int 200, .ref (ad 45)]))])) [0] (by decide) rfl
      have hK9 := hK.sub (tys' := []) [] rfl
      exact W.iret (v := 0) hx hb hr (fun t ht hW => ⟨⟨0, (0, [.int 0, .int 0, .int 0, .ref (ad 41), .ref (ad 42), .ref (ad 43), .ref (ad 44), .int 500, .int 700, .int 10, .int 200, .ref (ad 45)]), rfl, (by first | exact ⟨rfl, rfl⟩ | exact ⟨rfl, rfl, by assumption⟩ | exact Or.inl ⟨rfl, rfl, by assumption⟩ | exact Or.inr ⟨rfl, rfl, by assumption⟩ | exact Or.inl ⟨rfl, rfl, Or.inl (by assumption)⟩ | exact Or.inl ⟨rfl, rfl, Or.inr (by assumption)⟩ | exact Or.inr ⟨rfl, rfl, by assumption, by assumption⟩), ⟨by rw [ht]; exact hP9, va_K.moved hW.alike hK9, hD9⟩⟩, hS.F ht⟩) hS.2.2 dX17_plates_181 hlocks
  · refine lv_aload_n hx hb dX17_plates_15 rfl (lv_at hl 0 rfl) ?_
    refine lv_iconst (v := 1) hx hb dX17_plates_16 (by decide) ?_
    refine kx_i (wc := wM ad de 0) (wr := []) hP hD hS hA [0, 1, 2, 3, 4] [] rfl rfl (by decide) (by decide) (va_runV (As := [.int 1]) (rest := []) ⟨hx, hb, hml, hown, hts⟩ (c_fails l D de ad 0 1 H.size) (cwV 1 hts gX17_plates_X17_fails rfl rfl rfl (by decide +kernel) ⟨Nat.le_of_ble_eq_true rfl, Nat.le_of_ble_eq_true rfl⟩) ⟨px_blind, (va_recv hK hP (ci := 22) (q0 := 0) rfl rfl), (px_pre hP hD hK hS hA hTK hZ [0, 1, 2, 3, 4] rfl rfl (by decide) [] rfl)⟩ rfl rfl hl.1 rfl (lv_room (Nat.le_of_ble_eq_true rfl)) dX17_plates_17 ⟨(Nat.le_of_ble_eq_true rfl), (Nat.le_of_ble_eq_true rfl)⟩) (fun r_10 u H locs hw hP hD hK1 hS => ?_)
    have hP : va_P D vwCl (wM ad de 1) H := hP
    have hD : va_D A (wM ad de 1) := hD
    obtain rfl : r_10 = 0 := hw
    refine W.widen (k := 6) (n := 9610) (Nat.le_of_ble_eq_true rfl) (Nat.le_of_ble_eq_true rfl) ?_
    have hP9 := hP.sub (ws' := ([(ad 40, .inr (22, [.int 1, .int 0, .int 0, .int 0, .ref (ad 41), .ref (ad 42), .ref (ad 43), .ref (ad 44), .int 500, .int 700, .int 10, .int 200, .ref (ad 45)]))])) [0] rfl
    have hD9 := hD.sub (ws' := ([(ad 40, .inr (22, [.int 1, .int 0, .int 0, .int 0, .ref (ad 41), .ref (ad 42), .ref (ad 43), .ref (ad 44), .int 500, .int 700, .int 10, .int 200, .ref (ad 45)]))])) [0] (by decide) rfl
    have hK9 := hK.sub (tys' := []) [] rfl
    exact W.iret (v := 0) hx hb hr (fun t ht hW => ⟨⟨0, (1, [.int 0, .int 0, .int 0, .ref (ad 41), .ref (ad 42), .ref (ad 43), .ref (ad 44), .int 500, .int 700, .int 10, .int 200, .ref (ad 45)]), rfl, (by first | exact ⟨rfl, rfl⟩ | exact ⟨rfl, rfl, by assumption⟩ | exact Or.inl ⟨rfl, rfl, by assumption⟩ | exact Or.inr ⟨rfl, rfl, by assumption⟩ | exact Or.inl ⟨rfl, rfl, Or.inl (by assumption)⟩ | exact Or.inl ⟨rfl, rfl, Or.inr (by assumption)⟩ | exact Or.inr ⟨rfl, rfl, by assumption, by assumption⟩), ⟨by rw [ht]; exact hP9, va_K.moved hW.alike hK9, hD9⟩⟩, hS.F ht⟩) hS.2.2 dX17_plates_20 hlocks
