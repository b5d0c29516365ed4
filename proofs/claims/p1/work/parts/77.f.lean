set_option maxHeartbeats 4000000 in
set_option maxRecDepth 100000 in
theorem kn_RJ0 {s : State} {b : Nat} (hts0 : ∀ w ∈ lw_tbl, w.before #[Value.ref b] s = true) : ∃ (cC : ClassId) (iS : Nat → Nat), u_Kn s RJ0 TJ0 2 cC iS := u_known (n := 4) hts0 (at2_mem (ws := u_ws RJ0 TJ0 2) [(4, 58), (4, 60)] rfl) (hts0 (.instantiable RJ0 4) (by decide +kernel))

set_option maxHeartbeats 4000000 in
set_option maxRecDepth 100000 in
theorem kn_RJ6 {s : State} {b : Nat} (hts0 : ∀ w ∈ lw_tbl, w.before #[Value.ref b] s = true) : ∃ (cC : ClassId) (iS : Nat → Nat), u_Kn s RJ6 TJ6 1 cC iS := u_known (n := 1) hts0 (at2_mem (ws := u_ws RJ6 TJ6 1) [(10, 108)] rfl) (hts0 (.instantiable RJ6 1) (by decide +kernel))

set_option maxHeartbeats 4000000 in
set_option maxRecDepth 100000 in
theorem kn_RJx00060 {s : State} {b : Nat} (hts0 : ∀ w ∈ lw_tbl, w.before #[Value.ref b] s = true) : ∃ (cC : ClassId) (iS : Nat → Nat), u_Kn s RJx00060 TJx00060 6 cC iS := u_known (n := 6) hts0 (at2_mem (ws := u_ws RJx00060 TJx00060 6) [(4, 46), (4, 47), (4, 48), (4, 49), (4, 50), (4, 51)] rfl) (hts0 (.instantiable RJx00060 6) (by decide +kernel))

set_option maxHeartbeats 4000000 in
set_option maxRecDepth 100000 in
theorem kn_RJx35411 {s : State} {b : Nat} (hts0 : ∀ w ∈ lw_tbl, w.before #[Value.ref b] s = true) : ∃ (cC : ClassId) (iS : Nat → Nat), u_Kn s RJx35411 TJx35411 4 cC iS := u_known (n := 4) hts0 (at2_mem (ws := u_ws RJx35411 TJx35411 4) [(9, 58), (9, 60), (9, 62), (9, 64)] rfl) (hts0 (.instantiable RJx35411 4) (by decide +kernel))

set_option maxHeartbeats 4000000 in
set_option maxRecDepth 100000 in
theorem kn_RJx4a65c {s : State} {b : Nat} (hts0 : ∀ w ∈ lw_tbl, w.before #[Value.ref b] s = true) : ∃ (cC : ClassId) (iS : Nat → Nat), u_Kn s RJx4a65c TJx4a65c 3 cC iS := u_known (n := 3) hts0 (at2_mem (ws := u_ws RJx4a65c TJx4a65c 3) [(7, 149), (7, 145), (7, 147)] rfl) (hts0 (.instantiable RJx4a65c 3) (by decide +kernel))

set_option maxHeartbeats 4000000 in
set_option maxRecDepth 100000 in
theorem kn_RX0 {s : State} {b : Nat} (hts0 : ∀ w ∈ lw_tbl, w.before #[Value.ref b] s = true) : ∃ (cC : ClassId) (iS : Nat → Nat), u_Kn s RX0 TX0 11 cC iS := u_known (n := 11) hts0 (at2_mem (ws := u_ws RX0 TX0 11) [(1, 224), (1, 226), (1, 228), (1, 230), (1, 232), (1, 234), (1, 236), (1, 238), (2, 0), (2, 2), (2, 4)] rfl) (hts0 (.instantiable RX0 11) (by decide +kernel))

set_option maxHeartbeats 4000000 in
set_option maxRecDepth 100000 in
theorem kn_RX1 {s : State} {b : Nat} (hts0 : ∀ w ∈ lw_tbl, w.before #[Value.ref b] s = true) : ∃ (cC : ClassId) (iS : Nat → Nat), u_Kn s RX1 TX1 6 cC iS := u_known (n := 6) hts0 (at2_mem (ws := u_ws RX1 TX1 6) [(1, 184), (1, 186), (1, 188), (1, 190), (1, 192), (1, 194)] rfl) (hts0 (.instantiable RX1 6) (by decide +kernel))

set_option maxHeartbeats 4000000 in
set_option maxRecDepth 100000 in
theorem kn_RX2 {s : State} {b : Nat} (hts0 : ∀ w ∈ lw_tbl, w.before #[Value.ref b] s = true) : ∃ (cC : ClassId) (iS : Nat → Nat), u_Kn s RX2 TX2 12 cC iS := u_known (n := 12) hts0 (at2_mem (ws := u_ws RX2 TX2 12) [(1, 134), (1, 136), (1, 138), (1, 140), (1, 142), (1, 144), (1, 146), (1, 148), (1, 150), (1, 152), (1, 154), (1, 156)] rfl) (hts0 (.instantiable RX2 12) (by decide +kernel))

set_option maxHeartbeats 4000000 in
set_option maxRecDepth 100000 in
theorem kn_RX3 {s : State} {b : Nat} (hts0 : ∀ w ∈ lw_tbl, w.before #[Value.ref b] s = true) : ∃ (cC : ClassId) (iS : Nat → Nat), u_Kn s RX3 TX3 9 cC iS := u_known (n := 9) hts0 (at2_mem (ws := u_ws RX3 TX3 9) [(2, 183), (2, 185), (2, 187), (2, 189), (2, 191), (2, 193), (2, 195), (2, 197), (2, 199)] rfl) (hts0 (.instantiable RX3 9) (by decide +kernel))

set_option maxHeartbeats 4000000 in
set_option maxRecDepth 100000 in
theorem kn_RX4 {s : State} {b : Nat} (hts0 : ∀ w ∈ lw_tbl, w.before #[Value.ref b] s = true) : ∃ (cC : ClassId) (iS : Nat → Nat), u_Kn s RX4 TX4 3 cC iS := u_known (n := 3) hts0 (at2_mem (ws := u_ws RX4 TX4 3) [(2, 63), (2, 65), (2, 67)] rfl) (hts0 (.instantiable RX4 3) (by decide +kernel))

set_option maxHeartbeats 4000000 in
set_option maxRecDepth 100000 in
theorem kn_RX5 {s : State} {b : Nat} (hts0 : ∀ w ∈ lw_tbl, w.before #[Value.ref b] s = true) : ∃ (cC : ClassId) (iS : Nat → Nat), u_Kn s RX5 TX5 13 cC iS := u_known (n := 13) hts0 (at2_mem (ws := u_ws RX5 TX5 13) [(2, 135), (2, 137), (2, 139), (2, 141), (2, 143), (2, 145), (2, 147), (2, 149), (2, 151), (2, 153), (2, 155), (2, 157), (2, 159)] rfl) (hts0 (.instantiable RX5 13) (by decide +kernel))

set_option maxHeartbeats 4000000 in
set_option maxRecDepth 100000 in
theorem kn_RX6 {s : State} {b : Nat} (hts0 : ∀ w ∈ lw_tbl, w.before #[Value.ref b] s = true) : ∃ (cC : ClassId) (iS : Nat → Nat), u_Kn s RX6 TX6 8 cC iS := u_known (n := 8) hts0 (at2_mem (ws := u_ws RX6 TX6 8) [(2, 40), (2, 42), (2, 44), (2, 46), (2, 48), (2, 50), (2, 52), (2, 54)] rfl) (hts0 (.instantiable RX6 8) (by decide +kernel))

set_option maxHeartbeats 4000000 in
set_option maxRecDepth 100000 in
theorem kn_RX7 {s : State} {b : Nat} (hts0 : ∀ w ∈ lw_tbl, w.before #[Value.ref b] s = true) : ∃ (cC : ClassId) (iS : Nat → Nat), u_Kn s RX7 TX7 6 cC iS := u_known (n := 6) hts0 (at2_mem (ws := u_ws RX7 TX7 6) [(2, 92), (2, 94), (2, 96), (2, 98), (2, 100), (2, 102)] rfl) (hts0 (.instantiable RX7 6) (by decide +kernel))

set_option maxHeartbeats 4000000 in
set_option maxRecDepth 100000 in
theorem kn_RX8 {s : State} {b : Nat} (hts0 : ∀ w ∈ lw_tbl, w.before #[Value.ref b] s = true) : ∃ (cC : ClassId) (iS : Nat → Nat), u_Kn s RX8 TX8 2 cC iS := u_known (n := 2) hts0 (at2_mem (ws := u_ws RX8 TX8 2) [(2, 108), (2, 110)] rfl) (hts0 (.instantiable RX8 2) (by decide +kernel))

set_option maxHeartbeats 4000000 in
set_option maxRecDepth 100000 in
theorem kn_RX9 {s : State} {b : Nat} (hts0 : ∀ w ∈ lw_tbl, w.before #[Value.ref b] s = true) : ∃ (cC : ClassId) (iS : Nat → Nat), u_Kn s RX9 TX9 7 cC iS := u_known (n := 7) hts0 (at2_mem (ws := u_ws RX9 TX9 7) [(1, 87), (1, 89), (1, 91), (1, 93), (1, 95), (1, 97), (1, 99)] rfl) (hts0 (.instantiable RX9 7) (by decide +kernel))

set_option maxHeartbeats 4000000 in
set_option maxRecDepth 100000 in
theorem kn_RX10 {s : State} {b : Nat} (hts0 : ∀ w ∈ lw_tbl, w.before #[Value.ref b] s = true) : ∃ (cC : ClassId) (iS : Nat → Nat), u_Kn s RX10 TX10 6 cC iS := u_known (n := 6) hts0 (at2_mem (ws := u_ws RX10 TX10 6) [(2, 214), (2, 216), (2, 218), (2, 220), (2, 222), (2, 224)] rfl) (hts0 (.instantiable RX10 6) (by decide +kernel))

set_option maxHeartbeats 4000000 in
set_option maxRecDepth 100000 in
theorem kn_RX11 {s : State} {b : Nat} (hts0 : ∀ w ∈ lw_tbl, w.before #[Value.ref b] s = true) : ∃ (cC : ClassId) (iS : Nat → Nat), u_Kn s RX11 TX11 6 cC iS := u_known (n := 6) hts0 (at2_mem (ws := u_ws RX11 TX11 6) [(2, 233), (2, 235), (2, 237), (2, 239), (3, 1), (3, 3)] rfl) (hts0 (.instantiable RX11 6) (by decide +kernel))

set_option maxHeartbeats 4000000 in
set_option maxRecDepth 100000 in
theorem kn_RX12 {s : State} {b : Nat} (hts0 : ∀ w ∈ lw_tbl, w.before #[Value.ref b] s = true) : ∃ (cC : ClassId) (iS : Nat → Nat), u_Kn s RX12 TX12 7 cC iS := u_known (n := 7) hts0 (at2_mem (ws := u_ws RX12 TX12 7) [(8, 6), (8, 8), (8, 10), (8, 12), (8, 14), (8, 16), (8, 18)] rfl) (hts0 (.instantiable RX12 7) (by decide +kernel))

set_option maxHeartbeats 4000000 in
set_option maxRecDepth 100000 in
theorem kn_RX13 {s : State} {b : Nat} (hts0 : ∀ w ∈ lw_tbl, w.before #[Value.ref b] s = true) : ∃ (cC : ClassId) (iS : Nat → Nat), u_Kn s RX13 TX13 11 cC iS := u_known (n := 11) hts0 (at2_mem (ws := u_ws RX13 TX13 11) [(8, 156), (8, 158), (8, 160), (8, 162), (8, 164), (8, 166), (8, 168), (8, 170), (8, 172), (8, 174), (8, 176)] rfl) (hts0 (.instantiable RX13 11) (by decide +kernel))

set_option maxHeartbeats 4000000 in
set_option maxRecDepth 100000 in
theorem kn_RX14 {s : State} {b : Nat} (hts0 : ∀ w ∈ lw_tbl, w.before #[Value.ref b] s = true) : ∃ (cC : ClassId) (iS : Nat → Nat), u_Kn s RX14 TX14 8 cC iS := u_known (n := 8) hts0 (at2_mem (ws := u_ws RX14 TX14 8) [(9, 189), (9, 191), (9, 193), (9, 195), (9, 197), (9, 199), (9, 201), (9, 203)] rfl) (hts0 (.instantiable RX14 8) (by decide +kernel))

set_option maxHeartbeats 4000000 in
set_option maxRecDepth 100000 in
theorem kn_RX15 {s : State} {b : Nat} (hts0 : ∀ w ∈ lw_tbl, w.before #[Value.ref b] s = true) : ∃ (cC : ClassId) (iS : Nat → Nat), u_Kn s RX15 TX15 6 cC iS := u_known (n := 6) hts0 (at2_mem (ws := u_ws RX15 TX15 6) [(10, 29), (10, 31), (10, 33), (10, 35), (10, 37), (10, 39)] rfl) (hts0 (.instantiable RX15 6) (by decide +kernel))

set_option maxHeartbeats 4000000 in
set_option maxRecDepth 100000 in
theorem kn_RX16 {s : State} {b : Nat} (hts0 : ∀ w ∈ lw_tbl, w.before #[Value.ref b] s = true) : ∃ (cC : ClassId) (iS : Nat → Nat), u_Kn s RX16 TX16 7 cC iS := u_known (n := 7) hts0 (at2_mem (ws := u_ws RX16 TX16 7) [(8, 224), (8, 226), (8, 228), (8, 230), (8, 232), (8, 234), (8, 236)] rfl) (hts0 (.instantiable RX16 7) (by decide +kernel))

set_option maxHeartbeats 4000000 in
set_option maxRecDepth 100000 in
theorem kn_RX17 {s : State} {b : Nat} (hts0 : ∀ w ∈ lw_tbl, w.before #[Value.ref b] s = true) : ∃ (cC : ClassId) (iS : Nat → Nat), u_Kn s RX17 TX17 13 cC iS := u_known (n := 13) hts0 (at2_mem (ws := u_ws RX17 TX17 13) [(7, 165), (7, 167), (7, 169), (7, 171), (7, 173), (7, 175), (7, 177), (7, 179), (7, 181), (7, 183), (7, 185), (7, 187), (7, 189)] rfl) (hts0 (.instantiable RX17 13) (by decide +kernel))

set_option maxHeartbeats 4000000 in
set_option maxRecDepth 100000 in
theorem law_known {s : State} {b : Nat} (hts0 : ∀ w ∈ lw_tbl, w.before #[Value.ref b] s = true) : ∃ D : va_G, ∀ (c : Nat) (q : vw_C), vwCl[c]? = some q → u_Kn s q.1 q.2.1 q.2.2 (D.1 c) (D.2 c) := by
  have k : ∀ q ∈ vwCl, ∃ (cC : ClassId) (iS : Nat → Nat), u_Kn s q.1 q.2.1 q.2.2 cC iS := List.forall_mem_cons.mpr ⟨kn_RJ0 hts0, List.forall_mem_cons.mpr ⟨kn_RJ6 hts0, List.forall_mem_cons.mpr ⟨kn_RJx00060 hts0, List.forall_mem_cons.mpr ⟨kn_RJx35411 hts0, List.forall_mem_cons.mpr ⟨kn_RJx4a65c hts0, List.forall_mem_cons.mpr ⟨kn_RX0 hts0, List.forall_mem_cons.mpr ⟨kn_RX1 hts0, List.forall_mem_cons.mpr ⟨kn_RX2 hts0, List.forall_mem_cons.mpr ⟨kn_RX3 hts0, List.forall_mem_cons.mpr ⟨kn_RX4 hts0, List.forall_mem_cons.mpr ⟨kn_RX5 hts0, List.forall_mem_cons.mpr ⟨kn_RX6 hts0, List.forall_mem_cons.mpr ⟨kn_RX7 hts0, List.forall_mem_cons.mpr ⟨kn_RX8 hts0, List.forall_mem_cons.mpr ⟨kn_RX9 hts0, List.forall_mem_cons.mpr ⟨kn_RX10 hts0, List.forall_mem_cons.mpr ⟨kn_RX11 hts0, List.forall_mem_cons.mpr ⟨kn_RX12 hts0, List.forall_mem_cons.mpr ⟨kn_RX13 hts0, List.forall_mem_cons.mpr ⟨kn_RX14 hts0, List.forall_mem_cons.mpr ⟨kn_RX15 hts0, List.forall_mem_cons.mpr ⟨kn_RX16 hts0, List.forall_mem_cons.mpr ⟨kn_RX17 hts0, fun _ h => absurd h List.not_mem_nil⟩⟩⟩⟩⟩⟩⟩⟩⟩⟩⟩⟩⟩⟩⟩⟩⟩⟩⟩⟩⟩⟩⟩
  have k2 : ∀ c : Nat, ∃ z : ClassId × (Nat → Nat), ∀ q : vw_C, vwCl[c]? = some q → u_Kn s q.1 q.2.1 q.2.2 z.1 z.2 := by
    intro c
    cases h : vwCl[c]? with
    | none => exact ⟨((0 : Nat), fun _ => 0), fun q hq => by cases hq⟩
    | some q =>
      obtain ⟨cC, iS, hq⟩ := k q (List.mem_of_getElem? h)
      exact ⟨(cC, iS), fun q2 h2 => by cases h2; exact hq⟩
  obtain ⟨F, hF⟩ : ∃ F : Nat → ClassId × (Nat → Nat), ∀ (c : Nat) (q : vw_C), vwCl[c]? = some q → u_Kn s q.1 q.2.1 q.2.2 (F c).1 (F c).2 := ⟨fun c => Classical.choose (k2 c), fun c => Classical.choose_spec (k2 c)⟩
  exact ⟨(fun c => (F c).1, fun c => (F c).2), fun c q h => hF c q h⟩

set_option maxHeartbeats 4000000 in
set_option maxRecDepth 100000 in
theorem ft_1 : ∀ q ∈ tkE, Cond.castable q q ∈ lw_tbl := by decide +kernel

set_option maxHeartbeats 4000000 in
set_option maxRecDepth 100000 in
theorem ft_2 : ∀ q ∈ tkY, Cond.declares q ∈ lw_tbl := by decide +kernel

set_option maxHeartbeats 4000000 in
set_option maxRecDepth 100000 in
theorem ft_3 : ∀ q ∈ tkN, Cond.not (Cond.castable q.1 q.2) ∈ flatC (Jvm.Cond.and given_1 narrow_1) := by decide +kernel

set_option maxHeartbeats 4000000 in
set_option maxRecDepth 100000 in
theorem ft_4 : ∀ q ∈ tkS, Cond.stringRef q.1 q.2.1 q.2.2 ∈ lw_tbl := by decide +kernel

set_option maxHeartbeats 4000000 in
set_option maxRecDepth 100000 in
theorem ft_4b : ∀ q ∈ tkS, Cond.exactly (.string q.1 q.2.1) "java/lang/String" ∈ flatC (Jvm.Cond.and given_1 narrow_1) := by decide +kernel

set_option maxHeartbeats 4000000 in
set_option maxRecDepth 100000 in
theorem ft_5 : ∀ q ∈ tkM, Cond.methodLinkNest q.1 q.2.1 q.2.2.1 q.2.2.2 ∈ lw_tbl := by decide +kernel

set_option maxHeartbeats 4000000 in
set_option maxRecDepth 100000 in
theorem ft_60 : ∀ q ∈ tkW, Cond.declares q.2.1 ∈ lw_tbl := by decide +kernel

set_option maxHeartbeats 4000000 in
set_option maxRecDepth 100000 in
theorem ft_61 : ∀ q ∈ tkW, Cond.interfaceMethod q.2.1.cls q.2.1.cls q.2.1.name q.2.1.desc ∈ lw_tbl := by decide +kernel

set_option maxHeartbeats 4000000 in
set_option maxRecDepth 100000 in
theorem ft_62 : ∀ q ∈ tkW, Cond.publicMethod q.2.2 ∈ lw_tbl := by decide +kernel

set_option maxHeartbeats 4000000 in
set_option maxRecDepth 100000 in
theorem ft_63 : ∀ q ∈ tkW, Cond.unhidden q.1 q.2.1.name q.2.1.desc ∈ lw_tbl := by decide +kernel

set_option maxHeartbeats 4000000 in
set_option maxRecDepth 100000 in
theorem ft_64 : ∀ q ∈ tkW, Cond.castable q.1 q.2.1.cls ∈ lw_tbl := by decide +kernel

set_option maxHeartbeats 4000000 in
set_option maxRecDepth 100000 in
theorem ft_7 : ∀ q ∈ tkF, Cond.fieldLinkNest q.1 q.2.1 q.2.2.1 q.2.2.2.1 q.2.2.2.2.1 q.2.2.2.2.2 ∈ lw_tbl := by decide +kernel

set_option maxHeartbeats 4000000 in
set_option maxRecDepth 100000 in
theorem ft_8 : ∀ q ∈ tkA, Cond.arrayOver (.object q) ∈ lw_tbl := by decide +kernel

set_option maxHeartbeats 4000000 in
set_option maxRecDepth 100000 in
theorem ft_12 : ∀ q ∈ nxW, q ∈ lw_tbl := by decide +kernel

set_option maxHeartbeats 4000000 in
set_option maxRecDepth 100000 in
theorem ft_11 : ∀ q ∈ tkC, Cond.classLink q.1 q.2.1 q.2.2 ∈ lw_tbl := by decide +kernel

set_option maxHeartbeats 4000000 in
set_option maxRecDepth 100000 in
theorem law_TK {s : State} {b : Nat} (hts0 : ∀ w ∈ lw_tbl, w.before #[Value.ref b] s = true) (hgv : (Jvm.Cond.and given_1 narrow_1).before #[Value.ref b] s = true) : TK s := by
  have hf := flat_of_before _ hgv
  refine ⟨fun q h => va_Nw.of rfl (hts0 _ (ft_1 q h)), fun q h => va_Nw.of rfl (hts0 _ (ft_2 q h)), fun q h => va_Nc.of (hf _ (ft_3 q h)), fun q h => ?_, fun q h => va_Nw.of rfl (hts0 _ (ft_5 q h)), fun q h => va_Fw.of (hts0 _ (ft_60 q h)) (hts0 _ (ft_61 q h)) (hts0 _ (ft_62 q h)) (hts0 _ (ft_63 q h)) (hts0 _ (ft_64 q h)), fun q h => va_Nw.of rfl (hts0 _ (ft_7 q h)), fun q h => va_AO.of (hts0 _ (ft_8 q h)), hts0 (.arrayOver (.array .int)) (by decide +kernel), va_Nw.of rfl (hts0 (.castable "PopupwrightModel$Crease" "java/lang/Object") (by decide +kernel)), fun q h => va_Nw.of rfl (hts0 _ (ft_11 q h)), fun q h => va_Nw.of (nxW_ok q h).1 (hts0 _ (ft_12 q h))⟩
  obtain ⟨a, _, _, _, h1, _⟩ := Cond.exactly_spec (hf _ (ft_4b q h))
  exact ⟨a, vk_R.of (hts0 _ (ft_4 q h)) h1⟩

set_option maxHeartbeats 4000000 in
set_option maxRecDepth 100000 in
theorem law_ZK {s : State} {b : Nat} (hts0 : ∀ w ∈ lw_tbl, w.before #[Value.ref b] s = true) (hgv : (Jvm.Cond.and given_1 narrow_1).before #[Value.ref b] s = true) : ∃ de : Nat, ZK de (fun q => s.heap.size ≤ q) s s.heap := by
  have hf := flat_of_before _ hgv
  have hA : ∀ a : Nat, a < s.heap.size → ¬ (fun q : Nat => s.heap.size ≤ q) a := fun a h => Nat.not_le.mpr h
  obtain ⟨de, h1, h2⟩ := va_Tof (ty := .object "java/lang/Object") (N := 0) (f := fun _ => Value.null) (tm := (Term.static "java/util/ArrayList" zDE "[Ljava/lang/Object;")) (by decide) (hf (.arrayOf (Term.static "java/util/ArrayList" zDE "[Ljava/lang/Object;") (.object "java/lang/Object")) (by decide +kernel)) (Cond.eq_int (hf (.eq (.length (Term.static "java/util/ArrayList" zDE "[Ljava/lang/Object;")) (.int 0)) (by decide +kernel)) rfl) (fun j hj => absurd hj (Nat.not_lt_zero j)) hA
  obtain ⟨t, h3, h4⟩ := va_Tof (ty := .int) (N := 19) (f := fun j => Value.int ((fun j => List.getD [65, 63, 60, 56, 52, 39, 33, 25, 16, 0, (-16), (-25), (-33), (-39), (-52), (-56), (-60), (-63), (-65)] j 0) j)) (tm := (Term.static "Popupwright" "ALONG" "[I")) (by decide) (hf (.arrayOf (Term.static "Popupwright" "ALONG" "[I") .int) (by decide +kernel)) (Cond.eq_int (hf (.eq (.length (Term.static "Popupwright" "ALONG" "[I")) (.int 19)) (by decide +kernel)) rfl) (fun j hj => by
    match j, hj with
      | 0, _ => exact Cond.eq_int (hf (.eq (.elem (Term.static "Popupwright" "ALONG" "[I") (.int 0)) (.int 65)) (by decide +kernel)) rfl
      | 1, _ => exact Cond.eq_int (hf (.eq (.elem (Term.static "Popupwright" "ALONG" "[I") (.int 1)) (.int 63)) (by decide +kernel)) rfl
      | 2, _ => exact Cond.eq_int (hf (.eq (.elem (Term.static "Popupwright" "ALONG" "[I") (.int 2)) (.int 60)) (by decide +kernel)) rfl
      | 3, _ => exact Cond.eq_int (hf (.eq (.elem (Term.static "Popupwright" "ALONG" "[I") (.int 3)) (.int 56)) (by decide +kernel)) rfl
      | 4, _ => exact Cond.eq_int (hf (.eq (.elem (Term.static "Popupwright" "ALONG" "[I") (.int 4)) (.int 52)) (by decide +kernel)) rfl
      | 5, _ => exact Cond.eq_int (hf (.eq (.elem (Term.static "Popupwright" "ALONG" "[I") (.int 5)) (.int 39)) (by decide +kernel)) rfl
      | 6, _ => exact Cond.eq_int (hf (.eq (.elem (Term.static "Popupwright" "ALONG" "[I") (.int 6)) (.int 33)) (by decide +kernel)) rfl
      | 7, _ => exact Cond.eq_int (hf (.eq (.elem (Term.static "Popupwright" "ALONG" "[I") (.int 7)) (.int 25)) (by decide +kernel)) rfl
      | 8, _ => exact Cond.eq_int (hf (.eq (.elem (Term.static "Popupwright" "ALONG" "[I") (.int 8)) (.int 16)) (by decide +kernel)) rfl
      | 9, _ => exact Cond.eq_int (hf (.eq (.elem (Term.static "Popupwright" "ALONG" "[I") (.int 9)) (.int 0)) (by decide +kernel)) rfl
      | 10, _ => exact Cond.eq_int (hf (.eq (.elem (Term.static "Popupwright" "ALONG" "[I") (.int 10)) (.int (-16))) (by decide +kernel)) rfl
      | 11, _ => exact Cond.eq_int (hf (.eq (.elem (Term.static "Popupwright" "ALONG" "[I") (.int 11)) (.int (-25))) (by decide +kernel)) rfl
      | 12, _ => exact Cond.eq_int (hf (.eq (.elem (Term.static "Popupwright" "ALONG" "[I") (.int 12)) (.int (-33))) (by decide +kernel)) rfl
      | 13, _ => exact Cond.eq_int (hf (.eq (.elem (Term.static "Popupwright" "ALONG" "[I") (.int 13)) (.int (-39))) (by decide +kernel)) rfl
      | 14, _ => exact Cond.eq_int (hf (.eq (.elem (Term.static "Popupwright" "ALONG" "[I") (.int 14)) (.int (-52))) (by decide +kernel)) rfl
      | 15, _ => exact Cond.eq_int (hf (.eq (.elem (Term.static "Popupwright" "ALONG" "[I") (.int 15)) (.int (-56))) (by decide +kernel)) rfl
      | 16, _ => exact Cond.eq_int (hf (.eq (.elem (Term.static "Popupwright" "ALONG" "[I") (.int 16)) (.int (-60))) (by decide +kernel)) rfl
      | 17, _ => exact Cond.eq_int (hf (.eq (.elem (Term.static "Popupwright" "ALONG" "[I") (.int 17)) (.int (-63))) (by decide +kernel)) rfl
      | 18, _ => exact Cond.eq_int (hf (.eq (.elem (Term.static "Popupwright" "ALONG" "[I") (.int 18)) (.int (-65))) (by decide +kernel)) rfl
      | j + 19, hj => exact absurd hj (by omega)) hA
  exact ⟨de, vx_Zqof (hts0 (.laysStatic Bundle.tN "UNASSIGNED_STACK" Bundle.steD) (by decide +kernel)) (hts0 (.initialized Bundle.tN) (by decide +kernel)) (hf (.isRef (.static Bundle.tN "UNASSIGNED_STACK" Bundle.steD)) (by decide +kernel)) hA, vx_Zqof (hts0 (.laysStatic Bundle.tN "SUPPRESSED_SENTINEL" Bundle.listD) (by decide +kernel)) (hts0 (.initialized Bundle.tN) (by decide +kernel)) (hf (.isRef (.static Bundle.tN "SUPPRESSED_SENTINEL" Bundle.listD)) (by decide +kernel)) hA, va_Zref (hts0 (.laysStatic "java/util/ArrayList" zDE "[Ljava/lang/Object;") (by decide +kernel)) (hts0 (.initialized "java/util/ArrayList") (by decide +kernel)) h1 hA, h2, t, (fun j => List.getD [65, 63, 60, 56, 52, 39, 33, 25, 16, 0, (-16), (-25), (-33), (-39), (-52), (-56), (-60), (-63), (-65)] j 0), va_Zref (hts0 (.laysStatic "Popupwright" "ALONG" "[I") (by decide +kernel)) (hts0 (.initialized "Popupwright") (by decide +kernel)) h3 hA, h4⟩
