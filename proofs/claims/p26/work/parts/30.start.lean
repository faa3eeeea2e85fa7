/-! WHAT THE START GIVES -/
theorem tb_in {w : Cond} (h : w ∈ tables_1) : w ∈ lw_tbl := List.mem_append_right _ h
set_option maxRecDepth 20000 in
theorem nest_in : ∀ w ∈ nestL.map (fun q => Cond.methodLinkNest q.1 q.2.1 q.2.2.1 q.2.2.2), w ∈ tables_1 := in_places _ [25, 502, 526, 625, 309, 349, 352, 443, 468, 695] (by decide +kernel)
set_option maxRecDepth 20000 in
theorem bad_in : ∀ w ∈ badL, w ∈ tables_1 := in_places _ [203, 205, 207, 287, 269, 201] (by decide +kernel)
set_option maxRecDepth 20000 in
theorem str_in : ∀ w ∈ strL.map (fun q => Cond.stringRef RX5 q.1 q.2), w ∈ tables_1 := in_places _ [730, 276, 283, 284, 294, 327, 332, 333, 382, 675, 683, 685, 240, 326, 366, 516] (by decide +kernel)
set_option maxRecDepth 20000 in
theorem lays_in1 : Cond.laysStatic Bundle.tN "UNASSIGNED_STACK" Bundle.steD ∈ tables_1 := List.mem_of_getElem? (i := 226) (by decide +kernel)
set_option maxRecDepth 20000 in
theorem lays_in2 : Cond.laysStatic Bundle.tN "SUPPRESSED_SENTINEL" Bundle.listD ∈ tables_1 := List.mem_of_getElem? (i := 228) (by decide +kernel)
set_option maxRecDepth 20000 in
theorem lays_in3 : Cond.initialized Bundle.tN ∈ tables_1 := List.mem_of_getElem? (i := 7) (by decide +kernel)
set_option maxRecDepth 20000 in
theorem arr_inI : Cond.arrayClass .int ∈ tables_1 := List.mem_of_getElem? (i := 66) (by decide +kernel)
set_option maxRecDepth 20000 in
theorem str_ex : ∀ q ∈ strL, Cond.exactly (.string RX5 q.1) "java/lang/String" ∈ flatC (Jvm.Cond.and given_1 narrow_1) := by decide +kernel
theorem st_gN {args : Array Value} {s : State} (hts : ∀ w ∈ lw_tbl, w.before args s = true) : gN s := fun q hq => va_Nw.of rfl (hts _ (tb_in (nest_in _ (List.mem_map.mpr ⟨q, hq, rfl⟩))))
theorem st_gTw {args : Array Value} {s : State} (hts : ∀ w ∈ lw_tbl, w.before args s = true) (hgv : (Jvm.Cond.and given_1 narrow_1).before args s = true) : gTw s := by
  refine ⟨fun w hw => va_Nw.of (badL_t w hw) (hts _ (tb_in (bad_in w hw))), fun q hq => ?_⟩
  obtain ⟨a, -, -, -, ha, -⟩ := Cond.exactly_spec (flat_of_before _ hgv _ (str_ex q hq))
  exact ⟨a, vk_R.of (hts _ (tb_in (str_in _ (List.mem_map.mpr ⟨q, hq, rfl⟩)))) ha⟩
set_option maxRecDepth 20000 in
theorem st_gNc {args : Array Value} {s : State} (hgv : (Jvm.Cond.and given_1 narrow_1).before args s = true) : gNc s :=
  ⟨va_Nc.of (flat_of_before _ hgv (Cond.not (.castable ISE IOB)) (by decide +kernel)), va_Nc.of (flat_of_before _ hgv (Cond.not (.castable ISE IAE)) (by decide +kernel)), va_Nc.of (flat_of_before _ hgv (Cond.not (.castable IAE IOB)) (by decide +kernel))⟩
set_option maxRecDepth 20000 in
theorem st_gT {args : Array Value} {s : State} (hts : ∀ w ∈ lw_tbl, w.before args s = true) (hgv : (Jvm.Cond.and given_1 narrow_1).before args s = true) : gT (fun q : Nat => s.heap.size ≤ q) s s.heap :=
  ⟨st_gTw hts hgv, vx_Zqof (hts _ (tb_in lays_in1)) (hts _ (tb_in lays_in3)) (flat_of_before _ hgv _ (by decide +kernel)) (fun a ha h => absurd ha (Nat.not_lt.mpr h)), vx_Zqof (hts _ (tb_in lays_in2)) (hts _ (tb_in lays_in3)) (flat_of_before _ hgv _ (by decide +kernel)) (fun a ha h => absurd ha (Nat.not_lt.mpr h))⟩
set_option maxHeartbeats 4000000 in
set_option maxRecDepth 100000 in
theorem st_known {args : Array Value} {s : State} (hts : ∀ w ∈ lw_tbl, w.before args s = true) : ∃ (dC : Nat → ClassId) (dI : Nat → Nat → Nat) (tI : ClassId), va_K (dC, dI) vwCl [(tI, .int)] s := by
  obtain ⟨c0, iS0, hKn0⟩ := u_known (C := RX0) (T := TX0) (N := 6) (n := 6) hts inX0 (hts _ (tb_in (List.mem_of_getElem? (i := 81) (by decide +kernel))))
  obtain ⟨c1, iS1, hKn1⟩ := u_known (C := RX1) (T := TX1) (N := 2) (n := 2) hts inX1 (hts _ (tb_in (List.mem_of_getElem? (i := 106) (by decide +kernel))))
  obtain ⟨c2, iS2, hKn2⟩ := u_known (C := RX2) (T := TX2) (N := 12) (n := 12) hts inX2 (hts _ (tb_in (List.mem_of_getElem? (i := 24) (by decide +kernel))))
  obtain ⟨c3, iS3, hKn3⟩ := u_known (C := RX3) (T := TX3) (N := 2) (n := 2) hts inX3 (hts _ (tb_in (List.mem_of_getElem? (i := 68) (by decide +kernel))))
  obtain ⟨c4, iS4, hKn4⟩ := u_known (C := RX4) (T := TX4) (N := 4) (n := 4) hts inX4 (hts _ (tb_in (List.mem_of_getElem? (i := 119) (by decide +kernel))))
  obtain ⟨c5, iS5, hKn5⟩ := u_known (C := RX5) (T := TX5) (N := 5) (n := 5) hts inX5 (hts _ (tb_in (List.mem_of_getElem? (i := 16) (by decide +kernel))))
  obtain ⟨tI, kI, cI, h1, h2, h3⟩ := Cond.arrayClass_spec (hts _ (tb_in arr_inI))
  refine ⟨fun k => match k with | 0 => c0 | 1 => c1 | 2 => c2 | 3 => c3 | 4 => c4 | _ => c5, fun k => match k with | 0 => iS0 | 1 => iS1 | 2 => iS2 | 3 => iS3 | 4 => iS4 | _ => iS5, tI, ?_, ?_⟩
  · intro k q hq
    match k, hq with
    | 0, hq => cases hq; exact hKn0
    | 1, hq => cases hq; exact hKn1
    | 2, hq => cases hq; exact hKn2
    | 3, hq => cases hq; exact hKn3
    | 4, hq => cases hq; exact hKn4
    | 5, hq => cases hq; exact hKn5
    | k + 6, hq => simp [vwCl] at hq
  · intro k q hq
    match k, hq with
    | 0, hq =>
      cases hq
      exact ⟨fun n z => ⟨fun k h => (by cases h), kI, h2, cI, h3⟩, h1⟩
    | k + 1, hq => simp at hq
