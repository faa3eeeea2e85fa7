/-! THE LAW'S LOOP AND ITS START -/
theorem inv_ext {S T S' T' : Nat → Nat → Nat} (h : inv S T) (a0 : S' 1 0 = S 1 0) (a1 : S' 1 1 = S 1 1) (a2 : S' 1 2 = S 1 2) (a3 : S' 1 3 = S 1 3) (a4 : S' 1 4 = S 1 4) (a5 : S' 1 5 = S 1 5) (s2 : S' 2 = S 2) (s3 : S' 3 = S 3) (s4 : S' 4 = S 4) (s5 : S' 5 = S 5) (s6 : S' 6 = S 6) (s7 : S' 7 = S 7)
    (u1 : T' 22 1 = T 22 1) (u2 : T' 22 2 = T 22 2) (u3 : T' 22 3 = T 22 3) (u4 : T' 22 4 = T 22 4) (u10 : T' 22 10 = T 22 10) (u11 : T' 22 11 = T 22 11) (t3 : T' 23 = T 23) (t4 : T' 24 = T 24) (t5 : T' 25 = T 25) (t6 : T' 26 = T 26) (t7 : T' 27 = T 27) : inv S' T' := by
  unfold inv wfC wfM lnk netS at h ⊢
  rw [a0, a1, a2, a3, a4, a5, s2, s3, s4, s5, s6, s7, t3, t4, t5, t6, t7, u1, u2, u3, u4, u10, u11]
  exact h
theorem gnm_at {S : Nat → Nat → Nat} {q j : Nat} (h : S q j < 4294967296) : gnm S q j = S q j := Nat.mod_eq_of_lt h
theorem gnm_all {S : Nat → Nat → Nat} {q : Nat} (h : ∀ j, S q j < 4294967296) : gnm S q = S q := funext fun j => gnm_at (h j)
theorem inv_nm {S : Nat → Nat → Nat} (h : inv S S) : inv (gnm S) (gnm S) := by
  obtain ⟨w0, w1, w2, w3, w4, w5, a2, a3, a4, a5, a6, a7⟩ := h.1
  obtain ⟨m1, m2, m3, m4, m10, m11, b3, b4, b5, b6, b7⟩ := h.2.1
  refine inv_ext h (gnm_at (by omega)) (gnm_at (by omega)) (gnm_at (by omega)) (gnm_at (by omega)) (gnm_at (by omega)) (gnm_at (by omega)) (gnm_all fun j => by have := a2 j; omega) (gnm_all fun j => by have := a3 j; omega) (gnm_all fun j => by have := a4 j; omega) (gnm_all fun j => by have := a5 j; omega) (gnm_all fun j => by have := a6 j; omega) (gnm_all fun j => by have := a7 j; omega)
    (gnm_at (by omega)) (gnm_at (by omega)) (gnm_at (by omega)) (gnm_at (by omega)) (gnm_at (by omega)) (gnm_at (by omega)) (gnm_all fun j => by have := b3 j; omega) (gnm_all fun j => by have := b4 j; omega) (gnm_all fun j => by have := b5 j; omega) (gnm_all fun j => by have := b6 j; omega) (gnm_all fun j => by have := b7 j; omega)
theorem nI_sub5 : ∀ L : Fin 5, nI L.val - nI 5 = nI (4294967291 + L.val) := by decide +kernel
set_option maxHeartbeats 4000000 in
set_option maxRecDepth 100000 in
theorem law_loop {X : gC} {b L o : Nat} {xs : Nat → Int32} (K : gOk X cL_law 7 wsL_law RL) (B : gScr X b L xs) (T : gT (g_A X) (g_s X) (g_H X)) (C : gNc (g_s X)) (hl0 : (gz_l (g_z X)).stackTraces = false) (hR : g_R X = room_1)
    (hend : ∀ (O : Nat → Int64) (S : Nat → Nat → Nat) (ca sa : Nat) (lo : List (Nat × Value)), ca ≤ 1073 → sa ≤ 9397 → gG (gY X (oc o (gz_L (g_z X)) O) ca sa) 1419 lo [.int (nI 1)] S) :
    ∀ (n i j : Nat) (O : Nat → Int64) (S : Nat → Nat → Nat) (ca sa : Nat), i = 5 * j → i ≤ L → L + 1 ≤ i + n → ca ≤ 33 + j → sa ≤ 1109 + 6 * j → inv S S → gG (gY X (oc o (gz_L (g_z X)) O) ca sa) 23 [(0, .ref b), (1, .ref (g_ad X 0)), (2, .ref (g_ad X 22)), (3, .ref o), (4, .int (nI (i)))] [] S := by
  have hL := B.2.2.2
  intro n
  induction n with
  | zero =>
    intro i j O S ca sa h1 h2 h3
    omega
  | succ n ih =>
    intro i j O S ca sa hij hiL hn hca hsa h0
    refine gG_nm ?_
    have h := inv_nm h0
    have hU := wfU_nm S
    generalize gnm S = S at h hU ⊢
    have hcz : (g_R X).cells = 1073 := by rw [hR]; rfl
    have hsz : (g_R X).slots = 9397 := by rw [hR]; rfl
    have K1 := gY_ok K (oc o (gz_L (g_z X)) O) (a := ca) (b := sa) (by rw [hcz]; omega) (by rw [hsz]; omega)
    have B1 : gScr (gY X (oc o (gz_L (g_z X)) O) ca sa) b L xs := B
    refine g_iload K1 4 dL_law_23 rfl ?_
    refine g_aload_n K1 0 dL_law_25 rfl ?_
    refine g_slen K1 B1 dL_law_26 ?_
    refine g_iconst K1 5 dL_law_27 (by decide +kernel) ?_
    by_cases h5 : 5 ≤ L
    · refine g_isub (a := L) (b := 5) K1 h5 dL_law_28 ?_
      refine g_icmp_gt (tgt := 1418) (a := i) (b := L - 5) K1 dL_law_29 (by decide) (by omega) (by omega) (fun hg => ?_) (fun hg => ?_)
      · refine g_iconst K1 1 dL_law_1418 (by decide +kernel) ?_
        exact hend O _ ca sa _ (by omega) (by omega)
      refine g_aload_n K1 0 dL_law_32 rfl ?_
      refine g_iload K1 4 dL_law_33 rfl ?_
      refine g_sld (i := i) K1 B1 (by omega) dL_law_35 ?_
      refine g_bipush K1 31 dL_law_36 (by decide +kernel) ?_
      refine g_iand (a := xn xs i) (b := 31) K1 dL_law_38 ?_
      have hm : xn xs i &&& 31 ≤ 31 := Nat.and_le_right
      have hce : ca + 1 ≤ 1073 := by omega
      have hsl : sa + 6 ≤ 9397 := by omega
      have kk : ∀ (O2 : Nat → Int64) (S2 : Nat → Nat → Nat) (cb sb : Nat), inv S2 S2 → cb ≤ ca + 1 → sb ≤ sa + 6 → gG (gY X (oc o (gz_L (g_z X)) O2) cb sb) 1412 [(0, .ref b), (1, .ref (g_ad X 0)), (2, .ref (g_ad X 22)), (3, .ref o), (4, .int (nI (i)))] [] S2 := by
        intro O2 S2 cb sb hI h1 h2
        have K2 := gY_ok K (oc o (gz_L (g_z X)) O2) (a := cb) (b := sb) (by rw [hcz]; omega) (by rw [hsz]; omega)
        refine g_iinc (a := i) (b := i + 5) (lo' := [(4, .int (nI (i + 5))), (0, .ref b), (1, .ref (g_ad X 0)), (2, .ref (g_ad X 22)), (3, .ref o)]) K2 4 dL_law_1412 rfl (gi_inc5 i) (by decide) rfl ?_
        refine g_goto (tgt := 23) K2 dL_law_1415 (by decide) ?_
        refine g_loc (lo' := [(0, .ref b), (1, .ref (g_ad X 0)), (2, .ref (g_ad X 22)), (3, .ref o), (4, .int (nI (i + 5)))]) [1, 2, 3, 4, 0] rfl ?_
        exact ih (i + 5) (j + 1) O2 S2 cb sb (by omega) (by omega) (by omega) (by omega) (by omega) hI
      by_cases q0 : xn xs i &&& 31 = 0
      · refine g_tabIn (k := 0) (tgt := 144) K1 dL_law_39 q0 (by decide) (by decide) rfl (by decide) ?_
        exact case_addNode (X := gY X (oc o (gz_L (g_z X)) O) ca sa) (O := O) K1 B1 T C hl0 hR rfl h hU (by omega) hce hsl kk
      by_cases q1 : xn xs i &&& 31 = 1
      · refine g_tabIn (k := 1) (tgt := 216) K1 dL_law_39 q1 (by decide) (by decide) rfl (by decide) ?_
        exact case_addPipe (X := gY X (oc o (gz_L (g_z X)) O) ca sa) (O := O) K1 B1 T C hl0 hR rfl h hU (by omega) hce hsl kk
      by_cases q2 : xn xs i &&& 31 = 2
      · refine g_tabIn (k := 2) (tgt := 308) K1 dL_law_39 q2 (by decide) (by decide) rfl (by decide) ?_
        exact case_addValve (X := gY X (oc o (gz_L (g_z X)) O) ca sa) (O := O) K1 B1 T C hl0 hR rfl h hU (by omega) hce hsl kk
      by_cases q3 : xn xs i &&& 31 = 3
      · refine g_tabIn (k := 3) (tgt := 376) K1 dL_law_39 q3 (by decide) (by decide) rfl (by decide) ?_
        exact case_setSource (X := gY X (oc o (gz_L (g_z X)) O) ca sa) (O := O) K1 B1 T C hl0 hR rfl h hU (by omega) hce hsl kk
      by_cases q4 : xn xs i &&& 31 = 4
      · refine g_tabIn (k := 4) (tgt := 467) K1 dL_law_39 q4 (by decide) (by decide) rfl (by decide) ?_
        exact case_setStuck (X := gY X (oc o (gz_L (g_z X)) O) ca sa) (O := O) K1 B1 T C hl0 hR rfl h hU (by omega) hce hsl kk
      by_cases q5 : xn xs i &&& 31 = 5
      · refine g_tabIn (k := 5) (tgt := 558) K1 dL_law_39 q5 (by decide) (by decide) rfl (by decide) ?_
        exact case_turn (X := gY X (oc o (gz_L (g_z X)) O) ca sa) (O := O) K1 B1 T C hl0 hR rfl h hU (by omega) hce hsl kk
      by_cases q6 : xn xs i &&& 31 = 6
      · refine g_tabIn (k := 6) (tgt := 649) K1 dL_law_39 q6 (by decide) (by decide) rfl (by decide) ?_
        exact case_nodes (X := gY X (oc o (gz_L (g_z X)) O) ca sa) (O := O) K1 B1 T C hl0 hR rfl h hU (by omega) hce hsl kk
      by_cases q7 : xn xs i &&& 31 = 7
      · refine g_tabIn (k := 7) (tgt := 662) K1 dL_law_39 q7 (by decide) (by decide) rfl (by decide) ?_
        exact case_pipes (X := gY X (oc o (gz_L (g_z X)) O) ca sa) (O := O) K1 B1 T C hl0 hR rfl h hU (by omega) hce hsl kk
      by_cases q8 : xn xs i &&& 31 = 8
      · refine g_tabIn (k := 8) (tgt := 675) K1 dL_law_39 q8 (by decide) (by decide) rfl (by decide) ?_
        exact case_valves (X := gY X (oc o (gz_L (g_z X)) O) ca sa) (O := O) K1 B1 T C hl0 hR rfl h hU (by omega) hce hsl kk
      by_cases q9 : xn xs i &&& 31 = 9
      · refine g_tabIn (k := 9) (tgt := 688) K1 dL_law_39 q9 (by decide) (by decide) rfl (by decide) ?_
        exact case_isNodeDry (X := gY X (oc o (gz_L (g_z X)) O) ca sa) (O := O) K1 B1 T C hl0 hR rfl h hU (by omega) hce hsl kk
      by_cases q10 : xn xs i &&& 31 = 10
      · refine g_tabIn (k := 10) (tgt := 751) K1 dL_law_39 q10 (by decide) (by decide) rfl (by decide) ?_
        exact case_isPipeDry (X := gY X (oc o (gz_L (g_z X)) O) ca sa) (O := O) K1 B1 T C hl0 hR rfl h hU (by omega) hce hsl kk
      by_cases q11 : xn xs i &&& 31 = 11
      · refine g_tabIn (k := 11) (tgt := 814) K1 dL_law_39 q11 (by decide) (by decide) rfl (by decide) ?_
        exact case_supplied (X := gY X (oc o (gz_L (g_z X)) O) ca sa) (O := O) K1 B1 T C hl0 hR rfl h hU (by omega) hce hsl kk
      by_cases q12 : xn xs i &&& 31 = 12
      · refine g_tabIn (k := 12) (tgt := 827) K1 dL_law_39 q12 (by decide) (by decide) rfl (by decide) ?_
        exact case_segments (X := gY X (oc o (gz_L (g_z X)) O) ca sa) (O := O) K1 B1 T C hl0 hR rfl h hU (by omega) hce hsl kk
      by_cases q13 : xn xs i &&& 31 = 13
      · refine g_tabIn (k := 13) (tgt := 840) K1 dL_law_39 q13 (by decide) (by decide) rfl (by decide) ?_
        exact case_segmentOfNode (X := gY X (oc o (gz_L (g_z X)) O) ca sa) (O := O) K1 B1 T C hl0 hR rfl h hU (by omega) hce hsl kk
      by_cases q14 : xn xs i &&& 31 = 14
      · refine g_tabIn (k := 14) (tgt := 896) K1 dL_law_39 q14 (by decide) (by decide) rfl (by decide) ?_
        exact case_segmentOfPipe (X := gY X (oc o (gz_L (g_z X)) O) ca sa) (O := O) K1 B1 T C hl0 hR rfl h hU (by omega) hce hsl kk
      by_cases q15 : xn xs i &&& 31 = 15
      · refine g_tabIn (k := 15) (tgt := 952) K1 dL_law_39 q15 (by decide) (by decide) rfl (by decide) ?_
        exact case_segmentByMerging (X := gY X (oc o (gz_L (g_z X)) O) ca sa) (O := O) K1 B1 T C hl0 hR rfl h hU (by omega) hce hsl kk
      by_cases q16 : xn xs i &&& 31 = 16
      · refine g_tabIn (k := 16) (tgt := 1008) K1 dL_law_39 q16 (by decide) (by decide) rfl (by decide) ?_
        exact case_ring (X := gY X (oc o (gz_L (g_z X)) O) ca sa) (O := O) K1 B1 T C hl0 hR rfl h hU (by omega) hce hsl kk
      by_cases q17 : xn xs i &&& 31 = 17
      · refine g_tabIn (k := 17) (tgt := 1064) K1 dL_law_39 q17 (by decide) (by decide) rfl (by decide) ?_
        exact case_cutOff (X := gY X (oc o (gz_L (g_z X)) O) ca sa) (O := O) K1 B1 T C hl0 hR rfl h hU (by omega) hce hsl kk
      by_cases q18 : xn xs i &&& 31 = 18
      · refine g_tabIn (k := 18) (tgt := 1120) K1 dL_law_39 q18 (by decide) (by decide) rfl (by decide) ?_
        exact case_fewest (X := gY X (oc o (gz_L (g_z X)) O) ca sa) (O := O) K1 B1 T C hl0 hR rfl h hU (by omega) hce hsl kk
      by_cases q19 : xn xs i &&& 31 = 19
      · refine g_tabIn (k := 19) (tgt := 1176) K1 dL_law_39 q19 (by decide) (by decide) rfl (by decide) ?_
        exact case_fewestByTrying (X := gY X (oc o (gz_L (g_z X)) O) ca sa) (O := O) K1 B1 T C hl0 hR rfl h hU (by omega) hce hsl kk
      by_cases q20 : xn xs i &&& 31 = 20
      · refine g_tabIn (k := 20) (tgt := 1232) K1 dL_law_39 q20 (by decide) (by decide) rfl (by decide) ?_
        exact case_distance (X := gY X (oc o (gz_L (g_z X)) O) ca sa) (O := O) K1 B1 T C hl0 hR rfl h hU (by omega) hce hsl kk
      by_cases q21 : xn xs i &&& 31 = 21
      · refine g_tabIn (k := 21) (tgt := 1288) K1 dL_law_39 q21 (by decide) (by decide) rfl (by decide) ?_
        exact case_flushAt (X := gY X (oc o (gz_L (g_z X)) O) ca sa) (O := O) K1 B1 T C hl0 hR rfl h hU (by omega) hce hsl kk
      by_cases q22 : xn xs i &&& 31 = 22
      · refine g_tabIn (k := 22) (tgt := 1344) K1 dL_law_39 q22 (by decide) (by decide) rfl (by decide) ?_
        exact case_walk (X := gY X (oc o (gz_L (g_z X)) O) ca sa) (O := O) K1 B1 T C hl0 hR rfl h hU (by omega) hce hsl kk
      refine g_tabOut (tgt := 1412) K1 dL_law_39 (by omega) (by omega) (by decide) ?_
      exact kk O S ca sa h (by omega) (by omega)
    · refine g_isub' K1 (4294967291 + L) (nI_sub5 ⟨L, by omega⟩) dL_law_28 ?_
      refine g_icmp_gt' (tgt := 1418) (a := i) (b := 4294967291 + L) K1 dL_law_29 (by decide) (by omega) (by omega) (fun hg => ?_) (fun hg => absurd (Or.inl ⟨by omega, by omega⟩) hg)
      refine g_iconst K1 1 dL_law_1418 (by decide +kernel) ?_
      exact hend O _ ca sa _ (by omega) (by omega)

theorem tb_in {w : Cond} (h : w ∈ tables_1) : w ∈ lw_tbl := List.mem_append_right _ h
set_option maxRecDepth 20000 in
theorem nest_in : ∀ w ∈ nestL.map (fun q => Cond.methodLinkNest q.1 q.2.1 q.2.2.1 q.2.2.2), w ∈ tables_1 := in_places _ [26, 521, 545, 641, 194, 197, 306, 216, 487, 711] (by decide +kernel)
set_option maxRecDepth 20000 in
theorem bad_in : ∀ w ∈ badL, w ∈ tables_1 := in_places _ [234, 236, 238, 232, 340, 324] (by decide +kernel)
set_option maxRecDepth 20000 in
theorem str_in : ∀ w ∈ strL.map (fun q => Cond.stringRef RX5 q.1 q.2), w ∈ tables_1 := in_places _ [271, 347, 354, 355, 356, 377, 382, 383, 423, 691, 699, 701, 331, 376, 407, 535] (by decide +kernel)
set_option maxRecDepth 20000 in
theorem lays_in1 : Cond.laysStatic Bundle.tN "UNASSIGNED_STACK" Bundle.steD ∈ tables_1 := List.mem_of_getElem? (i := 257) (by decide +kernel)
set_option maxRecDepth 20000 in
theorem lays_in2 : Cond.laysStatic Bundle.tN "SUPPRESSED_SENTINEL" Bundle.listD ∈ tables_1 := List.mem_of_getElem? (i := 259) (by decide +kernel)
set_option maxRecDepth 20000 in
theorem lays_in3 : Cond.initialized Bundle.tN ∈ tables_1 := List.mem_of_getElem? (i := 8) (by decide +kernel)
set_option maxRecDepth 20000 in
theorem arr_inI : Cond.arrayClass .int ∈ tables_1 := List.mem_of_getElem? (i := 67) (by decide +kernel)
set_option maxRecDepth 20000 in
theorem arr_inL : Cond.arrayClass .long ∈ tables_1 := List.mem_of_getElem? (i := 976) (by decide +kernel)
set_option maxRecDepth 20000 in
theorem str_ex : ∀ q ∈ strL, Cond.exactly (.string RX5 q.1) "java/lang/String" ∈ flatC (Jvm.Cond.and given_1 narrow_1) := by decide +kernel
theorem st_gN {args : Array Value} {s : State} (hts : ∀ w ∈ lw_tbl, w.before args s = true) : gN s := fun q hq => va_Nw.of rfl (hts _ (tb_in (nest_in _ (List.mem_map.mpr ⟨q, hq, rfl⟩))))
theorem st_gTw {args : Array Value} {s : State} (hts : ∀ w ∈ lw_tbl, w.before args s = true) (hgv : (Jvm.Cond.and given_1 narrow_1).before args s = true) : gTw s := by
  refine ⟨fun w hw => va_Nw.of (badL_t w hw) (hts _ (tb_in (bad_in w hw))), fun q hq => ?_⟩
  obtain ⟨a, -, -, -, ha, -⟩ := Cond.exactly_spec (flat_of_before _ hgv _ (str_ex q hq))
  exact ⟨a, vk_R.of (hts _ (tb_in (str_in _ (List.mem_map.mpr ⟨q, hq, rfl⟩)))) ha⟩
set_option maxRecDepth 20000 in
theorem st_gNc {args : Array Value} {s : State} (hgv : (Jvm.Cond.and given_1 narrow_1).before args s = true) : gNc s :=
  ⟨va_Nc.of (flat_of_before _ hgv (Cond.not (.castable ISE IOB)) (by decide +kernel)), va_Nc.of (flat_of_before _ hgv (Cond.not (.castable ISE IAE)) (by decide +kernel)), va_Nc.of (flat_of_before _ hgv (Cond.not (.castable IAE IOB)) (by decide +kernel))⟩
set_option maxRecDepth 20000 in
theorem st_gT {args : Array Value} {s : State} (hts : ∀ w ∈ lw_tbl, w.before args s = true) (hgv : (Jvm.Cond.and given_1 narrow_1).before args s = true) : gT (fun q : Nat => s.heap.size ≤ q) s s.heap :=
  ⟨st_gTw hts hgv, vx_Zqof (hts _ (tb_in lays_in1)) (hts _ (tb_in lays_in3)) (flat_of_before _ hgv _ (by decide +kernel)) (fun a ha h => absurd ha (Nat.not_lt.mpr h)), vx_Zqof (hts _ (tb_in lays_in2)) (hts _ (tb_in lays_in3)) (flat_of_before _ hgv _ (by decide +kernel)) (fun a ha h => absurd ha (Nat.not_lt.mpr h))⟩
set_option maxHeartbeats 4000000 in
set_option maxRecDepth 100000 in
theorem st_known {args : Array Value} {s : State} (hts : ∀ w ∈ lw_tbl, w.before args s = true) : ∃ (dC : Nat → ClassId) (dI : Nat → Nat → Nat) (tI : ClassId), va_K (dC, dI) vwCl [(tI, .int)] s := by
  obtain ⟨c0, iS0, hKn0⟩ := u_known (C := RX0) (T := TX0) (N := 6) (n := 6) hts inX0 (hts _ (tb_in (List.mem_of_getElem? (i := 82) (by decide +kernel))))
  obtain ⟨c1, iS1, hKn1⟩ := u_known (C := RX1) (T := TX1) (N := 2) (n := 2) hts inX1 (hts _ (tb_in (List.mem_of_getElem? (i := 107) (by decide +kernel))))
  obtain ⟨c2, iS2, hKn2⟩ := u_known (C := RX2) (T := TX2) (N := 12) (n := 12) hts inX2 (hts _ (tb_in (List.mem_of_getElem? (i := 25) (by decide +kernel))))
  obtain ⟨c3, iS3, hKn3⟩ := u_known (C := RX3) (T := TX3) (N := 2) (n := 2) hts inX3 (hts _ (tb_in (List.mem_of_getElem? (i := 69) (by decide +kernel))))
  obtain ⟨c4, iS4, hKn4⟩ := u_known (C := RX4) (T := TX4) (N := 4) (n := 4) hts inX4 (hts _ (tb_in (List.mem_of_getElem? (i := 120) (by decide +kernel))))
  obtain ⟨c5, iS5, hKn5⟩ := u_known (C := RX5) (T := TX5) (N := 5) (n := 5) hts inX5 (hts _ (tb_in (List.mem_of_getElem? (i := 17) (by decide +kernel))))
  obtain ⟨c6, iS6, hKn6⟩ := u_known (C := RX6) (T := TX6) (N := 17) (n := 17) hts inX6 (hts _ (tb_in (List.mem_of_getElem? (i := 740) (by decide +kernel))))
  obtain ⟨tI, kI, cI, h1, h2, h3⟩ := Cond.arrayClass_spec (hts _ (tb_in arr_inI))
  refine ⟨fun k => match k with | 0 => c0 | 1 => c1 | 2 => c2 | 3 => c3 | 4 => c4 | 5 => c5 | _ => c6, fun k => match k with | 0 => iS0 | 1 => iS1 | 2 => iS2 | 3 => iS3 | 4 => iS4 | 5 => iS5 | _ => iS6, tI, ?_, ?_⟩
  · intro k q hq
    match k, hq with
    | 0, hq => cases hq; exact hKn0
    | 1, hq => cases hq; exact hKn1
    | 2, hq => cases hq; exact hKn2
    | 3, hq => cases hq; exact hKn3
    | 4, hq => cases hq; exact hKn4
    | 5, hq => cases hq; exact hKn5
    | 6, hq => cases hq; exact hKn6
    | k + 7, hq => simp [vwCl] at hq
  · intro k q hq
    match k, hq with
    | 0, hq =>
      cases hq
      exact ⟨fun n z => ⟨fun k h => (by cases h), kI, h2, cI, h3⟩, h1⟩
    | k + 1, hq => simp at hq
