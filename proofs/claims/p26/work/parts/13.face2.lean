/-! THE FACE, second part -/
set_option maxHeartbeats 4000000 in
set_option maxRecDepth 100000 in
theorem cX5_setSource_k (Z : gZ) (S : Nat → Nat → Nat) (n i : Nat) (hw : wfC S) (hn : n < S 1 0) (hi : i < 4294967296) : gMd Z yX5_setSource wsX5_setSource { frames := 2, cells := 0, slots := 0, locals := 45 } [.ref (gz_ad Z 0), .int (nI (n)), .int (nI (i))] S (gbit (S 1 3) n) (gup S 1 3 (gwith (S 1 3) n i)) := by
  refine gMd_of (cc := cX5_setSource) (maxL := 3) (ret := (some .boolean)) (by decide +kernel) rfl (Nat.le_of_ble_eq_true rfl) (Or.inr ⟨rfl, gbit_le _ _⟩) (fun X hZ hR K hret => ?_)
  subst hZ
  have K : gOk X cX5_setSource 3 wsX5_setSource RX5 := K
  have hRf : 2 ≤ (g_R X).frames := gR_f hR rfl
  have hRl : 45 ≤ (g_R X).locals := gR_l hR rfl
  have hin5 : ∀ w ∈ u_ws RX5 TX5 5, w ∈ wsX5_setSource := by decide +kernel
  obtain ⟨w0, w1, w2, w3, wsh, wst, a2, a3, a4, a5, a6, a7⟩ := id hw
  show gG X 0 [(0, .ref (g_ad X 0)), (1, .int (nI (n))), (2, .int (nI (i)))] [] S
  refine g_aload_n K 0 dX5_setSource_0 rfl ?_
  refine g_iload_n K 1 dX5_setSource_1 rfl ?_
  refine g_callVv (q := 0) (ci := 5) (As := [.int (nI (n))]) (rest := []) (C := RX5) (T := TX5) (N := 5) K (cX5_requireNode_k (g_z X) S n (hw) (by omega)) (cwV 1 K.1.2.2.2.2 gX5_setSource_X5_requireNode rfl rfl rfl (by decide +kernel) ⟨Nat.le_trans (Nat.le_of_ble_eq_true rfl) hRf, Nat.le_trans (Nat.le_of_ble_eq_true rfl) hRl⟩) rfl rfl rfl rfl (Nat.le_of_ble_eq_true rfl) dX5_setSource_2 ?_
  refine g_aload_n K 0 dX5_setSource_5 rfl ?_
  refine g_getR (q' := 1) (q := 0) (ci := 5) (k := 0) (N := 5) (C := RX5) (T := TX5) (ref := "ValveWalk") K rfl rfl rfl (by decide) hin5 (by decide +kernel) rfl dX5_setSource_6 ?_
  refine g_iload_n K 1 dX5_setSource_9 rfl ?_
  refine g_iload_n K 2 dX5_setSource_10 rfl ?_
  refine g_callVd (q := 1) (ci := 2) (As := [.int (nI (n)), .int (nI (i))]) (rest := []) (C := RX2) (T := TX2) (N := 12) K (cX2_markSource_k (g_z X) S n i (by show S 1 3 < _; omega) (by omega) (by omega)) (cwV 2 K.1.2.2.2.2 gX5_setSource_X2_markSource rfl rfl rfl (by decide +kernel) ⟨Nat.le_trans (Nat.le_of_ble_eq_true rfl) hRf, Nat.le_trans (Nat.le_of_ble_eq_true rfl) hRl⟩) rfl rfl rfl rfl (Nat.le_of_ble_eq_true rfl) dX5_setSource_11 ?_
  exact g_retd hret dX5_setSource_14 rfl rfl

set_option maxHeartbeats 4000000 in
set_option maxRecDepth 100000 in
theorem xX5_setSource_x (Z : gZ) (S : Nat → Nat → Nat) (n i : Nat) (hl0 : (gz_l Z).stackTraces = false) (hw : wfC S) (hun : n < 4294967296) (hn : S 1 0 ≤ n) : gMx Z yX5_setSource wsX5_setSource { frames := 7, cells := 1, slots := 6, locals := 111 } [.ref (gz_ad Z 0), .int (nI (n)), .int (nI (i))] S (S) IOB := by
  refine gMx_of (cc := cX5_setSource) (maxL := 3) (ret := (some .boolean)) hl0 (by decide +kernel) rfl rfl (Nat.le_of_ble_eq_true rfl) rfl rfl (Nat.le_of_ble_eq_true rfl) (Nat.le_of_ble_eq_true rfl) (fun X hZ hR K hTX hce hsl hthr hprop => ?_)
  subst hZ
  have K : gOk X cX5_setSource 3 wsX5_setSource RX5 := K
  have hRf : 7 ≤ (g_R X).frames := gR_f hR rfl
  have hRl : 111 ≤ (g_R X).locals := gR_l hR rfl
  have hin5 : ∀ w ∈ u_ws RX5 TX5 5, w ∈ wsX5_setSource := by decide +kernel
  obtain ⟨w0, w1, w2, w3, wsh, wst, a2, a3, a4, a5, a6, a7⟩ := id hw
  show gG X 0 [(0, .ref (g_ad X 0)), (1, .int (nI (n))), (2, .int (nI (i)))] [] S
  refine g_aload_n K 0 dX5_setSource_0 rfl ?_
  refine g_iload_n K 1 dX5_setSource_1 rfl ?_
  exact g_callVx (q := 0) (ci := 5) (As := [.int (nI (n))]) (rest := []) (C := RX5) (U := TX5) (N := 5) K hTX (xX5_requireNode_x (g_z X) S n hl0 (hw) (by omega) (by omega)) (cwV 1 K.1.2.2.2.2 gX5_setSource_X5_requireNode rfl rfl rfl (by decide +kernel) ⟨Nat.le_trans (Nat.le_of_ble_eq_true rfl) hRf, Nat.le_trans (Nat.le_of_ble_eq_true rfl) hRl⟩) hce hsl rfl rfl rfl rfl (Nat.le_of_ble_eq_true rfl) dX5_setSource_2 (hprop _ _)

set_option maxHeartbeats 4000000 in
set_option maxRecDepth 100000 in
theorem cX5_setStuck_k (Z : gZ) (S : Nat → Nat → Nat) (v i : Nat) (hw : wfC S) (hn : v < S 1 2) (hi : i < 4294967296) : gMd Z yX5_setStuck wsX5_setStuck { frames := 2, cells := 0, slots := 0, locals := 45 } [.ref (gz_ad Z 0), .int (nI (v)), .int (nI (i))] S (gbit (S 1 5) v) (gup S 1 5 (gwith (S 1 5) v i)) := by
  refine gMd_of (cc := cX5_setStuck) (maxL := 3) (ret := (some .boolean)) (by decide +kernel) rfl (Nat.le_of_ble_eq_true rfl) (Or.inr ⟨rfl, gbit_le _ _⟩) (fun X hZ hR K hret => ?_)
  subst hZ
  have K : gOk X cX5_setStuck 3 wsX5_setStuck RX5 := K
  have hRf : 2 ≤ (g_R X).frames := gR_f hR rfl
  have hRl : 45 ≤ (g_R X).locals := gR_l hR rfl
  have hin5 : ∀ w ∈ u_ws RX5 TX5 5, w ∈ wsX5_setStuck := by decide +kernel
  obtain ⟨w0, w1, w2, w3, wsh, wst, a2, a3, a4, a5, a6, a7⟩ := id hw
  show gG X 0 [(0, .ref (g_ad X 0)), (1, .int (nI (v))), (2, .int (nI (i)))] [] S
  refine g_aload_n K 0 dX5_setStuck_0 rfl ?_
  refine g_iload_n K 1 dX5_setStuck_1 rfl ?_
  refine g_callVv (q := 0) (ci := 5) (As := [.int (nI (v))]) (rest := []) (C := RX5) (T := TX5) (N := 5) K (cX5_requireValve_k (g_z X) S v (hw) (by omega)) (cwV 1 K.1.2.2.2.2 gX5_setStuck_X5_requireValve rfl rfl rfl (by decide +kernel) ⟨Nat.le_trans (Nat.le_of_ble_eq_true rfl) hRf, Nat.le_trans (Nat.le_of_ble_eq_true rfl) hRl⟩) rfl rfl rfl rfl (Nat.le_of_ble_eq_true rfl) dX5_setStuck_2 ?_
  refine g_aload_n K 0 dX5_setStuck_5 rfl ?_
  refine g_getR (q' := 1) (q := 0) (ci := 5) (k := 0) (N := 5) (C := RX5) (T := TX5) (ref := "ValveWalk") K rfl rfl rfl (by decide) hin5 (by decide +kernel) rfl dX5_setStuck_6 ?_
  refine g_iload_n K 1 dX5_setStuck_9 rfl ?_
  refine g_iload_n K 2 dX5_setStuck_10 rfl ?_
  refine g_callVd (q := 1) (ci := 2) (As := [.int (nI (v)), .int (nI (i))]) (rest := []) (C := RX2) (T := TX2) (N := 12) K (cX2_markStuck_k (g_z X) S v i (by show S 1 5 < _; omega) (by omega) (by omega)) (cwV 2 K.1.2.2.2.2 gX5_setStuck_X2_markStuck rfl rfl rfl (by decide +kernel) ⟨Nat.le_trans (Nat.le_of_ble_eq_true rfl) hRf, Nat.le_trans (Nat.le_of_ble_eq_true rfl) hRl⟩) rfl rfl rfl rfl (Nat.le_of_ble_eq_true rfl) dX5_setStuck_11 ?_
  exact g_retd hret dX5_setStuck_14 rfl rfl

set_option maxHeartbeats 4000000 in
set_option maxRecDepth 100000 in
theorem xX5_setStuck_x (Z : gZ) (S : Nat → Nat → Nat) (v i : Nat) (hl0 : (gz_l Z).stackTraces = false) (hw : wfC S) (huv : v < 4294967296) (hn : S 1 2 ≤ v) : gMx Z yX5_setStuck wsX5_setStuck { frames := 7, cells := 1, slots := 6, locals := 111 } [.ref (gz_ad Z 0), .int (nI (v)), .int (nI (i))] S (S) IOB := by
  refine gMx_of (cc := cX5_setStuck) (maxL := 3) (ret := (some .boolean)) hl0 (by decide +kernel) rfl rfl (Nat.le_of_ble_eq_true rfl) rfl rfl (Nat.le_of_ble_eq_true rfl) (Nat.le_of_ble_eq_true rfl) (fun X hZ hR K hTX hce hsl hthr hprop => ?_)
  subst hZ
  have K : gOk X cX5_setStuck 3 wsX5_setStuck RX5 := K
  have hRf : 7 ≤ (g_R X).frames := gR_f hR rfl
  have hRl : 111 ≤ (g_R X).locals := gR_l hR rfl
  have hin5 : ∀ w ∈ u_ws RX5 TX5 5, w ∈ wsX5_setStuck := by decide +kernel
  obtain ⟨w0, w1, w2, w3, wsh, wst, a2, a3, a4, a5, a6, a7⟩ := id hw
  show gG X 0 [(0, .ref (g_ad X 0)), (1, .int (nI (v))), (2, .int (nI (i)))] [] S
  refine g_aload_n K 0 dX5_setStuck_0 rfl ?_
  refine g_iload_n K 1 dX5_setStuck_1 rfl ?_
  exact g_callVx (q := 0) (ci := 5) (As := [.int (nI (v))]) (rest := []) (C := RX5) (U := TX5) (N := 5) K hTX (xX5_requireValve_x (g_z X) S v hl0 (hw) (by omega) (by omega)) (cwV 1 K.1.2.2.2.2 gX5_setStuck_X5_requireValve rfl rfl rfl (by decide +kernel) ⟨Nat.le_trans (Nat.le_of_ble_eq_true rfl) hRf, Nat.le_trans (Nat.le_of_ble_eq_true rfl) hRl⟩) hce hsl rfl rfl rfl rfl (Nat.le_of_ble_eq_true rfl) dX5_setStuck_2 (hprop _ _)

set_option maxHeartbeats 4000000 in
set_option maxRecDepth 100000 in
theorem cX5_turn_k (Z : gZ) (S : Nat → Nat → Nat) (v i : Nat) (hw : wfC S) (hn : v < S 1 2) (hs : gbit (S 1 5) v = 0) (hi : i < 4294967296) : gMd Z yX5_turn wsX5_turn { frames := 2, cells := 0, slots := 0, locals := 45 } [.ref (gz_ad Z 0), .int (nI (v)), .int (nI (i))] S (gbit (S 1 4) v) (gup S 1 4 (gwith (S 1 4) v i)) := by
  refine gMd_of (cc := cX5_turn) (maxL := 3) (ret := (some .boolean)) (by decide +kernel) rfl (Nat.le_of_ble_eq_true rfl) (Or.inr ⟨rfl, gbit_le _ _⟩) (fun X hZ hR K hret => ?_)
  subst hZ
  have K : gOk X cX5_turn 3 wsX5_turn RX5 := K
  have hRf : 2 ≤ (g_R X).frames := gR_f hR rfl
  have hRl : 45 ≤ (g_R X).locals := gR_l hR rfl
  have hin5 : ∀ w ∈ u_ws RX5 TX5 5, w ∈ wsX5_turn := by decide +kernel
  obtain ⟨w0, w1, w2, w3, wsh, wst, a2, a3, a4, a5, a6, a7⟩ := id hw
  show gG X 0 [(0, .ref (g_ad X 0)), (1, .int (nI (v))), (2, .int (nI (i)))] [] S
  refine g_aload_n K 0 dX5_turn_0 rfl ?_
  refine g_iload_n K 1 dX5_turn_1 rfl ?_
  refine g_callVv (q := 0) (ci := 5) (As := [.int (nI (v))]) (rest := []) (C := RX5) (T := TX5) (N := 5) K (cX5_requireValve_k (g_z X) S v (hw) (by omega)) (cwV 1 K.1.2.2.2.2 gX5_turn_X5_requireValve rfl rfl rfl (by decide +kernel) ⟨Nat.le_trans (Nat.le_of_ble_eq_true rfl) hRf, Nat.le_trans (Nat.le_of_ble_eq_true rfl) hRl⟩) rfl rfl rfl rfl (Nat.le_of_ble_eq_true rfl) dX5_turn_2 ?_
  refine g_aload_n K 0 dX5_turn_5 rfl ?_
  refine g_getR (q' := 1) (q := 0) (ci := 5) (k := 0) (N := 5) (C := RX5) (T := TX5) (ref := "ValveWalk") K rfl rfl rfl (by decide) hin5 (by decide +kernel) rfl dX5_turn_6 ?_
  refine g_iload_n K 1 dX5_turn_9 rfl ?_
  refine g_callVd (q := 1) (ci := 2) (As := [.int (nI (v))]) (rest := []) (C := RX2) (T := TX2) (N := 12) K (cX2_isStuck_k (g_z X) S v (hw) (by omega)) (cwV 1 K.1.2.2.2.2 gX5_turn_X2_isStuck rfl rfl rfl (by decide +kernel) ⟨Nat.le_trans (Nat.le_of_ble_eq_true rfl) hRf, Nat.le_trans (Nat.le_of_ble_eq_true rfl) hRl⟩) rfl rfl rfl rfl (Nat.le_of_ble_eq_true rfl) dX5_turn_10 ?_
  have h13 := gbit_le (S 1 5) v
  refine g_if_eq (tgt := 26) (a := gbit (S 1 5) v) K dX5_turn_13 (by decide) (by omega) (fun h13_1 => ?_) (fun h13_1 => ?_)
  · refine g_aload_n K 0 dX5_turn_26 rfl ?_
    refine g_getR (q' := 1) (q := 0) (ci := 5) (k := 0) (N := 5) (C := RX5) (T := TX5) (ref := "ValveWalk") K rfl rfl rfl (by decide) hin5 (by decide +kernel) rfl dX5_turn_27 ?_
    refine g_iload_n K 1 dX5_turn_30 rfl ?_
    refine g_iload_n K 2 dX5_turn_31 rfl ?_
    refine g_callVd (q := 1) (ci := 2) (As := [.int (nI (v)), .int (nI (i))]) (rest := []) (C := RX2) (T := TX2) (N := 12) K (cX2_markShut_k (g_z X) S v i (by show S 1 4 < _; omega) (by omega) (by omega)) (cwV 2 K.1.2.2.2.2 gX5_turn_X2_markShut rfl rfl rfl (by decide +kernel) ⟨Nat.le_trans (Nat.le_of_ble_eq_true rfl) hRf, Nat.le_trans (Nat.le_of_ble_eq_true rfl) hRl⟩) rfl rfl rfl rfl (Nat.le_of_ble_eq_true rfl) dX5_turn_32 ?_
    exact g_retd hret dX5_turn_35 rfl rfl
  · exfalso; omega

set_option maxHeartbeats 4000000 in
set_option maxRecDepth 100000 in
theorem xX5_turn_x1 (Z : gZ) (S : Nat → Nat → Nat) (v i : Nat) (hl0 : (gz_l Z).stackTraces = false) (hw : wfC S) (huv : v < 4294967296) (hn : S 1 2 ≤ v) : gMx Z yX5_turn wsX5_turn { frames := 7, cells := 1, slots := 6, locals := 111 } [.ref (gz_ad Z 0), .int (nI (v)), .int (nI (i))] S (S) IOB := by
  refine gMx_of (cc := cX5_turn) (maxL := 3) (ret := (some .boolean)) hl0 (by decide +kernel) rfl rfl (Nat.le_of_ble_eq_true rfl) rfl rfl (Nat.le_of_ble_eq_true rfl) (Nat.le_of_ble_eq_true rfl) (fun X hZ hR K hTX hce hsl hthr hprop => ?_)
  subst hZ
  have K : gOk X cX5_turn 3 wsX5_turn RX5 := K
  have hRf : 7 ≤ (g_R X).frames := gR_f hR rfl
  have hRl : 111 ≤ (g_R X).locals := gR_l hR rfl
  have hin5 : ∀ w ∈ u_ws RX5 TX5 5, w ∈ wsX5_turn := by decide +kernel
  obtain ⟨w0, w1, w2, w3, wsh, wst, a2, a3, a4, a5, a6, a7⟩ := id hw
  show gG X 0 [(0, .ref (g_ad X 0)), (1, .int (nI (v))), (2, .int (nI (i)))] [] S
  refine g_aload_n K 0 dX5_turn_0 rfl ?_
  refine g_iload_n K 1 dX5_turn_1 rfl ?_
  exact g_callVx (q := 0) (ci := 5) (As := [.int (nI (v))]) (rest := []) (C := RX5) (U := TX5) (N := 5) K hTX (xX5_requireValve_x (g_z X) S v hl0 (hw) (by omega) (by omega)) (cwV 1 K.1.2.2.2.2 gX5_turn_X5_requireValve rfl rfl rfl (by decide +kernel) ⟨Nat.le_trans (Nat.le_of_ble_eq_true rfl) hRf, Nat.le_trans (Nat.le_of_ble_eq_true rfl) hRl⟩) hce hsl rfl rfl rfl rfl (Nat.le_of_ble_eq_true rfl) dX5_turn_2 (hprop _ _)

set_option maxHeartbeats 4000000 in
set_option maxRecDepth 100000 in
theorem xX5_turn_x2 (Z : gZ) (S : Nat → Nat → Nat) (v i : Nat) (hl0 : (gz_l Z).stackTraces = false) (hw : wfC S) (hn : v < S 1 2) (hs : gbit (S 1 5) v ≠ 0) (hi : i < 4294967296) : gMx Z yX5_turn wsX5_turn { frames := 6, cells := 1, slots := 6, locals := 90 } [.ref (gz_ad Z 0), .int (nI (v)), .int (nI (i))] S (S) ISE := by
  refine gMx_of (cc := cX5_turn) (maxL := 3) (ret := (some .boolean)) hl0 (by decide +kernel) rfl rfl (Nat.le_of_ble_eq_true rfl) rfl rfl (Nat.le_of_ble_eq_true rfl) (Nat.le_of_ble_eq_true rfl) (fun X hZ hR K hTX hce hsl hthr hprop => ?_)
  subst hZ
  have K : gOk X cX5_turn 3 wsX5_turn RX5 := K
  have hRf : 6 ≤ (g_R X).frames := gR_f hR rfl
  have hRl : 90 ≤ (g_R X).locals := gR_l hR rfl
  have hin5 : ∀ w ∈ u_ws RX5 TX5 5, w ∈ wsX5_turn := by decide +kernel
  obtain ⟨w0, w1, w2, w3, wsh, wst, a2, a3, a4, a5, a6, a7⟩ := id hw
  show gG X 0 [(0, .ref (g_ad X 0)), (1, .int (nI (v))), (2, .int (nI (i)))] [] S
  refine g_aload_n K 0 dX5_turn_0 rfl ?_
  refine g_iload_n K 1 dX5_turn_1 rfl ?_
  refine g_callVv (q := 0) (ci := 5) (As := [.int (nI (v))]) (rest := []) (C := RX5) (T := TX5) (N := 5) K (cX5_requireValve_k (g_z X) S v (hw) (by omega)) (cwV 1 K.1.2.2.2.2 gX5_turn_X5_requireValve rfl rfl rfl (by decide +kernel) ⟨Nat.le_trans (Nat.le_of_ble_eq_true rfl) hRf, Nat.le_trans (Nat.le_of_ble_eq_true rfl) hRl⟩) rfl rfl rfl rfl (Nat.le_of_ble_eq_true rfl) dX5_turn_2 ?_
  refine g_aload_n K 0 dX5_turn_5 rfl ?_
  refine g_getR (q' := 1) (q := 0) (ci := 5) (k := 0) (N := 5) (C := RX5) (T := TX5) (ref := "ValveWalk") K rfl rfl rfl (by decide) hin5 (by decide +kernel) rfl dX5_turn_6 ?_
  refine g_iload_n K 1 dX5_turn_9 rfl ?_
  refine g_callVd (q := 1) (ci := 2) (As := [.int (nI (v))]) (rest := []) (C := RX2) (T := TX2) (N := 12) K (cX2_isStuck_k (g_z X) S v (hw) (by omega)) (cwV 1 K.1.2.2.2.2 gX5_turn_X2_isStuck rfl rfl rfl (by decide +kernel) ⟨Nat.le_trans (Nat.le_of_ble_eq_true rfl) hRf, Nat.le_trans (Nat.le_of_ble_eq_true rfl) hRl⟩) rfl rfl rfl rfl (Nat.le_of_ble_eq_true rfl) dX5_turn_10 ?_
  have h13 := gbit_le (S 1 5) v
  refine g_if_eq (tgt := 26) (a := gbit (S 1 5) v) K dX5_turn_13 (by decide) (by omega) (fun h13_1 => ?_) (fun h13_1 => ?_)
  · refine g_aload_n K 0 dX5_turn_26 rfl ?_
    refine g_getR (q' := 1) (q := 0) (ci := 5) (k := 0) (N := 5) (C := RX5) (T := TX5) (ref := "ValveWalk") K rfl rfl rfl (by decide) hin5 (by decide +kernel) rfl dX5_turn_27 ?_
    refine g_iload_n K 1 dX5_turn_30 rfl ?_
    refine g_iload_n K 2 dX5_turn_31 rfl ?_
    refine g_callVd (q := 1) (ci := 2) (As := [.int (nI (v)), .int (nI (i))]) (rest := []) (C := RX2) (T := TX2) (N := 12) K (cX2_markShut_k (g_z X) S v i (by show S 1 4 < _; omega) (by omega) (by omega)) (cwV 2 K.1.2.2.2.2 gX5_turn_X2_markShut rfl rfl rfl (by decide +kernel) ⟨Nat.le_trans (Nat.le_of_ble_eq_true rfl) hRf, Nat.le_trans (Nat.le_of_ble_eq_true rfl) hRl⟩) rfl rfl rfl rfl (Nat.le_of_ble_eq_true rfl) dX5_turn_32 ?_
    exfalso; omega
  · exact hthr 16 _ _ 50 116 54 "the valve is stuck" thK1 (by decide +kernel) (by decide +kernel) (by decide +kernel) (by decide +kernel) (Nat.le_of_ble_eq_true rfl) dX5_turn_16 dX5_turn_19 dX5_turn_20 dX5_turn_22 dX5_turn_25

set_option maxHeartbeats 4000000 in
set_option maxRecDepth 100000 in
theorem cX5_nodes_k (Z : gZ) (S : Nat → Nat → Nat) : gMd Z yX5_nodes wsX5_nodes { frames := 1, cells := 0, slots := 0, locals := 20 } [.ref (gz_ad Z 0)] S (S 1 0) (S) := by
  refine gMd_of (cc := cX5_nodes) (maxL := 1) (ret := (some .int)) (by decide +kernel) rfl (Nat.le_of_ble_eq_true rfl) (Or.inl rfl) (fun X hZ hR K hret => ?_)
  subst hZ
  have K : gOk X cX5_nodes 1 wsX5_nodes RX5 := K
  have hRf : 1 ≤ (g_R X).frames := gR_f hR rfl
  have hRl : 20 ≤ (g_R X).locals := gR_l hR rfl
  have hin5 : ∀ w ∈ u_ws RX5 TX5 5, w ∈ wsX5_nodes := by decide +kernel
  show gG X 0 [(0, .ref (g_ad X 0))] [] S
  refine g_aload_n K 0 dX5_nodes_0 rfl ?_
  refine g_getR (q' := 1) (q := 0) (ci := 5) (k := 0) (N := 5) (C := RX5) (T := TX5) (ref := "ValveWalk") K rfl rfl rfl (by decide) hin5 (by decide +kernel) rfl dX5_nodes_1 ?_
  refine g_callVd (q := 1) (ci := 2) (As := []) (rest := []) (C := RX2) (T := TX2) (N := 12) K (cX2_nodeCount_k (g_z X) S) (cwV 0 K.1.2.2.2.2 gX5_nodes_X2_nodeCount rfl rfl rfl (by decide +kernel) ⟨Nat.le_trans (Nat.le_of_ble_eq_true rfl) hRf, Nat.le_trans (Nat.le_of_ble_eq_true rfl) hRl⟩) rfl rfl rfl rfl (Nat.le_of_ble_eq_true rfl) dX5_nodes_4 ?_
  exact g_retd hret dX5_nodes_7 rfl rfl

set_option maxHeartbeats 4000000 in
set_option maxRecDepth 100000 in
theorem cX5_pipes_k (Z : gZ) (S : Nat → Nat → Nat) : gMd Z yX5_pipes wsX5_pipes { frames := 1, cells := 0, slots := 0, locals := 20 } [.ref (gz_ad Z 0)] S (S 1 1) (S) := by
  refine gMd_of (cc := cX5_pipes) (maxL := 1) (ret := (some .int)) (by decide +kernel) rfl (Nat.le_of_ble_eq_true rfl) (Or.inl rfl) (fun X hZ hR K hret => ?_)
  subst hZ
  have K : gOk X cX5_pipes 1 wsX5_pipes RX5 := K
  have hRf : 1 ≤ (g_R X).frames := gR_f hR rfl
  have hRl : 20 ≤ (g_R X).locals := gR_l hR rfl
  have hin5 : ∀ w ∈ u_ws RX5 TX5 5, w ∈ wsX5_pipes := by decide +kernel
  show gG X 0 [(0, .ref (g_ad X 0))] [] S
  refine g_aload_n K 0 dX5_pipes_0 rfl ?_
  refine g_getR (q' := 1) (q := 0) (ci := 5) (k := 0) (N := 5) (C := RX5) (T := TX5) (ref := "ValveWalk") K rfl rfl rfl (by decide) hin5 (by decide +kernel) rfl dX5_pipes_1 ?_
  refine g_callVd (q := 1) (ci := 2) (As := []) (rest := []) (C := RX2) (T := TX2) (N := 12) K (cX2_pipeCount_k (g_z X) S) (cwV 0 K.1.2.2.2.2 gX5_pipes_X2_pipeCount rfl rfl rfl (by decide +kernel) ⟨Nat.le_trans (Nat.le_of_ble_eq_true rfl) hRf, Nat.le_trans (Nat.le_of_ble_eq_true rfl) hRl⟩) rfl rfl rfl rfl (Nat.le_of_ble_eq_true rfl) dX5_pipes_4 ?_
  exact g_retd hret dX5_pipes_7 rfl rfl

set_option maxHeartbeats 4000000 in
set_option maxRecDepth 100000 in
theorem cX5_valves_k (Z : gZ) (S : Nat → Nat → Nat) : gMd Z yX5_valves wsX5_valves { frames := 1, cells := 0, slots := 0, locals := 20 } [.ref (gz_ad Z 0)] S (S 1 2) (S) := by
  refine gMd_of (cc := cX5_valves) (maxL := 1) (ret := (some .int)) (by decide +kernel) rfl (Nat.le_of_ble_eq_true rfl) (Or.inl rfl) (fun X hZ hR K hret => ?_)
  subst hZ
  have K : gOk X cX5_valves 1 wsX5_valves RX5 := K
  have hRf : 1 ≤ (g_R X).frames := gR_f hR rfl
  have hRl : 20 ≤ (g_R X).locals := gR_l hR rfl
  have hin5 : ∀ w ∈ u_ws RX5 TX5 5, w ∈ wsX5_valves := by decide +kernel
  show gG X 0 [(0, .ref (g_ad X 0))] [] S
  refine g_aload_n K 0 dX5_valves_0 rfl ?_
  refine g_getR (q' := 1) (q := 0) (ci := 5) (k := 0) (N := 5) (C := RX5) (T := TX5) (ref := "ValveWalk") K rfl rfl rfl (by decide) hin5 (by decide +kernel) rfl dX5_valves_1 ?_
  refine g_callVd (q := 1) (ci := 2) (As := []) (rest := []) (C := RX2) (T := TX2) (N := 12) K (cX2_valveCount_k (g_z X) S) (cwV 0 K.1.2.2.2.2 gX5_valves_X2_valveCount rfl rfl rfl (by decide +kernel) ⟨Nat.le_trans (Nat.le_of_ble_eq_true rfl) hRf, Nat.le_trans (Nat.le_of_ble_eq_true rfl) hRl⟩) rfl rfl rfl rfl (Nat.le_of_ble_eq_true rfl) dX5_valves_4 ?_
  exact g_retd hret dX5_valves_7 rfl rfl

set_option maxHeartbeats 4000000 in
set_option maxRecDepth 100000 in
theorem cX5_isNodeDry_k (Z : gZ) (S : Nat → Nat → Nat) (n : Nat) (hw : wfC S) (hn : n < S 1 0) : gMd Z yX5_isNodeDry wsX5_isNodeDry { frames := 3, cells := 0, slots := 0, locals := 69 } [.ref (gz_ad Z 0), .int (nI (n))] S (dryF S n) (S) := by
  refine gMd_of (cc := cX5_isNodeDry) (maxL := 2) (ret := (some .boolean)) (by decide +kernel) rfl (Nat.le_of_ble_eq_true rfl) (Or.inr ⟨rfl, dryF_le _ _⟩) (fun X hZ hR K hret => ?_)
  subst hZ
  have K : gOk X cX5_isNodeDry 2 wsX5_isNodeDry RX5 := K
  have hRf : 3 ≤ (g_R X).frames := gR_f hR rfl
  have hRl : 69 ≤ (g_R X).locals := gR_l hR rfl
  obtain ⟨w0, w1, w2, w3, wsh, wst, a2, a3, a4, a5, a6, a7⟩ := id hw
  show gG X 0 [(0, .ref (g_ad X 0)), (1, .int (nI (n)))] [] S
  refine g_aload_n K 0 dX5_isNodeDry_0 rfl ?_
  refine g_iload_n K 1 dX5_isNodeDry_1 rfl ?_
  refine g_callVv (q := 0) (ci := 5) (As := [.int (nI (n))]) (rest := []) (C := RX5) (T := TX5) (N := 5) K (cX5_requireNode_k (g_z X) S n (hw) (by omega)) (cwV 1 K.1.2.2.2.2 gX5_isNodeDry_X5_requireNode rfl rfl rfl (by decide +kernel) ⟨Nat.le_trans (Nat.le_of_ble_eq_true rfl) hRf, Nat.le_trans (Nat.le_of_ble_eq_true rfl) hRl⟩) rfl rfl rfl rfl (Nat.le_of_ble_eq_true rfl) dX5_isNodeDry_2 ?_
  refine g_aload_n K 0 dX5_isNodeDry_5 rfl ?_
  refine g_iload_n K 1 dX5_isNodeDry_6 rfl ?_
  refine g_callVd (q := 0) (ci := 5) (As := [.int (nI (n))]) (rest := []) (C := RX5) (T := TX5) (N := 5) K (cX5_isDry_k (g_z X) S n (hw) (by omega)) (cwV 1 K.1.2.2.2.2 gX5_isNodeDry_X5_isDry rfl rfl rfl (by decide +kernel) ⟨Nat.le_trans (Nat.le_of_ble_eq_true rfl) hRf, Nat.le_trans (Nat.le_of_ble_eq_true rfl) hRl⟩) rfl rfl rfl rfl (Nat.le_of_ble_eq_true rfl) dX5_isNodeDry_7 ?_
  exact g_retd hret dX5_isNodeDry_10 rfl rfl

set_option maxHeartbeats 4000000 in
set_option maxRecDepth 100000 in
theorem xX5_isNodeDry_x1 (Z : gZ) (S : Nat → Nat → Nat) (n : Nat) (hl0 : (gz_l Z).stackTraces = false) (hw : wfC S) (hun : n < 4294967296) (hn : S 1 0 ≤ n) : gMx Z yX5_isNodeDry wsX5_isNodeDry { frames := 7, cells := 1, slots := 6, locals := 111 } [.ref (gz_ad Z 0), .int (nI (n))] S (S) IOB := by
  refine gMx_of (cc := cX5_isNodeDry) (maxL := 2) (ret := (some .boolean)) hl0 (by decide +kernel) rfl rfl (Nat.le_of_ble_eq_true rfl) rfl rfl (Nat.le_of_ble_eq_true rfl) (Nat.le_of_ble_eq_true rfl) (fun X hZ hR K hTX hce hsl hthr hprop => ?_)
  subst hZ
  have K : gOk X cX5_isNodeDry 2 wsX5_isNodeDry RX5 := K
  have hRf : 7 ≤ (g_R X).frames := gR_f hR rfl
  have hRl : 111 ≤ (g_R X).locals := gR_l hR rfl
  obtain ⟨w0, w1, w2, w3, wsh, wst, a2, a3, a4, a5, a6, a7⟩ := id hw
  show gG X 0 [(0, .ref (g_ad X 0)), (1, .int (nI (n)))] [] S
  refine g_aload_n K 0 dX5_isNodeDry_0 rfl ?_
  refine g_iload_n K 1 dX5_isNodeDry_1 rfl ?_
  exact g_callVx (q := 0) (ci := 5) (As := [.int (nI (n))]) (rest := []) (C := RX5) (U := TX5) (N := 5) K hTX (xX5_requireNode_x (g_z X) S n hl0 (hw) (by omega) (by omega)) (cwV 1 K.1.2.2.2.2 gX5_isNodeDry_X5_requireNode rfl rfl rfl (by decide +kernel) ⟨Nat.le_trans (Nat.le_of_ble_eq_true rfl) hRf, Nat.le_trans (Nat.le_of_ble_eq_true rfl) hRl⟩) hce hsl rfl rfl rfl rfl (Nat.le_of_ble_eq_true rfl) dX5_isNodeDry_2 (hprop _ _)

set_option maxHeartbeats 4000000 in
set_option maxRecDepth 100000 in
theorem cX5_isPipeDry_k (Z : gZ) (S : Nat → Nat → Nat) (p : Nat) (hw : wfC S) (hn : p < S 1 1) : gMd Z yX5_isPipeDry wsX5_isPipeDry { frames := 3, cells := 0, slots := 0, locals := 69 } [.ref (gz_ad Z 0), .int (nI (p))] S (dryF S (12 + p)) (S) := by
  refine gMd_of (cc := cX5_isPipeDry) (maxL := 2) (ret := (some .boolean)) (by decide +kernel) rfl (Nat.le_of_ble_eq_true rfl) (Or.inr ⟨rfl, dryF_le _ _⟩) (fun X hZ hR K hret => ?_)
  subst hZ
  have K : gOk X cX5_isPipeDry 2 wsX5_isPipeDry RX5 := K
  have hRf : 3 ≤ (g_R X).frames := gR_f hR rfl
  have hRl : 69 ≤ (g_R X).locals := gR_l hR rfl
  obtain ⟨w0, w1, w2, w3, wsh, wst, a2, a3, a4, a5, a6, a7⟩ := id hw
  show gG X 0 [(0, .ref (g_ad X 0)), (1, .int (nI (p)))] [] S
  refine g_aload_n K 0 dX5_isPipeDry_0 rfl ?_
  refine g_iload_n K 1 dX5_isPipeDry_1 rfl ?_
  refine g_callVv (q := 0) (ci := 5) (As := [.int (nI (p))]) (rest := []) (C := RX5) (T := TX5) (N := 5) K (cX5_requirePipe_k (g_z X) S p (hw) (by omega)) (cwV 1 K.1.2.2.2.2 gX5_isPipeDry_X5_requirePipe rfl rfl rfl (by decide +kernel) ⟨Nat.le_trans (Nat.le_of_ble_eq_true rfl) hRf, Nat.le_trans (Nat.le_of_ble_eq_true rfl) hRl⟩) rfl rfl rfl rfl (Nat.le_of_ble_eq_true rfl) dX5_isPipeDry_2 ?_
  refine g_aload_n K 0 dX5_isPipeDry_5 rfl ?_
  refine g_iload_n K 1 dX5_isPipeDry_6 rfl ?_
  refine g_callSd (As := [.int (nI (p))]) (rest := [.ref (g_ad X 0)]) K (cX5_partOfPipe_k (g_z X) S p) (va_cwS 1 K.1.2.2.2.2 gX5_isPipeDry_X5_partOfPipe rfl rfl rfl (by decide +kernel) ⟨Nat.le_trans (Nat.le_of_ble_eq_true rfl) hRf, Nat.le_trans (Nat.le_of_ble_eq_true rfl) hRl⟩) rfl rfl (Nat.le_of_ble_eq_true rfl) dX5_isPipeDry_7 ?_
  refine g_callVd (q := 0) (ci := 5) (As := [.int (nI (12 + p))]) (rest := []) (C := RX5) (T := TX5) (N := 5) K (cX5_isDry_k (g_z X) S (12 + p) (hw) (by omega)) (cwV 1 K.1.2.2.2.2 gX5_isPipeDry_X5_isDry rfl rfl rfl (by decide +kernel) ⟨Nat.le_trans (Nat.le_of_ble_eq_true rfl) hRf, Nat.le_trans (Nat.le_of_ble_eq_true rfl) hRl⟩) rfl rfl rfl rfl (Nat.le_of_ble_eq_true rfl) dX5_isPipeDry_10 ?_
  exact g_retd hret dX5_isPipeDry_13 rfl rfl

set_option maxHeartbeats 4000000 in
set_option maxRecDepth 100000 in
theorem xX5_isPipeDry_x1 (Z : gZ) (S : Nat → Nat → Nat) (p : Nat) (hl0 : (gz_l Z).stackTraces = false) (hw : wfC S) (hup : p < 4294967296) (hn : S 1 1 ≤ p) : gMx Z yX5_isPipeDry wsX5_isPipeDry { frames := 7, cells := 1, slots := 6, locals := 111 } [.ref (gz_ad Z 0), .int (nI (p))] S (S) IOB := by
  refine gMx_of (cc := cX5_isPipeDry) (maxL := 2) (ret := (some .boolean)) hl0 (by decide +kernel) rfl rfl (Nat.le_of_ble_eq_true rfl) rfl rfl (Nat.le_of_ble_eq_true rfl) (Nat.le_of_ble_eq_true rfl) (fun X hZ hR K hTX hce hsl hthr hprop => ?_)
  subst hZ
  have K : gOk X cX5_isPipeDry 2 wsX5_isPipeDry RX5 := K
  have hRf : 7 ≤ (g_R X).frames := gR_f hR rfl
  have hRl : 111 ≤ (g_R X).locals := gR_l hR rfl
  obtain ⟨w0, w1, w2, w3, wsh, wst, a2, a3, a4, a5, a6, a7⟩ := id hw
  show gG X 0 [(0, .ref (g_ad X 0)), (1, .int (nI (p)))] [] S
  refine g_aload_n K 0 dX5_isPipeDry_0 rfl ?_
  refine g_iload_n K 1 dX5_isPipeDry_1 rfl ?_
  exact g_callVx (q := 0) (ci := 5) (As := [.int (nI (p))]) (rest := []) (C := RX5) (U := TX5) (N := 5) K hTX (xX5_requirePipe_x (g_z X) S p hl0 (hw) (by omega) (by omega)) (cwV 1 K.1.2.2.2.2 gX5_isPipeDry_X5_requirePipe rfl rfl rfl (by decide +kernel) ⟨Nat.le_trans (Nat.le_of_ble_eq_true rfl) hRf, Nat.le_trans (Nat.le_of_ble_eq_true rfl) hRl⟩) hce hsl rfl rfl rfl rfl (Nat.le_of_ble_eq_true rfl) dX5_isPipeDry_2 (hprop _ _)

set_option maxHeartbeats 4000000 in
set_option maxRecDepth 100000 in
theorem cX5_supplied_k (Z : gZ) (S : Nat → Nat → Nat) (hw : wfC S) : gMd Z yX5_supplied wsX5_supplied { frames := 2, cells := 0, slots := 0, locals := 48 } [.ref (gz_ad Z 0)] S (custOf S (wetBehind S 0)) (S) := by
  refine gMd_of (cc := cX5_supplied) (maxL := 1) (ret := (some .int)) (by decide +kernel) rfl (Nat.le_of_ble_eq_true rfl) (Or.inl rfl) (fun X hZ hR K hret => ?_)
  subst hZ
  have K : gOk X cX5_supplied 1 wsX5_supplied RX5 := K
  have hRf : 2 ≤ (g_R X).frames := gR_f hR rfl
  have hRl : 48 ≤ (g_R X).locals := gR_l hR rfl
  have hin5 : ∀ w ∈ u_ws RX5 TX5 5, w ∈ wsX5_supplied := by decide +kernel
  obtain ⟨w0, w1, w2, w3, wsh, wst, a2, a3, a4, a5, a6, a7⟩ := id hw
  show gG X 0 [(0, .ref (g_ad X 0))] [] S
  refine g_aload_n K 0 dX5_supplied_0 rfl ?_
  refine g_getR (q' := 1) (q := 0) (ci := 5) (k := 0) (N := 5) (C := RX5) (T := TX5) (ref := "ValveWalk") K rfl rfl rfl (by decide) hin5 (by decide +kernel) rfl dX5_supplied_1 ?_
  refine g_aload_n K 0 dX5_supplied_4 rfl ?_
  refine g_getR (q' := 1) (q := 0) (ci := 5) (k := 0) (N := 5) (C := RX5) (T := TX5) (ref := "ValveWalk") K rfl rfl rfl (by decide) hin5 (by decide +kernel) rfl dX5_supplied_5 ?_
  refine g_iconst K 0 dX5_supplied_8 (by decide +kernel) ?_
  refine g_callVd (q := 1) (ci := 2) (As := [.int (nI (0))]) (rest := [.ref (g_ad X 1)]) (C := RX2) (T := TX2) (N := 12) K (cX2_wetBehind_k (g_z X) S 0 (hw)) (cwV 1 K.1.2.2.2.2 gX5_supplied_X2_wetBehind rfl rfl rfl (by decide +kernel) ⟨Nat.le_trans (Nat.le_of_ble_eq_true rfl) hRf, Nat.le_trans (Nat.le_of_ble_eq_true rfl) hRl⟩) rfl rfl rfl rfl (Nat.le_of_ble_eq_true rfl) dX5_supplied_9 ?_
  have h8 := wetBehind_lt hw 0
  refine g_callVd (q := 1) (ci := 2) (As := [.int (nI (wetBehind S 0))]) (rest := []) (C := RX2) (T := TX2) (N := 12) K (cX2_customersOf_k (g_z X) S (wetBehind S 0) (hw) (by omega)) (cwV 1 K.1.2.2.2.2 gX5_supplied_X2_customersOf rfl rfl rfl (by decide +kernel) ⟨Nat.le_trans (Nat.le_of_ble_eq_true rfl) hRf, Nat.le_trans (Nat.le_of_ble_eq_true rfl) hRl⟩) rfl rfl rfl rfl (Nat.le_of_ble_eq_true rfl) dX5_supplied_12 ?_
  exact g_retd hret dX5_supplied_15 rfl rfl

set_option maxHeartbeats 4000000 in
set_option maxRecDepth 100000 in
theorem cX5_segments_k (Z : gZ) (S : Nat → Nat → Nat) (hw : wfC S) : gMd Z yX5_segments wsX5_segments { frames := 4, cells := 0, slots := 0, locals := 92 } [.ref (gz_ad Z 0)] S (countBegun S 28) (S) := by
  refine gMd_of (cc := cX5_segments) (maxL := 1) (ret := (some .int)) (by decide +kernel) rfl (Nat.le_of_ble_eq_true rfl) (Or.inl rfl) (fun X hZ hR K hret => ?_)
  subst hZ
  have K : gOk X cX5_segments 1 wsX5_segments RX5 := K
  have hRf : 4 ≤ (g_R X).frames := gR_f hR rfl
  have hRl : 92 ≤ (g_R X).locals := gR_l hR rfl
  have hin5 : ∀ w ∈ u_ws RX5 TX5 5, w ∈ wsX5_segments := by decide +kernel
  obtain ⟨w0, w1, w2, w3, wsh, wst, a2, a3, a4, a5, a6, a7⟩ := id hw
  show gG X 0 [(0, .ref (g_ad X 0))] [] S
  refine g_aload_n K 0 dX5_segments_0 rfl ?_
  refine g_getR (q' := 8) (q := 0) (ci := 5) (k := 1) (N := 5) (C := RX5) (T := TX5) (ref := "ValveWalk") K rfl rfl rfl (by decide) hin5 (by decide +kernel) rfl dX5_segments_1 ?_
  refine g_callVd (q := 8) (ci := 3) (As := []) (rest := []) (C := RX3) (T := TX3) (N := 2) K (cX3_count_k (g_z X) S (hw)) (cwV 0 K.1.2.2.2.2 gX5_segments_X3_count rfl rfl rfl (by decide +kernel) ⟨Nat.le_trans (Nat.le_of_ble_eq_true rfl) hRf, Nat.le_trans (Nat.le_of_ble_eq_true rfl) hRl⟩) rfl rfl rfl rfl (Nat.le_of_ble_eq_true rfl) dX5_segments_4 ?_
  exact g_retd hret dX5_segments_7 rfl rfl

set_option maxHeartbeats 4000000 in
set_option maxRecDepth 100000 in
theorem cX5_segmentOfNode_k (Z : gZ) (S : Nat → Nat → Nat) (n : Nat) (hw : wfC S) (hn : n < S 1 0) (hp : 0 < segWith S (n)) (hz : ntz (segWith S (n)) ≤ 28) : gMd Z yX5_segmentOfNode wsX5_segmentOfNode { frames := 4, cells := 0, slots := 0, locals := 94 } [.ref (gz_ad Z 0), .int (nI (n))] S (countBegun S (ntz (segWith S n))) (S) := by
  refine gMd_of (cc := cX5_segmentOfNode) (maxL := 2) (ret := (some .int)) (by decide +kernel) rfl (Nat.le_of_ble_eq_true rfl) (Or.inl rfl) (fun X hZ hR K hret => ?_)
  subst hZ
  have K : gOk X cX5_segmentOfNode 2 wsX5_segmentOfNode RX5 := K
  have hRf : 4 ≤ (g_R X).frames := gR_f hR rfl
  have hRl : 94 ≤ (g_R X).locals := gR_l hR rfl
  have hin5 : ∀ w ∈ u_ws RX5 TX5 5, w ∈ wsX5_segmentOfNode := by decide +kernel
  obtain ⟨w0, w1, w2, w3, wsh, wst, a2, a3, a4, a5, a6, a7⟩ := id hw
  show gG X 0 [(0, .ref (g_ad X 0)), (1, .int (nI (n)))] [] S
  refine g_aload_n K 0 dX5_segmentOfNode_0 rfl ?_
  refine g_iload_n K 1 dX5_segmentOfNode_1 rfl ?_
  refine g_callVv (q := 0) (ci := 5) (As := [.int (nI (n))]) (rest := []) (C := RX5) (T := TX5) (N := 5) K (cX5_requireNode_k (g_z X) S n (hw) (by omega)) (cwV 1 K.1.2.2.2.2 gX5_segmentOfNode_X5_requireNode rfl rfl rfl (by decide +kernel) ⟨Nat.le_trans (Nat.le_of_ble_eq_true rfl) hRf, Nat.le_trans (Nat.le_of_ble_eq_true rfl) hRl⟩) rfl rfl rfl rfl (Nat.le_of_ble_eq_true rfl) dX5_segmentOfNode_2 ?_
  refine g_aload_n K 0 dX5_segmentOfNode_5 rfl ?_
  refine g_getR (q' := 8) (q := 0) (ci := 5) (k := 1) (N := 5) (C := RX5) (T := TX5) (ref := "ValveWalk") K rfl rfl rfl (by decide) hin5 (by decide +kernel) rfl dX5_segmentOfNode_6 ?_
  refine g_iload_n K 1 dX5_segmentOfNode_9 rfl ?_
  refine g_callVd (q := 8) (ci := 3) (As := [.int (nI (n))]) (rest := []) (C := RX3) (T := TX3) (N := 2) K (cX3_numberByWalking_k (g_z X) S n (hw) (by omega) (by omega) (by omega)) (cwV 1 K.1.2.2.2.2 gX5_segmentOfNode_X3_numberByWalking rfl rfl rfl (by decide +kernel) ⟨Nat.le_trans (Nat.le_of_ble_eq_true rfl) hRf, Nat.le_trans (Nat.le_of_ble_eq_true rfl) hRl⟩) rfl rfl rfl rfl (Nat.le_of_ble_eq_true rfl) dX5_segmentOfNode_10 ?_
  exact g_retd hret dX5_segmentOfNode_13 rfl rfl

set_option maxHeartbeats 4000000 in
set_option maxRecDepth 100000 in
theorem xX5_segmentOfNode_x1 (Z : gZ) (S : Nat → Nat → Nat) (n : Nat) (hl0 : (gz_l Z).stackTraces = false) (hw : wfC S) (hun : n < 4294967296) (hn : S 1 0 ≤ n) : gMx Z yX5_segmentOfNode wsX5_segmentOfNode { frames := 7, cells := 1, slots := 6, locals := 111 } [.ref (gz_ad Z 0), .int (nI (n))] S (S) IOB := by
  refine gMx_of (cc := cX5_segmentOfNode) (maxL := 2) (ret := (some .int)) hl0 (by decide +kernel) rfl rfl (Nat.le_of_ble_eq_true rfl) rfl rfl (Nat.le_of_ble_eq_true rfl) (Nat.le_of_ble_eq_true rfl) (fun X hZ hR K hTX hce hsl hthr hprop => ?_)
  subst hZ
  have K : gOk X cX5_segmentOfNode 2 wsX5_segmentOfNode RX5 := K
  have hRf : 7 ≤ (g_R X).frames := gR_f hR rfl
  have hRl : 111 ≤ (g_R X).locals := gR_l hR rfl
  have hin5 : ∀ w ∈ u_ws RX5 TX5 5, w ∈ wsX5_segmentOfNode := by decide +kernel
  obtain ⟨w0, w1, w2, w3, wsh, wst, a2, a3, a4, a5, a6, a7⟩ := id hw
  show gG X 0 [(0, .ref (g_ad X 0)), (1, .int (nI (n)))] [] S
  refine g_aload_n K 0 dX5_segmentOfNode_0 rfl ?_
  refine g_iload_n K 1 dX5_segmentOfNode_1 rfl ?_
  exact g_callVx (q := 0) (ci := 5) (As := [.int (nI (n))]) (rest := []) (C := RX5) (U := TX5) (N := 5) K hTX (xX5_requireNode_x (g_z X) S n hl0 (hw) (by omega) (by omega)) (cwV 1 K.1.2.2.2.2 gX5_segmentOfNode_X5_requireNode rfl rfl rfl (by decide +kernel) ⟨Nat.le_trans (Nat.le_of_ble_eq_true rfl) hRf, Nat.le_trans (Nat.le_of_ble_eq_true rfl) hRl⟩) hce hsl rfl rfl rfl rfl (Nat.le_of_ble_eq_true rfl) dX5_segmentOfNode_2 (hprop _ _)

set_option maxHeartbeats 4000000 in
set_option maxRecDepth 100000 in
theorem cX5_segmentOfPipe_k (Z : gZ) (S : Nat → Nat → Nat) (p : Nat) (hw : wfC S) (hn : p < S 1 1) (hp : 0 < segWith S (12 + p)) (hz : ntz (segWith S (12 + p)) ≤ 28) : gMd Z yX5_segmentOfPipe wsX5_segmentOfPipe { frames := 4, cells := 0, slots := 0, locals := 94 } [.ref (gz_ad Z 0), .int (nI (p))] S (countBegun S (ntz (segWith S (12 + p)))) (S) := by
  refine gMd_of (cc := cX5_segmentOfPipe) (maxL := 2) (ret := (some .int)) (by decide +kernel) rfl (Nat.le_of_ble_eq_true rfl) (Or.inl rfl) (fun X hZ hR K hret => ?_)
  subst hZ
  have K : gOk X cX5_segmentOfPipe 2 wsX5_segmentOfPipe RX5 := K
  have hRf : 4 ≤ (g_R X).frames := gR_f hR rfl
  have hRl : 94 ≤ (g_R X).locals := gR_l hR rfl
  have hin5 : ∀ w ∈ u_ws RX5 TX5 5, w ∈ wsX5_segmentOfPipe := by decide +kernel
  obtain ⟨w0, w1, w2, w3, wsh, wst, a2, a3, a4, a5, a6, a7⟩ := id hw
  show gG X 0 [(0, .ref (g_ad X 0)), (1, .int (nI (p)))] [] S
  refine g_aload_n K 0 dX5_segmentOfPipe_0 rfl ?_
  refine g_iload_n K 1 dX5_segmentOfPipe_1 rfl ?_
  refine g_callVv (q := 0) (ci := 5) (As := [.int (nI (p))]) (rest := []) (C := RX5) (T := TX5) (N := 5) K (cX5_requirePipe_k (g_z X) S p (hw) (by omega)) (cwV 1 K.1.2.2.2.2 gX5_segmentOfPipe_X5_requirePipe rfl rfl rfl (by decide +kernel) ⟨Nat.le_trans (Nat.le_of_ble_eq_true rfl) hRf, Nat.le_trans (Nat.le_of_ble_eq_true rfl) hRl⟩) rfl rfl rfl rfl (Nat.le_of_ble_eq_true rfl) dX5_segmentOfPipe_2 ?_
  refine g_aload_n K 0 dX5_segmentOfPipe_5 rfl ?_
  refine g_getR (q' := 8) (q := 0) (ci := 5) (k := 1) (N := 5) (C := RX5) (T := TX5) (ref := "ValveWalk") K rfl rfl rfl (by decide) hin5 (by decide +kernel) rfl dX5_segmentOfPipe_6 ?_
  refine g_iload_n K 1 dX5_segmentOfPipe_9 rfl ?_
  refine g_callSd (As := [.int (nI (p))]) (rest := [.ref (g_ad X 8)]) K (cX5_partOfPipe_k (g_z X) S p) (va_cwS 1 K.1.2.2.2.2 gX5_segmentOfPipe_X5_partOfPipe rfl rfl rfl (by decide +kernel) ⟨Nat.le_trans (Nat.le_of_ble_eq_true rfl) hRf, Nat.le_trans (Nat.le_of_ble_eq_true rfl) hRl⟩) rfl rfl (Nat.le_of_ble_eq_true rfl) dX5_segmentOfPipe_10 ?_
  refine g_callVd (q := 8) (ci := 3) (As := [.int (nI (12 + p))]) (rest := []) (C := RX3) (T := TX3) (N := 2) K (cX3_numberByWalking_k (g_z X) S (12 + p) (hw) (by omega) (by omega) (by omega)) (cwV 1 K.1.2.2.2.2 gX5_segmentOfPipe_X3_numberByWalking rfl rfl rfl (by decide +kernel) ⟨Nat.le_trans (Nat.le_of_ble_eq_true rfl) hRf, Nat.le_trans (Nat.le_of_ble_eq_true rfl) hRl⟩) rfl rfl rfl rfl (Nat.le_of_ble_eq_true rfl) dX5_segmentOfPipe_13 ?_
  exact g_retd hret dX5_segmentOfPipe_16 rfl rfl

set_option maxHeartbeats 4000000 in
set_option maxRecDepth 100000 in
theorem xX5_segmentOfPipe_x1 (Z : gZ) (S : Nat → Nat → Nat) (p : Nat) (hl0 : (gz_l Z).stackTraces = false) (hw : wfC S) (hup : p < 4294967296) (hn : S 1 1 ≤ p) : gMx Z yX5_segmentOfPipe wsX5_segmentOfPipe { frames := 7, cells := 1, slots := 6, locals := 111 } [.ref (gz_ad Z 0), .int (nI (p))] S (S) IOB := by
  refine gMx_of (cc := cX5_segmentOfPipe) (maxL := 2) (ret := (some .int)) hl0 (by decide +kernel) rfl rfl (Nat.le_of_ble_eq_true rfl) rfl rfl (Nat.le_of_ble_eq_true rfl) (Nat.le_of_ble_eq_true rfl) (fun X hZ hR K hTX hce hsl hthr hprop => ?_)
  subst hZ
  have K : gOk X cX5_segmentOfPipe 2 wsX5_segmentOfPipe RX5 := K
  have hRf : 7 ≤ (g_R X).frames := gR_f hR rfl
  have hRl : 111 ≤ (g_R X).locals := gR_l hR rfl
  have hin5 : ∀ w ∈ u_ws RX5 TX5 5, w ∈ wsX5_segmentOfPipe := by decide +kernel
  obtain ⟨w0, w1, w2, w3, wsh, wst, a2, a3, a4, a5, a6, a7⟩ := id hw
  show gG X 0 [(0, .ref (g_ad X 0)), (1, .int (nI (p)))] [] S
  refine g_aload_n K 0 dX5_segmentOfPipe_0 rfl ?_
  refine g_iload_n K 1 dX5_segmentOfPipe_1 rfl ?_
  exact g_callVx (q := 0) (ci := 5) (As := [.int (nI (p))]) (rest := []) (C := RX5) (U := TX5) (N := 5) K hTX (xX5_requirePipe_x (g_z X) S p hl0 (hw) (by omega) (by omega)) (cwV 1 K.1.2.2.2.2 gX5_segmentOfPipe_X5_requirePipe rfl rfl rfl (by decide +kernel) ⟨Nat.le_trans (Nat.le_of_ble_eq_true rfl) hRf, Nat.le_trans (Nat.le_of_ble_eq_true rfl) hRl⟩) hce hsl rfl rfl rfl rfl (Nat.le_of_ble_eq_true rfl) dX5_segmentOfPipe_2 (hprop _ _)

set_option maxHeartbeats 4000000 in
set_option maxRecDepth 100000 in
theorem cX5_segmentByMerging_k (Z : gZ) (S : Nat → Nat → Nat) (p : Nat) (hw : wfC S) (hn : p < S 1 1) : gMd Z yX5_segmentByMerging wsX5_segmentByMerging { frames := 4, cells := 0, slots := 0, locals := 93 } [.ref (gz_ad Z 0), .int (nI (p))] S (numMerge S (12 + p)) (va_up S 9 (mergeAll S)) := by
  refine gMd_of (cc := cX5_segmentByMerging) (maxL := 2) (ret := (some .int)) (by decide +kernel) rfl (Nat.le_of_ble_eq_true rfl) (Or.inl rfl) (fun X hZ hR K hret => ?_)
  subst hZ
  have K : gOk X cX5_segmentByMerging 2 wsX5_segmentByMerging RX5 := K
  have hRf : 4 ≤ (g_R X).frames := gR_f hR rfl
  have hRl : 93 ≤ (g_R X).locals := gR_l hR rfl
  have hin5 : ∀ w ∈ u_ws RX5 TX5 5, w ∈ wsX5_segmentByMerging := by decide +kernel
  obtain ⟨w0, w1, w2, w3, wsh, wst, a2, a3, a4, a5, a6, a7⟩ := id hw
  show gG X 0 [(0, .ref (g_ad X 0)), (1, .int (nI (p)))] [] S
  refine g_aload_n K 0 dX5_segmentByMerging_0 rfl ?_
  refine g_iload_n K 1 dX5_segmentByMerging_1 rfl ?_
  refine g_callVv (q := 0) (ci := 5) (As := [.int (nI (p))]) (rest := []) (C := RX5) (T := TX5) (N := 5) K (cX5_requirePipe_k (g_z X) S p (hw) (by omega)) (cwV 1 K.1.2.2.2.2 gX5_segmentByMerging_X5_requirePipe rfl rfl rfl (by decide +kernel) ⟨Nat.le_trans (Nat.le_of_ble_eq_true rfl) hRf, Nat.le_trans (Nat.le_of_ble_eq_true rfl) hRl⟩) rfl rfl rfl rfl (Nat.le_of_ble_eq_true rfl) dX5_segmentByMerging_2 ?_
  refine g_aload_n K 0 dX5_segmentByMerging_5 rfl ?_
  refine g_getR (q' := 8) (q := 0) (ci := 5) (k := 1) (N := 5) (C := RX5) (T := TX5) (ref := "ValveWalk") K rfl rfl rfl (by decide) hin5 (by decide +kernel) rfl dX5_segmentByMerging_6 ?_
  refine g_iload_n K 1 dX5_segmentByMerging_9 rfl ?_
  refine g_callSd (As := [.int (nI (p))]) (rest := [.ref (g_ad X 8)]) K (cX5_partOfPipe_k (g_z X) S p) (va_cwS 1 K.1.2.2.2.2 gX5_segmentByMerging_X5_partOfPipe rfl rfl rfl (by decide +kernel) ⟨Nat.le_trans (Nat.le_of_ble_eq_true rfl) hRf, Nat.le_trans (Nat.le_of_ble_eq_true rfl) hRl⟩) rfl rfl (Nat.le_of_ble_eq_true rfl) dX5_segmentByMerging_10 ?_
  refine g_callVd (q := 8) (ci := 3) (As := [.int (nI (12 + p))]) (rest := []) (C := RX3) (T := TX3) (N := 2) K (cX3_numberByMerging_k (g_z X) S (12 + p) (hw) (by omega)) (cwV 1 K.1.2.2.2.2 gX5_segmentByMerging_X3_numberByMerging rfl rfl rfl (by decide +kernel) ⟨Nat.le_trans (Nat.le_of_ble_eq_true rfl) hRf, Nat.le_trans (Nat.le_of_ble_eq_true rfl) hRl⟩) rfl rfl rfl rfl (Nat.le_of_ble_eq_true rfl) dX5_segmentByMerging_13 ?_
  exact g_retd hret dX5_segmentByMerging_16 rfl rfl

set_option maxHeartbeats 4000000 in
set_option maxRecDepth 100000 in
theorem xX5_segmentByMerging_x1 (Z : gZ) (S : Nat → Nat → Nat) (p : Nat) (hl0 : (gz_l Z).stackTraces = false) (hw : wfC S) (hup : p < 4294967296) (hn : S 1 1 ≤ p) : gMx Z yX5_segmentByMerging wsX5_segmentByMerging { frames := 7, cells := 1, slots := 6, locals := 111 } [.ref (gz_ad Z 0), .int (nI (p))] S (S) IOB := by
  refine gMx_of (cc := cX5_segmentByMerging) (maxL := 2) (ret := (some .int)) hl0 (by decide +kernel) rfl rfl (Nat.le_of_ble_eq_true rfl) rfl rfl (Nat.le_of_ble_eq_true rfl) (Nat.le_of_ble_eq_true rfl) (fun X hZ hR K hTX hce hsl hthr hprop => ?_)
  subst hZ
  have K : gOk X cX5_segmentByMerging 2 wsX5_segmentByMerging RX5 := K
  have hRf : 7 ≤ (g_R X).frames := gR_f hR rfl
  have hRl : 111 ≤ (g_R X).locals := gR_l hR rfl
  have hin5 : ∀ w ∈ u_ws RX5 TX5 5, w ∈ wsX5_segmentByMerging := by decide +kernel
  obtain ⟨w0, w1, w2, w3, wsh, wst, a2, a3, a4, a5, a6, a7⟩ := id hw
  show gG X 0 [(0, .ref (g_ad X 0)), (1, .int (nI (p)))] [] S
  refine g_aload_n K 0 dX5_segmentByMerging_0 rfl ?_
  refine g_iload_n K 1 dX5_segmentByMerging_1 rfl ?_
  exact g_callVx (q := 0) (ci := 5) (As := [.int (nI (p))]) (rest := []) (C := RX5) (U := TX5) (N := 5) K hTX (xX5_requirePipe_x (g_z X) S p hl0 (hw) (by omega) (by omega)) (cwV 1 K.1.2.2.2.2 gX5_segmentByMerging_X5_requirePipe rfl rfl rfl (by decide +kernel) ⟨Nat.le_trans (Nat.le_of_ble_eq_true rfl) hRf, Nat.le_trans (Nat.le_of_ble_eq_true rfl) hRl⟩) hce hsl rfl rfl rfl rfl (Nat.le_of_ble_eq_true rfl) dX5_segmentByMerging_2 (hprop _ _)

set_option maxHeartbeats 4000000 in
set_option maxRecDepth 100000 in
theorem cX5_ring_k (Z : gZ) (S : Nat → Nat → Nat) (p : Nat) (hw : wfC S) (hn : p < S 1 1) (hs : regOf S p &&& S 1 3 = 0) : gMd Z yX5_ring wsX5_ring { frames := 4, cells := 0, slots := 0, locals := 91 } [.ref (gz_ad Z 0), .int (nI (p))] S (ringF S (regOf S p)) (S) := by
  refine gMd_of (cc := cX5_ring) (maxL := 2) (ret := (some .int)) (by decide +kernel) rfl (Nat.le_of_ble_eq_true rfl) (Or.inl rfl) (fun X hZ hR K hret => ?_)
  subst hZ
  have K : gOk X cX5_ring 2 wsX5_ring RX5 := K
  have hRf : 4 ≤ (g_R X).frames := gR_f hR rfl
  have hRl : 91 ≤ (g_R X).locals := gR_l hR rfl
  have hin5 : ∀ w ∈ u_ws RX5 TX5 5, w ∈ wsX5_ring := by decide +kernel
  obtain ⟨w0, w1, w2, w3, wsh, wst, a2, a3, a4, a5, a6, a7⟩ := id hw
  show gG X 0 [(0, .ref (g_ad X 0)), (1, .int (nI (p)))] [] S
  refine g_aload_n K 0 dX5_ring_0 rfl ?_
  refine g_iload_n K 1 dX5_ring_1 rfl ?_
  refine g_callVv (q := 0) (ci := 5) (As := [.int (nI (p))]) (rest := []) (C := RX5) (T := TX5) (N := 5) K (cX5_requirePipe_k (g_z X) S p (hw) (by omega)) (cwV 1 K.1.2.2.2.2 gX5_ring_X5_requirePipe rfl rfl rfl (by decide +kernel) ⟨Nat.le_trans (Nat.le_of_ble_eq_true rfl) hRf, Nat.le_trans (Nat.le_of_ble_eq_true rfl) hRl⟩) rfl rfl rfl rfl (Nat.le_of_ble_eq_true rfl) dX5_ring_2 ?_
  refine g_aload_n K 0 dX5_ring_5 rfl ?_
  refine g_getR (q' := 10) (q := 0) (ci := 5) (k := 2) (N := 5) (C := RX5) (T := TX5) (ref := "ValveWalk") K rfl rfl rfl (by decide) hin5 (by decide +kernel) rfl dX5_ring_6 ?_
  refine g_aload_n K 0 dX5_ring_9 rfl ?_
  refine g_iload_n K 1 dX5_ring_10 rfl ?_
  refine g_callVd (q := 0) (ci := 5) (As := [.int (nI (p))]) (rest := [.ref (g_ad X 10)]) (C := RX5) (T := TX5) (N := 5) K (cX5_regionWithoutSource_k (g_z X) S p (hw) (by omega) (by assumption)) (cwV 1 K.1.2.2.2.2 gX5_ring_X5_regionWithoutSource rfl rfl rfl (by decide +kernel) ⟨Nat.le_trans (Nat.le_of_ble_eq_true rfl) hRf, Nat.le_trans (Nat.le_of_ble_eq_true rfl) hRl⟩) rfl rfl rfl rfl (Nat.le_of_ble_eq_true rfl) dX5_ring_11 ?_
  have h14 := regOf_lt hw (show p < 16 by omega)
  refine g_callVd (q := 10) (ci := 0) (As := [.int (nI (regOf S p))]) (rest := []) (C := RX0) (T := TX0) (N := 6) K (cX0_ringOf_k (g_z X) S (regOf S p) (hw) (by omega)) (cwV 1 K.1.2.2.2.2 gX5_ring_X0_ringOf rfl rfl rfl (by decide +kernel) ⟨Nat.le_trans (Nat.le_of_ble_eq_true rfl) hRf, Nat.le_trans (Nat.le_of_ble_eq_true rfl) hRl⟩) rfl rfl rfl rfl (Nat.le_of_ble_eq_true rfl) dX5_ring_14 ?_
  exact g_retd hret dX5_ring_17 rfl rfl

set_option maxHeartbeats 4000000 in
set_option maxRecDepth 100000 in
theorem xX5_ring_x1 (Z : gZ) (S : Nat → Nat → Nat) (p : Nat) (hl0 : (gz_l Z).stackTraces = false) (hw : wfC S) (hup : p < 4294967296) (hn : S 1 1 ≤ p) : gMx Z yX5_ring wsX5_ring { frames := 7, cells := 1, slots := 6, locals := 111 } [.ref (gz_ad Z 0), .int (nI (p))] S (S) IOB := by
  refine gMx_of (cc := cX5_ring) (maxL := 2) (ret := (some .int)) hl0 (by decide +kernel) rfl rfl (Nat.le_of_ble_eq_true rfl) rfl rfl (Nat.le_of_ble_eq_true rfl) (Nat.le_of_ble_eq_true rfl) (fun X hZ hR K hTX hce hsl hthr hprop => ?_)
  subst hZ
  have K : gOk X cX5_ring 2 wsX5_ring RX5 := K
  have hRf : 7 ≤ (g_R X).frames := gR_f hR rfl
  have hRl : 111 ≤ (g_R X).locals := gR_l hR rfl
  have hin5 : ∀ w ∈ u_ws RX5 TX5 5, w ∈ wsX5_ring := by decide +kernel
  obtain ⟨w0, w1, w2, w3, wsh, wst, a2, a3, a4, a5, a6, a7⟩ := id hw
  show gG X 0 [(0, .ref (g_ad X 0)), (1, .int (nI (p)))] [] S
  refine g_aload_n K 0 dX5_ring_0 rfl ?_
  refine g_iload_n K 1 dX5_ring_1 rfl ?_
  exact g_callVx (q := 0) (ci := 5) (As := [.int (nI (p))]) (rest := []) (C := RX5) (U := TX5) (N := 5) K hTX (xX5_requirePipe_x (g_z X) S p hl0 (hw) (by omega) (by omega)) (cwV 1 K.1.2.2.2.2 gX5_ring_X5_requirePipe rfl rfl rfl (by decide +kernel) ⟨Nat.le_trans (Nat.le_of_ble_eq_true rfl) hRf, Nat.le_trans (Nat.le_of_ble_eq_true rfl) hRl⟩) hce hsl rfl rfl rfl rfl (Nat.le_of_ble_eq_true rfl) dX5_ring_2 (hprop _ _)

set_option maxHeartbeats 4000000 in
set_option maxRecDepth 100000 in
theorem xX5_ring_x2 (Z : gZ) (S : Nat → Nat → Nat) (p : Nat) (hl0 : (gz_l Z).stackTraces = false) (hw : wfC S) (hn : p < S 1 1) (hs : regOf S p &&& S 1 3 ≠ 0) : gMx Z yX5_ring wsX5_ring { frames := 7, cells := 1, slots := 6, locals := 112 } [.ref (gz_ad Z 0), .int (nI (p))] S (S) ISE := by
  refine gMx_of (cc := cX5_ring) (maxL := 2) (ret := (some .int)) hl0 (by decide +kernel) rfl rfl (Nat.le_of_ble_eq_true rfl) rfl rfl (Nat.le_of_ble_eq_true rfl) (Nat.le_of_ble_eq_true rfl) (fun X hZ hR K hTX hce hsl hthr hprop => ?_)
  subst hZ
  have K : gOk X cX5_ring 2 wsX5_ring RX5 := K
  have hRf : 7 ≤ (g_R X).frames := gR_f hR rfl
  have hRl : 112 ≤ (g_R X).locals := gR_l hR rfl
  have hin5 : ∀ w ∈ u_ws RX5 TX5 5, w ∈ wsX5_ring := by decide +kernel
  obtain ⟨w0, w1, w2, w3, wsh, wst, a2, a3, a4, a5, a6, a7⟩ := id hw
  show gG X 0 [(0, .ref (g_ad X 0)), (1, .int (nI (p)))] [] S
  refine g_aload_n K 0 dX5_ring_0 rfl ?_
  refine g_iload_n K 1 dX5_ring_1 rfl ?_
  refine g_callVv (q := 0) (ci := 5) (As := [.int (nI (p))]) (rest := []) (C := RX5) (T := TX5) (N := 5) K (cX5_requirePipe_k (g_z X) S p (hw) (by omega)) (cwV 1 K.1.2.2.2.2 gX5_ring_X5_requirePipe rfl rfl rfl (by decide +kernel) ⟨Nat.le_trans (Nat.le_of_ble_eq_true rfl) hRf, Nat.le_trans (Nat.le_of_ble_eq_true rfl) hRl⟩) rfl rfl rfl rfl (Nat.le_of_ble_eq_true rfl) dX5_ring_2 ?_
  refine g_aload_n K 0 dX5_ring_5 rfl ?_
  refine g_getR (q' := 10) (q := 0) (ci := 5) (k := 2) (N := 5) (C := RX5) (T := TX5) (ref := "ValveWalk") K rfl rfl rfl (by decide) hin5 (by decide +kernel) rfl dX5_ring_6 ?_
  refine g_aload_n K 0 dX5_ring_9 rfl ?_
  refine g_iload_n K 1 dX5_ring_10 rfl ?_
  exact g_callVx (q := 0) (ci := 5) (As := [.int (nI (p))]) (rest := [.ref (g_ad X 10)]) (C := RX5) (U := TX5) (N := 5) K hTX (xX5_regionWithoutSource_x (g_z X) S p hl0 (hw) (by omega) (by assumption)) (cwV 1 K.1.2.2.2.2 gX5_ring_X5_regionWithoutSource rfl rfl rfl (by decide +kernel) ⟨Nat.le_trans (Nat.le_of_ble_eq_true rfl) hRf, Nat.le_trans (Nat.le_of_ble_eq_true rfl) hRl⟩) hce hsl rfl rfl rfl rfl (Nat.le_of_ble_eq_true rfl) dX5_ring_11 (hprop _ _)

set_option maxHeartbeats 4000000 in
set_option maxRecDepth 100000 in
theorem cX5_cutOff_k (Z : gZ) (S : Nat → Nat → Nat) (p : Nat) (hw : wfC S) (hn : p < S 1 1) (hs : regOf S p &&& S 1 3 = 0) : gMd Z yX5_cutOff wsX5_cutOff { frames := 4, cells := 0, slots := 0, locals := 91 } [.ref (gz_ad Z 0), .int (nI (p))] S (lostF S (regOf S p)) (S) := by
  refine gMd_of (cc := cX5_cutOff) (maxL := 2) (ret := (some .int)) (by decide +kernel) rfl (Nat.le_of_ble_eq_true rfl) (Or.inl rfl) (fun X hZ hR K hret => ?_)
  subst hZ
  have K : gOk X cX5_cutOff 2 wsX5_cutOff RX5 := K
  have hRf : 4 ≤ (g_R X).frames := gR_f hR rfl
  have hRl : 91 ≤ (g_R X).locals := gR_l hR rfl
  have hin5 : ∀ w ∈ u_ws RX5 TX5 5, w ∈ wsX5_cutOff := by decide +kernel
  obtain ⟨w0, w1, w2, w3, wsh, wst, a2, a3, a4, a5, a6, a7⟩ := id hw
  show gG X 0 [(0, .ref (g_ad X 0)), (1, .int (nI (p)))] [] S
  refine g_aload_n K 0 dX5_cutOff_0 rfl ?_
  refine g_iload_n K 1 dX5_cutOff_1 rfl ?_
  refine g_callVv (q := 0) (ci := 5) (As := [.int (nI (p))]) (rest := []) (C := RX5) (T := TX5) (N := 5) K (cX5_requirePipe_k (g_z X) S p (hw) (by omega)) (cwV 1 K.1.2.2.2.2 gX5_cutOff_X5_requirePipe rfl rfl rfl (by decide +kernel) ⟨Nat.le_trans (Nat.le_of_ble_eq_true rfl) hRf, Nat.le_trans (Nat.le_of_ble_eq_true rfl) hRl⟩) rfl rfl rfl rfl (Nat.le_of_ble_eq_true rfl) dX5_cutOff_2 ?_
  refine g_aload_n K 0 dX5_cutOff_5 rfl ?_
  refine g_getR (q' := 10) (q := 0) (ci := 5) (k := 2) (N := 5) (C := RX5) (T := TX5) (ref := "ValveWalk") K rfl rfl rfl (by decide) hin5 (by decide +kernel) rfl dX5_cutOff_6 ?_
  refine g_aload_n K 0 dX5_cutOff_9 rfl ?_
  refine g_iload_n K 1 dX5_cutOff_10 rfl ?_
  refine g_callVd (q := 0) (ci := 5) (As := [.int (nI (p))]) (rest := [.ref (g_ad X 10)]) (C := RX5) (T := TX5) (N := 5) K (cX5_regionWithoutSource_k (g_z X) S p (hw) (by omega) (by assumption)) (cwV 1 K.1.2.2.2.2 gX5_cutOff_X5_regionWithoutSource rfl rfl rfl (by decide +kernel) ⟨Nat.le_trans (Nat.le_of_ble_eq_true rfl) hRf, Nat.le_trans (Nat.le_of_ble_eq_true rfl) hRl⟩) rfl rfl rfl rfl (Nat.le_of_ble_eq_true rfl) dX5_cutOff_11 ?_
  have h14 := regOf_lt hw (show p < 16 by omega)
  refine g_callVd (q := 10) (ci := 0) (As := [.int (nI (regOf S p))]) (rest := []) (C := RX0) (T := TX0) (N := 6) K (cX0_customersLost_k (g_z X) S (regOf S p) (hw) (by omega)) (cwV 1 K.1.2.2.2.2 gX5_cutOff_X0_customersLost rfl rfl rfl (by decide +kernel) ⟨Nat.le_trans (Nat.le_of_ble_eq_true rfl) hRf, Nat.le_trans (Nat.le_of_ble_eq_true rfl) hRl⟩) rfl rfl rfl rfl (Nat.le_of_ble_eq_true rfl) dX5_cutOff_14 ?_
  exact g_retd hret dX5_cutOff_17 rfl rfl

set_option maxHeartbeats 4000000 in
set_option maxRecDepth 100000 in
theorem xX5_cutOff_x1 (Z : gZ) (S : Nat → Nat → Nat) (p : Nat) (hl0 : (gz_l Z).stackTraces = false) (hw : wfC S) (hup : p < 4294967296) (hn : S 1 1 ≤ p) : gMx Z yX5_cutOff wsX5_cutOff { frames := 7, cells := 1, slots := 6, locals := 111 } [.ref (gz_ad Z 0), .int (nI (p))] S (S) IOB := by
  refine gMx_of (cc := cX5_cutOff) (maxL := 2) (ret := (some .int)) hl0 (by decide +kernel) rfl rfl (Nat.le_of_ble_eq_true rfl) rfl rfl (Nat.le_of_ble_eq_true rfl) (Nat.le_of_ble_eq_true rfl) (fun X hZ hR K hTX hce hsl hthr hprop => ?_)
  subst hZ
  have K : gOk X cX5_cutOff 2 wsX5_cutOff RX5 := K
  have hRf : 7 ≤ (g_R X).frames := gR_f hR rfl
  have hRl : 111 ≤ (g_R X).locals := gR_l hR rfl
  have hin5 : ∀ w ∈ u_ws RX5 TX5 5, w ∈ wsX5_cutOff := by decide +kernel
  obtain ⟨w0, w1, w2, w3, wsh, wst, a2, a3, a4, a5, a6, a7⟩ := id hw
  show gG X 0 [(0, .ref (g_ad X 0)), (1, .int (nI (p)))] [] S
  refine g_aload_n K 0 dX5_cutOff_0 rfl ?_
  refine g_iload_n K 1 dX5_cutOff_1 rfl ?_
  exact g_callVx (q := 0) (ci := 5) (As := [.int (nI (p))]) (rest := []) (C := RX5) (U := TX5) (N := 5) K hTX (xX5_requirePipe_x (g_z X) S p hl0 (hw) (by omega) (by omega)) (cwV 1 K.1.2.2.2.2 gX5_cutOff_X5_requirePipe rfl rfl rfl (by decide +kernel) ⟨Nat.le_trans (Nat.le_of_ble_eq_true rfl) hRf, Nat.le_trans (Nat.le_of_ble_eq_true rfl) hRl⟩) hce hsl rfl rfl rfl rfl (Nat.le_of_ble_eq_true rfl) dX5_cutOff_2 (hprop _ _)

set_option maxHeartbeats 4000000 in
set_option maxRecDepth 100000 in
theorem xX5_cutOff_x2 (Z : gZ) (S : Nat → Nat → Nat) (p : Nat) (hl0 : (gz_l Z).stackTraces = false) (hw : wfC S) (hn : p < S 1 1) (hs : regOf S p &&& S 1 3 ≠ 0) : gMx Z yX5_cutOff wsX5_cutOff { frames := 7, cells := 1, slots := 6, locals := 112 } [.ref (gz_ad Z 0), .int (nI (p))] S (S) ISE := by
  refine gMx_of (cc := cX5_cutOff) (maxL := 2) (ret := (some .int)) hl0 (by decide +kernel) rfl rfl (Nat.le_of_ble_eq_true rfl) rfl rfl (Nat.le_of_ble_eq_true rfl) (Nat.le_of_ble_eq_true rfl) (fun X hZ hR K hTX hce hsl hthr hprop => ?_)
  subst hZ
  have K : gOk X cX5_cutOff 2 wsX5_cutOff RX5 := K
  have hRf : 7 ≤ (g_R X).frames := gR_f hR rfl
  have hRl : 112 ≤ (g_R X).locals := gR_l hR rfl
  have hin5 : ∀ w ∈ u_ws RX5 TX5 5, w ∈ wsX5_cutOff := by decide +kernel
  obtain ⟨w0, w1, w2, w3, wsh, wst, a2, a3, a4, a5, a6, a7⟩ := id hw
  show gG X 0 [(0, .ref (g_ad X 0)), (1, .int (nI (p)))] [] S
  refine g_aload_n K 0 dX5_cutOff_0 rfl ?_
  refine g_iload_n K 1 dX5_cutOff_1 rfl ?_
  refine g_callVv (q := 0) (ci := 5) (As := [.int (nI (p))]) (rest := []) (C := RX5) (T := TX5) (N := 5) K (cX5_requirePipe_k (g_z X) S p (hw) (by omega)) (cwV 1 K.1.2.2.2.2 gX5_cutOff_X5_requirePipe rfl rfl rfl (by decide +kernel) ⟨Nat.le_trans (Nat.le_of_ble_eq_true rfl) hRf, Nat.le_trans (Nat.le_of_ble_eq_true rfl) hRl⟩) rfl rfl rfl rfl (Nat.le_of_ble_eq_true rfl) dX5_cutOff_2 ?_
  refine g_aload_n K 0 dX5_cutOff_5 rfl ?_
  refine g_getR (q' := 10) (q := 0) (ci := 5) (k := 2) (N := 5) (C := RX5) (T := TX5) (ref := "ValveWalk") K rfl rfl rfl (by decide) hin5 (by decide +kernel) rfl dX5_cutOff_6 ?_
  refine g_aload_n K 0 dX5_cutOff_9 rfl ?_
  refine g_iload_n K 1 dX5_cutOff_10 rfl ?_
  exact g_callVx (q := 0) (ci := 5) (As := [.int (nI (p))]) (rest := [.ref (g_ad X 10)]) (C := RX5) (U := TX5) (N := 5) K hTX (xX5_regionWithoutSource_x (g_z X) S p hl0 (hw) (by omega) (by assumption)) (cwV 1 K.1.2.2.2.2 gX5_cutOff_X5_regionWithoutSource rfl rfl rfl (by decide +kernel) ⟨Nat.le_trans (Nat.le_of_ble_eq_true rfl) hRf, Nat.le_trans (Nat.le_of_ble_eq_true rfl) hRl⟩) hce hsl rfl rfl rfl rfl (Nat.le_of_ble_eq_true rfl) dX5_cutOff_11 (hprop _ _)

set_option maxHeartbeats 4000000 in
set_option maxRecDepth 100000 in
theorem cX5_fewest_k (Z : gZ) (S : Nat → Nat → Nat) (p : Nat) (hw : wfC S) (hn : p < S 1 1) (hU : wfU S) : gMd Z yX5_fewest wsX5_fewest { frames := 5, cells := 0, slots := 0, locals := 114 } [.ref (gz_ad Z 0), .int (nI (p))] S (waysF S p) (waysS S p) := by
  refine gMd_of (cc := cX5_fewest) (maxL := 2) (ret := (some .int)) (by decide +kernel) rfl (Nat.le_of_ble_eq_true rfl) (Or.inl rfl) (fun X hZ hR K hret => ?_)
  subst hZ
  have K : gOk X cX5_fewest 2 wsX5_fewest RX5 := K
  have hRf : 5 ≤ (g_R X).frames := gR_f hR rfl
  have hRl : 114 ≤ (g_R X).locals := gR_l hR rfl
  have hin5 : ∀ w ∈ u_ws RX5 TX5 5, w ∈ wsX5_fewest := by decide +kernel
  obtain ⟨w0, w1, w2, w3, wsh, wst, a2, a3, a4, a5, a6, a7⟩ := id hw
  show gG X 0 [(0, .ref (g_ad X 0)), (1, .int (nI (p)))] [] S
  refine g_aload_n K 0 dX5_fewest_0 rfl ?_
  refine g_iload_n K 1 dX5_fewest_1 rfl ?_
  refine g_callVv (q := 0) (ci := 5) (As := [.int (nI (p))]) (rest := []) (C := RX5) (T := TX5) (N := 5) K (cX5_requirePipe_k (g_z X) S p (hw) (by omega)) (cwV 1 K.1.2.2.2.2 gX5_fewest_X5_requirePipe rfl rfl rfl (by decide +kernel) ⟨Nat.le_trans (Nat.le_of_ble_eq_true rfl) hRf, Nat.le_trans (Nat.le_of_ble_eq_true rfl) hRl⟩) rfl rfl rfl rfl (Nat.le_of_ble_eq_true rfl) dX5_fewest_2 ?_
  refine g_aload_n K 0 dX5_fewest_5 rfl ?_
  refine g_getR (q' := 10) (q := 0) (ci := 5) (k := 2) (N := 5) (C := RX5) (T := TX5) (ref := "ValveWalk") K rfl rfl rfl (by decide) hin5 (by decide +kernel) rfl dX5_fewest_6 ?_
  refine g_iload_n K 1 dX5_fewest_9 rfl ?_
  refine g_callVd (q := 10) (ci := 0) (As := [.int (nI (p))]) (rest := []) (C := RX0) (T := TX0) (N := 6) K (cX0_countWays_k (g_z X) S p (hw) (hU) (by omega)) (cwV 1 K.1.2.2.2.2 gX5_fewest_X0_countWays rfl rfl rfl (by decide +kernel) ⟨Nat.le_trans (Nat.le_of_ble_eq_true rfl) hRf, Nat.le_trans (Nat.le_of_ble_eq_true rfl) hRl⟩) rfl rfl rfl rfl (Nat.le_of_ble_eq_true rfl) dX5_fewest_10 ?_
  exact g_retd hret dX5_fewest_13 rfl rfl

set_option maxHeartbeats 4000000 in
set_option maxRecDepth 100000 in
theorem xX5_fewest_x1 (Z : gZ) (S : Nat → Nat → Nat) (p : Nat) (hl0 : (gz_l Z).stackTraces = false) (hw : wfC S) (hup : p < 4294967296) (hn : S 1 1 ≤ p) : gMx Z yX5_fewest wsX5_fewest { frames := 7, cells := 1, slots := 6, locals := 111 } [.ref (gz_ad Z 0), .int (nI (p))] S (S) IOB := by
  refine gMx_of (cc := cX5_fewest) (maxL := 2) (ret := (some .int)) hl0 (by decide +kernel) rfl rfl (Nat.le_of_ble_eq_true rfl) rfl rfl (Nat.le_of_ble_eq_true rfl) (Nat.le_of_ble_eq_true rfl) (fun X hZ hR K hTX hce hsl hthr hprop => ?_)
  subst hZ
  have K : gOk X cX5_fewest 2 wsX5_fewest RX5 := K
  have hRf : 7 ≤ (g_R X).frames := gR_f hR rfl
  have hRl : 111 ≤ (g_R X).locals := gR_l hR rfl
  have hin5 : ∀ w ∈ u_ws RX5 TX5 5, w ∈ wsX5_fewest := by decide +kernel
  obtain ⟨w0, w1, w2, w3, wsh, wst, a2, a3, a4, a5, a6, a7⟩ := id hw
  show gG X 0 [(0, .ref (g_ad X 0)), (1, .int (nI (p)))] [] S
  refine g_aload_n K 0 dX5_fewest_0 rfl ?_
  refine g_iload_n K 1 dX5_fewest_1 rfl ?_
  exact g_callVx (q := 0) (ci := 5) (As := [.int (nI (p))]) (rest := []) (C := RX5) (U := TX5) (N := 5) K hTX (xX5_requirePipe_x (g_z X) S p hl0 (hw) (by omega) (by omega)) (cwV 1 K.1.2.2.2.2 gX5_fewest_X5_requirePipe rfl rfl rfl (by decide +kernel) ⟨Nat.le_trans (Nat.le_of_ble_eq_true rfl) hRf, Nat.le_trans (Nat.le_of_ble_eq_true rfl) hRl⟩) hce hsl rfl rfl rfl rfl (Nat.le_of_ble_eq_true rfl) dX5_fewest_2 (hprop _ _)

set_option maxHeartbeats 4000000 in
set_option maxRecDepth 100000 in
theorem cX5_fewestByTrying_k (Z : gZ) (S : Nat → Nat → Nat) (p : Nat) (hw : wfC S) (hn : p < S 1 1) : gMd Z yX5_fewestByTrying wsX5_fewestByTrying { frames := 5, cells := 0, slots := 0, locals := 118 } [.ref (gz_ad Z 0), .int (nI (p))] S (tryF S p) (tryS S p) := by
  refine gMd_of (cc := cX5_fewestByTrying) (maxL := 2) (ret := (some .int)) (by decide +kernel) rfl (Nat.le_of_ble_eq_true rfl) (Or.inl rfl) (fun X hZ hR K hret => ?_)
  subst hZ
  have K : gOk X cX5_fewestByTrying 2 wsX5_fewestByTrying RX5 := K
  have hRf : 5 ≤ (g_R X).frames := gR_f hR rfl
  have hRl : 118 ≤ (g_R X).locals := gR_l hR rfl
  have hin5 : ∀ w ∈ u_ws RX5 TX5 5, w ∈ wsX5_fewestByTrying := by decide +kernel
  obtain ⟨w0, w1, w2, w3, wsh, wst, a2, a3, a4, a5, a6, a7⟩ := id hw
  show gG X 0 [(0, .ref (g_ad X 0)), (1, .int (nI (p)))] [] S
  refine g_aload_n K 0 dX5_fewestByTrying_0 rfl ?_
  refine g_iload_n K 1 dX5_fewestByTrying_1 rfl ?_
  refine g_callVv (q := 0) (ci := 5) (As := [.int (nI (p))]) (rest := []) (C := RX5) (T := TX5) (N := 5) K (cX5_requirePipe_k (g_z X) S p (hw) (by omega)) (cwV 1 K.1.2.2.2.2 gX5_fewestByTrying_X5_requirePipe rfl rfl rfl (by decide +kernel) ⟨Nat.le_trans (Nat.le_of_ble_eq_true rfl) hRf, Nat.le_trans (Nat.le_of_ble_eq_true rfl) hRl⟩) rfl rfl rfl rfl (Nat.le_of_ble_eq_true rfl) dX5_fewestByTrying_2 ?_
  refine g_aload_n K 0 dX5_fewestByTrying_5 rfl ?_
  refine g_getR (q' := 10) (q := 0) (ci := 5) (k := 2) (N := 5) (C := RX5) (T := TX5) (ref := "ValveWalk") K rfl rfl rfl (by decide) hin5 (by decide +kernel) rfl dX5_fewestByTrying_6 ?_
  refine g_iload_n K 1 dX5_fewestByTrying_9 rfl ?_
  refine g_callVd (q := 10) (ci := 0) (As := [.int (nI (p))]) (rest := []) (C := RX0) (T := TX0) (N := 6) K (cX0_trySets_k (g_z X) S p (hw) (by omega)) (cwV 1 K.1.2.2.2.2 gX5_fewestByTrying_X0_trySets rfl rfl rfl (by decide +kernel) ⟨Nat.le_trans (Nat.le_of_ble_eq_true rfl) hRf, Nat.le_trans (Nat.le_of_ble_eq_true rfl) hRl⟩) rfl rfl rfl rfl (Nat.le_of_ble_eq_true rfl) dX5_fewestByTrying_10 ?_
  exact g_retd hret dX5_fewestByTrying_13 rfl rfl

set_option maxHeartbeats 4000000 in
set_option maxRecDepth 100000 in
theorem xX5_fewestByTrying_x1 (Z : gZ) (S : Nat → Nat → Nat) (p : Nat) (hl0 : (gz_l Z).stackTraces = false) (hw : wfC S) (hup : p < 4294967296) (hn : S 1 1 ≤ p) : gMx Z yX5_fewestByTrying wsX5_fewestByTrying { frames := 7, cells := 1, slots := 6, locals := 111 } [.ref (gz_ad Z 0), .int (nI (p))] S (S) IOB := by
  refine gMx_of (cc := cX5_fewestByTrying) (maxL := 2) (ret := (some .int)) hl0 (by decide +kernel) rfl rfl (Nat.le_of_ble_eq_true rfl) rfl rfl (Nat.le_of_ble_eq_true rfl) (Nat.le_of_ble_eq_true rfl) (fun X hZ hR K hTX hce hsl hthr hprop => ?_)
  subst hZ
  have K : gOk X cX5_fewestByTrying 2 wsX5_fewestByTrying RX5 := K
  have hRf : 7 ≤ (g_R X).frames := gR_f hR rfl
  have hRl : 111 ≤ (g_R X).locals := gR_l hR rfl
  have hin5 : ∀ w ∈ u_ws RX5 TX5 5, w ∈ wsX5_fewestByTrying := by decide +kernel
  obtain ⟨w0, w1, w2, w3, wsh, wst, a2, a3, a4, a5, a6, a7⟩ := id hw
  show gG X 0 [(0, .ref (g_ad X 0)), (1, .int (nI (p)))] [] S
  refine g_aload_n K 0 dX5_fewestByTrying_0 rfl ?_
  refine g_iload_n K 1 dX5_fewestByTrying_1 rfl ?_
  exact g_callVx (q := 0) (ci := 5) (As := [.int (nI (p))]) (rest := []) (C := RX5) (U := TX5) (N := 5) K hTX (xX5_requirePipe_x (g_z X) S p hl0 (hw) (by omega) (by omega)) (cwV 1 K.1.2.2.2.2 gX5_fewestByTrying_X5_requirePipe rfl rfl rfl (by decide +kernel) ⟨Nat.le_trans (Nat.le_of_ble_eq_true rfl) hRf, Nat.le_trans (Nat.le_of_ble_eq_true rfl) hRl⟩) hce hsl rfl rfl rfl rfl (Nat.le_of_ble_eq_true rfl) dX5_fewestByTrying_2 (hprop _ _)

set_option maxHeartbeats 4000000 in
set_option maxRecDepth 100000 in
theorem cX5_distance_k (Z : gZ) (S : Nat → Nat → Nat) (n : Nat) (hw : wfC S) (hn : n < S 1 0) : gMd Z yX5_distance wsX5_distance { frames := 4, cells := 0, slots := 0, locals := 89 } [.ref (gz_ad Z 0), .int (nI (n))] S (if measD S n < 1000000 then measD S n else 4294967295) (va_up S 17 (measD S)) := by
  refine gMd_of (cc := cX5_distance) (maxL := 2) (ret := (some .int)) (by decide +kernel) rfl (Nat.le_of_ble_eq_true rfl) (Or.inl rfl) (fun X hZ hR K hret => ?_)
  subst hZ
  have K : gOk X cX5_distance 2 wsX5_distance RX5 := K
  have hRf : 4 ≤ (g_R X).frames := gR_f hR rfl
  have hRl : 89 ≤ (g_R X).locals := gR_l hR rfl
  have hin5 : ∀ w ∈ u_ws RX5 TX5 5, w ∈ wsX5_distance := by decide +kernel
  obtain ⟨w0, w1, w2, w3, wsh, wst, a2, a3, a4, a5, a6, a7⟩ := id hw
  show gG X 0 [(0, .ref (g_ad X 0)), (1, .int (nI (n)))] [] S
  refine g_aload_n K 0 dX5_distance_0 rfl ?_
  refine g_iload_n K 1 dX5_distance_1 rfl ?_
  refine g_callVv (q := 0) (ci := 5) (As := [.int (nI (n))]) (rest := []) (C := RX5) (T := TX5) (N := 5) K (cX5_requireNode_k (g_z X) S n (hw) (by omega)) (cwV 1 K.1.2.2.2.2 gX5_distance_X5_requireNode rfl rfl rfl (by decide +kernel) ⟨Nat.le_trans (Nat.le_of_ble_eq_true rfl) hRf, Nat.le_trans (Nat.le_of_ble_eq_true rfl) hRl⟩) rfl rfl rfl rfl (Nat.le_of_ble_eq_true rfl) dX5_distance_2 ?_
  refine g_aload_n K 0 dX5_distance_5 rfl ?_
  refine g_getR (q' := 16) (q := 0) (ci := 5) (k := 3) (N := 5) (C := RX5) (T := TX5) (ref := "ValveWalk") K rfl rfl rfl (by decide) hin5 (by decide +kernel) rfl dX5_distance_6 ?_
  refine g_iload_n K 1 dX5_distance_9 rfl ?_
  refine g_callVd (q := 16) (ci := 1) (As := [.int (nI (n))]) (rest := []) (C := RX1) (T := TX1) (N := 2) K (cX1_distanceOf_k (g_z X) S n (hw) (by omega)) (cwV 1 K.1.2.2.2.2 gX5_distance_X1_distanceOf rfl rfl rfl (by decide +kernel) ⟨Nat.le_trans (Nat.le_of_ble_eq_true rfl) hRf, Nat.le_trans (Nat.le_of_ble_eq_true rfl) hRl⟩) rfl rfl rfl rfl (Nat.le_of_ble_eq_true rfl) dX5_distance_10 ?_
  exact g_retd hret dX5_distance_13 rfl rfl

set_option maxHeartbeats 4000000 in
set_option maxRecDepth 100000 in
theorem xX5_distance_x1 (Z : gZ) (S : Nat → Nat → Nat) (n : Nat) (hl0 : (gz_l Z).stackTraces = false) (hw : wfC S) (hun : n < 4294967296) (hn : S 1 0 ≤ n) : gMx Z yX5_distance wsX5_distance { frames := 7, cells := 1, slots := 6, locals := 111 } [.ref (gz_ad Z 0), .int (nI (n))] S (S) IOB := by
  refine gMx_of (cc := cX5_distance) (maxL := 2) (ret := (some .int)) hl0 (by decide +kernel) rfl rfl (Nat.le_of_ble_eq_true rfl) rfl rfl (Nat.le_of_ble_eq_true rfl) (Nat.le_of_ble_eq_true rfl) (fun X hZ hR K hTX hce hsl hthr hprop => ?_)
  subst hZ
  have K : gOk X cX5_distance 2 wsX5_distance RX5 := K
  have hRf : 7 ≤ (g_R X).frames := gR_f hR rfl
  have hRl : 111 ≤ (g_R X).locals := gR_l hR rfl
  have hin5 : ∀ w ∈ u_ws RX5 TX5 5, w ∈ wsX5_distance := by decide +kernel
  obtain ⟨w0, w1, w2, w3, wsh, wst, a2, a3, a4, a5, a6, a7⟩ := id hw
  show gG X 0 [(0, .ref (g_ad X 0)), (1, .int (nI (n)))] [] S
  refine g_aload_n K 0 dX5_distance_0 rfl ?_
  refine g_iload_n K 1 dX5_distance_1 rfl ?_
  exact g_callVx (q := 0) (ci := 5) (As := [.int (nI (n))]) (rest := []) (C := RX5) (U := TX5) (N := 5) K hTX (xX5_requireNode_x (g_z X) S n hl0 (hw) (by omega) (by omega)) (cwV 1 K.1.2.2.2.2 gX5_distance_X5_requireNode rfl rfl rfl (by decide +kernel) ⟨Nat.le_trans (Nat.le_of_ble_eq_true rfl) hRf, Nat.le_trans (Nat.le_of_ble_eq_true rfl) hRl⟩) hce hsl rfl rfl rfl rfl (Nat.le_of_ble_eq_true rfl) dX5_distance_2 (hprop _ _)

theorem flushGo_lt (S : Nat → Nat → Nat) (d : Nat → Nat) (pl : Nat) : ∀ (k p : Nat), p + k ≤ 16 → flushGo S d pl k p < 4294967296
  | 0, _, _ => by show 4294967295 < 4294967296; decide
  | k + 1, p, h => by
    have h1 := endF_le S d p
    have h2 := flushGo_lt S d pl k (p + 1) (by omega)
    unfold flushGo
    (repeat' split) <;> omega
theorem flushF_lt {S : Nat → Nat → Nat} (hw : wfC S) (pl : Nat) : flushF S pl < 4294967296 := flushGo_lt S _ pl _ 0 (by have := hw.2.1; omega)
set_option maxHeartbeats 4000000 in
set_option maxRecDepth 100000 in
theorem cX5_flushAt_k (Z : gZ) (S : Nat → Nat → Nat) (pl : Nat) (hw : wfC S) (hpl : pl < 4294967296) (hne : flushF S pl ≠ 4294967295) : gMd Z yX5_flushAt wsX5_flushAt { frames := 7, cells := 0, slots := 0, locals := 155 } [.ref (gz_ad Z 0), .int (nI (pl))] S (flushF S pl) (va_up S 17 (measD S)) := by
  refine gMd_of (cc := cX5_flushAt) (maxL := 3) (ret := (some .int)) (by decide +kernel) rfl (Nat.le_of_ble_eq_true rfl) (Or.inl rfl) (fun X hZ hR K hret => ?_)
  subst hZ
  have K : gOk X cX5_flushAt 3 wsX5_flushAt RX5 := K
  have hRf : 7 ≤ (g_R X).frames := gR_f hR rfl
  have hRl : 155 ≤ (g_R X).locals := gR_l hR rfl
  have hin5 : ∀ w ∈ u_ws RX5 TX5 5, w ∈ wsX5_flushAt := by decide +kernel
  obtain ⟨w0, w1, w2, w3, wsh, wst, a2, a3, a4, a5, a6, a7⟩ := id hw
  show gG X 0 [(0, .ref (g_ad X 0)), (1, .int (nI (pl)))] [] S
  refine g_aload_n K 0 dX5_flushAt_0 rfl ?_
  refine g_getR (q' := 16) (q := 0) (ci := 5) (k := 3) (N := 5) (C := RX5) (T := TX5) (ref := "ValveWalk") K rfl rfl rfl (by decide) hin5 (by decide +kernel) rfl dX5_flushAt_1 ?_
  refine g_iload_n K 1 dX5_flushAt_4 rfl ?_
  refine g_callVd (q := 16) (ci := 1) (As := [.int (nI (pl))]) (rest := []) (C := RX1) (T := TX1) (N := 2) K (cX1_pipeAndEndAt_k (g_z X) S pl (hw) (by omega)) (cwV 1 K.1.2.2.2.2 gX5_flushAt_X1_pipeAndEndAt rfl rfl rfl (by decide +kernel) ⟨Nat.le_trans (Nat.le_of_ble_eq_true rfl) hRf, Nat.le_trans (Nat.le_of_ble_eq_true rfl) hRl⟩) rfl rfl rfl rfl (Nat.le_of_ble_eq_true rfl) dX5_flushAt_5 ?_
  refine g_istore_n (lo' := [(2, .int (nI (flushF S pl))), (0, .ref (g_ad X 0)), (1, .int (nI (pl)))]) K dX5_flushAt_8 (by decide) rfl ?_
  have h9 := flushF_lt hw pl
  refine g_iload_n K 0 dX5_flushAt_9 rfl ?_
  refine g_iconst K 4294967295 dX5_flushAt_10 (by decide +kernel) ?_
  refine g_icmp_ne (tgt := 24) (a := flushF S pl) (b := 4294967295) K dX5_flushAt_11 (by decide) (by omega) (by omega) (fun h11_1 => ?_) (fun h11_1 => ?_)
  · refine g_iload_n K 0 dX5_flushAt_24 rfl ?_
    exact g_retd hret dX5_flushAt_25 rfl rfl
  · exfalso; omega

set_option maxHeartbeats 4000000 in
set_option maxRecDepth 100000 in
theorem xX5_flushAt_x (Z : gZ) (S : Nat → Nat → Nat) (pl : Nat) (hl0 : (gz_l Z).stackTraces = false) (hw : wfC S) (hpl : pl < 4294967296) (hne : flushF S pl = 4294967295) : gMx Z yX5_flushAt wsX5_flushAt { frames := 7, cells := 1, slots := 6, locals := 155 } [.ref (gz_ad Z 0), .int (nI (pl))] S (va_up S 17 (measD S)) IOB := by
  refine gMx_of (cc := cX5_flushAt) (maxL := 3) (ret := (some .int)) hl0 (by decide +kernel) rfl rfl (Nat.le_of_ble_eq_true rfl) rfl rfl (Nat.le_of_ble_eq_true rfl) (Nat.le_of_ble_eq_true rfl) (fun X hZ hR K hTX hce hsl hthr hprop => ?_)
  subst hZ
  have K : gOk X cX5_flushAt 3 wsX5_flushAt RX5 := K
  have hRf : 7 ≤ (g_R X).frames := gR_f hR rfl
  have hRl : 155 ≤ (g_R X).locals := gR_l hR rfl
  have hin5 : ∀ w ∈ u_ws RX5 TX5 5, w ∈ wsX5_flushAt := by decide +kernel
  obtain ⟨w0, w1, w2, w3, wsh, wst, a2, a3, a4, a5, a6, a7⟩ := id hw
  show gG X 0 [(0, .ref (g_ad X 0)), (1, .int (nI (pl)))] [] S
  refine g_aload_n K 0 dX5_flushAt_0 rfl ?_
  refine g_getR (q' := 16) (q := 0) (ci := 5) (k := 3) (N := 5) (C := RX5) (T := TX5) (ref := "ValveWalk") K rfl rfl rfl (by decide) hin5 (by decide +kernel) rfl dX5_flushAt_1 ?_
  refine g_iload_n K 1 dX5_flushAt_4 rfl ?_
  refine g_callVd (q := 16) (ci := 1) (As := [.int (nI (pl))]) (rest := []) (C := RX1) (T := TX1) (N := 2) K (cX1_pipeAndEndAt_k (g_z X) S pl (hw) (by omega)) (cwV 1 K.1.2.2.2.2 gX5_flushAt_X1_pipeAndEndAt rfl rfl rfl (by decide +kernel) ⟨Nat.le_trans (Nat.le_of_ble_eq_true rfl) hRf, Nat.le_trans (Nat.le_of_ble_eq_true rfl) hRl⟩) rfl rfl rfl rfl (Nat.le_of_ble_eq_true rfl) dX5_flushAt_5 ?_
  refine g_istore_n (lo' := [(2, .int (nI (flushF S pl))), (0, .ref (g_ad X 0)), (1, .int (nI (pl)))]) K dX5_flushAt_8 (by decide) rfl ?_
  have h9 := flushF_lt hw pl
  refine g_iload_n K 0 dX5_flushAt_9 rfl ?_
  refine g_iconst K 4294967295 dX5_flushAt_10 (by decide +kernel) ?_
  refine g_icmp_ne (tgt := 24) (a := flushF S pl) (b := 4294967295) K dX5_flushAt_11 (by decide) (by omega) (by omega) (fun h11_1 => ?_) (fun h11_1 => ?_)
  · refine g_iload_n K 0 dX5_flushAt_24 rfl ?_
    exfalso; omega
  · exact hthr 14 _ _ 164 166 168 "there is no such place" thK3 (by decide +kernel) (by decide +kernel) (by decide +kernel) (by decide +kernel) (Nat.le_of_ble_eq_true rfl) dX5_flushAt_14 dX5_flushAt_17 dX5_flushAt_18 dX5_flushAt_20 dX5_flushAt_23

set_option maxHeartbeats 4000000 in
set_option maxRecDepth 100000 in
theorem cX5_walk_k (Z : gZ) (S : Nat → Nat → Nat) (n a : Nat) (hw : wfC S) (hn : n < S 1 0) (ha : a < 1 <<< S 1 2) (hb : bc a ≤ 6) : gMd Z yX5_walk wsX5_walk { frames := 5, cells := 0, slots := 0, locals := 112 } [.ref (gz_ad Z 0), .int (nI (n)), .int (nI (a))] S (walkF S n a) (walkS S n a) := by
  refine gMd_of (cc := cX5_walk) (maxL := 3) (ret := (some .int)) (by decide +kernel) rfl (Nat.le_of_ble_eq_true rfl) (Or.inl rfl) (fun X hZ hR K hret => ?_)
  subst hZ
  have K : gOk X cX5_walk 3 wsX5_walk RX5 := K
  have hRf : 5 ≤ (g_R X).frames := gR_f hR rfl
  have hRl : 112 ≤ (g_R X).locals := gR_l hR rfl
  have hin5 : ∀ w ∈ u_ws RX5 TX5 5, w ∈ wsX5_walk := by decide +kernel
  obtain ⟨w0, w1, w2, w3, wsh, wst, a2, a3, a4, a5, a6, a7⟩ := id hw
  show gG X 0 [(0, .ref (g_ad X 0)), (1, .int (nI (n))), (2, .int (nI (a)))] [] S
  refine g_aload_n K 0 dX5_walk_0 rfl ?_
  refine g_iload_n K 1 dX5_walk_1 rfl ?_
  refine g_callVv (q := 0) (ci := 5) (As := [.int (nI (n))]) (rest := []) (C := RX5) (T := TX5) (N := 5) K (cX5_requireNode_k (g_z X) S n (hw) (by omega)) (cwV 1 K.1.2.2.2.2 gX5_walk_X5_requireNode rfl rfl rfl (by decide +kernel) ⟨Nat.le_trans (Nat.le_of_ble_eq_true rfl) hRf, Nat.le_trans (Nat.le_of_ble_eq_true rfl) hRl⟩) rfl rfl rfl rfl (Nat.le_of_ble_eq_true rfl) dX5_walk_2 ?_
  have hs0 : 1 <<< S 1 2 ≤ 4096 := shl1_le (n := 12) w2
  refine g_iload_n K 2 dX5_walk_5 rfl ?_
  refine g_if_lt (tgt := 22) (a := a) K dX5_walk_6 (by decide) (by omega) (fun h6_1 => ?_) (fun h6_1 => ?_)
  · exfalso; omega
  · refine g_iload_n K 2 dX5_walk_9 rfl ?_
    refine g_iconst K 1 dX5_walk_10 (by decide +kernel) ?_
    refine g_aload_n K 0 dX5_walk_11 rfl ?_
    refine g_getR (q' := 1) (q := 0) (ci := 5) (k := 0) (N := 5) (C := RX5) (T := TX5) (ref := "ValveWalk") K rfl rfl rfl (by decide) hin5 (by decide +kernel) rfl dX5_walk_12 ?_
    refine g_callVd (q := 1) (ci := 2) (As := []) (rest := [.int (nI (1)), .int (nI (a))]) (C := RX2) (T := TX2) (N := 12) K (cX2_valveCount_k (g_z X) S) (cwV 0 K.1.2.2.2.2 gX5_walk_X2_valveCount rfl rfl rfl (by decide +kernel) ⟨Nat.le_trans (Nat.le_of_ble_eq_true rfl) hRf, Nat.le_trans (Nat.le_of_ble_eq_true rfl) hRl⟩) rfl rfl rfl rfl (Nat.le_of_ble_eq_true rfl) dX5_walk_15 ?_
    refine g_ishl (a := 1) (b := S 1 2) K (by omega) dX5_walk_18 ?_
    have hs1 : 1 <<< S 1 2 ≤ 4096 := shl1_le (n := 12) w2
    refine g_icmp_lt (tgt := 32) (a := a) (b := (1) <<< (S 1 2)) K dX5_walk_19 (by decide) (by omega) (by omega) (fun h19_2 => ?_) (fun h19_2 => ?_)
    · refine g_iload_n K 2 dX5_walk_32 rfl ?_
      refine g_callSd (As := [.int (nI (a))]) (rest := []) K (cJ6_bitCount_0f7a4_k (g_z X) S a (by omega)) (va_cwS 1 K.1.2.2.2.2 gX5_walk_J6_bitCount_0f7a4 rfl rfl rfl (by decide +kernel) ⟨Nat.le_trans (Nat.le_of_ble_eq_true rfl) hRf, Nat.le_trans (Nat.le_of_ble_eq_true rfl) hRl⟩) rfl rfl (Nat.le_of_ble_eq_true rfl) dX5_walk_33 ?_
      have hbc := bc_le (show a < 4096 by omega)
      refine g_bipush K 6 dX5_walk_36 (by decide +kernel) ?_
      refine g_icmp_le (tgt := 51) (a := bc a) (b := 6) K dX5_walk_38 (by decide) (by omega) (by omega) (fun h38_3 => ?_) (fun h38_3 => ?_)
      · refine g_aload_n K 0 dX5_walk_51 rfl ?_
        refine g_getR (q' := 18) (q := 0) (ci := 5) (k := 4) (N := 5) (C := RX5) (T := TX5) (ref := "ValveWalk") K rfl rfl rfl (by decide) hin5 (by decide +kernel) rfl dX5_walk_52 ?_
        refine g_iload_n K 1 dX5_walk_55 rfl ?_
        refine g_iload_n K 2 dX5_walk_56 rfl ?_
        refine g_callVd (q := 18) (ci := 4) (As := [.int (nI (n)), .int (nI (a))]) (rest := []) (C := RX4) (T := TX4) (N := 4) K (cX4_leastLength_k (g_z X) S n a (hw) (by omega) (by omega)) (cwV 2 K.1.2.2.2.2 gX5_walk_X4_leastLength rfl rfl rfl (by decide +kernel) ⟨Nat.le_trans (Nat.le_of_ble_eq_true rfl) hRf, Nat.le_trans (Nat.le_of_ble_eq_true rfl) hRl⟩) rfl rfl rfl rfl (Nat.le_of_ble_eq_true rfl) dX5_walk_57 ?_
        exact g_retd hret dX5_walk_60 rfl rfl
      · exfalso; omega
    · exfalso; omega

set_option maxHeartbeats 4000000 in
set_option maxRecDepth 100000 in
theorem xX5_walk_x1 (Z : gZ) (S : Nat → Nat → Nat) (n a : Nat) (hl0 : (gz_l Z).stackTraces = false) (hw : wfC S) (hun : n < 4294967296) (hua : a < 4294967296) (hn : S 1 0 ≤ n) : gMx Z yX5_walk wsX5_walk { frames := 7, cells := 1, slots := 6, locals := 111 } [.ref (gz_ad Z 0), .int (nI (n)), .int (nI (a))] S (S) IOB := by
  refine gMx_of (cc := cX5_walk) (maxL := 3) (ret := (some .int)) hl0 (by decide +kernel) rfl rfl (Nat.le_of_ble_eq_true rfl) rfl rfl (Nat.le_of_ble_eq_true rfl) (Nat.le_of_ble_eq_true rfl) (fun X hZ hR K hTX hce hsl hthr hprop => ?_)
  subst hZ
  have K : gOk X cX5_walk 3 wsX5_walk RX5 := K
  have hRf : 7 ≤ (g_R X).frames := gR_f hR rfl
  have hRl : 111 ≤ (g_R X).locals := gR_l hR rfl
  have hin5 : ∀ w ∈ u_ws RX5 TX5 5, w ∈ wsX5_walk := by decide +kernel
  obtain ⟨w0, w1, w2, w3, wsh, wst, a2, a3, a4, a5, a6, a7⟩ := id hw
  show gG X 0 [(0, .ref (g_ad X 0)), (1, .int (nI (n))), (2, .int (nI (a)))] [] S
  refine g_aload_n K 0 dX5_walk_0 rfl ?_
  refine g_iload_n K 1 dX5_walk_1 rfl ?_
  exact g_callVx (q := 0) (ci := 5) (As := [.int (nI (n))]) (rest := []) (C := RX5) (U := TX5) (N := 5) K hTX (xX5_requireNode_x (g_z X) S n hl0 (hw) (by omega) (by omega)) (cwV 1 K.1.2.2.2.2 gX5_walk_X5_requireNode rfl rfl rfl (by decide +kernel) ⟨Nat.le_trans (Nat.le_of_ble_eq_true rfl) hRf, Nat.le_trans (Nat.le_of_ble_eq_true rfl) hRl⟩) hce hsl rfl rfl rfl rfl (Nat.le_of_ble_eq_true rfl) dX5_walk_2 (hprop _ _)

set_option maxHeartbeats 4000000 in
set_option maxRecDepth 100000 in
theorem xX5_walk_x2 (Z : gZ) (S : Nat → Nat → Nat) (n a : Nat) (hl0 : (gz_l Z).stackTraces = false) (hw : wfC S) (hua : a < 4294967296) (hn : n < S 1 0) (ha : 1 <<< S 1 2 ≤ a ∨ 6 < bc a) : gMx Z yX5_walk wsX5_walk { frames := 6, cells := 1, slots := 6, locals := 112 } [.ref (gz_ad Z 0), .int (nI (n)), .int (nI (a))] S (S) IAE := by
  refine gMx_of (cc := cX5_walk) (maxL := 3) (ret := (some .int)) hl0 (by decide +kernel) rfl rfl (Nat.le_of_ble_eq_true rfl) rfl rfl (Nat.le_of_ble_eq_true rfl) (Nat.le_of_ble_eq_true rfl) (fun X hZ hR K hTX hce hsl hthr hprop => ?_)
  subst hZ
  have K : gOk X cX5_walk 3 wsX5_walk RX5 := K
  have hRf : 6 ≤ (g_R X).frames := gR_f hR rfl
  have hRl : 112 ≤ (g_R X).locals := gR_l hR rfl
  have hin5 : ∀ w ∈ u_ws RX5 TX5 5, w ∈ wsX5_walk := by decide +kernel
  obtain ⟨w0, w1, w2, w3, wsh, wst, a2, a3, a4, a5, a6, a7⟩ := id hw
  show gG X 0 [(0, .ref (g_ad X 0)), (1, .int (nI (n))), (2, .int (nI (a)))] [] S
  refine g_aload_n K 0 dX5_walk_0 rfl ?_
  refine g_iload_n K 1 dX5_walk_1 rfl ?_
  refine g_callVv (q := 0) (ci := 5) (As := [.int (nI (n))]) (rest := []) (C := RX5) (T := TX5) (N := 5) K (cX5_requireNode_k (g_z X) S n (hw) (by omega)) (cwV 1 K.1.2.2.2.2 gX5_walk_X5_requireNode rfl rfl rfl (by decide +kernel) ⟨Nat.le_trans (Nat.le_of_ble_eq_true rfl) hRf, Nat.le_trans (Nat.le_of_ble_eq_true rfl) hRl⟩) rfl rfl rfl rfl (Nat.le_of_ble_eq_true rfl) dX5_walk_2 ?_
  have hs0 : 1 <<< S 1 2 ≤ 4096 := shl1_le (n := 12) w2
  refine g_iload_n K 2 dX5_walk_5 rfl ?_
  refine g_if_lt (tgt := 22) (a := a) K dX5_walk_6 (by decide) (by omega) (fun h6_1 => ?_) (fun h6_1 => ?_)
  · exact hthr 22 _ _ 65 169 69 "the set has a valve that there is not" thK2 (by decide +kernel) (by decide +kernel) (by decide +kernel) (by decide +kernel) (Nat.le_of_ble_eq_true rfl) dX5_walk_22 dX5_walk_25 dX5_walk_26 dX5_walk_28 dX5_walk_31
  · refine g_iload_n K 2 dX5_walk_9 rfl ?_
    refine g_iconst K 1 dX5_walk_10 (by decide +kernel) ?_
    refine g_aload_n K 0 dX5_walk_11 rfl ?_
    refine g_getR (q' := 1) (q := 0) (ci := 5) (k := 0) (N := 5) (C := RX5) (T := TX5) (ref := "ValveWalk") K rfl rfl rfl (by decide) hin5 (by decide +kernel) rfl dX5_walk_12 ?_
    refine g_callVd (q := 1) (ci := 2) (As := []) (rest := [.int (nI (1)), .int (nI (a))]) (C := RX2) (T := TX2) (N := 12) K (cX2_valveCount_k (g_z X) S) (cwV 0 K.1.2.2.2.2 gX5_walk_X2_valveCount rfl rfl rfl (by decide +kernel) ⟨Nat.le_trans (Nat.le_of_ble_eq_true rfl) hRf, Nat.le_trans (Nat.le_of_ble_eq_true rfl) hRl⟩) rfl rfl rfl rfl (Nat.le_of_ble_eq_true rfl) dX5_walk_15 ?_
    refine g_ishl (a := 1) (b := S 1 2) K (by omega) dX5_walk_18 ?_
    have hs1 : 1 <<< S 1 2 ≤ 4096 := shl1_le (n := 12) w2
    refine g_icmp_lt (tgt := 32) (a := a) (b := (1) <<< (S 1 2)) K dX5_walk_19 (by decide) (by omega) (by omega) (fun h19_2 => ?_) (fun h19_2 => ?_)
    · refine g_iload_n K 2 dX5_walk_32 rfl ?_
      refine g_callSd (As := [.int (nI (a))]) (rest := []) K (cJ6_bitCount_0f7a4_k (g_z X) S a (by omega)) (va_cwS 1 K.1.2.2.2.2 gX5_walk_J6_bitCount_0f7a4 rfl rfl rfl (by decide +kernel) ⟨Nat.le_trans (Nat.le_of_ble_eq_true rfl) hRf, Nat.le_trans (Nat.le_of_ble_eq_true rfl) hRl⟩) rfl rfl (Nat.le_of_ble_eq_true rfl) dX5_walk_33 ?_
      have hbc := bc_le (show a < 4096 by omega)
      refine g_bipush K 6 dX5_walk_36 (by decide +kernel) ?_
      refine g_icmp_le (tgt := 51) (a := bc a) (b := 6) K dX5_walk_38 (by decide) (by omega) (by omega) (fun h38_3 => ?_) (fun h38_3 => ?_)
      · refine g_aload_n K 0 dX5_walk_51 rfl ?_
        refine g_getR (q' := 18) (q := 0) (ci := 5) (k := 4) (N := 5) (C := RX5) (T := TX5) (ref := "ValveWalk") K rfl rfl rfl (by decide) hin5 (by decide +kernel) rfl dX5_walk_52 ?_
        refine g_iload_n K 1 dX5_walk_55 rfl ?_
        refine g_iload_n K 2 dX5_walk_56 rfl ?_
        refine g_callVd (q := 18) (ci := 4) (As := [.int (nI (n)), .int (nI (a))]) (rest := []) (C := RX4) (T := TX4) (N := 4) K (cX4_leastLength_k (g_z X) S n a (hw) (by omega) (by omega)) (cwV 2 K.1.2.2.2.2 gX5_walk_X4_leastLength rfl rfl rfl (by decide +kernel) ⟨Nat.le_trans (Nat.le_of_ble_eq_true rfl) hRf, Nat.le_trans (Nat.le_of_ble_eq_true rfl) hRl⟩) rfl rfl rfl rfl (Nat.le_of_ble_eq_true rfl) dX5_walk_57 ?_
        exfalso; omega
      · exact hthr 41 _ _ 65 176 69 "the set has more than 6 valves" thK2 (by decide +kernel) (by decide +kernel) (by decide +kernel) (by decide +kernel) (Nat.le_of_ble_eq_true rfl) dX5_walk_41 dX5_walk_44 dX5_walk_45 dX5_walk_47 dX5_walk_50
    · exact hthr 22 _ _ 65 169 69 "the set has a valve that there is not" thK2 (by decide +kernel) (by decide +kernel) (by decide +kernel) (by decide +kernel) (Nat.le_of_ble_eq_true rfl) dX5_walk_22 dX5_walk_25 dX5_walk_26 dX5_walk_28 dX5_walk_31

