/-! THE FACE: each method with arguments that are fit, and each throw -/
set_option maxHeartbeats 4000000 in
set_option maxRecDepth 100000 in
theorem cX5_requireNode_k (Z : gZ) (S : Nat → Nat → Nat) (n : Nat) (hw : wfC S) (hn : n < S 1 0) : gMv Z yX5_requireNode wsX5_requireNode { frames := 1, cells := 0, slots := 0, locals := 20 } [.ref (gz_ad Z 0), .int (nI (n))] S (S) := by
  refine gMv_of (cc := cX5_requireNode) (maxL := 2) (by decide +kernel) rfl (Nat.le_of_ble_eq_true rfl)  (fun X hZ hR K hret => ?_)
  subst hZ
  have K : gOk X cX5_requireNode 2 wsX5_requireNode RX5 := K
  have hRf : 1 ≤ (g_R X).frames := gR_f hR rfl
  have hRl : 20 ≤ (g_R X).locals := gR_l hR rfl
  have hin5 : ∀ w ∈ u_ws RX5 TX5 5, w ∈ wsX5_requireNode := by decide +kernel
  obtain ⟨w0, w1, w2, w3, wsh, wst, a2, a3, a4, a5, a6, a7⟩ := id hw
  show gG X 0 [(0, .ref (g_ad X 0)), (1, .int (nI (n)))] [] S
  refine g_iload_n K 1 dX5_requireNode_0 rfl ?_
  refine g_if_lt (tgt := 15) (a := n) K dX5_requireNode_1 (by decide) (by omega) (fun h1_1 => ?_) (fun h1_1 => ?_)
  · exfalso; omega
  · refine g_iload_n K 1 dX5_requireNode_4 rfl ?_
    refine g_aload_n K 0 dX5_requireNode_5 rfl ?_
    refine g_getR (q' := 1) (q := 0) (ci := 5) (k := 0) (N := 5) (C := RX5) (T := TX5) (ref := "ValveWalk") K rfl rfl rfl (by decide) hin5 (by decide +kernel) rfl dX5_requireNode_6 ?_
    refine g_callVd (q := 1) (ci := 2) (As := []) (rest := [.int (nI (n))]) (C := RX2) (T := TX2) (N := 12) K (cX2_nodeCount_k (g_z X) S) (cwV 0 K.1.2.2.2.2 gX5_requireNode_X2_nodeCount rfl rfl rfl (by decide +kernel) ⟨Nat.le_trans (Nat.le_of_ble_eq_true rfl) hRf, Nat.le_trans (Nat.le_of_ble_eq_true rfl) hRl⟩) rfl rfl rfl rfl (Nat.le_of_ble_eq_true rfl) dX5_requireNode_9 ?_
    refine g_icmp_lt (tgt := 25) (a := n) (b := S 1 0) K dX5_requireNode_12 (by decide) (by omega) (by omega) (fun h12_2 => ?_) (fun h12_2 => ?_)
    · exact g_retv hret dX5_requireNode_25 rfl
    · exfalso; omega

set_option maxHeartbeats 4000000 in
set_option maxRecDepth 100000 in
theorem xX5_requireNode_x (Z : gZ) (S : Nat → Nat → Nat) (n : Nat) (hl0 : (gz_l Z).stackTraces = false) (hw : wfC S) (hn : S 1 0 ≤ n) (hn2 : n < 4294967296) : gMx Z yX5_requireNode wsX5_requireNode { frames := 6, cells := 1, slots := 6, locals := 90 } [.ref (gz_ad Z 0), .int (nI (n))] S (S) IOB := by
  refine gMx_of (cc := cX5_requireNode) (maxL := 2) (ret := none) hl0 (by decide +kernel) rfl rfl (Nat.le_of_ble_eq_true rfl) rfl rfl (Nat.le_of_ble_eq_true rfl) (Nat.le_of_ble_eq_true rfl) (fun X hZ hR K hTX hce hsl hthr hprop => ?_)
  subst hZ
  have K : gOk X cX5_requireNode 2 wsX5_requireNode RX5 := K
  have hRf : 6 ≤ (g_R X).frames := gR_f hR rfl
  have hRl : 90 ≤ (g_R X).locals := gR_l hR rfl
  have hin5 : ∀ w ∈ u_ws RX5 TX5 5, w ∈ wsX5_requireNode := by decide +kernel
  obtain ⟨w0, w1, w2, w3, wsh, wst, a2, a3, a4, a5, a6, a7⟩ := id hw
  show gG X 0 [(0, .ref (g_ad X 0)), (1, .int (nI (n)))] [] S
  refine g_iload_n K 1 dX5_requireNode_0 rfl ?_
  refine g_if_lt (tgt := 15) (a := n) K dX5_requireNode_1 (by decide) (by omega) (fun h1_1 => ?_) (fun h1_1 => ?_)
  · exact hthr 15 _ _ 164 181 168 "there is no such node" thK3 (by decide +kernel) (by decide +kernel) (by decide +kernel) (by decide +kernel) (Nat.le_of_ble_eq_true rfl) dX5_requireNode_15 dX5_requireNode_18 dX5_requireNode_19 dX5_requireNode_21 dX5_requireNode_24
  · refine g_iload_n K 1 dX5_requireNode_4 rfl ?_
    refine g_aload_n K 0 dX5_requireNode_5 rfl ?_
    refine g_getR (q' := 1) (q := 0) (ci := 5) (k := 0) (N := 5) (C := RX5) (T := TX5) (ref := "ValveWalk") K rfl rfl rfl (by decide) hin5 (by decide +kernel) rfl dX5_requireNode_6 ?_
    refine g_callVd (q := 1) (ci := 2) (As := []) (rest := [.int (nI (n))]) (C := RX2) (T := TX2) (N := 12) K (cX2_nodeCount_k (g_z X) S) (cwV 0 K.1.2.2.2.2 gX5_requireNode_X2_nodeCount rfl rfl rfl (by decide +kernel) ⟨Nat.le_trans (Nat.le_of_ble_eq_true rfl) hRf, Nat.le_trans (Nat.le_of_ble_eq_true rfl) hRl⟩) rfl rfl rfl rfl (Nat.le_of_ble_eq_true rfl) dX5_requireNode_9 ?_
    refine g_icmp_lt (tgt := 25) (a := n) (b := S 1 0) K dX5_requireNode_12 (by decide) (by omega) (by omega) (fun h12_2 => ?_) (fun h12_2 => ?_)
    · exfalso; omega
    · exact hthr 15 _ _ 164 181 168 "there is no such node" thK3 (by decide +kernel) (by decide +kernel) (by decide +kernel) (by decide +kernel) (Nat.le_of_ble_eq_true rfl) dX5_requireNode_15 dX5_requireNode_18 dX5_requireNode_19 dX5_requireNode_21 dX5_requireNode_24

set_option maxHeartbeats 4000000 in
set_option maxRecDepth 100000 in
theorem cX5_requirePipe_k (Z : gZ) (S : Nat → Nat → Nat) (n : Nat) (hw : wfC S) (hn : n < S 1 1) : gMv Z yX5_requirePipe wsX5_requirePipe { frames := 1, cells := 0, slots := 0, locals := 20 } [.ref (gz_ad Z 0), .int (nI (n))] S (S) := by
  refine gMv_of (cc := cX5_requirePipe) (maxL := 2) (by decide +kernel) rfl (Nat.le_of_ble_eq_true rfl)  (fun X hZ hR K hret => ?_)
  subst hZ
  have K : gOk X cX5_requirePipe 2 wsX5_requirePipe RX5 := K
  have hRf : 1 ≤ (g_R X).frames := gR_f hR rfl
  have hRl : 20 ≤ (g_R X).locals := gR_l hR rfl
  have hin5 : ∀ w ∈ u_ws RX5 TX5 5, w ∈ wsX5_requirePipe := by decide +kernel
  obtain ⟨w0, w1, w2, w3, wsh, wst, a2, a3, a4, a5, a6, a7⟩ := id hw
  show gG X 0 [(0, .ref (g_ad X 0)), (1, .int (nI (n)))] [] S
  refine g_iload_n K 1 dX5_requirePipe_0 rfl ?_
  refine g_if_lt (tgt := 15) (a := n) K dX5_requirePipe_1 (by decide) (by omega) (fun h1_1 => ?_) (fun h1_1 => ?_)
  · exfalso; omega
  · refine g_iload_n K 1 dX5_requirePipe_4 rfl ?_
    refine g_aload_n K 0 dX5_requirePipe_5 rfl ?_
    refine g_getR (q' := 1) (q := 0) (ci := 5) (k := 0) (N := 5) (C := RX5) (T := TX5) (ref := "ValveWalk") K rfl rfl rfl (by decide) hin5 (by decide +kernel) rfl dX5_requirePipe_6 ?_
    refine g_callVd (q := 1) (ci := 2) (As := []) (rest := [.int (nI (n))]) (C := RX2) (T := TX2) (N := 12) K (cX2_pipeCount_k (g_z X) S) (cwV 0 K.1.2.2.2.2 gX5_requirePipe_X2_pipeCount rfl rfl rfl (by decide +kernel) ⟨Nat.le_trans (Nat.le_of_ble_eq_true rfl) hRf, Nat.le_trans (Nat.le_of_ble_eq_true rfl) hRl⟩) rfl rfl rfl rfl (Nat.le_of_ble_eq_true rfl) dX5_requirePipe_9 ?_
    refine g_icmp_lt (tgt := 25) (a := n) (b := S 1 1) K dX5_requirePipe_12 (by decide) (by omega) (by omega) (fun h12_2 => ?_) (fun h12_2 => ?_)
    · exact g_retv hret dX5_requirePipe_25 rfl
    · exfalso; omega

set_option maxHeartbeats 4000000 in
set_option maxRecDepth 100000 in
theorem xX5_requirePipe_x (Z : gZ) (S : Nat → Nat → Nat) (n : Nat) (hl0 : (gz_l Z).stackTraces = false) (hw : wfC S) (hn : S 1 1 ≤ n) (hn2 : n < 4294967296) : gMx Z yX5_requirePipe wsX5_requirePipe { frames := 6, cells := 1, slots := 6, locals := 90 } [.ref (gz_ad Z 0), .int (nI (n))] S (S) IOB := by
  refine gMx_of (cc := cX5_requirePipe) (maxL := 2) (ret := none) hl0 (by decide +kernel) rfl rfl (Nat.le_of_ble_eq_true rfl) rfl rfl (Nat.le_of_ble_eq_true rfl) (Nat.le_of_ble_eq_true rfl) (fun X hZ hR K hTX hce hsl hthr hprop => ?_)
  subst hZ
  have K : gOk X cX5_requirePipe 2 wsX5_requirePipe RX5 := K
  have hRf : 6 ≤ (g_R X).frames := gR_f hR rfl
  have hRl : 90 ≤ (g_R X).locals := gR_l hR rfl
  have hin5 : ∀ w ∈ u_ws RX5 TX5 5, w ∈ wsX5_requirePipe := by decide +kernel
  obtain ⟨w0, w1, w2, w3, wsh, wst, a2, a3, a4, a5, a6, a7⟩ := id hw
  show gG X 0 [(0, .ref (g_ad X 0)), (1, .int (nI (n)))] [] S
  refine g_iload_n K 1 dX5_requirePipe_0 rfl ?_
  refine g_if_lt (tgt := 15) (a := n) K dX5_requirePipe_1 (by decide) (by omega) (fun h1_1 => ?_) (fun h1_1 => ?_)
  · exact hthr 15 _ _ 164 183 168 "there is no such pipe" thK3 (by decide +kernel) (by decide +kernel) (by decide +kernel) (by decide +kernel) (Nat.le_of_ble_eq_true rfl) dX5_requirePipe_15 dX5_requirePipe_18 dX5_requirePipe_19 dX5_requirePipe_21 dX5_requirePipe_24
  · refine g_iload_n K 1 dX5_requirePipe_4 rfl ?_
    refine g_aload_n K 0 dX5_requirePipe_5 rfl ?_
    refine g_getR (q' := 1) (q := 0) (ci := 5) (k := 0) (N := 5) (C := RX5) (T := TX5) (ref := "ValveWalk") K rfl rfl rfl (by decide) hin5 (by decide +kernel) rfl dX5_requirePipe_6 ?_
    refine g_callVd (q := 1) (ci := 2) (As := []) (rest := [.int (nI (n))]) (C := RX2) (T := TX2) (N := 12) K (cX2_pipeCount_k (g_z X) S) (cwV 0 K.1.2.2.2.2 gX5_requirePipe_X2_pipeCount rfl rfl rfl (by decide +kernel) ⟨Nat.le_trans (Nat.le_of_ble_eq_true rfl) hRf, Nat.le_trans (Nat.le_of_ble_eq_true rfl) hRl⟩) rfl rfl rfl rfl (Nat.le_of_ble_eq_true rfl) dX5_requirePipe_9 ?_
    refine g_icmp_lt (tgt := 25) (a := n) (b := S 1 1) K dX5_requirePipe_12 (by decide) (by omega) (by omega) (fun h12_2 => ?_) (fun h12_2 => ?_)
    · exfalso; omega
    · exact hthr 15 _ _ 164 183 168 "there is no such pipe" thK3 (by decide +kernel) (by decide +kernel) (by decide +kernel) (by decide +kernel) (Nat.le_of_ble_eq_true rfl) dX5_requirePipe_15 dX5_requirePipe_18 dX5_requirePipe_19 dX5_requirePipe_21 dX5_requirePipe_24

set_option maxHeartbeats 4000000 in
set_option maxRecDepth 100000 in
theorem cX5_requireValve_k (Z : gZ) (S : Nat → Nat → Nat) (n : Nat) (hw : wfC S) (hn : n < S 1 2) : gMv Z yX5_requireValve wsX5_requireValve { frames := 1, cells := 0, slots := 0, locals := 20 } [.ref (gz_ad Z 0), .int (nI (n))] S (S) := by
  refine gMv_of (cc := cX5_requireValve) (maxL := 2) (by decide +kernel) rfl (Nat.le_of_ble_eq_true rfl)  (fun X hZ hR K hret => ?_)
  subst hZ
  have K : gOk X cX5_requireValve 2 wsX5_requireValve RX5 := K
  have hRf : 1 ≤ (g_R X).frames := gR_f hR rfl
  have hRl : 20 ≤ (g_R X).locals := gR_l hR rfl
  have hin5 : ∀ w ∈ u_ws RX5 TX5 5, w ∈ wsX5_requireValve := by decide +kernel
  obtain ⟨w0, w1, w2, w3, wsh, wst, a2, a3, a4, a5, a6, a7⟩ := id hw
  show gG X 0 [(0, .ref (g_ad X 0)), (1, .int (nI (n)))] [] S
  refine g_iload_n K 1 dX5_requireValve_0 rfl ?_
  refine g_if_lt (tgt := 15) (a := n) K dX5_requireValve_1 (by decide) (by omega) (fun h1_1 => ?_) (fun h1_1 => ?_)
  · exfalso; omega
  · refine g_iload_n K 1 dX5_requireValve_4 rfl ?_
    refine g_aload_n K 0 dX5_requireValve_5 rfl ?_
    refine g_getR (q' := 1) (q := 0) (ci := 5) (k := 0) (N := 5) (C := RX5) (T := TX5) (ref := "ValveWalk") K rfl rfl rfl (by decide) hin5 (by decide +kernel) rfl dX5_requireValve_6 ?_
    refine g_callVd (q := 1) (ci := 2) (As := []) (rest := [.int (nI (n))]) (C := RX2) (T := TX2) (N := 12) K (cX2_valveCount_k (g_z X) S) (cwV 0 K.1.2.2.2.2 gX5_requireValve_X2_valveCount rfl rfl rfl (by decide +kernel) ⟨Nat.le_trans (Nat.le_of_ble_eq_true rfl) hRf, Nat.le_trans (Nat.le_of_ble_eq_true rfl) hRl⟩) rfl rfl rfl rfl (Nat.le_of_ble_eq_true rfl) dX5_requireValve_9 ?_
    refine g_icmp_lt (tgt := 25) (a := n) (b := S 1 2) K dX5_requireValve_12 (by decide) (by omega) (by omega) (fun h12_2 => ?_) (fun h12_2 => ?_)
    · exact g_retv hret dX5_requireValve_25 rfl
    · exfalso; omega

set_option maxHeartbeats 4000000 in
set_option maxRecDepth 100000 in
theorem xX5_requireValve_x (Z : gZ) (S : Nat → Nat → Nat) (n : Nat) (hl0 : (gz_l Z).stackTraces = false) (hw : wfC S) (hn : S 1 2 ≤ n) (hn2 : n < 4294967296) : gMx Z yX5_requireValve wsX5_requireValve { frames := 6, cells := 1, slots := 6, locals := 90 } [.ref (gz_ad Z 0), .int (nI (n))] S (S) IOB := by
  refine gMx_of (cc := cX5_requireValve) (maxL := 2) (ret := none) hl0 (by decide +kernel) rfl rfl (Nat.le_of_ble_eq_true rfl) rfl rfl (Nat.le_of_ble_eq_true rfl) (Nat.le_of_ble_eq_true rfl) (fun X hZ hR K hTX hce hsl hthr hprop => ?_)
  subst hZ
  have K : gOk X cX5_requireValve 2 wsX5_requireValve RX5 := K
  have hRf : 6 ≤ (g_R X).frames := gR_f hR rfl
  have hRl : 90 ≤ (g_R X).locals := gR_l hR rfl
  have hin5 : ∀ w ∈ u_ws RX5 TX5 5, w ∈ wsX5_requireValve := by decide +kernel
  obtain ⟨w0, w1, w2, w3, wsh, wst, a2, a3, a4, a5, a6, a7⟩ := id hw
  show gG X 0 [(0, .ref (g_ad X 0)), (1, .int (nI (n)))] [] S
  refine g_iload_n K 1 dX5_requireValve_0 rfl ?_
  refine g_if_lt (tgt := 15) (a := n) K dX5_requireValve_1 (by decide) (by omega) (fun h1_1 => ?_) (fun h1_1 => ?_)
  · exact hthr 15 _ _ 164 185 168 "there is no such valve" thK3 (by decide +kernel) (by decide +kernel) (by decide +kernel) (by decide +kernel) (Nat.le_of_ble_eq_true rfl) dX5_requireValve_15 dX5_requireValve_18 dX5_requireValve_19 dX5_requireValve_21 dX5_requireValve_24
  · refine g_iload_n K 1 dX5_requireValve_4 rfl ?_
    refine g_aload_n K 0 dX5_requireValve_5 rfl ?_
    refine g_getR (q' := 1) (q := 0) (ci := 5) (k := 0) (N := 5) (C := RX5) (T := TX5) (ref := "ValveWalk") K rfl rfl rfl (by decide) hin5 (by decide +kernel) rfl dX5_requireValve_6 ?_
    refine g_callVd (q := 1) (ci := 2) (As := []) (rest := [.int (nI (n))]) (C := RX2) (T := TX2) (N := 12) K (cX2_valveCount_k (g_z X) S) (cwV 0 K.1.2.2.2.2 gX5_requireValve_X2_valveCount rfl rfl rfl (by decide +kernel) ⟨Nat.le_trans (Nat.le_of_ble_eq_true rfl) hRf, Nat.le_trans (Nat.le_of_ble_eq_true rfl) hRl⟩) rfl rfl rfl rfl (Nat.le_of_ble_eq_true rfl) dX5_requireValve_9 ?_
    refine g_icmp_lt (tgt := 25) (a := n) (b := S 1 2) K dX5_requireValve_12 (by decide) (by omega) (by omega) (fun h12_2 => ?_) (fun h12_2 => ?_)
    · exfalso; omega
    · exact hthr 15 _ _ 164 185 168 "there is no such valve" thK3 (by decide +kernel) (by decide +kernel) (by decide +kernel) (by decide +kernel) (Nat.le_of_ble_eq_true rfl) dX5_requireValve_15 dX5_requireValve_18 dX5_requireValve_19 dX5_requireValve_21 dX5_requireValve_24

def dryF (S : Nat → Nat → Nat) (a : Nat) : Nat := if gbit (wetBehind S 0) a = 0 then 1 else 0
theorem dryF_le (S : Nat → Nat → Nat) (a : Nat) : dryF S a ≤ 1 := by unfold dryF; split <;> omega
set_option maxHeartbeats 4000000 in
set_option maxRecDepth 100000 in
theorem cX5_isDry_k (Z : gZ) (S : Nat → Nat → Nat) (a : Nat) (hw : wfC S) (ha : a < 28) : gMd Z yX5_isDry wsX5_isDry { frames := 2, cells := 0, slots := 0, locals := 48 } [.ref (gz_ad Z 0), .int (nI (a))] S (dryF S a) (S) := by
  refine gMd_of (cc := cX5_isDry) (maxL := 2) (ret := (some .boolean)) (by decide +kernel) rfl (Nat.le_of_ble_eq_true rfl) (Or.inr ⟨rfl, dryF_le _ _⟩) (fun X hZ hR K hret => ?_)
  subst hZ
  have K : gOk X cX5_isDry 2 wsX5_isDry RX5 := K
  have hRf : 2 ≤ (g_R X).frames := gR_f hR rfl
  have hRl : 48 ≤ (g_R X).locals := gR_l hR rfl
  have hin5 : ∀ w ∈ u_ws RX5 TX5 5, w ∈ wsX5_isDry := by decide +kernel
  obtain ⟨w0, w1, w2, w3, wsh, wst, a2, a3, a4, a5, a6, a7⟩ := id hw
  show gG X 0 [(0, .ref (g_ad X 0)), (1, .int (nI (a)))] [] S
  refine g_aload_n K 0 dX5_isDry_0 rfl ?_
  refine g_getR (q' := 1) (q := 0) (ci := 5) (k := 0) (N := 5) (C := RX5) (T := TX5) (ref := "ValveWalk") K rfl rfl rfl (by decide) hin5 (by decide +kernel) rfl dX5_isDry_1 ?_
  refine g_iconst K 0 dX5_isDry_4 (by decide +kernel) ?_
  refine g_callVd (q := 1) (ci := 2) (As := [.int (nI (0))]) (rest := []) (C := RX2) (T := TX2) (N := 12) K (cX2_wetBehind_k (g_z X) S 0 (hw)) (cwV 1 K.1.2.2.2.2 gX5_isDry_X2_wetBehind rfl rfl rfl (by decide +kernel) ⟨Nat.le_trans (Nat.le_of_ble_eq_true rfl) hRf, Nat.le_trans (Nat.le_of_ble_eq_true rfl) hRl⟩) rfl rfl rfl rfl (Nat.le_of_ble_eq_true rfl) dX5_isDry_5 ?_
  have h8 := wetBehind_lt hw 0
  refine g_iload_n K 1 dX5_isDry_8 rfl ?_
  refine g_callSd (As := [.int (nI (wetBehind S 0)), .int (nI (a))]) (rest := []) K (cX5_hasBit_k (g_z X) S (wetBehind S 0) a (by omega) (by omega)) (va_cwS 2 K.1.2.2.2.2 gX5_isDry_X5_hasBit rfl rfl rfl (by decide +kernel) ⟨Nat.le_trans (Nat.le_of_ble_eq_true rfl) hRf, Nat.le_trans (Nat.le_of_ble_eq_true rfl) hRl⟩) rfl rfl (Nat.le_of_ble_eq_true rfl) dX5_isDry_9 ?_
  have hf9_1 := gbit_le (wetBehind S 0) a
  refine g_if_ne (tgt := 19) (a := gbit (wetBehind S 0) a) K dX5_isDry_12 (by decide) (by omega) (fun h12_2 => ?_) (fun h12_2 => ?_)
  · refine g_iconst K 0 dX5_isDry_19 (by decide +kernel) ?_
    exact g_retd hret dX5_isDry_20 (if_neg (by assumption)).symm rfl
  · refine g_iconst K 1 dX5_isDry_15 (by decide +kernel) ?_
    refine g_goto (tgt := 20) K dX5_isDry_16 (by decide) ?_
    exact g_retd hret dX5_isDry_20 (if_pos (by assumption)).symm rfl

set_option maxHeartbeats 4000000 in
set_option maxRecDepth 100000 in
theorem cX5_regionWithoutSource_k (Z : gZ) (S : Nat → Nat → Nat) (p : Nat) (hw : wfC S) (hp : p < 16) (hs : regOf S p &&& S 1 3 = 0) : gMd Z yX5_regionWithoutSource wsX5_regionWithoutSource { frames := 3, cells := 0, slots := 0, locals := 69 } [.ref (gz_ad Z 0), .int (nI (p))] S (regOf S p) (S) := by
  refine gMd_of (cc := cX5_regionWithoutSource) (maxL := 3) (ret := (some .int)) (by decide +kernel) rfl (Nat.le_of_ble_eq_true rfl) (Or.inl rfl) (fun X hZ hR K hret => ?_)
  subst hZ
  have K : gOk X cX5_regionWithoutSource 3 wsX5_regionWithoutSource RX5 := K
  have hRf : 3 ≤ (g_R X).frames := gR_f hR rfl
  have hRl : 69 ≤ (g_R X).locals := gR_l hR rfl
  have hin5 : ∀ w ∈ u_ws RX5 TX5 5, w ∈ wsX5_regionWithoutSource := by decide +kernel
  obtain ⟨w0, w1, w2, w3, wsh, wst, a2, a3, a4, a5, a6, a7⟩ := id hw
  show gG X 0 [(0, .ref (g_ad X 0)), (1, .int (nI (p)))] [] S
  refine g_aload_n K 0 dX5_regionWithoutSource_0 rfl ?_
  refine g_getR (q' := 10) (q := 0) (ci := 5) (k := 2) (N := 5) (C := RX5) (T := TX5) (ref := "ValveWalk") K rfl rfl rfl (by decide) hin5 (by decide +kernel) rfl dX5_regionWithoutSource_1 ?_
  refine g_iload_n K 1 dX5_regionWithoutSource_4 rfl ?_
  refine g_callVd (q := 10) (ci := 0) (As := [.int (nI (p))]) (rest := []) (C := RX0) (T := TX0) (N := 6) K (cX0_regionOf_k (g_z X) S p (hw) (by omega)) (cwV 1 K.1.2.2.2.2 gX5_regionWithoutSource_X0_regionOf rfl rfl rfl (by decide +kernel) ⟨Nat.le_trans (Nat.le_of_ble_eq_true rfl) hRf, Nat.le_trans (Nat.le_of_ble_eq_true rfl) hRl⟩) rfl rfl rfl rfl (Nat.le_of_ble_eq_true rfl) dX5_regionWithoutSource_5 ?_
  refine g_istore_n (lo' := [(2, .int (nI (regOf S p))), (0, .ref (g_ad X 0)), (1, .int (nI (p)))]) K dX5_regionWithoutSource_8 (by decide) rfl ?_
  have h9 := regOf_lt hw hp
  refine g_iload_n K 0 dX5_regionWithoutSource_9 rfl ?_
  refine g_aload_n K 1 dX5_regionWithoutSource_10 rfl ?_
  refine g_getR (q' := 1) (q := 0) (ci := 5) (k := 0) (N := 5) (C := RX5) (T := TX5) (ref := "ValveWalk") K rfl rfl rfl (by decide) hin5 (by decide +kernel) rfl dX5_regionWithoutSource_11 ?_
  refine g_callVd (q := 1) (ci := 2) (As := []) (rest := [.int (nI (regOf S p))]) (C := RX2) (T := TX2) (N := 12) K (cX2_sources_k (g_z X) S) (cwV 0 K.1.2.2.2.2 gX5_regionWithoutSource_X2_sources rfl rfl rfl (by decide +kernel) ⟨Nat.le_trans (Nat.le_of_ble_eq_true rfl) hRf, Nat.le_trans (Nat.le_of_ble_eq_true rfl) hRl⟩) rfl rfl rfl rfl (Nat.le_of_ble_eq_true rfl) dX5_regionWithoutSource_14 ?_
  refine g_iand (a := regOf S p) (b := S 1 3) K dX5_regionWithoutSource_17 ?_
  have hL17_1 := @Nat.and_le_left (regOf S p) (S 1 3)
  have hR17_2 := @Nat.and_le_right (regOf S p) (S 1 3)
  refine g_if_eq (tgt := 31) (a := (regOf S p) &&& (S 1 3)) K dX5_regionWithoutSource_18 (by decide) (by omega) (fun h18_3 => ?_) (fun h18_3 => ?_)
  · refine g_iload_n K 0 dX5_regionWithoutSource_31 rfl ?_
    exact g_retd hret dX5_regionWithoutSource_32 rfl rfl
  · exfalso; omega

set_option maxHeartbeats 4000000 in
set_option maxRecDepth 100000 in
theorem xX5_regionWithoutSource_x (Z : gZ) (S : Nat → Nat → Nat) (p : Nat) (hl0 : (gz_l Z).stackTraces = false) (hw : wfC S) (hp : p < 16) (hs : regOf S p &&& S 1 3 ≠ 0) : gMx Z yX5_regionWithoutSource wsX5_regionWithoutSource { frames := 6, cells := 1, slots := 6, locals := 90 } [.ref (gz_ad Z 0), .int (nI (p))] S (S) ISE := by
  refine gMx_of (cc := cX5_regionWithoutSource) (maxL := 3) (ret := (some .int)) hl0 (by decide +kernel) rfl rfl (Nat.le_of_ble_eq_true rfl) rfl rfl (Nat.le_of_ble_eq_true rfl) (Nat.le_of_ble_eq_true rfl) (fun X hZ hR K hTX hce hsl hthr hprop => ?_)
  subst hZ
  have K : gOk X cX5_regionWithoutSource 3 wsX5_regionWithoutSource RX5 := K
  have hRf : 6 ≤ (g_R X).frames := gR_f hR rfl
  have hRl : 90 ≤ (g_R X).locals := gR_l hR rfl
  have hin5 : ∀ w ∈ u_ws RX5 TX5 5, w ∈ wsX5_regionWithoutSource := by decide +kernel
  obtain ⟨w0, w1, w2, w3, wsh, wst, a2, a3, a4, a5, a6, a7⟩ := id hw
  show gG X 0 [(0, .ref (g_ad X 0)), (1, .int (nI (p)))] [] S
  refine g_aload_n K 0 dX5_regionWithoutSource_0 rfl ?_
  refine g_getR (q' := 10) (q := 0) (ci := 5) (k := 2) (N := 5) (C := RX5) (T := TX5) (ref := "ValveWalk") K rfl rfl rfl (by decide) hin5 (by decide +kernel) rfl dX5_regionWithoutSource_1 ?_
  refine g_iload_n K 1 dX5_regionWithoutSource_4 rfl ?_
  refine g_callVd (q := 10) (ci := 0) (As := [.int (nI (p))]) (rest := []) (C := RX0) (T := TX0) (N := 6) K (cX0_regionOf_k (g_z X) S p (hw) (by omega)) (cwV 1 K.1.2.2.2.2 gX5_regionWithoutSource_X0_regionOf rfl rfl rfl (by decide +kernel) ⟨Nat.le_trans (Nat.le_of_ble_eq_true rfl) hRf, Nat.le_trans (Nat.le_of_ble_eq_true rfl) hRl⟩) rfl rfl rfl rfl (Nat.le_of_ble_eq_true rfl) dX5_regionWithoutSource_5 ?_
  refine g_istore_n (lo' := [(2, .int (nI (regOf S p))), (0, .ref (g_ad X 0)), (1, .int (nI (p)))]) K dX5_regionWithoutSource_8 (by decide) rfl ?_
  have h9 := regOf_lt hw hp
  refine g_iload_n K 0 dX5_regionWithoutSource_9 rfl ?_
  refine g_aload_n K 1 dX5_regionWithoutSource_10 rfl ?_
  refine g_getR (q' := 1) (q := 0) (ci := 5) (k := 0) (N := 5) (C := RX5) (T := TX5) (ref := "ValveWalk") K rfl rfl rfl (by decide) hin5 (by decide +kernel) rfl dX5_regionWithoutSource_11 ?_
  refine g_callVd (q := 1) (ci := 2) (As := []) (rest := [.int (nI (regOf S p))]) (C := RX2) (T := TX2) (N := 12) K (cX2_sources_k (g_z X) S) (cwV 0 K.1.2.2.2.2 gX5_regionWithoutSource_X2_sources rfl rfl rfl (by decide +kernel) ⟨Nat.le_trans (Nat.le_of_ble_eq_true rfl) hRf, Nat.le_trans (Nat.le_of_ble_eq_true rfl) hRl⟩) rfl rfl rfl rfl (Nat.le_of_ble_eq_true rfl) dX5_regionWithoutSource_14 ?_
  refine g_iand (a := regOf S p) (b := S 1 3) K dX5_regionWithoutSource_17 ?_
  have hL17_1 := @Nat.and_le_left (regOf S p) (S 1 3)
  have hR17_2 := @Nat.and_le_right (regOf S p) (S 1 3)
  refine g_if_eq (tgt := 31) (a := (regOf S p) &&& (S 1 3)) K dX5_regionWithoutSource_18 (by decide) (by omega) (fun h18_3 => ?_) (fun h18_3 => ?_)
  · refine g_iload_n K 0 dX5_regionWithoutSource_31 rfl ?_
    exfalso; omega
  · exact hthr 21 _ _ 50 197 54 "the region has a source" thK1 (by decide +kernel) (by decide +kernel) (by decide +kernel) (by decide +kernel) (Nat.le_of_ble_eq_true rfl) dX5_regionWithoutSource_21 dX5_regionWithoutSource_24 dX5_regionWithoutSource_25 dX5_regionWithoutSource_27 dX5_regionWithoutSource_30

set_option maxHeartbeats 4000000 in
set_option maxRecDepth 100000 in
theorem cX5_addNode_k (Z : gZ) (S : Nat → Nat → Nat) (i : Nat) (hw : wfC S) (h0 : S 1 0 < 12) (hi : i < 4294967296) : gMd Z yX5_addNode wsX5_addNode { frames := 3, cells := 0, slots := 0, locals := 67 } [.ref (gz_ad Z 0), .int (nI (i))] S (S 1 0) (gup (gup S 1 0 (S 1 0 + 1)) 1 3 (gwith (S 1 3) (S 1 0) i)) := by
  refine gMd_of (cc := cX5_addNode) (maxL := 2) (ret := (some .int)) (by decide +kernel) rfl (Nat.le_of_ble_eq_true rfl) (Or.inl rfl) (fun X hZ hR K hret => ?_)
  subst hZ
  have K : gOk X cX5_addNode 2 wsX5_addNode RX5 := K
  have hRf : 3 ≤ (g_R X).frames := gR_f hR rfl
  have hRl : 67 ≤ (g_R X).locals := gR_l hR rfl
  have hin5 : ∀ w ∈ u_ws RX5 TX5 5, w ∈ wsX5_addNode := by decide +kernel
  obtain ⟨w0, w1, w2, w3, wsh, wst, a2, a3, a4, a5, a6, a7⟩ := id hw
  show gG X 0 [(0, .ref (g_ad X 0)), (1, .int (nI (i)))] [] S
  refine g_aload_n K 0 dX5_addNode_0 rfl ?_
  refine g_getR (q' := 1) (q := 0) (ci := 5) (k := 0) (N := 5) (C := RX5) (T := TX5) (ref := "ValveWalk") K rfl rfl rfl (by decide) hin5 (by decide +kernel) rfl dX5_addNode_1 ?_
  refine g_callVd (q := 1) (ci := 2) (As := []) (rest := []) (C := RX2) (T := TX2) (N := 12) K (cX2_nodeCount_k (g_z X) S) (cwV 0 K.1.2.2.2.2 gX5_addNode_X2_nodeCount rfl rfl rfl (by decide +kernel) ⟨Nat.le_trans (Nat.le_of_ble_eq_true rfl) hRf, Nat.le_trans (Nat.le_of_ble_eq_true rfl) hRl⟩) rfl rfl rfl rfl (Nat.le_of_ble_eq_true rfl) dX5_addNode_4 ?_
  refine g_bipush K 12 dX5_addNode_7 (by decide +kernel) ?_
  refine g_icmp_lt (tgt := 22) (a := S 1 0) (b := 12) K dX5_addNode_9 (by decide) (by omega) (by omega) (fun h9_1 => ?_) (fun h9_1 => ?_)
  · refine g_aload_n K 0 dX5_addNode_22 rfl ?_
    refine g_getR (q' := 1) (q := 0) (ci := 5) (k := 0) (N := 5) (C := RX5) (T := TX5) (ref := "ValveWalk") K rfl rfl rfl (by decide) hin5 (by decide +kernel) rfl dX5_addNode_23 ?_
    refine g_iload_n K 1 dX5_addNode_26 rfl ?_
    refine g_callVd (q := 1) (ci := 2) (As := [.int (nI (i))]) (rest := []) (C := RX2) (T := TX2) (N := 12) K (cX2_putNode_k (g_z X) S i (hw) (by omega)) (cwV 1 K.1.2.2.2.2 gX5_addNode_X2_putNode rfl rfl rfl (by decide +kernel) ⟨Nat.le_trans (Nat.le_of_ble_eq_true rfl) hRf, Nat.le_trans (Nat.le_of_ble_eq_true rfl) hRl⟩) rfl rfl rfl rfl (Nat.le_of_ble_eq_true rfl) dX5_addNode_27 ?_
    exact g_retd hret dX5_addNode_30 rfl rfl
  · exfalso; omega

set_option maxHeartbeats 4000000 in
set_option maxRecDepth 100000 in
theorem xX5_addNode_x (Z : gZ) (S : Nat → Nat → Nat) (i : Nat) (hl0 : (gz_l Z).stackTraces = false) (hw : wfC S) (h0 : 12 ≤ S 1 0) : gMx Z yX5_addNode wsX5_addNode { frames := 6, cells := 1, slots := 6, locals := 90 } [.ref (gz_ad Z 0), .int (nI (i))] S (S) ISE := by
  refine gMx_of (cc := cX5_addNode) (maxL := 2) (ret := (some .int)) hl0 (by decide +kernel) rfl rfl (Nat.le_of_ble_eq_true rfl) rfl rfl (Nat.le_of_ble_eq_true rfl) (Nat.le_of_ble_eq_true rfl) (fun X hZ hR K hTX hce hsl hthr hprop => ?_)
  subst hZ
  have K : gOk X cX5_addNode 2 wsX5_addNode RX5 := K
  have hRf : 6 ≤ (g_R X).frames := gR_f hR rfl
  have hRl : 90 ≤ (g_R X).locals := gR_l hR rfl
  have hin5 : ∀ w ∈ u_ws RX5 TX5 5, w ∈ wsX5_addNode := by decide +kernel
  obtain ⟨w0, w1, w2, w3, wsh, wst, a2, a3, a4, a5, a6, a7⟩ := id hw
  show gG X 0 [(0, .ref (g_ad X 0)), (1, .int (nI (i)))] [] S
  refine g_aload_n K 0 dX5_addNode_0 rfl ?_
  refine g_getR (q' := 1) (q := 0) (ci := 5) (k := 0) (N := 5) (C := RX5) (T := TX5) (ref := "ValveWalk") K rfl rfl rfl (by decide) hin5 (by decide +kernel) rfl dX5_addNode_1 ?_
  refine g_callVd (q := 1) (ci := 2) (As := []) (rest := []) (C := RX2) (T := TX2) (N := 12) K (cX2_nodeCount_k (g_z X) S) (cwV 0 K.1.2.2.2.2 gX5_addNode_X2_nodeCount rfl rfl rfl (by decide +kernel) ⟨Nat.le_trans (Nat.le_of_ble_eq_true rfl) hRf, Nat.le_trans (Nat.le_of_ble_eq_true rfl) hRl⟩) rfl rfl rfl rfl (Nat.le_of_ble_eq_true rfl) dX5_addNode_4 ?_
  refine g_bipush K 12 dX5_addNode_7 (by decide +kernel) ?_
  refine g_icmp_lt (tgt := 22) (a := S 1 0) (b := 12) K dX5_addNode_9 (by decide) (by omega) (by omega) (fun h9_1 => ?_) (fun h9_1 => ?_)
  · refine g_aload_n K 0 dX5_addNode_22 rfl ?_
    refine g_getR (q' := 1) (q := 0) (ci := 5) (k := 0) (N := 5) (C := RX5) (T := TX5) (ref := "ValveWalk") K rfl rfl rfl (by decide) hin5 (by decide +kernel) rfl dX5_addNode_23 ?_
    refine g_iload_n K 1 dX5_addNode_26 rfl ?_
    refine g_callVd (q := 1) (ci := 2) (As := [.int (nI (i))]) (rest := []) (C := RX2) (T := TX2) (N := 12) K (cX2_putNode_k (g_z X) S i (hw) (by omega)) (cwV 1 K.1.2.2.2.2 gX5_addNode_X2_putNode rfl rfl rfl (by decide +kernel) ⟨Nat.le_trans (Nat.le_of_ble_eq_true rfl) hRf, Nat.le_trans (Nat.le_of_ble_eq_true rfl) hRl⟩) rfl rfl rfl rfl (Nat.le_of_ble_eq_true rfl) dX5_addNode_27 ?_
    exfalso; omega
  · exact hthr 12 _ _ 50 52 54 "there are 12 nodes" thK1 (by decide +kernel) (by decide +kernel) (by decide +kernel) (by decide +kernel) (Nat.le_of_ble_eq_true rfl) dX5_addNode_12 dX5_addNode_15 dX5_addNode_16 dX5_addNode_18 dX5_addNode_21

set_option maxHeartbeats 4000000 in
set_option maxRecDepth 100000 in
theorem cX5_addPipe_k (Z : gZ) (S : Nat → Nat → Nat) (x y ln cu : Nat) (hw : wfC S) (hx : x < S 1 0) (hy : y < S 1 0) (hxy : x ≠ y) (hl : 1 ≤ ln ∧ ln ≤ 99) (hc : cu ≤ 99) (h1 : S 1 1 < 16) : gMd Z yX5_addPipe wsX5_addPipe { frames := 3, cells := 0, slots := 0, locals := 69 } [.ref (gz_ad Z 0), .int (nI (x)), .int (nI (y)), .int (nI (ln)), .int (nI (cu))] S (S 1 1) (gup (gup (gup (gup (gup (gup (gup S 1 1 (S 1 1 + 1)) 2 (S 1 1) ln) 3 (S 1 1) cu) 4 (2 * S 1 1 + 0) x) 6 (2 * S 1 1 + 0) ((1 <<< x) ||| (1 <<< (12 + S 1 1)))) 4 (2 * S 1 1 + 1) y) 6 (2 * S 1 1 + 1) ((1 <<< y) ||| (1 <<< (12 + S 1 1)))) := by
  refine gMd_of (cc := cX5_addPipe) (maxL := 5) (ret := (some .int)) (by decide +kernel) rfl (Nat.le_of_ble_eq_true rfl) (Or.inl rfl) (fun X hZ hR K hret => ?_)
  subst hZ
  have K : gOk X cX5_addPipe 5 wsX5_addPipe RX5 := K
  have hRf : 3 ≤ (g_R X).frames := gR_f hR rfl
  have hRl : 69 ≤ (g_R X).locals := gR_l hR rfl
  have hin5 : ∀ w ∈ u_ws RX5 TX5 5, w ∈ wsX5_addPipe := by decide +kernel
  obtain ⟨w0, w1, w2, w3, wsh, wst, a2, a3, a4, a5, a6, a7⟩ := id hw
  show gG X 0 [(0, .ref (g_ad X 0)), (1, .int (nI (x))), (2, .int (nI (y))), (3, .int (nI (ln))), (4, .int (nI (cu)))] [] S
  refine g_aload_n K 0 dX5_addPipe_0 rfl ?_
  refine g_iload_n K 1 dX5_addPipe_1 rfl ?_
  refine g_callVv (q := 0) (ci := 5) (As := [.int (nI (x))]) (rest := []) (C := RX5) (T := TX5) (N := 5) K (cX5_requireNode_k (g_z X) S x (hw) (by omega)) (cwV 1 K.1.2.2.2.2 gX5_addPipe_X5_requireNode rfl rfl rfl (by decide +kernel) ⟨Nat.le_trans (Nat.le_of_ble_eq_true rfl) hRf, Nat.le_trans (Nat.le_of_ble_eq_true rfl) hRl⟩) rfl rfl rfl rfl (Nat.le_of_ble_eq_true rfl) dX5_addPipe_2 ?_
  refine g_aload_n K 0 dX5_addPipe_5 rfl ?_
  refine g_iload_n K 2 dX5_addPipe_6 rfl ?_
  refine g_callVv (q := 0) (ci := 5) (As := [.int (nI (y))]) (rest := []) (C := RX5) (T := TX5) (N := 5) K (cX5_requireNode_k (g_z X) S y (hw) (by omega)) (cwV 1 K.1.2.2.2.2 gX5_addPipe_X5_requireNode rfl rfl rfl (by decide +kernel) ⟨Nat.le_trans (Nat.le_of_ble_eq_true rfl) hRf, Nat.le_trans (Nat.le_of_ble_eq_true rfl) hRl⟩) rfl rfl rfl rfl (Nat.le_of_ble_eq_true rfl) dX5_addPipe_7 ?_
  refine g_iload_n K 1 dX5_addPipe_10 rfl ?_
  refine g_iload_n K 2 dX5_addPipe_11 rfl ?_
  refine g_icmp_ne (tgt := 25) (a := x) (b := y) K dX5_addPipe_12 (by decide) (by omega) (by omega) (fun h12_1 => ?_) (fun h12_1 => ?_)
  · refine g_iload_n K 3 dX5_addPipe_25 rfl ?_
    refine g_iconst K 1 dX5_addPipe_26 (by decide +kernel) ?_
    refine g_icmp_lt' (tgt := 36) (a := ln) (b := 1) K dX5_addPipe_27 (by decide) (by omega) (by omega) (fun h27_2 => ?_) (fun h27_2 => ?_)
    · exfalso; omega
    · refine g_iload_n K 3 dX5_addPipe_30 rfl ?_
      refine g_bipush K 99 dX5_addPipe_31 (by decide +kernel) ?_
      refine g_icmp_le (tgt := 46) (a := ln) (b := 99) K dX5_addPipe_33 (by decide) (by omega) (by omega) (fun h33_3 => ?_) (fun h33_3 => ?_)
      · refine g_iload K 4 dX5_addPipe_46 rfl ?_
        refine g_if_lt (tgt := 58) (a := cu) K dX5_addPipe_48 (by decide) (by omega) (fun h48_4 => ?_) (fun h48_4 => ?_)
        · exfalso; omega
        · refine g_iload K 4 dX5_addPipe_51 rfl ?_
          refine g_bipush K 99 dX5_addPipe_53 (by decide +kernel) ?_
          refine g_icmp_le (tgt := 68) (a := cu) (b := 99) K dX5_addPipe_55 (by decide) (by omega) (by omega) (fun h55_5 => ?_) (fun h55_5 => ?_)
          · refine g_aload_n K 0 dX5_addPipe_68 rfl ?_
            refine g_getR (q' := 1) (q := 0) (ci := 5) (k := 0) (N := 5) (C := RX5) (T := TX5) (ref := "ValveWalk") K rfl rfl rfl (by decide) hin5 (by decide +kernel) rfl dX5_addPipe_69 ?_
            refine g_callVd (q := 1) (ci := 2) (As := []) (rest := []) (C := RX2) (T := TX2) (N := 12) K (cX2_pipeCount_k (g_z X) S) (cwV 0 K.1.2.2.2.2 gX5_addPipe_X2_pipeCount rfl rfl rfl (by decide +kernel) ⟨Nat.le_trans (Nat.le_of_ble_eq_true rfl) hRf, Nat.le_trans (Nat.le_of_ble_eq_true rfl) hRl⟩) rfl rfl rfl rfl (Nat.le_of_ble_eq_true rfl) dX5_addPipe_72 ?_
            refine g_bipush K 16 dX5_addPipe_75 (by decide +kernel) ?_
            refine g_icmp_lt (tgt := 90) (a := S 1 1) (b := 16) K dX5_addPipe_77 (by decide) (by omega) (by omega) (fun h77_6 => ?_) (fun h77_6 => ?_)
            · refine g_aload_n K 0 dX5_addPipe_90 rfl ?_
              refine g_getR (q' := 1) (q := 0) (ci := 5) (k := 0) (N := 5) (C := RX5) (T := TX5) (ref := "ValveWalk") K rfl rfl rfl (by decide) hin5 (by decide +kernel) rfl dX5_addPipe_91 ?_
              refine g_iload_n K 1 dX5_addPipe_94 rfl ?_
              refine g_iload_n K 2 dX5_addPipe_95 rfl ?_
              refine g_iload_n K 3 dX5_addPipe_96 rfl ?_
              refine g_iload K 4 dX5_addPipe_97 rfl ?_
              refine g_callVd (q := 1) (ci := 2) (As := [.int (nI (x)), .int (nI (y)), .int (nI (ln)), .int (nI (cu))]) (rest := []) (C := RX2) (T := TX2) (N := 12) K (cX2_putPipe_k (g_z X) S x y ln cu (by omega) (by omega) (by omega)) (cwV 4 K.1.2.2.2.2 gX5_addPipe_X2_putPipe rfl rfl rfl (by decide +kernel) ⟨Nat.le_trans (Nat.le_of_ble_eq_true rfl) hRf, Nat.le_trans (Nat.le_of_ble_eq_true rfl) hRl⟩) rfl rfl rfl rfl (Nat.le_of_ble_eq_true rfl) dX5_addPipe_99 ?_
              exact g_retd hret dX5_addPipe_102 rfl rfl
            · exfalso; omega
          · exfalso; omega
      · exfalso; omega
  · exfalso; omega

set_option maxHeartbeats 4000000 in
set_option maxRecDepth 100000 in
theorem xX5_addPipe_x1 (Z : gZ) (S : Nat → Nat → Nat) (x y ln cu : Nat) (hl0 : (gz_l Z).stackTraces = false) (hw : wfC S) (hux : x < 4294967296) (huy : y < 4294967296) (huln : ln < 4294967296) (hucu : cu < 4294967296) (hx : S 1 0 ≤ x) : gMx Z yX5_addPipe wsX5_addPipe { frames := 7, cells := 1, slots := 6, locals := 111 } [.ref (gz_ad Z 0), .int (nI (x)), .int (nI (y)), .int (nI (ln)), .int (nI (cu))] S (S) IOB := by
  refine gMx_of (cc := cX5_addPipe) (maxL := 5) (ret := (some .int)) hl0 (by decide +kernel) rfl rfl (Nat.le_of_ble_eq_true rfl) rfl rfl (Nat.le_of_ble_eq_true rfl) (Nat.le_of_ble_eq_true rfl) (fun X hZ hR K hTX hce hsl hthr hprop => ?_)
  subst hZ
  have K : gOk X cX5_addPipe 5 wsX5_addPipe RX5 := K
  have hRf : 7 ≤ (g_R X).frames := gR_f hR rfl
  have hRl : 111 ≤ (g_R X).locals := gR_l hR rfl
  have hin5 : ∀ w ∈ u_ws RX5 TX5 5, w ∈ wsX5_addPipe := by decide +kernel
  obtain ⟨w0, w1, w2, w3, wsh, wst, a2, a3, a4, a5, a6, a7⟩ := id hw
  show gG X 0 [(0, .ref (g_ad X 0)), (1, .int (nI (x))), (2, .int (nI (y))), (3, .int (nI (ln))), (4, .int (nI (cu)))] [] S
  refine g_aload_n K 0 dX5_addPipe_0 rfl ?_
  refine g_iload_n K 1 dX5_addPipe_1 rfl ?_
  exact g_callVx (q := 0) (ci := 5) (As := [.int (nI (x))]) (rest := []) (C := RX5) (U := TX5) (N := 5) K hTX (xX5_requireNode_x (g_z X) S x hl0 (hw) (by omega) (by omega)) (cwV 1 K.1.2.2.2.2 gX5_addPipe_X5_requireNode rfl rfl rfl (by decide +kernel) ⟨Nat.le_trans (Nat.le_of_ble_eq_true rfl) hRf, Nat.le_trans (Nat.le_of_ble_eq_true rfl) hRl⟩) hce hsl rfl rfl rfl rfl (Nat.le_of_ble_eq_true rfl) dX5_addPipe_2 (hprop _ _)

set_option maxHeartbeats 4000000 in
set_option maxRecDepth 100000 in
theorem xX5_addPipe_x2 (Z : gZ) (S : Nat → Nat → Nat) (x y ln cu : Nat) (hl0 : (gz_l Z).stackTraces = false) (hw : wfC S) (hux : x < 4294967296) (huy : y < 4294967296) (huln : ln < 4294967296) (hucu : cu < 4294967296) (hx : x < S 1 0) (hy : S 1 0 ≤ y) : gMx Z yX5_addPipe wsX5_addPipe { frames := 7, cells := 1, slots := 6, locals := 111 } [.ref (gz_ad Z 0), .int (nI (x)), .int (nI (y)), .int (nI (ln)), .int (nI (cu))] S (S) IOB := by
  refine gMx_of (cc := cX5_addPipe) (maxL := 5) (ret := (some .int)) hl0 (by decide +kernel) rfl rfl (Nat.le_of_ble_eq_true rfl) rfl rfl (Nat.le_of_ble_eq_true rfl) (Nat.le_of_ble_eq_true rfl) (fun X hZ hR K hTX hce hsl hthr hprop => ?_)
  subst hZ
  have K : gOk X cX5_addPipe 5 wsX5_addPipe RX5 := K
  have hRf : 7 ≤ (g_R X).frames := gR_f hR rfl
  have hRl : 111 ≤ (g_R X).locals := gR_l hR rfl
  have hin5 : ∀ w ∈ u_ws RX5 TX5 5, w ∈ wsX5_addPipe := by decide +kernel
  obtain ⟨w0, w1, w2, w3, wsh, wst, a2, a3, a4, a5, a6, a7⟩ := id hw
  show gG X 0 [(0, .ref (g_ad X 0)), (1, .int (nI (x))), (2, .int (nI (y))), (3, .int (nI (ln))), (4, .int (nI (cu)))] [] S
  refine g_aload_n K 0 dX5_addPipe_0 rfl ?_
  refine g_iload_n K 1 dX5_addPipe_1 rfl ?_
  refine g_callVv (q := 0) (ci := 5) (As := [.int (nI (x))]) (rest := []) (C := RX5) (T := TX5) (N := 5) K (cX5_requireNode_k (g_z X) S x (hw) (by omega)) (cwV 1 K.1.2.2.2.2 gX5_addPipe_X5_requireNode rfl rfl rfl (by decide +kernel) ⟨Nat.le_trans (Nat.le_of_ble_eq_true rfl) hRf, Nat.le_trans (Nat.le_of_ble_eq_true rfl) hRl⟩) rfl rfl rfl rfl (Nat.le_of_ble_eq_true rfl) dX5_addPipe_2 ?_
  refine g_aload_n K 0 dX5_addPipe_5 rfl ?_
  refine g_iload_n K 2 dX5_addPipe_6 rfl ?_
  exact g_callVx (q := 0) (ci := 5) (As := [.int (nI (y))]) (rest := []) (C := RX5) (U := TX5) (N := 5) K hTX (xX5_requireNode_x (g_z X) S y hl0 (hw) (by omega) (by omega)) (cwV 1 K.1.2.2.2.2 gX5_addPipe_X5_requireNode rfl rfl rfl (by decide +kernel) ⟨Nat.le_trans (Nat.le_of_ble_eq_true rfl) hRf, Nat.le_trans (Nat.le_of_ble_eq_true rfl) hRl⟩) hce hsl rfl rfl rfl rfl (Nat.le_of_ble_eq_true rfl) dX5_addPipe_7 (hprop _ _)

set_option maxHeartbeats 4000000 in
set_option maxRecDepth 100000 in
theorem xX5_addPipe_x3 (Z : gZ) (S : Nat → Nat → Nat) (x y ln cu : Nat) (hl0 : (gz_l Z).stackTraces = false) (hw : wfC S) (hux : x < 4294967296) (huy : y < 4294967296) (huln : ln < 4294967296) (hucu : cu < 4294967296) (hx : x < S 1 0) (hy : y < S 1 0) (hb : x = y ∨ ¬ (1 ≤ ln ∧ ln ≤ 99) ∨ ¬ cu ≤ 99) : gMx Z yX5_addPipe wsX5_addPipe { frames := 6, cells := 1, slots := 6, locals := 90 } [.ref (gz_ad Z 0), .int (nI (x)), .int (nI (y)), .int (nI (ln)), .int (nI (cu))] S (S) IAE := by
  refine gMx_of (cc := cX5_addPipe) (maxL := 5) (ret := (some .int)) hl0 (by decide +kernel) rfl rfl (Nat.le_of_ble_eq_true rfl) rfl rfl (Nat.le_of_ble_eq_true rfl) (Nat.le_of_ble_eq_true rfl) (fun X hZ hR K hTX hce hsl hthr hprop => ?_)
  subst hZ
  have K : gOk X cX5_addPipe 5 wsX5_addPipe RX5 := K
  have hRf : 6 ≤ (g_R X).frames := gR_f hR rfl
  have hRl : 90 ≤ (g_R X).locals := gR_l hR rfl
  have hin5 : ∀ w ∈ u_ws RX5 TX5 5, w ∈ wsX5_addPipe := by decide +kernel
  obtain ⟨w0, w1, w2, w3, wsh, wst, a2, a3, a4, a5, a6, a7⟩ := id hw
  show gG X 0 [(0, .ref (g_ad X 0)), (1, .int (nI (x))), (2, .int (nI (y))), (3, .int (nI (ln))), (4, .int (nI (cu)))] [] S
  refine g_aload_n K 0 dX5_addPipe_0 rfl ?_
  refine g_iload_n K 1 dX5_addPipe_1 rfl ?_
  refine g_callVv (q := 0) (ci := 5) (As := [.int (nI (x))]) (rest := []) (C := RX5) (T := TX5) (N := 5) K (cX5_requireNode_k (g_z X) S x (hw) (by omega)) (cwV 1 K.1.2.2.2.2 gX5_addPipe_X5_requireNode rfl rfl rfl (by decide +kernel) ⟨Nat.le_trans (Nat.le_of_ble_eq_true rfl) hRf, Nat.le_trans (Nat.le_of_ble_eq_true rfl) hRl⟩) rfl rfl rfl rfl (Nat.le_of_ble_eq_true rfl) dX5_addPipe_2 ?_
  refine g_aload_n K 0 dX5_addPipe_5 rfl ?_
  refine g_iload_n K 2 dX5_addPipe_6 rfl ?_
  refine g_callVv (q := 0) (ci := 5) (As := [.int (nI (y))]) (rest := []) (C := RX5) (T := TX5) (N := 5) K (cX5_requireNode_k (g_z X) S y (hw) (by omega)) (cwV 1 K.1.2.2.2.2 gX5_addPipe_X5_requireNode rfl rfl rfl (by decide +kernel) ⟨Nat.le_trans (Nat.le_of_ble_eq_true rfl) hRf, Nat.le_trans (Nat.le_of_ble_eq_true rfl) hRl⟩) rfl rfl rfl rfl (Nat.le_of_ble_eq_true rfl) dX5_addPipe_7 ?_
  refine g_iload_n K 1 dX5_addPipe_10 rfl ?_
  refine g_iload_n K 2 dX5_addPipe_11 rfl ?_
  refine g_icmp_ne (tgt := 25) (a := x) (b := y) K dX5_addPipe_12 (by decide) (by omega) (by omega) (fun h12_1 => ?_) (fun h12_1 => ?_)
  · refine g_iload_n K 3 dX5_addPipe_25 rfl ?_
    refine g_iconst K 1 dX5_addPipe_26 (by decide +kernel) ?_
    refine g_icmp_lt' (tgt := 36) (a := ln) (b := 1) K dX5_addPipe_27 (by decide) (by omega) (by omega) (fun h27_2 => ?_) (fun h27_2 => ?_)
    · exact hthr 36 _ _ 65 70 69 "the length is not 1 to 99" thK2 (by decide +kernel) (by decide +kernel) (by decide +kernel) (by decide +kernel) (Nat.le_of_ble_eq_true rfl) dX5_addPipe_36 dX5_addPipe_39 dX5_addPipe_40 dX5_addPipe_42 dX5_addPipe_45
    · refine g_iload_n K 3 dX5_addPipe_30 rfl ?_
      refine g_bipush K 99 dX5_addPipe_31 (by decide +kernel) ?_
      refine g_icmp_le' (tgt := 46) (a := ln) (b := 99) K dX5_addPipe_33 (by decide) (by omega) (by omega) (fun h33_3 => ?_) (fun h33_3 => ?_)
      · refine g_iload K 4 dX5_addPipe_46 rfl ?_
        refine g_if_lt (tgt := 58) (a := cu) K dX5_addPipe_48 (by decide) (by omega) (fun h48_4 => ?_) (fun h48_4 => ?_)
        · exact hthr 58 _ _ 65 72 69 "the customers are not 0 to 99" thK2 (by decide +kernel) (by decide +kernel) (by decide +kernel) (by decide +kernel) (Nat.le_of_ble_eq_true rfl) dX5_addPipe_58 dX5_addPipe_61 dX5_addPipe_62 dX5_addPipe_64 dX5_addPipe_67
        · refine g_iload K 4 dX5_addPipe_51 rfl ?_
          refine g_bipush K 99 dX5_addPipe_53 (by decide +kernel) ?_
          refine g_icmp_le' (tgt := 68) (a := cu) (b := 99) K dX5_addPipe_55 (by decide) (by omega) (by omega) (fun h55_5 => ?_) (fun h55_5 => ?_)
          · refine g_aload_n K 0 dX5_addPipe_68 rfl ?_
            refine g_getR (q' := 1) (q := 0) (ci := 5) (k := 0) (N := 5) (C := RX5) (T := TX5) (ref := "ValveWalk") K rfl rfl rfl (by decide) hin5 (by decide +kernel) rfl dX5_addPipe_69 ?_
            refine g_callVd (q := 1) (ci := 2) (As := []) (rest := []) (C := RX2) (T := TX2) (N := 12) K (cX2_pipeCount_k (g_z X) S) (cwV 0 K.1.2.2.2.2 gX5_addPipe_X2_pipeCount rfl rfl rfl (by decide +kernel) ⟨Nat.le_trans (Nat.le_of_ble_eq_true rfl) hRf, Nat.le_trans (Nat.le_of_ble_eq_true rfl) hRl⟩) rfl rfl rfl rfl (Nat.le_of_ble_eq_true rfl) dX5_addPipe_72 ?_
            refine g_bipush K 16 dX5_addPipe_75 (by decide +kernel) ?_
            refine g_icmp_lt (tgt := 90) (a := S 1 1) (b := 16) K dX5_addPipe_77 (by decide) (by omega) (by omega) (fun h77_6 => ?_) (fun h77_6 => ?_)
            · refine g_aload_n K 0 dX5_addPipe_90 rfl ?_
              refine g_getR (q' := 1) (q := 0) (ci := 5) (k := 0) (N := 5) (C := RX5) (T := TX5) (ref := "ValveWalk") K rfl rfl rfl (by decide) hin5 (by decide +kernel) rfl dX5_addPipe_91 ?_
              refine g_iload_n K 1 dX5_addPipe_94 rfl ?_
              refine g_iload_n K 2 dX5_addPipe_95 rfl ?_
              refine g_iload_n K 3 dX5_addPipe_96 rfl ?_
              refine g_iload K 4 dX5_addPipe_97 rfl ?_
              refine g_callVd (q := 1) (ci := 2) (As := [.int (nI (x)), .int (nI (y)), .int (nI (ln)), .int (nI (cu))]) (rest := []) (C := RX2) (T := TX2) (N := 12) K (cX2_putPipe_k (g_z X) S x y ln cu (by omega) (by omega) (by omega)) (cwV 4 K.1.2.2.2.2 gX5_addPipe_X2_putPipe rfl rfl rfl (by decide +kernel) ⟨Nat.le_trans (Nat.le_of_ble_eq_true rfl) hRf, Nat.le_trans (Nat.le_of_ble_eq_true rfl) hRl⟩) rfl rfl rfl rfl (Nat.le_of_ble_eq_true rfl) dX5_addPipe_99 ?_
              exfalso; omega
            · exfalso; omega
          · exact hthr 58 _ _ 65 72 69 "the customers are not 0 to 99" thK2 (by decide +kernel) (by decide +kernel) (by decide +kernel) (by decide +kernel) (Nat.le_of_ble_eq_true rfl) dX5_addPipe_58 dX5_addPipe_61 dX5_addPipe_62 dX5_addPipe_64 dX5_addPipe_67
      · exact hthr 36 _ _ 65 70 69 "the length is not 1 to 99" thK2 (by decide +kernel) (by decide +kernel) (by decide +kernel) (by decide +kernel) (Nat.le_of_ble_eq_true rfl) dX5_addPipe_36 dX5_addPipe_39 dX5_addPipe_40 dX5_addPipe_42 dX5_addPipe_45
  · exact hthr 15 _ _ 65 67 69 "both nodes are the same" thK2 (by decide +kernel) (by decide +kernel) (by decide +kernel) (by decide +kernel) (Nat.le_of_ble_eq_true rfl) dX5_addPipe_15 dX5_addPipe_18 dX5_addPipe_19 dX5_addPipe_21 dX5_addPipe_24

set_option maxHeartbeats 4000000 in
set_option maxRecDepth 100000 in
theorem xX5_addPipe_x4 (Z : gZ) (S : Nat → Nat → Nat) (x y ln cu : Nat) (hl0 : (gz_l Z).stackTraces = false) (hw : wfC S) (hux : x < 4294967296) (huy : y < 4294967296) (huln : ln < 4294967296) (hucu : cu < 4294967296) (hx : x < S 1 0) (hy : y < S 1 0) (hxy : x ≠ y) (hl : 1 ≤ ln ∧ ln ≤ 99) (hc : cu ≤ 99) (h1 : 16 ≤ S 1 1) : gMx Z yX5_addPipe wsX5_addPipe { frames := 6, cells := 1, slots := 6, locals := 90 } [.ref (gz_ad Z 0), .int (nI (x)), .int (nI (y)), .int (nI (ln)), .int (nI (cu))] S (S) ISE := by
  refine gMx_of (cc := cX5_addPipe) (maxL := 5) (ret := (some .int)) hl0 (by decide +kernel) rfl rfl (Nat.le_of_ble_eq_true rfl) rfl rfl (Nat.le_of_ble_eq_true rfl) (Nat.le_of_ble_eq_true rfl) (fun X hZ hR K hTX hce hsl hthr hprop => ?_)
  subst hZ
  have K : gOk X cX5_addPipe 5 wsX5_addPipe RX5 := K
  have hRf : 6 ≤ (g_R X).frames := gR_f hR rfl
  have hRl : 90 ≤ (g_R X).locals := gR_l hR rfl
  have hin5 : ∀ w ∈ u_ws RX5 TX5 5, w ∈ wsX5_addPipe := by decide +kernel
  obtain ⟨w0, w1, w2, w3, wsh, wst, a2, a3, a4, a5, a6, a7⟩ := id hw
  show gG X 0 [(0, .ref (g_ad X 0)), (1, .int (nI (x))), (2, .int (nI (y))), (3, .int (nI (ln))), (4, .int (nI (cu)))] [] S
  refine g_aload_n K 0 dX5_addPipe_0 rfl ?_
  refine g_iload_n K 1 dX5_addPipe_1 rfl ?_
  refine g_callVv (q := 0) (ci := 5) (As := [.int (nI (x))]) (rest := []) (C := RX5) (T := TX5) (N := 5) K (cX5_requireNode_k (g_z X) S x (hw) (by omega)) (cwV 1 K.1.2.2.2.2 gX5_addPipe_X5_requireNode rfl rfl rfl (by decide +kernel) ⟨Nat.le_trans (Nat.le_of_ble_eq_true rfl) hRf, Nat.le_trans (Nat.le_of_ble_eq_true rfl) hRl⟩) rfl rfl rfl rfl (Nat.le_of_ble_eq_true rfl) dX5_addPipe_2 ?_
  refine g_aload_n K 0 dX5_addPipe_5 rfl ?_
  refine g_iload_n K 2 dX5_addPipe_6 rfl ?_
  refine g_callVv (q := 0) (ci := 5) (As := [.int (nI (y))]) (rest := []) (C := RX5) (T := TX5) (N := 5) K (cX5_requireNode_k (g_z X) S y (hw) (by omega)) (cwV 1 K.1.2.2.2.2 gX5_addPipe_X5_requireNode rfl rfl rfl (by decide +kernel) ⟨Nat.le_trans (Nat.le_of_ble_eq_true rfl) hRf, Nat.le_trans (Nat.le_of_ble_eq_true rfl) hRl⟩) rfl rfl rfl rfl (Nat.le_of_ble_eq_true rfl) dX5_addPipe_7 ?_
  refine g_iload_n K 1 dX5_addPipe_10 rfl ?_
  refine g_iload_n K 2 dX5_addPipe_11 rfl ?_
  refine g_icmp_ne (tgt := 25) (a := x) (b := y) K dX5_addPipe_12 (by decide) (by omega) (by omega) (fun h12_1 => ?_) (fun h12_1 => ?_)
  · refine g_iload_n K 3 dX5_addPipe_25 rfl ?_
    refine g_iconst K 1 dX5_addPipe_26 (by decide +kernel) ?_
    refine g_icmp_lt' (tgt := 36) (a := ln) (b := 1) K dX5_addPipe_27 (by decide) (by omega) (by omega) (fun h27_2 => ?_) (fun h27_2 => ?_)
    · exfalso; omega
    · refine g_iload_n K 3 dX5_addPipe_30 rfl ?_
      refine g_bipush K 99 dX5_addPipe_31 (by decide +kernel) ?_
      refine g_icmp_le' (tgt := 46) (a := ln) (b := 99) K dX5_addPipe_33 (by decide) (by omega) (by omega) (fun h33_3 => ?_) (fun h33_3 => ?_)
      · refine g_iload K 4 dX5_addPipe_46 rfl ?_
        refine g_if_lt (tgt := 58) (a := cu) K dX5_addPipe_48 (by decide) (by omega) (fun h48_4 => ?_) (fun h48_4 => ?_)
        · exfalso; omega
        · refine g_iload K 4 dX5_addPipe_51 rfl ?_
          refine g_bipush K 99 dX5_addPipe_53 (by decide +kernel) ?_
          refine g_icmp_le' (tgt := 68) (a := cu) (b := 99) K dX5_addPipe_55 (by decide) (by omega) (by omega) (fun h55_5 => ?_) (fun h55_5 => ?_)
          · refine g_aload_n K 0 dX5_addPipe_68 rfl ?_
            refine g_getR (q' := 1) (q := 0) (ci := 5) (k := 0) (N := 5) (C := RX5) (T := TX5) (ref := "ValveWalk") K rfl rfl rfl (by decide) hin5 (by decide +kernel) rfl dX5_addPipe_69 ?_
            refine g_callVd (q := 1) (ci := 2) (As := []) (rest := []) (C := RX2) (T := TX2) (N := 12) K (cX2_pipeCount_k (g_z X) S) (cwV 0 K.1.2.2.2.2 gX5_addPipe_X2_pipeCount rfl rfl rfl (by decide +kernel) ⟨Nat.le_trans (Nat.le_of_ble_eq_true rfl) hRf, Nat.le_trans (Nat.le_of_ble_eq_true rfl) hRl⟩) rfl rfl rfl rfl (Nat.le_of_ble_eq_true rfl) dX5_addPipe_72 ?_
            refine g_bipush K 16 dX5_addPipe_75 (by decide +kernel) ?_
            refine g_icmp_lt (tgt := 90) (a := S 1 1) (b := 16) K dX5_addPipe_77 (by decide) (by omega) (by omega) (fun h77_6 => ?_) (fun h77_6 => ?_)
            · refine g_aload_n K 0 dX5_addPipe_90 rfl ?_
              refine g_getR (q' := 1) (q := 0) (ci := 5) (k := 0) (N := 5) (C := RX5) (T := TX5) (ref := "ValveWalk") K rfl rfl rfl (by decide) hin5 (by decide +kernel) rfl dX5_addPipe_91 ?_
              refine g_iload_n K 1 dX5_addPipe_94 rfl ?_
              refine g_iload_n K 2 dX5_addPipe_95 rfl ?_
              refine g_iload_n K 3 dX5_addPipe_96 rfl ?_
              refine g_iload K 4 dX5_addPipe_97 rfl ?_
              refine g_callVd (q := 1) (ci := 2) (As := [.int (nI (x)), .int (nI (y)), .int (nI (ln)), .int (nI (cu))]) (rest := []) (C := RX2) (T := TX2) (N := 12) K (cX2_putPipe_k (g_z X) S x y ln cu (by omega) (by omega) (by omega)) (cwV 4 K.1.2.2.2.2 gX5_addPipe_X2_putPipe rfl rfl rfl (by decide +kernel) ⟨Nat.le_trans (Nat.le_of_ble_eq_true rfl) hRf, Nat.le_trans (Nat.le_of_ble_eq_true rfl) hRl⟩) rfl rfl rfl rfl (Nat.le_of_ble_eq_true rfl) dX5_addPipe_99 ?_
              exfalso; omega
            · exact hthr 80 _ _ 50 77 54 "there are 16 pipes" thK1 (by decide +kernel) (by decide +kernel) (by decide +kernel) (by decide +kernel) (Nat.le_of_ble_eq_true rfl) dX5_addPipe_80 dX5_addPipe_83 dX5_addPipe_84 dX5_addPipe_86 dX5_addPipe_89
          · exfalso; omega
      · exfalso; omega
  · exfalso; omega

set_option maxHeartbeats 4000000 in
set_option maxRecDepth 100000 in
theorem cX5_addValve_k (Z : gZ) (S : Nat → Nat → Nat) (p e : Nat) (hw : wfC S) (hp : p < S 1 1) (he : e < 2) (hv : S 5 (2 * p + e) = 0) (h2 : S 1 2 < 12) : gMd Z yX5_addValve wsX5_addValve { frames := 2, cells := 0, slots := 0, locals := 41 } [.ref (gz_ad Z 0), .int (nI (p)), .int (nI (e))] S (S 1 2) (gup (gup (gup S 1 2 (S 1 2 + 1)) 5 (2 * p + e) (1 <<< S 1 2)) 7 (S 1 2) (2 * p + e)) := by
  refine gMd_of (cc := cX5_addValve) (maxL := 3) (ret := (some .int)) (by decide +kernel) rfl (Nat.le_of_ble_eq_true rfl) (Or.inl rfl) (fun X hZ hR K hret => ?_)
  subst hZ
  have K : gOk X cX5_addValve 3 wsX5_addValve RX5 := K
  have hRf : 2 ≤ (g_R X).frames := gR_f hR rfl
  have hRl : 41 ≤ (g_R X).locals := gR_l hR rfl
  have hin5 : ∀ w ∈ u_ws RX5 TX5 5, w ∈ wsX5_addValve := by decide +kernel
  obtain ⟨w0, w1, w2, w3, wsh, wst, a2, a3, a4, a5, a6, a7⟩ := id hw
  show gG X 0 [(0, .ref (g_ad X 0)), (1, .int (nI (p))), (2, .int (nI (e)))] [] S
  refine g_aload_n K 0 dX5_addValve_0 rfl ?_
  refine g_iload_n K 1 dX5_addValve_1 rfl ?_
  refine g_callVv (q := 0) (ci := 5) (As := [.int (nI (p))]) (rest := []) (C := RX5) (T := TX5) (N := 5) K (cX5_requirePipe_k (g_z X) S p (hw) (by omega)) (cwV 1 K.1.2.2.2.2 gX5_addValve_X5_requirePipe rfl rfl rfl (by decide +kernel) ⟨Nat.le_trans (Nat.le_of_ble_eq_true rfl) hRf, Nat.le_trans (Nat.le_of_ble_eq_true rfl) hRl⟩) rfl rfl rfl rfl (Nat.le_of_ble_eq_true rfl) dX5_addValve_2 ?_
  refine g_iload_n K 2 dX5_addValve_5 rfl ?_
  refine g_if_lt (tgt := 14) (a := e) K dX5_addValve_6 (by decide) (by omega) (fun h6_1 => ?_) (fun h6_1 => ?_)
  · exfalso; omega
  · refine g_iload_n K 2 dX5_addValve_9 rfl ?_
    refine g_iconst K 2 dX5_addValve_10 (by decide +kernel) ?_
    refine g_icmp_lt (tgt := 24) (a := e) (b := 2) K dX5_addValve_11 (by decide) (by omega) (by omega) (fun h11_2 => ?_) (fun h11_2 => ?_)
    · refine g_aload_n K 0 dX5_addValve_24 rfl ?_
      refine g_getR (q' := 1) (q := 0) (ci := 5) (k := 0) (N := 5) (C := RX5) (T := TX5) (ref := "ValveWalk") K rfl rfl rfl (by decide) hin5 (by decide +kernel) rfl dX5_addValve_25 ?_
      refine g_iload_n K 1 dX5_addValve_28 rfl ?_
      refine g_iload_n K 2 dX5_addValve_29 rfl ?_
      refine g_callVd (q := 1) (ci := 2) (As := [.int (nI (p)), .int (nI (e))]) (rest := []) (C := RX2) (T := TX2) (N := 12) K (cX2_valveBitAt_k (g_z X) S p e (by omega)) (cwV 2 K.1.2.2.2.2 gX5_addValve_X2_valveBitAt rfl rfl rfl (by decide +kernel) ⟨Nat.le_trans (Nat.le_of_ble_eq_true rfl) hRf, Nat.le_trans (Nat.le_of_ble_eq_true rfl) hRl⟩) rfl rfl rfl rfl (Nat.le_of_ble_eq_true rfl) dX5_addValve_30 ?_
      have h33 := a5 (2 * p + e)
      refine g_if_eq (tgt := 46) (a := S 5 (2 * p + e)) K dX5_addValve_33 (by decide) (by omega) (fun h33_3 => ?_) (fun h33_3 => ?_)
      · refine g_aload_n K 0 dX5_addValve_46 rfl ?_
        refine g_getR (q' := 1) (q := 0) (ci := 5) (k := 0) (N := 5) (C := RX5) (T := TX5) (ref := "ValveWalk") K rfl rfl rfl (by decide) hin5 (by decide +kernel) rfl dX5_addValve_47 ?_
        refine g_callVd (q := 1) (ci := 2) (As := []) (rest := []) (C := RX2) (T := TX2) (N := 12) K (cX2_valveCount_k (g_z X) S) (cwV 0 K.1.2.2.2.2 gX5_addValve_X2_valveCount rfl rfl rfl (by decide +kernel) ⟨Nat.le_trans (Nat.le_of_ble_eq_true rfl) hRf, Nat.le_trans (Nat.le_of_ble_eq_true rfl) hRl⟩) rfl rfl rfl rfl (Nat.le_of_ble_eq_true rfl) dX5_addValve_50 ?_
        refine g_bipush K 12 dX5_addValve_53 (by decide +kernel) ?_
        refine g_icmp_lt (tgt := 68) (a := S 1 2) (b := 12) K dX5_addValve_55 (by decide) (by omega) (by omega) (fun h55_4 => ?_) (fun h55_4 => ?_)
        · refine g_aload_n K 0 dX5_addValve_68 rfl ?_
          refine g_getR (q' := 1) (q := 0) (ci := 5) (k := 0) (N := 5) (C := RX5) (T := TX5) (ref := "ValveWalk") K rfl rfl rfl (by decide) hin5 (by decide +kernel) rfl dX5_addValve_69 ?_
          refine g_iload_n K 1 dX5_addValve_72 rfl ?_
          refine g_iload_n K 2 dX5_addValve_73 rfl ?_
          refine g_callVd (q := 1) (ci := 2) (As := [.int (nI (p)), .int (nI (e))]) (rest := []) (C := RX2) (T := TX2) (N := 12) K (cX2_putValve_k (g_z X) S p e (by omega) (by omega)) (cwV 2 K.1.2.2.2.2 gX5_addValve_X2_putValve rfl rfl rfl (by decide +kernel) ⟨Nat.le_trans (Nat.le_of_ble_eq_true rfl) hRf, Nat.le_trans (Nat.le_of_ble_eq_true rfl) hRl⟩) rfl rfl rfl rfl (Nat.le_of_ble_eq_true rfl) dX5_addValve_74 ?_
          exact g_retd hret dX5_addValve_77 rfl rfl
        · exfalso; omega
      · exfalso; omega
    · exfalso; omega

set_option maxHeartbeats 4000000 in
set_option maxRecDepth 100000 in
theorem xX5_addValve_x1 (Z : gZ) (S : Nat → Nat → Nat) (p e : Nat) (hl0 : (gz_l Z).stackTraces = false) (hw : wfC S) (hup : p < 4294967296) (hue : e < 4294967296) (hp : S 1 1 ≤ p) : gMx Z yX5_addValve wsX5_addValve { frames := 7, cells := 1, slots := 6, locals := 111 } [.ref (gz_ad Z 0), .int (nI (p)), .int (nI (e))] S (S) IOB := by
  refine gMx_of (cc := cX5_addValve) (maxL := 3) (ret := (some .int)) hl0 (by decide +kernel) rfl rfl (Nat.le_of_ble_eq_true rfl) rfl rfl (Nat.le_of_ble_eq_true rfl) (Nat.le_of_ble_eq_true rfl) (fun X hZ hR K hTX hce hsl hthr hprop => ?_)
  subst hZ
  have K : gOk X cX5_addValve 3 wsX5_addValve RX5 := K
  have hRf : 7 ≤ (g_R X).frames := gR_f hR rfl
  have hRl : 111 ≤ (g_R X).locals := gR_l hR rfl
  have hin5 : ∀ w ∈ u_ws RX5 TX5 5, w ∈ wsX5_addValve := by decide +kernel
  obtain ⟨w0, w1, w2, w3, wsh, wst, a2, a3, a4, a5, a6, a7⟩ := id hw
  show gG X 0 [(0, .ref (g_ad X 0)), (1, .int (nI (p))), (2, .int (nI (e)))] [] S
  refine g_aload_n K 0 dX5_addValve_0 rfl ?_
  refine g_iload_n K 1 dX5_addValve_1 rfl ?_
  exact g_callVx (q := 0) (ci := 5) (As := [.int (nI (p))]) (rest := []) (C := RX5) (U := TX5) (N := 5) K hTX (xX5_requirePipe_x (g_z X) S p hl0 (hw) (by omega) (by omega)) (cwV 1 K.1.2.2.2.2 gX5_addValve_X5_requirePipe rfl rfl rfl (by decide +kernel) ⟨Nat.le_trans (Nat.le_of_ble_eq_true rfl) hRf, Nat.le_trans (Nat.le_of_ble_eq_true rfl) hRl⟩) hce hsl rfl rfl rfl rfl (Nat.le_of_ble_eq_true rfl) dX5_addValve_2 (hprop _ _)

set_option maxHeartbeats 4000000 in
set_option maxRecDepth 100000 in
theorem xX5_addValve_x2 (Z : gZ) (S : Nat → Nat → Nat) (p e : Nat) (hl0 : (gz_l Z).stackTraces = false) (hw : wfC S) (hup : p < 4294967296) (hue : e < 4294967296) (hp : p < S 1 1) (he : 2 ≤ e) : gMx Z yX5_addValve wsX5_addValve { frames := 6, cells := 1, slots := 6, locals := 90 } [.ref (gz_ad Z 0), .int (nI (p)), .int (nI (e))] S (S) IAE := by
  refine gMx_of (cc := cX5_addValve) (maxL := 3) (ret := (some .int)) hl0 (by decide +kernel) rfl rfl (Nat.le_of_ble_eq_true rfl) rfl rfl (Nat.le_of_ble_eq_true rfl) (Nat.le_of_ble_eq_true rfl) (fun X hZ hR K hTX hce hsl hthr hprop => ?_)
  subst hZ
  have K : gOk X cX5_addValve 3 wsX5_addValve RX5 := K
  have hRf : 6 ≤ (g_R X).frames := gR_f hR rfl
  have hRl : 90 ≤ (g_R X).locals := gR_l hR rfl
  have hin5 : ∀ w ∈ u_ws RX5 TX5 5, w ∈ wsX5_addValve := by decide +kernel
  obtain ⟨w0, w1, w2, w3, wsh, wst, a2, a3, a4, a5, a6, a7⟩ := id hw
  show gG X 0 [(0, .ref (g_ad X 0)), (1, .int (nI (p))), (2, .int (nI (e)))] [] S
  refine g_aload_n K 0 dX5_addValve_0 rfl ?_
  refine g_iload_n K 1 dX5_addValve_1 rfl ?_
  refine g_callVv (q := 0) (ci := 5) (As := [.int (nI (p))]) (rest := []) (C := RX5) (T := TX5) (N := 5) K (cX5_requirePipe_k (g_z X) S p (hw) (by omega)) (cwV 1 K.1.2.2.2.2 gX5_addValve_X5_requirePipe rfl rfl rfl (by decide +kernel) ⟨Nat.le_trans (Nat.le_of_ble_eq_true rfl) hRf, Nat.le_trans (Nat.le_of_ble_eq_true rfl) hRl⟩) rfl rfl rfl rfl (Nat.le_of_ble_eq_true rfl) dX5_addValve_2 ?_
  refine g_iload_n K 2 dX5_addValve_5 rfl ?_
  refine g_if_lt (tgt := 14) (a := e) K dX5_addValve_6 (by decide) (by omega) (fun h6_1 => ?_) (fun h6_1 => ?_)
  · exact hthr 14 _ _ 65 86 69 "the end is neither 0 nor 1" thK2 (by decide +kernel) (by decide +kernel) (by decide +kernel) (by decide +kernel) (Nat.le_of_ble_eq_true rfl) dX5_addValve_14 dX5_addValve_17 dX5_addValve_18 dX5_addValve_20 dX5_addValve_23
  · refine g_iload_n K 2 dX5_addValve_9 rfl ?_
    refine g_iconst K 2 dX5_addValve_10 (by decide +kernel) ?_
    refine g_icmp_lt (tgt := 24) (a := e) (b := 2) K dX5_addValve_11 (by decide) (by omega) (by omega) (fun h11_2 => ?_) (fun h11_2 => ?_)
    · refine g_aload_n K 0 dX5_addValve_24 rfl ?_
      refine g_getR (q' := 1) (q := 0) (ci := 5) (k := 0) (N := 5) (C := RX5) (T := TX5) (ref := "ValveWalk") K rfl rfl rfl (by decide) hin5 (by decide +kernel) rfl dX5_addValve_25 ?_
      refine g_iload_n K 1 dX5_addValve_28 rfl ?_
      refine g_iload_n K 2 dX5_addValve_29 rfl ?_
      refine g_callVd (q := 1) (ci := 2) (As := [.int (nI (p)), .int (nI (e))]) (rest := []) (C := RX2) (T := TX2) (N := 12) K (cX2_valveBitAt_k (g_z X) S p e (by omega)) (cwV 2 K.1.2.2.2.2 gX5_addValve_X2_valveBitAt rfl rfl rfl (by decide +kernel) ⟨Nat.le_trans (Nat.le_of_ble_eq_true rfl) hRf, Nat.le_trans (Nat.le_of_ble_eq_true rfl) hRl⟩) rfl rfl rfl rfl (Nat.le_of_ble_eq_true rfl) dX5_addValve_30 ?_
      have h33 := a5 (2 * p + e)
      refine g_if_eq (tgt := 46) (a := S 5 (2 * p + e)) K dX5_addValve_33 (by decide) (by omega) (fun h33_3 => ?_) (fun h33_3 => ?_)
      · refine g_aload_n K 0 dX5_addValve_46 rfl ?_
        refine g_getR (q' := 1) (q := 0) (ci := 5) (k := 0) (N := 5) (C := RX5) (T := TX5) (ref := "ValveWalk") K rfl rfl rfl (by decide) hin5 (by decide +kernel) rfl dX5_addValve_47 ?_
        refine g_callVd (q := 1) (ci := 2) (As := []) (rest := []) (C := RX2) (T := TX2) (N := 12) K (cX2_valveCount_k (g_z X) S) (cwV 0 K.1.2.2.2.2 gX5_addValve_X2_valveCount rfl rfl rfl (by decide +kernel) ⟨Nat.le_trans (Nat.le_of_ble_eq_true rfl) hRf, Nat.le_trans (Nat.le_of_ble_eq_true rfl) hRl⟩) rfl rfl rfl rfl (Nat.le_of_ble_eq_true rfl) dX5_addValve_50 ?_
        refine g_bipush K 12 dX5_addValve_53 (by decide +kernel) ?_
        refine g_icmp_lt (tgt := 68) (a := S 1 2) (b := 12) K dX5_addValve_55 (by decide) (by omega) (by omega) (fun h55_4 => ?_) (fun h55_4 => ?_)
        · refine g_aload_n K 0 dX5_addValve_68 rfl ?_
          refine g_getR (q' := 1) (q := 0) (ci := 5) (k := 0) (N := 5) (C := RX5) (T := TX5) (ref := "ValveWalk") K rfl rfl rfl (by decide) hin5 (by decide +kernel) rfl dX5_addValve_69 ?_
          refine g_iload_n K 1 dX5_addValve_72 rfl ?_
          refine g_iload_n K 2 dX5_addValve_73 rfl ?_
          refine g_callVd (q := 1) (ci := 2) (As := [.int (nI (p)), .int (nI (e))]) (rest := []) (C := RX2) (T := TX2) (N := 12) K (cX2_putValve_k (g_z X) S p e (by omega) (by omega)) (cwV 2 K.1.2.2.2.2 gX5_addValve_X2_putValve rfl rfl rfl (by decide +kernel) ⟨Nat.le_trans (Nat.le_of_ble_eq_true rfl) hRf, Nat.le_trans (Nat.le_of_ble_eq_true rfl) hRl⟩) rfl rfl rfl rfl (Nat.le_of_ble_eq_true rfl) dX5_addValve_74 ?_
          exfalso; omega
        · exfalso; omega
      · exfalso; omega
    · exact hthr 14 _ _ 65 86 69 "the end is neither 0 nor 1" thK2 (by decide +kernel) (by decide +kernel) (by decide +kernel) (by decide +kernel) (Nat.le_of_ble_eq_true rfl) dX5_addValve_14 dX5_addValve_17 dX5_addValve_18 dX5_addValve_20 dX5_addValve_23

set_option maxHeartbeats 4000000 in
set_option maxRecDepth 100000 in
theorem xX5_addValve_x3 (Z : gZ) (S : Nat → Nat → Nat) (p e : Nat) (hl0 : (gz_l Z).stackTraces = false) (hw : wfC S) (hup : p < 4294967296) (hue : e < 4294967296) (hp : p < S 1 1) (he : e < 2) (hv : S 5 (2 * p + e) ≠ 0 ∨ 12 ≤ S 1 2) : gMx Z yX5_addValve wsX5_addValve { frames := 6, cells := 1, slots := 6, locals := 90 } [.ref (gz_ad Z 0), .int (nI (p)), .int (nI (e))] S (S) ISE := by
  refine gMx_of (cc := cX5_addValve) (maxL := 3) (ret := (some .int)) hl0 (by decide +kernel) rfl rfl (Nat.le_of_ble_eq_true rfl) rfl rfl (Nat.le_of_ble_eq_true rfl) (Nat.le_of_ble_eq_true rfl) (fun X hZ hR K hTX hce hsl hthr hprop => ?_)
  subst hZ
  have K : gOk X cX5_addValve 3 wsX5_addValve RX5 := K
  have hRf : 6 ≤ (g_R X).frames := gR_f hR rfl
  have hRl : 90 ≤ (g_R X).locals := gR_l hR rfl
  have hin5 : ∀ w ∈ u_ws RX5 TX5 5, w ∈ wsX5_addValve := by decide +kernel
  obtain ⟨w0, w1, w2, w3, wsh, wst, a2, a3, a4, a5, a6, a7⟩ := id hw
  show gG X 0 [(0, .ref (g_ad X 0)), (1, .int (nI (p))), (2, .int (nI (e)))] [] S
  refine g_aload_n K 0 dX5_addValve_0 rfl ?_
  refine g_iload_n K 1 dX5_addValve_1 rfl ?_
  refine g_callVv (q := 0) (ci := 5) (As := [.int (nI (p))]) (rest := []) (C := RX5) (T := TX5) (N := 5) K (cX5_requirePipe_k (g_z X) S p (hw) (by omega)) (cwV 1 K.1.2.2.2.2 gX5_addValve_X5_requirePipe rfl rfl rfl (by decide +kernel) ⟨Nat.le_trans (Nat.le_of_ble_eq_true rfl) hRf, Nat.le_trans (Nat.le_of_ble_eq_true rfl) hRl⟩) rfl rfl rfl rfl (Nat.le_of_ble_eq_true rfl) dX5_addValve_2 ?_
  refine g_iload_n K 2 dX5_addValve_5 rfl ?_
  refine g_if_lt (tgt := 14) (a := e) K dX5_addValve_6 (by decide) (by omega) (fun h6_1 => ?_) (fun h6_1 => ?_)
  · exfalso; omega
  · refine g_iload_n K 2 dX5_addValve_9 rfl ?_
    refine g_iconst K 2 dX5_addValve_10 (by decide +kernel) ?_
    refine g_icmp_lt (tgt := 24) (a := e) (b := 2) K dX5_addValve_11 (by decide) (by omega) (by omega) (fun h11_2 => ?_) (fun h11_2 => ?_)
    · refine g_aload_n K 0 dX5_addValve_24 rfl ?_
      refine g_getR (q' := 1) (q := 0) (ci := 5) (k := 0) (N := 5) (C := RX5) (T := TX5) (ref := "ValveWalk") K rfl rfl rfl (by decide) hin5 (by decide +kernel) rfl dX5_addValve_25 ?_
      refine g_iload_n K 1 dX5_addValve_28 rfl ?_
      refine g_iload_n K 2 dX5_addValve_29 rfl ?_
      refine g_callVd (q := 1) (ci := 2) (As := [.int (nI (p)), .int (nI (e))]) (rest := []) (C := RX2) (T := TX2) (N := 12) K (cX2_valveBitAt_k (g_z X) S p e (by omega)) (cwV 2 K.1.2.2.2.2 gX5_addValve_X2_valveBitAt rfl rfl rfl (by decide +kernel) ⟨Nat.le_trans (Nat.le_of_ble_eq_true rfl) hRf, Nat.le_trans (Nat.le_of_ble_eq_true rfl) hRl⟩) rfl rfl rfl rfl (Nat.le_of_ble_eq_true rfl) dX5_addValve_30 ?_
      have h33 := a5 (2 * p + e)
      refine g_if_eq (tgt := 46) (a := S 5 (2 * p + e)) K dX5_addValve_33 (by decide) (by omega) (fun h33_3 => ?_) (fun h33_3 => ?_)
      · refine g_aload_n K 0 dX5_addValve_46 rfl ?_
        refine g_getR (q' := 1) (q := 0) (ci := 5) (k := 0) (N := 5) (C := RX5) (T := TX5) (ref := "ValveWalk") K rfl rfl rfl (by decide) hin5 (by decide +kernel) rfl dX5_addValve_47 ?_
        refine g_callVd (q := 1) (ci := 2) (As := []) (rest := []) (C := RX2) (T := TX2) (N := 12) K (cX2_valveCount_k (g_z X) S) (cwV 0 K.1.2.2.2.2 gX5_addValve_X2_valveCount rfl rfl rfl (by decide +kernel) ⟨Nat.le_trans (Nat.le_of_ble_eq_true rfl) hRf, Nat.le_trans (Nat.le_of_ble_eq_true rfl) hRl⟩) rfl rfl rfl rfl (Nat.le_of_ble_eq_true rfl) dX5_addValve_50 ?_
        refine g_bipush K 12 dX5_addValve_53 (by decide +kernel) ?_
        refine g_icmp_lt (tgt := 68) (a := S 1 2) (b := 12) K dX5_addValve_55 (by decide) (by omega) (by omega) (fun h55_4 => ?_) (fun h55_4 => ?_)
        · refine g_aload_n K 0 dX5_addValve_68 rfl ?_
          refine g_getR (q' := 1) (q := 0) (ci := 5) (k := 0) (N := 5) (C := RX5) (T := TX5) (ref := "ValveWalk") K rfl rfl rfl (by decide) hin5 (by decide +kernel) rfl dX5_addValve_69 ?_
          refine g_iload_n K 1 dX5_addValve_72 rfl ?_
          refine g_iload_n K 2 dX5_addValve_73 rfl ?_
          refine g_callVd (q := 1) (ci := 2) (As := [.int (nI (p)), .int (nI (e))]) (rest := []) (C := RX2) (T := TX2) (N := 12) K (cX2_putValve_k (g_z X) S p e (by omega) (by omega)) (cwV 2 K.1.2.2.2.2 gX5_addValve_X2_putValve rfl rfl rfl (by decide +kernel) ⟨Nat.le_trans (Nat.le_of_ble_eq_true rfl) hRf, Nat.le_trans (Nat.le_of_ble_eq_true rfl) hRl⟩) rfl rfl rfl rfl (Nat.le_of_ble_eq_true rfl) dX5_addValve_74 ?_
          exfalso; omega
        · exact hthr 58 _ _ 50 97 54 "there are 12 valves" thK1 (by decide +kernel) (by decide +kernel) (by decide +kernel) (by decide +kernel) (Nat.le_of_ble_eq_true rfl) dX5_addValve_58 dX5_addValve_61 dX5_addValve_62 dX5_addValve_64 dX5_addValve_67
      · exact hthr 36 _ _ 50 92 54 "there is a valve" thK1 (by decide +kernel) (by decide +kernel) (by decide +kernel) (by decide +kernel) (Nat.le_of_ble_eq_true rfl) dX5_addValve_36 dX5_addValve_39 dX5_addValve_40 dX5_addValve_42 dX5_addValve_45
    · exfalso; omega

