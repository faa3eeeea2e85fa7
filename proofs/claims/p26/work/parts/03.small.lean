/-! SMALL METHODS OF THE CLASS: bits, parts, Network -/
def gbit (a b : Nat) : Nat := if (a >>> b) &&& 1 = 0 then 0 else 1
theorem gbit_le (a b : Nat) : gbit a b ≤ 1 := by unfold gbit; split <;> omega
def gwith (s k b : Nat) : Nat := if b = 0 then s &&& ((1 <<< k) ^^^ 4294967295) else s ||| (1 <<< k)
theorem and1_lt (a : Nat) : a &&& 1 < 4294967296 := Nat.lt_of_le_of_lt Nat.and_le_right (by decide)
def wfC (S : Nat → Nat → Nat) : Prop := S 1 0 ≤ 12 ∧ S 1 1 ≤ 16 ∧ S 1 2 ≤ 12 ∧ S 1 3 < 4096 ∧ S 1 4 < 4096 ∧ S 1 5 < 4096 ∧ (∀ j, S 2 j ≤ 99) ∧ (∀ j, S 3 j ≤ 99) ∧ (∀ j, S 4 j < 12) ∧ (∀ j, S 5 j < 4096) ∧ (∀ j, S 6 j < 268435456) ∧ (∀ j, S 7 j < 32)
theorem wfC_of {S S' : Nat → Nat → Nat} (h : wfC S) (e1 : S' 1 = S 1) (e2 : S' 2 = S 2) (e3 : S' 3 = S 3) (e4 : S' 4 = S 4) (e5 : S' 5 = S 5) (e6 : S' 6 = S 6) (e7 : S' 7 = S 7) : wfC S' := by
  unfold wfC at h ⊢
  rw [e1, e2, e3, e4, e5, e6, e7]
  exact h
theorem wfC_up {S : Nat → Nat → Nat} (h : wfC S) {q : Nat} (hq : 7 < q) (d : Nat → Nat) : wfC (va_up S q d) :=
  wfC_of h (va_up_ne _ _ (by omega)) (va_up_ne _ _ (by omega)) (va_up_ne _ _ (by omega)) (va_up_ne _ _ (by omega)) (va_up_ne _ _ (by omega)) (va_up_ne _ _ (by omega)) (va_up_ne _ _ (by omega))
theorem or28 {a b : Nat} (ha : a < 268435456) (hb : b < 268435456) : a ||| b < 268435456 := Nat.or_lt_two_pow (n := 28) ha hb
theorem or12 {a b : Nat} (ha : a < 4096) (hb : b < 4096) : a ||| b < 4096 := Nat.or_lt_two_pow (n := 12) ha hb
theorem and28 {a b : Nat} (ha : a < 268435456) : a &&& b < 268435456 := Nat.lt_of_le_of_lt Nat.and_le_left ha
theorem and12 {a b : Nat} (ha : a < 4096) : a &&& b < 4096 := Nat.lt_of_le_of_lt Nat.and_le_left ha
theorem shl1 {a n : Nat} (h : a < n) : 1 <<< a < 2 ^ n := by rw [Nat.one_shiftLeft]; exact Nat.pow_lt_pow_right (by omega) h
theorem shl1_le {a n : Nat} (h : a ≤ n) : 1 <<< a ≤ 2 ^ n := by rw [Nat.one_shiftLeft]; exact Nat.pow_le_pow_right (by omega) h
set_option maxHeartbeats 4000000 in
set_option maxRecDepth 100000 in
theorem cX5_partOfPipe_k (Z : gZ) (S : Nat → Nat → Nat) (a : Nat) : gMd Z yX5_partOfPipe wsX5_partOfPipe { frames := 0, cells := 0, slots := 0, locals := 0 } [.int (nI (a))] S (12 + a) (S) := by
  refine gMd_of (cc := cX5_partOfPipe) (maxL := 1) (ret := (some .int)) (by decide +kernel) rfl (Nat.le_of_ble_eq_true rfl) (Or.inl rfl) (fun X hZ hR K hret => ?_)
  subst hZ
  have K : gOk X cX5_partOfPipe 1 wsX5_partOfPipe RX5 := K
  have hRf : 0 ≤ (g_R X).frames := gR_f hR rfl
  have hRl : 0 ≤ (g_R X).locals := gR_l hR rfl
  show gG X 0 [(0, .int (nI (a)))] [] S
  refine g_bipush K 12 dX5_partOfPipe_0 (by decide +kernel) ?_
  refine g_iload_n K 0 dX5_partOfPipe_2 rfl ?_
  refine g_iadd (a := 12) (b := a) K dX5_partOfPipe_3 ?_
  exact g_retd hret dX5_partOfPipe_4 rfl rfl

set_option maxHeartbeats 4000000 in
set_option maxRecDepth 100000 in
theorem cX5_hasBit_k (Z : gZ) (S : Nat → Nat → Nat) (a b : Nat) (ha : a < 2147483648) (hb : b < 32) : gMd Z yX5_hasBit wsX5_hasBit { frames := 0, cells := 0, slots := 0, locals := 0 } [.int (nI (a)), .int (nI (b))] S (gbit a b) (S) := by
  refine gMd_of (cc := cX5_hasBit) (maxL := 2) (ret := (some .boolean)) (by decide +kernel) rfl (Nat.le_of_ble_eq_true rfl) (Or.inr ⟨rfl, gbit_le _ _⟩) (fun X hZ hR K hret => ?_)
  subst hZ
  have K : gOk X cX5_hasBit 2 wsX5_hasBit RX5 := K
  have hRf : 0 ≤ (g_R X).frames := gR_f hR rfl
  have hRl : 0 ≤ (g_R X).locals := gR_l hR rfl
  show gG X 0 [(0, .int (nI (a))), (1, .int (nI (b)))] [] S
  refine g_iload_n K 0 dX5_hasBit_0 rfl ?_
  refine g_iload_n K 1 dX5_hasBit_1 rfl ?_
  refine g_ishr (a := a) (b := b) K (by omega) (by omega) dX5_hasBit_2 ?_
  refine g_iconst K 1 dX5_hasBit_3 (by decide +kernel) ?_
  refine g_iand (a := (a) >>> (b)) (b := 1) K dX5_hasBit_4 ?_
  have hL4_1 := @Nat.and_le_left ((a) >>> (b)) (1)
  have hR4_2 := @Nat.and_le_right ((a) >>> (b)) (1)
  refine g_if_eq (tgt := 12) (a := ((a) >>> (b)) &&& (1)) K dX5_hasBit_5 (by decide) (by omega) (fun h5_3 => ?_) (fun h5_3 => ?_)
  · refine g_iconst K 0 dX5_hasBit_12 (by decide +kernel) ?_
    exact g_retd hret dX5_hasBit_13 (if_pos (by assumption)).symm rfl
  · refine g_iconst K 1 dX5_hasBit_8 (by decide +kernel) ?_
    refine g_goto (tgt := 13) K dX5_hasBit_9 (by decide) ?_
    exact g_retd hret dX5_hasBit_13 (if_neg (by assumption)).symm rfl

set_option maxHeartbeats 4000000 in
set_option maxRecDepth 100000 in
theorem cX5_withBit_k (Z : gZ) (S : Nat → Nat → Nat) (a b i : Nat) (hb : b < 32) (hi : i < 4294967296) : gMd Z yX5_withBit wsX5_withBit { frames := 0, cells := 0, slots := 0, locals := 0 } [.int (nI (a)), .int (nI (b)), .int (nI (i))] S (gwith a b i) (S) := by
  refine gMd_of (cc := cX5_withBit) (maxL := 3) (ret := (some .int)) (by decide +kernel) rfl (Nat.le_of_ble_eq_true rfl) (Or.inl rfl) (fun X hZ hR K hret => ?_)
  subst hZ
  have K : gOk X cX5_withBit 3 wsX5_withBit RX5 := K
  have hRf : 0 ≤ (g_R X).frames := gR_f hR rfl
  have hRl : 0 ≤ (g_R X).locals := gR_l hR rfl
  show gG X 0 [(0, .int (nI (a))), (1, .int (nI (b))), (2, .int (nI (i)))] [] S
  refine g_iload_n K 2 dX5_withBit_0 rfl ?_
  refine g_if_eq (tgt := 12) (a := i) K dX5_withBit_1 (by decide) (by omega) (fun h1_1 => ?_) (fun h1_1 => ?_)
  · refine g_iload_n K 0 dX5_withBit_12 rfl ?_
    refine g_iconst K 1 dX5_withBit_13 (by decide +kernel) ?_
    refine g_iload_n K 1 dX5_withBit_14 rfl ?_
    refine g_ishl (a := 1) (b := b) K (by omega) dX5_withBit_15 ?_
    refine g_iconst K 4294967295 dX5_withBit_16 (by decide +kernel) ?_
    refine g_ixor (a := (1) <<< (b)) (b := 4294967295) K dX5_withBit_17 ?_
    refine g_iand (a := a) (b := ((1) <<< (b)) ^^^ (4294967295)) K dX5_withBit_18 ?_
    have hL18_2 := @Nat.and_le_left (a) (((1) <<< (b)) ^^^ (4294967295))
    have hR18_3 := @Nat.and_le_right (a) (((1) <<< (b)) ^^^ (4294967295))
    exact g_retd hret dX5_withBit_19 (by simp [gwith, *]) rfl
  · refine g_iload_n K 0 dX5_withBit_4 rfl ?_
    refine g_iconst K 1 dX5_withBit_5 (by decide +kernel) ?_
    refine g_iload_n K 1 dX5_withBit_6 rfl ?_
    refine g_ishl (a := 1) (b := b) K (by omega) dX5_withBit_7 ?_
    refine g_ior (a := a) (b := (1) <<< (b)) K dX5_withBit_8 ?_
    refine g_goto (tgt := 19) K dX5_withBit_9 (by decide) ?_
    exact g_retd hret dX5_withBit_19 (by simp [gwith, *]) rfl

set_option maxHeartbeats 4000000 in
set_option maxRecDepth 100000 in
theorem cX2_nodeCount_k (Z : gZ) (S : Nat → Nat → Nat) : gMd Z yX2_nodeCount wsX2_nodeCount { frames := 0, cells := 0, slots := 0, locals := 0 } [.ref (gz_ad Z 1)] S (S 1 0) (S) := by
  refine gMd_of (cc := cX2_nodeCount) (maxL := 1) (ret := (some .int)) (by decide +kernel) rfl (Nat.le_of_ble_eq_true rfl) (Or.inl rfl) (fun X hZ hR K hret => ?_)
  subst hZ
  have K : gOk X cX2_nodeCount 1 wsX2_nodeCount RX2 := K
  have hRf : 0 ≤ (g_R X).frames := gR_f hR rfl
  have hRl : 0 ≤ (g_R X).locals := gR_l hR rfl
  have hin2 : ∀ w ∈ u_ws RX2 TX2 12, w ∈ wsX2_nodeCount := by decide +kernel
  show gG X 0 [(0, .ref (g_ad X 1))] [] S
  refine g_aload_n K 0 dX2_nodeCount_0 rfl ?_
  refine g_getI (q := 1) (ci := 2) (k := 0) (N := 12) (C := RX2) (T := TX2) (ref := "ValveWalk$Network") K rfl rfl rfl (by decide) hin2 (by decide +kernel) rfl dX2_nodeCount_1 ?_
  exact g_retd hret dX2_nodeCount_4 rfl rfl

set_option maxHeartbeats 4000000 in
set_option maxRecDepth 100000 in
theorem cX2_pipeCount_k (Z : gZ) (S : Nat → Nat → Nat) : gMd Z yX2_pipeCount wsX2_pipeCount { frames := 0, cells := 0, slots := 0, locals := 0 } [.ref (gz_ad Z 1)] S (S 1 1) (S) := by
  refine gMd_of (cc := cX2_pipeCount) (maxL := 1) (ret := (some .int)) (by decide +kernel) rfl (Nat.le_of_ble_eq_true rfl) (Or.inl rfl) (fun X hZ hR K hret => ?_)
  subst hZ
  have K : gOk X cX2_pipeCount 1 wsX2_pipeCount RX2 := K
  have hRf : 0 ≤ (g_R X).frames := gR_f hR rfl
  have hRl : 0 ≤ (g_R X).locals := gR_l hR rfl
  have hin2 : ∀ w ∈ u_ws RX2 TX2 12, w ∈ wsX2_pipeCount := by decide +kernel
  show gG X 0 [(0, .ref (g_ad X 1))] [] S
  refine g_aload_n K 0 dX2_pipeCount_0 rfl ?_
  refine g_getI (q := 1) (ci := 2) (k := 1) (N := 12) (C := RX2) (T := TX2) (ref := "ValveWalk$Network") K rfl rfl rfl (by decide) hin2 (by decide +kernel) rfl dX2_pipeCount_1 ?_
  exact g_retd hret dX2_pipeCount_4 rfl rfl

set_option maxHeartbeats 4000000 in
set_option maxRecDepth 100000 in
theorem cX2_valveCount_k (Z : gZ) (S : Nat → Nat → Nat) : gMd Z yX2_valveCount wsX2_valveCount { frames := 0, cells := 0, slots := 0, locals := 0 } [.ref (gz_ad Z 1)] S (S 1 2) (S) := by
  refine gMd_of (cc := cX2_valveCount) (maxL := 1) (ret := (some .int)) (by decide +kernel) rfl (Nat.le_of_ble_eq_true rfl) (Or.inl rfl) (fun X hZ hR K hret => ?_)
  subst hZ
  have K : gOk X cX2_valveCount 1 wsX2_valveCount RX2 := K
  have hRf : 0 ≤ (g_R X).frames := gR_f hR rfl
  have hRl : 0 ≤ (g_R X).locals := gR_l hR rfl
  have hin2 : ∀ w ∈ u_ws RX2 TX2 12, w ∈ wsX2_valveCount := by decide +kernel
  show gG X 0 [(0, .ref (g_ad X 1))] [] S
  refine g_aload_n K 0 dX2_valveCount_0 rfl ?_
  refine g_getI (q := 1) (ci := 2) (k := 2) (N := 12) (C := RX2) (T := TX2) (ref := "ValveWalk$Network") K rfl rfl rfl (by decide) hin2 (by decide +kernel) rfl dX2_valveCount_1 ?_
  exact g_retd hret dX2_valveCount_4 rfl rfl

set_option maxHeartbeats 4000000 in
set_option maxRecDepth 100000 in
theorem cX2_sources_k (Z : gZ) (S : Nat → Nat → Nat) : gMd Z yX2_sources wsX2_sources { frames := 0, cells := 0, slots := 0, locals := 0 } [.ref (gz_ad Z 1)] S (S 1 3) (S) := by
  refine gMd_of (cc := cX2_sources) (maxL := 1) (ret := (some .int)) (by decide +kernel) rfl (Nat.le_of_ble_eq_true rfl) (Or.inl rfl) (fun X hZ hR K hret => ?_)
  subst hZ
  have K : gOk X cX2_sources 1 wsX2_sources RX2 := K
  have hRf : 0 ≤ (g_R X).frames := gR_f hR rfl
  have hRl : 0 ≤ (g_R X).locals := gR_l hR rfl
  have hin2 : ∀ w ∈ u_ws RX2 TX2 12, w ∈ wsX2_sources := by decide +kernel
  show gG X 0 [(0, .ref (g_ad X 1))] [] S
  refine g_aload_n K 0 dX2_sources_0 rfl ?_
  refine g_getI (q := 1) (ci := 2) (k := 3) (N := 12) (C := RX2) (T := TX2) (ref := "ValveWalk$Network") K rfl rfl rfl (by decide) hin2 (by decide +kernel) rfl dX2_sources_1 ?_
  exact g_retd hret dX2_sources_4 rfl rfl

set_option maxHeartbeats 4000000 in
set_option maxRecDepth 100000 in
theorem cX2_isStuck_k (Z : gZ) (S : Nat → Nat → Nat) (v : Nat) (hw : wfC S) (hv : v < 32) : gMd Z yX2_isStuck wsX2_isStuck { frames := 1, cells := 0, slots := 0, locals := 21 } [.ref (gz_ad Z 1), .int (nI (v))] S (gbit (S 1 5) v) (S) := by
  refine gMd_of (cc := cX2_isStuck) (maxL := 2) (ret := (some .boolean)) (by decide +kernel) rfl (Nat.le_of_ble_eq_true rfl) (Or.inr ⟨rfl, gbit_le _ _⟩) (fun X hZ hR K hret => ?_)
  subst hZ
  have K : gOk X cX2_isStuck 2 wsX2_isStuck RX2 := K
  have hRf : 1 ≤ (g_R X).frames := gR_f hR rfl
  have hRl : 21 ≤ (g_R X).locals := gR_l hR rfl
  have hin2 : ∀ w ∈ u_ws RX2 TX2 12, w ∈ wsX2_isStuck := by decide +kernel
  obtain ⟨w0, w1, w2, w3, wsh, wst, a2, a3, a4, a5, a6, a7⟩ := id hw
  show gG X 0 [(0, .ref (g_ad X 1)), (1, .int (nI (v)))] [] S
  refine g_aload_n K 0 dX2_isStuck_0 rfl ?_
  refine g_getI (q := 1) (ci := 2) (k := 5) (N := 12) (C := RX2) (T := TX2) (ref := "ValveWalk$Network") K rfl rfl rfl (by decide) hin2 (by decide +kernel) rfl dX2_isStuck_1 ?_
  refine g_iload_n K 1 dX2_isStuck_4 rfl ?_
  refine g_callNd (As := [.int (nI (S 1 5)), .int (nI (v))]) (rest := []) (host := "ValveWalk") K (cX5_hasBit_k (g_z X) S (S 1 5) v (by omega) (by omega)) ⟨va_cnB 2 K.1.2.2.2.2 gX2_isStuck_X5_hasBit_n55 rfl rfl rfl (K.2.2.2.1 _ (List.mem_of_getElem? (i := 5) rfl)) (K.1.2.2.2.2 _ (by decide +kernel)) (by decide +kernel) ⟨Nat.le_trans (Nat.le_of_ble_eq_true rfl) hRf, Nat.le_trans (Nat.le_of_ble_eq_true rfl) hRl⟩, K.1.2.2.2.2 _ (by decide +kernel), trivial⟩ rfl rfl (Nat.le_of_ble_eq_true rfl) dX2_isStuck_5 ?_
  have hf5_1 := gbit_le (S 1 5) v
  exact g_retd hret dX2_isStuck_8 rfl rfl

set_option maxHeartbeats 4000000 in
set_option maxRecDepth 100000 in
theorem cX2_lengthOf_k (Z : gZ) (S : Nat → Nat → Nat) (p : Nat) (hp : p < 16) : gMd Z yX2_lengthOf wsX2_lengthOf { frames := 0, cells := 0, slots := 0, locals := 0 } [.ref (gz_ad Z 1), .int (nI (p))] S (S 2 p) (S) := by
  refine gMd_of (cc := cX2_lengthOf) (maxL := 2) (ret := (some .int)) (by decide +kernel) rfl (Nat.le_of_ble_eq_true rfl) (Or.inl rfl) (fun X hZ hR K hret => ?_)
  subst hZ
  have K : gOk X cX2_lengthOf 2 wsX2_lengthOf RX2 := K
  have hRf : 0 ≤ (g_R X).frames := gR_f hR rfl
  have hRl : 0 ≤ (g_R X).locals := gR_l hR rfl
  have hin2 : ∀ w ∈ u_ws RX2 TX2 12, w ∈ wsX2_lengthOf := by decide +kernel
  show gG X 0 [(0, .ref (g_ad X 1)), (1, .int (nI (p)))] [] S
  refine g_aload_n K 0 dX2_lengthOf_0 rfl ?_
  refine g_getR (q' := 2) (q := 1) (ci := 2) (k := 6) (N := 12) (C := RX2) (T := TX2) (ref := "ValveWalk$Network") K rfl rfl rfl (by decide) hin2 (by decide +kernel) rfl dX2_lengthOf_1 ?_
  refine g_iload_n K 1 dX2_lengthOf_4 rfl ?_
  refine g_ald (q := 2) (n := 16) (i := p) K rfl (by decide) (by omega) dX2_lengthOf_5 ?_
  exact g_retd hret dX2_lengthOf_6 rfl rfl

set_option maxHeartbeats 4000000 in
set_option maxRecDepth 100000 in
theorem cX2_nodeAt_k (Z : gZ) (S : Nat → Nat → Nat) (p e : Nat) (hp : 2 * p + e < 32) : gMd Z yX2_nodeAt wsX2_nodeAt { frames := 0, cells := 0, slots := 0, locals := 0 } [.ref (gz_ad Z 1), .int (nI (p)), .int (nI (e))] S (S 4 (2 * p + e)) (S) := by
  refine gMd_of (cc := cX2_nodeAt) (maxL := 3) (ret := (some .int)) (by decide +kernel) rfl (Nat.le_of_ble_eq_true rfl) (Or.inl rfl) (fun X hZ hR K hret => ?_)
  subst hZ
  have K : gOk X cX2_nodeAt 3 wsX2_nodeAt RX2 := K
  have hRf : 0 ≤ (g_R X).frames := gR_f hR rfl
  have hRl : 0 ≤ (g_R X).locals := gR_l hR rfl
  have hin2 : ∀ w ∈ u_ws RX2 TX2 12, w ∈ wsX2_nodeAt := by decide +kernel
  show gG X 0 [(0, .ref (g_ad X 1)), (1, .int (nI (p))), (2, .int (nI (e)))] [] S
  refine g_aload_n K 0 dX2_nodeAt_0 rfl ?_
  refine g_getR (q' := 4) (q := 1) (ci := 2) (k := 8) (N := 12) (C := RX2) (T := TX2) (ref := "ValveWalk$Network") K rfl rfl rfl (by decide) hin2 (by decide +kernel) rfl dX2_nodeAt_1 ?_
  refine g_iconst K 2 dX2_nodeAt_4 (by decide +kernel) ?_
  refine g_iload_n K 1 dX2_nodeAt_5 rfl ?_
  refine g_imul (a := 2) (b := p) K dX2_nodeAt_6 ?_
  refine g_iload_n K 2 dX2_nodeAt_7 rfl ?_
  refine g_iadd (a := (2) * (p)) (b := e) K dX2_nodeAt_8 ?_
  refine g_ald (q := 4) (n := 32) (i := ((2) * (p)) + (e)) K rfl (by decide) (by omega) dX2_nodeAt_9 ?_
  exact g_retd hret dX2_nodeAt_10 rfl rfl

set_option maxHeartbeats 4000000 in
set_option maxRecDepth 100000 in
theorem cX2_valveBitAt_k (Z : gZ) (S : Nat → Nat → Nat) (p e : Nat) (hp : 2 * p + e < 32) : gMd Z yX2_valveBitAt wsX2_valveBitAt { frames := 0, cells := 0, slots := 0, locals := 0 } [.ref (gz_ad Z 1), .int (nI (p)), .int (nI (e))] S (S 5 (2 * p + e)) (S) := by
  refine gMd_of (cc := cX2_valveBitAt) (maxL := 3) (ret := (some .int)) (by decide +kernel) rfl (Nat.le_of_ble_eq_true rfl) (Or.inl rfl) (fun X hZ hR K hret => ?_)
  subst hZ
  have K : gOk X cX2_valveBitAt 3 wsX2_valveBitAt RX2 := K
  have hRf : 0 ≤ (g_R X).frames := gR_f hR rfl
  have hRl : 0 ≤ (g_R X).locals := gR_l hR rfl
  have hin2 : ∀ w ∈ u_ws RX2 TX2 12, w ∈ wsX2_valveBitAt := by decide +kernel
  show gG X 0 [(0, .ref (g_ad X 1)), (1, .int (nI (p))), (2, .int (nI (e)))] [] S
  refine g_aload_n K 0 dX2_valveBitAt_0 rfl ?_
  refine g_getR (q' := 5) (q := 1) (ci := 2) (k := 9) (N := 12) (C := RX2) (T := TX2) (ref := "ValveWalk$Network") K rfl rfl rfl (by decide) hin2 (by decide +kernel) rfl dX2_valveBitAt_1 ?_
  refine g_iconst K 2 dX2_valveBitAt_4 (by decide +kernel) ?_
  refine g_iload_n K 1 dX2_valveBitAt_5 rfl ?_
  refine g_imul (a := 2) (b := p) K dX2_valveBitAt_6 ?_
  refine g_iload_n K 2 dX2_valveBitAt_7 rfl ?_
  refine g_iadd (a := (2) * (p)) (b := e) K dX2_valveBitAt_8 ?_
  refine g_ald (q := 5) (n := 32) (i := ((2) * (p)) + (e)) K rfl (by decide) (by omega) dX2_valveBitAt_9 ?_
  exact g_retd hret dX2_valveBitAt_10 rfl rfl

def shutAt (S : Nat → Nat → Nat) (p e : Nat) : Nat := if S 5 (2 * p + e) &&& S 1 4 = 0 then 0 else 1
theorem shutAt_up {S : Nat → Nat → Nat} {q : Nat} {d : Nat → Nat} (h : 7 < q) (p e : Nat) : shutAt (va_up S q d) p e = shutAt S p e := by
  simp only [shutAt, va_up_ne (f := S) d (show 1 ≠ q by omega), va_up_ne (f := S) d (show 5 ≠ q by omega)]
theorem shutAt_le (S : Nat → Nat → Nat) (p e : Nat) : shutAt S p e ≤ 1 := by unfold shutAt; split <;> omega
set_option maxHeartbeats 4000000 in
set_option maxRecDepth 100000 in
theorem cX2_isShutAt_k (Z : gZ) (S : Nat → Nat → Nat) (p e : Nat) (hw : wfC S) (hp : 2 * p + e < 32) : gMd Z yX2_isShutAt wsX2_isShutAt { frames := 1, cells := 0, slots := 0, locals := 22 } [.ref (gz_ad Z 1), .int (nI (p)), .int (nI (e))] S (shutAt S p e) (S) := by
  refine gMd_of (cc := cX2_isShutAt) (maxL := 3) (ret := (some .boolean)) (by decide +kernel) rfl (Nat.le_of_ble_eq_true rfl) (Or.inr ⟨rfl, shutAt_le _ _ _⟩) (fun X hZ hR K hret => ?_)
  subst hZ
  have K : gOk X cX2_isShutAt 3 wsX2_isShutAt RX2 := K
  have hRf : 1 ≤ (g_R X).frames := gR_f hR rfl
  have hRl : 22 ≤ (g_R X).locals := gR_l hR rfl
  have hin2 : ∀ w ∈ u_ws RX2 TX2 12, w ∈ wsX2_isShutAt := by decide +kernel
  obtain ⟨w0, w1, w2, w3, wsh, wst, a2, a3, a4, a5, a6, a7⟩ := id hw
  show gG X 0 [(0, .ref (g_ad X 1)), (1, .int (nI (p))), (2, .int (nI (e)))] [] S
  refine g_aload_n K 0 dX2_isShutAt_0 rfl ?_
  refine g_iload_n K 1 dX2_isShutAt_1 rfl ?_
  refine g_iload_n K 2 dX2_isShutAt_2 rfl ?_
  refine g_callVd (q := 1) (ci := 2) (As := [.int (nI (p)), .int (nI (e))]) (rest := []) (C := RX2) (T := TX2) (N := 12) K (cX2_valveBitAt_k (g_z X) S p e (by omega)) (cwV 2 K.1.2.2.2.2 gX2_isShutAt_X2_valveBitAt rfl rfl rfl (by decide +kernel) ⟨Nat.le_trans (Nat.le_of_ble_eq_true rfl) hRf, Nat.le_trans (Nat.le_of_ble_eq_true rfl) hRl⟩) rfl rfl rfl rfl (Nat.le_of_ble_eq_true rfl) dX2_isShutAt_3 ?_
  refine g_aload_n K 0 dX2_isShutAt_6 rfl ?_
  refine g_getI (q := 1) (ci := 2) (k := 4) (N := 12) (C := RX2) (T := TX2) (ref := "ValveWalk$Network") K rfl rfl rfl (by decide) hin2 (by decide +kernel) rfl dX2_isShutAt_7 ?_
  refine g_iand (a := S 5 (2 * p + e)) (b := S 1 4) K dX2_isShutAt_10 ?_
  have hL10_1 := @Nat.and_le_left (S 5 (2 * p + e)) (S 1 4)
  have hR10_2 := @Nat.and_le_right (S 5 (2 * p + e)) (S 1 4)
  refine g_if_eq (tgt := 18) (a := (S 5 (2 * p + e)) &&& (S 1 4)) K dX2_isShutAt_11 (by decide) (by omega) (fun h11_3 => ?_) (fun h11_3 => ?_)
  · refine g_iconst K 0 dX2_isShutAt_18 (by decide +kernel) ?_
    exact g_retd hret dX2_isShutAt_19 (if_pos (by assumption)).symm rfl
  · refine g_iconst K 1 dX2_isShutAt_14 (by decide +kernel) ?_
    refine g_goto (tgt := 19) K dX2_isShutAt_15 (by decide) ?_
    exact g_retd hret dX2_isShutAt_19 (if_neg (by assumption)).symm rfl

set_option maxHeartbeats 4000000 in
set_option maxRecDepth 100000 in
theorem cX2_pipeOfValve_k (Z : gZ) (S : Nat → Nat → Nat) (v : Nat) (hw : wfC S) (hv : v < 12) : gMd Z yX2_pipeOfValve wsX2_pipeOfValve { frames := 0, cells := 0, slots := 0, locals := 0 } [.ref (gz_ad Z 1), .int (nI (v))] S (S 7 v / 2) (S) := by
  refine gMd_of (cc := cX2_pipeOfValve) (maxL := 2) (ret := (some .int)) (by decide +kernel) rfl (Nat.le_of_ble_eq_true rfl) (Or.inl rfl) (fun X hZ hR K hret => ?_)
  subst hZ
  have K : gOk X cX2_pipeOfValve 2 wsX2_pipeOfValve RX2 := K
  have hRf : 0 ≤ (g_R X).frames := gR_f hR rfl
  have hRl : 0 ≤ (g_R X).locals := gR_l hR rfl
  have hin2 : ∀ w ∈ u_ws RX2 TX2 12, w ∈ wsX2_pipeOfValve := by decide +kernel
  obtain ⟨w0, w1, w2, w3, wsh, wst, a2, a3, a4, a5, a6, a7⟩ := id hw
  show gG X 0 [(0, .ref (g_ad X 1)), (1, .int (nI (v)))] [] S
  refine g_aload_n K 0 dX2_pipeOfValve_0 rfl ?_
  refine g_getR (q' := 7) (q := 1) (ci := 2) (k := 11) (N := 12) (C := RX2) (T := TX2) (ref := "ValveWalk$Network") K rfl rfl rfl (by decide) hin2 (by decide +kernel) rfl dX2_pipeOfValve_1 ?_
  refine g_iload_n K 1 dX2_pipeOfValve_4 rfl ?_
  refine g_ald (q := 7) (n := 12) (i := v) K rfl (by decide) (by omega) dX2_pipeOfValve_5 ?_
  have hv5_1 := a7 (v)
  refine g_iconst K 2 dX2_pipeOfValve_6 (by decide +kernel) ?_
  refine g_idiv (a := S 7 (v)) (b := 2) K (by omega) (by omega) (by omega) dX2_pipeOfValve_7 ?_
  exact g_retd hret dX2_pipeOfValve_8 rfl rfl

set_option maxHeartbeats 4000000 in
set_option maxRecDepth 100000 in
theorem cX2_nodeOfValve_k (Z : gZ) (S : Nat → Nat → Nat) (v : Nat) (hw : wfC S) (hv : v < 12) : gMd Z yX2_nodeOfValve wsX2_nodeOfValve { frames := 0, cells := 0, slots := 0, locals := 0 } [.ref (gz_ad Z 1), .int (nI (v))] S (S 4 (S 7 v)) (S) := by
  refine gMd_of (cc := cX2_nodeOfValve) (maxL := 2) (ret := (some .int)) (by decide +kernel) rfl (Nat.le_of_ble_eq_true rfl) (Or.inl rfl) (fun X hZ hR K hret => ?_)
  subst hZ
  have K : gOk X cX2_nodeOfValve 2 wsX2_nodeOfValve RX2 := K
  have hRf : 0 ≤ (g_R X).frames := gR_f hR rfl
  have hRl : 0 ≤ (g_R X).locals := gR_l hR rfl
  have hin2 : ∀ w ∈ u_ws RX2 TX2 12, w ∈ wsX2_nodeOfValve := by decide +kernel
  obtain ⟨w0, w1, w2, w3, wsh, wst, a2, a3, a4, a5, a6, a7⟩ := id hw
  show gG X 0 [(0, .ref (g_ad X 1)), (1, .int (nI (v)))] [] S
  refine g_aload_n K 0 dX2_nodeOfValve_0 rfl ?_
  refine g_getR (q' := 4) (q := 1) (ci := 2) (k := 8) (N := 12) (C := RX2) (T := TX2) (ref := "ValveWalk$Network") K rfl rfl rfl (by decide) hin2 (by decide +kernel) rfl dX2_nodeOfValve_1 ?_
  refine g_aload_n K 0 dX2_nodeOfValve_4 rfl ?_
  refine g_getR (q' := 7) (q := 1) (ci := 2) (k := 11) (N := 12) (C := RX2) (T := TX2) (ref := "ValveWalk$Network") K rfl rfl rfl (by decide) hin2 (by decide +kernel) rfl dX2_nodeOfValve_5 ?_
  refine g_iload_n K 1 dX2_nodeOfValve_8 rfl ?_
  refine g_ald (q := 7) (n := 12) (i := v) K rfl (by decide) (by omega) dX2_nodeOfValve_9 ?_
  have hv9_1 := a7 (v)
  refine g_ald (q := 4) (n := 32) (i := S 7 (v)) K rfl (by decide) (by omega) dX2_nodeOfValve_10 ?_
  have hv10_2 := a4 (S 7 (v))
  exact g_retd hret dX2_nodeOfValve_11 rfl rfl

def closable (S : Nat → Nat → Nat) : Nat := (((1 <<< S 1 2) - 1) &&& (S 1 4 ^^^ 4294967295)) &&& (S 1 5 ^^^ 4294967295)
def bounding (S : Nat → Nat → Nat) : Nat := 4095 &&& ((S 1 5 &&& (S 1 4 ^^^ 4294967295)) ^^^ 4294967295)
theorem bounding_lt (S : Nat → Nat → Nat) : bounding S < 4096 := Nat.lt_of_le_of_lt Nat.and_le_left (by decide)
set_option maxHeartbeats 4000000 in
set_option maxRecDepth 100000 in
theorem cX2_closable_k (Z : gZ) (S : Nat → Nat → Nat) (hw : wfC S) : gMd Z yX2_closable wsX2_closable { frames := 0, cells := 0, slots := 0, locals := 0 } [.ref (gz_ad Z 1)] S (closable S) (S) := by
  refine gMd_of (cc := cX2_closable) (maxL := 1) (ret := (some .int)) (by decide +kernel) rfl (Nat.le_of_ble_eq_true rfl) (Or.inl rfl) (fun X hZ hR K hret => ?_)
  subst hZ
  have K : gOk X cX2_closable 1 wsX2_closable RX2 := K
  have hRf : 0 ≤ (g_R X).frames := gR_f hR rfl
  have hRl : 0 ≤ (g_R X).locals := gR_l hR rfl
  have hin2 : ∀ w ∈ u_ws RX2 TX2 12, w ∈ wsX2_closable := by decide +kernel
  obtain ⟨w0, w1, w2, w3, wsh, wst, a2, a3, a4, a5, a6, a7⟩ := id hw
  show gG X 0 [(0, .ref (g_ad X 1))] [] S
  refine g_iconst K 1 dX2_closable_0 (by decide +kernel) ?_
  refine g_aload_n K 0 dX2_closable_1 rfl ?_
  refine g_getI (q := 1) (ci := 2) (k := 2) (N := 12) (C := RX2) (T := TX2) (ref := "ValveWalk$Network") K rfl rfl rfl (by decide) hin2 (by decide +kernel) rfl dX2_closable_2 ?_
  refine g_ishl (a := 1) (b := S 1 2) K (by omega) dX2_closable_5 ?_
  have hs1 : 1 ≤ 1 <<< S 1 2 := by rw [Nat.one_shiftLeft]; exact Nat.one_le_two_pow
  refine g_iconst K 1 dX2_closable_6 (by decide +kernel) ?_
  refine g_isub (a := (1) <<< (S 1 2)) (b := 1) K (by omega) dX2_closable_7 ?_
  refine g_aload_n K 0 dX2_closable_8 rfl ?_
  refine g_getI (q := 1) (ci := 2) (k := 4) (N := 12) (C := RX2) (T := TX2) (ref := "ValveWalk$Network") K rfl rfl rfl (by decide) hin2 (by decide +kernel) rfl dX2_closable_9 ?_
  refine g_iconst K 4294967295 dX2_closable_12 (by decide +kernel) ?_
  refine g_ixor (a := S 1 4) (b := 4294967295) K dX2_closable_13 ?_
  refine g_iand (a := ((1) <<< (S 1 2)) - (1)) (b := (S 1 4) ^^^ (4294967295)) K dX2_closable_14 ?_
  have hL14_1 := @Nat.and_le_left (((1) <<< (S 1 2)) - (1)) ((S 1 4) ^^^ (4294967295))
  have hR14_2 := @Nat.and_le_right (((1) <<< (S 1 2)) - (1)) ((S 1 4) ^^^ (4294967295))
  refine g_aload_n K 0 dX2_closable_15 rfl ?_
  refine g_getI (q := 1) (ci := 2) (k := 5) (N := 12) (C := RX2) (T := TX2) (ref := "ValveWalk$Network") K rfl rfl rfl (by decide) hin2 (by decide +kernel) rfl dX2_closable_16 ?_
  refine g_iconst K 4294967295 dX2_closable_19 (by decide +kernel) ?_
  refine g_ixor (a := S 1 5) (b := 4294967295) K dX2_closable_20 ?_
  refine g_iand (a := (((1) <<< (S 1 2)) - (1)) &&& ((S 1 4) ^^^ (4294967295))) (b := (S 1 5) ^^^ (4294967295)) K dX2_closable_21 ?_
  have hL21_3 := @Nat.and_le_left ((((1) <<< (S 1 2)) - (1)) &&& ((S 1 4) ^^^ (4294967295))) ((S 1 5) ^^^ (4294967295))
  have hR21_4 := @Nat.and_le_right ((((1) <<< (S 1 2)) - (1)) &&& ((S 1 4) ^^^ (4294967295))) ((S 1 5) ^^^ (4294967295))
  exact g_retd hret dX2_closable_22 rfl rfl

set_option maxHeartbeats 4000000 in
set_option maxRecDepth 100000 in
theorem cX2_bounding_k (Z : gZ) (S : Nat → Nat → Nat) (hw : wfC S) : gMd Z yX2_bounding wsX2_bounding { frames := 0, cells := 0, slots := 0, locals := 0 } [.ref (gz_ad Z 1)] S (bounding S) (S) := by
  refine gMd_of (cc := cX2_bounding) (maxL := 1) (ret := (some .int)) (by decide +kernel) rfl (Nat.le_of_ble_eq_true rfl) (Or.inl rfl) (fun X hZ hR K hret => ?_)
  subst hZ
  have K : gOk X cX2_bounding 1 wsX2_bounding RX2 := K
  have hRf : 0 ≤ (g_R X).frames := gR_f hR rfl
  have hRl : 0 ≤ (g_R X).locals := gR_l hR rfl
  have hin2 : ∀ w ∈ u_ws RX2 TX2 12, w ∈ wsX2_bounding := by decide +kernel
  obtain ⟨w0, w1, w2, w3, wsh, wst, a2, a3, a4, a5, a6, a7⟩ := id hw
  show gG X 0 [(0, .ref (g_ad X 1))] [] S
  refine g_sipush K 4095 dX2_bounding_0 (by decide +kernel) ?_
  refine g_aload_n K 0 dX2_bounding_3 rfl ?_
  refine g_getI (q := 1) (ci := 2) (k := 5) (N := 12) (C := RX2) (T := TX2) (ref := "ValveWalk$Network") K rfl rfl rfl (by decide) hin2 (by decide +kernel) rfl dX2_bounding_4 ?_
  refine g_aload_n K 0 dX2_bounding_7 rfl ?_
  refine g_getI (q := 1) (ci := 2) (k := 4) (N := 12) (C := RX2) (T := TX2) (ref := "ValveWalk$Network") K rfl rfl rfl (by decide) hin2 (by decide +kernel) rfl dX2_bounding_8 ?_
  refine g_iconst K 4294967295 dX2_bounding_11 (by decide +kernel) ?_
  refine g_ixor (a := S 1 4) (b := 4294967295) K dX2_bounding_12 ?_
  refine g_iand (a := S 1 5) (b := (S 1 4) ^^^ (4294967295)) K dX2_bounding_13 ?_
  have hL13_1 := @Nat.and_le_left (S 1 5) ((S 1 4) ^^^ (4294967295))
  have hR13_2 := @Nat.and_le_right (S 1 5) ((S 1 4) ^^^ (4294967295))
  refine g_iconst K 4294967295 dX2_bounding_14 (by decide +kernel) ?_
  refine g_ixor (a := (S 1 5) &&& ((S 1 4) ^^^ (4294967295))) (b := 4294967295) K dX2_bounding_15 ?_
  refine g_iand (a := 4095) (b := ((S 1 5) &&& ((S 1 4) ^^^ (4294967295))) ^^^ (4294967295)) K dX2_bounding_16 ?_
  have hL16_3 := @Nat.and_le_left (4095) (((S 1 5) &&& ((S 1 4) ^^^ (4294967295))) ^^^ (4294967295))
  have hR16_4 := @Nat.and_le_right (4095) (((S 1 5) &&& ((S 1 4) ^^^ (4294967295))) ^^^ (4294967295))
  exact g_retd hret dX2_bounding_17 rfl rfl

def hasPart (S : Nat → Nat → Nat) (a : Nat) : Nat := if a < 12 then (if a < S 1 0 then 1 else 0) else (if a < 12 + S 1 1 then 1 else 0)
theorem hasPart_up {S : Nat → Nat → Nat} {q : Nat} {d : Nat → Nat} (h : 7 < q) (a : Nat) : hasPart (va_up S q d) a = hasPart S a := by
  simp only [hasPart, va_up_ne (f := S) d (show 1 ≠ q by omega)]
theorem hasPart_le (S : Nat → Nat → Nat) (a : Nat) : hasPart S a ≤ 1 := by unfold hasPart; (repeat' split) <;> omega
set_option maxHeartbeats 4000000 in
set_option maxRecDepth 100000 in
theorem cX2_hasPart_k (Z : gZ) (S : Nat → Nat → Nat) (a : Nat) (hw : wfC S) (ha : a < 2147483648) : gMd Z yX2_hasPart wsX2_hasPart { frames := 1, cells := 0, slots := 0, locals := 20 } [.ref (gz_ad Z 1), .int (nI (a))] S (hasPart S a) (S) := by
  refine gMd_of (cc := cX2_hasPart) (maxL := 2) (ret := (some .boolean)) (by decide +kernel) rfl (Nat.le_of_ble_eq_true rfl) (Or.inr ⟨rfl, hasPart_le _ _⟩) (fun X hZ hR K hret => ?_)
  subst hZ
  have K : gOk X cX2_hasPart 2 wsX2_hasPart RX2 := K
  have hRf : 1 ≤ (g_R X).frames := gR_f hR rfl
  have hRl : 20 ≤ (g_R X).locals := gR_l hR rfl
  have hin2 : ∀ w ∈ u_ws RX2 TX2 12, w ∈ wsX2_hasPart := by decide +kernel
  obtain ⟨w0, w1, w2, w3, wsh, wst, a2, a3, a4, a5, a6, a7⟩ := id hw
  show gG X 0 [(0, .ref (g_ad X 1)), (1, .int (nI (a)))] [] S
  refine g_iload_n K 1 dX2_hasPart_0 rfl ?_
  refine g_bipush K 12 dX2_hasPart_1 (by decide +kernel) ?_
  refine g_icmp_ge (tgt := 22) (a := a) (b := 12) K dX2_hasPart_3 (by decide) (by omega) (by omega) (fun h3_1 => ?_) (fun h3_1 => ?_)
  · refine g_iload_n K 1 dX2_hasPart_22 rfl ?_
    refine g_aload_n K 0 dX2_hasPart_23 rfl ?_
    refine g_getI (q := 1) (ci := 2) (k := 1) (N := 12) (C := RX2) (T := TX2) (ref := "ValveWalk$Network") K rfl rfl rfl (by decide) hin2 (by decide +kernel) rfl dX2_hasPart_24 ?_
    refine g_callNd (As := [.int (nI (S 1 1))]) (rest := [.int (nI (a))]) (host := "ValveWalk") K (cX5_partOfPipe_k (g_z X) S (S 1 1)) ⟨va_cnB 1 K.1.2.2.2.2 gX2_hasPart_X5_partOfPipe_n51 rfl rfl rfl (K.2.2.2.1 _ (List.mem_of_getElem? (i := 4) rfl)) (K.1.2.2.2.2 _ (by decide +kernel)) (by decide +kernel) ⟨Nat.le_trans (Nat.le_of_ble_eq_true rfl) hRf, Nat.le_trans (Nat.le_of_ble_eq_true rfl) hRl⟩, K.1.2.2.2.2 _ (by decide +kernel), trivial⟩ rfl rfl (Nat.le_of_ble_eq_true rfl) dX2_hasPart_27 ?_
    refine g_icmp_ge (tgt := 37) (a := a) (b := 12 + (S 1 1)) K dX2_hasPart_30 (by decide) (by omega) (by omega) (fun h30_2 => ?_) (fun h30_2 => ?_)
    · refine g_iconst K 0 dX2_hasPart_37 (by decide +kernel) ?_
      exact g_retd hret dX2_hasPart_38 (by unfold hasPart; (repeat' split) <;> first | rfl | contradiction | (exfalso; omega) | omega) rfl
    · refine g_iconst K 1 dX2_hasPart_33 (by decide +kernel) ?_
      refine g_goto (tgt := 38) K dX2_hasPart_34 (by decide) ?_
      exact g_retd hret dX2_hasPart_38 (by unfold hasPart; (repeat' split) <;> first | rfl | contradiction | (exfalso; omega) | omega) rfl
  · refine g_iload_n K 1 dX2_hasPart_6 rfl ?_
    refine g_aload_n K 0 dX2_hasPart_7 rfl ?_
    refine g_getI (q := 1) (ci := 2) (k := 0) (N := 12) (C := RX2) (T := TX2) (ref := "ValveWalk$Network") K rfl rfl rfl (by decide) hin2 (by decide +kernel) rfl dX2_hasPart_8 ?_
    refine g_icmp_ge (tgt := 18) (a := a) (b := S 1 0) K dX2_hasPart_11 (by decide) (by omega) (by omega) (fun h11_3 => ?_) (fun h11_3 => ?_)
    · refine g_iconst K 0 dX2_hasPart_18 (by decide +kernel) ?_
      refine g_goto (tgt := 38) K dX2_hasPart_19 (by decide) ?_
      exact g_retd hret dX2_hasPart_38 (by unfold hasPart; (repeat' split) <;> first | rfl | contradiction | (exfalso; omega) | omega) rfl
    · refine g_iconst K 1 dX2_hasPart_14 (by decide +kernel) ?_
      refine g_goto (tgt := 38) K dX2_hasPart_15 (by decide) ?_
      exact g_retd hret dX2_hasPart_38 (by unfold hasPart; (repeat' split) <;> first | rfl | contradiction | (exfalso; omega) | omega) rfl

def fJoint (S : Nat → Nat → Nat) (b j r : Nat) : Nat := if S 5 j &&& b = 0 then (if r &&& S 6 j = 0 then r else r ||| S 6 j) else r
def fPass (S : Nat → Nat → Nat) (b r : Nat) : Nat := gfor (fJoint S b) (2 * S 1 1) 0 r
def fReach (S : Nat → Nat → Nat) (b : Nat) : Nat → Nat → Nat
  | 0, r => r
  | k + 1, r => if fPass S b r = r then fPass S b r else fReach S b k (fPass S b r)
def reach (S : Nat → Nat → Nat) (a b : Nat) : Nat := fReach S b 28 a
theorem gfor_inv {α : Type} (P : α → Prop) (f : Nat → α → α) (h : ∀ j x, P x → P (f j x)) : ∀ (k j : Nat) (x : α), P x → P (gfor f k j x)
  | 0, _, _, h0 => h0
  | k + 1, j, x, h0 => gfor_inv P f h k (j + 1) (f j x) (h j x h0)
theorem fJoint_lt {S : Nat → Nat → Nat} (hw : wfC S) (b j r : Nat) (h : r < 268435456) : fJoint S b j r < 268435456 := by
  unfold fJoint
  (repeat' split)
  · exact h
  · exact or28 h (hw.2.2.2.2.2.2.2.2.2.2.1 j)
  · exact h
theorem fPass_lt {S : Nat → Nat → Nat} (hw : wfC S) (b r : Nat) (h : r < 268435456) : fPass S b r < 268435456 := gfor_inv (· < 268435456) _ (fun j x h => fJoint_lt hw b j x h) _ _ _ h
theorem fReach_lt {S : Nat → Nat → Nat} (hw : wfC S) (b : Nat) : ∀ (k r : Nat), r < 268435456 → fReach S b k r < 268435456
  | 0, _, h => h
  | k + 1, r, h => by
    unfold fReach
    split
    · exact fPass_lt hw b r h
    · exact fReach_lt hw b k _ (fPass_lt hw b r h)
theorem reach_lt {S : Nat → Nat → Nat} (hw : wfC S) {a b : Nat} (h : a < 268435456) : reach S a b < 268435456 := fReach_lt hw b 28 a h
set_option maxHeartbeats 4000000 in
set_option maxRecDepth 100000 in
theorem L_reach_18 (X : gC) (S : Nat → Nat → Nat) (a : Nat) (b : Nat) (n : Nat) (bf : Nat) (K : gOk X cX2_reach 8 wsX2_reach RX2) (hRf : 0 ≤ (g_R X).frames) (hRl : 0 ≤ (g_R X).locals) (hw : wfC S) : ∀ (k j : Nat) (r : Nat), j + k = 2 * S 1 1 → (r < 268435456) → gG X 81 [(0, .ref (g_ad X 1)), (1, .int (nI (a))), (2, .int (nI (b))), (3, .int (nI (((gfor (fJoint S b) k j r))))), (4, .int (nI (n))), (5, .int (nI (bf))), (6, .int (nI ((2 * S 1 1))))] [] S → gG X 18 [(0, .ref (g_ad X 1)), (1, .int (nI (a))), (2, .int (nI (b))), (3, .int (nI (r))), (4, .int (nI (n))), (5, .int (nI (bf))), (6, .int (nI (j)))] [] S := by
  have hin2 : ∀ w ∈ u_ws RX2 TX2 12, w ∈ wsX2_reach := by decide +kernel
  obtain ⟨w0, w1, w2, w3, wsh, wst, a2, a3, a4, a5, a6, a7⟩ := id hw
  intro k
  induction k with
  | zero =>
    intro j r hj hr kk
    have hj : j = 2 * S 1 1 := by omega
    refine g_iload K 6 dX2_reach_18 rfl ?_
    refine g_iconst K 2 dX2_reach_20 (by decide +kernel) ?_
    refine g_aload_n K 0 dX2_reach_21 rfl ?_
    refine g_getI (q := 1) (ci := 2) (k := 1) (N := 12) (C := RX2) (T := TX2) (ref := "ValveWalk$Network") K rfl rfl rfl (by decide) hin2 (by decide +kernel) rfl dX2_reach_22 ?_
    refine g_imul (a := 2) (b := S 1 1) K dX2_reach_25 ?_
    refine g_icmp_ge (tgt := 81) (a := j) (b := (2) * (S 1 1)) K dX2_reach_26 (by decide) (by omega) (by omega) (fun h26_1 => ?_) (fun h26_1 => ?_)
    · refine g_loc (lo' := [(0, .ref (g_ad X 1)), (1, .int (nI (a))), (2, .int (nI (b))), (3, .int (nI (r))), (4, .int (nI (n))), (5, .int (nI (bf))), (6, .int (nI (j)))]) [0, 1, 2, 3, 4, 5, 6] rfl ?_
      exact g_cast (by first | rfl | (rw [hj]; done) | (rw [hj]; rfl)) rfl rfl kk
    · exact absurd h26_1 (by omega)
  | succ k ih =>
    intro j r hj hr kk
    refine g_iload K 6 dX2_reach_18 rfl ?_
    refine g_iconst K 2 dX2_reach_20 (by decide +kernel) ?_
    refine g_aload_n K 0 dX2_reach_21 rfl ?_
    refine g_getI (q := 1) (ci := 2) (k := 1) (N := 12) (C := RX2) (T := TX2) (ref := "ValveWalk$Network") K rfl rfl rfl (by decide) hin2 (by decide +kernel) rfl dX2_reach_22 ?_
    refine g_imul (a := 2) (b := S 1 1) K dX2_reach_25 ?_
    refine g_icmp_ge (tgt := 81) (a := j) (b := (2) * (S 1 1)) K dX2_reach_26 (by decide) (by omega) (by omega) (fun h26_1 => ?_) (fun h26_1 => ?_)
    · exact absurd h26_1 (by omega)
    · refine g_aload_n K 0 dX2_reach_29 rfl ?_
      refine g_getR (q' := 5) (q := 1) (ci := 2) (k := 9) (N := 12) (C := RX2) (T := TX2) (ref := "ValveWalk$Network") K rfl rfl rfl (by decide) hin2 (by decide +kernel) rfl dX2_reach_30 ?_
      refine g_iload K 6 dX2_reach_33 rfl ?_
      refine g_ald (q := 5) (n := 32) (i := j) K rfl (by decide) (by omega) dX2_reach_35 ?_
      have hv35_2 := a5 (j)
      refine g_iload_n K 2 dX2_reach_36 rfl ?_
      refine g_iand (a := S 5 (j)) (b := b) K dX2_reach_37 ?_
      have hL37_3 := @Nat.and_le_left (S 5 (j)) (b)
      have hR37_4 := @Nat.and_le_right (S 5 (j)) (b)
      refine g_if_ne (tgt := 45) (a := (S 5 (j)) &&& (b)) K dX2_reach_38 (by decide) (by omega) (fun h38_5 => ?_) (fun h38_5 => ?_)
      · refine g_iconst K 0 dX2_reach_45 (by decide +kernel) ?_
        refine g_istore (lo' := [(7, .int (nI (0))), (0, .ref (g_ad X 1)), (1, .int (nI (a))), (2, .int (nI (b))), (3, .int (nI (r))), (4, .int (nI (n))), (5, .int (nI (bf))), (6, .int (nI (j)))]) K dX2_reach_46 (by decide) rfl ?_
        refine g_iload K 0 dX2_reach_48 rfl ?_
        refine g_if_eq (tgt := 75) (a := 0) K dX2_reach_50 (by decide) (by omega) (fun h50_6 => ?_) (fun h50_6 => absurd h50_6 (by omega))
        refine g_iinc (a := j) (b := j + 1) (lo' := [(6, .int (nI (j + 1))), (7, .int (nI (0))), (0, .ref (g_ad X 1)), (1, .int (nI (a))), (2, .int (nI (b))), (3, .int (nI (r))), (4, .int (nI (n))), (5, .int (nI (bf)))]) K 7 dX2_reach_75 rfl (gi_inc _) (by decide) rfl ?_
        refine g_goto (tgt := 18) K dX2_reach_78 (by decide) ?_
        refine g_loc (lo' := [(0, .ref (g_ad X 1)), (1, .int (nI (a))), (2, .int (nI (b))), (3, .int (nI (r))), (4, .int (nI (n))), (5, .int (nI (bf))), (6, .int (nI (j + 1)))]) [2, 3, 4, 5, 6, 7, 0] rfl ?_
        exact ih (j + 1) r (by omega) (hr) (by rw [gfor_succ, show (fJoint S b) j r = r from by simp only [fJoint]; (repeat' split) <;> first | rfl | contradiction | (exfalso; omega) | omega] at kk; exact kk)
      · refine g_iconst K 1 dX2_reach_41 (by decide +kernel) ?_
        refine g_goto (tgt := 46) K dX2_reach_42 (by decide) ?_
        refine g_istore (lo' := [(7, .int (nI (1))), (0, .ref (g_ad X 1)), (1, .int (nI (a))), (2, .int (nI (b))), (3, .int (nI (r))), (4, .int (nI (n))), (5, .int (nI (bf))), (6, .int (nI (j)))]) K dX2_reach_46 (by decide) rfl ?_
        refine g_iload K 0 dX2_reach_48 rfl ?_
        refine g_if_eq (tgt := 75) (a := 1) K dX2_reach_50 (by decide) (by omega) (fun h50_7 => absurd h50_7 (by omega)) (fun h50_7 => ?_)
        refine g_iload_n K 4 dX2_reach_53 rfl ?_
        refine g_aload_n K 1 dX2_reach_54 rfl ?_
        refine g_getR (q' := 6) (q := 1) (ci := 2) (k := 10) (N := 12) (C := RX2) (T := TX2) (ref := "ValveWalk$Network") K rfl rfl rfl (by decide) hin2 (by decide +kernel) rfl dX2_reach_55 ?_
        refine g_iload K 7 dX2_reach_58 rfl ?_
        refine g_ald (q := 6) (n := 32) (i := j) K rfl (by decide) (by omega) dX2_reach_60 ?_
        have hv60_8 := a6 (j)
        refine g_iand (a := r) (b := S 6 (j)) K dX2_reach_61 ?_
        have hL61_9 := @Nat.and_le_left (r) (S 6 (j))
        have hR61_10 := @Nat.and_le_right (r) (S 6 (j))
        refine g_if_eq (tgt := 75) (a := (r) &&& (S 6 (j))) K dX2_reach_62 (by decide) (by omega) (fun h62_11 => ?_) (fun h62_11 => ?_)
        · refine g_iinc (a := j) (b := j + 1) (lo' := [(6, .int (nI (j + 1))), (7, .int (nI (1))), (0, .ref (g_ad X 1)), (1, .int (nI (a))), (2, .int (nI (b))), (3, .int (nI (r))), (4, .int (nI (n))), (5, .int (nI (bf)))]) K 7 dX2_reach_75 rfl (gi_inc _) (by decide) rfl ?_
          refine g_goto (tgt := 18) K dX2_reach_78 (by decide) ?_
          refine g_loc (lo' := [(0, .ref (g_ad X 1)), (1, .int (nI (a))), (2, .int (nI (b))), (3, .int (nI (r))), (4, .int (nI (n))), (5, .int (nI (bf))), (6, .int (nI (j + 1)))]) [2, 3, 4, 5, 6, 7, 0] rfl ?_
          exact ih (j + 1) r (by omega) (hr) (by rw [gfor_succ, show (fJoint S b) j r = r from by simp only [fJoint]; (repeat' split) <;> first | rfl | contradiction | (exfalso; omega) | omega] at kk; exact kk)
        · refine g_iload_n K 4 dX2_reach_65 rfl ?_
          refine g_aload_n K 1 dX2_reach_66 rfl ?_
          refine g_getR (q' := 6) (q := 1) (ci := 2) (k := 10) (N := 12) (C := RX2) (T := TX2) (ref := "ValveWalk$Network") K rfl rfl rfl (by decide) hin2 (by decide +kernel) rfl dX2_reach_67 ?_
          refine g_iload K 7 dX2_reach_70 rfl ?_
          refine g_ald (q := 6) (n := 32) (i := j) K rfl (by decide) (by omega) dX2_reach_72 ?_
          have hv72_12 := a6 (j)
          refine g_ior (a := r) (b := S 6 (j)) K dX2_reach_73 ?_
          refine g_istore_n (lo' := [(3, .int (nI ((r) ||| (S 6 (j))))), (7, .int (nI (1))), (0, .ref (g_ad X 1)), (1, .int (nI (a))), (2, .int (nI (b))), (4, .int (nI (n))), (5, .int (nI (bf))), (6, .int (nI (j)))]) K dX2_reach_74 (by decide) rfl ?_
          refine g_iinc (a := j) (b := j + 1) (lo' := [(6, .int (nI (j + 1))), (3, .int (nI ((r) ||| (S 6 (j))))), (7, .int (nI (1))), (0, .ref (g_ad X 1)), (1, .int (nI (a))), (2, .int (nI (b))), (4, .int (nI (n))), (5, .int (nI (bf)))]) K 7 dX2_reach_75 rfl (gi_inc _) (by decide) rfl ?_
          refine g_goto (tgt := 18) K dX2_reach_78 (by decide) ?_
          refine g_loc (lo' := [(0, .ref (g_ad X 1)), (1, .int (nI (a))), (2, .int (nI (b))), (3, .int (nI ((r) ||| (S 6 (j))))), (4, .int (nI (n))), (5, .int (nI (bf))), (6, .int (nI (j + 1)))]) [3, 4, 5, 1, 6, 7, 0] rfl ?_
          exact ih (j + 1) ((r) ||| (S 6 (j))) (by omega) (or28 hr (a6 j)) (by rw [gfor_succ, show (fJoint S b) j r = (r) ||| (S 6 (j)) from by simp only [fJoint]; (repeat' split) <;> first | rfl | contradiction | (exfalso; omega) | omega] at kk; exact kk)

set_option maxHeartbeats 4000000 in
set_option maxRecDepth 100000 in
theorem L_reach_5 (X : gC) (S : Nat → Nat → Nat) (a : Nat) (b : Nat) (K : gOk X cX2_reach 8 wsX2_reach RX2) (hRf : 0 ≤ (g_R X).frames) (hRl : 0 ≤ (g_R X).locals) (hw : wfC S) : ∀ (k n r : Nat), n + k = 28 → r < 268435456 → gG X 96 [(3, .int (nI (fReach S b k r)))] [] S → gG X 5 [(0, .ref (g_ad X 1)), (1, .int (nI (a))), (2, .int (nI (b))), (3, .int (nI (r))), (4, .int (nI (n)))] [] S := by
  have hin2 : ∀ w ∈ u_ws RX2 TX2 12, w ∈ wsX2_reach := by decide +kernel
  obtain ⟨w0, w1, w2, w3, wsh, wst, a2, a3, a4, a5, a6, a7⟩ := id hw
  intro k
  induction k with
  | zero =>
    intro n r hj hr kk
    refine g_iload K 4 dX2_reach_5 rfl ?_
    refine g_bipush K 28 dX2_reach_7 (by decide +kernel) ?_
    refine g_icmp_ge (tgt := 96) (a := n) (b := 28) K dX2_reach_9 (by decide) (by omega) (by omega) (fun h9_1 => ?_) (fun h9_1 => ?_)
    · refine g_loc (lo' := [(3, .int (nI (r)))]) [3] rfl ?_
      exact kk
    · exact absurd h9_1 (by omega)
  | succ k ih =>
    intro n r hj hr kk
    refine g_iload K 4 dX2_reach_5 rfl ?_
    refine g_bipush K 28 dX2_reach_7 (by decide +kernel) ?_
    refine g_icmp_ge (tgt := 96) (a := n) (b := 28) K dX2_reach_9 (by decide) (by omega) (by omega) (fun h9_1 => ?_) (fun h9_1 => ?_)
    · exact absurd h9_1 (by omega)
    · refine g_iload_n K 3 dX2_reach_12 rfl ?_
      refine g_istore (lo' := [(5, .int (nI (r))), (0, .ref (g_ad X 1)), (1, .int (nI (a))), (2, .int (nI (b))), (3, .int (nI (r))), (4, .int (nI (n)))]) K dX2_reach_13 (by decide) rfl ?_
      refine g_iconst K 0 dX2_reach_15 (by decide +kernel) ?_
      refine g_istore (lo' := [(6, .int (nI (0))), (5, .int (nI (r))), (0, .ref (g_ad X 1)), (1, .int (nI (a))), (2, .int (nI (b))), (3, .int (nI (r))), (4, .int (nI (n)))]) K dX2_reach_16 (by decide) rfl ?_
      refine g_loc (lo' := [(0, .ref (g_ad X 1)), (1, .int (nI (a))), (2, .int (nI (b))), (3, .int (nI (r))), (4, .int (nI (n))), (5, .int (nI (r))), (6, .int (nI (0)))]) [2, 3, 4, 5, 6, 1, 0] rfl ?_
      refine L_reach_18 X S a b n r K (Nat.le_trans (Nat.le_of_ble_eq_true rfl) hRf) (Nat.le_trans (Nat.le_of_ble_eq_true rfl) hRl) (hw)  (2 * S 1 1) 0 r (by omega) (hr) ?_
      have hq : gfor (fJoint S b) (2 * S 1 1) 0 r < 268435456 := fPass_lt hw b r hr
      refine g_pc rfl ?_
      refine g_iload_n K 3 dX2_reach_81 rfl ?_
      refine g_iload K 5 dX2_reach_82 rfl ?_
      refine g_icmp_ne (tgt := 90) (a := ((gfor (fJoint S b) (2 * S 1 1) 0 r))) (b := r) K dX2_reach_84 (by decide) (by omega) (by omega) (fun h84_2 => ?_) (fun h84_2 => ?_)
      · refine g_iinc (a := n) (b := n + 1) (lo' := [(4, .int (nI (n + 1))), (0, .ref (g_ad X 1)), (1, .int (nI (a))), (2, .int (nI (b))), (3, .int (nI (((gfor (fJoint S b) (2 * S 1 1) 0 r))))), (5, .int (nI (r))), (6, .int (nI ((2 * S 1 1))))]) K 4 dX2_reach_90 rfl (gi_inc _) (by decide) rfl ?_
        refine g_goto (tgt := 5) K dX2_reach_93 (by decide) ?_
        refine g_loc (lo' := [(0, .ref (g_ad X 1)), (1, .int (nI (a))), (2, .int (nI (b))), (3, .int (nI (((gfor (fJoint S b) (2 * S 1 1) 0 r))))), (4, .int (nI (n + 1)))]) [1, 2, 3, 4, 0] rfl ?_
        exact ih (n + 1) _ (by omega) (fPass_lt hw b r hr) (by rw [fReach, if_neg (by assumption)] at kk; exact kk)
      · refine g_goto (tgt := 96) K dX2_reach_87 (by decide) ?_
        refine g_loc (lo' := [(3, .int (nI (((gfor (fJoint S b) (2 * S 1 1) 0 r)))))]) [3] rfl ?_
        exact (by rw [fReach, if_pos (by assumption)] at kk; exact kk)

set_option maxHeartbeats 4000000 in
set_option maxRecDepth 100000 in
theorem cX2_reach_k (Z : gZ) (S : Nat → Nat → Nat) (a b : Nat) (hw : wfC S) (ha : a < 268435456) : gMd Z yX2_reach wsX2_reach { frames := 0, cells := 0, slots := 0, locals := 0 } [.ref (gz_ad Z 1), .int (nI (a)), .int (nI (b))] S (reach S a b) (S) := by
  refine gMd_of (cc := cX2_reach) (maxL := 8) (ret := (some .int)) (by decide +kernel) rfl (Nat.le_of_ble_eq_true rfl) (Or.inl rfl) (fun X hZ hR K hret => ?_)
  subst hZ
  have K : gOk X cX2_reach 8 wsX2_reach RX2 := K
  have hRf : 0 ≤ (g_R X).frames := gR_f hR rfl
  have hRl : 0 ≤ (g_R X).locals := gR_l hR rfl
  have hin2 : ∀ w ∈ u_ws RX2 TX2 12, w ∈ wsX2_reach := by decide +kernel
  obtain ⟨w0, w1, w2, w3, wsh, wst, a2, a3, a4, a5, a6, a7⟩ := id hw
  show gG X 0 [(0, .ref (g_ad X 1)), (1, .int (nI (a))), (2, .int (nI (b)))] [] S
  refine g_iload_n K 1 dX2_reach_0 rfl ?_
  refine g_istore_n (lo' := [(3, .int (nI (a))), (0, .ref (g_ad X 1)), (1, .int (nI (a))), (2, .int (nI (b)))]) K dX2_reach_1 (by decide) rfl ?_
  refine g_iconst K 0 dX2_reach_2 (by decide +kernel) ?_
  refine g_istore (lo' := [(4, .int (nI (0))), (3, .int (nI (a))), (0, .ref (g_ad X 1)), (1, .int (nI (a))), (2, .int (nI (b)))]) K dX2_reach_3 (by decide) rfl ?_
  refine g_loc (lo' := [(0, .ref (g_ad X 1)), (1, .int (nI (a))), (2, .int (nI (b))), (3, .int (nI (a))), (4, .int (nI (0)))]) [2, 3, 4, 1, 0] rfl ?_
  refine L_reach_5 X S a b K (Nat.le_trans (Nat.le_of_ble_eq_true rfl) hRf) (Nat.le_trans (Nat.le_of_ble_eq_true rfl) hRl) (hw)  28 0 a (by omega) (ha) ?_
  refine g_iload_n K 0 dX2_reach_96 rfl ?_
  exact g_retd hret dX2_reach_97 rfl rfl

theorem fJoint_up {S : Nat → Nat → Nat} {q : Nat} {d : Nat → Nat} (h : 7 < q) (b : Nat) : fJoint (va_up S q d) b = fJoint S b := by
  funext j r
  simp only [fJoint, va_up_ne (f := S) d (show 5 ≠ q by omega), va_up_ne (f := S) d (show 6 ≠ q by omega)]
theorem fPass_up {S : Nat → Nat → Nat} {q : Nat} {d : Nat → Nat} (h : 7 < q) (b r : Nat) : fPass (va_up S q d) b r = fPass S b r := by
  simp only [fPass, fJoint_up h, va_up_ne (f := S) d (show 1 ≠ q by omega)]
theorem fReach_up {S : Nat → Nat → Nat} {q : Nat} {d : Nat → Nat} (h : 7 < q) (b : Nat) : ∀ (k r : Nat), fReach (va_up S q d) b k r = fReach S b k r
  | 0, _ => rfl
  | k + 1, r => by simp only [fReach, fPass_up h, fReach_up h b k]
theorem reach_up {S : Nat → Nat → Nat} {q : Nat} {d : Nat → Nat} (h : 7 < q) (a b : Nat) : reach (va_up S q d) a b = reach S a b := fReach_up h b 28 a
theorem closable_up {S : Nat → Nat → Nat} {q : Nat} {d : Nat → Nat} (h : 7 < q) : closable (va_up S q d) = closable S := by
  simp only [closable, va_up_ne (f := S) d (show 1 ≠ q by omega)]
theorem bounding_up {S : Nat → Nat → Nat} {q : Nat} {d : Nat → Nat} (h : 7 < q) : bounding (va_up S q d) = bounding S := by
  simp only [bounding, va_up_ne (f := S) d (show 1 ≠ q by omega)]
def wetBehind (S : Nat → Nat → Nat) (x : Nat) : Nat := reach S (S 1 3) (S 1 4 ||| x)
def fCust (S : Nat → Nat → Nat) (a p s : Nat) : Nat := if gbit a (12 + p) = 0 then s else s + S 3 p
def custOf (S : Nat → Nat → Nat) (a : Nat) : Nat := gfor (fCust S a) (S 1 1) 0 0
set_option maxHeartbeats 4000000 in
set_option maxRecDepth 100000 in
theorem cX2_wetBehind_k (Z : gZ) (S : Nat → Nat → Nat) (x : Nat) (hw : wfC S) : gMd Z yX2_wetBehind wsX2_wetBehind { frames := 1, cells := 0, slots := 0, locals := 27 } [.ref (gz_ad Z 1), .int (nI (x))] S (wetBehind S x) (S) := by
  refine gMd_of (cc := cX2_wetBehind) (maxL := 2) (ret := (some .int)) (by decide +kernel) rfl (Nat.le_of_ble_eq_true rfl) (Or.inl rfl) (fun X hZ hR K hret => ?_)
  subst hZ
  have K : gOk X cX2_wetBehind 2 wsX2_wetBehind RX2 := K
  have hRf : 1 ≤ (g_R X).frames := gR_f hR rfl
  have hRl : 27 ≤ (g_R X).locals := gR_l hR rfl
  have hin2 : ∀ w ∈ u_ws RX2 TX2 12, w ∈ wsX2_wetBehind := by decide +kernel
  obtain ⟨w0, w1, w2, w3, wsh, wst, a2, a3, a4, a5, a6, a7⟩ := id hw
  show gG X 0 [(0, .ref (g_ad X 1)), (1, .int (nI (x)))] [] S
  refine g_aload_n K 0 dX2_wetBehind_0 rfl ?_
  refine g_aload_n K 0 dX2_wetBehind_1 rfl ?_
  refine g_getI (q := 1) (ci := 2) (k := 3) (N := 12) (C := RX2) (T := TX2) (ref := "ValveWalk$Network") K rfl rfl rfl (by decide) hin2 (by decide +kernel) rfl dX2_wetBehind_2 ?_
  refine g_aload_n K 0 dX2_wetBehind_5 rfl ?_
  refine g_getI (q := 1) (ci := 2) (k := 4) (N := 12) (C := RX2) (T := TX2) (ref := "ValveWalk$Network") K rfl rfl rfl (by decide) hin2 (by decide +kernel) rfl dX2_wetBehind_6 ?_
  refine g_iload_n K 1 dX2_wetBehind_9 rfl ?_
  refine g_ior (a := S 1 4) (b := x) K dX2_wetBehind_10 ?_
  refine g_callVd (q := 1) (ci := 2) (As := [.int (nI (S 1 3)), .int (nI ((S 1 4) ||| (x)))]) (rest := []) (C := RX2) (T := TX2) (N := 12) K (cX2_reach_k (g_z X) S (S 1 3) ((S 1 4) ||| (x)) (hw) (by omega)) (cwV 2 K.1.2.2.2.2 gX2_wetBehind_X2_reach rfl rfl rfl (by decide +kernel) ⟨Nat.le_trans (Nat.le_of_ble_eq_true rfl) hRf, Nat.le_trans (Nat.le_of_ble_eq_true rfl) hRl⟩) rfl rfl rfl rfl (Nat.le_of_ble_eq_true rfl) dX2_wetBehind_11 ?_
  exact g_retd hret dX2_wetBehind_14 rfl rfl

set_option maxHeartbeats 4000000 in
set_option maxRecDepth 100000 in
theorem L_cust (X : gC) (S : Nat → Nat → Nat) (a : Nat) (K : gOk X cX2_customersOf 4 wsX2_customersOf RX2) (hRf : 1 ≤ (g_R X).frames) (hRl : 21 ≤ (g_R X).locals) (hw : wfC S) (ha : a < 2147483648) : ∀ (k p : Nat) (s : Nat), p + k = S 1 1 → gG X 38 [(0, .ref (g_ad X 1)), (1, .int (nI (a))), (2, .int (nI (((gfor (fCust S a) k p s))))), (3, .int (nI ((S 1 1))))] [] S → gG X 4 [(0, .ref (g_ad X 1)), (1, .int (nI (a))), (2, .int (nI (s))), (3, .int (nI (p)))] [] S := by
  have hin2 : ∀ w ∈ u_ws RX2 TX2 12, w ∈ wsX2_customersOf := by decide +kernel
  obtain ⟨w0, w1, w2, w3, wsh, wst, a2, a3, a4, a5, a6, a7⟩ := id hw
  intro k
  induction k with
  | zero =>
    intro p s hj kk
    have hj : p = S 1 1 := by omega
    refine g_iload_n K 3 dX2_customersOf_4 rfl ?_
    refine g_aload_n K 0 dX2_customersOf_5 rfl ?_
    refine g_getI (q := 1) (ci := 2) (k := 1) (N := 12) (C := RX2) (T := TX2) (ref := "ValveWalk$Network") K rfl rfl rfl (by decide) hin2 (by decide +kernel) rfl dX2_customersOf_6 ?_
    refine g_icmp_ge (tgt := 38) (a := p) (b := S 1 1) K dX2_customersOf_9 (by decide) (by omega) (by omega) (fun h9_1 => ?_) (fun h9_1 => ?_)
    · refine g_loc (lo' := [(0, .ref (g_ad X 1)), (1, .int (nI (a))), (2, .int (nI (s))), (3, .int (nI (p)))]) [0, 1, 2, 3] rfl ?_
      exact g_cast (by first | rfl | (rw [hj]; done) | (rw [hj]; rfl)) rfl rfl kk
    · exact absurd h9_1 (by omega)
  | succ k ih =>
    intro p s hj kk
    refine g_iload_n K 3 dX2_customersOf_4 rfl ?_
    refine g_aload_n K 0 dX2_customersOf_5 rfl ?_
    refine g_getI (q := 1) (ci := 2) (k := 1) (N := 12) (C := RX2) (T := TX2) (ref := "ValveWalk$Network") K rfl rfl rfl (by decide) hin2 (by decide +kernel) rfl dX2_customersOf_6 ?_
    refine g_icmp_ge (tgt := 38) (a := p) (b := S 1 1) K dX2_customersOf_9 (by decide) (by omega) (by omega) (fun h9_1 => ?_) (fun h9_1 => ?_)
    · exact absurd h9_1 (by omega)
    · refine g_iload_n K 1 dX2_customersOf_12 rfl ?_
      refine g_iload_n K 3 dX2_customersOf_13 rfl ?_
      refine g_callNd (As := [.int (nI (p))]) (rest := [.int (nI (a))]) (host := "ValveWalk") K (cX5_partOfPipe_k (g_z X) S p) ⟨va_cnB 1 K.1.2.2.2.2 gX2_customersOf_X5_partOfPipe_n51 rfl rfl rfl (K.2.2.2.1 _ (List.mem_of_getElem? (i := 4) rfl)) (K.1.2.2.2.2 _ (by decide +kernel)) (by decide +kernel) ⟨Nat.le_trans (Nat.le_of_ble_eq_true rfl) hRf, Nat.le_trans (Nat.le_of_ble_eq_true rfl) hRl⟩, K.1.2.2.2.2 _ (by decide +kernel), trivial⟩ rfl rfl (Nat.le_of_ble_eq_true rfl) dX2_customersOf_14 ?_
      refine g_callNd (As := [.int (nI (a)), .int (nI (12 + p))]) (rest := []) (host := "ValveWalk") K (cX5_hasBit_k (g_z X) S a (12 + p) (by omega) (by omega)) ⟨va_cnB 2 K.1.2.2.2.2 gX2_customersOf_X5_hasBit_n55 rfl rfl rfl (K.2.2.2.1 _ (List.mem_of_getElem? (i := 5) rfl)) (K.1.2.2.2.2 _ (by decide +kernel)) (by decide +kernel) ⟨Nat.le_trans (Nat.le_of_ble_eq_true rfl) hRf, Nat.le_trans (Nat.le_of_ble_eq_true rfl) hRl⟩, K.1.2.2.2.2 _ (by decide +kernel), trivial⟩ rfl rfl (Nat.le_of_ble_eq_true rfl) dX2_customersOf_17 ?_
      have hf17_2 := gbit_le a (12 + p)
      refine g_if_eq (tgt := 32) (a := gbit a (12 + p)) K dX2_customersOf_20 (by decide) (by omega) (fun h20_3 => ?_) (fun h20_3 => ?_)
      · refine g_iinc (a := p) (b := p + 1) (lo' := [(3, .int (nI (p + 1))), (0, .ref (g_ad X 1)), (1, .int (nI (a))), (2, .int (nI (s)))]) K 3 dX2_customersOf_32 rfl (gi_inc _) (by decide) rfl ?_
        refine g_goto (tgt := 4) K dX2_customersOf_35 (by decide) ?_
        refine g_loc (lo' := [(0, .ref (g_ad X 1)), (1, .int (nI (a))), (2, .int (nI (s))), (3, .int (nI (p + 1)))]) [1, 2, 3, 0] rfl ?_
        exact ih (p + 1) s (by omega)  (by rw [gfor_succ, show (fCust S a) p s = s from by simp only [fCust]; (repeat' split) <;> first | rfl | contradiction | (exfalso; omega) | omega] at kk; exact kk)
      · refine g_iload_n K 2 dX2_customersOf_23 rfl ?_
        refine g_aload_n K 0 dX2_customersOf_24 rfl ?_
        refine g_getR (q' := 3) (q := 1) (ci := 2) (k := 7) (N := 12) (C := RX2) (T := TX2) (ref := "ValveWalk$Network") K rfl rfl rfl (by decide) hin2 (by decide +kernel) rfl dX2_customersOf_25 ?_
        refine g_iload_n K 3 dX2_customersOf_28 rfl ?_
        refine g_ald (q := 3) (n := 16) (i := p) K rfl (by decide) (by omega) dX2_customersOf_29 ?_
        have hv29_4 := a3 (p)
        refine g_iadd (a := s) (b := S 3 (p)) K dX2_customersOf_30 ?_
        refine g_istore_n (lo' := [(2, .int (nI ((s) + (S 3 (p))))), (0, .ref (g_ad X 1)), (1, .int (nI (a))), (3, .int (nI (p)))]) K dX2_customersOf_31 (by decide) rfl ?_
        refine g_iinc (a := p) (b := p + 1) (lo' := [(3, .int (nI (p + 1))), (2, .int (nI ((s) + (S 3 (p))))), (0, .ref (g_ad X 1)), (1, .int (nI (a)))]) K 3 dX2_customersOf_32 rfl (gi_inc _) (by decide) rfl ?_
        refine g_goto (tgt := 4) K dX2_customersOf_35 (by decide) ?_
        refine g_loc (lo' := [(0, .ref (g_ad X 1)), (1, .int (nI (a))), (2, .int (nI ((s) + (S 3 (p))))), (3, .int (nI (p + 1)))]) [2, 3, 1, 0] rfl ?_
        exact ih (p + 1) ((s) + (S 3 (p))) (by omega)  (by rw [gfor_succ, show (fCust S a) p s = (s) + (S 3 (p)) from by simp only [fCust]; (repeat' split) <;> first | rfl | contradiction | (exfalso; omega) | omega] at kk; exact kk)

set_option maxHeartbeats 4000000 in
set_option maxRecDepth 100000 in
theorem cX2_customersOf_k (Z : gZ) (S : Nat → Nat → Nat) (a : Nat) (hw : wfC S) (ha : a < 2147483648) : gMd Z yX2_customersOf wsX2_customersOf { frames := 1, cells := 0, slots := 0, locals := 21 } [.ref (gz_ad Z 1), .int (nI (a))] S (custOf S a) (S) := by
  refine gMd_of (cc := cX2_customersOf) (maxL := 4) (ret := (some .int)) (by decide +kernel) rfl (Nat.le_of_ble_eq_true rfl) (Or.inl rfl) (fun X hZ hR K hret => ?_)
  subst hZ
  have K : gOk X cX2_customersOf 4 wsX2_customersOf RX2 := K
  have hRf : 1 ≤ (g_R X).frames := gR_f hR rfl
  have hRl : 21 ≤ (g_R X).locals := gR_l hR rfl
  have hin2 : ∀ w ∈ u_ws RX2 TX2 12, w ∈ wsX2_customersOf := by decide +kernel
  obtain ⟨w0, w1, w2, w3, wsh, wst, a2, a3, a4, a5, a6, a7⟩ := id hw
  show gG X 0 [(0, .ref (g_ad X 1)), (1, .int (nI (a)))] [] S
  refine g_iconst K 0 dX2_customersOf_0 (by decide +kernel) ?_
  refine g_istore_n (lo' := [(2, .int (nI (0))), (0, .ref (g_ad X 1)), (1, .int (nI (a)))]) K dX2_customersOf_1 (by decide) rfl ?_
  refine g_iconst K 0 dX2_customersOf_2 (by decide +kernel) ?_
  refine g_istore_n (lo' := [(3, .int (nI (0))), (2, .int (nI (0))), (0, .ref (g_ad X 1)), (1, .int (nI (a)))]) K dX2_customersOf_3 (by decide) rfl ?_
  refine g_loc (lo' := [(0, .ref (g_ad X 1)), (1, .int (nI (a))), (2, .int (nI (0))), (3, .int (nI (0)))]) [2, 3, 1, 0] rfl ?_
  refine L_cust X S a K (Nat.le_trans (Nat.le_of_ble_eq_true rfl) hRf) (Nat.le_trans (Nat.le_of_ble_eq_true rfl) hRl) (hw) (ha)  (S 1 1) 0 0 (by omega)  ?_
  refine g_iload_n K 2 dX2_customersOf_38 rfl ?_
  exact g_retd hret dX2_customersOf_39 rfl rfl

set_option maxHeartbeats 4000000 in
set_option maxRecDepth 100000 in
theorem cX2_markSource_k (Z : gZ) (S : Nat → Nat → Nat) (n i : Nat) (h3 : S 1 3 < 2147483648) (hn : n < 32) (hi : i < 4294967296) : gMd Z yX2_markSource wsX2_markSource { frames := 1, cells := 0, slots := 0, locals := 22 } [.ref (gz_ad Z 1), .int (nI (n)), .int (nI (i))] S (gbit (S 1 3) n) (gup S 1 3 (gwith (S 1 3) n i)) := by
  refine gMd_of (cc := cX2_markSource) (maxL := 4) (ret := (some .boolean)) (by decide +kernel) rfl (Nat.le_of_ble_eq_true rfl) (Or.inr ⟨rfl, gbit_le _ _⟩) (fun X hZ hR K hret => ?_)
  subst hZ
  have K : gOk X cX2_markSource 4 wsX2_markSource RX2 := K
  have hRf : 1 ≤ (g_R X).frames := gR_f hR rfl
  have hRl : 22 ≤ (g_R X).locals := gR_l hR rfl
  have hin2 : ∀ w ∈ u_ws RX2 TX2 12, w ∈ wsX2_markSource := by decide +kernel
  show gG X 0 [(0, .ref (g_ad X 1)), (1, .int (nI (n))), (2, .int (nI (i)))] [] S
  refine g_aload_n K 0 dX2_markSource_0 rfl ?_
  refine g_getI (q := 1) (ci := 2) (k := 3) (N := 12) (C := RX2) (T := TX2) (ref := "ValveWalk$Network") K rfl rfl rfl (by decide) hin2 (by decide +kernel) rfl dX2_markSource_1 ?_
  refine g_iload_n K 1 dX2_markSource_4 rfl ?_
  refine g_callNd (As := [.int (nI (S 1 3)), .int (nI (n))]) (rest := []) (host := "ValveWalk") K (cX5_hasBit_k (g_z X) S (S 1 3) n (by omega) (by omega)) ⟨va_cnB 2 K.1.2.2.2.2 gX2_markSource_X5_hasBit_n55 rfl rfl rfl (K.2.2.2.1 _ (List.mem_of_getElem? (i := 5) rfl)) (K.1.2.2.2.2 _ (by decide +kernel)) (by decide +kernel) ⟨Nat.le_trans (Nat.le_of_ble_eq_true rfl) hRf, Nat.le_trans (Nat.le_of_ble_eq_true rfl) hRl⟩, K.1.2.2.2.2 _ (by decide +kernel), trivial⟩ rfl rfl (Nat.le_of_ble_eq_true rfl) dX2_markSource_5 ?_
  have hf5_1 := gbit_le (S 1 3) n
  refine g_istore_n (lo' := [(3, .int (nI (gbit (S 1 3) n))), (0, .ref (g_ad X 1)), (1, .int (nI (n))), (2, .int (nI (i)))]) K dX2_markSource_8 (by decide) rfl ?_
  refine g_aload_n K 1 dX2_markSource_9 rfl ?_
  refine g_aload_n K 1 dX2_markSource_10 rfl ?_
  refine g_getI (q := 1) (ci := 2) (k := 3) (N := 12) (C := RX2) (T := TX2) (ref := "ValveWalk$Network") K rfl rfl rfl (by decide) hin2 (by decide +kernel) rfl dX2_markSource_11 ?_
  refine g_iload_n K 2 dX2_markSource_14 rfl ?_
  refine g_iload_n K 3 dX2_markSource_15 rfl ?_
  refine g_callNd (As := [.int (nI (S 1 3)), .int (nI (n)), .int (nI (i))]) (rest := [.ref (g_ad X 1)]) (host := "ValveWalk") K (cX5_withBit_k (g_z X) S (S 1 3) n i (by omega) (by omega)) ⟨va_cnB 3 K.1.2.2.2.2 gX2_markSource_X5_withBit_n59 rfl rfl rfl (K.2.2.2.1 _ (List.mem_of_getElem? (i := 6) rfl)) (K.1.2.2.2.2 _ (by decide +kernel)) (by decide +kernel) ⟨Nat.le_trans (Nat.le_of_ble_eq_true rfl) hRf, Nat.le_trans (Nat.le_of_ble_eq_true rfl) hRl⟩, K.1.2.2.2.2 _ (by decide +kernel), trivial⟩ rfl rfl (Nat.le_of_ble_eq_true rfl) dX2_markSource_16 ?_
  refine g_putI (q := 1) (ci := 2) (k := 3) (N := 12) (C := RX2) (T := TX2) (ref := "ValveWalk$Network") (a := gwith (S 1 3) n i) K rfl rfl rfl (by decide) hin2 tyX2_ok nmX2 (by decide +kernel) rfl rfl (by decide +kernel) dX2_markSource_19 ?_
  refine g_iload_n K 0 dX2_markSource_22 rfl ?_
  exact g_retd hret dX2_markSource_23 rfl rfl

set_option maxHeartbeats 4000000 in
set_option maxRecDepth 100000 in
theorem cX2_markStuck_k (Z : gZ) (S : Nat → Nat → Nat) (n i : Nat) (h3 : S 1 5 < 2147483648) (hn : n < 32) (hi : i < 4294967296) : gMd Z yX2_markStuck wsX2_markStuck { frames := 1, cells := 0, slots := 0, locals := 22 } [.ref (gz_ad Z 1), .int (nI (n)), .int (nI (i))] S (gbit (S 1 5) n) (gup S 1 5 (gwith (S 1 5) n i)) := by
  refine gMd_of (cc := cX2_markStuck) (maxL := 4) (ret := (some .boolean)) (by decide +kernel) rfl (Nat.le_of_ble_eq_true rfl) (Or.inr ⟨rfl, gbit_le _ _⟩) (fun X hZ hR K hret => ?_)
  subst hZ
  have K : gOk X cX2_markStuck 4 wsX2_markStuck RX2 := K
  have hRf : 1 ≤ (g_R X).frames := gR_f hR rfl
  have hRl : 22 ≤ (g_R X).locals := gR_l hR rfl
  have hin2 : ∀ w ∈ u_ws RX2 TX2 12, w ∈ wsX2_markStuck := by decide +kernel
  show gG X 0 [(0, .ref (g_ad X 1)), (1, .int (nI (n))), (2, .int (nI (i)))] [] S
  refine g_aload_n K 0 dX2_markStuck_0 rfl ?_
  refine g_getI (q := 1) (ci := 2) (k := 5) (N := 12) (C := RX2) (T := TX2) (ref := "ValveWalk$Network") K rfl rfl rfl (by decide) hin2 (by decide +kernel) rfl dX2_markStuck_1 ?_
  refine g_iload_n K 1 dX2_markStuck_4 rfl ?_
  refine g_callNd (As := [.int (nI (S 1 5)), .int (nI (n))]) (rest := []) (host := "ValveWalk") K (cX5_hasBit_k (g_z X) S (S 1 5) n (by omega) (by omega)) ⟨va_cnB 2 K.1.2.2.2.2 gX2_markStuck_X5_hasBit_n55 rfl rfl rfl (K.2.2.2.1 _ (List.mem_of_getElem? (i := 5) rfl)) (K.1.2.2.2.2 _ (by decide +kernel)) (by decide +kernel) ⟨Nat.le_trans (Nat.le_of_ble_eq_true rfl) hRf, Nat.le_trans (Nat.le_of_ble_eq_true rfl) hRl⟩, K.1.2.2.2.2 _ (by decide +kernel), trivial⟩ rfl rfl (Nat.le_of_ble_eq_true rfl) dX2_markStuck_5 ?_
  have hf5_1 := gbit_le (S 1 5) n
  refine g_istore_n (lo' := [(3, .int (nI (gbit (S 1 5) n))), (0, .ref (g_ad X 1)), (1, .int (nI (n))), (2, .int (nI (i)))]) K dX2_markStuck_8 (by decide) rfl ?_
  refine g_aload_n K 1 dX2_markStuck_9 rfl ?_
  refine g_aload_n K 1 dX2_markStuck_10 rfl ?_
  refine g_getI (q := 1) (ci := 2) (k := 5) (N := 12) (C := RX2) (T := TX2) (ref := "ValveWalk$Network") K rfl rfl rfl (by decide) hin2 (by decide +kernel) rfl dX2_markStuck_11 ?_
  refine g_iload_n K 2 dX2_markStuck_14 rfl ?_
  refine g_iload_n K 3 dX2_markStuck_15 rfl ?_
  refine g_callNd (As := [.int (nI (S 1 5)), .int (nI (n)), .int (nI (i))]) (rest := [.ref (g_ad X 1)]) (host := "ValveWalk") K (cX5_withBit_k (g_z X) S (S 1 5) n i (by omega) (by omega)) ⟨va_cnB 3 K.1.2.2.2.2 gX2_markStuck_X5_withBit_n59 rfl rfl rfl (K.2.2.2.1 _ (List.mem_of_getElem? (i := 6) rfl)) (K.1.2.2.2.2 _ (by decide +kernel)) (by decide +kernel) ⟨Nat.le_trans (Nat.le_of_ble_eq_true rfl) hRf, Nat.le_trans (Nat.le_of_ble_eq_true rfl) hRl⟩, K.1.2.2.2.2 _ (by decide +kernel), trivial⟩ rfl rfl (Nat.le_of_ble_eq_true rfl) dX2_markStuck_16 ?_
  refine g_putI (q := 1) (ci := 2) (k := 5) (N := 12) (C := RX2) (T := TX2) (ref := "ValveWalk$Network") (a := gwith (S 1 5) n i) K rfl rfl rfl (by decide) hin2 tyX2_ok nmX2 (by decide +kernel) rfl rfl (by decide +kernel) dX2_markStuck_19 ?_
  refine g_iload_n K 0 dX2_markStuck_22 rfl ?_
  exact g_retd hret dX2_markStuck_23 rfl rfl

set_option maxHeartbeats 4000000 in
set_option maxRecDepth 100000 in
theorem cX2_markShut_k (Z : gZ) (S : Nat → Nat → Nat) (n i : Nat) (h3 : S 1 4 < 2147483648) (hn : n < 32) (hi : i < 4294967296) : gMd Z yX2_markShut wsX2_markShut { frames := 1, cells := 0, slots := 0, locals := 22 } [.ref (gz_ad Z 1), .int (nI (n)), .int (nI (i))] S (gbit (S 1 4) n) (gup S 1 4 (gwith (S 1 4) n i)) := by
  refine gMd_of (cc := cX2_markShut) (maxL := 4) (ret := (some .boolean)) (by decide +kernel) rfl (Nat.le_of_ble_eq_true rfl) (Or.inr ⟨rfl, gbit_le _ _⟩) (fun X hZ hR K hret => ?_)
  subst hZ
  have K : gOk X cX2_markShut 4 wsX2_markShut RX2 := K
  have hRf : 1 ≤ (g_R X).frames := gR_f hR rfl
  have hRl : 22 ≤ (g_R X).locals := gR_l hR rfl
  have hin2 : ∀ w ∈ u_ws RX2 TX2 12, w ∈ wsX2_markShut := by decide +kernel
  show gG X 0 [(0, .ref (g_ad X 1)), (1, .int (nI (n))), (2, .int (nI (i)))] [] S
  refine g_aload_n K 0 dX2_markShut_0 rfl ?_
  refine g_getI (q := 1) (ci := 2) (k := 4) (N := 12) (C := RX2) (T := TX2) (ref := "ValveWalk$Network") K rfl rfl rfl (by decide) hin2 (by decide +kernel) rfl dX2_markShut_1 ?_
  refine g_iload_n K 1 dX2_markShut_4 rfl ?_
  refine g_callNd (As := [.int (nI (S 1 4)), .int (nI (n))]) (rest := []) (host := "ValveWalk") K (cX5_hasBit_k (g_z X) S (S 1 4) n (by omega) (by omega)) ⟨va_cnB 2 K.1.2.2.2.2 gX2_markShut_X5_hasBit_n55 rfl rfl rfl (K.2.2.2.1 _ (List.mem_of_getElem? (i := 5) rfl)) (K.1.2.2.2.2 _ (by decide +kernel)) (by decide +kernel) ⟨Nat.le_trans (Nat.le_of_ble_eq_true rfl) hRf, Nat.le_trans (Nat.le_of_ble_eq_true rfl) hRl⟩, K.1.2.2.2.2 _ (by decide +kernel), trivial⟩ rfl rfl (Nat.le_of_ble_eq_true rfl) dX2_markShut_5 ?_
  have hf5_1 := gbit_le (S 1 4) n
  refine g_istore_n (lo' := [(3, .int (nI (gbit (S 1 4) n))), (0, .ref (g_ad X 1)), (1, .int (nI (n))), (2, .int (nI (i)))]) K dX2_markShut_8 (by decide) rfl ?_
  refine g_aload_n K 1 dX2_markShut_9 rfl ?_
  refine g_aload_n K 1 dX2_markShut_10 rfl ?_
  refine g_getI (q := 1) (ci := 2) (k := 4) (N := 12) (C := RX2) (T := TX2) (ref := "ValveWalk$Network") K rfl rfl rfl (by decide) hin2 (by decide +kernel) rfl dX2_markShut_11 ?_
  refine g_iload_n K 2 dX2_markShut_14 rfl ?_
  refine g_iload_n K 3 dX2_markShut_15 rfl ?_
  refine g_callNd (As := [.int (nI (S 1 4)), .int (nI (n)), .int (nI (i))]) (rest := [.ref (g_ad X 1)]) (host := "ValveWalk") K (cX5_withBit_k (g_z X) S (S 1 4) n i (by omega) (by omega)) ⟨va_cnB 3 K.1.2.2.2.2 gX2_markShut_X5_withBit_n59 rfl rfl rfl (K.2.2.2.1 _ (List.mem_of_getElem? (i := 6) rfl)) (K.1.2.2.2.2 _ (by decide +kernel)) (by decide +kernel) ⟨Nat.le_trans (Nat.le_of_ble_eq_true rfl) hRf, Nat.le_trans (Nat.le_of_ble_eq_true rfl) hRl⟩, K.1.2.2.2.2 _ (by decide +kernel), trivial⟩ rfl rfl (Nat.le_of_ble_eq_true rfl) dX2_markShut_16 ?_
  refine g_putI (q := 1) (ci := 2) (k := 4) (N := 12) (C := RX2) (T := TX2) (ref := "ValveWalk$Network") (a := gwith (S 1 4) n i) K rfl rfl rfl (by decide) hin2 tyX2_ok nmX2 (by decide +kernel) rfl rfl (by decide +kernel) dX2_markShut_19 ?_
  refine g_iload_n K 0 dX2_markShut_22 rfl ?_
  exact g_retd hret dX2_markShut_23 rfl rfl

set_option maxHeartbeats 4000000 in
set_option maxRecDepth 100000 in
theorem cX2_putNode_k (Z : gZ) (S : Nat → Nat → Nat) (i : Nat) (hw : wfC S) (hi : i < 4294967296) : gMd Z yX2_putNode wsX2_putNode { frames := 2, cells := 0, slots := 0, locals := 45 } [.ref (gz_ad Z 1), .int (nI (i))] S (S 1 0) (gup (gup S 1 0 (S 1 0 + 1)) 1 3 (gwith (S 1 3) (S 1 0) i)) := by
  refine gMd_of (cc := cX2_putNode) (maxL := 3) (ret := (some .int)) (by decide +kernel) rfl (Nat.le_of_ble_eq_true rfl) (Or.inl rfl) (fun X hZ hR K hret => ?_)
  subst hZ
  have K : gOk X cX2_putNode 3 wsX2_putNode RX2 := K
  have hRf : 2 ≤ (g_R X).frames := gR_f hR rfl
  have hRl : 45 ≤ (g_R X).locals := gR_l hR rfl
  have hin2 : ∀ w ∈ u_ws RX2 TX2 12, w ∈ wsX2_putNode := by decide +kernel
  obtain ⟨w0, w1, w2, w3, wsh, wst, a2, a3, a4, a5, a6, a7⟩ := id hw
  show gG X 0 [(0, .ref (g_ad X 1)), (1, .int (nI (i)))] [] S
  refine g_aload_n K 0 dX2_putNode_0 rfl ?_
  refine g_getI (q := 1) (ci := 2) (k := 0) (N := 12) (C := RX2) (T := TX2) (ref := "ValveWalk$Network") K rfl rfl rfl (by decide) hin2 (by decide +kernel) rfl dX2_putNode_1 ?_
  refine g_istore_n (lo' := [(2, .int (nI (S 1 0))), (0, .ref (g_ad X 1)), (1, .int (nI (i)))]) K dX2_putNode_4 (by decide) rfl ?_
  refine g_aload_n K 1 dX2_putNode_5 rfl ?_
  refine g_dup K dX2_putNode_6 rfl ?_
  refine g_getI (q := 1) (ci := 2) (k := 0) (N := 12) (C := RX2) (T := TX2) (ref := "ValveWalk$Network") K rfl rfl rfl (by decide) hin2 (by decide +kernel) rfl dX2_putNode_7 ?_
  refine g_iconst K 1 dX2_putNode_10 (by decide +kernel) ?_
  refine g_iadd (a := S 1 0) (b := 1) K dX2_putNode_11 ?_
  refine g_putI (q := 1) (ci := 2) (k := 0) (N := 12) (C := RX2) (T := TX2) (ref := "ValveWalk$Network") (a := (S 1 0) + (1)) K rfl rfl rfl (by decide) hin2 tyX2_ok nmX2 (by decide +kernel) rfl rfl (by decide +kernel) dX2_putNode_12 ?_
  refine g_aload_n K 1 dX2_putNode_15 rfl ?_
  refine g_iload_n K 0 dX2_putNode_16 rfl ?_
  refine g_iload_n K 2 dX2_putNode_17 rfl ?_
  refine g_callVd (q := 1) (ci := 2) (As := [.int (nI (S 1 0)), .int (nI (i))]) (rest := []) (C := RX2) (T := TX2) (N := 12) K (cX2_markSource_k (g_z X) (gup S 1 0 ((S 1 0) + (1))) (S 1 0) i (by show S 1 3 < _; omega) (by omega) (by omega)) (cwV 2 K.1.2.2.2.2 gX2_putNode_X2_markSource rfl rfl rfl (by decide +kernel) ⟨Nat.le_trans (Nat.le_of_ble_eq_true rfl) hRf, Nat.le_trans (Nat.le_of_ble_eq_true rfl) hRl⟩) rfl rfl rfl rfl (Nat.le_of_ble_eq_true rfl) dX2_putNode_18 ?_
  refine g_pop K dX2_putNode_21 rfl ?_
  refine g_iload_n K 0 dX2_putNode_22 rfl ?_
  exact g_retd hret dX2_putNode_23 rfl rfl

set_option maxHeartbeats 4000000 in
set_option maxRecDepth 100000 in
theorem cX2_join_k (Z : gZ) (S : Nat → Nat → Nat) (p e n : Nat) (hp : 2 * p + e < 32) (hn : n < 32) (h12 : p < 20) : gMv Z yX2_join wsX2_join { frames := 1, cells := 0, slots := 0, locals := 20 } [.ref (gz_ad Z 1), .int (nI (p)), .int (nI (e)), .int (nI (n))] S (gup (gup S 4 (2 * p + e) n) 6 (2 * p + e) ((1 <<< n) ||| (1 <<< (12 + p)))) := by
  refine gMv_of (cc := cX2_join) (maxL := 5) (by decide +kernel) rfl (Nat.le_of_ble_eq_true rfl)  (fun X hZ hR K hret => ?_)
  subst hZ
  have K : gOk X cX2_join 5 wsX2_join RX2 := K
  have hRf : 1 ≤ (g_R X).frames := gR_f hR rfl
  have hRl : 20 ≤ (g_R X).locals := gR_l hR rfl
  have hin2 : ∀ w ∈ u_ws RX2 TX2 12, w ∈ wsX2_join := by decide +kernel
  show gG X 0 [(0, .ref (g_ad X 1)), (1, .int (nI (p))), (2, .int (nI (e))), (3, .int (nI (n)))] [] S
  refine g_iconst K 2 dX2_join_0 (by decide +kernel) ?_
  refine g_iload_n K 1 dX2_join_1 rfl ?_
  refine g_imul (a := 2) (b := p) K dX2_join_2 ?_
  refine g_iload_n K 2 dX2_join_3 rfl ?_
  refine g_iadd (a := (2) * (p)) (b := e) K dX2_join_4 ?_
  refine g_istore (lo' := [(4, .int (nI (((2) * (p)) + (e)))), (0, .ref (g_ad X 1)), (1, .int (nI (p))), (2, .int (nI (e))), (3, .int (nI (n)))]) K dX2_join_5 (by decide) rfl ?_
  refine g_aload_n K 1 dX2_join_7 rfl ?_
  refine g_getR (q' := 4) (q := 1) (ci := 2) (k := 8) (N := 12) (C := RX2) (T := TX2) (ref := "ValveWalk$Network") K rfl rfl rfl (by decide) hin2 (by decide +kernel) rfl dX2_join_8 ?_
  refine g_iload K 0 dX2_join_11 rfl ?_
  refine g_iload_n K 4 dX2_join_13 rfl ?_
  refine g_ast (q := 4) (n := 32) (i := ((2) * (p)) + (e)) (a := n) K rfl (by decide) (by omega) dX2_join_14 ?_
  refine g_aload_n K 1 dX2_join_15 rfl ?_
  refine g_getR (q' := 6) (q := 1) (ci := 2) (k := 10) (N := 12) (C := RX2) (T := TX2) (ref := "ValveWalk$Network") K rfl rfl rfl (by decide) hin2 (by decide +kernel) rfl dX2_join_16 ?_
  refine g_iload K 0 dX2_join_19 rfl ?_
  refine g_iconst K 1 dX2_join_21 (by decide +kernel) ?_
  refine g_iload_n K 4 dX2_join_22 rfl ?_
  refine g_ishl (a := 1) (b := n) K (by omega) dX2_join_23 ?_
  refine g_iconst K 1 dX2_join_24 (by decide +kernel) ?_
  refine g_iload_n K 2 dX2_join_25 rfl ?_
  refine g_callNd (As := [.int (nI (p))]) (rest := [.int (nI (1)), .int (nI ((1) <<< (n))), .int (nI (((2) * (p)) + (e))), .ref (g_ad X 6)]) (host := "ValveWalk") K (cX5_partOfPipe_k (g_z X) (gup S 4 (((2) * (p)) + (e)) (n)) p) ⟨va_cnB 1 K.1.2.2.2.2 gX2_join_X5_partOfPipe_n51 rfl rfl rfl (K.2.2.2.1 _ (List.mem_of_getElem? (i := 4) rfl)) (K.1.2.2.2.2 _ (by decide +kernel)) (by decide +kernel) ⟨Nat.le_trans (Nat.le_of_ble_eq_true rfl) hRf, Nat.le_trans (Nat.le_of_ble_eq_true rfl) hRl⟩, K.1.2.2.2.2 _ (by decide +kernel), trivial⟩ rfl rfl (Nat.le_of_ble_eq_true rfl) dX2_join_26 ?_
  refine g_ishl (a := 1) (b := 12 + p) K (by omega) dX2_join_29 ?_
  refine g_ior (a := (1) <<< (n)) (b := (1) <<< (12 + p)) K dX2_join_30 ?_
  refine g_ast (q := 6) (n := 32) (i := ((2) * (p)) + (e)) (a := ((1) <<< (n)) ||| ((1) <<< (12 + p))) K rfl (by decide) (by omega) dX2_join_31 ?_
  exact g_retv hret dX2_join_32 rfl

set_option maxHeartbeats 4000000 in
set_option maxRecDepth 100000 in
theorem cX2_putPipe_k (Z : gZ) (S : Nat → Nat → Nat) (x y ln cu : Nat) (h1 : S 1 1 < 16) (hx : x < 12) (hy : y < 12) : gMd Z yX2_putPipe wsX2_putPipe { frames := 2, cells := 0, slots := 0, locals := 44 } [.ref (gz_ad Z 1), .int (nI (x)), .int (nI (y)), .int (nI (ln)), .int (nI (cu))] S (S 1 1) (gup (gup (gup (gup (gup (gup (gup S 1 1 (S 1 1 + 1)) 2 (S 1 1) ln) 3 (S 1 1) cu) 4 (2 * S 1 1 + 0) x) 6 (2 * S 1 1 + 0) ((1 <<< x) ||| (1 <<< (12 + S 1 1)))) 4 (2 * S 1 1 + 1) y) 6 (2 * S 1 1 + 1) ((1 <<< y) ||| (1 <<< (12 + S 1 1)))) := by
  refine gMd_of (cc := cX2_putPipe) (maxL := 6) (ret := (some .int)) (by decide +kernel) rfl (Nat.le_of_ble_eq_true rfl) (Or.inl rfl) (fun X hZ hR K hret => ?_)
  subst hZ
  have K : gOk X cX2_putPipe 6 wsX2_putPipe RX2 := K
  have hRf : 2 ≤ (g_R X).frames := gR_f hR rfl
  have hRl : 44 ≤ (g_R X).locals := gR_l hR rfl
  have hin2 : ∀ w ∈ u_ws RX2 TX2 12, w ∈ wsX2_putPipe := by decide +kernel
  show gG X 0 [(0, .ref (g_ad X 1)), (1, .int (nI (x))), (2, .int (nI (y))), (3, .int (nI (ln))), (4, .int (nI (cu)))] [] S
  refine g_aload_n K 0 dX2_putPipe_0 rfl ?_
  refine g_getI (q := 1) (ci := 2) (k := 1) (N := 12) (C := RX2) (T := TX2) (ref := "ValveWalk$Network") K rfl rfl rfl (by decide) hin2 (by decide +kernel) rfl dX2_putPipe_1 ?_
  refine g_istore (lo' := [(5, .int (nI (S 1 1))), (0, .ref (g_ad X 1)), (1, .int (nI (x))), (2, .int (nI (y))), (3, .int (nI (ln))), (4, .int (nI (cu)))]) K dX2_putPipe_4 (by decide) rfl ?_
  refine g_aload_n K 1 dX2_putPipe_6 rfl ?_
  refine g_dup K dX2_putPipe_7 rfl ?_
  refine g_getI (q := 1) (ci := 2) (k := 1) (N := 12) (C := RX2) (T := TX2) (ref := "ValveWalk$Network") K rfl rfl rfl (by decide) hin2 (by decide +kernel) rfl dX2_putPipe_8 ?_
  refine g_iconst K 1 dX2_putPipe_11 (by decide +kernel) ?_
  refine g_iadd (a := S 1 1) (b := 1) K dX2_putPipe_12 ?_
  refine g_putI (q := 1) (ci := 2) (k := 1) (N := 12) (C := RX2) (T := TX2) (ref := "ValveWalk$Network") (a := (S 1 1) + (1)) K rfl rfl rfl (by decide) hin2 tyX2_ok nmX2 (by decide +kernel) rfl rfl (by decide +kernel) dX2_putPipe_13 ?_
  refine g_aload_n K 1 dX2_putPipe_16 rfl ?_
  refine g_getR (q' := 2) (q := 1) (ci := 2) (k := 6) (N := 12) (C := RX2) (T := TX2) (ref := "ValveWalk$Network") K rfl rfl rfl (by decide) hin2 (by decide +kernel) rfl dX2_putPipe_17 ?_
  refine g_iload K 0 dX2_putPipe_20 rfl ?_
  refine g_iload_n K 4 dX2_putPipe_22 rfl ?_
  refine g_ast (q := 2) (n := 16) (i := S 1 1) (a := ln) K rfl (by decide) (by omega) dX2_putPipe_23 ?_
  refine g_aload_n K 1 dX2_putPipe_24 rfl ?_
  refine g_getR (q' := 3) (q := 1) (ci := 2) (k := 7) (N := 12) (C := RX2) (T := TX2) (ref := "ValveWalk$Network") K rfl rfl rfl (by decide) hin2 (by decide +kernel) rfl dX2_putPipe_25 ?_
  refine g_iload K 0 dX2_putPipe_28 rfl ?_
  refine g_iload K 5 dX2_putPipe_30 rfl ?_
  refine g_ast (q := 3) (n := 16) (i := S 1 1) (a := cu) K rfl (by decide) (by omega) dX2_putPipe_32 ?_
  refine g_aload_n K 1 dX2_putPipe_33 rfl ?_
  refine g_iload K 0 dX2_putPipe_34 rfl ?_
  refine g_iconst K 0 dX2_putPipe_36 (by decide +kernel) ?_
  refine g_iload_n K 2 dX2_putPipe_37 rfl ?_
  refine g_callVv (q := 1) (ci := 2) (As := [.int (nI (S 1 1)), .int (nI (0)), .int (nI (x))]) (rest := []) (C := RX2) (T := TX2) (N := 12) K (cX2_join_k (g_z X) (gup (gup (gup S 1 1 ((S 1 1) + (1))) 2 (S 1 1) (ln)) 3 (S 1 1) (cu)) (S 1 1) 0 x (by omega) (by omega) (by omega)) (cwV 3 K.1.2.2.2.2 gX2_putPipe_X2_join rfl rfl rfl (by decide +kernel) ⟨Nat.le_trans (Nat.le_of_ble_eq_true rfl) hRf, Nat.le_trans (Nat.le_of_ble_eq_true rfl) hRl⟩) rfl rfl rfl rfl (Nat.le_of_ble_eq_true rfl) dX2_putPipe_38 ?_
  refine g_aload_n K 1 dX2_putPipe_41 rfl ?_
  refine g_iload K 0 dX2_putPipe_42 rfl ?_
  refine g_iconst K 1 dX2_putPipe_44 (by decide +kernel) ?_
  refine g_iload_n K 3 dX2_putPipe_45 rfl ?_
  refine g_callVv (q := 1) (ci := 2) (As := [.int (nI (S 1 1)), .int (nI (1)), .int (nI (y))]) (rest := []) (C := RX2) (T := TX2) (N := 12) K (cX2_join_k (g_z X) (gup (gup (gup (gup (gup S 1 1 ((S 1 1) + (1))) 2 (S 1 1) (ln)) 3 (S 1 1) (cu)) 4 (2 * (S 1 1) + 0) x) 6 (2 * (S 1 1) + 0) ((1 <<< x) ||| (1 <<< (12 + (S 1 1))))) (S 1 1) 1 y (by omega) (by omega) (by omega)) (cwV 3 K.1.2.2.2.2 gX2_putPipe_X2_join rfl rfl rfl (by decide +kernel) ⟨Nat.le_trans (Nat.le_of_ble_eq_true rfl) hRf, Nat.le_trans (Nat.le_of_ble_eq_true rfl) hRl⟩) rfl rfl rfl rfl (Nat.le_of_ble_eq_true rfl) dX2_putPipe_46 ?_
  refine g_iload K 0 dX2_putPipe_49 rfl ?_
  exact g_retd hret dX2_putPipe_51 rfl rfl

set_option maxHeartbeats 4000000 in
set_option maxRecDepth 100000 in
theorem cX2_putValve_k (Z : gZ) (S : Nat → Nat → Nat) (p e : Nat) (h2 : S 1 2 < 12) (hp : 2 * p + e < 32) : gMd Z yX2_putValve wsX2_putValve { frames := 0, cells := 0, slots := 0, locals := 0 } [.ref (gz_ad Z 1), .int (nI (p)), .int (nI (e))] S (S 1 2) (gup (gup (gup S 1 2 (S 1 2 + 1)) 5 (2 * p + e) (1 <<< S 1 2)) 7 (S 1 2) (2 * p + e)) := by
  refine gMd_of (cc := cX2_putValve) (maxL := 5) (ret := (some .int)) (by decide +kernel) rfl (Nat.le_of_ble_eq_true rfl) (Or.inl rfl) (fun X hZ hR K hret => ?_)
  subst hZ
  have K : gOk X cX2_putValve 5 wsX2_putValve RX2 := K
  have hRf : 0 ≤ (g_R X).frames := gR_f hR rfl
  have hRl : 0 ≤ (g_R X).locals := gR_l hR rfl
  have hin2 : ∀ w ∈ u_ws RX2 TX2 12, w ∈ wsX2_putValve := by decide +kernel
  show gG X 0 [(0, .ref (g_ad X 1)), (1, .int (nI (p))), (2, .int (nI (e)))] [] S
  refine g_aload_n K 0 dX2_putValve_0 rfl ?_
  refine g_getI (q := 1) (ci := 2) (k := 2) (N := 12) (C := RX2) (T := TX2) (ref := "ValveWalk$Network") K rfl rfl rfl (by decide) hin2 (by decide +kernel) rfl dX2_putValve_1 ?_
  refine g_istore_n (lo' := [(3, .int (nI (S 1 2))), (0, .ref (g_ad X 1)), (1, .int (nI (p))), (2, .int (nI (e)))]) K dX2_putValve_4 (by decide) rfl ?_
  refine g_aload_n K 1 dX2_putValve_5 rfl ?_
  refine g_dup K dX2_putValve_6 rfl ?_
  refine g_getI (q := 1) (ci := 2) (k := 2) (N := 12) (C := RX2) (T := TX2) (ref := "ValveWalk$Network") K rfl rfl rfl (by decide) hin2 (by decide +kernel) rfl dX2_putValve_7 ?_
  refine g_iconst K 1 dX2_putValve_10 (by decide +kernel) ?_
  refine g_iadd (a := S 1 2) (b := 1) K dX2_putValve_11 ?_
  refine g_putI (q := 1) (ci := 2) (k := 2) (N := 12) (C := RX2) (T := TX2) (ref := "ValveWalk$Network") (a := (S 1 2) + (1)) K rfl rfl rfl (by decide) hin2 tyX2_ok nmX2 (by decide +kernel) rfl rfl (by decide +kernel) dX2_putValve_12 ?_
  refine g_iconst K 2 dX2_putValve_15 (by decide +kernel) ?_
  refine g_iload_n K 2 dX2_putValve_16 rfl ?_
  refine g_imul (a := 2) (b := p) K dX2_putValve_17 ?_
  refine g_iload_n K 3 dX2_putValve_18 rfl ?_
  refine g_iadd (a := (2) * (p)) (b := e) K dX2_putValve_19 ?_
  refine g_istore (lo' := [(4, .int (nI (((2) * (p)) + (e)))), (3, .int (nI (S 1 2))), (0, .ref (g_ad X 1)), (1, .int (nI (p))), (2, .int (nI (e)))]) K dX2_putValve_20 (by decide) rfl ?_
  refine g_aload_n K 2 dX2_putValve_22 rfl ?_
  refine g_getR (q' := 5) (q := 1) (ci := 2) (k := 9) (N := 12) (C := RX2) (T := TX2) (ref := "ValveWalk$Network") K rfl rfl rfl (by decide) hin2 (by decide +kernel) rfl dX2_putValve_23 ?_
  refine g_iload K 0 dX2_putValve_26 rfl ?_
  refine g_iconst K 1 dX2_putValve_28 (by decide +kernel) ?_
  refine g_iload_n K 1 dX2_putValve_29 rfl ?_
  refine g_ishl (a := 1) (b := S 1 2) K (by omega) dX2_putValve_30 ?_
  refine g_ast (q := 5) (n := 32) (i := ((2) * (p)) + (e)) (a := (1) <<< (S 1 2)) K rfl (by decide) (by omega) dX2_putValve_31 ?_
  refine g_aload_n K 2 dX2_putValve_32 rfl ?_
  refine g_getR (q' := 7) (q := 1) (ci := 2) (k := 11) (N := 12) (C := RX2) (T := TX2) (ref := "ValveWalk$Network") K rfl rfl rfl (by decide) hin2 (by decide +kernel) rfl dX2_putValve_33 ?_
  refine g_iload_n K 1 dX2_putValve_36 rfl ?_
  refine g_iload K 0 dX2_putValve_37 rfl ?_
  refine g_ast (q := 7) (n := 12) (i := S 1 2) (a := ((2) * (p)) + (e)) K rfl (by decide) (by omega) dX2_putValve_39 ?_
  refine g_iload_n K 1 dX2_putValve_40 rfl ?_
  exact g_retd hret dX2_putValve_41 rfl rfl

