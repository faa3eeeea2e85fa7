/-! Breaks -/
theorem nI_mod (a : Nat) : nI a = nI (a % 4294967296) := by
  apply Int32.toBitVec_inj.mp
  apply BitVec.eq_of_toNat_eq
  simp [nI]
theorem g_iaddM {X : gC} {cc : ByteArray} {nL : Nat} {ws : List Cond} {own : String} {pc : Nat} {lo : List (Nat × Value)} {st : List Value} {S : Nat → Nat → Nat} (K : gOk X cc nL ws own) {a b : Nat} (hdg : decode cc pc = .ok (.iadd, 1)) (kk : gG X (pc + 1) lo (.int (nI ((a + b) % 4294967296)) :: st) S) : gG X pc lo (.int (nI b) :: .int (nI a) :: st) S := by
  rw [← nI_mod] at kk; exact g_iadd K hdg kk
def regWith (S : Nat → Nat → Nat) (a : Nat) : Nat := reach S (1 <<< a) (bounding S)
def regOf (S : Nat → Nat → Nat) (p : Nat) : Nat := regWith S (12 + p)
def fedF (S : Nat → Nat → Nat) : Nat := reach S (S 1 3) (bounding S)
theorem regWith_up {S : Nat → Nat → Nat} {q : Nat} {d : Nat → Nat} (h : 7 < q) (a : Nat) : regWith (va_up S q d) a = regWith S a := by rw [regWith, reach_up h, bounding_up h]; rfl
theorem regOf_up {S : Nat → Nat → Nat} {q : Nat} {d : Nat → Nat} (h : 7 < q) (a : Nat) : regOf (va_up S q d) a = regOf S a := regWith_up h _
theorem fedF_up {S : Nat → Nat → Nat} {q : Nat} {d : Nat → Nat} (h : 7 < q) : fedF (va_up S q d) = fedF S := by rw [fedF, reach_up h, bounding_up h, va_up_ne _ _ (by omega)]; rfl
theorem regWith_lt {S : Nat → Nat → Nat} (hw : wfC S) {a : Nat} (h : a < 28) : regWith S a < 268435456 := reach_lt hw (shl1 h)
theorem regOf_lt {S : Nat → Nat → Nat} (hw : wfC S) {p : Nat} (h : p < 16) : regOf S p < 268435456 := regWith_lt hw (by omega)
theorem fedF_lt {S : Nat → Nat → Nat} (hw : wfC S) : fedF S < 268435456 := reach_lt hw (Nat.lt_trans hw.2.2.2.1 (by decide))
theorem wetBehind_lt {S : Nat → Nat → Nat} (hw : wfC S) (x : Nat) : wetBehind S x < 268435456 := reach_lt hw (Nat.lt_trans hw.2.2.2.1 (by decide))
theorem closable_lt {S : Nat → Nat → Nat} (hw : wfC S) : closable S < 4096 := by
  have h := shl1_le (n := 12) hw.2.2.1
  have h0 : 1 ≤ 1 <<< S 1 2 := by rw [Nat.one_shiftLeft]; exact Nat.one_le_two_pow
  exact and12 (and12 (by omega))
def fRing (S : Nat → Nat → Nat) (g v r : Nat) : Nat := if gbit g (12 + S 7 v / 2) = gbit g (S 4 (S 7 v)) then r else r ||| (1 <<< v)
def ringF (S : Nat → Nat → Nat) (g : Nat) : Nat := (gfor (fRing S g) (S 1 2) 0 0) &&& closable S
def lostF (S : Nat → Nat → Nat) (g : Nat) : Nat := custOf S (wetBehind S 0 &&& (wetBehind S (ringF S g) ^^^ 4294967295))
set_option maxHeartbeats 4000000 in
set_option maxRecDepth 100000 in
theorem cX0_regionWith_k (Z : gZ) (S : Nat → Nat → Nat) (a : Nat) (hw : wfC S) (ha : a < 28) : gMd Z yX0_regionWith wsX0_regionWith { frames := 1, cells := 0, slots := 0, locals := 27 } [.ref (gz_ad Z 10), .int (nI (a))] S (regWith S a) (S) := by
  refine gMd_of (cc := cX0_regionWith) (maxL := 2) (ret := (some .int)) (by decide +kernel) rfl (Nat.le_of_ble_eq_true rfl) (Or.inl rfl) (fun X hZ hR K hret => ?_)
  subst hZ
  have K : gOk X cX0_regionWith 2 wsX0_regionWith RX0 := K
  have hRf : 1 ≤ (g_R X).frames := gR_f hR rfl
  have hRl : 27 ≤ (g_R X).locals := gR_l hR rfl
  have hin0 : ∀ w ∈ u_ws RX0 TX0 6, w ∈ wsX0_regionWith := by decide +kernel
  obtain ⟨w0, w1, w2, w3, wsh, wst, a2, a3, a4, a5, a6, a7⟩ := id hw
  show gG X 0 [(0, .ref (g_ad X 10)), (1, .int (nI (a)))] [] S
  refine g_aload_n K 0 dX0_regionWith_0 rfl ?_
  refine g_getR (q' := 1) (q := 10) (ci := 0) (k := 0) (N := 6) (C := RX0) (T := TX0) (ref := "ValveWalk$Breaks") K rfl rfl rfl (by decide) hin0 (by decide +kernel) rfl dX0_regionWith_1 ?_
  refine g_iconst K 1 dX0_regionWith_4 (by decide +kernel) ?_
  refine g_iload_n K 1 dX0_regionWith_5 rfl ?_
  refine g_ishl (a := 1) (b := a) K (by omega) dX0_regionWith_6 ?_
  have h9 : 1 <<< a < 268435456 := shl1 ha
  refine g_aload_n K 0 dX0_regionWith_7 rfl ?_
  refine g_getR (q' := 1) (q := 10) (ci := 0) (k := 0) (N := 6) (C := RX0) (T := TX0) (ref := "ValveWalk$Breaks") K rfl rfl rfl (by decide) hin0 (by decide +kernel) rfl dX0_regionWith_8 ?_
  refine g_callVd (q := 1) (ci := 2) (As := []) (rest := [.int (nI ((1) <<< (a))), .ref (g_ad X 1)]) (C := RX2) (T := TX2) (N := 12) K (cX2_bounding_k (g_z X) S (hw)) (cwV 0 K.1.2.2.2.2 gX0_regionWith_X2_bounding rfl rfl rfl (by decide +kernel) ⟨Nat.le_trans (Nat.le_of_ble_eq_true rfl) hRf, Nat.le_trans (Nat.le_of_ble_eq_true rfl) hRl⟩) rfl rfl rfl rfl (Nat.le_of_ble_eq_true rfl) dX0_regionWith_11 ?_
  refine g_callVd (q := 1) (ci := 2) (As := [.int (nI ((1) <<< (a))), .int (nI (bounding S))]) (rest := []) (C := RX2) (T := TX2) (N := 12) K (cX2_reach_k (g_z X) S ((1) <<< (a)) (bounding S) (hw) (by omega)) (cwV 2 K.1.2.2.2.2 gX0_regionWith_X2_reach rfl rfl rfl (by decide +kernel) ⟨Nat.le_trans (Nat.le_of_ble_eq_true rfl) hRf, Nat.le_trans (Nat.le_of_ble_eq_true rfl) hRl⟩) rfl rfl rfl rfl (Nat.le_of_ble_eq_true rfl) dX0_regionWith_14 ?_
  exact g_retd hret dX0_regionWith_17 rfl rfl

set_option maxHeartbeats 4000000 in
set_option maxRecDepth 100000 in
theorem cX0_regionOf_k (Z : gZ) (S : Nat → Nat → Nat) (p : Nat) (hw : wfC S) (hp : p < 16) : gMd Z yX0_regionOf wsX0_regionOf { frames := 2, cells := 0, slots := 0, locals := 48 } [.ref (gz_ad Z 10), .int (nI (p))] S (regOf S p) (S) := by
  refine gMd_of (cc := cX0_regionOf) (maxL := 2) (ret := (some .int)) (by decide +kernel) rfl (Nat.le_of_ble_eq_true rfl) (Or.inl rfl) (fun X hZ hR K hret => ?_)
  subst hZ
  have K : gOk X cX0_regionOf 2 wsX0_regionOf RX0 := K
  have hRf : 2 ≤ (g_R X).frames := gR_f hR rfl
  have hRl : 48 ≤ (g_R X).locals := gR_l hR rfl
  obtain ⟨w0, w1, w2, w3, wsh, wst, a2, a3, a4, a5, a6, a7⟩ := id hw
  show gG X 0 [(0, .ref (g_ad X 10)), (1, .int (nI (p)))] [] S
  refine g_aload_n K 0 dX0_regionOf_0 rfl ?_
  refine g_iload_n K 1 dX0_regionOf_1 rfl ?_
  refine g_callNd (As := [.int (nI (p))]) (rest := [.ref (g_ad X 10)]) (host := "ValveWalk") K (cX5_partOfPipe_k (g_z X) S p) ⟨va_cnB 1 K.1.2.2.2.2 gX0_regionOf_X5_partOfPipe_n31 rfl rfl rfl (K.2.2.2.1 _ (List.mem_of_getElem? (i := 1) rfl)) (K.1.2.2.2.2 _ (by decide +kernel)) (by decide +kernel) ⟨Nat.le_trans (Nat.le_of_ble_eq_true rfl) hRf, Nat.le_trans (Nat.le_of_ble_eq_true rfl) hRl⟩, K.1.2.2.2.2 _ (by decide +kernel), trivial⟩ rfl rfl (Nat.le_of_ble_eq_true rfl) dX0_regionOf_2 ?_
  refine g_callVd (q := 10) (ci := 0) (As := [.int (nI (12 + p))]) (rest := []) (C := RX0) (T := TX0) (N := 6) K (cX0_regionWith_k (g_z X) S (12 + p) (hw) (by omega)) (cwV 1 K.1.2.2.2.2 gX0_regionOf_X0_regionWith rfl rfl rfl (by decide +kernel) ⟨Nat.le_trans (Nat.le_of_ble_eq_true rfl) hRf, Nat.le_trans (Nat.le_of_ble_eq_true rfl) hRl⟩) rfl rfl rfl rfl (Nat.le_of_ble_eq_true rfl) dX0_regionOf_5 ?_
  exact g_retd hret dX0_regionOf_8 rfl rfl

set_option maxHeartbeats 4000000 in
set_option maxRecDepth 100000 in
theorem cX0_regionsWithSources_k (Z : gZ) (S : Nat → Nat → Nat) (hw : wfC S) : gMd Z yX0_regionsWithSources wsX0_regionsWithSources { frames := 1, cells := 0, slots := 0, locals := 27 } [.ref (gz_ad Z 10)] S (fedF S) (S) := by
  refine gMd_of (cc := cX0_regionsWithSources) (maxL := 1) (ret := (some .int)) (by decide +kernel) rfl (Nat.le_of_ble_eq_true rfl) (Or.inl rfl) (fun X hZ hR K hret => ?_)
  subst hZ
  have K : gOk X cX0_regionsWithSources 1 wsX0_regionsWithSources RX0 := K
  have hRf : 1 ≤ (g_R X).frames := gR_f hR rfl
  have hRl : 27 ≤ (g_R X).locals := gR_l hR rfl
  have hin0 : ∀ w ∈ u_ws RX0 TX0 6, w ∈ wsX0_regionsWithSources := by decide +kernel
  obtain ⟨w0, w1, w2, w3, wsh, wst, a2, a3, a4, a5, a6, a7⟩ := id hw
  show gG X 0 [(0, .ref (g_ad X 10))] [] S
  refine g_aload_n K 0 dX0_regionsWithSources_0 rfl ?_
  refine g_getR (q' := 1) (q := 10) (ci := 0) (k := 0) (N := 6) (C := RX0) (T := TX0) (ref := "ValveWalk$Breaks") K rfl rfl rfl (by decide) hin0 (by decide +kernel) rfl dX0_regionsWithSources_1 ?_
  refine g_aload_n K 0 dX0_regionsWithSources_4 rfl ?_
  refine g_getR (q' := 1) (q := 10) (ci := 0) (k := 0) (N := 6) (C := RX0) (T := TX0) (ref := "ValveWalk$Breaks") K rfl rfl rfl (by decide) hin0 (by decide +kernel) rfl dX0_regionsWithSources_5 ?_
  refine g_callVd (q := 1) (ci := 2) (As := []) (rest := [.ref (g_ad X 1)]) (C := RX2) (T := TX2) (N := 12) K (cX2_sources_k (g_z X) S) (cwV 0 K.1.2.2.2.2 gX0_regionsWithSources_X2_sources rfl rfl rfl (by decide +kernel) ⟨Nat.le_trans (Nat.le_of_ble_eq_true rfl) hRf, Nat.le_trans (Nat.le_of_ble_eq_true rfl) hRl⟩) rfl rfl rfl rfl (Nat.le_of_ble_eq_true rfl) dX0_regionsWithSources_8 ?_
  refine g_aload_n K 0 dX0_regionsWithSources_11 rfl ?_
  refine g_getR (q' := 1) (q := 10) (ci := 0) (k := 0) (N := 6) (C := RX0) (T := TX0) (ref := "ValveWalk$Breaks") K rfl rfl rfl (by decide) hin0 (by decide +kernel) rfl dX0_regionsWithSources_12 ?_
  refine g_callVd (q := 1) (ci := 2) (As := []) (rest := [.int (nI (S 1 3)), .ref (g_ad X 1)]) (C := RX2) (T := TX2) (N := 12) K (cX2_bounding_k (g_z X) S (hw)) (cwV 0 K.1.2.2.2.2 gX0_regionsWithSources_X2_bounding rfl rfl rfl (by decide +kernel) ⟨Nat.le_trans (Nat.le_of_ble_eq_true rfl) hRf, Nat.le_trans (Nat.le_of_ble_eq_true rfl) hRl⟩) rfl rfl rfl rfl (Nat.le_of_ble_eq_true rfl) dX0_regionsWithSources_15 ?_
  refine g_callVd (q := 1) (ci := 2) (As := [.int (nI (S 1 3)), .int (nI (bounding S))]) (rest := []) (C := RX2) (T := TX2) (N := 12) K (cX2_reach_k (g_z X) S (S 1 3) (bounding S) (hw) (by omega)) (cwV 2 K.1.2.2.2.2 gX0_regionsWithSources_X2_reach rfl rfl rfl (by decide +kernel) ⟨Nat.le_trans (Nat.le_of_ble_eq_true rfl) hRf, Nat.le_trans (Nat.le_of_ble_eq_true rfl) hRl⟩) rfl rfl rfl rfl (Nat.le_of_ble_eq_true rfl) dX0_regionsWithSources_18 ?_
  exact g_retd hret dX0_regionsWithSources_21 rfl rfl

set_option maxHeartbeats 4000000 in
set_option maxRecDepth 100000 in
theorem L_ring (X : gC) (S : Nat → Nat → Nat) (g : Nat) (K : gOk X cX0_ringOf 6 wsX0_ringOf RX0) (hRf : 1 ≤ (g_R X).frames) (hRl : 21 ≤ (g_R X).locals) (hw : wfC S) (hg : g < 2147483648) : ∀ (k v : Nat) (r : Nat), v + k = S 1 2 → gG X 65 [(0, .ref (g_ad X 10)), (1, .int (nI (g))), (2, .int (nI (((gfor (fRing S g) k v r))))), (3, .int (nI ((S 1 2))))] [] S → gG X 4 [(0, .ref (g_ad X 10)), (1, .int (nI (g))), (2, .int (nI (r))), (3, .int (nI (v)))] [] S := by
  have hin0 : ∀ w ∈ u_ws RX0 TX0 6, w ∈ wsX0_ringOf := by decide +kernel
  obtain ⟨w0, w1, w2, w3, wsh, wst, a2, a3, a4, a5, a6, a7⟩ := id hw
  intro k
  induction k with
  | zero =>
    intro v r hj kk
    have hj : v = S 1 2 := by omega
    refine g_iload_n K 3 dX0_ringOf_4 rfl ?_
    refine g_aload_n K 0 dX0_ringOf_5 rfl ?_
    refine g_getR (q' := 1) (q := 10) (ci := 0) (k := 0) (N := 6) (C := RX0) (T := TX0) (ref := "ValveWalk$Breaks") K rfl rfl rfl (by decide) hin0 (by decide +kernel) rfl dX0_ringOf_6 ?_
    refine g_callVd (q := 1) (ci := 2) (As := []) (rest := [.int (nI (v))]) (C := RX2) (T := TX2) (N := 12) K (cX2_valveCount_k (g_z X) S) (cwV 0 K.1.2.2.2.2 gX0_ringOf_X2_valveCount rfl rfl rfl (by decide +kernel) ⟨Nat.le_trans (Nat.le_of_ble_eq_true rfl) hRf, Nat.le_trans (Nat.le_of_ble_eq_true rfl) hRl⟩) rfl rfl rfl rfl (Nat.le_of_ble_eq_true rfl) dX0_ringOf_9 ?_
    refine g_icmp_ge (tgt := 65) (a := v) (b := S 1 2) K dX0_ringOf_12 (by decide) (by omega) (by omega) (fun h12_1 => ?_) (fun h12_1 => ?_)
    · refine g_loc (lo' := [(0, .ref (g_ad X 10)), (1, .int (nI (g))), (2, .int (nI (r))), (3, .int (nI (v)))]) [0, 1, 2, 3] rfl ?_
      exact g_cast (by first | rfl | (rw [hj]; done) | (rw [hj]; rfl)) rfl rfl kk
    · exact absurd h12_1 (by omega)
  | succ k ih =>
    intro v r hj kk
    refine g_iload_n K 3 dX0_ringOf_4 rfl ?_
    refine g_aload_n K 0 dX0_ringOf_5 rfl ?_
    refine g_getR (q' := 1) (q := 10) (ci := 0) (k := 0) (N := 6) (C := RX0) (T := TX0) (ref := "ValveWalk$Breaks") K rfl rfl rfl (by decide) hin0 (by decide +kernel) rfl dX0_ringOf_6 ?_
    refine g_callVd (q := 1) (ci := 2) (As := []) (rest := [.int (nI (v))]) (C := RX2) (T := TX2) (N := 12) K (cX2_valveCount_k (g_z X) S) (cwV 0 K.1.2.2.2.2 gX0_ringOf_X2_valveCount rfl rfl rfl (by decide +kernel) ⟨Nat.le_trans (Nat.le_of_ble_eq_true rfl) hRf, Nat.le_trans (Nat.le_of_ble_eq_true rfl) hRl⟩) rfl rfl rfl rfl (Nat.le_of_ble_eq_true rfl) dX0_ringOf_9 ?_
    refine g_icmp_ge (tgt := 65) (a := v) (b := S 1 2) K dX0_ringOf_12 (by decide) (by omega) (by omega) (fun h12_1 => ?_) (fun h12_1 => ?_)
    · exact absurd h12_1 (by omega)
    · have h7 := a7 v
      have h4 := a4 (S 7 v)
      refine g_iload_n K 1 dX0_ringOf_15 rfl ?_
      refine g_aload_n K 0 dX0_ringOf_16 rfl ?_
      refine g_getR (q' := 1) (q := 10) (ci := 0) (k := 0) (N := 6) (C := RX0) (T := TX0) (ref := "ValveWalk$Breaks") K rfl rfl rfl (by decide) hin0 (by decide +kernel) rfl dX0_ringOf_17 ?_
      refine g_iload_n K 3 dX0_ringOf_20 rfl ?_
      refine g_callVd (q := 1) (ci := 2) (As := [.int (nI (v))]) (rest := [.int (nI (g))]) (C := RX2) (T := TX2) (N := 12) K (cX2_pipeOfValve_k (g_z X) S v (hw) (by omega)) (cwV 1 K.1.2.2.2.2 gX0_ringOf_X2_pipeOfValve rfl rfl rfl (by decide +kernel) ⟨Nat.le_trans (Nat.le_of_ble_eq_true rfl) hRf, Nat.le_trans (Nat.le_of_ble_eq_true rfl) hRl⟩) rfl rfl rfl rfl (Nat.le_of_ble_eq_true rfl) dX0_ringOf_21 ?_
      refine g_callNd (As := [.int (nI (S 7 v / 2))]) (rest := [.int (nI (g))]) (host := "ValveWalk") K (cX5_partOfPipe_k (g_z X) S (S 7 v / 2)) ⟨va_cnB 1 K.1.2.2.2.2 gX0_ringOf_X5_partOfPipe_n31 rfl rfl rfl (K.2.2.2.1 _ (List.mem_of_getElem? (i := 1) rfl)) (K.1.2.2.2.2 _ (by decide +kernel)) (by decide +kernel) ⟨Nat.le_trans (Nat.le_of_ble_eq_true rfl) hRf, Nat.le_trans (Nat.le_of_ble_eq_true rfl) hRl⟩, K.1.2.2.2.2 _ (by decide +kernel), trivial⟩ rfl rfl (Nat.le_of_ble_eq_true rfl) dX0_ringOf_24 ?_
      refine g_callNd (As := [.int (nI (g)), .int (nI (12 + (S 7 v / 2)))]) (rest := []) (host := "ValveWalk") K (cX5_hasBit_k (g_z X) S g (12 + (S 7 v / 2)) (by omega) (by omega)) ⟨va_cnB 2 K.1.2.2.2.2 gX0_ringOf_X5_hasBit_n57 rfl rfl rfl (K.2.2.2.1 _ (List.mem_of_getElem? (i := 2) rfl)) (K.1.2.2.2.2 _ (by decide +kernel)) (by decide +kernel) ⟨Nat.le_trans (Nat.le_of_ble_eq_true rfl) hRf, Nat.le_trans (Nat.le_of_ble_eq_true rfl) hRl⟩, K.1.2.2.2.2 _ (by decide +kernel), trivial⟩ rfl rfl (Nat.le_of_ble_eq_true rfl) dX0_ringOf_27 ?_
      have hf27_2 := gbit_le g (12 + (S 7 v / 2))
      refine g_istore (lo' := [(4, .int (nI (gbit g (12 + (S 7 v / 2))))), (0, .ref (g_ad X 10)), (1, .int (nI (g))), (2, .int (nI (r))), (3, .int (nI (v)))]) K dX0_ringOf_30 (by decide) rfl ?_
      refine g_iload_n K 2 dX0_ringOf_32 rfl ?_
      refine g_aload_n K 1 dX0_ringOf_33 rfl ?_
      refine g_getR (q' := 1) (q := 10) (ci := 0) (k := 0) (N := 6) (C := RX0) (T := TX0) (ref := "ValveWalk$Breaks") K rfl rfl rfl (by decide) hin0 (by decide +kernel) rfl dX0_ringOf_34 ?_
      refine g_iload_n K 4 dX0_ringOf_37 rfl ?_
      refine g_callVd (q := 1) (ci := 2) (As := [.int (nI (v))]) (rest := [.int (nI (g))]) (C := RX2) (T := TX2) (N := 12) K (cX2_nodeOfValve_k (g_z X) S v (hw) (by omega)) (cwV 1 K.1.2.2.2.2 gX0_ringOf_X2_nodeOfValve rfl rfl rfl (by decide +kernel) ⟨Nat.le_trans (Nat.le_of_ble_eq_true rfl) hRf, Nat.le_trans (Nat.le_of_ble_eq_true rfl) hRl⟩) rfl rfl rfl rfl (Nat.le_of_ble_eq_true rfl) dX0_ringOf_38 ?_
      refine g_callNd (As := [.int (nI (g)), .int (nI (S 4 (S 7 v)))]) (rest := []) (host := "ValveWalk") K (cX5_hasBit_k (g_z X) S g (S 4 (S 7 v)) (by omega) (by omega)) ⟨va_cnB 2 K.1.2.2.2.2 gX0_ringOf_X5_hasBit_n57 rfl rfl rfl (K.2.2.2.1 _ (List.mem_of_getElem? (i := 2) rfl)) (K.1.2.2.2.2 _ (by decide +kernel)) (by decide +kernel) ⟨Nat.le_trans (Nat.le_of_ble_eq_true rfl) hRf, Nat.le_trans (Nat.le_of_ble_eq_true rfl) hRl⟩, K.1.2.2.2.2 _ (by decide +kernel), trivial⟩ rfl rfl (Nat.le_of_ble_eq_true rfl) dX0_ringOf_41 ?_
      have hf41_3 := gbit_le g (S 4 (S 7 v))
      refine g_istore (lo' := [(5, .int (nI (gbit g (S 4 (S 7 v))))), (4, .int (nI (gbit g (12 + (S 7 v / 2))))), (0, .ref (g_ad X 10)), (1, .int (nI (g))), (2, .int (nI (r))), (3, .int (nI (v)))]) K dX0_ringOf_44 (by decide) rfl ?_
      refine g_iload K 1 dX0_ringOf_46 rfl ?_
      refine g_iload K 0 dX0_ringOf_48 rfl ?_
      refine g_icmp_eq (tgt := 59) (a := gbit g (12 + (S 7 v / 2))) (b := gbit g (S 4 (S 7 v))) K dX0_ringOf_50 (by decide) (by omega) (by omega) (fun h50_4 => ?_) (fun h50_4 => ?_)
      · refine g_iinc (a := v) (b := v + 1) (lo' := [(3, .int (nI (v + 1))), (5, .int (nI (gbit g (S 4 (S 7 v))))), (4, .int (nI (gbit g (12 + (S 7 v / 2))))), (0, .ref (g_ad X 10)), (1, .int (nI (g))), (2, .int (nI (r)))]) K 5 dX0_ringOf_59 rfl (gi_inc _) (by decide) rfl ?_
        refine g_goto (tgt := 4) K dX0_ringOf_62 (by decide) ?_
        refine g_loc (lo' := [(0, .ref (g_ad X 10)), (1, .int (nI (g))), (2, .int (nI (r))), (3, .int (nI (v + 1)))]) [3, 4, 5, 0] rfl ?_
        exact ih (v + 1) r (by omega)  (by rw [gfor_succ, show (fRing S g) v r = r from by simp only [fRing]; (repeat' split) <;> first | rfl | contradiction | (exfalso; omega) | omega] at kk; exact kk)
      · refine g_iload_n K 4 dX0_ringOf_53 rfl ?_
        refine g_iconst K 1 dX0_ringOf_54 (by decide +kernel) ?_
        refine g_iload_n K 5 dX0_ringOf_55 rfl ?_
        refine g_ishl (a := 1) (b := v) K (by omega) dX0_ringOf_56 ?_
        refine g_ior (a := r) (b := (1) <<< (v)) K dX0_ringOf_57 ?_
        refine g_istore_n (lo' := [(2, .int (nI ((r) ||| ((1) <<< (v))))), (5, .int (nI (gbit g (S 4 (S 7 v))))), (4, .int (nI (gbit g (12 + (S 7 v / 2))))), (0, .ref (g_ad X 10)), (1, .int (nI (g))), (3, .int (nI (v)))]) K dX0_ringOf_58 (by decide) rfl ?_
        refine g_iinc (a := v) (b := v + 1) (lo' := [(3, .int (nI (v + 1))), (2, .int (nI ((r) ||| ((1) <<< (v))))), (5, .int (nI (gbit g (S 4 (S 7 v))))), (4, .int (nI (gbit g (12 + (S 7 v / 2))))), (0, .ref (g_ad X 10)), (1, .int (nI (g)))]) K 5 dX0_ringOf_59 rfl (gi_inc _) (by decide) rfl ?_
        refine g_goto (tgt := 4) K dX0_ringOf_62 (by decide) ?_
        refine g_loc (lo' := [(0, .ref (g_ad X 10)), (1, .int (nI (g))), (2, .int (nI ((r) ||| ((1) <<< (v))))), (3, .int (nI (v + 1)))]) [4, 5, 1, 0] rfl ?_
        exact ih (v + 1) ((r) ||| ((1) <<< (v))) (by omega)  (by rw [gfor_succ, show (fRing S g) v r = (r) ||| ((1) <<< (v)) from by simp only [fRing]; (repeat' split) <;> first | rfl | contradiction | (exfalso; omega) | omega] at kk; exact kk)

set_option maxHeartbeats 4000000 in
set_option maxRecDepth 100000 in
theorem cX0_ringOf_k (Z : gZ) (S : Nat → Nat → Nat) (g : Nat) (hw : wfC S) (hg : g < 2147483648) : gMd Z yX0_ringOf wsX0_ringOf { frames := 1, cells := 0, slots := 0, locals := 21 } [.ref (gz_ad Z 10), .int (nI (g))] S (ringF S g) (S) := by
  refine gMd_of (cc := cX0_ringOf) (maxL := 6) (ret := (some .int)) (by decide +kernel) rfl (Nat.le_of_ble_eq_true rfl) (Or.inl rfl) (fun X hZ hR K hret => ?_)
  subst hZ
  have K : gOk X cX0_ringOf 6 wsX0_ringOf RX0 := K
  have hRf : 1 ≤ (g_R X).frames := gR_f hR rfl
  have hRl : 21 ≤ (g_R X).locals := gR_l hR rfl
  have hin0 : ∀ w ∈ u_ws RX0 TX0 6, w ∈ wsX0_ringOf := by decide +kernel
  obtain ⟨w0, w1, w2, w3, wsh, wst, a2, a3, a4, a5, a6, a7⟩ := id hw
  show gG X 0 [(0, .ref (g_ad X 10)), (1, .int (nI (g)))] [] S
  refine g_iconst K 0 dX0_ringOf_0 (by decide +kernel) ?_
  refine g_istore_n (lo' := [(2, .int (nI (0))), (0, .ref (g_ad X 10)), (1, .int (nI (g)))]) K dX0_ringOf_1 (by decide) rfl ?_
  refine g_iconst K 0 dX0_ringOf_2 (by decide +kernel) ?_
  refine g_istore_n (lo' := [(3, .int (nI (0))), (2, .int (nI (0))), (0, .ref (g_ad X 10)), (1, .int (nI (g)))]) K dX0_ringOf_3 (by decide) rfl ?_
  refine g_loc (lo' := [(0, .ref (g_ad X 10)), (1, .int (nI (g))), (2, .int (nI (0))), (3, .int (nI (0)))]) [2, 3, 1, 0] rfl ?_
  refine L_ring X S g K (Nat.le_trans (Nat.le_of_ble_eq_true rfl) hRf) (Nat.le_trans (Nat.le_of_ble_eq_true rfl) hRl) (hw) (hg)  (S 1 2) 0 0 (by omega)  ?_
  refine g_iload_n K 2 dX0_ringOf_65 rfl ?_
  refine g_aload_n K 0 dX0_ringOf_66 rfl ?_
  refine g_getR (q' := 1) (q := 10) (ci := 0) (k := 0) (N := 6) (C := RX0) (T := TX0) (ref := "ValveWalk$Breaks") K rfl rfl rfl (by decide) hin0 (by decide +kernel) rfl dX0_ringOf_67 ?_
  refine g_callVd (q := 1) (ci := 2) (As := []) (rest := [.int (nI (((gfor (fRing S g) (S 1 2) 0 0))))]) (C := RX2) (T := TX2) (N := 12) K (cX2_closable_k (g_z X) S (hw)) (cwV 0 K.1.2.2.2.2 gX0_ringOf_X2_closable rfl rfl rfl (by decide +kernel) ⟨Nat.le_trans (Nat.le_of_ble_eq_true rfl) hRf, Nat.le_trans (Nat.le_of_ble_eq_true rfl) hRl⟩) rfl rfl rfl rfl (Nat.le_of_ble_eq_true rfl) dX0_ringOf_70 ?_
  refine g_iand (a := ((gfor (fRing S g) (S 1 2) 0 0))) (b := closable S) K dX0_ringOf_73 ?_
  have hL73_1 := @Nat.and_le_left (((gfor (fRing S g) (S 1 2) 0 0))) (closable S)
  have hR73_2 := @Nat.and_le_right (((gfor (fRing S g) (S 1 2) 0 0))) (closable S)
  exact g_retd hret dX0_ringOf_74 rfl rfl

set_option maxHeartbeats 4000000 in
set_option maxRecDepth 100000 in
theorem cX0_customersLost_k (Z : gZ) (S : Nat → Nat → Nat) (g : Nat) (hw : wfC S) (hg : g < 2147483648) : gMd Z yX0_customersLost wsX0_customersLost { frames := 2, cells := 0, slots := 0, locals := 48 } [.ref (gz_ad Z 10), .int (nI (g))] S (lostF S g) (S) := by
  refine gMd_of (cc := cX0_customersLost) (maxL := 4) (ret := (some .int)) (by decide +kernel) rfl (Nat.le_of_ble_eq_true rfl) (Or.inl rfl) (fun X hZ hR K hret => ?_)
  subst hZ
  have K : gOk X cX0_customersLost 4 wsX0_customersLost RX0 := K
  have hRf : 2 ≤ (g_R X).frames := gR_f hR rfl
  have hRl : 48 ≤ (g_R X).locals := gR_l hR rfl
  have hin0 : ∀ w ∈ u_ws RX0 TX0 6, w ∈ wsX0_customersLost := by decide +kernel
  obtain ⟨w0, w1, w2, w3, wsh, wst, a2, a3, a4, a5, a6, a7⟩ := id hw
  show gG X 0 [(0, .ref (g_ad X 10)), (1, .int (nI (g)))] [] S
  refine g_aload_n K 0 dX0_customersLost_0 rfl ?_
  refine g_getR (q' := 1) (q := 10) (ci := 0) (k := 0) (N := 6) (C := RX0) (T := TX0) (ref := "ValveWalk$Breaks") K rfl rfl rfl (by decide) hin0 (by decide +kernel) rfl dX0_customersLost_1 ?_
  refine g_iconst K 0 dX0_customersLost_4 (by decide +kernel) ?_
  refine g_callVd (q := 1) (ci := 2) (As := [.int (nI (0))]) (rest := []) (C := RX2) (T := TX2) (N := 12) K (cX2_wetBehind_k (g_z X) S 0 (hw)) (cwV 1 K.1.2.2.2.2 gX0_customersLost_X2_wetBehind rfl rfl rfl (by decide +kernel) ⟨Nat.le_trans (Nat.le_of_ble_eq_true rfl) hRf, Nat.le_trans (Nat.le_of_ble_eq_true rfl) hRl⟩) rfl rfl rfl rfl (Nat.le_of_ble_eq_true rfl) dX0_customersLost_5 ?_
  have h8 := wetBehind_lt hw 0
  refine g_istore_n (lo' := [(2, .int (nI (wetBehind S 0))), (0, .ref (g_ad X 10)), (1, .int (nI (g)))]) K dX0_customersLost_8 (by decide) rfl ?_
  refine g_aload_n K 1 dX0_customersLost_9 rfl ?_
  refine g_getR (q' := 1) (q := 10) (ci := 0) (k := 0) (N := 6) (C := RX0) (T := TX0) (ref := "ValveWalk$Breaks") K rfl rfl rfl (by decide) hin0 (by decide +kernel) rfl dX0_customersLost_10 ?_
  refine g_aload_n K 1 dX0_customersLost_13 rfl ?_
  refine g_iload_n K 2 dX0_customersLost_14 rfl ?_
  refine g_callVd (q := 10) (ci := 0) (As := [.int (nI (g))]) (rest := [.ref (g_ad X 1)]) (C := RX0) (T := TX0) (N := 6) K (cX0_ringOf_k (g_z X) S g (hw) (by omega)) (cwV 1 K.1.2.2.2.2 gX0_customersLost_X0_ringOf rfl rfl rfl (by decide +kernel) ⟨Nat.le_trans (Nat.le_of_ble_eq_true rfl) hRf, Nat.le_trans (Nat.le_of_ble_eq_true rfl) hRl⟩) rfl rfl rfl rfl (Nat.le_of_ble_eq_true rfl) dX0_customersLost_15 ?_
  refine g_callVd (q := 1) (ci := 2) (As := [.int (nI (ringF S g))]) (rest := []) (C := RX2) (T := TX2) (N := 12) K (cX2_wetBehind_k (g_z X) S (ringF S g) (hw)) (cwV 1 K.1.2.2.2.2 gX0_customersLost_X2_wetBehind rfl rfl rfl (by decide +kernel) ⟨Nat.le_trans (Nat.le_of_ble_eq_true rfl) hRf, Nat.le_trans (Nat.le_of_ble_eq_true rfl) hRl⟩) rfl rfl rfl rfl (Nat.le_of_ble_eq_true rfl) dX0_customersLost_18 ?_
  refine g_istore_n (lo' := [(3, .int (nI (wetBehind S (ringF S g)))), (2, .int (nI (wetBehind S 0))), (0, .ref (g_ad X 10)), (1, .int (nI (g)))]) K dX0_customersLost_21 (by decide) rfl ?_
  refine g_aload_n K 2 dX0_customersLost_22 rfl ?_
  refine g_getR (q' := 1) (q := 10) (ci := 0) (k := 0) (N := 6) (C := RX0) (T := TX0) (ref := "ValveWalk$Breaks") K rfl rfl rfl (by decide) hin0 (by decide +kernel) rfl dX0_customersLost_23 ?_
  refine g_iload_n K 1 dX0_customersLost_26 rfl ?_
  refine g_iload_n K 0 dX0_customersLost_27 rfl ?_
  refine g_iconst K 4294967295 dX0_customersLost_28 (by decide +kernel) ?_
  refine g_ixor (a := wetBehind S (ringF S g)) (b := 4294967295) K dX0_customersLost_29 ?_
  refine g_iand (a := wetBehind S 0) (b := (wetBehind S (ringF S g)) ^^^ (4294967295)) K dX0_customersLost_30 ?_
  have hL30_1 := @Nat.and_le_left (wetBehind S 0) ((wetBehind S (ringF S g)) ^^^ (4294967295))
  have hR30_2 := @Nat.and_le_right (wetBehind S 0) ((wetBehind S (ringF S g)) ^^^ (4294967295))
  refine g_callVd (q := 1) (ci := 2) (As := [.int (nI ((wetBehind S 0) &&& ((wetBehind S (ringF S g)) ^^^ (4294967295))))]) (rest := []) (C := RX2) (T := TX2) (N := 12) K (cX2_customersOf_k (g_z X) S ((wetBehind S 0) &&& ((wetBehind S (ringF S g)) ^^^ (4294967295))) (hw) (by omega)) (cwV 1 K.1.2.2.2.2 gX0_customersLost_X2_customersOf rfl rfl rfl (by decide +kernel) ⟨Nat.le_trans (Nat.le_of_ble_eq_true rfl) hRf, Nat.le_trans (Nat.le_of_ble_eq_true rfl) hRl⟩) rfl rfl rfl rfl (Nat.le_of_ble_eq_true rfl) dX0_customersLost_31 ?_
  exact g_retd hret dX0_customersLost_34 rfl rfl

def fReg (S : Nat → Nat → Nat) (v : Nat) (x : (Nat → Nat) × (Nat → Nat)) : (Nat → Nat) × (Nat → Nat) := (va_up x.1 v (regOf S (S 7 v / 2)), va_up x.2 v (regWith S (S 4 (S 7 v))))
def regsF (S : Nat → Nat → Nat) : (Nat → Nat) × (Nat → Nat) := gfor (fReg S) (S 1 2) 0 (S 11, S 12)
def dirD (S : Nat → Nat → Nat) (w : Nat → Nat) (v d : Nat) : Nat := if gbit (closable S) v = 0 then 0 else if w v = d then 0 else d
def dirAc (S : Nat → Nat → Nat) (a b w : Nat → Nat) (v r : Nat) : Nat := if r &&& a v = 0 then (if r &&& b v = 0 then 0 else dirD S w v 4294967295) else (if r &&& b v = 0 then dirD S w v 1 else 0)
theorem dirD_lt (S : Nat → Nat → Nat) (w : Nat → Nat) (v : Nat) {d : Nat} (h : d < 4294967296) : dirD S w v d < 4294967296 := by unfold dirD; (repeat' split) <;> omega
theorem dirAc_lt (S : Nat → Nat → Nat) (a b w : Nat → Nat) (v r : Nat) : dirAc S a b w v r < 4294967296 := by
  unfold dirAc
  (repeat' split)
  · decide
  · exact dirD_lt S w v (by decide)
  · exact dirD_lt S w v (by decide)
  · decide
theorem dirAc_up {S : Nat → Nat → Nat} {q : Nat} {d : Nat → Nat} (h : 7 < q) (a b w : Nat → Nat) (v r : Nat) : dirAc (va_up S q d) a b w v r = dirAc S a b w v r := by
  simp only [dirAc, dirD, closable_up h]
set_option maxHeartbeats 4000000 in
set_option maxRecDepth 100000 in
theorem L_regs (X : gC) (S : Nat → Nat → Nat) (K : gOk X cX0_findRegionsOfValves 2 wsX0_findRegionsOfValves RX0) (hRf : 3 ≤ (g_R X).frames) (hRl : 69 ≤ (g_R X).locals) (hw : wfC S) : ∀ (k v : Nat) (a : Nat → Nat) (b : Nat → Nat), v + k = S 1 2 → gG X 55 [(0, .ref (g_ad X 10)), (1, .int (nI ((S 1 2))))] [] (va_up (va_up S 11 (((gfor (fReg S) k v (a, b)).1))) 12 (((gfor (fReg S) k v (a, b)).2))) → gG X 2 [(0, .ref (g_ad X 10)), (1, .int (nI (v)))] [] (va_up (va_up S 11 (a)) 12 (b)) := by
  have hin0 : ∀ w ∈ u_ws RX0 TX0 6, w ∈ wsX0_findRegionsOfValves := by decide +kernel
  obtain ⟨w0, w1, w2, w3, wsh, wst, a2, a3, a4, a5, a6, a7⟩ := id hw
  intro k
  induction k with
  | zero =>
    intro v a b hj kk
    have hj : v = S 1 2 := by omega
    refine g_iload_n K 1 dX0_findRegionsOfValves_2 rfl ?_
    refine g_aload_n K 0 dX0_findRegionsOfValves_3 rfl ?_
    refine g_getR (q' := 1) (q := 10) (ci := 0) (k := 0) (N := 6) (C := RX0) (T := TX0) (ref := "ValveWalk$Breaks") K rfl rfl rfl (by decide) hin0 (by decide +kernel) rfl dX0_findRegionsOfValves_4 ?_
    refine g_callVd (q := 1) (ci := 2) (As := []) (rest := [.int (nI (v))]) (C := RX2) (T := TX2) (N := 12) K (cX2_valveCount_k (g_z X) (va_up (va_up S 11 (a)) 12 (b))) (cwV 0 K.1.2.2.2.2 gX0_findRegionsOfValves_X2_valveCount rfl rfl rfl (by decide +kernel) ⟨Nat.le_trans (Nat.le_of_ble_eq_true rfl) hRf, Nat.le_trans (Nat.le_of_ble_eq_true rfl) hRl⟩) rfl rfl rfl rfl (Nat.le_of_ble_eq_true rfl) dX0_findRegionsOfValves_7 ?_
    refine g_topE (S 1 2) rfl ?_
    refine g_icmp_ge (tgt := 55) (a := v) (b := S 1 2) K dX0_findRegionsOfValves_10 (by decide) (by omega) (by omega) (fun h10_1 => ?_) (fun h10_1 => ?_)
    · refine g_loc (lo' := [(0, .ref (g_ad X 10)), (1, .int (nI (v)))]) [0, 1] rfl ?_
      exact g_cast (by first | rfl | (rw [hj]; done) | (rw [hj]; rfl)) rfl rfl kk
    · exact absurd h10_1 (by omega)
  | succ k ih =>
    intro v a b hj kk
    refine g_iload_n K 1 dX0_findRegionsOfValves_2 rfl ?_
    refine g_aload_n K 0 dX0_findRegionsOfValves_3 rfl ?_
    refine g_getR (q' := 1) (q := 10) (ci := 0) (k := 0) (N := 6) (C := RX0) (T := TX0) (ref := "ValveWalk$Breaks") K rfl rfl rfl (by decide) hin0 (by decide +kernel) rfl dX0_findRegionsOfValves_4 ?_
    refine g_callVd (q := 1) (ci := 2) (As := []) (rest := [.int (nI (v))]) (C := RX2) (T := TX2) (N := 12) K (cX2_valveCount_k (g_z X) (va_up (va_up S 11 (a)) 12 (b))) (cwV 0 K.1.2.2.2.2 gX0_findRegionsOfValves_X2_valveCount rfl rfl rfl (by decide +kernel) ⟨Nat.le_trans (Nat.le_of_ble_eq_true rfl) hRf, Nat.le_trans (Nat.le_of_ble_eq_true rfl) hRl⟩) rfl rfl rfl rfl (Nat.le_of_ble_eq_true rfl) dX0_findRegionsOfValves_7 ?_
    refine g_topE (S 1 2) rfl ?_
    refine g_icmp_ge (tgt := 55) (a := v) (b := S 1 2) K dX0_findRegionsOfValves_10 (by decide) (by omega) (by omega) (fun h10_1 => ?_) (fun h10_1 => ?_)
    · exact absurd h10_1 (by omega)
    · have h7 := a7 v
      have h4 := a4 (S 7 v)
      refine g_aload_n K 0 dX0_findRegionsOfValves_13 rfl ?_
      refine g_getR (q' := 11) (q := 10) (ci := 0) (k := 1) (N := 6) (C := RX0) (T := TX0) (ref := "ValveWalk$Breaks") K rfl rfl rfl (by decide) hin0 (by decide +kernel) rfl dX0_findRegionsOfValves_14 ?_
      refine g_iload_n K 1 dX0_findRegionsOfValves_17 rfl ?_
      refine g_aload_n K 0 dX0_findRegionsOfValves_18 rfl ?_
      refine g_aload_n K 0 dX0_findRegionsOfValves_19 rfl ?_
      refine g_getR (q' := 1) (q := 10) (ci := 0) (k := 0) (N := 6) (C := RX0) (T := TX0) (ref := "ValveWalk$Breaks") K rfl rfl rfl (by decide) hin0 (by decide +kernel) rfl dX0_findRegionsOfValves_20 ?_
      refine g_iload_n K 1 dX0_findRegionsOfValves_23 rfl ?_
      refine g_callVd (q := 1) (ci := 2) (As := [.int (nI (v))]) (rest := [.ref (g_ad X 10), .int (nI (v)), .ref (g_ad X 11)]) (C := RX2) (T := TX2) (N := 12) K (cX2_pipeOfValve_k (g_z X) (va_up (va_up S 11 (a)) 12 (b)) v ((wfC_up (wfC_up hw (q := 11) (by decide) _) (q := 12) (by decide) _)) (by omega)) (cwV 1 K.1.2.2.2.2 gX0_findRegionsOfValves_X2_pipeOfValve rfl rfl rfl (by decide +kernel) ⟨Nat.le_trans (Nat.le_of_ble_eq_true rfl) hRf, Nat.le_trans (Nat.le_of_ble_eq_true rfl) hRl⟩) rfl rfl rfl rfl (Nat.le_of_ble_eq_true rfl) dX0_findRegionsOfValves_24 ?_
      refine g_topE (S 7 v / 2) rfl ?_
      refine g_callVd (q := 10) (ci := 0) (As := [.int (nI (S 7 v / 2))]) (rest := [.int (nI (v)), .ref (g_ad X 11)]) (C := RX0) (T := TX0) (N := 6) K (cX0_regionOf_k (g_z X) (va_up (va_up S 11 (a)) 12 (b)) (S 7 v / 2) ((wfC_up (wfC_up hw (q := 11) (by decide) _) (q := 12) (by decide) _)) (by omega)) (cwV 1 K.1.2.2.2.2 gX0_findRegionsOfValves_X0_regionOf rfl rfl rfl (by decide +kernel) ⟨Nat.le_trans (Nat.le_of_ble_eq_true rfl) hRf, Nat.le_trans (Nat.le_of_ble_eq_true rfl) hRl⟩) rfl rfl rfl rfl (Nat.le_of_ble_eq_true rfl) dX0_findRegionsOfValves_27 ?_
      refine g_topE (regOf S (S 7 v / 2)) (by first | (rw [regOf_up (q := 12) (by decide), regOf_up (q := 11) (by decide)]; done) | (rw [regOf_up (q := 12) (by decide), regOf_up (q := 11) (by decide)]; rfl)) ?_
      refine g_ast (q := 11) (n := 12) (i := v) (a := regOf S (S 7 v / 2)) K rfl (by decide) (by omega) dX0_findRegionsOfValves_30 ?_
      refine g_cast (S' := (va_up (va_up S 11 (va_up a (v) (regOf S (S 7 v / 2)))) 12 (b))) rfl rfl (gup_w2a (by decide)) ?_
      refine g_aload_n K 0 dX0_findRegionsOfValves_31 rfl ?_
      refine g_getR (q' := 12) (q := 10) (ci := 0) (k := 2) (N := 6) (C := RX0) (T := TX0) (ref := "ValveWalk$Breaks") K rfl rfl rfl (by decide) hin0 (by decide +kernel) rfl dX0_findRegionsOfValves_32 ?_
      refine g_iload_n K 1 dX0_findRegionsOfValves_35 rfl ?_
      refine g_aload_n K 0 dX0_findRegionsOfValves_36 rfl ?_
      refine g_aload_n K 0 dX0_findRegionsOfValves_37 rfl ?_
      refine g_getR (q' := 1) (q := 10) (ci := 0) (k := 0) (N := 6) (C := RX0) (T := TX0) (ref := "ValveWalk$Breaks") K rfl rfl rfl (by decide) hin0 (by decide +kernel) rfl dX0_findRegionsOfValves_38 ?_
      refine g_iload_n K 1 dX0_findRegionsOfValves_41 rfl ?_
      refine g_callVd (q := 1) (ci := 2) (As := [.int (nI (v))]) (rest := [.ref (g_ad X 10), .int (nI (v)), .ref (g_ad X 12)]) (C := RX2) (T := TX2) (N := 12) K (cX2_nodeOfValve_k (g_z X) (va_up (va_up S 11 (va_up a (v) (regOf S (S 7 v / 2)))) 12 (b)) v ((wfC_up (wfC_up hw (q := 11) (by decide) _) (q := 12) (by decide) _)) (by omega)) (cwV 1 K.1.2.2.2.2 gX0_findRegionsOfValves_X2_nodeOfValve rfl rfl rfl (by decide +kernel) ⟨Nat.le_trans (Nat.le_of_ble_eq_true rfl) hRf, Nat.le_trans (Nat.le_of_ble_eq_true rfl) hRl⟩) rfl rfl rfl rfl (Nat.le_of_ble_eq_true rfl) dX0_findRegionsOfValves_42 ?_
      refine g_topE (S 4 (S 7 v)) rfl ?_
      refine g_callVd (q := 10) (ci := 0) (As := [.int (nI (S 4 (S 7 v)))]) (rest := [.int (nI (v)), .ref (g_ad X 12)]) (C := RX0) (T := TX0) (N := 6) K (cX0_regionWith_k (g_z X) (va_up (va_up S 11 (va_up a (v) (regOf S (S 7 v / 2)))) 12 (b)) (S 4 (S 7 v)) ((wfC_up (wfC_up hw (q := 11) (by decide) _) (q := 12) (by decide) _)) (by omega)) (cwV 1 K.1.2.2.2.2 gX0_findRegionsOfValves_X0_regionWith rfl rfl rfl (by decide +kernel) ⟨Nat.le_trans (Nat.le_of_ble_eq_true rfl) hRf, Nat.le_trans (Nat.le_of_ble_eq_true rfl) hRl⟩) rfl rfl rfl rfl (Nat.le_of_ble_eq_true rfl) dX0_findRegionsOfValves_45 ?_
      refine g_topE (regWith S (S 4 (S 7 v))) (by first | (rw [regWith_up (q := 12) (by decide), regWith_up (q := 11) (by decide)]; done) | (rw [regWith_up (q := 12) (by decide), regWith_up (q := 11) (by decide)]; rfl)) ?_
      refine g_ast (q := 12) (n := 12) (i := v) (a := regWith S (S 4 (S 7 v))) K rfl (by decide) (by omega) dX0_findRegionsOfValves_48 ?_
      refine g_cast (S' := (va_up (va_up S 11 (va_up a (v) (regOf S (S 7 v / 2)))) 12 (va_up b (v) (regWith S (S 4 (S 7 v)))))) rfl rfl (gup_w2b (by decide)) ?_
      refine g_iinc (a := v) (b := v + 1) (lo' := [(1, .int (nI (v + 1))), (0, .ref (g_ad X 10))]) K 1 dX0_findRegionsOfValves_49 rfl (gi_inc _) (by decide) rfl ?_
      refine g_goto (tgt := 2) K dX0_findRegionsOfValves_52 (by decide) ?_
      refine g_loc (lo' := [(0, .ref (g_ad X 10)), (1, .int (nI (v + 1)))]) [1, 0] rfl ?_
      exact ih (v + 1) (va_up a (v) (regOf S (S 7 v / 2))) (va_up b (v) (regWith S (S 4 (S 7 v)))) (by omega)  kk

set_option maxHeartbeats 4000000 in
set_option maxRecDepth 100000 in
theorem cX0_findRegionsOfValves_k (Z : gZ) (S : Nat → Nat → Nat) (hw : wfC S) : gMv Z yX0_findRegionsOfValves wsX0_findRegionsOfValves { frames := 3, cells := 0, slots := 0, locals := 69 } [.ref (gz_ad Z 10)] S (va_up (va_up S 11 (regsF S).1) 12 (regsF S).2) := by
  refine gMv_of (cc := cX0_findRegionsOfValves) (maxL := 2) (by decide +kernel) rfl (Nat.le_of_ble_eq_true rfl)  (fun X hZ hR K hret => ?_)
  subst hZ
  have K : gOk X cX0_findRegionsOfValves 2 wsX0_findRegionsOfValves RX0 := K
  have hRf : 3 ≤ (g_R X).frames := gR_f hR rfl
  have hRl : 69 ≤ (g_R X).locals := gR_l hR rfl
  have hin0 : ∀ w ∈ u_ws RX0 TX0 6, w ∈ wsX0_findRegionsOfValves := by decide +kernel
  obtain ⟨w0, w1, w2, w3, wsh, wst, a2, a3, a4, a5, a6, a7⟩ := id hw
  show gG X 0 [(0, .ref (g_ad X 10))] [] S
  refine g_iconst K 0 dX0_findRegionsOfValves_0 (by decide +kernel) ?_
  refine g_istore_n (lo' := [(1, .int (nI (0))), (0, .ref (g_ad X 10))]) K dX0_findRegionsOfValves_1 (by decide) rfl ?_
  refine g_loc (lo' := [(0, .ref (g_ad X 10)), (1, .int (nI (0)))]) [1, 0] rfl ?_
  refine g_cast (S' := (va_up (va_up S 11 (S 11)) 12 (S 12))) rfl rfl (up_id2 ..).symm ?_
  refine L_regs X S  K (Nat.le_trans (Nat.le_of_ble_eq_true rfl) hRf) (Nat.le_trans (Nat.le_of_ble_eq_true rfl) hRl) (hw)  (S 1 2) 0 (S 11) (S 12) (by omega)  ?_
  exact g_retv hret dX0_findRegionsOfValves_55 rfl

set_option maxHeartbeats 4000000 in
set_option maxRecDepth 100000 in
theorem cX0_directionAcross_k (Z : gZ) (S : Nat → Nat → Nat) (v r : Nat) (hw : wfC S) (hv : v < 12) (hr : r < 268435456) (h13 : S 13 v < 4294967296) : gMd Z yX0_directionAcross wsX0_directionAcross { frames := 1, cells := 0, slots := 0, locals := 21 } [.ref (gz_ad Z 10), .int (nI (v)), .int (nI (r))] S (dirAc S (S 11) (S 12) (S 13) v r) (S) := by
  refine gMd_of (cc := cX0_directionAcross) (maxL := 6) (ret := (some .int)) (by decide +kernel) rfl (Nat.le_of_ble_eq_true rfl) (Or.inl rfl) (fun X hZ hR K hret => ?_)
  subst hZ
  have K : gOk X cX0_directionAcross 6 wsX0_directionAcross RX0 := K
  have hRf : 1 ≤ (g_R X).frames := gR_f hR rfl
  have hRl : 21 ≤ (g_R X).locals := gR_l hR rfl
  have hin0 : ∀ w ∈ u_ws RX0 TX0 6, w ∈ wsX0_directionAcross := by decide +kernel
  obtain ⟨w0, w1, w2, w3, wsh, wst, a2, a3, a4, a5, a6, a7⟩ := id hw
  show gG X 0 [(0, .ref (g_ad X 10)), (1, .int (nI (v))), (2, .int (nI (r)))] [] S
  refine g_iload_n K 2 dX0_directionAcross_0 rfl ?_
  refine g_aload_n K 0 dX0_directionAcross_1 rfl ?_
  refine g_getR (q' := 11) (q := 10) (ci := 0) (k := 1) (N := 6) (C := RX0) (T := TX0) (ref := "ValveWalk$Breaks") K rfl rfl rfl (by decide) hin0 (by decide +kernel) rfl dX0_directionAcross_2 ?_
  refine g_iload_n K 1 dX0_directionAcross_5 rfl ?_
  refine g_ald (q := 11) (n := 12) (i := v) K rfl (by decide) (by omega) dX0_directionAcross_6 ?_
  refine g_iand (a := r) (b := S 11 (v)) K dX0_directionAcross_7 ?_
  have hL7_1 := @Nat.and_le_left (r) (S 11 (v))
  have hR7_2 := @Nat.and_le_right (r) (S 11 (v))
  refine g_if_eq (tgt := 15) (a := (r) &&& (S 11 (v))) K dX0_directionAcross_8 (by decide) (by omega) (fun h8_3 => ?_) (fun h8_3 => ?_)
  · refine g_iconst K 0 dX0_directionAcross_15 (by decide +kernel) ?_
    refine g_istore_n (lo' := [(3, .int (nI (0))), (0, .ref (g_ad X 10)), (1, .int (nI (v))), (2, .int (nI (r)))]) K dX0_directionAcross_16 (by decide) rfl ?_
    refine g_iload_n K 3 dX0_directionAcross_17 rfl ?_
    refine g_aload_n K 1 dX0_directionAcross_18 rfl ?_
    refine g_getR (q' := 12) (q := 10) (ci := 0) (k := 2) (N := 6) (C := RX0) (T := TX0) (ref := "ValveWalk$Breaks") K rfl rfl rfl (by decide) hin0 (by decide +kernel) rfl dX0_directionAcross_19 ?_
    refine g_iload_n K 2 dX0_directionAcross_22 rfl ?_
    refine g_ald (q := 12) (n := 12) (i := v) K rfl (by decide) (by omega) dX0_directionAcross_23 ?_
    refine g_iand (a := r) (b := S 12 (v)) K dX0_directionAcross_24 ?_
    have hL24_4 := @Nat.and_le_left (r) (S 12 (v))
    have hR24_5 := @Nat.and_le_right (r) (S 12 (v))
    refine g_if_eq (tgt := 32) (a := (r) &&& (S 12 (v))) K dX0_directionAcross_25 (by decide) (by omega) (fun h25_6 => ?_) (fun h25_6 => ?_)
    · refine g_iconst K 0 dX0_directionAcross_32 (by decide +kernel) ?_
      refine g_istore (lo' := [(4, .int (nI (0))), (3, .int (nI (0))), (0, .ref (g_ad X 10)), (1, .int (nI (v))), (2, .int (nI (r)))]) K dX0_directionAcross_33 (by decide) rfl ?_
      refine g_iload_n K 1 dX0_directionAcross_35 rfl ?_
      refine g_iload K 0 dX0_directionAcross_36 rfl ?_
      refine g_icmp_eq (tgt := 55) (a := 0) (b := 0) K dX0_directionAcross_38 (by decide) (by omega) (by omega) (fun h38_7 => ?_) (fun h38_7 => absurd h38_7 (by omega))
      refine g_iconst K 0 dX0_directionAcross_55 (by decide +kernel) ?_
      exact g_retd hret dX0_directionAcross_56 (by unfold dirAc dirD; (repeat' split) <;> first | rfl | contradiction | (exfalso; omega) | omega) rfl
    · refine g_iconst K 1 dX0_directionAcross_28 (by decide +kernel) ?_
      refine g_goto (tgt := 33) K dX0_directionAcross_29 (by decide) ?_
      refine g_istore (lo' := [(4, .int (nI (1))), (3, .int (nI (0))), (0, .ref (g_ad X 10)), (1, .int (nI (v))), (2, .int (nI (r)))]) K dX0_directionAcross_33 (by decide) rfl ?_
      refine g_iload_n K 1 dX0_directionAcross_35 rfl ?_
      refine g_iload K 0 dX0_directionAcross_36 rfl ?_
      refine g_icmp_eq (tgt := 55) (a := 0) (b := 1) K dX0_directionAcross_38 (by decide) (by omega) (by omega) (fun h38_8 => absurd h38_8 (by omega)) (fun h38_8 => ?_)
      refine g_aload_n K 2 dX0_directionAcross_41 rfl ?_
      refine g_getR (q' := 1) (q := 10) (ci := 0) (k := 0) (N := 6) (C := RX0) (T := TX0) (ref := "ValveWalk$Breaks") K rfl rfl rfl (by decide) hin0 (by decide +kernel) rfl dX0_directionAcross_42 ?_
      refine g_callVd (q := 1) (ci := 2) (As := []) (rest := []) (C := RX2) (T := TX2) (N := 12) K (cX2_closable_k (g_z X) S (hw)) (cwV 0 K.1.2.2.2.2 gX0_directionAcross_X2_closable rfl rfl rfl (by decide +kernel) ⟨Nat.le_trans (Nat.le_of_ble_eq_true rfl) hRf, Nat.le_trans (Nat.le_of_ble_eq_true rfl) hRl⟩) rfl rfl rfl rfl (Nat.le_of_ble_eq_true rfl) dX0_directionAcross_45 ?_
      have hcl := closable_lt hw
      refine g_iload_n K 3 dX0_directionAcross_48 rfl ?_
      refine g_callNd (As := [.int (nI (closable S)), .int (nI (v))]) (rest := []) (host := "ValveWalk") K (cX5_hasBit_k (g_z X) S (closable S) v (by omega) (by omega)) ⟨va_cnB 2 K.1.2.2.2.2 gX0_directionAcross_X5_hasBit_n57 rfl rfl rfl (K.2.2.2.1 _ (List.mem_of_getElem? (i := 2) rfl)) (K.1.2.2.2.2 _ (by decide +kernel)) (by decide +kernel) ⟨Nat.le_trans (Nat.le_of_ble_eq_true rfl) hRf, Nat.le_trans (Nat.le_of_ble_eq_true rfl) hRl⟩, K.1.2.2.2.2 _ (by decide +kernel), trivial⟩ rfl rfl (Nat.le_of_ble_eq_true rfl) dX0_directionAcross_49 ?_
      have hf49_9 := gbit_le (closable S) v
      refine g_if_ne (tgt := 57) (a := gbit (closable S) v) K dX0_directionAcross_52 (by decide) (by omega) (fun h52_10 => ?_) (fun h52_10 => ?_)
      · refine g_iload_n K 1 dX0_directionAcross_57 rfl ?_
        refine g_if_eq (tgt := 65) (a := 0) K dX0_directionAcross_58 (by decide) (by omega) (fun h58_11 => ?_) (fun h58_11 => absurd h58_11 (by omega))
        refine g_iconst K 4294967295 dX0_directionAcross_65 (by decide +kernel) ?_
        refine g_istore (lo' := [(5, .int (nI (4294967295))), (4, .int (nI (1))), (3, .int (nI (0))), (0, .ref (g_ad X 10)), (1, .int (nI (v))), (2, .int (nI (r)))]) K dX0_directionAcross_66 (by decide) rfl ?_
        refine g_aload_n K 3 dX0_directionAcross_68 rfl ?_
        refine g_getR (q' := 13) (q := 10) (ci := 0) (k := 3) (N := 6) (C := RX0) (T := TX0) (ref := "ValveWalk$Breaks") K rfl rfl rfl (by decide) hin0 (by decide +kernel) rfl dX0_directionAcross_69 ?_
        refine g_iload_n K 4 dX0_directionAcross_72 rfl ?_
        refine g_ald (q := 13) (n := 12) (i := v) K rfl (by decide) (by omega) dX0_directionAcross_73 ?_
        refine g_iload K 0 dX0_directionAcross_74 rfl ?_
        refine g_icmp_ne (tgt := 83) (a := S 13 (v)) (b := 4294967295) K dX0_directionAcross_76 (by decide) (by omega) (by omega) (fun h76_12 => ?_) (fun h76_12 => ?_)
        · refine g_iload K 0 dX0_directionAcross_83 rfl ?_
          exact g_retd hret dX0_directionAcross_85 (by unfold dirAc dirD; (repeat' split) <;> first | rfl | contradiction | (exfalso; omega) | omega) rfl
        · refine g_iconst K 0 dX0_directionAcross_79 (by decide +kernel) ?_
          refine g_goto (tgt := 85) K dX0_directionAcross_80 (by decide) ?_
          exact g_retd hret dX0_directionAcross_85 (by unfold dirAc dirD; (repeat' split) <;> first | rfl | contradiction | (exfalso; omega) | omega) rfl
      · refine g_iconst K 0 dX0_directionAcross_55 (by decide +kernel) ?_
        exact g_retd hret dX0_directionAcross_56 (by unfold dirAc dirD; (repeat' split) <;> first | rfl | contradiction | (exfalso; omega) | omega) rfl
  · refine g_iconst K 1 dX0_directionAcross_11 (by decide +kernel) ?_
    refine g_goto (tgt := 16) K dX0_directionAcross_12 (by decide) ?_
    refine g_istore_n (lo' := [(3, .int (nI (1))), (0, .ref (g_ad X 10)), (1, .int (nI (v))), (2, .int (nI (r)))]) K dX0_directionAcross_16 (by decide) rfl ?_
    refine g_iload_n K 3 dX0_directionAcross_17 rfl ?_
    refine g_aload_n K 1 dX0_directionAcross_18 rfl ?_
    refine g_getR (q' := 12) (q := 10) (ci := 0) (k := 2) (N := 6) (C := RX0) (T := TX0) (ref := "ValveWalk$Breaks") K rfl rfl rfl (by decide) hin0 (by decide +kernel) rfl dX0_directionAcross_19 ?_
    refine g_iload_n K 2 dX0_directionAcross_22 rfl ?_
    refine g_ald (q := 12) (n := 12) (i := v) K rfl (by decide) (by omega) dX0_directionAcross_23 ?_
    refine g_iand (a := r) (b := S 12 (v)) K dX0_directionAcross_24 ?_
    have hL24_13 := @Nat.and_le_left (r) (S 12 (v))
    have hR24_14 := @Nat.and_le_right (r) (S 12 (v))
    refine g_if_eq (tgt := 32) (a := (r) &&& (S 12 (v))) K dX0_directionAcross_25 (by decide) (by omega) (fun h25_15 => ?_) (fun h25_15 => ?_)
    · refine g_iconst K 0 dX0_directionAcross_32 (by decide +kernel) ?_
      refine g_istore (lo' := [(4, .int (nI (0))), (3, .int (nI (1))), (0, .ref (g_ad X 10)), (1, .int (nI (v))), (2, .int (nI (r)))]) K dX0_directionAcross_33 (by decide) rfl ?_
      refine g_iload_n K 1 dX0_directionAcross_35 rfl ?_
      refine g_iload K 0 dX0_directionAcross_36 rfl ?_
      refine g_icmp_eq (tgt := 55) (a := 1) (b := 0) K dX0_directionAcross_38 (by decide) (by omega) (by omega) (fun h38_16 => absurd h38_16 (by omega)) (fun h38_16 => ?_)
      refine g_aload_n K 2 dX0_directionAcross_41 rfl ?_
      refine g_getR (q' := 1) (q := 10) (ci := 0) (k := 0) (N := 6) (C := RX0) (T := TX0) (ref := "ValveWalk$Breaks") K rfl rfl rfl (by decide) hin0 (by decide +kernel) rfl dX0_directionAcross_42 ?_
      refine g_callVd (q := 1) (ci := 2) (As := []) (rest := []) (C := RX2) (T := TX2) (N := 12) K (cX2_closable_k (g_z X) S (hw)) (cwV 0 K.1.2.2.2.2 gX0_directionAcross_X2_closable rfl rfl rfl (by decide +kernel) ⟨Nat.le_trans (Nat.le_of_ble_eq_true rfl) hRf, Nat.le_trans (Nat.le_of_ble_eq_true rfl) hRl⟩) rfl rfl rfl rfl (Nat.le_of_ble_eq_true rfl) dX0_directionAcross_45 ?_
      have hcl := closable_lt hw
      refine g_iload_n K 3 dX0_directionAcross_48 rfl ?_
      refine g_callNd (As := [.int (nI (closable S)), .int (nI (v))]) (rest := []) (host := "ValveWalk") K (cX5_hasBit_k (g_z X) S (closable S) v (by omega) (by omega)) ⟨va_cnB 2 K.1.2.2.2.2 gX0_directionAcross_X5_hasBit_n57 rfl rfl rfl (K.2.2.2.1 _ (List.mem_of_getElem? (i := 2) rfl)) (K.1.2.2.2.2 _ (by decide +kernel)) (by decide +kernel) ⟨Nat.le_trans (Nat.le_of_ble_eq_true rfl) hRf, Nat.le_trans (Nat.le_of_ble_eq_true rfl) hRl⟩, K.1.2.2.2.2 _ (by decide +kernel), trivial⟩ rfl rfl (Nat.le_of_ble_eq_true rfl) dX0_directionAcross_49 ?_
      have hf49_17 := gbit_le (closable S) v
      refine g_if_ne (tgt := 57) (a := gbit (closable S) v) K dX0_directionAcross_52 (by decide) (by omega) (fun h52_18 => ?_) (fun h52_18 => ?_)
      · refine g_iload_n K 1 dX0_directionAcross_57 rfl ?_
        refine g_if_eq (tgt := 65) (a := 1) K dX0_directionAcross_58 (by decide) (by omega) (fun h58_19 => absurd h58_19 (by omega)) (fun h58_19 => ?_)
        refine g_iconst K 1 dX0_directionAcross_61 (by decide +kernel) ?_
        refine g_goto (tgt := 66) K dX0_directionAcross_62 (by decide) ?_
        refine g_istore (lo' := [(5, .int (nI (1))), (4, .int (nI (0))), (3, .int (nI (1))), (0, .ref (g_ad X 10)), (1, .int (nI (v))), (2, .int (nI (r)))]) K dX0_directionAcross_66 (by decide) rfl ?_
        refine g_aload_n K 3 dX0_directionAcross_68 rfl ?_
        refine g_getR (q' := 13) (q := 10) (ci := 0) (k := 3) (N := 6) (C := RX0) (T := TX0) (ref := "ValveWalk$Breaks") K rfl rfl rfl (by decide) hin0 (by decide +kernel) rfl dX0_directionAcross_69 ?_
        refine g_iload_n K 4 dX0_directionAcross_72 rfl ?_
        refine g_ald (q := 13) (n := 12) (i := v) K rfl (by decide) (by omega) dX0_directionAcross_73 ?_
        refine g_iload K 0 dX0_directionAcross_74 rfl ?_
        refine g_icmp_ne (tgt := 83) (a := S 13 (v)) (b := 1) K dX0_directionAcross_76 (by decide) (by omega) (by omega) (fun h76_20 => ?_) (fun h76_20 => ?_)
        · refine g_iload K 0 dX0_directionAcross_83 rfl ?_
          exact g_retd hret dX0_directionAcross_85 (by unfold dirAc dirD; (repeat' split) <;> first | rfl | contradiction | (exfalso; omega) | omega) rfl
        · refine g_iconst K 0 dX0_directionAcross_79 (by decide +kernel) ?_
          refine g_goto (tgt := 85) K dX0_directionAcross_80 (by decide) ?_
          exact g_retd hret dX0_directionAcross_85 (by unfold dirAc dirD; (repeat' split) <;> first | rfl | contradiction | (exfalso; omega) | omega) rfl
      · refine g_iconst K 0 dX0_directionAcross_55 (by decide +kernel) ?_
        exact g_retd hret dX0_directionAcross_56 (by unfold dirAc dirD; (repeat' split) <;> first | rfl | contradiction | (exfalso; omega) | omega) rfl
    · refine g_iconst K 1 dX0_directionAcross_28 (by decide +kernel) ?_
      refine g_goto (tgt := 33) K dX0_directionAcross_29 (by decide) ?_
      refine g_istore (lo' := [(4, .int (nI (1))), (3, .int (nI (1))), (0, .ref (g_ad X 10)), (1, .int (nI (v))), (2, .int (nI (r)))]) K dX0_directionAcross_33 (by decide) rfl ?_
      refine g_iload_n K 1 dX0_directionAcross_35 rfl ?_
      refine g_iload K 0 dX0_directionAcross_36 rfl ?_
      refine g_icmp_eq (tgt := 55) (a := 1) (b := 1) K dX0_directionAcross_38 (by decide) (by omega) (by omega) (fun h38_21 => ?_) (fun h38_21 => absurd h38_21 (by omega))
      refine g_iconst K 0 dX0_directionAcross_55 (by decide +kernel) ?_
      exact g_retd hret dX0_directionAcross_56 (by unfold dirAc dirD; (repeat' split) <;> first | rfl | contradiction | (exfalso; omega) | omega) rfl

def pm (n : Nat) : Nat := if n = 0 then 4294967295 else n - 1
theorem gi_pm {n : Nat} : nI n - nI 1 = nI (pm n) := by
  unfold pm
  split
  · rename_i h; subst h; decide +kernel
  · exact gi_sub (by omega)
theorem gi_pm1 (n : Nat) : nI n + Int32.ofInt (-1) = nI (pm n) := by
  unfold pm
  split
  · rename_i h; subst h; decide +kernel
  · exact gi_dec (by omega)
theorem pm_lt {n : Nat} (h : n < 2147483648) : pm n < 4294967296 ∧ (n = 0 → 2147483648 ≤ pm n) ∧ (0 < n → pm n = n - 1) := by unfold pm; split <;> omega
def fKeep (a b di cr : Nat → Nat) (n : Nat) (x : Nat × (Nat → Nat)) : Nat × (Nat → Nat) :=
  if di (cr n) = 0 ∨ 2147483648 ≤ di (cr n) then (if a (cr n) = x.1 then (b (cr n), va_up x.2 (cr n) ((x.2 (cr n) + di (cr n)) % 4294967296)) else x)
  else (if b (cr n) = x.1 then (a (cr n), va_up x.2 (cr n) ((x.2 (cr n) + di (cr n)) % 4294967296)) else x)
def keepGo (a b di cr : Nat → Nat) : Nat → Nat × (Nat → Nat) → Nat × (Nat → Nat)
  | 0, x => x
  | n + 1, x => keepGo a b di cr n (fKeep a b di cr n x)
set_option maxHeartbeats 4000000 in
set_option maxRecDepth 100000 in
theorem L_keep (X : gC) (S : Nat → Nat → Nat) (m : Nat) (K : gOk X cX0_keepWayTo 8 wsX0_keepWayTo RX0) (hRf : 0 ≤ (g_R X).frames) (hRl : 0 ≤ (g_R X).locals) (hm : m ≤ 12) (hcr : ∀ k, k < m → S 14 k < 12) (hdi : ∀ k, k < m → S 15 (S 14 k) < 4294967296) (ha : ∀ j, j < 12 → S 11 j < 4294967296) (hb : ∀ j, j < 12 → S 12 j < 4294967296) : ∀ (n wt : Nat) (w : Nat → Nat), n ≤ m ∧ wt < 4294967296 → gG X 114 [] [] (va_up S 13 (keepGo (S 11) (S 12) (S 15) (S 14) n (wt, w)).2) → gG X 7 [(0, .ref (g_ad X 10)), (3, .int (nI (wt))), (4, .int (nI (pm n)))] [] (va_up S 13 (w)) := by
  have hin0 : ∀ w ∈ u_ws RX0 TX0 6, w ∈ wsX0_keepWayTo := by decide +kernel
  intro n
  induction n with
  | zero =>
    intro wt w hj kk
    have hpm := pm_lt (n := 0) (by decide)
    refine g_iload K 2 dX0_keepWayTo_7 rfl ?_
    refine g_if_lt (tgt := 114) (a := pm 0) K dX0_keepWayTo_9 (by decide) (by omega) (fun h9_1 => ?_) (fun h9_1 => ?_)
    · exact g_loc (lo' := []) [] rfl kk
    · exact absurd h9_1 (by omega)
  | succ n ih =>
    intro wt w hj kk
    have hpm := pm_lt (n := n + 1) (by omega)
    refine g_iload K 2 dX0_keepWayTo_7 rfl ?_
    refine g_if_lt (tgt := 114) (a := pm (n + 1)) K dX0_keepWayTo_9 (by decide) (by omega) (fun h9_1 => ?_) (fun h9_1 => ?_)
    · exact absurd h9_1 (by omega)
    · have hn1 : n < 12 := by omega
      have hc1 := hcr n (by omega)
      refine g_cast (lo' := [(0, .ref (g_ad X 10)), (3, .int (nI wt)), (4, .int (nI n))]) (by rw [show pm (n + 1) = n from rfl]) rfl rfl ?_
      refine g_aload_n K 0 dX0_keepWayTo_12 rfl ?_
      refine g_getR (q' := 14) (q := 10) (ci := 0) (k := 4) (N := 6) (C := RX0) (T := TX0) (ref := "ValveWalk$Breaks") K rfl rfl rfl (by decide) hin0 (by decide +kernel) rfl dX0_keepWayTo_13 ?_
      refine g_iload K 2 dX0_keepWayTo_16 rfl ?_
      refine g_ald (q := 14) (n := 12) (i := n) K rfl (by decide) (by omega) dX0_keepWayTo_18 ?_
      refine g_topE (S 14 (n)) rfl ?_
      refine g_istore (lo' := [(5, .int (nI (S 14 (n)))), (0, .ref (g_ad X 10)), (3, .int (nI (wt))), (4, .int (nI (n)))]) K dX0_keepWayTo_19 (by decide) rfl ?_
      refine g_aload_n K 1 dX0_keepWayTo_21 rfl ?_
      refine g_getR (q' := 15) (q := 10) (ci := 0) (k := 5) (N := 6) (C := RX0) (T := TX0) (ref := "ValveWalk$Breaks") K rfl rfl rfl (by decide) hin0 (by decide +kernel) rfl dX0_keepWayTo_22 ?_
      refine g_iload K 0 dX0_keepWayTo_25 rfl ?_
      have hd1 := hdi n (by omega)
      refine g_ald (q := 15) (n := 12) (i := S 14 (n)) K rfl (by decide) (by omega) dX0_keepWayTo_27 ?_
      refine g_topE (S 15 (S 14 (n))) rfl ?_
      refine g_if_le (tgt := 35) (a := S 15 (S 14 (n))) K dX0_keepWayTo_28 (by decide) (by omega) (fun h28_2 => ?_) (fun h28_2 => ?_)
      · refine g_iconst K 0 dX0_keepWayTo_35 (by decide +kernel) ?_
        refine g_istore (lo' := [(6, .int (nI (0))), (5, .int (nI (S 14 (n)))), (0, .ref (g_ad X 10)), (3, .int (nI (wt))), (4, .int (nI (n)))]) K dX0_keepWayTo_36 (by decide) rfl ?_
        refine g_iload K 0 dX0_keepWayTo_38 rfl ?_
        refine g_if_eq (tgt := 53) (a := 0) K dX0_keepWayTo_40 (by decide) (by omega) (fun h40_3 => ?_) (fun h40_3 => absurd h40_3 (by omega))
        refine g_aload_n K 2 dX0_keepWayTo_53 rfl ?_
        refine g_getR (q' := 11) (q := 10) (ci := 0) (k := 1) (N := 6) (C := RX0) (T := TX0) (ref := "ValveWalk$Breaks") K rfl rfl rfl (by decide) hin0 (by decide +kernel) rfl dX0_keepWayTo_54 ?_
        refine g_iload K 1 dX0_keepWayTo_57 rfl ?_
        refine g_ald (q := 11) (n := 12) (i := S 14 (n)) K rfl (by decide) (by omega) dX0_keepWayTo_59 ?_
        refine g_topE (S 11 (S 14 (n))) rfl ?_
        refine g_istore (lo' := [(7, .int (nI (S 11 (S 14 (n))))), (6, .int (nI (0))), (5, .int (nI (S 14 (n)))), (0, .ref (g_ad X 10)), (3, .int (nI (wt))), (4, .int (nI (n)))]) K dX0_keepWayTo_60 (by decide) rfl ?_
        have ha1 := ha _ hc1
        have hb1 := hb _ hc1
        refine g_iload K 0 dX0_keepWayTo_62 rfl ?_
        refine g_iload_n K 4 dX0_keepWayTo_64 rfl ?_
        refine g_icmp_ne (tgt := 108) (a := S 11 (S 14 (n))) (b := wt) K dX0_keepWayTo_65 (by decide) (by omega) (by omega) (fun h65_4 => ?_) (fun h65_4 => ?_)
        · refine g_iinc (a := n) (b := pm n) (lo' := [(4, .int (nI (pm n))), (7, .int (nI (S 11 (S 14 (n))))), (6, .int (nI (0))), (5, .int (nI (S 14 (n)))), (0, .ref (g_ad X 10)), (3, .int (nI (wt)))]) K 5 dX0_keepWayTo_108 rfl (gi_pm1 n) (by decide) rfl ?_
          refine g_goto (tgt := 7) K dX0_keepWayTo_111 (by decide) ?_
          refine g_loc (lo' := [(0, .ref (g_ad X 10)), (3, .int (nI (wt))), (4, .int (nI (pm n)))]) [4, 5, 0] rfl ?_
          exact ih (wt) (w) (by omega) (by rw [keepGo, show fKeep (S 11) (S 12) (S 15) (S 14) n (wt, w) = (wt, w) from by simp only [fKeep]; (repeat' split) <;> first | rfl | contradiction | (exfalso; omega) | omega] at kk; exact kk)
        · refine g_aload_n K 3 dX0_keepWayTo_68 rfl ?_
          refine g_getR (q' := 13) (q := 10) (ci := 0) (k := 3) (N := 6) (C := RX0) (T := TX0) (ref := "ValveWalk$Breaks") K rfl rfl rfl (by decide) hin0 (by decide +kernel) rfl dX0_keepWayTo_69 ?_
          refine g_iload K 2 dX0_keepWayTo_72 rfl ?_
          refine g_dup2 K dX0_keepWayTo_74 rfl rfl ?_
          refine g_ald (q := 13) (n := 12) (i := S 14 (n)) K rfl (by decide) (by omega) dX0_keepWayTo_75 ?_
          refine g_topE (w (S 14 (n))) rfl ?_
          refine g_aload_n K 3 dX0_keepWayTo_76 rfl ?_
          refine g_getR (q' := 15) (q := 10) (ci := 0) (k := 5) (N := 6) (C := RX0) (T := TX0) (ref := "ValveWalk$Breaks") K rfl rfl rfl (by decide) hin0 (by decide +kernel) rfl dX0_keepWayTo_77 ?_
          refine g_iload K 2 dX0_keepWayTo_80 rfl ?_
          refine g_ald (q := 15) (n := 12) (i := S 14 (n)) K rfl (by decide) (by omega) dX0_keepWayTo_82 ?_
          refine g_topE (S 15 (S 14 (n))) rfl ?_
          refine g_iaddM (a := w (S 14 (n))) (b := S 15 (S 14 (n))) K dX0_keepWayTo_83 ?_
          refine g_ast (q := 13) (n := 12) (i := S 14 (n)) (a := ((w (S 14 (n))) + (S 15 (S 14 (n)))) % 4294967296) K rfl (by decide) (by omega) dX0_keepWayTo_84 ?_
          refine g_cast (S' := (va_up S 13 (va_up w (S 14 (n)) (((w (S 14 (n))) + (S 15 (S 14 (n)))) % 4294967296)))) rfl rfl (gup_w1a) ?_
          refine g_iload K 1 dX0_keepWayTo_85 rfl ?_
          refine g_if_eq (tgt := 100) (a := 0) K dX0_keepWayTo_87 (by decide) (by omega) (fun h87_5 => ?_) (fun h87_5 => absurd h87_5 (by omega))
          refine g_aload_n K 3 dX0_keepWayTo_100 rfl ?_
          refine g_getR (q' := 12) (q := 10) (ci := 0) (k := 2) (N := 6) (C := RX0) (T := TX0) (ref := "ValveWalk$Breaks") K rfl rfl rfl (by decide) hin0 (by decide +kernel) rfl dX0_keepWayTo_101 ?_
          refine g_iload K 2 dX0_keepWayTo_104 rfl ?_
          refine g_ald (q := 12) (n := 12) (i := S 14 (n)) K rfl (by decide) (by omega) dX0_keepWayTo_106 ?_
          refine g_topE (S 12 (S 14 (n))) rfl ?_
          refine g_istore_n (lo' := [(3, .int (nI (S 12 (S 14 (n))))), (7, .int (nI (S 11 (S 14 (n))))), (6, .int (nI (0))), (5, .int (nI (S 14 (n)))), (0, .ref (g_ad X 10)), (4, .int (nI (n)))]) K dX0_keepWayTo_107 (by decide) rfl ?_
          refine g_iinc (a := n) (b := pm n) (lo' := [(4, .int (nI (pm n))), (3, .int (nI (S 12 (S 14 (n))))), (7, .int (nI (S 11 (S 14 (n))))), (6, .int (nI (0))), (5, .int (nI (S 14 (n)))), (0, .ref (g_ad X 10))]) K 5 dX0_keepWayTo_108 rfl (gi_pm1 n) (by decide) rfl ?_
          refine g_goto (tgt := 7) K dX0_keepWayTo_111 (by decide) ?_
          refine g_loc (lo' := [(0, .ref (g_ad X 10)), (3, .int (nI (S 12 (S 14 (n))))), (4, .int (nI (pm n)))]) [5, 1, 0] rfl ?_
          exact ih (S 12 (S 14 (n))) (va_up w (S 14 (n)) (((w (S 14 (n))) + (S 15 (S 14 (n)))) % 4294967296)) (by omega) (by rw [keepGo, show fKeep (S 11) (S 12) (S 15) (S 14) n (wt, w) = (S 12 (S 14 (n)), va_up w (S 14 (n)) (((w (S 14 (n))) + (S 15 (S 14 (n)))) % 4294967296)) from by simp only [fKeep]; (repeat' split) <;> first | rfl | contradiction | (exfalso; omega) | omega] at kk; exact kk)
      · refine g_iconst K 1 dX0_keepWayTo_31 (by decide +kernel) ?_
        refine g_goto (tgt := 36) K dX0_keepWayTo_32 (by decide) ?_
        refine g_istore (lo' := [(6, .int (nI (1))), (5, .int (nI (S 14 (n)))), (0, .ref (g_ad X 10)), (3, .int (nI (wt))), (4, .int (nI (n)))]) K dX0_keepWayTo_36 (by decide) rfl ?_
        refine g_iload K 0 dX0_keepWayTo_38 rfl ?_
        refine g_if_eq (tgt := 53) (a := 1) K dX0_keepWayTo_40 (by decide) (by omega) (fun h40_6 => absurd h40_6 (by omega)) (fun h40_6 => ?_)
        refine g_aload_n K 2 dX0_keepWayTo_43 rfl ?_
        refine g_getR (q' := 12) (q := 10) (ci := 0) (k := 2) (N := 6) (C := RX0) (T := TX0) (ref := "ValveWalk$Breaks") K rfl rfl rfl (by decide) hin0 (by decide +kernel) rfl dX0_keepWayTo_44 ?_
        refine g_iload K 1 dX0_keepWayTo_47 rfl ?_
        refine g_ald (q := 12) (n := 12) (i := S 14 (n)) K rfl (by decide) (by omega) dX0_keepWayTo_49 ?_
        refine g_topE (S 12 (S 14 (n))) rfl ?_
        refine g_goto (tgt := 60) K dX0_keepWayTo_50 (by decide) ?_
        refine g_istore (lo' := [(7, .int (nI (S 12 (S 14 (n))))), (6, .int (nI (1))), (5, .int (nI (S 14 (n)))), (0, .ref (g_ad X 10)), (3, .int (nI (wt))), (4, .int (nI (n)))]) K dX0_keepWayTo_60 (by decide) rfl ?_
        have ha1 := ha _ hc1
        have hb1 := hb _ hc1
        refine g_iload K 0 dX0_keepWayTo_62 rfl ?_
        refine g_iload_n K 4 dX0_keepWayTo_64 rfl ?_
        refine g_icmp_ne (tgt := 108) (a := S 12 (S 14 (n))) (b := wt) K dX0_keepWayTo_65 (by decide) (by omega) (by omega) (fun h65_7 => ?_) (fun h65_7 => ?_)
        · refine g_iinc (a := n) (b := pm n) (lo' := [(4, .int (nI (pm n))), (7, .int (nI (S 12 (S 14 (n))))), (6, .int (nI (1))), (5, .int (nI (S 14 (n)))), (0, .ref (g_ad X 10)), (3, .int (nI (wt)))]) K 5 dX0_keepWayTo_108 rfl (gi_pm1 n) (by decide) rfl ?_
          refine g_goto (tgt := 7) K dX0_keepWayTo_111 (by decide) ?_
          refine g_loc (lo' := [(0, .ref (g_ad X 10)), (3, .int (nI (wt))), (4, .int (nI (pm n)))]) [4, 5, 0] rfl ?_
          exact ih (wt) (w) (by omega) (by rw [keepGo, show fKeep (S 11) (S 12) (S 15) (S 14) n (wt, w) = (wt, w) from by simp only [fKeep]; (repeat' split) <;> first | rfl | contradiction | (exfalso; omega) | omega] at kk; exact kk)
        · refine g_aload_n K 3 dX0_keepWayTo_68 rfl ?_
          refine g_getR (q' := 13) (q := 10) (ci := 0) (k := 3) (N := 6) (C := RX0) (T := TX0) (ref := "ValveWalk$Breaks") K rfl rfl rfl (by decide) hin0 (by decide +kernel) rfl dX0_keepWayTo_69 ?_
          refine g_iload K 2 dX0_keepWayTo_72 rfl ?_
          refine g_dup2 K dX0_keepWayTo_74 rfl rfl ?_
          refine g_ald (q := 13) (n := 12) (i := S 14 (n)) K rfl (by decide) (by omega) dX0_keepWayTo_75 ?_
          refine g_topE (w (S 14 (n))) rfl ?_
          refine g_aload_n K 3 dX0_keepWayTo_76 rfl ?_
          refine g_getR (q' := 15) (q := 10) (ci := 0) (k := 5) (N := 6) (C := RX0) (T := TX0) (ref := "ValveWalk$Breaks") K rfl rfl rfl (by decide) hin0 (by decide +kernel) rfl dX0_keepWayTo_77 ?_
          refine g_iload K 2 dX0_keepWayTo_80 rfl ?_
          refine g_ald (q := 15) (n := 12) (i := S 14 (n)) K rfl (by decide) (by omega) dX0_keepWayTo_82 ?_
          refine g_topE (S 15 (S 14 (n))) rfl ?_
          refine g_iaddM (a := w (S 14 (n))) (b := S 15 (S 14 (n))) K dX0_keepWayTo_83 ?_
          refine g_ast (q := 13) (n := 12) (i := S 14 (n)) (a := ((w (S 14 (n))) + (S 15 (S 14 (n)))) % 4294967296) K rfl (by decide) (by omega) dX0_keepWayTo_84 ?_
          refine g_cast (S' := (va_up S 13 (va_up w (S 14 (n)) (((w (S 14 (n))) + (S 15 (S 14 (n)))) % 4294967296)))) rfl rfl (gup_w1a) ?_
          refine g_iload K 1 dX0_keepWayTo_85 rfl ?_
          refine g_if_eq (tgt := 100) (a := 1) K dX0_keepWayTo_87 (by decide) (by omega) (fun h87_8 => absurd h87_8 (by omega)) (fun h87_8 => ?_)
          refine g_aload_n K 3 dX0_keepWayTo_90 rfl ?_
          refine g_getR (q' := 11) (q := 10) (ci := 0) (k := 1) (N := 6) (C := RX0) (T := TX0) (ref := "ValveWalk$Breaks") K rfl rfl rfl (by decide) hin0 (by decide +kernel) rfl dX0_keepWayTo_91 ?_
          refine g_iload K 2 dX0_keepWayTo_94 rfl ?_
          refine g_ald (q := 11) (n := 12) (i := S 14 (n)) K rfl (by decide) (by omega) dX0_keepWayTo_96 ?_
          refine g_topE (S 11 (S 14 (n))) rfl ?_
          refine g_goto (tgt := 107) K dX0_keepWayTo_97 (by decide) ?_
          refine g_istore_n (lo' := [(3, .int (nI (S 11 (S 14 (n))))), (7, .int (nI (S 12 (S 14 (n))))), (6, .int (nI (1))), (5, .int (nI (S 14 (n)))), (0, .ref (g_ad X 10)), (4, .int (nI (n)))]) K dX0_keepWayTo_107 (by decide) rfl ?_
          refine g_iinc (a := n) (b := pm n) (lo' := [(4, .int (nI (pm n))), (3, .int (nI (S 11 (S 14 (n))))), (7, .int (nI (S 12 (S 14 (n))))), (6, .int (nI (1))), (5, .int (nI (S 14 (n)))), (0, .ref (g_ad X 10))]) K 5 dX0_keepWayTo_108 rfl (gi_pm1 n) (by decide) rfl ?_
          refine g_goto (tgt := 7) K dX0_keepWayTo_111 (by decide) ?_
          refine g_loc (lo' := [(0, .ref (g_ad X 10)), (3, .int (nI (S 11 (S 14 (n))))), (4, .int (nI (pm n)))]) [5, 1, 0] rfl ?_
          exact ih (S 11 (S 14 (n))) (va_up w (S 14 (n)) (((w (S 14 (n))) + (S 15 (S 14 (n)))) % 4294967296)) (by omega) (by rw [keepGo, show fKeep (S 11) (S 12) (S 15) (S 14) n (wt, w) = (S 11 (S 14 (n)), va_up w (S 14 (n)) (((w (S 14 (n))) + (S 15 (S 14 (n)))) % 4294967296)) from by simp only [fKeep]; (repeat' split) <;> first | rfl | contradiction | (exfalso; omega) | omega] at kk; exact kk)

set_option maxHeartbeats 4000000 in
set_option maxRecDepth 100000 in
theorem cX0_keepWayTo_k (Z : gZ) (S : Nat → Nat → Nat) (g n : Nat) (hg : g < 4294967296) (hm : n ≤ 12) (hcr : ∀ k, k < n → S 14 k < 12) (hdi : ∀ k, k < n → S 15 (S 14 k) < 4294967296) (ha : ∀ j, j < 12 → S 11 j < 4294967296) (hb : ∀ j, j < 12 → S 12 j < 4294967296) : gMv Z yX0_keepWayTo wsX0_keepWayTo { frames := 0, cells := 0, slots := 0, locals := 0 } [.ref (gz_ad Z 10), .int (nI (g)), .int (nI (n))] S (va_up S 13 (keepGo (S 11) (S 12) (S 15) (S 14) n (g, S 13)).2) := by
  refine gMv_of (cc := cX0_keepWayTo) (maxL := 8) (by decide +kernel) rfl (Nat.le_of_ble_eq_true rfl)  (fun X hZ hR K hret => ?_)
  subst hZ
  have K : gOk X cX0_keepWayTo 8 wsX0_keepWayTo RX0 := K
  have hRf : 0 ≤ (g_R X).frames := gR_f hR rfl
  have hRl : 0 ≤ (g_R X).locals := gR_l hR rfl
  have hin0 : ∀ w ∈ u_ws RX0 TX0 6, w ∈ wsX0_keepWayTo := by decide +kernel
 
  show gG X 0 [(0, .ref (g_ad X 10)), (1, .int (nI (g))), (2, .int (nI (n)))] [] S
  refine g_iload_n K 1 dX0_keepWayTo_0 rfl ?_
  refine g_istore_n (lo' := [(3, .int (nI (g))), (0, .ref (g_ad X 10)), (1, .int (nI (g))), (2, .int (nI (n)))]) K dX0_keepWayTo_1 (by decide) rfl ?_
  refine g_iload_n K 3 dX0_keepWayTo_2 rfl ?_
  refine g_iconst K 1 dX0_keepWayTo_3 (by decide +kernel) ?_
  refine g_isub' K (pm n) (gi_pm) dX0_keepWayTo_4 ?_
  refine g_istore (lo' := [(4, .int (nI (pm n))), (3, .int (nI (g))), (0, .ref (g_ad X 10)), (1, .int (nI (g))), (2, .int (nI (n)))]) K dX0_keepWayTo_5 (by decide) rfl ?_
  refine g_loc (lo' := [(0, .ref (g_ad X 10)), (3, .int (nI (g))), (4, .int (nI (pm n)))]) [2, 1, 0] rfl ?_
  refine g_cast (S' := (va_up S 13 (S 13))) rfl rfl (up_id1 ..).symm ?_
  refine L_keep X S n K (Nat.le_trans (Nat.le_of_ble_eq_true rfl) hRf) (Nat.le_trans (Nat.le_of_ble_eq_true rfl) hRl) hm hcr hdi ha hb n g (S 13) ⟨Nat.le_refl _, hg⟩ ?_
  exact g_retv hret dX0_keepWayTo_114 rfl

