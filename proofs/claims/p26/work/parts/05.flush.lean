/-! Segments by merging -/
def fFill (j : Nat) (d : Nat → Nat) : Nat → Nat := va_up d j j
theorem gfill_lt : ∀ (k j : Nat) (d : Nat → Nat), j + k ≤ 28 → (∀ i, i < j → d i < 28) → ∀ i, i < j + k → gfor fFill k j d i < 28
  | 0, j, d, _, h => by intro i hi; exact h i (by omega)
  | k + 1, j, d, hk, h => by
    intro i hi
    refine gfill_lt k (j + 1) (fFill j d) (by omega) ?_ i (by omega)
    intro i hi
    simp only [fFill, va_up]
    split
    · omega
    · exact h i (by omega)
theorem fill_lt (d : Nat → Nat) : ∀ i, i < 28 → gfor fFill 28 0 d i < 28 := fun i hi => gfill_lt 28 0 d (by omega) (fun _ h => absurd h (by omega)) i (by omega)
def fEnd (S : Nat → Nat → Nat) (p e : Nat) (d : Nat → Nat) : Nat → Nat := if S 5 (2 * p + e) = 0 then mergeF d (12 + p) (S 4 (2 * p + e)) else d
def fPipe (S : Nat → Nat → Nat) (p : Nat) (d : Nat → Nat) : Nat → Nat := gfor (fEnd S p) 2 0 d
def mergeAll (S : Nat → Nat → Nat) : Nat → Nat := gfor (fPipe S) (S 1 1) 0 (gfor fFill 28 0 (S 9))
theorem fEnd_lt {S : Nat → Nat → Nat} (hw : wfC S) {p : Nat} (hp : p < 16) (e : Nat) (d : Nat → Nat) (hd : ∀ j, j < 28 → d j < 28) : ∀ j, j < 28 → fEnd S p e d j < 28 := by
  unfold fEnd
  split
  · exact mergeF_lt hd (by omega) (Nat.lt_trans (hw.2.2.2.2.2.2.2.2.1 _) (by decide))
  · exact hd
theorem fPipe_lt {S : Nat → Nat → Nat} (hw : wfC S) {p : Nat} (hp : p < 16) {d : Nat → Nat} (hd : ∀ j, j < 28 → d j < 28) : ∀ j, j < 28 → fPipe S p d j < 28 :=
  gfor_inv (fun d => ∀ j, j < 28 → d j < 28) (fEnd S p) (fun e d h => fEnd_lt hw hp e d h) 2 0 d hd
theorem gforP_lt {S : Nat → Nat → Nat} (hw : wfC S) : ∀ (k p : Nat) (d : Nat → Nat), p + k ≤ 16 → (∀ j, j < 28 → d j < 28) → ∀ j, j < 28 → gfor (fPipe S) k p d j < 28
  | 0, _, _, _, h => h
  | k + 1, p, d, hk, h => gforP_lt hw k (p + 1) (fPipe S p d) (by omega) (fPipe_lt hw (by omega) h)
theorem mergeAll_lt {S : Nat → Nat → Nat} (hw : wfC S) : ∀ j, j < 28 → mergeAll S j < 28 := gforP_lt hw _ 0 _ (by have := hw.2.1; omega) (fill_lt _)
def fNum (S : Nat → Nat → Nat) (d : Nat → Nat) (j n : Nat) : Nat := if hasPart S j = 0 then n else if firstOf d j = j then n + 1 else n
def numMerge (S : Nat → Nat → Nat) (a : Nat) : Nat := gfor (fNum S (mergeAll S)) (firstOf (mergeAll S) a) 0 0
set_option maxHeartbeats 4000000 in
set_option maxRecDepth 100000 in
theorem L_fill (X : gC) (S : Nat → Nat → Nat) (K : gOk X cX3_mergePipes 3 wsX3_mergePipes RX3) (hRf : 0 ≤ (g_R X).frames) (hRl : 0 ≤ (g_R X).locals) : ∀ (k j : Nat) (d : Nat → Nat), j + k = 28 → gG X 21 [(0, .ref (g_ad X 8)), (1, .int (nI (28)))] [] (va_up S 9 (((gfor (fFill) k j d)))) → gG X 2 [(0, .ref (g_ad X 8)), (1, .int (nI (j)))] [] (va_up S 9 (d)) := by
  have hin3 : ∀ w ∈ u_ws RX3 TX3 2, w ∈ wsX3_mergePipes := by decide +kernel
  intro k
  induction k with
  | zero =>
    intro j d hj kk
    have hj : j = 28 := by omega
    refine g_iload_n K 1 dX3_mergePipes_2 rfl ?_
    refine g_bipush K 28 dX3_mergePipes_3 (by decide +kernel) ?_
    refine g_icmp_ge (tgt := 21) (a := j) (b := 28) K dX3_mergePipes_5 (by decide) (by omega) (by omega) (fun h5_1 => ?_) (fun h5_1 => ?_)
    · refine g_loc (lo' := [(0, .ref (g_ad X 8)), (1, .int (nI (j)))]) [0, 1] rfl ?_
      exact g_cast (by first | rfl | (rw [hj]; done) | (rw [hj]; rfl)) rfl rfl kk
    · exact absurd h5_1 (by omega)
  | succ k ih =>
    intro j d hj kk
    refine g_iload_n K 1 dX3_mergePipes_2 rfl ?_
    refine g_bipush K 28 dX3_mergePipes_3 (by decide +kernel) ?_
    refine g_icmp_ge (tgt := 21) (a := j) (b := 28) K dX3_mergePipes_5 (by decide) (by omega) (by omega) (fun h5_1 => ?_) (fun h5_1 => ?_)
    · exact absurd h5_1 (by omega)
    · refine g_aload_n K 0 dX3_mergePipes_8 rfl ?_
      refine g_getR (q' := 9) (q := 8) (ci := 3) (k := 1) (N := 2) (C := RX3) (T := TX3) (ref := "ValveWalk$Segments") K rfl rfl rfl (by decide) hin3 (by decide +kernel) rfl dX3_mergePipes_9 ?_
      refine g_iload_n K 1 dX3_mergePipes_12 rfl ?_
      refine g_iload_n K 1 dX3_mergePipes_13 rfl ?_
      refine g_ast (q := 9) (n := 28) (i := j) (a := j) K rfl (by decide) (by omega) dX3_mergePipes_14 ?_
      refine g_cast (S' := (va_up S 9 (va_up d (j) (j)))) rfl rfl (gup_w1a) ?_
      refine g_iinc (a := j) (b := j + 1) (lo' := [(1, .int (nI (j + 1))), (0, .ref (g_ad X 8))]) K 1 dX3_mergePipes_15 rfl (gi_inc _) (by decide) rfl ?_
      refine g_goto (tgt := 2) K dX3_mergePipes_18 (by decide) ?_
      refine g_loc (lo' := [(0, .ref (g_ad X 8)), (1, .int (nI (j + 1)))]) [1, 0] rfl ?_
      exact ih (j + 1) (va_up d (j) (j)) (by omega)  kk

set_option maxHeartbeats 4000000 in
set_option maxRecDepth 100000 in
theorem L_ends (X : gC) (S : Nat → Nat → Nat) (p : Nat) (K : gOk X cX3_mergePipes 3 wsX3_mergePipes RX3) (hRf : 2 ≤ (g_R X).frames) (hRl : 47 ≤ (g_R X).locals) (hw : wfC S) (hp : p < 16) : ∀ (k e : Nat) (d : Nat → Nat), e + k = 2 → (∀ j, j < 28 → d j < 28) → gG X 76 [(0, .ref (g_ad X 8)), (1, .int (nI (p))), (2, .int (nI (2)))] [] (va_up S 9 (((gfor (fEnd S p) k e d)))) → gG X 36 [(0, .ref (g_ad X 8)), (1, .int (nI (p))), (2, .int (nI (e)))] [] (va_up S 9 (d)) := by
  have hin3 : ∀ w ∈ u_ws RX3 TX3 2, w ∈ wsX3_mergePipes := by decide +kernel
  obtain ⟨w0, w1, w2, w3, wsh, wst, a2, a3, a4, a5, a6, a7⟩ := id hw
  intro k
  induction k with
  | zero =>
    intro e d hj hd kk
    have hj : e = 2 := by omega
    refine g_iload_n K 2 dX3_mergePipes_36 rfl ?_
    refine g_iconst K 2 dX3_mergePipes_37 (by decide +kernel) ?_
    refine g_icmp_ge (tgt := 76) (a := e) (b := 2) K dX3_mergePipes_38 (by decide) (by omega) (by omega) (fun h38_1 => ?_) (fun h38_1 => ?_)
    · refine g_loc (lo' := [(0, .ref (g_ad X 8)), (1, .int (nI (p))), (2, .int (nI (e)))]) [0, 1, 2] rfl ?_
      exact g_cast (by first | rfl | (rw [hj]; done) | (rw [hj]; rfl)) rfl rfl kk
    · exact absurd h38_1 (by omega)
  | succ k ih =>
    intro e d hj hd kk
    refine g_iload_n K 2 dX3_mergePipes_36 rfl ?_
    refine g_iconst K 2 dX3_mergePipes_37 (by decide +kernel) ?_
    refine g_icmp_ge (tgt := 76) (a := e) (b := 2) K dX3_mergePipes_38 (by decide) (by omega) (by omega) (fun h38_1 => ?_) (fun h38_1 => ?_)
    · exact absurd h38_1 (by omega)
    · refine g_aload_n K 0 dX3_mergePipes_41 rfl ?_
      refine g_getR (q' := 1) (q := 8) (ci := 3) (k := 0) (N := 2) (C := RX3) (T := TX3) (ref := "ValveWalk$Segments") K rfl rfl rfl (by decide) hin3 (by decide +kernel) rfl dX3_mergePipes_42 ?_
      refine g_iload_n K 1 dX3_mergePipes_45 rfl ?_
      refine g_iload_n K 2 dX3_mergePipes_46 rfl ?_
      refine g_callVd (q := 1) (ci := 2) (As := [.int (nI (p)), .int (nI (e))]) (rest := []) (C := RX2) (T := TX2) (N := 12) K (cX2_valveBitAt_k (g_z X) (va_up S 9 (d)) p e (by omega)) (cwV 2 K.1.2.2.2.2 gX3_mergePipes_X2_valveBitAt rfl rfl rfl (by decide +kernel) ⟨Nat.le_trans (Nat.le_of_ble_eq_true rfl) hRf, Nat.le_trans (Nat.le_of_ble_eq_true rfl) hRl⟩) rfl rfl rfl rfl (Nat.le_of_ble_eq_true rfl) dX3_mergePipes_47 ?_
      refine g_topE (S 5 (2 * p + e)) rfl ?_
      have h50 := a5 (2 * p + e)
      refine g_if_ne (tgt := 70) (a := S 5 (2 * p + e)) K dX3_mergePipes_50 (by decide) (by omega) (fun h50_2 => ?_) (fun h50_2 => ?_)
      · refine g_iinc (a := e) (b := e + 1) (lo' := [(2, .int (nI (e + 1))), (0, .ref (g_ad X 8)), (1, .int (nI (p)))]) K 2 dX3_mergePipes_70 rfl (gi_inc _) (by decide) rfl ?_
        refine g_goto (tgt := 36) K dX3_mergePipes_73 (by decide) ?_
        refine g_loc (lo' := [(0, .ref (g_ad X 8)), (1, .int (nI (p))), (2, .int (nI (e + 1)))]) [1, 2, 0] rfl ?_
        exact ih (e + 1) d (by omega) (hd) (by rw [gfor_succ, show (fEnd S p) e d = d from by simp only [fEnd]; (repeat' split) <;> first | rfl | contradiction | (exfalso; omega) | omega] at kk; exact kk)
      · refine g_aload_n K 0 dX3_mergePipes_53 rfl ?_
        refine g_iload_n K 1 dX3_mergePipes_54 rfl ?_
        refine g_callNd (As := [.int (nI (p))]) (rest := [.ref (g_ad X 8)]) (host := "ValveWalk") K (cX5_partOfPipe_k (g_z X) (va_up S 9 (d)) p) ⟨va_cnB 1 K.1.2.2.2.2 gX3_mergePipes_X5_partOfPipe_n58 rfl rfl rfl (K.2.2.2.1 _ (List.mem_of_getElem? (i := 8) rfl)) (K.1.2.2.2.2 _ (by decide +kernel)) (by decide +kernel) ⟨Nat.le_trans (Nat.le_of_ble_eq_true rfl) hRf, Nat.le_trans (Nat.le_of_ble_eq_true rfl) hRl⟩, K.1.2.2.2.2 _ (by decide +kernel), trivial⟩ rfl rfl (Nat.le_of_ble_eq_true rfl) dX3_mergePipes_55 ?_
        refine g_aload_n K 0 dX3_mergePipes_58 rfl ?_
        refine g_getR (q' := 1) (q := 8) (ci := 3) (k := 0) (N := 2) (C := RX3) (T := TX3) (ref := "ValveWalk$Segments") K rfl rfl rfl (by decide) hin3 (by decide +kernel) rfl dX3_mergePipes_59 ?_
        refine g_iload_n K 1 dX3_mergePipes_62 rfl ?_
        refine g_iload_n K 2 dX3_mergePipes_63 rfl ?_
        refine g_callVd (q := 1) (ci := 2) (As := [.int (nI (p)), .int (nI (e))]) (rest := [.int (nI (12 + p)), .ref (g_ad X 8)]) (C := RX2) (T := TX2) (N := 12) K (cX2_nodeAt_k (g_z X) (va_up S 9 (d)) p e (by omega)) (cwV 2 K.1.2.2.2.2 gX3_mergePipes_X2_nodeAt rfl rfl rfl (by decide +kernel) ⟨Nat.le_trans (Nat.le_of_ble_eq_true rfl) hRf, Nat.le_trans (Nat.le_of_ble_eq_true rfl) hRl⟩) rfl rfl rfl rfl (Nat.le_of_ble_eq_true rfl) dX3_mergePipes_64 ?_
        refine g_topE (S 4 (2 * p + e)) rfl ?_
        have h67 := a4 (2 * p + e)
        refine g_callVv (q := 8) (ci := 3) (As := [.int (nI (12 + p)), .int (nI (S 4 (2 * p + e)))]) (rest := []) (C := RX3) (T := TX3) (N := 2) K (cX3_merge_k (g_z X) (va_up S 9 (d)) (12 + p) (S 4 (2 * p + e)) (hd) (by omega) (by omega)) (cwV 2 K.1.2.2.2.2 gX3_mergePipes_X3_merge rfl rfl rfl (by decide +kernel) ⟨Nat.le_trans (Nat.le_of_ble_eq_true rfl) hRf, Nat.le_trans (Nat.le_of_ble_eq_true rfl) hRl⟩) rfl rfl rfl rfl (Nat.le_of_ble_eq_true rfl) dX3_mergePipes_67 ?_
        refine g_cast (S' := (va_up S 9 (mergeF d (12 + p) (S 4 (2 * p + e))))) rfl rfl (up_up ..) ?_
        refine g_iinc (a := e) (b := e + 1) (lo' := [(2, .int (nI (e + 1))), (0, .ref (g_ad X 8)), (1, .int (nI (p)))]) K 2 dX3_mergePipes_70 rfl (gi_inc _) (by decide) rfl ?_
        refine g_goto (tgt := 36) K dX3_mergePipes_73 (by decide) ?_
        refine g_loc (lo' := [(0, .ref (g_ad X 8)), (1, .int (nI (p))), (2, .int (nI (e + 1)))]) [1, 2, 0] rfl ?_
        exact ih (e + 1) (mergeF d (12 + p) (S 4 (2 * p + e))) (by omega) (mergeF_lt hd (by omega) (Nat.lt_trans (a4 _) (by decide))) (by rw [gfor_succ, show (fEnd S p) e d = mergeF d (12 + p) (S 4 (2 * p + e)) from by simp only [fEnd]; (repeat' split) <;> first | rfl | contradiction | (exfalso; omega) | omega] at kk; exact kk)

set_option maxHeartbeats 4000000 in
set_option maxRecDepth 100000 in
theorem L_pipes (X : gC) (S : Nat → Nat → Nat) (K : gOk X cX3_mergePipes 3 wsX3_mergePipes RX3) (hRf : 2 ≤ (g_R X).frames) (hRl : 47 ≤ (g_R X).locals) (hw : wfC S) : ∀ (k p : Nat) (d : Nat → Nat), p + k = S 1 1 → (∀ j, j < 28 → d j < 28) → gG X 82 [(0, .ref (g_ad X 8)), (1, .int (nI ((S 1 1))))] [] (va_up S 9 (((gfor (fPipe S) k p d)))) → gG X 23 [(0, .ref (g_ad X 8)), (1, .int (nI (p)))] [] (va_up S 9 (d)) := by
  have hin3 : ∀ w ∈ u_ws RX3 TX3 2, w ∈ wsX3_mergePipes := by decide +kernel
  obtain ⟨w0, w1, w2, w3, wsh, wst, a2, a3, a4, a5, a6, a7⟩ := id hw
  intro k
  induction k with
  | zero =>
    intro p d hj hd kk
    have hj : p = S 1 1 := by omega
    refine g_iload_n K 1 dX3_mergePipes_23 rfl ?_
    refine g_aload_n K 0 dX3_mergePipes_24 rfl ?_
    refine g_getR (q' := 1) (q := 8) (ci := 3) (k := 0) (N := 2) (C := RX3) (T := TX3) (ref := "ValveWalk$Segments") K rfl rfl rfl (by decide) hin3 (by decide +kernel) rfl dX3_mergePipes_25 ?_
    refine g_callVd (q := 1) (ci := 2) (As := []) (rest := [.int (nI (p))]) (C := RX2) (T := TX2) (N := 12) K (cX2_pipeCount_k (g_z X) (va_up S 9 (d))) (cwV 0 K.1.2.2.2.2 gX3_mergePipes_X2_pipeCount rfl rfl rfl (by decide +kernel) ⟨Nat.le_trans (Nat.le_of_ble_eq_true rfl) hRf, Nat.le_trans (Nat.le_of_ble_eq_true rfl) hRl⟩) rfl rfl rfl rfl (Nat.le_of_ble_eq_true rfl) dX3_mergePipes_28 ?_
    refine g_topE (S 1 1) rfl ?_
    refine g_icmp_ge (tgt := 82) (a := p) (b := S 1 1) K dX3_mergePipes_31 (by decide) (by omega) (by omega) (fun h31_1 => ?_) (fun h31_1 => ?_)
    · refine g_loc (lo' := [(0, .ref (g_ad X 8)), (1, .int (nI (p)))]) [0, 1] rfl ?_
      exact g_cast (by first | rfl | (rw [hj]; done) | (rw [hj]; rfl)) rfl rfl kk
    · exact absurd h31_1 (by omega)
  | succ k ih =>
    intro p d hj hd kk
    refine g_iload_n K 1 dX3_mergePipes_23 rfl ?_
    refine g_aload_n K 0 dX3_mergePipes_24 rfl ?_
    refine g_getR (q' := 1) (q := 8) (ci := 3) (k := 0) (N := 2) (C := RX3) (T := TX3) (ref := "ValveWalk$Segments") K rfl rfl rfl (by decide) hin3 (by decide +kernel) rfl dX3_mergePipes_25 ?_
    refine g_callVd (q := 1) (ci := 2) (As := []) (rest := [.int (nI (p))]) (C := RX2) (T := TX2) (N := 12) K (cX2_pipeCount_k (g_z X) (va_up S 9 (d))) (cwV 0 K.1.2.2.2.2 gX3_mergePipes_X2_pipeCount rfl rfl rfl (by decide +kernel) ⟨Nat.le_trans (Nat.le_of_ble_eq_true rfl) hRf, Nat.le_trans (Nat.le_of_ble_eq_true rfl) hRl⟩) rfl rfl rfl rfl (Nat.le_of_ble_eq_true rfl) dX3_mergePipes_28 ?_
    refine g_topE (S 1 1) rfl ?_
    refine g_icmp_ge (tgt := 82) (a := p) (b := S 1 1) K dX3_mergePipes_31 (by decide) (by omega) (by omega) (fun h31_1 => ?_) (fun h31_1 => ?_)
    · exact absurd h31_1 (by omega)
    · refine g_iconst K 0 dX3_mergePipes_34 (by decide +kernel) ?_
      refine g_istore_n (lo' := [(2, .int (nI (0))), (0, .ref (g_ad X 8)), (1, .int (nI (p)))]) K dX3_mergePipes_35 (by decide) rfl ?_
      refine g_loc (lo' := [(0, .ref (g_ad X 8)), (1, .int (nI (p))), (2, .int (nI (0)))]) [1, 2, 0] rfl ?_
      refine L_ends X S p K (Nat.le_trans (Nat.le_of_ble_eq_true rfl) hRf) (Nat.le_trans (Nat.le_of_ble_eq_true rfl) hRl) (hw) (by omega)  2 0 d (by omega) (hd) ?_
      refine g_iinc (a := p) (b := p + 1) (lo' := [(1, .int (nI (p + 1))), (0, .ref (g_ad X 8)), (2, .int (nI (2)))]) K 1 dX3_mergePipes_76 rfl (gi_inc _) (by decide) rfl ?_
      refine g_goto (tgt := 23) K dX3_mergePipes_79 (by decide) ?_
      refine g_loc (lo' := [(0, .ref (g_ad X 8)), (1, .int (nI (p + 1)))]) [1, 0] rfl ?_
      exact ih (p + 1) (((gfor (fEnd S p) 2 0 d))) (by omega) (fPipe_lt hw (by omega) hd) kk

set_option maxHeartbeats 4000000 in
set_option maxRecDepth 100000 in
theorem cX3_mergePipes_k (Z : gZ) (S : Nat → Nat → Nat) (hw : wfC S) : gMv Z yX3_mergePipes wsX3_mergePipes { frames := 2, cells := 0, slots := 0, locals := 47 } [.ref (gz_ad Z 8)] S (va_up S 9 (mergeAll S)) := by
  refine gMv_of (cc := cX3_mergePipes) (maxL := 3) (by decide +kernel) rfl (Nat.le_of_ble_eq_true rfl)  (fun X hZ hR K hret => ?_)
  subst hZ
  have K : gOk X cX3_mergePipes 3 wsX3_mergePipes RX3 := K
  have hRf : 2 ≤ (g_R X).frames := gR_f hR rfl
  have hRl : 47 ≤ (g_R X).locals := gR_l hR rfl
  have hin3 : ∀ w ∈ u_ws RX3 TX3 2, w ∈ wsX3_mergePipes := by decide +kernel
  obtain ⟨w0, w1, w2, w3, wsh, wst, a2, a3, a4, a5, a6, a7⟩ := id hw
  show gG X 0 [(0, .ref (g_ad X 8))] [] S
  refine g_iconst K 0 dX3_mergePipes_0 (by decide +kernel) ?_
  refine g_istore_n (lo' := [(1, .int (nI (0))), (0, .ref (g_ad X 8))]) K dX3_mergePipes_1 (by decide) rfl ?_
  refine g_loc (lo' := [(0, .ref (g_ad X 8)), (1, .int (nI (0)))]) [1, 0] rfl ?_
  refine g_cast (S' := (va_up S 9 (S 9))) rfl rfl (up_id1 ..).symm ?_
  refine L_fill X S  K (Nat.le_trans (Nat.le_of_ble_eq_true rfl) hRf) (Nat.le_trans (Nat.le_of_ble_eq_true rfl) hRl)   28 0 (S 9) (by omega)  ?_
  refine g_iconst K 0 dX3_mergePipes_21 (by decide +kernel) ?_
  refine g_istore_n (lo' := [(1, .int (nI (0))), (0, .ref (g_ad X 8))]) K dX3_mergePipes_22 (by decide) rfl ?_
  refine g_loc (lo' := [(0, .ref (g_ad X 8)), (1, .int (nI (0)))]) [1, 0] rfl ?_
  refine L_pipes X S  K (Nat.le_trans (Nat.le_of_ble_eq_true rfl) hRf) (Nat.le_trans (Nat.le_of_ble_eq_true rfl) hRl) (hw)  (S 1 1) 0 (gfor fFill 28 0 (S 9)) (by omega) (fill_lt _) ?_
  exact g_retv hret dX3_mergePipes_82 rfl

set_option maxHeartbeats 4000000 in
set_option maxRecDepth 100000 in
theorem L_num (X : gC) (S : Nat → Nat → Nat) (d : Nat → Nat) (a : Nat) (f : Nat) (K : gOk X cX3_numberByMerging 5 wsX3_numberByMerging RX3) (hRf : 2 ≤ (g_R X).frames) (hRl : 41 ≤ (g_R X).locals) (hw : wfC S) (hd : ∀ j, j < 28 → d j < 28) (hf : f < 28) : ∀ (k j : Nat) (n : Nat), j + k = f → gG X 53 [(0, .ref (g_ad X 8)), (1, .int (nI (a))), (2, .int (nI (f))), (3, .int (nI (((gfor (fNum S d) k j n))))), (4, .int (nI (f)))] [] (va_up S 9 (d)) → gG X 15 [(0, .ref (g_ad X 8)), (1, .int (nI (a))), (2, .int (nI (f))), (3, .int (nI (n))), (4, .int (nI (j)))] [] (va_up S 9 (d)) := by
  have hin3 : ∀ w ∈ u_ws RX3 TX3 2, w ∈ wsX3_numberByMerging := by decide +kernel
  obtain ⟨w0, w1, w2, w3, wsh, wst, a2, a3, a4, a5, a6, a7⟩ := id hw
  intro k
  induction k with
  | zero =>
    intro j n hj kk
    have hj : j = f := by omega
    refine g_iload K 4 dX3_numberByMerging_15 rfl ?_
    refine g_iload_n K 2 dX3_numberByMerging_17 rfl ?_
    refine g_icmp_ge (tgt := 53) (a := j) (b := f) K dX3_numberByMerging_18 (by decide) (by omega) (by omega) (fun h18_1 => ?_) (fun h18_1 => ?_)
    · refine g_loc (lo' := [(0, .ref (g_ad X 8)), (1, .int (nI (a))), (2, .int (nI (f))), (3, .int (nI (n))), (4, .int (nI (j)))]) [0, 1, 2, 3, 4] rfl ?_
      exact g_cast (by first | rfl | (rw [hj]; done) | (rw [hj]; rfl)) rfl rfl kk
    · exact absurd h18_1 (by omega)
  | succ k ih =>
    intro j n hj kk
    refine g_iload K 4 dX3_numberByMerging_15 rfl ?_
    refine g_iload_n K 2 dX3_numberByMerging_17 rfl ?_
    refine g_icmp_ge (tgt := 53) (a := j) (b := f) K dX3_numberByMerging_18 (by decide) (by omega) (by omega) (fun h18_1 => ?_) (fun h18_1 => ?_)
    · exact absurd h18_1 (by omega)
    · refine g_aload_n K 0 dX3_numberByMerging_21 rfl ?_
      refine g_getR (q' := 1) (q := 8) (ci := 3) (k := 0) (N := 2) (C := RX3) (T := TX3) (ref := "ValveWalk$Segments") K rfl rfl rfl (by decide) hin3 (by decide +kernel) rfl dX3_numberByMerging_22 ?_
      refine g_iload K 4 dX3_numberByMerging_25 rfl ?_
      refine g_callVd (q := 1) (ci := 2) (As := [.int (nI (j))]) (rest := []) (C := RX2) (T := TX2) (N := 12) K (cX2_hasPart_k (g_z X) (va_up S 9 (d)) j ((wfC_up hw (q := 9) (by decide) _)) (by omega)) (cwV 1 K.1.2.2.2.2 gX3_numberByMerging_X2_hasPart rfl rfl rfl (by decide +kernel) ⟨Nat.le_trans (Nat.le_of_ble_eq_true rfl) hRf, Nat.le_trans (Nat.le_of_ble_eq_true rfl) hRl⟩) rfl rfl rfl rfl (Nat.le_of_ble_eq_true rfl) dX3_numberByMerging_27 ?_
      refine g_topE (hasPart S j) (by first | (rw [hasPart_up (q := 9) (by decide)]; done) | (rw [hasPart_up (q := 9) (by decide)]; rfl)) ?_
      have hf27_2 := hasPart_le S j
      refine g_if_eq (tgt := 47) (a := hasPart S j) K dX3_numberByMerging_30 (by decide) (by omega) (fun h30_3 => ?_) (fun h30_3 => ?_)
      · refine g_iinc (a := j) (b := j + 1) (lo' := [(4, .int (nI (j + 1))), (0, .ref (g_ad X 8)), (1, .int (nI (a))), (2, .int (nI (f))), (3, .int (nI (n)))]) K 4 dX3_numberByMerging_47 rfl (gi_inc _) (by decide) rfl ?_
        refine g_goto (tgt := 15) K dX3_numberByMerging_50 (by decide) ?_
        refine g_loc (lo' := [(0, .ref (g_ad X 8)), (1, .int (nI (a))), (2, .int (nI (f))), (3, .int (nI (n))), (4, .int (nI (j + 1)))]) [1, 2, 3, 4, 0] rfl ?_
        exact ih (j + 1) n (by omega)  (by rw [gfor_succ, show (fNum S d) j n = n from by simp only [fNum]; (repeat' split) <;> first | rfl | contradiction | (exfalso; omega) | omega] at kk; exact kk)
      · refine g_aload_n K 0 dX3_numberByMerging_33 rfl ?_
        refine g_iload K 4 dX3_numberByMerging_34 rfl ?_
        refine g_callVd (q := 8) (ci := 3) (As := [.int (nI (j))]) (rest := []) (C := RX3) (T := TX3) (N := 2) K (cX3_firstOfSet_k (g_z X) (va_up S 9 (d)) j (hd) (by omega)) (cwV 1 K.1.2.2.2.2 gX3_numberByMerging_X3_firstOfSet rfl rfl rfl (by decide +kernel) ⟨Nat.le_trans (Nat.le_of_ble_eq_true rfl) hRf, Nat.le_trans (Nat.le_of_ble_eq_true rfl) hRl⟩) rfl rfl rfl rfl (Nat.le_of_ble_eq_true rfl) dX3_numberByMerging_36 ?_
        refine g_topE (firstOf d (j)) rfl ?_
        have h39 := firstOf_lt hd (show j < 28 by omega)
        refine g_iload K 4 dX3_numberByMerging_39 rfl ?_
        refine g_icmp_ne (tgt := 47) (a := firstOf d (j)) (b := j) K dX3_numberByMerging_41 (by decide) (by omega) (by omega) (fun h41_4 => ?_) (fun h41_4 => ?_)
        · refine g_iinc (a := j) (b := j + 1) (lo' := [(4, .int (nI (j + 1))), (0, .ref (g_ad X 8)), (1, .int (nI (a))), (2, .int (nI (f))), (3, .int (nI (n)))]) K 4 dX3_numberByMerging_47 rfl (gi_inc _) (by decide) rfl ?_
          refine g_goto (tgt := 15) K dX3_numberByMerging_50 (by decide) ?_
          refine g_loc (lo' := [(0, .ref (g_ad X 8)), (1, .int (nI (a))), (2, .int (nI (f))), (3, .int (nI (n))), (4, .int (nI (j + 1)))]) [1, 2, 3, 4, 0] rfl ?_
          exact ih (j + 1) n (by omega)  (by rw [gfor_succ, show (fNum S d) j n = n from by simp only [fNum]; (repeat' split) <;> first | rfl | contradiction | (exfalso; omega) | omega] at kk; exact kk)
        · refine g_iinc (a := n) (b := n + 1) (lo' := [(3, .int (nI (n + 1))), (0, .ref (g_ad X 8)), (1, .int (nI (a))), (2, .int (nI (f))), (4, .int (nI (j)))]) K 3 dX3_numberByMerging_44 rfl (gi_inc _) (by decide) rfl ?_
          refine g_iinc (a := j) (b := j + 1) (lo' := [(4, .int (nI (j + 1))), (3, .int (nI (n + 1))), (0, .ref (g_ad X 8)), (1, .int (nI (a))), (2, .int (nI (f)))]) K 4 dX3_numberByMerging_47 rfl (gi_inc _) (by decide) rfl ?_
          refine g_goto (tgt := 15) K dX3_numberByMerging_50 (by decide) ?_
          refine g_loc (lo' := [(0, .ref (g_ad X 8)), (1, .int (nI (a))), (2, .int (nI (f))), (3, .int (nI (n + 1))), (4, .int (nI (j + 1)))]) [2, 3, 4, 1, 0] rfl ?_
          exact ih (j + 1) (n + 1) (by omega)  (by rw [gfor_succ, show (fNum S d) j n = n + 1 from by simp only [fNum]; (repeat' split) <;> first | rfl | contradiction | (exfalso; omega) | omega] at kk; exact kk)

set_option maxHeartbeats 4000000 in
set_option maxRecDepth 100000 in
theorem cX3_numberByMerging_k (Z : gZ) (S : Nat → Nat → Nat) (a : Nat) (hw : wfC S) (ha : a < 28) : gMd Z yX3_numberByMerging wsX3_numberByMerging { frames := 3, cells := 0, slots := 0, locals := 69 } [.ref (gz_ad Z 8), .int (nI (a))] S (numMerge S a) (va_up S 9 (mergeAll S)) := by
  refine gMd_of (cc := cX3_numberByMerging) (maxL := 5) (ret := (some .int)) (by decide +kernel) rfl (Nat.le_of_ble_eq_true rfl) (Or.inl rfl) (fun X hZ hR K hret => ?_)
  subst hZ
  have K : gOk X cX3_numberByMerging 5 wsX3_numberByMerging RX3 := K
  have hRf : 3 ≤ (g_R X).frames := gR_f hR rfl
  have hRl : 69 ≤ (g_R X).locals := gR_l hR rfl
  have hin3 : ∀ w ∈ u_ws RX3 TX3 2, w ∈ wsX3_numberByMerging := by decide +kernel
  obtain ⟨w0, w1, w2, w3, wsh, wst, a2, a3, a4, a5, a6, a7⟩ := id hw
  show gG X 0 [(0, .ref (g_ad X 8)), (1, .int (nI (a)))] [] S
  refine g_aload_n K 0 dX3_numberByMerging_0 rfl ?_
  refine g_callVv (q := 8) (ci := 3) (As := []) (rest := []) (C := RX3) (T := TX3) (N := 2) K (cX3_mergePipes_k (g_z X) S (hw)) (cwV 0 K.1.2.2.2.2 gX3_numberByMerging_X3_mergePipes rfl rfl rfl (by decide +kernel) ⟨Nat.le_trans (Nat.le_of_ble_eq_true rfl) hRf, Nat.le_trans (Nat.le_of_ble_eq_true rfl) hRl⟩) rfl rfl rfl rfl (Nat.le_of_ble_eq_true rfl) dX3_numberByMerging_1 ?_
  refine g_cast (S' := (va_up S 9 (mergeAll S))) rfl rfl rfl ?_
  have hd := mergeAll_lt hw
  refine g_aload_n K 0 dX3_numberByMerging_4 rfl ?_
  refine g_iload_n K 1 dX3_numberByMerging_5 rfl ?_
  refine g_callVd (q := 8) (ci := 3) (As := [.int (nI (a))]) (rest := []) (C := RX3) (T := TX3) (N := 2) K (cX3_firstOfSet_k (g_z X) (va_up S 9 (mergeAll S)) a (hd) (by omega)) (cwV 1 K.1.2.2.2.2 gX3_numberByMerging_X3_firstOfSet rfl rfl rfl (by decide +kernel) ⟨Nat.le_trans (Nat.le_of_ble_eq_true rfl) hRf, Nat.le_trans (Nat.le_of_ble_eq_true rfl) hRl⟩) rfl rfl rfl rfl (Nat.le_of_ble_eq_true rfl) dX3_numberByMerging_6 ?_
  refine g_topE (firstOf (mergeAll S) (a)) rfl ?_
  refine g_istore_n (lo' := [(2, .int (nI (firstOf (mergeAll S) (a)))), (0, .ref (g_ad X 8)), (1, .int (nI (a)))]) K dX3_numberByMerging_9 (by decide) rfl ?_
  refine g_iconst K 0 dX3_numberByMerging_10 (by decide +kernel) ?_
  refine g_istore_n (lo' := [(3, .int (nI (0))), (2, .int (nI (firstOf (mergeAll S) (a)))), (0, .ref (g_ad X 8)), (1, .int (nI (a)))]) K dX3_numberByMerging_11 (by decide) rfl ?_
  refine g_iconst K 0 dX3_numberByMerging_12 (by decide +kernel) ?_
  refine g_istore (lo' := [(4, .int (nI (0))), (3, .int (nI (0))), (2, .int (nI (firstOf (mergeAll S) (a)))), (0, .ref (g_ad X 8)), (1, .int (nI (a)))]) K dX3_numberByMerging_13 (by decide) rfl ?_
  refine g_loc (lo' := [(0, .ref (g_ad X 8)), (1, .int (nI (a))), (2, .int (nI (firstOf (mergeAll S) (a)))), (3, .int (nI (0))), (4, .int (nI (0)))]) [3, 4, 2, 1, 0] rfl ?_
  refine L_num X S (mergeAll S) a (firstOf (mergeAll S) a) K (Nat.le_trans (Nat.le_of_ble_eq_true rfl) hRf) (Nat.le_trans (Nat.le_of_ble_eq_true rfl) hRl) (hw) (hd) (firstOf_lt hd ha)  (firstOf (mergeAll S) a) 0 0 (by omega)  ?_
  refine g_iload_n K 3 dX3_numberByMerging_53 rfl ?_
  exact g_retd hret dX3_numberByMerging_54 rfl rfl

/-! Flushing -/
theorem up_le {d : Nat → Nat} {B m n : Nat} (hd : ∀ j, j < n → d j ≤ B) (hm : m ≤ B) (y : Nat) : ∀ j, j < n → va_up d y m j ≤ B := by
  intro j hj; simp only [va_up]; split
  · exact hm
  · exact hd j hj
def fInit (S : Nat → Nat → Nat) (j : Nat) (d : Nat → Nat) : Nat → Nat := va_up d j (if gbit (S 1 3) j = 0 then 1000000 else 0)
def fShort (S : Nat → Nat → Nat) (p : Nat) (d : Nat → Nat) : Nat → Nat :=
  va_up (va_up d (S 4 (2 * p + 1)) (min (d (S 4 (2 * p + 1))) (d (S 4 (2 * p + 0)) + S 2 p))) (S 4 (2 * p + 0)) (min (va_up d (S 4 (2 * p + 1)) (min (d (S 4 (2 * p + 1))) (d (S 4 (2 * p + 0)) + S 2 p)) (S 4 (2 * p + 0))) (va_up d (S 4 (2 * p + 1)) (min (d (S 4 (2 * p + 1))) (d (S 4 (2 * p + 0)) + S 2 p)) (S 4 (2 * p + 1)) + S 2 p))
def fPipeS (S : Nat → Nat → Nat) (p : Nat) (d : Nat → Nat) : Nat → Nat := if shutAt S p 0 = 0 then (if shutAt S p 1 = 0 then fShort S p d else d) else d
def fRound (S : Nat → Nat → Nat) (_ : Nat) (d : Nat → Nat) : Nat → Nat := gfor (fPipeS S) (S 1 1) 0 d
def measD (S : Nat → Nat → Nat) : Nat → Nat := gfor (fRound S) (max 1 (S 1 0) - 1) 1 (gfor (fInit S) 12 0 (S 17))
theorem fShort_le {S : Nat → Nat → Nat} (p : Nat) {d : Nat → Nat} (hw : wfC S) (hd : ∀ j, j < 12 → d j ≤ 1000000) : ∀ j, j < 12 → fShort S p d j ≤ 1000000 := by
  have a4 := hw.2.2.2.2.2.2.2.2.1
  have h1 := hd _ (a4 (2 * p + 1))
  have h2 : ∀ j, j < 12 → va_up d (S 4 (2 * p + 1)) (min (d (S 4 (2 * p + 1))) (d (S 4 (2 * p + 0)) + S 2 p)) j ≤ 1000000 := up_le hd (by omega) _
  have h3 := h2 _ (a4 (2 * p + 0))
  exact up_le h2 (by omega) _
theorem fPipeS_le {S : Nat → Nat → Nat} (hw : wfC S) (p : Nat) (d : Nat → Nat) (hd : ∀ j, j < 12 → d j ≤ 1000000) : ∀ j, j < 12 → fPipeS S p d j ≤ 1000000 := by
  unfold fPipeS
  (repeat' split)
  · exact fShort_le p hw hd
  · exact hd
  · exact hd
theorem fRound_le {S : Nat → Nat → Nat} (hw : wfC S) (j : Nat) (d : Nat → Nat) (hd : ∀ j, j < 12 → d j ≤ 1000000) : ∀ j, j < 12 → fRound S j d j ≤ 1000000 := fun i hi => gfor_inv (fun d => ∀ j, j < 12 → d j ≤ 1000000) (fPipeS S) (fun e d h => fPipeS_le hw e d h) _ 0 d hd i hi
theorem fRound_le' {S : Nat → Nat → Nat} (hw : wfC S) (n : Nat) (d : Nat → Nat) (hd : ∀ j, j < 12 → d j ≤ 1000000) : ∀ j, j < 12 → fRound S n d j ≤ 1000000 := gfor_inv (fun d => ∀ j, j < 12 → d j ≤ 1000000) (fPipeS S) (fun e d h => fPipeS_le hw e d h) _ 0 d hd
theorem gInit_le (S : Nat → Nat → Nat) : ∀ (k j : Nat) (d : Nat → Nat), (∀ i, i < j → d i ≤ 1000000) → ∀ i, i < j + k → gfor (fInit S) k j d i ≤ 1000000
  | 0, j, d, h => by intro i hi; exact h i (by omega)
  | k + 1, j, d, h => by
    intro i hi
    refine gInit_le S k (j + 1) (fInit S j d) ?_ i (by omega)
    intro i hi
    simp only [fInit, va_up]
    (repeat' split)
    · omega
    · omega
    · exact h i (by omega)
theorem init_le (S : Nat → Nat → Nat) (d : Nat → Nat) : ∀ i, i < 12 → gfor (fInit S) 12 0 d i ≤ 1000000 := fun i hi => gInit_le S 12 0 d (fun _ h => absurd h (by omega)) i (by omega)
theorem measD_le {S : Nat → Nat → Nat} (hw : wfC S) : ∀ i, i < 12 → measD S i ≤ 1000000 := gfor_inv (fun d => ∀ j, j < 12 → d j ≤ 1000000) (fRound S) (fun e d h => fRound_le' hw e d h) _ 1 _ (init_le S _)
theorem gi_subx (x y : Nat) (hx : x < 2147483648) (hy : y < 2147483648) : ∃ r, nI x - nI y = nI r ∧ r < 4294967296 ∧ (x < y → 2147483648 ≤ r) ∧ (y ≤ x → r = x - y) := by
  by_cases h : y ≤ x
  · exact ⟨x - y, gi_sub h, by omega, by omega, fun _ => rfl⟩
  · refine ⟨x + 4294967296 - y, ?_, by omega, by omega, by omega⟩
    have e2 : nI (x + 4294967296) = nI x := by
      apply Int32.toBitVec_inj.mp
      apply BitVec.eq_of_toNat_eq
      simp [nI]
    rw [← gi_sub (show y ≤ x + 4294967296 by omega), e2]
set_option maxHeartbeats 4000000 in
set_option maxRecDepth 100000 in
theorem L_finit (X : gC) (S : Nat → Nat → Nat) (K : gOk X cX1_measure 3 wsX1_measure RX1) (hRf : 1 ≤ (g_R X).frames) (hRl : 21 ≤ (g_R X).locals) (hw : wfC S) : ∀ (k j : Nat) (d : Nat → Nat), j + k = 12 → gG X 40 [(0, .ref (g_ad X 16)), (1, .int (nI (12)))] [] (va_up S 17 (((gfor (fInit S) k j d)))) → gG X 2 [(0, .ref (g_ad X 16)), (1, .int (nI (j)))] [] (va_up S 17 (d)) := by
  have hin1 : ∀ w ∈ u_ws RX1 TX1 2, w ∈ wsX1_measure := by decide +kernel
  obtain ⟨w0, w1, w2, w3, wsh, wst, a2, a3, a4, a5, a6, a7⟩ := id hw
  intro k
  induction k with
  | zero =>
    intro j d hj kk
    have hj : j = 12 := by omega
    refine g_iload_n K 1 dX1_measure_2 rfl ?_
    refine g_bipush K 12 dX1_measure_3 (by decide +kernel) ?_
    refine g_icmp_ge (tgt := 40) (a := j) (b := 12) K dX1_measure_5 (by decide) (by omega) (by omega) (fun h5_1 => ?_) (fun h5_1 => ?_)
    · refine g_loc (lo' := [(0, .ref (g_ad X 16)), (1, .int (nI (j)))]) [0, 1] rfl ?_
      exact g_cast (by first | rfl | (rw [hj]; done) | (rw [hj]; rfl)) rfl rfl kk
    · exact absurd h5_1 (by omega)
  | succ k ih =>
    intro j d hj kk
    refine g_iload_n K 1 dX1_measure_2 rfl ?_
    refine g_bipush K 12 dX1_measure_3 (by decide +kernel) ?_
    refine g_icmp_ge (tgt := 40) (a := j) (b := 12) K dX1_measure_5 (by decide) (by omega) (by omega) (fun h5_1 => ?_) (fun h5_1 => ?_)
    · exact absurd h5_1 (by omega)
    · refine g_aload_n K 0 dX1_measure_8 rfl ?_
      refine g_getR (q' := 17) (q := 16) (ci := 1) (k := 1) (N := 2) (C := RX1) (T := TX1) (ref := "ValveWalk$Flushing") K rfl rfl rfl (by decide) hin1 (by decide +kernel) rfl dX1_measure_9 ?_
      refine g_iload_n K 1 dX1_measure_12 rfl ?_
      refine g_aload_n K 0 dX1_measure_13 rfl ?_
      refine g_getR (q' := 1) (q := 16) (ci := 1) (k := 0) (N := 2) (C := RX1) (T := TX1) (ref := "ValveWalk$Flushing") K rfl rfl rfl (by decide) hin1 (by decide +kernel) rfl dX1_measure_14 ?_
      refine g_callVd (q := 1) (ci := 2) (As := []) (rest := [.int (nI (j)), .ref (g_ad X 17)]) (C := RX2) (T := TX2) (N := 12) K (cX2_sources_k (g_z X) (va_up S 17 (d))) (cwV 0 K.1.2.2.2.2 gX1_measure_X2_sources rfl rfl rfl (by decide +kernel) ⟨Nat.le_trans (Nat.le_of_ble_eq_true rfl) hRf, Nat.le_trans (Nat.le_of_ble_eq_true rfl) hRl⟩) rfl rfl rfl rfl (Nat.le_of_ble_eq_true rfl) dX1_measure_17 ?_
      refine g_topE (S 1 3) rfl ?_
      refine g_iload_n K 1 dX1_measure_20 rfl ?_
      refine g_callNd (As := [.int (nI (S 1 3)), .int (nI (j))]) (rest := [.int (nI (j)), .ref (g_ad X 17)]) (host := "ValveWalk") K (cX5_hasBit_k (g_z X) (va_up S 17 (d)) (S 1 3) j (by omega) (by omega)) ⟨va_cnB 2 K.1.2.2.2.2 gX1_measure_X5_hasBit_n29 rfl rfl rfl (K.2.2.2.1 _ (List.mem_of_getElem? (i := 3) rfl)) (K.1.2.2.2.2 _ (by decide +kernel)) (by decide +kernel) ⟨Nat.le_trans (Nat.le_of_ble_eq_true rfl) hRf, Nat.le_trans (Nat.le_of_ble_eq_true rfl) hRl⟩, K.1.2.2.2.2 _ (by decide +kernel), trivial⟩ rfl rfl (Nat.le_of_ble_eq_true rfl) dX1_measure_21 ?_
      have hf21_2 := gbit_le (S 1 3) j
      refine g_if_eq (tgt := 31) (a := gbit (S 1 3) j) K dX1_measure_24 (by decide) (by omega) (fun h24_3 => ?_) (fun h24_3 => ?_)
      · refine g_ldc (w := 1000000) K 1000000 (K.1.2.2.2.2 _ (by decide +kernel)) (by decide +kernel) dX1_measure_31 ?_
        refine g_ast (q := 17) (n := 12) (i := j) (a := 1000000) K rfl (by decide) (by omega) dX1_measure_33 ?_
        refine g_cast (S' := (va_up S 17 (va_up d (j) (1000000)))) rfl rfl (gup_w1a) ?_
        refine g_iinc (a := j) (b := j + 1) (lo' := [(1, .int (nI (j + 1))), (0, .ref (g_ad X 16))]) K 1 dX1_measure_34 rfl (gi_inc _) (by decide) rfl ?_
        refine g_goto (tgt := 2) K dX1_measure_37 (by decide) ?_
        refine g_loc (lo' := [(0, .ref (g_ad X 16)), (1, .int (nI (j + 1)))]) [1, 0] rfl ?_
        exact ih (j + 1) (va_up d (j) (1000000)) (by omega)  (by rw [gfor_succ, show (fInit S) j d = va_up d (j) (1000000) from by simp only [fInit]; (repeat' split) <;> first | rfl | contradiction | (exfalso; omega) | omega] at kk; exact kk)
      · refine g_iconst K 0 dX1_measure_27 (by decide +kernel) ?_
        refine g_goto (tgt := 33) K dX1_measure_28 (by decide) ?_
        refine g_ast (q := 17) (n := 12) (i := j) (a := 0) K rfl (by decide) (by omega) dX1_measure_33 ?_
        refine g_cast (S' := (va_up S 17 (va_up d (j) (0)))) rfl rfl (gup_w1a) ?_
        refine g_iinc (a := j) (b := j + 1) (lo' := [(1, .int (nI (j + 1))), (0, .ref (g_ad X 16))]) K 1 dX1_measure_34 rfl (gi_inc _) (by decide) rfl ?_
        refine g_goto (tgt := 2) K dX1_measure_37 (by decide) ?_
        refine g_loc (lo' := [(0, .ref (g_ad X 16)), (1, .int (nI (j + 1)))]) [1, 0] rfl ?_
        exact ih (j + 1) (va_up d (j) (0)) (by omega)  (by rw [gfor_succ, show (fInit S) j d = va_up d (j) (0) from by simp only [fInit]; (repeat' split) <;> first | rfl | contradiction | (exfalso; omega) | omega] at kk; exact kk)

set_option maxHeartbeats 4000000 in
set_option maxRecDepth 100000 in
theorem cX1_shorten_k (Z : gZ) (S : Nat → Nat → Nat) (p : Nat) (hw : wfC S) (hd : ∀ j, j < 12 → S 17 j ≤ 1000000) (hp : p < 16) : gMv Z yX1_shorten wsX1_shorten { frames := 1, cells := 0, slots := 0, locals := 22 } [.ref (gz_ad Z 16), .int (nI (p))] S (va_up S 17 (fShort S p (S 17))) := by
  refine gMv_of (cc := cX1_shorten) (maxL := 5) (by decide +kernel) rfl (Nat.le_of_ble_eq_true rfl)  (fun X hZ hR K hret => ?_)
  subst hZ
  have K : gOk X cX1_shorten 5 wsX1_shorten RX1 := K
  have hRf : 1 ≤ (g_R X).frames := gR_f hR rfl
  have hRl : 22 ≤ (g_R X).locals := gR_l hR rfl
  have hin1 : ∀ w ∈ u_ws RX1 TX1 2, w ∈ wsX1_shorten := by decide +kernel
  obtain ⟨w0, w1, w2, w3, wsh, wst, a2, a3, a4, a5, a6, a7⟩ := id hw
  show gG X 0 [(0, .ref (g_ad X 16)), (1, .int (nI (p)))] [] S
  refine g_cast (S' := (va_up S 17 (S 17))) rfl rfl (up_id1 ..).symm ?_
  refine g_aload_n K 0 dX1_shorten_0 rfl ?_
  refine g_getR (q' := 1) (q := 16) (ci := 1) (k := 0) (N := 2) (C := RX1) (T := TX1) (ref := "ValveWalk$Flushing") K rfl rfl rfl (by decide) hin1 (by decide +kernel) rfl dX1_shorten_1 ?_
  refine g_iload_n K 1 dX1_shorten_4 rfl ?_
  refine g_iconst K 0 dX1_shorten_5 (by decide +kernel) ?_
  refine g_callVd (q := 1) (ci := 2) (As := [.int (nI (p)), .int (nI (0))]) (rest := []) (C := RX2) (T := TX2) (N := 12) K (cX2_nodeAt_k (g_z X) (va_up S 17 (S 17)) p 0 (by omega)) (cwV 2 K.1.2.2.2.2 gX1_shorten_X2_nodeAt rfl rfl rfl (by decide +kernel) ⟨Nat.le_trans (Nat.le_of_ble_eq_true rfl) hRf, Nat.le_trans (Nat.le_of_ble_eq_true rfl) hRl⟩) rfl rfl rfl rfl (Nat.le_of_ble_eq_true rfl) dX1_shorten_6 ?_
  refine g_topE (S 4 (2 * p + 0)) rfl ?_
  refine g_istore_n (lo' := [(2, .int (nI (S 4 (2 * p + 0)))), (0, .ref (g_ad X 16)), (1, .int (nI (p)))]) K dX1_shorten_9 (by decide) rfl ?_
  refine g_aload_n K 1 dX1_shorten_10 rfl ?_
  refine g_getR (q' := 1) (q := 16) (ci := 1) (k := 0) (N := 2) (C := RX1) (T := TX1) (ref := "ValveWalk$Flushing") K rfl rfl rfl (by decide) hin1 (by decide +kernel) rfl dX1_shorten_11 ?_
  refine g_iload_n K 2 dX1_shorten_14 rfl ?_
  refine g_iconst K 1 dX1_shorten_15 (by decide +kernel) ?_
  refine g_callVd (q := 1) (ci := 2) (As := [.int (nI (p)), .int (nI (1))]) (rest := []) (C := RX2) (T := TX2) (N := 12) K (cX2_nodeAt_k (g_z X) (va_up S 17 (S 17)) p 1 (by omega)) (cwV 2 K.1.2.2.2.2 gX1_shorten_X2_nodeAt rfl rfl rfl (by decide +kernel) ⟨Nat.le_trans (Nat.le_of_ble_eq_true rfl) hRf, Nat.le_trans (Nat.le_of_ble_eq_true rfl) hRl⟩) rfl rfl rfl rfl (Nat.le_of_ble_eq_true rfl) dX1_shorten_16 ?_
  refine g_topE (S 4 (2 * p + 1)) rfl ?_
  refine g_istore_n (lo' := [(3, .int (nI (S 4 (2 * p + 1)))), (2, .int (nI (S 4 (2 * p + 0)))), (0, .ref (g_ad X 16)), (1, .int (nI (p)))]) K dX1_shorten_19 (by decide) rfl ?_
  refine g_aload_n K 2 dX1_shorten_20 rfl ?_
  refine g_getR (q' := 1) (q := 16) (ci := 1) (k := 0) (N := 2) (C := RX1) (T := TX1) (ref := "ValveWalk$Flushing") K rfl rfl rfl (by decide) hin1 (by decide +kernel) rfl dX1_shorten_21 ?_
  refine g_iload_n K 3 dX1_shorten_24 rfl ?_
  refine g_callVd (q := 1) (ci := 2) (As := [.int (nI (p))]) (rest := []) (C := RX2) (T := TX2) (N := 12) K (cX2_lengthOf_k (g_z X) (va_up S 17 (S 17)) p (by omega)) (cwV 1 K.1.2.2.2.2 gX1_shorten_X2_lengthOf rfl rfl rfl (by decide +kernel) ⟨Nat.le_trans (Nat.le_of_ble_eq_true rfl) hRf, Nat.le_trans (Nat.le_of_ble_eq_true rfl) hRl⟩) rfl rfl rfl rfl (Nat.le_of_ble_eq_true rfl) dX1_shorten_25 ?_
  refine g_topE (S 2 p) rfl ?_
  refine g_istore (lo' := [(4, .int (nI (S 2 p))), (3, .int (nI (S 4 (2 * p + 1)))), (2, .int (nI (S 4 (2 * p + 0)))), (0, .ref (g_ad X 16)), (1, .int (nI (p)))]) K dX1_shorten_28 (by decide) rfl ?_
  have hx := a4 (2 * p + 0)
  have hy := a4 (2 * p + 1)
  have hx0 := hd _ hx
  have hy0 := hd _ hy
  have hl0 := a2 p
  refine g_aload_n K 3 dX1_shorten_30 rfl ?_
  refine g_getR (q' := 17) (q := 16) (ci := 1) (k := 1) (N := 2) (C := RX1) (T := TX1) (ref := "ValveWalk$Flushing") K rfl rfl rfl (by decide) hin1 (by decide +kernel) rfl dX1_shorten_31 ?_
  refine g_iload_n K 1 dX1_shorten_34 rfl ?_
  refine g_aload_n K 3 dX1_shorten_35 rfl ?_
  refine g_getR (q' := 17) (q := 16) (ci := 1) (k := 1) (N := 2) (C := RX1) (T := TX1) (ref := "ValveWalk$Flushing") K rfl rfl rfl (by decide) hin1 (by decide +kernel) rfl dX1_shorten_36 ?_
  refine g_iload_n K 1 dX1_shorten_39 rfl ?_
  refine g_ald (q := 17) (n := 12) (i := S 4 (2 * p + 1)) K rfl (by decide) (by omega) dX1_shorten_40 ?_
  refine g_topE ((S 17) (S 4 (2 * p + 1))) rfl ?_
  refine g_aload_n K 3 dX1_shorten_41 rfl ?_
  refine g_getR (q' := 17) (q := 16) (ci := 1) (k := 1) (N := 2) (C := RX1) (T := TX1) (ref := "ValveWalk$Flushing") K rfl rfl rfl (by decide) hin1 (by decide +kernel) rfl dX1_shorten_42 ?_
  refine g_iload_n K 2 dX1_shorten_45 rfl ?_
  refine g_ald (q := 17) (n := 12) (i := S 4 (2 * p + 0)) K rfl (by decide) (by omega) dX1_shorten_46 ?_
  refine g_topE ((S 17) (S 4 (2 * p + 0))) rfl ?_
  refine g_iload K 0 dX1_shorten_47 rfl ?_
  refine g_iadd (a := (S 17) (S 4 (2 * p + 0))) (b := S 2 p) K dX1_shorten_49 ?_
  refine g_mmin (a := (S 17) (S 4 (2 * p + 1))) (b := ((S 17) (S 4 (2 * p + 0))) + (S 2 p)) K (by decide +kernel) (by decide +kernel) (by decide +kernel) (by decide +kernel) (Nat.le_trans (Nat.le_of_ble_eq_true rfl) hRf) (Nat.le_trans (Nat.le_of_ble_eq_true rfl) hRl) (by omega) (by omega) dX1_shorten_50 ?_
  refine g_ast (q := 17) (n := 12) (i := S 4 (2 * p + 1)) (a := min ((S 17) (S 4 (2 * p + 1))) (((S 17) (S 4 (2 * p + 0))) + (S 2 p))) K rfl (by decide) (by omega) dX1_shorten_53 ?_
  refine g_cast (S' := (va_up S 17 (va_up (S 17) (S 4 (2 * p + 1)) (min ((S 17) (S 4 (2 * p + 1))) (((S 17) (S 4 (2 * p + 0))) + (S 2 p)))))) rfl rfl (gup_w1a) ?_
  have hd1 : ∀ j, j < 12 → (va_up (S 17) (S 4 (2 * p + 1)) (min ((S 17) (S 4 (2 * p + 1))) (((S 17) (S 4 (2 * p + 0))) + (S 2 p)))) j ≤ 1000000 := up_le hd (by omega) _
  have hx1 := hd1 _ hx
  have hy1 := hd1 _ hy
  refine g_aload_n K 3 dX1_shorten_54 rfl ?_
  refine g_getR (q' := 17) (q := 16) (ci := 1) (k := 1) (N := 2) (C := RX1) (T := TX1) (ref := "ValveWalk$Flushing") K rfl rfl rfl (by decide) hin1 (by decide +kernel) rfl dX1_shorten_55 ?_
  refine g_iload_n K 2 dX1_shorten_58 rfl ?_
  refine g_aload_n K 3 dX1_shorten_59 rfl ?_
  refine g_getR (q' := 17) (q := 16) (ci := 1) (k := 1) (N := 2) (C := RX1) (T := TX1) (ref := "ValveWalk$Flushing") K rfl rfl rfl (by decide) hin1 (by decide +kernel) rfl dX1_shorten_60 ?_
  refine g_iload_n K 2 dX1_shorten_63 rfl ?_
  refine g_ald (q := 17) (n := 12) (i := S 4 (2 * p + 0)) K rfl (by decide) (by omega) dX1_shorten_64 ?_
  refine g_topE ((va_up (S 17) (S 4 (2 * p + 1)) (min ((S 17) (S 4 (2 * p + 1))) (((S 17) (S 4 (2 * p + 0))) + (S 2 p)))) (S 4 (2 * p + 0))) rfl ?_
  refine g_aload_n K 3 dX1_shorten_65 rfl ?_
  refine g_getR (q' := 17) (q := 16) (ci := 1) (k := 1) (N := 2) (C := RX1) (T := TX1) (ref := "ValveWalk$Flushing") K rfl rfl rfl (by decide) hin1 (by decide +kernel) rfl dX1_shorten_66 ?_
  refine g_iload_n K 1 dX1_shorten_69 rfl ?_
  refine g_ald (q := 17) (n := 12) (i := S 4 (2 * p + 1)) K rfl (by decide) (by omega) dX1_shorten_70 ?_
  refine g_topE ((va_up (S 17) (S 4 (2 * p + 1)) (min ((S 17) (S 4 (2 * p + 1))) (((S 17) (S 4 (2 * p + 0))) + (S 2 p)))) (S 4 (2 * p + 1))) rfl ?_
  refine g_iload K 0 dX1_shorten_71 rfl ?_
  refine g_iadd (a := (va_up (S 17) (S 4 (2 * p + 1)) (min ((S 17) (S 4 (2 * p + 1))) (((S 17) (S 4 (2 * p + 0))) + (S 2 p)))) (S 4 (2 * p + 1))) (b := S 2 p) K dX1_shorten_73 ?_
  refine g_mmin (a := (va_up (S 17) (S 4 (2 * p + 1)) (min ((S 17) (S 4 (2 * p + 1))) (((S 17) (S 4 (2 * p + 0))) + (S 2 p)))) (S 4 (2 * p + 0))) (b := ((va_up (S 17) (S 4 (2 * p + 1)) (min ((S 17) (S 4 (2 * p + 1))) (((S 17) (S 4 (2 * p + 0))) + (S 2 p)))) (S 4 (2 * p + 1))) + (S 2 p)) K (by decide +kernel) (by decide +kernel) (by decide +kernel) (by decide +kernel) (Nat.le_trans (Nat.le_of_ble_eq_true rfl) hRf) (Nat.le_trans (Nat.le_of_ble_eq_true rfl) hRl) (by omega) (by omega) dX1_shorten_74 ?_
  refine g_ast (q := 17) (n := 12) (i := S 4 (2 * p + 0)) (a := min ((va_up (S 17) (S 4 (2 * p + 1)) (min ((S 17) (S 4 (2 * p + 1))) (((S 17) (S 4 (2 * p + 0))) + (S 2 p)))) (S 4 (2 * p + 0))) (((va_up (S 17) (S 4 (2 * p + 1)) (min ((S 17) (S 4 (2 * p + 1))) (((S 17) (S 4 (2 * p + 0))) + (S 2 p)))) (S 4 (2 * p + 1))) + (S 2 p))) K rfl (by decide) (by omega) dX1_shorten_77 ?_
  refine g_cast (S' := (va_up S 17 (va_up (va_up (S 17) (S 4 (2 * p + 1)) (min ((S 17) (S 4 (2 * p + 1))) (((S 17) (S 4 (2 * p + 0))) + (S 2 p)))) (S 4 (2 * p + 0)) (min ((va_up (S 17) (S 4 (2 * p + 1)) (min ((S 17) (S 4 (2 * p + 1))) (((S 17) (S 4 (2 * p + 0))) + (S 2 p)))) (S 4 (2 * p + 0))) (((va_up (S 17) (S 4 (2 * p + 1)) (min ((S 17) (S 4 (2 * p + 1))) (((S 17) (S 4 (2 * p + 0))) + (S 2 p)))) (S 4 (2 * p + 1))) + (S 2 p)))))) rfl rfl (gup_w1a) ?_
  exact g_retv hret dX1_shorten_78 rfl

set_option maxHeartbeats 4000000 in
set_option maxRecDepth 100000 in
theorem L_fpipes (X : gC) (S : Nat → Nat → Nat) (n : Nat) (K : gOk X cX1_measure 3 wsX1_measure RX1) (hRf : 2 ≤ (g_R X).frames) (hRl : 46 ≤ (g_R X).locals) (hw : wfC S) : ∀ (k p : Nat) (d : Nat → Nat), p + k = S 1 1 → (∀ j, j < 12 → d j ≤ 1000000) → gG X 101 [(0, .ref (g_ad X 16)), (1, .int (nI (n))), (2, .int (nI ((S 1 1))))] [] (va_up S 17 (((gfor (fPipeS S) k p d)))) → gG X 55 [(0, .ref (g_ad X 16)), (1, .int (nI (n))), (2, .int (nI (p)))] [] (va_up S 17 (d)) := by
  have hin1 : ∀ w ∈ u_ws RX1 TX1 2, w ∈ wsX1_measure := by decide +kernel
  obtain ⟨w0, w1, w2, w3, wsh, wst, a2, a3, a4, a5, a6, a7⟩ := id hw
  intro k
  induction k with
  | zero =>
    intro p d hj hd kk
    have hj : p = S 1 1 := by omega
    refine g_iload_n K 2 dX1_measure_55 rfl ?_
    refine g_aload_n K 0 dX1_measure_56 rfl ?_
    refine g_getR (q' := 1) (q := 16) (ci := 1) (k := 0) (N := 2) (C := RX1) (T := TX1) (ref := "ValveWalk$Flushing") K rfl rfl rfl (by decide) hin1 (by decide +kernel) rfl dX1_measure_57 ?_
    refine g_callVd (q := 1) (ci := 2) (As := []) (rest := [.int (nI (p))]) (C := RX2) (T := TX2) (N := 12) K (cX2_pipeCount_k (g_z X) (va_up S 17 (d))) (cwV 0 K.1.2.2.2.2 gX1_measure_X2_pipeCount rfl rfl rfl (by decide +kernel) ⟨Nat.le_trans (Nat.le_of_ble_eq_true rfl) hRf, Nat.le_trans (Nat.le_of_ble_eq_true rfl) hRl⟩) rfl rfl rfl rfl (Nat.le_of_ble_eq_true rfl) dX1_measure_60 ?_
    refine g_topE (S 1 1) rfl ?_
    refine g_icmp_ge (tgt := 101) (a := p) (b := S 1 1) K dX1_measure_63 (by decide) (by omega) (by omega) (fun h63_1 => ?_) (fun h63_1 => ?_)
    · refine g_loc (lo' := [(0, .ref (g_ad X 16)), (1, .int (nI (n))), (2, .int (nI (p)))]) [0, 1, 2] rfl ?_
      exact g_cast (by first | rfl | (rw [hj]; done) | (rw [hj]; rfl)) rfl rfl kk
    · exact absurd h63_1 (by omega)
  | succ k ih =>
    intro p d hj hd kk
    refine g_iload_n K 2 dX1_measure_55 rfl ?_
    refine g_aload_n K 0 dX1_measure_56 rfl ?_
    refine g_getR (q' := 1) (q := 16) (ci := 1) (k := 0) (N := 2) (C := RX1) (T := TX1) (ref := "ValveWalk$Flushing") K rfl rfl rfl (by decide) hin1 (by decide +kernel) rfl dX1_measure_57 ?_
    refine g_callVd (q := 1) (ci := 2) (As := []) (rest := [.int (nI (p))]) (C := RX2) (T := TX2) (N := 12) K (cX2_pipeCount_k (g_z X) (va_up S 17 (d))) (cwV 0 K.1.2.2.2.2 gX1_measure_X2_pipeCount rfl rfl rfl (by decide +kernel) ⟨Nat.le_trans (Nat.le_of_ble_eq_true rfl) hRf, Nat.le_trans (Nat.le_of_ble_eq_true rfl) hRl⟩) rfl rfl rfl rfl (Nat.le_of_ble_eq_true rfl) dX1_measure_60 ?_
    refine g_topE (S 1 1) rfl ?_
    refine g_icmp_ge (tgt := 101) (a := p) (b := S 1 1) K dX1_measure_63 (by decide) (by omega) (by omega) (fun h63_1 => ?_) (fun h63_1 => ?_)
    · exact absurd h63_1 (by omega)
    · refine g_aload_n K 0 dX1_measure_66 rfl ?_
      refine g_getR (q' := 1) (q := 16) (ci := 1) (k := 0) (N := 2) (C := RX1) (T := TX1) (ref := "ValveWalk$Flushing") K rfl rfl rfl (by decide) hin1 (by decide +kernel) rfl dX1_measure_67 ?_
      refine g_iload_n K 2 dX1_measure_70 rfl ?_
      refine g_iconst K 0 dX1_measure_71 (by decide +kernel) ?_
      refine g_callVd (q := 1) (ci := 2) (As := [.int (nI (p)), .int (nI (0))]) (rest := []) (C := RX2) (T := TX2) (N := 12) K (cX2_isShutAt_k (g_z X) (va_up S 17 (d)) p 0 ((wfC_up hw (q := 17) (by decide) _)) (by omega)) (cwV 2 K.1.2.2.2.2 gX1_measure_X2_isShutAt rfl rfl rfl (by decide +kernel) ⟨Nat.le_trans (Nat.le_of_ble_eq_true rfl) hRf, Nat.le_trans (Nat.le_of_ble_eq_true rfl) hRl⟩) rfl rfl rfl rfl (Nat.le_of_ble_eq_true rfl) dX1_measure_72 ?_
      refine g_topE (shutAt S p 0) (by first | (rw [shutAt_up (q := 17) (by decide)]; done) | (rw [shutAt_up (q := 17) (by decide)]; rfl)) ?_
      have hf72_2 := shutAt_le S p 0
      refine g_if_ne (tgt := 95) (a := shutAt S p 0) K dX1_measure_75 (by decide) (by omega) (fun h75_3 => ?_) (fun h75_3 => ?_)
      · refine g_iinc (a := p) (b := p + 1) (lo' := [(2, .int (nI (p + 1))), (0, .ref (g_ad X 16)), (1, .int (nI (n)))]) K 2 dX1_measure_95 rfl (gi_inc _) (by decide) rfl ?_
        refine g_goto (tgt := 55) K dX1_measure_98 (by decide) ?_
        refine g_loc (lo' := [(0, .ref (g_ad X 16)), (1, .int (nI (n))), (2, .int (nI (p + 1)))]) [1, 2, 0] rfl ?_
        exact ih (p + 1) d (by omega) (hd) (by rw [gfor_succ, show (fPipeS S) p d = d from by simp only [fPipeS]; (repeat' split) <;> first | rfl | contradiction | (exfalso; omega) | omega] at kk; exact kk)
      · refine g_aload_n K 0 dX1_measure_78 rfl ?_
        refine g_getR (q' := 1) (q := 16) (ci := 1) (k := 0) (N := 2) (C := RX1) (T := TX1) (ref := "ValveWalk$Flushing") K rfl rfl rfl (by decide) hin1 (by decide +kernel) rfl dX1_measure_79 ?_
        refine g_iload_n K 2 dX1_measure_82 rfl ?_
        refine g_iconst K 1 dX1_measure_83 (by decide +kernel) ?_
        refine g_callVd (q := 1) (ci := 2) (As := [.int (nI (p)), .int (nI (1))]) (rest := []) (C := RX2) (T := TX2) (N := 12) K (cX2_isShutAt_k (g_z X) (va_up S 17 (d)) p 1 ((wfC_up hw (q := 17) (by decide) _)) (by omega)) (cwV 2 K.1.2.2.2.2 gX1_measure_X2_isShutAt rfl rfl rfl (by decide +kernel) ⟨Nat.le_trans (Nat.le_of_ble_eq_true rfl) hRf, Nat.le_trans (Nat.le_of_ble_eq_true rfl) hRl⟩) rfl rfl rfl rfl (Nat.le_of_ble_eq_true rfl) dX1_measure_84 ?_
        refine g_topE (shutAt S p 1) (by first | (rw [shutAt_up (q := 17) (by decide)]; done) | (rw [shutAt_up (q := 17) (by decide)]; rfl)) ?_
        have hf84_4 := shutAt_le S p 1
        refine g_if_ne (tgt := 95) (a := shutAt S p 1) K dX1_measure_87 (by decide) (by omega) (fun h87_5 => ?_) (fun h87_5 => ?_)
        · refine g_iinc (a := p) (b := p + 1) (lo' := [(2, .int (nI (p + 1))), (0, .ref (g_ad X 16)), (1, .int (nI (n)))]) K 2 dX1_measure_95 rfl (gi_inc _) (by decide) rfl ?_
          refine g_goto (tgt := 55) K dX1_measure_98 (by decide) ?_
          refine g_loc (lo' := [(0, .ref (g_ad X 16)), (1, .int (nI (n))), (2, .int (nI (p + 1)))]) [1, 2, 0] rfl ?_
          exact ih (p + 1) d (by omega) (hd) (by rw [gfor_succ, show (fPipeS S) p d = d from by simp only [fPipeS]; (repeat' split) <;> first | rfl | contradiction | (exfalso; omega) | omega] at kk; exact kk)
        · refine g_aload_n K 0 dX1_measure_90 rfl ?_
          refine g_iload_n K 2 dX1_measure_91 rfl ?_
          refine g_callVv (q := 16) (ci := 1) (As := [.int (nI (p))]) (rest := []) (C := RX1) (T := TX1) (N := 2) K (cX1_shorten_k (g_z X) (va_up S 17 (d)) p ((wfC_up hw (q := 17) (by decide) _)) (hd) (by omega)) (cwV 1 K.1.2.2.2.2 gX1_measure_X1_shorten rfl rfl rfl (by decide +kernel) ⟨Nat.le_trans (Nat.le_of_ble_eq_true rfl) hRf, Nat.le_trans (Nat.le_of_ble_eq_true rfl) hRl⟩) rfl rfl rfl rfl (Nat.le_of_ble_eq_true rfl) dX1_measure_92 ?_
          refine g_cast (S' := (va_up S 17 (fShort S (p) d))) rfl rfl (up_up ..) ?_
          refine g_iinc (a := p) (b := p + 1) (lo' := [(2, .int (nI (p + 1))), (0, .ref (g_ad X 16)), (1, .int (nI (n)))]) K 2 dX1_measure_95 rfl (gi_inc _) (by decide) rfl ?_
          refine g_goto (tgt := 55) K dX1_measure_98 (by decide) ?_
          refine g_loc (lo' := [(0, .ref (g_ad X 16)), (1, .int (nI (n))), (2, .int (nI (p + 1)))]) [1, 2, 0] rfl ?_
          exact ih (p + 1) (fShort S (p) d) (by omega) (fShort_le p hw hd) (by rw [gfor_succ, show (fPipeS S) p d = fShort S (p) d from by simp only [fPipeS]; (repeat' split) <;> first | rfl | contradiction | (exfalso; omega) | omega] at kk; exact kk)

set_option maxHeartbeats 4000000 in
set_option maxRecDepth 100000 in
theorem L_fround (X : gC) (S : Nat → Nat → Nat) (K : gOk X cX1_measure 3 wsX1_measure RX1) (hRf : 2 ≤ (g_R X).frames) (hRl : 46 ≤ (g_R X).locals) (hw : wfC S) : ∀ (k j : Nat) (d : Nat → Nat), j + k = max 1 (S 1 0) → (1 ≤ j) → (∀ j, j < 12 → d j ≤ 1000000) → gG X 107 [(0, .ref (g_ad X 16)), (1, .int (nI ((max 1 (S 1 0)))))] [] (va_up S 17 (((gfor (fRound S) k j d)))) → gG X 42 [(0, .ref (g_ad X 16)), (1, .int (nI (j)))] [] (va_up S 17 (d)) := by
  have hin1 : ∀ w ∈ u_ws RX1 TX1 2, w ∈ wsX1_measure := by decide +kernel
  obtain ⟨w0, w1, w2, w3, wsh, wst, a2, a3, a4, a5, a6, a7⟩ := id hw
  intro k
  induction k with
  | zero =>
    intro j d hj hj1 hd kk
    have hj : j = max 1 (S 1 0) := by omega
    refine g_iload_n K 1 dX1_measure_42 rfl ?_
    refine g_aload_n K 0 dX1_measure_43 rfl ?_
    refine g_getR (q' := 1) (q := 16) (ci := 1) (k := 0) (N := 2) (C := RX1) (T := TX1) (ref := "ValveWalk$Flushing") K rfl rfl rfl (by decide) hin1 (by decide +kernel) rfl dX1_measure_44 ?_
    refine g_callVd (q := 1) (ci := 2) (As := []) (rest := [.int (nI (j))]) (C := RX2) (T := TX2) (N := 12) K (cX2_nodeCount_k (g_z X) (va_up S 17 (d))) (cwV 0 K.1.2.2.2.2 gX1_measure_X2_nodeCount rfl rfl rfl (by decide +kernel) ⟨Nat.le_trans (Nat.le_of_ble_eq_true rfl) hRf, Nat.le_trans (Nat.le_of_ble_eq_true rfl) hRl⟩) rfl rfl rfl rfl (Nat.le_of_ble_eq_true rfl) dX1_measure_47 ?_
    refine g_topE (S 1 0) rfl ?_
    refine g_icmp_ge (tgt := 107) (a := j) (b := S 1 0) K dX1_measure_50 (by decide) (by omega) (by omega) (fun h50_1 => ?_) (fun h50_1 => ?_)
    · refine g_loc (lo' := [(0, .ref (g_ad X 16)), (1, .int (nI (j)))]) [0, 1] rfl ?_
      exact g_cast (by first | rfl | (rw [hj]; done) | (rw [hj]; rfl)) rfl rfl kk
    · exact absurd h50_1 (by omega)
  | succ k ih =>
    intro j d hj hj1 hd kk
    refine g_iload_n K 1 dX1_measure_42 rfl ?_
    refine g_aload_n K 0 dX1_measure_43 rfl ?_
    refine g_getR (q' := 1) (q := 16) (ci := 1) (k := 0) (N := 2) (C := RX1) (T := TX1) (ref := "ValveWalk$Flushing") K rfl rfl rfl (by decide) hin1 (by decide +kernel) rfl dX1_measure_44 ?_
    refine g_callVd (q := 1) (ci := 2) (As := []) (rest := [.int (nI (j))]) (C := RX2) (T := TX2) (N := 12) K (cX2_nodeCount_k (g_z X) (va_up S 17 (d))) (cwV 0 K.1.2.2.2.2 gX1_measure_X2_nodeCount rfl rfl rfl (by decide +kernel) ⟨Nat.le_trans (Nat.le_of_ble_eq_true rfl) hRf, Nat.le_trans (Nat.le_of_ble_eq_true rfl) hRl⟩) rfl rfl rfl rfl (Nat.le_of_ble_eq_true rfl) dX1_measure_47 ?_
    refine g_topE (S 1 0) rfl ?_
    refine g_icmp_ge (tgt := 107) (a := j) (b := S 1 0) K dX1_measure_50 (by decide) (by omega) (by omega) (fun h50_1 => ?_) (fun h50_1 => ?_)
    · exact absurd h50_1 (by omega)
    · refine g_iconst K 0 dX1_measure_53 (by decide +kernel) ?_
      refine g_istore_n (lo' := [(2, .int (nI (0))), (0, .ref (g_ad X 16)), (1, .int (nI (j)))]) K dX1_measure_54 (by decide) rfl ?_
      refine g_loc (lo' := [(0, .ref (g_ad X 16)), (1, .int (nI (j))), (2, .int (nI (0)))]) [1, 2, 0] rfl ?_
      refine L_fpipes X S j K (Nat.le_trans (Nat.le_of_ble_eq_true rfl) hRf) (Nat.le_trans (Nat.le_of_ble_eq_true rfl) hRl) (hw)  (S 1 1) 0 d (by omega) (hd) ?_
      refine g_iinc (a := j) (b := j + 1) (lo' := [(1, .int (nI (j + 1))), (0, .ref (g_ad X 16)), (2, .int (nI ((S 1 1))))]) K 1 dX1_measure_101 rfl (gi_inc _) (by decide) rfl ?_
      refine g_goto (tgt := 42) K dX1_measure_104 (by decide) ?_
      refine g_loc (lo' := [(0, .ref (g_ad X 16)), (1, .int (nI (j + 1)))]) [1, 0] rfl ?_
      exact ih (j + 1) (((gfor (fPipeS S) (S 1 1) 0 d))) (by omega) (by omega) (fRound_le' hw j d hd) kk

set_option maxHeartbeats 4000000 in
set_option maxRecDepth 100000 in
theorem cX1_measure_k (Z : gZ) (S : Nat → Nat → Nat) (hw : wfC S) : gMv Z yX1_measure wsX1_measure { frames := 2, cells := 0, slots := 0, locals := 46 } [.ref (gz_ad Z 16)] S (va_up S 17 (measD S)) := by
  refine gMv_of (cc := cX1_measure) (maxL := 3) (by decide +kernel) rfl (Nat.le_of_ble_eq_true rfl)  (fun X hZ hR K hret => ?_)
  subst hZ
  have K : gOk X cX1_measure 3 wsX1_measure RX1 := K
  have hRf : 2 ≤ (g_R X).frames := gR_f hR rfl
  have hRl : 46 ≤ (g_R X).locals := gR_l hR rfl
  have hin1 : ∀ w ∈ u_ws RX1 TX1 2, w ∈ wsX1_measure := by decide +kernel
  obtain ⟨w0, w1, w2, w3, wsh, wst, a2, a3, a4, a5, a6, a7⟩ := id hw
  show gG X 0 [(0, .ref (g_ad X 16))] [] S
  refine g_iconst K 0 dX1_measure_0 (by decide +kernel) ?_
  refine g_istore_n (lo' := [(1, .int (nI (0))), (0, .ref (g_ad X 16))]) K dX1_measure_1 (by decide) rfl ?_
  refine g_loc (lo' := [(0, .ref (g_ad X 16)), (1, .int (nI (0)))]) [1, 0] rfl ?_
  refine g_cast (S' := (va_up S 17 (S 17))) rfl rfl (up_id1 ..).symm ?_
  refine L_finit X S  K (Nat.le_trans (Nat.le_of_ble_eq_true rfl) hRf) (Nat.le_trans (Nat.le_of_ble_eq_true rfl) hRl) (hw)  12 0 (S 17) (by omega)  ?_
  refine g_iconst K 1 dX1_measure_40 (by decide +kernel) ?_
  refine g_istore_n (lo' := [(1, .int (nI (1))), (0, .ref (g_ad X 16))]) K dX1_measure_41 (by decide) rfl ?_
  refine g_loc (lo' := [(0, .ref (g_ad X 16)), (1, .int (nI (1)))]) [1, 0] rfl ?_
  refine L_fround X S  K (Nat.le_trans (Nat.le_of_ble_eq_true rfl) hRf) (Nat.le_trans (Nat.le_of_ble_eq_true rfl) hRl) (hw)  (max 1 (S 1 0) - 1) 1 (gfor (fInit S) 12 0 (S 17)) (by omega) (by omega) (init_le S _) ?_
  exact g_retv hret dX1_measure_107 rfl

set_option maxHeartbeats 4000000 in
set_option maxRecDepth 100000 in
theorem cX1_distanceOf_k (Z : gZ) (S : Nat → Nat → Nat) (a : Nat) (hw : wfC S) (ha : a < 12) : gMd Z yX1_distanceOf wsX1_distanceOf { frames := 3, cells := 0, slots := 0, locals := 68 } [.ref (gz_ad Z 16), .int (nI (a))] S (if measD S a < 1000000 then measD S a else 4294967295) (va_up S 17 (measD S)) := by
  refine gMd_of (cc := cX1_distanceOf) (maxL := 2) (ret := (some .int)) (by decide +kernel) rfl (Nat.le_of_ble_eq_true rfl) (Or.inl rfl) (fun X hZ hR K hret => ?_)
  subst hZ
  have K : gOk X cX1_distanceOf 2 wsX1_distanceOf RX1 := K
  have hRf : 3 ≤ (g_R X).frames := gR_f hR rfl
  have hRl : 68 ≤ (g_R X).locals := gR_l hR rfl
  have hin1 : ∀ w ∈ u_ws RX1 TX1 2, w ∈ wsX1_distanceOf := by decide +kernel
  obtain ⟨w0, w1, w2, w3, wsh, wst, a2, a3, a4, a5, a6, a7⟩ := id hw
  show gG X 0 [(0, .ref (g_ad X 16)), (1, .int (nI (a)))] [] S
  refine g_aload_n K 0 dX1_distanceOf_0 rfl ?_
  refine g_callVv (q := 16) (ci := 1) (As := []) (rest := []) (C := RX1) (T := TX1) (N := 2) K (cX1_measure_k (g_z X) S (hw)) (cwV 0 K.1.2.2.2.2 gX1_distanceOf_X1_measure rfl rfl rfl (by decide +kernel) ⟨Nat.le_trans (Nat.le_of_ble_eq_true rfl) hRf, Nat.le_trans (Nat.le_of_ble_eq_true rfl) hRl⟩) rfl rfl rfl rfl (Nat.le_of_ble_eq_true rfl) dX1_distanceOf_1 ?_
  refine g_cast (S' := (va_up S 17 (measD S))) rfl rfl rfl ?_
  have hm := measD_le hw a ha
  refine g_aload_n K 0 dX1_distanceOf_4 rfl ?_
  refine g_getR (q' := 17) (q := 16) (ci := 1) (k := 1) (N := 2) (C := RX1) (T := TX1) (ref := "ValveWalk$Flushing") K rfl rfl rfl (by decide) hin1 (by decide +kernel) rfl dX1_distanceOf_5 ?_
  refine g_iload_n K 1 dX1_distanceOf_8 rfl ?_
  refine g_ald (q := 17) (n := 12) (i := a) K rfl (by decide) (by omega) dX1_distanceOf_9 ?_
  refine g_topE ((measD S) (a)) rfl ?_
  refine g_ldc (w := 1000000) K 1000000 (K.1.2.2.2.2 _ (by decide +kernel)) (by decide +kernel) dX1_distanceOf_10 ?_
  refine g_icmp_ge (tgt := 24) (a := (measD S) (a)) (b := 1000000) K dX1_distanceOf_12 (by decide) (by omega) (by omega) (fun h12_1 => ?_) (fun h12_1 => ?_)
  · refine g_iconst K 4294967295 dX1_distanceOf_24 (by decide +kernel) ?_
    exact g_retd hret dX1_distanceOf_25 (if_neg (by omega)).symm rfl
  · refine g_aload_n K 0 dX1_distanceOf_15 rfl ?_
    refine g_getR (q' := 17) (q := 16) (ci := 1) (k := 1) (N := 2) (C := RX1) (T := TX1) (ref := "ValveWalk$Flushing") K rfl rfl rfl (by decide) hin1 (by decide +kernel) rfl dX1_distanceOf_16 ?_
    refine g_iload_n K 1 dX1_distanceOf_19 rfl ?_
    refine g_ald (q := 17) (n := 12) (i := a) K rfl (by decide) (by omega) dX1_distanceOf_20 ?_
    refine g_topE ((measD S) (a)) rfl ?_
    refine g_goto (tgt := 25) K dX1_distanceOf_21 (by decide) ?_
    exact g_retd hret dX1_distanceOf_25 (if_pos (by omega)).symm rfl

def dAt (S : Nat → Nat → Nat) (d : Nat → Nat) (p e : Nat) : Nat := if shutAt S p e = 0 then d (S 4 (2 * p + e)) else 1000000
def endF (S : Nat → Nat → Nat) (d : Nat → Nat) (p : Nat) : Nat := if dAt S d p 0 ≤ dAt S d p 1 then 0 else 1
theorem endF_le (S : Nat → Nat → Nat) (d : Nat → Nat) (p : Nat) : endF S d p ≤ 1 := by unfold endF; split <;> omega
def dEnd (S : Nat → Nat → Nat) (d : Nat → Nat) (p : Nat) : Nat := dAt S d p (endF S d p)
def flushed (S : Nat → Nat → Nat) (d : Nat → Nat) (p : Nat) : Nat := if dEnd S d p < 1000000 then 1 else 0
theorem flushed_le (S : Nat → Nat → Nat) (d : Nat → Nat) (p : Nat) : flushed S d p ≤ 1 := by unfold flushed; split <;> omega
def ahead (S : Nat → Nat → Nat) (d : Nat → Nat) (a p : Nat) : Nat := if dEnd S d a < dEnd S d p then 1 else if dEnd S d a = dEnd S d p then (if a < p then 1 else 0) else 0
theorem ahead_le (S : Nat → Nat → Nat) (d : Nat → Nat) (a p : Nat) : ahead S d a p ≤ 1 := by unfold ahead; (repeat' split) <;> omega
theorem dAt_le {S : Nat → Nat → Nat} (hw : wfC S) {d : Nat → Nat} (hd : ∀ j, j < 12 → d j ≤ 1000000) (p e : Nat) : dAt S d p e ≤ 1000000 := by
  unfold dAt; split
  · exact hd _ (hw.2.2.2.2.2.2.2.2.1 _)
  · exact Nat.le_refl _
def fAhead (S : Nat → Nat → Nat) (d : Nat → Nat) (p a n : Nat) : Nat := if ahead S d a p = 0 then n else n + 1
def placeF (S : Nat → Nat → Nat) (d : Nat → Nat) (p : Nat) : Nat := gfor (fAhead S d p) (S 1 1) 0 0
theorem gfor_cnt {f : Nat → Nat → Nat} (h : ∀ j n, f j n ≤ n + 1) : ∀ (k j n : Nat), gfor f k j n ≤ n + k
  | 0, _, _ => Nat.le_refl _
  | k + 1, j, n => by
    have h1 := gfor_cnt h k (j + 1) (f j n)
    have h2 := h j n
    show gfor f k (j + 1) (f j n) ≤ _
    omega
theorem placeF_le (S : Nat → Nat → Nat) (d : Nat → Nat) (p : Nat) : placeF S d p ≤ S 1 1 := by
  have h := gfor_cnt (f := fAhead S d p) (fun j n => by unfold fAhead; split <;> omega) (S 1 1) 0 0
  show gfor _ _ _ _ ≤ _
  omega
def flushGo (S : Nat → Nat → Nat) (d : Nat → Nat) (place : Nat) : Nat → Nat → Nat
  | 0, _ => 4294967295
  | k + 1, p => if flushed S d p = 0 then flushGo S d place k (p + 1) else if placeF S d p = place then 2 * p + endF S d p else flushGo S d place k (p + 1)
def flushF (S : Nat → Nat → Nat) (place : Nat) : Nat := flushGo S (measD S) place (S 1 1) 0
set_option maxHeartbeats 4000000 in
set_option maxRecDepth 100000 in
theorem cX1_distanceAt_k (Z : gZ) (S : Nat → Nat → Nat) (p e : Nat) (hw : wfC S) (hp : 2 * p + e < 32) : gMd Z yX1_distanceAt wsX1_distanceAt { frames := 2, cells := 0, slots := 0, locals := 44 } [.ref (gz_ad Z 16), .int (nI (p)), .int (nI (e))] S (dAt S (S 17) p e) (S) := by
  refine gMd_of (cc := cX1_distanceAt) (maxL := 3) (ret := (some .int)) (by decide +kernel) rfl (Nat.le_of_ble_eq_true rfl) (Or.inl rfl) (fun X hZ hR K hret => ?_)
  subst hZ
  have K : gOk X cX1_distanceAt 3 wsX1_distanceAt RX1 := K
  have hRf : 2 ≤ (g_R X).frames := gR_f hR rfl
  have hRl : 44 ≤ (g_R X).locals := gR_l hR rfl
  have hin1 : ∀ w ∈ u_ws RX1 TX1 2, w ∈ wsX1_distanceAt := by decide +kernel
  obtain ⟨w0, w1, w2, w3, wsh, wst, a2, a3, a4, a5, a6, a7⟩ := id hw
  show gG X 0 [(0, .ref (g_ad X 16)), (1, .int (nI (p))), (2, .int (nI (e)))] [] S
  refine g_aload_n K 0 dX1_distanceAt_0 rfl ?_
  refine g_getR (q' := 1) (q := 16) (ci := 1) (k := 0) (N := 2) (C := RX1) (T := TX1) (ref := "ValveWalk$Flushing") K rfl rfl rfl (by decide) hin1 (by decide +kernel) rfl dX1_distanceAt_1 ?_
  refine g_iload_n K 1 dX1_distanceAt_4 rfl ?_
  refine g_iload_n K 2 dX1_distanceAt_5 rfl ?_
  refine g_callVd (q := 1) (ci := 2) (As := [.int (nI (p)), .int (nI (e))]) (rest := []) (C := RX2) (T := TX2) (N := 12) K (cX2_isShutAt_k (g_z X) S p e (hw) (by omega)) (cwV 2 K.1.2.2.2.2 gX1_distanceAt_X2_isShutAt rfl rfl rfl (by decide +kernel) ⟨Nat.le_trans (Nat.le_of_ble_eq_true rfl) hRf, Nat.le_trans (Nat.le_of_ble_eq_true rfl) hRl⟩) rfl rfl rfl rfl (Nat.le_of_ble_eq_true rfl) dX1_distanceAt_6 ?_
  have hf6_1 := shutAt_le S p e
  refine g_if_eq (tgt := 17) (a := shutAt S p e) K dX1_distanceAt_9 (by decide) (by omega) (fun h9_2 => ?_) (fun h9_2 => ?_)
  · refine g_aload_n K 0 dX1_distanceAt_17 rfl ?_
    refine g_getR (q' := 17) (q := 16) (ci := 1) (k := 1) (N := 2) (C := RX1) (T := TX1) (ref := "ValveWalk$Flushing") K rfl rfl rfl (by decide) hin1 (by decide +kernel) rfl dX1_distanceAt_18 ?_
    refine g_aload_n K 0 dX1_distanceAt_21 rfl ?_
    refine g_getR (q' := 1) (q := 16) (ci := 1) (k := 0) (N := 2) (C := RX1) (T := TX1) (ref := "ValveWalk$Flushing") K rfl rfl rfl (by decide) hin1 (by decide +kernel) rfl dX1_distanceAt_22 ?_
    refine g_iload_n K 1 dX1_distanceAt_25 rfl ?_
    refine g_iload_n K 2 dX1_distanceAt_26 rfl ?_
    refine g_callVd (q := 1) (ci := 2) (As := [.int (nI (p)), .int (nI (e))]) (rest := [.ref (g_ad X 17)]) (C := RX2) (T := TX2) (N := 12) K (cX2_nodeAt_k (g_z X) S p e (by omega)) (cwV 2 K.1.2.2.2.2 gX1_distanceAt_X2_nodeAt rfl rfl rfl (by decide +kernel) ⟨Nat.le_trans (Nat.le_of_ble_eq_true rfl) hRf, Nat.le_trans (Nat.le_of_ble_eq_true rfl) hRl⟩) rfl rfl rfl rfl (Nat.le_of_ble_eq_true rfl) dX1_distanceAt_27 ?_
    have h30 := a4 (2 * p + e)
    refine g_ald (q := 17) (n := 12) (i := S 4 (2 * p + e)) K rfl (by decide) (by omega) dX1_distanceAt_30 ?_
    exact g_retd hret dX1_distanceAt_31 (if_pos (by assumption)).symm rfl
  · refine g_ldc (w := 1000000) K 1000000 (K.1.2.2.2.2 _ (by decide +kernel)) (by decide +kernel) dX1_distanceAt_12 ?_
    refine g_goto (tgt := 31) K dX1_distanceAt_14 (by decide) ?_
    exact g_retd hret dX1_distanceAt_31 (if_neg (by assumption)).symm rfl

set_option maxHeartbeats 4000000 in
set_option maxRecDepth 100000 in
theorem cX1_endOf_k (Z : gZ) (S : Nat → Nat → Nat) (p : Nat) (hw : wfC S) (hd : ∀ j, j < 12 → S 17 j ≤ 1000000) (hp : p < 16) : gMd Z yX1_endOf wsX1_endOf { frames := 3, cells := 0, slots := 0, locals := 66 } [.ref (gz_ad Z 16), .int (nI (p))] S (endF S (S 17) p) (S) := by
  refine gMd_of (cc := cX1_endOf) (maxL := 2) (ret := (some .int)) (by decide +kernel) rfl (Nat.le_of_ble_eq_true rfl) (Or.inl rfl) (fun X hZ hR K hret => ?_)
  subst hZ
  have K : gOk X cX1_endOf 2 wsX1_endOf RX1 := K
  have hRf : 3 ≤ (g_R X).frames := gR_f hR rfl
  have hRl : 66 ≤ (g_R X).locals := gR_l hR rfl
  obtain ⟨w0, w1, w2, w3, wsh, wst, a2, a3, a4, a5, a6, a7⟩ := id hw
  show gG X 0 [(0, .ref (g_ad X 16)), (1, .int (nI (p)))] [] S
  refine g_aload_n K 0 dX1_endOf_0 rfl ?_
  refine g_iload_n K 1 dX1_endOf_1 rfl ?_
  refine g_iconst K 0 dX1_endOf_2 (by decide +kernel) ?_
  refine g_callVd (q := 16) (ci := 1) (As := [.int (nI (p)), .int (nI (0))]) (rest := []) (C := RX1) (T := TX1) (N := 2) K (cX1_distanceAt_k (g_z X) S p 0 (hw) (by omega)) (cwV 2 K.1.2.2.2.2 gX1_endOf_X1_distanceAt rfl rfl rfl (by decide +kernel) ⟨Nat.le_trans (Nat.le_of_ble_eq_true rfl) hRf, Nat.le_trans (Nat.le_of_ble_eq_true rfl) hRl⟩) rfl rfl rfl rfl (Nat.le_of_ble_eq_true rfl) dX1_endOf_3 ?_
  refine g_aload_n K 0 dX1_endOf_6 rfl ?_
  refine g_iload_n K 1 dX1_endOf_7 rfl ?_
  refine g_iconst K 1 dX1_endOf_8 (by decide +kernel) ?_
  refine g_callVd (q := 16) (ci := 1) (As := [.int (nI (p)), .int (nI (1))]) (rest := [.int (nI (dAt S (S 17) p 0))]) (C := RX1) (T := TX1) (N := 2) K (cX1_distanceAt_k (g_z X) S p 1 (hw) (by omega)) (cwV 2 K.1.2.2.2.2 gX1_endOf_X1_distanceAt rfl rfl rfl (by decide +kernel) ⟨Nat.le_trans (Nat.le_of_ble_eq_true rfl) hRf, Nat.le_trans (Nat.le_of_ble_eq_true rfl) hRl⟩) rfl rfl rfl rfl (Nat.le_of_ble_eq_true rfl) dX1_endOf_9 ?_
  have e0 := dAt_le hw hd p 0
  have e1 := dAt_le hw hd p 1
  refine g_icmp_gt (tgt := 19) (a := dAt S (S 17) p 0) (b := dAt S (S 17) p 1) K dX1_endOf_12 (by decide) (by omega) (by omega) (fun h12_1 => ?_) (fun h12_1 => ?_)
  · refine g_iconst K 1 dX1_endOf_19 (by decide +kernel) ?_
    exact g_retd hret dX1_endOf_20 (if_neg (by omega)).symm rfl
  · refine g_iconst K 0 dX1_endOf_15 (by decide +kernel) ?_
    refine g_goto (tgt := 20) K dX1_endOf_16 (by decide) ?_
    exact g_retd hret dX1_endOf_20 (if_pos (by omega)).symm rfl

set_option maxHeartbeats 4000000 in
set_option maxRecDepth 100000 in
theorem cX1_isFlushed_k (Z : gZ) (S : Nat → Nat → Nat) (p : Nat) (hw : wfC S) (hd : ∀ j, j < 12 → S 17 j ≤ 1000000) (hp : p < 16) : gMd Z yX1_isFlushed wsX1_isFlushed { frames := 4, cells := 0, slots := 0, locals := 87 } [.ref (gz_ad Z 16), .int (nI (p))] S (flushed S (S 17) p) (S) := by
  refine gMd_of (cc := cX1_isFlushed) (maxL := 2) (ret := (some .boolean)) (by decide +kernel) rfl (Nat.le_of_ble_eq_true rfl) (Or.inr ⟨rfl, flushed_le _ _ _⟩) (fun X hZ hR K hret => ?_)
  subst hZ
  have K : gOk X cX1_isFlushed 2 wsX1_isFlushed RX1 := K
  have hRf : 4 ≤ (g_R X).frames := gR_f hR rfl
  have hRl : 87 ≤ (g_R X).locals := gR_l hR rfl
  obtain ⟨w0, w1, w2, w3, wsh, wst, a2, a3, a4, a5, a6, a7⟩ := id hw
  show gG X 0 [(0, .ref (g_ad X 16)), (1, .int (nI (p)))] [] S
  refine g_aload_n K 0 dX1_isFlushed_0 rfl ?_
  refine g_iload_n K 1 dX1_isFlushed_1 rfl ?_
  refine g_aload_n K 0 dX1_isFlushed_2 rfl ?_
  refine g_iload_n K 1 dX1_isFlushed_3 rfl ?_
  refine g_callVd (q := 16) (ci := 1) (As := [.int (nI (p))]) (rest := [.int (nI (p)), .ref (g_ad X 16)]) (C := RX1) (T := TX1) (N := 2) K (cX1_endOf_k (g_z X) S p (hw) (hd) (by omega)) (cwV 1 K.1.2.2.2.2 gX1_isFlushed_X1_endOf rfl rfl rfl (by decide +kernel) ⟨Nat.le_trans (Nat.le_of_ble_eq_true rfl) hRf, Nat.le_trans (Nat.le_of_ble_eq_true rfl) hRl⟩) rfl rfl rfl rfl (Nat.le_of_ble_eq_true rfl) dX1_isFlushed_4 ?_
  have hf4_1 := endF_le S (S 17) p
  refine g_callVd (q := 16) (ci := 1) (As := [.int (nI (p)), .int (nI (endF S (S 17) p))]) (rest := []) (C := RX1) (T := TX1) (N := 2) K (cX1_distanceAt_k (g_z X) S p (endF S (S 17) p) (hw) (by omega)) (cwV 2 K.1.2.2.2.2 gX1_isFlushed_X1_distanceAt rfl rfl rfl (by decide +kernel) ⟨Nat.le_trans (Nat.le_of_ble_eq_true rfl) hRf, Nat.le_trans (Nat.le_of_ble_eq_true rfl) hRl⟩) rfl rfl rfl rfl (Nat.le_of_ble_eq_true rfl) dX1_isFlushed_7 ?_
  have e0 := dAt_le hw hd p (endF S (S 17) p)
  refine g_ldc (w := 1000000) K 1000000 (K.1.2.2.2.2 _ (by decide +kernel)) (by decide +kernel) dX1_isFlushed_10 ?_
  refine g_icmp_ge (tgt := 19) (a := dAt S (S 17) p (endF S (S 17) p)) (b := 1000000) K dX1_isFlushed_12 (by decide) (by omega) (by omega) (fun h12_2 => ?_) (fun h12_2 => ?_)
  · refine g_iconst K 0 dX1_isFlushed_19 (by decide +kernel) ?_
    exact g_retd hret dX1_isFlushed_20 (if_neg (show _ by unfold dEnd; omega)).symm rfl
  · refine g_iconst K 1 dX1_isFlushed_15 (by decide +kernel) ?_
    refine g_goto (tgt := 20) K dX1_isFlushed_16 (by decide) ?_
    exact g_retd hret dX1_isFlushed_20 (if_pos (show _ by unfold dEnd; omega)).symm rfl

set_option maxHeartbeats 4000000 in
set_option maxRecDepth 100000 in
theorem cX1_isAhead_k (Z : gZ) (S : Nat → Nat → Nat) (a p : Nat) (hw : wfC S) (hd : ∀ j, j < 12 → S 17 j ≤ 1000000) (hq : a < 16) (hp : p < 16) : gMd Z yX1_isAhead wsX1_isAhead { frames := 4, cells := 0, slots := 0, locals := 87 } [.ref (gz_ad Z 16), .int (nI (a)), .int (nI (p))] S (ahead S (S 17) a p) (S) := by
  refine gMd_of (cc := cX1_isAhead) (maxL := 4) (ret := (some .boolean)) (by decide +kernel) rfl (Nat.le_of_ble_eq_true rfl) (Or.inr ⟨rfl, ahead_le _ _ _ _⟩) (fun X hZ hR K hret => ?_)
  subst hZ
  have K : gOk X cX1_isAhead 4 wsX1_isAhead RX1 := K
  have hRf : 4 ≤ (g_R X).frames := gR_f hR rfl
  have hRl : 87 ≤ (g_R X).locals := gR_l hR rfl
  obtain ⟨w0, w1, w2, w3, wsh, wst, a2, a3, a4, a5, a6, a7⟩ := id hw
  show gG X 0 [(0, .ref (g_ad X 16)), (1, .int (nI (a))), (2, .int (nI (p)))] [] S
  refine g_aload_n K 0 dX1_isAhead_0 rfl ?_
  refine g_iload_n K 1 dX1_isAhead_1 rfl ?_
  refine g_aload_n K 0 dX1_isAhead_2 rfl ?_
  refine g_iload_n K 1 dX1_isAhead_3 rfl ?_
  refine g_callVd (q := 16) (ci := 1) (As := [.int (nI (a))]) (rest := [.int (nI (a)), .ref (g_ad X 16)]) (C := RX1) (T := TX1) (N := 2) K (cX1_endOf_k (g_z X) S a (hw) (hd) (by omega)) (cwV 1 K.1.2.2.2.2 gX1_isAhead_X1_endOf rfl rfl rfl (by decide +kernel) ⟨Nat.le_trans (Nat.le_of_ble_eq_true rfl) hRf, Nat.le_trans (Nat.le_of_ble_eq_true rfl) hRl⟩) rfl rfl rfl rfl (Nat.le_of_ble_eq_true rfl) dX1_isAhead_4 ?_
  have hf4_1 := endF_le S (S 17) a
  refine g_callVd (q := 16) (ci := 1) (As := [.int (nI (a)), .int (nI (endF S (S 17) a))]) (rest := []) (C := RX1) (T := TX1) (N := 2) K (cX1_distanceAt_k (g_z X) S a (endF S (S 17) a) (hw) (by omega)) (cwV 2 K.1.2.2.2.2 gX1_isAhead_X1_distanceAt rfl rfl rfl (by decide +kernel) ⟨Nat.le_trans (Nat.le_of_ble_eq_true rfl) hRf, Nat.le_trans (Nat.le_of_ble_eq_true rfl) hRl⟩) rfl rfl rfl rfl (Nat.le_of_ble_eq_true rfl) dX1_isAhead_7 ?_
  refine g_aload_n K 0 dX1_isAhead_10 rfl ?_
  refine g_iload_n K 2 dX1_isAhead_11 rfl ?_
  refine g_aload_n K 0 dX1_isAhead_12 rfl ?_
  refine g_iload_n K 2 dX1_isAhead_13 rfl ?_
  refine g_callVd (q := 16) (ci := 1) (As := [.int (nI (p))]) (rest := [.int (nI (p)), .ref (g_ad X 16), .int (nI (dAt S (S 17) a (endF S (S 17) a)))]) (C := RX1) (T := TX1) (N := 2) K (cX1_endOf_k (g_z X) S p (hw) (hd) (by omega)) (cwV 1 K.1.2.2.2.2 gX1_isAhead_X1_endOf rfl rfl rfl (by decide +kernel) ⟨Nat.le_trans (Nat.le_of_ble_eq_true rfl) hRf, Nat.le_trans (Nat.le_of_ble_eq_true rfl) hRl⟩) rfl rfl rfl rfl (Nat.le_of_ble_eq_true rfl) dX1_isAhead_14 ?_
  have hf14_2 := endF_le S (S 17) p
  have e0 := dAt_le hw hd a (endF S (S 17) a)
  have e1 := dAt_le hw hd p (endF S (S 17) p)
  refine g_callVd (q := 16) (ci := 1) (As := [.int (nI (p)), .int (nI (endF S (S 17) p))]) (rest := [.int (nI (dAt S (S 17) a (endF S (S 17) a)))]) (C := RX1) (T := TX1) (N := 2) K (cX1_distanceAt_k (g_z X) S p (endF S (S 17) p) (hw) (by omega)) (cwV 2 K.1.2.2.2.2 gX1_isAhead_X1_distanceAt rfl rfl rfl (by decide +kernel) ⟨Nat.le_trans (Nat.le_of_ble_eq_true rfl) hRf, Nat.le_trans (Nat.le_of_ble_eq_true rfl) hRl⟩) rfl rfl rfl rfl (Nat.le_of_ble_eq_true rfl) dX1_isAhead_17 ?_
  obtain ⟨r, hr, hr1, hr2, hr3⟩ := gi_subx (dAt S (S 17) a (endF S (S 17) a)) (dAt S (S 17) p (endF S (S 17) p)) (by omega) (by omega)
  refine g_isub' K (r) (hr) dX1_isAhead_20 ?_
  refine g_istore_n (lo' := [(3, .int (nI (r))), (0, .ref (g_ad X 16)), (1, .int (nI (a))), (2, .int (nI (p)))]) K dX1_isAhead_21 (by decide) rfl ?_
  refine g_iload_n K 0 dX1_isAhead_22 rfl ?_
  refine g_if_lt (tgt := 35) (a := r) K dX1_isAhead_23 (by decide) (by omega) (fun h23_3 => ?_) (fun h23_3 => ?_)
  · refine g_iconst K 1 dX1_isAhead_35 (by decide +kernel) ?_
    refine g_goto (tgt := 40) K dX1_isAhead_36 (by decide) ?_
    exact g_retd hret dX1_isAhead_40 (by unfold ahead dEnd; (repeat' split) <;> first | rfl | contradiction | (exfalso; omega) | omega) rfl
  · refine g_iload_n K 0 dX1_isAhead_26 rfl ?_
    refine g_if_ne (tgt := 39) (a := r) K dX1_isAhead_27 (by decide) (by omega) (fun h27_4 => ?_) (fun h27_4 => ?_)
    · refine g_iconst K 0 dX1_isAhead_39 (by decide +kernel) ?_
      exact g_retd hret dX1_isAhead_40 (by unfold ahead dEnd; (repeat' split) <;> first | rfl | contradiction | (exfalso; omega) | omega) rfl
    · refine g_iload_n K 2 dX1_isAhead_30 rfl ?_
      refine g_iload_n K 3 dX1_isAhead_31 rfl ?_
      refine g_icmp_ge (tgt := 39) (a := a) (b := p) K dX1_isAhead_32 (by decide) (by omega) (by omega) (fun h32_5 => ?_) (fun h32_5 => ?_)
      · refine g_iconst K 0 dX1_isAhead_39 (by decide +kernel) ?_
        exact g_retd hret dX1_isAhead_40 (by unfold ahead dEnd; (repeat' split) <;> first | rfl | contradiction | (exfalso; omega) | omega) rfl
      · refine g_iconst K 1 dX1_isAhead_35 (by decide +kernel) ?_
        refine g_goto (tgt := 40) K dX1_isAhead_36 (by decide) ?_
        exact g_retd hret dX1_isAhead_40 (by unfold ahead dEnd; (repeat' split) <;> first | rfl | contradiction | (exfalso; omega) | omega) rfl

set_option maxHeartbeats 4000000 in
set_option maxRecDepth 100000 in
theorem L_place (X : gC) (S : Nat → Nat → Nat) (p : Nat) (K : gOk X cX1_placeOf 4 wsX1_placeOf RX1) (hRf : 5 ≤ (g_R X).frames) (hRl : 110 ≤ (g_R X).locals) (hw : wfC S) (hd : ∀ j, j < 12 → S 17 j ≤ 1000000) (hp : p < 16) : ∀ (k a : Nat) (n : Nat), a + k = S 1 1 → gG X 33 [(0, .ref (g_ad X 16)), (1, .int (nI (p))), (2, .int (nI (((gfor (fAhead S (S 17) p) k a n))))), (3, .int (nI ((S 1 1))))] [] S → gG X 4 [(0, .ref (g_ad X 16)), (1, .int (nI (p))), (2, .int (nI (n))), (3, .int (nI (a)))] [] S := by
  have hin1 : ∀ w ∈ u_ws RX1 TX1 2, w ∈ wsX1_placeOf := by decide +kernel
  obtain ⟨w0, w1, w2, w3, wsh, wst, a2, a3, a4, a5, a6, a7⟩ := id hw
  intro k
  induction k with
  | zero =>
    intro a n hj kk
    have hj : a = S 1 1 := by omega
    refine g_iload_n K 3 dX1_placeOf_4 rfl ?_
    refine g_aload_n K 0 dX1_placeOf_5 rfl ?_
    refine g_getR (q' := 1) (q := 16) (ci := 1) (k := 0) (N := 2) (C := RX1) (T := TX1) (ref := "ValveWalk$Flushing") K rfl rfl rfl (by decide) hin1 (by decide +kernel) rfl dX1_placeOf_6 ?_
    refine g_callVd (q := 1) (ci := 2) (As := []) (rest := [.int (nI (a))]) (C := RX2) (T := TX2) (N := 12) K (cX2_pipeCount_k (g_z X) S) (cwV 0 K.1.2.2.2.2 gX1_placeOf_X2_pipeCount rfl rfl rfl (by decide +kernel) ⟨Nat.le_trans (Nat.le_of_ble_eq_true rfl) hRf, Nat.le_trans (Nat.le_of_ble_eq_true rfl) hRl⟩) rfl rfl rfl rfl (Nat.le_of_ble_eq_true rfl) dX1_placeOf_9 ?_
    refine g_icmp_ge (tgt := 33) (a := a) (b := S 1 1) K dX1_placeOf_12 (by decide) (by omega) (by omega) (fun h12_1 => ?_) (fun h12_1 => ?_)
    · refine g_loc (lo' := [(0, .ref (g_ad X 16)), (1, .int (nI (p))), (2, .int (nI (n))), (3, .int (nI (a)))]) [0, 1, 2, 3] rfl ?_
      exact g_cast (by first | rfl | (rw [hj]; done) | (rw [hj]; rfl)) rfl rfl kk
    · exact absurd h12_1 (by omega)
  | succ k ih =>
    intro a n hj kk
    refine g_iload_n K 3 dX1_placeOf_4 rfl ?_
    refine g_aload_n K 0 dX1_placeOf_5 rfl ?_
    refine g_getR (q' := 1) (q := 16) (ci := 1) (k := 0) (N := 2) (C := RX1) (T := TX1) (ref := "ValveWalk$Flushing") K rfl rfl rfl (by decide) hin1 (by decide +kernel) rfl dX1_placeOf_6 ?_
    refine g_callVd (q := 1) (ci := 2) (As := []) (rest := [.int (nI (a))]) (C := RX2) (T := TX2) (N := 12) K (cX2_pipeCount_k (g_z X) S) (cwV 0 K.1.2.2.2.2 gX1_placeOf_X2_pipeCount rfl rfl rfl (by decide +kernel) ⟨Nat.le_trans (Nat.le_of_ble_eq_true rfl) hRf, Nat.le_trans (Nat.le_of_ble_eq_true rfl) hRl⟩) rfl rfl rfl rfl (Nat.le_of_ble_eq_true rfl) dX1_placeOf_9 ?_
    refine g_icmp_ge (tgt := 33) (a := a) (b := S 1 1) K dX1_placeOf_12 (by decide) (by omega) (by omega) (fun h12_1 => ?_) (fun h12_1 => ?_)
    · exact absurd h12_1 (by omega)
    · refine g_aload_n K 0 dX1_placeOf_15 rfl ?_
      refine g_iload_n K 3 dX1_placeOf_16 rfl ?_
      refine g_iload_n K 1 dX1_placeOf_17 rfl ?_
      refine g_callVd (q := 16) (ci := 1) (As := [.int (nI (a)), .int (nI (p))]) (rest := []) (C := RX1) (T := TX1) (N := 2) K (cX1_isAhead_k (g_z X) S a p (hw) (hd) (by omega) (by omega)) (cwV 2 K.1.2.2.2.2 gX1_placeOf_X1_isAhead rfl rfl rfl (by decide +kernel) ⟨Nat.le_trans (Nat.le_of_ble_eq_true rfl) hRf, Nat.le_trans (Nat.le_of_ble_eq_true rfl) hRl⟩) rfl rfl rfl rfl (Nat.le_of_ble_eq_true rfl) dX1_placeOf_18 ?_
      have h21 := ahead_le S (S 17) a p
      refine g_if_eq (tgt := 27) (a := ahead S (S 17) a p) K dX1_placeOf_21 (by decide) (by omega) (fun h21_2 => ?_) (fun h21_2 => ?_)
      · refine g_iinc (a := a) (b := a + 1) (lo' := [(3, .int (nI (a + 1))), (0, .ref (g_ad X 16)), (1, .int (nI (p))), (2, .int (nI (n)))]) K 3 dX1_placeOf_27 rfl (gi_inc _) (by decide) rfl ?_
        refine g_goto (tgt := 4) K dX1_placeOf_30 (by decide) ?_
        refine g_loc (lo' := [(0, .ref (g_ad X 16)), (1, .int (nI (p))), (2, .int (nI (n))), (3, .int (nI (a + 1)))]) [1, 2, 3, 0] rfl ?_
        exact ih (a + 1) n (by omega)  (by rw [gfor_succ, show (fAhead S (S 17) p) a n = n from by simp only [fAhead]; (repeat' split) <;> first | rfl | contradiction | (exfalso; omega) | omega] at kk; exact kk)
      · refine g_iinc (a := n) (b := n + 1) (lo' := [(2, .int (nI (n + 1))), (0, .ref (g_ad X 16)), (1, .int (nI (p))), (3, .int (nI (a)))]) K 2 dX1_placeOf_24 rfl (gi_inc _) (by decide) rfl ?_
        refine g_iinc (a := a) (b := a + 1) (lo' := [(3, .int (nI (a + 1))), (2, .int (nI (n + 1))), (0, .ref (g_ad X 16)), (1, .int (nI (p)))]) K 3 dX1_placeOf_27 rfl (gi_inc _) (by decide) rfl ?_
        refine g_goto (tgt := 4) K dX1_placeOf_30 (by decide) ?_
        refine g_loc (lo' := [(0, .ref (g_ad X 16)), (1, .int (nI (p))), (2, .int (nI (n + 1))), (3, .int (nI (a + 1)))]) [2, 3, 1, 0] rfl ?_
        exact ih (a + 1) (n + 1) (by omega)  (by rw [gfor_succ, show (fAhead S (S 17) p) a n = n + 1 from by simp only [fAhead]; (repeat' split) <;> first | rfl | contradiction | (exfalso; omega) | omega] at kk; exact kk)

set_option maxHeartbeats 4000000 in
set_option maxRecDepth 100000 in
theorem cX1_placeOf_k (Z : gZ) (S : Nat → Nat → Nat) (p : Nat) (hw : wfC S) (hd : ∀ j, j < 12 → S 17 j ≤ 1000000) (hp : p < 16) : gMd Z yX1_placeOf wsX1_placeOf { frames := 5, cells := 0, slots := 0, locals := 110 } [.ref (gz_ad Z 16), .int (nI (p))] S (placeF S (S 17) p) (S) := by
  refine gMd_of (cc := cX1_placeOf) (maxL := 4) (ret := (some .int)) (by decide +kernel) rfl (Nat.le_of_ble_eq_true rfl) (Or.inl rfl) (fun X hZ hR K hret => ?_)
  subst hZ
  have K : gOk X cX1_placeOf 4 wsX1_placeOf RX1 := K
  have hRf : 5 ≤ (g_R X).frames := gR_f hR rfl
  have hRl : 110 ≤ (g_R X).locals := gR_l hR rfl
  have hin1 : ∀ w ∈ u_ws RX1 TX1 2, w ∈ wsX1_placeOf := by decide +kernel
  obtain ⟨w0, w1, w2, w3, wsh, wst, a2, a3, a4, a5, a6, a7⟩ := id hw
  show gG X 0 [(0, .ref (g_ad X 16)), (1, .int (nI (p)))] [] S
  refine g_iconst K 0 dX1_placeOf_0 (by decide +kernel) ?_
  refine g_istore_n (lo' := [(2, .int (nI (0))), (0, .ref (g_ad X 16)), (1, .int (nI (p)))]) K dX1_placeOf_1 (by decide) rfl ?_
  refine g_iconst K 0 dX1_placeOf_2 (by decide +kernel) ?_
  refine g_istore_n (lo' := [(3, .int (nI (0))), (2, .int (nI (0))), (0, .ref (g_ad X 16)), (1, .int (nI (p)))]) K dX1_placeOf_3 (by decide) rfl ?_
  refine g_loc (lo' := [(0, .ref (g_ad X 16)), (1, .int (nI (p))), (2, .int (nI (0))), (3, .int (nI (0)))]) [2, 3, 1, 0] rfl ?_
  refine L_place X S p K (Nat.le_trans (Nat.le_of_ble_eq_true rfl) hRf) (Nat.le_trans (Nat.le_of_ble_eq_true rfl) hRl) (hw) (hd) (hp)  (S 1 1) 0 0 (by omega)  ?_
  refine g_iload_n K 2 dX1_placeOf_33 rfl ?_
  exact g_retd hret dX1_placeOf_34 rfl rfl

