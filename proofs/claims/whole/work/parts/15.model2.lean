/-! THE REFERENCE: water, segments, breaks -/
theorem openM_r {S : Nat → Nat → Nat} {z : Nat} (pl how al : Nat) : openM (va_up S 22 (va_up (S 22) 0 z)) pl how al = openM S pl how al := rfl
theorem bothM_r {S : Nat → Nat → Nat} {z : Nat} (pl : Nat) : bothM (va_up S 22 (va_up (S 22) 0 z)) pl = bothM S pl := rfl
theorem fSp_r {S : Nat → Nat → Nat} {z : Nat} (how al : Nat) : fSp (va_up S 22 (va_up (S 22) 0 z)) how al = fSp S how al := rfl
theorem spPass_r {S : Nat → Nat → Nat} {z : Nat} (how al all : Nat) : spPass (va_up S 22 (va_up (S 22) 0 z)) how al all = spPass S how al all := rfl
theorem spGo_r {S : Nat → Nat → Nat} {z : Nat} (how al : Nat) : ∀ (k all bf : Nat), spGo (va_up S 22 (va_up (S 22) 0 z)) how al k all bf = spGo S how al k all bf
  | 0, _, _ => rfl
  | k + 1, all, bf => by simp only [spGo, spPass_r, spGo_r how al k]
theorem spread_r {S : Nat → Nat → Nat} {z : Nat} (a how al : Nat) : spread (va_up S 22 (va_up (S 22) 0 z)) a how al = spread S a how al := spGo_r how al 58 a 0
theorem spGo_lt {S : Nat → Nat → Nat} (hm : wfM S) (how al : Nat) : ∀ (k all bf : Nat), all < 268435456 → spGo S how al k all bf < 268435456
  | 0, _, _, h => h
  | k + 1, all, bf, h => by
    unfold spGo
    split
    · exact h
    · exact spGo_lt hm how al k _ _ (spPass_lt hm how al all h)
theorem spread_lt {S : Nat → Nat → Nat} (hm : wfM S) {a : Nat} (how al : Nat) (h : a < 268435456) : spread S a how al < 268435456 := spGo_lt hm how al 58 a 0 h
def wetM (S : Nat → Nat → Nat) (al : Nat) : Nat := spread S (S 22 4) 0 al
theorem wetM_r {S : Nat → Nat → Nat} {z : Nat} (al : Nat) : wetM (va_up S 22 (va_up (S 22) 0 z)) al = wetM S al := spread_r _ 0 al
theorem wetM_lt {S : Nat → Nat → Nat} (hm : wfM S) (al : Nat) : wetM S al < 268435456 := spread_lt hm 0 al (Nat.lt_trans hm.2.2.2.1 (by decide))
def fSup (S : Nat → Nat → Nat) (w p s : Nat) : Nat := s + (if w &&& (1 <<< (12 + p)) = 0 then 0 else S 26 p)
def supplyM (S : Nat → Nat → Nat) (w : Nat) : Nat := gfor (fSup S w) (S 22 2) 0 0
theorem supplyM_r {S : Nat → Nat → Nat} {z : Nat} (w : Nat) : supplyM (va_up S 22 (va_up (S 22) 0 z)) w = supplyM S w := rfl
theorem gfor_add {f : Nat → Nat → Nat} {B : Nat} (h : ∀ j n, f j n ≤ n + B) : ∀ (k j n : Nat), gfor f k j n ≤ n + k * B
  | 0, _, n => by show n ≤ _; omega
  | k + 1, j, n => by
    have h1 := gfor_add h k (j + 1) (f j n)
    have h2 := h j n
    show gfor f k (j + 1) (f j n) ≤ _
    rw [Nat.succ_mul]
    omega
theorem supplyM_le {S : Nat → Nat → Nat} (hm : wfM S) (w : Nat) : supplyM S w ≤ 1600 := by
  have h := gfor_add (f := fSup S w) (B := 99) (fun j n => by have := hm.2.2.2.2.2.2.2.2.2.1 j; unfold fSup; split <;> omega) (S 22 2) 0 0
  have := hm.2.1
  unfold supplyM
  omega
def dryM (S : Nat → Nat → Nat) (b : Nat) : Nat := if wetM S 0 &&& b = 0 then 1 else 0
theorem dryM_le (S : Nat → Nat → Nat) (b : Nat) : dryM S b ≤ 1 := by unfold dryM; split <;> omega
set_option maxHeartbeats 4000000 in
set_option maxRecDepth 100000 in
theorem cX6_wet_k (Z : gZ) (S : Nat → Nat → Nat) (al : Nat) (hm : wfM S) (hal : al < 4096) : gMd Z yX6_wet wsX6_wet { frames := 2, cells := 0, slots := 0, locals := 52 } [.ref (gz_ad Z 22), .int (nI (al))] S (wetM S al) (S) := by
  refine gMd_of (cc := cX6_wet) (maxL := 2) (ret := (some .int)) (by decide +kernel) rfl (Nat.le_of_ble_eq_true rfl) (Or.inl rfl) (fun X hZ hR K hret => ?_)
  subst hZ
  have K : gOk X cX6_wet 2 wsX6_wet RX6 := K
  have hRf : 2 ≤ (g_R X).frames := gR_f hR rfl
  have hRl : 52 ≤ (g_R X).locals := gR_l hR rfl
  have hin6 : ∀ w ∈ u_ws RX6 TX6 17, w ∈ wsX6_wet := by decide +kernel
  obtain ⟨m1, m2, m3, m4, msh, mst, b23, b24, b25, b26, b27⟩ := id hm
  show gG X 0 [(0, .ref (g_ad X 22)), (1, .int (nI (al)))] [] S
  refine g_aload_n K 0 dX6_wet_0 rfl ?_
  refine g_aload_n K 0 dX6_wet_1 rfl ?_
  refine g_getI (q := 22) (ci := 6) (k := 4) (N := 17) (C := RX6) (T := TX6) (ref := "ValveWalkModel") K rfl rfl rfl (by decide) hin6 (by decide +kernel) rfl dX6_wet_2 ?_
  refine g_iconst K 0 dX6_wet_5 (by decide +kernel) ?_
  refine g_iload_n K 1 dX6_wet_6 rfl ?_
  refine g_callVd (q := 22) (ci := 6) (As := [.int (nI (S 22 4)), .int (nI (0)), .int (nI (al))]) (rest := []) (C := RX6) (T := TX6) (N := 17) K (cX6_spread_k (g_z X) S (S 22 4) 0 al (hm) (by omega) (by omega) (by omega)) (cwV 3 K.1.2.2.2.2 gX6_wet_X6_spread rfl rfl rfl (by decide +kernel) ⟨Nat.le_trans (Nat.le_of_ble_eq_true rfl) hRf, Nat.le_trans (Nat.le_of_ble_eq_true rfl) hRl⟩) rfl rfl rfl rfl (Nat.le_of_ble_eq_true rfl) dX6_wet_7 ?_
  exact g_retd hret dX6_wet_10 rfl rfl

set_option maxHeartbeats 4000000 in
set_option maxRecDepth 100000 in
theorem L_sup (X : gC) (S : Nat → Nat → Nat) (w : Nat) (K : gOk X cX6_supply 4 wsX6_supply RX6) (hRf : 1 ≤ (g_R X).frames) (hRl : 20 ≤ (g_R X).locals) (hm : wfM S) (hw : w < 2147483648) : ∀ (k p : Nat) (s : Nat), p + k = S 22 2 → gG X 40 [(0, .ref (g_ad X 22)), (1, .int (nI (w))), (2, .int (nI (((gfor (fSup S w) k p s))))), (3, .int (nI ((S 22 2))))] [] S → gG X 4 [(0, .ref (g_ad X 22)), (1, .int (nI (w))), (2, .int (nI (s))), (3, .int (nI (p)))] [] S := by
  have hin6 : ∀ w ∈ u_ws RX6 TX6 17, w ∈ wsX6_supply := by decide +kernel
  obtain ⟨m1, m2, m3, m4, msh, mst, b23, b24, b25, b26, b27⟩ := id hm
  intro k
  induction k with
  | zero =>
    intro p s hj kk
    have hj : p = S 22 2 := by omega
    refine g_iload_n K 3 dX6_supply_4 rfl ?_
    refine g_aload_n K 0 dX6_supply_5 rfl ?_
    refine g_getI (q := 22) (ci := 6) (k := 2) (N := 17) (C := RX6) (T := TX6) (ref := "ValveWalkModel") K rfl rfl rfl (by decide) hin6 (by decide +kernel) rfl dX6_supply_6 ?_
    refine g_icmp_ge (tgt := 40) (a := p) (b := S 22 2) K dX6_supply_9 (by decide) (by omega) (by omega) (fun h9_1 => ?_) (fun h9_1 => ?_)
    · refine g_loc (lo' := [(0, .ref (g_ad X 22)), (1, .int (nI (w))), (2, .int (nI (s))), (3, .int (nI (p)))]) [0, 1, 2, 3] rfl ?_
      exact g_cast (by first | rfl | (rw [hj]; done) | (rw [hj]; rfl)) rfl rfl kk
    · exact absurd h9_1 (by omega)
  | succ k ih =>
    intro p s hj kk
    refine g_iload_n K 3 dX6_supply_4 rfl ?_
    refine g_aload_n K 0 dX6_supply_5 rfl ?_
    refine g_getI (q := 22) (ci := 6) (k := 2) (N := 17) (C := RX6) (T := TX6) (ref := "ValveWalkModel") K rfl rfl rfl (by decide) hin6 (by decide +kernel) rfl dX6_supply_6 ?_
    refine g_icmp_ge (tgt := 40) (a := p) (b := S 22 2) K dX6_supply_9 (by decide) (by omega) (by omega) (fun h9_1 => ?_) (fun h9_1 => ?_)
    · exact absurd h9_1 (by omega)
    · refine g_iload_n K 2 dX6_supply_12 rfl ?_
      refine g_iload_n K 1 dX6_supply_13 rfl ?_
      refine g_iload_n K 3 dX6_supply_14 rfl ?_
      refine g_callSd (As := [.int (nI (p))]) (rest := [.int (nI (w)), .int (nI (s))]) K (cX6_partOf_k (g_z X) S p (by omega)) (va_cwS 1 K.1.2.2.2.2 gX6_supply_X6_partOf rfl rfl rfl (by decide +kernel) ⟨Nat.le_trans (Nat.le_of_ble_eq_true rfl) hRf, Nat.le_trans (Nat.le_of_ble_eq_true rfl) hRl⟩) rfl rfl (Nat.le_of_ble_eq_true rfl) dX6_supply_15 ?_
      refine g_iand (a := w) (b := 1 <<< (12 + p)) K dX6_supply_18 ?_
      have hL18_2 := @Nat.and_le_left (w) (1 <<< (12 + p))
      have hR18_3 := @Nat.and_le_right (w) (1 <<< (12 + p))
      refine g_if_eq (tgt := 31) (a := (w) &&& (1 <<< (12 + p))) K dX6_supply_19 (by decide) (by omega) (fun h19_4 => ?_) (fun h19_4 => ?_)
      · refine g_iconst K 0 dX6_supply_31 (by decide +kernel) ?_
        refine g_iadd (a := s) (b := 0) K dX6_supply_32 ?_
        refine g_istore_n (lo' := [(2, .int (nI ((s) + (0)))), (0, .ref (g_ad X 22)), (1, .int (nI (w))), (3, .int (nI (p)))]) K dX6_supply_33 (by decide) rfl ?_
        refine g_iinc (a := p) (b := p + 1) (lo' := [(3, .int (nI (p + 1))), (2, .int (nI ((s) + (0)))), (0, .ref (g_ad X 22)), (1, .int (nI (w)))]) K 3 dX6_supply_34 rfl (gi_inc _) (by decide) rfl ?_
        refine g_goto (tgt := 4) K dX6_supply_37 (by decide) ?_
        refine g_loc (lo' := [(0, .ref (g_ad X 22)), (1, .int (nI (w))), (2, .int (nI ((s) + (0)))), (3, .int (nI (p + 1)))]) [2, 3, 1, 0] rfl ?_
        exact ih (p + 1) ((s) + (0)) (by omega)  (by rw [gfor_succ, show (fSup S w) p s = (s) + (0) from by unfold fSup; first | rw [if_pos (by assumption)] | rw [if_neg (by assumption)]] at kk; exact kk)
      · refine g_aload_n K 0 dX6_supply_22 rfl ?_
        refine g_getR (q' := 26) (q := 22) (ci := 6) (k := 8) (N := 17) (C := RX6) (T := TX6) (ref := "ValveWalkModel") K rfl rfl rfl (by decide) hin6 (by decide +kernel) rfl dX6_supply_23 ?_
        refine g_iload_n K 3 dX6_supply_26 rfl ?_
        refine g_ald (q := 26) (n := 16) (i := p) K rfl (by decide) (by omega) dX6_supply_27 ?_
        have hv27_5 := b26 (p)
        refine g_goto (tgt := 32) K dX6_supply_28 (by decide) ?_
        refine g_iadd (a := s) (b := S 26 (p)) K dX6_supply_32 ?_
        refine g_istore_n (lo' := [(2, .int (nI ((s) + (S 26 (p))))), (0, .ref (g_ad X 22)), (1, .int (nI (w))), (3, .int (nI (p)))]) K dX6_supply_33 (by decide) rfl ?_
        refine g_iinc (a := p) (b := p + 1) (lo' := [(3, .int (nI (p + 1))), (2, .int (nI ((s) + (S 26 (p))))), (0, .ref (g_ad X 22)), (1, .int (nI (w)))]) K 3 dX6_supply_34 rfl (gi_inc _) (by decide) rfl ?_
        refine g_goto (tgt := 4) K dX6_supply_37 (by decide) ?_
        refine g_loc (lo' := [(0, .ref (g_ad X 22)), (1, .int (nI (w))), (2, .int (nI ((s) + (S 26 (p))))), (3, .int (nI (p + 1)))]) [2, 3, 1, 0] rfl ?_
        exact ih (p + 1) ((s) + (S 26 (p))) (by omega)  (by rw [gfor_succ, show (fSup S w) p s = (s) + (S 26 (p)) from by unfold fSup; first | rw [if_pos (by assumption)] | rw [if_neg (by assumption)]] at kk; exact kk)

set_option maxHeartbeats 4000000 in
set_option maxRecDepth 100000 in
theorem cX6_supply_k (Z : gZ) (S : Nat → Nat → Nat) (w : Nat) (hm : wfM S) (hw : w < 2147483648) : gMd Z yX6_supply wsX6_supply { frames := 1, cells := 0, slots := 0, locals := 20 } [.ref (gz_ad Z 22), .int (nI (w))] S (supplyM S w) (S) := by
  refine gMd_of (cc := cX6_supply) (maxL := 4) (ret := (some .int)) (by decide +kernel) rfl (Nat.le_of_ble_eq_true rfl) (Or.inl rfl) (fun X hZ hR K hret => ?_)
  subst hZ
  have K : gOk X cX6_supply 4 wsX6_supply RX6 := K
  have hRf : 1 ≤ (g_R X).frames := gR_f hR rfl
  have hRl : 20 ≤ (g_R X).locals := gR_l hR rfl
  have hin6 : ∀ w ∈ u_ws RX6 TX6 17, w ∈ wsX6_supply := by decide +kernel
  obtain ⟨m1, m2, m3, m4, msh, mst, b23, b24, b25, b26, b27⟩ := id hm
  show gG X 0 [(0, .ref (g_ad X 22)), (1, .int (nI (w)))] [] S
  refine g_iconst K 0 dX6_supply_0 (by decide +kernel) ?_
  refine g_istore_n (lo' := [(2, .int (nI (0))), (0, .ref (g_ad X 22)), (1, .int (nI (w)))]) K dX6_supply_1 (by decide) rfl ?_
  refine g_iconst K 0 dX6_supply_2 (by decide +kernel) ?_
  refine g_istore_n (lo' := [(3, .int (nI (0))), (2, .int (nI (0))), (0, .ref (g_ad X 22)), (1, .int (nI (w)))]) K dX6_supply_3 (by decide) rfl ?_
  refine g_loc (lo' := [(0, .ref (g_ad X 22)), (1, .int (nI (w))), (2, .int (nI (0))), (3, .int (nI (0)))]) [2, 3, 1, 0] rfl ?_
  refine L_sup X S w K (Nat.le_trans (Nat.le_of_ble_eq_true rfl) hRf) (Nat.le_trans (Nat.le_of_ble_eq_true rfl) hRl) (hm) (hw)  (S 22 2) 0 0 (by omega)  ?_
  refine g_iload_n K 2 dX6_supply_40 rfl ?_
  exact g_retd hret dX6_supply_41 rfl rfl

set_option maxHeartbeats 4000000 in
set_option maxRecDepth 100000 in
theorem cX6_isNodeDry_k (Z : gZ) (S : Nat → Nat → Nat) (n : Nat) (hm : wfM S) (hun : n < 4294967296) (hn : n < S 22 1) : gMd Z yX6_isNodeDry wsX6_isNodeDry { frames := 3, cells := 0, slots := 0, locals := 73 } [.ref (gz_ad Z 22), .int (nI (n))] S (dryM S (1 <<< n)) (va_up S 22 (va_up (S 22) 0 (0))) := by
  refine gMd_of (cc := cX6_isNodeDry) (maxL := 2) (ret := (some .boolean)) (by decide +kernel) rfl (Nat.le_of_ble_eq_true rfl) (Or.inr ⟨rfl, dryM_le _ _⟩) (fun X hZ hR K hret => ?_)
  subst hZ
  have K : gOk X cX6_isNodeDry 2 wsX6_isNodeDry RX6 := K
  have hRf : 3 ≤ (g_R X).frames := gR_f hR rfl
  have hRl : 73 ≤ (g_R X).locals := gR_l hR rfl
  obtain ⟨m1, m2, m3, m4, msh, mst, b23, b24, b25, b26, b27⟩ := id hm
  show gG X 0 [(0, .ref (g_ad X 22)), (1, .int (nI (n)))] [] S
  refine g_aload_n K 0 dX6_isNodeDry_0 rfl ?_
  refine g_aload_n K 0 dX6_isNodeDry_1 rfl ?_
  refine g_iload_n K 1 dX6_isNodeDry_2 rfl ?_
  refine g_callVd (q := 22) (ci := 6) (As := [.int (nI (n))]) (rest := [.ref (g_ad X 22)]) (C := RX6) (T := TX6) (N := 17) K (cX6_isNode_k (g_z X) S n (hm) (by omega)) (cwV 1 K.1.2.2.2.2 gX6_isNodeDry_X6_isNode rfl rfl rfl (by decide +kernel) ⟨Nat.le_trans (Nat.le_of_ble_eq_true rfl) hRf, Nat.le_trans (Nat.le_of_ble_eq_true rfl) hRl⟩) rfl rfl rfl rfl (Nat.le_of_ble_eq_true rfl) dX6_isNodeDry_3 ?_
  have hf3_1 := isN_spec (S 22 1) n
  refine g_if_eq (tgt := 13) (a := isN (S 22 1) n) K dX6_isNodeDry_6 (by decide) (by omega) (fun h6_2 => ?_) (fun h6_2 => ?_)
  · refine g_iconst K 1 dX6_isNodeDry_13 (by decide +kernel) ?_
    refine g_callVd (q := 22) (ci := 6) (As := [.int (nI (1))]) (rest := []) (C := RX6) (T := TX6) (N := 17) K (cX6_refused_k (g_z X) S 1 (by omega)) (cwV 1 K.1.2.2.2.2 gX6_isNodeDry_X6_refused rfl rfl rfl (by decide +kernel) ⟨Nat.le_trans (Nat.le_of_ble_eq_true rfl) hRf, Nat.le_trans (Nat.le_of_ble_eq_true rfl) hRl⟩) rfl rfl rfl rfl (Nat.le_of_ble_eq_true rfl) dX6_isNodeDry_14 ?_
    refine g_cast (S' := (va_up S 22 (va_up (S 22) 0 (1)))) rfl rfl rfl ?_
    refine g_if_ne (tgt := 36) (a := 1) K dX6_isNodeDry_17 (by decide) (by omega) (fun h17_3 => ?_) (fun h17_3 => absurd h17_3 (by omega))
    refine g_iconst K 0 dX6_isNodeDry_36 (by decide +kernel) ?_
    exfalso; omega
  · refine g_iconst K 0 dX6_isNodeDry_9 (by decide +kernel) ?_
    refine g_goto (tgt := 14) K dX6_isNodeDry_10 (by decide) ?_
    refine g_callVd (q := 22) (ci := 6) (As := [.int (nI (0))]) (rest := []) (C := RX6) (T := TX6) (N := 17) K (cX6_refused_k (g_z X) S 0 (by omega)) (cwV 1 K.1.2.2.2.2 gX6_isNodeDry_X6_refused rfl rfl rfl (by decide +kernel) ⟨Nat.le_trans (Nat.le_of_ble_eq_true rfl) hRf, Nat.le_trans (Nat.le_of_ble_eq_true rfl) hRl⟩) rfl rfl rfl rfl (Nat.le_of_ble_eq_true rfl) dX6_isNodeDry_14 ?_
    refine g_cast (S' := (va_up S 22 (va_up (S 22) 0 (0)))) rfl rfl rfl ?_
    refine g_if_ne (tgt := 36) (a := 0) K dX6_isNodeDry_17 (by decide) (by omega) (fun h17_4 => absurd h17_4 (by omega)) (fun h17_4 => ?_)
    refine g_aload_n K 0 dX6_isNodeDry_20 rfl ?_
    refine g_iconst K 0 dX6_isNodeDry_21 (by decide +kernel) ?_
    refine g_callVd (q := 22) (ci := 6) (As := [.int (nI (0))]) (rest := []) (C := RX6) (T := TX6) (N := 17) K (cX6_wet_k (g_z X) (va_up S 22 (va_up (S 22) 0 (0))) 0 ((wfM_r hm)) (by omega)) (cwV 1 K.1.2.2.2.2 gX6_isNodeDry_X6_wet rfl rfl rfl (by decide +kernel) ⟨Nat.le_trans (Nat.le_of_ble_eq_true rfl) hRf, Nat.le_trans (Nat.le_of_ble_eq_true rfl) hRl⟩) rfl rfl rfl rfl (Nat.le_of_ble_eq_true rfl) dX6_isNodeDry_22 ?_
    refine g_topE (wetM S 0) (by first | (rw [wetM_r]; done) | (rw [wetM_r]; rfl)) ?_
    have hwl := wetM_lt hm 0
    refine g_iconst K 1 dX6_isNodeDry_25 (by decide +kernel) ?_
    refine g_iload_n K 1 dX6_isNodeDry_26 rfl ?_
    refine g_ishl (a := 1) (b := n) K (by omega) dX6_isNodeDry_27 ?_
    refine g_iand (a := wetM S 0) (b := (1) <<< (n)) K dX6_isNodeDry_28 ?_
    have hL28_5 := @Nat.and_le_left (wetM S 0) ((1) <<< (n))
    have hR28_6 := @Nat.and_le_right (wetM S 0) ((1) <<< (n))
    refine g_if_ne (tgt := 36) (a := (wetM S 0) &&& ((1) <<< (n))) K dX6_isNodeDry_29 (by decide) (by omega) (fun h29_7 => ?_) (fun h29_7 => ?_)
    · refine g_iconst K 0 dX6_isNodeDry_36 (by decide +kernel) ?_
      exact g_retd hret dX6_isNodeDry_37 (if_neg (by assumption)).symm rfl
    · refine g_iconst K 1 dX6_isNodeDry_32 (by decide +kernel) ?_
      refine g_goto (tgt := 37) K dX6_isNodeDry_33 (by decide) ?_
      exact g_retd hret dX6_isNodeDry_37 (if_pos (by assumption)).symm rfl

set_option maxHeartbeats 4000000 in
set_option maxRecDepth 100000 in
theorem cX6_isPipeDry_k (Z : gZ) (S : Nat → Nat → Nat) (p : Nat) (hm : wfM S) (hup : p < 4294967296) (hp : p < S 22 2) : gMd Z yX6_isPipeDry wsX6_isPipeDry { frames := 3, cells := 0, slots := 0, locals := 73 } [.ref (gz_ad Z 22), .int (nI (p))] S (dryM S (1 <<< (12 + p))) (va_up S 22 (va_up (S 22) 0 (0))) := by
  refine gMd_of (cc := cX6_isPipeDry) (maxL := 2) (ret := (some .boolean)) (by decide +kernel) rfl (Nat.le_of_ble_eq_true rfl) (Or.inr ⟨rfl, dryM_le _ _⟩) (fun X hZ hR K hret => ?_)
  subst hZ
  have K : gOk X cX6_isPipeDry 2 wsX6_isPipeDry RX6 := K
  have hRf : 3 ≤ (g_R X).frames := gR_f hR rfl
  have hRl : 73 ≤ (g_R X).locals := gR_l hR rfl
  obtain ⟨m1, m2, m3, m4, msh, mst, b23, b24, b25, b26, b27⟩ := id hm
  show gG X 0 [(0, .ref (g_ad X 22)), (1, .int (nI (p)))] [] S
  refine g_aload_n K 0 dX6_isPipeDry_0 rfl ?_
  refine g_aload_n K 0 dX6_isPipeDry_1 rfl ?_
  refine g_iload_n K 1 dX6_isPipeDry_2 rfl ?_
  refine g_callVd (q := 22) (ci := 6) (As := [.int (nI (p))]) (rest := [.ref (g_ad X 22)]) (C := RX6) (T := TX6) (N := 17) K (cX6_isPipe_k (g_z X) S p (hm) (by omega)) (cwV 1 K.1.2.2.2.2 gX6_isPipeDry_X6_isPipe rfl rfl rfl (by decide +kernel) ⟨Nat.le_trans (Nat.le_of_ble_eq_true rfl) hRf, Nat.le_trans (Nat.le_of_ble_eq_true rfl) hRl⟩) rfl rfl rfl rfl (Nat.le_of_ble_eq_true rfl) dX6_isPipeDry_3 ?_
  have hf3_1 := isN_spec (S 22 2) p
  refine g_if_eq (tgt := 13) (a := isN (S 22 2) p) K dX6_isPipeDry_6 (by decide) (by omega) (fun h6_2 => ?_) (fun h6_2 => ?_)
  · refine g_iconst K 1 dX6_isPipeDry_13 (by decide +kernel) ?_
    refine g_callVd (q := 22) (ci := 6) (As := [.int (nI (1))]) (rest := []) (C := RX6) (T := TX6) (N := 17) K (cX6_refused_k (g_z X) S 1 (by omega)) (cwV 1 K.1.2.2.2.2 gX6_isPipeDry_X6_refused rfl rfl rfl (by decide +kernel) ⟨Nat.le_trans (Nat.le_of_ble_eq_true rfl) hRf, Nat.le_trans (Nat.le_of_ble_eq_true rfl) hRl⟩) rfl rfl rfl rfl (Nat.le_of_ble_eq_true rfl) dX6_isPipeDry_14 ?_
    refine g_cast (S' := (va_up S 22 (va_up (S 22) 0 (1)))) rfl rfl rfl ?_
    refine g_if_ne (tgt := 37) (a := 1) K dX6_isPipeDry_17 (by decide) (by omega) (fun h17_3 => ?_) (fun h17_3 => absurd h17_3 (by omega))
    refine g_iconst K 0 dX6_isPipeDry_37 (by decide +kernel) ?_
    exfalso; omega
  · refine g_iconst K 0 dX6_isPipeDry_9 (by decide +kernel) ?_
    refine g_goto (tgt := 14) K dX6_isPipeDry_10 (by decide) ?_
    refine g_callVd (q := 22) (ci := 6) (As := [.int (nI (0))]) (rest := []) (C := RX6) (T := TX6) (N := 17) K (cX6_refused_k (g_z X) S 0 (by omega)) (cwV 1 K.1.2.2.2.2 gX6_isPipeDry_X6_refused rfl rfl rfl (by decide +kernel) ⟨Nat.le_trans (Nat.le_of_ble_eq_true rfl) hRf, Nat.le_trans (Nat.le_of_ble_eq_true rfl) hRl⟩) rfl rfl rfl rfl (Nat.le_of_ble_eq_true rfl) dX6_isPipeDry_14 ?_
    refine g_cast (S' := (va_up S 22 (va_up (S 22) 0 (0)))) rfl rfl rfl ?_
    refine g_if_ne (tgt := 37) (a := 0) K dX6_isPipeDry_17 (by decide) (by omega) (fun h17_4 => absurd h17_4 (by omega)) (fun h17_4 => ?_)
    refine g_aload_n K 0 dX6_isPipeDry_20 rfl ?_
    refine g_iconst K 0 dX6_isPipeDry_21 (by decide +kernel) ?_
    refine g_callVd (q := 22) (ci := 6) (As := [.int (nI (0))]) (rest := []) (C := RX6) (T := TX6) (N := 17) K (cX6_wet_k (g_z X) (va_up S 22 (va_up (S 22) 0 (0))) 0 ((wfM_r hm)) (by omega)) (cwV 1 K.1.2.2.2.2 gX6_isPipeDry_X6_wet rfl rfl rfl (by decide +kernel) ⟨Nat.le_trans (Nat.le_of_ble_eq_true rfl) hRf, Nat.le_trans (Nat.le_of_ble_eq_true rfl) hRl⟩) rfl rfl rfl rfl (Nat.le_of_ble_eq_true rfl) dX6_isPipeDry_22 ?_
    refine g_topE (wetM S 0) (by first | (rw [wetM_r]; done) | (rw [wetM_r]; rfl)) ?_
    have hwl := wetM_lt hm 0
    refine g_iload_n K 1 dX6_isPipeDry_25 rfl ?_
    refine g_callSd (As := [.int (nI (p))]) (rest := [.int (nI (wetM S 0))]) K (cX6_partOf_k (g_z X) (va_up S 22 (va_up (S 22) 0 (0))) p (by omega)) (va_cwS 1 K.1.2.2.2.2 gX6_isPipeDry_X6_partOf rfl rfl rfl (by decide +kernel) ⟨Nat.le_trans (Nat.le_of_ble_eq_true rfl) hRf, Nat.le_trans (Nat.le_of_ble_eq_true rfl) hRl⟩) rfl rfl (Nat.le_of_ble_eq_true rfl) dX6_isPipeDry_26 ?_
    refine g_iand (a := wetM S 0) (b := 1 <<< (12 + p)) K dX6_isPipeDry_29 ?_
    have hL29_5 := @Nat.and_le_left (wetM S 0) (1 <<< (12 + p))
    have hR29_6 := @Nat.and_le_right (wetM S 0) (1 <<< (12 + p))
    refine g_if_ne (tgt := 37) (a := (wetM S 0) &&& (1 <<< (12 + p))) K dX6_isPipeDry_30 (by decide) (by omega) (fun h30_7 => ?_) (fun h30_7 => ?_)
    · refine g_iconst K 0 dX6_isPipeDry_37 (by decide +kernel) ?_
      exact g_retd hret dX6_isPipeDry_38 (if_neg (by assumption)).symm rfl
    · refine g_iconst K 1 dX6_isPipeDry_33 (by decide +kernel) ?_
      refine g_goto (tgt := 38) K dX6_isPipeDry_34 (by decide) ?_
      exact g_retd hret dX6_isPipeDry_38 (if_pos (by assumption)).symm rfl

set_option maxHeartbeats 4000000 in
set_option maxRecDepth 100000 in
theorem cX6_isNodeDry_r1 (Z : gZ) (S : Nat → Nat → Nat) (n : Nat) (hm : wfM S) (hun : n < 4294967296) (hn : S 22 1 ≤ n) : gMd Z yX6_isNodeDry wsX6_isNodeDry { frames := 2, cells := 0, slots := 0, locals := 43 } [.ref (gz_ad Z 22), .int (nI (n))] S (0) (va_up S 22 (va_up (S 22) 0 (1))) := by
  refine gMd_of (cc := cX6_isNodeDry) (maxL := 2) (ret := (some .boolean)) (by decide +kernel) rfl (Nat.le_of_ble_eq_true rfl) (Or.inr ⟨rfl, by decide⟩) (fun X hZ hR K hret => ?_)
  subst hZ
  have K : gOk X cX6_isNodeDry 2 wsX6_isNodeDry RX6 := K
  have hRf : 2 ≤ (g_R X).frames := gR_f hR rfl
  have hRl : 43 ≤ (g_R X).locals := gR_l hR rfl
  obtain ⟨m1, m2, m3, m4, msh, mst, b23, b24, b25, b26, b27⟩ := id hm
  show gG X 0 [(0, .ref (g_ad X 22)), (1, .int (nI (n)))] [] S
  refine g_aload_n K 0 dX6_isNodeDry_0 rfl ?_
  refine g_aload_n K 0 dX6_isNodeDry_1 rfl ?_
  refine g_iload_n K 1 dX6_isNodeDry_2 rfl ?_
  refine g_callVd (q := 22) (ci := 6) (As := [.int (nI (n))]) (rest := [.ref (g_ad X 22)]) (C := RX6) (T := TX6) (N := 17) K (cX6_isNode_k (g_z X) S n (hm) (by omega)) (cwV 1 K.1.2.2.2.2 gX6_isNodeDry_X6_isNode rfl rfl rfl (by decide +kernel) ⟨Nat.le_trans (Nat.le_of_ble_eq_true rfl) hRf, Nat.le_trans (Nat.le_of_ble_eq_true rfl) hRl⟩) rfl rfl rfl rfl (Nat.le_of_ble_eq_true rfl) dX6_isNodeDry_3 ?_
  have hf3_1 := isN_spec (S 22 1) n
  refine g_if_eq (tgt := 13) (a := isN (S 22 1) n) K dX6_isNodeDry_6 (by decide) (by omega) (fun h6_2 => ?_) (fun h6_2 => ?_)
  · refine g_iconst K 1 dX6_isNodeDry_13 (by decide +kernel) ?_
    refine g_callVd (q := 22) (ci := 6) (As := [.int (nI (1))]) (rest := []) (C := RX6) (T := TX6) (N := 17) K (cX6_refused_k (g_z X) S 1 (by omega)) (cwV 1 K.1.2.2.2.2 gX6_isNodeDry_X6_refused rfl rfl rfl (by decide +kernel) ⟨Nat.le_trans (Nat.le_of_ble_eq_true rfl) hRf, Nat.le_trans (Nat.le_of_ble_eq_true rfl) hRl⟩) rfl rfl rfl rfl (Nat.le_of_ble_eq_true rfl) dX6_isNodeDry_14 ?_
    refine g_cast (S' := (va_up S 22 (va_up (S 22) 0 (1)))) rfl rfl rfl ?_
    refine g_if_ne (tgt := 36) (a := 1) K dX6_isNodeDry_17 (by decide) (by omega) (fun h17_3 => ?_) (fun h17_3 => absurd h17_3 (by omega))
    refine g_iconst K 0 dX6_isNodeDry_36 (by decide +kernel) ?_
    exact g_retd hret dX6_isNodeDry_37 rfl rfl
  · refine g_iconst K 0 dX6_isNodeDry_9 (by decide +kernel) ?_
    refine g_goto (tgt := 14) K dX6_isNodeDry_10 (by decide) ?_
    refine g_callVd (q := 22) (ci := 6) (As := [.int (nI (0))]) (rest := []) (C := RX6) (T := TX6) (N := 17) K (cX6_refused_k (g_z X) S 0 (by omega)) (cwV 1 K.1.2.2.2.2 gX6_isNodeDry_X6_refused rfl rfl rfl (by decide +kernel) ⟨Nat.le_trans (Nat.le_of_ble_eq_true rfl) hRf, Nat.le_trans (Nat.le_of_ble_eq_true rfl) hRl⟩) rfl rfl rfl rfl (Nat.le_of_ble_eq_true rfl) dX6_isNodeDry_14 ?_
    refine g_cast (S' := (va_up S 22 (va_up (S 22) 0 (0)))) rfl rfl rfl ?_
    refine g_if_ne (tgt := 36) (a := 0) K dX6_isNodeDry_17 (by decide) (by omega) (fun h17_4 => absurd h17_4 (by omega)) (fun h17_4 => ?_)
    exfalso; omega

set_option maxHeartbeats 4000000 in
set_option maxRecDepth 100000 in
theorem cX6_isPipeDry_r1 (Z : gZ) (S : Nat → Nat → Nat) (p : Nat) (hm : wfM S) (hup : p < 4294967296) (hn : S 22 2 ≤ p) : gMd Z yX6_isPipeDry wsX6_isPipeDry { frames := 2, cells := 0, slots := 0, locals := 43 } [.ref (gz_ad Z 22), .int (nI (p))] S (0) (va_up S 22 (va_up (S 22) 0 (1))) := by
  refine gMd_of (cc := cX6_isPipeDry) (maxL := 2) (ret := (some .boolean)) (by decide +kernel) rfl (Nat.le_of_ble_eq_true rfl) (Or.inr ⟨rfl, by decide⟩) (fun X hZ hR K hret => ?_)
  subst hZ
  have K : gOk X cX6_isPipeDry 2 wsX6_isPipeDry RX6 := K
  have hRf : 2 ≤ (g_R X).frames := gR_f hR rfl
  have hRl : 43 ≤ (g_R X).locals := gR_l hR rfl
  obtain ⟨m1, m2, m3, m4, msh, mst, b23, b24, b25, b26, b27⟩ := id hm
  show gG X 0 [(0, .ref (g_ad X 22)), (1, .int (nI (p)))] [] S
  refine g_aload_n K 0 dX6_isPipeDry_0 rfl ?_
  refine g_aload_n K 0 dX6_isPipeDry_1 rfl ?_
  refine g_iload_n K 1 dX6_isPipeDry_2 rfl ?_
  refine g_callVd (q := 22) (ci := 6) (As := [.int (nI (p))]) (rest := [.ref (g_ad X 22)]) (C := RX6) (T := TX6) (N := 17) K (cX6_isPipe_k (g_z X) S p (hm) (by omega)) (cwV 1 K.1.2.2.2.2 gX6_isPipeDry_X6_isPipe rfl rfl rfl (by decide +kernel) ⟨Nat.le_trans (Nat.le_of_ble_eq_true rfl) hRf, Nat.le_trans (Nat.le_of_ble_eq_true rfl) hRl⟩) rfl rfl rfl rfl (Nat.le_of_ble_eq_true rfl) dX6_isPipeDry_3 ?_
  have hf3_1 := isN_spec (S 22 2) p
  refine g_if_eq (tgt := 13) (a := isN (S 22 2) p) K dX6_isPipeDry_6 (by decide) (by omega) (fun h6_2 => ?_) (fun h6_2 => ?_)
  · refine g_iconst K 1 dX6_isPipeDry_13 (by decide +kernel) ?_
    refine g_callVd (q := 22) (ci := 6) (As := [.int (nI (1))]) (rest := []) (C := RX6) (T := TX6) (N := 17) K (cX6_refused_k (g_z X) S 1 (by omega)) (cwV 1 K.1.2.2.2.2 gX6_isPipeDry_X6_refused rfl rfl rfl (by decide +kernel) ⟨Nat.le_trans (Nat.le_of_ble_eq_true rfl) hRf, Nat.le_trans (Nat.le_of_ble_eq_true rfl) hRl⟩) rfl rfl rfl rfl (Nat.le_of_ble_eq_true rfl) dX6_isPipeDry_14 ?_
    refine g_cast (S' := (va_up S 22 (va_up (S 22) 0 (1)))) rfl rfl rfl ?_
    refine g_if_ne (tgt := 37) (a := 1) K dX6_isPipeDry_17 (by decide) (by omega) (fun h17_3 => ?_) (fun h17_3 => absurd h17_3 (by omega))
    refine g_iconst K 0 dX6_isPipeDry_37 (by decide +kernel) ?_
    exact g_retd hret dX6_isPipeDry_38 rfl rfl
  · refine g_iconst K 0 dX6_isPipeDry_9 (by decide +kernel) ?_
    refine g_goto (tgt := 14) K dX6_isPipeDry_10 (by decide) ?_
    refine g_callVd (q := 22) (ci := 6) (As := [.int (nI (0))]) (rest := []) (C := RX6) (T := TX6) (N := 17) K (cX6_refused_k (g_z X) S 0 (by omega)) (cwV 1 K.1.2.2.2.2 gX6_isPipeDry_X6_refused rfl rfl rfl (by decide +kernel) ⟨Nat.le_trans (Nat.le_of_ble_eq_true rfl) hRf, Nat.le_trans (Nat.le_of_ble_eq_true rfl) hRl⟩) rfl rfl rfl rfl (Nat.le_of_ble_eq_true rfl) dX6_isPipeDry_14 ?_
    refine g_cast (S' := (va_up S 22 (va_up (S 22) 0 (0)))) rfl rfl rfl ?_
    refine g_if_ne (tgt := 37) (a := 0) K dX6_isPipeDry_17 (by decide) (by omega) (fun h17_4 => absurd h17_4 (by omega)) (fun h17_4 => ?_)
    exfalso; omega

set_option maxHeartbeats 4000000 in
set_option maxRecDepth 100000 in
theorem cX6_supplied_k (Z : gZ) (S : Nat → Nat → Nat) (hm : wfM S) : gMd Z yX6_supplied wsX6_supplied { frames := 3, cells := 0, slots := 0, locals := 73 } [.ref (gz_ad Z 22)] S (supplyM S (wetM S 0)) (va_up S 22 (va_up (S 22) 0 (0))) := by
  refine gMd_of (cc := cX6_supplied) (maxL := 1) (ret := (some .int)) (by decide +kernel) rfl (Nat.le_of_ble_eq_true rfl) (Or.inl rfl) (fun X hZ hR K hret => ?_)
  subst hZ
  have K : gOk X cX6_supplied 1 wsX6_supplied RX6 := K
  have hRf : 3 ≤ (g_R X).frames := gR_f hR rfl
  have hRl : 73 ≤ (g_R X).locals := gR_l hR rfl
  obtain ⟨m1, m2, m3, m4, msh, mst, b23, b24, b25, b26, b27⟩ := id hm
  show gG X 0 [(0, .ref (g_ad X 22))] [] S
  refine g_aload_n K 0 dX6_supplied_0 rfl ?_
  refine g_aload_n K 0 dX6_supplied_1 rfl ?_
  refine g_aload_n K 0 dX6_supplied_2 rfl ?_
  refine g_iconst K 0 dX6_supplied_3 (by decide +kernel) ?_
  refine g_callVd (q := 22) (ci := 6) (As := [.int (nI (0))]) (rest := [.ref (g_ad X 22), .ref (g_ad X 22)]) (C := RX6) (T := TX6) (N := 17) K (cX6_wet_k (g_z X) S 0 (hm) (by omega)) (cwV 1 K.1.2.2.2.2 gX6_supplied_X6_wet rfl rfl rfl (by decide +kernel) ⟨Nat.le_trans (Nat.le_of_ble_eq_true rfl) hRf, Nat.le_trans (Nat.le_of_ble_eq_true rfl) hRl⟩) rfl rfl rfl rfl (Nat.le_of_ble_eq_true rfl) dX6_supplied_4 ?_
  have hwl := wetM_lt hm 0
  refine g_callVd (q := 22) (ci := 6) (As := [.int (nI (wetM S 0))]) (rest := [.ref (g_ad X 22)]) (C := RX6) (T := TX6) (N := 17) K (cX6_supply_k (g_z X) S (wetM S 0) (hm) (by omega)) (cwV 1 K.1.2.2.2.2 gX6_supplied_X6_supply rfl rfl rfl (by decide +kernel) ⟨Nat.le_trans (Nat.le_of_ble_eq_true rfl) hRf, Nat.le_trans (Nat.le_of_ble_eq_true rfl) hRl⟩) rfl rfl rfl rfl (Nat.le_of_ble_eq_true rfl) dX6_supplied_7 ?_
  have hsl := supplyM_le hm (wetM S 0)
  refine g_callVd (q := 22) (ci := 6) (As := [.int (nI (supplyM S (wetM S 0)))]) (rest := []) (C := RX6) (T := TX6) (N := 17) K (cX6_fine_k (g_z X) S (supplyM S (wetM S 0))) (cwV 1 K.1.2.2.2.2 gX6_supplied_X6_fine rfl rfl rfl (by decide +kernel) ⟨Nat.le_trans (Nat.le_of_ble_eq_true rfl) hRf, Nat.le_trans (Nat.le_of_ble_eq_true rfl) hRl⟩) rfl rfl rfl rfl (Nat.le_of_ble_eq_true rfl) dX6_supplied_10 ?_
  refine g_cast (S' := (va_up S 22 (va_up (S 22) 0 (0)))) rfl rfl rfl ?_
  exact g_retd hret dX6_supplied_13 rfl rfl

def segGo (S : Nat → Nat → Nat) (part : Nat) : Nat → Nat → Nat → Nat → Nat
  | 0, _, _, n => n
  | c + 1, k, seen, n => if k < S 22 1 ∨ 12 ≤ k then (if (seen >>> k) &&& 1 = 0 then (if spread S (1 <<< k) 1 0 &&& part = 0 then segGo S part c (k + 1) (seen ||| spread S (1 <<< k) 1 0) (n + 1) else n) else segGo S part c (k + 1) seen n) else segGo S part c (k + 1) seen n
theorem segGo_a {S : Nat → Nat → Nat} {part c k seen n : Nat} (h : ¬ (k < S 22 1 ∨ 12 ≤ k)) : segGo S part (c + 1) k seen n = segGo S part c (k + 1) seen n := by rw [segGo, if_neg h]
theorem segGo_b {S : Nat → Nat → Nat} {part c k seen n : Nat} (h : k < S 22 1 ∨ 12 ≤ k) (h2 : (seen >>> k) &&& 1 ≠ 0) : segGo S part (c + 1) k seen n = segGo S part c (k + 1) seen n := by rw [segGo, if_pos h, if_neg h2]
theorem segGo_c {S : Nat → Nat → Nat} {part c k seen n : Nat} (h : k < S 22 1 ∨ 12 ≤ k) (h2 : (seen >>> k) &&& 1 = 0) (h3 : spread S (1 <<< k) 1 0 &&& part = 0) : segGo S part (c + 1) k seen n = segGo S part c (k + 1) (seen ||| spread S (1 <<< k) 1 0) (n + 1) := by rw [segGo, if_pos h, if_pos h2, if_pos h3]
theorem segGo_d {S : Nat → Nat → Nat} {part c k seen n : Nat} (h : k < S 22 1 ∨ 12 ≤ k) (h2 : (seen >>> k) &&& 1 = 0) (h3 : spread S (1 <<< k) 1 0 &&& part ≠ 0) : segGo S part (c + 1) k seen n = n := by rw [segGo, if_pos h, if_pos h2, if_neg h3]
def segM (S : Nat → Nat → Nat) (part : Nat) : Nat := segGo S part (12 + S 22 2) 0 0 0
theorem segGo_r {S : Nat → Nat → Nat} {z : Nat} (part : Nat) : ∀ (c k seen n : Nat), segGo (va_up S 22 (va_up (S 22) 0 z)) part c k seen n = segGo S part c k seen n
  | 0, _, _, _ => rfl
  | c + 1, k, seen, n => by
    simp only [segGo, spread_r, segGo_r part c]
    rfl
theorem segM_r {S : Nat → Nat → Nat} {z : Nat} (part : Nat) : segM (va_up S 22 (va_up (S 22) 0 z)) part = segM S part := segGo_r part _ 0 0 0
set_option maxHeartbeats 4000000 in
set_option maxRecDepth 100000 in
theorem L_seg (X : gC) (S : Nat → Nat → Nat) (part : Nat) (K : gOk X cX6_segmentOf 7 wsX6_segmentOf RX6) (hRf : 2 ≤ (g_R X).frames) (hRl : 52 ≤ (g_R X).locals) (hm : wfM S) (hpt : part < 2147483648) : ∀ (c k seen n : Nat), k + c = 12 + S 22 2 → seen < 268435456 → (∀ (pc : Nat) (lo : List (Nat × Value)), decode cX6_segmentOf pc = .ok (.ireturn, 1) → gG X pc lo [.int (nI (segGo S part c k seen n))] S) → gG X 7 [(0, .ref (g_ad X 22)), (1, .int (nI (part))), (2, .int (nI (seen))), (3, .int (nI (n))), (4, .int (nI (k)))] [] S := by
  have hin6 : ∀ w ∈ u_ws RX6 TX6 17, w ∈ wsX6_segmentOf := by decide +kernel
  obtain ⟨m1, m2, m3, m4, msh, mst, b23, b24, b25, b26, b27⟩ := id hm
  intro c
  induction c with
  | zero =>
    intro k seen n hj hs hret
    refine g_iload K 4 dX6_segmentOf_7 rfl ?_
    refine g_bipush K 12 dX6_segmentOf_9 (by decide +kernel) ?_
    refine g_aload_n K 0 dX6_segmentOf_11 rfl ?_
    refine g_getI (q := 22) (ci := 6) (k := 2) (N := 17) (C := RX6) (T := TX6) (ref := "ValveWalkModel") K rfl rfl rfl (by decide) hin6 (by decide +kernel) rfl dX6_segmentOf_12 ?_
    refine g_iadd (a := 12) (b := S 22 2) K dX6_segmentOf_15 ?_
    refine g_icmp_ge (tgt := 91) (a := k) (b := (12) + (S 22 2)) K dX6_segmentOf_16 (by decide) (by omega) (by omega) (fun h16_1 => ?_) (fun h16_1 => ?_)
    · refine g_iload_n K 3 dX6_segmentOf_91 rfl ?_
      exact g_retd hret dX6_segmentOf_92 rfl rfl
    · exact absurd h16_1 (by omega)
  | succ c ih =>
    intro k seen n hj hs hret
    refine g_iload K 4 dX6_segmentOf_7 rfl ?_
    refine g_bipush K 12 dX6_segmentOf_9 (by decide +kernel) ?_
    refine g_aload_n K 0 dX6_segmentOf_11 rfl ?_
    refine g_getI (q := 22) (ci := 6) (k := 2) (N := 17) (C := RX6) (T := TX6) (ref := "ValveWalkModel") K rfl rfl rfl (by decide) hin6 (by decide +kernel) rfl dX6_segmentOf_12 ?_
    refine g_iadd (a := 12) (b := S 22 2) K dX6_segmentOf_15 ?_
    refine g_icmp_ge (tgt := 91) (a := k) (b := (12) + (S 22 2)) K dX6_segmentOf_16 (by decide) (by omega) (by omega) (fun h16_1 => ?_) (fun h16_1 => ?_)
    · exact absurd h16_1 (by omega)
    · have hk28 : k < 28 := by omega
      have hk2 : 1 <<< k < 268435456 := Nat.lt_of_lt_of_le (shl1 hk28) (by decide)
      refine g_iload K 4 dX6_segmentOf_19 rfl ?_
      refine g_aload_n K 0 dX6_segmentOf_21 rfl ?_
      refine g_getI (q := 22) (ci := 6) (k := 1) (N := 17) (C := RX6) (T := TX6) (ref := "ValveWalkModel") K rfl rfl rfl (by decide) hin6 (by decide +kernel) rfl dX6_segmentOf_22 ?_
      refine g_icmp_lt (tgt := 35) (a := k) (b := S 22 1) K dX6_segmentOf_25 (by decide) (by omega) (by omega) (fun h25_2 => ?_) (fun h25_2 => ?_)
      · refine g_iconst K 1 dX6_segmentOf_35 (by decide +kernel) ?_
        refine g_goto (tgt := 40) K dX6_segmentOf_36 (by decide) ?_
        refine g_istore (lo' := [(5, .int (nI (1))), (0, .ref (g_ad X 22)), (1, .int (nI (part))), (2, .int (nI (seen))), (3, .int (nI (n))), (4, .int (nI (k)))]) K dX6_segmentOf_40 (by decide) rfl ?_
        refine g_iload K 0 dX6_segmentOf_42 rfl ?_
        refine g_if_eq (tgt := 85) (a := 1) K dX6_segmentOf_44 (by decide) (by omega) (fun h44_3 => absurd h44_3 (by omega)) (fun h44_3 => ?_)
        refine g_iload_n K 3 dX6_segmentOf_47 rfl ?_
        refine g_iload K 5 dX6_segmentOf_48 rfl ?_
        refine g_ishr (a := seen) (b := k) K (by omega) (by omega) dX6_segmentOf_50 ?_
        refine g_iconst K 1 dX6_segmentOf_51 (by decide +kernel) ?_
        refine g_iand (a := (seen) >>> (k)) (b := 1) K dX6_segmentOf_52 ?_
        have hL52_4 := @Nat.and_le_left ((seen) >>> (k)) (1)
        have hR52_5 := @Nat.and_le_right ((seen) >>> (k)) (1)
        refine g_if_ne (tgt := 85) (a := ((seen) >>> (k)) &&& (1)) K dX6_segmentOf_53 (by decide) (by omega) (fun h53_6 => ?_) (fun h53_6 => ?_)
        · refine g_iinc (a := k) (b := k + 1) (lo' := [(4, .int (nI (k + 1))), (5, .int (nI (1))), (0, .ref (g_ad X 22)), (1, .int (nI (part))), (2, .int (nI (seen))), (3, .int (nI (n)))]) K 5 dX6_segmentOf_85 rfl (gi_inc _) (by decide) rfl ?_
          refine g_goto (tgt := 7) K dX6_segmentOf_88 (by decide) ?_
          refine g_loc (lo' := [(0, .ref (g_ad X 22)), (1, .int (nI (part))), (2, .int (nI (seen))), (3, .int (nI (n))), (4, .int (nI (k + 1)))]) [2, 3, 4, 5, 0] rfl ?_
          exact ih (k + 1) seen n (by omega) (hs) (fun pc lo hd => by have q := hret pc lo hd; first | (rw [segGo_a (by omega)] at q; exact q) | (rw [segGo_b (by omega) (by assumption)] at q; exact q))
        · refine g_aload_n K 1 dX6_segmentOf_56 rfl ?_
          refine g_iconst K 1 dX6_segmentOf_57 (by decide +kernel) ?_
          refine g_iload K 5 dX6_segmentOf_58 rfl ?_
          refine g_ishl (a := 1) (b := k) K (by omega) dX6_segmentOf_60 ?_
          refine g_iconst K 1 dX6_segmentOf_61 (by decide +kernel) ?_
          refine g_iconst K 0 dX6_segmentOf_62 (by decide +kernel) ?_
          refine g_callVd (q := 22) (ci := 6) (As := [.int (nI ((1) <<< (k))), .int (nI (1)), .int (nI (0))]) (rest := []) (C := RX6) (T := TX6) (N := 17) K (cX6_spread_k (g_z X) S ((1) <<< (k)) 1 0 (hm) (by omega) (by omega) (by omega)) (cwV 3 K.1.2.2.2.2 gX6_segmentOf_X6_spread rfl rfl rfl (by decide +kernel) ⟨Nat.le_trans (Nat.le_of_ble_eq_true rfl) hRf, Nat.le_trans (Nat.le_of_ble_eq_true rfl) hRl⟩) rfl rfl rfl rfl (Nat.le_of_ble_eq_true rfl) dX6_segmentOf_63 ?_
          refine g_istore (lo' := [(6, .int (nI (spread S ((1) <<< (k)) 1 0))), (5, .int (nI (1))), (0, .ref (g_ad X 22)), (1, .int (nI (part))), (2, .int (nI (seen))), (3, .int (nI (n))), (4, .int (nI (k)))]) K dX6_segmentOf_66 (by decide) rfl ?_
          have hsp := spread_lt hm 1 0 hk2
          refine g_iload K 0 dX6_segmentOf_68 rfl ?_
          refine g_iload_n K 3 dX6_segmentOf_70 rfl ?_
          refine g_iand (a := spread S ((1) <<< (k)) 1 0) (b := part) K dX6_segmentOf_71 ?_
          have hL71_7 := @Nat.and_le_left (spread S ((1) <<< (k)) 1 0) (part)
          have hR71_8 := @Nat.and_le_right (spread S ((1) <<< (k)) 1 0) (part)
          refine g_if_eq (tgt := 77) (a := (spread S ((1) <<< (k)) 1 0) &&& (part)) K dX6_segmentOf_72 (by decide) (by omega) (fun h72_9 => ?_) (fun h72_9 => ?_)
          · refine g_iload_n K 4 dX6_segmentOf_77 rfl ?_
            refine g_iload K 0 dX6_segmentOf_78 rfl ?_
            refine g_ior (a := seen) (b := spread S ((1) <<< (k)) 1 0) K dX6_segmentOf_80 ?_
            refine g_istore_n (lo' := [(2, .int (nI ((seen) ||| (spread S ((1) <<< (k)) 1 0)))), (6, .int (nI (spread S ((1) <<< (k)) 1 0))), (5, .int (nI (1))), (0, .ref (g_ad X 22)), (1, .int (nI (part))), (3, .int (nI (n))), (4, .int (nI (k)))]) K dX6_segmentOf_81 (by decide) rfl ?_
            refine g_iinc (a := n) (b := n + 1) (lo' := [(3, .int (nI (n + 1))), (2, .int (nI ((seen) ||| (spread S ((1) <<< (k)) 1 0)))), (6, .int (nI (spread S ((1) <<< (k)) 1 0))), (5, .int (nI (1))), (0, .ref (g_ad X 22)), (1, .int (nI (part))), (4, .int (nI (k)))]) K 5 dX6_segmentOf_82 rfl (gi_inc _) (by decide) rfl ?_
            refine g_iinc (a := k) (b := k + 1) (lo' := [(4, .int (nI (k + 1))), (3, .int (nI (n + 1))), (2, .int (nI ((seen) ||| (spread S ((1) <<< (k)) 1 0)))), (6, .int (nI (spread S ((1) <<< (k)) 1 0))), (5, .int (nI (1))), (0, .ref (g_ad X 22)), (1, .int (nI (part)))]) K 6 dX6_segmentOf_85 rfl (gi_inc _) (by decide) rfl ?_
            refine g_goto (tgt := 7) K dX6_segmentOf_88 (by decide) ?_
            refine g_loc (lo' := [(0, .ref (g_ad X 22)), (1, .int (nI (part))), (2, .int (nI ((seen) ||| (spread S ((1) <<< (k)) 1 0)))), (3, .int (nI (n + 1))), (4, .int (nI (k + 1)))]) [5, 6, 2, 1, 0] rfl ?_
            exact ih (k + 1) ((seen) ||| (spread S ((1) <<< (k)) 1 0)) (n + 1) (by omega) (or28 hs (spread_lt hm 1 0 hk2)) (fun pc lo hd => by have q := hret pc lo hd; rw [segGo_c (by omega) (by assumption) (by assumption)] at q; exact q)
          · refine g_iload_n K 5 dX6_segmentOf_75 rfl ?_
            exact g_retd hret dX6_segmentOf_76 (by rw [segGo_d (by omega) (by assumption) (by assumption)]) rfl
      · refine g_iload K 4 dX6_segmentOf_28 rfl ?_
        refine g_bipush K 12 dX6_segmentOf_30 (by decide +kernel) ?_
        refine g_icmp_lt (tgt := 39) (a := k) (b := 12) K dX6_segmentOf_32 (by decide) (by omega) (by omega) (fun h32_10 => ?_) (fun h32_10 => ?_)
        · refine g_iconst K 0 dX6_segmentOf_39 (by decide +kernel) ?_
          refine g_istore (lo' := [(5, .int (nI (0))), (0, .ref (g_ad X 22)), (1, .int (nI (part))), (2, .int (nI (seen))), (3, .int (nI (n))), (4, .int (nI (k)))]) K dX6_segmentOf_40 (by decide) rfl ?_
          refine g_iload K 0 dX6_segmentOf_42 rfl ?_
          refine g_if_eq (tgt := 85) (a := 0) K dX6_segmentOf_44 (by decide) (by omega) (fun h44_11 => ?_) (fun h44_11 => absurd h44_11 (by omega))
          refine g_iinc (a := k) (b := k + 1) (lo' := [(4, .int (nI (k + 1))), (5, .int (nI (0))), (0, .ref (g_ad X 22)), (1, .int (nI (part))), (2, .int (nI (seen))), (3, .int (nI (n)))]) K 5 dX6_segmentOf_85 rfl (gi_inc _) (by decide) rfl ?_
          refine g_goto (tgt := 7) K dX6_segmentOf_88 (by decide) ?_
          refine g_loc (lo' := [(0, .ref (g_ad X 22)), (1, .int (nI (part))), (2, .int (nI (seen))), (3, .int (nI (n))), (4, .int (nI (k + 1)))]) [2, 3, 4, 5, 0] rfl ?_
          exact ih (k + 1) seen n (by omega) (hs) (fun pc lo hd => by have q := hret pc lo hd; first | (rw [segGo_a (by omega)] at q; exact q) | (rw [segGo_b (by omega) (by assumption)] at q; exact q))
        · refine g_iconst K 1 dX6_segmentOf_35 (by decide +kernel) ?_
          refine g_goto (tgt := 40) K dX6_segmentOf_36 (by decide) ?_
          refine g_istore (lo' := [(5, .int (nI (1))), (0, .ref (g_ad X 22)), (1, .int (nI (part))), (2, .int (nI (seen))), (3, .int (nI (n))), (4, .int (nI (k)))]) K dX6_segmentOf_40 (by decide) rfl ?_
          refine g_iload K 0 dX6_segmentOf_42 rfl ?_
          refine g_if_eq (tgt := 85) (a := 1) K dX6_segmentOf_44 (by decide) (by omega) (fun h44_12 => absurd h44_12 (by omega)) (fun h44_12 => ?_)
          refine g_iload_n K 3 dX6_segmentOf_47 rfl ?_
          refine g_iload K 5 dX6_segmentOf_48 rfl ?_
          refine g_ishr (a := seen) (b := k) K (by omega) (by omega) dX6_segmentOf_50 ?_
          refine g_iconst K 1 dX6_segmentOf_51 (by decide +kernel) ?_
          refine g_iand (a := (seen) >>> (k)) (b := 1) K dX6_segmentOf_52 ?_
          have hL52_13 := @Nat.and_le_left ((seen) >>> (k)) (1)
          have hR52_14 := @Nat.and_le_right ((seen) >>> (k)) (1)
          refine g_if_ne (tgt := 85) (a := ((seen) >>> (k)) &&& (1)) K dX6_segmentOf_53 (by decide) (by omega) (fun h53_15 => ?_) (fun h53_15 => ?_)
          · refine g_iinc (a := k) (b := k + 1) (lo' := [(4, .int (nI (k + 1))), (5, .int (nI (1))), (0, .ref (g_ad X 22)), (1, .int (nI (part))), (2, .int (nI (seen))), (3, .int (nI (n)))]) K 5 dX6_segmentOf_85 rfl (gi_inc _) (by decide) rfl ?_
            refine g_goto (tgt := 7) K dX6_segmentOf_88 (by decide) ?_
            refine g_loc (lo' := [(0, .ref (g_ad X 22)), (1, .int (nI (part))), (2, .int (nI (seen))), (3, .int (nI (n))), (4, .int (nI (k + 1)))]) [2, 3, 4, 5, 0] rfl ?_
            exact ih (k + 1) seen n (by omega) (hs) (fun pc lo hd => by have q := hret pc lo hd; first | (rw [segGo_a (by omega)] at q; exact q) | (rw [segGo_b (by omega) (by assumption)] at q; exact q))
          · refine g_aload_n K 1 dX6_segmentOf_56 rfl ?_
            refine g_iconst K 1 dX6_segmentOf_57 (by decide +kernel) ?_
            refine g_iload K 5 dX6_segmentOf_58 rfl ?_
            refine g_ishl (a := 1) (b := k) K (by omega) dX6_segmentOf_60 ?_
            refine g_iconst K 1 dX6_segmentOf_61 (by decide +kernel) ?_
            refine g_iconst K 0 dX6_segmentOf_62 (by decide +kernel) ?_
            refine g_callVd (q := 22) (ci := 6) (As := [.int (nI ((1) <<< (k))), .int (nI (1)), .int (nI (0))]) (rest := []) (C := RX6) (T := TX6) (N := 17) K (cX6_spread_k (g_z X) S ((1) <<< (k)) 1 0 (hm) (by omega) (by omega) (by omega)) (cwV 3 K.1.2.2.2.2 gX6_segmentOf_X6_spread rfl rfl rfl (by decide +kernel) ⟨Nat.le_trans (Nat.le_of_ble_eq_true rfl) hRf, Nat.le_trans (Nat.le_of_ble_eq_true rfl) hRl⟩) rfl rfl rfl rfl (Nat.le_of_ble_eq_true rfl) dX6_segmentOf_63 ?_
            refine g_istore (lo' := [(6, .int (nI (spread S ((1) <<< (k)) 1 0))), (5, .int (nI (1))), (0, .ref (g_ad X 22)), (1, .int (nI (part))), (2, .int (nI (seen))), (3, .int (nI (n))), (4, .int (nI (k)))]) K dX6_segmentOf_66 (by decide) rfl ?_
            have hsp := spread_lt hm 1 0 hk2
            refine g_iload K 0 dX6_segmentOf_68 rfl ?_
            refine g_iload_n K 3 dX6_segmentOf_70 rfl ?_
            refine g_iand (a := spread S ((1) <<< (k)) 1 0) (b := part) K dX6_segmentOf_71 ?_
            have hL71_16 := @Nat.and_le_left (spread S ((1) <<< (k)) 1 0) (part)
            have hR71_17 := @Nat.and_le_right (spread S ((1) <<< (k)) 1 0) (part)
            refine g_if_eq (tgt := 77) (a := (spread S ((1) <<< (k)) 1 0) &&& (part)) K dX6_segmentOf_72 (by decide) (by omega) (fun h72_18 => ?_) (fun h72_18 => ?_)
            · refine g_iload_n K 4 dX6_segmentOf_77 rfl ?_
              refine g_iload K 0 dX6_segmentOf_78 rfl ?_
              refine g_ior (a := seen) (b := spread S ((1) <<< (k)) 1 0) K dX6_segmentOf_80 ?_
              refine g_istore_n (lo' := [(2, .int (nI ((seen) ||| (spread S ((1) <<< (k)) 1 0)))), (6, .int (nI (spread S ((1) <<< (k)) 1 0))), (5, .int (nI (1))), (0, .ref (g_ad X 22)), (1, .int (nI (part))), (3, .int (nI (n))), (4, .int (nI (k)))]) K dX6_segmentOf_81 (by decide) rfl ?_
              refine g_iinc (a := n) (b := n + 1) (lo' := [(3, .int (nI (n + 1))), (2, .int (nI ((seen) ||| (spread S ((1) <<< (k)) 1 0)))), (6, .int (nI (spread S ((1) <<< (k)) 1 0))), (5, .int (nI (1))), (0, .ref (g_ad X 22)), (1, .int (nI (part))), (4, .int (nI (k)))]) K 5 dX6_segmentOf_82 rfl (gi_inc _) (by decide) rfl ?_
              refine g_iinc (a := k) (b := k + 1) (lo' := [(4, .int (nI (k + 1))), (3, .int (nI (n + 1))), (2, .int (nI ((seen) ||| (spread S ((1) <<< (k)) 1 0)))), (6, .int (nI (spread S ((1) <<< (k)) 1 0))), (5, .int (nI (1))), (0, .ref (g_ad X 22)), (1, .int (nI (part)))]) K 6 dX6_segmentOf_85 rfl (gi_inc _) (by decide) rfl ?_
              refine g_goto (tgt := 7) K dX6_segmentOf_88 (by decide) ?_
              refine g_loc (lo' := [(0, .ref (g_ad X 22)), (1, .int (nI (part))), (2, .int (nI ((seen) ||| (spread S ((1) <<< (k)) 1 0)))), (3, .int (nI (n + 1))), (4, .int (nI (k + 1)))]) [5, 6, 2, 1, 0] rfl ?_
              exact ih (k + 1) ((seen) ||| (spread S ((1) <<< (k)) 1 0)) (n + 1) (by omega) (or28 hs (spread_lt hm 1 0 hk2)) (fun pc lo hd => by have q := hret pc lo hd; rw [segGo_c (by omega) (by assumption) (by assumption)] at q; exact q)
            · refine g_iload_n K 5 dX6_segmentOf_75 rfl ?_
              exact g_retd hret dX6_segmentOf_76 (by rw [segGo_d (by omega) (by assumption) (by assumption)]) rfl

set_option maxHeartbeats 4000000 in
set_option maxRecDepth 100000 in
theorem cX6_segmentOf_k (Z : gZ) (S : Nat → Nat → Nat) (part : Nat) (hm : wfM S) (hpt : part < 2147483648) : gMd Z yX6_segmentOf wsX6_segmentOf { frames := 2, cells := 0, slots := 0, locals := 52 } [.ref (gz_ad Z 22), .int (nI (part))] S (segM S part) (S) := by
  refine gMd_of (cc := cX6_segmentOf) (maxL := 7) (ret := (some .int)) (by decide +kernel) rfl (Nat.le_of_ble_eq_true rfl) (Or.inl rfl) (fun X hZ hR K hret => ?_)
  subst hZ
  have K : gOk X cX6_segmentOf 7 wsX6_segmentOf RX6 := K
  have hRf : 2 ≤ (g_R X).frames := gR_f hR rfl
  have hRl : 52 ≤ (g_R X).locals := gR_l hR rfl
  have hin6 : ∀ w ∈ u_ws RX6 TX6 17, w ∈ wsX6_segmentOf := by decide +kernel
  obtain ⟨m1, m2, m3, m4, msh, mst, b23, b24, b25, b26, b27⟩ := id hm
  show gG X 0 [(0, .ref (g_ad X 22)), (1, .int (nI (part)))] [] S
  refine g_iconst K 0 dX6_segmentOf_0 (by decide +kernel) ?_
  refine g_istore_n (lo' := [(2, .int (nI (0))), (0, .ref (g_ad X 22)), (1, .int (nI (part)))]) K dX6_segmentOf_1 (by decide) rfl ?_
  refine g_iconst K 0 dX6_segmentOf_2 (by decide +kernel) ?_
  refine g_istore_n (lo' := [(3, .int (nI (0))), (2, .int (nI (0))), (0, .ref (g_ad X 22)), (1, .int (nI (part)))]) K dX6_segmentOf_3 (by decide) rfl ?_
  refine g_iconst K 0 dX6_segmentOf_4 (by decide +kernel) ?_
  refine g_istore (lo' := [(4, .int (nI (0))), (3, .int (nI (0))), (2, .int (nI (0))), (0, .ref (g_ad X 22)), (1, .int (nI (part)))]) K dX6_segmentOf_5 (by decide) rfl ?_
  refine g_loc (lo' := [(0, .ref (g_ad X 22)), (1, .int (nI (part))), (2, .int (nI (0))), (3, .int (nI (0))), (4, .int (nI (0)))]) [3, 4, 2, 1, 0] rfl ?_
  exact L_seg X S part K (Nat.le_trans (Nat.le_of_ble_eq_true rfl) hRf) (Nat.le_trans (Nat.le_of_ble_eq_true rfl) hRl) hm hpt (12 + S 22 2) 0 0 0 (by omega) (by decide) hret

theorem segM_le {S : Nat → Nat → Nat} (part : Nat) : ∀ (c k seen n : Nat), segGo S part c k seen n ≤ n + c
  | 0, _, _, _ => Nat.le_refl _
  | c + 1, k, seen, n => by
    have h1 := segM_le (S := S) part c (k + 1) (seen ||| spread S (1 <<< k) 1 0) (n + 1)
    have h2 := segM_le (S := S) part c (k + 1) seen n
    unfold segGo
    (repeat' split) <;> omega
set_option maxHeartbeats 4000000 in
set_option maxRecDepth 100000 in
theorem cX6_segments_k (Z : gZ) (S : Nat → Nat → Nat) (hm : wfM S) : gMd Z yX6_segments wsX6_segments { frames := 3, cells := 0, slots := 0, locals := 78 } [.ref (gz_ad Z 22)] S (segM S 0) (va_up S 22 (va_up (S 22) 0 (0))) := by
  refine gMd_of (cc := cX6_segments) (maxL := 1) (ret := (some .int)) (by decide +kernel) rfl (Nat.le_of_ble_eq_true rfl) (Or.inl rfl) (fun X hZ hR K hret => ?_)
  subst hZ
  have K : gOk X cX6_segments 1 wsX6_segments RX6 := K
  have hRf : 3 ≤ (g_R X).frames := gR_f hR rfl
  have hRl : 78 ≤ (g_R X).locals := gR_l hR rfl
  obtain ⟨m1, m2, m3, m4, msh, mst, b23, b24, b25, b26, b27⟩ := id hm
  show gG X 0 [(0, .ref (g_ad X 22))] [] S
  refine g_aload_n K 0 dX6_segments_0 rfl ?_
  refine g_aload_n K 0 dX6_segments_1 rfl ?_
  refine g_iconst K 0 dX6_segments_2 (by decide +kernel) ?_
  refine g_callVd (q := 22) (ci := 6) (As := [.int (nI (0))]) (rest := [.ref (g_ad X 22)]) (C := RX6) (T := TX6) (N := 17) K (cX6_segmentOf_k (g_z X) S 0 (hm) (by omega)) (cwV 1 K.1.2.2.2.2 gX6_segments_X6_segmentOf rfl rfl rfl (by decide +kernel) ⟨Nat.le_trans (Nat.le_of_ble_eq_true rfl) hRf, Nat.le_trans (Nat.le_of_ble_eq_true rfl) hRl⟩) rfl rfl rfl rfl (Nat.le_of_ble_eq_true rfl) dX6_segments_3 ?_
  refine g_callVd (q := 22) (ci := 6) (As := [.int (nI (segM S 0))]) (rest := []) (C := RX6) (T := TX6) (N := 17) K (cX6_fine_k (g_z X) S (segM S 0)) (cwV 1 K.1.2.2.2.2 gX6_segments_X6_fine rfl rfl rfl (by decide +kernel) ⟨Nat.le_trans (Nat.le_of_ble_eq_true rfl) hRf, Nat.le_trans (Nat.le_of_ble_eq_true rfl) hRl⟩) rfl rfl rfl rfl (Nat.le_of_ble_eq_true rfl) dX6_segments_6 ?_
  refine g_cast (S' := (va_up S 22 (va_up (S 22) 0 (0)))) rfl rfl rfl ?_
  exact g_retd hret dX6_segments_9 rfl rfl

set_option maxHeartbeats 4000000 in
set_option maxRecDepth 100000 in
theorem cX6_segmentOfNode_k (Z : gZ) (S : Nat → Nat → Nat) (n : Nat) (hm : wfM S) (hun : n < 4294967296) (hn : n < S 22 1) : gMd Z yX6_segmentOfNode wsX6_segmentOfNode { frames := 3, cells := 0, slots := 0, locals := 78 } [.ref (gz_ad Z 22), .int (nI (n))] S (segM S (1 <<< n)) (va_up S 22 (va_up (S 22) 0 (0))) := by
  refine gMd_of (cc := cX6_segmentOfNode) (maxL := 2) (ret := (some .int)) (by decide +kernel) rfl (Nat.le_of_ble_eq_true rfl) (Or.inl rfl) (fun X hZ hR K hret => ?_)
  subst hZ
  have K : gOk X cX6_segmentOfNode 2 wsX6_segmentOfNode RX6 := K
  have hRf : 3 ≤ (g_R X).frames := gR_f hR rfl
  have hRl : 78 ≤ (g_R X).locals := gR_l hR rfl
  obtain ⟨m1, m2, m3, m4, msh, mst, b23, b24, b25, b26, b27⟩ := id hm
  show gG X 0 [(0, .ref (g_ad X 22)), (1, .int (nI (n)))] [] S
  refine g_aload_n K 0 dX6_segmentOfNode_0 rfl ?_
  refine g_aload_n K 0 dX6_segmentOfNode_1 rfl ?_
  refine g_iload_n K 1 dX6_segmentOfNode_2 rfl ?_
  refine g_callVd (q := 22) (ci := 6) (As := [.int (nI (n))]) (rest := [.ref (g_ad X 22)]) (C := RX6) (T := TX6) (N := 17) K (cX6_isNode_k (g_z X) S n (hm) (by omega)) (cwV 1 K.1.2.2.2.2 gX6_segmentOfNode_X6_isNode rfl rfl rfl (by decide +kernel) ⟨Nat.le_trans (Nat.le_of_ble_eq_true rfl) hRf, Nat.le_trans (Nat.le_of_ble_eq_true rfl) hRl⟩) rfl rfl rfl rfl (Nat.le_of_ble_eq_true rfl) dX6_segmentOfNode_3 ?_
  have hf3_1 := isN_spec (S 22 1) n
  refine g_if_eq (tgt := 13) (a := isN (S 22 1) n) K dX6_segmentOfNode_6 (by decide) (by omega) (fun h6_2 => ?_) (fun h6_2 => ?_)
  · refine g_iconst K 1 dX6_segmentOfNode_13 (by decide +kernel) ?_
    refine g_callVd (q := 22) (ci := 6) (As := [.int (nI (1))]) (rest := []) (C := RX6) (T := TX6) (N := 17) K (cX6_refused_k (g_z X) S 1 (by omega)) (cwV 1 K.1.2.2.2.2 gX6_segmentOfNode_X6_refused rfl rfl rfl (by decide +kernel) ⟨Nat.le_trans (Nat.le_of_ble_eq_true rfl) hRf, Nat.le_trans (Nat.le_of_ble_eq_true rfl) hRl⟩) rfl rfl rfl rfl (Nat.le_of_ble_eq_true rfl) dX6_segmentOfNode_14 ?_
    refine g_cast (S' := (va_up S 22 (va_up (S 22) 0 (1)))) rfl rfl rfl ?_
    refine g_if_eq (tgt := 24) (a := 1) K dX6_segmentOfNode_17 (by decide) (by omega) (fun h17_3 => absurd h17_3 (by omega)) (fun h17_3 => ?_)
    exfalso; omega
  · refine g_iconst K 0 dX6_segmentOfNode_9 (by decide +kernel) ?_
    refine g_goto (tgt := 14) K dX6_segmentOfNode_10 (by decide) ?_
    refine g_callVd (q := 22) (ci := 6) (As := [.int (nI (0))]) (rest := []) (C := RX6) (T := TX6) (N := 17) K (cX6_refused_k (g_z X) S 0 (by omega)) (cwV 1 K.1.2.2.2.2 gX6_segmentOfNode_X6_refused rfl rfl rfl (by decide +kernel) ⟨Nat.le_trans (Nat.le_of_ble_eq_true rfl) hRf, Nat.le_trans (Nat.le_of_ble_eq_true rfl) hRl⟩) rfl rfl rfl rfl (Nat.le_of_ble_eq_true rfl) dX6_segmentOfNode_14 ?_
    refine g_cast (S' := (va_up S 22 (va_up (S 22) 0 (0)))) rfl rfl rfl ?_
    refine g_if_eq (tgt := 24) (a := 0) K dX6_segmentOfNode_17 (by decide) (by omega) (fun h17_4 => ?_) (fun h17_4 => absurd h17_4 (by omega))
    refine g_aload_n K 0 dX6_segmentOfNode_24 rfl ?_
    refine g_iconst K 1 dX6_segmentOfNode_25 (by decide +kernel) ?_
    refine g_iload_n K 1 dX6_segmentOfNode_26 rfl ?_
    refine g_ishl (a := 1) (b := n) K (by omega) dX6_segmentOfNode_27 ?_
    have hk2 : 1 <<< n < 268435456 := Nat.lt_of_lt_of_le (shl1 (show n < 28 by omega)) (by decide)
    refine g_callVd (q := 22) (ci := 6) (As := [.int (nI ((1) <<< (n)))]) (rest := []) (C := RX6) (T := TX6) (N := 17) K (cX6_segmentOf_k (g_z X) (va_up S 22 (va_up (S 22) 0 (0))) ((1) <<< (n)) ((wfM_r hm)) (by omega)) (cwV 1 K.1.2.2.2.2 gX6_segmentOfNode_X6_segmentOf rfl rfl rfl (by decide +kernel) ⟨Nat.le_trans (Nat.le_of_ble_eq_true rfl) hRf, Nat.le_trans (Nat.le_of_ble_eq_true rfl) hRl⟩) rfl rfl rfl rfl (Nat.le_of_ble_eq_true rfl) dX6_segmentOfNode_28 ?_
    refine g_topE (segM S ((1) <<< (n))) (by first | (rw [segM_r]; done) | (rw [segM_r]; rfl)) ?_
    exact g_retd hret dX6_segmentOfNode_31 rfl rfl

set_option maxHeartbeats 4000000 in
set_option maxRecDepth 100000 in
theorem cX6_segmentOfPipe_k (Z : gZ) (S : Nat → Nat → Nat) (p : Nat) (hm : wfM S) (hup : p < 4294967296) (hp : p < S 22 2) : gMd Z yX6_segmentOfPipe wsX6_segmentOfPipe { frames := 3, cells := 0, slots := 0, locals := 78 } [.ref (gz_ad Z 22), .int (nI (p))] S (segM S (1 <<< (12 + p))) (va_up S 22 (va_up (S 22) 0 (0))) := by
  refine gMd_of (cc := cX6_segmentOfPipe) (maxL := 2) (ret := (some .int)) (by decide +kernel) rfl (Nat.le_of_ble_eq_true rfl) (Or.inl rfl) (fun X hZ hR K hret => ?_)
  subst hZ
  have K : gOk X cX6_segmentOfPipe 2 wsX6_segmentOfPipe RX6 := K
  have hRf : 3 ≤ (g_R X).frames := gR_f hR rfl
  have hRl : 78 ≤ (g_R X).locals := gR_l hR rfl
  obtain ⟨m1, m2, m3, m4, msh, mst, b23, b24, b25, b26, b27⟩ := id hm
  show gG X 0 [(0, .ref (g_ad X 22)), (1, .int (nI (p)))] [] S
  refine g_aload_n K 0 dX6_segmentOfPipe_0 rfl ?_
  refine g_aload_n K 0 dX6_segmentOfPipe_1 rfl ?_
  refine g_iload_n K 1 dX6_segmentOfPipe_2 rfl ?_
  refine g_callVd (q := 22) (ci := 6) (As := [.int (nI (p))]) (rest := [.ref (g_ad X 22)]) (C := RX6) (T := TX6) (N := 17) K (cX6_isPipe_k (g_z X) S p (hm) (by omega)) (cwV 1 K.1.2.2.2.2 gX6_segmentOfPipe_X6_isPipe rfl rfl rfl (by decide +kernel) ⟨Nat.le_trans (Nat.le_of_ble_eq_true rfl) hRf, Nat.le_trans (Nat.le_of_ble_eq_true rfl) hRl⟩) rfl rfl rfl rfl (Nat.le_of_ble_eq_true rfl) dX6_segmentOfPipe_3 ?_
  have hf3_1 := isN_spec (S 22 2) p
  refine g_if_eq (tgt := 13) (a := isN (S 22 2) p) K dX6_segmentOfPipe_6 (by decide) (by omega) (fun h6_2 => ?_) (fun h6_2 => ?_)
  · refine g_iconst K 1 dX6_segmentOfPipe_13 (by decide +kernel) ?_
    refine g_callVd (q := 22) (ci := 6) (As := [.int (nI (1))]) (rest := []) (C := RX6) (T := TX6) (N := 17) K (cX6_refused_k (g_z X) S 1 (by omega)) (cwV 1 K.1.2.2.2.2 gX6_segmentOfPipe_X6_refused rfl rfl rfl (by decide +kernel) ⟨Nat.le_trans (Nat.le_of_ble_eq_true rfl) hRf, Nat.le_trans (Nat.le_of_ble_eq_true rfl) hRl⟩) rfl rfl rfl rfl (Nat.le_of_ble_eq_true rfl) dX6_segmentOfPipe_14 ?_
    refine g_cast (S' := (va_up S 22 (va_up (S 22) 0 (1)))) rfl rfl rfl ?_
    refine g_if_eq (tgt := 24) (a := 1) K dX6_segmentOfPipe_17 (by decide) (by omega) (fun h17_3 => absurd h17_3 (by omega)) (fun h17_3 => ?_)
    exfalso; omega
  · refine g_iconst K 0 dX6_segmentOfPipe_9 (by decide +kernel) ?_
    refine g_goto (tgt := 14) K dX6_segmentOfPipe_10 (by decide) ?_
    refine g_callVd (q := 22) (ci := 6) (As := [.int (nI (0))]) (rest := []) (C := RX6) (T := TX6) (N := 17) K (cX6_refused_k (g_z X) S 0 (by omega)) (cwV 1 K.1.2.2.2.2 gX6_segmentOfPipe_X6_refused rfl rfl rfl (by decide +kernel) ⟨Nat.le_trans (Nat.le_of_ble_eq_true rfl) hRf, Nat.le_trans (Nat.le_of_ble_eq_true rfl) hRl⟩) rfl rfl rfl rfl (Nat.le_of_ble_eq_true rfl) dX6_segmentOfPipe_14 ?_
    refine g_cast (S' := (va_up S 22 (va_up (S 22) 0 (0)))) rfl rfl rfl ?_
    refine g_if_eq (tgt := 24) (a := 0) K dX6_segmentOfPipe_17 (by decide) (by omega) (fun h17_4 => ?_) (fun h17_4 => absurd h17_4 (by omega))
    refine g_aload_n K 0 dX6_segmentOfPipe_24 rfl ?_
    refine g_iload_n K 1 dX6_segmentOfPipe_25 rfl ?_
    refine g_callSd (As := [.int (nI (p))]) (rest := [.ref (g_ad X 22)]) K (cX6_partOf_k (g_z X) (va_up S 22 (va_up (S 22) 0 (0))) p (by omega)) (va_cwS 1 K.1.2.2.2.2 gX6_segmentOfPipe_X6_partOf rfl rfl rfl (by decide +kernel) ⟨Nat.le_trans (Nat.le_of_ble_eq_true rfl) hRf, Nat.le_trans (Nat.le_of_ble_eq_true rfl) hRl⟩) rfl rfl (Nat.le_of_ble_eq_true rfl) dX6_segmentOfPipe_26 ?_
    have hk2 : 1 <<< (12 + p) < 268435456 := Nat.lt_of_lt_of_le (shl1 (show 12 + p < 28 by omega)) (by decide)
    refine g_callVd (q := 22) (ci := 6) (As := [.int (nI (1 <<< (12 + p)))]) (rest := []) (C := RX6) (T := TX6) (N := 17) K (cX6_segmentOf_k (g_z X) (va_up S 22 (va_up (S 22) 0 (0))) (1 <<< (12 + p)) ((wfM_r hm)) (by omega)) (cwV 1 K.1.2.2.2.2 gX6_segmentOfPipe_X6_segmentOf rfl rfl rfl (by decide +kernel) ⟨Nat.le_trans (Nat.le_of_ble_eq_true rfl) hRf, Nat.le_trans (Nat.le_of_ble_eq_true rfl) hRl⟩) rfl rfl rfl rfl (Nat.le_of_ble_eq_true rfl) dX6_segmentOfPipe_29 ?_
    refine g_topE (segM S (1 <<< (12 + p))) (by first | (rw [segM_r]; done) | (rw [segM_r]; rfl)) ?_
    exact g_retd hret dX6_segmentOfPipe_32 rfl rfl

set_option maxHeartbeats 4000000 in
set_option maxRecDepth 100000 in
theorem cX6_segmentOfNode_r1 (Z : gZ) (S : Nat → Nat → Nat) (n : Nat) (hm : wfM S) (hun : n < 4294967296) (hn : S 22 1 ≤ n) : gMd Z yX6_segmentOfNode wsX6_segmentOfNode { frames := 2, cells := 0, slots := 0, locals := 43 } [.ref (gz_ad Z 22), .int (nI (n))] S (0) (va_up S 22 (va_up (S 22) 0 (1))) := by
  refine gMd_of (cc := cX6_segmentOfNode) (maxL := 2) (ret := (some .int)) (by decide +kernel) rfl (Nat.le_of_ble_eq_true rfl) (Or.inl rfl) (fun X hZ hR K hret => ?_)
  subst hZ
  have K : gOk X cX6_segmentOfNode 2 wsX6_segmentOfNode RX6 := K
  have hRf : 2 ≤ (g_R X).frames := gR_f hR rfl
  have hRl : 43 ≤ (g_R X).locals := gR_l hR rfl
  obtain ⟨m1, m2, m3, m4, msh, mst, b23, b24, b25, b26, b27⟩ := id hm
  show gG X 0 [(0, .ref (g_ad X 22)), (1, .int (nI (n)))] [] S
  refine g_aload_n K 0 dX6_segmentOfNode_0 rfl ?_
  refine g_aload_n K 0 dX6_segmentOfNode_1 rfl ?_
  refine g_iload_n K 1 dX6_segmentOfNode_2 rfl ?_
  refine g_callVd (q := 22) (ci := 6) (As := [.int (nI (n))]) (rest := [.ref (g_ad X 22)]) (C := RX6) (T := TX6) (N := 17) K (cX6_isNode_k (g_z X) S n (hm) (by omega)) (cwV 1 K.1.2.2.2.2 gX6_segmentOfNode_X6_isNode rfl rfl rfl (by decide +kernel) ⟨Nat.le_trans (Nat.le_of_ble_eq_true rfl) hRf, Nat.le_trans (Nat.le_of_ble_eq_true rfl) hRl⟩) rfl rfl rfl rfl (Nat.le_of_ble_eq_true rfl) dX6_segmentOfNode_3 ?_
  have hf3_1 := isN_spec (S 22 1) n
  refine g_if_eq (tgt := 13) (a := isN (S 22 1) n) K dX6_segmentOfNode_6 (by decide) (by omega) (fun h6_2 => ?_) (fun h6_2 => ?_)
  · refine g_iconst K 1 dX6_segmentOfNode_13 (by decide +kernel) ?_
    refine g_callVd (q := 22) (ci := 6) (As := [.int (nI (1))]) (rest := []) (C := RX6) (T := TX6) (N := 17) K (cX6_refused_k (g_z X) S 1 (by omega)) (cwV 1 K.1.2.2.2.2 gX6_segmentOfNode_X6_refused rfl rfl rfl (by decide +kernel) ⟨Nat.le_trans (Nat.le_of_ble_eq_true rfl) hRf, Nat.le_trans (Nat.le_of_ble_eq_true rfl) hRl⟩) rfl rfl rfl rfl (Nat.le_of_ble_eq_true rfl) dX6_segmentOfNode_14 ?_
    refine g_cast (S' := (va_up S 22 (va_up (S 22) 0 (1)))) rfl rfl rfl ?_
    refine g_if_eq (tgt := 24) (a := 1) K dX6_segmentOfNode_17 (by decide) (by omega) (fun h17_3 => absurd h17_3 (by omega)) (fun h17_3 => ?_)
    refine g_iconst K 0 dX6_segmentOfNode_20 (by decide +kernel) ?_
    refine g_goto (tgt := 31) K dX6_segmentOfNode_21 (by decide) ?_
    exact g_retd hret dX6_segmentOfNode_31 rfl rfl
  · refine g_iconst K 0 dX6_segmentOfNode_9 (by decide +kernel) ?_
    refine g_goto (tgt := 14) K dX6_segmentOfNode_10 (by decide) ?_
    refine g_callVd (q := 22) (ci := 6) (As := [.int (nI (0))]) (rest := []) (C := RX6) (T := TX6) (N := 17) K (cX6_refused_k (g_z X) S 0 (by omega)) (cwV 1 K.1.2.2.2.2 gX6_segmentOfNode_X6_refused rfl rfl rfl (by decide +kernel) ⟨Nat.le_trans (Nat.le_of_ble_eq_true rfl) hRf, Nat.le_trans (Nat.le_of_ble_eq_true rfl) hRl⟩) rfl rfl rfl rfl (Nat.le_of_ble_eq_true rfl) dX6_segmentOfNode_14 ?_
    refine g_cast (S' := (va_up S 22 (va_up (S 22) 0 (0)))) rfl rfl rfl ?_
    refine g_if_eq (tgt := 24) (a := 0) K dX6_segmentOfNode_17 (by decide) (by omega) (fun h17_4 => ?_) (fun h17_4 => absurd h17_4 (by omega))
    exfalso; omega

set_option maxHeartbeats 4000000 in
set_option maxRecDepth 100000 in
theorem cX6_segmentOfPipe_r1 (Z : gZ) (S : Nat → Nat → Nat) (p : Nat) (hm : wfM S) (hup : p < 4294967296) (hn : S 22 2 ≤ p) : gMd Z yX6_segmentOfPipe wsX6_segmentOfPipe { frames := 2, cells := 0, slots := 0, locals := 43 } [.ref (gz_ad Z 22), .int (nI (p))] S (0) (va_up S 22 (va_up (S 22) 0 (1))) := by
  refine gMd_of (cc := cX6_segmentOfPipe) (maxL := 2) (ret := (some .int)) (by decide +kernel) rfl (Nat.le_of_ble_eq_true rfl) (Or.inl rfl) (fun X hZ hR K hret => ?_)
  subst hZ
  have K : gOk X cX6_segmentOfPipe 2 wsX6_segmentOfPipe RX6 := K
  have hRf : 2 ≤ (g_R X).frames := gR_f hR rfl
  have hRl : 43 ≤ (g_R X).locals := gR_l hR rfl
  obtain ⟨m1, m2, m3, m4, msh, mst, b23, b24, b25, b26, b27⟩ := id hm
  show gG X 0 [(0, .ref (g_ad X 22)), (1, .int (nI (p)))] [] S
  refine g_aload_n K 0 dX6_segmentOfPipe_0 rfl ?_
  refine g_aload_n K 0 dX6_segmentOfPipe_1 rfl ?_
  refine g_iload_n K 1 dX6_segmentOfPipe_2 rfl ?_
  refine g_callVd (q := 22) (ci := 6) (As := [.int (nI (p))]) (rest := [.ref (g_ad X 22)]) (C := RX6) (T := TX6) (N := 17) K (cX6_isPipe_k (g_z X) S p (hm) (by omega)) (cwV 1 K.1.2.2.2.2 gX6_segmentOfPipe_X6_isPipe rfl rfl rfl (by decide +kernel) ⟨Nat.le_trans (Nat.le_of_ble_eq_true rfl) hRf, Nat.le_trans (Nat.le_of_ble_eq_true rfl) hRl⟩) rfl rfl rfl rfl (Nat.le_of_ble_eq_true rfl) dX6_segmentOfPipe_3 ?_
  have hf3_1 := isN_spec (S 22 2) p
  refine g_if_eq (tgt := 13) (a := isN (S 22 2) p) K dX6_segmentOfPipe_6 (by decide) (by omega) (fun h6_2 => ?_) (fun h6_2 => ?_)
  · refine g_iconst K 1 dX6_segmentOfPipe_13 (by decide +kernel) ?_
    refine g_callVd (q := 22) (ci := 6) (As := [.int (nI (1))]) (rest := []) (C := RX6) (T := TX6) (N := 17) K (cX6_refused_k (g_z X) S 1 (by omega)) (cwV 1 K.1.2.2.2.2 gX6_segmentOfPipe_X6_refused rfl rfl rfl (by decide +kernel) ⟨Nat.le_trans (Nat.le_of_ble_eq_true rfl) hRf, Nat.le_trans (Nat.le_of_ble_eq_true rfl) hRl⟩) rfl rfl rfl rfl (Nat.le_of_ble_eq_true rfl) dX6_segmentOfPipe_14 ?_
    refine g_cast (S' := (va_up S 22 (va_up (S 22) 0 (1)))) rfl rfl rfl ?_
    refine g_if_eq (tgt := 24) (a := 1) K dX6_segmentOfPipe_17 (by decide) (by omega) (fun h17_3 => absurd h17_3 (by omega)) (fun h17_3 => ?_)
    refine g_iconst K 0 dX6_segmentOfPipe_20 (by decide +kernel) ?_
    refine g_goto (tgt := 32) K dX6_segmentOfPipe_21 (by decide) ?_
    exact g_retd hret dX6_segmentOfPipe_32 rfl rfl
  · refine g_iconst K 0 dX6_segmentOfPipe_9 (by decide +kernel) ?_
    refine g_goto (tgt := 14) K dX6_segmentOfPipe_10 (by decide) ?_
    refine g_callVd (q := 22) (ci := 6) (As := [.int (nI (0))]) (rest := []) (C := RX6) (T := TX6) (N := 17) K (cX6_refused_k (g_z X) S 0 (by omega)) (cwV 1 K.1.2.2.2.2 gX6_segmentOfPipe_X6_refused rfl rfl rfl (by decide +kernel) ⟨Nat.le_trans (Nat.le_of_ble_eq_true rfl) hRf, Nat.le_trans (Nat.le_of_ble_eq_true rfl) hRl⟩) rfl rfl rfl rfl (Nat.le_of_ble_eq_true rfl) dX6_segmentOfPipe_14 ?_
    refine g_cast (S' := (va_up S 22 (va_up (S 22) 0 (0)))) rfl rfl rfl ?_
    refine g_if_eq (tgt := 24) (a := 0) K dX6_segmentOfPipe_17 (by decide) (by omega) (fun h17_4 => ?_) (fun h17_4 => absurd h17_4 (by omega))
    exfalso; omega

set_option maxHeartbeats 4000000 in
set_option maxRecDepth 100000 in
theorem cX6_segmentByMerging_k (Z : gZ) (S : Nat → Nat → Nat) (p : Nat) (hm : wfM S) (hup : p < 4294967296) (hp : p < S 22 2) : gMd Z yX6_segmentByMerging wsX6_segmentByMerging { frames := 4, cells := 0, slots := 0, locals := 99 } [.ref (gz_ad Z 22), .int (nI (p))] S (segM S (1 <<< (12 + p))) (va_up S 22 (va_up (S 22) 0 (0))) := by
  refine gMd_of (cc := cX6_segmentByMerging) (maxL := 2) (ret := (some .int)) (by decide +kernel) rfl (Nat.le_of_ble_eq_true rfl) (Or.inl rfl) (fun X hZ hR K hret => ?_)
  subst hZ
  have K : gOk X cX6_segmentByMerging 2 wsX6_segmentByMerging RX6 := K
  have hRf : 4 ≤ (g_R X).frames := gR_f hR rfl
  have hRl : 99 ≤ (g_R X).locals := gR_l hR rfl
  obtain ⟨m1, m2, m3, m4, msh, mst, b23, b24, b25, b26, b27⟩ := id hm
  show gG X 0 [(0, .ref (g_ad X 22)), (1, .int (nI (p)))] [] S
  refine g_aload_n K 0 dX6_segmentByMerging_0 rfl ?_
  refine g_iload_n K 1 dX6_segmentByMerging_1 rfl ?_
  refine g_callVd (q := 22) (ci := 6) (As := [.int (nI (p))]) (rest := []) (C := RX6) (T := TX6) (N := 17) K (cX6_segmentOfPipe_k (g_z X) S p (hm) (by omega) (by omega)) (cwV 1 K.1.2.2.2.2 gX6_segmentByMerging_X6_segmentOfPipe rfl rfl rfl (by decide +kernel) ⟨Nat.le_trans (Nat.le_of_ble_eq_true rfl) hRf, Nat.le_trans (Nat.le_of_ble_eq_true rfl) hRl⟩) rfl rfl rfl rfl (Nat.le_of_ble_eq_true rfl) dX6_segmentByMerging_2 ?_
  exact g_retd hret dX6_segmentByMerging_5 rfl rfl

set_option maxHeartbeats 4000000 in
set_option maxRecDepth 100000 in
theorem cX6_segmentByMerging_r1 (Z : gZ) (S : Nat → Nat → Nat) (p : Nat) (hm : wfM S) (hup : p < 4294967296) (hn : S 22 2 ≤ p) : gMd Z yX6_segmentByMerging wsX6_segmentByMerging { frames := 4, cells := 0, slots := 0, locals := 99 } [.ref (gz_ad Z 22), .int (nI (p))] S (0) (va_up S 22 (va_up (S 22) 0 (1))) := by
  refine gMd_of (cc := cX6_segmentByMerging) (maxL := 2) (ret := (some .int)) (by decide +kernel) rfl (Nat.le_of_ble_eq_true rfl) (Or.inl rfl) (fun X hZ hR K hret => ?_)
  subst hZ
  have K : gOk X cX6_segmentByMerging 2 wsX6_segmentByMerging RX6 := K
  have hRf : 4 ≤ (g_R X).frames := gR_f hR rfl
  have hRl : 99 ≤ (g_R X).locals := gR_l hR rfl
  obtain ⟨m1, m2, m3, m4, msh, mst, b23, b24, b25, b26, b27⟩ := id hm
  show gG X 0 [(0, .ref (g_ad X 22)), (1, .int (nI (p)))] [] S
  refine g_aload_n K 0 dX6_segmentByMerging_0 rfl ?_
  refine g_iload_n K 1 dX6_segmentByMerging_1 rfl ?_
  refine g_callVd (q := 22) (ci := 6) (As := [.int (nI (p))]) (rest := []) (C := RX6) (T := TX6) (N := 17) K (cX6_segmentOfPipe_r1 (g_z X) S p hm hup hn) (cwV 1 K.1.2.2.2.2 gX6_segmentByMerging_X6_segmentOfPipe rfl rfl rfl (by decide +kernel) ⟨Nat.le_trans (Nat.le_of_ble_eq_true rfl) hRf, Nat.le_trans (Nat.le_of_ble_eq_true rfl) hRl⟩) rfl rfl rfl rfl (Nat.le_of_ble_eq_true rfl) dX6_segmentByMerging_2 ?_
  exact g_retd hret dX6_segmentByMerging_5 rfl rfl

def regM (S : Nat → Nat → Nat) (p : Nat) : Nat := spread S (1 <<< (12 + p)) 2 0
theorem regM_r {S : Nat → Nat → Nat} {z : Nat} (p : Nat) : regM (va_up S 22 (va_up (S 22) 0 z)) p = regM S p := spread_r _ 2 0
theorem regM_lt {S : Nat → Nat → Nat} (hm : wfM S) {p : Nat} (h : p < 16) : regM S p < 268435456 := spread_lt hm 2 0 (Nat.lt_of_lt_of_le (shl1 (show 12 + p < 28 by omega)) (by decide))
def oneM (S : Nat → Nat → Nat) (g v : Nat) : Nat := if g &&& (1 <<< (12 + S 27 v / 2)) = 0 then 0 else 1
def othM (S : Nat → Nat → Nat) (g v : Nat) : Nat := if g &&& (1 <<< S 23 (S 27 v)) = 0 then 0 else 1
def fRingM (S : Nat → Nat → Nat) (g v r : Nat) : Nat := r ||| (if ((S 22 10 ||| S 22 11) >>> v) &&& 1 = 0 then (if oneM S g v = othM S g v then 0 else 1 <<< v) else 0)
def ringM (S : Nat → Nat → Nat) (p : Nat) : Nat := gfor (fRingM S (regM S p)) (S 22 3) 0 0
theorem ringM_r {S : Nat → Nat → Nat} {z : Nat} (p : Nat) : ringM (va_up S 22 (va_up (S 22) 0 z)) p = ringM S p := by
  unfold ringM
  rw [regM_r]
  rfl
theorem ringM_lt {S : Nat → Nat → Nat} (hm : wfM S) (p : Nat) : ringM S p < 4096 := by
  have := gfor_invK (fun _ (x : Nat) => x < 4096) (fRingM S (regM S p)) (S 22 3) 0 0 (fun i y _ hi hy => by
    have h3 := hm.2.2.1
    have h4 : 1 <<< i < 4096 := Nat.lt_of_lt_of_le (shl1 (show i < 12 by omega)) (by decide)
    unfold fRingM
    refine or12 hy ?_
    (repeat' split) <;> omega) (by decide)
  exact this
def nrK (S : Nat → Nat → Nat) (p : Nat) : Nat := if isN (S 22 2) p = 0 then 1 else if regM S p &&& S 22 4 = 0 then 0 else 2
set_option maxHeartbeats 4000000 in
set_option maxRecDepth 100000 in
theorem L_ringM (X : gC) (S : Nat → Nat → Nat) (p : Nat) (g : Nat) (K : gOk X cX6_ringOf 9 wsX6_ringOf RX6) (hRf : 1 ≤ (g_R X).frames) (hRl : 20 ≤ (g_R X).locals) (hm : wfM S) (hg : g < 2147483648) : ∀ (k v : Nat) (r : Nat), v + k = S 22 3 → gG X 127 [(0, .ref (g_ad X 22)), (1, .int (nI (p))), (2, .int (nI (g))), (3, .int (nI (((gfor (fRingM S g) k v r))))), (4, .int (nI ((S 22 3))))] [] S → gG X 16 [(0, .ref (g_ad X 22)), (1, .int (nI (p))), (2, .int (nI (g))), (3, .int (nI (r))), (4, .int (nI (v)))] [] S := by
  have hin6 : ∀ w ∈ u_ws RX6 TX6 17, w ∈ wsX6_ringOf := by decide +kernel
  obtain ⟨m1, m2, m3, m4, msh, mst, b23, b24, b25, b26, b27⟩ := id hm
  intro k
  induction k with
  | zero =>
    intro v r hj kk
    have hj : v = S 22 3 := by omega
    refine g_iload K 4 dX6_ringOf_16 rfl ?_
    refine g_aload_n K 0 dX6_ringOf_18 rfl ?_
    refine g_getI (q := 22) (ci := 6) (k := 3) (N := 17) (C := RX6) (T := TX6) (ref := "ValveWalkModel") K rfl rfl rfl (by decide) hin6 (by decide +kernel) rfl dX6_ringOf_19 ?_
    refine g_icmp_ge (tgt := 127) (a := v) (b := S 22 3) K dX6_ringOf_22 (by decide) (by omega) (by omega) (fun h22_1 => ?_) (fun h22_1 => ?_)
    · refine g_loc (lo' := [(0, .ref (g_ad X 22)), (1, .int (nI (p))), (2, .int (nI (g))), (3, .int (nI (r))), (4, .int (nI (v)))]) [0, 1, 2, 3, 4] rfl ?_
      exact g_cast (by first | rfl | (rw [hj]; done) | (rw [hj]; rfl)) rfl rfl kk
    · exact absurd h22_1 (by omega)
  | succ k ih =>
    intro v r hj kk
    refine g_iload K 4 dX6_ringOf_16 rfl ?_
    refine g_aload_n K 0 dX6_ringOf_18 rfl ?_
    refine g_getI (q := 22) (ci := 6) (k := 3) (N := 17) (C := RX6) (T := TX6) (ref := "ValveWalkModel") K rfl rfl rfl (by decide) hin6 (by decide +kernel) rfl dX6_ringOf_19 ?_
    refine g_icmp_ge (tgt := 127) (a := v) (b := S 22 3) K dX6_ringOf_22 (by decide) (by omega) (by omega) (fun h22_1 => ?_) (fun h22_1 => ?_)
    · exact absurd h22_1 (by omega)
    · refine g_aload_n K 0 dX6_ringOf_25 rfl ?_
      refine g_getR (q' := 27) (q := 22) (ci := 6) (k := 9) (N := 17) (C := RX6) (T := TX6) (ref := "ValveWalkModel") K rfl rfl rfl (by decide) hin6 (by decide +kernel) rfl dX6_ringOf_26 ?_
      refine g_iload K 4 dX6_ringOf_29 rfl ?_
      refine g_ald (q := 27) (n := 12) (i := v) K rfl (by decide) (by omega) dX6_ringOf_31 ?_
      have hv31_2 := b27 (v)
      refine g_istore (lo' := [(5, .int (nI (S 27 (v)))), (0, .ref (g_ad X 22)), (1, .int (nI (p))), (2, .int (nI (g))), (3, .int (nI (r))), (4, .int (nI (v)))]) K dX6_ringOf_32 (by decide) rfl ?_
      have h27 := b27 v
      refine g_iload_n K 3 dX6_ringOf_34 rfl ?_
      refine g_iload K 0 dX6_ringOf_35 rfl ?_
      refine g_iconst K 2 dX6_ringOf_37 (by decide +kernel) ?_
      refine g_idiv (a := S 27 (v)) (b := 2) K (by omega) (by omega) (by omega) dX6_ringOf_38 ?_
      refine g_callSd (As := [.int (nI ((S 27 (v)) / (2)))]) (rest := [.int (nI (g))]) K (cX6_partOf_k (g_z X) S ((S 27 (v)) / (2)) (by omega)) (va_cwS 1 K.1.2.2.2.2 gX6_ringOf_X6_partOf rfl rfl rfl (by decide +kernel) ⟨Nat.le_trans (Nat.le_of_ble_eq_true rfl) hRf, Nat.le_trans (Nat.le_of_ble_eq_true rfl) hRl⟩) rfl rfl (Nat.le_of_ble_eq_true rfl) dX6_ringOf_39 ?_
      refine g_iand (a := g) (b := 1 <<< (12 + ((S 27 (v)) / (2)))) K dX6_ringOf_42 ?_
      have hL42_3 := @Nat.and_le_left (g) (1 <<< (12 + ((S 27 (v)) / (2))))
      have hR42_4 := @Nat.and_le_right (g) (1 <<< (12 + ((S 27 (v)) / (2))))
      refine g_if_eq (tgt := 50) (a := (g) &&& (1 <<< (12 + ((S 27 (v)) / (2))))) K dX6_ringOf_43 (by decide) (by omega) (fun h43_5 => ?_) (fun h43_5 => ?_)
      · refine g_iconst K 0 dX6_ringOf_50 (by decide +kernel) ?_
        refine g_istore (lo' := [(6, .int (nI (0))), (5, .int (nI (S 27 (v)))), (0, .ref (g_ad X 22)), (1, .int (nI (p))), (2, .int (nI (g))), (3, .int (nI (r))), (4, .int (nI (v)))]) K dX6_ringOf_51 (by decide) rfl ?_
        refine g_iload_n K 4 dX6_ringOf_53 rfl ?_
        refine g_iconst K 1 dX6_ringOf_54 (by decide +kernel) ?_
        refine g_aload_n K 2 dX6_ringOf_55 rfl ?_
        refine g_getR (q' := 23) (q := 22) (ci := 6) (k := 5) (N := 17) (C := RX6) (T := TX6) (ref := "ValveWalkModel") K rfl rfl rfl (by decide) hin6 (by decide +kernel) rfl dX6_ringOf_56 ?_
        refine g_iload K 1 dX6_ringOf_59 rfl ?_
        refine g_ald (q := 23) (n := 32) (i := S 27 (v)) K rfl (by decide) (by omega) dX6_ringOf_61 ?_
        have hv61_6 := b23 (S 27 (v))
        have h23 := b23 (S 27 v)
        refine g_ishl (a := 1) (b := S 23 (S 27 (v))) K (by omega) dX6_ringOf_62 ?_
        refine g_iand (a := g) (b := (1) <<< (S 23 (S 27 (v)))) K dX6_ringOf_63 ?_
        have hL63_7 := @Nat.and_le_left (g) ((1) <<< (S 23 (S 27 (v))))
        have hR63_8 := @Nat.and_le_right (g) ((1) <<< (S 23 (S 27 (v))))
        refine g_if_eq (tgt := 71) (a := (g) &&& ((1) <<< (S 23 (S 27 (v))))) K dX6_ringOf_64 (by decide) (by omega) (fun h64_9 => ?_) (fun h64_9 => ?_)
        · refine g_iconst K 0 dX6_ringOf_71 (by decide +kernel) ?_
          refine g_istore (lo' := [(7, .int (nI (0))), (6, .int (nI (0))), (5, .int (nI (S 27 (v)))), (0, .ref (g_ad X 22)), (1, .int (nI (p))), (2, .int (nI (g))), (3, .int (nI (r))), (4, .int (nI (v)))]) K dX6_ringOf_72 (by decide) rfl ?_
          refine g_aload_n K 3 dX6_ringOf_74 rfl ?_
          refine g_getI (q := 22) (ci := 6) (k := 10) (N := 17) (C := RX6) (T := TX6) (ref := "ValveWalkModel") K rfl rfl rfl (by decide) hin6 (by decide +kernel) rfl dX6_ringOf_75 ?_
          refine g_aload_n K 3 dX6_ringOf_78 rfl ?_
          refine g_getI (q := 22) (ci := 6) (k := 11) (N := 17) (C := RX6) (T := TX6) (ref := "ValveWalkModel") K rfl rfl rfl (by decide) hin6 (by decide +kernel) rfl dX6_ringOf_79 ?_
          refine g_ior (a := S 22 10) (b := S 22 11) K dX6_ringOf_82 ?_
          have hor := or12 msh mst
          refine g_iload K 7 dX6_ringOf_83 rfl ?_
          refine g_ishr (a := (S 22 10) ||| (S 22 11)) (b := v) K (by omega) (by omega) dX6_ringOf_85 ?_
          refine g_iconst K 1 dX6_ringOf_86 (by decide +kernel) ?_
          refine g_iand (a := ((S 22 10) ||| (S 22 11)) >>> (v)) (b := 1) K dX6_ringOf_87 ?_
          have hL87_10 := @Nat.and_le_left (((S 22 10) ||| (S 22 11)) >>> (v)) (1)
          have hR87_11 := @Nat.and_le_right (((S 22 10) ||| (S 22 11)) >>> (v)) (1)
          refine g_if_ne (tgt := 95) (a := (((S 22 10) ||| (S 22 11)) >>> (v)) &&& (1)) K dX6_ringOf_88 (by decide) (by omega) (fun h88_12 => ?_) (fun h88_12 => ?_)
          · refine g_iconst K 0 dX6_ringOf_95 (by decide +kernel) ?_
            refine g_istore (lo' := [(8, .int (nI (0))), (7, .int (nI (0))), (6, .int (nI (0))), (5, .int (nI (S 27 (v)))), (0, .ref (g_ad X 22)), (1, .int (nI (p))), (2, .int (nI (g))), (3, .int (nI (r))), (4, .int (nI (v)))]) K dX6_ringOf_96 (by decide) rfl ?_
            refine g_iload_n K 7 dX6_ringOf_98 rfl ?_
            refine g_iload K 0 dX6_ringOf_99 rfl ?_
            refine g_if_eq (tgt := 118) (a := 0) K dX6_ringOf_101 (by decide) (by omega) (fun h101_13 => ?_) (fun h101_13 => absurd h101_13 (by omega))
            refine g_iconst K 0 dX6_ringOf_118 (by decide +kernel) ?_
            refine g_ior (a := r) (b := 0) K dX6_ringOf_119 ?_
            refine g_istore_n (lo' := [(3, .int (nI ((r) ||| (0)))), (8, .int (nI (0))), (7, .int (nI (0))), (6, .int (nI (0))), (5, .int (nI (S 27 (v)))), (0, .ref (g_ad X 22)), (1, .int (nI (p))), (2, .int (nI (g))), (4, .int (nI (v)))]) K dX6_ringOf_120 (by decide) rfl ?_
            refine g_iinc (a := v) (b := v + 1) (lo' := [(4, .int (nI (v + 1))), (3, .int (nI ((r) ||| (0)))), (8, .int (nI (0))), (7, .int (nI (0))), (6, .int (nI (0))), (5, .int (nI (S 27 (v)))), (0, .ref (g_ad X 22)), (1, .int (nI (p))), (2, .int (nI (g)))]) K 8 dX6_ringOf_121 rfl (gi_inc _) (by decide) rfl ?_
            refine g_goto (tgt := 16) K dX6_ringOf_124 (by decide) ?_
            refine g_loc (lo' := [(0, .ref (g_ad X 22)), (1, .int (nI (p))), (2, .int (nI (g))), (3, .int (nI ((r) ||| (0)))), (4, .int (nI (v + 1)))]) [6, 7, 8, 1, 0] rfl ?_
            exact ih (v + 1) ((r) ||| (0)) (by omega)  (by rw [gfor_succ, show (fRingM S g) v r = (r) ||| (0) from by unfold fRingM oneM othM; (first | rw [if_pos h88_12] | rw [if_neg h88_12]); all_goals (first | rfl | ((first | rw [if_pos h43_5] | rw [if_neg h43_5]); (first | rw [if_pos h64_9] | rw [if_neg h64_9]); all_goals rfl))] at kk; exact kk)
          · refine g_iconst K 1 dX6_ringOf_91 (by decide +kernel) ?_
            refine g_goto (tgt := 96) K dX6_ringOf_92 (by decide) ?_
            refine g_istore (lo' := [(8, .int (nI (1))), (7, .int (nI (0))), (6, .int (nI (0))), (5, .int (nI (S 27 (v)))), (0, .ref (g_ad X 22)), (1, .int (nI (p))), (2, .int (nI (g))), (3, .int (nI (r))), (4, .int (nI (v)))]) K dX6_ringOf_96 (by decide) rfl ?_
            refine g_iload_n K 7 dX6_ringOf_98 rfl ?_
            refine g_iload K 0 dX6_ringOf_99 rfl ?_
            refine g_if_eq (tgt := 118) (a := 1) K dX6_ringOf_101 (by decide) (by omega) (fun h101_14 => absurd h101_14 (by omega)) (fun h101_14 => ?_)
            refine g_iload K 2 dX6_ringOf_104 rfl ?_
            refine g_iload K 1 dX6_ringOf_106 rfl ?_
            refine g_icmp_eq (tgt := 118) (a := 0) (b := 0) K dX6_ringOf_108 (by decide) (by omega) (by omega) (fun h108_15 => ?_) (fun h108_15 => absurd h108_15 (by omega))
            refine g_iconst K 0 dX6_ringOf_118 (by decide +kernel) ?_
            refine g_ior (a := r) (b := 0) K dX6_ringOf_119 ?_
            refine g_istore_n (lo' := [(3, .int (nI ((r) ||| (0)))), (8, .int (nI (1))), (7, .int (nI (0))), (6, .int (nI (0))), (5, .int (nI (S 27 (v)))), (0, .ref (g_ad X 22)), (1, .int (nI (p))), (2, .int (nI (g))), (4, .int (nI (v)))]) K dX6_ringOf_120 (by decide) rfl ?_
            refine g_iinc (a := v) (b := v + 1) (lo' := [(4, .int (nI (v + 1))), (3, .int (nI ((r) ||| (0)))), (8, .int (nI (1))), (7, .int (nI (0))), (6, .int (nI (0))), (5, .int (nI (S 27 (v)))), (0, .ref (g_ad X 22)), (1, .int (nI (p))), (2, .int (nI (g)))]) K 8 dX6_ringOf_121 rfl (gi_inc _) (by decide) rfl ?_
            refine g_goto (tgt := 16) K dX6_ringOf_124 (by decide) ?_
            refine g_loc (lo' := [(0, .ref (g_ad X 22)), (1, .int (nI (p))), (2, .int (nI (g))), (3, .int (nI ((r) ||| (0)))), (4, .int (nI (v + 1)))]) [6, 7, 8, 1, 0] rfl ?_
            exact ih (v + 1) ((r) ||| (0)) (by omega)  (by rw [gfor_succ, show (fRingM S g) v r = (r) ||| (0) from by unfold fRingM oneM othM; (first | rw [if_pos h88_12] | rw [if_neg h88_12]); all_goals (first | rfl | ((first | rw [if_pos h43_5] | rw [if_neg h43_5]); (first | rw [if_pos h64_9] | rw [if_neg h64_9]); all_goals rfl))] at kk; exact kk)
        · refine g_iconst K 1 dX6_ringOf_67 (by decide +kernel) ?_
          refine g_goto (tgt := 72) K dX6_ringOf_68 (by decide) ?_
          refine g_istore (lo' := [(7, .int (nI (1))), (6, .int (nI (0))), (5, .int (nI (S 27 (v)))), (0, .ref (g_ad X 22)), (1, .int (nI (p))), (2, .int (nI (g))), (3, .int (nI (r))), (4, .int (nI (v)))]) K dX6_ringOf_72 (by decide) rfl ?_
          refine g_aload_n K 3 dX6_ringOf_74 rfl ?_
          refine g_getI (q := 22) (ci := 6) (k := 10) (N := 17) (C := RX6) (T := TX6) (ref := "ValveWalkModel") K rfl rfl rfl (by decide) hin6 (by decide +kernel) rfl dX6_ringOf_75 ?_
          refine g_aload_n K 3 dX6_ringOf_78 rfl ?_
          refine g_getI (q := 22) (ci := 6) (k := 11) (N := 17) (C := RX6) (T := TX6) (ref := "ValveWalkModel") K rfl rfl rfl (by decide) hin6 (by decide +kernel) rfl dX6_ringOf_79 ?_
          refine g_ior (a := S 22 10) (b := S 22 11) K dX6_ringOf_82 ?_
          have hor := or12 msh mst
          refine g_iload K 7 dX6_ringOf_83 rfl ?_
          refine g_ishr (a := (S 22 10) ||| (S 22 11)) (b := v) K (by omega) (by omega) dX6_ringOf_85 ?_
          refine g_iconst K 1 dX6_ringOf_86 (by decide +kernel) ?_
          refine g_iand (a := ((S 22 10) ||| (S 22 11)) >>> (v)) (b := 1) K dX6_ringOf_87 ?_
          have hL87_16 := @Nat.and_le_left (((S 22 10) ||| (S 22 11)) >>> (v)) (1)
          have hR87_17 := @Nat.and_le_right (((S 22 10) ||| (S 22 11)) >>> (v)) (1)
          refine g_if_ne (tgt := 95) (a := (((S 22 10) ||| (S 22 11)) >>> (v)) &&& (1)) K dX6_ringOf_88 (by decide) (by omega) (fun h88_18 => ?_) (fun h88_18 => ?_)
          · refine g_iconst K 0 dX6_ringOf_95 (by decide +kernel) ?_
            refine g_istore (lo' := [(8, .int (nI (0))), (7, .int (nI (1))), (6, .int (nI (0))), (5, .int (nI (S 27 (v)))), (0, .ref (g_ad X 22)), (1, .int (nI (p))), (2, .int (nI (g))), (3, .int (nI (r))), (4, .int (nI (v)))]) K dX6_ringOf_96 (by decide) rfl ?_
            refine g_iload_n K 7 dX6_ringOf_98 rfl ?_
            refine g_iload K 0 dX6_ringOf_99 rfl ?_
            refine g_if_eq (tgt := 118) (a := 0) K dX6_ringOf_101 (by decide) (by omega) (fun h101_19 => ?_) (fun h101_19 => absurd h101_19 (by omega))
            refine g_iconst K 0 dX6_ringOf_118 (by decide +kernel) ?_
            refine g_ior (a := r) (b := 0) K dX6_ringOf_119 ?_
            refine g_istore_n (lo' := [(3, .int (nI ((r) ||| (0)))), (8, .int (nI (0))), (7, .int (nI (1))), (6, .int (nI (0))), (5, .int (nI (S 27 (v)))), (0, .ref (g_ad X 22)), (1, .int (nI (p))), (2, .int (nI (g))), (4, .int (nI (v)))]) K dX6_ringOf_120 (by decide) rfl ?_
            refine g_iinc (a := v) (b := v + 1) (lo' := [(4, .int (nI (v + 1))), (3, .int (nI ((r) ||| (0)))), (8, .int (nI (0))), (7, .int (nI (1))), (6, .int (nI (0))), (5, .int (nI (S 27 (v)))), (0, .ref (g_ad X 22)), (1, .int (nI (p))), (2, .int (nI (g)))]) K 8 dX6_ringOf_121 rfl (gi_inc _) (by decide) rfl ?_
            refine g_goto (tgt := 16) K dX6_ringOf_124 (by decide) ?_
            refine g_loc (lo' := [(0, .ref (g_ad X 22)), (1, .int (nI (p))), (2, .int (nI (g))), (3, .int (nI ((r) ||| (0)))), (4, .int (nI (v + 1)))]) [6, 7, 8, 1, 0] rfl ?_
            exact ih (v + 1) ((r) ||| (0)) (by omega)  (by rw [gfor_succ, show (fRingM S g) v r = (r) ||| (0) from by unfold fRingM oneM othM; (first | rw [if_pos h88_18] | rw [if_neg h88_18]); all_goals (first | rfl | ((first | rw [if_pos h43_5] | rw [if_neg h43_5]); (first | rw [if_pos h64_9] | rw [if_neg h64_9]); all_goals rfl))] at kk; exact kk)
          · refine g_iconst K 1 dX6_ringOf_91 (by decide +kernel) ?_
            refine g_goto (tgt := 96) K dX6_ringOf_92 (by decide) ?_
            refine g_istore (lo' := [(8, .int (nI (1))), (7, .int (nI (1))), (6, .int (nI (0))), (5, .int (nI (S 27 (v)))), (0, .ref (g_ad X 22)), (1, .int (nI (p))), (2, .int (nI (g))), (3, .int (nI (r))), (4, .int (nI (v)))]) K dX6_ringOf_96 (by decide) rfl ?_
            refine g_iload_n K 7 dX6_ringOf_98 rfl ?_
            refine g_iload K 0 dX6_ringOf_99 rfl ?_
            refine g_if_eq (tgt := 118) (a := 1) K dX6_ringOf_101 (by decide) (by omega) (fun h101_20 => absurd h101_20 (by omega)) (fun h101_20 => ?_)
            refine g_iload K 2 dX6_ringOf_104 rfl ?_
            refine g_iload K 1 dX6_ringOf_106 rfl ?_
            refine g_icmp_eq (tgt := 118) (a := 0) (b := 1) K dX6_ringOf_108 (by decide) (by omega) (by omega) (fun h108_21 => absurd h108_21 (by omega)) (fun h108_21 => ?_)
            refine g_iconst K 1 dX6_ringOf_111 (by decide +kernel) ?_
            refine g_iload K 8 dX6_ringOf_112 rfl ?_
            refine g_ishl (a := 1) (b := v) K (by omega) dX6_ringOf_114 ?_
            refine g_goto (tgt := 119) K dX6_ringOf_115 (by decide) ?_
            refine g_ior (a := r) (b := (1) <<< (v)) K dX6_ringOf_119 ?_
            refine g_istore_n (lo' := [(3, .int (nI ((r) ||| ((1) <<< (v))))), (8, .int (nI (1))), (7, .int (nI (1))), (6, .int (nI (0))), (5, .int (nI (S 27 (v)))), (0, .ref (g_ad X 22)), (1, .int (nI (p))), (2, .int (nI (g))), (4, .int (nI (v)))]) K dX6_ringOf_120 (by decide) rfl ?_
            refine g_iinc (a := v) (b := v + 1) (lo' := [(4, .int (nI (v + 1))), (3, .int (nI ((r) ||| ((1) <<< (v))))), (8, .int (nI (1))), (7, .int (nI (1))), (6, .int (nI (0))), (5, .int (nI (S 27 (v)))), (0, .ref (g_ad X 22)), (1, .int (nI (p))), (2, .int (nI (g)))]) K 8 dX6_ringOf_121 rfl (gi_inc _) (by decide) rfl ?_
            refine g_goto (tgt := 16) K dX6_ringOf_124 (by decide) ?_
            refine g_loc (lo' := [(0, .ref (g_ad X 22)), (1, .int (nI (p))), (2, .int (nI (g))), (3, .int (nI ((r) ||| ((1) <<< (v))))), (4, .int (nI (v + 1)))]) [6, 7, 8, 1, 0] rfl ?_
            exact ih (v + 1) ((r) ||| ((1) <<< (v))) (by omega)  (by rw [gfor_succ, show (fRingM S g) v r = (r) ||| ((1) <<< (v)) from by unfold fRingM oneM othM; (first | rw [if_pos h88_18] | rw [if_neg h88_18]); all_goals (first | rfl | ((first | rw [if_pos h43_5] | rw [if_neg h43_5]); (first | rw [if_pos h64_9] | rw [if_neg h64_9]); all_goals rfl))] at kk; exact kk)
      · refine g_iconst K 1 dX6_ringOf_46 (by decide +kernel) ?_
        refine g_goto (tgt := 51) K dX6_ringOf_47 (by decide) ?_
        refine g_istore (lo' := [(6, .int (nI (1))), (5, .int (nI (S 27 (v)))), (0, .ref (g_ad X 22)), (1, .int (nI (p))), (2, .int (nI (g))), (3, .int (nI (r))), (4, .int (nI (v)))]) K dX6_ringOf_51 (by decide) rfl ?_
        refine g_iload_n K 4 dX6_ringOf_53 rfl ?_
        refine g_iconst K 1 dX6_ringOf_54 (by decide +kernel) ?_
        refine g_aload_n K 2 dX6_ringOf_55 rfl ?_
        refine g_getR (q' := 23) (q := 22) (ci := 6) (k := 5) (N := 17) (C := RX6) (T := TX6) (ref := "ValveWalkModel") K rfl rfl rfl (by decide) hin6 (by decide +kernel) rfl dX6_ringOf_56 ?_
        refine g_iload K 1 dX6_ringOf_59 rfl ?_
        refine g_ald (q := 23) (n := 32) (i := S 27 (v)) K rfl (by decide) (by omega) dX6_ringOf_61 ?_
        have hv61_22 := b23 (S 27 (v))
        have h23 := b23 (S 27 v)
        refine g_ishl (a := 1) (b := S 23 (S 27 (v))) K (by omega) dX6_ringOf_62 ?_
        refine g_iand (a := g) (b := (1) <<< (S 23 (S 27 (v)))) K dX6_ringOf_63 ?_
        have hL63_23 := @Nat.and_le_left (g) ((1) <<< (S 23 (S 27 (v))))
        have hR63_24 := @Nat.and_le_right (g) ((1) <<< (S 23 (S 27 (v))))
        refine g_if_eq (tgt := 71) (a := (g) &&& ((1) <<< (S 23 (S 27 (v))))) K dX6_ringOf_64 (by decide) (by omega) (fun h64_25 => ?_) (fun h64_25 => ?_)
        · refine g_iconst K 0 dX6_ringOf_71 (by decide +kernel) ?_
          refine g_istore (lo' := [(7, .int (nI (0))), (6, .int (nI (1))), (5, .int (nI (S 27 (v)))), (0, .ref (g_ad X 22)), (1, .int (nI (p))), (2, .int (nI (g))), (3, .int (nI (r))), (4, .int (nI (v)))]) K dX6_ringOf_72 (by decide) rfl ?_
          refine g_aload_n K 3 dX6_ringOf_74 rfl ?_
          refine g_getI (q := 22) (ci := 6) (k := 10) (N := 17) (C := RX6) (T := TX6) (ref := "ValveWalkModel") K rfl rfl rfl (by decide) hin6 (by decide +kernel) rfl dX6_ringOf_75 ?_
          refine g_aload_n K 3 dX6_ringOf_78 rfl ?_
          refine g_getI (q := 22) (ci := 6) (k := 11) (N := 17) (C := RX6) (T := TX6) (ref := "ValveWalkModel") K rfl rfl rfl (by decide) hin6 (by decide +kernel) rfl dX6_ringOf_79 ?_
          refine g_ior (a := S 22 10) (b := S 22 11) K dX6_ringOf_82 ?_
          have hor := or12 msh mst
          refine g_iload K 7 dX6_ringOf_83 rfl ?_
          refine g_ishr (a := (S 22 10) ||| (S 22 11)) (b := v) K (by omega) (by omega) dX6_ringOf_85 ?_
          refine g_iconst K 1 dX6_ringOf_86 (by decide +kernel) ?_
          refine g_iand (a := ((S 22 10) ||| (S 22 11)) >>> (v)) (b := 1) K dX6_ringOf_87 ?_
          have hL87_26 := @Nat.and_le_left (((S 22 10) ||| (S 22 11)) >>> (v)) (1)
          have hR87_27 := @Nat.and_le_right (((S 22 10) ||| (S 22 11)) >>> (v)) (1)
          refine g_if_ne (tgt := 95) (a := (((S 22 10) ||| (S 22 11)) >>> (v)) &&& (1)) K dX6_ringOf_88 (by decide) (by omega) (fun h88_28 => ?_) (fun h88_28 => ?_)
          · refine g_iconst K 0 dX6_ringOf_95 (by decide +kernel) ?_
            refine g_istore (lo' := [(8, .int (nI (0))), (7, .int (nI (0))), (6, .int (nI (1))), (5, .int (nI (S 27 (v)))), (0, .ref (g_ad X 22)), (1, .int (nI (p))), (2, .int (nI (g))), (3, .int (nI (r))), (4, .int (nI (v)))]) K dX6_ringOf_96 (by decide) rfl ?_
            refine g_iload_n K 7 dX6_ringOf_98 rfl ?_
            refine g_iload K 0 dX6_ringOf_99 rfl ?_
            refine g_if_eq (tgt := 118) (a := 0) K dX6_ringOf_101 (by decide) (by omega) (fun h101_29 => ?_) (fun h101_29 => absurd h101_29 (by omega))
            refine g_iconst K 0 dX6_ringOf_118 (by decide +kernel) ?_
            refine g_ior (a := r) (b := 0) K dX6_ringOf_119 ?_
            refine g_istore_n (lo' := [(3, .int (nI ((r) ||| (0)))), (8, .int (nI (0))), (7, .int (nI (0))), (6, .int (nI (1))), (5, .int (nI (S 27 (v)))), (0, .ref (g_ad X 22)), (1, .int (nI (p))), (2, .int (nI (g))), (4, .int (nI (v)))]) K dX6_ringOf_120 (by decide) rfl ?_
            refine g_iinc (a := v) (b := v + 1) (lo' := [(4, .int (nI (v + 1))), (3, .int (nI ((r) ||| (0)))), (8, .int (nI (0))), (7, .int (nI (0))), (6, .int (nI (1))), (5, .int (nI (S 27 (v)))), (0, .ref (g_ad X 22)), (1, .int (nI (p))), (2, .int (nI (g)))]) K 8 dX6_ringOf_121 rfl (gi_inc _) (by decide) rfl ?_
            refine g_goto (tgt := 16) K dX6_ringOf_124 (by decide) ?_
            refine g_loc (lo' := [(0, .ref (g_ad X 22)), (1, .int (nI (p))), (2, .int (nI (g))), (3, .int (nI ((r) ||| (0)))), (4, .int (nI (v + 1)))]) [6, 7, 8, 1, 0] rfl ?_
            exact ih (v + 1) ((r) ||| (0)) (by omega)  (by rw [gfor_succ, show (fRingM S g) v r = (r) ||| (0) from by unfold fRingM oneM othM; (first | rw [if_pos h88_28] | rw [if_neg h88_28]); all_goals (first | rfl | ((first | rw [if_pos h43_5] | rw [if_neg h43_5]); (first | rw [if_pos h64_25] | rw [if_neg h64_25]); all_goals rfl))] at kk; exact kk)
          · refine g_iconst K 1 dX6_ringOf_91 (by decide +kernel) ?_
            refine g_goto (tgt := 96) K dX6_ringOf_92 (by decide) ?_
            refine g_istore (lo' := [(8, .int (nI (1))), (7, .int (nI (0))), (6, .int (nI (1))), (5, .int (nI (S 27 (v)))), (0, .ref (g_ad X 22)), (1, .int (nI (p))), (2, .int (nI (g))), (3, .int (nI (r))), (4, .int (nI (v)))]) K dX6_ringOf_96 (by decide) rfl ?_
            refine g_iload_n K 7 dX6_ringOf_98 rfl ?_
            refine g_iload K 0 dX6_ringOf_99 rfl ?_
            refine g_if_eq (tgt := 118) (a := 1) K dX6_ringOf_101 (by decide) (by omega) (fun h101_30 => absurd h101_30 (by omega)) (fun h101_30 => ?_)
            refine g_iload K 2 dX6_ringOf_104 rfl ?_
            refine g_iload K 1 dX6_ringOf_106 rfl ?_
            refine g_icmp_eq (tgt := 118) (a := 1) (b := 0) K dX6_ringOf_108 (by decide) (by omega) (by omega) (fun h108_31 => absurd h108_31 (by omega)) (fun h108_31 => ?_)
            refine g_iconst K 1 dX6_ringOf_111 (by decide +kernel) ?_
            refine g_iload K 8 dX6_ringOf_112 rfl ?_
            refine g_ishl (a := 1) (b := v) K (by omega) dX6_ringOf_114 ?_
            refine g_goto (tgt := 119) K dX6_ringOf_115 (by decide) ?_
            refine g_ior (a := r) (b := (1) <<< (v)) K dX6_ringOf_119 ?_
            refine g_istore_n (lo' := [(3, .int (nI ((r) ||| ((1) <<< (v))))), (8, .int (nI (1))), (7, .int (nI (0))), (6, .int (nI (1))), (5, .int (nI (S 27 (v)))), (0, .ref (g_ad X 22)), (1, .int (nI (p))), (2, .int (nI (g))), (4, .int (nI (v)))]) K dX6_ringOf_120 (by decide) rfl ?_
            refine g_iinc (a := v) (b := v + 1) (lo' := [(4, .int (nI (v + 1))), (3, .int (nI ((r) ||| ((1) <<< (v))))), (8, .int (nI (1))), (7, .int (nI (0))), (6, .int (nI (1))), (5, .int (nI (S 27 (v)))), (0, .ref (g_ad X 22)), (1, .int (nI (p))), (2, .int (nI (g)))]) K 8 dX6_ringOf_121 rfl (gi_inc _) (by decide) rfl ?_
            refine g_goto (tgt := 16) K dX6_ringOf_124 (by decide) ?_
            refine g_loc (lo' := [(0, .ref (g_ad X 22)), (1, .int (nI (p))), (2, .int (nI (g))), (3, .int (nI ((r) ||| ((1) <<< (v))))), (4, .int (nI (v + 1)))]) [6, 7, 8, 1, 0] rfl ?_
            exact ih (v + 1) ((r) ||| ((1) <<< (v))) (by omega)  (by rw [gfor_succ, show (fRingM S g) v r = (r) ||| ((1) <<< (v)) from by unfold fRingM oneM othM; (first | rw [if_pos h88_28] | rw [if_neg h88_28]); all_goals (first | rfl | ((first | rw [if_pos h43_5] | rw [if_neg h43_5]); (first | rw [if_pos h64_25] | rw [if_neg h64_25]); all_goals rfl))] at kk; exact kk)
        · refine g_iconst K 1 dX6_ringOf_67 (by decide +kernel) ?_
          refine g_goto (tgt := 72) K dX6_ringOf_68 (by decide) ?_
          refine g_istore (lo' := [(7, .int (nI (1))), (6, .int (nI (1))), (5, .int (nI (S 27 (v)))), (0, .ref (g_ad X 22)), (1, .int (nI (p))), (2, .int (nI (g))), (3, .int (nI (r))), (4, .int (nI (v)))]) K dX6_ringOf_72 (by decide) rfl ?_
          refine g_aload_n K 3 dX6_ringOf_74 rfl ?_
          refine g_getI (q := 22) (ci := 6) (k := 10) (N := 17) (C := RX6) (T := TX6) (ref := "ValveWalkModel") K rfl rfl rfl (by decide) hin6 (by decide +kernel) rfl dX6_ringOf_75 ?_
          refine g_aload_n K 3 dX6_ringOf_78 rfl ?_
          refine g_getI (q := 22) (ci := 6) (k := 11) (N := 17) (C := RX6) (T := TX6) (ref := "ValveWalkModel") K rfl rfl rfl (by decide) hin6 (by decide +kernel) rfl dX6_ringOf_79 ?_
          refine g_ior (a := S 22 10) (b := S 22 11) K dX6_ringOf_82 ?_
          have hor := or12 msh mst
          refine g_iload K 7 dX6_ringOf_83 rfl ?_
          refine g_ishr (a := (S 22 10) ||| (S 22 11)) (b := v) K (by omega) (by omega) dX6_ringOf_85 ?_
          refine g_iconst K 1 dX6_ringOf_86 (by decide +kernel) ?_
          refine g_iand (a := ((S 22 10) ||| (S 22 11)) >>> (v)) (b := 1) K dX6_ringOf_87 ?_
          have hL87_32 := @Nat.and_le_left (((S 22 10) ||| (S 22 11)) >>> (v)) (1)
          have hR87_33 := @Nat.and_le_right (((S 22 10) ||| (S 22 11)) >>> (v)) (1)
          refine g_if_ne (tgt := 95) (a := (((S 22 10) ||| (S 22 11)) >>> (v)) &&& (1)) K dX6_ringOf_88 (by decide) (by omega) (fun h88_34 => ?_) (fun h88_34 => ?_)
          · refine g_iconst K 0 dX6_ringOf_95 (by decide +kernel) ?_
            refine g_istore (lo' := [(8, .int (nI (0))), (7, .int (nI (1))), (6, .int (nI (1))), (5, .int (nI (S 27 (v)))), (0, .ref (g_ad X 22)), (1, .int (nI (p))), (2, .int (nI (g))), (3, .int (nI (r))), (4, .int (nI (v)))]) K dX6_ringOf_96 (by decide) rfl ?_
            refine g_iload_n K 7 dX6_ringOf_98 rfl ?_
            refine g_iload K 0 dX6_ringOf_99 rfl ?_
            refine g_if_eq (tgt := 118) (a := 0) K dX6_ringOf_101 (by decide) (by omega) (fun h101_35 => ?_) (fun h101_35 => absurd h101_35 (by omega))
            refine g_iconst K 0 dX6_ringOf_118 (by decide +kernel) ?_
            refine g_ior (a := r) (b := 0) K dX6_ringOf_119 ?_
            refine g_istore_n (lo' := [(3, .int (nI ((r) ||| (0)))), (8, .int (nI (0))), (7, .int (nI (1))), (6, .int (nI (1))), (5, .int (nI (S 27 (v)))), (0, .ref (g_ad X 22)), (1, .int (nI (p))), (2, .int (nI (g))), (4, .int (nI (v)))]) K dX6_ringOf_120 (by decide) rfl ?_
            refine g_iinc (a := v) (b := v + 1) (lo' := [(4, .int (nI (v + 1))), (3, .int (nI ((r) ||| (0)))), (8, .int (nI (0))), (7, .int (nI (1))), (6, .int (nI (1))), (5, .int (nI (S 27 (v)))), (0, .ref (g_ad X 22)), (1, .int (nI (p))), (2, .int (nI (g)))]) K 8 dX6_ringOf_121 rfl (gi_inc _) (by decide) rfl ?_
            refine g_goto (tgt := 16) K dX6_ringOf_124 (by decide) ?_
            refine g_loc (lo' := [(0, .ref (g_ad X 22)), (1, .int (nI (p))), (2, .int (nI (g))), (3, .int (nI ((r) ||| (0)))), (4, .int (nI (v + 1)))]) [6, 7, 8, 1, 0] rfl ?_
            exact ih (v + 1) ((r) ||| (0)) (by omega)  (by rw [gfor_succ, show (fRingM S g) v r = (r) ||| (0) from by unfold fRingM oneM othM; (first | rw [if_pos h88_34] | rw [if_neg h88_34]); all_goals (first | rfl | ((first | rw [if_pos h43_5] | rw [if_neg h43_5]); (first | rw [if_pos h64_25] | rw [if_neg h64_25]); all_goals rfl))] at kk; exact kk)
          · refine g_iconst K 1 dX6_ringOf_91 (by decide +kernel) ?_
            refine g_goto (tgt := 96) K dX6_ringOf_92 (by decide) ?_
            refine g_istore (lo' := [(8, .int (nI (1))), (7, .int (nI (1))), (6, .int (nI (1))), (5, .int (nI (S 27 (v)))), (0, .ref (g_ad X 22)), (1, .int (nI (p))), (2, .int (nI (g))), (3, .int (nI (r))), (4, .int (nI (v)))]) K dX6_ringOf_96 (by decide) rfl ?_
            refine g_iload_n K 7 dX6_ringOf_98 rfl ?_
            refine g_iload K 0 dX6_ringOf_99 rfl ?_
            refine g_if_eq (tgt := 118) (a := 1) K dX6_ringOf_101 (by decide) (by omega) (fun h101_36 => absurd h101_36 (by omega)) (fun h101_36 => ?_)
            refine g_iload K 2 dX6_ringOf_104 rfl ?_
            refine g_iload K 1 dX6_ringOf_106 rfl ?_
            refine g_icmp_eq (tgt := 118) (a := 1) (b := 1) K dX6_ringOf_108 (by decide) (by omega) (by omega) (fun h108_37 => ?_) (fun h108_37 => absurd h108_37 (by omega))
            refine g_iconst K 0 dX6_ringOf_118 (by decide +kernel) ?_
            refine g_ior (a := r) (b := 0) K dX6_ringOf_119 ?_
            refine g_istore_n (lo' := [(3, .int (nI ((r) ||| (0)))), (8, .int (nI (1))), (7, .int (nI (1))), (6, .int (nI (1))), (5, .int (nI (S 27 (v)))), (0, .ref (g_ad X 22)), (1, .int (nI (p))), (2, .int (nI (g))), (4, .int (nI (v)))]) K dX6_ringOf_120 (by decide) rfl ?_
            refine g_iinc (a := v) (b := v + 1) (lo' := [(4, .int (nI (v + 1))), (3, .int (nI ((r) ||| (0)))), (8, .int (nI (1))), (7, .int (nI (1))), (6, .int (nI (1))), (5, .int (nI (S 27 (v)))), (0, .ref (g_ad X 22)), (1, .int (nI (p))), (2, .int (nI (g)))]) K 8 dX6_ringOf_121 rfl (gi_inc _) (by decide) rfl ?_
            refine g_goto (tgt := 16) K dX6_ringOf_124 (by decide) ?_
            refine g_loc (lo' := [(0, .ref (g_ad X 22)), (1, .int (nI (p))), (2, .int (nI (g))), (3, .int (nI ((r) ||| (0)))), (4, .int (nI (v + 1)))]) [6, 7, 8, 1, 0] rfl ?_
            exact ih (v + 1) ((r) ||| (0)) (by omega)  (by rw [gfor_succ, show (fRingM S g) v r = (r) ||| (0) from by unfold fRingM oneM othM; (first | rw [if_pos h88_34] | rw [if_neg h88_34]); all_goals (first | rfl | ((first | rw [if_pos h43_5] | rw [if_neg h43_5]); (first | rw [if_pos h64_25] | rw [if_neg h64_25]); all_goals rfl))] at kk; exact kk)

set_option maxHeartbeats 4000000 in
set_option maxRecDepth 100000 in
theorem cX6_ringOf_k (Z : gZ) (S : Nat → Nat → Nat) (p : Nat) (hm : wfM S) (hp : p < 16) : gMd Z yX6_ringOf wsX6_ringOf { frames := 2, cells := 0, slots := 0, locals := 52 } [.ref (gz_ad Z 22), .int (nI (p))] S (ringM S p) (S) := by
  refine gMd_of (cc := cX6_ringOf) (maxL := 9) (ret := (some .int)) (by decide +kernel) rfl (Nat.le_of_ble_eq_true rfl) (Or.inl rfl) (fun X hZ hR K hret => ?_)
  subst hZ
  have K : gOk X cX6_ringOf 9 wsX6_ringOf RX6 := K
  have hRf : 2 ≤ (g_R X).frames := gR_f hR rfl
  have hRl : 52 ≤ (g_R X).locals := gR_l hR rfl
  have hin6 : ∀ w ∈ u_ws RX6 TX6 17, w ∈ wsX6_ringOf := by decide +kernel
  obtain ⟨m1, m2, m3, m4, msh, mst, b23, b24, b25, b26, b27⟩ := id hm
  show gG X 0 [(0, .ref (g_ad X 22)), (1, .int (nI (p)))] [] S
  refine g_aload_n K 0 dX6_ringOf_0 rfl ?_
  refine g_iload_n K 1 dX6_ringOf_1 rfl ?_
  refine g_callSd (As := [.int (nI (p))]) (rest := [.ref (g_ad X 22)]) K (cX6_partOf_k (g_z X) S p (by omega)) (va_cwS 1 K.1.2.2.2.2 gX6_ringOf_X6_partOf rfl rfl rfl (by decide +kernel) ⟨Nat.le_trans (Nat.le_of_ble_eq_true rfl) hRf, Nat.le_trans (Nat.le_of_ble_eq_true rfl) hRl⟩) rfl rfl (Nat.le_of_ble_eq_true rfl) dX6_ringOf_2 ?_
  have hk2 : 1 <<< (12 + p) < 268435456 := Nat.lt_of_lt_of_le (shl1 (show 12 + p < 28 by omega)) (by decide)
  refine g_iconst K 2 dX6_ringOf_5 (by decide +kernel) ?_
  refine g_iconst K 0 dX6_ringOf_6 (by decide +kernel) ?_
  refine g_callVd (q := 22) (ci := 6) (As := [.int (nI (1 <<< (12 + p))), .int (nI (2)), .int (nI (0))]) (rest := []) (C := RX6) (T := TX6) (N := 17) K (cX6_spread_k (g_z X) S (1 <<< (12 + p)) 2 0 (hm) (by omega) (by omega) (by omega)) (cwV 3 K.1.2.2.2.2 gX6_ringOf_X6_spread rfl rfl rfl (by decide +kernel) ⟨Nat.le_trans (Nat.le_of_ble_eq_true rfl) hRf, Nat.le_trans (Nat.le_of_ble_eq_true rfl) hRl⟩) rfl rfl rfl rfl (Nat.le_of_ble_eq_true rfl) dX6_ringOf_7 ?_
  have hgl := regM_lt hm (show p < 16 by omega)
  refine g_topE (regM S p) rfl ?_
  refine g_istore_n (lo' := [(2, .int (nI (regM S p))), (0, .ref (g_ad X 22)), (1, .int (nI (p)))]) K dX6_ringOf_10 (by decide) rfl ?_
  refine g_iconst K 0 dX6_ringOf_11 (by decide +kernel) ?_
  refine g_istore_n (lo' := [(3, .int (nI (0))), (2, .int (nI (regM S p))), (0, .ref (g_ad X 22)), (1, .int (nI (p)))]) K dX6_ringOf_12 (by decide) rfl ?_
  refine g_iconst K 0 dX6_ringOf_13 (by decide +kernel) ?_
  refine g_istore (lo' := [(4, .int (nI (0))), (3, .int (nI (0))), (2, .int (nI (regM S p))), (0, .ref (g_ad X 22)), (1, .int (nI (p)))]) K dX6_ringOf_14 (by decide) rfl ?_
  refine g_loc (lo' := [(0, .ref (g_ad X 22)), (1, .int (nI (p))), (2, .int (nI (regM S p))), (3, .int (nI (0))), (4, .int (nI (0)))]) [3, 4, 2, 1, 0] rfl ?_
  refine L_ringM X S p (regM S p) K (Nat.le_trans (Nat.le_of_ble_eq_true rfl) hRf) (Nat.le_trans (Nat.le_of_ble_eq_true rfl) hRl) (hm) (by omega)  (S 22 3) 0 0 (by omega)  ?_
  refine g_iload_n K 3 dX6_ringOf_127 rfl ?_
  exact g_retd hret dX6_ringOf_128 rfl rfl

set_option maxHeartbeats 4000000 in
set_option maxRecDepth 100000 in
theorem cX6_noRing_k (Z : gZ) (S : Nat → Nat → Nat) (p : Nat) (hm : wfM S) (hup : p < 4294967296) : gMd Z yX6_noRing wsX6_noRing { frames := 2, cells := 0, slots := 0, locals := 52 } [.ref (gz_ad Z 22), .int (nI (p))] S (rf (nrK S p)) (va_up S 22 (va_up (S 22) 0 (nrK S p))) := by
  refine gMd_of (cc := cX6_noRing) (maxL := 2) (ret := (some .boolean)) (by decide +kernel) rfl (Nat.le_of_ble_eq_true rfl) (Or.inr ⟨rfl, rf_le _⟩) (fun X hZ hR K hret => ?_)
  subst hZ
  have K : gOk X cX6_noRing 2 wsX6_noRing RX6 := K
  have hRf : 2 ≤ (g_R X).frames := gR_f hR rfl
  have hRl : 52 ≤ (g_R X).locals := gR_l hR rfl
  have hin6 : ∀ w ∈ u_ws RX6 TX6 17, w ∈ wsX6_noRing := by decide +kernel
  obtain ⟨m1, m2, m3, m4, msh, mst, b23, b24, b25, b26, b27⟩ := id hm
  show gG X 0 [(0, .ref (g_ad X 22)), (1, .int (nI (p)))] [] S
  refine g_aload_n K 0 dX6_noRing_0 rfl ?_
  refine g_aload_n K 0 dX6_noRing_1 rfl ?_
  refine g_iload_n K 1 dX6_noRing_2 rfl ?_
  refine g_callVd (q := 22) (ci := 6) (As := [.int (nI (p))]) (rest := [.ref (g_ad X 22)]) (C := RX6) (T := TX6) (N := 17) K (cX6_isPipe_k (g_z X) S p (hm) (by omega)) (cwV 1 K.1.2.2.2.2 gX6_noRing_X6_isPipe rfl rfl rfl (by decide +kernel) ⟨Nat.le_trans (Nat.le_of_ble_eq_true rfl) hRf, Nat.le_trans (Nat.le_of_ble_eq_true rfl) hRl⟩) rfl rfl rfl rfl (Nat.le_of_ble_eq_true rfl) dX6_noRing_3 ?_
  have hf3_1 := isN_spec (S 22 2) p
  refine g_if_ne (tgt := 13) (a := isN (S 22 2) p) K dX6_noRing_6 (by decide) (by omega) (fun h6_2 => ?_) (fun h6_2 => ?_)
  · refine g_aload_n K 0 dX6_noRing_13 rfl ?_
    refine g_iload_n K 1 dX6_noRing_14 rfl ?_
    refine g_callSd (As := [.int (nI (p))]) (rest := [.ref (g_ad X 22), .ref (g_ad X 22)]) K (cX6_partOf_k (g_z X) S p (by omega)) (va_cwS 1 K.1.2.2.2.2 gX6_noRing_X6_partOf rfl rfl rfl (by decide +kernel) ⟨Nat.le_trans (Nat.le_of_ble_eq_true rfl) hRf, Nat.le_trans (Nat.le_of_ble_eq_true rfl) hRl⟩) rfl rfl (Nat.le_of_ble_eq_true rfl) dX6_noRing_15 ?_
    have hk2 : 1 <<< (12 + p) < 268435456 := Nat.lt_of_lt_of_le (shl1 (show 12 + p < 28 by omega)) (by decide)
    refine g_iconst K 2 dX6_noRing_18 (by decide +kernel) ?_
    refine g_iconst K 0 dX6_noRing_19 (by decide +kernel) ?_
    refine g_callVd (q := 22) (ci := 6) (As := [.int (nI (1 <<< (12 + p))), .int (nI (2)), .int (nI (0))]) (rest := [.ref (g_ad X 22)]) (C := RX6) (T := TX6) (N := 17) K (cX6_spread_k (g_z X) S (1 <<< (12 + p)) 2 0 (hm) (by omega) (by omega) (by omega)) (cwV 3 K.1.2.2.2.2 gX6_noRing_X6_spread rfl rfl rfl (by decide +kernel) ⟨Nat.le_trans (Nat.le_of_ble_eq_true rfl) hRf, Nat.le_trans (Nat.le_of_ble_eq_true rfl) hRl⟩) rfl rfl rfl rfl (Nat.le_of_ble_eq_true rfl) dX6_noRing_20 ?_
    have hgl := regM_lt hm (show p < 16 by omega)
    refine g_topE (regM S p) rfl ?_
    refine g_aload_n K 0 dX6_noRing_23 rfl ?_
    refine g_getI (q := 22) (ci := 6) (k := 4) (N := 17) (C := RX6) (T := TX6) (ref := "ValveWalkModel") K rfl rfl rfl (by decide) hin6 (by decide +kernel) rfl dX6_noRing_24 ?_
    refine g_iand (a := regM S p) (b := S 22 4) K dX6_noRing_27 ?_
    have hL27_3 := @Nat.and_le_left (regM S p) (S 22 4)
    have hR27_4 := @Nat.and_le_right (regM S p) (S 22 4)
    refine g_if_eq (tgt := 35) (a := (regM S p) &&& (S 22 4)) K dX6_noRing_28 (by decide) (by omega) (fun h28_5 => ?_) (fun h28_5 => ?_)
    · refine g_iconst K 0 dX6_noRing_35 (by decide +kernel) ?_
      refine g_callVd (q := 22) (ci := 6) (As := [.int (nI (0))]) (rest := []) (C := RX6) (T := TX6) (N := 17) K (cX6_refused_k (g_z X) S 0 (by omega)) (cwV 1 K.1.2.2.2.2 gX6_noRing_X6_refused rfl rfl rfl (by decide +kernel) ⟨Nat.le_trans (Nat.le_of_ble_eq_true rfl) hRf, Nat.le_trans (Nat.le_of_ble_eq_true rfl) hRl⟩) rfl rfl rfl rfl (Nat.le_of_ble_eq_true rfl) dX6_noRing_36 ?_
      refine g_cast (S' := (va_up S 22 (va_up (S 22) 0 (0)))) rfl rfl rfl ?_
      exact g_retd hret dX6_noRing_39 (by rw [(show nrK S p = 0 from by unfold nrK; first | rw [if_pos (by omega)] | rw [if_neg (by omega), if_pos (by assumption)] | rw [if_neg (by omega), if_neg (by assumption)])]; all_goals rfl) (by rw [(show nrK S p = 0 from by unfold nrK; first | rw [if_pos (by omega)] | rw [if_neg (by omega), if_pos (by assumption)] | rw [if_neg (by omega), if_neg (by assumption)])])
    · refine g_iconst K 2 dX6_noRing_31 (by decide +kernel) ?_
      refine g_goto (tgt := 36) K dX6_noRing_32 (by decide) ?_
      refine g_callVd (q := 22) (ci := 6) (As := [.int (nI (2))]) (rest := []) (C := RX6) (T := TX6) (N := 17) K (cX6_refused_k (g_z X) S 2 (by omega)) (cwV 1 K.1.2.2.2.2 gX6_noRing_X6_refused rfl rfl rfl (by decide +kernel) ⟨Nat.le_trans (Nat.le_of_ble_eq_true rfl) hRf, Nat.le_trans (Nat.le_of_ble_eq_true rfl) hRl⟩) rfl rfl rfl rfl (Nat.le_of_ble_eq_true rfl) dX6_noRing_36 ?_
      refine g_cast (S' := (va_up S 22 (va_up (S 22) 0 (2)))) rfl rfl rfl ?_
      exact g_retd hret dX6_noRing_39 (by rw [(show nrK S p = 2 from by unfold nrK; first | rw [if_pos (by omega)] | rw [if_neg (by omega), if_pos (by assumption)] | rw [if_neg (by omega), if_neg (by assumption)])]; all_goals rfl) (by rw [(show nrK S p = 2 from by unfold nrK; first | rw [if_pos (by omega)] | rw [if_neg (by omega), if_pos (by assumption)] | rw [if_neg (by omega), if_neg (by assumption)])])
  · refine g_iconst K 1 dX6_noRing_9 (by decide +kernel) ?_
    refine g_goto (tgt := 36) K dX6_noRing_10 (by decide) ?_
    refine g_callVd (q := 22) (ci := 6) (As := [.int (nI (1))]) (rest := []) (C := RX6) (T := TX6) (N := 17) K (cX6_refused_k (g_z X) S 1 (by omega)) (cwV 1 K.1.2.2.2.2 gX6_noRing_X6_refused rfl rfl rfl (by decide +kernel) ⟨Nat.le_trans (Nat.le_of_ble_eq_true rfl) hRf, Nat.le_trans (Nat.le_of_ble_eq_true rfl) hRl⟩) rfl rfl rfl rfl (Nat.le_of_ble_eq_true rfl) dX6_noRing_36 ?_
    refine g_cast (S' := (va_up S 22 (va_up (S 22) 0 (1)))) rfl rfl rfl ?_
    exact g_retd hret dX6_noRing_39 (by rw [(show nrK S p = 1 from by unfold nrK; first | rw [if_pos (by omega)] | rw [if_neg (by omega), if_pos (by assumption)] | rw [if_neg (by omega), if_neg (by assumption)])]; all_goals rfl) (by rw [(show nrK S p = 1 from by unfold nrK; first | rw [if_pos (by omega)] | rw [if_neg (by omega), if_pos (by assumption)] | rw [if_neg (by omega), if_neg (by assumption)])])

theorem nrK_p {S : Nat → Nat → Nat} {p : Nat} (h : nrK S p = 0) : p < S 22 2 := by
  have := isN_spec (S 22 2) p
  unfold nrK at h
  split at h
  · cases h
  · omega
set_option maxHeartbeats 4000000 in
set_option maxRecDepth 100000 in
theorem cX6_ring_k (Z : gZ) (S : Nat → Nat → Nat) (p : Nat) (hm : wfM S) (hup : p < 4294967296) (hk : nrK S p = 0) : gMd Z yX6_ring wsX6_ring { frames := 3, cells := 0, slots := 0, locals := 80 } [.ref (gz_ad Z 22), .int (nI (p))] S (ringM S p) (va_up S 22 (va_up (S 22) 0 (0))) := by
  refine gMd_of (cc := cX6_ring) (maxL := 2) (ret := (some .int)) (by decide +kernel) rfl (Nat.le_of_ble_eq_true rfl) (Or.inl rfl) (fun X hZ hR K hret => ?_)
  subst hZ
  have K : gOk X cX6_ring 2 wsX6_ring RX6 := K
  have hRf : 3 ≤ (g_R X).frames := gR_f hR rfl
  have hRl : 80 ≤ (g_R X).locals := gR_l hR rfl
  obtain ⟨m1, m2, m3, m4, msh, mst, b23, b24, b25, b26, b27⟩ := id hm
  show gG X 0 [(0, .ref (g_ad X 22)), (1, .int (nI (p)))] [] S
  have hp := nrK_p hk
  refine g_aload_n K 0 dX6_ring_0 rfl ?_
  refine g_iload_n K 1 dX6_ring_1 rfl ?_
  refine g_callVd (q := 22) (ci := 6) (As := [.int (nI (p))]) (rest := []) (C := RX6) (T := TX6) (N := 17) K (cX6_noRing_k (g_z X) S p (hm) (by omega)) (cwV 1 K.1.2.2.2.2 gX6_ring_X6_noRing rfl rfl rfl (by decide +kernel) ⟨Nat.le_trans (Nat.le_of_ble_eq_true rfl) hRf, Nat.le_trans (Nat.le_of_ble_eq_true rfl) hRl⟩) rfl rfl rfl rfl (Nat.le_of_ble_eq_true rfl) dX6_ring_2 ?_
  refine g_cast (S' := (va_up S 22 (va_up (S 22) 0 (nrK S (p))))) rfl rfl rfl ?_
  refine g_topE 0 (by rw [hk]; rfl) ?_
  refine g_cast (S' := (va_up S 22 (va_up (S 22) 0 (0)))) rfl rfl (by rw [hk]) ?_
  refine g_if_eq (tgt := 12) (a := 0) K dX6_ring_5 (by decide) (by omega) (fun h5_1 => ?_) (fun h5_1 => absurd h5_1 (by omega))
  refine g_aload_n K 0 dX6_ring_12 rfl ?_
  refine g_iload_n K 1 dX6_ring_13 rfl ?_
  refine g_callVd (q := 22) (ci := 6) (As := [.int (nI (p))]) (rest := []) (C := RX6) (T := TX6) (N := 17) K (cX6_ringOf_k (g_z X) (va_up S 22 (va_up (S 22) 0 (0))) p ((wfM_r hm)) (by omega)) (cwV 1 K.1.2.2.2.2 gX6_ring_X6_ringOf rfl rfl rfl (by decide +kernel) ⟨Nat.le_trans (Nat.le_of_ble_eq_true rfl) hRf, Nat.le_trans (Nat.le_of_ble_eq_true rfl) hRl⟩) rfl rfl rfl rfl (Nat.le_of_ble_eq_true rfl) dX6_ring_14 ?_
  refine g_topE (ringM S p) (by first | (rw [ringM_r]; done) | (rw [ringM_r]; rfl)) ?_
  exact g_retd hret dX6_ring_17 rfl rfl

set_option maxHeartbeats 4000000 in
set_option maxRecDepth 100000 in
theorem cX6_ring_r1 (Z : gZ) (S : Nat → Nat → Nat) (p : Nat) (hm : wfM S) (hup : p < 4294967296) (hk : nrK S p = 1) : gMd Z yX6_ring wsX6_ring { frames := 3, cells := 0, slots := 0, locals := 73 } [.ref (gz_ad Z 22), .int (nI (p))] S (0) (va_up S 22 (va_up (S 22) 0 (1))) := by
  refine gMd_of (cc := cX6_ring) (maxL := 2) (ret := (some .int)) (by decide +kernel) rfl (Nat.le_of_ble_eq_true rfl) (Or.inl rfl) (fun X hZ hR K hret => ?_)
  subst hZ
  have K : gOk X cX6_ring 2 wsX6_ring RX6 := K
  have hRf : 3 ≤ (g_R X).frames := gR_f hR rfl
  have hRl : 73 ≤ (g_R X).locals := gR_l hR rfl
  obtain ⟨m1, m2, m3, m4, msh, mst, b23, b24, b25, b26, b27⟩ := id hm
  show gG X 0 [(0, .ref (g_ad X 22)), (1, .int (nI (p)))] [] S
  refine g_aload_n K 0 dX6_ring_0 rfl ?_
  refine g_iload_n K 1 dX6_ring_1 rfl ?_
  refine g_callVd (q := 22) (ci := 6) (As := [.int (nI (p))]) (rest := []) (C := RX6) (T := TX6) (N := 17) K (cX6_noRing_k (g_z X) S p (hm) (by omega)) (cwV 1 K.1.2.2.2.2 gX6_ring_X6_noRing rfl rfl rfl (by decide +kernel) ⟨Nat.le_trans (Nat.le_of_ble_eq_true rfl) hRf, Nat.le_trans (Nat.le_of_ble_eq_true rfl) hRl⟩) rfl rfl rfl rfl (Nat.le_of_ble_eq_true rfl) dX6_ring_2 ?_
  refine g_cast (S' := (va_up S 22 (va_up (S 22) 0 (nrK S (p))))) rfl rfl rfl ?_
  refine g_topE 1 (by rw [hk]; rfl) ?_
  refine g_cast (S' := (va_up S 22 (va_up (S 22) 0 (1)))) rfl rfl (by rw [hk]) ?_
  refine g_if_eq (tgt := 12) (a := 1) K dX6_ring_5 (by decide) (by omega) (fun h5_1 => absurd h5_1 (by omega)) (fun h5_1 => ?_)
  refine g_iconst K 0 dX6_ring_8 (by decide +kernel) ?_
  refine g_goto (tgt := 17) K dX6_ring_9 (by decide) ?_
  exact g_retd hret dX6_ring_17 rfl rfl

set_option maxHeartbeats 4000000 in
set_option maxRecDepth 100000 in
theorem cX6_ring_r2 (Z : gZ) (S : Nat → Nat → Nat) (p : Nat) (hm : wfM S) (hup : p < 4294967296) (hk : nrK S p = 2) : gMd Z yX6_ring wsX6_ring { frames := 3, cells := 0, slots := 0, locals := 73 } [.ref (gz_ad Z 22), .int (nI (p))] S (0) (va_up S 22 (va_up (S 22) 0 (2))) := by
  refine gMd_of (cc := cX6_ring) (maxL := 2) (ret := (some .int)) (by decide +kernel) rfl (Nat.le_of_ble_eq_true rfl) (Or.inl rfl) (fun X hZ hR K hret => ?_)
  subst hZ
  have K : gOk X cX6_ring 2 wsX6_ring RX6 := K
  have hRf : 3 ≤ (g_R X).frames := gR_f hR rfl
  have hRl : 73 ≤ (g_R X).locals := gR_l hR rfl
  obtain ⟨m1, m2, m3, m4, msh, mst, b23, b24, b25, b26, b27⟩ := id hm
  show gG X 0 [(0, .ref (g_ad X 22)), (1, .int (nI (p)))] [] S
  refine g_aload_n K 0 dX6_ring_0 rfl ?_
  refine g_iload_n K 1 dX6_ring_1 rfl ?_
  refine g_callVd (q := 22) (ci := 6) (As := [.int (nI (p))]) (rest := []) (C := RX6) (T := TX6) (N := 17) K (cX6_noRing_k (g_z X) S p (hm) (by omega)) (cwV 1 K.1.2.2.2.2 gX6_ring_X6_noRing rfl rfl rfl (by decide +kernel) ⟨Nat.le_trans (Nat.le_of_ble_eq_true rfl) hRf, Nat.le_trans (Nat.le_of_ble_eq_true rfl) hRl⟩) rfl rfl rfl rfl (Nat.le_of_ble_eq_true rfl) dX6_ring_2 ?_
  refine g_cast (S' := (va_up S 22 (va_up (S 22) 0 (nrK S (p))))) rfl rfl rfl ?_
  refine g_topE 1 (by rw [hk]; rfl) ?_
  refine g_cast (S' := (va_up S 22 (va_up (S 22) 0 (2)))) rfl rfl (by rw [hk]) ?_
  refine g_if_eq (tgt := 12) (a := 1) K dX6_ring_5 (by decide) (by omega) (fun h5_1 => absurd h5_1 (by omega)) (fun h5_1 => ?_)
  refine g_iconst K 0 dX6_ring_8 (by decide +kernel) ?_
  refine g_goto (tgt := 17) K dX6_ring_9 (by decide) ?_
  exact g_retd hret dX6_ring_17 rfl rfl

set_option maxHeartbeats 4000000 in
set_option maxRecDepth 100000 in
theorem cX6_cutOff_k (Z : gZ) (S : Nat → Nat → Nat) (p : Nat) (hm : wfM S) (hup : p < 4294967296) (hk : nrK S p = 0) (hle : supplyM S (wetM S (ringM S p)) ≤ supplyM S (wetM S 0)) : gMd Z yX6_cutOff wsX6_cutOff { frames := 3, cells := 0, slots := 0, locals := 80 } [.ref (gz_ad Z 22), .int (nI (p))] S (supplyM S (wetM S 0) - supplyM S (wetM S (ringM S p))) (va_up S 22 (va_up (S 22) 0 (0))) := by
  refine gMd_of (cc := cX6_cutOff) (maxL := 2) (ret := (some .int)) (by decide +kernel) rfl (Nat.le_of_ble_eq_true rfl) (Or.inl rfl) (fun X hZ hR K hret => ?_)
  subst hZ
  have K : gOk X cX6_cutOff 2 wsX6_cutOff RX6 := K
  have hRf : 3 ≤ (g_R X).frames := gR_f hR rfl
  have hRl : 80 ≤ (g_R X).locals := gR_l hR rfl
  obtain ⟨m1, m2, m3, m4, msh, mst, b23, b24, b25, b26, b27⟩ := id hm
  show gG X 0 [(0, .ref (g_ad X 22)), (1, .int (nI (p)))] [] S
  have hp := nrK_p hk
  refine g_aload_n K 0 dX6_cutOff_0 rfl ?_
  refine g_iload_n K 1 dX6_cutOff_1 rfl ?_
  refine g_callVd (q := 22) (ci := 6) (As := [.int (nI (p))]) (rest := []) (C := RX6) (T := TX6) (N := 17) K (cX6_noRing_k (g_z X) S p (hm) (by omega)) (cwV 1 K.1.2.2.2.2 gX6_cutOff_X6_noRing rfl rfl rfl (by decide +kernel) ⟨Nat.le_trans (Nat.le_of_ble_eq_true rfl) hRf, Nat.le_trans (Nat.le_of_ble_eq_true rfl) hRl⟩) rfl rfl rfl rfl (Nat.le_of_ble_eq_true rfl) dX6_cutOff_2 ?_
  refine g_cast (S' := (va_up S 22 (va_up (S 22) 0 (nrK S (p))))) rfl rfl rfl ?_
  refine g_topE 0 (by rw [hk]; rfl) ?_
  refine g_cast (S' := (va_up S 22 (va_up (S 22) 0 (0)))) rfl rfl (by rw [hk]) ?_
  refine g_if_eq (tgt := 12) (a := 0) K dX6_cutOff_5 (by decide) (by omega) (fun h5_1 => ?_) (fun h5_1 => absurd h5_1 (by omega))
  refine g_aload_n K 0 dX6_cutOff_12 rfl ?_
  refine g_aload_n K 0 dX6_cutOff_13 rfl ?_
  refine g_iconst K 0 dX6_cutOff_14 (by decide +kernel) ?_
  refine g_callVd (q := 22) (ci := 6) (As := [.int (nI (0))]) (rest := [.ref (g_ad X 22)]) (C := RX6) (T := TX6) (N := 17) K (cX6_wet_k (g_z X) (va_up S 22 (va_up (S 22) 0 (0))) 0 ((wfM_r hm)) (by omega)) (cwV 1 K.1.2.2.2.2 gX6_cutOff_X6_wet rfl rfl rfl (by decide +kernel) ⟨Nat.le_trans (Nat.le_of_ble_eq_true rfl) hRf, Nat.le_trans (Nat.le_of_ble_eq_true rfl) hRl⟩) rfl rfl rfl rfl (Nat.le_of_ble_eq_true rfl) dX6_cutOff_15 ?_
  refine g_topE (wetM S 0) (by first | (rw [wetM_r]; done) | (rw [wetM_r]; rfl)) ?_
  have hwl := wetM_lt hm 0
  refine g_callVd (q := 22) (ci := 6) (As := [.int (nI (wetM S 0))]) (rest := []) (C := RX6) (T := TX6) (N := 17) K (cX6_supply_k (g_z X) (va_up S 22 (va_up (S 22) 0 (0))) (wetM S 0) ((wfM_r hm)) (by omega)) (cwV 1 K.1.2.2.2.2 gX6_cutOff_X6_supply rfl rfl rfl (by decide +kernel) ⟨Nat.le_trans (Nat.le_of_ble_eq_true rfl) hRf, Nat.le_trans (Nat.le_of_ble_eq_true rfl) hRl⟩) rfl rfl rfl rfl (Nat.le_of_ble_eq_true rfl) dX6_cutOff_18 ?_
  refine g_topE (supplyM S (wetM S 0)) (by first | (rw [supplyM_r]; done) | (rw [supplyM_r]; rfl)) ?_
  refine g_aload_n K 0 dX6_cutOff_21 rfl ?_
  refine g_aload_n K 0 dX6_cutOff_22 rfl ?_
  refine g_aload_n K 0 dX6_cutOff_23 rfl ?_
  refine g_iload_n K 1 dX6_cutOff_24 rfl ?_
  refine g_callVd (q := 22) (ci := 6) (As := [.int (nI (p))]) (rest := [.ref (g_ad X 22), .ref (g_ad X 22), .int (nI (supplyM S (wetM S 0)))]) (C := RX6) (T := TX6) (N := 17) K (cX6_ringOf_k (g_z X) (va_up S 22 (va_up (S 22) 0 (0))) p ((wfM_r hm)) (by omega)) (cwV 1 K.1.2.2.2.2 gX6_cutOff_X6_ringOf rfl rfl rfl (by decide +kernel) ⟨Nat.le_trans (Nat.le_of_ble_eq_true rfl) hRf, Nat.le_trans (Nat.le_of_ble_eq_true rfl) hRl⟩) rfl rfl rfl rfl (Nat.le_of_ble_eq_true rfl) dX6_cutOff_25 ?_
  refine g_topE (ringM S p) (by first | (rw [ringM_r]; done) | (rw [ringM_r]; rfl)) ?_
  have hrl := ringM_lt hm p
  refine g_callVd (q := 22) (ci := 6) (As := [.int (nI (ringM S p))]) (rest := [.ref (g_ad X 22), .int (nI (supplyM S (wetM S 0)))]) (C := RX6) (T := TX6) (N := 17) K (cX6_wet_k (g_z X) (va_up S 22 (va_up (S 22) 0 (0))) (ringM S p) ((wfM_r hm)) (by omega)) (cwV 1 K.1.2.2.2.2 gX6_cutOff_X6_wet rfl rfl rfl (by decide +kernel) ⟨Nat.le_trans (Nat.le_of_ble_eq_true rfl) hRf, Nat.le_trans (Nat.le_of_ble_eq_true rfl) hRl⟩) rfl rfl rfl rfl (Nat.le_of_ble_eq_true rfl) dX6_cutOff_28 ?_
  refine g_topE (wetM S (ringM S p)) (by first | (rw [wetM_r]; done) | (rw [wetM_r]; rfl)) ?_
  have hwl2 := wetM_lt hm (ringM S p)
  refine g_callVd (q := 22) (ci := 6) (As := [.int (nI (wetM S (ringM S p)))]) (rest := [.int (nI (supplyM S (wetM S 0)))]) (C := RX6) (T := TX6) (N := 17) K (cX6_supply_k (g_z X) (va_up S 22 (va_up (S 22) 0 (0))) (wetM S (ringM S p)) ((wfM_r hm)) (by omega)) (cwV 1 K.1.2.2.2.2 gX6_cutOff_X6_supply rfl rfl rfl (by decide +kernel) ⟨Nat.le_trans (Nat.le_of_ble_eq_true rfl) hRf, Nat.le_trans (Nat.le_of_ble_eq_true rfl) hRl⟩) rfl rfl rfl rfl (Nat.le_of_ble_eq_true rfl) dX6_cutOff_31 ?_
  refine g_topE (supplyM S (wetM S (ringM S p))) (by first | (rw [supplyM_r]; done) | (rw [supplyM_r]; rfl)) ?_
  refine g_isub (a := supplyM S (wetM S 0)) (b := supplyM S (wetM S (ringM S p))) K (by omega) dX6_cutOff_34 ?_
  exact g_retd hret dX6_cutOff_35 rfl rfl

set_option maxHeartbeats 4000000 in
set_option maxRecDepth 100000 in
theorem cX6_cutOff_r1 (Z : gZ) (S : Nat → Nat → Nat) (p : Nat) (hm : wfM S) (hup : p < 4294967296) (hk : nrK S p = 1) : gMd Z yX6_cutOff wsX6_cutOff { frames := 3, cells := 0, slots := 0, locals := 73 } [.ref (gz_ad Z 22), .int (nI (p))] S (0) (va_up S 22 (va_up (S 22) 0 (1))) := by
  refine gMd_of (cc := cX6_cutOff) (maxL := 2) (ret := (some .int)) (by decide +kernel) rfl (Nat.le_of_ble_eq_true rfl) (Or.inl rfl) (fun X hZ hR K hret => ?_)
  subst hZ
  have K : gOk X cX6_cutOff 2 wsX6_cutOff RX6 := K
  have hRf : 3 ≤ (g_R X).frames := gR_f hR rfl
  have hRl : 73 ≤ (g_R X).locals := gR_l hR rfl
  obtain ⟨m1, m2, m3, m4, msh, mst, b23, b24, b25, b26, b27⟩ := id hm
  show gG X 0 [(0, .ref (g_ad X 22)), (1, .int (nI (p)))] [] S
  refine g_aload_n K 0 dX6_cutOff_0 rfl ?_
  refine g_iload_n K 1 dX6_cutOff_1 rfl ?_
  refine g_callVd (q := 22) (ci := 6) (As := [.int (nI (p))]) (rest := []) (C := RX6) (T := TX6) (N := 17) K (cX6_noRing_k (g_z X) S p (hm) (by omega)) (cwV 1 K.1.2.2.2.2 gX6_cutOff_X6_noRing rfl rfl rfl (by decide +kernel) ⟨Nat.le_trans (Nat.le_of_ble_eq_true rfl) hRf, Nat.le_trans (Nat.le_of_ble_eq_true rfl) hRl⟩) rfl rfl rfl rfl (Nat.le_of_ble_eq_true rfl) dX6_cutOff_2 ?_
  refine g_cast (S' := (va_up S 22 (va_up (S 22) 0 (nrK S (p))))) rfl rfl rfl ?_
  refine g_topE 1 (by rw [hk]; rfl) ?_
  refine g_cast (S' := (va_up S 22 (va_up (S 22) 0 (1)))) rfl rfl (by rw [hk]) ?_
  refine g_if_eq (tgt := 12) (a := 1) K dX6_cutOff_5 (by decide) (by omega) (fun h5_1 => absurd h5_1 (by omega)) (fun h5_1 => ?_)
  refine g_iconst K 0 dX6_cutOff_8 (by decide +kernel) ?_
  refine g_goto (tgt := 35) K dX6_cutOff_9 (by decide) ?_
  exact g_retd hret dX6_cutOff_35 rfl rfl

set_option maxHeartbeats 4000000 in
set_option maxRecDepth 100000 in
theorem cX6_cutOff_r2 (Z : gZ) (S : Nat → Nat → Nat) (p : Nat) (hm : wfM S) (hup : p < 4294967296) (hk : nrK S p = 2) : gMd Z yX6_cutOff wsX6_cutOff { frames := 3, cells := 0, slots := 0, locals := 73 } [.ref (gz_ad Z 22), .int (nI (p))] S (0) (va_up S 22 (va_up (S 22) 0 (2))) := by
  refine gMd_of (cc := cX6_cutOff) (maxL := 2) (ret := (some .int)) (by decide +kernel) rfl (Nat.le_of_ble_eq_true rfl) (Or.inl rfl) (fun X hZ hR K hret => ?_)
  subst hZ
  have K : gOk X cX6_cutOff 2 wsX6_cutOff RX6 := K
  have hRf : 3 ≤ (g_R X).frames := gR_f hR rfl
  have hRl : 73 ≤ (g_R X).locals := gR_l hR rfl
  obtain ⟨m1, m2, m3, m4, msh, mst, b23, b24, b25, b26, b27⟩ := id hm
  show gG X 0 [(0, .ref (g_ad X 22)), (1, .int (nI (p)))] [] S
  refine g_aload_n K 0 dX6_cutOff_0 rfl ?_
  refine g_iload_n K 1 dX6_cutOff_1 rfl ?_
  refine g_callVd (q := 22) (ci := 6) (As := [.int (nI (p))]) (rest := []) (C := RX6) (T := TX6) (N := 17) K (cX6_noRing_k (g_z X) S p (hm) (by omega)) (cwV 1 K.1.2.2.2.2 gX6_cutOff_X6_noRing rfl rfl rfl (by decide +kernel) ⟨Nat.le_trans (Nat.le_of_ble_eq_true rfl) hRf, Nat.le_trans (Nat.le_of_ble_eq_true rfl) hRl⟩) rfl rfl rfl rfl (Nat.le_of_ble_eq_true rfl) dX6_cutOff_2 ?_
  refine g_cast (S' := (va_up S 22 (va_up (S 22) 0 (nrK S (p))))) rfl rfl rfl ?_
  refine g_topE 1 (by rw [hk]; rfl) ?_
  refine g_cast (S' := (va_up S 22 (va_up (S 22) 0 (2)))) rfl rfl (by rw [hk]) ?_
  refine g_if_eq (tgt := 12) (a := 1) K dX6_cutOff_5 (by decide) (by omega) (fun h5_1 => absurd h5_1 (by omega)) (fun h5_1 => ?_)
  refine g_iconst K 0 dX6_cutOff_8 (by decide +kernel) ?_
  refine g_goto (tgt := 35) K dX6_cutOff_9 (by decide) ?_
  exact g_retd hret dX6_cutOff_35 rfl rfl

def fLeast (S : Nat → Nat → Nat) (p set best : Nat) : Nat := if set &&& (S 22 10 ||| S 22 11) = 0 then (if best = 4294967295 then (if wetM S set &&& (1 <<< (12 + p)) = 0 then set else best) else if popM set < popM best then (if wetM S set &&& (1 <<< (12 + p)) = 0 then set else best) else best) else best
def leastM (S : Nat → Nat → Nat) (p : Nat) : Nat := gfor (fLeast S p) (1 <<< S 22 3) 0 4294967295
theorem fLeast_r {S : Nat → Nat → Nat} {z : Nat} (p : Nat) : fLeast (va_up S 22 (va_up (S 22) 0 z)) p = fLeast S p := by
  funext set best; simp only [fLeast, wetM_r]; rfl
theorem leastM_r {S : Nat → Nat → Nat} {z : Nat} (p : Nat) : leastM (va_up S 22 (va_up (S 22) 0 z)) p = leastM S p := by
  unfold leastM; rw [fLeast_r]; rfl
theorem fLeast_in {S : Nat → Nat → Nat} {p set best : Nat} (hs : set < 4096) (hb : best < 4096 ∨ best = 4294967295) : fLeast S p set best < 4096 ∨ fLeast S p set best = 4294967295 := by
  unfold fLeast
  (repeat' split) <;> first | exact hb | exact Or.inl hs
theorem leastM_in {S : Nat → Nat → Nat} (hm : wfM S) (p : Nat) : leastM S p < 4096 ∨ leastM S p = 4294967295 := by
  have h3 := shl1_le (n := 12) hm.2.2.1
  have := gfor_invK (fun _ (x : Nat) => x < 4096 ∨ x = 4294967295) (fLeast S p) (1 <<< S 22 3) 0 4294967295 (fun i y _ hi hy => fLeast_in (by omega) hy) (Or.inr rfl)
  exact this
set_option maxHeartbeats 4000000 in
set_option maxRecDepth 100000 in
theorem L_leastM (X : gC) (S : Nat → Nat → Nat) (p : Nat) (K : gOk X cX6_least 5 wsX6_least RX6) (hRf : 3 ≤ (g_R X).frames) (hRl : 73 ≤ (g_R X).locals) (hm : wfM S) (hp : p < 16) : ∀ (k z : Nat) (b : Nat), z + k = 1 <<< S 22 3 → (b < 4096 ∨ b = 4294967295) → gG X 77 [(0, .ref (g_ad X 22)), (1, .int (nI (p))), (2, .int (nI (((gfor (fLeast S p) k z b))))), (3, .int (nI ((1 <<< S 22 3))))] [] S → gG X 4 [(0, .ref (g_ad X 22)), (1, .int (nI (p))), (2, .int (nI (b))), (3, .int (nI (z)))] [] S := by
  have hin6 : ∀ w ∈ u_ws RX6 TX6 17, w ∈ wsX6_least := by decide +kernel
  obtain ⟨m1, m2, m3, m4, msh, mst, b23, b24, b25, b26, b27⟩ := id hm
  intro k
  induction k with
  | zero =>
    intro z b hj hb kk
    have hj : z = 1 <<< S 22 3 := by omega
    refine g_iload_n K 3 dX6_least_4 rfl ?_
    refine g_iconst K 1 dX6_least_5 (by decide +kernel) ?_
    refine g_aload_n K 0 dX6_least_6 rfl ?_
    refine g_getI (q := 22) (ci := 6) (k := 3) (N := 17) (C := RX6) (T := TX6) (ref := "ValveWalkModel") K rfl rfl rfl (by decide) hin6 (by decide +kernel) rfl dX6_least_7 ?_
    refine g_ishl (a := 1) (b := S 22 3) K (by omega) dX6_least_10 ?_
    have hs1 : 1 <<< S 22 3 ≤ 4096 := shl1_le (n := 12) m3
    refine g_icmp_ge (tgt := 77) (a := z) (b := (1) <<< (S 22 3)) K dX6_least_11 (by decide) (by omega) (by omega) (fun h11_1 => ?_) (fun h11_1 => ?_)
    · refine g_loc (lo' := [(0, .ref (g_ad X 22)), (1, .int (nI (p))), (2, .int (nI (b))), (3, .int (nI (z)))]) [0, 1, 2, 3] rfl ?_
      exact g_cast (by first | rfl | (rw [hj]; done) | (rw [hj]; rfl)) rfl rfl kk
    · exact absurd h11_1 (by omega)
  | succ k ih =>
    intro z b hj hb kk
    refine g_iload_n K 3 dX6_least_4 rfl ?_
    refine g_iconst K 1 dX6_least_5 (by decide +kernel) ?_
    refine g_aload_n K 0 dX6_least_6 rfl ?_
    refine g_getI (q := 22) (ci := 6) (k := 3) (N := 17) (C := RX6) (T := TX6) (ref := "ValveWalkModel") K rfl rfl rfl (by decide) hin6 (by decide +kernel) rfl dX6_least_7 ?_
    refine g_ishl (a := 1) (b := S 22 3) K (by omega) dX6_least_10 ?_
    have hs1 : 1 <<< S 22 3 ≤ 4096 := shl1_le (n := 12) m3
    refine g_icmp_ge (tgt := 77) (a := z) (b := (1) <<< (S 22 3)) K dX6_least_11 (by decide) (by omega) (by omega) (fun h11_1 => ?_) (fun h11_1 => ?_)
    · exact absurd h11_1 (by omega)
    · refine g_iload_n K 3 dX6_least_14 rfl ?_
      refine g_aload_n K 0 dX6_least_15 rfl ?_
      refine g_getI (q := 22) (ci := 6) (k := 10) (N := 17) (C := RX6) (T := TX6) (ref := "ValveWalkModel") K rfl rfl rfl (by decide) hin6 (by decide +kernel) rfl dX6_least_16 ?_
      refine g_aload_n K 0 dX6_least_19 rfl ?_
      refine g_getI (q := 22) (ci := 6) (k := 11) (N := 17) (C := RX6) (T := TX6) (ref := "ValveWalkModel") K rfl rfl rfl (by decide) hin6 (by decide +kernel) rfl dX6_least_20 ?_
      refine g_ior (a := S 22 10) (b := S 22 11) K dX6_least_23 ?_
      refine g_iand (a := z) (b := (S 22 10) ||| (S 22 11)) K dX6_least_24 ?_
      have hL24_2 := @Nat.and_le_left (z) ((S 22 10) ||| (S 22 11))
      have hR24_3 := @Nat.and_le_right (z) ((S 22 10) ||| (S 22 11))
      refine g_if_ne (tgt := 32) (a := (z) &&& ((S 22 10) ||| (S 22 11))) K dX6_least_25 (by decide) (by omega) (fun h25_4 => ?_) (fun h25_4 => ?_)
      · refine g_iconst K 0 dX6_least_32 (by decide +kernel) ?_
        refine g_istore (lo' := [(4, .int (nI (0))), (0, .ref (g_ad X 22)), (1, .int (nI (p))), (2, .int (nI (b))), (3, .int (nI (z)))]) K dX6_least_33 (by decide) rfl ?_
        refine g_iload K 0 dX6_least_35 rfl ?_
        refine g_if_eq (tgt := 71) (a := 0) K dX6_least_37 (by decide) (by omega) (fun h37_5 => ?_) (fun h37_5 => absurd h37_5 (by omega))
        refine g_iinc (a := z) (b := z + 1) (lo' := [(3, .int (nI (z + 1))), (4, .int (nI (0))), (0, .ref (g_ad X 22)), (1, .int (nI (p))), (2, .int (nI (b)))]) K 4 dX6_least_71 rfl (gi_inc _) (by decide) rfl ?_
        refine g_goto (tgt := 4) K dX6_least_74 (by decide) ?_
        refine g_loc (lo' := [(0, .ref (g_ad X 22)), (1, .int (nI (p))), (2, .int (nI (b))), (3, .int (nI (z + 1)))]) [2, 3, 4, 0] rfl ?_
        exact ih (z + 1) b (by omega) (by omega) (by rw [gfor_succ, show (fLeast S p) z b = b from by unfold fLeast; first | rw [if_pos (by assumption), if_pos (by assumption), if_pos (by assumption)] | rw [if_pos (by assumption), if_pos (by assumption), if_neg (by assumption)] | rw [if_pos (by assumption), if_neg (by assumption), if_pos (by assumption), if_pos (by assumption)] | rw [if_pos (by assumption), if_neg (by assumption), if_pos (by assumption), if_neg (by assumption)] | rw [if_pos (by assumption), if_neg (by assumption), if_neg (by omega)] | rw [if_neg (by assumption)]] at kk; exact kk)
      · refine g_iconst K 1 dX6_least_28 (by decide +kernel) ?_
        refine g_goto (tgt := 33) K dX6_least_29 (by decide) ?_
        refine g_istore (lo' := [(4, .int (nI (1))), (0, .ref (g_ad X 22)), (1, .int (nI (p))), (2, .int (nI (b))), (3, .int (nI (z)))]) K dX6_least_33 (by decide) rfl ?_
        refine g_iload K 0 dX6_least_35 rfl ?_
        refine g_if_eq (tgt := 71) (a := 1) K dX6_least_37 (by decide) (by omega) (fun h37_6 => absurd h37_6 (by omega)) (fun h37_6 => ?_)
        refine g_iload_n K 3 dX6_least_40 rfl ?_
        refine g_iconst K 4294967295 dX6_least_41 (by decide +kernel) ?_
        refine g_icmp_eq (tgt := 56) (a := b) (b := 4294967295) K dX6_least_42 (by decide) (by omega) (by omega) (fun h42_7 => ?_) (fun h42_7 => ?_)
        · refine g_aload_n K 1 dX6_least_56 rfl ?_
          refine g_iload_n K 4 dX6_least_57 rfl ?_
          have hwl := wetM_lt hm z
          refine g_callVd (q := 22) (ci := 6) (As := [.int (nI (z))]) (rest := []) (C := RX6) (T := TX6) (N := 17) K (cX6_wet_k (g_z X) S z (hm) (by omega)) (cwV 1 K.1.2.2.2.2 gX6_least_X6_wet rfl rfl rfl (by decide +kernel) ⟨Nat.le_trans (Nat.le_of_ble_eq_true rfl) hRf, Nat.le_trans (Nat.le_of_ble_eq_true rfl) hRl⟩) rfl rfl rfl rfl (Nat.le_of_ble_eq_true rfl) dX6_least_58 ?_
          refine g_iload_n K 2 dX6_least_61 rfl ?_
          refine g_callSd (As := [.int (nI (p))]) (rest := [.int (nI (wetM S z))]) K (cX6_partOf_k (g_z X) S p (by omega)) (va_cwS 1 K.1.2.2.2.2 gX6_least_X6_partOf rfl rfl rfl (by decide +kernel) ⟨Nat.le_trans (Nat.le_of_ble_eq_true rfl) hRf, Nat.le_trans (Nat.le_of_ble_eq_true rfl) hRl⟩) rfl rfl (Nat.le_of_ble_eq_true rfl) dX6_least_62 ?_
          refine g_iand (a := wetM S z) (b := 1 <<< (12 + p)) K dX6_least_65 ?_
          have hL65_8 := @Nat.and_le_left (wetM S z) (1 <<< (12 + p))
          have hR65_9 := @Nat.and_le_right (wetM S z) (1 <<< (12 + p))
          refine g_if_ne (tgt := 71) (a := (wetM S z) &&& (1 <<< (12 + p))) K dX6_least_66 (by decide) (by omega) (fun h66_10 => ?_) (fun h66_10 => ?_)
          · refine g_iinc (a := z) (b := z + 1) (lo' := [(3, .int (nI (z + 1))), (4, .int (nI (1))), (0, .ref (g_ad X 22)), (1, .int (nI (p))), (2, .int (nI (b)))]) K 4 dX6_least_71 rfl (gi_inc _) (by decide) rfl ?_
            refine g_goto (tgt := 4) K dX6_least_74 (by decide) ?_
            refine g_loc (lo' := [(0, .ref (g_ad X 22)), (1, .int (nI (p))), (2, .int (nI (b))), (3, .int (nI (z + 1)))]) [2, 3, 4, 0] rfl ?_
            exact ih (z + 1) b (by omega) (by omega) (by rw [gfor_succ, show (fLeast S p) z b = b from by unfold fLeast; first | rw [if_pos (by assumption), if_pos (by assumption), if_pos (by assumption)] | rw [if_pos (by assumption), if_pos (by assumption), if_neg (by assumption)] | rw [if_pos (by assumption), if_neg (by assumption), if_pos (by assumption), if_pos (by assumption)] | rw [if_pos (by assumption), if_neg (by assumption), if_pos (by assumption), if_neg (by assumption)] | rw [if_pos (by assumption), if_neg (by assumption), if_neg (by omega)] | rw [if_neg (by assumption)]] at kk; exact kk)
          · refine g_iload_n K 4 dX6_least_69 rfl ?_
            refine g_istore_n (lo' := [(2, .int (nI (z))), (4, .int (nI (1))), (0, .ref (g_ad X 22)), (1, .int (nI (p))), (3, .int (nI (z)))]) K dX6_least_70 (by decide) rfl ?_
            refine g_iinc (a := z) (b := z + 1) (lo' := [(3, .int (nI (z + 1))), (2, .int (nI (z))), (4, .int (nI (1))), (0, .ref (g_ad X 22)), (1, .int (nI (p)))]) K 4 dX6_least_71 rfl (gi_inc _) (by decide) rfl ?_
            refine g_goto (tgt := 4) K dX6_least_74 (by decide) ?_
            refine g_loc (lo' := [(0, .ref (g_ad X 22)), (1, .int (nI (p))), (2, .int (nI (z))), (3, .int (nI (z + 1)))]) [3, 4, 1, 0] rfl ?_
            exact ih (z + 1) z (by omega) (by omega) (by rw [gfor_succ, show (fLeast S p) z b = z from by unfold fLeast; first | rw [if_pos (by assumption), if_pos (by assumption), if_pos (by assumption)] | rw [if_pos (by assumption), if_pos (by assumption), if_neg (by assumption)] | rw [if_pos (by assumption), if_neg (by assumption), if_pos (by assumption), if_pos (by assumption)] | rw [if_pos (by assumption), if_neg (by assumption), if_pos (by assumption), if_neg (by assumption)] | rw [if_pos (by assumption), if_neg (by assumption), if_neg (by omega)] | rw [if_neg (by assumption)]] at kk; exact kk)
        · refine g_iload_n K 4 dX6_least_45 rfl ?_
          refine g_callSd (As := [.int (nI (z))]) (rest := []) K (cX6_bits_k (g_z X) S z (by omega)) (va_cwS 1 K.1.2.2.2.2 gX6_least_X6_bits rfl rfl rfl (by decide +kernel) ⟨Nat.le_trans (Nat.le_of_ble_eq_true rfl) hRf, Nat.le_trans (Nat.le_of_ble_eq_true rfl) hRl⟩) rfl rfl (Nat.le_of_ble_eq_true rfl) dX6_least_46 ?_
          have hf46_11 := popM_le z
          refine g_iload_n K 3 dX6_least_49 rfl ?_
          refine g_callSd (As := [.int (nI (b))]) (rest := [.int (nI (popM z))]) K (cX6_bits_k (g_z X) S b (by omega)) (va_cwS 1 K.1.2.2.2.2 gX6_least_X6_bits rfl rfl rfl (by decide +kernel) ⟨Nat.le_trans (Nat.le_of_ble_eq_true rfl) hRf, Nat.le_trans (Nat.le_of_ble_eq_true rfl) hRl⟩) rfl rfl (Nat.le_of_ble_eq_true rfl) dX6_least_50 ?_
          have hf50_12 := popM_le b
          refine g_icmp_ge (tgt := 71) (a := popM z) (b := popM b) K dX6_least_53 (by decide) (by omega) (by omega) (fun h53_13 => ?_) (fun h53_13 => ?_)
          · refine g_iinc (a := z) (b := z + 1) (lo' := [(3, .int (nI (z + 1))), (4, .int (nI (1))), (0, .ref (g_ad X 22)), (1, .int (nI (p))), (2, .int (nI (b)))]) K 4 dX6_least_71 rfl (gi_inc _) (by decide) rfl ?_
            refine g_goto (tgt := 4) K dX6_least_74 (by decide) ?_
            refine g_loc (lo' := [(0, .ref (g_ad X 22)), (1, .int (nI (p))), (2, .int (nI (b))), (3, .int (nI (z + 1)))]) [2, 3, 4, 0] rfl ?_
            exact ih (z + 1) b (by omega) (by omega) (by rw [gfor_succ, show (fLeast S p) z b = b from by unfold fLeast; first | rw [if_pos (by assumption), if_pos (by assumption), if_pos (by assumption)] | rw [if_pos (by assumption), if_pos (by assumption), if_neg (by assumption)] | rw [if_pos (by assumption), if_neg (by assumption), if_pos (by assumption), if_pos (by assumption)] | rw [if_pos (by assumption), if_neg (by assumption), if_pos (by assumption), if_neg (by assumption)] | rw [if_pos (by assumption), if_neg (by assumption), if_neg (by omega)] | rw [if_neg (by assumption)]] at kk; exact kk)
          · refine g_aload_n K 1 dX6_least_56 rfl ?_
            refine g_iload_n K 4 dX6_least_57 rfl ?_
            have hwl := wetM_lt hm z
            refine g_callVd (q := 22) (ci := 6) (As := [.int (nI (z))]) (rest := []) (C := RX6) (T := TX6) (N := 17) K (cX6_wet_k (g_z X) S z (hm) (by omega)) (cwV 1 K.1.2.2.2.2 gX6_least_X6_wet rfl rfl rfl (by decide +kernel) ⟨Nat.le_trans (Nat.le_of_ble_eq_true rfl) hRf, Nat.le_trans (Nat.le_of_ble_eq_true rfl) hRl⟩) rfl rfl rfl rfl (Nat.le_of_ble_eq_true rfl) dX6_least_58 ?_
            refine g_iload_n K 2 dX6_least_61 rfl ?_
            refine g_callSd (As := [.int (nI (p))]) (rest := [.int (nI (wetM S z))]) K (cX6_partOf_k (g_z X) S p (by omega)) (va_cwS 1 K.1.2.2.2.2 gX6_least_X6_partOf rfl rfl rfl (by decide +kernel) ⟨Nat.le_trans (Nat.le_of_ble_eq_true rfl) hRf, Nat.le_trans (Nat.le_of_ble_eq_true rfl) hRl⟩) rfl rfl (Nat.le_of_ble_eq_true rfl) dX6_least_62 ?_
            refine g_iand (a := wetM S z) (b := 1 <<< (12 + p)) K dX6_least_65 ?_
            have hL65_14 := @Nat.and_le_left (wetM S z) (1 <<< (12 + p))
            have hR65_15 := @Nat.and_le_right (wetM S z) (1 <<< (12 + p))
            refine g_if_ne (tgt := 71) (a := (wetM S z) &&& (1 <<< (12 + p))) K dX6_least_66 (by decide) (by omega) (fun h66_16 => ?_) (fun h66_16 => ?_)
            · refine g_iinc (a := z) (b := z + 1) (lo' := [(3, .int (nI (z + 1))), (4, .int (nI (1))), (0, .ref (g_ad X 22)), (1, .int (nI (p))), (2, .int (nI (b)))]) K 4 dX6_least_71 rfl (gi_inc _) (by decide) rfl ?_
              refine g_goto (tgt := 4) K dX6_least_74 (by decide) ?_
              refine g_loc (lo' := [(0, .ref (g_ad X 22)), (1, .int (nI (p))), (2, .int (nI (b))), (3, .int (nI (z + 1)))]) [2, 3, 4, 0] rfl ?_
              exact ih (z + 1) b (by omega) (by omega) (by rw [gfor_succ, show (fLeast S p) z b = b from by unfold fLeast; first | rw [if_pos (by assumption), if_pos (by assumption), if_pos (by assumption)] | rw [if_pos (by assumption), if_pos (by assumption), if_neg (by assumption)] | rw [if_pos (by assumption), if_neg (by assumption), if_pos (by assumption), if_pos (by assumption)] | rw [if_pos (by assumption), if_neg (by assumption), if_pos (by assumption), if_neg (by assumption)] | rw [if_pos (by assumption), if_neg (by assumption), if_neg (by omega)] | rw [if_neg (by assumption)]] at kk; exact kk)
            · refine g_iload_n K 4 dX6_least_69 rfl ?_
              refine g_istore_n (lo' := [(2, .int (nI (z))), (4, .int (nI (1))), (0, .ref (g_ad X 22)), (1, .int (nI (p))), (3, .int (nI (z)))]) K dX6_least_70 (by decide) rfl ?_
              refine g_iinc (a := z) (b := z + 1) (lo' := [(3, .int (nI (z + 1))), (2, .int (nI (z))), (4, .int (nI (1))), (0, .ref (g_ad X 22)), (1, .int (nI (p)))]) K 4 dX6_least_71 rfl (gi_inc _) (by decide) rfl ?_
              refine g_goto (tgt := 4) K dX6_least_74 (by decide) ?_
              refine g_loc (lo' := [(0, .ref (g_ad X 22)), (1, .int (nI (p))), (2, .int (nI (z))), (3, .int (nI (z + 1)))]) [3, 4, 1, 0] rfl ?_
              exact ih (z + 1) z (by omega) (by omega) (by rw [gfor_succ, show (fLeast S p) z b = z from by unfold fLeast; first | rw [if_pos (by assumption), if_pos (by assumption), if_pos (by assumption)] | rw [if_pos (by assumption), if_pos (by assumption), if_neg (by assumption)] | rw [if_pos (by assumption), if_neg (by assumption), if_pos (by assumption), if_pos (by assumption)] | rw [if_pos (by assumption), if_neg (by assumption), if_pos (by assumption), if_neg (by assumption)] | rw [if_pos (by assumption), if_neg (by assumption), if_neg (by omega)] | rw [if_neg (by assumption)]] at kk; exact kk)

set_option maxHeartbeats 4000000 in
set_option maxRecDepth 100000 in
theorem cX6_least_k (Z : gZ) (S : Nat → Nat → Nat) (p : Nat) (hm : wfM S) (hp : p < 16) : gMd Z yX6_least wsX6_least { frames := 3, cells := 0, slots := 0, locals := 73 } [.ref (gz_ad Z 22), .int (nI (p))] S (leastM S p) (S) := by
  refine gMd_of (cc := cX6_least) (maxL := 5) (ret := (some .int)) (by decide +kernel) rfl (Nat.le_of_ble_eq_true rfl) (Or.inl rfl) (fun X hZ hR K hret => ?_)
  subst hZ
  have K : gOk X cX6_least 5 wsX6_least RX6 := K
  have hRf : 3 ≤ (g_R X).frames := gR_f hR rfl
  have hRl : 73 ≤ (g_R X).locals := gR_l hR rfl
  have hin6 : ∀ w ∈ u_ws RX6 TX6 17, w ∈ wsX6_least := by decide +kernel
  obtain ⟨m1, m2, m3, m4, msh, mst, b23, b24, b25, b26, b27⟩ := id hm
  show gG X 0 [(0, .ref (g_ad X 22)), (1, .int (nI (p)))] [] S
  refine g_iconst K 4294967295 dX6_least_0 (by decide +kernel) ?_
  refine g_istore_n (lo' := [(2, .int (nI (4294967295))), (0, .ref (g_ad X 22)), (1, .int (nI (p)))]) K dX6_least_1 (by decide) rfl ?_
  refine g_iconst K 0 dX6_least_2 (by decide +kernel) ?_
  refine g_istore_n (lo' := [(3, .int (nI (0))), (2, .int (nI (4294967295))), (0, .ref (g_ad X 22)), (1, .int (nI (p)))]) K dX6_least_3 (by decide) rfl ?_
  refine g_loc (lo' := [(0, .ref (g_ad X 22)), (1, .int (nI (p))), (2, .int (nI (4294967295))), (3, .int (nI (0)))]) [2, 3, 1, 0] rfl ?_
  refine L_leastM X S p K (Nat.le_trans (Nat.le_of_ble_eq_true rfl) hRf) (Nat.le_trans (Nat.le_of_ble_eq_true rfl) hRl) (hm) (hp)  (1 <<< S 22 3) 0 4294967295 (by omega) (Or.inr rfl) ?_
  refine g_iload_n K 2 dX6_least_77 rfl ?_
  exact g_retd hret dX6_least_78 rfl rfl

def fewM (S : Nat → Nat → Nat) (p : Nat) : Nat := if leastM S p = 4294967295 then 4294967295 else popM (leastM S p)
set_option maxHeartbeats 4000000 in
set_option maxRecDepth 100000 in
theorem cX6_fewest_k (Z : gZ) (S : Nat → Nat → Nat) (p : Nat) (hm : wfM S) (hup : p < 4294967296) (hp : p < S 22 2) : gMd Z yX6_fewest wsX6_fewest { frames := 4, cells := 0, slots := 0, locals := 97 } [.ref (gz_ad Z 22), .int (nI (p))] S (fewM S p) (va_up S 22 (va_up (S 22) 0 (0))) := by
  refine gMd_of (cc := cX6_fewest) (maxL := 3) (ret := (some .int)) (by decide +kernel) rfl (Nat.le_of_ble_eq_true rfl) (Or.inl rfl) (fun X hZ hR K hret => ?_)
  subst hZ
  have K : gOk X cX6_fewest 3 wsX6_fewest RX6 := K
  have hRf : 4 ≤ (g_R X).frames := gR_f hR rfl
  have hRl : 97 ≤ (g_R X).locals := gR_l hR rfl
  obtain ⟨m1, m2, m3, m4, msh, mst, b23, b24, b25, b26, b27⟩ := id hm
  show gG X 0 [(0, .ref (g_ad X 22)), (1, .int (nI (p)))] [] S
  refine g_aload_n K 0 dX6_fewest_0 rfl ?_
  refine g_aload_n K 0 dX6_fewest_1 rfl ?_
  refine g_iload_n K 1 dX6_fewest_2 rfl ?_
  refine g_callVd (q := 22) (ci := 6) (As := [.int (nI (p))]) (rest := [.ref (g_ad X 22)]) (C := RX6) (T := TX6) (N := 17) K (cX6_isPipe_k (g_z X) S p (hm) (by omega)) (cwV 1 K.1.2.2.2.2 gX6_fewest_X6_isPipe rfl rfl rfl (by decide +kernel) ⟨Nat.le_trans (Nat.le_of_ble_eq_true rfl) hRf, Nat.le_trans (Nat.le_of_ble_eq_true rfl) hRl⟩) rfl rfl rfl rfl (Nat.le_of_ble_eq_true rfl) dX6_fewest_3 ?_
  have hf3_1 := isN_spec (S 22 2) p
  refine g_if_eq (tgt := 13) (a := isN (S 22 2) p) K dX6_fewest_6 (by decide) (by omega) (fun h6_2 => ?_) (fun h6_2 => ?_)
  · refine g_iconst K 1 dX6_fewest_13 (by decide +kernel) ?_
    refine g_callVd (q := 22) (ci := 6) (As := [.int (nI (1))]) (rest := []) (C := RX6) (T := TX6) (N := 17) K (cX6_refused_k (g_z X) S 1 (by omega)) (cwV 1 K.1.2.2.2.2 gX6_fewest_X6_refused rfl rfl rfl (by decide +kernel) ⟨Nat.le_trans (Nat.le_of_ble_eq_true rfl) hRf, Nat.le_trans (Nat.le_of_ble_eq_true rfl) hRl⟩) rfl rfl rfl rfl (Nat.le_of_ble_eq_true rfl) dX6_fewest_14 ?_
    refine g_cast (S' := (va_up S 22 (va_up (S 22) 0 (1)))) rfl rfl rfl ?_
    refine g_if_eq (tgt := 22) (a := 1) K dX6_fewest_17 (by decide) (by omega) (fun h17_3 => absurd h17_3 (by omega)) (fun h17_3 => ?_)
    exfalso; omega
  · refine g_iconst K 0 dX6_fewest_9 (by decide +kernel) ?_
    refine g_goto (tgt := 14) K dX6_fewest_10 (by decide) ?_
    refine g_callVd (q := 22) (ci := 6) (As := [.int (nI (0))]) (rest := []) (C := RX6) (T := TX6) (N := 17) K (cX6_refused_k (g_z X) S 0 (by omega)) (cwV 1 K.1.2.2.2.2 gX6_fewest_X6_refused rfl rfl rfl (by decide +kernel) ⟨Nat.le_trans (Nat.le_of_ble_eq_true rfl) hRf, Nat.le_trans (Nat.le_of_ble_eq_true rfl) hRl⟩) rfl rfl rfl rfl (Nat.le_of_ble_eq_true rfl) dX6_fewest_14 ?_
    refine g_cast (S' := (va_up S 22 (va_up (S 22) 0 (0)))) rfl rfl rfl ?_
    refine g_if_eq (tgt := 22) (a := 0) K dX6_fewest_17 (by decide) (by omega) (fun h17_4 => ?_) (fun h17_4 => absurd h17_4 (by omega))
    refine g_aload_n K 0 dX6_fewest_22 rfl ?_
    refine g_iload_n K 1 dX6_fewest_23 rfl ?_
    refine g_callVd (q := 22) (ci := 6) (As := [.int (nI (p))]) (rest := []) (C := RX6) (T := TX6) (N := 17) K (cX6_least_k (g_z X) (va_up S 22 (va_up (S 22) 0 (0))) p ((wfM_r hm)) (by omega)) (cwV 1 K.1.2.2.2.2 gX6_fewest_X6_least rfl rfl rfl (by decide +kernel) ⟨Nat.le_trans (Nat.le_of_ble_eq_true rfl) hRf, Nat.le_trans (Nat.le_of_ble_eq_true rfl) hRl⟩) rfl rfl rfl rfl (Nat.le_of_ble_eq_true rfl) dX6_fewest_24 ?_
    refine g_topE (leastM S p) (by first | (rw [leastM_r]; done) | (rw [leastM_r]; rfl)) ?_
    have hli := leastM_in hm p
    refine g_istore_n (lo' := [(2, .int (nI (leastM S p))), (0, .ref (g_ad X 22)), (1, .int (nI (p)))]) K dX6_fewest_27 (by decide) rfl ?_
    refine g_iload_n K 0 dX6_fewest_28 rfl ?_
    refine g_iconst K 4294967295 dX6_fewest_29 (by decide +kernel) ?_
    refine g_icmp_ne (tgt := 37) (a := leastM S p) (b := 4294967295) K dX6_fewest_30 (by decide) (by omega) (by omega) (fun h30_5 => ?_) (fun h30_5 => ?_)
    · refine g_iload_n K 0 dX6_fewest_37 rfl ?_
      refine g_callSd (As := [.int (nI (leastM S p))]) (rest := []) K (cX6_bits_k (g_z X) (va_up S 22 (va_up (S 22) 0 (0))) (leastM S p) (by omega)) (va_cwS 1 K.1.2.2.2.2 gX6_fewest_X6_bits rfl rfl rfl (by decide +kernel) ⟨Nat.le_trans (Nat.le_of_ble_eq_true rfl) hRf, Nat.le_trans (Nat.le_of_ble_eq_true rfl) hRl⟩) rfl rfl (Nat.le_of_ble_eq_true rfl) dX6_fewest_38 ?_
      have hf38_6 := popM_le (leastM S p)
      exact g_retd hret dX6_fewest_41 (by unfold fewM; first | rw [if_pos (by assumption)] | rw [if_neg (by assumption)]) rfl
    · refine g_iconst K 4294967295 dX6_fewest_33 (by decide +kernel) ?_
      refine g_goto (tgt := 41) K dX6_fewest_34 (by decide) ?_
      exact g_retd hret dX6_fewest_41 (by unfold fewM; first | rw [if_pos (by assumption)] | rw [if_neg (by assumption)]) rfl

set_option maxHeartbeats 4000000 in
set_option maxRecDepth 100000 in
theorem cX6_fewest_r1 (Z : gZ) (S : Nat → Nat → Nat) (p : Nat) (hm : wfM S) (hup : p < 4294967296) (hn : S 22 2 ≤ p) : gMd Z yX6_fewest wsX6_fewest { frames := 2, cells := 0, slots := 0, locals := 43 } [.ref (gz_ad Z 22), .int (nI (p))] S (0) (va_up S 22 (va_up (S 22) 0 (1))) := by
  refine gMd_of (cc := cX6_fewest) (maxL := 3) (ret := (some .int)) (by decide +kernel) rfl (Nat.le_of_ble_eq_true rfl) (Or.inl rfl) (fun X hZ hR K hret => ?_)
  subst hZ
  have K : gOk X cX6_fewest 3 wsX6_fewest RX6 := K
  have hRf : 2 ≤ (g_R X).frames := gR_f hR rfl
  have hRl : 43 ≤ (g_R X).locals := gR_l hR rfl
  obtain ⟨m1, m2, m3, m4, msh, mst, b23, b24, b25, b26, b27⟩ := id hm
  show gG X 0 [(0, .ref (g_ad X 22)), (1, .int (nI (p)))] [] S
  refine g_aload_n K 0 dX6_fewest_0 rfl ?_
  refine g_aload_n K 0 dX6_fewest_1 rfl ?_
  refine g_iload_n K 1 dX6_fewest_2 rfl ?_
  refine g_callVd (q := 22) (ci := 6) (As := [.int (nI (p))]) (rest := [.ref (g_ad X 22)]) (C := RX6) (T := TX6) (N := 17) K (cX6_isPipe_k (g_z X) S p (hm) (by omega)) (cwV 1 K.1.2.2.2.2 gX6_fewest_X6_isPipe rfl rfl rfl (by decide +kernel) ⟨Nat.le_trans (Nat.le_of_ble_eq_true rfl) hRf, Nat.le_trans (Nat.le_of_ble_eq_true rfl) hRl⟩) rfl rfl rfl rfl (Nat.le_of_ble_eq_true rfl) dX6_fewest_3 ?_
  have hf3_1 := isN_spec (S 22 2) p
  refine g_if_eq (tgt := 13) (a := isN (S 22 2) p) K dX6_fewest_6 (by decide) (by omega) (fun h6_2 => ?_) (fun h6_2 => ?_)
  · refine g_iconst K 1 dX6_fewest_13 (by decide +kernel) ?_
    refine g_callVd (q := 22) (ci := 6) (As := [.int (nI (1))]) (rest := []) (C := RX6) (T := TX6) (N := 17) K (cX6_refused_k (g_z X) S 1 (by omega)) (cwV 1 K.1.2.2.2.2 gX6_fewest_X6_refused rfl rfl rfl (by decide +kernel) ⟨Nat.le_trans (Nat.le_of_ble_eq_true rfl) hRf, Nat.le_trans (Nat.le_of_ble_eq_true rfl) hRl⟩) rfl rfl rfl rfl (Nat.le_of_ble_eq_true rfl) dX6_fewest_14 ?_
    refine g_cast (S' := (va_up S 22 (va_up (S 22) 0 (1)))) rfl rfl rfl ?_
    refine g_if_eq (tgt := 22) (a := 1) K dX6_fewest_17 (by decide) (by omega) (fun h17_3 => absurd h17_3 (by omega)) (fun h17_3 => ?_)
    refine g_iconst K 0 dX6_fewest_20 (by decide +kernel) ?_
    exact g_retd hret dX6_fewest_21 rfl rfl
  · refine g_iconst K 0 dX6_fewest_9 (by decide +kernel) ?_
    refine g_goto (tgt := 14) K dX6_fewest_10 (by decide) ?_
    refine g_callVd (q := 22) (ci := 6) (As := [.int (nI (0))]) (rest := []) (C := RX6) (T := TX6) (N := 17) K (cX6_refused_k (g_z X) S 0 (by omega)) (cwV 1 K.1.2.2.2.2 gX6_fewest_X6_refused rfl rfl rfl (by decide +kernel) ⟨Nat.le_trans (Nat.le_of_ble_eq_true rfl) hRf, Nat.le_trans (Nat.le_of_ble_eq_true rfl) hRl⟩) rfl rfl rfl rfl (Nat.le_of_ble_eq_true rfl) dX6_fewest_14 ?_
    refine g_cast (S' := (va_up S 22 (va_up (S 22) 0 (0)))) rfl rfl rfl ?_
    refine g_if_eq (tgt := 22) (a := 0) K dX6_fewest_17 (by decide) (by omega) (fun h17_4 => ?_) (fun h17_4 => absurd h17_4 (by omega))
    exfalso; omega

set_option maxHeartbeats 4000000 in
set_option maxRecDepth 100000 in
theorem cX6_fewestByTrying_k (Z : gZ) (S : Nat → Nat → Nat) (p : Nat) (hm : wfM S) (hup : p < 4294967296) (hp : p < S 22 2) : gMd Z yX6_fewestByTrying wsX6_fewestByTrying { frames := 4, cells := 0, slots := 0, locals := 97 } [.ref (gz_ad Z 22), .int (nI (p))] S (leastM S p) (va_up S 22 (va_up (S 22) 0 (0))) := by
  refine gMd_of (cc := cX6_fewestByTrying) (maxL := 2) (ret := (some .int)) (by decide +kernel) rfl (Nat.le_of_ble_eq_true rfl) (Or.inl rfl) (fun X hZ hR K hret => ?_)
  subst hZ
  have K : gOk X cX6_fewestByTrying 2 wsX6_fewestByTrying RX6 := K
  have hRf : 4 ≤ (g_R X).frames := gR_f hR rfl
  have hRl : 97 ≤ (g_R X).locals := gR_l hR rfl
  obtain ⟨m1, m2, m3, m4, msh, mst, b23, b24, b25, b26, b27⟩ := id hm
  show gG X 0 [(0, .ref (g_ad X 22)), (1, .int (nI (p)))] [] S
  refine g_aload_n K 0 dX6_fewestByTrying_0 rfl ?_
  refine g_aload_n K 0 dX6_fewestByTrying_1 rfl ?_
  refine g_iload_n K 1 dX6_fewestByTrying_2 rfl ?_
  refine g_callVd (q := 22) (ci := 6) (As := [.int (nI (p))]) (rest := [.ref (g_ad X 22)]) (C := RX6) (T := TX6) (N := 17) K (cX6_isPipe_k (g_z X) S p (hm) (by omega)) (cwV 1 K.1.2.2.2.2 gX6_fewestByTrying_X6_isPipe rfl rfl rfl (by decide +kernel) ⟨Nat.le_trans (Nat.le_of_ble_eq_true rfl) hRf, Nat.le_trans (Nat.le_of_ble_eq_true rfl) hRl⟩) rfl rfl rfl rfl (Nat.le_of_ble_eq_true rfl) dX6_fewestByTrying_3 ?_
  have hf3_1 := isN_spec (S 22 2) p
  refine g_if_eq (tgt := 13) (a := isN (S 22 2) p) K dX6_fewestByTrying_6 (by decide) (by omega) (fun h6_2 => ?_) (fun h6_2 => ?_)
  · refine g_iconst K 1 dX6_fewestByTrying_13 (by decide +kernel) ?_
    refine g_callVd (q := 22) (ci := 6) (As := [.int (nI (1))]) (rest := []) (C := RX6) (T := TX6) (N := 17) K (cX6_refused_k (g_z X) S 1 (by omega)) (cwV 1 K.1.2.2.2.2 gX6_fewestByTrying_X6_refused rfl rfl rfl (by decide +kernel) ⟨Nat.le_trans (Nat.le_of_ble_eq_true rfl) hRf, Nat.le_trans (Nat.le_of_ble_eq_true rfl) hRl⟩) rfl rfl rfl rfl (Nat.le_of_ble_eq_true rfl) dX6_fewestByTrying_14 ?_
    refine g_cast (S' := (va_up S 22 (va_up (S 22) 0 (1)))) rfl rfl rfl ?_
    refine g_if_eq (tgt := 24) (a := 1) K dX6_fewestByTrying_17 (by decide) (by omega) (fun h17_3 => absurd h17_3 (by omega)) (fun h17_3 => ?_)
    exfalso; omega
  · refine g_iconst K 0 dX6_fewestByTrying_9 (by decide +kernel) ?_
    refine g_goto (tgt := 14) K dX6_fewestByTrying_10 (by decide) ?_
    refine g_callVd (q := 22) (ci := 6) (As := [.int (nI (0))]) (rest := []) (C := RX6) (T := TX6) (N := 17) K (cX6_refused_k (g_z X) S 0 (by omega)) (cwV 1 K.1.2.2.2.2 gX6_fewestByTrying_X6_refused rfl rfl rfl (by decide +kernel) ⟨Nat.le_trans (Nat.le_of_ble_eq_true rfl) hRf, Nat.le_trans (Nat.le_of_ble_eq_true rfl) hRl⟩) rfl rfl rfl rfl (Nat.le_of_ble_eq_true rfl) dX6_fewestByTrying_14 ?_
    refine g_cast (S' := (va_up S 22 (va_up (S 22) 0 (0)))) rfl rfl rfl ?_
    refine g_if_eq (tgt := 24) (a := 0) K dX6_fewestByTrying_17 (by decide) (by omega) (fun h17_4 => ?_) (fun h17_4 => absurd h17_4 (by omega))
    refine g_aload_n K 0 dX6_fewestByTrying_24 rfl ?_
    refine g_iload_n K 1 dX6_fewestByTrying_25 rfl ?_
    refine g_callVd (q := 22) (ci := 6) (As := [.int (nI (p))]) (rest := []) (C := RX6) (T := TX6) (N := 17) K (cX6_least_k (g_z X) (va_up S 22 (va_up (S 22) 0 (0))) p ((wfM_r hm)) (by omega)) (cwV 1 K.1.2.2.2.2 gX6_fewestByTrying_X6_least rfl rfl rfl (by decide +kernel) ⟨Nat.le_trans (Nat.le_of_ble_eq_true rfl) hRf, Nat.le_trans (Nat.le_of_ble_eq_true rfl) hRl⟩) rfl rfl rfl rfl (Nat.le_of_ble_eq_true rfl) dX6_fewestByTrying_26 ?_
    refine g_topE (leastM S p) (by first | (rw [leastM_r]; done) | (rw [leastM_r]; rfl)) ?_
    exact g_retd hret dX6_fewestByTrying_29 rfl rfl

set_option maxHeartbeats 4000000 in
set_option maxRecDepth 100000 in
theorem cX6_fewestByTrying_r1 (Z : gZ) (S : Nat → Nat → Nat) (p : Nat) (hm : wfM S) (hup : p < 4294967296) (hn : S 22 2 ≤ p) : gMd Z yX6_fewestByTrying wsX6_fewestByTrying { frames := 2, cells := 0, slots := 0, locals := 43 } [.ref (gz_ad Z 22), .int (nI (p))] S (0) (va_up S 22 (va_up (S 22) 0 (1))) := by
  refine gMd_of (cc := cX6_fewestByTrying) (maxL := 2) (ret := (some .int)) (by decide +kernel) rfl (Nat.le_of_ble_eq_true rfl) (Or.inl rfl) (fun X hZ hR K hret => ?_)
  subst hZ
  have K : gOk X cX6_fewestByTrying 2 wsX6_fewestByTrying RX6 := K
  have hRf : 2 ≤ (g_R X).frames := gR_f hR rfl
  have hRl : 43 ≤ (g_R X).locals := gR_l hR rfl
  obtain ⟨m1, m2, m3, m4, msh, mst, b23, b24, b25, b26, b27⟩ := id hm
  show gG X 0 [(0, .ref (g_ad X 22)), (1, .int (nI (p)))] [] S
  refine g_aload_n K 0 dX6_fewestByTrying_0 rfl ?_
  refine g_aload_n K 0 dX6_fewestByTrying_1 rfl ?_
  refine g_iload_n K 1 dX6_fewestByTrying_2 rfl ?_
  refine g_callVd (q := 22) (ci := 6) (As := [.int (nI (p))]) (rest := [.ref (g_ad X 22)]) (C := RX6) (T := TX6) (N := 17) K (cX6_isPipe_k (g_z X) S p (hm) (by omega)) (cwV 1 K.1.2.2.2.2 gX6_fewestByTrying_X6_isPipe rfl rfl rfl (by decide +kernel) ⟨Nat.le_trans (Nat.le_of_ble_eq_true rfl) hRf, Nat.le_trans (Nat.le_of_ble_eq_true rfl) hRl⟩) rfl rfl rfl rfl (Nat.le_of_ble_eq_true rfl) dX6_fewestByTrying_3 ?_
  have hf3_1 := isN_spec (S 22 2) p
  refine g_if_eq (tgt := 13) (a := isN (S 22 2) p) K dX6_fewestByTrying_6 (by decide) (by omega) (fun h6_2 => ?_) (fun h6_2 => ?_)
  · refine g_iconst K 1 dX6_fewestByTrying_13 (by decide +kernel) ?_
    refine g_callVd (q := 22) (ci := 6) (As := [.int (nI (1))]) (rest := []) (C := RX6) (T := TX6) (N := 17) K (cX6_refused_k (g_z X) S 1 (by omega)) (cwV 1 K.1.2.2.2.2 gX6_fewestByTrying_X6_refused rfl rfl rfl (by decide +kernel) ⟨Nat.le_trans (Nat.le_of_ble_eq_true rfl) hRf, Nat.le_trans (Nat.le_of_ble_eq_true rfl) hRl⟩) rfl rfl rfl rfl (Nat.le_of_ble_eq_true rfl) dX6_fewestByTrying_14 ?_
    refine g_cast (S' := (va_up S 22 (va_up (S 22) 0 (1)))) rfl rfl rfl ?_
    refine g_if_eq (tgt := 24) (a := 1) K dX6_fewestByTrying_17 (by decide) (by omega) (fun h17_3 => absurd h17_3 (by omega)) (fun h17_3 => ?_)
    refine g_iconst K 0 dX6_fewestByTrying_20 (by decide +kernel) ?_
    refine g_goto (tgt := 29) K dX6_fewestByTrying_21 (by decide) ?_
    exact g_retd hret dX6_fewestByTrying_29 rfl rfl
  · refine g_iconst K 0 dX6_fewestByTrying_9 (by decide +kernel) ?_
    refine g_goto (tgt := 14) K dX6_fewestByTrying_10 (by decide) ?_
    refine g_callVd (q := 22) (ci := 6) (As := [.int (nI (0))]) (rest := []) (C := RX6) (T := TX6) (N := 17) K (cX6_refused_k (g_z X) S 0 (by omega)) (cwV 1 K.1.2.2.2.2 gX6_fewestByTrying_X6_refused rfl rfl rfl (by decide +kernel) ⟨Nat.le_trans (Nat.le_of_ble_eq_true rfl) hRf, Nat.le_trans (Nat.le_of_ble_eq_true rfl) hRl⟩) rfl rfl rfl rfl (Nat.le_of_ble_eq_true rfl) dX6_fewestByTrying_14 ?_
    refine g_cast (S' := (va_up S 22 (va_up (S 22) 0 (0)))) rfl rfl rfl ?_
    refine g_if_eq (tgt := 24) (a := 0) K dX6_fewestByTrying_17 (by decide) (by omega) (fun h17_4 => ?_) (fun h17_4 => absurd h17_4 (by omega))
    exfalso; omega

