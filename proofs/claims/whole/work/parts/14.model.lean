/-! THE REFERENCE: numbers, network -/
def wfM (S : Nat → Nat → Nat) : Prop := S 22 1 ≤ 12 ∧ S 22 2 ≤ 16 ∧ S 22 3 ≤ 12 ∧ S 22 4 < 4096 ∧ S 22 10 < 4096 ∧ S 22 11 < 4096 ∧ (∀ j, S 23 j < 12) ∧ (∀ j, S 24 j < 12 ∨ S 24 j = 4294967295) ∧ (∀ j, S 25 j ≤ 99) ∧ (∀ j, S 26 j ≤ 99) ∧ (∀ j, S 27 j < 32)
theorem wfM_of {S S' : Nat → Nat → Nat} (h : wfM S) (e : ∀ i, i ≠ 0 → i ≠ 16 → S' 22 i = S 22 i) (e3 : S' 23 = S 23) (e4 : S' 24 = S 24) (e5 : S' 25 = S 25) (e6 : S' 26 = S 26) (e7 : S' 27 = S 27) : wfM S' := by
  unfold wfM at h ⊢
  rw [e 1 (by decide) (by decide), e 2 (by decide) (by decide), e 3 (by decide) (by decide), e 4 (by decide) (by decide), e 10 (by decide) (by decide), e 11 (by decide) (by decide), e3, e4, e5, e6, e7]
  exact h
theorem wfM_r {S : Nat → Nat → Nat} {k : Nat} (h : wfM S) : wfM (va_up S 22 (va_up (S 22) 0 k)) := wfM_of h (fun i h0 _ => by simp [va_up, h0]) rfl rfl rfl rfl rfl
theorem wfM_up {S : Nat → Nat → Nat} (h : wfM S) {q : Nat} (hq : 27 < q) (d : Nat → Nat) : wfM (va_up S q d) := wfM_of h (fun i _ _ => by rw [va_up_ne _ _ (by omega)]) (va_up_ne _ _ (by omega)) (va_up_ne _ _ (by omega)) (va_up_ne _ _ (by omega)) (va_up_ne _ _ (by omega)) (va_up_ne _ _ (by omega))
def rf (k : Nat) : Nat := if k = 0 then 0 else 1
theorem rf_le (k : Nat) : rf k ≤ 1 := by unfold rf; split <;> omega
def inF (v lo hi : Nat) : Nat := if (lo < 2147483648 ∧ 2147483648 ≤ v) ∨ (v < lo ∧ (lo < 2147483648 ∨ 2147483648 ≤ v)) then 0 else if (v < 2147483648 ∧ 2147483648 ≤ hi) ∨ (hi < v ∧ (v < 2147483648 ∨ 2147483648 ≤ hi)) then 0 else 1
theorem inF_le (v lo hi : Nat) : inF v lo hi ≤ 1 := by unfold inF; (repeat' split) <;> omega
theorem inF_spec (v lo hi : Nat) : (((lo < 2147483648 ∧ 2147483648 ≤ v) ∨ (v < lo ∧ (lo < 2147483648 ∨ 2147483648 ≤ v)) ∨ (v < 2147483648 ∧ 2147483648 ≤ hi) ∨ (hi < v ∧ (v < 2147483648 ∨ 2147483648 ≤ hi))) ∧ inF v lo hi = 0) ∨ (¬ ((lo < 2147483648 ∧ 2147483648 ≤ v) ∨ (v < lo ∧ (lo < 2147483648 ∨ 2147483648 ≤ v)) ∨ (v < 2147483648 ∧ 2147483648 ≤ hi) ∨ (hi < v ∧ (v < 2147483648 ∨ 2147483648 ≤ hi))) ∧ inF v lo hi = 1) := by unfold inF; (repeat' split) <;> omega
def isN (n x : Nat) : Nat := if x < n then 1 else 0
theorem isN_le (n x : Nat) : isN n x ≤ 1 := by unfold isN; split <;> omega
theorem isN_spec (n x : Nat) : (x < n ∧ isN n x = 1) ∨ (n ≤ x ∧ isN n x = 0) := by unfold isN; split <;> omega
theorem inF_isN {n x : Nat} (hn : n < 2147483648) (hx : x < 4294967296) : inF x 0 (pm n) = isN n x := by
  have h := pm_lt hn
  unfold inF isN
  (repeat' split) <;> omega
set_option maxHeartbeats 4000000 in
set_option maxRecDepth 100000 in
theorem cX6_thrown_k (Z : gZ) (S : Nat → Nat → Nat) : gMd Z yX6_thrown wsX6_thrown { frames := 0, cells := 0, slots := 0, locals := 0 } [.ref (gz_ad Z 22)] S (S 22 0) (S) := by
  refine gMd_of (cc := cX6_thrown) (maxL := 1) (ret := (some .int)) (by decide +kernel) rfl (Nat.le_of_ble_eq_true rfl) (Or.inl rfl) (fun X hZ hR K hret => ?_)
  subst hZ
  have K : gOk X cX6_thrown 1 wsX6_thrown RX6 := K
  have hRf : 0 ≤ (g_R X).frames := gR_f hR rfl
  have hRl : 0 ≤ (g_R X).locals := gR_l hR rfl
  have hin6 : ∀ w ∈ u_ws RX6 TX6 17, w ∈ wsX6_thrown := by decide +kernel
  show gG X 0 [(0, .ref (g_ad X 22))] [] S
  refine g_aload_n K 0 dX6_thrown_0 rfl ?_
  refine g_getI (q := 22) (ci := 6) (k := 0) (N := 17) (C := RX6) (T := TX6) (ref := "ValveWalkModel") K rfl rfl rfl (by decide) hin6 (by decide +kernel) rfl dX6_thrown_1 ?_
  exact g_retd hret dX6_thrown_4 rfl rfl

set_option maxHeartbeats 4000000 in
set_option maxRecDepth 100000 in
theorem cX6_refused_k (Z : gZ) (S : Nat → Nat → Nat) (k : Nat) (hk : k < 4294967296) : gMd Z yX6_refused wsX6_refused { frames := 0, cells := 0, slots := 0, locals := 0 } [.ref (gz_ad Z 22), .int (nI (k))] S (rf k) (va_up S 22 (va_up (S 22) 0 k)) := by
  refine gMd_of (cc := cX6_refused) (maxL := 2) (ret := (some .boolean)) (by decide +kernel) rfl (Nat.le_of_ble_eq_true rfl) (Or.inr ⟨rfl, rf_le _⟩) (fun X hZ hR K hret => ?_)
  subst hZ
  have K : gOk X cX6_refused 2 wsX6_refused RX6 := K
  have hRf : 0 ≤ (g_R X).frames := gR_f hR rfl
  have hRl : 0 ≤ (g_R X).locals := gR_l hR rfl
  have hin6 : ∀ w ∈ u_ws RX6 TX6 17, w ∈ wsX6_refused := by decide +kernel
 
  show gG X 0 [(0, .ref (g_ad X 22)), (1, .int (nI (k)))] [] S
  refine g_aload_n K 0 dX6_refused_0 rfl ?_
  refine g_iload_n K 1 dX6_refused_1 rfl ?_
  refine g_putI (q := 22) (ci := 6) (k := 0) (N := 17) (C := RX6) (T := TX6) (ref := "ValveWalkModel") (a := k) K rfl rfl rfl (by decide) hin6 tyX6_ok nmX6 (by decide +kernel) rfl rfl (by decide +kernel) dX6_refused_2 ?_
  refine g_iload_n K 1 dX6_refused_5 rfl ?_
  refine g_if_eq (tgt := 13) (a := k) K dX6_refused_6 (by decide) (by omega) (fun h6_1 => ?_) (fun h6_1 => ?_)
  · refine g_iconst K 0 dX6_refused_13 (by decide +kernel) ?_
    exact g_retd hret dX6_refused_14 (by unfold rf; (repeat' split) <;> first | rfl | contradiction | (exfalso; omega) | omega) rfl
  · refine g_iconst K 1 dX6_refused_9 (by decide +kernel) ?_
    refine g_goto (tgt := 14) K dX6_refused_10 (by decide) ?_
    exact g_retd hret dX6_refused_14 (by unfold rf; (repeat' split) <;> first | rfl | contradiction | (exfalso; omega) | omega) rfl

set_option maxHeartbeats 4000000 in
set_option maxRecDepth 100000 in
theorem cX6_fine_k (Z : gZ) (S : Nat → Nat → Nat) (v : Nat) : gMd Z yX6_fine wsX6_fine { frames := 0, cells := 0, slots := 0, locals := 0 } [.ref (gz_ad Z 22), .int (nI (v))] S (v) (va_up S 22 (va_up (S 22) 0 0)) := by
  refine gMd_of (cc := cX6_fine) (maxL := 2) (ret := (some .int)) (by decide +kernel) rfl (Nat.le_of_ble_eq_true rfl) (Or.inl rfl) (fun X hZ hR K hret => ?_)
  subst hZ
  have K : gOk X cX6_fine 2 wsX6_fine RX6 := K
  have hRf : 0 ≤ (g_R X).frames := gR_f hR rfl
  have hRl : 0 ≤ (g_R X).locals := gR_l hR rfl
  have hin6 : ∀ w ∈ u_ws RX6 TX6 17, w ∈ wsX6_fine := by decide +kernel
  show gG X 0 [(0, .ref (g_ad X 22)), (1, .int (nI (v)))] [] S
  refine g_aload_n K 0 dX6_fine_0 rfl ?_
  refine g_iconst K 0 dX6_fine_1 (by decide +kernel) ?_
  refine g_putI (q := 22) (ci := 6) (k := 0) (N := 17) (C := RX6) (T := TX6) (ref := "ValveWalkModel") (a := 0) K rfl rfl rfl (by decide) hin6 tyX6_ok nmX6 (by decide +kernel) rfl rfl (by decide +kernel) dX6_fine_2 ?_
  refine g_iload_n K 1 dX6_fine_5 rfl ?_
  exact g_retd hret dX6_fine_6 rfl rfl

set_option maxHeartbeats 4000000 in
set_option maxRecDepth 100000 in
theorem cX6_in_k (Z : gZ) (S : Nat → Nat → Nat) (v lo hi : Nat) (hv : v < 4294967296) (hlo : lo < 4294967296) (hhi : hi < 4294967296) : gMd Z yX6_in wsX6_in { frames := 0, cells := 0, slots := 0, locals := 0 } [.int (nI (v)), .int (nI (lo)), .int (nI (hi))] S (inF v lo hi) (S) := by
  refine gMd_of (cc := cX6_in) (maxL := 3) (ret := (some .boolean)) (by decide +kernel) rfl (Nat.le_of_ble_eq_true rfl) (Or.inr ⟨rfl, inF_le _ _ _⟩) (fun X hZ hR K hret => ?_)
  subst hZ
  have K : gOk X cX6_in 3 wsX6_in RX6 := K
  have hRf : 0 ≤ (g_R X).frames := gR_f hR rfl
  have hRl : 0 ≤ (g_R X).locals := gR_l hR rfl
  show gG X 0 [(0, .int (nI (v))), (1, .int (nI (lo))), (2, .int (nI (hi)))] [] S
  refine g_iload_n K 0 dX6_in_0 rfl ?_
  refine g_iload_n K 1 dX6_in_1 rfl ?_
  refine g_icmp_lt' (tgt := 14) (a := v) (b := lo) K dX6_in_2 (by decide) (by omega) (by omega) (fun h2_1 => ?_) (fun h2_1 => ?_)
  · refine g_iconst K 0 dX6_in_14 (by decide +kernel) ?_
    exact g_retd hret dX6_in_15 (by unfold inF; (repeat' split) <;> first | rfl | contradiction | (exfalso; omega) | omega) rfl
  · refine g_iload_n K 0 dX6_in_5 rfl ?_
    refine g_iload_n K 2 dX6_in_6 rfl ?_
    refine g_icmp_gt' (tgt := 14) (a := v) (b := hi) K dX6_in_7 (by decide) (by omega) (by omega) (fun h7_2 => ?_) (fun h7_2 => ?_)
    · refine g_iconst K 0 dX6_in_14 (by decide +kernel) ?_
      exact g_retd hret dX6_in_15 (by unfold inF; (repeat' split) <;> first | rfl | contradiction | (exfalso; omega) | omega) rfl
    · refine g_iconst K 1 dX6_in_10 (by decide +kernel) ?_
      refine g_goto (tgt := 15) K dX6_in_11 (by decide) ?_
      exact g_retd hret dX6_in_15 (by unfold inF; (repeat' split) <;> first | rfl | contradiction | (exfalso; omega) | omega) rfl

set_option maxHeartbeats 4000000 in
set_option maxRecDepth 100000 in
theorem cX6_isNode_k (Z : gZ) (S : Nat → Nat → Nat) (x : Nat) (hm : wfM S) (hx : x < 4294967296) : gMd Z yX6_isNode wsX6_isNode { frames := 1, cells := 0, slots := 0, locals := 22 } [.ref (gz_ad Z 22), .int (nI (x))] S (isN (S 22 1) x) (S) := by
  refine gMd_of (cc := cX6_isNode) (maxL := 2) (ret := (some .boolean)) (by decide +kernel) rfl (Nat.le_of_ble_eq_true rfl) (Or.inr ⟨rfl, isN_le _ _⟩) (fun X hZ hR K hret => ?_)
  subst hZ
  have K : gOk X cX6_isNode 2 wsX6_isNode RX6 := K
  have hRf : 1 ≤ (g_R X).frames := gR_f hR rfl
  have hRl : 22 ≤ (g_R X).locals := gR_l hR rfl
  have hin6 : ∀ w ∈ u_ws RX6 TX6 17, w ∈ wsX6_isNode := by decide +kernel
  obtain ⟨m1, m2, m3, m4, msh, mst, b23, b24, b25, b26, b27⟩ := id hm
  show gG X 0 [(0, .ref (g_ad X 22)), (1, .int (nI (x)))] [] S
  refine g_iload_n K 1 dX6_isNode_0 rfl ?_
  refine g_iconst K 0 dX6_isNode_1 (by decide +kernel) ?_
  refine g_aload_n K 0 dX6_isNode_2 rfl ?_
  refine g_getI (q := 22) (ci := 6) (k := 1) (N := 17) (C := RX6) (T := TX6) (ref := "ValveWalkModel") K rfl rfl rfl (by decide) hin6 (by decide +kernel) rfl dX6_isNode_3 ?_
  refine g_iconst K 1 dX6_isNode_6 (by decide +kernel) ?_
  have hpm := pm_lt (n := S 22 1) (by omega)
  refine g_isub' K (pm (S 22 1)) (gi_pm) dX6_isNode_7 ?_
  refine g_callSd (As := [.int (nI (x)), .int (nI (0)), .int (nI (pm (S 22 1)))]) (rest := []) K (cX6_in_k (g_z X) S x 0 (pm (S 22 1)) (by omega) (by omega) (by omega)) (va_cwS 3 K.1.2.2.2.2 gX6_isNode_X6_in rfl rfl rfl (by decide +kernel) ⟨Nat.le_trans (Nat.le_of_ble_eq_true rfl) hRf, Nat.le_trans (Nat.le_of_ble_eq_true rfl) hRl⟩) rfl rfl (Nat.le_of_ble_eq_true rfl) dX6_isNode_8 ?_
  have hf8_1 := inF_spec x 0 (pm (S 22 1))
  exact g_retd hret dX6_isNode_11 (inF_isN (by omega) hx) rfl

set_option maxHeartbeats 4000000 in
set_option maxRecDepth 100000 in
theorem cX6_isPipe_k (Z : gZ) (S : Nat → Nat → Nat) (x : Nat) (hm : wfM S) (hx : x < 4294967296) : gMd Z yX6_isPipe wsX6_isPipe { frames := 1, cells := 0, slots := 0, locals := 22 } [.ref (gz_ad Z 22), .int (nI (x))] S (isN (S 22 2) x) (S) := by
  refine gMd_of (cc := cX6_isPipe) (maxL := 2) (ret := (some .boolean)) (by decide +kernel) rfl (Nat.le_of_ble_eq_true rfl) (Or.inr ⟨rfl, isN_le _ _⟩) (fun X hZ hR K hret => ?_)
  subst hZ
  have K : gOk X cX6_isPipe 2 wsX6_isPipe RX6 := K
  have hRf : 1 ≤ (g_R X).frames := gR_f hR rfl
  have hRl : 22 ≤ (g_R X).locals := gR_l hR rfl
  have hin6 : ∀ w ∈ u_ws RX6 TX6 17, w ∈ wsX6_isPipe := by decide +kernel
  obtain ⟨m1, m2, m3, m4, msh, mst, b23, b24, b25, b26, b27⟩ := id hm
  show gG X 0 [(0, .ref (g_ad X 22)), (1, .int (nI (x)))] [] S
  refine g_iload_n K 1 dX6_isPipe_0 rfl ?_
  refine g_iconst K 0 dX6_isPipe_1 (by decide +kernel) ?_
  refine g_aload_n K 0 dX6_isPipe_2 rfl ?_
  refine g_getI (q := 22) (ci := 6) (k := 2) (N := 17) (C := RX6) (T := TX6) (ref := "ValveWalkModel") K rfl rfl rfl (by decide) hin6 (by decide +kernel) rfl dX6_isPipe_3 ?_
  refine g_iconst K 1 dX6_isPipe_6 (by decide +kernel) ?_
  have hpm := pm_lt (n := S 22 2) (by omega)
  refine g_isub' K (pm (S 22 2)) (gi_pm) dX6_isPipe_7 ?_
  refine g_callSd (As := [.int (nI (x)), .int (nI (0)), .int (nI (pm (S 22 2)))]) (rest := []) K (cX6_in_k (g_z X) S x 0 (pm (S 22 2)) (by omega) (by omega) (by omega)) (va_cwS 3 K.1.2.2.2.2 gX6_isPipe_X6_in rfl rfl rfl (by decide +kernel) ⟨Nat.le_trans (Nat.le_of_ble_eq_true rfl) hRf, Nat.le_trans (Nat.le_of_ble_eq_true rfl) hRl⟩) rfl rfl (Nat.le_of_ble_eq_true rfl) dX6_isPipe_8 ?_
  have hf8_1 := inF_spec x 0 (pm (S 22 2))
  exact g_retd hret dX6_isPipe_11 (inF_isN (by omega) hx) rfl

set_option maxHeartbeats 4000000 in
set_option maxRecDepth 100000 in
theorem cX6_isValve_k (Z : gZ) (S : Nat → Nat → Nat) (x : Nat) (hm : wfM S) (hx : x < 4294967296) : gMd Z yX6_isValve wsX6_isValve { frames := 1, cells := 0, slots := 0, locals := 22 } [.ref (gz_ad Z 22), .int (nI (x))] S (isN (S 22 3) x) (S) := by
  refine gMd_of (cc := cX6_isValve) (maxL := 2) (ret := (some .boolean)) (by decide +kernel) rfl (Nat.le_of_ble_eq_true rfl) (Or.inr ⟨rfl, isN_le _ _⟩) (fun X hZ hR K hret => ?_)
  subst hZ
  have K : gOk X cX6_isValve 2 wsX6_isValve RX6 := K
  have hRf : 1 ≤ (g_R X).frames := gR_f hR rfl
  have hRl : 22 ≤ (g_R X).locals := gR_l hR rfl
  have hin6 : ∀ w ∈ u_ws RX6 TX6 17, w ∈ wsX6_isValve := by decide +kernel
  obtain ⟨m1, m2, m3, m4, msh, mst, b23, b24, b25, b26, b27⟩ := id hm
  show gG X 0 [(0, .ref (g_ad X 22)), (1, .int (nI (x)))] [] S
  refine g_iload_n K 1 dX6_isValve_0 rfl ?_
  refine g_iconst K 0 dX6_isValve_1 (by decide +kernel) ?_
  refine g_aload_n K 0 dX6_isValve_2 rfl ?_
  refine g_getI (q := 22) (ci := 6) (k := 3) (N := 17) (C := RX6) (T := TX6) (ref := "ValveWalkModel") K rfl rfl rfl (by decide) hin6 (by decide +kernel) rfl dX6_isValve_3 ?_
  refine g_iconst K 1 dX6_isValve_6 (by decide +kernel) ?_
  have hpm := pm_lt (n := S 22 3) (by omega)
  refine g_isub' K (pm (S 22 3)) (gi_pm) dX6_isValve_7 ?_
  refine g_callSd (As := [.int (nI (x)), .int (nI (0)), .int (nI (pm (S 22 3)))]) (rest := []) K (cX6_in_k (g_z X) S x 0 (pm (S 22 3)) (by omega) (by omega) (by omega)) (va_cwS 3 K.1.2.2.2.2 gX6_isValve_X6_in rfl rfl rfl (by decide +kernel) ⟨Nat.le_trans (Nat.le_of_ble_eq_true rfl) hRf, Nat.le_trans (Nat.le_of_ble_eq_true rfl) hRl⟩) rfl rfl (Nat.le_of_ble_eq_true rfl) dX6_isValve_8 ?_
  have hf8_1 := inF_spec x 0 (pm (S 22 3))
  exact g_retd hret dX6_isValve_11 (inF_isN (by omega) hx) rfl

def popGo : Nat → Nat → Nat → Nat
  | 0, _, n => n
  | k + 1, r, n => if r = 0 then n else popGo k (r &&& (r - 1)) (n + 1)
def popM (a : Nat) : Nat := popGo a a 0
theorem popGo_le : ∀ (k r n : Nat), popGo k r n ≤ n + k
  | 0, _, _ => Nat.le_refl _
  | k + 1, r, n => by
    have h := popGo_le k (r &&& (r - 1)) (n + 1)
    unfold popGo
    split <;> omega
theorem popM_le (a : Nat) : popM a ≤ a := by have := popGo_le a a 0; unfold popM; omega
set_option maxHeartbeats 4000000 in
set_option maxRecDepth 100000 in
theorem L_bits (X : gC) (S : Nat → Nat → Nat) (K : gOk X cX6_bits 3 wsX6_bits RX6) (hRf : 0 ≤ (g_R X).frames) (hRl : 0 ≤ (g_R X).locals) : ∀ (k n r : Nat), r ≤ k → n + r < 2147483648 ∧ r < 2147483648 ∨ r < 2147483648 → gG X 20 [(1, .int (nI (popGo k r n)))] [] S → gG X 4 [(1, .int (nI (n))), (2, .int (nI (r)))] [] S := by
  intro k
  induction k with
  | zero =>
    intro n r hr hb kk
    refine g_iload_n K 1 dX6_bits_4 rfl ?_
    refine g_if_eq (tgt := 20) (a := r) K dX6_bits_5 (by decide) (by omega) (fun h5_1 => ?_) (fun h5_1 => ?_)
    · refine g_loc (lo' := [(1, .int (nI (n)))]) [0] rfl ?_
      exact kk
    · exact absurd (show r = 0 by omega) h5_1
  | succ k ih =>
    intro n r hr hb kk
    refine g_iload_n K 1 dX6_bits_4 rfl ?_
    refine g_if_eq (tgt := 20) (a := r) K dX6_bits_5 (by decide) (by omega) (fun h5_1 => ?_) (fun h5_1 => ?_)
    · refine g_loc (lo' := [(1, .int (nI (n)))]) [0] rfl ?_
      exact (by rw [popGo, if_pos (by assumption)] at kk; exact kk)
    · refine g_iinc (a := n) (b := n + 1) (lo' := [(1, .int (nI (n + 1))), (2, .int (nI (r)))]) K 0 dX6_bits_8 rfl (gi_inc _) (by decide) rfl ?_
      refine g_iload_n K 1 dX6_bits_11 rfl ?_
      refine g_iload_n K 1 dX6_bits_12 rfl ?_
      refine g_iconst K 1 dX6_bits_13 (by decide +kernel) ?_
      refine g_isub (a := r) (b := 1) K (by omega) dX6_bits_14 ?_
      refine g_iand (a := r) (b := (r) - (1)) K dX6_bits_15 ?_
      have hL15_2 := @Nat.and_le_left (r) ((r) - (1))
      have hR15_3 := @Nat.and_le_right (r) ((r) - (1))
      refine g_istore_n (lo' := [(2, .int (nI ((r) &&& ((r) - (1))))), (1, .int (nI (n + 1)))]) K dX6_bits_16 (by decide) rfl ?_
      refine g_goto (tgt := 4) K dX6_bits_17 (by decide) ?_
      refine g_loc (lo' := [(1, .int (nI (n + 1))), (2, .int (nI ((r) &&& ((r) - (1)))))]) [1, 0] rfl ?_
      exact ih (n + 1) (r &&& (r - 1)) (by have := @Nat.and_le_right r (r - 1); omega) (by omega) (by rw [popGo, if_neg (by assumption)] at kk; exact kk)

set_option maxHeartbeats 4000000 in
set_option maxRecDepth 100000 in
theorem cX6_bits_k (Z : gZ) (S : Nat → Nat → Nat) (a : Nat) (ha : a < 2147483648) : gMd Z yX6_bits wsX6_bits { frames := 0, cells := 0, slots := 0, locals := 0 } [.int (nI (a))] S (popM a) (S) := by
  refine gMd_of (cc := cX6_bits) (maxL := 3) (ret := (some .int)) (by decide +kernel) rfl (Nat.le_of_ble_eq_true rfl) (Or.inl rfl) (fun X hZ hR K hret => ?_)
  subst hZ
  have K : gOk X cX6_bits 3 wsX6_bits RX6 := K
  have hRf : 0 ≤ (g_R X).frames := gR_f hR rfl
  have hRl : 0 ≤ (g_R X).locals := gR_l hR rfl
 
  show gG X 0 [(0, .int (nI (a)))] [] S
  refine g_iconst K 0 dX6_bits_0 (by decide +kernel) ?_
  refine g_istore_n (lo' := [(1, .int (nI (0))), (0, .int (nI (a)))]) K dX6_bits_1 (by decide) rfl ?_
  refine g_iload_n K 1 dX6_bits_2 rfl ?_
  refine g_istore_n (lo' := [(2, .int (nI (a))), (1, .int (nI (0))), (0, .int (nI (a)))]) K dX6_bits_3 (by decide) rfl ?_
  refine g_loc (lo' := [(1, .int (nI (0))), (2, .int (nI (a)))]) [1, 0] rfl ?_
  refine L_bits X S K (Nat.le_trans (Nat.le_of_ble_eq_true rfl) hRf) (Nat.le_trans (Nat.le_of_ble_eq_true rfl) hRl) a 0 a (Nat.le_refl _) (Or.inr ha) ?_
  refine g_iload_n K 0 dX6_bits_20 rfl ?_
  exact g_retd hret dX6_bits_21 rfl rfl

set_option maxHeartbeats 4000000 in
set_option maxRecDepth 100000 in
theorem cX6_addNode_k (Z : gZ) (S : Nat → Nat → Nat) (i : Nat) (hm : wfM S) (h0 : S 22 1 < 12) (hi : i < 4294967296) : gMd Z yX6_addNode wsX6_addNode { frames := 1, cells := 0, slots := 0, locals := 21 } [.ref (gz_ad Z 22), .int (nI (i))] S (S 22 1) (va_up S 22 (va_up (va_up (va_up (S 22) 0 (0)) 4 (S 22 4 ||| (if i = 0 then 0 else 1 <<< S 22 1))) 1 (S 22 1 + 1))) := by
  refine gMd_of (cc := cX6_addNode) (maxL := 2) (ret := (some .int)) (by decide +kernel) rfl (Nat.le_of_ble_eq_true rfl) (Or.inl rfl) (fun X hZ hR K hret => ?_)
  subst hZ
  have K : gOk X cX6_addNode 2 wsX6_addNode RX6 := K
  have hRf : 1 ≤ (g_R X).frames := gR_f hR rfl
  have hRl : 21 ≤ (g_R X).locals := gR_l hR rfl
  have hin6 : ∀ w ∈ u_ws RX6 TX6 17, w ∈ wsX6_addNode := by decide +kernel
  obtain ⟨m1, m2, m3, m4, msh, mst, b23, b24, b25, b26, b27⟩ := id hm
  show gG X 0 [(0, .ref (g_ad X 22)), (1, .int (nI (i)))] [] S
  refine g_aload_n K 0 dX6_addNode_0 rfl ?_
  refine g_aload_n K 0 dX6_addNode_1 rfl ?_
  refine g_getI (q := 22) (ci := 6) (k := 1) (N := 17) (C := RX6) (T := TX6) (ref := "ValveWalkModel") K rfl rfl rfl (by decide) hin6 (by decide +kernel) rfl dX6_addNode_2 ?_
  refine g_bipush K 12 dX6_addNode_5 (by decide +kernel) ?_
  refine g_icmp_ne (tgt := 14) (a := S 22 1) (b := 12) K dX6_addNode_7 (by decide) (by omega) (by omega) (fun h7_1 => ?_) (fun h7_1 => ?_)
  · refine g_iconst K 0 dX6_addNode_14 (by decide +kernel) ?_
    refine g_callVd (q := 22) (ci := 6) (As := [.int (nI (0))]) (rest := []) (C := RX6) (T := TX6) (N := 17) K (cX6_refused_k (g_z X) S 0 (by omega)) (cwV 1 K.1.2.2.2.2 gX6_addNode_X6_refused rfl rfl rfl (by decide +kernel) ⟨Nat.le_trans (Nat.le_of_ble_eq_true rfl) hRf, Nat.le_trans (Nat.le_of_ble_eq_true rfl) hRl⟩) rfl rfl rfl rfl (Nat.le_of_ble_eq_true rfl) dX6_addNode_15 ?_
    refine g_cast (S' := (va_up S 22 (va_up (S 22) 0 (0)))) rfl rfl rfl ?_
    refine g_if_eq (tgt := 23) (a := 0) K dX6_addNode_18 (by decide) (by omega) (fun h18_2 => ?_) (fun h18_2 => absurd h18_2 (by omega))
    refine g_aload_n K 0 dX6_addNode_23 rfl ?_
    refine g_dup K dX6_addNode_24 rfl ?_
    refine g_getI (q := 22) (ci := 6) (k := 4) (N := 17) (C := RX6) (T := TX6) (ref := "ValveWalkModel") K rfl rfl rfl (by decide) hin6 (by decide +kernel) rfl dX6_addNode_25 ?_
    refine g_topE (S 22 4) rfl ?_
    refine g_iload_n K 1 dX6_addNode_28 rfl ?_
    refine g_if_eq (tgt := 41) (a := i) K dX6_addNode_29 (by decide) (by omega) (fun h29_3 => ?_) (fun h29_3 => ?_)
    · refine g_iconst K 0 dX6_addNode_41 (by decide +kernel) ?_
      refine g_ior (a := S 22 4) (b := 0) K dX6_addNode_42 ?_
      refine g_putI (q := 22) (ci := 6) (k := 4) (N := 17) (C := RX6) (T := TX6) (ref := "ValveWalkModel") (a := (S 22 4) ||| (0)) K rfl rfl rfl (by decide) hin6 tyX6_ok nmX6 (by decide +kernel) rfl rfl (by decide +kernel) dX6_addNode_43 ?_
      refine g_cast (S' := (va_up S 22 (va_up (va_up (S 22) 0 (0)) 4 ((S 22 4) ||| (0))))) rfl rfl (gup_w1a) ?_
      refine g_aload_n K 0 dX6_addNode_46 rfl ?_
      refine g_dup K dX6_addNode_47 rfl ?_
      refine g_getI (q := 22) (ci := 6) (k := 1) (N := 17) (C := RX6) (T := TX6) (ref := "ValveWalkModel") K rfl rfl rfl (by decide) hin6 (by decide +kernel) rfl dX6_addNode_48 ?_
      refine g_topE (S 22 1) rfl ?_
      refine g_iconst K 1 dX6_addNode_51 (by decide +kernel) ?_
      refine g_iadd (a := S 22 1) (b := 1) K dX6_addNode_52 ?_
      refine g_putI (q := 22) (ci := 6) (k := 1) (N := 17) (C := RX6) (T := TX6) (ref := "ValveWalkModel") (a := (S 22 1) + (1)) K rfl rfl rfl (by decide) hin6 tyX6_ok nmX6 (by decide +kernel) rfl rfl (by decide +kernel) dX6_addNode_53 ?_
      refine g_cast (S' := (va_up S 22 (va_up (va_up (va_up (S 22) 0 (0)) 4 ((S 22 4) ||| (0))) 1 ((S 22 1) + (1))))) rfl rfl (gup_w1a) ?_
      refine g_aload_n K 0 dX6_addNode_56 rfl ?_
      refine g_getI (q := 22) (ci := 6) (k := 1) (N := 17) (C := RX6) (T := TX6) (ref := "ValveWalkModel") K rfl rfl rfl (by decide) hin6 (by decide +kernel) rfl dX6_addNode_57 ?_
      refine g_topE ((S 22 1) + (1)) rfl ?_
      refine g_iconst K 1 dX6_addNode_60 (by decide +kernel) ?_
      refine g_isub (a := (S 22 1) + (1)) (b := 1) K (by omega) dX6_addNode_61 ?_
      exact g_retd hret dX6_addNode_62 (by omega) (by first | (rw [if_pos (by assumption)]; done) | (rw [if_neg (by assumption)]; done) | (rw [if_pos (by assumption)]; rfl) | (rw [if_neg (by assumption)]; rfl))
    · refine g_iconst K 1 dX6_addNode_32 (by decide +kernel) ?_
      refine g_aload_n K 0 dX6_addNode_33 rfl ?_
      refine g_getI (q := 22) (ci := 6) (k := 1) (N := 17) (C := RX6) (T := TX6) (ref := "ValveWalkModel") K rfl rfl rfl (by decide) hin6 (by decide +kernel) rfl dX6_addNode_34 ?_
      refine g_topE (S 22 1) rfl ?_
      refine g_ishl (a := 1) (b := S 22 1) K (by omega) dX6_addNode_37 ?_
      refine g_goto (tgt := 42) K dX6_addNode_38 (by decide) ?_
      refine g_ior (a := S 22 4) (b := (1) <<< (S 22 1)) K dX6_addNode_42 ?_
      refine g_putI (q := 22) (ci := 6) (k := 4) (N := 17) (C := RX6) (T := TX6) (ref := "ValveWalkModel") (a := (S 22 4) ||| ((1) <<< (S 22 1))) K rfl rfl rfl (by decide) hin6 tyX6_ok nmX6 (by decide +kernel) rfl rfl (by decide +kernel) dX6_addNode_43 ?_
      refine g_cast (S' := (va_up S 22 (va_up (va_up (S 22) 0 (0)) 4 ((S 22 4) ||| ((1) <<< (S 22 1)))))) rfl rfl (gup_w1a) ?_
      refine g_aload_n K 0 dX6_addNode_46 rfl ?_
      refine g_dup K dX6_addNode_47 rfl ?_
      refine g_getI (q := 22) (ci := 6) (k := 1) (N := 17) (C := RX6) (T := TX6) (ref := "ValveWalkModel") K rfl rfl rfl (by decide) hin6 (by decide +kernel) rfl dX6_addNode_48 ?_
      refine g_topE (S 22 1) rfl ?_
      refine g_iconst K 1 dX6_addNode_51 (by decide +kernel) ?_
      refine g_iadd (a := S 22 1) (b := 1) K dX6_addNode_52 ?_
      refine g_putI (q := 22) (ci := 6) (k := 1) (N := 17) (C := RX6) (T := TX6) (ref := "ValveWalkModel") (a := (S 22 1) + (1)) K rfl rfl rfl (by decide) hin6 tyX6_ok nmX6 (by decide +kernel) rfl rfl (by decide +kernel) dX6_addNode_53 ?_
      refine g_cast (S' := (va_up S 22 (va_up (va_up (va_up (S 22) 0 (0)) 4 ((S 22 4) ||| ((1) <<< (S 22 1)))) 1 ((S 22 1) + (1))))) rfl rfl (gup_w1a) ?_
      refine g_aload_n K 0 dX6_addNode_56 rfl ?_
      refine g_getI (q := 22) (ci := 6) (k := 1) (N := 17) (C := RX6) (T := TX6) (ref := "ValveWalkModel") K rfl rfl rfl (by decide) hin6 (by decide +kernel) rfl dX6_addNode_57 ?_
      refine g_topE ((S 22 1) + (1)) rfl ?_
      refine g_iconst K 1 dX6_addNode_60 (by decide +kernel) ?_
      refine g_isub (a := (S 22 1) + (1)) (b := 1) K (by omega) dX6_addNode_61 ?_
      exact g_retd hret dX6_addNode_62 (by omega) (by first | (rw [if_pos (by assumption)]; done) | (rw [if_neg (by assumption)]; done) | (rw [if_pos (by assumption)]; rfl) | (rw [if_neg (by assumption)]; rfl))
  · refine g_iconst K 1 dX6_addNode_10 (by decide +kernel) ?_
    refine g_goto (tgt := 15) K dX6_addNode_11 (by decide) ?_
    refine g_callVd (q := 22) (ci := 6) (As := [.int (nI (1))]) (rest := []) (C := RX6) (T := TX6) (N := 17) K (cX6_refused_k (g_z X) S 1 (by omega)) (cwV 1 K.1.2.2.2.2 gX6_addNode_X6_refused rfl rfl rfl (by decide +kernel) ⟨Nat.le_trans (Nat.le_of_ble_eq_true rfl) hRf, Nat.le_trans (Nat.le_of_ble_eq_true rfl) hRl⟩) rfl rfl rfl rfl (Nat.le_of_ble_eq_true rfl) dX6_addNode_15 ?_
    refine g_cast (S' := (va_up S 22 (va_up (S 22) 0 (1)))) rfl rfl rfl ?_
    refine g_if_eq (tgt := 23) (a := 1) K dX6_addNode_18 (by decide) (by omega) (fun h18_4 => absurd h18_4 (by omega)) (fun h18_4 => ?_)
    exfalso; omega

set_option maxHeartbeats 4000000 in
set_option maxRecDepth 100000 in
theorem cX6_addNode_r1 (Z : gZ) (S : Nat → Nat → Nat) (i : Nat) (hm : wfM S) (h0 : S 22 1 = 12) (hi : i < 4294967296) : gMd Z yX6_addNode wsX6_addNode { frames := 1, cells := 0, slots := 0, locals := 21 } [.ref (gz_ad Z 22), .int (nI (i))] S (0) (va_up S 22 (va_up (S 22) 0 (1))) := by
  refine gMd_of (cc := cX6_addNode) (maxL := 2) (ret := (some .int)) (by decide +kernel) rfl (Nat.le_of_ble_eq_true rfl) (Or.inl rfl) (fun X hZ hR K hret => ?_)
  subst hZ
  have K : gOk X cX6_addNode 2 wsX6_addNode RX6 := K
  have hRf : 1 ≤ (g_R X).frames := gR_f hR rfl
  have hRl : 21 ≤ (g_R X).locals := gR_l hR rfl
  have hin6 : ∀ w ∈ u_ws RX6 TX6 17, w ∈ wsX6_addNode := by decide +kernel
  obtain ⟨m1, m2, m3, m4, msh, mst, b23, b24, b25, b26, b27⟩ := id hm
  show gG X 0 [(0, .ref (g_ad X 22)), (1, .int (nI (i)))] [] S
  refine g_aload_n K 0 dX6_addNode_0 rfl ?_
  refine g_aload_n K 0 dX6_addNode_1 rfl ?_
  refine g_getI (q := 22) (ci := 6) (k := 1) (N := 17) (C := RX6) (T := TX6) (ref := "ValveWalkModel") K rfl rfl rfl (by decide) hin6 (by decide +kernel) rfl dX6_addNode_2 ?_
  refine g_bipush K 12 dX6_addNode_5 (by decide +kernel) ?_
  refine g_icmp_ne (tgt := 14) (a := S 22 1) (b := 12) K dX6_addNode_7 (by decide) (by omega) (by omega) (fun h7_1 => ?_) (fun h7_1 => ?_)
  · refine g_iconst K 0 dX6_addNode_14 (by decide +kernel) ?_
    refine g_callVd (q := 22) (ci := 6) (As := [.int (nI (0))]) (rest := []) (C := RX6) (T := TX6) (N := 17) K (cX6_refused_k (g_z X) S 0 (by omega)) (cwV 1 K.1.2.2.2.2 gX6_addNode_X6_refused rfl rfl rfl (by decide +kernel) ⟨Nat.le_trans (Nat.le_of_ble_eq_true rfl) hRf, Nat.le_trans (Nat.le_of_ble_eq_true rfl) hRl⟩) rfl rfl rfl rfl (Nat.le_of_ble_eq_true rfl) dX6_addNode_15 ?_
    refine g_cast (S' := (va_up S 22 (va_up (S 22) 0 (0)))) rfl rfl rfl ?_
    refine g_if_eq (tgt := 23) (a := 0) K dX6_addNode_18 (by decide) (by omega) (fun h18_2 => ?_) (fun h18_2 => absurd h18_2 (by omega))
    exfalso; omega
  · refine g_iconst K 1 dX6_addNode_10 (by decide +kernel) ?_
    refine g_goto (tgt := 15) K dX6_addNode_11 (by decide) ?_
    refine g_callVd (q := 22) (ci := 6) (As := [.int (nI (1))]) (rest := []) (C := RX6) (T := TX6) (N := 17) K (cX6_refused_k (g_z X) S 1 (by omega)) (cwV 1 K.1.2.2.2.2 gX6_addNode_X6_refused rfl rfl rfl (by decide +kernel) ⟨Nat.le_trans (Nat.le_of_ble_eq_true rfl) hRf, Nat.le_trans (Nat.le_of_ble_eq_true rfl) hRl⟩) rfl rfl rfl rfl (Nat.le_of_ble_eq_true rfl) dX6_addNode_15 ?_
    refine g_cast (S' := (va_up S 22 (va_up (S 22) 0 (1)))) rfl rfl rfl ?_
    refine g_if_eq (tgt := 23) (a := 1) K dX6_addNode_18 (by decide) (by omega) (fun h18_3 => absurd h18_3 (by omega)) (fun h18_3 => ?_)
    refine g_iconst K 0 dX6_addNode_21 (by decide +kernel) ?_
    exact g_retd hret dX6_addNode_22 rfl rfl

set_option maxHeartbeats 4000000 in
set_option maxRecDepth 100000 in
theorem cX6_addPipe_k (Z : gZ) (S : Nat → Nat → Nat) (x y ln cu : Nat) (hm : wfM S) (hux : x < 4294967296) (huy : y < 4294967296) (huln : ln < 4294967296) (hucu : cu < 4294967296) (hx : x < S 22 1) (hy : y < S 22 1) (hxy : x ≠ y) (hl : 1 ≤ ln ∧ ln ≤ 99) (hc : cu ≤ 99) (h1 : S 22 2 < 16) : gMd Z yX6_addPipe wsX6_addPipe { frames := 2, cells := 0, slots := 0, locals := 43 } [.ref (gz_ad Z 22), .int (nI (x)), .int (nI (y)), .int (nI (ln)), .int (nI (cu))] S (S 22 2) (va_up (va_up (va_up (va_up (va_up S 22 (va_up (va_up (S 22) 0 0) 2 (S 22 2 + 1))) 23 (va_up (va_up (S 23) (2 * S 22 2) x) (2 * S 22 2 + 1) y)) 24 (va_up (va_up (S 24) (2 * S 22 2) 4294967295) (2 * S 22 2 + 1) 4294967295)) 25 (va_up (S 25) (S 22 2) ln)) 26 (va_up (S 26) (S 22 2) cu)) := by
  refine gMd_of (cc := cX6_addPipe) (maxL := 7) (ret := (some .int)) (by decide +kernel) rfl (Nat.le_of_ble_eq_true rfl) (Or.inl rfl) (fun X hZ hR K hret => ?_)
  subst hZ
  have K : gOk X cX6_addPipe 7 wsX6_addPipe RX6 := K
  have hRf : 2 ≤ (g_R X).frames := gR_f hR rfl
  have hRl : 43 ≤ (g_R X).locals := gR_l hR rfl
  have hin6 : ∀ w ∈ u_ws RX6 TX6 17, w ∈ wsX6_addPipe := by decide +kernel
  obtain ⟨m1, m2, m3, m4, msh, mst, b23, b24, b25, b26, b27⟩ := id hm
  show gG X 0 [(0, .ref (g_ad X 22)), (1, .int (nI (x))), (2, .int (nI (y))), (3, .int (nI (ln))), (4, .int (nI (cu)))] [] S
  refine g_aload_n K 0 dX6_addPipe_0 rfl ?_
  refine g_iload_n K 1 dX6_addPipe_1 rfl ?_
  refine g_callVd (q := 22) (ci := 6) (As := [.int (nI (x))]) (rest := []) (C := RX6) (T := TX6) (N := 17) K (cX6_isNode_k (g_z X) S x (hm) (by omega)) (cwV 1 K.1.2.2.2.2 gX6_addPipe_X6_isNode rfl rfl rfl (by decide +kernel) ⟨Nat.le_trans (Nat.le_of_ble_eq_true rfl) hRf, Nat.le_trans (Nat.le_of_ble_eq_true rfl) hRl⟩) rfl rfl rfl rfl (Nat.le_of_ble_eq_true rfl) dX6_addPipe_2 ?_
  have hf2_1 := isN_spec (S 22 1) x
  refine g_if_eq (tgt := 20) (a := isN (S 22 1) x) K dX6_addPipe_5 (by decide) (by omega) (fun h5_2 => ?_) (fun h5_2 => ?_)
  · refine g_iconst K 0 dX6_addPipe_20 (by decide +kernel) ?_
    refine g_istore (lo' := [(5, .int (nI (0))), (0, .ref (g_ad X 22)), (1, .int (nI (x))), (2, .int (nI (y))), (3, .int (nI (ln))), (4, .int (nI (cu)))]) K dX6_addPipe_21 (by decide) rfl ?_
    refine g_iload_n K 2 dX6_addPipe_23 rfl ?_
    refine g_iload_n K 3 dX6_addPipe_24 rfl ?_
    refine g_icmp_eq (tgt := 53) (a := x) (b := y) K dX6_addPipe_25 (by decide) (by omega) (by omega) (fun h25_3 => ?_) (fun h25_3 => ?_)
    · refine g_iconst K 0 dX6_addPipe_53 (by decide +kernel) ?_
      refine g_istore (lo' := [(6, .int (nI (0))), (5, .int (nI (0))), (0, .ref (g_ad X 22)), (1, .int (nI (x))), (2, .int (nI (y))), (3, .int (nI (ln))), (4, .int (nI (cu)))]) K dX6_addPipe_54 (by decide) rfl ?_
      refine g_aload_n K 2 dX6_addPipe_56 rfl ?_
      refine g_iload K 1 dX6_addPipe_57 rfl ?_
      refine g_if_ne (tgt := 66) (a := 0) K dX6_addPipe_59 (by decide) (by omega) (fun h59_4 => absurd h59_4 (by omega)) (fun h59_4 => ?_)
      refine g_iconst K 1 dX6_addPipe_62 (by decide +kernel) ?_
      refine g_goto (tgt := 89) K dX6_addPipe_63 (by decide) ?_
      refine g_callVd (q := 22) (ci := 6) (As := [.int (nI (1))]) (rest := []) (C := RX6) (T := TX6) (N := 17) K (cX6_refused_k (g_z X) S 1 (by omega)) (cwV 1 K.1.2.2.2.2 gX6_addPipe_X6_refused rfl rfl rfl (by decide +kernel) ⟨Nat.le_trans (Nat.le_of_ble_eq_true rfl) hRf, Nat.le_trans (Nat.le_of_ble_eq_true rfl) hRl⟩) rfl rfl rfl rfl (Nat.le_of_ble_eq_true rfl) dX6_addPipe_89 ?_
      refine g_cast (S' := (va_up S 22 (va_up (S 22) 0 (1)))) rfl rfl rfl ?_
      refine g_if_eq (tgt := 97) (a := 1) K dX6_addPipe_92 (by decide) (by omega) (fun h92_5 => absurd h92_5 (by omega)) (fun h92_5 => ?_)
      exfalso; omega
    · refine g_iload_n K 4 dX6_addPipe_28 rfl ?_
      refine g_iconst K 1 dX6_addPipe_29 (by decide +kernel) ?_
      refine g_bipush K 99 dX6_addPipe_30 (by decide +kernel) ?_
      refine g_callSd (As := [.int (nI (ln)), .int (nI (1)), .int (nI (99))]) (rest := []) K (cX6_in_k (g_z X) S ln 1 99 (by omega) (by omega) (by omega)) (va_cwS 3 K.1.2.2.2.2 gX6_addPipe_X6_in rfl rfl rfl (by decide +kernel) ⟨Nat.le_trans (Nat.le_of_ble_eq_true rfl) hRf, Nat.le_trans (Nat.le_of_ble_eq_true rfl) hRl⟩) rfl rfl (Nat.le_of_ble_eq_true rfl) dX6_addPipe_32 ?_
      have hf32_6 := inF_spec ln 1 99
      refine g_if_eq (tgt := 53) (a := inF ln 1 99) K dX6_addPipe_35 (by decide) (by omega) (fun h35_7 => ?_) (fun h35_7 => ?_)
      · refine g_iconst K 0 dX6_addPipe_53 (by decide +kernel) ?_
        refine g_istore (lo' := [(6, .int (nI (0))), (5, .int (nI (0))), (0, .ref (g_ad X 22)), (1, .int (nI (x))), (2, .int (nI (y))), (3, .int (nI (ln))), (4, .int (nI (cu)))]) K dX6_addPipe_54 (by decide) rfl ?_
        refine g_aload_n K 2 dX6_addPipe_56 rfl ?_
        refine g_iload K 1 dX6_addPipe_57 rfl ?_
        refine g_if_ne (tgt := 66) (a := 0) K dX6_addPipe_59 (by decide) (by omega) (fun h59_8 => absurd h59_8 (by omega)) (fun h59_8 => ?_)
        refine g_iconst K 1 dX6_addPipe_62 (by decide +kernel) ?_
        refine g_goto (tgt := 89) K dX6_addPipe_63 (by decide) ?_
        refine g_callVd (q := 22) (ci := 6) (As := [.int (nI (1))]) (rest := []) (C := RX6) (T := TX6) (N := 17) K (cX6_refused_k (g_z X) S 1 (by omega)) (cwV 1 K.1.2.2.2.2 gX6_addPipe_X6_refused rfl rfl rfl (by decide +kernel) ⟨Nat.le_trans (Nat.le_of_ble_eq_true rfl) hRf, Nat.le_trans (Nat.le_of_ble_eq_true rfl) hRl⟩) rfl rfl rfl rfl (Nat.le_of_ble_eq_true rfl) dX6_addPipe_89 ?_
        refine g_cast (S' := (va_up S 22 (va_up (S 22) 0 (1)))) rfl rfl rfl ?_
        refine g_if_eq (tgt := 97) (a := 1) K dX6_addPipe_92 (by decide) (by omega) (fun h92_9 => absurd h92_9 (by omega)) (fun h92_9 => ?_)
        exfalso; omega
      · refine g_iload K 5 dX6_addPipe_38 rfl ?_
        refine g_iconst K 0 dX6_addPipe_40 (by decide +kernel) ?_
        refine g_bipush K 99 dX6_addPipe_41 (by decide +kernel) ?_
        refine g_callSd (As := [.int (nI (cu)), .int (nI (0)), .int (nI (99))]) (rest := []) K (cX6_in_k (g_z X) S cu 0 99 (by omega) (by omega) (by omega)) (va_cwS 3 K.1.2.2.2.2 gX6_addPipe_X6_in rfl rfl rfl (by decide +kernel) ⟨Nat.le_trans (Nat.le_of_ble_eq_true rfl) hRf, Nat.le_trans (Nat.le_of_ble_eq_true rfl) hRl⟩) rfl rfl (Nat.le_of_ble_eq_true rfl) dX6_addPipe_43 ?_
        have hf43_10 := inF_spec cu 0 99
        refine g_if_eq (tgt := 53) (a := inF cu 0 99) K dX6_addPipe_46 (by decide) (by omega) (fun h46_11 => ?_) (fun h46_11 => ?_)
        · refine g_iconst K 0 dX6_addPipe_53 (by decide +kernel) ?_
          refine g_istore (lo' := [(6, .int (nI (0))), (5, .int (nI (0))), (0, .ref (g_ad X 22)), (1, .int (nI (x))), (2, .int (nI (y))), (3, .int (nI (ln))), (4, .int (nI (cu)))]) K dX6_addPipe_54 (by decide) rfl ?_
          refine g_aload_n K 2 dX6_addPipe_56 rfl ?_
          refine g_iload K 1 dX6_addPipe_57 rfl ?_
          refine g_if_ne (tgt := 66) (a := 0) K dX6_addPipe_59 (by decide) (by omega) (fun h59_12 => absurd h59_12 (by omega)) (fun h59_12 => ?_)
          refine g_iconst K 1 dX6_addPipe_62 (by decide +kernel) ?_
          refine g_goto (tgt := 89) K dX6_addPipe_63 (by decide) ?_
          refine g_callVd (q := 22) (ci := 6) (As := [.int (nI (1))]) (rest := []) (C := RX6) (T := TX6) (N := 17) K (cX6_refused_k (g_z X) S 1 (by omega)) (cwV 1 K.1.2.2.2.2 gX6_addPipe_X6_refused rfl rfl rfl (by decide +kernel) ⟨Nat.le_trans (Nat.le_of_ble_eq_true rfl) hRf, Nat.le_trans (Nat.le_of_ble_eq_true rfl) hRl⟩) rfl rfl rfl rfl (Nat.le_of_ble_eq_true rfl) dX6_addPipe_89 ?_
          refine g_cast (S' := (va_up S 22 (va_up (S 22) 0 (1)))) rfl rfl rfl ?_
          refine g_if_eq (tgt := 97) (a := 1) K dX6_addPipe_92 (by decide) (by omega) (fun h92_13 => absurd h92_13 (by omega)) (fun h92_13 => ?_)
          exfalso; omega
        · refine g_iconst K 1 dX6_addPipe_49 (by decide +kernel) ?_
          refine g_goto (tgt := 54) K dX6_addPipe_50 (by decide) ?_
          refine g_istore (lo' := [(6, .int (nI (1))), (5, .int (nI (0))), (0, .ref (g_ad X 22)), (1, .int (nI (x))), (2, .int (nI (y))), (3, .int (nI (ln))), (4, .int (nI (cu)))]) K dX6_addPipe_54 (by decide) rfl ?_
          refine g_aload_n K 2 dX6_addPipe_56 rfl ?_
          refine g_iload K 1 dX6_addPipe_57 rfl ?_
          refine g_if_ne (tgt := 66) (a := 0) K dX6_addPipe_59 (by decide) (by omega) (fun h59_14 => absurd h59_14 (by omega)) (fun h59_14 => ?_)
          refine g_iconst K 1 dX6_addPipe_62 (by decide +kernel) ?_
          refine g_goto (tgt := 89) K dX6_addPipe_63 (by decide) ?_
          refine g_callVd (q := 22) (ci := 6) (As := [.int (nI (1))]) (rest := []) (C := RX6) (T := TX6) (N := 17) K (cX6_refused_k (g_z X) S 1 (by omega)) (cwV 1 K.1.2.2.2.2 gX6_addPipe_X6_refused rfl rfl rfl (by decide +kernel) ⟨Nat.le_trans (Nat.le_of_ble_eq_true rfl) hRf, Nat.le_trans (Nat.le_of_ble_eq_true rfl) hRl⟩) rfl rfl rfl rfl (Nat.le_of_ble_eq_true rfl) dX6_addPipe_89 ?_
          refine g_cast (S' := (va_up S 22 (va_up (S 22) 0 (1)))) rfl rfl rfl ?_
          refine g_if_eq (tgt := 97) (a := 1) K dX6_addPipe_92 (by decide) (by omega) (fun h92_15 => absurd h92_15 (by omega)) (fun h92_15 => ?_)
          exfalso; omega
  · refine g_aload_n K 0 dX6_addPipe_8 rfl ?_
    refine g_iload_n K 2 dX6_addPipe_9 rfl ?_
    refine g_callVd (q := 22) (ci := 6) (As := [.int (nI (y))]) (rest := []) (C := RX6) (T := TX6) (N := 17) K (cX6_isNode_k (g_z X) S y (hm) (by omega)) (cwV 1 K.1.2.2.2.2 gX6_addPipe_X6_isNode rfl rfl rfl (by decide +kernel) ⟨Nat.le_trans (Nat.le_of_ble_eq_true rfl) hRf, Nat.le_trans (Nat.le_of_ble_eq_true rfl) hRl⟩) rfl rfl rfl rfl (Nat.le_of_ble_eq_true rfl) dX6_addPipe_10 ?_
    have hf10_16 := isN_spec (S 22 1) y
    refine g_if_eq (tgt := 20) (a := isN (S 22 1) y) K dX6_addPipe_13 (by decide) (by omega) (fun h13_17 => ?_) (fun h13_17 => ?_)
    · refine g_iconst K 0 dX6_addPipe_20 (by decide +kernel) ?_
      refine g_istore (lo' := [(5, .int (nI (0))), (0, .ref (g_ad X 22)), (1, .int (nI (x))), (2, .int (nI (y))), (3, .int (nI (ln))), (4, .int (nI (cu)))]) K dX6_addPipe_21 (by decide) rfl ?_
      refine g_iload_n K 2 dX6_addPipe_23 rfl ?_
      refine g_iload_n K 3 dX6_addPipe_24 rfl ?_
      refine g_icmp_eq (tgt := 53) (a := x) (b := y) K dX6_addPipe_25 (by decide) (by omega) (by omega) (fun h25_18 => ?_) (fun h25_18 => ?_)
      · refine g_iconst K 0 dX6_addPipe_53 (by decide +kernel) ?_
        refine g_istore (lo' := [(6, .int (nI (0))), (5, .int (nI (0))), (0, .ref (g_ad X 22)), (1, .int (nI (x))), (2, .int (nI (y))), (3, .int (nI (ln))), (4, .int (nI (cu)))]) K dX6_addPipe_54 (by decide) rfl ?_
        refine g_aload_n K 2 dX6_addPipe_56 rfl ?_
        refine g_iload K 1 dX6_addPipe_57 rfl ?_
        refine g_if_ne (tgt := 66) (a := 0) K dX6_addPipe_59 (by decide) (by omega) (fun h59_19 => absurd h59_19 (by omega)) (fun h59_19 => ?_)
        refine g_iconst K 1 dX6_addPipe_62 (by decide +kernel) ?_
        refine g_goto (tgt := 89) K dX6_addPipe_63 (by decide) ?_
        refine g_callVd (q := 22) (ci := 6) (As := [.int (nI (1))]) (rest := []) (C := RX6) (T := TX6) (N := 17) K (cX6_refused_k (g_z X) S 1 (by omega)) (cwV 1 K.1.2.2.2.2 gX6_addPipe_X6_refused rfl rfl rfl (by decide +kernel) ⟨Nat.le_trans (Nat.le_of_ble_eq_true rfl) hRf, Nat.le_trans (Nat.le_of_ble_eq_true rfl) hRl⟩) rfl rfl rfl rfl (Nat.le_of_ble_eq_true rfl) dX6_addPipe_89 ?_
        refine g_cast (S' := (va_up S 22 (va_up (S 22) 0 (1)))) rfl rfl rfl ?_
        refine g_if_eq (tgt := 97) (a := 1) K dX6_addPipe_92 (by decide) (by omega) (fun h92_20 => absurd h92_20 (by omega)) (fun h92_20 => ?_)
        exfalso; omega
      · refine g_iload_n K 4 dX6_addPipe_28 rfl ?_
        refine g_iconst K 1 dX6_addPipe_29 (by decide +kernel) ?_
        refine g_bipush K 99 dX6_addPipe_30 (by decide +kernel) ?_
        refine g_callSd (As := [.int (nI (ln)), .int (nI (1)), .int (nI (99))]) (rest := []) K (cX6_in_k (g_z X) S ln 1 99 (by omega) (by omega) (by omega)) (va_cwS 3 K.1.2.2.2.2 gX6_addPipe_X6_in rfl rfl rfl (by decide +kernel) ⟨Nat.le_trans (Nat.le_of_ble_eq_true rfl) hRf, Nat.le_trans (Nat.le_of_ble_eq_true rfl) hRl⟩) rfl rfl (Nat.le_of_ble_eq_true rfl) dX6_addPipe_32 ?_
        have hf32_21 := inF_spec ln 1 99
        refine g_if_eq (tgt := 53) (a := inF ln 1 99) K dX6_addPipe_35 (by decide) (by omega) (fun h35_22 => ?_) (fun h35_22 => ?_)
        · refine g_iconst K 0 dX6_addPipe_53 (by decide +kernel) ?_
          refine g_istore (lo' := [(6, .int (nI (0))), (5, .int (nI (0))), (0, .ref (g_ad X 22)), (1, .int (nI (x))), (2, .int (nI (y))), (3, .int (nI (ln))), (4, .int (nI (cu)))]) K dX6_addPipe_54 (by decide) rfl ?_
          refine g_aload_n K 2 dX6_addPipe_56 rfl ?_
          refine g_iload K 1 dX6_addPipe_57 rfl ?_
          refine g_if_ne (tgt := 66) (a := 0) K dX6_addPipe_59 (by decide) (by omega) (fun h59_23 => absurd h59_23 (by omega)) (fun h59_23 => ?_)
          refine g_iconst K 1 dX6_addPipe_62 (by decide +kernel) ?_
          refine g_goto (tgt := 89) K dX6_addPipe_63 (by decide) ?_
          refine g_callVd (q := 22) (ci := 6) (As := [.int (nI (1))]) (rest := []) (C := RX6) (T := TX6) (N := 17) K (cX6_refused_k (g_z X) S 1 (by omega)) (cwV 1 K.1.2.2.2.2 gX6_addPipe_X6_refused rfl rfl rfl (by decide +kernel) ⟨Nat.le_trans (Nat.le_of_ble_eq_true rfl) hRf, Nat.le_trans (Nat.le_of_ble_eq_true rfl) hRl⟩) rfl rfl rfl rfl (Nat.le_of_ble_eq_true rfl) dX6_addPipe_89 ?_
          refine g_cast (S' := (va_up S 22 (va_up (S 22) 0 (1)))) rfl rfl rfl ?_
          refine g_if_eq (tgt := 97) (a := 1) K dX6_addPipe_92 (by decide) (by omega) (fun h92_24 => absurd h92_24 (by omega)) (fun h92_24 => ?_)
          exfalso; omega
        · refine g_iload K 5 dX6_addPipe_38 rfl ?_
          refine g_iconst K 0 dX6_addPipe_40 (by decide +kernel) ?_
          refine g_bipush K 99 dX6_addPipe_41 (by decide +kernel) ?_
          refine g_callSd (As := [.int (nI (cu)), .int (nI (0)), .int (nI (99))]) (rest := []) K (cX6_in_k (g_z X) S cu 0 99 (by omega) (by omega) (by omega)) (va_cwS 3 K.1.2.2.2.2 gX6_addPipe_X6_in rfl rfl rfl (by decide +kernel) ⟨Nat.le_trans (Nat.le_of_ble_eq_true rfl) hRf, Nat.le_trans (Nat.le_of_ble_eq_true rfl) hRl⟩) rfl rfl (Nat.le_of_ble_eq_true rfl) dX6_addPipe_43 ?_
          have hf43_25 := inF_spec cu 0 99
          refine g_if_eq (tgt := 53) (a := inF cu 0 99) K dX6_addPipe_46 (by decide) (by omega) (fun h46_26 => ?_) (fun h46_26 => ?_)
          · refine g_iconst K 0 dX6_addPipe_53 (by decide +kernel) ?_
            refine g_istore (lo' := [(6, .int (nI (0))), (5, .int (nI (0))), (0, .ref (g_ad X 22)), (1, .int (nI (x))), (2, .int (nI (y))), (3, .int (nI (ln))), (4, .int (nI (cu)))]) K dX6_addPipe_54 (by decide) rfl ?_
            refine g_aload_n K 2 dX6_addPipe_56 rfl ?_
            refine g_iload K 1 dX6_addPipe_57 rfl ?_
            refine g_if_ne (tgt := 66) (a := 0) K dX6_addPipe_59 (by decide) (by omega) (fun h59_27 => absurd h59_27 (by omega)) (fun h59_27 => ?_)
            refine g_iconst K 1 dX6_addPipe_62 (by decide +kernel) ?_
            refine g_goto (tgt := 89) K dX6_addPipe_63 (by decide) ?_
            refine g_callVd (q := 22) (ci := 6) (As := [.int (nI (1))]) (rest := []) (C := RX6) (T := TX6) (N := 17) K (cX6_refused_k (g_z X) S 1 (by omega)) (cwV 1 K.1.2.2.2.2 gX6_addPipe_X6_refused rfl rfl rfl (by decide +kernel) ⟨Nat.le_trans (Nat.le_of_ble_eq_true rfl) hRf, Nat.le_trans (Nat.le_of_ble_eq_true rfl) hRl⟩) rfl rfl rfl rfl (Nat.le_of_ble_eq_true rfl) dX6_addPipe_89 ?_
            refine g_cast (S' := (va_up S 22 (va_up (S 22) 0 (1)))) rfl rfl rfl ?_
            refine g_if_eq (tgt := 97) (a := 1) K dX6_addPipe_92 (by decide) (by omega) (fun h92_28 => absurd h92_28 (by omega)) (fun h92_28 => ?_)
            exfalso; omega
          · refine g_iconst K 1 dX6_addPipe_49 (by decide +kernel) ?_
            refine g_goto (tgt := 54) K dX6_addPipe_50 (by decide) ?_
            refine g_istore (lo' := [(6, .int (nI (1))), (5, .int (nI (0))), (0, .ref (g_ad X 22)), (1, .int (nI (x))), (2, .int (nI (y))), (3, .int (nI (ln))), (4, .int (nI (cu)))]) K dX6_addPipe_54 (by decide) rfl ?_
            refine g_aload_n K 2 dX6_addPipe_56 rfl ?_
            refine g_iload K 1 dX6_addPipe_57 rfl ?_
            refine g_if_ne (tgt := 66) (a := 0) K dX6_addPipe_59 (by decide) (by omega) (fun h59_29 => absurd h59_29 (by omega)) (fun h59_29 => ?_)
            refine g_iconst K 1 dX6_addPipe_62 (by decide +kernel) ?_
            refine g_goto (tgt := 89) K dX6_addPipe_63 (by decide) ?_
            refine g_callVd (q := 22) (ci := 6) (As := [.int (nI (1))]) (rest := []) (C := RX6) (T := TX6) (N := 17) K (cX6_refused_k (g_z X) S 1 (by omega)) (cwV 1 K.1.2.2.2.2 gX6_addPipe_X6_refused rfl rfl rfl (by decide +kernel) ⟨Nat.le_trans (Nat.le_of_ble_eq_true rfl) hRf, Nat.le_trans (Nat.le_of_ble_eq_true rfl) hRl⟩) rfl rfl rfl rfl (Nat.le_of_ble_eq_true rfl) dX6_addPipe_89 ?_
            refine g_cast (S' := (va_up S 22 (va_up (S 22) 0 (1)))) rfl rfl rfl ?_
            refine g_if_eq (tgt := 97) (a := 1) K dX6_addPipe_92 (by decide) (by omega) (fun h92_30 => absurd h92_30 (by omega)) (fun h92_30 => ?_)
            exfalso; omega
    · refine g_iconst K 1 dX6_addPipe_16 (by decide +kernel) ?_
      refine g_goto (tgt := 21) K dX6_addPipe_17 (by decide) ?_
      refine g_istore (lo' := [(5, .int (nI (1))), (0, .ref (g_ad X 22)), (1, .int (nI (x))), (2, .int (nI (y))), (3, .int (nI (ln))), (4, .int (nI (cu)))]) K dX6_addPipe_21 (by decide) rfl ?_
      refine g_iload_n K 2 dX6_addPipe_23 rfl ?_
      refine g_iload_n K 3 dX6_addPipe_24 rfl ?_
      refine g_icmp_eq (tgt := 53) (a := x) (b := y) K dX6_addPipe_25 (by decide) (by omega) (by omega) (fun h25_31 => ?_) (fun h25_31 => ?_)
      · refine g_iconst K 0 dX6_addPipe_53 (by decide +kernel) ?_
        refine g_istore (lo' := [(6, .int (nI (0))), (5, .int (nI (1))), (0, .ref (g_ad X 22)), (1, .int (nI (x))), (2, .int (nI (y))), (3, .int (nI (ln))), (4, .int (nI (cu)))]) K dX6_addPipe_54 (by decide) rfl ?_
        refine g_aload_n K 2 dX6_addPipe_56 rfl ?_
        refine g_iload K 1 dX6_addPipe_57 rfl ?_
        refine g_if_ne (tgt := 66) (a := 1) K dX6_addPipe_59 (by decide) (by omega) (fun h59_32 => ?_) (fun h59_32 => absurd h59_32 (by omega))
        refine g_iload K 0 dX6_addPipe_66 rfl ?_
        refine g_if_ne (tgt := 75) (a := 0) K dX6_addPipe_68 (by decide) (by omega) (fun h68_33 => absurd h68_33 (by omega)) (fun h68_33 => ?_)
        refine g_iconst K 2 dX6_addPipe_71 (by decide +kernel) ?_
        refine g_goto (tgt := 89) K dX6_addPipe_72 (by decide) ?_
        refine g_callVd (q := 22) (ci := 6) (As := [.int (nI (2))]) (rest := []) (C := RX6) (T := TX6) (N := 17) K (cX6_refused_k (g_z X) S 2 (by omega)) (cwV 1 K.1.2.2.2.2 gX6_addPipe_X6_refused rfl rfl rfl (by decide +kernel) ⟨Nat.le_trans (Nat.le_of_ble_eq_true rfl) hRf, Nat.le_trans (Nat.le_of_ble_eq_true rfl) hRl⟩) rfl rfl rfl rfl (Nat.le_of_ble_eq_true rfl) dX6_addPipe_89 ?_
        refine g_cast (S' := (va_up S 22 (va_up (S 22) 0 (2)))) rfl rfl rfl ?_
        refine g_if_eq (tgt := 97) (a := 1) K dX6_addPipe_92 (by decide) (by omega) (fun h92_34 => absurd h92_34 (by omega)) (fun h92_34 => ?_)
        exfalso; omega
      · refine g_iload_n K 4 dX6_addPipe_28 rfl ?_
        refine g_iconst K 1 dX6_addPipe_29 (by decide +kernel) ?_
        refine g_bipush K 99 dX6_addPipe_30 (by decide +kernel) ?_
        refine g_callSd (As := [.int (nI (ln)), .int (nI (1)), .int (nI (99))]) (rest := []) K (cX6_in_k (g_z X) S ln 1 99 (by omega) (by omega) (by omega)) (va_cwS 3 K.1.2.2.2.2 gX6_addPipe_X6_in rfl rfl rfl (by decide +kernel) ⟨Nat.le_trans (Nat.le_of_ble_eq_true rfl) hRf, Nat.le_trans (Nat.le_of_ble_eq_true rfl) hRl⟩) rfl rfl (Nat.le_of_ble_eq_true rfl) dX6_addPipe_32 ?_
        have hf32_35 := inF_spec ln 1 99
        refine g_if_eq (tgt := 53) (a := inF ln 1 99) K dX6_addPipe_35 (by decide) (by omega) (fun h35_36 => ?_) (fun h35_36 => ?_)
        · refine g_iconst K 0 dX6_addPipe_53 (by decide +kernel) ?_
          refine g_istore (lo' := [(6, .int (nI (0))), (5, .int (nI (1))), (0, .ref (g_ad X 22)), (1, .int (nI (x))), (2, .int (nI (y))), (3, .int (nI (ln))), (4, .int (nI (cu)))]) K dX6_addPipe_54 (by decide) rfl ?_
          refine g_aload_n K 2 dX6_addPipe_56 rfl ?_
          refine g_iload K 1 dX6_addPipe_57 rfl ?_
          refine g_if_ne (tgt := 66) (a := 1) K dX6_addPipe_59 (by decide) (by omega) (fun h59_37 => ?_) (fun h59_37 => absurd h59_37 (by omega))
          refine g_iload K 0 dX6_addPipe_66 rfl ?_
          refine g_if_ne (tgt := 75) (a := 0) K dX6_addPipe_68 (by decide) (by omega) (fun h68_38 => absurd h68_38 (by omega)) (fun h68_38 => ?_)
          refine g_iconst K 2 dX6_addPipe_71 (by decide +kernel) ?_
          refine g_goto (tgt := 89) K dX6_addPipe_72 (by decide) ?_
          refine g_callVd (q := 22) (ci := 6) (As := [.int (nI (2))]) (rest := []) (C := RX6) (T := TX6) (N := 17) K (cX6_refused_k (g_z X) S 2 (by omega)) (cwV 1 K.1.2.2.2.2 gX6_addPipe_X6_refused rfl rfl rfl (by decide +kernel) ⟨Nat.le_trans (Nat.le_of_ble_eq_true rfl) hRf, Nat.le_trans (Nat.le_of_ble_eq_true rfl) hRl⟩) rfl rfl rfl rfl (Nat.le_of_ble_eq_true rfl) dX6_addPipe_89 ?_
          refine g_cast (S' := (va_up S 22 (va_up (S 22) 0 (2)))) rfl rfl rfl ?_
          refine g_if_eq (tgt := 97) (a := 1) K dX6_addPipe_92 (by decide) (by omega) (fun h92_39 => absurd h92_39 (by omega)) (fun h92_39 => ?_)
          exfalso; omega
        · refine g_iload K 5 dX6_addPipe_38 rfl ?_
          refine g_iconst K 0 dX6_addPipe_40 (by decide +kernel) ?_
          refine g_bipush K 99 dX6_addPipe_41 (by decide +kernel) ?_
          refine g_callSd (As := [.int (nI (cu)), .int (nI (0)), .int (nI (99))]) (rest := []) K (cX6_in_k (g_z X) S cu 0 99 (by omega) (by omega) (by omega)) (va_cwS 3 K.1.2.2.2.2 gX6_addPipe_X6_in rfl rfl rfl (by decide +kernel) ⟨Nat.le_trans (Nat.le_of_ble_eq_true rfl) hRf, Nat.le_trans (Nat.le_of_ble_eq_true rfl) hRl⟩) rfl rfl (Nat.le_of_ble_eq_true rfl) dX6_addPipe_43 ?_
          have hf43_40 := inF_spec cu 0 99
          refine g_if_eq (tgt := 53) (a := inF cu 0 99) K dX6_addPipe_46 (by decide) (by omega) (fun h46_41 => ?_) (fun h46_41 => ?_)
          · refine g_iconst K 0 dX6_addPipe_53 (by decide +kernel) ?_
            refine g_istore (lo' := [(6, .int (nI (0))), (5, .int (nI (1))), (0, .ref (g_ad X 22)), (1, .int (nI (x))), (2, .int (nI (y))), (3, .int (nI (ln))), (4, .int (nI (cu)))]) K dX6_addPipe_54 (by decide) rfl ?_
            refine g_aload_n K 2 dX6_addPipe_56 rfl ?_
            refine g_iload K 1 dX6_addPipe_57 rfl ?_
            refine g_if_ne (tgt := 66) (a := 1) K dX6_addPipe_59 (by decide) (by omega) (fun h59_42 => ?_) (fun h59_42 => absurd h59_42 (by omega))
            refine g_iload K 0 dX6_addPipe_66 rfl ?_
            refine g_if_ne (tgt := 75) (a := 0) K dX6_addPipe_68 (by decide) (by omega) (fun h68_43 => absurd h68_43 (by omega)) (fun h68_43 => ?_)
            refine g_iconst K 2 dX6_addPipe_71 (by decide +kernel) ?_
            refine g_goto (tgt := 89) K dX6_addPipe_72 (by decide) ?_
            refine g_callVd (q := 22) (ci := 6) (As := [.int (nI (2))]) (rest := []) (C := RX6) (T := TX6) (N := 17) K (cX6_refused_k (g_z X) S 2 (by omega)) (cwV 1 K.1.2.2.2.2 gX6_addPipe_X6_refused rfl rfl rfl (by decide +kernel) ⟨Nat.le_trans (Nat.le_of_ble_eq_true rfl) hRf, Nat.le_trans (Nat.le_of_ble_eq_true rfl) hRl⟩) rfl rfl rfl rfl (Nat.le_of_ble_eq_true rfl) dX6_addPipe_89 ?_
            refine g_cast (S' := (va_up S 22 (va_up (S 22) 0 (2)))) rfl rfl rfl ?_
            refine g_if_eq (tgt := 97) (a := 1) K dX6_addPipe_92 (by decide) (by omega) (fun h92_44 => absurd h92_44 (by omega)) (fun h92_44 => ?_)
            exfalso; omega
          · refine g_iconst K 1 dX6_addPipe_49 (by decide +kernel) ?_
            refine g_goto (tgt := 54) K dX6_addPipe_50 (by decide) ?_
            refine g_istore (lo' := [(6, .int (nI (1))), (5, .int (nI (1))), (0, .ref (g_ad X 22)), (1, .int (nI (x))), (2, .int (nI (y))), (3, .int (nI (ln))), (4, .int (nI (cu)))]) K dX6_addPipe_54 (by decide) rfl ?_
            refine g_aload_n K 2 dX6_addPipe_56 rfl ?_
            refine g_iload K 1 dX6_addPipe_57 rfl ?_
            refine g_if_ne (tgt := 66) (a := 1) K dX6_addPipe_59 (by decide) (by omega) (fun h59_45 => ?_) (fun h59_45 => absurd h59_45 (by omega))
            refine g_iload K 0 dX6_addPipe_66 rfl ?_
            refine g_if_ne (tgt := 75) (a := 1) K dX6_addPipe_68 (by decide) (by omega) (fun h68_46 => ?_) (fun h68_46 => absurd h68_46 (by omega))
            refine g_aload_n K 2 dX6_addPipe_75 rfl ?_
            refine g_getI (q := 22) (ci := 6) (k := 2) (N := 17) (C := RX6) (T := TX6) (ref := "ValveWalkModel") K rfl rfl rfl (by decide) hin6 (by decide +kernel) rfl dX6_addPipe_76 ?_
            refine g_bipush K 16 dX6_addPipe_79 (by decide +kernel) ?_
            refine g_icmp_ne (tgt := 88) (a := S 22 2) (b := 16) K dX6_addPipe_81 (by decide) (by omega) (by omega) (fun h81_47 => ?_) (fun h81_47 => ?_)
            · refine g_iconst K 0 dX6_addPipe_88 (by decide +kernel) ?_
              refine g_callVd (q := 22) (ci := 6) (As := [.int (nI (0))]) (rest := []) (C := RX6) (T := TX6) (N := 17) K (cX6_refused_k (g_z X) S 0 (by omega)) (cwV 1 K.1.2.2.2.2 gX6_addPipe_X6_refused rfl rfl rfl (by decide +kernel) ⟨Nat.le_trans (Nat.le_of_ble_eq_true rfl) hRf, Nat.le_trans (Nat.le_of_ble_eq_true rfl) hRl⟩) rfl rfl rfl rfl (Nat.le_of_ble_eq_true rfl) dX6_addPipe_89 ?_
              refine g_cast (S' := (va_up S 22 (va_up (S 22) 0 (0)))) rfl rfl rfl ?_
              refine g_if_eq (tgt := 97) (a := 0) K dX6_addPipe_92 (by decide) (by omega) (fun h92_48 => ?_) (fun h92_48 => absurd h92_48 (by omega))
              refine g_cast (S' := (va_up (va_up S 22 (va_up (S 22) 0 (0))) 23 (S 23))) rfl rfl (up_id1 _ 23).symm ?_
              refine g_cast (S' := (va_up (va_up (va_up S 22 (va_up (S 22) 0 (0))) 23 (S 23)) 24 (S 24))) rfl rfl (up_id1 _ 24).symm ?_
              refine g_cast (S' := (va_up (va_up (va_up (va_up S 22 (va_up (S 22) 0 (0))) 23 (S 23)) 24 (S 24)) 25 (S 25))) rfl rfl (up_id1 _ 25).symm ?_
              refine g_cast (S' := (va_up (va_up (va_up (va_up (va_up S 22 (va_up (S 22) 0 (0))) 23 (S 23)) 24 (S 24)) 25 (S 25)) 26 (S 26))) rfl rfl (up_id1 _ 26).symm ?_
              refine g_aload_n K 2 dX6_addPipe_97 rfl ?_
              refine g_getR (q' := 23) (q := 22) (ci := 6) (k := 5) (N := 17) (C := RX6) (T := TX6) (ref := "ValveWalkModel") K rfl rfl rfl (by decide) hin6 (by decide +kernel) rfl dX6_addPipe_98 ?_
              refine g_iconst K 2 dX6_addPipe_101 (by decide +kernel) ?_
              refine g_aload_n K 2 dX6_addPipe_102 rfl ?_
              refine g_getI (q := 22) (ci := 6) (k := 2) (N := 17) (C := RX6) (T := TX6) (ref := "ValveWalkModel") K rfl rfl rfl (by decide) hin6 (by decide +kernel) rfl dX6_addPipe_103 ?_
              refine g_topE (S 22 2) rfl ?_
              refine g_imul (a := 2) (b := S 22 2) K dX6_addPipe_106 ?_
              refine g_iload_n K 3 dX6_addPipe_107 rfl ?_
              refine g_ast (q := 23) (n := 32) (i := (2) * (S 22 2)) (a := x) K rfl (by decide) (by omega) dX6_addPipe_108 ?_
              refine g_cast (S' := (va_up (va_up (va_up (va_up (va_up S 22 (va_up (S 22) 0 (0))) 23 (va_up (S 23) ((2) * (S 22 2)) (x))) 24 (S 24)) 25 (S 25)) 26 (S 26))) rfl rfl (by rw [gup]; rw [up_comm _ (p := 26) (q := 23) (by decide), up_comm _ (p := 25) (q := 23) (by decide), up_comm _ (p := 24) (q := 23) (by decide), up_up]; rfl) ?_
              refine g_aload_n K 2 dX6_addPipe_109 rfl ?_
              refine g_getR (q' := 23) (q := 22) (ci := 6) (k := 5) (N := 17) (C := RX6) (T := TX6) (ref := "ValveWalkModel") K rfl rfl rfl (by decide) hin6 (by decide +kernel) rfl dX6_addPipe_110 ?_
              refine g_iconst K 2 dX6_addPipe_113 (by decide +kernel) ?_
              refine g_aload_n K 2 dX6_addPipe_114 rfl ?_
              refine g_getI (q := 22) (ci := 6) (k := 2) (N := 17) (C := RX6) (T := TX6) (ref := "ValveWalkModel") K rfl rfl rfl (by decide) hin6 (by decide +kernel) rfl dX6_addPipe_115 ?_
              refine g_topE (S 22 2) rfl ?_
              refine g_imul (a := 2) (b := S 22 2) K dX6_addPipe_118 ?_
              refine g_iconst K 1 dX6_addPipe_119 (by decide +kernel) ?_
              refine g_iadd (a := (2) * (S 22 2)) (b := 1) K dX6_addPipe_120 ?_
              refine g_iload_n K 4 dX6_addPipe_121 rfl ?_
              refine g_ast (q := 23) (n := 32) (i := ((2) * (S 22 2)) + (1)) (a := y) K rfl (by decide) (by omega) dX6_addPipe_122 ?_
              refine g_cast (S' := (va_up (va_up (va_up (va_up (va_up S 22 (va_up (S 22) 0 (0))) 23 (va_up (va_up (S 23) ((2) * (S 22 2)) (x)) (((2) * (S 22 2)) + (1)) (y))) 24 (S 24)) 25 (S 25)) 26 (S 26))) rfl rfl (by rw [gup]; rw [up_comm _ (p := 26) (q := 23) (by decide), up_comm _ (p := 25) (q := 23) (by decide), up_comm _ (p := 24) (q := 23) (by decide), up_up]; rfl) ?_
              refine g_aload_n K 2 dX6_addPipe_123 rfl ?_
              refine g_getR (q' := 24) (q := 22) (ci := 6) (k := 6) (N := 17) (C := RX6) (T := TX6) (ref := "ValveWalkModel") K rfl rfl rfl (by decide) hin6 (by decide +kernel) rfl dX6_addPipe_124 ?_
              refine g_iconst K 2 dX6_addPipe_127 (by decide +kernel) ?_
              refine g_aload_n K 2 dX6_addPipe_128 rfl ?_
              refine g_getI (q := 22) (ci := 6) (k := 2) (N := 17) (C := RX6) (T := TX6) (ref := "ValveWalkModel") K rfl rfl rfl (by decide) hin6 (by decide +kernel) rfl dX6_addPipe_129 ?_
              refine g_topE (S 22 2) rfl ?_
              refine g_imul (a := 2) (b := S 22 2) K dX6_addPipe_132 ?_
              refine g_iconst K 4294967295 dX6_addPipe_133 (by decide +kernel) ?_
              refine g_ast (q := 24) (n := 32) (i := (2) * (S 22 2)) (a := 4294967295) K rfl (by decide) (by omega) dX6_addPipe_134 ?_
              refine g_cast (S' := (va_up (va_up (va_up (va_up (va_up S 22 (va_up (S 22) 0 (0))) 23 (va_up (va_up (S 23) ((2) * (S 22 2)) (x)) (((2) * (S 22 2)) + (1)) (y))) 24 (va_up (S 24) ((2) * (S 22 2)) (4294967295))) 25 (S 25)) 26 (S 26))) rfl rfl (by rw [gup]; rw [up_comm _ (p := 26) (q := 24) (by decide), up_comm _ (p := 25) (q := 24) (by decide), up_up]; rfl) ?_
              refine g_aload_n K 2 dX6_addPipe_135 rfl ?_
              refine g_getR (q' := 24) (q := 22) (ci := 6) (k := 6) (N := 17) (C := RX6) (T := TX6) (ref := "ValveWalkModel") K rfl rfl rfl (by decide) hin6 (by decide +kernel) rfl dX6_addPipe_136 ?_
              refine g_iconst K 2 dX6_addPipe_139 (by decide +kernel) ?_
              refine g_aload_n K 2 dX6_addPipe_140 rfl ?_
              refine g_getI (q := 22) (ci := 6) (k := 2) (N := 17) (C := RX6) (T := TX6) (ref := "ValveWalkModel") K rfl rfl rfl (by decide) hin6 (by decide +kernel) rfl dX6_addPipe_141 ?_
              refine g_topE (S 22 2) rfl ?_
              refine g_imul (a := 2) (b := S 22 2) K dX6_addPipe_144 ?_
              refine g_iconst K 1 dX6_addPipe_145 (by decide +kernel) ?_
              refine g_iadd (a := (2) * (S 22 2)) (b := 1) K dX6_addPipe_146 ?_
              refine g_iconst K 4294967295 dX6_addPipe_147 (by decide +kernel) ?_
              refine g_ast (q := 24) (n := 32) (i := ((2) * (S 22 2)) + (1)) (a := 4294967295) K rfl (by decide) (by omega) dX6_addPipe_148 ?_
              refine g_cast (S' := (va_up (va_up (va_up (va_up (va_up S 22 (va_up (S 22) 0 (0))) 23 (va_up (va_up (S 23) ((2) * (S 22 2)) (x)) (((2) * (S 22 2)) + (1)) (y))) 24 (va_up (va_up (S 24) ((2) * (S 22 2)) (4294967295)) (((2) * (S 22 2)) + (1)) (4294967295))) 25 (S 25)) 26 (S 26))) rfl rfl (by rw [gup]; rw [up_comm _ (p := 26) (q := 24) (by decide), up_comm _ (p := 25) (q := 24) (by decide), up_up]; rfl) ?_
              refine g_aload_n K 2 dX6_addPipe_149 rfl ?_
              refine g_getR (q' := 25) (q := 22) (ci := 6) (k := 7) (N := 17) (C := RX6) (T := TX6) (ref := "ValveWalkModel") K rfl rfl rfl (by decide) hin6 (by decide +kernel) rfl dX6_addPipe_150 ?_
              refine g_aload_n K 2 dX6_addPipe_153 rfl ?_
              refine g_getI (q := 22) (ci := 6) (k := 2) (N := 17) (C := RX6) (T := TX6) (ref := "ValveWalkModel") K rfl rfl rfl (by decide) hin6 (by decide +kernel) rfl dX6_addPipe_154 ?_
              refine g_topE (S 22 2) rfl ?_
              refine g_iload_n K 5 dX6_addPipe_157 rfl ?_
              refine g_ast (q := 25) (n := 16) (i := S 22 2) (a := ln) K rfl (by decide) (by omega) dX6_addPipe_158 ?_
              refine g_cast (S' := (va_up (va_up (va_up (va_up (va_up S 22 (va_up (S 22) 0 (0))) 23 (va_up (va_up (S 23) ((2) * (S 22 2)) (x)) (((2) * (S 22 2)) + (1)) (y))) 24 (va_up (va_up (S 24) ((2) * (S 22 2)) (4294967295)) (((2) * (S 22 2)) + (1)) (4294967295))) 25 (va_up (S 25) (S 22 2) (ln))) 26 (S 26))) rfl rfl (by rw [gup]; rw [up_comm _ (p := 26) (q := 25) (by decide), up_up]; rfl) ?_
              refine g_aload_n K 2 dX6_addPipe_159 rfl ?_
              refine g_getR (q' := 26) (q := 22) (ci := 6) (k := 8) (N := 17) (C := RX6) (T := TX6) (ref := "ValveWalkModel") K rfl rfl rfl (by decide) hin6 (by decide +kernel) rfl dX6_addPipe_160 ?_
              refine g_aload_n K 2 dX6_addPipe_163 rfl ?_
              refine g_getI (q := 22) (ci := 6) (k := 2) (N := 17) (C := RX6) (T := TX6) (ref := "ValveWalkModel") K rfl rfl rfl (by decide) hin6 (by decide +kernel) rfl dX6_addPipe_164 ?_
              refine g_topE (S 22 2) rfl ?_
              refine g_iload K 6 dX6_addPipe_167 rfl ?_
              refine g_ast (q := 26) (n := 16) (i := S 22 2) (a := cu) K rfl (by decide) (by omega) dX6_addPipe_169 ?_
              refine g_cast (S' := (va_up (va_up (va_up (va_up (va_up S 22 (va_up (S 22) 0 (0))) 23 (va_up (va_up (S 23) ((2) * (S 22 2)) (x)) (((2) * (S 22 2)) + (1)) (y))) 24 (va_up (va_up (S 24) ((2) * (S 22 2)) (4294967295)) (((2) * (S 22 2)) + (1)) (4294967295))) 25 (va_up (S 25) (S 22 2) (ln))) 26 (va_up (S 26) (S 22 2) (cu)))) rfl rfl (by rw [gup]; rw [up_up]; rfl) ?_
              refine g_aload_n K 2 dX6_addPipe_170 rfl ?_
              refine g_dup K dX6_addPipe_171 rfl ?_
              refine g_getI (q := 22) (ci := 6) (k := 2) (N := 17) (C := RX6) (T := TX6) (ref := "ValveWalkModel") K rfl rfl rfl (by decide) hin6 (by decide +kernel) rfl dX6_addPipe_172 ?_
              refine g_topE (S 22 2) rfl ?_
              refine g_iconst K 1 dX6_addPipe_175 (by decide +kernel) ?_
              refine g_iadd (a := S 22 2) (b := 1) K dX6_addPipe_176 ?_
              refine g_putI (q := 22) (ci := 6) (k := 2) (N := 17) (C := RX6) (T := TX6) (ref := "ValveWalkModel") (a := (S 22 2) + (1)) K rfl rfl rfl (by decide) hin6 tyX6_ok nmX6 (by decide +kernel) rfl rfl (by decide +kernel) dX6_addPipe_177 ?_
              refine g_cast (S' := (va_up (va_up (va_up (va_up (va_up S 22 (va_up (va_up (S 22) 0 (0)) 2 ((S 22 2) + (1)))) 23 (va_up (va_up (S 23) ((2) * (S 22 2)) (x)) (((2) * (S 22 2)) + (1)) (y))) 24 (va_up (va_up (S 24) ((2) * (S 22 2)) (4294967295)) (((2) * (S 22 2)) + (1)) (4294967295))) 25 (va_up (S 25) (S 22 2) (ln))) 26 (va_up (S 26) (S 22 2) (cu)))) rfl rfl (by rw [gup]; rw [up_comm _ (p := 26) (q := 22) (by decide), up_comm _ (p := 25) (q := 22) (by decide), up_comm _ (p := 24) (q := 22) (by decide), up_comm _ (p := 23) (q := 22) (by decide), up_up]; rfl) ?_
              refine g_aload_n K 2 dX6_addPipe_180 rfl ?_
              refine g_getI (q := 22) (ci := 6) (k := 2) (N := 17) (C := RX6) (T := TX6) (ref := "ValveWalkModel") K rfl rfl rfl (by decide) hin6 (by decide +kernel) rfl dX6_addPipe_181 ?_
              refine g_topE ((S 22 2) + (1)) rfl ?_
              refine g_iconst K 1 dX6_addPipe_184 (by decide +kernel) ?_
              refine g_isub (a := (S 22 2) + (1)) (b := 1) K (by omega) dX6_addPipe_185 ?_
              exact g_retd hret dX6_addPipe_186 (by omega) rfl
            · refine g_iconst K 3 dX6_addPipe_84 (by decide +kernel) ?_
              refine g_goto (tgt := 89) K dX6_addPipe_85 (by decide) ?_
              refine g_callVd (q := 22) (ci := 6) (As := [.int (nI (3))]) (rest := []) (C := RX6) (T := TX6) (N := 17) K (cX6_refused_k (g_z X) S 3 (by omega)) (cwV 1 K.1.2.2.2.2 gX6_addPipe_X6_refused rfl rfl rfl (by decide +kernel) ⟨Nat.le_trans (Nat.le_of_ble_eq_true rfl) hRf, Nat.le_trans (Nat.le_of_ble_eq_true rfl) hRl⟩) rfl rfl rfl rfl (Nat.le_of_ble_eq_true rfl) dX6_addPipe_89 ?_
              refine g_cast (S' := (va_up S 22 (va_up (S 22) 0 (3)))) rfl rfl rfl ?_
              refine g_if_eq (tgt := 97) (a := 1) K dX6_addPipe_92 (by decide) (by omega) (fun h92_49 => absurd h92_49 (by omega)) (fun h92_49 => ?_)
              exfalso; omega

set_option maxHeartbeats 4000000 in
set_option maxRecDepth 100000 in
theorem cX6_addPipe_r1 (Z : gZ) (S : Nat → Nat → Nat) (x y ln cu : Nat) (hm : wfM S) (hux : x < 4294967296) (huy : y < 4294967296) (huln : ln < 4294967296) (hucu : cu < 4294967296) (hx : S 22 1 ≤ x ∨ S 22 1 ≤ y) : gMd Z yX6_addPipe wsX6_addPipe { frames := 2, cells := 0, slots := 0, locals := 43 } [.ref (gz_ad Z 22), .int (nI (x)), .int (nI (y)), .int (nI (ln)), .int (nI (cu))] S (0) (va_up S 22 (va_up (S 22) 0 (1))) := by
  refine gMd_of (cc := cX6_addPipe) (maxL := 7) (ret := (some .int)) (by decide +kernel) rfl (Nat.le_of_ble_eq_true rfl) (Or.inl rfl) (fun X hZ hR K hret => ?_)
  subst hZ
  have K : gOk X cX6_addPipe 7 wsX6_addPipe RX6 := K
  have hRf : 2 ≤ (g_R X).frames := gR_f hR rfl
  have hRl : 43 ≤ (g_R X).locals := gR_l hR rfl
  have hin6 : ∀ w ∈ u_ws RX6 TX6 17, w ∈ wsX6_addPipe := by decide +kernel
  obtain ⟨m1, m2, m3, m4, msh, mst, b23, b24, b25, b26, b27⟩ := id hm
  show gG X 0 [(0, .ref (g_ad X 22)), (1, .int (nI (x))), (2, .int (nI (y))), (3, .int (nI (ln))), (4, .int (nI (cu)))] [] S
  refine g_aload_n K 0 dX6_addPipe_0 rfl ?_
  refine g_iload_n K 1 dX6_addPipe_1 rfl ?_
  refine g_callVd (q := 22) (ci := 6) (As := [.int (nI (x))]) (rest := []) (C := RX6) (T := TX6) (N := 17) K (cX6_isNode_k (g_z X) S x (hm) (by omega)) (cwV 1 K.1.2.2.2.2 gX6_addPipe_X6_isNode rfl rfl rfl (by decide +kernel) ⟨Nat.le_trans (Nat.le_of_ble_eq_true rfl) hRf, Nat.le_trans (Nat.le_of_ble_eq_true rfl) hRl⟩) rfl rfl rfl rfl (Nat.le_of_ble_eq_true rfl) dX6_addPipe_2 ?_
  have hf2_1 := isN_spec (S 22 1) x
  refine g_if_eq (tgt := 20) (a := isN (S 22 1) x) K dX6_addPipe_5 (by decide) (by omega) (fun h5_2 => ?_) (fun h5_2 => ?_)
  · refine g_iconst K 0 dX6_addPipe_20 (by decide +kernel) ?_
    refine g_istore (lo' := [(5, .int (nI (0))), (0, .ref (g_ad X 22)), (1, .int (nI (x))), (2, .int (nI (y))), (3, .int (nI (ln))), (4, .int (nI (cu)))]) K dX6_addPipe_21 (by decide) rfl ?_
    refine g_iload_n K 2 dX6_addPipe_23 rfl ?_
    refine g_iload_n K 3 dX6_addPipe_24 rfl ?_
    refine g_icmp_eq (tgt := 53) (a := x) (b := y) K dX6_addPipe_25 (by decide) (by omega) (by omega) (fun h25_3 => ?_) (fun h25_3 => ?_)
    · refine g_iconst K 0 dX6_addPipe_53 (by decide +kernel) ?_
      refine g_istore (lo' := [(6, .int (nI (0))), (5, .int (nI (0))), (0, .ref (g_ad X 22)), (1, .int (nI (x))), (2, .int (nI (y))), (3, .int (nI (ln))), (4, .int (nI (cu)))]) K dX6_addPipe_54 (by decide) rfl ?_
      refine g_aload_n K 2 dX6_addPipe_56 rfl ?_
      refine g_iload K 1 dX6_addPipe_57 rfl ?_
      refine g_if_ne (tgt := 66) (a := 0) K dX6_addPipe_59 (by decide) (by omega) (fun h59_4 => absurd h59_4 (by omega)) (fun h59_4 => ?_)
      refine g_iconst K 1 dX6_addPipe_62 (by decide +kernel) ?_
      refine g_goto (tgt := 89) K dX6_addPipe_63 (by decide) ?_
      refine g_callVd (q := 22) (ci := 6) (As := [.int (nI (1))]) (rest := []) (C := RX6) (T := TX6) (N := 17) K (cX6_refused_k (g_z X) S 1 (by omega)) (cwV 1 K.1.2.2.2.2 gX6_addPipe_X6_refused rfl rfl rfl (by decide +kernel) ⟨Nat.le_trans (Nat.le_of_ble_eq_true rfl) hRf, Nat.le_trans (Nat.le_of_ble_eq_true rfl) hRl⟩) rfl rfl rfl rfl (Nat.le_of_ble_eq_true rfl) dX6_addPipe_89 ?_
      refine g_cast (S' := (va_up S 22 (va_up (S 22) 0 (1)))) rfl rfl rfl ?_
      refine g_if_eq (tgt := 97) (a := 1) K dX6_addPipe_92 (by decide) (by omega) (fun h92_5 => absurd h92_5 (by omega)) (fun h92_5 => ?_)
      refine g_iconst K 0 dX6_addPipe_95 (by decide +kernel) ?_
      exact g_retd hret dX6_addPipe_96 rfl rfl
    · refine g_iload_n K 4 dX6_addPipe_28 rfl ?_
      refine g_iconst K 1 dX6_addPipe_29 (by decide +kernel) ?_
      refine g_bipush K 99 dX6_addPipe_30 (by decide +kernel) ?_
      refine g_callSd (As := [.int (nI (ln)), .int (nI (1)), .int (nI (99))]) (rest := []) K (cX6_in_k (g_z X) S ln 1 99 (by omega) (by omega) (by omega)) (va_cwS 3 K.1.2.2.2.2 gX6_addPipe_X6_in rfl rfl rfl (by decide +kernel) ⟨Nat.le_trans (Nat.le_of_ble_eq_true rfl) hRf, Nat.le_trans (Nat.le_of_ble_eq_true rfl) hRl⟩) rfl rfl (Nat.le_of_ble_eq_true rfl) dX6_addPipe_32 ?_
      have hf32_6 := inF_spec ln 1 99
      refine g_if_eq (tgt := 53) (a := inF ln 1 99) K dX6_addPipe_35 (by decide) (by omega) (fun h35_7 => ?_) (fun h35_7 => ?_)
      · refine g_iconst K 0 dX6_addPipe_53 (by decide +kernel) ?_
        refine g_istore (lo' := [(6, .int (nI (0))), (5, .int (nI (0))), (0, .ref (g_ad X 22)), (1, .int (nI (x))), (2, .int (nI (y))), (3, .int (nI (ln))), (4, .int (nI (cu)))]) K dX6_addPipe_54 (by decide) rfl ?_
        refine g_aload_n K 2 dX6_addPipe_56 rfl ?_
        refine g_iload K 1 dX6_addPipe_57 rfl ?_
        refine g_if_ne (tgt := 66) (a := 0) K dX6_addPipe_59 (by decide) (by omega) (fun h59_8 => absurd h59_8 (by omega)) (fun h59_8 => ?_)
        refine g_iconst K 1 dX6_addPipe_62 (by decide +kernel) ?_
        refine g_goto (tgt := 89) K dX6_addPipe_63 (by decide) ?_
        refine g_callVd (q := 22) (ci := 6) (As := [.int (nI (1))]) (rest := []) (C := RX6) (T := TX6) (N := 17) K (cX6_refused_k (g_z X) S 1 (by omega)) (cwV 1 K.1.2.2.2.2 gX6_addPipe_X6_refused rfl rfl rfl (by decide +kernel) ⟨Nat.le_trans (Nat.le_of_ble_eq_true rfl) hRf, Nat.le_trans (Nat.le_of_ble_eq_true rfl) hRl⟩) rfl rfl rfl rfl (Nat.le_of_ble_eq_true rfl) dX6_addPipe_89 ?_
        refine g_cast (S' := (va_up S 22 (va_up (S 22) 0 (1)))) rfl rfl rfl ?_
        refine g_if_eq (tgt := 97) (a := 1) K dX6_addPipe_92 (by decide) (by omega) (fun h92_9 => absurd h92_9 (by omega)) (fun h92_9 => ?_)
        refine g_iconst K 0 dX6_addPipe_95 (by decide +kernel) ?_
        exact g_retd hret dX6_addPipe_96 rfl rfl
      · refine g_iload K 5 dX6_addPipe_38 rfl ?_
        refine g_iconst K 0 dX6_addPipe_40 (by decide +kernel) ?_
        refine g_bipush K 99 dX6_addPipe_41 (by decide +kernel) ?_
        refine g_callSd (As := [.int (nI (cu)), .int (nI (0)), .int (nI (99))]) (rest := []) K (cX6_in_k (g_z X) S cu 0 99 (by omega) (by omega) (by omega)) (va_cwS 3 K.1.2.2.2.2 gX6_addPipe_X6_in rfl rfl rfl (by decide +kernel) ⟨Nat.le_trans (Nat.le_of_ble_eq_true rfl) hRf, Nat.le_trans (Nat.le_of_ble_eq_true rfl) hRl⟩) rfl rfl (Nat.le_of_ble_eq_true rfl) dX6_addPipe_43 ?_
        have hf43_10 := inF_spec cu 0 99
        refine g_if_eq (tgt := 53) (a := inF cu 0 99) K dX6_addPipe_46 (by decide) (by omega) (fun h46_11 => ?_) (fun h46_11 => ?_)
        · refine g_iconst K 0 dX6_addPipe_53 (by decide +kernel) ?_
          refine g_istore (lo' := [(6, .int (nI (0))), (5, .int (nI (0))), (0, .ref (g_ad X 22)), (1, .int (nI (x))), (2, .int (nI (y))), (3, .int (nI (ln))), (4, .int (nI (cu)))]) K dX6_addPipe_54 (by decide) rfl ?_
          refine g_aload_n K 2 dX6_addPipe_56 rfl ?_
          refine g_iload K 1 dX6_addPipe_57 rfl ?_
          refine g_if_ne (tgt := 66) (a := 0) K dX6_addPipe_59 (by decide) (by omega) (fun h59_12 => absurd h59_12 (by omega)) (fun h59_12 => ?_)
          refine g_iconst K 1 dX6_addPipe_62 (by decide +kernel) ?_
          refine g_goto (tgt := 89) K dX6_addPipe_63 (by decide) ?_
          refine g_callVd (q := 22) (ci := 6) (As := [.int (nI (1))]) (rest := []) (C := RX6) (T := TX6) (N := 17) K (cX6_refused_k (g_z X) S 1 (by omega)) (cwV 1 K.1.2.2.2.2 gX6_addPipe_X6_refused rfl rfl rfl (by decide +kernel) ⟨Nat.le_trans (Nat.le_of_ble_eq_true rfl) hRf, Nat.le_trans (Nat.le_of_ble_eq_true rfl) hRl⟩) rfl rfl rfl rfl (Nat.le_of_ble_eq_true rfl) dX6_addPipe_89 ?_
          refine g_cast (S' := (va_up S 22 (va_up (S 22) 0 (1)))) rfl rfl rfl ?_
          refine g_if_eq (tgt := 97) (a := 1) K dX6_addPipe_92 (by decide) (by omega) (fun h92_13 => absurd h92_13 (by omega)) (fun h92_13 => ?_)
          refine g_iconst K 0 dX6_addPipe_95 (by decide +kernel) ?_
          exact g_retd hret dX6_addPipe_96 rfl rfl
        · refine g_iconst K 1 dX6_addPipe_49 (by decide +kernel) ?_
          refine g_goto (tgt := 54) K dX6_addPipe_50 (by decide) ?_
          refine g_istore (lo' := [(6, .int (nI (1))), (5, .int (nI (0))), (0, .ref (g_ad X 22)), (1, .int (nI (x))), (2, .int (nI (y))), (3, .int (nI (ln))), (4, .int (nI (cu)))]) K dX6_addPipe_54 (by decide) rfl ?_
          refine g_aload_n K 2 dX6_addPipe_56 rfl ?_
          refine g_iload K 1 dX6_addPipe_57 rfl ?_
          refine g_if_ne (tgt := 66) (a := 0) K dX6_addPipe_59 (by decide) (by omega) (fun h59_14 => absurd h59_14 (by omega)) (fun h59_14 => ?_)
          refine g_iconst K 1 dX6_addPipe_62 (by decide +kernel) ?_
          refine g_goto (tgt := 89) K dX6_addPipe_63 (by decide) ?_
          refine g_callVd (q := 22) (ci := 6) (As := [.int (nI (1))]) (rest := []) (C := RX6) (T := TX6) (N := 17) K (cX6_refused_k (g_z X) S 1 (by omega)) (cwV 1 K.1.2.2.2.2 gX6_addPipe_X6_refused rfl rfl rfl (by decide +kernel) ⟨Nat.le_trans (Nat.le_of_ble_eq_true rfl) hRf, Nat.le_trans (Nat.le_of_ble_eq_true rfl) hRl⟩) rfl rfl rfl rfl (Nat.le_of_ble_eq_true rfl) dX6_addPipe_89 ?_
          refine g_cast (S' := (va_up S 22 (va_up (S 22) 0 (1)))) rfl rfl rfl ?_
          refine g_if_eq (tgt := 97) (a := 1) K dX6_addPipe_92 (by decide) (by omega) (fun h92_15 => absurd h92_15 (by omega)) (fun h92_15 => ?_)
          refine g_iconst K 0 dX6_addPipe_95 (by decide +kernel) ?_
          exact g_retd hret dX6_addPipe_96 rfl rfl
  · refine g_aload_n K 0 dX6_addPipe_8 rfl ?_
    refine g_iload_n K 2 dX6_addPipe_9 rfl ?_
    refine g_callVd (q := 22) (ci := 6) (As := [.int (nI (y))]) (rest := []) (C := RX6) (T := TX6) (N := 17) K (cX6_isNode_k (g_z X) S y (hm) (by omega)) (cwV 1 K.1.2.2.2.2 gX6_addPipe_X6_isNode rfl rfl rfl (by decide +kernel) ⟨Nat.le_trans (Nat.le_of_ble_eq_true rfl) hRf, Nat.le_trans (Nat.le_of_ble_eq_true rfl) hRl⟩) rfl rfl rfl rfl (Nat.le_of_ble_eq_true rfl) dX6_addPipe_10 ?_
    have hf10_16 := isN_spec (S 22 1) y
    refine g_if_eq (tgt := 20) (a := isN (S 22 1) y) K dX6_addPipe_13 (by decide) (by omega) (fun h13_17 => ?_) (fun h13_17 => ?_)
    · refine g_iconst K 0 dX6_addPipe_20 (by decide +kernel) ?_
      refine g_istore (lo' := [(5, .int (nI (0))), (0, .ref (g_ad X 22)), (1, .int (nI (x))), (2, .int (nI (y))), (3, .int (nI (ln))), (4, .int (nI (cu)))]) K dX6_addPipe_21 (by decide) rfl ?_
      refine g_iload_n K 2 dX6_addPipe_23 rfl ?_
      refine g_iload_n K 3 dX6_addPipe_24 rfl ?_
      refine g_icmp_eq (tgt := 53) (a := x) (b := y) K dX6_addPipe_25 (by decide) (by omega) (by omega) (fun h25_18 => ?_) (fun h25_18 => ?_)
      · refine g_iconst K 0 dX6_addPipe_53 (by decide +kernel) ?_
        refine g_istore (lo' := [(6, .int (nI (0))), (5, .int (nI (0))), (0, .ref (g_ad X 22)), (1, .int (nI (x))), (2, .int (nI (y))), (3, .int (nI (ln))), (4, .int (nI (cu)))]) K dX6_addPipe_54 (by decide) rfl ?_
        refine g_aload_n K 2 dX6_addPipe_56 rfl ?_
        refine g_iload K 1 dX6_addPipe_57 rfl ?_
        refine g_if_ne (tgt := 66) (a := 0) K dX6_addPipe_59 (by decide) (by omega) (fun h59_19 => absurd h59_19 (by omega)) (fun h59_19 => ?_)
        refine g_iconst K 1 dX6_addPipe_62 (by decide +kernel) ?_
        refine g_goto (tgt := 89) K dX6_addPipe_63 (by decide) ?_
        refine g_callVd (q := 22) (ci := 6) (As := [.int (nI (1))]) (rest := []) (C := RX6) (T := TX6) (N := 17) K (cX6_refused_k (g_z X) S 1 (by omega)) (cwV 1 K.1.2.2.2.2 gX6_addPipe_X6_refused rfl rfl rfl (by decide +kernel) ⟨Nat.le_trans (Nat.le_of_ble_eq_true rfl) hRf, Nat.le_trans (Nat.le_of_ble_eq_true rfl) hRl⟩) rfl rfl rfl rfl (Nat.le_of_ble_eq_true rfl) dX6_addPipe_89 ?_
        refine g_cast (S' := (va_up S 22 (va_up (S 22) 0 (1)))) rfl rfl rfl ?_
        refine g_if_eq (tgt := 97) (a := 1) K dX6_addPipe_92 (by decide) (by omega) (fun h92_20 => absurd h92_20 (by omega)) (fun h92_20 => ?_)
        refine g_iconst K 0 dX6_addPipe_95 (by decide +kernel) ?_
        exact g_retd hret dX6_addPipe_96 rfl rfl
      · refine g_iload_n K 4 dX6_addPipe_28 rfl ?_
        refine g_iconst K 1 dX6_addPipe_29 (by decide +kernel) ?_
        refine g_bipush K 99 dX6_addPipe_30 (by decide +kernel) ?_
        refine g_callSd (As := [.int (nI (ln)), .int (nI (1)), .int (nI (99))]) (rest := []) K (cX6_in_k (g_z X) S ln 1 99 (by omega) (by omega) (by omega)) (va_cwS 3 K.1.2.2.2.2 gX6_addPipe_X6_in rfl rfl rfl (by decide +kernel) ⟨Nat.le_trans (Nat.le_of_ble_eq_true rfl) hRf, Nat.le_trans (Nat.le_of_ble_eq_true rfl) hRl⟩) rfl rfl (Nat.le_of_ble_eq_true rfl) dX6_addPipe_32 ?_
        have hf32_21 := inF_spec ln 1 99
        refine g_if_eq (tgt := 53) (a := inF ln 1 99) K dX6_addPipe_35 (by decide) (by omega) (fun h35_22 => ?_) (fun h35_22 => ?_)
        · refine g_iconst K 0 dX6_addPipe_53 (by decide +kernel) ?_
          refine g_istore (lo' := [(6, .int (nI (0))), (5, .int (nI (0))), (0, .ref (g_ad X 22)), (1, .int (nI (x))), (2, .int (nI (y))), (3, .int (nI (ln))), (4, .int (nI (cu)))]) K dX6_addPipe_54 (by decide) rfl ?_
          refine g_aload_n K 2 dX6_addPipe_56 rfl ?_
          refine g_iload K 1 dX6_addPipe_57 rfl ?_
          refine g_if_ne (tgt := 66) (a := 0) K dX6_addPipe_59 (by decide) (by omega) (fun h59_23 => absurd h59_23 (by omega)) (fun h59_23 => ?_)
          refine g_iconst K 1 dX6_addPipe_62 (by decide +kernel) ?_
          refine g_goto (tgt := 89) K dX6_addPipe_63 (by decide) ?_
          refine g_callVd (q := 22) (ci := 6) (As := [.int (nI (1))]) (rest := []) (C := RX6) (T := TX6) (N := 17) K (cX6_refused_k (g_z X) S 1 (by omega)) (cwV 1 K.1.2.2.2.2 gX6_addPipe_X6_refused rfl rfl rfl (by decide +kernel) ⟨Nat.le_trans (Nat.le_of_ble_eq_true rfl) hRf, Nat.le_trans (Nat.le_of_ble_eq_true rfl) hRl⟩) rfl rfl rfl rfl (Nat.le_of_ble_eq_true rfl) dX6_addPipe_89 ?_
          refine g_cast (S' := (va_up S 22 (va_up (S 22) 0 (1)))) rfl rfl rfl ?_
          refine g_if_eq (tgt := 97) (a := 1) K dX6_addPipe_92 (by decide) (by omega) (fun h92_24 => absurd h92_24 (by omega)) (fun h92_24 => ?_)
          refine g_iconst K 0 dX6_addPipe_95 (by decide +kernel) ?_
          exact g_retd hret dX6_addPipe_96 rfl rfl
        · refine g_iload K 5 dX6_addPipe_38 rfl ?_
          refine g_iconst K 0 dX6_addPipe_40 (by decide +kernel) ?_
          refine g_bipush K 99 dX6_addPipe_41 (by decide +kernel) ?_
          refine g_callSd (As := [.int (nI (cu)), .int (nI (0)), .int (nI (99))]) (rest := []) K (cX6_in_k (g_z X) S cu 0 99 (by omega) (by omega) (by omega)) (va_cwS 3 K.1.2.2.2.2 gX6_addPipe_X6_in rfl rfl rfl (by decide +kernel) ⟨Nat.le_trans (Nat.le_of_ble_eq_true rfl) hRf, Nat.le_trans (Nat.le_of_ble_eq_true rfl) hRl⟩) rfl rfl (Nat.le_of_ble_eq_true rfl) dX6_addPipe_43 ?_
          have hf43_25 := inF_spec cu 0 99
          refine g_if_eq (tgt := 53) (a := inF cu 0 99) K dX6_addPipe_46 (by decide) (by omega) (fun h46_26 => ?_) (fun h46_26 => ?_)
          · refine g_iconst K 0 dX6_addPipe_53 (by decide +kernel) ?_
            refine g_istore (lo' := [(6, .int (nI (0))), (5, .int (nI (0))), (0, .ref (g_ad X 22)), (1, .int (nI (x))), (2, .int (nI (y))), (3, .int (nI (ln))), (4, .int (nI (cu)))]) K dX6_addPipe_54 (by decide) rfl ?_
            refine g_aload_n K 2 dX6_addPipe_56 rfl ?_
            refine g_iload K 1 dX6_addPipe_57 rfl ?_
            refine g_if_ne (tgt := 66) (a := 0) K dX6_addPipe_59 (by decide) (by omega) (fun h59_27 => absurd h59_27 (by omega)) (fun h59_27 => ?_)
            refine g_iconst K 1 dX6_addPipe_62 (by decide +kernel) ?_
            refine g_goto (tgt := 89) K dX6_addPipe_63 (by decide) ?_
            refine g_callVd (q := 22) (ci := 6) (As := [.int (nI (1))]) (rest := []) (C := RX6) (T := TX6) (N := 17) K (cX6_refused_k (g_z X) S 1 (by omega)) (cwV 1 K.1.2.2.2.2 gX6_addPipe_X6_refused rfl rfl rfl (by decide +kernel) ⟨Nat.le_trans (Nat.le_of_ble_eq_true rfl) hRf, Nat.le_trans (Nat.le_of_ble_eq_true rfl) hRl⟩) rfl rfl rfl rfl (Nat.le_of_ble_eq_true rfl) dX6_addPipe_89 ?_
            refine g_cast (S' := (va_up S 22 (va_up (S 22) 0 (1)))) rfl rfl rfl ?_
            refine g_if_eq (tgt := 97) (a := 1) K dX6_addPipe_92 (by decide) (by omega) (fun h92_28 => absurd h92_28 (by omega)) (fun h92_28 => ?_)
            refine g_iconst K 0 dX6_addPipe_95 (by decide +kernel) ?_
            exact g_retd hret dX6_addPipe_96 rfl rfl
          · refine g_iconst K 1 dX6_addPipe_49 (by decide +kernel) ?_
            refine g_goto (tgt := 54) K dX6_addPipe_50 (by decide) ?_
            refine g_istore (lo' := [(6, .int (nI (1))), (5, .int (nI (0))), (0, .ref (g_ad X 22)), (1, .int (nI (x))), (2, .int (nI (y))), (3, .int (nI (ln))), (4, .int (nI (cu)))]) K dX6_addPipe_54 (by decide) rfl ?_
            refine g_aload_n K 2 dX6_addPipe_56 rfl ?_
            refine g_iload K 1 dX6_addPipe_57 rfl ?_
            refine g_if_ne (tgt := 66) (a := 0) K dX6_addPipe_59 (by decide) (by omega) (fun h59_29 => absurd h59_29 (by omega)) (fun h59_29 => ?_)
            refine g_iconst K 1 dX6_addPipe_62 (by decide +kernel) ?_
            refine g_goto (tgt := 89) K dX6_addPipe_63 (by decide) ?_
            refine g_callVd (q := 22) (ci := 6) (As := [.int (nI (1))]) (rest := []) (C := RX6) (T := TX6) (N := 17) K (cX6_refused_k (g_z X) S 1 (by omega)) (cwV 1 K.1.2.2.2.2 gX6_addPipe_X6_refused rfl rfl rfl (by decide +kernel) ⟨Nat.le_trans (Nat.le_of_ble_eq_true rfl) hRf, Nat.le_trans (Nat.le_of_ble_eq_true rfl) hRl⟩) rfl rfl rfl rfl (Nat.le_of_ble_eq_true rfl) dX6_addPipe_89 ?_
            refine g_cast (S' := (va_up S 22 (va_up (S 22) 0 (1)))) rfl rfl rfl ?_
            refine g_if_eq (tgt := 97) (a := 1) K dX6_addPipe_92 (by decide) (by omega) (fun h92_30 => absurd h92_30 (by omega)) (fun h92_30 => ?_)
            refine g_iconst K 0 dX6_addPipe_95 (by decide +kernel) ?_
            exact g_retd hret dX6_addPipe_96 rfl rfl
    · refine g_iconst K 1 dX6_addPipe_16 (by decide +kernel) ?_
      refine g_goto (tgt := 21) K dX6_addPipe_17 (by decide) ?_
      refine g_istore (lo' := [(5, .int (nI (1))), (0, .ref (g_ad X 22)), (1, .int (nI (x))), (2, .int (nI (y))), (3, .int (nI (ln))), (4, .int (nI (cu)))]) K dX6_addPipe_21 (by decide) rfl ?_
      refine g_iload_n K 2 dX6_addPipe_23 rfl ?_
      refine g_iload_n K 3 dX6_addPipe_24 rfl ?_
      refine g_icmp_eq (tgt := 53) (a := x) (b := y) K dX6_addPipe_25 (by decide) (by omega) (by omega) (fun h25_31 => ?_) (fun h25_31 => ?_)
      · refine g_iconst K 0 dX6_addPipe_53 (by decide +kernel) ?_
        refine g_istore (lo' := [(6, .int (nI (0))), (5, .int (nI (1))), (0, .ref (g_ad X 22)), (1, .int (nI (x))), (2, .int (nI (y))), (3, .int (nI (ln))), (4, .int (nI (cu)))]) K dX6_addPipe_54 (by decide) rfl ?_
        refine g_aload_n K 2 dX6_addPipe_56 rfl ?_
        refine g_iload K 1 dX6_addPipe_57 rfl ?_
        refine g_if_ne (tgt := 66) (a := 1) K dX6_addPipe_59 (by decide) (by omega) (fun h59_32 => ?_) (fun h59_32 => absurd h59_32 (by omega))
        refine g_iload K 0 dX6_addPipe_66 rfl ?_
        refine g_if_ne (tgt := 75) (a := 0) K dX6_addPipe_68 (by decide) (by omega) (fun h68_33 => absurd h68_33 (by omega)) (fun h68_33 => ?_)
        refine g_iconst K 2 dX6_addPipe_71 (by decide +kernel) ?_
        refine g_goto (tgt := 89) K dX6_addPipe_72 (by decide) ?_
        refine g_callVd (q := 22) (ci := 6) (As := [.int (nI (2))]) (rest := []) (C := RX6) (T := TX6) (N := 17) K (cX6_refused_k (g_z X) S 2 (by omega)) (cwV 1 K.1.2.2.2.2 gX6_addPipe_X6_refused rfl rfl rfl (by decide +kernel) ⟨Nat.le_trans (Nat.le_of_ble_eq_true rfl) hRf, Nat.le_trans (Nat.le_of_ble_eq_true rfl) hRl⟩) rfl rfl rfl rfl (Nat.le_of_ble_eq_true rfl) dX6_addPipe_89 ?_
        refine g_cast (S' := (va_up S 22 (va_up (S 22) 0 (2)))) rfl rfl rfl ?_
        refine g_if_eq (tgt := 97) (a := 1) K dX6_addPipe_92 (by decide) (by omega) (fun h92_34 => absurd h92_34 (by omega)) (fun h92_34 => ?_)
        refine g_iconst K 0 dX6_addPipe_95 (by decide +kernel) ?_
        exfalso; omega
      · refine g_iload_n K 4 dX6_addPipe_28 rfl ?_
        refine g_iconst K 1 dX6_addPipe_29 (by decide +kernel) ?_
        refine g_bipush K 99 dX6_addPipe_30 (by decide +kernel) ?_
        refine g_callSd (As := [.int (nI (ln)), .int (nI (1)), .int (nI (99))]) (rest := []) K (cX6_in_k (g_z X) S ln 1 99 (by omega) (by omega) (by omega)) (va_cwS 3 K.1.2.2.2.2 gX6_addPipe_X6_in rfl rfl rfl (by decide +kernel) ⟨Nat.le_trans (Nat.le_of_ble_eq_true rfl) hRf, Nat.le_trans (Nat.le_of_ble_eq_true rfl) hRl⟩) rfl rfl (Nat.le_of_ble_eq_true rfl) dX6_addPipe_32 ?_
        have hf32_35 := inF_spec ln 1 99
        refine g_if_eq (tgt := 53) (a := inF ln 1 99) K dX6_addPipe_35 (by decide) (by omega) (fun h35_36 => ?_) (fun h35_36 => ?_)
        · refine g_iconst K 0 dX6_addPipe_53 (by decide +kernel) ?_
          refine g_istore (lo' := [(6, .int (nI (0))), (5, .int (nI (1))), (0, .ref (g_ad X 22)), (1, .int (nI (x))), (2, .int (nI (y))), (3, .int (nI (ln))), (4, .int (nI (cu)))]) K dX6_addPipe_54 (by decide) rfl ?_
          refine g_aload_n K 2 dX6_addPipe_56 rfl ?_
          refine g_iload K 1 dX6_addPipe_57 rfl ?_
          refine g_if_ne (tgt := 66) (a := 1) K dX6_addPipe_59 (by decide) (by omega) (fun h59_37 => ?_) (fun h59_37 => absurd h59_37 (by omega))
          refine g_iload K 0 dX6_addPipe_66 rfl ?_
          refine g_if_ne (tgt := 75) (a := 0) K dX6_addPipe_68 (by decide) (by omega) (fun h68_38 => absurd h68_38 (by omega)) (fun h68_38 => ?_)
          refine g_iconst K 2 dX6_addPipe_71 (by decide +kernel) ?_
          refine g_goto (tgt := 89) K dX6_addPipe_72 (by decide) ?_
          refine g_callVd (q := 22) (ci := 6) (As := [.int (nI (2))]) (rest := []) (C := RX6) (T := TX6) (N := 17) K (cX6_refused_k (g_z X) S 2 (by omega)) (cwV 1 K.1.2.2.2.2 gX6_addPipe_X6_refused rfl rfl rfl (by decide +kernel) ⟨Nat.le_trans (Nat.le_of_ble_eq_true rfl) hRf, Nat.le_trans (Nat.le_of_ble_eq_true rfl) hRl⟩) rfl rfl rfl rfl (Nat.le_of_ble_eq_true rfl) dX6_addPipe_89 ?_
          refine g_cast (S' := (va_up S 22 (va_up (S 22) 0 (2)))) rfl rfl rfl ?_
          refine g_if_eq (tgt := 97) (a := 1) K dX6_addPipe_92 (by decide) (by omega) (fun h92_39 => absurd h92_39 (by omega)) (fun h92_39 => ?_)
          refine g_iconst K 0 dX6_addPipe_95 (by decide +kernel) ?_
          exfalso; omega
        · refine g_iload K 5 dX6_addPipe_38 rfl ?_
          refine g_iconst K 0 dX6_addPipe_40 (by decide +kernel) ?_
          refine g_bipush K 99 dX6_addPipe_41 (by decide +kernel) ?_
          refine g_callSd (As := [.int (nI (cu)), .int (nI (0)), .int (nI (99))]) (rest := []) K (cX6_in_k (g_z X) S cu 0 99 (by omega) (by omega) (by omega)) (va_cwS 3 K.1.2.2.2.2 gX6_addPipe_X6_in rfl rfl rfl (by decide +kernel) ⟨Nat.le_trans (Nat.le_of_ble_eq_true rfl) hRf, Nat.le_trans (Nat.le_of_ble_eq_true rfl) hRl⟩) rfl rfl (Nat.le_of_ble_eq_true rfl) dX6_addPipe_43 ?_
          have hf43_40 := inF_spec cu 0 99
          refine g_if_eq (tgt := 53) (a := inF cu 0 99) K dX6_addPipe_46 (by decide) (by omega) (fun h46_41 => ?_) (fun h46_41 => ?_)
          · refine g_iconst K 0 dX6_addPipe_53 (by decide +kernel) ?_
            refine g_istore (lo' := [(6, .int (nI (0))), (5, .int (nI (1))), (0, .ref (g_ad X 22)), (1, .int (nI (x))), (2, .int (nI (y))), (3, .int (nI (ln))), (4, .int (nI (cu)))]) K dX6_addPipe_54 (by decide) rfl ?_
            refine g_aload_n K 2 dX6_addPipe_56 rfl ?_
            refine g_iload K 1 dX6_addPipe_57 rfl ?_
            refine g_if_ne (tgt := 66) (a := 1) K dX6_addPipe_59 (by decide) (by omega) (fun h59_42 => ?_) (fun h59_42 => absurd h59_42 (by omega))
            refine g_iload K 0 dX6_addPipe_66 rfl ?_
            refine g_if_ne (tgt := 75) (a := 0) K dX6_addPipe_68 (by decide) (by omega) (fun h68_43 => absurd h68_43 (by omega)) (fun h68_43 => ?_)
            refine g_iconst K 2 dX6_addPipe_71 (by decide +kernel) ?_
            refine g_goto (tgt := 89) K dX6_addPipe_72 (by decide) ?_
            refine g_callVd (q := 22) (ci := 6) (As := [.int (nI (2))]) (rest := []) (C := RX6) (T := TX6) (N := 17) K (cX6_refused_k (g_z X) S 2 (by omega)) (cwV 1 K.1.2.2.2.2 gX6_addPipe_X6_refused rfl rfl rfl (by decide +kernel) ⟨Nat.le_trans (Nat.le_of_ble_eq_true rfl) hRf, Nat.le_trans (Nat.le_of_ble_eq_true rfl) hRl⟩) rfl rfl rfl rfl (Nat.le_of_ble_eq_true rfl) dX6_addPipe_89 ?_
            refine g_cast (S' := (va_up S 22 (va_up (S 22) 0 (2)))) rfl rfl rfl ?_
            refine g_if_eq (tgt := 97) (a := 1) K dX6_addPipe_92 (by decide) (by omega) (fun h92_44 => absurd h92_44 (by omega)) (fun h92_44 => ?_)
            refine g_iconst K 0 dX6_addPipe_95 (by decide +kernel) ?_
            exfalso; omega
          · refine g_iconst K 1 dX6_addPipe_49 (by decide +kernel) ?_
            refine g_goto (tgt := 54) K dX6_addPipe_50 (by decide) ?_
            refine g_istore (lo' := [(6, .int (nI (1))), (5, .int (nI (1))), (0, .ref (g_ad X 22)), (1, .int (nI (x))), (2, .int (nI (y))), (3, .int (nI (ln))), (4, .int (nI (cu)))]) K dX6_addPipe_54 (by decide) rfl ?_
            refine g_aload_n K 2 dX6_addPipe_56 rfl ?_
            refine g_iload K 1 dX6_addPipe_57 rfl ?_
            refine g_if_ne (tgt := 66) (a := 1) K dX6_addPipe_59 (by decide) (by omega) (fun h59_45 => ?_) (fun h59_45 => absurd h59_45 (by omega))
            refine g_iload K 0 dX6_addPipe_66 rfl ?_
            refine g_if_ne (tgt := 75) (a := 1) K dX6_addPipe_68 (by decide) (by omega) (fun h68_46 => ?_) (fun h68_46 => absurd h68_46 (by omega))
            refine g_aload_n K 2 dX6_addPipe_75 rfl ?_
            refine g_getI (q := 22) (ci := 6) (k := 2) (N := 17) (C := RX6) (T := TX6) (ref := "ValveWalkModel") K rfl rfl rfl (by decide) hin6 (by decide +kernel) rfl dX6_addPipe_76 ?_
            refine g_bipush K 16 dX6_addPipe_79 (by decide +kernel) ?_
            refine g_icmp_ne (tgt := 88) (a := S 22 2) (b := 16) K dX6_addPipe_81 (by decide) (by omega) (by omega) (fun h81_47 => ?_) (fun h81_47 => ?_)
            · refine g_iconst K 0 dX6_addPipe_88 (by decide +kernel) ?_
              refine g_callVd (q := 22) (ci := 6) (As := [.int (nI (0))]) (rest := []) (C := RX6) (T := TX6) (N := 17) K (cX6_refused_k (g_z X) S 0 (by omega)) (cwV 1 K.1.2.2.2.2 gX6_addPipe_X6_refused rfl rfl rfl (by decide +kernel) ⟨Nat.le_trans (Nat.le_of_ble_eq_true rfl) hRf, Nat.le_trans (Nat.le_of_ble_eq_true rfl) hRl⟩) rfl rfl rfl rfl (Nat.le_of_ble_eq_true rfl) dX6_addPipe_89 ?_
              refine g_cast (S' := (va_up S 22 (va_up (S 22) 0 (0)))) rfl rfl rfl ?_
              refine g_if_eq (tgt := 97) (a := 0) K dX6_addPipe_92 (by decide) (by omega) (fun h92_48 => ?_) (fun h92_48 => absurd h92_48 (by omega))
              exfalso; omega
            · refine g_iconst K 3 dX6_addPipe_84 (by decide +kernel) ?_
              refine g_goto (tgt := 89) K dX6_addPipe_85 (by decide) ?_
              refine g_callVd (q := 22) (ci := 6) (As := [.int (nI (3))]) (rest := []) (C := RX6) (T := TX6) (N := 17) K (cX6_refused_k (g_z X) S 3 (by omega)) (cwV 1 K.1.2.2.2.2 gX6_addPipe_X6_refused rfl rfl rfl (by decide +kernel) ⟨Nat.le_trans (Nat.le_of_ble_eq_true rfl) hRf, Nat.le_trans (Nat.le_of_ble_eq_true rfl) hRl⟩) rfl rfl rfl rfl (Nat.le_of_ble_eq_true rfl) dX6_addPipe_89 ?_
              refine g_cast (S' := (va_up S 22 (va_up (S 22) 0 (3)))) rfl rfl rfl ?_
              refine g_if_eq (tgt := 97) (a := 1) K dX6_addPipe_92 (by decide) (by omega) (fun h92_49 => absurd h92_49 (by omega)) (fun h92_49 => ?_)
              refine g_iconst K 0 dX6_addPipe_95 (by decide +kernel) ?_
              exfalso; omega

set_option maxHeartbeats 4000000 in
set_option maxRecDepth 100000 in
theorem cX6_addPipe_r2 (Z : gZ) (S : Nat → Nat → Nat) (x y ln cu : Nat) (hm : wfM S) (hux : x < 4294967296) (huy : y < 4294967296) (huln : ln < 4294967296) (hucu : cu < 4294967296) (hx : x < S 22 1) (hy : y < S 22 1) (hb : x = y ∨ ¬ (1 ≤ ln ∧ ln ≤ 99) ∨ ¬ cu ≤ 99) : gMd Z yX6_addPipe wsX6_addPipe { frames := 2, cells := 0, slots := 0, locals := 43 } [.ref (gz_ad Z 22), .int (nI (x)), .int (nI (y)), .int (nI (ln)), .int (nI (cu))] S (0) (va_up S 22 (va_up (S 22) 0 (2))) := by
  refine gMd_of (cc := cX6_addPipe) (maxL := 7) (ret := (some .int)) (by decide +kernel) rfl (Nat.le_of_ble_eq_true rfl) (Or.inl rfl) (fun X hZ hR K hret => ?_)
  subst hZ
  have K : gOk X cX6_addPipe 7 wsX6_addPipe RX6 := K
  have hRf : 2 ≤ (g_R X).frames := gR_f hR rfl
  have hRl : 43 ≤ (g_R X).locals := gR_l hR rfl
  have hin6 : ∀ w ∈ u_ws RX6 TX6 17, w ∈ wsX6_addPipe := by decide +kernel
  obtain ⟨m1, m2, m3, m4, msh, mst, b23, b24, b25, b26, b27⟩ := id hm
  show gG X 0 [(0, .ref (g_ad X 22)), (1, .int (nI (x))), (2, .int (nI (y))), (3, .int (nI (ln))), (4, .int (nI (cu)))] [] S
  refine g_aload_n K 0 dX6_addPipe_0 rfl ?_
  refine g_iload_n K 1 dX6_addPipe_1 rfl ?_
  refine g_callVd (q := 22) (ci := 6) (As := [.int (nI (x))]) (rest := []) (C := RX6) (T := TX6) (N := 17) K (cX6_isNode_k (g_z X) S x (hm) (by omega)) (cwV 1 K.1.2.2.2.2 gX6_addPipe_X6_isNode rfl rfl rfl (by decide +kernel) ⟨Nat.le_trans (Nat.le_of_ble_eq_true rfl) hRf, Nat.le_trans (Nat.le_of_ble_eq_true rfl) hRl⟩) rfl rfl rfl rfl (Nat.le_of_ble_eq_true rfl) dX6_addPipe_2 ?_
  have hf2_1 := isN_spec (S 22 1) x
  refine g_if_eq (tgt := 20) (a := isN (S 22 1) x) K dX6_addPipe_5 (by decide) (by omega) (fun h5_2 => ?_) (fun h5_2 => ?_)
  · refine g_iconst K 0 dX6_addPipe_20 (by decide +kernel) ?_
    refine g_istore (lo' := [(5, .int (nI (0))), (0, .ref (g_ad X 22)), (1, .int (nI (x))), (2, .int (nI (y))), (3, .int (nI (ln))), (4, .int (nI (cu)))]) K dX6_addPipe_21 (by decide) rfl ?_
    refine g_iload_n K 2 dX6_addPipe_23 rfl ?_
    refine g_iload_n K 3 dX6_addPipe_24 rfl ?_
    refine g_icmp_eq (tgt := 53) (a := x) (b := y) K dX6_addPipe_25 (by decide) (by omega) (by omega) (fun h25_3 => ?_) (fun h25_3 => ?_)
    · refine g_iconst K 0 dX6_addPipe_53 (by decide +kernel) ?_
      refine g_istore (lo' := [(6, .int (nI (0))), (5, .int (nI (0))), (0, .ref (g_ad X 22)), (1, .int (nI (x))), (2, .int (nI (y))), (3, .int (nI (ln))), (4, .int (nI (cu)))]) K dX6_addPipe_54 (by decide) rfl ?_
      refine g_aload_n K 2 dX6_addPipe_56 rfl ?_
      refine g_iload K 1 dX6_addPipe_57 rfl ?_
      refine g_if_ne (tgt := 66) (a := 0) K dX6_addPipe_59 (by decide) (by omega) (fun h59_4 => absurd h59_4 (by omega)) (fun h59_4 => ?_)
      refine g_iconst K 1 dX6_addPipe_62 (by decide +kernel) ?_
      refine g_goto (tgt := 89) K dX6_addPipe_63 (by decide) ?_
      refine g_callVd (q := 22) (ci := 6) (As := [.int (nI (1))]) (rest := []) (C := RX6) (T := TX6) (N := 17) K (cX6_refused_k (g_z X) S 1 (by omega)) (cwV 1 K.1.2.2.2.2 gX6_addPipe_X6_refused rfl rfl rfl (by decide +kernel) ⟨Nat.le_trans (Nat.le_of_ble_eq_true rfl) hRf, Nat.le_trans (Nat.le_of_ble_eq_true rfl) hRl⟩) rfl rfl rfl rfl (Nat.le_of_ble_eq_true rfl) dX6_addPipe_89 ?_
      refine g_cast (S' := (va_up S 22 (va_up (S 22) 0 (1)))) rfl rfl rfl ?_
      refine g_if_eq (tgt := 97) (a := 1) K dX6_addPipe_92 (by decide) (by omega) (fun h92_5 => absurd h92_5 (by omega)) (fun h92_5 => ?_)
      refine g_iconst K 0 dX6_addPipe_95 (by decide +kernel) ?_
      exfalso; omega
    · refine g_iload_n K 4 dX6_addPipe_28 rfl ?_
      refine g_iconst K 1 dX6_addPipe_29 (by decide +kernel) ?_
      refine g_bipush K 99 dX6_addPipe_30 (by decide +kernel) ?_
      refine g_callSd (As := [.int (nI (ln)), .int (nI (1)), .int (nI (99))]) (rest := []) K (cX6_in_k (g_z X) S ln 1 99 (by omega) (by omega) (by omega)) (va_cwS 3 K.1.2.2.2.2 gX6_addPipe_X6_in rfl rfl rfl (by decide +kernel) ⟨Nat.le_trans (Nat.le_of_ble_eq_true rfl) hRf, Nat.le_trans (Nat.le_of_ble_eq_true rfl) hRl⟩) rfl rfl (Nat.le_of_ble_eq_true rfl) dX6_addPipe_32 ?_
      have hf32_6 := inF_spec ln 1 99
      refine g_if_eq (tgt := 53) (a := inF ln 1 99) K dX6_addPipe_35 (by decide) (by omega) (fun h35_7 => ?_) (fun h35_7 => ?_)
      · refine g_iconst K 0 dX6_addPipe_53 (by decide +kernel) ?_
        refine g_istore (lo' := [(6, .int (nI (0))), (5, .int (nI (0))), (0, .ref (g_ad X 22)), (1, .int (nI (x))), (2, .int (nI (y))), (3, .int (nI (ln))), (4, .int (nI (cu)))]) K dX6_addPipe_54 (by decide) rfl ?_
        refine g_aload_n K 2 dX6_addPipe_56 rfl ?_
        refine g_iload K 1 dX6_addPipe_57 rfl ?_
        refine g_if_ne (tgt := 66) (a := 0) K dX6_addPipe_59 (by decide) (by omega) (fun h59_8 => absurd h59_8 (by omega)) (fun h59_8 => ?_)
        refine g_iconst K 1 dX6_addPipe_62 (by decide +kernel) ?_
        refine g_goto (tgt := 89) K dX6_addPipe_63 (by decide) ?_
        refine g_callVd (q := 22) (ci := 6) (As := [.int (nI (1))]) (rest := []) (C := RX6) (T := TX6) (N := 17) K (cX6_refused_k (g_z X) S 1 (by omega)) (cwV 1 K.1.2.2.2.2 gX6_addPipe_X6_refused rfl rfl rfl (by decide +kernel) ⟨Nat.le_trans (Nat.le_of_ble_eq_true rfl) hRf, Nat.le_trans (Nat.le_of_ble_eq_true rfl) hRl⟩) rfl rfl rfl rfl (Nat.le_of_ble_eq_true rfl) dX6_addPipe_89 ?_
        refine g_cast (S' := (va_up S 22 (va_up (S 22) 0 (1)))) rfl rfl rfl ?_
        refine g_if_eq (tgt := 97) (a := 1) K dX6_addPipe_92 (by decide) (by omega) (fun h92_9 => absurd h92_9 (by omega)) (fun h92_9 => ?_)
        refine g_iconst K 0 dX6_addPipe_95 (by decide +kernel) ?_
        exfalso; omega
      · refine g_iload K 5 dX6_addPipe_38 rfl ?_
        refine g_iconst K 0 dX6_addPipe_40 (by decide +kernel) ?_
        refine g_bipush K 99 dX6_addPipe_41 (by decide +kernel) ?_
        refine g_callSd (As := [.int (nI (cu)), .int (nI (0)), .int (nI (99))]) (rest := []) K (cX6_in_k (g_z X) S cu 0 99 (by omega) (by omega) (by omega)) (va_cwS 3 K.1.2.2.2.2 gX6_addPipe_X6_in rfl rfl rfl (by decide +kernel) ⟨Nat.le_trans (Nat.le_of_ble_eq_true rfl) hRf, Nat.le_trans (Nat.le_of_ble_eq_true rfl) hRl⟩) rfl rfl (Nat.le_of_ble_eq_true rfl) dX6_addPipe_43 ?_
        have hf43_10 := inF_spec cu 0 99
        refine g_if_eq (tgt := 53) (a := inF cu 0 99) K dX6_addPipe_46 (by decide) (by omega) (fun h46_11 => ?_) (fun h46_11 => ?_)
        · refine g_iconst K 0 dX6_addPipe_53 (by decide +kernel) ?_
          refine g_istore (lo' := [(6, .int (nI (0))), (5, .int (nI (0))), (0, .ref (g_ad X 22)), (1, .int (nI (x))), (2, .int (nI (y))), (3, .int (nI (ln))), (4, .int (nI (cu)))]) K dX6_addPipe_54 (by decide) rfl ?_
          refine g_aload_n K 2 dX6_addPipe_56 rfl ?_
          refine g_iload K 1 dX6_addPipe_57 rfl ?_
          refine g_if_ne (tgt := 66) (a := 0) K dX6_addPipe_59 (by decide) (by omega) (fun h59_12 => absurd h59_12 (by omega)) (fun h59_12 => ?_)
          refine g_iconst K 1 dX6_addPipe_62 (by decide +kernel) ?_
          refine g_goto (tgt := 89) K dX6_addPipe_63 (by decide) ?_
          refine g_callVd (q := 22) (ci := 6) (As := [.int (nI (1))]) (rest := []) (C := RX6) (T := TX6) (N := 17) K (cX6_refused_k (g_z X) S 1 (by omega)) (cwV 1 K.1.2.2.2.2 gX6_addPipe_X6_refused rfl rfl rfl (by decide +kernel) ⟨Nat.le_trans (Nat.le_of_ble_eq_true rfl) hRf, Nat.le_trans (Nat.le_of_ble_eq_true rfl) hRl⟩) rfl rfl rfl rfl (Nat.le_of_ble_eq_true rfl) dX6_addPipe_89 ?_
          refine g_cast (S' := (va_up S 22 (va_up (S 22) 0 (1)))) rfl rfl rfl ?_
          refine g_if_eq (tgt := 97) (a := 1) K dX6_addPipe_92 (by decide) (by omega) (fun h92_13 => absurd h92_13 (by omega)) (fun h92_13 => ?_)
          refine g_iconst K 0 dX6_addPipe_95 (by decide +kernel) ?_
          exfalso; omega
        · refine g_iconst K 1 dX6_addPipe_49 (by decide +kernel) ?_
          refine g_goto (tgt := 54) K dX6_addPipe_50 (by decide) ?_
          refine g_istore (lo' := [(6, .int (nI (1))), (5, .int (nI (0))), (0, .ref (g_ad X 22)), (1, .int (nI (x))), (2, .int (nI (y))), (3, .int (nI (ln))), (4, .int (nI (cu)))]) K dX6_addPipe_54 (by decide) rfl ?_
          refine g_aload_n K 2 dX6_addPipe_56 rfl ?_
          refine g_iload K 1 dX6_addPipe_57 rfl ?_
          refine g_if_ne (tgt := 66) (a := 0) K dX6_addPipe_59 (by decide) (by omega) (fun h59_14 => absurd h59_14 (by omega)) (fun h59_14 => ?_)
          refine g_iconst K 1 dX6_addPipe_62 (by decide +kernel) ?_
          refine g_goto (tgt := 89) K dX6_addPipe_63 (by decide) ?_
          refine g_callVd (q := 22) (ci := 6) (As := [.int (nI (1))]) (rest := []) (C := RX6) (T := TX6) (N := 17) K (cX6_refused_k (g_z X) S 1 (by omega)) (cwV 1 K.1.2.2.2.2 gX6_addPipe_X6_refused rfl rfl rfl (by decide +kernel) ⟨Nat.le_trans (Nat.le_of_ble_eq_true rfl) hRf, Nat.le_trans (Nat.le_of_ble_eq_true rfl) hRl⟩) rfl rfl rfl rfl (Nat.le_of_ble_eq_true rfl) dX6_addPipe_89 ?_
          refine g_cast (S' := (va_up S 22 (va_up (S 22) 0 (1)))) rfl rfl rfl ?_
          refine g_if_eq (tgt := 97) (a := 1) K dX6_addPipe_92 (by decide) (by omega) (fun h92_15 => absurd h92_15 (by omega)) (fun h92_15 => ?_)
          refine g_iconst K 0 dX6_addPipe_95 (by decide +kernel) ?_
          exfalso; omega
  · refine g_aload_n K 0 dX6_addPipe_8 rfl ?_
    refine g_iload_n K 2 dX6_addPipe_9 rfl ?_
    refine g_callVd (q := 22) (ci := 6) (As := [.int (nI (y))]) (rest := []) (C := RX6) (T := TX6) (N := 17) K (cX6_isNode_k (g_z X) S y (hm) (by omega)) (cwV 1 K.1.2.2.2.2 gX6_addPipe_X6_isNode rfl rfl rfl (by decide +kernel) ⟨Nat.le_trans (Nat.le_of_ble_eq_true rfl) hRf, Nat.le_trans (Nat.le_of_ble_eq_true rfl) hRl⟩) rfl rfl rfl rfl (Nat.le_of_ble_eq_true rfl) dX6_addPipe_10 ?_
    have hf10_16 := isN_spec (S 22 1) y
    refine g_if_eq (tgt := 20) (a := isN (S 22 1) y) K dX6_addPipe_13 (by decide) (by omega) (fun h13_17 => ?_) (fun h13_17 => ?_)
    · refine g_iconst K 0 dX6_addPipe_20 (by decide +kernel) ?_
      refine g_istore (lo' := [(5, .int (nI (0))), (0, .ref (g_ad X 22)), (1, .int (nI (x))), (2, .int (nI (y))), (3, .int (nI (ln))), (4, .int (nI (cu)))]) K dX6_addPipe_21 (by decide) rfl ?_
      refine g_iload_n K 2 dX6_addPipe_23 rfl ?_
      refine g_iload_n K 3 dX6_addPipe_24 rfl ?_
      refine g_icmp_eq (tgt := 53) (a := x) (b := y) K dX6_addPipe_25 (by decide) (by omega) (by omega) (fun h25_18 => ?_) (fun h25_18 => ?_)
      · refine g_iconst K 0 dX6_addPipe_53 (by decide +kernel) ?_
        refine g_istore (lo' := [(6, .int (nI (0))), (5, .int (nI (0))), (0, .ref (g_ad X 22)), (1, .int (nI (x))), (2, .int (nI (y))), (3, .int (nI (ln))), (4, .int (nI (cu)))]) K dX6_addPipe_54 (by decide) rfl ?_
        refine g_aload_n K 2 dX6_addPipe_56 rfl ?_
        refine g_iload K 1 dX6_addPipe_57 rfl ?_
        refine g_if_ne (tgt := 66) (a := 0) K dX6_addPipe_59 (by decide) (by omega) (fun h59_19 => absurd h59_19 (by omega)) (fun h59_19 => ?_)
        refine g_iconst K 1 dX6_addPipe_62 (by decide +kernel) ?_
        refine g_goto (tgt := 89) K dX6_addPipe_63 (by decide) ?_
        refine g_callVd (q := 22) (ci := 6) (As := [.int (nI (1))]) (rest := []) (C := RX6) (T := TX6) (N := 17) K (cX6_refused_k (g_z X) S 1 (by omega)) (cwV 1 K.1.2.2.2.2 gX6_addPipe_X6_refused rfl rfl rfl (by decide +kernel) ⟨Nat.le_trans (Nat.le_of_ble_eq_true rfl) hRf, Nat.le_trans (Nat.le_of_ble_eq_true rfl) hRl⟩) rfl rfl rfl rfl (Nat.le_of_ble_eq_true rfl) dX6_addPipe_89 ?_
        refine g_cast (S' := (va_up S 22 (va_up (S 22) 0 (1)))) rfl rfl rfl ?_
        refine g_if_eq (tgt := 97) (a := 1) K dX6_addPipe_92 (by decide) (by omega) (fun h92_20 => absurd h92_20 (by omega)) (fun h92_20 => ?_)
        refine g_iconst K 0 dX6_addPipe_95 (by decide +kernel) ?_
        exfalso; omega
      · refine g_iload_n K 4 dX6_addPipe_28 rfl ?_
        refine g_iconst K 1 dX6_addPipe_29 (by decide +kernel) ?_
        refine g_bipush K 99 dX6_addPipe_30 (by decide +kernel) ?_
        refine g_callSd (As := [.int (nI (ln)), .int (nI (1)), .int (nI (99))]) (rest := []) K (cX6_in_k (g_z X) S ln 1 99 (by omega) (by omega) (by omega)) (va_cwS 3 K.1.2.2.2.2 gX6_addPipe_X6_in rfl rfl rfl (by decide +kernel) ⟨Nat.le_trans (Nat.le_of_ble_eq_true rfl) hRf, Nat.le_trans (Nat.le_of_ble_eq_true rfl) hRl⟩) rfl rfl (Nat.le_of_ble_eq_true rfl) dX6_addPipe_32 ?_
        have hf32_21 := inF_spec ln 1 99
        refine g_if_eq (tgt := 53) (a := inF ln 1 99) K dX6_addPipe_35 (by decide) (by omega) (fun h35_22 => ?_) (fun h35_22 => ?_)
        · refine g_iconst K 0 dX6_addPipe_53 (by decide +kernel) ?_
          refine g_istore (lo' := [(6, .int (nI (0))), (5, .int (nI (0))), (0, .ref (g_ad X 22)), (1, .int (nI (x))), (2, .int (nI (y))), (3, .int (nI (ln))), (4, .int (nI (cu)))]) K dX6_addPipe_54 (by decide) rfl ?_
          refine g_aload_n K 2 dX6_addPipe_56 rfl ?_
          refine g_iload K 1 dX6_addPipe_57 rfl ?_
          refine g_if_ne (tgt := 66) (a := 0) K dX6_addPipe_59 (by decide) (by omega) (fun h59_23 => absurd h59_23 (by omega)) (fun h59_23 => ?_)
          refine g_iconst K 1 dX6_addPipe_62 (by decide +kernel) ?_
          refine g_goto (tgt := 89) K dX6_addPipe_63 (by decide) ?_
          refine g_callVd (q := 22) (ci := 6) (As := [.int (nI (1))]) (rest := []) (C := RX6) (T := TX6) (N := 17) K (cX6_refused_k (g_z X) S 1 (by omega)) (cwV 1 K.1.2.2.2.2 gX6_addPipe_X6_refused rfl rfl rfl (by decide +kernel) ⟨Nat.le_trans (Nat.le_of_ble_eq_true rfl) hRf, Nat.le_trans (Nat.le_of_ble_eq_true rfl) hRl⟩) rfl rfl rfl rfl (Nat.le_of_ble_eq_true rfl) dX6_addPipe_89 ?_
          refine g_cast (S' := (va_up S 22 (va_up (S 22) 0 (1)))) rfl rfl rfl ?_
          refine g_if_eq (tgt := 97) (a := 1) K dX6_addPipe_92 (by decide) (by omega) (fun h92_24 => absurd h92_24 (by omega)) (fun h92_24 => ?_)
          refine g_iconst K 0 dX6_addPipe_95 (by decide +kernel) ?_
          exfalso; omega
        · refine g_iload K 5 dX6_addPipe_38 rfl ?_
          refine g_iconst K 0 dX6_addPipe_40 (by decide +kernel) ?_
          refine g_bipush K 99 dX6_addPipe_41 (by decide +kernel) ?_
          refine g_callSd (As := [.int (nI (cu)), .int (nI (0)), .int (nI (99))]) (rest := []) K (cX6_in_k (g_z X) S cu 0 99 (by omega) (by omega) (by omega)) (va_cwS 3 K.1.2.2.2.2 gX6_addPipe_X6_in rfl rfl rfl (by decide +kernel) ⟨Nat.le_trans (Nat.le_of_ble_eq_true rfl) hRf, Nat.le_trans (Nat.le_of_ble_eq_true rfl) hRl⟩) rfl rfl (Nat.le_of_ble_eq_true rfl) dX6_addPipe_43 ?_
          have hf43_25 := inF_spec cu 0 99
          refine g_if_eq (tgt := 53) (a := inF cu 0 99) K dX6_addPipe_46 (by decide) (by omega) (fun h46_26 => ?_) (fun h46_26 => ?_)
          · refine g_iconst K 0 dX6_addPipe_53 (by decide +kernel) ?_
            refine g_istore (lo' := [(6, .int (nI (0))), (5, .int (nI (0))), (0, .ref (g_ad X 22)), (1, .int (nI (x))), (2, .int (nI (y))), (3, .int (nI (ln))), (4, .int (nI (cu)))]) K dX6_addPipe_54 (by decide) rfl ?_
            refine g_aload_n K 2 dX6_addPipe_56 rfl ?_
            refine g_iload K 1 dX6_addPipe_57 rfl ?_
            refine g_if_ne (tgt := 66) (a := 0) K dX6_addPipe_59 (by decide) (by omega) (fun h59_27 => absurd h59_27 (by omega)) (fun h59_27 => ?_)
            refine g_iconst K 1 dX6_addPipe_62 (by decide +kernel) ?_
            refine g_goto (tgt := 89) K dX6_addPipe_63 (by decide) ?_
            refine g_callVd (q := 22) (ci := 6) (As := [.int (nI (1))]) (rest := []) (C := RX6) (T := TX6) (N := 17) K (cX6_refused_k (g_z X) S 1 (by omega)) (cwV 1 K.1.2.2.2.2 gX6_addPipe_X6_refused rfl rfl rfl (by decide +kernel) ⟨Nat.le_trans (Nat.le_of_ble_eq_true rfl) hRf, Nat.le_trans (Nat.le_of_ble_eq_true rfl) hRl⟩) rfl rfl rfl rfl (Nat.le_of_ble_eq_true rfl) dX6_addPipe_89 ?_
            refine g_cast (S' := (va_up S 22 (va_up (S 22) 0 (1)))) rfl rfl rfl ?_
            refine g_if_eq (tgt := 97) (a := 1) K dX6_addPipe_92 (by decide) (by omega) (fun h92_28 => absurd h92_28 (by omega)) (fun h92_28 => ?_)
            refine g_iconst K 0 dX6_addPipe_95 (by decide +kernel) ?_
            exfalso; omega
          · refine g_iconst K 1 dX6_addPipe_49 (by decide +kernel) ?_
            refine g_goto (tgt := 54) K dX6_addPipe_50 (by decide) ?_
            refine g_istore (lo' := [(6, .int (nI (1))), (5, .int (nI (0))), (0, .ref (g_ad X 22)), (1, .int (nI (x))), (2, .int (nI (y))), (3, .int (nI (ln))), (4, .int (nI (cu)))]) K dX6_addPipe_54 (by decide) rfl ?_
            refine g_aload_n K 2 dX6_addPipe_56 rfl ?_
            refine g_iload K 1 dX6_addPipe_57 rfl ?_
            refine g_if_ne (tgt := 66) (a := 0) K dX6_addPipe_59 (by decide) (by omega) (fun h59_29 => absurd h59_29 (by omega)) (fun h59_29 => ?_)
            refine g_iconst K 1 dX6_addPipe_62 (by decide +kernel) ?_
            refine g_goto (tgt := 89) K dX6_addPipe_63 (by decide) ?_
            refine g_callVd (q := 22) (ci := 6) (As := [.int (nI (1))]) (rest := []) (C := RX6) (T := TX6) (N := 17) K (cX6_refused_k (g_z X) S 1 (by omega)) (cwV 1 K.1.2.2.2.2 gX6_addPipe_X6_refused rfl rfl rfl (by decide +kernel) ⟨Nat.le_trans (Nat.le_of_ble_eq_true rfl) hRf, Nat.le_trans (Nat.le_of_ble_eq_true rfl) hRl⟩) rfl rfl rfl rfl (Nat.le_of_ble_eq_true rfl) dX6_addPipe_89 ?_
            refine g_cast (S' := (va_up S 22 (va_up (S 22) 0 (1)))) rfl rfl rfl ?_
            refine g_if_eq (tgt := 97) (a := 1) K dX6_addPipe_92 (by decide) (by omega) (fun h92_30 => absurd h92_30 (by omega)) (fun h92_30 => ?_)
            refine g_iconst K 0 dX6_addPipe_95 (by decide +kernel) ?_
            exfalso; omega
    · refine g_iconst K 1 dX6_addPipe_16 (by decide +kernel) ?_
      refine g_goto (tgt := 21) K dX6_addPipe_17 (by decide) ?_
      refine g_istore (lo' := [(5, .int (nI (1))), (0, .ref (g_ad X 22)), (1, .int (nI (x))), (2, .int (nI (y))), (3, .int (nI (ln))), (4, .int (nI (cu)))]) K dX6_addPipe_21 (by decide) rfl ?_
      refine g_iload_n K 2 dX6_addPipe_23 rfl ?_
      refine g_iload_n K 3 dX6_addPipe_24 rfl ?_
      refine g_icmp_eq (tgt := 53) (a := x) (b := y) K dX6_addPipe_25 (by decide) (by omega) (by omega) (fun h25_31 => ?_) (fun h25_31 => ?_)
      · refine g_iconst K 0 dX6_addPipe_53 (by decide +kernel) ?_
        refine g_istore (lo' := [(6, .int (nI (0))), (5, .int (nI (1))), (0, .ref (g_ad X 22)), (1, .int (nI (x))), (2, .int (nI (y))), (3, .int (nI (ln))), (4, .int (nI (cu)))]) K dX6_addPipe_54 (by decide) rfl ?_
        refine g_aload_n K 2 dX6_addPipe_56 rfl ?_
        refine g_iload K 1 dX6_addPipe_57 rfl ?_
        refine g_if_ne (tgt := 66) (a := 1) K dX6_addPipe_59 (by decide) (by omega) (fun h59_32 => ?_) (fun h59_32 => absurd h59_32 (by omega))
        refine g_iload K 0 dX6_addPipe_66 rfl ?_
        refine g_if_ne (tgt := 75) (a := 0) K dX6_addPipe_68 (by decide) (by omega) (fun h68_33 => absurd h68_33 (by omega)) (fun h68_33 => ?_)
        refine g_iconst K 2 dX6_addPipe_71 (by decide +kernel) ?_
        refine g_goto (tgt := 89) K dX6_addPipe_72 (by decide) ?_
        refine g_callVd (q := 22) (ci := 6) (As := [.int (nI (2))]) (rest := []) (C := RX6) (T := TX6) (N := 17) K (cX6_refused_k (g_z X) S 2 (by omega)) (cwV 1 K.1.2.2.2.2 gX6_addPipe_X6_refused rfl rfl rfl (by decide +kernel) ⟨Nat.le_trans (Nat.le_of_ble_eq_true rfl) hRf, Nat.le_trans (Nat.le_of_ble_eq_true rfl) hRl⟩) rfl rfl rfl rfl (Nat.le_of_ble_eq_true rfl) dX6_addPipe_89 ?_
        refine g_cast (S' := (va_up S 22 (va_up (S 22) 0 (2)))) rfl rfl rfl ?_
        refine g_if_eq (tgt := 97) (a := 1) K dX6_addPipe_92 (by decide) (by omega) (fun h92_34 => absurd h92_34 (by omega)) (fun h92_34 => ?_)
        refine g_iconst K 0 dX6_addPipe_95 (by decide +kernel) ?_
        exact g_retd hret dX6_addPipe_96 rfl rfl
      · refine g_iload_n K 4 dX6_addPipe_28 rfl ?_
        refine g_iconst K 1 dX6_addPipe_29 (by decide +kernel) ?_
        refine g_bipush K 99 dX6_addPipe_30 (by decide +kernel) ?_
        refine g_callSd (As := [.int (nI (ln)), .int (nI (1)), .int (nI (99))]) (rest := []) K (cX6_in_k (g_z X) S ln 1 99 (by omega) (by omega) (by omega)) (va_cwS 3 K.1.2.2.2.2 gX6_addPipe_X6_in rfl rfl rfl (by decide +kernel) ⟨Nat.le_trans (Nat.le_of_ble_eq_true rfl) hRf, Nat.le_trans (Nat.le_of_ble_eq_true rfl) hRl⟩) rfl rfl (Nat.le_of_ble_eq_true rfl) dX6_addPipe_32 ?_
        have hf32_35 := inF_spec ln 1 99
        refine g_if_eq (tgt := 53) (a := inF ln 1 99) K dX6_addPipe_35 (by decide) (by omega) (fun h35_36 => ?_) (fun h35_36 => ?_)
        · refine g_iconst K 0 dX6_addPipe_53 (by decide +kernel) ?_
          refine g_istore (lo' := [(6, .int (nI (0))), (5, .int (nI (1))), (0, .ref (g_ad X 22)), (1, .int (nI (x))), (2, .int (nI (y))), (3, .int (nI (ln))), (4, .int (nI (cu)))]) K dX6_addPipe_54 (by decide) rfl ?_
          refine g_aload_n K 2 dX6_addPipe_56 rfl ?_
          refine g_iload K 1 dX6_addPipe_57 rfl ?_
          refine g_if_ne (tgt := 66) (a := 1) K dX6_addPipe_59 (by decide) (by omega) (fun h59_37 => ?_) (fun h59_37 => absurd h59_37 (by omega))
          refine g_iload K 0 dX6_addPipe_66 rfl ?_
          refine g_if_ne (tgt := 75) (a := 0) K dX6_addPipe_68 (by decide) (by omega) (fun h68_38 => absurd h68_38 (by omega)) (fun h68_38 => ?_)
          refine g_iconst K 2 dX6_addPipe_71 (by decide +kernel) ?_
          refine g_goto (tgt := 89) K dX6_addPipe_72 (by decide) ?_
          refine g_callVd (q := 22) (ci := 6) (As := [.int (nI (2))]) (rest := []) (C := RX6) (T := TX6) (N := 17) K (cX6_refused_k (g_z X) S 2 (by omega)) (cwV 1 K.1.2.2.2.2 gX6_addPipe_X6_refused rfl rfl rfl (by decide +kernel) ⟨Nat.le_trans (Nat.le_of_ble_eq_true rfl) hRf, Nat.le_trans (Nat.le_of_ble_eq_true rfl) hRl⟩) rfl rfl rfl rfl (Nat.le_of_ble_eq_true rfl) dX6_addPipe_89 ?_
          refine g_cast (S' := (va_up S 22 (va_up (S 22) 0 (2)))) rfl rfl rfl ?_
          refine g_if_eq (tgt := 97) (a := 1) K dX6_addPipe_92 (by decide) (by omega) (fun h92_39 => absurd h92_39 (by omega)) (fun h92_39 => ?_)
          refine g_iconst K 0 dX6_addPipe_95 (by decide +kernel) ?_
          exact g_retd hret dX6_addPipe_96 rfl rfl
        · refine g_iload K 5 dX6_addPipe_38 rfl ?_
          refine g_iconst K 0 dX6_addPipe_40 (by decide +kernel) ?_
          refine g_bipush K 99 dX6_addPipe_41 (by decide +kernel) ?_
          refine g_callSd (As := [.int (nI (cu)), .int (nI (0)), .int (nI (99))]) (rest := []) K (cX6_in_k (g_z X) S cu 0 99 (by omega) (by omega) (by omega)) (va_cwS 3 K.1.2.2.2.2 gX6_addPipe_X6_in rfl rfl rfl (by decide +kernel) ⟨Nat.le_trans (Nat.le_of_ble_eq_true rfl) hRf, Nat.le_trans (Nat.le_of_ble_eq_true rfl) hRl⟩) rfl rfl (Nat.le_of_ble_eq_true rfl) dX6_addPipe_43 ?_
          have hf43_40 := inF_spec cu 0 99
          refine g_if_eq (tgt := 53) (a := inF cu 0 99) K dX6_addPipe_46 (by decide) (by omega) (fun h46_41 => ?_) (fun h46_41 => ?_)
          · refine g_iconst K 0 dX6_addPipe_53 (by decide +kernel) ?_
            refine g_istore (lo' := [(6, .int (nI (0))), (5, .int (nI (1))), (0, .ref (g_ad X 22)), (1, .int (nI (x))), (2, .int (nI (y))), (3, .int (nI (ln))), (4, .int (nI (cu)))]) K dX6_addPipe_54 (by decide) rfl ?_
            refine g_aload_n K 2 dX6_addPipe_56 rfl ?_
            refine g_iload K 1 dX6_addPipe_57 rfl ?_
            refine g_if_ne (tgt := 66) (a := 1) K dX6_addPipe_59 (by decide) (by omega) (fun h59_42 => ?_) (fun h59_42 => absurd h59_42 (by omega))
            refine g_iload K 0 dX6_addPipe_66 rfl ?_
            refine g_if_ne (tgt := 75) (a := 0) K dX6_addPipe_68 (by decide) (by omega) (fun h68_43 => absurd h68_43 (by omega)) (fun h68_43 => ?_)
            refine g_iconst K 2 dX6_addPipe_71 (by decide +kernel) ?_
            refine g_goto (tgt := 89) K dX6_addPipe_72 (by decide) ?_
            refine g_callVd (q := 22) (ci := 6) (As := [.int (nI (2))]) (rest := []) (C := RX6) (T := TX6) (N := 17) K (cX6_refused_k (g_z X) S 2 (by omega)) (cwV 1 K.1.2.2.2.2 gX6_addPipe_X6_refused rfl rfl rfl (by decide +kernel) ⟨Nat.le_trans (Nat.le_of_ble_eq_true rfl) hRf, Nat.le_trans (Nat.le_of_ble_eq_true rfl) hRl⟩) rfl rfl rfl rfl (Nat.le_of_ble_eq_true rfl) dX6_addPipe_89 ?_
            refine g_cast (S' := (va_up S 22 (va_up (S 22) 0 (2)))) rfl rfl rfl ?_
            refine g_if_eq (tgt := 97) (a := 1) K dX6_addPipe_92 (by decide) (by omega) (fun h92_44 => absurd h92_44 (by omega)) (fun h92_44 => ?_)
            refine g_iconst K 0 dX6_addPipe_95 (by decide +kernel) ?_
            exact g_retd hret dX6_addPipe_96 rfl rfl
          · refine g_iconst K 1 dX6_addPipe_49 (by decide +kernel) ?_
            refine g_goto (tgt := 54) K dX6_addPipe_50 (by decide) ?_
            refine g_istore (lo' := [(6, .int (nI (1))), (5, .int (nI (1))), (0, .ref (g_ad X 22)), (1, .int (nI (x))), (2, .int (nI (y))), (3, .int (nI (ln))), (4, .int (nI (cu)))]) K dX6_addPipe_54 (by decide) rfl ?_
            refine g_aload_n K 2 dX6_addPipe_56 rfl ?_
            refine g_iload K 1 dX6_addPipe_57 rfl ?_
            refine g_if_ne (tgt := 66) (a := 1) K dX6_addPipe_59 (by decide) (by omega) (fun h59_45 => ?_) (fun h59_45 => absurd h59_45 (by omega))
            refine g_iload K 0 dX6_addPipe_66 rfl ?_
            refine g_if_ne (tgt := 75) (a := 1) K dX6_addPipe_68 (by decide) (by omega) (fun h68_46 => ?_) (fun h68_46 => absurd h68_46 (by omega))
            refine g_aload_n K 2 dX6_addPipe_75 rfl ?_
            refine g_getI (q := 22) (ci := 6) (k := 2) (N := 17) (C := RX6) (T := TX6) (ref := "ValveWalkModel") K rfl rfl rfl (by decide) hin6 (by decide +kernel) rfl dX6_addPipe_76 ?_
            refine g_bipush K 16 dX6_addPipe_79 (by decide +kernel) ?_
            refine g_icmp_ne (tgt := 88) (a := S 22 2) (b := 16) K dX6_addPipe_81 (by decide) (by omega) (by omega) (fun h81_47 => ?_) (fun h81_47 => ?_)
            · refine g_iconst K 0 dX6_addPipe_88 (by decide +kernel) ?_
              refine g_callVd (q := 22) (ci := 6) (As := [.int (nI (0))]) (rest := []) (C := RX6) (T := TX6) (N := 17) K (cX6_refused_k (g_z X) S 0 (by omega)) (cwV 1 K.1.2.2.2.2 gX6_addPipe_X6_refused rfl rfl rfl (by decide +kernel) ⟨Nat.le_trans (Nat.le_of_ble_eq_true rfl) hRf, Nat.le_trans (Nat.le_of_ble_eq_true rfl) hRl⟩) rfl rfl rfl rfl (Nat.le_of_ble_eq_true rfl) dX6_addPipe_89 ?_
              refine g_cast (S' := (va_up S 22 (va_up (S 22) 0 (0)))) rfl rfl rfl ?_
              refine g_if_eq (tgt := 97) (a := 0) K dX6_addPipe_92 (by decide) (by omega) (fun h92_48 => ?_) (fun h92_48 => absurd h92_48 (by omega))
              exfalso; omega
            · refine g_iconst K 3 dX6_addPipe_84 (by decide +kernel) ?_
              refine g_goto (tgt := 89) K dX6_addPipe_85 (by decide) ?_
              refine g_callVd (q := 22) (ci := 6) (As := [.int (nI (3))]) (rest := []) (C := RX6) (T := TX6) (N := 17) K (cX6_refused_k (g_z X) S 3 (by omega)) (cwV 1 K.1.2.2.2.2 gX6_addPipe_X6_refused rfl rfl rfl (by decide +kernel) ⟨Nat.le_trans (Nat.le_of_ble_eq_true rfl) hRf, Nat.le_trans (Nat.le_of_ble_eq_true rfl) hRl⟩) rfl rfl rfl rfl (Nat.le_of_ble_eq_true rfl) dX6_addPipe_89 ?_
              refine g_cast (S' := (va_up S 22 (va_up (S 22) 0 (3)))) rfl rfl rfl ?_
              refine g_if_eq (tgt := 97) (a := 1) K dX6_addPipe_92 (by decide) (by omega) (fun h92_49 => absurd h92_49 (by omega)) (fun h92_49 => ?_)
              refine g_iconst K 0 dX6_addPipe_95 (by decide +kernel) ?_
              exfalso; omega

set_option maxHeartbeats 4000000 in
set_option maxRecDepth 100000 in
theorem cX6_addPipe_r3 (Z : gZ) (S : Nat → Nat → Nat) (x y ln cu : Nat) (hm : wfM S) (hux : x < 4294967296) (huy : y < 4294967296) (huln : ln < 4294967296) (hucu : cu < 4294967296) (hx : x < S 22 1) (hy : y < S 22 1) (hxy : x ≠ y) (hl : 1 ≤ ln ∧ ln ≤ 99) (hc : cu ≤ 99) (h1 : S 22 2 = 16) : gMd Z yX6_addPipe wsX6_addPipe { frames := 2, cells := 0, slots := 0, locals := 43 } [.ref (gz_ad Z 22), .int (nI (x)), .int (nI (y)), .int (nI (ln)), .int (nI (cu))] S (0) (va_up S 22 (va_up (S 22) 0 (3))) := by
  refine gMd_of (cc := cX6_addPipe) (maxL := 7) (ret := (some .int)) (by decide +kernel) rfl (Nat.le_of_ble_eq_true rfl) (Or.inl rfl) (fun X hZ hR K hret => ?_)
  subst hZ
  have K : gOk X cX6_addPipe 7 wsX6_addPipe RX6 := K
  have hRf : 2 ≤ (g_R X).frames := gR_f hR rfl
  have hRl : 43 ≤ (g_R X).locals := gR_l hR rfl
  have hin6 : ∀ w ∈ u_ws RX6 TX6 17, w ∈ wsX6_addPipe := by decide +kernel
  obtain ⟨m1, m2, m3, m4, msh, mst, b23, b24, b25, b26, b27⟩ := id hm
  show gG X 0 [(0, .ref (g_ad X 22)), (1, .int (nI (x))), (2, .int (nI (y))), (3, .int (nI (ln))), (4, .int (nI (cu)))] [] S
  refine g_aload_n K 0 dX6_addPipe_0 rfl ?_
  refine g_iload_n K 1 dX6_addPipe_1 rfl ?_
  refine g_callVd (q := 22) (ci := 6) (As := [.int (nI (x))]) (rest := []) (C := RX6) (T := TX6) (N := 17) K (cX6_isNode_k (g_z X) S x (hm) (by omega)) (cwV 1 K.1.2.2.2.2 gX6_addPipe_X6_isNode rfl rfl rfl (by decide +kernel) ⟨Nat.le_trans (Nat.le_of_ble_eq_true rfl) hRf, Nat.le_trans (Nat.le_of_ble_eq_true rfl) hRl⟩) rfl rfl rfl rfl (Nat.le_of_ble_eq_true rfl) dX6_addPipe_2 ?_
  have hf2_1 := isN_spec (S 22 1) x
  refine g_if_eq (tgt := 20) (a := isN (S 22 1) x) K dX6_addPipe_5 (by decide) (by omega) (fun h5_2 => ?_) (fun h5_2 => ?_)
  · refine g_iconst K 0 dX6_addPipe_20 (by decide +kernel) ?_
    refine g_istore (lo' := [(5, .int (nI (0))), (0, .ref (g_ad X 22)), (1, .int (nI (x))), (2, .int (nI (y))), (3, .int (nI (ln))), (4, .int (nI (cu)))]) K dX6_addPipe_21 (by decide) rfl ?_
    refine g_iload_n K 2 dX6_addPipe_23 rfl ?_
    refine g_iload_n K 3 dX6_addPipe_24 rfl ?_
    refine g_icmp_eq (tgt := 53) (a := x) (b := y) K dX6_addPipe_25 (by decide) (by omega) (by omega) (fun h25_3 => ?_) (fun h25_3 => ?_)
    · refine g_iconst K 0 dX6_addPipe_53 (by decide +kernel) ?_
      refine g_istore (lo' := [(6, .int (nI (0))), (5, .int (nI (0))), (0, .ref (g_ad X 22)), (1, .int (nI (x))), (2, .int (nI (y))), (3, .int (nI (ln))), (4, .int (nI (cu)))]) K dX6_addPipe_54 (by decide) rfl ?_
      refine g_aload_n K 2 dX6_addPipe_56 rfl ?_
      refine g_iload K 1 dX6_addPipe_57 rfl ?_
      refine g_if_ne (tgt := 66) (a := 0) K dX6_addPipe_59 (by decide) (by omega) (fun h59_4 => absurd h59_4 (by omega)) (fun h59_4 => ?_)
      refine g_iconst K 1 dX6_addPipe_62 (by decide +kernel) ?_
      refine g_goto (tgt := 89) K dX6_addPipe_63 (by decide) ?_
      refine g_callVd (q := 22) (ci := 6) (As := [.int (nI (1))]) (rest := []) (C := RX6) (T := TX6) (N := 17) K (cX6_refused_k (g_z X) S 1 (by omega)) (cwV 1 K.1.2.2.2.2 gX6_addPipe_X6_refused rfl rfl rfl (by decide +kernel) ⟨Nat.le_trans (Nat.le_of_ble_eq_true rfl) hRf, Nat.le_trans (Nat.le_of_ble_eq_true rfl) hRl⟩) rfl rfl rfl rfl (Nat.le_of_ble_eq_true rfl) dX6_addPipe_89 ?_
      refine g_cast (S' := (va_up S 22 (va_up (S 22) 0 (1)))) rfl rfl rfl ?_
      refine g_if_eq (tgt := 97) (a := 1) K dX6_addPipe_92 (by decide) (by omega) (fun h92_5 => absurd h92_5 (by omega)) (fun h92_5 => ?_)
      refine g_iconst K 0 dX6_addPipe_95 (by decide +kernel) ?_
      exfalso; omega
    · refine g_iload_n K 4 dX6_addPipe_28 rfl ?_
      refine g_iconst K 1 dX6_addPipe_29 (by decide +kernel) ?_
      refine g_bipush K 99 dX6_addPipe_30 (by decide +kernel) ?_
      refine g_callSd (As := [.int (nI (ln)), .int (nI (1)), .int (nI (99))]) (rest := []) K (cX6_in_k (g_z X) S ln 1 99 (by omega) (by omega) (by omega)) (va_cwS 3 K.1.2.2.2.2 gX6_addPipe_X6_in rfl rfl rfl (by decide +kernel) ⟨Nat.le_trans (Nat.le_of_ble_eq_true rfl) hRf, Nat.le_trans (Nat.le_of_ble_eq_true rfl) hRl⟩) rfl rfl (Nat.le_of_ble_eq_true rfl) dX6_addPipe_32 ?_
      have hf32_6 := inF_spec ln 1 99
      refine g_if_eq (tgt := 53) (a := inF ln 1 99) K dX6_addPipe_35 (by decide) (by omega) (fun h35_7 => ?_) (fun h35_7 => ?_)
      · refine g_iconst K 0 dX6_addPipe_53 (by decide +kernel) ?_
        refine g_istore (lo' := [(6, .int (nI (0))), (5, .int (nI (0))), (0, .ref (g_ad X 22)), (1, .int (nI (x))), (2, .int (nI (y))), (3, .int (nI (ln))), (4, .int (nI (cu)))]) K dX6_addPipe_54 (by decide) rfl ?_
        refine g_aload_n K 2 dX6_addPipe_56 rfl ?_
        refine g_iload K 1 dX6_addPipe_57 rfl ?_
        refine g_if_ne (tgt := 66) (a := 0) K dX6_addPipe_59 (by decide) (by omega) (fun h59_8 => absurd h59_8 (by omega)) (fun h59_8 => ?_)
        refine g_iconst K 1 dX6_addPipe_62 (by decide +kernel) ?_
        refine g_goto (tgt := 89) K dX6_addPipe_63 (by decide) ?_
        refine g_callVd (q := 22) (ci := 6) (As := [.int (nI (1))]) (rest := []) (C := RX6) (T := TX6) (N := 17) K (cX6_refused_k (g_z X) S 1 (by omega)) (cwV 1 K.1.2.2.2.2 gX6_addPipe_X6_refused rfl rfl rfl (by decide +kernel) ⟨Nat.le_trans (Nat.le_of_ble_eq_true rfl) hRf, Nat.le_trans (Nat.le_of_ble_eq_true rfl) hRl⟩) rfl rfl rfl rfl (Nat.le_of_ble_eq_true rfl) dX6_addPipe_89 ?_
        refine g_cast (S' := (va_up S 22 (va_up (S 22) 0 (1)))) rfl rfl rfl ?_
        refine g_if_eq (tgt := 97) (a := 1) K dX6_addPipe_92 (by decide) (by omega) (fun h92_9 => absurd h92_9 (by omega)) (fun h92_9 => ?_)
        refine g_iconst K 0 dX6_addPipe_95 (by decide +kernel) ?_
        exfalso; omega
      · refine g_iload K 5 dX6_addPipe_38 rfl ?_
        refine g_iconst K 0 dX6_addPipe_40 (by decide +kernel) ?_
        refine g_bipush K 99 dX6_addPipe_41 (by decide +kernel) ?_
        refine g_callSd (As := [.int (nI (cu)), .int (nI (0)), .int (nI (99))]) (rest := []) K (cX6_in_k (g_z X) S cu 0 99 (by omega) (by omega) (by omega)) (va_cwS 3 K.1.2.2.2.2 gX6_addPipe_X6_in rfl rfl rfl (by decide +kernel) ⟨Nat.le_trans (Nat.le_of_ble_eq_true rfl) hRf, Nat.le_trans (Nat.le_of_ble_eq_true rfl) hRl⟩) rfl rfl (Nat.le_of_ble_eq_true rfl) dX6_addPipe_43 ?_
        have hf43_10 := inF_spec cu 0 99
        refine g_if_eq (tgt := 53) (a := inF cu 0 99) K dX6_addPipe_46 (by decide) (by omega) (fun h46_11 => ?_) (fun h46_11 => ?_)
        · refine g_iconst K 0 dX6_addPipe_53 (by decide +kernel) ?_
          refine g_istore (lo' := [(6, .int (nI (0))), (5, .int (nI (0))), (0, .ref (g_ad X 22)), (1, .int (nI (x))), (2, .int (nI (y))), (3, .int (nI (ln))), (4, .int (nI (cu)))]) K dX6_addPipe_54 (by decide) rfl ?_
          refine g_aload_n K 2 dX6_addPipe_56 rfl ?_
          refine g_iload K 1 dX6_addPipe_57 rfl ?_
          refine g_if_ne (tgt := 66) (a := 0) K dX6_addPipe_59 (by decide) (by omega) (fun h59_12 => absurd h59_12 (by omega)) (fun h59_12 => ?_)
          refine g_iconst K 1 dX6_addPipe_62 (by decide +kernel) ?_
          refine g_goto (tgt := 89) K dX6_addPipe_63 (by decide) ?_
          refine g_callVd (q := 22) (ci := 6) (As := [.int (nI (1))]) (rest := []) (C := RX6) (T := TX6) (N := 17) K (cX6_refused_k (g_z X) S 1 (by omega)) (cwV 1 K.1.2.2.2.2 gX6_addPipe_X6_refused rfl rfl rfl (by decide +kernel) ⟨Nat.le_trans (Nat.le_of_ble_eq_true rfl) hRf, Nat.le_trans (Nat.le_of_ble_eq_true rfl) hRl⟩) rfl rfl rfl rfl (Nat.le_of_ble_eq_true rfl) dX6_addPipe_89 ?_
          refine g_cast (S' := (va_up S 22 (va_up (S 22) 0 (1)))) rfl rfl rfl ?_
          refine g_if_eq (tgt := 97) (a := 1) K dX6_addPipe_92 (by decide) (by omega) (fun h92_13 => absurd h92_13 (by omega)) (fun h92_13 => ?_)
          refine g_iconst K 0 dX6_addPipe_95 (by decide +kernel) ?_
          exfalso; omega
        · refine g_iconst K 1 dX6_addPipe_49 (by decide +kernel) ?_
          refine g_goto (tgt := 54) K dX6_addPipe_50 (by decide) ?_
          refine g_istore (lo' := [(6, .int (nI (1))), (5, .int (nI (0))), (0, .ref (g_ad X 22)), (1, .int (nI (x))), (2, .int (nI (y))), (3, .int (nI (ln))), (4, .int (nI (cu)))]) K dX6_addPipe_54 (by decide) rfl ?_
          refine g_aload_n K 2 dX6_addPipe_56 rfl ?_
          refine g_iload K 1 dX6_addPipe_57 rfl ?_
          refine g_if_ne (tgt := 66) (a := 0) K dX6_addPipe_59 (by decide) (by omega) (fun h59_14 => absurd h59_14 (by omega)) (fun h59_14 => ?_)
          refine g_iconst K 1 dX6_addPipe_62 (by decide +kernel) ?_
          refine g_goto (tgt := 89) K dX6_addPipe_63 (by decide) ?_
          refine g_callVd (q := 22) (ci := 6) (As := [.int (nI (1))]) (rest := []) (C := RX6) (T := TX6) (N := 17) K (cX6_refused_k (g_z X) S 1 (by omega)) (cwV 1 K.1.2.2.2.2 gX6_addPipe_X6_refused rfl rfl rfl (by decide +kernel) ⟨Nat.le_trans (Nat.le_of_ble_eq_true rfl) hRf, Nat.le_trans (Nat.le_of_ble_eq_true rfl) hRl⟩) rfl rfl rfl rfl (Nat.le_of_ble_eq_true rfl) dX6_addPipe_89 ?_
          refine g_cast (S' := (va_up S 22 (va_up (S 22) 0 (1)))) rfl rfl rfl ?_
          refine g_if_eq (tgt := 97) (a := 1) K dX6_addPipe_92 (by decide) (by omega) (fun h92_15 => absurd h92_15 (by omega)) (fun h92_15 => ?_)
          refine g_iconst K 0 dX6_addPipe_95 (by decide +kernel) ?_
          exfalso; omega
  · refine g_aload_n K 0 dX6_addPipe_8 rfl ?_
    refine g_iload_n K 2 dX6_addPipe_9 rfl ?_
    refine g_callVd (q := 22) (ci := 6) (As := [.int (nI (y))]) (rest := []) (C := RX6) (T := TX6) (N := 17) K (cX6_isNode_k (g_z X) S y (hm) (by omega)) (cwV 1 K.1.2.2.2.2 gX6_addPipe_X6_isNode rfl rfl rfl (by decide +kernel) ⟨Nat.le_trans (Nat.le_of_ble_eq_true rfl) hRf, Nat.le_trans (Nat.le_of_ble_eq_true rfl) hRl⟩) rfl rfl rfl rfl (Nat.le_of_ble_eq_true rfl) dX6_addPipe_10 ?_
    have hf10_16 := isN_spec (S 22 1) y
    refine g_if_eq (tgt := 20) (a := isN (S 22 1) y) K dX6_addPipe_13 (by decide) (by omega) (fun h13_17 => ?_) (fun h13_17 => ?_)
    · refine g_iconst K 0 dX6_addPipe_20 (by decide +kernel) ?_
      refine g_istore (lo' := [(5, .int (nI (0))), (0, .ref (g_ad X 22)), (1, .int (nI (x))), (2, .int (nI (y))), (3, .int (nI (ln))), (4, .int (nI (cu)))]) K dX6_addPipe_21 (by decide) rfl ?_
      refine g_iload_n K 2 dX6_addPipe_23 rfl ?_
      refine g_iload_n K 3 dX6_addPipe_24 rfl ?_
      refine g_icmp_eq (tgt := 53) (a := x) (b := y) K dX6_addPipe_25 (by decide) (by omega) (by omega) (fun h25_18 => ?_) (fun h25_18 => ?_)
      · refine g_iconst K 0 dX6_addPipe_53 (by decide +kernel) ?_
        refine g_istore (lo' := [(6, .int (nI (0))), (5, .int (nI (0))), (0, .ref (g_ad X 22)), (1, .int (nI (x))), (2, .int (nI (y))), (3, .int (nI (ln))), (4, .int (nI (cu)))]) K dX6_addPipe_54 (by decide) rfl ?_
        refine g_aload_n K 2 dX6_addPipe_56 rfl ?_
        refine g_iload K 1 dX6_addPipe_57 rfl ?_
        refine g_if_ne (tgt := 66) (a := 0) K dX6_addPipe_59 (by decide) (by omega) (fun h59_19 => absurd h59_19 (by omega)) (fun h59_19 => ?_)
        refine g_iconst K 1 dX6_addPipe_62 (by decide +kernel) ?_
        refine g_goto (tgt := 89) K dX6_addPipe_63 (by decide) ?_
        refine g_callVd (q := 22) (ci := 6) (As := [.int (nI (1))]) (rest := []) (C := RX6) (T := TX6) (N := 17) K (cX6_refused_k (g_z X) S 1 (by omega)) (cwV 1 K.1.2.2.2.2 gX6_addPipe_X6_refused rfl rfl rfl (by decide +kernel) ⟨Nat.le_trans (Nat.le_of_ble_eq_true rfl) hRf, Nat.le_trans (Nat.le_of_ble_eq_true rfl) hRl⟩) rfl rfl rfl rfl (Nat.le_of_ble_eq_true rfl) dX6_addPipe_89 ?_
        refine g_cast (S' := (va_up S 22 (va_up (S 22) 0 (1)))) rfl rfl rfl ?_
        refine g_if_eq (tgt := 97) (a := 1) K dX6_addPipe_92 (by decide) (by omega) (fun h92_20 => absurd h92_20 (by omega)) (fun h92_20 => ?_)
        refine g_iconst K 0 dX6_addPipe_95 (by decide +kernel) ?_
        exfalso; omega
      · refine g_iload_n K 4 dX6_addPipe_28 rfl ?_
        refine g_iconst K 1 dX6_addPipe_29 (by decide +kernel) ?_
        refine g_bipush K 99 dX6_addPipe_30 (by decide +kernel) ?_
        refine g_callSd (As := [.int (nI (ln)), .int (nI (1)), .int (nI (99))]) (rest := []) K (cX6_in_k (g_z X) S ln 1 99 (by omega) (by omega) (by omega)) (va_cwS 3 K.1.2.2.2.2 gX6_addPipe_X6_in rfl rfl rfl (by decide +kernel) ⟨Nat.le_trans (Nat.le_of_ble_eq_true rfl) hRf, Nat.le_trans (Nat.le_of_ble_eq_true rfl) hRl⟩) rfl rfl (Nat.le_of_ble_eq_true rfl) dX6_addPipe_32 ?_
        have hf32_21 := inF_spec ln 1 99
        refine g_if_eq (tgt := 53) (a := inF ln 1 99) K dX6_addPipe_35 (by decide) (by omega) (fun h35_22 => ?_) (fun h35_22 => ?_)
        · refine g_iconst K 0 dX6_addPipe_53 (by decide +kernel) ?_
          refine g_istore (lo' := [(6, .int (nI (0))), (5, .int (nI (0))), (0, .ref (g_ad X 22)), (1, .int (nI (x))), (2, .int (nI (y))), (3, .int (nI (ln))), (4, .int (nI (cu)))]) K dX6_addPipe_54 (by decide) rfl ?_
          refine g_aload_n K 2 dX6_addPipe_56 rfl ?_
          refine g_iload K 1 dX6_addPipe_57 rfl ?_
          refine g_if_ne (tgt := 66) (a := 0) K dX6_addPipe_59 (by decide) (by omega) (fun h59_23 => absurd h59_23 (by omega)) (fun h59_23 => ?_)
          refine g_iconst K 1 dX6_addPipe_62 (by decide +kernel) ?_
          refine g_goto (tgt := 89) K dX6_addPipe_63 (by decide) ?_
          refine g_callVd (q := 22) (ci := 6) (As := [.int (nI (1))]) (rest := []) (C := RX6) (T := TX6) (N := 17) K (cX6_refused_k (g_z X) S 1 (by omega)) (cwV 1 K.1.2.2.2.2 gX6_addPipe_X6_refused rfl rfl rfl (by decide +kernel) ⟨Nat.le_trans (Nat.le_of_ble_eq_true rfl) hRf, Nat.le_trans (Nat.le_of_ble_eq_true rfl) hRl⟩) rfl rfl rfl rfl (Nat.le_of_ble_eq_true rfl) dX6_addPipe_89 ?_
          refine g_cast (S' := (va_up S 22 (va_up (S 22) 0 (1)))) rfl rfl rfl ?_
          refine g_if_eq (tgt := 97) (a := 1) K dX6_addPipe_92 (by decide) (by omega) (fun h92_24 => absurd h92_24 (by omega)) (fun h92_24 => ?_)
          refine g_iconst K 0 dX6_addPipe_95 (by decide +kernel) ?_
          exfalso; omega
        · refine g_iload K 5 dX6_addPipe_38 rfl ?_
          refine g_iconst K 0 dX6_addPipe_40 (by decide +kernel) ?_
          refine g_bipush K 99 dX6_addPipe_41 (by decide +kernel) ?_
          refine g_callSd (As := [.int (nI (cu)), .int (nI (0)), .int (nI (99))]) (rest := []) K (cX6_in_k (g_z X) S cu 0 99 (by omega) (by omega) (by omega)) (va_cwS 3 K.1.2.2.2.2 gX6_addPipe_X6_in rfl rfl rfl (by decide +kernel) ⟨Nat.le_trans (Nat.le_of_ble_eq_true rfl) hRf, Nat.le_trans (Nat.le_of_ble_eq_true rfl) hRl⟩) rfl rfl (Nat.le_of_ble_eq_true rfl) dX6_addPipe_43 ?_
          have hf43_25 := inF_spec cu 0 99
          refine g_if_eq (tgt := 53) (a := inF cu 0 99) K dX6_addPipe_46 (by decide) (by omega) (fun h46_26 => ?_) (fun h46_26 => ?_)
          · refine g_iconst K 0 dX6_addPipe_53 (by decide +kernel) ?_
            refine g_istore (lo' := [(6, .int (nI (0))), (5, .int (nI (0))), (0, .ref (g_ad X 22)), (1, .int (nI (x))), (2, .int (nI (y))), (3, .int (nI (ln))), (4, .int (nI (cu)))]) K dX6_addPipe_54 (by decide) rfl ?_
            refine g_aload_n K 2 dX6_addPipe_56 rfl ?_
            refine g_iload K 1 dX6_addPipe_57 rfl ?_
            refine g_if_ne (tgt := 66) (a := 0) K dX6_addPipe_59 (by decide) (by omega) (fun h59_27 => absurd h59_27 (by omega)) (fun h59_27 => ?_)
            refine g_iconst K 1 dX6_addPipe_62 (by decide +kernel) ?_
            refine g_goto (tgt := 89) K dX6_addPipe_63 (by decide) ?_
            refine g_callVd (q := 22) (ci := 6) (As := [.int (nI (1))]) (rest := []) (C := RX6) (T := TX6) (N := 17) K (cX6_refused_k (g_z X) S 1 (by omega)) (cwV 1 K.1.2.2.2.2 gX6_addPipe_X6_refused rfl rfl rfl (by decide +kernel) ⟨Nat.le_trans (Nat.le_of_ble_eq_true rfl) hRf, Nat.le_trans (Nat.le_of_ble_eq_true rfl) hRl⟩) rfl rfl rfl rfl (Nat.le_of_ble_eq_true rfl) dX6_addPipe_89 ?_
            refine g_cast (S' := (va_up S 22 (va_up (S 22) 0 (1)))) rfl rfl rfl ?_
            refine g_if_eq (tgt := 97) (a := 1) K dX6_addPipe_92 (by decide) (by omega) (fun h92_28 => absurd h92_28 (by omega)) (fun h92_28 => ?_)
            refine g_iconst K 0 dX6_addPipe_95 (by decide +kernel) ?_
            exfalso; omega
          · refine g_iconst K 1 dX6_addPipe_49 (by decide +kernel) ?_
            refine g_goto (tgt := 54) K dX6_addPipe_50 (by decide) ?_
            refine g_istore (lo' := [(6, .int (nI (1))), (5, .int (nI (0))), (0, .ref (g_ad X 22)), (1, .int (nI (x))), (2, .int (nI (y))), (3, .int (nI (ln))), (4, .int (nI (cu)))]) K dX6_addPipe_54 (by decide) rfl ?_
            refine g_aload_n K 2 dX6_addPipe_56 rfl ?_
            refine g_iload K 1 dX6_addPipe_57 rfl ?_
            refine g_if_ne (tgt := 66) (a := 0) K dX6_addPipe_59 (by decide) (by omega) (fun h59_29 => absurd h59_29 (by omega)) (fun h59_29 => ?_)
            refine g_iconst K 1 dX6_addPipe_62 (by decide +kernel) ?_
            refine g_goto (tgt := 89) K dX6_addPipe_63 (by decide) ?_
            refine g_callVd (q := 22) (ci := 6) (As := [.int (nI (1))]) (rest := []) (C := RX6) (T := TX6) (N := 17) K (cX6_refused_k (g_z X) S 1 (by omega)) (cwV 1 K.1.2.2.2.2 gX6_addPipe_X6_refused rfl rfl rfl (by decide +kernel) ⟨Nat.le_trans (Nat.le_of_ble_eq_true rfl) hRf, Nat.le_trans (Nat.le_of_ble_eq_true rfl) hRl⟩) rfl rfl rfl rfl (Nat.le_of_ble_eq_true rfl) dX6_addPipe_89 ?_
            refine g_cast (S' := (va_up S 22 (va_up (S 22) 0 (1)))) rfl rfl rfl ?_
            refine g_if_eq (tgt := 97) (a := 1) K dX6_addPipe_92 (by decide) (by omega) (fun h92_30 => absurd h92_30 (by omega)) (fun h92_30 => ?_)
            refine g_iconst K 0 dX6_addPipe_95 (by decide +kernel) ?_
            exfalso; omega
    · refine g_iconst K 1 dX6_addPipe_16 (by decide +kernel) ?_
      refine g_goto (tgt := 21) K dX6_addPipe_17 (by decide) ?_
      refine g_istore (lo' := [(5, .int (nI (1))), (0, .ref (g_ad X 22)), (1, .int (nI (x))), (2, .int (nI (y))), (3, .int (nI (ln))), (4, .int (nI (cu)))]) K dX6_addPipe_21 (by decide) rfl ?_
      refine g_iload_n K 2 dX6_addPipe_23 rfl ?_
      refine g_iload_n K 3 dX6_addPipe_24 rfl ?_
      refine g_icmp_eq (tgt := 53) (a := x) (b := y) K dX6_addPipe_25 (by decide) (by omega) (by omega) (fun h25_31 => ?_) (fun h25_31 => ?_)
      · refine g_iconst K 0 dX6_addPipe_53 (by decide +kernel) ?_
        refine g_istore (lo' := [(6, .int (nI (0))), (5, .int (nI (1))), (0, .ref (g_ad X 22)), (1, .int (nI (x))), (2, .int (nI (y))), (3, .int (nI (ln))), (4, .int (nI (cu)))]) K dX6_addPipe_54 (by decide) rfl ?_
        refine g_aload_n K 2 dX6_addPipe_56 rfl ?_
        refine g_iload K 1 dX6_addPipe_57 rfl ?_
        refine g_if_ne (tgt := 66) (a := 1) K dX6_addPipe_59 (by decide) (by omega) (fun h59_32 => ?_) (fun h59_32 => absurd h59_32 (by omega))
        refine g_iload K 0 dX6_addPipe_66 rfl ?_
        refine g_if_ne (tgt := 75) (a := 0) K dX6_addPipe_68 (by decide) (by omega) (fun h68_33 => absurd h68_33 (by omega)) (fun h68_33 => ?_)
        refine g_iconst K 2 dX6_addPipe_71 (by decide +kernel) ?_
        refine g_goto (tgt := 89) K dX6_addPipe_72 (by decide) ?_
        refine g_callVd (q := 22) (ci := 6) (As := [.int (nI (2))]) (rest := []) (C := RX6) (T := TX6) (N := 17) K (cX6_refused_k (g_z X) S 2 (by omega)) (cwV 1 K.1.2.2.2.2 gX6_addPipe_X6_refused rfl rfl rfl (by decide +kernel) ⟨Nat.le_trans (Nat.le_of_ble_eq_true rfl) hRf, Nat.le_trans (Nat.le_of_ble_eq_true rfl) hRl⟩) rfl rfl rfl rfl (Nat.le_of_ble_eq_true rfl) dX6_addPipe_89 ?_
        refine g_cast (S' := (va_up S 22 (va_up (S 22) 0 (2)))) rfl rfl rfl ?_
        refine g_if_eq (tgt := 97) (a := 1) K dX6_addPipe_92 (by decide) (by omega) (fun h92_34 => absurd h92_34 (by omega)) (fun h92_34 => ?_)
        refine g_iconst K 0 dX6_addPipe_95 (by decide +kernel) ?_
        exfalso; omega
      · refine g_iload_n K 4 dX6_addPipe_28 rfl ?_
        refine g_iconst K 1 dX6_addPipe_29 (by decide +kernel) ?_
        refine g_bipush K 99 dX6_addPipe_30 (by decide +kernel) ?_
        refine g_callSd (As := [.int (nI (ln)), .int (nI (1)), .int (nI (99))]) (rest := []) K (cX6_in_k (g_z X) S ln 1 99 (by omega) (by omega) (by omega)) (va_cwS 3 K.1.2.2.2.2 gX6_addPipe_X6_in rfl rfl rfl (by decide +kernel) ⟨Nat.le_trans (Nat.le_of_ble_eq_true rfl) hRf, Nat.le_trans (Nat.le_of_ble_eq_true rfl) hRl⟩) rfl rfl (Nat.le_of_ble_eq_true rfl) dX6_addPipe_32 ?_
        have hf32_35 := inF_spec ln 1 99
        refine g_if_eq (tgt := 53) (a := inF ln 1 99) K dX6_addPipe_35 (by decide) (by omega) (fun h35_36 => ?_) (fun h35_36 => ?_)
        · refine g_iconst K 0 dX6_addPipe_53 (by decide +kernel) ?_
          refine g_istore (lo' := [(6, .int (nI (0))), (5, .int (nI (1))), (0, .ref (g_ad X 22)), (1, .int (nI (x))), (2, .int (nI (y))), (3, .int (nI (ln))), (4, .int (nI (cu)))]) K dX6_addPipe_54 (by decide) rfl ?_
          refine g_aload_n K 2 dX6_addPipe_56 rfl ?_
          refine g_iload K 1 dX6_addPipe_57 rfl ?_
          refine g_if_ne (tgt := 66) (a := 1) K dX6_addPipe_59 (by decide) (by omega) (fun h59_37 => ?_) (fun h59_37 => absurd h59_37 (by omega))
          refine g_iload K 0 dX6_addPipe_66 rfl ?_
          refine g_if_ne (tgt := 75) (a := 0) K dX6_addPipe_68 (by decide) (by omega) (fun h68_38 => absurd h68_38 (by omega)) (fun h68_38 => ?_)
          refine g_iconst K 2 dX6_addPipe_71 (by decide +kernel) ?_
          refine g_goto (tgt := 89) K dX6_addPipe_72 (by decide) ?_
          refine g_callVd (q := 22) (ci := 6) (As := [.int (nI (2))]) (rest := []) (C := RX6) (T := TX6) (N := 17) K (cX6_refused_k (g_z X) S 2 (by omega)) (cwV 1 K.1.2.2.2.2 gX6_addPipe_X6_refused rfl rfl rfl (by decide +kernel) ⟨Nat.le_trans (Nat.le_of_ble_eq_true rfl) hRf, Nat.le_trans (Nat.le_of_ble_eq_true rfl) hRl⟩) rfl rfl rfl rfl (Nat.le_of_ble_eq_true rfl) dX6_addPipe_89 ?_
          refine g_cast (S' := (va_up S 22 (va_up (S 22) 0 (2)))) rfl rfl rfl ?_
          refine g_if_eq (tgt := 97) (a := 1) K dX6_addPipe_92 (by decide) (by omega) (fun h92_39 => absurd h92_39 (by omega)) (fun h92_39 => ?_)
          refine g_iconst K 0 dX6_addPipe_95 (by decide +kernel) ?_
          exfalso; omega
        · refine g_iload K 5 dX6_addPipe_38 rfl ?_
          refine g_iconst K 0 dX6_addPipe_40 (by decide +kernel) ?_
          refine g_bipush K 99 dX6_addPipe_41 (by decide +kernel) ?_
          refine g_callSd (As := [.int (nI (cu)), .int (nI (0)), .int (nI (99))]) (rest := []) K (cX6_in_k (g_z X) S cu 0 99 (by omega) (by omega) (by omega)) (va_cwS 3 K.1.2.2.2.2 gX6_addPipe_X6_in rfl rfl rfl (by decide +kernel) ⟨Nat.le_trans (Nat.le_of_ble_eq_true rfl) hRf, Nat.le_trans (Nat.le_of_ble_eq_true rfl) hRl⟩) rfl rfl (Nat.le_of_ble_eq_true rfl) dX6_addPipe_43 ?_
          have hf43_40 := inF_spec cu 0 99
          refine g_if_eq (tgt := 53) (a := inF cu 0 99) K dX6_addPipe_46 (by decide) (by omega) (fun h46_41 => ?_) (fun h46_41 => ?_)
          · refine g_iconst K 0 dX6_addPipe_53 (by decide +kernel) ?_
            refine g_istore (lo' := [(6, .int (nI (0))), (5, .int (nI (1))), (0, .ref (g_ad X 22)), (1, .int (nI (x))), (2, .int (nI (y))), (3, .int (nI (ln))), (4, .int (nI (cu)))]) K dX6_addPipe_54 (by decide) rfl ?_
            refine g_aload_n K 2 dX6_addPipe_56 rfl ?_
            refine g_iload K 1 dX6_addPipe_57 rfl ?_
            refine g_if_ne (tgt := 66) (a := 1) K dX6_addPipe_59 (by decide) (by omega) (fun h59_42 => ?_) (fun h59_42 => absurd h59_42 (by omega))
            refine g_iload K 0 dX6_addPipe_66 rfl ?_
            refine g_if_ne (tgt := 75) (a := 0) K dX6_addPipe_68 (by decide) (by omega) (fun h68_43 => absurd h68_43 (by omega)) (fun h68_43 => ?_)
            refine g_iconst K 2 dX6_addPipe_71 (by decide +kernel) ?_
            refine g_goto (tgt := 89) K dX6_addPipe_72 (by decide) ?_
            refine g_callVd (q := 22) (ci := 6) (As := [.int (nI (2))]) (rest := []) (C := RX6) (T := TX6) (N := 17) K (cX6_refused_k (g_z X) S 2 (by omega)) (cwV 1 K.1.2.2.2.2 gX6_addPipe_X6_refused rfl rfl rfl (by decide +kernel) ⟨Nat.le_trans (Nat.le_of_ble_eq_true rfl) hRf, Nat.le_trans (Nat.le_of_ble_eq_true rfl) hRl⟩) rfl rfl rfl rfl (Nat.le_of_ble_eq_true rfl) dX6_addPipe_89 ?_
            refine g_cast (S' := (va_up S 22 (va_up (S 22) 0 (2)))) rfl rfl rfl ?_
            refine g_if_eq (tgt := 97) (a := 1) K dX6_addPipe_92 (by decide) (by omega) (fun h92_44 => absurd h92_44 (by omega)) (fun h92_44 => ?_)
            refine g_iconst K 0 dX6_addPipe_95 (by decide +kernel) ?_
            exfalso; omega
          · refine g_iconst K 1 dX6_addPipe_49 (by decide +kernel) ?_
            refine g_goto (tgt := 54) K dX6_addPipe_50 (by decide) ?_
            refine g_istore (lo' := [(6, .int (nI (1))), (5, .int (nI (1))), (0, .ref (g_ad X 22)), (1, .int (nI (x))), (2, .int (nI (y))), (3, .int (nI (ln))), (4, .int (nI (cu)))]) K dX6_addPipe_54 (by decide) rfl ?_
            refine g_aload_n K 2 dX6_addPipe_56 rfl ?_
            refine g_iload K 1 dX6_addPipe_57 rfl ?_
            refine g_if_ne (tgt := 66) (a := 1) K dX6_addPipe_59 (by decide) (by omega) (fun h59_45 => ?_) (fun h59_45 => absurd h59_45 (by omega))
            refine g_iload K 0 dX6_addPipe_66 rfl ?_
            refine g_if_ne (tgt := 75) (a := 1) K dX6_addPipe_68 (by decide) (by omega) (fun h68_46 => ?_) (fun h68_46 => absurd h68_46 (by omega))
            refine g_aload_n K 2 dX6_addPipe_75 rfl ?_
            refine g_getI (q := 22) (ci := 6) (k := 2) (N := 17) (C := RX6) (T := TX6) (ref := "ValveWalkModel") K rfl rfl rfl (by decide) hin6 (by decide +kernel) rfl dX6_addPipe_76 ?_
            refine g_bipush K 16 dX6_addPipe_79 (by decide +kernel) ?_
            refine g_icmp_ne (tgt := 88) (a := S 22 2) (b := 16) K dX6_addPipe_81 (by decide) (by omega) (by omega) (fun h81_47 => ?_) (fun h81_47 => ?_)
            · refine g_iconst K 0 dX6_addPipe_88 (by decide +kernel) ?_
              refine g_callVd (q := 22) (ci := 6) (As := [.int (nI (0))]) (rest := []) (C := RX6) (T := TX6) (N := 17) K (cX6_refused_k (g_z X) S 0 (by omega)) (cwV 1 K.1.2.2.2.2 gX6_addPipe_X6_refused rfl rfl rfl (by decide +kernel) ⟨Nat.le_trans (Nat.le_of_ble_eq_true rfl) hRf, Nat.le_trans (Nat.le_of_ble_eq_true rfl) hRl⟩) rfl rfl rfl rfl (Nat.le_of_ble_eq_true rfl) dX6_addPipe_89 ?_
              refine g_cast (S' := (va_up S 22 (va_up (S 22) 0 (0)))) rfl rfl rfl ?_
              refine g_if_eq (tgt := 97) (a := 0) K dX6_addPipe_92 (by decide) (by omega) (fun h92_48 => ?_) (fun h92_48 => absurd h92_48 (by omega))
              exfalso; omega
            · refine g_iconst K 3 dX6_addPipe_84 (by decide +kernel) ?_
              refine g_goto (tgt := 89) K dX6_addPipe_85 (by decide) ?_
              refine g_callVd (q := 22) (ci := 6) (As := [.int (nI (3))]) (rest := []) (C := RX6) (T := TX6) (N := 17) K (cX6_refused_k (g_z X) S 3 (by omega)) (cwV 1 K.1.2.2.2.2 gX6_addPipe_X6_refused rfl rfl rfl (by decide +kernel) ⟨Nat.le_trans (Nat.le_of_ble_eq_true rfl) hRf, Nat.le_trans (Nat.le_of_ble_eq_true rfl) hRl⟩) rfl rfl rfl rfl (Nat.le_of_ble_eq_true rfl) dX6_addPipe_89 ?_
              refine g_cast (S' := (va_up S 22 (va_up (S 22) 0 (3)))) rfl rfl rfl ?_
              refine g_if_eq (tgt := 97) (a := 1) K dX6_addPipe_92 (by decide) (by omega) (fun h92_49 => absurd h92_49 (by omega)) (fun h92_49 => ?_)
              refine g_iconst K 0 dX6_addPipe_95 (by decide +kernel) ?_
              exact g_retd hret dX6_addPipe_96 rfl rfl

set_option maxHeartbeats 4000000 in
set_option maxRecDepth 100000 in
theorem cX6_addValve_k (Z : gZ) (S : Nat → Nat → Nat) (p e : Nat) (hm : wfM S) (hup : p < 4294967296) (hue : e < 4294967296) (hp : p < S 22 2) (he : e < 2) (hv : S 24 (2 * p + e) = 4294967295) (h3 : S 22 3 < 12) : gMd Z yX6_addValve wsX6_addValve { frames := 2, cells := 0, slots := 0, locals := 43 } [.ref (gz_ad Z 22), .int (nI (p)), .int (nI (e))] S (S 22 3) (va_up (va_up (va_up S 22 (va_up (va_up (S 22) 0 0) 3 (S 22 3 + 1))) 24 (va_up (S 24) (2 * p + e) (S 22 3))) 27 (va_up (S 27) (S 22 3) (2 * p + e))) := by
  refine gMd_of (cc := cX6_addValve) (maxL := 5) (ret := (some .int)) (by decide +kernel) rfl (Nat.le_of_ble_eq_true rfl) (Or.inl rfl) (fun X hZ hR K hret => ?_)
  subst hZ
  have K : gOk X cX6_addValve 5 wsX6_addValve RX6 := K
  have hRf : 2 ≤ (g_R X).frames := gR_f hR rfl
  have hRl : 43 ≤ (g_R X).locals := gR_l hR rfl
  have hin6 : ∀ w ∈ u_ws RX6 TX6 17, w ∈ wsX6_addValve := by decide +kernel
  obtain ⟨m1, m2, m3, m4, msh, mst, b23, b24, b25, b26, b27⟩ := id hm
  show gG X 0 [(0, .ref (g_ad X 22)), (1, .int (nI (p))), (2, .int (nI (e)))] [] S
  refine g_iload_n K 2 dX6_addValve_0 rfl ?_
  refine g_iconst K 0 dX6_addValve_1 (by decide +kernel) ?_
  refine g_iconst K 1 dX6_addValve_2 (by decide +kernel) ?_
  refine g_callSd (As := [.int (nI (e)), .int (nI (0)), .int (nI (1))]) (rest := []) K (cX6_in_k (g_z X) S e 0 1 (by omega) (by omega) (by omega)) (va_cwS 3 K.1.2.2.2.2 gX6_addValve_X6_in rfl rfl rfl (by decide +kernel) ⟨Nat.le_trans (Nat.le_of_ble_eq_true rfl) hRf, Nat.le_trans (Nat.le_of_ble_eq_true rfl) hRl⟩) rfl rfl (Nat.le_of_ble_eq_true rfl) dX6_addValve_3 ?_
  have hf3_1 := inF_spec e 0 1
  refine g_istore_n (lo' := [(3, .int (nI (inF e 0 1))), (0, .ref (g_ad X 22)), (1, .int (nI (p))), (2, .int (nI (e)))]) K dX6_addValve_6 (by decide) rfl ?_
  refine g_aload_n K 1 dX6_addValve_7 rfl ?_
  refine g_iload_n K 2 dX6_addValve_8 rfl ?_
  refine g_callVd (q := 22) (ci := 6) (As := [.int (nI (p))]) (rest := []) (C := RX6) (T := TX6) (N := 17) K (cX6_isPipe_k (g_z X) S p (hm) (by omega)) (cwV 1 K.1.2.2.2.2 gX6_addValve_X6_isPipe rfl rfl rfl (by decide +kernel) ⟨Nat.le_trans (Nat.le_of_ble_eq_true rfl) hRf, Nat.le_trans (Nat.le_of_ble_eq_true rfl) hRl⟩) rfl rfl rfl rfl (Nat.le_of_ble_eq_true rfl) dX6_addValve_9 ?_
  have hf9_2 := isN_spec (S 22 2) p
  refine g_if_eq (tgt := 46) (a := isN (S 22 2) p) K dX6_addValve_12 (by decide) (by omega) (fun h12_3 => ?_) (fun h12_3 => ?_)
  · refine g_iconst K 0 dX6_addValve_46 (by decide +kernel) ?_
    refine g_istore (lo' := [(4, .int (nI (0))), (3, .int (nI (inF e 0 1))), (0, .ref (g_ad X 22)), (1, .int (nI (p))), (2, .int (nI (e)))]) K dX6_addValve_47 (by decide) rfl ?_
    refine g_aload_n K 2 dX6_addValve_49 rfl ?_
    refine g_aload_n K 2 dX6_addValve_50 rfl ?_
    refine g_iload_n K 3 dX6_addValve_51 rfl ?_
    refine g_callVd (q := 22) (ci := 6) (As := [.int (nI (p))]) (rest := [.ref (g_ad X 22)]) (C := RX6) (T := TX6) (N := 17) K (cX6_isPipe_k (g_z X) S p (hm) (by omega)) (cwV 1 K.1.2.2.2.2 gX6_addValve_X6_isPipe rfl rfl rfl (by decide +kernel) ⟨Nat.le_trans (Nat.le_of_ble_eq_true rfl) hRf, Nat.le_trans (Nat.le_of_ble_eq_true rfl) hRl⟩) rfl rfl rfl rfl (Nat.le_of_ble_eq_true rfl) dX6_addValve_52 ?_
    have hf52_4 := isN_spec (S 22 2) p
    refine g_if_ne (tgt := 62) (a := isN (S 22 2) p) K dX6_addValve_55 (by decide) (by omega) (fun h55_5 => ?_) (fun h55_5 => ?_)
    · refine g_iload_n K 1 dX6_addValve_62 rfl ?_
      refine g_if_ne (tgt := 70) (a := inF e 0 1) K dX6_addValve_63 (by decide) (by omega) (fun h63_6 => ?_) (fun h63_6 => ?_)
      · refine g_iload K 0 dX6_addValve_70 rfl ?_
        refine g_if_eq (tgt := 79) (a := 0) K dX6_addValve_72 (by decide) (by omega) (fun h72_7 => ?_) (fun h72_7 => absurd h72_7 (by omega))
        refine g_iconst K 3 dX6_addValve_79 (by decide +kernel) ?_
        refine g_callVd (q := 22) (ci := 6) (As := [.int (nI (3))]) (rest := []) (C := RX6) (T := TX6) (N := 17) K (cX6_refused_k (g_z X) S 3 (by omega)) (cwV 1 K.1.2.2.2.2 gX6_addValve_X6_refused rfl rfl rfl (by decide +kernel) ⟨Nat.le_trans (Nat.le_of_ble_eq_true rfl) hRf, Nat.le_trans (Nat.le_of_ble_eq_true rfl) hRl⟩) rfl rfl rfl rfl (Nat.le_of_ble_eq_true rfl) dX6_addValve_80 ?_
        refine g_cast (S' := (va_up S 22 (va_up (S 22) 0 (3)))) rfl rfl rfl ?_
        refine g_if_eq (tgt := 88) (a := 1) K dX6_addValve_83 (by decide) (by omega) (fun h83_8 => absurd h83_8 (by omega)) (fun h83_8 => ?_)
        exfalso; omega
      · refine g_iconst K 2 dX6_addValve_66 (by decide +kernel) ?_
        refine g_goto (tgt := 80) K dX6_addValve_67 (by decide) ?_
        refine g_callVd (q := 22) (ci := 6) (As := [.int (nI (2))]) (rest := []) (C := RX6) (T := TX6) (N := 17) K (cX6_refused_k (g_z X) S 2 (by omega)) (cwV 1 K.1.2.2.2.2 gX6_addValve_X6_refused rfl rfl rfl (by decide +kernel) ⟨Nat.le_trans (Nat.le_of_ble_eq_true rfl) hRf, Nat.le_trans (Nat.le_of_ble_eq_true rfl) hRl⟩) rfl rfl rfl rfl (Nat.le_of_ble_eq_true rfl) dX6_addValve_80 ?_
        refine g_cast (S' := (va_up S 22 (va_up (S 22) 0 (2)))) rfl rfl rfl ?_
        refine g_if_eq (tgt := 88) (a := 1) K dX6_addValve_83 (by decide) (by omega) (fun h83_9 => absurd h83_9 (by omega)) (fun h83_9 => ?_)
        exfalso; omega
    · refine g_iconst K 1 dX6_addValve_58 (by decide +kernel) ?_
      refine g_goto (tgt := 80) K dX6_addValve_59 (by decide) ?_
      refine g_callVd (q := 22) (ci := 6) (As := [.int (nI (1))]) (rest := []) (C := RX6) (T := TX6) (N := 17) K (cX6_refused_k (g_z X) S 1 (by omega)) (cwV 1 K.1.2.2.2.2 gX6_addValve_X6_refused rfl rfl rfl (by decide +kernel) ⟨Nat.le_trans (Nat.le_of_ble_eq_true rfl) hRf, Nat.le_trans (Nat.le_of_ble_eq_true rfl) hRl⟩) rfl rfl rfl rfl (Nat.le_of_ble_eq_true rfl) dX6_addValve_80 ?_
      refine g_cast (S' := (va_up S 22 (va_up (S 22) 0 (1)))) rfl rfl rfl ?_
      refine g_if_eq (tgt := 88) (a := 1) K dX6_addValve_83 (by decide) (by omega) (fun h83_10 => absurd h83_10 (by omega)) (fun h83_10 => ?_)
      exfalso; omega
  · refine g_iload_n K 0 dX6_addValve_15 rfl ?_
    refine g_if_eq (tgt := 46) (a := inF e 0 1) K dX6_addValve_16 (by decide) (by omega) (fun h16_11 => ?_) (fun h16_11 => ?_)
    · refine g_iconst K 0 dX6_addValve_46 (by decide +kernel) ?_
      refine g_istore (lo' := [(4, .int (nI (0))), (3, .int (nI (inF e 0 1))), (0, .ref (g_ad X 22)), (1, .int (nI (p))), (2, .int (nI (e)))]) K dX6_addValve_47 (by decide) rfl ?_
      refine g_aload_n K 2 dX6_addValve_49 rfl ?_
      refine g_aload_n K 2 dX6_addValve_50 rfl ?_
      refine g_iload_n K 3 dX6_addValve_51 rfl ?_
      refine g_callVd (q := 22) (ci := 6) (As := [.int (nI (p))]) (rest := [.ref (g_ad X 22)]) (C := RX6) (T := TX6) (N := 17) K (cX6_isPipe_k (g_z X) S p (hm) (by omega)) (cwV 1 K.1.2.2.2.2 gX6_addValve_X6_isPipe rfl rfl rfl (by decide +kernel) ⟨Nat.le_trans (Nat.le_of_ble_eq_true rfl) hRf, Nat.le_trans (Nat.le_of_ble_eq_true rfl) hRl⟩) rfl rfl rfl rfl (Nat.le_of_ble_eq_true rfl) dX6_addValve_52 ?_
      have hf52_12 := isN_spec (S 22 2) p
      refine g_if_ne (tgt := 62) (a := isN (S 22 2) p) K dX6_addValve_55 (by decide) (by omega) (fun h55_13 => ?_) (fun h55_13 => ?_)
      · refine g_iload_n K 1 dX6_addValve_62 rfl ?_
        refine g_if_ne (tgt := 70) (a := inF e 0 1) K dX6_addValve_63 (by decide) (by omega) (fun h63_14 => ?_) (fun h63_14 => ?_)
        · refine g_iload K 0 dX6_addValve_70 rfl ?_
          refine g_if_eq (tgt := 79) (a := 0) K dX6_addValve_72 (by decide) (by omega) (fun h72_15 => ?_) (fun h72_15 => absurd h72_15 (by omega))
          refine g_iconst K 3 dX6_addValve_79 (by decide +kernel) ?_
          refine g_callVd (q := 22) (ci := 6) (As := [.int (nI (3))]) (rest := []) (C := RX6) (T := TX6) (N := 17) K (cX6_refused_k (g_z X) S 3 (by omega)) (cwV 1 K.1.2.2.2.2 gX6_addValve_X6_refused rfl rfl rfl (by decide +kernel) ⟨Nat.le_trans (Nat.le_of_ble_eq_true rfl) hRf, Nat.le_trans (Nat.le_of_ble_eq_true rfl) hRl⟩) rfl rfl rfl rfl (Nat.le_of_ble_eq_true rfl) dX6_addValve_80 ?_
          refine g_cast (S' := (va_up S 22 (va_up (S 22) 0 (3)))) rfl rfl rfl ?_
          refine g_if_eq (tgt := 88) (a := 1) K dX6_addValve_83 (by decide) (by omega) (fun h83_16 => absurd h83_16 (by omega)) (fun h83_16 => ?_)
          exfalso; omega
        · refine g_iconst K 2 dX6_addValve_66 (by decide +kernel) ?_
          refine g_goto (tgt := 80) K dX6_addValve_67 (by decide) ?_
          refine g_callVd (q := 22) (ci := 6) (As := [.int (nI (2))]) (rest := []) (C := RX6) (T := TX6) (N := 17) K (cX6_refused_k (g_z X) S 2 (by omega)) (cwV 1 K.1.2.2.2.2 gX6_addValve_X6_refused rfl rfl rfl (by decide +kernel) ⟨Nat.le_trans (Nat.le_of_ble_eq_true rfl) hRf, Nat.le_trans (Nat.le_of_ble_eq_true rfl) hRl⟩) rfl rfl rfl rfl (Nat.le_of_ble_eq_true rfl) dX6_addValve_80 ?_
          refine g_cast (S' := (va_up S 22 (va_up (S 22) 0 (2)))) rfl rfl rfl ?_
          refine g_if_eq (tgt := 88) (a := 1) K dX6_addValve_83 (by decide) (by omega) (fun h83_17 => absurd h83_17 (by omega)) (fun h83_17 => ?_)
          exfalso; omega
      · refine g_iconst K 1 dX6_addValve_58 (by decide +kernel) ?_
        refine g_goto (tgt := 80) K dX6_addValve_59 (by decide) ?_
        refine g_callVd (q := 22) (ci := 6) (As := [.int (nI (1))]) (rest := []) (C := RX6) (T := TX6) (N := 17) K (cX6_refused_k (g_z X) S 1 (by omega)) (cwV 1 K.1.2.2.2.2 gX6_addValve_X6_refused rfl rfl rfl (by decide +kernel) ⟨Nat.le_trans (Nat.le_of_ble_eq_true rfl) hRf, Nat.le_trans (Nat.le_of_ble_eq_true rfl) hRl⟩) rfl rfl rfl rfl (Nat.le_of_ble_eq_true rfl) dX6_addValve_80 ?_
        refine g_cast (S' := (va_up S 22 (va_up (S 22) 0 (1)))) rfl rfl rfl ?_
        refine g_if_eq (tgt := 88) (a := 1) K dX6_addValve_83 (by decide) (by omega) (fun h83_18 => absurd h83_18 (by omega)) (fun h83_18 => ?_)
        exfalso; omega
    · refine g_aload_n K 1 dX6_addValve_19 rfl ?_
      refine g_getR (q' := 24) (q := 22) (ci := 6) (k := 6) (N := 17) (C := RX6) (T := TX6) (ref := "ValveWalkModel") K rfl rfl rfl (by decide) hin6 (by decide +kernel) rfl dX6_addValve_20 ?_
      refine g_iconst K 2 dX6_addValve_23 (by decide +kernel) ?_
      refine g_iload_n K 2 dX6_addValve_24 rfl ?_
      refine g_imul (a := 2) (b := p) K dX6_addValve_25 ?_
      refine g_iload_n K 3 dX6_addValve_26 rfl ?_
      refine g_iadd (a := (2) * (p)) (b := e) K dX6_addValve_27 ?_
      refine g_ald (q := 24) (n := 32) (i := ((2) * (p)) + (e)) K rfl (by decide) (by omega) dX6_addValve_28 ?_
      have hv28_19 := b24 (((2) * (p)) + (e))
      have h24 := b24 (2 * p + e)
      refine g_iconst K 4294967295 dX6_addValve_29 (by decide +kernel) ?_
      refine g_icmp_ne (tgt := 46) (a := S 24 (((2) * (p)) + (e))) (b := 4294967295) K dX6_addValve_30 (by decide) (by omega) (by omega) (fun h30_20 => ?_) (fun h30_20 => ?_)
      · refine g_iconst K 0 dX6_addValve_46 (by decide +kernel) ?_
        refine g_istore (lo' := [(4, .int (nI (0))), (3, .int (nI (inF e 0 1))), (0, .ref (g_ad X 22)), (1, .int (nI (p))), (2, .int (nI (e)))]) K dX6_addValve_47 (by decide) rfl ?_
        refine g_aload_n K 2 dX6_addValve_49 rfl ?_
        refine g_aload_n K 2 dX6_addValve_50 rfl ?_
        refine g_iload_n K 3 dX6_addValve_51 rfl ?_
        refine g_callVd (q := 22) (ci := 6) (As := [.int (nI (p))]) (rest := [.ref (g_ad X 22)]) (C := RX6) (T := TX6) (N := 17) K (cX6_isPipe_k (g_z X) S p (hm) (by omega)) (cwV 1 K.1.2.2.2.2 gX6_addValve_X6_isPipe rfl rfl rfl (by decide +kernel) ⟨Nat.le_trans (Nat.le_of_ble_eq_true rfl) hRf, Nat.le_trans (Nat.le_of_ble_eq_true rfl) hRl⟩) rfl rfl rfl rfl (Nat.le_of_ble_eq_true rfl) dX6_addValve_52 ?_
        have hf52_21 := isN_spec (S 22 2) p
        refine g_if_ne (tgt := 62) (a := isN (S 22 2) p) K dX6_addValve_55 (by decide) (by omega) (fun h55_22 => ?_) (fun h55_22 => ?_)
        · refine g_iload_n K 1 dX6_addValve_62 rfl ?_
          refine g_if_ne (tgt := 70) (a := inF e 0 1) K dX6_addValve_63 (by decide) (by omega) (fun h63_23 => ?_) (fun h63_23 => ?_)
          · refine g_iload K 0 dX6_addValve_70 rfl ?_
            refine g_if_eq (tgt := 79) (a := 0) K dX6_addValve_72 (by decide) (by omega) (fun h72_24 => ?_) (fun h72_24 => absurd h72_24 (by omega))
            refine g_iconst K 3 dX6_addValve_79 (by decide +kernel) ?_
            refine g_callVd (q := 22) (ci := 6) (As := [.int (nI (3))]) (rest := []) (C := RX6) (T := TX6) (N := 17) K (cX6_refused_k (g_z X) S 3 (by omega)) (cwV 1 K.1.2.2.2.2 gX6_addValve_X6_refused rfl rfl rfl (by decide +kernel) ⟨Nat.le_trans (Nat.le_of_ble_eq_true rfl) hRf, Nat.le_trans (Nat.le_of_ble_eq_true rfl) hRl⟩) rfl rfl rfl rfl (Nat.le_of_ble_eq_true rfl) dX6_addValve_80 ?_
            refine g_cast (S' := (va_up S 22 (va_up (S 22) 0 (3)))) rfl rfl rfl ?_
            refine g_if_eq (tgt := 88) (a := 1) K dX6_addValve_83 (by decide) (by omega) (fun h83_25 => absurd h83_25 (by omega)) (fun h83_25 => ?_)
            exfalso; omega
          · refine g_iconst K 2 dX6_addValve_66 (by decide +kernel) ?_
            refine g_goto (tgt := 80) K dX6_addValve_67 (by decide) ?_
            refine g_callVd (q := 22) (ci := 6) (As := [.int (nI (2))]) (rest := []) (C := RX6) (T := TX6) (N := 17) K (cX6_refused_k (g_z X) S 2 (by omega)) (cwV 1 K.1.2.2.2.2 gX6_addValve_X6_refused rfl rfl rfl (by decide +kernel) ⟨Nat.le_trans (Nat.le_of_ble_eq_true rfl) hRf, Nat.le_trans (Nat.le_of_ble_eq_true rfl) hRl⟩) rfl rfl rfl rfl (Nat.le_of_ble_eq_true rfl) dX6_addValve_80 ?_
            refine g_cast (S' := (va_up S 22 (va_up (S 22) 0 (2)))) rfl rfl rfl ?_
            refine g_if_eq (tgt := 88) (a := 1) K dX6_addValve_83 (by decide) (by omega) (fun h83_26 => absurd h83_26 (by omega)) (fun h83_26 => ?_)
            exfalso; omega
        · refine g_iconst K 1 dX6_addValve_58 (by decide +kernel) ?_
          refine g_goto (tgt := 80) K dX6_addValve_59 (by decide) ?_
          refine g_callVd (q := 22) (ci := 6) (As := [.int (nI (1))]) (rest := []) (C := RX6) (T := TX6) (N := 17) K (cX6_refused_k (g_z X) S 1 (by omega)) (cwV 1 K.1.2.2.2.2 gX6_addValve_X6_refused rfl rfl rfl (by decide +kernel) ⟨Nat.le_trans (Nat.le_of_ble_eq_true rfl) hRf, Nat.le_trans (Nat.le_of_ble_eq_true rfl) hRl⟩) rfl rfl rfl rfl (Nat.le_of_ble_eq_true rfl) dX6_addValve_80 ?_
          refine g_cast (S' := (va_up S 22 (va_up (S 22) 0 (1)))) rfl rfl rfl ?_
          refine g_if_eq (tgt := 88) (a := 1) K dX6_addValve_83 (by decide) (by omega) (fun h83_27 => absurd h83_27 (by omega)) (fun h83_27 => ?_)
          exfalso; omega
      · refine g_aload_n K 1 dX6_addValve_33 rfl ?_
        refine g_getI (q := 22) (ci := 6) (k := 3) (N := 17) (C := RX6) (T := TX6) (ref := "ValveWalkModel") K rfl rfl rfl (by decide) hin6 (by decide +kernel) rfl dX6_addValve_34 ?_
        refine g_bipush K 12 dX6_addValve_37 (by decide +kernel) ?_
        refine g_icmp_ge (tgt := 46) (a := S 22 3) (b := 12) K dX6_addValve_39 (by decide) (by omega) (by omega) (fun h39_28 => ?_) (fun h39_28 => ?_)
        · refine g_iconst K 0 dX6_addValve_46 (by decide +kernel) ?_
          refine g_istore (lo' := [(4, .int (nI (0))), (3, .int (nI (inF e 0 1))), (0, .ref (g_ad X 22)), (1, .int (nI (p))), (2, .int (nI (e)))]) K dX6_addValve_47 (by decide) rfl ?_
          refine g_aload_n K 2 dX6_addValve_49 rfl ?_
          refine g_aload_n K 2 dX6_addValve_50 rfl ?_
          refine g_iload_n K 3 dX6_addValve_51 rfl ?_
          refine g_callVd (q := 22) (ci := 6) (As := [.int (nI (p))]) (rest := [.ref (g_ad X 22)]) (C := RX6) (T := TX6) (N := 17) K (cX6_isPipe_k (g_z X) S p (hm) (by omega)) (cwV 1 K.1.2.2.2.2 gX6_addValve_X6_isPipe rfl rfl rfl (by decide +kernel) ⟨Nat.le_trans (Nat.le_of_ble_eq_true rfl) hRf, Nat.le_trans (Nat.le_of_ble_eq_true rfl) hRl⟩) rfl rfl rfl rfl (Nat.le_of_ble_eq_true rfl) dX6_addValve_52 ?_
          have hf52_29 := isN_spec (S 22 2) p
          refine g_if_ne (tgt := 62) (a := isN (S 22 2) p) K dX6_addValve_55 (by decide) (by omega) (fun h55_30 => ?_) (fun h55_30 => ?_)
          · refine g_iload_n K 1 dX6_addValve_62 rfl ?_
            refine g_if_ne (tgt := 70) (a := inF e 0 1) K dX6_addValve_63 (by decide) (by omega) (fun h63_31 => ?_) (fun h63_31 => ?_)
            · refine g_iload K 0 dX6_addValve_70 rfl ?_
              refine g_if_eq (tgt := 79) (a := 0) K dX6_addValve_72 (by decide) (by omega) (fun h72_32 => ?_) (fun h72_32 => absurd h72_32 (by omega))
              refine g_iconst K 3 dX6_addValve_79 (by decide +kernel) ?_
              refine g_callVd (q := 22) (ci := 6) (As := [.int (nI (3))]) (rest := []) (C := RX6) (T := TX6) (N := 17) K (cX6_refused_k (g_z X) S 3 (by omega)) (cwV 1 K.1.2.2.2.2 gX6_addValve_X6_refused rfl rfl rfl (by decide +kernel) ⟨Nat.le_trans (Nat.le_of_ble_eq_true rfl) hRf, Nat.le_trans (Nat.le_of_ble_eq_true rfl) hRl⟩) rfl rfl rfl rfl (Nat.le_of_ble_eq_true rfl) dX6_addValve_80 ?_
              refine g_cast (S' := (va_up S 22 (va_up (S 22) 0 (3)))) rfl rfl rfl ?_
              refine g_if_eq (tgt := 88) (a := 1) K dX6_addValve_83 (by decide) (by omega) (fun h83_33 => absurd h83_33 (by omega)) (fun h83_33 => ?_)
              exfalso; omega
            · refine g_iconst K 2 dX6_addValve_66 (by decide +kernel) ?_
              refine g_goto (tgt := 80) K dX6_addValve_67 (by decide) ?_
              refine g_callVd (q := 22) (ci := 6) (As := [.int (nI (2))]) (rest := []) (C := RX6) (T := TX6) (N := 17) K (cX6_refused_k (g_z X) S 2 (by omega)) (cwV 1 K.1.2.2.2.2 gX6_addValve_X6_refused rfl rfl rfl (by decide +kernel) ⟨Nat.le_trans (Nat.le_of_ble_eq_true rfl) hRf, Nat.le_trans (Nat.le_of_ble_eq_true rfl) hRl⟩) rfl rfl rfl rfl (Nat.le_of_ble_eq_true rfl) dX6_addValve_80 ?_
              refine g_cast (S' := (va_up S 22 (va_up (S 22) 0 (2)))) rfl rfl rfl ?_
              refine g_if_eq (tgt := 88) (a := 1) K dX6_addValve_83 (by decide) (by omega) (fun h83_34 => absurd h83_34 (by omega)) (fun h83_34 => ?_)
              exfalso; omega
          · refine g_iconst K 1 dX6_addValve_58 (by decide +kernel) ?_
            refine g_goto (tgt := 80) K dX6_addValve_59 (by decide) ?_
            refine g_callVd (q := 22) (ci := 6) (As := [.int (nI (1))]) (rest := []) (C := RX6) (T := TX6) (N := 17) K (cX6_refused_k (g_z X) S 1 (by omega)) (cwV 1 K.1.2.2.2.2 gX6_addValve_X6_refused rfl rfl rfl (by decide +kernel) ⟨Nat.le_trans (Nat.le_of_ble_eq_true rfl) hRf, Nat.le_trans (Nat.le_of_ble_eq_true rfl) hRl⟩) rfl rfl rfl rfl (Nat.le_of_ble_eq_true rfl) dX6_addValve_80 ?_
            refine g_cast (S' := (va_up S 22 (va_up (S 22) 0 (1)))) rfl rfl rfl ?_
            refine g_if_eq (tgt := 88) (a := 1) K dX6_addValve_83 (by decide) (by omega) (fun h83_35 => absurd h83_35 (by omega)) (fun h83_35 => ?_)
            exfalso; omega
        · refine g_iconst K 1 dX6_addValve_42 (by decide +kernel) ?_
          refine g_goto (tgt := 47) K dX6_addValve_43 (by decide) ?_
          refine g_istore (lo' := [(4, .int (nI (1))), (3, .int (nI (inF e 0 1))), (0, .ref (g_ad X 22)), (1, .int (nI (p))), (2, .int (nI (e)))]) K dX6_addValve_47 (by decide) rfl ?_
          refine g_aload_n K 2 dX6_addValve_49 rfl ?_
          refine g_aload_n K 2 dX6_addValve_50 rfl ?_
          refine g_iload_n K 3 dX6_addValve_51 rfl ?_
          refine g_callVd (q := 22) (ci := 6) (As := [.int (nI (p))]) (rest := [.ref (g_ad X 22)]) (C := RX6) (T := TX6) (N := 17) K (cX6_isPipe_k (g_z X) S p (hm) (by omega)) (cwV 1 K.1.2.2.2.2 gX6_addValve_X6_isPipe rfl rfl rfl (by decide +kernel) ⟨Nat.le_trans (Nat.le_of_ble_eq_true rfl) hRf, Nat.le_trans (Nat.le_of_ble_eq_true rfl) hRl⟩) rfl rfl rfl rfl (Nat.le_of_ble_eq_true rfl) dX6_addValve_52 ?_
          have hf52_36 := isN_spec (S 22 2) p
          refine g_if_ne (tgt := 62) (a := isN (S 22 2) p) K dX6_addValve_55 (by decide) (by omega) (fun h55_37 => ?_) (fun h55_37 => ?_)
          · refine g_iload_n K 1 dX6_addValve_62 rfl ?_
            refine g_if_ne (tgt := 70) (a := inF e 0 1) K dX6_addValve_63 (by decide) (by omega) (fun h63_38 => ?_) (fun h63_38 => ?_)
            · refine g_iload K 0 dX6_addValve_70 rfl ?_
              refine g_if_eq (tgt := 79) (a := 1) K dX6_addValve_72 (by decide) (by omega) (fun h72_39 => absurd h72_39 (by omega)) (fun h72_39 => ?_)
              refine g_iconst K 0 dX6_addValve_75 (by decide +kernel) ?_
              refine g_goto (tgt := 80) K dX6_addValve_76 (by decide) ?_
              refine g_callVd (q := 22) (ci := 6) (As := [.int (nI (0))]) (rest := []) (C := RX6) (T := TX6) (N := 17) K (cX6_refused_k (g_z X) S 0 (by omega)) (cwV 1 K.1.2.2.2.2 gX6_addValve_X6_refused rfl rfl rfl (by decide +kernel) ⟨Nat.le_trans (Nat.le_of_ble_eq_true rfl) hRf, Nat.le_trans (Nat.le_of_ble_eq_true rfl) hRl⟩) rfl rfl rfl rfl (Nat.le_of_ble_eq_true rfl) dX6_addValve_80 ?_
              refine g_cast (S' := (va_up S 22 (va_up (S 22) 0 (0)))) rfl rfl rfl ?_
              refine g_if_eq (tgt := 88) (a := 0) K dX6_addValve_83 (by decide) (by omega) (fun h83_40 => ?_) (fun h83_40 => absurd h83_40 (by omega))
              refine g_cast (S' := (va_up (va_up S 22 (va_up (S 22) 0 (0))) 24 (S 24))) rfl rfl (up_id1 _ 24).symm ?_
              refine g_cast (S' := (va_up (va_up (va_up S 22 (va_up (S 22) 0 (0))) 24 (S 24)) 27 (S 27))) rfl rfl (up_id1 _ 27).symm ?_
              refine g_aload_n K 2 dX6_addValve_88 rfl ?_
              refine g_getR (q' := 24) (q := 22) (ci := 6) (k := 6) (N := 17) (C := RX6) (T := TX6) (ref := "ValveWalkModel") K rfl rfl rfl (by decide) hin6 (by decide +kernel) rfl dX6_addValve_89 ?_
              refine g_iconst K 2 dX6_addValve_92 (by decide +kernel) ?_
              refine g_iload_n K 3 dX6_addValve_93 rfl ?_
              refine g_imul (a := 2) (b := p) K dX6_addValve_94 ?_
              refine g_iload_n K 4 dX6_addValve_95 rfl ?_
              refine g_iadd (a := (2) * (p)) (b := e) K dX6_addValve_96 ?_
              refine g_aload_n K 2 dX6_addValve_97 rfl ?_
              refine g_getI (q := 22) (ci := 6) (k := 3) (N := 17) (C := RX6) (T := TX6) (ref := "ValveWalkModel") K rfl rfl rfl (by decide) hin6 (by decide +kernel) rfl dX6_addValve_98 ?_
              refine g_topE (S 22 3) rfl ?_
              refine g_ast (q := 24) (n := 32) (i := ((2) * (p)) + (e)) (a := S 22 3) K rfl (by decide) (by omega) dX6_addValve_101 ?_
              refine g_cast (S' := (va_up (va_up (va_up S 22 (va_up (S 22) 0 (0))) 24 (va_up (S 24) (((2) * (p)) + (e)) (S 22 3))) 27 (S 27))) rfl rfl (gup_w3b (by decide) (by decide) (by decide)) ?_
              refine g_aload_n K 2 dX6_addValve_102 rfl ?_
              refine g_getR (q' := 27) (q := 22) (ci := 6) (k := 9) (N := 17) (C := RX6) (T := TX6) (ref := "ValveWalkModel") K rfl rfl rfl (by decide) hin6 (by decide +kernel) rfl dX6_addValve_103 ?_
              refine g_aload_n K 2 dX6_addValve_106 rfl ?_
              refine g_getI (q := 22) (ci := 6) (k := 3) (N := 17) (C := RX6) (T := TX6) (ref := "ValveWalkModel") K rfl rfl rfl (by decide) hin6 (by decide +kernel) rfl dX6_addValve_107 ?_
              refine g_topE (S 22 3) rfl ?_
              refine g_iconst K 2 dX6_addValve_110 (by decide +kernel) ?_
              refine g_iload_n K 3 dX6_addValve_111 rfl ?_
              refine g_imul (a := 2) (b := p) K dX6_addValve_112 ?_
              refine g_iload_n K 4 dX6_addValve_113 rfl ?_
              refine g_iadd (a := (2) * (p)) (b := e) K dX6_addValve_114 ?_
              refine g_ast (q := 27) (n := 12) (i := S 22 3) (a := ((2) * (p)) + (e)) K rfl (by decide) (by omega) dX6_addValve_115 ?_
              refine g_cast (S' := (va_up (va_up (va_up S 22 (va_up (S 22) 0 (0))) 24 (va_up (S 24) (((2) * (p)) + (e)) (S 22 3))) 27 (va_up (S 27) (S 22 3) (((2) * (p)) + (e))))) rfl rfl (gup_w3c (by decide) (by decide) (by decide)) ?_
              refine g_aload_n K 2 dX6_addValve_116 rfl ?_
              refine g_dup K dX6_addValve_117 rfl ?_
              refine g_getI (q := 22) (ci := 6) (k := 3) (N := 17) (C := RX6) (T := TX6) (ref := "ValveWalkModel") K rfl rfl rfl (by decide) hin6 (by decide +kernel) rfl dX6_addValve_118 ?_
              refine g_topE (S 22 3) rfl ?_
              refine g_iconst K 1 dX6_addValve_121 (by decide +kernel) ?_
              refine g_iadd (a := S 22 3) (b := 1) K dX6_addValve_122 ?_
              refine g_putI (q := 22) (ci := 6) (k := 3) (N := 17) (C := RX6) (T := TX6) (ref := "ValveWalkModel") (a := (S 22 3) + (1)) K rfl rfl rfl (by decide) hin6 tyX6_ok nmX6 (by decide +kernel) rfl rfl (by decide +kernel) dX6_addValve_123 ?_
              refine g_cast (S' := (va_up (va_up (va_up S 22 (va_up (va_up (S 22) 0 (0)) 3 ((S 22 3) + (1)))) 24 (va_up (S 24) (((2) * (p)) + (e)) (S 22 3))) 27 (va_up (S 27) (S 22 3) (((2) * (p)) + (e))))) rfl rfl (gup_w3a (by decide) (by decide) (by decide)) ?_
              refine g_aload_n K 2 dX6_addValve_126 rfl ?_
              refine g_getI (q := 22) (ci := 6) (k := 3) (N := 17) (C := RX6) (T := TX6) (ref := "ValveWalkModel") K rfl rfl rfl (by decide) hin6 (by decide +kernel) rfl dX6_addValve_127 ?_
              refine g_topE ((S 22 3) + (1)) rfl ?_
              refine g_iconst K 1 dX6_addValve_130 (by decide +kernel) ?_
              refine g_isub (a := (S 22 3) + (1)) (b := 1) K (by omega) dX6_addValve_131 ?_
              exact g_retd hret dX6_addValve_132 (by omega) rfl
            · refine g_iconst K 2 dX6_addValve_66 (by decide +kernel) ?_
              refine g_goto (tgt := 80) K dX6_addValve_67 (by decide) ?_
              refine g_callVd (q := 22) (ci := 6) (As := [.int (nI (2))]) (rest := []) (C := RX6) (T := TX6) (N := 17) K (cX6_refused_k (g_z X) S 2 (by omega)) (cwV 1 K.1.2.2.2.2 gX6_addValve_X6_refused rfl rfl rfl (by decide +kernel) ⟨Nat.le_trans (Nat.le_of_ble_eq_true rfl) hRf, Nat.le_trans (Nat.le_of_ble_eq_true rfl) hRl⟩) rfl rfl rfl rfl (Nat.le_of_ble_eq_true rfl) dX6_addValve_80 ?_
              refine g_cast (S' := (va_up S 22 (va_up (S 22) 0 (2)))) rfl rfl rfl ?_
              refine g_if_eq (tgt := 88) (a := 1) K dX6_addValve_83 (by decide) (by omega) (fun h83_41 => absurd h83_41 (by omega)) (fun h83_41 => ?_)
              exfalso; omega
          · refine g_iconst K 1 dX6_addValve_58 (by decide +kernel) ?_
            refine g_goto (tgt := 80) K dX6_addValve_59 (by decide) ?_
            refine g_callVd (q := 22) (ci := 6) (As := [.int (nI (1))]) (rest := []) (C := RX6) (T := TX6) (N := 17) K (cX6_refused_k (g_z X) S 1 (by omega)) (cwV 1 K.1.2.2.2.2 gX6_addValve_X6_refused rfl rfl rfl (by decide +kernel) ⟨Nat.le_trans (Nat.le_of_ble_eq_true rfl) hRf, Nat.le_trans (Nat.le_of_ble_eq_true rfl) hRl⟩) rfl rfl rfl rfl (Nat.le_of_ble_eq_true rfl) dX6_addValve_80 ?_
            refine g_cast (S' := (va_up S 22 (va_up (S 22) 0 (1)))) rfl rfl rfl ?_
            refine g_if_eq (tgt := 88) (a := 1) K dX6_addValve_83 (by decide) (by omega) (fun h83_42 => absurd h83_42 (by omega)) (fun h83_42 => ?_)
            exfalso; omega

set_option maxHeartbeats 4000000 in
set_option maxRecDepth 100000 in
theorem cX6_addValve_r1 (Z : gZ) (S : Nat → Nat → Nat) (p e : Nat) (hm : wfM S) (hup : p < 4294967296) (hue : e < 4294967296) (hp : S 22 2 ≤ p) : gMd Z yX6_addValve wsX6_addValve { frames := 2, cells := 0, slots := 0, locals := 43 } [.ref (gz_ad Z 22), .int (nI (p)), .int (nI (e))] S (0) (va_up S 22 (va_up (S 22) 0 (1))) := by
  refine gMd_of (cc := cX6_addValve) (maxL := 5) (ret := (some .int)) (by decide +kernel) rfl (Nat.le_of_ble_eq_true rfl) (Or.inl rfl) (fun X hZ hR K hret => ?_)
  subst hZ
  have K : gOk X cX6_addValve 5 wsX6_addValve RX6 := K
  have hRf : 2 ≤ (g_R X).frames := gR_f hR rfl
  have hRl : 43 ≤ (g_R X).locals := gR_l hR rfl
  have hin6 : ∀ w ∈ u_ws RX6 TX6 17, w ∈ wsX6_addValve := by decide +kernel
  obtain ⟨m1, m2, m3, m4, msh, mst, b23, b24, b25, b26, b27⟩ := id hm
  show gG X 0 [(0, .ref (g_ad X 22)), (1, .int (nI (p))), (2, .int (nI (e)))] [] S
  refine g_iload_n K 2 dX6_addValve_0 rfl ?_
  refine g_iconst K 0 dX6_addValve_1 (by decide +kernel) ?_
  refine g_iconst K 1 dX6_addValve_2 (by decide +kernel) ?_
  refine g_callSd (As := [.int (nI (e)), .int (nI (0)), .int (nI (1))]) (rest := []) K (cX6_in_k (g_z X) S e 0 1 (by omega) (by omega) (by omega)) (va_cwS 3 K.1.2.2.2.2 gX6_addValve_X6_in rfl rfl rfl (by decide +kernel) ⟨Nat.le_trans (Nat.le_of_ble_eq_true rfl) hRf, Nat.le_trans (Nat.le_of_ble_eq_true rfl) hRl⟩) rfl rfl (Nat.le_of_ble_eq_true rfl) dX6_addValve_3 ?_
  have hf3_1 := inF_spec e 0 1
  refine g_istore_n (lo' := [(3, .int (nI (inF e 0 1))), (0, .ref (g_ad X 22)), (1, .int (nI (p))), (2, .int (nI (e)))]) K dX6_addValve_6 (by decide) rfl ?_
  refine g_aload_n K 1 dX6_addValve_7 rfl ?_
  refine g_iload_n K 2 dX6_addValve_8 rfl ?_
  refine g_callVd (q := 22) (ci := 6) (As := [.int (nI (p))]) (rest := []) (C := RX6) (T := TX6) (N := 17) K (cX6_isPipe_k (g_z X) S p (hm) (by omega)) (cwV 1 K.1.2.2.2.2 gX6_addValve_X6_isPipe rfl rfl rfl (by decide +kernel) ⟨Nat.le_trans (Nat.le_of_ble_eq_true rfl) hRf, Nat.le_trans (Nat.le_of_ble_eq_true rfl) hRl⟩) rfl rfl rfl rfl (Nat.le_of_ble_eq_true rfl) dX6_addValve_9 ?_
  have hf9_2 := isN_spec (S 22 2) p
  refine g_if_eq (tgt := 46) (a := isN (S 22 2) p) K dX6_addValve_12 (by decide) (by omega) (fun h12_3 => ?_) (fun h12_3 => ?_)
  · refine g_iconst K 0 dX6_addValve_46 (by decide +kernel) ?_
    refine g_istore (lo' := [(4, .int (nI (0))), (3, .int (nI (inF e 0 1))), (0, .ref (g_ad X 22)), (1, .int (nI (p))), (2, .int (nI (e)))]) K dX6_addValve_47 (by decide) rfl ?_
    refine g_aload_n K 2 dX6_addValve_49 rfl ?_
    refine g_aload_n K 2 dX6_addValve_50 rfl ?_
    refine g_iload_n K 3 dX6_addValve_51 rfl ?_
    refine g_callVd (q := 22) (ci := 6) (As := [.int (nI (p))]) (rest := [.ref (g_ad X 22)]) (C := RX6) (T := TX6) (N := 17) K (cX6_isPipe_k (g_z X) S p (hm) (by omega)) (cwV 1 K.1.2.2.2.2 gX6_addValve_X6_isPipe rfl rfl rfl (by decide +kernel) ⟨Nat.le_trans (Nat.le_of_ble_eq_true rfl) hRf, Nat.le_trans (Nat.le_of_ble_eq_true rfl) hRl⟩) rfl rfl rfl rfl (Nat.le_of_ble_eq_true rfl) dX6_addValve_52 ?_
    have hf52_4 := isN_spec (S 22 2) p
    refine g_if_ne (tgt := 62) (a := isN (S 22 2) p) K dX6_addValve_55 (by decide) (by omega) (fun h55_5 => ?_) (fun h55_5 => ?_)
    · refine g_iload_n K 1 dX6_addValve_62 rfl ?_
      refine g_if_ne (tgt := 70) (a := inF e 0 1) K dX6_addValve_63 (by decide) (by omega) (fun h63_6 => ?_) (fun h63_6 => ?_)
      · refine g_iload K 0 dX6_addValve_70 rfl ?_
        refine g_if_eq (tgt := 79) (a := 0) K dX6_addValve_72 (by decide) (by omega) (fun h72_7 => ?_) (fun h72_7 => absurd h72_7 (by omega))
        refine g_iconst K 3 dX6_addValve_79 (by decide +kernel) ?_
        refine g_callVd (q := 22) (ci := 6) (As := [.int (nI (3))]) (rest := []) (C := RX6) (T := TX6) (N := 17) K (cX6_refused_k (g_z X) S 3 (by omega)) (cwV 1 K.1.2.2.2.2 gX6_addValve_X6_refused rfl rfl rfl (by decide +kernel) ⟨Nat.le_trans (Nat.le_of_ble_eq_true rfl) hRf, Nat.le_trans (Nat.le_of_ble_eq_true rfl) hRl⟩) rfl rfl rfl rfl (Nat.le_of_ble_eq_true rfl) dX6_addValve_80 ?_
        refine g_cast (S' := (va_up S 22 (va_up (S 22) 0 (3)))) rfl rfl rfl ?_
        refine g_if_eq (tgt := 88) (a := 1) K dX6_addValve_83 (by decide) (by omega) (fun h83_8 => absurd h83_8 (by omega)) (fun h83_8 => ?_)
        refine g_iconst K 0 dX6_addValve_86 (by decide +kernel) ?_
        exfalso; omega
      · refine g_iconst K 2 dX6_addValve_66 (by decide +kernel) ?_
        refine g_goto (tgt := 80) K dX6_addValve_67 (by decide) ?_
        refine g_callVd (q := 22) (ci := 6) (As := [.int (nI (2))]) (rest := []) (C := RX6) (T := TX6) (N := 17) K (cX6_refused_k (g_z X) S 2 (by omega)) (cwV 1 K.1.2.2.2.2 gX6_addValve_X6_refused rfl rfl rfl (by decide +kernel) ⟨Nat.le_trans (Nat.le_of_ble_eq_true rfl) hRf, Nat.le_trans (Nat.le_of_ble_eq_true rfl) hRl⟩) rfl rfl rfl rfl (Nat.le_of_ble_eq_true rfl) dX6_addValve_80 ?_
        refine g_cast (S' := (va_up S 22 (va_up (S 22) 0 (2)))) rfl rfl rfl ?_
        refine g_if_eq (tgt := 88) (a := 1) K dX6_addValve_83 (by decide) (by omega) (fun h83_9 => absurd h83_9 (by omega)) (fun h83_9 => ?_)
        refine g_iconst K 0 dX6_addValve_86 (by decide +kernel) ?_
        exfalso; omega
    · refine g_iconst K 1 dX6_addValve_58 (by decide +kernel) ?_
      refine g_goto (tgt := 80) K dX6_addValve_59 (by decide) ?_
      refine g_callVd (q := 22) (ci := 6) (As := [.int (nI (1))]) (rest := []) (C := RX6) (T := TX6) (N := 17) K (cX6_refused_k (g_z X) S 1 (by omega)) (cwV 1 K.1.2.2.2.2 gX6_addValve_X6_refused rfl rfl rfl (by decide +kernel) ⟨Nat.le_trans (Nat.le_of_ble_eq_true rfl) hRf, Nat.le_trans (Nat.le_of_ble_eq_true rfl) hRl⟩) rfl rfl rfl rfl (Nat.le_of_ble_eq_true rfl) dX6_addValve_80 ?_
      refine g_cast (S' := (va_up S 22 (va_up (S 22) 0 (1)))) rfl rfl rfl ?_
      refine g_if_eq (tgt := 88) (a := 1) K dX6_addValve_83 (by decide) (by omega) (fun h83_10 => absurd h83_10 (by omega)) (fun h83_10 => ?_)
      refine g_iconst K 0 dX6_addValve_86 (by decide +kernel) ?_
      exact g_retd hret dX6_addValve_87 rfl rfl
  · refine g_iload_n K 0 dX6_addValve_15 rfl ?_
    refine g_if_eq (tgt := 46) (a := inF e 0 1) K dX6_addValve_16 (by decide) (by omega) (fun h16_11 => ?_) (fun h16_11 => ?_)
    · refine g_iconst K 0 dX6_addValve_46 (by decide +kernel) ?_
      refine g_istore (lo' := [(4, .int (nI (0))), (3, .int (nI (inF e 0 1))), (0, .ref (g_ad X 22)), (1, .int (nI (p))), (2, .int (nI (e)))]) K dX6_addValve_47 (by decide) rfl ?_
      refine g_aload_n K 2 dX6_addValve_49 rfl ?_
      refine g_aload_n K 2 dX6_addValve_50 rfl ?_
      refine g_iload_n K 3 dX6_addValve_51 rfl ?_
      refine g_callVd (q := 22) (ci := 6) (As := [.int (nI (p))]) (rest := [.ref (g_ad X 22)]) (C := RX6) (T := TX6) (N := 17) K (cX6_isPipe_k (g_z X) S p (hm) (by omega)) (cwV 1 K.1.2.2.2.2 gX6_addValve_X6_isPipe rfl rfl rfl (by decide +kernel) ⟨Nat.le_trans (Nat.le_of_ble_eq_true rfl) hRf, Nat.le_trans (Nat.le_of_ble_eq_true rfl) hRl⟩) rfl rfl rfl rfl (Nat.le_of_ble_eq_true rfl) dX6_addValve_52 ?_
      have hf52_12 := isN_spec (S 22 2) p
      refine g_if_ne (tgt := 62) (a := isN (S 22 2) p) K dX6_addValve_55 (by decide) (by omega) (fun h55_13 => ?_) (fun h55_13 => ?_)
      · refine g_iload_n K 1 dX6_addValve_62 rfl ?_
        refine g_if_ne (tgt := 70) (a := inF e 0 1) K dX6_addValve_63 (by decide) (by omega) (fun h63_14 => ?_) (fun h63_14 => ?_)
        · refine g_iload K 0 dX6_addValve_70 rfl ?_
          refine g_if_eq (tgt := 79) (a := 0) K dX6_addValve_72 (by decide) (by omega) (fun h72_15 => ?_) (fun h72_15 => absurd h72_15 (by omega))
          refine g_iconst K 3 dX6_addValve_79 (by decide +kernel) ?_
          refine g_callVd (q := 22) (ci := 6) (As := [.int (nI (3))]) (rest := []) (C := RX6) (T := TX6) (N := 17) K (cX6_refused_k (g_z X) S 3 (by omega)) (cwV 1 K.1.2.2.2.2 gX6_addValve_X6_refused rfl rfl rfl (by decide +kernel) ⟨Nat.le_trans (Nat.le_of_ble_eq_true rfl) hRf, Nat.le_trans (Nat.le_of_ble_eq_true rfl) hRl⟩) rfl rfl rfl rfl (Nat.le_of_ble_eq_true rfl) dX6_addValve_80 ?_
          refine g_cast (S' := (va_up S 22 (va_up (S 22) 0 (3)))) rfl rfl rfl ?_
          refine g_if_eq (tgt := 88) (a := 1) K dX6_addValve_83 (by decide) (by omega) (fun h83_16 => absurd h83_16 (by omega)) (fun h83_16 => ?_)
          refine g_iconst K 0 dX6_addValve_86 (by decide +kernel) ?_
          exfalso; omega
        · refine g_iconst K 2 dX6_addValve_66 (by decide +kernel) ?_
          refine g_goto (tgt := 80) K dX6_addValve_67 (by decide) ?_
          refine g_callVd (q := 22) (ci := 6) (As := [.int (nI (2))]) (rest := []) (C := RX6) (T := TX6) (N := 17) K (cX6_refused_k (g_z X) S 2 (by omega)) (cwV 1 K.1.2.2.2.2 gX6_addValve_X6_refused rfl rfl rfl (by decide +kernel) ⟨Nat.le_trans (Nat.le_of_ble_eq_true rfl) hRf, Nat.le_trans (Nat.le_of_ble_eq_true rfl) hRl⟩) rfl rfl rfl rfl (Nat.le_of_ble_eq_true rfl) dX6_addValve_80 ?_
          refine g_cast (S' := (va_up S 22 (va_up (S 22) 0 (2)))) rfl rfl rfl ?_
          refine g_if_eq (tgt := 88) (a := 1) K dX6_addValve_83 (by decide) (by omega) (fun h83_17 => absurd h83_17 (by omega)) (fun h83_17 => ?_)
          refine g_iconst K 0 dX6_addValve_86 (by decide +kernel) ?_
          exfalso; omega
      · refine g_iconst K 1 dX6_addValve_58 (by decide +kernel) ?_
        refine g_goto (tgt := 80) K dX6_addValve_59 (by decide) ?_
        refine g_callVd (q := 22) (ci := 6) (As := [.int (nI (1))]) (rest := []) (C := RX6) (T := TX6) (N := 17) K (cX6_refused_k (g_z X) S 1 (by omega)) (cwV 1 K.1.2.2.2.2 gX6_addValve_X6_refused rfl rfl rfl (by decide +kernel) ⟨Nat.le_trans (Nat.le_of_ble_eq_true rfl) hRf, Nat.le_trans (Nat.le_of_ble_eq_true rfl) hRl⟩) rfl rfl rfl rfl (Nat.le_of_ble_eq_true rfl) dX6_addValve_80 ?_
        refine g_cast (S' := (va_up S 22 (va_up (S 22) 0 (1)))) rfl rfl rfl ?_
        refine g_if_eq (tgt := 88) (a := 1) K dX6_addValve_83 (by decide) (by omega) (fun h83_18 => absurd h83_18 (by omega)) (fun h83_18 => ?_)
        refine g_iconst K 0 dX6_addValve_86 (by decide +kernel) ?_
        exact g_retd hret dX6_addValve_87 rfl rfl
    · refine g_aload_n K 1 dX6_addValve_19 rfl ?_
      refine g_getR (q' := 24) (q := 22) (ci := 6) (k := 6) (N := 17) (C := RX6) (T := TX6) (ref := "ValveWalkModel") K rfl rfl rfl (by decide) hin6 (by decide +kernel) rfl dX6_addValve_20 ?_
      refine g_iconst K 2 dX6_addValve_23 (by decide +kernel) ?_
      refine g_iload_n K 2 dX6_addValve_24 rfl ?_
      refine g_imul (a := 2) (b := p) K dX6_addValve_25 ?_
      refine g_iload_n K 3 dX6_addValve_26 rfl ?_
      refine g_iadd (a := (2) * (p)) (b := e) K dX6_addValve_27 ?_
      refine g_ald (q := 24) (n := 32) (i := ((2) * (p)) + (e)) K rfl (by decide) (by omega) dX6_addValve_28 ?_
      have hv28_19 := b24 (((2) * (p)) + (e))
      have h24 := b24 (2 * p + e)
      refine g_iconst K 4294967295 dX6_addValve_29 (by decide +kernel) ?_
      refine g_icmp_ne (tgt := 46) (a := S 24 (((2) * (p)) + (e))) (b := 4294967295) K dX6_addValve_30 (by decide) (by omega) (by omega) (fun h30_20 => ?_) (fun h30_20 => ?_)
      · refine g_iconst K 0 dX6_addValve_46 (by decide +kernel) ?_
        refine g_istore (lo' := [(4, .int (nI (0))), (3, .int (nI (inF e 0 1))), (0, .ref (g_ad X 22)), (1, .int (nI (p))), (2, .int (nI (e)))]) K dX6_addValve_47 (by decide) rfl ?_
        refine g_aload_n K 2 dX6_addValve_49 rfl ?_
        refine g_aload_n K 2 dX6_addValve_50 rfl ?_
        refine g_iload_n K 3 dX6_addValve_51 rfl ?_
        refine g_callVd (q := 22) (ci := 6) (As := [.int (nI (p))]) (rest := [.ref (g_ad X 22)]) (C := RX6) (T := TX6) (N := 17) K (cX6_isPipe_k (g_z X) S p (hm) (by omega)) (cwV 1 K.1.2.2.2.2 gX6_addValve_X6_isPipe rfl rfl rfl (by decide +kernel) ⟨Nat.le_trans (Nat.le_of_ble_eq_true rfl) hRf, Nat.le_trans (Nat.le_of_ble_eq_true rfl) hRl⟩) rfl rfl rfl rfl (Nat.le_of_ble_eq_true rfl) dX6_addValve_52 ?_
        have hf52_21 := isN_spec (S 22 2) p
        refine g_if_ne (tgt := 62) (a := isN (S 22 2) p) K dX6_addValve_55 (by decide) (by omega) (fun h55_22 => ?_) (fun h55_22 => ?_)
        · refine g_iload_n K 1 dX6_addValve_62 rfl ?_
          refine g_if_ne (tgt := 70) (a := inF e 0 1) K dX6_addValve_63 (by decide) (by omega) (fun h63_23 => ?_) (fun h63_23 => ?_)
          · refine g_iload K 0 dX6_addValve_70 rfl ?_
            refine g_if_eq (tgt := 79) (a := 0) K dX6_addValve_72 (by decide) (by omega) (fun h72_24 => ?_) (fun h72_24 => absurd h72_24 (by omega))
            refine g_iconst K 3 dX6_addValve_79 (by decide +kernel) ?_
            refine g_callVd (q := 22) (ci := 6) (As := [.int (nI (3))]) (rest := []) (C := RX6) (T := TX6) (N := 17) K (cX6_refused_k (g_z X) S 3 (by omega)) (cwV 1 K.1.2.2.2.2 gX6_addValve_X6_refused rfl rfl rfl (by decide +kernel) ⟨Nat.le_trans (Nat.le_of_ble_eq_true rfl) hRf, Nat.le_trans (Nat.le_of_ble_eq_true rfl) hRl⟩) rfl rfl rfl rfl (Nat.le_of_ble_eq_true rfl) dX6_addValve_80 ?_
            refine g_cast (S' := (va_up S 22 (va_up (S 22) 0 (3)))) rfl rfl rfl ?_
            refine g_if_eq (tgt := 88) (a := 1) K dX6_addValve_83 (by decide) (by omega) (fun h83_25 => absurd h83_25 (by omega)) (fun h83_25 => ?_)
            refine g_iconst K 0 dX6_addValve_86 (by decide +kernel) ?_
            exfalso; omega
          · refine g_iconst K 2 dX6_addValve_66 (by decide +kernel) ?_
            refine g_goto (tgt := 80) K dX6_addValve_67 (by decide) ?_
            refine g_callVd (q := 22) (ci := 6) (As := [.int (nI (2))]) (rest := []) (C := RX6) (T := TX6) (N := 17) K (cX6_refused_k (g_z X) S 2 (by omega)) (cwV 1 K.1.2.2.2.2 gX6_addValve_X6_refused rfl rfl rfl (by decide +kernel) ⟨Nat.le_trans (Nat.le_of_ble_eq_true rfl) hRf, Nat.le_trans (Nat.le_of_ble_eq_true rfl) hRl⟩) rfl rfl rfl rfl (Nat.le_of_ble_eq_true rfl) dX6_addValve_80 ?_
            refine g_cast (S' := (va_up S 22 (va_up (S 22) 0 (2)))) rfl rfl rfl ?_
            refine g_if_eq (tgt := 88) (a := 1) K dX6_addValve_83 (by decide) (by omega) (fun h83_26 => absurd h83_26 (by omega)) (fun h83_26 => ?_)
            refine g_iconst K 0 dX6_addValve_86 (by decide +kernel) ?_
            exfalso; omega
        · refine g_iconst K 1 dX6_addValve_58 (by decide +kernel) ?_
          refine g_goto (tgt := 80) K dX6_addValve_59 (by decide) ?_
          refine g_callVd (q := 22) (ci := 6) (As := [.int (nI (1))]) (rest := []) (C := RX6) (T := TX6) (N := 17) K (cX6_refused_k (g_z X) S 1 (by omega)) (cwV 1 K.1.2.2.2.2 gX6_addValve_X6_refused rfl rfl rfl (by decide +kernel) ⟨Nat.le_trans (Nat.le_of_ble_eq_true rfl) hRf, Nat.le_trans (Nat.le_of_ble_eq_true rfl) hRl⟩) rfl rfl rfl rfl (Nat.le_of_ble_eq_true rfl) dX6_addValve_80 ?_
          refine g_cast (S' := (va_up S 22 (va_up (S 22) 0 (1)))) rfl rfl rfl ?_
          refine g_if_eq (tgt := 88) (a := 1) K dX6_addValve_83 (by decide) (by omega) (fun h83_27 => absurd h83_27 (by omega)) (fun h83_27 => ?_)
          refine g_iconst K 0 dX6_addValve_86 (by decide +kernel) ?_
          exact g_retd hret dX6_addValve_87 rfl rfl
      · refine g_aload_n K 1 dX6_addValve_33 rfl ?_
        refine g_getI (q := 22) (ci := 6) (k := 3) (N := 17) (C := RX6) (T := TX6) (ref := "ValveWalkModel") K rfl rfl rfl (by decide) hin6 (by decide +kernel) rfl dX6_addValve_34 ?_
        refine g_bipush K 12 dX6_addValve_37 (by decide +kernel) ?_
        refine g_icmp_ge (tgt := 46) (a := S 22 3) (b := 12) K dX6_addValve_39 (by decide) (by omega) (by omega) (fun h39_28 => ?_) (fun h39_28 => ?_)
        · refine g_iconst K 0 dX6_addValve_46 (by decide +kernel) ?_
          refine g_istore (lo' := [(4, .int (nI (0))), (3, .int (nI (inF e 0 1))), (0, .ref (g_ad X 22)), (1, .int (nI (p))), (2, .int (nI (e)))]) K dX6_addValve_47 (by decide) rfl ?_
          refine g_aload_n K 2 dX6_addValve_49 rfl ?_
          refine g_aload_n K 2 dX6_addValve_50 rfl ?_
          refine g_iload_n K 3 dX6_addValve_51 rfl ?_
          refine g_callVd (q := 22) (ci := 6) (As := [.int (nI (p))]) (rest := [.ref (g_ad X 22)]) (C := RX6) (T := TX6) (N := 17) K (cX6_isPipe_k (g_z X) S p (hm) (by omega)) (cwV 1 K.1.2.2.2.2 gX6_addValve_X6_isPipe rfl rfl rfl (by decide +kernel) ⟨Nat.le_trans (Nat.le_of_ble_eq_true rfl) hRf, Nat.le_trans (Nat.le_of_ble_eq_true rfl) hRl⟩) rfl rfl rfl rfl (Nat.le_of_ble_eq_true rfl) dX6_addValve_52 ?_
          have hf52_29 := isN_spec (S 22 2) p
          refine g_if_ne (tgt := 62) (a := isN (S 22 2) p) K dX6_addValve_55 (by decide) (by omega) (fun h55_30 => ?_) (fun h55_30 => ?_)
          · refine g_iload_n K 1 dX6_addValve_62 rfl ?_
            refine g_if_ne (tgt := 70) (a := inF e 0 1) K dX6_addValve_63 (by decide) (by omega) (fun h63_31 => ?_) (fun h63_31 => ?_)
            · refine g_iload K 0 dX6_addValve_70 rfl ?_
              refine g_if_eq (tgt := 79) (a := 0) K dX6_addValve_72 (by decide) (by omega) (fun h72_32 => ?_) (fun h72_32 => absurd h72_32 (by omega))
              refine g_iconst K 3 dX6_addValve_79 (by decide +kernel) ?_
              refine g_callVd (q := 22) (ci := 6) (As := [.int (nI (3))]) (rest := []) (C := RX6) (T := TX6) (N := 17) K (cX6_refused_k (g_z X) S 3 (by omega)) (cwV 1 K.1.2.2.2.2 gX6_addValve_X6_refused rfl rfl rfl (by decide +kernel) ⟨Nat.le_trans (Nat.le_of_ble_eq_true rfl) hRf, Nat.le_trans (Nat.le_of_ble_eq_true rfl) hRl⟩) rfl rfl rfl rfl (Nat.le_of_ble_eq_true rfl) dX6_addValve_80 ?_
              refine g_cast (S' := (va_up S 22 (va_up (S 22) 0 (3)))) rfl rfl rfl ?_
              refine g_if_eq (tgt := 88) (a := 1) K dX6_addValve_83 (by decide) (by omega) (fun h83_33 => absurd h83_33 (by omega)) (fun h83_33 => ?_)
              refine g_iconst K 0 dX6_addValve_86 (by decide +kernel) ?_
              exfalso; omega
            · refine g_iconst K 2 dX6_addValve_66 (by decide +kernel) ?_
              refine g_goto (tgt := 80) K dX6_addValve_67 (by decide) ?_
              refine g_callVd (q := 22) (ci := 6) (As := [.int (nI (2))]) (rest := []) (C := RX6) (T := TX6) (N := 17) K (cX6_refused_k (g_z X) S 2 (by omega)) (cwV 1 K.1.2.2.2.2 gX6_addValve_X6_refused rfl rfl rfl (by decide +kernel) ⟨Nat.le_trans (Nat.le_of_ble_eq_true rfl) hRf, Nat.le_trans (Nat.le_of_ble_eq_true rfl) hRl⟩) rfl rfl rfl rfl (Nat.le_of_ble_eq_true rfl) dX6_addValve_80 ?_
              refine g_cast (S' := (va_up S 22 (va_up (S 22) 0 (2)))) rfl rfl rfl ?_
              refine g_if_eq (tgt := 88) (a := 1) K dX6_addValve_83 (by decide) (by omega) (fun h83_34 => absurd h83_34 (by omega)) (fun h83_34 => ?_)
              refine g_iconst K 0 dX6_addValve_86 (by decide +kernel) ?_
              exfalso; omega
          · refine g_iconst K 1 dX6_addValve_58 (by decide +kernel) ?_
            refine g_goto (tgt := 80) K dX6_addValve_59 (by decide) ?_
            refine g_callVd (q := 22) (ci := 6) (As := [.int (nI (1))]) (rest := []) (C := RX6) (T := TX6) (N := 17) K (cX6_refused_k (g_z X) S 1 (by omega)) (cwV 1 K.1.2.2.2.2 gX6_addValve_X6_refused rfl rfl rfl (by decide +kernel) ⟨Nat.le_trans (Nat.le_of_ble_eq_true rfl) hRf, Nat.le_trans (Nat.le_of_ble_eq_true rfl) hRl⟩) rfl rfl rfl rfl (Nat.le_of_ble_eq_true rfl) dX6_addValve_80 ?_
            refine g_cast (S' := (va_up S 22 (va_up (S 22) 0 (1)))) rfl rfl rfl ?_
            refine g_if_eq (tgt := 88) (a := 1) K dX6_addValve_83 (by decide) (by omega) (fun h83_35 => absurd h83_35 (by omega)) (fun h83_35 => ?_)
            refine g_iconst K 0 dX6_addValve_86 (by decide +kernel) ?_
            exact g_retd hret dX6_addValve_87 rfl rfl
        · refine g_iconst K 1 dX6_addValve_42 (by decide +kernel) ?_
          refine g_goto (tgt := 47) K dX6_addValve_43 (by decide) ?_
          refine g_istore (lo' := [(4, .int (nI (1))), (3, .int (nI (inF e 0 1))), (0, .ref (g_ad X 22)), (1, .int (nI (p))), (2, .int (nI (e)))]) K dX6_addValve_47 (by decide) rfl ?_
          refine g_aload_n K 2 dX6_addValve_49 rfl ?_
          refine g_aload_n K 2 dX6_addValve_50 rfl ?_
          refine g_iload_n K 3 dX6_addValve_51 rfl ?_
          refine g_callVd (q := 22) (ci := 6) (As := [.int (nI (p))]) (rest := [.ref (g_ad X 22)]) (C := RX6) (T := TX6) (N := 17) K (cX6_isPipe_k (g_z X) S p (hm) (by omega)) (cwV 1 K.1.2.2.2.2 gX6_addValve_X6_isPipe rfl rfl rfl (by decide +kernel) ⟨Nat.le_trans (Nat.le_of_ble_eq_true rfl) hRf, Nat.le_trans (Nat.le_of_ble_eq_true rfl) hRl⟩) rfl rfl rfl rfl (Nat.le_of_ble_eq_true rfl) dX6_addValve_52 ?_
          have hf52_36 := isN_spec (S 22 2) p
          refine g_if_ne (tgt := 62) (a := isN (S 22 2) p) K dX6_addValve_55 (by decide) (by omega) (fun h55_37 => ?_) (fun h55_37 => ?_)
          · refine g_iload_n K 1 dX6_addValve_62 rfl ?_
            refine g_if_ne (tgt := 70) (a := inF e 0 1) K dX6_addValve_63 (by decide) (by omega) (fun h63_38 => ?_) (fun h63_38 => ?_)
            · refine g_iload K 0 dX6_addValve_70 rfl ?_
              refine g_if_eq (tgt := 79) (a := 1) K dX6_addValve_72 (by decide) (by omega) (fun h72_39 => absurd h72_39 (by omega)) (fun h72_39 => ?_)
              refine g_iconst K 0 dX6_addValve_75 (by decide +kernel) ?_
              refine g_goto (tgt := 80) K dX6_addValve_76 (by decide) ?_
              refine g_callVd (q := 22) (ci := 6) (As := [.int (nI (0))]) (rest := []) (C := RX6) (T := TX6) (N := 17) K (cX6_refused_k (g_z X) S 0 (by omega)) (cwV 1 K.1.2.2.2.2 gX6_addValve_X6_refused rfl rfl rfl (by decide +kernel) ⟨Nat.le_trans (Nat.le_of_ble_eq_true rfl) hRf, Nat.le_trans (Nat.le_of_ble_eq_true rfl) hRl⟩) rfl rfl rfl rfl (Nat.le_of_ble_eq_true rfl) dX6_addValve_80 ?_
              refine g_cast (S' := (va_up S 22 (va_up (S 22) 0 (0)))) rfl rfl rfl ?_
              refine g_if_eq (tgt := 88) (a := 0) K dX6_addValve_83 (by decide) (by omega) (fun h83_40 => ?_) (fun h83_40 => absurd h83_40 (by omega))
              exfalso; omega
            · refine g_iconst K 2 dX6_addValve_66 (by decide +kernel) ?_
              refine g_goto (tgt := 80) K dX6_addValve_67 (by decide) ?_
              refine g_callVd (q := 22) (ci := 6) (As := [.int (nI (2))]) (rest := []) (C := RX6) (T := TX6) (N := 17) K (cX6_refused_k (g_z X) S 2 (by omega)) (cwV 1 K.1.2.2.2.2 gX6_addValve_X6_refused rfl rfl rfl (by decide +kernel) ⟨Nat.le_trans (Nat.le_of_ble_eq_true rfl) hRf, Nat.le_trans (Nat.le_of_ble_eq_true rfl) hRl⟩) rfl rfl rfl rfl (Nat.le_of_ble_eq_true rfl) dX6_addValve_80 ?_
              refine g_cast (S' := (va_up S 22 (va_up (S 22) 0 (2)))) rfl rfl rfl ?_
              refine g_if_eq (tgt := 88) (a := 1) K dX6_addValve_83 (by decide) (by omega) (fun h83_41 => absurd h83_41 (by omega)) (fun h83_41 => ?_)
              refine g_iconst K 0 dX6_addValve_86 (by decide +kernel) ?_
              exfalso; omega
          · refine g_iconst K 1 dX6_addValve_58 (by decide +kernel) ?_
            refine g_goto (tgt := 80) K dX6_addValve_59 (by decide) ?_
            refine g_callVd (q := 22) (ci := 6) (As := [.int (nI (1))]) (rest := []) (C := RX6) (T := TX6) (N := 17) K (cX6_refused_k (g_z X) S 1 (by omega)) (cwV 1 K.1.2.2.2.2 gX6_addValve_X6_refused rfl rfl rfl (by decide +kernel) ⟨Nat.le_trans (Nat.le_of_ble_eq_true rfl) hRf, Nat.le_trans (Nat.le_of_ble_eq_true rfl) hRl⟩) rfl rfl rfl rfl (Nat.le_of_ble_eq_true rfl) dX6_addValve_80 ?_
            refine g_cast (S' := (va_up S 22 (va_up (S 22) 0 (1)))) rfl rfl rfl ?_
            refine g_if_eq (tgt := 88) (a := 1) K dX6_addValve_83 (by decide) (by omega) (fun h83_42 => absurd h83_42 (by omega)) (fun h83_42 => ?_)
            refine g_iconst K 0 dX6_addValve_86 (by decide +kernel) ?_
            exact g_retd hret dX6_addValve_87 rfl rfl

set_option maxHeartbeats 4000000 in
set_option maxRecDepth 100000 in
theorem cX6_addValve_r2 (Z : gZ) (S : Nat → Nat → Nat) (p e : Nat) (hm : wfM S) (hup : p < 4294967296) (hue : e < 4294967296) (hp : p < S 22 2) (he : 2 ≤ e) : gMd Z yX6_addValve wsX6_addValve { frames := 2, cells := 0, slots := 0, locals := 43 } [.ref (gz_ad Z 22), .int (nI (p)), .int (nI (e))] S (0) (va_up S 22 (va_up (S 22) 0 (2))) := by
  refine gMd_of (cc := cX6_addValve) (maxL := 5) (ret := (some .int)) (by decide +kernel) rfl (Nat.le_of_ble_eq_true rfl) (Or.inl rfl) (fun X hZ hR K hret => ?_)
  subst hZ
  have K : gOk X cX6_addValve 5 wsX6_addValve RX6 := K
  have hRf : 2 ≤ (g_R X).frames := gR_f hR rfl
  have hRl : 43 ≤ (g_R X).locals := gR_l hR rfl
  have hin6 : ∀ w ∈ u_ws RX6 TX6 17, w ∈ wsX6_addValve := by decide +kernel
  obtain ⟨m1, m2, m3, m4, msh, mst, b23, b24, b25, b26, b27⟩ := id hm
  show gG X 0 [(0, .ref (g_ad X 22)), (1, .int (nI (p))), (2, .int (nI (e)))] [] S
  refine g_iload_n K 2 dX6_addValve_0 rfl ?_
  refine g_iconst K 0 dX6_addValve_1 (by decide +kernel) ?_
  refine g_iconst K 1 dX6_addValve_2 (by decide +kernel) ?_
  refine g_callSd (As := [.int (nI (e)), .int (nI (0)), .int (nI (1))]) (rest := []) K (cX6_in_k (g_z X) S e 0 1 (by omega) (by omega) (by omega)) (va_cwS 3 K.1.2.2.2.2 gX6_addValve_X6_in rfl rfl rfl (by decide +kernel) ⟨Nat.le_trans (Nat.le_of_ble_eq_true rfl) hRf, Nat.le_trans (Nat.le_of_ble_eq_true rfl) hRl⟩) rfl rfl (Nat.le_of_ble_eq_true rfl) dX6_addValve_3 ?_
  have hf3_1 := inF_spec e 0 1
  refine g_istore_n (lo' := [(3, .int (nI (inF e 0 1))), (0, .ref (g_ad X 22)), (1, .int (nI (p))), (2, .int (nI (e)))]) K dX6_addValve_6 (by decide) rfl ?_
  refine g_aload_n K 1 dX6_addValve_7 rfl ?_
  refine g_iload_n K 2 dX6_addValve_8 rfl ?_
  refine g_callVd (q := 22) (ci := 6) (As := [.int (nI (p))]) (rest := []) (C := RX6) (T := TX6) (N := 17) K (cX6_isPipe_k (g_z X) S p (hm) (by omega)) (cwV 1 K.1.2.2.2.2 gX6_addValve_X6_isPipe rfl rfl rfl (by decide +kernel) ⟨Nat.le_trans (Nat.le_of_ble_eq_true rfl) hRf, Nat.le_trans (Nat.le_of_ble_eq_true rfl) hRl⟩) rfl rfl rfl rfl (Nat.le_of_ble_eq_true rfl) dX6_addValve_9 ?_
  have hf9_2 := isN_spec (S 22 2) p
  refine g_if_eq (tgt := 46) (a := isN (S 22 2) p) K dX6_addValve_12 (by decide) (by omega) (fun h12_3 => ?_) (fun h12_3 => ?_)
  · refine g_iconst K 0 dX6_addValve_46 (by decide +kernel) ?_
    refine g_istore (lo' := [(4, .int (nI (0))), (3, .int (nI (inF e 0 1))), (0, .ref (g_ad X 22)), (1, .int (nI (p))), (2, .int (nI (e)))]) K dX6_addValve_47 (by decide) rfl ?_
    refine g_aload_n K 2 dX6_addValve_49 rfl ?_
    refine g_aload_n K 2 dX6_addValve_50 rfl ?_
    refine g_iload_n K 3 dX6_addValve_51 rfl ?_
    refine g_callVd (q := 22) (ci := 6) (As := [.int (nI (p))]) (rest := [.ref (g_ad X 22)]) (C := RX6) (T := TX6) (N := 17) K (cX6_isPipe_k (g_z X) S p (hm) (by omega)) (cwV 1 K.1.2.2.2.2 gX6_addValve_X6_isPipe rfl rfl rfl (by decide +kernel) ⟨Nat.le_trans (Nat.le_of_ble_eq_true rfl) hRf, Nat.le_trans (Nat.le_of_ble_eq_true rfl) hRl⟩) rfl rfl rfl rfl (Nat.le_of_ble_eq_true rfl) dX6_addValve_52 ?_
    have hf52_4 := isN_spec (S 22 2) p
    refine g_if_ne (tgt := 62) (a := isN (S 22 2) p) K dX6_addValve_55 (by decide) (by omega) (fun h55_5 => ?_) (fun h55_5 => ?_)
    · refine g_iload_n K 1 dX6_addValve_62 rfl ?_
      refine g_if_ne (tgt := 70) (a := inF e 0 1) K dX6_addValve_63 (by decide) (by omega) (fun h63_6 => ?_) (fun h63_6 => ?_)
      · refine g_iload K 0 dX6_addValve_70 rfl ?_
        refine g_if_eq (tgt := 79) (a := 0) K dX6_addValve_72 (by decide) (by omega) (fun h72_7 => ?_) (fun h72_7 => absurd h72_7 (by omega))
        refine g_iconst K 3 dX6_addValve_79 (by decide +kernel) ?_
        refine g_callVd (q := 22) (ci := 6) (As := [.int (nI (3))]) (rest := []) (C := RX6) (T := TX6) (N := 17) K (cX6_refused_k (g_z X) S 3 (by omega)) (cwV 1 K.1.2.2.2.2 gX6_addValve_X6_refused rfl rfl rfl (by decide +kernel) ⟨Nat.le_trans (Nat.le_of_ble_eq_true rfl) hRf, Nat.le_trans (Nat.le_of_ble_eq_true rfl) hRl⟩) rfl rfl rfl rfl (Nat.le_of_ble_eq_true rfl) dX6_addValve_80 ?_
        refine g_cast (S' := (va_up S 22 (va_up (S 22) 0 (3)))) rfl rfl rfl ?_
        refine g_if_eq (tgt := 88) (a := 1) K dX6_addValve_83 (by decide) (by omega) (fun h83_8 => absurd h83_8 (by omega)) (fun h83_8 => ?_)
        refine g_iconst K 0 dX6_addValve_86 (by decide +kernel) ?_
        exfalso; omega
      · refine g_iconst K 2 dX6_addValve_66 (by decide +kernel) ?_
        refine g_goto (tgt := 80) K dX6_addValve_67 (by decide) ?_
        refine g_callVd (q := 22) (ci := 6) (As := [.int (nI (2))]) (rest := []) (C := RX6) (T := TX6) (N := 17) K (cX6_refused_k (g_z X) S 2 (by omega)) (cwV 1 K.1.2.2.2.2 gX6_addValve_X6_refused rfl rfl rfl (by decide +kernel) ⟨Nat.le_trans (Nat.le_of_ble_eq_true rfl) hRf, Nat.le_trans (Nat.le_of_ble_eq_true rfl) hRl⟩) rfl rfl rfl rfl (Nat.le_of_ble_eq_true rfl) dX6_addValve_80 ?_
        refine g_cast (S' := (va_up S 22 (va_up (S 22) 0 (2)))) rfl rfl rfl ?_
        refine g_if_eq (tgt := 88) (a := 1) K dX6_addValve_83 (by decide) (by omega) (fun h83_9 => absurd h83_9 (by omega)) (fun h83_9 => ?_)
        refine g_iconst K 0 dX6_addValve_86 (by decide +kernel) ?_
        exact g_retd hret dX6_addValve_87 rfl rfl
    · refine g_iconst K 1 dX6_addValve_58 (by decide +kernel) ?_
      refine g_goto (tgt := 80) K dX6_addValve_59 (by decide) ?_
      refine g_callVd (q := 22) (ci := 6) (As := [.int (nI (1))]) (rest := []) (C := RX6) (T := TX6) (N := 17) K (cX6_refused_k (g_z X) S 1 (by omega)) (cwV 1 K.1.2.2.2.2 gX6_addValve_X6_refused rfl rfl rfl (by decide +kernel) ⟨Nat.le_trans (Nat.le_of_ble_eq_true rfl) hRf, Nat.le_trans (Nat.le_of_ble_eq_true rfl) hRl⟩) rfl rfl rfl rfl (Nat.le_of_ble_eq_true rfl) dX6_addValve_80 ?_
      refine g_cast (S' := (va_up S 22 (va_up (S 22) 0 (1)))) rfl rfl rfl ?_
      refine g_if_eq (tgt := 88) (a := 1) K dX6_addValve_83 (by decide) (by omega) (fun h83_10 => absurd h83_10 (by omega)) (fun h83_10 => ?_)
      refine g_iconst K 0 dX6_addValve_86 (by decide +kernel) ?_
      exfalso; omega
  · refine g_iload_n K 0 dX6_addValve_15 rfl ?_
    refine g_if_eq (tgt := 46) (a := inF e 0 1) K dX6_addValve_16 (by decide) (by omega) (fun h16_11 => ?_) (fun h16_11 => ?_)
    · refine g_iconst K 0 dX6_addValve_46 (by decide +kernel) ?_
      refine g_istore (lo' := [(4, .int (nI (0))), (3, .int (nI (inF e 0 1))), (0, .ref (g_ad X 22)), (1, .int (nI (p))), (2, .int (nI (e)))]) K dX6_addValve_47 (by decide) rfl ?_
      refine g_aload_n K 2 dX6_addValve_49 rfl ?_
      refine g_aload_n K 2 dX6_addValve_50 rfl ?_
      refine g_iload_n K 3 dX6_addValve_51 rfl ?_
      refine g_callVd (q := 22) (ci := 6) (As := [.int (nI (p))]) (rest := [.ref (g_ad X 22)]) (C := RX6) (T := TX6) (N := 17) K (cX6_isPipe_k (g_z X) S p (hm) (by omega)) (cwV 1 K.1.2.2.2.2 gX6_addValve_X6_isPipe rfl rfl rfl (by decide +kernel) ⟨Nat.le_trans (Nat.le_of_ble_eq_true rfl) hRf, Nat.le_trans (Nat.le_of_ble_eq_true rfl) hRl⟩) rfl rfl rfl rfl (Nat.le_of_ble_eq_true rfl) dX6_addValve_52 ?_
      have hf52_12 := isN_spec (S 22 2) p
      refine g_if_ne (tgt := 62) (a := isN (S 22 2) p) K dX6_addValve_55 (by decide) (by omega) (fun h55_13 => ?_) (fun h55_13 => ?_)
      · refine g_iload_n K 1 dX6_addValve_62 rfl ?_
        refine g_if_ne (tgt := 70) (a := inF e 0 1) K dX6_addValve_63 (by decide) (by omega) (fun h63_14 => ?_) (fun h63_14 => ?_)
        · refine g_iload K 0 dX6_addValve_70 rfl ?_
          refine g_if_eq (tgt := 79) (a := 0) K dX6_addValve_72 (by decide) (by omega) (fun h72_15 => ?_) (fun h72_15 => absurd h72_15 (by omega))
          refine g_iconst K 3 dX6_addValve_79 (by decide +kernel) ?_
          refine g_callVd (q := 22) (ci := 6) (As := [.int (nI (3))]) (rest := []) (C := RX6) (T := TX6) (N := 17) K (cX6_refused_k (g_z X) S 3 (by omega)) (cwV 1 K.1.2.2.2.2 gX6_addValve_X6_refused rfl rfl rfl (by decide +kernel) ⟨Nat.le_trans (Nat.le_of_ble_eq_true rfl) hRf, Nat.le_trans (Nat.le_of_ble_eq_true rfl) hRl⟩) rfl rfl rfl rfl (Nat.le_of_ble_eq_true rfl) dX6_addValve_80 ?_
          refine g_cast (S' := (va_up S 22 (va_up (S 22) 0 (3)))) rfl rfl rfl ?_
          refine g_if_eq (tgt := 88) (a := 1) K dX6_addValve_83 (by decide) (by omega) (fun h83_16 => absurd h83_16 (by omega)) (fun h83_16 => ?_)
          refine g_iconst K 0 dX6_addValve_86 (by decide +kernel) ?_
          exfalso; omega
        · refine g_iconst K 2 dX6_addValve_66 (by decide +kernel) ?_
          refine g_goto (tgt := 80) K dX6_addValve_67 (by decide) ?_
          refine g_callVd (q := 22) (ci := 6) (As := [.int (nI (2))]) (rest := []) (C := RX6) (T := TX6) (N := 17) K (cX6_refused_k (g_z X) S 2 (by omega)) (cwV 1 K.1.2.2.2.2 gX6_addValve_X6_refused rfl rfl rfl (by decide +kernel) ⟨Nat.le_trans (Nat.le_of_ble_eq_true rfl) hRf, Nat.le_trans (Nat.le_of_ble_eq_true rfl) hRl⟩) rfl rfl rfl rfl (Nat.le_of_ble_eq_true rfl) dX6_addValve_80 ?_
          refine g_cast (S' := (va_up S 22 (va_up (S 22) 0 (2)))) rfl rfl rfl ?_
          refine g_if_eq (tgt := 88) (a := 1) K dX6_addValve_83 (by decide) (by omega) (fun h83_17 => absurd h83_17 (by omega)) (fun h83_17 => ?_)
          refine g_iconst K 0 dX6_addValve_86 (by decide +kernel) ?_
          exact g_retd hret dX6_addValve_87 rfl rfl
      · refine g_iconst K 1 dX6_addValve_58 (by decide +kernel) ?_
        refine g_goto (tgt := 80) K dX6_addValve_59 (by decide) ?_
        refine g_callVd (q := 22) (ci := 6) (As := [.int (nI (1))]) (rest := []) (C := RX6) (T := TX6) (N := 17) K (cX6_refused_k (g_z X) S 1 (by omega)) (cwV 1 K.1.2.2.2.2 gX6_addValve_X6_refused rfl rfl rfl (by decide +kernel) ⟨Nat.le_trans (Nat.le_of_ble_eq_true rfl) hRf, Nat.le_trans (Nat.le_of_ble_eq_true rfl) hRl⟩) rfl rfl rfl rfl (Nat.le_of_ble_eq_true rfl) dX6_addValve_80 ?_
        refine g_cast (S' := (va_up S 22 (va_up (S 22) 0 (1)))) rfl rfl rfl ?_
        refine g_if_eq (tgt := 88) (a := 1) K dX6_addValve_83 (by decide) (by omega) (fun h83_18 => absurd h83_18 (by omega)) (fun h83_18 => ?_)
        refine g_iconst K 0 dX6_addValve_86 (by decide +kernel) ?_
        exfalso; omega
    · refine g_aload_n K 1 dX6_addValve_19 rfl ?_
      refine g_getR (q' := 24) (q := 22) (ci := 6) (k := 6) (N := 17) (C := RX6) (T := TX6) (ref := "ValveWalkModel") K rfl rfl rfl (by decide) hin6 (by decide +kernel) rfl dX6_addValve_20 ?_
      refine g_iconst K 2 dX6_addValve_23 (by decide +kernel) ?_
      refine g_iload_n K 2 dX6_addValve_24 rfl ?_
      refine g_imul (a := 2) (b := p) K dX6_addValve_25 ?_
      refine g_iload_n K 3 dX6_addValve_26 rfl ?_
      refine g_iadd (a := (2) * (p)) (b := e) K dX6_addValve_27 ?_
      refine g_ald (q := 24) (n := 32) (i := ((2) * (p)) + (e)) K rfl (by decide) (by omega) dX6_addValve_28 ?_
      have hv28_19 := b24 (((2) * (p)) + (e))
      have h24 := b24 (2 * p + e)
      refine g_iconst K 4294967295 dX6_addValve_29 (by decide +kernel) ?_
      refine g_icmp_ne (tgt := 46) (a := S 24 (((2) * (p)) + (e))) (b := 4294967295) K dX6_addValve_30 (by decide) (by omega) (by omega) (fun h30_20 => ?_) (fun h30_20 => ?_)
      · refine g_iconst K 0 dX6_addValve_46 (by decide +kernel) ?_
        refine g_istore (lo' := [(4, .int (nI (0))), (3, .int (nI (inF e 0 1))), (0, .ref (g_ad X 22)), (1, .int (nI (p))), (2, .int (nI (e)))]) K dX6_addValve_47 (by decide) rfl ?_
        refine g_aload_n K 2 dX6_addValve_49 rfl ?_
        refine g_aload_n K 2 dX6_addValve_50 rfl ?_
        refine g_iload_n K 3 dX6_addValve_51 rfl ?_
        refine g_callVd (q := 22) (ci := 6) (As := [.int (nI (p))]) (rest := [.ref (g_ad X 22)]) (C := RX6) (T := TX6) (N := 17) K (cX6_isPipe_k (g_z X) S p (hm) (by omega)) (cwV 1 K.1.2.2.2.2 gX6_addValve_X6_isPipe rfl rfl rfl (by decide +kernel) ⟨Nat.le_trans (Nat.le_of_ble_eq_true rfl) hRf, Nat.le_trans (Nat.le_of_ble_eq_true rfl) hRl⟩) rfl rfl rfl rfl (Nat.le_of_ble_eq_true rfl) dX6_addValve_52 ?_
        have hf52_21 := isN_spec (S 22 2) p
        refine g_if_ne (tgt := 62) (a := isN (S 22 2) p) K dX6_addValve_55 (by decide) (by omega) (fun h55_22 => ?_) (fun h55_22 => ?_)
        · refine g_iload_n K 1 dX6_addValve_62 rfl ?_
          refine g_if_ne (tgt := 70) (a := inF e 0 1) K dX6_addValve_63 (by decide) (by omega) (fun h63_23 => ?_) (fun h63_23 => ?_)
          · refine g_iload K 0 dX6_addValve_70 rfl ?_
            refine g_if_eq (tgt := 79) (a := 0) K dX6_addValve_72 (by decide) (by omega) (fun h72_24 => ?_) (fun h72_24 => absurd h72_24 (by omega))
            refine g_iconst K 3 dX6_addValve_79 (by decide +kernel) ?_
            refine g_callVd (q := 22) (ci := 6) (As := [.int (nI (3))]) (rest := []) (C := RX6) (T := TX6) (N := 17) K (cX6_refused_k (g_z X) S 3 (by omega)) (cwV 1 K.1.2.2.2.2 gX6_addValve_X6_refused rfl rfl rfl (by decide +kernel) ⟨Nat.le_trans (Nat.le_of_ble_eq_true rfl) hRf, Nat.le_trans (Nat.le_of_ble_eq_true rfl) hRl⟩) rfl rfl rfl rfl (Nat.le_of_ble_eq_true rfl) dX6_addValve_80 ?_
            refine g_cast (S' := (va_up S 22 (va_up (S 22) 0 (3)))) rfl rfl rfl ?_
            refine g_if_eq (tgt := 88) (a := 1) K dX6_addValve_83 (by decide) (by omega) (fun h83_25 => absurd h83_25 (by omega)) (fun h83_25 => ?_)
            refine g_iconst K 0 dX6_addValve_86 (by decide +kernel) ?_
            exfalso; omega
          · refine g_iconst K 2 dX6_addValve_66 (by decide +kernel) ?_
            refine g_goto (tgt := 80) K dX6_addValve_67 (by decide) ?_
            refine g_callVd (q := 22) (ci := 6) (As := [.int (nI (2))]) (rest := []) (C := RX6) (T := TX6) (N := 17) K (cX6_refused_k (g_z X) S 2 (by omega)) (cwV 1 K.1.2.2.2.2 gX6_addValve_X6_refused rfl rfl rfl (by decide +kernel) ⟨Nat.le_trans (Nat.le_of_ble_eq_true rfl) hRf, Nat.le_trans (Nat.le_of_ble_eq_true rfl) hRl⟩) rfl rfl rfl rfl (Nat.le_of_ble_eq_true rfl) dX6_addValve_80 ?_
            refine g_cast (S' := (va_up S 22 (va_up (S 22) 0 (2)))) rfl rfl rfl ?_
            refine g_if_eq (tgt := 88) (a := 1) K dX6_addValve_83 (by decide) (by omega) (fun h83_26 => absurd h83_26 (by omega)) (fun h83_26 => ?_)
            refine g_iconst K 0 dX6_addValve_86 (by decide +kernel) ?_
            exact g_retd hret dX6_addValve_87 rfl rfl
        · refine g_iconst K 1 dX6_addValve_58 (by decide +kernel) ?_
          refine g_goto (tgt := 80) K dX6_addValve_59 (by decide) ?_
          refine g_callVd (q := 22) (ci := 6) (As := [.int (nI (1))]) (rest := []) (C := RX6) (T := TX6) (N := 17) K (cX6_refused_k (g_z X) S 1 (by omega)) (cwV 1 K.1.2.2.2.2 gX6_addValve_X6_refused rfl rfl rfl (by decide +kernel) ⟨Nat.le_trans (Nat.le_of_ble_eq_true rfl) hRf, Nat.le_trans (Nat.le_of_ble_eq_true rfl) hRl⟩) rfl rfl rfl rfl (Nat.le_of_ble_eq_true rfl) dX6_addValve_80 ?_
          refine g_cast (S' := (va_up S 22 (va_up (S 22) 0 (1)))) rfl rfl rfl ?_
          refine g_if_eq (tgt := 88) (a := 1) K dX6_addValve_83 (by decide) (by omega) (fun h83_27 => absurd h83_27 (by omega)) (fun h83_27 => ?_)
          refine g_iconst K 0 dX6_addValve_86 (by decide +kernel) ?_
          exfalso; omega
      · refine g_aload_n K 1 dX6_addValve_33 rfl ?_
        refine g_getI (q := 22) (ci := 6) (k := 3) (N := 17) (C := RX6) (T := TX6) (ref := "ValveWalkModel") K rfl rfl rfl (by decide) hin6 (by decide +kernel) rfl dX6_addValve_34 ?_
        refine g_bipush K 12 dX6_addValve_37 (by decide +kernel) ?_
        refine g_icmp_ge (tgt := 46) (a := S 22 3) (b := 12) K dX6_addValve_39 (by decide) (by omega) (by omega) (fun h39_28 => ?_) (fun h39_28 => ?_)
        · refine g_iconst K 0 dX6_addValve_46 (by decide +kernel) ?_
          refine g_istore (lo' := [(4, .int (nI (0))), (3, .int (nI (inF e 0 1))), (0, .ref (g_ad X 22)), (1, .int (nI (p))), (2, .int (nI (e)))]) K dX6_addValve_47 (by decide) rfl ?_
          refine g_aload_n K 2 dX6_addValve_49 rfl ?_
          refine g_aload_n K 2 dX6_addValve_50 rfl ?_
          refine g_iload_n K 3 dX6_addValve_51 rfl ?_
          refine g_callVd (q := 22) (ci := 6) (As := [.int (nI (p))]) (rest := [.ref (g_ad X 22)]) (C := RX6) (T := TX6) (N := 17) K (cX6_isPipe_k (g_z X) S p (hm) (by omega)) (cwV 1 K.1.2.2.2.2 gX6_addValve_X6_isPipe rfl rfl rfl (by decide +kernel) ⟨Nat.le_trans (Nat.le_of_ble_eq_true rfl) hRf, Nat.le_trans (Nat.le_of_ble_eq_true rfl) hRl⟩) rfl rfl rfl rfl (Nat.le_of_ble_eq_true rfl) dX6_addValve_52 ?_
          have hf52_29 := isN_spec (S 22 2) p
          refine g_if_ne (tgt := 62) (a := isN (S 22 2) p) K dX6_addValve_55 (by decide) (by omega) (fun h55_30 => ?_) (fun h55_30 => ?_)
          · refine g_iload_n K 1 dX6_addValve_62 rfl ?_
            refine g_if_ne (tgt := 70) (a := inF e 0 1) K dX6_addValve_63 (by decide) (by omega) (fun h63_31 => ?_) (fun h63_31 => ?_)
            · refine g_iload K 0 dX6_addValve_70 rfl ?_
              refine g_if_eq (tgt := 79) (a := 0) K dX6_addValve_72 (by decide) (by omega) (fun h72_32 => ?_) (fun h72_32 => absurd h72_32 (by omega))
              refine g_iconst K 3 dX6_addValve_79 (by decide +kernel) ?_
              refine g_callVd (q := 22) (ci := 6) (As := [.int (nI (3))]) (rest := []) (C := RX6) (T := TX6) (N := 17) K (cX6_refused_k (g_z X) S 3 (by omega)) (cwV 1 K.1.2.2.2.2 gX6_addValve_X6_refused rfl rfl rfl (by decide +kernel) ⟨Nat.le_trans (Nat.le_of_ble_eq_true rfl) hRf, Nat.le_trans (Nat.le_of_ble_eq_true rfl) hRl⟩) rfl rfl rfl rfl (Nat.le_of_ble_eq_true rfl) dX6_addValve_80 ?_
              refine g_cast (S' := (va_up S 22 (va_up (S 22) 0 (3)))) rfl rfl rfl ?_
              refine g_if_eq (tgt := 88) (a := 1) K dX6_addValve_83 (by decide) (by omega) (fun h83_33 => absurd h83_33 (by omega)) (fun h83_33 => ?_)
              refine g_iconst K 0 dX6_addValve_86 (by decide +kernel) ?_
              exfalso; omega
            · refine g_iconst K 2 dX6_addValve_66 (by decide +kernel) ?_
              refine g_goto (tgt := 80) K dX6_addValve_67 (by decide) ?_
              refine g_callVd (q := 22) (ci := 6) (As := [.int (nI (2))]) (rest := []) (C := RX6) (T := TX6) (N := 17) K (cX6_refused_k (g_z X) S 2 (by omega)) (cwV 1 K.1.2.2.2.2 gX6_addValve_X6_refused rfl rfl rfl (by decide +kernel) ⟨Nat.le_trans (Nat.le_of_ble_eq_true rfl) hRf, Nat.le_trans (Nat.le_of_ble_eq_true rfl) hRl⟩) rfl rfl rfl rfl (Nat.le_of_ble_eq_true rfl) dX6_addValve_80 ?_
              refine g_cast (S' := (va_up S 22 (va_up (S 22) 0 (2)))) rfl rfl rfl ?_
              refine g_if_eq (tgt := 88) (a := 1) K dX6_addValve_83 (by decide) (by omega) (fun h83_34 => absurd h83_34 (by omega)) (fun h83_34 => ?_)
              refine g_iconst K 0 dX6_addValve_86 (by decide +kernel) ?_
              exact g_retd hret dX6_addValve_87 rfl rfl
          · refine g_iconst K 1 dX6_addValve_58 (by decide +kernel) ?_
            refine g_goto (tgt := 80) K dX6_addValve_59 (by decide) ?_
            refine g_callVd (q := 22) (ci := 6) (As := [.int (nI (1))]) (rest := []) (C := RX6) (T := TX6) (N := 17) K (cX6_refused_k (g_z X) S 1 (by omega)) (cwV 1 K.1.2.2.2.2 gX6_addValve_X6_refused rfl rfl rfl (by decide +kernel) ⟨Nat.le_trans (Nat.le_of_ble_eq_true rfl) hRf, Nat.le_trans (Nat.le_of_ble_eq_true rfl) hRl⟩) rfl rfl rfl rfl (Nat.le_of_ble_eq_true rfl) dX6_addValve_80 ?_
            refine g_cast (S' := (va_up S 22 (va_up (S 22) 0 (1)))) rfl rfl rfl ?_
            refine g_if_eq (tgt := 88) (a := 1) K dX6_addValve_83 (by decide) (by omega) (fun h83_35 => absurd h83_35 (by omega)) (fun h83_35 => ?_)
            refine g_iconst K 0 dX6_addValve_86 (by decide +kernel) ?_
            exfalso; omega
        · refine g_iconst K 1 dX6_addValve_42 (by decide +kernel) ?_
          refine g_goto (tgt := 47) K dX6_addValve_43 (by decide) ?_
          refine g_istore (lo' := [(4, .int (nI (1))), (3, .int (nI (inF e 0 1))), (0, .ref (g_ad X 22)), (1, .int (nI (p))), (2, .int (nI (e)))]) K dX6_addValve_47 (by decide) rfl ?_
          refine g_aload_n K 2 dX6_addValve_49 rfl ?_
          refine g_aload_n K 2 dX6_addValve_50 rfl ?_
          refine g_iload_n K 3 dX6_addValve_51 rfl ?_
          refine g_callVd (q := 22) (ci := 6) (As := [.int (nI (p))]) (rest := [.ref (g_ad X 22)]) (C := RX6) (T := TX6) (N := 17) K (cX6_isPipe_k (g_z X) S p (hm) (by omega)) (cwV 1 K.1.2.2.2.2 gX6_addValve_X6_isPipe rfl rfl rfl (by decide +kernel) ⟨Nat.le_trans (Nat.le_of_ble_eq_true rfl) hRf, Nat.le_trans (Nat.le_of_ble_eq_true rfl) hRl⟩) rfl rfl rfl rfl (Nat.le_of_ble_eq_true rfl) dX6_addValve_52 ?_
          have hf52_36 := isN_spec (S 22 2) p
          refine g_if_ne (tgt := 62) (a := isN (S 22 2) p) K dX6_addValve_55 (by decide) (by omega) (fun h55_37 => ?_) (fun h55_37 => ?_)
          · refine g_iload_n K 1 dX6_addValve_62 rfl ?_
            refine g_if_ne (tgt := 70) (a := inF e 0 1) K dX6_addValve_63 (by decide) (by omega) (fun h63_38 => ?_) (fun h63_38 => ?_)
            · refine g_iload K 0 dX6_addValve_70 rfl ?_
              refine g_if_eq (tgt := 79) (a := 1) K dX6_addValve_72 (by decide) (by omega) (fun h72_39 => absurd h72_39 (by omega)) (fun h72_39 => ?_)
              refine g_iconst K 0 dX6_addValve_75 (by decide +kernel) ?_
              refine g_goto (tgt := 80) K dX6_addValve_76 (by decide) ?_
              refine g_callVd (q := 22) (ci := 6) (As := [.int (nI (0))]) (rest := []) (C := RX6) (T := TX6) (N := 17) K (cX6_refused_k (g_z X) S 0 (by omega)) (cwV 1 K.1.2.2.2.2 gX6_addValve_X6_refused rfl rfl rfl (by decide +kernel) ⟨Nat.le_trans (Nat.le_of_ble_eq_true rfl) hRf, Nat.le_trans (Nat.le_of_ble_eq_true rfl) hRl⟩) rfl rfl rfl rfl (Nat.le_of_ble_eq_true rfl) dX6_addValve_80 ?_
              refine g_cast (S' := (va_up S 22 (va_up (S 22) 0 (0)))) rfl rfl rfl ?_
              refine g_if_eq (tgt := 88) (a := 0) K dX6_addValve_83 (by decide) (by omega) (fun h83_40 => ?_) (fun h83_40 => absurd h83_40 (by omega))
              exfalso; omega
            · refine g_iconst K 2 dX6_addValve_66 (by decide +kernel) ?_
              refine g_goto (tgt := 80) K dX6_addValve_67 (by decide) ?_
              refine g_callVd (q := 22) (ci := 6) (As := [.int (nI (2))]) (rest := []) (C := RX6) (T := TX6) (N := 17) K (cX6_refused_k (g_z X) S 2 (by omega)) (cwV 1 K.1.2.2.2.2 gX6_addValve_X6_refused rfl rfl rfl (by decide +kernel) ⟨Nat.le_trans (Nat.le_of_ble_eq_true rfl) hRf, Nat.le_trans (Nat.le_of_ble_eq_true rfl) hRl⟩) rfl rfl rfl rfl (Nat.le_of_ble_eq_true rfl) dX6_addValve_80 ?_
              refine g_cast (S' := (va_up S 22 (va_up (S 22) 0 (2)))) rfl rfl rfl ?_
              refine g_if_eq (tgt := 88) (a := 1) K dX6_addValve_83 (by decide) (by omega) (fun h83_41 => absurd h83_41 (by omega)) (fun h83_41 => ?_)
              refine g_iconst K 0 dX6_addValve_86 (by decide +kernel) ?_
              exact g_retd hret dX6_addValve_87 rfl rfl
          · refine g_iconst K 1 dX6_addValve_58 (by decide +kernel) ?_
            refine g_goto (tgt := 80) K dX6_addValve_59 (by decide) ?_
            refine g_callVd (q := 22) (ci := 6) (As := [.int (nI (1))]) (rest := []) (C := RX6) (T := TX6) (N := 17) K (cX6_refused_k (g_z X) S 1 (by omega)) (cwV 1 K.1.2.2.2.2 gX6_addValve_X6_refused rfl rfl rfl (by decide +kernel) ⟨Nat.le_trans (Nat.le_of_ble_eq_true rfl) hRf, Nat.le_trans (Nat.le_of_ble_eq_true rfl) hRl⟩) rfl rfl rfl rfl (Nat.le_of_ble_eq_true rfl) dX6_addValve_80 ?_
            refine g_cast (S' := (va_up S 22 (va_up (S 22) 0 (1)))) rfl rfl rfl ?_
            refine g_if_eq (tgt := 88) (a := 1) K dX6_addValve_83 (by decide) (by omega) (fun h83_42 => absurd h83_42 (by omega)) (fun h83_42 => ?_)
            refine g_iconst K 0 dX6_addValve_86 (by decide +kernel) ?_
            exfalso; omega

set_option maxHeartbeats 4000000 in
set_option maxRecDepth 100000 in
theorem cX6_addValve_r3 (Z : gZ) (S : Nat → Nat → Nat) (p e : Nat) (hm : wfM S) (hup : p < 4294967296) (hue : e < 4294967296) (hp : p < S 22 2) (he : e < 2) (hv : S 24 (2 * p + e) ≠ 4294967295 ∨ 12 ≤ S 22 3) : gMd Z yX6_addValve wsX6_addValve { frames := 2, cells := 0, slots := 0, locals := 43 } [.ref (gz_ad Z 22), .int (nI (p)), .int (nI (e))] S (0) (va_up S 22 (va_up (S 22) 0 (3))) := by
  refine gMd_of (cc := cX6_addValve) (maxL := 5) (ret := (some .int)) (by decide +kernel) rfl (Nat.le_of_ble_eq_true rfl) (Or.inl rfl) (fun X hZ hR K hret => ?_)
  subst hZ
  have K : gOk X cX6_addValve 5 wsX6_addValve RX6 := K
  have hRf : 2 ≤ (g_R X).frames := gR_f hR rfl
  have hRl : 43 ≤ (g_R X).locals := gR_l hR rfl
  have hin6 : ∀ w ∈ u_ws RX6 TX6 17, w ∈ wsX6_addValve := by decide +kernel
  obtain ⟨m1, m2, m3, m4, msh, mst, b23, b24, b25, b26, b27⟩ := id hm
  show gG X 0 [(0, .ref (g_ad X 22)), (1, .int (nI (p))), (2, .int (nI (e)))] [] S
  refine g_iload_n K 2 dX6_addValve_0 rfl ?_
  refine g_iconst K 0 dX6_addValve_1 (by decide +kernel) ?_
  refine g_iconst K 1 dX6_addValve_2 (by decide +kernel) ?_
  refine g_callSd (As := [.int (nI (e)), .int (nI (0)), .int (nI (1))]) (rest := []) K (cX6_in_k (g_z X) S e 0 1 (by omega) (by omega) (by omega)) (va_cwS 3 K.1.2.2.2.2 gX6_addValve_X6_in rfl rfl rfl (by decide +kernel) ⟨Nat.le_trans (Nat.le_of_ble_eq_true rfl) hRf, Nat.le_trans (Nat.le_of_ble_eq_true rfl) hRl⟩) rfl rfl (Nat.le_of_ble_eq_true rfl) dX6_addValve_3 ?_
  have hf3_1 := inF_spec e 0 1
  refine g_istore_n (lo' := [(3, .int (nI (inF e 0 1))), (0, .ref (g_ad X 22)), (1, .int (nI (p))), (2, .int (nI (e)))]) K dX6_addValve_6 (by decide) rfl ?_
  refine g_aload_n K 1 dX6_addValve_7 rfl ?_
  refine g_iload_n K 2 dX6_addValve_8 rfl ?_
  refine g_callVd (q := 22) (ci := 6) (As := [.int (nI (p))]) (rest := []) (C := RX6) (T := TX6) (N := 17) K (cX6_isPipe_k (g_z X) S p (hm) (by omega)) (cwV 1 K.1.2.2.2.2 gX6_addValve_X6_isPipe rfl rfl rfl (by decide +kernel) ⟨Nat.le_trans (Nat.le_of_ble_eq_true rfl) hRf, Nat.le_trans (Nat.le_of_ble_eq_true rfl) hRl⟩) rfl rfl rfl rfl (Nat.le_of_ble_eq_true rfl) dX6_addValve_9 ?_
  have hf9_2 := isN_spec (S 22 2) p
  refine g_if_eq (tgt := 46) (a := isN (S 22 2) p) K dX6_addValve_12 (by decide) (by omega) (fun h12_3 => ?_) (fun h12_3 => ?_)
  · refine g_iconst K 0 dX6_addValve_46 (by decide +kernel) ?_
    refine g_istore (lo' := [(4, .int (nI (0))), (3, .int (nI (inF e 0 1))), (0, .ref (g_ad X 22)), (1, .int (nI (p))), (2, .int (nI (e)))]) K dX6_addValve_47 (by decide) rfl ?_
    refine g_aload_n K 2 dX6_addValve_49 rfl ?_
    refine g_aload_n K 2 dX6_addValve_50 rfl ?_
    refine g_iload_n K 3 dX6_addValve_51 rfl ?_
    refine g_callVd (q := 22) (ci := 6) (As := [.int (nI (p))]) (rest := [.ref (g_ad X 22)]) (C := RX6) (T := TX6) (N := 17) K (cX6_isPipe_k (g_z X) S p (hm) (by omega)) (cwV 1 K.1.2.2.2.2 gX6_addValve_X6_isPipe rfl rfl rfl (by decide +kernel) ⟨Nat.le_trans (Nat.le_of_ble_eq_true rfl) hRf, Nat.le_trans (Nat.le_of_ble_eq_true rfl) hRl⟩) rfl rfl rfl rfl (Nat.le_of_ble_eq_true rfl) dX6_addValve_52 ?_
    have hf52_4 := isN_spec (S 22 2) p
    refine g_if_ne (tgt := 62) (a := isN (S 22 2) p) K dX6_addValve_55 (by decide) (by omega) (fun h55_5 => ?_) (fun h55_5 => ?_)
    · refine g_iload_n K 1 dX6_addValve_62 rfl ?_
      refine g_if_ne (tgt := 70) (a := inF e 0 1) K dX6_addValve_63 (by decide) (by omega) (fun h63_6 => ?_) (fun h63_6 => ?_)
      · refine g_iload K 0 dX6_addValve_70 rfl ?_
        refine g_if_eq (tgt := 79) (a := 0) K dX6_addValve_72 (by decide) (by omega) (fun h72_7 => ?_) (fun h72_7 => absurd h72_7 (by omega))
        refine g_iconst K 3 dX6_addValve_79 (by decide +kernel) ?_
        refine g_callVd (q := 22) (ci := 6) (As := [.int (nI (3))]) (rest := []) (C := RX6) (T := TX6) (N := 17) K (cX6_refused_k (g_z X) S 3 (by omega)) (cwV 1 K.1.2.2.2.2 gX6_addValve_X6_refused rfl rfl rfl (by decide +kernel) ⟨Nat.le_trans (Nat.le_of_ble_eq_true rfl) hRf, Nat.le_trans (Nat.le_of_ble_eq_true rfl) hRl⟩) rfl rfl rfl rfl (Nat.le_of_ble_eq_true rfl) dX6_addValve_80 ?_
        refine g_cast (S' := (va_up S 22 (va_up (S 22) 0 (3)))) rfl rfl rfl ?_
        refine g_if_eq (tgt := 88) (a := 1) K dX6_addValve_83 (by decide) (by omega) (fun h83_8 => absurd h83_8 (by omega)) (fun h83_8 => ?_)
        refine g_iconst K 0 dX6_addValve_86 (by decide +kernel) ?_
        exact g_retd hret dX6_addValve_87 rfl rfl
      · refine g_iconst K 2 dX6_addValve_66 (by decide +kernel) ?_
        refine g_goto (tgt := 80) K dX6_addValve_67 (by decide) ?_
        refine g_callVd (q := 22) (ci := 6) (As := [.int (nI (2))]) (rest := []) (C := RX6) (T := TX6) (N := 17) K (cX6_refused_k (g_z X) S 2 (by omega)) (cwV 1 K.1.2.2.2.2 gX6_addValve_X6_refused rfl rfl rfl (by decide +kernel) ⟨Nat.le_trans (Nat.le_of_ble_eq_true rfl) hRf, Nat.le_trans (Nat.le_of_ble_eq_true rfl) hRl⟩) rfl rfl rfl rfl (Nat.le_of_ble_eq_true rfl) dX6_addValve_80 ?_
        refine g_cast (S' := (va_up S 22 (va_up (S 22) 0 (2)))) rfl rfl rfl ?_
        refine g_if_eq (tgt := 88) (a := 1) K dX6_addValve_83 (by decide) (by omega) (fun h83_9 => absurd h83_9 (by omega)) (fun h83_9 => ?_)
        refine g_iconst K 0 dX6_addValve_86 (by decide +kernel) ?_
        exfalso; omega
    · refine g_iconst K 1 dX6_addValve_58 (by decide +kernel) ?_
      refine g_goto (tgt := 80) K dX6_addValve_59 (by decide) ?_
      refine g_callVd (q := 22) (ci := 6) (As := [.int (nI (1))]) (rest := []) (C := RX6) (T := TX6) (N := 17) K (cX6_refused_k (g_z X) S 1 (by omega)) (cwV 1 K.1.2.2.2.2 gX6_addValve_X6_refused rfl rfl rfl (by decide +kernel) ⟨Nat.le_trans (Nat.le_of_ble_eq_true rfl) hRf, Nat.le_trans (Nat.le_of_ble_eq_true rfl) hRl⟩) rfl rfl rfl rfl (Nat.le_of_ble_eq_true rfl) dX6_addValve_80 ?_
      refine g_cast (S' := (va_up S 22 (va_up (S 22) 0 (1)))) rfl rfl rfl ?_
      refine g_if_eq (tgt := 88) (a := 1) K dX6_addValve_83 (by decide) (by omega) (fun h83_10 => absurd h83_10 (by omega)) (fun h83_10 => ?_)
      refine g_iconst K 0 dX6_addValve_86 (by decide +kernel) ?_
      exfalso; omega
  · refine g_iload_n K 0 dX6_addValve_15 rfl ?_
    refine g_if_eq (tgt := 46) (a := inF e 0 1) K dX6_addValve_16 (by decide) (by omega) (fun h16_11 => ?_) (fun h16_11 => ?_)
    · refine g_iconst K 0 dX6_addValve_46 (by decide +kernel) ?_
      refine g_istore (lo' := [(4, .int (nI (0))), (3, .int (nI (inF e 0 1))), (0, .ref (g_ad X 22)), (1, .int (nI (p))), (2, .int (nI (e)))]) K dX6_addValve_47 (by decide) rfl ?_
      refine g_aload_n K 2 dX6_addValve_49 rfl ?_
      refine g_aload_n K 2 dX6_addValve_50 rfl ?_
      refine g_iload_n K 3 dX6_addValve_51 rfl ?_
      refine g_callVd (q := 22) (ci := 6) (As := [.int (nI (p))]) (rest := [.ref (g_ad X 22)]) (C := RX6) (T := TX6) (N := 17) K (cX6_isPipe_k (g_z X) S p (hm) (by omega)) (cwV 1 K.1.2.2.2.2 gX6_addValve_X6_isPipe rfl rfl rfl (by decide +kernel) ⟨Nat.le_trans (Nat.le_of_ble_eq_true rfl) hRf, Nat.le_trans (Nat.le_of_ble_eq_true rfl) hRl⟩) rfl rfl rfl rfl (Nat.le_of_ble_eq_true rfl) dX6_addValve_52 ?_
      have hf52_12 := isN_spec (S 22 2) p
      refine g_if_ne (tgt := 62) (a := isN (S 22 2) p) K dX6_addValve_55 (by decide) (by omega) (fun h55_13 => ?_) (fun h55_13 => ?_)
      · refine g_iload_n K 1 dX6_addValve_62 rfl ?_
        refine g_if_ne (tgt := 70) (a := inF e 0 1) K dX6_addValve_63 (by decide) (by omega) (fun h63_14 => ?_) (fun h63_14 => ?_)
        · refine g_iload K 0 dX6_addValve_70 rfl ?_
          refine g_if_eq (tgt := 79) (a := 0) K dX6_addValve_72 (by decide) (by omega) (fun h72_15 => ?_) (fun h72_15 => absurd h72_15 (by omega))
          refine g_iconst K 3 dX6_addValve_79 (by decide +kernel) ?_
          refine g_callVd (q := 22) (ci := 6) (As := [.int (nI (3))]) (rest := []) (C := RX6) (T := TX6) (N := 17) K (cX6_refused_k (g_z X) S 3 (by omega)) (cwV 1 K.1.2.2.2.2 gX6_addValve_X6_refused rfl rfl rfl (by decide +kernel) ⟨Nat.le_trans (Nat.le_of_ble_eq_true rfl) hRf, Nat.le_trans (Nat.le_of_ble_eq_true rfl) hRl⟩) rfl rfl rfl rfl (Nat.le_of_ble_eq_true rfl) dX6_addValve_80 ?_
          refine g_cast (S' := (va_up S 22 (va_up (S 22) 0 (3)))) rfl rfl rfl ?_
          refine g_if_eq (tgt := 88) (a := 1) K dX6_addValve_83 (by decide) (by omega) (fun h83_16 => absurd h83_16 (by omega)) (fun h83_16 => ?_)
          refine g_iconst K 0 dX6_addValve_86 (by decide +kernel) ?_
          exact g_retd hret dX6_addValve_87 rfl rfl
        · refine g_iconst K 2 dX6_addValve_66 (by decide +kernel) ?_
          refine g_goto (tgt := 80) K dX6_addValve_67 (by decide) ?_
          refine g_callVd (q := 22) (ci := 6) (As := [.int (nI (2))]) (rest := []) (C := RX6) (T := TX6) (N := 17) K (cX6_refused_k (g_z X) S 2 (by omega)) (cwV 1 K.1.2.2.2.2 gX6_addValve_X6_refused rfl rfl rfl (by decide +kernel) ⟨Nat.le_trans (Nat.le_of_ble_eq_true rfl) hRf, Nat.le_trans (Nat.le_of_ble_eq_true rfl) hRl⟩) rfl rfl rfl rfl (Nat.le_of_ble_eq_true rfl) dX6_addValve_80 ?_
          refine g_cast (S' := (va_up S 22 (va_up (S 22) 0 (2)))) rfl rfl rfl ?_
          refine g_if_eq (tgt := 88) (a := 1) K dX6_addValve_83 (by decide) (by omega) (fun h83_17 => absurd h83_17 (by omega)) (fun h83_17 => ?_)
          refine g_iconst K 0 dX6_addValve_86 (by decide +kernel) ?_
          exfalso; omega
      · refine g_iconst K 1 dX6_addValve_58 (by decide +kernel) ?_
        refine g_goto (tgt := 80) K dX6_addValve_59 (by decide) ?_
        refine g_callVd (q := 22) (ci := 6) (As := [.int (nI (1))]) (rest := []) (C := RX6) (T := TX6) (N := 17) K (cX6_refused_k (g_z X) S 1 (by omega)) (cwV 1 K.1.2.2.2.2 gX6_addValve_X6_refused rfl rfl rfl (by decide +kernel) ⟨Nat.le_trans (Nat.le_of_ble_eq_true rfl) hRf, Nat.le_trans (Nat.le_of_ble_eq_true rfl) hRl⟩) rfl rfl rfl rfl (Nat.le_of_ble_eq_true rfl) dX6_addValve_80 ?_
        refine g_cast (S' := (va_up S 22 (va_up (S 22) 0 (1)))) rfl rfl rfl ?_
        refine g_if_eq (tgt := 88) (a := 1) K dX6_addValve_83 (by decide) (by omega) (fun h83_18 => absurd h83_18 (by omega)) (fun h83_18 => ?_)
        refine g_iconst K 0 dX6_addValve_86 (by decide +kernel) ?_
        exfalso; omega
    · refine g_aload_n K 1 dX6_addValve_19 rfl ?_
      refine g_getR (q' := 24) (q := 22) (ci := 6) (k := 6) (N := 17) (C := RX6) (T := TX6) (ref := "ValveWalkModel") K rfl rfl rfl (by decide) hin6 (by decide +kernel) rfl dX6_addValve_20 ?_
      refine g_iconst K 2 dX6_addValve_23 (by decide +kernel) ?_
      refine g_iload_n K 2 dX6_addValve_24 rfl ?_
      refine g_imul (a := 2) (b := p) K dX6_addValve_25 ?_
      refine g_iload_n K 3 dX6_addValve_26 rfl ?_
      refine g_iadd (a := (2) * (p)) (b := e) K dX6_addValve_27 ?_
      refine g_ald (q := 24) (n := 32) (i := ((2) * (p)) + (e)) K rfl (by decide) (by omega) dX6_addValve_28 ?_
      have hv28_19 := b24 (((2) * (p)) + (e))
      have h24 := b24 (2 * p + e)
      refine g_iconst K 4294967295 dX6_addValve_29 (by decide +kernel) ?_
      refine g_icmp_ne (tgt := 46) (a := S 24 (((2) * (p)) + (e))) (b := 4294967295) K dX6_addValve_30 (by decide) (by omega) (by omega) (fun h30_20 => ?_) (fun h30_20 => ?_)
      · refine g_iconst K 0 dX6_addValve_46 (by decide +kernel) ?_
        refine g_istore (lo' := [(4, .int (nI (0))), (3, .int (nI (inF e 0 1))), (0, .ref (g_ad X 22)), (1, .int (nI (p))), (2, .int (nI (e)))]) K dX6_addValve_47 (by decide) rfl ?_
        refine g_aload_n K 2 dX6_addValve_49 rfl ?_
        refine g_aload_n K 2 dX6_addValve_50 rfl ?_
        refine g_iload_n K 3 dX6_addValve_51 rfl ?_
        refine g_callVd (q := 22) (ci := 6) (As := [.int (nI (p))]) (rest := [.ref (g_ad X 22)]) (C := RX6) (T := TX6) (N := 17) K (cX6_isPipe_k (g_z X) S p (hm) (by omega)) (cwV 1 K.1.2.2.2.2 gX6_addValve_X6_isPipe rfl rfl rfl (by decide +kernel) ⟨Nat.le_trans (Nat.le_of_ble_eq_true rfl) hRf, Nat.le_trans (Nat.le_of_ble_eq_true rfl) hRl⟩) rfl rfl rfl rfl (Nat.le_of_ble_eq_true rfl) dX6_addValve_52 ?_
        have hf52_21 := isN_spec (S 22 2) p
        refine g_if_ne (tgt := 62) (a := isN (S 22 2) p) K dX6_addValve_55 (by decide) (by omega) (fun h55_22 => ?_) (fun h55_22 => ?_)
        · refine g_iload_n K 1 dX6_addValve_62 rfl ?_
          refine g_if_ne (tgt := 70) (a := inF e 0 1) K dX6_addValve_63 (by decide) (by omega) (fun h63_23 => ?_) (fun h63_23 => ?_)
          · refine g_iload K 0 dX6_addValve_70 rfl ?_
            refine g_if_eq (tgt := 79) (a := 0) K dX6_addValve_72 (by decide) (by omega) (fun h72_24 => ?_) (fun h72_24 => absurd h72_24 (by omega))
            refine g_iconst K 3 dX6_addValve_79 (by decide +kernel) ?_
            refine g_callVd (q := 22) (ci := 6) (As := [.int (nI (3))]) (rest := []) (C := RX6) (T := TX6) (N := 17) K (cX6_refused_k (g_z X) S 3 (by omega)) (cwV 1 K.1.2.2.2.2 gX6_addValve_X6_refused rfl rfl rfl (by decide +kernel) ⟨Nat.le_trans (Nat.le_of_ble_eq_true rfl) hRf, Nat.le_trans (Nat.le_of_ble_eq_true rfl) hRl⟩) rfl rfl rfl rfl (Nat.le_of_ble_eq_true rfl) dX6_addValve_80 ?_
            refine g_cast (S' := (va_up S 22 (va_up (S 22) 0 (3)))) rfl rfl rfl ?_
            refine g_if_eq (tgt := 88) (a := 1) K dX6_addValve_83 (by decide) (by omega) (fun h83_25 => absurd h83_25 (by omega)) (fun h83_25 => ?_)
            refine g_iconst K 0 dX6_addValve_86 (by decide +kernel) ?_
            exact g_retd hret dX6_addValve_87 rfl rfl
          · refine g_iconst K 2 dX6_addValve_66 (by decide +kernel) ?_
            refine g_goto (tgt := 80) K dX6_addValve_67 (by decide) ?_
            refine g_callVd (q := 22) (ci := 6) (As := [.int (nI (2))]) (rest := []) (C := RX6) (T := TX6) (N := 17) K (cX6_refused_k (g_z X) S 2 (by omega)) (cwV 1 K.1.2.2.2.2 gX6_addValve_X6_refused rfl rfl rfl (by decide +kernel) ⟨Nat.le_trans (Nat.le_of_ble_eq_true rfl) hRf, Nat.le_trans (Nat.le_of_ble_eq_true rfl) hRl⟩) rfl rfl rfl rfl (Nat.le_of_ble_eq_true rfl) dX6_addValve_80 ?_
            refine g_cast (S' := (va_up S 22 (va_up (S 22) 0 (2)))) rfl rfl rfl ?_
            refine g_if_eq (tgt := 88) (a := 1) K dX6_addValve_83 (by decide) (by omega) (fun h83_26 => absurd h83_26 (by omega)) (fun h83_26 => ?_)
            refine g_iconst K 0 dX6_addValve_86 (by decide +kernel) ?_
            exfalso; omega
        · refine g_iconst K 1 dX6_addValve_58 (by decide +kernel) ?_
          refine g_goto (tgt := 80) K dX6_addValve_59 (by decide) ?_
          refine g_callVd (q := 22) (ci := 6) (As := [.int (nI (1))]) (rest := []) (C := RX6) (T := TX6) (N := 17) K (cX6_refused_k (g_z X) S 1 (by omega)) (cwV 1 K.1.2.2.2.2 gX6_addValve_X6_refused rfl rfl rfl (by decide +kernel) ⟨Nat.le_trans (Nat.le_of_ble_eq_true rfl) hRf, Nat.le_trans (Nat.le_of_ble_eq_true rfl) hRl⟩) rfl rfl rfl rfl (Nat.le_of_ble_eq_true rfl) dX6_addValve_80 ?_
          refine g_cast (S' := (va_up S 22 (va_up (S 22) 0 (1)))) rfl rfl rfl ?_
          refine g_if_eq (tgt := 88) (a := 1) K dX6_addValve_83 (by decide) (by omega) (fun h83_27 => absurd h83_27 (by omega)) (fun h83_27 => ?_)
          refine g_iconst K 0 dX6_addValve_86 (by decide +kernel) ?_
          exfalso; omega
      · refine g_aload_n K 1 dX6_addValve_33 rfl ?_
        refine g_getI (q := 22) (ci := 6) (k := 3) (N := 17) (C := RX6) (T := TX6) (ref := "ValveWalkModel") K rfl rfl rfl (by decide) hin6 (by decide +kernel) rfl dX6_addValve_34 ?_
        refine g_bipush K 12 dX6_addValve_37 (by decide +kernel) ?_
        refine g_icmp_ge (tgt := 46) (a := S 22 3) (b := 12) K dX6_addValve_39 (by decide) (by omega) (by omega) (fun h39_28 => ?_) (fun h39_28 => ?_)
        · refine g_iconst K 0 dX6_addValve_46 (by decide +kernel) ?_
          refine g_istore (lo' := [(4, .int (nI (0))), (3, .int (nI (inF e 0 1))), (0, .ref (g_ad X 22)), (1, .int (nI (p))), (2, .int (nI (e)))]) K dX6_addValve_47 (by decide) rfl ?_
          refine g_aload_n K 2 dX6_addValve_49 rfl ?_
          refine g_aload_n K 2 dX6_addValve_50 rfl ?_
          refine g_iload_n K 3 dX6_addValve_51 rfl ?_
          refine g_callVd (q := 22) (ci := 6) (As := [.int (nI (p))]) (rest := [.ref (g_ad X 22)]) (C := RX6) (T := TX6) (N := 17) K (cX6_isPipe_k (g_z X) S p (hm) (by omega)) (cwV 1 K.1.2.2.2.2 gX6_addValve_X6_isPipe rfl rfl rfl (by decide +kernel) ⟨Nat.le_trans (Nat.le_of_ble_eq_true rfl) hRf, Nat.le_trans (Nat.le_of_ble_eq_true rfl) hRl⟩) rfl rfl rfl rfl (Nat.le_of_ble_eq_true rfl) dX6_addValve_52 ?_
          have hf52_29 := isN_spec (S 22 2) p
          refine g_if_ne (tgt := 62) (a := isN (S 22 2) p) K dX6_addValve_55 (by decide) (by omega) (fun h55_30 => ?_) (fun h55_30 => ?_)
          · refine g_iload_n K 1 dX6_addValve_62 rfl ?_
            refine g_if_ne (tgt := 70) (a := inF e 0 1) K dX6_addValve_63 (by decide) (by omega) (fun h63_31 => ?_) (fun h63_31 => ?_)
            · refine g_iload K 0 dX6_addValve_70 rfl ?_
              refine g_if_eq (tgt := 79) (a := 0) K dX6_addValve_72 (by decide) (by omega) (fun h72_32 => ?_) (fun h72_32 => absurd h72_32 (by omega))
              refine g_iconst K 3 dX6_addValve_79 (by decide +kernel) ?_
              refine g_callVd (q := 22) (ci := 6) (As := [.int (nI (3))]) (rest := []) (C := RX6) (T := TX6) (N := 17) K (cX6_refused_k (g_z X) S 3 (by omega)) (cwV 1 K.1.2.2.2.2 gX6_addValve_X6_refused rfl rfl rfl (by decide +kernel) ⟨Nat.le_trans (Nat.le_of_ble_eq_true rfl) hRf, Nat.le_trans (Nat.le_of_ble_eq_true rfl) hRl⟩) rfl rfl rfl rfl (Nat.le_of_ble_eq_true rfl) dX6_addValve_80 ?_
              refine g_cast (S' := (va_up S 22 (va_up (S 22) 0 (3)))) rfl rfl rfl ?_
              refine g_if_eq (tgt := 88) (a := 1) K dX6_addValve_83 (by decide) (by omega) (fun h83_33 => absurd h83_33 (by omega)) (fun h83_33 => ?_)
              refine g_iconst K 0 dX6_addValve_86 (by decide +kernel) ?_
              exact g_retd hret dX6_addValve_87 rfl rfl
            · refine g_iconst K 2 dX6_addValve_66 (by decide +kernel) ?_
              refine g_goto (tgt := 80) K dX6_addValve_67 (by decide) ?_
              refine g_callVd (q := 22) (ci := 6) (As := [.int (nI (2))]) (rest := []) (C := RX6) (T := TX6) (N := 17) K (cX6_refused_k (g_z X) S 2 (by omega)) (cwV 1 K.1.2.2.2.2 gX6_addValve_X6_refused rfl rfl rfl (by decide +kernel) ⟨Nat.le_trans (Nat.le_of_ble_eq_true rfl) hRf, Nat.le_trans (Nat.le_of_ble_eq_true rfl) hRl⟩) rfl rfl rfl rfl (Nat.le_of_ble_eq_true rfl) dX6_addValve_80 ?_
              refine g_cast (S' := (va_up S 22 (va_up (S 22) 0 (2)))) rfl rfl rfl ?_
              refine g_if_eq (tgt := 88) (a := 1) K dX6_addValve_83 (by decide) (by omega) (fun h83_34 => absurd h83_34 (by omega)) (fun h83_34 => ?_)
              refine g_iconst K 0 dX6_addValve_86 (by decide +kernel) ?_
              exfalso; omega
          · refine g_iconst K 1 dX6_addValve_58 (by decide +kernel) ?_
            refine g_goto (tgt := 80) K dX6_addValve_59 (by decide) ?_
            refine g_callVd (q := 22) (ci := 6) (As := [.int (nI (1))]) (rest := []) (C := RX6) (T := TX6) (N := 17) K (cX6_refused_k (g_z X) S 1 (by omega)) (cwV 1 K.1.2.2.2.2 gX6_addValve_X6_refused rfl rfl rfl (by decide +kernel) ⟨Nat.le_trans (Nat.le_of_ble_eq_true rfl) hRf, Nat.le_trans (Nat.le_of_ble_eq_true rfl) hRl⟩) rfl rfl rfl rfl (Nat.le_of_ble_eq_true rfl) dX6_addValve_80 ?_
            refine g_cast (S' := (va_up S 22 (va_up (S 22) 0 (1)))) rfl rfl rfl ?_
            refine g_if_eq (tgt := 88) (a := 1) K dX6_addValve_83 (by decide) (by omega) (fun h83_35 => absurd h83_35 (by omega)) (fun h83_35 => ?_)
            refine g_iconst K 0 dX6_addValve_86 (by decide +kernel) ?_
            exfalso; omega
        · refine g_iconst K 1 dX6_addValve_42 (by decide +kernel) ?_
          refine g_goto (tgt := 47) K dX6_addValve_43 (by decide) ?_
          refine g_istore (lo' := [(4, .int (nI (1))), (3, .int (nI (inF e 0 1))), (0, .ref (g_ad X 22)), (1, .int (nI (p))), (2, .int (nI (e)))]) K dX6_addValve_47 (by decide) rfl ?_
          refine g_aload_n K 2 dX6_addValve_49 rfl ?_
          refine g_aload_n K 2 dX6_addValve_50 rfl ?_
          refine g_iload_n K 3 dX6_addValve_51 rfl ?_
          refine g_callVd (q := 22) (ci := 6) (As := [.int (nI (p))]) (rest := [.ref (g_ad X 22)]) (C := RX6) (T := TX6) (N := 17) K (cX6_isPipe_k (g_z X) S p (hm) (by omega)) (cwV 1 K.1.2.2.2.2 gX6_addValve_X6_isPipe rfl rfl rfl (by decide +kernel) ⟨Nat.le_trans (Nat.le_of_ble_eq_true rfl) hRf, Nat.le_trans (Nat.le_of_ble_eq_true rfl) hRl⟩) rfl rfl rfl rfl (Nat.le_of_ble_eq_true rfl) dX6_addValve_52 ?_
          have hf52_36 := isN_spec (S 22 2) p
          refine g_if_ne (tgt := 62) (a := isN (S 22 2) p) K dX6_addValve_55 (by decide) (by omega) (fun h55_37 => ?_) (fun h55_37 => ?_)
          · refine g_iload_n K 1 dX6_addValve_62 rfl ?_
            refine g_if_ne (tgt := 70) (a := inF e 0 1) K dX6_addValve_63 (by decide) (by omega) (fun h63_38 => ?_) (fun h63_38 => ?_)
            · refine g_iload K 0 dX6_addValve_70 rfl ?_
              refine g_if_eq (tgt := 79) (a := 1) K dX6_addValve_72 (by decide) (by omega) (fun h72_39 => absurd h72_39 (by omega)) (fun h72_39 => ?_)
              refine g_iconst K 0 dX6_addValve_75 (by decide +kernel) ?_
              refine g_goto (tgt := 80) K dX6_addValve_76 (by decide) ?_
              refine g_callVd (q := 22) (ci := 6) (As := [.int (nI (0))]) (rest := []) (C := RX6) (T := TX6) (N := 17) K (cX6_refused_k (g_z X) S 0 (by omega)) (cwV 1 K.1.2.2.2.2 gX6_addValve_X6_refused rfl rfl rfl (by decide +kernel) ⟨Nat.le_trans (Nat.le_of_ble_eq_true rfl) hRf, Nat.le_trans (Nat.le_of_ble_eq_true rfl) hRl⟩) rfl rfl rfl rfl (Nat.le_of_ble_eq_true rfl) dX6_addValve_80 ?_
              refine g_cast (S' := (va_up S 22 (va_up (S 22) 0 (0)))) rfl rfl rfl ?_
              refine g_if_eq (tgt := 88) (a := 0) K dX6_addValve_83 (by decide) (by omega) (fun h83_40 => ?_) (fun h83_40 => absurd h83_40 (by omega))
              exfalso; omega
            · refine g_iconst K 2 dX6_addValve_66 (by decide +kernel) ?_
              refine g_goto (tgt := 80) K dX6_addValve_67 (by decide) ?_
              refine g_callVd (q := 22) (ci := 6) (As := [.int (nI (2))]) (rest := []) (C := RX6) (T := TX6) (N := 17) K (cX6_refused_k (g_z X) S 2 (by omega)) (cwV 1 K.1.2.2.2.2 gX6_addValve_X6_refused rfl rfl rfl (by decide +kernel) ⟨Nat.le_trans (Nat.le_of_ble_eq_true rfl) hRf, Nat.le_trans (Nat.le_of_ble_eq_true rfl) hRl⟩) rfl rfl rfl rfl (Nat.le_of_ble_eq_true rfl) dX6_addValve_80 ?_
              refine g_cast (S' := (va_up S 22 (va_up (S 22) 0 (2)))) rfl rfl rfl ?_
              refine g_if_eq (tgt := 88) (a := 1) K dX6_addValve_83 (by decide) (by omega) (fun h83_41 => absurd h83_41 (by omega)) (fun h83_41 => ?_)
              refine g_iconst K 0 dX6_addValve_86 (by decide +kernel) ?_
              exfalso; omega
          · refine g_iconst K 1 dX6_addValve_58 (by decide +kernel) ?_
            refine g_goto (tgt := 80) K dX6_addValve_59 (by decide) ?_
            refine g_callVd (q := 22) (ci := 6) (As := [.int (nI (1))]) (rest := []) (C := RX6) (T := TX6) (N := 17) K (cX6_refused_k (g_z X) S 1 (by omega)) (cwV 1 K.1.2.2.2.2 gX6_addValve_X6_refused rfl rfl rfl (by decide +kernel) ⟨Nat.le_trans (Nat.le_of_ble_eq_true rfl) hRf, Nat.le_trans (Nat.le_of_ble_eq_true rfl) hRl⟩) rfl rfl rfl rfl (Nat.le_of_ble_eq_true rfl) dX6_addValve_80 ?_
            refine g_cast (S' := (va_up S 22 (va_up (S 22) 0 (1)))) rfl rfl rfl ?_
            refine g_if_eq (tgt := 88) (a := 1) K dX6_addValve_83 (by decide) (by omega) (fun h83_42 => absurd h83_42 (by omega)) (fun h83_42 => ?_)
            refine g_iconst K 0 dX6_addValve_86 (by decide +kernel) ?_
            exfalso; omega

def g1 (s k : Nat) : Nat := if (s >>> k) &&& 1 = 1 then 1 else 0
theorem g1_le (s k : Nat) : g1 s k ≤ 1 := by unfold g1; split <;> omega
set_option maxHeartbeats 4000000 in
set_option maxRecDepth 100000 in
theorem cX6_setSource_k (Z : gZ) (S : Nat → Nat → Nat) (n i : Nat) (hm : wfM S) (hun : n < 4294967296) (hn : n < S 22 1) (hi : i < 4294967296) : gMd Z yX6_setSource wsX6_setSource { frames := 2, cells := 0, slots := 0, locals := 43 } [.ref (gz_ad Z 22), .int (nI (n)), .int (nI (i))] S (g1 (S 22 4) n) (va_up S 22 (va_up (va_up (S 22) 0 (0)) 4 ((if i = 0 then S 22 4 &&& ((1 <<< n) ^^^ 4294967295) else S 22 4 ||| (1 <<< n))))) := by
  refine gMd_of (cc := cX6_setSource) (maxL := 4) (ret := (some .boolean)) (by decide +kernel) rfl (Nat.le_of_ble_eq_true rfl) (Or.inr ⟨rfl, g1_le _ _⟩) (fun X hZ hR K hret => ?_)
  subst hZ
  have K : gOk X cX6_setSource 4 wsX6_setSource RX6 := K
  have hRf : 2 ≤ (g_R X).frames := gR_f hR rfl
  have hRl : 43 ≤ (g_R X).locals := gR_l hR rfl
  have hin6 : ∀ w ∈ u_ws RX6 TX6 17, w ∈ wsX6_setSource := by decide +kernel
  obtain ⟨m1, m2, m3, m4, msh, mst, b23, b24, b25, b26, b27⟩ := id hm
  show gG X 0 [(0, .ref (g_ad X 22)), (1, .int (nI (n))), (2, .int (nI (i)))] [] S
  refine g_aload_n K 0 dX6_setSource_0 rfl ?_
  refine g_aload_n K 0 dX6_setSource_1 rfl ?_
  refine g_iload_n K 1 dX6_setSource_2 rfl ?_
  refine g_callVd (q := 22) (ci := 6) (As := [.int (nI (n))]) (rest := [.ref (g_ad X 22)]) (C := RX6) (T := TX6) (N := 17) K (cX6_isNode_k (g_z X) S n (hm) (by omega)) (cwV 1 K.1.2.2.2.2 gX6_setSource_X6_isNode rfl rfl rfl (by decide +kernel) ⟨Nat.le_trans (Nat.le_of_ble_eq_true rfl) hRf, Nat.le_trans (Nat.le_of_ble_eq_true rfl) hRl⟩) rfl rfl rfl rfl (Nat.le_of_ble_eq_true rfl) dX6_setSource_3 ?_
  have hf3_1 := isN_spec (S 22 1) n
  refine g_if_eq (tgt := 13) (a := isN (S 22 1) n) K dX6_setSource_6 (by decide) (by omega) (fun h6_2 => ?_) (fun h6_2 => ?_)
  · refine g_iconst K 1 dX6_setSource_13 (by decide +kernel) ?_
    refine g_callVd (q := 22) (ci := 6) (As := [.int (nI (1))]) (rest := []) (C := RX6) (T := TX6) (N := 17) K (cX6_refused_k (g_z X) S 1 (by omega)) (cwV 1 K.1.2.2.2.2 gX6_setSource_X6_refused rfl rfl rfl (by decide +kernel) ⟨Nat.le_trans (Nat.le_of_ble_eq_true rfl) hRf, Nat.le_trans (Nat.le_of_ble_eq_true rfl) hRl⟩) rfl rfl rfl rfl (Nat.le_of_ble_eq_true rfl) dX6_setSource_14 ?_
    refine g_cast (S' := (va_up S 22 (va_up (S 22) 0 (1)))) rfl rfl rfl ?_
    refine g_if_eq (tgt := 22) (a := 1) K dX6_setSource_17 (by decide) (by omega) (fun h17_3 => absurd h17_3 (by omega)) (fun h17_3 => ?_)
    exfalso; omega
  · refine g_iconst K 0 dX6_setSource_9 (by decide +kernel) ?_
    refine g_goto (tgt := 14) K dX6_setSource_10 (by decide) ?_
    refine g_callVd (q := 22) (ci := 6) (As := [.int (nI (0))]) (rest := []) (C := RX6) (T := TX6) (N := 17) K (cX6_refused_k (g_z X) S 0 (by omega)) (cwV 1 K.1.2.2.2.2 gX6_setSource_X6_refused rfl rfl rfl (by decide +kernel) ⟨Nat.le_trans (Nat.le_of_ble_eq_true rfl) hRf, Nat.le_trans (Nat.le_of_ble_eq_true rfl) hRl⟩) rfl rfl rfl rfl (Nat.le_of_ble_eq_true rfl) dX6_setSource_14 ?_
    refine g_cast (S' := (va_up S 22 (va_up (S 22) 0 (0)))) rfl rfl rfl ?_
    refine g_if_eq (tgt := 22) (a := 0) K dX6_setSource_17 (by decide) (by omega) (fun h17_4 => ?_) (fun h17_4 => absurd h17_4 (by omega))
    refine g_aload_n K 0 dX6_setSource_22 rfl ?_
    refine g_getI (q := 22) (ci := 6) (k := 4) (N := 17) (C := RX6) (T := TX6) (ref := "ValveWalkModel") K rfl rfl rfl (by decide) hin6 (by decide +kernel) rfl dX6_setSource_23 ?_
    refine g_topE (S 22 4) rfl ?_
    refine g_iload_n K 1 dX6_setSource_26 rfl ?_
    refine g_ishr (a := S 22 4) (b := n) K (by omega) (by omega) dX6_setSource_27 ?_
    refine g_iconst K 1 dX6_setSource_28 (by decide +kernel) ?_
    refine g_iand (a := (S 22 4) >>> (n)) (b := 1) K dX6_setSource_29 ?_
    have hL29_5 := @Nat.and_le_left ((S 22 4) >>> (n)) (1)
    have hR29_6 := @Nat.and_le_right ((S 22 4) >>> (n)) (1)
    refine g_iconst K 1 dX6_setSource_30 (by decide +kernel) ?_
    refine g_icmp_ne (tgt := 38) (a := ((S 22 4) >>> (n)) &&& (1)) (b := 1) K dX6_setSource_31 (by decide) (by omega) (by omega) (fun h31_7 => ?_) (fun h31_7 => ?_)
    · refine g_iconst K 0 dX6_setSource_38 (by decide +kernel) ?_
      refine g_istore_n (lo' := [(3, .int (nI (0))), (0, .ref (g_ad X 22)), (1, .int (nI (n))), (2, .int (nI (i)))]) K dX6_setSource_39 (by decide) rfl ?_
      refine g_aload_n K 1 dX6_setSource_40 rfl ?_
      refine g_iload_n K 3 dX6_setSource_41 rfl ?_
      refine g_if_eq (tgt := 56) (a := i) K dX6_setSource_42 (by decide) (by omega) (fun h42_8 => ?_) (fun h42_8 => ?_)
      · refine g_aload_n K 1 dX6_setSource_56 rfl ?_
        refine g_getI (q := 22) (ci := 6) (k := 4) (N := 17) (C := RX6) (T := TX6) (ref := "ValveWalkModel") K rfl rfl rfl (by decide) hin6 (by decide +kernel) rfl dX6_setSource_57 ?_
        refine g_topE (S 22 4) rfl ?_
        refine g_iconst K 1 dX6_setSource_60 (by decide +kernel) ?_
        refine g_iload_n K 2 dX6_setSource_61 rfl ?_
        refine g_ishl (a := 1) (b := n) K (by omega) dX6_setSource_62 ?_
        refine g_iconst K 4294967295 dX6_setSource_63 (by decide +kernel) ?_
        refine g_ixor (a := (1) <<< (n)) (b := 4294967295) K dX6_setSource_64 ?_
        refine g_iand (a := S 22 4) (b := ((1) <<< (n)) ^^^ (4294967295)) K dX6_setSource_65 ?_
        have hL65_9 := @Nat.and_le_left (S 22 4) (((1) <<< (n)) ^^^ (4294967295))
        have hR65_10 := @Nat.and_le_right (S 22 4) (((1) <<< (n)) ^^^ (4294967295))
        refine g_putI (q := 22) (ci := 6) (k := 4) (N := 17) (C := RX6) (T := TX6) (ref := "ValveWalkModel") (a := (S 22 4) &&& (((1) <<< (n)) ^^^ (4294967295))) K rfl rfl rfl (by decide) hin6 tyX6_ok nmX6 (by decide +kernel) rfl rfl (by decide +kernel) dX6_setSource_66 ?_
        refine g_cast (S' := (va_up S 22 (va_up (va_up (S 22) 0 (0)) 4 ((S 22 4) &&& (((1) <<< (n)) ^^^ (4294967295)))))) rfl rfl (gup_w1a) ?_
        refine g_iload_n K 0 dX6_setSource_69 rfl ?_
        exact g_retd hret dX6_setSource_70 ((if_neg (by assumption)).symm) (by first | (rw [if_pos (by assumption)]; done) | (rw [if_neg (by assumption)]; done) | (rw [if_pos (by assumption)]; rfl) | (rw [if_neg (by assumption)]; rfl) | rfl)
      · refine g_aload_n K 1 dX6_setSource_45 rfl ?_
        refine g_getI (q := 22) (ci := 6) (k := 4) (N := 17) (C := RX6) (T := TX6) (ref := "ValveWalkModel") K rfl rfl rfl (by decide) hin6 (by decide +kernel) rfl dX6_setSource_46 ?_
        refine g_topE (S 22 4) rfl ?_
        refine g_iconst K 1 dX6_setSource_49 (by decide +kernel) ?_
        refine g_iload_n K 2 dX6_setSource_50 rfl ?_
        refine g_ishl (a := 1) (b := n) K (by omega) dX6_setSource_51 ?_
        refine g_ior (a := S 22 4) (b := (1) <<< (n)) K dX6_setSource_52 ?_
        refine g_goto (tgt := 66) K dX6_setSource_53 (by decide) ?_
        refine g_putI (q := 22) (ci := 6) (k := 4) (N := 17) (C := RX6) (T := TX6) (ref := "ValveWalkModel") (a := (S 22 4) ||| ((1) <<< (n))) K rfl rfl rfl (by decide) hin6 tyX6_ok nmX6 (by decide +kernel) rfl rfl (by decide +kernel) dX6_setSource_66 ?_
        refine g_cast (S' := (va_up S 22 (va_up (va_up (S 22) 0 (0)) 4 ((S 22 4) ||| ((1) <<< (n)))))) rfl rfl (gup_w1a) ?_
        refine g_iload_n K 0 dX6_setSource_69 rfl ?_
        exact g_retd hret dX6_setSource_70 ((if_neg (by assumption)).symm) (by first | (rw [if_pos (by assumption)]; done) | (rw [if_neg (by assumption)]; done) | (rw [if_pos (by assumption)]; rfl) | (rw [if_neg (by assumption)]; rfl) | rfl)
    · refine g_iconst K 1 dX6_setSource_34 (by decide +kernel) ?_
      refine g_goto (tgt := 39) K dX6_setSource_35 (by decide) ?_
      refine g_istore_n (lo' := [(3, .int (nI (1))), (0, .ref (g_ad X 22)), (1, .int (nI (n))), (2, .int (nI (i)))]) K dX6_setSource_39 (by decide) rfl ?_
      refine g_aload_n K 1 dX6_setSource_40 rfl ?_
      refine g_iload_n K 3 dX6_setSource_41 rfl ?_
      refine g_if_eq (tgt := 56) (a := i) K dX6_setSource_42 (by decide) (by omega) (fun h42_11 => ?_) (fun h42_11 => ?_)
      · refine g_aload_n K 1 dX6_setSource_56 rfl ?_
        refine g_getI (q := 22) (ci := 6) (k := 4) (N := 17) (C := RX6) (T := TX6) (ref := "ValveWalkModel") K rfl rfl rfl (by decide) hin6 (by decide +kernel) rfl dX6_setSource_57 ?_
        refine g_topE (S 22 4) rfl ?_
        refine g_iconst K 1 dX6_setSource_60 (by decide +kernel) ?_
        refine g_iload_n K 2 dX6_setSource_61 rfl ?_
        refine g_ishl (a := 1) (b := n) K (by omega) dX6_setSource_62 ?_
        refine g_iconst K 4294967295 dX6_setSource_63 (by decide +kernel) ?_
        refine g_ixor (a := (1) <<< (n)) (b := 4294967295) K dX6_setSource_64 ?_
        refine g_iand (a := S 22 4) (b := ((1) <<< (n)) ^^^ (4294967295)) K dX6_setSource_65 ?_
        have hL65_12 := @Nat.and_le_left (S 22 4) (((1) <<< (n)) ^^^ (4294967295))
        have hR65_13 := @Nat.and_le_right (S 22 4) (((1) <<< (n)) ^^^ (4294967295))
        refine g_putI (q := 22) (ci := 6) (k := 4) (N := 17) (C := RX6) (T := TX6) (ref := "ValveWalkModel") (a := (S 22 4) &&& (((1) <<< (n)) ^^^ (4294967295))) K rfl rfl rfl (by decide) hin6 tyX6_ok nmX6 (by decide +kernel) rfl rfl (by decide +kernel) dX6_setSource_66 ?_
        refine g_cast (S' := (va_up S 22 (va_up (va_up (S 22) 0 (0)) 4 ((S 22 4) &&& (((1) <<< (n)) ^^^ (4294967295)))))) rfl rfl (gup_w1a) ?_
        refine g_iload_n K 0 dX6_setSource_69 rfl ?_
        exact g_retd hret dX6_setSource_70 ((if_pos (by assumption)).symm) (by first | (rw [if_pos (by assumption)]; done) | (rw [if_neg (by assumption)]; done) | (rw [if_pos (by assumption)]; rfl) | (rw [if_neg (by assumption)]; rfl) | rfl)
      · refine g_aload_n K 1 dX6_setSource_45 rfl ?_
        refine g_getI (q := 22) (ci := 6) (k := 4) (N := 17) (C := RX6) (T := TX6) (ref := "ValveWalkModel") K rfl rfl rfl (by decide) hin6 (by decide +kernel) rfl dX6_setSource_46 ?_
        refine g_topE (S 22 4) rfl ?_
        refine g_iconst K 1 dX6_setSource_49 (by decide +kernel) ?_
        refine g_iload_n K 2 dX6_setSource_50 rfl ?_
        refine g_ishl (a := 1) (b := n) K (by omega) dX6_setSource_51 ?_
        refine g_ior (a := S 22 4) (b := (1) <<< (n)) K dX6_setSource_52 ?_
        refine g_goto (tgt := 66) K dX6_setSource_53 (by decide) ?_
        refine g_putI (q := 22) (ci := 6) (k := 4) (N := 17) (C := RX6) (T := TX6) (ref := "ValveWalkModel") (a := (S 22 4) ||| ((1) <<< (n))) K rfl rfl rfl (by decide) hin6 tyX6_ok nmX6 (by decide +kernel) rfl rfl (by decide +kernel) dX6_setSource_66 ?_
        refine g_cast (S' := (va_up S 22 (va_up (va_up (S 22) 0 (0)) 4 ((S 22 4) ||| ((1) <<< (n)))))) rfl rfl (gup_w1a) ?_
        refine g_iload_n K 0 dX6_setSource_69 rfl ?_
        exact g_retd hret dX6_setSource_70 ((if_pos (by assumption)).symm) (by first | (rw [if_pos (by assumption)]; done) | (rw [if_neg (by assumption)]; done) | (rw [if_pos (by assumption)]; rfl) | (rw [if_neg (by assumption)]; rfl) | rfl)

set_option maxHeartbeats 4000000 in
set_option maxRecDepth 100000 in
theorem cX6_setSource_r1 (Z : gZ) (S : Nat → Nat → Nat) (n i : Nat) (hm : wfM S) (hun : n < 4294967296) (hn : S 22 1 ≤ n) (hi : i < 4294967296) : gMd Z yX6_setSource wsX6_setSource { frames := 2, cells := 0, slots := 0, locals := 43 } [.ref (gz_ad Z 22), .int (nI (n)), .int (nI (i))] S (0) (va_up S 22 (va_up (S 22) 0 (1))) := by
  refine gMd_of (cc := cX6_setSource) (maxL := 4) (ret := (some .boolean)) (by decide +kernel) rfl (Nat.le_of_ble_eq_true rfl) (Or.inr ⟨rfl, by decide⟩) (fun X hZ hR K hret => ?_)
  subst hZ
  have K : gOk X cX6_setSource 4 wsX6_setSource RX6 := K
  have hRf : 2 ≤ (g_R X).frames := gR_f hR rfl
  have hRl : 43 ≤ (g_R X).locals := gR_l hR rfl
  have hin6 : ∀ w ∈ u_ws RX6 TX6 17, w ∈ wsX6_setSource := by decide +kernel
  obtain ⟨m1, m2, m3, m4, msh, mst, b23, b24, b25, b26, b27⟩ := id hm
  show gG X 0 [(0, .ref (g_ad X 22)), (1, .int (nI (n))), (2, .int (nI (i)))] [] S
  refine g_aload_n K 0 dX6_setSource_0 rfl ?_
  refine g_aload_n K 0 dX6_setSource_1 rfl ?_
  refine g_iload_n K 1 dX6_setSource_2 rfl ?_
  refine g_callVd (q := 22) (ci := 6) (As := [.int (nI (n))]) (rest := [.ref (g_ad X 22)]) (C := RX6) (T := TX6) (N := 17) K (cX6_isNode_k (g_z X) S n (hm) (by omega)) (cwV 1 K.1.2.2.2.2 gX6_setSource_X6_isNode rfl rfl rfl (by decide +kernel) ⟨Nat.le_trans (Nat.le_of_ble_eq_true rfl) hRf, Nat.le_trans (Nat.le_of_ble_eq_true rfl) hRl⟩) rfl rfl rfl rfl (Nat.le_of_ble_eq_true rfl) dX6_setSource_3 ?_
  have hf3_1 := isN_spec (S 22 1) n
  refine g_if_eq (tgt := 13) (a := isN (S 22 1) n) K dX6_setSource_6 (by decide) (by omega) (fun h6_2 => ?_) (fun h6_2 => ?_)
  · refine g_iconst K 1 dX6_setSource_13 (by decide +kernel) ?_
    refine g_callVd (q := 22) (ci := 6) (As := [.int (nI (1))]) (rest := []) (C := RX6) (T := TX6) (N := 17) K (cX6_refused_k (g_z X) S 1 (by omega)) (cwV 1 K.1.2.2.2.2 gX6_setSource_X6_refused rfl rfl rfl (by decide +kernel) ⟨Nat.le_trans (Nat.le_of_ble_eq_true rfl) hRf, Nat.le_trans (Nat.le_of_ble_eq_true rfl) hRl⟩) rfl rfl rfl rfl (Nat.le_of_ble_eq_true rfl) dX6_setSource_14 ?_
    refine g_cast (S' := (va_up S 22 (va_up (S 22) 0 (1)))) rfl rfl rfl ?_
    refine g_if_eq (tgt := 22) (a := 1) K dX6_setSource_17 (by decide) (by omega) (fun h17_3 => absurd h17_3 (by omega)) (fun h17_3 => ?_)
    refine g_iconst K 0 dX6_setSource_20 (by decide +kernel) ?_
    exact g_retd hret dX6_setSource_21 rfl rfl
  · refine g_iconst K 0 dX6_setSource_9 (by decide +kernel) ?_
    refine g_goto (tgt := 14) K dX6_setSource_10 (by decide) ?_
    refine g_callVd (q := 22) (ci := 6) (As := [.int (nI (0))]) (rest := []) (C := RX6) (T := TX6) (N := 17) K (cX6_refused_k (g_z X) S 0 (by omega)) (cwV 1 K.1.2.2.2.2 gX6_setSource_X6_refused rfl rfl rfl (by decide +kernel) ⟨Nat.le_trans (Nat.le_of_ble_eq_true rfl) hRf, Nat.le_trans (Nat.le_of_ble_eq_true rfl) hRl⟩) rfl rfl rfl rfl (Nat.le_of_ble_eq_true rfl) dX6_setSource_14 ?_
    refine g_cast (S' := (va_up S 22 (va_up (S 22) 0 (0)))) rfl rfl rfl ?_
    refine g_if_eq (tgt := 22) (a := 0) K dX6_setSource_17 (by decide) (by omega) (fun h17_4 => ?_) (fun h17_4 => absurd h17_4 (by omega))
    exfalso; omega

set_option maxHeartbeats 4000000 in
set_option maxRecDepth 100000 in
theorem cX6_setStuck_k (Z : gZ) (S : Nat → Nat → Nat) (n i : Nat) (hm : wfM S) (hun : n < 4294967296) (hn : n < S 22 3) (hi : i < 4294967296) : gMd Z yX6_setStuck wsX6_setStuck { frames := 2, cells := 0, slots := 0, locals := 43 } [.ref (gz_ad Z 22), .int (nI (n)), .int (nI (i))] S (g1 (S 22 11) n) (va_up S 22 (va_up (va_up (S 22) 0 (0)) 11 ((if i = 0 then S 22 11 &&& ((1 <<< n) ^^^ 4294967295) else S 22 11 ||| (1 <<< n))))) := by
  refine gMd_of (cc := cX6_setStuck) (maxL := 4) (ret := (some .boolean)) (by decide +kernel) rfl (Nat.le_of_ble_eq_true rfl) (Or.inr ⟨rfl, g1_le _ _⟩) (fun X hZ hR K hret => ?_)
  subst hZ
  have K : gOk X cX6_setStuck 4 wsX6_setStuck RX6 := K
  have hRf : 2 ≤ (g_R X).frames := gR_f hR rfl
  have hRl : 43 ≤ (g_R X).locals := gR_l hR rfl
  have hin6 : ∀ w ∈ u_ws RX6 TX6 17, w ∈ wsX6_setStuck := by decide +kernel
  obtain ⟨m1, m2, m3, m4, msh, mst, b23, b24, b25, b26, b27⟩ := id hm
  show gG X 0 [(0, .ref (g_ad X 22)), (1, .int (nI (n))), (2, .int (nI (i)))] [] S
  refine g_aload_n K 0 dX6_setStuck_0 rfl ?_
  refine g_aload_n K 0 dX6_setStuck_1 rfl ?_
  refine g_iload_n K 1 dX6_setStuck_2 rfl ?_
  refine g_callVd (q := 22) (ci := 6) (As := [.int (nI (n))]) (rest := [.ref (g_ad X 22)]) (C := RX6) (T := TX6) (N := 17) K (cX6_isValve_k (g_z X) S n (hm) (by omega)) (cwV 1 K.1.2.2.2.2 gX6_setStuck_X6_isValve rfl rfl rfl (by decide +kernel) ⟨Nat.le_trans (Nat.le_of_ble_eq_true rfl) hRf, Nat.le_trans (Nat.le_of_ble_eq_true rfl) hRl⟩) rfl rfl rfl rfl (Nat.le_of_ble_eq_true rfl) dX6_setStuck_3 ?_
  have hf3_1 := isN_spec (S 22 3) n
  refine g_if_eq (tgt := 13) (a := isN (S 22 3) n) K dX6_setStuck_6 (by decide) (by omega) (fun h6_2 => ?_) (fun h6_2 => ?_)
  · refine g_iconst K 1 dX6_setStuck_13 (by decide +kernel) ?_
    refine g_callVd (q := 22) (ci := 6) (As := [.int (nI (1))]) (rest := []) (C := RX6) (T := TX6) (N := 17) K (cX6_refused_k (g_z X) S 1 (by omega)) (cwV 1 K.1.2.2.2.2 gX6_setStuck_X6_refused rfl rfl rfl (by decide +kernel) ⟨Nat.le_trans (Nat.le_of_ble_eq_true rfl) hRf, Nat.le_trans (Nat.le_of_ble_eq_true rfl) hRl⟩) rfl rfl rfl rfl (Nat.le_of_ble_eq_true rfl) dX6_setStuck_14 ?_
    refine g_cast (S' := (va_up S 22 (va_up (S 22) 0 (1)))) rfl rfl rfl ?_
    refine g_if_eq (tgt := 22) (a := 1) K dX6_setStuck_17 (by decide) (by omega) (fun h17_3 => absurd h17_3 (by omega)) (fun h17_3 => ?_)
    exfalso; omega
  · refine g_iconst K 0 dX6_setStuck_9 (by decide +kernel) ?_
    refine g_goto (tgt := 14) K dX6_setStuck_10 (by decide) ?_
    refine g_callVd (q := 22) (ci := 6) (As := [.int (nI (0))]) (rest := []) (C := RX6) (T := TX6) (N := 17) K (cX6_refused_k (g_z X) S 0 (by omega)) (cwV 1 K.1.2.2.2.2 gX6_setStuck_X6_refused rfl rfl rfl (by decide +kernel) ⟨Nat.le_trans (Nat.le_of_ble_eq_true rfl) hRf, Nat.le_trans (Nat.le_of_ble_eq_true rfl) hRl⟩) rfl rfl rfl rfl (Nat.le_of_ble_eq_true rfl) dX6_setStuck_14 ?_
    refine g_cast (S' := (va_up S 22 (va_up (S 22) 0 (0)))) rfl rfl rfl ?_
    refine g_if_eq (tgt := 22) (a := 0) K dX6_setStuck_17 (by decide) (by omega) (fun h17_4 => ?_) (fun h17_4 => absurd h17_4 (by omega))
    refine g_aload_n K 0 dX6_setStuck_22 rfl ?_
    refine g_getI (q := 22) (ci := 6) (k := 11) (N := 17) (C := RX6) (T := TX6) (ref := "ValveWalkModel") K rfl rfl rfl (by decide) hin6 (by decide +kernel) rfl dX6_setStuck_23 ?_
    refine g_topE (S 22 11) rfl ?_
    refine g_iload_n K 1 dX6_setStuck_26 rfl ?_
    refine g_ishr (a := S 22 11) (b := n) K (by omega) (by omega) dX6_setStuck_27 ?_
    refine g_iconst K 1 dX6_setStuck_28 (by decide +kernel) ?_
    refine g_iand (a := (S 22 11) >>> (n)) (b := 1) K dX6_setStuck_29 ?_
    have hL29_5 := @Nat.and_le_left ((S 22 11) >>> (n)) (1)
    have hR29_6 := @Nat.and_le_right ((S 22 11) >>> (n)) (1)
    refine g_iconst K 1 dX6_setStuck_30 (by decide +kernel) ?_
    refine g_icmp_ne (tgt := 38) (a := ((S 22 11) >>> (n)) &&& (1)) (b := 1) K dX6_setStuck_31 (by decide) (by omega) (by omega) (fun h31_7 => ?_) (fun h31_7 => ?_)
    · refine g_iconst K 0 dX6_setStuck_38 (by decide +kernel) ?_
      refine g_istore_n (lo' := [(3, .int (nI (0))), (0, .ref (g_ad X 22)), (1, .int (nI (n))), (2, .int (nI (i)))]) K dX6_setStuck_39 (by decide) rfl ?_
      refine g_aload_n K 1 dX6_setStuck_40 rfl ?_
      refine g_iload_n K 3 dX6_setStuck_41 rfl ?_
      refine g_if_eq (tgt := 56) (a := i) K dX6_setStuck_42 (by decide) (by omega) (fun h42_8 => ?_) (fun h42_8 => ?_)
      · refine g_aload_n K 1 dX6_setStuck_56 rfl ?_
        refine g_getI (q := 22) (ci := 6) (k := 11) (N := 17) (C := RX6) (T := TX6) (ref := "ValveWalkModel") K rfl rfl rfl (by decide) hin6 (by decide +kernel) rfl dX6_setStuck_57 ?_
        refine g_topE (S 22 11) rfl ?_
        refine g_iconst K 1 dX6_setStuck_60 (by decide +kernel) ?_
        refine g_iload_n K 2 dX6_setStuck_61 rfl ?_
        refine g_ishl (a := 1) (b := n) K (by omega) dX6_setStuck_62 ?_
        refine g_iconst K 4294967295 dX6_setStuck_63 (by decide +kernel) ?_
        refine g_ixor (a := (1) <<< (n)) (b := 4294967295) K dX6_setStuck_64 ?_
        refine g_iand (a := S 22 11) (b := ((1) <<< (n)) ^^^ (4294967295)) K dX6_setStuck_65 ?_
        have hL65_9 := @Nat.and_le_left (S 22 11) (((1) <<< (n)) ^^^ (4294967295))
        have hR65_10 := @Nat.and_le_right (S 22 11) (((1) <<< (n)) ^^^ (4294967295))
        refine g_putI (q := 22) (ci := 6) (k := 11) (N := 17) (C := RX6) (T := TX6) (ref := "ValveWalkModel") (a := (S 22 11) &&& (((1) <<< (n)) ^^^ (4294967295))) K rfl rfl rfl (by decide) hin6 tyX6_ok nmX6 (by decide +kernel) rfl rfl (by decide +kernel) dX6_setStuck_66 ?_
        refine g_cast (S' := (va_up S 22 (va_up (va_up (S 22) 0 (0)) 11 ((S 22 11) &&& (((1) <<< (n)) ^^^ (4294967295)))))) rfl rfl (gup_w1a) ?_
        refine g_iload_n K 0 dX6_setStuck_69 rfl ?_
        exact g_retd hret dX6_setStuck_70 ((if_neg (by assumption)).symm) (by first | (rw [if_pos (by assumption)]; done) | (rw [if_neg (by assumption)]; done) | (rw [if_pos (by assumption)]; rfl) | (rw [if_neg (by assumption)]; rfl) | rfl)
      · refine g_aload_n K 1 dX6_setStuck_45 rfl ?_
        refine g_getI (q := 22) (ci := 6) (k := 11) (N := 17) (C := RX6) (T := TX6) (ref := "ValveWalkModel") K rfl rfl rfl (by decide) hin6 (by decide +kernel) rfl dX6_setStuck_46 ?_
        refine g_topE (S 22 11) rfl ?_
        refine g_iconst K 1 dX6_setStuck_49 (by decide +kernel) ?_
        refine g_iload_n K 2 dX6_setStuck_50 rfl ?_
        refine g_ishl (a := 1) (b := n) K (by omega) dX6_setStuck_51 ?_
        refine g_ior (a := S 22 11) (b := (1) <<< (n)) K dX6_setStuck_52 ?_
        refine g_goto (tgt := 66) K dX6_setStuck_53 (by decide) ?_
        refine g_putI (q := 22) (ci := 6) (k := 11) (N := 17) (C := RX6) (T := TX6) (ref := "ValveWalkModel") (a := (S 22 11) ||| ((1) <<< (n))) K rfl rfl rfl (by decide) hin6 tyX6_ok nmX6 (by decide +kernel) rfl rfl (by decide +kernel) dX6_setStuck_66 ?_
        refine g_cast (S' := (va_up S 22 (va_up (va_up (S 22) 0 (0)) 11 ((S 22 11) ||| ((1) <<< (n)))))) rfl rfl (gup_w1a) ?_
        refine g_iload_n K 0 dX6_setStuck_69 rfl ?_
        exact g_retd hret dX6_setStuck_70 ((if_neg (by assumption)).symm) (by first | (rw [if_pos (by assumption)]; done) | (rw [if_neg (by assumption)]; done) | (rw [if_pos (by assumption)]; rfl) | (rw [if_neg (by assumption)]; rfl) | rfl)
    · refine g_iconst K 1 dX6_setStuck_34 (by decide +kernel) ?_
      refine g_goto (tgt := 39) K dX6_setStuck_35 (by decide) ?_
      refine g_istore_n (lo' := [(3, .int (nI (1))), (0, .ref (g_ad X 22)), (1, .int (nI (n))), (2, .int (nI (i)))]) K dX6_setStuck_39 (by decide) rfl ?_
      refine g_aload_n K 1 dX6_setStuck_40 rfl ?_
      refine g_iload_n K 3 dX6_setStuck_41 rfl ?_
      refine g_if_eq (tgt := 56) (a := i) K dX6_setStuck_42 (by decide) (by omega) (fun h42_11 => ?_) (fun h42_11 => ?_)
      · refine g_aload_n K 1 dX6_setStuck_56 rfl ?_
        refine g_getI (q := 22) (ci := 6) (k := 11) (N := 17) (C := RX6) (T := TX6) (ref := "ValveWalkModel") K rfl rfl rfl (by decide) hin6 (by decide +kernel) rfl dX6_setStuck_57 ?_
        refine g_topE (S 22 11) rfl ?_
        refine g_iconst K 1 dX6_setStuck_60 (by decide +kernel) ?_
        refine g_iload_n K 2 dX6_setStuck_61 rfl ?_
        refine g_ishl (a := 1) (b := n) K (by omega) dX6_setStuck_62 ?_
        refine g_iconst K 4294967295 dX6_setStuck_63 (by decide +kernel) ?_
        refine g_ixor (a := (1) <<< (n)) (b := 4294967295) K dX6_setStuck_64 ?_
        refine g_iand (a := S 22 11) (b := ((1) <<< (n)) ^^^ (4294967295)) K dX6_setStuck_65 ?_
        have hL65_12 := @Nat.and_le_left (S 22 11) (((1) <<< (n)) ^^^ (4294967295))
        have hR65_13 := @Nat.and_le_right (S 22 11) (((1) <<< (n)) ^^^ (4294967295))
        refine g_putI (q := 22) (ci := 6) (k := 11) (N := 17) (C := RX6) (T := TX6) (ref := "ValveWalkModel") (a := (S 22 11) &&& (((1) <<< (n)) ^^^ (4294967295))) K rfl rfl rfl (by decide) hin6 tyX6_ok nmX6 (by decide +kernel) rfl rfl (by decide +kernel) dX6_setStuck_66 ?_
        refine g_cast (S' := (va_up S 22 (va_up (va_up (S 22) 0 (0)) 11 ((S 22 11) &&& (((1) <<< (n)) ^^^ (4294967295)))))) rfl rfl (gup_w1a) ?_
        refine g_iload_n K 0 dX6_setStuck_69 rfl ?_
        exact g_retd hret dX6_setStuck_70 ((if_pos (by assumption)).symm) (by first | (rw [if_pos (by assumption)]; done) | (rw [if_neg (by assumption)]; done) | (rw [if_pos (by assumption)]; rfl) | (rw [if_neg (by assumption)]; rfl) | rfl)
      · refine g_aload_n K 1 dX6_setStuck_45 rfl ?_
        refine g_getI (q := 22) (ci := 6) (k := 11) (N := 17) (C := RX6) (T := TX6) (ref := "ValveWalkModel") K rfl rfl rfl (by decide) hin6 (by decide +kernel) rfl dX6_setStuck_46 ?_
        refine g_topE (S 22 11) rfl ?_
        refine g_iconst K 1 dX6_setStuck_49 (by decide +kernel) ?_
        refine g_iload_n K 2 dX6_setStuck_50 rfl ?_
        refine g_ishl (a := 1) (b := n) K (by omega) dX6_setStuck_51 ?_
        refine g_ior (a := S 22 11) (b := (1) <<< (n)) K dX6_setStuck_52 ?_
        refine g_goto (tgt := 66) K dX6_setStuck_53 (by decide) ?_
        refine g_putI (q := 22) (ci := 6) (k := 11) (N := 17) (C := RX6) (T := TX6) (ref := "ValveWalkModel") (a := (S 22 11) ||| ((1) <<< (n))) K rfl rfl rfl (by decide) hin6 tyX6_ok nmX6 (by decide +kernel) rfl rfl (by decide +kernel) dX6_setStuck_66 ?_
        refine g_cast (S' := (va_up S 22 (va_up (va_up (S 22) 0 (0)) 11 ((S 22 11) ||| ((1) <<< (n)))))) rfl rfl (gup_w1a) ?_
        refine g_iload_n K 0 dX6_setStuck_69 rfl ?_
        exact g_retd hret dX6_setStuck_70 ((if_pos (by assumption)).symm) (by first | (rw [if_pos (by assumption)]; done) | (rw [if_neg (by assumption)]; done) | (rw [if_pos (by assumption)]; rfl) | (rw [if_neg (by assumption)]; rfl) | rfl)

set_option maxHeartbeats 4000000 in
set_option maxRecDepth 100000 in
theorem cX6_setStuck_r1 (Z : gZ) (S : Nat → Nat → Nat) (n i : Nat) (hm : wfM S) (hun : n < 4294967296) (hn : S 22 3 ≤ n) (hi : i < 4294967296) : gMd Z yX6_setStuck wsX6_setStuck { frames := 2, cells := 0, slots := 0, locals := 43 } [.ref (gz_ad Z 22), .int (nI (n)), .int (nI (i))] S (0) (va_up S 22 (va_up (S 22) 0 (1))) := by
  refine gMd_of (cc := cX6_setStuck) (maxL := 4) (ret := (some .boolean)) (by decide +kernel) rfl (Nat.le_of_ble_eq_true rfl) (Or.inr ⟨rfl, by decide⟩) (fun X hZ hR K hret => ?_)
  subst hZ
  have K : gOk X cX6_setStuck 4 wsX6_setStuck RX6 := K
  have hRf : 2 ≤ (g_R X).frames := gR_f hR rfl
  have hRl : 43 ≤ (g_R X).locals := gR_l hR rfl
  have hin6 : ∀ w ∈ u_ws RX6 TX6 17, w ∈ wsX6_setStuck := by decide +kernel
  obtain ⟨m1, m2, m3, m4, msh, mst, b23, b24, b25, b26, b27⟩ := id hm
  show gG X 0 [(0, .ref (g_ad X 22)), (1, .int (nI (n))), (2, .int (nI (i)))] [] S
  refine g_aload_n K 0 dX6_setStuck_0 rfl ?_
  refine g_aload_n K 0 dX6_setStuck_1 rfl ?_
  refine g_iload_n K 1 dX6_setStuck_2 rfl ?_
  refine g_callVd (q := 22) (ci := 6) (As := [.int (nI (n))]) (rest := [.ref (g_ad X 22)]) (C := RX6) (T := TX6) (N := 17) K (cX6_isValve_k (g_z X) S n (hm) (by omega)) (cwV 1 K.1.2.2.2.2 gX6_setStuck_X6_isValve rfl rfl rfl (by decide +kernel) ⟨Nat.le_trans (Nat.le_of_ble_eq_true rfl) hRf, Nat.le_trans (Nat.le_of_ble_eq_true rfl) hRl⟩) rfl rfl rfl rfl (Nat.le_of_ble_eq_true rfl) dX6_setStuck_3 ?_
  have hf3_1 := isN_spec (S 22 3) n
  refine g_if_eq (tgt := 13) (a := isN (S 22 3) n) K dX6_setStuck_6 (by decide) (by omega) (fun h6_2 => ?_) (fun h6_2 => ?_)
  · refine g_iconst K 1 dX6_setStuck_13 (by decide +kernel) ?_
    refine g_callVd (q := 22) (ci := 6) (As := [.int (nI (1))]) (rest := []) (C := RX6) (T := TX6) (N := 17) K (cX6_refused_k (g_z X) S 1 (by omega)) (cwV 1 K.1.2.2.2.2 gX6_setStuck_X6_refused rfl rfl rfl (by decide +kernel) ⟨Nat.le_trans (Nat.le_of_ble_eq_true rfl) hRf, Nat.le_trans (Nat.le_of_ble_eq_true rfl) hRl⟩) rfl rfl rfl rfl (Nat.le_of_ble_eq_true rfl) dX6_setStuck_14 ?_
    refine g_cast (S' := (va_up S 22 (va_up (S 22) 0 (1)))) rfl rfl rfl ?_
    refine g_if_eq (tgt := 22) (a := 1) K dX6_setStuck_17 (by decide) (by omega) (fun h17_3 => absurd h17_3 (by omega)) (fun h17_3 => ?_)
    refine g_iconst K 0 dX6_setStuck_20 (by decide +kernel) ?_
    exact g_retd hret dX6_setStuck_21 rfl rfl
  · refine g_iconst K 0 dX6_setStuck_9 (by decide +kernel) ?_
    refine g_goto (tgt := 14) K dX6_setStuck_10 (by decide) ?_
    refine g_callVd (q := 22) (ci := 6) (As := [.int (nI (0))]) (rest := []) (C := RX6) (T := TX6) (N := 17) K (cX6_refused_k (g_z X) S 0 (by omega)) (cwV 1 K.1.2.2.2.2 gX6_setStuck_X6_refused rfl rfl rfl (by decide +kernel) ⟨Nat.le_trans (Nat.le_of_ble_eq_true rfl) hRf, Nat.le_trans (Nat.le_of_ble_eq_true rfl) hRl⟩) rfl rfl rfl rfl (Nat.le_of_ble_eq_true rfl) dX6_setStuck_14 ?_
    refine g_cast (S' := (va_up S 22 (va_up (S 22) 0 (0)))) rfl rfl rfl ?_
    refine g_if_eq (tgt := 22) (a := 0) K dX6_setStuck_17 (by decide) (by omega) (fun h17_4 => ?_) (fun h17_4 => absurd h17_4 (by omega))
    exfalso; omega

set_option maxHeartbeats 4000000 in
set_option maxRecDepth 100000 in
theorem cX6_turn_k (Z : gZ) (S : Nat → Nat → Nat) (n i : Nat) (hm : wfM S) (hun : n < 4294967296) (hn : n < S 22 3) (hs : ¬ (S 22 11 >>> n) &&& 1 = 1) (hi : i < 4294967296) : gMd Z yX6_turn wsX6_turn { frames := 2, cells := 0, slots := 0, locals := 43 } [.ref (gz_ad Z 22), .int (nI (n)), .int (nI (i))] S (g1 (S 22 10) n) (va_up S 22 (va_up (va_up (S 22) 0 (0)) 10 ((if i = 0 then S 22 10 &&& ((1 <<< n) ^^^ 4294967295) else S 22 10 ||| (1 <<< n))))) := by
  refine gMd_of (cc := cX6_turn) (maxL := 4) (ret := (some .boolean)) (by decide +kernel) rfl (Nat.le_of_ble_eq_true rfl) (Or.inr ⟨rfl, g1_le _ _⟩) (fun X hZ hR K hret => ?_)
  subst hZ
  have K : gOk X cX6_turn 4 wsX6_turn RX6 := K
  have hRf : 2 ≤ (g_R X).frames := gR_f hR rfl
  have hRl : 43 ≤ (g_R X).locals := gR_l hR rfl
  have hin6 : ∀ w ∈ u_ws RX6 TX6 17, w ∈ wsX6_turn := by decide +kernel
  obtain ⟨m1, m2, m3, m4, msh, mst, b23, b24, b25, b26, b27⟩ := id hm
  show gG X 0 [(0, .ref (g_ad X 22)), (1, .int (nI (n))), (2, .int (nI (i)))] [] S
  refine g_aload_n K 0 dX6_turn_0 rfl ?_
  refine g_aload_n K 0 dX6_turn_1 rfl ?_
  refine g_iload_n K 1 dX6_turn_2 rfl ?_
  refine g_callVd (q := 22) (ci := 6) (As := [.int (nI (n))]) (rest := [.ref (g_ad X 22)]) (C := RX6) (T := TX6) (N := 17) K (cX6_isValve_k (g_z X) S n (hm) (by omega)) (cwV 1 K.1.2.2.2.2 gX6_turn_X6_isValve rfl rfl rfl (by decide +kernel) ⟨Nat.le_trans (Nat.le_of_ble_eq_true rfl) hRf, Nat.le_trans (Nat.le_of_ble_eq_true rfl) hRl⟩) rfl rfl rfl rfl (Nat.le_of_ble_eq_true rfl) dX6_turn_3 ?_
  have hf3_1 := isN_spec (S 22 3) n
  refine g_if_ne (tgt := 13) (a := isN (S 22 3) n) K dX6_turn_6 (by decide) (by omega) (fun h6_2 => ?_) (fun h6_2 => ?_)
  · refine g_aload_n K 0 dX6_turn_13 rfl ?_
    refine g_getI (q := 22) (ci := 6) (k := 11) (N := 17) (C := RX6) (T := TX6) (ref := "ValveWalkModel") K rfl rfl rfl (by decide) hin6 (by decide +kernel) rfl dX6_turn_14 ?_
    refine g_iload_n K 1 dX6_turn_17 rfl ?_
    refine g_ishr (a := S 22 11) (b := n) K (by omega) (by omega) dX6_turn_18 ?_
    refine g_iconst K 1 dX6_turn_19 (by decide +kernel) ?_
    refine g_iand (a := (S 22 11) >>> (n)) (b := 1) K dX6_turn_20 ?_
    have hL20_3 := @Nat.and_le_left ((S 22 11) >>> (n)) (1)
    have hR20_4 := @Nat.and_le_right ((S 22 11) >>> (n)) (1)
    refine g_iconst K 1 dX6_turn_21 (by decide +kernel) ?_
    refine g_icmp_ne (tgt := 29) (a := ((S 22 11) >>> (n)) &&& (1)) (b := 1) K dX6_turn_22 (by decide) (by omega) (by omega) (fun h22_5 => ?_) (fun h22_5 => ?_)
    · refine g_iconst K 0 dX6_turn_29 (by decide +kernel) ?_
      refine g_callVd (q := 22) (ci := 6) (As := [.int (nI (0))]) (rest := []) (C := RX6) (T := TX6) (N := 17) K (cX6_refused_k (g_z X) S 0 (by omega)) (cwV 1 K.1.2.2.2.2 gX6_turn_X6_refused rfl rfl rfl (by decide +kernel) ⟨Nat.le_trans (Nat.le_of_ble_eq_true rfl) hRf, Nat.le_trans (Nat.le_of_ble_eq_true rfl) hRl⟩) rfl rfl rfl rfl (Nat.le_of_ble_eq_true rfl) dX6_turn_30 ?_
      refine g_cast (S' := (va_up S 22 (va_up (S 22) 0 (0)))) rfl rfl rfl ?_
      refine g_if_eq (tgt := 38) (a := 0) K dX6_turn_33 (by decide) (by omega) (fun h33_6 => ?_) (fun h33_6 => absurd h33_6 (by omega))
      refine g_aload_n K 0 dX6_turn_38 rfl ?_
      refine g_getI (q := 22) (ci := 6) (k := 10) (N := 17) (C := RX6) (T := TX6) (ref := "ValveWalkModel") K rfl rfl rfl (by decide) hin6 (by decide +kernel) rfl dX6_turn_39 ?_
      refine g_topE (S 22 10) rfl ?_
      refine g_iload_n K 1 dX6_turn_42 rfl ?_
      refine g_ishr (a := S 22 10) (b := n) K (by omega) (by omega) dX6_turn_43 ?_
      refine g_iconst K 1 dX6_turn_44 (by decide +kernel) ?_
      refine g_iand (a := (S 22 10) >>> (n)) (b := 1) K dX6_turn_45 ?_
      have hL45_7 := @Nat.and_le_left ((S 22 10) >>> (n)) (1)
      have hR45_8 := @Nat.and_le_right ((S 22 10) >>> (n)) (1)
      refine g_iconst K 1 dX6_turn_46 (by decide +kernel) ?_
      refine g_icmp_ne (tgt := 54) (a := ((S 22 10) >>> (n)) &&& (1)) (b := 1) K dX6_turn_47 (by decide) (by omega) (by omega) (fun h47_9 => ?_) (fun h47_9 => ?_)
      · refine g_iconst K 0 dX6_turn_54 (by decide +kernel) ?_
        refine g_istore_n (lo' := [(3, .int (nI (0))), (0, .ref (g_ad X 22)), (1, .int (nI (n))), (2, .int (nI (i)))]) K dX6_turn_55 (by decide) rfl ?_
        refine g_aload_n K 1 dX6_turn_56 rfl ?_
        refine g_iload_n K 3 dX6_turn_57 rfl ?_
        refine g_if_eq (tgt := 72) (a := i) K dX6_turn_58 (by decide) (by omega) (fun h58_10 => ?_) (fun h58_10 => ?_)
        · refine g_aload_n K 1 dX6_turn_72 rfl ?_
          refine g_getI (q := 22) (ci := 6) (k := 10) (N := 17) (C := RX6) (T := TX6) (ref := "ValveWalkModel") K rfl rfl rfl (by decide) hin6 (by decide +kernel) rfl dX6_turn_73 ?_
          refine g_topE (S 22 10) rfl ?_
          refine g_iconst K 1 dX6_turn_76 (by decide +kernel) ?_
          refine g_iload_n K 2 dX6_turn_77 rfl ?_
          refine g_ishl (a := 1) (b := n) K (by omega) dX6_turn_78 ?_
          refine g_iconst K 4294967295 dX6_turn_79 (by decide +kernel) ?_
          refine g_ixor (a := (1) <<< (n)) (b := 4294967295) K dX6_turn_80 ?_
          refine g_iand (a := S 22 10) (b := ((1) <<< (n)) ^^^ (4294967295)) K dX6_turn_81 ?_
          have hL81_11 := @Nat.and_le_left (S 22 10) (((1) <<< (n)) ^^^ (4294967295))
          have hR81_12 := @Nat.and_le_right (S 22 10) (((1) <<< (n)) ^^^ (4294967295))
          refine g_putI (q := 22) (ci := 6) (k := 10) (N := 17) (C := RX6) (T := TX6) (ref := "ValveWalkModel") (a := (S 22 10) &&& (((1) <<< (n)) ^^^ (4294967295))) K rfl rfl rfl (by decide) hin6 tyX6_ok nmX6 (by decide +kernel) rfl rfl (by decide +kernel) dX6_turn_82 ?_
          refine g_cast (S' := (va_up S 22 (va_up (va_up (S 22) 0 (0)) 10 ((S 22 10) &&& (((1) <<< (n)) ^^^ (4294967295)))))) rfl rfl (gup_w1a) ?_
          refine g_iload_n K 0 dX6_turn_85 rfl ?_
          exact g_retd hret dX6_turn_86 ((if_neg (by assumption)).symm) (by first | (rw [if_pos (by assumption)]; done) | (rw [if_neg (by assumption)]; done) | (rw [if_pos (by assumption)]; rfl) | (rw [if_neg (by assumption)]; rfl) | rfl)
        · refine g_aload_n K 1 dX6_turn_61 rfl ?_
          refine g_getI (q := 22) (ci := 6) (k := 10) (N := 17) (C := RX6) (T := TX6) (ref := "ValveWalkModel") K rfl rfl rfl (by decide) hin6 (by decide +kernel) rfl dX6_turn_62 ?_
          refine g_topE (S 22 10) rfl ?_
          refine g_iconst K 1 dX6_turn_65 (by decide +kernel) ?_
          refine g_iload_n K 2 dX6_turn_66 rfl ?_
          refine g_ishl (a := 1) (b := n) K (by omega) dX6_turn_67 ?_
          refine g_ior (a := S 22 10) (b := (1) <<< (n)) K dX6_turn_68 ?_
          refine g_goto (tgt := 82) K dX6_turn_69 (by decide) ?_
          refine g_putI (q := 22) (ci := 6) (k := 10) (N := 17) (C := RX6) (T := TX6) (ref := "ValveWalkModel") (a := (S 22 10) ||| ((1) <<< (n))) K rfl rfl rfl (by decide) hin6 tyX6_ok nmX6 (by decide +kernel) rfl rfl (by decide +kernel) dX6_turn_82 ?_
          refine g_cast (S' := (va_up S 22 (va_up (va_up (S 22) 0 (0)) 10 ((S 22 10) ||| ((1) <<< (n)))))) rfl rfl (gup_w1a) ?_
          refine g_iload_n K 0 dX6_turn_85 rfl ?_
          exact g_retd hret dX6_turn_86 ((if_neg (by assumption)).symm) (by first | (rw [if_pos (by assumption)]; done) | (rw [if_neg (by assumption)]; done) | (rw [if_pos (by assumption)]; rfl) | (rw [if_neg (by assumption)]; rfl) | rfl)
      · refine g_iconst K 1 dX6_turn_50 (by decide +kernel) ?_
        refine g_goto (tgt := 55) K dX6_turn_51 (by decide) ?_
        refine g_istore_n (lo' := [(3, .int (nI (1))), (0, .ref (g_ad X 22)), (1, .int (nI (n))), (2, .int (nI (i)))]) K dX6_turn_55 (by decide) rfl ?_
        refine g_aload_n K 1 dX6_turn_56 rfl ?_
        refine g_iload_n K 3 dX6_turn_57 rfl ?_
        refine g_if_eq (tgt := 72) (a := i) K dX6_turn_58 (by decide) (by omega) (fun h58_13 => ?_) (fun h58_13 => ?_)
        · refine g_aload_n K 1 dX6_turn_72 rfl ?_
          refine g_getI (q := 22) (ci := 6) (k := 10) (N := 17) (C := RX6) (T := TX6) (ref := "ValveWalkModel") K rfl rfl rfl (by decide) hin6 (by decide +kernel) rfl dX6_turn_73 ?_
          refine g_topE (S 22 10) rfl ?_
          refine g_iconst K 1 dX6_turn_76 (by decide +kernel) ?_
          refine g_iload_n K 2 dX6_turn_77 rfl ?_
          refine g_ishl (a := 1) (b := n) K (by omega) dX6_turn_78 ?_
          refine g_iconst K 4294967295 dX6_turn_79 (by decide +kernel) ?_
          refine g_ixor (a := (1) <<< (n)) (b := 4294967295) K dX6_turn_80 ?_
          refine g_iand (a := S 22 10) (b := ((1) <<< (n)) ^^^ (4294967295)) K dX6_turn_81 ?_
          have hL81_14 := @Nat.and_le_left (S 22 10) (((1) <<< (n)) ^^^ (4294967295))
          have hR81_15 := @Nat.and_le_right (S 22 10) (((1) <<< (n)) ^^^ (4294967295))
          refine g_putI (q := 22) (ci := 6) (k := 10) (N := 17) (C := RX6) (T := TX6) (ref := "ValveWalkModel") (a := (S 22 10) &&& (((1) <<< (n)) ^^^ (4294967295))) K rfl rfl rfl (by decide) hin6 tyX6_ok nmX6 (by decide +kernel) rfl rfl (by decide +kernel) dX6_turn_82 ?_
          refine g_cast (S' := (va_up S 22 (va_up (va_up (S 22) 0 (0)) 10 ((S 22 10) &&& (((1) <<< (n)) ^^^ (4294967295)))))) rfl rfl (gup_w1a) ?_
          refine g_iload_n K 0 dX6_turn_85 rfl ?_
          exact g_retd hret dX6_turn_86 ((if_pos (by assumption)).symm) (by first | (rw [if_pos (by assumption)]; done) | (rw [if_neg (by assumption)]; done) | (rw [if_pos (by assumption)]; rfl) | (rw [if_neg (by assumption)]; rfl) | rfl)
        · refine g_aload_n K 1 dX6_turn_61 rfl ?_
          refine g_getI (q := 22) (ci := 6) (k := 10) (N := 17) (C := RX6) (T := TX6) (ref := "ValveWalkModel") K rfl rfl rfl (by decide) hin6 (by decide +kernel) rfl dX6_turn_62 ?_
          refine g_topE (S 22 10) rfl ?_
          refine g_iconst K 1 dX6_turn_65 (by decide +kernel) ?_
          refine g_iload_n K 2 dX6_turn_66 rfl ?_
          refine g_ishl (a := 1) (b := n) K (by omega) dX6_turn_67 ?_
          refine g_ior (a := S 22 10) (b := (1) <<< (n)) K dX6_turn_68 ?_
          refine g_goto (tgt := 82) K dX6_turn_69 (by decide) ?_
          refine g_putI (q := 22) (ci := 6) (k := 10) (N := 17) (C := RX6) (T := TX6) (ref := "ValveWalkModel") (a := (S 22 10) ||| ((1) <<< (n))) K rfl rfl rfl (by decide) hin6 tyX6_ok nmX6 (by decide +kernel) rfl rfl (by decide +kernel) dX6_turn_82 ?_
          refine g_cast (S' := (va_up S 22 (va_up (va_up (S 22) 0 (0)) 10 ((S 22 10) ||| ((1) <<< (n)))))) rfl rfl (gup_w1a) ?_
          refine g_iload_n K 0 dX6_turn_85 rfl ?_
          exact g_retd hret dX6_turn_86 ((if_pos (by assumption)).symm) (by first | (rw [if_pos (by assumption)]; done) | (rw [if_neg (by assumption)]; done) | (rw [if_pos (by assumption)]; rfl) | (rw [if_neg (by assumption)]; rfl) | rfl)
    · refine g_iconst K 2 dX6_turn_25 (by decide +kernel) ?_
      refine g_goto (tgt := 30) K dX6_turn_26 (by decide) ?_
      refine g_callVd (q := 22) (ci := 6) (As := [.int (nI (2))]) (rest := []) (C := RX6) (T := TX6) (N := 17) K (cX6_refused_k (g_z X) S 2 (by omega)) (cwV 1 K.1.2.2.2.2 gX6_turn_X6_refused rfl rfl rfl (by decide +kernel) ⟨Nat.le_trans (Nat.le_of_ble_eq_true rfl) hRf, Nat.le_trans (Nat.le_of_ble_eq_true rfl) hRl⟩) rfl rfl rfl rfl (Nat.le_of_ble_eq_true rfl) dX6_turn_30 ?_
      refine g_cast (S' := (va_up S 22 (va_up (S 22) 0 (2)))) rfl rfl rfl ?_
      refine g_if_eq (tgt := 38) (a := 1) K dX6_turn_33 (by decide) (by omega) (fun h33_16 => absurd h33_16 (by omega)) (fun h33_16 => ?_)
      first | (exfalso; omega) | exact absurd (by assumption) hs
  · refine g_iconst K 1 dX6_turn_9 (by decide +kernel) ?_
    refine g_goto (tgt := 30) K dX6_turn_10 (by decide) ?_
    refine g_callVd (q := 22) (ci := 6) (As := [.int (nI (1))]) (rest := []) (C := RX6) (T := TX6) (N := 17) K (cX6_refused_k (g_z X) S 1 (by omega)) (cwV 1 K.1.2.2.2.2 gX6_turn_X6_refused rfl rfl rfl (by decide +kernel) ⟨Nat.le_trans (Nat.le_of_ble_eq_true rfl) hRf, Nat.le_trans (Nat.le_of_ble_eq_true rfl) hRl⟩) rfl rfl rfl rfl (Nat.le_of_ble_eq_true rfl) dX6_turn_30 ?_
    refine g_cast (S' := (va_up S 22 (va_up (S 22) 0 (1)))) rfl rfl rfl ?_
    refine g_if_eq (tgt := 38) (a := 1) K dX6_turn_33 (by decide) (by omega) (fun h33_17 => absurd h33_17 (by omega)) (fun h33_17 => ?_)
    first | (exfalso; omega) | exact absurd (by assumption) hs

set_option maxHeartbeats 4000000 in
set_option maxRecDepth 100000 in
theorem cX6_turn_r1 (Z : gZ) (S : Nat → Nat → Nat) (n i : Nat) (hm : wfM S) (hun : n < 4294967296) (hn : S 22 3 ≤ n) (hi : i < 4294967296) : gMd Z yX6_turn wsX6_turn { frames := 2, cells := 0, slots := 0, locals := 43 } [.ref (gz_ad Z 22), .int (nI (n)), .int (nI (i))] S (0) (va_up S 22 (va_up (S 22) 0 (1))) := by
  refine gMd_of (cc := cX6_turn) (maxL := 4) (ret := (some .boolean)) (by decide +kernel) rfl (Nat.le_of_ble_eq_true rfl) (Or.inr ⟨rfl, by decide⟩) (fun X hZ hR K hret => ?_)
  subst hZ
  have K : gOk X cX6_turn 4 wsX6_turn RX6 := K
  have hRf : 2 ≤ (g_R X).frames := gR_f hR rfl
  have hRl : 43 ≤ (g_R X).locals := gR_l hR rfl
  have hin6 : ∀ w ∈ u_ws RX6 TX6 17, w ∈ wsX6_turn := by decide +kernel
  obtain ⟨m1, m2, m3, m4, msh, mst, b23, b24, b25, b26, b27⟩ := id hm
  show gG X 0 [(0, .ref (g_ad X 22)), (1, .int (nI (n))), (2, .int (nI (i)))] [] S
  refine g_aload_n K 0 dX6_turn_0 rfl ?_
  refine g_aload_n K 0 dX6_turn_1 rfl ?_
  refine g_iload_n K 1 dX6_turn_2 rfl ?_
  refine g_callVd (q := 22) (ci := 6) (As := [.int (nI (n))]) (rest := [.ref (g_ad X 22)]) (C := RX6) (T := TX6) (N := 17) K (cX6_isValve_k (g_z X) S n (hm) (by omega)) (cwV 1 K.1.2.2.2.2 gX6_turn_X6_isValve rfl rfl rfl (by decide +kernel) ⟨Nat.le_trans (Nat.le_of_ble_eq_true rfl) hRf, Nat.le_trans (Nat.le_of_ble_eq_true rfl) hRl⟩) rfl rfl rfl rfl (Nat.le_of_ble_eq_true rfl) dX6_turn_3 ?_
  have hf3_1 := isN_spec (S 22 3) n
  refine g_if_ne (tgt := 13) (a := isN (S 22 3) n) K dX6_turn_6 (by decide) (by omega) (fun h6_2 => ?_) (fun h6_2 => ?_)
  · refine g_aload_n K 0 dX6_turn_13 rfl ?_
    refine g_getI (q := 22) (ci := 6) (k := 11) (N := 17) (C := RX6) (T := TX6) (ref := "ValveWalkModel") K rfl rfl rfl (by decide) hin6 (by decide +kernel) rfl dX6_turn_14 ?_
    refine g_iload_n K 1 dX6_turn_17 rfl ?_
    refine g_ishr (a := S 22 11) (b := n) K (by omega) (by omega) dX6_turn_18 ?_
    refine g_iconst K 1 dX6_turn_19 (by decide +kernel) ?_
    refine g_iand (a := (S 22 11) >>> (n)) (b := 1) K dX6_turn_20 ?_
    have hL20_3 := @Nat.and_le_left ((S 22 11) >>> (n)) (1)
    have hR20_4 := @Nat.and_le_right ((S 22 11) >>> (n)) (1)
    refine g_iconst K 1 dX6_turn_21 (by decide +kernel) ?_
    refine g_icmp_ne (tgt := 29) (a := ((S 22 11) >>> (n)) &&& (1)) (b := 1) K dX6_turn_22 (by decide) (by omega) (by omega) (fun h22_5 => ?_) (fun h22_5 => ?_)
    · refine g_iconst K 0 dX6_turn_29 (by decide +kernel) ?_
      refine g_callVd (q := 22) (ci := 6) (As := [.int (nI (0))]) (rest := []) (C := RX6) (T := TX6) (N := 17) K (cX6_refused_k (g_z X) S 0 (by omega)) (cwV 1 K.1.2.2.2.2 gX6_turn_X6_refused rfl rfl rfl (by decide +kernel) ⟨Nat.le_trans (Nat.le_of_ble_eq_true rfl) hRf, Nat.le_trans (Nat.le_of_ble_eq_true rfl) hRl⟩) rfl rfl rfl rfl (Nat.le_of_ble_eq_true rfl) dX6_turn_30 ?_
      refine g_cast (S' := (va_up S 22 (va_up (S 22) 0 (0)))) rfl rfl rfl ?_
      refine g_if_eq (tgt := 38) (a := 0) K dX6_turn_33 (by decide) (by omega) (fun h33_6 => ?_) (fun h33_6 => absurd h33_6 (by omega))
      exfalso; omega
    · refine g_iconst K 2 dX6_turn_25 (by decide +kernel) ?_
      refine g_goto (tgt := 30) K dX6_turn_26 (by decide) ?_
      refine g_callVd (q := 22) (ci := 6) (As := [.int (nI (2))]) (rest := []) (C := RX6) (T := TX6) (N := 17) K (cX6_refused_k (g_z X) S 2 (by omega)) (cwV 1 K.1.2.2.2.2 gX6_turn_X6_refused rfl rfl rfl (by decide +kernel) ⟨Nat.le_trans (Nat.le_of_ble_eq_true rfl) hRf, Nat.le_trans (Nat.le_of_ble_eq_true rfl) hRl⟩) rfl rfl rfl rfl (Nat.le_of_ble_eq_true rfl) dX6_turn_30 ?_
      refine g_cast (S' := (va_up S 22 (va_up (S 22) 0 (2)))) rfl rfl rfl ?_
      refine g_if_eq (tgt := 38) (a := 1) K dX6_turn_33 (by decide) (by omega) (fun h33_7 => absurd h33_7 (by omega)) (fun h33_7 => ?_)
      refine g_iconst K 0 dX6_turn_36 (by decide +kernel) ?_
      exfalso; omega
  · refine g_iconst K 1 dX6_turn_9 (by decide +kernel) ?_
    refine g_goto (tgt := 30) K dX6_turn_10 (by decide) ?_
    refine g_callVd (q := 22) (ci := 6) (As := [.int (nI (1))]) (rest := []) (C := RX6) (T := TX6) (N := 17) K (cX6_refused_k (g_z X) S 1 (by omega)) (cwV 1 K.1.2.2.2.2 gX6_turn_X6_refused rfl rfl rfl (by decide +kernel) ⟨Nat.le_trans (Nat.le_of_ble_eq_true rfl) hRf, Nat.le_trans (Nat.le_of_ble_eq_true rfl) hRl⟩) rfl rfl rfl rfl (Nat.le_of_ble_eq_true rfl) dX6_turn_30 ?_
    refine g_cast (S' := (va_up S 22 (va_up (S 22) 0 (1)))) rfl rfl rfl ?_
    refine g_if_eq (tgt := 38) (a := 1) K dX6_turn_33 (by decide) (by omega) (fun h33_8 => absurd h33_8 (by omega)) (fun h33_8 => ?_)
    refine g_iconst K 0 dX6_turn_36 (by decide +kernel) ?_
    exact g_retd hret dX6_turn_37 rfl rfl

set_option maxHeartbeats 4000000 in
set_option maxRecDepth 100000 in
theorem cX6_turn_r2 (Z : gZ) (S : Nat → Nat → Nat) (n i : Nat) (hm : wfM S) (hun : n < 4294967296) (hn : n < S 22 3) (hs : (S 22 11 >>> n) &&& 1 = 1) (hi : i < 4294967296) : gMd Z yX6_turn wsX6_turn { frames := 2, cells := 0, slots := 0, locals := 43 } [.ref (gz_ad Z 22), .int (nI (n)), .int (nI (i))] S (0) (va_up S 22 (va_up (S 22) 0 (2))) := by
  refine gMd_of (cc := cX6_turn) (maxL := 4) (ret := (some .boolean)) (by decide +kernel) rfl (Nat.le_of_ble_eq_true rfl) (Or.inr ⟨rfl, by decide⟩) (fun X hZ hR K hret => ?_)
  subst hZ
  have K : gOk X cX6_turn 4 wsX6_turn RX6 := K
  have hRf : 2 ≤ (g_R X).frames := gR_f hR rfl
  have hRl : 43 ≤ (g_R X).locals := gR_l hR rfl
  have hin6 : ∀ w ∈ u_ws RX6 TX6 17, w ∈ wsX6_turn := by decide +kernel
  obtain ⟨m1, m2, m3, m4, msh, mst, b23, b24, b25, b26, b27⟩ := id hm
  show gG X 0 [(0, .ref (g_ad X 22)), (1, .int (nI (n))), (2, .int (nI (i)))] [] S
  refine g_aload_n K 0 dX6_turn_0 rfl ?_
  refine g_aload_n K 0 dX6_turn_1 rfl ?_
  refine g_iload_n K 1 dX6_turn_2 rfl ?_
  refine g_callVd (q := 22) (ci := 6) (As := [.int (nI (n))]) (rest := [.ref (g_ad X 22)]) (C := RX6) (T := TX6) (N := 17) K (cX6_isValve_k (g_z X) S n (hm) (by omega)) (cwV 1 K.1.2.2.2.2 gX6_turn_X6_isValve rfl rfl rfl (by decide +kernel) ⟨Nat.le_trans (Nat.le_of_ble_eq_true rfl) hRf, Nat.le_trans (Nat.le_of_ble_eq_true rfl) hRl⟩) rfl rfl rfl rfl (Nat.le_of_ble_eq_true rfl) dX6_turn_3 ?_
  have hf3_1 := isN_spec (S 22 3) n
  refine g_if_ne (tgt := 13) (a := isN (S 22 3) n) K dX6_turn_6 (by decide) (by omega) (fun h6_2 => ?_) (fun h6_2 => ?_)
  · refine g_aload_n K 0 dX6_turn_13 rfl ?_
    refine g_getI (q := 22) (ci := 6) (k := 11) (N := 17) (C := RX6) (T := TX6) (ref := "ValveWalkModel") K rfl rfl rfl (by decide) hin6 (by decide +kernel) rfl dX6_turn_14 ?_
    refine g_iload_n K 1 dX6_turn_17 rfl ?_
    refine g_ishr (a := S 22 11) (b := n) K (by omega) (by omega) dX6_turn_18 ?_
    refine g_iconst K 1 dX6_turn_19 (by decide +kernel) ?_
    refine g_iand (a := (S 22 11) >>> (n)) (b := 1) K dX6_turn_20 ?_
    have hL20_3 := @Nat.and_le_left ((S 22 11) >>> (n)) (1)
    have hR20_4 := @Nat.and_le_right ((S 22 11) >>> (n)) (1)
    refine g_iconst K 1 dX6_turn_21 (by decide +kernel) ?_
    refine g_icmp_ne (tgt := 29) (a := ((S 22 11) >>> (n)) &&& (1)) (b := 1) K dX6_turn_22 (by decide) (by omega) (by omega) (fun h22_5 => ?_) (fun h22_5 => ?_)
    · refine g_iconst K 0 dX6_turn_29 (by decide +kernel) ?_
      refine g_callVd (q := 22) (ci := 6) (As := [.int (nI (0))]) (rest := []) (C := RX6) (T := TX6) (N := 17) K (cX6_refused_k (g_z X) S 0 (by omega)) (cwV 1 K.1.2.2.2.2 gX6_turn_X6_refused rfl rfl rfl (by decide +kernel) ⟨Nat.le_trans (Nat.le_of_ble_eq_true rfl) hRf, Nat.le_trans (Nat.le_of_ble_eq_true rfl) hRl⟩) rfl rfl rfl rfl (Nat.le_of_ble_eq_true rfl) dX6_turn_30 ?_
      refine g_cast (S' := (va_up S 22 (va_up (S 22) 0 (0)))) rfl rfl rfl ?_
      refine g_if_eq (tgt := 38) (a := 0) K dX6_turn_33 (by decide) (by omega) (fun h33_6 => ?_) (fun h33_6 => absurd h33_6 (by omega))
      first | (exfalso; omega) | exact absurd hs (by assumption)
    · refine g_iconst K 2 dX6_turn_25 (by decide +kernel) ?_
      refine g_goto (tgt := 30) K dX6_turn_26 (by decide) ?_
      refine g_callVd (q := 22) (ci := 6) (As := [.int (nI (2))]) (rest := []) (C := RX6) (T := TX6) (N := 17) K (cX6_refused_k (g_z X) S 2 (by omega)) (cwV 1 K.1.2.2.2.2 gX6_turn_X6_refused rfl rfl rfl (by decide +kernel) ⟨Nat.le_trans (Nat.le_of_ble_eq_true rfl) hRf, Nat.le_trans (Nat.le_of_ble_eq_true rfl) hRl⟩) rfl rfl rfl rfl (Nat.le_of_ble_eq_true rfl) dX6_turn_30 ?_
      refine g_cast (S' := (va_up S 22 (va_up (S 22) 0 (2)))) rfl rfl rfl ?_
      refine g_if_eq (tgt := 38) (a := 1) K dX6_turn_33 (by decide) (by omega) (fun h33_7 => absurd h33_7 (by omega)) (fun h33_7 => ?_)
      refine g_iconst K 0 dX6_turn_36 (by decide +kernel) ?_
      exact g_retd hret dX6_turn_37 rfl rfl
  · refine g_iconst K 1 dX6_turn_9 (by decide +kernel) ?_
    refine g_goto (tgt := 30) K dX6_turn_10 (by decide) ?_
    refine g_callVd (q := 22) (ci := 6) (As := [.int (nI (1))]) (rest := []) (C := RX6) (T := TX6) (N := 17) K (cX6_refused_k (g_z X) S 1 (by omega)) (cwV 1 K.1.2.2.2.2 gX6_turn_X6_refused rfl rfl rfl (by decide +kernel) ⟨Nat.le_trans (Nat.le_of_ble_eq_true rfl) hRf, Nat.le_trans (Nat.le_of_ble_eq_true rfl) hRl⟩) rfl rfl rfl rfl (Nat.le_of_ble_eq_true rfl) dX6_turn_30 ?_
    refine g_cast (S' := (va_up S 22 (va_up (S 22) 0 (1)))) rfl rfl rfl ?_
    refine g_if_eq (tgt := 38) (a := 1) K dX6_turn_33 (by decide) (by omega) (fun h33_8 => absurd h33_8 (by omega)) (fun h33_8 => ?_)
    refine g_iconst K 0 dX6_turn_36 (by decide +kernel) ?_
    exfalso; omega

set_option maxHeartbeats 4000000 in
set_option maxRecDepth 100000 in
theorem cX6_nodes_k (Z : gZ) (S : Nat → Nat → Nat) : gMd Z yX6_nodes wsX6_nodes { frames := 1, cells := 0, slots := 0, locals := 21 } [.ref (gz_ad Z 22)] S (S 22 1) (va_up S 22 (va_up (S 22) 0 (0))) := by
  refine gMd_of (cc := cX6_nodes) (maxL := 1) (ret := (some .int)) (by decide +kernel) rfl (Nat.le_of_ble_eq_true rfl) (Or.inl rfl) (fun X hZ hR K hret => ?_)
  subst hZ
  have K : gOk X cX6_nodes 1 wsX6_nodes RX6 := K
  have hRf : 1 ≤ (g_R X).frames := gR_f hR rfl
  have hRl : 21 ≤ (g_R X).locals := gR_l hR rfl
  have hin6 : ∀ w ∈ u_ws RX6 TX6 17, w ∈ wsX6_nodes := by decide +kernel
  show gG X 0 [(0, .ref (g_ad X 22))] [] S
  refine g_aload_n K 0 dX6_nodes_0 rfl ?_
  refine g_aload_n K 0 dX6_nodes_1 rfl ?_
  refine g_getI (q := 22) (ci := 6) (k := 1) (N := 17) (C := RX6) (T := TX6) (ref := "ValveWalkModel") K rfl rfl rfl (by decide) hin6 (by decide +kernel) rfl dX6_nodes_2 ?_
  refine g_callVd (q := 22) (ci := 6) (As := [.int (nI (S 22 1))]) (rest := []) (C := RX6) (T := TX6) (N := 17) K (cX6_fine_k (g_z X) S (S 22 1)) (cwV 1 K.1.2.2.2.2 gX6_nodes_X6_fine rfl rfl rfl (by decide +kernel) ⟨Nat.le_trans (Nat.le_of_ble_eq_true rfl) hRf, Nat.le_trans (Nat.le_of_ble_eq_true rfl) hRl⟩) rfl rfl rfl rfl (Nat.le_of_ble_eq_true rfl) dX6_nodes_5 ?_
  refine g_cast (S' := (va_up S 22 (va_up (S 22) 0 (0)))) rfl rfl rfl ?_
  exact g_retd hret dX6_nodes_8 rfl rfl

set_option maxHeartbeats 4000000 in
set_option maxRecDepth 100000 in
theorem cX6_pipes_k (Z : gZ) (S : Nat → Nat → Nat) : gMd Z yX6_pipes wsX6_pipes { frames := 1, cells := 0, slots := 0, locals := 21 } [.ref (gz_ad Z 22)] S (S 22 2) (va_up S 22 (va_up (S 22) 0 (0))) := by
  refine gMd_of (cc := cX6_pipes) (maxL := 1) (ret := (some .int)) (by decide +kernel) rfl (Nat.le_of_ble_eq_true rfl) (Or.inl rfl) (fun X hZ hR K hret => ?_)
  subst hZ
  have K : gOk X cX6_pipes 1 wsX6_pipes RX6 := K
  have hRf : 1 ≤ (g_R X).frames := gR_f hR rfl
  have hRl : 21 ≤ (g_R X).locals := gR_l hR rfl
  have hin6 : ∀ w ∈ u_ws RX6 TX6 17, w ∈ wsX6_pipes := by decide +kernel
  show gG X 0 [(0, .ref (g_ad X 22))] [] S
  refine g_aload_n K 0 dX6_pipes_0 rfl ?_
  refine g_aload_n K 0 dX6_pipes_1 rfl ?_
  refine g_getI (q := 22) (ci := 6) (k := 2) (N := 17) (C := RX6) (T := TX6) (ref := "ValveWalkModel") K rfl rfl rfl (by decide) hin6 (by decide +kernel) rfl dX6_pipes_2 ?_
  refine g_callVd (q := 22) (ci := 6) (As := [.int (nI (S 22 2))]) (rest := []) (C := RX6) (T := TX6) (N := 17) K (cX6_fine_k (g_z X) S (S 22 2)) (cwV 1 K.1.2.2.2.2 gX6_pipes_X6_fine rfl rfl rfl (by decide +kernel) ⟨Nat.le_trans (Nat.le_of_ble_eq_true rfl) hRf, Nat.le_trans (Nat.le_of_ble_eq_true rfl) hRl⟩) rfl rfl rfl rfl (Nat.le_of_ble_eq_true rfl) dX6_pipes_5 ?_
  refine g_cast (S' := (va_up S 22 (va_up (S 22) 0 (0)))) rfl rfl rfl ?_
  exact g_retd hret dX6_pipes_8 rfl rfl

set_option maxHeartbeats 4000000 in
set_option maxRecDepth 100000 in
theorem cX6_valves_k (Z : gZ) (S : Nat → Nat → Nat) : gMd Z yX6_valves wsX6_valves { frames := 1, cells := 0, slots := 0, locals := 21 } [.ref (gz_ad Z 22)] S (S 22 3) (va_up S 22 (va_up (S 22) 0 (0))) := by
  refine gMd_of (cc := cX6_valves) (maxL := 1) (ret := (some .int)) (by decide +kernel) rfl (Nat.le_of_ble_eq_true rfl) (Or.inl rfl) (fun X hZ hR K hret => ?_)
  subst hZ
  have K : gOk X cX6_valves 1 wsX6_valves RX6 := K
  have hRf : 1 ≤ (g_R X).frames := gR_f hR rfl
  have hRl : 21 ≤ (g_R X).locals := gR_l hR rfl
  have hin6 : ∀ w ∈ u_ws RX6 TX6 17, w ∈ wsX6_valves := by decide +kernel
  show gG X 0 [(0, .ref (g_ad X 22))] [] S
  refine g_aload_n K 0 dX6_valves_0 rfl ?_
  refine g_aload_n K 0 dX6_valves_1 rfl ?_
  refine g_getI (q := 22) (ci := 6) (k := 3) (N := 17) (C := RX6) (T := TX6) (ref := "ValveWalkModel") K rfl rfl rfl (by decide) hin6 (by decide +kernel) rfl dX6_valves_2 ?_
  refine g_callVd (q := 22) (ci := 6) (As := [.int (nI (S 22 3))]) (rest := []) (C := RX6) (T := TX6) (N := 17) K (cX6_fine_k (g_z X) S (S 22 3)) (cwV 1 K.1.2.2.2.2 gX6_valves_X6_fine rfl rfl rfl (by decide +kernel) ⟨Nat.le_trans (Nat.le_of_ble_eq_true rfl) hRf, Nat.le_trans (Nat.le_of_ble_eq_true rfl) hRl⟩) rfl rfl rfl rfl (Nat.le_of_ble_eq_true rfl) dX6_valves_5 ?_
  refine g_cast (S' := (va_up S 22 (va_up (S 22) 0 (0)))) rfl rfl rfl ?_
  exact g_retd hret dX6_valves_8 rfl rfl

set_option maxHeartbeats 4000000 in
set_option maxRecDepth 100000 in
theorem cX6_partOf_k (Z : gZ) (S : Nat → Nat → Nat) (p : Nat) (hp : p < 20) : gMd Z yX6_partOf wsX6_partOf { frames := 0, cells := 0, slots := 0, locals := 0 } [.int (nI (p))] S (1 <<< (12 + p)) (S) := by
  refine gMd_of (cc := cX6_partOf) (maxL := 1) (ret := (some .int)) (by decide +kernel) rfl (Nat.le_of_ble_eq_true rfl) (Or.inl rfl) (fun X hZ hR K hret => ?_)
  subst hZ
  have K : gOk X cX6_partOf 1 wsX6_partOf RX6 := K
  have hRf : 0 ≤ (g_R X).frames := gR_f hR rfl
  have hRl : 0 ≤ (g_R X).locals := gR_l hR rfl
  show gG X 0 [(0, .int (nI (p)))] [] S
  refine g_iconst K 1 dX6_partOf_0 (by decide +kernel) ?_
  refine g_bipush K 12 dX6_partOf_1 (by decide +kernel) ?_
  refine g_iload_n K 0 dX6_partOf_3 rfl ?_
  refine g_iadd (a := 12) (b := p) K dX6_partOf_4 ?_
  refine g_ishl (a := 1) (b := (12) + (p)) K (by omega) dX6_partOf_5 ?_
  exact g_retd hret dX6_partOf_6 rfl rfl

def openM (S : Nat → Nat → Nat) (pl how al : Nat) : Nat := if S 24 pl = 4294967295 then 1 else if ((S 22 10 ||| al) >>> S 24 pl) &&& 1 = 1 then 0 else if how = 0 then 1 else if how = 2 then (if (S 22 11 >>> S 24 pl) &&& 1 = 1 then 1 else 0) else 0
theorem openM_le (S : Nat → Nat → Nat) (pl how al : Nat) : openM S pl how al ≤ 1 := by unfold openM; (repeat' split) <;> omega
def bothM (S : Nat → Nat → Nat) (pl : Nat) : Nat := (1 <<< (12 + pl / 2)) ||| (1 <<< S 23 pl)
def fSp (S : Nat → Nat → Nat) (how al pl all : Nat) : Nat := if all &&& bothM S pl = 0 then all else if openM S pl how al = 0 then all else all ||| bothM S pl
def spPass (S : Nat → Nat → Nat) (how al all : Nat) : Nat := gfor (fSp S how al) (2 * S 22 2) 0 all
def spGo (S : Nat → Nat → Nat) (how al : Nat) : Nat → Nat → Nat → Nat
  | 0, all, _ => all
  | k + 1, all, bf => if all = bf then all else spGo S how al k (spPass S how al all) all
def spread (S : Nat → Nat → Nat) (a how al : Nat) : Nat := spGo S how al 58 a 0
theorem bothM_lt {S : Nat → Nat → Nat} (hm : wfM S) {pl : Nat} (h : pl < 32) : bothM S pl < 268435456 := or28 (Nat.lt_of_lt_of_le (shl1 (show 12 + pl / 2 < 28 by omega)) (by decide)) (Nat.lt_of_lt_of_le (shl1 (show S 23 pl < 28 by have := hm.2.2.2.2.2.2.1 pl; omega)) (by decide))
theorem fSp_ge (S : Nat → Nat → Nat) (how al pl all : Nat) : all ||| fSp S how al pl all = fSp S how al pl all := by
  unfold fSp
  (repeat' split)
  · exact Nat.or_self all
  · exact Nat.or_self all
  · rw [← Nat.or_assoc, Nat.or_self]
theorem gfor_ge {f : Nat → Nat → Nat} (h : ∀ j x, x ||| f j x = f j x) : ∀ (k j x : Nat), x ||| gfor f k j x = gfor f k j x
  | 0, _, x => Nat.or_self x
  | k + 1, j, x => by
    have h1 := gfor_ge h k (j + 1) (f j x)
    show x ||| gfor f k (j + 1) (f j x) = gfor f k (j + 1) (f j x)
    rw [← h1, ← Nat.or_assoc, h j x]
theorem spPass_ge (S : Nat → Nat → Nat) (how al all : Nat) : all ||| spPass S how al all = spPass S how al all := gfor_ge (fun j x => fSp_ge S how al j x) _ 0 all
theorem spPass_lt {S : Nat → Nat → Nat} (hm : wfM S) (how al all : Nat) (h : all < 268435456) : spPass S how al all < 268435456 := by
  have := gfor_invK (fun _ (x : Nat) => x < 268435456) (fSp S how al) (2 * S 22 2) 0 all (fun i y _ hi hy => by
    unfold fSp
    (repeat' split)
    · exact hy
    · exact hy
    · exact or28 hy (bothM_lt hm (by have := hm.2.1; omega))) h
  exact this
/-- how many bits below 28 are not set -/
def miss (x : Nat) : Nat := gfor (fun i n => if x.testBit i then n else n + 1) 28 0 0
theorem miss_mono (x y : Nat) (h : x ||| y = y) : ∀ (k i n m : Nat), m ≤ n → gfor (fun i n => if y.testBit i then n else n + 1) k i m ≤ gfor (fun i n => if x.testBit i then n else n + 1) k i n
  | 0, _, _, _, hn => hn
  | k + 1, i, n, m, hn => by
    refine miss_mono x y h k (i + 1) _ _ ?_
    have hb : x.testBit i = true → y.testBit i = true := fun q => by rw [← h, Nat.testBit_or, q]; rfl
    by_cases h1 : x.testBit i = true
    · simp only [h1, hb h1, if_true]; exact hn
    · simp only [h1, if_false, Bool.false_eq_true]
      split <;> omega
theorem miss_lt (x y i0 : Nat) (h : x ||| y = y) (hx : x.testBit i0 = false) (hy : y.testBit i0 = true) : ∀ (k i n m : Nat), m ≤ n → i ≤ i0 → i0 < i + k → gfor (fun i n => if y.testBit i then n else n + 1) k i m < gfor (fun i n => if x.testBit i then n else n + 1) k i n
  | 0, _, _, _, _, h1, h2 => absurd h2 (by omega)
  | k + 1, i, n, m, hn, h1, h2 => by
    by_cases e : i = i0
    · subst e
      refine Nat.lt_of_lt_of_le (Nat.lt_succ_self _) ?_
      show gfor (fun i n => if y.testBit i then n else n + 1) k (i + 1) (if y.testBit i = true then m else m + 1) + 1 ≤ gfor (fun i n => if x.testBit i then n else n + 1) k (i + 1) (if x.testBit i = true then n else n + 1)
      rw [hx, hy]
      simp only [if_true, Bool.false_eq_true, if_false]
      have hs : ∀ (k i n : Nat), gfor (fun i n => if x.testBit i then n else n + 1) k i (n + 1) = gfor (fun i n => if x.testBit i then n else n + 1) k i n + 1 := by
        intro k
        induction k with
        | zero => intro i n; rfl
        | succ k ih =>
          intro i n
          show gfor _ k (i + 1) _ = gfor _ k (i + 1) _ + 1
          by_cases q : x.testBit i = true
          · simp only [q, if_true]; exact ih _ _
          · simp only [q, if_false, Bool.false_eq_true]; exact ih _ _
      rw [hs]
      exact Nat.succ_le_succ (miss_mono x y h k (i + 1) n m hn)
    · refine miss_lt x y i0 h hx hy k (i + 1) _ _ ?_ (by omega) (by omega)
      have hb : x.testBit i = true → y.testBit i = true := fun q => by rw [← h, Nat.testBit_or, q]; rfl
      by_cases h1 : x.testBit i = true
      · simp only [h1, hb h1, if_true]; exact hn
      · simp only [h1, if_false, Bool.false_eq_true]
        split <;> omega
theorem miss_le (x : Nat) : miss x ≤ 28 := by
  have h := gfor_cnt (f := fun i n => if x.testBit i then n else n + 1) (fun j n => by split <;> omega) 28 0 0
  unfold miss; omega
theorem miss_step {x y : Nat} (h : x ||| y = y) (hy : y < 268435456) (hne : y ≠ x) : miss y < miss x := by
  obtain ⟨i, hi⟩ : ∃ i, x.testBit i ≠ y.testBit i := Classical.byContradiction fun q => hne (Nat.eq_of_testBit_eq fun i => Classical.byContradiction fun e => q ⟨i, fun e2 => e e2.symm⟩)
  have hb : x.testBit i = true → y.testBit i = true := fun q => by rw [← h, Nat.testBit_or, q]; rfl
  have h1 : x.testBit i = false := by
    cases e : x.testBit i with
    | false => rfl
    | true => exact absurd (e.trans (hb e).symm) hi
  have h2 : y.testBit i = true := by
    cases e : y.testBit i with
    | true => rfl
    | false => exact absurd (h1.trans e.symm) hi
  have h3 : i < 28 := by
    refine Nat.lt_of_not_le fun q => ?_
    have := Nat.testBit_lt_two_pow (x := y) (i := i) (Nat.lt_of_lt_of_le hy (Nat.pow_le_pow_right (n := 2) (by decide) q))
    rw [h2] at this; cases this
  exact miss_lt x y i h h1 h2 28 0 0 0 (Nat.le_refl 0) (Nat.zero_le i) (by omega)
theorem sp_meas {S : Nat → Nat → Nat} (hm : wfM S) (how al all : Nat) (ha : all < 268435456) {k : Nat} (h : 2 * miss all + 1 < k + 1) : 2 * miss (spPass S how al all) + (if spPass S how al all = all then 0 else 1) < k := by
  have h3 := @miss_step all (spPass S how al all) (spPass_ge S how al all) (spPass_lt hm how al all ha)
  by_cases e : spPass S how al all = all
  · rw [if_pos e, e]; omega
  · rw [if_neg e]; have := h3 e; omega
set_option maxHeartbeats 4000000 in
set_option maxRecDepth 100000 in
theorem cX6_isOpen_k (Z : gZ) (S : Nat → Nat → Nat) (pl how al : Nat) (hm : wfM S) (hpl : pl < 32) (hh : how < 4294967296) (hal : al < 4096) : gMd Z yX6_isOpen wsX6_isOpen { frames := 0, cells := 0, slots := 0, locals := 0 } [.ref (gz_ad Z 22), .int (nI (pl)), .int (nI (how)), .int (nI (al))] S (openM S pl how al) (S) := by
  refine gMd_of (cc := cX6_isOpen) (maxL := 6) (ret := (some .boolean)) (by decide +kernel) rfl (Nat.le_of_ble_eq_true rfl) (Or.inr ⟨rfl, openM_le _ _ _ _⟩) (fun X hZ hR K hret => ?_)
  subst hZ
  have K : gOk X cX6_isOpen 6 wsX6_isOpen RX6 := K
  have hRf : 0 ≤ (g_R X).frames := gR_f hR rfl
  have hRl : 0 ≤ (g_R X).locals := gR_l hR rfl
  have hin6 : ∀ w ∈ u_ws RX6 TX6 17, w ∈ wsX6_isOpen := by decide +kernel
  obtain ⟨m1, m2, m3, m4, msh, mst, b23, b24, b25, b26, b27⟩ := id hm
  show gG X 0 [(0, .ref (g_ad X 22)), (1, .int (nI (pl))), (2, .int (nI (how))), (3, .int (nI (al)))] [] S
  refine g_aload_n K 0 dX6_isOpen_0 rfl ?_
  refine g_getR (q' := 24) (q := 22) (ci := 6) (k := 6) (N := 17) (C := RX6) (T := TX6) (ref := "ValveWalkModel") K rfl rfl rfl (by decide) hin6 (by decide +kernel) rfl dX6_isOpen_1 ?_
  refine g_iload_n K 1 dX6_isOpen_4 rfl ?_
  refine g_ald (q := 24) (n := 32) (i := pl) K rfl (by decide) (by omega) dX6_isOpen_5 ?_
  have hv5_1 := b24 (pl)
  have h24 := b24 pl
  refine g_istore (lo' := [(4, .int (nI (S 24 (pl)))), (0, .ref (g_ad X 22)), (1, .int (nI (pl))), (2, .int (nI (how))), (3, .int (nI (al)))]) K dX6_isOpen_6 (by decide) rfl ?_
  refine g_iload K 0 dX6_isOpen_8 rfl ?_
  refine g_iconst K 4294967295 dX6_isOpen_10 (by decide +kernel) ?_
  refine g_icmp_ne (tgt := 16) (a := S 24 (pl)) (b := 4294967295) K dX6_isOpen_11 (by decide) (by omega) (by omega) (fun h11_2 => ?_) (fun h11_2 => ?_)
  · refine g_aload_n K 1 dX6_isOpen_16 rfl ?_
    refine g_getI (q := 22) (ci := 6) (k := 10) (N := 17) (C := RX6) (T := TX6) (ref := "ValveWalkModel") K rfl rfl rfl (by decide) hin6 (by decide +kernel) rfl dX6_isOpen_17 ?_
    refine g_iload_n K 4 dX6_isOpen_20 rfl ?_
    refine g_ior (a := S 22 10) (b := al) K dX6_isOpen_21 ?_
    have hor := or12 msh hal
    refine g_iload K 0 dX6_isOpen_22 rfl ?_
    refine g_ishr (a := (S 22 10) ||| (al)) (b := S 24 (pl)) K (by omega) (by omega) dX6_isOpen_24 ?_
    refine g_iconst K 1 dX6_isOpen_25 (by decide +kernel) ?_
    refine g_iand (a := ((S 22 10) ||| (al)) >>> (S 24 (pl))) (b := 1) K dX6_isOpen_26 ?_
    have hL26_3 := @Nat.and_le_left (((S 22 10) ||| (al)) >>> (S 24 (pl))) (1)
    have hR26_4 := @Nat.and_le_right (((S 22 10) ||| (al)) >>> (S 24 (pl))) (1)
    refine g_iconst K 1 dX6_isOpen_27 (by decide +kernel) ?_
    refine g_icmp_ne (tgt := 35) (a := (((S 22 10) ||| (al)) >>> (S 24 (pl))) &&& (1)) (b := 1) K dX6_isOpen_28 (by decide) (by omega) (by omega) (fun h28_5 => ?_) (fun h28_5 => ?_)
    · refine g_iconst K 0 dX6_isOpen_35 (by decide +kernel) ?_
      refine g_istore (lo' := [(5, .int (nI (0))), (4, .int (nI (S 24 (pl)))), (0, .ref (g_ad X 22)), (1, .int (nI (pl))), (2, .int (nI (how))), (3, .int (nI (al)))]) K dX6_isOpen_36 (by decide) rfl ?_
      refine g_iload_n K 4 dX6_isOpen_38 rfl ?_
      refine g_if_ne (tgt := 47) (a := how) K dX6_isOpen_39 (by decide) (by omega) (fun h39_6 => ?_) (fun h39_6 => ?_)
      · refine g_iload_n K 4 dX6_isOpen_47 rfl ?_
        refine g_iconst K 2 dX6_isOpen_48 (by decide +kernel) ?_
        refine g_icmp_ne (tgt := 74) (a := how) (b := 2) K dX6_isOpen_49 (by decide) (by omega) (by omega) (fun h49_7 => ?_) (fun h49_7 => ?_)
        · refine g_iconst K 0 dX6_isOpen_74 (by decide +kernel) ?_
          exact g_retd hret dX6_isOpen_75 (by unfold openM; (repeat' split) <;> first | rfl | contradiction | (exfalso; omega) | omega) rfl
        · refine g_iload K 0 dX6_isOpen_52 rfl ?_
          refine g_if_ne (tgt := 74) (a := 0) K dX6_isOpen_54 (by decide) (by omega) (fun h54_8 => absurd h54_8 (by omega)) (fun h54_8 => ?_)
          refine g_aload_n K 2 dX6_isOpen_57 rfl ?_
          refine g_getI (q := 22) (ci := 6) (k := 11) (N := 17) (C := RX6) (T := TX6) (ref := "ValveWalkModel") K rfl rfl rfl (by decide) hin6 (by decide +kernel) rfl dX6_isOpen_58 ?_
          refine g_iload K 1 dX6_isOpen_61 rfl ?_
          refine g_ishr (a := S 22 11) (b := S 24 (pl)) K (by omega) (by omega) dX6_isOpen_63 ?_
          refine g_iconst K 1 dX6_isOpen_64 (by decide +kernel) ?_
          refine g_iand (a := (S 22 11) >>> (S 24 (pl))) (b := 1) K dX6_isOpen_65 ?_
          have hL65_9 := @Nat.and_le_left ((S 22 11) >>> (S 24 (pl))) (1)
          have hR65_10 := @Nat.and_le_right ((S 22 11) >>> (S 24 (pl))) (1)
          refine g_iconst K 1 dX6_isOpen_66 (by decide +kernel) ?_
          refine g_icmp_ne (tgt := 74) (a := ((S 22 11) >>> (S 24 (pl))) &&& (1)) (b := 1) K dX6_isOpen_67 (by decide) (by omega) (by omega) (fun h67_11 => ?_) (fun h67_11 => ?_)
          · refine g_iconst K 0 dX6_isOpen_74 (by decide +kernel) ?_
            exact g_retd hret dX6_isOpen_75 (by unfold openM; (repeat' split) <;> first | rfl | contradiction | (exfalso; omega) | omega) rfl
          · refine g_iconst K 1 dX6_isOpen_70 (by decide +kernel) ?_
            refine g_goto (tgt := 75) K dX6_isOpen_71 (by decide) ?_
            exact g_retd hret dX6_isOpen_75 (by unfold openM; (repeat' split) <;> first | rfl | contradiction | (exfalso; omega) | omega) rfl
      · refine g_iload K 0 dX6_isOpen_42 rfl ?_
        refine g_if_eq (tgt := 70) (a := 0) K dX6_isOpen_44 (by decide) (by omega) (fun h44_12 => ?_) (fun h44_12 => absurd h44_12 (by omega))
        refine g_iconst K 1 dX6_isOpen_70 (by decide +kernel) ?_
        refine g_goto (tgt := 75) K dX6_isOpen_71 (by decide) ?_
        exact g_retd hret dX6_isOpen_75 (by unfold openM; (repeat' split) <;> first | rfl | contradiction | (exfalso; omega) | omega) rfl
    · refine g_iconst K 1 dX6_isOpen_31 (by decide +kernel) ?_
      refine g_goto (tgt := 36) K dX6_isOpen_32 (by decide) ?_
      refine g_istore (lo' := [(5, .int (nI (1))), (4, .int (nI (S 24 (pl)))), (0, .ref (g_ad X 22)), (1, .int (nI (pl))), (2, .int (nI (how))), (3, .int (nI (al)))]) K dX6_isOpen_36 (by decide) rfl ?_
      refine g_iload_n K 4 dX6_isOpen_38 rfl ?_
      refine g_if_ne (tgt := 47) (a := how) K dX6_isOpen_39 (by decide) (by omega) (fun h39_13 => ?_) (fun h39_13 => ?_)
      · refine g_iload_n K 4 dX6_isOpen_47 rfl ?_
        refine g_iconst K 2 dX6_isOpen_48 (by decide +kernel) ?_
        refine g_icmp_ne (tgt := 74) (a := how) (b := 2) K dX6_isOpen_49 (by decide) (by omega) (by omega) (fun h49_14 => ?_) (fun h49_14 => ?_)
        · refine g_iconst K 0 dX6_isOpen_74 (by decide +kernel) ?_
          exact g_retd hret dX6_isOpen_75 (by unfold openM; (repeat' split) <;> first | rfl | contradiction | (exfalso; omega) | omega) rfl
        · refine g_iload K 0 dX6_isOpen_52 rfl ?_
          refine g_if_ne (tgt := 74) (a := 1) K dX6_isOpen_54 (by decide) (by omega) (fun h54_15 => ?_) (fun h54_15 => absurd h54_15 (by omega))
          refine g_iconst K 0 dX6_isOpen_74 (by decide +kernel) ?_
          exact g_retd hret dX6_isOpen_75 (by unfold openM; (repeat' split) <;> first | rfl | contradiction | (exfalso; omega) | omega) rfl
      · refine g_iload K 0 dX6_isOpen_42 rfl ?_
        refine g_if_eq (tgt := 70) (a := 1) K dX6_isOpen_44 (by decide) (by omega) (fun h44_16 => absurd h44_16 (by omega)) (fun h44_16 => ?_)
        refine g_iload_n K 4 dX6_isOpen_47 rfl ?_
        refine g_iconst K 2 dX6_isOpen_48 (by decide +kernel) ?_
        refine g_icmp_ne (tgt := 74) (a := how) (b := 2) K dX6_isOpen_49 (by decide) (by omega) (by omega) (fun h49_17 => ?_) (fun h49_17 => ?_)
        · refine g_iconst K 0 dX6_isOpen_74 (by decide +kernel) ?_
          exact g_retd hret dX6_isOpen_75 (by unfold openM; (repeat' split) <;> first | rfl | contradiction | (exfalso; omega) | omega) rfl
        · refine g_iload K 0 dX6_isOpen_52 rfl ?_
          refine g_if_ne (tgt := 74) (a := 1) K dX6_isOpen_54 (by decide) (by omega) (fun h54_18 => ?_) (fun h54_18 => absurd h54_18 (by omega))
          refine g_iconst K 0 dX6_isOpen_74 (by decide +kernel) ?_
          exact g_retd hret dX6_isOpen_75 (by unfold openM; (repeat' split) <;> first | rfl | contradiction | (exfalso; omega) | omega) rfl
  · refine g_iconst K 1 dX6_isOpen_14 (by decide +kernel) ?_
    exact g_retd hret dX6_isOpen_15 (by unfold openM; (repeat' split) <;> first | rfl | contradiction | (exfalso; omega) | omega) rfl

set_option maxHeartbeats 4000000 in
set_option maxRecDepth 100000 in
theorem L_sp (X : gC) (S : Nat → Nat → Nat) (how : Nat) (al : Nat) (bf : Nat) (K : gOk X cX6_spread 8 wsX6_spread RX6) (hRf : 1 ≤ (g_R X).frames) (hRl : 25 ≤ (g_R X).locals) (hm : wfM S) (hh : how < 4294967296) (hal : al < 4096) : ∀ (k pl : Nat) (all : Nat), pl + k = 2 * S 22 2 → (all < 268435456) → gG X 82 [(0, .ref (g_ad X 22)), (2, .int (nI (how))), (3, .int (nI (al))), (4, .int (nI (((gfor (fSp S how al) k pl all))))), (5, .int (nI (bf))), (6, .int (nI ((2 * S 22 2))))] [] S → gG X 20 [(0, .ref (g_ad X 22)), (2, .int (nI (how))), (3, .int (nI (al))), (4, .int (nI (all))), (5, .int (nI (bf))), (6, .int (nI (pl)))] [] S := by
  have hin6 : ∀ w ∈ u_ws RX6 TX6 17, w ∈ wsX6_spread := by decide +kernel
  obtain ⟨m1, m2, m3, m4, msh, mst, b23, b24, b25, b26, b27⟩ := id hm
  intro k
  induction k with
  | zero =>
    intro pl all hj ha kk
    have hj : pl = 2 * S 22 2 := by omega
    refine g_iload K 5 dX6_spread_20 rfl ?_
    refine g_iconst K 2 dX6_spread_22 (by decide +kernel) ?_
    refine g_aload_n K 0 dX6_spread_23 rfl ?_
    refine g_getI (q := 22) (ci := 6) (k := 2) (N := 17) (C := RX6) (T := TX6) (ref := "ValveWalkModel") K rfl rfl rfl (by decide) hin6 (by decide +kernel) rfl dX6_spread_24 ?_
    refine g_imul (a := 2) (b := S 22 2) K dX6_spread_27 ?_
    refine g_icmp_ge (tgt := 82) (a := pl) (b := (2) * (S 22 2)) K dX6_spread_28 (by decide) (by omega) (by omega) (fun h28_1 => ?_) (fun h28_1 => ?_)
    · refine g_loc (lo' := [(0, .ref (g_ad X 22)), (2, .int (nI (how))), (3, .int (nI (al))), (4, .int (nI (all))), (5, .int (nI (bf))), (6, .int (nI (pl)))]) [0, 1, 2, 3, 4, 5] rfl ?_
      exact g_cast (by first | rfl | (rw [hj]; done) | (rw [hj]; rfl)) rfl rfl kk
    · exact absurd h28_1 (by omega)
  | succ k ih =>
    intro pl all hj ha kk
    refine g_iload K 5 dX6_spread_20 rfl ?_
    refine g_iconst K 2 dX6_spread_22 (by decide +kernel) ?_
    refine g_aload_n K 0 dX6_spread_23 rfl ?_
    refine g_getI (q := 22) (ci := 6) (k := 2) (N := 17) (C := RX6) (T := TX6) (ref := "ValveWalkModel") K rfl rfl rfl (by decide) hin6 (by decide +kernel) rfl dX6_spread_24 ?_
    refine g_imul (a := 2) (b := S 22 2) K dX6_spread_27 ?_
    refine g_icmp_ge (tgt := 82) (a := pl) (b := (2) * (S 22 2)) K dX6_spread_28 (by decide) (by omega) (by omega) (fun h28_1 => ?_) (fun h28_1 => ?_)
    · exact absurd h28_1 (by omega)
    · refine g_iload K 5 dX6_spread_31 rfl ?_
      refine g_iconst K 2 dX6_spread_33 (by decide +kernel) ?_
      refine g_idiv (a := pl) (b := 2) K (by omega) (by omega) (by omega) dX6_spread_34 ?_
      refine g_callSd (As := [.int (nI ((pl) / (2)))]) (rest := []) K (cX6_partOf_k (g_z X) S ((pl) / (2)) (by omega)) (va_cwS 1 K.1.2.2.2.2 gX6_spread_X6_partOf rfl rfl rfl (by decide +kernel) ⟨Nat.le_trans (Nat.le_of_ble_eq_true rfl) hRf, Nat.le_trans (Nat.le_of_ble_eq_true rfl) hRl⟩) rfl rfl (Nat.le_of_ble_eq_true rfl) dX6_spread_35 ?_
      refine g_iconst K 1 dX6_spread_38 (by decide +kernel) ?_
      refine g_aload_n K 0 dX6_spread_39 rfl ?_
      refine g_getR (q' := 23) (q := 22) (ci := 6) (k := 5) (N := 17) (C := RX6) (T := TX6) (ref := "ValveWalkModel") K rfl rfl rfl (by decide) hin6 (by decide +kernel) rfl dX6_spread_40 ?_
      refine g_iload K 5 dX6_spread_43 rfl ?_
      refine g_ald (q := 23) (n := 32) (i := pl) K rfl (by decide) (by omega) dX6_spread_45 ?_
      have hv45_2 := b23 (pl)
      refine g_ishl (a := 1) (b := S 23 (pl)) K (by omega) dX6_spread_46 ?_
      refine g_ior (a := 1 <<< (12 + ((pl) / (2)))) (b := (1) <<< (S 23 (pl))) K dX6_spread_47 ?_
      have hbt : ((1) <<< (12 + (pl) / (2))) ||| ((1) <<< (S 23 (pl))) < 268435456 := bothM_lt hm (by omega)
      refine g_istore (lo' := [(7, .int (nI ((1 <<< (12 + ((pl) / (2)))) ||| ((1) <<< (S 23 (pl)))))), (0, .ref (g_ad X 22)), (2, .int (nI (how))), (3, .int (nI (al))), (4, .int (nI (all))), (5, .int (nI (bf))), (6, .int (nI (pl)))]) K dX6_spread_48 (by decide) rfl ?_
      refine g_iload K 4 dX6_spread_50 rfl ?_
      refine g_iload K 0 dX6_spread_52 rfl ?_
      refine g_iand (a := all) (b := (1 <<< (12 + ((pl) / (2)))) ||| ((1) <<< (S 23 (pl)))) K dX6_spread_54 ?_
      have hL54_3 := @Nat.and_le_left (all) ((1 <<< (12 + ((pl) / (2)))) ||| ((1) <<< (S 23 (pl))))
      have hR54_4 := @Nat.and_le_right (all) ((1 <<< (12 + ((pl) / (2)))) ||| ((1) <<< (S 23 (pl))))
      refine g_if_eq (tgt := 76) (a := (all) &&& ((1 <<< (12 + ((pl) / (2)))) ||| ((1) <<< (S 23 (pl))))) K dX6_spread_55 (by decide) (by omega) (fun h55_5 => ?_) (fun h55_5 => ?_)
      · refine g_iinc (a := pl) (b := pl + 1) (lo' := [(6, .int (nI (pl + 1))), (7, .int (nI ((1 <<< (12 + ((pl) / (2)))) ||| ((1) <<< (S 23 (pl)))))), (0, .ref (g_ad X 22)), (2, .int (nI (how))), (3, .int (nI (al))), (4, .int (nI (all))), (5, .int (nI (bf)))]) K 6 dX6_spread_76 rfl (gi_inc _) (by decide) rfl ?_
        refine g_goto (tgt := 20) K dX6_spread_79 (by decide) ?_
        refine g_loc (lo' := [(0, .ref (g_ad X 22)), (2, .int (nI (how))), (3, .int (nI (al))), (4, .int (nI (all))), (5, .int (nI (bf))), (6, .int (nI (pl + 1)))]) [2, 3, 4, 5, 6, 0] rfl ?_
        exact ih (pl + 1) all (by omega) (ha) (by rw [gfor_succ, show (fSp S how al) pl all = all from by unfold fSp bothM; first | rw [if_pos (by assumption)] | rw [if_neg (by assumption), if_pos (by assumption)] | rw [if_neg (by assumption), if_neg (by assumption)]] at kk; exact kk)
      · refine g_aload_n K 1 dX6_spread_58 rfl ?_
        refine g_iload K 6 dX6_spread_59 rfl ?_
        refine g_iload_n K 2 dX6_spread_61 rfl ?_
        refine g_iload_n K 3 dX6_spread_62 rfl ?_
        refine g_callVd (q := 22) (ci := 6) (As := [.int (nI (pl)), .int (nI (how)), .int (nI (al))]) (rest := []) (C := RX6) (T := TX6) (N := 17) K (cX6_isOpen_k (g_z X) S pl how al (hm) (by omega) (by omega) (by omega)) (cwV 3 K.1.2.2.2.2 gX6_spread_X6_isOpen rfl rfl rfl (by decide +kernel) ⟨Nat.le_trans (Nat.le_of_ble_eq_true rfl) hRf, Nat.le_trans (Nat.le_of_ble_eq_true rfl) hRl⟩) rfl rfl rfl rfl (Nat.le_of_ble_eq_true rfl) dX6_spread_63 ?_
        have hf63_6 := openM_le S pl how al
        refine g_if_eq (tgt := 76) (a := openM S pl how al) K dX6_spread_66 (by decide) (by omega) (fun h66_7 => ?_) (fun h66_7 => ?_)
        · refine g_iinc (a := pl) (b := pl + 1) (lo' := [(6, .int (nI (pl + 1))), (7, .int (nI ((1 <<< (12 + ((pl) / (2)))) ||| ((1) <<< (S 23 (pl)))))), (0, .ref (g_ad X 22)), (2, .int (nI (how))), (3, .int (nI (al))), (4, .int (nI (all))), (5, .int (nI (bf)))]) K 6 dX6_spread_76 rfl (gi_inc _) (by decide) rfl ?_
          refine g_goto (tgt := 20) K dX6_spread_79 (by decide) ?_
          refine g_loc (lo' := [(0, .ref (g_ad X 22)), (2, .int (nI (how))), (3, .int (nI (al))), (4, .int (nI (all))), (5, .int (nI (bf))), (6, .int (nI (pl + 1)))]) [2, 3, 4, 5, 6, 0] rfl ?_
          exact ih (pl + 1) all (by omega) (ha) (by rw [gfor_succ, show (fSp S how al) pl all = all from by unfold fSp bothM; first | rw [if_pos (by assumption)] | rw [if_neg (by assumption), if_pos (by assumption)] | rw [if_neg (by assumption), if_neg (by assumption)]] at kk; exact kk)
        · refine g_iload K 4 dX6_spread_69 rfl ?_
          refine g_iload K 0 dX6_spread_71 rfl ?_
          refine g_ior (a := all) (b := (1 <<< (12 + ((pl) / (2)))) ||| ((1) <<< (S 23 (pl)))) K dX6_spread_73 ?_
          refine g_istore (lo' := [(4, .int (nI ((all) ||| ((1 <<< (12 + ((pl) / (2)))) ||| ((1) <<< (S 23 (pl))))))), (7, .int (nI ((1 <<< (12 + ((pl) / (2)))) ||| ((1) <<< (S 23 (pl)))))), (0, .ref (g_ad X 22)), (2, .int (nI (how))), (3, .int (nI (al))), (5, .int (nI (bf))), (6, .int (nI (pl)))]) K dX6_spread_74 (by decide) rfl ?_
          refine g_iinc (a := pl) (b := pl + 1) (lo' := [(6, .int (nI (pl + 1))), (4, .int (nI ((all) ||| ((1 <<< (12 + ((pl) / (2)))) ||| ((1) <<< (S 23 (pl))))))), (7, .int (nI ((1 <<< (12 + ((pl) / (2)))) ||| ((1) <<< (S 23 (pl)))))), (0, .ref (g_ad X 22)), (2, .int (nI (how))), (3, .int (nI (al))), (5, .int (nI (bf)))]) K 6 dX6_spread_76 rfl (gi_inc _) (by decide) rfl ?_
          refine g_goto (tgt := 20) K dX6_spread_79 (by decide) ?_
          refine g_loc (lo' := [(0, .ref (g_ad X 22)), (2, .int (nI (how))), (3, .int (nI (al))), (4, .int (nI ((all) ||| ((1 <<< (12 + ((pl) / (2)))) ||| ((1) <<< (S 23 (pl))))))), (5, .int (nI (bf))), (6, .int (nI (pl + 1)))]) [3, 4, 5, 1, 6, 0] rfl ?_
          exact ih (pl + 1) ((all) ||| ((1 <<< (12 + ((pl) / (2)))) ||| ((1) <<< (S 23 (pl))))) (by omega) (or28 ha hbt) (by rw [gfor_succ, show (fSp S how al) pl all = (all) ||| ((1 <<< (12 + ((pl) / (2)))) ||| ((1) <<< (S 23 (pl)))) from by unfold fSp bothM; first | rw [if_pos (by assumption)] | rw [if_neg (by assumption), if_pos (by assumption)] | rw [if_neg (by assumption), if_neg (by assumption)]] at kk; exact kk)

set_option maxHeartbeats 4000000 in
set_option maxRecDepth 100000 in
theorem L_spr (X : gC) (S : Nat → Nat → Nat) (how : Nat) (al : Nat) (K : gOk X cX6_spread 8 wsX6_spread RX6) (hRf : 1 ≤ (g_R X).frames) (hRl : 25 ≤ (g_R X).locals) (hm : wfM S) (hh : how < 4294967296) (hal : al < 4096) : ∀ (k all bf : Nat), 2 * miss all + (if all = bf then 0 else 1) < k → all < 268435456 → bf < 268435456 → gG X 85 [(4, .int (nI (spGo S how al k all bf)))] [] S → gG X 6 [(0, .ref (g_ad X 22)), (2, .int (nI (how))), (3, .int (nI (al))), (4, .int (nI (all))), (5, .int (nI (bf)))] [] S := by
  have hin6 : ∀ w ∈ u_ws RX6 TX6 17, w ∈ wsX6_spread := by decide +kernel
  obtain ⟨m1, m2, m3, m4, msh, mst, b23, b24, b25, b26, b27⟩ := id hm
  intro k
  induction k with
  | zero =>
    intro all bf hk ha hbf kk
    exact absurd hk (Nat.not_lt_zero _)
  | succ k ih =>
    intro all bf hk ha hbf kk
    have hk0 : all ≠ bf → 2 * miss all + 1 < k + 1 := fun e => by rw [if_neg e] at hk; exact hk
    refine g_iload K 3 dX6_spread_6 rfl ?_
    refine g_iload K 4 dX6_spread_8 rfl ?_
    refine g_icmp_eq (tgt := 85) (a := all) (b := bf) K dX6_spread_10 (by decide) (by omega) (by omega) (fun h10_1 => ?_) (fun h10_1 => ?_)
    · refine g_loc (lo' := [(4, .int (nI (all)))]) [3] rfl ?_
      exact (by rw [spGo, if_pos (by assumption)] at kk; exact kk)
    · refine g_iload K 3 dX6_spread_13 rfl ?_
      refine g_istore (lo' := [(5, .int (nI (all))), (0, .ref (g_ad X 22)), (2, .int (nI (how))), (3, .int (nI (al))), (4, .int (nI (all)))]) K dX6_spread_15 (by decide) rfl ?_
      refine g_iconst K 0 dX6_spread_17 (by decide +kernel) ?_
      refine g_istore (lo' := [(6, .int (nI (0))), (5, .int (nI (all))), (0, .ref (g_ad X 22)), (2, .int (nI (how))), (3, .int (nI (al))), (4, .int (nI (all)))]) K dX6_spread_18 (by decide) rfl ?_
      refine g_loc (lo' := [(0, .ref (g_ad X 22)), (2, .int (nI (how))), (3, .int (nI (al))), (4, .int (nI (all))), (5, .int (nI (all))), (6, .int (nI (0)))]) [2, 3, 4, 5, 1, 0] rfl ?_
      refine L_sp X S how al all K (Nat.le_trans (Nat.le_of_ble_eq_true rfl) hRf) (Nat.le_trans (Nat.le_of_ble_eq_true rfl) hRl) (hm) (hh) (hal)  (2 * S 22 2) 0 all (by omega) (ha) ?_
      refine g_goto (tgt := 6) K dX6_spread_82 (by decide) ?_
      refine g_loc (lo' := [(0, .ref (g_ad X 22)), (2, .int (nI (how))), (3, .int (nI (al))), (4, .int (nI (((gfor (fSp S how al) (2 * S 22 2) 0 all))))), (5, .int (nI (all)))]) [0, 1, 2, 3, 4] rfl ?_
      exact ih (spPass S how al all) all (sp_meas hm how al all ha (hk0 (by assumption))) (spPass_lt hm how al all ha) ha (by rw [spGo, if_neg (by assumption)] at kk; exact kk)

set_option maxHeartbeats 4000000 in
set_option maxRecDepth 100000 in
theorem cX6_spread_k (Z : gZ) (S : Nat → Nat → Nat) (a how al : Nat) (hm : wfM S) (ha : a < 268435456) (hh : how < 4294967296) (hal : al < 4096) : gMd Z yX6_spread wsX6_spread { frames := 1, cells := 0, slots := 0, locals := 25 } [.ref (gz_ad Z 22), .int (nI (a)), .int (nI (how)), .int (nI (al))] S (spread S a how al) (S) := by
  refine gMd_of (cc := cX6_spread) (maxL := 8) (ret := (some .int)) (by decide +kernel) rfl (Nat.le_of_ble_eq_true rfl) (Or.inl rfl) (fun X hZ hR K hret => ?_)
  subst hZ
  have K : gOk X cX6_spread 8 wsX6_spread RX6 := K
  have hRf : 1 ≤ (g_R X).frames := gR_f hR rfl
  have hRl : 25 ≤ (g_R X).locals := gR_l hR rfl
  have hin6 : ∀ w ∈ u_ws RX6 TX6 17, w ∈ wsX6_spread := by decide +kernel
  obtain ⟨m1, m2, m3, m4, msh, mst, b23, b24, b25, b26, b27⟩ := id hm
  show gG X 0 [(0, .ref (g_ad X 22)), (1, .int (nI (a))), (2, .int (nI (how))), (3, .int (nI (al)))] [] S
  refine g_iload_n K 1 dX6_spread_0 rfl ?_
  refine g_istore (lo' := [(4, .int (nI (a))), (0, .ref (g_ad X 22)), (1, .int (nI (a))), (2, .int (nI (how))), (3, .int (nI (al)))]) K dX6_spread_1 (by decide) rfl ?_
  refine g_iconst K 0 dX6_spread_3 (by decide +kernel) ?_
  refine g_istore (lo' := [(5, .int (nI (0))), (4, .int (nI (a))), (0, .ref (g_ad X 22)), (1, .int (nI (a))), (2, .int (nI (how))), (3, .int (nI (al)))]) K dX6_spread_4 (by decide) rfl ?_
  refine g_loc (lo' := [(0, .ref (g_ad X 22)), (2, .int (nI (how))), (3, .int (nI (al))), (4, .int (nI (a))), (5, .int (nI (0)))]) [2, 4, 5, 1, 0] rfl ?_
  refine L_spr X S how al K (Nat.le_trans (Nat.le_of_ble_eq_true rfl) hRf) (Nat.le_trans (Nat.le_of_ble_eq_true rfl) hRl) hm hh hal 58 a 0 (by have := miss_le a; split <;> omega) ha (by decide) ?_
  refine g_iload K 0 dX6_spread_85 rfl ?_
  exact g_retd hret dX6_spread_87 rfl rfl

