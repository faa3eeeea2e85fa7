/-! THE LAW'S HELPERS, over networks of nodes alone -/
def rmH0 : Room := { frames := 9, cells := 0, slots := 0, locals := 200 }
def rmH1 : Room := { frames := 9, cells := 1, slots := 6, locals := 200 }
/-- n nodes, no pipe, no valve -/
def nd (S : Nat → Nat → Nat) (n : Nat) : Prop := wfC S ∧ S 1 0 = n ∧ S 1 1 = 0 ∧ S 1 2 = 0
theorem nd_up {S : Nat → Nat → Nat} {n : Nat} (h : nd S n) {q : Nat} (hq : 7 < q) (d : Nat → Nat) : nd (va_up S q d) n := by
  obtain ⟨h0, h1, h2, h3⟩ := h
  have e : va_up S q d 1 = S 1 := va_up_ne _ _ (by omega)
  exact ⟨wfC_up h0 hq d, by rw [e]; exact h1, by rw [e]; exact h2, by rw [e]; exact h3⟩
theorem nd_walk {S : Nat → Nat → Nat} {n : Nat} (h : nd S n) (node a : Nat) : nd (walkS S node a) n := by
  unfold walkS
  split
  · exact nd_up h (by decide) _
  · exact nd_up (nd_up (nd_up h (by decide) _) (by decide) _) (by decide) _
theorem nd_reach {S : Nat → Nat → Nat} {n : Nat} (h : nd S n) (a b : Nat) : reach S a b = a := by
  have e : fPass S b a = a := by
    unfold fPass
    rw [h.2.2.1]
    rfl
  show (if fPass S b a = a then fPass S b a else _) = a
  rw [e, if_pos rfl]
theorem nd_ntz : ∀ k : Fin 12, 0 < (1 <<< k.val) ∧ ntz (1 <<< k.val) ≤ 28 := by decide +kernel
theorem nd_seg {S : Nat → Nat → Nat} {n k : Nat} (h : nd S n) (hk : k < n) : 0 < segWith S k ∧ ntz (segWith S k) ≤ 28 := by
  have h0 := h.1.1
  have e : segWith S k = 1 <<< k := nd_reach h _ _
  rw [e]
  exact nd_ntz ⟨k, by have := h.2.1; omega⟩
theorem nd_flush {S : Nat → Nat → Nat} {n : Nat} (h : nd S n) (pl : Nat) : flushF S pl = 4294967295 := by
  unfold flushF
  rw [h.2.2.1]
  rfl
theorem nd_node {S : Nat → Nat → Nat} {n : Nat} (h : nd S n) (hn : n < 12) (i : Nat) : nd (gup (gup S 1 0 (S 1 0 + 1)) 1 3 (gwith (S 1 3) (S 1 0) i)) (n + 1) := by
  obtain ⟨⟨w0, w1, w2, w3, w4, w5, w6⟩, h1, h2, h3⟩ := h
  have hg : gwith (S 1 3) (S 1 0) i < 4096 := by
    have hs : S 1 0 < 12 := by omega
    unfold gwith
    split
    · exact Nat.lt_of_le_of_lt Nat.and_le_left w3
    · exact or12 w3 (by rw [Nat.shiftLeft_eq, Nat.one_mul]; exact Nat.pow_lt_pow_right (by decide) hs)
  refine ⟨⟨?_, ?_, ?_, ?_, ?_, ?_, ?_⟩, ?_, ?_, ?_⟩
  · show S 1 0 + 1 ≤ 12; omega
  · exact w1
  · exact w2
  · exact hg
  · exact w4
  · exact w5
  · exact w6
  · show S 1 0 + 1 = n + 1; omega
  · exact h2
  · exact h3
set_option maxHeartbeats 4000000 in
set_option maxRecDepth 100000 in
theorem hL_nodes_n (Z : gZ) (S : Nat → Nat → Nat) {n : Nat} (i : Nat) (hnd : nd S n) (hn : n < 12) (hi : i < 4294967296) : gMu Z yL_nodes wsL_nodes rmH0 [.ref (gz_ad Z 0), .int (nI (i))] S (fun v S1 w => v < 4294967296 ∧ nd S1 (n + 1) ∧ w = gz_ex Z) 0 0 0 := by
  refine gMu_ofW (cc := cL_nodes) (maxL := 3) (ret := some .int) (hh := [(0, 5, 6, 13)]) (by decide +kernel) rfl rfl (Nat.le_of_ble_eq_true rfl) (fun X hZ hR htab h hret => ?_)
  subst hZ
  have K := h.2.1
  obtain ⟨hw, e0, e1, e2⟩ := id hnd
  show gG X 0 [(0, .ref (gz_ad (g_z X) 0)), (1, .int (nI (i)))] [] S
  refine g_aload_n K 0 dL_nodes_0 rfl ?_
  refine g_iload_n K 1 dL_nodes_1 rfl ?_
  refine g_callVq (As := [.int (nI (i))]) (rest := []) h (cX5_addNode_k (zy (g_z X) (gz_ad (g_z X)) (gz_ex (g_z X))) S i hw (by omega) hi) (cwV 1 K.1.2.2.2.2 gL_nodes_X5_addNode rfl rfl rfl (by decide +kernel) ⟨by rw [hR]; exact Nat.le_of_ble_eq_true rfl, by rw [hR]; exact Nat.le_of_ble_eq_true rfl⟩) rfl rfl (Nat.le_of_ble_eq_true rfl) dL_nodes_2 ?_
  refine g_topM (fun v hv => ?_)
  exact hret X _ _ v _ _ _ _ _ h (Nat.le_refl _) (Nat.le_refl _) (Nat.le_refl _) ⟨hv, nd_node hnd hn i, rfl⟩ (Or.inl rfl) dL_nodes_5

set_option maxHeartbeats 4000000 in
set_option maxRecDepth 100000 in
theorem hL_nodeDry_n (Z : gZ) (S : Nat → Nat → Nat) {n : Nat} (k : Nat) (hnd : nd S n) (hk : k < n) : gMu Z yL_nodeDry wsL_nodeDry rmH0 [.ref (gz_ad Z 0), .int (nI (k))] S (fun v S1 w => v < 4294967296 ∧ nd S1 n ∧ w = gz_ex Z) 0 0 0 := by
  refine gMu_ofW (cc := cL_nodeDry) (maxL := 3) (ret := some .int) (hh := [(0, 13, 14, 20)]) (by decide +kernel) rfl rfl (Nat.le_of_ble_eq_true rfl) (fun X hZ hR htab h hret => ?_)
  subst hZ
  have K := h.2.1
  obtain ⟨hw, e0, e1, e2⟩ := id hnd
  show gG X 0 [(0, .ref (gz_ad (g_z X) 0)), (1, .int (nI (k)))] [] S
  refine g_aload_n K 0 dL_nodeDry_0 rfl ?_
  refine g_iload_n K 1 dL_nodeDry_1 rfl ?_
  refine g_callVq (As := [.int (nI (k))]) (rest := []) h (cX5_isNodeDry_k (zy (g_z X) (gz_ad (g_z X)) (gz_ex (g_z X))) S k hw (by omega)) (cwV 1 K.1.2.2.2.2 gL_nodeDry_X5_isNodeDry rfl rfl rfl (by decide +kernel) ⟨by rw [hR]; exact Nat.le_of_ble_eq_true rfl, by rw [hR]; exact Nat.le_of_ble_eq_true rfl⟩) rfl rfl (Nat.le_of_ble_eq_true rfl) dL_nodeDry_2 ?_
  refine g_topM (fun v hv => ?_)
  refine g_boolI (t1 := 12) (t2 := 13) K hv dL_nodeDry_5 (by decide) dL_nodeDry_8 dL_nodeDry_9 (by decide) dL_nodeDry_12 rfl ?_
  exact hret X _ _ (bI v) _ _ _ _ _ h (Nat.le_refl _) (Nat.le_refl _) (Nat.le_refl _) ⟨(Nat.lt_of_le_of_lt (bI_le v) (by decide)), hnd, rfl⟩ (Or.inl rfl) dL_nodeDry_13

set_option maxHeartbeats 4000000 in
set_option maxRecDepth 100000 in
theorem hL_ofNode_n (Z : gZ) (S : Nat → Nat → Nat) {n : Nat} (k : Nat) (hnd : nd S n) (hk : k < n) : gMu Z yL_ofNode wsL_ofNode rmH0 [.ref (gz_ad Z 0), .int (nI (k))] S (fun v S1 w => v < 4294967296 ∧ nd S1 n ∧ w = gz_ex Z) 0 0 0 := by
  refine gMu_ofW (cc := cL_ofNode) (maxL := 3) (ret := some .int) (hh := [(0, 5, 6, 20)]) (by decide +kernel) rfl rfl (Nat.le_of_ble_eq_true rfl) (fun X hZ hR htab h hret => ?_)
  subst hZ
  have K := h.2.1
  obtain ⟨hw, e0, e1, e2⟩ := id hnd
  show gG X 0 [(0, .ref (gz_ad (g_z X) 0)), (1, .int (nI (k)))] [] S
  refine g_aload_n K 0 dL_ofNode_0 rfl ?_
  refine g_iload_n K 1 dL_ofNode_1 rfl ?_
  refine g_callVq (As := [.int (nI (k))]) (rest := []) h (cX5_segmentOfNode_k (zy (g_z X) (gz_ad (g_z X)) (gz_ex (g_z X))) S k hw (by omega) (nd_seg hnd hk).1 (nd_seg hnd hk).2) (cwV 1 K.1.2.2.2.2 gL_ofNode_X5_segmentOfNode rfl rfl rfl (by decide +kernel) ⟨by rw [hR]; exact Nat.le_of_ble_eq_true rfl, by rw [hR]; exact Nat.le_of_ble_eq_true rfl⟩) rfl rfl (Nat.le_of_ble_eq_true rfl) dL_ofNode_2 ?_
  refine g_topM (fun v hv => ?_)
  exact hret X _ _ v _ _ _ _ _ h (Nat.le_refl _) (Nat.le_refl _) (Nat.le_refl _) ⟨hv, hnd, rfl⟩ (Or.inl rfl) dL_ofNode_5

set_option maxHeartbeats 4000000 in
set_option maxRecDepth 100000 in
theorem hL_far_n (Z : gZ) (S : Nat → Nat → Nat) {n : Nat} (k : Nat) (hnd : nd S n) (hk : k < n) : gMu Z yL_far wsL_far rmH0 [.ref (gz_ad Z 0), .int (nI (k))] S (fun v S1 w => v < 4294967296 ∧ nd S1 n ∧ w = gz_ex Z) 0 0 0 := by
  refine gMu_ofW (cc := cL_far) (maxL := 3) (ret := some .int) (hh := [(0, 5, 6, 20)]) (by decide +kernel) rfl rfl (Nat.le_of_ble_eq_true rfl) (fun X hZ hR htab h hret => ?_)
  subst hZ
  have K := h.2.1
  obtain ⟨hw, e0, e1, e2⟩ := id hnd
  show gG X 0 [(0, .ref (gz_ad (g_z X) 0)), (1, .int (nI (k)))] [] S
  refine g_aload_n K 0 dL_far_0 rfl ?_
  refine g_iload_n K 1 dL_far_1 rfl ?_
  refine g_callVq (As := [.int (nI (k))]) (rest := []) h (cX5_distance_k (zy (g_z X) (gz_ad (g_z X)) (gz_ex (g_z X))) S k hw (by omega)) (cwV 1 K.1.2.2.2.2 gL_far_X5_distance rfl rfl rfl (by decide +kernel) ⟨by rw [hR]; exact Nat.le_of_ble_eq_true rfl, by rw [hR]; exact Nat.le_of_ble_eq_true rfl⟩) rfl rfl (Nat.le_of_ble_eq_true rfl) dL_far_2 ?_
  refine g_topM (fun v hv => ?_)
  exact hret X _ _ v _ _ _ _ _ h (Nat.le_refl _) (Nat.le_refl _) (Nat.le_refl _) ⟨hv, nd_up hnd (by decide) _, rfl⟩ (Or.inl rfl) dL_far_5

set_option maxHeartbeats 4000000 in
set_option maxRecDepth 100000 in
theorem hL_walks_n (Z : gZ) (S : Nat → Nat → Nat) {n : Nat} (k a : Nat) (hnd : nd S n) (hk : k < n) (ha : a = 0) : gMu Z yL_walks wsL_walks rmH0 [.ref (gz_ad Z 0), .int (nI (k)), .int (nI (a))] S (fun v S1 w => v < 4294967296 ∧ nd S1 n ∧ w = gz_ex Z) 0 0 0 := by
  refine gMu_ofW (cc := cL_walks) (maxL := 4) (ret := some .int) (hh := [(0, 6, 7, 20), (0, 6, 11, 23)]) (by decide +kernel) rfl rfl (Nat.le_of_ble_eq_true rfl) (fun X hZ hR htab h hret => ?_)
  subst hZ
  have K := h.2.1
  obtain ⟨hw, e0, e1, e2⟩ := id hnd
  show gG X 0 [(0, .ref (gz_ad (g_z X) 0)), (1, .int (nI (k))), (2, .int (nI (a)))] [] S
  refine g_aload_n K 0 dL_walks_0 rfl ?_
  refine g_iload_n K 1 dL_walks_1 rfl ?_
  refine g_iload_n K 2 dL_walks_2 rfl ?_
  refine g_callVq (As := [.int (nI (k)), .int (nI (a))]) (rest := []) h (cX5_walk_k (zy (g_z X) (gz_ad (g_z X)) (gz_ex (g_z X))) S k a hw (by omega) (by rw [ha, e2]; decide) (by rw [ha]; decide)) (cwV 2 K.1.2.2.2.2 gL_walks_X5_walk rfl rfl rfl (by decide +kernel) ⟨by rw [hR]; exact Nat.le_of_ble_eq_true rfl, by rw [hR]; exact Nat.le_of_ble_eq_true rfl⟩) rfl rfl (Nat.le_of_ble_eq_true rfl) dL_walks_3 ?_
  refine g_topM (fun v hv => ?_)
  exact hret X _ _ v _ _ _ _ _ h (Nat.le_refl _) (Nat.le_refl _) (Nat.le_refl _) ⟨hv, nd_walk hnd _ _, rfl⟩ (Or.inl rfl) dL_walks_6

set_option maxHeartbeats 4000000 in
set_option maxRecDepth 100000 in
theorem hL_pipes_x1 (Z : gZ) (S : Nat → Nat → Nat) {n : Nat} (x y l c : Nat) (hnd : nd S n) (hl0 : (gz_l Z).stackTraces = false) (hux : x < 4294967296) (huy : y < 4294967296) (hul : l < 4294967296) (huc : c < 4294967296) (hx : n ≤ x) : gMu Z yL_pipes wsL_pipes rmH1 [.ref (gz_ad Z 0), .int (nI (x)), .int (nI (y)), .int (nI (l)), .int (nI (c))] S (fun v S1 w => v = 2294967295 ∧ nd S1 n ∧ w = gz_ex Z) 1 6 1 := by
  refine gMu_ofW (cc := cL_pipes) (maxL := 6) (ret := some .int) (hh := [(0, 9, 10, 20), (0, 9, 15, 23), (0, 9, 20, 13)]) (by decide +kernel) rfl rfl (Nat.le_of_ble_eq_true rfl) (fun X hZ hR htab h hret => ?_)
  subst hZ
  have K := h.2.1
  obtain ⟨hw, e0, e1, e2⟩ := id hnd
  show gG X 0 [(0, .ref (gz_ad (g_z X) 0)), (1, .int (nI (x))), (2, .int (nI (y))), (3, .int (nI (l))), (4, .int (nI (c)))] [] S
  refine g_aload_n K 0 dL_pipes_0 rfl ?_
  refine g_iload_n K 1 dL_pipes_1 rfl ?_
  refine g_iload_n K 2 dL_pipes_2 rfl ?_
  refine g_iload_n K 3 dL_pipes_3 rfl ?_
  refine g_iload K 4 dL_pipes_4 rfl ?_
  refine g_callXq (As := [.int (nI (x)), .int (nI (y)), .int (nI (l)), .int (nI (c))]) (rest := []) h (xX5_addPipe_x1 (zy (g_z X) (gz_ad (g_z X)) (gz_ex (g_z X))) S x y l c hl0 hw hux huy hul huc (by omega)) (cwV 4 K.1.2.2.2.2 gL_pipes_X5_addPipe rfl rfl rfl (by decide +kernel) ⟨by rw [hR]; exact Nat.le_of_ble_eq_true rfl, by rw [hR]; exact Nat.le_of_ble_eq_true rfl⟩) (by rw [hR]; exact Nat.le_of_ble_eq_true rfl) (by rw [hR]; exact Nat.le_of_ble_eq_true rfl) rfl rfl (Nat.le_of_ble_eq_true rfl) dL_pipes_6 ?_
  refine g_catchQ (name := IOB) h [] ⟨0, 9, 10, 20⟩ [⟨0, 9, 15, 23⟩, ⟨0, 9, 20, 13⟩] htab (fun z hz => absurd hz List.not_mem_nil) (by decide) (by decide) (K.1.2.2.2.2 (.classLink RL 20 IOB) (by decide +kernel)) (gT_cast h.2.2.1 bad_IOB _) (by rw [hR]; exact Nat.le_of_ble_eq_true rfl) (by rw [hR]; exact Nat.le_of_ble_eq_true rfl) (fun X' q h' => ?_)
  show gG X' 10 _ [.ref q] _
  have K' := h'.2.1
  refine g_astore (lo' := [(5, .ref (q)), (0, .ref (gz_ad (g_z X) 0)), (1, .int (nI (x))), (2, .int (nI (y))), (3, .int (nI (l))), (4, .int (nI (c)))]) K' dL_pipes_10 (by decide) rfl ?_
  refine g_ldc (w := -2000000001) K' 2294967295 (K'.1.2.2.2.2 _ (by decide +kernel)) (by decide +kernel) dL_pipes_12 ?_
  exact hret X' _ _ 2294967295 _ _ _ _ _ h' (Nat.le_refl _) (Nat.le_refl _) (Nat.le_refl _) ⟨rfl, hnd, rfl⟩ (Or.inl rfl) dL_pipes_14

set_option maxHeartbeats 4000000 in
set_option maxRecDepth 100000 in
theorem hL_pipes_x2 (Z : gZ) (S : Nat → Nat → Nat) {n : Nat} (x y l c : Nat) (hnd : nd S n) (hl0 : (gz_l Z).stackTraces = false) (hux : x < 4294967296) (huy : y < 4294967296) (hul : l < 4294967296) (huc : c < 4294967296) (hx : x < n) (hy : n ≤ y) : gMu Z yL_pipes wsL_pipes rmH1 [.ref (gz_ad Z 0), .int (nI (x)), .int (nI (y)), .int (nI (l)), .int (nI (c))] S (fun v S1 w => v = 2294967295 ∧ nd S1 n ∧ w = gz_ex Z) 1 6 1 := by
  refine gMu_ofW (cc := cL_pipes) (maxL := 6) (ret := some .int) (hh := [(0, 9, 10, 20), (0, 9, 15, 23), (0, 9, 20, 13)]) (by decide +kernel) rfl rfl (Nat.le_of_ble_eq_true rfl) (fun X hZ hR htab h hret => ?_)
  subst hZ
  have K := h.2.1
  obtain ⟨hw, e0, e1, e2⟩ := id hnd
  show gG X 0 [(0, .ref (gz_ad (g_z X) 0)), (1, .int (nI (x))), (2, .int (nI (y))), (3, .int (nI (l))), (4, .int (nI (c)))] [] S
  refine g_aload_n K 0 dL_pipes_0 rfl ?_
  refine g_iload_n K 1 dL_pipes_1 rfl ?_
  refine g_iload_n K 2 dL_pipes_2 rfl ?_
  refine g_iload_n K 3 dL_pipes_3 rfl ?_
  refine g_iload K 4 dL_pipes_4 rfl ?_
  refine g_callXq (As := [.int (nI (x)), .int (nI (y)), .int (nI (l)), .int (nI (c))]) (rest := []) h (xX5_addPipe_x2 (zy (g_z X) (gz_ad (g_z X)) (gz_ex (g_z X))) S x y l c hl0 hw hux huy hul huc (by omega) (by omega)) (cwV 4 K.1.2.2.2.2 gL_pipes_X5_addPipe rfl rfl rfl (by decide +kernel) ⟨by rw [hR]; exact Nat.le_of_ble_eq_true rfl, by rw [hR]; exact Nat.le_of_ble_eq_true rfl⟩) (by rw [hR]; exact Nat.le_of_ble_eq_true rfl) (by rw [hR]; exact Nat.le_of_ble_eq_true rfl) rfl rfl (Nat.le_of_ble_eq_true rfl) dL_pipes_6 ?_
  refine g_catchQ (name := IOB) h [] ⟨0, 9, 10, 20⟩ [⟨0, 9, 15, 23⟩, ⟨0, 9, 20, 13⟩] htab (fun z hz => absurd hz List.not_mem_nil) (by decide) (by decide) (K.1.2.2.2.2 (.classLink RL 20 IOB) (by decide +kernel)) (gT_cast h.2.2.1 bad_IOB _) (by rw [hR]; exact Nat.le_of_ble_eq_true rfl) (by rw [hR]; exact Nat.le_of_ble_eq_true rfl) (fun X' q h' => ?_)
  show gG X' 10 _ [.ref q] _
  have K' := h'.2.1
  refine g_astore (lo' := [(5, .ref (q)), (0, .ref (gz_ad (g_z X) 0)), (1, .int (nI (x))), (2, .int (nI (y))), (3, .int (nI (l))), (4, .int (nI (c)))]) K' dL_pipes_10 (by decide) rfl ?_
  refine g_ldc (w := -2000000001) K' 2294967295 (K'.1.2.2.2.2 _ (by decide +kernel)) (by decide +kernel) dL_pipes_12 ?_
  exact hret X' _ _ 2294967295 _ _ _ _ _ h' (Nat.le_refl _) (Nat.le_refl _) (Nat.le_refl _) ⟨rfl, hnd, rfl⟩ (Or.inl rfl) dL_pipes_14

set_option maxHeartbeats 4000000 in
set_option maxRecDepth 100000 in
theorem hL_pipes_x3 (Z : gZ) (S : Nat → Nat → Nat) {n : Nat} (x y l c : Nat) (hnd : nd S n) (hl0 : (gz_l Z).stackTraces = false) (hux : x < 4294967296) (huy : y < 4294967296) (hul : l < 4294967296) (huc : c < 4294967296) (hx : x < n) (hy : y < n) (hb : x = y ∨ ¬ (1 ≤ l ∧ l ≤ 99) ∨ ¬ c ≤ 99) : gMu Z yL_pipes wsL_pipes rmH1 [.ref (gz_ad Z 0), .int (nI (x)), .int (nI (y)), .int (nI (l)), .int (nI (c))] S (fun v S1 w => v = 2294967294 ∧ nd S1 n ∧ w = gz_ex Z) 1 6 1 := by
  refine gMu_ofW (cc := cL_pipes) (maxL := 6) (ret := some .int) (hh := [(0, 9, 10, 20), (0, 9, 15, 23), (0, 9, 20, 13)]) (by decide +kernel) rfl rfl (Nat.le_of_ble_eq_true rfl) (fun X hZ hR htab h hret => ?_)
  subst hZ
  have K := h.2.1
  obtain ⟨hw, e0, e1, e2⟩ := id hnd
  show gG X 0 [(0, .ref (gz_ad (g_z X) 0)), (1, .int (nI (x))), (2, .int (nI (y))), (3, .int (nI (l))), (4, .int (nI (c)))] [] S
  refine g_aload_n K 0 dL_pipes_0 rfl ?_
  refine g_iload_n K 1 dL_pipes_1 rfl ?_
  refine g_iload_n K 2 dL_pipes_2 rfl ?_
  refine g_iload_n K 3 dL_pipes_3 rfl ?_
  refine g_iload K 4 dL_pipes_4 rfl ?_
  refine g_callXq (As := [.int (nI (x)), .int (nI (y)), .int (nI (l)), .int (nI (c))]) (rest := []) h (xX5_addPipe_x3 (zy (g_z X) (gz_ad (g_z X)) (gz_ex (g_z X))) S x y l c hl0 hw hux huy hul huc (by omega) (by omega) hb) (cwV 4 K.1.2.2.2.2 gL_pipes_X5_addPipe rfl rfl rfl (by decide +kernel) ⟨by rw [hR]; exact Nat.le_of_ble_eq_true rfl, by rw [hR]; exact Nat.le_of_ble_eq_true rfl⟩) (by rw [hR]; exact Nat.le_of_ble_eq_true rfl) (by rw [hR]; exact Nat.le_of_ble_eq_true rfl) rfl rfl (Nat.le_of_ble_eq_true rfl) dL_pipes_6 ?_
  refine g_catchQ (name := IAE) h [⟨0, 9, 10, 20⟩] ⟨0, 9, 15, 23⟩ [⟨0, 9, 20, 13⟩] htab (fun z hz => by
    simp only [List.mem_cons, List.not_mem_nil, or_false] at hz
    subst hz
    exact Or.inr ⟨by decide, IOB, K.1.2.2.2.2 (.classLink RL 20 IOB) (by decide +kernel), h.2.2.2.1.2.2⟩) (by decide) (by decide) (K.1.2.2.2.2 (.classLink RL 23 IAE) (by decide +kernel)) (gT_cast h.2.2.1 bad_IAE _) (by rw [hR]; exact Nat.le_of_ble_eq_true rfl) (by rw [hR]; exact Nat.le_of_ble_eq_true rfl) (fun X' q h' => ?_)
  show gG X' 15 _ [.ref q] _
  have K' := h'.2.1
  refine g_astore (lo' := [(5, .ref (q)), (0, .ref (gz_ad (g_z X) 0)), (1, .int (nI (x))), (2, .int (nI (y))), (3, .int (nI (l))), (4, .int (nI (c)))]) K' dL_pipes_15 (by decide) rfl ?_
  refine g_ldc (w := -2000000002) K' 2294967294 (K'.1.2.2.2.2 _ (by decide +kernel)) (by decide +kernel) dL_pipes_17 ?_
  exact hret X' _ _ 2294967294 _ _ _ _ _ h' (Nat.le_refl _) (Nat.le_refl _) (Nat.le_refl _) ⟨rfl, hnd, rfl⟩ (Or.inl rfl) dL_pipes_19

set_option maxHeartbeats 4000000 in
set_option maxRecDepth 100000 in
theorem hL_valves_x1 (Z : gZ) (S : Nat → Nat → Nat) {n : Nat} (p e : Nat) (hnd : nd S n) (hl0 : (gz_l Z).stackTraces = false) (hup : p < 4294967296) (hue : e < 4294967296) : gMu Z yL_valves wsL_valves rmH1 [.ref (gz_ad Z 0), .int (nI (p)), .int (nI (e))] S (fun v S1 w => v = 2294967295 ∧ nd S1 n ∧ w = gz_ex Z) 1 6 1 := by
  refine gMu_ofW (cc := cL_valves) (maxL := 4) (ret := some .int) (hh := [(0, 6, 7, 20), (0, 6, 11, 23), (0, 6, 15, 13)]) (by decide +kernel) rfl rfl (Nat.le_of_ble_eq_true rfl) (fun X hZ hR htab h hret => ?_)
  subst hZ
  have K := h.2.1
  obtain ⟨hw, e0, e1, e2⟩ := id hnd
  show gG X 0 [(0, .ref (gz_ad (g_z X) 0)), (1, .int (nI (p))), (2, .int (nI (e)))] [] S
  refine g_aload_n K 0 dL_valves_0 rfl ?_
  refine g_iload_n K 1 dL_valves_1 rfl ?_
  refine g_iload_n K 2 dL_valves_2 rfl ?_
  refine g_callXq (As := [.int (nI (p)), .int (nI (e))]) (rest := []) h (xX5_addValve_x1 (zy (g_z X) (gz_ad (g_z X)) (gz_ex (g_z X))) S p e hl0 hw hup hue (by omega)) (cwV 2 K.1.2.2.2.2 gL_valves_X5_addValve rfl rfl rfl (by decide +kernel) ⟨by rw [hR]; exact Nat.le_of_ble_eq_true rfl, by rw [hR]; exact Nat.le_of_ble_eq_true rfl⟩) (by rw [hR]; exact Nat.le_of_ble_eq_true rfl) (by rw [hR]; exact Nat.le_of_ble_eq_true rfl) rfl rfl (Nat.le_of_ble_eq_true rfl) dL_valves_3 ?_
  refine g_catchQ (name := IOB) h [] ⟨0, 6, 7, 20⟩ [⟨0, 6, 11, 23⟩, ⟨0, 6, 15, 13⟩] htab (fun z hz => absurd hz List.not_mem_nil) (by decide) (by decide) (K.1.2.2.2.2 (.classLink RL 20 IOB) (by decide +kernel)) (gT_cast h.2.2.1 bad_IOB _) (by rw [hR]; exact Nat.le_of_ble_eq_true rfl) (by rw [hR]; exact Nat.le_of_ble_eq_true rfl) (fun X' q h' => ?_)
  show gG X' 7 _ [.ref q] _
  have K' := h'.2.1
  refine g_astore_n (lo' := [(3, .ref (q)), (0, .ref (gz_ad (g_z X) 0)), (1, .int (nI (p))), (2, .int (nI (e)))]) K' dL_valves_7 (by decide) rfl ?_
  refine g_ldc (w := -2000000001) K' 2294967295 (K'.1.2.2.2.2 _ (by decide +kernel)) (by decide +kernel) dL_valves_8 ?_
  exact hret X' _ _ 2294967295 _ _ _ _ _ h' (Nat.le_refl _) (Nat.le_refl _) (Nat.le_refl _) ⟨rfl, hnd, rfl⟩ (Or.inl rfl) dL_valves_10

set_option maxHeartbeats 4000000 in
set_option maxRecDepth 100000 in
theorem hL_sources_x1 (Z : gZ) (S : Nat → Nat → Nat) {n : Nat} (k i : Nat) (hnd : nd S n) (hl0 : (gz_l Z).stackTraces = false) (huk : k < 4294967296) (hgk : n ≤ k) : gMu Z yL_sources wsL_sources rmH1 [.ref (gz_ad Z 0), .int (nI (k)), .int (nI (i))] S (fun v S1 w => v = 2294967295 ∧ nd S1 n ∧ w = gz_ex Z) 1 6 1 := by
  refine gMu_ofW (cc := cL_sources) (maxL := 4) (ret := some .int) (hh := [(0, 14, 15, 20)]) (by decide +kernel) rfl rfl (Nat.le_of_ble_eq_true rfl) (fun X hZ hR htab h hret => ?_)
  subst hZ
  have K := h.2.1
  obtain ⟨hw, e0, e1, e2⟩ := id hnd
  show gG X 0 [(0, .ref (gz_ad (g_z X) 0)), (1, .int (nI (k))), (2, .int (nI (i)))] [] S
  refine g_aload_n K 0 dL_sources_0 rfl ?_
  refine g_iload_n K 1 dL_sources_1 rfl ?_
  refine g_iload_n K 2 dL_sources_2 rfl ?_
  refine g_callXq (As := [.int (nI (k)), .int (nI (i))]) (rest := []) h (xX5_setSource_x (zy (g_z X) (gz_ad (g_z X)) (gz_ex (g_z X))) S k i hl0 hw huk (by omega)) (cwV 2 K.1.2.2.2.2 gL_sources_X5_setSource rfl rfl rfl (by decide +kernel) ⟨by rw [hR]; exact Nat.le_of_ble_eq_true rfl, by rw [hR]; exact Nat.le_of_ble_eq_true rfl⟩) (by rw [hR]; exact Nat.le_of_ble_eq_true rfl) (by rw [hR]; exact Nat.le_of_ble_eq_true rfl) rfl rfl (Nat.le_of_ble_eq_true rfl) dL_sources_3 ?_
  refine g_catchQ (name := IOB) h [] ⟨0, 14, 15, 20⟩ [] htab (fun z hz => absurd hz List.not_mem_nil) (by decide) (by decide) (K.1.2.2.2.2 (.classLink RL 20 IOB) (by decide +kernel)) (gT_cast h.2.2.1 bad_IOB _) (by rw [hR]; exact Nat.le_of_ble_eq_true rfl) (by rw [hR]; exact Nat.le_of_ble_eq_true rfl) (fun X' q h' => ?_)
  show gG X' 15 _ [.ref q] _
  have K' := h'.2.1
  refine g_astore_n (lo' := [(3, .ref (q)), (0, .ref (gz_ad (g_z X) 0)), (1, .int (nI (k))), (2, .int (nI (i)))]) K' dL_sources_15 (by decide) rfl ?_
  refine g_ldc (w := -2000000001) K' 2294967295 (K'.1.2.2.2.2 _ (by decide +kernel)) (by decide +kernel) dL_sources_16 ?_
  exact hret X' _ _ 2294967295 _ _ _ _ _ h' (Nat.le_refl _) (Nat.le_refl _) (Nat.le_refl _) ⟨rfl, hnd, rfl⟩ (Or.inl rfl) dL_sources_18

set_option maxHeartbeats 4000000 in
set_option maxRecDepth 100000 in
theorem hL_sticks_x1 (Z : gZ) (S : Nat → Nat → Nat) {n : Nat} (k i : Nat) (hnd : nd S n) (hl0 : (gz_l Z).stackTraces = false) (huk : k < 4294967296) : gMu Z yL_sticks wsL_sticks rmH1 [.ref (gz_ad Z 0), .int (nI (k)), .int (nI (i))] S (fun v S1 w => v = 2294967295 ∧ nd S1 n ∧ w = gz_ex Z) 1 6 1 := by
  refine gMu_ofW (cc := cL_sticks) (maxL := 4) (ret := some .int) (hh := [(0, 14, 15, 20)]) (by decide +kernel) rfl rfl (Nat.le_of_ble_eq_true rfl) (fun X hZ hR htab h hret => ?_)
  subst hZ
  have K := h.2.1
  obtain ⟨hw, e0, e1, e2⟩ := id hnd
  show gG X 0 [(0, .ref (gz_ad (g_z X) 0)), (1, .int (nI (k))), (2, .int (nI (i)))] [] S
  refine g_aload_n K 0 dL_sticks_0 rfl ?_
  refine g_iload_n K 1 dL_sticks_1 rfl ?_
  refine g_iload_n K 2 dL_sticks_2 rfl ?_
  refine g_callXq (As := [.int (nI (k)), .int (nI (i))]) (rest := []) h (xX5_setStuck_x (zy (g_z X) (gz_ad (g_z X)) (gz_ex (g_z X))) S k i hl0 hw huk (by omega)) (cwV 2 K.1.2.2.2.2 gL_sticks_X5_setStuck rfl rfl rfl (by decide +kernel) ⟨by rw [hR]; exact Nat.le_of_ble_eq_true rfl, by rw [hR]; exact Nat.le_of_ble_eq_true rfl⟩) (by rw [hR]; exact Nat.le_of_ble_eq_true rfl) (by rw [hR]; exact Nat.le_of_ble_eq_true rfl) rfl rfl (Nat.le_of_ble_eq_true rfl) dL_sticks_3 ?_
  refine g_catchQ (name := IOB) h [] ⟨0, 14, 15, 20⟩ [] htab (fun z hz => absurd hz List.not_mem_nil) (by decide) (by decide) (K.1.2.2.2.2 (.classLink RL 20 IOB) (by decide +kernel)) (gT_cast h.2.2.1 bad_IOB _) (by rw [hR]; exact Nat.le_of_ble_eq_true rfl) (by rw [hR]; exact Nat.le_of_ble_eq_true rfl) (fun X' q h' => ?_)
  show gG X' 15 _ [.ref q] _
  have K' := h'.2.1
  refine g_astore_n (lo' := [(3, .ref (q)), (0, .ref (gz_ad (g_z X) 0)), (1, .int (nI (k))), (2, .int (nI (i)))]) K' dL_sticks_15 (by decide) rfl ?_
  refine g_ldc (w := -2000000001) K' 2294967295 (K'.1.2.2.2.2 _ (by decide +kernel)) (by decide +kernel) dL_sticks_16 ?_
  exact hret X' _ _ 2294967295 _ _ _ _ _ h' (Nat.le_refl _) (Nat.le_refl _) (Nat.le_refl _) ⟨rfl, hnd, rfl⟩ (Or.inl rfl) dL_sticks_18

set_option maxHeartbeats 4000000 in
set_option maxRecDepth 100000 in
theorem hL_turns_x1 (Z : gZ) (S : Nat → Nat → Nat) {n : Nat} (k i : Nat) (hnd : nd S n) (hl0 : (gz_l Z).stackTraces = false) (huk : k < 4294967296) : gMu Z yL_turns wsL_turns rmH1 [.ref (gz_ad Z 0), .int (nI (k)), .int (nI (i))] S (fun v S1 w => v = 2294967295 ∧ nd S1 n ∧ w = gz_ex Z) 1 6 1 := by
  refine gMu_ofW (cc := cL_turns) (maxL := 4) (ret := some .int) (hh := [(0, 14, 15, 20), (0, 14, 19, 13)]) (by decide +kernel) rfl rfl (Nat.le_of_ble_eq_true rfl) (fun X hZ hR htab h hret => ?_)
  subst hZ
  have K := h.2.1
  obtain ⟨hw, e0, e1, e2⟩ := id hnd
  show gG X 0 [(0, .ref (gz_ad (g_z X) 0)), (1, .int (nI (k))), (2, .int (nI (i)))] [] S
  refine g_aload_n K 0 dL_turns_0 rfl ?_
  refine g_iload_n K 1 dL_turns_1 rfl ?_
  refine g_iload_n K 2 dL_turns_2 rfl ?_
  refine g_callXq (As := [.int (nI (k)), .int (nI (i))]) (rest := []) h (xX5_turn_x1 (zy (g_z X) (gz_ad (g_z X)) (gz_ex (g_z X))) S k i hl0 hw huk (by omega)) (cwV 2 K.1.2.2.2.2 gL_turns_X5_turn rfl rfl rfl (by decide +kernel) ⟨by rw [hR]; exact Nat.le_of_ble_eq_true rfl, by rw [hR]; exact Nat.le_of_ble_eq_true rfl⟩) (by rw [hR]; exact Nat.le_of_ble_eq_true rfl) (by rw [hR]; exact Nat.le_of_ble_eq_true rfl) rfl rfl (Nat.le_of_ble_eq_true rfl) dL_turns_3 ?_
  refine g_catchQ (name := IOB) h [] ⟨0, 14, 15, 20⟩ [⟨0, 14, 19, 13⟩] htab (fun z hz => absurd hz List.not_mem_nil) (by decide) (by decide) (K.1.2.2.2.2 (.classLink RL 20 IOB) (by decide +kernel)) (gT_cast h.2.2.1 bad_IOB _) (by rw [hR]; exact Nat.le_of_ble_eq_true rfl) (by rw [hR]; exact Nat.le_of_ble_eq_true rfl) (fun X' q h' => ?_)
  show gG X' 15 _ [.ref q] _
  have K' := h'.2.1
  refine g_astore_n (lo' := [(3, .ref (q)), (0, .ref (gz_ad (g_z X) 0)), (1, .int (nI (k))), (2, .int (nI (i)))]) K' dL_turns_15 (by decide) rfl ?_
  refine g_ldc (w := -2000000001) K' 2294967295 (K'.1.2.2.2.2 _ (by decide +kernel)) (by decide +kernel) dL_turns_16 ?_
  exact hret X' _ _ 2294967295 _ _ _ _ _ h' (Nat.le_refl _) (Nat.le_refl _) (Nat.le_refl _) ⟨rfl, hnd, rfl⟩ (Or.inl rfl) dL_turns_18

set_option maxHeartbeats 4000000 in
set_option maxRecDepth 100000 in
theorem hL_nodeDry_x1 (Z : gZ) (S : Nat → Nat → Nat) {n : Nat} (k : Nat) (hnd : nd S n) (hl0 : (gz_l Z).stackTraces = false) (huk : k < 4294967296) (hgk : n ≤ k) : gMu Z yL_nodeDry wsL_nodeDry rmH1 [.ref (gz_ad Z 0), .int (nI (k))] S (fun v S1 w => v = 2294967295 ∧ nd S1 n ∧ w = gz_ex Z) 1 6 1 := by
  refine gMu_ofW (cc := cL_nodeDry) (maxL := 3) (ret := some .int) (hh := [(0, 13, 14, 20)]) (by decide +kernel) rfl rfl (Nat.le_of_ble_eq_true rfl) (fun X hZ hR htab h hret => ?_)
  subst hZ
  have K := h.2.1
  obtain ⟨hw, e0, e1, e2⟩ := id hnd
  show gG X 0 [(0, .ref (gz_ad (g_z X) 0)), (1, .int (nI (k)))] [] S
  refine g_aload_n K 0 dL_nodeDry_0 rfl ?_
  refine g_iload_n K 1 dL_nodeDry_1 rfl ?_
  refine g_callXq (As := [.int (nI (k))]) (rest := []) h (xX5_isNodeDry_x1 (zy (g_z X) (gz_ad (g_z X)) (gz_ex (g_z X))) S k hl0 hw huk (by omega)) (cwV 1 K.1.2.2.2.2 gL_nodeDry_X5_isNodeDry rfl rfl rfl (by decide +kernel) ⟨by rw [hR]; exact Nat.le_of_ble_eq_true rfl, by rw [hR]; exact Nat.le_of_ble_eq_true rfl⟩) (by rw [hR]; exact Nat.le_of_ble_eq_true rfl) (by rw [hR]; exact Nat.le_of_ble_eq_true rfl) rfl rfl (Nat.le_of_ble_eq_true rfl) dL_nodeDry_2 ?_
  refine g_catchQ (name := IOB) h [] ⟨0, 13, 14, 20⟩ [] htab (fun z hz => absurd hz List.not_mem_nil) (by decide) (by decide) (K.1.2.2.2.2 (.classLink RL 20 IOB) (by decide +kernel)) (gT_cast h.2.2.1 bad_IOB _) (by rw [hR]; exact Nat.le_of_ble_eq_true rfl) (by rw [hR]; exact Nat.le_of_ble_eq_true rfl) (fun X' q h' => ?_)
  show gG X' 14 _ [.ref q] _
  have K' := h'.2.1
  refine g_astore_n (lo' := [(2, .ref (q)), (0, .ref (gz_ad (g_z X) 0)), (1, .int (nI (k)))]) K' dL_nodeDry_14 (by decide) rfl ?_
  refine g_ldc (w := -2000000001) K' 2294967295 (K'.1.2.2.2.2 _ (by decide +kernel)) (by decide +kernel) dL_nodeDry_15 ?_
  exact hret X' _ _ 2294967295 _ _ _ _ _ h' (Nat.le_refl _) (Nat.le_refl _) (Nat.le_refl _) ⟨rfl, hnd, rfl⟩ (Or.inl rfl) dL_nodeDry_17

set_option maxHeartbeats 4000000 in
set_option maxRecDepth 100000 in
theorem hL_pipeDry_x1 (Z : gZ) (S : Nat → Nat → Nat) {n : Nat} (k : Nat) (hnd : nd S n) (hl0 : (gz_l Z).stackTraces = false) (huk : k < 4294967296) : gMu Z yL_pipeDry wsL_pipeDry rmH1 [.ref (gz_ad Z 0), .int (nI (k))] S (fun v S1 w => v = 2294967295 ∧ nd S1 n ∧ w = gz_ex Z) 1 6 1 := by
  refine gMu_ofW (cc := cL_pipeDry) (maxL := 3) (ret := some .int) (hh := [(0, 13, 14, 20)]) (by decide +kernel) rfl rfl (Nat.le_of_ble_eq_true rfl) (fun X hZ hR htab h hret => ?_)
  subst hZ
  have K := h.2.1
  obtain ⟨hw, e0, e1, e2⟩ := id hnd
  show gG X 0 [(0, .ref (gz_ad (g_z X) 0)), (1, .int (nI (k)))] [] S
  refine g_aload_n K 0 dL_pipeDry_0 rfl ?_
  refine g_iload_n K 1 dL_pipeDry_1 rfl ?_
  refine g_callXq (As := [.int (nI (k))]) (rest := []) h (xX5_isPipeDry_x1 (zy (g_z X) (gz_ad (g_z X)) (gz_ex (g_z X))) S k hl0 hw huk (by omega)) (cwV 1 K.1.2.2.2.2 gL_pipeDry_X5_isPipeDry rfl rfl rfl (by decide +kernel) ⟨by rw [hR]; exact Nat.le_of_ble_eq_true rfl, by rw [hR]; exact Nat.le_of_ble_eq_true rfl⟩) (by rw [hR]; exact Nat.le_of_ble_eq_true rfl) (by rw [hR]; exact Nat.le_of_ble_eq_true rfl) rfl rfl (Nat.le_of_ble_eq_true rfl) dL_pipeDry_2 ?_
  refine g_catchQ (name := IOB) h [] ⟨0, 13, 14, 20⟩ [] htab (fun z hz => absurd hz List.not_mem_nil) (by decide) (by decide) (K.1.2.2.2.2 (.classLink RL 20 IOB) (by decide +kernel)) (gT_cast h.2.2.1 bad_IOB _) (by rw [hR]; exact Nat.le_of_ble_eq_true rfl) (by rw [hR]; exact Nat.le_of_ble_eq_true rfl) (fun X' q h' => ?_)
  show gG X' 14 _ [.ref q] _
  have K' := h'.2.1
  refine g_astore_n (lo' := [(2, .ref (q)), (0, .ref (gz_ad (g_z X) 0)), (1, .int (nI (k)))]) K' dL_pipeDry_14 (by decide) rfl ?_
  refine g_ldc (w := -2000000001) K' 2294967295 (K'.1.2.2.2.2 _ (by decide +kernel)) (by decide +kernel) dL_pipeDry_15 ?_
  exact hret X' _ _ 2294967295 _ _ _ _ _ h' (Nat.le_refl _) (Nat.le_refl _) (Nat.le_refl _) ⟨rfl, hnd, rfl⟩ (Or.inl rfl) dL_pipeDry_17

set_option maxHeartbeats 4000000 in
set_option maxRecDepth 100000 in
theorem hL_ofNode_x1 (Z : gZ) (S : Nat → Nat → Nat) {n : Nat} (k : Nat) (hnd : nd S n) (hl0 : (gz_l Z).stackTraces = false) (huk : k < 4294967296) (hgk : n ≤ k) : gMu Z yL_ofNode wsL_ofNode rmH1 [.ref (gz_ad Z 0), .int (nI (k))] S (fun v S1 w => v = 2294967295 ∧ nd S1 n ∧ w = gz_ex Z) 1 6 1 := by
  refine gMu_ofW (cc := cL_ofNode) (maxL := 3) (ret := some .int) (hh := [(0, 5, 6, 20)]) (by decide +kernel) rfl rfl (Nat.le_of_ble_eq_true rfl) (fun X hZ hR htab h hret => ?_)
  subst hZ
  have K := h.2.1
  obtain ⟨hw, e0, e1, e2⟩ := id hnd
  show gG X 0 [(0, .ref (gz_ad (g_z X) 0)), (1, .int (nI (k)))] [] S
  refine g_aload_n K 0 dL_ofNode_0 rfl ?_
  refine g_iload_n K 1 dL_ofNode_1 rfl ?_
  refine g_callXq (As := [.int (nI (k))]) (rest := []) h (xX5_segmentOfNode_x1 (zy (g_z X) (gz_ad (g_z X)) (gz_ex (g_z X))) S k hl0 hw huk (by omega)) (cwV 1 K.1.2.2.2.2 gL_ofNode_X5_segmentOfNode rfl rfl rfl (by decide +kernel) ⟨by rw [hR]; exact Nat.le_of_ble_eq_true rfl, by rw [hR]; exact Nat.le_of_ble_eq_true rfl⟩) (by rw [hR]; exact Nat.le_of_ble_eq_true rfl) (by rw [hR]; exact Nat.le_of_ble_eq_true rfl) rfl rfl (Nat.le_of_ble_eq_true rfl) dL_ofNode_2 ?_
  refine g_catchQ (name := IOB) h [] ⟨0, 5, 6, 20⟩ [] htab (fun z hz => absurd hz List.not_mem_nil) (by decide) (by decide) (K.1.2.2.2.2 (.classLink RL 20 IOB) (by decide +kernel)) (gT_cast h.2.2.1 bad_IOB _) (by rw [hR]; exact Nat.le_of_ble_eq_true rfl) (by rw [hR]; exact Nat.le_of_ble_eq_true rfl) (fun X' q h' => ?_)
  show gG X' 6 _ [.ref q] _
  have K' := h'.2.1
  refine g_astore_n (lo' := [(2, .ref (q)), (0, .ref (gz_ad (g_z X) 0)), (1, .int (nI (k)))]) K' dL_ofNode_6 (by decide) rfl ?_
  refine g_ldc (w := -2000000001) K' 2294967295 (K'.1.2.2.2.2 _ (by decide +kernel)) (by decide +kernel) dL_ofNode_7 ?_
  exact hret X' _ _ 2294967295 _ _ _ _ _ h' (Nat.le_refl _) (Nat.le_refl _) (Nat.le_refl _) ⟨rfl, hnd, rfl⟩ (Or.inl rfl) dL_ofNode_9

set_option maxHeartbeats 4000000 in
set_option maxRecDepth 100000 in
theorem hL_ofPipe_x1 (Z : gZ) (S : Nat → Nat → Nat) {n : Nat} (k : Nat) (hnd : nd S n) (hl0 : (gz_l Z).stackTraces = false) (huk : k < 4294967296) : gMu Z yL_ofPipe wsL_ofPipe rmH1 [.ref (gz_ad Z 0), .int (nI (k))] S (fun v S1 w => v = 2294967295 ∧ nd S1 n ∧ w = gz_ex Z) 1 6 1 := by
  refine gMu_ofW (cc := cL_ofPipe) (maxL := 3) (ret := some .int) (hh := [(0, 5, 6, 20)]) (by decide +kernel) rfl rfl (Nat.le_of_ble_eq_true rfl) (fun X hZ hR htab h hret => ?_)
  subst hZ
  have K := h.2.1
  obtain ⟨hw, e0, e1, e2⟩ := id hnd
  show gG X 0 [(0, .ref (gz_ad (g_z X) 0)), (1, .int (nI (k)))] [] S
  refine g_aload_n K 0 dL_ofPipe_0 rfl ?_
  refine g_iload_n K 1 dL_ofPipe_1 rfl ?_
  refine g_callXq (As := [.int (nI (k))]) (rest := []) h (xX5_segmentOfPipe_x1 (zy (g_z X) (gz_ad (g_z X)) (gz_ex (g_z X))) S k hl0 hw huk (by omega)) (cwV 1 K.1.2.2.2.2 gL_ofPipe_X5_segmentOfPipe rfl rfl rfl (by decide +kernel) ⟨by rw [hR]; exact Nat.le_of_ble_eq_true rfl, by rw [hR]; exact Nat.le_of_ble_eq_true rfl⟩) (by rw [hR]; exact Nat.le_of_ble_eq_true rfl) (by rw [hR]; exact Nat.le_of_ble_eq_true rfl) rfl rfl (Nat.le_of_ble_eq_true rfl) dL_ofPipe_2 ?_
  refine g_catchQ (name := IOB) h [] ⟨0, 5, 6, 20⟩ [] htab (fun z hz => absurd hz List.not_mem_nil) (by decide) (by decide) (K.1.2.2.2.2 (.classLink RL 20 IOB) (by decide +kernel)) (gT_cast h.2.2.1 bad_IOB _) (by rw [hR]; exact Nat.le_of_ble_eq_true rfl) (by rw [hR]; exact Nat.le_of_ble_eq_true rfl) (fun X' q h' => ?_)
  show gG X' 6 _ [.ref q] _
  have K' := h'.2.1
  refine g_astore_n (lo' := [(2, .ref (q)), (0, .ref (gz_ad (g_z X) 0)), (1, .int (nI (k)))]) K' dL_ofPipe_6 (by decide) rfl ?_
  refine g_ldc (w := -2000000001) K' 2294967295 (K'.1.2.2.2.2 _ (by decide +kernel)) (by decide +kernel) dL_ofPipe_7 ?_
  exact hret X' _ _ 2294967295 _ _ _ _ _ h' (Nat.le_refl _) (Nat.le_refl _) (Nat.le_refl _) ⟨rfl, hnd, rfl⟩ (Or.inl rfl) dL_ofPipe_9

set_option maxHeartbeats 4000000 in
set_option maxRecDepth 100000 in
theorem hL_merged_x1 (Z : gZ) (S : Nat → Nat → Nat) {n : Nat} (k : Nat) (hnd : nd S n) (hl0 : (gz_l Z).stackTraces = false) (huk : k < 4294967296) : gMu Z yL_merged wsL_merged rmH1 [.ref (gz_ad Z 0), .int (nI (k))] S (fun v S1 w => v = 2294967295 ∧ nd S1 n ∧ w = gz_ex Z) 1 6 1 := by
  refine gMu_ofW (cc := cL_merged) (maxL := 3) (ret := some .int) (hh := [(0, 5, 6, 20)]) (by decide +kernel) rfl rfl (Nat.le_of_ble_eq_true rfl) (fun X hZ hR htab h hret => ?_)
  subst hZ
  have K := h.2.1
  obtain ⟨hw, e0, e1, e2⟩ := id hnd
  show gG X 0 [(0, .ref (gz_ad (g_z X) 0)), (1, .int (nI (k)))] [] S
  refine g_aload_n K 0 dL_merged_0 rfl ?_
  refine g_iload_n K 1 dL_merged_1 rfl ?_
  refine g_callXq (As := [.int (nI (k))]) (rest := []) h (xX5_segmentByMerging_x1 (zy (g_z X) (gz_ad (g_z X)) (gz_ex (g_z X))) S k hl0 hw huk (by omega)) (cwV 1 K.1.2.2.2.2 gL_merged_X5_segmentByMerging rfl rfl rfl (by decide +kernel) ⟨by rw [hR]; exact Nat.le_of_ble_eq_true rfl, by rw [hR]; exact Nat.le_of_ble_eq_true rfl⟩) (by rw [hR]; exact Nat.le_of_ble_eq_true rfl) (by rw [hR]; exact Nat.le_of_ble_eq_true rfl) rfl rfl (Nat.le_of_ble_eq_true rfl) dL_merged_2 ?_
  refine g_catchQ (name := IOB) h [] ⟨0, 5, 6, 20⟩ [] htab (fun z hz => absurd hz List.not_mem_nil) (by decide) (by decide) (K.1.2.2.2.2 (.classLink RL 20 IOB) (by decide +kernel)) (gT_cast h.2.2.1 bad_IOB _) (by rw [hR]; exact Nat.le_of_ble_eq_true rfl) (by rw [hR]; exact Nat.le_of_ble_eq_true rfl) (fun X' q h' => ?_)
  show gG X' 6 _ [.ref q] _
  have K' := h'.2.1
  refine g_astore_n (lo' := [(2, .ref (q)), (0, .ref (gz_ad (g_z X) 0)), (1, .int (nI (k)))]) K' dL_merged_6 (by decide) rfl ?_
  refine g_ldc (w := -2000000001) K' 2294967295 (K'.1.2.2.2.2 _ (by decide +kernel)) (by decide +kernel) dL_merged_7 ?_
  exact hret X' _ _ 2294967295 _ _ _ _ _ h' (Nat.le_refl _) (Nat.le_refl _) (Nat.le_refl _) ⟨rfl, hnd, rfl⟩ (Or.inl rfl) dL_merged_9

set_option maxHeartbeats 4000000 in
set_option maxRecDepth 100000 in
theorem hL_ring_x1 (Z : gZ) (S : Nat → Nat → Nat) {n : Nat} (k : Nat) (hnd : nd S n) (hl0 : (gz_l Z).stackTraces = false) (huk : k < 4294967296) : gMu Z yL_ring wsL_ring rmH1 [.ref (gz_ad Z 0), .int (nI (k))] S (fun v S1 w => v = 2294967295 ∧ nd S1 n ∧ w = gz_ex Z) 1 6 1 := by
  refine gMu_ofW (cc := cL_ring) (maxL := 3) (ret := some .int) (hh := [(0, 5, 6, 20), (0, 5, 10, 13)]) (by decide +kernel) rfl rfl (Nat.le_of_ble_eq_true rfl) (fun X hZ hR htab h hret => ?_)
  subst hZ
  have K := h.2.1
  obtain ⟨hw, e0, e1, e2⟩ := id hnd
  show gG X 0 [(0, .ref (gz_ad (g_z X) 0)), (1, .int (nI (k)))] [] S
  refine g_aload_n K 0 dL_ring_0 rfl ?_
  refine g_iload_n K 1 dL_ring_1 rfl ?_
  refine g_callXq (As := [.int (nI (k))]) (rest := []) h (xX5_ring_x1 (zy (g_z X) (gz_ad (g_z X)) (gz_ex (g_z X))) S k hl0 hw huk (by omega)) (cwV 1 K.1.2.2.2.2 gL_ring_X5_ring rfl rfl rfl (by decide +kernel) ⟨by rw [hR]; exact Nat.le_of_ble_eq_true rfl, by rw [hR]; exact Nat.le_of_ble_eq_true rfl⟩) (by rw [hR]; exact Nat.le_of_ble_eq_true rfl) (by rw [hR]; exact Nat.le_of_ble_eq_true rfl) rfl rfl (Nat.le_of_ble_eq_true rfl) dL_ring_2 ?_
  refine g_catchQ (name := IOB) h [] ⟨0, 5, 6, 20⟩ [⟨0, 5, 10, 13⟩] htab (fun z hz => absurd hz List.not_mem_nil) (by decide) (by decide) (K.1.2.2.2.2 (.classLink RL 20 IOB) (by decide +kernel)) (gT_cast h.2.2.1 bad_IOB _) (by rw [hR]; exact Nat.le_of_ble_eq_true rfl) (by rw [hR]; exact Nat.le_of_ble_eq_true rfl) (fun X' q h' => ?_)
  show gG X' 6 _ [.ref q] _
  have K' := h'.2.1
  refine g_astore_n (lo' := [(2, .ref (q)), (0, .ref (gz_ad (g_z X) 0)), (1, .int (nI (k)))]) K' dL_ring_6 (by decide) rfl ?_
  refine g_ldc (w := -2000000001) K' 2294967295 (K'.1.2.2.2.2 _ (by decide +kernel)) (by decide +kernel) dL_ring_7 ?_
  exact hret X' _ _ 2294967295 _ _ _ _ _ h' (Nat.le_refl _) (Nat.le_refl _) (Nat.le_refl _) ⟨rfl, hnd, rfl⟩ (Or.inl rfl) dL_ring_9

set_option maxHeartbeats 4000000 in
set_option maxRecDepth 100000 in
theorem hL_cut_x1 (Z : gZ) (S : Nat → Nat → Nat) {n : Nat} (k : Nat) (hnd : nd S n) (hl0 : (gz_l Z).stackTraces = false) (huk : k < 4294967296) : gMu Z yL_cut wsL_cut rmH1 [.ref (gz_ad Z 0), .int (nI (k))] S (fun v S1 w => v = 2294967295 ∧ nd S1 n ∧ w = gz_ex Z) 1 6 1 := by
  refine gMu_ofW (cc := cL_cut) (maxL := 3) (ret := some .int) (hh := [(0, 5, 6, 20), (0, 5, 10, 13)]) (by decide +kernel) rfl rfl (Nat.le_of_ble_eq_true rfl) (fun X hZ hR htab h hret => ?_)
  subst hZ
  have K := h.2.1
  obtain ⟨hw, e0, e1, e2⟩ := id hnd
  show gG X 0 [(0, .ref (gz_ad (g_z X) 0)), (1, .int (nI (k)))] [] S
  refine g_aload_n K 0 dL_cut_0 rfl ?_
  refine g_iload_n K 1 dL_cut_1 rfl ?_
  refine g_callXq (As := [.int (nI (k))]) (rest := []) h (xX5_cutOff_x1 (zy (g_z X) (gz_ad (g_z X)) (gz_ex (g_z X))) S k hl0 hw huk (by omega)) (cwV 1 K.1.2.2.2.2 gL_cut_X5_cutOff rfl rfl rfl (by decide +kernel) ⟨by rw [hR]; exact Nat.le_of_ble_eq_true rfl, by rw [hR]; exact Nat.le_of_ble_eq_true rfl⟩) (by rw [hR]; exact Nat.le_of_ble_eq_true rfl) (by rw [hR]; exact Nat.le_of_ble_eq_true rfl) rfl rfl (Nat.le_of_ble_eq_true rfl) dL_cut_2 ?_
  refine g_catchQ (name := IOB) h [] ⟨0, 5, 6, 20⟩ [⟨0, 5, 10, 13⟩] htab (fun z hz => absurd hz List.not_mem_nil) (by decide) (by decide) (K.1.2.2.2.2 (.classLink RL 20 IOB) (by decide +kernel)) (gT_cast h.2.2.1 bad_IOB _) (by rw [hR]; exact Nat.le_of_ble_eq_true rfl) (by rw [hR]; exact Nat.le_of_ble_eq_true rfl) (fun X' q h' => ?_)
  show gG X' 6 _ [.ref q] _
  have K' := h'.2.1
  refine g_astore_n (lo' := [(2, .ref (q)), (0, .ref (gz_ad (g_z X) 0)), (1, .int (nI (k)))]) K' dL_cut_6 (by decide) rfl ?_
  refine g_ldc (w := -2000000001) K' 2294967295 (K'.1.2.2.2.2 _ (by decide +kernel)) (by decide +kernel) dL_cut_7 ?_
  exact hret X' _ _ 2294967295 _ _ _ _ _ h' (Nat.le_refl _) (Nat.le_refl _) (Nat.le_refl _) ⟨rfl, hnd, rfl⟩ (Or.inl rfl) dL_cut_9

set_option maxHeartbeats 4000000 in
set_option maxRecDepth 100000 in
theorem hL_fewest_x1 (Z : gZ) (S : Nat → Nat → Nat) {n : Nat} (k : Nat) (hnd : nd S n) (hl0 : (gz_l Z).stackTraces = false) (huk : k < 4294967296) : gMu Z yL_fewest wsL_fewest rmH1 [.ref (gz_ad Z 0), .int (nI (k))] S (fun v S1 w => v = 2294967295 ∧ nd S1 n ∧ w = gz_ex Z) 1 6 1 := by
  refine gMu_ofW (cc := cL_fewest) (maxL := 3) (ret := some .int) (hh := [(0, 5, 6, 20)]) (by decide +kernel) rfl rfl (Nat.le_of_ble_eq_true rfl) (fun X hZ hR htab h hret => ?_)
  subst hZ
  have K := h.2.1
  obtain ⟨hw, e0, e1, e2⟩ := id hnd
  show gG X 0 [(0, .ref (gz_ad (g_z X) 0)), (1, .int (nI (k)))] [] S
  refine g_aload_n K 0 dL_fewest_0 rfl ?_
  refine g_iload_n K 1 dL_fewest_1 rfl ?_
  refine g_callXq (As := [.int (nI (k))]) (rest := []) h (xX5_fewest_x1 (zy (g_z X) (gz_ad (g_z X)) (gz_ex (g_z X))) S k hl0 hw huk (by omega)) (cwV 1 K.1.2.2.2.2 gL_fewest_X5_fewest rfl rfl rfl (by decide +kernel) ⟨by rw [hR]; exact Nat.le_of_ble_eq_true rfl, by rw [hR]; exact Nat.le_of_ble_eq_true rfl⟩) (by rw [hR]; exact Nat.le_of_ble_eq_true rfl) (by rw [hR]; exact Nat.le_of_ble_eq_true rfl) rfl rfl (Nat.le_of_ble_eq_true rfl) dL_fewest_2 ?_
  refine g_catchQ (name := IOB) h [] ⟨0, 5, 6, 20⟩ [] htab (fun z hz => absurd hz List.not_mem_nil) (by decide) (by decide) (K.1.2.2.2.2 (.classLink RL 20 IOB) (by decide +kernel)) (gT_cast h.2.2.1 bad_IOB _) (by rw [hR]; exact Nat.le_of_ble_eq_true rfl) (by rw [hR]; exact Nat.le_of_ble_eq_true rfl) (fun X' q h' => ?_)
  show gG X' 6 _ [.ref q] _
  have K' := h'.2.1
  refine g_astore_n (lo' := [(2, .ref (q)), (0, .ref (gz_ad (g_z X) 0)), (1, .int (nI (k)))]) K' dL_fewest_6 (by decide) rfl ?_
  refine g_ldc (w := -2000000001) K' 2294967295 (K'.1.2.2.2.2 _ (by decide +kernel)) (by decide +kernel) dL_fewest_7 ?_
  exact hret X' _ _ 2294967295 _ _ _ _ _ h' (Nat.le_refl _) (Nat.le_refl _) (Nat.le_refl _) ⟨rfl, hnd, rfl⟩ (Or.inl rfl) dL_fewest_9

set_option maxHeartbeats 4000000 in
set_option maxRecDepth 100000 in
theorem hL_tried_x1 (Z : gZ) (S : Nat → Nat → Nat) {n : Nat} (k : Nat) (hnd : nd S n) (hl0 : (gz_l Z).stackTraces = false) (huk : k < 4294967296) : gMu Z yL_tried wsL_tried rmH1 [.ref (gz_ad Z 0), .int (nI (k))] S (fun v S1 w => v = 2294967295 ∧ nd S1 n ∧ w = gz_ex Z) 1 6 1 := by
  refine gMu_ofW (cc := cL_tried) (maxL := 3) (ret := some .int) (hh := [(0, 5, 6, 20)]) (by decide +kernel) rfl rfl (Nat.le_of_ble_eq_true rfl) (fun X hZ hR htab h hret => ?_)
  subst hZ
  have K := h.2.1
  obtain ⟨hw, e0, e1, e2⟩ := id hnd
  show gG X 0 [(0, .ref (gz_ad (g_z X) 0)), (1, .int (nI (k)))] [] S
  refine g_aload_n K 0 dL_tried_0 rfl ?_
  refine g_iload_n K 1 dL_tried_1 rfl ?_
  refine g_callXq (As := [.int (nI (k))]) (rest := []) h (xX5_fewestByTrying_x1 (zy (g_z X) (gz_ad (g_z X)) (gz_ex (g_z X))) S k hl0 hw huk (by omega)) (cwV 1 K.1.2.2.2.2 gL_tried_X5_fewestByTrying rfl rfl rfl (by decide +kernel) ⟨by rw [hR]; exact Nat.le_of_ble_eq_true rfl, by rw [hR]; exact Nat.le_of_ble_eq_true rfl⟩) (by rw [hR]; exact Nat.le_of_ble_eq_true rfl) (by rw [hR]; exact Nat.le_of_ble_eq_true rfl) rfl rfl (Nat.le_of_ble_eq_true rfl) dL_tried_2 ?_
  refine g_catchQ (name := IOB) h [] ⟨0, 5, 6, 20⟩ [] htab (fun z hz => absurd hz List.not_mem_nil) (by decide) (by decide) (K.1.2.2.2.2 (.classLink RL 20 IOB) (by decide +kernel)) (gT_cast h.2.2.1 bad_IOB _) (by rw [hR]; exact Nat.le_of_ble_eq_true rfl) (by rw [hR]; exact Nat.le_of_ble_eq_true rfl) (fun X' q h' => ?_)
  show gG X' 6 _ [.ref q] _
  have K' := h'.2.1
  refine g_astore_n (lo' := [(2, .ref (q)), (0, .ref (gz_ad (g_z X) 0)), (1, .int (nI (k)))]) K' dL_tried_6 (by decide) rfl ?_
  refine g_ldc (w := -2000000001) K' 2294967295 (K'.1.2.2.2.2 _ (by decide +kernel)) (by decide +kernel) dL_tried_7 ?_
  exact hret X' _ _ 2294967295 _ _ _ _ _ h' (Nat.le_refl _) (Nat.le_refl _) (Nat.le_refl _) ⟨rfl, hnd, rfl⟩ (Or.inl rfl) dL_tried_9

set_option maxHeartbeats 4000000 in
set_option maxRecDepth 100000 in
theorem hL_far_x1 (Z : gZ) (S : Nat → Nat → Nat) {n : Nat} (k : Nat) (hnd : nd S n) (hl0 : (gz_l Z).stackTraces = false) (huk : k < 4294967296) (hgk : n ≤ k) : gMu Z yL_far wsL_far rmH1 [.ref (gz_ad Z 0), .int (nI (k))] S (fun v S1 w => v = 2294967295 ∧ nd S1 n ∧ w = gz_ex Z) 1 6 1 := by
  refine gMu_ofW (cc := cL_far) (maxL := 3) (ret := some .int) (hh := [(0, 5, 6, 20)]) (by decide +kernel) rfl rfl (Nat.le_of_ble_eq_true rfl) (fun X hZ hR htab h hret => ?_)
  subst hZ
  have K := h.2.1
  obtain ⟨hw, e0, e1, e2⟩ := id hnd
  show gG X 0 [(0, .ref (gz_ad (g_z X) 0)), (1, .int (nI (k)))] [] S
  refine g_aload_n K 0 dL_far_0 rfl ?_
  refine g_iload_n K 1 dL_far_1 rfl ?_
  refine g_callXq (As := [.int (nI (k))]) (rest := []) h (xX5_distance_x1 (zy (g_z X) (gz_ad (g_z X)) (gz_ex (g_z X))) S k hl0 hw huk (by omega)) (cwV 1 K.1.2.2.2.2 gL_far_X5_distance rfl rfl rfl (by decide +kernel) ⟨by rw [hR]; exact Nat.le_of_ble_eq_true rfl, by rw [hR]; exact Nat.le_of_ble_eq_true rfl⟩) (by rw [hR]; exact Nat.le_of_ble_eq_true rfl) (by rw [hR]; exact Nat.le_of_ble_eq_true rfl) rfl rfl (Nat.le_of_ble_eq_true rfl) dL_far_2 ?_
  refine g_catchQ (name := IOB) h [] ⟨0, 5, 6, 20⟩ [] htab (fun z hz => absurd hz List.not_mem_nil) (by decide) (by decide) (K.1.2.2.2.2 (.classLink RL 20 IOB) (by decide +kernel)) (gT_cast h.2.2.1 bad_IOB _) (by rw [hR]; exact Nat.le_of_ble_eq_true rfl) (by rw [hR]; exact Nat.le_of_ble_eq_true rfl) (fun X' q h' => ?_)
  show gG X' 6 _ [.ref q] _
  have K' := h'.2.1
  refine g_astore_n (lo' := [(2, .ref (q)), (0, .ref (gz_ad (g_z X) 0)), (1, .int (nI (k)))]) K' dL_far_6 (by decide) rfl ?_
  refine g_ldc (w := -2000000001) K' 2294967295 (K'.1.2.2.2.2 _ (by decide +kernel)) (by decide +kernel) dL_far_7 ?_
  exact hret X' _ _ 2294967295 _ _ _ _ _ h' (Nat.le_refl _) (Nat.le_refl _) (Nat.le_refl _) ⟨rfl, hnd, rfl⟩ (Or.inl rfl) dL_far_9

set_option maxHeartbeats 4000000 in
set_option maxRecDepth 100000 in
theorem hL_flush_x1 (Z : gZ) (S : Nat → Nat → Nat) {n : Nat} (pl : Nat) (hnd : nd S n) (hl0 : (gz_l Z).stackTraces = false) (hupl : pl < 4294967296) : gMu Z yL_flush wsL_flush rmH1 [.ref (gz_ad Z 0), .int (nI (pl))] S (fun v S1 w => v = 2294967295 ∧ nd S1 n ∧ w = gz_ex Z) 1 6 1 := by
  refine gMu_ofW (cc := cL_flush) (maxL := 3) (ret := some .int) (hh := [(0, 5, 6, 20)]) (by decide +kernel) rfl rfl (Nat.le_of_ble_eq_true rfl) (fun X hZ hR htab h hret => ?_)
  subst hZ
  have K := h.2.1
  obtain ⟨hw, e0, e1, e2⟩ := id hnd
  show gG X 0 [(0, .ref (gz_ad (g_z X) 0)), (1, .int (nI (pl)))] [] S
  refine g_aload_n K 0 dL_flush_0 rfl ?_
  refine g_iload_n K 1 dL_flush_1 rfl ?_
  refine g_callXq (As := [.int (nI (pl))]) (rest := []) h (xX5_flushAt_x (zy (g_z X) (gz_ad (g_z X)) (gz_ex (g_z X))) S pl hl0 hw hupl (nd_flush hnd pl)) (cwV 1 K.1.2.2.2.2 gL_flush_X5_flushAt rfl rfl rfl (by decide +kernel) ⟨by rw [hR]; exact Nat.le_of_ble_eq_true rfl, by rw [hR]; exact Nat.le_of_ble_eq_true rfl⟩) (by rw [hR]; exact Nat.le_of_ble_eq_true rfl) (by rw [hR]; exact Nat.le_of_ble_eq_true rfl) rfl rfl (Nat.le_of_ble_eq_true rfl) dL_flush_2 ?_
  refine g_catchQ (name := IOB) h [] ⟨0, 5, 6, 20⟩ [] htab (fun z hz => absurd hz List.not_mem_nil) (by decide) (by decide) (K.1.2.2.2.2 (.classLink RL 20 IOB) (by decide +kernel)) (gT_cast h.2.2.1 bad_IOB _) (by rw [hR]; exact Nat.le_of_ble_eq_true rfl) (by rw [hR]; exact Nat.le_of_ble_eq_true rfl) (fun X' q h' => ?_)
  show gG X' 6 _ [.ref q] _
  have K' := h'.2.1
  refine g_astore_n (lo' := [(2, .ref (q)), (0, .ref (gz_ad (g_z X) 0)), (1, .int (nI (pl)))]) K' dL_flush_6 (by decide) rfl ?_
  refine g_ldc (w := -2000000001) K' 2294967295 (K'.1.2.2.2.2 _ (by decide +kernel)) (by decide +kernel) dL_flush_7 ?_
  exact hret X' _ _ 2294967295 _ _ _ _ _ h' (Nat.le_refl _) (Nat.le_refl _) (Nat.le_refl _) ⟨rfl, nd_up hnd (by decide) _, rfl⟩ (Or.inl rfl) dL_flush_9

set_option maxHeartbeats 4000000 in
set_option maxRecDepth 100000 in
theorem hL_walks_x1 (Z : gZ) (S : Nat → Nat → Nat) {n : Nat} (k a : Nat) (hnd : nd S n) (hl0 : (gz_l Z).stackTraces = false) (huk : k < 4294967296) (hua : a < 4294967296) (hgk : n ≤ k) : gMu Z yL_walks wsL_walks rmH1 [.ref (gz_ad Z 0), .int (nI (k)), .int (nI (a))] S (fun v S1 w => v = 2294967295 ∧ nd S1 n ∧ w = gz_ex Z) 1 6 1 := by
  refine gMu_ofW (cc := cL_walks) (maxL := 4) (ret := some .int) (hh := [(0, 6, 7, 20), (0, 6, 11, 23)]) (by decide +kernel) rfl rfl (Nat.le_of_ble_eq_true rfl) (fun X hZ hR htab h hret => ?_)
  subst hZ
  have K := h.2.1
  obtain ⟨hw, e0, e1, e2⟩ := id hnd
  show gG X 0 [(0, .ref (gz_ad (g_z X) 0)), (1, .int (nI (k))), (2, .int (nI (a)))] [] S
  refine g_aload_n K 0 dL_walks_0 rfl ?_
  refine g_iload_n K 1 dL_walks_1 rfl ?_
  refine g_iload_n K 2 dL_walks_2 rfl ?_
  refine g_callXq (As := [.int (nI (k)), .int (nI (a))]) (rest := []) h (xX5_walk_x1 (zy (g_z X) (gz_ad (g_z X)) (gz_ex (g_z X))) S k a hl0 hw huk hua (by omega)) (cwV 2 K.1.2.2.2.2 gL_walks_X5_walk rfl rfl rfl (by decide +kernel) ⟨by rw [hR]; exact Nat.le_of_ble_eq_true rfl, by rw [hR]; exact Nat.le_of_ble_eq_true rfl⟩) (by rw [hR]; exact Nat.le_of_ble_eq_true rfl) (by rw [hR]; exact Nat.le_of_ble_eq_true rfl) rfl rfl (Nat.le_of_ble_eq_true rfl) dL_walks_3 ?_
  refine g_catchQ (name := IOB) h [] ⟨0, 6, 7, 20⟩ [⟨0, 6, 11, 23⟩] htab (fun z hz => absurd hz List.not_mem_nil) (by decide) (by decide) (K.1.2.2.2.2 (.classLink RL 20 IOB) (by decide +kernel)) (gT_cast h.2.2.1 bad_IOB _) (by rw [hR]; exact Nat.le_of_ble_eq_true rfl) (by rw [hR]; exact Nat.le_of_ble_eq_true rfl) (fun X' q h' => ?_)
  show gG X' 7 _ [.ref q] _
  have K' := h'.2.1
  refine g_astore_n (lo' := [(3, .ref (q)), (0, .ref (gz_ad (g_z X) 0)), (1, .int (nI (k))), (2, .int (nI (a)))]) K' dL_walks_7 (by decide) rfl ?_
  refine g_ldc (w := -2000000001) K' 2294967295 (K'.1.2.2.2.2 _ (by decide +kernel)) (by decide +kernel) dL_walks_8 ?_
  exact hret X' _ _ 2294967295 _ _ _ _ _ h' (Nat.le_refl _) (Nat.le_refl _) (Nat.le_refl _) ⟨rfl, hnd, rfl⟩ (Or.inl rfl) dL_walks_10

set_option maxHeartbeats 4000000 in
set_option maxRecDepth 100000 in
theorem hL_walks_x2 (Z : gZ) (S : Nat → Nat → Nat) {n : Nat} (k a : Nat) (hnd : nd S n) (hl0 : (gz_l Z).stackTraces = false) (hua : a < 4294967296) (hk : k < n) (ha : 1 ≤ a) : gMu Z yL_walks wsL_walks rmH1 [.ref (gz_ad Z 0), .int (nI (k)), .int (nI (a))] S (fun v S1 w => v = 2294967294 ∧ nd S1 n ∧ w = gz_ex Z) 1 6 1 := by
  refine gMu_ofW (cc := cL_walks) (maxL := 4) (ret := some .int) (hh := [(0, 6, 7, 20), (0, 6, 11, 23)]) (by decide +kernel) rfl rfl (Nat.le_of_ble_eq_true rfl) (fun X hZ hR htab h hret => ?_)
  subst hZ
  have K := h.2.1
  obtain ⟨hw, e0, e1, e2⟩ := id hnd
  show gG X 0 [(0, .ref (gz_ad (g_z X) 0)), (1, .int (nI (k))), (2, .int (nI (a)))] [] S
  refine g_aload_n K 0 dL_walks_0 rfl ?_
  refine g_iload_n K 1 dL_walks_1 rfl ?_
  refine g_iload_n K 2 dL_walks_2 rfl ?_
  refine g_callXq (As := [.int (nI (k)), .int (nI (a))]) (rest := []) h (xX5_walk_x2 (zy (g_z X) (gz_ad (g_z X)) (gz_ex (g_z X))) S k a hl0 hw hua (by omega) (Or.inl (by rw [e2]; exact ha))) (cwV 2 K.1.2.2.2.2 gL_walks_X5_walk rfl rfl rfl (by decide +kernel) ⟨by rw [hR]; exact Nat.le_of_ble_eq_true rfl, by rw [hR]; exact Nat.le_of_ble_eq_true rfl⟩) (by rw [hR]; exact Nat.le_of_ble_eq_true rfl) (by rw [hR]; exact Nat.le_of_ble_eq_true rfl) rfl rfl (Nat.le_of_ble_eq_true rfl) dL_walks_3 ?_
  refine g_catchQ (name := IAE) h [⟨0, 6, 7, 20⟩] ⟨0, 6, 11, 23⟩ [] htab (fun z hz => by
    simp only [List.mem_cons, List.not_mem_nil, or_false] at hz
    subst hz
    exact Or.inr ⟨by decide, IOB, K.1.2.2.2.2 (.classLink RL 20 IOB) (by decide +kernel), h.2.2.2.1.2.2⟩) (by decide) (by decide) (K.1.2.2.2.2 (.classLink RL 23 IAE) (by decide +kernel)) (gT_cast h.2.2.1 bad_IAE _) (by rw [hR]; exact Nat.le_of_ble_eq_true rfl) (by rw [hR]; exact Nat.le_of_ble_eq_true rfl) (fun X' q h' => ?_)
  show gG X' 11 _ [.ref q] _
  have K' := h'.2.1
  refine g_astore_n (lo' := [(3, .ref (q)), (0, .ref (gz_ad (g_z X) 0)), (1, .int (nI (k))), (2, .int (nI (a)))]) K' dL_walks_11 (by decide) rfl ?_
  refine g_ldc (w := -2000000002) K' 2294967294 (K'.1.2.2.2.2 _ (by decide +kernel)) (by decide +kernel) dL_walks_12 ?_
  exact hret X' _ _ 2294967294 _ _ _ _ _ h' (Nat.le_refl _) (Nat.le_refl _) (Nat.le_refl _) ⟨rfl, hnd, rfl⟩ (Or.inl rfl) dL_walks_14

