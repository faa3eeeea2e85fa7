/-! THE LAW'S OTHER METHODS, over networks of nodes alone: their answers are not looked at -/
def rmA : Room := { frames := 10, cells := 0, slots := 0, locals := 230 }
def rmH : Room := { frames := 10, cells := 1, slots := 6, locals := 230 }
set_option maxHeartbeats 4000000 in
set_option maxRecDepth 100000 in
theorem act_c (Z : gZ) (S : Nat → Nat → Nat) {n : Nat} (x f : Nat) (hnd : nd S n) (hn : n < 12) (hx : x < 2147483648) (hx16 : x % 16 = 0) (hf : f ≤ 1) : gMu Z yL_act wsL_act rmA [.ref (gz_ad Z 0), .int (nI (x)), .int (nI (f))] S (fun v S1 w => v < 4294967296 ∧ nd S1 (n + 1) ∧ w = gz_ex Z) 0 0 0 := by
  refine gMu_of (cc := cL_act) (maxL := 8) (ret := some .int) (by decide +kernel) rfl rfl (Nat.le_of_ble_eq_true rfl) (fun X0 hZ hR h hret => ?_)
  subst hZ
  have K := h.2.1
  show gG X0 0 [(0, .ref (gz_ad (g_z X0) 0)), (1, .int (nI (x))), (2, .int (nI (f)))] [] S
  by_cases hn0 : n = 0
  · skip
    refine g_iload_n K 1 dL_act_0 rfl ?_
    refine g_bipush K 16 dL_act_1 (by decide +kernel) ?_
    refine g_idiv (a := x) (b := 16) K (by omega) (by omega) (by omega) dL_act_3 ?_
    refine g_istore_n (lo' := [(3, .int (nI ((x) / (16)))), (0, .ref (gz_ad (g_z X0) 0)), (1, .int (nI (x))), (2, .int (nI (f)))]) K dL_act_4 (by decide) rfl ?_
    refine g_aload_n K 1 dL_act_5 rfl ?_
    refine g_callVq (As := []) (rest := []) h (cX5_nodes_k (zy (g_z X0) (gz_ad (g_z X0)) (gz_ex (g_z X0))) S) (cwV 0 K.1.2.2.2.2 gL_act_X5_nodes rfl rfl rfl (by decide +kernel) ⟨by rw [h.R, hR]; exact Nat.le_of_ble_eq_true rfl, by rw [h.R, hR]; exact Nat.le_of_ble_eq_true rfl⟩) rfl rfl (Nat.le_of_ble_eq_true rfl) dL_act_6 ?_
    refine g_topE (n) hnd.2.1 ?_
    refine g_if_ne (tgt := 16) (a := n) K dL_act_9 (by decide) (by omega) (fun h9 => absurd h9 (by omega)) (fun h9 => ?_)
    refine g_iconst K 0 dL_act_12 (by decide +kernel) ?_
    refine g_goto (tgt := 22) K dL_act_13 (by decide) ?_
    refine g_istore (lo' := [(4, .int (nI (0))), (3, .int (nI ((x) / (16)))), (0, .ref (gz_ad (g_z X0) 0)), (1, .int (nI (x))), (2, .int (nI (f)))]) K dL_act_22 (by decide) rfl ?_
    refine g_aload_n K 2 dL_act_24 rfl ?_
    refine g_callVq (As := []) (rest := []) h (cX5_nodes_k (zy (g_z X0) (gz_ad (g_z X0)) (gz_ex (g_z X0))) S) (cwV 0 K.1.2.2.2.2 gL_act_X5_nodes rfl rfl rfl (by decide +kernel) ⟨by rw [h.R, hR]; exact Nat.le_of_ble_eq_true rfl, by rw [h.R, hR]; exact Nat.le_of_ble_eq_true rfl⟩) rfl rfl (Nat.le_of_ble_eq_true rfl) dL_act_25 ?_
    refine g_topE (n) hnd.2.1 ?_
    refine g_if_ne (tgt := 35) (a := n) K dL_act_28 (by decide) (by omega) (fun h28 => absurd h28 (by omega)) (fun h28 => ?_)
    refine g_iconst K 0 dL_act_31 (by decide +kernel) ?_
    refine g_goto (tgt := 44) K dL_act_32 (by decide) ?_
    refine g_istore (lo' := [(5, .int (nI (0))), (4, .int (nI (0))), (3, .int (nI ((x) / (16)))), (0, .ref (gz_ad (g_z X0) 0)), (1, .int (nI (x))), (2, .int (nI (f)))]) K dL_act_44 (by decide) rfl ?_
    refine g_aload_n K 3 dL_act_46 rfl ?_
    refine g_callVq (As := []) (rest := []) h (cX5_valves_k (zy (g_z X0) (gz_ad (g_z X0)) (gz_ex (g_z X0))) S) (cwV 0 K.1.2.2.2.2 gL_act_X5_valves rfl rfl rfl (by decide +kernel) ⟨by rw [h.R, hR]; exact Nat.le_of_ble_eq_true rfl, by rw [h.R, hR]; exact Nat.le_of_ble_eq_true rfl⟩) rfl rfl (Nat.le_of_ble_eq_true rfl) dL_act_47 ?_
    refine g_topE (0) hnd.2.2.2 ?_
    refine g_if_ne (tgt := 57) (a := 0) K dL_act_50 (by decide) (by omega) (fun h50 => absurd h50 (by omega)) (fun h50 => ?_)
    refine g_iconst K 0 dL_act_53 (by decide +kernel) ?_
    refine g_goto (tgt := 63) K dL_act_54 (by decide) ?_
    refine g_istore (lo' := [(6, .int (nI (0))), (5, .int (nI (0))), (4, .int (nI (0))), (3, .int (nI ((x) / (16)))), (0, .ref (gz_ad (g_z X0) 0)), (1, .int (nI (x))), (2, .int (nI (f)))]) K dL_act_63 (by decide) rfl ?_
    refine g_iload_n K 3 dL_act_65 rfl ?_
    refine g_bipush K 16 dL_act_66 (by decide +kernel) ?_
    refine g_idiv (a := (x) / (16)) (b := 16) K (by omega) (by omega) (by omega) dL_act_68 ?_
    refine g_iconst K 2 dL_act_69 (by decide +kernel) ?_
    refine g_irem (a := ((x) / (16)) / (16)) (b := 2) K (by omega) (by omega) (by omega) dL_act_70 ?_
    refine g_if_ne (tgt := 78) (a := (((x) / (16)) / (16)) % (2)) K dL_act_71 (by decide) (by omega) (fun h71 => ?_) (fun h71 => ?_)
    · refine g_iconst K 0 dL_act_78 (by decide +kernel) ?_
      refine g_istore (lo' := [(7, .int (nI (0))), (6, .int (nI (0))), (5, .int (nI (0))), (4, .int (nI (0))), (3, .int (nI ((x) / (16)))), (0, .ref (gz_ad (g_z X0) 0)), (1, .int (nI (x))), (2, .int (nI (f)))]) K dL_act_79 (by decide) rfl ?_
      refine g_iload_n K 6 dL_act_81 rfl ?_
      refine g_bipush K 16 dL_act_82 (by decide +kernel) ?_
      refine g_irem (a := x) (b := 16) K (by omega) (by omega) (by omega) dL_act_84 ?_
      refine g_tabIn (k := 0) (tgt := 148) K dL_act_85 hx16 (by decide) (by decide) rfl (by decide) ?_
      refine g_aload_n K 5 dL_act_148 rfl ?_
      refine g_iload_n K 4 dL_act_149 rfl ?_
      refine g_iconst K 4 dL_act_150 (by decide +kernel) ?_
      refine g_irem (a := (x) / (16)) (b := 4) K (by omega) (by omega) (by omega) dL_act_151 ?_
      refine g_if_ne (tgt := 159) (a := ((x) / (16)) % (4)) K dL_act_152 (by decide) (by omega) (fun h152 => ?_) (fun h152 => ?_)
      · refine g_iconst K 0 dL_act_159 (by decide +kernel) ?_
        refine g_callUW (As := [.ref (gz_ad (g_z X0) 0), .int (nI (0))]) (rest := []) h (hL_nodes_n (zy (g_z X0) (gz_ad (g_z X0)) (gz_ex (g_z X0))) S (0) hnd (by omega) (by omega)) (vx_cwSW 2 K.1.2.2.2.2 gL_act_L_nodes rfl rfl rfl (by decide +kernel) ⟨by rw [h.R, hR]; exact Nat.le_of_ble_eq_true rfl, by rw [h.R, hR]; exact Nat.le_of_ble_eq_true rfl⟩) rfl rfl (Nat.le_of_ble_eq_true rfl) dL_act_160 (by rw [h.R, hR]; exact Nat.le_of_ble_eq_true rfl) (by rw [h.R, hR]; exact Nat.le_of_ble_eq_true rfl) (fun X v52 S w9 hq h => ?_)
        obtain ⟨hv52, hnd, rfl⟩ := hq
        have h : gCx X0 X cL_act 8 wsL_act (gz_ad (g_z X0)) (gz_ex (g_z X0)) 0 0 0 := h
        have K := h.2.1
        exact hret X _ _ v52 _ _ _ _ _ h (by decide) (by decide) (by decide) ⟨by omega, hnd, rfl⟩ (Or.inl rfl) dL_act_163
      · refine g_iconst K 1 dL_act_155 (by decide +kernel) ?_
        refine g_goto (tgt := 160) K dL_act_156 (by decide) ?_
        refine g_callUW (As := [.ref (gz_ad (g_z X0) 0), .int (nI (1))]) (rest := []) h (hL_nodes_n (zy (g_z X0) (gz_ad (g_z X0)) (gz_ex (g_z X0))) S (1) hnd (by omega) (by omega)) (vx_cwSW 2 K.1.2.2.2.2 gL_act_L_nodes rfl rfl rfl (by decide +kernel) ⟨by rw [h.R, hR]; exact Nat.le_of_ble_eq_true rfl, by rw [h.R, hR]; exact Nat.le_of_ble_eq_true rfl⟩) rfl rfl (Nat.le_of_ble_eq_true rfl) dL_act_160 (by rw [h.R, hR]; exact Nat.le_of_ble_eq_true rfl) (by rw [h.R, hR]; exact Nat.le_of_ble_eq_true rfl) (fun X v53 S w9 hq h => ?_)
        obtain ⟨hv53, hnd, rfl⟩ := hq
        have h : gCx X0 X cL_act 8 wsL_act (gz_ad (g_z X0)) (gz_ex (g_z X0)) 0 0 0 := h
        have K := h.2.1
        exact hret X _ _ v53 _ _ _ _ _ h (by decide) (by decide) (by decide) ⟨by omega, hnd, rfl⟩ (Or.inl rfl) dL_act_163
    · refine g_iconst K 1 dL_act_74 (by decide +kernel) ?_
      refine g_goto (tgt := 79) K dL_act_75 (by decide) ?_
      refine g_istore (lo' := [(7, .int (nI (1))), (6, .int (nI (0))), (5, .int (nI (0))), (4, .int (nI (0))), (3, .int (nI ((x) / (16)))), (0, .ref (gz_ad (g_z X0) 0)), (1, .int (nI (x))), (2, .int (nI (f)))]) K dL_act_79 (by decide) rfl ?_
      refine g_iload_n K 6 dL_act_81 rfl ?_
      refine g_bipush K 16 dL_act_82 (by decide +kernel) ?_
      refine g_irem (a := x) (b := 16) K (by omega) (by omega) (by omega) dL_act_84 ?_
      refine g_tabIn (k := 0) (tgt := 148) K dL_act_85 hx16 (by decide) (by decide) rfl (by decide) ?_
      refine g_aload_n K 5 dL_act_148 rfl ?_
      refine g_iload_n K 4 dL_act_149 rfl ?_
      refine g_iconst K 4 dL_act_150 (by decide +kernel) ?_
      refine g_irem (a := (x) / (16)) (b := 4) K (by omega) (by omega) (by omega) dL_act_151 ?_
      refine g_if_ne (tgt := 159) (a := ((x) / (16)) % (4)) K dL_act_152 (by decide) (by omega) (fun h152 => ?_) (fun h152 => ?_)
      · refine g_iconst K 0 dL_act_159 (by decide +kernel) ?_
        refine g_callUW (As := [.ref (gz_ad (g_z X0) 0), .int (nI (0))]) (rest := []) h (hL_nodes_n (zy (g_z X0) (gz_ad (g_z X0)) (gz_ex (g_z X0))) S (0) hnd (by omega) (by omega)) (vx_cwSW 2 K.1.2.2.2.2 gL_act_L_nodes rfl rfl rfl (by decide +kernel) ⟨by rw [h.R, hR]; exact Nat.le_of_ble_eq_true rfl, by rw [h.R, hR]; exact Nat.le_of_ble_eq_true rfl⟩) rfl rfl (Nat.le_of_ble_eq_true rfl) dL_act_160 (by rw [h.R, hR]; exact Nat.le_of_ble_eq_true rfl) (by rw [h.R, hR]; exact Nat.le_of_ble_eq_true rfl) (fun X v52 S w9 hq h => ?_)
        obtain ⟨hv52, hnd, rfl⟩ := hq
        have h : gCx X0 X cL_act 8 wsL_act (gz_ad (g_z X0)) (gz_ex (g_z X0)) 0 0 0 := h
        have K := h.2.1
        exact hret X _ _ v52 _ _ _ _ _ h (by decide) (by decide) (by decide) ⟨by omega, hnd, rfl⟩ (Or.inl rfl) dL_act_163
      · refine g_iconst K 1 dL_act_155 (by decide +kernel) ?_
        refine g_goto (tgt := 160) K dL_act_156 (by decide) ?_
        refine g_callUW (As := [.ref (gz_ad (g_z X0) 0), .int (nI (1))]) (rest := []) h (hL_nodes_n (zy (g_z X0) (gz_ad (g_z X0)) (gz_ex (g_z X0))) S (1) hnd (by omega) (by omega)) (vx_cwSW 2 K.1.2.2.2.2 gL_act_L_nodes rfl rfl rfl (by decide +kernel) ⟨by rw [h.R, hR]; exact Nat.le_of_ble_eq_true rfl, by rw [h.R, hR]; exact Nat.le_of_ble_eq_true rfl⟩) rfl rfl (Nat.le_of_ble_eq_true rfl) dL_act_160 (by rw [h.R, hR]; exact Nat.le_of_ble_eq_true rfl) (by rw [h.R, hR]; exact Nat.le_of_ble_eq_true rfl) (fun X v53 S w9 hq h => ?_)
        obtain ⟨hv53, hnd, rfl⟩ := hq
        have h : gCx X0 X cL_act 8 wsL_act (gz_ad (g_z X0)) (gz_ex (g_z X0)) 0 0 0 := h
        have K := h.2.1
        exact hret X _ _ v53 _ _ _ _ _ h (by decide) (by decide) (by decide) ⟨by omega, hnd, rfl⟩ (Or.inl rfl) dL_act_163
  · skip
    refine g_iload_n K 1 dL_act_0 rfl ?_
    refine g_bipush K 16 dL_act_1 (by decide +kernel) ?_
    refine g_idiv (a := x) (b := 16) K (by omega) (by omega) (by omega) dL_act_3 ?_
    refine g_istore_n (lo' := [(3, .int (nI ((x) / (16)))), (0, .ref (gz_ad (g_z X0) 0)), (1, .int (nI (x))), (2, .int (nI (f)))]) K dL_act_4 (by decide) rfl ?_
    refine g_aload_n K 1 dL_act_5 rfl ?_
    refine g_callVq (As := []) (rest := []) h (cX5_nodes_k (zy (g_z X0) (gz_ad (g_z X0)) (gz_ex (g_z X0))) S) (cwV 0 K.1.2.2.2.2 gL_act_X5_nodes rfl rfl rfl (by decide +kernel) ⟨by rw [h.R, hR]; exact Nat.le_of_ble_eq_true rfl, by rw [h.R, hR]; exact Nat.le_of_ble_eq_true rfl⟩) rfl rfl (Nat.le_of_ble_eq_true rfl) dL_act_6 ?_
    refine g_topE (n) hnd.2.1 ?_
    refine g_if_ne (tgt := 16) (a := n) K dL_act_9 (by decide) (by omega) (fun h9 => ?_) (fun h9 => absurd h9 (by omega))
    refine g_iload_n K 0 dL_act_16 rfl ?_
    refine g_aload_n K 1 dL_act_17 rfl ?_
    refine g_callVq (As := []) (rest := [.int (nI ((x) / (16)))]) h (cX5_nodes_k (zy (g_z X0) (gz_ad (g_z X0)) (gz_ex (g_z X0))) S) (cwV 0 K.1.2.2.2.2 gL_act_X5_nodes rfl rfl rfl (by decide +kernel) ⟨by rw [h.R, hR]; exact Nat.le_of_ble_eq_true rfl, by rw [h.R, hR]; exact Nat.le_of_ble_eq_true rfl⟩) rfl rfl (Nat.le_of_ble_eq_true rfl) dL_act_18 ?_
    refine g_topE (n) hnd.2.1 ?_
    refine g_irem (a := (x) / (16)) (b := n) K (by omega) (by omega) (by omega) dL_act_21 ?_
    refine g_istore (lo' := [(4, .int (nI (((x) / (16)) % (n)))), (3, .int (nI ((x) / (16)))), (0, .ref (gz_ad (g_z X0) 0)), (1, .int (nI (x))), (2, .int (nI (f)))]) K dL_act_22 (by decide) rfl ?_
    refine g_aload_n K 2 dL_act_24 rfl ?_
    refine g_callVq (As := []) (rest := []) h (cX5_nodes_k (zy (g_z X0) (gz_ad (g_z X0)) (gz_ex (g_z X0))) S) (cwV 0 K.1.2.2.2.2 gL_act_X5_nodes rfl rfl rfl (by decide +kernel) ⟨by rw [h.R, hR]; exact Nat.le_of_ble_eq_true rfl, by rw [h.R, hR]; exact Nat.le_of_ble_eq_true rfl⟩) rfl rfl (Nat.le_of_ble_eq_true rfl) dL_act_25 ?_
    refine g_topE (n) hnd.2.1 ?_
    refine g_if_ne (tgt := 35) (a := n) K dL_act_28 (by decide) (by omega) (fun h28 => ?_) (fun h28 => absurd h28 (by omega))
    refine g_iload_n K 1 dL_act_35 rfl ?_
    refine g_bipush K 12 dL_act_36 (by decide +kernel) ?_
    refine g_idiv (a := (x) / (16)) (b := 12) K (by omega) (by omega) (by omega) dL_act_38 ?_
    refine g_aload_n K 2 dL_act_39 rfl ?_
    refine g_callVq (As := []) (rest := [.int (nI (((x) / (16)) / (12)))]) h (cX5_nodes_k (zy (g_z X0) (gz_ad (g_z X0)) (gz_ex (g_z X0))) S) (cwV 0 K.1.2.2.2.2 gL_act_X5_nodes rfl rfl rfl (by decide +kernel) ⟨by rw [h.R, hR]; exact Nat.le_of_ble_eq_true rfl, by rw [h.R, hR]; exact Nat.le_of_ble_eq_true rfl⟩) rfl rfl (Nat.le_of_ble_eq_true rfl) dL_act_40 ?_
    refine g_topE (n) hnd.2.1 ?_
    refine g_irem (a := ((x) / (16)) / (12)) (b := n) K (by omega) (by omega) (by omega) dL_act_43 ?_
    refine g_istore (lo' := [(5, .int (nI ((((x) / (16)) / (12)) % (n)))), (4, .int (nI (((x) / (16)) % (n)))), (3, .int (nI ((x) / (16)))), (0, .ref (gz_ad (g_z X0) 0)), (1, .int (nI (x))), (2, .int (nI (f)))]) K dL_act_44 (by decide) rfl ?_
    refine g_aload_n K 3 dL_act_46 rfl ?_
    refine g_callVq (As := []) (rest := []) h (cX5_valves_k (zy (g_z X0) (gz_ad (g_z X0)) (gz_ex (g_z X0))) S) (cwV 0 K.1.2.2.2.2 gL_act_X5_valves rfl rfl rfl (by decide +kernel) ⟨by rw [h.R, hR]; exact Nat.le_of_ble_eq_true rfl, by rw [h.R, hR]; exact Nat.le_of_ble_eq_true rfl⟩) rfl rfl (Nat.le_of_ble_eq_true rfl) dL_act_47 ?_
    refine g_topE (0) hnd.2.2.2 ?_
    refine g_if_ne (tgt := 57) (a := 0) K dL_act_50 (by decide) (by omega) (fun h50 => absurd h50 (by omega)) (fun h50 => ?_)
    refine g_iconst K 0 dL_act_53 (by decide +kernel) ?_
    refine g_goto (tgt := 63) K dL_act_54 (by decide) ?_
    refine g_istore (lo' := [(6, .int (nI (0))), (5, .int (nI ((((x) / (16)) / (12)) % (n)))), (4, .int (nI (((x) / (16)) % (n)))), (3, .int (nI ((x) / (16)))), (0, .ref (gz_ad (g_z X0) 0)), (1, .int (nI (x))), (2, .int (nI (f)))]) K dL_act_63 (by decide) rfl ?_
    refine g_iload_n K 3 dL_act_65 rfl ?_
    refine g_bipush K 16 dL_act_66 (by decide +kernel) ?_
    refine g_idiv (a := (x) / (16)) (b := 16) K (by omega) (by omega) (by omega) dL_act_68 ?_
    refine g_iconst K 2 dL_act_69 (by decide +kernel) ?_
    refine g_irem (a := ((x) / (16)) / (16)) (b := 2) K (by omega) (by omega) (by omega) dL_act_70 ?_
    refine g_if_ne (tgt := 78) (a := (((x) / (16)) / (16)) % (2)) K dL_act_71 (by decide) (by omega) (fun h71 => ?_) (fun h71 => ?_)
    · refine g_iconst K 0 dL_act_78 (by decide +kernel) ?_
      refine g_istore (lo' := [(7, .int (nI (0))), (6, .int (nI (0))), (5, .int (nI ((((x) / (16)) / (12)) % (n)))), (4, .int (nI (((x) / (16)) % (n)))), (3, .int (nI ((x) / (16)))), (0, .ref (gz_ad (g_z X0) 0)), (1, .int (nI (x))), (2, .int (nI (f)))]) K dL_act_79 (by decide) rfl ?_
      refine g_iload_n K 6 dL_act_81 rfl ?_
      refine g_bipush K 16 dL_act_82 (by decide +kernel) ?_
      refine g_irem (a := x) (b := 16) K (by omega) (by omega) (by omega) dL_act_84 ?_
      refine g_tabIn (k := 0) (tgt := 148) K dL_act_85 hx16 (by decide) (by decide) rfl (by decide) ?_
      refine g_aload_n K 5 dL_act_148 rfl ?_
      refine g_iload_n K 4 dL_act_149 rfl ?_
      refine g_iconst K 4 dL_act_150 (by decide +kernel) ?_
      refine g_irem (a := (x) / (16)) (b := 4) K (by omega) (by omega) (by omega) dL_act_151 ?_
      refine g_if_ne (tgt := 159) (a := ((x) / (16)) % (4)) K dL_act_152 (by decide) (by omega) (fun h152 => ?_) (fun h152 => ?_)
      · refine g_iconst K 0 dL_act_159 (by decide +kernel) ?_
        refine g_callUW (As := [.ref (gz_ad (g_z X0) 0), .int (nI (0))]) (rest := []) h (hL_nodes_n (zy (g_z X0) (gz_ad (g_z X0)) (gz_ex (g_z X0))) S (0) hnd (by omega) (by omega)) (vx_cwSW 2 K.1.2.2.2.2 gL_act_L_nodes rfl rfl rfl (by decide +kernel) ⟨by rw [h.R, hR]; exact Nat.le_of_ble_eq_true rfl, by rw [h.R, hR]; exact Nat.le_of_ble_eq_true rfl⟩) rfl rfl (Nat.le_of_ble_eq_true rfl) dL_act_160 (by rw [h.R, hR]; exact Nat.le_of_ble_eq_true rfl) (by rw [h.R, hR]; exact Nat.le_of_ble_eq_true rfl) (fun X v52 S w9 hq h => ?_)
        obtain ⟨hv52, hnd, rfl⟩ := hq
        have h : gCx X0 X cL_act 8 wsL_act (gz_ad (g_z X0)) (gz_ex (g_z X0)) 0 0 0 := h
        have K := h.2.1
        exact hret X _ _ v52 _ _ _ _ _ h (by decide) (by decide) (by decide) ⟨by omega, hnd, rfl⟩ (Or.inl rfl) dL_act_163
      · refine g_iconst K 1 dL_act_155 (by decide +kernel) ?_
        refine g_goto (tgt := 160) K dL_act_156 (by decide) ?_
        refine g_callUW (As := [.ref (gz_ad (g_z X0) 0), .int (nI (1))]) (rest := []) h (hL_nodes_n (zy (g_z X0) (gz_ad (g_z X0)) (gz_ex (g_z X0))) S (1) hnd (by omega) (by omega)) (vx_cwSW 2 K.1.2.2.2.2 gL_act_L_nodes rfl rfl rfl (by decide +kernel) ⟨by rw [h.R, hR]; exact Nat.le_of_ble_eq_true rfl, by rw [h.R, hR]; exact Nat.le_of_ble_eq_true rfl⟩) rfl rfl (Nat.le_of_ble_eq_true rfl) dL_act_160 (by rw [h.R, hR]; exact Nat.le_of_ble_eq_true rfl) (by rw [h.R, hR]; exact Nat.le_of_ble_eq_true rfl) (fun X v53 S w9 hq h => ?_)
        obtain ⟨hv53, hnd, rfl⟩ := hq
        have h : gCx X0 X cL_act 8 wsL_act (gz_ad (g_z X0)) (gz_ex (g_z X0)) 0 0 0 := h
        have K := h.2.1
        exact hret X _ _ v53 _ _ _ _ _ h (by decide) (by decide) (by decide) ⟨by omega, hnd, rfl⟩ (Or.inl rfl) dL_act_163
    · refine g_iconst K 1 dL_act_74 (by decide +kernel) ?_
      refine g_goto (tgt := 79) K dL_act_75 (by decide) ?_
      refine g_istore (lo' := [(7, .int (nI (1))), (6, .int (nI (0))), (5, .int (nI ((((x) / (16)) / (12)) % (n)))), (4, .int (nI (((x) / (16)) % (n)))), (3, .int (nI ((x) / (16)))), (0, .ref (gz_ad (g_z X0) 0)), (1, .int (nI (x))), (2, .int (nI (f)))]) K dL_act_79 (by decide) rfl ?_
      refine g_iload_n K 6 dL_act_81 rfl ?_
      refine g_bipush K 16 dL_act_82 (by decide +kernel) ?_
      refine g_irem (a := x) (b := 16) K (by omega) (by omega) (by omega) dL_act_84 ?_
      refine g_tabIn (k := 0) (tgt := 148) K dL_act_85 hx16 (by decide) (by decide) rfl (by decide) ?_
      refine g_aload_n K 5 dL_act_148 rfl ?_
      refine g_iload_n K 4 dL_act_149 rfl ?_
      refine g_iconst K 4 dL_act_150 (by decide +kernel) ?_
      refine g_irem (a := (x) / (16)) (b := 4) K (by omega) (by omega) (by omega) dL_act_151 ?_
      refine g_if_ne (tgt := 159) (a := ((x) / (16)) % (4)) K dL_act_152 (by decide) (by omega) (fun h152 => ?_) (fun h152 => ?_)
      · refine g_iconst K 0 dL_act_159 (by decide +kernel) ?_
        refine g_callUW (As := [.ref (gz_ad (g_z X0) 0), .int (nI (0))]) (rest := []) h (hL_nodes_n (zy (g_z X0) (gz_ad (g_z X0)) (gz_ex (g_z X0))) S (0) hnd (by omega) (by omega)) (vx_cwSW 2 K.1.2.2.2.2 gL_act_L_nodes rfl rfl rfl (by decide +kernel) ⟨by rw [h.R, hR]; exact Nat.le_of_ble_eq_true rfl, by rw [h.R, hR]; exact Nat.le_of_ble_eq_true rfl⟩) rfl rfl (Nat.le_of_ble_eq_true rfl) dL_act_160 (by rw [h.R, hR]; exact Nat.le_of_ble_eq_true rfl) (by rw [h.R, hR]; exact Nat.le_of_ble_eq_true rfl) (fun X v52 S w9 hq h => ?_)
        obtain ⟨hv52, hnd, rfl⟩ := hq
        have h : gCx X0 X cL_act 8 wsL_act (gz_ad (g_z X0)) (gz_ex (g_z X0)) 0 0 0 := h
        have K := h.2.1
        exact hret X _ _ v52 _ _ _ _ _ h (by decide) (by decide) (by decide) ⟨by omega, hnd, rfl⟩ (Or.inl rfl) dL_act_163
      · refine g_iconst K 1 dL_act_155 (by decide +kernel) ?_
        refine g_goto (tgt := 160) K dL_act_156 (by decide) ?_
        refine g_callUW (As := [.ref (gz_ad (g_z X0) 0), .int (nI (1))]) (rest := []) h (hL_nodes_n (zy (g_z X0) (gz_ad (g_z X0)) (gz_ex (g_z X0))) S (1) hnd (by omega) (by omega)) (vx_cwSW 2 K.1.2.2.2.2 gL_act_L_nodes rfl rfl rfl (by decide +kernel) ⟨by rw [h.R, hR]; exact Nat.le_of_ble_eq_true rfl, by rw [h.R, hR]; exact Nat.le_of_ble_eq_true rfl⟩) rfl rfl (Nat.le_of_ble_eq_true rfl) dL_act_160 (by rw [h.R, hR]; exact Nat.le_of_ble_eq_true rfl) (by rw [h.R, hR]; exact Nat.le_of_ble_eq_true rfl) (fun X v53 S w9 hq h => ?_)
        obtain ⟨hv53, hnd, rfl⟩ := hq
        have h : gCx X0 X cL_act 8 wsL_act (gz_ad (g_z X0)) (gz_ex (g_z X0)) 0 0 0 := h
        have K := h.2.1
        exact hret X _ _ v53 _ _ _ _ _ h (by decide) (by decide) (by decide) ⟨by omega, hnd, rfl⟩ (Or.inl rfl) dL_act_163

set_option maxHeartbeats 4000000 in
set_option maxRecDepth 100000 in
theorem alike_l {X0 : gC} {n x : Nat} {ad2 : Nat → Nat} {r : va_W} (hR : g_R X0 = rmA) (hx : x < 2147483648) (hret : gRet X0 cL_alike 7 wsL_alike (fun v S1 w => v ≤ 1 ∧ nd S1 n ∧ ∃ S2' : Nat → Nat → Nat, nd S2' n ∧ w = gw ad2 (gz_I (g_z X0)) S2' ++ r) 0 0 0 (some .boolean)) : ∀ (m k g : Nat) (X : gC) (S S2 : Nat → Nat → Nat), k + m = n → g ≤ 1 → nd S n → nd S2 n → gCx X0 X cL_alike 7 wsL_alike (gz_ad (g_z X0)) (gw ad2 (gz_I (g_z X0)) S2 ++ r) 0 0 0 → gG X 64 [(3, .int (nI (g))), (4, .int (nI (k))), (0, .ref (gz_ad (g_z X0) 0)), (1, .ref (ad2 0)), (2, .int (nI (x)))] [] S := by
  intro m
  induction m with
  | zero =>
    intro k g X S S2 hk hg hnd hnd2 h
    have hn12 := hnd.1.1
    have he0 := hnd.2.1
    have hn9 : n ≤ 12 := by omega
    have K := h.2.1
    refine g_iload K 1 dL_alike_64 rfl ?_
    refine g_aload_n K 2 dL_alike_66 rfl ?_
    refine g_callVq (As := []) (rest := [.int (nI (k))]) h (cX5_nodes_k (zy (g_z X0) (gz_ad (g_z X0)) (gw ad2 (gz_I (g_z X0)) S2 ++ r)) S) (cwV 0 K.1.2.2.2.2 gL_alike_X5_nodes rfl rfl rfl (by decide +kernel) ⟨by rw [h.R, hR]; exact Nat.le_of_ble_eq_true rfl, by rw [h.R, hR]; exact Nat.le_of_ble_eq_true rfl⟩) rfl rfl (Nat.le_of_ble_eq_true rfl) dL_alike_67 ?_
    refine g_topE (n) hnd.2.1 ?_
    refine g_icmp_ge (tgt := 134) (a := k) (b := n) K dL_alike_70 (by decide) (by omega) (by omega) (fun h70 => ?_) (fun h70 => absurd h70 (by omega))
    refine g_iconst K 0 dL_alike_134 (by decide +kernel) ?_
    refine g_istore (lo' := [(4, .int (nI (0))), (3, .int (nI (g))), (0, .ref (gz_ad (g_z X0) 0)), (1, .ref (ad2 0)), (2, .int (nI (x)))]) K dL_alike_135 (by decide) rfl ?_
    refine g_iload K 0 dL_alike_137 rfl ?_
    refine g_aload_n K 2 dL_alike_139 rfl ?_
    refine g_callVq (As := []) (rest := [.int (nI (0))]) h (cX5_pipes_k (zy (g_z X0) (gz_ad (g_z X0)) (gw ad2 (gz_I (g_z X0)) S2 ++ r)) S) (cwV 0 K.1.2.2.2.2 gL_alike_X5_pipes rfl rfl rfl (by decide +kernel) ⟨by rw [h.R, hR]; exact Nat.le_of_ble_eq_true rfl, by rw [h.R, hR]; exact Nat.le_of_ble_eq_true rfl⟩) rfl rfl (Nat.le_of_ble_eq_true rfl) dL_alike_140 ?_
    refine g_topE (0) hnd.2.2.1 ?_
    refine g_icmp_ge (tgt := 274) (a := 0) (b := 0) K dL_alike_143 (by decide) (by omega) (by omega) (fun h143 => ?_) (fun h143 => absurd h143 (by omega))
    refine g_iload_n K 1 dL_alike_274 rfl ?_
    refine g_if_eq (tgt := 346) (a := g) K dL_alike_275 (by decide) (by omega) (fun h275 => ?_) (fun h275 => ?_)
    · refine g_iload_n K 1 dL_alike_346 rfl ?_
      exact hret X _ _ g _ _ _ _ _ h (by decide) (by decide) (by decide) ⟨by omega, hnd, S2, hnd2, rfl⟩ (Or.inr ⟨rfl, by omega⟩) dL_alike_347
    · refine g_aload_n K 2 dL_alike_278 rfl ?_
      refine g_callVq (As := []) (rest := []) h (cX5_pipes_k (zy (g_z X0) (gz_ad (g_z X0)) (gw ad2 (gz_I (g_z X0)) S2 ++ r)) S) (cwV 0 K.1.2.2.2.2 gL_alike_X5_pipes rfl rfl rfl (by decide +kernel) ⟨by rw [h.R, hR]; exact Nat.le_of_ble_eq_true rfl, by rw [h.R, hR]; exact Nat.le_of_ble_eq_true rfl⟩) rfl rfl (Nat.le_of_ble_eq_true rfl) dL_alike_279 ?_
      refine g_topE (0) hnd.2.2.1 ?_
      refine g_if_le (tgt := 346) (a := 0) K dL_alike_282 (by decide) (by omega) (fun h282 => ?_) (fun h282 => absurd h282 (by omega))
      refine g_iload_n K 1 dL_alike_346 rfl ?_
      exact hret X _ _ g _ _ _ _ _ h (by decide) (by decide) (by decide) ⟨by omega, hnd, S2, hnd2, rfl⟩ (Or.inr ⟨rfl, by omega⟩) dL_alike_347
  | succ m ih0 =>
    intro k g X S S2 hk hg hnd hnd2 h
    have ih : ∀ (k' g : Nat) (X : gC) (S S2 : Nat → Nat → Nat), k' + m = n → g ≤ 1 → nd S n → nd S2 n → gCx X0 X cL_alike 7 wsL_alike (gz_ad (g_z X0)) (gw ad2 (gz_I (g_z X0)) S2 ++ r) 0 0 0 → gG X 64 [(3, .int (nI (g))), (4, .int (nI (k'))), (0, .ref (gz_ad (g_z X0) 0)), (1, .ref (ad2 0)), (2, .int (nI (x)))] [] S := fun k' g X S S2 a b c d e => ih0 k' g X S S2 a b c d e
    have hn12 := hnd.1.1
    have he0 := hnd.2.1
    have hn9 : n ≤ 12 := by omega
    have K := h.2.1
    refine g_iload K 1 dL_alike_64 rfl ?_
    refine g_aload_n K 2 dL_alike_66 rfl ?_
    refine g_callVq (As := []) (rest := [.int (nI (k))]) h (cX5_nodes_k (zy (g_z X0) (gz_ad (g_z X0)) (gw ad2 (gz_I (g_z X0)) S2 ++ r)) S) (cwV 0 K.1.2.2.2.2 gL_alike_X5_nodes rfl rfl rfl (by decide +kernel) ⟨by rw [h.R, hR]; exact Nat.le_of_ble_eq_true rfl, by rw [h.R, hR]; exact Nat.le_of_ble_eq_true rfl⟩) rfl rfl (Nat.le_of_ble_eq_true rfl) dL_alike_67 ?_
    refine g_topE (n) hnd.2.1 ?_
    refine g_icmp_ge (tgt := 134) (a := k) (b := n) K dL_alike_70 (by decide) (by omega) (by omega) (fun h70 => ?_) (fun h70 => ?_)
    · refine g_iconst K 0 dL_alike_134 (by decide +kernel) ?_
      refine g_istore (lo' := [(4, .int (nI (0))), (3, .int (nI (g))), (0, .ref (gz_ad (g_z X0) 0)), (1, .ref (ad2 0)), (2, .int (nI (x)))]) K dL_alike_135 (by decide) rfl ?_
      refine g_iload K 0 dL_alike_137 rfl ?_
      refine g_aload_n K 2 dL_alike_139 rfl ?_
      refine g_callVq (As := []) (rest := [.int (nI (0))]) h (cX5_pipes_k (zy (g_z X0) (gz_ad (g_z X0)) (gw ad2 (gz_I (g_z X0)) S2 ++ r)) S) (cwV 0 K.1.2.2.2.2 gL_alike_X5_pipes rfl rfl rfl (by decide +kernel) ⟨by rw [h.R, hR]; exact Nat.le_of_ble_eq_true rfl, by rw [h.R, hR]; exact Nat.le_of_ble_eq_true rfl⟩) rfl rfl (Nat.le_of_ble_eq_true rfl) dL_alike_140 ?_
      refine g_topE (0) hnd.2.2.1 ?_
      refine g_icmp_ge (tgt := 274) (a := 0) (b := 0) K dL_alike_143 (by decide) (by omega) (by omega) (fun h143 => ?_) (fun h143 => absurd h143 (by omega))
      refine g_iload_n K 1 dL_alike_274 rfl ?_
      refine g_if_eq (tgt := 346) (a := g) K dL_alike_275 (by decide) (by omega) (fun h275 => ?_) (fun h275 => ?_)
      · refine g_iload_n K 1 dL_alike_346 rfl ?_
        exact hret X _ _ g _ _ _ _ _ h (by decide) (by decide) (by decide) ⟨by omega, hnd, S2, hnd2, rfl⟩ (Or.inr ⟨rfl, by omega⟩) dL_alike_347
      · refine g_aload_n K 2 dL_alike_278 rfl ?_
        refine g_callVq (As := []) (rest := []) h (cX5_pipes_k (zy (g_z X0) (gz_ad (g_z X0)) (gw ad2 (gz_I (g_z X0)) S2 ++ r)) S) (cwV 0 K.1.2.2.2.2 gL_alike_X5_pipes rfl rfl rfl (by decide +kernel) ⟨by rw [h.R, hR]; exact Nat.le_of_ble_eq_true rfl, by rw [h.R, hR]; exact Nat.le_of_ble_eq_true rfl⟩) rfl rfl (Nat.le_of_ble_eq_true rfl) dL_alike_279 ?_
        refine g_topE (0) hnd.2.2.1 ?_
        refine g_if_le (tgt := 346) (a := 0) K dL_alike_282 (by decide) (by omega) (fun h282 => ?_) (fun h282 => absurd h282 (by omega))
        refine g_iload_n K 1 dL_alike_346 rfl ?_
        exact hret X _ _ g _ _ _ _ _ h (by decide) (by decide) (by decide) ⟨by omega, hnd, S2, hnd2, rfl⟩ (Or.inr ⟨rfl, by omega⟩) dL_alike_347
    · refine g_iload_n K 0 dL_alike_73 rfl ?_
      refine g_if_eq (tgt := 134) (a := g) K dL_alike_74 (by decide) (by omega) (fun h74 => ?_) (fun h74 => ?_)
      · refine g_iconst K 0 dL_alike_134 (by decide +kernel) ?_
        refine g_istore (lo' := [(4, .int (nI (0))), (3, .int (nI (g))), (0, .ref (gz_ad (g_z X0) 0)), (1, .ref (ad2 0)), (2, .int (nI (x)))]) K dL_alike_135 (by decide) rfl ?_
        refine g_iload K 0 dL_alike_137 rfl ?_
        refine g_aload_n K 2 dL_alike_139 rfl ?_
        refine g_callVq (As := []) (rest := [.int (nI (0))]) h (cX5_pipes_k (zy (g_z X0) (gz_ad (g_z X0)) (gw ad2 (gz_I (g_z X0)) S2 ++ r)) S) (cwV 0 K.1.2.2.2.2 gL_alike_X5_pipes rfl rfl rfl (by decide +kernel) ⟨by rw [h.R, hR]; exact Nat.le_of_ble_eq_true rfl, by rw [h.R, hR]; exact Nat.le_of_ble_eq_true rfl⟩) rfl rfl (Nat.le_of_ble_eq_true rfl) dL_alike_140 ?_
        refine g_topE (0) hnd.2.2.1 ?_
        refine g_icmp_ge (tgt := 274) (a := 0) (b := 0) K dL_alike_143 (by decide) (by omega) (by omega) (fun h143 => ?_) (fun h143 => absurd h143 (by omega))
        refine g_iload_n K 1 dL_alike_274 rfl ?_
        refine g_if_eq (tgt := 346) (a := g) K dL_alike_275 (by decide) (by omega) (fun h275 => ?_) (fun h275 => ?_)
        · refine g_iload_n K 1 dL_alike_346 rfl ?_
          exact hret X _ _ g _ _ _ _ _ h (by decide) (by decide) (by decide) ⟨by omega, hnd, S2, hnd2, rfl⟩ (Or.inr ⟨rfl, by omega⟩) dL_alike_347
        · refine g_aload_n K 2 dL_alike_278 rfl ?_
          refine g_callVq (As := []) (rest := []) h (cX5_pipes_k (zy (g_z X0) (gz_ad (g_z X0)) (gw ad2 (gz_I (g_z X0)) S2 ++ r)) S) (cwV 0 K.1.2.2.2.2 gL_alike_X5_pipes rfl rfl rfl (by decide +kernel) ⟨by rw [h.R, hR]; exact Nat.le_of_ble_eq_true rfl, by rw [h.R, hR]; exact Nat.le_of_ble_eq_true rfl⟩) rfl rfl (Nat.le_of_ble_eq_true rfl) dL_alike_279 ?_
          refine g_topE (0) hnd.2.2.1 ?_
          refine g_if_le (tgt := 346) (a := 0) K dL_alike_282 (by decide) (by omega) (fun h282 => ?_) (fun h282 => absurd h282 (by omega))
          refine g_iload_n K 1 dL_alike_346 rfl ?_
          exact hret X _ _ g _ _ _ _ _ h (by decide) (by decide) (by decide) ⟨by omega, hnd, S2, hnd2, rfl⟩ (Or.inr ⟨rfl, by omega⟩) dL_alike_347
      · refine g_aload_n K 2 dL_alike_77 rfl ?_
        refine g_iload K 1 dL_alike_78 rfl ?_
        refine g_callUW (As := [.ref (gz_ad (g_z X0) 0), .int (nI (k))]) (rest := []) h (hL_nodeDry_n (zy (g_z X0) (gz_ad (g_z X0)) (gw ad2 (gz_I (g_z X0)) S2 ++ r)) S (k) hnd (by omega)) (vx_cwSW 2 K.1.2.2.2.2 gL_alike_L_nodeDry rfl rfl rfl (by decide +kernel) ⟨by rw [h.R, hR]; exact Nat.le_of_ble_eq_true rfl, by rw [h.R, hR]; exact Nat.le_of_ble_eq_true rfl⟩) rfl rfl (Nat.le_of_ble_eq_true rfl) dL_alike_80 (by rw [h.R, hR]; exact Nat.le_of_ble_eq_true rfl) (by rw [h.R, hR]; exact Nat.le_of_ble_eq_true rfl) (fun X v9 S w9 hq h => ?_)
        obtain ⟨hv9, hnd, rfl⟩ := hq
        have h : gCx X0 X cL_alike 7 wsL_alike (gz_ad (g_z X0)) (gw ad2 (gz_I (g_z X0)) S2 ++ r) 0 0 0 := h
        have K := h.2.1
        refine g_aload_n K 3 dL_alike_83 rfl ?_
        refine g_iload K 1 dL_alike_84 rfl ?_
        refine g_swap h (fun X h => ?_)
        have h : gCx X0 X cL_alike 7 wsL_alike ad2 (gw (gz_ad (g_z X0)) (gz_I (g_z X0)) S ++ r) 0 0 0 := h
        have K := h.2.1
        refine g_callUW (As := [.ref (ad2 0), .int (nI (k))]) (rest := [.int (nI (v9))]) h (hL_nodeDry_n (zy (g_z X0) ad2 (gw (gz_ad (g_z X0)) (gz_I (g_z X0)) S ++ r)) S2 (k) hnd2 (by omega)) (vx_cwSW 2 K.1.2.2.2.2 gL_alike_L_nodeDry rfl rfl rfl (by decide +kernel) ⟨by rw [h.R, hR]; exact Nat.le_of_ble_eq_true rfl, by rw [h.R, hR]; exact Nat.le_of_ble_eq_true rfl⟩) rfl rfl (Nat.le_of_ble_eq_true rfl) dL_alike_86 (by rw [h.R, hR]; exact Nat.le_of_ble_eq_true rfl) (by rw [h.R, hR]; exact Nat.le_of_ble_eq_true rfl) (fun X v10 S2 w9 hq h => ?_)
        obtain ⟨hv10, hnd2, rfl⟩ := hq
        have h : gCx X0 X cL_alike 7 wsL_alike ad2 (gw (gz_ad (g_z X0)) (gz_I (g_z X0)) S ++ r) 0 0 0 := h
        have K := h.2.1
        refine g_icmp_ne (tgt := 126) (a := v9) (b := v10) K dL_alike_89 (by decide) (by omega) (by omega) (fun h89 => ?_) (fun h89 => ?_)
        · refine g_iconst K 0 dL_alike_126 (by decide +kernel) ?_
          refine g_istore_n (lo' := [(3, .int (nI (0))), (4, .int (nI (k))), (0, .ref (gz_ad (g_z X0) 0)), (1, .ref (ad2 0)), (2, .int (nI (x)))]) K dL_alike_127 (by decide) rfl ?_
          refine g_iinc (a := k) (b := k + 1) (lo' := [(4, .int (nI (k + 1))), (3, .int (nI (0))), (0, .ref (gz_ad (g_z X0) 0)), (1, .ref (ad2 0)), (2, .int (nI (x)))]) K 1 dL_alike_128 rfl (gi_inc _) (by decide) rfl ?_
          refine g_goto (tgt := 64) K dL_alike_131 (by decide) ?_
          refine g_swap h (fun X h => ?_)
          have h : gCx X0 X cL_alike 7 wsL_alike (gz_ad (g_z X0)) (gw ad2 (gz_I (g_z X0)) S2 ++ r) 0 0 0 := h
          have K := h.2.1
          refine g_loc (lo' := [(3, .int (nI (0))), (4, .int (nI (k + 1))), (0, .ref (gz_ad (g_z X0) 0)), (1, .ref (ad2 0)), (2, .int (nI (x)))]) [1, 0, 2, 3, 4] rfl ?_
          exact ih (k + 1) (0) X S S2 (by omega) (by omega) hnd hnd2 h
        · refine g_aload_n K 2 dL_alike_92 rfl ?_
          refine g_iload K 1 dL_alike_93 rfl ?_
          refine g_swap h (fun X h => ?_)
          have h : gCx X0 X cL_alike 7 wsL_alike (gz_ad (g_z X0)) (gw ad2 (gz_I (g_z X0)) S2 ++ r) 0 0 0 := h
          have K := h.2.1
          refine g_callUW (As := [.ref (gz_ad (g_z X0) 0), .int (nI (k))]) (rest := []) h (hL_ofNode_n (zy (g_z X0) (gz_ad (g_z X0)) (gw ad2 (gz_I (g_z X0)) S2 ++ r)) S (k) hnd (by omega)) (vx_cwSW 2 K.1.2.2.2.2 gL_alike_L_ofNode rfl rfl rfl (by decide +kernel) ⟨by rw [h.R, hR]; exact Nat.le_of_ble_eq_true rfl, by rw [h.R, hR]; exact Nat.le_of_ble_eq_true rfl⟩) rfl rfl (Nat.le_of_ble_eq_true rfl) dL_alike_95 (by rw [h.R, hR]; exact Nat.le_of_ble_eq_true rfl) (by rw [h.R, hR]; exact Nat.le_of_ble_eq_true rfl) (fun X v12 S w9 hq h => ?_)
          obtain ⟨hv12, hnd, rfl⟩ := hq
          have h : gCx X0 X cL_alike 7 wsL_alike (gz_ad (g_z X0)) (gw ad2 (gz_I (g_z X0)) S2 ++ r) 0 0 0 := h
          have K := h.2.1
          refine g_aload_n K 3 dL_alike_98 rfl ?_
          refine g_iload K 1 dL_alike_99 rfl ?_
          refine g_swap h (fun X h => ?_)
          have h : gCx X0 X cL_alike 7 wsL_alike ad2 (gw (gz_ad (g_z X0)) (gz_I (g_z X0)) S ++ r) 0 0 0 := h
          have K := h.2.1
          refine g_callUW (As := [.ref (ad2 0), .int (nI (k))]) (rest := [.int (nI (v12))]) h (hL_ofNode_n (zy (g_z X0) ad2 (gw (gz_ad (g_z X0)) (gz_I (g_z X0)) S ++ r)) S2 (k) hnd2 (by omega)) (vx_cwSW 2 K.1.2.2.2.2 gL_alike_L_ofNode rfl rfl rfl (by decide +kernel) ⟨by rw [h.R, hR]; exact Nat.le_of_ble_eq_true rfl, by rw [h.R, hR]; exact Nat.le_of_ble_eq_true rfl⟩) rfl rfl (Nat.le_of_ble_eq_true rfl) dL_alike_101 (by rw [h.R, hR]; exact Nat.le_of_ble_eq_true rfl) (by rw [h.R, hR]; exact Nat.le_of_ble_eq_true rfl) (fun X v13 S2 w9 hq h => ?_)
          obtain ⟨hv13, hnd2, rfl⟩ := hq
          have h : gCx X0 X cL_alike 7 wsL_alike ad2 (gw (gz_ad (g_z X0)) (gz_I (g_z X0)) S ++ r) 0 0 0 := h
          have K := h.2.1
          refine g_icmp_ne (tgt := 126) (a := v12) (b := v13) K dL_alike_104 (by decide) (by omega) (by omega) (fun h104 => ?_) (fun h104 => ?_)
          · refine g_iconst K 0 dL_alike_126 (by decide +kernel) ?_
            refine g_istore_n (lo' := [(3, .int (nI (0))), (4, .int (nI (k))), (0, .ref (gz_ad (g_z X0) 0)), (1, .ref (ad2 0)), (2, .int (nI (x)))]) K dL_alike_127 (by decide) rfl ?_
            refine g_iinc (a := k) (b := k + 1) (lo' := [(4, .int (nI (k + 1))), (3, .int (nI (0))), (0, .ref (gz_ad (g_z X0) 0)), (1, .ref (ad2 0)), (2, .int (nI (x)))]) K 1 dL_alike_128 rfl (gi_inc _) (by decide) rfl ?_
            refine g_goto (tgt := 64) K dL_alike_131 (by decide) ?_
            refine g_swap h (fun X h => ?_)
            have h : gCx X0 X cL_alike 7 wsL_alike (gz_ad (g_z X0)) (gw ad2 (gz_I (g_z X0)) S2 ++ r) 0 0 0 := h
            have K := h.2.1
            refine g_loc (lo' := [(3, .int (nI (0))), (4, .int (nI (k + 1))), (0, .ref (gz_ad (g_z X0) 0)), (1, .ref (ad2 0)), (2, .int (nI (x)))]) [1, 0, 2, 3, 4] rfl ?_
            exact ih (k + 1) (0) X S S2 (by omega) (by omega) hnd hnd2 h
          · refine g_aload_n K 2 dL_alike_107 rfl ?_
            refine g_iload K 1 dL_alike_108 rfl ?_
            refine g_swap h (fun X h => ?_)
            have h : gCx X0 X cL_alike 7 wsL_alike (gz_ad (g_z X0)) (gw ad2 (gz_I (g_z X0)) S2 ++ r) 0 0 0 := h
            have K := h.2.1
            refine g_callUW (As := [.ref (gz_ad (g_z X0) 0), .int (nI (k))]) (rest := []) h (hL_far_n (zy (g_z X0) (gz_ad (g_z X0)) (gw ad2 (gz_I (g_z X0)) S2 ++ r)) S (k) hnd (by omega)) (vx_cwSW 2 K.1.2.2.2.2 gL_alike_L_far rfl rfl rfl (by decide +kernel) ⟨by rw [h.R, hR]; exact Nat.le_of_ble_eq_true rfl, by rw [h.R, hR]; exact Nat.le_of_ble_eq_true rfl⟩) rfl rfl (Nat.le_of_ble_eq_true rfl) dL_alike_110 (by rw [h.R, hR]; exact Nat.le_of_ble_eq_true rfl) (by rw [h.R, hR]; exact Nat.le_of_ble_eq_true rfl) (fun X v15 S w9 hq h => ?_)
            obtain ⟨hv15, hnd, rfl⟩ := hq
            have h : gCx X0 X cL_alike 7 wsL_alike (gz_ad (g_z X0)) (gw ad2 (gz_I (g_z X0)) S2 ++ r) 0 0 0 := h
            have K := h.2.1
            refine g_aload_n K 3 dL_alike_113 rfl ?_
            refine g_iload K 1 dL_alike_114 rfl ?_
            refine g_swap h (fun X h => ?_)
            have h : gCx X0 X cL_alike 7 wsL_alike ad2 (gw (gz_ad (g_z X0)) (gz_I (g_z X0)) S ++ r) 0 0 0 := h
            have K := h.2.1
            refine g_callUW (As := [.ref (ad2 0), .int (nI (k))]) (rest := [.int (nI (v15))]) h (hL_far_n (zy (g_z X0) ad2 (gw (gz_ad (g_z X0)) (gz_I (g_z X0)) S ++ r)) S2 (k) hnd2 (by omega)) (vx_cwSW 2 K.1.2.2.2.2 gL_alike_L_far rfl rfl rfl (by decide +kernel) ⟨by rw [h.R, hR]; exact Nat.le_of_ble_eq_true rfl, by rw [h.R, hR]; exact Nat.le_of_ble_eq_true rfl⟩) rfl rfl (Nat.le_of_ble_eq_true rfl) dL_alike_116 (by rw [h.R, hR]; exact Nat.le_of_ble_eq_true rfl) (by rw [h.R, hR]; exact Nat.le_of_ble_eq_true rfl) (fun X v16 S2 w9 hq h => ?_)
            obtain ⟨hv16, hnd2, rfl⟩ := hq
            have h : gCx X0 X cL_alike 7 wsL_alike ad2 (gw (gz_ad (g_z X0)) (gz_I (g_z X0)) S ++ r) 0 0 0 := h
            have K := h.2.1
            refine g_icmp_ne (tgt := 126) (a := v15) (b := v16) K dL_alike_119 (by decide) (by omega) (by omega) (fun h119 => ?_) (fun h119 => ?_)
            · refine g_iconst K 0 dL_alike_126 (by decide +kernel) ?_
              refine g_istore_n (lo' := [(3, .int (nI (0))), (4, .int (nI (k))), (0, .ref (gz_ad (g_z X0) 0)), (1, .ref (ad2 0)), (2, .int (nI (x)))]) K dL_alike_127 (by decide) rfl ?_
              refine g_iinc (a := k) (b := k + 1) (lo' := [(4, .int (nI (k + 1))), (3, .int (nI (0))), (0, .ref (gz_ad (g_z X0) 0)), (1, .ref (ad2 0)), (2, .int (nI (x)))]) K 1 dL_alike_128 rfl (gi_inc _) (by decide) rfl ?_
              refine g_goto (tgt := 64) K dL_alike_131 (by decide) ?_
              refine g_swap h (fun X h => ?_)
              have h : gCx X0 X cL_alike 7 wsL_alike (gz_ad (g_z X0)) (gw ad2 (gz_I (g_z X0)) S2 ++ r) 0 0 0 := h
              have K := h.2.1
              refine g_loc (lo' := [(3, .int (nI (0))), (4, .int (nI (k + 1))), (0, .ref (gz_ad (g_z X0) 0)), (1, .ref (ad2 0)), (2, .int (nI (x)))]) [1, 0, 2, 3, 4] rfl ?_
              exact ih (k + 1) (0) X S S2 (by omega) (by omega) hnd hnd2 h
            · refine g_iconst K 1 dL_alike_122 (by decide +kernel) ?_
              refine g_goto (tgt := 127) K dL_alike_123 (by decide) ?_
              refine g_istore_n (lo' := [(3, .int (nI (1))), (4, .int (nI (k))), (0, .ref (gz_ad (g_z X0) 0)), (1, .ref (ad2 0)), (2, .int (nI (x)))]) K dL_alike_127 (by decide) rfl ?_
              refine g_iinc (a := k) (b := k + 1) (lo' := [(4, .int (nI (k + 1))), (3, .int (nI (1))), (0, .ref (gz_ad (g_z X0) 0)), (1, .ref (ad2 0)), (2, .int (nI (x)))]) K 1 dL_alike_128 rfl (gi_inc _) (by decide) rfl ?_
              refine g_goto (tgt := 64) K dL_alike_131 (by decide) ?_
              refine g_swap h (fun X h => ?_)
              have h : gCx X0 X cL_alike 7 wsL_alike (gz_ad (g_z X0)) (gw ad2 (gz_I (g_z X0)) S2 ++ r) 0 0 0 := h
              have K := h.2.1
              refine g_loc (lo' := [(3, .int (nI (1))), (4, .int (nI (k + 1))), (0, .ref (gz_ad (g_z X0) 0)), (1, .ref (ad2 0)), (2, .int (nI (x)))]) [1, 0, 2, 3, 4] rfl ?_
              exact ih (k + 1) (1) X S S2 (by omega) (by omega) hnd hnd2 h

set_option maxHeartbeats 4000000 in
set_option maxRecDepth 100000 in
theorem alike_c (Z : gZ) (S S2 : Nat → Nat → Nat) {n : Nat} (x : Nat) (ad2 : Nat → Nat) (r : va_W) (hnd : nd S n) (hnd2 : nd S2 n) (hex : gz_ex Z = gw ad2 (gz_I Z) S2 ++ r) (hx : x < 2147483648) : gMu Z yL_alike wsL_alike rmA [.ref (gz_ad Z 0), .ref (ad2 0), .int (nI (x))] S (fun v S1 w => v ≤ 1 ∧ nd S1 n ∧ ∃ S2' : Nat → Nat → Nat, nd S2' n ∧ w = gw ad2 (gz_I (Z)) S2' ++ r) 0 0 0 := by
  refine gMu_of (cc := cL_alike) (maxL := 7) (ret := some .boolean) (by decide +kernel) rfl rfl (Nat.le_of_ble_eq_true rfl) (fun X0 hZ hR h hret => ?_)
  subst hZ
  rw [hex] at h
  have h : gCx X0 X0 cL_alike 7 wsL_alike (gz_ad (g_z X0)) (gw ad2 (gz_I (g_z X0)) S2 ++ r) 0 0 0 := h
  have K := h.2.1
  have hn12 := hnd.1.1
  have he0 := hnd.2.1
  have hn9 : n ≤ 12 := by omega
  show gG X0 0 [(0, .ref (gz_ad (g_z X0) 0)), (1, .ref (ad2 0)), (2, .int (nI (x)))] [] S
  refine g_aload_n K 0 dL_alike_0 rfl ?_
  refine g_callVq (As := []) (rest := []) h (cX5_nodes_k (zy (g_z X0) (gz_ad (g_z X0)) (gw ad2 (gz_I (g_z X0)) S2 ++ r)) S) (cwV 0 K.1.2.2.2.2 gL_alike_X5_nodes rfl rfl rfl (by decide +kernel) ⟨by rw [h.R, hR]; exact Nat.le_of_ble_eq_true rfl, by rw [h.R, hR]; exact Nat.le_of_ble_eq_true rfl⟩) rfl rfl (Nat.le_of_ble_eq_true rfl) dL_alike_1 ?_
  refine g_topE (n) hnd.2.1 ?_
  refine g_aload_n K 1 dL_alike_4 rfl ?_
  refine g_swap h (fun X h => ?_)
  have h : gCx X0 X cL_alike 7 wsL_alike ad2 (gw (gz_ad (g_z X0)) (gz_I (g_z X0)) S ++ r) 0 0 0 := h
  have K := h.2.1
  refine g_callVq (As := []) (rest := [.int (nI (n))]) h (cX5_nodes_k (zy (g_z X0) ad2 (gw (gz_ad (g_z X0)) (gz_I (g_z X0)) S ++ r)) S2) (cwV 0 K.1.2.2.2.2 gL_alike_X5_nodes rfl rfl rfl (by decide +kernel) ⟨by rw [h.R, hR]; exact Nat.le_of_ble_eq_true rfl, by rw [h.R, hR]; exact Nat.le_of_ble_eq_true rfl⟩) rfl rfl (Nat.le_of_ble_eq_true rfl) dL_alike_5 ?_
  refine g_topE (n) hnd2.2.1 ?_
  refine g_icmp_ne (tgt := 59) (a := n) (b := n) K dL_alike_8 (by decide) (by omega) (by omega) (fun h8 => absurd h8 (by omega)) (fun h8 => ?_)
  refine g_aload_n K 0 dL_alike_11 rfl ?_
  refine g_swap h (fun X h => ?_)
  have h : gCx X0 X cL_alike 7 wsL_alike (gz_ad (g_z X0)) (gw ad2 (gz_I (g_z X0)) S2 ++ r) 0 0 0 := h
  have K := h.2.1
  refine g_callVq (As := []) (rest := []) h (cX5_pipes_k (zy (g_z X0) (gz_ad (g_z X0)) (gw ad2 (gz_I (g_z X0)) S2 ++ r)) S) (cwV 0 K.1.2.2.2.2 gL_alike_X5_pipes rfl rfl rfl (by decide +kernel) ⟨by rw [h.R, hR]; exact Nat.le_of_ble_eq_true rfl, by rw [h.R, hR]; exact Nat.le_of_ble_eq_true rfl⟩) rfl rfl (Nat.le_of_ble_eq_true rfl) dL_alike_12 ?_
  refine g_topE (0) hnd.2.2.1 ?_
  refine g_aload_n K 1 dL_alike_15 rfl ?_
  refine g_swap h (fun X h => ?_)
  have h : gCx X0 X cL_alike 7 wsL_alike ad2 (gw (gz_ad (g_z X0)) (gz_I (g_z X0)) S ++ r) 0 0 0 := h
  have K := h.2.1
  refine g_callVq (As := []) (rest := [.int (nI (0))]) h (cX5_pipes_k (zy (g_z X0) ad2 (gw (gz_ad (g_z X0)) (gz_I (g_z X0)) S ++ r)) S2) (cwV 0 K.1.2.2.2.2 gL_alike_X5_pipes rfl rfl rfl (by decide +kernel) ⟨by rw [h.R, hR]; exact Nat.le_of_ble_eq_true rfl, by rw [h.R, hR]; exact Nat.le_of_ble_eq_true rfl⟩) rfl rfl (Nat.le_of_ble_eq_true rfl) dL_alike_16 ?_
  refine g_topE (0) hnd2.2.2.1 ?_
  refine g_icmp_ne (tgt := 59) (a := 0) (b := 0) K dL_alike_19 (by decide) (by omega) (by omega) (fun h19 => absurd h19 (by omega)) (fun h19 => ?_)
  refine g_aload_n K 0 dL_alike_22 rfl ?_
  refine g_swap h (fun X h => ?_)
  have h : gCx X0 X cL_alike 7 wsL_alike (gz_ad (g_z X0)) (gw ad2 (gz_I (g_z X0)) S2 ++ r) 0 0 0 := h
  have K := h.2.1
  refine g_callVq (As := []) (rest := []) h (cX5_valves_k (zy (g_z X0) (gz_ad (g_z X0)) (gw ad2 (gz_I (g_z X0)) S2 ++ r)) S) (cwV 0 K.1.2.2.2.2 gL_alike_X5_valves rfl rfl rfl (by decide +kernel) ⟨by rw [h.R, hR]; exact Nat.le_of_ble_eq_true rfl, by rw [h.R, hR]; exact Nat.le_of_ble_eq_true rfl⟩) rfl rfl (Nat.le_of_ble_eq_true rfl) dL_alike_23 ?_
  refine g_topE (0) hnd.2.2.2 ?_
  refine g_aload_n K 1 dL_alike_26 rfl ?_
  refine g_swap h (fun X h => ?_)
  have h : gCx X0 X cL_alike 7 wsL_alike ad2 (gw (gz_ad (g_z X0)) (gz_I (g_z X0)) S ++ r) 0 0 0 := h
  have K := h.2.1
  refine g_callVq (As := []) (rest := [.int (nI (0))]) h (cX5_valves_k (zy (g_z X0) ad2 (gw (gz_ad (g_z X0)) (gz_I (g_z X0)) S ++ r)) S2) (cwV 0 K.1.2.2.2.2 gL_alike_X5_valves rfl rfl rfl (by decide +kernel) ⟨by rw [h.R, hR]; exact Nat.le_of_ble_eq_true rfl, by rw [h.R, hR]; exact Nat.le_of_ble_eq_true rfl⟩) rfl rfl (Nat.le_of_ble_eq_true rfl) dL_alike_27 ?_
  refine g_topE (0) hnd2.2.2.2 ?_
  refine g_icmp_ne (tgt := 59) (a := 0) (b := 0) K dL_alike_30 (by decide) (by omega) (by omega) (fun h30 => absurd h30 (by omega)) (fun h30 => ?_)
  refine g_aload_n K 0 dL_alike_33 rfl ?_
  refine g_swap h (fun X h => ?_)
  have h : gCx X0 X cL_alike 7 wsL_alike (gz_ad (g_z X0)) (gw ad2 (gz_I (g_z X0)) S2 ++ r) 0 0 0 := h
  have K := h.2.1
  refine g_callVq (As := []) (rest := []) h (cX5_supplied_k (zy (g_z X0) (gz_ad (g_z X0)) (gw ad2 (gz_I (g_z X0)) S2 ++ r)) S hnd.1) (cwV 0 K.1.2.2.2.2 gL_alike_X5_supplied rfl rfl rfl (by decide +kernel) ⟨by rw [h.R, hR]; exact Nat.le_of_ble_eq_true rfl, by rw [h.R, hR]; exact Nat.le_of_ble_eq_true rfl⟩) rfl rfl (Nat.le_of_ble_eq_true rfl) dL_alike_34 ?_
  refine g_topM (fun v4 hv4 => ?_)
  refine g_aload_n K 1 dL_alike_37 rfl ?_
  refine g_swap h (fun X h => ?_)
  have h : gCx X0 X cL_alike 7 wsL_alike ad2 (gw (gz_ad (g_z X0)) (gz_I (g_z X0)) S ++ r) 0 0 0 := h
  have K := h.2.1
  refine g_callVq (As := []) (rest := [.int (nI (v4))]) h (cX5_supplied_k (zy (g_z X0) ad2 (gw (gz_ad (g_z X0)) (gz_I (g_z X0)) S ++ r)) S2 hnd2.1) (cwV 0 K.1.2.2.2.2 gL_alike_X5_supplied rfl rfl rfl (by decide +kernel) ⟨by rw [h.R, hR]; exact Nat.le_of_ble_eq_true rfl, by rw [h.R, hR]; exact Nat.le_of_ble_eq_true rfl⟩) rfl rfl (Nat.le_of_ble_eq_true rfl) dL_alike_38 ?_
  refine g_topM (fun v5 hv5 => ?_)
  refine g_icmp_ne (tgt := 59) (a := v4) (b := v5) K dL_alike_41 (by decide) (by omega) (by omega) (fun h41 => ?_) (fun h41 => ?_)
  · refine g_iconst K 0 dL_alike_59 (by decide +kernel) ?_
    refine g_istore_n (lo' := [(3, .int (nI (0))), (0, .ref (gz_ad (g_z X0) 0)), (1, .ref (ad2 0)), (2, .int (nI (x)))]) K dL_alike_60 (by decide) rfl ?_
    refine g_iconst K 0 dL_alike_61 (by decide +kernel) ?_
    refine g_istore (lo' := [(4, .int (nI (0))), (3, .int (nI (0))), (0, .ref (gz_ad (g_z X0) 0)), (1, .ref (ad2 0)), (2, .int (nI (x)))]) K dL_alike_62 (by decide) rfl ?_
    refine g_swap h (fun X h => ?_)
    have h : gCx X0 X cL_alike 7 wsL_alike (gz_ad (g_z X0)) (gw ad2 (gz_I (g_z X0)) S2 ++ r) 0 0 0 := h
    have K := h.2.1
    refine g_loc (lo' := [(3, .int (nI (0))), (4, .int (nI (0))), (0, .ref (gz_ad (g_z X0) 0)), (1, .ref (ad2 0)), (2, .int (nI (x)))]) [1, 0, 2, 3, 4] rfl ?_
    exact alike_l hR hx hret n 0 (0) X S S2 (by omega) (by decide) hnd hnd2 h
  · refine g_aload_n K 0 dL_alike_44 rfl ?_
    refine g_swap h (fun X h => ?_)
    have h : gCx X0 X cL_alike 7 wsL_alike (gz_ad (g_z X0)) (gw ad2 (gz_I (g_z X0)) S2 ++ r) 0 0 0 := h
    have K := h.2.1
    refine g_callVq (As := []) (rest := []) h (cX5_segments_k (zy (g_z X0) (gz_ad (g_z X0)) (gw ad2 (gz_I (g_z X0)) S2 ++ r)) S hnd.1) (cwV 0 K.1.2.2.2.2 gL_alike_X5_segments rfl rfl rfl (by decide +kernel) ⟨by rw [h.R, hR]; exact Nat.le_of_ble_eq_true rfl, by rw [h.R, hR]; exact Nat.le_of_ble_eq_true rfl⟩) rfl rfl (Nat.le_of_ble_eq_true rfl) dL_alike_45 ?_
    refine g_topM (fun v7 hv7 => ?_)
    refine g_aload_n K 1 dL_alike_48 rfl ?_
    refine g_swap h (fun X h => ?_)
    have h : gCx X0 X cL_alike 7 wsL_alike ad2 (gw (gz_ad (g_z X0)) (gz_I (g_z X0)) S ++ r) 0 0 0 := h
    have K := h.2.1
    refine g_callVq (As := []) (rest := [.int (nI (v7))]) h (cX5_segments_k (zy (g_z X0) ad2 (gw (gz_ad (g_z X0)) (gz_I (g_z X0)) S ++ r)) S2 hnd2.1) (cwV 0 K.1.2.2.2.2 gL_alike_X5_segments rfl rfl rfl (by decide +kernel) ⟨by rw [h.R, hR]; exact Nat.le_of_ble_eq_true rfl, by rw [h.R, hR]; exact Nat.le_of_ble_eq_true rfl⟩) rfl rfl (Nat.le_of_ble_eq_true rfl) dL_alike_49 ?_
    refine g_topM (fun v8 hv8 => ?_)
    refine g_icmp_ne (tgt := 59) (a := v7) (b := v8) K dL_alike_52 (by decide) (by omega) (by omega) (fun h52 => ?_) (fun h52 => ?_)
    · refine g_iconst K 0 dL_alike_59 (by decide +kernel) ?_
      refine g_istore_n (lo' := [(3, .int (nI (0))), (0, .ref (gz_ad (g_z X0) 0)), (1, .ref (ad2 0)), (2, .int (nI (x)))]) K dL_alike_60 (by decide) rfl ?_
      refine g_iconst K 0 dL_alike_61 (by decide +kernel) ?_
      refine g_istore (lo' := [(4, .int (nI (0))), (3, .int (nI (0))), (0, .ref (gz_ad (g_z X0) 0)), (1, .ref (ad2 0)), (2, .int (nI (x)))]) K dL_alike_62 (by decide) rfl ?_
      refine g_swap h (fun X h => ?_)
      have h : gCx X0 X cL_alike 7 wsL_alike (gz_ad (g_z X0)) (gw ad2 (gz_I (g_z X0)) S2 ++ r) 0 0 0 := h
      have K := h.2.1
      refine g_loc (lo' := [(3, .int (nI (0))), (4, .int (nI (0))), (0, .ref (gz_ad (g_z X0) 0)), (1, .ref (ad2 0)), (2, .int (nI (x)))]) [1, 0, 2, 3, 4] rfl ?_
      exact alike_l hR hx hret n 0 (0) X S S2 (by omega) (by decide) hnd hnd2 h
    · refine g_iconst K 1 dL_alike_55 (by decide +kernel) ?_
      refine g_goto (tgt := 60) K dL_alike_56 (by decide) ?_
      refine g_istore_n (lo' := [(3, .int (nI (1))), (0, .ref (gz_ad (g_z X0) 0)), (1, .ref (ad2 0)), (2, .int (nI (x)))]) K dL_alike_60 (by decide) rfl ?_
      refine g_iconst K 0 dL_alike_61 (by decide +kernel) ?_
      refine g_istore (lo' := [(4, .int (nI (0))), (3, .int (nI (1))), (0, .ref (gz_ad (g_z X0) 0)), (1, .ref (ad2 0)), (2, .int (nI (x)))]) K dL_alike_62 (by decide) rfl ?_
      refine g_swap h (fun X h => ?_)
      have h : gCx X0 X cL_alike 7 wsL_alike (gz_ad (g_z X0)) (gw ad2 (gz_I (g_z X0)) S2 ++ r) 0 0 0 := h
      have K := h.2.1
      refine g_loc (lo' := [(3, .int (nI (1))), (4, .int (nI (0))), (0, .ref (gz_ad (g_z X0) 0)), (1, .ref (ad2 0)), (2, .int (nI (x)))]) [1, 0, 2, 3, 4] rfl ?_
      exact alike_l hR hx hret n 0 (1) X S S2 (by omega) (by decide) hnd hnd2 h

set_option maxHeartbeats 4000000 in
set_option maxRecDepth 100000 in
theorem holds_l {X0 : gC} {n : Nat} (hR : g_R X0 = rmH) (hret : gRet X0 cL_holds 10 wsL_holds (fun v S1 w => v ≤ 1 ∧ nd S1 n ∧ w = gz_ex (g_z X0)) 1 6 0 (some .boolean)) : ∀ (m k g : Nat) (X : gC) (S : Nat → Nat → Nat), k + m = n → g ≤ 1 → nd S n → gCx X0 X cL_holds 10 wsL_holds (gz_ad (g_z X0)) (gz_ex (g_z X0)) 1 1 6 → gG X 289 [(4, .int (nI (g))), (6, .int (nI (k))), (0, .ref (gz_ad (g_z X0) 0)), (2, .int (nI (0))), (5, .int (nI (0)))] [] S := by
  intro m
  induction m with
  | zero =>
    intro k g X S hk hg hnd h
    have hn12 := hnd.1.1
    have he0 := hnd.2.1
    have hn9 : n ≤ 12 := by omega
    have K := h.2.1
    refine g_iload K 1 dL_holds_289 rfl ?_
    refine g_aload_n K 2 dL_holds_291 rfl ?_
    refine g_callVq (As := []) (rest := [.int (nI (k))]) h (cX5_nodes_k (zy (g_z X0) (gz_ad (g_z X0)) (gz_ex (g_z X0))) S) (cwV 0 K.1.2.2.2.2 gL_holds_X5_nodes rfl rfl rfl (by decide +kernel) ⟨by rw [h.R, hR]; exact Nat.le_of_ble_eq_true rfl, by rw [h.R, hR]; exact Nat.le_of_ble_eq_true rfl⟩) rfl rfl (Nat.le_of_ble_eq_true rfl) dL_holds_292 ?_
    refine g_topE (n) hnd.2.1 ?_
    refine g_icmp_ge (tgt := 371) (a := k) (b := n) K dL_holds_295 (by decide) (by omega) (by omega) (fun h295 => ?_) (fun h295 => absurd h295 (by omega))
    refine g_iload K 0 dL_holds_371 rfl ?_
    refine g_if_eq (tgt := 386) (a := g) K dL_holds_373 (by decide) (by omega) (fun h373 => ?_) (fun h373 => ?_)
    · refine g_iconst K 0 dL_holds_386 (by decide +kernel) ?_
      exact hret X _ _ 0 _ _ _ _ _ h (by decide) (by decide) (by decide) ⟨by omega, hnd, rfl⟩ (Or.inr ⟨rfl, by omega⟩) dL_holds_387
    · refine g_iload_n K 3 dL_holds_376 rfl ?_
      refine g_iload K 4 dL_holds_377 rfl ?_
      refine g_icmp_ne (tgt := 386) (a := 0) (b := 0) K dL_holds_379 (by decide) (by omega) (by omega) (fun h379 => absurd h379 (by omega)) (fun h379 => ?_)
      refine g_iconst K 1 dL_holds_382 (by decide +kernel) ?_
      refine g_goto (tgt := 387) K dL_holds_383 (by decide) ?_
      exact hret X _ _ 1 _ _ _ _ _ h (by decide) (by decide) (by decide) ⟨by omega, hnd, rfl⟩ (Or.inr ⟨rfl, by omega⟩) dL_holds_387
  | succ m ih =>
    intro k g X S hk hg hnd h
    have ih : ∀ (k' g : Nat) (X : gC) (S : Nat → Nat → Nat), k' + m = n → g ≤ 1 → nd S n → gCx X0 X cL_holds 10 wsL_holds (gz_ad (g_z X0)) (gz_ex (g_z X0)) 1 1 6 → gG X 289 [(4, .int (nI (g))), (6, .int (nI (k'))), (0, .ref (gz_ad (g_z X0) 0)), (2, .int (nI (0))), (5, .int (nI (0)))] [] S := ih
    have hn12 := hnd.1.1
    have he0 := hnd.2.1
    have hn9 : n ≤ 12 := by omega
    have K := h.2.1
    refine g_iload K 1 dL_holds_289 rfl ?_
    refine g_aload_n K 2 dL_holds_291 rfl ?_
    refine g_callVq (As := []) (rest := [.int (nI (k))]) h (cX5_nodes_k (zy (g_z X0) (gz_ad (g_z X0)) (gz_ex (g_z X0))) S) (cwV 0 K.1.2.2.2.2 gL_holds_X5_nodes rfl rfl rfl (by decide +kernel) ⟨by rw [h.R, hR]; exact Nat.le_of_ble_eq_true rfl, by rw [h.R, hR]; exact Nat.le_of_ble_eq_true rfl⟩) rfl rfl (Nat.le_of_ble_eq_true rfl) dL_holds_292 ?_
    refine g_topE (n) hnd.2.1 ?_
    refine g_icmp_ge (tgt := 371) (a := k) (b := n) K dL_holds_295 (by decide) (by omega) (by omega) (fun h295 => ?_) (fun h295 => ?_)
    · refine g_iload K 0 dL_holds_371 rfl ?_
      refine g_if_eq (tgt := 386) (a := g) K dL_holds_373 (by decide) (by omega) (fun h373 => ?_) (fun h373 => ?_)
      · refine g_iconst K 0 dL_holds_386 (by decide +kernel) ?_
        exact hret X _ _ 0 _ _ _ _ _ h (by decide) (by decide) (by decide) ⟨by omega, hnd, rfl⟩ (Or.inr ⟨rfl, by omega⟩) dL_holds_387
      · refine g_iload_n K 3 dL_holds_376 rfl ?_
        refine g_iload K 4 dL_holds_377 rfl ?_
        refine g_icmp_ne (tgt := 386) (a := 0) (b := 0) K dL_holds_379 (by decide) (by omega) (by omega) (fun h379 => absurd h379 (by omega)) (fun h379 => ?_)
        refine g_iconst K 1 dL_holds_382 (by decide +kernel) ?_
        refine g_goto (tgt := 387) K dL_holds_383 (by decide) ?_
        exact hret X _ _ 1 _ _ _ _ _ h (by decide) (by decide) (by decide) ⟨by omega, hnd, rfl⟩ (Or.inr ⟨rfl, by omega⟩) dL_holds_387
    · refine g_iload K 0 dL_holds_298 rfl ?_
      refine g_if_eq (tgt := 371) (a := g) K dL_holds_300 (by decide) (by omega) (fun h300 => ?_) (fun h300 => ?_)
      · refine g_iload K 0 dL_holds_371 rfl ?_
        refine g_if_eq (tgt := 386) (a := g) K dL_holds_373 (by decide) (by omega) (fun h373 => ?_) (fun h373 => ?_)
        · refine g_iconst K 0 dL_holds_386 (by decide +kernel) ?_
          exact hret X _ _ 0 _ _ _ _ _ h (by decide) (by decide) (by decide) ⟨by omega, hnd, rfl⟩ (Or.inr ⟨rfl, by omega⟩) dL_holds_387
        · refine g_iload_n K 3 dL_holds_376 rfl ?_
          refine g_iload K 4 dL_holds_377 rfl ?_
          refine g_icmp_ne (tgt := 386) (a := 0) (b := 0) K dL_holds_379 (by decide) (by omega) (by omega) (fun h379 => absurd h379 (by omega)) (fun h379 => ?_)
          refine g_iconst K 1 dL_holds_382 (by decide +kernel) ?_
          refine g_goto (tgt := 387) K dL_holds_383 (by decide) ?_
          exact hret X _ _ 1 _ _ _ _ _ h (by decide) (by decide) (by decide) ⟨by omega, hnd, rfl⟩ (Or.inr ⟨rfl, by omega⟩) dL_holds_387
      · refine g_aload_n K 2 dL_holds_303 rfl ?_
        refine g_iload K 1 dL_holds_304 rfl ?_
        refine g_callUW (As := [.ref (gz_ad (g_z X0) 0), .int (nI (k))]) (rest := []) h (hL_far_n (zy (g_z X0) (gz_ad (g_z X0)) (gz_ex (g_z X0))) S (k) hnd (by omega)) (vx_cwSW 2 K.1.2.2.2.2 gL_holds_L_far rfl rfl rfl (by decide +kernel) ⟨by rw [h.R, hR]; exact Nat.le_of_ble_eq_true rfl, by rw [h.R, hR]; exact Nat.le_of_ble_eq_true rfl⟩) rfl rfl (Nat.le_of_ble_eq_true rfl) dL_holds_306 (by rw [h.R, hR]; exact Nat.le_of_ble_eq_true rfl) (by rw [h.R, hR]; exact Nat.le_of_ble_eq_true rfl) (fun X v7 S w9 hq h => ?_)
        obtain ⟨hv7, hnd, rfl⟩ := hq
        have h : gCx X0 X cL_holds 10 wsL_holds (gz_ad (g_z X0)) (gz_ex (g_z X0)) 1 1 6 := h
        have K := h.2.1
        refine g_if_ge (tgt := 316) (a := v7) K dL_holds_309 (by decide) (by omega) (fun h309 => ?_) (fun h309 => ?_)
        · refine g_iconst K 0 dL_holds_316 (by decide +kernel) ?_
          refine g_aload_n K 2 dL_holds_317 rfl ?_
          refine g_iload K 1 dL_holds_318 rfl ?_
          refine g_callUW (As := [.ref (gz_ad (g_z X0) 0), .int (nI (k))]) (rest := [.int (nI (0))]) h (hL_nodeDry_n (zy (g_z X0) (gz_ad (g_z X0)) (gz_ex (g_z X0))) S (k) hnd (by omega)) (vx_cwSW 2 K.1.2.2.2.2 gL_holds_L_nodeDry rfl rfl rfl (by decide +kernel) ⟨by rw [h.R, hR]; exact Nat.le_of_ble_eq_true rfl, by rw [h.R, hR]; exact Nat.le_of_ble_eq_true rfl⟩) rfl rfl (Nat.le_of_ble_eq_true rfl) dL_holds_320 (by rw [h.R, hR]; exact Nat.le_of_ble_eq_true rfl) (by rw [h.R, hR]; exact Nat.le_of_ble_eq_true rfl) (fun X v9 S w9 hq h => ?_)
          obtain ⟨hv9, hnd, rfl⟩ := hq
          have h : gCx X0 X cL_holds 10 wsL_holds (gz_ad (g_z X0)) (gz_ex (g_z X0)) 1 1 6 := h
          have K := h.2.1
          refine g_iconst K 1 dL_holds_323 (by decide +kernel) ?_
          refine g_icmp_ne (tgt := 331) (a := v9) (b := 1) K dL_holds_324 (by decide) (by omega) (by omega) (fun h324 => ?_) (fun h324 => ?_)
          · refine g_iconst K 0 dL_holds_331 (by decide +kernel) ?_
            refine g_icmp_ne (tgt := 362) (a := 0) (b := 0) K dL_holds_332 (by decide) (by omega) (by omega) (fun h332 => absurd h332 (by omega)) (fun h332 => ?_)
            refine g_aload_n K 2 dL_holds_335 rfl ?_
            refine g_iload K 1 dL_holds_336 rfl ?_
            refine g_callUW (As := [.ref (gz_ad (g_z X0) 0), .int (nI (k))]) (rest := []) h (hL_ofNode_n (zy (g_z X0) (gz_ad (g_z X0)) (gz_ex (g_z X0))) S (k) hnd (by omega)) (vx_cwSW 2 K.1.2.2.2.2 gL_holds_L_ofNode rfl rfl rfl (by decide +kernel) ⟨by rw [h.R, hR]; exact Nat.le_of_ble_eq_true rfl, by rw [h.R, hR]; exact Nat.le_of_ble_eq_true rfl⟩) rfl rfl (Nat.le_of_ble_eq_true rfl) dL_holds_338 (by rw [h.R, hR]; exact Nat.le_of_ble_eq_true rfl) (by rw [h.R, hR]; exact Nat.le_of_ble_eq_true rfl) (fun X v12 S w9 hq h => ?_)
            obtain ⟨hv12, hnd, rfl⟩ := hq
            have h : gCx X0 X cL_holds 10 wsL_holds (gz_ad (g_z X0)) (gz_ex (g_z X0)) 1 1 6 := h
            have K := h.2.1
            refine g_aload_n K 2 dL_holds_341 rfl ?_
            refine g_callVq (As := []) (rest := [.int (nI (v12))]) h (cX5_segments_k (zy (g_z X0) (gz_ad (g_z X0)) (gz_ex (g_z X0))) S hnd.1) (cwV 0 K.1.2.2.2.2 gL_holds_X5_segments rfl rfl rfl (by decide +kernel) ⟨by rw [h.R, hR]; exact Nat.le_of_ble_eq_true rfl, by rw [h.R, hR]; exact Nat.le_of_ble_eq_true rfl⟩) rfl rfl (Nat.le_of_ble_eq_true rfl) dL_holds_342 ?_
            refine g_topM (fun v13 hv13 => ?_)
            refine g_icmp_ge' (tgt := 362) (a := v12) (b := v13) K dL_holds_345 (by decide) (by omega) (by omega) (fun h345 => ?_) (fun h345 => ?_)
            · refine g_iconst K 0 dL_holds_362 (by decide +kernel) ?_
              refine g_istore (lo' := [(4, .int (nI (0))), (6, .int (nI (k))), (0, .ref (gz_ad (g_z X0) 0)), (2, .int (nI (0))), (5, .int (nI (0)))]) K dL_holds_363 (by decide) rfl ?_
              refine g_iinc (a := k) (b := k + 1) (lo' := [(6, .int (nI (k + 1))), (4, .int (nI (0))), (0, .ref (gz_ad (g_z X0) 0)), (2, .int (nI (0))), (5, .int (nI (0)))]) K 1 dL_holds_365 rfl (gi_inc _) (by decide) rfl ?_
              refine g_goto (tgt := 289) K dL_holds_368 (by decide) ?_
              refine g_loc (lo' := [(4, .int (nI (0))), (6, .int (nI (k + 1))), (0, .ref (gz_ad (g_z X0) 0)), (2, .int (nI (0))), (5, .int (nI (0)))]) [1, 0, 2, 3, 4] rfl ?_
              exact ih (k + 1) (0) X S (by omega) (by omega) hnd h
            · refine g_aload_n K 2 dL_holds_348 rfl ?_
              refine g_iload K 1 dL_holds_349 rfl ?_
              refine g_iconst K 0 dL_holds_351 (by decide +kernel) ?_
              refine g_callUW (As := [.ref (gz_ad (g_z X0) 0), .int (nI (k)), .int (nI (0))]) (rest := []) h (hL_walks_n (zy (g_z X0) (gz_ad (g_z X0)) (gz_ex (g_z X0))) S (k) (0) hnd (by omega) rfl) (vx_cwSW 3 K.1.2.2.2.2 gL_holds_L_walks rfl rfl rfl (by decide +kernel) ⟨by rw [h.R, hR]; exact Nat.le_of_ble_eq_true rfl, by rw [h.R, hR]; exact Nat.le_of_ble_eq_true rfl⟩) rfl rfl (Nat.le_of_ble_eq_true rfl) dL_holds_352 (by rw [h.R, hR]; exact Nat.le_of_ble_eq_true rfl) (by rw [h.R, hR]; exact Nat.le_of_ble_eq_true rfl) (fun X v15 S w9 hq h => ?_)
              obtain ⟨hv15, hnd, rfl⟩ := hq
              have h : gCx X0 X cL_holds 10 wsL_holds (gz_ad (g_z X0)) (gz_ex (g_z X0)) 1 1 6 := h
              have K := h.2.1
              refine g_if_ne (tgt := 362) (a := v15) K dL_holds_355 (by decide) (by omega) (fun h355 => ?_) (fun h355 => ?_)
              · refine g_iconst K 0 dL_holds_362 (by decide +kernel) ?_
                refine g_istore (lo' := [(4, .int (nI (0))), (6, .int (nI (k))), (0, .ref (gz_ad (g_z X0) 0)), (2, .int (nI (0))), (5, .int (nI (0)))]) K dL_holds_363 (by decide) rfl ?_
                refine g_iinc (a := k) (b := k + 1) (lo' := [(6, .int (nI (k + 1))), (4, .int (nI (0))), (0, .ref (gz_ad (g_z X0) 0)), (2, .int (nI (0))), (5, .int (nI (0)))]) K 1 dL_holds_365 rfl (gi_inc _) (by decide) rfl ?_
                refine g_goto (tgt := 289) K dL_holds_368 (by decide) ?_
                refine g_loc (lo' := [(4, .int (nI (0))), (6, .int (nI (k + 1))), (0, .ref (gz_ad (g_z X0) 0)), (2, .int (nI (0))), (5, .int (nI (0)))]) [1, 0, 2, 3, 4] rfl ?_
                exact ih (k + 1) (0) X S (by omega) (by omega) hnd h
              · refine g_iconst K 1 dL_holds_358 (by decide +kernel) ?_
                refine g_goto (tgt := 363) K dL_holds_359 (by decide) ?_
                refine g_istore (lo' := [(4, .int (nI (1))), (6, .int (nI (k))), (0, .ref (gz_ad (g_z X0) 0)), (2, .int (nI (0))), (5, .int (nI (0)))]) K dL_holds_363 (by decide) rfl ?_
                refine g_iinc (a := k) (b := k + 1) (lo' := [(6, .int (nI (k + 1))), (4, .int (nI (1))), (0, .ref (gz_ad (g_z X0) 0)), (2, .int (nI (0))), (5, .int (nI (0)))]) K 1 dL_holds_365 rfl (gi_inc _) (by decide) rfl ?_
                refine g_goto (tgt := 289) K dL_holds_368 (by decide) ?_
                refine g_loc (lo' := [(4, .int (nI (1))), (6, .int (nI (k + 1))), (0, .ref (gz_ad (g_z X0) 0)), (2, .int (nI (0))), (5, .int (nI (0)))]) [1, 0, 2, 3, 4] rfl ?_
                exact ih (k + 1) (1) X S (by omega) (by omega) hnd h
          · refine g_iconst K 1 dL_holds_327 (by decide +kernel) ?_
            refine g_goto (tgt := 332) K dL_holds_328 (by decide) ?_
            refine g_icmp_ne (tgt := 362) (a := 0) (b := 1) K dL_holds_332 (by decide) (by omega) (by omega) (fun h332 => ?_) (fun h332 => absurd h332 (by omega))
            refine g_iconst K 0 dL_holds_362 (by decide +kernel) ?_
            refine g_istore (lo' := [(4, .int (nI (0))), (6, .int (nI (k))), (0, .ref (gz_ad (g_z X0) 0)), (2, .int (nI (0))), (5, .int (nI (0)))]) K dL_holds_363 (by decide) rfl ?_
            refine g_iinc (a := k) (b := k + 1) (lo' := [(6, .int (nI (k + 1))), (4, .int (nI (0))), (0, .ref (gz_ad (g_z X0) 0)), (2, .int (nI (0))), (5, .int (nI (0)))]) K 1 dL_holds_365 rfl (gi_inc _) (by decide) rfl ?_
            refine g_goto (tgt := 289) K dL_holds_368 (by decide) ?_
            refine g_loc (lo' := [(4, .int (nI (0))), (6, .int (nI (k + 1))), (0, .ref (gz_ad (g_z X0) 0)), (2, .int (nI (0))), (5, .int (nI (0)))]) [1, 0, 2, 3, 4] rfl ?_
            exact ih (k + 1) (0) X S (by omega) (by omega) hnd h
        · refine g_iconst K 1 dL_holds_312 (by decide +kernel) ?_
          refine g_goto (tgt := 317) K dL_holds_313 (by decide) ?_
          refine g_aload_n K 2 dL_holds_317 rfl ?_
          refine g_iload K 1 dL_holds_318 rfl ?_
          refine g_callUW (As := [.ref (gz_ad (g_z X0) 0), .int (nI (k))]) (rest := [.int (nI (1))]) h (hL_nodeDry_n (zy (g_z X0) (gz_ad (g_z X0)) (gz_ex (g_z X0))) S (k) hnd (by omega)) (vx_cwSW 2 K.1.2.2.2.2 gL_holds_L_nodeDry rfl rfl rfl (by decide +kernel) ⟨by rw [h.R, hR]; exact Nat.le_of_ble_eq_true rfl, by rw [h.R, hR]; exact Nat.le_of_ble_eq_true rfl⟩) rfl rfl (Nat.le_of_ble_eq_true rfl) dL_holds_320 (by rw [h.R, hR]; exact Nat.le_of_ble_eq_true rfl) (by rw [h.R, hR]; exact Nat.le_of_ble_eq_true rfl) (fun X v18 S w9 hq h => ?_)
          obtain ⟨hv18, hnd, rfl⟩ := hq
          have h : gCx X0 X cL_holds 10 wsL_holds (gz_ad (g_z X0)) (gz_ex (g_z X0)) 1 1 6 := h
          have K := h.2.1
          refine g_iconst K 1 dL_holds_323 (by decide +kernel) ?_
          refine g_icmp_ne (tgt := 331) (a := v18) (b := 1) K dL_holds_324 (by decide) (by omega) (by omega) (fun h324 => ?_) (fun h324 => ?_)
          · refine g_iconst K 0 dL_holds_331 (by decide +kernel) ?_
            refine g_icmp_ne (tgt := 362) (a := 1) (b := 0) K dL_holds_332 (by decide) (by omega) (by omega) (fun h332 => ?_) (fun h332 => absurd h332 (by omega))
            refine g_iconst K 0 dL_holds_362 (by decide +kernel) ?_
            refine g_istore (lo' := [(4, .int (nI (0))), (6, .int (nI (k))), (0, .ref (gz_ad (g_z X0) 0)), (2, .int (nI (0))), (5, .int (nI (0)))]) K dL_holds_363 (by decide) rfl ?_
            refine g_iinc (a := k) (b := k + 1) (lo' := [(6, .int (nI (k + 1))), (4, .int (nI (0))), (0, .ref (gz_ad (g_z X0) 0)), (2, .int (nI (0))), (5, .int (nI (0)))]) K 1 dL_holds_365 rfl (gi_inc _) (by decide) rfl ?_
            refine g_goto (tgt := 289) K dL_holds_368 (by decide) ?_
            refine g_loc (lo' := [(4, .int (nI (0))), (6, .int (nI (k + 1))), (0, .ref (gz_ad (g_z X0) 0)), (2, .int (nI (0))), (5, .int (nI (0)))]) [1, 0, 2, 3, 4] rfl ?_
            exact ih (k + 1) (0) X S (by omega) (by omega) hnd h
          · refine g_iconst K 1 dL_holds_327 (by decide +kernel) ?_
            refine g_goto (tgt := 332) K dL_holds_328 (by decide) ?_
            refine g_icmp_ne (tgt := 362) (a := 1) (b := 1) K dL_holds_332 (by decide) (by omega) (by omega) (fun h332 => absurd h332 (by omega)) (fun h332 => ?_)
            refine g_aload_n K 2 dL_holds_335 rfl ?_
            refine g_iload K 1 dL_holds_336 rfl ?_
            refine g_callUW (As := [.ref (gz_ad (g_z X0) 0), .int (nI (k))]) (rest := []) h (hL_ofNode_n (zy (g_z X0) (gz_ad (g_z X0)) (gz_ex (g_z X0))) S (k) hnd (by omega)) (vx_cwSW 2 K.1.2.2.2.2 gL_holds_L_ofNode rfl rfl rfl (by decide +kernel) ⟨by rw [h.R, hR]; exact Nat.le_of_ble_eq_true rfl, by rw [h.R, hR]; exact Nat.le_of_ble_eq_true rfl⟩) rfl rfl (Nat.le_of_ble_eq_true rfl) dL_holds_338 (by rw [h.R, hR]; exact Nat.le_of_ble_eq_true rfl) (by rw [h.R, hR]; exact Nat.le_of_ble_eq_true rfl) (fun X v22 S w9 hq h => ?_)
            obtain ⟨hv22, hnd, rfl⟩ := hq
            have h : gCx X0 X cL_holds 10 wsL_holds (gz_ad (g_z X0)) (gz_ex (g_z X0)) 1 1 6 := h
            have K := h.2.1
            refine g_aload_n K 2 dL_holds_341 rfl ?_
            refine g_callVq (As := []) (rest := [.int (nI (v22))]) h (cX5_segments_k (zy (g_z X0) (gz_ad (g_z X0)) (gz_ex (g_z X0))) S hnd.1) (cwV 0 K.1.2.2.2.2 gL_holds_X5_segments rfl rfl rfl (by decide +kernel) ⟨by rw [h.R, hR]; exact Nat.le_of_ble_eq_true rfl, by rw [h.R, hR]; exact Nat.le_of_ble_eq_true rfl⟩) rfl rfl (Nat.le_of_ble_eq_true rfl) dL_holds_342 ?_
            refine g_topM (fun v23 hv23 => ?_)
            refine g_icmp_ge' (tgt := 362) (a := v22) (b := v23) K dL_holds_345 (by decide) (by omega) (by omega) (fun h345 => ?_) (fun h345 => ?_)
            · refine g_iconst K 0 dL_holds_362 (by decide +kernel) ?_
              refine g_istore (lo' := [(4, .int (nI (0))), (6, .int (nI (k))), (0, .ref (gz_ad (g_z X0) 0)), (2, .int (nI (0))), (5, .int (nI (0)))]) K dL_holds_363 (by decide) rfl ?_
              refine g_iinc (a := k) (b := k + 1) (lo' := [(6, .int (nI (k + 1))), (4, .int (nI (0))), (0, .ref (gz_ad (g_z X0) 0)), (2, .int (nI (0))), (5, .int (nI (0)))]) K 1 dL_holds_365 rfl (gi_inc _) (by decide) rfl ?_
              refine g_goto (tgt := 289) K dL_holds_368 (by decide) ?_
              refine g_loc (lo' := [(4, .int (nI (0))), (6, .int (nI (k + 1))), (0, .ref (gz_ad (g_z X0) 0)), (2, .int (nI (0))), (5, .int (nI (0)))]) [1, 0, 2, 3, 4] rfl ?_
              exact ih (k + 1) (0) X S (by omega) (by omega) hnd h
            · refine g_aload_n K 2 dL_holds_348 rfl ?_
              refine g_iload K 1 dL_holds_349 rfl ?_
              refine g_iconst K 0 dL_holds_351 (by decide +kernel) ?_
              refine g_callUW (As := [.ref (gz_ad (g_z X0) 0), .int (nI (k)), .int (nI (0))]) (rest := []) h (hL_walks_n (zy (g_z X0) (gz_ad (g_z X0)) (gz_ex (g_z X0))) S (k) (0) hnd (by omega) rfl) (vx_cwSW 3 K.1.2.2.2.2 gL_holds_L_walks rfl rfl rfl (by decide +kernel) ⟨by rw [h.R, hR]; exact Nat.le_of_ble_eq_true rfl, by rw [h.R, hR]; exact Nat.le_of_ble_eq_true rfl⟩) rfl rfl (Nat.le_of_ble_eq_true rfl) dL_holds_352 (by rw [h.R, hR]; exact Nat.le_of_ble_eq_true rfl) (by rw [h.R, hR]; exact Nat.le_of_ble_eq_true rfl) (fun X v25 S w9 hq h => ?_)
              obtain ⟨hv25, hnd, rfl⟩ := hq
              have h : gCx X0 X cL_holds 10 wsL_holds (gz_ad (g_z X0)) (gz_ex (g_z X0)) 1 1 6 := h
              have K := h.2.1
              refine g_if_ne (tgt := 362) (a := v25) K dL_holds_355 (by decide) (by omega) (fun h355 => ?_) (fun h355 => ?_)
              · refine g_iconst K 0 dL_holds_362 (by decide +kernel) ?_
                refine g_istore (lo' := [(4, .int (nI (0))), (6, .int (nI (k))), (0, .ref (gz_ad (g_z X0) 0)), (2, .int (nI (0))), (5, .int (nI (0)))]) K dL_holds_363 (by decide) rfl ?_
                refine g_iinc (a := k) (b := k + 1) (lo' := [(6, .int (nI (k + 1))), (4, .int (nI (0))), (0, .ref (gz_ad (g_z X0) 0)), (2, .int (nI (0))), (5, .int (nI (0)))]) K 1 dL_holds_365 rfl (gi_inc _) (by decide) rfl ?_
                refine g_goto (tgt := 289) K dL_holds_368 (by decide) ?_
                refine g_loc (lo' := [(4, .int (nI (0))), (6, .int (nI (k + 1))), (0, .ref (gz_ad (g_z X0) 0)), (2, .int (nI (0))), (5, .int (nI (0)))]) [1, 0, 2, 3, 4] rfl ?_
                exact ih (k + 1) (0) X S (by omega) (by omega) hnd h
              · refine g_iconst K 1 dL_holds_358 (by decide +kernel) ?_
                refine g_goto (tgt := 363) K dL_holds_359 (by decide) ?_
                refine g_istore (lo' := [(4, .int (nI (1))), (6, .int (nI (k))), (0, .ref (gz_ad (g_z X0) 0)), (2, .int (nI (0))), (5, .int (nI (0)))]) K dL_holds_363 (by decide) rfl ?_
                refine g_iinc (a := k) (b := k + 1) (lo' := [(6, .int (nI (k + 1))), (4, .int (nI (1))), (0, .ref (gz_ad (g_z X0) 0)), (2, .int (nI (0))), (5, .int (nI (0)))]) K 1 dL_holds_365 rfl (gi_inc _) (by decide) rfl ?_
                refine g_goto (tgt := 289) K dL_holds_368 (by decide) ?_
                refine g_loc (lo' := [(4, .int (nI (1))), (6, .int (nI (k + 1))), (0, .ref (gz_ad (g_z X0) 0)), (2, .int (nI (0))), (5, .int (nI (0)))]) [1, 0, 2, 3, 4] rfl ?_
                exact ih (k + 1) (1) X S (by omega) (by omega) hnd h

set_option maxHeartbeats 4000000 in
set_option maxRecDepth 100000 in
theorem holds_c (Z : gZ) (S : Nat → Nat → Nat) {n : Nat} (pa : Nat) (hnd : nd S n) (hl0 : (gz_l Z).stackTraces = false) : gMu Z yL_holds wsL_holds rmH [.ref (gz_ad Z 0), .ref pa] S (fun v S1 w => v ≤ 1 ∧ nd S1 n ∧ w = gz_ex Z) 1 6 0 := by
  refine gMu_of (cc := cL_holds) (maxL := 10) (ret := some .boolean) (by decide +kernel) rfl rfl (Nat.le_of_ble_eq_true rfl) (fun X0 hZ hR h hret => ?_)
  subst hZ
  have K := h.2.1
  have hn12 := hnd.1.1
  have he0 := hnd.2.1
  have hn9 : n ≤ 12 := by omega
  show gG X0 0 [(0, .ref (gz_ad (g_z X0) 0)), (1, .ref (pa))] [] S
  refine g_iconst K 0 dL_holds_0 (by decide +kernel) ?_
  refine g_istore_n (lo' := [(2, .int (nI (0))), (0, .ref (gz_ad (g_z X0) 0)), (1, .ref (pa))]) K dL_holds_1 (by decide) rfl ?_
  refine g_iconst K 4294967295 dL_holds_2 (by decide +kernel) ?_
  refine g_istore_n (lo' := [(3, .int (nI (4294967295))), (2, .int (nI (0))), (0, .ref (gz_ad (g_z X0) 0)), (1, .ref (pa))]) K dL_holds_3 (by decide) rfl ?_
  refine g_aload_n K 2 dL_holds_4 rfl ?_
  refine g_callVq (As := []) (rest := []) h (cX5_segments_k (zy (g_z X0) (gz_ad (g_z X0)) (gz_ex (g_z X0))) S hnd.1) (cwV 0 K.1.2.2.2.2 gL_holds_X5_segments rfl rfl rfl (by decide +kernel) ⟨by rw [h.R, hR]; exact Nat.le_of_ble_eq_true rfl, by rw [h.R, hR]; exact Nat.le_of_ble_eq_true rfl⟩) rfl rfl (Nat.le_of_ble_eq_true rfl) dL_holds_5 ?_
  refine g_topM (fun v1 hv1 => ?_)
  refine g_aload_n K 2 dL_holds_8 rfl ?_
  refine g_callVq (As := []) (rest := [.int (nI (v1))]) h (cX5_nodes_k (zy (g_z X0) (gz_ad (g_z X0)) (gz_ex (g_z X0))) S) (cwV 0 K.1.2.2.2.2 gL_holds_X5_nodes rfl rfl rfl (by decide +kernel) ⟨by rw [h.R, hR]; exact Nat.le_of_ble_eq_true rfl, by rw [h.R, hR]; exact Nat.le_of_ble_eq_true rfl⟩) rfl rfl (Nat.le_of_ble_eq_true rfl) dL_holds_9 ?_
  refine g_topE (n) hnd.2.1 ?_
  refine g_aload_n K 2 dL_holds_12 rfl ?_
  refine g_callVq (As := []) (rest := [.int (nI (n)), .int (nI (v1))]) h (cX5_pipes_k (zy (g_z X0) (gz_ad (g_z X0)) (gz_ex (g_z X0))) S) (cwV 0 K.1.2.2.2.2 gL_holds_X5_pipes rfl rfl rfl (by decide +kernel) ⟨by rw [h.R, hR]; exact Nat.le_of_ble_eq_true rfl, by rw [h.R, hR]; exact Nat.le_of_ble_eq_true rfl⟩) rfl rfl (Nat.le_of_ble_eq_true rfl) dL_holds_13 ?_
  refine g_topE (0) hnd.2.2.1 ?_
  refine g_iadd (a := n) (b := 0) K dL_holds_16 ?_
  refine g_icmp_gt' (tgt := 24) (a := v1) (b := (n) + (0)) K dL_holds_17 (by decide) (by omega) (by omega) (fun h17 => ?_) (fun h17 => ?_)
  · refine g_iconst K 0 dL_holds_24 (by decide +kernel) ?_
    refine g_istore (lo' := [(4, .int (nI (0))), (3, .int (nI (4294967295))), (2, .int (nI (0))), (0, .ref (gz_ad (g_z X0) 0)), (1, .ref (pa))]) K dL_holds_25 (by decide) rfl ?_
    refine g_aload_n K 3 dL_holds_27 rfl ?_
    refine g_iload_n K 2 dL_holds_28 rfl ?_
    refine g_callUW (As := [.ref (gz_ad (g_z X0) 0), .int (nI (0))]) (rest := []) h (hL_flush_x1 (zy (g_z X0) (gz_ad (g_z X0)) (gz_ex (g_z X0))) S (0) hnd hl0 (by omega)) (vx_cwSW 2 K.1.2.2.2.2 gL_holds_L_flush rfl rfl rfl (by decide +kernel) ⟨by rw [h.R, hR]; exact Nat.le_of_ble_eq_true rfl, by rw [h.R, hR]; exact Nat.le_of_ble_eq_true rfl⟩) rfl rfl (Nat.le_of_ble_eq_true rfl) dL_holds_29 (by rw [h.R, hR]; exact Nat.le_of_ble_eq_true rfl) (by rw [h.R, hR]; exact Nat.le_of_ble_eq_true rfl) (fun X v S w9 hq h => ?_)
    obtain ⟨rfl, hnd, rfl⟩ := hq
    have h : gCx X0 X cL_holds 10 wsL_holds (gz_ad (g_z X0)) (gz_ex (g_z X0)) 1 1 6 := h
    have K := h.2.1
    refine g_if_lt (tgt := 47) (a := 2294967295) K dL_holds_32 (by decide) (by omega) (fun h32 => ?_) (fun h32 => absurd h32 (by omega))
    refine g_iconst K 0 dL_holds_47 (by decide +kernel) ?_
    refine g_istore (lo' := [(5, .int (nI (0))), (4, .int (nI (0))), (3, .int (nI (4294967295))), (2, .int (nI (0))), (0, .ref (gz_ad (g_z X0) 0)), (1, .ref (pa))]) K dL_holds_48 (by decide) rfl ?_
    refine g_iconst K 0 dL_holds_50 (by decide +kernel) ?_
    refine g_istore (lo' := [(6, .int (nI (0))), (5, .int (nI (0))), (4, .int (nI (0))), (3, .int (nI (4294967295))), (2, .int (nI (0))), (0, .ref (gz_ad (g_z X0) 0)), (1, .ref (pa))]) K dL_holds_51 (by decide) rfl ?_
    refine g_iload K 0 dL_holds_53 rfl ?_
    refine g_aload_n K 5 dL_holds_55 rfl ?_
    refine g_callVq (As := []) (rest := [.int (nI (0))]) h (cX5_pipes_k (zy (g_z X0) (gz_ad (g_z X0)) (gz_ex (g_z X0))) S) (cwV 0 K.1.2.2.2.2 gL_holds_X5_pipes rfl rfl rfl (by decide +kernel) ⟨by rw [h.R, hR]; exact Nat.le_of_ble_eq_true rfl, by rw [h.R, hR]; exact Nat.le_of_ble_eq_true rfl⟩) rfl rfl (Nat.le_of_ble_eq_true rfl) dL_holds_56 ?_
    refine g_topE (0) hnd.2.2.1 ?_
    refine g_icmp_ge (tgt := 180) (a := 0) (b := 0) K dL_holds_59 (by decide) (by omega) (by omega) (fun h59 => ?_) (fun h59 => absurd h59 (by omega))
    refine g_iconst K 0 dL_holds_180 (by decide +kernel) ?_
    refine g_istore (lo' := [(6, .int (nI (0))), (5, .int (nI (0))), (4, .int (nI (0))), (3, .int (nI (4294967295))), (2, .int (nI (0))), (0, .ref (gz_ad (g_z X0) 0)), (1, .ref (pa))]) K dL_holds_181 (by decide) rfl ?_
    refine g_iload K 0 dL_holds_183 rfl ?_
    refine g_iload_n K 4 dL_holds_185 rfl ?_
    refine g_icmp_ge (tgt := 286) (a := 0) (b := 0) K dL_holds_186 (by decide) (by omega) (by omega) (fun h186 => ?_) (fun h186 => absurd h186 (by omega))
    refine g_iconst K 0 dL_holds_286 (by decide +kernel) ?_
    refine g_istore (lo' := [(6, .int (nI (0))), (5, .int (nI (0))), (4, .int (nI (0))), (3, .int (nI (4294967295))), (2, .int (nI (0))), (0, .ref (gz_ad (g_z X0) 0)), (1, .ref (pa))]) K dL_holds_287 (by decide) rfl ?_
    refine g_loc (lo' := [(4, .int (nI (0))), (6, .int (nI (0))), (0, .ref (gz_ad (g_z X0) 0)), (2, .int (nI (0))), (5, .int (nI (0)))]) [2, 0, 5, 4, 1] rfl ?_
    exact holds_l hR hret n 0 (0) X S (by omega) (by decide) hnd h
  · refine g_iconst K 1 dL_holds_20 (by decide +kernel) ?_
    refine g_goto (tgt := 25) K dL_holds_21 (by decide) ?_
    refine g_istore (lo' := [(4, .int (nI (1))), (3, .int (nI (4294967295))), (2, .int (nI (0))), (0, .ref (gz_ad (g_z X0) 0)), (1, .ref (pa))]) K dL_holds_25 (by decide) rfl ?_
    refine g_aload_n K 3 dL_holds_27 rfl ?_
    refine g_iload_n K 2 dL_holds_28 rfl ?_
    refine g_callUW (As := [.ref (gz_ad (g_z X0) 0), .int (nI (0))]) (rest := []) h (hL_flush_x1 (zy (g_z X0) (gz_ad (g_z X0)) (gz_ex (g_z X0))) S (0) hnd hl0 (by omega)) (vx_cwSW 2 K.1.2.2.2.2 gL_holds_L_flush rfl rfl rfl (by decide +kernel) ⟨by rw [h.R, hR]; exact Nat.le_of_ble_eq_true rfl, by rw [h.R, hR]; exact Nat.le_of_ble_eq_true rfl⟩) rfl rfl (Nat.le_of_ble_eq_true rfl) dL_holds_29 (by rw [h.R, hR]; exact Nat.le_of_ble_eq_true rfl) (by rw [h.R, hR]; exact Nat.le_of_ble_eq_true rfl) (fun X v S w9 hq h => ?_)
    obtain ⟨rfl, hnd, rfl⟩ := hq
    have h : gCx X0 X cL_holds 10 wsL_holds (gz_ad (g_z X0)) (gz_ex (g_z X0)) 1 1 6 := h
    have K := h.2.1
    refine g_if_lt (tgt := 47) (a := 2294967295) K dL_holds_32 (by decide) (by omega) (fun h32 => ?_) (fun h32 => absurd h32 (by omega))
    refine g_iconst K 0 dL_holds_47 (by decide +kernel) ?_
    refine g_istore (lo' := [(5, .int (nI (0))), (4, .int (nI (1))), (3, .int (nI (4294967295))), (2, .int (nI (0))), (0, .ref (gz_ad (g_z X0) 0)), (1, .ref (pa))]) K dL_holds_48 (by decide) rfl ?_
    refine g_iconst K 0 dL_holds_50 (by decide +kernel) ?_
    refine g_istore (lo' := [(6, .int (nI (0))), (5, .int (nI (0))), (4, .int (nI (1))), (3, .int (nI (4294967295))), (2, .int (nI (0))), (0, .ref (gz_ad (g_z X0) 0)), (1, .ref (pa))]) K dL_holds_51 (by decide) rfl ?_
    refine g_iload K 0 dL_holds_53 rfl ?_
    refine g_aload_n K 5 dL_holds_55 rfl ?_
    refine g_callVq (As := []) (rest := [.int (nI (0))]) h (cX5_pipes_k (zy (g_z X0) (gz_ad (g_z X0)) (gz_ex (g_z X0))) S) (cwV 0 K.1.2.2.2.2 gL_holds_X5_pipes rfl rfl rfl (by decide +kernel) ⟨by rw [h.R, hR]; exact Nat.le_of_ble_eq_true rfl, by rw [h.R, hR]; exact Nat.le_of_ble_eq_true rfl⟩) rfl rfl (Nat.le_of_ble_eq_true rfl) dL_holds_56 ?_
    refine g_topE (0) hnd.2.2.1 ?_
    refine g_icmp_ge (tgt := 180) (a := 0) (b := 0) K dL_holds_59 (by decide) (by omega) (by omega) (fun h59 => ?_) (fun h59 => absurd h59 (by omega))
    refine g_iconst K 0 dL_holds_180 (by decide +kernel) ?_
    refine g_istore (lo' := [(6, .int (nI (0))), (5, .int (nI (0))), (4, .int (nI (1))), (3, .int (nI (4294967295))), (2, .int (nI (0))), (0, .ref (gz_ad (g_z X0) 0)), (1, .ref (pa))]) K dL_holds_181 (by decide) rfl ?_
    refine g_iload K 0 dL_holds_183 rfl ?_
    refine g_iload_n K 4 dL_holds_185 rfl ?_
    refine g_icmp_ge (tgt := 286) (a := 0) (b := 0) K dL_holds_186 (by decide) (by omega) (by omega) (fun h186 => ?_) (fun h186 => absurd h186 (by omega))
    refine g_iconst K 0 dL_holds_286 (by decide +kernel) ?_
    refine g_istore (lo' := [(6, .int (nI (0))), (5, .int (nI (0))), (4, .int (nI (1))), (3, .int (nI (4294967295))), (2, .int (nI (0))), (0, .ref (gz_ad (g_z X0) 0)), (1, .ref (pa))]) K dL_holds_287 (by decide) rfl ?_
    refine g_loc (lo' := [(4, .int (nI (1))), (6, .int (nI (0))), (0, .ref (gz_ad (g_z X0) 0)), (2, .int (nI (0))), (5, .int (nI (0)))]) [2, 0, 5, 4, 1] rfl ?_
    exact holds_l hR hret n 0 (1) X S (by omega) (by decide) hnd h

