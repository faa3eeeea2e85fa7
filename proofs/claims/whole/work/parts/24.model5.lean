set_option maxHeartbeats 4000000 in
set_option maxRecDepth 100000 in
theorem cX6_walk_r1 (Z : gZ) (S : Nat → Nat → Nat) (n a : Nat) (hm : wfM S) (hun : n < 4294967296) (hua : a < 4294967296) (hn : S 22 1 ≤ n) : gMd Z yX6_walk wsX6_walk { frames := 2, cells := 0, slots := 0, locals := 43 } [.ref (gz_ad Z 22), .int (nI (n)), .int (nI (a))] S (0) (va_up S 22 (va_up (S 22) 0 (1))) := by
  refine gMd_of (cc := cX6_walk) (maxL := 9) (ret := (some .int)) (by decide +kernel) rfl (Nat.le_of_ble_eq_true rfl) (Or.inl rfl) (fun X hZ hR K hret => ?_)
  subst hZ
  have K : gOk X cX6_walk 9 wsX6_walk RX6 := K
  have hRf : 2 ≤ (g_R X).frames := gR_f hR rfl
  have hRl : 43 ≤ (g_R X).locals := gR_l hR rfl
  have hin6 : ∀ w ∈ u_ws RX6 TX6 17, w ∈ wsX6_walk := by decide +kernel
  obtain ⟨m1, m2, m3, m4, msh, mst, b23, b24, b25, b26, b27⟩ := id hm
  show gG X 0 [(0, .ref (g_ad X 22)), (1, .int (nI (n))), (2, .int (nI (a)))] [] S
  have hsv : 1 <<< S 22 3 ≤ 4096 := shl1_le (n := 12) (by omega)
  refine g_iload_n K 2 dX6_walk_0 rfl ?_
  refine g_if_lt (tgt := 27) (a := a) K dX6_walk_1 (by decide) (by omega) (fun h1_1 => ?_) (fun h1_1 => ?_)
  · refine g_iconst K 0 dX6_walk_27 (by decide +kernel) ?_
    refine g_istore_n (lo' := [(3, .int (nI (0))), (0, .ref (g_ad X 22)), (1, .int (nI (n))), (2, .int (nI (a)))]) K dX6_walk_28 (by decide) rfl ?_
    refine g_aload_n K 1 dX6_walk_29 rfl ?_
    refine g_aload_n K 1 dX6_walk_30 rfl ?_
    refine g_iload_n K 2 dX6_walk_31 rfl ?_
    refine g_callVd (q := 22) (ci := 6) (As := [.int (nI (n))]) (rest := [.ref (g_ad X 22)]) (C := RX6) (T := TX6) (N := 17) K (cX6_isNode_k (g_z X) S n (hm) (by omega)) (cwV 1 K.1.2.2.2.2 gX6_walk_X6_isNode rfl rfl rfl (by decide +kernel) ⟨Nat.le_trans (Nat.le_of_ble_eq_true rfl) hRf, Nat.le_trans (Nat.le_of_ble_eq_true rfl) hRl⟩) rfl rfl rfl rfl (Nat.le_of_ble_eq_true rfl) dX6_walk_32 ?_
    have hf32_2 := isN_spec (S 22 1) n
    refine g_if_ne (tgt := 42) (a := isN (S 22 1) n) K dX6_walk_35 (by decide) (by omega) (fun h35_3 => ?_) (fun h35_3 => ?_)
    · refine g_iload_n K 0 dX6_walk_42 rfl ?_
      refine g_if_eq (tgt := 50) (a := 0) K dX6_walk_43 (by decide) (by omega) (fun h43_4 => ?_) (fun h43_4 => absurd h43_4 (by omega))
      refine g_iconst K 2 dX6_walk_50 (by decide +kernel) ?_
      refine g_callVd (q := 22) (ci := 6) (As := [.int (nI (2))]) (rest := []) (C := RX6) (T := TX6) (N := 17) K (cX6_refused_k (g_z X) S 2 (by omega)) (cwV 1 K.1.2.2.2.2 gX6_walk_X6_refused rfl rfl rfl (by decide +kernel) ⟨Nat.le_trans (Nat.le_of_ble_eq_true rfl) hRf, Nat.le_trans (Nat.le_of_ble_eq_true rfl) hRl⟩) rfl rfl rfl rfl (Nat.le_of_ble_eq_true rfl) dX6_walk_51 ?_
      refine g_cast (S' := (va_up S 22 (va_up (S 22) 0 (2)))) rfl rfl rfl ?_
      refine g_if_eq (tgt := 59) (a := 1) K dX6_walk_54 (by decide) (by omega) (fun h54_5 => absurd h54_5 (by omega)) (fun h54_5 => ?_)
      refine g_iconst K 0 dX6_walk_57 (by decide +kernel) ?_
      exfalso; omega
    · refine g_iconst K 1 dX6_walk_38 (by decide +kernel) ?_
      refine g_goto (tgt := 51) K dX6_walk_39 (by decide) ?_
      refine g_callVd (q := 22) (ci := 6) (As := [.int (nI (1))]) (rest := []) (C := RX6) (T := TX6) (N := 17) K (cX6_refused_k (g_z X) S 1 (by omega)) (cwV 1 K.1.2.2.2.2 gX6_walk_X6_refused rfl rfl rfl (by decide +kernel) ⟨Nat.le_trans (Nat.le_of_ble_eq_true rfl) hRf, Nat.le_trans (Nat.le_of_ble_eq_true rfl) hRl⟩) rfl rfl rfl rfl (Nat.le_of_ble_eq_true rfl) dX6_walk_51 ?_
      refine g_cast (S' := (va_up S 22 (va_up (S 22) 0 (1)))) rfl rfl rfl ?_
      refine g_if_eq (tgt := 59) (a := 1) K dX6_walk_54 (by decide) (by omega) (fun h54_6 => absurd h54_6 (by omega)) (fun h54_6 => ?_)
      refine g_iconst K 0 dX6_walk_57 (by decide +kernel) ?_
      exact g_retd hret dX6_walk_58 rfl rfl
  · refine g_iload_n K 2 dX6_walk_4 rfl ?_
    refine g_iconst K 1 dX6_walk_5 (by decide +kernel) ?_
    refine g_aload_n K 0 dX6_walk_6 rfl ?_
    refine g_getI (q := 22) (ci := 6) (k := 3) (N := 17) (C := RX6) (T := TX6) (ref := "ValveWalkModel") K rfl rfl rfl (by decide) hin6 (by decide +kernel) rfl dX6_walk_7 ?_
    refine g_ishl (a := 1) (b := S 22 3) K (by omega) dX6_walk_10 ?_
    refine g_icmp_ge (tgt := 27) (a := a) (b := (1) <<< (S 22 3)) K dX6_walk_11 (by decide) (by omega) (by omega) (fun h11_7 => ?_) (fun h11_7 => ?_)
    · refine g_iconst K 0 dX6_walk_27 (by decide +kernel) ?_
      refine g_istore_n (lo' := [(3, .int (nI (0))), (0, .ref (g_ad X 22)), (1, .int (nI (n))), (2, .int (nI (a)))]) K dX6_walk_28 (by decide) rfl ?_
      refine g_aload_n K 1 dX6_walk_29 rfl ?_
      refine g_aload_n K 1 dX6_walk_30 rfl ?_
      refine g_iload_n K 2 dX6_walk_31 rfl ?_
      refine g_callVd (q := 22) (ci := 6) (As := [.int (nI (n))]) (rest := [.ref (g_ad X 22)]) (C := RX6) (T := TX6) (N := 17) K (cX6_isNode_k (g_z X) S n (hm) (by omega)) (cwV 1 K.1.2.2.2.2 gX6_walk_X6_isNode rfl rfl rfl (by decide +kernel) ⟨Nat.le_trans (Nat.le_of_ble_eq_true rfl) hRf, Nat.le_trans (Nat.le_of_ble_eq_true rfl) hRl⟩) rfl rfl rfl rfl (Nat.le_of_ble_eq_true rfl) dX6_walk_32 ?_
      have hf32_8 := isN_spec (S 22 1) n
      refine g_if_ne (tgt := 42) (a := isN (S 22 1) n) K dX6_walk_35 (by decide) (by omega) (fun h35_9 => ?_) (fun h35_9 => ?_)
      · refine g_iload_n K 0 dX6_walk_42 rfl ?_
        refine g_if_eq (tgt := 50) (a := 0) K dX6_walk_43 (by decide) (by omega) (fun h43_10 => ?_) (fun h43_10 => absurd h43_10 (by omega))
        refine g_iconst K 2 dX6_walk_50 (by decide +kernel) ?_
        refine g_callVd (q := 22) (ci := 6) (As := [.int (nI (2))]) (rest := []) (C := RX6) (T := TX6) (N := 17) K (cX6_refused_k (g_z X) S 2 (by omega)) (cwV 1 K.1.2.2.2.2 gX6_walk_X6_refused rfl rfl rfl (by decide +kernel) ⟨Nat.le_trans (Nat.le_of_ble_eq_true rfl) hRf, Nat.le_trans (Nat.le_of_ble_eq_true rfl) hRl⟩) rfl rfl rfl rfl (Nat.le_of_ble_eq_true rfl) dX6_walk_51 ?_
        refine g_cast (S' := (va_up S 22 (va_up (S 22) 0 (2)))) rfl rfl rfl ?_
        refine g_if_eq (tgt := 59) (a := 1) K dX6_walk_54 (by decide) (by omega) (fun h54_11 => absurd h54_11 (by omega)) (fun h54_11 => ?_)
        refine g_iconst K 0 dX6_walk_57 (by decide +kernel) ?_
        exfalso; omega
      · refine g_iconst K 1 dX6_walk_38 (by decide +kernel) ?_
        refine g_goto (tgt := 51) K dX6_walk_39 (by decide) ?_
        refine g_callVd (q := 22) (ci := 6) (As := [.int (nI (1))]) (rest := []) (C := RX6) (T := TX6) (N := 17) K (cX6_refused_k (g_z X) S 1 (by omega)) (cwV 1 K.1.2.2.2.2 gX6_walk_X6_refused rfl rfl rfl (by decide +kernel) ⟨Nat.le_trans (Nat.le_of_ble_eq_true rfl) hRf, Nat.le_trans (Nat.le_of_ble_eq_true rfl) hRl⟩) rfl rfl rfl rfl (Nat.le_of_ble_eq_true rfl) dX6_walk_51 ?_
        refine g_cast (S' := (va_up S 22 (va_up (S 22) 0 (1)))) rfl rfl rfl ?_
        refine g_if_eq (tgt := 59) (a := 1) K dX6_walk_54 (by decide) (by omega) (fun h54_12 => absurd h54_12 (by omega)) (fun h54_12 => ?_)
        refine g_iconst K 0 dX6_walk_57 (by decide +kernel) ?_
        exact g_retd hret dX6_walk_58 rfl rfl
    · refine g_iload_n K 2 dX6_walk_14 rfl ?_
      refine g_callSd (As := [.int (nI (a))]) (rest := []) K (cX6_bits_k (g_z X) S a (by omega)) (va_cwS 1 K.1.2.2.2.2 gX6_walk_X6_bits rfl rfl rfl (by decide +kernel) ⟨Nat.le_trans (Nat.le_of_ble_eq_true rfl) hRf, Nat.le_trans (Nat.le_of_ble_eq_true rfl) hRl⟩) rfl rfl (Nat.le_of_ble_eq_true rfl) dX6_walk_15 ?_
      have hf15_13 := popM_le a
      refine g_bipush K 6 dX6_walk_18 (by decide +kernel) ?_
      refine g_icmp_gt (tgt := 27) (a := popM a) (b := 6) K dX6_walk_20 (by decide) (by omega) (by omega) (fun h20_14 => ?_) (fun h20_14 => ?_)
      · refine g_iconst K 0 dX6_walk_27 (by decide +kernel) ?_
        refine g_istore_n (lo' := [(3, .int (nI (0))), (0, .ref (g_ad X 22)), (1, .int (nI (n))), (2, .int (nI (a)))]) K dX6_walk_28 (by decide) rfl ?_
        refine g_aload_n K 1 dX6_walk_29 rfl ?_
        refine g_aload_n K 1 dX6_walk_30 rfl ?_
        refine g_iload_n K 2 dX6_walk_31 rfl ?_
        refine g_callVd (q := 22) (ci := 6) (As := [.int (nI (n))]) (rest := [.ref (g_ad X 22)]) (C := RX6) (T := TX6) (N := 17) K (cX6_isNode_k (g_z X) S n (hm) (by omega)) (cwV 1 K.1.2.2.2.2 gX6_walk_X6_isNode rfl rfl rfl (by decide +kernel) ⟨Nat.le_trans (Nat.le_of_ble_eq_true rfl) hRf, Nat.le_trans (Nat.le_of_ble_eq_true rfl) hRl⟩) rfl rfl rfl rfl (Nat.le_of_ble_eq_true rfl) dX6_walk_32 ?_
        have hf32_15 := isN_spec (S 22 1) n
        refine g_if_ne (tgt := 42) (a := isN (S 22 1) n) K dX6_walk_35 (by decide) (by omega) (fun h35_16 => ?_) (fun h35_16 => ?_)
        · refine g_iload_n K 0 dX6_walk_42 rfl ?_
          refine g_if_eq (tgt := 50) (a := 0) K dX6_walk_43 (by decide) (by omega) (fun h43_17 => ?_) (fun h43_17 => absurd h43_17 (by omega))
          refine g_iconst K 2 dX6_walk_50 (by decide +kernel) ?_
          refine g_callVd (q := 22) (ci := 6) (As := [.int (nI (2))]) (rest := []) (C := RX6) (T := TX6) (N := 17) K (cX6_refused_k (g_z X) S 2 (by omega)) (cwV 1 K.1.2.2.2.2 gX6_walk_X6_refused rfl rfl rfl (by decide +kernel) ⟨Nat.le_trans (Nat.le_of_ble_eq_true rfl) hRf, Nat.le_trans (Nat.le_of_ble_eq_true rfl) hRl⟩) rfl rfl rfl rfl (Nat.le_of_ble_eq_true rfl) dX6_walk_51 ?_
          refine g_cast (S' := (va_up S 22 (va_up (S 22) 0 (2)))) rfl rfl rfl ?_
          refine g_if_eq (tgt := 59) (a := 1) K dX6_walk_54 (by decide) (by omega) (fun h54_18 => absurd h54_18 (by omega)) (fun h54_18 => ?_)
          refine g_iconst K 0 dX6_walk_57 (by decide +kernel) ?_
          exfalso; omega
        · refine g_iconst K 1 dX6_walk_38 (by decide +kernel) ?_
          refine g_goto (tgt := 51) K dX6_walk_39 (by decide) ?_
          refine g_callVd (q := 22) (ci := 6) (As := [.int (nI (1))]) (rest := []) (C := RX6) (T := TX6) (N := 17) K (cX6_refused_k (g_z X) S 1 (by omega)) (cwV 1 K.1.2.2.2.2 gX6_walk_X6_refused rfl rfl rfl (by decide +kernel) ⟨Nat.le_trans (Nat.le_of_ble_eq_true rfl) hRf, Nat.le_trans (Nat.le_of_ble_eq_true rfl) hRl⟩) rfl rfl rfl rfl (Nat.le_of_ble_eq_true rfl) dX6_walk_51 ?_
          refine g_cast (S' := (va_up S 22 (va_up (S 22) 0 (1)))) rfl rfl rfl ?_
          refine g_if_eq (tgt := 59) (a := 1) K dX6_walk_54 (by decide) (by omega) (fun h54_19 => absurd h54_19 (by omega)) (fun h54_19 => ?_)
          refine g_iconst K 0 dX6_walk_57 (by decide +kernel) ?_
          exact g_retd hret dX6_walk_58 rfl rfl
      · refine g_iconst K 1 dX6_walk_23 (by decide +kernel) ?_
        refine g_goto (tgt := 28) K dX6_walk_24 (by decide) ?_
        refine g_istore_n (lo' := [(3, .int (nI (1))), (0, .ref (g_ad X 22)), (1, .int (nI (n))), (2, .int (nI (a)))]) K dX6_walk_28 (by decide) rfl ?_
        refine g_aload_n K 1 dX6_walk_29 rfl ?_
        refine g_aload_n K 1 dX6_walk_30 rfl ?_
        refine g_iload_n K 2 dX6_walk_31 rfl ?_
        refine g_callVd (q := 22) (ci := 6) (As := [.int (nI (n))]) (rest := [.ref (g_ad X 22)]) (C := RX6) (T := TX6) (N := 17) K (cX6_isNode_k (g_z X) S n (hm) (by omega)) (cwV 1 K.1.2.2.2.2 gX6_walk_X6_isNode rfl rfl rfl (by decide +kernel) ⟨Nat.le_trans (Nat.le_of_ble_eq_true rfl) hRf, Nat.le_trans (Nat.le_of_ble_eq_true rfl) hRl⟩) rfl rfl rfl rfl (Nat.le_of_ble_eq_true rfl) dX6_walk_32 ?_
        have hf32_20 := isN_spec (S 22 1) n
        refine g_if_ne (tgt := 42) (a := isN (S 22 1) n) K dX6_walk_35 (by decide) (by omega) (fun h35_21 => ?_) (fun h35_21 => ?_)
        · refine g_iload_n K 0 dX6_walk_42 rfl ?_
          refine g_if_eq (tgt := 50) (a := 1) K dX6_walk_43 (by decide) (by omega) (fun h43_22 => absurd h43_22 (by omega)) (fun h43_22 => ?_)
          refine g_iconst K 0 dX6_walk_46 (by decide +kernel) ?_
          refine g_goto (tgt := 51) K dX6_walk_47 (by decide) ?_
          refine g_callVd (q := 22) (ci := 6) (As := [.int (nI (0))]) (rest := []) (C := RX6) (T := TX6) (N := 17) K (cX6_refused_k (g_z X) S 0 (by omega)) (cwV 1 K.1.2.2.2.2 gX6_walk_X6_refused rfl rfl rfl (by decide +kernel) ⟨Nat.le_trans (Nat.le_of_ble_eq_true rfl) hRf, Nat.le_trans (Nat.le_of_ble_eq_true rfl) hRl⟩) rfl rfl rfl rfl (Nat.le_of_ble_eq_true rfl) dX6_walk_51 ?_
          refine g_cast (S' := (va_up S 22 (va_up (S 22) 0 (0)))) rfl rfl rfl ?_
          refine g_if_eq (tgt := 59) (a := 0) K dX6_walk_54 (by decide) (by omega) (fun h54_23 => ?_) (fun h54_23 => absurd h54_23 (by omega))
          exfalso; omega
        · refine g_iconst K 1 dX6_walk_38 (by decide +kernel) ?_
          refine g_goto (tgt := 51) K dX6_walk_39 (by decide) ?_
          refine g_callVd (q := 22) (ci := 6) (As := [.int (nI (1))]) (rest := []) (C := RX6) (T := TX6) (N := 17) K (cX6_refused_k (g_z X) S 1 (by omega)) (cwV 1 K.1.2.2.2.2 gX6_walk_X6_refused rfl rfl rfl (by decide +kernel) ⟨Nat.le_trans (Nat.le_of_ble_eq_true rfl) hRf, Nat.le_trans (Nat.le_of_ble_eq_true rfl) hRl⟩) rfl rfl rfl rfl (Nat.le_of_ble_eq_true rfl) dX6_walk_51 ?_
          refine g_cast (S' := (va_up S 22 (va_up (S 22) 0 (1)))) rfl rfl rfl ?_
          refine g_if_eq (tgt := 59) (a := 1) K dX6_walk_54 (by decide) (by omega) (fun h54_24 => absurd h54_24 (by omega)) (fun h54_24 => ?_)
          refine g_iconst K 0 dX6_walk_57 (by decide +kernel) ?_
          exact g_retd hret dX6_walk_58 rfl rfl

set_option maxHeartbeats 4000000 in
set_option maxRecDepth 100000 in
theorem cX6_walk_r2 (Z : gZ) (S : Nat → Nat → Nat) (n a : Nat) (hm : wfM S) (hun : n < 4294967296) (hua : a < 4294967296) (hn : n < S 22 1) (hb : ¬ (a < 1 <<< S 22 3 ∧ popM a ≤ 6)) : gMd Z yX6_walk wsX6_walk { frames := 2, cells := 0, slots := 0, locals := 43 } [.ref (gz_ad Z 22), .int (nI (n)), .int (nI (a))] S (0) (va_up S 22 (va_up (S 22) 0 (2))) := by
  refine gMd_of (cc := cX6_walk) (maxL := 9) (ret := (some .int)) (by decide +kernel) rfl (Nat.le_of_ble_eq_true rfl) (Or.inl rfl) (fun X hZ hR K hret => ?_)
  subst hZ
  have K : gOk X cX6_walk 9 wsX6_walk RX6 := K
  have hRf : 2 ≤ (g_R X).frames := gR_f hR rfl
  have hRl : 43 ≤ (g_R X).locals := gR_l hR rfl
  have hin6 : ∀ w ∈ u_ws RX6 TX6 17, w ∈ wsX6_walk := by decide +kernel
  obtain ⟨m1, m2, m3, m4, msh, mst, b23, b24, b25, b26, b27⟩ := id hm
  show gG X 0 [(0, .ref (g_ad X 22)), (1, .int (nI (n))), (2, .int (nI (a)))] [] S
  have hsv : 1 <<< S 22 3 ≤ 4096 := shl1_le (n := 12) (by omega)
  refine g_iload_n K 2 dX6_walk_0 rfl ?_
  refine g_if_lt (tgt := 27) (a := a) K dX6_walk_1 (by decide) (by omega) (fun h1_1 => ?_) (fun h1_1 => ?_)
  · refine g_iconst K 0 dX6_walk_27 (by decide +kernel) ?_
    refine g_istore_n (lo' := [(3, .int (nI (0))), (0, .ref (g_ad X 22)), (1, .int (nI (n))), (2, .int (nI (a)))]) K dX6_walk_28 (by decide) rfl ?_
    refine g_aload_n K 1 dX6_walk_29 rfl ?_
    refine g_aload_n K 1 dX6_walk_30 rfl ?_
    refine g_iload_n K 2 dX6_walk_31 rfl ?_
    refine g_callVd (q := 22) (ci := 6) (As := [.int (nI (n))]) (rest := [.ref (g_ad X 22)]) (C := RX6) (T := TX6) (N := 17) K (cX6_isNode_k (g_z X) S n (hm) (by omega)) (cwV 1 K.1.2.2.2.2 gX6_walk_X6_isNode rfl rfl rfl (by decide +kernel) ⟨Nat.le_trans (Nat.le_of_ble_eq_true rfl) hRf, Nat.le_trans (Nat.le_of_ble_eq_true rfl) hRl⟩) rfl rfl rfl rfl (Nat.le_of_ble_eq_true rfl) dX6_walk_32 ?_
    have hf32_2 := isN_spec (S 22 1) n
    refine g_if_ne (tgt := 42) (a := isN (S 22 1) n) K dX6_walk_35 (by decide) (by omega) (fun h35_3 => ?_) (fun h35_3 => ?_)
    · refine g_iload_n K 0 dX6_walk_42 rfl ?_
      refine g_if_eq (tgt := 50) (a := 0) K dX6_walk_43 (by decide) (by omega) (fun h43_4 => ?_) (fun h43_4 => absurd h43_4 (by omega))
      refine g_iconst K 2 dX6_walk_50 (by decide +kernel) ?_
      refine g_callVd (q := 22) (ci := 6) (As := [.int (nI (2))]) (rest := []) (C := RX6) (T := TX6) (N := 17) K (cX6_refused_k (g_z X) S 2 (by omega)) (cwV 1 K.1.2.2.2.2 gX6_walk_X6_refused rfl rfl rfl (by decide +kernel) ⟨Nat.le_trans (Nat.le_of_ble_eq_true rfl) hRf, Nat.le_trans (Nat.le_of_ble_eq_true rfl) hRl⟩) rfl rfl rfl rfl (Nat.le_of_ble_eq_true rfl) dX6_walk_51 ?_
      refine g_cast (S' := (va_up S 22 (va_up (S 22) 0 (2)))) rfl rfl rfl ?_
      refine g_if_eq (tgt := 59) (a := 1) K dX6_walk_54 (by decide) (by omega) (fun h54_5 => absurd h54_5 (by omega)) (fun h54_5 => ?_)
      refine g_iconst K 0 dX6_walk_57 (by decide +kernel) ?_
      exact g_retd hret dX6_walk_58 rfl rfl
    · refine g_iconst K 1 dX6_walk_38 (by decide +kernel) ?_
      refine g_goto (tgt := 51) K dX6_walk_39 (by decide) ?_
      refine g_callVd (q := 22) (ci := 6) (As := [.int (nI (1))]) (rest := []) (C := RX6) (T := TX6) (N := 17) K (cX6_refused_k (g_z X) S 1 (by omega)) (cwV 1 K.1.2.2.2.2 gX6_walk_X6_refused rfl rfl rfl (by decide +kernel) ⟨Nat.le_trans (Nat.le_of_ble_eq_true rfl) hRf, Nat.le_trans (Nat.le_of_ble_eq_true rfl) hRl⟩) rfl rfl rfl rfl (Nat.le_of_ble_eq_true rfl) dX6_walk_51 ?_
      refine g_cast (S' := (va_up S 22 (va_up (S 22) 0 (1)))) rfl rfl rfl ?_
      refine g_if_eq (tgt := 59) (a := 1) K dX6_walk_54 (by decide) (by omega) (fun h54_6 => absurd h54_6 (by omega)) (fun h54_6 => ?_)
      refine g_iconst K 0 dX6_walk_57 (by decide +kernel) ?_
      exfalso; omega
  · refine g_iload_n K 2 dX6_walk_4 rfl ?_
    refine g_iconst K 1 dX6_walk_5 (by decide +kernel) ?_
    refine g_aload_n K 0 dX6_walk_6 rfl ?_
    refine g_getI (q := 22) (ci := 6) (k := 3) (N := 17) (C := RX6) (T := TX6) (ref := "ValveWalkModel") K rfl rfl rfl (by decide) hin6 (by decide +kernel) rfl dX6_walk_7 ?_
    refine g_ishl (a := 1) (b := S 22 3) K (by omega) dX6_walk_10 ?_
    refine g_icmp_ge (tgt := 27) (a := a) (b := (1) <<< (S 22 3)) K dX6_walk_11 (by decide) (by omega) (by omega) (fun h11_7 => ?_) (fun h11_7 => ?_)
    · refine g_iconst K 0 dX6_walk_27 (by decide +kernel) ?_
      refine g_istore_n (lo' := [(3, .int (nI (0))), (0, .ref (g_ad X 22)), (1, .int (nI (n))), (2, .int (nI (a)))]) K dX6_walk_28 (by decide) rfl ?_
      refine g_aload_n K 1 dX6_walk_29 rfl ?_
      refine g_aload_n K 1 dX6_walk_30 rfl ?_
      refine g_iload_n K 2 dX6_walk_31 rfl ?_
      refine g_callVd (q := 22) (ci := 6) (As := [.int (nI (n))]) (rest := [.ref (g_ad X 22)]) (C := RX6) (T := TX6) (N := 17) K (cX6_isNode_k (g_z X) S n (hm) (by omega)) (cwV 1 K.1.2.2.2.2 gX6_walk_X6_isNode rfl rfl rfl (by decide +kernel) ⟨Nat.le_trans (Nat.le_of_ble_eq_true rfl) hRf, Nat.le_trans (Nat.le_of_ble_eq_true rfl) hRl⟩) rfl rfl rfl rfl (Nat.le_of_ble_eq_true rfl) dX6_walk_32 ?_
      have hf32_8 := isN_spec (S 22 1) n
      refine g_if_ne (tgt := 42) (a := isN (S 22 1) n) K dX6_walk_35 (by decide) (by omega) (fun h35_9 => ?_) (fun h35_9 => ?_)
      · refine g_iload_n K 0 dX6_walk_42 rfl ?_
        refine g_if_eq (tgt := 50) (a := 0) K dX6_walk_43 (by decide) (by omega) (fun h43_10 => ?_) (fun h43_10 => absurd h43_10 (by omega))
        refine g_iconst K 2 dX6_walk_50 (by decide +kernel) ?_
        refine g_callVd (q := 22) (ci := 6) (As := [.int (nI (2))]) (rest := []) (C := RX6) (T := TX6) (N := 17) K (cX6_refused_k (g_z X) S 2 (by omega)) (cwV 1 K.1.2.2.2.2 gX6_walk_X6_refused rfl rfl rfl (by decide +kernel) ⟨Nat.le_trans (Nat.le_of_ble_eq_true rfl) hRf, Nat.le_trans (Nat.le_of_ble_eq_true rfl) hRl⟩) rfl rfl rfl rfl (Nat.le_of_ble_eq_true rfl) dX6_walk_51 ?_
        refine g_cast (S' := (va_up S 22 (va_up (S 22) 0 (2)))) rfl rfl rfl ?_
        refine g_if_eq (tgt := 59) (a := 1) K dX6_walk_54 (by decide) (by omega) (fun h54_11 => absurd h54_11 (by omega)) (fun h54_11 => ?_)
        refine g_iconst K 0 dX6_walk_57 (by decide +kernel) ?_
        exact g_retd hret dX6_walk_58 rfl rfl
      · refine g_iconst K 1 dX6_walk_38 (by decide +kernel) ?_
        refine g_goto (tgt := 51) K dX6_walk_39 (by decide) ?_
        refine g_callVd (q := 22) (ci := 6) (As := [.int (nI (1))]) (rest := []) (C := RX6) (T := TX6) (N := 17) K (cX6_refused_k (g_z X) S 1 (by omega)) (cwV 1 K.1.2.2.2.2 gX6_walk_X6_refused rfl rfl rfl (by decide +kernel) ⟨Nat.le_trans (Nat.le_of_ble_eq_true rfl) hRf, Nat.le_trans (Nat.le_of_ble_eq_true rfl) hRl⟩) rfl rfl rfl rfl (Nat.le_of_ble_eq_true rfl) dX6_walk_51 ?_
        refine g_cast (S' := (va_up S 22 (va_up (S 22) 0 (1)))) rfl rfl rfl ?_
        refine g_if_eq (tgt := 59) (a := 1) K dX6_walk_54 (by decide) (by omega) (fun h54_12 => absurd h54_12 (by omega)) (fun h54_12 => ?_)
        refine g_iconst K 0 dX6_walk_57 (by decide +kernel) ?_
        exfalso; omega
    · refine g_iload_n K 2 dX6_walk_14 rfl ?_
      refine g_callSd (As := [.int (nI (a))]) (rest := []) K (cX6_bits_k (g_z X) S a (by omega)) (va_cwS 1 K.1.2.2.2.2 gX6_walk_X6_bits rfl rfl rfl (by decide +kernel) ⟨Nat.le_trans (Nat.le_of_ble_eq_true rfl) hRf, Nat.le_trans (Nat.le_of_ble_eq_true rfl) hRl⟩) rfl rfl (Nat.le_of_ble_eq_true rfl) dX6_walk_15 ?_
      have hf15_13 := popM_le a
      refine g_bipush K 6 dX6_walk_18 (by decide +kernel) ?_
      refine g_icmp_gt (tgt := 27) (a := popM a) (b := 6) K dX6_walk_20 (by decide) (by omega) (by omega) (fun h20_14 => ?_) (fun h20_14 => ?_)
      · refine g_iconst K 0 dX6_walk_27 (by decide +kernel) ?_
        refine g_istore_n (lo' := [(3, .int (nI (0))), (0, .ref (g_ad X 22)), (1, .int (nI (n))), (2, .int (nI (a)))]) K dX6_walk_28 (by decide) rfl ?_
        refine g_aload_n K 1 dX6_walk_29 rfl ?_
        refine g_aload_n K 1 dX6_walk_30 rfl ?_
        refine g_iload_n K 2 dX6_walk_31 rfl ?_
        refine g_callVd (q := 22) (ci := 6) (As := [.int (nI (n))]) (rest := [.ref (g_ad X 22)]) (C := RX6) (T := TX6) (N := 17) K (cX6_isNode_k (g_z X) S n (hm) (by omega)) (cwV 1 K.1.2.2.2.2 gX6_walk_X6_isNode rfl rfl rfl (by decide +kernel) ⟨Nat.le_trans (Nat.le_of_ble_eq_true rfl) hRf, Nat.le_trans (Nat.le_of_ble_eq_true rfl) hRl⟩) rfl rfl rfl rfl (Nat.le_of_ble_eq_true rfl) dX6_walk_32 ?_
        have hf32_15 := isN_spec (S 22 1) n
        refine g_if_ne (tgt := 42) (a := isN (S 22 1) n) K dX6_walk_35 (by decide) (by omega) (fun h35_16 => ?_) (fun h35_16 => ?_)
        · refine g_iload_n K 0 dX6_walk_42 rfl ?_
          refine g_if_eq (tgt := 50) (a := 0) K dX6_walk_43 (by decide) (by omega) (fun h43_17 => ?_) (fun h43_17 => absurd h43_17 (by omega))
          refine g_iconst K 2 dX6_walk_50 (by decide +kernel) ?_
          refine g_callVd (q := 22) (ci := 6) (As := [.int (nI (2))]) (rest := []) (C := RX6) (T := TX6) (N := 17) K (cX6_refused_k (g_z X) S 2 (by omega)) (cwV 1 K.1.2.2.2.2 gX6_walk_X6_refused rfl rfl rfl (by decide +kernel) ⟨Nat.le_trans (Nat.le_of_ble_eq_true rfl) hRf, Nat.le_trans (Nat.le_of_ble_eq_true rfl) hRl⟩) rfl rfl rfl rfl (Nat.le_of_ble_eq_true rfl) dX6_walk_51 ?_
          refine g_cast (S' := (va_up S 22 (va_up (S 22) 0 (2)))) rfl rfl rfl ?_
          refine g_if_eq (tgt := 59) (a := 1) K dX6_walk_54 (by decide) (by omega) (fun h54_18 => absurd h54_18 (by omega)) (fun h54_18 => ?_)
          refine g_iconst K 0 dX6_walk_57 (by decide +kernel) ?_
          exact g_retd hret dX6_walk_58 rfl rfl
        · refine g_iconst K 1 dX6_walk_38 (by decide +kernel) ?_
          refine g_goto (tgt := 51) K dX6_walk_39 (by decide) ?_
          refine g_callVd (q := 22) (ci := 6) (As := [.int (nI (1))]) (rest := []) (C := RX6) (T := TX6) (N := 17) K (cX6_refused_k (g_z X) S 1 (by omega)) (cwV 1 K.1.2.2.2.2 gX6_walk_X6_refused rfl rfl rfl (by decide +kernel) ⟨Nat.le_trans (Nat.le_of_ble_eq_true rfl) hRf, Nat.le_trans (Nat.le_of_ble_eq_true rfl) hRl⟩) rfl rfl rfl rfl (Nat.le_of_ble_eq_true rfl) dX6_walk_51 ?_
          refine g_cast (S' := (va_up S 22 (va_up (S 22) 0 (1)))) rfl rfl rfl ?_
          refine g_if_eq (tgt := 59) (a := 1) K dX6_walk_54 (by decide) (by omega) (fun h54_19 => absurd h54_19 (by omega)) (fun h54_19 => ?_)
          refine g_iconst K 0 dX6_walk_57 (by decide +kernel) ?_
          exfalso; omega
      · refine g_iconst K 1 dX6_walk_23 (by decide +kernel) ?_
        refine g_goto (tgt := 28) K dX6_walk_24 (by decide) ?_
        refine g_istore_n (lo' := [(3, .int (nI (1))), (0, .ref (g_ad X 22)), (1, .int (nI (n))), (2, .int (nI (a)))]) K dX6_walk_28 (by decide) rfl ?_
        refine g_aload_n K 1 dX6_walk_29 rfl ?_
        refine g_aload_n K 1 dX6_walk_30 rfl ?_
        refine g_iload_n K 2 dX6_walk_31 rfl ?_
        refine g_callVd (q := 22) (ci := 6) (As := [.int (nI (n))]) (rest := [.ref (g_ad X 22)]) (C := RX6) (T := TX6) (N := 17) K (cX6_isNode_k (g_z X) S n (hm) (by omega)) (cwV 1 K.1.2.2.2.2 gX6_walk_X6_isNode rfl rfl rfl (by decide +kernel) ⟨Nat.le_trans (Nat.le_of_ble_eq_true rfl) hRf, Nat.le_trans (Nat.le_of_ble_eq_true rfl) hRl⟩) rfl rfl rfl rfl (Nat.le_of_ble_eq_true rfl) dX6_walk_32 ?_
        have hf32_20 := isN_spec (S 22 1) n
        refine g_if_ne (tgt := 42) (a := isN (S 22 1) n) K dX6_walk_35 (by decide) (by omega) (fun h35_21 => ?_) (fun h35_21 => ?_)
        · refine g_iload_n K 0 dX6_walk_42 rfl ?_
          refine g_if_eq (tgt := 50) (a := 1) K dX6_walk_43 (by decide) (by omega) (fun h43_22 => absurd h43_22 (by omega)) (fun h43_22 => ?_)
          refine g_iconst K 0 dX6_walk_46 (by decide +kernel) ?_
          refine g_goto (tgt := 51) K dX6_walk_47 (by decide) ?_
          refine g_callVd (q := 22) (ci := 6) (As := [.int (nI (0))]) (rest := []) (C := RX6) (T := TX6) (N := 17) K (cX6_refused_k (g_z X) S 0 (by omega)) (cwV 1 K.1.2.2.2.2 gX6_walk_X6_refused rfl rfl rfl (by decide +kernel) ⟨Nat.le_trans (Nat.le_of_ble_eq_true rfl) hRf, Nat.le_trans (Nat.le_of_ble_eq_true rfl) hRl⟩) rfl rfl rfl rfl (Nat.le_of_ble_eq_true rfl) dX6_walk_51 ?_
          refine g_cast (S' := (va_up S 22 (va_up (S 22) 0 (0)))) rfl rfl rfl ?_
          refine g_if_eq (tgt := 59) (a := 0) K dX6_walk_54 (by decide) (by omega) (fun h54_23 => ?_) (fun h54_23 => absurd h54_23 (by omega))
          exfalso; omega
        · refine g_iconst K 1 dX6_walk_38 (by decide +kernel) ?_
          refine g_goto (tgt := 51) K dX6_walk_39 (by decide) ?_
          refine g_callVd (q := 22) (ci := 6) (As := [.int (nI (1))]) (rest := []) (C := RX6) (T := TX6) (N := 17) K (cX6_refused_k (g_z X) S 1 (by omega)) (cwV 1 K.1.2.2.2.2 gX6_walk_X6_refused rfl rfl rfl (by decide +kernel) ⟨Nat.le_trans (Nat.le_of_ble_eq_true rfl) hRf, Nat.le_trans (Nat.le_of_ble_eq_true rfl) hRl⟩) rfl rfl rfl rfl (Nat.le_of_ble_eq_true rfl) dX6_walk_51 ?_
          refine g_cast (S' := (va_up S 22 (va_up (S 22) 0 (1)))) rfl rfl rfl ?_
          refine g_if_eq (tgt := 59) (a := 1) K dX6_walk_54 (by decide) (by omega) (fun h54_24 => absurd h54_24 (by omega)) (fun h54_24 => ?_)
          refine g_iconst K 0 dX6_walk_57 (by decide +kernel) ?_
          exfalso; omega

