/-! CALLS THAT THROW, over networks of nodes alone -/
def rmR : Room := { frames := 10, cells := 40, slots := 240, locals := 230 }
set_option maxHeartbeats 4000000 in
set_option maxRecDepth 100000 in
theorem refuses_lo_t {X0 : gC} {S : Nat → Nat → Nat} {n x nv pv vv : Nat} (hR : g_R X0 = rmR) (hnd : nd S n) (hl0 : (gz_l (g_z X0)).stackTraces = false) (hn : n ≤ 1) (hx : x < 10000) (hnv : n ≤ nv) (hnv2 : nv < 4294967296) (hpv : pv < 4294967296) (hvv : vv < 4294967296) (h : gCx X0 X0 cL_refuses 9 wsL_refuses (gz_ad (g_z X0)) (gz_ex (g_z X0)) 0 0 0)
    (hret : gRet X0 cL_refuses 9 wsL_refuses (fun v S1 w => v = 1 ∧ nd S1 n ∧ w = gz_ex (g_z X0)) 40 240 18 (some .boolean)) : gG X0 83 [(0, .ref (gz_ad (g_z X0) 0)), (1, .int (nI (x))), (3, .int (nI (nv))), (4, .int (nI (pv))), (5, .int (nI (vv)))] [] S := by
  have K := h.2.1
  refine g_aload_n K 0 dL_refuses_83 rfl ?_
  refine g_iload_n K 2 dL_refuses_84 rfl ?_
  refine g_iload_n K 2 dL_refuses_85 rfl ?_
  refine g_iconst K 0 dL_refuses_86 (by decide +kernel) ?_
  refine g_iconst K 0 dL_refuses_87 (by decide +kernel) ?_
  refine g_callUW (As := [.ref (gz_ad (g_z X0) 0), .int (nI (nv)), .int (nI (nv)), .int (nI (0)), .int (nI (0))]) (rest := []) h (hL_pipes_x1 (zy (g_z X0) (gz_ad (g_z X0)) (gz_ex (g_z X0))) S (nv) (nv) (0) (0) hnd hl0 (by omega) (by omega) (by omega) (by omega) (by omega)) (vx_cwSW 5 K.1.2.2.2.2 gL_refuses_L_pipes rfl rfl rfl (by decide +kernel) ⟨by rw [h.R, hR]; exact Nat.le_of_ble_eq_true rfl, by rw [h.R, hR]; exact Nat.le_of_ble_eq_true rfl⟩) rfl rfl (Nat.le_of_ble_eq_true rfl) dL_refuses_88 (by rw [h.R, hR]; exact Nat.le_of_ble_eq_true rfl) (by rw [h.R, hR]; exact Nat.le_of_ble_eq_true rfl) (fun X v S w9 hq h => ?_)
  obtain ⟨rfl, hnd, rfl⟩ := hq
  have h : gCx X0 X cL_refuses 9 wsL_refuses (gz_ad (g_z X0)) (gz_ex (g_z X0)) 1 1 6 := h
  have K := h.2.1
  refine g_ldc (w := -2000000001) K 2294967295 (K.1.2.2.2.2 _ (by decide +kernel)) (by decide +kernel) dL_refuses_91 ?_
  refine g_icmp_ne (tgt := 293) (a := 2294967295) (b := 2294967295) K dL_refuses_93 (by decide) (by omega) (by omega) (fun h93 => absurd h93 (by omega)) (fun h93 => ?_)
  refine g_aload_n K 0 dL_refuses_96 rfl ?_
  refine g_iload K 3 dL_refuses_97 rfl ?_
  refine g_bipush K 7 dL_refuses_99 (by decide +kernel) ?_
  refine g_callUW (As := [.ref (gz_ad (g_z X0) 0), .int (nI (pv)), .int (nI (7))]) (rest := []) h (hL_valves_x1 (zy (g_z X0) (gz_ad (g_z X0)) (gz_ex (g_z X0))) S (pv) (7) hnd hl0 (by omega) (by omega)) (vx_cwSW 3 K.1.2.2.2.2 gL_refuses_L_valves rfl rfl rfl (by decide +kernel) ⟨by rw [h.R, hR]; exact Nat.le_of_ble_eq_true rfl, by rw [h.R, hR]; exact Nat.le_of_ble_eq_true rfl⟩) rfl rfl (Nat.le_of_ble_eq_true rfl) dL_refuses_101 (by rw [h.R, hR]; exact Nat.le_of_ble_eq_true rfl) (by rw [h.R, hR]; exact Nat.le_of_ble_eq_true rfl) (fun X v S w9 hq h => ?_)
  obtain ⟨rfl, hnd, rfl⟩ := hq
  have h : gCx X0 X cL_refuses 9 wsL_refuses (gz_ad (g_z X0)) (gz_ex (g_z X0)) 2 2 12 := h
  have K := h.2.1
  refine g_ldc (w := -2000000001) K 2294967295 (K.1.2.2.2.2 _ (by decide +kernel)) (by decide +kernel) dL_refuses_104 ?_
  refine g_icmp_ne (tgt := 293) (a := 2294967295) (b := 2294967295) K dL_refuses_106 (by decide) (by omega) (by omega) (fun h106 => absurd h106 (by omega)) (fun h106 => ?_)
  refine g_aload_n K 0 dL_refuses_109 rfl ?_
  refine g_iload_n K 2 dL_refuses_110 rfl ?_
  refine g_iconst K 1 dL_refuses_111 (by decide +kernel) ?_
  refine g_callUW (As := [.ref (gz_ad (g_z X0) 0), .int (nI (nv)), .int (nI (1))]) (rest := []) h (hL_sources_x1 (zy (g_z X0) (gz_ad (g_z X0)) (gz_ex (g_z X0))) S (nv) (1) hnd hl0 (by omega) (by omega)) (vx_cwSW 3 K.1.2.2.2.2 gL_refuses_L_sources rfl rfl rfl (by decide +kernel) ⟨by rw [h.R, hR]; exact Nat.le_of_ble_eq_true rfl, by rw [h.R, hR]; exact Nat.le_of_ble_eq_true rfl⟩) rfl rfl (Nat.le_of_ble_eq_true rfl) dL_refuses_112 (by rw [h.R, hR]; exact Nat.le_of_ble_eq_true rfl) (by rw [h.R, hR]; exact Nat.le_of_ble_eq_true rfl) (fun X v S w9 hq h => ?_)
  obtain ⟨rfl, hnd, rfl⟩ := hq
  have h : gCx X0 X cL_refuses 9 wsL_refuses (gz_ad (g_z X0)) (gz_ex (g_z X0)) 3 3 18 := h
  have K := h.2.1
  refine g_ldc (w := -2000000001) K 2294967295 (K.1.2.2.2.2 _ (by decide +kernel)) (by decide +kernel) dL_refuses_115 ?_
  refine g_icmp_ne (tgt := 293) (a := 2294967295) (b := 2294967295) K dL_refuses_117 (by decide) (by omega) (by omega) (fun h117 => absurd h117 (by omega)) (fun h117 => ?_)
  refine g_aload_n K 0 dL_refuses_120 rfl ?_
  refine g_iload K 4 dL_refuses_121 rfl ?_
  refine g_iconst K 1 dL_refuses_123 (by decide +kernel) ?_
  refine g_callUW (As := [.ref (gz_ad (g_z X0) 0), .int (nI (vv)), .int (nI (1))]) (rest := []) h (hL_sticks_x1 (zy (g_z X0) (gz_ad (g_z X0)) (gz_ex (g_z X0))) S (vv) (1) hnd hl0 (by omega)) (vx_cwSW 3 K.1.2.2.2.2 gL_refuses_L_sticks rfl rfl rfl (by decide +kernel) ⟨by rw [h.R, hR]; exact Nat.le_of_ble_eq_true rfl, by rw [h.R, hR]; exact Nat.le_of_ble_eq_true rfl⟩) rfl rfl (Nat.le_of_ble_eq_true rfl) dL_refuses_124 (by rw [h.R, hR]; exact Nat.le_of_ble_eq_true rfl) (by rw [h.R, hR]; exact Nat.le_of_ble_eq_true rfl) (fun X v S w9 hq h => ?_)
  obtain ⟨rfl, hnd, rfl⟩ := hq
  have h : gCx X0 X cL_refuses 9 wsL_refuses (gz_ad (g_z X0)) (gz_ex (g_z X0)) 4 4 24 := h
  have K := h.2.1
  refine g_ldc (w := -2000000001) K 2294967295 (K.1.2.2.2.2 _ (by decide +kernel)) (by decide +kernel) dL_refuses_127 ?_
  refine g_icmp_ne (tgt := 293) (a := 2294967295) (b := 2294967295) K dL_refuses_129 (by decide) (by omega) (by omega) (fun h129 => absurd h129 (by omega)) (fun h129 => ?_)
  refine g_aload_n K 0 dL_refuses_132 rfl ?_
  refine g_iload K 4 dL_refuses_133 rfl ?_
  refine g_iconst K 0 dL_refuses_135 (by decide +kernel) ?_
  refine g_callUW (As := [.ref (gz_ad (g_z X0) 0), .int (nI (vv)), .int (nI (0))]) (rest := []) h (hL_turns_x1 (zy (g_z X0) (gz_ad (g_z X0)) (gz_ex (g_z X0))) S (vv) (0) hnd hl0 (by omega)) (vx_cwSW 3 K.1.2.2.2.2 gL_refuses_L_turns rfl rfl rfl (by decide +kernel) ⟨by rw [h.R, hR]; exact Nat.le_of_ble_eq_true rfl, by rw [h.R, hR]; exact Nat.le_of_ble_eq_true rfl⟩) rfl rfl (Nat.le_of_ble_eq_true rfl) dL_refuses_136 (by rw [h.R, hR]; exact Nat.le_of_ble_eq_true rfl) (by rw [h.R, hR]; exact Nat.le_of_ble_eq_true rfl) (fun X v S w9 hq h => ?_)
  obtain ⟨rfl, hnd, rfl⟩ := hq
  have h : gCx X0 X cL_refuses 9 wsL_refuses (gz_ad (g_z X0)) (gz_ex (g_z X0)) 5 5 30 := h
  have K := h.2.1
  refine g_ldc (w := -2000000001) K 2294967295 (K.1.2.2.2.2 _ (by decide +kernel)) (by decide +kernel) dL_refuses_139 ?_
  refine g_icmp_ne (tgt := 293) (a := 2294967295) (b := 2294967295) K dL_refuses_141 (by decide) (by omega) (by omega) (fun h141 => absurd h141 (by omega)) (fun h141 => ?_)
  refine g_aload_n K 0 dL_refuses_144 rfl ?_
  refine g_iload_n K 2 dL_refuses_145 rfl ?_
  refine g_callUW (As := [.ref (gz_ad (g_z X0) 0), .int (nI (nv))]) (rest := []) h (hL_nodeDry_x1 (zy (g_z X0) (gz_ad (g_z X0)) (gz_ex (g_z X0))) S (nv) hnd hl0 (by omega) (by omega)) (vx_cwSW 2 K.1.2.2.2.2 gL_refuses_L_nodeDry rfl rfl rfl (by decide +kernel) ⟨by rw [h.R, hR]; exact Nat.le_of_ble_eq_true rfl, by rw [h.R, hR]; exact Nat.le_of_ble_eq_true rfl⟩) rfl rfl (Nat.le_of_ble_eq_true rfl) dL_refuses_146 (by rw [h.R, hR]; exact Nat.le_of_ble_eq_true rfl) (by rw [h.R, hR]; exact Nat.le_of_ble_eq_true rfl) (fun X v S w9 hq h => ?_)
  obtain ⟨rfl, hnd, rfl⟩ := hq
  have h : gCx X0 X cL_refuses 9 wsL_refuses (gz_ad (g_z X0)) (gz_ex (g_z X0)) 6 6 36 := h
  have K := h.2.1
  refine g_ldc (w := -2000000001) K 2294967295 (K.1.2.2.2.2 _ (by decide +kernel)) (by decide +kernel) dL_refuses_149 ?_
  refine g_icmp_ne (tgt := 293) (a := 2294967295) (b := 2294967295) K dL_refuses_151 (by decide) (by omega) (by omega) (fun h151 => absurd h151 (by omega)) (fun h151 => ?_)
  refine g_aload_n K 0 dL_refuses_154 rfl ?_
  refine g_iload K 3 dL_refuses_155 rfl ?_
  refine g_callUW (As := [.ref (gz_ad (g_z X0) 0), .int (nI (pv))]) (rest := []) h (hL_pipeDry_x1 (zy (g_z X0) (gz_ad (g_z X0)) (gz_ex (g_z X0))) S (pv) hnd hl0 (by omega)) (vx_cwSW 2 K.1.2.2.2.2 gL_refuses_L_pipeDry rfl rfl rfl (by decide +kernel) ⟨by rw [h.R, hR]; exact Nat.le_of_ble_eq_true rfl, by rw [h.R, hR]; exact Nat.le_of_ble_eq_true rfl⟩) rfl rfl (Nat.le_of_ble_eq_true rfl) dL_refuses_157 (by rw [h.R, hR]; exact Nat.le_of_ble_eq_true rfl) (by rw [h.R, hR]; exact Nat.le_of_ble_eq_true rfl) (fun X v S w9 hq h => ?_)
  obtain ⟨rfl, hnd, rfl⟩ := hq
  have h : gCx X0 X cL_refuses 9 wsL_refuses (gz_ad (g_z X0)) (gz_ex (g_z X0)) 7 7 42 := h
  have K := h.2.1
  refine g_ldc (w := -2000000001) K 2294967295 (K.1.2.2.2.2 _ (by decide +kernel)) (by decide +kernel) dL_refuses_160 ?_
  refine g_icmp_ne (tgt := 293) (a := 2294967295) (b := 2294967295) K dL_refuses_162 (by decide) (by omega) (by omega) (fun h162 => absurd h162 (by omega)) (fun h162 => ?_)
  refine g_aload_n K 0 dL_refuses_165 rfl ?_
  refine g_iload_n K 2 dL_refuses_166 rfl ?_
  refine g_callUW (As := [.ref (gz_ad (g_z X0) 0), .int (nI (nv))]) (rest := []) h (hL_ofNode_x1 (zy (g_z X0) (gz_ad (g_z X0)) (gz_ex (g_z X0))) S (nv) hnd hl0 (by omega) (by omega)) (vx_cwSW 2 K.1.2.2.2.2 gL_refuses_L_ofNode rfl rfl rfl (by decide +kernel) ⟨by rw [h.R, hR]; exact Nat.le_of_ble_eq_true rfl, by rw [h.R, hR]; exact Nat.le_of_ble_eq_true rfl⟩) rfl rfl (Nat.le_of_ble_eq_true rfl) dL_refuses_167 (by rw [h.R, hR]; exact Nat.le_of_ble_eq_true rfl) (by rw [h.R, hR]; exact Nat.le_of_ble_eq_true rfl) (fun X v S w9 hq h => ?_)
  obtain ⟨rfl, hnd, rfl⟩ := hq
  have h : gCx X0 X cL_refuses 9 wsL_refuses (gz_ad (g_z X0)) (gz_ex (g_z X0)) 8 8 48 := h
  have K := h.2.1
  refine g_ldc (w := -2000000001) K 2294967295 (K.1.2.2.2.2 _ (by decide +kernel)) (by decide +kernel) dL_refuses_170 ?_
  refine g_icmp_ne (tgt := 293) (a := 2294967295) (b := 2294967295) K dL_refuses_172 (by decide) (by omega) (by omega) (fun h172 => absurd h172 (by omega)) (fun h172 => ?_)
  refine g_aload_n K 0 dL_refuses_175 rfl ?_
  refine g_iload K 3 dL_refuses_176 rfl ?_
  refine g_callUW (As := [.ref (gz_ad (g_z X0) 0), .int (nI (pv))]) (rest := []) h (hL_ofPipe_x1 (zy (g_z X0) (gz_ad (g_z X0)) (gz_ex (g_z X0))) S (pv) hnd hl0 (by omega)) (vx_cwSW 2 K.1.2.2.2.2 gL_refuses_L_ofPipe rfl rfl rfl (by decide +kernel) ⟨by rw [h.R, hR]; exact Nat.le_of_ble_eq_true rfl, by rw [h.R, hR]; exact Nat.le_of_ble_eq_true rfl⟩) rfl rfl (Nat.le_of_ble_eq_true rfl) dL_refuses_178 (by rw [h.R, hR]; exact Nat.le_of_ble_eq_true rfl) (by rw [h.R, hR]; exact Nat.le_of_ble_eq_true rfl) (fun X v S w9 hq h => ?_)
  obtain ⟨rfl, hnd, rfl⟩ := hq
  have h : gCx X0 X cL_refuses 9 wsL_refuses (gz_ad (g_z X0)) (gz_ex (g_z X0)) 9 9 54 := h
  have K := h.2.1
  refine g_ldc (w := -2000000001) K 2294967295 (K.1.2.2.2.2 _ (by decide +kernel)) (by decide +kernel) dL_refuses_181 ?_
  refine g_icmp_ne (tgt := 293) (a := 2294967295) (b := 2294967295) K dL_refuses_183 (by decide) (by omega) (by omega) (fun h183 => absurd h183 (by omega)) (fun h183 => ?_)
  refine g_aload_n K 0 dL_refuses_186 rfl ?_
  refine g_iload K 3 dL_refuses_187 rfl ?_
  refine g_callUW (As := [.ref (gz_ad (g_z X0) 0), .int (nI (pv))]) (rest := []) h (hL_merged_x1 (zy (g_z X0) (gz_ad (g_z X0)) (gz_ex (g_z X0))) S (pv) hnd hl0 (by omega)) (vx_cwSW 2 K.1.2.2.2.2 gL_refuses_L_merged rfl rfl rfl (by decide +kernel) ⟨by rw [h.R, hR]; exact Nat.le_of_ble_eq_true rfl, by rw [h.R, hR]; exact Nat.le_of_ble_eq_true rfl⟩) rfl rfl (Nat.le_of_ble_eq_true rfl) dL_refuses_189 (by rw [h.R, hR]; exact Nat.le_of_ble_eq_true rfl) (by rw [h.R, hR]; exact Nat.le_of_ble_eq_true rfl) (fun X v S w9 hq h => ?_)
  obtain ⟨rfl, hnd, rfl⟩ := hq
  have h : gCx X0 X cL_refuses 9 wsL_refuses (gz_ad (g_z X0)) (gz_ex (g_z X0)) 10 10 60 := h
  have K := h.2.1
  refine g_ldc (w := -2000000001) K 2294967295 (K.1.2.2.2.2 _ (by decide +kernel)) (by decide +kernel) dL_refuses_192 ?_
  refine g_icmp_ne (tgt := 293) (a := 2294967295) (b := 2294967295) K dL_refuses_194 (by decide) (by omega) (by omega) (fun h194 => absurd h194 (by omega)) (fun h194 => ?_)
  refine g_aload_n K 0 dL_refuses_197 rfl ?_
  refine g_iload K 3 dL_refuses_198 rfl ?_
  refine g_callUW (As := [.ref (gz_ad (g_z X0) 0), .int (nI (pv))]) (rest := []) h (hL_ring_x1 (zy (g_z X0) (gz_ad (g_z X0)) (gz_ex (g_z X0))) S (pv) hnd hl0 (by omega)) (vx_cwSW 2 K.1.2.2.2.2 gL_refuses_L_ring rfl rfl rfl (by decide +kernel) ⟨by rw [h.R, hR]; exact Nat.le_of_ble_eq_true rfl, by rw [h.R, hR]; exact Nat.le_of_ble_eq_true rfl⟩) rfl rfl (Nat.le_of_ble_eq_true rfl) dL_refuses_200 (by rw [h.R, hR]; exact Nat.le_of_ble_eq_true rfl) (by rw [h.R, hR]; exact Nat.le_of_ble_eq_true rfl) (fun X v S w9 hq h => ?_)
  obtain ⟨rfl, hnd, rfl⟩ := hq
  have h : gCx X0 X cL_refuses 9 wsL_refuses (gz_ad (g_z X0)) (gz_ex (g_z X0)) 11 11 66 := h
  have K := h.2.1
  refine g_ldc (w := -2000000001) K 2294967295 (K.1.2.2.2.2 _ (by decide +kernel)) (by decide +kernel) dL_refuses_203 ?_
  refine g_icmp_ne (tgt := 293) (a := 2294967295) (b := 2294967295) K dL_refuses_205 (by decide) (by omega) (by omega) (fun h205 => absurd h205 (by omega)) (fun h205 => ?_)
  refine g_aload_n K 0 dL_refuses_208 rfl ?_
  refine g_iload K 3 dL_refuses_209 rfl ?_
  refine g_callUW (As := [.ref (gz_ad (g_z X0) 0), .int (nI (pv))]) (rest := []) h (hL_cut_x1 (zy (g_z X0) (gz_ad (g_z X0)) (gz_ex (g_z X0))) S (pv) hnd hl0 (by omega)) (vx_cwSW 2 K.1.2.2.2.2 gL_refuses_L_cut rfl rfl rfl (by decide +kernel) ⟨by rw [h.R, hR]; exact Nat.le_of_ble_eq_true rfl, by rw [h.R, hR]; exact Nat.le_of_ble_eq_true rfl⟩) rfl rfl (Nat.le_of_ble_eq_true rfl) dL_refuses_211 (by rw [h.R, hR]; exact Nat.le_of_ble_eq_true rfl) (by rw [h.R, hR]; exact Nat.le_of_ble_eq_true rfl) (fun X v S w9 hq h => ?_)
  obtain ⟨rfl, hnd, rfl⟩ := hq
  have h : gCx X0 X cL_refuses 9 wsL_refuses (gz_ad (g_z X0)) (gz_ex (g_z X0)) 12 12 72 := h
  have K := h.2.1
  refine g_ldc (w := -2000000001) K 2294967295 (K.1.2.2.2.2 _ (by decide +kernel)) (by decide +kernel) dL_refuses_214 ?_
  refine g_icmp_ne (tgt := 293) (a := 2294967295) (b := 2294967295) K dL_refuses_216 (by decide) (by omega) (by omega) (fun h216 => absurd h216 (by omega)) (fun h216 => ?_)
  refine g_aload_n K 0 dL_refuses_219 rfl ?_
  refine g_iload K 3 dL_refuses_220 rfl ?_
  refine g_callUW (As := [.ref (gz_ad (g_z X0) 0), .int (nI (pv))]) (rest := []) h (hL_fewest_x1 (zy (g_z X0) (gz_ad (g_z X0)) (gz_ex (g_z X0))) S (pv) hnd hl0 (by omega)) (vx_cwSW 2 K.1.2.2.2.2 gL_refuses_L_fewest rfl rfl rfl (by decide +kernel) ⟨by rw [h.R, hR]; exact Nat.le_of_ble_eq_true rfl, by rw [h.R, hR]; exact Nat.le_of_ble_eq_true rfl⟩) rfl rfl (Nat.le_of_ble_eq_true rfl) dL_refuses_222 (by rw [h.R, hR]; exact Nat.le_of_ble_eq_true rfl) (by rw [h.R, hR]; exact Nat.le_of_ble_eq_true rfl) (fun X v S w9 hq h => ?_)
  obtain ⟨rfl, hnd, rfl⟩ := hq
  have h : gCx X0 X cL_refuses 9 wsL_refuses (gz_ad (g_z X0)) (gz_ex (g_z X0)) 13 13 78 := h
  have K := h.2.1
  refine g_ldc (w := -2000000001) K 2294967295 (K.1.2.2.2.2 _ (by decide +kernel)) (by decide +kernel) dL_refuses_225 ?_
  refine g_icmp_ne (tgt := 293) (a := 2294967295) (b := 2294967295) K dL_refuses_227 (by decide) (by omega) (by omega) (fun h227 => absurd h227 (by omega)) (fun h227 => ?_)
  refine g_aload_n K 0 dL_refuses_230 rfl ?_
  refine g_iload K 3 dL_refuses_231 rfl ?_
  refine g_callUW (As := [.ref (gz_ad (g_z X0) 0), .int (nI (pv))]) (rest := []) h (hL_tried_x1 (zy (g_z X0) (gz_ad (g_z X0)) (gz_ex (g_z X0))) S (pv) hnd hl0 (by omega)) (vx_cwSW 2 K.1.2.2.2.2 gL_refuses_L_tried rfl rfl rfl (by decide +kernel) ⟨by rw [h.R, hR]; exact Nat.le_of_ble_eq_true rfl, by rw [h.R, hR]; exact Nat.le_of_ble_eq_true rfl⟩) rfl rfl (Nat.le_of_ble_eq_true rfl) dL_refuses_233 (by rw [h.R, hR]; exact Nat.le_of_ble_eq_true rfl) (by rw [h.R, hR]; exact Nat.le_of_ble_eq_true rfl) (fun X v S w9 hq h => ?_)
  obtain ⟨rfl, hnd, rfl⟩ := hq
  have h : gCx X0 X cL_refuses 9 wsL_refuses (gz_ad (g_z X0)) (gz_ex (g_z X0)) 14 14 84 := h
  have K := h.2.1
  refine g_ldc (w := -2000000001) K 2294967295 (K.1.2.2.2.2 _ (by decide +kernel)) (by decide +kernel) dL_refuses_236 ?_
  refine g_icmp_ne (tgt := 293) (a := 2294967295) (b := 2294967295) K dL_refuses_238 (by decide) (by omega) (by omega) (fun h238 => absurd h238 (by omega)) (fun h238 => ?_)
  refine g_aload_n K 0 dL_refuses_241 rfl ?_
  refine g_iload_n K 2 dL_refuses_242 rfl ?_
  refine g_callUW (As := [.ref (gz_ad (g_z X0) 0), .int (nI (nv))]) (rest := []) h (hL_far_x1 (zy (g_z X0) (gz_ad (g_z X0)) (gz_ex (g_z X0))) S (nv) hnd hl0 (by omega) (by omega)) (vx_cwSW 2 K.1.2.2.2.2 gL_refuses_L_far rfl rfl rfl (by decide +kernel) ⟨by rw [h.R, hR]; exact Nat.le_of_ble_eq_true rfl, by rw [h.R, hR]; exact Nat.le_of_ble_eq_true rfl⟩) rfl rfl (Nat.le_of_ble_eq_true rfl) dL_refuses_243 (by rw [h.R, hR]; exact Nat.le_of_ble_eq_true rfl) (by rw [h.R, hR]; exact Nat.le_of_ble_eq_true rfl) (fun X v S w9 hq h => ?_)
  obtain ⟨rfl, hnd, rfl⟩ := hq
  have h : gCx X0 X cL_refuses 9 wsL_refuses (gz_ad (g_z X0)) (gz_ex (g_z X0)) 15 15 90 := h
  have K := h.2.1
  refine g_ldc (w := -2000000001) K 2294967295 (K.1.2.2.2.2 _ (by decide +kernel)) (by decide +kernel) dL_refuses_246 ?_
  refine g_icmp_ne (tgt := 293) (a := 2294967295) (b := 2294967295) K dL_refuses_248 (by decide) (by omega) (by omega) (fun h248 => absurd h248 (by omega)) (fun h248 => ?_)
  refine g_aload_n K 0 dL_refuses_251 rfl ?_
  refine g_iconst K 4294967295 dL_refuses_252 (by decide +kernel) ?_
  refine g_iload_n K 1 dL_refuses_253 rfl ?_
  refine g_isub (a := 4294967295) (b := x) K (by omega) dL_refuses_254 ?_
  refine g_callUW (As := [.ref (gz_ad (g_z X0) 0), .int (nI ((4294967295) - (x)))]) (rest := []) h (hL_flush_x1 (zy (g_z X0) (gz_ad (g_z X0)) (gz_ex (g_z X0))) S ((4294967295) - (x)) hnd hl0 (by omega)) (vx_cwSW 2 K.1.2.2.2.2 gL_refuses_L_flush rfl rfl rfl (by decide +kernel) ⟨by rw [h.R, hR]; exact Nat.le_of_ble_eq_true rfl, by rw [h.R, hR]; exact Nat.le_of_ble_eq_true rfl⟩) rfl rfl (Nat.le_of_ble_eq_true rfl) dL_refuses_255 (by rw [h.R, hR]; exact Nat.le_of_ble_eq_true rfl) (by rw [h.R, hR]; exact Nat.le_of_ble_eq_true rfl) (fun X v S w9 hq h => ?_)
  obtain ⟨rfl, hnd, rfl⟩ := hq
  have h : gCx X0 X cL_refuses 9 wsL_refuses (gz_ad (g_z X0)) (gz_ex (g_z X0)) 16 16 96 := h
  have K := h.2.1
  refine g_ldc (w := -2000000001) K 2294967295 (K.1.2.2.2.2 _ (by decide +kernel)) (by decide +kernel) dL_refuses_258 ?_
  refine g_icmp_ne (tgt := 293) (a := 2294967295) (b := 2294967295) K dL_refuses_260 (by decide) (by omega) (by omega) (fun h260 => absurd h260 (by omega)) (fun h260 => ?_)
  refine g_aload_n K 0 dL_refuses_263 rfl ?_
  refine g_aload_n K 0 dL_refuses_264 rfl ?_
  refine g_callVq (As := []) (rest := [.ref (gz_ad (g_z X0) 0)]) h (cX5_pipes_k (zy (g_z X0) (gz_ad (g_z X0)) (gz_ex (g_z X0))) S) (cwV 0 K.1.2.2.2.2 gL_refuses_X5_pipes rfl rfl rfl (by decide +kernel) ⟨by rw [h.R, hR]; exact Nat.le_of_ble_eq_true rfl, by rw [h.R, hR]; exact Nat.le_of_ble_eq_true rfl⟩) rfl rfl (Nat.le_of_ble_eq_true rfl) dL_refuses_265 ?_
  refine g_topE (0) hnd.2.2.1 ?_
  refine g_iload_n K 1 dL_refuses_268 rfl ?_
  refine g_iadd (a := 0) (b := x) K dL_refuses_269 ?_
  refine g_callUW (As := [.ref (gz_ad (g_z X0) 0), .int (nI ((0) + (x)))]) (rest := []) h (hL_flush_x1 (zy (g_z X0) (gz_ad (g_z X0)) (gz_ex (g_z X0))) S ((0) + (x)) hnd hl0 (by omega)) (vx_cwSW 2 K.1.2.2.2.2 gL_refuses_L_flush rfl rfl rfl (by decide +kernel) ⟨by rw [h.R, hR]; exact Nat.le_of_ble_eq_true rfl, by rw [h.R, hR]; exact Nat.le_of_ble_eq_true rfl⟩) rfl rfl (Nat.le_of_ble_eq_true rfl) dL_refuses_270 (by rw [h.R, hR]; exact Nat.le_of_ble_eq_true rfl) (by rw [h.R, hR]; exact Nat.le_of_ble_eq_true rfl) (fun X v S w9 hq h => ?_)
  obtain ⟨rfl, hnd, rfl⟩ := hq
  have h : gCx X0 X cL_refuses 9 wsL_refuses (gz_ad (g_z X0)) (gz_ex (g_z X0)) 17 17 102 := h
  have K := h.2.1
  refine g_ldc (w := -2000000001) K 2294967295 (K.1.2.2.2.2 _ (by decide +kernel)) (by decide +kernel) dL_refuses_273 ?_
  refine g_icmp_ne (tgt := 293) (a := 2294967295) (b := 2294967295) K dL_refuses_275 (by decide) (by omega) (by omega) (fun h275 => absurd h275 (by omega)) (fun h275 => ?_)
  refine g_aload_n K 0 dL_refuses_278 rfl ?_
  refine g_iload_n K 2 dL_refuses_279 rfl ?_
  refine g_iconst K 4294967295 dL_refuses_280 (by decide +kernel) ?_
  refine g_callUW (As := [.ref (gz_ad (g_z X0) 0), .int (nI (nv)), .int (nI (4294967295))]) (rest := []) h (hL_walks_x1 (zy (g_z X0) (gz_ad (g_z X0)) (gz_ex (g_z X0))) S (nv) (4294967295) hnd hl0 (by omega) (by omega) (by omega)) (vx_cwSW 3 K.1.2.2.2.2 gL_refuses_L_walks rfl rfl rfl (by decide +kernel) ⟨by rw [h.R, hR]; exact Nat.le_of_ble_eq_true rfl, by rw [h.R, hR]; exact Nat.le_of_ble_eq_true rfl⟩) rfl rfl (Nat.le_of_ble_eq_true rfl) dL_refuses_281 (by rw [h.R, hR]; exact Nat.le_of_ble_eq_true rfl) (by rw [h.R, hR]; exact Nat.le_of_ble_eq_true rfl) (fun X v S w9 hq h => ?_)
  obtain ⟨rfl, hnd, rfl⟩ := hq
  have h : gCx X0 X cL_refuses 9 wsL_refuses (gz_ad (g_z X0)) (gz_ex (g_z X0)) 18 18 108 := h
  have K := h.2.1
  refine g_ldc (w := -2000000001) K 2294967295 (K.1.2.2.2.2 _ (by decide +kernel)) (by decide +kernel) dL_refuses_284 ?_
  refine g_icmp_ne (tgt := 293) (a := 2294967295) (b := 2294967295) K dL_refuses_286 (by decide) (by omega) (by omega) (fun h286 => absurd h286 (by omega)) (fun h286 => ?_)
  refine g_iconst K 1 dL_refuses_289 (by decide +kernel) ?_
  refine g_goto (tgt := 294) K dL_refuses_290 (by decide) ?_
  refine g_istore (lo' := [(6, .int (nI (1))), (0, .ref (gz_ad (g_z X0) 0)), (1, .int (nI (x))), (3, .int (nI (nv))), (4, .int (nI (pv))), (5, .int (nI (vv)))]) K dL_refuses_294 (by decide) rfl ?_
  refine g_iload K 0 dL_refuses_296 rfl ?_
  refine g_if_eq (tgt := 509) (a := 1) K dL_refuses_298 (by decide) (by omega) (fun h298 => absurd h298 (by omega)) (fun h298 => ?_)
  refine g_aload_n K 1 dL_refuses_301 rfl ?_
  refine g_callVq (As := []) (rest := []) h (cX5_nodes_k (zy (g_z X0) (gz_ad (g_z X0)) (gz_ex (g_z X0))) S) (cwV 0 K.1.2.2.2.2 gL_refuses_X5_nodes rfl rfl rfl (by decide +kernel) ⟨by rw [h.R, hR]; exact Nat.le_of_ble_eq_true rfl, by rw [h.R, hR]; exact Nat.le_of_ble_eq_true rfl⟩) rfl rfl (Nat.le_of_ble_eq_true rfl) dL_refuses_302 ?_
  refine g_topE (n) hnd.2.1 ?_
  refine g_iconst K 1 dL_refuses_305 (by decide +kernel) ?_
  refine g_icmp_le (tgt := 509) (a := n) (b := 1) K dL_refuses_306 (by decide) (by omega) (by omega) (fun h306 => ?_) (fun h306 => absurd h306 (by omega))
  refine g_iload K 0 dL_refuses_509 rfl ?_
  refine g_if_eq (tgt := 591) (a := 1) K dL_refuses_511 (by decide) (by omega) (fun h511 => absurd h511 (by omega)) (fun h511 => ?_)
  refine g_aload_n K 1 dL_refuses_514 rfl ?_
  refine g_callVq (As := []) (rest := []) h (cX5_pipes_k (zy (g_z X0) (gz_ad (g_z X0)) (gz_ex (g_z X0))) S) (cwV 0 K.1.2.2.2.2 gL_refuses_X5_pipes rfl rfl rfl (by decide +kernel) ⟨by rw [h.R, hR]; exact Nat.le_of_ble_eq_true rfl, by rw [h.R, hR]; exact Nat.le_of_ble_eq_true rfl⟩) rfl rfl (Nat.le_of_ble_eq_true rfl) dL_refuses_515 ?_
  refine g_topE (0) hnd.2.2.1 ?_
  refine g_if_le (tgt := 591) (a := 0) K dL_refuses_518 (by decide) (by omega) (fun h518 => ?_) (fun h518 => absurd h518 (by omega))
  refine g_iload K 0 dL_refuses_591 rfl ?_
  refine g_if_eq (tgt := 619) (a := 1) K dL_refuses_593 (by decide) (by omega) (fun h593 => absurd h593 (by omega)) (fun h593 => ?_)
  refine g_aload_n K 1 dL_refuses_596 rfl ?_
  refine g_callVq (As := []) (rest := []) h (cX5_nodes_k (zy (g_z X0) (gz_ad (g_z X0)) (gz_ex (g_z X0))) S) (cwV 0 K.1.2.2.2.2 gL_refuses_X5_nodes rfl rfl rfl (by decide +kernel) ⟨by rw [h.R, hR]; exact Nat.le_of_ble_eq_true rfl, by rw [h.R, hR]; exact Nat.le_of_ble_eq_true rfl⟩) rfl rfl (Nat.le_of_ble_eq_true rfl) dL_refuses_597 ?_
  refine g_topE (n) hnd.2.1 ?_
  refine g_bipush K 12 dL_refuses_600 (by decide +kernel) ?_
  refine g_icmp_lt (tgt := 615) (a := n) (b := 12) K dL_refuses_602 (by decide) (by omega) (by omega) (fun h602 => ?_) (fun h602 => absurd h602 (by omega))
  refine g_iconst K 1 dL_refuses_615 (by decide +kernel) ?_
  refine g_goto (tgt := 620) K dL_refuses_616 (by decide) ?_
  exact hret X _ _ 1 _ _ _ _ _ h (by decide) (by decide) (by decide) ⟨rfl, hnd, rfl⟩ (Or.inr ⟨rfl, by decide⟩) dL_refuses_620

set_option maxHeartbeats 4000000 in
set_option maxRecDepth 100000 in
theorem refuses_lo (Z : gZ) (S : Nat → Nat → Nat) {n : Nat} (x : Nat) (hnd : nd S n) (hl0 : (gz_l Z).stackTraces = false) (hn : n ≤ 1) (hx : x < 10000) : gMu Z yL_refuses wsL_refuses rmR [.ref (gz_ad Z 0), .int (nI (x))] S (fun v S1 w => v = 1 ∧ nd S1 n ∧ w = gz_ex Z) 40 240 18 := by
  refine gMu_of (cc := cL_refuses) (maxL := 9) (ret := some .boolean) (by decide +kernel) rfl rfl (Nat.le_of_ble_eq_true rfl) (fun X0 hZ hR h hret => ?_)
  subst hZ
  have K := h.2.1
  show gG X0 0 [(0, .ref (gz_ad (g_z X0) 0)), (1, .int (nI (x)))] [] S
  refine g_iload_n K 1 dL_refuses_0 rfl ?_
  refine g_iconst K 2 dL_refuses_1 (by decide +kernel) ?_
  refine g_irem (a := x) (b := 2) K (by omega) (by omega) (by omega) dL_refuses_2 ?_
  refine g_if_ne (tgt := 10) (a := (x) % (2)) K dL_refuses_3 (by decide) (by omega) (fun h3 => ?_) (fun h3 => ?_)
  · refine g_iconst K 0 dL_refuses_10 (by decide +kernel) ?_
    refine g_istore_n (lo' := [(2, .int (nI (0))), (0, .ref (gz_ad (g_z X0) 0)), (1, .int (nI (x)))]) K dL_refuses_11 (by decide) rfl ?_
    refine g_iload_n K 0 dL_refuses_12 rfl ?_
    refine g_if_eq (tgt := 25) (a := 0) K dL_refuses_13 (by decide) (by omega) (fun h13 => ?_) (fun h13 => absurd h13 (by omega))
    refine g_aload_n K 1 dL_refuses_25 rfl ?_
    refine g_callVq (As := []) (rest := []) h (cX5_nodes_k (zy (g_z X0) (gz_ad (g_z X0)) (gz_ex (g_z X0))) S) (cwV 0 K.1.2.2.2.2 gL_refuses_X5_nodes rfl rfl rfl (by decide +kernel) ⟨by rw [h.R, hR]; exact Nat.le_of_ble_eq_true rfl, by rw [h.R, hR]; exact Nat.le_of_ble_eq_true rfl⟩) rfl rfl (Nat.le_of_ble_eq_true rfl) dL_refuses_26 ?_
    refine g_topE (n) hnd.2.1 ?_
    refine g_iload_n K 2 dL_refuses_29 rfl ?_
    refine g_bipush K 50 dL_refuses_30 (by decide +kernel) ?_
    refine g_irem (a := x) (b := 50) K (by omega) (by omega) (by omega) dL_refuses_32 ?_
    refine g_iadd (a := n) (b := (x) % (50)) K dL_refuses_33 ?_
    refine g_istore_n (lo' := [(3, .int (nI ((n) + ((x) % (50))))), (2, .int (nI (0))), (0, .ref (gz_ad (g_z X0) 0)), (1, .int (nI (x)))]) K dL_refuses_34 (by decide) rfl ?_
    refine g_iload_n K 1 dL_refuses_35 rfl ?_
    refine g_if_eq (tgt := 48) (a := 0) K dL_refuses_36 (by decide) (by omega) (fun h36 => ?_) (fun h36 => absurd h36 (by omega))
    refine g_aload_n K 2 dL_refuses_48 rfl ?_
    refine g_callVq (As := []) (rest := []) h (cX5_pipes_k (zy (g_z X0) (gz_ad (g_z X0)) (gz_ex (g_z X0))) S) (cwV 0 K.1.2.2.2.2 gL_refuses_X5_pipes rfl rfl rfl (by decide +kernel) ⟨by rw [h.R, hR]; exact Nat.le_of_ble_eq_true rfl, by rw [h.R, hR]; exact Nat.le_of_ble_eq_true rfl⟩) rfl rfl (Nat.le_of_ble_eq_true rfl) dL_refuses_49 ?_
    refine g_topE (0) hnd.2.2.1 ?_
    refine g_iload_n K 3 dL_refuses_52 rfl ?_
    refine g_bipush K 50 dL_refuses_53 (by decide +kernel) ?_
    refine g_irem (a := x) (b := 50) K (by omega) (by omega) (by omega) dL_refuses_55 ?_
    refine g_iadd (a := 0) (b := (x) % (50)) K dL_refuses_56 ?_
    refine g_istore (lo' := [(4, .int (nI ((0) + ((x) % (50))))), (3, .int (nI ((n) + ((x) % (50))))), (2, .int (nI (0))), (0, .ref (gz_ad (g_z X0) 0)), (1, .int (nI (x)))]) K dL_refuses_57 (by decide) rfl ?_
    refine g_iload_n K 2 dL_refuses_59 rfl ?_
    refine g_if_eq (tgt := 72) (a := 0) K dL_refuses_60 (by decide) (by omega) (fun h60 => ?_) (fun h60 => absurd h60 (by omega))
    refine g_aload_n K 3 dL_refuses_72 rfl ?_
    refine g_callVq (As := []) (rest := []) h (cX5_valves_k (zy (g_z X0) (gz_ad (g_z X0)) (gz_ex (g_z X0))) S) (cwV 0 K.1.2.2.2.2 gL_refuses_X5_valves rfl rfl rfl (by decide +kernel) ⟨by rw [h.R, hR]; exact Nat.le_of_ble_eq_true rfl, by rw [h.R, hR]; exact Nat.le_of_ble_eq_true rfl⟩) rfl rfl (Nat.le_of_ble_eq_true rfl) dL_refuses_73 ?_
    refine g_topE (0) hnd.2.2.2 ?_
    refine g_iload_n K 4 dL_refuses_76 rfl ?_
    refine g_bipush K 50 dL_refuses_77 (by decide +kernel) ?_
    refine g_irem (a := x) (b := 50) K (by omega) (by omega) (by omega) dL_refuses_79 ?_
    refine g_iadd (a := 0) (b := (x) % (50)) K dL_refuses_80 ?_
    refine g_istore (lo' := [(5, .int (nI ((0) + ((x) % (50))))), (4, .int (nI ((0) + ((x) % (50))))), (3, .int (nI ((n) + ((x) % (50))))), (2, .int (nI (0))), (0, .ref (gz_ad (g_z X0) 0)), (1, .int (nI (x)))]) K dL_refuses_81 (by decide) rfl ?_
    refine g_loc (lo' := [(0, .ref (gz_ad (g_z X0) 0)), (1, .int (nI (x))), (3, .int (nI ((n) + ((x) % (50))))), (4, .int (nI ((0) + ((x) % (50))))), (5, .int (nI ((0) + ((x) % (50)))))]) [4, 5, 2, 1, 0] rfl ?_
    exact refuses_lo_t hR hnd hl0 hn hx (by omega) (by omega) (by omega) (by omega) h hret
  · refine g_iconst K 1 dL_refuses_6 (by decide +kernel) ?_
    refine g_goto (tgt := 11) K dL_refuses_7 (by decide) ?_
    refine g_istore_n (lo' := [(2, .int (nI (1))), (0, .ref (gz_ad (g_z X0) 0)), (1, .int (nI (x)))]) K dL_refuses_11 (by decide) rfl ?_
    refine g_iload_n K 0 dL_refuses_12 rfl ?_
    refine g_if_eq (tgt := 25) (a := 1) K dL_refuses_13 (by decide) (by omega) (fun h13 => absurd h13 (by omega)) (fun h13 => ?_)
    refine g_iconst K 4294967295 dL_refuses_16 (by decide +kernel) ?_
    refine g_iload_n K 2 dL_refuses_17 rfl ?_
    refine g_bipush K 50 dL_refuses_18 (by decide +kernel) ?_
    refine g_irem (a := x) (b := 50) K (by omega) (by omega) (by omega) dL_refuses_20 ?_
    refine g_isub (a := 4294967295) (b := (x) % (50)) K (by omega) dL_refuses_21 ?_
    refine g_goto (tgt := 34) K dL_refuses_22 (by decide) ?_
    refine g_istore_n (lo' := [(3, .int (nI ((4294967295) - ((x) % (50))))), (2, .int (nI (1))), (0, .ref (gz_ad (g_z X0) 0)), (1, .int (nI (x)))]) K dL_refuses_34 (by decide) rfl ?_
    refine g_iload_n K 1 dL_refuses_35 rfl ?_
    refine g_if_eq (tgt := 48) (a := 1) K dL_refuses_36 (by decide) (by omega) (fun h36 => absurd h36 (by omega)) (fun h36 => ?_)
    refine g_iconst K 4294967295 dL_refuses_39 (by decide +kernel) ?_
    refine g_iload_n K 3 dL_refuses_40 rfl ?_
    refine g_bipush K 50 dL_refuses_41 (by decide +kernel) ?_
    refine g_irem (a := x) (b := 50) K (by omega) (by omega) (by omega) dL_refuses_43 ?_
    refine g_isub (a := 4294967295) (b := (x) % (50)) K (by omega) dL_refuses_44 ?_
    refine g_goto (tgt := 57) K dL_refuses_45 (by decide) ?_
    refine g_istore (lo' := [(4, .int (nI ((4294967295) - ((x) % (50))))), (3, .int (nI ((4294967295) - ((x) % (50))))), (2, .int (nI (1))), (0, .ref (gz_ad (g_z X0) 0)), (1, .int (nI (x)))]) K dL_refuses_57 (by decide) rfl ?_
    refine g_iload_n K 2 dL_refuses_59 rfl ?_
    refine g_if_eq (tgt := 72) (a := 1) K dL_refuses_60 (by decide) (by omega) (fun h60 => absurd h60 (by omega)) (fun h60 => ?_)
    refine g_iconst K 4294967295 dL_refuses_63 (by decide +kernel) ?_
    refine g_iload_n K 4 dL_refuses_64 rfl ?_
    refine g_bipush K 50 dL_refuses_65 (by decide +kernel) ?_
    refine g_irem (a := x) (b := 50) K (by omega) (by omega) (by omega) dL_refuses_67 ?_
    refine g_isub (a := 4294967295) (b := (x) % (50)) K (by omega) dL_refuses_68 ?_
    refine g_goto (tgt := 81) K dL_refuses_69 (by decide) ?_
    refine g_istore (lo' := [(5, .int (nI ((4294967295) - ((x) % (50))))), (4, .int (nI ((4294967295) - ((x) % (50))))), (3, .int (nI ((4294967295) - ((x) % (50))))), (2, .int (nI (1))), (0, .ref (gz_ad (g_z X0) 0)), (1, .int (nI (x)))]) K dL_refuses_81 (by decide) rfl ?_
    refine g_loc (lo' := [(0, .ref (gz_ad (g_z X0) 0)), (1, .int (nI (x))), (3, .int (nI ((4294967295) - ((x) % (50))))), (4, .int (nI ((4294967295) - ((x) % (50))))), (5, .int (nI ((4294967295) - ((x) % (50)))))]) [4, 5, 2, 1, 0] rfl ?_
    exact refuses_lo_t hR hnd hl0 hn hx (by omega) (by omega) (by omega) (by omega) h hret

set_option maxHeartbeats 4000000 in
set_option maxRecDepth 100000 in
theorem refuses_hi_t {X0 : gC} {S : Nat → Nat → Nat} {n x nv pv vv : Nat} (hR : g_R X0 = rmR) (hnd : nd S n) (hl0 : (gz_l (g_z X0)).stackTraces = false) (hn : 2 ≤ n ∧ n < 12) (hx : x < 10000) (hnv : n ≤ nv) (hnv2 : nv < 4294967296) (hpv : pv < 4294967296) (hvv : vv < 4294967296) (h : gCx X0 X0 cL_refuses 9 wsL_refuses (gz_ad (g_z X0)) (gz_ex (g_z X0)) 0 0 0)
    (hret : gRet X0 cL_refuses 9 wsL_refuses (fun v S1 w => v = 1 ∧ nd S1 n ∧ w = gz_ex (g_z X0)) 40 240 26 (some .boolean)) : gG X0 83 [(0, .ref (gz_ad (g_z X0) 0)), (1, .int (nI (x))), (3, .int (nI (nv))), (4, .int (nI (pv))), (5, .int (nI (vv)))] [] S := by
  have K := h.2.1
  refine g_aload_n K 0 dL_refuses_83 rfl ?_
  refine g_iload_n K 2 dL_refuses_84 rfl ?_
  refine g_iload_n K 2 dL_refuses_85 rfl ?_
  refine g_iconst K 0 dL_refuses_86 (by decide +kernel) ?_
  refine g_iconst K 0 dL_refuses_87 (by decide +kernel) ?_
  refine g_callUW (As := [.ref (gz_ad (g_z X0) 0), .int (nI (nv)), .int (nI (nv)), .int (nI (0)), .int (nI (0))]) (rest := []) h (hL_pipes_x1 (zy (g_z X0) (gz_ad (g_z X0)) (gz_ex (g_z X0))) S (nv) (nv) (0) (0) hnd hl0 (by omega) (by omega) (by omega) (by omega) (by omega)) (vx_cwSW 5 K.1.2.2.2.2 gL_refuses_L_pipes rfl rfl rfl (by decide +kernel) ⟨by rw [h.R, hR]; exact Nat.le_of_ble_eq_true rfl, by rw [h.R, hR]; exact Nat.le_of_ble_eq_true rfl⟩) rfl rfl (Nat.le_of_ble_eq_true rfl) dL_refuses_88 (by rw [h.R, hR]; exact Nat.le_of_ble_eq_true rfl) (by rw [h.R, hR]; exact Nat.le_of_ble_eq_true rfl) (fun X v S w9 hq h => ?_)
  obtain ⟨rfl, hnd, rfl⟩ := hq
  have h : gCx X0 X cL_refuses 9 wsL_refuses (gz_ad (g_z X0)) (gz_ex (g_z X0)) 1 1 6 := h
  have K := h.2.1
  refine g_ldc (w := -2000000001) K 2294967295 (K.1.2.2.2.2 _ (by decide +kernel)) (by decide +kernel) dL_refuses_91 ?_
  refine g_icmp_ne (tgt := 293) (a := 2294967295) (b := 2294967295) K dL_refuses_93 (by decide) (by omega) (by omega) (fun h93 => absurd h93 (by omega)) (fun h93 => ?_)
  refine g_aload_n K 0 dL_refuses_96 rfl ?_
  refine g_iload K 3 dL_refuses_97 rfl ?_
  refine g_bipush K 7 dL_refuses_99 (by decide +kernel) ?_
  refine g_callUW (As := [.ref (gz_ad (g_z X0) 0), .int (nI (pv)), .int (nI (7))]) (rest := []) h (hL_valves_x1 (zy (g_z X0) (gz_ad (g_z X0)) (gz_ex (g_z X0))) S (pv) (7) hnd hl0 (by omega) (by omega)) (vx_cwSW 3 K.1.2.2.2.2 gL_refuses_L_valves rfl rfl rfl (by decide +kernel) ⟨by rw [h.R, hR]; exact Nat.le_of_ble_eq_true rfl, by rw [h.R, hR]; exact Nat.le_of_ble_eq_true rfl⟩) rfl rfl (Nat.le_of_ble_eq_true rfl) dL_refuses_101 (by rw [h.R, hR]; exact Nat.le_of_ble_eq_true rfl) (by rw [h.R, hR]; exact Nat.le_of_ble_eq_true rfl) (fun X v S w9 hq h => ?_)
  obtain ⟨rfl, hnd, rfl⟩ := hq
  have h : gCx X0 X cL_refuses 9 wsL_refuses (gz_ad (g_z X0)) (gz_ex (g_z X0)) 2 2 12 := h
  have K := h.2.1
  refine g_ldc (w := -2000000001) K 2294967295 (K.1.2.2.2.2 _ (by decide +kernel)) (by decide +kernel) dL_refuses_104 ?_
  refine g_icmp_ne (tgt := 293) (a := 2294967295) (b := 2294967295) K dL_refuses_106 (by decide) (by omega) (by omega) (fun h106 => absurd h106 (by omega)) (fun h106 => ?_)
  refine g_aload_n K 0 dL_refuses_109 rfl ?_
  refine g_iload_n K 2 dL_refuses_110 rfl ?_
  refine g_iconst K 1 dL_refuses_111 (by decide +kernel) ?_
  refine g_callUW (As := [.ref (gz_ad (g_z X0) 0), .int (nI (nv)), .int (nI (1))]) (rest := []) h (hL_sources_x1 (zy (g_z X0) (gz_ad (g_z X0)) (gz_ex (g_z X0))) S (nv) (1) hnd hl0 (by omega) (by omega)) (vx_cwSW 3 K.1.2.2.2.2 gL_refuses_L_sources rfl rfl rfl (by decide +kernel) ⟨by rw [h.R, hR]; exact Nat.le_of_ble_eq_true rfl, by rw [h.R, hR]; exact Nat.le_of_ble_eq_true rfl⟩) rfl rfl (Nat.le_of_ble_eq_true rfl) dL_refuses_112 (by rw [h.R, hR]; exact Nat.le_of_ble_eq_true rfl) (by rw [h.R, hR]; exact Nat.le_of_ble_eq_true rfl) (fun X v S w9 hq h => ?_)
  obtain ⟨rfl, hnd, rfl⟩ := hq
  have h : gCx X0 X cL_refuses 9 wsL_refuses (gz_ad (g_z X0)) (gz_ex (g_z X0)) 3 3 18 := h
  have K := h.2.1
  refine g_ldc (w := -2000000001) K 2294967295 (K.1.2.2.2.2 _ (by decide +kernel)) (by decide +kernel) dL_refuses_115 ?_
  refine g_icmp_ne (tgt := 293) (a := 2294967295) (b := 2294967295) K dL_refuses_117 (by decide) (by omega) (by omega) (fun h117 => absurd h117 (by omega)) (fun h117 => ?_)
  refine g_aload_n K 0 dL_refuses_120 rfl ?_
  refine g_iload K 4 dL_refuses_121 rfl ?_
  refine g_iconst K 1 dL_refuses_123 (by decide +kernel) ?_
  refine g_callUW (As := [.ref (gz_ad (g_z X0) 0), .int (nI (vv)), .int (nI (1))]) (rest := []) h (hL_sticks_x1 (zy (g_z X0) (gz_ad (g_z X0)) (gz_ex (g_z X0))) S (vv) (1) hnd hl0 (by omega)) (vx_cwSW 3 K.1.2.2.2.2 gL_refuses_L_sticks rfl rfl rfl (by decide +kernel) ⟨by rw [h.R, hR]; exact Nat.le_of_ble_eq_true rfl, by rw [h.R, hR]; exact Nat.le_of_ble_eq_true rfl⟩) rfl rfl (Nat.le_of_ble_eq_true rfl) dL_refuses_124 (by rw [h.R, hR]; exact Nat.le_of_ble_eq_true rfl) (by rw [h.R, hR]; exact Nat.le_of_ble_eq_true rfl) (fun X v S w9 hq h => ?_)
  obtain ⟨rfl, hnd, rfl⟩ := hq
  have h : gCx X0 X cL_refuses 9 wsL_refuses (gz_ad (g_z X0)) (gz_ex (g_z X0)) 4 4 24 := h
  have K := h.2.1
  refine g_ldc (w := -2000000001) K 2294967295 (K.1.2.2.2.2 _ (by decide +kernel)) (by decide +kernel) dL_refuses_127 ?_
  refine g_icmp_ne (tgt := 293) (a := 2294967295) (b := 2294967295) K dL_refuses_129 (by decide) (by omega) (by omega) (fun h129 => absurd h129 (by omega)) (fun h129 => ?_)
  refine g_aload_n K 0 dL_refuses_132 rfl ?_
  refine g_iload K 4 dL_refuses_133 rfl ?_
  refine g_iconst K 0 dL_refuses_135 (by decide +kernel) ?_
  refine g_callUW (As := [.ref (gz_ad (g_z X0) 0), .int (nI (vv)), .int (nI (0))]) (rest := []) h (hL_turns_x1 (zy (g_z X0) (gz_ad (g_z X0)) (gz_ex (g_z X0))) S (vv) (0) hnd hl0 (by omega)) (vx_cwSW 3 K.1.2.2.2.2 gL_refuses_L_turns rfl rfl rfl (by decide +kernel) ⟨by rw [h.R, hR]; exact Nat.le_of_ble_eq_true rfl, by rw [h.R, hR]; exact Nat.le_of_ble_eq_true rfl⟩) rfl rfl (Nat.le_of_ble_eq_true rfl) dL_refuses_136 (by rw [h.R, hR]; exact Nat.le_of_ble_eq_true rfl) (by rw [h.R, hR]; exact Nat.le_of_ble_eq_true rfl) (fun X v S w9 hq h => ?_)
  obtain ⟨rfl, hnd, rfl⟩ := hq
  have h : gCx X0 X cL_refuses 9 wsL_refuses (gz_ad (g_z X0)) (gz_ex (g_z X0)) 5 5 30 := h
  have K := h.2.1
  refine g_ldc (w := -2000000001) K 2294967295 (K.1.2.2.2.2 _ (by decide +kernel)) (by decide +kernel) dL_refuses_139 ?_
  refine g_icmp_ne (tgt := 293) (a := 2294967295) (b := 2294967295) K dL_refuses_141 (by decide) (by omega) (by omega) (fun h141 => absurd h141 (by omega)) (fun h141 => ?_)
  refine g_aload_n K 0 dL_refuses_144 rfl ?_
  refine g_iload_n K 2 dL_refuses_145 rfl ?_
  refine g_callUW (As := [.ref (gz_ad (g_z X0) 0), .int (nI (nv))]) (rest := []) h (hL_nodeDry_x1 (zy (g_z X0) (gz_ad (g_z X0)) (gz_ex (g_z X0))) S (nv) hnd hl0 (by omega) (by omega)) (vx_cwSW 2 K.1.2.2.2.2 gL_refuses_L_nodeDry rfl rfl rfl (by decide +kernel) ⟨by rw [h.R, hR]; exact Nat.le_of_ble_eq_true rfl, by rw [h.R, hR]; exact Nat.le_of_ble_eq_true rfl⟩) rfl rfl (Nat.le_of_ble_eq_true rfl) dL_refuses_146 (by rw [h.R, hR]; exact Nat.le_of_ble_eq_true rfl) (by rw [h.R, hR]; exact Nat.le_of_ble_eq_true rfl) (fun X v S w9 hq h => ?_)
  obtain ⟨rfl, hnd, rfl⟩ := hq
  have h : gCx X0 X cL_refuses 9 wsL_refuses (gz_ad (g_z X0)) (gz_ex (g_z X0)) 6 6 36 := h
  have K := h.2.1
  refine g_ldc (w := -2000000001) K 2294967295 (K.1.2.2.2.2 _ (by decide +kernel)) (by decide +kernel) dL_refuses_149 ?_
  refine g_icmp_ne (tgt := 293) (a := 2294967295) (b := 2294967295) K dL_refuses_151 (by decide) (by omega) (by omega) (fun h151 => absurd h151 (by omega)) (fun h151 => ?_)
  refine g_aload_n K 0 dL_refuses_154 rfl ?_
  refine g_iload K 3 dL_refuses_155 rfl ?_
  refine g_callUW (As := [.ref (gz_ad (g_z X0) 0), .int (nI (pv))]) (rest := []) h (hL_pipeDry_x1 (zy (g_z X0) (gz_ad (g_z X0)) (gz_ex (g_z X0))) S (pv) hnd hl0 (by omega)) (vx_cwSW 2 K.1.2.2.2.2 gL_refuses_L_pipeDry rfl rfl rfl (by decide +kernel) ⟨by rw [h.R, hR]; exact Nat.le_of_ble_eq_true rfl, by rw [h.R, hR]; exact Nat.le_of_ble_eq_true rfl⟩) rfl rfl (Nat.le_of_ble_eq_true rfl) dL_refuses_157 (by rw [h.R, hR]; exact Nat.le_of_ble_eq_true rfl) (by rw [h.R, hR]; exact Nat.le_of_ble_eq_true rfl) (fun X v S w9 hq h => ?_)
  obtain ⟨rfl, hnd, rfl⟩ := hq
  have h : gCx X0 X cL_refuses 9 wsL_refuses (gz_ad (g_z X0)) (gz_ex (g_z X0)) 7 7 42 := h
  have K := h.2.1
  refine g_ldc (w := -2000000001) K 2294967295 (K.1.2.2.2.2 _ (by decide +kernel)) (by decide +kernel) dL_refuses_160 ?_
  refine g_icmp_ne (tgt := 293) (a := 2294967295) (b := 2294967295) K dL_refuses_162 (by decide) (by omega) (by omega) (fun h162 => absurd h162 (by omega)) (fun h162 => ?_)
  refine g_aload_n K 0 dL_refuses_165 rfl ?_
  refine g_iload_n K 2 dL_refuses_166 rfl ?_
  refine g_callUW (As := [.ref (gz_ad (g_z X0) 0), .int (nI (nv))]) (rest := []) h (hL_ofNode_x1 (zy (g_z X0) (gz_ad (g_z X0)) (gz_ex (g_z X0))) S (nv) hnd hl0 (by omega) (by omega)) (vx_cwSW 2 K.1.2.2.2.2 gL_refuses_L_ofNode rfl rfl rfl (by decide +kernel) ⟨by rw [h.R, hR]; exact Nat.le_of_ble_eq_true rfl, by rw [h.R, hR]; exact Nat.le_of_ble_eq_true rfl⟩) rfl rfl (Nat.le_of_ble_eq_true rfl) dL_refuses_167 (by rw [h.R, hR]; exact Nat.le_of_ble_eq_true rfl) (by rw [h.R, hR]; exact Nat.le_of_ble_eq_true rfl) (fun X v S w9 hq h => ?_)
  obtain ⟨rfl, hnd, rfl⟩ := hq
  have h : gCx X0 X cL_refuses 9 wsL_refuses (gz_ad (g_z X0)) (gz_ex (g_z X0)) 8 8 48 := h
  have K := h.2.1
  refine g_ldc (w := -2000000001) K 2294967295 (K.1.2.2.2.2 _ (by decide +kernel)) (by decide +kernel) dL_refuses_170 ?_
  refine g_icmp_ne (tgt := 293) (a := 2294967295) (b := 2294967295) K dL_refuses_172 (by decide) (by omega) (by omega) (fun h172 => absurd h172 (by omega)) (fun h172 => ?_)
  refine g_aload_n K 0 dL_refuses_175 rfl ?_
  refine g_iload K 3 dL_refuses_176 rfl ?_
  refine g_callUW (As := [.ref (gz_ad (g_z X0) 0), .int (nI (pv))]) (rest := []) h (hL_ofPipe_x1 (zy (g_z X0) (gz_ad (g_z X0)) (gz_ex (g_z X0))) S (pv) hnd hl0 (by omega)) (vx_cwSW 2 K.1.2.2.2.2 gL_refuses_L_ofPipe rfl rfl rfl (by decide +kernel) ⟨by rw [h.R, hR]; exact Nat.le_of_ble_eq_true rfl, by rw [h.R, hR]; exact Nat.le_of_ble_eq_true rfl⟩) rfl rfl (Nat.le_of_ble_eq_true rfl) dL_refuses_178 (by rw [h.R, hR]; exact Nat.le_of_ble_eq_true rfl) (by rw [h.R, hR]; exact Nat.le_of_ble_eq_true rfl) (fun X v S w9 hq h => ?_)
  obtain ⟨rfl, hnd, rfl⟩ := hq
  have h : gCx X0 X cL_refuses 9 wsL_refuses (gz_ad (g_z X0)) (gz_ex (g_z X0)) 9 9 54 := h
  have K := h.2.1
  refine g_ldc (w := -2000000001) K 2294967295 (K.1.2.2.2.2 _ (by decide +kernel)) (by decide +kernel) dL_refuses_181 ?_
  refine g_icmp_ne (tgt := 293) (a := 2294967295) (b := 2294967295) K dL_refuses_183 (by decide) (by omega) (by omega) (fun h183 => absurd h183 (by omega)) (fun h183 => ?_)
  refine g_aload_n K 0 dL_refuses_186 rfl ?_
  refine g_iload K 3 dL_refuses_187 rfl ?_
  refine g_callUW (As := [.ref (gz_ad (g_z X0) 0), .int (nI (pv))]) (rest := []) h (hL_merged_x1 (zy (g_z X0) (gz_ad (g_z X0)) (gz_ex (g_z X0))) S (pv) hnd hl0 (by omega)) (vx_cwSW 2 K.1.2.2.2.2 gL_refuses_L_merged rfl rfl rfl (by decide +kernel) ⟨by rw [h.R, hR]; exact Nat.le_of_ble_eq_true rfl, by rw [h.R, hR]; exact Nat.le_of_ble_eq_true rfl⟩) rfl rfl (Nat.le_of_ble_eq_true rfl) dL_refuses_189 (by rw [h.R, hR]; exact Nat.le_of_ble_eq_true rfl) (by rw [h.R, hR]; exact Nat.le_of_ble_eq_true rfl) (fun X v S w9 hq h => ?_)
  obtain ⟨rfl, hnd, rfl⟩ := hq
  have h : gCx X0 X cL_refuses 9 wsL_refuses (gz_ad (g_z X0)) (gz_ex (g_z X0)) 10 10 60 := h
  have K := h.2.1
  refine g_ldc (w := -2000000001) K 2294967295 (K.1.2.2.2.2 _ (by decide +kernel)) (by decide +kernel) dL_refuses_192 ?_
  refine g_icmp_ne (tgt := 293) (a := 2294967295) (b := 2294967295) K dL_refuses_194 (by decide) (by omega) (by omega) (fun h194 => absurd h194 (by omega)) (fun h194 => ?_)
  refine g_aload_n K 0 dL_refuses_197 rfl ?_
  refine g_iload K 3 dL_refuses_198 rfl ?_
  refine g_callUW (As := [.ref (gz_ad (g_z X0) 0), .int (nI (pv))]) (rest := []) h (hL_ring_x1 (zy (g_z X0) (gz_ad (g_z X0)) (gz_ex (g_z X0))) S (pv) hnd hl0 (by omega)) (vx_cwSW 2 K.1.2.2.2.2 gL_refuses_L_ring rfl rfl rfl (by decide +kernel) ⟨by rw [h.R, hR]; exact Nat.le_of_ble_eq_true rfl, by rw [h.R, hR]; exact Nat.le_of_ble_eq_true rfl⟩) rfl rfl (Nat.le_of_ble_eq_true rfl) dL_refuses_200 (by rw [h.R, hR]; exact Nat.le_of_ble_eq_true rfl) (by rw [h.R, hR]; exact Nat.le_of_ble_eq_true rfl) (fun X v S w9 hq h => ?_)
  obtain ⟨rfl, hnd, rfl⟩ := hq
  have h : gCx X0 X cL_refuses 9 wsL_refuses (gz_ad (g_z X0)) (gz_ex (g_z X0)) 11 11 66 := h
  have K := h.2.1
  refine g_ldc (w := -2000000001) K 2294967295 (K.1.2.2.2.2 _ (by decide +kernel)) (by decide +kernel) dL_refuses_203 ?_
  refine g_icmp_ne (tgt := 293) (a := 2294967295) (b := 2294967295) K dL_refuses_205 (by decide) (by omega) (by omega) (fun h205 => absurd h205 (by omega)) (fun h205 => ?_)
  refine g_aload_n K 0 dL_refuses_208 rfl ?_
  refine g_iload K 3 dL_refuses_209 rfl ?_
  refine g_callUW (As := [.ref (gz_ad (g_z X0) 0), .int (nI (pv))]) (rest := []) h (hL_cut_x1 (zy (g_z X0) (gz_ad (g_z X0)) (gz_ex (g_z X0))) S (pv) hnd hl0 (by omega)) (vx_cwSW 2 K.1.2.2.2.2 gL_refuses_L_cut rfl rfl rfl (by decide +kernel) ⟨by rw [h.R, hR]; exact Nat.le_of_ble_eq_true rfl, by rw [h.R, hR]; exact Nat.le_of_ble_eq_true rfl⟩) rfl rfl (Nat.le_of_ble_eq_true rfl) dL_refuses_211 (by rw [h.R, hR]; exact Nat.le_of_ble_eq_true rfl) (by rw [h.R, hR]; exact Nat.le_of_ble_eq_true rfl) (fun X v S w9 hq h => ?_)
  obtain ⟨rfl, hnd, rfl⟩ := hq
  have h : gCx X0 X cL_refuses 9 wsL_refuses (gz_ad (g_z X0)) (gz_ex (g_z X0)) 12 12 72 := h
  have K := h.2.1
  refine g_ldc (w := -2000000001) K 2294967295 (K.1.2.2.2.2 _ (by decide +kernel)) (by decide +kernel) dL_refuses_214 ?_
  refine g_icmp_ne (tgt := 293) (a := 2294967295) (b := 2294967295) K dL_refuses_216 (by decide) (by omega) (by omega) (fun h216 => absurd h216 (by omega)) (fun h216 => ?_)
  refine g_aload_n K 0 dL_refuses_219 rfl ?_
  refine g_iload K 3 dL_refuses_220 rfl ?_
  refine g_callUW (As := [.ref (gz_ad (g_z X0) 0), .int (nI (pv))]) (rest := []) h (hL_fewest_x1 (zy (g_z X0) (gz_ad (g_z X0)) (gz_ex (g_z X0))) S (pv) hnd hl0 (by omega)) (vx_cwSW 2 K.1.2.2.2.2 gL_refuses_L_fewest rfl rfl rfl (by decide +kernel) ⟨by rw [h.R, hR]; exact Nat.le_of_ble_eq_true rfl, by rw [h.R, hR]; exact Nat.le_of_ble_eq_true rfl⟩) rfl rfl (Nat.le_of_ble_eq_true rfl) dL_refuses_222 (by rw [h.R, hR]; exact Nat.le_of_ble_eq_true rfl) (by rw [h.R, hR]; exact Nat.le_of_ble_eq_true rfl) (fun X v S w9 hq h => ?_)
  obtain ⟨rfl, hnd, rfl⟩ := hq
  have h : gCx X0 X cL_refuses 9 wsL_refuses (gz_ad (g_z X0)) (gz_ex (g_z X0)) 13 13 78 := h
  have K := h.2.1
  refine g_ldc (w := -2000000001) K 2294967295 (K.1.2.2.2.2 _ (by decide +kernel)) (by decide +kernel) dL_refuses_225 ?_
  refine g_icmp_ne (tgt := 293) (a := 2294967295) (b := 2294967295) K dL_refuses_227 (by decide) (by omega) (by omega) (fun h227 => absurd h227 (by omega)) (fun h227 => ?_)
  refine g_aload_n K 0 dL_refuses_230 rfl ?_
  refine g_iload K 3 dL_refuses_231 rfl ?_
  refine g_callUW (As := [.ref (gz_ad (g_z X0) 0), .int (nI (pv))]) (rest := []) h (hL_tried_x1 (zy (g_z X0) (gz_ad (g_z X0)) (gz_ex (g_z X0))) S (pv) hnd hl0 (by omega)) (vx_cwSW 2 K.1.2.2.2.2 gL_refuses_L_tried rfl rfl rfl (by decide +kernel) ⟨by rw [h.R, hR]; exact Nat.le_of_ble_eq_true rfl, by rw [h.R, hR]; exact Nat.le_of_ble_eq_true rfl⟩) rfl rfl (Nat.le_of_ble_eq_true rfl) dL_refuses_233 (by rw [h.R, hR]; exact Nat.le_of_ble_eq_true rfl) (by rw [h.R, hR]; exact Nat.le_of_ble_eq_true rfl) (fun X v S w9 hq h => ?_)
  obtain ⟨rfl, hnd, rfl⟩ := hq
  have h : gCx X0 X cL_refuses 9 wsL_refuses (gz_ad (g_z X0)) (gz_ex (g_z X0)) 14 14 84 := h
  have K := h.2.1
  refine g_ldc (w := -2000000001) K 2294967295 (K.1.2.2.2.2 _ (by decide +kernel)) (by decide +kernel) dL_refuses_236 ?_
  refine g_icmp_ne (tgt := 293) (a := 2294967295) (b := 2294967295) K dL_refuses_238 (by decide) (by omega) (by omega) (fun h238 => absurd h238 (by omega)) (fun h238 => ?_)
  refine g_aload_n K 0 dL_refuses_241 rfl ?_
  refine g_iload_n K 2 dL_refuses_242 rfl ?_
  refine g_callUW (As := [.ref (gz_ad (g_z X0) 0), .int (nI (nv))]) (rest := []) h (hL_far_x1 (zy (g_z X0) (gz_ad (g_z X0)) (gz_ex (g_z X0))) S (nv) hnd hl0 (by omega) (by omega)) (vx_cwSW 2 K.1.2.2.2.2 gL_refuses_L_far rfl rfl rfl (by decide +kernel) ⟨by rw [h.R, hR]; exact Nat.le_of_ble_eq_true rfl, by rw [h.R, hR]; exact Nat.le_of_ble_eq_true rfl⟩) rfl rfl (Nat.le_of_ble_eq_true rfl) dL_refuses_243 (by rw [h.R, hR]; exact Nat.le_of_ble_eq_true rfl) (by rw [h.R, hR]; exact Nat.le_of_ble_eq_true rfl) (fun X v S w9 hq h => ?_)
  obtain ⟨rfl, hnd, rfl⟩ := hq
  have h : gCx X0 X cL_refuses 9 wsL_refuses (gz_ad (g_z X0)) (gz_ex (g_z X0)) 15 15 90 := h
  have K := h.2.1
  refine g_ldc (w := -2000000001) K 2294967295 (K.1.2.2.2.2 _ (by decide +kernel)) (by decide +kernel) dL_refuses_246 ?_
  refine g_icmp_ne (tgt := 293) (a := 2294967295) (b := 2294967295) K dL_refuses_248 (by decide) (by omega) (by omega) (fun h248 => absurd h248 (by omega)) (fun h248 => ?_)
  refine g_aload_n K 0 dL_refuses_251 rfl ?_
  refine g_iconst K 4294967295 dL_refuses_252 (by decide +kernel) ?_
  refine g_iload_n K 1 dL_refuses_253 rfl ?_
  refine g_isub (a := 4294967295) (b := x) K (by omega) dL_refuses_254 ?_
  refine g_callUW (As := [.ref (gz_ad (g_z X0) 0), .int (nI ((4294967295) - (x)))]) (rest := []) h (hL_flush_x1 (zy (g_z X0) (gz_ad (g_z X0)) (gz_ex (g_z X0))) S ((4294967295) - (x)) hnd hl0 (by omega)) (vx_cwSW 2 K.1.2.2.2.2 gL_refuses_L_flush rfl rfl rfl (by decide +kernel) ⟨by rw [h.R, hR]; exact Nat.le_of_ble_eq_true rfl, by rw [h.R, hR]; exact Nat.le_of_ble_eq_true rfl⟩) rfl rfl (Nat.le_of_ble_eq_true rfl) dL_refuses_255 (by rw [h.R, hR]; exact Nat.le_of_ble_eq_true rfl) (by rw [h.R, hR]; exact Nat.le_of_ble_eq_true rfl) (fun X v S w9 hq h => ?_)
  obtain ⟨rfl, hnd, rfl⟩ := hq
  have h : gCx X0 X cL_refuses 9 wsL_refuses (gz_ad (g_z X0)) (gz_ex (g_z X0)) 16 16 96 := h
  have K := h.2.1
  refine g_ldc (w := -2000000001) K 2294967295 (K.1.2.2.2.2 _ (by decide +kernel)) (by decide +kernel) dL_refuses_258 ?_
  refine g_icmp_ne (tgt := 293) (a := 2294967295) (b := 2294967295) K dL_refuses_260 (by decide) (by omega) (by omega) (fun h260 => absurd h260 (by omega)) (fun h260 => ?_)
  refine g_aload_n K 0 dL_refuses_263 rfl ?_
  refine g_aload_n K 0 dL_refuses_264 rfl ?_
  refine g_callVq (As := []) (rest := [.ref (gz_ad (g_z X0) 0)]) h (cX5_pipes_k (zy (g_z X0) (gz_ad (g_z X0)) (gz_ex (g_z X0))) S) (cwV 0 K.1.2.2.2.2 gL_refuses_X5_pipes rfl rfl rfl (by decide +kernel) ⟨by rw [h.R, hR]; exact Nat.le_of_ble_eq_true rfl, by rw [h.R, hR]; exact Nat.le_of_ble_eq_true rfl⟩) rfl rfl (Nat.le_of_ble_eq_true rfl) dL_refuses_265 ?_
  refine g_topE (0) hnd.2.2.1 ?_
  refine g_iload_n K 1 dL_refuses_268 rfl ?_
  refine g_iadd (a := 0) (b := x) K dL_refuses_269 ?_
  refine g_callUW (As := [.ref (gz_ad (g_z X0) 0), .int (nI ((0) + (x)))]) (rest := []) h (hL_flush_x1 (zy (g_z X0) (gz_ad (g_z X0)) (gz_ex (g_z X0))) S ((0) + (x)) hnd hl0 (by omega)) (vx_cwSW 2 K.1.2.2.2.2 gL_refuses_L_flush rfl rfl rfl (by decide +kernel) ⟨by rw [h.R, hR]; exact Nat.le_of_ble_eq_true rfl, by rw [h.R, hR]; exact Nat.le_of_ble_eq_true rfl⟩) rfl rfl (Nat.le_of_ble_eq_true rfl) dL_refuses_270 (by rw [h.R, hR]; exact Nat.le_of_ble_eq_true rfl) (by rw [h.R, hR]; exact Nat.le_of_ble_eq_true rfl) (fun X v S w9 hq h => ?_)
  obtain ⟨rfl, hnd, rfl⟩ := hq
  have h : gCx X0 X cL_refuses 9 wsL_refuses (gz_ad (g_z X0)) (gz_ex (g_z X0)) 17 17 102 := h
  have K := h.2.1
  refine g_ldc (w := -2000000001) K 2294967295 (K.1.2.2.2.2 _ (by decide +kernel)) (by decide +kernel) dL_refuses_273 ?_
  refine g_icmp_ne (tgt := 293) (a := 2294967295) (b := 2294967295) K dL_refuses_275 (by decide) (by omega) (by omega) (fun h275 => absurd h275 (by omega)) (fun h275 => ?_)
  refine g_aload_n K 0 dL_refuses_278 rfl ?_
  refine g_iload_n K 2 dL_refuses_279 rfl ?_
  refine g_iconst K 4294967295 dL_refuses_280 (by decide +kernel) ?_
  refine g_callUW (As := [.ref (gz_ad (g_z X0) 0), .int (nI (nv)), .int (nI (4294967295))]) (rest := []) h (hL_walks_x1 (zy (g_z X0) (gz_ad (g_z X0)) (gz_ex (g_z X0))) S (nv) (4294967295) hnd hl0 (by omega) (by omega) (by omega)) (vx_cwSW 3 K.1.2.2.2.2 gL_refuses_L_walks rfl rfl rfl (by decide +kernel) ⟨by rw [h.R, hR]; exact Nat.le_of_ble_eq_true rfl, by rw [h.R, hR]; exact Nat.le_of_ble_eq_true rfl⟩) rfl rfl (Nat.le_of_ble_eq_true rfl) dL_refuses_281 (by rw [h.R, hR]; exact Nat.le_of_ble_eq_true rfl) (by rw [h.R, hR]; exact Nat.le_of_ble_eq_true rfl) (fun X v S w9 hq h => ?_)
  obtain ⟨rfl, hnd, rfl⟩ := hq
  have h : gCx X0 X cL_refuses 9 wsL_refuses (gz_ad (g_z X0)) (gz_ex (g_z X0)) 18 18 108 := h
  have K := h.2.1
  refine g_ldc (w := -2000000001) K 2294967295 (K.1.2.2.2.2 _ (by decide +kernel)) (by decide +kernel) dL_refuses_284 ?_
  refine g_icmp_ne (tgt := 293) (a := 2294967295) (b := 2294967295) K dL_refuses_286 (by decide) (by omega) (by omega) (fun h286 => absurd h286 (by omega)) (fun h286 => ?_)
  refine g_iconst K 1 dL_refuses_289 (by decide +kernel) ?_
  refine g_goto (tgt := 294) K dL_refuses_290 (by decide) ?_
  refine g_istore (lo' := [(6, .int (nI (1))), (0, .ref (gz_ad (g_z X0) 0)), (1, .int (nI (x))), (3, .int (nI (nv))), (4, .int (nI (pv))), (5, .int (nI (vv)))]) K dL_refuses_294 (by decide) rfl ?_
  refine g_iload K 0 dL_refuses_296 rfl ?_
  refine g_if_eq (tgt := 509) (a := 1) K dL_refuses_298 (by decide) (by omega) (fun h298 => absurd h298 (by omega)) (fun h298 => ?_)
  refine g_aload_n K 1 dL_refuses_301 rfl ?_
  refine g_callVq (As := []) (rest := []) h (cX5_nodes_k (zy (g_z X0) (gz_ad (g_z X0)) (gz_ex (g_z X0))) S) (cwV 0 K.1.2.2.2.2 gL_refuses_X5_nodes rfl rfl rfl (by decide +kernel) ⟨by rw [h.R, hR]; exact Nat.le_of_ble_eq_true rfl, by rw [h.R, hR]; exact Nat.le_of_ble_eq_true rfl⟩) rfl rfl (Nat.le_of_ble_eq_true rfl) dL_refuses_302 ?_
  refine g_topE (n) hnd.2.1 ?_
  refine g_iconst K 1 dL_refuses_305 (by decide +kernel) ?_
  refine g_icmp_le (tgt := 509) (a := n) (b := 1) K dL_refuses_306 (by decide) (by omega) (by omega) (fun h306 => absurd h306 (by omega)) (fun h306 => ?_)
  have hm1 : x % n < n := Nat.mod_lt _ (by omega)
  have hm2 : (x % n + 1) % n < n := Nat.mod_lt _ (by omega)
  refine g_iload_n K 2 dL_refuses_309 rfl ?_
  refine g_aload_n K 1 dL_refuses_310 rfl ?_
  refine g_callVq (As := []) (rest := [.int (nI (x))]) h (cX5_nodes_k (zy (g_z X0) (gz_ad (g_z X0)) (gz_ex (g_z X0))) S) (cwV 0 K.1.2.2.2.2 gL_refuses_X5_nodes rfl rfl rfl (by decide +kernel) ⟨by rw [h.R, hR]; exact Nat.le_of_ble_eq_true rfl, by rw [h.R, hR]; exact Nat.le_of_ble_eq_true rfl⟩) rfl rfl (Nat.le_of_ble_eq_true rfl) dL_refuses_311 ?_
  refine g_topE (n) hnd.2.1 ?_
  refine g_irem (a := x) (b := n) K (by omega) (by omega) (by omega) dL_refuses_314 ?_
  refine g_istore (lo' := [(7, .int (nI ((x) % (n)))), (6, .int (nI (1))), (0, .ref (gz_ad (g_z X0) 0)), (1, .int (nI (x))), (3, .int (nI (nv))), (4, .int (nI (pv))), (5, .int (nI (vv)))]) K dL_refuses_315 (by decide) rfl ?_
  refine g_iload K 0 dL_refuses_317 rfl ?_
  refine g_iconst K 1 dL_refuses_319 (by decide +kernel) ?_
  refine g_iadd (a := (x) % (n)) (b := 1) K dL_refuses_320 ?_
  refine g_aload_n K 2 dL_refuses_321 rfl ?_
  refine g_callVq (As := []) (rest := [.int (nI (((x) % (n)) + (1)))]) h (cX5_nodes_k (zy (g_z X0) (gz_ad (g_z X0)) (gz_ex (g_z X0))) S) (cwV 0 K.1.2.2.2.2 gL_refuses_X5_nodes rfl rfl rfl (by decide +kernel) ⟨by rw [h.R, hR]; exact Nat.le_of_ble_eq_true rfl, by rw [h.R, hR]; exact Nat.le_of_ble_eq_true rfl⟩) rfl rfl (Nat.le_of_ble_eq_true rfl) dL_refuses_322 ?_
  refine g_topE (n) hnd.2.1 ?_
  refine g_irem (a := ((x) % (n)) + (1)) (b := n) K (by omega) (by omega) (by omega) dL_refuses_325 ?_
  refine g_istore (lo' := [(8, .int (nI ((((x) % (n)) + (1)) % (n)))), (7, .int (nI ((x) % (n)))), (6, .int (nI (1))), (0, .ref (gz_ad (g_z X0) 0)), (1, .int (nI (x))), (3, .int (nI (nv))), (4, .int (nI (pv))), (5, .int (nI (vv)))]) K dL_refuses_326 (by decide) rfl ?_
  refine g_aload_n K 3 dL_refuses_328 rfl ?_
  refine g_iload K 1 dL_refuses_329 rfl ?_
  refine g_iload_n K 5 dL_refuses_331 rfl ?_
  refine g_iconst K 5 dL_refuses_332 (by decide +kernel) ?_
  refine g_iconst K 5 dL_refuses_333 (by decide +kernel) ?_
  refine g_callUW (As := [.ref (gz_ad (g_z X0) 0), .int (nI ((x) % (n))), .int (nI (nv)), .int (nI (5)), .int (nI (5))]) (rest := []) h (hL_pipes_x2 (zy (g_z X0) (gz_ad (g_z X0)) (gz_ex (g_z X0))) S ((x) % (n)) (nv) (5) (5) hnd hl0 (by omega) (by omega) (by omega) (by omega) (by omega) (by omega)) (vx_cwSW 5 K.1.2.2.2.2 gL_refuses_L_pipes rfl rfl rfl (by decide +kernel) ⟨by rw [h.R, hR]; exact Nat.le_of_ble_eq_true rfl, by rw [h.R, hR]; exact Nat.le_of_ble_eq_true rfl⟩) rfl rfl (Nat.le_of_ble_eq_true rfl) dL_refuses_334 (by rw [h.R, hR]; exact Nat.le_of_ble_eq_true rfl) (by rw [h.R, hR]; exact Nat.le_of_ble_eq_true rfl) (fun X v S w9 hq h => ?_)
  obtain ⟨rfl, hnd, rfl⟩ := hq
  have h : gCx X0 X cL_refuses 9 wsL_refuses (gz_ad (g_z X0)) (gz_ex (g_z X0)) 19 19 114 := h
  have K := h.2.1
  refine g_ldc (w := -2000000001) K 2294967295 (K.1.2.2.2.2 _ (by decide +kernel)) (by decide +kernel) dL_refuses_337 ?_
  refine g_icmp_ne (tgt := 506) (a := 2294967295) (b := 2294967295) K dL_refuses_339 (by decide) (by omega) (by omega) (fun h339 => absurd h339 (by omega)) (fun h339 => ?_)
  refine g_aload_n K 3 dL_refuses_342 rfl ?_
  refine g_iload K 1 dL_refuses_343 rfl ?_
  refine g_iload K 1 dL_refuses_345 rfl ?_
  refine g_iconst K 5 dL_refuses_347 (by decide +kernel) ?_
  refine g_iconst K 5 dL_refuses_348 (by decide +kernel) ?_
  refine g_callUW (As := [.ref (gz_ad (g_z X0) 0), .int (nI ((x) % (n))), .int (nI ((x) % (n))), .int (nI (5)), .int (nI (5))]) (rest := []) h (hL_pipes_x3 (zy (g_z X0) (gz_ad (g_z X0)) (gz_ex (g_z X0))) S ((x) % (n)) ((x) % (n)) (5) (5) hnd hl0 (by omega) (by omega) (by omega) (by omega) (by omega) (by omega) (Or.inl rfl)) (vx_cwSW 5 K.1.2.2.2.2 gL_refuses_L_pipes rfl rfl rfl (by decide +kernel) ⟨by rw [h.R, hR]; exact Nat.le_of_ble_eq_true rfl, by rw [h.R, hR]; exact Nat.le_of_ble_eq_true rfl⟩) rfl rfl (Nat.le_of_ble_eq_true rfl) dL_refuses_349 (by rw [h.R, hR]; exact Nat.le_of_ble_eq_true rfl) (by rw [h.R, hR]; exact Nat.le_of_ble_eq_true rfl) (fun X v S w9 hq h => ?_)
  obtain ⟨rfl, hnd, rfl⟩ := hq
  have h : gCx X0 X cL_refuses 9 wsL_refuses (gz_ad (g_z X0)) (gz_ex (g_z X0)) 20 20 120 := h
  have K := h.2.1
  refine g_ldc (w := -2000000002) K 2294967294 (K.1.2.2.2.2 _ (by decide +kernel)) (by decide +kernel) dL_refuses_352 ?_
  refine g_icmp_ne (tgt := 506) (a := 2294967294) (b := 2294967294) K dL_refuses_354 (by decide) (by omega) (by omega) (fun h354 => absurd h354 (by omega)) (fun h354 => ?_)
  refine g_aload_n K 3 dL_refuses_357 rfl ?_
  refine g_iload K 1 dL_refuses_358 rfl ?_
  refine g_iload K 0 dL_refuses_360 rfl ?_
  refine g_iconst K 0 dL_refuses_362 (by decide +kernel) ?_
  refine g_iconst K 5 dL_refuses_363 (by decide +kernel) ?_
  refine g_callUW (As := [.ref (gz_ad (g_z X0) 0), .int (nI ((x) % (n))), .int (nI ((((x) % (n)) + (1)) % (n))), .int (nI (0)), .int (nI (5))]) (rest := []) h (hL_pipes_x3 (zy (g_z X0) (gz_ad (g_z X0)) (gz_ex (g_z X0))) S ((x) % (n)) ((((x) % (n)) + (1)) % (n)) (0) (5) hnd hl0 (by omega) (by omega) (by omega) (by omega) (by omega) (by omega) (Or.inr (Or.inl (by omega)))) (vx_cwSW 5 K.1.2.2.2.2 gL_refuses_L_pipes rfl rfl rfl (by decide +kernel) ⟨by rw [h.R, hR]; exact Nat.le_of_ble_eq_true rfl, by rw [h.R, hR]; exact Nat.le_of_ble_eq_true rfl⟩) rfl rfl (Nat.le_of_ble_eq_true rfl) dL_refuses_364 (by rw [h.R, hR]; exact Nat.le_of_ble_eq_true rfl) (by rw [h.R, hR]; exact Nat.le_of_ble_eq_true rfl) (fun X v S w9 hq h => ?_)
  obtain ⟨rfl, hnd, rfl⟩ := hq
  have h : gCx X0 X cL_refuses 9 wsL_refuses (gz_ad (g_z X0)) (gz_ex (g_z X0)) 21 21 126 := h
  have K := h.2.1
  refine g_ldc (w := -2000000002) K 2294967294 (K.1.2.2.2.2 _ (by decide +kernel)) (by decide +kernel) dL_refuses_367 ?_
  refine g_icmp_ne (tgt := 506) (a := 2294967294) (b := 2294967294) K dL_refuses_369 (by decide) (by omega) (by omega) (fun h369 => absurd h369 (by omega)) (fun h369 => ?_)
  refine g_aload_n K 3 dL_refuses_372 rfl ?_
  refine g_iload K 1 dL_refuses_373 rfl ?_
  refine g_iload K 0 dL_refuses_375 rfl ?_
  refine g_bipush K 100 dL_refuses_377 (by decide +kernel) ?_
  refine g_iload_n K 4 dL_refuses_379 rfl ?_
  refine g_iadd (a := 100) (b := x) K dL_refuses_380 ?_
  refine g_iconst K 5 dL_refuses_381 (by decide +kernel) ?_
  refine g_callUW (As := [.ref (gz_ad (g_z X0) 0), .int (nI ((x) % (n))), .int (nI ((((x) % (n)) + (1)) % (n))), .int (nI ((100) + (x))), .int (nI (5))]) (rest := []) h (hL_pipes_x3 (zy (g_z X0) (gz_ad (g_z X0)) (gz_ex (g_z X0))) S ((x) % (n)) ((((x) % (n)) + (1)) % (n)) ((100) + (x)) (5) hnd hl0 (by omega) (by omega) (by omega) (by omega) (by omega) (by omega) (Or.inr (Or.inl (by omega)))) (vx_cwSW 5 K.1.2.2.2.2 gL_refuses_L_pipes rfl rfl rfl (by decide +kernel) ⟨by rw [h.R, hR]; exact Nat.le_of_ble_eq_true rfl, by rw [h.R, hR]; exact Nat.le_of_ble_eq_true rfl⟩) rfl rfl (Nat.le_of_ble_eq_true rfl) dL_refuses_382 (by rw [h.R, hR]; exact Nat.le_of_ble_eq_true rfl) (by rw [h.R, hR]; exact Nat.le_of_ble_eq_true rfl) (fun X v S w9 hq h => ?_)
  obtain ⟨rfl, hnd, rfl⟩ := hq
  have h : gCx X0 X cL_refuses 9 wsL_refuses (gz_ad (g_z X0)) (gz_ex (g_z X0)) 22 22 132 := h
  have K := h.2.1
  refine g_ldc (w := -2000000002) K 2294967294 (K.1.2.2.2.2 _ (by decide +kernel)) (by decide +kernel) dL_refuses_385 ?_
  refine g_icmp_ne (tgt := 506) (a := 2294967294) (b := 2294967294) K dL_refuses_387 (by decide) (by omega) (by omega) (fun h387 => absurd h387 (by omega)) (fun h387 => ?_)
  refine g_aload_n K 3 dL_refuses_390 rfl ?_
  refine g_iload K 1 dL_refuses_391 rfl ?_
  refine g_iload K 0 dL_refuses_393 rfl ?_
  refine g_iconst K 5 dL_refuses_395 (by decide +kernel) ?_
  refine g_iconst K 4294967295 dL_refuses_396 (by decide +kernel) ?_
  refine g_iload_n K 4 dL_refuses_397 rfl ?_
  refine g_isub (a := 4294967295) (b := x) K (by omega) dL_refuses_398 ?_
  refine g_callUW (As := [.ref (gz_ad (g_z X0) 0), .int (nI ((x) % (n))), .int (nI ((((x) % (n)) + (1)) % (n))), .int (nI (5)), .int (nI ((4294967295) - (x)))]) (rest := []) h (hL_pipes_x3 (zy (g_z X0) (gz_ad (g_z X0)) (gz_ex (g_z X0))) S ((x) % (n)) ((((x) % (n)) + (1)) % (n)) (5) ((4294967295) - (x)) hnd hl0 (by omega) (by omega) (by omega) (by omega) (by omega) (by omega) (Or.inr (Or.inr (by omega)))) (vx_cwSW 5 K.1.2.2.2.2 gL_refuses_L_pipes rfl rfl rfl (by decide +kernel) ⟨by rw [h.R, hR]; exact Nat.le_of_ble_eq_true rfl, by rw [h.R, hR]; exact Nat.le_of_ble_eq_true rfl⟩) rfl rfl (Nat.le_of_ble_eq_true rfl) dL_refuses_399 (by rw [h.R, hR]; exact Nat.le_of_ble_eq_true rfl) (by rw [h.R, hR]; exact Nat.le_of_ble_eq_true rfl) (fun X v S w9 hq h => ?_)
  obtain ⟨rfl, hnd, rfl⟩ := hq
  have h : gCx X0 X cL_refuses 9 wsL_refuses (gz_ad (g_z X0)) (gz_ex (g_z X0)) 23 23 138 := h
  have K := h.2.1
  refine g_ldc (w := -2000000002) K 2294967294 (K.1.2.2.2.2 _ (by decide +kernel)) (by decide +kernel) dL_refuses_402 ?_
  refine g_icmp_ne (tgt := 506) (a := 2294967294) (b := 2294967294) K dL_refuses_404 (by decide) (by omega) (by omega) (fun h404 => absurd h404 (by omega)) (fun h404 => ?_)
  refine g_aload_n K 3 dL_refuses_407 rfl ?_
  refine g_iload K 1 dL_refuses_408 rfl ?_
  refine g_iload K 0 dL_refuses_410 rfl ?_
  refine g_iconst K 5 dL_refuses_412 (by decide +kernel) ?_
  refine g_bipush K 100 dL_refuses_413 (by decide +kernel) ?_
  refine g_iload_n K 4 dL_refuses_415 rfl ?_
  refine g_iadd (a := 100) (b := x) K dL_refuses_416 ?_
  refine g_callUW (As := [.ref (gz_ad (g_z X0) 0), .int (nI ((x) % (n))), .int (nI ((((x) % (n)) + (1)) % (n))), .int (nI (5)), .int (nI ((100) + (x)))]) (rest := []) h (hL_pipes_x3 (zy (g_z X0) (gz_ad (g_z X0)) (gz_ex (g_z X0))) S ((x) % (n)) ((((x) % (n)) + (1)) % (n)) (5) ((100) + (x)) hnd hl0 (by omega) (by omega) (by omega) (by omega) (by omega) (by omega) (Or.inr (Or.inr (by omega)))) (vx_cwSW 5 K.1.2.2.2.2 gL_refuses_L_pipes rfl rfl rfl (by decide +kernel) ⟨by rw [h.R, hR]; exact Nat.le_of_ble_eq_true rfl, by rw [h.R, hR]; exact Nat.le_of_ble_eq_true rfl⟩) rfl rfl (Nat.le_of_ble_eq_true rfl) dL_refuses_417 (by rw [h.R, hR]; exact Nat.le_of_ble_eq_true rfl) (by rw [h.R, hR]; exact Nat.le_of_ble_eq_true rfl) (fun X v S w9 hq h => ?_)
  obtain ⟨rfl, hnd, rfl⟩ := hq
  have h : gCx X0 X cL_refuses 9 wsL_refuses (gz_ad (g_z X0)) (gz_ex (g_z X0)) 24 24 144 := h
  have K := h.2.1
  refine g_ldc (w := -2000000002) K 2294967294 (K.1.2.2.2.2 _ (by decide +kernel)) (by decide +kernel) dL_refuses_420 ?_
  refine g_icmp_ne (tgt := 506) (a := 2294967294) (b := 2294967294) K dL_refuses_422 (by decide) (by omega) (by omega) (fun h422 => absurd h422 (by omega)) (fun h422 => ?_)
  refine g_aload_n K 3 dL_refuses_425 rfl ?_
  refine g_iload K 1 dL_refuses_426 rfl ?_
  refine g_iconst K 4294967295 dL_refuses_428 (by decide +kernel) ?_
  refine g_iload_n K 4 dL_refuses_429 rfl ?_
  refine g_isub (a := 4294967295) (b := x) K (by omega) dL_refuses_430 ?_
  refine g_callUW (As := [.ref (gz_ad (g_z X0) 0), .int (nI ((x) % (n))), .int (nI ((4294967295) - (x)))]) (rest := []) h (hL_walks_x2 (zy (g_z X0) (gz_ad (g_z X0)) (gz_ex (g_z X0))) S ((x) % (n)) ((4294967295) - (x)) hnd hl0 (by omega) (by omega) (by omega)) (vx_cwSW 3 K.1.2.2.2.2 gL_refuses_L_walks rfl rfl rfl (by decide +kernel) ⟨by rw [h.R, hR]; exact Nat.le_of_ble_eq_true rfl, by rw [h.R, hR]; exact Nat.le_of_ble_eq_true rfl⟩) rfl rfl (Nat.le_of_ble_eq_true rfl) dL_refuses_431 (by rw [h.R, hR]; exact Nat.le_of_ble_eq_true rfl) (by rw [h.R, hR]; exact Nat.le_of_ble_eq_true rfl) (fun X v S w9 hq h => ?_)
  obtain ⟨rfl, hnd, rfl⟩ := hq
  have h : gCx X0 X cL_refuses 9 wsL_refuses (gz_ad (g_z X0)) (gz_ex (g_z X0)) 25 25 150 := h
  have K := h.2.1
  refine g_ldc (w := -2000000002) K 2294967294 (K.1.2.2.2.2 _ (by decide +kernel)) (by decide +kernel) dL_refuses_434 ?_
  refine g_icmp_ne (tgt := 506) (a := 2294967294) (b := 2294967294) K dL_refuses_436 (by decide) (by omega) (by omega) (fun h436 => absurd h436 (by omega)) (fun h436 => ?_)
  refine g_aload_n K 3 dL_refuses_439 rfl ?_
  refine g_iload K 1 dL_refuses_440 rfl ?_
  refine g_iconst K 1 dL_refuses_442 (by decide +kernel) ?_
  refine g_aload_n K 3 dL_refuses_443 rfl ?_
  refine g_callVq (As := []) (rest := [.int (nI (1)), .int (nI ((x) % (n))), .ref (gz_ad (g_z X0) 0)]) h (cX5_valves_k (zy (g_z X0) (gz_ad (g_z X0)) (gz_ex (g_z X0))) S) (cwV 0 K.1.2.2.2.2 gL_refuses_X5_valves rfl rfl rfl (by decide +kernel) ⟨by rw [h.R, hR]; exact Nat.le_of_ble_eq_true rfl, by rw [h.R, hR]; exact Nat.le_of_ble_eq_true rfl⟩) rfl rfl (Nat.le_of_ble_eq_true rfl) dL_refuses_444 ?_
  refine g_topE (0) hnd.2.2.2 ?_
  refine g_ishl (a := 1) (b := 0) K (by decide) dL_refuses_447 ?_
  refine g_callUW (As := [.ref (gz_ad (g_z X0) 0), .int (nI ((x) % (n))), .int (nI ((1) <<< (0)))]) (rest := []) h (hL_walks_x2 (zy (g_z X0) (gz_ad (g_z X0)) (gz_ex (g_z X0))) S ((x) % (n)) ((1) <<< (0)) hnd hl0 (by decide) (by omega) (by decide)) (vx_cwSW 3 K.1.2.2.2.2 gL_refuses_L_walks rfl rfl rfl (by decide +kernel) ⟨by rw [h.R, hR]; exact Nat.le_of_ble_eq_true rfl, by rw [h.R, hR]; exact Nat.le_of_ble_eq_true rfl⟩) rfl rfl (Nat.le_of_ble_eq_true rfl) dL_refuses_448 (by rw [h.R, hR]; exact Nat.le_of_ble_eq_true rfl) (by rw [h.R, hR]; exact Nat.le_of_ble_eq_true rfl) (fun X v S w9 hq h => ?_)
  obtain ⟨rfl, hnd, rfl⟩ := hq
  have h : gCx X0 X cL_refuses 9 wsL_refuses (gz_ad (g_z X0)) (gz_ex (g_z X0)) 26 26 156 := h
  have K := h.2.1
  refine g_ldc (w := -2000000002) K 2294967294 (K.1.2.2.2.2 _ (by decide +kernel)) (by decide +kernel) dL_refuses_451 ?_
  refine g_icmp_ne (tgt := 506) (a := 2294967294) (b := 2294967294) K dL_refuses_453 (by decide) (by omega) (by omega) (fun h453 => absurd h453 (by omega)) (fun h453 => ?_)
  refine g_aload_n K 3 dL_refuses_456 rfl ?_
  refine g_callVq (As := []) (rest := []) h (cX5_valves_k (zy (g_z X0) (gz_ad (g_z X0)) (gz_ex (g_z X0))) S) (cwV 0 K.1.2.2.2.2 gL_refuses_X5_valves rfl rfl rfl (by decide +kernel) ⟨by rw [h.R, hR]; exact Nat.le_of_ble_eq_true rfl, by rw [h.R, hR]; exact Nat.le_of_ble_eq_true rfl⟩) rfl rfl (Nat.le_of_ble_eq_true rfl) dL_refuses_457 ?_
  refine g_topE (0) hnd.2.2.2 ?_
  refine g_bipush K 7 dL_refuses_460 (by decide +kernel) ?_
  refine g_icmp_lt (tgt := 478) (a := 0) (b := 7) K dL_refuses_462 (by decide) (by omega) (by omega) (fun h462 => ?_) (fun h462 => absurd h462 (by omega))
  refine g_aload_n K 3 dL_refuses_478 rfl ?_
  refine g_callVq (As := []) (rest := []) h (cX5_pipes_k (zy (g_z X0) (gz_ad (g_z X0)) (gz_ex (g_z X0))) S) (cwV 0 K.1.2.2.2.2 gL_refuses_X5_pipes rfl rfl rfl (by decide +kernel) ⟨by rw [h.R, hR]; exact Nat.le_of_ble_eq_true rfl, by rw [h.R, hR]; exact Nat.le_of_ble_eq_true rfl⟩) rfl rfl (Nat.le_of_ble_eq_true rfl) dL_refuses_479 ?_
  refine g_topE (0) hnd.2.2.1 ?_
  refine g_bipush K 16 dL_refuses_482 (by decide +kernel) ?_
  refine g_icmp_lt (tgt := 502) (a := 0) (b := 16) K dL_refuses_484 (by decide) (by omega) (by omega) (fun h484 => ?_) (fun h484 => absurd h484 (by omega))
  refine g_iconst K 1 dL_refuses_502 (by decide +kernel) ?_
  refine g_goto (tgt := 507) K dL_refuses_503 (by decide) ?_
  refine g_istore (lo' := [(6, .int (nI (1))), (8, .int (nI ((((x) % (n)) + (1)) % (n)))), (7, .int (nI ((x) % (n)))), (0, .ref (gz_ad (g_z X0) 0)), (1, .int (nI (x))), (3, .int (nI (nv))), (4, .int (nI (pv))), (5, .int (nI (vv)))]) K dL_refuses_507 (by decide) rfl ?_
  refine g_iload K 0 dL_refuses_509 rfl ?_
  refine g_if_eq (tgt := 591) (a := 1) K dL_refuses_511 (by decide) (by omega) (fun h511 => absurd h511 (by omega)) (fun h511 => ?_)
  refine g_aload_n K 3 dL_refuses_514 rfl ?_
  refine g_callVq (As := []) (rest := []) h (cX5_pipes_k (zy (g_z X0) (gz_ad (g_z X0)) (gz_ex (g_z X0))) S) (cwV 0 K.1.2.2.2.2 gL_refuses_X5_pipes rfl rfl rfl (by decide +kernel) ⟨by rw [h.R, hR]; exact Nat.le_of_ble_eq_true rfl, by rw [h.R, hR]; exact Nat.le_of_ble_eq_true rfl⟩) rfl rfl (Nat.le_of_ble_eq_true rfl) dL_refuses_515 ?_
  refine g_topE (0) hnd.2.2.1 ?_
  refine g_if_le (tgt := 591) (a := 0) K dL_refuses_518 (by decide) (by omega) (fun h518 => ?_) (fun h518 => absurd h518 (by omega))
  refine g_iload K 0 dL_refuses_591 rfl ?_
  refine g_if_eq (tgt := 619) (a := 1) K dL_refuses_593 (by decide) (by omega) (fun h593 => absurd h593 (by omega)) (fun h593 => ?_)
  refine g_aload_n K 3 dL_refuses_596 rfl ?_
  refine g_callVq (As := []) (rest := []) h (cX5_nodes_k (zy (g_z X0) (gz_ad (g_z X0)) (gz_ex (g_z X0))) S) (cwV 0 K.1.2.2.2.2 gL_refuses_X5_nodes rfl rfl rfl (by decide +kernel) ⟨by rw [h.R, hR]; exact Nat.le_of_ble_eq_true rfl, by rw [h.R, hR]; exact Nat.le_of_ble_eq_true rfl⟩) rfl rfl (Nat.le_of_ble_eq_true rfl) dL_refuses_597 ?_
  refine g_topE (n) hnd.2.1 ?_
  refine g_bipush K 12 dL_refuses_600 (by decide +kernel) ?_
  refine g_icmp_lt (tgt := 615) (a := n) (b := 12) K dL_refuses_602 (by decide) (by omega) (by omega) (fun h602 => ?_) (fun h602 => absurd h602 (by omega))
  refine g_iconst K 1 dL_refuses_615 (by decide +kernel) ?_
  refine g_goto (tgt := 620) K dL_refuses_616 (by decide) ?_
  exact hret X _ _ 1 _ _ _ _ _ h (by decide) (by decide) (by decide) ⟨rfl, hnd, rfl⟩ (Or.inr ⟨rfl, by decide⟩) dL_refuses_620

set_option maxHeartbeats 4000000 in
set_option maxRecDepth 100000 in
theorem refuses_hi (Z : gZ) (S : Nat → Nat → Nat) {n : Nat} (x : Nat) (hnd : nd S n) (hl0 : (gz_l Z).stackTraces = false) (hn : 2 ≤ n ∧ n < 12) (hx : x < 10000) : gMu Z yL_refuses wsL_refuses rmR [.ref (gz_ad Z 0), .int (nI (x))] S (fun v S1 w => v = 1 ∧ nd S1 n ∧ w = gz_ex Z) 40 240 26 := by
  refine gMu_of (cc := cL_refuses) (maxL := 9) (ret := some .boolean) (by decide +kernel) rfl rfl (Nat.le_of_ble_eq_true rfl) (fun X0 hZ hR h hret => ?_)
  subst hZ
  have K := h.2.1
  show gG X0 0 [(0, .ref (gz_ad (g_z X0) 0)), (1, .int (nI (x)))] [] S
  refine g_iload_n K 1 dL_refuses_0 rfl ?_
  refine g_iconst K 2 dL_refuses_1 (by decide +kernel) ?_
  refine g_irem (a := x) (b := 2) K (by omega) (by omega) (by omega) dL_refuses_2 ?_
  refine g_if_ne (tgt := 10) (a := (x) % (2)) K dL_refuses_3 (by decide) (by omega) (fun h3 => ?_) (fun h3 => ?_)
  · refine g_iconst K 0 dL_refuses_10 (by decide +kernel) ?_
    refine g_istore_n (lo' := [(2, .int (nI (0))), (0, .ref (gz_ad (g_z X0) 0)), (1, .int (nI (x)))]) K dL_refuses_11 (by decide) rfl ?_
    refine g_iload_n K 0 dL_refuses_12 rfl ?_
    refine g_if_eq (tgt := 25) (a := 0) K dL_refuses_13 (by decide) (by omega) (fun h13 => ?_) (fun h13 => absurd h13 (by omega))
    refine g_aload_n K 1 dL_refuses_25 rfl ?_
    refine g_callVq (As := []) (rest := []) h (cX5_nodes_k (zy (g_z X0) (gz_ad (g_z X0)) (gz_ex (g_z X0))) S) (cwV 0 K.1.2.2.2.2 gL_refuses_X5_nodes rfl rfl rfl (by decide +kernel) ⟨by rw [h.R, hR]; exact Nat.le_of_ble_eq_true rfl, by rw [h.R, hR]; exact Nat.le_of_ble_eq_true rfl⟩) rfl rfl (Nat.le_of_ble_eq_true rfl) dL_refuses_26 ?_
    refine g_topE (n) hnd.2.1 ?_
    refine g_iload_n K 2 dL_refuses_29 rfl ?_
    refine g_bipush K 50 dL_refuses_30 (by decide +kernel) ?_
    refine g_irem (a := x) (b := 50) K (by omega) (by omega) (by omega) dL_refuses_32 ?_
    refine g_iadd (a := n) (b := (x) % (50)) K dL_refuses_33 ?_
    refine g_istore_n (lo' := [(3, .int (nI ((n) + ((x) % (50))))), (2, .int (nI (0))), (0, .ref (gz_ad (g_z X0) 0)), (1, .int (nI (x)))]) K dL_refuses_34 (by decide) rfl ?_
    refine g_iload_n K 1 dL_refuses_35 rfl ?_
    refine g_if_eq (tgt := 48) (a := 0) K dL_refuses_36 (by decide) (by omega) (fun h36 => ?_) (fun h36 => absurd h36 (by omega))
    refine g_aload_n K 2 dL_refuses_48 rfl ?_
    refine g_callVq (As := []) (rest := []) h (cX5_pipes_k (zy (g_z X0) (gz_ad (g_z X0)) (gz_ex (g_z X0))) S) (cwV 0 K.1.2.2.2.2 gL_refuses_X5_pipes rfl rfl rfl (by decide +kernel) ⟨by rw [h.R, hR]; exact Nat.le_of_ble_eq_true rfl, by rw [h.R, hR]; exact Nat.le_of_ble_eq_true rfl⟩) rfl rfl (Nat.le_of_ble_eq_true rfl) dL_refuses_49 ?_
    refine g_topE (0) hnd.2.2.1 ?_
    refine g_iload_n K 3 dL_refuses_52 rfl ?_
    refine g_bipush K 50 dL_refuses_53 (by decide +kernel) ?_
    refine g_irem (a := x) (b := 50) K (by omega) (by omega) (by omega) dL_refuses_55 ?_
    refine g_iadd (a := 0) (b := (x) % (50)) K dL_refuses_56 ?_
    refine g_istore (lo' := [(4, .int (nI ((0) + ((x) % (50))))), (3, .int (nI ((n) + ((x) % (50))))), (2, .int (nI (0))), (0, .ref (gz_ad (g_z X0) 0)), (1, .int (nI (x)))]) K dL_refuses_57 (by decide) rfl ?_
    refine g_iload_n K 2 dL_refuses_59 rfl ?_
    refine g_if_eq (tgt := 72) (a := 0) K dL_refuses_60 (by decide) (by omega) (fun h60 => ?_) (fun h60 => absurd h60 (by omega))
    refine g_aload_n K 3 dL_refuses_72 rfl ?_
    refine g_callVq (As := []) (rest := []) h (cX5_valves_k (zy (g_z X0) (gz_ad (g_z X0)) (gz_ex (g_z X0))) S) (cwV 0 K.1.2.2.2.2 gL_refuses_X5_valves rfl rfl rfl (by decide +kernel) ⟨by rw [h.R, hR]; exact Nat.le_of_ble_eq_true rfl, by rw [h.R, hR]; exact Nat.le_of_ble_eq_true rfl⟩) rfl rfl (Nat.le_of_ble_eq_true rfl) dL_refuses_73 ?_
    refine g_topE (0) hnd.2.2.2 ?_
    refine g_iload_n K 4 dL_refuses_76 rfl ?_
    refine g_bipush K 50 dL_refuses_77 (by decide +kernel) ?_
    refine g_irem (a := x) (b := 50) K (by omega) (by omega) (by omega) dL_refuses_79 ?_
    refine g_iadd (a := 0) (b := (x) % (50)) K dL_refuses_80 ?_
    refine g_istore (lo' := [(5, .int (nI ((0) + ((x) % (50))))), (4, .int (nI ((0) + ((x) % (50))))), (3, .int (nI ((n) + ((x) % (50))))), (2, .int (nI (0))), (0, .ref (gz_ad (g_z X0) 0)), (1, .int (nI (x)))]) K dL_refuses_81 (by decide) rfl ?_
    refine g_loc (lo' := [(0, .ref (gz_ad (g_z X0) 0)), (1, .int (nI (x))), (3, .int (nI ((n) + ((x) % (50))))), (4, .int (nI ((0) + ((x) % (50))))), (5, .int (nI ((0) + ((x) % (50)))))]) [4, 5, 2, 1, 0] rfl ?_
    exact refuses_hi_t hR hnd hl0 hn hx (by omega) (by omega) (by omega) (by omega) h hret
  · refine g_iconst K 1 dL_refuses_6 (by decide +kernel) ?_
    refine g_goto (tgt := 11) K dL_refuses_7 (by decide) ?_
    refine g_istore_n (lo' := [(2, .int (nI (1))), (0, .ref (gz_ad (g_z X0) 0)), (1, .int (nI (x)))]) K dL_refuses_11 (by decide) rfl ?_
    refine g_iload_n K 0 dL_refuses_12 rfl ?_
    refine g_if_eq (tgt := 25) (a := 1) K dL_refuses_13 (by decide) (by omega) (fun h13 => absurd h13 (by omega)) (fun h13 => ?_)
    refine g_iconst K 4294967295 dL_refuses_16 (by decide +kernel) ?_
    refine g_iload_n K 2 dL_refuses_17 rfl ?_
    refine g_bipush K 50 dL_refuses_18 (by decide +kernel) ?_
    refine g_irem (a := x) (b := 50) K (by omega) (by omega) (by omega) dL_refuses_20 ?_
    refine g_isub (a := 4294967295) (b := (x) % (50)) K (by omega) dL_refuses_21 ?_
    refine g_goto (tgt := 34) K dL_refuses_22 (by decide) ?_
    refine g_istore_n (lo' := [(3, .int (nI ((4294967295) - ((x) % (50))))), (2, .int (nI (1))), (0, .ref (gz_ad (g_z X0) 0)), (1, .int (nI (x)))]) K dL_refuses_34 (by decide) rfl ?_
    refine g_iload_n K 1 dL_refuses_35 rfl ?_
    refine g_if_eq (tgt := 48) (a := 1) K dL_refuses_36 (by decide) (by omega) (fun h36 => absurd h36 (by omega)) (fun h36 => ?_)
    refine g_iconst K 4294967295 dL_refuses_39 (by decide +kernel) ?_
    refine g_iload_n K 3 dL_refuses_40 rfl ?_
    refine g_bipush K 50 dL_refuses_41 (by decide +kernel) ?_
    refine g_irem (a := x) (b := 50) K (by omega) (by omega) (by omega) dL_refuses_43 ?_
    refine g_isub (a := 4294967295) (b := (x) % (50)) K (by omega) dL_refuses_44 ?_
    refine g_goto (tgt := 57) K dL_refuses_45 (by decide) ?_
    refine g_istore (lo' := [(4, .int (nI ((4294967295) - ((x) % (50))))), (3, .int (nI ((4294967295) - ((x) % (50))))), (2, .int (nI (1))), (0, .ref (gz_ad (g_z X0) 0)), (1, .int (nI (x)))]) K dL_refuses_57 (by decide) rfl ?_
    refine g_iload_n K 2 dL_refuses_59 rfl ?_
    refine g_if_eq (tgt := 72) (a := 1) K dL_refuses_60 (by decide) (by omega) (fun h60 => absurd h60 (by omega)) (fun h60 => ?_)
    refine g_iconst K 4294967295 dL_refuses_63 (by decide +kernel) ?_
    refine g_iload_n K 4 dL_refuses_64 rfl ?_
    refine g_bipush K 50 dL_refuses_65 (by decide +kernel) ?_
    refine g_irem (a := x) (b := 50) K (by omega) (by omega) (by omega) dL_refuses_67 ?_
    refine g_isub (a := 4294967295) (b := (x) % (50)) K (by omega) dL_refuses_68 ?_
    refine g_goto (tgt := 81) K dL_refuses_69 (by decide) ?_
    refine g_istore (lo' := [(5, .int (nI ((4294967295) - ((x) % (50))))), (4, .int (nI ((4294967295) - ((x) % (50))))), (3, .int (nI ((4294967295) - ((x) % (50))))), (2, .int (nI (1))), (0, .ref (gz_ad (g_z X0) 0)), (1, .int (nI (x)))]) K dL_refuses_81 (by decide) rfl ?_
    refine g_loc (lo' := [(0, .ref (gz_ad (g_z X0) 0)), (1, .int (nI (x))), (3, .int (nI ((4294967295) - ((x) % (50))))), (4, .int (nI ((4294967295) - ((x) % (50))))), (5, .int (nI ((4294967295) - ((x) % (50)))))]) [4, 5, 2, 1, 0] rfl ?_
    exact refuses_hi_t hR hnd hl0 hn hx (by omega) (by omega) (by omega) (by omega) h hret

