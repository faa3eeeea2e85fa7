/-! THE LAW'S CASES -/
theorem g_icmpS {X : gC} {cc : ByteArray} {nL : Nat} {ws : List Cond} {own : String} {pc : Nat} {lo : List (Nat × Value)} {st : List Value} {S : Nat → Nat → Nat} (K : gOk X cc nL ws own) {off : Int} {tgt a : Nat} (hdg : decode cc pc = .ok (.if_icmp .eq off, 3)) (ht : (pc : Int) + off = (tgt : Int)) (kt : gG X tgt lo st S) : gG X pc lo (.int (nI a) :: .int (nI a) :: st) S :=
  fun ls H locs hl hP hD hS => lv_icmp_eq K.1.1 K.1.2.1 hdg ht (fun _ => kt ls H locs hl hP hD hS) (fun h => absurd rfl h)
set_option maxHeartbeats 4000000 in
set_option maxRecDepth 100000 in
theorem case_addNode {X : gC} {b L o i : Nat} {xs : Nat → Int32} {O : Nat → Int64} {S : Nat → Nat → Nat} (K : gOk X cL_law 7 wsL_law RL) (B : gScr X b L xs) (T : gT (g_A X) (g_s X) (g_H X)) (C : gNc (g_s X)) (hl0 : (gz_l (g_z X)).stackTraces = false) (hR : g_R X = room_1) (hex : gz_ex (g_z X) = oc o (gz_L (g_z X)) O) (h : inv S S) (hU : wfU S) (hi : i + 5 ≤ L) (hce : g_ce X + 1 ≤ 1073) (hsl : g_sl X + 6 ≤ 9397)
    (kk : ∀ (O2 : Nat → Int64) (S2 : Nat → Nat → Nat) (ca sa : Nat), inv S2 S2 → ca ≤ g_ce X + 1 → sa ≤ g_sl X + 6 → gG (gY X (oc o (gz_L (g_z X)) O2) ca sa) 1412 [(0, .ref b), (1, .ref (g_ad X 0)), (2, .ref (g_ad X 22)), (3, .ref o), (4, .int (nI (i)))] [] S2) : gG X 144 [(0, .ref b), (1, .ref (g_ad X 0)), (2, .ref (g_ad X 22)), (3, .ref o), (4, .int (nI (i)))] [] S := by
  obtain ⟨k, S1, O1, rm, v, S2, hk3, hH, hf, hl, hc, hs, hv, hM, hth, hO, hI⟩ := pr_addNode (g_z X) o O hex hl0 S h (bI (xn xs (i + 1))) (bI_lt _)
  refine g_aload_n K 1 dL_law_144 rfl ?_
  refine g_aload_n K 0 dL_law_145 rfl ?_
  refine g_iload K 4 dL_law_146 rfl ?_
  refine g_iconst K 1 dL_law_148 (by decide +kernel) ?_
  refine g_iadd (a := i) (b := 1) K dL_law_149 ?_
  refine g_sld (i := i + 1) K B (by omega) dL_law_150 ?_
  refine g_boolI (t1 := 158) (t2 := 159) K (xn_lt _ _) dL_law_151 (by decide) dL_law_154 dL_law_155 (by decide) dL_law_158 rfl ?_
  refine g_aload_n K 3 dL_law_159 rfl ?_
  refine g_callH (As := [.ref (g_ad X 0), .int (nI (bI (xn xs (i + 1)))), .ref o]) (rest := []) K T C hH (vx_cwSW 3 K.1.2.2.2.2 gL_law_L_addNode rfl rfl rfl (by decide +kernel) ⟨by rw [hR]; exact Nat.le_of_ble_eq_true rfl, by rw [hR]; exact Nat.le_of_ble_eq_true rfl⟩) rfl rfl (Nat.le_of_ble_eq_true rfl) dL_law_160 (by rw [hR]; exact Nat.le_trans hce (Nat.le_refl _)) (by rw [hR]; exact Nat.le_trans hsl (Nat.le_refl _)) ?_
  have K := gY_ok K (oc o (gz_L (g_z X)) O1) (a := g_ce X + 1) (b := g_sl X + 6) (by rw [hR]; exact Nat.le_trans hce (Nat.le_refl _)) (by rw [hR]; exact Nat.le_trans hsl (Nat.le_refl _))
  have B : gScr (gY X (oc o (gz_L (g_z X)) O1) (g_ce X + 1) (g_sl X + 6)) b L xs := B
  refine g_istore (lo' := [(5, .int (nI (k))), (0, .ref b), (1, .ref (g_ad X 0)), (2, .ref (g_ad X 22)), (3, .ref o), (4, .int (nI (i)))]) K dL_law_163 (by decide) rfl ?_
  refine g_aload_n K 3 dL_law_165 rfl ?_
  refine g_aload_n K 1 dL_law_166 rfl ?_
  refine g_iload K 5 dL_law_167 rfl ?_
  refine g_iconst K 1 dL_law_169 (by decide +kernel) ?_
  refine g_iadd (a := i) (b := 1) K dL_law_170 ?_
  refine g_sld (i := i + 1) K B (by omega) dL_law_171 ?_
  refine g_boolI (t1 := 179) (t2 := 180) K (xn_lt _ _) dL_law_172 (by decide) dL_law_175 dL_law_176 (by decide) dL_law_179 rfl ?_
  refine g_callVd (q := 22) (ci := 6) (As := [.int (nI (bI (xn xs (i + 1))))]) (rest := []) (C := RX6) (T := TX6) (N := 17) K hM (cwV 1 K.1.2.2.2.2 gL_law_X6_addNode rfl hc hs (by decide +kernel) ⟨by rw [show g_R (gY X (oc o (gz_L (g_z X)) O1) (g_ce X + 1) (g_sl X + 6)) = room_1 from hR]; show rm.frames + 1 ≤ 11; omega, by rw [show g_R (gY X (oc o (gz_L (g_z X)) O1) (g_ce X + 1) (g_sl X + 6)) = room_1 from hR]; show 8 + (2 + 11) + rm.locals ≤ 400; omega⟩) rfl rfl rfl rfl (Nat.le_of_ble_eq_true rfl) dL_law_180 ?_
  refine g_istore (lo' := [(6, .int (nI (v))), (5, .int (nI (k))), (0, .ref b), (1, .ref (g_ad X 0)), (2, .ref (g_ad X 22)), (3, .ref o), (4, .int (nI (i)))]) K dL_law_183 (by decide) rfl ?_
  refine g_aload_n K 4 dL_law_185 rfl ?_
  refine g_callVd (q := 22) (ci := 6) (As := []) (rest := []) (C := RX6) (T := TX6) (N := 17) K (cX6_thrown_k _ S2) (cwV 0 K.1.2.2.2.2 gL_law_X6_thrown rfl rfl rfl (by decide +kernel) ⟨by rw [show g_R (gY X (oc o (gz_L (g_z X)) O1) (g_ce X + 1) (g_sl X + 6)) = room_1 from hR]; exact Nat.le_of_ble_eq_true rfl, by rw [show g_R (gY X (oc o (gz_L (g_z X)) O1) (g_ce X + 1) (g_sl X + 6)) = room_1 from hR]; exact Nat.le_of_ble_eq_true rfl⟩) rfl rfl rfl rfl (Nat.le_of_ble_eq_true rfl) dL_law_186 ?_
  refine g_topE k hth ?_
  refine g_iload K 1 dL_law_189 rfl ?_
  refine g_icmpS (tgt := 196) K dL_law_191 (by decide) ?_
  refine g_iload K 1 dL_law_196 rfl ?_
  refine g_if_ne (tgt := 213) (a := k) K dL_law_198 (by decide) (by omega) (fun h9 => ?_) (fun h9 => ?_)
  · refine g_goto (tgt := 1412) K dL_law_213 (by decide) ?_
    refine g_loc (lo' := [(0, .ref b), (1, .ref (g_ad X 0)), (2, .ref (g_ad X 22)), (3, .ref o), (4, .int (nI (i)))]) [2, 3, 4, 5, 6] rfl ?_
    exact kk O1 S2 (g_ce X + 1) (g_sl X + 6) hI (Nat.le_refl _) (Nat.le_refl _)
  · refine g_aload_n K 5 dL_law_201 rfl ?_
    refine g_iconst K 0 dL_law_202 (by decide +kernel) ?_
    refine g_lald K rfl dL_law_203 ?_
    refine g_iload K 0 dL_law_204 rfl ?_
    refine g_i2l K dL_law_206 ?_
    refine g_lcmpeq (tgt := 213) K (hO h9) dL_law_207 dL_law_208 (by decide) ?_
    refine g_goto (tgt := 1412) K dL_law_213 (by decide) ?_
    refine g_loc (lo' := [(0, .ref b), (1, .ref (g_ad X 0)), (2, .ref (g_ad X 22)), (3, .ref o), (4, .int (nI (i)))]) [2, 3, 4, 5, 6] rfl ?_
    exact kk O1 S2 (g_ce X + 1) (g_sl X + 6) hI (Nat.le_refl _) (Nat.le_refl _)

set_option maxHeartbeats 4000000 in
set_option maxRecDepth 100000 in
theorem case_addPipe {X : gC} {b L o i : Nat} {xs : Nat → Int32} {O : Nat → Int64} {S : Nat → Nat → Nat} (K : gOk X cL_law 7 wsL_law RL) (B : gScr X b L xs) (T : gT (g_A X) (g_s X) (g_H X)) (C : gNc (g_s X)) (hl0 : (gz_l (g_z X)).stackTraces = false) (hR : g_R X = room_1) (hex : gz_ex (g_z X) = oc o (gz_L (g_z X)) O) (h : inv S S) (hU : wfU S) (hi : i + 5 ≤ L) (hce : g_ce X + 1 ≤ 1073) (hsl : g_sl X + 6 ≤ 9397)
    (kk : ∀ (O2 : Nat → Int64) (S2 : Nat → Nat → Nat) (ca sa : Nat), inv S2 S2 → ca ≤ g_ce X + 1 → sa ≤ g_sl X + 6 → gG (gY X (oc o (gz_L (g_z X)) O2) ca sa) 1412 [(0, .ref b), (1, .ref (g_ad X 0)), (2, .ref (g_ad X 22)), (3, .ref o), (4, .int (nI (i)))] [] S2) : gG X 216 [(0, .ref b), (1, .ref (g_ad X 0)), (2, .ref (g_ad X 22)), (3, .ref o), (4, .int (nI (i)))] [] S := by
  obtain ⟨k, S1, O1, rm, v, S2, hk3, hH, hf, hl, hc, hs, hv, hM, hth, hO, hI⟩ := pr_addPipe (g_z X) o O hex hl0 S h (xn xs (i + 1)) (xn xs (i + 2)) (xn xs (i + 3)) (xn xs (i + 4)) (xn_lt _ _) (xn_lt _ _) (xn_lt _ _) (xn_lt _ _)
  refine g_aload_n K 1 dL_law_216 rfl ?_
  refine g_aload_n K 0 dL_law_217 rfl ?_
  refine g_iload K 4 dL_law_218 rfl ?_
  refine g_iconst K 1 dL_law_220 (by decide +kernel) ?_
  refine g_iadd (a := i) (b := 1) K dL_law_221 ?_
  refine g_sld (i := i + 1) K B (by omega) dL_law_222 ?_
  refine g_aload_n K 0 dL_law_223 rfl ?_
  refine g_iload K 4 dL_law_224 rfl ?_
  refine g_iconst K 2 dL_law_226 (by decide +kernel) ?_
  refine g_iadd (a := i) (b := 2) K dL_law_227 ?_
  refine g_sld (i := i + 2) K B (by omega) dL_law_228 ?_
  refine g_aload_n K 0 dL_law_229 rfl ?_
  refine g_iload K 4 dL_law_230 rfl ?_
  refine g_iconst K 3 dL_law_232 (by decide +kernel) ?_
  refine g_iadd (a := i) (b := 3) K dL_law_233 ?_
  refine g_sld (i := i + 3) K B (by omega) dL_law_234 ?_
  refine g_aload_n K 0 dL_law_235 rfl ?_
  refine g_iload K 4 dL_law_236 rfl ?_
  refine g_iconst K 4 dL_law_238 (by decide +kernel) ?_
  refine g_iadd (a := i) (b := 4) K dL_law_239 ?_
  refine g_sld (i := i + 4) K B (by omega) dL_law_240 ?_
  refine g_aload_n K 3 dL_law_241 rfl ?_
  refine g_callH (As := [.ref (g_ad X 0), .int (nI (xn xs (i + 1))), .int (nI (xn xs (i + 2))), .int (nI (xn xs (i + 3))), .int (nI (xn xs (i + 4))), .ref o]) (rest := []) K T C hH (vx_cwSW 6 K.1.2.2.2.2 gL_law_L_addPipe rfl rfl rfl (by decide +kernel) ⟨by rw [hR]; exact Nat.le_of_ble_eq_true rfl, by rw [hR]; exact Nat.le_of_ble_eq_true rfl⟩) rfl rfl (Nat.le_of_ble_eq_true rfl) dL_law_242 (by rw [hR]; exact Nat.le_trans hce (Nat.le_refl _)) (by rw [hR]; exact Nat.le_trans hsl (Nat.le_refl _)) ?_
  have K := gY_ok K (oc o (gz_L (g_z X)) O1) (a := g_ce X + 1) (b := g_sl X + 6) (by rw [hR]; exact Nat.le_trans hce (Nat.le_refl _)) (by rw [hR]; exact Nat.le_trans hsl (Nat.le_refl _))
  have B : gScr (gY X (oc o (gz_L (g_z X)) O1) (g_ce X + 1) (g_sl X + 6)) b L xs := B
  refine g_istore (lo' := [(5, .int (nI (k))), (0, .ref b), (1, .ref (g_ad X 0)), (2, .ref (g_ad X 22)), (3, .ref o), (4, .int (nI (i)))]) K dL_law_245 (by decide) rfl ?_
  refine g_aload_n K 3 dL_law_247 rfl ?_
  refine g_aload_n K 1 dL_law_248 rfl ?_
  refine g_iload K 5 dL_law_249 rfl ?_
  refine g_iconst K 1 dL_law_251 (by decide +kernel) ?_
  refine g_iadd (a := i) (b := 1) K dL_law_252 ?_
  refine g_sld (i := i + 1) K B (by omega) dL_law_253 ?_
  refine g_aload_n K 1 dL_law_254 rfl ?_
  refine g_iload K 5 dL_law_255 rfl ?_
  refine g_iconst K 2 dL_law_257 (by decide +kernel) ?_
  refine g_iadd (a := i) (b := 2) K dL_law_258 ?_
  refine g_sld (i := i + 2) K B (by omega) dL_law_259 ?_
  refine g_aload_n K 1 dL_law_260 rfl ?_
  refine g_iload K 5 dL_law_261 rfl ?_
  refine g_iconst K 3 dL_law_263 (by decide +kernel) ?_
  refine g_iadd (a := i) (b := 3) K dL_law_264 ?_
  refine g_sld (i := i + 3) K B (by omega) dL_law_265 ?_
  refine g_aload_n K 1 dL_law_266 rfl ?_
  refine g_iload K 5 dL_law_267 rfl ?_
  refine g_iconst K 4 dL_law_269 (by decide +kernel) ?_
  refine g_iadd (a := i) (b := 4) K dL_law_270 ?_
  refine g_sld (i := i + 4) K B (by omega) dL_law_271 ?_
  refine g_callVd (q := 22) (ci := 6) (As := [.int (nI (xn xs (i + 1))), .int (nI (xn xs (i + 2))), .int (nI (xn xs (i + 3))), .int (nI (xn xs (i + 4)))]) (rest := []) (C := RX6) (T := TX6) (N := 17) K hM (cwV 4 K.1.2.2.2.2 gL_law_X6_addPipe rfl hc hs (by decide +kernel) ⟨by rw [show g_R (gY X (oc o (gz_L (g_z X)) O1) (g_ce X + 1) (g_sl X + 6)) = room_1 from hR]; show rm.frames + 1 ≤ 11; omega, by rw [show g_R (gY X (oc o (gz_L (g_z X)) O1) (g_ce X + 1) (g_sl X + 6)) = room_1 from hR]; show 8 + (7 + 11) + rm.locals ≤ 400; omega⟩) rfl rfl rfl rfl (Nat.le_of_ble_eq_true rfl) dL_law_272 ?_
  refine g_istore (lo' := [(6, .int (nI (v))), (5, .int (nI (k))), (0, .ref b), (1, .ref (g_ad X 0)), (2, .ref (g_ad X 22)), (3, .ref o), (4, .int (nI (i)))]) K dL_law_275 (by decide) rfl ?_
  refine g_aload_n K 4 dL_law_277 rfl ?_
  refine g_callVd (q := 22) (ci := 6) (As := []) (rest := []) (C := RX6) (T := TX6) (N := 17) K (cX6_thrown_k _ S2) (cwV 0 K.1.2.2.2.2 gL_law_X6_thrown rfl rfl rfl (by decide +kernel) ⟨by rw [show g_R (gY X (oc o (gz_L (g_z X)) O1) (g_ce X + 1) (g_sl X + 6)) = room_1 from hR]; exact Nat.le_of_ble_eq_true rfl, by rw [show g_R (gY X (oc o (gz_L (g_z X)) O1) (g_ce X + 1) (g_sl X + 6)) = room_1 from hR]; exact Nat.le_of_ble_eq_true rfl⟩) rfl rfl rfl rfl (Nat.le_of_ble_eq_true rfl) dL_law_278 ?_
  refine g_topE k hth ?_
  refine g_iload K 1 dL_law_281 rfl ?_
  refine g_icmpS (tgt := 288) K dL_law_283 (by decide) ?_
  refine g_iload K 1 dL_law_288 rfl ?_
  refine g_if_ne (tgt := 305) (a := k) K dL_law_290 (by decide) (by omega) (fun h9 => ?_) (fun h9 => ?_)
  · refine g_goto (tgt := 1412) K dL_law_305 (by decide) ?_
    refine g_loc (lo' := [(0, .ref b), (1, .ref (g_ad X 0)), (2, .ref (g_ad X 22)), (3, .ref o), (4, .int (nI (i)))]) [2, 3, 4, 5, 6] rfl ?_
    exact kk O1 S2 (g_ce X + 1) (g_sl X + 6) hI (Nat.le_refl _) (Nat.le_refl _)
  · refine g_aload_n K 5 dL_law_293 rfl ?_
    refine g_iconst K 0 dL_law_294 (by decide +kernel) ?_
    refine g_lald K rfl dL_law_295 ?_
    refine g_iload K 0 dL_law_296 rfl ?_
    refine g_i2l K dL_law_298 ?_
    refine g_lcmpeq (tgt := 305) K (hO h9) dL_law_299 dL_law_300 (by decide) ?_
    refine g_goto (tgt := 1412) K dL_law_305 (by decide) ?_
    refine g_loc (lo' := [(0, .ref b), (1, .ref (g_ad X 0)), (2, .ref (g_ad X 22)), (3, .ref o), (4, .int (nI (i)))]) [2, 3, 4, 5, 6] rfl ?_
    exact kk O1 S2 (g_ce X + 1) (g_sl X + 6) hI (Nat.le_refl _) (Nat.le_refl _)

set_option maxHeartbeats 4000000 in
set_option maxRecDepth 100000 in
theorem case_addValve {X : gC} {b L o i : Nat} {xs : Nat → Int32} {O : Nat → Int64} {S : Nat → Nat → Nat} (K : gOk X cL_law 7 wsL_law RL) (B : gScr X b L xs) (T : gT (g_A X) (g_s X) (g_H X)) (C : gNc (g_s X)) (hl0 : (gz_l (g_z X)).stackTraces = false) (hR : g_R X = room_1) (hex : gz_ex (g_z X) = oc o (gz_L (g_z X)) O) (h : inv S S) (hU : wfU S) (hi : i + 5 ≤ L) (hce : g_ce X + 1 ≤ 1073) (hsl : g_sl X + 6 ≤ 9397)
    (kk : ∀ (O2 : Nat → Int64) (S2 : Nat → Nat → Nat) (ca sa : Nat), inv S2 S2 → ca ≤ g_ce X + 1 → sa ≤ g_sl X + 6 → gG (gY X (oc o (gz_L (g_z X)) O2) ca sa) 1412 [(0, .ref b), (1, .ref (g_ad X 0)), (2, .ref (g_ad X 22)), (3, .ref o), (4, .int (nI (i)))] [] S2) : gG X 308 [(0, .ref b), (1, .ref (g_ad X 0)), (2, .ref (g_ad X 22)), (3, .ref o), (4, .int (nI (i)))] [] S := by
  obtain ⟨k, S1, O1, rm, v, S2, hk3, hH, hf, hl, hc, hs, hv, hM, hth, hO, hI⟩ := pr_addValve (g_z X) o O hex hl0 S h (xn xs (i + 1)) (xn xs (i + 2)) (xn_lt _ _) (xn_lt _ _)
  refine g_aload_n K 1 dL_law_308 rfl ?_
  refine g_aload_n K 0 dL_law_309 rfl ?_
  refine g_iload K 4 dL_law_310 rfl ?_
  refine g_iconst K 1 dL_law_312 (by decide +kernel) ?_
  refine g_iadd (a := i) (b := 1) K dL_law_313 ?_
  refine g_sld (i := i + 1) K B (by omega) dL_law_314 ?_
  refine g_aload_n K 0 dL_law_315 rfl ?_
  refine g_iload K 4 dL_law_316 rfl ?_
  refine g_iconst K 2 dL_law_318 (by decide +kernel) ?_
  refine g_iadd (a := i) (b := 2) K dL_law_319 ?_
  refine g_sld (i := i + 2) K B (by omega) dL_law_320 ?_
  refine g_aload_n K 3 dL_law_321 rfl ?_
  refine g_callH (As := [.ref (g_ad X 0), .int (nI (xn xs (i + 1))), .int (nI (xn xs (i + 2))), .ref o]) (rest := []) K T C hH (vx_cwSW 4 K.1.2.2.2.2 gL_law_L_addValve rfl rfl rfl (by decide +kernel) ⟨by rw [hR]; exact Nat.le_of_ble_eq_true rfl, by rw [hR]; exact Nat.le_of_ble_eq_true rfl⟩) rfl rfl (Nat.le_of_ble_eq_true rfl) dL_law_322 (by rw [hR]; exact Nat.le_trans hce (Nat.le_refl _)) (by rw [hR]; exact Nat.le_trans hsl (Nat.le_refl _)) ?_
  have K := gY_ok K (oc o (gz_L (g_z X)) O1) (a := g_ce X + 1) (b := g_sl X + 6) (by rw [hR]; exact Nat.le_trans hce (Nat.le_refl _)) (by rw [hR]; exact Nat.le_trans hsl (Nat.le_refl _))
  have B : gScr (gY X (oc o (gz_L (g_z X)) O1) (g_ce X + 1) (g_sl X + 6)) b L xs := B
  refine g_istore (lo' := [(5, .int (nI (k))), (0, .ref b), (1, .ref (g_ad X 0)), (2, .ref (g_ad X 22)), (3, .ref o), (4, .int (nI (i)))]) K dL_law_325 (by decide) rfl ?_
  refine g_aload_n K 3 dL_law_327 rfl ?_
  refine g_aload_n K 1 dL_law_328 rfl ?_
  refine g_iload K 5 dL_law_329 rfl ?_
  refine g_iconst K 1 dL_law_331 (by decide +kernel) ?_
  refine g_iadd (a := i) (b := 1) K dL_law_332 ?_
  refine g_sld (i := i + 1) K B (by omega) dL_law_333 ?_
  refine g_aload_n K 1 dL_law_334 rfl ?_
  refine g_iload K 5 dL_law_335 rfl ?_
  refine g_iconst K 2 dL_law_337 (by decide +kernel) ?_
  refine g_iadd (a := i) (b := 2) K dL_law_338 ?_
  refine g_sld (i := i + 2) K B (by omega) dL_law_339 ?_
  refine g_callVd (q := 22) (ci := 6) (As := [.int (nI (xn xs (i + 1))), .int (nI (xn xs (i + 2)))]) (rest := []) (C := RX6) (T := TX6) (N := 17) K hM (cwV 2 K.1.2.2.2.2 gL_law_X6_addValve rfl hc hs (by decide +kernel) ⟨by rw [show g_R (gY X (oc o (gz_L (g_z X)) O1) (g_ce X + 1) (g_sl X + 6)) = room_1 from hR]; show rm.frames + 1 ≤ 11; omega, by rw [show g_R (gY X (oc o (gz_L (g_z X)) O1) (g_ce X + 1) (g_sl X + 6)) = room_1 from hR]; show 8 + (5 + 11) + rm.locals ≤ 400; omega⟩) rfl rfl rfl rfl (Nat.le_of_ble_eq_true rfl) dL_law_340 ?_
  refine g_istore (lo' := [(6, .int (nI (v))), (5, .int (nI (k))), (0, .ref b), (1, .ref (g_ad X 0)), (2, .ref (g_ad X 22)), (3, .ref o), (4, .int (nI (i)))]) K dL_law_343 (by decide) rfl ?_
  refine g_aload_n K 4 dL_law_345 rfl ?_
  refine g_callVd (q := 22) (ci := 6) (As := []) (rest := []) (C := RX6) (T := TX6) (N := 17) K (cX6_thrown_k _ S2) (cwV 0 K.1.2.2.2.2 gL_law_X6_thrown rfl rfl rfl (by decide +kernel) ⟨by rw [show g_R (gY X (oc o (gz_L (g_z X)) O1) (g_ce X + 1) (g_sl X + 6)) = room_1 from hR]; exact Nat.le_of_ble_eq_true rfl, by rw [show g_R (gY X (oc o (gz_L (g_z X)) O1) (g_ce X + 1) (g_sl X + 6)) = room_1 from hR]; exact Nat.le_of_ble_eq_true rfl⟩) rfl rfl rfl rfl (Nat.le_of_ble_eq_true rfl) dL_law_346 ?_
  refine g_topE k hth ?_
  refine g_iload K 1 dL_law_349 rfl ?_
  refine g_icmpS (tgt := 356) K dL_law_351 (by decide) ?_
  refine g_iload K 1 dL_law_356 rfl ?_
  refine g_if_ne (tgt := 373) (a := k) K dL_law_358 (by decide) (by omega) (fun h9 => ?_) (fun h9 => ?_)
  · refine g_goto (tgt := 1412) K dL_law_373 (by decide) ?_
    refine g_loc (lo' := [(0, .ref b), (1, .ref (g_ad X 0)), (2, .ref (g_ad X 22)), (3, .ref o), (4, .int (nI (i)))]) [2, 3, 4, 5, 6] rfl ?_
    exact kk O1 S2 (g_ce X + 1) (g_sl X + 6) hI (Nat.le_refl _) (Nat.le_refl _)
  · refine g_aload_n K 5 dL_law_361 rfl ?_
    refine g_iconst K 0 dL_law_362 (by decide +kernel) ?_
    refine g_lald K rfl dL_law_363 ?_
    refine g_iload K 0 dL_law_364 rfl ?_
    refine g_i2l K dL_law_366 ?_
    refine g_lcmpeq (tgt := 373) K (hO h9) dL_law_367 dL_law_368 (by decide) ?_
    refine g_goto (tgt := 1412) K dL_law_373 (by decide) ?_
    refine g_loc (lo' := [(0, .ref b), (1, .ref (g_ad X 0)), (2, .ref (g_ad X 22)), (3, .ref o), (4, .int (nI (i)))]) [2, 3, 4, 5, 6] rfl ?_
    exact kk O1 S2 (g_ce X + 1) (g_sl X + 6) hI (Nat.le_refl _) (Nat.le_refl _)

set_option maxHeartbeats 4000000 in
set_option maxRecDepth 100000 in
theorem case_setSource {X : gC} {b L o i : Nat} {xs : Nat → Int32} {O : Nat → Int64} {S : Nat → Nat → Nat} (K : gOk X cL_law 7 wsL_law RL) (B : gScr X b L xs) (T : gT (g_A X) (g_s X) (g_H X)) (C : gNc (g_s X)) (hl0 : (gz_l (g_z X)).stackTraces = false) (hR : g_R X = room_1) (hex : gz_ex (g_z X) = oc o (gz_L (g_z X)) O) (h : inv S S) (hU : wfU S) (hi : i + 5 ≤ L) (hce : g_ce X + 1 ≤ 1073) (hsl : g_sl X + 6 ≤ 9397)
    (kk : ∀ (O2 : Nat → Int64) (S2 : Nat → Nat → Nat) (ca sa : Nat), inv S2 S2 → ca ≤ g_ce X + 1 → sa ≤ g_sl X + 6 → gG (gY X (oc o (gz_L (g_z X)) O2) ca sa) 1412 [(0, .ref b), (1, .ref (g_ad X 0)), (2, .ref (g_ad X 22)), (3, .ref o), (4, .int (nI (i)))] [] S2) : gG X 376 [(0, .ref b), (1, .ref (g_ad X 0)), (2, .ref (g_ad X 22)), (3, .ref o), (4, .int (nI (i)))] [] S := by
  obtain ⟨k, S1, O1, rm, v, S2, hk3, hH, hf, hl, hc, hs, hv, hM, hth, hO, hI⟩ := pr_setSource (g_z X) o O hex hl0 S h (xn xs (i + 1)) (bI (xn xs (i + 2))) (xn_lt _ _) (bI_lt _)
  refine g_aload_n K 1 dL_law_376 rfl ?_
  refine g_aload_n K 0 dL_law_377 rfl ?_
  refine g_iload K 4 dL_law_378 rfl ?_
  refine g_iconst K 1 dL_law_380 (by decide +kernel) ?_
  refine g_iadd (a := i) (b := 1) K dL_law_381 ?_
  refine g_sld (i := i + 1) K B (by omega) dL_law_382 ?_
  refine g_aload_n K 0 dL_law_383 rfl ?_
  refine g_iload K 4 dL_law_384 rfl ?_
  refine g_iconst K 2 dL_law_386 (by decide +kernel) ?_
  refine g_iadd (a := i) (b := 2) K dL_law_387 ?_
  refine g_sld (i := i + 2) K B (by omega) dL_law_388 ?_
  refine g_boolI (t1 := 396) (t2 := 397) K (xn_lt _ _) dL_law_389 (by decide) dL_law_392 dL_law_393 (by decide) dL_law_396 rfl ?_
  refine g_aload_n K 3 dL_law_397 rfl ?_
  refine g_callH (As := [.ref (g_ad X 0), .int (nI (xn xs (i + 1))), .int (nI (bI (xn xs (i + 2)))), .ref o]) (rest := []) K T C hH (vx_cwSW 4 K.1.2.2.2.2 gL_law_L_setSource rfl rfl rfl (by decide +kernel) ⟨by rw [hR]; exact Nat.le_of_ble_eq_true rfl, by rw [hR]; exact Nat.le_of_ble_eq_true rfl⟩) rfl rfl (Nat.le_of_ble_eq_true rfl) dL_law_398 (by rw [hR]; exact Nat.le_trans hce (Nat.le_refl _)) (by rw [hR]; exact Nat.le_trans hsl (Nat.le_refl _)) ?_
  have K := gY_ok K (oc o (gz_L (g_z X)) O1) (a := g_ce X + 1) (b := g_sl X + 6) (by rw [hR]; exact Nat.le_trans hce (Nat.le_refl _)) (by rw [hR]; exact Nat.le_trans hsl (Nat.le_refl _))
  have B : gScr (gY X (oc o (gz_L (g_z X)) O1) (g_ce X + 1) (g_sl X + 6)) b L xs := B
  refine g_istore (lo' := [(5, .int (nI (k))), (0, .ref b), (1, .ref (g_ad X 0)), (2, .ref (g_ad X 22)), (3, .ref o), (4, .int (nI (i)))]) K dL_law_401 (by decide) rfl ?_
  refine g_aload_n K 3 dL_law_403 rfl ?_
  refine g_aload_n K 1 dL_law_404 rfl ?_
  refine g_iload K 5 dL_law_405 rfl ?_
  refine g_iconst K 1 dL_law_407 (by decide +kernel) ?_
  refine g_iadd (a := i) (b := 1) K dL_law_408 ?_
  refine g_sld (i := i + 1) K B (by omega) dL_law_409 ?_
  refine g_aload_n K 1 dL_law_410 rfl ?_
  refine g_iload K 5 dL_law_411 rfl ?_
  refine g_iconst K 2 dL_law_413 (by decide +kernel) ?_
  refine g_iadd (a := i) (b := 2) K dL_law_414 ?_
  refine g_sld (i := i + 2) K B (by omega) dL_law_415 ?_
  refine g_boolI (t1 := 423) (t2 := 424) K (xn_lt _ _) dL_law_416 (by decide) dL_law_419 dL_law_420 (by decide) dL_law_423 rfl ?_
  refine g_callVd (q := 22) (ci := 6) (As := [.int (nI (xn xs (i + 1))), .int (nI (bI (xn xs (i + 2))))]) (rest := []) (C := RX6) (T := TX6) (N := 17) K hM (cwV 2 K.1.2.2.2.2 gL_law_X6_setSource rfl hc hs (by decide +kernel) ⟨by rw [show g_R (gY X (oc o (gz_L (g_z X)) O1) (g_ce X + 1) (g_sl X + 6)) = room_1 from hR]; show rm.frames + 1 ≤ 11; omega, by rw [show g_R (gY X (oc o (gz_L (g_z X)) O1) (g_ce X + 1) (g_sl X + 6)) = room_1 from hR]; show 8 + (4 + 11) + rm.locals ≤ 400; omega⟩) rfl rfl rfl rfl (Nat.le_of_ble_eq_true rfl) dL_law_424 ?_
  refine g_istore (lo' := [(6, .int (nI (v))), (5, .int (nI (k))), (0, .ref b), (1, .ref (g_ad X 0)), (2, .ref (g_ad X 22)), (3, .ref o), (4, .int (nI (i)))]) K dL_law_427 (by decide) rfl ?_
  refine g_aload_n K 4 dL_law_429 rfl ?_
  refine g_callVd (q := 22) (ci := 6) (As := []) (rest := []) (C := RX6) (T := TX6) (N := 17) K (cX6_thrown_k _ S2) (cwV 0 K.1.2.2.2.2 gL_law_X6_thrown rfl rfl rfl (by decide +kernel) ⟨by rw [show g_R (gY X (oc o (gz_L (g_z X)) O1) (g_ce X + 1) (g_sl X + 6)) = room_1 from hR]; exact Nat.le_of_ble_eq_true rfl, by rw [show g_R (gY X (oc o (gz_L (g_z X)) O1) (g_ce X + 1) (g_sl X + 6)) = room_1 from hR]; exact Nat.le_of_ble_eq_true rfl⟩) rfl rfl rfl rfl (Nat.le_of_ble_eq_true rfl) dL_law_430 ?_
  refine g_topE k hth ?_
  refine g_iload K 1 dL_law_433 rfl ?_
  refine g_icmpS (tgt := 440) K dL_law_435 (by decide) ?_
  refine g_iload K 1 dL_law_440 rfl ?_
  refine g_if_ne (tgt := 464) (a := k) K dL_law_442 (by decide) (by omega) (fun h9 => ?_) (fun h9 => ?_)
  · refine g_goto (tgt := 1412) K dL_law_464 (by decide) ?_
    refine g_loc (lo' := [(0, .ref b), (1, .ref (g_ad X 0)), (2, .ref (g_ad X 22)), (3, .ref o), (4, .int (nI (i)))]) [2, 3, 4, 5, 6] rfl ?_
    exact kk O1 S2 (g_ce X + 1) (g_sl X + 6) hI (Nat.le_refl _) (Nat.le_refl _)
  · refine g_aload_n K 5 dL_law_445 rfl ?_
    refine g_iconst K 0 dL_law_446 (by decide +kernel) ?_
    refine g_lald K rfl dL_law_447 ?_
    refine g_iload K 0 dL_law_448 rfl ?_
    refine g_boolL (t1 := 457) (t2 := 458) K (Nat.lt_of_le_of_lt (hv rfl) (by decide)) dL_law_450 (by decide) dL_law_453 dL_law_454 (by decide) dL_law_457 rfl ?_
    refine g_lcmpeq (tgt := 464) K (hO h9) dL_law_458 dL_law_459 (by decide) ?_
    refine g_goto (tgt := 1412) K dL_law_464 (by decide) ?_
    refine g_loc (lo' := [(0, .ref b), (1, .ref (g_ad X 0)), (2, .ref (g_ad X 22)), (3, .ref o), (4, .int (nI (i)))]) [2, 3, 4, 5, 6] rfl ?_
    exact kk O1 S2 (g_ce X + 1) (g_sl X + 6) hI (Nat.le_refl _) (Nat.le_refl _)

set_option maxHeartbeats 4000000 in
set_option maxRecDepth 100000 in
theorem case_setStuck {X : gC} {b L o i : Nat} {xs : Nat → Int32} {O : Nat → Int64} {S : Nat → Nat → Nat} (K : gOk X cL_law 7 wsL_law RL) (B : gScr X b L xs) (T : gT (g_A X) (g_s X) (g_H X)) (C : gNc (g_s X)) (hl0 : (gz_l (g_z X)).stackTraces = false) (hR : g_R X = room_1) (hex : gz_ex (g_z X) = oc o (gz_L (g_z X)) O) (h : inv S S) (hU : wfU S) (hi : i + 5 ≤ L) (hce : g_ce X + 1 ≤ 1073) (hsl : g_sl X + 6 ≤ 9397)
    (kk : ∀ (O2 : Nat → Int64) (S2 : Nat → Nat → Nat) (ca sa : Nat), inv S2 S2 → ca ≤ g_ce X + 1 → sa ≤ g_sl X + 6 → gG (gY X (oc o (gz_L (g_z X)) O2) ca sa) 1412 [(0, .ref b), (1, .ref (g_ad X 0)), (2, .ref (g_ad X 22)), (3, .ref o), (4, .int (nI (i)))] [] S2) : gG X 467 [(0, .ref b), (1, .ref (g_ad X 0)), (2, .ref (g_ad X 22)), (3, .ref o), (4, .int (nI (i)))] [] S := by
  obtain ⟨k, S1, O1, rm, v, S2, hk3, hH, hf, hl, hc, hs, hv, hM, hth, hO, hI⟩ := pr_setStuck (g_z X) o O hex hl0 S h (xn xs (i + 1)) (bI (xn xs (i + 2))) (xn_lt _ _) (bI_lt _)
  refine g_aload_n K 1 dL_law_467 rfl ?_
  refine g_aload_n K 0 dL_law_468 rfl ?_
  refine g_iload K 4 dL_law_469 rfl ?_
  refine g_iconst K 1 dL_law_471 (by decide +kernel) ?_
  refine g_iadd (a := i) (b := 1) K dL_law_472 ?_
  refine g_sld (i := i + 1) K B (by omega) dL_law_473 ?_
  refine g_aload_n K 0 dL_law_474 rfl ?_
  refine g_iload K 4 dL_law_475 rfl ?_
  refine g_iconst K 2 dL_law_477 (by decide +kernel) ?_
  refine g_iadd (a := i) (b := 2) K dL_law_478 ?_
  refine g_sld (i := i + 2) K B (by omega) dL_law_479 ?_
  refine g_boolI (t1 := 487) (t2 := 488) K (xn_lt _ _) dL_law_480 (by decide) dL_law_483 dL_law_484 (by decide) dL_law_487 rfl ?_
  refine g_aload_n K 3 dL_law_488 rfl ?_
  refine g_callH (As := [.ref (g_ad X 0), .int (nI (xn xs (i + 1))), .int (nI (bI (xn xs (i + 2)))), .ref o]) (rest := []) K T C hH (vx_cwSW 4 K.1.2.2.2.2 gL_law_L_setStuck rfl rfl rfl (by decide +kernel) ⟨by rw [hR]; exact Nat.le_of_ble_eq_true rfl, by rw [hR]; exact Nat.le_of_ble_eq_true rfl⟩) rfl rfl (Nat.le_of_ble_eq_true rfl) dL_law_489 (by rw [hR]; exact Nat.le_trans hce (Nat.le_refl _)) (by rw [hR]; exact Nat.le_trans hsl (Nat.le_refl _)) ?_
  have K := gY_ok K (oc o (gz_L (g_z X)) O1) (a := g_ce X + 1) (b := g_sl X + 6) (by rw [hR]; exact Nat.le_trans hce (Nat.le_refl _)) (by rw [hR]; exact Nat.le_trans hsl (Nat.le_refl _))
  have B : gScr (gY X (oc o (gz_L (g_z X)) O1) (g_ce X + 1) (g_sl X + 6)) b L xs := B
  refine g_istore (lo' := [(5, .int (nI (k))), (0, .ref b), (1, .ref (g_ad X 0)), (2, .ref (g_ad X 22)), (3, .ref o), (4, .int (nI (i)))]) K dL_law_492 (by decide) rfl ?_
  refine g_aload_n K 3 dL_law_494 rfl ?_
  refine g_aload_n K 1 dL_law_495 rfl ?_
  refine g_iload K 5 dL_law_496 rfl ?_
  refine g_iconst K 1 dL_law_498 (by decide +kernel) ?_
  refine g_iadd (a := i) (b := 1) K dL_law_499 ?_
  refine g_sld (i := i + 1) K B (by omega) dL_law_500 ?_
  refine g_aload_n K 1 dL_law_501 rfl ?_
  refine g_iload K 5 dL_law_502 rfl ?_
  refine g_iconst K 2 dL_law_504 (by decide +kernel) ?_
  refine g_iadd (a := i) (b := 2) K dL_law_505 ?_
  refine g_sld (i := i + 2) K B (by omega) dL_law_506 ?_
  refine g_boolI (t1 := 514) (t2 := 515) K (xn_lt _ _) dL_law_507 (by decide) dL_law_510 dL_law_511 (by decide) dL_law_514 rfl ?_
  refine g_callVd (q := 22) (ci := 6) (As := [.int (nI (xn xs (i + 1))), .int (nI (bI (xn xs (i + 2))))]) (rest := []) (C := RX6) (T := TX6) (N := 17) K hM (cwV 2 K.1.2.2.2.2 gL_law_X6_setStuck rfl hc hs (by decide +kernel) ⟨by rw [show g_R (gY X (oc o (gz_L (g_z X)) O1) (g_ce X + 1) (g_sl X + 6)) = room_1 from hR]; show rm.frames + 1 ≤ 11; omega, by rw [show g_R (gY X (oc o (gz_L (g_z X)) O1) (g_ce X + 1) (g_sl X + 6)) = room_1 from hR]; show 8 + (4 + 11) + rm.locals ≤ 400; omega⟩) rfl rfl rfl rfl (Nat.le_of_ble_eq_true rfl) dL_law_515 ?_
  refine g_istore (lo' := [(6, .int (nI (v))), (5, .int (nI (k))), (0, .ref b), (1, .ref (g_ad X 0)), (2, .ref (g_ad X 22)), (3, .ref o), (4, .int (nI (i)))]) K dL_law_518 (by decide) rfl ?_
  refine g_aload_n K 4 dL_law_520 rfl ?_
  refine g_callVd (q := 22) (ci := 6) (As := []) (rest := []) (C := RX6) (T := TX6) (N := 17) K (cX6_thrown_k _ S2) (cwV 0 K.1.2.2.2.2 gL_law_X6_thrown rfl rfl rfl (by decide +kernel) ⟨by rw [show g_R (gY X (oc o (gz_L (g_z X)) O1) (g_ce X + 1) (g_sl X + 6)) = room_1 from hR]; exact Nat.le_of_ble_eq_true rfl, by rw [show g_R (gY X (oc o (gz_L (g_z X)) O1) (g_ce X + 1) (g_sl X + 6)) = room_1 from hR]; exact Nat.le_of_ble_eq_true rfl⟩) rfl rfl rfl rfl (Nat.le_of_ble_eq_true rfl) dL_law_521 ?_
  refine g_topE k hth ?_
  refine g_iload K 1 dL_law_524 rfl ?_
  refine g_icmpS (tgt := 531) K dL_law_526 (by decide) ?_
  refine g_iload K 1 dL_law_531 rfl ?_
  refine g_if_ne (tgt := 555) (a := k) K dL_law_533 (by decide) (by omega) (fun h9 => ?_) (fun h9 => ?_)
  · refine g_goto (tgt := 1412) K dL_law_555 (by decide) ?_
    refine g_loc (lo' := [(0, .ref b), (1, .ref (g_ad X 0)), (2, .ref (g_ad X 22)), (3, .ref o), (4, .int (nI (i)))]) [2, 3, 4, 5, 6] rfl ?_
    exact kk O1 S2 (g_ce X + 1) (g_sl X + 6) hI (Nat.le_refl _) (Nat.le_refl _)
  · refine g_aload_n K 5 dL_law_536 rfl ?_
    refine g_iconst K 0 dL_law_537 (by decide +kernel) ?_
    refine g_lald K rfl dL_law_538 ?_
    refine g_iload K 0 dL_law_539 rfl ?_
    refine g_boolL (t1 := 548) (t2 := 549) K (Nat.lt_of_le_of_lt (hv rfl) (by decide)) dL_law_541 (by decide) dL_law_544 dL_law_545 (by decide) dL_law_548 rfl ?_
    refine g_lcmpeq (tgt := 555) K (hO h9) dL_law_549 dL_law_550 (by decide) ?_
    refine g_goto (tgt := 1412) K dL_law_555 (by decide) ?_
    refine g_loc (lo' := [(0, .ref b), (1, .ref (g_ad X 0)), (2, .ref (g_ad X 22)), (3, .ref o), (4, .int (nI (i)))]) [2, 3, 4, 5, 6] rfl ?_
    exact kk O1 S2 (g_ce X + 1) (g_sl X + 6) hI (Nat.le_refl _) (Nat.le_refl _)

set_option maxHeartbeats 4000000 in
set_option maxRecDepth 100000 in
theorem case_turn {X : gC} {b L o i : Nat} {xs : Nat → Int32} {O : Nat → Int64} {S : Nat → Nat → Nat} (K : gOk X cL_law 7 wsL_law RL) (B : gScr X b L xs) (T : gT (g_A X) (g_s X) (g_H X)) (C : gNc (g_s X)) (hl0 : (gz_l (g_z X)).stackTraces = false) (hR : g_R X = room_1) (hex : gz_ex (g_z X) = oc o (gz_L (g_z X)) O) (h : inv S S) (hU : wfU S) (hi : i + 5 ≤ L) (hce : g_ce X + 1 ≤ 1073) (hsl : g_sl X + 6 ≤ 9397)
    (kk : ∀ (O2 : Nat → Int64) (S2 : Nat → Nat → Nat) (ca sa : Nat), inv S2 S2 → ca ≤ g_ce X + 1 → sa ≤ g_sl X + 6 → gG (gY X (oc o (gz_L (g_z X)) O2) ca sa) 1412 [(0, .ref b), (1, .ref (g_ad X 0)), (2, .ref (g_ad X 22)), (3, .ref o), (4, .int (nI (i)))] [] S2) : gG X 558 [(0, .ref b), (1, .ref (g_ad X 0)), (2, .ref (g_ad X 22)), (3, .ref o), (4, .int (nI (i)))] [] S := by
  obtain ⟨k, S1, O1, rm, v, S2, hk3, hH, hf, hl, hc, hs, hv, hM, hth, hO, hI⟩ := pr_turn (g_z X) o O hex hl0 S h (xn xs (i + 1)) (bI (xn xs (i + 2))) (xn_lt _ _) (bI_lt _)
  refine g_aload_n K 1 dL_law_558 rfl ?_
  refine g_aload_n K 0 dL_law_559 rfl ?_
  refine g_iload K 4 dL_law_560 rfl ?_
  refine g_iconst K 1 dL_law_562 (by decide +kernel) ?_
  refine g_iadd (a := i) (b := 1) K dL_law_563 ?_
  refine g_sld (i := i + 1) K B (by omega) dL_law_564 ?_
  refine g_aload_n K 0 dL_law_565 rfl ?_
  refine g_iload K 4 dL_law_566 rfl ?_
  refine g_iconst K 2 dL_law_568 (by decide +kernel) ?_
  refine g_iadd (a := i) (b := 2) K dL_law_569 ?_
  refine g_sld (i := i + 2) K B (by omega) dL_law_570 ?_
  refine g_boolI (t1 := 578) (t2 := 579) K (xn_lt _ _) dL_law_571 (by decide) dL_law_574 dL_law_575 (by decide) dL_law_578 rfl ?_
  refine g_aload_n K 3 dL_law_579 rfl ?_
  refine g_callH (As := [.ref (g_ad X 0), .int (nI (xn xs (i + 1))), .int (nI (bI (xn xs (i + 2)))), .ref o]) (rest := []) K T C hH (vx_cwSW 4 K.1.2.2.2.2 gL_law_L_turn rfl rfl rfl (by decide +kernel) ⟨by rw [hR]; exact Nat.le_of_ble_eq_true rfl, by rw [hR]; exact Nat.le_of_ble_eq_true rfl⟩) rfl rfl (Nat.le_of_ble_eq_true rfl) dL_law_580 (by rw [hR]; exact Nat.le_trans hce (Nat.le_refl _)) (by rw [hR]; exact Nat.le_trans hsl (Nat.le_refl _)) ?_
  have K := gY_ok K (oc o (gz_L (g_z X)) O1) (a := g_ce X + 1) (b := g_sl X + 6) (by rw [hR]; exact Nat.le_trans hce (Nat.le_refl _)) (by rw [hR]; exact Nat.le_trans hsl (Nat.le_refl _))
  have B : gScr (gY X (oc o (gz_L (g_z X)) O1) (g_ce X + 1) (g_sl X + 6)) b L xs := B
  refine g_istore (lo' := [(5, .int (nI (k))), (0, .ref b), (1, .ref (g_ad X 0)), (2, .ref (g_ad X 22)), (3, .ref o), (4, .int (nI (i)))]) K dL_law_583 (by decide) rfl ?_
  refine g_aload_n K 3 dL_law_585 rfl ?_
  refine g_aload_n K 1 dL_law_586 rfl ?_
  refine g_iload K 5 dL_law_587 rfl ?_
  refine g_iconst K 1 dL_law_589 (by decide +kernel) ?_
  refine g_iadd (a := i) (b := 1) K dL_law_590 ?_
  refine g_sld (i := i + 1) K B (by omega) dL_law_591 ?_
  refine g_aload_n K 1 dL_law_592 rfl ?_
  refine g_iload K 5 dL_law_593 rfl ?_
  refine g_iconst K 2 dL_law_595 (by decide +kernel) ?_
  refine g_iadd (a := i) (b := 2) K dL_law_596 ?_
  refine g_sld (i := i + 2) K B (by omega) dL_law_597 ?_
  refine g_boolI (t1 := 605) (t2 := 606) K (xn_lt _ _) dL_law_598 (by decide) dL_law_601 dL_law_602 (by decide) dL_law_605 rfl ?_
  refine g_callVd (q := 22) (ci := 6) (As := [.int (nI (xn xs (i + 1))), .int (nI (bI (xn xs (i + 2))))]) (rest := []) (C := RX6) (T := TX6) (N := 17) K hM (cwV 2 K.1.2.2.2.2 gL_law_X6_turn rfl hc hs (by decide +kernel) ⟨by rw [show g_R (gY X (oc o (gz_L (g_z X)) O1) (g_ce X + 1) (g_sl X + 6)) = room_1 from hR]; show rm.frames + 1 ≤ 11; omega, by rw [show g_R (gY X (oc o (gz_L (g_z X)) O1) (g_ce X + 1) (g_sl X + 6)) = room_1 from hR]; show 8 + (4 + 11) + rm.locals ≤ 400; omega⟩) rfl rfl rfl rfl (Nat.le_of_ble_eq_true rfl) dL_law_606 ?_
  refine g_istore (lo' := [(6, .int (nI (v))), (5, .int (nI (k))), (0, .ref b), (1, .ref (g_ad X 0)), (2, .ref (g_ad X 22)), (3, .ref o), (4, .int (nI (i)))]) K dL_law_609 (by decide) rfl ?_
  refine g_aload_n K 4 dL_law_611 rfl ?_
  refine g_callVd (q := 22) (ci := 6) (As := []) (rest := []) (C := RX6) (T := TX6) (N := 17) K (cX6_thrown_k _ S2) (cwV 0 K.1.2.2.2.2 gL_law_X6_thrown rfl rfl rfl (by decide +kernel) ⟨by rw [show g_R (gY X (oc o (gz_L (g_z X)) O1) (g_ce X + 1) (g_sl X + 6)) = room_1 from hR]; exact Nat.le_of_ble_eq_true rfl, by rw [show g_R (gY X (oc o (gz_L (g_z X)) O1) (g_ce X + 1) (g_sl X + 6)) = room_1 from hR]; exact Nat.le_of_ble_eq_true rfl⟩) rfl rfl rfl rfl (Nat.le_of_ble_eq_true rfl) dL_law_612 ?_
  refine g_topE k hth ?_
  refine g_iload K 1 dL_law_615 rfl ?_
  refine g_icmpS (tgt := 622) K dL_law_617 (by decide) ?_
  refine g_iload K 1 dL_law_622 rfl ?_
  refine g_if_ne (tgt := 646) (a := k) K dL_law_624 (by decide) (by omega) (fun h9 => ?_) (fun h9 => ?_)
  · refine g_goto (tgt := 1412) K dL_law_646 (by decide) ?_
    refine g_loc (lo' := [(0, .ref b), (1, .ref (g_ad X 0)), (2, .ref (g_ad X 22)), (3, .ref o), (4, .int (nI (i)))]) [2, 3, 4, 5, 6] rfl ?_
    exact kk O1 S2 (g_ce X + 1) (g_sl X + 6) hI (Nat.le_refl _) (Nat.le_refl _)
  · refine g_aload_n K 5 dL_law_627 rfl ?_
    refine g_iconst K 0 dL_law_628 (by decide +kernel) ?_
    refine g_lald K rfl dL_law_629 ?_
    refine g_iload K 0 dL_law_630 rfl ?_
    refine g_boolL (t1 := 639) (t2 := 640) K (Nat.lt_of_le_of_lt (hv rfl) (by decide)) dL_law_632 (by decide) dL_law_635 dL_law_636 (by decide) dL_law_639 rfl ?_
    refine g_lcmpeq (tgt := 646) K (hO h9) dL_law_640 dL_law_641 (by decide) ?_
    refine g_goto (tgt := 1412) K dL_law_646 (by decide) ?_
    refine g_loc (lo' := [(0, .ref b), (1, .ref (g_ad X 0)), (2, .ref (g_ad X 22)), (3, .ref o), (4, .int (nI (i)))]) [2, 3, 4, 5, 6] rfl ?_
    exact kk O1 S2 (g_ce X + 1) (g_sl X + 6) hI (Nat.le_refl _) (Nat.le_refl _)

set_option maxHeartbeats 4000000 in
set_option maxRecDepth 100000 in
theorem case_nodes {X : gC} {b L o i : Nat} {xs : Nat → Int32} {O : Nat → Int64} {S : Nat → Nat → Nat} (K : gOk X cL_law 7 wsL_law RL) (B : gScr X b L xs) (T : gT (g_A X) (g_s X) (g_H X)) (C : gNc (g_s X)) (hl0 : (gz_l (g_z X)).stackTraces = false) (hR : g_R X = room_1) (hex : gz_ex (g_z X) = oc o (gz_L (g_z X)) O) (h : inv S S) (hU : wfU S) (hi : i + 5 ≤ L) (hce : g_ce X + 1 ≤ 1073) (hsl : g_sl X + 6 ≤ 9397)
    (kk : ∀ (O2 : Nat → Int64) (S2 : Nat → Nat → Nat) (ca sa : Nat), inv S2 S2 → ca ≤ g_ce X + 1 → sa ≤ g_sl X + 6 → gG (gY X (oc o (gz_L (g_z X)) O2) ca sa) 1412 [(0, .ref b), (1, .ref (g_ad X 0)), (2, .ref (g_ad X 22)), (3, .ref o), (4, .int (nI (i)))] [] S2) : gG X 649 [(0, .ref b), (1, .ref (g_ad X 0)), (2, .ref (g_ad X 22)), (3, .ref o), (4, .int (nI (i)))] [] S := by
  refine g_aload_n K 1 dL_law_649 rfl ?_
  refine g_callVd (q := 0) (ci := 5) (As := []) (rest := []) (C := RX5) (T := TX5) (N := 5) K (cX5_nodes_k (g_z X) S) (cwV 0 K.1.2.2.2.2 gL_law_X5_nodes rfl rfl rfl (by decide +kernel) ⟨by rw [hR]; exact Nat.le_of_ble_eq_true rfl, by rw [hR]; exact Nat.le_of_ble_eq_true rfl⟩) rfl rfl rfl rfl (Nat.le_of_ble_eq_true rfl) dL_law_650 ?_
  refine g_aload_n K 2 dL_law_653 rfl ?_
  refine g_callVd (q := 22) (ci := 6) (As := []) (rest := [.int (nI (S 1 0))]) (C := RX6) (T := TX6) (N := 17) K (cX6_nodes_k (g_z X) S) (cwV 0 K.1.2.2.2.2 gL_law_X6_nodes rfl rfl rfl (by decide +kernel) ⟨by rw [hR]; exact Nat.le_of_ble_eq_true rfl, by rw [hR]; exact Nat.le_of_ble_eq_true rfl⟩) rfl rfl rfl rfl (Nat.le_of_ble_eq_true rfl) dL_law_654 ?_
  rw [h.2.2.1.1]
  refine g_icmpS (tgt := 1412) K dL_law_657 (by decide) ?_
  have q := kk O _ (g_ce X) (g_sl X) (inv_ref h 0) (by omega) (by omega)
  rw [← hex] at q
  exact q

set_option maxHeartbeats 4000000 in
set_option maxRecDepth 100000 in
theorem case_pipes {X : gC} {b L o i : Nat} {xs : Nat → Int32} {O : Nat → Int64} {S : Nat → Nat → Nat} (K : gOk X cL_law 7 wsL_law RL) (B : gScr X b L xs) (T : gT (g_A X) (g_s X) (g_H X)) (C : gNc (g_s X)) (hl0 : (gz_l (g_z X)).stackTraces = false) (hR : g_R X = room_1) (hex : gz_ex (g_z X) = oc o (gz_L (g_z X)) O) (h : inv S S) (hU : wfU S) (hi : i + 5 ≤ L) (hce : g_ce X + 1 ≤ 1073) (hsl : g_sl X + 6 ≤ 9397)
    (kk : ∀ (O2 : Nat → Int64) (S2 : Nat → Nat → Nat) (ca sa : Nat), inv S2 S2 → ca ≤ g_ce X + 1 → sa ≤ g_sl X + 6 → gG (gY X (oc o (gz_L (g_z X)) O2) ca sa) 1412 [(0, .ref b), (1, .ref (g_ad X 0)), (2, .ref (g_ad X 22)), (3, .ref o), (4, .int (nI (i)))] [] S2) : gG X 662 [(0, .ref b), (1, .ref (g_ad X 0)), (2, .ref (g_ad X 22)), (3, .ref o), (4, .int (nI (i)))] [] S := by
  refine g_aload_n K 1 dL_law_662 rfl ?_
  refine g_callVd (q := 0) (ci := 5) (As := []) (rest := []) (C := RX5) (T := TX5) (N := 5) K (cX5_pipes_k (g_z X) S) (cwV 0 K.1.2.2.2.2 gL_law_X5_pipes rfl rfl rfl (by decide +kernel) ⟨by rw [hR]; exact Nat.le_of_ble_eq_true rfl, by rw [hR]; exact Nat.le_of_ble_eq_true rfl⟩) rfl rfl rfl rfl (Nat.le_of_ble_eq_true rfl) dL_law_663 ?_
  refine g_aload_n K 2 dL_law_666 rfl ?_
  refine g_callVd (q := 22) (ci := 6) (As := []) (rest := [.int (nI (S 1 1))]) (C := RX6) (T := TX6) (N := 17) K (cX6_pipes_k (g_z X) S) (cwV 0 K.1.2.2.2.2 gL_law_X6_pipes rfl rfl rfl (by decide +kernel) ⟨by rw [hR]; exact Nat.le_of_ble_eq_true rfl, by rw [hR]; exact Nat.le_of_ble_eq_true rfl⟩) rfl rfl rfl rfl (Nat.le_of_ble_eq_true rfl) dL_law_667 ?_
  rw [h.2.2.1.2.1]
  refine g_icmpS (tgt := 1412) K dL_law_670 (by decide) ?_
  have q := kk O _ (g_ce X) (g_sl X) (inv_ref h 0) (by omega) (by omega)
  rw [← hex] at q
  exact q

set_option maxHeartbeats 4000000 in
set_option maxRecDepth 100000 in
theorem case_valves {X : gC} {b L o i : Nat} {xs : Nat → Int32} {O : Nat → Int64} {S : Nat → Nat → Nat} (K : gOk X cL_law 7 wsL_law RL) (B : gScr X b L xs) (T : gT (g_A X) (g_s X) (g_H X)) (C : gNc (g_s X)) (hl0 : (gz_l (g_z X)).stackTraces = false) (hR : g_R X = room_1) (hex : gz_ex (g_z X) = oc o (gz_L (g_z X)) O) (h : inv S S) (hU : wfU S) (hi : i + 5 ≤ L) (hce : g_ce X + 1 ≤ 1073) (hsl : g_sl X + 6 ≤ 9397)
    (kk : ∀ (O2 : Nat → Int64) (S2 : Nat → Nat → Nat) (ca sa : Nat), inv S2 S2 → ca ≤ g_ce X + 1 → sa ≤ g_sl X + 6 → gG (gY X (oc o (gz_L (g_z X)) O2) ca sa) 1412 [(0, .ref b), (1, .ref (g_ad X 0)), (2, .ref (g_ad X 22)), (3, .ref o), (4, .int (nI (i)))] [] S2) : gG X 675 [(0, .ref b), (1, .ref (g_ad X 0)), (2, .ref (g_ad X 22)), (3, .ref o), (4, .int (nI (i)))] [] S := by
  refine g_aload_n K 1 dL_law_675 rfl ?_
  refine g_callVd (q := 0) (ci := 5) (As := []) (rest := []) (C := RX5) (T := TX5) (N := 5) K (cX5_valves_k (g_z X) S) (cwV 0 K.1.2.2.2.2 gL_law_X5_valves rfl rfl rfl (by decide +kernel) ⟨by rw [hR]; exact Nat.le_of_ble_eq_true rfl, by rw [hR]; exact Nat.le_of_ble_eq_true rfl⟩) rfl rfl rfl rfl (Nat.le_of_ble_eq_true rfl) dL_law_676 ?_
  refine g_aload_n K 2 dL_law_679 rfl ?_
  refine g_callVd (q := 22) (ci := 6) (As := []) (rest := [.int (nI (S 1 2))]) (C := RX6) (T := TX6) (N := 17) K (cX6_valves_k (g_z X) S) (cwV 0 K.1.2.2.2.2 gL_law_X6_valves rfl rfl rfl (by decide +kernel) ⟨by rw [hR]; exact Nat.le_of_ble_eq_true rfl, by rw [hR]; exact Nat.le_of_ble_eq_true rfl⟩) rfl rfl rfl rfl (Nat.le_of_ble_eq_true rfl) dL_law_680 ?_
  rw [h.2.2.1.2.2.1]
  refine g_icmpS (tgt := 1412) K dL_law_683 (by decide) ?_
  have q := kk O _ (g_ce X) (g_sl X) (inv_ref h 0) (by omega) (by omega)
  rw [← hex] at q
  exact q

set_option maxHeartbeats 4000000 in
set_option maxRecDepth 100000 in
theorem case_isNodeDry {X : gC} {b L o i : Nat} {xs : Nat → Int32} {O : Nat → Int64} {S : Nat → Nat → Nat} (K : gOk X cL_law 7 wsL_law RL) (B : gScr X b L xs) (T : gT (g_A X) (g_s X) (g_H X)) (C : gNc (g_s X)) (hl0 : (gz_l (g_z X)).stackTraces = false) (hR : g_R X = room_1) (hex : gz_ex (g_z X) = oc o (gz_L (g_z X)) O) (h : inv S S) (hU : wfU S) (hi : i + 5 ≤ L) (hce : g_ce X + 1 ≤ 1073) (hsl : g_sl X + 6 ≤ 9397)
    (kk : ∀ (O2 : Nat → Int64) (S2 : Nat → Nat → Nat) (ca sa : Nat), inv S2 S2 → ca ≤ g_ce X + 1 → sa ≤ g_sl X + 6 → gG (gY X (oc o (gz_L (g_z X)) O2) ca sa) 1412 [(0, .ref b), (1, .ref (g_ad X 0)), (2, .ref (g_ad X 22)), (3, .ref o), (4, .int (nI (i)))] [] S2) : gG X 688 [(0, .ref b), (1, .ref (g_ad X 0)), (2, .ref (g_ad X 22)), (3, .ref o), (4, .int (nI (i)))] [] S := by
  obtain ⟨k, S1, O1, rm, v, S2, hk3, hH, hf, hl, hc, hs, hv, hM, hth, hO, hI⟩ := pr_isNodeDry (g_z X) o O hex hl0 S h (xn xs (i + 1)) (xn_lt _ _)
  refine g_aload_n K 1 dL_law_688 rfl ?_
  refine g_aload_n K 0 dL_law_689 rfl ?_
  refine g_iload K 4 dL_law_690 rfl ?_
  refine g_iconst K 1 dL_law_692 (by decide +kernel) ?_
  refine g_iadd (a := i) (b := 1) K dL_law_693 ?_
  refine g_sld (i := i + 1) K B (by omega) dL_law_694 ?_
  refine g_aload_n K 3 dL_law_695 rfl ?_
  refine g_callH (As := [.ref (g_ad X 0), .int (nI (xn xs (i + 1))), .ref o]) (rest := []) K T C hH (vx_cwSW 3 K.1.2.2.2.2 gL_law_L_isNodeDry rfl rfl rfl (by decide +kernel) ⟨by rw [hR]; exact Nat.le_of_ble_eq_true rfl, by rw [hR]; exact Nat.le_of_ble_eq_true rfl⟩) rfl rfl (Nat.le_of_ble_eq_true rfl) dL_law_696 (by rw [hR]; exact Nat.le_trans hce (Nat.le_refl _)) (by rw [hR]; exact Nat.le_trans hsl (Nat.le_refl _)) ?_
  have K := gY_ok K (oc o (gz_L (g_z X)) O1) (a := g_ce X + 1) (b := g_sl X + 6) (by rw [hR]; exact Nat.le_trans hce (Nat.le_refl _)) (by rw [hR]; exact Nat.le_trans hsl (Nat.le_refl _))
  have B : gScr (gY X (oc o (gz_L (g_z X)) O1) (g_ce X + 1) (g_sl X + 6)) b L xs := B
  refine g_istore (lo' := [(5, .int (nI (k))), (0, .ref b), (1, .ref (g_ad X 0)), (2, .ref (g_ad X 22)), (3, .ref o), (4, .int (nI (i)))]) K dL_law_699 (by decide) rfl ?_
  refine g_aload_n K 3 dL_law_701 rfl ?_
  refine g_aload_n K 1 dL_law_702 rfl ?_
  refine g_iload K 5 dL_law_703 rfl ?_
  refine g_iconst K 1 dL_law_705 (by decide +kernel) ?_
  refine g_iadd (a := i) (b := 1) K dL_law_706 ?_
  refine g_sld (i := i + 1) K B (by omega) dL_law_707 ?_
  refine g_callVd (q := 22) (ci := 6) (As := [.int (nI (xn xs (i + 1)))]) (rest := []) (C := RX6) (T := TX6) (N := 17) K hM (cwV 1 K.1.2.2.2.2 gL_law_X6_isNodeDry rfl hc hs (by decide +kernel) ⟨by rw [show g_R (gY X (oc o (gz_L (g_z X)) O1) (g_ce X + 1) (g_sl X + 6)) = room_1 from hR]; show rm.frames + 1 ≤ 11; omega, by rw [show g_R (gY X (oc o (gz_L (g_z X)) O1) (g_ce X + 1) (g_sl X + 6)) = room_1 from hR]; show 8 + (2 + 11) + rm.locals ≤ 400; omega⟩) rfl rfl rfl rfl (Nat.le_of_ble_eq_true rfl) dL_law_708 ?_
  refine g_istore (lo' := [(6, .int (nI (v))), (5, .int (nI (k))), (0, .ref b), (1, .ref (g_ad X 0)), (2, .ref (g_ad X 22)), (3, .ref o), (4, .int (nI (i)))]) K dL_law_711 (by decide) rfl ?_
  refine g_aload_n K 4 dL_law_713 rfl ?_
  refine g_callVd (q := 22) (ci := 6) (As := []) (rest := []) (C := RX6) (T := TX6) (N := 17) K (cX6_thrown_k _ S2) (cwV 0 K.1.2.2.2.2 gL_law_X6_thrown rfl rfl rfl (by decide +kernel) ⟨by rw [show g_R (gY X (oc o (gz_L (g_z X)) O1) (g_ce X + 1) (g_sl X + 6)) = room_1 from hR]; exact Nat.le_of_ble_eq_true rfl, by rw [show g_R (gY X (oc o (gz_L (g_z X)) O1) (g_ce X + 1) (g_sl X + 6)) = room_1 from hR]; exact Nat.le_of_ble_eq_true rfl⟩) rfl rfl rfl rfl (Nat.le_of_ble_eq_true rfl) dL_law_714 ?_
  refine g_topE k hth ?_
  refine g_iload K 1 dL_law_717 rfl ?_
  refine g_icmpS (tgt := 724) K dL_law_719 (by decide) ?_
  refine g_iload K 1 dL_law_724 rfl ?_
  refine g_if_ne (tgt := 748) (a := k) K dL_law_726 (by decide) (by omega) (fun h9 => ?_) (fun h9 => ?_)
  · refine g_goto (tgt := 1412) K dL_law_748 (by decide) ?_
    refine g_loc (lo' := [(0, .ref b), (1, .ref (g_ad X 0)), (2, .ref (g_ad X 22)), (3, .ref o), (4, .int (nI (i)))]) [2, 3, 4, 5, 6] rfl ?_
    exact kk O1 S2 (g_ce X + 1) (g_sl X + 6) hI (Nat.le_refl _) (Nat.le_refl _)
  · refine g_aload_n K 5 dL_law_729 rfl ?_
    refine g_iconst K 0 dL_law_730 (by decide +kernel) ?_
    refine g_lald K rfl dL_law_731 ?_
    refine g_iload K 0 dL_law_732 rfl ?_
    refine g_boolL (t1 := 741) (t2 := 742) K (Nat.lt_of_le_of_lt (hv rfl) (by decide)) dL_law_734 (by decide) dL_law_737 dL_law_738 (by decide) dL_law_741 rfl ?_
    refine g_lcmpeq (tgt := 748) K (hO h9) dL_law_742 dL_law_743 (by decide) ?_
    refine g_goto (tgt := 1412) K dL_law_748 (by decide) ?_
    refine g_loc (lo' := [(0, .ref b), (1, .ref (g_ad X 0)), (2, .ref (g_ad X 22)), (3, .ref o), (4, .int (nI (i)))]) [2, 3, 4, 5, 6] rfl ?_
    exact kk O1 S2 (g_ce X + 1) (g_sl X + 6) hI (Nat.le_refl _) (Nat.le_refl _)

set_option maxHeartbeats 4000000 in
set_option maxRecDepth 100000 in
theorem case_isPipeDry {X : gC} {b L o i : Nat} {xs : Nat → Int32} {O : Nat → Int64} {S : Nat → Nat → Nat} (K : gOk X cL_law 7 wsL_law RL) (B : gScr X b L xs) (T : gT (g_A X) (g_s X) (g_H X)) (C : gNc (g_s X)) (hl0 : (gz_l (g_z X)).stackTraces = false) (hR : g_R X = room_1) (hex : gz_ex (g_z X) = oc o (gz_L (g_z X)) O) (h : inv S S) (hU : wfU S) (hi : i + 5 ≤ L) (hce : g_ce X + 1 ≤ 1073) (hsl : g_sl X + 6 ≤ 9397)
    (kk : ∀ (O2 : Nat → Int64) (S2 : Nat → Nat → Nat) (ca sa : Nat), inv S2 S2 → ca ≤ g_ce X + 1 → sa ≤ g_sl X + 6 → gG (gY X (oc o (gz_L (g_z X)) O2) ca sa) 1412 [(0, .ref b), (1, .ref (g_ad X 0)), (2, .ref (g_ad X 22)), (3, .ref o), (4, .int (nI (i)))] [] S2) : gG X 751 [(0, .ref b), (1, .ref (g_ad X 0)), (2, .ref (g_ad X 22)), (3, .ref o), (4, .int (nI (i)))] [] S := by
  obtain ⟨k, S1, O1, rm, v, S2, hk3, hH, hf, hl, hc, hs, hv, hM, hth, hO, hI⟩ := pr_isPipeDry (g_z X) o O hex hl0 S h (xn xs (i + 1)) (xn_lt _ _)
  refine g_aload_n K 1 dL_law_751 rfl ?_
  refine g_aload_n K 0 dL_law_752 rfl ?_
  refine g_iload K 4 dL_law_753 rfl ?_
  refine g_iconst K 1 dL_law_755 (by decide +kernel) ?_
  refine g_iadd (a := i) (b := 1) K dL_law_756 ?_
  refine g_sld (i := i + 1) K B (by omega) dL_law_757 ?_
  refine g_aload_n K 3 dL_law_758 rfl ?_
  refine g_callH (As := [.ref (g_ad X 0), .int (nI (xn xs (i + 1))), .ref o]) (rest := []) K T C hH (vx_cwSW 3 K.1.2.2.2.2 gL_law_L_isPipeDry rfl rfl rfl (by decide +kernel) ⟨by rw [hR]; exact Nat.le_of_ble_eq_true rfl, by rw [hR]; exact Nat.le_of_ble_eq_true rfl⟩) rfl rfl (Nat.le_of_ble_eq_true rfl) dL_law_759 (by rw [hR]; exact Nat.le_trans hce (Nat.le_refl _)) (by rw [hR]; exact Nat.le_trans hsl (Nat.le_refl _)) ?_
  have K := gY_ok K (oc o (gz_L (g_z X)) O1) (a := g_ce X + 1) (b := g_sl X + 6) (by rw [hR]; exact Nat.le_trans hce (Nat.le_refl _)) (by rw [hR]; exact Nat.le_trans hsl (Nat.le_refl _))
  have B : gScr (gY X (oc o (gz_L (g_z X)) O1) (g_ce X + 1) (g_sl X + 6)) b L xs := B
  refine g_istore (lo' := [(5, .int (nI (k))), (0, .ref b), (1, .ref (g_ad X 0)), (2, .ref (g_ad X 22)), (3, .ref o), (4, .int (nI (i)))]) K dL_law_762 (by decide) rfl ?_
  refine g_aload_n K 3 dL_law_764 rfl ?_
  refine g_aload_n K 1 dL_law_765 rfl ?_
  refine g_iload K 5 dL_law_766 rfl ?_
  refine g_iconst K 1 dL_law_768 (by decide +kernel) ?_
  refine g_iadd (a := i) (b := 1) K dL_law_769 ?_
  refine g_sld (i := i + 1) K B (by omega) dL_law_770 ?_
  refine g_callVd (q := 22) (ci := 6) (As := [.int (nI (xn xs (i + 1)))]) (rest := []) (C := RX6) (T := TX6) (N := 17) K hM (cwV 1 K.1.2.2.2.2 gL_law_X6_isPipeDry rfl hc hs (by decide +kernel) ⟨by rw [show g_R (gY X (oc o (gz_L (g_z X)) O1) (g_ce X + 1) (g_sl X + 6)) = room_1 from hR]; show rm.frames + 1 ≤ 11; omega, by rw [show g_R (gY X (oc o (gz_L (g_z X)) O1) (g_ce X + 1) (g_sl X + 6)) = room_1 from hR]; show 8 + (2 + 11) + rm.locals ≤ 400; omega⟩) rfl rfl rfl rfl (Nat.le_of_ble_eq_true rfl) dL_law_771 ?_
  refine g_istore (lo' := [(6, .int (nI (v))), (5, .int (nI (k))), (0, .ref b), (1, .ref (g_ad X 0)), (2, .ref (g_ad X 22)), (3, .ref o), (4, .int (nI (i)))]) K dL_law_774 (by decide) rfl ?_
  refine g_aload_n K 4 dL_law_776 rfl ?_
  refine g_callVd (q := 22) (ci := 6) (As := []) (rest := []) (C := RX6) (T := TX6) (N := 17) K (cX6_thrown_k _ S2) (cwV 0 K.1.2.2.2.2 gL_law_X6_thrown rfl rfl rfl (by decide +kernel) ⟨by rw [show g_R (gY X (oc o (gz_L (g_z X)) O1) (g_ce X + 1) (g_sl X + 6)) = room_1 from hR]; exact Nat.le_of_ble_eq_true rfl, by rw [show g_R (gY X (oc o (gz_L (g_z X)) O1) (g_ce X + 1) (g_sl X + 6)) = room_1 from hR]; exact Nat.le_of_ble_eq_true rfl⟩) rfl rfl rfl rfl (Nat.le_of_ble_eq_true rfl) dL_law_777 ?_
  refine g_topE k hth ?_
  refine g_iload K 1 dL_law_780 rfl ?_
  refine g_icmpS (tgt := 787) K dL_law_782 (by decide) ?_
  refine g_iload K 1 dL_law_787 rfl ?_
  refine g_if_ne (tgt := 811) (a := k) K dL_law_789 (by decide) (by omega) (fun h9 => ?_) (fun h9 => ?_)
  · refine g_goto (tgt := 1412) K dL_law_811 (by decide) ?_
    refine g_loc (lo' := [(0, .ref b), (1, .ref (g_ad X 0)), (2, .ref (g_ad X 22)), (3, .ref o), (4, .int (nI (i)))]) [2, 3, 4, 5, 6] rfl ?_
    exact kk O1 S2 (g_ce X + 1) (g_sl X + 6) hI (Nat.le_refl _) (Nat.le_refl _)
  · refine g_aload_n K 5 dL_law_792 rfl ?_
    refine g_iconst K 0 dL_law_793 (by decide +kernel) ?_
    refine g_lald K rfl dL_law_794 ?_
    refine g_iload K 0 dL_law_795 rfl ?_
    refine g_boolL (t1 := 804) (t2 := 805) K (Nat.lt_of_le_of_lt (hv rfl) (by decide)) dL_law_797 (by decide) dL_law_800 dL_law_801 (by decide) dL_law_804 rfl ?_
    refine g_lcmpeq (tgt := 811) K (hO h9) dL_law_805 dL_law_806 (by decide) ?_
    refine g_goto (tgt := 1412) K dL_law_811 (by decide) ?_
    refine g_loc (lo' := [(0, .ref b), (1, .ref (g_ad X 0)), (2, .ref (g_ad X 22)), (3, .ref o), (4, .int (nI (i)))]) [2, 3, 4, 5, 6] rfl ?_
    exact kk O1 S2 (g_ce X + 1) (g_sl X + 6) hI (Nat.le_refl _) (Nat.le_refl _)

set_option maxHeartbeats 4000000 in
set_option maxRecDepth 100000 in
theorem case_supplied {X : gC} {b L o i : Nat} {xs : Nat → Int32} {O : Nat → Int64} {S : Nat → Nat → Nat} (K : gOk X cL_law 7 wsL_law RL) (B : gScr X b L xs) (T : gT (g_A X) (g_s X) (g_H X)) (C : gNc (g_s X)) (hl0 : (gz_l (g_z X)).stackTraces = false) (hR : g_R X = room_1) (hex : gz_ex (g_z X) = oc o (gz_L (g_z X)) O) (h : inv S S) (hU : wfU S) (hi : i + 5 ≤ L) (hce : g_ce X + 1 ≤ 1073) (hsl : g_sl X + 6 ≤ 9397)
    (kk : ∀ (O2 : Nat → Int64) (S2 : Nat → Nat → Nat) (ca sa : Nat), inv S2 S2 → ca ≤ g_ce X + 1 → sa ≤ g_sl X + 6 → gG (gY X (oc o (gz_L (g_z X)) O2) ca sa) 1412 [(0, .ref b), (1, .ref (g_ad X 0)), (2, .ref (g_ad X 22)), (3, .ref o), (4, .int (nI (i)))] [] S2) : gG X 814 [(0, .ref b), (1, .ref (g_ad X 0)), (2, .ref (g_ad X 22)), (3, .ref o), (4, .int (nI (i)))] [] S := by
  refine g_aload_n K 1 dL_law_814 rfl ?_
  refine g_callVd (q := 0) (ci := 5) (As := []) (rest := []) (C := RX5) (T := TX5) (N := 5) K (cX5_supplied_k (g_z X) S h.1) (cwV 0 K.1.2.2.2.2 gL_law_X5_supplied rfl rfl rfl (by decide +kernel) ⟨by rw [hR]; exact Nat.le_of_ble_eq_true rfl, by rw [hR]; exact Nat.le_of_ble_eq_true rfl⟩) rfl rfl rfl rfl (Nat.le_of_ble_eq_true rfl) dL_law_815 ?_
  refine g_aload_n K 2 dL_law_818 rfl ?_
  refine g_callVd (q := 22) (ci := 6) (As := []) (rest := [.int (nI (custOf S (wetBehind S 0)))]) (C := RX6) (T := TX6) (N := 17) K (cX6_supplied_k (g_z X) S h.2.1) (cwV 0 K.1.2.2.2.2 gL_law_X6_supplied rfl rfl rfl (by decide +kernel) ⟨by rw [hR]; exact Nat.le_of_ble_eq_true rfl, by rw [hR]; exact Nat.le_of_ble_eq_true rfl⟩) rfl rfl rfl rfl (Nat.le_of_ble_eq_true rfl) dL_law_819 ?_
  rw [supplied_eq h]
  refine g_icmpS (tgt := 1412) K dL_law_822 (by decide) ?_
  have q := kk O _ (g_ce X) (g_sl X) (inv_ref h 0) (by omega) (by omega)
  rw [← hex] at q
  exact q

set_option maxHeartbeats 4000000 in
set_option maxRecDepth 100000 in
theorem case_segments {X : gC} {b L o i : Nat} {xs : Nat → Int32} {O : Nat → Int64} {S : Nat → Nat → Nat} (K : gOk X cL_law 7 wsL_law RL) (B : gScr X b L xs) (T : gT (g_A X) (g_s X) (g_H X)) (C : gNc (g_s X)) (hl0 : (gz_l (g_z X)).stackTraces = false) (hR : g_R X = room_1) (hex : gz_ex (g_z X) = oc o (gz_L (g_z X)) O) (h : inv S S) (hU : wfU S) (hi : i + 5 ≤ L) (hce : g_ce X + 1 ≤ 1073) (hsl : g_sl X + 6 ≤ 9397)
    (kk : ∀ (O2 : Nat → Int64) (S2 : Nat → Nat → Nat) (ca sa : Nat), inv S2 S2 → ca ≤ g_ce X + 1 → sa ≤ g_sl X + 6 → gG (gY X (oc o (gz_L (g_z X)) O2) ca sa) 1412 [(0, .ref b), (1, .ref (g_ad X 0)), (2, .ref (g_ad X 22)), (3, .ref o), (4, .int (nI (i)))] [] S2) : gG X 827 [(0, .ref b), (1, .ref (g_ad X 0)), (2, .ref (g_ad X 22)), (3, .ref o), (4, .int (nI (i)))] [] S := by
  refine g_aload_n K 1 dL_law_827 rfl ?_
  refine g_callVd (q := 0) (ci := 5) (As := []) (rest := []) (C := RX5) (T := TX5) (N := 5) K (cX5_segments_k (g_z X) S h.1) (cwV 0 K.1.2.2.2.2 gL_law_X5_segments rfl rfl rfl (by decide +kernel) ⟨by rw [hR]; exact Nat.le_of_ble_eq_true rfl, by rw [hR]; exact Nat.le_of_ble_eq_true rfl⟩) rfl rfl rfl rfl (Nat.le_of_ble_eq_true rfl) dL_law_828 ?_
  refine g_aload_n K 2 dL_law_831 rfl ?_
  refine g_callVd (q := 22) (ci := 6) (As := []) (rest := [.int (nI (countBegun S 28))]) (C := RX6) (T := TX6) (N := 17) K (cX6_segments_k (g_z X) S h.2.1) (cwV 0 K.1.2.2.2.2 gL_law_X6_segments rfl rfl rfl (by decide +kernel) ⟨by rw [hR]; exact Nat.le_of_ble_eq_true rfl, by rw [hR]; exact Nat.le_of_ble_eq_true rfl⟩) rfl rfl rfl rfl (Nat.le_of_ble_eq_true rfl) dL_law_832 ?_
  rw [seg_all h]
  refine g_icmpS (tgt := 1412) K dL_law_835 (by decide) ?_
  have q := kk O _ (g_ce X) (g_sl X) (inv_ref h 0) (by omega) (by omega)
  rw [← hex] at q
  exact q

set_option maxHeartbeats 4000000 in
set_option maxRecDepth 100000 in
theorem case_segmentOfNode {X : gC} {b L o i : Nat} {xs : Nat → Int32} {O : Nat → Int64} {S : Nat → Nat → Nat} (K : gOk X cL_law 7 wsL_law RL) (B : gScr X b L xs) (T : gT (g_A X) (g_s X) (g_H X)) (C : gNc (g_s X)) (hl0 : (gz_l (g_z X)).stackTraces = false) (hR : g_R X = room_1) (hex : gz_ex (g_z X) = oc o (gz_L (g_z X)) O) (h : inv S S) (hU : wfU S) (hi : i + 5 ≤ L) (hce : g_ce X + 1 ≤ 1073) (hsl : g_sl X + 6 ≤ 9397)
    (kk : ∀ (O2 : Nat → Int64) (S2 : Nat → Nat → Nat) (ca sa : Nat), inv S2 S2 → ca ≤ g_ce X + 1 → sa ≤ g_sl X + 6 → gG (gY X (oc o (gz_L (g_z X)) O2) ca sa) 1412 [(0, .ref b), (1, .ref (g_ad X 0)), (2, .ref (g_ad X 22)), (3, .ref o), (4, .int (nI (i)))] [] S2) : gG X 840 [(0, .ref b), (1, .ref (g_ad X 0)), (2, .ref (g_ad X 22)), (3, .ref o), (4, .int (nI (i)))] [] S := by
  obtain ⟨k, S1, O1, rm, v, S2, hk3, hH, hf, hl, hc, hs, hv, hM, hth, hO, hI⟩ := pr_segmentOfNode (g_z X) o O hex hl0 S h (xn xs (i + 1)) (xn_lt _ _)
  refine g_aload_n K 1 dL_law_840 rfl ?_
  refine g_aload_n K 0 dL_law_841 rfl ?_
  refine g_iload K 4 dL_law_842 rfl ?_
  refine g_iconst K 1 dL_law_844 (by decide +kernel) ?_
  refine g_iadd (a := i) (b := 1) K dL_law_845 ?_
  refine g_sld (i := i + 1) K B (by omega) dL_law_846 ?_
  refine g_aload_n K 3 dL_law_847 rfl ?_
  refine g_callH (As := [.ref (g_ad X 0), .int (nI (xn xs (i + 1))), .ref o]) (rest := []) K T C hH (vx_cwSW 3 K.1.2.2.2.2 gL_law_L_segmentOfNode rfl rfl rfl (by decide +kernel) ⟨by rw [hR]; exact Nat.le_of_ble_eq_true rfl, by rw [hR]; exact Nat.le_of_ble_eq_true rfl⟩) rfl rfl (Nat.le_of_ble_eq_true rfl) dL_law_848 (by rw [hR]; exact Nat.le_trans hce (Nat.le_refl _)) (by rw [hR]; exact Nat.le_trans hsl (Nat.le_refl _)) ?_
  have K := gY_ok K (oc o (gz_L (g_z X)) O1) (a := g_ce X + 1) (b := g_sl X + 6) (by rw [hR]; exact Nat.le_trans hce (Nat.le_refl _)) (by rw [hR]; exact Nat.le_trans hsl (Nat.le_refl _))
  have B : gScr (gY X (oc o (gz_L (g_z X)) O1) (g_ce X + 1) (g_sl X + 6)) b L xs := B
  refine g_istore (lo' := [(5, .int (nI (k))), (0, .ref b), (1, .ref (g_ad X 0)), (2, .ref (g_ad X 22)), (3, .ref o), (4, .int (nI (i)))]) K dL_law_851 (by decide) rfl ?_
  refine g_aload_n K 3 dL_law_853 rfl ?_
  refine g_aload_n K 1 dL_law_854 rfl ?_
  refine g_iload K 5 dL_law_855 rfl ?_
  refine g_iconst K 1 dL_law_857 (by decide +kernel) ?_
  refine g_iadd (a := i) (b := 1) K dL_law_858 ?_
  refine g_sld (i := i + 1) K B (by omega) dL_law_859 ?_
  refine g_callVd (q := 22) (ci := 6) (As := [.int (nI (xn xs (i + 1)))]) (rest := []) (C := RX6) (T := TX6) (N := 17) K hM (cwV 1 K.1.2.2.2.2 gL_law_X6_segmentOfNode rfl hc hs (by decide +kernel) ⟨by rw [show g_R (gY X (oc o (gz_L (g_z X)) O1) (g_ce X + 1) (g_sl X + 6)) = room_1 from hR]; show rm.frames + 1 ≤ 11; omega, by rw [show g_R (gY X (oc o (gz_L (g_z X)) O1) (g_ce X + 1) (g_sl X + 6)) = room_1 from hR]; show 8 + (2 + 11) + rm.locals ≤ 400; omega⟩) rfl rfl rfl rfl (Nat.le_of_ble_eq_true rfl) dL_law_860 ?_
  refine g_istore (lo' := [(6, .int (nI (v))), (5, .int (nI (k))), (0, .ref b), (1, .ref (g_ad X 0)), (2, .ref (g_ad X 22)), (3, .ref o), (4, .int (nI (i)))]) K dL_law_863 (by decide) rfl ?_
  refine g_aload_n K 4 dL_law_865 rfl ?_
  refine g_callVd (q := 22) (ci := 6) (As := []) (rest := []) (C := RX6) (T := TX6) (N := 17) K (cX6_thrown_k _ S2) (cwV 0 K.1.2.2.2.2 gL_law_X6_thrown rfl rfl rfl (by decide +kernel) ⟨by rw [show g_R (gY X (oc o (gz_L (g_z X)) O1) (g_ce X + 1) (g_sl X + 6)) = room_1 from hR]; exact Nat.le_of_ble_eq_true rfl, by rw [show g_R (gY X (oc o (gz_L (g_z X)) O1) (g_ce X + 1) (g_sl X + 6)) = room_1 from hR]; exact Nat.le_of_ble_eq_true rfl⟩) rfl rfl rfl rfl (Nat.le_of_ble_eq_true rfl) dL_law_866 ?_
  refine g_topE k hth ?_
  refine g_iload K 1 dL_law_869 rfl ?_
  refine g_icmpS (tgt := 876) K dL_law_871 (by decide) ?_
  refine g_iload K 1 dL_law_876 rfl ?_
  refine g_if_ne (tgt := 893) (a := k) K dL_law_878 (by decide) (by omega) (fun h9 => ?_) (fun h9 => ?_)
  · refine g_goto (tgt := 1412) K dL_law_893 (by decide) ?_
    refine g_loc (lo' := [(0, .ref b), (1, .ref (g_ad X 0)), (2, .ref (g_ad X 22)), (3, .ref o), (4, .int (nI (i)))]) [2, 3, 4, 5, 6] rfl ?_
    exact kk O1 S2 (g_ce X + 1) (g_sl X + 6) hI (Nat.le_refl _) (Nat.le_refl _)
  · refine g_aload_n K 5 dL_law_881 rfl ?_
    refine g_iconst K 0 dL_law_882 (by decide +kernel) ?_
    refine g_lald K rfl dL_law_883 ?_
    refine g_iload K 0 dL_law_884 rfl ?_
    refine g_i2l K dL_law_886 ?_
    refine g_lcmpeq (tgt := 893) K (hO h9) dL_law_887 dL_law_888 (by decide) ?_
    refine g_goto (tgt := 1412) K dL_law_893 (by decide) ?_
    refine g_loc (lo' := [(0, .ref b), (1, .ref (g_ad X 0)), (2, .ref (g_ad X 22)), (3, .ref o), (4, .int (nI (i)))]) [2, 3, 4, 5, 6] rfl ?_
    exact kk O1 S2 (g_ce X + 1) (g_sl X + 6) hI (Nat.le_refl _) (Nat.le_refl _)

set_option maxHeartbeats 4000000 in
set_option maxRecDepth 100000 in
theorem case_segmentOfPipe {X : gC} {b L o i : Nat} {xs : Nat → Int32} {O : Nat → Int64} {S : Nat → Nat → Nat} (K : gOk X cL_law 7 wsL_law RL) (B : gScr X b L xs) (T : gT (g_A X) (g_s X) (g_H X)) (C : gNc (g_s X)) (hl0 : (gz_l (g_z X)).stackTraces = false) (hR : g_R X = room_1) (hex : gz_ex (g_z X) = oc o (gz_L (g_z X)) O) (h : inv S S) (hU : wfU S) (hi : i + 5 ≤ L) (hce : g_ce X + 1 ≤ 1073) (hsl : g_sl X + 6 ≤ 9397)
    (kk : ∀ (O2 : Nat → Int64) (S2 : Nat → Nat → Nat) (ca sa : Nat), inv S2 S2 → ca ≤ g_ce X + 1 → sa ≤ g_sl X + 6 → gG (gY X (oc o (gz_L (g_z X)) O2) ca sa) 1412 [(0, .ref b), (1, .ref (g_ad X 0)), (2, .ref (g_ad X 22)), (3, .ref o), (4, .int (nI (i)))] [] S2) : gG X 896 [(0, .ref b), (1, .ref (g_ad X 0)), (2, .ref (g_ad X 22)), (3, .ref o), (4, .int (nI (i)))] [] S := by
  obtain ⟨k, S1, O1, rm, v, S2, hk3, hH, hf, hl, hc, hs, hv, hM, hth, hO, hI⟩ := pr_segmentOfPipe (g_z X) o O hex hl0 S h (xn xs (i + 1)) (xn_lt _ _)
  refine g_aload_n K 1 dL_law_896 rfl ?_
  refine g_aload_n K 0 dL_law_897 rfl ?_
  refine g_iload K 4 dL_law_898 rfl ?_
  refine g_iconst K 1 dL_law_900 (by decide +kernel) ?_
  refine g_iadd (a := i) (b := 1) K dL_law_901 ?_
  refine g_sld (i := i + 1) K B (by omega) dL_law_902 ?_
  refine g_aload_n K 3 dL_law_903 rfl ?_
  refine g_callH (As := [.ref (g_ad X 0), .int (nI (xn xs (i + 1))), .ref o]) (rest := []) K T C hH (vx_cwSW 3 K.1.2.2.2.2 gL_law_L_segmentOfPipe rfl rfl rfl (by decide +kernel) ⟨by rw [hR]; exact Nat.le_of_ble_eq_true rfl, by rw [hR]; exact Nat.le_of_ble_eq_true rfl⟩) rfl rfl (Nat.le_of_ble_eq_true rfl) dL_law_904 (by rw [hR]; exact Nat.le_trans hce (Nat.le_refl _)) (by rw [hR]; exact Nat.le_trans hsl (Nat.le_refl _)) ?_
  have K := gY_ok K (oc o (gz_L (g_z X)) O1) (a := g_ce X + 1) (b := g_sl X + 6) (by rw [hR]; exact Nat.le_trans hce (Nat.le_refl _)) (by rw [hR]; exact Nat.le_trans hsl (Nat.le_refl _))
  have B : gScr (gY X (oc o (gz_L (g_z X)) O1) (g_ce X + 1) (g_sl X + 6)) b L xs := B
  refine g_istore (lo' := [(5, .int (nI (k))), (0, .ref b), (1, .ref (g_ad X 0)), (2, .ref (g_ad X 22)), (3, .ref o), (4, .int (nI (i)))]) K dL_law_907 (by decide) rfl ?_
  refine g_aload_n K 3 dL_law_909 rfl ?_
  refine g_aload_n K 1 dL_law_910 rfl ?_
  refine g_iload K 5 dL_law_911 rfl ?_
  refine g_iconst K 1 dL_law_913 (by decide +kernel) ?_
  refine g_iadd (a := i) (b := 1) K dL_law_914 ?_
  refine g_sld (i := i + 1) K B (by omega) dL_law_915 ?_
  refine g_callVd (q := 22) (ci := 6) (As := [.int (nI (xn xs (i + 1)))]) (rest := []) (C := RX6) (T := TX6) (N := 17) K hM (cwV 1 K.1.2.2.2.2 gL_law_X6_segmentOfPipe rfl hc hs (by decide +kernel) ⟨by rw [show g_R (gY X (oc o (gz_L (g_z X)) O1) (g_ce X + 1) (g_sl X + 6)) = room_1 from hR]; show rm.frames + 1 ≤ 11; omega, by rw [show g_R (gY X (oc o (gz_L (g_z X)) O1) (g_ce X + 1) (g_sl X + 6)) = room_1 from hR]; show 8 + (2 + 11) + rm.locals ≤ 400; omega⟩) rfl rfl rfl rfl (Nat.le_of_ble_eq_true rfl) dL_law_916 ?_
  refine g_istore (lo' := [(6, .int (nI (v))), (5, .int (nI (k))), (0, .ref b), (1, .ref (g_ad X 0)), (2, .ref (g_ad X 22)), (3, .ref o), (4, .int (nI (i)))]) K dL_law_919 (by decide) rfl ?_
  refine g_aload_n K 4 dL_law_921 rfl ?_
  refine g_callVd (q := 22) (ci := 6) (As := []) (rest := []) (C := RX6) (T := TX6) (N := 17) K (cX6_thrown_k _ S2) (cwV 0 K.1.2.2.2.2 gL_law_X6_thrown rfl rfl rfl (by decide +kernel) ⟨by rw [show g_R (gY X (oc o (gz_L (g_z X)) O1) (g_ce X + 1) (g_sl X + 6)) = room_1 from hR]; exact Nat.le_of_ble_eq_true rfl, by rw [show g_R (gY X (oc o (gz_L (g_z X)) O1) (g_ce X + 1) (g_sl X + 6)) = room_1 from hR]; exact Nat.le_of_ble_eq_true rfl⟩) rfl rfl rfl rfl (Nat.le_of_ble_eq_true rfl) dL_law_922 ?_
  refine g_topE k hth ?_
  refine g_iload K 1 dL_law_925 rfl ?_
  refine g_icmpS (tgt := 932) K dL_law_927 (by decide) ?_
  refine g_iload K 1 dL_law_932 rfl ?_
  refine g_if_ne (tgt := 949) (a := k) K dL_law_934 (by decide) (by omega) (fun h9 => ?_) (fun h9 => ?_)
  · refine g_goto (tgt := 1412) K dL_law_949 (by decide) ?_
    refine g_loc (lo' := [(0, .ref b), (1, .ref (g_ad X 0)), (2, .ref (g_ad X 22)), (3, .ref o), (4, .int (nI (i)))]) [2, 3, 4, 5, 6] rfl ?_
    exact kk O1 S2 (g_ce X + 1) (g_sl X + 6) hI (Nat.le_refl _) (Nat.le_refl _)
  · refine g_aload_n K 5 dL_law_937 rfl ?_
    refine g_iconst K 0 dL_law_938 (by decide +kernel) ?_
    refine g_lald K rfl dL_law_939 ?_
    refine g_iload K 0 dL_law_940 rfl ?_
    refine g_i2l K dL_law_942 ?_
    refine g_lcmpeq (tgt := 949) K (hO h9) dL_law_943 dL_law_944 (by decide) ?_
    refine g_goto (tgt := 1412) K dL_law_949 (by decide) ?_
    refine g_loc (lo' := [(0, .ref b), (1, .ref (g_ad X 0)), (2, .ref (g_ad X 22)), (3, .ref o), (4, .int (nI (i)))]) [2, 3, 4, 5, 6] rfl ?_
    exact kk O1 S2 (g_ce X + 1) (g_sl X + 6) hI (Nat.le_refl _) (Nat.le_refl _)

set_option maxHeartbeats 4000000 in
set_option maxRecDepth 100000 in
theorem case_segmentByMerging {X : gC} {b L o i : Nat} {xs : Nat → Int32} {O : Nat → Int64} {S : Nat → Nat → Nat} (K : gOk X cL_law 7 wsL_law RL) (B : gScr X b L xs) (T : gT (g_A X) (g_s X) (g_H X)) (C : gNc (g_s X)) (hl0 : (gz_l (g_z X)).stackTraces = false) (hR : g_R X = room_1) (hex : gz_ex (g_z X) = oc o (gz_L (g_z X)) O) (h : inv S S) (hU : wfU S) (hi : i + 5 ≤ L) (hce : g_ce X + 1 ≤ 1073) (hsl : g_sl X + 6 ≤ 9397)
    (kk : ∀ (O2 : Nat → Int64) (S2 : Nat → Nat → Nat) (ca sa : Nat), inv S2 S2 → ca ≤ g_ce X + 1 → sa ≤ g_sl X + 6 → gG (gY X (oc o (gz_L (g_z X)) O2) ca sa) 1412 [(0, .ref b), (1, .ref (g_ad X 0)), (2, .ref (g_ad X 22)), (3, .ref o), (4, .int (nI (i)))] [] S2) : gG X 952 [(0, .ref b), (1, .ref (g_ad X 0)), (2, .ref (g_ad X 22)), (3, .ref o), (4, .int (nI (i)))] [] S := by
  obtain ⟨k, S1, O1, rm, v, S2, hk3, hH, hf, hl, hc, hs, hv, hM, hth, hO, hI⟩ := pr_segmentByMerging (g_z X) o O hex hl0 S h (xn xs (i + 1)) (xn_lt _ _)
  refine g_aload_n K 1 dL_law_952 rfl ?_
  refine g_aload_n K 0 dL_law_953 rfl ?_
  refine g_iload K 4 dL_law_954 rfl ?_
  refine g_iconst K 1 dL_law_956 (by decide +kernel) ?_
  refine g_iadd (a := i) (b := 1) K dL_law_957 ?_
  refine g_sld (i := i + 1) K B (by omega) dL_law_958 ?_
  refine g_aload_n K 3 dL_law_959 rfl ?_
  refine g_callH (As := [.ref (g_ad X 0), .int (nI (xn xs (i + 1))), .ref o]) (rest := []) K T C hH (vx_cwSW 3 K.1.2.2.2.2 gL_law_L_segmentByMerging rfl rfl rfl (by decide +kernel) ⟨by rw [hR]; exact Nat.le_of_ble_eq_true rfl, by rw [hR]; exact Nat.le_of_ble_eq_true rfl⟩) rfl rfl (Nat.le_of_ble_eq_true rfl) dL_law_960 (by rw [hR]; exact Nat.le_trans hce (Nat.le_refl _)) (by rw [hR]; exact Nat.le_trans hsl (Nat.le_refl _)) ?_
  have K := gY_ok K (oc o (gz_L (g_z X)) O1) (a := g_ce X + 1) (b := g_sl X + 6) (by rw [hR]; exact Nat.le_trans hce (Nat.le_refl _)) (by rw [hR]; exact Nat.le_trans hsl (Nat.le_refl _))
  have B : gScr (gY X (oc o (gz_L (g_z X)) O1) (g_ce X + 1) (g_sl X + 6)) b L xs := B
  refine g_istore (lo' := [(5, .int (nI (k))), (0, .ref b), (1, .ref (g_ad X 0)), (2, .ref (g_ad X 22)), (3, .ref o), (4, .int (nI (i)))]) K dL_law_963 (by decide) rfl ?_
  refine g_aload_n K 3 dL_law_965 rfl ?_
  refine g_aload_n K 1 dL_law_966 rfl ?_
  refine g_iload K 5 dL_law_967 rfl ?_
  refine g_iconst K 1 dL_law_969 (by decide +kernel) ?_
  refine g_iadd (a := i) (b := 1) K dL_law_970 ?_
  refine g_sld (i := i + 1) K B (by omega) dL_law_971 ?_
  refine g_callVd (q := 22) (ci := 6) (As := [.int (nI (xn xs (i + 1)))]) (rest := []) (C := RX6) (T := TX6) (N := 17) K hM (cwV 1 K.1.2.2.2.2 gL_law_X6_segmentByMerging rfl hc hs (by decide +kernel) ⟨by rw [show g_R (gY X (oc o (gz_L (g_z X)) O1) (g_ce X + 1) (g_sl X + 6)) = room_1 from hR]; show rm.frames + 1 ≤ 11; omega, by rw [show g_R (gY X (oc o (gz_L (g_z X)) O1) (g_ce X + 1) (g_sl X + 6)) = room_1 from hR]; show 8 + (2 + 11) + rm.locals ≤ 400; omega⟩) rfl rfl rfl rfl (Nat.le_of_ble_eq_true rfl) dL_law_972 ?_
  refine g_istore (lo' := [(6, .int (nI (v))), (5, .int (nI (k))), (0, .ref b), (1, .ref (g_ad X 0)), (2, .ref (g_ad X 22)), (3, .ref o), (4, .int (nI (i)))]) K dL_law_975 (by decide) rfl ?_
  refine g_aload_n K 4 dL_law_977 rfl ?_
  refine g_callVd (q := 22) (ci := 6) (As := []) (rest := []) (C := RX6) (T := TX6) (N := 17) K (cX6_thrown_k _ S2) (cwV 0 K.1.2.2.2.2 gL_law_X6_thrown rfl rfl rfl (by decide +kernel) ⟨by rw [show g_R (gY X (oc o (gz_L (g_z X)) O1) (g_ce X + 1) (g_sl X + 6)) = room_1 from hR]; exact Nat.le_of_ble_eq_true rfl, by rw [show g_R (gY X (oc o (gz_L (g_z X)) O1) (g_ce X + 1) (g_sl X + 6)) = room_1 from hR]; exact Nat.le_of_ble_eq_true rfl⟩) rfl rfl rfl rfl (Nat.le_of_ble_eq_true rfl) dL_law_978 ?_
  refine g_topE k hth ?_
  refine g_iload K 1 dL_law_981 rfl ?_
  refine g_icmpS (tgt := 988) K dL_law_983 (by decide) ?_
  refine g_iload K 1 dL_law_988 rfl ?_
  refine g_if_ne (tgt := 1005) (a := k) K dL_law_990 (by decide) (by omega) (fun h9 => ?_) (fun h9 => ?_)
  · refine g_goto (tgt := 1412) K dL_law_1005 (by decide) ?_
    refine g_loc (lo' := [(0, .ref b), (1, .ref (g_ad X 0)), (2, .ref (g_ad X 22)), (3, .ref o), (4, .int (nI (i)))]) [2, 3, 4, 5, 6] rfl ?_
    exact kk O1 S2 (g_ce X + 1) (g_sl X + 6) hI (Nat.le_refl _) (Nat.le_refl _)
  · refine g_aload_n K 5 dL_law_993 rfl ?_
    refine g_iconst K 0 dL_law_994 (by decide +kernel) ?_
    refine g_lald K rfl dL_law_995 ?_
    refine g_iload K 0 dL_law_996 rfl ?_
    refine g_i2l K dL_law_998 ?_
    refine g_lcmpeq (tgt := 1005) K (hO h9) dL_law_999 dL_law_1000 (by decide) ?_
    refine g_goto (tgt := 1412) K dL_law_1005 (by decide) ?_
    refine g_loc (lo' := [(0, .ref b), (1, .ref (g_ad X 0)), (2, .ref (g_ad X 22)), (3, .ref o), (4, .int (nI (i)))]) [2, 3, 4, 5, 6] rfl ?_
    exact kk O1 S2 (g_ce X + 1) (g_sl X + 6) hI (Nat.le_refl _) (Nat.le_refl _)

set_option maxHeartbeats 4000000 in
set_option maxRecDepth 100000 in
theorem case_ring {X : gC} {b L o i : Nat} {xs : Nat → Int32} {O : Nat → Int64} {S : Nat → Nat → Nat} (K : gOk X cL_law 7 wsL_law RL) (B : gScr X b L xs) (T : gT (g_A X) (g_s X) (g_H X)) (C : gNc (g_s X)) (hl0 : (gz_l (g_z X)).stackTraces = false) (hR : g_R X = room_1) (hex : gz_ex (g_z X) = oc o (gz_L (g_z X)) O) (h : inv S S) (hU : wfU S) (hi : i + 5 ≤ L) (hce : g_ce X + 1 ≤ 1073) (hsl : g_sl X + 6 ≤ 9397)
    (kk : ∀ (O2 : Nat → Int64) (S2 : Nat → Nat → Nat) (ca sa : Nat), inv S2 S2 → ca ≤ g_ce X + 1 → sa ≤ g_sl X + 6 → gG (gY X (oc o (gz_L (g_z X)) O2) ca sa) 1412 [(0, .ref b), (1, .ref (g_ad X 0)), (2, .ref (g_ad X 22)), (3, .ref o), (4, .int (nI (i)))] [] S2) : gG X 1008 [(0, .ref b), (1, .ref (g_ad X 0)), (2, .ref (g_ad X 22)), (3, .ref o), (4, .int (nI (i)))] [] S := by
  obtain ⟨k, S1, O1, rm, v, S2, hk3, hH, hf, hl, hc, hs, hv, hM, hth, hO, hI⟩ := pr_ring (g_z X) o O hex hl0 S h (xn xs (i + 1)) (xn_lt _ _)
  refine g_aload_n K 1 dL_law_1008 rfl ?_
  refine g_aload_n K 0 dL_law_1009 rfl ?_
  refine g_iload K 4 dL_law_1010 rfl ?_
  refine g_iconst K 1 dL_law_1012 (by decide +kernel) ?_
  refine g_iadd (a := i) (b := 1) K dL_law_1013 ?_
  refine g_sld (i := i + 1) K B (by omega) dL_law_1014 ?_
  refine g_aload_n K 3 dL_law_1015 rfl ?_
  refine g_callH (As := [.ref (g_ad X 0), .int (nI (xn xs (i + 1))), .ref o]) (rest := []) K T C hH (vx_cwSW 3 K.1.2.2.2.2 gL_law_L_ring rfl rfl rfl (by decide +kernel) ⟨by rw [hR]; exact Nat.le_of_ble_eq_true rfl, by rw [hR]; exact Nat.le_of_ble_eq_true rfl⟩) rfl rfl (Nat.le_of_ble_eq_true rfl) dL_law_1016 (by rw [hR]; exact Nat.le_trans hce (Nat.le_refl _)) (by rw [hR]; exact Nat.le_trans hsl (Nat.le_refl _)) ?_
  have K := gY_ok K (oc o (gz_L (g_z X)) O1) (a := g_ce X + 1) (b := g_sl X + 6) (by rw [hR]; exact Nat.le_trans hce (Nat.le_refl _)) (by rw [hR]; exact Nat.le_trans hsl (Nat.le_refl _))
  have B : gScr (gY X (oc o (gz_L (g_z X)) O1) (g_ce X + 1) (g_sl X + 6)) b L xs := B
  refine g_istore (lo' := [(5, .int (nI (k))), (0, .ref b), (1, .ref (g_ad X 0)), (2, .ref (g_ad X 22)), (3, .ref o), (4, .int (nI (i)))]) K dL_law_1019 (by decide) rfl ?_
  refine g_aload_n K 3 dL_law_1021 rfl ?_
  refine g_aload_n K 1 dL_law_1022 rfl ?_
  refine g_iload K 5 dL_law_1023 rfl ?_
  refine g_iconst K 1 dL_law_1025 (by decide +kernel) ?_
  refine g_iadd (a := i) (b := 1) K dL_law_1026 ?_
  refine g_sld (i := i + 1) K B (by omega) dL_law_1027 ?_
  refine g_callVd (q := 22) (ci := 6) (As := [.int (nI (xn xs (i + 1)))]) (rest := []) (C := RX6) (T := TX6) (N := 17) K hM (cwV 1 K.1.2.2.2.2 gL_law_X6_ring rfl hc hs (by decide +kernel) ⟨by rw [show g_R (gY X (oc o (gz_L (g_z X)) O1) (g_ce X + 1) (g_sl X + 6)) = room_1 from hR]; show rm.frames + 1 ≤ 11; omega, by rw [show g_R (gY X (oc o (gz_L (g_z X)) O1) (g_ce X + 1) (g_sl X + 6)) = room_1 from hR]; show 8 + (2 + 11) + rm.locals ≤ 400; omega⟩) rfl rfl rfl rfl (Nat.le_of_ble_eq_true rfl) dL_law_1028 ?_
  refine g_istore (lo' := [(6, .int (nI (v))), (5, .int (nI (k))), (0, .ref b), (1, .ref (g_ad X 0)), (2, .ref (g_ad X 22)), (3, .ref o), (4, .int (nI (i)))]) K dL_law_1031 (by decide) rfl ?_
  refine g_aload_n K 4 dL_law_1033 rfl ?_
  refine g_callVd (q := 22) (ci := 6) (As := []) (rest := []) (C := RX6) (T := TX6) (N := 17) K (cX6_thrown_k _ S2) (cwV 0 K.1.2.2.2.2 gL_law_X6_thrown rfl rfl rfl (by decide +kernel) ⟨by rw [show g_R (gY X (oc o (gz_L (g_z X)) O1) (g_ce X + 1) (g_sl X + 6)) = room_1 from hR]; exact Nat.le_of_ble_eq_true rfl, by rw [show g_R (gY X (oc o (gz_L (g_z X)) O1) (g_ce X + 1) (g_sl X + 6)) = room_1 from hR]; exact Nat.le_of_ble_eq_true rfl⟩) rfl rfl rfl rfl (Nat.le_of_ble_eq_true rfl) dL_law_1034 ?_
  refine g_topE k hth ?_
  refine g_iload K 1 dL_law_1037 rfl ?_
  refine g_icmpS (tgt := 1044) K dL_law_1039 (by decide) ?_
  refine g_iload K 1 dL_law_1044 rfl ?_
  refine g_if_ne (tgt := 1061) (a := k) K dL_law_1046 (by decide) (by omega) (fun h9 => ?_) (fun h9 => ?_)
  · refine g_goto (tgt := 1412) K dL_law_1061 (by decide) ?_
    refine g_loc (lo' := [(0, .ref b), (1, .ref (g_ad X 0)), (2, .ref (g_ad X 22)), (3, .ref o), (4, .int (nI (i)))]) [2, 3, 4, 5, 6] rfl ?_
    exact kk O1 S2 (g_ce X + 1) (g_sl X + 6) hI (Nat.le_refl _) (Nat.le_refl _)
  · refine g_aload_n K 5 dL_law_1049 rfl ?_
    refine g_iconst K 0 dL_law_1050 (by decide +kernel) ?_
    refine g_lald K rfl dL_law_1051 ?_
    refine g_iload K 0 dL_law_1052 rfl ?_
    refine g_i2l K dL_law_1054 ?_
    refine g_lcmpeq (tgt := 1061) K (hO h9) dL_law_1055 dL_law_1056 (by decide) ?_
    refine g_goto (tgt := 1412) K dL_law_1061 (by decide) ?_
    refine g_loc (lo' := [(0, .ref b), (1, .ref (g_ad X 0)), (2, .ref (g_ad X 22)), (3, .ref o), (4, .int (nI (i)))]) [2, 3, 4, 5, 6] rfl ?_
    exact kk O1 S2 (g_ce X + 1) (g_sl X + 6) hI (Nat.le_refl _) (Nat.le_refl _)

set_option maxHeartbeats 4000000 in
set_option maxRecDepth 100000 in
theorem case_cutOff {X : gC} {b L o i : Nat} {xs : Nat → Int32} {O : Nat → Int64} {S : Nat → Nat → Nat} (K : gOk X cL_law 7 wsL_law RL) (B : gScr X b L xs) (T : gT (g_A X) (g_s X) (g_H X)) (C : gNc (g_s X)) (hl0 : (gz_l (g_z X)).stackTraces = false) (hR : g_R X = room_1) (hex : gz_ex (g_z X) = oc o (gz_L (g_z X)) O) (h : inv S S) (hU : wfU S) (hi : i + 5 ≤ L) (hce : g_ce X + 1 ≤ 1073) (hsl : g_sl X + 6 ≤ 9397)
    (kk : ∀ (O2 : Nat → Int64) (S2 : Nat → Nat → Nat) (ca sa : Nat), inv S2 S2 → ca ≤ g_ce X + 1 → sa ≤ g_sl X + 6 → gG (gY X (oc o (gz_L (g_z X)) O2) ca sa) 1412 [(0, .ref b), (1, .ref (g_ad X 0)), (2, .ref (g_ad X 22)), (3, .ref o), (4, .int (nI (i)))] [] S2) : gG X 1064 [(0, .ref b), (1, .ref (g_ad X 0)), (2, .ref (g_ad X 22)), (3, .ref o), (4, .int (nI (i)))] [] S := by
  obtain ⟨k, S1, O1, rm, v, S2, hk3, hH, hf, hl, hc, hs, hv, hM, hth, hO, hI⟩ := pr_cutOff (g_z X) o O hex hl0 S h (xn xs (i + 1)) (xn_lt _ _)
  refine g_aload_n K 1 dL_law_1064 rfl ?_
  refine g_aload_n K 0 dL_law_1065 rfl ?_
  refine g_iload K 4 dL_law_1066 rfl ?_
  refine g_iconst K 1 dL_law_1068 (by decide +kernel) ?_
  refine g_iadd (a := i) (b := 1) K dL_law_1069 ?_
  refine g_sld (i := i + 1) K B (by omega) dL_law_1070 ?_
  refine g_aload_n K 3 dL_law_1071 rfl ?_
  refine g_callH (As := [.ref (g_ad X 0), .int (nI (xn xs (i + 1))), .ref o]) (rest := []) K T C hH (vx_cwSW 3 K.1.2.2.2.2 gL_law_L_cutOff rfl rfl rfl (by decide +kernel) ⟨by rw [hR]; exact Nat.le_of_ble_eq_true rfl, by rw [hR]; exact Nat.le_of_ble_eq_true rfl⟩) rfl rfl (Nat.le_of_ble_eq_true rfl) dL_law_1072 (by rw [hR]; exact Nat.le_trans hce (Nat.le_refl _)) (by rw [hR]; exact Nat.le_trans hsl (Nat.le_refl _)) ?_
  have K := gY_ok K (oc o (gz_L (g_z X)) O1) (a := g_ce X + 1) (b := g_sl X + 6) (by rw [hR]; exact Nat.le_trans hce (Nat.le_refl _)) (by rw [hR]; exact Nat.le_trans hsl (Nat.le_refl _))
  have B : gScr (gY X (oc o (gz_L (g_z X)) O1) (g_ce X + 1) (g_sl X + 6)) b L xs := B
  refine g_istore (lo' := [(5, .int (nI (k))), (0, .ref b), (1, .ref (g_ad X 0)), (2, .ref (g_ad X 22)), (3, .ref o), (4, .int (nI (i)))]) K dL_law_1075 (by decide) rfl ?_
  refine g_aload_n K 3 dL_law_1077 rfl ?_
  refine g_aload_n K 1 dL_law_1078 rfl ?_
  refine g_iload K 5 dL_law_1079 rfl ?_
  refine g_iconst K 1 dL_law_1081 (by decide +kernel) ?_
  refine g_iadd (a := i) (b := 1) K dL_law_1082 ?_
  refine g_sld (i := i + 1) K B (by omega) dL_law_1083 ?_
  refine g_callVd (q := 22) (ci := 6) (As := [.int (nI (xn xs (i + 1)))]) (rest := []) (C := RX6) (T := TX6) (N := 17) K hM (cwV 1 K.1.2.2.2.2 gL_law_X6_cutOff rfl hc hs (by decide +kernel) ⟨by rw [show g_R (gY X (oc o (gz_L (g_z X)) O1) (g_ce X + 1) (g_sl X + 6)) = room_1 from hR]; show rm.frames + 1 ≤ 11; omega, by rw [show g_R (gY X (oc o (gz_L (g_z X)) O1) (g_ce X + 1) (g_sl X + 6)) = room_1 from hR]; show 8 + (2 + 11) + rm.locals ≤ 400; omega⟩) rfl rfl rfl rfl (Nat.le_of_ble_eq_true rfl) dL_law_1084 ?_
  refine g_istore (lo' := [(6, .int (nI (v))), (5, .int (nI (k))), (0, .ref b), (1, .ref (g_ad X 0)), (2, .ref (g_ad X 22)), (3, .ref o), (4, .int (nI (i)))]) K dL_law_1087 (by decide) rfl ?_
  refine g_aload_n K 4 dL_law_1089 rfl ?_
  refine g_callVd (q := 22) (ci := 6) (As := []) (rest := []) (C := RX6) (T := TX6) (N := 17) K (cX6_thrown_k _ S2) (cwV 0 K.1.2.2.2.2 gL_law_X6_thrown rfl rfl rfl (by decide +kernel) ⟨by rw [show g_R (gY X (oc o (gz_L (g_z X)) O1) (g_ce X + 1) (g_sl X + 6)) = room_1 from hR]; exact Nat.le_of_ble_eq_true rfl, by rw [show g_R (gY X (oc o (gz_L (g_z X)) O1) (g_ce X + 1) (g_sl X + 6)) = room_1 from hR]; exact Nat.le_of_ble_eq_true rfl⟩) rfl rfl rfl rfl (Nat.le_of_ble_eq_true rfl) dL_law_1090 ?_
  refine g_topE k hth ?_
  refine g_iload K 1 dL_law_1093 rfl ?_
  refine g_icmpS (tgt := 1100) K dL_law_1095 (by decide) ?_
  refine g_iload K 1 dL_law_1100 rfl ?_
  refine g_if_ne (tgt := 1117) (a := k) K dL_law_1102 (by decide) (by omega) (fun h9 => ?_) (fun h9 => ?_)
  · refine g_goto (tgt := 1412) K dL_law_1117 (by decide) ?_
    refine g_loc (lo' := [(0, .ref b), (1, .ref (g_ad X 0)), (2, .ref (g_ad X 22)), (3, .ref o), (4, .int (nI (i)))]) [2, 3, 4, 5, 6] rfl ?_
    exact kk O1 S2 (g_ce X + 1) (g_sl X + 6) hI (Nat.le_refl _) (Nat.le_refl _)
  · refine g_aload_n K 5 dL_law_1105 rfl ?_
    refine g_iconst K 0 dL_law_1106 (by decide +kernel) ?_
    refine g_lald K rfl dL_law_1107 ?_
    refine g_iload K 0 dL_law_1108 rfl ?_
    refine g_i2l K dL_law_1110 ?_
    refine g_lcmpeq (tgt := 1117) K (hO h9) dL_law_1111 dL_law_1112 (by decide) ?_
    refine g_goto (tgt := 1412) K dL_law_1117 (by decide) ?_
    refine g_loc (lo' := [(0, .ref b), (1, .ref (g_ad X 0)), (2, .ref (g_ad X 22)), (3, .ref o), (4, .int (nI (i)))]) [2, 3, 4, 5, 6] rfl ?_
    exact kk O1 S2 (g_ce X + 1) (g_sl X + 6) hI (Nat.le_refl _) (Nat.le_refl _)

set_option maxHeartbeats 4000000 in
set_option maxRecDepth 100000 in
theorem case_fewest {X : gC} {b L o i : Nat} {xs : Nat → Int32} {O : Nat → Int64} {S : Nat → Nat → Nat} (K : gOk X cL_law 7 wsL_law RL) (B : gScr X b L xs) (T : gT (g_A X) (g_s X) (g_H X)) (C : gNc (g_s X)) (hl0 : (gz_l (g_z X)).stackTraces = false) (hR : g_R X = room_1) (hex : gz_ex (g_z X) = oc o (gz_L (g_z X)) O) (h : inv S S) (hU : wfU S) (hi : i + 5 ≤ L) (hce : g_ce X + 1 ≤ 1073) (hsl : g_sl X + 6 ≤ 9397)
    (kk : ∀ (O2 : Nat → Int64) (S2 : Nat → Nat → Nat) (ca sa : Nat), inv S2 S2 → ca ≤ g_ce X + 1 → sa ≤ g_sl X + 6 → gG (gY X (oc o (gz_L (g_z X)) O2) ca sa) 1412 [(0, .ref b), (1, .ref (g_ad X 0)), (2, .ref (g_ad X 22)), (3, .ref o), (4, .int (nI (i)))] [] S2) : gG X 1120 [(0, .ref b), (1, .ref (g_ad X 0)), (2, .ref (g_ad X 22)), (3, .ref o), (4, .int (nI (i)))] [] S := by
  obtain ⟨k, S1, O1, rm, v, S2, hk3, hH, hf, hl, hc, hs, hv, hM, hth, hO, hI⟩ := pr_fewest (g_z X) o O hex hl0 S h hU (xn xs (i + 1)) (xn_lt _ _)
  refine g_aload_n K 1 dL_law_1120 rfl ?_
  refine g_aload_n K 0 dL_law_1121 rfl ?_
  refine g_iload K 4 dL_law_1122 rfl ?_
  refine g_iconst K 1 dL_law_1124 (by decide +kernel) ?_
  refine g_iadd (a := i) (b := 1) K dL_law_1125 ?_
  refine g_sld (i := i + 1) K B (by omega) dL_law_1126 ?_
  refine g_aload_n K 3 dL_law_1127 rfl ?_
  refine g_callH (As := [.ref (g_ad X 0), .int (nI (xn xs (i + 1))), .ref o]) (rest := []) K T C hH (vx_cwSW 3 K.1.2.2.2.2 gL_law_L_fewest rfl rfl rfl (by decide +kernel) ⟨by rw [hR]; exact Nat.le_of_ble_eq_true rfl, by rw [hR]; exact Nat.le_of_ble_eq_true rfl⟩) rfl rfl (Nat.le_of_ble_eq_true rfl) dL_law_1128 (by rw [hR]; exact Nat.le_trans hce (Nat.le_refl _)) (by rw [hR]; exact Nat.le_trans hsl (Nat.le_refl _)) ?_
  have K := gY_ok K (oc o (gz_L (g_z X)) O1) (a := g_ce X + 1) (b := g_sl X + 6) (by rw [hR]; exact Nat.le_trans hce (Nat.le_refl _)) (by rw [hR]; exact Nat.le_trans hsl (Nat.le_refl _))
  have B : gScr (gY X (oc o (gz_L (g_z X)) O1) (g_ce X + 1) (g_sl X + 6)) b L xs := B
  refine g_istore (lo' := [(5, .int (nI (k))), (0, .ref b), (1, .ref (g_ad X 0)), (2, .ref (g_ad X 22)), (3, .ref o), (4, .int (nI (i)))]) K dL_law_1131 (by decide) rfl ?_
  refine g_aload_n K 3 dL_law_1133 rfl ?_
  refine g_aload_n K 1 dL_law_1134 rfl ?_
  refine g_iload K 5 dL_law_1135 rfl ?_
  refine g_iconst K 1 dL_law_1137 (by decide +kernel) ?_
  refine g_iadd (a := i) (b := 1) K dL_law_1138 ?_
  refine g_sld (i := i + 1) K B (by omega) dL_law_1139 ?_
  refine g_callVd (q := 22) (ci := 6) (As := [.int (nI (xn xs (i + 1)))]) (rest := []) (C := RX6) (T := TX6) (N := 17) K hM (cwV 1 K.1.2.2.2.2 gL_law_X6_fewest rfl hc hs (by decide +kernel) ⟨by rw [show g_R (gY X (oc o (gz_L (g_z X)) O1) (g_ce X + 1) (g_sl X + 6)) = room_1 from hR]; show rm.frames + 1 ≤ 11; omega, by rw [show g_R (gY X (oc o (gz_L (g_z X)) O1) (g_ce X + 1) (g_sl X + 6)) = room_1 from hR]; show 8 + (3 + 11) + rm.locals ≤ 400; omega⟩) rfl rfl rfl rfl (Nat.le_of_ble_eq_true rfl) dL_law_1140 ?_
  refine g_istore (lo' := [(6, .int (nI (v))), (5, .int (nI (k))), (0, .ref b), (1, .ref (g_ad X 0)), (2, .ref (g_ad X 22)), (3, .ref o), (4, .int (nI (i)))]) K dL_law_1143 (by decide) rfl ?_
  refine g_aload_n K 4 dL_law_1145 rfl ?_
  refine g_callVd (q := 22) (ci := 6) (As := []) (rest := []) (C := RX6) (T := TX6) (N := 17) K (cX6_thrown_k _ S2) (cwV 0 K.1.2.2.2.2 gL_law_X6_thrown rfl rfl rfl (by decide +kernel) ⟨by rw [show g_R (gY X (oc o (gz_L (g_z X)) O1) (g_ce X + 1) (g_sl X + 6)) = room_1 from hR]; exact Nat.le_of_ble_eq_true rfl, by rw [show g_R (gY X (oc o (gz_L (g_z X)) O1) (g_ce X + 1) (g_sl X + 6)) = room_1 from hR]; exact Nat.le_of_ble_eq_true rfl⟩) rfl rfl rfl rfl (Nat.le_of_ble_eq_true rfl) dL_law_1146 ?_
  refine g_topE k hth ?_
  refine g_iload K 1 dL_law_1149 rfl ?_
  refine g_icmpS (tgt := 1156) K dL_law_1151 (by decide) ?_
  refine g_iload K 1 dL_law_1156 rfl ?_
  refine g_if_ne (tgt := 1173) (a := k) K dL_law_1158 (by decide) (by omega) (fun h9 => ?_) (fun h9 => ?_)
  · refine g_goto (tgt := 1412) K dL_law_1173 (by decide) ?_
    refine g_loc (lo' := [(0, .ref b), (1, .ref (g_ad X 0)), (2, .ref (g_ad X 22)), (3, .ref o), (4, .int (nI (i)))]) [2, 3, 4, 5, 6] rfl ?_
    exact kk O1 S2 (g_ce X + 1) (g_sl X + 6) hI (Nat.le_refl _) (Nat.le_refl _)
  · refine g_aload_n K 5 dL_law_1161 rfl ?_
    refine g_iconst K 0 dL_law_1162 (by decide +kernel) ?_
    refine g_lald K rfl dL_law_1163 ?_
    refine g_iload K 0 dL_law_1164 rfl ?_
    refine g_i2l K dL_law_1166 ?_
    refine g_lcmpeq (tgt := 1173) K (hO h9) dL_law_1167 dL_law_1168 (by decide) ?_
    refine g_goto (tgt := 1412) K dL_law_1173 (by decide) ?_
    refine g_loc (lo' := [(0, .ref b), (1, .ref (g_ad X 0)), (2, .ref (g_ad X 22)), (3, .ref o), (4, .int (nI (i)))]) [2, 3, 4, 5, 6] rfl ?_
    exact kk O1 S2 (g_ce X + 1) (g_sl X + 6) hI (Nat.le_refl _) (Nat.le_refl _)

set_option maxHeartbeats 4000000 in
set_option maxRecDepth 100000 in
theorem case_fewestByTrying {X : gC} {b L o i : Nat} {xs : Nat → Int32} {O : Nat → Int64} {S : Nat → Nat → Nat} (K : gOk X cL_law 7 wsL_law RL) (B : gScr X b L xs) (T : gT (g_A X) (g_s X) (g_H X)) (C : gNc (g_s X)) (hl0 : (gz_l (g_z X)).stackTraces = false) (hR : g_R X = room_1) (hex : gz_ex (g_z X) = oc o (gz_L (g_z X)) O) (h : inv S S) (hU : wfU S) (hi : i + 5 ≤ L) (hce : g_ce X + 1 ≤ 1073) (hsl : g_sl X + 6 ≤ 9397)
    (kk : ∀ (O2 : Nat → Int64) (S2 : Nat → Nat → Nat) (ca sa : Nat), inv S2 S2 → ca ≤ g_ce X + 1 → sa ≤ g_sl X + 6 → gG (gY X (oc o (gz_L (g_z X)) O2) ca sa) 1412 [(0, .ref b), (1, .ref (g_ad X 0)), (2, .ref (g_ad X 22)), (3, .ref o), (4, .int (nI (i)))] [] S2) : gG X 1176 [(0, .ref b), (1, .ref (g_ad X 0)), (2, .ref (g_ad X 22)), (3, .ref o), (4, .int (nI (i)))] [] S := by
  obtain ⟨k, S1, O1, rm, v, S2, hk3, hH, hf, hl, hc, hs, hv, hM, hth, hO, hI⟩ := pr_fewestByTrying (g_z X) o O hex hl0 S h (xn xs (i + 1)) (xn_lt _ _)
  refine g_aload_n K 1 dL_law_1176 rfl ?_
  refine g_aload_n K 0 dL_law_1177 rfl ?_
  refine g_iload K 4 dL_law_1178 rfl ?_
  refine g_iconst K 1 dL_law_1180 (by decide +kernel) ?_
  refine g_iadd (a := i) (b := 1) K dL_law_1181 ?_
  refine g_sld (i := i + 1) K B (by omega) dL_law_1182 ?_
  refine g_aload_n K 3 dL_law_1183 rfl ?_
  refine g_callH (As := [.ref (g_ad X 0), .int (nI (xn xs (i + 1))), .ref o]) (rest := []) K T C hH (vx_cwSW 3 K.1.2.2.2.2 gL_law_L_fewestByTrying rfl rfl rfl (by decide +kernel) ⟨by rw [hR]; exact Nat.le_of_ble_eq_true rfl, by rw [hR]; exact Nat.le_of_ble_eq_true rfl⟩) rfl rfl (Nat.le_of_ble_eq_true rfl) dL_law_1184 (by rw [hR]; exact Nat.le_trans hce (Nat.le_refl _)) (by rw [hR]; exact Nat.le_trans hsl (Nat.le_refl _)) ?_
  have K := gY_ok K (oc o (gz_L (g_z X)) O1) (a := g_ce X + 1) (b := g_sl X + 6) (by rw [hR]; exact Nat.le_trans hce (Nat.le_refl _)) (by rw [hR]; exact Nat.le_trans hsl (Nat.le_refl _))
  have B : gScr (gY X (oc o (gz_L (g_z X)) O1) (g_ce X + 1) (g_sl X + 6)) b L xs := B
  refine g_istore (lo' := [(5, .int (nI (k))), (0, .ref b), (1, .ref (g_ad X 0)), (2, .ref (g_ad X 22)), (3, .ref o), (4, .int (nI (i)))]) K dL_law_1187 (by decide) rfl ?_
  refine g_aload_n K 3 dL_law_1189 rfl ?_
  refine g_aload_n K 1 dL_law_1190 rfl ?_
  refine g_iload K 5 dL_law_1191 rfl ?_
  refine g_iconst K 1 dL_law_1193 (by decide +kernel) ?_
  refine g_iadd (a := i) (b := 1) K dL_law_1194 ?_
  refine g_sld (i := i + 1) K B (by omega) dL_law_1195 ?_
  refine g_callVd (q := 22) (ci := 6) (As := [.int (nI (xn xs (i + 1)))]) (rest := []) (C := RX6) (T := TX6) (N := 17) K hM (cwV 1 K.1.2.2.2.2 gL_law_X6_fewestByTrying rfl hc hs (by decide +kernel) ⟨by rw [show g_R (gY X (oc o (gz_L (g_z X)) O1) (g_ce X + 1) (g_sl X + 6)) = room_1 from hR]; show rm.frames + 1 ≤ 11; omega, by rw [show g_R (gY X (oc o (gz_L (g_z X)) O1) (g_ce X + 1) (g_sl X + 6)) = room_1 from hR]; show 8 + (2 + 11) + rm.locals ≤ 400; omega⟩) rfl rfl rfl rfl (Nat.le_of_ble_eq_true rfl) dL_law_1196 ?_
  refine g_istore (lo' := [(6, .int (nI (v))), (5, .int (nI (k))), (0, .ref b), (1, .ref (g_ad X 0)), (2, .ref (g_ad X 22)), (3, .ref o), (4, .int (nI (i)))]) K dL_law_1199 (by decide) rfl ?_
  refine g_aload_n K 4 dL_law_1201 rfl ?_
  refine g_callVd (q := 22) (ci := 6) (As := []) (rest := []) (C := RX6) (T := TX6) (N := 17) K (cX6_thrown_k _ S2) (cwV 0 K.1.2.2.2.2 gL_law_X6_thrown rfl rfl rfl (by decide +kernel) ⟨by rw [show g_R (gY X (oc o (gz_L (g_z X)) O1) (g_ce X + 1) (g_sl X + 6)) = room_1 from hR]; exact Nat.le_of_ble_eq_true rfl, by rw [show g_R (gY X (oc o (gz_L (g_z X)) O1) (g_ce X + 1) (g_sl X + 6)) = room_1 from hR]; exact Nat.le_of_ble_eq_true rfl⟩) rfl rfl rfl rfl (Nat.le_of_ble_eq_true rfl) dL_law_1202 ?_
  refine g_topE k hth ?_
  refine g_iload K 1 dL_law_1205 rfl ?_
  refine g_icmpS (tgt := 1212) K dL_law_1207 (by decide) ?_
  refine g_iload K 1 dL_law_1212 rfl ?_
  refine g_if_ne (tgt := 1229) (a := k) K dL_law_1214 (by decide) (by omega) (fun h9 => ?_) (fun h9 => ?_)
  · refine g_goto (tgt := 1412) K dL_law_1229 (by decide) ?_
    refine g_loc (lo' := [(0, .ref b), (1, .ref (g_ad X 0)), (2, .ref (g_ad X 22)), (3, .ref o), (4, .int (nI (i)))]) [2, 3, 4, 5, 6] rfl ?_
    exact kk O1 S2 (g_ce X + 1) (g_sl X + 6) hI (Nat.le_refl _) (Nat.le_refl _)
  · refine g_aload_n K 5 dL_law_1217 rfl ?_
    refine g_iconst K 0 dL_law_1218 (by decide +kernel) ?_
    refine g_lald K rfl dL_law_1219 ?_
    refine g_iload K 0 dL_law_1220 rfl ?_
    refine g_i2l K dL_law_1222 ?_
    refine g_lcmpeq (tgt := 1229) K (hO h9) dL_law_1223 dL_law_1224 (by decide) ?_
    refine g_goto (tgt := 1412) K dL_law_1229 (by decide) ?_
    refine g_loc (lo' := [(0, .ref b), (1, .ref (g_ad X 0)), (2, .ref (g_ad X 22)), (3, .ref o), (4, .int (nI (i)))]) [2, 3, 4, 5, 6] rfl ?_
    exact kk O1 S2 (g_ce X + 1) (g_sl X + 6) hI (Nat.le_refl _) (Nat.le_refl _)

set_option maxHeartbeats 4000000 in
set_option maxRecDepth 100000 in
theorem case_distance {X : gC} {b L o i : Nat} {xs : Nat → Int32} {O : Nat → Int64} {S : Nat → Nat → Nat} (K : gOk X cL_law 7 wsL_law RL) (B : gScr X b L xs) (T : gT (g_A X) (g_s X) (g_H X)) (C : gNc (g_s X)) (hl0 : (gz_l (g_z X)).stackTraces = false) (hR : g_R X = room_1) (hex : gz_ex (g_z X) = oc o (gz_L (g_z X)) O) (h : inv S S) (hU : wfU S) (hi : i + 5 ≤ L) (hce : g_ce X + 1 ≤ 1073) (hsl : g_sl X + 6 ≤ 9397)
    (kk : ∀ (O2 : Nat → Int64) (S2 : Nat → Nat → Nat) (ca sa : Nat), inv S2 S2 → ca ≤ g_ce X + 1 → sa ≤ g_sl X + 6 → gG (gY X (oc o (gz_L (g_z X)) O2) ca sa) 1412 [(0, .ref b), (1, .ref (g_ad X 0)), (2, .ref (g_ad X 22)), (3, .ref o), (4, .int (nI (i)))] [] S2) : gG X 1232 [(0, .ref b), (1, .ref (g_ad X 0)), (2, .ref (g_ad X 22)), (3, .ref o), (4, .int (nI (i)))] [] S := by
  obtain ⟨k, S1, O1, rm, v, S2, hk3, hH, hf, hl, hc, hs, hv, hM, hth, hO, hI⟩ := pr_distance (g_z X) o O hex hl0 S h (xn xs (i + 1)) (xn_lt _ _)
  refine g_aload_n K 1 dL_law_1232 rfl ?_
  refine g_aload_n K 0 dL_law_1233 rfl ?_
  refine g_iload K 4 dL_law_1234 rfl ?_
  refine g_iconst K 1 dL_law_1236 (by decide +kernel) ?_
  refine g_iadd (a := i) (b := 1) K dL_law_1237 ?_
  refine g_sld (i := i + 1) K B (by omega) dL_law_1238 ?_
  refine g_aload_n K 3 dL_law_1239 rfl ?_
  refine g_callH (As := [.ref (g_ad X 0), .int (nI (xn xs (i + 1))), .ref o]) (rest := []) K T C hH (vx_cwSW 3 K.1.2.2.2.2 gL_law_L_distance rfl rfl rfl (by decide +kernel) ⟨by rw [hR]; exact Nat.le_of_ble_eq_true rfl, by rw [hR]; exact Nat.le_of_ble_eq_true rfl⟩) rfl rfl (Nat.le_of_ble_eq_true rfl) dL_law_1240 (by rw [hR]; exact Nat.le_trans hce (Nat.le_refl _)) (by rw [hR]; exact Nat.le_trans hsl (Nat.le_refl _)) ?_
  have K := gY_ok K (oc o (gz_L (g_z X)) O1) (a := g_ce X + 1) (b := g_sl X + 6) (by rw [hR]; exact Nat.le_trans hce (Nat.le_refl _)) (by rw [hR]; exact Nat.le_trans hsl (Nat.le_refl _))
  have B : gScr (gY X (oc o (gz_L (g_z X)) O1) (g_ce X + 1) (g_sl X + 6)) b L xs := B
  refine g_istore (lo' := [(5, .int (nI (k))), (0, .ref b), (1, .ref (g_ad X 0)), (2, .ref (g_ad X 22)), (3, .ref o), (4, .int (nI (i)))]) K dL_law_1243 (by decide) rfl ?_
  refine g_aload_n K 3 dL_law_1245 rfl ?_
  refine g_aload_n K 1 dL_law_1246 rfl ?_
  refine g_iload K 5 dL_law_1247 rfl ?_
  refine g_iconst K 1 dL_law_1249 (by decide +kernel) ?_
  refine g_iadd (a := i) (b := 1) K dL_law_1250 ?_
  refine g_sld (i := i + 1) K B (by omega) dL_law_1251 ?_
  refine g_callVd (q := 22) (ci := 6) (As := [.int (nI (xn xs (i + 1)))]) (rest := []) (C := RX6) (T := TX6) (N := 17) K hM (cwV 1 K.1.2.2.2.2 gL_law_X6_distance rfl hc hs (by decide +kernel) ⟨by rw [show g_R (gY X (oc o (gz_L (g_z X)) O1) (g_ce X + 1) (g_sl X + 6)) = room_1 from hR]; show rm.frames + 1 ≤ 11; omega, by rw [show g_R (gY X (oc o (gz_L (g_z X)) O1) (g_ce X + 1) (g_sl X + 6)) = room_1 from hR]; show 8 + (2 + 11) + rm.locals ≤ 400; omega⟩) rfl rfl rfl rfl (Nat.le_of_ble_eq_true rfl) dL_law_1252 ?_
  refine g_istore (lo' := [(6, .int (nI (v))), (5, .int (nI (k))), (0, .ref b), (1, .ref (g_ad X 0)), (2, .ref (g_ad X 22)), (3, .ref o), (4, .int (nI (i)))]) K dL_law_1255 (by decide) rfl ?_
  refine g_aload_n K 4 dL_law_1257 rfl ?_
  refine g_callVd (q := 22) (ci := 6) (As := []) (rest := []) (C := RX6) (T := TX6) (N := 17) K (cX6_thrown_k _ S2) (cwV 0 K.1.2.2.2.2 gL_law_X6_thrown rfl rfl rfl (by decide +kernel) ⟨by rw [show g_R (gY X (oc o (gz_L (g_z X)) O1) (g_ce X + 1) (g_sl X + 6)) = room_1 from hR]; exact Nat.le_of_ble_eq_true rfl, by rw [show g_R (gY X (oc o (gz_L (g_z X)) O1) (g_ce X + 1) (g_sl X + 6)) = room_1 from hR]; exact Nat.le_of_ble_eq_true rfl⟩) rfl rfl rfl rfl (Nat.le_of_ble_eq_true rfl) dL_law_1258 ?_
  refine g_topE k hth ?_
  refine g_iload K 1 dL_law_1261 rfl ?_
  refine g_icmpS (tgt := 1268) K dL_law_1263 (by decide) ?_
  refine g_iload K 1 dL_law_1268 rfl ?_
  refine g_if_ne (tgt := 1285) (a := k) K dL_law_1270 (by decide) (by omega) (fun h9 => ?_) (fun h9 => ?_)
  · refine g_goto (tgt := 1412) K dL_law_1285 (by decide) ?_
    refine g_loc (lo' := [(0, .ref b), (1, .ref (g_ad X 0)), (2, .ref (g_ad X 22)), (3, .ref o), (4, .int (nI (i)))]) [2, 3, 4, 5, 6] rfl ?_
    exact kk O1 S2 (g_ce X + 1) (g_sl X + 6) hI (Nat.le_refl _) (Nat.le_refl _)
  · refine g_aload_n K 5 dL_law_1273 rfl ?_
    refine g_iconst K 0 dL_law_1274 (by decide +kernel) ?_
    refine g_lald K rfl dL_law_1275 ?_
    refine g_iload K 0 dL_law_1276 rfl ?_
    refine g_i2l K dL_law_1278 ?_
    refine g_lcmpeq (tgt := 1285) K (hO h9) dL_law_1279 dL_law_1280 (by decide) ?_
    refine g_goto (tgt := 1412) K dL_law_1285 (by decide) ?_
    refine g_loc (lo' := [(0, .ref b), (1, .ref (g_ad X 0)), (2, .ref (g_ad X 22)), (3, .ref o), (4, .int (nI (i)))]) [2, 3, 4, 5, 6] rfl ?_
    exact kk O1 S2 (g_ce X + 1) (g_sl X + 6) hI (Nat.le_refl _) (Nat.le_refl _)

set_option maxHeartbeats 4000000 in
set_option maxRecDepth 100000 in
theorem case_flushAt {X : gC} {b L o i : Nat} {xs : Nat → Int32} {O : Nat → Int64} {S : Nat → Nat → Nat} (K : gOk X cL_law 7 wsL_law RL) (B : gScr X b L xs) (T : gT (g_A X) (g_s X) (g_H X)) (C : gNc (g_s X)) (hl0 : (gz_l (g_z X)).stackTraces = false) (hR : g_R X = room_1) (hex : gz_ex (g_z X) = oc o (gz_L (g_z X)) O) (h : inv S S) (hU : wfU S) (hi : i + 5 ≤ L) (hce : g_ce X + 1 ≤ 1073) (hsl : g_sl X + 6 ≤ 9397)
    (kk : ∀ (O2 : Nat → Int64) (S2 : Nat → Nat → Nat) (ca sa : Nat), inv S2 S2 → ca ≤ g_ce X + 1 → sa ≤ g_sl X + 6 → gG (gY X (oc o (gz_L (g_z X)) O2) ca sa) 1412 [(0, .ref b), (1, .ref (g_ad X 0)), (2, .ref (g_ad X 22)), (3, .ref o), (4, .int (nI (i)))] [] S2) : gG X 1288 [(0, .ref b), (1, .ref (g_ad X 0)), (2, .ref (g_ad X 22)), (3, .ref o), (4, .int (nI (i)))] [] S := by
  obtain ⟨k, S1, O1, rm, v, S2, hk3, hH, hf, hl, hc, hs, hv, hM, hth, hO, hI⟩ := pr_flushAt (g_z X) o O hex hl0 S h (xn xs (i + 1)) (xn_lt _ _)
  refine g_aload_n K 1 dL_law_1288 rfl ?_
  refine g_aload_n K 0 dL_law_1289 rfl ?_
  refine g_iload K 4 dL_law_1290 rfl ?_
  refine g_iconst K 1 dL_law_1292 (by decide +kernel) ?_
  refine g_iadd (a := i) (b := 1) K dL_law_1293 ?_
  refine g_sld (i := i + 1) K B (by omega) dL_law_1294 ?_
  refine g_aload_n K 3 dL_law_1295 rfl ?_
  refine g_callH (As := [.ref (g_ad X 0), .int (nI (xn xs (i + 1))), .ref o]) (rest := []) K T C hH (vx_cwSW 3 K.1.2.2.2.2 gL_law_L_flushAt rfl rfl rfl (by decide +kernel) ⟨by rw [hR]; exact Nat.le_of_ble_eq_true rfl, by rw [hR]; exact Nat.le_of_ble_eq_true rfl⟩) rfl rfl (Nat.le_of_ble_eq_true rfl) dL_law_1296 (by rw [hR]; exact Nat.le_trans hce (Nat.le_refl _)) (by rw [hR]; exact Nat.le_trans hsl (Nat.le_refl _)) ?_
  have K := gY_ok K (oc o (gz_L (g_z X)) O1) (a := g_ce X + 1) (b := g_sl X + 6) (by rw [hR]; exact Nat.le_trans hce (Nat.le_refl _)) (by rw [hR]; exact Nat.le_trans hsl (Nat.le_refl _))
  have B : gScr (gY X (oc o (gz_L (g_z X)) O1) (g_ce X + 1) (g_sl X + 6)) b L xs := B
  refine g_istore (lo' := [(5, .int (nI (k))), (0, .ref b), (1, .ref (g_ad X 0)), (2, .ref (g_ad X 22)), (3, .ref o), (4, .int (nI (i)))]) K dL_law_1299 (by decide) rfl ?_
  refine g_aload_n K 3 dL_law_1301 rfl ?_
  refine g_aload_n K 1 dL_law_1302 rfl ?_
  refine g_iload K 5 dL_law_1303 rfl ?_
  refine g_iconst K 1 dL_law_1305 (by decide +kernel) ?_
  refine g_iadd (a := i) (b := 1) K dL_law_1306 ?_
  refine g_sld (i := i + 1) K B (by omega) dL_law_1307 ?_
  refine g_callVd (q := 22) (ci := 6) (As := [.int (nI (xn xs (i + 1)))]) (rest := []) (C := RX6) (T := TX6) (N := 17) K hM (cwV 1 K.1.2.2.2.2 gL_law_X6_flushAt rfl hc hs (by decide +kernel) ⟨by rw [show g_R (gY X (oc o (gz_L (g_z X)) O1) (g_ce X + 1) (g_sl X + 6)) = room_1 from hR]; show rm.frames + 1 ≤ 11; omega, by rw [show g_R (gY X (oc o (gz_L (g_z X)) O1) (g_ce X + 1) (g_sl X + 6)) = room_1 from hR]; show 8 + (2 + 11) + rm.locals ≤ 400; omega⟩) rfl rfl rfl rfl (Nat.le_of_ble_eq_true rfl) dL_law_1308 ?_
  refine g_istore (lo' := [(6, .int (nI (v))), (5, .int (nI (k))), (0, .ref b), (1, .ref (g_ad X 0)), (2, .ref (g_ad X 22)), (3, .ref o), (4, .int (nI (i)))]) K dL_law_1311 (by decide) rfl ?_
  refine g_aload_n K 4 dL_law_1313 rfl ?_
  refine g_callVd (q := 22) (ci := 6) (As := []) (rest := []) (C := RX6) (T := TX6) (N := 17) K (cX6_thrown_k _ S2) (cwV 0 K.1.2.2.2.2 gL_law_X6_thrown rfl rfl rfl (by decide +kernel) ⟨by rw [show g_R (gY X (oc o (gz_L (g_z X)) O1) (g_ce X + 1) (g_sl X + 6)) = room_1 from hR]; exact Nat.le_of_ble_eq_true rfl, by rw [show g_R (gY X (oc o (gz_L (g_z X)) O1) (g_ce X + 1) (g_sl X + 6)) = room_1 from hR]; exact Nat.le_of_ble_eq_true rfl⟩) rfl rfl rfl rfl (Nat.le_of_ble_eq_true rfl) dL_law_1314 ?_
  refine g_topE k hth ?_
  refine g_iload K 1 dL_law_1317 rfl ?_
  refine g_icmpS (tgt := 1324) K dL_law_1319 (by decide) ?_
  refine g_iload K 1 dL_law_1324 rfl ?_
  refine g_if_ne (tgt := 1341) (a := k) K dL_law_1326 (by decide) (by omega) (fun h9 => ?_) (fun h9 => ?_)
  · refine g_goto (tgt := 1412) K dL_law_1341 (by decide) ?_
    refine g_loc (lo' := [(0, .ref b), (1, .ref (g_ad X 0)), (2, .ref (g_ad X 22)), (3, .ref o), (4, .int (nI (i)))]) [2, 3, 4, 5, 6] rfl ?_
    exact kk O1 S2 (g_ce X + 1) (g_sl X + 6) hI (Nat.le_refl _) (Nat.le_refl _)
  · refine g_aload_n K 5 dL_law_1329 rfl ?_
    refine g_iconst K 0 dL_law_1330 (by decide +kernel) ?_
    refine g_lald K rfl dL_law_1331 ?_
    refine g_iload K 0 dL_law_1332 rfl ?_
    refine g_i2l K dL_law_1334 ?_
    refine g_lcmpeq (tgt := 1341) K (hO h9) dL_law_1335 dL_law_1336 (by decide) ?_
    refine g_goto (tgt := 1412) K dL_law_1341 (by decide) ?_
    refine g_loc (lo' := [(0, .ref b), (1, .ref (g_ad X 0)), (2, .ref (g_ad X 22)), (3, .ref o), (4, .int (nI (i)))]) [2, 3, 4, 5, 6] rfl ?_
    exact kk O1 S2 (g_ce X + 1) (g_sl X + 6) hI (Nat.le_refl _) (Nat.le_refl _)

set_option maxHeartbeats 4000000 in
set_option maxRecDepth 100000 in
theorem case_walk {X : gC} {b L o i : Nat} {xs : Nat → Int32} {O : Nat → Int64} {S : Nat → Nat → Nat} (K : gOk X cL_law 7 wsL_law RL) (B : gScr X b L xs) (T : gT (g_A X) (g_s X) (g_H X)) (C : gNc (g_s X)) (hl0 : (gz_l (g_z X)).stackTraces = false) (hR : g_R X = room_1) (hex : gz_ex (g_z X) = oc o (gz_L (g_z X)) O) (h : inv S S) (hU : wfU S) (hi : i + 5 ≤ L) (hce : g_ce X + 1 ≤ 1073) (hsl : g_sl X + 6 ≤ 9397)
    (kk : ∀ (O2 : Nat → Int64) (S2 : Nat → Nat → Nat) (ca sa : Nat), inv S2 S2 → ca ≤ g_ce X + 1 → sa ≤ g_sl X + 6 → gG (gY X (oc o (gz_L (g_z X)) O2) ca sa) 1412 [(0, .ref b), (1, .ref (g_ad X 0)), (2, .ref (g_ad X 22)), (3, .ref o), (4, .int (nI (i)))] [] S2) : gG X 1344 [(0, .ref b), (1, .ref (g_ad X 0)), (2, .ref (g_ad X 22)), (3, .ref o), (4, .int (nI (i)))] [] S := by
  obtain ⟨k, S1, O1, rm, v, S2, hk3, hH, hf, hl, hc, hs, hv, hM, hth, hO, hI⟩ := pr_walk (g_z X) o O hex hl0 S h (xn xs (i + 1)) (xn xs (i + 2)) (xn_lt _ _) (xn_lt _ _)
  refine g_aload_n K 1 dL_law_1344 rfl ?_
  refine g_aload_n K 0 dL_law_1345 rfl ?_
  refine g_iload K 4 dL_law_1346 rfl ?_
  refine g_iconst K 1 dL_law_1348 (by decide +kernel) ?_
  refine g_iadd (a := i) (b := 1) K dL_law_1349 ?_
  refine g_sld (i := i + 1) K B (by omega) dL_law_1350 ?_
  refine g_aload_n K 0 dL_law_1351 rfl ?_
  refine g_iload K 4 dL_law_1352 rfl ?_
  refine g_iconst K 2 dL_law_1354 (by decide +kernel) ?_
  refine g_iadd (a := i) (b := 2) K dL_law_1355 ?_
  refine g_sld (i := i + 2) K B (by omega) dL_law_1356 ?_
  refine g_aload_n K 3 dL_law_1357 rfl ?_
  refine g_callH (As := [.ref (g_ad X 0), .int (nI (xn xs (i + 1))), .int (nI (xn xs (i + 2))), .ref o]) (rest := []) K T C hH (vx_cwSW 4 K.1.2.2.2.2 gL_law_L_walk rfl rfl rfl (by decide +kernel) ⟨by rw [hR]; exact Nat.le_of_ble_eq_true rfl, by rw [hR]; exact Nat.le_of_ble_eq_true rfl⟩) rfl rfl (Nat.le_of_ble_eq_true rfl) dL_law_1358 (by rw [hR]; exact Nat.le_trans hce (Nat.le_refl _)) (by rw [hR]; exact Nat.le_trans hsl (Nat.le_refl _)) ?_
  have K := gY_ok K (oc o (gz_L (g_z X)) O1) (a := g_ce X + 1) (b := g_sl X + 6) (by rw [hR]; exact Nat.le_trans hce (Nat.le_refl _)) (by rw [hR]; exact Nat.le_trans hsl (Nat.le_refl _))
  have B : gScr (gY X (oc o (gz_L (g_z X)) O1) (g_ce X + 1) (g_sl X + 6)) b L xs := B
  refine g_istore (lo' := [(5, .int (nI (k))), (0, .ref b), (1, .ref (g_ad X 0)), (2, .ref (g_ad X 22)), (3, .ref o), (4, .int (nI (i)))]) K dL_law_1361 (by decide) rfl ?_
  refine g_aload_n K 3 dL_law_1363 rfl ?_
  refine g_aload_n K 1 dL_law_1364 rfl ?_
  refine g_iload K 5 dL_law_1365 rfl ?_
  refine g_iconst K 1 dL_law_1367 (by decide +kernel) ?_
  refine g_iadd (a := i) (b := 1) K dL_law_1368 ?_
  refine g_sld (i := i + 1) K B (by omega) dL_law_1369 ?_
  refine g_aload_n K 1 dL_law_1370 rfl ?_
  refine g_iload K 5 dL_law_1371 rfl ?_
  refine g_iconst K 2 dL_law_1373 (by decide +kernel) ?_
  refine g_iadd (a := i) (b := 2) K dL_law_1374 ?_
  refine g_sld (i := i + 2) K B (by omega) dL_law_1375 ?_
  refine g_callVd (q := 22) (ci := 6) (As := [.int (nI (xn xs (i + 1))), .int (nI (xn xs (i + 2)))]) (rest := []) (C := RX6) (T := TX6) (N := 17) K hM (cwV 2 K.1.2.2.2.2 gL_law_X6_walk rfl hc hs (by decide +kernel) ⟨by rw [show g_R (gY X (oc o (gz_L (g_z X)) O1) (g_ce X + 1) (g_sl X + 6)) = room_1 from hR]; show rm.frames + 1 ≤ 11; omega, by rw [show g_R (gY X (oc o (gz_L (g_z X)) O1) (g_ce X + 1) (g_sl X + 6)) = room_1 from hR]; show 8 + (9 + 11) + rm.locals ≤ 400; omega⟩) rfl rfl rfl rfl (Nat.le_of_ble_eq_true rfl) dL_law_1376 ?_
  refine g_istore (lo' := [(6, .int (nI (v))), (5, .int (nI (k))), (0, .ref b), (1, .ref (g_ad X 0)), (2, .ref (g_ad X 22)), (3, .ref o), (4, .int (nI (i)))]) K dL_law_1379 (by decide) rfl ?_
  refine g_aload_n K 4 dL_law_1381 rfl ?_
  refine g_callVd (q := 22) (ci := 6) (As := []) (rest := []) (C := RX6) (T := TX6) (N := 17) K (cX6_thrown_k _ S2) (cwV 0 K.1.2.2.2.2 gL_law_X6_thrown rfl rfl rfl (by decide +kernel) ⟨by rw [show g_R (gY X (oc o (gz_L (g_z X)) O1) (g_ce X + 1) (g_sl X + 6)) = room_1 from hR]; exact Nat.le_of_ble_eq_true rfl, by rw [show g_R (gY X (oc o (gz_L (g_z X)) O1) (g_ce X + 1) (g_sl X + 6)) = room_1 from hR]; exact Nat.le_of_ble_eq_true rfl⟩) rfl rfl rfl rfl (Nat.le_of_ble_eq_true rfl) dL_law_1382 ?_
  refine g_topE k hth ?_
  refine g_iload K 1 dL_law_1385 rfl ?_
  refine g_icmpS (tgt := 1392) K dL_law_1387 (by decide) ?_
  refine g_iload K 1 dL_law_1392 rfl ?_
  refine g_if_ne (tgt := 1409) (a := k) K dL_law_1394 (by decide) (by omega) (fun h9 => ?_) (fun h9 => ?_)
  · refine g_goto (tgt := 1412) K dL_law_1409 (by decide) ?_
    refine g_loc (lo' := [(0, .ref b), (1, .ref (g_ad X 0)), (2, .ref (g_ad X 22)), (3, .ref o), (4, .int (nI (i)))]) [2, 3, 4, 5, 6] rfl ?_
    exact kk O1 S2 (g_ce X + 1) (g_sl X + 6) hI (Nat.le_refl _) (Nat.le_refl _)
  · refine g_aload_n K 5 dL_law_1397 rfl ?_
    refine g_iconst K 0 dL_law_1398 (by decide +kernel) ?_
    refine g_lald K rfl dL_law_1399 ?_
    refine g_iload K 0 dL_law_1400 rfl ?_
    refine g_i2l K dL_law_1402 ?_
    refine g_lcmpeq (tgt := 1409) K (hO h9) dL_law_1403 dL_law_1404 (by decide) ?_
    refine g_goto (tgt := 1412) K dL_law_1409 (by decide) ?_
    refine g_loc (lo' := [(0, .ref b), (1, .ref (g_ad X 0)), (2, .ref (g_ad X 22)), (3, .ref o), (4, .int (nI (i)))]) [2, 3, 4, 5, 6] rfl ?_
    exact kk O1 S2 (g_ce X + 1) (g_sl X + 6) hI (Nat.le_refl _) (Nat.le_refl _)

