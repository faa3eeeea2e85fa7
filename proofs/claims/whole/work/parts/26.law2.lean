/-! THE LAW'S HELPERS: the class answers, or throws and is caught -/
def rmH : Room := { frames := 8, cells := 1, slots := 6, locals := 200 }
set_option maxHeartbeats 4000000 in
set_option maxRecDepth 100000 in
theorem hL_addNode_n (Z : gZ) (S S1 : Nat → Nat → Nat) (p0 v o : Nat) (O : Nat → Int64) (hex : gz_ex Z = oc o (gz_L Z) O) (rm : Room) (hc : rm.cells = 0) (hs : rm.slots = 0) (hf : rm.frames ≤ 7) (hl : rm.locals ≤ 155) (hM : gMd Z yX5_addNode wsX5_addNode rm [.ref (gz_ad Z 0), .int (nI p0)] S v S1) : gMh Z yL_addNode wsL_addNode rmH [.ref (gz_ad Z 0), .int (nI p0), .ref o] S 0 S1 (oc o (gz_L Z) (vp_updL O 0 (lI v))) := by
  refine gMh_of (cc := cL_addNode) (maxL := 4) (hh := [(0, 9, 12, 13)]) (by decide +kernel) rfl rfl (Nat.le_of_ble_eq_true rfl) (fun X hZ hR K hT hC htab h0 h1 hret => ?_)
  subst hZ
  have K : gOk X cL_addNode 4 wsL_addNode RL := K
  show gG X 0 [(0, .ref (g_ad X 0)), (1, .int (nI (p0))), (2, .ref o)] [] S
  refine g_aload_n K 2 dL_addNode_0 rfl ?_
  refine g_iconst K 0 dL_addNode_1 (by decide +kernel) ?_
  refine g_aload_n K 0 dL_addNode_2 rfl ?_
  refine g_iload_n K 1 dL_addNode_3 rfl ?_
  refine g_callVd (q := 0) (ci := 5) (As := [.int (nI (p0))]) (rest := [.int (nI (0)), .ref o]) (C := RX5) (T := TX5) (N := 5) K hM (cwV 1 K.1.2.2.2.2 gL_addNode_X5_addNode rfl hc hs (by decide +kernel) ⟨by rw [hR]; show rm.frames + 1 ≤ 8; omega, by rw [hR]; show 8 + (2 + 11) + rm.locals ≤ 200; omega⟩) rfl rfl rfl rfl (Nat.le_of_ble_eq_true rfl) dL_addNode_4 ?_
  refine g_i2l K dL_addNode_7 ?_
  refine g_last K hex dL_addNode_8 ?_
  have K := gY_ok K (oc o (gz_L (g_z X)) (vp_updL O 0 (lI v))) (a := g_ce X) (b := g_sl X) (by rw [h0]; exact Nat.zero_le _) (by rw [h1]; exact Nat.zero_le _)
  refine g_goto (tgt := 15) K dL_addNode_9 (by decide) ?_
  refine g_iconst K 0 dL_addNode_15 (by decide +kernel) ?_
  exact hret _ _ _ _ (by rw [h0]; exact Nat.zero_le _) (by rw [h1]; exact Nat.zero_le _) dL_addNode_16

set_option maxHeartbeats 4000000 in
set_option maxRecDepth 100000 in
theorem hL_addNode_x1 (Z : gZ) (S S1 : Nat → Nat → Nat) (p0 o : Nat) (O : Nat → Int64) (hex : gz_ex Z = oc o (gz_L Z) O) (rm : Room) (hc : rm.cells = 1) (hs : rm.slots = 6) (hf : rm.frames ≤ 7) (hl : rm.locals ≤ 155) (hM : gMx Z yX5_addNode wsX5_addNode rm [.ref (gz_ad Z 0), .int (nI p0)] S S1 ISE) : gMh Z yL_addNode wsL_addNode rmH [.ref (gz_ad Z 0), .int (nI p0), .ref o] S 1 S1 (oc o (gz_L Z) O) := by
  refine gMh_of (cc := cL_addNode) (maxL := 4) (hh := [(0, 9, 12, 13)]) (by decide +kernel) rfl rfl (Nat.le_of_ble_eq_true rfl) (fun X hZ hR K hT hC htab h0 h1 hret => ?_)
  subst hZ
  have K : gOk X cL_addNode 4 wsL_addNode RL := K
  show gG X 0 [(0, .ref (g_ad X 0)), (1, .int (nI (p0))), (2, .ref o)] [] S
  refine g_aload_n K 2 dL_addNode_0 rfl ?_
  refine g_iconst K 0 dL_addNode_1 (by decide +kernel) ?_
  refine g_aload_n K 0 dL_addNode_2 rfl ?_
  refine g_iload_n K 1 dL_addNode_3 rfl ?_
  refine g_callVx (q := 0) (ci := 5) (As := [.int (nI (p0))]) (rest := [.int (nI (0)), .ref o]) (C := RX5) (U := TX5) (N := 5) K hT hM (cwV 1 K.1.2.2.2.2 gL_addNode_X5_addNode rfl hc hs (by decide +kernel) ⟨by rw [hR]; show rm.frames + 1 ≤ 8; omega, by rw [hR]; show 8 + (2 + 11) + rm.locals ≤ 200; omega⟩) (by rw [h0, hR]; exact Nat.le_of_ble_eq_true rfl) (by rw [h1, hR]; exact Nat.le_of_ble_eq_true rfl) rfl rfl rfl rfl (Nat.le_of_ble_eq_true rfl) dL_addNode_4 ?_
  refine g_catch (own := RL) (name := ISE) K [] ⟨0, 9, 12, 13⟩ [] htab (fun z hz => absurd hz List.not_mem_nil) (by decide) (by decide) (K.1.2.2.2.2 (.classLink RL 13 ISE) (by decide +kernel)) (gT_cast hT bad_ISE _) hex (fun q => ?_)
  show gG (gY X _ _ _) 12 _ [.ref q] S1
  have K := gY_ok K (oc o (gz_L (g_z X)) O) (a := g_ce X + 1) (b := g_sl X + 6) (by rw [h0, hR]; exact Nat.le_of_ble_eq_true rfl) (by rw [h1, hR]; exact Nat.le_of_ble_eq_true rfl)
  refine g_astore_n (lo' := [(3, .ref q), (0, .ref (g_ad X 0)), (1, .int (nI (p0))), (2, .ref o)]) K dL_addNode_12 (by decide) rfl ?_
  refine g_iconst K 1 dL_addNode_13 (by decide +kernel) ?_
  exact hret _ _ _ _ (by rw [h0]; exact Nat.le_refl _) (by rw [h1]; exact Nat.le_refl _) dL_addNode_14

set_option maxHeartbeats 4000000 in
set_option maxRecDepth 100000 in
theorem hL_addPipe_n (Z : gZ) (S S1 : Nat → Nat → Nat) (p0 p1 p2 p3 v o : Nat) (O : Nat → Int64) (hex : gz_ex Z = oc o (gz_L Z) O) (rm : Room) (hc : rm.cells = 0) (hs : rm.slots = 0) (hf : rm.frames ≤ 7) (hl : rm.locals ≤ 155) (hM : gMd Z yX5_addPipe wsX5_addPipe rm [.ref (gz_ad Z 0), .int (nI p0), .int (nI p1), .int (nI p2), .int (nI p3)] S v S1) : gMh Z yL_addPipe wsL_addPipe rmH [.ref (gz_ad Z 0), .int (nI p0), .int (nI p1), .int (nI p2), .int (nI p3), .ref o] S 0 S1 (oc o (gz_L Z) (vp_updL O 0 (lI v))) := by
  refine gMh_of (cc := cL_addPipe) (maxL := 7) (hh := [(0, 14, 17, 19), (0, 14, 21, 21), (0, 14, 25, 13)]) (by decide +kernel) rfl rfl (Nat.le_of_ble_eq_true rfl) (fun X hZ hR K hT hC htab h0 h1 hret => ?_)
  subst hZ
  have K : gOk X cL_addPipe 7 wsL_addPipe RL := K
  show gG X 0 [(0, .ref (g_ad X 0)), (1, .int (nI (p0))), (2, .int (nI (p1))), (3, .int (nI (p2))), (4, .int (nI (p3))), (5, .ref o)] [] S
  refine g_aload K 5 dL_addPipe_0 rfl ?_
  refine g_iconst K 0 dL_addPipe_2 (by decide +kernel) ?_
  refine g_aload_n K 0 dL_addPipe_3 rfl ?_
  refine g_iload_n K 1 dL_addPipe_4 rfl ?_
  refine g_iload_n K 2 dL_addPipe_5 rfl ?_
  refine g_iload_n K 3 dL_addPipe_6 rfl ?_
  refine g_iload K 4 dL_addPipe_7 rfl ?_
  refine g_callVd (q := 0) (ci := 5) (As := [.int (nI (p0)), .int (nI (p1)), .int (nI (p2)), .int (nI (p3))]) (rest := [.int (nI (0)), .ref o]) (C := RX5) (T := TX5) (N := 5) K hM (cwV 4 K.1.2.2.2.2 gL_addPipe_X5_addPipe rfl hc hs (by decide +kernel) ⟨by rw [hR]; show rm.frames + 1 ≤ 8; omega, by rw [hR]; show 8 + (5 + 11) + rm.locals ≤ 200; omega⟩) rfl rfl rfl rfl (Nat.le_of_ble_eq_true rfl) dL_addPipe_9 ?_
  refine g_i2l K dL_addPipe_12 ?_
  refine g_last K hex dL_addPipe_13 ?_
  have K := gY_ok K (oc o (gz_L (g_z X)) (vp_updL O 0 (lI v))) (a := g_ce X) (b := g_sl X) (by rw [h0]; exact Nat.zero_le _) (by rw [h1]; exact Nat.zero_le _)
  refine g_goto (tgt := 29) K dL_addPipe_14 (by decide) ?_
  refine g_iconst K 0 dL_addPipe_29 (by decide +kernel) ?_
  exact hret _ _ _ _ (by rw [h0]; exact Nat.zero_le _) (by rw [h1]; exact Nat.zero_le _) dL_addPipe_30

set_option maxHeartbeats 4000000 in
set_option maxRecDepth 100000 in
theorem hL_addPipe_x1 (Z : gZ) (S S1 : Nat → Nat → Nat) (p0 p1 p2 p3 o : Nat) (O : Nat → Int64) (hex : gz_ex Z = oc o (gz_L Z) O) (rm : Room) (hc : rm.cells = 1) (hs : rm.slots = 6) (hf : rm.frames ≤ 7) (hl : rm.locals ≤ 155) (hM : gMx Z yX5_addPipe wsX5_addPipe rm [.ref (gz_ad Z 0), .int (nI p0), .int (nI p1), .int (nI p2), .int (nI p3)] S S1 IOB) : gMh Z yL_addPipe wsL_addPipe rmH [.ref (gz_ad Z 0), .int (nI p0), .int (nI p1), .int (nI p2), .int (nI p3), .ref o] S 1 S1 (oc o (gz_L Z) O) := by
  refine gMh_of (cc := cL_addPipe) (maxL := 7) (hh := [(0, 14, 17, 19), (0, 14, 21, 21), (0, 14, 25, 13)]) (by decide +kernel) rfl rfl (Nat.le_of_ble_eq_true rfl) (fun X hZ hR K hT hC htab h0 h1 hret => ?_)
  subst hZ
  have K : gOk X cL_addPipe 7 wsL_addPipe RL := K
  show gG X 0 [(0, .ref (g_ad X 0)), (1, .int (nI (p0))), (2, .int (nI (p1))), (3, .int (nI (p2))), (4, .int (nI (p3))), (5, .ref o)] [] S
  refine g_aload K 5 dL_addPipe_0 rfl ?_
  refine g_iconst K 0 dL_addPipe_2 (by decide +kernel) ?_
  refine g_aload_n K 0 dL_addPipe_3 rfl ?_
  refine g_iload_n K 1 dL_addPipe_4 rfl ?_
  refine g_iload_n K 2 dL_addPipe_5 rfl ?_
  refine g_iload_n K 3 dL_addPipe_6 rfl ?_
  refine g_iload K 4 dL_addPipe_7 rfl ?_
  refine g_callVx (q := 0) (ci := 5) (As := [.int (nI (p0)), .int (nI (p1)), .int (nI (p2)), .int (nI (p3))]) (rest := [.int (nI (0)), .ref o]) (C := RX5) (U := TX5) (N := 5) K hT hM (cwV 4 K.1.2.2.2.2 gL_addPipe_X5_addPipe rfl hc hs (by decide +kernel) ⟨by rw [hR]; show rm.frames + 1 ≤ 8; omega, by rw [hR]; show 8 + (5 + 11) + rm.locals ≤ 200; omega⟩) (by rw [h0, hR]; exact Nat.le_of_ble_eq_true rfl) (by rw [h1, hR]; exact Nat.le_of_ble_eq_true rfl) rfl rfl rfl rfl (Nat.le_of_ble_eq_true rfl) dL_addPipe_9 ?_
  refine g_catch (own := RL) (name := IOB) K [] ⟨0, 14, 17, 19⟩ [⟨0, 14, 21, 21⟩, ⟨0, 14, 25, 13⟩] htab (fun z hz => absurd hz List.not_mem_nil) (by decide) (by decide) (K.1.2.2.2.2 (.classLink RL 19 IOB) (by decide +kernel)) (gT_cast hT bad_IOB _) hex (fun q => ?_)
  show gG (gY X _ _ _) 17 _ [.ref q] S1
  have K := gY_ok K (oc o (gz_L (g_z X)) O) (a := g_ce X + 1) (b := g_sl X + 6) (by rw [h0, hR]; exact Nat.le_of_ble_eq_true rfl) (by rw [h1, hR]; exact Nat.le_of_ble_eq_true rfl)
  refine g_astore (lo' := [(6, .ref q), (0, .ref (g_ad X 0)), (1, .int (nI (p0))), (2, .int (nI (p1))), (3, .int (nI (p2))), (4, .int (nI (p3))), (5, .ref o)]) K dL_addPipe_17 (by decide) rfl ?_
  refine g_iconst K 1 dL_addPipe_19 (by decide +kernel) ?_
  exact hret _ _ _ _ (by rw [h0]; exact Nat.le_refl _) (by rw [h1]; exact Nat.le_refl _) dL_addPipe_20

set_option maxHeartbeats 4000000 in
set_option maxRecDepth 100000 in
theorem hL_addPipe_x2 (Z : gZ) (S S1 : Nat → Nat → Nat) (p0 p1 p2 p3 o : Nat) (O : Nat → Int64) (hex : gz_ex Z = oc o (gz_L Z) O) (rm : Room) (hc : rm.cells = 1) (hs : rm.slots = 6) (hf : rm.frames ≤ 7) (hl : rm.locals ≤ 155) (hM : gMx Z yX5_addPipe wsX5_addPipe rm [.ref (gz_ad Z 0), .int (nI p0), .int (nI p1), .int (nI p2), .int (nI p3)] S S1 IAE) : gMh Z yL_addPipe wsL_addPipe rmH [.ref (gz_ad Z 0), .int (nI p0), .int (nI p1), .int (nI p2), .int (nI p3), .ref o] S 2 S1 (oc o (gz_L Z) O) := by
  refine gMh_of (cc := cL_addPipe) (maxL := 7) (hh := [(0, 14, 17, 19), (0, 14, 21, 21), (0, 14, 25, 13)]) (by decide +kernel) rfl rfl (Nat.le_of_ble_eq_true rfl) (fun X hZ hR K hT hC htab h0 h1 hret => ?_)
  subst hZ
  have K : gOk X cL_addPipe 7 wsL_addPipe RL := K
  show gG X 0 [(0, .ref (g_ad X 0)), (1, .int (nI (p0))), (2, .int (nI (p1))), (3, .int (nI (p2))), (4, .int (nI (p3))), (5, .ref o)] [] S
  refine g_aload K 5 dL_addPipe_0 rfl ?_
  refine g_iconst K 0 dL_addPipe_2 (by decide +kernel) ?_
  refine g_aload_n K 0 dL_addPipe_3 rfl ?_
  refine g_iload_n K 1 dL_addPipe_4 rfl ?_
  refine g_iload_n K 2 dL_addPipe_5 rfl ?_
  refine g_iload_n K 3 dL_addPipe_6 rfl ?_
  refine g_iload K 4 dL_addPipe_7 rfl ?_
  refine g_callVx (q := 0) (ci := 5) (As := [.int (nI (p0)), .int (nI (p1)), .int (nI (p2)), .int (nI (p3))]) (rest := [.int (nI (0)), .ref o]) (C := RX5) (U := TX5) (N := 5) K hT hM (cwV 4 K.1.2.2.2.2 gL_addPipe_X5_addPipe rfl hc hs (by decide +kernel) ⟨by rw [hR]; show rm.frames + 1 ≤ 8; omega, by rw [hR]; show 8 + (5 + 11) + rm.locals ≤ 200; omega⟩) (by rw [h0, hR]; exact Nat.le_of_ble_eq_true rfl) (by rw [h1, hR]; exact Nat.le_of_ble_eq_true rfl) rfl rfl rfl rfl (Nat.le_of_ble_eq_true rfl) dL_addPipe_9 ?_
  refine g_catch (own := RL) (name := IAE) K [⟨0, 14, 17, 19⟩] ⟨0, 14, 21, 21⟩ [⟨0, 14, 25, 13⟩] htab (fun z hz => by
    simp only [List.mem_cons, List.not_mem_nil, or_false] at hz
    subst hz
    exact Or.inr ⟨by decide, IOB, K.1.2.2.2.2 (.classLink RL 19 IOB) (by decide +kernel), hC.2.2⟩) (by decide) (by decide) (K.1.2.2.2.2 (.classLink RL 21 IAE) (by decide +kernel)) (gT_cast hT bad_IAE _) hex (fun q => ?_)
  show gG (gY X _ _ _) 21 _ [.ref q] S1
  have K := gY_ok K (oc o (gz_L (g_z X)) O) (a := g_ce X + 1) (b := g_sl X + 6) (by rw [h0, hR]; exact Nat.le_of_ble_eq_true rfl) (by rw [h1, hR]; exact Nat.le_of_ble_eq_true rfl)
  refine g_astore (lo' := [(6, .ref q), (0, .ref (g_ad X 0)), (1, .int (nI (p0))), (2, .int (nI (p1))), (3, .int (nI (p2))), (4, .int (nI (p3))), (5, .ref o)]) K dL_addPipe_21 (by decide) rfl ?_
  refine g_iconst K 2 dL_addPipe_23 (by decide +kernel) ?_
  exact hret _ _ _ _ (by rw [h0]; exact Nat.le_refl _) (by rw [h1]; exact Nat.le_refl _) dL_addPipe_24

set_option maxHeartbeats 4000000 in
set_option maxRecDepth 100000 in
theorem hL_addPipe_x3 (Z : gZ) (S S1 : Nat → Nat → Nat) (p0 p1 p2 p3 o : Nat) (O : Nat → Int64) (hex : gz_ex Z = oc o (gz_L Z) O) (rm : Room) (hc : rm.cells = 1) (hs : rm.slots = 6) (hf : rm.frames ≤ 7) (hl : rm.locals ≤ 155) (hM : gMx Z yX5_addPipe wsX5_addPipe rm [.ref (gz_ad Z 0), .int (nI p0), .int (nI p1), .int (nI p2), .int (nI p3)] S S1 ISE) : gMh Z yL_addPipe wsL_addPipe rmH [.ref (gz_ad Z 0), .int (nI p0), .int (nI p1), .int (nI p2), .int (nI p3), .ref o] S 3 S1 (oc o (gz_L Z) O) := by
  refine gMh_of (cc := cL_addPipe) (maxL := 7) (hh := [(0, 14, 17, 19), (0, 14, 21, 21), (0, 14, 25, 13)]) (by decide +kernel) rfl rfl (Nat.le_of_ble_eq_true rfl) (fun X hZ hR K hT hC htab h0 h1 hret => ?_)
  subst hZ
  have K : gOk X cL_addPipe 7 wsL_addPipe RL := K
  show gG X 0 [(0, .ref (g_ad X 0)), (1, .int (nI (p0))), (2, .int (nI (p1))), (3, .int (nI (p2))), (4, .int (nI (p3))), (5, .ref o)] [] S
  refine g_aload K 5 dL_addPipe_0 rfl ?_
  refine g_iconst K 0 dL_addPipe_2 (by decide +kernel) ?_
  refine g_aload_n K 0 dL_addPipe_3 rfl ?_
  refine g_iload_n K 1 dL_addPipe_4 rfl ?_
  refine g_iload_n K 2 dL_addPipe_5 rfl ?_
  refine g_iload_n K 3 dL_addPipe_6 rfl ?_
  refine g_iload K 4 dL_addPipe_7 rfl ?_
  refine g_callVx (q := 0) (ci := 5) (As := [.int (nI (p0)), .int (nI (p1)), .int (nI (p2)), .int (nI (p3))]) (rest := [.int (nI (0)), .ref o]) (C := RX5) (U := TX5) (N := 5) K hT hM (cwV 4 K.1.2.2.2.2 gL_addPipe_X5_addPipe rfl hc hs (by decide +kernel) ⟨by rw [hR]; show rm.frames + 1 ≤ 8; omega, by rw [hR]; show 8 + (5 + 11) + rm.locals ≤ 200; omega⟩) (by rw [h0, hR]; exact Nat.le_of_ble_eq_true rfl) (by rw [h1, hR]; exact Nat.le_of_ble_eq_true rfl) rfl rfl rfl rfl (Nat.le_of_ble_eq_true rfl) dL_addPipe_9 ?_
  refine g_catch (own := RL) (name := ISE) K [⟨0, 14, 17, 19⟩, ⟨0, 14, 21, 21⟩] ⟨0, 14, 25, 13⟩ [] htab (fun z hz => by
    simp only [List.mem_cons, List.not_mem_nil, or_false] at hz
    rcases hz with rfl | rfl
    · exact Or.inr ⟨by decide, IOB, K.1.2.2.2.2 (.classLink RL 19 IOB) (by decide +kernel), hC.1⟩
    · exact Or.inr ⟨by decide, IAE, K.1.2.2.2.2 (.classLink RL 21 IAE) (by decide +kernel), hC.2.1⟩) (by decide) (by decide) (K.1.2.2.2.2 (.classLink RL 13 ISE) (by decide +kernel)) (gT_cast hT bad_ISE _) hex (fun q => ?_)
  show gG (gY X _ _ _) 25 _ [.ref q] S1
  have K := gY_ok K (oc o (gz_L (g_z X)) O) (a := g_ce X + 1) (b := g_sl X + 6) (by rw [h0, hR]; exact Nat.le_of_ble_eq_true rfl) (by rw [h1, hR]; exact Nat.le_of_ble_eq_true rfl)
  refine g_astore (lo' := [(6, .ref q), (0, .ref (g_ad X 0)), (1, .int (nI (p0))), (2, .int (nI (p1))), (3, .int (nI (p2))), (4, .int (nI (p3))), (5, .ref o)]) K dL_addPipe_25 (by decide) rfl ?_
  refine g_iconst K 3 dL_addPipe_27 (by decide +kernel) ?_
  exact hret _ _ _ _ (by rw [h0]; exact Nat.le_refl _) (by rw [h1]; exact Nat.le_refl _) dL_addPipe_28

set_option maxHeartbeats 4000000 in
set_option maxRecDepth 100000 in
theorem hL_addValve_n (Z : gZ) (S S1 : Nat → Nat → Nat) (p0 p1 v o : Nat) (O : Nat → Int64) (hex : gz_ex Z = oc o (gz_L Z) O) (rm : Room) (hc : rm.cells = 0) (hs : rm.slots = 0) (hf : rm.frames ≤ 7) (hl : rm.locals ≤ 155) (hM : gMd Z yX5_addValve wsX5_addValve rm [.ref (gz_ad Z 0), .int (nI p0), .int (nI p1)] S v S1) : gMh Z yL_addValve wsL_addValve rmH [.ref (gz_ad Z 0), .int (nI p0), .int (nI p1), .ref o] S 0 S1 (oc o (gz_L Z) (vp_updL O 0 (lI v))) := by
  refine gMh_of (cc := cL_addValve) (maxL := 5) (hh := [(0, 10, 13, 19), (0, 10, 17, 21), (0, 10, 21, 13)]) (by decide +kernel) rfl rfl (Nat.le_of_ble_eq_true rfl) (fun X hZ hR K hT hC htab h0 h1 hret => ?_)
  subst hZ
  have K : gOk X cL_addValve 5 wsL_addValve RL := K
  show gG X 0 [(0, .ref (g_ad X 0)), (1, .int (nI (p0))), (2, .int (nI (p1))), (3, .ref o)] [] S
  refine g_aload_n K 3 dL_addValve_0 rfl ?_
  refine g_iconst K 0 dL_addValve_1 (by decide +kernel) ?_
  refine g_aload_n K 0 dL_addValve_2 rfl ?_
  refine g_iload_n K 1 dL_addValve_3 rfl ?_
  refine g_iload_n K 2 dL_addValve_4 rfl ?_
  refine g_callVd (q := 0) (ci := 5) (As := [.int (nI (p0)), .int (nI (p1))]) (rest := [.int (nI (0)), .ref o]) (C := RX5) (T := TX5) (N := 5) K hM (cwV 2 K.1.2.2.2.2 gL_addValve_X5_addValve rfl hc hs (by decide +kernel) ⟨by rw [hR]; show rm.frames + 1 ≤ 8; omega, by rw [hR]; show 8 + (3 + 11) + rm.locals ≤ 200; omega⟩) rfl rfl rfl rfl (Nat.le_of_ble_eq_true rfl) dL_addValve_5 ?_
  refine g_i2l K dL_addValve_8 ?_
  refine g_last K hex dL_addValve_9 ?_
  have K := gY_ok K (oc o (gz_L (g_z X)) (vp_updL O 0 (lI v))) (a := g_ce X) (b := g_sl X) (by rw [h0]; exact Nat.zero_le _) (by rw [h1]; exact Nat.zero_le _)
  refine g_goto (tgt := 25) K dL_addValve_10 (by decide) ?_
  refine g_iconst K 0 dL_addValve_25 (by decide +kernel) ?_
  exact hret _ _ _ _ (by rw [h0]; exact Nat.zero_le _) (by rw [h1]; exact Nat.zero_le _) dL_addValve_26

set_option maxHeartbeats 4000000 in
set_option maxRecDepth 100000 in
theorem hL_addValve_x1 (Z : gZ) (S S1 : Nat → Nat → Nat) (p0 p1 o : Nat) (O : Nat → Int64) (hex : gz_ex Z = oc o (gz_L Z) O) (rm : Room) (hc : rm.cells = 1) (hs : rm.slots = 6) (hf : rm.frames ≤ 7) (hl : rm.locals ≤ 155) (hM : gMx Z yX5_addValve wsX5_addValve rm [.ref (gz_ad Z 0), .int (nI p0), .int (nI p1)] S S1 IOB) : gMh Z yL_addValve wsL_addValve rmH [.ref (gz_ad Z 0), .int (nI p0), .int (nI p1), .ref o] S 1 S1 (oc o (gz_L Z) O) := by
  refine gMh_of (cc := cL_addValve) (maxL := 5) (hh := [(0, 10, 13, 19), (0, 10, 17, 21), (0, 10, 21, 13)]) (by decide +kernel) rfl rfl (Nat.le_of_ble_eq_true rfl) (fun X hZ hR K hT hC htab h0 h1 hret => ?_)
  subst hZ
  have K : gOk X cL_addValve 5 wsL_addValve RL := K
  show gG X 0 [(0, .ref (g_ad X 0)), (1, .int (nI (p0))), (2, .int (nI (p1))), (3, .ref o)] [] S
  refine g_aload_n K 3 dL_addValve_0 rfl ?_
  refine g_iconst K 0 dL_addValve_1 (by decide +kernel) ?_
  refine g_aload_n K 0 dL_addValve_2 rfl ?_
  refine g_iload_n K 1 dL_addValve_3 rfl ?_
  refine g_iload_n K 2 dL_addValve_4 rfl ?_
  refine g_callVx (q := 0) (ci := 5) (As := [.int (nI (p0)), .int (nI (p1))]) (rest := [.int (nI (0)), .ref o]) (C := RX5) (U := TX5) (N := 5) K hT hM (cwV 2 K.1.2.2.2.2 gL_addValve_X5_addValve rfl hc hs (by decide +kernel) ⟨by rw [hR]; show rm.frames + 1 ≤ 8; omega, by rw [hR]; show 8 + (3 + 11) + rm.locals ≤ 200; omega⟩) (by rw [h0, hR]; exact Nat.le_of_ble_eq_true rfl) (by rw [h1, hR]; exact Nat.le_of_ble_eq_true rfl) rfl rfl rfl rfl (Nat.le_of_ble_eq_true rfl) dL_addValve_5 ?_
  refine g_catch (own := RL) (name := IOB) K [] ⟨0, 10, 13, 19⟩ [⟨0, 10, 17, 21⟩, ⟨0, 10, 21, 13⟩] htab (fun z hz => absurd hz List.not_mem_nil) (by decide) (by decide) (K.1.2.2.2.2 (.classLink RL 19 IOB) (by decide +kernel)) (gT_cast hT bad_IOB _) hex (fun q => ?_)
  show gG (gY X _ _ _) 13 _ [.ref q] S1
  have K := gY_ok K (oc o (gz_L (g_z X)) O) (a := g_ce X + 1) (b := g_sl X + 6) (by rw [h0, hR]; exact Nat.le_of_ble_eq_true rfl) (by rw [h1, hR]; exact Nat.le_of_ble_eq_true rfl)
  refine g_astore (lo' := [(4, .ref q), (0, .ref (g_ad X 0)), (1, .int (nI (p0))), (2, .int (nI (p1))), (3, .ref o)]) K dL_addValve_13 (by decide) rfl ?_
  refine g_iconst K 1 dL_addValve_15 (by decide +kernel) ?_
  exact hret _ _ _ _ (by rw [h0]; exact Nat.le_refl _) (by rw [h1]; exact Nat.le_refl _) dL_addValve_16

set_option maxHeartbeats 4000000 in
set_option maxRecDepth 100000 in
theorem hL_addValve_x2 (Z : gZ) (S S1 : Nat → Nat → Nat) (p0 p1 o : Nat) (O : Nat → Int64) (hex : gz_ex Z = oc o (gz_L Z) O) (rm : Room) (hc : rm.cells = 1) (hs : rm.slots = 6) (hf : rm.frames ≤ 7) (hl : rm.locals ≤ 155) (hM : gMx Z yX5_addValve wsX5_addValve rm [.ref (gz_ad Z 0), .int (nI p0), .int (nI p1)] S S1 IAE) : gMh Z yL_addValve wsL_addValve rmH [.ref (gz_ad Z 0), .int (nI p0), .int (nI p1), .ref o] S 2 S1 (oc o (gz_L Z) O) := by
  refine gMh_of (cc := cL_addValve) (maxL := 5) (hh := [(0, 10, 13, 19), (0, 10, 17, 21), (0, 10, 21, 13)]) (by decide +kernel) rfl rfl (Nat.le_of_ble_eq_true rfl) (fun X hZ hR K hT hC htab h0 h1 hret => ?_)
  subst hZ
  have K : gOk X cL_addValve 5 wsL_addValve RL := K
  show gG X 0 [(0, .ref (g_ad X 0)), (1, .int (nI (p0))), (2, .int (nI (p1))), (3, .ref o)] [] S
  refine g_aload_n K 3 dL_addValve_0 rfl ?_
  refine g_iconst K 0 dL_addValve_1 (by decide +kernel) ?_
  refine g_aload_n K 0 dL_addValve_2 rfl ?_
  refine g_iload_n K 1 dL_addValve_3 rfl ?_
  refine g_iload_n K 2 dL_addValve_4 rfl ?_
  refine g_callVx (q := 0) (ci := 5) (As := [.int (nI (p0)), .int (nI (p1))]) (rest := [.int (nI (0)), .ref o]) (C := RX5) (U := TX5) (N := 5) K hT hM (cwV 2 K.1.2.2.2.2 gL_addValve_X5_addValve rfl hc hs (by decide +kernel) ⟨by rw [hR]; show rm.frames + 1 ≤ 8; omega, by rw [hR]; show 8 + (3 + 11) + rm.locals ≤ 200; omega⟩) (by rw [h0, hR]; exact Nat.le_of_ble_eq_true rfl) (by rw [h1, hR]; exact Nat.le_of_ble_eq_true rfl) rfl rfl rfl rfl (Nat.le_of_ble_eq_true rfl) dL_addValve_5 ?_
  refine g_catch (own := RL) (name := IAE) K [⟨0, 10, 13, 19⟩] ⟨0, 10, 17, 21⟩ [⟨0, 10, 21, 13⟩] htab (fun z hz => by
    simp only [List.mem_cons, List.not_mem_nil, or_false] at hz
    subst hz
    exact Or.inr ⟨by decide, IOB, K.1.2.2.2.2 (.classLink RL 19 IOB) (by decide +kernel), hC.2.2⟩) (by decide) (by decide) (K.1.2.2.2.2 (.classLink RL 21 IAE) (by decide +kernel)) (gT_cast hT bad_IAE _) hex (fun q => ?_)
  show gG (gY X _ _ _) 17 _ [.ref q] S1
  have K := gY_ok K (oc o (gz_L (g_z X)) O) (a := g_ce X + 1) (b := g_sl X + 6) (by rw [h0, hR]; exact Nat.le_of_ble_eq_true rfl) (by rw [h1, hR]; exact Nat.le_of_ble_eq_true rfl)
  refine g_astore (lo' := [(4, .ref q), (0, .ref (g_ad X 0)), (1, .int (nI (p0))), (2, .int (nI (p1))), (3, .ref o)]) K dL_addValve_17 (by decide) rfl ?_
  refine g_iconst K 2 dL_addValve_19 (by decide +kernel) ?_
  exact hret _ _ _ _ (by rw [h0]; exact Nat.le_refl _) (by rw [h1]; exact Nat.le_refl _) dL_addValve_20

set_option maxHeartbeats 4000000 in
set_option maxRecDepth 100000 in
theorem hL_addValve_x3 (Z : gZ) (S S1 : Nat → Nat → Nat) (p0 p1 o : Nat) (O : Nat → Int64) (hex : gz_ex Z = oc o (gz_L Z) O) (rm : Room) (hc : rm.cells = 1) (hs : rm.slots = 6) (hf : rm.frames ≤ 7) (hl : rm.locals ≤ 155) (hM : gMx Z yX5_addValve wsX5_addValve rm [.ref (gz_ad Z 0), .int (nI p0), .int (nI p1)] S S1 ISE) : gMh Z yL_addValve wsL_addValve rmH [.ref (gz_ad Z 0), .int (nI p0), .int (nI p1), .ref o] S 3 S1 (oc o (gz_L Z) O) := by
  refine gMh_of (cc := cL_addValve) (maxL := 5) (hh := [(0, 10, 13, 19), (0, 10, 17, 21), (0, 10, 21, 13)]) (by decide +kernel) rfl rfl (Nat.le_of_ble_eq_true rfl) (fun X hZ hR K hT hC htab h0 h1 hret => ?_)
  subst hZ
  have K : gOk X cL_addValve 5 wsL_addValve RL := K
  show gG X 0 [(0, .ref (g_ad X 0)), (1, .int (nI (p0))), (2, .int (nI (p1))), (3, .ref o)] [] S
  refine g_aload_n K 3 dL_addValve_0 rfl ?_
  refine g_iconst K 0 dL_addValve_1 (by decide +kernel) ?_
  refine g_aload_n K 0 dL_addValve_2 rfl ?_
  refine g_iload_n K 1 dL_addValve_3 rfl ?_
  refine g_iload_n K 2 dL_addValve_4 rfl ?_
  refine g_callVx (q := 0) (ci := 5) (As := [.int (nI (p0)), .int (nI (p1))]) (rest := [.int (nI (0)), .ref o]) (C := RX5) (U := TX5) (N := 5) K hT hM (cwV 2 K.1.2.2.2.2 gL_addValve_X5_addValve rfl hc hs (by decide +kernel) ⟨by rw [hR]; show rm.frames + 1 ≤ 8; omega, by rw [hR]; show 8 + (3 + 11) + rm.locals ≤ 200; omega⟩) (by rw [h0, hR]; exact Nat.le_of_ble_eq_true rfl) (by rw [h1, hR]; exact Nat.le_of_ble_eq_true rfl) rfl rfl rfl rfl (Nat.le_of_ble_eq_true rfl) dL_addValve_5 ?_
  refine g_catch (own := RL) (name := ISE) K [⟨0, 10, 13, 19⟩, ⟨0, 10, 17, 21⟩] ⟨0, 10, 21, 13⟩ [] htab (fun z hz => by
    simp only [List.mem_cons, List.not_mem_nil, or_false] at hz
    rcases hz with rfl | rfl
    · exact Or.inr ⟨by decide, IOB, K.1.2.2.2.2 (.classLink RL 19 IOB) (by decide +kernel), hC.1⟩
    · exact Or.inr ⟨by decide, IAE, K.1.2.2.2.2 (.classLink RL 21 IAE) (by decide +kernel), hC.2.1⟩) (by decide) (by decide) (K.1.2.2.2.2 (.classLink RL 13 ISE) (by decide +kernel)) (gT_cast hT bad_ISE _) hex (fun q => ?_)
  show gG (gY X _ _ _) 21 _ [.ref q] S1
  have K := gY_ok K (oc o (gz_L (g_z X)) O) (a := g_ce X + 1) (b := g_sl X + 6) (by rw [h0, hR]; exact Nat.le_of_ble_eq_true rfl) (by rw [h1, hR]; exact Nat.le_of_ble_eq_true rfl)
  refine g_astore (lo' := [(4, .ref q), (0, .ref (g_ad X 0)), (1, .int (nI (p0))), (2, .int (nI (p1))), (3, .ref o)]) K dL_addValve_21 (by decide) rfl ?_
  refine g_iconst K 3 dL_addValve_23 (by decide +kernel) ?_
  exact hret _ _ _ _ (by rw [h0]; exact Nat.le_refl _) (by rw [h1]; exact Nat.le_refl _) dL_addValve_24

set_option maxHeartbeats 4000000 in
set_option maxRecDepth 100000 in
theorem hL_setSource_n (Z : gZ) (S S1 : Nat → Nat → Nat) (p0 p1 v o : Nat) (O : Nat → Int64) (hex : gz_ex Z = oc o (gz_L Z) O) (rm : Room) (hc : rm.cells = 0) (hs : rm.slots = 0) (hf : rm.frames ≤ 7) (hl : rm.locals ≤ 155) (hv : v < 4294967296) (hM : gMd Z yX5_setSource wsX5_setSource rm [.ref (gz_ad Z 0), .int (nI p0), .int (nI p1)] S v S1) : gMh Z yL_setSource wsL_setSource rmH [.ref (gz_ad Z 0), .int (nI p0), .int (nI p1), .ref o] S 0 S1 (oc o (gz_L Z) (vp_updL O 0 (bL v))) := by
  refine gMh_of (cc := cL_setSource) (maxL := 5) (hh := [(0, 17, 20, 19)]) (by decide +kernel) rfl rfl (Nat.le_of_ble_eq_true rfl) (fun X hZ hR K hT hC htab h0 h1 hret => ?_)
  subst hZ
  have K : gOk X cL_setSource 5 wsL_setSource RL := K
  show gG X 0 [(0, .ref (g_ad X 0)), (1, .int (nI (p0))), (2, .int (nI (p1))), (3, .ref o)] [] S
  refine g_aload_n K 3 dL_setSource_0 rfl ?_
  refine g_iconst K 0 dL_setSource_1 (by decide +kernel) ?_
  refine g_aload_n K 0 dL_setSource_2 rfl ?_
  refine g_iload_n K 1 dL_setSource_3 rfl ?_
  refine g_iload_n K 2 dL_setSource_4 rfl ?_
  refine g_callVd (q := 0) (ci := 5) (As := [.int (nI (p0)), .int (nI (p1))]) (rest := [.int (nI (0)), .ref o]) (C := RX5) (T := TX5) (N := 5) K hM (cwV 2 K.1.2.2.2.2 gL_setSource_X5_setSource rfl hc hs (by decide +kernel) ⟨by rw [hR]; show rm.frames + 1 ≤ 8; omega, by rw [hR]; show 8 + (3 + 11) + rm.locals ≤ 200; omega⟩) rfl rfl rfl rfl (Nat.le_of_ble_eq_true rfl) dL_setSource_5 ?_
  refine g_boolL (t1 := 15) (t2 := 16) K hv dL_setSource_8 (by decide) dL_setSource_11 dL_setSource_12 (by decide) dL_setSource_15 rfl ?_
  refine g_last K hex dL_setSource_16 ?_
  have K := gY_ok K (oc o (gz_L (g_z X)) (vp_updL O 0 (bL v))) (a := g_ce X) (b := g_sl X) (by rw [h0]; exact Nat.zero_le _) (by rw [h1]; exact Nat.zero_le _)
  refine g_goto (tgt := 24) K dL_setSource_17 (by decide) ?_
  refine g_iconst K 0 dL_setSource_24 (by decide +kernel) ?_
  exact hret _ _ _ _ (by rw [h0]; exact Nat.zero_le _) (by rw [h1]; exact Nat.zero_le _) dL_setSource_25

set_option maxHeartbeats 4000000 in
set_option maxRecDepth 100000 in
theorem hL_setSource_x1 (Z : gZ) (S S1 : Nat → Nat → Nat) (p0 p1 o : Nat) (O : Nat → Int64) (hex : gz_ex Z = oc o (gz_L Z) O) (rm : Room) (hc : rm.cells = 1) (hs : rm.slots = 6) (hf : rm.frames ≤ 7) (hl : rm.locals ≤ 155) (hM : gMx Z yX5_setSource wsX5_setSource rm [.ref (gz_ad Z 0), .int (nI p0), .int (nI p1)] S S1 IOB) : gMh Z yL_setSource wsL_setSource rmH [.ref (gz_ad Z 0), .int (nI p0), .int (nI p1), .ref o] S 1 S1 (oc o (gz_L Z) O) := by
  refine gMh_of (cc := cL_setSource) (maxL := 5) (hh := [(0, 17, 20, 19)]) (by decide +kernel) rfl rfl (Nat.le_of_ble_eq_true rfl) (fun X hZ hR K hT hC htab h0 h1 hret => ?_)
  subst hZ
  have K : gOk X cL_setSource 5 wsL_setSource RL := K
  show gG X 0 [(0, .ref (g_ad X 0)), (1, .int (nI (p0))), (2, .int (nI (p1))), (3, .ref o)] [] S
  refine g_aload_n K 3 dL_setSource_0 rfl ?_
  refine g_iconst K 0 dL_setSource_1 (by decide +kernel) ?_
  refine g_aload_n K 0 dL_setSource_2 rfl ?_
  refine g_iload_n K 1 dL_setSource_3 rfl ?_
  refine g_iload_n K 2 dL_setSource_4 rfl ?_
  refine g_callVx (q := 0) (ci := 5) (As := [.int (nI (p0)), .int (nI (p1))]) (rest := [.int (nI (0)), .ref o]) (C := RX5) (U := TX5) (N := 5) K hT hM (cwV 2 K.1.2.2.2.2 gL_setSource_X5_setSource rfl hc hs (by decide +kernel) ⟨by rw [hR]; show rm.frames + 1 ≤ 8; omega, by rw [hR]; show 8 + (3 + 11) + rm.locals ≤ 200; omega⟩) (by rw [h0, hR]; exact Nat.le_of_ble_eq_true rfl) (by rw [h1, hR]; exact Nat.le_of_ble_eq_true rfl) rfl rfl rfl rfl (Nat.le_of_ble_eq_true rfl) dL_setSource_5 ?_
  refine g_catch (own := RL) (name := IOB) K [] ⟨0, 17, 20, 19⟩ [] htab (fun z hz => absurd hz List.not_mem_nil) (by decide) (by decide) (K.1.2.2.2.2 (.classLink RL 19 IOB) (by decide +kernel)) (gT_cast hT bad_IOB _) hex (fun q => ?_)
  show gG (gY X _ _ _) 20 _ [.ref q] S1
  have K := gY_ok K (oc o (gz_L (g_z X)) O) (a := g_ce X + 1) (b := g_sl X + 6) (by rw [h0, hR]; exact Nat.le_of_ble_eq_true rfl) (by rw [h1, hR]; exact Nat.le_of_ble_eq_true rfl)
  refine g_astore (lo' := [(4, .ref q), (0, .ref (g_ad X 0)), (1, .int (nI (p0))), (2, .int (nI (p1))), (3, .ref o)]) K dL_setSource_20 (by decide) rfl ?_
  refine g_iconst K 1 dL_setSource_22 (by decide +kernel) ?_
  exact hret _ _ _ _ (by rw [h0]; exact Nat.le_refl _) (by rw [h1]; exact Nat.le_refl _) dL_setSource_23

set_option maxHeartbeats 4000000 in
set_option maxRecDepth 100000 in
theorem hL_setStuck_n (Z : gZ) (S S1 : Nat → Nat → Nat) (p0 p1 v o : Nat) (O : Nat → Int64) (hex : gz_ex Z = oc o (gz_L Z) O) (rm : Room) (hc : rm.cells = 0) (hs : rm.slots = 0) (hf : rm.frames ≤ 7) (hl : rm.locals ≤ 155) (hv : v < 4294967296) (hM : gMd Z yX5_setStuck wsX5_setStuck rm [.ref (gz_ad Z 0), .int (nI p0), .int (nI p1)] S v S1) : gMh Z yL_setStuck wsL_setStuck rmH [.ref (gz_ad Z 0), .int (nI p0), .int (nI p1), .ref o] S 0 S1 (oc o (gz_L Z) (vp_updL O 0 (bL v))) := by
  refine gMh_of (cc := cL_setStuck) (maxL := 5) (hh := [(0, 17, 20, 19)]) (by decide +kernel) rfl rfl (Nat.le_of_ble_eq_true rfl) (fun X hZ hR K hT hC htab h0 h1 hret => ?_)
  subst hZ
  have K : gOk X cL_setStuck 5 wsL_setStuck RL := K
  show gG X 0 [(0, .ref (g_ad X 0)), (1, .int (nI (p0))), (2, .int (nI (p1))), (3, .ref o)] [] S
  refine g_aload_n K 3 dL_setStuck_0 rfl ?_
  refine g_iconst K 0 dL_setStuck_1 (by decide +kernel) ?_
  refine g_aload_n K 0 dL_setStuck_2 rfl ?_
  refine g_iload_n K 1 dL_setStuck_3 rfl ?_
  refine g_iload_n K 2 dL_setStuck_4 rfl ?_
  refine g_callVd (q := 0) (ci := 5) (As := [.int (nI (p0)), .int (nI (p1))]) (rest := [.int (nI (0)), .ref o]) (C := RX5) (T := TX5) (N := 5) K hM (cwV 2 K.1.2.2.2.2 gL_setStuck_X5_setStuck rfl hc hs (by decide +kernel) ⟨by rw [hR]; show rm.frames + 1 ≤ 8; omega, by rw [hR]; show 8 + (3 + 11) + rm.locals ≤ 200; omega⟩) rfl rfl rfl rfl (Nat.le_of_ble_eq_true rfl) dL_setStuck_5 ?_
  refine g_boolL (t1 := 15) (t2 := 16) K hv dL_setStuck_8 (by decide) dL_setStuck_11 dL_setStuck_12 (by decide) dL_setStuck_15 rfl ?_
  refine g_last K hex dL_setStuck_16 ?_
  have K := gY_ok K (oc o (gz_L (g_z X)) (vp_updL O 0 (bL v))) (a := g_ce X) (b := g_sl X) (by rw [h0]; exact Nat.zero_le _) (by rw [h1]; exact Nat.zero_le _)
  refine g_goto (tgt := 24) K dL_setStuck_17 (by decide) ?_
  refine g_iconst K 0 dL_setStuck_24 (by decide +kernel) ?_
  exact hret _ _ _ _ (by rw [h0]; exact Nat.zero_le _) (by rw [h1]; exact Nat.zero_le _) dL_setStuck_25

set_option maxHeartbeats 4000000 in
set_option maxRecDepth 100000 in
theorem hL_setStuck_x1 (Z : gZ) (S S1 : Nat → Nat → Nat) (p0 p1 o : Nat) (O : Nat → Int64) (hex : gz_ex Z = oc o (gz_L Z) O) (rm : Room) (hc : rm.cells = 1) (hs : rm.slots = 6) (hf : rm.frames ≤ 7) (hl : rm.locals ≤ 155) (hM : gMx Z yX5_setStuck wsX5_setStuck rm [.ref (gz_ad Z 0), .int (nI p0), .int (nI p1)] S S1 IOB) : gMh Z yL_setStuck wsL_setStuck rmH [.ref (gz_ad Z 0), .int (nI p0), .int (nI p1), .ref o] S 1 S1 (oc o (gz_L Z) O) := by
  refine gMh_of (cc := cL_setStuck) (maxL := 5) (hh := [(0, 17, 20, 19)]) (by decide +kernel) rfl rfl (Nat.le_of_ble_eq_true rfl) (fun X hZ hR K hT hC htab h0 h1 hret => ?_)
  subst hZ
  have K : gOk X cL_setStuck 5 wsL_setStuck RL := K
  show gG X 0 [(0, .ref (g_ad X 0)), (1, .int (nI (p0))), (2, .int (nI (p1))), (3, .ref o)] [] S
  refine g_aload_n K 3 dL_setStuck_0 rfl ?_
  refine g_iconst K 0 dL_setStuck_1 (by decide +kernel) ?_
  refine g_aload_n K 0 dL_setStuck_2 rfl ?_
  refine g_iload_n K 1 dL_setStuck_3 rfl ?_
  refine g_iload_n K 2 dL_setStuck_4 rfl ?_
  refine g_callVx (q := 0) (ci := 5) (As := [.int (nI (p0)), .int (nI (p1))]) (rest := [.int (nI (0)), .ref o]) (C := RX5) (U := TX5) (N := 5) K hT hM (cwV 2 K.1.2.2.2.2 gL_setStuck_X5_setStuck rfl hc hs (by decide +kernel) ⟨by rw [hR]; show rm.frames + 1 ≤ 8; omega, by rw [hR]; show 8 + (3 + 11) + rm.locals ≤ 200; omega⟩) (by rw [h0, hR]; exact Nat.le_of_ble_eq_true rfl) (by rw [h1, hR]; exact Nat.le_of_ble_eq_true rfl) rfl rfl rfl rfl (Nat.le_of_ble_eq_true rfl) dL_setStuck_5 ?_
  refine g_catch (own := RL) (name := IOB) K [] ⟨0, 17, 20, 19⟩ [] htab (fun z hz => absurd hz List.not_mem_nil) (by decide) (by decide) (K.1.2.2.2.2 (.classLink RL 19 IOB) (by decide +kernel)) (gT_cast hT bad_IOB _) hex (fun q => ?_)
  show gG (gY X _ _ _) 20 _ [.ref q] S1
  have K := gY_ok K (oc o (gz_L (g_z X)) O) (a := g_ce X + 1) (b := g_sl X + 6) (by rw [h0, hR]; exact Nat.le_of_ble_eq_true rfl) (by rw [h1, hR]; exact Nat.le_of_ble_eq_true rfl)
  refine g_astore (lo' := [(4, .ref q), (0, .ref (g_ad X 0)), (1, .int (nI (p0))), (2, .int (nI (p1))), (3, .ref o)]) K dL_setStuck_20 (by decide) rfl ?_
  refine g_iconst K 1 dL_setStuck_22 (by decide +kernel) ?_
  exact hret _ _ _ _ (by rw [h0]; exact Nat.le_refl _) (by rw [h1]; exact Nat.le_refl _) dL_setStuck_23

set_option maxHeartbeats 4000000 in
set_option maxRecDepth 100000 in
theorem hL_turn_n (Z : gZ) (S S1 : Nat → Nat → Nat) (p0 p1 v o : Nat) (O : Nat → Int64) (hex : gz_ex Z = oc o (gz_L Z) O) (rm : Room) (hc : rm.cells = 0) (hs : rm.slots = 0) (hf : rm.frames ≤ 7) (hl : rm.locals ≤ 155) (hv : v < 4294967296) (hM : gMd Z yX5_turn wsX5_turn rm [.ref (gz_ad Z 0), .int (nI p0), .int (nI p1)] S v S1) : gMh Z yL_turn wsL_turn rmH [.ref (gz_ad Z 0), .int (nI p0), .int (nI p1), .ref o] S 0 S1 (oc o (gz_L Z) (vp_updL O 0 (bL v))) := by
  refine gMh_of (cc := cL_turn) (maxL := 5) (hh := [(0, 17, 20, 19), (0, 17, 24, 13)]) (by decide +kernel) rfl rfl (Nat.le_of_ble_eq_true rfl) (fun X hZ hR K hT hC htab h0 h1 hret => ?_)
  subst hZ
  have K : gOk X cL_turn 5 wsL_turn RL := K
  show gG X 0 [(0, .ref (g_ad X 0)), (1, .int (nI (p0))), (2, .int (nI (p1))), (3, .ref o)] [] S
  refine g_aload_n K 3 dL_turn_0 rfl ?_
  refine g_iconst K 0 dL_turn_1 (by decide +kernel) ?_
  refine g_aload_n K 0 dL_turn_2 rfl ?_
  refine g_iload_n K 1 dL_turn_3 rfl ?_
  refine g_iload_n K 2 dL_turn_4 rfl ?_
  refine g_callVd (q := 0) (ci := 5) (As := [.int (nI (p0)), .int (nI (p1))]) (rest := [.int (nI (0)), .ref o]) (C := RX5) (T := TX5) (N := 5) K hM (cwV 2 K.1.2.2.2.2 gL_turn_X5_turn rfl hc hs (by decide +kernel) ⟨by rw [hR]; show rm.frames + 1 ≤ 8; omega, by rw [hR]; show 8 + (3 + 11) + rm.locals ≤ 200; omega⟩) rfl rfl rfl rfl (Nat.le_of_ble_eq_true rfl) dL_turn_5 ?_
  refine g_boolL (t1 := 15) (t2 := 16) K hv dL_turn_8 (by decide) dL_turn_11 dL_turn_12 (by decide) dL_turn_15 rfl ?_
  refine g_last K hex dL_turn_16 ?_
  have K := gY_ok K (oc o (gz_L (g_z X)) (vp_updL O 0 (bL v))) (a := g_ce X) (b := g_sl X) (by rw [h0]; exact Nat.zero_le _) (by rw [h1]; exact Nat.zero_le _)
  refine g_goto (tgt := 28) K dL_turn_17 (by decide) ?_
  refine g_iconst K 0 dL_turn_28 (by decide +kernel) ?_
  exact hret _ _ _ _ (by rw [h0]; exact Nat.zero_le _) (by rw [h1]; exact Nat.zero_le _) dL_turn_29

set_option maxHeartbeats 4000000 in
set_option maxRecDepth 100000 in
theorem hL_turn_x1 (Z : gZ) (S S1 : Nat → Nat → Nat) (p0 p1 o : Nat) (O : Nat → Int64) (hex : gz_ex Z = oc o (gz_L Z) O) (rm : Room) (hc : rm.cells = 1) (hs : rm.slots = 6) (hf : rm.frames ≤ 7) (hl : rm.locals ≤ 155) (hM : gMx Z yX5_turn wsX5_turn rm [.ref (gz_ad Z 0), .int (nI p0), .int (nI p1)] S S1 IOB) : gMh Z yL_turn wsL_turn rmH [.ref (gz_ad Z 0), .int (nI p0), .int (nI p1), .ref o] S 1 S1 (oc o (gz_L Z) O) := by
  refine gMh_of (cc := cL_turn) (maxL := 5) (hh := [(0, 17, 20, 19), (0, 17, 24, 13)]) (by decide +kernel) rfl rfl (Nat.le_of_ble_eq_true rfl) (fun X hZ hR K hT hC htab h0 h1 hret => ?_)
  subst hZ
  have K : gOk X cL_turn 5 wsL_turn RL := K
  show gG X 0 [(0, .ref (g_ad X 0)), (1, .int (nI (p0))), (2, .int (nI (p1))), (3, .ref o)] [] S
  refine g_aload_n K 3 dL_turn_0 rfl ?_
  refine g_iconst K 0 dL_turn_1 (by decide +kernel) ?_
  refine g_aload_n K 0 dL_turn_2 rfl ?_
  refine g_iload_n K 1 dL_turn_3 rfl ?_
  refine g_iload_n K 2 dL_turn_4 rfl ?_
  refine g_callVx (q := 0) (ci := 5) (As := [.int (nI (p0)), .int (nI (p1))]) (rest := [.int (nI (0)), .ref o]) (C := RX5) (U := TX5) (N := 5) K hT hM (cwV 2 K.1.2.2.2.2 gL_turn_X5_turn rfl hc hs (by decide +kernel) ⟨by rw [hR]; show rm.frames + 1 ≤ 8; omega, by rw [hR]; show 8 + (3 + 11) + rm.locals ≤ 200; omega⟩) (by rw [h0, hR]; exact Nat.le_of_ble_eq_true rfl) (by rw [h1, hR]; exact Nat.le_of_ble_eq_true rfl) rfl rfl rfl rfl (Nat.le_of_ble_eq_true rfl) dL_turn_5 ?_
  refine g_catch (own := RL) (name := IOB) K [] ⟨0, 17, 20, 19⟩ [⟨0, 17, 24, 13⟩] htab (fun z hz => absurd hz List.not_mem_nil) (by decide) (by decide) (K.1.2.2.2.2 (.classLink RL 19 IOB) (by decide +kernel)) (gT_cast hT bad_IOB _) hex (fun q => ?_)
  show gG (gY X _ _ _) 20 _ [.ref q] S1
  have K := gY_ok K (oc o (gz_L (g_z X)) O) (a := g_ce X + 1) (b := g_sl X + 6) (by rw [h0, hR]; exact Nat.le_of_ble_eq_true rfl) (by rw [h1, hR]; exact Nat.le_of_ble_eq_true rfl)
  refine g_astore (lo' := [(4, .ref q), (0, .ref (g_ad X 0)), (1, .int (nI (p0))), (2, .int (nI (p1))), (3, .ref o)]) K dL_turn_20 (by decide) rfl ?_
  refine g_iconst K 1 dL_turn_22 (by decide +kernel) ?_
  exact hret _ _ _ _ (by rw [h0]; exact Nat.le_refl _) (by rw [h1]; exact Nat.le_refl _) dL_turn_23

set_option maxHeartbeats 4000000 in
set_option maxRecDepth 100000 in
theorem hL_turn_x2 (Z : gZ) (S S1 : Nat → Nat → Nat) (p0 p1 o : Nat) (O : Nat → Int64) (hex : gz_ex Z = oc o (gz_L Z) O) (rm : Room) (hc : rm.cells = 1) (hs : rm.slots = 6) (hf : rm.frames ≤ 7) (hl : rm.locals ≤ 155) (hM : gMx Z yX5_turn wsX5_turn rm [.ref (gz_ad Z 0), .int (nI p0), .int (nI p1)] S S1 ISE) : gMh Z yL_turn wsL_turn rmH [.ref (gz_ad Z 0), .int (nI p0), .int (nI p1), .ref o] S 2 S1 (oc o (gz_L Z) O) := by
  refine gMh_of (cc := cL_turn) (maxL := 5) (hh := [(0, 17, 20, 19), (0, 17, 24, 13)]) (by decide +kernel) rfl rfl (Nat.le_of_ble_eq_true rfl) (fun X hZ hR K hT hC htab h0 h1 hret => ?_)
  subst hZ
  have K : gOk X cL_turn 5 wsL_turn RL := K
  show gG X 0 [(0, .ref (g_ad X 0)), (1, .int (nI (p0))), (2, .int (nI (p1))), (3, .ref o)] [] S
  refine g_aload_n K 3 dL_turn_0 rfl ?_
  refine g_iconst K 0 dL_turn_1 (by decide +kernel) ?_
  refine g_aload_n K 0 dL_turn_2 rfl ?_
  refine g_iload_n K 1 dL_turn_3 rfl ?_
  refine g_iload_n K 2 dL_turn_4 rfl ?_
  refine g_callVx (q := 0) (ci := 5) (As := [.int (nI (p0)), .int (nI (p1))]) (rest := [.int (nI (0)), .ref o]) (C := RX5) (U := TX5) (N := 5) K hT hM (cwV 2 K.1.2.2.2.2 gL_turn_X5_turn rfl hc hs (by decide +kernel) ⟨by rw [hR]; show rm.frames + 1 ≤ 8; omega, by rw [hR]; show 8 + (3 + 11) + rm.locals ≤ 200; omega⟩) (by rw [h0, hR]; exact Nat.le_of_ble_eq_true rfl) (by rw [h1, hR]; exact Nat.le_of_ble_eq_true rfl) rfl rfl rfl rfl (Nat.le_of_ble_eq_true rfl) dL_turn_5 ?_
  refine g_catch (own := RL) (name := ISE) K [⟨0, 17, 20, 19⟩] ⟨0, 17, 24, 13⟩ [] htab (fun z hz => by
    simp only [List.mem_cons, List.not_mem_nil, or_false] at hz
    subst hz
    exact Or.inr ⟨by decide, IOB, K.1.2.2.2.2 (.classLink RL 19 IOB) (by decide +kernel), hC.1⟩) (by decide) (by decide) (K.1.2.2.2.2 (.classLink RL 13 ISE) (by decide +kernel)) (gT_cast hT bad_ISE _) hex (fun q => ?_)
  show gG (gY X _ _ _) 24 _ [.ref q] S1
  have K := gY_ok K (oc o (gz_L (g_z X)) O) (a := g_ce X + 1) (b := g_sl X + 6) (by rw [h0, hR]; exact Nat.le_of_ble_eq_true rfl) (by rw [h1, hR]; exact Nat.le_of_ble_eq_true rfl)
  refine g_astore (lo' := [(4, .ref q), (0, .ref (g_ad X 0)), (1, .int (nI (p0))), (2, .int (nI (p1))), (3, .ref o)]) K dL_turn_24 (by decide) rfl ?_
  refine g_iconst K 2 dL_turn_26 (by decide +kernel) ?_
  exact hret _ _ _ _ (by rw [h0]; exact Nat.le_refl _) (by rw [h1]; exact Nat.le_refl _) dL_turn_27

set_option maxHeartbeats 4000000 in
set_option maxRecDepth 100000 in
theorem hL_isNodeDry_n (Z : gZ) (S S1 : Nat → Nat → Nat) (p0 v o : Nat) (O : Nat → Int64) (hex : gz_ex Z = oc o (gz_L Z) O) (rm : Room) (hc : rm.cells = 0) (hs : rm.slots = 0) (hf : rm.frames ≤ 7) (hl : rm.locals ≤ 155) (hv : v < 4294967296) (hM : gMd Z yX5_isNodeDry wsX5_isNodeDry rm [.ref (gz_ad Z 0), .int (nI p0)] S v S1) : gMh Z yL_isNodeDry wsL_isNodeDry rmH [.ref (gz_ad Z 0), .int (nI p0), .ref o] S 0 S1 (oc o (gz_L Z) (vp_updL O 0 (bL v))) := by
  refine gMh_of (cc := cL_isNodeDry) (maxL := 4) (hh := [(0, 16, 19, 19)]) (by decide +kernel) rfl rfl (Nat.le_of_ble_eq_true rfl) (fun X hZ hR K hT hC htab h0 h1 hret => ?_)
  subst hZ
  have K : gOk X cL_isNodeDry 4 wsL_isNodeDry RL := K
  show gG X 0 [(0, .ref (g_ad X 0)), (1, .int (nI (p0))), (2, .ref o)] [] S
  refine g_aload_n K 2 dL_isNodeDry_0 rfl ?_
  refine g_iconst K 0 dL_isNodeDry_1 (by decide +kernel) ?_
  refine g_aload_n K 0 dL_isNodeDry_2 rfl ?_
  refine g_iload_n K 1 dL_isNodeDry_3 rfl ?_
  refine g_callVd (q := 0) (ci := 5) (As := [.int (nI (p0))]) (rest := [.int (nI (0)), .ref o]) (C := RX5) (T := TX5) (N := 5) K hM (cwV 1 K.1.2.2.2.2 gL_isNodeDry_X5_isNodeDry rfl hc hs (by decide +kernel) ⟨by rw [hR]; show rm.frames + 1 ≤ 8; omega, by rw [hR]; show 8 + (2 + 11) + rm.locals ≤ 200; omega⟩) rfl rfl rfl rfl (Nat.le_of_ble_eq_true rfl) dL_isNodeDry_4 ?_
  refine g_boolL (t1 := 14) (t2 := 15) K hv dL_isNodeDry_7 (by decide) dL_isNodeDry_10 dL_isNodeDry_11 (by decide) dL_isNodeDry_14 rfl ?_
  refine g_last K hex dL_isNodeDry_15 ?_
  have K := gY_ok K (oc o (gz_L (g_z X)) (vp_updL O 0 (bL v))) (a := g_ce X) (b := g_sl X) (by rw [h0]; exact Nat.zero_le _) (by rw [h1]; exact Nat.zero_le _)
  refine g_goto (tgt := 22) K dL_isNodeDry_16 (by decide) ?_
  refine g_iconst K 0 dL_isNodeDry_22 (by decide +kernel) ?_
  exact hret _ _ _ _ (by rw [h0]; exact Nat.zero_le _) (by rw [h1]; exact Nat.zero_le _) dL_isNodeDry_23

set_option maxHeartbeats 4000000 in
set_option maxRecDepth 100000 in
theorem hL_isNodeDry_x1 (Z : gZ) (S S1 : Nat → Nat → Nat) (p0 o : Nat) (O : Nat → Int64) (hex : gz_ex Z = oc o (gz_L Z) O) (rm : Room) (hc : rm.cells = 1) (hs : rm.slots = 6) (hf : rm.frames ≤ 7) (hl : rm.locals ≤ 155) (hM : gMx Z yX5_isNodeDry wsX5_isNodeDry rm [.ref (gz_ad Z 0), .int (nI p0)] S S1 IOB) : gMh Z yL_isNodeDry wsL_isNodeDry rmH [.ref (gz_ad Z 0), .int (nI p0), .ref o] S 1 S1 (oc o (gz_L Z) O) := by
  refine gMh_of (cc := cL_isNodeDry) (maxL := 4) (hh := [(0, 16, 19, 19)]) (by decide +kernel) rfl rfl (Nat.le_of_ble_eq_true rfl) (fun X hZ hR K hT hC htab h0 h1 hret => ?_)
  subst hZ
  have K : gOk X cL_isNodeDry 4 wsL_isNodeDry RL := K
  show gG X 0 [(0, .ref (g_ad X 0)), (1, .int (nI (p0))), (2, .ref o)] [] S
  refine g_aload_n K 2 dL_isNodeDry_0 rfl ?_
  refine g_iconst K 0 dL_isNodeDry_1 (by decide +kernel) ?_
  refine g_aload_n K 0 dL_isNodeDry_2 rfl ?_
  refine g_iload_n K 1 dL_isNodeDry_3 rfl ?_
  refine g_callVx (q := 0) (ci := 5) (As := [.int (nI (p0))]) (rest := [.int (nI (0)), .ref o]) (C := RX5) (U := TX5) (N := 5) K hT hM (cwV 1 K.1.2.2.2.2 gL_isNodeDry_X5_isNodeDry rfl hc hs (by decide +kernel) ⟨by rw [hR]; show rm.frames + 1 ≤ 8; omega, by rw [hR]; show 8 + (2 + 11) + rm.locals ≤ 200; omega⟩) (by rw [h0, hR]; exact Nat.le_of_ble_eq_true rfl) (by rw [h1, hR]; exact Nat.le_of_ble_eq_true rfl) rfl rfl rfl rfl (Nat.le_of_ble_eq_true rfl) dL_isNodeDry_4 ?_
  refine g_catch (own := RL) (name := IOB) K [] ⟨0, 16, 19, 19⟩ [] htab (fun z hz => absurd hz List.not_mem_nil) (by decide) (by decide) (K.1.2.2.2.2 (.classLink RL 19 IOB) (by decide +kernel)) (gT_cast hT bad_IOB _) hex (fun q => ?_)
  show gG (gY X _ _ _) 19 _ [.ref q] S1
  have K := gY_ok K (oc o (gz_L (g_z X)) O) (a := g_ce X + 1) (b := g_sl X + 6) (by rw [h0, hR]; exact Nat.le_of_ble_eq_true rfl) (by rw [h1, hR]; exact Nat.le_of_ble_eq_true rfl)
  refine g_astore_n (lo' := [(3, .ref q), (0, .ref (g_ad X 0)), (1, .int (nI (p0))), (2, .ref o)]) K dL_isNodeDry_19 (by decide) rfl ?_
  refine g_iconst K 1 dL_isNodeDry_20 (by decide +kernel) ?_
  exact hret _ _ _ _ (by rw [h0]; exact Nat.le_refl _) (by rw [h1]; exact Nat.le_refl _) dL_isNodeDry_21

set_option maxHeartbeats 4000000 in
set_option maxRecDepth 100000 in
theorem hL_isPipeDry_n (Z : gZ) (S S1 : Nat → Nat → Nat) (p0 v o : Nat) (O : Nat → Int64) (hex : gz_ex Z = oc o (gz_L Z) O) (rm : Room) (hc : rm.cells = 0) (hs : rm.slots = 0) (hf : rm.frames ≤ 7) (hl : rm.locals ≤ 155) (hv : v < 4294967296) (hM : gMd Z yX5_isPipeDry wsX5_isPipeDry rm [.ref (gz_ad Z 0), .int (nI p0)] S v S1) : gMh Z yL_isPipeDry wsL_isPipeDry rmH [.ref (gz_ad Z 0), .int (nI p0), .ref o] S 0 S1 (oc o (gz_L Z) (vp_updL O 0 (bL v))) := by
  refine gMh_of (cc := cL_isPipeDry) (maxL := 4) (hh := [(0, 16, 19, 19)]) (by decide +kernel) rfl rfl (Nat.le_of_ble_eq_true rfl) (fun X hZ hR K hT hC htab h0 h1 hret => ?_)
  subst hZ
  have K : gOk X cL_isPipeDry 4 wsL_isPipeDry RL := K
  show gG X 0 [(0, .ref (g_ad X 0)), (1, .int (nI (p0))), (2, .ref o)] [] S
  refine g_aload_n K 2 dL_isPipeDry_0 rfl ?_
  refine g_iconst K 0 dL_isPipeDry_1 (by decide +kernel) ?_
  refine g_aload_n K 0 dL_isPipeDry_2 rfl ?_
  refine g_iload_n K 1 dL_isPipeDry_3 rfl ?_
  refine g_callVd (q := 0) (ci := 5) (As := [.int (nI (p0))]) (rest := [.int (nI (0)), .ref o]) (C := RX5) (T := TX5) (N := 5) K hM (cwV 1 K.1.2.2.2.2 gL_isPipeDry_X5_isPipeDry rfl hc hs (by decide +kernel) ⟨by rw [hR]; show rm.frames + 1 ≤ 8; omega, by rw [hR]; show 8 + (2 + 11) + rm.locals ≤ 200; omega⟩) rfl rfl rfl rfl (Nat.le_of_ble_eq_true rfl) dL_isPipeDry_4 ?_
  refine g_boolL (t1 := 14) (t2 := 15) K hv dL_isPipeDry_7 (by decide) dL_isPipeDry_10 dL_isPipeDry_11 (by decide) dL_isPipeDry_14 rfl ?_
  refine g_last K hex dL_isPipeDry_15 ?_
  have K := gY_ok K (oc o (gz_L (g_z X)) (vp_updL O 0 (bL v))) (a := g_ce X) (b := g_sl X) (by rw [h0]; exact Nat.zero_le _) (by rw [h1]; exact Nat.zero_le _)
  refine g_goto (tgt := 22) K dL_isPipeDry_16 (by decide) ?_
  refine g_iconst K 0 dL_isPipeDry_22 (by decide +kernel) ?_
  exact hret _ _ _ _ (by rw [h0]; exact Nat.zero_le _) (by rw [h1]; exact Nat.zero_le _) dL_isPipeDry_23

set_option maxHeartbeats 4000000 in
set_option maxRecDepth 100000 in
theorem hL_isPipeDry_x1 (Z : gZ) (S S1 : Nat → Nat → Nat) (p0 o : Nat) (O : Nat → Int64) (hex : gz_ex Z = oc o (gz_L Z) O) (rm : Room) (hc : rm.cells = 1) (hs : rm.slots = 6) (hf : rm.frames ≤ 7) (hl : rm.locals ≤ 155) (hM : gMx Z yX5_isPipeDry wsX5_isPipeDry rm [.ref (gz_ad Z 0), .int (nI p0)] S S1 IOB) : gMh Z yL_isPipeDry wsL_isPipeDry rmH [.ref (gz_ad Z 0), .int (nI p0), .ref o] S 1 S1 (oc o (gz_L Z) O) := by
  refine gMh_of (cc := cL_isPipeDry) (maxL := 4) (hh := [(0, 16, 19, 19)]) (by decide +kernel) rfl rfl (Nat.le_of_ble_eq_true rfl) (fun X hZ hR K hT hC htab h0 h1 hret => ?_)
  subst hZ
  have K : gOk X cL_isPipeDry 4 wsL_isPipeDry RL := K
  show gG X 0 [(0, .ref (g_ad X 0)), (1, .int (nI (p0))), (2, .ref o)] [] S
  refine g_aload_n K 2 dL_isPipeDry_0 rfl ?_
  refine g_iconst K 0 dL_isPipeDry_1 (by decide +kernel) ?_
  refine g_aload_n K 0 dL_isPipeDry_2 rfl ?_
  refine g_iload_n K 1 dL_isPipeDry_3 rfl ?_
  refine g_callVx (q := 0) (ci := 5) (As := [.int (nI (p0))]) (rest := [.int (nI (0)), .ref o]) (C := RX5) (U := TX5) (N := 5) K hT hM (cwV 1 K.1.2.2.2.2 gL_isPipeDry_X5_isPipeDry rfl hc hs (by decide +kernel) ⟨by rw [hR]; show rm.frames + 1 ≤ 8; omega, by rw [hR]; show 8 + (2 + 11) + rm.locals ≤ 200; omega⟩) (by rw [h0, hR]; exact Nat.le_of_ble_eq_true rfl) (by rw [h1, hR]; exact Nat.le_of_ble_eq_true rfl) rfl rfl rfl rfl (Nat.le_of_ble_eq_true rfl) dL_isPipeDry_4 ?_
  refine g_catch (own := RL) (name := IOB) K [] ⟨0, 16, 19, 19⟩ [] htab (fun z hz => absurd hz List.not_mem_nil) (by decide) (by decide) (K.1.2.2.2.2 (.classLink RL 19 IOB) (by decide +kernel)) (gT_cast hT bad_IOB _) hex (fun q => ?_)
  show gG (gY X _ _ _) 19 _ [.ref q] S1
  have K := gY_ok K (oc o (gz_L (g_z X)) O) (a := g_ce X + 1) (b := g_sl X + 6) (by rw [h0, hR]; exact Nat.le_of_ble_eq_true rfl) (by rw [h1, hR]; exact Nat.le_of_ble_eq_true rfl)
  refine g_astore_n (lo' := [(3, .ref q), (0, .ref (g_ad X 0)), (1, .int (nI (p0))), (2, .ref o)]) K dL_isPipeDry_19 (by decide) rfl ?_
  refine g_iconst K 1 dL_isPipeDry_20 (by decide +kernel) ?_
  exact hret _ _ _ _ (by rw [h0]; exact Nat.le_refl _) (by rw [h1]; exact Nat.le_refl _) dL_isPipeDry_21

set_option maxHeartbeats 4000000 in
set_option maxRecDepth 100000 in
theorem hL_segmentOfNode_n (Z : gZ) (S S1 : Nat → Nat → Nat) (p0 v o : Nat) (O : Nat → Int64) (hex : gz_ex Z = oc o (gz_L Z) O) (rm : Room) (hc : rm.cells = 0) (hs : rm.slots = 0) (hf : rm.frames ≤ 7) (hl : rm.locals ≤ 155) (hM : gMd Z yX5_segmentOfNode wsX5_segmentOfNode rm [.ref (gz_ad Z 0), .int (nI p0)] S v S1) : gMh Z yL_segmentOfNode wsL_segmentOfNode rmH [.ref (gz_ad Z 0), .int (nI p0), .ref o] S 0 S1 (oc o (gz_L Z) (vp_updL O 0 (lI v))) := by
  refine gMh_of (cc := cL_segmentOfNode) (maxL := 4) (hh := [(0, 9, 12, 19)]) (by decide +kernel) rfl rfl (Nat.le_of_ble_eq_true rfl) (fun X hZ hR K hT hC htab h0 h1 hret => ?_)
  subst hZ
  have K : gOk X cL_segmentOfNode 4 wsL_segmentOfNode RL := K
  show gG X 0 [(0, .ref (g_ad X 0)), (1, .int (nI (p0))), (2, .ref o)] [] S
  refine g_aload_n K 2 dL_segmentOfNode_0 rfl ?_
  refine g_iconst K 0 dL_segmentOfNode_1 (by decide +kernel) ?_
  refine g_aload_n K 0 dL_segmentOfNode_2 rfl ?_
  refine g_iload_n K 1 dL_segmentOfNode_3 rfl ?_
  refine g_callVd (q := 0) (ci := 5) (As := [.int (nI (p0))]) (rest := [.int (nI (0)), .ref o]) (C := RX5) (T := TX5) (N := 5) K hM (cwV 1 K.1.2.2.2.2 gL_segmentOfNode_X5_segmentOfNode rfl hc hs (by decide +kernel) ⟨by rw [hR]; show rm.frames + 1 ≤ 8; omega, by rw [hR]; show 8 + (2 + 11) + rm.locals ≤ 200; omega⟩) rfl rfl rfl rfl (Nat.le_of_ble_eq_true rfl) dL_segmentOfNode_4 ?_
  refine g_i2l K dL_segmentOfNode_7 ?_
  refine g_last K hex dL_segmentOfNode_8 ?_
  have K := gY_ok K (oc o (gz_L (g_z X)) (vp_updL O 0 (lI v))) (a := g_ce X) (b := g_sl X) (by rw [h0]; exact Nat.zero_le _) (by rw [h1]; exact Nat.zero_le _)
  refine g_goto (tgt := 15) K dL_segmentOfNode_9 (by decide) ?_
  refine g_iconst K 0 dL_segmentOfNode_15 (by decide +kernel) ?_
  exact hret _ _ _ _ (by rw [h0]; exact Nat.zero_le _) (by rw [h1]; exact Nat.zero_le _) dL_segmentOfNode_16

set_option maxHeartbeats 4000000 in
set_option maxRecDepth 100000 in
theorem hL_segmentOfNode_x1 (Z : gZ) (S S1 : Nat → Nat → Nat) (p0 o : Nat) (O : Nat → Int64) (hex : gz_ex Z = oc o (gz_L Z) O) (rm : Room) (hc : rm.cells = 1) (hs : rm.slots = 6) (hf : rm.frames ≤ 7) (hl : rm.locals ≤ 155) (hM : gMx Z yX5_segmentOfNode wsX5_segmentOfNode rm [.ref (gz_ad Z 0), .int (nI p0)] S S1 IOB) : gMh Z yL_segmentOfNode wsL_segmentOfNode rmH [.ref (gz_ad Z 0), .int (nI p0), .ref o] S 1 S1 (oc o (gz_L Z) O) := by
  refine gMh_of (cc := cL_segmentOfNode) (maxL := 4) (hh := [(0, 9, 12, 19)]) (by decide +kernel) rfl rfl (Nat.le_of_ble_eq_true rfl) (fun X hZ hR K hT hC htab h0 h1 hret => ?_)
  subst hZ
  have K : gOk X cL_segmentOfNode 4 wsL_segmentOfNode RL := K
  show gG X 0 [(0, .ref (g_ad X 0)), (1, .int (nI (p0))), (2, .ref o)] [] S
  refine g_aload_n K 2 dL_segmentOfNode_0 rfl ?_
  refine g_iconst K 0 dL_segmentOfNode_1 (by decide +kernel) ?_
  refine g_aload_n K 0 dL_segmentOfNode_2 rfl ?_
  refine g_iload_n K 1 dL_segmentOfNode_3 rfl ?_
  refine g_callVx (q := 0) (ci := 5) (As := [.int (nI (p0))]) (rest := [.int (nI (0)), .ref o]) (C := RX5) (U := TX5) (N := 5) K hT hM (cwV 1 K.1.2.2.2.2 gL_segmentOfNode_X5_segmentOfNode rfl hc hs (by decide +kernel) ⟨by rw [hR]; show rm.frames + 1 ≤ 8; omega, by rw [hR]; show 8 + (2 + 11) + rm.locals ≤ 200; omega⟩) (by rw [h0, hR]; exact Nat.le_of_ble_eq_true rfl) (by rw [h1, hR]; exact Nat.le_of_ble_eq_true rfl) rfl rfl rfl rfl (Nat.le_of_ble_eq_true rfl) dL_segmentOfNode_4 ?_
  refine g_catch (own := RL) (name := IOB) K [] ⟨0, 9, 12, 19⟩ [] htab (fun z hz => absurd hz List.not_mem_nil) (by decide) (by decide) (K.1.2.2.2.2 (.classLink RL 19 IOB) (by decide +kernel)) (gT_cast hT bad_IOB _) hex (fun q => ?_)
  show gG (gY X _ _ _) 12 _ [.ref q] S1
  have K := gY_ok K (oc o (gz_L (g_z X)) O) (a := g_ce X + 1) (b := g_sl X + 6) (by rw [h0, hR]; exact Nat.le_of_ble_eq_true rfl) (by rw [h1, hR]; exact Nat.le_of_ble_eq_true rfl)
  refine g_astore_n (lo' := [(3, .ref q), (0, .ref (g_ad X 0)), (1, .int (nI (p0))), (2, .ref o)]) K dL_segmentOfNode_12 (by decide) rfl ?_
  refine g_iconst K 1 dL_segmentOfNode_13 (by decide +kernel) ?_
  exact hret _ _ _ _ (by rw [h0]; exact Nat.le_refl _) (by rw [h1]; exact Nat.le_refl _) dL_segmentOfNode_14

set_option maxHeartbeats 4000000 in
set_option maxRecDepth 100000 in
theorem hL_segmentOfPipe_n (Z : gZ) (S S1 : Nat → Nat → Nat) (p0 v o : Nat) (O : Nat → Int64) (hex : gz_ex Z = oc o (gz_L Z) O) (rm : Room) (hc : rm.cells = 0) (hs : rm.slots = 0) (hf : rm.frames ≤ 7) (hl : rm.locals ≤ 155) (hM : gMd Z yX5_segmentOfPipe wsX5_segmentOfPipe rm [.ref (gz_ad Z 0), .int (nI p0)] S v S1) : gMh Z yL_segmentOfPipe wsL_segmentOfPipe rmH [.ref (gz_ad Z 0), .int (nI p0), .ref o] S 0 S1 (oc o (gz_L Z) (vp_updL O 0 (lI v))) := by
  refine gMh_of (cc := cL_segmentOfPipe) (maxL := 4) (hh := [(0, 9, 12, 19)]) (by decide +kernel) rfl rfl (Nat.le_of_ble_eq_true rfl) (fun X hZ hR K hT hC htab h0 h1 hret => ?_)
  subst hZ
  have K : gOk X cL_segmentOfPipe 4 wsL_segmentOfPipe RL := K
  show gG X 0 [(0, .ref (g_ad X 0)), (1, .int (nI (p0))), (2, .ref o)] [] S
  refine g_aload_n K 2 dL_segmentOfPipe_0 rfl ?_
  refine g_iconst K 0 dL_segmentOfPipe_1 (by decide +kernel) ?_
  refine g_aload_n K 0 dL_segmentOfPipe_2 rfl ?_
  refine g_iload_n K 1 dL_segmentOfPipe_3 rfl ?_
  refine g_callVd (q := 0) (ci := 5) (As := [.int (nI (p0))]) (rest := [.int (nI (0)), .ref o]) (C := RX5) (T := TX5) (N := 5) K hM (cwV 1 K.1.2.2.2.2 gL_segmentOfPipe_X5_segmentOfPipe rfl hc hs (by decide +kernel) ⟨by rw [hR]; show rm.frames + 1 ≤ 8; omega, by rw [hR]; show 8 + (2 + 11) + rm.locals ≤ 200; omega⟩) rfl rfl rfl rfl (Nat.le_of_ble_eq_true rfl) dL_segmentOfPipe_4 ?_
  refine g_i2l K dL_segmentOfPipe_7 ?_
  refine g_last K hex dL_segmentOfPipe_8 ?_
  have K := gY_ok K (oc o (gz_L (g_z X)) (vp_updL O 0 (lI v))) (a := g_ce X) (b := g_sl X) (by rw [h0]; exact Nat.zero_le _) (by rw [h1]; exact Nat.zero_le _)
  refine g_goto (tgt := 15) K dL_segmentOfPipe_9 (by decide) ?_
  refine g_iconst K 0 dL_segmentOfPipe_15 (by decide +kernel) ?_
  exact hret _ _ _ _ (by rw [h0]; exact Nat.zero_le _) (by rw [h1]; exact Nat.zero_le _) dL_segmentOfPipe_16

set_option maxHeartbeats 4000000 in
set_option maxRecDepth 100000 in
theorem hL_segmentOfPipe_x1 (Z : gZ) (S S1 : Nat → Nat → Nat) (p0 o : Nat) (O : Nat → Int64) (hex : gz_ex Z = oc o (gz_L Z) O) (rm : Room) (hc : rm.cells = 1) (hs : rm.slots = 6) (hf : rm.frames ≤ 7) (hl : rm.locals ≤ 155) (hM : gMx Z yX5_segmentOfPipe wsX5_segmentOfPipe rm [.ref (gz_ad Z 0), .int (nI p0)] S S1 IOB) : gMh Z yL_segmentOfPipe wsL_segmentOfPipe rmH [.ref (gz_ad Z 0), .int (nI p0), .ref o] S 1 S1 (oc o (gz_L Z) O) := by
  refine gMh_of (cc := cL_segmentOfPipe) (maxL := 4) (hh := [(0, 9, 12, 19)]) (by decide +kernel) rfl rfl (Nat.le_of_ble_eq_true rfl) (fun X hZ hR K hT hC htab h0 h1 hret => ?_)
  subst hZ
  have K : gOk X cL_segmentOfPipe 4 wsL_segmentOfPipe RL := K
  show gG X 0 [(0, .ref (g_ad X 0)), (1, .int (nI (p0))), (2, .ref o)] [] S
  refine g_aload_n K 2 dL_segmentOfPipe_0 rfl ?_
  refine g_iconst K 0 dL_segmentOfPipe_1 (by decide +kernel) ?_
  refine g_aload_n K 0 dL_segmentOfPipe_2 rfl ?_
  refine g_iload_n K 1 dL_segmentOfPipe_3 rfl ?_
  refine g_callVx (q := 0) (ci := 5) (As := [.int (nI (p0))]) (rest := [.int (nI (0)), .ref o]) (C := RX5) (U := TX5) (N := 5) K hT hM (cwV 1 K.1.2.2.2.2 gL_segmentOfPipe_X5_segmentOfPipe rfl hc hs (by decide +kernel) ⟨by rw [hR]; show rm.frames + 1 ≤ 8; omega, by rw [hR]; show 8 + (2 + 11) + rm.locals ≤ 200; omega⟩) (by rw [h0, hR]; exact Nat.le_of_ble_eq_true rfl) (by rw [h1, hR]; exact Nat.le_of_ble_eq_true rfl) rfl rfl rfl rfl (Nat.le_of_ble_eq_true rfl) dL_segmentOfPipe_4 ?_
  refine g_catch (own := RL) (name := IOB) K [] ⟨0, 9, 12, 19⟩ [] htab (fun z hz => absurd hz List.not_mem_nil) (by decide) (by decide) (K.1.2.2.2.2 (.classLink RL 19 IOB) (by decide +kernel)) (gT_cast hT bad_IOB _) hex (fun q => ?_)
  show gG (gY X _ _ _) 12 _ [.ref q] S1
  have K := gY_ok K (oc o (gz_L (g_z X)) O) (a := g_ce X + 1) (b := g_sl X + 6) (by rw [h0, hR]; exact Nat.le_of_ble_eq_true rfl) (by rw [h1, hR]; exact Nat.le_of_ble_eq_true rfl)
  refine g_astore_n (lo' := [(3, .ref q), (0, .ref (g_ad X 0)), (1, .int (nI (p0))), (2, .ref o)]) K dL_segmentOfPipe_12 (by decide) rfl ?_
  refine g_iconst K 1 dL_segmentOfPipe_13 (by decide +kernel) ?_
  exact hret _ _ _ _ (by rw [h0]; exact Nat.le_refl _) (by rw [h1]; exact Nat.le_refl _) dL_segmentOfPipe_14

set_option maxHeartbeats 4000000 in
set_option maxRecDepth 100000 in
theorem hL_segmentByMerging_n (Z : gZ) (S S1 : Nat → Nat → Nat) (p0 v o : Nat) (O : Nat → Int64) (hex : gz_ex Z = oc o (gz_L Z) O) (rm : Room) (hc : rm.cells = 0) (hs : rm.slots = 0) (hf : rm.frames ≤ 7) (hl : rm.locals ≤ 155) (hM : gMd Z yX5_segmentByMerging wsX5_segmentByMerging rm [.ref (gz_ad Z 0), .int (nI p0)] S v S1) : gMh Z yL_segmentByMerging wsL_segmentByMerging rmH [.ref (gz_ad Z 0), .int (nI p0), .ref o] S 0 S1 (oc o (gz_L Z) (vp_updL O 0 (lI v))) := by
  refine gMh_of (cc := cL_segmentByMerging) (maxL := 4) (hh := [(0, 9, 12, 19)]) (by decide +kernel) rfl rfl (Nat.le_of_ble_eq_true rfl) (fun X hZ hR K hT hC htab h0 h1 hret => ?_)
  subst hZ
  have K : gOk X cL_segmentByMerging 4 wsL_segmentByMerging RL := K
  show gG X 0 [(0, .ref (g_ad X 0)), (1, .int (nI (p0))), (2, .ref o)] [] S
  refine g_aload_n K 2 dL_segmentByMerging_0 rfl ?_
  refine g_iconst K 0 dL_segmentByMerging_1 (by decide +kernel) ?_
  refine g_aload_n K 0 dL_segmentByMerging_2 rfl ?_
  refine g_iload_n K 1 dL_segmentByMerging_3 rfl ?_
  refine g_callVd (q := 0) (ci := 5) (As := [.int (nI (p0))]) (rest := [.int (nI (0)), .ref o]) (C := RX5) (T := TX5) (N := 5) K hM (cwV 1 K.1.2.2.2.2 gL_segmentByMerging_X5_segmentByMerging rfl hc hs (by decide +kernel) ⟨by rw [hR]; show rm.frames + 1 ≤ 8; omega, by rw [hR]; show 8 + (2 + 11) + rm.locals ≤ 200; omega⟩) rfl rfl rfl rfl (Nat.le_of_ble_eq_true rfl) dL_segmentByMerging_4 ?_
  refine g_i2l K dL_segmentByMerging_7 ?_
  refine g_last K hex dL_segmentByMerging_8 ?_
  have K := gY_ok K (oc o (gz_L (g_z X)) (vp_updL O 0 (lI v))) (a := g_ce X) (b := g_sl X) (by rw [h0]; exact Nat.zero_le _) (by rw [h1]; exact Nat.zero_le _)
  refine g_goto (tgt := 15) K dL_segmentByMerging_9 (by decide) ?_
  refine g_iconst K 0 dL_segmentByMerging_15 (by decide +kernel) ?_
  exact hret _ _ _ _ (by rw [h0]; exact Nat.zero_le _) (by rw [h1]; exact Nat.zero_le _) dL_segmentByMerging_16

set_option maxHeartbeats 4000000 in
set_option maxRecDepth 100000 in
theorem hL_segmentByMerging_x1 (Z : gZ) (S S1 : Nat → Nat → Nat) (p0 o : Nat) (O : Nat → Int64) (hex : gz_ex Z = oc o (gz_L Z) O) (rm : Room) (hc : rm.cells = 1) (hs : rm.slots = 6) (hf : rm.frames ≤ 7) (hl : rm.locals ≤ 155) (hM : gMx Z yX5_segmentByMerging wsX5_segmentByMerging rm [.ref (gz_ad Z 0), .int (nI p0)] S S1 IOB) : gMh Z yL_segmentByMerging wsL_segmentByMerging rmH [.ref (gz_ad Z 0), .int (nI p0), .ref o] S 1 S1 (oc o (gz_L Z) O) := by
  refine gMh_of (cc := cL_segmentByMerging) (maxL := 4) (hh := [(0, 9, 12, 19)]) (by decide +kernel) rfl rfl (Nat.le_of_ble_eq_true rfl) (fun X hZ hR K hT hC htab h0 h1 hret => ?_)
  subst hZ
  have K : gOk X cL_segmentByMerging 4 wsL_segmentByMerging RL := K
  show gG X 0 [(0, .ref (g_ad X 0)), (1, .int (nI (p0))), (2, .ref o)] [] S
  refine g_aload_n K 2 dL_segmentByMerging_0 rfl ?_
  refine g_iconst K 0 dL_segmentByMerging_1 (by decide +kernel) ?_
  refine g_aload_n K 0 dL_segmentByMerging_2 rfl ?_
  refine g_iload_n K 1 dL_segmentByMerging_3 rfl ?_
  refine g_callVx (q := 0) (ci := 5) (As := [.int (nI (p0))]) (rest := [.int (nI (0)), .ref o]) (C := RX5) (U := TX5) (N := 5) K hT hM (cwV 1 K.1.2.2.2.2 gL_segmentByMerging_X5_segmentByMerging rfl hc hs (by decide +kernel) ⟨by rw [hR]; show rm.frames + 1 ≤ 8; omega, by rw [hR]; show 8 + (2 + 11) + rm.locals ≤ 200; omega⟩) (by rw [h0, hR]; exact Nat.le_of_ble_eq_true rfl) (by rw [h1, hR]; exact Nat.le_of_ble_eq_true rfl) rfl rfl rfl rfl (Nat.le_of_ble_eq_true rfl) dL_segmentByMerging_4 ?_
  refine g_catch (own := RL) (name := IOB) K [] ⟨0, 9, 12, 19⟩ [] htab (fun z hz => absurd hz List.not_mem_nil) (by decide) (by decide) (K.1.2.2.2.2 (.classLink RL 19 IOB) (by decide +kernel)) (gT_cast hT bad_IOB _) hex (fun q => ?_)
  show gG (gY X _ _ _) 12 _ [.ref q] S1
  have K := gY_ok K (oc o (gz_L (g_z X)) O) (a := g_ce X + 1) (b := g_sl X + 6) (by rw [h0, hR]; exact Nat.le_of_ble_eq_true rfl) (by rw [h1, hR]; exact Nat.le_of_ble_eq_true rfl)
  refine g_astore_n (lo' := [(3, .ref q), (0, .ref (g_ad X 0)), (1, .int (nI (p0))), (2, .ref o)]) K dL_segmentByMerging_12 (by decide) rfl ?_
  refine g_iconst K 1 dL_segmentByMerging_13 (by decide +kernel) ?_
  exact hret _ _ _ _ (by rw [h0]; exact Nat.le_refl _) (by rw [h1]; exact Nat.le_refl _) dL_segmentByMerging_14

set_option maxHeartbeats 4000000 in
set_option maxRecDepth 100000 in
theorem hL_ring_n (Z : gZ) (S S1 : Nat → Nat → Nat) (p0 v o : Nat) (O : Nat → Int64) (hex : gz_ex Z = oc o (gz_L Z) O) (rm : Room) (hc : rm.cells = 0) (hs : rm.slots = 0) (hf : rm.frames ≤ 7) (hl : rm.locals ≤ 155) (hM : gMd Z yX5_ring wsX5_ring rm [.ref (gz_ad Z 0), .int (nI p0)] S v S1) : gMh Z yL_ring wsL_ring rmH [.ref (gz_ad Z 0), .int (nI p0), .ref o] S 0 S1 (oc o (gz_L Z) (vp_updL O 0 (lI v))) := by
  refine gMh_of (cc := cL_ring) (maxL := 4) (hh := [(0, 9, 12, 19), (0, 9, 15, 13)]) (by decide +kernel) rfl rfl (Nat.le_of_ble_eq_true rfl) (fun X hZ hR K hT hC htab h0 h1 hret => ?_)
  subst hZ
  have K : gOk X cL_ring 4 wsL_ring RL := K
  show gG X 0 [(0, .ref (g_ad X 0)), (1, .int (nI (p0))), (2, .ref o)] [] S
  refine g_aload_n K 2 dL_ring_0 rfl ?_
  refine g_iconst K 0 dL_ring_1 (by decide +kernel) ?_
  refine g_aload_n K 0 dL_ring_2 rfl ?_
  refine g_iload_n K 1 dL_ring_3 rfl ?_
  refine g_callVd (q := 0) (ci := 5) (As := [.int (nI (p0))]) (rest := [.int (nI (0)), .ref o]) (C := RX5) (T := TX5) (N := 5) K hM (cwV 1 K.1.2.2.2.2 gL_ring_X5_ring rfl hc hs (by decide +kernel) ⟨by rw [hR]; show rm.frames + 1 ≤ 8; omega, by rw [hR]; show 8 + (2 + 11) + rm.locals ≤ 200; omega⟩) rfl rfl rfl rfl (Nat.le_of_ble_eq_true rfl) dL_ring_4 ?_
  refine g_i2l K dL_ring_7 ?_
  refine g_last K hex dL_ring_8 ?_
  have K := gY_ok K (oc o (gz_L (g_z X)) (vp_updL O 0 (lI v))) (a := g_ce X) (b := g_sl X) (by rw [h0]; exact Nat.zero_le _) (by rw [h1]; exact Nat.zero_le _)
  refine g_goto (tgt := 18) K dL_ring_9 (by decide) ?_
  refine g_iconst K 0 dL_ring_18 (by decide +kernel) ?_
  exact hret _ _ _ _ (by rw [h0]; exact Nat.zero_le _) (by rw [h1]; exact Nat.zero_le _) dL_ring_19

set_option maxHeartbeats 4000000 in
set_option maxRecDepth 100000 in
theorem hL_ring_x1 (Z : gZ) (S S1 : Nat → Nat → Nat) (p0 o : Nat) (O : Nat → Int64) (hex : gz_ex Z = oc o (gz_L Z) O) (rm : Room) (hc : rm.cells = 1) (hs : rm.slots = 6) (hf : rm.frames ≤ 7) (hl : rm.locals ≤ 155) (hM : gMx Z yX5_ring wsX5_ring rm [.ref (gz_ad Z 0), .int (nI p0)] S S1 IOB) : gMh Z yL_ring wsL_ring rmH [.ref (gz_ad Z 0), .int (nI p0), .ref o] S 1 S1 (oc o (gz_L Z) O) := by
  refine gMh_of (cc := cL_ring) (maxL := 4) (hh := [(0, 9, 12, 19), (0, 9, 15, 13)]) (by decide +kernel) rfl rfl (Nat.le_of_ble_eq_true rfl) (fun X hZ hR K hT hC htab h0 h1 hret => ?_)
  subst hZ
  have K : gOk X cL_ring 4 wsL_ring RL := K
  show gG X 0 [(0, .ref (g_ad X 0)), (1, .int (nI (p0))), (2, .ref o)] [] S
  refine g_aload_n K 2 dL_ring_0 rfl ?_
  refine g_iconst K 0 dL_ring_1 (by decide +kernel) ?_
  refine g_aload_n K 0 dL_ring_2 rfl ?_
  refine g_iload_n K 1 dL_ring_3 rfl ?_
  refine g_callVx (q := 0) (ci := 5) (As := [.int (nI (p0))]) (rest := [.int (nI (0)), .ref o]) (C := RX5) (U := TX5) (N := 5) K hT hM (cwV 1 K.1.2.2.2.2 gL_ring_X5_ring rfl hc hs (by decide +kernel) ⟨by rw [hR]; show rm.frames + 1 ≤ 8; omega, by rw [hR]; show 8 + (2 + 11) + rm.locals ≤ 200; omega⟩) (by rw [h0, hR]; exact Nat.le_of_ble_eq_true rfl) (by rw [h1, hR]; exact Nat.le_of_ble_eq_true rfl) rfl rfl rfl rfl (Nat.le_of_ble_eq_true rfl) dL_ring_4 ?_
  refine g_catch (own := RL) (name := IOB) K [] ⟨0, 9, 12, 19⟩ [⟨0, 9, 15, 13⟩] htab (fun z hz => absurd hz List.not_mem_nil) (by decide) (by decide) (K.1.2.2.2.2 (.classLink RL 19 IOB) (by decide +kernel)) (gT_cast hT bad_IOB _) hex (fun q => ?_)
  show gG (gY X _ _ _) 12 _ [.ref q] S1
  have K := gY_ok K (oc o (gz_L (g_z X)) O) (a := g_ce X + 1) (b := g_sl X + 6) (by rw [h0, hR]; exact Nat.le_of_ble_eq_true rfl) (by rw [h1, hR]; exact Nat.le_of_ble_eq_true rfl)
  refine g_astore_n (lo' := [(3, .ref q), (0, .ref (g_ad X 0)), (1, .int (nI (p0))), (2, .ref o)]) K dL_ring_12 (by decide) rfl ?_
  refine g_iconst K 1 dL_ring_13 (by decide +kernel) ?_
  exact hret _ _ _ _ (by rw [h0]; exact Nat.le_refl _) (by rw [h1]; exact Nat.le_refl _) dL_ring_14

set_option maxHeartbeats 4000000 in
set_option maxRecDepth 100000 in
theorem hL_ring_x2 (Z : gZ) (S S1 : Nat → Nat → Nat) (p0 o : Nat) (O : Nat → Int64) (hex : gz_ex Z = oc o (gz_L Z) O) (rm : Room) (hc : rm.cells = 1) (hs : rm.slots = 6) (hf : rm.frames ≤ 7) (hl : rm.locals ≤ 155) (hM : gMx Z yX5_ring wsX5_ring rm [.ref (gz_ad Z 0), .int (nI p0)] S S1 ISE) : gMh Z yL_ring wsL_ring rmH [.ref (gz_ad Z 0), .int (nI p0), .ref o] S 2 S1 (oc o (gz_L Z) O) := by
  refine gMh_of (cc := cL_ring) (maxL := 4) (hh := [(0, 9, 12, 19), (0, 9, 15, 13)]) (by decide +kernel) rfl rfl (Nat.le_of_ble_eq_true rfl) (fun X hZ hR K hT hC htab h0 h1 hret => ?_)
  subst hZ
  have K : gOk X cL_ring 4 wsL_ring RL := K
  show gG X 0 [(0, .ref (g_ad X 0)), (1, .int (nI (p0))), (2, .ref o)] [] S
  refine g_aload_n K 2 dL_ring_0 rfl ?_
  refine g_iconst K 0 dL_ring_1 (by decide +kernel) ?_
  refine g_aload_n K 0 dL_ring_2 rfl ?_
  refine g_iload_n K 1 dL_ring_3 rfl ?_
  refine g_callVx (q := 0) (ci := 5) (As := [.int (nI (p0))]) (rest := [.int (nI (0)), .ref o]) (C := RX5) (U := TX5) (N := 5) K hT hM (cwV 1 K.1.2.2.2.2 gL_ring_X5_ring rfl hc hs (by decide +kernel) ⟨by rw [hR]; show rm.frames + 1 ≤ 8; omega, by rw [hR]; show 8 + (2 + 11) + rm.locals ≤ 200; omega⟩) (by rw [h0, hR]; exact Nat.le_of_ble_eq_true rfl) (by rw [h1, hR]; exact Nat.le_of_ble_eq_true rfl) rfl rfl rfl rfl (Nat.le_of_ble_eq_true rfl) dL_ring_4 ?_
  refine g_catch (own := RL) (name := ISE) K [⟨0, 9, 12, 19⟩] ⟨0, 9, 15, 13⟩ [] htab (fun z hz => by
    simp only [List.mem_cons, List.not_mem_nil, or_false] at hz
    subst hz
    exact Or.inr ⟨by decide, IOB, K.1.2.2.2.2 (.classLink RL 19 IOB) (by decide +kernel), hC.1⟩) (by decide) (by decide) (K.1.2.2.2.2 (.classLink RL 13 ISE) (by decide +kernel)) (gT_cast hT bad_ISE _) hex (fun q => ?_)
  show gG (gY X _ _ _) 15 _ [.ref q] S1
  have K := gY_ok K (oc o (gz_L (g_z X)) O) (a := g_ce X + 1) (b := g_sl X + 6) (by rw [h0, hR]; exact Nat.le_of_ble_eq_true rfl) (by rw [h1, hR]; exact Nat.le_of_ble_eq_true rfl)
  refine g_astore_n (lo' := [(3, .ref q), (0, .ref (g_ad X 0)), (1, .int (nI (p0))), (2, .ref o)]) K dL_ring_15 (by decide) rfl ?_
  refine g_iconst K 2 dL_ring_16 (by decide +kernel) ?_
  exact hret _ _ _ _ (by rw [h0]; exact Nat.le_refl _) (by rw [h1]; exact Nat.le_refl _) dL_ring_17

set_option maxHeartbeats 4000000 in
set_option maxRecDepth 100000 in
theorem hL_cutOff_n (Z : gZ) (S S1 : Nat → Nat → Nat) (p0 v o : Nat) (O : Nat → Int64) (hex : gz_ex Z = oc o (gz_L Z) O) (rm : Room) (hc : rm.cells = 0) (hs : rm.slots = 0) (hf : rm.frames ≤ 7) (hl : rm.locals ≤ 155) (hM : gMd Z yX5_cutOff wsX5_cutOff rm [.ref (gz_ad Z 0), .int (nI p0)] S v S1) : gMh Z yL_cutOff wsL_cutOff rmH [.ref (gz_ad Z 0), .int (nI p0), .ref o] S 0 S1 (oc o (gz_L Z) (vp_updL O 0 (lI v))) := by
  refine gMh_of (cc := cL_cutOff) (maxL := 4) (hh := [(0, 9, 12, 19), (0, 9, 15, 13)]) (by decide +kernel) rfl rfl (Nat.le_of_ble_eq_true rfl) (fun X hZ hR K hT hC htab h0 h1 hret => ?_)
  subst hZ
  have K : gOk X cL_cutOff 4 wsL_cutOff RL := K
  show gG X 0 [(0, .ref (g_ad X 0)), (1, .int (nI (p0))), (2, .ref o)] [] S
  refine g_aload_n K 2 dL_cutOff_0 rfl ?_
  refine g_iconst K 0 dL_cutOff_1 (by decide +kernel) ?_
  refine g_aload_n K 0 dL_cutOff_2 rfl ?_
  refine g_iload_n K 1 dL_cutOff_3 rfl ?_
  refine g_callVd (q := 0) (ci := 5) (As := [.int (nI (p0))]) (rest := [.int (nI (0)), .ref o]) (C := RX5) (T := TX5) (N := 5) K hM (cwV 1 K.1.2.2.2.2 gL_cutOff_X5_cutOff rfl hc hs (by decide +kernel) ⟨by rw [hR]; show rm.frames + 1 ≤ 8; omega, by rw [hR]; show 8 + (2 + 11) + rm.locals ≤ 200; omega⟩) rfl rfl rfl rfl (Nat.le_of_ble_eq_true rfl) dL_cutOff_4 ?_
  refine g_i2l K dL_cutOff_7 ?_
  refine g_last K hex dL_cutOff_8 ?_
  have K := gY_ok K (oc o (gz_L (g_z X)) (vp_updL O 0 (lI v))) (a := g_ce X) (b := g_sl X) (by rw [h0]; exact Nat.zero_le _) (by rw [h1]; exact Nat.zero_le _)
  refine g_goto (tgt := 18) K dL_cutOff_9 (by decide) ?_
  refine g_iconst K 0 dL_cutOff_18 (by decide +kernel) ?_
  exact hret _ _ _ _ (by rw [h0]; exact Nat.zero_le _) (by rw [h1]; exact Nat.zero_le _) dL_cutOff_19

set_option maxHeartbeats 4000000 in
set_option maxRecDepth 100000 in
theorem hL_cutOff_x1 (Z : gZ) (S S1 : Nat → Nat → Nat) (p0 o : Nat) (O : Nat → Int64) (hex : gz_ex Z = oc o (gz_L Z) O) (rm : Room) (hc : rm.cells = 1) (hs : rm.slots = 6) (hf : rm.frames ≤ 7) (hl : rm.locals ≤ 155) (hM : gMx Z yX5_cutOff wsX5_cutOff rm [.ref (gz_ad Z 0), .int (nI p0)] S S1 IOB) : gMh Z yL_cutOff wsL_cutOff rmH [.ref (gz_ad Z 0), .int (nI p0), .ref o] S 1 S1 (oc o (gz_L Z) O) := by
  refine gMh_of (cc := cL_cutOff) (maxL := 4) (hh := [(0, 9, 12, 19), (0, 9, 15, 13)]) (by decide +kernel) rfl rfl (Nat.le_of_ble_eq_true rfl) (fun X hZ hR K hT hC htab h0 h1 hret => ?_)
  subst hZ
  have K : gOk X cL_cutOff 4 wsL_cutOff RL := K
  show gG X 0 [(0, .ref (g_ad X 0)), (1, .int (nI (p0))), (2, .ref o)] [] S
  refine g_aload_n K 2 dL_cutOff_0 rfl ?_
  refine g_iconst K 0 dL_cutOff_1 (by decide +kernel) ?_
  refine g_aload_n K 0 dL_cutOff_2 rfl ?_
  refine g_iload_n K 1 dL_cutOff_3 rfl ?_
  refine g_callVx (q := 0) (ci := 5) (As := [.int (nI (p0))]) (rest := [.int (nI (0)), .ref o]) (C := RX5) (U := TX5) (N := 5) K hT hM (cwV 1 K.1.2.2.2.2 gL_cutOff_X5_cutOff rfl hc hs (by decide +kernel) ⟨by rw [hR]; show rm.frames + 1 ≤ 8; omega, by rw [hR]; show 8 + (2 + 11) + rm.locals ≤ 200; omega⟩) (by rw [h0, hR]; exact Nat.le_of_ble_eq_true rfl) (by rw [h1, hR]; exact Nat.le_of_ble_eq_true rfl) rfl rfl rfl rfl (Nat.le_of_ble_eq_true rfl) dL_cutOff_4 ?_
  refine g_catch (own := RL) (name := IOB) K [] ⟨0, 9, 12, 19⟩ [⟨0, 9, 15, 13⟩] htab (fun z hz => absurd hz List.not_mem_nil) (by decide) (by decide) (K.1.2.2.2.2 (.classLink RL 19 IOB) (by decide +kernel)) (gT_cast hT bad_IOB _) hex (fun q => ?_)
  show gG (gY X _ _ _) 12 _ [.ref q] S1
  have K := gY_ok K (oc o (gz_L (g_z X)) O) (a := g_ce X + 1) (b := g_sl X + 6) (by rw [h0, hR]; exact Nat.le_of_ble_eq_true rfl) (by rw [h1, hR]; exact Nat.le_of_ble_eq_true rfl)
  refine g_astore_n (lo' := [(3, .ref q), (0, .ref (g_ad X 0)), (1, .int (nI (p0))), (2, .ref o)]) K dL_cutOff_12 (by decide) rfl ?_
  refine g_iconst K 1 dL_cutOff_13 (by decide +kernel) ?_
  exact hret _ _ _ _ (by rw [h0]; exact Nat.le_refl _) (by rw [h1]; exact Nat.le_refl _) dL_cutOff_14

set_option maxHeartbeats 4000000 in
set_option maxRecDepth 100000 in
theorem hL_cutOff_x2 (Z : gZ) (S S1 : Nat → Nat → Nat) (p0 o : Nat) (O : Nat → Int64) (hex : gz_ex Z = oc o (gz_L Z) O) (rm : Room) (hc : rm.cells = 1) (hs : rm.slots = 6) (hf : rm.frames ≤ 7) (hl : rm.locals ≤ 155) (hM : gMx Z yX5_cutOff wsX5_cutOff rm [.ref (gz_ad Z 0), .int (nI p0)] S S1 ISE) : gMh Z yL_cutOff wsL_cutOff rmH [.ref (gz_ad Z 0), .int (nI p0), .ref o] S 2 S1 (oc o (gz_L Z) O) := by
  refine gMh_of (cc := cL_cutOff) (maxL := 4) (hh := [(0, 9, 12, 19), (0, 9, 15, 13)]) (by decide +kernel) rfl rfl (Nat.le_of_ble_eq_true rfl) (fun X hZ hR K hT hC htab h0 h1 hret => ?_)
  subst hZ
  have K : gOk X cL_cutOff 4 wsL_cutOff RL := K
  show gG X 0 [(0, .ref (g_ad X 0)), (1, .int (nI (p0))), (2, .ref o)] [] S
  refine g_aload_n K 2 dL_cutOff_0 rfl ?_
  refine g_iconst K 0 dL_cutOff_1 (by decide +kernel) ?_
  refine g_aload_n K 0 dL_cutOff_2 rfl ?_
  refine g_iload_n K 1 dL_cutOff_3 rfl ?_
  refine g_callVx (q := 0) (ci := 5) (As := [.int (nI (p0))]) (rest := [.int (nI (0)), .ref o]) (C := RX5) (U := TX5) (N := 5) K hT hM (cwV 1 K.1.2.2.2.2 gL_cutOff_X5_cutOff rfl hc hs (by decide +kernel) ⟨by rw [hR]; show rm.frames + 1 ≤ 8; omega, by rw [hR]; show 8 + (2 + 11) + rm.locals ≤ 200; omega⟩) (by rw [h0, hR]; exact Nat.le_of_ble_eq_true rfl) (by rw [h1, hR]; exact Nat.le_of_ble_eq_true rfl) rfl rfl rfl rfl (Nat.le_of_ble_eq_true rfl) dL_cutOff_4 ?_
  refine g_catch (own := RL) (name := ISE) K [⟨0, 9, 12, 19⟩] ⟨0, 9, 15, 13⟩ [] htab (fun z hz => by
    simp only [List.mem_cons, List.not_mem_nil, or_false] at hz
    subst hz
    exact Or.inr ⟨by decide, IOB, K.1.2.2.2.2 (.classLink RL 19 IOB) (by decide +kernel), hC.1⟩) (by decide) (by decide) (K.1.2.2.2.2 (.classLink RL 13 ISE) (by decide +kernel)) (gT_cast hT bad_ISE _) hex (fun q => ?_)
  show gG (gY X _ _ _) 15 _ [.ref q] S1
  have K := gY_ok K (oc o (gz_L (g_z X)) O) (a := g_ce X + 1) (b := g_sl X + 6) (by rw [h0, hR]; exact Nat.le_of_ble_eq_true rfl) (by rw [h1, hR]; exact Nat.le_of_ble_eq_true rfl)
  refine g_astore_n (lo' := [(3, .ref q), (0, .ref (g_ad X 0)), (1, .int (nI (p0))), (2, .ref o)]) K dL_cutOff_15 (by decide) rfl ?_
  refine g_iconst K 2 dL_cutOff_16 (by decide +kernel) ?_
  exact hret _ _ _ _ (by rw [h0]; exact Nat.le_refl _) (by rw [h1]; exact Nat.le_refl _) dL_cutOff_17

set_option maxHeartbeats 4000000 in
set_option maxRecDepth 100000 in
theorem hL_fewest_n (Z : gZ) (S S1 : Nat → Nat → Nat) (p0 v o : Nat) (O : Nat → Int64) (hex : gz_ex Z = oc o (gz_L Z) O) (rm : Room) (hc : rm.cells = 0) (hs : rm.slots = 0) (hf : rm.frames ≤ 7) (hl : rm.locals ≤ 155) (hM : gMd Z yX5_fewest wsX5_fewest rm [.ref (gz_ad Z 0), .int (nI p0)] S v S1) : gMh Z yL_fewest wsL_fewest rmH [.ref (gz_ad Z 0), .int (nI p0), .ref o] S 0 S1 (oc o (gz_L Z) (vp_updL O 0 (lI v))) := by
  refine gMh_of (cc := cL_fewest) (maxL := 4) (hh := [(0, 9, 12, 19)]) (by decide +kernel) rfl rfl (Nat.le_of_ble_eq_true rfl) (fun X hZ hR K hT hC htab h0 h1 hret => ?_)
  subst hZ
  have K : gOk X cL_fewest 4 wsL_fewest RL := K
  show gG X 0 [(0, .ref (g_ad X 0)), (1, .int (nI (p0))), (2, .ref o)] [] S
  refine g_aload_n K 2 dL_fewest_0 rfl ?_
  refine g_iconst K 0 dL_fewest_1 (by decide +kernel) ?_
  refine g_aload_n K 0 dL_fewest_2 rfl ?_
  refine g_iload_n K 1 dL_fewest_3 rfl ?_
  refine g_callVd (q := 0) (ci := 5) (As := [.int (nI (p0))]) (rest := [.int (nI (0)), .ref o]) (C := RX5) (T := TX5) (N := 5) K hM (cwV 1 K.1.2.2.2.2 gL_fewest_X5_fewest rfl hc hs (by decide +kernel) ⟨by rw [hR]; show rm.frames + 1 ≤ 8; omega, by rw [hR]; show 8 + (2 + 11) + rm.locals ≤ 200; omega⟩) rfl rfl rfl rfl (Nat.le_of_ble_eq_true rfl) dL_fewest_4 ?_
  refine g_i2l K dL_fewest_7 ?_
  refine g_last K hex dL_fewest_8 ?_
  have K := gY_ok K (oc o (gz_L (g_z X)) (vp_updL O 0 (lI v))) (a := g_ce X) (b := g_sl X) (by rw [h0]; exact Nat.zero_le _) (by rw [h1]; exact Nat.zero_le _)
  refine g_goto (tgt := 15) K dL_fewest_9 (by decide) ?_
  refine g_iconst K 0 dL_fewest_15 (by decide +kernel) ?_
  exact hret _ _ _ _ (by rw [h0]; exact Nat.zero_le _) (by rw [h1]; exact Nat.zero_le _) dL_fewest_16

set_option maxHeartbeats 4000000 in
set_option maxRecDepth 100000 in
theorem hL_fewest_x1 (Z : gZ) (S S1 : Nat → Nat → Nat) (p0 o : Nat) (O : Nat → Int64) (hex : gz_ex Z = oc o (gz_L Z) O) (rm : Room) (hc : rm.cells = 1) (hs : rm.slots = 6) (hf : rm.frames ≤ 7) (hl : rm.locals ≤ 155) (hM : gMx Z yX5_fewest wsX5_fewest rm [.ref (gz_ad Z 0), .int (nI p0)] S S1 IOB) : gMh Z yL_fewest wsL_fewest rmH [.ref (gz_ad Z 0), .int (nI p0), .ref o] S 1 S1 (oc o (gz_L Z) O) := by
  refine gMh_of (cc := cL_fewest) (maxL := 4) (hh := [(0, 9, 12, 19)]) (by decide +kernel) rfl rfl (Nat.le_of_ble_eq_true rfl) (fun X hZ hR K hT hC htab h0 h1 hret => ?_)
  subst hZ
  have K : gOk X cL_fewest 4 wsL_fewest RL := K
  show gG X 0 [(0, .ref (g_ad X 0)), (1, .int (nI (p0))), (2, .ref o)] [] S
  refine g_aload_n K 2 dL_fewest_0 rfl ?_
  refine g_iconst K 0 dL_fewest_1 (by decide +kernel) ?_
  refine g_aload_n K 0 dL_fewest_2 rfl ?_
  refine g_iload_n K 1 dL_fewest_3 rfl ?_
  refine g_callVx (q := 0) (ci := 5) (As := [.int (nI (p0))]) (rest := [.int (nI (0)), .ref o]) (C := RX5) (U := TX5) (N := 5) K hT hM (cwV 1 K.1.2.2.2.2 gL_fewest_X5_fewest rfl hc hs (by decide +kernel) ⟨by rw [hR]; show rm.frames + 1 ≤ 8; omega, by rw [hR]; show 8 + (2 + 11) + rm.locals ≤ 200; omega⟩) (by rw [h0, hR]; exact Nat.le_of_ble_eq_true rfl) (by rw [h1, hR]; exact Nat.le_of_ble_eq_true rfl) rfl rfl rfl rfl (Nat.le_of_ble_eq_true rfl) dL_fewest_4 ?_
  refine g_catch (own := RL) (name := IOB) K [] ⟨0, 9, 12, 19⟩ [] htab (fun z hz => absurd hz List.not_mem_nil) (by decide) (by decide) (K.1.2.2.2.2 (.classLink RL 19 IOB) (by decide +kernel)) (gT_cast hT bad_IOB _) hex (fun q => ?_)
  show gG (gY X _ _ _) 12 _ [.ref q] S1
  have K := gY_ok K (oc o (gz_L (g_z X)) O) (a := g_ce X + 1) (b := g_sl X + 6) (by rw [h0, hR]; exact Nat.le_of_ble_eq_true rfl) (by rw [h1, hR]; exact Nat.le_of_ble_eq_true rfl)
  refine g_astore_n (lo' := [(3, .ref q), (0, .ref (g_ad X 0)), (1, .int (nI (p0))), (2, .ref o)]) K dL_fewest_12 (by decide) rfl ?_
  refine g_iconst K 1 dL_fewest_13 (by decide +kernel) ?_
  exact hret _ _ _ _ (by rw [h0]; exact Nat.le_refl _) (by rw [h1]; exact Nat.le_refl _) dL_fewest_14

set_option maxHeartbeats 4000000 in
set_option maxRecDepth 100000 in
theorem hL_fewestByTrying_n (Z : gZ) (S S1 : Nat → Nat → Nat) (p0 v o : Nat) (O : Nat → Int64) (hex : gz_ex Z = oc o (gz_L Z) O) (rm : Room) (hc : rm.cells = 0) (hs : rm.slots = 0) (hf : rm.frames ≤ 7) (hl : rm.locals ≤ 155) (hM : gMd Z yX5_fewestByTrying wsX5_fewestByTrying rm [.ref (gz_ad Z 0), .int (nI p0)] S v S1) : gMh Z yL_fewestByTrying wsL_fewestByTrying rmH [.ref (gz_ad Z 0), .int (nI p0), .ref o] S 0 S1 (oc o (gz_L Z) (vp_updL O 0 (lI v))) := by
  refine gMh_of (cc := cL_fewestByTrying) (maxL := 4) (hh := [(0, 9, 12, 19)]) (by decide +kernel) rfl rfl (Nat.le_of_ble_eq_true rfl) (fun X hZ hR K hT hC htab h0 h1 hret => ?_)
  subst hZ
  have K : gOk X cL_fewestByTrying 4 wsL_fewestByTrying RL := K
  show gG X 0 [(0, .ref (g_ad X 0)), (1, .int (nI (p0))), (2, .ref o)] [] S
  refine g_aload_n K 2 dL_fewestByTrying_0 rfl ?_
  refine g_iconst K 0 dL_fewestByTrying_1 (by decide +kernel) ?_
  refine g_aload_n K 0 dL_fewestByTrying_2 rfl ?_
  refine g_iload_n K 1 dL_fewestByTrying_3 rfl ?_
  refine g_callVd (q := 0) (ci := 5) (As := [.int (nI (p0))]) (rest := [.int (nI (0)), .ref o]) (C := RX5) (T := TX5) (N := 5) K hM (cwV 1 K.1.2.2.2.2 gL_fewestByTrying_X5_fewestByTrying rfl hc hs (by decide +kernel) ⟨by rw [hR]; show rm.frames + 1 ≤ 8; omega, by rw [hR]; show 8 + (2 + 11) + rm.locals ≤ 200; omega⟩) rfl rfl rfl rfl (Nat.le_of_ble_eq_true rfl) dL_fewestByTrying_4 ?_
  refine g_i2l K dL_fewestByTrying_7 ?_
  refine g_last K hex dL_fewestByTrying_8 ?_
  have K := gY_ok K (oc o (gz_L (g_z X)) (vp_updL O 0 (lI v))) (a := g_ce X) (b := g_sl X) (by rw [h0]; exact Nat.zero_le _) (by rw [h1]; exact Nat.zero_le _)
  refine g_goto (tgt := 15) K dL_fewestByTrying_9 (by decide) ?_
  refine g_iconst K 0 dL_fewestByTrying_15 (by decide +kernel) ?_
  exact hret _ _ _ _ (by rw [h0]; exact Nat.zero_le _) (by rw [h1]; exact Nat.zero_le _) dL_fewestByTrying_16

set_option maxHeartbeats 4000000 in
set_option maxRecDepth 100000 in
theorem hL_fewestByTrying_x1 (Z : gZ) (S S1 : Nat → Nat → Nat) (p0 o : Nat) (O : Nat → Int64) (hex : gz_ex Z = oc o (gz_L Z) O) (rm : Room) (hc : rm.cells = 1) (hs : rm.slots = 6) (hf : rm.frames ≤ 7) (hl : rm.locals ≤ 155) (hM : gMx Z yX5_fewestByTrying wsX5_fewestByTrying rm [.ref (gz_ad Z 0), .int (nI p0)] S S1 IOB) : gMh Z yL_fewestByTrying wsL_fewestByTrying rmH [.ref (gz_ad Z 0), .int (nI p0), .ref o] S 1 S1 (oc o (gz_L Z) O) := by
  refine gMh_of (cc := cL_fewestByTrying) (maxL := 4) (hh := [(0, 9, 12, 19)]) (by decide +kernel) rfl rfl (Nat.le_of_ble_eq_true rfl) (fun X hZ hR K hT hC htab h0 h1 hret => ?_)
  subst hZ
  have K : gOk X cL_fewestByTrying 4 wsL_fewestByTrying RL := K
  show gG X 0 [(0, .ref (g_ad X 0)), (1, .int (nI (p0))), (2, .ref o)] [] S
  refine g_aload_n K 2 dL_fewestByTrying_0 rfl ?_
  refine g_iconst K 0 dL_fewestByTrying_1 (by decide +kernel) ?_
  refine g_aload_n K 0 dL_fewestByTrying_2 rfl ?_
  refine g_iload_n K 1 dL_fewestByTrying_3 rfl ?_
  refine g_callVx (q := 0) (ci := 5) (As := [.int (nI (p0))]) (rest := [.int (nI (0)), .ref o]) (C := RX5) (U := TX5) (N := 5) K hT hM (cwV 1 K.1.2.2.2.2 gL_fewestByTrying_X5_fewestByTrying rfl hc hs (by decide +kernel) ⟨by rw [hR]; show rm.frames + 1 ≤ 8; omega, by rw [hR]; show 8 + (2 + 11) + rm.locals ≤ 200; omega⟩) (by rw [h0, hR]; exact Nat.le_of_ble_eq_true rfl) (by rw [h1, hR]; exact Nat.le_of_ble_eq_true rfl) rfl rfl rfl rfl (Nat.le_of_ble_eq_true rfl) dL_fewestByTrying_4 ?_
  refine g_catch (own := RL) (name := IOB) K [] ⟨0, 9, 12, 19⟩ [] htab (fun z hz => absurd hz List.not_mem_nil) (by decide) (by decide) (K.1.2.2.2.2 (.classLink RL 19 IOB) (by decide +kernel)) (gT_cast hT bad_IOB _) hex (fun q => ?_)
  show gG (gY X _ _ _) 12 _ [.ref q] S1
  have K := gY_ok K (oc o (gz_L (g_z X)) O) (a := g_ce X + 1) (b := g_sl X + 6) (by rw [h0, hR]; exact Nat.le_of_ble_eq_true rfl) (by rw [h1, hR]; exact Nat.le_of_ble_eq_true rfl)
  refine g_astore_n (lo' := [(3, .ref q), (0, .ref (g_ad X 0)), (1, .int (nI (p0))), (2, .ref o)]) K dL_fewestByTrying_12 (by decide) rfl ?_
  refine g_iconst K 1 dL_fewestByTrying_13 (by decide +kernel) ?_
  exact hret _ _ _ _ (by rw [h0]; exact Nat.le_refl _) (by rw [h1]; exact Nat.le_refl _) dL_fewestByTrying_14

set_option maxHeartbeats 4000000 in
set_option maxRecDepth 100000 in
theorem hL_distance_n (Z : gZ) (S S1 : Nat → Nat → Nat) (p0 v o : Nat) (O : Nat → Int64) (hex : gz_ex Z = oc o (gz_L Z) O) (rm : Room) (hc : rm.cells = 0) (hs : rm.slots = 0) (hf : rm.frames ≤ 7) (hl : rm.locals ≤ 155) (hM : gMd Z yX5_distance wsX5_distance rm [.ref (gz_ad Z 0), .int (nI p0)] S v S1) : gMh Z yL_distance wsL_distance rmH [.ref (gz_ad Z 0), .int (nI p0), .ref o] S 0 S1 (oc o (gz_L Z) (vp_updL O 0 (lI v))) := by
  refine gMh_of (cc := cL_distance) (maxL := 4) (hh := [(0, 9, 12, 19)]) (by decide +kernel) rfl rfl (Nat.le_of_ble_eq_true rfl) (fun X hZ hR K hT hC htab h0 h1 hret => ?_)
  subst hZ
  have K : gOk X cL_distance 4 wsL_distance RL := K
  show gG X 0 [(0, .ref (g_ad X 0)), (1, .int (nI (p0))), (2, .ref o)] [] S
  refine g_aload_n K 2 dL_distance_0 rfl ?_
  refine g_iconst K 0 dL_distance_1 (by decide +kernel) ?_
  refine g_aload_n K 0 dL_distance_2 rfl ?_
  refine g_iload_n K 1 dL_distance_3 rfl ?_
  refine g_callVd (q := 0) (ci := 5) (As := [.int (nI (p0))]) (rest := [.int (nI (0)), .ref o]) (C := RX5) (T := TX5) (N := 5) K hM (cwV 1 K.1.2.2.2.2 gL_distance_X5_distance rfl hc hs (by decide +kernel) ⟨by rw [hR]; show rm.frames + 1 ≤ 8; omega, by rw [hR]; show 8 + (2 + 11) + rm.locals ≤ 200; omega⟩) rfl rfl rfl rfl (Nat.le_of_ble_eq_true rfl) dL_distance_4 ?_
  refine g_i2l K dL_distance_7 ?_
  refine g_last K hex dL_distance_8 ?_
  have K := gY_ok K (oc o (gz_L (g_z X)) (vp_updL O 0 (lI v))) (a := g_ce X) (b := g_sl X) (by rw [h0]; exact Nat.zero_le _) (by rw [h1]; exact Nat.zero_le _)
  refine g_goto (tgt := 15) K dL_distance_9 (by decide) ?_
  refine g_iconst K 0 dL_distance_15 (by decide +kernel) ?_
  exact hret _ _ _ _ (by rw [h0]; exact Nat.zero_le _) (by rw [h1]; exact Nat.zero_le _) dL_distance_16

set_option maxHeartbeats 4000000 in
set_option maxRecDepth 100000 in
theorem hL_distance_x1 (Z : gZ) (S S1 : Nat → Nat → Nat) (p0 o : Nat) (O : Nat → Int64) (hex : gz_ex Z = oc o (gz_L Z) O) (rm : Room) (hc : rm.cells = 1) (hs : rm.slots = 6) (hf : rm.frames ≤ 7) (hl : rm.locals ≤ 155) (hM : gMx Z yX5_distance wsX5_distance rm [.ref (gz_ad Z 0), .int (nI p0)] S S1 IOB) : gMh Z yL_distance wsL_distance rmH [.ref (gz_ad Z 0), .int (nI p0), .ref o] S 1 S1 (oc o (gz_L Z) O) := by
  refine gMh_of (cc := cL_distance) (maxL := 4) (hh := [(0, 9, 12, 19)]) (by decide +kernel) rfl rfl (Nat.le_of_ble_eq_true rfl) (fun X hZ hR K hT hC htab h0 h1 hret => ?_)
  subst hZ
  have K : gOk X cL_distance 4 wsL_distance RL := K
  show gG X 0 [(0, .ref (g_ad X 0)), (1, .int (nI (p0))), (2, .ref o)] [] S
  refine g_aload_n K 2 dL_distance_0 rfl ?_
  refine g_iconst K 0 dL_distance_1 (by decide +kernel) ?_
  refine g_aload_n K 0 dL_distance_2 rfl ?_
  refine g_iload_n K 1 dL_distance_3 rfl ?_
  refine g_callVx (q := 0) (ci := 5) (As := [.int (nI (p0))]) (rest := [.int (nI (0)), .ref o]) (C := RX5) (U := TX5) (N := 5) K hT hM (cwV 1 K.1.2.2.2.2 gL_distance_X5_distance rfl hc hs (by decide +kernel) ⟨by rw [hR]; show rm.frames + 1 ≤ 8; omega, by rw [hR]; show 8 + (2 + 11) + rm.locals ≤ 200; omega⟩) (by rw [h0, hR]; exact Nat.le_of_ble_eq_true rfl) (by rw [h1, hR]; exact Nat.le_of_ble_eq_true rfl) rfl rfl rfl rfl (Nat.le_of_ble_eq_true rfl) dL_distance_4 ?_
  refine g_catch (own := RL) (name := IOB) K [] ⟨0, 9, 12, 19⟩ [] htab (fun z hz => absurd hz List.not_mem_nil) (by decide) (by decide) (K.1.2.2.2.2 (.classLink RL 19 IOB) (by decide +kernel)) (gT_cast hT bad_IOB _) hex (fun q => ?_)
  show gG (gY X _ _ _) 12 _ [.ref q] S1
  have K := gY_ok K (oc o (gz_L (g_z X)) O) (a := g_ce X + 1) (b := g_sl X + 6) (by rw [h0, hR]; exact Nat.le_of_ble_eq_true rfl) (by rw [h1, hR]; exact Nat.le_of_ble_eq_true rfl)
  refine g_astore_n (lo' := [(3, .ref q), (0, .ref (g_ad X 0)), (1, .int (nI (p0))), (2, .ref o)]) K dL_distance_12 (by decide) rfl ?_
  refine g_iconst K 1 dL_distance_13 (by decide +kernel) ?_
  exact hret _ _ _ _ (by rw [h0]; exact Nat.le_refl _) (by rw [h1]; exact Nat.le_refl _) dL_distance_14

set_option maxHeartbeats 4000000 in
set_option maxRecDepth 100000 in
theorem hL_flushAt_n (Z : gZ) (S S1 : Nat → Nat → Nat) (p0 v o : Nat) (O : Nat → Int64) (hex : gz_ex Z = oc o (gz_L Z) O) (rm : Room) (hc : rm.cells = 0) (hs : rm.slots = 0) (hf : rm.frames ≤ 7) (hl : rm.locals ≤ 155) (hM : gMd Z yX5_flushAt wsX5_flushAt rm [.ref (gz_ad Z 0), .int (nI p0)] S v S1) : gMh Z yL_flushAt wsL_flushAt rmH [.ref (gz_ad Z 0), .int (nI p0), .ref o] S 0 S1 (oc o (gz_L Z) (vp_updL O 0 (lI v))) := by
  refine gMh_of (cc := cL_flushAt) (maxL := 4) (hh := [(0, 9, 12, 19)]) (by decide +kernel) rfl rfl (Nat.le_of_ble_eq_true rfl) (fun X hZ hR K hT hC htab h0 h1 hret => ?_)
  subst hZ
  have K : gOk X cL_flushAt 4 wsL_flushAt RL := K
  show gG X 0 [(0, .ref (g_ad X 0)), (1, .int (nI (p0))), (2, .ref o)] [] S
  refine g_aload_n K 2 dL_flushAt_0 rfl ?_
  refine g_iconst K 0 dL_flushAt_1 (by decide +kernel) ?_
  refine g_aload_n K 0 dL_flushAt_2 rfl ?_
  refine g_iload_n K 1 dL_flushAt_3 rfl ?_
  refine g_callVd (q := 0) (ci := 5) (As := [.int (nI (p0))]) (rest := [.int (nI (0)), .ref o]) (C := RX5) (T := TX5) (N := 5) K hM (cwV 1 K.1.2.2.2.2 gL_flushAt_X5_flushAt rfl hc hs (by decide +kernel) ⟨by rw [hR]; show rm.frames + 1 ≤ 8; omega, by rw [hR]; show 8 + (3 + 11) + rm.locals ≤ 200; omega⟩) rfl rfl rfl rfl (Nat.le_of_ble_eq_true rfl) dL_flushAt_4 ?_
  refine g_i2l K dL_flushAt_7 ?_
  refine g_last K hex dL_flushAt_8 ?_
  have K := gY_ok K (oc o (gz_L (g_z X)) (vp_updL O 0 (lI v))) (a := g_ce X) (b := g_sl X) (by rw [h0]; exact Nat.zero_le _) (by rw [h1]; exact Nat.zero_le _)
  refine g_goto (tgt := 15) K dL_flushAt_9 (by decide) ?_
  refine g_iconst K 0 dL_flushAt_15 (by decide +kernel) ?_
  exact hret _ _ _ _ (by rw [h0]; exact Nat.zero_le _) (by rw [h1]; exact Nat.zero_le _) dL_flushAt_16

set_option maxHeartbeats 4000000 in
set_option maxRecDepth 100000 in
theorem hL_flushAt_x1 (Z : gZ) (S S1 : Nat → Nat → Nat) (p0 o : Nat) (O : Nat → Int64) (hex : gz_ex Z = oc o (gz_L Z) O) (rm : Room) (hc : rm.cells = 1) (hs : rm.slots = 6) (hf : rm.frames ≤ 7) (hl : rm.locals ≤ 155) (hM : gMx Z yX5_flushAt wsX5_flushAt rm [.ref (gz_ad Z 0), .int (nI p0)] S S1 IOB) : gMh Z yL_flushAt wsL_flushAt rmH [.ref (gz_ad Z 0), .int (nI p0), .ref o] S 1 S1 (oc o (gz_L Z) O) := by
  refine gMh_of (cc := cL_flushAt) (maxL := 4) (hh := [(0, 9, 12, 19)]) (by decide +kernel) rfl rfl (Nat.le_of_ble_eq_true rfl) (fun X hZ hR K hT hC htab h0 h1 hret => ?_)
  subst hZ
  have K : gOk X cL_flushAt 4 wsL_flushAt RL := K
  show gG X 0 [(0, .ref (g_ad X 0)), (1, .int (nI (p0))), (2, .ref o)] [] S
  refine g_aload_n K 2 dL_flushAt_0 rfl ?_
  refine g_iconst K 0 dL_flushAt_1 (by decide +kernel) ?_
  refine g_aload_n K 0 dL_flushAt_2 rfl ?_
  refine g_iload_n K 1 dL_flushAt_3 rfl ?_
  refine g_callVx (q := 0) (ci := 5) (As := [.int (nI (p0))]) (rest := [.int (nI (0)), .ref o]) (C := RX5) (U := TX5) (N := 5) K hT hM (cwV 1 K.1.2.2.2.2 gL_flushAt_X5_flushAt rfl hc hs (by decide +kernel) ⟨by rw [hR]; show rm.frames + 1 ≤ 8; omega, by rw [hR]; show 8 + (3 + 11) + rm.locals ≤ 200; omega⟩) (by rw [h0, hR]; exact Nat.le_of_ble_eq_true rfl) (by rw [h1, hR]; exact Nat.le_of_ble_eq_true rfl) rfl rfl rfl rfl (Nat.le_of_ble_eq_true rfl) dL_flushAt_4 ?_
  refine g_catch (own := RL) (name := IOB) K [] ⟨0, 9, 12, 19⟩ [] htab (fun z hz => absurd hz List.not_mem_nil) (by decide) (by decide) (K.1.2.2.2.2 (.classLink RL 19 IOB) (by decide +kernel)) (gT_cast hT bad_IOB _) hex (fun q => ?_)
  show gG (gY X _ _ _) 12 _ [.ref q] S1
  have K := gY_ok K (oc o (gz_L (g_z X)) O) (a := g_ce X + 1) (b := g_sl X + 6) (by rw [h0, hR]; exact Nat.le_of_ble_eq_true rfl) (by rw [h1, hR]; exact Nat.le_of_ble_eq_true rfl)
  refine g_astore_n (lo' := [(3, .ref q), (0, .ref (g_ad X 0)), (1, .int (nI (p0))), (2, .ref o)]) K dL_flushAt_12 (by decide) rfl ?_
  refine g_iconst K 1 dL_flushAt_13 (by decide +kernel) ?_
  exact hret _ _ _ _ (by rw [h0]; exact Nat.le_refl _) (by rw [h1]; exact Nat.le_refl _) dL_flushAt_14

set_option maxHeartbeats 4000000 in
set_option maxRecDepth 100000 in
theorem hL_walk_n (Z : gZ) (S S1 : Nat → Nat → Nat) (p0 p1 v o : Nat) (O : Nat → Int64) (hex : gz_ex Z = oc o (gz_L Z) O) (rm : Room) (hc : rm.cells = 0) (hs : rm.slots = 0) (hf : rm.frames ≤ 7) (hl : rm.locals ≤ 155) (hM : gMd Z yX5_walk wsX5_walk rm [.ref (gz_ad Z 0), .int (nI p0), .int (nI p1)] S v S1) : gMh Z yL_walk wsL_walk rmH [.ref (gz_ad Z 0), .int (nI p0), .int (nI p1), .ref o] S 0 S1 (oc o (gz_L Z) (vp_updL O 0 (lI v))) := by
  refine gMh_of (cc := cL_walk) (maxL := 5) (hh := [(0, 10, 13, 19), (0, 10, 17, 21)]) (by decide +kernel) rfl rfl (Nat.le_of_ble_eq_true rfl) (fun X hZ hR K hT hC htab h0 h1 hret => ?_)
  subst hZ
  have K : gOk X cL_walk 5 wsL_walk RL := K
  show gG X 0 [(0, .ref (g_ad X 0)), (1, .int (nI (p0))), (2, .int (nI (p1))), (3, .ref o)] [] S
  refine g_aload_n K 3 dL_walk_0 rfl ?_
  refine g_iconst K 0 dL_walk_1 (by decide +kernel) ?_
  refine g_aload_n K 0 dL_walk_2 rfl ?_
  refine g_iload_n K 1 dL_walk_3 rfl ?_
  refine g_iload_n K 2 dL_walk_4 rfl ?_
  refine g_callVd (q := 0) (ci := 5) (As := [.int (nI (p0)), .int (nI (p1))]) (rest := [.int (nI (0)), .ref o]) (C := RX5) (T := TX5) (N := 5) K hM (cwV 2 K.1.2.2.2.2 gL_walk_X5_walk rfl hc hs (by decide +kernel) ⟨by rw [hR]; show rm.frames + 1 ≤ 8; omega, by rw [hR]; show 8 + (3 + 11) + rm.locals ≤ 200; omega⟩) rfl rfl rfl rfl (Nat.le_of_ble_eq_true rfl) dL_walk_5 ?_
  refine g_i2l K dL_walk_8 ?_
  refine g_last K hex dL_walk_9 ?_
  have K := gY_ok K (oc o (gz_L (g_z X)) (vp_updL O 0 (lI v))) (a := g_ce X) (b := g_sl X) (by rw [h0]; exact Nat.zero_le _) (by rw [h1]; exact Nat.zero_le _)
  refine g_goto (tgt := 21) K dL_walk_10 (by decide) ?_
  refine g_iconst K 0 dL_walk_21 (by decide +kernel) ?_
  exact hret _ _ _ _ (by rw [h0]; exact Nat.zero_le _) (by rw [h1]; exact Nat.zero_le _) dL_walk_22

set_option maxHeartbeats 4000000 in
set_option maxRecDepth 100000 in
theorem hL_walk_x1 (Z : gZ) (S S1 : Nat → Nat → Nat) (p0 p1 o : Nat) (O : Nat → Int64) (hex : gz_ex Z = oc o (gz_L Z) O) (rm : Room) (hc : rm.cells = 1) (hs : rm.slots = 6) (hf : rm.frames ≤ 7) (hl : rm.locals ≤ 155) (hM : gMx Z yX5_walk wsX5_walk rm [.ref (gz_ad Z 0), .int (nI p0), .int (nI p1)] S S1 IOB) : gMh Z yL_walk wsL_walk rmH [.ref (gz_ad Z 0), .int (nI p0), .int (nI p1), .ref o] S 1 S1 (oc o (gz_L Z) O) := by
  refine gMh_of (cc := cL_walk) (maxL := 5) (hh := [(0, 10, 13, 19), (0, 10, 17, 21)]) (by decide +kernel) rfl rfl (Nat.le_of_ble_eq_true rfl) (fun X hZ hR K hT hC htab h0 h1 hret => ?_)
  subst hZ
  have K : gOk X cL_walk 5 wsL_walk RL := K
  show gG X 0 [(0, .ref (g_ad X 0)), (1, .int (nI (p0))), (2, .int (nI (p1))), (3, .ref o)] [] S
  refine g_aload_n K 3 dL_walk_0 rfl ?_
  refine g_iconst K 0 dL_walk_1 (by decide +kernel) ?_
  refine g_aload_n K 0 dL_walk_2 rfl ?_
  refine g_iload_n K 1 dL_walk_3 rfl ?_
  refine g_iload_n K 2 dL_walk_4 rfl ?_
  refine g_callVx (q := 0) (ci := 5) (As := [.int (nI (p0)), .int (nI (p1))]) (rest := [.int (nI (0)), .ref o]) (C := RX5) (U := TX5) (N := 5) K hT hM (cwV 2 K.1.2.2.2.2 gL_walk_X5_walk rfl hc hs (by decide +kernel) ⟨by rw [hR]; show rm.frames + 1 ≤ 8; omega, by rw [hR]; show 8 + (3 + 11) + rm.locals ≤ 200; omega⟩) (by rw [h0, hR]; exact Nat.le_of_ble_eq_true rfl) (by rw [h1, hR]; exact Nat.le_of_ble_eq_true rfl) rfl rfl rfl rfl (Nat.le_of_ble_eq_true rfl) dL_walk_5 ?_
  refine g_catch (own := RL) (name := IOB) K [] ⟨0, 10, 13, 19⟩ [⟨0, 10, 17, 21⟩] htab (fun z hz => absurd hz List.not_mem_nil) (by decide) (by decide) (K.1.2.2.2.2 (.classLink RL 19 IOB) (by decide +kernel)) (gT_cast hT bad_IOB _) hex (fun q => ?_)
  show gG (gY X _ _ _) 13 _ [.ref q] S1
  have K := gY_ok K (oc o (gz_L (g_z X)) O) (a := g_ce X + 1) (b := g_sl X + 6) (by rw [h0, hR]; exact Nat.le_of_ble_eq_true rfl) (by rw [h1, hR]; exact Nat.le_of_ble_eq_true rfl)
  refine g_astore (lo' := [(4, .ref q), (0, .ref (g_ad X 0)), (1, .int (nI (p0))), (2, .int (nI (p1))), (3, .ref o)]) K dL_walk_13 (by decide) rfl ?_
  refine g_iconst K 1 dL_walk_15 (by decide +kernel) ?_
  exact hret _ _ _ _ (by rw [h0]; exact Nat.le_refl _) (by rw [h1]; exact Nat.le_refl _) dL_walk_16

set_option maxHeartbeats 4000000 in
set_option maxRecDepth 100000 in
theorem hL_walk_x2 (Z : gZ) (S S1 : Nat → Nat → Nat) (p0 p1 o : Nat) (O : Nat → Int64) (hex : gz_ex Z = oc o (gz_L Z) O) (rm : Room) (hc : rm.cells = 1) (hs : rm.slots = 6) (hf : rm.frames ≤ 7) (hl : rm.locals ≤ 155) (hM : gMx Z yX5_walk wsX5_walk rm [.ref (gz_ad Z 0), .int (nI p0), .int (nI p1)] S S1 IAE) : gMh Z yL_walk wsL_walk rmH [.ref (gz_ad Z 0), .int (nI p0), .int (nI p1), .ref o] S 2 S1 (oc o (gz_L Z) O) := by
  refine gMh_of (cc := cL_walk) (maxL := 5) (hh := [(0, 10, 13, 19), (0, 10, 17, 21)]) (by decide +kernel) rfl rfl (Nat.le_of_ble_eq_true rfl) (fun X hZ hR K hT hC htab h0 h1 hret => ?_)
  subst hZ
  have K : gOk X cL_walk 5 wsL_walk RL := K
  show gG X 0 [(0, .ref (g_ad X 0)), (1, .int (nI (p0))), (2, .int (nI (p1))), (3, .ref o)] [] S
  refine g_aload_n K 3 dL_walk_0 rfl ?_
  refine g_iconst K 0 dL_walk_1 (by decide +kernel) ?_
  refine g_aload_n K 0 dL_walk_2 rfl ?_
  refine g_iload_n K 1 dL_walk_3 rfl ?_
  refine g_iload_n K 2 dL_walk_4 rfl ?_
  refine g_callVx (q := 0) (ci := 5) (As := [.int (nI (p0)), .int (nI (p1))]) (rest := [.int (nI (0)), .ref o]) (C := RX5) (U := TX5) (N := 5) K hT hM (cwV 2 K.1.2.2.2.2 gL_walk_X5_walk rfl hc hs (by decide +kernel) ⟨by rw [hR]; show rm.frames + 1 ≤ 8; omega, by rw [hR]; show 8 + (3 + 11) + rm.locals ≤ 200; omega⟩) (by rw [h0, hR]; exact Nat.le_of_ble_eq_true rfl) (by rw [h1, hR]; exact Nat.le_of_ble_eq_true rfl) rfl rfl rfl rfl (Nat.le_of_ble_eq_true rfl) dL_walk_5 ?_
  refine g_catch (own := RL) (name := IAE) K [⟨0, 10, 13, 19⟩] ⟨0, 10, 17, 21⟩ [] htab (fun z hz => by
    simp only [List.mem_cons, List.not_mem_nil, or_false] at hz
    subst hz
    exact Or.inr ⟨by decide, IOB, K.1.2.2.2.2 (.classLink RL 19 IOB) (by decide +kernel), hC.2.2⟩) (by decide) (by decide) (K.1.2.2.2.2 (.classLink RL 21 IAE) (by decide +kernel)) (gT_cast hT bad_IAE _) hex (fun q => ?_)
  show gG (gY X _ _ _) 17 _ [.ref q] S1
  have K := gY_ok K (oc o (gz_L (g_z X)) O) (a := g_ce X + 1) (b := g_sl X + 6) (by rw [h0, hR]; exact Nat.le_of_ble_eq_true rfl) (by rw [h1, hR]; exact Nat.le_of_ble_eq_true rfl)
  refine g_astore (lo' := [(4, .ref q), (0, .ref (g_ad X 0)), (1, .int (nI (p0))), (2, .int (nI (p1))), (3, .ref o)]) K dL_walk_17 (by decide) rfl ?_
  refine g_iconst K 2 dL_walk_19 (by decide +kernel) ?_
  exact hret _ _ _ _ (by rw [h0]; exact Nat.le_refl _) (by rw [h1]; exact Nat.le_refl _) dL_walk_20

