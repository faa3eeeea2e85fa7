/-! THE LAW'S LOOP, its first four acts: nodes alone are added -/
def rmW : Room := { frames := 13, cells := 1000, slots := 10000, locals := 486 }
def rmD : Room := { frames := 1, cells := 0, slots := 0, locals := 10 }
/-- the script lies below all that the law may write -/
def gScr (X : gC) (b L : Nat) (xs : Nat → Int32) : Prop := va_X b L xs (g_s X) (g_H X) ∧ b < (g_H X).size ∧ ¬ g_A X b ∧ L ≤ 260
theorem gCx.scr {X0 X : gC} {cc : ByteArray} {nL : Nat} {ws : List Cond} {ad : Nat → Nat} {w : va_W} {n a b : Nat} (h : gCx X0 X cc nL ws ad w n a b) {c L : Nat} {xs : Nat → Int32} (B : gScr X0 c L xs) : gScr X c L xs := by
  obtain ⟨⟨ad0, w0, H0, a0, b0, rfl, r1, r2⟩, -⟩ := h
  have r1 : (g_H X0).size + n ≤ H0.size := r1
  exact ⟨B.1.kept (r2 c B.2.1 B.2.2.1), by have := B.2.1; show c < H0.size; omega, B.2.2.1, B.2.2.2⟩
section GSC
variable {X : gC} {cc : ByteArray} {nL : Nat} {ws : List Cond} {own : String} {pc : Nat} {lo : List (Nat × Value)} {st : List Value} {S : Nat → Nat → Nat}
theorem g_sld (K : gOk X cc nL ws own) {b L i : Nat} {xs : Nat → Int32} (B : gScr X b L xs) (hi : i < L) (hdg : decode cc pc = .ok (.iaload, 1)) (kk : gG X (pc + 1) lo (.int (nI (xn xs i)) :: st) S) : gG X pc lo (.int (nI i) :: .ref b :: st) S := by
  have hL := B.2.2.2
  have hi2 : i < 2147483648 := by omega
  intro ls H locs hl hP hD hS
  refine va_sld K.1.1 K.1.2.1 B.1 B.2.1 B.2.2.1 hS (gi_in hi (by omega)) hdg ?_
  rw [gi_cl hi2, gi_self (xs i)]
  exact kk ls H locs hl hP hD hS
theorem g_slen (K : gOk X cc nL ws own) {b L : Nat} {xs : Nat → Int32} (B : gScr X b L xs) (hdg : decode cc pc = .ok (.arraylength, 1)) (kk : gG X (pc + 1) lo (.int (nI L) :: st) S) : gG X pc lo (.ref b :: st) S :=
  fun ls H locs hl hP hD hS => va_slen K.1.1 K.1.2.1 B.1 B.2.1 B.2.2.1 hS hdg (kk ls H locs hl hP hD hS)
end GSC
/-- drawn: it reads the script, and answers an int that is not below 0 -/
def gMs (Z : gZ) (y : MethodName) (ws : List Cond) (rm : Room) (av : List Value) (S : Nat → Nat → Nat) (b L : Nat) (xs : Nat → Int32) : Prop :=
  ∀ sz, b < sz → ¬ gA Z sz b → Met (gz_l Z) y ws rm (va_Pc av (fun U => gI Z S sz U ∧ va_X b L xs U U.heap)) (va_Qi (fun r S' => (∃ v : Nat, v < 2147483648 ∧ r = nI v) ∧ S' = S) (gE Z (gA Z sz)) (gA Z sz)) 0 0 (gA Z sz)
theorem gMs_of {Z : gZ} {y : MethodName} {ws ws' : List Cond} {rm : Room} {av : List Value} {S : Nat → Nat → Nat} {b L : Nat} {xs : Nat → Int32} (hL : L ≤ 260) {cc : ByteArray} {maxL : Nat} (hy : plainName y.cls = true) (hw : ws = Cond.code y cc maxL (some .int) :: ws') (hav : (lg_sl av).length ≤ maxL)
    (body : ∀ X : gC, g_z X = Z → g_R X = { rm with } → gOk X cc maxL ws y.cls → gScr X b L xs → (∀ (pc : Nat) (lo : List (Nat × Value)) (v : Nat), v < 2147483648 → decode cc pc = .ok (.ireturn, 1) → gG X pc lo [.int (nI v)] S) → gG X 0 (lv_args 0 av) [] S) : gMs Z y ws rm av S b L xs := by
  intro sz hb0 hbA
  refine Met.ofW (cc := cc) (maxL := maxL) (ret := some .int) hy hw ?_
  intro p e s m args below meth c s₁ B hml hv
  obtain ⟨rfl, ⟨hsz, hP, hK, hD0, hN⟩, hX⟩ := hv
  have hr := B.returns
  have hlocks := B.notSynchronized
  subst hsz
  have hD : va_D (gA Z s.heap.size) (gz_w Z S) := ⟨hD0.1, fun k q hk => gA_of hk⟩
  have hl := lv_entry av (n := maxL) hav
  rw [lg_entry_eq]
  generalize (lg_sl av ++ List.replicate (maxL - (lg_sl av).length) Slot.unset).toArray = ls at hl ⊢
  have hb := body (Z, p, e, rm, s, m, av.toArray, below, meth, c, maxL, gA Z s.heap.size, s.heap, MQ below (va_Qi (fun r S' => (∃ v : Nat, v < 2147483648 ∧ r = nI v) ∧ S' = S) (gE Z (gA Z s.heap.size)) (gA Z s.heap.size)) av.toArray s 0 0 (gA Z s.heap.size), 0, 0) rfl rfl
    ⟨⟨B.exec, B.bytes, hml, findClass_of_methodNamed B.named, atoms_spec (ws := ws) B.pre⟩, rfl, hK, hN, fun q h => Or.inr h, Nat.zero_le _, Nat.zero_le _⟩ ⟨hX, hb0, hbA, hL⟩ ?_
  · exact hb ls s.heap [] hl hP hD va_S.rf
  · intro pc lo v hv9 hdg ls H locs hl hP hD hS
    have hend : ∀ t : State, t.heap = H → s.WarmedH t.vm → va_Qi (fun r S' => (∃ v : Nat, v < 2147483648 ∧ r = nI v) ∧ S' = S) (gE Z (gA Z s.heap.size)) (gA Z s.heap.size) av.toArray s (.returned (some (.int (nI v)))) t := fun t ht hW => ⟨⟨nI v, S, rfl, ⟨⟨v, hv9, rfl⟩, rfl⟩, by rw [ht]; exact hP, va_K.moved hW.alike hK, hD⟩, va_S.F hS ht⟩
    exact W.iret (v := nI v) B.exec B.bytes hr hend hS.2.2 hdg hlocks
theorem gIs_blind {Z : gZ} {S : Nat → Nat → Nat} {sz b L : Nat} {xs : Nat → Int32} {av : List Value} : FrameBlind (va_Pc av (fun U => gI Z S sz U ∧ va_X b L xs U U.heap)) := fun a U g mk q => by
  obtain ⟨q0, ⟨q1, qP, qK, qD, qN⟩, qX⟩ := q
  exact ⟨q0, ⟨q1, qP, va_K.moved (u := U) (U := U.calling g mk a) (Vm.Alike.refl U.vm) qK, qD, gN.same (u := U) (U := U.calling g mk a) rfl qN⟩, va_X.moved (u := U) (U := U.calling g mk a) (Vm.Alike.refl U.vm) qX⟩
theorem g_callD {X0 X : gC} {cc bytes : ByteArray} {nL maxL N index n a b : Nat} {ws wsY : List Cond} {pc : Nat} {lo : List (Nat × Value)} {st rest As : List Value} {S : Nat → Nat → Nat} {y : MethodName} {ret : Option FieldType} {rm : Room} {ad : Nat → Nat} {w : va_W} {c L : Nat} {xs : Nat → Int32} (h : gCx X0 X cc nL ws ad w n a b) (B0 : gScr X0 c L xs) (hM : gMs (zy (g_z X0) ad w) y wsY rm As S c L xs) (cw : CallB (g_R X) (g_s X) (g_a X) RL index y bytes maxL ret wsY rm 0 0 N ∧ (Cond.static y).before (g_a X) (g_s X) = true) (hn : As.length = N) (hst : st = As.reverse ++ rest) (hroom : (rest.map fun v => v.category).sum ≤ 8) (hdg : decode cc pc = .ok (.invokestatic index, 3))
    (kk : ∀ v : Nat, v < 2147483648 → gG X (pc + 3) lo (.int (nI v) :: rest) S) : gG X pc lo st S := by
  intro ls H locs hl hP hD hS
  have K := h.2.1
  have B := h.scr B0
  have hz := h.2.2.2.2.1
  have hF := gA_in hD hS K.2.2.2.2.1
  have hX1 : va_X c L xs (g_s X) H := B.1.kept (hS.2.1 c B.2.1 B.2.2.1)
  have hM1 := hM H.size (Nat.lt_of_lt_of_le B.2.1 hS.1) (by rw [← hz]; exact fun q => B.2.2.1 (hF c q))
  have hat := fun (U : State) hU hW => gI_at K hP hD As U hU hW
  rw [← hz] at hM1
  have hr := va_runS (As := As) (rest := rest) (l := gz_l (g_z X)) (e := g_e X) (p := g_p X) (below := g_b X) (meth := g_mt X) (locs := locs) (H := H) (g := F0 (g_m X) pc ls st) K.1 hM1 cw ⟨gIs_blind, fun U hU hW => ⟨(hat U hU hW).1, (hat U hU hW).2, by rw [hU]; exact va_X.moved hW.alike hX1⟩⟩ rfl hn (hl.1.trans K.2.1) hst (lv_room hroom) hdg ⟨K.2.2.2.2.2.1, K.2.2.2.2.2.2⟩
  refine va_calli hr hS (fun q _ h => hF q h) hF (fun r u t H1 locs1 ht hvm hw hB hz1 hk1 hS1 => ?_)
  obtain ⟨⟨v, hv, rfl⟩, rfl⟩ := hw
  obtain ⟨hP1, hK1, hD1⟩ := hB
  rw [ht] at hP1
  exact kk v hv ls H1 locs1 hl hP1 (hD1.weaken (fun _ q _ h => hF q.1 h)) hS1
def rf (n : Nat) : Nat := if n ≤ 1 then 18 else 26
theorem refuses_c (Z : gZ) (S : Nat → Nat → Nat) {n : Nat} (x : Nat) (hnd : nd S n) (hl0 : (gz_l Z).stackTraces = false) (hn : n < 12) (hx : x < 10000) : gMu Z yL_refuses wsL_refuses rmR [.ref (gz_ad Z 0), .int (nI (x))] S (fun v S1 w => v = 1 ∧ nd S1 n ∧ w = gz_ex Z) 40 240 (rf n) := by
  unfold rf
  split
  · rename_i h; exact refuses_lo Z S x hnd hl0 h hx
  · rename_i h; exact refuses_hi Z S x hnd hl0 ⟨by omega, hn⟩ hx

set_option maxHeartbeats 4000000 in
set_option maxRecDepth 100000 in
theorem drawn_c (Z : gZ) (S : Nat → Nat → Nat) (b k L : Nat) (xs : Nat → Int32) (hL : L ≤ 260) (hk : k < 2147483648) : gMs Z yL_drawn wsL_drawn rmD [.ref b, .int (nI (k))] S b L xs := by
  refine gMs_of (cc := cL_drawn) (maxL := 2) hL (by decide +kernel) rfl (Nat.le_of_ble_eq_true rfl) (fun X hZ hR K B hret => ?_)
  subst hZ
  have K : gOk X cL_drawn 2 wsL_drawn RL := K
  show gG X 0 [(0, .ref (b)), (1, .int (nI (k)))] [] S
  refine g_iload_n K 1 dL_drawn_0 rfl ?_
  refine g_aload_n K 0 dL_drawn_1 rfl ?_
  refine g_slen K B dL_drawn_2 ?_
  refine g_icmp_ge (tgt := 12) (a := k) (b := L) K dL_drawn_3 (by decide) (by omega) (by omega) (fun h3 => ?_) (fun h3 => ?_)
  · refine g_ldc (w := 15524449) K 15524449 (K.1.2.2.2.2 _ (by decide +kernel)) (by decide +kernel) dL_drawn_12 ?_
    refine g_iload_n K 1 dL_drawn_14 rfl ?_
    refine g_iconst K 3 dL_drawn_15 (by decide +kernel) ?_
    refine g_iadd (a := k) (b := 3) K dL_drawn_16 ?_
    refine g_imul (a := 15524449) (b := (k) + (3)) K dL_drawn_17 ?_
    refine g_sipush K 13711 dL_drawn_18 (by decide +kernel) ?_
    refine g_iadd (a := (15524449) * ((k) + (3))) (b := 13711) K dL_drawn_21 ?_
    refine g_ldc (w := 2147483647) K 2147483647 (K.1.2.2.2.2 _ (by decide +kernel)) (by decide +kernel) dL_drawn_22 ?_
    refine g_iand (a := ((15524449) * ((k) + (3))) + (13711)) (b := 2147483647) K dL_drawn_24 ?_
    exact hret _ _ _ (by have := @Nat.and_le_right ((((15524449) * ((k) + (3))) + (13711))) 2147483647; omega) dL_drawn_25
  · refine g_aload_n K 0 dL_drawn_6 rfl ?_
    refine g_iload_n K 1 dL_drawn_7 rfl ?_
    refine g_sld (i := k) K B (by omega) dL_drawn_8 ?_
    refine g_goto (tgt := 22) K dL_drawn_9 (by decide) ?_
    refine g_ldc (w := 2147483647) K 2147483647 (K.1.2.2.2.2 _ (by decide +kernel)) (by decide +kernel) dL_drawn_22 ?_
    refine g_iand (a := xn xs (k)) (b := 2147483647) K dL_drawn_24 ?_
    exact hret _ _ _ (by have := @Nat.and_le_right ((xn xs (k))) 2147483647; omega) dL_drawn_25

set_option maxHeartbeats 4000000 in
set_option maxRecDepth 100000 in
theorem law_exit {X0 : gC} {b qp : Nat} {ad1 ad2 : Nat → Nat} {r : va_W} (hR : g_R X0 = rmW) (hzero : ∀ (X : gC) (S : Nat → Nat → Nat) (w : va_W) (n a c pc : Nat) (lo : List (Nat × Value)), gCx X0 X cL_law 11 wsL_law ad1 w n a c → decode cL_law pc = .ok (.ireturn, 1) → gG X pc lo [.int (nI 0)] S) {X : gC} {S S2 : Nat → Nat → Nat} {k th n a c : Nat} (hk : k < th) (hth : th < 100) (h : gCx X0 X cL_law 11 wsL_law ad1 (gw ad2 (gz_I (g_z X0)) S2 ++ r) n a c) : gG X 40 [(0, .ref (b)), (1, .ref (ad1 0)), (2, .ref (ad2 0)), (3, .ref (qp)), (4, .int (nI (th))), (5, .int (nI (0))), (6, .int (nI (k)))] [] S := by
  have K := h.2.1
  refine g_iload K 6 dL_law_40 rfl ?_
  refine g_iload K 4 dL_law_42 rfl ?_
  refine g_icmp_ge (tgt := 268) (a := k) (b := th) K dL_law_44 (by decide) (by omega) (by omega) (fun h44 => absurd h44 (by omega)) (fun h44 => ?_)
  refine g_iload K 5 dL_law_47 rfl ?_
  refine g_if_eq (tgt := 268) (a := 0) K dL_law_49 (by decide) (by omega) (fun h49 => ?_) (fun h49 => absurd h49 (by omega))
  refine g_iload K 5 dL_law_268 rfl ?_
  refine g_if_eq (tgt := 333) (a := 0) K dL_law_270 (by decide) (by omega) (fun h270 => ?_) (fun h270 => absurd h270 (by omega))
  refine g_iconst K 0 dL_law_333 (by decide +kernel) ?_
  exact hzero X _ _ _ _ _ _ _ h dL_law_334

set_option maxHeartbeats 4000000 in
set_option maxRecDepth 100000 in
theorem law_act {X0 : gC} {b L qp : Nat} {xs : Nat → Int32} {ad1 ad2 : Nat → Nat} {r : va_W} (hR : g_R X0 = rmW) (hl0 : (gz_l (g_z X0)).stackTraces = false) (B0 : gScr X0 b L xs) (hzero : ∀ (X : gC) (S : Nat → Nat → Nat) (w : va_W) (n a c pc : Nat) (lo : List (Nat × Value)), gCx X0 X cL_law 11 wsL_law ad1 w n a c → decode cL_law pc = .ok (.ireturn, 1) → gG X pc lo [.int (nI 0)] S) {X : gC} {S S2 : Nat → Nat → Nat} {j th n a c : Nat} (hj : j < 4) (hth0 : 14 ≤ th) (hth : th < 100) (ha : a ≤ 800) (hc : c ≤ 8000) (hnd : nd S j) (hnd2 : nd S2 j) (h : gCx X0 X cL_law 11 wsL_law ad1 (gw ad2 (gz_I (g_z X0)) S2 ++ r) n a c)
    (kk : ∀ (X : gC) (S S2 : Nat → Nat → Nat), nd S (j + 1) → nd S2 (j + 1) → gCx X0 X cL_law 11 wsL_law ad1 (gw ad2 (gz_I (g_z X0)) S2 ++ r) ((n + rf j) + rf (j + 1)) (((a + 40) + 40) + 1) (((c + 240) + 240) + 6) → gG X 40 [(0, .ref (b)), (1, .ref (ad1 0)), (2, .ref (ad2 0)), (3, .ref (qp)), (4, .int (nI (th))), (5, .int (nI (1))), (6, .int (nI (j + 1)))] [] S) : gG X 40 [(0, .ref (b)), (1, .ref (ad1 0)), (2, .ref (ad2 0)), (3, .ref (qp)), (4, .int (nI (th))), (5, .int (nI (1))), (6, .int (nI (j)))] [] S := by
  have K := h.2.1
  have B := B0
  refine g_iload K 6 dL_law_40 rfl ?_
  refine g_iload K 4 dL_law_42 rfl ?_
  refine g_icmp_ge (tgt := 268) (a := j) (b := th) K dL_law_44 (by decide) (by omega) (by omega) (fun h44 => absurd h44 (by omega)) (fun h44 => ?_)
  refine g_iload K 5 dL_law_47 rfl ?_
  refine g_if_eq (tgt := 268) (a := 1) K dL_law_49 (by decide) (by omega) (fun h49 => absurd h49 (by omega)) (fun h49 => ?_)
  refine g_aload_n K 0 dL_law_52 rfl ?_
  refine g_iconst K 1 dL_law_53 (by decide +kernel) ?_
  refine g_iload K 6 dL_law_54 rfl ?_
  refine g_iadd (a := 1) (b := j) K dL_law_56 ?_
  refine g_callD (As := [.ref (b), .int (nI ((1) + (j)))]) (rest := []) h B0 (drawn_c (zy (g_z X0) ad1 (gw ad2 (gz_I (g_z X0)) S2 ++ r)) S b ((1) + (j)) L xs B.2.2.2 (by omega)) (va_cwS 2 K.1.2.2.2.2 gL_law_L_drawn rfl rfl rfl (by decide +kernel) ⟨by rw [h.R, hR]; exact Nat.le_of_ble_eq_true rfl, by rw [h.R, hR]; exact Nat.le_of_ble_eq_true rfl⟩) rfl rfl (Nat.le_of_ble_eq_true rfl) dL_law_57 (fun d3 hd3 => ?_)
  refine g_istore (lo' := [(7, .int (nI (d3))), (0, .ref (b)), (1, .ref (ad1 0)), (2, .ref (ad2 0)), (3, .ref (qp)), (4, .int (nI (th))), (5, .int (nI (1))), (6, .int (nI (j)))]) K dL_law_60 (by decide) rfl ?_
  refine g_iload K 7 dL_law_62 rfl ?_
  refine g_iconst K 4 dL_law_64 (by decide +kernel) ?_
  refine g_icmp_ge (tgt := 79) (a := j) (b := 4) K dL_law_65 (by decide) (by omega) (by omega) (fun h65 => absurd h65 (by omega)) (fun h65 => ?_)
  refine g_iload K 0 dL_law_68 rfl ?_
  refine g_bipush K 16 dL_law_70 (by decide +kernel) ?_
  refine g_idiv (a := d3) (b := 16) K (by omega) (by omega) (by omega) dL_law_72 ?_
  refine g_bipush K 16 dL_law_73 (by decide +kernel) ?_
  refine g_imul (a := (d3) / (16)) (b := 16) K dL_law_75 ?_
  refine g_goto (tgt := 101) K dL_law_76 (by decide) ?_
  refine g_istore (lo' := [(7, .int (nI (((d3) / (16)) * (16)))), (0, .ref (b)), (1, .ref (ad1 0)), (2, .ref (ad2 0)), (3, .ref (qp)), (4, .int (nI (th))), (5, .int (nI (1))), (6, .int (nI (j)))]) K dL_law_101 (by decide) rfl ?_
  refine g_aload_n K 2 dL_law_103 rfl ?_
  refine g_callVq (As := []) (rest := []) h (cX5_pipes_k (zy (g_z X0) ad1 (gw ad2 (gz_I (g_z X0)) S2 ++ r)) S) (cwV 0 K.1.2.2.2.2 gL_law_X5_pipes rfl rfl rfl (by decide +kernel) ⟨by rw [h.R, hR]; exact Nat.le_of_ble_eq_true rfl, by rw [h.R, hR]; exact Nat.le_of_ble_eq_true rfl⟩) rfl rfl (Nat.le_of_ble_eq_true rfl) dL_law_104 ?_
  refine g_topE (0) hnd.2.2.1 ?_
  refine g_istore (lo' := [(8, .int (nI (0))), (7, .int (nI (((d3) / (16)) * (16)))), (0, .ref (b)), (1, .ref (ad1 0)), (2, .ref (ad2 0)), (3, .ref (qp)), (4, .int (nI (th))), (5, .int (nI (1))), (6, .int (nI (j)))]) K dL_law_107 (by decide) rfl ?_
  refine g_aload_n K 3 dL_law_109 rfl ?_
  refine g_callVq (As := []) (rest := []) h (cX5_nodes_k (zy (g_z X0) ad1 (gw ad2 (gz_I (g_z X0)) S2 ++ r)) S) (cwV 0 K.1.2.2.2.2 gL_law_X5_nodes rfl rfl rfl (by decide +kernel) ⟨by rw [h.R, hR]; exact Nat.le_of_ble_eq_true rfl, by rw [h.R, hR]; exact Nat.le_of_ble_eq_true rfl⟩) rfl rfl (Nat.le_of_ble_eq_true rfl) dL_law_110 ?_
  refine g_topE (j) hnd.2.1 ?_
  have go : ∀ z : Nat, gG X 124 [(8, .int (nI (0))), (7, .int (nI (((d3) / (16)) * (16)))), (0, .ref (b)), (1, .ref (ad1 0)), (2, .ref (ad2 0)), (3, .ref (qp)), (4, .int (nI (th))), (5, .int (nI (1))), (6, .int (nI (j)))] [.int (nI (z))] S := by
    intro z
    refine g_istore (lo' := [(9, .int (nI (z))), (8, .int (nI (0))), (7, .int (nI (((d3) / (16)) * (16)))), (0, .ref (b)), (1, .ref (ad1 0)), (2, .ref (ad2 0)), (3, .ref (qp)), (4, .int (nI (th))), (5, .int (nI (1))), (6, .int (nI (j)))]) K dL_law_124 (by decide) rfl ?_
    refine g_aload_n K 5 dL_law_126 rfl ?_
    refine g_iload K 2 dL_law_127 rfl ?_
    refine g_sipush K 9973 dL_law_129 (by decide +kernel) ?_
    refine g_irem (a := ((d3) / (16)) * (16)) (b := 9973) K (by omega) (by omega) (by omega) dL_law_132 ?_
    refine g_swap h (fun X h => ?_)
    have h : gCx X0 X cL_law 11 wsL_law ad2 (gw ad1 (gz_I (g_z X0)) S ++ r) n a c := h
    have K := h.2.1
    refine g_callU (As := [.ref (ad2 0), .int (nI ((((d3) / (16)) * (16)) % (9973)))]) (rest := []) h (refuses_c (zy (g_z X0) ad2 (gw ad1 (gz_I (g_z X0)) S ++ r)) S2 ((((d3) / (16)) * (16)) % (9973)) hnd2 hl0 (by omega) (by omega)) (va_cwS 2 K.1.2.2.2.2 gL_law_L_refuses rfl rfl rfl (by decide +kernel) ⟨by rw [h.R, hR]; exact Nat.le_of_ble_eq_true rfl, by rw [h.R, hR]; exact Nat.le_of_ble_eq_true rfl⟩) rfl rfl (Nat.le_of_ble_eq_true rfl) dL_law_133 (by rw [h.R, hR]; show a + 40 ≤ 1000; omega) (by rw [h.R, hR]; show c + 240 ≤ 10000; omega) (fun X v S2 w9 hq h => ?_)
    obtain ⟨rfl, hnd2, rfl⟩ := hq
    have h : gCx X0 X cL_law 11 wsL_law ad2 (gw ad1 (gz_I (g_z X0)) S ++ r) (n + rf j) (a + 40) (c + 240) := h
    have K := h.2.1
    refine g_if_eq (tgt := 173) (a := 1) K dL_law_136 (by decide) (by omega) (fun h136 => absurd h136 (by omega)) (fun h136 => ?_)
    refine g_aload_n K 4 dL_law_139 rfl ?_
    refine g_iload K 2 dL_law_140 rfl ?_
    refine g_iconst K 0 dL_law_142 (by decide +kernel) ?_
    refine g_swap h (fun X h => ?_)
    have h : gCx X0 X cL_law 11 wsL_law ad1 (gw ad2 (gz_I (g_z X0)) S2 ++ r) (n + rf j) (a + 40) (c + 240) := h
    have K := h.2.1
    refine g_callU (As := [.ref (ad1 0), .int (nI (((d3) / (16)) * (16))), .int (nI (0))]) (rest := []) h (act_c (zy (g_z X0) ad1 (gw ad2 (gz_I (g_z X0)) S2 ++ r)) S (((d3) / (16)) * (16)) (0) hnd (by omega) (by omega) (by omega) (by omega)) (va_cwS 3 K.1.2.2.2.2 gL_law_L_act rfl rfl rfl (by decide +kernel) ⟨by rw [h.R, hR]; exact Nat.le_of_ble_eq_true rfl, by rw [h.R, hR]; exact Nat.le_of_ble_eq_true rfl⟩) rfl rfl (Nat.le_of_ble_eq_true rfl) dL_law_143 (by rw [h.R, hR]; show (a + 40) + 0 ≤ 1000; omega) (by rw [h.R, hR]; show (c + 240) + 0 ≤ 10000; omega) (fun X v107 S w9 hq h => ?_)
    obtain ⟨hv107, hnd, rfl⟩ := hq
    have h : gCx X0 X cL_law 11 wsL_law ad1 (gw ad2 (gz_I (g_z X0)) S2 ++ r) (n + rf j) (a + 40) (c + 240) := h
    have K := h.2.1
    refine g_aload_n K 5 dL_law_146 rfl ?_
    refine g_iload K 2 dL_law_147 rfl ?_
    refine g_iconst K 1 dL_law_149 (by decide +kernel) ?_
    refine g_swap h (fun X h => ?_)
    have h : gCx X0 X cL_law 11 wsL_law ad2 (gw ad1 (gz_I (g_z X0)) S ++ r) (n + rf j) (a + 40) (c + 240) := h
    have K := h.2.1
    refine g_callU (As := [.ref (ad2 0), .int (nI (((d3) / (16)) * (16))), .int (nI (1))]) (rest := [.int (nI (v107))]) h (act_c (zy (g_z X0) ad2 (gw ad1 (gz_I (g_z X0)) S ++ r)) S2 (((d3) / (16)) * (16)) (1) hnd2 (by omega) (by omega) (by omega) (by omega)) (va_cwS 3 K.1.2.2.2.2 gL_law_L_act rfl rfl rfl (by decide +kernel) ⟨by rw [h.R, hR]; exact Nat.le_of_ble_eq_true rfl, by rw [h.R, hR]; exact Nat.le_of_ble_eq_true rfl⟩) rfl rfl (Nat.le_of_ble_eq_true rfl) dL_law_150 (by rw [h.R, hR]; show (a + 40) + 0 ≤ 1000; omega) (by rw [h.R, hR]; show (c + 240) + 0 ≤ 10000; omega) (fun X v108 S2 w9 hq h => ?_)
    obtain ⟨hv108, hnd2, rfl⟩ := hq
    have h : gCx X0 X cL_law 11 wsL_law ad2 (gw ad1 (gz_I (g_z X0)) S ++ r) (n + rf j) (a + 40) (c + 240) := h
    have K := h.2.1
    refine g_icmp_ne (tgt := 173) (a := v107) (b := v108) K dL_law_153 (by decide) (by omega) (by omega) (fun h153 => ?_) (fun h153 => ?_)
    · refine g_iconst K 0 dL_law_173 (by decide +kernel) ?_
      refine g_istore (lo' := [(5, .int (nI (0))), (9, .int (nI (z))), (8, .int (nI (0))), (7, .int (nI (((d3) / (16)) * (16)))), (0, .ref (b)), (1, .ref (ad1 0)), (2, .ref (ad2 0)), (3, .ref (qp)), (4, .int (nI (th))), (6, .int (nI (j)))]) K dL_law_174 (by decide) rfl ?_
      refine g_aload_n K 5 dL_law_176 rfl ?_
      refine g_swap h (fun X h => ?_)
      have h : gCx X0 X cL_law 11 wsL_law ad1 (gw ad2 (gz_I (g_z X0)) S2 ++ r) (n + rf j) (a + 40) (c + 240) := h
      have K := h.2.1
      refine g_callVq (As := []) (rest := []) h (cX5_pipes_k (zy (g_z X0) ad1 (gw ad2 (gz_I (g_z X0)) S2 ++ r)) S) (cwV 0 K.1.2.2.2.2 gL_law_X5_pipes rfl rfl rfl (by decide +kernel) ⟨by rw [h.R, hR]; exact Nat.le_of_ble_eq_true rfl, by rw [h.R, hR]; exact Nat.le_of_ble_eq_true rfl⟩) rfl rfl (Nat.le_of_ble_eq_true rfl) dL_law_177 ?_
      refine g_topE (0) hnd.2.2.1 ?_
      refine g_iload K 2 dL_law_180 rfl ?_
      refine g_icmp_le (tgt := 229) (a := 0) (b := 0) K dL_law_182 (by decide) (by omega) (by omega) (fun h182 => ?_) (fun h182 => absurd h182 (by omega))
      refine g_iload K 0 dL_law_229 rfl ?_
      refine g_if_eq (tgt := 259) (a := 0) K dL_law_231 (by decide) (by omega) (fun h231 => ?_) (fun h231 => absurd h231 (by omega))
      refine g_iconst K 0 dL_law_259 (by decide +kernel) ?_
      refine g_istore (lo' := [(5, .int (nI (0))), (9, .int (nI (z))), (8, .int (nI (0))), (7, .int (nI (((d3) / (16)) * (16)))), (0, .ref (b)), (1, .ref (ad1 0)), (2, .ref (ad2 0)), (3, .ref (qp)), (4, .int (nI (th))), (6, .int (nI (j)))]) K dL_law_260 (by decide) rfl ?_
      refine g_iinc (a := j) (b := j + 1) (lo' := [(6, .int (nI (j + 1))), (5, .int (nI (0))), (9, .int (nI (z))), (8, .int (nI (0))), (7, .int (nI (((d3) / (16)) * (16)))), (0, .ref (b)), (1, .ref (ad1 0)), (2, .ref (ad2 0)), (3, .ref (qp)), (4, .int (nI (th)))]) K 9 dL_law_262 rfl (gi_inc _) (by decide) rfl ?_
      refine g_goto (tgt := 40) K dL_law_265 (by decide) ?_
      refine g_loc (lo' := [(0, .ref (b)), (1, .ref (ad1 0)), (2, .ref (ad2 0)), (3, .ref (qp)), (4, .int (nI (th))), (5, .int (nI (0))), (6, .int (nI (j + 1)))]) [5, 6, 7, 8, 9, 1, 0] rfl ?_
      exact law_exit hR hzero (by omega) hth h
    · refine g_aload_n K 5 dL_law_156 rfl ?_
      refine g_iload K 2 dL_law_157 rfl ?_
      refine g_sipush K 499 dL_law_159 (by decide +kernel) ?_
      refine g_irem (a := ((d3) / (16)) * (16)) (b := 499) K (by omega) (by omega) (by omega) dL_law_162 ?_
      refine g_callU (As := [.ref (ad2 0), .int (nI ((((d3) / (16)) * (16)) % (499)))]) (rest := []) h (refuses_c (zy (g_z X0) ad2 (gw ad1 (gz_I (g_z X0)) S ++ r)) S2 ((((d3) / (16)) * (16)) % (499)) hnd2 hl0 (by omega) (by omega)) (va_cwS 2 K.1.2.2.2.2 gL_law_L_refuses rfl rfl rfl (by decide +kernel) ⟨by rw [h.R, hR]; exact Nat.le_of_ble_eq_true rfl, by rw [h.R, hR]; exact Nat.le_of_ble_eq_true rfl⟩) rfl rfl (Nat.le_of_ble_eq_true rfl) dL_law_163 (by rw [h.R, hR]; show (a + 40) + 40 ≤ 1000; omega) (by rw [h.R, hR]; show (c + 240) + 240 ≤ 10000; omega) (fun X v S2 w9 hq h => ?_)
      obtain ⟨rfl, hnd2, rfl⟩ := hq
      have h : gCx X0 X cL_law 11 wsL_law ad2 (gw ad1 (gz_I (g_z X0)) S ++ r) ((n + rf j) + rf (j + 1)) ((a + 40) + 40) ((c + 240) + 240) := h
      have K := h.2.1
      refine g_if_eq (tgt := 173) (a := 1) K dL_law_166 (by decide) (by omega) (fun h166 => absurd h166 (by omega)) (fun h166 => ?_)
      refine g_iconst K 1 dL_law_169 (by decide +kernel) ?_
      refine g_goto (tgt := 174) K dL_law_170 (by decide) ?_
      refine g_istore (lo' := [(5, .int (nI (1))), (9, .int (nI (z))), (8, .int (nI (0))), (7, .int (nI (((d3) / (16)) * (16)))), (0, .ref (b)), (1, .ref (ad1 0)), (2, .ref (ad2 0)), (3, .ref (qp)), (4, .int (nI (th))), (6, .int (nI (j)))]) K dL_law_174 (by decide) rfl ?_
      refine g_aload_n K 5 dL_law_176 rfl ?_
      refine g_swap h (fun X h => ?_)
      have h : gCx X0 X cL_law 11 wsL_law ad1 (gw ad2 (gz_I (g_z X0)) S2 ++ r) ((n + rf j) + rf (j + 1)) ((a + 40) + 40) ((c + 240) + 240) := h
      have K := h.2.1
      refine g_callVq (As := []) (rest := []) h (cX5_pipes_k (zy (g_z X0) ad1 (gw ad2 (gz_I (g_z X0)) S2 ++ r)) S) (cwV 0 K.1.2.2.2.2 gL_law_X5_pipes rfl rfl rfl (by decide +kernel) ⟨by rw [h.R, hR]; exact Nat.le_of_ble_eq_true rfl, by rw [h.R, hR]; exact Nat.le_of_ble_eq_true rfl⟩) rfl rfl (Nat.le_of_ble_eq_true rfl) dL_law_177 ?_
      refine g_topE (0) hnd.2.2.1 ?_
      refine g_iload K 2 dL_law_180 rfl ?_
      refine g_icmp_le (tgt := 229) (a := 0) (b := 0) K dL_law_182 (by decide) (by omega) (by omega) (fun h182 => ?_) (fun h182 => absurd h182 (by omega))
      refine g_iload K 0 dL_law_229 rfl ?_
      refine g_if_eq (tgt := 259) (a := 1) K dL_law_231 (by decide) (by omega) (fun h231 => absurd h231 (by omega)) (fun h231 => ?_)
      refine g_aload_n K 5 dL_law_234 rfl ?_
      refine g_aload_n K 6 dL_law_235 rfl ?_
      refine g_iload K 3 dL_law_236 rfl ?_
      refine g_bipush K 7 dL_law_238 (by decide +kernel) ?_
      refine g_idiv (a := ((d3) / (16)) * (16)) (b := 7) K (by omega) (by omega) (by omega) dL_law_240 ?_
      refine g_callU (As := [.ref (ad1 0), .ref (ad2 0), .int (nI ((((d3) / (16)) * (16)) / (7)))]) (rest := []) h (alike_c (zy (g_z X0) ad1 (gw ad2 (gz_I (g_z X0)) S2 ++ r)) S S2 ((((d3) / (16)) * (16)) / (7)) ad2 r hnd hnd2 rfl (by omega)) (va_cwS 3 K.1.2.2.2.2 gL_law_L_alike rfl rfl rfl (by decide +kernel) ⟨by rw [h.R, hR]; exact Nat.le_of_ble_eq_true rfl, by rw [h.R, hR]; exact Nat.le_of_ble_eq_true rfl⟩) rfl rfl (Nat.le_of_ble_eq_true rfl) dL_law_241 (by rw [h.R, hR]; show ((a + 40) + 40) + 0 ≤ 1000; omega) (by rw [h.R, hR]; show ((c + 240) + 240) + 0 ≤ 10000; omega) (fun X v116 S w9 hq h => ?_)
      obtain ⟨hv116, hnd, S2, hnd2, rfl⟩ := hq
      have h : gCx X0 X cL_law 11 wsL_law ad1 (gw ad2 (gz_I (g_z X0)) S2 ++ r) ((n + rf j) + rf (j + 1)) ((a + 40) + 40) ((c + 240) + 240) := h
      have K := h.2.1
      refine g_if_eq (tgt := 259) (a := v116) K dL_law_244 (by decide) (by omega) (fun h244 => ?_) (fun h244 => ?_)
      · refine g_iconst K 0 dL_law_259 (by decide +kernel) ?_
        refine g_istore (lo' := [(5, .int (nI (0))), (9, .int (nI (z))), (8, .int (nI (0))), (7, .int (nI (((d3) / (16)) * (16)))), (0, .ref (b)), (1, .ref (ad1 0)), (2, .ref (ad2 0)), (3, .ref (qp)), (4, .int (nI (th))), (6, .int (nI (j)))]) K dL_law_260 (by decide) rfl ?_
        refine g_iinc (a := j) (b := j + 1) (lo' := [(6, .int (nI (j + 1))), (5, .int (nI (0))), (9, .int (nI (z))), (8, .int (nI (0))), (7, .int (nI (((d3) / (16)) * (16)))), (0, .ref (b)), (1, .ref (ad1 0)), (2, .ref (ad2 0)), (3, .ref (qp)), (4, .int (nI (th)))]) K 9 dL_law_262 rfl (gi_inc _) (by decide) rfl ?_
        refine g_goto (tgt := 40) K dL_law_265 (by decide) ?_
        refine g_loc (lo' := [(0, .ref (b)), (1, .ref (ad1 0)), (2, .ref (ad2 0)), (3, .ref (qp)), (4, .int (nI (th))), (5, .int (nI (0))), (6, .int (nI (j + 1)))]) [5, 6, 7, 8, 9, 1, 0] rfl ?_
        exact law_exit hR hzero (by omega) hth h
      · refine g_aload_n K 5 dL_law_247 rfl ?_
        refine g_aload_n K 7 dL_law_248 rfl ?_
        refine g_callU (As := [.ref (ad1 0), .ref (qp)]) (rest := []) h (holds_c (zy (g_z X0) ad1 (gw ad2 (gz_I (g_z X0)) S2 ++ r)) S qp hnd hl0) (va_cwS 2 K.1.2.2.2.2 gL_law_L_holds rfl rfl rfl (by decide +kernel) ⟨by rw [h.R, hR]; exact Nat.le_of_ble_eq_true rfl, by rw [h.R, hR]; exact Nat.le_of_ble_eq_true rfl⟩) rfl rfl (Nat.le_of_ble_eq_true rfl) dL_law_249 (by rw [h.R, hR]; show ((a + 40) + 40) + 1 ≤ 1000; omega) (by rw [h.R, hR]; show ((c + 240) + 240) + 6 ≤ 10000; omega) (fun X v118 S w9 hq h => ?_)
        obtain ⟨hv118, hnd, rfl⟩ := hq
        have h : gCx X0 X cL_law 11 wsL_law ad1 (gw ad2 (gz_I (g_z X0)) S2 ++ r) ((n + rf j) + rf (j + 1)) (((a + 40) + 40) + 1) (((c + 240) + 240) + 6) := h
        have K := h.2.1
        refine g_if_eq (tgt := 259) (a := v118) K dL_law_252 (by decide) (by omega) (fun h252 => ?_) (fun h252 => ?_)
        · refine g_iconst K 0 dL_law_259 (by decide +kernel) ?_
          refine g_istore (lo' := [(5, .int (nI (0))), (9, .int (nI (z))), (8, .int (nI (0))), (7, .int (nI (((d3) / (16)) * (16)))), (0, .ref (b)), (1, .ref (ad1 0)), (2, .ref (ad2 0)), (3, .ref (qp)), (4, .int (nI (th))), (6, .int (nI (j)))]) K dL_law_260 (by decide) rfl ?_
          refine g_iinc (a := j) (b := j + 1) (lo' := [(6, .int (nI (j + 1))), (5, .int (nI (0))), (9, .int (nI (z))), (8, .int (nI (0))), (7, .int (nI (((d3) / (16)) * (16)))), (0, .ref (b)), (1, .ref (ad1 0)), (2, .ref (ad2 0)), (3, .ref (qp)), (4, .int (nI (th)))]) K 9 dL_law_262 rfl (gi_inc _) (by decide) rfl ?_
          refine g_goto (tgt := 40) K dL_law_265 (by decide) ?_
          refine g_loc (lo' := [(0, .ref (b)), (1, .ref (ad1 0)), (2, .ref (ad2 0)), (3, .ref (qp)), (4, .int (nI (th))), (5, .int (nI (0))), (6, .int (nI (j + 1)))]) [5, 6, 7, 8, 9, 1, 0] rfl ?_
          exact law_exit hR hzero (by omega) hth h
        · refine g_iconst K 1 dL_law_255 (by decide +kernel) ?_
          refine g_goto (tgt := 260) K dL_law_256 (by decide) ?_
          refine g_istore (lo' := [(5, .int (nI (1))), (9, .int (nI (z))), (8, .int (nI (0))), (7, .int (nI (((d3) / (16)) * (16)))), (0, .ref (b)), (1, .ref (ad1 0)), (2, .ref (ad2 0)), (3, .ref (qp)), (4, .int (nI (th))), (6, .int (nI (j)))]) K dL_law_260 (by decide) rfl ?_
          refine g_iinc (a := j) (b := j + 1) (lo' := [(6, .int (nI (j + 1))), (5, .int (nI (1))), (9, .int (nI (z))), (8, .int (nI (0))), (7, .int (nI (((d3) / (16)) * (16)))), (0, .ref (b)), (1, .ref (ad1 0)), (2, .ref (ad2 0)), (3, .ref (qp)), (4, .int (nI (th)))]) K 9 dL_law_262 rfl (gi_inc _) (by decide) rfl ?_
          refine g_goto (tgt := 40) K dL_law_265 (by decide) ?_
          refine g_loc (lo' := [(0, .ref (b)), (1, .ref (ad1 0)), (2, .ref (ad2 0)), (3, .ref (qp)), (4, .int (nI (th))), (5, .int (nI (1))), (6, .int (nI (j + 1)))]) [5, 6, 7, 8, 9, 1, 0] rfl ?_
          exact kk X S S2 hnd hnd2 h
  refine g_if_ne (tgt := 120) (a := j) K dL_law_113 (by decide) (by omega) (fun h113 => ?_) (fun h113 => ?_)
  · refine g_aload_n K 3 dL_law_120 rfl ?_
    refine g_callVq (As := []) (rest := []) h (cX5_nodes_k (zy (g_z X0) ad1 (gw ad2 (gz_I (g_z X0)) S2 ++ r)) S) (cwV 0 K.1.2.2.2.2 gL_law_X5_nodes rfl rfl rfl (by decide +kernel) ⟨by rw [h.R, hR]; exact Nat.le_of_ble_eq_true rfl, by rw [h.R, hR]; exact Nat.le_of_ble_eq_true rfl⟩) rfl rfl (Nat.le_of_ble_eq_true rfl) dL_law_121 ?_
    refine g_topE (j) hnd.2.1 ?_
    exact go _
  · refine g_iconst K 1 dL_law_116 (by decide +kernel) ?_
    refine g_goto (tgt := 124) K dL_law_117 (by decide) ?_
    exact go _

