/-! THE LAW FROM ITS ENTRY, to a heap that is too large -/
/-! THE CLAIM OUT OF ONE WALK OF THE LAW'S BODY. Your part is whole_start (and what it stands on); all else here is the same for every law, but numbers. -/
def R_law : String := "ValveWalkLaw"
def lw_P (b : Addr) (xs : List Int32) (args : Array Value) (s : State) : Prop := args = #[.ref b] ∧ s.IntsAt b xs ∧ xs.length ≤ 260 ∧ (Jvm.Cond.and given_1 narrow_1).before args s = true
def lw_Q (_ : Array Value) (s : State) (o : Outcome) (t : State) : Prop := o = .returned (some (.int 1)) ∧ Framed s o t [] 165 2554
def lw_Z (below : List Frame) (a : Array Value) (s : State) : State → Prop := fun t => ∃ o, t.status = .running ∧ Ended t below o ∧ lw_Q a s o t
/-- the law's own end, with 1 on the stack, nothing written that was there before, its room as the claim has it -/
theorem lw_ret {p : Program} {l : Launch} {e : Env} {s : State} {m : MethodId} {below : List Frame} {meth : Method} {c : Code} {b : Nat} (hx : p.tables.exec = Jvm.exec) (hb : c.code = code) (hr : meth.sig.returnType = ret) (hlocks : meth.locks = false) {pc : Nat} {H : Heap} {ls : Array Slot} (hdg : decode code pc = .ok (.ireturn, 1)) : W p l e room_1 s m #[Value.ref b] below meth c H [] 165 2554 (lw_Z below #[Value.ref b] s) (F0 m pc ls [.int 1]) := by
  intro T hT X
  obtain ⟨fs, hret, hrun, hended, hW, hframe⟩ := X.leave (v := some (.int 1)) (hlocks := hlocks) (fun h => by rw [hr] at h; cases h)
  have hmeth' : T.vm.method? m = some meth := X.method'
  refine ⟨T.setFrames fs, ?_, .returned (some (.int 1)), hrun, hended, rfl, ⟨_, rfl⟩, hW, hframe⟩
  jvm_step X.here [X.here.top, hx, hb, hdg, hmeth', hr, ret, narrow_b1]
  (try refine ⟨rfl, ?_⟩); (try refine ⟨rfl, ?_⟩)
  first | (intro acts; rw [hret _ acts rfl rfl rfl]) | rw [hret _ _ rfl rfl rfl]
  exact Steps.refl _
/-- what holds at the law's entry: the machine, the code, the tables' words (any of lw_tbl by 'hts w (by decide +kernel)'), the script of L ints xs at the cell b, what the Statement gives of the start (any of its parts by flat_of_before) -/
def lw_At (p : Program) (s : State) (m : MethodId) (meth : Method) (c : Code) (b L : Nat) (xs : Nat → Int32) : Prop :=
  p.tables.exec = Jvm.exec ∧ c.code = code ∧ meth.sig.returnType = ret ∧ c.maxLocals = 11 ∧ s.vm.findClass R_law = some m.cls ∧ (∀ w ∈ lw_tbl, w.before #[Value.ref b] s = true) ∧ va_X b L xs s s.heap ∧ b < s.heap.size ∧ meth.locks = false ∧ (Jvm.Cond.and given_1 narrow_1).before #[Value.ref b] s = true

theorem nd_0 : nd (fun _ _ => 0) 0 := ⟨⟨by decide, by decide, by decide, by decide, by decide, by decide, fun _ => Nat.zero_le _, fun _ => Nat.zero_le _, fun _ => (by decide : 0 < 12), fun _ => (by decide : 0 < 4096), fun _ => (by decide : 0 < 268435456), fun _ => (by decide : 0 < 32)⟩, rfl, rfl, rfl⟩
set_option maxHeartbeats 4000000 in
set_option maxRecDepth 100000 in
theorem law_21 {X0 : gC} {b L qp : Nat} {xs : Nat → Int32} {ad1 ad2 : Nat → Nat} {r : va_W} {a0 c0 : Nat} {S S2 : Nat → Nat → Nat} (hnd : nd S 0) (hnd2 : nd S2 0) (hR : g_R X0 = rmW) (hl0 : (gz_l (g_z X0)).stackTraces = false) (B : gScr X0 b L xs) (hzero : ∀ (X : gC) (S : Nat → Nat → Nat) (w : va_W) (n a c pc : Nat) (lo : List (Nat × Value)), gCx X0 X cL_law 11 wsL_law ad1 w n a c → decode cL_law pc = .ok (.ireturn, 1) → gG X pc lo [.int (nI 0)] S) (hbig : ∀ (X : gC) (S : Nat → Nat → Nat) (w : va_W) (n a c pc : Nat) (lo : List (Nat × Value)) (st : List Value), gCx X0 X cL_law 11 wsL_law ad1 w n a c → 166 ≤ n → gG X pc lo st S) (ha : a0 ≤ 100) (hc : c0 ≤ 2000) (h : gCx X0 X0 cL_law 11 wsL_law ad1 (gw ad2 (gz_I (g_z X0)) S2 ++ r) 0 a0 c0) : gG X0 21 [(3, .ref (qp)), (2, .ref (ad2 0)), (1, .ref (ad1 0)), (0, .ref (b))] [] S := by
  have K := h.2.1
  have B0 := B
  refine g_bipush K 14 dL_law_21 (by decide +kernel) ?_
  refine g_aload_n K 3 dL_law_23 rfl ?_
  refine g_iconst K 0 dL_law_24 (by decide +kernel) ?_
  refine g_callD (As := [.ref (b), .int (nI (0))]) (rest := [.int (nI (14))]) h B0 (drawn_c (zy (g_z X0) ad1 (gw ad2 (gz_I (g_z X0)) S2 ++ r)) S b (0) L xs B.2.2.2 (by omega)) (va_cwS 2 K.1.2.2.2.2 gL_law_L_drawn rfl rfl rfl (by decide +kernel) ⟨by rw [h.R, hR]; exact Nat.le_of_ble_eq_true rfl, by rw [h.R, hR]; exact Nat.le_of_ble_eq_true rfl⟩) rfl rfl (Nat.le_of_ble_eq_true rfl) dL_law_25 (fun d1 hd1 => ?_)
  refine g_bipush K 23 dL_law_28 (by decide +kernel) ?_
  refine g_irem (a := d1) (b := 23) K (by omega) (by omega) (by omega) dL_law_30 ?_
  refine g_iadd (a := 14) (b := (d1) % (23)) K dL_law_31 ?_
  refine g_istore (lo' := [(4, .int (nI ((14) + ((d1) % (23))))), (3, .ref (qp)), (2, .ref (ad2 0)), (1, .ref (ad1 0)), (0, .ref (b))]) K dL_law_32 (by decide) rfl ?_
  refine g_iconst K 1 dL_law_34 (by decide +kernel) ?_
  refine g_istore (lo' := [(5, .int (nI (1))), (4, .int (nI ((14) + ((d1) % (23))))), (3, .ref (qp)), (2, .ref (ad2 0)), (1, .ref (ad1 0)), (0, .ref (b))]) K dL_law_35 (by decide) rfl ?_
  refine g_iconst K 0 dL_law_37 (by decide +kernel) ?_
  refine g_istore (lo' := [(6, .int (nI (0))), (5, .int (nI (1))), (4, .int (nI ((14) + ((d1) % (23))))), (3, .ref (qp)), (2, .ref (ad2 0)), (1, .ref (ad1 0)), (0, .ref (b))]) K dL_law_38 (by decide) rfl ?_
  refine g_loc (lo' := [(0, .ref (b)), (1, .ref (ad1 0)), (2, .ref (ad2 0)), (3, .ref (qp)), (4, .int (nI ((14) + ((d1) % (23))))), (5, .int (nI (1))), (6, .int (nI (0)))]) [6, 5, 4, 3, 2, 1, 0] rfl ?_
  refine law_act (j := 0) (n := 0) (a := a0) (c := c0) hR hl0 B hzero (by decide) (by omega) (by omega) (by omega) (by omega) hnd hnd2 h (fun X S S2 hnd hnd2 h => ?_)
  refine law_act (j := 1) (n := ((0 + rf 0) + rf (0 + 1))) (a := (((a0 + 40) + 40) + 1)) (c := (((c0 + 240) + 240) + 6)) hR hl0 B hzero (by decide) (by omega) (by omega) (by omega) (by omega) hnd hnd2 h (fun X S S2 hnd hnd2 h => ?_)
  refine law_act (j := 2) (n := ((((0 + rf 0) + rf (0 + 1)) + rf 1) + rf (1 + 1))) (a := ((((((a0 + 40) + 40) + 1) + 40) + 40) + 1)) (c := ((((((c0 + 240) + 240) + 6) + 240) + 240) + 6)) hR hl0 B hzero (by decide) (by omega) (by omega) (by omega) (by omega) hnd hnd2 h (fun X S S2 hnd hnd2 h => ?_)
  refine law_act (j := 3) (n := ((((((0 + rf 0) + rf (0 + 1)) + rf 1) + rf (1 + 1)) + rf 2) + rf (2 + 1))) (a := (((((((((a0 + 40) + 40) + 1) + 40) + 40) + 1) + 40) + 40) + 1)) (c := (((((((((c0 + 240) + 240) + 6) + 240) + 240) + 6) + 240) + 240) + 6)) hR hl0 B hzero (by decide) (by omega) (by omega) (by omega) (by omega) hnd hnd2 h (fun X S S2 hnd hnd2 h => ?_)
  exact hbig X S _ _ _ _ _ _ _ h (by decide)

set_option maxHeartbeats 4000000 in
set_option maxRecDepth 100000 in
theorem start_big {p : Program} {e : Env} {s : State} {m : MethodId} {below : List Frame} {meth : Method} {c : Code} (l : Launch) (hflags : l.flags = flags0) {b L : Nat} {xs : Nat → Int32} (hL : L ≤ 260) (C0 : lw_At p s m meth c b L xs) : W p l e rmW s m #[Value.ref b] below meth c s.heap [] 0 0 (fun t => s.heap.size + 166 ≤ t.heap.size ∨ (t.status = .running ∧ Ended t below (.returned (some (.int 0))))) (entryFrame m ([Value.ref b] : List Value).toArray 11) := by
  obtain ⟨hx, hb, hr, hml, hown, hts, hX, hbl, hlocks, hgv⟩ := id C0
  have hA : ∀ q : Nat, s.heap.size ≤ q → (fun q : Nat => s.heap.size ≤ q) q := fun _ h => h
  have hwl : ∀ w ∈ wsL_law, w.before #[Value.ref b] s = true := fun w h => hts w (wsL_law_in w h)
  have hN : gN s := st_gN hts
  obtain ⟨dC, dI, tI, hK⟩ := st_known hts
  have hS : va_S (fun q : Nat => s.heap.size ≤ q) s.heap s.heap [] := va_S.rf
  have hP : va_P (dC, dI) vwCl [] s.heap := fun k q h => by simp at h
  have hD : va_D (fun q : Nat => s.heap.size ≤ q) [] := ⟨fun i j p q h => by simp at h, fun k q h => by simp at h⟩
  have hl := lv_entry ([.ref b]) (n := 11) (Nat.le_of_ble_eq_true rfl)
  rw [lg_entry_eq]
  generalize (lg_sl ([.ref b]) ++ List.replicate (11 - (lg_sl ([.ref b])).length) Slot.unset).toArray = ls at hl ⊢
  have hl : lv_has ls 11 [(0, .ref b)] := hl
  have hown : s.vm.findClass RL = some m.cls := hown
  refine va_new (ci := 5) (fs := [.null, .null, .null, .null, .null]) (C := RX5) (T := TX5) (N := 5) hx hb hts inX5 tyX5 tyX5_ok hown (hwl (.classLink RL 8 RX5) (by decide +kernel)) (hts _ (tb_in (List.mem_of_getElem? (i := 16) (by decide +kernel)))) (hwl (.initialized RX5) (by decide +kernel)) hK hP hD hS hA rfl (fun j hj => by rcases (show j = 0 ∨ j = 1 ∨ j = 2 ∨ j = 3 ∨ j = 4 by omega) with rfl | rfl | rfl | rfl | rfl <;> rfl) (Nat.le_of_ble_eq_true rfl) (Nat.le_of_ble_eq_true rfl) dL_law_0 (fun q1 H hP hD hS => ?_)
  have hP : va_P (dC, dI) vwCl [(q1, .inr (5, [.null, .null, .null, .null, .null]))] H := hP
  have hD : va_D (fun q : Nat => s.heap.size ≤ q) [(q1, .inr (5, [.null, .null, .null, .null, .null]))] := hD
  refine W.widen (k := 1) (n := 5) (Nat.le_of_ble_eq_true rfl) (Nat.le_of_ble_eq_true rfl) ?_
  refine lv_dup hx hb dL_law_3 rfl ?_
  have hPc := hP.sub (ws' := [(q1, .inr (5, [.null, .null, .null, .null, .null]))]) [0] rfl
  have hDc := hD.sub (ws' := [(q1, .inr (5, [.null, .null, .null, .null, .null]))]) [0] (by decide) rfl
  have hFc := va_free (wc := [(q1, .inr (5, [.null, .null, .null, .null, .null]))]) hD hS hA [0] rfl
  refine va_callv (va_runI (As := []) (rest := [.ref q1]) ⟨hx, hb, hml, hown, hwl⟩ (cX5_init_i l (dC, dI) tI q1 H.size) (cwI 0 hwl gL_law_X5_init rfl rfl rfl (hwl (.initialized RX5) (by decide +kernel)) (hwl (.methodLink RL 159 yX5_init) (by decide +kernel)) (hwl (.instanceMethod yX5_init) (by decide +kernel)) rfl (by decide +kernel) ⟨(Nat.le_of_ble_eq_true rfl), (Nat.le_of_ble_eq_true rfl)⟩) ⟨fun a U g mk q => by obtain ⟨z0, q1, qP, qK, qD, qN⟩ := q; exact ⟨z0, q1, qP, va_K.moved (u := U) (U := U.calling g mk a) (Vm.Alike.refl U.vm) qK, qD, gN.same (u := U) (U := U.calling g mk a) rfl qN⟩, fun U hU hW => ⟨rfl, by rw [hU], by rw [hU]; exact hPc, va_K.moved hW.alike hK, hDc.weaken (fun _ _ _ _ => trivial), gN.warm hW hN⟩⟩ rfl rfl hl.1 rfl (lv_room (Nat.le_of_ble_eq_true rfl)) dL_law_4 ⟨(Nat.le_of_ble_eq_true rfl), (Nat.le_of_ble_eq_true rfl)⟩) hS (fun q _ h => hFc q h) hFc (fun u1 t H1 locs ht hvm hw hB hz1 hk1 hS => ?_)
  obtain ⟨hP1, hK1, hD1⟩ := hB
  rw [ht] at hP1
  have hu1 : u1 0 = q1 := hw
  obtain ⟨hP, hD⟩ := va_join (wr := []) (w1 := gmk u1 tI (fun _ _ => 0) 0 (shW.take 22)) hP hD [0] [] rfl rfl (by decide) (by decide) hk1 hFc hP1 hD1
  generalize H1 = H at hP hS ⊢
  have hP : va_P (dC, dI) vwCl (gmk u1 tI (fun _ _ => 0) 0 (shW.take 22)) H := hP
  have hD : va_D (fun q : Nat => s.heap.size ≤ q) (gmk u1 tI (fun _ _ => 0) 0 (shW.take 22)) := hD
  refine W.widen (k := 22) (n := 805) (Nat.le_of_ble_eq_true rfl) (Nat.le_of_ble_eq_true rfl) ?_
  refine lv_astore_n (lv' := [(1, .ref q1), (0, .ref b)]) hx hb dL_law_7 rfl hl (by decide) rfl (fun ls hl => ?_)
  refine va_new (ci := 5) (fs := [.null, .null, .null, .null, .null]) (C := RX5) (T := TX5) (N := 5) hx hb hts inX5 tyX5 tyX5_ok hown (hwl (.classLink RL 8 RX5) (by decide +kernel)) (hts _ (tb_in (List.mem_of_getElem? (i := 16) (by decide +kernel)))) (hwl (.initialized RX5) (by decide +kernel)) hK hP hD hS hA rfl (fun j hj => by rcases (show j = 0 ∨ j = 1 ∨ j = 2 ∨ j = 3 ∨ j = 4 by omega) with rfl | rfl | rfl | rfl | rfl <;> rfl) (Nat.le_of_ble_eq_true rfl) (Nat.le_of_ble_eq_true rfl) dL_law_8 (fun q2 H hP hD hS => ?_)
  refine W.widen (k := 23) (n := 810) (Nat.le_of_ble_eq_true rfl) (Nat.le_of_ble_eq_true rfl) ?_
  refine lv_dup hx hb dL_law_11 rfl ?_
  have hPc := hP.sub (ws' := [(q2, .inr (5, [.null, .null, .null, .null, .null]))]) [22] rfl
  have hDc := hD.sub (ws' := [(q2, .inr (5, [.null, .null, .null, .null, .null]))]) [22] (by decide) rfl
  have hFc := va_free (wc := [(q2, .inr (5, [.null, .null, .null, .null, .null]))]) hD hS hA [22] rfl
  refine va_callv (va_runI (As := []) (rest := [.ref q2]) ⟨hx, hb, hml, hown, hwl⟩ (cX5_init_i l (dC, dI) tI q2 H.size) (cwI 0 hwl gL_law_X5_init rfl rfl rfl (hwl (.initialized RX5) (by decide +kernel)) (hwl (.methodLink RL 159 yX5_init) (by decide +kernel)) (hwl (.instanceMethod yX5_init) (by decide +kernel)) rfl (by decide +kernel) ⟨(Nat.le_of_ble_eq_true rfl), (Nat.le_of_ble_eq_true rfl)⟩) ⟨fun a U g mk q => by obtain ⟨z0, q1, qP, qK, qD, qN⟩ := q; exact ⟨z0, q1, qP, va_K.moved (u := U) (U := U.calling g mk a) (Vm.Alike.refl U.vm) qK, qD, gN.same (u := U) (U := U.calling g mk a) rfl qN⟩, fun U hU hW => ⟨rfl, by rw [hU], by rw [hU]; exact hPc, va_K.moved hW.alike hK, hDc.weaken (fun _ _ _ _ => trivial), gN.warm hW hN⟩⟩ rfl rfl hl.1 rfl (lv_room (Nat.le_of_ble_eq_true rfl)) dL_law_12 ⟨(Nat.le_of_ble_eq_true rfl), (Nat.le_of_ble_eq_true rfl)⟩) hS (fun q _ h => hFc q h) hFc (fun u2 t H1 locs ht hvm hw hB hz1 hk1 hS => ?_)
  obtain ⟨hP1, hK1, hD1⟩ := hB
  rw [ht] at hP1
  have hu2 : u2 0 = q2 := hw
  obtain ⟨hP, hD⟩ := va_join (wr := gmk u1 tI (fun _ _ => 0) 0 (shW.take 22)) (w1 := gmk u2 tI (fun _ _ => 0) 0 (shW.take 22)) hP hD [22] [0, 1, 2, 3, 4, 5, 6, 7, 8, 9, 10, 11, 12, 13, 14, 15, 16, 17, 18, 19, 20, 21] rfl rfl (by decide) (by decide) hk1 hFc hP1 hD1
  generalize H1 = H at hP hS ⊢
  refine W.widen (k := 44) (n := 1610) (Nat.le_of_ble_eq_true rfl) (Nat.le_of_ble_eq_true rfl) ?_
  refine lv_astore_n (lv' := [(2, .ref q2), (1, .ref q1), (0, .ref b)]) hx hb dL_law_15 rfl hl (by decide) rfl (fun ls hl => ?_)
  refine lv_bipush (v := nI 16) hx hb dL_law_16 (by decide +kernel) ?_
  refine gi_newa hx hb (hts _ (tb_in arr_inI)) hK hP hD hS hA 16 (by decide +kernel) (by decide +kernel) (Nat.le_of_ble_eq_true rfl) (Nat.le_of_ble_eq_true rfl) (Nat.le_of_ble_eq_true rfl) dL_law_18 (fun qp H hP hD hS => ?_)
  refine W.widen (k := 45) (n := 1626) (Nat.le_of_ble_eq_true rfl) (Nat.le_of_ble_eq_true rfl) ?_
  refine lv_astore_n (lv' := [(3, .ref qp), (2, .ref q2), (1, .ref q1), (0, .ref b)]) hx hb dL_law_20 rfl hl (by decide) rfl (fun ls hl => ?_)
  have hl9 : lv_has ls 11 [(3, .ref qp), (2, .ref (u2 0)), (1, .ref (u1 0)), (0, .ref b)] := by rw [hu1, hu2]; exact hl
  have hst : l.stackTraces = false := by
    show (!l.flags.contains noTraceFlag) = false
    rw [hflags]; decide +kernel
  have ea : (gmk u1 tI (fun _ _ => 0) 0 (shW.take 22) ++ gmk u2 tI (fun _ _ => 0) 0 (shW.take 22)) ++ [(qp, .inl (tI, 16, .inl (fun _ => nI 0)))] = gw u1 tI (fun _ _ => 0) ++ (gw u2 tI (fun _ _ => 0) ++ [(qp, .inl (tI, 16, .inl (fun _ => nI 0)))]) := List.append_assoc _ _ _
  rw [ea] at hP hD
  generalize ([(qp, .inl (tI, 16, .inl (fun _ => nI 0)))] : va_W) = wq at hP hD
  have K0 : gOk ((l, (dC, dI), u1, tI, tI, gw u2 tI (fun _ _ => 0) ++ wq), p, e, rmW, s, m, #[Value.ref b], below, meth, c, 11, (fun q : Nat => s.heap.size ≤ q), s.heap, (fun t => s.heap.size + 166 ≤ t.heap.size ∨ (t.status = .running ∧ Ended t below (.returned (some (.int 0))))), 45, 1626) cL_law 11 wsL_law RL :=
    ⟨⟨hx, hb, hml, hown, hwl⟩, rfl, hK, hN, fun q h => h, (Nat.le_of_ble_eq_true rfl), (Nat.le_of_ble_eq_true rfl)⟩
  exact law_21 (X0 := ((l, (dC, dI), u1, tI, tI, gw u2 tI (fun _ _ => 0) ++ wq), p, e, rmW, s, m, #[Value.ref b], below, meth, c, 11, (fun q : Nat => s.heap.size ≤ q), s.heap, (fun t => s.heap.size + 166 ≤ t.heap.size ∨ (t.status = .running ∧ Ended t below (.returned (some (.int 0))))), 45, 1626)) (b := b) (L := L) (xs := xs) (r := wq) (ad1 := u1) (ad2 := u2) (a0 := 45) (c0 := 1626) nd_0 nd_0 rfl hst ⟨hX, hbl, Nat.not_le.mpr hbl, hL⟩
    (fun X S w n a cc pc lo h hdg => by
      obtain ⟨⟨ad0, w0, H0, a0, b0, rfl, r1, r2⟩, -⟩ := h
      intro ls H locs hl hP hD hS T hT X
      show ∃ t, Steps p.tables e below (T.setTop (F0 m pc ls [.int (nI 0)])) t ∧ (fun t => s.heap.size + 166 ≤ t.heap.size ∨ (t.status = .running ∧ Ended t below (.returned (some (.int 0))))) t
      rw [nI_0]
      have X : Stand p l e rmW s m #[Value.ref b] below meth c T locs a0 b0 := X
      obtain ⟨fs, hret, hrun, hended, hW, hframe⟩ := X.leave (v := some (.int 0)) (hlocks := hlocks) (fun h => by rw [hr] at h; cases h)
      have hmeth' : T.vm.method? m = some meth := X.method'
      refine ⟨T.setFrames fs, ?_, Or.inr ⟨hrun, hended⟩⟩
      have hdg' : decode code pc = .ok (.ireturn, 1) := hdg
      jvm_step X.here [X.here.top, hx, hb, hdg', hmeth', hr, ret, narrow_b0]
      (try refine ⟨rfl, ?_⟩); (try refine ⟨rfl, ?_⟩)
      first | (intro acts; rw [hret _ acts rfl rfl rfl]) | rw [hret _ _ rfl rfl rfl]
      exact Steps.refl _)
    (fun X S w n a cc pc lo st h hn => by
      obtain ⟨⟨ad0, w0, H0, a0, b0, rfl, r1, r2⟩, -⟩ := h
      have r1 : s.heap.size + n ≤ H0.size := r1
      intro ls H locs hl hP hD hS T hT X
      have h1 : H0.size ≤ H.size := hS.1
      exact ⟨_, Steps.refl _, Or.inl (by show s.heap.size + 166 ≤ T.heap.size; rw [hT]; omega)⟩)
    (Nat.le_of_ble_eq_true rfl) (Nat.le_of_ble_eq_true rfl) (gCx.rf K0 (st_gT hts hgv) (st_gNc hgv)) ls H _ hl9 hP hD hS

