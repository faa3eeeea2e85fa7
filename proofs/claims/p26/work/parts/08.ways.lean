/-! Breaks: ways of water, and trying sets -/
def wfU (S : Nat → Nat → Nat) : Prop := ∀ q j, S q j < 4294967296
theorem wfU_up {S : Nat → Nat → Nat} (h : wfU S) (q : Nat) {d : Nat → Nat} (hd : ∀ j, d j < 4294967296) : wfU (va_up S q d) := by
  intro z j; simp only [va_up]; split
  · exact hd j
  · exact h z j
theorem upU {d : Nat → Nat} (hd : ∀ j, d j < 4294967296) (k : Nat) {x : Nat} (hx : x < 4294967296) : ∀ j, va_up d k x j < 4294967296 := by
  intro j; simp only [va_up]; split
  · exact hx
  · exact hd j
def fAdd (S : Nat → Nat → Nat) (v : Nat) (x : Nat × Nat × (Nat → Nat) × (Nat → Nat)) : Nat × Nat × (Nat → Nat) × (Nat → Nat) :=
  if dirAc S (S 11) (S 12) (S 13) v x.1 = 0 then x else if 12 ≤ x.2.1 then x else (x.1 ||| (S 11 v ||| S 12 v), x.2.1 + 1, va_up x.2.2.1 x.2.1 v, va_up x.2.2.2 v (dirAc S (S 11) (S 12) (S 13) v x.1))
def addPass (S : Nat → Nat → Nat) (x : Nat × Nat × (Nat → Nat) × (Nat → Nat)) : Nat × Nat × (Nat → Nat) × (Nat → Nat) := gfor (fAdd S) (S 1 2) 0 x
def srchGo (S : Nat → Nat → Nat) : Nat → Nat × Nat × (Nat → Nat) × (Nat → Nat) → Nat × Nat × (Nat → Nat) × (Nat → Nat)
  | 0, x => x
  | k + 1, x => if (addPass S x).1 = x.1 then addPass S x else srchGo S k (addPass S x)
theorem srchGo_pos {S : Nat → Nat → Nat} {k : Nat} {x : Nat × Nat × (Nat → Nat) × (Nat → Nat)} (h : (addPass S x).1 = x.1) : srchGo S (k + 1) x = addPass S x := by rw [srchGo, if_pos h]
theorem srchGo_neg {S : Nat → Nat → Nat} {k : Nat} {x : Nat × Nat × (Nat → Nat) × (Nat → Nat)} (h : ¬ (addPass S x).1 = x.1) : srchGo S (k + 1) x = srchGo S k (addPass S x) := by rw [srchGo, if_neg h]
def srch (S : Nat → Nat → Nat) (f : Nat) : Nat × Nat × (Nat → Nat) × (Nat → Nat) := srchGo S 12 (f, 0, S 14, S 15)
def addV (S : Nat → Nat → Nat) (f g : Nat) : Nat := if (srch S f).1 &&& g = 0 then 0 else 1
theorem addV_le (S : Nat → Nat → Nat) (f g : Nat) : addV S f g ≤ 1 := by unfold addV; split <;> omega
def addS (S : Nat → Nat → Nat) (f g : Nat) : Nat → Nat → Nat := if (srch S f).1 &&& g = 0 then va_up (va_up S 14 (srch S f).2.2.1) 15 (srch S f).2.2.2 else va_up (va_up (va_up S 14 (srch S f).2.2.1) 15 (srch S f).2.2.2) 13 (keepGo (S 11) (S 12) (srch S f).2.2.2 (srch S f).2.2.1 (srch S f).2.1 (g, S 13)).2
def h12 (S : Nat → Nat → Nat) : Prop := ∀ j, j < S 1 2 → S 11 j < 268435456 ∧ S 12 j < 268435456
def invA (x : Nat × Nat × (Nat → Nat) × (Nat → Nat)) : Prop := x.1 < 268435456 ∧ x.2.1 ≤ 12 ∧ ∀ k, k < x.2.1 → x.2.2.1 k < 12 ∧ x.2.2.2 (x.2.2.1 k) < 4294967296
theorem fAdd_inv {S : Nat → Nat → Nat} {v : Nat} (hv : v < 12) (h1 : S 11 v < 268435456 ∧ S 12 v < 268435456) {x : Nat × Nat × (Nat → Nat) × (Nat → Nat)} (h : invA x) : invA (fAdd S v x) := by
  unfold fAdd
  (repeat' split)
  · exact h
  · exact h
  · refine ⟨or28 h.1 (or28 h1.1 h1.2), by show x.2.1 + 1 ≤ 12; omega, fun k hk => ?_⟩
    have hk : k < x.2.1 + 1 := hk
    show va_up x.2.2.1 x.2.1 v k < 12 ∧ va_up x.2.2.2 v _ (va_up x.2.2.1 x.2.1 v k) < 4294967296
    have h9 := dirAc_lt S (S 11) (S 12) (S 13) v x.1
    by_cases e : k = x.2.1
    · subst e
      simp only [va_up, if_true]
      exact ⟨hv, h9⟩
    · have h3 := h.2.2 k (by omega)
      simp only [va_up, if_neg e]
      refine ⟨h3.1, ?_⟩
      split
      · exact h9
      · exact h3.2
theorem gAdd_inv {S : Nat → Nat → Nat} (hw : wfC S) (hh : h12 S) : ∀ (k v : Nat) (x : Nat × Nat × (Nat → Nat) × (Nat → Nat)), v + k = S 1 2 → invA x → invA (gfor (fAdd S) k v x)
  | 0, _, _, _, h => h
  | k + 1, v, x, hk, h => gAdd_inv hw hh k (v + 1) _ (by omega) (fAdd_inv (by have := hw.2.2.1; omega) (hh v (by omega)) h)
theorem addPass_inv {S : Nat → Nat → Nat} (hw : wfC S) (hh : h12 S) {x : Nat × Nat × (Nat → Nat) × (Nat → Nat)} (h : invA x) : invA (addPass S x) := gAdd_inv hw hh _ 0 x (by omega) h
theorem srchGo_inv {S : Nat → Nat → Nat} (hw : wfC S) (hh : h12 S) : ∀ (k : Nat) (x : Nat × Nat × (Nat → Nat) × (Nat → Nat)), invA x → invA (srchGo S k x)
  | 0, _, h => h
  | k + 1, x, h => by
    unfold srchGo
    split
    · exact addPass_inv hw hh h
    · exact srchGo_inv hw hh k _ (addPass_inv hw hh h)
theorem srch_inv {S : Nat → Nat → Nat} (hw : wfC S) (hh : h12 S) {f : Nat} (hf : f < 268435456) : invA (srch S f) := srchGo_inv hw hh 12 _ ⟨hf, Nat.zero_le 12, fun k hk => absurd hk (Nat.not_lt_zero k)⟩
set_option maxHeartbeats 4000000 in
set_option maxRecDepth 100000 in
theorem L_add (X : gC) (S : Nat → Nat → Nat) (g : Nat) (rd : Nat) (bf : Nat) (K : gOk X cX0_addWay 9 wsX0_addWay RX0) (hRf : 2 ≤ (g_R X).frames) (hRl : 46 ≤ (g_R X).locals) (hw : wfC S) (hU : wfU S) (hh : h12 S) : ∀ (k v : Nat) (r : Nat) (n : Nat) (cr : Nat → Nat) (di : Nat → Nat), v + k = S 1 2 → (invA (r, n, cr, di)) → gG X 99 [(0, .ref (g_ad X 10)), (2, .int (nI (g))), (3, .int (nI (((gfor (fAdd S) k v (r, n, cr, di)).1)))), (4, .int (nI (((gfor (fAdd S) k v (r, n, cr, di)).2.1)))), (5, .int (nI (rd))), (6, .int (nI (bf))), (7, .int (nI ((S 1 2))))] [] (va_up (va_up S 14 (((gfor (fAdd S) k v (r, n, cr, di)).2.2.1))) 15 (((gfor (fAdd S) k v (r, n, cr, di)).2.2.2))) → gG X 21 [(0, .ref (g_ad X 10)), (2, .int (nI (g))), (3, .int (nI (r))), (4, .int (nI (n))), (5, .int (nI (rd))), (6, .int (nI (bf))), (7, .int (nI (v)))] [] (va_up (va_up S 14 (cr)) 15 (di)) := by
  have hin0 : ∀ w ∈ u_ws RX0 TX0 6, w ∈ wsX0_addWay := by decide +kernel
  obtain ⟨w0, w1, w2, w3, wsh, wst, a2, a3, a4, a5, a6, a7⟩ := id hw
  intro k
  induction k with
  | zero =>
    intro v r n cr di hj hi kk
    have hj : v = S 1 2 := by omega
    refine g_iload K 6 dX0_addWay_21 rfl ?_
    refine g_aload_n K 0 dX0_addWay_23 rfl ?_
    refine g_getR (q' := 1) (q := 10) (ci := 0) (k := 0) (N := 6) (C := RX0) (T := TX0) (ref := "ValveWalk$Breaks") K rfl rfl rfl (by decide) hin0 (by decide +kernel) rfl dX0_addWay_24 ?_
    refine g_callVd (q := 1) (ci := 2) (As := []) (rest := [.int (nI (v))]) (C := RX2) (T := TX2) (N := 12) K (cX2_valveCount_k (g_z X) (va_up (va_up S 14 (cr)) 15 (di))) (cwV 0 K.1.2.2.2.2 gX0_addWay_X2_valveCount rfl rfl rfl (by decide +kernel) ⟨Nat.le_trans (Nat.le_of_ble_eq_true rfl) hRf, Nat.le_trans (Nat.le_of_ble_eq_true rfl) hRl⟩) rfl rfl rfl rfl (Nat.le_of_ble_eq_true rfl) dX0_addWay_27 ?_
    refine g_topE (S 1 2) rfl ?_
    refine g_icmp_ge (tgt := 99) (a := v) (b := S 1 2) K dX0_addWay_30 (by decide) (by omega) (by omega) (fun h30_1 => ?_) (fun h30_1 => ?_)
    · refine g_loc (lo' := [(0, .ref (g_ad X 10)), (2, .int (nI (g))), (3, .int (nI (r))), (4, .int (nI (n))), (5, .int (nI (rd))), (6, .int (nI (bf))), (7, .int (nI (v)))]) [0, 1, 2, 3, 4, 5, 6] rfl ?_
      exact g_cast (by first | rfl | (rw [hj]; done) | (rw [hj]; rfl)) rfl rfl kk
    · exact absurd h30_1 (by omega)
  | succ k ih =>
    intro v r n cr di hj hi kk
    refine g_iload K 6 dX0_addWay_21 rfl ?_
    refine g_aload_n K 0 dX0_addWay_23 rfl ?_
    refine g_getR (q' := 1) (q := 10) (ci := 0) (k := 0) (N := 6) (C := RX0) (T := TX0) (ref := "ValveWalk$Breaks") K rfl rfl rfl (by decide) hin0 (by decide +kernel) rfl dX0_addWay_24 ?_
    refine g_callVd (q := 1) (ci := 2) (As := []) (rest := [.int (nI (v))]) (C := RX2) (T := TX2) (N := 12) K (cX2_valveCount_k (g_z X) (va_up (va_up S 14 (cr)) 15 (di))) (cwV 0 K.1.2.2.2.2 gX0_addWay_X2_valveCount rfl rfl rfl (by decide +kernel) ⟨Nat.le_trans (Nat.le_of_ble_eq_true rfl) hRf, Nat.le_trans (Nat.le_of_ble_eq_true rfl) hRl⟩) rfl rfl rfl rfl (Nat.le_of_ble_eq_true rfl) dX0_addWay_27 ?_
    refine g_topE (S 1 2) rfl ?_
    refine g_icmp_ge (tgt := 99) (a := v) (b := S 1 2) K dX0_addWay_30 (by decide) (by omega) (by omega) (fun h30_1 => ?_) (fun h30_1 => ?_)
    · exact absurd h30_1 (by omega)
    · have hr : r < 268435456 := hi.1
      have hn : n ≤ 12 := hi.2.1
      refine g_aload_n K 0 dX0_addWay_33 rfl ?_
      refine g_iload K 6 dX0_addWay_34 rfl ?_
      refine g_iload_n K 2 dX0_addWay_36 rfl ?_
      refine g_callVd (q := 10) (ci := 0) (As := [.int (nI (v)), .int (nI (r))]) (rest := []) (C := RX0) (T := TX0) (N := 6) K (cX0_directionAcross_k (g_z X) (va_up (va_up S 14 (cr)) 15 (di)) v r ((wfC_up (wfC_up hw (q := 14) (by decide) _) (q := 15) (by decide) _)) (by omega) (by omega) (hU 13 _)) (cwV 2 K.1.2.2.2.2 gX0_addWay_X0_directionAcross rfl rfl rfl (by decide +kernel) ⟨Nat.le_trans (Nat.le_of_ble_eq_true rfl) hRf, Nat.le_trans (Nat.le_of_ble_eq_true rfl) hRl⟩) rfl rfl rfl rfl (Nat.le_of_ble_eq_true rfl) dX0_addWay_37 ?_
      refine g_topE (dirAc S (S 11) (S 12) (S 13) v r) (by first | (rw [dirAc_up (q := 15) (by decide), dirAc_up (q := 14) (by decide)]; done) | (rw [dirAc_up (q := 15) (by decide), dirAc_up (q := 14) (by decide)]; rfl)) ?_
      refine g_istore (lo' := [(8, .int (nI (dirAc S (S 11) (S 12) (S 13) v r))), (0, .ref (g_ad X 10)), (2, .int (nI (g))), (3, .int (nI (r))), (4, .int (nI (n))), (5, .int (nI (rd))), (6, .int (nI (bf))), (7, .int (nI (v)))]) K dX0_addWay_40 (by decide) rfl ?_
      refine g_iload K 0 dX0_addWay_42 rfl ?_
      have h44 := dirAc_lt S (S 11) (S 12) (S 13) v r
      refine g_if_eq (tgt := 93) (a := dirAc S (S 11) (S 12) (S 13) v r) K dX0_addWay_44 (by decide) (by omega) (fun h44_2 => ?_) (fun h44_2 => ?_)
      · refine g_iinc (a := v) (b := v + 1) (lo' := [(7, .int (nI (v + 1))), (8, .int (nI (dirAc S (S 11) (S 12) (S 13) v r))), (0, .ref (g_ad X 10)), (2, .int (nI (g))), (3, .int (nI (r))), (4, .int (nI (n))), (5, .int (nI (rd))), (6, .int (nI (bf)))]) K 7 dX0_addWay_93 rfl (gi_inc _) (by decide) rfl ?_
        refine g_goto (tgt := 21) K dX0_addWay_96 (by decide) ?_
        refine g_loc (lo' := [(0, .ref (g_ad X 10)), (2, .int (nI (g))), (3, .int (nI (r))), (4, .int (nI (n))), (5, .int (nI (rd))), (6, .int (nI (bf))), (7, .int (nI (v + 1)))]) [2, 3, 4, 5, 6, 7, 0] rfl ?_
        exact ih (v + 1) r n cr di (by omega) (hi) (by rw [gfor_succ, show (fAdd S) v (r, n, cr, di) = (r, n, cr, di) from by simp only [fAdd]; (repeat' split) <;> first | rfl | contradiction | (exfalso; omega) | omega] at kk; exact kk)
      · refine g_iload K 4 dX0_addWay_47 rfl ?_
        refine g_bipush K 12 dX0_addWay_49 (by decide +kernel) ?_
        refine g_icmp_ge (tgt := 93) (a := n) (b := 12) K dX0_addWay_51 (by decide) (by omega) (by omega) (fun h51_3 => ?_) (fun h51_3 => ?_)
        · refine g_iinc (a := v) (b := v + 1) (lo' := [(7, .int (nI (v + 1))), (8, .int (nI (dirAc S (S 11) (S 12) (S 13) v r))), (0, .ref (g_ad X 10)), (2, .int (nI (g))), (3, .int (nI (r))), (4, .int (nI (n))), (5, .int (nI (rd))), (6, .int (nI (bf)))]) K 7 dX0_addWay_93 rfl (gi_inc _) (by decide) rfl ?_
          refine g_goto (tgt := 21) K dX0_addWay_96 (by decide) ?_
          refine g_loc (lo' := [(0, .ref (g_ad X 10)), (2, .int (nI (g))), (3, .int (nI (r))), (4, .int (nI (n))), (5, .int (nI (rd))), (6, .int (nI (bf))), (7, .int (nI (v + 1)))]) [2, 3, 4, 5, 6, 7, 0] rfl ?_
          exact ih (v + 1) r n cr di (by omega) (hi) (by rw [gfor_succ, show (fAdd S) v (r, n, cr, di) = (r, n, cr, di) from by simp only [fAdd]; (repeat' split) <;> first | rfl | contradiction | (exfalso; omega) | omega] at kk; exact kk)
        · refine g_aload_n K 1 dX0_addWay_54 rfl ?_
          refine g_getR (q' := 14) (q := 10) (ci := 0) (k := 4) (N := 6) (C := RX0) (T := TX0) (ref := "ValveWalk$Breaks") K rfl rfl rfl (by decide) hin0 (by decide +kernel) rfl dX0_addWay_55 ?_
          refine g_iload K 4 dX0_addWay_58 rfl ?_
          refine g_iload K 7 dX0_addWay_60 rfl ?_
          refine g_ast (q := 14) (n := 12) (i := n) (a := v) K rfl (by decide) (by omega) dX0_addWay_62 ?_
          refine g_cast (S' := (va_up (va_up S 14 (va_up cr (n) (v))) 15 (di))) rfl rfl (gup_w2a (by decide)) ?_
          refine g_aload_n K 1 dX0_addWay_63 rfl ?_
          refine g_getR (q' := 15) (q := 10) (ci := 0) (k := 5) (N := 6) (C := RX0) (T := TX0) (ref := "ValveWalk$Breaks") K rfl rfl rfl (by decide) hin0 (by decide +kernel) rfl dX0_addWay_64 ?_
          refine g_iload K 7 dX0_addWay_67 rfl ?_
          refine g_iload K 0 dX0_addWay_69 rfl ?_
          refine g_ast (q := 15) (n := 12) (i := v) (a := dirAc S (S 11) (S 12) (S 13) v r) K rfl (by decide) (by omega) dX0_addWay_71 ?_
          refine g_cast (S' := (va_up (va_up S 14 (va_up cr (n) (v))) 15 (va_up di (v) (dirAc S (S 11) (S 12) (S 13) v r)))) rfl rfl (gup_w2b (by decide)) ?_
          refine g_iinc (a := n) (b := n + 1) (lo' := [(4, .int (nI (n + 1))), (8, .int (nI (dirAc S (S 11) (S 12) (S 13) v r))), (0, .ref (g_ad X 10)), (2, .int (nI (g))), (3, .int (nI (r))), (5, .int (nI (rd))), (6, .int (nI (bf))), (7, .int (nI (v)))]) K 4 dX0_addWay_72 rfl (gi_inc _) (by decide) rfl ?_
          refine g_iload_n K 4 dX0_addWay_75 rfl ?_
          refine g_aload_n K 2 dX0_addWay_76 rfl ?_
          refine g_getR (q' := 11) (q := 10) (ci := 0) (k := 1) (N := 6) (C := RX0) (T := TX0) (ref := "ValveWalk$Breaks") K rfl rfl rfl (by decide) hin0 (by decide +kernel) rfl dX0_addWay_77 ?_
          refine g_iload K 7 dX0_addWay_80 rfl ?_
          refine g_ald (q := 11) (n := 12) (i := v) K rfl (by decide) (by omega) dX0_addWay_82 ?_
          refine g_topE (S 11 (v)) rfl ?_
          refine g_aload_n K 2 dX0_addWay_83 rfl ?_
          refine g_getR (q' := 12) (q := 10) (ci := 0) (k := 2) (N := 6) (C := RX0) (T := TX0) (ref := "ValveWalk$Breaks") K rfl rfl rfl (by decide) hin0 (by decide +kernel) rfl dX0_addWay_84 ?_
          refine g_iload K 7 dX0_addWay_87 rfl ?_
          refine g_ald (q := 12) (n := 12) (i := v) K rfl (by decide) (by omega) dX0_addWay_89 ?_
          refine g_topE (S 12 (v)) rfl ?_
          refine g_ior (a := S 11 (v)) (b := S 12 (v)) K dX0_addWay_90 ?_
          refine g_ior (a := r) (b := (S 11 (v)) ||| (S 12 (v))) K dX0_addWay_91 ?_
          refine g_istore_n (lo' := [(3, .int (nI ((r) ||| ((S 11 (v)) ||| (S 12 (v)))))), (4, .int (nI (n + 1))), (8, .int (nI (dirAc S (S 11) (S 12) (S 13) v r))), (0, .ref (g_ad X 10)), (2, .int (nI (g))), (5, .int (nI (rd))), (6, .int (nI (bf))), (7, .int (nI (v)))]) K dX0_addWay_92 (by decide) rfl ?_
          refine g_iinc (a := v) (b := v + 1) (lo' := [(7, .int (nI (v + 1))), (3, .int (nI ((r) ||| ((S 11 (v)) ||| (S 12 (v)))))), (4, .int (nI (n + 1))), (8, .int (nI (dirAc S (S 11) (S 12) (S 13) v r))), (0, .ref (g_ad X 10)), (2, .int (nI (g))), (5, .int (nI (rd))), (6, .int (nI (bf)))]) K 7 dX0_addWay_93 rfl (gi_inc _) (by decide) rfl ?_
          refine g_goto (tgt := 21) K dX0_addWay_96 (by decide) ?_
          refine g_loc (lo' := [(0, .ref (g_ad X 10)), (2, .int (nI (g))), (3, .int (nI ((r) ||| ((S 11 (v)) ||| (S 12 (v)))))), (4, .int (nI (n + 1))), (5, .int (nI (rd))), (6, .int (nI (bf))), (7, .int (nI (v + 1)))]) [4, 5, 1, 2, 6, 7, 0] rfl ?_
          exact ih (v + 1) ((r) ||| ((S 11 (v)) ||| (S 12 (v)))) (n + 1) (va_up cr (n) (v)) (va_up di (v) (dirAc S (S 11) (S 12) (S 13) v r)) (by omega) (by have q := fAdd_inv (S := S) (v := v) (by omega) (hh v (by omega)) hi; rwa [show fAdd S v (r, n, cr, di) = ((r) ||| ((S 11 (v)) ||| (S 12 (v))), n + 1, va_up cr (n) (v), va_up di (v) (dirAc S (S 11) (S 12) (S 13) v r)) from (by simp only [fAdd]; (repeat' split) <;> first | rfl | contradiction | (exfalso; omega) | omega)] at q) (by rw [gfor_succ, show (fAdd S) v (r, n, cr, di) = ((r) ||| ((S 11 (v)) ||| (S 12 (v))), n + 1, va_up cr (n) (v), va_up di (v) (dirAc S (S 11) (S 12) (S 13) v r)) from by simp only [fAdd]; (repeat' split) <;> first | rfl | contradiction | (exfalso; omega) | omega] at kk; exact kk)

set_option maxHeartbeats 4000000 in
set_option maxRecDepth 100000 in
theorem L_srch (X : gC) (S : Nat → Nat → Nat) (g : Nat) (K : gOk X cX0_addWay 9 wsX0_addWay RX0) (hRf : 2 ≤ (g_R X).frames) (hRl : 46 ≤ (g_R X).locals) (hw : wfC S) (hU : wfU S) (hh : h12 S) : ∀ (k rd r n : Nat) (cr di : Nat → Nat), rd + k = 12 → invA (r, n, cr, di) → gG X 114 [(0, .ref (g_ad X 10)), (2, .int (nI (g))), (3, .int (nI ((srchGo S k (r, n, cr, di)).1))), (4, .int (nI ((srchGo S k (r, n, cr, di)).2.1)))] [] (va_up (va_up S 14 ((srchGo S k (r, n, cr, di)).2.2.1)) 15 ((srchGo S k (r, n, cr, di)).2.2.2)) → gG X 8 [(0, .ref (g_ad X 10)), (2, .int (nI (g))), (3, .int (nI (r))), (4, .int (nI (n))), (5, .int (nI (rd)))] [] (va_up (va_up S 14 (cr)) 15 (di)) := by
  have hin0 : ∀ w ∈ u_ws RX0 TX0 6, w ∈ wsX0_addWay := by decide +kernel
  obtain ⟨w0, w1, w2, w3, wsh, wst, a2, a3, a4, a5, a6, a7⟩ := id hw
  intro k
  induction k with
  | zero =>
    intro rd r n cr di hj hi kk
    refine g_iload K 4 dX0_addWay_8 rfl ?_
    refine g_bipush K 12 dX0_addWay_10 (by decide +kernel) ?_
    refine g_icmp_ge (tgt := 114) (a := rd) (b := 12) K dX0_addWay_12 (by decide) (by omega) (by omega) (fun h12_1 => ?_) (fun h12_1 => ?_)
    · refine g_loc (lo' := [(0, .ref (g_ad X 10)), (2, .int (nI (g))), (3, .int (nI (r))), (4, .int (nI (n)))]) [0, 1, 2, 3] rfl ?_
      exact kk
    · exact absurd h12_1 (by omega)
  | succ k ih =>
    intro rd r n cr di hj hi kk
    refine g_iload K 4 dX0_addWay_8 rfl ?_
    refine g_bipush K 12 dX0_addWay_10 (by decide +kernel) ?_
    refine g_icmp_ge (tgt := 114) (a := rd) (b := 12) K dX0_addWay_12 (by decide) (by omega) (by omega) (fun h12_1 => ?_) (fun h12_1 => ?_)
    · exact absurd h12_1 (by omega)
    · refine g_iload_n K 2 dX0_addWay_15 rfl ?_
      refine g_istore (lo' := [(6, .int (nI (r))), (0, .ref (g_ad X 10)), (2, .int (nI (g))), (3, .int (nI (r))), (4, .int (nI (n))), (5, .int (nI (rd)))]) K dX0_addWay_16 (by decide) rfl ?_
      refine g_iconst K 0 dX0_addWay_18 (by decide +kernel) ?_
      refine g_istore (lo' := [(7, .int (nI (0))), (6, .int (nI (r))), (0, .ref (g_ad X 10)), (2, .int (nI (g))), (3, .int (nI (r))), (4, .int (nI (n))), (5, .int (nI (rd)))]) K dX0_addWay_19 (by decide) rfl ?_
      refine g_loc (lo' := [(0, .ref (g_ad X 10)), (2, .int (nI (g))), (3, .int (nI (r))), (4, .int (nI (n))), (5, .int (nI (rd))), (6, .int (nI (r))), (7, .int (nI (0)))]) [2, 3, 4, 5, 6, 1, 0] rfl ?_
      refine L_add X S g rd r K (Nat.le_trans (Nat.le_of_ble_eq_true rfl) hRf) (Nat.le_trans (Nat.le_of_ble_eq_true rfl) hRl) (hw) (hU) (hh)  (S 1 2) 0 r n cr di (by omega) (hi) ?_
      have hq : (gfor (fAdd S) (S 1 2) 0 (r, n, cr, di)).1 < 268435456 := (addPass_inv hw hh hi).1
      have hr : r < 268435456 := hi.1
      refine g_iload_n K 2 dX0_addWay_99 rfl ?_
      refine g_iload K 5 dX0_addWay_100 rfl ?_
      refine g_icmp_ne (tgt := 108) (a := ((gfor (fAdd S) (S 1 2) 0 (r, n, cr, di)).1)) (b := r) K dX0_addWay_102 (by decide) (by omega) (by omega) (fun h102_2 => ?_) (fun h102_2 => ?_)
      · refine g_iinc (a := rd) (b := rd + 1) (lo' := [(5, .int (nI (rd + 1))), (0, .ref (g_ad X 10)), (2, .int (nI (g))), (3, .int (nI (((gfor (fAdd S) (S 1 2) 0 (r, n, cr, di)).1)))), (4, .int (nI (((gfor (fAdd S) (S 1 2) 0 (r, n, cr, di)).2.1)))), (6, .int (nI (r))), (7, .int (nI ((S 1 2))))]) K 4 dX0_addWay_108 rfl (gi_inc _) (by decide) rfl ?_
        refine g_goto (tgt := 8) K dX0_addWay_111 (by decide) ?_
        refine g_loc (lo' := [(0, .ref (g_ad X 10)), (2, .int (nI (g))), (3, .int (nI (((gfor (fAdd S) (S 1 2) 0 (r, n, cr, di)).1)))), (4, .int (nI (((gfor (fAdd S) (S 1 2) 0 (r, n, cr, di)).2.1)))), (5, .int (nI (rd + 1)))]) [1, 2, 3, 4, 0] rfl ?_
        exact ih (rd + 1) (addPass S (r, n, cr, di)).1 (addPass S (r, n, cr, di)).2.1 (addPass S (r, n, cr, di)).2.2.1 (addPass S (r, n, cr, di)).2.2.2 (by omega) (addPass_inv hw hh hi) (by rw [srchGo_neg (x := (r, n, cr, di)) (by assumption)] at kk; exact kk)
      · refine g_goto (tgt := 114) K dX0_addWay_105 (by decide) ?_
        refine g_loc (lo' := [(0, .ref (g_ad X 10)), (2, .int (nI (g))), (3, .int (nI (((gfor (fAdd S) (S 1 2) 0 (r, n, cr, di)).1)))), (4, .int (nI (((gfor (fAdd S) (S 1 2) 0 (r, n, cr, di)).2.1))))]) [0, 1, 2, 3] rfl ?_
        exact (by rw [srchGo_pos (x := (r, n, cr, di)) (by assumption)] at kk; exact kk)

set_option maxHeartbeats 4000000 in
set_option maxRecDepth 100000 in
theorem cX0_addWay_k (Z : gZ) (S : Nat → Nat → Nat) (f g : Nat) (hw : wfC S) (hU : wfU S) (hh : h12 S) (hf : f < 268435456) (hg : g < 268435456) : gMd Z yX0_addWay wsX0_addWay { frames := 2, cells := 0, slots := 0, locals := 46 } [.ref (gz_ad Z 10), .int (nI (f)), .int (nI (g))] S (addV S f g) (addS S f g) := by
  refine gMd_of (cc := cX0_addWay) (maxL := 9) (ret := (some .boolean)) (by decide +kernel) rfl (Nat.le_of_ble_eq_true rfl) (Or.inr ⟨rfl, addV_le _ _ _⟩) (fun X hZ hR K hret => ?_)
  subst hZ
  have K : gOk X cX0_addWay 9 wsX0_addWay RX0 := K
  have hRf : 2 ≤ (g_R X).frames := gR_f hR rfl
  have hRl : 46 ≤ (g_R X).locals := gR_l hR rfl
  have hin0 : ∀ w ∈ u_ws RX0 TX0 6, w ∈ wsX0_addWay := by decide +kernel
  obtain ⟨w0, w1, w2, w3, wsh, wst, a2, a3, a4, a5, a6, a7⟩ := id hw
  show gG X 0 [(0, .ref (g_ad X 10)), (1, .int (nI (f))), (2, .int (nI (g)))] [] S
  refine g_iload_n K 1 dX0_addWay_0 rfl ?_
  refine g_istore_n (lo' := [(3, .int (nI (f))), (0, .ref (g_ad X 10)), (1, .int (nI (f))), (2, .int (nI (g)))]) K dX0_addWay_1 (by decide) rfl ?_
  refine g_iconst K 0 dX0_addWay_2 (by decide +kernel) ?_
  refine g_istore (lo' := [(4, .int (nI (0))), (3, .int (nI (f))), (0, .ref (g_ad X 10)), (1, .int (nI (f))), (2, .int (nI (g)))]) K dX0_addWay_3 (by decide) rfl ?_
  refine g_iconst K 0 dX0_addWay_5 (by decide +kernel) ?_
  refine g_istore (lo' := [(5, .int (nI (0))), (4, .int (nI (0))), (3, .int (nI (f))), (0, .ref (g_ad X 10)), (1, .int (nI (f))), (2, .int (nI (g)))]) K dX0_addWay_6 (by decide) rfl ?_
  refine g_loc (lo' := [(0, .ref (g_ad X 10)), (2, .int (nI (g))), (3, .int (nI (f))), (4, .int (nI (0))), (5, .int (nI (0)))]) [3, 5, 2, 1, 0] rfl ?_
  refine g_cast (S' := (va_up (va_up S 14 (S 14)) 15 (S 15))) rfl rfl (up_id2 ..).symm ?_
  refine L_srch X S g K (Nat.le_trans (Nat.le_of_ble_eq_true rfl) hRf) (Nat.le_trans (Nat.le_of_ble_eq_true rfl) hRl) (hw) (hU) (hh)  12 0 f 0 (S 14) (S 15) (by omega) (⟨hf, Nat.zero_le 12, fun k hk => absurd hk (Nat.not_lt_zero k)⟩) ?_
  obtain ⟨⟨r1, n1, cr1, di1⟩, hx⟩ : ∃ x, x = srchGo S 12 (f, 0, S 14, S 15) := ⟨_, rfl⟩
  have hi : invA (r1, n1, cr1, di1) := by rw [hx]; exact srch_inv hw hh hf
  have hr1 : r1 < 268435456 := hi.1
  have hn1 : n1 ≤ 12 := hi.2.1
  have hsr : srch S f = (r1, n1, cr1, di1) := hx.symm
  refine g_cast (lo' := [(0, .ref (g_ad X 10)), (2, .int (nI (g))), (3, .int (nI (r1))), (4, .int (nI (n1)))]) (S' := (va_up (va_up S 14 (cr1)) 15 (di1))) (by first | (rw [← hx]; done) | (rw [← hx]; rfl)) rfl (by first | (rw [← hx]; done) | (rw [← hx]; rfl)) ?_
  refine g_iload_n K 2 dX0_addWay_114 rfl ?_
  refine g_iload_n K 1 dX0_addWay_115 rfl ?_
  refine g_iand (a := r1) (b := g) K dX0_addWay_116 ?_
  have hL116_1 := @Nat.and_le_left (r1) (g)
  have hR116_2 := @Nat.and_le_right (r1) (g)
  refine g_if_ne (tgt := 122) (a := (r1) &&& (g)) K dX0_addWay_117 (by decide) (by omega) (fun h117_3 => ?_) (fun h117_3 => ?_)
  · refine g_aload_n K 0 dX0_addWay_122 rfl ?_
    refine g_iload_n K 1 dX0_addWay_123 rfl ?_
    refine g_iload K 3 dX0_addWay_124 rfl ?_
    refine g_callVv (q := 10) (ci := 0) (As := [.int (nI (g)), .int (nI (n1))]) (rest := []) (C := RX0) (T := TX0) (N := 6) K (cX0_keepWayTo_k (g_z X) (va_up (va_up S 14 (cr1)) 15 (di1)) (g) (n1) (by omega) (by omega) (fun k hk => (hi.2.2 k hk).1) (fun k hk => (hi.2.2 k hk).2) (fun j _ => hU 11 j) (fun j _ => hU 12 j)) (cwV 2 K.1.2.2.2.2 gX0_addWay_X0_keepWayTo rfl rfl rfl (by decide +kernel) ⟨Nat.le_trans (Nat.le_of_ble_eq_true rfl) hRf, Nat.le_trans (Nat.le_of_ble_eq_true rfl) hRl⟩) rfl rfl rfl rfl (Nat.le_of_ble_eq_true rfl) dX0_addWay_126 ?_
    refine g_cast (S' := (va_up (va_up (va_up S 14 (cr1)) 15 (di1)) 13 ((keepGo (S 11) (S 12) di1 cr1 (n1) (g, S 13)).2))) rfl rfl rfl ?_
    refine g_iconst K 1 dX0_addWay_129 (by decide +kernel) ?_
    exact g_retd hret dX0_addWay_130 (by unfold addV; rw [hsr, if_neg (by assumption)]) (by unfold addS; rw [hsr, if_neg (by assumption)])
  · refine g_iconst K 0 dX0_addWay_120 (by decide +kernel) ?_
    exact g_retd hret dX0_addWay_121 (by unfold addV; rw [hsr, if_pos (by assumption)]) (by unfold addS; rw [hsr, if_pos (by assumption)])

def fZero (j : Nat) (w : Nat → Nat) : Nat → Nat := va_up w j 0
def prepS (S : Nat → Nat → Nat) : Nat → Nat → Nat := va_up (va_up (va_up S 11 (regsF S).1) 12 (regsF S).2) 13 (gfor fZero 12 0 (S 13))
def countGo (f g : Nat) : Nat → Nat → (Nat → Nat → Nat) → Nat × (Nat → Nat → Nat)
  | 0, _, S => (12, S)
  | k + 1, c, S => if addV S f g = 0 then (c, addS S f g) else countGo f g k (c + 1) (addS S f g)
theorem countGo_pos {f g k c : Nat} {S : Nat → Nat → Nat} (h : addV S f g = 0) : countGo f g (k + 1) c S = (c, addS S f g) := by rw [countGo, if_pos h]
theorem countGo_neg {f g k c : Nat} {S : Nat → Nat → Nat} (h : addV S f g ≠ 0) : countGo f g (k + 1) c S = countGo f g k (c + 1) (addS S f g) := by rw [countGo, if_neg h]
def waysF (S : Nat → Nat → Nat) (p : Nat) : Nat := if fedF S &&& regOf S p = 0 then (countGo (fedF S) (regOf S p) 12 0 (prepS S)).1 else 4294967295
def waysS (S : Nat → Nat → Nat) (p : Nat) : Nat → Nat → Nat := if fedF S &&& regOf S p = 0 then (countGo (fedF S) (regOf S p) 12 0 (prepS S)).2 else S
theorem fAddU {S : Nat → Nat → Nat} (hU : wfU S) {v : Nat} (hv : v < 12) {x : Nat × Nat × (Nat → Nat) × (Nat → Nat)} (h : (∀ j, x.2.2.1 j < 4294967296) ∧ ∀ j, x.2.2.2 j < 4294967296) : (∀ j, (fAdd S v x).2.2.1 j < 4294967296) ∧ ∀ j, (fAdd S v x).2.2.2 j < 4294967296 := by
  unfold fAdd
  (repeat' split)
  · exact h
  · exact h
  · exact ⟨upU h.1 _ (by omega), upU h.2 _ (dirAc_lt ..)⟩
theorem gAddU {S : Nat → Nat → Nat} (hU : wfU S) : ∀ (k v : Nat) (x : Nat × Nat × (Nat → Nat) × (Nat → Nat)), v + k ≤ 12 → ((∀ j, x.2.2.1 j < 4294967296) ∧ ∀ j, x.2.2.2 j < 4294967296) → (∀ j, (gfor (fAdd S) k v x).2.2.1 j < 4294967296) ∧ ∀ j, (gfor (fAdd S) k v x).2.2.2 j < 4294967296
  | 0, _, _, _, h => h
  | k + 1, v, x, hk, h => gAddU hU k (v + 1) _ (by omega) (fAddU hU (by omega) h)
theorem srchGoU {S : Nat → Nat → Nat} (hw : wfC S) (hU : wfU S) : ∀ (k : Nat) (x : Nat × Nat × (Nat → Nat) × (Nat → Nat)), ((∀ j, x.2.2.1 j < 4294967296) ∧ ∀ j, x.2.2.2 j < 4294967296) → (∀ j, (srchGo S k x).2.2.1 j < 4294967296) ∧ ∀ j, (srchGo S k x).2.2.2 j < 4294967296
  | 0, _, h => h
  | k + 1, x, h => by
    have h2 := gAddU hU (S 1 2) 0 x (by have := hw.2.2.1; omega) h
    unfold srchGo
    split
    · exact h2
    · exact srchGoU hw hU k _ h2
theorem keepU (a b di cr : Nat → Nat) : ∀ (n : Nat) (x : Nat × (Nat → Nat)), (∀ j, x.2 j < 4294967296) → ∀ j, (keepGo a b di cr n x).2 j < 4294967296
  | 0, _, h => h
  | n + 1, x, h => by
    unfold keepGo
    refine keepU a b di cr n _ ?_
    unfold fKeep
    (repeat' split)
    · exact upU h _ (Nat.mod_lt _ (by decide))
    · exact h
    · exact upU h _ (Nat.mod_lt _ (by decide))
    · exact h
def invC (S : Nat → Nat → Nat) : Prop := wfC S ∧ wfU S ∧ h12 S
theorem addS_inv {S : Nat → Nat → Nat} (h : invC S) (f g : Nat) : invC (addS S f g) := by
  obtain ⟨hw, hU, hh⟩ := h
  have h2 := srchGoU hw hU 12 (f, 0, S 14, S 15) ⟨fun j => hU 14 j, fun j => hU 15 j⟩
  unfold addS
  split
  · exact ⟨wfC_up (wfC_up hw (by decide) _) (by decide) _, wfU_up (wfU_up hU 14 h2.1) 15 h2.2, hh⟩
  · exact ⟨wfC_up (wfC_up (wfC_up hw (by decide) _) (by decide) _) (by decide) _, wfU_up (wfU_up (wfU_up hU 14 h2.1) 15 h2.2) 13 (keepU _ _ _ _ _ _ (fun j => hU 13 j)), hh⟩
theorem gfor_invK {α : Type} (P : Nat → α → Prop) (f : Nat → α → α) : ∀ (k j : Nat) (x : α), (∀ i y, j ≤ i → i < j + k → P i y → P (i + 1) (f i y)) → P j x → P (j + k) (gfor f k j x)
  | 0, _, _, _, h => h
  | k + 1, j, x, hs, h => by
    have := gfor_invK P f k (j + 1) (f j x) (fun i y h1 h2 h3 => hs i y (by omega) (by omega) h3) (hs j x (Nat.le_refl _) (by omega) h)
    rw [show j + (k + 1) = j + 1 + k by omega]
    exact this
theorem regsF_lt {S : Nat → Nat → Nat} (hw : wfC S) : ∀ j, j < S 1 2 → (regsF S).1 j < 268435456 ∧ (regsF S).2 j < 268435456 := by
  have := gfor_invK (fun i (x : (Nat → Nat) × (Nat → Nat)) => ∀ j, j < i → x.1 j < 268435456 ∧ x.2 j < 268435456) (fReg S) (S 1 2) 0 (S 11, S 12) (fun i y _ hi h j hj => by
    have h7 := hw.2.2.2.2.2.2.2.2.2.2.2 i
    have h4 := hw.2.2.2.2.2.2.2.2.1 (S 7 i)
    simp only [fReg, va_up]
    split
    · exact ⟨regOf_lt hw (by omega), regWith_lt hw (by omega)⟩
    · exact h j (by omega)) (fun j hj => absurd hj (Nat.not_lt_zero j))
  simpa [regsF] using this
theorem regsU {S : Nat → Nat → Nat} (hw : wfC S) (hU : wfU S) : (∀ j, (regsF S).1 j < 4294967296) ∧ ∀ j, (regsF S).2 j < 4294967296 :=
  gfor_inv (fun x : (Nat → Nat) × (Nat → Nat) => (∀ j, x.1 j < 4294967296) ∧ ∀ j, x.2 j < 4294967296) (fReg S) (fun v x h => by
    have h7 := hw.2.2.2.2.2.2.2.2.2.2.2 v
    have h4 := hw.2.2.2.2.2.2.2.2.1 (S 7 v)
    exact ⟨upU h.1 _ (Nat.lt_trans (regOf_lt hw (by omega)) (by decide)), upU h.2 _ (Nat.lt_trans (regWith_lt hw (by omega)) (by decide))⟩) _ 0 _ ⟨fun j => hU 11 j, fun j => hU 12 j⟩
theorem zeroU {w : Nat → Nat} (h : ∀ j, w j < 4294967296) : ∀ j, gfor fZero 12 0 w j < 4294967296 := gfor_inv (fun w : Nat → Nat => ∀ j, w j < 4294967296) fZero (fun v x h => upU h _ (by decide)) _ 0 _ h
theorem prepS_inv {S : Nat → Nat → Nat} (hw : wfC S) (hU : wfU S) : invC (prepS S) :=
  ⟨wfC_up (wfC_up (wfC_up hw (by decide) _) (by decide) _) (by decide) _, wfU_up (wfU_up (wfU_up hU 11 (regsU hw hU).1) 12 (regsU hw hU).2) 13 (zeroU (fun j => hU 13 j)), fun j hj => regsF_lt hw j hj⟩
set_option maxHeartbeats 4000000 in
set_option maxRecDepth 100000 in
theorem L_zero (X : gC) (S : Nat → Nat → Nat) (g : Nat) (f : Nat) (a : Nat → Nat) (b : Nat → Nat) (K : gOk X cX0_countWays 5 wsX0_countWays RX0) (hRf : 0 ≤ (g_R X).frames) (hRl : 0 ≤ (g_R X).locals) : ∀ (k j : Nat) (w : Nat → Nat), j + k = 12 → gG X 47 [(0, .ref (g_ad X 10)), (2, .int (nI (g))), (3, .int (nI (f))), (4, .int (nI (12)))] [] (va_up (va_up (va_up S 11 (a)) 12 (b)) 13 (((gfor (fZero) k j w)))) → gG X 26 [(0, .ref (g_ad X 10)), (2, .int (nI (g))), (3, .int (nI (f))), (4, .int (nI (j)))] [] (va_up (va_up (va_up S 11 (a)) 12 (b)) 13 (w)) := by
  have hin0 : ∀ w ∈ u_ws RX0 TX0 6, w ∈ wsX0_countWays := by decide +kernel
  intro k
  induction k with
  | zero =>
    intro j w hj kk
    have hj : j = 12 := by omega
    refine g_iload K 3 dX0_countWays_26 rfl ?_
    refine g_bipush K 12 dX0_countWays_28 (by decide +kernel) ?_
    refine g_icmp_ge (tgt := 47) (a := j) (b := 12) K dX0_countWays_30 (by decide) (by omega) (by omega) (fun h30_1 => ?_) (fun h30_1 => ?_)
    · refine g_loc (lo' := [(0, .ref (g_ad X 10)), (2, .int (nI (g))), (3, .int (nI (f))), (4, .int (nI (j)))]) [0, 1, 2, 3] rfl ?_
      exact g_cast (by first | rfl | (rw [hj]; done) | (rw [hj]; rfl)) rfl rfl kk
    · exact absurd h30_1 (by omega)
  | succ k ih =>
    intro j w hj kk
    refine g_iload K 3 dX0_countWays_26 rfl ?_
    refine g_bipush K 12 dX0_countWays_28 (by decide +kernel) ?_
    refine g_icmp_ge (tgt := 47) (a := j) (b := 12) K dX0_countWays_30 (by decide) (by omega) (by omega) (fun h30_1 => ?_) (fun h30_1 => ?_)
    · exact absurd h30_1 (by omega)
    · refine g_aload_n K 0 dX0_countWays_33 rfl ?_
      refine g_getR (q' := 13) (q := 10) (ci := 0) (k := 3) (N := 6) (C := RX0) (T := TX0) (ref := "ValveWalk$Breaks") K rfl rfl rfl (by decide) hin0 (by decide +kernel) rfl dX0_countWays_34 ?_
      refine g_iload K 3 dX0_countWays_37 rfl ?_
      refine g_iconst K 0 dX0_countWays_39 (by decide +kernel) ?_
      refine g_ast (q := 13) (n := 12) (i := j) (a := 0) K rfl (by decide) (by omega) dX0_countWays_40 ?_
      refine g_cast (S' := (va_up (va_up (va_up S 11 (a)) 12 (b)) 13 (va_up w (j) (0)))) rfl rfl (gup_w3c (by decide) (by decide) (by decide)) ?_
      refine g_iinc (a := j) (b := j + 1) (lo' := [(4, .int (nI (j + 1))), (0, .ref (g_ad X 10)), (2, .int (nI (g))), (3, .int (nI (f)))]) K 3 dX0_countWays_41 rfl (gi_inc _) (by decide) rfl ?_
      refine g_goto (tgt := 26) K dX0_countWays_44 (by decide) ?_
      refine g_loc (lo' := [(0, .ref (g_ad X 10)), (2, .int (nI (g))), (3, .int (nI (f))), (4, .int (nI (j + 1)))]) [1, 2, 3, 0] rfl ?_
      exact ih (j + 1) (va_up w (j) (0)) (by omega)  kk

set_option maxHeartbeats 4000000 in
set_option maxRecDepth 100000 in
theorem L_count (X : gC) (f g : Nat) (K : gOk X cX0_countWays 5 wsX0_countWays RX0) (hRf : 3 ≤ (g_R X).frames) (hRl : 74 ≤ (g_R X).locals) (hf : f < 268435456) (hg : g < 268435456) : ∀ (k c : Nat) (S : Nat → Nat → Nat), c + k = 12 → invC S → (∀ (pc : Nat) (lo : List (Nat × Value)), decode cX0_countWays pc = .ok (.ireturn, 1) → gG X pc lo [.int (nI (countGo f g k c S).1)] (countGo f g k c S).2) → gG X 50 [(0, .ref (g_ad X 10)), (2, .int (nI (g))), (3, .int (nI (f))), (4, .int (nI (c)))] [] S := by
  have hin0 : ∀ w ∈ u_ws RX0 TX0 6, w ∈ wsX0_countWays := by decide +kernel
  intro k
  induction k with
  | zero =>
    intro c S hj hi hret
    refine g_iload K 3 dX0_countWays_50 rfl ?_
    refine g_bipush K 12 dX0_countWays_52 (by decide +kernel) ?_
    refine g_icmp_ge (tgt := 75) (a := c) (b := 12) K dX0_countWays_54 (by decide) (by omega) (by omega) (fun h54_1 => ?_) (fun h54_1 => ?_)
    · refine g_bipush K 12 dX0_countWays_75 (by decide +kernel) ?_
      exact g_retd hret dX0_countWays_77 rfl rfl
    · exact absurd h54_1 (by omega)
  | succ k ih =>
    intro c S hj hi hret
    refine g_iload K 3 dX0_countWays_50 rfl ?_
    refine g_bipush K 12 dX0_countWays_52 (by decide +kernel) ?_
    refine g_icmp_ge (tgt := 75) (a := c) (b := 12) K dX0_countWays_54 (by decide) (by omega) (by omega) (fun h54_1 => ?_) (fun h54_1 => ?_)
    · exact absurd h54_1 (by omega)
    · obtain ⟨hw, hU, hh⟩ := id hi
      refine g_aload_n K 0 dX0_countWays_57 rfl ?_
      refine g_iload_n K 2 dX0_countWays_58 rfl ?_
      refine g_iload_n K 1 dX0_countWays_59 rfl ?_
      refine g_callVd (q := 10) (ci := 0) (As := [.int (nI (f)), .int (nI (g))]) (rest := []) (C := RX0) (T := TX0) (N := 6) K (cX0_addWay_k (g_z X) S f g (hw) (hU) (hh) (by omega) (by omega)) (cwV 2 K.1.2.2.2.2 gX0_countWays_X0_addWay rfl rfl rfl (by decide +kernel) ⟨Nat.le_trans (Nat.le_of_ble_eq_true rfl) hRf, Nat.le_trans (Nat.le_of_ble_eq_true rfl) hRl⟩) rfl rfl rfl rfl (Nat.le_of_ble_eq_true rfl) dX0_countWays_60 ?_
      have hf60_2 := addV_le S f g
      refine g_if_ne (tgt := 69) (a := addV S f g) K dX0_countWays_63 (by decide) (by omega) (fun h63_3 => ?_) (fun h63_3 => ?_)
      · refine g_iinc (a := c) (b := c + 1) (lo' := [(4, .int (nI (c + 1))), (0, .ref (g_ad X 10)), (2, .int (nI (g))), (3, .int (nI (f)))]) K 3 dX0_countWays_69 rfl (gi_inc _) (by decide) rfl ?_
        refine g_goto (tgt := 50) K dX0_countWays_72 (by decide) ?_
        refine g_loc (lo' := [(0, .ref (g_ad X 10)), (2, .int (nI (g))), (3, .int (nI (f))), (4, .int (nI (c + 1)))]) [1, 2, 3, 0] rfl ?_
        exact ih (c + 1) (addS S f g) (by omega) (addS_inv hi f g) (fun pc lo hd => by have q := hret pc lo hd; rw [countGo_neg (by assumption)] at q; exact q)
      · refine g_iload K 3 dX0_countWays_66 rfl ?_
        exact g_retd hret dX0_countWays_68 (by rw [countGo_pos (by assumption)]) (by rw [countGo_pos (by assumption)])

set_option maxHeartbeats 4000000 in
set_option maxRecDepth 100000 in
theorem cX0_countWays_k (Z : gZ) (S : Nat → Nat → Nat) (p : Nat) (hw : wfC S) (hU : wfU S) (hp : p < 16) : gMd Z yX0_countWays wsX0_countWays { frames := 4, cells := 0, slots := 0, locals := 90 } [.ref (gz_ad Z 10), .int (nI (p))] S (waysF S p) (waysS S p) := by
  refine gMd_of (cc := cX0_countWays) (maxL := 5) (ret := (some .int)) (by decide +kernel) rfl (Nat.le_of_ble_eq_true rfl) (Or.inl rfl) (fun X hZ hR K hret => ?_)
  subst hZ
  have K : gOk X cX0_countWays 5 wsX0_countWays RX0 := K
  have hRf : 4 ≤ (g_R X).frames := gR_f hR rfl
  have hRl : 90 ≤ (g_R X).locals := gR_l hR rfl
  have hin0 : ∀ w ∈ u_ws RX0 TX0 6, w ∈ wsX0_countWays := by decide +kernel
  obtain ⟨w0, w1, w2, w3, wsh, wst, a2, a3, a4, a5, a6, a7⟩ := id hw
  show gG X 0 [(0, .ref (g_ad X 10)), (1, .int (nI (p)))] [] S
  refine g_aload_n K 0 dX0_countWays_0 rfl ?_
  refine g_iload_n K 1 dX0_countWays_1 rfl ?_
  refine g_callVd (q := 10) (ci := 0) (As := [.int (nI (p))]) (rest := []) (C := RX0) (T := TX0) (N := 6) K (cX0_regionOf_k (g_z X) S p (hw) (by omega)) (cwV 1 K.1.2.2.2.2 gX0_countWays_X0_regionOf rfl rfl rfl (by decide +kernel) ⟨Nat.le_trans (Nat.le_of_ble_eq_true rfl) hRf, Nat.le_trans (Nat.le_of_ble_eq_true rfl) hRl⟩) rfl rfl rfl rfl (Nat.le_of_ble_eq_true rfl) dX0_countWays_2 ?_
  have hlr := regOf_lt hw hp
  refine g_istore_n (lo' := [(2, .int (nI (regOf S p))), (0, .ref (g_ad X 10)), (1, .int (nI (p)))]) K dX0_countWays_5 (by decide) rfl ?_
  refine g_aload_n K 1 dX0_countWays_6 rfl ?_
  refine g_callVd (q := 10) (ci := 0) (As := []) (rest := []) (C := RX0) (T := TX0) (N := 6) K (cX0_regionsWithSources_k (g_z X) S (hw)) (cwV 0 K.1.2.2.2.2 gX0_countWays_X0_regionsWithSources rfl rfl rfl (by decide +kernel) ⟨Nat.le_trans (Nat.le_of_ble_eq_true rfl) hRf, Nat.le_trans (Nat.le_of_ble_eq_true rfl) hRl⟩) rfl rfl rfl rfl (Nat.le_of_ble_eq_true rfl) dX0_countWays_7 ?_
  refine g_istore_n (lo' := [(3, .int (nI (fedF S))), (2, .int (nI (regOf S p))), (0, .ref (g_ad X 10)), (1, .int (nI (p)))]) K dX0_countWays_10 (by decide) rfl ?_
  refine g_iload_n K 0 dX0_countWays_11 rfl ?_
  refine g_iload_n K 1 dX0_countWays_12 rfl ?_
  refine g_iand (a := fedF S) (b := regOf S p) K dX0_countWays_13 ?_
  have hL13_1 := @Nat.and_le_left (fedF S) (regOf S p)
  have hR13_2 := @Nat.and_le_right (fedF S) (regOf S p)
  have hlf := fedF_lt hw
  refine g_if_eq (tgt := 19) (a := (fedF S) &&& (regOf S p)) K dX0_countWays_14 (by decide) (by omega) (fun h14_3 => ?_) (fun h14_3 => ?_)
  · refine g_aload_n K 2 dX0_countWays_19 rfl ?_
    refine g_callVv (q := 10) (ci := 0) (As := []) (rest := []) (C := RX0) (T := TX0) (N := 6) K (cX0_findRegionsOfValves_k (g_z X) S (hw)) (cwV 0 K.1.2.2.2.2 gX0_countWays_X0_findRegionsOfValves rfl rfl rfl (by decide +kernel) ⟨Nat.le_trans (Nat.le_of_ble_eq_true rfl) hRf, Nat.le_trans (Nat.le_of_ble_eq_true rfl) hRl⟩) rfl rfl rfl rfl (Nat.le_of_ble_eq_true rfl) dX0_countWays_20 ?_
    refine g_cast (S' := (va_up (va_up S 11 ((regsF S).1)) 12 ((regsF S).2))) rfl rfl rfl ?_
    refine g_iconst K 0 dX0_countWays_23 (by decide +kernel) ?_
    refine g_istore (lo' := [(4, .int (nI (0))), (3, .int (nI (fedF S))), (2, .int (nI (regOf S p))), (0, .ref (g_ad X 10)), (1, .int (nI (p)))]) K dX0_countWays_24 (by decide) rfl ?_
    refine g_loc (lo' := [(0, .ref (g_ad X 10)), (2, .int (nI (regOf S p))), (3, .int (nI (fedF S))), (4, .int (nI (0)))]) [3, 2, 1, 0] rfl ?_
    refine g_cast (S' := (va_up (va_up (va_up S 11 ((regsF S).1)) 12 ((regsF S).2)) 13 (S 13))) rfl rfl (up_id1 _ 13).symm ?_
    refine L_zero X S (regOf S p) (fedF S) ((regsF S).1) ((regsF S).2) K (Nat.le_trans (Nat.le_of_ble_eq_true rfl) hRf) (Nat.le_trans (Nat.le_of_ble_eq_true rfl) hRl)   12 0 (S 13) (by omega)  ?_
    refine g_iconst K 0 dX0_countWays_47 (by decide +kernel) ?_
    refine g_istore (lo' := [(4, .int (nI (0))), (0, .ref (g_ad X 10)), (2, .int (nI ((regOf S p)))), (3, .int (nI ((fedF S))))]) K dX0_countWays_48 (by decide) rfl ?_
    refine g_loc (lo' := [(0, .ref (g_ad X 10)), (2, .int (nI ((regOf S p)))), (3, .int (nI ((fedF S)))), (4, .int (nI (0)))]) [1, 2, 3, 0] rfl ?_
    exact L_count X (fedF S) (regOf S p) K (Nat.le_trans (Nat.le_of_ble_eq_true rfl) hRf) (Nat.le_trans (Nat.le_of_ble_eq_true rfl) hRl) (fedF_lt hw) (regOf_lt hw hp) 12 0 (prepS S) (by decide) (prepS_inv hw hU) (fun pc lo hd => by have q := hret pc lo hd; rw [waysF, waysS, if_pos (by assumption), if_pos (by assumption)] at q; exact q)
  · refine g_iconst K 4294967295 dX0_countWays_17 (by decide +kernel) ?_
    exact g_retd hret dX0_countWays_18 (by rw [waysF, if_neg (by assumption)]) (by rw [waysS, if_neg (by assumption)])

