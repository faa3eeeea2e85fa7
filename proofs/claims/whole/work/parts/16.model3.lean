/-! THE REFERENCE: flushing -/
theorem openM_u {S : Nat → Nat → Nat} {q : Nat} {d : Nat → Nat} (h : 27 < q) (pl how al : Nat) : openM (va_up S q d) pl how al = openM S pl how al := by
  simp only [openM, va_up_ne (f := S) d (show 24 ≠ q by omega), va_up_ne (f := S) d (show 22 ≠ q by omega)]
theorem wfM_22 {S : Nat → Nat → Nat} {f : Nat → Nat} (h : wfM S) (hf : ∀ i, i ≠ 0 → i ≠ 16 → f i = S 22 i) : wfM (va_up S 22 f) := wfM_of h (fun i h0 h1 => by rw [show va_up S 22 f 22 = f from by simp [va_up]]; exact hf i h0 h1) rfl rfl rfl rfl rfl
def fInitM (S : Nat → Nat → Nat) (j : Nat) (d : Nat → Nat) : Nat → Nat := va_up d j (if (S 22 4 >>> j) &&& 1 = 1 then 0 else 1000000)
def relA (S : Nat → Nat → Nat) (p : Nat) (d : Nat → Nat) : Nat → Nat := va_up d (S 23 (2 * p)) (if d (S 23 (2 * p + 1)) + S 25 p < d (S 23 (2 * p)) then d (S 23 (2 * p + 1)) + S 25 p else d (S 23 (2 * p)))
def relB (S : Nat → Nat → Nat) (p : Nat) (d : Nat → Nat) : Nat → Nat := va_up d (S 23 (2 * p + 1)) (if d (S 23 (2 * p)) + S 25 p < d (S 23 (2 * p + 1)) then d (S 23 (2 * p)) + S 25 p else d (S 23 (2 * p + 1)))
def fPipeM (S : Nat → Nat → Nat) (p : Nat) (d : Nat → Nat) : Nat → Nat := if openM S (2 * p) 0 0 = 0 then d else if openM S (2 * p + 1) 0 0 = 0 then d else relB S p (relA S p d)
def fRoundM (S : Nat → Nat → Nat) (_ : Nat) (d : Nat → Nat) : Nat → Nat := gfor (fPipeM S) (S 22 2) 0 d
def measM (S : Nat → Nat → Nat) : Nat → Nat := gfor (fRoundM S) (S 22 1) 0 (gfor (fInitM S) (S 22 1) 0 (S 28))
theorem measM_r {S : Nat → Nat → Nat} {z : Nat} : measM (va_up S 22 (va_up (S 22) 0 z)) = measM S := rfl
def ndM (S : Nat → Nat → Nat) : Prop := ∀ j, j < 2 * S 22 2 → S 23 j < S 22 1
theorem relA_le {S : Nat → Nat → Nat} {p : Nat} {d : Nat → Nat} (hn : ndM S) (hp : p < S 22 2) (hd : ∀ j, j < S 22 1 → d j ≤ 1000000) : ∀ j, j < S 22 1 → relA S p d j ≤ 1000000 := by
  have h1 := hd _ (hn (2 * p) (by omega))
  exact up_le hd (by split <;> omega) _
theorem relB_le {S : Nat → Nat → Nat} {p : Nat} {d : Nat → Nat} (hn : ndM S) (hp : p < S 22 2) (hd : ∀ j, j < S 22 1 → d j ≤ 1000000) : ∀ j, j < S 22 1 → relB S p d j ≤ 1000000 := by
  have h1 := hd _ (hn (2 * p + 1) (by omega))
  exact up_le hd (by split <;> omega) _
theorem fPipeM_le {S : Nat → Nat → Nat} {p : Nat} {d : Nat → Nat} (hn : ndM S) (hp : p < S 22 2) (hd : ∀ j, j < S 22 1 → d j ≤ 1000000) : ∀ j, j < S 22 1 → fPipeM S p d j ≤ 1000000 := by
  unfold fPipeM
  (repeat' split)
  · exact hd
  · exact hd
  · exact relB_le hn hp (relA_le hn hp hd)
theorem fRoundM_le {S : Nat → Nat → Nat} (hn : ndM S) (n : Nat) (d : Nat → Nat) (hd : ∀ j, j < S 22 1 → d j ≤ 1000000) : ∀ j, j < S 22 1 → fRoundM S n d j ≤ 1000000 :=
  gfor_invK (fun _ (d : Nat → Nat) => ∀ j, j < S 22 1 → d j ≤ 1000000) (fPipeM S) (S 22 2) 0 d (fun i y _ hi h => fPipeM_le hn (by omega) h) hd
theorem initM_le (S : Nat → Nat → Nat) (d : Nat → Nat) : ∀ j, j < S 22 1 → gfor (fInitM S) (S 22 1) 0 d j ≤ 1000000 := by
  have := gfor_invK (fun i (d : Nat → Nat) => ∀ j, j < i → d j ≤ 1000000) (fInitM S) (S 22 1) 0 d (fun i y _ hi h j hj => by
    simp only [fInitM, va_up]
    (repeat' split)
    · omega
    · omega
    · exact h j (by omega)) (fun j hj => absurd hj (Nat.not_lt_zero j))
  simpa using this
theorem measM_le {S : Nat → Nat → Nat} (hn : ndM S) : ∀ j, j < S 22 1 → measM S j ≤ 1000000 := gfor_inv (fun d => ∀ j, j < S 22 1 → d j ≤ 1000000) (fRoundM S) (fun n d h => fRoundM_le hn n d h) _ 0 _ (initM_le S _)
set_option maxHeartbeats 4000000 in
set_option maxRecDepth 100000 in
theorem L_im (X : gC) (S : Nat → Nat → Nat) (K : gOk X cX6_measure 5 wsX6_measure RX6) (hRf : 0 ≤ (g_R X).frames) (hRl : 0 ≤ (g_R X).locals) (hm : wfM S) : ∀ (k j : Nat) (d : Nat → Nat), j + k = S 22 1 → gG X 40 [(0, .ref (g_ad X 22)), (1, .int (nI ((S 22 1))))] [] (va_up S 28 (((gfor (fInitM S) k j d)))) → gG X 2 [(0, .ref (g_ad X 22)), (1, .int (nI (j)))] [] (va_up S 28 (d)) := by
  have hin6 : ∀ w ∈ u_ws RX6 TX6 17, w ∈ wsX6_measure := by decide +kernel
  obtain ⟨m1, m2, m3, m4, msh, mst, b23, b24, b25, b26, b27⟩ := id hm
  intro k
  induction k with
  | zero =>
    intro j d hj kk
    have hj : j = S 22 1 := by omega
    refine g_iload_n K 1 dX6_measure_2 rfl ?_
    refine g_aload_n K 0 dX6_measure_3 rfl ?_
    refine g_getI (q := 22) (ci := 6) (k := 1) (N := 17) (C := RX6) (T := TX6) (ref := "ValveWalkModel") K rfl rfl rfl (by decide) hin6 (by decide +kernel) rfl dX6_measure_4 ?_
    refine g_topE (S 22 1) rfl ?_
    refine g_icmp_ge (tgt := 40) (a := j) (b := S 22 1) K dX6_measure_7 (by decide) (by omega) (by omega) (fun h7_1 => ?_) (fun h7_1 => ?_)
    · refine g_loc (lo' := [(0, .ref (g_ad X 22)), (1, .int (nI (j)))]) [0, 1] rfl ?_
      exact g_cast (by first | rfl | (rw [hj]; done) | (rw [hj]; rfl)) rfl rfl kk
    · exact absurd h7_1 (by omega)
  | succ k ih =>
    intro j d hj kk
    refine g_iload_n K 1 dX6_measure_2 rfl ?_
    refine g_aload_n K 0 dX6_measure_3 rfl ?_
    refine g_getI (q := 22) (ci := 6) (k := 1) (N := 17) (C := RX6) (T := TX6) (ref := "ValveWalkModel") K rfl rfl rfl (by decide) hin6 (by decide +kernel) rfl dX6_measure_4 ?_
    refine g_topE (S 22 1) rfl ?_
    refine g_icmp_ge (tgt := 40) (a := j) (b := S 22 1) K dX6_measure_7 (by decide) (by omega) (by omega) (fun h7_1 => ?_) (fun h7_1 => ?_)
    · exact absurd h7_1 (by omega)
    · refine g_aload_n K 0 dX6_measure_10 rfl ?_
      refine g_getR (q' := 28) (q := 22) (ci := 6) (k := 12) (N := 17) (C := RX6) (T := TX6) (ref := "ValveWalkModel") K rfl rfl rfl (by decide) hin6 (by decide +kernel) rfl dX6_measure_11 ?_
      refine g_iload_n K 1 dX6_measure_14 rfl ?_
      refine g_aload_n K 0 dX6_measure_15 rfl ?_
      refine g_getI (q := 22) (ci := 6) (k := 4) (N := 17) (C := RX6) (T := TX6) (ref := "ValveWalkModel") K rfl rfl rfl (by decide) hin6 (by decide +kernel) rfl dX6_measure_16 ?_
      refine g_topE (S 22 4) rfl ?_
      refine g_iload_n K 1 dX6_measure_19 rfl ?_
      refine g_ishr (a := S 22 4) (b := j) K (by omega) (by omega) dX6_measure_20 ?_
      refine g_iconst K 1 dX6_measure_21 (by decide +kernel) ?_
      refine g_iand (a := (S 22 4) >>> (j)) (b := 1) K dX6_measure_22 ?_
      have hL22_2 := @Nat.and_le_left ((S 22 4) >>> (j)) (1)
      have hR22_3 := @Nat.and_le_right ((S 22 4) >>> (j)) (1)
      refine g_iconst K 1 dX6_measure_23 (by decide +kernel) ?_
      refine g_icmp_ne (tgt := 31) (a := ((S 22 4) >>> (j)) &&& (1)) (b := 1) K dX6_measure_24 (by decide) (by omega) (by omega) (fun h24_4 => ?_) (fun h24_4 => ?_)
      · refine g_ldc (w := 1000000) K 1000000 (K.1.2.2.2.2 _ (by decide +kernel)) (by decide +kernel) dX6_measure_31 ?_
        refine g_ast (q := 28) (n := 12) (i := j) (a := 1000000) K rfl (by decide) (by omega) dX6_measure_33 ?_
        refine g_cast (S' := (va_up S 28 (va_up d (j) (1000000)))) rfl rfl (gup_w1a) ?_
        refine g_iinc (a := j) (b := j + 1) (lo' := [(1, .int (nI (j + 1))), (0, .ref (g_ad X 22))]) K 1 dX6_measure_34 rfl (gi_inc _) (by decide) rfl ?_
        refine g_goto (tgt := 2) K dX6_measure_37 (by decide) ?_
        refine g_loc (lo' := [(0, .ref (g_ad X 22)), (1, .int (nI (j + 1)))]) [1, 0] rfl ?_
        exact ih (j + 1) (va_up d (j) (1000000)) (by omega)  (by rw [gfor_succ, show (fInitM S) j d = va_up d (j) (1000000) from by unfold fInitM; first | rw [if_pos (by assumption)] | rw [if_neg (by assumption)]] at kk; exact kk)
      · refine g_iconst K 0 dX6_measure_27 (by decide +kernel) ?_
        refine g_goto (tgt := 33) K dX6_measure_28 (by decide) ?_
        refine g_ast (q := 28) (n := 12) (i := j) (a := 0) K rfl (by decide) (by omega) dX6_measure_33 ?_
        refine g_cast (S' := (va_up S 28 (va_up d (j) (0)))) rfl rfl (gup_w1a) ?_
        refine g_iinc (a := j) (b := j + 1) (lo' := [(1, .int (nI (j + 1))), (0, .ref (g_ad X 22))]) K 1 dX6_measure_34 rfl (gi_inc _) (by decide) rfl ?_
        refine g_goto (tgt := 2) K dX6_measure_37 (by decide) ?_
        refine g_loc (lo' := [(0, .ref (g_ad X 22)), (1, .int (nI (j + 1)))]) [1, 0] rfl ?_
        exact ih (j + 1) (va_up d (j) (0)) (by omega)  (by rw [gfor_succ, show (fInitM S) j d = va_up d (j) (0) from by unfold fInitM; first | rw [if_pos (by assumption)] | rw [if_neg (by assumption)]] at kk; exact kk)

set_option maxHeartbeats 4000000 in
set_option maxRecDepth 100000 in
theorem L_rel (X : gC) (S : Nat → Nat → Nat) (n : Nat) (K : gOk X cX6_measure 5 wsX6_measure RX6) (hRf : 1 ≤ (g_R X).frames) (hRl : 25 ≤ (g_R X).locals) (hm : wfM S) (hn : ndM S) : ∀ (k p : Nat) (d : Nat → Nat), p + k = S 22 2 → (∀ j, j < S 22 1 → d j ≤ 1000000) → gG X 218 [(0, .ref (g_ad X 22)), (1, .int (nI (n))), (2, .int (nI ((S 22 2))))] [] (va_up S 28 (((gfor (fPipeM S) k p d)))) → gG X 52 [(0, .ref (g_ad X 22)), (1, .int (nI (n))), (2, .int (nI (p)))] [] (va_up S 28 (d)) := by
  have hin6 : ∀ w ∈ u_ws RX6 TX6 17, w ∈ wsX6_measure := by decide +kernel
  obtain ⟨m1, m2, m3, m4, msh, mst, b23, b24, b25, b26, b27⟩ := id hm
  intro k
  induction k with
  | zero =>
    intro p d hj hd kk
    have hj : p = S 22 2 := by omega
    refine g_iload_n K 2 dX6_measure_52 rfl ?_
    refine g_aload_n K 0 dX6_measure_53 rfl ?_
    refine g_getI (q := 22) (ci := 6) (k := 2) (N := 17) (C := RX6) (T := TX6) (ref := "ValveWalkModel") K rfl rfl rfl (by decide) hin6 (by decide +kernel) rfl dX6_measure_54 ?_
    refine g_topE (S 22 2) rfl ?_
    refine g_icmp_ge (tgt := 218) (a := p) (b := S 22 2) K dX6_measure_57 (by decide) (by omega) (by omega) (fun h57_1 => ?_) (fun h57_1 => ?_)
    · refine g_loc (lo' := [(0, .ref (g_ad X 22)), (1, .int (nI (n))), (2, .int (nI (p)))]) [0, 1, 2] rfl ?_
      exact g_cast (by first | rfl | (rw [hj]; done) | (rw [hj]; rfl)) rfl rfl kk
    · exact absurd h57_1 (by omega)
  | succ k ih =>
    intro p d hj hd kk
    refine g_iload_n K 2 dX6_measure_52 rfl ?_
    refine g_aload_n K 0 dX6_measure_53 rfl ?_
    refine g_getI (q := 22) (ci := 6) (k := 2) (N := 17) (C := RX6) (T := TX6) (ref := "ValveWalkModel") K rfl rfl rfl (by decide) hin6 (by decide +kernel) rfl dX6_measure_54 ?_
    refine g_topE (S 22 2) rfl ?_
    refine g_icmp_ge (tgt := 218) (a := p) (b := S 22 2) K dX6_measure_57 (by decide) (by omega) (by omega) (fun h57_1 => ?_) (fun h57_1 => ?_)
    · exact absurd h57_1 (by omega)
    · refine g_aload_n K 0 dX6_measure_60 rfl ?_
      refine g_iconst K 2 dX6_measure_61 (by decide +kernel) ?_
      refine g_iload_n K 2 dX6_measure_62 rfl ?_
      refine g_imul (a := 2) (b := p) K dX6_measure_63 ?_
      refine g_iconst K 0 dX6_measure_64 (by decide +kernel) ?_
      refine g_iconst K 0 dX6_measure_65 (by decide +kernel) ?_
      refine g_callVd (q := 22) (ci := 6) (As := [.int (nI ((2) * (p))), .int (nI (0)), .int (nI (0))]) (rest := []) (C := RX6) (T := TX6) (N := 17) K (cX6_isOpen_k (g_z X) (va_up S 28 (d)) ((2) * (p)) 0 0 ((wfM_up hm (q := 28) (by decide) _)) (by omega) (by omega) (by omega)) (cwV 3 K.1.2.2.2.2 gX6_measure_X6_isOpen rfl rfl rfl (by decide +kernel) ⟨Nat.le_trans (Nat.le_of_ble_eq_true rfl) hRf, Nat.le_trans (Nat.le_of_ble_eq_true rfl) hRl⟩) rfl rfl rfl rfl (Nat.le_of_ble_eq_true rfl) dX6_measure_66 ?_
      refine g_topE (openM S ((2) * (p)) 0 0) (by first | (rw [openM_u (q := 28) (by decide)]; done) | (rw [openM_u (q := 28) (by decide)]; rfl)) ?_
      have hf66_2 := openM_le S ((2) * (p)) 0 0
      refine g_if_eq (tgt := 212) (a := openM S ((2) * (p)) 0 0) K dX6_measure_69 (by decide) (by omega) (fun h69_3 => ?_) (fun h69_3 => ?_)
      · refine g_iinc (a := p) (b := p + 1) (lo' := [(2, .int (nI (p + 1))), (0, .ref (g_ad X 22)), (1, .int (nI (n)))]) K 2 dX6_measure_212 rfl (gi_inc _) (by decide) rfl ?_
        refine g_goto (tgt := 52) K dX6_measure_215 (by decide) ?_
        refine g_loc (lo' := [(0, .ref (g_ad X 22)), (1, .int (nI (n))), (2, .int (nI (p + 1)))]) [1, 2, 0] rfl ?_
        exact ih (p + 1) d (by omega) (hd) (by rw [gfor_succ, show (fPipeM S) p d = d from by unfold fPipeM; first | rw [if_pos (by assumption)] | rw [if_neg (by assumption), if_pos (by assumption)]] at kk; exact kk)
      · refine g_aload_n K 0 dX6_measure_72 rfl ?_
        refine g_iconst K 2 dX6_measure_73 (by decide +kernel) ?_
        refine g_iload_n K 2 dX6_measure_74 rfl ?_
        refine g_imul (a := 2) (b := p) K dX6_measure_75 ?_
        refine g_iconst K 1 dX6_measure_76 (by decide +kernel) ?_
        refine g_iadd (a := (2) * (p)) (b := 1) K dX6_measure_77 ?_
        refine g_iconst K 0 dX6_measure_78 (by decide +kernel) ?_
        refine g_iconst K 0 dX6_measure_79 (by decide +kernel) ?_
        refine g_callVd (q := 22) (ci := 6) (As := [.int (nI (((2) * (p)) + (1))), .int (nI (0)), .int (nI (0))]) (rest := []) (C := RX6) (T := TX6) (N := 17) K (cX6_isOpen_k (g_z X) (va_up S 28 (d)) (((2) * (p)) + (1)) 0 0 ((wfM_up hm (q := 28) (by decide) _)) (by omega) (by omega) (by omega)) (cwV 3 K.1.2.2.2.2 gX6_measure_X6_isOpen rfl rfl rfl (by decide +kernel) ⟨Nat.le_trans (Nat.le_of_ble_eq_true rfl) hRf, Nat.le_trans (Nat.le_of_ble_eq_true rfl) hRl⟩) rfl rfl rfl rfl (Nat.le_of_ble_eq_true rfl) dX6_measure_80 ?_
        refine g_topE (openM S (((2) * (p)) + (1)) 0 0) (by first | (rw [openM_u (q := 28) (by decide)]; done) | (rw [openM_u (q := 28) (by decide)]; rfl)) ?_
        have hf80_4 := openM_le S (((2) * (p)) + (1)) 0 0
        refine g_if_eq (tgt := 212) (a := openM S (((2) * (p)) + (1)) 0 0) K dX6_measure_83 (by decide) (by omega) (fun h83_5 => ?_) (fun h83_5 => ?_)
        · refine g_iinc (a := p) (b := p + 1) (lo' := [(2, .int (nI (p + 1))), (0, .ref (g_ad X 22)), (1, .int (nI (n)))]) K 2 dX6_measure_212 rfl (gi_inc _) (by decide) rfl ?_
          refine g_goto (tgt := 52) K dX6_measure_215 (by decide) ?_
          refine g_loc (lo' := [(0, .ref (g_ad X 22)), (1, .int (nI (n))), (2, .int (nI (p + 1)))]) [1, 2, 0] rfl ?_
          exact ih (p + 1) d (by omega) (hd) (by rw [gfor_succ, show (fPipeM S) p d = d from by unfold fPipeM; first | rw [if_pos (by assumption)] | rw [if_neg (by assumption), if_pos (by assumption)]] at kk; exact kk)
        · refine g_aload_n K 0 dX6_measure_86 rfl ?_
          refine g_getR (q' := 23) (q := 22) (ci := 6) (k := 5) (N := 17) (C := RX6) (T := TX6) (ref := "ValveWalkModel") K rfl rfl rfl (by decide) hin6 (by decide +kernel) rfl dX6_measure_87 ?_
          refine g_iconst K 2 dX6_measure_90 (by decide +kernel) ?_
          refine g_iload_n K 2 dX6_measure_91 rfl ?_
          refine g_imul (a := 2) (b := p) K dX6_measure_92 ?_
          refine g_ald (q := 23) (n := 32) (i := (2) * (p)) K rfl (by decide) (by omega) dX6_measure_93 ?_
          refine g_topE (S 23 ((2) * (p))) rfl ?_
          have hv93_6 := b23 ((2) * (p))
          refine g_istore_n (lo' := [(3, .int (nI (S 23 ((2) * (p))))), (0, .ref (g_ad X 22)), (1, .int (nI (n))), (2, .int (nI (p)))]) K dX6_measure_94 (by decide) rfl ?_
          refine g_aload_n K 1 dX6_measure_95 rfl ?_
          refine g_getR (q' := 23) (q := 22) (ci := 6) (k := 5) (N := 17) (C := RX6) (T := TX6) (ref := "ValveWalkModel") K rfl rfl rfl (by decide) hin6 (by decide +kernel) rfl dX6_measure_96 ?_
          refine g_iconst K 2 dX6_measure_99 (by decide +kernel) ?_
          refine g_iload_n K 3 dX6_measure_100 rfl ?_
          refine g_imul (a := 2) (b := p) K dX6_measure_101 ?_
          refine g_iconst K 1 dX6_measure_102 (by decide +kernel) ?_
          refine g_iadd (a := (2) * (p)) (b := 1) K dX6_measure_103 ?_
          refine g_ald (q := 23) (n := 32) (i := ((2) * (p)) + (1)) K rfl (by decide) (by omega) dX6_measure_104 ?_
          refine g_topE (S 23 (((2) * (p)) + (1))) rfl ?_
          have hv104_7 := b23 (((2) * (p)) + (1))
          refine g_istore (lo' := [(4, .int (nI (S 23 (((2) * (p)) + (1))))), (3, .int (nI (S 23 ((2) * (p))))), (0, .ref (g_ad X 22)), (1, .int (nI (n))), (2, .int (nI (p)))]) K dX6_measure_105 (by decide) rfl ?_
          have hx := hn (2 * p) (by omega)
          have hy := hn (2 * p + 1) (by omega)
          have hdx := hd _ hx
          have hdy := hd _ hy
          have hln := b25 p
          refine g_aload_n K 2 dX6_measure_107 rfl ?_
          refine g_getR (q' := 28) (q := 22) (ci := 6) (k := 12) (N := 17) (C := RX6) (T := TX6) (ref := "ValveWalkModel") K rfl rfl rfl (by decide) hin6 (by decide +kernel) rfl dX6_measure_108 ?_
          refine g_iload_n K 1 dX6_measure_111 rfl ?_
          refine g_aload_n K 2 dX6_measure_112 rfl ?_
          refine g_getR (q' := 28) (q := 22) (ci := 6) (k := 12) (N := 17) (C := RX6) (T := TX6) (ref := "ValveWalkModel") K rfl rfl rfl (by decide) hin6 (by decide +kernel) rfl dX6_measure_113 ?_
          refine g_iload K 0 dX6_measure_116 rfl ?_
          refine g_ald (q := 28) (n := 12) (i := S 23 (((2) * (p)) + (1))) K rfl (by decide) (by omega) dX6_measure_118 ?_
          refine g_topE (d (S 23 (((2) * (p)) + (1)))) rfl ?_
          refine g_aload_n K 2 dX6_measure_119 rfl ?_
          refine g_getR (q' := 25) (q := 22) (ci := 6) (k := 7) (N := 17) (C := RX6) (T := TX6) (ref := "ValveWalkModel") K rfl rfl rfl (by decide) hin6 (by decide +kernel) rfl dX6_measure_120 ?_
          refine g_iload_n K 4 dX6_measure_123 rfl ?_
          refine g_ald (q := 25) (n := 16) (i := p) K rfl (by decide) (by omega) dX6_measure_124 ?_
          refine g_topE (S 25 (p)) rfl ?_
          have hv124_8 := b25 (p)
          refine g_iadd (a := d (S 23 (((2) * (p)) + (1)))) (b := S 25 (p)) K dX6_measure_125 ?_
          refine g_aload_n K 2 dX6_measure_126 rfl ?_
          refine g_getR (q' := 28) (q := 22) (ci := 6) (k := 12) (N := 17) (C := RX6) (T := TX6) (ref := "ValveWalkModel") K rfl rfl rfl (by decide) hin6 (by decide +kernel) rfl dX6_measure_127 ?_
          refine g_iload_n K 1 dX6_measure_130 rfl ?_
          refine g_ald (q := 28) (n := 12) (i := S 23 ((2) * (p))) K rfl (by decide) (by omega) dX6_measure_131 ?_
          refine g_topE (d (S 23 ((2) * (p)))) rfl ?_
          refine g_icmp_ge (tgt := 152) (a := (d (S 23 (((2) * (p)) + (1)))) + (S 25 (p))) (b := d (S 23 ((2) * (p)))) K dX6_measure_132 (by decide) (by omega) (by omega) (fun h132_9 => ?_) (fun h132_9 => ?_)
          · refine g_aload_n K 2 dX6_measure_152 rfl ?_
            refine g_getR (q' := 28) (q := 22) (ci := 6) (k := 12) (N := 17) (C := RX6) (T := TX6) (ref := "ValveWalkModel") K rfl rfl rfl (by decide) hin6 (by decide +kernel) rfl dX6_measure_153 ?_
            refine g_iload_n K 1 dX6_measure_156 rfl ?_
            refine g_ald (q := 28) (n := 12) (i := S 23 ((2) * (p))) K rfl (by decide) (by omega) dX6_measure_157 ?_
            refine g_topE (d (S 23 ((2) * (p)))) rfl ?_
            refine g_ast (q := 28) (n := 12) (i := S 23 ((2) * (p))) (a := d (S 23 ((2) * (p)))) K rfl (by decide) (by omega) dX6_measure_158 ?_
            refine g_cast (S' := (va_up S 28 (va_up d (S 23 ((2) * (p))) (d (S 23 ((2) * (p))))))) rfl rfl (gup_w1a) ?_
            have hd1 : ∀ j, j < S 22 1 → (va_up d (S 23 ((2) * (p))) (d (S 23 ((2) * (p))))) j ≤ 1000000 := up_le hd (by omega) _
            have hx1 := hd1 _ hx
            have hy1 := hd1 _ hy
            refine g_aload_n K 2 dX6_measure_159 rfl ?_
            refine g_getR (q' := 28) (q := 22) (ci := 6) (k := 12) (N := 17) (C := RX6) (T := TX6) (ref := "ValveWalkModel") K rfl rfl rfl (by decide) hin6 (by decide +kernel) rfl dX6_measure_160 ?_
            refine g_iload K 0 dX6_measure_163 rfl ?_
            refine g_aload_n K 2 dX6_measure_165 rfl ?_
            refine g_getR (q' := 28) (q := 22) (ci := 6) (k := 12) (N := 17) (C := RX6) (T := TX6) (ref := "ValveWalkModel") K rfl rfl rfl (by decide) hin6 (by decide +kernel) rfl dX6_measure_166 ?_
            refine g_iload_n K 1 dX6_measure_169 rfl ?_
            refine g_ald (q := 28) (n := 12) (i := S 23 ((2) * (p))) K rfl (by decide) (by omega) dX6_measure_170 ?_
            refine g_topE ((va_up d (S 23 ((2) * (p))) (d (S 23 ((2) * (p))))) (S 23 ((2) * (p)))) rfl ?_
            refine g_aload_n K 2 dX6_measure_171 rfl ?_
            refine g_getR (q' := 25) (q := 22) (ci := 6) (k := 7) (N := 17) (C := RX6) (T := TX6) (ref := "ValveWalkModel") K rfl rfl rfl (by decide) hin6 (by decide +kernel) rfl dX6_measure_172 ?_
            refine g_iload_n K 4 dX6_measure_175 rfl ?_
            refine g_ald (q := 25) (n := 16) (i := p) K rfl (by decide) (by omega) dX6_measure_176 ?_
            refine g_topE (S 25 (p)) rfl ?_
            have hv176_10 := b25 (p)
            refine g_iadd (a := (va_up d (S 23 ((2) * (p))) (d (S 23 ((2) * (p))))) (S 23 ((2) * (p)))) (b := S 25 (p)) K dX6_measure_177 ?_
            refine g_aload_n K 2 dX6_measure_178 rfl ?_
            refine g_getR (q' := 28) (q := 22) (ci := 6) (k := 12) (N := 17) (C := RX6) (T := TX6) (ref := "ValveWalkModel") K rfl rfl rfl (by decide) hin6 (by decide +kernel) rfl dX6_measure_179 ?_
            refine g_iload K 0 dX6_measure_182 rfl ?_
            refine g_ald (q := 28) (n := 12) (i := S 23 (((2) * (p)) + (1))) K rfl (by decide) (by omega) dX6_measure_184 ?_
            refine g_topE ((va_up d (S 23 ((2) * (p))) (d (S 23 ((2) * (p))))) (S 23 (((2) * (p)) + (1)))) rfl ?_
            refine g_icmp_ge (tgt := 204) (a := ((va_up d (S 23 ((2) * (p))) (d (S 23 ((2) * (p))))) (S 23 ((2) * (p)))) + (S 25 (p))) (b := (va_up d (S 23 ((2) * (p))) (d (S 23 ((2) * (p))))) (S 23 (((2) * (p)) + (1)))) K dX6_measure_185 (by decide) (by omega) (by omega) (fun h185_11 => ?_) (fun h185_11 => ?_)
            · refine g_aload_n K 2 dX6_measure_204 rfl ?_
              refine g_getR (q' := 28) (q := 22) (ci := 6) (k := 12) (N := 17) (C := RX6) (T := TX6) (ref := "ValveWalkModel") K rfl rfl rfl (by decide) hin6 (by decide +kernel) rfl dX6_measure_205 ?_
              refine g_iload K 0 dX6_measure_208 rfl ?_
              refine g_ald (q := 28) (n := 12) (i := S 23 (((2) * (p)) + (1))) K rfl (by decide) (by omega) dX6_measure_210 ?_
              refine g_topE ((va_up d (S 23 ((2) * (p))) (d (S 23 ((2) * (p))))) (S 23 (((2) * (p)) + (1)))) rfl ?_
              refine g_ast (q := 28) (n := 12) (i := S 23 (((2) * (p)) + (1))) (a := (va_up d (S 23 ((2) * (p))) (d (S 23 ((2) * (p))))) (S 23 (((2) * (p)) + (1)))) K rfl (by decide) (by omega) dX6_measure_211 ?_
              refine g_cast (S' := (va_up S 28 (va_up (va_up d (S 23 ((2) * (p))) (d (S 23 ((2) * (p))))) (S 23 (((2) * (p)) + (1))) ((va_up d (S 23 ((2) * (p))) (d (S 23 ((2) * (p))))) (S 23 (((2) * (p)) + (1))))))) rfl rfl (gup_w1a) ?_
              refine g_iinc (a := p) (b := p + 1) (lo' := [(2, .int (nI (p + 1))), (4, .int (nI (S 23 (((2) * (p)) + (1))))), (3, .int (nI (S 23 ((2) * (p))))), (0, .ref (g_ad X 22)), (1, .int (nI (n)))]) K 4 dX6_measure_212 rfl (gi_inc _) (by decide) rfl ?_
              refine g_goto (tgt := 52) K dX6_measure_215 (by decide) ?_
              refine g_loc (lo' := [(0, .ref (g_ad X 22)), (1, .int (nI (n))), (2, .int (nI (p + 1)))]) [3, 4, 0] rfl ?_
              exact ih (p + 1) (va_up (va_up d (S 23 ((2) * (p))) (d (S 23 ((2) * (p))))) (S 23 (((2) * (p)) + (1))) ((va_up d (S 23 ((2) * (p))) (d (S 23 ((2) * (p))))) (S 23 (((2) * (p)) + (1))))) (by omega) (up_le hd1 (by omega) _) (by rw [gfor_succ, show (fPipeM S) p d = va_up (va_up d (S 23 ((2) * (p))) (d (S 23 ((2) * (p))))) (S 23 (((2) * (p)) + (1))) ((va_up d (S 23 ((2) * (p))) (d (S 23 ((2) * (p))))) (S 23 (((2) * (p)) + (1)))) from by unfold fPipeM relB relA; rw [if_neg h69_3, if_neg h83_5]; (first | rw [if_pos h132_9] | rw [if_neg (Nat.not_lt.mpr h132_9)]); (first | rw [if_pos h185_11] | rw [if_neg (Nat.not_lt.mpr h185_11)])] at kk; exact kk)
            · refine g_aload_n K 2 dX6_measure_188 rfl ?_
              refine g_getR (q' := 28) (q := 22) (ci := 6) (k := 12) (N := 17) (C := RX6) (T := TX6) (ref := "ValveWalkModel") K rfl rfl rfl (by decide) hin6 (by decide +kernel) rfl dX6_measure_189 ?_
              refine g_iload_n K 1 dX6_measure_192 rfl ?_
              refine g_ald (q := 28) (n := 12) (i := S 23 ((2) * (p))) K rfl (by decide) (by omega) dX6_measure_193 ?_
              refine g_topE ((va_up d (S 23 ((2) * (p))) (d (S 23 ((2) * (p))))) (S 23 ((2) * (p)))) rfl ?_
              refine g_aload_n K 2 dX6_measure_194 rfl ?_
              refine g_getR (q' := 25) (q := 22) (ci := 6) (k := 7) (N := 17) (C := RX6) (T := TX6) (ref := "ValveWalkModel") K rfl rfl rfl (by decide) hin6 (by decide +kernel) rfl dX6_measure_195 ?_
              refine g_iload_n K 4 dX6_measure_198 rfl ?_
              refine g_ald (q := 25) (n := 16) (i := p) K rfl (by decide) (by omega) dX6_measure_199 ?_
              refine g_topE (S 25 (p)) rfl ?_
              have hv199_12 := b25 (p)
              refine g_iadd (a := (va_up d (S 23 ((2) * (p))) (d (S 23 ((2) * (p))))) (S 23 ((2) * (p)))) (b := S 25 (p)) K dX6_measure_200 ?_
              refine g_goto (tgt := 211) K dX6_measure_201 (by decide) ?_
              refine g_ast (q := 28) (n := 12) (i := S 23 (((2) * (p)) + (1))) (a := ((va_up d (S 23 ((2) * (p))) (d (S 23 ((2) * (p))))) (S 23 ((2) * (p)))) + (S 25 (p))) K rfl (by decide) (by omega) dX6_measure_211 ?_
              refine g_cast (S' := (va_up S 28 (va_up (va_up d (S 23 ((2) * (p))) (d (S 23 ((2) * (p))))) (S 23 (((2) * (p)) + (1))) (((va_up d (S 23 ((2) * (p))) (d (S 23 ((2) * (p))))) (S 23 ((2) * (p)))) + (S 25 (p)))))) rfl rfl (gup_w1a) ?_
              refine g_iinc (a := p) (b := p + 1) (lo' := [(2, .int (nI (p + 1))), (4, .int (nI (S 23 (((2) * (p)) + (1))))), (3, .int (nI (S 23 ((2) * (p))))), (0, .ref (g_ad X 22)), (1, .int (nI (n)))]) K 4 dX6_measure_212 rfl (gi_inc _) (by decide) rfl ?_
              refine g_goto (tgt := 52) K dX6_measure_215 (by decide) ?_
              refine g_loc (lo' := [(0, .ref (g_ad X 22)), (1, .int (nI (n))), (2, .int (nI (p + 1)))]) [3, 4, 0] rfl ?_
              exact ih (p + 1) (va_up (va_up d (S 23 ((2) * (p))) (d (S 23 ((2) * (p))))) (S 23 (((2) * (p)) + (1))) (((va_up d (S 23 ((2) * (p))) (d (S 23 ((2) * (p))))) (S 23 ((2) * (p)))) + (S 25 (p)))) (by omega) (up_le hd1 (by omega) _) (by rw [gfor_succ, show (fPipeM S) p d = va_up (va_up d (S 23 ((2) * (p))) (d (S 23 ((2) * (p))))) (S 23 (((2) * (p)) + (1))) (((va_up d (S 23 ((2) * (p))) (d (S 23 ((2) * (p))))) (S 23 ((2) * (p)))) + (S 25 (p))) from by unfold fPipeM relB relA; rw [if_neg h69_3, if_neg h83_5]; (first | rw [if_pos h132_9] | rw [if_neg (Nat.not_lt.mpr h132_9)]); (first | rw [if_pos h185_11] | rw [if_neg (Nat.not_lt.mpr h185_11)])] at kk; exact kk)
          · refine g_aload_n K 2 dX6_measure_135 rfl ?_
            refine g_getR (q' := 28) (q := 22) (ci := 6) (k := 12) (N := 17) (C := RX6) (T := TX6) (ref := "ValveWalkModel") K rfl rfl rfl (by decide) hin6 (by decide +kernel) rfl dX6_measure_136 ?_
            refine g_iload K 0 dX6_measure_139 rfl ?_
            refine g_ald (q := 28) (n := 12) (i := S 23 (((2) * (p)) + (1))) K rfl (by decide) (by omega) dX6_measure_141 ?_
            refine g_topE (d (S 23 (((2) * (p)) + (1)))) rfl ?_
            refine g_aload_n K 2 dX6_measure_142 rfl ?_
            refine g_getR (q' := 25) (q := 22) (ci := 6) (k := 7) (N := 17) (C := RX6) (T := TX6) (ref := "ValveWalkModel") K rfl rfl rfl (by decide) hin6 (by decide +kernel) rfl dX6_measure_143 ?_
            refine g_iload_n K 4 dX6_measure_146 rfl ?_
            refine g_ald (q := 25) (n := 16) (i := p) K rfl (by decide) (by omega) dX6_measure_147 ?_
            refine g_topE (S 25 (p)) rfl ?_
            have hv147_13 := b25 (p)
            refine g_iadd (a := d (S 23 (((2) * (p)) + (1)))) (b := S 25 (p)) K dX6_measure_148 ?_
            refine g_goto (tgt := 158) K dX6_measure_149 (by decide) ?_
            refine g_ast (q := 28) (n := 12) (i := S 23 ((2) * (p))) (a := (d (S 23 (((2) * (p)) + (1)))) + (S 25 (p))) K rfl (by decide) (by omega) dX6_measure_158 ?_
            refine g_cast (S' := (va_up S 28 (va_up d (S 23 ((2) * (p))) ((d (S 23 (((2) * (p)) + (1)))) + (S 25 (p)))))) rfl rfl (gup_w1a) ?_
            have hd1 : ∀ j, j < S 22 1 → (va_up d (S 23 ((2) * (p))) ((d (S 23 (((2) * (p)) + (1)))) + (S 25 (p)))) j ≤ 1000000 := up_le hd (by omega) _
            have hx1 := hd1 _ hx
            have hy1 := hd1 _ hy
            refine g_aload_n K 2 dX6_measure_159 rfl ?_
            refine g_getR (q' := 28) (q := 22) (ci := 6) (k := 12) (N := 17) (C := RX6) (T := TX6) (ref := "ValveWalkModel") K rfl rfl rfl (by decide) hin6 (by decide +kernel) rfl dX6_measure_160 ?_
            refine g_iload K 0 dX6_measure_163 rfl ?_
            refine g_aload_n K 2 dX6_measure_165 rfl ?_
            refine g_getR (q' := 28) (q := 22) (ci := 6) (k := 12) (N := 17) (C := RX6) (T := TX6) (ref := "ValveWalkModel") K rfl rfl rfl (by decide) hin6 (by decide +kernel) rfl dX6_measure_166 ?_
            refine g_iload_n K 1 dX6_measure_169 rfl ?_
            refine g_ald (q := 28) (n := 12) (i := S 23 ((2) * (p))) K rfl (by decide) (by omega) dX6_measure_170 ?_
            refine g_topE ((va_up d (S 23 ((2) * (p))) ((d (S 23 (((2) * (p)) + (1)))) + (S 25 (p)))) (S 23 ((2) * (p)))) rfl ?_
            refine g_aload_n K 2 dX6_measure_171 rfl ?_
            refine g_getR (q' := 25) (q := 22) (ci := 6) (k := 7) (N := 17) (C := RX6) (T := TX6) (ref := "ValveWalkModel") K rfl rfl rfl (by decide) hin6 (by decide +kernel) rfl dX6_measure_172 ?_
            refine g_iload_n K 4 dX6_measure_175 rfl ?_
            refine g_ald (q := 25) (n := 16) (i := p) K rfl (by decide) (by omega) dX6_measure_176 ?_
            refine g_topE (S 25 (p)) rfl ?_
            have hv176_14 := b25 (p)
            refine g_iadd (a := (va_up d (S 23 ((2) * (p))) ((d (S 23 (((2) * (p)) + (1)))) + (S 25 (p)))) (S 23 ((2) * (p)))) (b := S 25 (p)) K dX6_measure_177 ?_
            refine g_aload_n K 2 dX6_measure_178 rfl ?_
            refine g_getR (q' := 28) (q := 22) (ci := 6) (k := 12) (N := 17) (C := RX6) (T := TX6) (ref := "ValveWalkModel") K rfl rfl rfl (by decide) hin6 (by decide +kernel) rfl dX6_measure_179 ?_
            refine g_iload K 0 dX6_measure_182 rfl ?_
            refine g_ald (q := 28) (n := 12) (i := S 23 (((2) * (p)) + (1))) K rfl (by decide) (by omega) dX6_measure_184 ?_
            refine g_topE ((va_up d (S 23 ((2) * (p))) ((d (S 23 (((2) * (p)) + (1)))) + (S 25 (p)))) (S 23 (((2) * (p)) + (1)))) rfl ?_
            refine g_icmp_ge (tgt := 204) (a := ((va_up d (S 23 ((2) * (p))) ((d (S 23 (((2) * (p)) + (1)))) + (S 25 (p)))) (S 23 ((2) * (p)))) + (S 25 (p))) (b := (va_up d (S 23 ((2) * (p))) ((d (S 23 (((2) * (p)) + (1)))) + (S 25 (p)))) (S 23 (((2) * (p)) + (1)))) K dX6_measure_185 (by decide) (by omega) (by omega) (fun h185_15 => ?_) (fun h185_15 => ?_)
            · refine g_aload_n K 2 dX6_measure_204 rfl ?_
              refine g_getR (q' := 28) (q := 22) (ci := 6) (k := 12) (N := 17) (C := RX6) (T := TX6) (ref := "ValveWalkModel") K rfl rfl rfl (by decide) hin6 (by decide +kernel) rfl dX6_measure_205 ?_
              refine g_iload K 0 dX6_measure_208 rfl ?_
              refine g_ald (q := 28) (n := 12) (i := S 23 (((2) * (p)) + (1))) K rfl (by decide) (by omega) dX6_measure_210 ?_
              refine g_topE ((va_up d (S 23 ((2) * (p))) ((d (S 23 (((2) * (p)) + (1)))) + (S 25 (p)))) (S 23 (((2) * (p)) + (1)))) rfl ?_
              refine g_ast (q := 28) (n := 12) (i := S 23 (((2) * (p)) + (1))) (a := (va_up d (S 23 ((2) * (p))) ((d (S 23 (((2) * (p)) + (1)))) + (S 25 (p)))) (S 23 (((2) * (p)) + (1)))) K rfl (by decide) (by omega) dX6_measure_211 ?_
              refine g_cast (S' := (va_up S 28 (va_up (va_up d (S 23 ((2) * (p))) ((d (S 23 (((2) * (p)) + (1)))) + (S 25 (p)))) (S 23 (((2) * (p)) + (1))) ((va_up d (S 23 ((2) * (p))) ((d (S 23 (((2) * (p)) + (1)))) + (S 25 (p)))) (S 23 (((2) * (p)) + (1))))))) rfl rfl (gup_w1a) ?_
              refine g_iinc (a := p) (b := p + 1) (lo' := [(2, .int (nI (p + 1))), (4, .int (nI (S 23 (((2) * (p)) + (1))))), (3, .int (nI (S 23 ((2) * (p))))), (0, .ref (g_ad X 22)), (1, .int (nI (n)))]) K 4 dX6_measure_212 rfl (gi_inc _) (by decide) rfl ?_
              refine g_goto (tgt := 52) K dX6_measure_215 (by decide) ?_
              refine g_loc (lo' := [(0, .ref (g_ad X 22)), (1, .int (nI (n))), (2, .int (nI (p + 1)))]) [3, 4, 0] rfl ?_
              exact ih (p + 1) (va_up (va_up d (S 23 ((2) * (p))) ((d (S 23 (((2) * (p)) + (1)))) + (S 25 (p)))) (S 23 (((2) * (p)) + (1))) ((va_up d (S 23 ((2) * (p))) ((d (S 23 (((2) * (p)) + (1)))) + (S 25 (p)))) (S 23 (((2) * (p)) + (1))))) (by omega) (up_le hd1 (by omega) _) (by rw [gfor_succ, show (fPipeM S) p d = va_up (va_up d (S 23 ((2) * (p))) ((d (S 23 (((2) * (p)) + (1)))) + (S 25 (p)))) (S 23 (((2) * (p)) + (1))) ((va_up d (S 23 ((2) * (p))) ((d (S 23 (((2) * (p)) + (1)))) + (S 25 (p)))) (S 23 (((2) * (p)) + (1)))) from by unfold fPipeM relB relA; rw [if_neg h69_3, if_neg h83_5]; (first | rw [if_pos h132_9] | rw [if_neg (Nat.not_lt.mpr h132_9)]); (first | rw [if_pos h185_15] | rw [if_neg (Nat.not_lt.mpr h185_15)])] at kk; exact kk)
            · refine g_aload_n K 2 dX6_measure_188 rfl ?_
              refine g_getR (q' := 28) (q := 22) (ci := 6) (k := 12) (N := 17) (C := RX6) (T := TX6) (ref := "ValveWalkModel") K rfl rfl rfl (by decide) hin6 (by decide +kernel) rfl dX6_measure_189 ?_
              refine g_iload_n K 1 dX6_measure_192 rfl ?_
              refine g_ald (q := 28) (n := 12) (i := S 23 ((2) * (p))) K rfl (by decide) (by omega) dX6_measure_193 ?_
              refine g_topE ((va_up d (S 23 ((2) * (p))) ((d (S 23 (((2) * (p)) + (1)))) + (S 25 (p)))) (S 23 ((2) * (p)))) rfl ?_
              refine g_aload_n K 2 dX6_measure_194 rfl ?_
              refine g_getR (q' := 25) (q := 22) (ci := 6) (k := 7) (N := 17) (C := RX6) (T := TX6) (ref := "ValveWalkModel") K rfl rfl rfl (by decide) hin6 (by decide +kernel) rfl dX6_measure_195 ?_
              refine g_iload_n K 4 dX6_measure_198 rfl ?_
              refine g_ald (q := 25) (n := 16) (i := p) K rfl (by decide) (by omega) dX6_measure_199 ?_
              refine g_topE (S 25 (p)) rfl ?_
              have hv199_16 := b25 (p)
              refine g_iadd (a := (va_up d (S 23 ((2) * (p))) ((d (S 23 (((2) * (p)) + (1)))) + (S 25 (p)))) (S 23 ((2) * (p)))) (b := S 25 (p)) K dX6_measure_200 ?_
              refine g_goto (tgt := 211) K dX6_measure_201 (by decide) ?_
              refine g_ast (q := 28) (n := 12) (i := S 23 (((2) * (p)) + (1))) (a := ((va_up d (S 23 ((2) * (p))) ((d (S 23 (((2) * (p)) + (1)))) + (S 25 (p)))) (S 23 ((2) * (p)))) + (S 25 (p))) K rfl (by decide) (by omega) dX6_measure_211 ?_
              refine g_cast (S' := (va_up S 28 (va_up (va_up d (S 23 ((2) * (p))) ((d (S 23 (((2) * (p)) + (1)))) + (S 25 (p)))) (S 23 (((2) * (p)) + (1))) (((va_up d (S 23 ((2) * (p))) ((d (S 23 (((2) * (p)) + (1)))) + (S 25 (p)))) (S 23 ((2) * (p)))) + (S 25 (p)))))) rfl rfl (gup_w1a) ?_
              refine g_iinc (a := p) (b := p + 1) (lo' := [(2, .int (nI (p + 1))), (4, .int (nI (S 23 (((2) * (p)) + (1))))), (3, .int (nI (S 23 ((2) * (p))))), (0, .ref (g_ad X 22)), (1, .int (nI (n)))]) K 4 dX6_measure_212 rfl (gi_inc _) (by decide) rfl ?_
              refine g_goto (tgt := 52) K dX6_measure_215 (by decide) ?_
              refine g_loc (lo' := [(0, .ref (g_ad X 22)), (1, .int (nI (n))), (2, .int (nI (p + 1)))]) [3, 4, 0] rfl ?_
              exact ih (p + 1) (va_up (va_up d (S 23 ((2) * (p))) ((d (S 23 (((2) * (p)) + (1)))) + (S 25 (p)))) (S 23 (((2) * (p)) + (1))) (((va_up d (S 23 ((2) * (p))) ((d (S 23 (((2) * (p)) + (1)))) + (S 25 (p)))) (S 23 ((2) * (p)))) + (S 25 (p)))) (by omega) (up_le hd1 (by omega) _) (by rw [gfor_succ, show (fPipeM S) p d = va_up (va_up d (S 23 ((2) * (p))) ((d (S 23 (((2) * (p)) + (1)))) + (S 25 (p)))) (S 23 (((2) * (p)) + (1))) (((va_up d (S 23 ((2) * (p))) ((d (S 23 (((2) * (p)) + (1)))) + (S 25 (p)))) (S 23 ((2) * (p)))) + (S 25 (p))) from by unfold fPipeM relB relA; rw [if_neg h69_3, if_neg h83_5]; (first | rw [if_pos h132_9] | rw [if_neg (Nat.not_lt.mpr h132_9)]); (first | rw [if_pos h185_15] | rw [if_neg (Nat.not_lt.mpr h185_15)])] at kk; exact kk)

set_option maxHeartbeats 4000000 in
set_option maxRecDepth 100000 in
theorem L_rnd (X : gC) (S : Nat → Nat → Nat) (K : gOk X cX6_measure 5 wsX6_measure RX6) (hRf : 1 ≤ (g_R X).frames) (hRl : 25 ≤ (g_R X).locals) (hm : wfM S) (hn : ndM S) : ∀ (k j : Nat) (d : Nat → Nat), j + k = S 22 1 → (∀ j, j < S 22 1 → d j ≤ 1000000) → gG X 224 [(0, .ref (g_ad X 22)), (1, .int (nI ((S 22 1))))] [] (va_up S 28 (((gfor (fRoundM S) k j d)))) → gG X 42 [(0, .ref (g_ad X 22)), (1, .int (nI (j)))] [] (va_up S 28 (d)) := by
  have hin6 : ∀ w ∈ u_ws RX6 TX6 17, w ∈ wsX6_measure := by decide +kernel
  obtain ⟨m1, m2, m3, m4, msh, mst, b23, b24, b25, b26, b27⟩ := id hm
  intro k
  induction k with
  | zero =>
    intro j d hj hd kk
    have hj : j = S 22 1 := by omega
    refine g_iload_n K 1 dX6_measure_42 rfl ?_
    refine g_aload_n K 0 dX6_measure_43 rfl ?_
    refine g_getI (q := 22) (ci := 6) (k := 1) (N := 17) (C := RX6) (T := TX6) (ref := "ValveWalkModel") K rfl rfl rfl (by decide) hin6 (by decide +kernel) rfl dX6_measure_44 ?_
    refine g_topE (S 22 1) rfl ?_
    refine g_icmp_ge (tgt := 224) (a := j) (b := S 22 1) K dX6_measure_47 (by decide) (by omega) (by omega) (fun h47_1 => ?_) (fun h47_1 => ?_)
    · refine g_loc (lo' := [(0, .ref (g_ad X 22)), (1, .int (nI (j)))]) [0, 1] rfl ?_
      exact g_cast (by first | rfl | (rw [hj]; done) | (rw [hj]; rfl)) rfl rfl kk
    · exact absurd h47_1 (by omega)
  | succ k ih =>
    intro j d hj hd kk
    refine g_iload_n K 1 dX6_measure_42 rfl ?_
    refine g_aload_n K 0 dX6_measure_43 rfl ?_
    refine g_getI (q := 22) (ci := 6) (k := 1) (N := 17) (C := RX6) (T := TX6) (ref := "ValveWalkModel") K rfl rfl rfl (by decide) hin6 (by decide +kernel) rfl dX6_measure_44 ?_
    refine g_topE (S 22 1) rfl ?_
    refine g_icmp_ge (tgt := 224) (a := j) (b := S 22 1) K dX6_measure_47 (by decide) (by omega) (by omega) (fun h47_1 => ?_) (fun h47_1 => ?_)
    · exact absurd h47_1 (by omega)
    · refine g_iconst K 0 dX6_measure_50 (by decide +kernel) ?_
      refine g_istore_n (lo' := [(2, .int (nI (0))), (0, .ref (g_ad X 22)), (1, .int (nI (j)))]) K dX6_measure_51 (by decide) rfl ?_
      refine g_loc (lo' := [(0, .ref (g_ad X 22)), (1, .int (nI (j))), (2, .int (nI (0)))]) [1, 2, 0] rfl ?_
      refine L_rel X S j K (Nat.le_trans (Nat.le_of_ble_eq_true rfl) hRf) (Nat.le_trans (Nat.le_of_ble_eq_true rfl) hRl) (hm) (hn)  (S 22 2) 0 d (by omega) (hd) ?_
      refine g_iinc (a := j) (b := j + 1) (lo' := [(1, .int (nI (j + 1))), (0, .ref (g_ad X 22)), (2, .int (nI ((S 22 2))))]) K 1 dX6_measure_218 rfl (gi_inc _) (by decide) rfl ?_
      refine g_goto (tgt := 42) K dX6_measure_221 (by decide) ?_
      refine g_loc (lo' := [(0, .ref (g_ad X 22)), (1, .int (nI (j + 1)))]) [1, 0] rfl ?_
      exact ih (j + 1) (((gfor (fPipeM S) (S 22 2) 0 d))) (by omega) (fRoundM_le hn j d hd) kk

set_option maxHeartbeats 4000000 in
set_option maxRecDepth 100000 in
theorem cX6_measure_k (Z : gZ) (S : Nat → Nat → Nat) (hm : wfM S) (hnd : ndM S) : gMv Z yX6_measure wsX6_measure { frames := 1, cells := 0, slots := 0, locals := 25 } [.ref (gz_ad Z 22)] S (va_up S 28 (measM S)) := by
  refine gMv_of (cc := cX6_measure) (maxL := 5) (by decide +kernel) rfl (Nat.le_of_ble_eq_true rfl)  (fun X hZ hR K hret => ?_)
  subst hZ
  have K : gOk X cX6_measure 5 wsX6_measure RX6 := K
  have hRf : 1 ≤ (g_R X).frames := gR_f hR rfl
  have hRl : 25 ≤ (g_R X).locals := gR_l hR rfl
  have hin6 : ∀ w ∈ u_ws RX6 TX6 17, w ∈ wsX6_measure := by decide +kernel
  obtain ⟨m1, m2, m3, m4, msh, mst, b23, b24, b25, b26, b27⟩ := id hm
  show gG X 0 [(0, .ref (g_ad X 22))] [] S
  refine g_iconst K 0 dX6_measure_0 (by decide +kernel) ?_
  refine g_istore_n (lo' := [(1, .int (nI (0))), (0, .ref (g_ad X 22))]) K dX6_measure_1 (by decide) rfl ?_
  refine g_loc (lo' := [(0, .ref (g_ad X 22)), (1, .int (nI (0)))]) [1, 0] rfl ?_
  refine g_cast (S' := (va_up S 28 (S 28))) rfl rfl (up_id1 ..).symm ?_
  refine L_im X S  K (Nat.le_trans (Nat.le_of_ble_eq_true rfl) hRf) (Nat.le_trans (Nat.le_of_ble_eq_true rfl) hRl) (hm)  (S 22 1) 0 (S 28) (by omega)  ?_
  refine g_iconst K 0 dX6_measure_40 (by decide +kernel) ?_
  refine g_istore_n (lo' := [(1, .int (nI (0))), (0, .ref (g_ad X 22))]) K dX6_measure_41 (by decide) rfl ?_
  refine g_loc (lo' := [(0, .ref (g_ad X 22)), (1, .int (nI (0)))]) [1, 0] rfl ?_
  refine L_rnd X S  K (Nat.le_trans (Nat.le_of_ble_eq_true rfl) hRf) (Nat.le_trans (Nat.le_of_ble_eq_true rfl) hRl) (hm) (hnd)  (S 22 1) 0 (gfor (fInitM S) (S 22 1) 0 (S 28)) (by omega) (initM_le S _) ?_
  exact g_retv hret dX6_measure_224 rfl

set_option maxHeartbeats 4000000 in
set_option maxRecDepth 100000 in
theorem cX6_distance_k (Z : gZ) (S : Nat → Nat → Nat) (n : Nat) (hm : wfM S) (hnd : ndM S) (hun : n < 4294967296) (hn : n < S 22 1) : gMd Z yX6_distance wsX6_distance { frames := 2, cells := 0, slots := 0, locals := 49 } [.ref (gz_ad Z 22), .int (nI (n))] S (if measM S n < 1000000 then measM S n else 4294967295) (va_up (va_up S 22 (va_up (S 22) 0 0)) 28 (measM S)) := by
  refine gMd_of (cc := cX6_distance) (maxL := 2) (ret := (some .int)) (by decide +kernel) rfl (Nat.le_of_ble_eq_true rfl) (Or.inl rfl) (fun X hZ hR K hret => ?_)
  subst hZ
  have K : gOk X cX6_distance 2 wsX6_distance RX6 := K
  have hRf : 2 ≤ (g_R X).frames := gR_f hR rfl
  have hRl : 49 ≤ (g_R X).locals := gR_l hR rfl
  have hin6 : ∀ w ∈ u_ws RX6 TX6 17, w ∈ wsX6_distance := by decide +kernel
  obtain ⟨m1, m2, m3, m4, msh, mst, b23, b24, b25, b26, b27⟩ := id hm
  show gG X 0 [(0, .ref (g_ad X 22)), (1, .int (nI (n)))] [] S
  refine g_aload_n K 0 dX6_distance_0 rfl ?_
  refine g_aload_n K 0 dX6_distance_1 rfl ?_
  refine g_iload_n K 1 dX6_distance_2 rfl ?_
  refine g_callVd (q := 22) (ci := 6) (As := [.int (nI (n))]) (rest := [.ref (g_ad X 22)]) (C := RX6) (T := TX6) (N := 17) K (cX6_isNode_k (g_z X) S n (hm) (by omega)) (cwV 1 K.1.2.2.2.2 gX6_distance_X6_isNode rfl rfl rfl (by decide +kernel) ⟨Nat.le_trans (Nat.le_of_ble_eq_true rfl) hRf, Nat.le_trans (Nat.le_of_ble_eq_true rfl) hRl⟩) rfl rfl rfl rfl (Nat.le_of_ble_eq_true rfl) dX6_distance_3 ?_
  have hf3_1 := isN_spec (S 22 1) n
  refine g_if_eq (tgt := 13) (a := isN (S 22 1) n) K dX6_distance_6 (by decide) (by omega) (fun h6_2 => ?_) (fun h6_2 => ?_)
  · refine g_iconst K 1 dX6_distance_13 (by decide +kernel) ?_
    refine g_callVd (q := 22) (ci := 6) (As := [.int (nI (1))]) (rest := []) (C := RX6) (T := TX6) (N := 17) K (cX6_refused_k (g_z X) S 1 (by omega)) (cwV 1 K.1.2.2.2.2 gX6_distance_X6_refused rfl rfl rfl (by decide +kernel) ⟨Nat.le_trans (Nat.le_of_ble_eq_true rfl) hRf, Nat.le_trans (Nat.le_of_ble_eq_true rfl) hRl⟩) rfl rfl rfl rfl (Nat.le_of_ble_eq_true rfl) dX6_distance_14 ?_
    refine g_cast (S' := (va_up S 22 (va_up (S 22) 0 (1)))) rfl rfl rfl ?_
    refine g_if_eq (tgt := 22) (a := 1) K dX6_distance_17 (by decide) (by omega) (fun h17_3 => absurd h17_3 (by omega)) (fun h17_3 => ?_)
    exfalso; omega
  · refine g_iconst K 0 dX6_distance_9 (by decide +kernel) ?_
    refine g_goto (tgt := 14) K dX6_distance_10 (by decide) ?_
    refine g_callVd (q := 22) (ci := 6) (As := [.int (nI (0))]) (rest := []) (C := RX6) (T := TX6) (N := 17) K (cX6_refused_k (g_z X) S 0 (by omega)) (cwV 1 K.1.2.2.2.2 gX6_distance_X6_refused rfl rfl rfl (by decide +kernel) ⟨Nat.le_trans (Nat.le_of_ble_eq_true rfl) hRf, Nat.le_trans (Nat.le_of_ble_eq_true rfl) hRl⟩) rfl rfl rfl rfl (Nat.le_of_ble_eq_true rfl) dX6_distance_14 ?_
    refine g_cast (S' := (va_up S 22 (va_up (S 22) 0 (0)))) rfl rfl rfl ?_
    refine g_if_eq (tgt := 22) (a := 0) K dX6_distance_17 (by decide) (by omega) (fun h17_4 => ?_) (fun h17_4 => absurd h17_4 (by omega))
    refine g_aload_n K 0 dX6_distance_22 rfl ?_
    refine g_callVv (q := 22) (ci := 6) (As := []) (rest := []) (C := RX6) (T := TX6) (N := 17) K (cX6_measure_k (g_z X) (va_up S 22 (va_up (S 22) 0 (0))) ((wfM_r hm)) (hnd)) (cwV 0 K.1.2.2.2.2 gX6_distance_X6_measure rfl rfl rfl (by decide +kernel) ⟨Nat.le_trans (Nat.le_of_ble_eq_true rfl) hRf, Nat.le_trans (Nat.le_of_ble_eq_true rfl) hRl⟩) rfl rfl rfl rfl (Nat.le_of_ble_eq_true rfl) dX6_distance_23 ?_
    refine g_cast (S' := (va_up (va_up S 22 (va_up (S 22) 0 (0))) 28 (measM S))) rfl rfl (by rw [measM_r]) ?_
    have hdn := measM_le hnd n hn
    refine g_aload_n K 0 dX6_distance_26 rfl ?_
    refine g_getR (q' := 28) (q := 22) (ci := 6) (k := 12) (N := 17) (C := RX6) (T := TX6) (ref := "ValveWalkModel") K rfl rfl rfl (by decide) hin6 (by decide +kernel) rfl dX6_distance_27 ?_
    refine g_iload_n K 1 dX6_distance_30 rfl ?_
    refine g_ald (q := 28) (n := 12) (i := n) K rfl (by decide) (by omega) dX6_distance_31 ?_
    refine g_topE ((measM S) (n)) rfl ?_
    refine g_ldc (w := 1000000) K 1000000 (K.1.2.2.2.2 _ (by decide +kernel)) (by decide +kernel) dX6_distance_32 ?_
    refine g_icmp_lt (tgt := 41) (a := (measM S) (n)) (b := 1000000) K dX6_distance_34 (by decide) (by omega) (by omega) (fun h34_5 => ?_) (fun h34_5 => ?_)
    · refine g_aload_n K 0 dX6_distance_41 rfl ?_
      refine g_getR (q' := 28) (q := 22) (ci := 6) (k := 12) (N := 17) (C := RX6) (T := TX6) (ref := "ValveWalkModel") K rfl rfl rfl (by decide) hin6 (by decide +kernel) rfl dX6_distance_42 ?_
      refine g_iload_n K 1 dX6_distance_45 rfl ?_
      refine g_ald (q := 28) (n := 12) (i := n) K rfl (by decide) (by omega) dX6_distance_46 ?_
      refine g_topE ((measM S) (n)) rfl ?_
      exact g_retd hret dX6_distance_47 (if_pos (by omega)).symm rfl
    · refine g_iconst K 4294967295 dX6_distance_37 (by decide +kernel) ?_
      refine g_goto (tgt := 47) K dX6_distance_38 (by decide) ?_
      exact g_retd hret dX6_distance_47 (if_neg (by omega)).symm rfl

set_option maxHeartbeats 4000000 in
set_option maxRecDepth 100000 in
theorem cX6_distance_r1 (Z : gZ) (S : Nat → Nat → Nat) (n : Nat) (hm : wfM S) (hnd : ndM S) (hun : n < 4294967296) (hn : S 22 1 ≤ n) : gMd Z yX6_distance wsX6_distance { frames := 2, cells := 0, slots := 0, locals := 43 } [.ref (gz_ad Z 22), .int (nI (n))] S (0) (va_up S 22 (va_up (S 22) 0 (1))) := by
  refine gMd_of (cc := cX6_distance) (maxL := 2) (ret := (some .int)) (by decide +kernel) rfl (Nat.le_of_ble_eq_true rfl) (Or.inl rfl) (fun X hZ hR K hret => ?_)
  subst hZ
  have K : gOk X cX6_distance 2 wsX6_distance RX6 := K
  have hRf : 2 ≤ (g_R X).frames := gR_f hR rfl
  have hRl : 43 ≤ (g_R X).locals := gR_l hR rfl
  have hin6 : ∀ w ∈ u_ws RX6 TX6 17, w ∈ wsX6_distance := by decide +kernel
  obtain ⟨m1, m2, m3, m4, msh, mst, b23, b24, b25, b26, b27⟩ := id hm
  show gG X 0 [(0, .ref (g_ad X 22)), (1, .int (nI (n)))] [] S
  refine g_aload_n K 0 dX6_distance_0 rfl ?_
  refine g_aload_n K 0 dX6_distance_1 rfl ?_
  refine g_iload_n K 1 dX6_distance_2 rfl ?_
  refine g_callVd (q := 22) (ci := 6) (As := [.int (nI (n))]) (rest := [.ref (g_ad X 22)]) (C := RX6) (T := TX6) (N := 17) K (cX6_isNode_k (g_z X) S n (hm) (by omega)) (cwV 1 K.1.2.2.2.2 gX6_distance_X6_isNode rfl rfl rfl (by decide +kernel) ⟨Nat.le_trans (Nat.le_of_ble_eq_true rfl) hRf, Nat.le_trans (Nat.le_of_ble_eq_true rfl) hRl⟩) rfl rfl rfl rfl (Nat.le_of_ble_eq_true rfl) dX6_distance_3 ?_
  have hf3_1 := isN_spec (S 22 1) n
  refine g_if_eq (tgt := 13) (a := isN (S 22 1) n) K dX6_distance_6 (by decide) (by omega) (fun h6_2 => ?_) (fun h6_2 => ?_)
  · refine g_iconst K 1 dX6_distance_13 (by decide +kernel) ?_
    refine g_callVd (q := 22) (ci := 6) (As := [.int (nI (1))]) (rest := []) (C := RX6) (T := TX6) (N := 17) K (cX6_refused_k (g_z X) S 1 (by omega)) (cwV 1 K.1.2.2.2.2 gX6_distance_X6_refused rfl rfl rfl (by decide +kernel) ⟨Nat.le_trans (Nat.le_of_ble_eq_true rfl) hRf, Nat.le_trans (Nat.le_of_ble_eq_true rfl) hRl⟩) rfl rfl rfl rfl (Nat.le_of_ble_eq_true rfl) dX6_distance_14 ?_
    refine g_cast (S' := (va_up S 22 (va_up (S 22) 0 (1)))) rfl rfl rfl ?_
    refine g_if_eq (tgt := 22) (a := 1) K dX6_distance_17 (by decide) (by omega) (fun h17_3 => absurd h17_3 (by omega)) (fun h17_3 => ?_)
    refine g_iconst K 0 dX6_distance_20 (by decide +kernel) ?_
    exact g_retd hret dX6_distance_21 rfl rfl
  · refine g_iconst K 0 dX6_distance_9 (by decide +kernel) ?_
    refine g_goto (tgt := 14) K dX6_distance_10 (by decide) ?_
    refine g_callVd (q := 22) (ci := 6) (As := [.int (nI (0))]) (rest := []) (C := RX6) (T := TX6) (N := 17) K (cX6_refused_k (g_z X) S 0 (by omega)) (cwV 1 K.1.2.2.2.2 gX6_distance_X6_refused rfl rfl rfl (by decide +kernel) ⟨Nat.le_trans (Nat.le_of_ble_eq_true rfl) hRf, Nat.le_trans (Nat.le_of_ble_eq_true rfl) hRl⟩) rfl rfl rfl rfl (Nat.le_of_ble_eq_true rfl) dX6_distance_14 ?_
    refine g_cast (S' := (va_up S 22 (va_up (S 22) 0 (0)))) rfl rfl rfl ?_
    refine g_if_eq (tgt := 22) (a := 0) K dX6_distance_17 (by decide) (by omega) (fun h17_4 => ?_) (fun h17_4 => absurd h17_4 (by omega))
    exfalso; omega

def rchM (S : Nat → Nat → Nat) (d : Nat → Nat) (pl : Nat) : Nat := if openM S pl 0 0 = 0 then 1000000 else d (S 23 pl)
theorem rchM_le {S : Nat → Nat → Nat} {d : Nat → Nat} (hn : ndM S) (hd : ∀ j, j < S 22 1 → d j ≤ 1000000) {pl : Nat} (h : pl < 2 * S 22 2) : rchM S d pl ≤ 1000000 := by
  unfold rchM; split
  · exact Nat.le_refl _
  · exact hd _ (hn pl h)
def insGo (S : Nat → Nat → Nat) (d : Nat → Nat) (own : Nat) : Nat → (Nat → Nat) → Nat × (Nat → Nat)
  | 0, q => (0, q)
  | a + 1, q => if own < rchM S d (q a) then insGo S d own a (va_up q (a + 1) (q a)) else (a + 1, q)
theorem insGo_pos {S : Nat → Nat → Nat} {d : Nat → Nat} {own a : Nat} {q : Nat → Nat} (h : own < rchM S d (q a)) : insGo S d own (a + 1) q = insGo S d own a (va_up q (a + 1) (q a)) := by rw [insGo, if_pos h]
theorem insGo_neg {S : Nat → Nat → Nat} {d : Nat → Nat} {own a : Nat} {q : Nat → Nat} (h : rchM S d (q a) ≤ own) : insGo S d own (a + 1) q = (a + 1, q) := by rw [insGo, if_neg (Nat.not_lt.mpr h)]
theorem insGo_le (S : Nat → Nat → Nat) (d : Nat → Nat) (own : Nat) : ∀ (a : Nat) (q : Nat → Nat), (insGo S d own a q).1 ≤ a
  | 0, _ => Nat.le_refl _
  | a + 1, q => by
    unfold insGo
    split
    · exact Nat.le_succ_of_le (insGo_le S d own a _)
    · exact Nat.le_refl _
theorem insGo_in (S : Nat → Nat → Nat) (d : Nat → Nat) (own B : Nat) : ∀ (a m : Nat) (q : Nat → Nat), a ≤ m → (∀ k, k < m + 1 → k ≠ a → q k < B) → ∀ k, k < m + 1 → k ≠ (insGo S d own a q).1 → (insGo S d own a q).2 k < B
  | 0, m, q, _, h => h
  | a + 1, m, q, hm, h => by
    unfold insGo
    split
    · refine insGo_in S d own B a m _ (by omega) ?_
      intro k hk hne
      simp only [va_up]
      split
      · exact h a (by omega) (by omega)
      · rename_i h9; exact h k hk h9
    · exact h
def endM (S : Nat → Nat → Nat) (d : Nat → Nat) (p : Nat) : Nat := if rchM S d (2 * p + 1) < rchM S d (2 * p) then 1 else 0
theorem endM_le (S : Nat → Nat → Nat) (d : Nat → Nat) (p : Nat) : endM S d p ≤ 1 := by unfold endM; split <;> omega
def putM (S : Nat → Nat → Nat) (d : Nat → Nat) (p e : Nat) (x : Nat × (Nat → Nat)) : Nat × (Nat → Nat) := if rchM S d (2 * p + e) < 1000000 then (x.1 + 1, va_up (insGo S d (rchM S d (2 * p + e)) x.1 x.2).2 (insGo S d (rchM S d (2 * p + e)) x.1 x.2).1 (2 * p + e)) else x
def fSort (S : Nat → Nat → Nat) (d : Nat → Nat) (p : Nat) (x : Nat × (Nat → Nat)) : Nat × (Nat → Nat) := putM S d p (endM S d p) x
def sortM (S : Nat → Nat → Nat) : Nat × (Nat → Nat) := gfor (fSort S (measM S)) (S 22 2) 0 (0, S 31)
def invS (B p : Nat) (x : Nat × (Nat → Nat)) : Prop := x.1 ≤ p ∧ ∀ k, k < x.1 → x.2 k < B
theorem putM_inv {S : Nat → Nat → Nat} {d : Nat → Nat} {p e B : Nat} {x : Nat × (Nat → Nat)} (hB : 2 * p + e < B) (h : invS B p x) : invS B (p + 1) (putM S d p e x) := by
  unfold putM
  split
  · refine ⟨Nat.succ_le_succ h.1, fun k hk => ?_⟩
    have hk : k < x.1 + 1 := hk
    simp only [va_up]
    split
    · exact hB
    · rename_i hne
      exact insGo_in S d _ B x.1 x.1 x.2 (Nat.le_refl _) (fun k h1 h2 => h.2 k (by omega)) k hk hne
  · exact ⟨by have := h.1; omega, h.2⟩
theorem fSort_inv {S : Nat → Nat → Nat} {d : Nat → Nat} {p B : Nat} {x : Nat × (Nat → Nat)} (hB : 2 * p + 1 < B) (h : invS B p x) : invS B (p + 1) (fSort S d p x) := putM_inv (by have := endM_le S d p; omega) h
theorem sortM_inv (S : Nat → Nat → Nat) : invS (2 * S 22 2) (S 22 2) (sortM S) := by
  have := gfor_invK (fun i x => invS (2 * S 22 2) i x) (fSort S (measM S)) (S 22 2) 0 (0, S 31) (fun i y _ hi h => fSort_inv (by omega) h) ⟨Nat.le_refl _, fun k hk => absurd hk (Nat.not_lt_zero k)⟩
  rw [Nat.zero_add] at this; exact this
set_option maxHeartbeats 4000000 in
set_option maxRecDepth 100000 in
theorem cX6_reach_k (Z : gZ) (S : Nat → Nat → Nat) (pl : Nat) (hm : wfM S) (hpl : pl < 32) : gMd Z yX6_reach wsX6_reach { frames := 1, cells := 0, slots := 0, locals := 25 } [.ref (gz_ad Z 22), .int (nI (pl))] S (rchM S (S 28) pl) (S) := by
  refine gMd_of (cc := cX6_reach) (maxL := 2) (ret := (some .int)) (by decide +kernel) rfl (Nat.le_of_ble_eq_true rfl) (Or.inl rfl) (fun X hZ hR K hret => ?_)
  subst hZ
  have K : gOk X cX6_reach 2 wsX6_reach RX6 := K
  have hRf : 1 ≤ (g_R X).frames := gR_f hR rfl
  have hRl : 25 ≤ (g_R X).locals := gR_l hR rfl
  have hin6 : ∀ w ∈ u_ws RX6 TX6 17, w ∈ wsX6_reach := by decide +kernel
  obtain ⟨m1, m2, m3, m4, msh, mst, b23, b24, b25, b26, b27⟩ := id hm
  show gG X 0 [(0, .ref (g_ad X 22)), (1, .int (nI (pl)))] [] S
  refine g_aload_n K 0 dX6_reach_0 rfl ?_
  refine g_iload_n K 1 dX6_reach_1 rfl ?_
  refine g_iconst K 0 dX6_reach_2 (by decide +kernel) ?_
  refine g_iconst K 0 dX6_reach_3 (by decide +kernel) ?_
  refine g_callVd (q := 22) (ci := 6) (As := [.int (nI (pl)), .int (nI (0)), .int (nI (0))]) (rest := []) (C := RX6) (T := TX6) (N := 17) K (cX6_isOpen_k (g_z X) S pl 0 0 (hm) (by omega) (by omega) (by omega)) (cwV 3 K.1.2.2.2.2 gX6_reach_X6_isOpen rfl rfl rfl (by decide +kernel) ⟨Nat.le_trans (Nat.le_of_ble_eq_true rfl) hRf, Nat.le_trans (Nat.le_of_ble_eq_true rfl) hRl⟩) rfl rfl rfl rfl (Nat.le_of_ble_eq_true rfl) dX6_reach_4 ?_
  have hf4_1 := openM_le S pl 0 0
  refine g_if_eq (tgt := 24) (a := openM S pl 0 0) K dX6_reach_7 (by decide) (by omega) (fun h7_2 => ?_) (fun h7_2 => ?_)
  · refine g_ldc (w := 1000000) K 1000000 (K.1.2.2.2.2 _ (by decide +kernel)) (by decide +kernel) dX6_reach_24 ?_
    exact g_retd hret dX6_reach_26 (by unfold rchM; first | rw [if_pos (by assumption)] | rw [if_neg (by assumption)]) rfl
  · refine g_aload_n K 0 dX6_reach_10 rfl ?_
    refine g_getR (q' := 28) (q := 22) (ci := 6) (k := 12) (N := 17) (C := RX6) (T := TX6) (ref := "ValveWalkModel") K rfl rfl rfl (by decide) hin6 (by decide +kernel) rfl dX6_reach_11 ?_
    refine g_aload_n K 0 dX6_reach_14 rfl ?_
    refine g_getR (q' := 23) (q := 22) (ci := 6) (k := 5) (N := 17) (C := RX6) (T := TX6) (ref := "ValveWalkModel") K rfl rfl rfl (by decide) hin6 (by decide +kernel) rfl dX6_reach_15 ?_
    refine g_iload_n K 1 dX6_reach_18 rfl ?_
    have h23 := b23 pl
    refine g_ald (q := 23) (n := 32) (i := pl) K rfl (by decide) (by omega) dX6_reach_19 ?_
    have hv19_3 := b23 (pl)
    refine g_ald (q := 28) (n := 12) (i := S 23 (pl)) K rfl (by decide) (by omega) dX6_reach_20 ?_
    refine g_goto (tgt := 26) K dX6_reach_21 (by decide) ?_
    exact g_retd hret dX6_reach_26 (by unfold rchM; first | rw [if_pos (by assumption)] | rw [if_neg (by assumption)]) rfl

set_option maxHeartbeats 4000000 in
set_option maxRecDepth 100000 in
theorem L_ins (X : gC) (S : Nat → Nat → Nat) (p : Nat) (e : Nat) (own : Nat) (m : Nat) (d : Nat → Nat) (K : gOk X cX6_sort 5 wsX6_sort RX6) (hRf : 2 ≤ (g_R X).frames) (hRl : 46 ≤ (g_R X).locals) (hm : wfM S) (hn : ndM S) (hd : ∀ j, j < S 22 1 → d j ≤ 1000000) (hown : own < 1000000) (hmm : m ≤ 16) : ∀ (a : Nat) (q : Nat → Nat), a < 16 → (∀ k, k < a → q k < 2 * S 22 2) → gG X 110 [(0, .ref (g_ad X 22)), (1, .int (nI (p))), (2, .int (nI (e))), (4, .int (nI ((insGo S d own a q).1)))] [] (va_up (va_up (va_up S 28 (d)) 22 (va_up (S 22) 16 (m))) 31 ((insGo S d own a q).2)) → gG X 66 [(0, .ref (g_ad X 22)), (1, .int (nI (p))), (2, .int (nI (e))), (3, .int (nI (own))), (4, .int (nI (a)))] [] (va_up (va_up (va_up S 28 (d)) 22 (va_up (S 22) 16 (m))) 31 (q)) := by
  have hin6 : ∀ w ∈ u_ws RX6 TX6 17, w ∈ wsX6_sort := by decide +kernel
  obtain ⟨m1, m2, m3, m4, msh, mst, b23, b24, b25, b26, b27⟩ := id hm
  intro a
  induction a with
  | zero =>
    intro q ha hq kk
    refine g_iload K 4 dX6_sort_66 rfl ?_
    refine g_if_le (tgt := 110) (a := 0) K dX6_sort_68 (by decide) (by omega) (fun h68_1 => ?_) (fun h68_1 => absurd h68_1 (by omega))
    refine g_loc (lo' := [(0, .ref (g_ad X 22)), (1, .int (nI (p))), (2, .int (nI (e))), (4, .int (nI (0)))]) [0, 1, 2, 4] rfl ?_
    exact kk
  | succ a ih =>
    intro q ha hq kk
    refine g_iload K 4 dX6_sort_66 rfl ?_
    refine g_if_le (tgt := 110) (a := a + 1) K dX6_sort_68 (by decide) (by omega) (fun h68_1 => ?_) (fun h68_1 => ?_)
    · exact absurd h68_1 (by omega)
    · have hqa : q a < 2 * S 22 2 := hq a (by omega)
      have hra := rchM_le (S := S) hn hd hqa
      refine g_aload_n K 0 dX6_sort_71 rfl ?_
      refine g_aload_n K 0 dX6_sort_72 rfl ?_
      refine g_getR (q' := 31) (q := 22) (ci := 6) (k := 15) (N := 17) (C := RX6) (T := TX6) (ref := "ValveWalkModel") K rfl rfl rfl (by decide) hin6 (by decide +kernel) rfl dX6_sort_73 ?_
      refine g_iload K 4 dX6_sort_76 rfl ?_
      refine g_iconst K 1 dX6_sort_78 (by decide +kernel) ?_
      refine g_isub (a := a + 1) (b := 1) K (by omega) dX6_sort_79 ?_
      refine g_pc rfl ?_
      refine g_ald (q := 31) (n := 16) (i := (a + 1) - (1)) K rfl (by decide) (by omega) dX6_sort_80 ?_
      refine g_topE (q ((a + 1) - (1))) rfl ?_
      refine g_topE (q a) rfl ?_
      refine g_callVd (q := 22) (ci := 6) (As := [.int (nI (q a))]) (rest := []) (C := RX6) (T := TX6) (N := 17) K (cX6_reach_k (g_z X) (va_up (va_up (va_up S 28 (d)) 22 (va_up (S 22) 16 (m))) 31 (q)) (q a) ((wfM_up (wfM_22 (wfM_up hm (q := 28) (by decide) _) (fun i h0 h16 => by simp [va_up, h0, h16])) (q := 31) (by decide) _)) (by omega)) (cwV 1 K.1.2.2.2.2 gX6_sort_X6_reach rfl rfl rfl (by decide +kernel) ⟨Nat.le_trans (Nat.le_of_ble_eq_true rfl) hRf, Nat.le_trans (Nat.le_of_ble_eq_true rfl) hRl⟩) rfl rfl rfl rfl (Nat.le_of_ble_eq_true rfl) dX6_sort_81 ?_
      refine g_topE (rchM S d (q a)) rfl ?_
      refine g_iload_n K 3 dX6_sort_84 rfl ?_
      refine g_icmp_le (tgt := 110) (a := rchM S d (q a)) (b := own) K dX6_sort_85 (by decide) (by omega) (by omega) (fun h85_2 => ?_) (fun h85_2 => ?_)
      · refine g_loc (lo' := [(0, .ref (g_ad X 22)), (1, .int (nI (p))), (2, .int (nI (e))), (4, .int (nI (a + 1)))]) [0, 1, 2, 4] rfl ?_
        exact (by rw [insGo_neg (by assumption)] at kk; exact kk)
      · refine g_aload_n K 0 dX6_sort_88 rfl ?_
        refine g_getR (q' := 31) (q := 22) (ci := 6) (k := 15) (N := 17) (C := RX6) (T := TX6) (ref := "ValveWalkModel") K rfl rfl rfl (by decide) hin6 (by decide +kernel) rfl dX6_sort_89 ?_
        refine g_iload K 4 dX6_sort_92 rfl ?_
        refine g_aload_n K 0 dX6_sort_94 rfl ?_
        refine g_getR (q' := 31) (q := 22) (ci := 6) (k := 15) (N := 17) (C := RX6) (T := TX6) (ref := "ValveWalkModel") K rfl rfl rfl (by decide) hin6 (by decide +kernel) rfl dX6_sort_95 ?_
        refine g_iload K 4 dX6_sort_98 rfl ?_
        refine g_iconst K 1 dX6_sort_100 (by decide +kernel) ?_
        refine g_isub (a := a + 1) (b := 1) K (by omega) dX6_sort_101 ?_
        refine g_ald (q := 31) (n := 16) (i := (a + 1) - (1)) K rfl (by decide) (by omega) dX6_sort_102 ?_
        refine g_topE (q ((a + 1) - (1))) rfl ?_
        refine g_ast (q := 31) (n := 16) (i := a + 1) (a := q ((a + 1) - (1))) K rfl (by decide) (by omega) dX6_sort_103 ?_
        refine g_cast (S' := (va_up (va_up (va_up S 28 (d)) 22 (va_up (S 22) 16 (m))) 31 (va_up q (a + 1) (q ((a + 1) - (1)))))) rfl rfl (gup_w3c (by decide) (by decide) (by decide)) ?_
        refine g_iinc (a := a + 1) (b := a) (lo' := [(4, .int (nI (a))), (0, .ref (g_ad X 22)), (1, .int (nI (p))), (2, .int (nI (e))), (3, .int (nI (own)))]) K 4 dX6_sort_104 rfl (gi_dec (by omega)) (by decide) rfl ?_
        refine g_goto (tgt := 66) K dX6_sort_107 (by decide) ?_
        refine g_loc (lo' := [(0, .ref (g_ad X 22)), (1, .int (nI (p))), (2, .int (nI (e))), (3, .int (nI (own))), (4, .int (nI (a)))]) [1, 2, 3, 4, 0] rfl ?_
        exact ih (va_up q (a + 1) (q a)) (by omega) (fun k hk => by simp only [va_up]; rw [if_neg (by omega)]; exact hq k (by omega)) (by rw [insGo_pos (by assumption)] at kk; exact kk)

set_option maxHeartbeats 4000000 in
set_option maxRecDepth 100000 in
theorem L_sort (X : gC) (S : Nat → Nat → Nat) (d : Nat → Nat) (K : gOk X cX6_sort 5 wsX6_sort RX6) (hRf : 2 ≤ (g_R X).frames) (hRl : 46 ≤ (g_R X).locals) (hm : wfM S) (hn : ndM S) (hd : ∀ j, j < S 22 1 → d j ≤ 1000000) : ∀ (k p : Nat) (m : Nat) (q : Nat → Nat), p + k = S 22 2 → (invS (2 * S 22 2) p (m, q)) → gG X 138 [(0, .ref (g_ad X 22)), (1, .int (nI ((S 22 2))))] [] (va_up (va_up (va_up S 28 (d)) 22 (va_up (S 22) 16 (((gfor (fSort S d) k p (m, q)).1)))) 31 (((gfor (fSort S d) k p (m, q)).2))) → gG X 11 [(0, .ref (g_ad X 22)), (1, .int (nI (p)))] [] (va_up (va_up (va_up S 28 (d)) 22 (va_up (S 22) 16 (m))) 31 (q)) := by
  have hin6 : ∀ w ∈ u_ws RX6 TX6 17, w ∈ wsX6_sort := by decide +kernel
  obtain ⟨m1, m2, m3, m4, msh, mst, b23, b24, b25, b26, b27⟩ := id hm
  intro k
  induction k with
  | zero =>
    intro p m q hj hi kk
    have hj : p = S 22 2 := by omega
    refine g_iload_n K 1 dX6_sort_11 rfl ?_
    refine g_aload_n K 0 dX6_sort_12 rfl ?_
    refine g_getI (q := 22) (ci := 6) (k := 2) (N := 17) (C := RX6) (T := TX6) (ref := "ValveWalkModel") K rfl rfl rfl (by decide) hin6 (by decide +kernel) rfl dX6_sort_13 ?_
    refine g_topE (S 22 2) rfl ?_
    refine g_icmp_ge (tgt := 138) (a := p) (b := S 22 2) K dX6_sort_16 (by decide) (by omega) (by omega) (fun h16_1 => ?_) (fun h16_1 => ?_)
    · refine g_loc (lo' := [(0, .ref (g_ad X 22)), (1, .int (nI (p)))]) [0, 1] rfl ?_
      exact g_cast (by first | rfl | (rw [hj]; done) | (rw [hj]; rfl)) rfl rfl kk
    · exact absurd h16_1 (by omega)
  | succ k ih =>
    intro p m q hj hi kk
    refine g_iload_n K 1 dX6_sort_11 rfl ?_
    refine g_aload_n K 0 dX6_sort_12 rfl ?_
    refine g_getI (q := 22) (ci := 6) (k := 2) (N := 17) (C := RX6) (T := TX6) (ref := "ValveWalkModel") K rfl rfl rfl (by decide) hin6 (by decide +kernel) rfl dX6_sort_13 ?_
    refine g_topE (S 22 2) rfl ?_
    refine g_icmp_ge (tgt := 138) (a := p) (b := S 22 2) K dX6_sort_16 (by decide) (by omega) (by omega) (fun h16_1 => ?_) (fun h16_1 => ?_)
    · exact absurd h16_1 (by omega)
    · have hr1 := rchM_le (S := S) hn hd (show 2 * p + 1 < 2 * S 22 2 by omega)
      have hr0 := rchM_le (S := S) hn hd (show 2 * p < 2 * S 22 2 by omega)
      have hr2 : rchM S d (2 * p + 0) ≤ 1000000 := hr0
      refine g_aload_n K 0 dX6_sort_19 rfl ?_
      refine g_iconst K 2 dX6_sort_20 (by decide +kernel) ?_
      refine g_iload_n K 1 dX6_sort_21 rfl ?_
      refine g_imul (a := 2) (b := p) K dX6_sort_22 ?_
      refine g_iconst K 1 dX6_sort_23 (by decide +kernel) ?_
      refine g_iadd (a := (2) * (p)) (b := 1) K dX6_sort_24 ?_
      refine g_callVd (q := 22) (ci := 6) (As := [.int (nI (((2) * (p)) + (1)))]) (rest := []) (C := RX6) (T := TX6) (N := 17) K (cX6_reach_k (g_z X) (va_up (va_up (va_up S 28 (d)) 22 (va_up (S 22) 16 (m))) 31 (q)) (((2) * (p)) + (1)) ((wfM_up (wfM_22 (wfM_up hm (q := 28) (by decide) _) (fun i h0 h16 => by simp [va_up, h0, h16])) (q := 31) (by decide) _)) (by omega)) (cwV 1 K.1.2.2.2.2 gX6_sort_X6_reach rfl rfl rfl (by decide +kernel) ⟨Nat.le_trans (Nat.le_of_ble_eq_true rfl) hRf, Nat.le_trans (Nat.le_of_ble_eq_true rfl) hRl⟩) rfl rfl rfl rfl (Nat.le_of_ble_eq_true rfl) dX6_sort_25 ?_
      refine g_topE (rchM S d (((2) * (p)) + (1))) rfl ?_
      refine g_aload_n K 0 dX6_sort_28 rfl ?_
      refine g_iconst K 2 dX6_sort_29 (by decide +kernel) ?_
      refine g_iload_n K 1 dX6_sort_30 rfl ?_
      refine g_imul (a := 2) (b := p) K dX6_sort_31 ?_
      refine g_callVd (q := 22) (ci := 6) (As := [.int (nI ((2) * (p)))]) (rest := [.int (nI (rchM S d (((2) * (p)) + (1))))]) (C := RX6) (T := TX6) (N := 17) K (cX6_reach_k (g_z X) (va_up (va_up (va_up S 28 (d)) 22 (va_up (S 22) 16 (m))) 31 (q)) ((2) * (p)) ((wfM_up (wfM_22 (wfM_up hm (q := 28) (by decide) _) (fun i h0 h16 => by simp [va_up, h0, h16])) (q := 31) (by decide) _)) (by omega)) (cwV 1 K.1.2.2.2.2 gX6_sort_X6_reach rfl rfl rfl (by decide +kernel) ⟨Nat.le_trans (Nat.le_of_ble_eq_true rfl) hRf, Nat.le_trans (Nat.le_of_ble_eq_true rfl) hRl⟩) rfl rfl rfl rfl (Nat.le_of_ble_eq_true rfl) dX6_sort_32 ?_
      refine g_topE (rchM S d ((2) * (p))) rfl ?_
      refine g_icmp_ge (tgt := 42) (a := rchM S d (((2) * (p)) + (1))) (b := rchM S d ((2) * (p))) K dX6_sort_35 (by decide) (by omega) (by omega) (fun h35_2 => ?_) (fun h35_2 => ?_)
      · refine g_iconst K 0 dX6_sort_42 (by decide +kernel) ?_
        refine g_istore_n (lo' := [(2, .int (nI (0))), (0, .ref (g_ad X 22)), (1, .int (nI (p)))]) K dX6_sort_43 (by decide) rfl ?_
        refine g_aload_n K 1 dX6_sort_44 rfl ?_
        refine g_iconst K 2 dX6_sort_45 (by decide +kernel) ?_
        refine g_iload_n K 2 dX6_sort_46 rfl ?_
        refine g_imul (a := 2) (b := p) K dX6_sort_47 ?_
        refine g_iload_n K 0 dX6_sort_48 rfl ?_
        refine g_iadd (a := (2) * (p)) (b := 0) K dX6_sort_49 ?_
        refine g_callVd (q := 22) (ci := 6) (As := [.int (nI (((2) * (p)) + (0)))]) (rest := []) (C := RX6) (T := TX6) (N := 17) K (cX6_reach_k (g_z X) (va_up (va_up (va_up S 28 (d)) 22 (va_up (S 22) 16 (m))) 31 (q)) (((2) * (p)) + (0)) ((wfM_up (wfM_22 (wfM_up hm (q := 28) (by decide) _) (fun i h0 h16 => by simp [va_up, h0, h16])) (q := 31) (by decide) _)) (by omega)) (cwV 1 K.1.2.2.2.2 gX6_sort_X6_reach rfl rfl rfl (by decide +kernel) ⟨Nat.le_trans (Nat.le_of_ble_eq_true rfl) hRf, Nat.le_trans (Nat.le_of_ble_eq_true rfl) hRl⟩) rfl rfl rfl rfl (Nat.le_of_ble_eq_true rfl) dX6_sort_50 ?_
        refine g_topE (rchM S d (((2) * (p)) + (0))) rfl ?_
        refine g_istore_n (lo' := [(3, .int (nI (rchM S d (((2) * (p)) + (0))))), (2, .int (nI (0))), (0, .ref (g_ad X 22)), (1, .int (nI (p)))]) K dX6_sort_53 (by decide) rfl ?_
        refine g_iload_n K 0 dX6_sort_54 rfl ?_
        refine g_ldc (w := 1000000) K 1000000 (K.1.2.2.2.2 _ (by decide +kernel)) (by decide +kernel) dX6_sort_55 ?_
        refine g_icmp_ge (tgt := 132) (a := rchM S d (((2) * (p)) + (0))) (b := 1000000) K dX6_sort_57 (by decide) (by omega) (by omega) (fun h57_3 => ?_) (fun h57_3 => ?_)
        · refine g_iinc (a := p) (b := p + 1) (lo' := [(1, .int (nI (p + 1))), (3, .int (nI (rchM S d (((2) * (p)) + (0))))), (2, .int (nI (0))), (0, .ref (g_ad X 22))]) K 3 dX6_sort_132 rfl (gi_inc _) (by decide) rfl ?_
          refine g_goto (tgt := 11) K dX6_sort_135 (by decide) ?_
          refine g_loc (lo' := [(0, .ref (g_ad X 22)), (1, .int (nI (p + 1)))]) [3, 0] rfl ?_
          exact ih (p + 1) m q (by omega) (by have q9 := fSort_inv (S := S) (d := d) (show 2 * p + 1 < 2 * S 22 2 by omega) hi; rwa [show fSort S d p (m, q) = (m, q) from by unfold fSort; rw [show endM S d p = 0 from by unfold endM; first | rw [if_pos h35_2] | rw [if_neg (Nat.not_lt.mpr h35_2)]]; unfold putM; first | rw [if_pos h57_3] | rw [if_neg (Nat.not_lt.mpr h57_3)]] at q9) (by rw [gfor_succ, show (fSort S d) p (m, q) = (m, q) from by unfold fSort; rw [show endM S d p = 0 from by unfold endM; first | rw [if_pos h35_2] | rw [if_neg (Nat.not_lt.mpr h35_2)]]; unfold putM; first | rw [if_pos h57_3] | rw [if_neg (Nat.not_lt.mpr h57_3)]] at kk; exact kk)
        · refine g_aload_n K 2 dX6_sort_60 rfl ?_
          refine g_getI (q := 22) (ci := 6) (k := 16) (N := 17) (C := RX6) (T := TX6) (ref := "ValveWalkModel") K rfl rfl rfl (by decide) hin6 (by decide +kernel) rfl dX6_sort_61 ?_
          refine g_topE (m) rfl ?_
          refine g_istore (lo' := [(4, .int (nI (m))), (3, .int (nI (rchM S d (((2) * (p)) + (0))))), (2, .int (nI (0))), (0, .ref (g_ad X 22)), (1, .int (nI (p)))]) K dX6_sort_64 (by decide) rfl ?_
          refine g_loc (lo' := [(0, .ref (g_ad X 22)), (1, .int (nI (p))), (2, .int (nI (0))), (3, .int (nI (rchM S d (((2) * (p)) + (0))))), (4, .int (nI (m)))]) [3, 4, 2, 1, 0] rfl ?_
          have hm9 : m ≤ p := hi.1
          have hil := insGo_le S d (rchM S d (((2) * (p)) + (0))) m q
          refine L_ins X S p (0) (rchM S d (((2) * (p)) + (0))) m d K (Nat.le_trans (Nat.le_of_ble_eq_true rfl) hRf) (Nat.le_trans (Nat.le_of_ble_eq_true rfl) hRl) hm hn hd (by assumption) (by have := hi.1; omega) m q (by have := hi.1; omega) (fun k hk => hi.2 k hk) ?_
          refine g_aload_n K 0 dX6_sort_110 rfl ?_
          refine g_getR (q' := 31) (q := 22) (ci := 6) (k := 15) (N := 17) (C := RX6) (T := TX6) (ref := "ValveWalkModel") K rfl rfl rfl (by decide) hin6 (by decide +kernel) rfl dX6_sort_111 ?_
          refine g_iload K 3 dX6_sort_114 rfl ?_
          refine g_iconst K 2 dX6_sort_116 (by decide +kernel) ?_
          refine g_iload_n K 1 dX6_sort_117 rfl ?_
          refine g_imul (a := 2) (b := p) K dX6_sort_118 ?_
          refine g_iload_n K 2 dX6_sort_119 rfl ?_
          refine g_iadd (a := (2) * (p)) (b := 0) K dX6_sort_120 ?_
          refine g_ast (q := 31) (n := 16) (i := (insGo S d (rchM S d (((2) * (p)) + (0))) m q).1) (a := ((2) * (p)) + (0)) K rfl (by decide) (by omega) dX6_sort_121 ?_
          refine g_cast (S' := (va_up (va_up (va_up S 28 (d)) 22 (va_up (S 22) 16 (m))) 31 (va_up ((insGo S d (rchM S d (((2) * (p)) + (0))) m q).2) ((insGo S d (rchM S d (((2) * (p)) + (0))) m q).1) (((2) * (p)) + (0))))) rfl rfl (gup_w3c (by decide) (by decide) (by decide)) ?_
          refine g_aload_n K 0 dX6_sort_122 rfl ?_
          refine g_dup K dX6_sort_123 rfl ?_
          refine g_getI (q := 22) (ci := 6) (k := 16) (N := 17) (C := RX6) (T := TX6) (ref := "ValveWalkModel") K rfl rfl rfl (by decide) hin6 (by decide +kernel) rfl dX6_sort_124 ?_
          refine g_topE (m) rfl ?_
          refine g_iconst K 1 dX6_sort_127 (by decide +kernel) ?_
          refine g_iadd (a := m) (b := 1) K dX6_sort_128 ?_
          refine g_putI (q := 22) (ci := 6) (k := 16) (N := 17) (C := RX6) (T := TX6) (ref := "ValveWalkModel") (a := (m) + (1)) K rfl rfl rfl (by decide) hin6 tyX6_ok nmX6 (by decide +kernel) rfl rfl (by decide +kernel) dX6_sort_129 ?_
          refine g_cast (S' := (va_up (va_up (va_up S 28 (d)) 22 (va_up (va_up (S 22) 16 (m)) 16 ((m) + (1)))) 31 (va_up ((insGo S d (rchM S d (((2) * (p)) + (0))) m q).2) ((insGo S d (rchM S d (((2) * (p)) + (0))) m q).1) (((2) * (p)) + (0))))) rfl rfl (gup_w3b (by decide) (by decide) (by decide)) ?_
          refine g_cast (S' := (va_up (va_up (va_up S 28 (d)) 22 (va_up (S 22) 16 ((m) + (1)))) 31 (va_up ((insGo S d (rchM S d (((2) * (p)) + (0))) m q).2) ((insGo S d (rchM S d (((2) * (p)) + (0))) m q).1) (((2) * (p)) + (0))))) rfl rfl (by rw [up_up (S 22)]) ?_
          refine g_iinc (a := p) (b := p + 1) (lo' := [(1, .int (nI (p + 1))), (0, .ref (g_ad X 22)), (2, .int (nI (0))), (4, .int (nI ((insGo S d (rchM S d (((2) * (p)) + (0))) m q).1)))]) K 1 dX6_sort_132 rfl (gi_inc _) (by decide) rfl ?_
          refine g_goto (tgt := 11) K dX6_sort_135 (by decide) ?_
          refine g_loc (lo' := [(0, .ref (g_ad X 22)), (1, .int (nI (p + 1)))]) [1, 0] rfl ?_
          exact ih (p + 1) ((m) + (1)) (va_up ((insGo S d (rchM S d (((2) * (p)) + (0))) m q).2) ((insGo S d (rchM S d (((2) * (p)) + (0))) m q).1) (((2) * (p)) + (0))) (by omega) (by have q9 := fSort_inv (S := S) (d := d) (show 2 * p + 1 < 2 * S 22 2 by omega) hi; rwa [show fSort S d p (m, q) = ((m) + (1), va_up ((insGo S d (rchM S d (((2) * (p)) + (0))) m q).2) ((insGo S d (rchM S d (((2) * (p)) + (0))) m q).1) (((2) * (p)) + (0))) from by unfold fSort; rw [show endM S d p = 0 from by unfold endM; first | rw [if_pos h35_2] | rw [if_neg (Nat.not_lt.mpr h35_2)]]; unfold putM; first | rw [if_pos h57_3] | rw [if_neg (Nat.not_lt.mpr h57_3)]] at q9) (by rw [gfor_succ, show (fSort S d) p (m, q) = ((m) + (1), va_up ((insGo S d (rchM S d (((2) * (p)) + (0))) m q).2) ((insGo S d (rchM S d (((2) * (p)) + (0))) m q).1) (((2) * (p)) + (0))) from by unfold fSort; rw [show endM S d p = 0 from by unfold endM; first | rw [if_pos h35_2] | rw [if_neg (Nat.not_lt.mpr h35_2)]]; unfold putM; first | rw [if_pos h57_3] | rw [if_neg (Nat.not_lt.mpr h57_3)]] at kk; exact kk)
      · refine g_iconst K 1 dX6_sort_38 (by decide +kernel) ?_
        refine g_goto (tgt := 43) K dX6_sort_39 (by decide) ?_
        refine g_istore_n (lo' := [(2, .int (nI (1))), (0, .ref (g_ad X 22)), (1, .int (nI (p)))]) K dX6_sort_43 (by decide) rfl ?_
        refine g_aload_n K 1 dX6_sort_44 rfl ?_
        refine g_iconst K 2 dX6_sort_45 (by decide +kernel) ?_
        refine g_iload_n K 2 dX6_sort_46 rfl ?_
        refine g_imul (a := 2) (b := p) K dX6_sort_47 ?_
        refine g_iload_n K 0 dX6_sort_48 rfl ?_
        refine g_iadd (a := (2) * (p)) (b := 1) K dX6_sort_49 ?_
        refine g_callVd (q := 22) (ci := 6) (As := [.int (nI (((2) * (p)) + (1)))]) (rest := []) (C := RX6) (T := TX6) (N := 17) K (cX6_reach_k (g_z X) (va_up (va_up (va_up S 28 (d)) 22 (va_up (S 22) 16 (m))) 31 (q)) (((2) * (p)) + (1)) ((wfM_up (wfM_22 (wfM_up hm (q := 28) (by decide) _) (fun i h0 h16 => by simp [va_up, h0, h16])) (q := 31) (by decide) _)) (by omega)) (cwV 1 K.1.2.2.2.2 gX6_sort_X6_reach rfl rfl rfl (by decide +kernel) ⟨Nat.le_trans (Nat.le_of_ble_eq_true rfl) hRf, Nat.le_trans (Nat.le_of_ble_eq_true rfl) hRl⟩) rfl rfl rfl rfl (Nat.le_of_ble_eq_true rfl) dX6_sort_50 ?_
        refine g_topE (rchM S d (((2) * (p)) + (1))) rfl ?_
        refine g_istore_n (lo' := [(3, .int (nI (rchM S d (((2) * (p)) + (1))))), (2, .int (nI (1))), (0, .ref (g_ad X 22)), (1, .int (nI (p)))]) K dX6_sort_53 (by decide) rfl ?_
        refine g_iload_n K 0 dX6_sort_54 rfl ?_
        refine g_ldc (w := 1000000) K 1000000 (K.1.2.2.2.2 _ (by decide +kernel)) (by decide +kernel) dX6_sort_55 ?_
        refine g_icmp_ge (tgt := 132) (a := rchM S d (((2) * (p)) + (1))) (b := 1000000) K dX6_sort_57 (by decide) (by omega) (by omega) (fun h57_4 => ?_) (fun h57_4 => ?_)
        · refine g_iinc (a := p) (b := p + 1) (lo' := [(1, .int (nI (p + 1))), (3, .int (nI (rchM S d (((2) * (p)) + (1))))), (2, .int (nI (1))), (0, .ref (g_ad X 22))]) K 3 dX6_sort_132 rfl (gi_inc _) (by decide) rfl ?_
          refine g_goto (tgt := 11) K dX6_sort_135 (by decide) ?_
          refine g_loc (lo' := [(0, .ref (g_ad X 22)), (1, .int (nI (p + 1)))]) [3, 0] rfl ?_
          exact ih (p + 1) m q (by omega) (by have q9 := fSort_inv (S := S) (d := d) (show 2 * p + 1 < 2 * S 22 2 by omega) hi; rwa [show fSort S d p (m, q) = (m, q) from by unfold fSort; rw [show endM S d p = 1 from by unfold endM; first | rw [if_pos h35_2] | rw [if_neg (Nat.not_lt.mpr h35_2)]]; unfold putM; first | rw [if_pos h57_4] | rw [if_neg (Nat.not_lt.mpr h57_4)]] at q9) (by rw [gfor_succ, show (fSort S d) p (m, q) = (m, q) from by unfold fSort; rw [show endM S d p = 1 from by unfold endM; first | rw [if_pos h35_2] | rw [if_neg (Nat.not_lt.mpr h35_2)]]; unfold putM; first | rw [if_pos h57_4] | rw [if_neg (Nat.not_lt.mpr h57_4)]] at kk; exact kk)
        · refine g_aload_n K 2 dX6_sort_60 rfl ?_
          refine g_getI (q := 22) (ci := 6) (k := 16) (N := 17) (C := RX6) (T := TX6) (ref := "ValveWalkModel") K rfl rfl rfl (by decide) hin6 (by decide +kernel) rfl dX6_sort_61 ?_
          refine g_topE (m) rfl ?_
          refine g_istore (lo' := [(4, .int (nI (m))), (3, .int (nI (rchM S d (((2) * (p)) + (1))))), (2, .int (nI (1))), (0, .ref (g_ad X 22)), (1, .int (nI (p)))]) K dX6_sort_64 (by decide) rfl ?_
          refine g_loc (lo' := [(0, .ref (g_ad X 22)), (1, .int (nI (p))), (2, .int (nI (1))), (3, .int (nI (rchM S d (((2) * (p)) + (1))))), (4, .int (nI (m)))]) [3, 4, 2, 1, 0] rfl ?_
          have hm9 : m ≤ p := hi.1
          have hil := insGo_le S d (rchM S d (((2) * (p)) + (1))) m q
          refine L_ins X S p (1) (rchM S d (((2) * (p)) + (1))) m d K (Nat.le_trans (Nat.le_of_ble_eq_true rfl) hRf) (Nat.le_trans (Nat.le_of_ble_eq_true rfl) hRl) hm hn hd (by assumption) (by have := hi.1; omega) m q (by have := hi.1; omega) (fun k hk => hi.2 k hk) ?_
          refine g_aload_n K 0 dX6_sort_110 rfl ?_
          refine g_getR (q' := 31) (q := 22) (ci := 6) (k := 15) (N := 17) (C := RX6) (T := TX6) (ref := "ValveWalkModel") K rfl rfl rfl (by decide) hin6 (by decide +kernel) rfl dX6_sort_111 ?_
          refine g_iload K 3 dX6_sort_114 rfl ?_
          refine g_iconst K 2 dX6_sort_116 (by decide +kernel) ?_
          refine g_iload_n K 1 dX6_sort_117 rfl ?_
          refine g_imul (a := 2) (b := p) K dX6_sort_118 ?_
          refine g_iload_n K 2 dX6_sort_119 rfl ?_
          refine g_iadd (a := (2) * (p)) (b := 1) K dX6_sort_120 ?_
          refine g_ast (q := 31) (n := 16) (i := (insGo S d (rchM S d (((2) * (p)) + (1))) m q).1) (a := ((2) * (p)) + (1)) K rfl (by decide) (by omega) dX6_sort_121 ?_
          refine g_cast (S' := (va_up (va_up (va_up S 28 (d)) 22 (va_up (S 22) 16 (m))) 31 (va_up ((insGo S d (rchM S d (((2) * (p)) + (1))) m q).2) ((insGo S d (rchM S d (((2) * (p)) + (1))) m q).1) (((2) * (p)) + (1))))) rfl rfl (gup_w3c (by decide) (by decide) (by decide)) ?_
          refine g_aload_n K 0 dX6_sort_122 rfl ?_
          refine g_dup K dX6_sort_123 rfl ?_
          refine g_getI (q := 22) (ci := 6) (k := 16) (N := 17) (C := RX6) (T := TX6) (ref := "ValveWalkModel") K rfl rfl rfl (by decide) hin6 (by decide +kernel) rfl dX6_sort_124 ?_
          refine g_topE (m) rfl ?_
          refine g_iconst K 1 dX6_sort_127 (by decide +kernel) ?_
          refine g_iadd (a := m) (b := 1) K dX6_sort_128 ?_
          refine g_putI (q := 22) (ci := 6) (k := 16) (N := 17) (C := RX6) (T := TX6) (ref := "ValveWalkModel") (a := (m) + (1)) K rfl rfl rfl (by decide) hin6 tyX6_ok nmX6 (by decide +kernel) rfl rfl (by decide +kernel) dX6_sort_129 ?_
          refine g_cast (S' := (va_up (va_up (va_up S 28 (d)) 22 (va_up (va_up (S 22) 16 (m)) 16 ((m) + (1)))) 31 (va_up ((insGo S d (rchM S d (((2) * (p)) + (1))) m q).2) ((insGo S d (rchM S d (((2) * (p)) + (1))) m q).1) (((2) * (p)) + (1))))) rfl rfl (gup_w3b (by decide) (by decide) (by decide)) ?_
          refine g_cast (S' := (va_up (va_up (va_up S 28 (d)) 22 (va_up (S 22) 16 ((m) + (1)))) 31 (va_up ((insGo S d (rchM S d (((2) * (p)) + (1))) m q).2) ((insGo S d (rchM S d (((2) * (p)) + (1))) m q).1) (((2) * (p)) + (1))))) rfl rfl (by rw [up_up (S 22)]) ?_
          refine g_iinc (a := p) (b := p + 1) (lo' := [(1, .int (nI (p + 1))), (0, .ref (g_ad X 22)), (2, .int (nI (1))), (4, .int (nI ((insGo S d (rchM S d (((2) * (p)) + (1))) m q).1)))]) K 1 dX6_sort_132 rfl (gi_inc _) (by decide) rfl ?_
          refine g_goto (tgt := 11) K dX6_sort_135 (by decide) ?_
          refine g_loc (lo' := [(0, .ref (g_ad X 22)), (1, .int (nI (p + 1)))]) [1, 0] rfl ?_
          exact ih (p + 1) ((m) + (1)) (va_up ((insGo S d (rchM S d (((2) * (p)) + (1))) m q).2) ((insGo S d (rchM S d (((2) * (p)) + (1))) m q).1) (((2) * (p)) + (1))) (by omega) (by have q9 := fSort_inv (S := S) (d := d) (show 2 * p + 1 < 2 * S 22 2 by omega) hi; rwa [show fSort S d p (m, q) = ((m) + (1), va_up ((insGo S d (rchM S d (((2) * (p)) + (1))) m q).2) ((insGo S d (rchM S d (((2) * (p)) + (1))) m q).1) (((2) * (p)) + (1))) from by unfold fSort; rw [show endM S d p = 1 from by unfold endM; first | rw [if_pos h35_2] | rw [if_neg (Nat.not_lt.mpr h35_2)]]; unfold putM; first | rw [if_pos h57_4] | rw [if_neg (Nat.not_lt.mpr h57_4)]] at q9) (by rw [gfor_succ, show (fSort S d) p (m, q) = ((m) + (1), va_up ((insGo S d (rchM S d (((2) * (p)) + (1))) m q).2) ((insGo S d (rchM S d (((2) * (p)) + (1))) m q).1) (((2) * (p)) + (1))) from by unfold fSort; rw [show endM S d p = 1 from by unfold endM; first | rw [if_pos h35_2] | rw [if_neg (Nat.not_lt.mpr h35_2)]]; unfold putM; first | rw [if_pos h57_4] | rw [if_neg (Nat.not_lt.mpr h57_4)]] at kk; exact kk)

set_option maxHeartbeats 4000000 in
set_option maxRecDepth 100000 in
theorem cX6_sort_k (Z : gZ) (S : Nat → Nat → Nat) (hm : wfM S) (hnd : ndM S) : gMv Z yX6_sort wsX6_sort { frames := 2, cells := 0, slots := 0, locals := 49 } [.ref (gz_ad Z 22)] S (va_up (va_up (va_up S 28 (measM S)) 22 (va_up (S 22) 16 (sortM S).1)) 31 (sortM S).2) := by
  refine gMv_of (cc := cX6_sort) (maxL := 5) (by decide +kernel) rfl (Nat.le_of_ble_eq_true rfl)  (fun X hZ hR K hret => ?_)
  subst hZ
  have K : gOk X cX6_sort 5 wsX6_sort RX6 := K
  have hRf : 2 ≤ (g_R X).frames := gR_f hR rfl
  have hRl : 49 ≤ (g_R X).locals := gR_l hR rfl
  have hin6 : ∀ w ∈ u_ws RX6 TX6 17, w ∈ wsX6_sort := by decide +kernel
  obtain ⟨m1, m2, m3, m4, msh, mst, b23, b24, b25, b26, b27⟩ := id hm
  show gG X 0 [(0, .ref (g_ad X 22))] [] S
  refine g_aload_n K 0 dX6_sort_0 rfl ?_
  refine g_callVv (q := 22) (ci := 6) (As := []) (rest := []) (C := RX6) (T := TX6) (N := 17) K (cX6_measure_k (g_z X) S (hm) (hnd)) (cwV 0 K.1.2.2.2.2 gX6_sort_X6_measure rfl rfl rfl (by decide +kernel) ⟨Nat.le_trans (Nat.le_of_ble_eq_true rfl) hRf, Nat.le_trans (Nat.le_of_ble_eq_true rfl) hRl⟩) rfl rfl rfl rfl (Nat.le_of_ble_eq_true rfl) dX6_sort_1 ?_
  refine g_cast (S' := (va_up S 28 (measM S))) rfl rfl rfl ?_
  refine g_cast (S' := (va_up (va_up S 28 (measM S)) 22 (S 22))) rfl rfl (up_id1 _ 22).symm ?_
  refine g_aload_n K 0 dX6_sort_4 rfl ?_
  refine g_iconst K 0 dX6_sort_5 (by decide +kernel) ?_
  refine g_putI (q := 22) (ci := 6) (k := 16) (N := 17) (C := RX6) (T := TX6) (ref := "ValveWalkModel") (a := 0) K rfl rfl rfl (by decide) hin6 tyX6_ok nmX6 (by decide +kernel) rfl rfl (by decide +kernel) dX6_sort_6 ?_
  refine g_cast (S' := (va_up (va_up S 28 (measM S)) 22 (va_up (S 22) 16 (0)))) rfl rfl (gup_w2b (by decide)) ?_
  refine g_iconst K 0 dX6_sort_9 (by decide +kernel) ?_
  refine g_istore_n (lo' := [(1, .int (nI (0))), (0, .ref (g_ad X 22))]) K dX6_sort_10 (by decide) rfl ?_
  refine g_loc (lo' := [(0, .ref (g_ad X 22)), (1, .int (nI (0)))]) [1, 0] rfl ?_
  refine g_cast (S' := (va_up (va_up (va_up S 28 (measM S)) 22 (va_up (S 22) 16 (0))) 31 (S 31))) rfl rfl (up_id1 _ 31).symm ?_
  refine L_sort X S (measM S) K (Nat.le_trans (Nat.le_of_ble_eq_true rfl) hRf) (Nat.le_trans (Nat.le_of_ble_eq_true rfl) hRl) (hm) (hnd) (measM_le hnd)  (S 22 2) 0 0 (S 31) (by omega) (⟨Nat.le_refl _, fun k hk => absurd hk (Nat.not_lt_zero k)⟩) ?_
  exact g_retv hret dX6_sort_138 rfl

set_option maxHeartbeats 4000000 in
set_option maxRecDepth 100000 in
theorem cX6_flushAt_k (Z : gZ) (S : Nat → Nat → Nat) (pl : Nat) (hm : wfM S) (hnd : ndM S) (hupl : pl < 4294967296) (hv : pl < (sortM S).1) : gMd Z yX6_flushAt wsX6_flushAt { frames := 3, cells := 0, slots := 0, locals := 73 } [.ref (gz_ad Z 22), .int (nI (pl))] S ((sortM S).2 pl) (va_up (va_up (va_up S 28 (measM S)) 22 (va_up (va_up (S 22) 16 (sortM S).1) 0 0)) 31 (sortM S).2) := by
  refine gMd_of (cc := cX6_flushAt) (maxL := 2) (ret := (some .int)) (by decide +kernel) rfl (Nat.le_of_ble_eq_true rfl) (Or.inl rfl) (fun X hZ hR K hret => ?_)
  subst hZ
  have K : gOk X cX6_flushAt 2 wsX6_flushAt RX6 := K
  have hRf : 3 ≤ (g_R X).frames := gR_f hR rfl
  have hRl : 73 ≤ (g_R X).locals := gR_l hR rfl
  have hin6 : ∀ w ∈ u_ws RX6 TX6 17, w ∈ wsX6_flushAt := by decide +kernel
  obtain ⟨m1, m2, m3, m4, msh, mst, b23, b24, b25, b26, b27⟩ := id hm
  show gG X 0 [(0, .ref (g_ad X 22)), (1, .int (nI (pl)))] [] S
  refine g_aload_n K 0 dX6_flushAt_0 rfl ?_
  refine g_callVv (q := 22) (ci := 6) (As := []) (rest := []) (C := RX6) (T := TX6) (N := 17) K (cX6_sort_k (g_z X) S (hm) (hnd)) (cwV 0 K.1.2.2.2.2 gX6_flushAt_X6_sort rfl rfl rfl (by decide +kernel) ⟨Nat.le_trans (Nat.le_of_ble_eq_true rfl) hRf, Nat.le_trans (Nat.le_of_ble_eq_true rfl) hRl⟩) rfl rfl rfl rfl (Nat.le_of_ble_eq_true rfl) dX6_flushAt_1 ?_
  refine g_cast (S' := (va_up (va_up (va_up S 28 (measM S)) 22 (va_up (S 22) 16 ((sortM S).1))) 31 ((sortM S).2))) rfl rfl rfl ?_
  have hsi := sortM_inv S
  have hs1 : (sortM S).1 ≤ 16 := by have := hsi.1; omega
  have hpm := pm_lt (n := (sortM S).1) (by omega)
  refine g_aload_n K 0 dX6_flushAt_4 rfl ?_
  refine g_iload_n K 1 dX6_flushAt_5 rfl ?_
  refine g_iconst K 0 dX6_flushAt_6 (by decide +kernel) ?_
  refine g_aload_n K 0 dX6_flushAt_7 rfl ?_
  refine g_getI (q := 22) (ci := 6) (k := 16) (N := 17) (C := RX6) (T := TX6) (ref := "ValveWalkModel") K rfl rfl rfl (by decide) hin6 (by decide +kernel) rfl dX6_flushAt_8 ?_
  refine g_topE ((sortM S).1) rfl ?_
  refine g_iconst K 1 dX6_flushAt_11 (by decide +kernel) ?_
  refine g_isub' K (pm (sortM S).1) (gi_pm) dX6_flushAt_12 ?_
  refine g_callSd (As := [.int (nI (pl)), .int (nI (0)), .int (nI (pm (sortM S).1))]) (rest := [.ref (g_ad X 22)]) K (cX6_in_k (g_z X) (va_up (va_up (va_up S 28 (measM S)) 22 (va_up (S 22) 16 ((sortM S).1))) 31 ((sortM S).2)) pl 0 (pm (sortM S).1) (by omega) (by omega) (by omega)) (va_cwS 3 K.1.2.2.2.2 gX6_flushAt_X6_in rfl rfl rfl (by decide +kernel) ⟨Nat.le_trans (Nat.le_of_ble_eq_true rfl) hRf, Nat.le_trans (Nat.le_of_ble_eq_true rfl) hRl⟩) rfl rfl (Nat.le_of_ble_eq_true rfl) dX6_flushAt_13 ?_
  have hf13_1 := inF_spec pl 0 (pm (sortM S).1)
  have hin := inF_isN (n := (sortM S).1) (x := pl) (by omega) (by omega)
  have his := isN_spec (sortM S).1 pl
  refine g_topE (isN (sortM S).1 pl) hin ?_
  refine g_if_eq (tgt := 23) (a := isN (sortM S).1 pl) K dX6_flushAt_16 (by decide) (by omega) (fun h16_2 => ?_) (fun h16_2 => ?_)
  · refine g_iconst K 1 dX6_flushAt_23 (by decide +kernel) ?_
    refine g_callVd (q := 22) (ci := 6) (As := [.int (nI (1))]) (rest := []) (C := RX6) (T := TX6) (N := 17) K (cX6_refused_k (g_z X) (va_up (va_up (va_up S 28 (measM S)) 22 (va_up (S 22) 16 ((sortM S).1))) 31 ((sortM S).2)) 1 (by omega)) (cwV 1 K.1.2.2.2.2 gX6_flushAt_X6_refused rfl rfl rfl (by decide +kernel) ⟨Nat.le_trans (Nat.le_of_ble_eq_true rfl) hRf, Nat.le_trans (Nat.le_of_ble_eq_true rfl) hRl⟩) rfl rfl rfl rfl (Nat.le_of_ble_eq_true rfl) dX6_flushAt_24 ?_
    refine g_cast (S' := (va_up (va_up (va_up S 28 (measM S)) 22 (va_up (va_up (S 22) 16 ((sortM S).1)) 0 (1))) 31 ((sortM S).2))) rfl rfl (gup_w3b (by decide) (by decide) (by decide)) ?_
    refine g_if_eq (tgt := 34) (a := 1) K dX6_flushAt_27 (by decide) (by omega) (fun h27_3 => absurd h27_3 (by omega)) (fun h27_3 => ?_)
    exfalso; omega
  · refine g_iconst K 0 dX6_flushAt_19 (by decide +kernel) ?_
    refine g_goto (tgt := 24) K dX6_flushAt_20 (by decide) ?_
    refine g_callVd (q := 22) (ci := 6) (As := [.int (nI (0))]) (rest := []) (C := RX6) (T := TX6) (N := 17) K (cX6_refused_k (g_z X) (va_up (va_up (va_up S 28 (measM S)) 22 (va_up (S 22) 16 ((sortM S).1))) 31 ((sortM S).2)) 0 (by omega)) (cwV 1 K.1.2.2.2.2 gX6_flushAt_X6_refused rfl rfl rfl (by decide +kernel) ⟨Nat.le_trans (Nat.le_of_ble_eq_true rfl) hRf, Nat.le_trans (Nat.le_of_ble_eq_true rfl) hRl⟩) rfl rfl rfl rfl (Nat.le_of_ble_eq_true rfl) dX6_flushAt_24 ?_
    refine g_cast (S' := (va_up (va_up (va_up S 28 (measM S)) 22 (va_up (va_up (S 22) 16 ((sortM S).1)) 0 (0))) 31 ((sortM S).2))) rfl rfl (gup_w3b (by decide) (by decide) (by decide)) ?_
    refine g_if_eq (tgt := 34) (a := 0) K dX6_flushAt_27 (by decide) (by omega) (fun h27_4 => ?_) (fun h27_4 => absurd h27_4 (by omega))
    refine g_aload_n K 0 dX6_flushAt_34 rfl ?_
    refine g_getR (q' := 31) (q := 22) (ci := 6) (k := 15) (N := 17) (C := RX6) (T := TX6) (ref := "ValveWalkModel") K rfl rfl rfl (by decide) hin6 (by decide +kernel) rfl dX6_flushAt_35 ?_
    refine g_iload_n K 1 dX6_flushAt_38 rfl ?_
    refine g_ald (q := 31) (n := 16) (i := pl) K rfl (by decide) (by omega) dX6_flushAt_39 ?_
    refine g_topE (((sortM S).2) (pl)) rfl ?_
    exact g_retd hret dX6_flushAt_40 rfl rfl

set_option maxHeartbeats 4000000 in
set_option maxRecDepth 100000 in
theorem cX6_flushAt_r1 (Z : gZ) (S : Nat → Nat → Nat) (pl : Nat) (hm : wfM S) (hnd : ndM S) (hupl : pl < 4294967296) (hv : (sortM S).1 ≤ pl) : gMd Z yX6_flushAt wsX6_flushAt { frames := 3, cells := 0, slots := 0, locals := 73 } [.ref (gz_ad Z 22), .int (nI (pl))] S (0) (va_up (va_up (va_up S 28 (measM S)) 22 (va_up (va_up (S 22) 16 (sortM S).1) 0 1)) 31 (sortM S).2) := by
  refine gMd_of (cc := cX6_flushAt) (maxL := 2) (ret := (some .int)) (by decide +kernel) rfl (Nat.le_of_ble_eq_true rfl) (Or.inl rfl) (fun X hZ hR K hret => ?_)
  subst hZ
  have K : gOk X cX6_flushAt 2 wsX6_flushAt RX6 := K
  have hRf : 3 ≤ (g_R X).frames := gR_f hR rfl
  have hRl : 73 ≤ (g_R X).locals := gR_l hR rfl
  have hin6 : ∀ w ∈ u_ws RX6 TX6 17, w ∈ wsX6_flushAt := by decide +kernel
  obtain ⟨m1, m2, m3, m4, msh, mst, b23, b24, b25, b26, b27⟩ := id hm
  show gG X 0 [(0, .ref (g_ad X 22)), (1, .int (nI (pl)))] [] S
  refine g_aload_n K 0 dX6_flushAt_0 rfl ?_
  refine g_callVv (q := 22) (ci := 6) (As := []) (rest := []) (C := RX6) (T := TX6) (N := 17) K (cX6_sort_k (g_z X) S (hm) (hnd)) (cwV 0 K.1.2.2.2.2 gX6_flushAt_X6_sort rfl rfl rfl (by decide +kernel) ⟨Nat.le_trans (Nat.le_of_ble_eq_true rfl) hRf, Nat.le_trans (Nat.le_of_ble_eq_true rfl) hRl⟩) rfl rfl rfl rfl (Nat.le_of_ble_eq_true rfl) dX6_flushAt_1 ?_
  refine g_cast (S' := (va_up (va_up (va_up S 28 (measM S)) 22 (va_up (S 22) 16 ((sortM S).1))) 31 ((sortM S).2))) rfl rfl rfl ?_
  have hsi := sortM_inv S
  have hs1 : (sortM S).1 ≤ 16 := by have := hsi.1; omega
  have hpm := pm_lt (n := (sortM S).1) (by omega)
  refine g_aload_n K 0 dX6_flushAt_4 rfl ?_
  refine g_iload_n K 1 dX6_flushAt_5 rfl ?_
  refine g_iconst K 0 dX6_flushAt_6 (by decide +kernel) ?_
  refine g_aload_n K 0 dX6_flushAt_7 rfl ?_
  refine g_getI (q := 22) (ci := 6) (k := 16) (N := 17) (C := RX6) (T := TX6) (ref := "ValveWalkModel") K rfl rfl rfl (by decide) hin6 (by decide +kernel) rfl dX6_flushAt_8 ?_
  refine g_topE ((sortM S).1) rfl ?_
  refine g_iconst K 1 dX6_flushAt_11 (by decide +kernel) ?_
  refine g_isub' K (pm (sortM S).1) (gi_pm) dX6_flushAt_12 ?_
  refine g_callSd (As := [.int (nI (pl)), .int (nI (0)), .int (nI (pm (sortM S).1))]) (rest := [.ref (g_ad X 22)]) K (cX6_in_k (g_z X) (va_up (va_up (va_up S 28 (measM S)) 22 (va_up (S 22) 16 ((sortM S).1))) 31 ((sortM S).2)) pl 0 (pm (sortM S).1) (by omega) (by omega) (by omega)) (va_cwS 3 K.1.2.2.2.2 gX6_flushAt_X6_in rfl rfl rfl (by decide +kernel) ⟨Nat.le_trans (Nat.le_of_ble_eq_true rfl) hRf, Nat.le_trans (Nat.le_of_ble_eq_true rfl) hRl⟩) rfl rfl (Nat.le_of_ble_eq_true rfl) dX6_flushAt_13 ?_
  have hf13_1 := inF_spec pl 0 (pm (sortM S).1)
  have hin := inF_isN (n := (sortM S).1) (x := pl) (by omega) (by omega)
  have his := isN_spec (sortM S).1 pl
  refine g_topE (isN (sortM S).1 pl) hin ?_
  refine g_if_eq (tgt := 23) (a := isN (sortM S).1 pl) K dX6_flushAt_16 (by decide) (by omega) (fun h16_2 => ?_) (fun h16_2 => ?_)
  · refine g_iconst K 1 dX6_flushAt_23 (by decide +kernel) ?_
    refine g_callVd (q := 22) (ci := 6) (As := [.int (nI (1))]) (rest := []) (C := RX6) (T := TX6) (N := 17) K (cX6_refused_k (g_z X) (va_up (va_up (va_up S 28 (measM S)) 22 (va_up (S 22) 16 ((sortM S).1))) 31 ((sortM S).2)) 1 (by omega)) (cwV 1 K.1.2.2.2.2 gX6_flushAt_X6_refused rfl rfl rfl (by decide +kernel) ⟨Nat.le_trans (Nat.le_of_ble_eq_true rfl) hRf, Nat.le_trans (Nat.le_of_ble_eq_true rfl) hRl⟩) rfl rfl rfl rfl (Nat.le_of_ble_eq_true rfl) dX6_flushAt_24 ?_
    refine g_cast (S' := (va_up (va_up (va_up S 28 (measM S)) 22 (va_up (va_up (S 22) 16 ((sortM S).1)) 0 (1))) 31 ((sortM S).2))) rfl rfl (gup_w3b (by decide) (by decide) (by decide)) ?_
    refine g_if_eq (tgt := 34) (a := 1) K dX6_flushAt_27 (by decide) (by omega) (fun h27_3 => absurd h27_3 (by omega)) (fun h27_3 => ?_)
    refine g_iconst K 0 dX6_flushAt_30 (by decide +kernel) ?_
    refine g_goto (tgt := 40) K dX6_flushAt_31 (by decide) ?_
    exact g_retd hret dX6_flushAt_40 rfl rfl
  · refine g_iconst K 0 dX6_flushAt_19 (by decide +kernel) ?_
    refine g_goto (tgt := 24) K dX6_flushAt_20 (by decide) ?_
    refine g_callVd (q := 22) (ci := 6) (As := [.int (nI (0))]) (rest := []) (C := RX6) (T := TX6) (N := 17) K (cX6_refused_k (g_z X) (va_up (va_up (va_up S 28 (measM S)) 22 (va_up (S 22) 16 ((sortM S).1))) 31 ((sortM S).2)) 0 (by omega)) (cwV 1 K.1.2.2.2.2 gX6_flushAt_X6_refused rfl rfl rfl (by decide +kernel) ⟨Nat.le_trans (Nat.le_of_ble_eq_true rfl) hRf, Nat.le_trans (Nat.le_of_ble_eq_true rfl) hRl⟩) rfl rfl rfl rfl (Nat.le_of_ble_eq_true rfl) dX6_flushAt_24 ?_
    refine g_cast (S' := (va_up (va_up (va_up S 28 (measM S)) 22 (va_up (va_up (S 22) 16 ((sortM S).1)) 0 (0))) 31 ((sortM S).2))) rfl rfl (gup_w3b (by decide) (by decide) (by decide)) ?_
    refine g_if_eq (tgt := 34) (a := 0) K dX6_flushAt_27 (by decide) (by omega) (fun h27_4 => ?_) (fun h27_4 => absurd h27_4 (by omega))
    exfalso; omega

