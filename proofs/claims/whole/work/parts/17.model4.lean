/-! THE REFERENCE: walking -/
def fInitC (k : Nat) (w : Nat → Nat) : Nat → Nat := va_up w k (if k / 12 = k % 12 then 0 else 1000000)
def oneC (S : Nat → Nat → Nat) (p : Nat) : Nat := 12 * S 23 (2 * p) + S 23 (2 * p + 1)
def othC (S : Nat → Nat → Nat) (p : Nat) : Nat := 12 * S 23 (2 * p + 1) + S 23 (2 * p)
def relC (S : Nat → Nat → Nat) (p : Nat) (w : Nat → Nat) : Nat → Nat := va_up w (12 * S 23 (2 * p) + S 23 (2 * p + 1)) (if S 25 p < w (12 * S 23 (2 * p) + S 23 (2 * p + 1)) then S 25 p else w (12 * S 23 (2 * p) + S 23 (2 * p + 1)))
def fPipeC (S : Nat → Nat → Nat) (p : Nat) (w : Nat → Nat) : Nat → Nat := va_up (relC S p w) (12 * S 23 (2 * p + 1) + S 23 (2 * p)) (relC S p w (12 * S 23 (2 * p) + S 23 (2 * p + 1)))
def fCellC (m k : Nat) (w : Nat → Nat) : Nat → Nat := va_up w k (if w (k / 12 * 12 + m) + w (12 * m + k % 12) < w k then w (k / 12 * 12 + m) + w (12 * m + k % 12) else w k)
def fMidC (m : Nat) (w : Nat → Nat) : Nat → Nat := gfor (fCellC m) 144 0 w
def connM (S : Nat → Nat → Nat) : Nat → Nat := gfor fMidC (S 22 1) 0 (gfor (fPipeC S) (S 22 2) 0 (gfor fInitC 144 0 (S 29)))
theorem connM_r {S : Nat → Nat → Nat} {z : Nat} : connM (va_up S 22 (va_up (S 22) 0 z)) = connM S := rfl
theorem connM_u {S : Nat → Nat → Nat} {q : Nat} {d : Nat → Nat} (h : 29 < q) : connM (va_up S q d) = connM S := by
  have e : fPipeC (va_up S q d) = fPipeC S := by
    funext p w; simp only [fPipeC, relC, va_up_ne (f := S) d (show 23 ≠ q by omega), va_up_ne (f := S) d (show 25 ≠ q by omega)]
  simp only [connM, e, va_up_ne (f := S) d (show 22 ≠ q by omega), va_up_ne (f := S) d (show 29 ≠ q by omega)]
theorem relC_le {S : Nat → Nat → Nat} (hm : wfM S) (p : Nat) (w : Nat → Nat) (hB : leB 144 1000000 w) : leB 144 1000000 (relC S p w) := by
  have h1 := hm.2.2.2.2.2.2.2.2.1 p
  exact up_le hB (by split <;> omega) _
theorem fPipeC_le {S : Nat → Nat → Nat} (hm : wfM S) (p : Nat) (w : Nat → Nat) (hB : leB 144 1000000 w) : leB 144 1000000 (fPipeC S p w) := by
  have h1 := hm.2.2.2.2.2.2.1 (2 * p)
  have h2 := hm.2.2.2.2.2.2.1 (2 * p + 1)
  exact up_le (relC_le hm p w hB) (relC_le hm p w hB _ (by omega)) _
theorem fCellC_le {m k : Nat} {w : Nat → Nat} (hk : k < 144) (hB : leB 144 1000000 w) : leB 144 1000000 (fCellC m k w) := by
  have h1 := hB k hk
  exact up_le hB (by split <;> omega) _
theorem fMidC_le (m : Nat) (w : Nat → Nat) (hB : leB 144 1000000 w) : leB 144 1000000 (fMidC m w) := gfor_invK (fun _ w => leB 144 1000000 w) (fCellC m) 144 0 w (fun i y _ hi h => fCellC_le (by omega) h) hB
theorem initC_le (w : Nat → Nat) : leB 144 1000000 (gfor fInitC 144 0 w) := by
  have := gfor_invK (fun i (d : Nat → Nat) => ∀ j, j < i → d j ≤ 1000000) fInitC 144 0 w (fun i y _ hi h j hj => by
    simp only [fInitC, va_up]
    (repeat' split)
    · omega
    · omega
    · exact h j (by omega)) (fun j hj => absurd hj (Nat.not_lt_zero j))
  intro j hj
  exact this j (by omega)
theorem pipesC_le {S : Nat → Nat → Nat} (hm : wfM S) (n : Nat) (w : Nat → Nat) (hB : leB 144 1000000 w) : leB 144 1000000 (gfor (fPipeC S) n 0 w) := gfor_inv (leB 144 1000000) _ (fun p w h => fPipeC_le hm p w h) _ 0 _ hB
theorem connM_le {S : Nat → Nat → Nat} (hm : wfM S) : leB 144 1000000 (connM S) := gfor_inv (leB 144 1000000) _ (fun m w h => fMidC_le m w h) _ 0 _ (pipesC_le hm _ _ (initC_le _))
def wkGo (w t : Nat → Nat) (many : Nat) : Nat → Nat → Nat → Nat → Nat → Nat
  | 0, _, sum, _, _ => sum
  | k + 1, nd, sum, seen, rest => if (seen >>> (rest % many)) &&& 1 = 1 then 1000000 else wkGo w t many k (t (rest % many)) (sum + w (12 * nd + t (rest % many))) (seen ||| 1 <<< (rest % many)) (rest / many)
theorem wkGo_pos {w t : Nat → Nat} {many k nd sum seen rest : Nat} (h : (seen >>> (rest % many)) &&& 1 = 1) : wkGo w t many (k + 1) nd sum seen rest = 1000000 := by rw [wkGo, if_pos h]
theorem wkGo_neg {w t : Nat → Nat} {many k nd sum seen rest : Nat} (h : ¬ (seen >>> (rest % many)) &&& 1 = 1) : wkGo w t many (k + 1) nd sum seen rest = wkGo w t many k (t (rest % many)) (sum + w (12 * nd + t (rest % many))) (seen ||| 1 <<< (rest % many)) (rest / many) := by rw [wkGo, if_neg h]
theorem wkGo_le {w t : Nat → Nat} {many : Nat} (hB : leB 144 1000000 w) (ht : ∀ k, k < many → t k < 12) : ∀ (k nd sum seen rest : Nat), (k ≠ 0 → 0 < many) → nd < 12 → sum ≤ (6 - k) * 1000000 → k ≤ 6 → wkGo w t many k nd sum seen rest ≤ 6000000
  | 0, _, _, _, _, _, _, h, _ => h
  | k + 1, nd, sum, seen, rest, hm, hn, h, h6 => by
    unfold wkGo
    split
    · decide
    · have h0 := Nat.mod_lt rest (hm (by omega))
      have h1 := ht _ h0
      have h2 := hB (12 * nd + t (rest % many)) (by omega)
      exact wkGo_le hB ht k _ _ _ _ (fun _ => hm (by omega)) h1 (by omega) (by omega)
def walkedF (w t : Nat → Nat) (nd many code : Nat) : Nat := wkGo w t many many nd 0 0 code
theorem walkedF_le {w t : Nat → Nat} {nd many : Nat} (hB : leB 144 1000000 w) (ht : ∀ k, k < many → t k < 12) (hn : nd < 12) (h6 : many ≤ 6) (code : Nat) : walkedF w t nd many code ≤ 6000000 := wkGo_le hB ht many nd 0 0 code (fun h => by omega) hn (by omega) h6
def cntB (a : Nat) : Nat → Nat
  | 0 => 0
  | v + 1 => cntB a v + ((a >>> v) &&& 1)
theorem cntB_mono (a : Nat) : ∀ (k v : Nat), cntB a v ≤ cntB a (v + k)
  | 0, _ => Nat.le_refl _
  | k + 1, v => Nat.le_trans (cntB_mono a k v) (Nat.le_add_right _ _)
theorem popM_cnt_a : ∀ a b : Fin 64, cntB (64 * a.val + b.val) 12 = popM (64 * a.val + b.val) := by decide +kernel
theorem popM_cnt {a : Nat} (h : a < 4096) : cntB a 12 = popM a := by
  have h1 := popM_cnt_a ⟨a / 64, by omega⟩ ⟨a % 64, by omega⟩
  rwa [show 64 * (⟨a / 64, by omega⟩ : Fin 64).val + (⟨a % 64, by omega⟩ : Fin 64).val = a from by show 64 * (a / 64) + a % 64 = a; omega] at h1
theorem cntB_le {a v : Nat} (ha : a < 4096) (hv : v ≤ 12) : cntB a v ≤ popM a := by
  have h := cntB_mono a (12 - v) v
  rw [show v + (12 - v) = 12 by omega, popM_cnt ha] at h
  exact h
def fStopM (S : Nat → Nat → Nat) (a v : Nat) (x : Nat × (Nat → Nat)) : Nat × (Nat → Nat) := if (a >>> v) &&& 1 = 1 then (x.1 + 1, va_up x.2 x.1 (S 23 (S 27 v))) else x
def stopsM (S : Nat → Nat → Nat) (a : Nat) : Nat × (Nat → Nat) := gfor (fStopM S a) (S 22 3) 0 (0, S 30)
def invT (a v : Nat) (x : Nat × (Nat → Nat)) : Prop := x.1 = cntB a v ∧ ∀ k, k < x.1 → x.2 k < 12
theorem fStopM_inv {S : Nat → Nat → Nat} (hm : wfM S) {a v : Nat} {x : Nat × (Nat → Nat)} (h : invT a v x) : invT a (v + 1) (fStopM S a v x) := by
  have hb := @Nat.and_le_right (a >>> v) 1
  unfold fStopM invT cntB
  split
  · refine ⟨by have := h.1; show x.1 + 1 = _; omega, fun k hk => ?_⟩
    have hk : k < x.1 + 1 := hk
    simp only [va_up]
    split
    · exact hm.2.2.2.2.2.2.1 _
    · exact h.2 k (by omega)
  · exact ⟨by have := h.1; omega, h.2⟩
theorem stopsM_inv {S : Nat → Nat → Nat} (hm : wfM S) (a : Nat) : invT a (S 22 3) (stopsM S a) := by
  have := gfor_invK (fun i x => invT a i x) (fStopM S a) (S 22 3) 0 (0, S 30) (fun i y _ hi h => fStopM_inv hm h) ⟨rfl, fun k hk => absurd hk (Nat.not_lt_zero k)⟩
  rw [Nat.zero_add] at this; exact this
theorem stopsM_6 {S : Nat → Nat → Nat} (hm : wfM S) {a : Nat} (ha : a < 4096) (hb : popM a ≤ 6) : (stopsM S a).1 ≤ 6 := by
  rw [(stopsM_inv hm a).1]
  exact Nat.le_trans (cntB_le ha hm.2.2.1) hb
def fPowM (many _j c : Nat) : Nat := c * many
def codesM (many : Nat) : Nat := gfor (fPowM many) many 0 1
theorem codesM_a : ∀ m : Fin 7, codesM m.val ≤ 46656 := by decide +kernel
theorem codesM_le {m : Nat} (h : m ≤ 6) : codesM m ≤ 46656 := codesM_a ⟨m, by omega⟩
def fLeastM (w t : Nat → Nat) (nd many code l : Nat) : Nat := if walkedF w t nd many code < l then walkedF w t nd many code else l
def bestM (w t : Nat → Nat) (nd many : Nat) : Nat := gfor (fLeastM w t nd many) (codesM many) 0 1000000
theorem bestM_le (w t : Nat → Nat) (nd many : Nat) : bestM w t nd many ≤ 1000000 := gfor_inv (· ≤ 1000000) _ (fun c l h => by unfold fLeastM; split <;> omega) _ 0 _ (Nat.le_refl _)
def walkM (S : Nat → Nat → Nat) (nd a : Nat) : Nat := if bestM (connM S) (stopsM S a).2 nd (stopsM S a).1 < 1000000 then bestM (connM S) (stopsM S a).2 nd (stopsM S a).1 else 4294967295
set_option maxHeartbeats 4000000 in
set_option maxRecDepth 100000 in
theorem L_ci (X : gC) (S : Nat → Nat → Nat) (K : gOk X cX6_connect 4 wsX6_connect RX6) (hRf : 0 ≤ (g_R X).frames) (hRl : 0 ≤ (g_R X).locals) : ∀ (k i : Nat) (w : Nat → Nat), i + k = 144 → gG X 38 [(0, .ref (g_ad X 22)), (1, .int (nI (144)))] [] (va_up S 29 (((gfor (fInitC) k i w)))) → gG X 2 [(0, .ref (g_ad X 22)), (1, .int (nI (i)))] [] (va_up S 29 (w)) := by
  have hin6 : ∀ w ∈ u_ws RX6 TX6 17, w ∈ wsX6_connect := by decide +kernel
  intro k
  induction k with
  | zero =>
    intro i w hj kk
    have hj : i = 144 := by omega
    refine g_iload_n K 1 dX6_connect_2 rfl ?_
    refine g_sipush K 144 dX6_connect_3 (by decide +kernel) ?_
    refine g_icmp_ge (tgt := 38) (a := i) (b := 144) K dX6_connect_6 (by decide) (by omega) (by omega) (fun h6_1 => ?_) (fun h6_1 => ?_)
    · refine g_loc (lo' := [(0, .ref (g_ad X 22)), (1, .int (nI (i)))]) [0, 1] rfl ?_
      exact g_cast (by first | rfl | (rw [hj]; done) | (rw [hj]; rfl)) rfl rfl kk
    · exact absurd h6_1 (by omega)
  | succ k ih =>
    intro i w hj kk
    refine g_iload_n K 1 dX6_connect_2 rfl ?_
    refine g_sipush K 144 dX6_connect_3 (by decide +kernel) ?_
    refine g_icmp_ge (tgt := 38) (a := i) (b := 144) K dX6_connect_6 (by decide) (by omega) (by omega) (fun h6_1 => ?_) (fun h6_1 => ?_)
    · exact absurd h6_1 (by omega)
    · refine g_aload_n K 0 dX6_connect_9 rfl ?_
      refine g_getR (q' := 29) (q := 22) (ci := 6) (k := 13) (N := 17) (C := RX6) (T := TX6) (ref := "ValveWalkModel") K rfl rfl rfl (by decide) hin6 (by decide +kernel) rfl dX6_connect_10 ?_
      refine g_iload_n K 1 dX6_connect_13 rfl ?_
      refine g_iload_n K 1 dX6_connect_14 rfl ?_
      refine g_bipush K 12 dX6_connect_15 (by decide +kernel) ?_
      refine g_idiv (a := i) (b := 12) K (by omega) (by omega) (by omega) dX6_connect_17 ?_
      refine g_iload_n K 1 dX6_connect_18 rfl ?_
      refine g_bipush K 12 dX6_connect_19 (by decide +kernel) ?_
      refine g_irem (a := i) (b := 12) K (by omega) (by omega) (by omega) dX6_connect_21 ?_
      refine g_icmp_ne (tgt := 29) (a := (i) / (12)) (b := (i) % (12)) K dX6_connect_22 (by decide) (by omega) (by omega) (fun h22_2 => ?_) (fun h22_2 => ?_)
      · refine g_ldc (w := 1000000) K 1000000 (K.1.2.2.2.2 _ (by decide +kernel)) (by decide +kernel) dX6_connect_29 ?_
        refine g_ast (q := 29) (n := 144) (i := i) (a := 1000000) K rfl (by decide) (by omega) dX6_connect_31 ?_
        refine g_cast (S' := (va_up S 29 (va_up w (i) (1000000)))) rfl rfl (gup_w1a) ?_
        refine g_iinc (a := i) (b := i + 1) (lo' := [(1, .int (nI (i + 1))), (0, .ref (g_ad X 22))]) K 1 dX6_connect_32 rfl (gi_inc _) (by decide) rfl ?_
        refine g_goto (tgt := 2) K dX6_connect_35 (by decide) ?_
        refine g_loc (lo' := [(0, .ref (g_ad X 22)), (1, .int (nI (i + 1)))]) [1, 0] rfl ?_
        exact ih (i + 1) (va_up w (i) (1000000)) (by omega)  (by rw [gfor_succ, show (fInitC) i w = va_up w (i) (1000000) from by unfold fInitC; first | rw [if_pos (by assumption)] | rw [if_neg (by assumption)]] at kk; exact kk)
      · refine g_iconst K 0 dX6_connect_25 (by decide +kernel) ?_
        refine g_goto (tgt := 31) K dX6_connect_26 (by decide) ?_
        refine g_ast (q := 29) (n := 144) (i := i) (a := 0) K rfl (by decide) (by omega) dX6_connect_31 ?_
        refine g_cast (S' := (va_up S 29 (va_up w (i) (0)))) rfl rfl (gup_w1a) ?_
        refine g_iinc (a := i) (b := i + 1) (lo' := [(1, .int (nI (i + 1))), (0, .ref (g_ad X 22))]) K 1 dX6_connect_32 rfl (gi_inc _) (by decide) rfl ?_
        refine g_goto (tgt := 2) K dX6_connect_35 (by decide) ?_
        refine g_loc (lo' := [(0, .ref (g_ad X 22)), (1, .int (nI (i + 1)))]) [1, 0] rfl ?_
        exact ih (i + 1) (va_up w (i) (0)) (by omega)  (by rw [gfor_succ, show (fInitC) i w = va_up w (i) (0) from by unfold fInitC; first | rw [if_pos (by assumption)] | rw [if_neg (by assumption)]] at kk; exact kk)

set_option maxHeartbeats 4000000 in
set_option maxRecDepth 100000 in
theorem L_cp (X : gC) (S : Nat → Nat → Nat) (K : gOk X cX6_connect 4 wsX6_connect RX6) (hRf : 0 ≤ (g_R X).frames) (hRl : 0 ≤ (g_R X).locals) (hm : wfM S) : ∀ (k p : Nat) (w : Nat → Nat), p + k = S 22 2 → (leB 144 1000000 w) → gG X 148 [(0, .ref (g_ad X 22)), (1, .int (nI ((S 22 2))))] [] (va_up S 29 (((gfor (fPipeC S) k p w)))) → gG X 40 [(0, .ref (g_ad X 22)), (1, .int (nI (p)))] [] (va_up S 29 (w)) := by
  have hin6 : ∀ w ∈ u_ws RX6 TX6 17, w ∈ wsX6_connect := by decide +kernel
  obtain ⟨m1, m2, m3, m4, msh, mst, b23, b24, b25, b26, b27⟩ := id hm
  intro k
  induction k with
  | zero =>
    intro p w hj hB kk
    have hj : p = S 22 2 := by omega
    refine g_iload_n K 1 dX6_connect_40 rfl ?_
    refine g_aload_n K 0 dX6_connect_41 rfl ?_
    refine g_getI (q := 22) (ci := 6) (k := 2) (N := 17) (C := RX6) (T := TX6) (ref := "ValveWalkModel") K rfl rfl rfl (by decide) hin6 (by decide +kernel) rfl dX6_connect_42 ?_
    refine g_topE (S 22 2) rfl ?_
    refine g_icmp_ge (tgt := 148) (a := p) (b := S 22 2) K dX6_connect_45 (by decide) (by omega) (by omega) (fun h45_1 => ?_) (fun h45_1 => ?_)
    · refine g_loc (lo' := [(0, .ref (g_ad X 22)), (1, .int (nI (p)))]) [0, 1] rfl ?_
      exact g_cast (by first | rfl | (rw [hj]; done) | (rw [hj]; rfl)) rfl rfl kk
    · exact absurd h45_1 (by omega)
  | succ k ih =>
    intro p w hj hB kk
    refine g_iload_n K 1 dX6_connect_40 rfl ?_
    refine g_aload_n K 0 dX6_connect_41 rfl ?_
    refine g_getI (q := 22) (ci := 6) (k := 2) (N := 17) (C := RX6) (T := TX6) (ref := "ValveWalkModel") K rfl rfl rfl (by decide) hin6 (by decide +kernel) rfl dX6_connect_42 ?_
    refine g_topE (S 22 2) rfl ?_
    refine g_icmp_ge (tgt := 148) (a := p) (b := S 22 2) K dX6_connect_45 (by decide) (by omega) (by omega) (fun h45_1 => ?_) (fun h45_1 => ?_)
    · exact absurd h45_1 (by omega)
    · refine g_bipush K 12 dX6_connect_48 (by decide +kernel) ?_
      refine g_aload_n K 0 dX6_connect_50 rfl ?_
      refine g_getR (q' := 23) (q := 22) (ci := 6) (k := 5) (N := 17) (C := RX6) (T := TX6) (ref := "ValveWalkModel") K rfl rfl rfl (by decide) hin6 (by decide +kernel) rfl dX6_connect_51 ?_
      refine g_iconst K 2 dX6_connect_54 (by decide +kernel) ?_
      refine g_iload_n K 1 dX6_connect_55 rfl ?_
      refine g_imul (a := 2) (b := p) K dX6_connect_56 ?_
      refine g_ald (q := 23) (n := 32) (i := (2) * (p)) K rfl (by decide) (by omega) dX6_connect_57 ?_
      refine g_topE (S 23 ((2) * (p))) rfl ?_
      have hv57_2 := b23 ((2) * (p))
      refine g_imul (a := 12) (b := S 23 ((2) * (p))) K dX6_connect_58 ?_
      refine g_aload_n K 0 dX6_connect_59 rfl ?_
      refine g_getR (q' := 23) (q := 22) (ci := 6) (k := 5) (N := 17) (C := RX6) (T := TX6) (ref := "ValveWalkModel") K rfl rfl rfl (by decide) hin6 (by decide +kernel) rfl dX6_connect_60 ?_
      refine g_iconst K 2 dX6_connect_63 (by decide +kernel) ?_
      refine g_iload_n K 1 dX6_connect_64 rfl ?_
      refine g_imul (a := 2) (b := p) K dX6_connect_65 ?_
      refine g_iconst K 1 dX6_connect_66 (by decide +kernel) ?_
      refine g_iadd (a := (2) * (p)) (b := 1) K dX6_connect_67 ?_
      refine g_ald (q := 23) (n := 32) (i := ((2) * (p)) + (1)) K rfl (by decide) (by omega) dX6_connect_68 ?_
      refine g_topE (S 23 (((2) * (p)) + (1))) rfl ?_
      have hv68_3 := b23 (((2) * (p)) + (1))
      refine g_iadd (a := (12) * (S 23 ((2) * (p)))) (b := S 23 (((2) * (p)) + (1))) K dX6_connect_69 ?_
      refine g_istore_n (lo' := [(2, .int (nI (((12) * (S 23 ((2) * (p)))) + (S 23 (((2) * (p)) + (1)))))), (0, .ref (g_ad X 22)), (1, .int (nI (p)))]) K dX6_connect_70 (by decide) rfl ?_
      refine g_bipush K 12 dX6_connect_71 (by decide +kernel) ?_
      refine g_aload_n K 1 dX6_connect_73 rfl ?_
      refine g_getR (q' := 23) (q := 22) (ci := 6) (k := 5) (N := 17) (C := RX6) (T := TX6) (ref := "ValveWalkModel") K rfl rfl rfl (by decide) hin6 (by decide +kernel) rfl dX6_connect_74 ?_
      refine g_iconst K 2 dX6_connect_77 (by decide +kernel) ?_
      refine g_iload_n K 2 dX6_connect_78 rfl ?_
      refine g_imul (a := 2) (b := p) K dX6_connect_79 ?_
      refine g_iconst K 1 dX6_connect_80 (by decide +kernel) ?_
      refine g_iadd (a := (2) * (p)) (b := 1) K dX6_connect_81 ?_
      refine g_ald (q := 23) (n := 32) (i := ((2) * (p)) + (1)) K rfl (by decide) (by omega) dX6_connect_82 ?_
      refine g_topE (S 23 (((2) * (p)) + (1))) rfl ?_
      have hv82_4 := b23 (((2) * (p)) + (1))
      refine g_imul (a := 12) (b := S 23 (((2) * (p)) + (1))) K dX6_connect_83 ?_
      refine g_aload_n K 1 dX6_connect_84 rfl ?_
      refine g_getR (q' := 23) (q := 22) (ci := 6) (k := 5) (N := 17) (C := RX6) (T := TX6) (ref := "ValveWalkModel") K rfl rfl rfl (by decide) hin6 (by decide +kernel) rfl dX6_connect_85 ?_
      refine g_iconst K 2 dX6_connect_88 (by decide +kernel) ?_
      refine g_iload_n K 2 dX6_connect_89 rfl ?_
      refine g_imul (a := 2) (b := p) K dX6_connect_90 ?_
      refine g_ald (q := 23) (n := 32) (i := (2) * (p)) K rfl (by decide) (by omega) dX6_connect_91 ?_
      refine g_topE (S 23 ((2) * (p))) rfl ?_
      have hv91_5 := b23 ((2) * (p))
      refine g_iadd (a := (12) * (S 23 (((2) * (p)) + (1)))) (b := S 23 ((2) * (p))) K dX6_connect_92 ?_
      refine g_istore_n (lo' := [(3, .int (nI (((12) * (S 23 (((2) * (p)) + (1)))) + (S 23 ((2) * (p)))))), (2, .int (nI (((12) * (S 23 ((2) * (p)))) + (S 23 (((2) * (p)) + (1)))))), (0, .ref (g_ad X 22)), (1, .int (nI (p)))]) K dX6_connect_93 (by decide) rfl ?_
      refine g_aload_n K 2 dX6_connect_94 rfl ?_
      refine g_getR (q' := 29) (q := 22) (ci := 6) (k := 13) (N := 17) (C := RX6) (T := TX6) (ref := "ValveWalkModel") K rfl rfl rfl (by decide) hin6 (by decide +kernel) rfl dX6_connect_95 ?_
      refine g_iload_n K 1 dX6_connect_98 rfl ?_
      refine g_aload_n K 2 dX6_connect_99 rfl ?_
      refine g_getR (q' := 25) (q := 22) (ci := 6) (k := 7) (N := 17) (C := RX6) (T := TX6) (ref := "ValveWalkModel") K rfl rfl rfl (by decide) hin6 (by decide +kernel) rfl dX6_connect_100 ?_
      refine g_iload_n K 3 dX6_connect_103 rfl ?_
      refine g_ald (q := 25) (n := 16) (i := p) K rfl (by decide) (by omega) dX6_connect_104 ?_
      refine g_topE (S 25 (p)) rfl ?_
      have hv104_6 := b25 (p)
      refine g_aload_n K 2 dX6_connect_105 rfl ?_
      refine g_getR (q' := 29) (q := 22) (ci := 6) (k := 13) (N := 17) (C := RX6) (T := TX6) (ref := "ValveWalkModel") K rfl rfl rfl (by decide) hin6 (by decide +kernel) rfl dX6_connect_106 ?_
      refine g_iload_n K 1 dX6_connect_109 rfl ?_
      refine g_ald (q := 29) (n := 144) (i := ((12) * (S 23 ((2) * (p)))) + (S 23 (((2) * (p)) + (1)))) K rfl (by decide) (by omega) dX6_connect_110 ?_
      refine g_topE (w (((12) * (S 23 ((2) * (p)))) + (S 23 (((2) * (p)) + (1))))) rfl ?_
      have hx := b23 (2 * p)
      have hy := b23 (2 * p + 1)
      have hw1 := hB (12 * S 23 (2 * p) + S 23 (2 * p + 1)) (by omega)
      refine g_icmp_ge (tgt := 123) (a := S 25 (p)) (b := w (((12) * (S 23 ((2) * (p)))) + (S 23 (((2) * (p)) + (1))))) K dX6_connect_111 (by decide) (by omega) (by omega) (fun h111_7 => ?_) (fun h111_7 => ?_)
      · refine g_aload_n K 2 dX6_connect_123 rfl ?_
        refine g_getR (q' := 29) (q := 22) (ci := 6) (k := 13) (N := 17) (C := RX6) (T := TX6) (ref := "ValveWalkModel") K rfl rfl rfl (by decide) hin6 (by decide +kernel) rfl dX6_connect_124 ?_
        refine g_iload_n K 1 dX6_connect_127 rfl ?_
        refine g_ald (q := 29) (n := 144) (i := ((12) * (S 23 ((2) * (p)))) + (S 23 (((2) * (p)) + (1)))) K rfl (by decide) (by omega) dX6_connect_128 ?_
        refine g_topE (w (((12) * (S 23 ((2) * (p)))) + (S 23 (((2) * (p)) + (1))))) rfl ?_
        refine g_ast (q := 29) (n := 144) (i := ((12) * (S 23 ((2) * (p)))) + (S 23 (((2) * (p)) + (1)))) (a := w (((12) * (S 23 ((2) * (p)))) + (S 23 (((2) * (p)) + (1))))) K rfl (by decide) (by omega) dX6_connect_129 ?_
        refine g_cast (S' := (va_up S 29 (va_up w (((12) * (S 23 ((2) * (p)))) + (S 23 (((2) * (p)) + (1)))) (w (((12) * (S 23 ((2) * (p)))) + (S 23 (((2) * (p)) + (1)))))))) rfl rfl (gup_w1a) ?_
        refine g_aload_n K 2 dX6_connect_130 rfl ?_
        refine g_getR (q' := 29) (q := 22) (ci := 6) (k := 13) (N := 17) (C := RX6) (T := TX6) (ref := "ValveWalkModel") K rfl rfl rfl (by decide) hin6 (by decide +kernel) rfl dX6_connect_131 ?_
        refine g_iload_n K 0 dX6_connect_134 rfl ?_
        refine g_aload_n K 2 dX6_connect_135 rfl ?_
        refine g_getR (q' := 29) (q := 22) (ci := 6) (k := 13) (N := 17) (C := RX6) (T := TX6) (ref := "ValveWalkModel") K rfl rfl rfl (by decide) hin6 (by decide +kernel) rfl dX6_connect_136 ?_
        refine g_iload_n K 1 dX6_connect_139 rfl ?_
        refine g_ald (q := 29) (n := 144) (i := ((12) * (S 23 ((2) * (p)))) + (S 23 (((2) * (p)) + (1)))) K rfl (by decide) (by omega) dX6_connect_140 ?_
        refine g_topE ((va_up w (((12) * (S 23 ((2) * (p)))) + (S 23 (((2) * (p)) + (1)))) (w (((12) * (S 23 ((2) * (p)))) + (S 23 (((2) * (p)) + (1)))))) (((12) * (S 23 ((2) * (p)))) + (S 23 (((2) * (p)) + (1))))) rfl ?_
        refine g_ast (q := 29) (n := 144) (i := ((12) * (S 23 (((2) * (p)) + (1)))) + (S 23 ((2) * (p)))) (a := (va_up w (((12) * (S 23 ((2) * (p)))) + (S 23 (((2) * (p)) + (1)))) (w (((12) * (S 23 ((2) * (p)))) + (S 23 (((2) * (p)) + (1)))))) (((12) * (S 23 ((2) * (p)))) + (S 23 (((2) * (p)) + (1))))) K rfl (by decide) (by omega) dX6_connect_141 ?_
        refine g_cast (S' := (va_up S 29 (va_up (va_up w (((12) * (S 23 ((2) * (p)))) + (S 23 (((2) * (p)) + (1)))) (w (((12) * (S 23 ((2) * (p)))) + (S 23 (((2) * (p)) + (1)))))) (((12) * (S 23 (((2) * (p)) + (1)))) + (S 23 ((2) * (p)))) ((va_up w (((12) * (S 23 ((2) * (p)))) + (S 23 (((2) * (p)) + (1)))) (w (((12) * (S 23 ((2) * (p)))) + (S 23 (((2) * (p)) + (1)))))) (((12) * (S 23 ((2) * (p)))) + (S 23 (((2) * (p)) + (1)))))))) rfl rfl (gup_w1a) ?_
        refine g_iinc (a := p) (b := p + 1) (lo' := [(1, .int (nI (p + 1))), (3, .int (nI (((12) * (S 23 (((2) * (p)) + (1)))) + (S 23 ((2) * (p)))))), (2, .int (nI (((12) * (S 23 ((2) * (p)))) + (S 23 (((2) * (p)) + (1)))))), (0, .ref (g_ad X 22))]) K 3 dX6_connect_142 rfl (gi_inc _) (by decide) rfl ?_
        refine g_goto (tgt := 40) K dX6_connect_145 (by decide) ?_
        refine g_loc (lo' := [(0, .ref (g_ad X 22)), (1, .int (nI (p + 1)))]) [3, 0] rfl ?_
        exact ih (p + 1) (va_up (va_up w (((12) * (S 23 ((2) * (p)))) + (S 23 (((2) * (p)) + (1)))) (w (((12) * (S 23 ((2) * (p)))) + (S 23 (((2) * (p)) + (1)))))) (((12) * (S 23 (((2) * (p)) + (1)))) + (S 23 ((2) * (p)))) ((va_up w (((12) * (S 23 ((2) * (p)))) + (S 23 (((2) * (p)) + (1)))) (w (((12) * (S 23 ((2) * (p)))) + (S 23 (((2) * (p)) + (1)))))) (((12) * (S 23 ((2) * (p)))) + (S 23 (((2) * (p)) + (1)))))) (by omega) (by have q9 := fPipeC_le hm p w hB; rwa [show fPipeC S p w = va_up (va_up w (((12) * (S 23 ((2) * (p)))) + (S 23 (((2) * (p)) + (1)))) (w (((12) * (S 23 ((2) * (p)))) + (S 23 (((2) * (p)) + (1)))))) (((12) * (S 23 (((2) * (p)) + (1)))) + (S 23 ((2) * (p)))) ((va_up w (((12) * (S 23 ((2) * (p)))) + (S 23 (((2) * (p)) + (1)))) (w (((12) * (S 23 ((2) * (p)))) + (S 23 (((2) * (p)) + (1)))))) (((12) * (S 23 ((2) * (p)))) + (S 23 (((2) * (p)) + (1))))) from by unfold fPipeC relC; (first | rw [if_pos h111_7] | rw [if_neg (Nat.not_lt.mpr h111_7)])] at q9) (by rw [gfor_succ, show (fPipeC S) p w = va_up (va_up w (((12) * (S 23 ((2) * (p)))) + (S 23 (((2) * (p)) + (1)))) (w (((12) * (S 23 ((2) * (p)))) + (S 23 (((2) * (p)) + (1)))))) (((12) * (S 23 (((2) * (p)) + (1)))) + (S 23 ((2) * (p)))) ((va_up w (((12) * (S 23 ((2) * (p)))) + (S 23 (((2) * (p)) + (1)))) (w (((12) * (S 23 ((2) * (p)))) + (S 23 (((2) * (p)) + (1)))))) (((12) * (S 23 ((2) * (p)))) + (S 23 (((2) * (p)) + (1))))) from by unfold fPipeC relC; (first | rw [if_pos h111_7] | rw [if_neg (Nat.not_lt.mpr h111_7)])] at kk; exact kk)
      · refine g_aload_n K 2 dX6_connect_114 rfl ?_
        refine g_getR (q' := 25) (q := 22) (ci := 6) (k := 7) (N := 17) (C := RX6) (T := TX6) (ref := "ValveWalkModel") K rfl rfl rfl (by decide) hin6 (by decide +kernel) rfl dX6_connect_115 ?_
        refine g_iload_n K 3 dX6_connect_118 rfl ?_
        refine g_ald (q := 25) (n := 16) (i := p) K rfl (by decide) (by omega) dX6_connect_119 ?_
        refine g_topE (S 25 (p)) rfl ?_
        have hv119_8 := b25 (p)
        refine g_goto (tgt := 129) K dX6_connect_120 (by decide) ?_
        refine g_ast (q := 29) (n := 144) (i := ((12) * (S 23 ((2) * (p)))) + (S 23 (((2) * (p)) + (1)))) (a := S 25 (p)) K rfl (by decide) (by omega) dX6_connect_129 ?_
        refine g_cast (S' := (va_up S 29 (va_up w (((12) * (S 23 ((2) * (p)))) + (S 23 (((2) * (p)) + (1)))) (S 25 (p))))) rfl rfl (gup_w1a) ?_
        refine g_aload_n K 2 dX6_connect_130 rfl ?_
        refine g_getR (q' := 29) (q := 22) (ci := 6) (k := 13) (N := 17) (C := RX6) (T := TX6) (ref := "ValveWalkModel") K rfl rfl rfl (by decide) hin6 (by decide +kernel) rfl dX6_connect_131 ?_
        refine g_iload_n K 0 dX6_connect_134 rfl ?_
        refine g_aload_n K 2 dX6_connect_135 rfl ?_
        refine g_getR (q' := 29) (q := 22) (ci := 6) (k := 13) (N := 17) (C := RX6) (T := TX6) (ref := "ValveWalkModel") K rfl rfl rfl (by decide) hin6 (by decide +kernel) rfl dX6_connect_136 ?_
        refine g_iload_n K 1 dX6_connect_139 rfl ?_
        refine g_ald (q := 29) (n := 144) (i := ((12) * (S 23 ((2) * (p)))) + (S 23 (((2) * (p)) + (1)))) K rfl (by decide) (by omega) dX6_connect_140 ?_
        refine g_topE ((va_up w (((12) * (S 23 ((2) * (p)))) + (S 23 (((2) * (p)) + (1)))) (S 25 (p))) (((12) * (S 23 ((2) * (p)))) + (S 23 (((2) * (p)) + (1))))) rfl ?_
        refine g_ast (q := 29) (n := 144) (i := ((12) * (S 23 (((2) * (p)) + (1)))) + (S 23 ((2) * (p)))) (a := (va_up w (((12) * (S 23 ((2) * (p)))) + (S 23 (((2) * (p)) + (1)))) (S 25 (p))) (((12) * (S 23 ((2) * (p)))) + (S 23 (((2) * (p)) + (1))))) K rfl (by decide) (by omega) dX6_connect_141 ?_
        refine g_cast (S' := (va_up S 29 (va_up (va_up w (((12) * (S 23 ((2) * (p)))) + (S 23 (((2) * (p)) + (1)))) (S 25 (p))) (((12) * (S 23 (((2) * (p)) + (1)))) + (S 23 ((2) * (p)))) ((va_up w (((12) * (S 23 ((2) * (p)))) + (S 23 (((2) * (p)) + (1)))) (S 25 (p))) (((12) * (S 23 ((2) * (p)))) + (S 23 (((2) * (p)) + (1)))))))) rfl rfl (gup_w1a) ?_
        refine g_iinc (a := p) (b := p + 1) (lo' := [(1, .int (nI (p + 1))), (3, .int (nI (((12) * (S 23 (((2) * (p)) + (1)))) + (S 23 ((2) * (p)))))), (2, .int (nI (((12) * (S 23 ((2) * (p)))) + (S 23 (((2) * (p)) + (1)))))), (0, .ref (g_ad X 22))]) K 3 dX6_connect_142 rfl (gi_inc _) (by decide) rfl ?_
        refine g_goto (tgt := 40) K dX6_connect_145 (by decide) ?_
        refine g_loc (lo' := [(0, .ref (g_ad X 22)), (1, .int (nI (p + 1)))]) [3, 0] rfl ?_
        exact ih (p + 1) (va_up (va_up w (((12) * (S 23 ((2) * (p)))) + (S 23 (((2) * (p)) + (1)))) (S 25 (p))) (((12) * (S 23 (((2) * (p)) + (1)))) + (S 23 ((2) * (p)))) ((va_up w (((12) * (S 23 ((2) * (p)))) + (S 23 (((2) * (p)) + (1)))) (S 25 (p))) (((12) * (S 23 ((2) * (p)))) + (S 23 (((2) * (p)) + (1)))))) (by omega) (by have q9 := fPipeC_le hm p w hB; rwa [show fPipeC S p w = va_up (va_up w (((12) * (S 23 ((2) * (p)))) + (S 23 (((2) * (p)) + (1)))) (S 25 (p))) (((12) * (S 23 (((2) * (p)) + (1)))) + (S 23 ((2) * (p)))) ((va_up w (((12) * (S 23 ((2) * (p)))) + (S 23 (((2) * (p)) + (1)))) (S 25 (p))) (((12) * (S 23 ((2) * (p)))) + (S 23 (((2) * (p)) + (1))))) from by unfold fPipeC relC; (first | rw [if_pos h111_7] | rw [if_neg (Nat.not_lt.mpr h111_7)])] at q9) (by rw [gfor_succ, show (fPipeC S) p w = va_up (va_up w (((12) * (S 23 ((2) * (p)))) + (S 23 (((2) * (p)) + (1)))) (S 25 (p))) (((12) * (S 23 (((2) * (p)) + (1)))) + (S 23 ((2) * (p)))) ((va_up w (((12) * (S 23 ((2) * (p)))) + (S 23 (((2) * (p)) + (1)))) (S 25 (p))) (((12) * (S 23 ((2) * (p)))) + (S 23 (((2) * (p)) + (1))))) from by unfold fPipeC relC; (first | rw [if_pos h111_7] | rw [if_neg (Nat.not_lt.mpr h111_7)])] at kk; exact kk)

set_option maxHeartbeats 4000000 in
set_option maxRecDepth 100000 in
theorem L_cc (X : gC) (S : Nat → Nat → Nat) (m : Nat) (K : gOk X cX6_connect 4 wsX6_connect RX6) (hRf : 0 ≤ (g_R X).frames) (hRl : 0 ≤ (g_R X).locals) (hmm : m < 12) : ∀ (k i : Nat) (w : Nat → Nat), i + k = 144 → (leB 144 1000000 w) → gG X 229 [(0, .ref (g_ad X 22)), (1, .int (nI (m))), (2, .int (nI (144)))] [] (va_up S 29 (((gfor (fCellC m) k i w)))) → gG X 160 [(0, .ref (g_ad X 22)), (1, .int (nI (m))), (2, .int (nI (i)))] [] (va_up S 29 (w)) := by
  have hin6 : ∀ w ∈ u_ws RX6 TX6 17, w ∈ wsX6_connect := by decide +kernel
  intro k
  induction k with
  | zero =>
    intro i w hj hB kk
    have hj : i = 144 := by omega
    refine g_iload_n K 2 dX6_connect_160 rfl ?_
    refine g_sipush K 144 dX6_connect_161 (by decide +kernel) ?_
    refine g_icmp_ge (tgt := 229) (a := i) (b := 144) K dX6_connect_164 (by decide) (by omega) (by omega) (fun h164_1 => ?_) (fun h164_1 => ?_)
    · refine g_loc (lo' := [(0, .ref (g_ad X 22)), (1, .int (nI (m))), (2, .int (nI (i)))]) [0, 1, 2] rfl ?_
      exact g_cast (by first | rfl | (rw [hj]; done) | (rw [hj]; rfl)) rfl rfl kk
    · exact absurd h164_1 (by omega)
  | succ k ih =>
    intro i w hj hB kk
    refine g_iload_n K 2 dX6_connect_160 rfl ?_
    refine g_sipush K 144 dX6_connect_161 (by decide +kernel) ?_
    refine g_icmp_ge (tgt := 229) (a := i) (b := 144) K dX6_connect_164 (by decide) (by omega) (by omega) (fun h164_1 => ?_) (fun h164_1 => ?_)
    · exact absurd h164_1 (by omega)
    · refine g_aload_n K 0 dX6_connect_167 rfl ?_
      refine g_getR (q' := 29) (q := 22) (ci := 6) (k := 13) (N := 17) (C := RX6) (T := TX6) (ref := "ValveWalkModel") K rfl rfl rfl (by decide) hin6 (by decide +kernel) rfl dX6_connect_168 ?_
      refine g_iload_n K 2 dX6_connect_171 rfl ?_
      refine g_bipush K 12 dX6_connect_172 (by decide +kernel) ?_
      refine g_idiv (a := i) (b := 12) K (by omega) (by omega) (by omega) dX6_connect_174 ?_
      refine g_bipush K 12 dX6_connect_175 (by decide +kernel) ?_
      refine g_imul (a := (i) / (12)) (b := 12) K dX6_connect_177 ?_
      refine g_iload_n K 1 dX6_connect_178 rfl ?_
      refine g_iadd (a := ((i) / (12)) * (12)) (b := m) K dX6_connect_179 ?_
      refine g_ald (q := 29) (n := 144) (i := (((i) / (12)) * (12)) + (m)) K rfl (by decide) (by omega) dX6_connect_180 ?_
      refine g_topE (w ((((i) / (12)) * (12)) + (m))) rfl ?_
      refine g_aload_n K 0 dX6_connect_181 rfl ?_
      refine g_getR (q' := 29) (q := 22) (ci := 6) (k := 13) (N := 17) (C := RX6) (T := TX6) (ref := "ValveWalkModel") K rfl rfl rfl (by decide) hin6 (by decide +kernel) rfl dX6_connect_182 ?_
      refine g_bipush K 12 dX6_connect_185 (by decide +kernel) ?_
      refine g_iload_n K 1 dX6_connect_187 rfl ?_
      refine g_imul (a := 12) (b := m) K dX6_connect_188 ?_
      refine g_iload_n K 2 dX6_connect_189 rfl ?_
      refine g_bipush K 12 dX6_connect_190 (by decide +kernel) ?_
      refine g_irem (a := i) (b := 12) K (by omega) (by omega) (by omega) dX6_connect_192 ?_
      refine g_iadd (a := (12) * (m)) (b := (i) % (12)) K dX6_connect_193 ?_
      refine g_ald (q := 29) (n := 144) (i := ((12) * (m)) + ((i) % (12))) K rfl (by decide) (by omega) dX6_connect_194 ?_
      refine g_topE (w (((12) * (m)) + ((i) % (12)))) rfl ?_
      refine g_iadd (a := w ((((i) / (12)) * (12)) + (m))) (b := w (((12) * (m)) + ((i) % (12)))) K dX6_connect_195 ?_
      refine g_istore_n (lo' := [(3, .int (nI ((w ((((i) / (12)) * (12)) + (m))) + (w (((12) * (m)) + ((i) % (12))))))), (0, .ref (g_ad X 22)), (1, .int (nI (m))), (2, .int (nI (i)))]) K dX6_connect_196 (by decide) rfl ?_
      have hx := hB (i / 12 * 12 + m) (by omega)
      have hy := hB (12 * m + i % 12) (by omega)
      have hz := hB i (by omega)
      refine g_aload_n K 1 dX6_connect_197 rfl ?_
      refine g_getR (q' := 29) (q := 22) (ci := 6) (k := 13) (N := 17) (C := RX6) (T := TX6) (ref := "ValveWalkModel") K rfl rfl rfl (by decide) hin6 (by decide +kernel) rfl dX6_connect_198 ?_
      refine g_iload_n K 3 dX6_connect_201 rfl ?_
      refine g_iload_n K 0 dX6_connect_202 rfl ?_
      refine g_aload_n K 1 dX6_connect_203 rfl ?_
      refine g_getR (q' := 29) (q := 22) (ci := 6) (k := 13) (N := 17) (C := RX6) (T := TX6) (ref := "ValveWalkModel") K rfl rfl rfl (by decide) hin6 (by decide +kernel) rfl dX6_connect_204 ?_
      refine g_iload_n K 3 dX6_connect_207 rfl ?_
      refine g_ald (q := 29) (n := 144) (i := i) K rfl (by decide) (by omega) dX6_connect_208 ?_
      refine g_topE (w (i)) rfl ?_
      refine g_icmp_ge (tgt := 216) (a := (w ((((i) / (12)) * (12)) + (m))) + (w (((12) * (m)) + ((i) % (12))))) (b := w (i)) K dX6_connect_209 (by decide) (by omega) (by omega) (fun h209_2 => ?_) (fun h209_2 => ?_)
      · refine g_aload_n K 1 dX6_connect_216 rfl ?_
        refine g_getR (q' := 29) (q := 22) (ci := 6) (k := 13) (N := 17) (C := RX6) (T := TX6) (ref := "ValveWalkModel") K rfl rfl rfl (by decide) hin6 (by decide +kernel) rfl dX6_connect_217 ?_
        refine g_iload_n K 3 dX6_connect_220 rfl ?_
        refine g_ald (q := 29) (n := 144) (i := i) K rfl (by decide) (by omega) dX6_connect_221 ?_
        refine g_topE (w (i)) rfl ?_
        refine g_ast (q := 29) (n := 144) (i := i) (a := w (i)) K rfl (by decide) (by omega) dX6_connect_222 ?_
        refine g_cast (S' := (va_up S 29 (va_up w (i) (w (i))))) rfl rfl (gup_w1a) ?_
        refine g_iinc (a := i) (b := i + 1) (lo' := [(2, .int (nI (i + 1))), (3, .int (nI ((w ((((i) / (12)) * (12)) + (m))) + (w (((12) * (m)) + ((i) % (12))))))), (0, .ref (g_ad X 22)), (1, .int (nI (m)))]) K 3 dX6_connect_223 rfl (gi_inc _) (by decide) rfl ?_
        refine g_goto (tgt := 160) K dX6_connect_226 (by decide) ?_
        refine g_loc (lo' := [(0, .ref (g_ad X 22)), (1, .int (nI (m))), (2, .int (nI (i + 1)))]) [2, 3, 0] rfl ?_
        exact ih (i + 1) (va_up w (i) (w (i))) (by omega) (by have q9 := fCellC_le (m := m) (show i < 144 by omega) hB; rwa [show fCellC m i w = va_up w (i) (w (i)) from by unfold fCellC; (first | rw [if_pos h209_2] | rw [if_neg (Nat.not_lt.mpr h209_2)])] at q9) (by rw [gfor_succ, show (fCellC m) i w = va_up w (i) (w (i)) from by unfold fCellC; (first | rw [if_pos h209_2] | rw [if_neg (Nat.not_lt.mpr h209_2)])] at kk; exact kk)
      · refine g_iload_n K 0 dX6_connect_212 rfl ?_
        refine g_goto (tgt := 222) K dX6_connect_213 (by decide) ?_
        refine g_ast (q := 29) (n := 144) (i := i) (a := (w ((((i) / (12)) * (12)) + (m))) + (w (((12) * (m)) + ((i) % (12))))) K rfl (by decide) (by omega) dX6_connect_222 ?_
        refine g_cast (S' := (va_up S 29 (va_up w (i) ((w ((((i) / (12)) * (12)) + (m))) + (w (((12) * (m)) + ((i) % (12)))))))) rfl rfl (gup_w1a) ?_
        refine g_iinc (a := i) (b := i + 1) (lo' := [(2, .int (nI (i + 1))), (3, .int (nI ((w ((((i) / (12)) * (12)) + (m))) + (w (((12) * (m)) + ((i) % (12))))))), (0, .ref (g_ad X 22)), (1, .int (nI (m)))]) K 3 dX6_connect_223 rfl (gi_inc _) (by decide) rfl ?_
        refine g_goto (tgt := 160) K dX6_connect_226 (by decide) ?_
        refine g_loc (lo' := [(0, .ref (g_ad X 22)), (1, .int (nI (m))), (2, .int (nI (i + 1)))]) [2, 3, 0] rfl ?_
        exact ih (i + 1) (va_up w (i) ((w ((((i) / (12)) * (12)) + (m))) + (w (((12) * (m)) + ((i) % (12)))))) (by omega) (by have q9 := fCellC_le (m := m) (show i < 144 by omega) hB; rwa [show fCellC m i w = va_up w (i) ((w ((((i) / (12)) * (12)) + (m))) + (w (((12) * (m)) + ((i) % (12))))) from by unfold fCellC; (first | rw [if_pos h209_2] | rw [if_neg (Nat.not_lt.mpr h209_2)])] at q9) (by rw [gfor_succ, show (fCellC m) i w = va_up w (i) ((w ((((i) / (12)) * (12)) + (m))) + (w (((12) * (m)) + ((i) % (12))))) from by unfold fCellC; (first | rw [if_pos h209_2] | rw [if_neg (Nat.not_lt.mpr h209_2)])] at kk; exact kk)

set_option maxHeartbeats 4000000 in
set_option maxRecDepth 100000 in
theorem L_cm (X : gC) (S : Nat → Nat → Nat) (K : gOk X cX6_connect 4 wsX6_connect RX6) (hRf : 0 ≤ (g_R X).frames) (hRl : 0 ≤ (g_R X).locals) (hm : wfM S) : ∀ (k m : Nat) (w : Nat → Nat), m + k = S 22 1 → (leB 144 1000000 w) → gG X 235 [(0, .ref (g_ad X 22)), (1, .int (nI ((S 22 1))))] [] (va_up S 29 (((gfor (fMidC) k m w)))) → gG X 150 [(0, .ref (g_ad X 22)), (1, .int (nI (m)))] [] (va_up S 29 (w)) := by
  have hin6 : ∀ w ∈ u_ws RX6 TX6 17, w ∈ wsX6_connect := by decide +kernel
  obtain ⟨m1, m2, m3, m4, msh, mst, b23, b24, b25, b26, b27⟩ := id hm
  intro k
  induction k with
  | zero =>
    intro m w hj hB kk
    have hj : m = S 22 1 := by omega
    refine g_iload_n K 1 dX6_connect_150 rfl ?_
    refine g_aload_n K 0 dX6_connect_151 rfl ?_
    refine g_getI (q := 22) (ci := 6) (k := 1) (N := 17) (C := RX6) (T := TX6) (ref := "ValveWalkModel") K rfl rfl rfl (by decide) hin6 (by decide +kernel) rfl dX6_connect_152 ?_
    refine g_topE (S 22 1) rfl ?_
    refine g_icmp_ge (tgt := 235) (a := m) (b := S 22 1) K dX6_connect_155 (by decide) (by omega) (by omega) (fun h155_1 => ?_) (fun h155_1 => ?_)
    · refine g_loc (lo' := [(0, .ref (g_ad X 22)), (1, .int (nI (m)))]) [0, 1] rfl ?_
      exact g_cast (by first | rfl | (rw [hj]; done) | (rw [hj]; rfl)) rfl rfl kk
    · exact absurd h155_1 (by omega)
  | succ k ih =>
    intro m w hj hB kk
    refine g_iload_n K 1 dX6_connect_150 rfl ?_
    refine g_aload_n K 0 dX6_connect_151 rfl ?_
    refine g_getI (q := 22) (ci := 6) (k := 1) (N := 17) (C := RX6) (T := TX6) (ref := "ValveWalkModel") K rfl rfl rfl (by decide) hin6 (by decide +kernel) rfl dX6_connect_152 ?_
    refine g_topE (S 22 1) rfl ?_
    refine g_icmp_ge (tgt := 235) (a := m) (b := S 22 1) K dX6_connect_155 (by decide) (by omega) (by omega) (fun h155_1 => ?_) (fun h155_1 => ?_)
    · exact absurd h155_1 (by omega)
    · refine g_iconst K 0 dX6_connect_158 (by decide +kernel) ?_
      refine g_istore_n (lo' := [(2, .int (nI (0))), (0, .ref (g_ad X 22)), (1, .int (nI (m)))]) K dX6_connect_159 (by decide) rfl ?_
      refine g_loc (lo' := [(0, .ref (g_ad X 22)), (1, .int (nI (m))), (2, .int (nI (0)))]) [1, 2, 0] rfl ?_
      refine L_cc X S m K (Nat.le_trans (Nat.le_of_ble_eq_true rfl) hRf) (Nat.le_trans (Nat.le_of_ble_eq_true rfl) hRl) (by omega)  144 0 w (by omega) (hB) ?_
      refine g_iinc (a := m) (b := m + 1) (lo' := [(1, .int (nI (m + 1))), (0, .ref (g_ad X 22)), (2, .int (nI (144)))]) K 1 dX6_connect_229 rfl (gi_inc _) (by decide) rfl ?_
      refine g_goto (tgt := 150) K dX6_connect_232 (by decide) ?_
      refine g_loc (lo' := [(0, .ref (g_ad X 22)), (1, .int (nI (m + 1)))]) [1, 0] rfl ?_
      exact ih (m + 1) (((gfor (fCellC m) 144 0 w))) (by omega) (fMidC_le m w hB) kk

set_option maxHeartbeats 4000000 in
set_option maxRecDepth 100000 in
theorem cX6_connect_k (Z : gZ) (S : Nat → Nat → Nat) (hm : wfM S) : gMv Z yX6_connect wsX6_connect { frames := 0, cells := 0, slots := 0, locals := 0 } [.ref (gz_ad Z 22)] S (va_up S 29 (connM S)) := by
  refine gMv_of (cc := cX6_connect) (maxL := 4) (by decide +kernel) rfl (Nat.le_of_ble_eq_true rfl)  (fun X hZ hR K hret => ?_)
  subst hZ
  have K : gOk X cX6_connect 4 wsX6_connect RX6 := K
  have hRf : 0 ≤ (g_R X).frames := gR_f hR rfl
  have hRl : 0 ≤ (g_R X).locals := gR_l hR rfl
  have hin6 : ∀ w ∈ u_ws RX6 TX6 17, w ∈ wsX6_connect := by decide +kernel
  obtain ⟨m1, m2, m3, m4, msh, mst, b23, b24, b25, b26, b27⟩ := id hm
  show gG X 0 [(0, .ref (g_ad X 22))] [] S
  refine g_iconst K 0 dX6_connect_0 (by decide +kernel) ?_
  refine g_istore_n (lo' := [(1, .int (nI (0))), (0, .ref (g_ad X 22))]) K dX6_connect_1 (by decide) rfl ?_
  refine g_loc (lo' := [(0, .ref (g_ad X 22)), (1, .int (nI (0)))]) [1, 0] rfl ?_
  refine g_cast (S' := (va_up S 29 (S 29))) rfl rfl (up_id1 ..).symm ?_
  refine L_ci X S  K (Nat.le_trans (Nat.le_of_ble_eq_true rfl) hRf) (Nat.le_trans (Nat.le_of_ble_eq_true rfl) hRl)   144 0 (S 29) (by omega)  ?_
  refine g_iconst K 0 dX6_connect_38 (by decide +kernel) ?_
  refine g_istore_n (lo' := [(1, .int (nI (0))), (0, .ref (g_ad X 22))]) K dX6_connect_39 (by decide) rfl ?_
  refine g_loc (lo' := [(0, .ref (g_ad X 22)), (1, .int (nI (0)))]) [1, 0] rfl ?_
  refine L_cp X S  K (Nat.le_trans (Nat.le_of_ble_eq_true rfl) hRf) (Nat.le_trans (Nat.le_of_ble_eq_true rfl) hRl) (hm)  (S 22 2) 0 (gfor fInitC 144 0 (S 29)) (by omega) (initC_le _) ?_
  refine g_iconst K 0 dX6_connect_148 (by decide +kernel) ?_
  refine g_istore_n (lo' := [(1, .int (nI (0))), (0, .ref (g_ad X 22))]) K dX6_connect_149 (by decide) rfl ?_
  refine g_loc (lo' := [(0, .ref (g_ad X 22)), (1, .int (nI (0)))]) [1, 0] rfl ?_
  refine L_cm X S  K (Nat.le_trans (Nat.le_of_ble_eq_true rfl) hRf) (Nat.le_trans (Nat.le_of_ble_eq_true rfl) hRl) (hm)  (S 22 1) 0 (gfor (fPipeC S) (S 22 2) 0 (gfor fInitC 144 0 (S 29))) (by omega) (pipesC_le hm _ _ (initC_le _)) ?_
  exact g_retv hret dX6_connect_235 rfl

set_option maxHeartbeats 4000000 in
set_option maxRecDepth 100000 in
theorem L_wkd (X : gC) (S : Nat → Nat → Nat) (many : Nat) (K : gOk X cX6_walked 10 wsX6_walked RX6) (hRf : 0 ≤ (g_R X).frames) (hRl : 0 ≤ (g_R X).locals) (hB : leB 144 1000000 (S 29)) (ht : ∀ k, k < many → S 30 k < 12) (h6 : many ≤ 6) : ∀ (c j nd sum seen rest : Nat), j + c = many → nd < 12 → sum ≤ j * 1000000 → seen < 64 → rest < 2147483648 → (∀ (pc : Nat) (lo : List (Nat × Value)), decode cX6_walked pc = .ok (.ireturn, 1) → gG X pc lo [.int (nI (wkGo (S 29) (S 30) many c nd sum seen rest))] S) → gG X 15 [(0, .ref (g_ad X 22)), (2, .int (nI (many))), (4, .int (nI (nd))), (5, .int (nI (sum))), (6, .int (nI (seen))), (7, .int (nI (rest))), (8, .int (nI (j)))] [] S := by
  have hin6 : ∀ w ∈ u_ws RX6 TX6 17, w ∈ wsX6_walked := by decide +kernel

  intro c
  induction c with
  | zero =>
    intro j nd sum seen rest hj hn hsum hs hrest hret
    refine g_iload K 6 dX6_walked_15 rfl ?_
    refine g_iload_n K 1 dX6_walked_17 rfl ?_
    refine g_icmp_ge (tgt := 94) (a := j) (b := many) K dX6_walked_18 (by decide) (by omega) (by omega) (fun h18_1 => ?_) (fun h18_1 => ?_)
    · refine g_iload K 3 dX6_walked_94 rfl ?_
      exact hret _ _ dX6_walked_96
    · exact absurd h18_1 (by omega)
  | succ c ih =>
    intro j nd sum seen rest hj hn hsum hs hrest hret
    refine g_iload K 6 dX6_walked_15 rfl ?_
    refine g_iload_n K 1 dX6_walked_17 rfl ?_
    refine g_icmp_ge (tgt := 94) (a := j) (b := many) K dX6_walked_18 (by decide) (by omega) (by omega) (fun h18_1 => ?_) (fun h18_1 => ?_)
    · exact absurd h18_1 (by omega)
    · have hmr := Nat.mod_lt rest (show many > 0 by omega)
      have hr6 : rest % many < 6 := by omega
      have hdv := Nat.div_le_self rest many
      have htr := ht _ hmr
      have hwr := hB (12 * nd + S 30 (rest % many)) (by omega)
      refine g_iload K 5 dX6_walked_21 rfl ?_
      refine g_iload_n K 1 dX6_walked_23 rfl ?_
      refine g_irem (a := rest) (b := many) K (by omega) (by omega) (by omega) dX6_walked_24 ?_
      refine g_istore (lo' := [(9, .int (nI ((rest) % (many)))), (0, .ref (g_ad X 22)), (2, .int (nI (many))), (4, .int (nI (nd))), (5, .int (nI (sum))), (6, .int (nI (seen))), (7, .int (nI (rest))), (8, .int (nI (j)))]) K dX6_walked_25 (by decide) rfl ?_
      refine g_iload K 5 dX6_walked_27 rfl ?_
      refine g_iload K 0 dX6_walked_29 rfl ?_
      refine g_ishr (a := seen) (b := (rest) % (many)) K (by omega) (by omega) dX6_walked_31 ?_
      refine g_iconst K 1 dX6_walked_32 (by decide +kernel) ?_
      refine g_iand (a := (seen) >>> ((rest) % (many))) (b := 1) K dX6_walked_33 ?_
      have hL33_2 := @Nat.and_le_left ((seen) >>> ((rest) % (many))) (1)
      have hR33_3 := @Nat.and_le_right ((seen) >>> ((rest) % (many))) (1)
      refine g_iconst K 1 dX6_walked_34 (by decide +kernel) ?_
      refine g_icmp_ne (tgt := 41) (a := ((seen) >>> ((rest) % (many))) &&& (1)) (b := 1) K dX6_walked_35 (by decide) (by omega) (by omega) (fun h35_4 => ?_) (fun h35_4 => ?_)
      · refine g_iload K 5 dX6_walked_41 rfl ?_
        refine g_iconst K 1 dX6_walked_43 (by decide +kernel) ?_
        refine g_iload K 0 dX6_walked_44 rfl ?_
        refine g_ishl (a := 1) (b := (rest) % (many)) K (by omega) dX6_walked_46 ?_
        refine g_ior (a := seen) (b := (1) <<< ((rest) % (many))) K dX6_walked_47 ?_
        refine g_istore (lo' := [(6, .int (nI ((seen) ||| ((1) <<< ((rest) % (many)))))), (9, .int (nI ((rest) % (many)))), (0, .ref (g_ad X 22)), (2, .int (nI (many))), (4, .int (nI (nd))), (5, .int (nI (sum))), (7, .int (nI (rest))), (8, .int (nI (j)))]) K dX6_walked_48 (by decide) rfl ?_
        refine g_iload K 5 dX6_walked_50 rfl ?_
        refine g_aload_n K 2 dX6_walked_52 rfl ?_
        refine g_getR (q' := 29) (q := 22) (ci := 6) (k := 13) (N := 17) (C := RX6) (T := TX6) (ref := "ValveWalkModel") K rfl rfl rfl (by decide) hin6 (by decide +kernel) rfl dX6_walked_53 ?_
        refine g_bipush K 12 dX6_walked_56 (by decide +kernel) ?_
        refine g_iload K 4 dX6_walked_58 rfl ?_
        refine g_imul (a := 12) (b := nd) K dX6_walked_60 ?_
        refine g_aload_n K 2 dX6_walked_61 rfl ?_
        refine g_getR (q' := 30) (q := 22) (ci := 6) (k := 14) (N := 17) (C := RX6) (T := TX6) (ref := "ValveWalkModel") K rfl rfl rfl (by decide) hin6 (by decide +kernel) rfl dX6_walked_62 ?_
        refine g_iload K 1 dX6_walked_65 rfl ?_
        refine g_ald (q := 30) (n := 6) (i := (rest) % (many)) K rfl (by decide) (by omega) dX6_walked_67 ?_
        refine g_iadd (a := (12) * (nd)) (b := S 30 ((rest) % (many))) K dX6_walked_68 ?_
        refine g_ald (q := 29) (n := 144) (i := ((12) * (nd)) + (S 30 ((rest) % (many)))) K rfl (by decide) (by omega) dX6_walked_69 ?_
        refine g_iadd (a := sum) (b := S 29 (((12) * (nd)) + (S 30 ((rest) % (many))))) K dX6_walked_70 ?_
        refine g_istore (lo' := [(5, .int (nI ((sum) + (S 29 (((12) * (nd)) + (S 30 ((rest) % (many)))))))), (6, .int (nI ((seen) ||| ((1) <<< ((rest) % (many)))))), (9, .int (nI ((rest) % (many)))), (0, .ref (g_ad X 22)), (2, .int (nI (many))), (4, .int (nI (nd))), (7, .int (nI (rest))), (8, .int (nI (j)))]) K dX6_walked_71 (by decide) rfl ?_
        refine g_aload_n K 3 dX6_walked_73 rfl ?_
        refine g_getR (q' := 30) (q := 22) (ci := 6) (k := 14) (N := 17) (C := RX6) (T := TX6) (ref := "ValveWalkModel") K rfl rfl rfl (by decide) hin6 (by decide +kernel) rfl dX6_walked_74 ?_
        refine g_iload K 2 dX6_walked_77 rfl ?_
        refine g_ald (q := 30) (n := 6) (i := (rest) % (many)) K rfl (by decide) (by omega) dX6_walked_79 ?_
        refine g_istore (lo' := [(4, .int (nI (S 30 ((rest) % (many))))), (5, .int (nI ((sum) + (S 29 (((12) * (nd)) + (S 30 ((rest) % (many)))))))), (6, .int (nI ((seen) ||| ((1) <<< ((rest) % (many)))))), (9, .int (nI ((rest) % (many)))), (0, .ref (g_ad X 22)), (2, .int (nI (many))), (7, .int (nI (rest))), (8, .int (nI (j)))]) K dX6_walked_80 (by decide) rfl ?_
        refine g_iload K 6 dX6_walked_82 rfl ?_
        refine g_iload_n K 5 dX6_walked_84 rfl ?_
        refine g_idiv (a := rest) (b := many) K (by omega) (by omega) (by omega) dX6_walked_85 ?_
        refine g_istore (lo' := [(7, .int (nI ((rest) / (many)))), (4, .int (nI (S 30 ((rest) % (many))))), (5, .int (nI ((sum) + (S 29 (((12) * (nd)) + (S 30 ((rest) % (many)))))))), (6, .int (nI ((seen) ||| ((1) <<< ((rest) % (many)))))), (9, .int (nI ((rest) % (many)))), (0, .ref (g_ad X 22)), (2, .int (nI (many))), (8, .int (nI (j)))]) K dX6_walked_86 (by decide) rfl ?_
        refine g_iinc (a := j) (b := j + 1) (lo' := [(8, .int (nI (j + 1))), (7, .int (nI ((rest) / (many)))), (4, .int (nI (S 30 ((rest) % (many))))), (5, .int (nI ((sum) + (S 29 (((12) * (nd)) + (S 30 ((rest) % (many)))))))), (6, .int (nI ((seen) ||| ((1) <<< ((rest) % (many)))))), (9, .int (nI ((rest) % (many)))), (0, .ref (g_ad X 22)), (2, .int (nI (many)))]) K 7 dX6_walked_88 rfl (gi_inc _) (by decide) rfl ?_
        refine g_goto (tgt := 15) K dX6_walked_91 (by decide) ?_
        refine g_loc (lo' := [(0, .ref (g_ad X 22)), (2, .int (nI (many))), (4, .int (nI (S 30 ((rest) % (many))))), (5, .int (nI ((sum) + (S 29 (((12) * (nd)) + (S 30 ((rest) % (many)))))))), (6, .int (nI ((seen) ||| ((1) <<< ((rest) % (many)))))), (7, .int (nI ((rest) / (many)))), (8, .int (nI (j + 1)))]) [6, 7, 2, 3, 4, 1, 0] rfl ?_
        exact ih (j + 1) (S 30 ((rest) % (many))) ((sum) + (S 29 (((12) * (nd)) + (S 30 ((rest) % (many)))))) ((seen) ||| ((1) <<< ((rest) % (many)))) ((rest) / (many)) (by omega) htr (by omega) (Nat.or_lt_two_pow (n := 6) hs (Nat.lt_of_lt_of_le (shl1 hr6) (by decide))) (by omega) (fun pc lo hd => by have q := hret pc lo hd; rw [wkGo_neg (by assumption)] at q; exact q)
      · refine g_ldc (w := 1000000) K 1000000 (K.1.2.2.2.2 _ (by decide +kernel)) (by decide +kernel) dX6_walked_38 ?_
        exact (by rw [wkGo_pos (by assumption)] at hret; exact hret _ _ dX6_walked_40)

set_option maxHeartbeats 4000000 in
set_option maxRecDepth 100000 in
theorem cX6_walked_k (Z : gZ) (S : Nat → Nat → Nat) (nd many code : Nat) (hB : leB 144 1000000 (S 29)) (ht : ∀ k, k < many → S 30 k < 12) (h6 : many ≤ 6) (hn : nd < 12) (hcode : code < 2147483648) : gMd Z yX6_walked wsX6_walked { frames := 0, cells := 0, slots := 0, locals := 0 } [.ref (gz_ad Z 22), .int (nI (nd)), .int (nI (many)), .int (nI (code))] S (walkedF (S 29) (S 30) nd many code) (S) := by
  refine gMd_of (cc := cX6_walked) (maxL := 10) (ret := (some .int)) (by decide +kernel) rfl (Nat.le_of_ble_eq_true rfl) (Or.inl rfl) (fun X hZ hR K hret => ?_)
  subst hZ
  have K : gOk X cX6_walked 10 wsX6_walked RX6 := K
  have hRf : 0 ≤ (g_R X).frames := gR_f hR rfl
  have hRl : 0 ≤ (g_R X).locals := gR_l hR rfl
  have hin6 : ∀ w ∈ u_ws RX6 TX6 17, w ∈ wsX6_walked := by decide +kernel
 
  show gG X 0 [(0, .ref (g_ad X 22)), (1, .int (nI (nd))), (2, .int (nI (many))), (3, .int (nI (code)))] [] S
  refine g_iload_n K 1 dX6_walked_0 rfl ?_
  refine g_istore (lo' := [(4, .int (nI (nd))), (0, .ref (g_ad X 22)), (1, .int (nI (nd))), (2, .int (nI (many))), (3, .int (nI (code)))]) K dX6_walked_1 (by decide) rfl ?_
  refine g_iconst K 0 dX6_walked_3 (by decide +kernel) ?_
  refine g_istore (lo' := [(5, .int (nI (0))), (4, .int (nI (nd))), (0, .ref (g_ad X 22)), (1, .int (nI (nd))), (2, .int (nI (many))), (3, .int (nI (code)))]) K dX6_walked_4 (by decide) rfl ?_
  refine g_iconst K 0 dX6_walked_6 (by decide +kernel) ?_
  refine g_istore (lo' := [(6, .int (nI (0))), (5, .int (nI (0))), (4, .int (nI (nd))), (0, .ref (g_ad X 22)), (1, .int (nI (nd))), (2, .int (nI (many))), (3, .int (nI (code)))]) K dX6_walked_7 (by decide) rfl ?_
  refine g_iload_n K 6 dX6_walked_9 rfl ?_
  refine g_istore (lo' := [(7, .int (nI (code))), (6, .int (nI (0))), (5, .int (nI (0))), (4, .int (nI (nd))), (0, .ref (g_ad X 22)), (1, .int (nI (nd))), (2, .int (nI (many))), (3, .int (nI (code)))]) K dX6_walked_10 (by decide) rfl ?_
  refine g_iconst K 0 dX6_walked_12 (by decide +kernel) ?_
  refine g_istore (lo' := [(8, .int (nI (0))), (7, .int (nI (code))), (6, .int (nI (0))), (5, .int (nI (0))), (4, .int (nI (nd))), (0, .ref (g_ad X 22)), (1, .int (nI (nd))), (2, .int (nI (many))), (3, .int (nI (code)))]) K dX6_walked_13 (by decide) rfl ?_
  refine g_loc (lo' := [(0, .ref (g_ad X 22)), (2, .int (nI (many))), (4, .int (nI (nd))), (5, .int (nI (0))), (6, .int (nI (0))), (7, .int (nI (code))), (8, .int (nI (0)))]) [5, 7, 4, 3, 2, 1, 0] rfl ?_
  exact L_wkd X S many K (Nat.le_trans (Nat.le_of_ble_eq_true rfl) hRf) (Nat.le_trans (Nat.le_of_ble_eq_true rfl) hRl) hB ht h6 many 0 nd 0 0 code (by omega) hn (by decide) (by decide) hcode (fun pc lo hd => g_retd hret hd rfl rfl)

set_option maxHeartbeats 4000000 in
set_option maxRecDepth 100000 in
theorem L_wst (X : gC) (S : Nat → Nat → Nat) (n : Nat) (a : Nat) (K : gOk X cX6_walk 9 wsX6_walk RX6) (hRf : 0 ≤ (g_R X).frames) (hRl : 0 ≤ (g_R X).locals) (hm : wfM S) (ha : a < 4096) (hp : popM a ≤ 6) : ∀ (k v : Nat) (c : Nat) (t : Nat → Nat), v + k = S 22 3 → (c = cntB a v) → gG X 112 [(0, .ref (g_ad X 22)), (1, .int (nI (n))), (2, .int (nI (a))), (4, .int (nI (((gfor (fStopM S a) k v (c, t)).1)))), (5, .int (nI ((S 22 3))))] [] (va_up (va_up S 22 (va_up (S 22) 0 (0))) 30 (((gfor (fStopM S a) k v (c, t)).2))) → gG X 65 [(0, .ref (g_ad X 22)), (1, .int (nI (n))), (2, .int (nI (a))), (4, .int (nI (c))), (5, .int (nI (v)))] [] (va_up (va_up S 22 (va_up (S 22) 0 (0))) 30 (t)) := by
  have hin6 : ∀ w ∈ u_ws RX6 TX6 17, w ∈ wsX6_walk := by decide +kernel
  obtain ⟨m1, m2, m3, m4, msh, mst, b23, b24, b25, b26, b27⟩ := id hm
  intro k
  induction k with
  | zero =>
    intro v c t hj hc kk
    have hj : v = S 22 3 := by omega
    refine g_iload K 4 dX6_walk_65 rfl ?_
    refine g_aload_n K 0 dX6_walk_67 rfl ?_
    refine g_getI (q := 22) (ci := 6) (k := 3) (N := 17) (C := RX6) (T := TX6) (ref := "ValveWalkModel") K rfl rfl rfl (by decide) hin6 (by decide +kernel) rfl dX6_walk_68 ?_
    refine g_topE (S 22 3) rfl ?_
    refine g_icmp_ge (tgt := 112) (a := v) (b := S 22 3) K dX6_walk_71 (by decide) (by omega) (by omega) (fun h71_1 => ?_) (fun h71_1 => ?_)
    · refine g_loc (lo' := [(0, .ref (g_ad X 22)), (1, .int (nI (n))), (2, .int (nI (a))), (4, .int (nI (c))), (5, .int (nI (v)))]) [0, 1, 2, 3, 4] rfl ?_
      exact g_cast (by first | rfl | (rw [hj]; done) | (rw [hj]; rfl)) rfl rfl kk
    · exact absurd h71_1 (by omega)
  | succ k ih =>
    intro v c t hj hc kk
    refine g_iload K 4 dX6_walk_65 rfl ?_
    refine g_aload_n K 0 dX6_walk_67 rfl ?_
    refine g_getI (q := 22) (ci := 6) (k := 3) (N := 17) (C := RX6) (T := TX6) (ref := "ValveWalkModel") K rfl rfl rfl (by decide) hin6 (by decide +kernel) rfl dX6_walk_68 ?_
    refine g_topE (S 22 3) rfl ?_
    refine g_icmp_ge (tgt := 112) (a := v) (b := S 22 3) K dX6_walk_71 (by decide) (by omega) (by omega) (fun h71_1 => ?_) (fun h71_1 => ?_)
    · exact absurd h71_1 (by omega)
    · refine g_iload_n K 2 dX6_walk_74 rfl ?_
      refine g_iload K 4 dX6_walk_75 rfl ?_
      refine g_ishr (a := a) (b := v) K (by omega) (by omega) dX6_walk_77 ?_
      refine g_iconst K 1 dX6_walk_78 (by decide +kernel) ?_
      refine g_iand (a := (a) >>> (v)) (b := 1) K dX6_walk_79 ?_
      have hL79_2 := @Nat.and_le_left ((a) >>> (v)) (1)
      have hR79_3 := @Nat.and_le_right ((a) >>> (v)) (1)
      refine g_iconst K 1 dX6_walk_80 (by decide +kernel) ?_
      refine g_icmp_ne (tgt := 106) (a := ((a) >>> (v)) &&& (1)) (b := 1) K dX6_walk_81 (by decide) (by omega) (by omega) (fun h81_4 => ?_) (fun h81_4 => ?_)
      · refine g_iinc (a := v) (b := v + 1) (lo' := [(5, .int (nI (v + 1))), (0, .ref (g_ad X 22)), (1, .int (nI (n))), (2, .int (nI (a))), (4, .int (nI (c)))]) K 4 dX6_walk_106 rfl (gi_inc _) (by decide) rfl ?_
        refine g_goto (tgt := 65) K dX6_walk_109 (by decide) ?_
        refine g_loc (lo' := [(0, .ref (g_ad X 22)), (1, .int (nI (n))), (2, .int (nI (a))), (4, .int (nI (c))), (5, .int (nI (v + 1)))]) [1, 2, 3, 4, 0] rfl ?_
        exact ih (v + 1) c t (by omega) (by have hb9 := @Nat.and_le_right (a >>> v) 1; rw [show cntB a (v + 1) = cntB a v + ((a >>> v) &&& 1) from rfl]; omega) (by rw [gfor_succ, show (fStopM S a) v (c, t) = (c, t) from by unfold fStopM; first | rw [if_pos (by assumption)] | rw [if_neg (by assumption)]] at kk; exact kk)
      · have hle := cntB_le (v := v + 1) ha (by omega)
        have hle2 : cntB a v + ((a >>> v) &&& 1) ≤ popM a := hle
        refine g_aload_n K 0 dX6_walk_84 rfl ?_
        refine g_getR (q' := 30) (q := 22) (ci := 6) (k := 14) (N := 17) (C := RX6) (T := TX6) (ref := "ValveWalkModel") K rfl rfl rfl (by decide) hin6 (by decide +kernel) rfl dX6_walk_85 ?_
        refine g_iload K 3 dX6_walk_88 rfl ?_
        refine g_aload_n K 0 dX6_walk_90 rfl ?_
        refine g_getR (q' := 23) (q := 22) (ci := 6) (k := 5) (N := 17) (C := RX6) (T := TX6) (ref := "ValveWalkModel") K rfl rfl rfl (by decide) hin6 (by decide +kernel) rfl dX6_walk_91 ?_
        refine g_aload_n K 0 dX6_walk_94 rfl ?_
        refine g_getR (q' := 27) (q := 22) (ci := 6) (k := 9) (N := 17) (C := RX6) (T := TX6) (ref := "ValveWalkModel") K rfl rfl rfl (by decide) hin6 (by decide +kernel) rfl dX6_walk_95 ?_
        refine g_iload K 4 dX6_walk_98 rfl ?_
        refine g_ald (q := 27) (n := 12) (i := v) K rfl (by decide) (by omega) dX6_walk_100 ?_
        refine g_topE (S 27 (v)) rfl ?_
        have hv100_5 := b27 (v)
        refine g_ald (q := 23) (n := 32) (i := S 27 (v)) K rfl (by decide) (by omega) dX6_walk_101 ?_
        refine g_topE (S 23 (S 27 (v))) rfl ?_
        have hv101_6 := b23 (S 27 (v))
        refine g_ast (q := 30) (n := 6) (i := c) (a := S 23 (S 27 (v))) K rfl (by decide) (by omega) dX6_walk_102 ?_
        refine g_cast (S' := (va_up (va_up S 22 (va_up (S 22) 0 (0))) 30 (va_up t (c) (S 23 (S 27 (v)))))) rfl rfl (gup_w2b (by decide)) ?_
        refine g_iinc (a := c) (b := c + 1) (lo' := [(4, .int (nI (c + 1))), (0, .ref (g_ad X 22)), (1, .int (nI (n))), (2, .int (nI (a))), (5, .int (nI (v)))]) K 3 dX6_walk_103 rfl (gi_inc _) (by decide) rfl ?_
        refine g_iinc (a := v) (b := v + 1) (lo' := [(5, .int (nI (v + 1))), (4, .int (nI (c + 1))), (0, .ref (g_ad X 22)), (1, .int (nI (n))), (2, .int (nI (a)))]) K 4 dX6_walk_106 rfl (gi_inc _) (by decide) rfl ?_
        refine g_goto (tgt := 65) K dX6_walk_109 (by decide) ?_
        refine g_loc (lo' := [(0, .ref (g_ad X 22)), (1, .int (nI (n))), (2, .int (nI (a))), (4, .int (nI (c + 1))), (5, .int (nI (v + 1)))]) [2, 3, 4, 1, 0] rfl ?_
        exact ih (v + 1) (c + 1) (va_up t (c) (S 23 (S 27 (v)))) (by omega) (by have hb9 := @Nat.and_le_right (a >>> v) 1; rw [show cntB a (v + 1) = cntB a v + ((a >>> v) &&& 1) from rfl]; omega) (by rw [gfor_succ, show (fStopM S a) v (c, t) = (c + 1, va_up t (c) (S 23 (S 27 (v)))) from by unfold fStopM; first | rw [if_pos (by assumption)] | rw [if_neg (by assumption)]] at kk; exact kk)

set_option maxHeartbeats 4000000 in
set_option maxRecDepth 100000 in
theorem L_wpow (X : gC) (S : Nat → Nat → Nat) (n : Nat) (many : Nat) (K : gOk X cX6_walk 9 wsX6_walk RX6) (hRf : 0 ≤ (g_R X).frames) (hRl : 0 ≤ (g_R X).locals) (h6 : many ≤ 6) : ∀ (k j : Nat) (c : Nat), j + k = many → gG X 142 [(0, .ref (g_ad X 22)), (1, .int (nI (n))), (4, .int (nI (many))), (5, .int (nI (((gfor (fPowM many) k j c))))), (6, .int (nI (many)))] [] S → gG X 122 [(0, .ref (g_ad X 22)), (1, .int (nI (n))), (4, .int (nI (many))), (5, .int (nI (c))), (6, .int (nI (j)))] [] S := by
  have hin6 : ∀ w ∈ u_ws RX6 TX6 17, w ∈ wsX6_walk := by decide +kernel
  intro k
  induction k with
  | zero =>
    intro j c hj kk
    have hj : j = many := by omega
    refine g_iload K 4 dX6_walk_122 rfl ?_
    refine g_iload K 2 dX6_walk_124 rfl ?_
    refine g_icmp_ge (tgt := 142) (a := j) (b := many) K dX6_walk_126 (by decide) (by omega) (by omega) (fun h126_1 => ?_) (fun h126_1 => ?_)
    · refine g_loc (lo' := [(0, .ref (g_ad X 22)), (1, .int (nI (n))), (4, .int (nI (many))), (5, .int (nI (c))), (6, .int (nI (j)))]) [0, 1, 2, 3, 4] rfl ?_
      exact g_cast (by first | rfl | (rw [hj]; done) | (rw [hj]; rfl)) rfl rfl kk
    · exact absurd h126_1 (by omega)
  | succ k ih =>
    intro j c hj kk
    refine g_iload K 4 dX6_walk_122 rfl ?_
    refine g_iload K 2 dX6_walk_124 rfl ?_
    refine g_icmp_ge (tgt := 142) (a := j) (b := many) K dX6_walk_126 (by decide) (by omega) (by omega) (fun h126_1 => ?_) (fun h126_1 => ?_)
    · exact absurd h126_1 (by omega)
    · refine g_iload K 3 dX6_walk_129 rfl ?_
      refine g_iload K 2 dX6_walk_131 rfl ?_
      refine g_imul (a := c) (b := many) K dX6_walk_133 ?_
      refine g_istore (lo' := [(5, .int (nI ((c) * (many)))), (0, .ref (g_ad X 22)), (1, .int (nI (n))), (4, .int (nI (many))), (6, .int (nI (j)))]) K dX6_walk_134 (by decide) rfl ?_
      refine g_iinc (a := j) (b := j + 1) (lo' := [(6, .int (nI (j + 1))), (5, .int (nI ((c) * (many)))), (0, .ref (g_ad X 22)), (1, .int (nI (n))), (4, .int (nI (many)))]) K 4 dX6_walk_136 rfl (gi_inc _) (by decide) rfl ?_
      refine g_goto (tgt := 122) K dX6_walk_139 (by decide) ?_
      refine g_loc (lo' := [(0, .ref (g_ad X 22)), (1, .int (nI (n))), (4, .int (nI (many))), (5, .int (nI ((c) * (many)))), (6, .int (nI (j + 1)))]) [2, 3, 4, 1, 0] rfl ?_
      exact ih (j + 1) ((c) * (many)) (by omega)  kk

set_option maxHeartbeats 4000000 in
set_option maxRecDepth 100000 in
theorem L_wco (X : gC) (S : Nat → Nat → Nat) (n : Nat) (many : Nat) (cs : Nat) (w : Nat → Nat) (t : Nat → Nat) (K : gOk X cX6_walk 9 wsX6_walk RX6) (hRf : 1 ≤ (g_R X).frames) (hRl : 29 ≤ (g_R X).locals) (hB : leB 144 1000000 w) (ht : ∀ k, k < many → t k < 12) (h6 : many ≤ 6) (hn : n < 12) (hcs : cs ≤ 46656) : ∀ (k code : Nat) (l : Nat), code + k = cs → (l ≤ 1000000) → gG X 189 [(0, .ref (g_ad X 22)), (1, .int (nI (n))), (4, .int (nI (many))), (5, .int (nI (cs))), (6, .int (nI (((gfor (fLeastM w t n many) k code l))))), (7, .int (nI (cs)))] [] (va_up (va_up (va_up S 22 (va_up (S 22) 0 (0))) 30 (t)) 29 (w)) → gG X 149 [(0, .ref (g_ad X 22)), (1, .int (nI (n))), (4, .int (nI (many))), (5, .int (nI (cs))), (6, .int (nI (l))), (7, .int (nI (code)))] [] (va_up (va_up (va_up S 22 (va_up (S 22) 0 (0))) 30 (t)) 29 (w)) := by
  have hin6 : ∀ w ∈ u_ws RX6 TX6 17, w ∈ wsX6_walk := by decide +kernel
  intro k
  induction k with
  | zero =>
    intro code l hj hl kk
    have hj : code = cs := by omega
    refine g_iload K 5 dX6_walk_149 rfl ?_
    refine g_iload K 3 dX6_walk_151 rfl ?_
    refine g_icmp_ge (tgt := 189) (a := code) (b := cs) K dX6_walk_153 (by decide) (by omega) (by omega) (fun h153_1 => ?_) (fun h153_1 => ?_)
    · refine g_loc (lo' := [(0, .ref (g_ad X 22)), (1, .int (nI (n))), (4, .int (nI (many))), (5, .int (nI (cs))), (6, .int (nI (l))), (7, .int (nI (code)))]) [0, 1, 2, 3, 4, 5] rfl ?_
      exact g_cast (by first | rfl | (rw [hj]; done) | (rw [hj]; rfl)) rfl rfl kk
    · exact absurd h153_1 (by omega)
  | succ k ih =>
    intro code l hj hl kk
    refine g_iload K 5 dX6_walk_149 rfl ?_
    refine g_iload K 3 dX6_walk_151 rfl ?_
    refine g_icmp_ge (tgt := 189) (a := code) (b := cs) K dX6_walk_153 (by decide) (by omega) (by omega) (fun h153_1 => ?_) (fun h153_1 => ?_)
    · exact absurd h153_1 (by omega)
    · refine g_aload_n K 0 dX6_walk_156 rfl ?_
      refine g_iload_n K 1 dX6_walk_157 rfl ?_
      refine g_iload K 2 dX6_walk_158 rfl ?_
      refine g_iload K 5 dX6_walk_160 rfl ?_
      refine g_callVd (q := 22) (ci := 6) (As := [.int (nI (n)), .int (nI (many)), .int (nI (code))]) (rest := []) (C := RX6) (T := TX6) (N := 17) K (cX6_walked_k (g_z X) (va_up (va_up (va_up S 22 (va_up (S 22) 0 (0))) 30 (t)) 29 (w)) n many code (hB) (ht) (h6) (by omega) (by omega)) (cwV 3 K.1.2.2.2.2 gX6_walk_X6_walked rfl rfl rfl (by decide +kernel) ⟨Nat.le_trans (Nat.le_of_ble_eq_true rfl) hRf, Nat.le_trans (Nat.le_of_ble_eq_true rfl) hRl⟩) rfl rfl rfl rfl (Nat.le_of_ble_eq_true rfl) dX6_walk_162 ?_
      refine g_topE (walkedF w t (n) (many) (code)) rfl ?_
      have hwk := walkedF_le hB ht hn h6 code
      refine g_istore (lo' := [(8, .int (nI (walkedF w t (n) (many) (code)))), (0, .ref (g_ad X 22)), (1, .int (nI (n))), (4, .int (nI (many))), (5, .int (nI (cs))), (6, .int (nI (l))), (7, .int (nI (code)))]) K dX6_walk_165 (by decide) rfl ?_
      refine g_iload K 0 dX6_walk_167 rfl ?_
      refine g_iload K 5 dX6_walk_169 rfl ?_
      refine g_icmp_ge (tgt := 179) (a := walkedF w t (n) (many) (code)) (b := l) K dX6_walk_171 (by decide) (by omega) (by omega) (fun h171_2 => ?_) (fun h171_2 => ?_)
      · refine g_iload K 5 dX6_walk_179 rfl ?_
        refine g_istore (lo' := [(6, .int (nI (l))), (8, .int (nI (walkedF w t (n) (many) (code)))), (0, .ref (g_ad X 22)), (1, .int (nI (n))), (4, .int (nI (many))), (5, .int (nI (cs))), (7, .int (nI (code)))]) K dX6_walk_181 (by decide) rfl ?_
        refine g_iinc (a := code) (b := code + 1) (lo' := [(7, .int (nI (code + 1))), (6, .int (nI (l))), (8, .int (nI (walkedF w t (n) (many) (code)))), (0, .ref (g_ad X 22)), (1, .int (nI (n))), (4, .int (nI (many))), (5, .int (nI (cs)))]) K 6 dX6_walk_183 rfl (gi_inc _) (by decide) rfl ?_
        refine g_goto (tgt := 149) K dX6_walk_186 (by decide) ?_
        refine g_loc (lo' := [(0, .ref (g_ad X 22)), (1, .int (nI (n))), (4, .int (nI (many))), (5, .int (nI (cs))), (6, .int (nI (l))), (7, .int (nI (code + 1)))]) [3, 4, 5, 6, 1, 0] rfl ?_
        exact ih (code + 1) l (by omega) (by omega) (by rw [gfor_succ, show (fLeastM w t n many) code l = l from by unfold fLeastM; (first | rw [if_pos h171_2] | rw [if_neg (Nat.not_lt.mpr h171_2)])] at kk; exact kk)
      · refine g_iload K 0 dX6_walk_174 rfl ?_
        refine g_goto (tgt := 181) K dX6_walk_176 (by decide) ?_
        refine g_istore (lo' := [(6, .int (nI (walkedF w t (n) (many) (code)))), (8, .int (nI (walkedF w t (n) (many) (code)))), (0, .ref (g_ad X 22)), (1, .int (nI (n))), (4, .int (nI (many))), (5, .int (nI (cs))), (7, .int (nI (code)))]) K dX6_walk_181 (by decide) rfl ?_
        refine g_iinc (a := code) (b := code + 1) (lo' := [(7, .int (nI (code + 1))), (6, .int (nI (walkedF w t (n) (many) (code)))), (8, .int (nI (walkedF w t (n) (many) (code)))), (0, .ref (g_ad X 22)), (1, .int (nI (n))), (4, .int (nI (many))), (5, .int (nI (cs)))]) K 6 dX6_walk_183 rfl (gi_inc _) (by decide) rfl ?_
        refine g_goto (tgt := 149) K dX6_walk_186 (by decide) ?_
        refine g_loc (lo' := [(0, .ref (g_ad X 22)), (1, .int (nI (n))), (4, .int (nI (many))), (5, .int (nI (cs))), (6, .int (nI (walkedF w t (n) (many) (code)))), (7, .int (nI (code + 1)))]) [3, 4, 5, 6, 1, 0] rfl ?_
        exact ih (code + 1) (walkedF w t (n) (many) (code)) (by omega) (by omega) (by rw [gfor_succ, show (fLeastM w t n many) code l = walkedF w t (n) (many) (code) from by unfold fLeastM; (first | rw [if_pos h171_2] | rw [if_neg (Nat.not_lt.mpr h171_2)])] at kk; exact kk)

set_option maxHeartbeats 4000000 in
set_option maxRecDepth 100000 in
theorem cX6_walk_k (Z : gZ) (S : Nat → Nat → Nat) (n a : Nat) (hm : wfM S) (hun : n < 4294967296) (hua : a < 4294967296) (hn : n < S 22 1) (ha : a < 1 <<< S 22 3) (hp : popM a ≤ 6) : gMd Z yX6_walk wsX6_walk { frames := 2, cells := 0, slots := 0, locals := 43 } [.ref (gz_ad Z 22), .int (nI (n)), .int (nI (a))] S (walkM S n a) (va_up (va_up (va_up S 22 (va_up (S 22) 0 0)) 30 (stopsM S a).2) 29 (connM S)) := by
  refine gMd_of (cc := cX6_walk) (maxL := 9) (ret := (some .int)) (by decide +kernel) rfl (Nat.le_of_ble_eq_true rfl) (Or.inl rfl) (fun X hZ hR K hret => ?_)
  subst hZ
  have K : gOk X cX6_walk 9 wsX6_walk RX6 := K
  have hRf : 2 ≤ (g_R X).frames := gR_f hR rfl
  have hRl : 43 ≤ (g_R X).locals := gR_l hR rfl
  have hin6 : ∀ w ∈ u_ws RX6 TX6 17, w ∈ wsX6_walk := by decide +kernel
  obtain ⟨m1, m2, m3, m4, msh, mst, b23, b24, b25, b26, b27⟩ := id hm
  show gG X 0 [(0, .ref (g_ad X 22)), (1, .int (nI (n))), (2, .int (nI (a)))] [] S
  have hsv : 1 <<< S 22 3 ≤ 4096 := shl1_le (n := 12) (by omega)
  refine g_iload_n K 2 dX6_walk_0 rfl ?_
  refine g_if_lt (tgt := 27) (a := a) K dX6_walk_1 (by decide) (by omega) (fun h1_1 => ?_) (fun h1_1 => ?_)
  · refine g_iconst K 0 dX6_walk_27 (by decide +kernel) ?_
    refine g_istore_n (lo' := [(3, .int (nI (0))), (0, .ref (g_ad X 22)), (1, .int (nI (n))), (2, .int (nI (a)))]) K dX6_walk_28 (by decide) rfl ?_
    refine g_aload_n K 1 dX6_walk_29 rfl ?_
    refine g_aload_n K 1 dX6_walk_30 rfl ?_
    refine g_iload_n K 2 dX6_walk_31 rfl ?_
    refine g_callVd (q := 22) (ci := 6) (As := [.int (nI (n))]) (rest := [.ref (g_ad X 22)]) (C := RX6) (T := TX6) (N := 17) K (cX6_isNode_k (g_z X) S n (hm) (by omega)) (cwV 1 K.1.2.2.2.2 gX6_walk_X6_isNode rfl rfl rfl (by decide +kernel) ⟨Nat.le_trans (Nat.le_of_ble_eq_true rfl) hRf, Nat.le_trans (Nat.le_of_ble_eq_true rfl) hRl⟩) rfl rfl rfl rfl (Nat.le_of_ble_eq_true rfl) dX6_walk_32 ?_
    have hf32_2 := isN_spec (S 22 1) n
    refine g_if_ne (tgt := 42) (a := isN (S 22 1) n) K dX6_walk_35 (by decide) (by omega) (fun h35_3 => ?_) (fun h35_3 => ?_)
    · refine g_iload_n K 0 dX6_walk_42 rfl ?_
      refine g_if_eq (tgt := 50) (a := 0) K dX6_walk_43 (by decide) (by omega) (fun h43_4 => ?_) (fun h43_4 => absurd h43_4 (by omega))
      refine g_iconst K 2 dX6_walk_50 (by decide +kernel) ?_
      refine g_callVd (q := 22) (ci := 6) (As := [.int (nI (2))]) (rest := []) (C := RX6) (T := TX6) (N := 17) K (cX6_refused_k (g_z X) S 2 (by omega)) (cwV 1 K.1.2.2.2.2 gX6_walk_X6_refused rfl rfl rfl (by decide +kernel) ⟨Nat.le_trans (Nat.le_of_ble_eq_true rfl) hRf, Nat.le_trans (Nat.le_of_ble_eq_true rfl) hRl⟩) rfl rfl rfl rfl (Nat.le_of_ble_eq_true rfl) dX6_walk_51 ?_
      refine g_cast (S' := (va_up S 22 (va_up (S 22) 0 (2)))) rfl rfl rfl ?_
      refine g_if_eq (tgt := 59) (a := 1) K dX6_walk_54 (by decide) (by omega) (fun h54_5 => absurd h54_5 (by omega)) (fun h54_5 => ?_)
      refine g_iconst K 0 dX6_walk_57 (by decide +kernel) ?_
      exfalso; omega
    · refine g_iconst K 1 dX6_walk_38 (by decide +kernel) ?_
      refine g_goto (tgt := 51) K dX6_walk_39 (by decide) ?_
      refine g_callVd (q := 22) (ci := 6) (As := [.int (nI (1))]) (rest := []) (C := RX6) (T := TX6) (N := 17) K (cX6_refused_k (g_z X) S 1 (by omega)) (cwV 1 K.1.2.2.2.2 gX6_walk_X6_refused rfl rfl rfl (by decide +kernel) ⟨Nat.le_trans (Nat.le_of_ble_eq_true rfl) hRf, Nat.le_trans (Nat.le_of_ble_eq_true rfl) hRl⟩) rfl rfl rfl rfl (Nat.le_of_ble_eq_true rfl) dX6_walk_51 ?_
      refine g_cast (S' := (va_up S 22 (va_up (S 22) 0 (1)))) rfl rfl rfl ?_
      refine g_if_eq (tgt := 59) (a := 1) K dX6_walk_54 (by decide) (by omega) (fun h54_6 => absurd h54_6 (by omega)) (fun h54_6 => ?_)
      refine g_iconst K 0 dX6_walk_57 (by decide +kernel) ?_
      exfalso; omega
  · refine g_iload_n K 2 dX6_walk_4 rfl ?_
    refine g_iconst K 1 dX6_walk_5 (by decide +kernel) ?_
    refine g_aload_n K 0 dX6_walk_6 rfl ?_
    refine g_getI (q := 22) (ci := 6) (k := 3) (N := 17) (C := RX6) (T := TX6) (ref := "ValveWalkModel") K rfl rfl rfl (by decide) hin6 (by decide +kernel) rfl dX6_walk_7 ?_
    refine g_ishl (a := 1) (b := S 22 3) K (by omega) dX6_walk_10 ?_
    refine g_icmp_ge (tgt := 27) (a := a) (b := (1) <<< (S 22 3)) K dX6_walk_11 (by decide) (by omega) (by omega) (fun h11_7 => ?_) (fun h11_7 => ?_)
    · refine g_iconst K 0 dX6_walk_27 (by decide +kernel) ?_
      refine g_istore_n (lo' := [(3, .int (nI (0))), (0, .ref (g_ad X 22)), (1, .int (nI (n))), (2, .int (nI (a)))]) K dX6_walk_28 (by decide) rfl ?_
      refine g_aload_n K 1 dX6_walk_29 rfl ?_
      refine g_aload_n K 1 dX6_walk_30 rfl ?_
      refine g_iload_n K 2 dX6_walk_31 rfl ?_
      refine g_callVd (q := 22) (ci := 6) (As := [.int (nI (n))]) (rest := [.ref (g_ad X 22)]) (C := RX6) (T := TX6) (N := 17) K (cX6_isNode_k (g_z X) S n (hm) (by omega)) (cwV 1 K.1.2.2.2.2 gX6_walk_X6_isNode rfl rfl rfl (by decide +kernel) ⟨Nat.le_trans (Nat.le_of_ble_eq_true rfl) hRf, Nat.le_trans (Nat.le_of_ble_eq_true rfl) hRl⟩) rfl rfl rfl rfl (Nat.le_of_ble_eq_true rfl) dX6_walk_32 ?_
      have hf32_8 := isN_spec (S 22 1) n
      refine g_if_ne (tgt := 42) (a := isN (S 22 1) n) K dX6_walk_35 (by decide) (by omega) (fun h35_9 => ?_) (fun h35_9 => ?_)
      · refine g_iload_n K 0 dX6_walk_42 rfl ?_
        refine g_if_eq (tgt := 50) (a := 0) K dX6_walk_43 (by decide) (by omega) (fun h43_10 => ?_) (fun h43_10 => absurd h43_10 (by omega))
        refine g_iconst K 2 dX6_walk_50 (by decide +kernel) ?_
        refine g_callVd (q := 22) (ci := 6) (As := [.int (nI (2))]) (rest := []) (C := RX6) (T := TX6) (N := 17) K (cX6_refused_k (g_z X) S 2 (by omega)) (cwV 1 K.1.2.2.2.2 gX6_walk_X6_refused rfl rfl rfl (by decide +kernel) ⟨Nat.le_trans (Nat.le_of_ble_eq_true rfl) hRf, Nat.le_trans (Nat.le_of_ble_eq_true rfl) hRl⟩) rfl rfl rfl rfl (Nat.le_of_ble_eq_true rfl) dX6_walk_51 ?_
        refine g_cast (S' := (va_up S 22 (va_up (S 22) 0 (2)))) rfl rfl rfl ?_
        refine g_if_eq (tgt := 59) (a := 1) K dX6_walk_54 (by decide) (by omega) (fun h54_11 => absurd h54_11 (by omega)) (fun h54_11 => ?_)
        refine g_iconst K 0 dX6_walk_57 (by decide +kernel) ?_
        exfalso; omega
      · refine g_iconst K 1 dX6_walk_38 (by decide +kernel) ?_
        refine g_goto (tgt := 51) K dX6_walk_39 (by decide) ?_
        refine g_callVd (q := 22) (ci := 6) (As := [.int (nI (1))]) (rest := []) (C := RX6) (T := TX6) (N := 17) K (cX6_refused_k (g_z X) S 1 (by omega)) (cwV 1 K.1.2.2.2.2 gX6_walk_X6_refused rfl rfl rfl (by decide +kernel) ⟨Nat.le_trans (Nat.le_of_ble_eq_true rfl) hRf, Nat.le_trans (Nat.le_of_ble_eq_true rfl) hRl⟩) rfl rfl rfl rfl (Nat.le_of_ble_eq_true rfl) dX6_walk_51 ?_
        refine g_cast (S' := (va_up S 22 (va_up (S 22) 0 (1)))) rfl rfl rfl ?_
        refine g_if_eq (tgt := 59) (a := 1) K dX6_walk_54 (by decide) (by omega) (fun h54_12 => absurd h54_12 (by omega)) (fun h54_12 => ?_)
        refine g_iconst K 0 dX6_walk_57 (by decide +kernel) ?_
        exfalso; omega
    · refine g_iload_n K 2 dX6_walk_14 rfl ?_
      refine g_callSd (As := [.int (nI (a))]) (rest := []) K (cX6_bits_k (g_z X) S a (by omega)) (va_cwS 1 K.1.2.2.2.2 gX6_walk_X6_bits rfl rfl rfl (by decide +kernel) ⟨Nat.le_trans (Nat.le_of_ble_eq_true rfl) hRf, Nat.le_trans (Nat.le_of_ble_eq_true rfl) hRl⟩) rfl rfl (Nat.le_of_ble_eq_true rfl) dX6_walk_15 ?_
      have hf15_13 := popM_le a
      refine g_bipush K 6 dX6_walk_18 (by decide +kernel) ?_
      refine g_icmp_gt (tgt := 27) (a := popM a) (b := 6) K dX6_walk_20 (by decide) (by omega) (by omega) (fun h20_14 => ?_) (fun h20_14 => ?_)
      · refine g_iconst K 0 dX6_walk_27 (by decide +kernel) ?_
        refine g_istore_n (lo' := [(3, .int (nI (0))), (0, .ref (g_ad X 22)), (1, .int (nI (n))), (2, .int (nI (a)))]) K dX6_walk_28 (by decide) rfl ?_
        refine g_aload_n K 1 dX6_walk_29 rfl ?_
        refine g_aload_n K 1 dX6_walk_30 rfl ?_
        refine g_iload_n K 2 dX6_walk_31 rfl ?_
        refine g_callVd (q := 22) (ci := 6) (As := [.int (nI (n))]) (rest := [.ref (g_ad X 22)]) (C := RX6) (T := TX6) (N := 17) K (cX6_isNode_k (g_z X) S n (hm) (by omega)) (cwV 1 K.1.2.2.2.2 gX6_walk_X6_isNode rfl rfl rfl (by decide +kernel) ⟨Nat.le_trans (Nat.le_of_ble_eq_true rfl) hRf, Nat.le_trans (Nat.le_of_ble_eq_true rfl) hRl⟩) rfl rfl rfl rfl (Nat.le_of_ble_eq_true rfl) dX6_walk_32 ?_
        have hf32_15 := isN_spec (S 22 1) n
        refine g_if_ne (tgt := 42) (a := isN (S 22 1) n) K dX6_walk_35 (by decide) (by omega) (fun h35_16 => ?_) (fun h35_16 => ?_)
        · refine g_iload_n K 0 dX6_walk_42 rfl ?_
          refine g_if_eq (tgt := 50) (a := 0) K dX6_walk_43 (by decide) (by omega) (fun h43_17 => ?_) (fun h43_17 => absurd h43_17 (by omega))
          refine g_iconst K 2 dX6_walk_50 (by decide +kernel) ?_
          refine g_callVd (q := 22) (ci := 6) (As := [.int (nI (2))]) (rest := []) (C := RX6) (T := TX6) (N := 17) K (cX6_refused_k (g_z X) S 2 (by omega)) (cwV 1 K.1.2.2.2.2 gX6_walk_X6_refused rfl rfl rfl (by decide +kernel) ⟨Nat.le_trans (Nat.le_of_ble_eq_true rfl) hRf, Nat.le_trans (Nat.le_of_ble_eq_true rfl) hRl⟩) rfl rfl rfl rfl (Nat.le_of_ble_eq_true rfl) dX6_walk_51 ?_
          refine g_cast (S' := (va_up S 22 (va_up (S 22) 0 (2)))) rfl rfl rfl ?_
          refine g_if_eq (tgt := 59) (a := 1) K dX6_walk_54 (by decide) (by omega) (fun h54_18 => absurd h54_18 (by omega)) (fun h54_18 => ?_)
          refine g_iconst K 0 dX6_walk_57 (by decide +kernel) ?_
          exfalso; omega
        · refine g_iconst K 1 dX6_walk_38 (by decide +kernel) ?_
          refine g_goto (tgt := 51) K dX6_walk_39 (by decide) ?_
          refine g_callVd (q := 22) (ci := 6) (As := [.int (nI (1))]) (rest := []) (C := RX6) (T := TX6) (N := 17) K (cX6_refused_k (g_z X) S 1 (by omega)) (cwV 1 K.1.2.2.2.2 gX6_walk_X6_refused rfl rfl rfl (by decide +kernel) ⟨Nat.le_trans (Nat.le_of_ble_eq_true rfl) hRf, Nat.le_trans (Nat.le_of_ble_eq_true rfl) hRl⟩) rfl rfl rfl rfl (Nat.le_of_ble_eq_true rfl) dX6_walk_51 ?_
          refine g_cast (S' := (va_up S 22 (va_up (S 22) 0 (1)))) rfl rfl rfl ?_
          refine g_if_eq (tgt := 59) (a := 1) K dX6_walk_54 (by decide) (by omega) (fun h54_19 => absurd h54_19 (by omega)) (fun h54_19 => ?_)
          refine g_iconst K 0 dX6_walk_57 (by decide +kernel) ?_
          exfalso; omega
      · refine g_iconst K 1 dX6_walk_23 (by decide +kernel) ?_
        refine g_goto (tgt := 28) K dX6_walk_24 (by decide) ?_
        refine g_istore_n (lo' := [(3, .int (nI (1))), (0, .ref (g_ad X 22)), (1, .int (nI (n))), (2, .int (nI (a)))]) K dX6_walk_28 (by decide) rfl ?_
        refine g_aload_n K 1 dX6_walk_29 rfl ?_
        refine g_aload_n K 1 dX6_walk_30 rfl ?_
        refine g_iload_n K 2 dX6_walk_31 rfl ?_
        refine g_callVd (q := 22) (ci := 6) (As := [.int (nI (n))]) (rest := [.ref (g_ad X 22)]) (C := RX6) (T := TX6) (N := 17) K (cX6_isNode_k (g_z X) S n (hm) (by omega)) (cwV 1 K.1.2.2.2.2 gX6_walk_X6_isNode rfl rfl rfl (by decide +kernel) ⟨Nat.le_trans (Nat.le_of_ble_eq_true rfl) hRf, Nat.le_trans (Nat.le_of_ble_eq_true rfl) hRl⟩) rfl rfl rfl rfl (Nat.le_of_ble_eq_true rfl) dX6_walk_32 ?_
        have hf32_20 := isN_spec (S 22 1) n
        refine g_if_ne (tgt := 42) (a := isN (S 22 1) n) K dX6_walk_35 (by decide) (by omega) (fun h35_21 => ?_) (fun h35_21 => ?_)
        · refine g_iload_n K 0 dX6_walk_42 rfl ?_
          refine g_if_eq (tgt := 50) (a := 1) K dX6_walk_43 (by decide) (by omega) (fun h43_22 => absurd h43_22 (by omega)) (fun h43_22 => ?_)
          refine g_iconst K 0 dX6_walk_46 (by decide +kernel) ?_
          refine g_goto (tgt := 51) K dX6_walk_47 (by decide) ?_
          refine g_callVd (q := 22) (ci := 6) (As := [.int (nI (0))]) (rest := []) (C := RX6) (T := TX6) (N := 17) K (cX6_refused_k (g_z X) S 0 (by omega)) (cwV 1 K.1.2.2.2.2 gX6_walk_X6_refused rfl rfl rfl (by decide +kernel) ⟨Nat.le_trans (Nat.le_of_ble_eq_true rfl) hRf, Nat.le_trans (Nat.le_of_ble_eq_true rfl) hRl⟩) rfl rfl rfl rfl (Nat.le_of_ble_eq_true rfl) dX6_walk_51 ?_
          refine g_cast (S' := (va_up S 22 (va_up (S 22) 0 (0)))) rfl rfl rfl ?_
          refine g_if_eq (tgt := 59) (a := 0) K dX6_walk_54 (by decide) (by omega) (fun h54_23 => ?_) (fun h54_23 => absurd h54_23 (by omega))
          refine g_iconst K 0 dX6_walk_59 (by decide +kernel) ?_
          refine g_istore (lo' := [(4, .int (nI (0))), (3, .int (nI (1))), (0, .ref (g_ad X 22)), (1, .int (nI (n))), (2, .int (nI (a)))]) K dX6_walk_60 (by decide) rfl ?_
          refine g_iconst K 0 dX6_walk_62 (by decide +kernel) ?_
          refine g_istore (lo' := [(5, .int (nI (0))), (4, .int (nI (0))), (3, .int (nI (1))), (0, .ref (g_ad X 22)), (1, .int (nI (n))), (2, .int (nI (a)))]) K dX6_walk_63 (by decide) rfl ?_
          refine g_loc (lo' := [(0, .ref (g_ad X 22)), (1, .int (nI (n))), (2, .int (nI (a))), (4, .int (nI (0))), (5, .int (nI (0)))]) [3, 4, 5, 1, 0] rfl ?_
          refine g_cast (S' := (va_up (va_up S 22 (va_up (S 22) 0 (0))) 30 (S 30))) rfl rfl (up_id1 _ 30).symm ?_
          refine L_wst X S n a K (Nat.le_trans (Nat.le_of_ble_eq_true rfl) hRf) (Nat.le_trans (Nat.le_of_ble_eq_true rfl) hRl) (hm) (by omega) (hp)  (S 22 3) 0 0 (S 30) (by omega) (rfl) ?_
          refine g_aload_n K 0 dX6_walk_112 rfl ?_
          refine g_callVv (q := 22) (ci := 6) (As := []) (rest := []) (C := RX6) (T := TX6) (N := 17) K (cX6_connect_k (g_z X) (va_up (va_up S 22 (va_up (S 22) 0 (0))) 30 (((gfor (fStopM S a) (S 22 3) 0 (0, (S 30))).2))) ((wfM_up (wfM_r hm) (q := 30) (by decide) _))) (cwV 0 K.1.2.2.2.2 gX6_walk_X6_connect rfl rfl rfl (by decide +kernel) ⟨Nat.le_trans (Nat.le_of_ble_eq_true rfl) hRf, Nat.le_trans (Nat.le_of_ble_eq_true rfl) hRl⟩) rfl rfl rfl rfl (Nat.le_of_ble_eq_true rfl) dX6_walk_113 ?_
          refine g_cast (S' := (va_up (va_up (va_up S 22 (va_up (S 22) 0 (0))) 30 (((gfor (fStopM S a) (S 22 3) 0 (0, (S 30))).2))) 29 (connM S))) rfl rfl (by rw [connM_u (q := 30) (by decide), connM_r]) ?_
          obtain ⟨many, hmy⟩ : ∃ c, c = (stopsM S a).1 := ⟨_, rfl⟩
          obtain ⟨t, htt⟩ : ∃ t, t = (stopsM S a).2 := ⟨_, rfl⟩
          have h6 : many ≤ 6 := by rw [hmy]; exact stopsM_6 hm (by omega) hp
          have ht : ∀ k, k < many → t k < 12 := by rw [hmy, htt]; exact (stopsM_inv hm a).2
          have hB := connM_le hm
          refine g_cast (lo' := [(0, .ref (g_ad X 22)), (1, .int (nI (n))), (2, .int (nI (a))), (4, .int (nI (many))), (5, .int (nI ((S 22 3))))]) (S' := (va_up (va_up (va_up S 22 (va_up (S 22) 0 (0))) 30 (t)) 29 (connM S))) (by rw [hmy]; rfl) rfl (by rw [htt]; rfl) ?_
          refine g_iconst K 1 dX6_walk_116 (by decide +kernel) ?_
          refine g_istore (lo' := [(5, .int (nI (1))), (0, .ref (g_ad X 22)), (1, .int (nI (n))), (2, .int (nI (a))), (4, .int (nI (many)))]) K dX6_walk_117 (by decide) rfl ?_
          refine g_iconst K 0 dX6_walk_119 (by decide +kernel) ?_
          refine g_istore (lo' := [(6, .int (nI (0))), (5, .int (nI (1))), (0, .ref (g_ad X 22)), (1, .int (nI (n))), (2, .int (nI (a))), (4, .int (nI (many)))]) K dX6_walk_120 (by decide) rfl ?_
          refine g_loc (lo' := [(0, .ref (g_ad X 22)), (1, .int (nI (n))), (4, .int (nI (many))), (5, .int (nI (1))), (6, .int (nI (0)))]) [2, 3, 5, 1, 0] rfl ?_
          refine L_wpow X (va_up (va_up (va_up S 22 (va_up (S 22) 0 (0))) 30 (t)) 29 (connM S)) n many K (Nat.le_trans (Nat.le_of_ble_eq_true rfl) hRf) (Nat.le_trans (Nat.le_of_ble_eq_true rfl) hRl) (h6)  many 0 1 (by omega)  ?_
          have hcs := codesM_le h6
          refine g_ldc (w := 1000000) K 1000000 (K.1.2.2.2.2 _ (by decide +kernel)) (by decide +kernel) dX6_walk_142 ?_
          refine g_istore (lo' := [(6, .int (nI (1000000))), (0, .ref (g_ad X 22)), (1, .int (nI (n))), (4, .int (nI (many))), (5, .int (nI (((gfor (fPowM many) many 0 1)))))]) K dX6_walk_144 (by decide) rfl ?_
          refine g_iconst K 0 dX6_walk_146 (by decide +kernel) ?_
          refine g_istore (lo' := [(7, .int (nI (0))), (6, .int (nI (1000000))), (0, .ref (g_ad X 22)), (1, .int (nI (n))), (4, .int (nI (many))), (5, .int (nI (((gfor (fPowM many) many 0 1)))))]) K dX6_walk_147 (by decide) rfl ?_
          refine g_loc (lo' := [(0, .ref (g_ad X 22)), (1, .int (nI (n))), (4, .int (nI (many))), (5, .int (nI (((gfor (fPowM many) many 0 1))))), (6, .int (nI (1000000))), (7, .int (nI (0)))]) [2, 3, 4, 5, 1, 0] rfl ?_
          refine L_wco X S n many (codesM many) (connM S) t K (Nat.le_trans (Nat.le_of_ble_eq_true rfl) hRf) (Nat.le_trans (Nat.le_of_ble_eq_true rfl) hRl) (hB) (ht) (h6) (by omega) (hcs)  (codesM many) 0 1000000 (by omega) (by decide) ?_
          obtain ⟨l, hll⟩ : ∃ l, l = bestM (connM S) t n many := ⟨_, rfl⟩
          have hl9 : l ≤ 1000000 := by rw [hll]; exact bestM_le _ _ _ _
          refine g_cast (lo' := [(0, .ref (g_ad X 22)), (1, .int (nI (n))), (4, .int (nI (many))), (5, .int (nI ((codesM many)))), (6, .int (nI (l))), (7, .int (nI ((codesM many))))]) (by rw [hll]; rfl) rfl rfl ?_
          refine g_iload K 4 dX6_walk_189 rfl ?_
          refine g_ldc (w := 1000000) K 1000000 (K.1.2.2.2.2 _ (by decide +kernel)) (by decide +kernel) dX6_walk_191 ?_
          refine g_icmp_lt (tgt := 200) (a := l) (b := 1000000) K dX6_walk_193 (by decide) (by omega) (by omega) (fun h193_24 => ?_) (fun h193_24 => ?_)
          · refine g_iload K 4 dX6_walk_200 rfl ?_
            exact g_retd hret dX6_walk_202 (by unfold walkM; rw [← htt, ← hmy, ← hll, if_pos (by omega)]) (by rw [htt])
          · refine g_iconst K 4294967295 dX6_walk_196 (by decide +kernel) ?_
            refine g_goto (tgt := 202) K dX6_walk_197 (by decide) ?_
            exact g_retd hret dX6_walk_202 (by unfold walkM; rw [← htt, ← hmy, ← hll, if_neg (by omega)]) (by rw [htt])
        · refine g_iconst K 1 dX6_walk_38 (by decide +kernel) ?_
          refine g_goto (tgt := 51) K dX6_walk_39 (by decide) ?_
          refine g_callVd (q := 22) (ci := 6) (As := [.int (nI (1))]) (rest := []) (C := RX6) (T := TX6) (N := 17) K (cX6_refused_k (g_z X) S 1 (by omega)) (cwV 1 K.1.2.2.2.2 gX6_walk_X6_refused rfl rfl rfl (by decide +kernel) ⟨Nat.le_trans (Nat.le_of_ble_eq_true rfl) hRf, Nat.le_trans (Nat.le_of_ble_eq_true rfl) hRl⟩) rfl rfl rfl rfl (Nat.le_of_ble_eq_true rfl) dX6_walk_51 ?_
          refine g_cast (S' := (va_up S 22 (va_up (S 22) 0 (1)))) rfl rfl rfl ?_
          refine g_if_eq (tgt := 59) (a := 1) K dX6_walk_54 (by decide) (by omega) (fun h54_25 => absurd h54_25 (by omega)) (fun h54_25 => ?_)
          refine g_iconst K 0 dX6_walk_57 (by decide +kernel) ?_
          exfalso; omega

