/-! Walks -/
def fStop (S : Nat → Nat → Nat) (a v : Nat) (x : Nat × (Nat → Nat)) : Nat × (Nat → Nat) := if gbit a v = 0 then x else if 6 ≤ x.1 then x else (x.1 + 1, va_up x.2 x.1 (S 4 (S 7 v)))
def listF (S : Nat → Nat → Nat) (a : Nat) : Nat × (Nat → Nat) := gfor (fStop S a) (S 1 2) 0 (0, S 20)
def fCell (n m : Nat) (w : Nat → Nat) : Nat → Nat := va_up w (n * 12 + m) (if n = m then 0 else 1000000)
def fRow (n : Nat) (w : Nat → Nat) : Nat → Nat := gfor (fCell n) 12 0 w
def fShW (x y l : Nat) (w : Nat → Nat) : Nat → Nat := va_up w (x * 12 + y) (min (w (x * 12 + y)) l)
def fPipeW (S : Nat → Nat → Nat) (p : Nat) (w : Nat → Nat) : Nat → Nat := fShW (S 4 (2 * p + 1)) (S 4 (2 * p + 0)) (S 2 p) (fShW (S 4 (2 * p + 0)) (S 4 (2 * p + 1)) (S 2 p) w)
def fCellM (m n a : Nat) (w : Nat → Nat) : Nat → Nat := fShW n a (w (n * 12 + m) + w (m * 12 + a)) w
def fRowM (S : Nat → Nat → Nat) (m n : Nat) (w : Nat → Nat) : Nat → Nat := gfor (fCellM m n) (S 1 0) 0 w
def fMid (S : Nat → Nat → Nat) (m : Nat) (w : Nat → Nat) : Nat → Nat := gfor (fRowM S m) (S 1 0) 0 w
def measW (S : Nat → Nat → Nat) : Nat → Nat := gfor (fMid S) (S 1 0) 0 (gfor (fPipeW S) (S 1 1) 0 (gfor fRow 12 0 (S 19)))
theorem measW_up {S : Nat → Nat → Nat} {q : Nat} {d : Nat → Nat} (h : 7 < q) (h19 : 19 ≠ q) : measW (va_up S q d) = measW S := by
  have e1 : fMid (va_up S q d) = fMid S := by
    funext m w; simp only [fMid, fRowM, va_up_ne (f := S) d (show 1 ≠ q by omega)]
    congr 1; funext n w; simp only [fRowM, va_up_ne (f := S) d (show 1 ≠ q by omega)]
  have e2 : fPipeW (va_up S q d) = fPipeW S := by
    funext p w; simp only [fPipeW, va_up_ne (f := S) d (show 4 ≠ q by omega), va_up_ne (f := S) d (show 2 ≠ q by omega)]
  simp only [measW, e1, e2, va_up_ne (f := S) d (show 1 ≠ q by omega), va_up_ne (f := S) d h19]
def leB (n B : Nat) (w : Nat → Nat) : Prop := ∀ j, j < n → w j ≤ B
theorem fShW_le {x y l : Nat} {w : Nat → Nat} (hw : leB 144 1000000 w) (h : x * 12 + y < 144) : leB 144 1000000 (fShW x y l w) := by
  have h1 := hw _ h
  exact up_le hw (by omega) _
theorem fCell_le (n m : Nat) (w : Nat → Nat) (hw : leB 144 1000000 w) : leB 144 1000000 (fCell n m w) := up_le hw (by split <;> omega) _
theorem gCell_le (n : Nat) (hn : n < 12) : ∀ (k m : Nat) (w : Nat → Nat), m + k ≤ 12 → leB (n * 12 + m) 1000000 w → leB (n * 12 + m + k) 1000000 (gfor (fCell n) k m w)
  | 0, _, _, _, h => h
  | k + 1, m, w, hk, h => by
    have := gCell_le n hn k (m + 1) (fCell n m w) (by omega) (fun j hj => by
      simp only [fCell, va_up]
      split
      · split <;> omega
      · exact h j (by omega))
    intro j hj
    exact this j (by omega)
theorem gRow_le : ∀ (k n : Nat) (w : Nat → Nat), n + k ≤ 12 → leB (n * 12) 1000000 w → leB ((n + k) * 12) 1000000 (gfor fRow k n w)
  | 0, _, _, _, h => h
  | k + 1, n, w, hk, h => by
    have h1 : leB (n * 12 + 0 + 12) 1000000 (fRow n w) := gCell_le n (by omega) 12 0 w (by omega) h
    have := gRow_le k (n + 1) (fRow n w) (by omega) (fun j hj => h1 j (by omega))
    intro j hj
    exact this j (by omega)
theorem rows_le (w : Nat → Nat) : leB 144 1000000 (gfor fRow 12 0 w) := gRow_le 12 0 w (by omega) (fun j hj => absurd hj (by omega))
theorem fPipeW_le {S : Nat → Nat → Nat} (hs : wfC S) (p : Nat) (w : Nat → Nat) (hw : leB 144 1000000 w) : leB 144 1000000 (fPipeW S p w) := by
  have a4 := hs.2.2.2.2.2.2.2.2.1
  have h1 := a4 (2 * p + 0)
  have h2 := a4 (2 * p + 1)
  exact fShW_le (fShW_le hw (by omega)) (by omega)
theorem gCellM_le (m n : Nat) (hn : n < 12) : ∀ (k a : Nat) (w : Nat → Nat), a + k ≤ 12 → leB 144 1000000 w → leB 144 1000000 (gfor (fCellM m n) k a w)
  | 0, _, _, _, h => h
  | k + 1, a, w, hk, h => gCellM_le m n hn k (a + 1) _ (by omega) (fShW_le h (by omega))
theorem gRowM_le {S : Nat → Nat → Nat} (hs : wfC S) (m : Nat) : ∀ (k n : Nat) (w : Nat → Nat), n + k ≤ 12 → leB 144 1000000 w → leB 144 1000000 (gfor (fRowM S m) k n w)
  | 0, _, _, _, h => h
  | k + 1, n, w, hk, h => gRowM_le hs m k (n + 1) _ (by omega) (gCellM_le m n (by omega) _ 0 w (by have := hs.1; omega) h)
theorem fMid_le {S : Nat → Nat → Nat} (hs : wfC S) (m : Nat) (w : Nat → Nat) (h : leB 144 1000000 w) : leB 144 1000000 (fMid S m w) := gRowM_le hs m _ 0 w (by have := hs.1; omega) h
theorem measW_le {S : Nat → Nat → Nat} (hs : wfC S) : leB 144 1000000 (measW S) := gfor_inv (leB 144 1000000) _ (fun m w h => fMid_le hs m w h) _ 0 _ (gfor_inv (leB 144 1000000) _ (fun p w h => fPipeW_le hs p w h) _ 0 _ (rows_le _))
theorem fStop_c {S : Nat → Nat → Nat} {a v : Nat} {x : Nat × (Nat → Nat)} (h : x.1 ≤ 6) : (fStop S a v x).1 ≤ 6 := by
  unfold fStop; (repeat' split) <;> first | exact h | (show _ + 1 ≤ 6; omega)
theorem listF_c (S : Nat → Nat → Nat) (a : Nat) : (listF S a).1 ≤ 6 := gfor_inv (fun x : Nat × (Nat → Nat) => x.1 ≤ 6) (fStop S a) (fun v x h => fStop_c h) _ 0 _ (Nat.zero_le 6)
theorem fStop_t {S : Nat → Nat → Nat} (hs : wfC S) {a v : Nat} {x : Nat × (Nat → Nat)} (h : ∀ k, k < x.1 → x.2 k < 12) : ∀ k, k < (fStop S a v x).1 → (fStop S a v x).2 k < 12 := by
  unfold fStop
  (repeat' split)
  · exact h
  · exact h
  · intro k hk
    simp only [va_up]
    split
    · exact hs.2.2.2.2.2.2.2.2.1 _
    · exact h k (by have : k < x.1 + 1 := hk; omega)
theorem listF_t {S : Nat → Nat → Nat} (hs : wfC S) (a : Nat) : ∀ k, k < (listF S a).1 → (listF S a).2 k < 12 := gfor_inv (fun x : Nat × (Nat → Nat) => ∀ k, k < x.1 → x.2 k < 12) (fStop S a) (fun v x h => fStop_t hs h) _ 0 _ (fun k hk => absurd hk (Nat.not_lt_zero k))
def fLE (w t l : Nat → Nat) (b last k len : Nat) : Nat := if gbit b k = 0 then len else min len (l (b * 6 + k) + w (t k * 12 + t last))
def leastE (w t l : Nat → Nat) (node set last c : Nat) : Nat := if set &&& ((1 <<< last) ^^^ 4294967295) = 0 then w (node * 12 + t last) else gfor (fLE w t l (set &&& ((1 <<< last) ^^^ 4294967295)) last) c 0 1000000
def fLast (w t : Nat → Nat) (node c set last : Nat) (l : Nat → Nat) : Nat → Nat := if gbit set last = 0 then l else va_up l (set * 6 + last) (leastE w t l node set last c)
def fSet (w t : Nat → Nat) (node c set : Nat) (l : Nat → Nat) : Nat → Nat := gfor (fLast w t node c set) c 0 l
def fMinL (l : Nat → Nat) (all k len : Nat) : Nat := min len (l (all * 6 + k))
def tabF (w t : Nat → Nat) (node c : Nat) (l : Nat → Nat) : Nat → Nat := gfor (fSet w t node c) ((1 <<< c) - 1) 1 l
def lenF (l : Nat → Nat) (c : Nat) : Nat := gfor (fMinL l ((1 <<< c) - 1)) c 0 1000000
def walkF (S : Nat → Nat → Nat) (node a : Nat) : Nat := if (listF S a).1 = 0 then 0 else if lenF (tabF (measW S) (listF S a).2 node (listF S a).1 (S 21)) (listF S a).1 < 1000000 then lenF (tabF (measW S) (listF S a).2 node (listF S a).1 (S 21)) (listF S a).1 else 4294967295
def walkS (S : Nat → Nat → Nat) (node a : Nat) : Nat → Nat → Nat := if (listF S a).1 = 0 then va_up S 20 (listF S a).2 else va_up (va_up (va_up S 20 (listF S a).2) 19 (measW S)) 21 (tabF (measW S) (listF S a).2 node (listF S a).1 (S 21))
theorem fLE_le (w t l : Nat → Nat) (b last k len : Nat) (h : len ≤ 1000000) : fLE w t l b last k len ≤ 1000000 := by unfold fLE; split <;> omega
theorem leastE_le {w t l : Nat → Nat} {node set last c : Nat} (hw : leB 144 1000000 w) (hn : node < 12) (ht : t last < 12) : leastE w t l node set last c ≤ 1000000 := by
  unfold leastE
  split
  · exact hw _ (by omega)
  · exact gfor_inv (· ≤ 1000000) _ (fun k len h => fLE_le w t l _ last k len h) _ 0 _ (by decide)
def leOK (c set last : Nat) (l : Nat → Nat) : Prop := ∀ b k, (b < set ∨ (b = set ∧ k < last)) → k < c → gbit b k ≠ 0 → l (b * 6 + k) ≤ 1000000
theorem leOK_step {w t l : Nat → Nat} {node c set last : Nat} (hc : c ≤ 6) (hw : leB 144 1000000 w) (hn : node < 12) (ht : ∀ k, k < c → t k < 12) (hl : last < c) (h : leOK c set last l) : leOK c set (last + 1) (fLast w t node c set last l) := by
  intro b k hb hk hg
  unfold fLast
  split
  · rename_i h0
    refine h b k ?_ hk hg
    rcases hb with hb | ⟨rfl, hb⟩
    · exact Or.inl hb
    · rcases Nat.lt_or_ge k last with q | q
      · exact Or.inr ⟨rfl, q⟩
      · have : k = last := by omega
        subst this
        exact absurd h0 hg
  · simp only [va_up]
    split
    · exact leastE_le hw hn (ht last hl)
    · rename_i hne
      refine h b k ?_ hk hg
      rcases hb with hb | ⟨rfl, hb⟩
      · exact Or.inl hb
      · exact Or.inr ⟨rfl, by omega⟩
theorem leOK_go {w t : Nat → Nat} {node c set : Nat} (hc : c ≤ 6) (hw : leB 144 1000000 w) (hn : node < 12) (ht : ∀ k, k < c → t k < 12) : ∀ (k last : Nat) (l : Nat → Nat), last + k = c → leOK c set last l → leOK c set c (gfor (fLast w t node c set) k last l)
  | 0, last, l, hk, h => by have e : last = c := by omega
                            subst e; exact h
  | k + 1, last, l, hk, h => leOK_go hc hw hn ht k (last + 1) _ (by omega) (leOK_step hc hw hn ht (by omega) h)
theorem leOK_set {w t l : Nat → Nat} {node c set : Nat} (hc : c ≤ 6) (hw : leB 144 1000000 w) (hn : node < 12) (ht : ∀ k, k < c → t k < 12) (h : leOK c set 0 l) : leOK c (set + 1) 0 (fSet w t node c set l) := by
  have h1 := leOK_go (set := set) hc hw hn ht c 0 l (by omega) h
  intro b k hb hk hg
  exact h1 b k (by omega) hk hg
theorem leOK_tab {w t : Nat → Nat} {node c : Nat} (hc : c ≤ 6) (hw : leB 144 1000000 w) (hn : node < 12) (ht : ∀ k, k < c → t k < 12) : ∀ (k set : Nat) (l : Nat → Nat), leOK c set 0 l → leOK c (set + k) 0 (gfor (fSet w t node c) k set l)
  | 0, _, _, h => h
  | k + 1, set, l, h => by
    have := leOK_tab hc hw hn ht k (set + 1) _ (leOK_set hc hw hn ht h)
    rw [show set + (k + 1) = set + 1 + k by omega]
    exact this
theorem leOK_1 (c : Nat) (l : Nat → Nat) : leOK c 1 0 l := by
  intro b k hb hk hg
  have hb0 : b = 0 := by omega
  subst hb0
  exact absurd (by simp [gbit]) hg
theorem gbit_all : ∀ c : Fin 7, ∀ k : Fin 6, k.val < c.val → gbit ((1 <<< c.val) - 1) k.val ≠ 0 := by decide +kernel
theorem gbit_all' {c k : Nat} (hc : c ≤ 6) (hk : k < c) : gbit ((1 <<< c) - 1) k ≠ 0 := gbit_all ⟨c, by omega⟩ ⟨k, by omega⟩ hk
theorem drop_lt : ∀ set : Fin 64, ∀ last : Fin 6, gbit set.val last.val ≠ 0 → set.val &&& ((1 <<< last.val) ^^^ 4294967295) < set.val := by decide +kernel
theorem drop_lt' {set last : Nat} (hs : set < 64) (hl : last < 6) (h : gbit set last ≠ 0) : set &&& ((1 <<< last) ^^^ 4294967295) < set := drop_lt ⟨set, hs⟩ ⟨last, hl⟩ h
set_option maxHeartbeats 4000000 in
set_option maxRecDepth 100000 in
theorem L_stops (X : gC) (S : Nat → Nat → Nat) (a : Nat) (K : gOk X cX4_listStops 4 wsX4_listStops RX4) (hRf : 1 ≤ (g_R X).frames) (hRl : 21 ≤ (g_R X).locals) (hw : wfC S) (ha : a < 2147483648) : ∀ (k v : Nat) (c : Nat) (t : Nat → Nat), v + k = S 1 2 → (c ≤ 6) → gG X 52 [(0, .ref (g_ad X 18)), (1, .int (nI (a))), (2, .int (nI (((gfor (fStop S a) k v (c, t)).1)))), (3, .int (nI ((S 1 2))))] [] (va_up S 20 (((gfor (fStop S a) k v (c, t)).2))) → gG X 4 [(0, .ref (g_ad X 18)), (1, .int (nI (a))), (2, .int (nI (c))), (3, .int (nI (v)))] [] (va_up S 20 (t)) := by
  have hin4 : ∀ w ∈ u_ws RX4 TX4 4, w ∈ wsX4_listStops := by decide +kernel
  obtain ⟨w0, w1, w2, w3, wsh, wst, a2, a3, a4, a5, a6, a7⟩ := id hw
  intro k
  induction k with
  | zero =>
    intro v c t hj hc kk
    have hj : v = S 1 2 := by omega
    refine g_iload_n K 3 dX4_listStops_4 rfl ?_
    refine g_aload_n K 0 dX4_listStops_5 rfl ?_
    refine g_getR (q' := 1) (q := 18) (ci := 4) (k := 0) (N := 4) (C := RX4) (T := TX4) (ref := "ValveWalk$Walks") K rfl rfl rfl (by decide) hin4 (by decide +kernel) rfl dX4_listStops_6 ?_
    refine g_callVd (q := 1) (ci := 2) (As := []) (rest := [.int (nI (v))]) (C := RX2) (T := TX2) (N := 12) K (cX2_valveCount_k (g_z X) (va_up S 20 (t))) (cwV 0 K.1.2.2.2.2 gX4_listStops_X2_valveCount rfl rfl rfl (by decide +kernel) ⟨Nat.le_trans (Nat.le_of_ble_eq_true rfl) hRf, Nat.le_trans (Nat.le_of_ble_eq_true rfl) hRl⟩) rfl rfl rfl rfl (Nat.le_of_ble_eq_true rfl) dX4_listStops_9 ?_
    refine g_topE (S 1 2) rfl ?_
    refine g_icmp_ge (tgt := 52) (a := v) (b := S 1 2) K dX4_listStops_12 (by decide) (by omega) (by omega) (fun h12_1 => ?_) (fun h12_1 => ?_)
    · refine g_loc (lo' := [(0, .ref (g_ad X 18)), (1, .int (nI (a))), (2, .int (nI (c))), (3, .int (nI (v)))]) [0, 1, 2, 3] rfl ?_
      exact g_cast (by first | rfl | (rw [hj]; done) | (rw [hj]; rfl)) rfl rfl kk
    · exact absurd h12_1 (by omega)
  | succ k ih =>
    intro v c t hj hc kk
    refine g_iload_n K 3 dX4_listStops_4 rfl ?_
    refine g_aload_n K 0 dX4_listStops_5 rfl ?_
    refine g_getR (q' := 1) (q := 18) (ci := 4) (k := 0) (N := 4) (C := RX4) (T := TX4) (ref := "ValveWalk$Walks") K rfl rfl rfl (by decide) hin4 (by decide +kernel) rfl dX4_listStops_6 ?_
    refine g_callVd (q := 1) (ci := 2) (As := []) (rest := [.int (nI (v))]) (C := RX2) (T := TX2) (N := 12) K (cX2_valveCount_k (g_z X) (va_up S 20 (t))) (cwV 0 K.1.2.2.2.2 gX4_listStops_X2_valveCount rfl rfl rfl (by decide +kernel) ⟨Nat.le_trans (Nat.le_of_ble_eq_true rfl) hRf, Nat.le_trans (Nat.le_of_ble_eq_true rfl) hRl⟩) rfl rfl rfl rfl (Nat.le_of_ble_eq_true rfl) dX4_listStops_9 ?_
    refine g_topE (S 1 2) rfl ?_
    refine g_icmp_ge (tgt := 52) (a := v) (b := S 1 2) K dX4_listStops_12 (by decide) (by omega) (by omega) (fun h12_1 => ?_) (fun h12_1 => ?_)
    · exact absurd h12_1 (by omega)
    · refine g_iload_n K 1 dX4_listStops_15 rfl ?_
      refine g_iload_n K 3 dX4_listStops_16 rfl ?_
      refine g_callNd (As := [.int (nI (a)), .int (nI (v))]) (rest := []) (host := "ValveWalk") K (cX5_hasBit_k (g_z X) (va_up S 20 (t)) a v (by omega) (by omega)) ⟨va_cnB 2 K.1.2.2.2.2 gX4_listStops_X5_hasBit_n32 rfl rfl rfl (K.2.2.2.1 _ (List.mem_of_getElem? (i := 9) rfl)) (K.1.2.2.2.2 _ (by decide +kernel)) (by decide +kernel) ⟨Nat.le_trans (Nat.le_of_ble_eq_true rfl) hRf, Nat.le_trans (Nat.le_of_ble_eq_true rfl) hRl⟩, K.1.2.2.2.2 _ (by decide +kernel), trivial⟩ rfl rfl (Nat.le_of_ble_eq_true rfl) dX4_listStops_17 ?_
      have hf17_2 := gbit_le a v
      refine g_if_eq (tgt := 46) (a := gbit a v) K dX4_listStops_20 (by decide) (by omega) (fun h20_3 => ?_) (fun h20_3 => ?_)
      · refine g_iinc (a := v) (b := v + 1) (lo' := [(3, .int (nI (v + 1))), (0, .ref (g_ad X 18)), (1, .int (nI (a))), (2, .int (nI (c)))]) K 3 dX4_listStops_46 rfl (gi_inc _) (by decide) rfl ?_
        refine g_goto (tgt := 4) K dX4_listStops_49 (by decide) ?_
        refine g_loc (lo' := [(0, .ref (g_ad X 18)), (1, .int (nI (a))), (2, .int (nI (c))), (3, .int (nI (v + 1)))]) [1, 2, 3, 0] rfl ?_
        exact ih (v + 1) c t (by omega) (by omega) (by rw [gfor_succ, show (fStop S a) v (c, t) = (c, t) from by simp only [fStop]; (repeat' split) <;> first | rfl | contradiction | (exfalso; omega) | omega] at kk; exact kk)
      · refine g_iload_n K 2 dX4_listStops_23 rfl ?_
        refine g_bipush K 6 dX4_listStops_24 (by decide +kernel) ?_
        refine g_icmp_ge (tgt := 46) (a := c) (b := 6) K dX4_listStops_26 (by decide) (by omega) (by omega) (fun h26_4 => ?_) (fun h26_4 => ?_)
        · refine g_iinc (a := v) (b := v + 1) (lo' := [(3, .int (nI (v + 1))), (0, .ref (g_ad X 18)), (1, .int (nI (a))), (2, .int (nI (c)))]) K 3 dX4_listStops_46 rfl (gi_inc _) (by decide) rfl ?_
          refine g_goto (tgt := 4) K dX4_listStops_49 (by decide) ?_
          refine g_loc (lo' := [(0, .ref (g_ad X 18)), (1, .int (nI (a))), (2, .int (nI (c))), (3, .int (nI (v + 1)))]) [1, 2, 3, 0] rfl ?_
          exact ih (v + 1) c t (by omega) (by omega) (by rw [gfor_succ, show (fStop S a) v (c, t) = (c, t) from by simp only [fStop]; (repeat' split) <;> first | rfl | contradiction | (exfalso; omega) | omega] at kk; exact kk)
        · refine g_aload_n K 0 dX4_listStops_29 rfl ?_
          refine g_getR (q' := 20) (q := 18) (ci := 4) (k := 2) (N := 4) (C := RX4) (T := TX4) (ref := "ValveWalk$Walks") K rfl rfl rfl (by decide) hin4 (by decide +kernel) rfl dX4_listStops_30 ?_
          refine g_iload_n K 2 dX4_listStops_33 rfl ?_
          refine g_aload_n K 0 dX4_listStops_34 rfl ?_
          refine g_getR (q' := 1) (q := 18) (ci := 4) (k := 0) (N := 4) (C := RX4) (T := TX4) (ref := "ValveWalk$Walks") K rfl rfl rfl (by decide) hin4 (by decide +kernel) rfl dX4_listStops_35 ?_
          refine g_iload_n K 3 dX4_listStops_38 rfl ?_
          refine g_callVd (q := 1) (ci := 2) (As := [.int (nI (v))]) (rest := [.int (nI (c)), .ref (g_ad X 20)]) (C := RX2) (T := TX2) (N := 12) K (cX2_nodeOfValve_k (g_z X) (va_up S 20 (t)) v ((wfC_up hw (q := 20) (by decide) _)) (by omega)) (cwV 1 K.1.2.2.2.2 gX4_listStops_X2_nodeOfValve rfl rfl rfl (by decide +kernel) ⟨Nat.le_trans (Nat.le_of_ble_eq_true rfl) hRf, Nat.le_trans (Nat.le_of_ble_eq_true rfl) hRl⟩) rfl rfl rfl rfl (Nat.le_of_ble_eq_true rfl) dX4_listStops_39 ?_
          refine g_topE (S 4 (S 7 v)) rfl ?_
          have h42 := a4 (S 7 v)
          refine g_ast (q := 20) (n := 6) (i := c) (a := S 4 (S 7 v)) K rfl (by decide) (by omega) dX4_listStops_42 ?_
          refine g_cast (S' := (va_up S 20 (va_up t (c) (S 4 (S 7 v))))) rfl rfl (gup_w1a) ?_
          refine g_iinc (a := c) (b := c + 1) (lo' := [(2, .int (nI (c + 1))), (0, .ref (g_ad X 18)), (1, .int (nI (a))), (3, .int (nI (v)))]) K 2 dX4_listStops_43 rfl (gi_inc _) (by decide) rfl ?_
          refine g_iinc (a := v) (b := v + 1) (lo' := [(3, .int (nI (v + 1))), (2, .int (nI (c + 1))), (0, .ref (g_ad X 18)), (1, .int (nI (a)))]) K 3 dX4_listStops_46 rfl (gi_inc _) (by decide) rfl ?_
          refine g_goto (tgt := 4) K dX4_listStops_49 (by decide) ?_
          refine g_loc (lo' := [(0, .ref (g_ad X 18)), (1, .int (nI (a))), (2, .int (nI (c + 1))), (3, .int (nI (v + 1)))]) [2, 3, 1, 0] rfl ?_
          exact ih (v + 1) (c + 1) (va_up t (c) (S 4 (S 7 v))) (by omega) (by omega) (by rw [gfor_succ, show (fStop S a) v (c, t) = (c + 1, va_up t (c) (S 4 (S 7 v))) from by simp only [fStop]; (repeat' split) <;> first | rfl | contradiction | (exfalso; omega) | omega] at kk; exact kk)

set_option maxHeartbeats 4000000 in
set_option maxRecDepth 100000 in
theorem cX4_listStops_k (Z : gZ) (S : Nat → Nat → Nat) (a : Nat) (hw : wfC S) (ha : a < 2147483648) : gMd Z yX4_listStops wsX4_listStops { frames := 1, cells := 0, slots := 0, locals := 21 } [.ref (gz_ad Z 18), .int (nI (a))] S ((listF S a).1) (va_up S 20 (listF S a).2) := by
  refine gMd_of (cc := cX4_listStops) (maxL := 4) (ret := (some .int)) (by decide +kernel) rfl (Nat.le_of_ble_eq_true rfl) (Or.inl rfl) (fun X hZ hR K hret => ?_)
  subst hZ
  have K : gOk X cX4_listStops 4 wsX4_listStops RX4 := K
  have hRf : 1 ≤ (g_R X).frames := gR_f hR rfl
  have hRl : 21 ≤ (g_R X).locals := gR_l hR rfl
  have hin4 : ∀ w ∈ u_ws RX4 TX4 4, w ∈ wsX4_listStops := by decide +kernel
  obtain ⟨w0, w1, w2, w3, wsh, wst, a2, a3, a4, a5, a6, a7⟩ := id hw
  show gG X 0 [(0, .ref (g_ad X 18)), (1, .int (nI (a)))] [] S
  refine g_iconst K 0 dX4_listStops_0 (by decide +kernel) ?_
  refine g_istore_n (lo' := [(2, .int (nI (0))), (0, .ref (g_ad X 18)), (1, .int (nI (a)))]) K dX4_listStops_1 (by decide) rfl ?_
  refine g_iconst K 0 dX4_listStops_2 (by decide +kernel) ?_
  refine g_istore_n (lo' := [(3, .int (nI (0))), (2, .int (nI (0))), (0, .ref (g_ad X 18)), (1, .int (nI (a)))]) K dX4_listStops_3 (by decide) rfl ?_
  refine g_loc (lo' := [(0, .ref (g_ad X 18)), (1, .int (nI (a))), (2, .int (nI (0))), (3, .int (nI (0)))]) [2, 3, 1, 0] rfl ?_
  refine g_cast (S' := (va_up S 20 (S 20))) rfl rfl (up_id1 ..).symm ?_
  refine L_stops X S a K (Nat.le_trans (Nat.le_of_ble_eq_true rfl) hRf) (Nat.le_trans (Nat.le_of_ble_eq_true rfl) hRl) (hw) (ha)  (S 1 2) 0 0 (S 20) (by omega) (by decide) ?_
  refine g_iload_n K 2 dX4_listStops_52 rfl ?_
  exact g_retd hret dX4_listStops_53 rfl rfl

set_option maxHeartbeats 4000000 in
set_option maxRecDepth 100000 in
theorem cX4_lengthBetween_k (Z : gZ) (S : Nat → Nat → Nat) (x y : Nat) (hx : x < 12) (hy : y < 12) : gMd Z yX4_lengthBetween wsX4_lengthBetween { frames := 0, cells := 0, slots := 0, locals := 0 } [.ref (gz_ad Z 18), .int (nI (x)), .int (nI (y))] S (S 19 (x * 12 + y)) (S) := by
  refine gMd_of (cc := cX4_lengthBetween) (maxL := 3) (ret := (some .int)) (by decide +kernel) rfl (Nat.le_of_ble_eq_true rfl) (Or.inl rfl) (fun X hZ hR K hret => ?_)
  subst hZ
  have K : gOk X cX4_lengthBetween 3 wsX4_lengthBetween RX4 := K
  have hRf : 0 ≤ (g_R X).frames := gR_f hR rfl
  have hRl : 0 ≤ (g_R X).locals := gR_l hR rfl
  have hin4 : ∀ w ∈ u_ws RX4 TX4 4, w ∈ wsX4_lengthBetween := by decide +kernel
  show gG X 0 [(0, .ref (g_ad X 18)), (1, .int (nI (x))), (2, .int (nI (y)))] [] S
  refine g_aload_n K 0 dX4_lengthBetween_0 rfl ?_
  refine g_getR (q' := 19) (q := 18) (ci := 4) (k := 1) (N := 4) (C := RX4) (T := TX4) (ref := "ValveWalk$Walks") K rfl rfl rfl (by decide) hin4 (by decide +kernel) rfl dX4_lengthBetween_1 ?_
  refine g_iload_n K 1 dX4_lengthBetween_4 rfl ?_
  refine g_bipush K 12 dX4_lengthBetween_5 (by decide +kernel) ?_
  refine g_imul (a := x) (b := 12) K dX4_lengthBetween_7 ?_
  refine g_iload_n K 2 dX4_lengthBetween_8 rfl ?_
  refine g_iadd (a := (x) * (12)) (b := y) K dX4_lengthBetween_9 ?_
  refine g_ald (q := 19) (n := 144) (i := ((x) * (12)) + (y)) K rfl (by decide) (by omega) dX4_lengthBetween_10 ?_
  exact g_retd hret dX4_lengthBetween_11 rfl rfl

set_option maxHeartbeats 4000000 in
set_option maxRecDepth 100000 in
theorem cX4_shorten_k (Z : gZ) (S : Nat → Nat → Nat) (x y n : Nat) (hB : leB 144 1000000 (S 19)) (hx : x < 12) (hy : y < 12) (hn : n < 2147483648) : gMv Z yX4_shorten wsX4_shorten { frames := 1, cells := 0, slots := 0, locals := 15 } [.ref (gz_ad Z 18), .int (nI (x)), .int (nI (y)), .int (nI (n))] S (va_up S 19 (fShW x y n (S 19))) := by
  refine gMv_of (cc := cX4_shorten) (maxL := 5) (by decide +kernel) rfl (Nat.le_of_ble_eq_true rfl)  (fun X hZ hR K hret => ?_)
  subst hZ
  have K : gOk X cX4_shorten 5 wsX4_shorten RX4 := K
  have hRf : 1 ≤ (g_R X).frames := gR_f hR rfl
  have hRl : 15 ≤ (g_R X).locals := gR_l hR rfl
  have hin4 : ∀ w ∈ u_ws RX4 TX4 4, w ∈ wsX4_shorten := by decide +kernel
 
  show gG X 0 [(0, .ref (g_ad X 18)), (1, .int (nI (x))), (2, .int (nI (y))), (3, .int (nI (n)))] [] S
  refine g_cast (S' := (va_up S 19 (S 19))) rfl rfl (up_id1 ..).symm ?_
  refine g_iload_n K 1 dX4_shorten_0 rfl ?_
  refine g_bipush K 12 dX4_shorten_1 (by decide +kernel) ?_
  refine g_imul (a := x) (b := 12) K dX4_shorten_3 ?_
  refine g_iload_n K 2 dX4_shorten_4 rfl ?_
  refine g_iadd (a := (x) * (12)) (b := y) K dX4_shorten_5 ?_
  refine g_istore (lo' := [(4, .int (nI (((x) * (12)) + (y)))), (0, .ref (g_ad X 18)), (1, .int (nI (x))), (2, .int (nI (y))), (3, .int (nI (n)))]) K dX4_shorten_6 (by decide) rfl ?_
  have h8 := hB (x * 12 + y) (by omega)
  refine g_aload_n K 1 dX4_shorten_8 rfl ?_
  refine g_getR (q' := 19) (q := 18) (ci := 4) (k := 1) (N := 4) (C := RX4) (T := TX4) (ref := "ValveWalk$Walks") K rfl rfl rfl (by decide) hin4 (by decide +kernel) rfl dX4_shorten_9 ?_
  refine g_iload K 0 dX4_shorten_12 rfl ?_
  refine g_aload_n K 1 dX4_shorten_14 rfl ?_
  refine g_getR (q' := 19) (q := 18) (ci := 4) (k := 1) (N := 4) (C := RX4) (T := TX4) (ref := "ValveWalk$Walks") K rfl rfl rfl (by decide) hin4 (by decide +kernel) rfl dX4_shorten_15 ?_
  refine g_iload K 0 dX4_shorten_18 rfl ?_
  refine g_ald (q := 19) (n := 144) (i := ((x) * (12)) + (y)) K rfl (by decide) (by omega) dX4_shorten_20 ?_
  refine g_topE ((S 19) (((x) * (12)) + (y))) rfl ?_
  refine g_iload_n K 4 dX4_shorten_21 rfl ?_
  refine g_mmin (a := (S 19) (((x) * (12)) + (y))) (b := n) K (by decide +kernel) (by decide +kernel) (by decide +kernel) (by decide +kernel) (Nat.le_trans (Nat.le_of_ble_eq_true rfl) hRf) (Nat.le_trans (Nat.le_of_ble_eq_true rfl) hRl) (by omega) (by omega) dX4_shorten_22 ?_
  refine g_ast (q := 19) (n := 144) (i := ((x) * (12)) + (y)) (a := min ((S 19) (((x) * (12)) + (y))) (n)) K rfl (by decide) (by omega) dX4_shorten_25 ?_
  refine g_cast (S' := (va_up S 19 (va_up (S 19) (((x) * (12)) + (y)) (min ((S 19) (((x) * (12)) + (y))) (n))))) rfl rfl (gup_w1a) ?_
  exact g_retv hret dX4_shorten_26 rfl

set_option maxHeartbeats 4000000 in
set_option maxRecDepth 100000 in
theorem L_sbcell (X : gC) (S : Nat → Nat → Nat) (m : Nat) (n : Nat) (K : gOk X cX4_shortenBy 5 wsX4_shortenBy RX4) (hRf : 2 ≤ (g_R X).frames) (hRl : 39 ≤ (g_R X).locals) (hw : wfC S) (hm : m < 12) (hn : n < 12) : ∀ (k a : Nat) (w : Nat → Nat), a + k = S 1 0 → (leB 144 1000000 w) → gG X 55 [(0, .ref (g_ad X 18)), (1, .int (nI (m))), (2, .int (nI (n))), (3, .int (nI ((S 1 0))))] [] (va_up S 19 (((gfor (fCellM m n) k a w)))) → gG X 15 [(0, .ref (g_ad X 18)), (1, .int (nI (m))), (2, .int (nI (n))), (3, .int (nI (a)))] [] (va_up S 19 (w)) := by
  have hin4 : ∀ w ∈ u_ws RX4 TX4 4, w ∈ wsX4_shortenBy := by decide +kernel
  obtain ⟨w0, w1, w2, w3, wsh, wst, a2, a3, a4, a5, a6, a7⟩ := id hw
  intro k
  induction k with
  | zero =>
    intro a w hj hB kk
    have hj : a = S 1 0 := by omega
    refine g_iload_n K 3 dX4_shortenBy_15 rfl ?_
    refine g_aload_n K 0 dX4_shortenBy_16 rfl ?_
    refine g_getR (q' := 1) (q := 18) (ci := 4) (k := 0) (N := 4) (C := RX4) (T := TX4) (ref := "ValveWalk$Walks") K rfl rfl rfl (by decide) hin4 (by decide +kernel) rfl dX4_shortenBy_17 ?_
    refine g_callVd (q := 1) (ci := 2) (As := []) (rest := [.int (nI (a))]) (C := RX2) (T := TX2) (N := 12) K (cX2_nodeCount_k (g_z X) (va_up S 19 (w))) (cwV 0 K.1.2.2.2.2 gX4_shortenBy_X2_nodeCount rfl rfl rfl (by decide +kernel) ⟨Nat.le_trans (Nat.le_of_ble_eq_true rfl) hRf, Nat.le_trans (Nat.le_of_ble_eq_true rfl) hRl⟩) rfl rfl rfl rfl (Nat.le_of_ble_eq_true rfl) dX4_shortenBy_20 ?_
    refine g_topE (S 1 0) rfl ?_
    refine g_icmp_ge (tgt := 55) (a := a) (b := S 1 0) K dX4_shortenBy_23 (by decide) (by omega) (by omega) (fun h23_1 => ?_) (fun h23_1 => ?_)
    · refine g_loc (lo' := [(0, .ref (g_ad X 18)), (1, .int (nI (m))), (2, .int (nI (n))), (3, .int (nI (a)))]) [0, 1, 2, 3] rfl ?_
      exact g_cast (by first | rfl | (rw [hj]; done) | (rw [hj]; rfl)) rfl rfl kk
    · exact absurd h23_1 (by omega)
  | succ k ih =>
    intro a w hj hB kk
    refine g_iload_n K 3 dX4_shortenBy_15 rfl ?_
    refine g_aload_n K 0 dX4_shortenBy_16 rfl ?_
    refine g_getR (q' := 1) (q := 18) (ci := 4) (k := 0) (N := 4) (C := RX4) (T := TX4) (ref := "ValveWalk$Walks") K rfl rfl rfl (by decide) hin4 (by decide +kernel) rfl dX4_shortenBy_17 ?_
    refine g_callVd (q := 1) (ci := 2) (As := []) (rest := [.int (nI (a))]) (C := RX2) (T := TX2) (N := 12) K (cX2_nodeCount_k (g_z X) (va_up S 19 (w))) (cwV 0 K.1.2.2.2.2 gX4_shortenBy_X2_nodeCount rfl rfl rfl (by decide +kernel) ⟨Nat.le_trans (Nat.le_of_ble_eq_true rfl) hRf, Nat.le_trans (Nat.le_of_ble_eq_true rfl) hRl⟩) rfl rfl rfl rfl (Nat.le_of_ble_eq_true rfl) dX4_shortenBy_20 ?_
    refine g_topE (S 1 0) rfl ?_
    refine g_icmp_ge (tgt := 55) (a := a) (b := S 1 0) K dX4_shortenBy_23 (by decide) (by omega) (by omega) (fun h23_1 => ?_) (fun h23_1 => ?_)
    · exact absurd h23_1 (by omega)
    · refine g_aload_n K 0 dX4_shortenBy_26 rfl ?_
      refine g_iload_n K 2 dX4_shortenBy_27 rfl ?_
      refine g_iload_n K 1 dX4_shortenBy_28 rfl ?_
      refine g_callVd (q := 18) (ci := 4) (As := [.int (nI (n)), .int (nI (m))]) (rest := []) (C := RX4) (T := TX4) (N := 4) K (cX4_lengthBetween_k (g_z X) (va_up S 19 (w)) n m (by omega) (by omega)) (cwV 2 K.1.2.2.2.2 gX4_shortenBy_X4_lengthBetween rfl rfl rfl (by decide +kernel) ⟨Nat.le_trans (Nat.le_of_ble_eq_true rfl) hRf, Nat.le_trans (Nat.le_of_ble_eq_true rfl) hRl⟩) rfl rfl rfl rfl (Nat.le_of_ble_eq_true rfl) dX4_shortenBy_29 ?_
      refine g_topE (w ((n) * 12 + (m))) rfl ?_
      refine g_aload_n K 0 dX4_shortenBy_32 rfl ?_
      refine g_iload_n K 1 dX4_shortenBy_33 rfl ?_
      refine g_iload_n K 3 dX4_shortenBy_34 rfl ?_
      refine g_callVd (q := 18) (ci := 4) (As := [.int (nI (m)), .int (nI (a))]) (rest := [.int (nI (w ((n) * 12 + (m))))]) (C := RX4) (T := TX4) (N := 4) K (cX4_lengthBetween_k (g_z X) (va_up S 19 (w)) m a (by omega) (by omega)) (cwV 2 K.1.2.2.2.2 gX4_shortenBy_X4_lengthBetween rfl rfl rfl (by decide +kernel) ⟨Nat.le_trans (Nat.le_of_ble_eq_true rfl) hRf, Nat.le_trans (Nat.le_of_ble_eq_true rfl) hRl⟩) rfl rfl rfl rfl (Nat.le_of_ble_eq_true rfl) dX4_shortenBy_35 ?_
      refine g_topE (w ((m) * 12 + (a))) rfl ?_
      have h1 := hB (n * 12 + m) (by omega)
      have h2 := hB (m * 12 + a) (by omega)
      refine g_iadd (a := w ((n) * 12 + (m))) (b := w ((m) * 12 + (a))) K dX4_shortenBy_38 ?_
      refine g_istore (lo' := [(4, .int (nI ((w ((n) * 12 + (m))) + (w ((m) * 12 + (a)))))), (0, .ref (g_ad X 18)), (1, .int (nI (m))), (2, .int (nI (n))), (3, .int (nI (a)))]) K dX4_shortenBy_39 (by decide) rfl ?_
      refine g_aload_n K 1 dX4_shortenBy_41 rfl ?_
      refine g_iload_n K 3 dX4_shortenBy_42 rfl ?_
      refine g_iload_n K 4 dX4_shortenBy_43 rfl ?_
      refine g_iload K 0 dX4_shortenBy_44 rfl ?_
      refine g_callVv (q := 18) (ci := 4) (As := [.int (nI (n)), .int (nI (a)), .int (nI ((w ((n) * 12 + (m))) + (w ((m) * 12 + (a)))))]) (rest := []) (C := RX4) (T := TX4) (N := 4) K (cX4_shorten_k (g_z X) (va_up S 19 (w)) n a ((w ((n) * 12 + (m))) + (w ((m) * 12 + (a)))) (hB) (by omega) (by omega) (by omega)) (cwV 3 K.1.2.2.2.2 gX4_shortenBy_X4_shorten rfl rfl rfl (by decide +kernel) ⟨Nat.le_trans (Nat.le_of_ble_eq_true rfl) hRf, Nat.le_trans (Nat.le_of_ble_eq_true rfl) hRl⟩) rfl rfl rfl rfl (Nat.le_of_ble_eq_true rfl) dX4_shortenBy_46 ?_
      refine g_cast (S' := (va_up S 19 (fShW (n) (a) ((w ((n) * 12 + (m))) + (w ((m) * 12 + (a)))) w))) rfl rfl (up_up ..) ?_
      refine g_iinc (a := a) (b := a + 1) (lo' := [(3, .int (nI (a + 1))), (4, .int (nI ((w ((n) * 12 + (m))) + (w ((m) * 12 + (a)))))), (0, .ref (g_ad X 18)), (1, .int (nI (m))), (2, .int (nI (n)))]) K 4 dX4_shortenBy_49 rfl (gi_inc _) (by decide) rfl ?_
      refine g_goto (tgt := 15) K dX4_shortenBy_52 (by decide) ?_
      refine g_loc (lo' := [(0, .ref (g_ad X 18)), (1, .int (nI (m))), (2, .int (nI (n))), (3, .int (nI (a + 1)))]) [2, 3, 4, 0] rfl ?_
      exact ih (a + 1) (fShW (n) (a) ((w ((n) * 12 + (m))) + (w ((m) * 12 + (a)))) w) (by omega) (fShW_le hB (by omega)) kk

set_option maxHeartbeats 4000000 in
set_option maxRecDepth 100000 in
theorem L_sbrow (X : gC) (S : Nat → Nat → Nat) (m : Nat) (K : gOk X cX4_shortenBy 5 wsX4_shortenBy RX4) (hRf : 2 ≤ (g_R X).frames) (hRl : 39 ≤ (g_R X).locals) (hw : wfC S) (hm : m < 12) : ∀ (k n : Nat) (w : Nat → Nat), n + k = S 1 0 → (leB 144 1000000 w) → gG X 61 [(0, .ref (g_ad X 18)), (1, .int (nI (m))), (2, .int (nI ((S 1 0))))] [] (va_up S 19 (((gfor (fRowM S m) k n w)))) → gG X 2 [(0, .ref (g_ad X 18)), (1, .int (nI (m))), (2, .int (nI (n)))] [] (va_up S 19 (w)) := by
  have hin4 : ∀ w ∈ u_ws RX4 TX4 4, w ∈ wsX4_shortenBy := by decide +kernel
  obtain ⟨w0, w1, w2, w3, wsh, wst, a2, a3, a4, a5, a6, a7⟩ := id hw
  intro k
  induction k with
  | zero =>
    intro n w hj hB kk
    have hj : n = S 1 0 := by omega
    refine g_iload_n K 2 dX4_shortenBy_2 rfl ?_
    refine g_aload_n K 0 dX4_shortenBy_3 rfl ?_
    refine g_getR (q' := 1) (q := 18) (ci := 4) (k := 0) (N := 4) (C := RX4) (T := TX4) (ref := "ValveWalk$Walks") K rfl rfl rfl (by decide) hin4 (by decide +kernel) rfl dX4_shortenBy_4 ?_
    refine g_callVd (q := 1) (ci := 2) (As := []) (rest := [.int (nI (n))]) (C := RX2) (T := TX2) (N := 12) K (cX2_nodeCount_k (g_z X) (va_up S 19 (w))) (cwV 0 K.1.2.2.2.2 gX4_shortenBy_X2_nodeCount rfl rfl rfl (by decide +kernel) ⟨Nat.le_trans (Nat.le_of_ble_eq_true rfl) hRf, Nat.le_trans (Nat.le_of_ble_eq_true rfl) hRl⟩) rfl rfl rfl rfl (Nat.le_of_ble_eq_true rfl) dX4_shortenBy_7 ?_
    refine g_topE (S 1 0) rfl ?_
    refine g_icmp_ge (tgt := 61) (a := n) (b := S 1 0) K dX4_shortenBy_10 (by decide) (by omega) (by omega) (fun h10_1 => ?_) (fun h10_1 => ?_)
    · refine g_loc (lo' := [(0, .ref (g_ad X 18)), (1, .int (nI (m))), (2, .int (nI (n)))]) [0, 1, 2] rfl ?_
      exact g_cast (by first | rfl | (rw [hj]; done) | (rw [hj]; rfl)) rfl rfl kk
    · exact absurd h10_1 (by omega)
  | succ k ih =>
    intro n w hj hB kk
    refine g_iload_n K 2 dX4_shortenBy_2 rfl ?_
    refine g_aload_n K 0 dX4_shortenBy_3 rfl ?_
    refine g_getR (q' := 1) (q := 18) (ci := 4) (k := 0) (N := 4) (C := RX4) (T := TX4) (ref := "ValveWalk$Walks") K rfl rfl rfl (by decide) hin4 (by decide +kernel) rfl dX4_shortenBy_4 ?_
    refine g_callVd (q := 1) (ci := 2) (As := []) (rest := [.int (nI (n))]) (C := RX2) (T := TX2) (N := 12) K (cX2_nodeCount_k (g_z X) (va_up S 19 (w))) (cwV 0 K.1.2.2.2.2 gX4_shortenBy_X2_nodeCount rfl rfl rfl (by decide +kernel) ⟨Nat.le_trans (Nat.le_of_ble_eq_true rfl) hRf, Nat.le_trans (Nat.le_of_ble_eq_true rfl) hRl⟩) rfl rfl rfl rfl (Nat.le_of_ble_eq_true rfl) dX4_shortenBy_7 ?_
    refine g_topE (S 1 0) rfl ?_
    refine g_icmp_ge (tgt := 61) (a := n) (b := S 1 0) K dX4_shortenBy_10 (by decide) (by omega) (by omega) (fun h10_1 => ?_) (fun h10_1 => ?_)
    · exact absurd h10_1 (by omega)
    · refine g_iconst K 0 dX4_shortenBy_13 (by decide +kernel) ?_
      refine g_istore_n (lo' := [(3, .int (nI (0))), (0, .ref (g_ad X 18)), (1, .int (nI (m))), (2, .int (nI (n)))]) K dX4_shortenBy_14 (by decide) rfl ?_
      refine g_loc (lo' := [(0, .ref (g_ad X 18)), (1, .int (nI (m))), (2, .int (nI (n))), (3, .int (nI (0)))]) [1, 2, 3, 0] rfl ?_
      refine L_sbcell X S m n K (Nat.le_trans (Nat.le_of_ble_eq_true rfl) hRf) (Nat.le_trans (Nat.le_of_ble_eq_true rfl) hRl) (hw) (hm) (by omega)  (S 1 0) 0 w (by omega) (hB) ?_
      refine g_iinc (a := n) (b := n + 1) (lo' := [(2, .int (nI (n + 1))), (0, .ref (g_ad X 18)), (1, .int (nI (m))), (3, .int (nI ((S 1 0))))]) K 2 dX4_shortenBy_55 rfl (gi_inc _) (by decide) rfl ?_
      refine g_goto (tgt := 2) K dX4_shortenBy_58 (by decide) ?_
      refine g_loc (lo' := [(0, .ref (g_ad X 18)), (1, .int (nI (m))), (2, .int (nI (n + 1)))]) [1, 2, 0] rfl ?_
      exact ih (n + 1) (((gfor (fCellM m n) (S 1 0) 0 w))) (by omega) (gCellM_le m n (by omega) _ 0 w (by omega) hB) kk

set_option maxHeartbeats 4000000 in
set_option maxRecDepth 100000 in
theorem cX4_shortenBy_k (Z : gZ) (S : Nat → Nat → Nat) (m : Nat) (hw : wfC S) (hB : leB 144 1000000 (S 19)) (hm : m < 12) : gMv Z yX4_shortenBy wsX4_shortenBy { frames := 2, cells := 0, slots := 0, locals := 39 } [.ref (gz_ad Z 18), .int (nI (m))] S (va_up S 19 (fMid S m (S 19))) := by
  refine gMv_of (cc := cX4_shortenBy) (maxL := 5) (by decide +kernel) rfl (Nat.le_of_ble_eq_true rfl)  (fun X hZ hR K hret => ?_)
  subst hZ
  have K : gOk X cX4_shortenBy 5 wsX4_shortenBy RX4 := K
  have hRf : 2 ≤ (g_R X).frames := gR_f hR rfl
  have hRl : 39 ≤ (g_R X).locals := gR_l hR rfl
  have hin4 : ∀ w ∈ u_ws RX4 TX4 4, w ∈ wsX4_shortenBy := by decide +kernel
  obtain ⟨w0, w1, w2, w3, wsh, wst, a2, a3, a4, a5, a6, a7⟩ := id hw
  show gG X 0 [(0, .ref (g_ad X 18)), (1, .int (nI (m)))] [] S
  refine g_iconst K 0 dX4_shortenBy_0 (by decide +kernel) ?_
  refine g_istore_n (lo' := [(2, .int (nI (0))), (0, .ref (g_ad X 18)), (1, .int (nI (m)))]) K dX4_shortenBy_1 (by decide) rfl ?_
  refine g_loc (lo' := [(0, .ref (g_ad X 18)), (1, .int (nI (m))), (2, .int (nI (0)))]) [1, 2, 0] rfl ?_
  refine g_cast (S' := (va_up S 19 (S 19))) rfl rfl (up_id1 ..).symm ?_
  refine L_sbrow X S m K (Nat.le_trans (Nat.le_of_ble_eq_true rfl) hRf) (Nat.le_trans (Nat.le_of_ble_eq_true rfl) hRl) (hw) (hm)  (S 1 0) 0 (S 19) (by omega) (hB) ?_
  exact g_retv hret dX4_shortenBy_61 rfl

set_option maxHeartbeats 4000000 in
set_option maxRecDepth 100000 in
theorem L_mcell (X : gC) (S : Nat → Nat → Nat) (n : Nat) (K : gOk X cX4_measure 4 wsX4_measure RX4) (hRf : 0 ≤ (g_R X).frames) (hRl : 0 ≤ (g_R X).locals) (hn : n < 12) : ∀ (k m : Nat) (w : Nat → Nat), m + k = 12 → gG X 44 [(0, .ref (g_ad X 18)), (1, .int (nI (n))), (2, .int (nI (12)))] [] (va_up S 19 (((gfor (fCell n) k m w)))) → gG X 10 [(0, .ref (g_ad X 18)), (1, .int (nI (n))), (2, .int (nI (m)))] [] (va_up S 19 (w)) := by
  have hin4 : ∀ w ∈ u_ws RX4 TX4 4, w ∈ wsX4_measure := by decide +kernel
  intro k
  induction k with
  | zero =>
    intro m w hj kk
    have hj : m = 12 := by omega
    refine g_iload_n K 2 dX4_measure_10 rfl ?_
    refine g_bipush K 12 dX4_measure_11 (by decide +kernel) ?_
    refine g_icmp_ge (tgt := 44) (a := m) (b := 12) K dX4_measure_13 (by decide) (by omega) (by omega) (fun h13_1 => ?_) (fun h13_1 => ?_)
    · refine g_loc (lo' := [(0, .ref (g_ad X 18)), (1, .int (nI (n))), (2, .int (nI (m)))]) [0, 1, 2] rfl ?_
      exact g_cast (by first | rfl | (rw [hj]; done) | (rw [hj]; rfl)) rfl rfl kk
    · exact absurd h13_1 (by omega)
  | succ k ih =>
    intro m w hj kk
    refine g_iload_n K 2 dX4_measure_10 rfl ?_
    refine g_bipush K 12 dX4_measure_11 (by decide +kernel) ?_
    refine g_icmp_ge (tgt := 44) (a := m) (b := 12) K dX4_measure_13 (by decide) (by omega) (by omega) (fun h13_1 => ?_) (fun h13_1 => ?_)
    · exact absurd h13_1 (by omega)
    · refine g_aload_n K 0 dX4_measure_16 rfl ?_
      refine g_getR (q' := 19) (q := 18) (ci := 4) (k := 1) (N := 4) (C := RX4) (T := TX4) (ref := "ValveWalk$Walks") K rfl rfl rfl (by decide) hin4 (by decide +kernel) rfl dX4_measure_17 ?_
      refine g_iload_n K 1 dX4_measure_20 rfl ?_
      refine g_bipush K 12 dX4_measure_21 (by decide +kernel) ?_
      refine g_imul (a := n) (b := 12) K dX4_measure_23 ?_
      refine g_iload_n K 2 dX4_measure_24 rfl ?_
      refine g_iadd (a := (n) * (12)) (b := m) K dX4_measure_25 ?_
      refine g_iload_n K 1 dX4_measure_26 rfl ?_
      refine g_iload_n K 2 dX4_measure_27 rfl ?_
      refine g_icmp_ne (tgt := 35) (a := n) (b := m) K dX4_measure_28 (by decide) (by omega) (by omega) (fun h28_2 => ?_) (fun h28_2 => ?_)
      · refine g_ldc (w := 1000000) K 1000000 (K.1.2.2.2.2 _ (by decide +kernel)) (by decide +kernel) dX4_measure_35 ?_
        refine g_ast (q := 19) (n := 144) (i := ((n) * (12)) + (m)) (a := 1000000) K rfl (by decide) (by omega) dX4_measure_37 ?_
        refine g_cast (S' := (va_up S 19 (va_up w (((n) * (12)) + (m)) (1000000)))) rfl rfl (gup_w1a) ?_
        refine g_iinc (a := m) (b := m + 1) (lo' := [(2, .int (nI (m + 1))), (0, .ref (g_ad X 18)), (1, .int (nI (n)))]) K 2 dX4_measure_38 rfl (gi_inc _) (by decide) rfl ?_
        refine g_goto (tgt := 10) K dX4_measure_41 (by decide) ?_
        refine g_loc (lo' := [(0, .ref (g_ad X 18)), (1, .int (nI (n))), (2, .int (nI (m + 1)))]) [1, 2, 0] rfl ?_
        exact ih (m + 1) (va_up w (((n) * (12)) + (m)) (1000000)) (by omega)  (by rw [gfor_succ, show (fCell n) m w = va_up w (((n) * (12)) + (m)) (1000000) from by simp only [fCell]; (repeat' split) <;> first | rfl | contradiction | (exfalso; omega) | omega] at kk; exact kk)
      · refine g_iconst K 0 dX4_measure_31 (by decide +kernel) ?_
        refine g_goto (tgt := 37) K dX4_measure_32 (by decide) ?_
        refine g_ast (q := 19) (n := 144) (i := ((n) * (12)) + (m)) (a := 0) K rfl (by decide) (by omega) dX4_measure_37 ?_
        refine g_cast (S' := (va_up S 19 (va_up w (((n) * (12)) + (m)) (0)))) rfl rfl (gup_w1a) ?_
        refine g_iinc (a := m) (b := m + 1) (lo' := [(2, .int (nI (m + 1))), (0, .ref (g_ad X 18)), (1, .int (nI (n)))]) K 2 dX4_measure_38 rfl (gi_inc _) (by decide) rfl ?_
        refine g_goto (tgt := 10) K dX4_measure_41 (by decide) ?_
        refine g_loc (lo' := [(0, .ref (g_ad X 18)), (1, .int (nI (n))), (2, .int (nI (m + 1)))]) [1, 2, 0] rfl ?_
        exact ih (m + 1) (va_up w (((n) * (12)) + (m)) (0)) (by omega)  (by rw [gfor_succ, show (fCell n) m w = va_up w (((n) * (12)) + (m)) (0) from by simp only [fCell]; (repeat' split) <;> first | rfl | contradiction | (exfalso; omega) | omega] at kk; exact kk)

set_option maxHeartbeats 4000000 in
set_option maxRecDepth 100000 in
theorem L_mrow (X : gC) (S : Nat → Nat → Nat) (K : gOk X cX4_measure 4 wsX4_measure RX4) (hRf : 0 ≤ (g_R X).frames) (hRl : 0 ≤ (g_R X).locals) : ∀ (k n : Nat) (w : Nat → Nat), n + k = 12 → gG X 50 [(0, .ref (g_ad X 18)), (1, .int (nI (12)))] [] (va_up S 19 (((gfor (fRow) k n w)))) → gG X 2 [(0, .ref (g_ad X 18)), (1, .int (nI (n)))] [] (va_up S 19 (w)) := by
  have hin4 : ∀ w ∈ u_ws RX4 TX4 4, w ∈ wsX4_measure := by decide +kernel
  intro k
  induction k with
  | zero =>
    intro n w hj kk
    have hj : n = 12 := by omega
    refine g_iload_n K 1 dX4_measure_2 rfl ?_
    refine g_bipush K 12 dX4_measure_3 (by decide +kernel) ?_
    refine g_icmp_ge (tgt := 50) (a := n) (b := 12) K dX4_measure_5 (by decide) (by omega) (by omega) (fun h5_1 => ?_) (fun h5_1 => ?_)
    · refine g_loc (lo' := [(0, .ref (g_ad X 18)), (1, .int (nI (n)))]) [0, 1] rfl ?_
      exact g_cast (by first | rfl | (rw [hj]; done) | (rw [hj]; rfl)) rfl rfl kk
    · exact absurd h5_1 (by omega)
  | succ k ih =>
    intro n w hj kk
    refine g_iload_n K 1 dX4_measure_2 rfl ?_
    refine g_bipush K 12 dX4_measure_3 (by decide +kernel) ?_
    refine g_icmp_ge (tgt := 50) (a := n) (b := 12) K dX4_measure_5 (by decide) (by omega) (by omega) (fun h5_1 => ?_) (fun h5_1 => ?_)
    · exact absurd h5_1 (by omega)
    · refine g_iconst K 0 dX4_measure_8 (by decide +kernel) ?_
      refine g_istore_n (lo' := [(2, .int (nI (0))), (0, .ref (g_ad X 18)), (1, .int (nI (n)))]) K dX4_measure_9 (by decide) rfl ?_
      refine g_loc (lo' := [(0, .ref (g_ad X 18)), (1, .int (nI (n))), (2, .int (nI (0)))]) [1, 2, 0] rfl ?_
      refine L_mcell X S n K (Nat.le_trans (Nat.le_of_ble_eq_true rfl) hRf) (Nat.le_trans (Nat.le_of_ble_eq_true rfl) hRl) (by omega)  12 0 w (by omega)  ?_
      refine g_iinc (a := n) (b := n + 1) (lo' := [(1, .int (nI (n + 1))), (0, .ref (g_ad X 18)), (2, .int (nI (12)))]) K 1 dX4_measure_44 rfl (gi_inc _) (by decide) rfl ?_
      refine g_goto (tgt := 2) K dX4_measure_47 (by decide) ?_
      refine g_loc (lo' := [(0, .ref (g_ad X 18)), (1, .int (nI (n + 1)))]) [1, 0] rfl ?_
      exact ih (n + 1) (((gfor (fCell n) 12 0 w))) (by omega)  kk

set_option maxHeartbeats 4000000 in
set_option maxRecDepth 100000 in
theorem L_mpipe (X : gC) (S : Nat → Nat → Nat) (K : gOk X cX4_measure 4 wsX4_measure RX4) (hRf : 2 ≤ (g_R X).frames) (hRl : 39 ≤ (g_R X).locals) (hw : wfC S) : ∀ (k p : Nat) (w : Nat → Nat), p + k = S 1 1 → (leB 144 1000000 w) → gG X 117 [(0, .ref (g_ad X 18)), (1, .int (nI ((S 1 1))))] [] (va_up S 19 (((gfor (fPipeW S) k p w)))) → gG X 52 [(0, .ref (g_ad X 18)), (1, .int (nI (p)))] [] (va_up S 19 (w)) := by
  have hin4 : ∀ w ∈ u_ws RX4 TX4 4, w ∈ wsX4_measure := by decide +kernel
  obtain ⟨w0, w1, w2, w3, wsh, wst, a2, a3, a4, a5, a6, a7⟩ := id hw
  intro k
  induction k with
  | zero =>
    intro p w hj hB kk
    have hj : p = S 1 1 := by omega
    refine g_iload_n K 1 dX4_measure_52 rfl ?_
    refine g_aload_n K 0 dX4_measure_53 rfl ?_
    refine g_getR (q' := 1) (q := 18) (ci := 4) (k := 0) (N := 4) (C := RX4) (T := TX4) (ref := "ValveWalk$Walks") K rfl rfl rfl (by decide) hin4 (by decide +kernel) rfl dX4_measure_54 ?_
    refine g_callVd (q := 1) (ci := 2) (As := []) (rest := [.int (nI (p))]) (C := RX2) (T := TX2) (N := 12) K (cX2_pipeCount_k (g_z X) (va_up S 19 (w))) (cwV 0 K.1.2.2.2.2 gX4_measure_X2_pipeCount rfl rfl rfl (by decide +kernel) ⟨Nat.le_trans (Nat.le_of_ble_eq_true rfl) hRf, Nat.le_trans (Nat.le_of_ble_eq_true rfl) hRl⟩) rfl rfl rfl rfl (Nat.le_of_ble_eq_true rfl) dX4_measure_57 ?_
    refine g_topE (S 1 1) rfl ?_
    refine g_icmp_ge (tgt := 117) (a := p) (b := S 1 1) K dX4_measure_60 (by decide) (by omega) (by omega) (fun h60_1 => ?_) (fun h60_1 => ?_)
    · refine g_loc (lo' := [(0, .ref (g_ad X 18)), (1, .int (nI (p)))]) [0, 1] rfl ?_
      exact g_cast (by first | rfl | (rw [hj]; done) | (rw [hj]; rfl)) rfl rfl kk
    · exact absurd h60_1 (by omega)
  | succ k ih =>
    intro p w hj hB kk
    refine g_iload_n K 1 dX4_measure_52 rfl ?_
    refine g_aload_n K 0 dX4_measure_53 rfl ?_
    refine g_getR (q' := 1) (q := 18) (ci := 4) (k := 0) (N := 4) (C := RX4) (T := TX4) (ref := "ValveWalk$Walks") K rfl rfl rfl (by decide) hin4 (by decide +kernel) rfl dX4_measure_54 ?_
    refine g_callVd (q := 1) (ci := 2) (As := []) (rest := [.int (nI (p))]) (C := RX2) (T := TX2) (N := 12) K (cX2_pipeCount_k (g_z X) (va_up S 19 (w))) (cwV 0 K.1.2.2.2.2 gX4_measure_X2_pipeCount rfl rfl rfl (by decide +kernel) ⟨Nat.le_trans (Nat.le_of_ble_eq_true rfl) hRf, Nat.le_trans (Nat.le_of_ble_eq_true rfl) hRl⟩) rfl rfl rfl rfl (Nat.le_of_ble_eq_true rfl) dX4_measure_57 ?_
    refine g_topE (S 1 1) rfl ?_
    refine g_icmp_ge (tgt := 117) (a := p) (b := S 1 1) K dX4_measure_60 (by decide) (by omega) (by omega) (fun h60_1 => ?_) (fun h60_1 => ?_)
    · exact absurd h60_1 (by omega)
    · refine g_aload_n K 0 dX4_measure_63 rfl ?_
      refine g_getR (q' := 1) (q := 18) (ci := 4) (k := 0) (N := 4) (C := RX4) (T := TX4) (ref := "ValveWalk$Walks") K rfl rfl rfl (by decide) hin4 (by decide +kernel) rfl dX4_measure_64 ?_
      refine g_iload_n K 1 dX4_measure_67 rfl ?_
      refine g_iconst K 0 dX4_measure_68 (by decide +kernel) ?_
      refine g_callVd (q := 1) (ci := 2) (As := [.int (nI (p)), .int (nI (0))]) (rest := []) (C := RX2) (T := TX2) (N := 12) K (cX2_nodeAt_k (g_z X) (va_up S 19 (w)) p 0 (by omega)) (cwV 2 K.1.2.2.2.2 gX4_measure_X2_nodeAt rfl rfl rfl (by decide +kernel) ⟨Nat.le_trans (Nat.le_of_ble_eq_true rfl) hRf, Nat.le_trans (Nat.le_of_ble_eq_true rfl) hRl⟩) rfl rfl rfl rfl (Nat.le_of_ble_eq_true rfl) dX4_measure_69 ?_
      refine g_topE (S 4 (2 * p + 0)) rfl ?_
      refine g_istore_n (lo' := [(2, .int (nI (S 4 (2 * p + 0)))), (0, .ref (g_ad X 18)), (1, .int (nI (p)))]) K dX4_measure_72 (by decide) rfl ?_
      refine g_aload_n K 1 dX4_measure_73 rfl ?_
      refine g_getR (q' := 1) (q := 18) (ci := 4) (k := 0) (N := 4) (C := RX4) (T := TX4) (ref := "ValveWalk$Walks") K rfl rfl rfl (by decide) hin4 (by decide +kernel) rfl dX4_measure_74 ?_
      refine g_iload_n K 2 dX4_measure_77 rfl ?_
      refine g_iconst K 1 dX4_measure_78 (by decide +kernel) ?_
      refine g_callVd (q := 1) (ci := 2) (As := [.int (nI (p)), .int (nI (1))]) (rest := []) (C := RX2) (T := TX2) (N := 12) K (cX2_nodeAt_k (g_z X) (va_up S 19 (w)) p 1 (by omega)) (cwV 2 K.1.2.2.2.2 gX4_measure_X2_nodeAt rfl rfl rfl (by decide +kernel) ⟨Nat.le_trans (Nat.le_of_ble_eq_true rfl) hRf, Nat.le_trans (Nat.le_of_ble_eq_true rfl) hRl⟩) rfl rfl rfl rfl (Nat.le_of_ble_eq_true rfl) dX4_measure_79 ?_
      refine g_topE (S 4 (2 * p + 1)) rfl ?_
      refine g_istore_n (lo' := [(3, .int (nI (S 4 (2 * p + 1)))), (2, .int (nI (S 4 (2 * p + 0)))), (0, .ref (g_ad X 18)), (1, .int (nI (p)))]) K dX4_measure_82 (by decide) rfl ?_
      have hx := a4 (2 * p + 0)
      have hy := a4 (2 * p + 1)
      have hl := a2 p
      refine g_aload_n K 2 dX4_measure_83 rfl ?_
      refine g_iload_n K 1 dX4_measure_84 rfl ?_
      refine g_iload_n K 0 dX4_measure_85 rfl ?_
      refine g_aload_n K 2 dX4_measure_86 rfl ?_
      refine g_getR (q' := 1) (q := 18) (ci := 4) (k := 0) (N := 4) (C := RX4) (T := TX4) (ref := "ValveWalk$Walks") K rfl rfl rfl (by decide) hin4 (by decide +kernel) rfl dX4_measure_87 ?_
      refine g_iload_n K 3 dX4_measure_90 rfl ?_
      refine g_callVd (q := 1) (ci := 2) (As := [.int (nI (p))]) (rest := [.int (nI (S 4 (2 * p + 1))), .int (nI (S 4 (2 * p + 0))), .ref (g_ad X 18)]) (C := RX2) (T := TX2) (N := 12) K (cX2_lengthOf_k (g_z X) (va_up S 19 (w)) p (by omega)) (cwV 1 K.1.2.2.2.2 gX4_measure_X2_lengthOf rfl rfl rfl (by decide +kernel) ⟨Nat.le_trans (Nat.le_of_ble_eq_true rfl) hRf, Nat.le_trans (Nat.le_of_ble_eq_true rfl) hRl⟩) rfl rfl rfl rfl (Nat.le_of_ble_eq_true rfl) dX4_measure_91 ?_
      refine g_topE (S 2 p) rfl ?_
      refine g_callVv (q := 18) (ci := 4) (As := [.int (nI (S 4 (2 * p + 0))), .int (nI (S 4 (2 * p + 1))), .int (nI (S 2 p))]) (rest := []) (C := RX4) (T := TX4) (N := 4) K (cX4_shorten_k (g_z X) (va_up S 19 (w)) (S 4 (2 * p + 0)) (S 4 (2 * p + 1)) (S 2 p) (hB) (by omega) (by omega) (by omega)) (cwV 3 K.1.2.2.2.2 gX4_measure_X4_shorten rfl rfl rfl (by decide +kernel) ⟨Nat.le_trans (Nat.le_of_ble_eq_true rfl) hRf, Nat.le_trans (Nat.le_of_ble_eq_true rfl) hRl⟩) rfl rfl rfl rfl (Nat.le_of_ble_eq_true rfl) dX4_measure_94 ?_
      refine g_cast (S' := (va_up S 19 (fShW (S 4 (2 * p + 0)) (S 4 (2 * p + 1)) (S 2 p) w))) rfl rfl (up_up ..) ?_
      have hB0 := hB
      have hB := fShW_le (l := S 2 p) hB (show S 4 (2 * p + 0) * 12 + S 4 (2 * p + 1) < 144 by omega)
      refine g_aload_n K 2 dX4_measure_97 rfl ?_
      refine g_iload_n K 0 dX4_measure_98 rfl ?_
      refine g_iload_n K 1 dX4_measure_99 rfl ?_
      refine g_aload_n K 2 dX4_measure_100 rfl ?_
      refine g_getR (q' := 1) (q := 18) (ci := 4) (k := 0) (N := 4) (C := RX4) (T := TX4) (ref := "ValveWalk$Walks") K rfl rfl rfl (by decide) hin4 (by decide +kernel) rfl dX4_measure_101 ?_
      refine g_iload_n K 3 dX4_measure_104 rfl ?_
      refine g_callVd (q := 1) (ci := 2) (As := [.int (nI (p))]) (rest := [.int (nI (S 4 (2 * p + 0))), .int (nI (S 4 (2 * p + 1))), .ref (g_ad X 18)]) (C := RX2) (T := TX2) (N := 12) K (cX2_lengthOf_k (g_z X) (va_up S 19 (fShW (S 4 (2 * p + 0)) (S 4 (2 * p + 1)) (S 2 p) w)) p (by omega)) (cwV 1 K.1.2.2.2.2 gX4_measure_X2_lengthOf rfl rfl rfl (by decide +kernel) ⟨Nat.le_trans (Nat.le_of_ble_eq_true rfl) hRf, Nat.le_trans (Nat.le_of_ble_eq_true rfl) hRl⟩) rfl rfl rfl rfl (Nat.le_of_ble_eq_true rfl) dX4_measure_105 ?_
      refine g_topE (S 2 p) rfl ?_
      refine g_callVv (q := 18) (ci := 4) (As := [.int (nI (S 4 (2 * p + 1))), .int (nI (S 4 (2 * p + 0))), .int (nI (S 2 p))]) (rest := []) (C := RX4) (T := TX4) (N := 4) K (cX4_shorten_k (g_z X) (va_up S 19 (fShW (S 4 (2 * p + 0)) (S 4 (2 * p + 1)) (S 2 p) w)) (S 4 (2 * p + 1)) (S 4 (2 * p + 0)) (S 2 p) (hB) (by omega) (by omega) (by omega)) (cwV 3 K.1.2.2.2.2 gX4_measure_X4_shorten rfl rfl rfl (by decide +kernel) ⟨Nat.le_trans (Nat.le_of_ble_eq_true rfl) hRf, Nat.le_trans (Nat.le_of_ble_eq_true rfl) hRl⟩) rfl rfl rfl rfl (Nat.le_of_ble_eq_true rfl) dX4_measure_108 ?_
      refine g_cast (S' := (va_up S 19 (fShW (S 4 (2 * p + 1)) (S 4 (2 * p + 0)) (S 2 p) (fShW (S 4 (2 * p + 0)) (S 4 (2 * p + 1)) (S 2 p) w)))) rfl rfl (up_up ..) ?_
      have hB := hB0
      refine g_iinc (a := p) (b := p + 1) (lo' := [(1, .int (nI (p + 1))), (3, .int (nI (S 4 (2 * p + 1)))), (2, .int (nI (S 4 (2 * p + 0)))), (0, .ref (g_ad X 18))]) K 3 dX4_measure_111 rfl (gi_inc _) (by decide) rfl ?_
      refine g_goto (tgt := 52) K dX4_measure_114 (by decide) ?_
      refine g_loc (lo' := [(0, .ref (g_ad X 18)), (1, .int (nI (p + 1)))]) [3, 0] rfl ?_
      exact ih (p + 1) (fShW (S 4 (2 * p + 1)) (S 4 (2 * p + 0)) (S 2 p) (fShW (S 4 (2 * p + 0)) (S 4 (2 * p + 1)) (S 2 p) w)) (by omega) (fPipeW_le hw p w hB) kk

set_option maxHeartbeats 4000000 in
set_option maxRecDepth 100000 in
theorem L_mmid (X : gC) (S : Nat → Nat → Nat) (K : gOk X cX4_measure 4 wsX4_measure RX4) (hRf : 3 ≤ (g_R X).frames) (hRl : 63 ≤ (g_R X).locals) (hw : wfC S) : ∀ (k m : Nat) (w : Nat → Nat), m + k = S 1 0 → (leB 144 1000000 w) → gG X 141 [(0, .ref (g_ad X 18)), (1, .int (nI ((S 1 0))))] [] (va_up S 19 (((gfor (fMid S) k m w)))) → gG X 119 [(0, .ref (g_ad X 18)), (1, .int (nI (m)))] [] (va_up S 19 (w)) := by
  have hin4 : ∀ w ∈ u_ws RX4 TX4 4, w ∈ wsX4_measure := by decide +kernel
  obtain ⟨w0, w1, w2, w3, wsh, wst, a2, a3, a4, a5, a6, a7⟩ := id hw
  intro k
  induction k with
  | zero =>
    intro m w hj hB kk
    have hj : m = S 1 0 := by omega
    refine g_iload_n K 1 dX4_measure_119 rfl ?_
    refine g_aload_n K 0 dX4_measure_120 rfl ?_
    refine g_getR (q' := 1) (q := 18) (ci := 4) (k := 0) (N := 4) (C := RX4) (T := TX4) (ref := "ValveWalk$Walks") K rfl rfl rfl (by decide) hin4 (by decide +kernel) rfl dX4_measure_121 ?_
    refine g_callVd (q := 1) (ci := 2) (As := []) (rest := [.int (nI (m))]) (C := RX2) (T := TX2) (N := 12) K (cX2_nodeCount_k (g_z X) (va_up S 19 (w))) (cwV 0 K.1.2.2.2.2 gX4_measure_X2_nodeCount rfl rfl rfl (by decide +kernel) ⟨Nat.le_trans (Nat.le_of_ble_eq_true rfl) hRf, Nat.le_trans (Nat.le_of_ble_eq_true rfl) hRl⟩) rfl rfl rfl rfl (Nat.le_of_ble_eq_true rfl) dX4_measure_124 ?_
    refine g_topE (S 1 0) rfl ?_
    refine g_icmp_ge (tgt := 141) (a := m) (b := S 1 0) K dX4_measure_127 (by decide) (by omega) (by omega) (fun h127_1 => ?_) (fun h127_1 => ?_)
    · refine g_loc (lo' := [(0, .ref (g_ad X 18)), (1, .int (nI (m)))]) [0, 1] rfl ?_
      exact g_cast (by first | rfl | (rw [hj]; done) | (rw [hj]; rfl)) rfl rfl kk
    · exact absurd h127_1 (by omega)
  | succ k ih =>
    intro m w hj hB kk
    refine g_iload_n K 1 dX4_measure_119 rfl ?_
    refine g_aload_n K 0 dX4_measure_120 rfl ?_
    refine g_getR (q' := 1) (q := 18) (ci := 4) (k := 0) (N := 4) (C := RX4) (T := TX4) (ref := "ValveWalk$Walks") K rfl rfl rfl (by decide) hin4 (by decide +kernel) rfl dX4_measure_121 ?_
    refine g_callVd (q := 1) (ci := 2) (As := []) (rest := [.int (nI (m))]) (C := RX2) (T := TX2) (N := 12) K (cX2_nodeCount_k (g_z X) (va_up S 19 (w))) (cwV 0 K.1.2.2.2.2 gX4_measure_X2_nodeCount rfl rfl rfl (by decide +kernel) ⟨Nat.le_trans (Nat.le_of_ble_eq_true rfl) hRf, Nat.le_trans (Nat.le_of_ble_eq_true rfl) hRl⟩) rfl rfl rfl rfl (Nat.le_of_ble_eq_true rfl) dX4_measure_124 ?_
    refine g_topE (S 1 0) rfl ?_
    refine g_icmp_ge (tgt := 141) (a := m) (b := S 1 0) K dX4_measure_127 (by decide) (by omega) (by omega) (fun h127_1 => ?_) (fun h127_1 => ?_)
    · exact absurd h127_1 (by omega)
    · refine g_aload_n K 0 dX4_measure_130 rfl ?_
      refine g_iload_n K 1 dX4_measure_131 rfl ?_
      refine g_callVv (q := 18) (ci := 4) (As := [.int (nI (m))]) (rest := []) (C := RX4) (T := TX4) (N := 4) K (cX4_shortenBy_k (g_z X) (va_up S 19 (w)) m ((wfC_up hw (q := 19) (by decide) _)) (hB) (by omega)) (cwV 1 K.1.2.2.2.2 gX4_measure_X4_shortenBy rfl rfl rfl (by decide +kernel) ⟨Nat.le_trans (Nat.le_of_ble_eq_true rfl) hRf, Nat.le_trans (Nat.le_of_ble_eq_true rfl) hRl⟩) rfl rfl rfl rfl (Nat.le_of_ble_eq_true rfl) dX4_measure_132 ?_
      refine g_cast (S' := (va_up S 19 (fMid S (m) w))) rfl rfl (by rw [up_up]; rfl) ?_
      refine g_iinc (a := m) (b := m + 1) (lo' := [(1, .int (nI (m + 1))), (0, .ref (g_ad X 18))]) K 1 dX4_measure_135 rfl (gi_inc _) (by decide) rfl ?_
      refine g_goto (tgt := 119) K dX4_measure_138 (by decide) ?_
      refine g_loc (lo' := [(0, .ref (g_ad X 18)), (1, .int (nI (m + 1)))]) [1, 0] rfl ?_
      exact ih (m + 1) (fMid S (m) w) (by omega) (fMid_le hw m w hB) kk

set_option maxHeartbeats 4000000 in
set_option maxRecDepth 100000 in
theorem cX4_measure_k (Z : gZ) (S : Nat → Nat → Nat) (hw : wfC S) : gMv Z yX4_measure wsX4_measure { frames := 3, cells := 0, slots := 0, locals := 63 } [.ref (gz_ad Z 18)] S (va_up S 19 (measW S)) := by
  refine gMv_of (cc := cX4_measure) (maxL := 4) (by decide +kernel) rfl (Nat.le_of_ble_eq_true rfl)  (fun X hZ hR K hret => ?_)
  subst hZ
  have K : gOk X cX4_measure 4 wsX4_measure RX4 := K
  have hRf : 3 ≤ (g_R X).frames := gR_f hR rfl
  have hRl : 63 ≤ (g_R X).locals := gR_l hR rfl
  have hin4 : ∀ w ∈ u_ws RX4 TX4 4, w ∈ wsX4_measure := by decide +kernel
  obtain ⟨w0, w1, w2, w3, wsh, wst, a2, a3, a4, a5, a6, a7⟩ := id hw
  show gG X 0 [(0, .ref (g_ad X 18))] [] S
  refine g_iconst K 0 dX4_measure_0 (by decide +kernel) ?_
  refine g_istore_n (lo' := [(1, .int (nI (0))), (0, .ref (g_ad X 18))]) K dX4_measure_1 (by decide) rfl ?_
  refine g_loc (lo' := [(0, .ref (g_ad X 18)), (1, .int (nI (0)))]) [1, 0] rfl ?_
  refine g_cast (S' := (va_up S 19 (S 19))) rfl rfl (up_id1 ..).symm ?_
  refine L_mrow X S  K (Nat.le_trans (Nat.le_of_ble_eq_true rfl) hRf) (Nat.le_trans (Nat.le_of_ble_eq_true rfl) hRl)   12 0 (S 19) (by omega)  ?_
  refine g_iconst K 0 dX4_measure_50 (by decide +kernel) ?_
  refine g_istore_n (lo' := [(1, .int (nI (0))), (0, .ref (g_ad X 18))]) K dX4_measure_51 (by decide) rfl ?_
  refine g_loc (lo' := [(0, .ref (g_ad X 18)), (1, .int (nI (0)))]) [1, 0] rfl ?_
  refine L_mpipe X S  K (Nat.le_trans (Nat.le_of_ble_eq_true rfl) hRf) (Nat.le_trans (Nat.le_of_ble_eq_true rfl) hRl) (hw)  (S 1 1) 0 (gfor fRow 12 0 (S 19)) (by omega) (rows_le _) ?_
  refine g_iconst K 0 dX4_measure_117 (by decide +kernel) ?_
  refine g_istore_n (lo' := [(1, .int (nI (0))), (0, .ref (g_ad X 18))]) K dX4_measure_118 (by decide) rfl ?_
  refine g_loc (lo' := [(0, .ref (g_ad X 18)), (1, .int (nI (0)))]) [1, 0] rfl ?_
  refine L_mmid X S  K (Nat.le_trans (Nat.le_of_ble_eq_true rfl) hRf) (Nat.le_trans (Nat.le_of_ble_eq_true rfl) hRl) (hw)  (S 1 0) 0 (gfor (fPipeW S) (S 1 1) 0 (gfor fRow 12 0 (S 19))) (by omega) (gfor_inv (leB 144 1000000) _ (fun p w h => fPipeW_le hw p w h) _ 0 _ (rows_le _)) ?_
  exact g_retv hret dX4_measure_141 rfl

set_option maxHeartbeats 4000000 in
set_option maxRecDepth 100000 in
theorem L_least (X : gC) (S : Nat → Nat → Nat) (set : Nat) (last : Nat) (c : Nat) (b : Nat) (K : gOk X cX4_leastEnding 9 wsX4_leastEnding RX4) (hRf : 1 ≤ (g_R X).frames) (hRl : 22 ≤ (g_R X).locals) (hB : leB 144 1000000 (S 19)) (hl : last < c) (hc : c ≤ 6) (ht : ∀ k, k < c → S 20 k < 12) (hL : leOK c set last (S 21)) (hb1 : b < set) (hs : set < 64) : ∀ (k i : Nat) (len : Nat), i + k = c → (len ≤ 1000000) → gG X 98 [(0, .ref (g_ad X 18)), (3, .int (nI (last))), (4, .int (nI (c))), (5, .int (nI (b))), (6, .int (nI (((gfor (fLE (S 19) (S 20) (S 21) b last) k i len))))), (7, .int (nI (c)))] [] S → gG X 33 [(0, .ref (g_ad X 18)), (3, .int (nI (last))), (4, .int (nI (c))), (5, .int (nI (b))), (6, .int (nI (len))), (7, .int (nI (i)))] [] S := by
  have hin4 : ∀ w ∈ u_ws RX4 TX4 4, w ∈ wsX4_leastEnding := by decide +kernel
  intro k
  induction k with
  | zero =>
    intro i len hj hlen kk
    have hj : i = c := by omega
    refine g_iload K 5 dX4_leastEnding_33 rfl ?_
    refine g_iload K 2 dX4_leastEnding_35 rfl ?_
    refine g_icmp_ge (tgt := 98) (a := i) (b := c) K dX4_leastEnding_37 (by decide) (by omega) (by omega) (fun h37_1 => ?_) (fun h37_1 => ?_)
    · refine g_loc (lo' := [(0, .ref (g_ad X 18)), (3, .int (nI (last))), (4, .int (nI (c))), (5, .int (nI (b))), (6, .int (nI (len))), (7, .int (nI (i)))]) [0, 1, 2, 3, 4, 5] rfl ?_
      exact g_cast (by first | rfl | (rw [hj]; done) | (rw [hj]; rfl)) rfl rfl kk
    · exact absurd h37_1 (by omega)
  | succ k ih =>
    intro i len hj hlen kk
    refine g_iload K 5 dX4_leastEnding_33 rfl ?_
    refine g_iload K 2 dX4_leastEnding_35 rfl ?_
    refine g_icmp_ge (tgt := 98) (a := i) (b := c) K dX4_leastEnding_37 (by decide) (by omega) (by omega) (fun h37_1 => ?_) (fun h37_1 => ?_)
    · exact absurd h37_1 (by omega)
    · refine g_iload K 3 dX4_leastEnding_40 rfl ?_
      refine g_iload K 5 dX4_leastEnding_42 rfl ?_
      refine g_callNd (As := [.int (nI (b)), .int (nI (i))]) (rest := []) (host := "ValveWalk") K (cX5_hasBit_k (g_z X) S b i (by omega) (by omega)) ⟨va_cnB 2 K.1.2.2.2.2 gX4_leastEnding_X5_hasBit_n32 rfl rfl rfl (K.2.2.2.1 _ (List.mem_of_getElem? (i := 9) rfl)) (K.1.2.2.2.2 _ (by decide +kernel)) (by decide +kernel) ⟨Nat.le_trans (Nat.le_of_ble_eq_true rfl) hRf, Nat.le_trans (Nat.le_of_ble_eq_true rfl) hRl⟩, K.1.2.2.2.2 _ (by decide +kernel), trivial⟩ rfl rfl (Nat.le_of_ble_eq_true rfl) dX4_leastEnding_44 ?_
      have hf44_2 := gbit_le b i
      refine g_if_eq (tgt := 92) (a := gbit b i) K dX4_leastEnding_47 (by decide) (by omega) (fun h47_3 => ?_) (fun h47_3 => ?_)
      · refine g_iinc (a := i) (b := i + 1) (lo' := [(7, .int (nI (i + 1))), (0, .ref (g_ad X 18)), (3, .int (nI (last))), (4, .int (nI (c))), (5, .int (nI (b))), (6, .int (nI (len)))]) K 5 dX4_leastEnding_92 rfl (gi_inc _) (by decide) rfl ?_
        refine g_goto (tgt := 33) K dX4_leastEnding_95 (by decide) ?_
        refine g_loc (lo' := [(0, .ref (g_ad X 18)), (3, .int (nI (last))), (4, .int (nI (c))), (5, .int (nI (b))), (6, .int (nI (len))), (7, .int (nI (i + 1)))]) [1, 2, 3, 4, 5, 0] rfl ?_
        exact ih (i + 1) len (by omega) (by omega) (by rw [gfor_succ, show (fLE (S 19) (S 20) (S 21) b last) i len = len from by simp only [fLE]; (repeat' split) <;> first | rfl | contradiction | (exfalso; omega) | omega] at kk; exact kk)
      · refine g_aload_n K 0 dX4_leastEnding_50 rfl ?_
        refine g_aload_n K 0 dX4_leastEnding_51 rfl ?_
        refine g_getR (q' := 20) (q := 18) (ci := 4) (k := 2) (N := 4) (C := RX4) (T := TX4) (ref := "ValveWalk$Walks") K rfl rfl rfl (by decide) hin4 (by decide +kernel) rfl dX4_leastEnding_52 ?_
        refine g_iload K 5 dX4_leastEnding_55 rfl ?_
        refine g_ald (q := 20) (n := 6) (i := i) K rfl (by decide) (by omega) dX4_leastEnding_57 ?_
        have t1 := ht i (by omega)
        refine g_aload_n K 0 dX4_leastEnding_58 rfl ?_
        refine g_getR (q' := 20) (q := 18) (ci := 4) (k := 2) (N := 4) (C := RX4) (T := TX4) (ref := "ValveWalk$Walks") K rfl rfl rfl (by decide) hin4 (by decide +kernel) rfl dX4_leastEnding_59 ?_
        refine g_iload_n K 1 dX4_leastEnding_62 rfl ?_
        refine g_ald (q := 20) (n := 6) (i := last) K rfl (by decide) (by omega) dX4_leastEnding_63 ?_
        have t2 := ht last hl
        refine g_callVd (q := 18) (ci := 4) (As := [.int (nI (S 20 (i))), .int (nI (S 20 (last)))]) (rest := []) (C := RX4) (T := TX4) (N := 4) K (cX4_lengthBetween_k (g_z X) S (S 20 (i)) (S 20 (last)) (by omega) (by omega)) (cwV 2 K.1.2.2.2.2 gX4_leastEnding_X4_lengthBetween rfl rfl rfl (by decide +kernel) ⟨Nat.le_trans (Nat.le_of_ble_eq_true rfl) hRf, Nat.le_trans (Nat.le_of_ble_eq_true rfl) hRl⟩) rfl rfl rfl rfl (Nat.le_of_ble_eq_true rfl) dX4_leastEnding_64 ?_
        have h67 := hB (S 20 i * 12 + S 20 last) (by omega)
        refine g_istore (lo' := [(8, .int (nI (S 19 ((S 20 (i)) * 12 + (S 20 (last)))))), (0, .ref (g_ad X 18)), (3, .int (nI (last))), (4, .int (nI (c))), (5, .int (nI (b))), (6, .int (nI (len))), (7, .int (nI (i)))]) K dX4_leastEnding_67 (by decide) rfl ?_
        refine g_iload K 5 dX4_leastEnding_69 rfl ?_
        refine g_aload_n K 1 dX4_leastEnding_71 rfl ?_
        refine g_getR (q' := 21) (q := 18) (ci := 4) (k := 3) (N := 4) (C := RX4) (T := TX4) (ref := "ValveWalk$Walks") K rfl rfl rfl (by decide) hin4 (by decide +kernel) rfl dX4_leastEnding_72 ?_
        refine g_iload K 4 dX4_leastEnding_75 rfl ?_
        refine g_bipush K 6 dX4_leastEnding_77 (by decide +kernel) ?_
        refine g_imul (a := b) (b := 6) K dX4_leastEnding_79 ?_
        refine g_iload K 6 dX4_leastEnding_80 rfl ?_
        refine g_iadd (a := (b) * (6)) (b := i) K dX4_leastEnding_82 ?_
        refine g_ald (q := 21) (n := 384) (i := ((b) * (6)) + (i)) K rfl (by decide) (by omega) dX4_leastEnding_83 ?_
        have l1 := hL b i (Or.inl hb1) (by omega) (by assumption)
        refine g_iload K 0 dX4_leastEnding_84 rfl ?_
        refine g_iadd (a := S 21 (((b) * (6)) + (i))) (b := S 19 ((S 20 (i)) * 12 + (S 20 (last)))) K dX4_leastEnding_86 ?_
        refine g_mmin (a := len) (b := (S 21 (((b) * (6)) + (i))) + (S 19 ((S 20 (i)) * 12 + (S 20 (last))))) K (by decide +kernel) (by decide +kernel) (by decide +kernel) (by decide +kernel) (Nat.le_trans (Nat.le_of_ble_eq_true rfl) hRf) (Nat.le_trans (Nat.le_of_ble_eq_true rfl) hRl) (by omega) (by omega) dX4_leastEnding_87 ?_
        refine g_istore (lo' := [(6, .int (nI (min (len) ((S 21 (((b) * (6)) + (i))) + (S 19 ((S 20 (i)) * 12 + (S 20 (last)))))))), (8, .int (nI (S 19 ((S 20 (i)) * 12 + (S 20 (last)))))), (0, .ref (g_ad X 18)), (3, .int (nI (last))), (4, .int (nI (c))), (5, .int (nI (b))), (7, .int (nI (i)))]) K dX4_leastEnding_90 (by decide) rfl ?_
        refine g_iinc (a := i) (b := i + 1) (lo' := [(7, .int (nI (i + 1))), (6, .int (nI (min (len) ((S 21 (((b) * (6)) + (i))) + (S 19 ((S 20 (i)) * 12 + (S 20 (last)))))))), (8, .int (nI (S 19 ((S 20 (i)) * 12 + (S 20 (last)))))), (0, .ref (g_ad X 18)), (3, .int (nI (last))), (4, .int (nI (c))), (5, .int (nI (b)))]) K 6 dX4_leastEnding_92 rfl (gi_inc _) (by decide) rfl ?_
        refine g_goto (tgt := 33) K dX4_leastEnding_95 (by decide) ?_
        refine g_loc (lo' := [(0, .ref (g_ad X 18)), (3, .int (nI (last))), (4, .int (nI (c))), (5, .int (nI (b))), (6, .int (nI (min (len) ((S 21 (((b) * (6)) + (i))) + (S 19 ((S 20 (i)) * 12 + (S 20 (last)))))))), (7, .int (nI (i + 1)))]) [3, 4, 5, 6, 1, 0] rfl ?_
        exact ih (i + 1) (min (len) ((S 21 (((b) * (6)) + (i))) + (S 19 ((S 20 (i)) * 12 + (S 20 (last)))))) (by omega) (by omega) (by rw [gfor_succ, show (fLE (S 19) (S 20) (S 21) b last) i len = min (len) ((S 21 (((b) * (6)) + (i))) + (S 19 ((S 20 (i)) * 12 + (S 20 (last))))) from by simp only [fLE]; (repeat' split) <;> first | rfl | contradiction | (exfalso; omega) | omega] at kk; exact kk)

set_option maxHeartbeats 4000000 in
set_option maxRecDepth 100000 in
theorem cX4_leastEnding_k (Z : gZ) (S : Nat → Nat → Nat) (node set last c : Nat) (hB : leB 144 1000000 (S 19)) (hn : node < 12) (hl : last < c) (hc : c ≤ 6) (ht : ∀ k, k < c → S 20 k < 12) (hL : leOK c set last (S 21)) (hs : set < 64) (hg : gbit set last ≠ 0) : gMd Z yX4_leastEnding wsX4_leastEnding { frames := 1, cells := 0, slots := 0, locals := 22 } [.ref (gz_ad Z 18), .int (nI (node)), .int (nI (set)), .int (nI (last)), .int (nI (c))] S (leastE (S 19) (S 20) (S 21) node set last c) (S) := by
  refine gMd_of (cc := cX4_leastEnding) (maxL := 9) (ret := (some .int)) (by decide +kernel) rfl (Nat.le_of_ble_eq_true rfl) (Or.inl rfl) (fun X hZ hR K hret => ?_)
  subst hZ
  have K : gOk X cX4_leastEnding 9 wsX4_leastEnding RX4 := K
  have hRf : 1 ≤ (g_R X).frames := gR_f hR rfl
  have hRl : 22 ≤ (g_R X).locals := gR_l hR rfl
  have hin4 : ∀ w ∈ u_ws RX4 TX4 4, w ∈ wsX4_leastEnding := by decide +kernel
 
  show gG X 0 [(0, .ref (g_ad X 18)), (1, .int (nI (node))), (2, .int (nI (set))), (3, .int (nI (last))), (4, .int (nI (c)))] [] S
  refine g_iload_n K 2 dX4_leastEnding_0 rfl ?_
  refine g_iconst K 1 dX4_leastEnding_1 (by decide +kernel) ?_
  refine g_iload_n K 3 dX4_leastEnding_2 rfl ?_
  refine g_ishl (a := 1) (b := last) K (by omega) dX4_leastEnding_3 ?_
  refine g_iconst K 4294967295 dX4_leastEnding_4 (by decide +kernel) ?_
  refine g_ixor (a := (1) <<< (last)) (b := 4294967295) K dX4_leastEnding_5 ?_
  refine g_iand (a := set) (b := ((1) <<< (last)) ^^^ (4294967295)) K dX4_leastEnding_6 ?_
  have hL6_1 := @Nat.and_le_left (set) (((1) <<< (last)) ^^^ (4294967295))
  have hR6_2 := @Nat.and_le_right (set) (((1) <<< (last)) ^^^ (4294967295))
  obtain ⟨b, hb⟩ : ∃ b, b = set &&& ((1 <<< last) ^^^ 4294967295) := ⟨_, rfl⟩
  have hb1 : b < set := by rw [hb]; exact drop_lt' hs (by omega) hg
  refine g_topE b hb.symm ?_
  refine g_istore (lo' := [(5, .int (nI (b))), (0, .ref (g_ad X 18)), (1, .int (nI (node))), (2, .int (nI (set))), (3, .int (nI (last))), (4, .int (nI (c)))]) K dX4_leastEnding_7 (by decide) rfl ?_
  refine g_iload K 0 dX4_leastEnding_9 rfl ?_
  refine g_if_ne (tgt := 26) (a := b) K dX4_leastEnding_11 (by decide) (by omega) (fun h11_3 => ?_) (fun h11_3 => ?_)
  · refine g_ldc (w := 1000000) K 1000000 (K.1.2.2.2.2 _ (by decide +kernel)) (by decide +kernel) dX4_leastEnding_26 ?_
    refine g_istore (lo' := [(6, .int (nI (1000000))), (5, .int (nI (b))), (0, .ref (g_ad X 18)), (1, .int (nI (node))), (2, .int (nI (set))), (3, .int (nI (last))), (4, .int (nI (c)))]) K dX4_leastEnding_28 (by decide) rfl ?_
    refine g_iconst K 0 dX4_leastEnding_30 (by decide +kernel) ?_
    refine g_istore (lo' := [(7, .int (nI (0))), (6, .int (nI (1000000))), (5, .int (nI (b))), (0, .ref (g_ad X 18)), (1, .int (nI (node))), (2, .int (nI (set))), (3, .int (nI (last))), (4, .int (nI (c)))]) K dX4_leastEnding_31 (by decide) rfl ?_
    refine g_loc (lo' := [(0, .ref (g_ad X 18)), (3, .int (nI (last))), (4, .int (nI (c))), (5, .int (nI (b))), (6, .int (nI (1000000))), (7, .int (nI (0)))]) [3, 6, 7, 2, 1, 0] rfl ?_
    refine L_least X S set last c b K (Nat.le_trans (Nat.le_of_ble_eq_true rfl) hRf) (Nat.le_trans (Nat.le_of_ble_eq_true rfl) hRl) (hB) (hl) (hc) (ht) (hL) (hb1) (hs)  c 0 1000000 (by omega) (by decide) ?_
    refine g_iload K 4 dX4_leastEnding_98 rfl ?_
    exact g_retd hret dX4_leastEnding_100 (by unfold leastE; rw [← hb, if_neg (by assumption)]) rfl
  · refine g_aload_n K 1 dX4_leastEnding_14 rfl ?_
    refine g_iload_n K 2 dX4_leastEnding_15 rfl ?_
    refine g_aload_n K 1 dX4_leastEnding_16 rfl ?_
    refine g_getR (q' := 20) (q := 18) (ci := 4) (k := 2) (N := 4) (C := RX4) (T := TX4) (ref := "ValveWalk$Walks") K rfl rfl rfl (by decide) hin4 (by decide +kernel) rfl dX4_leastEnding_17 ?_
    refine g_iload_n K 4 dX4_leastEnding_20 rfl ?_
    refine g_ald (q := 20) (n := 6) (i := last) K rfl (by decide) (by omega) dX4_leastEnding_21 ?_
    have t2 := ht last hl
    refine g_callVd (q := 18) (ci := 4) (As := [.int (nI (node)), .int (nI (S 20 (last)))]) (rest := []) (C := RX4) (T := TX4) (N := 4) K (cX4_lengthBetween_k (g_z X) S node (S 20 (last)) (by omega) (by omega)) (cwV 2 K.1.2.2.2.2 gX4_leastEnding_X4_lengthBetween rfl rfl rfl (by decide +kernel) ⟨Nat.le_trans (Nat.le_of_ble_eq_true rfl) hRf, Nat.le_trans (Nat.le_of_ble_eq_true rfl) hRl⟩) rfl rfl rfl rfl (Nat.le_of_ble_eq_true rfl) dX4_leastEnding_22 ?_
    exact g_retd hret dX4_leastEnding_25 (by unfold leastE; rw [← hb, if_pos (by assumption)]) rfl

set_option maxHeartbeats 4000000 in
set_option maxRecDepth 100000 in
theorem L_last (X : gC) (S : Nat → Nat → Nat) (node : Nat) (c : Nat) (t : Nat → Nat) (w : Nat → Nat) (z : Nat) (K : gOk X cX4_leastLength 7 wsX4_leastLength RX4) (hRf : 2 ≤ (g_R X).frames) (hRl : 50 ≤ (g_R X).locals) (hc : c ≤ 6) (hB : leB 144 1000000 w) (hn : node < 12) (ht : ∀ k, k < c → t k < 12) (hs : z < 64) : ∀ (k i : Nat) (l : Nat → Nat), i + k = c → (leOK c z i l) → gG X 81 [(0, .ref (g_ad X 18)), (1, .int (nI (node))), (3, .int (nI (c))), (4, .int (nI ((1 <<< c) - 1))), (5, .int (nI (z))), (6, .int (nI (c)))] [] (va_up (va_up (va_up S 20 (t)) 19 (w)) 21 (((gfor (fLast w t node c z) k i l)))) → gG X 36 [(0, .ref (g_ad X 18)), (1, .int (nI (node))), (3, .int (nI (c))), (4, .int (nI ((1 <<< c) - 1))), (5, .int (nI (z))), (6, .int (nI (i)))] [] (va_up (va_up (va_up S 20 (t)) 19 (w)) 21 (l)) := by
  have hin4 : ∀ w ∈ u_ws RX4 TX4 4, w ∈ wsX4_leastLength := by decide +kernel
  intro k
  induction k with
  | zero =>
    intro i l hj hL kk
    have hj : i = c := by omega
    refine g_iload K 5 dX4_leastLength_36 rfl ?_
    refine g_iload_n K 2 dX4_leastLength_38 rfl ?_
    refine g_icmp_ge (tgt := 81) (a := i) (b := c) K dX4_leastLength_39 (by decide) (by omega) (by omega) (fun h39_1 => ?_) (fun h39_1 => ?_)
    · refine g_loc (lo' := [(0, .ref (g_ad X 18)), (1, .int (nI (node))), (3, .int (nI (c))), (4, .int (nI ((1 <<< c) - 1))), (5, .int (nI (z))), (6, .int (nI (i)))]) [0, 1, 2, 3, 4, 5] rfl ?_
      exact g_cast (by first | rfl | (rw [hj]; done) | (rw [hj]; rfl)) rfl rfl kk
    · exact absurd h39_1 (by omega)
  | succ k ih =>
    intro i l hj hL kk
    refine g_iload K 5 dX4_leastLength_36 rfl ?_
    refine g_iload_n K 2 dX4_leastLength_38 rfl ?_
    refine g_icmp_ge (tgt := 81) (a := i) (b := c) K dX4_leastLength_39 (by decide) (by omega) (by omega) (fun h39_1 => ?_) (fun h39_1 => ?_)
    · exact absurd h39_1 (by omega)
    · refine g_iload K 4 dX4_leastLength_42 rfl ?_
      refine g_iload K 5 dX4_leastLength_44 rfl ?_
      refine g_callNd (As := [.int (nI (z)), .int (nI (i))]) (rest := []) (host := "ValveWalk") K (cX5_hasBit_k (g_z X) (va_up (va_up (va_up S 20 (t)) 19 (w)) 21 (l)) z i (by omega) (by omega)) ⟨va_cnB 2 K.1.2.2.2.2 gX4_leastLength_X5_hasBit_n32 rfl rfl rfl (K.2.2.2.1 _ (List.mem_of_getElem? (i := 9) rfl)) (K.1.2.2.2.2 _ (by decide +kernel)) (by decide +kernel) ⟨Nat.le_trans (Nat.le_of_ble_eq_true rfl) hRf, Nat.le_trans (Nat.le_of_ble_eq_true rfl) hRl⟩, K.1.2.2.2.2 _ (by decide +kernel), trivial⟩ rfl rfl (Nat.le_of_ble_eq_true rfl) dX4_leastLength_46 ?_
      have hf46_2 := gbit_le z i
      refine g_if_eq (tgt := 75) (a := gbit z i) K dX4_leastLength_49 (by decide) (by omega) (fun h49_3 => ?_) (fun h49_3 => ?_)
      · refine g_iinc (a := i) (b := i + 1) (lo' := [(6, .int (nI (i + 1))), (0, .ref (g_ad X 18)), (1, .int (nI (node))), (3, .int (nI (c))), (4, .int (nI ((1 <<< c) - 1))), (5, .int (nI (z)))]) K 5 dX4_leastLength_75 rfl (gi_inc _) (by decide) rfl ?_
        refine g_goto (tgt := 36) K dX4_leastLength_78 (by decide) ?_
        refine g_loc (lo' := [(0, .ref (g_ad X 18)), (1, .int (nI (node))), (3, .int (nI (c))), (4, .int (nI ((1 <<< c) - 1))), (5, .int (nI (z))), (6, .int (nI (i + 1)))]) [1, 2, 3, 4, 5, 0] rfl ?_
        exact ih (i + 1) l (by omega) (by have q := leOK_step (node := node) hc hB hn ht (show i < c by omega) hL; rwa [show fLast w t node c z i l = l from (by simp only [fLast]; (repeat' split) <;> first | rfl | contradiction | (exfalso; omega) | omega)] at q) (by rw [gfor_succ, show (fLast w t node c z) i l = l from by simp only [fLast]; (repeat' split) <;> first | rfl | contradiction | (exfalso; omega) | omega] at kk; exact kk)
      · refine g_aload_n K 0 dX4_leastLength_52 rfl ?_
        refine g_getR (q' := 21) (q := 18) (ci := 4) (k := 3) (N := 4) (C := RX4) (T := TX4) (ref := "ValveWalk$Walks") K rfl rfl rfl (by decide) hin4 (by decide +kernel) rfl dX4_leastLength_53 ?_
        refine g_iload K 4 dX4_leastLength_56 rfl ?_
        refine g_bipush K 6 dX4_leastLength_58 (by decide +kernel) ?_
        refine g_imul (a := z) (b := 6) K dX4_leastLength_60 ?_
        refine g_iload K 5 dX4_leastLength_61 rfl ?_
        refine g_iadd (a := (z) * (6)) (b := i) K dX4_leastLength_63 ?_
        refine g_aload_n K 0 dX4_leastLength_64 rfl ?_
        refine g_iload_n K 1 dX4_leastLength_65 rfl ?_
        refine g_iload K 4 dX4_leastLength_66 rfl ?_
        refine g_iload K 5 dX4_leastLength_68 rfl ?_
        refine g_iload_n K 2 dX4_leastLength_70 rfl ?_
        refine g_callVd (q := 18) (ci := 4) (As := [.int (nI (node)), .int (nI (z)), .int (nI (i)), .int (nI (c))]) (rest := [.int (nI (((z) * (6)) + (i))), .ref (g_ad X 21)]) (C := RX4) (T := TX4) (N := 4) K (cX4_leastEnding_k (g_z X) (va_up (va_up (va_up S 20 (t)) 19 (w)) 21 (l)) node z i c (hB) (by omega) (by omega) (by omega) (ht) (hL) (by omega) (by assumption)) (cwV 4 K.1.2.2.2.2 gX4_leastLength_X4_leastEnding rfl rfl rfl (by decide +kernel) ⟨Nat.le_trans (Nat.le_of_ble_eq_true rfl) hRf, Nat.le_trans (Nat.le_of_ble_eq_true rfl) hRl⟩) rfl rfl rfl rfl (Nat.le_of_ble_eq_true rfl) dX4_leastLength_71 ?_
        refine g_topE (leastE w t l (node) (z) (i) (c)) rfl ?_
        refine g_ast (q := 21) (n := 384) (i := ((z) * (6)) + (i)) (a := leastE w t l (node) (z) (i) (c)) K rfl (by decide) (by omega) dX4_leastLength_74 ?_
        refine g_cast (S' := (va_up (va_up (va_up S 20 (t)) 19 (w)) 21 (va_up l (((z) * (6)) + (i)) (leastE w t l (node) (z) (i) (c))))) rfl rfl (gup_w3c (by decide) (by decide) (by decide)) ?_
        refine g_iinc (a := i) (b := i + 1) (lo' := [(6, .int (nI (i + 1))), (0, .ref (g_ad X 18)), (1, .int (nI (node))), (3, .int (nI (c))), (4, .int (nI ((1 <<< c) - 1))), (5, .int (nI (z)))]) K 5 dX4_leastLength_75 rfl (gi_inc _) (by decide) rfl ?_
        refine g_goto (tgt := 36) K dX4_leastLength_78 (by decide) ?_
        refine g_loc (lo' := [(0, .ref (g_ad X 18)), (1, .int (nI (node))), (3, .int (nI (c))), (4, .int (nI ((1 <<< c) - 1))), (5, .int (nI (z))), (6, .int (nI (i + 1)))]) [1, 2, 3, 4, 5, 0] rfl ?_
        exact ih (i + 1) (va_up l (((z) * (6)) + (i)) (leastE w t l (node) (z) (i) (c))) (by omega) (by have q := leOK_step (node := node) hc hB hn ht (show i < c by omega) hL; rwa [show fLast w t node c z i l = va_up l (((z) * (6)) + (i)) (leastE w t l (node) (z) (i) (c)) from (by simp only [fLast]; (repeat' split) <;> first | rfl | contradiction | (exfalso; omega) | omega)] at q) (by rw [gfor_succ, show (fLast w t node c z) i l = va_up l (((z) * (6)) + (i)) (leastE w t l (node) (z) (i) (c)) from by simp only [fLast]; (repeat' split) <;> first | rfl | contradiction | (exfalso; omega) | omega] at kk; exact kk)

set_option maxHeartbeats 4000000 in
set_option maxRecDepth 100000 in
theorem L_set (X : gC) (S : Nat → Nat → Nat) (node : Nat) (c : Nat) (t : Nat → Nat) (w : Nat → Nat) (K : gOk X cX4_leastLength 7 wsX4_leastLength RX4) (hRf : 2 ≤ (g_R X).frames) (hRl : 50 ≤ (g_R X).locals) (hc : c ≤ 6) (hB : leB 144 1000000 w) (hn : node < 12) (ht : ∀ k, k < c → t k < 12) : ∀ (k z : Nat) (l : Nat → Nat), z + k = 1 <<< c → (leOK c z 0 l) → gG X 87 [(0, .ref (g_ad X 18)), (1, .int (nI (node))), (3, .int (nI (c))), (4, .int (nI ((1 <<< c) - 1))), (5, .int (nI ((1 <<< c))))] [] (va_up (va_up (va_up S 20 (t)) 19 (w)) 21 (((gfor (fSet w t node c) k z l)))) → gG X 26 [(0, .ref (g_ad X 18)), (1, .int (nI (node))), (3, .int (nI (c))), (4, .int (nI ((1 <<< c) - 1))), (5, .int (nI (z)))] [] (va_up (va_up (va_up S 20 (t)) 19 (w)) 21 (l)) := by
  have hin4 : ∀ w ∈ u_ws RX4 TX4 4, w ∈ wsX4_leastLength := by decide +kernel
  have hs1 : 1 ≤ 1 <<< c := by rw [Nat.one_shiftLeft]; exact Nat.one_le_two_pow
  have hs64 : 1 <<< c ≤ 64 := shl1_le (n := 6) hc
  intro k
  induction k with
  | zero =>
    intro z l hj hL kk
    have hj : z = 1 <<< c := by omega
    refine g_iload K 4 dX4_leastLength_26 rfl ?_
    refine g_iload K 3 dX4_leastLength_28 rfl ?_
    refine g_icmp_gt (tgt := 87) (a := z) (b := (1 <<< c) - 1) K dX4_leastLength_30 (by decide) (by omega) (by omega) (fun h30_1 => ?_) (fun h30_1 => ?_)
    · refine g_loc (lo' := [(0, .ref (g_ad X 18)), (1, .int (nI (node))), (3, .int (nI (c))), (4, .int (nI ((1 <<< c) - 1))), (5, .int (nI (z)))]) [0, 1, 2, 3, 4] rfl ?_
      exact g_cast (by first | rfl | (rw [hj]; done) | (rw [hj]; rfl)) rfl rfl kk
    · exact absurd h30_1 (by omega)
  | succ k ih =>
    intro z l hj hL kk
    refine g_iload K 4 dX4_leastLength_26 rfl ?_
    refine g_iload K 3 dX4_leastLength_28 rfl ?_
    refine g_icmp_gt (tgt := 87) (a := z) (b := (1 <<< c) - 1) K dX4_leastLength_30 (by decide) (by omega) (by omega) (fun h30_1 => ?_) (fun h30_1 => ?_)
    · exact absurd h30_1 (by omega)
    · refine g_iconst K 0 dX4_leastLength_33 (by decide +kernel) ?_
      refine g_istore (lo' := [(6, .int (nI (0))), (0, .ref (g_ad X 18)), (1, .int (nI (node))), (3, .int (nI (c))), (4, .int (nI ((1 <<< c) - 1))), (5, .int (nI (z)))]) K dX4_leastLength_34 (by decide) rfl ?_
      refine g_loc (lo' := [(0, .ref (g_ad X 18)), (1, .int (nI (node))), (3, .int (nI (c))), (4, .int (nI ((1 <<< c) - 1))), (5, .int (nI (z))), (6, .int (nI (0)))]) [1, 2, 3, 4, 5, 0] rfl ?_
      refine L_last X S node c t w z K (Nat.le_trans (Nat.le_of_ble_eq_true rfl) hRf) (Nat.le_trans (Nat.le_of_ble_eq_true rfl) hRl) (hc) (hB) (hn) (ht) (by omega)  c 0 l (by omega) (hL) ?_
      refine g_iinc (a := z) (b := z + 1) (lo' := [(5, .int (nI (z + 1))), (0, .ref (g_ad X 18)), (1, .int (nI (node))), (3, .int (nI (c))), (4, .int (nI ((1 <<< c) - 1))), (6, .int (nI (c)))]) K 4 dX4_leastLength_81 rfl (gi_inc _) (by decide) rfl ?_
      refine g_goto (tgt := 26) K dX4_leastLength_84 (by decide) ?_
      refine g_loc (lo' := [(0, .ref (g_ad X 18)), (1, .int (nI (node))), (3, .int (nI (c))), (4, .int (nI ((1 <<< c) - 1))), (5, .int (nI (z + 1)))]) [1, 2, 3, 4, 0] rfl ?_
      exact ih (z + 1) (((gfor (fLast w t node c z) c 0 l))) (by omega) (leOK_set hc hB hn ht hL) kk

set_option maxHeartbeats 4000000 in
set_option maxRecDepth 100000 in
theorem L_minl (X : gC) (S : Nat → Nat → Nat) (c : Nat) (t : Nat → Nat) (w : Nat → Nat) (l : Nat → Nat) (K : gOk X cX4_leastLength 7 wsX4_leastLength RX4) (hRf : 1 ≤ (g_R X).frames) (hRl : 13 ≤ (g_R X).locals) (hc : c ≤ 6) (hA : ∀ k, k < c → l (((1 <<< c) - 1) * 6 + k) ≤ 1000000) : ∀ (k i : Nat) (len : Nat), i + k = c → (len ≤ 1000000) → gG X 126 [(0, .ref (g_ad X 18)), (3, .int (nI (c))), (4, .int (nI ((1 <<< c) - 1))), (5, .int (nI (((gfor (fMinL l ((1 <<< c) - 1)) k i len))))), (6, .int (nI (c)))] [] (va_up (va_up (va_up S 20 (t)) 19 (w)) 21 (l)) → gG X 94 [(0, .ref (g_ad X 18)), (3, .int (nI (c))), (4, .int (nI ((1 <<< c) - 1))), (5, .int (nI (len))), (6, .int (nI (i)))] [] (va_up (va_up (va_up S 20 (t)) 19 (w)) 21 (l)) := by
  have hin4 : ∀ w ∈ u_ws RX4 TX4 4, w ∈ wsX4_leastLength := by decide +kernel
  have hs1 : 1 ≤ 1 <<< c := by rw [Nat.one_shiftLeft]; exact Nat.one_le_two_pow
  have hs64 : 1 <<< c ≤ 64 := shl1_le (n := 6) hc
  intro k
  induction k with
  | zero =>
    intro i len hj hlen kk
    have hj : i = c := by omega
    refine g_iload K 4 dX4_leastLength_94 rfl ?_
    refine g_iload_n K 1 dX4_leastLength_96 rfl ?_
    refine g_icmp_ge (tgt := 126) (a := i) (b := c) K dX4_leastLength_97 (by decide) (by omega) (by omega) (fun h97_1 => ?_) (fun h97_1 => ?_)
    · refine g_loc (lo' := [(0, .ref (g_ad X 18)), (3, .int (nI (c))), (4, .int (nI ((1 <<< c) - 1))), (5, .int (nI (len))), (6, .int (nI (i)))]) [0, 1, 2, 3, 4] rfl ?_
      exact g_cast (by first | rfl | (rw [hj]; done) | (rw [hj]; rfl)) rfl rfl kk
    · exact absurd h97_1 (by omega)
  | succ k ih =>
    intro i len hj hlen kk
    refine g_iload K 4 dX4_leastLength_94 rfl ?_
    refine g_iload_n K 1 dX4_leastLength_96 rfl ?_
    refine g_icmp_ge (tgt := 126) (a := i) (b := c) K dX4_leastLength_97 (by decide) (by omega) (by omega) (fun h97_1 => ?_) (fun h97_1 => ?_)
    · exact absurd h97_1 (by omega)
    · refine g_iload K 3 dX4_leastLength_100 rfl ?_
      refine g_aload_n K 0 dX4_leastLength_102 rfl ?_
      refine g_getR (q' := 21) (q := 18) (ci := 4) (k := 3) (N := 4) (C := RX4) (T := TX4) (ref := "ValveWalk$Walks") K rfl rfl rfl (by decide) hin4 (by decide +kernel) rfl dX4_leastLength_103 ?_
      refine g_iload K 2 dX4_leastLength_106 rfl ?_
      refine g_bipush K 6 dX4_leastLength_108 (by decide +kernel) ?_
      refine g_imul (a := (1 <<< c) - 1) (b := 6) K dX4_leastLength_110 ?_
      refine g_iload K 4 dX4_leastLength_111 rfl ?_
      refine g_iadd (a := ((1 <<< c) - 1) * (6)) (b := i) K dX4_leastLength_113 ?_
      refine g_ald (q := 21) (n := 384) (i := (((1 <<< c) - 1) * (6)) + (i)) K rfl (by decide) (by omega) dX4_leastLength_114 ?_
      refine g_topE (l ((((1 <<< c) - 1) * (6)) + (i))) rfl ?_
      have hA1 := hA i (by omega)
      refine g_mmin (a := len) (b := l ((((1 <<< c) - 1) * (6)) + (i))) K (by decide +kernel) (by decide +kernel) (by decide +kernel) (by decide +kernel) (Nat.le_trans (Nat.le_of_ble_eq_true rfl) hRf) (Nat.le_trans (Nat.le_of_ble_eq_true rfl) hRl) (by omega) (by omega) dX4_leastLength_115 ?_
      refine g_istore (lo' := [(5, .int (nI (min (len) (l ((((1 <<< c) - 1) * (6)) + (i)))))), (0, .ref (g_ad X 18)), (3, .int (nI (c))), (4, .int (nI ((1 <<< c) - 1))), (6, .int (nI (i)))]) K dX4_leastLength_118 (by decide) rfl ?_
      refine g_iinc (a := i) (b := i + 1) (lo' := [(6, .int (nI (i + 1))), (5, .int (nI (min (len) (l ((((1 <<< c) - 1) * (6)) + (i)))))), (0, .ref (g_ad X 18)), (3, .int (nI (c))), (4, .int (nI ((1 <<< c) - 1)))]) K 4 dX4_leastLength_120 rfl (gi_inc _) (by decide) rfl ?_
      refine g_goto (tgt := 94) K dX4_leastLength_123 (by decide) ?_
      refine g_loc (lo' := [(0, .ref (g_ad X 18)), (3, .int (nI (c))), (4, .int (nI ((1 <<< c) - 1))), (5, .int (nI (min (len) (l ((((1 <<< c) - 1) * (6)) + (i)))))), (6, .int (nI (i + 1)))]) [2, 3, 4, 1, 0] rfl ?_
      exact ih (i + 1) (min (len) (l ((((1 <<< c) - 1) * (6)) + (i)))) (by omega) (by omega) kk

set_option maxHeartbeats 4000000 in
set_option maxRecDepth 100000 in
theorem cX4_leastLength_k (Z : gZ) (S : Nat → Nat → Nat) (node a : Nat) (hw : wfC S) (hn : node < 12) (ha : a < 2147483648) : gMd Z yX4_leastLength wsX4_leastLength { frames := 4, cells := 0, slots := 0, locals := 86 } [.ref (gz_ad Z 18), .int (nI (node)), .int (nI (a))] S (walkF S node a) (walkS S node a) := by
  refine gMd_of (cc := cX4_leastLength) (maxL := 7) (ret := (some .int)) (by decide +kernel) rfl (Nat.le_of_ble_eq_true rfl) (Or.inl rfl) (fun X hZ hR K hret => ?_)
  subst hZ
  have K : gOk X cX4_leastLength 7 wsX4_leastLength RX4 := K
  have hRf : 4 ≤ (g_R X).frames := gR_f hR rfl
  have hRl : 86 ≤ (g_R X).locals := gR_l hR rfl
  have hin4 : ∀ w ∈ u_ws RX4 TX4 4, w ∈ wsX4_leastLength := by decide +kernel
  obtain ⟨w0, w1, w2, w3, wsh, wst, a2, a3, a4, a5, a6, a7⟩ := id hw
  show gG X 0 [(0, .ref (g_ad X 18)), (1, .int (nI (node))), (2, .int (nI (a)))] [] S
  refine g_aload_n K 0 dX4_leastLength_0 rfl ?_
  refine g_iload_n K 2 dX4_leastLength_1 rfl ?_
  refine g_callVd (q := 18) (ci := 4) (As := [.int (nI (a))]) (rest := []) (C := RX4) (T := TX4) (N := 4) K (cX4_listStops_k (g_z X) S a (hw) (by omega)) (cwV 1 K.1.2.2.2.2 gX4_leastLength_X4_listStops rfl rfl rfl (by decide +kernel) ⟨Nat.le_trans (Nat.le_of_ble_eq_true rfl) hRf, Nat.le_trans (Nat.le_of_ble_eq_true rfl) hRl⟩) rfl rfl rfl rfl (Nat.le_of_ble_eq_true rfl) dX4_leastLength_2 ?_
  refine g_cast (S' := (va_up S 20 ((listF S (a)).2))) rfl rfl rfl ?_
  obtain ⟨c, hcc⟩ : ∃ c, c = (listF S a).1 := ⟨_, rfl⟩
  obtain ⟨t, htt⟩ : ∃ t, t = (listF S a).2 := ⟨_, rfl⟩
  have hc : c ≤ 6 := by rw [hcc]; exact listF_c S a
  have ht : ∀ k, k < c → t k < 12 := by rw [hcc, htt]; exact listF_t hw a
  have hB := measW_le hw
  have hs1 : 1 ≤ 1 <<< c := by rw [Nat.one_shiftLeft]; exact Nat.one_le_two_pow
  have hs64 : 1 <<< c ≤ 64 := shl1_le (n := 6) hc
  refine g_topE c hcc.symm ?_
  refine g_cast (S' := va_up S 20 t) rfl rfl (by rw [htt]) ?_
  refine g_istore_n (lo' := [(3, .int (nI (c))), (0, .ref (g_ad X 18)), (1, .int (nI (node))), (2, .int (nI (a)))]) K dX4_leastLength_5 (by decide) rfl ?_
  refine g_iload_n K 0 dX4_leastLength_6 rfl ?_
  refine g_if_ne (tgt := 12) (a := c) K dX4_leastLength_7 (by decide) (by omega) (fun h7_1 => ?_) (fun h7_1 => ?_)
  · refine g_aload_n K 1 dX4_leastLength_12 rfl ?_
    refine g_callVv (q := 18) (ci := 4) (As := []) (rest := []) (C := RX4) (T := TX4) (N := 4) K (cX4_measure_k (g_z X) (va_up S 20 (t)) ((wfC_up hw (q := 20) (by decide) _))) (cwV 0 K.1.2.2.2.2 gX4_leastLength_X4_measure rfl rfl rfl (by decide +kernel) ⟨Nat.le_trans (Nat.le_of_ble_eq_true rfl) hRf, Nat.le_trans (Nat.le_of_ble_eq_true rfl) hRl⟩) rfl rfl rfl rfl (Nat.le_of_ble_eq_true rfl) dX4_leastLength_13 ?_
    refine g_cast (S' := (va_up (va_up S 20 (t)) 19 (measW S))) rfl rfl (by rw [measW_up (q := 20) (by decide) (by decide)]) ?_
    refine g_iconst K 1 dX4_leastLength_16 (by decide +kernel) ?_
    refine g_iload_n K 0 dX4_leastLength_17 rfl ?_
    refine g_ishl (a := 1) (b := c) K (by omega) dX4_leastLength_18 ?_
    refine g_iconst K 1 dX4_leastLength_19 (by decide +kernel) ?_
    refine g_isub (a := (1) <<< (c)) (b := 1) K (by omega) dX4_leastLength_20 ?_
    refine g_istore (lo' := [(4, .int (nI (((1) <<< (c)) - (1)))), (3, .int (nI (c))), (0, .ref (g_ad X 18)), (1, .int (nI (node))), (2, .int (nI (a)))]) K dX4_leastLength_21 (by decide) rfl ?_
    refine g_iconst K 1 dX4_leastLength_23 (by decide +kernel) ?_
    refine g_istore (lo' := [(5, .int (nI (1))), (4, .int (nI (((1) <<< (c)) - (1)))), (3, .int (nI (c))), (0, .ref (g_ad X 18)), (1, .int (nI (node))), (2, .int (nI (a)))]) K dX4_leastLength_24 (by decide) rfl ?_
    refine g_loc (lo' := [(0, .ref (g_ad X 18)), (1, .int (nI (node))), (3, .int (nI (c))), (4, .int (nI (((1) <<< (c)) - (1)))), (5, .int (nI (1)))]) [3, 4, 2, 1, 0] rfl ?_
    refine g_cast (S' := (va_up (va_up (va_up S 20 (t)) 19 (measW S)) 21 (S 21))) rfl rfl (up_id1 _ 21).symm ?_
    refine L_set X S node c t (measW S) K (Nat.le_trans (Nat.le_of_ble_eq_true rfl) hRf) (Nat.le_trans (Nat.le_of_ble_eq_true rfl) hRl) (hc) (hB) (hn) (ht)  ((1 <<< c) - 1) 1 (S 21) (by omega) (leOK_1 c _) ?_
    refine g_ldc (w := 1000000) K 1000000 (K.1.2.2.2.2 _ (by decide +kernel)) (by decide +kernel) dX4_leastLength_87 ?_
    refine g_istore (lo' := [(5, .int (nI (1000000))), (0, .ref (g_ad X 18)), (1, .int (nI (node))), (3, .int (nI (c))), (4, .int (nI ((1 <<< c) - 1)))]) K dX4_leastLength_89 (by decide) rfl ?_
    refine g_iconst K 0 dX4_leastLength_91 (by decide +kernel) ?_
    refine g_istore (lo' := [(6, .int (nI (0))), (5, .int (nI (1000000))), (0, .ref (g_ad X 18)), (1, .int (nI (node))), (3, .int (nI (c))), (4, .int (nI ((1 <<< c) - 1)))]) K dX4_leastLength_92 (by decide) rfl ?_
    refine g_loc (lo' := [(0, .ref (g_ad X 18)), (3, .int (nI (c))), (4, .int (nI ((1 <<< c) - 1))), (5, .int (nI (1000000))), (6, .int (nI (0)))]) [2, 4, 5, 1, 0] rfl ?_
    refine L_minl X S c t (measW S) (tabF (measW S) t node c (S 21)) K (Nat.le_trans (Nat.le_of_ble_eq_true rfl) hRf) (Nat.le_trans (Nat.le_of_ble_eq_true rfl) hRl) (hc) (by intro k hk; exact leOK_tab hc hB hn ht _ 1 _ (leOK_1 c _) _ k (Or.inl (by omega)) hk (gbit_all' hc hk))  c 0 1000000 (by omega) (by decide) ?_
    obtain ⟨len, hlen⟩ : ∃ n, n = lenF (tabF (measW S) t node c (S 21)) c := ⟨_, rfl⟩
    have hl9 : len ≤ 1000000 := by rw [hlen]; exact gfor_inv (· ≤ 1000000) _ (fun k n h => by unfold fMinL; omega) _ 0 _ (by decide)
    refine g_cast (lo' := [(0, .ref (g_ad X 18)), (3, .int (nI (c))), (4, .int (nI ((1 <<< c) - 1))), (5, .int (nI (len))), (6, .int (nI (c)))]) (by rw [hlen]; rfl) rfl rfl ?_
    refine g_iload K 3 dX4_leastLength_126 rfl ?_
    refine g_ldc (w := 1000000) K 1000000 (K.1.2.2.2.2 _ (by decide +kernel)) (by decide +kernel) dX4_leastLength_128 ?_
    refine g_icmp_ge (tgt := 138) (a := len) (b := 1000000) K dX4_leastLength_130 (by decide) (by omega) (by omega) (fun h130_2 => ?_) (fun h130_2 => ?_)
    · refine g_iconst K 4294967295 dX4_leastLength_138 (by decide +kernel) ?_
      exact g_retd hret dX4_leastLength_139 (by unfold walkF; rw [← htt, ← hcc, if_neg (by assumption), ← hlen, if_neg (by omega)]) (by unfold walkS; rw [← htt, ← hcc, if_neg (by assumption)])
    · refine g_iload K 3 dX4_leastLength_133 rfl ?_
      refine g_goto (tgt := 139) K dX4_leastLength_135 (by decide) ?_
      exact g_retd hret dX4_leastLength_139 (by unfold walkF; rw [← htt, ← hcc, if_neg (by assumption), ← hlen, if_pos (by omega)]) (by unfold walkS; rw [← htt, ← hcc, if_neg (by assumption)])
  · refine g_iconst K 0 dX4_leastLength_10 (by decide +kernel) ?_
    exact g_retd hret dX4_leastLength_11 (by unfold walkF; rw [← hcc, if_pos (by assumption)]) (by unfold walkS; rw [← htt, ← hcc, if_pos (by assumption)])

