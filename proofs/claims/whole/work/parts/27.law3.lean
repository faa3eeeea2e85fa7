/-! CLASS AND REFERENCE, CALL BY CALL -/
def fB (bb : Bool) (v : Nat) : Int64 := match bb with | true => bL v | false => lI v
/-- the law's helper answers k, then the reference v: they agree, and the link is kept -/
def gPr (Z : gZ) (o : Nat) (yH : MethodName) (wsH : List Cond) (avH : List Value) (yM : MethodName) (wsM : List Cond) (avM : List Value) (bb : Bool) (S : Nat → Nat → Nat) : Prop :=
  ∃ (k : Nat) (S1 : Nat → Nat → Nat) (O1 : Nat → Int64) (rm : Room) (v : Nat) (S2 : Nat → Nat → Nat), k ≤ 3 ∧ gMh Z yH wsH rmH avH S k S1 (oc o (gz_L Z) O1) ∧ rm.frames ≤ 6 ∧ rm.locals ≤ 120 ∧ rm.cells = 0 ∧ rm.slots = 0 ∧ (bb = true → v ≤ 1) ∧ gMd (zx Z (oc o (gz_L Z) O1)) yM wsM rm avM S1 v S2 ∧ S2 22 0 = k ∧ (k = 0 → O1 0 = fB bb v) ∧ inv S2 S2
section PRS
variable {Z : gZ} {o : Nat} {O : Nat → Int64} {yH yM : MethodName} {wsH wsM : List Cond} {avH avM : List Value} {S S1 S2 : Nat → Nat → Nat} {rm : Room} {v w k : Nat}
theorem pr_ok {bb : Bool} (hH : gMh Z yH wsH rmH avH S 0 S1 (oc o (gz_L Z) (vp_updL O 0 (fB bb w)))) (hwv : w = v) (hM : gMd (zx Z (oc o (gz_L Z) (vp_updL O 0 (fB bb w)))) yM wsM rm avM S1 v S2) (hf : rm.frames ≤ 6) (hl : rm.locals ≤ 120) (hc : rm.cells = 0) (hs : rm.slots = 0) (hv : bb = true → v ≤ 1) (h0 : S2 22 0 = 0) (hI : inv S2 S2) : gPr Z o yH wsH avH yM wsM avM bb S :=
  ⟨0, S1, _, rm, v, S2, by omega, hH, hf, hl, hc, hs, hv, hM, h0, fun _ => by rw [hwv]; rfl, hI⟩
theorem pr_th {bb : Bool} (hk : 0 < k ∧ k ≤ 3) (hH : gMh Z yH wsH rmH avH S k S1 (oc o (gz_L Z) O)) (hM : gMd (zx Z (oc o (gz_L Z) O)) yM wsM rm avM S1 v S2) (hf : rm.frames ≤ 6) (hl : rm.locals ≤ 120) (hc : rm.cells = 0) (hs : rm.slots = 0) (hv : bb = true → v ≤ 1) (h0 : S2 22 0 = k) (hI : inv S2 S2) : gPr Z o yH wsH avH yM wsM avM bb S :=
  ⟨k, S1, _, rm, v, S2, hk.2, hH, hf, hl, hc, hs, hv, hM, h0, fun h => absurd h (by omega), hI⟩
end PRS
section IVS
variable {S T S' : Nat → Nat → Nat}
theorem inv_lit (h : inv S T) (e1 : S' 1 = S 1) (e2 : S' 2 = S 2) (e3 : S' 3 = S 3) (e4 : S' 4 = S 4) (e5 : S' 5 = S 5) (e6 : S' 6 = S 6) (e7 : S' 7 = S 7) (eT : ∀ i, i ≠ 0 → i ≠ 16 → S' 22 i = T 22 i) (t3 : S' 23 = T 23) (t4 : S' 24 = T 24) (t5 : S' 25 = T 25) (t6 : S' 26 = T 26) (t7 : S' 27 = T 27) : inv S' S' := by
  refine inv_frame h (fun q h1 h2 => ?_) eT (fun q h1 h2 => ?_)
  · rcases (show q = 1 ∨ q = 2 ∨ q = 3 ∨ q = 4 ∨ q = 5 ∨ q = 6 ∨ q = 7 by omega) with rfl | rfl | rfl | rfl | rfl | rfl | rfl <;> assumption
  · rcases (show q = 23 ∨ q = 24 ∨ q = 25 ∨ q = 26 ∨ q = 27 by omega) with rfl | rfl | rfl | rfl | rfl <;> assumption
/-- the reference stands as it was, the class's scratch is other -/
theorem inv_sc (h : inv S S) (e : ∀ q, 22 ≤ q → q ≤ 27 → S' q = S q) : inv S S' :=
  inv_frame h (fun _ _ _ => rfl) (fun i _ _ => by rw [e 22 (by decide) (by decide)]) (fun q h1 h2 => e q (by omega) h2)
theorem inv_sc2 (h : inv S S) (e : ∀ q, 1 ≤ q → q ≤ 7 → S' q = S q) (e2 : ∀ q, 22 ≤ q → q ≤ 27 → S' q = S q) : inv S' S' :=
  inv_frame h e (fun i _ _ => by rw [e2 22 (by decide) (by decide)]) (fun q h1 h2 => e2 q (by omega) h2)
theorem inv_ref (h : inv S S) (k : Nat) : inv (va_up S 22 (va_up (S 22) 0 k)) (va_up S 22 (va_up (S 22) 0 k)) :=
  inv_lit h rfl rfl rfl rfl rfl rfl rfl (fun i h0 _ => by simp [va_up, h0]) rfl rfl rfl rfl rfl
theorem inv_nd (h : inv S T) : ndM T := by
  intro j hj
  have e4 : S 4 = T 23 := h.2.2.1.2.2.2.2.2.2.2.2.1
  have q := h.2.2.2.2.2.2.1 j (by rw [h.2.2.1.2.1]; exact hj)
  rw [e4, h.2.2.1.1] at q
  exact q
theorem inv_wm (h : inv S T) : wfM T := h.2.1
end IVS
theorem gbit_g1 (a b : Nat) : gbit a b = g1 a b := by rw [gbit_tb, g1_tb]
theorem gbit0 {a b : Nat} (h : gbit a b = 0) : ¬ (a >>> b) &&& 1 = 1 := by
  intro q; rw [gbit_g1, g1, if_pos q] at h; cases h
theorem gbit1 {a b : Nat} (h : gbit a b ≠ 0) : (a >>> b) &&& 1 = 1 := by
  refine Decidable.byContradiction fun q => ?_
  rw [gbit_g1, g1, if_neg q] at h; exact h rfl
theorem addS_fr (S : Nat → Nat → Nat) (f g : Nat) {q : Nat} (h : q < 11 ∨ 15 < q) : addS S f g q = S q := by
  have h3 : q ≠ 13 := by omega
  have h4 : q ≠ 14 := by omega
  have h5 : q ≠ 15 := by omega
  unfold addS; split <;> simp [va_up, h3, h4, h5]
theorem countGo_fr (f g : Nat) {q : Nat} (h : q < 11 ∨ 15 < q) : ∀ (k c : Nat) (S : Nat → Nat → Nat), (countGo f g k c S).2 q = S q
  | 0, _, _ => rfl
  | k + 1, c, S => by
    by_cases h0 : addV S f g = 0
    · rw [countGo_pos h0]; exact addS_fr S f g h
    · rw [countGo_neg h0, countGo_fr f g h k, addS_fr S f g h]
theorem waysS_fr (S : Nat → Nat → Nat) (p : Nat) {q : Nat} (h : q < 11 ∨ 15 < q) : waysS S p q = S q := by
  have h1 : q ≠ 11 := by omega
  have h2 : q ≠ 12 := by omega
  have h3 : q ≠ 13 := by omega
  unfold waysS; split
  · rw [countGo_fr _ _ h, prepS]; simp [va_up, h1, h2, h3]
  · rfl
theorem tryS_fr (S : Nat → Nat → Nat) (p : Nat) {q : Nat} (h : q < 11 ∨ 15 < q) : tryS S p q = S q := by
  have h1 : q ≠ 11 := by omega
  have h2 : q ≠ 12 := by omega
  unfold tryS; split
  · simp [va_up, h1, h2]
  · rfl
theorem walkS_fr (S : Nat → Nat → Nat) (n a : Nat) {q : Nat} (h : q < 19 ∨ 21 < q) : walkS S n a q = S q := by
  have h1 : q ≠ 19 := by omega
  have h2 : q ≠ 20 := by omega
  have h3 : q ≠ 21 := by omega
  unfold walkS; split
  · simp [va_up, h2]
  · simp [va_up, h1, h2, h3]
theorem nrK_1 {S : Nat → Nat → Nat} {p : Nat} (h : S 22 2 ≤ p) : nrK S p = 1 := by
  unfold nrK; rw [if_pos]; rcases isN_spec (S 22 2) p with q | q <;> omega
theorem nrK_0 {S : Nat → Nat → Nat} {p : Nat} (h : p < S 22 2) (h2 : regM S p &&& S 22 4 = 0) : nrK S p = 0 := by
  unfold nrK; rw [if_neg, if_pos h2]; rcases isN_spec (S 22 2) p with q | q <;> omega
theorem nrK_2 {S : Nat → Nat → Nat} {p : Nat} (h : p < S 22 2) (h2 : regM S p &&& S 22 4 ≠ 0) : nrK S p = 2 := by
  unfold nrK; rw [if_neg, if_neg h2]; rcases isN_spec (S 22 2) p with q | q <;> omega

set_option maxHeartbeats 4000000 in
set_option maxRecDepth 100000 in
theorem pr_addNode (Z : gZ) (o : Nat) (O : Nat → Int64) (hex : gz_ex Z = oc o (gz_L Z) O) (hl0 : (gz_l Z).stackTraces = false) (S : Nat → Nat → Nat) (h : inv S S) (i : Nat) (hui : i < 4294967296) : gPr Z o yL_addNode wsL_addNode [.ref (gz_ad Z 0), .int (nI i), .ref o] yX6_addNode wsX6_addNode [.ref (gz_ad Z 22), .int (nI i)] false S := by
  have n0 : S 1 0 = S 22 1 := h.2.2.1.1
  have n1 : S 1 1 = S 22 2 := h.2.2.1.2.1
  have n2 : S 1 2 = S 22 3 := h.2.2.1.2.2.1
  have n3 : S 1 3 = S 22 4 := h.2.2.1.2.2.2.1
  have n4 : S 1 4 = S 22 10 := h.2.2.1.2.2.2.2.1
  have n5 : S 1 5 = S 22 11 := h.2.2.1.2.2.2.2.2.1
  have b0 := h.1.1
  have b1 := h.1.2.1
  have b2 := h.1.2.2.1
  by_cases h0 : S 1 0 < 12
  · exact pr_ok (hL_addNode_n Z S _ i (S 1 0) o O hex _ (by rfl) (by rfl) (by exact Nat.le_of_ble_eq_true rfl) (by exact Nat.le_of_ble_eq_true rfl) (cX5_addNode_k Z S i h.1 h0 hui)) (n0) (cX6_addNode_k (zx Z _) _ i (wfM_of h.2.1 (fun i _ _ => rfl) rfl rfl rfl rfl rfl) (by show S 22 1 < 12; omega) hui) (by exact Nat.le_of_ble_eq_true rfl) (by exact Nat.le_of_ble_eq_true rfl) (by rfl) (by rfl) (fun q => by cases q) rfl (inv_lit (inv_node h i h0) rfl rfl rfl rfl rfl rfl rfl (fun i _ _ => rfl) rfl rfl rfl rfl rfl)
  · exact pr_th (k := 1) (by decide) (hL_addNode_x1 Z S _ i o O hex _ (by rfl) (by rfl) (by exact Nat.le_of_ble_eq_true rfl) (by exact Nat.le_of_ble_eq_true rfl) (xX5_addNode_x Z S i hl0 h.1 (by omega))) (cX6_addNode_r1 (zx Z _) S i h.2.1 (by omega) hui) (by exact Nat.le_of_ble_eq_true rfl) (by exact Nat.le_of_ble_eq_true rfl) (by rfl) (by rfl) (fun _ => by decide) rfl (inv_ref h 1)

set_option maxHeartbeats 4000000 in
set_option maxRecDepth 100000 in
theorem pr_addPipe (Z : gZ) (o : Nat) (O : Nat → Int64) (hex : gz_ex Z = oc o (gz_L Z) O) (hl0 : (gz_l Z).stackTraces = false) (S : Nat → Nat → Nat) (h : inv S S) (x y ln cu : Nat) (hux : x < 4294967296) (huy : y < 4294967296) (huln : ln < 4294967296) (hucu : cu < 4294967296) : gPr Z o yL_addPipe wsL_addPipe [.ref (gz_ad Z 0), .int (nI x), .int (nI y), .int (nI ln), .int (nI cu), .ref o] yX6_addPipe wsX6_addPipe [.ref (gz_ad Z 22), .int (nI x), .int (nI y), .int (nI ln), .int (nI cu)] false S := by
  have n0 : S 1 0 = S 22 1 := h.2.2.1.1
  have n1 : S 1 1 = S 22 2 := h.2.2.1.2.1
  have n2 : S 1 2 = S 22 3 := h.2.2.1.2.2.1
  have n3 : S 1 3 = S 22 4 := h.2.2.1.2.2.2.1
  have n4 : S 1 4 = S 22 10 := h.2.2.1.2.2.2.2.1
  have n5 : S 1 5 = S 22 11 := h.2.2.1.2.2.2.2.2.1
  have b0 := h.1.1
  have b1 := h.1.2.1
  have b2 := h.1.2.2.1
  by_cases h1 : x < S 1 0
  · by_cases h2 : y < S 1 0
    · by_cases h3 : x = y ∨ ¬ (1 ≤ ln ∧ ln ≤ 99) ∨ ¬ cu ≤ 99
      · exact pr_th (k := 2) (by decide) (hL_addPipe_x2 Z S _ x y ln cu o O hex _ (by rfl) (by rfl) (by exact Nat.le_of_ble_eq_true rfl) (by exact Nat.le_of_ble_eq_true rfl) (xX5_addPipe_x3 Z S x y ln cu hl0 h.1 hux huy huln hucu h1 h2 h3)) (cX6_addPipe_r2 (zx Z _) S x y ln cu h.2.1 hux huy huln hucu (by omega) (by omega) h3) (by exact Nat.le_of_ble_eq_true rfl) (by exact Nat.le_of_ble_eq_true rfl) (by rfl) (by rfl) (fun _ => by decide) rfl (inv_ref h 2)
      · by_cases h4 : S 1 1 < 16
        · exact pr_ok (hL_addPipe_n Z S _ x y ln cu (S 1 1) o O hex _ (by rfl) (by rfl) (by exact Nat.le_of_ble_eq_true rfl) (by exact Nat.le_of_ble_eq_true rfl) (cX5_addPipe_k Z S x y ln cu h.1 h1 h2 (by omega) (by omega) (by omega) h4)) (n1) (cX6_addPipe_k (zx Z _) _ x y ln cu (wfM_of h.2.1 (fun i _ _ => rfl) rfl rfl rfl rfl rfl) hux huy huln hucu (by show x < S 22 1; omega) (by show y < S 22 1; omega) (by omega) (by omega) (by omega) (by show S 22 2 < 16; omega)) (by exact Nat.le_of_ble_eq_true rfl) (by exact Nat.le_of_ble_eq_true rfl) (by rfl) (by rfl) (fun q => by cases q) rfl (inv_lit (inv_pipe h h1 h2 (by omega) (by omega) (by omega) h4) rfl rfl rfl rfl rfl rfl rfl (fun i _ _ => rfl) rfl rfl rfl rfl rfl)
        · exact pr_th (k := 3) (by decide) (hL_addPipe_x3 Z S _ x y ln cu o O hex _ (by rfl) (by rfl) (by exact Nat.le_of_ble_eq_true rfl) (by exact Nat.le_of_ble_eq_true rfl) (xX5_addPipe_x4 Z S x y ln cu hl0 h.1 hux huy huln hucu h1 h2 (by omega) (by omega) (by omega) (by omega))) (cX6_addPipe_r3 (zx Z _) S x y ln cu h.2.1 hux huy huln hucu (by omega) (by omega) (by omega) (by omega) (by omega) (by omega)) (by exact Nat.le_of_ble_eq_true rfl) (by exact Nat.le_of_ble_eq_true rfl) (by rfl) (by rfl) (fun _ => by decide) rfl (inv_ref h 3)
    · exact pr_th (k := 1) (by decide) (hL_addPipe_x1 Z S _ x y ln cu o O hex _ (by rfl) (by rfl) (by exact Nat.le_of_ble_eq_true rfl) (by exact Nat.le_of_ble_eq_true rfl) (xX5_addPipe_x2 Z S x y ln cu hl0 h.1 hux huy huln hucu h1 (by omega))) (cX6_addPipe_r1 (zx Z _) S x y ln cu h.2.1 hux huy huln hucu (by omega)) (by exact Nat.le_of_ble_eq_true rfl) (by exact Nat.le_of_ble_eq_true rfl) (by rfl) (by rfl) (fun _ => by decide) rfl (inv_ref h 1)
  · exact pr_th (k := 1) (by decide) (hL_addPipe_x1 Z S _ x y ln cu o O hex _ (by rfl) (by rfl) (by exact Nat.le_of_ble_eq_true rfl) (by exact Nat.le_of_ble_eq_true rfl) (xX5_addPipe_x1 Z S x y ln cu hl0 h.1 hux huy huln hucu (by omega))) (cX6_addPipe_r1 (zx Z _) S x y ln cu h.2.1 hux huy huln hucu (by omega)) (by exact Nat.le_of_ble_eq_true rfl) (by exact Nat.le_of_ble_eq_true rfl) (by rfl) (by rfl) (fun _ => by decide) rfl (inv_ref h 1)

set_option maxHeartbeats 4000000 in
set_option maxRecDepth 100000 in
theorem pr_addValve (Z : gZ) (o : Nat) (O : Nat → Int64) (hex : gz_ex Z = oc o (gz_L Z) O) (hl0 : (gz_l Z).stackTraces = false) (S : Nat → Nat → Nat) (h : inv S S) (p e : Nat) (hup : p < 4294967296) (hue : e < 4294967296) : gPr Z o yL_addValve wsL_addValve [.ref (gz_ad Z 0), .int (nI p), .int (nI e), .ref o] yX6_addValve wsX6_addValve [.ref (gz_ad Z 22), .int (nI p), .int (nI e)] false S := by
  have n0 : S 1 0 = S 22 1 := h.2.2.1.1
  have n1 : S 1 1 = S 22 2 := h.2.2.1.2.1
  have n2 : S 1 2 = S 22 3 := h.2.2.1.2.2.1
  have n3 : S 1 3 = S 22 4 := h.2.2.1.2.2.2.1
  have n4 : S 1 4 = S 22 10 := h.2.2.1.2.2.2.2.1
  have n5 : S 1 5 = S 22 11 := h.2.2.1.2.2.2.2.2.1
  have b0 := h.1.1
  have b1 := h.1.2.1
  have b2 := h.1.2.2.1
  by_cases h1 : p < S 1 1
  · by_cases h2 : e < 2
    · have hv : (S 24 (2 * p + e) = 4294967295 ∧ S 5 (2 * p + e) = 0) ∨ (S 24 (2 * p + e) ≠ 4294967295 ∧ S 5 (2 * p + e) ≠ 0) := by
        rcases h.2.2.2.2.1 (2 * p + e) (by omega) with q | ⟨q1, q2, q3⟩
        · exact Or.inl q
        · refine Or.inr ⟨by omega, ?_⟩
          rw [q2, Nat.shiftLeft_eq, Nat.one_mul]
          exact Nat.ne_of_gt (Nat.two_pow_pos _)
      by_cases h3 : S 5 (2 * p + e) = 0 ∧ S 1 2 < 12
      · exact pr_ok (hL_addValve_n Z S _ p e (S 1 2) o O hex _ (by rfl) (by rfl) (by exact Nat.le_of_ble_eq_true rfl) (by exact Nat.le_of_ble_eq_true rfl) (cX5_addValve_k Z S p e h.1 h1 h2 h3.1 h3.2)) (n2) (cX6_addValve_k (zx Z _) _ p e (wfM_of h.2.1 (fun i _ _ => rfl) rfl rfl rfl rfl rfl) hup hue (by show p < S 22 2; omega) h2 (by show S 24 (2 * p + e) = 4294967295; omega) (by show S 22 3 < 12; omega)) (by exact Nat.le_of_ble_eq_true rfl) (by exact Nat.le_of_ble_eq_true rfl) (by rfl) (by rfl) (fun q => by cases q) rfl (inv_lit (inv_valve h h1 h2 h3.1 h3.2) rfl rfl rfl rfl rfl rfl rfl (fun i _ _ => rfl) rfl rfl rfl rfl rfl)
      · exact pr_th (k := 3) (by decide) (hL_addValve_x3 Z S _ p e o O hex _ (by rfl) (by rfl) (by exact Nat.le_of_ble_eq_true rfl) (by exact Nat.le_of_ble_eq_true rfl) (xX5_addValve_x3 Z S p e hl0 h.1 hup hue h1 h2 (by omega))) (cX6_addValve_r3 (zx Z _) S p e h.2.1 hup hue (by omega) h2 (by omega)) (by exact Nat.le_of_ble_eq_true rfl) (by exact Nat.le_of_ble_eq_true rfl) (by rfl) (by rfl) (fun _ => by decide) rfl (inv_ref h 3)
    · exact pr_th (k := 2) (by decide) (hL_addValve_x2 Z S _ p e o O hex _ (by rfl) (by rfl) (by exact Nat.le_of_ble_eq_true rfl) (by exact Nat.le_of_ble_eq_true rfl) (xX5_addValve_x2 Z S p e hl0 h.1 hup hue h1 (by omega))) (cX6_addValve_r2 (zx Z _) S p e h.2.1 hup hue (by omega) (by omega)) (by exact Nat.le_of_ble_eq_true rfl) (by exact Nat.le_of_ble_eq_true rfl) (by rfl) (by rfl) (fun _ => by decide) rfl (inv_ref h 2)
  · exact pr_th (k := 1) (by decide) (hL_addValve_x1 Z S _ p e o O hex _ (by rfl) (by rfl) (by exact Nat.le_of_ble_eq_true rfl) (by exact Nat.le_of_ble_eq_true rfl) (xX5_addValve_x1 Z S p e hl0 h.1 hup hue (by omega))) (cX6_addValve_r1 (zx Z _) S p e h.2.1 hup hue (by omega)) (by exact Nat.le_of_ble_eq_true rfl) (by exact Nat.le_of_ble_eq_true rfl) (by rfl) (by rfl) (fun _ => by decide) rfl (inv_ref h 1)

set_option maxHeartbeats 4000000 in
set_option maxRecDepth 100000 in
theorem pr_setSource (Z : gZ) (o : Nat) (O : Nat → Int64) (hex : gz_ex Z = oc o (gz_L Z) O) (hl0 : (gz_l Z).stackTraces = false) (S : Nat → Nat → Nat) (h : inv S S) (n i : Nat) (hun : n < 4294967296) (hui : i < 4294967296) : gPr Z o yL_setSource wsL_setSource [.ref (gz_ad Z 0), .int (nI n), .int (nI i), .ref o] yX6_setSource wsX6_setSource [.ref (gz_ad Z 22), .int (nI n), .int (nI i)] true S := by
  have n0 : S 1 0 = S 22 1 := h.2.2.1.1
  have n1 : S 1 1 = S 22 2 := h.2.2.1.2.1
  have n2 : S 1 2 = S 22 3 := h.2.2.1.2.2.1
  have n3 : S 1 3 = S 22 4 := h.2.2.1.2.2.2.1
  have n4 : S 1 4 = S 22 10 := h.2.2.1.2.2.2.2.1
  have n5 : S 1 5 = S 22 11 := h.2.2.1.2.2.2.2.2.1
  have b0 := h.1.1
  have b1 := h.1.2.1
  have b2 := h.1.2.2.1
  by_cases h1 : n < S 1 0
  · exact pr_ok (hL_setSource_n Z S _ n i (gbit (S 1 3) n) o O hex _ (by rfl) (by rfl) (by exact Nat.le_of_ble_eq_true rfl) (by exact Nat.le_of_ble_eq_true rfl) (Nat.lt_of_le_of_lt (gbit_le _ _) (by decide)) (cX5_setSource_k Z S n i h.1 h1 hui)) (by rw [gbit_g1, n3]; rfl) (cX6_setSource_k (zx Z _) _ n i (wfM_of h.2.1 (fun i _ _ => rfl) rfl rfl rfl rfl rfl) hun (by show n < S 22 1; omega) hui) (by exact Nat.le_of_ble_eq_true rfl) (by exact Nat.le_of_ble_eq_true rfl) (by rfl) (by rfl) (fun _ => g1_le _ _) rfl (inv_lit (inv_source h i h1) rfl rfl rfl rfl rfl rfl rfl (fun i _ _ => rfl) rfl rfl rfl rfl rfl)
  · exact pr_th (k := 1) (by decide) (hL_setSource_x1 Z S _ n i o O hex _ (by rfl) (by rfl) (by exact Nat.le_of_ble_eq_true rfl) (by exact Nat.le_of_ble_eq_true rfl) (xX5_setSource_x Z S n i hl0 h.1 hun (by omega))) (cX6_setSource_r1 (zx Z _) S n i h.2.1 hun (by omega) hui) (by exact Nat.le_of_ble_eq_true rfl) (by exact Nat.le_of_ble_eq_true rfl) (by rfl) (by rfl) (fun _ => by decide) rfl (inv_ref h 1)

set_option maxHeartbeats 4000000 in
set_option maxRecDepth 100000 in
theorem pr_setStuck (Z : gZ) (o : Nat) (O : Nat → Int64) (hex : gz_ex Z = oc o (gz_L Z) O) (hl0 : (gz_l Z).stackTraces = false) (S : Nat → Nat → Nat) (h : inv S S) (n i : Nat) (hun : n < 4294967296) (hui : i < 4294967296) : gPr Z o yL_setStuck wsL_setStuck [.ref (gz_ad Z 0), .int (nI n), .int (nI i), .ref o] yX6_setStuck wsX6_setStuck [.ref (gz_ad Z 22), .int (nI n), .int (nI i)] true S := by
  have n0 : S 1 0 = S 22 1 := h.2.2.1.1
  have n1 : S 1 1 = S 22 2 := h.2.2.1.2.1
  have n2 : S 1 2 = S 22 3 := h.2.2.1.2.2.1
  have n3 : S 1 3 = S 22 4 := h.2.2.1.2.2.2.1
  have n4 : S 1 4 = S 22 10 := h.2.2.1.2.2.2.2.1
  have n5 : S 1 5 = S 22 11 := h.2.2.1.2.2.2.2.2.1
  have b0 := h.1.1
  have b1 := h.1.2.1
  have b2 := h.1.2.2.1
  by_cases h1 : n < S 1 2
  · exact pr_ok (hL_setStuck_n Z S _ n i (gbit (S 1 5) n) o O hex _ (by rfl) (by rfl) (by exact Nat.le_of_ble_eq_true rfl) (by exact Nat.le_of_ble_eq_true rfl) (Nat.lt_of_le_of_lt (gbit_le _ _) (by decide)) (cX5_setStuck_k Z S n i h.1 h1 hui)) (by rw [gbit_g1, n5]; rfl) (cX6_setStuck_k (zx Z _) _ n i (wfM_of h.2.1 (fun i _ _ => rfl) rfl rfl rfl rfl rfl) hun (by show n < S 22 3; omega) hui) (by exact Nat.le_of_ble_eq_true rfl) (by exact Nat.le_of_ble_eq_true rfl) (by rfl) (by rfl) (fun _ => g1_le _ _) rfl (inv_lit (inv_stuck h i h1) rfl rfl rfl rfl rfl rfl rfl (fun i _ _ => rfl) rfl rfl rfl rfl rfl)
  · exact pr_th (k := 1) (by decide) (hL_setStuck_x1 Z S _ n i o O hex _ (by rfl) (by rfl) (by exact Nat.le_of_ble_eq_true rfl) (by exact Nat.le_of_ble_eq_true rfl) (xX5_setStuck_x Z S n i hl0 h.1 hun (by omega))) (cX6_setStuck_r1 (zx Z _) S n i h.2.1 hun (by omega) hui) (by exact Nat.le_of_ble_eq_true rfl) (by exact Nat.le_of_ble_eq_true rfl) (by rfl) (by rfl) (fun _ => by decide) rfl (inv_ref h 1)

set_option maxHeartbeats 4000000 in
set_option maxRecDepth 100000 in
theorem pr_turn (Z : gZ) (o : Nat) (O : Nat → Int64) (hex : gz_ex Z = oc o (gz_L Z) O) (hl0 : (gz_l Z).stackTraces = false) (S : Nat → Nat → Nat) (h : inv S S) (n i : Nat) (hun : n < 4294967296) (hui : i < 4294967296) : gPr Z o yL_turn wsL_turn [.ref (gz_ad Z 0), .int (nI n), .int (nI i), .ref o] yX6_turn wsX6_turn [.ref (gz_ad Z 22), .int (nI n), .int (nI i)] true S := by
  have n0 : S 1 0 = S 22 1 := h.2.2.1.1
  have n1 : S 1 1 = S 22 2 := h.2.2.1.2.1
  have n2 : S 1 2 = S 22 3 := h.2.2.1.2.2.1
  have n3 : S 1 3 = S 22 4 := h.2.2.1.2.2.2.1
  have n4 : S 1 4 = S 22 10 := h.2.2.1.2.2.2.2.1
  have n5 : S 1 5 = S 22 11 := h.2.2.1.2.2.2.2.2.1
  have b0 := h.1.1
  have b1 := h.1.2.1
  have b2 := h.1.2.2.1
  by_cases h1 : n < S 1 2
  · by_cases h2 : gbit (S 1 5) n = 0
    · exact pr_ok (hL_turn_n Z S _ n i (gbit (S 1 4) n) o O hex _ (by rfl) (by rfl) (by exact Nat.le_of_ble_eq_true rfl) (by exact Nat.le_of_ble_eq_true rfl) (Nat.lt_of_le_of_lt (gbit_le _ _) (by decide)) (cX5_turn_k Z S n i h.1 h1 h2 hui)) (by rw [gbit_g1, n4]; rfl) (cX6_turn_k (zx Z _) _ n i (wfM_of h.2.1 (fun i _ _ => rfl) rfl rfl rfl rfl rfl) hun (by show n < S 22 3; omega) (by show ¬ (S 22 11 >>> n) &&& 1 = 1; rw [← n5]; exact gbit0 h2) hui) (by exact Nat.le_of_ble_eq_true rfl) (by exact Nat.le_of_ble_eq_true rfl) (by rfl) (by rfl) (fun _ => g1_le _ _) rfl (inv_lit (inv_shut h i h1) rfl rfl rfl rfl rfl rfl rfl (fun i _ _ => rfl) rfl rfl rfl rfl rfl)
    · exact pr_th (k := 2) (by decide) (hL_turn_x2 Z S _ n i o O hex _ (by rfl) (by rfl) (by exact Nat.le_of_ble_eq_true rfl) (by exact Nat.le_of_ble_eq_true rfl) (xX5_turn_x2 Z S n i hl0 h.1 h1 h2 hui)) (cX6_turn_r2 (zx Z _) S n i h.2.1 hun (by omega) (by rw [← n5]; exact gbit1 h2) hui) (by exact Nat.le_of_ble_eq_true rfl) (by exact Nat.le_of_ble_eq_true rfl) (by rfl) (by rfl) (fun _ => by decide) rfl (inv_ref h 2)
  · exact pr_th (k := 1) (by decide) (hL_turn_x1 Z S _ n i o O hex _ (by rfl) (by rfl) (by exact Nat.le_of_ble_eq_true rfl) (by exact Nat.le_of_ble_eq_true rfl) (xX5_turn_x1 Z S n i hl0 h.1 hun (by omega))) (cX6_turn_r1 (zx Z _) S n i h.2.1 hun (by omega) hui) (by exact Nat.le_of_ble_eq_true rfl) (by exact Nat.le_of_ble_eq_true rfl) (by rfl) (by rfl) (fun _ => by decide) rfl (inv_ref h 1)

set_option maxHeartbeats 4000000 in
set_option maxRecDepth 100000 in
theorem pr_isNodeDry (Z : gZ) (o : Nat) (O : Nat → Int64) (hex : gz_ex Z = oc o (gz_L Z) O) (hl0 : (gz_l Z).stackTraces = false) (S : Nat → Nat → Nat) (h : inv S S) (n : Nat) (hun : n < 4294967296) : gPr Z o yL_isNodeDry wsL_isNodeDry [.ref (gz_ad Z 0), .int (nI n), .ref o] yX6_isNodeDry wsX6_isNodeDry [.ref (gz_ad Z 22), .int (nI n)] true S := by
  have n0 : S 1 0 = S 22 1 := h.2.2.1.1
  have n1 : S 1 1 = S 22 2 := h.2.2.1.2.1
  have n2 : S 1 2 = S 22 3 := h.2.2.1.2.2.1
  have n3 : S 1 3 = S 22 4 := h.2.2.1.2.2.2.1
  have n4 : S 1 4 = S 22 10 := h.2.2.1.2.2.2.2.1
  have n5 : S 1 5 = S 22 11 := h.2.2.1.2.2.2.2.2.1
  have b0 := h.1.1
  have b1 := h.1.2.1
  have b2 := h.1.2.2.1
  by_cases h1 : n < S 1 0
  · exact pr_ok (hL_isNodeDry_n Z S _ n (dryF S n) o O hex _ (by rfl) (by rfl) (by exact Nat.le_of_ble_eq_true rfl) (by exact Nat.le_of_ble_eq_true rfl) (Nat.lt_of_le_of_lt (dryF_le _ _) (by decide)) (cX5_isNodeDry_k Z S n h.1 h1)) (dry_eq h n) (cX6_isNodeDry_k (zx Z _) _ n (wfM_of h.2.1 (fun i _ _ => rfl) rfl rfl rfl rfl rfl) hun (by omega)) (by exact Nat.le_of_ble_eq_true rfl) (by exact Nat.le_of_ble_eq_true rfl) (by rfl) (by rfl) (fun _ => dryM_le _ _) rfl (inv_ref h 0)
  · exact pr_th (k := 1) (by decide) (hL_isNodeDry_x1 Z S _ n o O hex _ (by rfl) (by rfl) (by exact Nat.le_of_ble_eq_true rfl) (by exact Nat.le_of_ble_eq_true rfl) (xX5_isNodeDry_x1 Z S n hl0 h.1 hun (by omega))) (cX6_isNodeDry_r1 (zx Z _) S n h.2.1 hun (by omega)) (by exact Nat.le_of_ble_eq_true rfl) (by exact Nat.le_of_ble_eq_true rfl) (by rfl) (by rfl) (fun _ => by decide) rfl (inv_ref h 1)

set_option maxHeartbeats 4000000 in
set_option maxRecDepth 100000 in
theorem pr_isPipeDry (Z : gZ) (o : Nat) (O : Nat → Int64) (hex : gz_ex Z = oc o (gz_L Z) O) (hl0 : (gz_l Z).stackTraces = false) (S : Nat → Nat → Nat) (h : inv S S) (p : Nat) (hup : p < 4294967296) : gPr Z o yL_isPipeDry wsL_isPipeDry [.ref (gz_ad Z 0), .int (nI p), .ref o] yX6_isPipeDry wsX6_isPipeDry [.ref (gz_ad Z 22), .int (nI p)] true S := by
  have n0 : S 1 0 = S 22 1 := h.2.2.1.1
  have n1 : S 1 1 = S 22 2 := h.2.2.1.2.1
  have n2 : S 1 2 = S 22 3 := h.2.2.1.2.2.1
  have n3 : S 1 3 = S 22 4 := h.2.2.1.2.2.2.1
  have n4 : S 1 4 = S 22 10 := h.2.2.1.2.2.2.2.1
  have n5 : S 1 5 = S 22 11 := h.2.2.1.2.2.2.2.2.1
  have b0 := h.1.1
  have b1 := h.1.2.1
  have b2 := h.1.2.2.1
  by_cases h1 : p < S 1 1
  · exact pr_ok (hL_isPipeDry_n Z S _ p (dryF S (12 + p)) o O hex _ (by rfl) (by rfl) (by exact Nat.le_of_ble_eq_true rfl) (by exact Nat.le_of_ble_eq_true rfl) (Nat.lt_of_le_of_lt (dryF_le _ _) (by decide)) (cX5_isPipeDry_k Z S p h.1 h1)) (dry_eq h (12 + p)) (cX6_isPipeDry_k (zx Z _) _ p (wfM_of h.2.1 (fun i _ _ => rfl) rfl rfl rfl rfl rfl) hup (by omega)) (by exact Nat.le_of_ble_eq_true rfl) (by exact Nat.le_of_ble_eq_true rfl) (by rfl) (by rfl) (fun _ => dryM_le _ _) rfl (inv_ref h 0)
  · exact pr_th (k := 1) (by decide) (hL_isPipeDry_x1 Z S _ p o O hex _ (by rfl) (by rfl) (by exact Nat.le_of_ble_eq_true rfl) (by exact Nat.le_of_ble_eq_true rfl) (xX5_isPipeDry_x1 Z S p hl0 h.1 hup (by omega))) (cX6_isPipeDry_r1 (zx Z _) S p h.2.1 hup (by omega)) (by exact Nat.le_of_ble_eq_true rfl) (by exact Nat.le_of_ble_eq_true rfl) (by rfl) (by rfl) (fun _ => by decide) rfl (inv_ref h 1)

set_option maxHeartbeats 4000000 in
set_option maxRecDepth 100000 in
theorem pr_segmentOfNode (Z : gZ) (o : Nat) (O : Nat → Int64) (hex : gz_ex Z = oc o (gz_L Z) O) (hl0 : (gz_l Z).stackTraces = false) (S : Nat → Nat → Nat) (h : inv S S) (n : Nat) (hun : n < 4294967296) : gPr Z o yL_segmentOfNode wsL_segmentOfNode [.ref (gz_ad Z 0), .int (nI n), .ref o] yX6_segmentOfNode wsX6_segmentOfNode [.ref (gz_ad Z 22), .int (nI n)] false S := by
  have n0 : S 1 0 = S 22 1 := h.2.2.1.1
  have n1 : S 1 1 = S 22 2 := h.2.2.1.2.1
  have n2 : S 1 2 = S 22 3 := h.2.2.1.2.2.1
  have n3 : S 1 3 = S 22 4 := h.2.2.1.2.2.2.1
  have n4 : S 1 4 = S 22 10 := h.2.2.1.2.2.2.2.1
  have n5 : S 1 5 = S 22 11 := h.2.2.1.2.2.2.2.2.1
  have b0 := h.1.1
  have b1 := h.1.2.1
  have b2 := h.1.2.2.1
  by_cases h1 : n < S 1 0
  · have ht : hasPart S n ≠ 0 := by rw [Ne, hasPart_iff]; omega
    have hg := seg_num h ht
    exact pr_ok (hL_segmentOfNode_n Z S _ n (countBegun S (ntz (segWith S n))) o O hex _ (by rfl) (by rfl) (by exact Nat.le_of_ble_eq_true rfl) (by exact Nat.le_of_ble_eq_true rfl) (cX5_segmentOfNode_k Z S n h.1 h1 hg.1 (Nat.le_of_lt hg.2.1))) (hg.2.2) (cX6_segmentOfNode_k (zx Z _) _ n (wfM_of h.2.1 (fun i _ _ => rfl) rfl rfl rfl rfl rfl) hun (by omega)) (by exact Nat.le_of_ble_eq_true rfl) (by exact Nat.le_of_ble_eq_true rfl) (by rfl) (by rfl) (fun q => by cases q) rfl (inv_ref h 0)
  · exact pr_th (k := 1) (by decide) (hL_segmentOfNode_x1 Z S _ n o O hex _ (by rfl) (by rfl) (by exact Nat.le_of_ble_eq_true rfl) (by exact Nat.le_of_ble_eq_true rfl) (xX5_segmentOfNode_x1 Z S n hl0 h.1 hun (by omega))) (cX6_segmentOfNode_r1 (zx Z _) S n h.2.1 hun (by omega)) (by exact Nat.le_of_ble_eq_true rfl) (by exact Nat.le_of_ble_eq_true rfl) (by rfl) (by rfl) (fun _ => by decide) rfl (inv_ref h 1)

set_option maxHeartbeats 4000000 in
set_option maxRecDepth 100000 in
theorem pr_segmentOfPipe (Z : gZ) (o : Nat) (O : Nat → Int64) (hex : gz_ex Z = oc o (gz_L Z) O) (hl0 : (gz_l Z).stackTraces = false) (S : Nat → Nat → Nat) (h : inv S S) (p : Nat) (hup : p < 4294967296) : gPr Z o yL_segmentOfPipe wsL_segmentOfPipe [.ref (gz_ad Z 0), .int (nI p), .ref o] yX6_segmentOfPipe wsX6_segmentOfPipe [.ref (gz_ad Z 22), .int (nI p)] false S := by
  have n0 : S 1 0 = S 22 1 := h.2.2.1.1
  have n1 : S 1 1 = S 22 2 := h.2.2.1.2.1
  have n2 : S 1 2 = S 22 3 := h.2.2.1.2.2.1
  have n3 : S 1 3 = S 22 4 := h.2.2.1.2.2.2.1
  have n4 : S 1 4 = S 22 10 := h.2.2.1.2.2.2.2.1
  have n5 : S 1 5 = S 22 11 := h.2.2.1.2.2.2.2.2.1
  have b0 := h.1.1
  have b1 := h.1.2.1
  have b2 := h.1.2.2.1
  by_cases h1 : p < S 1 1
  · have ht : hasPart S (12 + p) ≠ 0 := by rw [Ne, hasPart_iff]; omega
    have hg := seg_num h ht
    exact pr_ok (hL_segmentOfPipe_n Z S _ p (countBegun S (ntz (segWith S (12 + p)))) o O hex _ (by rfl) (by rfl) (by exact Nat.le_of_ble_eq_true rfl) (by exact Nat.le_of_ble_eq_true rfl) (cX5_segmentOfPipe_k Z S p h.1 h1 hg.1 (Nat.le_of_lt hg.2.1))) (hg.2.2) (cX6_segmentOfPipe_k (zx Z _) _ p (wfM_of h.2.1 (fun i _ _ => rfl) rfl rfl rfl rfl rfl) hup (by omega)) (by exact Nat.le_of_ble_eq_true rfl) (by exact Nat.le_of_ble_eq_true rfl) (by rfl) (by rfl) (fun q => by cases q) rfl (inv_ref h 0)
  · exact pr_th (k := 1) (by decide) (hL_segmentOfPipe_x1 Z S _ p o O hex _ (by rfl) (by rfl) (by exact Nat.le_of_ble_eq_true rfl) (by exact Nat.le_of_ble_eq_true rfl) (xX5_segmentOfPipe_x1 Z S p hl0 h.1 hup (by omega))) (cX6_segmentOfPipe_r1 (zx Z _) S p h.2.1 hup (by omega)) (by exact Nat.le_of_ble_eq_true rfl) (by exact Nat.le_of_ble_eq_true rfl) (by rfl) (by rfl) (fun _ => by decide) rfl (inv_ref h 1)

set_option maxHeartbeats 4000000 in
set_option maxRecDepth 100000 in
theorem pr_segmentByMerging (Z : gZ) (o : Nat) (O : Nat → Int64) (hex : gz_ex Z = oc o (gz_L Z) O) (hl0 : (gz_l Z).stackTraces = false) (S : Nat → Nat → Nat) (h : inv S S) (p : Nat) (hup : p < 4294967296) : gPr Z o yL_segmentByMerging wsL_segmentByMerging [.ref (gz_ad Z 0), .int (nI p), .ref o] yX6_segmentByMerging wsX6_segmentByMerging [.ref (gz_ad Z 22), .int (nI p)] false S := by
  have n0 : S 1 0 = S 22 1 := h.2.2.1.1
  have n1 : S 1 1 = S 22 2 := h.2.2.1.2.1
  have n2 : S 1 2 = S 22 3 := h.2.2.1.2.2.1
  have n3 : S 1 3 = S 22 4 := h.2.2.1.2.2.2.1
  have n4 : S 1 4 = S 22 10 := h.2.2.1.2.2.2.2.1
  have n5 : S 1 5 = S 22 11 := h.2.2.1.2.2.2.2.2.1
  have b0 := h.1.1
  have b1 := h.1.2.1
  have b2 := h.1.2.2.1
  by_cases h1 : p < S 1 1
  · have hs : inv S (va_up S 9 (mergeAll S)) := inv_sc h (fun q g1 g2 => va_up_ne _ _ (by omega))
    exact pr_ok (hL_segmentByMerging_n Z S _ p (numMerge S (12 + p)) o O hex _ (by rfl) (by rfl) (by exact Nat.le_of_ble_eq_true rfl) (by exact Nat.le_of_ble_eq_true rfl) (cX5_segmentByMerging_k Z S p h.1 h1)) (merge_eq hs h1) (cX6_segmentByMerging_k (zx Z _) _ p (inv_wm hs) hup (by show p < S 22 2; omega)) (by exact Nat.le_of_ble_eq_true rfl) (by exact Nat.le_of_ble_eq_true rfl) (by rfl) (by rfl) (fun q => by cases q) rfl (inv_ref (inv_sc2 h (fun q g1 g2 => va_up_ne _ _ (by omega)) (fun q g1 g2 => va_up_ne _ _ (by omega))) 0)
  · exact pr_th (k := 1) (by decide) (hL_segmentByMerging_x1 Z S _ p o O hex _ (by rfl) (by rfl) (by exact Nat.le_of_ble_eq_true rfl) (by exact Nat.le_of_ble_eq_true rfl) (xX5_segmentByMerging_x1 Z S p hl0 h.1 hup (by omega))) (cX6_segmentByMerging_r1 (zx Z _) S p h.2.1 hup (by omega)) (by exact Nat.le_of_ble_eq_true rfl) (by exact Nat.le_of_ble_eq_true rfl) (by rfl) (by rfl) (fun _ => by decide) rfl (inv_ref h 1)

set_option maxHeartbeats 4000000 in
set_option maxRecDepth 100000 in
theorem pr_ring (Z : gZ) (o : Nat) (O : Nat → Int64) (hex : gz_ex Z = oc o (gz_L Z) O) (hl0 : (gz_l Z).stackTraces = false) (S : Nat → Nat → Nat) (h : inv S S) (p : Nat) (hup : p < 4294967296) : gPr Z o yL_ring wsL_ring [.ref (gz_ad Z 0), .int (nI p), .ref o] yX6_ring wsX6_ring [.ref (gz_ad Z 22), .int (nI p)] false S := by
  have n0 : S 1 0 = S 22 1 := h.2.2.1.1
  have n1 : S 1 1 = S 22 2 := h.2.2.1.2.1
  have n2 : S 1 2 = S 22 3 := h.2.2.1.2.2.1
  have n3 : S 1 3 = S 22 4 := h.2.2.1.2.2.2.1
  have n4 : S 1 4 = S 22 10 := h.2.2.1.2.2.2.2.1
  have n5 : S 1 5 = S 22 11 := h.2.2.1.2.2.2.2.2.1
  have b0 := h.1.1
  have b1 := h.1.2.1
  have b2 := h.1.2.2.1
  by_cases h1 : p < S 1 1
  · have hr : regM S p &&& S 22 4 = regOf S p &&& S 1 3 := by rw [reg_eq h (show p < 16 by omega), n3]
    by_cases h2 : regOf S p &&& S 1 3 = 0
    · have hk := nrK_0 (show p < S 22 2 by omega) (hr.trans h2)
      exact pr_ok (hL_ring_n Z S _ p (ringF S (regOf S p)) o O hex _ (by rfl) (by rfl) (by exact Nat.le_of_ble_eq_true rfl) (by exact Nat.le_of_ble_eq_true rfl) (cX5_ring_k Z S p h.1 h1 h2)) (ring_eq h (by omega)) (cX6_ring_k (zx Z _) S p h.2.1 hup hk) (by exact Nat.le_of_ble_eq_true rfl) (by exact Nat.le_of_ble_eq_true rfl) (by rfl) (by rfl) (fun q => by cases q) rfl (inv_ref h 0)
    · have hk := nrK_2 (show p < S 22 2 by omega) (fun q => h2 (hr.symm.trans q))
      exact pr_th (k := 2) (by decide) (hL_ring_x2 Z S _ p o O hex _ (by rfl) (by rfl) (by exact Nat.le_of_ble_eq_true rfl) (by exact Nat.le_of_ble_eq_true rfl) (xX5_ring_x2 Z S p hl0 h.1 h1 h2)) (cX6_ring_r2 (zx Z _) S p h.2.1 hup hk) (by exact Nat.le_of_ble_eq_true rfl) (by exact Nat.le_of_ble_eq_true rfl) (by rfl) (by rfl) (fun _ => by decide) rfl (inv_ref h 2)
  · exact pr_th (k := 1) (by decide) (hL_ring_x1 Z S _ p o O hex _ (by rfl) (by rfl) (by exact Nat.le_of_ble_eq_true rfl) (by exact Nat.le_of_ble_eq_true rfl) (xX5_ring_x1 Z S p hl0 h.1 hup (by omega))) (cX6_ring_r1 (zx Z _) S p h.2.1 hup (nrK_1 (by omega))) (by exact Nat.le_of_ble_eq_true rfl) (by exact Nat.le_of_ble_eq_true rfl) (by rfl) (by rfl) (fun _ => by decide) rfl (inv_ref h 1)

set_option maxHeartbeats 4000000 in
set_option maxRecDepth 100000 in
theorem pr_cutOff (Z : gZ) (o : Nat) (O : Nat → Int64) (hex : gz_ex Z = oc o (gz_L Z) O) (hl0 : (gz_l Z).stackTraces = false) (S : Nat → Nat → Nat) (h : inv S S) (p : Nat) (hup : p < 4294967296) : gPr Z o yL_cutOff wsL_cutOff [.ref (gz_ad Z 0), .int (nI p), .ref o] yX6_cutOff wsX6_cutOff [.ref (gz_ad Z 22), .int (nI p)] false S := by
  have n0 : S 1 0 = S 22 1 := h.2.2.1.1
  have n1 : S 1 1 = S 22 2 := h.2.2.1.2.1
  have n2 : S 1 2 = S 22 3 := h.2.2.1.2.2.1
  have n3 : S 1 3 = S 22 4 := h.2.2.1.2.2.2.1
  have n4 : S 1 4 = S 22 10 := h.2.2.1.2.2.2.2.1
  have n5 : S 1 5 = S 22 11 := h.2.2.1.2.2.2.2.2.1
  have b0 := h.1.1
  have b1 := h.1.2.1
  have b2 := h.1.2.2.1
  by_cases h1 : p < S 1 1
  · have hr : regM S p &&& S 22 4 = regOf S p &&& S 1 3 := by rw [reg_eq h (show p < 16 by omega), n3]
    by_cases h2 : regOf S p &&& S 1 3 = 0
    · have hk := nrK_0 (show p < S 22 2 by omega) (hr.trans h2)
      exact pr_ok (hL_cutOff_n Z S _ p (lostF S (regOf S p)) o O hex _ (by rfl) (by rfl) (by exact Nat.le_of_ble_eq_true rfl) (by exact Nat.le_of_ble_eq_true rfl) (cX5_cutOff_k Z S p h.1 h1 h2)) ((lost_eq h (by omega)).2) (cX6_cutOff_k (zx Z _) S p h.2.1 hup hk (lost_eq h (by omega)).1) (by exact Nat.le_of_ble_eq_true rfl) (by exact Nat.le_of_ble_eq_true rfl) (by rfl) (by rfl) (fun q => by cases q) rfl (inv_ref h 0)
    · have hk := nrK_2 (show p < S 22 2 by omega) (fun q => h2 (hr.symm.trans q))
      exact pr_th (k := 2) (by decide) (hL_cutOff_x2 Z S _ p o O hex _ (by rfl) (by rfl) (by exact Nat.le_of_ble_eq_true rfl) (by exact Nat.le_of_ble_eq_true rfl) (xX5_cutOff_x2 Z S p hl0 h.1 h1 h2)) (cX6_cutOff_r2 (zx Z _) S p h.2.1 hup hk) (by exact Nat.le_of_ble_eq_true rfl) (by exact Nat.le_of_ble_eq_true rfl) (by rfl) (by rfl) (fun _ => by decide) rfl (inv_ref h 2)
  · exact pr_th (k := 1) (by decide) (hL_cutOff_x1 Z S _ p o O hex _ (by rfl) (by rfl) (by exact Nat.le_of_ble_eq_true rfl) (by exact Nat.le_of_ble_eq_true rfl) (xX5_cutOff_x1 Z S p hl0 h.1 hup (by omega))) (cX6_cutOff_r1 (zx Z _) S p h.2.1 hup (nrK_1 (by omega))) (by exact Nat.le_of_ble_eq_true rfl) (by exact Nat.le_of_ble_eq_true rfl) (by rfl) (by rfl) (fun _ => by decide) rfl (inv_ref h 1)

set_option maxHeartbeats 4000000 in
set_option maxRecDepth 100000 in
theorem pr_fewest (Z : gZ) (o : Nat) (O : Nat → Int64) (hex : gz_ex Z = oc o (gz_L Z) O) (hl0 : (gz_l Z).stackTraces = false) (S : Nat → Nat → Nat) (h : inv S S) (hU : wfU S) (p : Nat) (hup : p < 4294967296) : gPr Z o yL_fewest wsL_fewest [.ref (gz_ad Z 0), .int (nI p), .ref o] yX6_fewest wsX6_fewest [.ref (gz_ad Z 22), .int (nI p)] false S := by
  have n0 : S 1 0 = S 22 1 := h.2.2.1.1
  have n1 : S 1 1 = S 22 2 := h.2.2.1.2.1
  have n2 : S 1 2 = S 22 3 := h.2.2.1.2.2.1
  have n3 : S 1 3 = S 22 4 := h.2.2.1.2.2.2.1
  have n4 : S 1 4 = S 22 10 := h.2.2.1.2.2.2.2.1
  have n5 : S 1 5 = S 22 11 := h.2.2.1.2.2.2.2.2.1
  have b0 := h.1.1
  have b1 := h.1.2.1
  have b2 := h.1.2.2.1
  by_cases h1 : p < S 1 1
  · have hs : inv S (waysS S p) := inv_sc h (fun q g1 g2 => waysS_fr S p (by omega))
    exact pr_ok (hL_fewest_n Z S _ p (waysF S p) o O hex _ (by rfl) (by rfl) (by exact Nat.le_of_ble_eq_true rfl) (by exact Nat.le_of_ble_eq_true rfl) (cX5_fewest_k Z S p h.1 h1 hU)) (fewest_eq hs h1) (cX6_fewest_k (zx Z _) _ p (inv_wm hs) hup (by rw [waysS_fr S p (q := 22) (by decide)]; omega)) (by exact Nat.le_of_ble_eq_true rfl) (by exact Nat.le_of_ble_eq_true rfl) (by rfl) (by rfl) (fun q => by cases q) rfl (inv_ref (inv_sc2 h (fun q g1 g2 => waysS_fr S p (by omega)) (fun q g1 g2 => waysS_fr S p (by omega))) 0)
  · exact pr_th (k := 1) (by decide) (hL_fewest_x1 Z S _ p o O hex _ (by rfl) (by rfl) (by exact Nat.le_of_ble_eq_true rfl) (by exact Nat.le_of_ble_eq_true rfl) (xX5_fewest_x1 Z S p hl0 h.1 hup (by omega))) (cX6_fewest_r1 (zx Z _) S p h.2.1 hup (by omega)) (by exact Nat.le_of_ble_eq_true rfl) (by exact Nat.le_of_ble_eq_true rfl) (by rfl) (by rfl) (fun _ => by decide) rfl (inv_ref h 1)

set_option maxHeartbeats 4000000 in
set_option maxRecDepth 100000 in
theorem pr_fewestByTrying (Z : gZ) (o : Nat) (O : Nat → Int64) (hex : gz_ex Z = oc o (gz_L Z) O) (hl0 : (gz_l Z).stackTraces = false) (S : Nat → Nat → Nat) (h : inv S S) (p : Nat) (hup : p < 4294967296) : gPr Z o yL_fewestByTrying wsL_fewestByTrying [.ref (gz_ad Z 0), .int (nI p), .ref o] yX6_fewestByTrying wsX6_fewestByTrying [.ref (gz_ad Z 22), .int (nI p)] false S := by
  have n0 : S 1 0 = S 22 1 := h.2.2.1.1
  have n1 : S 1 1 = S 22 2 := h.2.2.1.2.1
  have n2 : S 1 2 = S 22 3 := h.2.2.1.2.2.1
  have n3 : S 1 3 = S 22 4 := h.2.2.1.2.2.2.1
  have n4 : S 1 4 = S 22 10 := h.2.2.1.2.2.2.2.1
  have n5 : S 1 5 = S 22 11 := h.2.2.1.2.2.2.2.2.1
  have b0 := h.1.1
  have b1 := h.1.2.1
  have b2 := h.1.2.2.1
  by_cases h1 : p < S 1 1
  · have hs : inv S (tryS S p) := inv_sc h (fun q g1 g2 => tryS_fr S p (by omega))
    exact pr_ok (hL_fewestByTrying_n Z S _ p (tryF S p) o O hex _ (by rfl) (by rfl) (by exact Nat.le_of_ble_eq_true rfl) (by exact Nat.le_of_ble_eq_true rfl) (cX5_fewestByTrying_k Z S p h.1 h1)) (try_eq hs h1) (cX6_fewestByTrying_k (zx Z _) _ p (inv_wm hs) hup (by rw [tryS_fr S p (q := 22) (by decide)]; omega)) (by exact Nat.le_of_ble_eq_true rfl) (by exact Nat.le_of_ble_eq_true rfl) (by rfl) (by rfl) (fun q => by cases q) rfl (inv_ref (inv_sc2 h (fun q g1 g2 => tryS_fr S p (by omega)) (fun q g1 g2 => tryS_fr S p (by omega))) 0)
  · exact pr_th (k := 1) (by decide) (hL_fewestByTrying_x1 Z S _ p o O hex _ (by rfl) (by rfl) (by exact Nat.le_of_ble_eq_true rfl) (by exact Nat.le_of_ble_eq_true rfl) (xX5_fewestByTrying_x1 Z S p hl0 h.1 hup (by omega))) (cX6_fewestByTrying_r1 (zx Z _) S p h.2.1 hup (by omega)) (by exact Nat.le_of_ble_eq_true rfl) (by exact Nat.le_of_ble_eq_true rfl) (by rfl) (by rfl) (fun _ => by decide) rfl (inv_ref h 1)

set_option maxHeartbeats 4000000 in
set_option maxRecDepth 100000 in
theorem pr_distance (Z : gZ) (o : Nat) (O : Nat → Int64) (hex : gz_ex Z = oc o (gz_L Z) O) (hl0 : (gz_l Z).stackTraces = false) (S : Nat → Nat → Nat) (h : inv S S) (n : Nat) (hun : n < 4294967296) : gPr Z o yL_distance wsL_distance [.ref (gz_ad Z 0), .int (nI n), .ref o] yX6_distance wsX6_distance [.ref (gz_ad Z 22), .int (nI n)] false S := by
  have n0 : S 1 0 = S 22 1 := h.2.2.1.1
  have n1 : S 1 1 = S 22 2 := h.2.2.1.2.1
  have n2 : S 1 2 = S 22 3 := h.2.2.1.2.2.1
  have n3 : S 1 3 = S 22 4 := h.2.2.1.2.2.2.1
  have n4 : S 1 4 = S 22 10 := h.2.2.1.2.2.2.2.1
  have n5 : S 1 5 = S 22 11 := h.2.2.1.2.2.2.2.2.1
  have b0 := h.1.1
  have b1 := h.1.2.1
  have b2 := h.1.2.2.1
  by_cases h1 : n < S 1 0
  · have hs : inv S (va_up S 17 (measD S)) := inv_sc h (fun q g1 g2 => va_up_ne _ _ (by omega))
    exact pr_ok (hL_distance_n Z S _ n (if measD S n < 1000000 then measD S n else 4294967295) o O hex _ (by rfl) (by rfl) (by exact Nat.le_of_ble_eq_true rfl) (by exact Nat.le_of_ble_eq_true rfl) (cX5_distance_k Z S n h.1 h1)) (by rw [dist_eq hs n h1]) (cX6_distance_k (zx Z _) _ n (inv_wm hs) (inv_nd hs) hun (by show n < S 22 1; omega)) (by exact Nat.le_of_ble_eq_true rfl) (by exact Nat.le_of_ble_eq_true rfl) (by rfl) (by rfl) (fun q => by cases q) rfl (inv_lit (inv_sc2 h (S' := va_up S 17 (measD S)) (fun q g1 g2 => va_up_ne _ _ (by omega)) (fun q g1 g2 => va_up_ne _ _ (by omega))) rfl rfl rfl rfl rfl rfl rfl (fun i g0 g16 => by simp [va_up, g0, g16]) rfl rfl rfl rfl rfl)
  · exact pr_th (k := 1) (by decide) (hL_distance_x1 Z S _ n o O hex _ (by rfl) (by rfl) (by exact Nat.le_of_ble_eq_true rfl) (by exact Nat.le_of_ble_eq_true rfl) (xX5_distance_x1 Z S n hl0 h.1 hun (by omega))) (cX6_distance_r1 (zx Z _) S n h.2.1 (inv_nd h) hun (by omega)) (by exact Nat.le_of_ble_eq_true rfl) (by exact Nat.le_of_ble_eq_true rfl) (by rfl) (by rfl) (fun _ => by decide) rfl (inv_ref h 1)

set_option maxHeartbeats 4000000 in
set_option maxRecDepth 100000 in
theorem pr_flushAt (Z : gZ) (o : Nat) (O : Nat → Int64) (hex : gz_ex Z = oc o (gz_L Z) O) (hl0 : (gz_l Z).stackTraces = false) (S : Nat → Nat → Nat) (h : inv S S) (pl : Nat) (hupl : pl < 4294967296) : gPr Z o yL_flushAt wsL_flushAt [.ref (gz_ad Z 0), .int (nI pl), .ref o] yX6_flushAt wsX6_flushAt [.ref (gz_ad Z 22), .int (nI pl)] false S := by
  have n0 : S 1 0 = S 22 1 := h.2.2.1.1
  have n1 : S 1 1 = S 22 2 := h.2.2.1.2.1
  have n2 : S 1 2 = S 22 3 := h.2.2.1.2.2.1
  have n3 : S 1 3 = S 22 4 := h.2.2.1.2.2.2.1
  have n4 : S 1 4 = S 22 10 := h.2.2.1.2.2.2.2.1
  have n5 : S 1 5 = S 22 11 := h.2.2.1.2.2.2.2.2.1
  have b0 := h.1.1
  have b1 := h.1.2.1
  have b2 := h.1.2.2.1
  have hs : inv S (va_up S 17 (measD S)) := inv_sc h (fun q g1 g2 => va_up_ne _ _ (by omega))
  have hf := flush_eq hs pl
  by_cases h1 : pl < (sortM (va_up S 17 (measD S))).1
  · exact pr_ok (hL_flushAt_n Z S _ pl (flushF S pl) o O hex _ (by rfl) (by rfl) (by exact Nat.le_of_ble_eq_true rfl) (by exact Nat.le_of_ble_eq_true rfl) (cX5_flushAt_k Z S pl h.1 hupl (hf.1 h1).2)) ((hf.1 h1).1) (cX6_flushAt_k (zx Z _) _ pl (inv_wm hs) (inv_nd hs) hupl h1) (by exact Nat.le_of_ble_eq_true rfl) (by exact Nat.le_of_ble_eq_true rfl) (by rfl) (by rfl) (fun q => by cases q) rfl (inv_lit (inv_sc2 h (S' := va_up S 17 (measD S)) (fun q g1 g2 => va_up_ne _ _ (by omega)) (fun q g1 g2 => va_up_ne _ _ (by omega))) rfl rfl rfl rfl rfl rfl rfl (fun i g0 g16 => by simp [va_up, g0, g16]) rfl rfl rfl rfl rfl)
  · exact pr_th (k := 1) (by decide) (hL_flushAt_x1 Z S _ pl o O hex _ (by rfl) (by rfl) (by exact Nat.le_of_ble_eq_true rfl) (by exact Nat.le_of_ble_eq_true rfl) (xX5_flushAt_x Z S pl hl0 h.1 hupl (hf.2 (by omega)))) (cX6_flushAt_r1 (zx Z _) _ pl (inv_wm hs) (inv_nd hs) hupl (by omega)) (by exact Nat.le_of_ble_eq_true rfl) (by exact Nat.le_of_ble_eq_true rfl) (by rfl) (by rfl) (fun _ => by decide) rfl (inv_lit (inv_sc2 h (S' := va_up S 17 (measD S)) (fun q g1 g2 => va_up_ne _ _ (by omega)) (fun q g1 g2 => va_up_ne _ _ (by omega))) rfl rfl rfl rfl rfl rfl rfl (fun i g0 g16 => by simp [va_up, g0, g16]) rfl rfl rfl rfl rfl)

set_option maxHeartbeats 4000000 in
set_option maxRecDepth 100000 in
theorem pr_walk (Z : gZ) (o : Nat) (O : Nat → Int64) (hex : gz_ex Z = oc o (gz_L Z) O) (hl0 : (gz_l Z).stackTraces = false) (S : Nat → Nat → Nat) (h : inv S S) (n a : Nat) (hun : n < 4294967296) (hua : a < 4294967296) : gPr Z o yL_walk wsL_walk [.ref (gz_ad Z 0), .int (nI n), .int (nI a), .ref o] yX6_walk wsX6_walk [.ref (gz_ad Z 22), .int (nI n), .int (nI a)] false S := by
  have n0 : S 1 0 = S 22 1 := h.2.2.1.1
  have n1 : S 1 1 = S 22 2 := h.2.2.1.2.1
  have n2 : S 1 2 = S 22 3 := h.2.2.1.2.2.1
  have n3 : S 1 3 = S 22 4 := h.2.2.1.2.2.2.1
  have n4 : S 1 4 = S 22 10 := h.2.2.1.2.2.2.2.1
  have n5 : S 1 5 = S 22 11 := h.2.2.1.2.2.2.2.2.1
  have b0 := h.1.1
  have b1 := h.1.2.1
  have b2 := h.1.2.2.1
  by_cases h1 : n < S 1 0
  · have hs : inv S (walkS S n a) := inv_sc h (fun q g1 g2 => walkS_fr S n a (by omega))
    have hsh : 1 <<< S 1 2 ≤ 4096 := shl1_le (n := 12) b2
    by_cases h2 : a < 1 <<< S 1 2 ∧ bc a ≤ 6
    · have hp : popM a ≤ 6 := by rw [← bc_pop (show a < 4096 by omega)]; exact h2.2
      exact pr_ok (hL_walk_n Z S _ n a (walkF S n a) o O hex _ (by rfl) (by rfl) (by exact Nat.le_of_ble_eq_true rfl) (by exact Nat.le_of_ble_eq_true rfl) (cX5_walk_k Z S n a h.1 h1 h2.1 h2.2)) (walk_eq hs h1 h2.1 hp) (cX6_walk_k (zx Z _) _ n a (inv_wm hs) hun hua (by rw [walkS_fr S n a (q := 22) (by decide)]; omega) (by rw [walkS_fr S n a (q := 22) (by decide), ← n2]; exact h2.1) hp) (by exact Nat.le_of_ble_eq_true rfl) (by exact Nat.le_of_ble_eq_true rfl) (by rfl) (by rfl) (fun q => by cases q) rfl (inv_lit (inv_sc2 h (S' := walkS S n a) (fun q g1 g2 => walkS_fr S n a (by omega)) (fun q g1 g2 => walkS_fr S n a (by omega))) rfl rfl rfl rfl rfl rfl rfl (fun i g0 g16 => by simp [va_up, g0]) rfl rfl rfl rfl rfl)
    · have hb : ¬ (a < 1 <<< S 22 3 ∧ popM a ≤ 6) := by
        rintro ⟨q1, q2⟩
        rw [← n2] at q1
        exact h2 ⟨q1, by rw [bc_pop (show a < 4096 by omega)]; exact q2⟩
      exact pr_th (k := 2) (by decide) (hL_walk_x2 Z S _ n a o O hex _ (by rfl) (by rfl) (by exact Nat.le_of_ble_eq_true rfl) (by exact Nat.le_of_ble_eq_true rfl) (xX5_walk_x2 Z S n a hl0 h.1 hua h1 (by rcases Nat.lt_or_ge a (1 <<< S 1 2) with q | q; exact Or.inr (Nat.lt_of_not_le fun z => h2 ⟨q, z⟩); exact Or.inl q))) (cX6_walk_r2 (zx Z _) S n a h.2.1 hun hua (by omega) hb) (by exact Nat.le_of_ble_eq_true rfl) (by exact Nat.le_of_ble_eq_true rfl) (by rfl) (by rfl) (fun _ => by decide) rfl (inv_ref h 2)
  · exact pr_th (k := 1) (by decide) (hL_walk_x1 Z S _ n a o O hex _ (by rfl) (by rfl) (by exact Nat.le_of_ble_eq_true rfl) (by exact Nat.le_of_ble_eq_true rfl) (xX5_walk_x1 Z S n a hl0 h.1 hun hua (by omega))) (cX6_walk_r1 (zx Z _) S n a h.2.1 hun hua (by omega)) (by exact Nat.le_of_ble_eq_true rfl) (by exact Nat.le_of_ble_eq_true rfl) (by rfl) (by rfl) (fun _ => by decide) rfl (inv_ref h 1)

