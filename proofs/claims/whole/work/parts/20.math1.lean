/-! sets of parts, as numbers -/
def sub (x y : Nat) : Prop := ∀ i, x.testBit i = true → y.testBit i = true
theorem sub_refl (x : Nat) : sub x x := fun _ h => h
theorem sub_trans {x y z : Nat} (h : sub x y) (h2 : sub y z) : sub x z := fun i q => h2 i (h i q)
theorem sub_anti {x y : Nat} (h : sub x y) (h2 : sub y x) : x = y := Nat.eq_of_testBit_eq fun i => by
  cases e : x.testBit i with
  | true => exact (h i e).symm
  | false =>
    cases e2 : y.testBit i with
    | true => exact absurd (h2 i e2) (by rw [e]; decide)
    | false => rfl
theorem sub_or_l (x y : Nat) : sub x (x ||| y) := fun i h => by rw [Nat.testBit_or, h]; rfl
theorem sub_or_r (x y : Nat) : sub y (x ||| y) := fun i h => by rw [Nat.testBit_or, h, Bool.or_true]
theorem or_sub {x y z : Nat} (h : sub x z) (h2 : sub y z) : sub (x ||| y) z := fun i q => by
  rw [Nat.testBit_or] at q
  rcases Bool.or_eq_true_iff.mp q with q | q
  · exact h i q
  · exact h2 i q
theorem or_eq_of_sub {x y : Nat} (h : sub x y) : y ||| x = y := sub_anti (or_sub (sub_refl y) h) (sub_or_l y x)
theorem sub_of_or {x y : Nat} (h : x ||| y = y) : sub x y := by rw [← h]; exact sub_or_l x y
theorem sub_zero (x : Nat) : sub 0 x := fun i h => by simp at h
theorem and_ne {x y : Nat} : x &&& y ≠ 0 ↔ ∃ i, x.testBit i = true ∧ y.testBit i = true := by
  constructor
  · intro h
    refine Classical.byContradiction fun q => h (Nat.eq_of_testBit_eq fun i => ?_)
    rw [Nat.testBit_and, Nat.zero_testBit]
    cases e : x.testBit i with
    | false => rfl
    | true =>
      cases e2 : y.testBit i with
      | false => rfl
      | true => exact absurd ⟨i, e, e2⟩ q
  · rintro ⟨i, h1, h2⟩ h
    have := congrArg (fun z => z.testBit i) h
    simp [Nat.testBit_and, h1, h2] at this
theorem and_zero_of {x y : Nat} (h : ∀ i, x.testBit i = true → y.testBit i = true → False) : x &&& y = 0 := Classical.byContradiction fun q => by
  obtain ⟨i, h1, h2⟩ := and_ne.mp q
  exact h i h1 h2
theorem sub_and_ne {x y m : Nat} (h : sub x y) (h2 : x &&& m ≠ 0) : y &&& m ≠ 0 := by
  obtain ⟨i, h3, h4⟩ := and_ne.mp h2
  exact and_ne.mpr ⟨i, h i h3, h4⟩
theorem tb_bit (k i : Nat) : (1 <<< k).testBit i = decide (k = i) := by rw [Nat.one_shiftLeft, Nat.testBit_two_pow]
theorem tb_bit_self (k : Nat) : (1 <<< k).testBit k = true := by rw [tb_bit]; simp
theorem bit_sub {k x : Nat} : sub (1 <<< k) x ↔ x.testBit k = true := by
  constructor
  · intro h; exact h k (tb_bit_self k)
  · intro h i q
    rw [tb_bit, decide_eq_true_eq] at q
    subst q; exact h
theorem and_bit_ne {x k : Nat} : x &&& (1 <<< k) ≠ 0 ↔ x.testBit k = true := by
  rw [and_ne]
  constructor
  · rintro ⟨i, h1, h2⟩
    rw [tb_bit, decide_eq_true_eq] at h2
    subst h2; exact h1
  · intro h; exact ⟨k, h, tb_bit_self k⟩
theorem and_bit_zero {x k : Nat} : x &&& (1 <<< k) = 0 ↔ x.testBit k = false := by
  have := @and_bit_ne x k
  cases e : x.testBit k with
  | true => rw [e] at this; simp at this; simp [this]
  | false => rw [e] at this; simp at this; simp [this]
theorem tb_shr (x k : Nat) : x >>> k &&& 1 = if x.testBit k then 1 else 0 := by
  have h : x.testBit k = (x >>> k &&& 1 != 0) := by rw [Nat.testBit, Nat.and_comm]
  have h1 := @Nat.and_le_right (x >>> k) 1
  rw [h]
  rcases (show x >>> k &&& 1 = 0 ∨ x >>> k &&& 1 = 1 by omega) with q | q <;> rw [q] <;> rfl
theorem gbit_tb (a b : Nat) : gbit a b = if a.testBit b then 1 else 0 := by
  unfold gbit; rw [tb_shr]; split <;> simp_all
theorem g1_tb (a b : Nat) : g1 a b = if a.testBit b then 1 else 0 := by
  unfold g1; rw [tb_shr]; split <;> simp_all
theorem lt_of_tb {x n : Nat} (h : x < 2 ^ n) {i : Nat} (hi : x.testBit i = true) : i < n := by
  refine Nat.lt_of_not_le fun q => ?_
  have := Nat.testBit_lt_two_pow (x := x) (i := i) (Nat.lt_of_lt_of_le h (Nat.pow_le_pow_right (by decide) q))
  rw [hi] at this; cases this
theorem lt28_of_tb {x : Nat} (h : x < 268435456) {i : Nat} (hi : x.testBit i = true) : i < 28 := lt_of_tb (n := 28) h hi
theorem sub_lt {x y n : Nat} (h : sub x y) (hy : y < 2 ^ n) : x < 2 ^ n := Nat.lt_pow_two_of_testBit x fun i hi => by
  cases e : x.testBit i with
  | false => rfl
  | true => exact absurd (lt_of_tb hy (h i e)) (by omega)
/-! closures -/
def edgeF (c : Nat → Bool) (m : Nat → Nat) (j r : Nat) : Nat := if c j = true ∧ r &&& m j ≠ 0 then r ||| m j else r
def closedE (c : Nat → Bool) (m : Nat → Nat) (n x : Nat) : Prop := ∀ j, j < n → c j = true → x &&& m j ≠ 0 → sub (m j) x
def isCl (c : Nat → Bool) (m : Nat → Nat) (n a R : Nat) : Prop := sub a R ∧ closedE c m n R ∧ ∀ C, closedE c m n C → sub a C → sub R C
theorem edgeF_sub (c : Nat → Bool) (m : Nat → Nat) (j r : Nat) : sub r (edgeF c m j r) := by
  unfold edgeF; split
  · exact sub_or_l _ _
  · exact sub_refl _
theorem pass_sub (c : Nat → Bool) (m : Nat → Nat) : ∀ (k j r : Nat), sub r (gfor (edgeF c m) k j r)
  | 0, _, r => sub_refl r
  | k + 1, j, r => sub_trans (edgeF_sub c m j r) (pass_sub c m k (j + 1) _)
theorem edgeF_in {c : Nat → Bool} {m : Nat → Nat} {n C j r : Nat} (hC : closedE c m n C) (hj : j < n) (h : sub r C) : sub (edgeF c m j r) C := by
  unfold edgeF; split
  · rename_i q; exact or_sub h (hC j hj q.1 (sub_and_ne h q.2))
  · exact h
theorem pass_in {c : Nat → Bool} {m : Nat → Nat} {n C : Nat} (hC : closedE c m n C) : ∀ (k j r : Nat), j + k ≤ n → sub r C → sub (gfor (edgeF c m) k j r) C
  | 0, _, _, _, h => h
  | k + 1, j, r, hk, h => pass_in hC k (j + 1) _ (by omega) (edgeF_in hC (by omega) h)
theorem pass_fix (c : Nat → Bool) (m : Nat → Nat) : ∀ (k j r : Nat), gfor (edgeF c m) k j r = r → ∀ i, j ≤ i → i < j + k → c i = true → r &&& m i ≠ 0 → sub (m i) r
  | 0, _, _, _, _, h1, h2 => absurd h2 (by omega)
  | k + 1, j, r, h, i, h1, h2 => by
    have e : edgeF c m j r = r := sub_anti (by
      have := pass_sub c m k (j + 1) (edgeF c m j r)
      have h : gfor (edgeF c m) k (j + 1) (edgeF c m j r) = r := h
      rw [h] at this; exact this) (edgeF_sub c m j r)
    have h' : gfor (edgeF c m) k (j + 1) r = r := by
      have h : gfor (edgeF c m) k (j + 1) (edgeF c m j r) = r := h
      rw [e] at h; exact h
    intro hc hn
    by_cases q : i = j
    · subst q
      unfold edgeF at e
      rw [if_pos ⟨hc, hn⟩] at e
      rw [← e]; exact sub_or_r _ _
    · exact pass_fix c m k (j + 1) r h' i (by omega) (by omega) hc hn
theorem closed_of_fix {c : Nat → Bool} {m : Nat → Nat} {n r : Nat} (h : gfor (edgeF c m) n 0 r = r) : closedE c m n r := fun j hj hc hn => pass_fix c m n 0 r h j (Nat.zero_le j) (by omega) hc hn
theorem isCl_uniq {c : Nat → Bool} {m : Nat → Nat} {n a R R' : Nat} (h : isCl c m n a R) (h' : isCl c m n a R') : R = R' := sub_anti (h.2.2 R' h'.2.1 h'.1) (h'.2.2 R h.2.1 h.1)
theorem closedE_congr {c c' : Nat → Bool} {m m' : Nat → Nat} {n x : Nat} (hc : ∀ j, j < n → c j = c' j) (hm : ∀ j, j < n → m j = m' j) (h : closedE c m n x) : closedE c' m' n x := fun j hj h1 h2 => by
  rw [← hm j hj] at h2 ⊢
  exact h j hj (by rw [hc j hj]; exact h1) h2
theorem isCl_congr {c c' : Nat → Bool} {m m' : Nat → Nat} {n a R : Nat} (hc : ∀ j, j < n → c j = c' j) (hm : ∀ j, j < n → m j = m' j) (h : isCl c m n a R) : isCl c' m' n a R :=
  ⟨h.1, closedE_congr hc hm h.2.1, fun C hC ha => h.2.2 C (closedE_congr (fun j hj => (hc j hj).symm) (fun j hj => (hm j hj).symm) hC) ha⟩
theorem isCl_mono {c c' : Nat → Bool} {m : Nat → Nat} {n a a' R R' : Nat} (hc : ∀ j, j < n → c j = true → c' j = true) (ha : sub a a') (h : isCl c m n a R) (h' : isCl c' m n a' R') : sub R R' :=
  h.2.2 R' (fun j hj h1 h2 => h'.2.1 j hj (hc j hj h1) h2) (sub_trans ha h'.1)
/-- x without y -/
def dif (x y : Nat) : Nat := x ^^^ (x &&& y)
theorem tb_dif (x y i : Nat) : (dif x y).testBit i = (x.testBit i && !(y.testBit i)) := by
  unfold dif; rw [Nat.testBit_xor, Nat.testBit_and]
  cases x.testBit i <;> cases y.testBit i <;> rfl
theorem closed_or {c : Nat → Bool} {m : Nat → Nat} {n x y : Nat} (hx : closedE c m n x) (hy : closedE c m n y) : closedE c m n (x ||| y) := fun j hj h1 h2 => by
  obtain ⟨i, h3, h4⟩ := and_ne.mp h2
  rw [Nat.testBit_or] at h3
  rcases Bool.or_eq_true_iff.mp h3 with h3 | h3
  · exact sub_trans (hx j hj h1 (and_ne.mpr ⟨i, h3, h4⟩)) (sub_or_l _ _)
  · exact sub_trans (hy j hj h1 (and_ne.mpr ⟨i, h3, h4⟩)) (sub_or_r _ _)
theorem closed_dif {c : Nat → Bool} {m : Nat → Nat} {n x y : Nat} (hx : closedE c m n x) (hy : closedE c m n y) : closedE c m n (dif x y) := fun j hj h1 h2 => by
  obtain ⟨i, h3, h4⟩ := and_ne.mp h2
  rw [tb_dif] at h3
  have h5 : x.testBit i = true := by cases e : x.testBit i <;> simp_all
  have h6 : y.testBit i = false := by cases e : y.testBit i <;> simp_all
  intro k hk
  rw [tb_dif, hx j hj h1 (and_ne.mpr ⟨i, h5, h4⟩) k hk]
  cases e : y.testBit k with
  | false => rfl
  | true =>
    have := hy j hj h1 (and_ne.mpr ⟨k, e, hk⟩) i h4
    rw [h6] at this; cases this
/-- what a closed set meets of a part's closure it holds -/
theorem isCl_meet {c : Nat → Bool} {m : Nat → Nat} {n i R C : Nat} (h : isCl c m n (1 <<< i) R) (hC : closedE c m n C) (hm : C &&& R ≠ 0) : sub R C := by
  have hi : C.testBit i = true := by
    refine Classical.byContradiction fun q => ?_
    have hs : sub R (dif R C) := h.2.2 _ (closed_dif h.2.1 hC) (bit_sub.mpr (by
      rw [tb_dif, bit_sub.mp h.1]
      cases e : C.testBit i with
      | false => rfl
      | true => exact absurd e q))
    obtain ⟨k, h1, h2⟩ := and_ne.mp hm
    have := hs k h2
    rw [tb_dif, h1, h2] at this
    cases this
  exact h.2.2 C hC (bit_sub.mpr hi)
theorem isCl_same {c : Nat → Bool} {m : Nat → Nat} {n i k R R' : Nat} (h : isCl c m n (1 <<< i) R) (h' : isCl c m n (1 <<< k) R') (hm : R &&& R' ≠ 0) : R = R' :=
  sub_anti (isCl_meet h h'.2.1 (by rw [Nat.and_comm]; exact hm)) (isCl_meet h' h.2.1 hm)
/-- the class's reach is the closure -/
theorem fJoint_edge (S : Nat → Nat → Nat) (b : Nat) : fJoint S b = edgeF (fun j => decide (S 5 j &&& b = 0)) (S 6) := by
  funext j r
  unfold fJoint edgeF
  by_cases h1 : S 5 j &&& b = 0 <;> by_cases h2 : r &&& S 6 j = 0 <;> simp [h1, h2]
theorem miss_zero {x : Nat} (h : miss x = 0) : ∀ i, i < 28 → x.testBit i = true := by
  intro i hi
  cases e : x.testBit i with
  | true => rfl
  | false =>
    have h1 := miss_lt x (x ||| 1 <<< i) i (by rw [← Nat.or_assoc, Nat.or_self]) e (by rw [Nat.testBit_or, tb_bit_self, Bool.or_true]) 28 0 0 0 (Nat.le_refl 0) (Nat.zero_le _) (by omega)
    unfold miss at h; omega
theorem fPass_edge (S : Nat → Nat → Nat) (b r : Nat) : fPass S b r = gfor (edgeF (fun j => decide (S 5 j &&& b = 0)) (S 6)) (2 * S 1 1) 0 r := by unfold fPass; rw [fJoint_edge]
theorem fReach_sub (S : Nat → Nat → Nat) (b : Nat) : ∀ (k r : Nat), sub r (fReach S b k r)
  | 0, r => sub_refl r
  | k + 1, r => by
    have h : sub r (fPass S b r) := by rw [fPass_edge]; exact pass_sub _ _ _ _ _
    unfold fReach; split
    · exact h
    · exact sub_trans h (fReach_sub S b k _)
theorem fReach_in {S : Nat → Nat → Nat} {b C : Nat} (hC : closedE (fun j => decide (S 5 j &&& b = 0)) (S 6) (2 * S 1 1) C) : ∀ (k r : Nat), sub r C → sub (fReach S b k r) C
  | 0, _, h => h
  | k + 1, r, h => by
    have h1 : sub (fPass S b r) C := by rw [fPass_edge]; exact pass_in hC _ _ _ (by omega) h
    unfold fReach; split
    · exact h1
    · exact fReach_in hC k _ h1
theorem fReach_closed {S : Nat → Nat → Nat} (hw : wfC S) (b : Nat) : ∀ (k r : Nat), r < 268435456 → miss r ≤ k → closedE (fun j => decide (S 5 j &&& b = 0)) (S 6) (2 * S 1 1) (fReach S b k r)
  | 0, r, hr, hm => fun j hj h1 h2 i hi => miss_zero (show miss r = 0 by omega) i (lt28_of_tb (hw.2.2.2.2.2.2.2.2.2.2.1 j) hi)
  | k + 1, r, hr, hm => by
    unfold fReach; split
    · rename_i h
      rw [h]
      refine closed_of_fix ?_
      rw [← fPass_edge]; exact h
    · rename_i h
      have h1 : r ||| fPass S b r = fPass S b r := by
        have := or_eq_of_sub (show sub r (fPass S b r) by rw [fPass_edge]; exact pass_sub _ _ _ _ _)
        rw [Nat.or_comm]; exact this
      have h2 := miss_step h1 (fPass_lt hw b r hr) h
      exact fReach_closed hw b k _ (fPass_lt hw b r hr) (by omega)
theorem reach_isCl {S : Nat → Nat → Nat} (hw : wfC S) {a : Nat} (b : Nat) (ha : a < 268435456) : isCl (fun j => decide (S 5 j &&& b = 0)) (S 6) (2 * S 1 1) a (reach S a b) :=
  ⟨fReach_sub S b 28 a, fReach_closed hw b 28 a ha (miss_le a), fun C hC hs => fReach_in hC 28 a hs⟩
/-- the reference's spread is the closure -/
theorem fSp_edge (S : Nat → Nat → Nat) (how al : Nat) : fSp S how al = edgeF (fun j => decide (openM S j how al ≠ 0)) (bothM S) := by
  funext j r
  unfold fSp edgeF
  by_cases h1 : openM S j how al = 0 <;> by_cases h2 : r &&& bothM S j = 0 <;> simp [h1, h2]
theorem spPass_edge (S : Nat → Nat → Nat) (how al r : Nat) : spPass S how al r = gfor (edgeF (fun j => decide (openM S j how al ≠ 0)) (bothM S)) (2 * S 22 2) 0 r := by unfold spPass; rw [fSp_edge]
theorem spGo_sub (S : Nat → Nat → Nat) (how al : Nat) : ∀ (k r bf : Nat), sub r (spGo S how al k r bf)
  | 0, r, _ => sub_refl r
  | k + 1, r, bf => by
    have h : sub r (spPass S how al r) := by rw [spPass_edge]; exact pass_sub _ _ _ _ _
    unfold spGo; split
    · exact sub_refl r
    · exact sub_trans h (spGo_sub S how al k _ _)
theorem spGo_in {S : Nat → Nat → Nat} {how al C : Nat} (hC : closedE (fun j => decide (openM S j how al ≠ 0)) (bothM S) (2 * S 22 2) C) : ∀ (k r bf : Nat), sub r C → sub (spGo S how al k r bf) C
  | 0, _, _, h => h
  | k + 1, r, bf, h => by
    have h1 : sub (spPass S how al r) C := by rw [spPass_edge]; exact pass_in hC _ _ _ (by omega) h
    unfold spGo; split
    · exact h
    · exact spGo_in hC k _ _ h1
theorem spGo_closed {S : Nat → Nat → Nat} (hm : wfM S) (how al : Nat) : ∀ (k r bf : Nat), r < 268435456 → 2 * miss r + (if r = bf then 0 else 1) < k → (r = bf → closedE (fun j => decide (openM S j how al ≠ 0)) (bothM S) (2 * S 22 2) r) → closedE (fun j => decide (openM S j how al ≠ 0)) (bothM S) (2 * S 22 2) (spGo S how al k r bf)
  | 0, _, _, _, h, _ => absurd h (Nat.not_lt_zero _)
  | k + 1, r, bf, hr, hk, hc => by
    unfold spGo; split
    · rename_i h; exact hc h
    · rename_i h
      rw [if_neg h] at hk
      refine spGo_closed hm how al k _ _ (spPass_lt hm how al r hr) (sp_meas hm how al r hr hk) (fun e => ?_)
      rw [e]
      refine closed_of_fix ?_
      rw [← spPass_edge]; exact e
theorem spread_isCl {S : Nat → Nat → Nat} (hm : wfM S) {a : Nat} (how al : Nat) (ha : a < 268435456) : isCl (fun j => decide (openM S j how al ≠ 0)) (bothM S) (2 * S 22 2) a (spread S a how al) :=
  ⟨spGo_sub S how al 58 a 0, spGo_closed hm how al 58 a 0 ha (by have := miss_le a; split <;> omega) (fun e => by subst e; intro j _ _ h; simp at h), fun C hC hs => spGo_in hC 58 a 0 hs⟩
/-! the class's cells S and the reference's cells T tell of one network -/
def lnk (S T : Nat → Nat → Nat) : Prop :=
  S 1 0 = T 22 1 ∧ S 1 1 = T 22 2 ∧ S 1 2 = T 22 3 ∧ S 1 3 = T 22 4 ∧ S 1 4 = T 22 10 ∧ S 1 5 = T 22 11 ∧ S 2 = T 25 ∧ S 3 = T 26 ∧ S 4 = T 23 ∧ S 7 = T 27
def netS (S T : Nat → Nat → Nat) : Prop :=
  (∀ j, j < 2 * S 1 1 → S 6 j = (1 <<< (12 + j / 2)) ||| (1 <<< S 4 j)) ∧
  (∀ j, j < 2 * S 1 1 → (T 24 j = 4294967295 ∧ S 5 j = 0) ∨ (T 24 j < S 1 2 ∧ S 5 j = 1 <<< T 24 j ∧ S 7 (T 24 j) = j)) ∧
  (∀ v, v < S 1 2 → S 7 v < 2 * S 1 1 ∧ T 24 (S 7 v) = v) ∧
  (∀ j, j < 2 * S 1 1 → S 4 j < S 1 0) ∧
  (∀ p, p < S 1 1 → S 4 (2 * p) ≠ S 4 (2 * p + 1)) ∧
  (∀ p, p < S 1 1 → 1 ≤ S 2 p) ∧
  (∀ j, 2 * S 1 1 ≤ j → S 5 j = 0) ∧
  S 1 3 < 1 <<< S 1 0 ∧ S 1 4 < 1 <<< S 1 2 ∧ S 1 5 < 1 <<< S 1 2
def inv (S T : Nat → Nat → Nat) : Prop := wfC S ∧ wfM T ∧ lnk S T ∧ netS S T
theorem inv_edges {S T : Nat → Nat → Nat} (h : inv S T) : ∀ j, j < 2 * S 1 1 → S 6 j = bothM T j := by
  intro j hj
  have h4 : S 4 = T 23 := h.2.2.1.2.2.2.2.2.2.2.2.1
  rw [h.2.2.2.1 j hj, bothM, h4]
theorem and_bit1 {x k : Nat} : (x >>> k) &&& 1 = 1 ↔ x.testBit k = true := by rw [tb_shr]; split <;> simp_all
theorem bit_and {x k : Nat} : (1 <<< k) &&& x = 0 ↔ x.testBit k = false := by rw [Nat.and_comm]; exact and_bit_zero
theorem open_wet {S T : Nat → Nat → Nat} (h : inv S T) (al : Nat) : ∀ j, j < 2 * S 1 1 → decide (S 5 j &&& (S 1 4 ||| al) = 0) = decide (openM T j 0 al ≠ 0) := by
  intro j hj
  have hs : S 1 4 = T 22 10 := h.2.2.1.2.2.2.2.1
  rcases h.2.2.2.2.1 j hj with ⟨h1, h2⟩ | ⟨h1, h2, h3⟩
  · rw [h2]; simp [openM, h1]
  · have hv : T 24 j ≠ 4294967295 := by have := h.1.2.2.1; omega
    rw [h2, hs]
    unfold openM
    simp only [if_neg hv, and_bit1]
    apply decide_eq_decide.mpr
    rw [bit_and]
    cases e : (T 22 10 ||| al).testBit (T 24 j) <;> simp
theorem open_seg {S T : Nat → Nat → Nat} (h : inv S T) : ∀ j, j < 2 * S 1 1 → decide (S 5 j &&& 4095 = 0) = decide (openM T j 1 0 ≠ 0) := by
  intro j hj
  rcases h.2.2.2.2.1 j hj with ⟨h1, h2⟩ | ⟨h1, h2, h3⟩
  · rw [h2]; simp [openM, h1]
  · have h12 := h.1.2.2.1
    have hv : T 24 j ≠ 4294967295 := by omega
    rw [h2]
    unfold openM
    rw [if_neg hv]
    have e1 : (1 <<< T 24 j) &&& 4095 ≠ 0 := by
      rw [Ne, bit_and, show (4095 : Nat) = 2 ^ 12 - 1 from rfl, Nat.testBit_two_pow_sub_one]
      simp; omega
    rw [decide_eq_false e1]
    split <;> simp
theorem tb_not32 {x i : Nat} (hi : i < 32) : (x ^^^ 4294967295).testBit i = !(x.testBit i) := by
  rw [Nat.testBit_xor, show (4294967295 : Nat) = 2 ^ 32 - 1 from rfl, Nat.testBit_two_pow_sub_one]
  simp [hi]
theorem tb_4095 (i : Nat) : Nat.testBit 4095 i = decide (i < 12) := by rw [show (4095 : Nat) = 2 ^ 12 - 1 from rfl, Nat.testBit_two_pow_sub_one]
theorem tb_bounding (S : Nat → Nat → Nat) {v : Nat} (hv : v < 12) : (bounding S).testBit v = !((S 1 5).testBit v && !((S 1 4).testBit v)) := by
  unfold bounding
  rw [Nat.testBit_and, tb_4095, tb_not32 (by omega), Nat.testBit_and, tb_not32 (by omega)]
  simp [hv]
theorem open_reg {S T : Nat → Nat → Nat} (h : inv S T) : ∀ j, j < 2 * S 1 1 → decide (S 5 j &&& bounding S = 0) = decide (openM T j 2 0 ≠ 0) := by
  intro j hj
  have hs : S 1 4 = T 22 10 := h.2.2.1.2.2.2.2.1
  have hk : S 1 5 = T 22 11 := h.2.2.1.2.2.2.2.2.1
  rcases h.2.2.2.2.1 j hj with ⟨h1, h2⟩ | ⟨h1, h2, h3⟩
  · rw [h2]; simp [openM, h1]
  · have h12 := h.1.2.2.1
    have hv : T 24 j ≠ 4294967295 := by omega
    rw [h2]
    unfold openM
    simp only [if_neg hv, and_bit1, Nat.or_zero]
    apply decide_eq_decide.mpr
    rw [bit_and, tb_bounding S (by omega), hs, hk]
    cases e1 : (T 22 10).testBit (T 24 j) <;> cases e2 : (T 22 11).testBit (T 24 j) <;> simp
theorem cl_eq {S T : Nat → Nat → Nat} (h : inv S T) {a b how al : Nat} (ha : a < 268435456) (hc : ∀ j, j < 2 * S 1 1 → decide (S 5 j &&& b = 0) = decide (openM T j how al ≠ 0)) : reach S a b = spread T a how al := by
  have h1 := reach_isCl h.1 b ha
  have h2 := spread_isCl h.2.1 how al ha
  rw [← h.2.2.1.2.1] at h2
  exact isCl_uniq (isCl_congr hc (inv_edges h) h1) h2
theorem src28 {S : Nat → Nat → Nat} (h : wfC S) : S 1 3 < 268435456 := Nat.lt_trans h.2.2.2.1 (by decide)
theorem wet_eq {S T : Nat → Nat → Nat} (h : inv S T) (al : Nat) : wetBehind S al = wetM T al := by
  unfold wetBehind wetM
  rw [← h.2.2.1.2.2.2.1]
  exact cl_eq h (src28 h.1) (open_wet h al)
theorem seg_eq {S T : Nat → Nat → Nat} (h : inv S T) {k : Nat} (hk : k < 28) : segWith S k = spread T (1 <<< k) 1 0 := cl_eq h (Nat.lt_of_lt_of_le (shl1 hk) (by decide)) (open_seg h)
theorem reg_eq {S T : Nat → Nat → Nat} (h : inv S T) {p : Nat} (hp : p < 16) : regOf S p = regM T p := cl_eq h (Nat.lt_of_lt_of_le (shl1 (show 12 + p < 28 by omega)) (by decide)) (open_reg h)
/-! water -/
theorem gfor_ext {α : Type} {f g : Nat → α → α} : ∀ (k j : Nat) (x : α), (∀ i y, j ≤ i → i < j + k → f i y = g i y) → gfor f k j x = gfor g k j x
  | 0, _, _, _ => rfl
  | k + 1, j, x, h => by
    show gfor f k (j + 1) (f j x) = gfor g k (j + 1) (g j x)
    rw [h j x (Nat.le_refl j) (by omega)]
    exact gfor_ext k (j + 1) _ (fun i y h1 h2 => h i y (by omega) (by omega))
theorem dry_eq {S T : Nat → Nat → Nat} (h : inv S T) (a : Nat) : dryF S a = dryM T (1 <<< a) := by
  unfold dryF dryM
  rw [wet_eq h, gbit_tb]
  have := @and_bit_zero (wetM T 0) a
  cases e : (wetM T 0).testBit a <;> simp_all
theorem cust_eq {S T : Nat → Nat → Nat} (h : inv S T) (w : Nat) : custOf S w = supplyM T w := by
  unfold custOf supplyM
  rw [h.2.2.1.2.1]
  refine gfor_ext _ _ _ (fun p s _ _ => ?_)
  unfold fCust fSup
  rw [gbit_tb, h.2.2.1.2.2.2.2.2.2.2.1]
  have := @and_bit_zero w (12 + p)
  cases e : w.testBit (12 + p) <;> simp_all
theorem supplied_eq {S T : Nat → Nat → Nat} (h : inv S T) : custOf S (wetBehind S 0) = supplyM T (wetM T 0) := by rw [wet_eq h, cust_eq h]
/-! segments, by walking -/
theorem least_nat (P : Nat → Prop) (h : ∃ n, P n) : ∃ n, P n ∧ ∀ m, m < n → ¬ P m := by
  refine Classical.byContradiction fun q => ?_
  have : ∀ n, ∀ m, m ≤ n → ¬ P m := by
    intro n
    induction n with
    | zero =>
      intro m hm hp
      exact q ⟨m, hp, fun k hk _ => absurd hk (by omega)⟩
    | succ n ih =>
      intro m hm hp
      exact q ⟨m, hp, fun k hk => ih k (by omega)⟩
  obtain ⟨n, hn⟩ := h
  exact this n n (Nat.le_refl n) hn
theorem gfor_split {α : Type} (f : Nat → α → α) : ∀ (a b j : Nat) (x : α), gfor f (a + b) j x = gfor f b (j + a) (gfor f a j x)
  | 0, b, j, x => by rw [Nat.zero_add]; rfl
  | a + 1, b, j, x => by
    rw [show a + 1 + b = (a + b) + 1 by omega]
    show gfor f (a + b) (j + 1) (f j x) = gfor f b (j + (a + 1)) (gfor f a (j + 1) (f j x))
    rw [gfor_split f a b (j + 1), show j + 1 + a = j + (a + 1) by omega]
theorem gfor_id {α : Type} {f : Nat → α → α} : ∀ (k j : Nat) (x : α), (∀ i y, j ≤ i → i < j + k → f i y = y) → gfor f k j x = x
  | 0, _, _, _ => rfl
  | k + 1, j, x, h => by
    show gfor f k (j + 1) (f j x) = x
    rw [h j x (Nat.le_refl j) (by omega)]
    exact gfor_id k (j + 1) x (fun i y h1 h2 => h i y (by omega) (by omega))
theorem hasPart_iff (S : Nat → Nat → Nat) (k : Nat) : hasPart S k = 0 ↔ ¬ ((k < 12 ∧ k < S 1 0) ∨ (12 ≤ k ∧ k < 12 + S 1 1)) := by
  unfold hasPart
  (repeat' split) <;> omega
theorem ntzF_all : ∀ f : Fin 28, ntzF (2 ^ f.val - 1) = f.val := by decide +kernel
theorem ntz_spec {a f : Nat} (ha : a < 268435456) (hf : a.testBit f = true) (hl : ∀ i, i < f → a.testBit i = false) : ntz a = f := by
  have hf28 := lt28_of_tb ha hf
  have h1 : a % 2 ^ f = 0 := Nat.eq_of_testBit_eq fun i => by
    rw [Nat.testBit_mod_two_pow, Nat.zero_testBit]
    by_cases q : i < f
    · simp [q, hl i q]
    · simp [q]
  have h2 : a = 2 ^ f * (a / 2 ^ f) := by have := Nat.div_add_mod a (2 ^ f); omega
  have h3 : (a / 2 ^ f) % 2 = 1 := by
    have := hf
    rw [Nat.testBit_eq_decide_div_mod_eq] at this
    simpa using this
  obtain ⟨q, hq⟩ : ∃ q, a / 2 ^ f = 2 * q + 1 := ⟨a / 2 ^ f / 2, by omega⟩
  rw [hq] at h2
  have hp : 0 < 2 ^ f := Nat.pos_of_ne_zero (by simp)
  have h4 : a - 1 = 2 ^ f * (2 * q) + (2 ^ f - 1) := by
    rw [Nat.mul_add, Nat.mul_one] at h2; omega
  have h5 : (a ^^^ 4294967295) &&& (a - 1) = 2 ^ f - 1 := Nat.eq_of_testBit_eq fun i => by
    rw [Nat.testBit_and, Nat.testBit_xor, show (4294967295 : Nat) = 2 ^ 32 - 1 from rfl, Nat.testBit_two_pow_sub_one, Nat.testBit_two_pow_sub_one, h4, Nat.testBit_two_pow_mul_add _ (by omega), Nat.testBit_two_pow_sub_one]
    by_cases c1 : i < f
    · simp [c1, hl i c1, show i < 32 by omega]
    · by_cases c2 : i = f
      · subst c2
        simp
      · have e : a.testBit i = (2 * q).testBit (i - f) := by
          rw [h2]
          have := Nat.testBit_two_pow_mul_add (2 * q + 1) (show 0 < 2 ^ f from hp) i
          rw [Nat.add_zero, if_neg c1] at this
          rw [this, show i - f = (i - f - 1) + 1 by omega, Nat.testBit_succ, Nat.testBit_succ]
          congr 1; omega
        by_cases c3 : i < 32
        · simp [c1, c3, e]
        · have e2 : a.testBit i = false := by
            cases e3 : a.testBit i with
            | false => rfl
            | true => exact absurd (lt28_of_tb ha e3) (by omega)
          rw [← e, e2]; simp [c1, c3]
  unfold ntz
  rw [h5]
  exact ntzF_all ⟨f, hf28⟩
/-- the parts that there are -/
def allP (S : Nat → Nat → Nat) : Nat := (2 ^ S 1 0 - 1) ||| 2 ^ 12 * (2 ^ S 1 1 - 1)
theorem tb_allP (S : Nat → Nat → Nat) (i : Nat) : (allP S).testBit i = (decide (i < S 1 0) || (decide (12 ≤ i) && decide (i - 12 < S 1 1))) := by
  unfold allP
  rw [Nat.testBit_or, Nat.testBit_two_pow_sub_one, Nat.testBit_two_pow_mul, Nat.testBit_two_pow_sub_one]
theorem segs_isCl {S T : Nat → Nat → Nat} (h : inv S T) {k : Nat} (hk : k < 28) : isCl (fun j => decide (S 5 j &&& 4095 = 0)) (S 6) (2 * S 1 1) (1 <<< k) (segWith S k) := reach_isCl h.1 4095 (Nat.lt_of_lt_of_le (shl1 hk) (by decide))
theorem seg_lt {S T : Nat → Nat → Nat} (h : inv S T) {k : Nat} (hk : k < 28) : segWith S k < 268435456 := reach_lt h.1 (Nat.lt_of_lt_of_le (shl1 hk) (by decide))
theorem seg_self {S T : Nat → Nat → Nat} (h : inv S T) {k : Nat} (hk : k < 28) : (segWith S k).testBit k = true := bit_sub.mp (segs_isCl h hk).1
theorem seg_has {S T : Nat → Nat → Nat} (h : inv S T) {k i : Nat} (hk : hasPart S k ≠ 0) (hi : (segWith S k).testBit i = true) : hasPart S i ≠ 0 := by
  have h0 := h.1.1
  have h1 := h.1.2.1
  have hk' : ((k < 12 ∧ k < S 1 0) ∨ (12 ≤ k ∧ k < 12 + S 1 1)) := Classical.byContradiction fun q => hk ((hasPart_iff S k).mpr q)
  have hs : sub (segWith S k) (allP S) := by
    refine (segs_isCl h (show k < 28 by omega)).2.2 _ (fun j hj _ _ i hi => ?_) (bit_sub.mpr ?_)
    · rw [h.2.2.2.1 j hj, Nat.testBit_or, tb_bit, tb_bit] at hi
      rw [tb_allP]
      have := h.2.2.2.2.2.2.1 j hj
      simp only [Bool.or_eq_true, decide_eq_true_eq] at hi
      simp only [Bool.or_eq_true, Bool.and_eq_true, decide_eq_true_eq]
      omega
    · rw [tb_allP]
      simp only [Bool.or_eq_true, Bool.and_eq_true, decide_eq_true_eq]
      omega
  have h2 := hs i hi
  rw [tb_allP] at h2
  simp only [Bool.or_eq_true, Bool.and_eq_true, decide_eq_true_eq] at h2
  intro q
  rw [hasPart_iff] at q
  omega
theorem fBegun_no {S : Nat → Nat → Nat} {k : Nat} {x : Nat × Nat} (h : hasPart S k = 0) : fBegun S k x = x := by unfold fBegun; rw [if_pos h]
theorem seg_all {S T : Nat → Nat → Nat} (h : inv S T) : countBegun S 28 = segM T 0 := by
  have h0 := h.1.1
  have h1 := h.1.2.1
  have hp : S 1 1 = T 22 2 := h.2.2.1.2.1
  have hn : S 1 0 = T 22 1 := h.2.2.1.1
  have walk : ∀ (c k seen n : Nat), k + c = 12 + S 1 1 → segGo T 0 c k seen n = (gfor (fBegun S) c k (seen, n)).2 := by
    intro c
    induction c with
    | zero => intro k seen n _; rfl
    | succ c ih =>
      intro k seen n hk
      show _ = (gfor (fBegun S) c (k + 1) (fBegun S k (seen, n))).2
      have hh := hasPart_iff S k
      by_cases q : k < T 22 1 ∨ 12 ≤ k
      · have q0 : hasPart S k ≠ 0 := by rw [Ne, hh]; omega
        unfold fBegun
        rw [if_neg q0, gbit_tb]
        by_cases b : seen.testBit k = true
        · rw [segGo_b q (by rw [tb_shr, if_pos b]; decide), if_pos b]
          simp only [Nat.one_ne_zero, if_false]
          exact ih (k + 1) seen n (by omega)
        · rw [segGo_c q (by rw [tb_shr, if_neg b]) (Nat.and_zero _), if_neg b, if_pos rfl, ih (k + 1) _ _ (by omega), seg_eq h (by omega)]
          rfl
      · rw [segGo_a q, fBegun_no (by rw [hh]; omega)]
        exact ih (k + 1) seen n (by omega)
  unfold countBegun segM
  rw [← hp, walk _ _ _ _ (by omega), show 28 = (12 + S 1 1) + (16 - S 1 1) by omega, gfor_split, gfor_id (f := fBegun S) (16 - S 1 1)]
  intro i y h2 h3
  exact fBegun_no (by rw [hasPart_iff]; omega)
theorem seg_num {S T : Nat → Nat → Nat} (h : inv S T) {t : Nat} (ht : hasPart S t ≠ 0) : 0 < segWith S t ∧ ntz (segWith S t) < 28 ∧ countBegun S (ntz (segWith S t)) = segM T (1 <<< t) := by
  have h0 := h.1.1
  have h1 := h.1.2.1
  have hp : S 1 1 = T 22 2 := h.2.2.1.2.1
  have hn : S 1 0 = T 22 1 := h.2.2.1.1
  have ht' : ((t < 12 ∧ t < S 1 0) ∨ (12 ≤ t ∧ t < 12 + S 1 1)) := Classical.byContradiction fun q => ht ((hasPart_iff S t).mpr q)
  have ht28 : t < 28 := by omega
  obtain ⟨f, hf, hl⟩ := least_nat (fun i => (segWith S t).testBit i = true) ⟨t, seg_self h ht28⟩
  have hl' : ∀ i, i < f → (segWith S t).testBit i = false := fun i hi => by
    cases e : (segWith S t).testBit i with
    | false => rfl
    | true => exact absurd e (hl i hi)
  have hntz := ntz_spec (seg_lt h ht28) hf hl'
  have hf28 := lt28_of_tb (seg_lt h ht28) hf
  refine ⟨Nat.pos_of_ne_zero fun e => by rw [e] at hf; simp at hf, by omega, ?_⟩
  rw [hntz]
  have hfp := seg_has h ht hf
  have hfp' : ((f < 12 ∧ f < S 1 0) ∨ (12 ≤ f ∧ f < 12 + S 1 1)) := Classical.byContradiction fun q => hfp ((hasPart_iff S f).mpr q)
  have walk : ∀ (c k seen n r : Nat), k + c = f → c + r = 12 + S 1 1 - k → seen &&& segWith S t = 0 → segGo T (1 <<< t) (c + r) k seen n = (gfor (fBegun S) c k (seen, n)).2 := by
    intro c
    induction c with
    | zero =>
      intro k seen n r hk hr hs
      have hkf : k = f := by omega
      subst hkf
      obtain ⟨r, rfl⟩ : ∃ r', r = r' + 1 := ⟨r - 1, by omega⟩
      rw [Nat.zero_add]
      have hb : seen.testBit k = false := by
        cases e : seen.testBit k with
        | false => rfl
        | true => exact absurd hs (and_ne.mpr ⟨k, e, hf⟩)
      rw [segGo_d (by omega) (by rw [tb_shr, hb]; rfl) (by
        rw [← seg_eq h hf28, and_bit_ne, ← isCl_same (segs_isCl h ht28) (segs_isCl h hf28) (and_ne.mpr ⟨k, hf, seg_self h hf28⟩)]
        exact seg_self h ht28)]
      rfl
    | succ c ih =>
      intro k seen n r hk hr hs
      show _ = (gfor (fBegun S) c (k + 1) (fBegun S k (seen, n))).2
      rw [show c + 1 + r = (c + r) + 1 by omega]
      have hh := hasPart_iff S k
      have hk28 : k < 28 := by omega
      by_cases q : k < T 22 1 ∨ 12 ≤ k
      · have q0 : hasPart S k ≠ 0 := by rw [Ne, hh]; omega
        unfold fBegun
        rw [if_neg q0, gbit_tb]
        by_cases b : seen.testBit k = true
        · rw [segGo_b q (by rw [tb_shr, if_pos b]; decide), if_pos b]
          simp only [Nat.one_ne_zero, if_false]
          exact ih (k + 1) seen n r (by omega) (by omega) hs
        · have hd : segWith S k &&& segWith S t = 0 := Classical.byContradiction fun e => by
            have := isCl_same (segs_isCl h hk28) (segs_isCl h ht28) e
            have h2 := hl' k (by omega)
            rw [← this, seg_self h hk28] at h2
            cases h2
          rw [segGo_c q (by rw [tb_shr, if_neg b]) (by
            rw [← seg_eq h hk28, and_bit_zero]
            cases e : (segWith S k).testBit t with
            | false => rfl
            | true => exact absurd hd (and_ne.mpr ⟨t, e, seg_self h ht28⟩)), if_neg b, if_pos rfl, ← seg_eq h hk28]
          refine ih (k + 1) _ _ r (by omega) (by omega) (and_zero_of fun i h3 h4 => ?_)
          rw [Nat.testBit_or] at h3
          rcases Bool.or_eq_true_iff.mp h3 with h3 | h3
          · exact absurd hs (and_ne.mpr ⟨i, h3, h4⟩)
          · exact absurd hd (and_ne.mpr ⟨i, h3, h4⟩)
      · rw [segGo_a q, fBegun_no (by rw [hh]; omega)]
        exact ih (k + 1) seen n r (by omega) (by omega) hs
  unfold countBegun segM
  rw [← hp, ← walk f 0 0 0 (12 + S 1 1 - f) (by omega) (by omega) (Nat.zero_and _), show f + (12 + S 1 1 - f) = 12 + S 1 1 by omega]
/-! segments, by merging -/
def downD (d : Nat → Nat) : Prop := ∀ x, x < 28 → d x ≤ x
theorem fg_fix {d : Nat → Nat} (hd : downD d) : ∀ (k x : Nat), x ≤ k → x < 28 → d (firstGo d k x) = firstGo d k x
  | 0, x, h, h28 => by
    have := hd x h28
    show d x = x; omega
  | k + 1, x, h, h28 => by
    unfold firstGo
    split
    · assumption
    · rename_i hne
      have := hd x h28
      exact fg_fix hd k (d x) (by omega) (by omega)
theorem fg_fuel {d : Nat → Nat} (hd : downD d) : ∀ (k x : Nat), x ≤ k → x < 28 → firstGo d (k + 1) x = firstGo d k x
  | 0, x, h, h28 => by
    have := hd x h28
    unfold firstGo
    rw [if_pos (by omega)]
  | k + 1, x, h, h28 => by
    rw [firstGo]
    conv => rhs; rw [firstGo]
    split
    · rfl
    · rename_i hne
      have := hd x h28
      exact fg_fuel hd k (d x) (by omega) (by omega)
theorem fg_le {d : Nat → Nat} (hd : downD d) : ∀ (k x : Nat), x < 28 → firstGo d k x ≤ x
  | 0, x, _ => Nat.le_refl x
  | k + 1, x, h28 => by
    unfold firstGo
    split
    · exact Nat.le_refl x
    · have := hd x h28
      exact Nat.le_trans (fg_le hd k (d x) (by omega)) this
theorem rt_fix {d : Nat → Nat} (hd : downD d) {x : Nat} (h : x < 28) : d (firstOf d x) = firstOf d x := fg_fix hd 28 x (by omega) h
theorem rt_le {d : Nat → Nat} (hd : downD d) {x : Nat} (h : x < 28) : firstOf d x ≤ x := fg_le hd 28 x h
theorem rt_root {d : Nat → Nat} {x : Nat} (h : d x = x) : firstOf d x = x := by unfold firstOf firstGo; rw [if_pos h]
theorem rt_step {d : Nat → Nat} (hd : downD d) {x : Nat} (h : x < 28) : firstOf d (d x) = firstOf d x := by
  by_cases e : d x = x
  · rw [e]
  · have h1 := hd x h
    unfold firstOf
    rw [fg_fuel hd 27 (d x) (by omega) (by omega)]
    conv => rhs; rw [firstGo, if_neg e]
theorem rt_idem {d : Nat → Nat} (hd : downD d) {x : Nat} (h : x < 28) : firstOf d (firstOf d x) = firstOf d x := rt_root (rt_fix hd h)
theorem merge_down {d : Nat → Nat} (hd : downD d) {M m : Nat} (h : m ≤ M) : downD (va_up d M m) := by
  intro x hx
  simp only [va_up]; split
  · omega
  · exact hd x hx
theorem merge_rt {d : Nat → Nat} (hd : downD d) {M m : Nat} (h : m ≤ M) (hM : d M = M) (hm : d m = m) (hM28 : M < 28) : ∀ x, x < 28 → firstOf (va_up d M m) x = if firstOf d x = M then m else firstOf d x := by
  have hd' := merge_down (d := d) hd h
  intro x
  induction x using Nat.strongRecOn with
  | _ x ih =>
    intro hx
    have hst := rt_step hd' hx
    by_cases e : x = M
    · subst e
      rw [rt_root hM, if_pos rfl, ← hst]
      have e2 : va_up d x m x = m := va_up_self d x m
      rw [e2]
      refine rt_root ?_
      by_cases q : m = x
      · rw [q, va_up_self]
      · rw [va_up_ne d m q]; exact hm
    · have e2 : va_up d M m x = d x := va_up_ne d m e
      by_cases e3 : d x = x
      · rw [rt_root (d := va_up d M m) (by rw [e2]; exact e3), rt_root e3, if_neg e]
      · have h1 := hd x hx
        rw [← hst, e2, ih (d x) (by omega) (by omega), rt_step hd hx]
theorem seg_mem {S T : Nat → Nat → Nat} (h : inv S T) {x y : Nat} (hx : x < 28) (hy : y < 28) : (segWith S x).testBit y = true ↔ segWith S x = segWith S y := by
  constructor
  · intro q
    exact isCl_same (segs_isCl h hx) (segs_isCl h hy) (and_ne.mpr ⟨y, q, seg_self h hy⟩)
  · intro q; rw [q]; exact seg_self h hy
theorem seg_edge {S T : Nat → Nat → Nat} (h : inv S T) {j : Nat} (hj : j < 2 * S 1 1) (h5 : S 5 j = 0) : segWith S (12 + j / 2) = segWith S (S 4 j) := by
  have h1 := h.1.2.1
  have h4 := h.1.2.2.2.2.2.2.2.2.1 j
  have hp : 12 + j / 2 < 28 := by omega
  rw [← seg_mem h hp (by omega)]
  have h6 := h.2.2.2.1 j hj
  refine (segs_isCl h hp).2.1 j hj (by simp [h5]) (and_ne.mpr ⟨12 + j / 2, seg_self h hp, by rw [h6, Nat.testBit_or, tb_bit_self]; rfl⟩) _ (by rw [h6, Nat.testBit_or, tb_bit_self, Bool.or_true])
def uf (S : Nat → Nat → Nat) (J : Nat) (d : Nat → Nat) : Prop := downD d ∧ (∀ x, x < 28 → (segWith S x).testBit (firstOf d x) = true) ∧ ∀ j, j < J → S 5 j = 0 → firstOf d (12 + j / 2) = firstOf d (S 4 j)
theorem uf_step {S T : Nat → Nat → Nat} (h : inv S T) {j : Nat} {d : Nat → Nat} (hj : j < 2 * S 1 1) (hu : uf S j d) : uf S (j + 1) (if S 5 j = 0 then mergeF d (12 + j / 2) (S 4 j) else d) := by
  have h1 := h.1.2.1
  have h4 := h.1.2.2.2.2.2.2.2.2.1
  obtain ⟨hd, hs, hc⟩ := hu
  split
  · rename_i h5
    have ha : 12 + j / 2 < 28 := by omega
    have hb : S 4 j < 28 := by have := h4 j; omega
    have ra := rt_le hd ha
    have rb := rt_le hd hb
    have fa := rt_fix hd ha
    have fb := rt_fix hd hb
    have hmM : min (firstOf d (12 + j / 2)) (firstOf d (S 4 j)) ≤ max (firstOf d (12 + j / 2)) (firstOf d (S 4 j)) := by omega
    have hM : d (max (firstOf d (12 + j / 2)) (firstOf d (S 4 j))) = max (firstOf d (12 + j / 2)) (firstOf d (S 4 j)) := by
      rcases Nat.le_total (firstOf d (12 + j / 2)) (firstOf d (S 4 j)) with q | q
      · rw [Nat.max_eq_right q]; exact fb
      · rw [Nat.max_eq_left q]; exact fa
    have hm : d (min (firstOf d (12 + j / 2)) (firstOf d (S 4 j))) = min (firstOf d (12 + j / 2)) (firstOf d (S 4 j)) := by
      rcases Nat.le_total (firstOf d (12 + j / 2)) (firstOf d (S 4 j)) with q | q
      · rw [Nat.min_eq_left q]; exact fa
      · rw [Nat.min_eq_right q]; exact fb
    have key := merge_rt hd hmM hM hm (by omega)
    have sa : segWith S (12 + j / 2) = segWith S (firstOf d (12 + j / 2)) := (seg_mem h ha (by omega)).mp (hs _ ha)
    have sb : segWith S (S 4 j) = segWith S (firstOf d (S 4 j)) := (seg_mem h hb (by omega)).mp (hs _ hb)
    have se := seg_edge h hj h5
    have sM : segWith S (max (firstOf d (12 + j / 2)) (firstOf d (S 4 j))) = segWith S (12 + j / 2) := by
      rcases Nat.le_total (firstOf d (12 + j / 2)) (firstOf d (S 4 j)) with q | q
      · rw [Nat.max_eq_right q, ← sb, se]
      · rw [Nat.max_eq_left q, ← sa]
    have sm : segWith S (min (firstOf d (12 + j / 2)) (firstOf d (S 4 j))) = segWith S (12 + j / 2) := by
      rcases Nat.le_total (firstOf d (12 + j / 2)) (firstOf d (S 4 j)) with q | q
      · rw [Nat.min_eq_left q, ← sa]
      · rw [Nat.min_eq_right q, ← sb, se]
    unfold mergeF
    refine ⟨merge_down hd hmM, fun x hx => ?_, fun i hi h5i => ?_⟩
    · rw [key x hx]
      split
      · rename_i e
        have h2 := hs x hx
        rw [e, seg_mem h hx (by omega), sM] at h2
        rw [seg_mem h hx (by omega), sm, h2]
      · exact hs x hx
    · have hi4 := h4 i
      rw [key _ (by omega), key _ (by omega)]
      by_cases q : i = j
      · subst q
        split <;> split <;> omega
      · rw [hc i (by omega) h5i]
  · rename_i h5
    refine ⟨hd, hs, fun i hi h5i => ?_⟩
    by_cases q : i = j
    · subst q; exact absurd h5i h5
    · exact hc i (by omega) h5i
theorem uf_all {S T : Nat → Nat → Nat} (h : inv S T) : uf S (2 * S 1 1) (mergeAll S) := by
  have h0 : ∀ x, x < 28 → gfor fFill 28 0 (S 9) x = x := by
    have := gfor_invK (fun i (d : Nat → Nat) => ∀ x, x < i → d x = x) fFill 28 0 (S 9) (fun i y _ hi hy x hx => by
      simp only [fFill, va_up]; split
      · omega
      · exact hy x (by omega)) (fun x hx => absurd hx (Nat.not_lt_zero x))
    intro x hx; exact this x (by omega)
  have := gfor_invK (fun p (d : Nat → Nat) => uf S (2 * p) d) (fPipe S) (S 1 1) 0 (gfor fFill 28 0 (S 9)) (fun p d _ hp hu => by
    have e : fPipe S p d = (if S 5 (2 * p + 1) = 0 then mergeF (if S 5 (2 * p) = 0 then mergeF d (12 + 2 * p / 2) (S 4 (2 * p)) else d) (12 + (2 * p + 1) / 2) (S 4 (2 * p + 1)) else (if S 5 (2 * p) = 0 then mergeF d (12 + 2 * p / 2) (S 4 (2 * p)) else d)) := by
      show fEnd S p 1 (fEnd S p 0 d) = _
      unfold fEnd
      rw [show (2 * p + 1) / 2 = p by omega, show 2 * p / 2 = p by omega]
      rfl
    have h1 := uf_step h (show 2 * p < 2 * S 1 1 by omega) hu
    have h2 := uf_step h (show 2 * p + 1 < 2 * S 1 1 by omega) h1
    rw [← e] at h2
    exact h2) ⟨fun x hx => by rw [h0 x hx]; exact Nat.le_refl x, fun x hx => by rw [rt_root (h0 x hx)]; exact seg_self h hx, fun j hj => absurd hj (by omega)⟩
  rw [Nat.zero_add] at this; exact this
/-- the number whose bits below n are those that P says -/
def maskOf (P : Nat → Bool) : Nat → Nat
  | 0 => 0
  | n + 1 => if P n then maskOf P n ||| 1 <<< n else maskOf P n
theorem tb_maskOf (P : Nat → Bool) : ∀ (n i : Nat), (maskOf P n).testBit i = (decide (i < n) && P i)
  | 0, i => by simp [maskOf]
  | n + 1, i => by
    unfold maskOf
    by_cases q : i = n
    · subst q
      cases e : P i
      · simp [tb_maskOf P i i]
      · simp [Nat.testBit_or, tb_bit]
    · have h1 : decide (i < n + 1) = decide (i < n) := by apply decide_eq_decide.mpr; omega
      have h2 : decide (n = i) = false := by simp; omega
      cases e : P n
      · rw [if_neg (by decide), tb_maskOf P n i, h1]
      · rw [if_pos rfl, Nat.testBit_or, tb_bit, h2, Bool.or_false, tb_maskOf P n i, h1]
theorem rt_low {S T : Nat → Nat → Nat} (h : inv S T) {x : Nat} (hx : x < 28) : ∀ y, (segWith S x).testBit y = true → firstOf (mergeAll S) y = firstOf (mergeAll S) x := by
  have hu := uf_all h
  intro y hy
  have hs : sub (segWith S x) (maskOf (fun y => decide (firstOf (mergeAll S) y = firstOf (mergeAll S) x)) 28) := by
    refine (segs_isCl h hx).2.2 _ (fun j hj hc hm i hi => ?_) (bit_sub.mpr (by rw [tb_maskOf]; simp [hx]))
    have h1 := h.1.2.1
    have h4 := h.1.2.2.2.2.2.2.2.2.1 j
    have h5 : S 5 j = 0 := by
      rcases h.2.2.2.2.1 j hj with ⟨_, q⟩ | ⟨q1, q2, _⟩
      · exact q
      · exfalso
        have hc : decide (S 5 j &&& 4095 = 0) = true := hc
        rw [q2, decide_eq_true_eq, bit_and, tb_4095] at hc
        have := h.1.2.2.1
        simp at hc; omega
    have he := hu.2.2 j hj h5
    have h6 := h.2.2.2.1 j hj
    obtain ⟨k, hk1, hk2⟩ := and_ne.mp hm
    rw [tb_maskOf, Bool.and_eq_true, decide_eq_true_eq, decide_eq_true_eq] at hk1
    rw [h6, Nat.testBit_or, tb_bit, tb_bit, Bool.or_eq_true, decide_eq_true_eq, decide_eq_true_eq] at hk2 hi
    rw [tb_maskOf, Bool.and_eq_true, decide_eq_true_eq, decide_eq_true_eq]
    rcases hk2 with rfl | rfl <;> rcases hi with rfl | rfl <;> refine ⟨by omega, ?_⟩
    · exact hk1.2
    · rw [← he]; exact hk1.2
    · rw [he]; exact hk1.2
    · exact hk1.2
  have := hs y hy
  rw [tb_maskOf, Bool.and_eq_true, decide_eq_true_eq, decide_eq_true_eq] at this
  exact this.2
theorem rt_ntz {S T : Nat → Nat → Nat} (h : inv S T) {x : Nat} (hx : x < 28) : ntz (segWith S x) = firstOf (mergeAll S) x := by
  have hu := uf_all h
  refine ntz_spec (seg_lt h hx) (hu.2.1 x hx) (fun i hi => ?_)
  cases e : (segWith S x).testBit i with
  | false => rfl
  | true =>
    have h1 := rt_low h hx i e
    have h2 := rt_le hu.1 (lt28_of_tb (seg_lt h hx) e)
    omega
theorem num_begun {S T : Nat → Nat → Nat} (h : inv S T) {f : Nat} (hf : f ≤ 28) : gfor (fNum S (mergeAll S)) f 0 0 = countBegun S f := by
  have hu := uf_all h
  have hd := hu.1
  have walk : ∀ (c k seen n : Nat), k + c = f → (∀ i, seen.testBit i = true ↔ ∃ q, q < k ∧ hasPart S q ≠ 0 ∧ (segWith S q).testBit i = true) → gfor (fNum S (mergeAll S)) c k n = (gfor (fBegun S) c k (seen, n)).2 := by
    intro c
    induction c with
    | zero => intro k seen n _ _; rfl
    | succ c ih =>
      intro k seen n hk hs
      have hk28 : k < 28 := by omega
      show gfor (fNum S (mergeAll S)) c (k + 1) (fNum S (mergeAll S) k n) = (gfor (fBegun S) c (k + 1) (fBegun S k (seen, n))).2
      by_cases q0 : hasPart S k = 0
      · rw [fBegun_no q0]
        unfold fNum
        rw [if_pos q0]
        refine ih (k + 1) seen n (by omega) (fun i => (hs i).trans ⟨fun ⟨q, h1, h2⟩ => ⟨q, by omega, h2⟩, fun ⟨q, h1, h2, h3⟩ => ⟨q, ?_, h2, h3⟩⟩)
        rcases Nat.lt_or_ge q k with z | z
        · exact z
        · have : q = k := by omega
          subst this; exact absurd q0 h2
      · have hg : gbit seen k = 0 ↔ firstOf (mergeAll S) k = k := by
          rw [gbit_tb]
          constructor
          · intro hb
            have hb : seen.testBit k = false := by
              cases e : seen.testBit k with
              | false => rfl
              | true => rw [e] at hb; simp at hb
            refine Classical.byContradiction fun hne => ?_
            have hle := rt_le hd hk28
            have hin := hu.2.1 k hk28
            have hhas := seg_has h q0 hin
            have := (hs k).mpr ⟨firstOf (mergeAll S) k, by omega, hhas, by
              rw [seg_mem h (by omega) hk28]
              exact ((seg_mem h hk28 (by omega)).mp hin).symm⟩
            rw [hb] at this; cases this
          · intro hr
            rw [if_neg]
            intro hb
            obtain ⟨q, h1, h2, h3⟩ := (hs k).mp hb
            have h4 := rt_low h (show q < 28 by omega) k h3
            have h5 := rt_le hd (show q < 28 by omega)
            omega
        have e1 : fNum S (mergeAll S) k n = if gbit seen k = 0 then n + 1 else n := by
          unfold fNum
          rw [if_neg q0]
          by_cases z : gbit seen k = 0
          · rw [if_pos (hg.mp z), if_pos z]
          · rw [if_neg (fun y => z (hg.mpr y)), if_neg z]
        have e2 : fBegun S k (seen, n) = if gbit seen k = 0 then (seen ||| segWith S k, n + 1) else (seen, n) := by
          unfold fBegun
          rw [if_neg q0]
        rw [e1, e2]
        by_cases z : gbit seen k = 0
        · rw [if_pos z, if_pos z]
          refine ih (k + 1) _ _ (by omega) (fun i => ?_)
          rw [Nat.testBit_or, Bool.or_eq_true, hs i]
          constructor
          · rintro (⟨q, h1, h2⟩ | h1)
            · exact ⟨q, by omega, h2⟩
            · exact ⟨k, by omega, q0, h1⟩
          · rintro ⟨q, h1, h2, h3⟩
            rcases Nat.lt_or_ge q k with y | y
            · exact Or.inl ⟨q, y, h2, h3⟩
            · have : q = k := by omega
              subst this; exact Or.inr h3
        · rw [if_neg z, if_neg z]
          refine ih (k + 1) _ _ (by omega) (fun i => ?_)
          rw [hs i]
          constructor
          · rintro ⟨q, h1, h2⟩; exact ⟨q, by omega, h2⟩
          · rintro ⟨q, h1, h2, h3⟩
            rcases Nat.lt_or_ge q k with y | y
            · exact ⟨q, y, h2, h3⟩
            · have : q = k := by omega
              subst this
              have hb : seen.testBit q = true := by
                cases e : seen.testBit q with
                | true => rfl
                | false => rw [gbit_tb, e] at z; simp at z
              obtain ⟨r, g1, g2, g3⟩ := (hs q).mp hb
              refine ⟨r, g1, g2, ?_⟩
              rw [(seg_mem h (show r < 28 by omega) hk28).mp g3]; exact h3
  exact walk f 0 0 0 (by omega) (fun i => ⟨fun z => by simp at z, fun ⟨q, h1, _⟩ => absurd h1 (Nat.not_lt_zero q)⟩)
theorem merge_eq {S T : Nat → Nat → Nat} (h : inv S T) {p : Nat} (hp : p < S 1 1) : numMerge S (12 + p) = segM T (1 <<< (12 + p)) := by
  have h1 := h.1.2.1
  have ht : hasPart S (12 + p) ≠ 0 := by rw [Ne, hasPart_iff]; omega
  have h2 := (seg_num h ht).2.2
  rw [rt_ntz h (by omega)] at h2
  rw [← h2]
  exact num_begun h (by have := rt_le (uf_all h).1 (show 12 + p < 28 by omega); omega)
/-! breaks: ring and what is cut off -/
theorem gfor_last {α : Type} (f : Nat → α → α) (n : Nat) (x : α) : gfor f (n + 1) 0 x = f n (gfor f n 0 x) := by
  rw [gfor_split f n 1 0 x, Nat.zero_add]; rfl
theorem orloop {P : Nat → Bool} {f : Nat → Nat → Nat} : ∀ (n : Nat), (∀ v r, v < n → f v r = if P v then r ||| 1 <<< v else r) → gfor f n 0 0 = maskOf P n
  | 0, _ => rfl
  | n + 1, h => by
    rw [gfor_last, orloop n (fun v r hv => h v r (by omega)), h n _ (by omega)]
    rfl
theorem tb_closable {S : Nat → Nat → Nat} (hw : wfC S) (i : Nat) : (closable S).testBit i = (decide (i < S 1 2) && !((S 1 4).testBit i) && !((S 1 5).testBit i)) := by
  unfold closable
  have h12 := hw.2.2.1
  rw [Nat.testBit_and, Nat.testBit_and, Nat.one_shiftLeft, Nat.testBit_two_pow_sub_one]
  by_cases q : i < S 1 2
  · rw [tb_not32 (by omega), tb_not32 (by omega)]
  · simp [q]
theorem ring_eq {S T : Nat → Nat → Nat} (h : inv S T) {p : Nat} (hp : p < 16) : ringF S (regOf S p) = ringM T p := by
  have hv : S 1 2 = T 22 3 := h.2.2.1.2.2.1
  have hs : S 1 4 = T 22 10 := h.2.2.1.2.2.2.2.1
  have hk : S 1 5 = T 22 11 := h.2.2.1.2.2.2.2.2.1
  have h4 : S 4 = T 23 := h.2.2.1.2.2.2.2.2.2.2.2.1
  have h7 : S 7 = T 27 := h.2.2.1.2.2.2.2.2.2.2.2.2
  have e1 : gfor (fRing S (regOf S p)) (S 1 2) 0 0 = maskOf (fun v => (regM T p).testBit (12 + T 27 v / 2) != (regM T p).testBit (T 23 (T 27 v))) (S 1 2) := by
    refine orloop _ (fun v r _ => ?_)
    unfold fRing
    rw [gbit_tb, gbit_tb, reg_eq h hp, h7, h4]
    cases (regM T p).testBit (12 + T 27 v / 2) <;> cases (regM T p).testBit (T 23 (T 27 v)) <;> rfl
  have e2 : ringM T p = maskOf (fun v => !((T 22 10).testBit v) && !((T 22 11).testBit v) && ((regM T p).testBit (12 + T 27 v / 2) != (regM T p).testBit (T 23 (T 27 v)))) (S 1 2) := by
    unfold ringM
    rw [← hv]
    refine orloop _ (fun v r _ => ?_)
    unfold fRingM oneM othM
    have z1 := @and_bit_zero (regM T p) (12 + T 27 v / 2)
    have z2 := @and_bit_zero (regM T p) (T 23 (T 27 v))
    rw [tb_shr, Nat.testBit_or]
    simp only [z1, z2]
    cases (T 22 10).testBit v <;> cases (T 22 11).testBit v <;> cases (regM T p).testBit (12 + T 27 v / 2) <;> cases (regM T p).testBit (T 23 (T 27 v)) <;> simp
  refine Nat.eq_of_testBit_eq fun i => ?_
  rw [e2, ringF, e1, Nat.testBit_and, tb_maskOf, tb_maskOf, tb_closable h.1, ← hs, ← hk]
  cases decide (i < S 1 2) <;> cases (S 1 4).testBit i <;> cases (S 1 5).testBit i <;> simp
theorem sup_acc (T : Nat → Nat → Nat) (w : Nat) : ∀ (k j s : Nat), gfor (fSup T w) k j s = s + gfor (fSup T w) k j 0
  | 0, _, _ => rfl
  | k + 1, j, s => by
    show gfor (fSup T w) k (j + 1) (fSup T w j s) = s + gfor (fSup T w) k (j + 1) (fSup T w j 0)
    rw [sup_acc T w k (j + 1) (fSup T w j s), sup_acc T w k (j + 1) (fSup T w j 0)]
    unfold fSup; omega
theorem fSup_tb (T : Nat → Nat → Nat) (w j : Nat) : fSup T w j 0 = if w.testBit (12 + j) then T 26 j else 0 := by
  have z := @and_bit_zero w (12 + j)
  unfold fSup
  cases e : w.testBit (12 + j) <;> simp_all
theorem sup_dif (T : Nat → Nat → Nat) {w0 w1 : Nat} (hs : sub w1 w0) : ∀ (k j : Nat), j + k ≤ 16 → gfor (fSup T (w0 &&& (w1 ^^^ 4294967295))) k j 0 + gfor (fSup T w1) k j 0 = gfor (fSup T w0) k j 0
  | 0, _, _ => rfl
  | k + 1, j, hj => by
    show gfor (fSup T _) k (j + 1) (fSup T _ j 0) + gfor (fSup T w1) k (j + 1) (fSup T w1 j 0) = gfor (fSup T w0) k (j + 1) (fSup T w0 j 0)
    have ih := sup_dif T hs k (j + 1) (by omega)
    rw [sup_acc T _ k (j + 1) (fSup T (w0 &&& (w1 ^^^ 4294967295)) j 0), sup_acc T _ k (j + 1) (fSup T w1 j 0), sup_acc T _ k (j + 1) (fSup T w0 j 0)]
    have hb := hs (12 + j)
    rw [fSup_tb, fSup_tb, fSup_tb, Nat.testBit_and, tb_not32 (by omega)]
    cases e0 : w0.testBit (12 + j) <;> cases e1 : w1.testBit (12 + j)
    · simp; omega
    · rw [e0, e1] at hb; exact absurd (hb rfl) (by decide)
    · simp; omega
    · simp; omega
theorem open_mono {T : Nat → Nat → Nat} {j al : Nat} (h : openM T j 0 al ≠ 0) : openM T j 0 0 ≠ 0 := by
  unfold openM at h ⊢
  split at h
  · rename_i q; rw [if_pos q]; exact h
  · rename_i q
    rw [if_neg q]
    split at h
    · exact absurd rfl h
    · rename_i q2
      rw [and_bit1, Nat.testBit_or] at q2
      rw [if_neg (by
        rw [and_bit1, Nat.or_zero]
        intro z; rw [z] at q2; simp at q2)]
      simp
theorem wet_mono {T : Nat → Nat → Nat} (hm : wfM T) (al : Nat) : sub (wetM T al) (wetM T 0) := by
  have h4 : T 22 4 < 268435456 := Nat.lt_trans hm.2.2.2.1 (by decide)
  refine isCl_mono (fun j _ h => ?_) (sub_refl _) (spread_isCl hm 0 al h4) (spread_isCl hm 0 0 h4)
  rw [decide_eq_true_eq] at h ⊢
  exact open_mono h
theorem lost_eq {S T : Nat → Nat → Nat} (h : inv S T) {p : Nat} (hp : p < 16) : supplyM T (wetM T (ringM T p)) ≤ supplyM T (wetM T 0) ∧ lostF S (regOf S p) = supplyM T (wetM T 0) - supplyM T (wetM T (ringM T p)) := by
  have hw := h.2.1.2.1
  have e : supplyM T (wetM T 0 &&& (wetM T (ringM T p) ^^^ 4294967295)) + supplyM T (wetM T (ringM T p)) = supplyM T (wetM T 0) := sup_dif T (wet_mono h.2.1 (ringM T p)) _ 0 (by omega)
  refine ⟨by omega, ?_⟩
  unfold lostF
  rw [ring_eq h hp, wet_eq h, wet_eq h, cust_eq h]
  omega
