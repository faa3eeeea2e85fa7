/-! breaks: sets tried -/
theorem pass_new (c : Nat → Bool) (m : Nat → Nat) : ∀ (k j r : Nat), gfor (edgeF c m) k j r ≠ r → ∃ i, j ≤ i ∧ i < j + k ∧ c i = true ∧ ¬ sub (m i) r ∧ sub (m i) (gfor (edgeF c m) k j r)
  | 0, _, _, h => absurd rfl h
  | k + 1, j, r, h => by
    by_cases e : edgeF c m j r = r
    · have h' : gfor (edgeF c m) k (j + 1) r ≠ r := by
        have h : gfor (edgeF c m) k (j + 1) (edgeF c m j r) ≠ r := h
        rw [e] at h; exact h
      obtain ⟨i, h1, h2, h3, h4, h5⟩ := pass_new c m k (j + 1) r h'
      refine ⟨i, by omega, by omega, h3, h4, ?_⟩
      show sub (m i) (gfor (edgeF c m) k (j + 1) (edgeF c m j r))
      rw [e]; exact h5
    · unfold edgeF at e
      by_cases q : c j = true ∧ r &&& m j ≠ 0
      · rw [if_pos q] at e
        refine ⟨j, Nat.le_refl j, by omega, q.1, fun z => e (or_eq_of_sub z), ?_⟩
        refine sub_trans ?_ (pass_sub c m k (j + 1) _)
        unfold edgeF
        rw [if_pos q]; exact sub_or_r _ _
      · rw [if_neg q] at e; exact absurd rfl e
/-- k rounds at the most over n edges -/
def rounds (c : Nat → Bool) (m : Nat → Nat) (n : Nat) : Nat → Nat → Nat
  | 0, x => x
  | k + 1, x => if gfor (edgeF c m) n 0 x = x then gfor (edgeF c m) n 0 x else rounds c m n k (gfor (edgeF c m) n 0 x)
theorem rounds_closed (c : Nat → Bool) (m : Nat → Nat) (n : Nat) : ∀ (k x : Nat), n ≤ k + cntP (fun v => c v = true ∧ sub (m v) x) n → closedE c m n (rounds c m n k x)
  | 0, x, h => fun j hj _ _ => (cntP_all (P := fun v => c v = true ∧ sub (m v) x) n (by omega) j hj).2
  | k + 1, x, h => by
    unfold rounds
    by_cases e : gfor (edgeF c m) n 0 x = x
    · rw [if_pos e, e]; exact closed_of_fix e
    · rw [if_neg e]
      refine rounds_closed c m n k _ ?_
      obtain ⟨i, h1, h2, h3, h4, h5⟩ := pass_new c m n 0 x e
      have := cntP_lt (P := fun v => c v = true ∧ sub (m v) x) (Q := fun v => c v = true ∧ sub (m v) (gfor (edgeF c m) n 0 x)) (fun v q => ⟨q.1, sub_trans q.2 (pass_sub c m n 0 x)⟩) n i (by omega) (fun q => h4 q.2) ⟨h3, h5⟩
      omega
theorem rounds_sub (c : Nat → Bool) (m : Nat → Nat) (n : Nat) : ∀ (k x : Nat), sub x (rounds c m n k x)
  | 0, x => sub_refl x
  | k + 1, x => by
    unfold rounds; split
    · exact pass_sub _ _ _ _ _
    · exact sub_trans (pass_sub _ _ _ _ _) (rounds_sub c m n k _)
theorem rounds_in {c : Nat → Bool} {m : Nat → Nat} {n C : Nat} (hC : closedE c m n C) : ∀ (k x : Nat), sub x C → sub (rounds c m n k x) C
  | 0, _, h => h
  | k + 1, x, h => by
    have := pass_in hC n 0 x (by omega) h
    unfold rounds; split
    · exact this
    · exact rounds_in hC k _ this
theorem rounds_inv {c : Nat → Bool} {m : Nat → Nat} {n : Nat} (P : Nat → Prop) (hs : ∀ j x, j < n → P x → P (x ||| m j)) : ∀ (k x : Nat), P x → P (rounds c m n k x)
  | 0, _, h => h
  | k + 1, x, h => by
    have h1 : P (gfor (edgeF c m) n 0 x) := gfor_invK (fun _ x => P x) (edgeF c m) n 0 x (fun i y _ hi hy => by
      unfold edgeF; split
      · exact hs i y (by omega) hy
      · exact hy) h
    unfold rounds; split
    · exact h1
    · exact rounds_inv P hs k _ h1
theorem wetGo_rounds (a b : Nat → Nat) (vc op : Nat) : ∀ (k x : Nat), wetGo a b vc op k x = rounds (fun v => op.testBit v) (fun v => a v ||| b v) vc k x := by
  have e : ∀ x, wetPass a b vc op x = gfor (edgeF (fun v => op.testBit v) (fun v => a v ||| b v)) vc 0 x := fun x => gfor_ext _ _ _ (fun v r _ _ => by
    unfold wset edgeF
    rw [gbit_tb]
    cases o : op.testBit v
    · rw [if_pos (by decide), if_neg (by simp [o])]
    · rw [if_neg (by decide)]
      by_cases q : r &&& (a v ||| b v) = 0
      · rw [if_pos q, if_neg (fun z => z.2 q)]
      · rw [if_neg q, if_pos ⟨o, q⟩])
  intro k
  induction k with
  | zero => intro x; rfl
  | succ k ih =>
    intro x
    unfold wetGo rounds
    rw [e x]
    split
    · rfl
    · exact ih _
theorem regs_at (S : Nat → Nat → Nat) : ∀ v, v < S 1 2 → (regsF S).1 v = regOf S (S 7 v / 2) ∧ (regsF S).2 v = regWith S (S 4 (S 7 v)) := by
  have := gfor_invK (fun i (x : (Nat → Nat) × (Nat → Nat)) => ∀ v, v < i → x.1 v = regOf S (S 7 v / 2) ∧ x.2 v = regWith S (S 4 (S 7 v))) (fReg S) (S 1 2) 0 (S 11, S 12) (fun i y _ hi hy v hv => by
    simp only [fReg, va_up]
    by_cases e : v = i
    · subst e; simp
    · rw [if_neg e, if_neg e]; exact hy v (by omega)) (fun v hv => absurd hv (Nat.not_lt_zero v))
  intro v hv
  exact this v (by omega)
abbrev cReg (S : Nat → Nat → Nat) : Nat → Bool := fun j => decide (S 5 j &&& bounding S = 0)
theorem regs_isCl {S : Nat → Nat → Nat} (hw : wfC S) {k : Nat} (hk : k < 28) : isCl (cReg S) (S 6) (2 * S 1 1) (1 <<< k) (regWith S k) := reach_isCl hw (bounding S) (Nat.lt_of_lt_of_le (shl1 hk) (by decide))
theorem fed_isCl {S : Nat → Nat → Nat} (hw : wfC S) : isCl (cReg S) (S 6) (2 * S 1 1) (S 1 3) (fedF S) := reach_isCl hw (bounding S) (src28 hw)
theorem wet_isCl {S : Nat → Nat → Nat} (hw : wfC S) (s : Nat) : isCl (fun j => decide (S 5 j &&& (S 1 4 ||| s) = 0)) (S 6) (2 * S 1 1) (S 1 3) (wetBehind S s) := reach_isCl hw (S 1 4 ||| s) (src28 hw)
/-- region edges are wet edges where no stuck valve is in s -/
theorem reg_wet {S T : Nat → Nat → Nat} (h : inv S T) {s : Nat} (hs : sub s (closable S)) : ∀ j, j < 2 * S 1 1 → cReg S j = true → decide (S 5 j &&& (S 1 4 ||| s) = 0) = true := by
  intro j hj hc
  rcases h.2.2.2.2.1 j hj with ⟨_, q⟩ | ⟨q1, q2, _⟩
  · rw [q]; simp
  · have h12 := h.1.2.2.1
    unfold cReg at hc
    rw [q2, decide_eq_true_eq, bit_and, tb_bounding S (by omega)] at hc
    rw [q2, decide_eq_true_eq, bit_and, Nat.testBit_or]
    have hcl := hs (T 24 j)
    rw [tb_closable h.1] at hcl
    cases e1 : (S 1 4).testBit (T 24 j) <;> cases e2 : (S 1 5).testBit (T 24 j) <;> cases e3 : s.testBit (T 24 j) <;> simp_all
theorem wetO_eq {S T : Nat → Nat → Nat} (h : inv S T) {s : Nat} (hs : sub s (closable S)) : wetO S (regsF S).1 (regsF S).2 (closable S &&& (s ^^^ 4294967295)) (fedF S) = wetBehind S s := by
  have h12 := h.1.2.2.1
  have h16 := h.1.2.1
  have h4 := h.1.2.2.2.2.2.2.2.2.1
  have hX := wet_isCl h.1 s
  have hop : ∀ v, v < 12 → (closable S &&& (s ^^^ 4294967295)).testBit v = ((closable S).testBit v && !(s.testBit v)) := fun v hv => by rw [Nat.testBit_and, tb_not32 (by omega)]
  have hXr : closedE (cReg S) (S 6) (2 * S 1 1) (wetBehind S s) := fun j hj hc hm => hX.2.1 j hj (reg_wet h hs j hj hc) hm
  unfold wetO
  rw [wetGo_rounds]
  have edge : ∀ v, v < S 1 2 → (closable S &&& (s ^^^ 4294967295)).testBit v = true → S 7 v < 2 * S 1 1 ∧ decide (S 5 (S 7 v) &&& (S 1 4 ||| s) = 0) = true ∧ S 6 (S 7 v) = (1 <<< (12 + S 7 v / 2)) ||| (1 <<< S 4 (S 7 v)) := by
    intro v hv ho
    obtain ⟨v1, v2⟩ := h.2.2.2.2.2.1 v hv
    refine ⟨v1, ?_, h.2.2.2.1 _ v1⟩
    rcases h.2.2.2.2.1 (S 7 v) v1 with ⟨q, _⟩ | ⟨_, q2, _⟩
    · rw [v2] at q; omega
    · rw [v2] at q2
      rw [hop v (by omega), tb_closable h.1] at ho
      rw [q2, decide_eq_true_eq, bit_and, Nat.testBit_or]
      cases e1 : (S 1 4).testBit v <;> cases e3 : s.testBit v <;> simp_all
  have self1 : ∀ v, v < S 1 2 → ((regsF S).1 v).testBit (12 + S 7 v / 2) = true := fun v hv => by
    have := (h.2.2.2.2.2.1 v hv).1
    rw [(regs_at S v hv).1]
    exact bit_sub.mp (regs_isCl h.1 (show 12 + S 7 v / 2 < 28 by omega)).1
  have self2 : ∀ v, v < S 1 2 → ((regsF S).2 v).testBit (S 4 (S 7 v)) = true := fun v hv => by
    rw [(regs_at S v hv).2]
    exact bit_sub.mp (regs_isCl h.1 (show S 4 (S 7 v) < 28 by have := h4 (S 7 v); omega)).1
  have clos1 : ∀ v, v < S 1 2 → isCl (cReg S) (S 6) (2 * S 1 1) (1 <<< (12 + S 7 v / 2)) ((regsF S).1 v) := fun v hv => by
    have := (h.2.2.2.2.2.1 v hv).1
    rw [(regs_at S v hv).1]
    exact regs_isCl h.1 (by omega)
  have clos2 : ∀ v, v < S 1 2 → isCl (cReg S) (S 6) (2 * S 1 1) (1 <<< S 4 (S 7 v)) ((regsF S).2 v) := fun v hv => by
    rw [(regs_at S v hv).2]
    exact regs_isCl h.1 (by have := h4 (S 7 v); omega)
  refine sub_anti ?_ ?_
  · refine rounds_in (fun v hv ho hm => ?_) 12 _ ((fed_isCl h.1).2.2 _ hXr hX.1)
    obtain ⟨e1, e2, e3⟩ := edge v hv ho
    have tgt : (wetBehind S s).testBit (12 + S 7 v / 2) = true ∨ (wetBehind S s).testBit (S 4 (S 7 v)) = true := by
      obtain ⟨i, i1, i2⟩ := and_ne.mp hm
      rw [Nat.testBit_or, Bool.or_eq_true] at i2
      rcases i2 with i2 | i2
      · exact Or.inl (isCl_meet (clos1 v hv) hXr (and_ne.mpr ⟨i, i1, i2⟩) _ (self1 v hv))
      · exact Or.inr (isCl_meet (clos2 v hv) hXr (and_ne.mpr ⟨i, i1, i2⟩) _ (self2 v hv))
    have hall : sub (S 6 (S 7 v)) (wetBehind S s) := hX.2.1 _ e1 e2 (by
      rw [e3]
      rcases tgt with z | z
      · exact and_ne.mpr ⟨_, z, by rw [Nat.testBit_or, tb_bit_self]; rfl⟩
      · exact and_ne.mpr ⟨_, z, by rw [Nat.testBit_or, tb_bit_self, Bool.or_true]⟩)
    rw [e3] at hall
    refine or_sub (isCl_meet (clos1 v hv) hXr (and_ne.mpr ⟨_, hall _ ?_, self1 v hv⟩)) (isCl_meet (clos2 v hv) hXr (and_ne.mpr ⟨_, hall _ ?_, self2 v hv⟩))
    · rw [Nat.testBit_or, tb_bit_self]; rfl
    · rw [Nat.testBit_or, tb_bit_self, Bool.or_true]
  · have hW := rounds_closed (fun v => (closable S &&& (s ^^^ 4294967295)).testBit v) (fun v => (regsF S).1 v ||| (regsF S).2 v) (S 1 2) 12 (fedF S) (by omega)
    have hWr := rounds_inv (c := fun v => (closable S &&& (s ^^^ 4294967295)).testBit v) (m := fun v => (regsF S).1 v ||| (regsF S).2 v) (n := S 1 2) (fun x => closedE (cReg S) (S 6) (2 * S 1 1) x) (fun v x hv hx => closed_or hx (closed_or (clos1 v hv).2.1 (clos2 v hv).2.1)) 12 (fedF S) (fed_isCl h.1).2.1
    have hWs := rounds_sub (fun v => (closable S &&& (s ^^^ 4294967295)).testBit v) (fun v => (regsF S).1 v ||| (regsF S).2 v) (S 1 2) 12 (fedF S)
    generalize rounds (fun v => (closable S &&& (s ^^^ 4294967295)).testBit v) (fun v => (regsF S).1 v ||| (regsF S).2 v) (S 1 2) 12 (fedF S) = W at hW hWr hWs
    refine hX.2.2 W (fun j hj hc hm => ?_) (sub_trans (fed_isCl h.1).1 hWs)
    by_cases hreg : cReg S j = true
    · exact hWr j hj hreg hm
    · rcases h.2.2.2.2.1 j hj with ⟨_, q⟩ | ⟨q1, q2, q3⟩
      · exact absurd (by unfold cReg; rw [q]; simp) hreg
      · have ho : (closable S &&& (s ^^^ 4294967295)).testBit (T 24 j) = true := by
          unfold cReg at hreg
          have hc : decide (S 5 j &&& (S 1 4 ||| s) = 0) = true := hc
          rw [q2, decide_eq_true_eq, bit_and, Nat.testBit_or] at hc
          rw [q2, decide_eq_true_eq, bit_and, tb_bounding S (by omega)] at hreg
          rw [hop _ (by omega), tb_closable h.1]
          cases e1 : (S 1 4).testBit (T 24 j) <;> cases e2 : (S 1 5).testBit (T 24 j) <;> cases e3 : s.testBit (T 24 j) <;> simp_all
        have e6 := h.2.2.2.1 j hj
        have s1 := self1 _ q1
        have s2 := self2 _ q1
        rw [q3] at s1 s2
        have := hW _ q1 ho (by
          obtain ⟨i, i1, i2⟩ := and_ne.mp hm
          rw [e6, Nat.testBit_or, tb_bit, tb_bit, Bool.or_eq_true, decide_eq_true_eq, decide_eq_true_eq] at i2
          refine and_ne.mpr ⟨i, i1, ?_⟩
          rw [Nat.testBit_or, Bool.or_eq_true]
          rcases i2 with i2 | i2
          · exact Or.inl (by rw [← i2]; exact s1)
          · exact Or.inr (by rw [← i2]; exact s2))
        rw [e6]
        refine or_sub (bit_sub.mpr (this _ ?_)) (bit_sub.mpr (this _ ?_))
        · rw [Nat.testBit_or, s1]; rfl
        · rw [Nat.testBit_or, s2, Bool.or_true]
/-! breaks: the order of the sets -/
theorem bc_pop_a : ∀ a b : Fin 64, bc (64 * a.val + b.val) = popM (64 * a.val + b.val) := by decide +kernel
theorem bc_pop {a : Nat} (h : a < 4096) : bc a = popM a := by
  have := bc_pop_a ⟨a / 64, by omega⟩ ⟨a % 64, by omega⟩
  rwa [show 64 * (⟨a / 64, by omega⟩ : Fin 64).val + (⟨a % 64, by omega⟩ : Fin 64).val = a from by show 64 * (a / 64) + a % 64 = a; omega] at this
def lss (a b : Nat) : Prop := popM a < popM b ∨ (popM a = popM b ∧ a < b)
def lssB (a b : Nat) : Bool := decide (bc a < bc b) || (decide (bc a = bc b) && decide (a < b))
def ordChk (lim : Nat) : Nat → Nat → Bool
  | 0, _ => true
  | k + 1, s => (decide (k = 0) || lssB s (nextF s lim)) && ordChk lim k (nextF s lim)
def bmp (lim : Nat) : Nat → Nat → Nat → Nat
  | 0, _, acc => acc
  | k + 1, s, acc => bmp lim k (nextF s lim) (acc ||| 1 <<< s)
theorem ordChk_all : ∀ n : Fin 13, ordChk (2 ^ n.val) (2 ^ n.val) 0 = true := by decide +kernel
theorem bmp_all : ∀ n : Fin 13, bmp (2 ^ n.val) (2 ^ n.val) 0 0 = 2 ^ (2 ^ n.val) - 1 := by decide +kernel
theorem bmp_tb (lim : Nat) : ∀ (k s acc x : Nat), (bmp lim k s acc).testBit x = true → acc.testBit x = true ∨ ∃ t, t < k ∧ setGo lim t s = x
  | 0, _, _, _, h => Or.inl h
  | k + 1, s, acc, x, h => by
    rcases bmp_tb lim k (nextF s lim) (acc ||| 1 <<< s) x h with q | ⟨t, h1, h2⟩
    · rw [Nat.testBit_or, tb_bit, Bool.or_eq_true, decide_eq_true_eq] at q
      rcases q with q | q
      · exact Or.inl q
      · exact Or.inr ⟨0, by omega, q⟩
    · exact Or.inr ⟨t + 1, by omega, h2⟩
theorem set_cover {n x : Nat} (hn : n ≤ 12) (hx : x < 2 ^ n) : ∃ t, t < 2 ^ n ∧ setGo (2 ^ n) t 0 = x := by
  have h := bmp_all ⟨n, by omega⟩
  have h2 : (bmp (2 ^ n) (2 ^ n) 0 0).testBit x = true := by
    have h : bmp (2 ^ n) (2 ^ n) 0 0 = 2 ^ (2 ^ n) - 1 := h
    rw [h, Nat.testBit_two_pow_sub_one]; simp [hx]
  rcases bmp_tb _ _ _ _ _ h2 with q | q
  · simp at q
  · exact q
theorem ord_step {lim : Nat} : ∀ (k s : Nat), ordChk lim k s = true → ∀ t, t + 1 < k → lssB (setGo lim t s) (setGo lim (t + 1) s) = true
  | 0, _, _, t, h => absurd h (Nat.not_lt_zero _)
  | k + 1, s, h, 0, ht => by
    unfold ordChk at h
    rw [Bool.and_eq_true, Bool.or_eq_true, decide_eq_true_eq] at h
    rcases h.1 with q | q
    · omega
    · exact q
  | k + 1, s, h, t + 1, ht => by
    unfold ordChk at h
    rw [Bool.and_eq_true] at h
    exact ord_step k (nextF s lim) h.2 t (by omega)
theorem set_ord {n : Nat} (hn : n ≤ 12) : ∀ (t' t : Nat), t < t' → t' < 2 ^ n → lss (setGo (2 ^ n) t 0) (setGo (2 ^ n) t' 0)
  | 0, _, h, _ => absurd h (Nat.not_lt_zero _)
  | t' + 1, t, h, h2 => by
    have h12 : (2:Nat) ^ n ≤ 2 ^ 12 := Nat.pow_le_pow_right (by decide) hn
    have l := fun u (hu : u < 2 ^ n) => setChk_lt (lim := 2 ^ n) (2 ^ n) 0 (setChk_all ⟨n, by omega⟩) u hu
    have st : lssB (setGo (2 ^ n) t' 0) (setGo (2 ^ n) (t' + 1) 0) = true := ord_step (2 ^ n) 0 (ordChk_all ⟨n, by omega⟩) t' h2
    have l1 := l t' (by omega)
    have l2 := l (t' + 1) h2
    have e : (2:Nat) ^ 12 = 4096 := rfl
    unfold lssB at st
    rw [bc_pop (by omega), bc_pop (by omega), Bool.or_eq_true, Bool.and_eq_true, decide_eq_true_eq, decide_eq_true_eq, decide_eq_true_eq] at st
    by_cases q : t = t'
    · subst q; exact st
    · have := set_ord hn t' t (by omega) (by omega)
      unfold lss at *; omega
/-- what the reference takes: allowed, and it lets no water to the pipe -/
def valid (T : Nat → Nat → Nat) (p s : Nat) : Prop := s &&& (T 22 10 ||| T 22 11) = 0 ∧ wetM T s &&& (1 <<< (12 + p)) = 0
theorem least_spec (T : Nat → Nat → Nat) (p : Nat) : ∀ n, n < 4294967295 → (gfor (fLeast T p) n 0 4294967295 = 4294967295 ∧ ∀ s, s < n → ¬ valid T p s) ∨ (gfor (fLeast T p) n 0 4294967295 < n ∧ valid T p (gfor (fLeast T p) n 0 4294967295) ∧ ∀ s, s < n → valid T p s → s = gfor (fLeast T p) n 0 4294967295 ∨ lss (gfor (fLeast T p) n 0 4294967295) s)
  | 0, _ => Or.inl ⟨rfl, fun s h => absurd h (Nat.not_lt_zero s)⟩
  | n + 1, hn => by
    have ih := least_spec T p n (by omega)
    rw [gfor_last]
    generalize gfor (fLeast T p) n 0 4294967295 = best at ih
    have keep : ¬ valid T p n → fLeast T p n best = best := by
      intro hv
      unfold fLeast
      unfold valid at hv
      by_cases c1 : n &&& (T 22 10 ||| T 22 11) = 0
      · have c2 : ¬ wetM T n &&& (1 <<< (12 + p)) = 0 := fun z => hv ⟨c1, z⟩
        rw [if_pos c1, if_neg c2]
        split
        · rfl
        · split <;> rfl
      · rw [if_neg c1]
    by_cases hv : valid T p n
    · rcases ih with ⟨rfl, h2⟩ | ⟨h1, h2, h3⟩
      · have e : fLeast T p n 4294967295 = n := by unfold fLeast; rw [if_pos hv.1, if_pos rfl, if_pos hv.2]
        rw [e]
        refine Or.inr ⟨by omega, hv, fun s hs hvs => ?_⟩
        by_cases q : s = n
        · exact Or.inl q
        · exact absurd hvs (h2 s (by omega))
      · have hne : best ≠ 4294967295 := by omega
        by_cases c : popM n < popM best
        · have e : fLeast T p n best = n := by unfold fLeast; rw [if_pos hv.1, if_neg hne, if_pos c, if_pos hv.2]
          rw [e]
          refine Or.inr ⟨by omega, hv, fun s hs hvs => ?_⟩
          by_cases q : s = n
          · exact Or.inl q
          · right
            rcases h3 s (by omega) hvs with z | z
            · subst z; exact Or.inl c
            · unfold lss at z ⊢; omega
        · have e : fLeast T p n best = best := by unfold fLeast; rw [if_pos hv.1, if_neg hne, if_neg c]
          rw [e]
          refine Or.inr ⟨by omega, h2, fun s hs hvs => ?_⟩
          by_cases q : s = n
          · subst q; right; unfold lss; omega
          · exact h3 s (by omega) hvs
    · rw [keep hv]
      rcases ih with ⟨rfl, h2⟩ | ⟨h1, h2, h3⟩
      · refine Or.inl ⟨rfl, fun s hs hvs => ?_⟩
        by_cases q : s = n
        · subst q; exact hv hvs
        · exact h2 s (by omega) hvs
      · refine Or.inr ⟨by omega, h2, fun s hs hvs => ?_⟩
        by_cases q : s = n
        · subst q; exact absurd hvs hv
        · exact h3 s (by omega) hvs
theorem sub_closable {S T : Nat → Nat → Nat} (h : inv S T) {s : Nat} (hs : s < 1 <<< S 1 2) : sub s (closable S) ↔ s &&& (T 22 10 ||| T 22 11) = 0 := by
  have e4 : S 1 4 = T 22 10 := h.2.2.1.2.2.2.2.1
  have e5 : S 1 5 = T 22 11 := h.2.2.1.2.2.2.2.2.1
  rw [Nat.one_shiftLeft] at hs
  constructor
  · intro q
    refine and_zero_of fun i h1 h2 => ?_
    have := q i h1
    rw [tb_closable h.1, e4, e5] at this
    rw [Nat.testBit_or] at h2
    cases z1 : (T 22 10).testBit i <;> cases z2 : (T 22 11).testBit i <;> simp_all
  · intro q i hi
    have hv := lt_of_tb hs hi
    rw [tb_closable h.1, e4, e5]
    have h2 : (T 22 10 ||| T 22 11).testBit i = false := by
      cases z : (T 22 10 ||| T 22 11).testBit i with
      | false => rfl
      | true => exact absurd q (and_ne.mpr ⟨i, hi, z⟩)
    rw [Nat.testBit_or] at h2
    cases z1 : (T 22 10).testBit i <;> cases z2 : (T 22 11).testBit i <;> simp_all
theorem sub_mask {S T : Nat → Nat → Nat} (h : inv S T) {s : Nat} (hs : s < 1 <<< S 1 2) : s &&& (closable S ^^^ 4294967295) = 0 ↔ sub s (closable S) := by
  have h12 := h.1.2.2.1
  rw [Nat.one_shiftLeft] at hs
  constructor
  · intro q i hi
    have hv := lt_of_tb hs hi
    cases z : (closable S).testBit i with
    | true => rfl
    | false => exact absurd q (and_ne.mpr ⟨i, hi, by rw [tb_not32 (by omega), z]; rfl⟩)
  · intro q
    refine and_zero_of fun i h1 h2 => ?_
    have hv := lt_of_tb hs h1
    rw [tb_not32 (by omega), q i h1] at h2
    cases h2
/-- a pipe's region is wet if the pipe is -/
theorem region_wet {S T : Nat → Nat → Nat} (h : inv S T) {p s : Nat} (hp : p < S 1 1) (hs : sub s (closable S)) : wetBehind S s &&& regOf S p = 0 ↔ wetM T s &&& (1 <<< (12 + p)) = 0 := by
  have h16 := h.1.2.1
  have hX := wet_isCl h.1 s
  have hXr : closedE (cReg S) (S 6) (2 * S 1 1) (wetBehind S s) := fun j hj hc hm => hX.2.1 j hj (reg_wet h hs j hj hc) hm
  have hR := regs_isCl h.1 (show 12 + p < 28 by omega)
  have hself := bit_sub.mp hR.1
  rw [and_bit_zero, ← wet_eq h]
  constructor
  · intro q
    cases z : (wetBehind S s).testBit (12 + p) with
    | false => rfl
    | true => exact absurd q (and_ne.mpr ⟨12 + p, z, hself⟩)
  · intro q
    refine Classical.byContradiction fun z => ?_
    have := isCl_meet hR hXr z (12 + p) hself
    rw [q] at this; cases this
theorem fed_none {S T : Nat → Nat → Nat} (h : inv S T) {p s : Nat} (hp : p < S 1 1) (hf : fedF S &&& regOf S p ≠ 0) (hs : s < 1 <<< S 1 2) : ¬ valid T p s := by
  intro hv
  have hc := (sub_closable h hs).mpr hv.1
  have := (region_wet h hp hc).mpr hv.2
  have hX := wet_isCl h.1 s
  have hXr : closedE (cReg S) (S 6) (2 * S 1 1) (wetBehind S s) := fun j hj hc2 hm => hX.2.1 j hj (reg_wet h hc j hj hc2) hm
  exact sub_and_ne ((fed_isCl h.1).2.2 _ hXr hX.1) hf this
theorem try_go {S T : Nat → Nat → Nat} (h : inv S T) {p : Nat} (hp : p < S 1 1) : ∀ (k s : Nat), (∀ t, t < k → setGo (1 <<< S 1 2) t s < 1 <<< S 1 2) →
    (∃ t, t < k ∧ valid T p (setGo (1 <<< S 1 2) t s) ∧ (∀ u, u < t → ¬ valid T p (setGo (1 <<< S 1 2) u s)) ∧ tryGo S (regsF S).1 (regsF S).2 (closable S) (fedF S) (regOf S p) (1 <<< S 1 2) k s = setGo (1 <<< S 1 2) t s) ∨
    ((∀ u, u < k → ¬ valid T p (setGo (1 <<< S 1 2) u s)) ∧ tryGo S (regsF S).1 (regsF S).2 (closable S) (fedF S) (regOf S p) (1 <<< S 1 2) k s = 4294967295)
  | 0, _, _ => Or.inr ⟨fun u hu => absurd hu (Nat.not_lt_zero u), rfl⟩
  | k + 1, s, hlt => by
    have hs := hlt 0 (by omega)
    have hs : s < 1 <<< S 1 2 := hs
    have ih := try_go h hp k (nextF s (1 <<< S 1 2)) (fun t ht => hlt (t + 1) (by omega))
    have nx : ¬ valid T p s → tryGo S (regsF S).1 (regsF S).2 (closable S) (fedF S) (regOf S p) (1 <<< S 1 2) (k + 1) s = tryGo S (regsF S).1 (regsF S).2 (closable S) (fedF S) (regOf S p) (1 <<< S 1 2) k (nextF s (1 <<< S 1 2)) := by
      intro hv
      rw [tryGo]
      by_cases c1 : s &&& (closable S ^^^ 4294967295) = 0
      · have hc := (sub_mask h hs).mp c1
        rw [if_pos c1, wetO_eq h hc, if_neg (fun z => hv ⟨(sub_closable h hs).mp hc, (region_wet h hp hc).mp z⟩)]
      · rw [if_neg c1]
    by_cases hv : valid T p s
    · refine Or.inl ⟨0, by omega, hv, fun u hu => absurd hu (Nat.not_lt_zero u), ?_⟩
      have hc := (sub_closable h hs).mpr hv.1
      rw [tryGo, if_pos ((sub_mask h hs).mpr hc), wetO_eq h hc, if_pos ((region_wet h hp hc).mpr hv.2)]
      rfl
    · rw [nx hv]
      rcases ih with ⟨t, h1, h2, h3, h4⟩ | ⟨h1, h2⟩
      · refine Or.inl ⟨t + 1, by omega, h2, fun u hu => ?_, h4⟩
        cases u with
        | zero => exact hv
        | succ u => exact h3 u (by omega)
      · refine Or.inr ⟨fun u hu => ?_, h2⟩
        cases u with
        | zero => exact hv
        | succ u => exact h1 u (by omega)
theorem try_eq {S T : Nat → Nat → Nat} (h : inv S T) {p : Nat} (hp : p < S 1 1) : tryF S p = leastM T p := by
  have h12 := h.1.2.2.1
  have ev : S 1 2 = T 22 3 := h.2.2.1.2.2.1
  have hl12 : 1 <<< S 1 2 ≤ 4096 := shl1_le (n := 12) h12
  have L := least_spec T p (1 <<< S 1 2) (by omega)
  unfold tryF leastM
  rw [← ev]
  by_cases hf : fedF S &&& regOf S p = 0
  · rw [if_pos hf]
    have hlt : ∀ t, t < 1 <<< S 1 2 → setGo (1 <<< S 1 2) t 0 < 1 <<< S 1 2 := fun t ht => setAt_lt h12 ht
    have cov : ∀ x, x < 1 <<< S 1 2 → ∃ t, t < 1 <<< S 1 2 ∧ setGo (1 <<< S 1 2) t 0 = x := fun x hx => by
      rw [Nat.one_shiftLeft] at hx ⊢
      exact set_cover h12 hx
    rcases try_go h hp (1 <<< S 1 2) 0 hlt with ⟨t, h1, h2, h3, h4⟩ | ⟨h1, h2⟩
    · rw [h4]
      rcases L with ⟨l1, l2⟩ | ⟨l1, l2, l3⟩
      · exact absurd h2 (l2 _ (hlt t h1))
      · generalize gfor (fLeast T p) (1 <<< S 1 2) 0 4294967295 = best at l1 l2 l3 ⊢
        obtain ⟨u, hu, hub⟩ := cov best l1
        have htu : t ≤ u := Nat.le_of_not_lt fun z => h3 u z (by rw [hub]; exact l2)
        rcases l3 _ (hlt t h1) h2 with q | q
        · exact q
        · by_cases e : t = u
          · subst e; exact hub
          · have o : lss (setGo (1 <<< S 1 2) t 0) (setGo (1 <<< S 1 2) u 0) := by
              have : u < 2 ^ S 1 2 := by rw [← Nat.one_shiftLeft]; exact hu
              have := set_ord h12 u t (by omega) this
              rw [Nat.one_shiftLeft]; exact this
            rw [hub] at o
            unfold lss at o q; omega
    · rw [h2]
      rcases L with ⟨l1, l2⟩ | ⟨l1, l2, l3⟩
      · exact l1.symm
      · obtain ⟨u, hu, hub⟩ := cov _ l1
        exact absurd (by rw [hub]; exact l2) (h1 u hu)
  · rw [if_neg hf]
    rcases L with ⟨l1, l2⟩ | ⟨l1, l2, l3⟩
    · exact l1.symm
    · exact absurd l2 (fed_none h hp hf l1)
/-! breaks: ways of water, and the least cut -/
def wOK (w : Nat → Nat) (v : Nat) : Prop := w v = 0 ∨ w v = 1 ∨ w v = 4294967295
def wi (x : Nat) : Int := if x = 0 then 0 else if x = 1 then 1 else -1
noncomputable def ins (X r : Nat) : Int := @ite Int (sub r X) (Classical.propDecidable (sub r X)) 1 0
noncomputable def net (A B : Nat → Nat) (X : Nat) (w : Nat → Nat) : Nat → Int
  | 0 => 0
  | n + 1 => net A B X w n + wi (w n) * (ins X (A n) - ins X (B n))
theorem net_up (A B : Nat → Nat) (X : Nat) (w : Nat → Nat) (v x : Nat) : ∀ n, net A B X (va_up w v x) n = net A B X w n + if v < n then (wi x - wi (w v)) * (ins X (A v) - ins X (B v)) else 0
  | 0 => by simp [net]
  | n + 1 => by
    unfold net
    rw [net_up A B X w v x n]
    by_cases e : v = n
    · subst e
      rw [va_up_self, if_neg (Nat.lt_irrefl v), if_pos (Nat.lt_succ_self v), Int.sub_mul]
      omega
    · rw [va_up_ne _ _ (fun z => e z.symm)]
      by_cases q : v < n
      · rw [if_pos q, if_pos (by omega)]; omega
      · rw [if_neg q, if_neg (by omega)]; omega
theorem wi_add {x d : Nat} (hx : x = 0 ∨ x = 1 ∨ x = 4294967295) (hd : d = 1 ∨ d = 4294967295) (hne : x ≠ d) : wi ((x + d) % 4294967296) = wi x + wi d ∧ ((x + d) % 4294967296 = 0 ∨ (x + d) % 4294967296 = 1 ∨ (x + d) % 4294967296 = 4294967295) := by
  rcases hx with rfl | rfl | rfl <;> rcases hd with rfl | rfl <;> first | exact absurd rfl hne | (constructor <;> decide)
/-- the region that a crossing enters, and the one that it leaves -/
def ent (A B di cr : Nat → Nat) (i : Nat) : Nat := if di (cr i) = 1 then B (cr i) else A (cr i)
def lea (A B di cr : Nat → Nat) (i : Nat) : Nat := if di (cr i) = 1 then A (cr i) else B (cr i)
def rc (A B di cr : Nat → Nat) (f : Nat) : Nat → Nat
  | 0 => f
  | i + 1 => rc A B di cr f i ||| ent A B di cr i
theorem rc_congr {A B di cr di' cr' : Nat → Nat} {f : Nat} : ∀ n, (∀ i, i < n → cr i = cr' i ∧ di (cr i) = di' (cr i)) → rc A B di cr f n = rc A B di' cr' f n
  | 0, _ => rfl
  | n + 1, h => by
    have q := h n (by omega)
    unfold rc ent
    rw [rc_congr n (fun i hi => h i (by omega)), ← q.1, q.2]
/-- the log of a search over w0 -/
def slog (n : Nat) (A B w0 di cr : Nat → Nat) (ok : Nat → Prop) (f m : Nat) : Prop :=
  (∀ i, i < m → cr i < n ∧ ok (cr i) ∧ (di (cr i) = 1 ∨ di (cr i) = 4294967295) ∧ w0 (cr i) ≠ di (cr i) ∧ sub (lea A B di cr i) (rc A B di cr f i)) ∧ ∀ i j, i < m → j < m → cr i = cr j → i = j
theorem keep_spec {n : Nat} {A B w0 di cr : Nat → Nat} {ok : Nat → Prop} {f m : Nat} (Rg : Nat → Prop) (hA : ∀ v, v < n → Rg (A v)) (hB : ∀ v, v < n → Rg (B v)) (hdis : ∀ x y, Rg x → Rg y → x ≠ y → x &&& y = 0)
    (hw : ∀ v, v < n → wOK w0 v) (hn0 : ∀ v, v < n → ¬ ok v → w0 v = 0) (hL : slog n A B w0 di cr ok f m) : ∀ (i : Nat) (x : Nat × (Nat → Nat)), i ≤ m → Rg x.1 → sub x.1 (rc A B di cr f i) → (∀ j, j < i → x.2 (cr j) = w0 (cr j)) → (∀ v, v < n → wOK x.2 v) → (∀ v, v < n → ¬ ok v → x.2 v = 0) →
    Rg (keepGo A B di cr i x).1 ∧ sub (keepGo A B di cr i x).1 f ∧ (∀ v, v < n → wOK (keepGo A B di cr i x).2 v) ∧ (∀ v, v < n → ¬ ok v → (keepGo A B di cr i x).2 v = 0) ∧ ∀ X, net A B X (keepGo A B di cr i x).2 n + ins X x.1 = net A B X x.2 n + ins X (keepGo A B di cr i x).1
  | 0, x, _, hx, hs, _, hk, hz => ⟨hx, hs, hk, hz, fun X => rfl⟩
  | i + 1, x, hi, hx, hs, hu, hk, hz => by
    obtain ⟨l1, l2, l3, l4, l5⟩ := hL.1 i (by omega)
    have hv := hk (cr i) l1
    have hw0 : x.2 (cr i) = w0 (cr i) := hu i (by omega)
    have hent : Rg (ent A B di cr i) := by
      unfold ent; split
      · exact hB _ l1
      · exact hA _ l1
    have hlea : Rg (lea A B di cr i) := by
      unfold lea; split
      · exact hA _ l1
      · exact hB _ l1
    have hf : fKeep A B di cr i x = if ent A B di cr i = x.1 then (lea A B di cr i, va_up x.2 (cr i) ((x.2 (cr i) + di (cr i)) % 4294967296)) else x := by
      unfold fKeep ent lea
      rcases l3 with q | q <;> rw [q] <;> simp
    show Rg (keepGo A B di cr i (fKeep A B di cr i x)).1 ∧ _
    rw [show keepGo A B di cr (i + 1) x = keepGo A B di cr i (fKeep A B di cr i x) from rfl, hf]
    by_cases c : ent A B di cr i = x.1
    · rw [if_pos c]
      have ha := wi_add hv l3 (by rw [hw0]; exact l4)
      have ih := keep_spec Rg hA hB hdis hw hn0 hL i (lea A B di cr i, va_up x.2 (cr i) ((x.2 (cr i) + di (cr i)) % 4294967296)) (by omega) hlea l5 (fun j hj => by
          show va_up x.2 (cr i) _ (cr j) = _
          rw [va_up_ne _ _ (fun z => by have := hL.2 j i (by omega) (by omega) z; omega)]
          exact hu j (by omega)) (fun v hvn => by
          show wOK (va_up x.2 (cr i) _) v
          unfold wOK
          simp only [va_up]
          split
          · exact ha.2
          · exact hk v hvn) (fun v hvn hok => by
          show va_up x.2 (cr i) _ v = 0
          rw [va_up_ne _ _ (fun z => hok (by rw [z]; exact l2))]
          exact hz v hvn hok)
      obtain ⟨i1, i2, i3, i4, i5⟩ := ih
      refine ⟨i1, i2, i3, i4, fun X => ?_⟩
      have h5 := i5 X
      have hn := net_up A B X x.2 (cr i) ((x.2 (cr i) + di (cr i)) % 4294967296) n
      rw [if_pos l1, ha.1, show wi (x.2 (cr i)) + wi (di (cr i)) - wi (x.2 (cr i)) = wi (di (cr i)) by omega] at hn
      have h5 : net A B X (keepGo A B di cr i (lea A B di cr i, va_up x.2 (cr i) ((x.2 (cr i) + di (cr i)) % 4294967296))).2 n + ins X (lea A B di cr i) = net A B X (va_up x.2 (cr i) ((x.2 (cr i) + di (cr i)) % 4294967296)) n + ins X (keepGo A B di cr i (lea A B di cr i, va_up x.2 (cr i) ((x.2 (cr i) + di (cr i)) % 4294967296))).1 := h5
      rw [hn] at h5
      rw [← c]
      rcases l3 with q | q
      · have e1 : ent A B di cr i = B (cr i) := by unfold ent; rw [if_pos q]
        have e2 : lea A B di cr i = A (cr i) := by unfold lea; rw [if_pos q]
        rw [q, show wi 1 = 1 from rfl, Int.one_mul] at h5
        rw [e1]; rw [e2] at h5 ⊢
        rw [q]
        omega
      · have e1 : ent A B di cr i = A (cr i) := by unfold ent; rw [if_neg (by rw [q]; decide)]
        have e2 : lea A B di cr i = B (cr i) := by unfold lea; rw [if_neg (by rw [q]; decide)]
        rw [q, show wi 4294967295 = -1 from rfl, Int.neg_one_mul] at h5
        rw [e1]; rw [e2] at h5 ⊢
        rw [q]
        omega
    · rw [if_neg c]
      refine keep_spec Rg hA hB hdis hw hn0 hL i x (by omega) hx (fun k hk2 => ?_) (fun j hj => hu j (by omega)) hk hz
      have := hs k hk2
      unfold rc at this
      rw [Nat.testBit_or, Bool.or_eq_true] at this
      rcases this with z | z
      · exact z
      · exact absurd (hdis _ _ hent hx c) (and_ne.mpr ⟨k, z, hk2⟩)
/-! breaks: the search for a way -/
theorem dir_ne {U : Nat → Nat → Nat} {A B w : Nat → Nat} {v r : Nat} (h : dirAc U A B w v r ≠ 0) : (closable U).testBit v = true ∧ ((r &&& A v ≠ 0 ∧ r &&& B v = 0 ∧ dirAc U A B w v r = 1 ∧ w v ≠ 1) ∨ (r &&& A v = 0 ∧ r &&& B v ≠ 0 ∧ dirAc U A B w v r = 4294967295 ∧ w v ≠ 4294967295)) := by
  unfold dirAc dirD at h ⊢
  rw [gbit_tb] at h ⊢
  by_cases a : r &&& A v = 0 <;> by_cases b : r &&& B v = 0 <;> cases c : (closable U).testBit v <;> simp [a, b, c] at h ⊢
  · exact h
  · exact h
abbrev srT : Type := Nat × Nat × (Nat → Nat) × (Nat → Nat)
def sQ (U : Nat → Nat → Nat) (Cl : Nat → Prop) (f : Nat) (x : srT) : Prop :=
  Cl x.1 ∧ slog (U 1 2) (U 11) (U 12) (U 13) x.2.2.2 x.2.2.1 (fun v => (closable U).testBit v = true) f x.2.1 ∧ x.1 = rc (U 11) (U 12) x.2.2.2 x.2.2.1 f x.2.1 ∧
  x.2.1 ≤ cntP (fun v => sub (U 11 v ||| U 12 v) x.1) (U 1 2) ∧ ∀ i, i < x.2.1 → sub (U 11 (x.2.2.1 i) ||| U 12 (x.2.2.1 i)) x.1
def sOK (U : Nat → Nat → Nat) (Cl : Nat → Prop) : Prop := U 1 2 ≤ 12 ∧ (∀ r v, v < U 1 2 → Cl r → Cl (r ||| (U 11 v ||| U 12 v))) ∧ (∀ r v, v < U 1 2 → Cl r → (r &&& U 11 v ≠ 0 → sub (U 11 v) r) ∧ (r &&& U 12 v ≠ 0 → sub (U 12 v) r)) ∧ ∀ v, v < U 1 2 → U 11 v ≠ 0 ∧ U 12 v ≠ 0
theorem self_and {x r : Nat} (h : sub x r) (hx : x ≠ 0) : r &&& x ≠ 0 := by
  have : x &&& x ≠ 0 := by rw [Nat.and_self]; exact hx
  exact sub_and_ne h this
theorem unsat {U : Nat → Nat → Nat} {Cl : Nat → Prop} (hO : sOK U Cl) {v r : Nat} (hv : v < U 1 2) (h : dirAc U (U 11) (U 12) (U 13) v r ≠ 0) : ¬ sub (U 11 v ||| U 12 v) r := by
  intro q
  obtain ⟨n1, n2⟩ := hO.2.2.2 v hv
  have q1 := self_and (sub_trans (sub_or_l _ _) q) n1
  have q2 := self_and (sub_trans (sub_or_r _ _) q) n2
  rcases (dir_ne h).2 with ⟨_, z, _⟩ | ⟨z, _⟩
  · exact q2 z
  · exact q1 z
theorem sQ_lt {U : Nat → Nat → Nat} {Cl : Nat → Prop} (hO : sOK U Cl) {f v : Nat} {x : srT} (hv : v < U 1 2) (hQ : sQ U Cl f x) (h : dirAc U (U 11) (U 12) (U 13) v x.1 ≠ 0) : x.2.1 < U 1 2 := by
  have h1 := hQ.2.2.2.1
  refine Nat.lt_of_not_le fun q => ?_
  exact unsat hO hv h (cntP_all (P := fun v => sub (U 11 v ||| U 12 v) x.1) (U 1 2) (by omega) v hv)
theorem fAdd_eq {U : Nat → Nat → Nat} {Cl : Nat → Prop} (hO : sOK U Cl) {f v : Nat} {x : srT} (hv : v < U 1 2) (hQ : sQ U Cl f x) (h : dirAc U (U 11) (U 12) (U 13) v x.1 ≠ 0) :
    fAdd U v x = (x.1 ||| (U 11 v ||| U 12 v), x.2.1 + 1, va_up x.2.2.1 x.2.1 v, va_up x.2.2.2 v (dirAc U (U 11) (U 12) (U 13) v x.1)) := by
  unfold fAdd
  have := sQ_lt hO hv hQ h
  have := hO.1
  rw [if_neg h, if_neg (by omega)]
theorem sQ_step {U : Nat → Nat → Nat} {Cl : Nat → Prop} (hO : sOK U Cl) {f v : Nat} {x : srT} (hv : v < U 1 2) (hQ : sQ U Cl f x) : sQ U Cl f (fAdd U v x) := by
  by_cases h : dirAc U (U 11) (U 12) (U 13) v x.1 = 0
  · unfold fAdd; rw [if_pos h]; exact hQ
  · have hu := unsat hO hv h
    rw [fAdd_eq hO hv hQ h]
    obtain ⟨q1, q2, q3, q4, q5⟩ := hQ
    obtain ⟨d1, d2⟩ := dir_ne h
    obtain ⟨r, m, cr, di⟩ := x
    simp only at q1 q2 q3 q4 q5 d1 d2 h hu
    generalize hd : dirAc U (U 11) (U 12) (U 13) v r = d at h d2
    have hnew : ∀ i, i < m → cr i ≠ v := fun i hi z => hu (by rw [← z]; exact q5 i hi)
    have e1 : ∀ i, i < m → va_up cr m v i = cr i := fun i hi => va_up_ne _ _ (by omega)
    have e2 : ∀ i, i < m → va_up di v d (va_up cr m v i) = di (cr i) := fun i hi => by rw [e1 i hi, va_up_ne _ _ (hnew i hi)]
    have e3 : va_up cr m v m = v := va_up_self _ _ _
    have e4 : ∀ i, i ≤ m → rc (U 11) (U 12) (va_up di v d) (va_up cr m v) f i = rc (U 11) (U 12) di cr f i := fun i hi => rc_congr i (fun j hj => ⟨e1 j (by omega), (e2 j (by omega)).trans (by rw [e1 j (by omega)])⟩)
    have e5 : va_up di v d v = d := va_up_self _ _ _
    have hdd : d = 1 ∨ d = 4294967295 := d2.elim (fun z => Or.inl z.2.2.1) (fun z => Or.inr z.2.2.1)
    have hwd : U 13 v ≠ d := by
      rcases d2 with z | z
      · rw [z.2.2.1]; exact z.2.2.2
      · rw [z.2.2.1]; exact z.2.2.2
    have hl : sub (if d = 1 then U 11 v else U 12 v) r := by
      rcases d2 with z | z
      · rw [if_pos z.2.2.1]; exact (hO.2.2.1 r v hv q1).1 z.1
      · rw [if_neg (by rw [z.2.2.1]; decide)]; exact (hO.2.2.1 r v hv q1).2 z.2.1
    refine ⟨hO.2.1 r v hv q1, ⟨fun i hi => ?_, fun i j hi hj hij => ?_⟩, ?_, ?_, fun i hi => ?_⟩
    · have hi : i < m + 1 := hi
      by_cases c : i = m
      · subst c
        show va_up cr i v i < U 1 2 ∧ (closable U).testBit (va_up cr i v i) = true ∧ (va_up di v d (va_up cr i v i) = 1 ∨ va_up di v d (va_up cr i v i) = 4294967295) ∧ U 13 (va_up cr i v i) ≠ va_up di v d (va_up cr i v i) ∧ sub (if va_up di v d (va_up cr i v i) = 1 then U 11 (va_up cr i v i) else U 12 (va_up cr i v i)) (rc (U 11) (U 12) (va_up di v d) (va_up cr i v) f i)
        rw [e3, e5, e4 i (Nat.le_refl i), ← q3]
        exact ⟨hv, d1, hdd, hwd, hl⟩
      · have := q2.1 i (by omega)
        unfold lea at this
        show va_up cr m v i < U 1 2 ∧ (closable U).testBit (va_up cr m v i) = true ∧ (va_up di v d (va_up cr m v i) = 1 ∨ va_up di v d (va_up cr m v i) = 4294967295) ∧ U 13 (va_up cr m v i) ≠ va_up di v d (va_up cr m v i) ∧ sub (if va_up di v d (va_up cr m v i) = 1 then U 11 (va_up cr m v i) else U 12 (va_up cr m v i)) (rc (U 11) (U 12) (va_up di v d) (va_up cr m v) f i)
        rw [e2 i (by omega), e1 i (by omega), e4 i (by omega)]
        exact this
    · have hi : i < m + 1 := hi
      have hj : j < m + 1 := hj
      have hij : va_up cr m v i = va_up cr m v j := hij
      by_cases c : i = m <;> by_cases c2 : j = m
      · omega
      · subst c
        rw [e3, e1 j (by omega)] at hij
        exact absurd hij.symm (hnew j (by omega))
      · subst c2
        rw [e3, e1 i (by omega)] at hij
        exact absurd hij (hnew i (by omega))
      · rw [e1 i (by omega), e1 j (by omega)] at hij
        exact q2.2 i j (by omega) (by omega) hij
    · show r ||| (U 11 v ||| U 12 v) = rc (U 11) (U 12) (va_up di v d) (va_up cr m v) f m ||| ent (U 11) (U 12) (va_up di v d) (va_up cr m v) m
      unfold ent
      rw [e4 m (Nat.le_refl m), ← q3, e3, e5]
      refine sub_anti (or_sub (sub_or_l _ _) (or_sub ?_ ?_)) (or_sub (sub_or_l _ _) ?_)
      · by_cases c : d = 1
        · rw [if_pos c] at hl; exact sub_trans hl (sub_or_l _ _)
        · rw [if_neg c]; exact sub_or_r _ _
      · by_cases c : d = 1
        · rw [if_pos c]; exact sub_or_r _ _
        · rw [if_neg c] at hl; exact sub_trans hl (sub_or_l _ _)
      · by_cases c : d = 1
        · rw [if_pos c]; exact sub_trans (sub_or_r _ _) (sub_or_r _ _)
        · rw [if_neg c]; exact sub_trans (sub_or_l _ _) (sub_or_r _ _)
    · have := cntP_lt (P := fun v => sub (U 11 v ||| U 12 v) r) (Q := fun u => sub (U 11 u ||| U 12 u) (r ||| (U 11 v ||| U 12 v))) (fun u z => sub_trans z (sub_or_l _ _)) (U 1 2) v hv hu (sub_or_r _ _)
      show m + 1 ≤ cntP (fun u => sub (U 11 u ||| U 12 u) (r ||| (U 11 v ||| U 12 v))) (U 1 2)
      omega
    · have hi : i < m + 1 := hi
      show sub (U 11 (va_up cr m v i) ||| U 12 (va_up cr m v i)) (r ||| (U 11 v ||| U 12 v))
      by_cases c : i = m
      · subst c; rw [e3]; exact sub_or_r _ _
      · rw [e1 i (by omega)]; exact sub_trans (q5 i (by omega)) (sub_or_l _ _)
theorem fAdd_sub (U : Nat → Nat → Nat) (v : Nat) (x : srT) : sub x.1 (fAdd U v x).1 ∧ x.2.1 ≤ (fAdd U v x).2.1 := by
  unfold fAdd
  (repeat' split)
  · exact ⟨sub_refl _, Nat.le_refl _⟩
  · exact ⟨sub_refl _, Nat.le_refl _⟩
  · exact ⟨sub_or_l _ _, Nat.le_succ _⟩
theorem gAdd_sub (U : Nat → Nat → Nat) : ∀ (k v : Nat) (x : srT), sub x.1 (gfor (fAdd U) k v x).1 ∧ x.2.1 ≤ (gfor (fAdd U) k v x).2.1
  | 0, _, x => ⟨sub_refl _, Nat.le_refl _⟩
  | k + 1, v, x => by
    have h1 := fAdd_sub U v x
    have h2 := gAdd_sub U k (v + 1) (fAdd U v x)
    exact ⟨sub_trans h1.1 h2.1, Nat.le_trans h1.2 h2.2⟩
theorem gAdd_Q {U : Nat → Nat → Nat} {Cl : Nat → Prop} (hO : sOK U Cl) {f : Nat} : ∀ (k v : Nat) (x : srT), v + k ≤ U 1 2 → sQ U Cl f x → sQ U Cl f (gfor (fAdd U) k v x)
  | 0, _, _, _, h => h
  | k + 1, v, x, hk, h => gAdd_Q hO k (v + 1) _ (by omega) (sQ_step hO (by omega) h)
/-- a pass that reaches nothing new finds no direction; another crosses a valve -/
theorem gAdd_fix {U : Nat → Nat → Nat} {Cl : Nat → Prop} (hO : sOK U Cl) {f : Nat} : ∀ (k v : Nat) (x : srT), v + k ≤ U 1 2 → sQ U Cl f x → (gfor (fAdd U) k v x).1 = x.1 → (gfor (fAdd U) k v x = x) ∧ ∀ i, v ≤ i → i < v + k → dirAc U (U 11) (U 12) (U 13) i x.1 = 0
  | 0, _, _, _, _, _ => ⟨rfl, fun i h1 h2 => absurd h2 (by omega)⟩
  | k + 1, v, x, hk, hQ, he => by
    have h0 : dirAc U (U 11) (U 12) (U 13) v x.1 = 0 := Classical.byContradiction fun z => by
      have hu := unsat hO (show v < U 1 2 by omega) z
      have h2 := (gAdd_sub U k (v + 1) (fAdd U v x)).1
      have he : (gfor (fAdd U) k (v + 1) (fAdd U v x)).1 = x.1 := he
      rw [he, fAdd_eq hO (by omega) hQ z] at h2
      exact hu (sub_trans (sub_or_r _ _) h2)
    have hx : fAdd U v x = x := by unfold fAdd; rw [if_pos h0]
    have he : (gfor (fAdd U) k (v + 1) (fAdd U v x)).1 = x.1 := he
    rw [hx] at he
    obtain ⟨i1, i2⟩ := gAdd_fix hO k (v + 1) x (by omega) hQ he
    refine ⟨?_, fun i h1 h2 => ?_⟩
    · show gfor (fAdd U) k (v + 1) (fAdd U v x) = x
      rw [hx]; exact i1
    · by_cases c : i = v
      · subst c; exact h0
      · exact i2 i (by omega) (by omega)
theorem gAdd_more {U : Nat → Nat → Nat} : ∀ (k v : Nat) (x : srT), (gfor (fAdd U) k v x).1 ≠ x.1 → x.2.1 < (gfor (fAdd U) k v x).2.1
  | 0, _, _, h => absurd rfl h
  | k + 1, v, x, h => by
    have h2 := gAdd_sub U k (v + 1) (fAdd U v x)
    show x.2.1 < (gfor (fAdd U) k (v + 1) (fAdd U v x)).2.1
    by_cases c : fAdd U v x = x
    · have h : (gfor (fAdd U) k (v + 1) (fAdd U v x)).1 ≠ x.1 := h
      rw [c] at h ⊢
      exact gAdd_more k (v + 1) x h
    · have : (fAdd U v x).2.1 = x.2.1 + 1 := by
        unfold fAdd at c ⊢
        (repeat' split)
        · rename_i q; rw [if_pos q] at c; exact absurd rfl c
        · rename_i q q2; rw [if_neg q, if_pos q2] at c; exact absurd rfl c
        · rfl
      omega
theorem srch_spec {U : Nat → Nat → Nat} {Cl : Nat → Prop} (hO : sOK U Cl) {f : Nat} : ∀ (k : Nat) (x : srT), U 1 2 ≤ k + x.2.1 → sQ U Cl f x → sQ U Cl f (srchGo U k x) ∧ ∀ v, v < U 1 2 → dirAc U (U 11) (U 12) (U 13) v (srchGo U k x).1 = 0
  | 0, x, hk, hQ => ⟨hQ, fun v hv => Classical.byContradiction fun z => by
    have := sQ_lt hO hv hQ z; omega⟩
  | k + 1, x, hk, hQ => by
    have hq := gAdd_Q hO (U 1 2) 0 x (by omega) hQ
    by_cases e : (addPass U x).1 = x.1
    · rw [srchGo_pos e]
      obtain ⟨i1, i2⟩ := gAdd_fix hO (U 1 2) 0 x (by omega) hQ e
      refine ⟨hq, fun v hv => ?_⟩
      rw [e]; exact i2 v (Nat.zero_le v) (by omega)
    · rw [srchGo, if_neg e]
      have := gAdd_more (U := U) (U 1 2) 0 x e
      exact srch_spec hO k (addPass U x) (by unfold addPass; omega) hq
/-! breaks: the number of ways is the least cut -/
theorem net_cut {A B : Nat → Nat} {X : Nat} {w : Nat → Nat} {D : Nat → Prop} : ∀ n, (∀ v, v < n → (D v → wi (w v) * (ins X (A v) - ins X (B v)) = 1) ∧ (¬ D v → wi (w v) * (ins X (A v) - ins X (B v)) = 0)) → net A B X w n = (cntP D n : Int)
  | 0, _ => rfl
  | n + 1, h => by
    unfold net cntP
    rw [net_cut n (fun v hv => h v (by omega))]
    by_cases q : D n
    · rw [(h n (by omega)).1 q, if_pos q]; rfl
    · rw [(h n (by omega)).2 q, if_neg q]; rfl
theorem net_le {A B : Nat → Nat} {X : Nat} {w : Nat → Nat} {D : Nat → Prop} : ∀ n, (∀ v, v < n → (D v → wi (w v) * (ins X (A v) - ins X (B v)) ≤ 1) ∧ (¬ D v → wi (w v) * (ins X (A v) - ins X (B v)) = 0)) → net A B X w n ≤ (cntP D n : Int)
  | 0, _ => Int.le_refl _
  | n + 1, h => by
    have ih := net_le (D := D) n (fun v hv => h v (by omega))
    unfold net cntP
    by_cases q : D n
    · have := (h n (by omega)).1 q
      rw [if_pos q]
      omega
    · rw [(h n (by omega)).2 q, if_neg q]; omega
theorem ins_pos {X r : Nat} (h : sub r X) : ins X r = 1 := by unfold ins; rw [if_pos h]
theorem ins_neg {X r : Nat} (h : ¬ sub r X) : ins X r = 0 := by unfold ins; rw [if_neg h]
theorem cntP_ext {P : Nat → Prop} {n : Nat} (h : ∀ i, n ≤ i → ¬ P i) : ∀ k, cntP P (n + k) = cntP P n
  | 0 => rfl
  | k + 1 => by
    rw [show n + (k + 1) = (n + k) + 1 from rfl, cntP, if_neg (h (n + k) (by omega)), cntP_ext h k, Nat.add_zero]
theorem cntB_cntP (a : Nat) : ∀ n, cntB a n = cntP (fun i => a.testBit i = true) n
  | 0 => rfl
  | n + 1 => by
    unfold cntB cntP
    rw [cntB_cntP a n, tb_shr]
    cases e : a.testBit n <;> simp
theorem pop_cnt {a n : Nat} (hn : n ≤ 12) (ha : a < 2 ^ n) : popM a = cntP (fun i => a.testBit i = true) n := by
  have h12 : (2:Nat) ^ n ≤ 2 ^ 12 := Nat.pow_le_pow_right (by decide) hn
  have e : (2:Nat) ^ 12 = 4096 := rfl
  rw [← popM_cnt (show a < 4096 by omega), cntB_cntP]
  have := cntP_ext (P := fun i => a.testBit i = true) (n := n) (fun i hi q => by have := lt_of_tb ha q; omega) (12 - n)
  rw [show n + (12 - n) = 12 by omega] at this
  exact this
def Rg (S : Nat → Nat → Nat) (x : Nat) : Prop := ∃ k, k < 28 ∧ x = regWith S k
abbrev ClR (S : Nat → Nat → Nat) (r : Nat) : Prop := closedE (cReg S) (S 6) (2 * S 1 1) r
theorem rg_meet {S : Nat → Nat → Nat} (hw : wfC S) {x X : Nat} (hx : Rg S x) (hX : ClR S X) (h : X &&& x ≠ 0) : sub x X := by
  obtain ⟨k, hk, rfl⟩ := hx
  exact isCl_meet (regs_isCl hw hk) hX h
theorem rg_ne {S : Nat → Nat → Nat} (hw : wfC S) {x : Nat} (hx : Rg S x) : x ≠ 0 := by
  obtain ⟨k, hk, rfl⟩ := hx
  intro z
  have := bit_sub.mp (regs_isCl hw hk).1
  rw [z] at this; simp at this
theorem rg_cl {S : Nat → Nat → Nat} (hw : wfC S) {x : Nat} (hx : Rg S x) : ClR S x := by
  obtain ⟨k, hk, rfl⟩ := hx
  exact (regs_isCl hw hk).2.1
theorem rg_dis {S : Nat → Nat → Nat} (hw : wfC S) (x y : Nat) (hx : Rg S x) (hy : Rg S y) (hne : x ≠ y) : x &&& y = 0 := Classical.byContradiction fun z => by
  obtain ⟨k, hk, rfl⟩ := hx
  obtain ⟨l, hl, rfl⟩ := hy
  exact hne (isCl_same (regs_isCl hw hk) (regs_isCl hw hl) z)
theorem sides {S T : Nat → Nat → Nat} (h : inv S T) {v : Nat} (hv : v < S 1 2) : Rg S ((regsF S).1 v) ∧ Rg S ((regsF S).2 v) ∧ ((regsF S).1 v).testBit (12 + S 7 v / 2) = true ∧ ((regsF S).2 v).testBit (S 4 (S 7 v)) = true := by
  have h16 := h.1.2.1
  have h4 := h.1.2.2.2.2.2.2.2.2.1 (S 7 v)
  have h7 := (h.2.2.2.2.2.1 v hv).1
  rw [(regs_at S v hv).1, (regs_at S v hv).2]
  exact ⟨⟨12 + S 7 v / 2, by omega, rfl⟩, ⟨S 4 (S 7 v), by omega, rfl⟩, bit_sub.mp (regs_isCl h.1 (show 12 + S 7 v / 2 < 28 by omega)).1, bit_sub.mp (regs_isCl h.1 (show S 4 (S 7 v) < 28 by omega)).1⟩
/-- a state in the count, with c ways laid -/
def FU (S : Nat → Nat → Nat) (f g c : Nat) (U : Nat → Nat → Nat) : Prop :=
  U 1 = S 1 ∧ U 11 = (regsF S).1 ∧ U 12 = (regsF S).2 ∧ (∀ v, v < S 1 2 → wOK (U 13) v) ∧ (∀ v, v < S 1 2 → ¬ (closable S).testBit v = true → U 13 v = 0) ∧ ∀ X, ClR S X → sub f X → X &&& g = 0 → net (regsF S).1 (regsF S).2 X (U 13) (S 1 2) = (c : Int)
theorem rc_sub (A B di cr : Nat → Nat) (f : Nat) : ∀ n, sub f (rc A B di cr f n)
  | 0 => sub_refl f
  | n + 1 => sub_trans (rc_sub A B di cr f n) (sub_or_l _ _)
theorem clos_U {S U : Nat → Nat → Nat} (h : U 1 = S 1) : closable U = closable S := by unfold closable; rw [h]
theorem FU_srch {S T U : Nat → Nat → Nat} (h : inv S T) {g c : Nat} (hF : FU S (fedF S) g c U) : sQ U (ClR S) (fedF S) (srch U (fedF S)) ∧ ∀ v, v < U 1 2 → dirAc U (U 11) (U 12) (U 13) v (srch U (fedF S)).1 = 0 := by
  obtain ⟨u1, u11, u12, _⟩ := hF
  have h12 := h.1.2.2.1
  have hO : sOK U (ClR S) := by
    refine ⟨by rw [u1]; exact h12, fun r v hv hr => ?_, fun r v hv hr => ?_, fun v hv => ?_⟩ <;> rw [u1] at hv <;> rw [u11, u12] <;> obtain ⟨r1, r2, _⟩ := sides h hv
    · exact closed_or hr (closed_or (rg_cl h.1 r1) (rg_cl h.1 r2))
    · exact ⟨rg_meet h.1 r1 hr, rg_meet h.1 r2 hr⟩
    · exact ⟨rg_ne h.1 r1, rg_ne h.1 r2⟩
  exact srch_spec hO 12 (fedF S, 0, U 14, U 15) (by rw [u1]; omega) ⟨(fed_isCl h.1).2.1, ⟨fun i hi => absurd hi (Nat.not_lt_zero i), fun i j hi => absurd hi (Nat.not_lt_zero i)⟩, rfl, Nat.zero_le _, fun i hi => absurd hi (Nat.not_lt_zero i)⟩
/-- one more way -/
theorem FU_add {S T U : Nat → Nat → Nat} (h : inv S T) {p c : Nat} (hp : p < S 1 1) (hF : FU S (fedF S) (regOf S p) c U) (ha : addV U (fedF S) (regOf S p) ≠ 0) : FU S (fedF S) (regOf S p) (c + 1) (addS U (fedF S) (regOf S p)) := by
  obtain ⟨q1, q2, q3, q4, q5⟩ := (FU_srch h hF).1
  obtain ⟨u1, u11, u12, u13, u0, un⟩ := hF
  have h16 := h.1.2.1
  have hne : ¬ (srch U (fedF S)).1 &&& regOf S p = 0 := by
    intro z; unfold addV at ha; rw [if_pos z] at ha; exact ha rfl
  have hg : Rg S (regOf S p) := ⟨12 + p, by omega, rfl⟩
  have hgR := rg_meet h.1 hg q1 hne
  rw [clos_U u1] at q2
  have e2 : U 1 2 = S 1 2 := by rw [u1]
  have ks := keep_spec (n := S 1 2) (A := U 11) (B := U 12) (w0 := U 13) (di := (srch U (fedF S)).2.2.2) (cr := (srch U (fedF S)).2.2.1) (ok := fun v => (closable S).testBit v = true) (f := fedF S) (m := (srch U (fedF S)).2.1) (Rg S) (fun v hv => by rw [u11]; exact (sides h hv).1) (fun v hv => by rw [u12]; exact (sides h hv).2.1) (rg_dis h.1) u13 u0 (by rw [← e2]; exact q2) (srch U (fedF S)).2.1 (regOf S p, U 13) (Nat.le_refl _) hg (by rw [← q3]; exact hgR) (fun _ _ => rfl) u13 u0
  obtain ⟨k1, k2, k3, k4, k5⟩ := ks
  have eS : addS U (fedF S) (regOf S p) = va_up (va_up (va_up U 14 (srch U (fedF S)).2.2.1) 15 (srch U (fedF S)).2.2.2) 13 (keepGo (U 11) (U 12) (srch U (fedF S)).2.2.2 (srch U (fedF S)).2.2.1 (srch U (fedF S)).2.1 (regOf S p, U 13)).2 := by unfold addS; rw [if_neg hne]
  rw [eS]
  refine ⟨by simp [va_up]; exact u1, by simp [va_up]; exact u11, by simp [va_up]; exact u12, ?_, ?_, fun X hX hfX hXg => ?_⟩
  · rw [va_up_self]; exact k3
  · rw [va_up_self]; exact k4
  · rw [va_up_self]
    have := k5 X
    rw [u11, u12] at this
    have un := un X hX hfX hXg
    have i1 : ins X (regOf S p) = 0 := ins_neg (fun z => self_and z (rg_ne h.1 hg) hXg)
    rw [u11, u12] at k2 ⊢
    rw [ins_pos (sub_trans k2 hfX)] at this
    have this : net (regsF S).1 (regsF S).2 X (keepGo (regsF S).1 (regsF S).2 (srch U (fedF S)).2.2.2 (srch U (fedF S)).2.2.1 (srch U (fedF S)).2.1 (regOf S p, U 13)).2 (S 1 2) + ins X (regOf S p) = net (regsF S).1 (regsF S).2 X (U 13) (S 1 2) + 1 := this
    rw [i1, un] at this
    push_cast
    omega
theorem wi_abs {x : Nat} : wi x = 0 ∨ wi x = 1 ∨ wi x = -1 := by unfold wi; (repeat' split) <;> simp
theorem ins_01 (X r : Nat) : ins X r = 0 ∨ ins X r = 1 := by unfold ins; split <;> simp
/-- no valid set has fewer -/
theorem FU_low {S T U : Nat → Nat → Nat} (h : inv S T) {p c s : Nat} (hp : p < S 1 1) (hF : FU S (fedF S) (regOf S p) c U) (hs : s < 1 <<< S 1 2) (hv : valid T p s) : c ≤ popM s := by
  obtain ⟨u1, u11, u12, u13, u0, un⟩ := hF
  have h12 := h.1.2.2.1
  have hc := (sub_closable h hs).mpr hv.1
  have hX := wet_isCl h.1 s
  have hXr : ClR S (wetBehind S s) := fun j hj hc2 hm => hX.2.1 j hj (reg_wet h hc j hj hc2) hm
  have hfX := (fed_isCl h.1).2.2 _ hXr hX.1
  have un := un _ hXr hfX ((region_wet h hp hc).mpr hv.2)
  rw [Nat.one_shiftLeft] at hs
  rw [pop_cnt h12 hs]
  have := net_le (A := (regsF S).1) (B := (regsF S).2) (X := wetBehind S s) (w := U 13) (D := fun i => s.testBit i = true) (S 1 2) (fun v hv2 => by
    constructor
    · intro _
      rcases @wi_abs (U 13 v) with z | z | z <;> rcases ins_01 (wetBehind S s) ((regsF S).1 v) with a | a <;> rcases ins_01 (wetBehind S s) ((regsF S).2 v) with b | b <;> rw [z, a, b] <;> decide
    · intro hns
      by_cases hcl : (closable S).testBit v = true
      · obtain ⟨r1, r2, s1, s2⟩ := sides h hv2
        obtain ⟨v1, v2⟩ := h.2.2.2.2.2.1 v hv2
        have e6 := h.2.2.2.1 _ v1
        have hop : decide (S 5 (S 7 v) &&& (S 1 4 ||| s) = 0) = true := by
          rcases h.2.2.2.2.1 (S 7 v) v1 with ⟨q, _⟩ | ⟨_, q2, _⟩
          · rw [v2] at q; omega
          · rw [v2] at q2
            rw [tb_closable h.1] at hcl
            rw [q2, decide_eq_true_eq, bit_and, Nat.testBit_or]
            cases e1 : (S 1 4).testBit v <;> cases e3 : s.testBit v <;> simp_all
        have iff : sub ((regsF S).1 v) (wetBehind S s) ↔ sub ((regsF S).2 v) (wetBehind S s) := by
          constructor
          · intro z
            have := hX.2.1 _ v1 hop (and_ne.mpr ⟨_, z _ s1, by rw [e6, Nat.testBit_or, tb_bit_self]; rfl⟩) (S 4 (S 7 v)) (by rw [e6, Nat.testBit_or, tb_bit_self, Bool.or_true])
            exact rg_meet h.1 r2 hXr (and_ne.mpr ⟨_, this, s2⟩)
          · intro z
            have := hX.2.1 _ v1 hop (and_ne.mpr ⟨_, z _ s2, by rw [e6, Nat.testBit_or, tb_bit_self, Bool.or_true]⟩) (12 + S 7 v / 2) (by rw [e6, Nat.testBit_or, tb_bit_self]; rfl)
            exact rg_meet h.1 r1 hXr (and_ne.mpr ⟨_, this, s1⟩)
        have : ins (wetBehind S s) ((regsF S).1 v) = ins (wetBehind S s) ((regsF S).2 v) := by
          by_cases z : sub ((regsF S).1 v) (wetBehind S s)
          · rw [ins_pos z, ins_pos (iff.mp z)]
          · rw [ins_neg z, ins_neg (fun y => z (iff.mpr y))]
        rw [this, Int.sub_self, Int.mul_zero]
      · rw [u0 v hv2 hcl]; simp [wi])
  rw [un] at this
  omega
/-! breaks: where no way is found there is a cut -/
theorem FU_cut {S T U : Nat → Nat → Nat} (h : inv S T) {p c : Nat} (hp : p < S 1 1) (hF : FU S (fedF S) (regOf S p) c U) (ha : addV U (fedF S) (regOf S p) = 0) : ∃ s, s < 1 <<< S 1 2 ∧ valid T p s ∧ popM s = c := by
  obtain ⟨⟨q1, q2, q3, q4, q5⟩, hsat⟩ := FU_srch h hF
  obtain ⟨u1, u11, u12, u13, u0, un⟩ := hF
  have h12 := h.1.2.2.1
  have h16 := h.1.2.1
  have hz : (srch U (fedF S)).1 &&& regOf S p = 0 := by
    refine Classical.byContradiction fun z => ?_
    unfold addV at ha; rw [if_neg z] at ha; exact absurd ha (by decide)
  have hfR : sub (fedF S) (srch U (fedF S)).1 := by rw [q3]; exact rc_sub _ _ _ _ _ _
  generalize (srch U (fedF S)).1 = R at q1 hsat hz hfR
  rw [u1, u11, u12] at hsat
  have un := un R q1 hfR hz
  let D : Nat → Bool := fun v => (closable S).testBit v && (decide (R &&& (regsF S).1 v ≠ 0) != decide (R &&& (regsF S).2 v ≠ 0))
  have hDdef : ∀ v, D v = ((closable S).testBit v && (decide (R &&& (regsF S).1 v ≠ 0) != decide (R &&& (regsF S).2 v ≠ 0))) := fun _ => rfl
  have insA : ∀ v, v < S 1 2 → (R &&& (regsF S).1 v ≠ 0 → ins R ((regsF S).1 v) = 1) ∧ (R &&& (regsF S).1 v = 0 → ins R ((regsF S).1 v) = 0) := fun v hv => ⟨fun z => ins_pos (rg_meet h.1 (sides h hv).1 q1 z), fun z => ins_neg (fun y => self_and y (rg_ne h.1 (sides h hv).1) z)⟩
  have insB : ∀ v, v < S 1 2 → (R &&& (regsF S).2 v ≠ 0 → ins R ((regsF S).2 v) = 1) ∧ (R &&& (regsF S).2 v = 0 → ins R ((regsF S).2 v) = 0) := fun v hv => ⟨fun z => ins_pos (rg_meet h.1 (sides h hv).2.1 q1 z), fun z => ins_neg (fun y => self_and y (rg_ne h.1 (sides h hv).2.1) z)⟩
  have hnet := net_cut (A := (regsF S).1) (B := (regsF S).2) (X := R) (w := U 13) (D := fun v => D v = true) (S 1 2) (fun v hv => by
    have hs := hsat v hv
    unfold dirAc dirD at hs
    rw [clos_U u1, gbit_tb] at hs
    show (D v = true → _) ∧ (¬ D v = true → _)
    rw [hDdef v]
    by_cases a : R &&& (regsF S).1 v = 0 <;> by_cases b : R &&& (regsF S).2 v = 0
    · rw [(insA v hv).2 a, (insB v hv).2 b]; simp [a, b]
    · rw [(insA v hv).2 a, (insB v hv).1 b]
      cases e : (closable S).testBit v
      · rw [u0 v hv (by rw [e]; decide)]; simp [wi]
      · rw [e, if_pos a, if_neg b] at hs
        by_cases z : U 13 v = 4294967295
        · rw [z]; simp [a, b, wi]
        · simp [z] at hs
    · rw [(insA v hv).1 a, (insB v hv).2 b]
      cases e : (closable S).testBit v
      · rw [u0 v hv (by rw [e]; decide)]; simp [wi]
      · rw [e, if_neg a, if_pos b] at hs
        by_cases z : U 13 v = 1
        · rw [z]; simp [a, b, wi]
        · simp [z] at hs
    · rw [(insA v hv).1 a, (insB v hv).1 b]; simp [a, b])
  rw [un] at hnet
  have hm : maskOf D (S 1 2) < 2 ^ S 1 2 := Nat.lt_pow_two_of_testBit _ fun i hi => by rw [tb_maskOf]; simp; omega
  have hpop : popM (maskOf D (S 1 2)) = c := by
    rw [pop_cnt h12 hm, cntP_congr (Q := fun v => D v = true) (S 1 2) (fun i hi => by rw [tb_maskOf]; simp [hi])]
    omega
  have hm2 : maskOf D (S 1 2) < 1 <<< S 1 2 := by rw [Nat.one_shiftLeft]; exact hm
  have hsc : sub (maskOf D (S 1 2)) (closable S) := fun i hi => by
    rw [tb_maskOf, Bool.and_eq_true, hDdef, Bool.and_eq_true] at hi
    exact hi.2.1
  refine ⟨maskOf D (S 1 2), hm2, ⟨(sub_closable h hm2).mp hsc, ?_⟩, hpop⟩
  have hX := wet_isCl h.1 (maskOf D (S 1 2))
  have hXR : sub (wetBehind S (maskOf D (S 1 2))) R := by
    refine hX.2.2 R (fun j hj hc hmj => ?_) (sub_trans (fed_isCl h.1).1 hfR)
    by_cases hreg : cReg S j = true
    · exact q1 j hj hreg hmj
    · rcases h.2.2.2.2.1 j hj with ⟨_, q⟩ | ⟨w1, w2, w3⟩
      · exact absurd (by unfold cReg; rw [q]; simp) hreg
      · have hc : decide (S 5 j &&& (S 1 4 ||| maskOf D (S 1 2)) = 0) = true := hc
        have hreg : ¬ decide (S 5 j &&& bounding S = 0) = true := hreg
        rw [w2, decide_eq_true_eq, bit_and, Nat.testBit_or, Bool.or_eq_false_iff] at hc
        rw [w2, decide_eq_true_eq, bit_and, tb_bounding S (by omega)] at hreg
        have hcl : (closable S).testBit (T 24 j) = true := by
          rw [tb_closable h.1]
          cases e1 : (S 1 4).testBit (T 24 j) <;> cases e2 : (S 1 5).testBit (T 24 j) <;> simp_all
        have hnD : D (T 24 j) = false := by
          have := hc.2
          rw [tb_maskOf] at this
          simpa [w1] using this
        rw [hDdef, hcl, Bool.true_and] at hnD
        obtain ⟨r1, r2, s1, s2⟩ := sides h w1
        rw [w3] at s1 s2
        have e6 := h.2.2.2.1 j hj
        have both : R &&& (regsF S).1 (T 24 j) ≠ 0 ∧ R &&& (regsF S).2 (T 24 j) ≠ 0 := by
          obtain ⟨i, i1, i2⟩ := and_ne.mp hmj
          rw [e6, Nat.testBit_or, tb_bit, tb_bit, Bool.or_eq_true, decide_eq_true_eq, decide_eq_true_eq] at i2
          have one : R &&& (regsF S).1 (T 24 j) ≠ 0 ∨ R &&& (regsF S).2 (T 24 j) ≠ 0 := by
            rcases i2 with z | z
            · exact Or.inl (and_ne.mpr ⟨i, i1, by rw [← z]; exact s1⟩)
            · exact Or.inr (and_ne.mpr ⟨i, i1, by rw [← z]; exact s2⟩)
          by_cases a : R &&& (regsF S).1 (T 24 j) = 0 <;> by_cases b : R &&& (regsF S).2 (T 24 j) = 0 <;> simp_all
        rw [e6]
        exact or_sub (bit_sub.mpr (rg_meet h.1 r1 q1 both.1 _ s1)) (bit_sub.mpr (rg_meet h.1 r2 q1 both.2 _ s2))
  rw [and_bit_zero, ← wet_eq h]
  cases z : (wetBehind S (maskOf D (S 1 2))).testBit (12 + p) with
  | false => rfl
  | true => exact absurd hz (and_ne.mpr ⟨12 + p, hXR _ z, bit_sub.mp (regs_isCl h.1 (show 12 + p < 28 by omega)).1⟩)
theorem all_valid {S T : Nat → Nat → Nat} (h : inv S T) {p : Nat} (hp : p < S 1 1) (hf : fedF S &&& regOf S p = 0) : closable S < 1 <<< S 1 2 ∧ valid T p (closable S) := by
  have h12 := h.1.2.2.1
  have hlt : closable S < 1 <<< S 1 2 := by
    rw [Nat.one_shiftLeft]
    exact Nat.lt_pow_two_of_testBit _ fun i hi => by rw [tb_closable h.1]; simp; omega
  have hw := wetO_eq h (sub_refl (closable S))
  have e : closable S &&& (closable S ^^^ 4294967295) = 0 := by
    have := (sub_mask h hlt).mpr (sub_refl _)
    exact this
  have hfed : wetBehind S (closable S) = fedF S := by
    rw [← hw, e]
    unfold wetO
    have pass : wetPass (regsF S).1 (regsF S).2 (S 1 2) 0 (fedF S) = fedF S := gfor_id _ _ _ (fun i y _ _ => by unfold wset; rw [gbit_tb]; simp)
    rw [wetGo, if_pos pass]; exact pass
  refine ⟨hlt, (sub_closable h hlt).mp (sub_refl _), (region_wet h hp (sub_refl _)).mp ?_⟩
  rw [hfed]; exact hf
theorem count_go {S T : Nat → Nat → Nat} (h : inv S T) {p : Nat} (hp : p < S 1 1) (hf : fedF S &&& regOf S p = 0) : ∀ (k c : Nat) (U : Nat → Nat → Nat), c + k = 12 → FU S (fedF S) (regOf S p) c U → ∃ s, s < 1 <<< S 1 2 ∧ valid T p s ∧ popM s = (countGo (fedF S) (regOf S p) k c U).1 ∧ ∀ s', s' < 1 <<< S 1 2 → valid T p s' → popM s ≤ popM s'
  | 0, c, U, hk, hF => by
    have hc : c = 12 := by omega
    subst hc
    obtain ⟨a1, a2⟩ := all_valid h hp hf
    have h12 := h.1.2.2.1
    have le12 : popM (closable S) ≤ 12 := by
      rw [pop_cnt h12 (by rw [← Nat.one_shiftLeft]; exact a1)]
      exact Nat.le_trans (cntP_le _ _) h12
    have low := FU_low h hp hF a1 a2
    refine ⟨closable S, a1, a2, by show popM (closable S) = 12; omega, fun s' h1 h2 => ?_⟩
    have := FU_low h hp hF h1 h2
    omega
  | k + 1, c, U, hk, hF => by
    by_cases ha : addV U (fedF S) (regOf S p) = 0
    · rw [countGo_pos ha]
      obtain ⟨s, h1, h2, h3⟩ := FU_cut h hp hF ha
      exact ⟨s, h1, h2, h3, fun s' g1 g2 => by have := FU_low h hp hF g1 g2; omega⟩
    · rw [countGo, if_neg ha]
      exact count_go h hp hf k (c + 1) _ (by omega) (FU_add h hp hF ha)
theorem fewest_eq {S T : Nat → Nat → Nat} (h : inv S T) {p : Nat} (hp : p < S 1 1) : waysF S p = fewM T p := by
  have h12 := h.1.2.2.1
  have ev : S 1 2 = T 22 3 := h.2.2.1.2.2.1
  have hl12 : 1 <<< S 1 2 ≤ 4096 := shl1_le (n := 12) h12
  have L := least_spec T p (1 <<< S 1 2) (by omega)
  unfold waysF fewM leastM
  rw [← ev]
  by_cases hf : fedF S &&& regOf S p = 0
  · rw [if_pos hf]
    have hF : FU S (fedF S) (regOf S p) 0 (prepS S) := by
      have hz : ∀ v, v < S 1 2 → (prepS S) 13 v = 0 := by
        have := gfor_invK (fun i (w : Nat → Nat) => ∀ v, v < i → w v = 0) fZero 12 0 (S 13) (fun i y _ _ hy v hv => by
          simp only [fZero, va_up]; split
          · rfl
          · exact hy v (by omega)) (fun v hv => absurd hv (Nat.not_lt_zero v))
        intro v hv
        show gfor fZero 12 0 (S 13) v = 0
        exact this v (by omega)
      refine ⟨rfl, rfl, rfl, fun v hv => Or.inl (hz v hv), fun v hv _ => hz v hv, fun X _ _ _ => ?_⟩
      rw [net_cut (D := fun _ => False) (S 1 2) (fun v hv => ⟨fun z => z.elim, fun _ => by rw [hz v hv]; simp [wi]⟩), cntP_none (fun _ z => z)]
    obtain ⟨s, h1, h2, h3, h4⟩ := count_go h hp hf 12 0 (prepS S) rfl hF
    rw [← h3]
    rcases L with ⟨l1, l2⟩ | ⟨l1, l2, l3⟩
    · exact absurd h2 (l2 s h1)
    · rw [if_neg (by omega)]
      have g1 := h4 _ l1 l2
      rcases l3 s h1 h2 with q | q
      · rw [q]
      · unfold lss at q; omega
  · rw [if_neg hf]
    rcases L with ⟨l1, l2⟩ | ⟨l1, l2, l3⟩
    · rw [if_pos l1]
    · exact absurd l2 (fed_none h hp hf l1)
