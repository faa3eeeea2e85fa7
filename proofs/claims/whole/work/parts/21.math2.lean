/-! distances -/
noncomputable def cntP (P : Nat → Prop) : Nat → Nat
  | 0 => 0
  | n + 1 => cntP P n + @ite Nat (P n) (Classical.propDecidable (P n)) 1 0
theorem cntP_le (P : Nat → Prop) : ∀ n, cntP P n ≤ n
  | 0 => Nat.le_refl 0
  | n + 1 => by have := cntP_le P n; unfold cntP; split <;> omega
theorem cntP_mono {P Q : Nat → Prop} (h : ∀ i, P i → Q i) : ∀ n, cntP P n ≤ cntP Q n
  | 0 => Nat.le_refl 0
  | n + 1 => by
    have := cntP_mono h n
    unfold cntP
    by_cases q : P n
    · rw [if_pos q, if_pos (h n q)]; omega
    · rw [if_neg q]; omega
theorem cntP_lt {P Q : Nat → Prop} (h : ∀ i, P i → Q i) : ∀ (n i : Nat), i < n → ¬ P i → Q i → cntP P n < cntP Q n
  | 0, _, hi, _, _ => absurd hi (Nat.not_lt_zero _)
  | n + 1, i, hi, hp, hq => by
    unfold cntP
    by_cases e : i = n
    · subst e
      have := cntP_mono h i
      rw [if_neg hp, if_pos hq]; omega
    · have := cntP_lt h n i (by omega) hp hq
      by_cases q : P n
      · rw [if_pos q, if_pos (h n q)]; omega
      · rw [if_neg q]; omega
theorem cntP_all {P : Nat → Prop} : ∀ n, n ≤ cntP P n → ∀ i, i < n → P i
  | 0, _, _, hi => absurd hi (Nat.not_lt_zero _)
  | n + 1, h, i, hi => by
    have h1 := cntP_le P n
    unfold cntP at h
    by_cases q : P n
    · rw [if_pos q] at h
      by_cases e : i = n
      · subst e; exact q
      · exact cntP_all n (by omega) i (by omega)
    · rw [if_neg q] at h; omega
theorem cntP_pos {P : Nat → Prop} {n i : Nat} (hi : i < n) (hp : P i) : 1 ≤ cntP P n := by
  have := cntP_lt (P := fun _ => False) (Q := P) (fun _ h => h.elim) n i hi (fun h => h) hp
  omega
def edS (S : Nat → Nat → Nat) (u v l : Nat) : Prop := ∃ p, p < S 1 1 ∧ shutAt S p 0 = 0 ∧ shutAt S p 1 = 0 ∧ l = S 2 p ∧ ((u = S 4 (2 * p) ∧ v = S 4 (2 * p + 1)) ∨ (u = S 4 (2 * p + 1) ∧ v = S 4 (2 * p)))
def wkS (S : Nat → Nat → Nat) : Nat → Nat → Nat → Prop
  | 0, v, k => (S 1 3).testBit v = true ∧ k = 0
  | s + 1, v, k => ∃ u k' l, wkS S s u k' ∧ edS S u v l ∧ k = k' + l
def WkS (S : Nat → Nat → Nat) (v k : Nat) : Prop := ∃ s, wkS S s v k
def sndD (S : Nat → Nat → Nat) (d : Nat → Nat) : Prop := ∀ v, v < S 1 0 → d v ≤ 1000000 ∧ (d v < 1000000 → WkS S v (d v))
def exD (S : Nat → Nat → Nat) (d : Nat → Nat) (v : Nat) : Prop := ∀ k, WkS S v k → d v ≤ k
theorem WkS_step {S : Nat → Nat → Nat} {u v k l : Nat} (h : WkS S u k) (e : edS S u v l) : WkS S v (k + l) := by
  obtain ⟨s, hs⟩ := h
  exact ⟨s + 1, u, k, l, hs, e, rfl⟩
theorem wk_src {S : Nat → Nat → Nat} : ∀ (s v k : Nat), wkS S s v k → ∃ u, (S 1 3).testBit u = true
  | 0, v, _, h => ⟨v, h.1⟩
  | s + 1, _, _, ⟨u, k', _, h, _, _⟩ => wk_src s u k' h
def rx (u v l : Nat) (d : Nat → Nat) : Nat → Nat := va_up d v (min (d v) (d u + l))
theorem rx_le (u v l : Nat) (d : Nat → Nat) (w : Nat) : rx u v l d w ≤ d w := by
  unfold rx; simp only [va_up]; split
  · rename_i h; subst h; omega
  · exact Nat.le_refl _
theorem rx_edge (u v l : Nat) (d : Nat → Nat) : rx u v l d v ≤ d u + l := by unfold rx; rw [va_up_self]; omega
theorem rx_snd {S : Nat → Nat → Nat} {u v l : Nat} {d : Nat → Nat} (he : edS S u v l) (hu : u < S 1 0) (h : sndD S d) : sndD S (rx u v l d) := by
  intro w hw
  have h1 := h w hw
  have h2 := h u hu
  unfold rx; simp only [va_up]
  split
  · rename_i e; subst e
    refine ⟨by omega, fun q => ?_⟩
    rcases Nat.le_total (d w) (d u + l) with z | z
    · rw [Nat.min_eq_left z] at q ⊢
      exact h1.2 q
    · rw [Nat.min_eq_right z] at q ⊢
      exact WkS_step (h2.2 (by omega)) he
  · exact h1
/-- what a pipe's step does, and a round of them -/
def pst (S : Nat → Nat → Nat) (p : Nat) (d d' : Nat → Nat) : Prop := (∀ v, d' v ≤ d v) ∧ (sndD S d → sndD S d') ∧ (shutAt S p 0 = 0 → shutAt S p 1 = 0 → d' (S 4 (2 * p + 1)) ≤ d (S 4 (2 * p)) + S 2 p ∧ d' (S 4 (2 * p)) ≤ d (S 4 (2 * p + 1)) + S 2 p)
def rnd (S : Nat → Nat → Nat) (d d' : Nat → Nat) : Prop := (∀ v, d' v ≤ d v) ∧ (sndD S d → sndD S d') ∧ ∀ u v l, edS S u v l → d' v ≤ d u + l
theorem rnd_of {S : Nat → Nat → Nat} {f : Nat → (Nat → Nat) → Nat → Nat} (h : ∀ p d, p < S 1 1 → pst S p d (f p d)) (d : Nat → Nat) : rnd S d (gfor f (S 1 1) 0 d) := by
  have := gfor_invK (fun j (y : Nat → Nat) => (∀ v, y v ≤ d v) ∧ (sndD S d → sndD S y) ∧ ∀ p, p < j → shutAt S p 0 = 0 → shutAt S p 1 = 0 → y (S 4 (2 * p + 1)) ≤ d (S 4 (2 * p)) + S 2 p ∧ y (S 4 (2 * p)) ≤ d (S 4 (2 * p + 1)) + S 2 p) f (S 1 1) 0 d (fun j y _ hj hy => by
    obtain ⟨a1, a2, a3⟩ := hy
    obtain ⟨b1, b2, b3⟩ := h j y (by omega)
    refine ⟨fun v => Nat.le_trans (b1 v) (a1 v), fun q => b2 (a2 q), fun p hp h0 h1 => ?_⟩
    by_cases e : p = j
    · subst e
      have c := b3 h0 h1
      have c1 := a1 (S 4 (2 * p))
      have c2 := a1 (S 4 (2 * p + 1))
      omega
    · have c := a3 p (by omega) h0 h1
      have c1 := b1 (S 4 (2 * p))
      have c2 := b1 (S 4 (2 * p + 1))
      omega) ⟨fun _ => Nat.le_refl _, fun q => q, fun p hp => absurd hp (Nat.not_lt_zero p)⟩
  obtain ⟨a1, a2, a3⟩ := this
  refine ⟨a1, a2, fun u v l he => ?_⟩
  obtain ⟨p, hp, h0, h1, rfl, q⟩ := he
  have c := a3 p (by omega) h0 h1
  rcases q with ⟨rfl, rfl⟩ | ⟨rfl, rfl⟩
  · exact c.1
  · exact c.2
theorem pst_rx {S : Nat → Nat → Nat} {p : Nat} (hp : p < S 1 1) (hn : ∀ j, j < 2 * S 1 1 → S 4 j < S 1 0) (h0 : shutAt S p 0 = 0) (h1 : shutAt S p 1 = 0) {u v : Nat} (huv : (u = S 4 (2 * p) ∧ v = S 4 (2 * p + 1)) ∨ (u = S 4 (2 * p + 1) ∧ v = S 4 (2 * p))) (d : Nat → Nat) : pst S p d (rx v u (S 2 p) (rx u v (S 2 p) d)) := by
  have e1 : edS S u v (S 2 p) := ⟨p, hp, h0, h1, rfl, huv⟩
  have e2 : edS S v u (S 2 p) := ⟨p, hp, h0, h1, rfl, huv.elim (fun z => Or.inr ⟨z.2, z.1⟩) (fun z => Or.inl ⟨z.2, z.1⟩)⟩
  have n1 := hn (2 * p) (by omega)
  have n2 := hn (2 * p + 1) (by omega)
  refine ⟨fun w => Nat.le_trans (rx_le _ _ _ _ w) (rx_le _ _ _ _ w), fun q => rx_snd e2 (by omega) (rx_snd e1 (by omega) q), fun _ _ => ?_⟩
  have c1 : rx v u (S 2 p) (rx u v (S 2 p) d) v ≤ d u + S 2 p := Nat.le_trans (rx_le _ _ _ _ v) (rx_edge u v _ d)
  have c2 : rx v u (S 2 p) (rx u v (S 2 p) d) u ≤ d v + S 2 p := Nat.le_trans (rx_edge v u _ _) (Nat.add_le_add_right (rx_le _ _ _ _ v) _)
  rcases huv with ⟨a, b⟩ | ⟨a, b⟩ <;> subst a <;> subst b
  · exact ⟨c1, c2⟩
  · exact ⟨c2, c1⟩
theorem pst_id {S : Nat → Nat → Nat} {p : Nat} (h : ¬ (shutAt S p 0 = 0 ∧ shutAt S p 1 = 0)) (d : Nat → Nat) : pst S p d d := ⟨fun _ => Nat.le_refl _, fun q => q, fun a b => absurd ⟨a, b⟩ h⟩
def okD (S : Nat → Nat → Nat) (r : Nat) (d : Nat → Nat) : Prop := sndD S d ∧ (∀ v, (S 1 3).testBit v = true → d v = 0) ∧ ((∀ v, v < S 1 0 → exD S d v) ∨ r + 1 ≤ cntP (exD S d) (S 1 0))
theorem okD_step {S : Nat → Nat → Nat} (hn : ∀ j, j < 2 * S 1 1 → S 4 j < S 1 0) (hl : ∀ p, p < S 1 1 → 1 ≤ S 2 p) (hs : ∀ v, (S 1 3).testBit v = true → v < S 1 0) {r : Nat} {d d' : Nat → Nat} (hr : rnd S d d') (h : okD S r d) : okD S (r + 1) d' := by
  obtain ⟨a1, a2, a3⟩ := hr
  obtain ⟨b1, b2, b3⟩ := h
  have keep : ∀ v, exD S d v → exD S d' v := fun v q k hk => Nat.le_trans (a1 v) (q k hk)
  refine ⟨a2 b1, fun v hv => by have := a1 v; rw [b2 v hv] at this; omega, ?_⟩
  by_cases hall : ∀ v, v < S 1 0 → exD S d v
  · exact Or.inl fun v hv => keep v (hall v hv)
  · rcases b3 with b3 | b3
    · exact absurd b3 hall
    · right
      obtain ⟨k, ⟨v, hv, hw, hlt⟩, hmin⟩ := least_nat (fun k => ∃ v, v < S 1 0 ∧ WkS S v k ∧ k < d v) (Classical.byContradiction fun q => hall fun v hv k hk => Nat.le_of_not_lt fun z => q ⟨k, v, hv, hk, z⟩)
      have hne : ¬ exD S d v := fun q => absurd (q k hw) (by omega)
      have hex : exD S d' v := by
        have hdk : d' v ≤ k := by
          obtain ⟨s, hs2⟩ := hw
          cases s with
          | zero =>
            obtain ⟨z1, z2⟩ := hs2
            have := b2 v z1; omega
          | succ s =>
            obtain ⟨u, k', l, z1, z2, z3⟩ := hs2
            have hl1 : 1 ≤ l := by obtain ⟨p, hp, _, _, q, _⟩ := z2; rw [q]; exact hl p hp
            have hu : u < S 1 0 := by
              obtain ⟨p, hp, _, _, _, q⟩ := z2
              rcases q with ⟨q, _⟩ | ⟨q, _⟩ <;> rw [q] <;> exact hn _ (by omega)
            have hle : d u ≤ k' := Nat.le_of_not_lt fun z => hmin k' (by omega) ⟨u, hu, ⟨s, z1⟩, z⟩
            have := a3 u v l z2
            omega
        intro k2 hk2
        rcases Nat.lt_or_ge k2 k with z | z
        · have := hmin k2 z
          exact absurd ⟨v, hv, hk2, by omega⟩ this
        · omega
      have := cntP_lt keep (S 1 0) v hv hne hex
      omega
theorem okD_go {S : Nat → Nat → Nat} (hn : ∀ j, j < 2 * S 1 1 → S 4 j < S 1 0) (hl : ∀ p, p < S 1 1 → 1 ≤ S 2 p) (hs : ∀ v, (S 1 3).testBit v = true → v < S 1 0) {f : Nat → (Nat → Nat) → Nat → Nat} (hf : ∀ i d, rnd S d (f i d)) : ∀ (k j r : Nat) (d : Nat → Nat), okD S r d → okD S (r + k) (gfor f k j d)
  | 0, _, _, _, h => h
  | k + 1, j, r, d, h => by
    rw [show r + (k + 1) = r + 1 + k by omega]
    exact okD_go hn hl hs hf k (j + 1) (r + 1) _ (okD_step hn hl hs (hf j d) h)
theorem okD_0 {S : Nat → Nat → Nat} (hs : ∀ v, (S 1 3).testBit v = true → v < S 1 0) {d : Nat → Nat} (h : ∀ v, v < S 1 0 → d v = if (S 1 3).testBit v then 0 else 1000000) : okD S 0 d := by
  have hz : ∀ v, (S 1 3).testBit v = true → d v = 0 := fun v hv => by rw [h v (hs v hv), hv]; rfl
  refine ⟨fun v hv => ?_, hz, ?_⟩
  · rw [h v hv]
    cases e : (S 1 3).testBit v
    · exact ⟨Nat.le_refl _, fun q => absurd q (by decide)⟩
    · exact ⟨by decide, fun _ => ⟨0, e, rfl⟩⟩
  · by_cases q : ∃ u, (S 1 3).testBit u = true
    · obtain ⟨u, hu⟩ := q
      exact Or.inr (cntP_pos (hs u hu) (fun k _ => by rw [hz u hu]; exact Nat.zero_le k))
    · exact Or.inl fun v _ k ⟨s, hk⟩ => absurd (wk_src s v k hk) q
theorem okD_end {S : Nat → Nat → Nat} {r : Nat} {d : Nat → Nat} (h : okD S r d) (hr : S 1 0 ≤ r + 1) : ∀ v, v < S 1 0 → exD S d v := by
  rcases h.2.2 with q | q
  · exact q
  · exact cntP_all _ (by omega)
theorem okD_eq {S : Nat → Nat → Nat} {r r' : Nat} {d d' : Nat → Nat} (h : okD S r d) (h' : okD S r' d') (hr : S 1 0 ≤ r + 1) (hr' : S 1 0 ≤ r' + 1) : ∀ v, v < S 1 0 → d v = d' v := by
  intro v hv
  have e := okD_end h hr v hv
  have e' := okD_end h' hr' v hv
  have s := h.1 v hv
  have s' := h'.1 v hv
  refine Nat.le_antisymm ?_ ?_
  · rcases Nat.lt_or_ge (d' v) 1000000 with z | z
    · exact e _ (s'.2 z)
    · omega
  · rcases Nat.lt_or_ge (d v) 1000000 with z | z
    · exact e' _ (s.2 z)
    · omega
theorem shut_open {S T : Nat → Nat → Nat} (h : inv S T) {p e : Nat} (hp : p < S 1 1) (he : e < 2) : shutAt S p e = 0 ↔ openM T (2 * p + e) 0 0 ≠ 0 := by
  have := open_wet h 0 (2 * p + e) (by omega)
  rw [decide_eq_decide, Nat.or_zero] at this
  rw [← this]
  unfold shutAt
  split <;> simp_all
theorem if_min (a b : Nat) : (if b < a then b else a) = min a b := by split <;> omega
theorem dist_eq {S T : Nat → Nat → Nat} (h : inv S T) : ∀ v, v < S 1 0 → measD S v = measM T v := by
  have h0 := h.1.1
  have hn := h.2.2.2.2.2.2.1
  have hl := h.2.2.2.2.2.2.2.2.1
  have hsrc : ∀ v, (S 1 3).testBit v = true → v < S 1 0 := fun v hv => lt_of_tb (n := S 1 0) (by have := h.2.2.2.2.2.2.2.2.2.2.1; rwa [Nat.one_shiftLeft] at this) hv
  have e0 : S 1 0 = T 22 1 := h.2.2.1.1
  have e1 : S 1 1 = T 22 2 := h.2.2.1.2.1
  have e3 : S 1 3 = T 22 4 := h.2.2.1.2.2.2.1
  have e2 : S 2 = T 25 := h.2.2.1.2.2.2.2.2.2.1
  have e4 : S 4 = T 23 := h.2.2.1.2.2.2.2.2.2.2.2.1
  have c1 : okD S (max 1 (S 1 0) - 1) (measD S) := by
    have hz : okD S 0 (gfor (fInit S) 12 0 (S 17)) := by
      refine okD_0 hsrc (fun v hv => ?_)
      have := gfor_invK (fun i (d : Nat → Nat) => ∀ x, x < i → d x = if (S 1 3).testBit x then 0 else 1000000) (fInit S) 12 0 (S 17) (fun i y _ hi hy x hx => by
        simp only [fInit, va_up]; split
        · rename_i z; subst z
          rw [gbit_tb]
          cases (S 1 3).testBit x <;> simp
        · exact hy x (by omega)) (fun x hx => absurd hx (Nat.not_lt_zero x))
      exact this v (by omega)
    have := okD_go hn hl hsrc (f := fRound S) (fun i d => rnd_of (f := fPipeS S) (fun p d hp => by
      unfold fPipeS
      by_cases q0 : shutAt S p 0 = 0
      · by_cases q1 : shutAt S p 1 = 0
        · rw [if_pos q0, if_pos q1]
          exact pst_rx hp hn q0 q1 (u := S 4 (2 * p)) (v := S 4 (2 * p + 1)) (Or.inl ⟨rfl, rfl⟩) d
        · rw [if_pos q0, if_neg q1]; exact pst_id (fun z => q1 z.2) d
      · rw [if_neg q0]; exact pst_id (fun z => q0 z.1) d) d) (max 1 (S 1 0) - 1) 1 0 _ hz
    rw [Nat.zero_add] at this; exact this
  have c2 : okD S (T 22 1) (measM T) := by
    have hz : okD S 0 (gfor (fInitM T) (T 22 1) 0 (T 28)) := by
      refine okD_0 hsrc (fun v hv => ?_)
      have := gfor_invK (fun i (d : Nat → Nat) => ∀ x, x < i → d x = if (S 1 3).testBit x then 0 else 1000000) (fInitM T) (T 22 1) 0 (T 28) (fun i y _ hi hy x hx => by
        simp only [fInitM, va_up]; split
        · rename_i z; subst z
          rw [e3]
          simp only [and_bit1]
        · exact hy x (by omega)) (fun x hx => absurd hx (Nat.not_lt_zero x))
      exact this v (by omega)
    have := okD_go hn hl hsrc (f := fRoundM T) (fun i d => by
      unfold fRoundM
      rw [← e1]
      exact rnd_of (f := fPipeM T) (fun p d hp => by
        unfold fPipeM
        have s0 := shut_open h hp (show 0 < 2 by decide)
        have s1 := shut_open h hp (show 1 < 2 by decide)
        rw [Nat.add_zero] at s0
        by_cases q0 : openM T (2 * p) 0 0 = 0
        · rw [if_pos q0]; exact pst_id (fun z => s0.mp z.1 q0) d
        · by_cases q1 : openM T (2 * p + 1) 0 0 = 0
          · rw [if_neg q0, if_pos q1]; exact pst_id (fun z => s1.mp z.2 q1) d
          · rw [if_neg q0, if_neg q1]
            have := pst_rx hp hn (s0.mpr q0) (s1.mpr q1) (u := S 4 (2 * p + 1)) (v := S 4 (2 * p)) (Or.inr ⟨rfl, rfl⟩) d
            unfold relB relA
            rw [if_min, if_min, ← e4, ← e2]
            exact this) d) (T 22 1) 0 0 _ hz
    rw [Nat.zero_add] at this; exact this
  exact okD_eq c1 c2 (by omega) (by omega)
/-! the order of flushing -/
theorem ins_spec (T : Nat → Nat → Nat) (d : Nat → Nat) (own : Nat) : ∀ (a : Nat) (q : Nat → Nat),
    (insGo T d own a q).1 ≤ a ∧ (∀ k, k < (insGo T d own a q).1 → (insGo T d own a q).2 k = q k) ∧
    (∀ k, (insGo T d own a q).1 ≤ k → k < a → (insGo T d own a q).2 (k + 1) = q k ∧ own < rchM T d (q k)) ∧
    (0 < (insGo T d own a q).1 → rchM T d (q ((insGo T d own a q).1 - 1)) ≤ own) ∧ (∀ k, a < k → (insGo T d own a q).2 k = q k)
  | 0, q => ⟨Nat.le_refl 0, fun _ _ => rfl, fun k _ h => absurd h (Nat.not_lt_zero k), fun h => absurd h (Nat.lt_irrefl 0), fun _ _ => rfl⟩
  | a + 1, q => by
    by_cases c : own < rchM T d (q a)
    · rw [insGo_pos c]
      obtain ⟨h1, h2, h3, h4, h5⟩ := ins_spec T d own a (va_up q (a + 1) (q a))
      refine ⟨by omega, fun k hk => ?_, fun k hk hk2 => ?_, fun h0 => ?_, fun k hk => ?_⟩
      · rw [h2 k hk, va_up_ne _ _ (by omega)]
      · by_cases e : k = a
        · subst e
          rw [h5 (k + 1) (by omega), va_up_self]
          exact ⟨rfl, c⟩
        · have := h3 k hk (by omega)
          rw [va_up_ne _ _ (by omega)] at this
          exact this
      · have := h4 h0
        rw [va_up_ne _ _ (by omega)] at this
        exact this
      · rw [h5 k (by omega), va_up_ne _ _ (by omega)]
    · rw [insGo_neg (Nat.le_of_not_lt c)]
      refine ⟨Nat.le_refl _, fun _ _ => rfl, fun k h1 h2 => absurd h2 (by omega), fun _ => ?_, fun _ _ => rfl⟩
      show rchM T d (q (a + 1 - 1)) ≤ own
      rw [Nat.add_sub_cancel]; omega
theorem cntP_congr {P Q : Nat → Prop} : ∀ n, (∀ i, i < n → (P i ↔ Q i)) → cntP P n = cntP Q n
  | 0, _ => rfl
  | n + 1, h => by
    unfold cntP
    rw [cntP_congr n (fun i hi => h i (by omega))]
    by_cases q : P n
    · rw [if_pos q, if_pos ((h n (by omega)).mp q)]
    · rw [if_neg q, if_neg (fun z => q ((h n (by omega)).mpr z))]
/-- a before b, by K and then by the number -/
def bef (K : Nat → Nat) (a b : Nat) : Prop := K a < K b ∨ (K a = K b ∧ a < b)
theorem bef_trans {K : Nat → Nat} {a b c : Nat} (h : bef K a b) (h2 : bef K b c) : bef K a c := by
  unfold bef at *; omega
theorem bef_irr {K : Nat → Nat} {a : Nat} (h : bef K a a) : False := by unfold bef at h; omega
theorem bef_tot {K : Nat → Nat} {a b : Nat} (h : a ≠ b) : bef K a b ∨ bef K b a := by unfold bef; omega
noncomputable def rk (K : Nat → Nat) (n p : Nat) : Nat := cntP (fun a => bef K a p) n
theorem rk_lt {K : Nat → Nat} {n a b : Nat} (ha : a < n) (h : bef K a b) : rk K n a < rk K n b := cntP_lt (fun _ q => bef_trans q h) n a ha (fun q => bef_irr q) h
theorem rk_succ (K : Nat → Nat) (n p : Nat) : (bef K n p → rk K (n + 1) p = rk K n p + 1) ∧ (¬ bef K n p → rk K (n + 1) p = rk K n p) := by
  unfold rk
  constructor
  · intro h; show cntP _ n + _ = _; rw [if_pos h]
  · intro h; show cntP _ n + _ = _; rw [if_neg h]; rfl
theorem rk_inj {K : Nat → Nat} {n a b : Nat} (ha : a < n) (hb : b < n) (h : rk K n a = rk K n b) : a = b := by
  refine Classical.byContradiction fun q => ?_
  rcases bef_tot (K := K) q with z | z
  · have := rk_lt ha z; omega
  · have := rk_lt hb z; omega
/-- the list (m, q) holds the numbers below i with K below F, in order -/
def srt (K en : Nat → Nat) (F i : Nat) (x : Nat × (Nat → Nat)) : Prop :=
  (∀ k, k < x.1 → ∃ p, p < i ∧ K p < F ∧ x.2 k = 2 * p + en p ∧ rk K i p = k) ∧ (∀ p, p < i → K p < F → rk K i p < x.1 ∧ x.2 (rk K i p) = 2 * p + en p) ∧ x.1 = cntP (fun p => K p < F) i
theorem srt_step {T : Nat → Nat → Nat} {d K en : Nat → Nat} {F i P : Nat} {x : Nat × (Nat → Nat)} (hi : i < P) (hK : ∀ p, p < P → rchM T d (2 * p + en p) = K p) (h : srt K en F i x) :
    srt K en F (i + 1) (if K i < F then (x.1 + 1, va_up (insGo T d (K i) x.1 x.2).2 (insGo T d (K i) x.1 x.2).1 (2 * i + en i)) else x) := by
  obtain ⟨h1, h2, h3⟩ := h
  split
  · rename_i hF
    obtain ⟨s1, s2, s3, s4, s5⟩ := ins_spec T d (K i) x.1 x.2
    generalize hr : insGo T d (K i) x.1 x.2 = r at s1 s2 s3 s4 s5 ⊢
    have low : ∀ k, k < r.1 → ∀ p, p < i → K p < F → rk K i p = k → K p ≤ K i := by
      intro k hk p hp hpF hpk
      obtain ⟨o, ho, hoF, hoq, hor⟩ := h1 (r.1 - 1) (by omega)
      have := s4 (by omega)
      rw [hoq, hK o (by omega)] at this
      refine Nat.le_trans (Nat.le_of_not_lt fun z => ?_) this
      have := rk_lt (K := K) ho (Or.inl z : bef K o p)
      omega
    have high : ∀ k, r.1 ≤ k → ∀ p, p < i → K p < F → rk K i p = k → K i < K p := by
      intro k hk p hp hpF hpk
      obtain ⟨g1, g2⟩ := h2 p hp hpF
      have := (s3 k hk (by omega)).2
      rw [← hpk, g2, hK p (by omega)] at this
      exact this
    have old : ∀ p, p < i → K p < F → rk K (i + 1) p = (if rk K i p < r.1 then rk K i p else rk K i p + 1) ∧ va_up r.2 r.1 (2 * i + en i) (rk K (i + 1) p) = 2 * p + en p := by
      intro p hp hpF
      obtain ⟨g1, g2⟩ := h2 p hp hpF
      by_cases c : rk K i p < r.1
      · have hb : ¬ bef K i p := by
          have := low _ c p hp hpF rfl
          unfold bef; omega
        rw [if_pos c, (rk_succ K i p).2 hb, va_up_ne _ _ (by omega), s2 _ c]
        exact ⟨rfl, g2⟩
      · have hb : bef K i p := Or.inl (high _ (by omega) p hp hpF rfl)
        rw [if_neg c, (rk_succ K i p).1 hb, va_up_ne _ _ (by omega), (s3 _ (by omega) g1).1]
        exact ⟨rfl, g2⟩
    have new : rk K (i + 1) i = r.1 := by
      rw [(rk_succ K i i).2 (fun z => bef_irr z)]
      have e1 : rk K i i = cntP (fun a => K a ≤ K i) i := cntP_congr i (fun a ha => by unfold bef; omega)
      rw [e1]
      by_cases c : r.1 < x.1
      · obtain ⟨o, ho, hoF, hoq, hor⟩ := h1 r.1 c
        have hlt := high r.1 (Nat.le_refl _) o ho hoF hor
        rw [← hor]
        refine cntP_congr i (fun a ha => ⟨fun q => Or.inl (by omega), fun q => ?_⟩)
        have haF : K a < F := by unfold bef at q; omega
        exact low _ (by have := rk_lt (K := K) ha q; omega) a ha haF rfl
      · have e : r.1 = x.1 := by omega
        rw [e, h3]
        refine cntP_congr i (fun a ha => ⟨fun q => by omega, fun q => ?_⟩)
        exact low _ (by have := (h2 a ha q).1; omega) a ha q rfl
    refine ⟨fun k hk => ?_, fun p hp hpF => ?_, ?_⟩
    · have hk : k < x.1 + 1 := hk
      rcases Nat.lt_trichotomy k r.1 with c | c | c
      · obtain ⟨p, g1, g2, g3, g4⟩ := h1 k (by omega)
        obtain ⟨t1, t2⟩ := old p g1 g2
        rw [g4, if_pos c] at t1
        rw [t1] at t2
        exact ⟨p, by omega, g2, t2, t1⟩
      · exact ⟨i, by omega, hF, by rw [c]; exact va_up_self _ _ _, by rw [new, c]⟩
      · obtain ⟨p, g1, g2, g3, g4⟩ := h1 (k - 1) (by omega)
        obtain ⟨t1, t2⟩ := old p g1 g2
        rw [g4, if_neg (by omega), show k - 1 + 1 = k by omega] at t1
        rw [t1] at t2
        exact ⟨p, by omega, g2, t2, t1⟩
    · by_cases c : p = i
      · subst c
        rw [new]
        exact ⟨by show r.1 < x.1 + 1; omega, va_up_self _ _ _⟩
      · have o := old p (by omega) hpF
        have g := (h2 p (by omega) hpF).1
        refine ⟨?_, o.2⟩
        rw [o.1]
        show _ < x.1 + 1
        split <;> omega
    · show x.1 + 1 = cntP _ i + _
      rw [if_pos hF, h3]
  · rename_i hF
    have keep : ∀ p, p < i → K p < F → rk K (i + 1) p = rk K i p := fun p hp hpF => (rk_succ K i p).2 (by unfold bef; omega)
    refine ⟨fun k hk => ?_, fun p hp hpF => ?_, ?_⟩
    · obtain ⟨p, g1, g2, g3, g4⟩ := h1 k hk
      exact ⟨p, by omega, g2, g3, by rw [keep p g1 g2]; exact g4⟩
    · have hpi : p < i := by
        rcases Nat.lt_or_ge p i with z | z
        · exact z
        · have : p = i := by omega
          subst this; exact absurd hpF hF
      rw [keep p hpi hpF]
      exact h2 p hpi hpF
    · show x.1 = cntP _ i + _
      rw [if_neg hF, h3]; rfl
theorem ahead_bef (S : Nat → Nat → Nat) (d : Nat → Nat) (a p : Nat) : ahead S d a p ≠ 0 ↔ bef (dEnd S d) a p := by
  unfold ahead bef
  (repeat' split) <;> omega
theorem place_rk (S : Nat → Nat → Nat) (d : Nat → Nat) (p : Nat) : placeF S d p = rk (dEnd S d) (S 1 1) p := by
  have : ∀ n, gfor (fAhead S d p) n 0 0 = rk (dEnd S d) n p := by
    intro n
    induction n with
    | zero => rfl
    | succ n ih =>
      rw [gfor_last, ih]
      unfold fAhead
      by_cases c : ahead S d n p = 0
      · rw [if_pos c, (rk_succ _ n p).2 (fun z => (ahead_bef S d n p).mpr z c)]
      · rw [if_neg c, (rk_succ _ n p).1 ((ahead_bef S d n p).mp c)]
  exact this _
theorem reach_at {S T : Nat → Nat → Nat} (h : inv S T) {p e : Nat} (hp : p < S 1 1) (he : e < 2) : rchM T (measM T) (2 * p + e) = dAt S (measD S) p e := by
  have so := shut_open h hp he
  unfold rchM dAt
  by_cases c : shutAt S p e = 0
  · rw [if_neg (so.mp c), if_pos c, dist_eq h _ (h.2.2.2.2.2.2.1 _ (by omega)), h.2.2.1.2.2.2.2.2.2.2.2.1]
  · rw [if_pos (Classical.byContradiction fun z => c (so.mpr z)), if_neg c]
theorem end_eq {S T : Nat → Nat → Nat} (h : inv S T) {p : Nat} (hp : p < S 1 1) : endM T (measM T) p = endF S (measD S) p := by
  unfold endM endF
  have e0 := reach_at h hp (show 0 < 2 by decide)
  rw [Nat.add_zero] at e0
  rw [e0, reach_at h hp (show 1 < 2 by decide)]
  split <;> split <;> omega
theorem sort_srt {S T : Nat → Nat → Nat} (h : inv S T) : srt (dEnd S (measD S)) (endF S (measD S)) 1000000 (S 1 1) (sortM T) := by
  have hK : ∀ p, p < S 1 1 → rchM T (measM T) (2 * p + endF S (measD S) p) = dEnd S (measD S) p := fun p hp => by
    rw [reach_at h hp (by have := endF_le S (measD S) p; omega)]; rfl
  have := gfor_invK (fun i x => srt (dEnd S (measD S)) (endF S (measD S)) 1000000 i x) (fSort T (measM T)) (S 1 1) 0 (0, T 31) (fun i y _ hi hy => by
    have hs := srt_step (show i < S 1 1 by omega) hK hy
    have e : fSort T (measM T) i y = (if dEnd S (measD S) i < 1000000 then (y.1 + 1, va_up (insGo T (measM T) (dEnd S (measD S) i) y.1 y.2).2 (insGo T (measM T) (dEnd S (measD S) i) y.1 y.2).1 (2 * i + endF S (measD S) i)) else y) := by
      unfold fSort putM
      rw [end_eq h (by omega), hK i (by omega)]
    rw [e]; exact hs) ⟨fun k hk => absurd hk (Nat.not_lt_zero k), fun p hp => absurd hp (Nat.not_lt_zero p), rfl⟩
  rw [Nat.zero_add] at this
  unfold sortM
  rw [← h.2.2.1.2.1]
  exact this
theorem flush_go {S : Nat → Nat → Nat} {d : Nat → Nat} {place : Nat} : ∀ (k p : Nat), (∃ q, p ≤ q ∧ q < p + k ∧ dEnd S d q < 1000000 ∧ placeF S d q = place ∧ flushGo S d place k p = 2 * q + endF S d q) ∨ ((∀ q, p ≤ q → q < p + k → dEnd S d q < 1000000 → placeF S d q ≠ place) ∧ flushGo S d place k p = 4294967295)
  | 0, p => Or.inr ⟨fun q h1 h2 => absurd h2 (by omega), rfl⟩
  | k + 1, p => by
    have ih := flush_go (S := S) (d := d) (place := place) k (p + 1)
    unfold flushGo
    by_cases c : flushed S d p = 0
    · rw [if_pos c]
      have c' : ¬ dEnd S d p < 1000000 := by unfold flushed at c; split at c <;> simp_all
      rcases ih with ⟨q, h1, h2, h3⟩ | ⟨h1, h2⟩
      · exact Or.inl ⟨q, by omega, by omega, h3⟩
      · refine Or.inr ⟨fun q g1 g2 g3 => ?_, h2⟩
        by_cases e : q = p
        · subst e; exact absurd g3 c'
        · exact h1 q (by omega) (by omega) g3
    · rw [if_neg c]
      have c' : dEnd S d p < 1000000 := by unfold flushed at c; split at c <;> simp_all
      by_cases c2 : placeF S d p = place
      · rw [if_pos c2]
        exact Or.inl ⟨p, Nat.le_refl p, by omega, c', c2, rfl⟩
      · rw [if_neg c2]
        rcases ih with ⟨q, h1, h2, h3⟩ | ⟨h1, h2⟩
        · exact Or.inl ⟨q, by omega, by omega, h3⟩
        · refine Or.inr ⟨fun q g1 g2 g3 => ?_, h2⟩
          by_cases e : q = p
          · subst e; exact c2
          · exact h1 q (by omega) (by omega) g3
theorem flush_eq {S T : Nat → Nat → Nat} (h : inv S T) (place : Nat) : (place < (sortM T).1 → flushF S place = (sortM T).2 place ∧ flushF S place ≠ 4294967295) ∧ ((sortM T).1 ≤ place → flushF S place = 4294967295) := by
  obtain ⟨a1, a2, a3⟩ := sort_srt h
  have hP := h.1.2.1
  have go := flush_go (S := S) (d := measD S) (place := place) (S 1 1) 0
  rw [Nat.zero_add] at go
  constructor
  · intro hp
    rcases go with ⟨q, h1, h2, h3, h4, h5⟩ | ⟨h1, h2⟩
    · rw [place_rk] at h4
      have := (a2 q h2 h3).2
      rw [h4] at this
      have he := endF_le S (measD S) q
      refine ⟨by rw [this]; exact h5, ?_⟩
      unfold flushF
      rw [h5]; omega
    · obtain ⟨p, g1, g2, g3, g4⟩ := a1 place hp
      exact absurd (by rw [place_rk]; exact g4) (h1 p (Nat.zero_le p) g1 g2)
  · intro hp
    rcases go with ⟨q, h1, h2, h3, h4, h5⟩ | ⟨h1, h2⟩
    · rw [place_rk] at h4
      have := (a2 q h2 h3).1
      omega
    · exact h2
/-! walking: lengths between nodes -/
def eqv (n : Nat) (w w' : Nat → Nat) : Prop := ∀ x y, x < n → y < n → w (x * 12 + y) = w' (x * 12 + y)
theorem eqv_in {n m x a : Nat} {w w' : Nat → Nat} (hn : n ≤ 12) (hm : m < n) (hx : x < n) (ha : a < n) (h : eqv n w w') : eqv n (fCellM m x a w) (fCellC m (x * 12 + a) w') := by
  intro u v hu hv
  unfold fCellM fShW fCellC
  rw [show (x * 12 + a) / 12 * 12 + m = x * 12 + m by omega, show 12 * m + (x * 12 + a) % 12 = m * 12 + a by omega]
  simp only [va_up]
  rw [if_min, ← h x m hx hm, ← h m a hm ha, ← h x a hx ha]
  split
  · rfl
  · exact h u v hu hv
theorem eqv_out {n m x a : Nat} {w w' : Nat → Nat} (hn : n ≤ 12) (ha12 : a < 12) (ho : n ≤ x ∨ n ≤ a) (h : eqv n w w') : eqv n w (fCellC m (x * 12 + a) w') := by
  intro u v hu hv
  unfold fCellC
  rw [va_up_ne _ _ (by omega)]
  exact h u v hu hv
theorem eqv_cells {n m x : Nat} (hn : n ≤ 12) (hm : m < n) (hx : x < n) : ∀ (k a : Nat) (w w' : Nat → Nat), a + k ≤ n → eqv n w w' → eqv n (gfor (fCellM m x) k a w) (gfor (fCellC m) k (x * 12 + a) w')
  | 0, _, _, _, _, h => h
  | k + 1, a, w, w', hk, h => eqv_cells hn hm hx k (a + 1) _ _ (by omega) (eqv_in hn hm hx (by omega) h)
theorem eqv_tail {n m x : Nat} (hn : n ≤ 12) : ∀ (k a : Nat) (w w' : Nat → Nat), a + k ≤ 12 → (n ≤ x ∨ n ≤ a) → eqv n w w' → eqv n w (gfor (fCellC m) k (x * 12 + a) w')
  | 0, _, _, _, _, _, h => h
  | k + 1, a, w, w', hk, ho, h => eqv_tail hn k (a + 1) _ _ (by omega) (by omega) (eqv_out hn (by omega) ho h)
def rowC (m x : Nat) (w : Nat → Nat) : Nat → Nat := gfor (fCellC m) 12 (x * 12) w
theorem rows_split (m : Nat) : ∀ (r x : Nat) (w : Nat → Nat), gfor (fCellC m) (r * 12) (x * 12) w = gfor (rowC m) r x w
  | 0, _, _ => by rw [Nat.zero_mul]; rfl
  | r + 1, x, w => by
    rw [show (r + 1) * 12 = 12 + r * 12 by omega, gfor_split, show x * 12 + 12 = (x + 1) * 12 by omega, rows_split m r (x + 1)]
    rfl
theorem eqv_row {n m x : Nat} {S : Nat → Nat → Nat} (he : S 1 0 = n) (hn : n ≤ 12) (hm : m < n) (hx : x < n) {w w' : Nat → Nat} (h : eqv n w w') : eqv n (fRowM S m x w) (rowC m x w') := by
  unfold fRowM rowC
  rw [he, show 12 = n + (12 - n) by omega, gfor_split]
  have := eqv_cells hn hm hx n 0 w w' (by omega) h
  have h2 := eqv_tail (x := x) (m := m) hn (12 - n) n _ _ (by omega) (Or.inr (Nat.le_refl n)) this
  rw [show n + (12 - n) = 12 by omega]
  exact h2
theorem eqv_rows {n m : Nat} {S : Nat → Nat → Nat} (he : S 1 0 = n) (hn : n ≤ 12) (hm : m < n) : ∀ (k x : Nat) (w w' : Nat → Nat), x + k ≤ n → eqv n w w' → eqv n (gfor (fRowM S m) k x w) (gfor (rowC m) k x w')
  | 0, _, _, _, _, h => h
  | k + 1, x, w, w', hk, h => eqv_rows he hn hm k (x + 1) _ _ (by omega) (eqv_row he hn hm (by omega) h)
theorem eqv_rest {n m : Nat} (hn : n ≤ 12) : ∀ (k x : Nat) (w w' : Nat → Nat), n ≤ x → eqv n w w' → eqv n w (gfor (rowC m) k x w')
  | 0, _, _, _, _, h => h
  | k + 1, x, w, w', hk, h => eqv_rest hn k (x + 1) _ _ (by omega) (eqv_tail (x := x) hn 12 0 w w' (by omega) (Or.inl hk) h)
theorem eqv_mid {n m : Nat} {S : Nat → Nat → Nat} (he : S 1 0 = n) (hn : n ≤ 12) (hm : m < n) {w w' : Nat → Nat} (h : eqv n w w') : eqv n (fMid S m w) (fMidC m w') := by
  unfold fMid fMidC
  have e : gfor (fCellC m) 144 0 w' = gfor (rowC m) (12 - n) (0 + n) (gfor (rowC m) n 0 w') := by
    have := rows_split m 12 0 w'
    rw [Nat.zero_mul] at this
    rw [show 144 = 12 * 12 from rfl, this, ← gfor_split, show n + (12 - n) = 12 by omega]
  rw [e, he]
  exact eqv_rest hn (12 - n) (0 + n) _ _ (by omega) (eqv_rows he hn hm n 0 w w' (by omega) h)
theorem eqv_mids {n : Nat} {S : Nat → Nat → Nat} (he : S 1 0 = n) (hn : n ≤ 12) : ∀ (k m : Nat) (w w' : Nat → Nat), m + k ≤ n → eqv n w w' → eqv n (gfor (fMid S) k m w) (gfor fMidC k m w')
  | 0, _, _, _, _, h => h
  | k + 1, m, w, w', hk, h => eqv_mids he hn k (m + 1) _ _ (by omega) (eqv_mid he hn (by omega) h)
theorem cells0 (x : Nat) (w : Nat → Nat) : ∀ k, k ≤ 12 → (∀ y, y < k → gfor (fCell x) k 0 w (x * 12 + y) = if x = y then 0 else 1000000) ∧ ∀ j, (j < x * 12 ∨ x * 12 + 12 ≤ j) → gfor (fCell x) k 0 w j = w j
  | 0, _ => ⟨fun y h => absurd h (Nat.not_lt_zero y), fun _ _ => rfl⟩
  | k + 1, hk => by
    obtain ⟨h1, h2⟩ := cells0 x w k (by omega)
    rw [gfor_last]
    unfold fCell at *
    refine ⟨fun y hy => ?_, fun j hj => ?_⟩
    · simp only [va_up]
      split
      · rename_i e
        have : y = k := by omega
        rw [this]
      · exact h1 y (by omega)
    · simp only [va_up]
      rw [if_neg (by omega)]
      exact h2 j hj
theorem rows0 (w : Nat → Nat) : ∀ k, k ≤ 12 → ∀ x y, x < k → y < 12 → gfor fRow k 0 w (x * 12 + y) = if x = y then 0 else 1000000
  | 0, _, x, _, hx, _ => absurd hx (Nat.not_lt_zero x)
  | k + 1, hk, x, y, hx, hy => by
    rw [gfor_last]
    obtain ⟨h1, h2⟩ := cells0 k (gfor fRow k 0 w) 12 (Nat.le_refl _)
    unfold fRow at h1 h2 ⊢
    by_cases e : x = k
    · subst e; exact h1 y hy
    · rw [h2 _ (by omega)]
      have := rows0 w k (by omega) x y (by omega) hy
      unfold fRow at this
      exact this
theorem initC0 (w : Nat → Nat) {x y : Nat} (hx : x < 12) (hy : y < 12) : gfor fInitC 144 0 w (x * 12 + y) = if x = y then 0 else 1000000 := by
  have := gfor_invK (fun i (d : Nat → Nat) => ∀ j, j < i → d j = if j / 12 = j % 12 then 0 else 1000000) fInitC 144 0 w (fun i d _ hi h j hj => by
    simp only [fInitC, va_up]; split
    · rename_i e; subst e; rfl
    · exact h j (by omega)) (fun j hj => absurd hj (Nat.not_lt_zero j))
  rw [this _ (by omega), show (x * 12 + y) / 12 = x by omega, show (x * 12 + y) % 12 = y by omega]
def symW (w w' : Nat → Nat) : Prop := ∀ x y, x < 12 → y < 12 → w (x * 12 + y) = w' (x * 12 + y) ∧ w (x * 12 + y) = w (y * 12 + x)
theorem sym_pipe {S T : Nat → Nat → Nat} (h : inv S T) {p : Nat} (hp : p < S 1 1) {w w' : Nat → Nat} (hs : symW w w') : symW (fPipeW S p w) (fPipeC T p w') := by
  have h4 := h.1.2.2.2.2.2.2.2.2.1
  have e4 : S 4 = T 23 := h.2.2.1.2.2.2.2.2.2.2.2.1
  have e2 : S 2 = T 25 := h.2.2.1.2.2.2.2.2.2.1
  have hne := h.2.2.2.2.2.2.2.1 p hp
  have x12 := h4 (2 * p)
  have y12 := h4 (2 * p + 1)
  unfold fPipeW fPipeC relC fShW
  rw [← e4, ← e2, Nat.add_zero]
  generalize S 4 (2 * p) = x at *
  generalize S 4 (2 * p + 1) = y at *
  generalize S 2 p = l at *
  rw [if_min, show 12 * x + y = x * 12 + y by omega, show 12 * y + x = y * 12 + x by omega]
  have k1 := hs x y x12 y12
  have k2 := hs y x y12 x12
  intro u v hu hv
  have k3 := hs u v hu hv
  have k4 := hs v u hv hu
  simp only [va_up]
  by_cases c1 : u * 12 + v = y * 12 + x
  · have : u = y := by omega
    have : v = x := by omega
    subst u; subst v
    have d2 : ¬ x * 12 + y = y * 12 + x := by omega
    have d1 : ¬ y * 12 + x = x * 12 + y := by omega
    simp only [d1, d2, ↓reduceIte]
    rw [← k1.1, k1.2]
    exact ⟨rfl, rfl⟩
  · by_cases c2 : u * 12 + v = x * 12 + y
    · have : u = x := by omega
      have : v = y := by omega
      subst u; subst v
      have d1 : ¬ y * 12 + x = x * 12 + y := by omega
      simp only [c1, d1, ↓reduceIte]
      rw [← k1.1, k1.2]
      exact ⟨rfl, rfl⟩
    · have d1 : ¬ v * 12 + u = y * 12 + x := by omega
      have d2 : ¬ v * 12 + u = x * 12 + y := by omega
      simp only [c1, c2, d1, d2, ↓reduceIte]
      exact k3
theorem ways_eq {S T : Nat → Nat → Nat} (h : inv S T) : eqv (S 1 0) (measW S) (connM T) := by
  have e0 : S 1 0 = T 22 1 := h.2.2.1.1
  have e1 : S 1 1 = T 22 2 := h.2.2.1.2.1
  have go : ∀ (k p : Nat) (w w' : Nat → Nat), p + k ≤ S 1 1 → symW w w' → symW (gfor (fPipeW S) k p w) (gfor (fPipeC T) k p w') := by
    intro k
    induction k with
    | zero => intro p w w' _ q; exact q
    | succ k ih => intro p w w' hk q; exact ih (p + 1) _ _ (by omega) (sym_pipe h (by omega) q)
  have h0 : symW (gfor fRow 12 0 (S 19)) (gfor fInitC 144 0 (T 29)) := by
    intro x y hx hy
    rw [rows0 _ 12 (Nat.le_refl _) x y hx hy, initC0 _ hx hy, rows0 _ 12 (Nat.le_refl _) y x hy hx]
    refine ⟨rfl, ?_⟩
    split <;> split <;> omega
  have h1 := go (S 1 1) 0 _ _ (by omega) h0
  unfold measW connM
  rw [← e0, ← e1]
  exact eqv_mids rfl h.1.1 (S 1 0) 0 _ _ (by omega) (fun x y hx hy => (h1 x y (by have := h.1.1; omega) (by have := h.1.1; omega)).1)
/-! stops -/
theorem stops_eq {S T : Nat → Nat → Nat} (h : inv S T) {a : Nat} (hp : popM a ≤ 6) (ha : a < 4096) : (listF S a).1 = (stopsM T a).1 ∧ ∀ k, k < (listF S a).1 → (listF S a).2 k = (stopsM T a).2 k ∧ (listF S a).2 k < S 1 0 := by
  have ev : S 1 2 = T 22 3 := h.2.2.1.2.2.1
  have e4 : S 4 = T 23 := h.2.2.1.2.2.2.2.2.2.2.2.1
  have e7 : S 7 = T 27 := h.2.2.1.2.2.2.2.2.2.2.2.2
  have h12 := h.1.2.2.1
  have go : ∀ (k v : Nat) (x y : Nat × (Nat → Nat)), v + k = S 1 2 → x.1 = y.1 → y.1 = cntB a v → (∀ i, i < x.1 → x.2 i = y.2 i ∧ x.2 i < S 1 0) → (gfor (fStop S a) k v x).1 = (gfor (fStopM T a) k v y).1 ∧ ∀ i, i < (gfor (fStop S a) k v x).1 → (gfor (fStop S a) k v x).2 i = (gfor (fStopM T a) k v y).2 i ∧ (gfor (fStop S a) k v x).2 i < S 1 0 := by
    intro k
    induction k with
    | zero => intro v x y _ q1 _ q2; exact ⟨q1, q2⟩
    | succ k ih =>
      intro v x y hk q1 q2 q3
      have hc := cntB_le (v := v + 1) ha (by omega)
      have hc2 : cntB a (v + 1) = cntB a v + ((a >>> v) &&& 1) := rfl
      have hg := gbit_tb a v
      have ht := tb_shr a v
      show (gfor (fStop S a) k (v + 1) (fStop S a v x)).1 = (gfor (fStopM T a) k (v + 1) (fStopM T a v y)).1 ∧ _
      refine ih (v + 1) (fStop S a v x) (fStopM T a v y) (by omega) ?_ ?_ ?_
      · unfold fStop fStopM
        rw [hg, ht]
        cases e : a.testBit v
        · simp; exact q1
        · rw [e] at ht
          simp only [if_true] at ht
          rw [if_neg (by decide), if_neg (by omega), if_pos (by decide)]
          show x.1 + 1 = y.1 + 1
          omega
      · unfold fStopM
        rw [ht] at hc2 ⊢
        cases e : a.testBit v
        · simp [e] at hc2 ⊢; omega
        · simp [e] at hc2 ⊢; omega
      · unfold fStop fStopM
        rw [hg, ht]
        cases e : a.testBit v
        · simp; exact q3
        · rw [e] at ht
          simp only [if_true] at ht
          rw [if_neg (by decide), if_neg (by omega), if_pos (by decide)]
          intro i hi
          have hi : i < x.1 + 1 := hi
          simp only [va_up, q1, ← e4, ← e7]
          by_cases c : i = y.1
          · rw [if_pos c, if_pos c]
            have hv := h.2.2.2.2.2.1 v (by omega)
            exact ⟨rfl, h.2.2.2.2.2.2.1 _ hv.1⟩
          · rw [if_neg c, if_neg c]
            exact q3 i (by omega)
  unfold listF stopsM
  rw [← ev]
  exact go (S 1 2) 0 (0, S 20) (0, T 30) (by omega) rfl rfl (fun i hi => absurd hi (Nat.not_lt_zero i))
/-! walking: the least length over all orders -/
def pth (w t : Nat → Nat) (node c : Nat) : Nat → Nat → Nat → Nat → Prop
  | 0, b, k, len => k < c ∧ b = 1 <<< k ∧ len = w (node * 12 + t k)
  | s + 1, b, k, len => ∃ b' k' len', pth w t node c s b' k' len' ∧ k < c ∧ b'.testBit k = false ∧ b = b' ||| 1 <<< k ∧ len = len' + w (t k' * 12 + t k)
theorem pth_k {w t : Nat → Nat} {node c : Nat} : ∀ {s b k len : Nat}, pth w t node c s b k len → k < c ∧ b.testBit k = true
  | 0, _, _, _, h => ⟨h.1, by rw [h.2.1]; exact tb_bit_self _⟩
  | s + 1, _, _, _, ⟨b', k', len', h1, h2, h3, h4, h5⟩ => ⟨h2, by rw [h4, Nat.testBit_or, tb_bit_self, Bool.or_true]⟩
theorem pth_in {w t : Nat → Nat} {node c : Nat} : ∀ {s b k len : Nat}, pth w t node c s b k len → ∀ i, b.testBit i = true → i < c
  | 0, _, _, _, h, i, hi => by
    rw [h.2.1, tb_bit, decide_eq_true_eq] at hi
    rw [← hi]; exact h.1
  | s + 1, _, _, _, ⟨b', k', len', h1, h2, h3, h4, h5⟩, i, hi => by
    rw [h4, Nat.testBit_or, tb_bit, Bool.or_eq_true, decide_eq_true_eq] at hi
    rcases hi with hi | hi
    · exact pth_in h1 i hi
    · rw [← hi]; exact h2
theorem cntP_add {P Q : Nat → Prop} {k : Nat} (hp : ¬ P k) (hq : ∀ i, Q i ↔ (P i ∨ i = k)) : ∀ n, k < n → cntP Q n = cntP P n + 1
  | 0, h => absurd h (Nat.not_lt_zero _)
  | n + 1, h => by
    unfold cntP
    by_cases e : k = n
    · subst e
      rw [if_neg hp, if_pos ((hq k).mpr (Or.inr rfl)), cntP_congr (P := Q) (Q := P) k (fun i hi => by rw [hq i]; exact ⟨fun z => z.elim id (fun z => absurd z (by omega)), Or.inl⟩)]
    · have ih := cntP_add hp hq n (by omega)
      rw [ih]
      have e2 : Q n ↔ P n := by rw [hq n]; exact ⟨fun z => z.elim id (fun z => absurd z (by omega)), Or.inl⟩
      by_cases q : P n
      · rw [if_pos q, if_pos (e2.mpr q)]
      · rw [if_neg q, if_neg (fun z => q (e2.mp z))]
theorem cntP_none {P : Nat → Prop} (h : ∀ i, ¬ P i) : ∀ n, cntP P n = 0
  | 0 => rfl
  | n + 1 => by unfold cntP; rw [cntP_none h n, if_neg (h n)]
theorem pth_cnt {w t : Nat → Nat} {node c : Nat} : ∀ {s b k len : Nat}, pth w t node c s b k len → cntP (fun i => b.testBit i = true) c = s + 1
  | 0, b, k, _, h => by
    have := cntP_add (P := fun _ => False) (Q := fun i => b.testBit i = true) (k := k) (fun z => z) (fun i => by rw [h.2.1, tb_bit, decide_eq_true_eq]; exact ⟨fun z => Or.inr z.symm, fun z => z.elim False.elim (fun z => z.symm)⟩) c h.1
    rw [this, cntP_none (fun _ z => z)]
  | s + 1, b, k, _, ⟨b', k', len', h1, h2, h3, h4, h5⟩ => by
    have := cntP_add (P := fun i => b'.testBit i = true) (Q := fun i => b.testBit i = true) (k := k) (by rw [h3]; decide) (fun i => by rw [h4, Nat.testBit_or, tb_bit, Bool.or_eq_true, decide_eq_true_eq]; exact ⟨fun z => z.imp id Eq.symm, fun z => z.imp id Eq.symm⟩) c h2
    rw [this, pth_cnt h1]
theorem pth_all {w t : Nat → Nat} {node c : Nat} {s b k len : Nat} (h : pth w t node c s b k len) : s + 1 = c ↔ b = 2 ^ c - 1 := by
  have hc := pth_cnt h
  constructor
  · intro e
    refine Nat.eq_of_testBit_eq fun i => ?_
    rw [Nat.testBit_two_pow_sub_one]
    by_cases q : i < c
    · have := cntP_all c (by rw [hc, e]; exact Nat.le_refl c) i q
      rw [this]; simp [q]
    · cases e2 : b.testBit i with
      | false => simp [q]
      | true => exact absurd (pth_in h i e2) q
  · intro e
    rw [← hc]
    have : cntP (fun _ => True) c = c := by
      have := cntP_le (fun _ => True) c
      have h2 : ∀ n, cntP (fun _ => True) n = n := by
        intro n
        induction n with
        | zero => rfl
        | succ n ih => unfold cntP; rw [ih, if_pos trivial]
      exact h2 c
    have e5 : cntP (fun i => b.testBit i = true) c = cntP (fun _ => True) c := cntP_congr c (fun i hi => by
      rw [e, Nat.testBit_two_pow_sub_one]
      simp [hi])
    rw [e5, this]
/-- l's entry is the least length, at most 1000000 -/
def good (w t : Nat → Nat) (node c b k v : Nat) : Prop := v ≤ 1000000 ∧ (v < 1000000 → ∃ s, pth w t node c s b k v) ∧ ∀ s len, pth w t node c s b k len → v ≤ len
theorem minGo {P : Nat → Prop} {g : Nat → Nat} {f : Nat → Nat → Nat} (hf : ∀ k len, (P k → f k len = min len (g k)) ∧ (¬ P k → f k len = len)) : ∀ (c : Nat), gfor f c 0 1000000 ≤ 1000000 ∧ (∀ k, k < c → P k → gfor f c 0 1000000 ≤ g k) ∧ (gfor f c 0 1000000 < 1000000 → ∃ k, k < c ∧ P k ∧ gfor f c 0 1000000 = g k)
  | 0 => ⟨Nat.le_refl _, fun k h => absurd h (Nat.not_lt_zero k), fun h => absurd h (Nat.lt_irrefl _)⟩
  | c + 1 => by
    obtain ⟨h1, h2, h3⟩ := minGo hf c
    rw [gfor_last]
    by_cases q : P c
    · rw [(hf c _).1 q]
      refine ⟨by omega, fun k hk hp => ?_, fun hlt => ?_⟩
      · by_cases e : k = c
        · subst e; omega
        · have := h2 k (by omega) hp; omega
      · rcases Nat.le_total (gfor f c 0 1000000) (g c) with z | z
        · rw [Nat.min_eq_left z] at hlt ⊢
          obtain ⟨k, a1, a2, a3⟩ := h3 hlt
          exact ⟨k, by omega, a2, a3⟩
        · rw [Nat.min_eq_right z]
          exact ⟨c, by omega, q, rfl⟩
    · rw [(hf c _).2 q]
      refine ⟨h1, fun k hk hp => ?_, fun hlt => ?_⟩
      · by_cases e : k = c
        · subst e; exact absurd hp q
        · exact h2 k (by omega) hp
      · obtain ⟨k, a1, a2, a3⟩ := h3 hlt
        exact ⟨k, by omega, a2, a3⟩
theorem tb_drop {set last : Nat} (hl : last < 32) (hs : set < 4294967296) (i : Nat) : (set &&& ((1 <<< last) ^^^ 4294967295)).testBit i = (set.testBit i && !(decide (last = i))) := by
  rw [Nat.testBit_and]
  by_cases q : i < 32
  · rw [tb_not32 q, tb_bit]
  · cases e : set.testBit i with
    | false => simp
    | true => exact absurd (lt_of_tb (n := 32) hs e) q
theorem least_good {w t l : Nat → Nat} {node set last c : Nat} (hc : c ≤ 6) (hset : set < 2 ^ c) (hlast : last < c) (hb : set.testBit last = true) (hB : leB 144 1000000 w) (hn : node < 12) (ht : ∀ k, k < c → t k < 12)
    (hl : ∀ b k, b < set → k < c → b.testBit k = true → good w t node c b k (l (b * 6 + k))) : good w t node c set last (leastE w t l node set last c) := by
  have h64 : (2 : Nat) ^ c ≤ 2 ^ 6 := Nat.pow_le_pow_right (by decide) hc
  have hs32 : set < 4294967296 := by have : (2:Nat) ^ 6 = 64 := rfl; omega
  have hd := tb_drop (set := set) (last := last) (by omega) hs32
  generalize hbe : set &&& ((1 <<< last) ^^^ 4294967295) = b at hd
  have hbl : b.testBit last = false := by rw [hd]; simp
  have hu : set = b ||| 1 <<< last := Nat.eq_of_testBit_eq fun i => by
    rw [Nat.testBit_or, hd, tb_bit]
    by_cases q : last = i
    · subst q; simp [hb]
    · simp [q]
  have huniq : ∀ b', b'.testBit last = false → set = b' ||| 1 <<< last → b' = b := fun b' h1 h2 => Nat.eq_of_testBit_eq fun i => by
    rw [hd, h2, Nat.testBit_or, tb_bit]
    by_cases q : last = i
    · subst q; simp [h1]
    · simp [q]
  unfold leastE
  rw [hbe]
  by_cases c0 : b = 0
  · rw [if_pos c0]
    subst c0
    have hset1 : set = 1 <<< last := by rw [hu, Nat.zero_or]
    refine ⟨hB _ (by have := ht last hlast; omega), fun _ => ⟨0, hlast, hset1, rfl⟩, fun s len h => ?_⟩
    cases s with
    | zero => exact Nat.le_of_eq h.2.2.symm
    | succ s =>
      obtain ⟨b', k', len', h1, h2, h3, h4, h5⟩ := h
      have := huniq b' h3 h4
      subst this
      have := (pth_k h1).2
      simp at this
  · rw [if_neg c0]
    have hlt : b < set := by
      rw [← hbe]
      refine drop_lt' (by have : (2:Nat) ^ 6 = 64 := rfl; omega) (by omega) ?_
      rw [gbit_tb, hb]; decide
    have hg := minGo (P := fun k => b.testBit k = true) (g := fun k => l (b * 6 + k) + w (t k * 12 + t last)) (f := fLE w t l b last) (fun k len => by
      unfold fLE
      rw [gbit_tb]
      constructor
      · intro q; rw [q]; simp
      · intro q; rw [if_neg q]; simp) c
    obtain ⟨g1, g2, g3⟩ := hg
    refine ⟨g1, fun hlt2 => ?_, fun s len h => ?_⟩
    · obtain ⟨k, a1, a2, a3⟩ := g3 hlt2
      have gk := hl b k hlt a1 a2
      obtain ⟨s, hs⟩ := gk.2.1 (by omega)
      exact ⟨s + 1, b, k, _, hs, hlast, hbl, hu, a3⟩
    · cases s with
      | zero =>
        exact absurd (huniq 0 (Nat.zero_testBit _) (by rw [Nat.zero_or]; exact h.2.1)).symm c0
      | succ s =>
        obtain ⟨b', k', len', h1, h2, h3, h4, h5⟩ := h
        have := huniq b' h3 h4
        subst this
        have hk := pth_k h1
        have z1 := g2 k' hk.1 hk.2
        have z2 := (hl b' k' hlt hk.1 hk.2).2.2 s len' h1
        omega
def gdTab (w t : Nat → Nat) (node c set last : Nat) (l : Nat → Nat) : Prop := ∀ b k, (b < set ∨ (b = set ∧ k < last)) → k < c → b.testBit k = true → good w t node c b k (l (b * 6 + k))
theorem gd_step {w t l : Nat → Nat} {node c set last : Nat} (hc : c ≤ 6) (hset : set < 2 ^ c) (hlast : last < c) (hB : leB 144 1000000 w) (hn : node < 12) (ht : ∀ k, k < c → t k < 12) (h : gdTab w t node c set last l) : gdTab w t node c set (last + 1) (fLast w t node c set last l) := by
  intro b k hb hk hbit
  unfold fLast
  rw [gbit_tb]
  by_cases c1 : set.testBit last = true
  · rw [if_pos c1, if_neg (by decide)]
    simp only [va_up]
    by_cases e : b * 6 + k = set * 6 + last
    · have : b = set := by omega
      have : k = last := by omega
      subst b; subst k
      rw [if_pos rfl]
      exact least_good hc hset hlast c1 hB hn ht (fun b k z => h b k (Or.inl z))
    · rw [if_neg e]
      exact h b k (by omega) hk hbit
  · rw [if_neg c1, if_pos rfl]
    refine h b k ?_ hk hbit
    rcases hb with z | ⟨z1, z2⟩
    · exact Or.inl z
    · subst z1
      by_cases e : k = last
      · subst e; exact absurd hbit c1
      · exact Or.inr ⟨rfl, by omega⟩
theorem gd_row {w t : Nat → Nat} {node c set : Nat} (hc : c ≤ 6) (hset : set < 2 ^ c) (hB : leB 144 1000000 w) (hn : node < 12) (ht : ∀ k, k < c → t k < 12) : ∀ (k last : Nat) (l : Nat → Nat), last + k = c → gdTab w t node c set last l → gdTab w t node c (set + 1) 0 (gfor (fLast w t node c set) k last l)
  | 0, last, l, hk, h => fun b i hb hi hbit => h b i (by omega) hi hbit
  | k + 1, last, l, hk, h => gd_row hc hset hB hn ht k (last + 1) _ (by omega) (gd_step hc hset (by omega) hB hn ht h)
theorem gd_tab {w t : Nat → Nat} {node c : Nat} (hc : c ≤ 6) (hB : leB 144 1000000 w) (hn : node < 12) (ht : ∀ k, k < c → t k < 12) : ∀ (k set : Nat) (l : Nat → Nat), set + k ≤ 2 ^ c → gdTab w t node c set 0 l → gdTab w t node c (set + k) 0 (gfor (fSet w t node c) k set l)
  | 0, _, _, _, h => h
  | k + 1, set, l, hk, h => by
    rw [show set + (k + 1) = set + 1 + k by omega]
    exact gd_tab hc hB hn ht k (set + 1) _ (by omega) (gd_row hc (by omega) hB hn ht c 0 l (by omega) h)
/-- the class's length -/
theorem len_good {w t l : Nat → Nat} {node c : Nat} (hc : c ≤ 6) (hB : leB 144 1000000 w) (hn : node < 12) (ht : ∀ k, k < c → t k < 12) :
    lenF (tabF w t node c l) c ≤ 1000000 ∧ (lenF (tabF w t node c l) c < 1000000 → ∃ s k, pth w t node c s (2 ^ c - 1) k (lenF (tabF w t node c l) c)) ∧ ∀ s k len, pth w t node c s (2 ^ c - 1) k len → lenF (tabF w t node c l) c ≤ len := by
  have hp : 0 < 2 ^ c := Nat.pos_of_ne_zero (by simp)
  have htab : gdTab w t node c (2 ^ c) 0 (tabF w t node c l) := by
    have := gd_tab hc hB hn ht (2 ^ c - 1) 1 l (by omega) (fun b k hb hk hbit => by
      have : b = 0 := by omega
      subst this
      simp at hbit)
    rw [show 1 + (2 ^ c - 1) = 2 ^ c by omega] at this
    unfold tabF
    rw [Nat.one_shiftLeft]
    exact this
  have hg := minGo (P := fun _ => True) (g := fun k => tabF w t node c l ((2 ^ c - 1) * 6 + k)) (f := fMinL (tabF w t node c l) ((1 <<< c) - 1)) (fun k len => ⟨fun _ => by unfold fMinL; rw [Nat.one_shiftLeft], fun q => absurd trivial q⟩) c
  have he : ∀ k, k < c → good w t node c (2 ^ c - 1) k (tabF w t node c l ((2 ^ c - 1) * 6 + k)) := fun k hk => htab (2 ^ c - 1) k (Or.inl (by omega)) hk (by rw [Nat.testBit_two_pow_sub_one]; simp [hk])
  unfold lenF
  obtain ⟨g1, g2, g3⟩ := hg
  refine ⟨g1, fun hlt => ?_, fun s k len h => ?_⟩
  · obtain ⟨k, a1, _, a3⟩ := g3 hlt
    obtain ⟨s, hs⟩ := (he k a1).2.1 (by omega)
    exact ⟨s, k, by rw [a3]; exact hs⟩
  · have hk := (pth_k h).1
    have z1 := g2 k hk trivial
    have z2 := (he k hk).2.2 s len h
    omega
/-- the reference's orders -/
theorem code_of {w t : Nat → Nat} {node c : Nat} (hc : 0 < c) : ∀ {s b k len : Nat}, pth w t node c s b k len → ∃ code, code < c ^ (s + 1) ∧ ∀ r rest, wkGo w t c (r + (s + 1)) node 0 0 (code + c ^ (s + 1) * rest) = wkGo w t c r (t k) len b rest
  | 0, b, k, len, ⟨h1, h2, h3⟩ => ⟨k, by simpa using h1, fun r rest => by
    have e1 : (k + c ^ 1 * rest) % c = k := by rw [Nat.pow_one, Nat.add_mul_mod_self_left, Nat.mod_eq_of_lt h1]
    have e2 : (k + c ^ 1 * rest) / c = rest := by rw [Nat.pow_one, Nat.add_mul_div_left _ _ hc, Nat.div_eq_of_lt h1, Nat.zero_add]
    rw [wkGo_neg (by rw [Nat.zero_add, e1]; simp), Nat.zero_add, e1, e2, h2, h3, Nat.zero_or, Nat.zero_add, Nat.mul_comm 12 node]⟩
  | s + 1, b, k, len, ⟨b', k', len', h1, h2, h3, h4, h5⟩ => by
    obtain ⟨code, hcode, hrun⟩ := code_of hc h1
    have hle : c ^ (s + 1) * k + c ^ (s + 1) ≤ c ^ (s + 1) * c := by
      rw [← Nat.mul_succ]; exact Nat.mul_le_mul_left _ (by omega)
    refine ⟨code + c ^ (s + 1) * k, by rw [show c ^ (s + 1 + 1) = c ^ (s + 1) * c from Nat.pow_succ c (s + 1)]; omega, fun r rest => ?_⟩
    have e0 : code + c ^ (s + 1) * k + c ^ (s + 1 + 1) * rest = code + c ^ (s + 1) * (k + c * rest) := by
      rw [show c ^ (s + 1 + 1) = c ^ (s + 1) * c from Nat.pow_succ c (s + 1), Nat.mul_add, Nat.mul_assoc]; omega
    have e1 : (k + c * rest) % c = k := by rw [Nat.add_mul_mod_self_left, Nat.mod_eq_of_lt h2]
    have e2 : (k + c * rest) / c = rest := by rw [Nat.add_mul_div_left _ _ hc, Nat.div_eq_of_lt h2, Nat.zero_add]
    rw [e0, show r + (s + 1 + 1) = (r + 1) + (s + 1) by omega, hrun (r + 1) (k + c * rest), wkGo_neg (by rw [e1, and_bit1, h3]; decide), e1, e2, h4, h5, Nat.mul_comm 12 (t k')]
theorem wk_sound {w t : Nat → Nat} {node c : Nat} (hc : 0 < c) : ∀ (k nd sum seen rest : Nat), k + cntP (fun i => seen.testBit i = true) c = c → ((seen = 0 ∧ nd = node ∧ sum = 0) ∨ ∃ s last, pth w t node c s seen last sum ∧ nd = t last) → wkGo w t c k nd sum seen rest < 1000000 → ∃ s last, pth w t node c s (2 ^ c - 1) last (wkGo w t c k nd sum seen rest)
  | 0, nd, sum, seen, rest, hk, hs, hlt => by
    rcases hs with ⟨h1, _, _⟩ | ⟨s, last, h1, _⟩
    · rw [h1, cntP_none (fun i => by simp)] at hk; omega
    · have e : s + 1 = c := by rw [← pth_cnt h1]; omega
      have := (pth_all h1).mp e
      refine ⟨s, last, ?_⟩
      rw [← this]; exact h1
  | k + 1, nd, sum, seen, rest, hk, hs, hlt => by
    by_cases q : (seen >>> (rest % c)) &&& 1 = 1
    · rw [wkGo_pos q] at hlt; exact absurd hlt (by decide)
    · rw [wkGo_neg q] at hlt ⊢
      have hm := Nat.mod_lt rest hc
      rw [and_bit1, Bool.not_eq_true] at q
      have hcnt := cntP_add (P := fun i => seen.testBit i = true) (Q := fun i => (seen ||| 1 <<< (rest % c)).testBit i = true) (k := rest % c) (by rw [q]; decide) (fun i => by rw [Nat.testBit_or, tb_bit, Bool.or_eq_true, decide_eq_true_eq]; exact ⟨fun z => z.imp id Eq.symm, fun z => z.imp id Eq.symm⟩) c hm
      refine wk_sound hc k _ _ _ _ (by rw [hcnt]; omega) (Or.inr ?_) hlt
      rcases hs with ⟨h1, h2, h3⟩ | ⟨s, last, h1, h2⟩
      · subst h1; subst h2; subst h3
        exact ⟨0, rest % c, ⟨hm, by rw [Nat.zero_or], by rw [Nat.zero_add, Nat.mul_comm]⟩, rfl⟩
      · subst h2
        exact ⟨s + 1, rest % c, ⟨seen, last, sum, h1, hm, q, rfl, by rw [Nat.mul_comm 12]⟩, rfl⟩
theorem powGo (m : Nat) : ∀ k, gfor (fPowM m) k 0 1 = m ^ k
  | 0 => rfl
  | k + 1 => by rw [gfor_last, powGo m k]; rfl
theorem best_good (w t : Nat → Nat) (node : Nat) {c : Nat} (hc : 0 < c) :
    bestM w t node c ≤ 1000000 ∧ (bestM w t node c < 1000000 → ∃ s k, pth w t node c s (2 ^ c - 1) k (bestM w t node c)) ∧ ∀ s k len, pth w t node c s (2 ^ c - 1) k len → bestM w t node c ≤ len := by
  have hg := minGo (P := fun _ => True) (g := fun code => walkedF w t node c code) (f := fLeastM w t node c) (fun k len => ⟨fun _ => by unfold fLeastM; exact if_min _ _, fun q => absurd trivial q⟩) (codesM c)
  have hcodes : codesM c = c ^ c := powGo c c
  unfold bestM
  obtain ⟨g1, g2, g3⟩ := hg
  refine ⟨g1, fun hlt => ?_, fun s k len h => ?_⟩
  · obtain ⟨code, a1, _, a3⟩ := g3 hlt
    have a3 : _ = walkedF w t node c code := a3
    rw [a3] at hlt ⊢
    exact wk_sound hc c node 0 0 code (by rw [cntP_none (fun i => by simp)]; rfl) (Or.inl ⟨rfl, rfl, rfl⟩) hlt
  · have e := (pth_all h).mpr rfl
    obtain ⟨code, h1, h2⟩ := code_of hc h
    have := g2 code (by rw [hcodes]; rw [e] at h1; exact h1) trivial
    have h3 := h2 0 0
    rw [Nat.mul_zero, Nat.add_zero, Nat.zero_add, e] at h3
    have h4 : walkedF w t node c code = len := h3
    omega
theorem wk_congr {w w' t t' : Nat → Nat} {n c : Nat} (hc : 0 < c) (hw : eqv n w w') (ht : ∀ k, k < c → t k = t' k ∧ t k < n) : ∀ (k nd sum seen rest : Nat), nd < n → wkGo w t c k nd sum seen rest = wkGo w' t' c k nd sum seen rest
  | 0, _, _, _, _, _ => rfl
  | k + 1, nd, sum, seen, rest, hn => by
    have hm := ht _ (Nat.mod_lt rest hc)
    unfold wkGo
    rw [← hm.1, Nat.mul_comm 12 nd, hw nd (t (rest % c)) hn hm.2, wk_congr hc hw ht k _ _ _ _ hm.2]
theorem walk_eq {S T : Nat → Nat → Nat} (h : inv S T) {n a : Nat} (hn : n < S 1 0) (ha : a < 1 <<< S 1 2) (hp : popM a ≤ 6) : walkF S n a = walkM T n a := by
  have h12 := h.1.2.2.1
  have hnode := h.1.1
  have ha12 : a < 4096 := Nat.lt_of_lt_of_le ha (shl1_le (n := 12) h12)
  obtain ⟨s1, s2⟩ := stops_eq h hp ha12
  have hc6 := listF_c S a
  have hw := ways_eq h
  unfold walkF walkM
  rw [← s1]
  by_cases c0 : (listF S a).1 = 0
  · rw [if_pos c0, c0]
    have : bestM (connM T) (stopsM T a).2 n 0 = 0 := by
      show gfor (fLeastM (connM T) (stopsM T a).2 n 0) 1 0 1000000 = 0
      show fLeastM (connM T) (stopsM T a).2 n 0 0 1000000 = 0
      unfold fLeastM
      rw [show walkedF (connM T) (stopsM T a).2 n 0 0 = 0 from rfl]
      rfl
    rw [this]; rfl
  · rw [if_neg c0]
    have hB := measW_le h.1
    have ht : ∀ k, k < (listF S a).1 → (listF S a).2 k < 12 := fun k hk => by have := (s2 k hk).2; omega
    have e : bestM (connM T) (stopsM T a).2 n (listF S a).1 = bestM (measW S) (listF S a).2 n (listF S a).1 := by
      unfold bestM
      refine gfor_ext _ _ _ (fun code l _ _ => ?_)
      unfold fLeastM walkedF
      rw [wk_congr (Nat.pos_of_ne_zero c0) hw s2 _ _ _ _ _ hn]
    rw [e]
    obtain ⟨a1, a2, a3⟩ := len_good (l := S 21) hc6 hB (show n < 12 by omega) ht
    obtain ⟨b1, b2, b3⟩ := best_good (measW S) (listF S a).2 n (Nat.pos_of_ne_zero c0)
    have : lenF (tabF (measW S) (listF S a).2 n (listF S a).1 (S 21)) (listF S a).1 = bestM (measW S) (listF S a).2 n (listF S a).1 := by
      refine Nat.le_antisymm ?_ ?_
      · rcases Nat.lt_or_ge (bestM (measW S) (listF S a).2 n (listF S a).1) 1000000 with z | z
        · obtain ⟨s, k, q⟩ := b2 z
          exact a3 s k _ q
        · omega
      · rcases Nat.lt_or_ge (lenF (tabF (measW S) (listF S a).2 n (listF S a).1 (S 21)) (listF S a).1) 1000000 with z | z
        · obtain ⟨s, k, q⟩ := a2 z
          exact b3 s k _ q
        · omega
    rw [this]
