/-! the link is kept -/
theorem inv_frame {S T S' T' : Nat → Nat → Nat} (h : inv S T) (hS : ∀ q, 1 ≤ q → q ≤ 7 → S' q = S q) (hT : ∀ i, i ≠ 0 → i ≠ 16 → T' 22 i = T 22 i) (hT2 : ∀ q, 23 ≤ q → q ≤ 27 → T' q = T q) : inv S' T' := by
  have s1 := hS 1 (by decide) (by decide)
  have s2 := hS 2 (by decide) (by decide)
  have s3 := hS 3 (by decide) (by decide)
  have s4 := hS 4 (by decide) (by decide)
  have s5 := hS 5 (by decide) (by decide)
  have s6 := hS 6 (by decide) (by decide)
  have s7 := hS 7 (by decide) (by decide)
  have t3 := hT2 23 (by decide) (by decide)
  have t4 := hT2 24 (by decide) (by decide)
  have t5 := hT2 25 (by decide) (by decide)
  have t6 := hT2 26 (by decide) (by decide)
  have t7 := hT2 27 (by decide) (by decide)
  have u1 := hT 1 (by decide) (by decide)
  have u2 := hT 2 (by decide) (by decide)
  have u3 := hT 3 (by decide) (by decide)
  have u4 := hT 4 (by decide) (by decide)
  have u10 := hT 10 (by decide) (by decide)
  have u11 := hT 11 (by decide) (by decide)
  unfold inv wfC wfM lnk netS at h ⊢
  rw [s1, s2, s3, s4, s5, s6, s7, t3, t4, t5, t6, t7, u1, u2, u3, u4, u10, u11]
  exact h
theorem inv_0 : inv (fun _ _ => 0) (fun _ _ => 0) := by
  refine ⟨?_, ?_, ?_, ?_⟩
  · unfold wfC; simp
  · unfold wfM; simp
  · unfold lnk; simp
  · refine ⟨fun j hj => absurd hj (by simp), fun j hj => absurd hj (by simp), fun j hj => absurd hj (by simp), fun j hj => absurd hj (by simp), fun j hj => absurd hj (by simp), fun j hj => absurd hj (by simp), fun _ _ => rfl, by decide, by decide, by decide⟩
theorem gwith_tb {s k : Nat} (b : Nat) (hs : s < 4294967296) (hk : k < 32) : gwith s k b = if b = 0 then s &&& ((1 <<< k) ^^^ 4294967295) else s ||| (1 <<< k) := rfl
theorem gwith_lt {s k n : Nat} (b : Nat) (hs : s < 1 <<< n) (hk : k < n) : gwith s k b < 1 <<< n := by
  rw [Nat.one_shiftLeft] at hs ⊢
  unfold gwith
  split
  · exact Nat.lt_of_le_of_lt Nat.and_le_left hs
  · exact Nat.or_lt_two_pow hs (by rw [Nat.one_shiftLeft]; exact Nat.pow_lt_pow_right (by decide) hk)
def setF (U : Nat → Nat → Nat) (q i x : Nat) : Nat → Nat → Nat := va_up U q (va_up (U q) i x)
theorem inv_source {S T : Nat → Nat → Nat} (h : inv S T) {n : Nat} (i : Nat) (hn : n < S 1 0) : inv (gup S 1 3 (gwith (S 1 3) n i)) (va_up T 22 (va_up (va_up (T 22) 0 0) 4 (if i = 0 then T 22 4 &&& ((1 <<< n) ^^^ 4294967295) else T 22 4 ||| (1 <<< n)))) := by
  obtain ⟨⟨a0, a1, a2, a3, a4, a5, a6⟩, ⟨b1, b2, b3, b4, b5, b6, b7⟩, ⟨l0, l1, l2, l3, l4, l5, l6⟩, ⟨n1, n2, n3, n4, n5, n6, n7, n8, n9, n10⟩⟩ := h
  have e : (if i = 0 then T 22 4 &&& ((1 <<< n) ^^^ 4294967295) else T 22 4 ||| (1 <<< n)) = gwith (S 1 3) n i := by rw [l3]; rfl
  have hlt := gwith_lt i n8 hn
  have h12 : 1 <<< S 1 0 ≤ 4096 := shl1_le (n := 12) a0
  rw [e]
  refine ⟨⟨?_, ?_, ?_, ?_, ?_, ?_, ?_⟩, ⟨?_, ?_, ?_, ?_, ?_, ?_, ?_⟩, ⟨?_, ?_, ?_, ?_, ?_, ?_, ?_⟩, ⟨?_, ?_, ?_, ?_, ?_, ?_, ?_, ?_, ?_, ?_⟩⟩ <;> simp [gup, va_up] <;> first | assumption | omega
theorem inv_stuck {S T : Nat → Nat → Nat} (h : inv S T) {n : Nat} (i : Nat) (hn : n < S 1 2) : inv (gup S 1 5 (gwith (S 1 5) n i)) (va_up T 22 (va_up (va_up (T 22) 0 0) 11 (if i = 0 then T 22 11 &&& ((1 <<< n) ^^^ 4294967295) else T 22 11 ||| (1 <<< n)))) := by
  obtain ⟨⟨a0, a1, a2, a3, a4, a5, a6⟩, ⟨b1, b2, b3, b4, b5, b6, b7⟩, ⟨l0, l1, l2, l3, l4, l5, l6⟩, ⟨n1, n2, n3, n4, n5, n6, n7, n8, n9, n10⟩⟩ := h
  have e : (if i = 0 then T 22 11 &&& ((1 <<< n) ^^^ 4294967295) else T 22 11 ||| (1 <<< n)) = gwith (S 1 5) n i := by rw [l5]; rfl
  have hlt := gwith_lt i n10 hn
  have h12 : 1 <<< S 1 2 ≤ 4096 := shl1_le (n := 12) a2
  rw [e]
  refine ⟨⟨?_, ?_, ?_, ?_, ?_, ?_, ?_⟩, ⟨?_, ?_, ?_, ?_, ?_, ?_, ?_⟩, ⟨?_, ?_, ?_, ?_, ?_, ?_, ?_⟩, ⟨?_, ?_, ?_, ?_, ?_, ?_, ?_, ?_, ?_, ?_⟩⟩ <;> simp [gup, va_up] <;> first | assumption | omega
theorem inv_shut {S T : Nat → Nat → Nat} (h : inv S T) {n : Nat} (i : Nat) (hn : n < S 1 2) : inv (gup S 1 4 (gwith (S 1 4) n i)) (va_up T 22 (va_up (va_up (T 22) 0 0) 10 (if i = 0 then T 22 10 &&& ((1 <<< n) ^^^ 4294967295) else T 22 10 ||| (1 <<< n)))) := by
  obtain ⟨⟨a0, a1, a2, a3, a4, a5, a6⟩, ⟨b1, b2, b3, b4, b5, b6, b7⟩, ⟨l0, l1, l2, l3, l4, l5, l6⟩, ⟨n1, n2, n3, n4, n5, n6, n7, n8, n9, n10⟩⟩ := h
  have e : (if i = 0 then T 22 10 &&& ((1 <<< n) ^^^ 4294967295) else T 22 10 ||| (1 <<< n)) = gwith (S 1 4) n i := by rw [l4]; rfl
  have hlt := gwith_lt i n9 hn
  have h12 : 1 <<< S 1 2 ≤ 4096 := shl1_le (n := 12) a2
  rw [e]
  refine ⟨⟨?_, ?_, ?_, ?_, ?_, ?_, ?_⟩, ⟨?_, ?_, ?_, ?_, ?_, ?_, ?_⟩, ⟨?_, ?_, ?_, ?_, ?_, ?_, ?_⟩, ⟨?_, ?_, ?_, ?_, ?_, ?_, ?_, ?_, ?_, ?_⟩⟩ <;> simp [gup, va_up] <;> first | assumption | omega
theorem shl_mono {a b : Nat} (h : a ≤ b) : 1 <<< a ≤ 1 <<< b := by
  rw [Nat.one_shiftLeft, Nat.one_shiftLeft]; exact Nat.pow_le_pow_right (by decide) h
theorem inv_node {S T : Nat → Nat → Nat} (h : inv S T) (i : Nat) (hn : S 1 0 < 12) : inv (gup (gup S 1 0 (S 1 0 + 1)) 1 3 (gwith (S 1 3) (S 1 0) i)) (va_up T 22 (va_up (va_up (va_up (T 22) 0 0) 4 (T 22 4 ||| (if i = 0 then 0 else 1 <<< T 22 1))) 1 (T 22 1 + 1))) := by
  obtain ⟨⟨a0, a1, a2, a3, a4, a5, a6⟩, ⟨b1, b2, b3, b4, b5, b6, b7⟩, ⟨l0, l1, l2, l3, l4, l5, l6⟩, ⟨n1, n2, n3, n4, n5, n6, n7, n8, n9, n10⟩⟩ := h
  have hbit : (S 1 3).testBit (S 1 0) = false := by
    cases e : (S 1 3).testBit (S 1 0) with
    | false => rfl
    | true =>
      rw [Nat.one_shiftLeft] at n8
      have := lt_of_tb n8 e; omega
  have e : T 22 4 ||| (if i = 0 then 0 else 1 <<< T 22 1) = gwith (S 1 3) (S 1 0) i := by
    rw [← l3, ← l0]
    unfold gwith
    by_cases q : i = 0
    · rw [if_pos q, if_pos q, Nat.or_zero]
      refine Nat.eq_of_testBit_eq fun k => ?_
      rw [tb_drop (by omega) (by omega)]
      by_cases z : S 1 0 = k
      · subst z; simp [hbit]
      · simp [z]
    · rw [if_neg q, if_neg q]
  have h12 : 1 <<< (S 1 0 + 1) ≤ 4096 := shl1_le (n := 12) hn
  have hm : 1 <<< S 1 0 ≤ 1 <<< (S 1 0 + 1) := shl_mono (by omega)
  have hlt := gwith_lt (n := S 1 0 + 1) (k := S 1 0) i (Nat.lt_of_lt_of_le n8 hm) (by omega)
  rw [e]
  refine ⟨⟨?_, ?_, ?_, ?_, ?_, ?_, ?_⟩, ⟨?_, ?_, ?_, ?_, ?_, ?_, ?_⟩, ⟨?_, ?_, ?_, ?_, ?_, ?_, ?_⟩, ⟨?_, ?_, ?_, ?_, ?_, ?_, ?_, ?_, ?_, ?_⟩⟩ <;> simp [gup, va_up] <;> first | assumption | omega | (intro j hj; have := n4 j hj; omega)
theorem inv_pipe {S T : Nat → Nat → Nat} (h : inv S T) {x y ln cu : Nat} (hx : x < S 1 0) (hy : y < S 1 0) (hxy : x ≠ y) (hl : 1 ≤ ln ∧ ln ≤ 99) (hc : cu ≤ 99) (hp : S 1 1 < 16) :
    inv (gup (gup (gup (gup (gup (gup (gup S 1 1 (S 1 1 + 1)) 2 (S 1 1) ln) 3 (S 1 1) cu) 4 (2 * S 1 1 + 0) x) 6 (2 * S 1 1 + 0) ((1 <<< x) ||| (1 <<< (12 + S 1 1)))) 4 (2 * S 1 1 + 1) y) 6 (2 * S 1 1 + 1) ((1 <<< y) ||| (1 <<< (12 + S 1 1))))
      (va_up (va_up (va_up (va_up (va_up T 22 (va_up (va_up (T 22) 0 0) 2 (T 22 2 + 1))) 23 (va_up (va_up (T 23) (2 * T 22 2) x) (2 * T 22 2 + 1) y)) 24 (va_up (va_up (T 24) (2 * T 22 2) 4294967295) (2 * T 22 2 + 1) 4294967295)) 25 (va_up (T 25) (T 22 2) ln)) 26 (va_up (T 26) (T 22 2) cu)) := by
  obtain ⟨⟨a0, a1, a2, a3, a4, a5, a6⟩, ⟨b1, b2, b3, b4, b5, b6, b7⟩, ⟨l0, l1, l2, l3, l4, l5, l6⟩, ⟨n1, n2, n3, n4, n5, n6, n7, n8, n9, n10⟩⟩ := h
  obtain ⟨a7, a8, a9, a10, a11, a12⟩ := a6
  obtain ⟨b8, b9, b10, b11, b12⟩ := b7
  obtain ⟨l7, l8, l9, l10⟩ := l6
  rw [← l1]
  generalize S 1 1 = P at *
  have big : ∀ z, z < 12 → (1 <<< z) ||| (1 <<< (12 + P)) < 268435456 := fun z hz => or28 (Nat.lt_of_lt_of_le (shl1 (show z < 28 by omega)) (by decide)) (Nat.lt_of_lt_of_le (shl1 (show 12 + P < 28 by omega)) (by decide))
  have bx := big x (by omega)
  have bY := big y (by omega)
  refine ⟨⟨?_, ?_, ?_, ?_, ?_, ?_, ?_, ?_, ?_, ?_, ?_, ?_⟩, ⟨?_, ?_, ?_, ?_, ?_, ?_, ?_, ?_, ?_, ?_, ?_⟩, ⟨?_, ?_, ?_, ?_, ?_, ?_, ?_, ?_, ?_, ?_⟩, ⟨?_, ?_, ?_, ?_, ?_, ?_, ?_, ?_, ?_, ?_⟩⟩ <;> simp [gup, va_up] <;> first | assumption | omega | skip
  · intro j; split
    · omega
    · exact a7 j
  · intro j; split
    · omega
    · exact a8 j
  · intro j; have := a9 j; (repeat' split) <;> omega
  · intro j; split
    · exact bY
    · split
      · exact bx
      · exact a11 j
  · intro j; have := b8 j; (repeat' split) <;> omega
  · intro j
    by_cases c1 : j = 2 * P + 1
    · exact Or.inr fun z => absurd c1 z
    · by_cases c2 : j = 2 * P
      · exact Or.inr fun _ z => absurd c2 z
      · rw [if_neg c1, if_neg c2]
        rcases b9 j with q | q
        · exact Or.inl q
        · exact Or.inr fun _ _ => q
  · intro j; split
    · omega
    · exact b10 j
  · intro j; split
    · omega
    · exact b11 j
  · rw [l7]
  · rw [l8]
  · rw [l9]
  · intro j hj
    by_cases c1 : j = 2 * P + 1
    · rw [if_pos c1, if_pos c1, c1, show (2 * P + 1) / 2 = P by omega, Nat.or_comm]
    · by_cases c2 : j = 2 * P
      · rw [if_neg c1, if_pos c2, if_neg c1, if_pos c2, c2, show 2 * P / 2 = P by omega, Nat.or_comm]
      · rw [if_neg c1, if_neg c2, if_neg c1, if_neg c2]
        exact n1 j (by omega)
  · intro j hj
    by_cases c1 : j = 2 * P + 1
    · exact Or.inl ⟨fun z => absurd c1 z, n7 j (by omega)⟩
    · by_cases c2 : j = 2 * P
      · exact Or.inl ⟨fun _ z => absurd c2 z, n7 j (by omega)⟩
      · simp only [if_neg c1, if_neg c2]
        rcases n2 j (by omega) with ⟨q1, q2⟩ | q
        · exact Or.inl ⟨fun _ _ => q1, q2⟩
        · exact Or.inr q
  · intro v hv
    obtain ⟨q1, q2⟩ := n3 v hv
    rw [if_neg (by omega), if_neg (by omega)]
    exact ⟨by omega, q2⟩
  · intro j hj; split
    · omega
    · split
      · omega
      · exact n4 j (by omega)
  · intro p hp2
    by_cases c : p = P
    · subst c
      rw [if_neg (by omega), if_pos rfl, if_pos rfl]; exact hxy
    · rw [if_neg (by omega), if_neg (by omega), if_neg (by omega), if_neg (by omega)]
      exact n5 p (by omega)
  · intro p hp2; split
    · omega
    · exact n6 p (by omega)
  · intro j hj; exact n7 j (by omega)
theorem inv_valve {S T : Nat → Nat → Nat} (h : inv S T) {p e : Nat} (hp : p < S 1 1) (he : e < 2) (hv : S 5 (2 * p + e) = 0) (h2 : S 1 2 < 12) :
    inv (gup (gup (gup S 1 2 (S 1 2 + 1)) 5 (2 * p + e) (1 <<< S 1 2)) 7 (S 1 2) (2 * p + e))
      (va_up (va_up (va_up T 22 (va_up (va_up (T 22) 0 0) 3 (T 22 3 + 1))) 24 (va_up (T 24) (2 * p + e) (T 22 3))) 27 (va_up (T 27) (T 22 3) (2 * p + e))) := by
  obtain ⟨⟨a0, a1, a2, a3, a4, a5, a6⟩, ⟨b1, b2, b3, b4, b5, b6, b7⟩, ⟨l0, l1, l2, l3, l4, l5, l6⟩, ⟨n1, n2, n3, n4, n5, n6, n7, n8, n9, n10⟩⟩ := h
  obtain ⟨a7, a8, a9, a10, a11, a12⟩ := a6
  obtain ⟨b8, b9, b10, b11, b12⟩ := b7
  obtain ⟨l7, l8, l9, l10⟩ := l6
  rw [← l2]
  have hJ : 2 * p + e < 2 * S 1 1 := by omega
  have hb : 1 <<< S 1 2 < 4096 := Nat.lt_of_lt_of_le (shl1 h2) (by decide)
  have hm : 1 <<< S 1 2 ≤ 1 <<< (S 1 2 + 1) := shl_mono (by omega)
  generalize 2 * p + e = J at *
  refine ⟨⟨?_, ?_, ?_, ?_, ?_, ?_, ?_, ?_, ?_, ?_, ?_, ?_⟩, ⟨?_, ?_, ?_, ?_, ?_, ?_, ?_, ?_, ?_, ?_, ?_⟩, ⟨?_, ?_, ?_, ?_, ?_, ?_, ?_, ?_, ?_, ?_⟩, ⟨?_, ?_, ?_, ?_, ?_, ?_, ?_, ?_, ?_, ?_⟩⟩ <;> simp [gup, va_up] <;> first | assumption | omega | skip
  · intro j; split
    · omega
    · exact a10 j
  · intro j; have := a12 j; split <;> omega
  · intro j; have := b9 j; split <;> omega
  · intro j; have := b12 j; split <;> omega
  · rw [l10]
  · intro j hj
    by_cases c : j = J
    · right
      rw [if_pos c, if_pos c, if_pos (fun z => absurd c z)]
      exact ⟨by omega, rfl, c.symm⟩
    · rw [if_neg c, if_neg c]
      rcases n2 j hj with q | ⟨q1, q2, q3⟩
      · exact Or.inl q
      · right
        rw [if_neg (fun z => by have := z c; omega)]
        exact ⟨by omega, q2, q3⟩
  · intro v hv2
    by_cases c : v = S 1 2
    · rw [if_pos c, if_pos (fun z => absurd c z)]
      exact ⟨hJ, c.symm⟩
    · rw [if_neg c]
      obtain ⟨q1, q2⟩ := n3 v (by omega)
      have q3 : S 7 v ≠ J := fun z => by
        rcases n2 (S 7 v) q1 with ⟨y1, y2⟩ | ⟨y1, y2, y3⟩
        · omega
        · rw [z, hv] at y2
          have : 0 < 1 <<< T 24 J := by rw [Nat.one_shiftLeft]; exact Nat.pos_of_ne_zero (by simp)
          omega
      rw [if_neg (fun z => q3 (z c))]
      exact ⟨q1, q2⟩
  · intro j hj
    rw [if_neg (by omega)]
    exact n7 j hj
