/-! Breaks: trying sets -/
def bc1 (a : Nat) : Nat := a - ((a >>> 1) &&& 1431655765)
def bc2 (a : Nat) : Nat := (a &&& 858993459) + ((a >>> 2) &&& 858993459)
def bc3 (a : Nat) : Nat := (a + a >>> 4) &&& 252645135
def bc4 (a : Nat) : Nat := a + a >>> 8
def bc5 (a : Nat) : Nat := (a + a >>> 16) &&& 63
def bc (a : Nat) : Nat := bc5 (bc4 (bc3 (bc2 (bc1 a))))
theorem bc_le_f : ∀ i : Fin 64, ∀ j : Fin 64, bc (64 * i.val + j.val) ≤ 12 := by decide +kernel
theorem bc_le {a : Nat} (h : a < 4096) : bc a ≤ 12 := by
  have := bc_le_f ⟨a / 64, by omega⟩ ⟨a % 64, by omega⟩
  rwa [Nat.div_add_mod] at this
set_option maxHeartbeats 4000000 in
set_option maxRecDepth 100000 in
theorem cJ6_bitCount_0f7a4_k (Z : gZ) (S : Nat → Nat → Nat) (a : Nat) (ha : a < 2147483648) : gMd Z yJ6_bitCount_0f7a4 wsJ6_bitCount_0f7a4 { frames := 0, cells := 0, slots := 0, locals := 0 } [.int (nI (a))] S (bc a) (S) := by
  refine gMd_of (cc := cJ6_bitCount_0f7a4) (maxL := 1) (ret := (some .int)) (by decide +kernel) rfl (Nat.le_of_ble_eq_true rfl) (Or.inl rfl) (fun X hZ hR K hret => ?_)
  subst hZ
  have K : gOk X cJ6_bitCount_0f7a4 1 wsJ6_bitCount_0f7a4 RJ6 := K
  have hRf : 0 ≤ (g_R X).frames := gR_f hR rfl
  have hRl : 0 ≤ (g_R X).locals := gR_l hR rfl
  show gG X 0 [(0, .int (nI (a)))] [] S
  refine g_iload_n K 0 dJ6_bitCount_0f7a4_0 rfl ?_
  refine g_iload_n K 0 dJ6_bitCount_0f7a4_1 rfl ?_
  refine g_iconst K 1 dJ6_bitCount_0f7a4_2 (by decide +kernel) ?_
  refine g_iushr (a := a) (b := 1) K (by omega) (by decide) dJ6_bitCount_0f7a4_3 ?_
  have hL3_1 := Nat.shiftRight_le (a) (1)
  refine g_ldc_w (w := 1431655765) K 1431655765 (K.1.2.2.2.2 _ (by decide +kernel)) (by decide +kernel) dJ6_bitCount_0f7a4_4 ?_
  refine g_iand (a := (a) >>> (1)) (b := 1431655765) K dJ6_bitCount_0f7a4_7 ?_
  have hL7_2 := @Nat.and_le_left ((a) >>> (1)) (1431655765)
  have hR7_3 := @Nat.and_le_right ((a) >>> (1)) (1431655765)
  refine g_isub (a := a) (b := ((a) >>> (1)) &&& (1431655765)) K (by omega) dJ6_bitCount_0f7a4_8 ?_
  obtain ⟨b1, hb1⟩ : ∃ x, x = bc1 a := ⟨_, rfl⟩
  have hl1 : b1 < 2147483648 := by rw [hb1]; unfold bc1; omega
  refine g_topE b1 hb1.symm ?_
  refine g_istore_n (lo' := [(0, .int (nI (b1)))]) K dJ6_bitCount_0f7a4_9 (by decide) rfl ?_
  refine g_iload_n K 0 dJ6_bitCount_0f7a4_10 rfl ?_
  refine g_ldc_w (w := 858993459) K 858993459 (K.1.2.2.2.2 _ (by decide +kernel)) (by decide +kernel) dJ6_bitCount_0f7a4_11 ?_
  refine g_iand (a := b1) (b := 858993459) K dJ6_bitCount_0f7a4_14 ?_
  have hL14_4 := @Nat.and_le_left (b1) (858993459)
  have hR14_5 := @Nat.and_le_right (b1) (858993459)
  refine g_iload_n K 0 dJ6_bitCount_0f7a4_15 rfl ?_
  refine g_iconst K 2 dJ6_bitCount_0f7a4_16 (by decide +kernel) ?_
  refine g_iushr (a := b1) (b := 2) K (by omega) (by decide) dJ6_bitCount_0f7a4_17 ?_
  have hL17_6 := Nat.shiftRight_le (b1) (2)
  refine g_ldc_w (w := 858993459) K 858993459 (K.1.2.2.2.2 _ (by decide +kernel)) (by decide +kernel) dJ6_bitCount_0f7a4_18 ?_
  refine g_iand (a := (b1) >>> (2)) (b := 858993459) K dJ6_bitCount_0f7a4_21 ?_
  have hL21_7 := @Nat.and_le_left ((b1) >>> (2)) (858993459)
  have hR21_8 := @Nat.and_le_right ((b1) >>> (2)) (858993459)
  refine g_iadd (a := (b1) &&& (858993459)) (b := ((b1) >>> (2)) &&& (858993459)) K dJ6_bitCount_0f7a4_22 ?_
  obtain ⟨b2, hb2⟩ : ∃ x, x = bc2 b1 := ⟨_, rfl⟩
  have hl2 : b2 ≤ 1717986918 := by rw [hb2]; unfold bc2; omega
  refine g_topE b2 hb2.symm ?_
  refine g_istore_n (lo' := [(0, .int (nI (b2)))]) K dJ6_bitCount_0f7a4_23 (by decide) rfl ?_
  refine g_iload_n K 0 dJ6_bitCount_0f7a4_24 rfl ?_
  refine g_iload_n K 0 dJ6_bitCount_0f7a4_25 rfl ?_
  refine g_iconst K 4 dJ6_bitCount_0f7a4_26 (by decide +kernel) ?_
  refine g_iushr (a := b2) (b := 4) K (by omega) (by decide) dJ6_bitCount_0f7a4_27 ?_
  have hL27_9 := Nat.shiftRight_le (b2) (4)
  refine g_iadd (a := b2) (b := (b2) >>> (4)) K dJ6_bitCount_0f7a4_28 ?_
  refine g_ldc_w (w := 252645135) K 252645135 (K.1.2.2.2.2 _ (by decide +kernel)) (by decide +kernel) dJ6_bitCount_0f7a4_29 ?_
  refine g_iand (a := (b2) + ((b2) >>> (4))) (b := 252645135) K dJ6_bitCount_0f7a4_32 ?_
  have hL32_10 := @Nat.and_le_left ((b2) + ((b2) >>> (4))) (252645135)
  have hR32_11 := @Nat.and_le_right ((b2) + ((b2) >>> (4))) (252645135)
  obtain ⟨b3, hb3⟩ : ∃ x, x = bc3 b2 := ⟨_, rfl⟩
  have hl3 : b3 ≤ 252645135 := by rw [hb3]; unfold bc3; omega
  refine g_topE b3 hb3.symm ?_
  refine g_istore_n (lo' := [(0, .int (nI (b3)))]) K dJ6_bitCount_0f7a4_33 (by decide) rfl ?_
  refine g_iload_n K 0 dJ6_bitCount_0f7a4_34 rfl ?_
  refine g_iload_n K 0 dJ6_bitCount_0f7a4_35 rfl ?_
  refine g_bipush K 8 dJ6_bitCount_0f7a4_36 (by decide +kernel) ?_
  refine g_iushr (a := b3) (b := 8) K (by omega) (by decide) dJ6_bitCount_0f7a4_38 ?_
  have hL38_12 := Nat.shiftRight_le (b3) (8)
  refine g_iadd (a := b3) (b := (b3) >>> (8)) K dJ6_bitCount_0f7a4_39 ?_
  obtain ⟨b4, hb4⟩ : ∃ x, x = bc4 b3 := ⟨_, rfl⟩
  have hl4 : b4 ≤ 300000000 := by rw [hb4]; unfold bc4; omega
  refine g_topE b4 hb4.symm ?_
  refine g_istore_n (lo' := [(0, .int (nI (b4)))]) K dJ6_bitCount_0f7a4_40 (by decide) rfl ?_
  refine g_iload_n K 0 dJ6_bitCount_0f7a4_41 rfl ?_
  refine g_iload_n K 0 dJ6_bitCount_0f7a4_42 rfl ?_
  refine g_bipush K 16 dJ6_bitCount_0f7a4_43 (by decide +kernel) ?_
  refine g_iushr (a := b4) (b := 16) K (by omega) (by decide) dJ6_bitCount_0f7a4_45 ?_
  have hL45_13 := Nat.shiftRight_le (b4) (16)
  refine g_iadd (a := b4) (b := (b4) >>> (16)) K dJ6_bitCount_0f7a4_46 ?_
  refine g_istore_n (lo' := [(0, .int (nI ((b4) + ((b4) >>> (16)))))]) K dJ6_bitCount_0f7a4_47 (by decide) rfl ?_
  refine g_iload_n K 0 dJ6_bitCount_0f7a4_48 rfl ?_
  refine g_bipush K 63 dJ6_bitCount_0f7a4_49 (by decide +kernel) ?_
  refine g_iand (a := (b4) + ((b4) >>> (16))) (b := 63) K dJ6_bitCount_0f7a4_51 ?_
  have hL51_14 := @Nat.and_le_left ((b4) + ((b4) >>> (16))) (63)
  have hR51_15 := @Nat.and_le_right ((b4) + ((b4) >>> (16))) (63)
  exact g_retd hret dJ6_bitCount_0f7a4_52 (by unfold bc; rw [← hb1, ← hb2, ← hb3, ← hb4]; rfl) rfl

def lowB (s : Nat) : Nat := s &&& ((4294967296 - s) % 4294967296)
def gos (s : Nat) : Nat := (s + lowB s) ||| (((s ^^^ (s + lowB s)) / lowB s) >>> 2)
def nextF (s lim : Nat) : Nat := if lowB s = 0 then 1 else if gos s < lim then gos s else (2 <<< bc s) - 1
theorem gi_neg {a : Nat} (h : a < 4294967296) : -(nI a) = nI ((4294967296 - a) % 4294967296) := by
  apply Int32.toBitVec_inj.mp
  apply BitVec.eq_of_toNat_eq
  simp [nI, Nat.mod_eq_of_lt h]
theorem gos_lt {s : Nat} (h : s < 4096) : gos s < 8192 := by
  have h1 : lowB s ≤ s := Nat.and_le_left
  have h2 : s ^^^ (s + lowB s) < 8192 := Nat.xor_lt_two_pow (n := 13) (by omega) (by omega)
  have h3 : (s ^^^ (s + lowB s)) / lowB s ≤ s ^^^ (s + lowB s) := Nat.div_le_self _ _
  have h4 := Nat.shiftRight_le ((s ^^^ (s + lowB s)) / lowB s) 2
  exact Nat.or_lt_two_pow (n := 13) (by omega) (by omega)
def wset (a b : Nat → Nat) (op v x : Nat) : Nat := if gbit op v = 0 then x else if x &&& (a v ||| b v) = 0 then x else x ||| (a v ||| b v)
def wetPass (a b : Nat → Nat) (vc op x : Nat) : Nat := gfor (wset a b op) vc 0 x
def wetGo (a b : Nat → Nat) (vc op : Nat) : Nat → Nat → Nat
  | 0, x => x
  | k + 1, x => if wetPass a b vc op x = x then wetPass a b vc op x else wetGo a b vc op k (wetPass a b vc op x)
def wetO (S : Nat → Nat → Nat) (a b : Nat → Nat) (op f : Nat) : Nat := wetGo a b (S 1 2) op 12 f
theorem wetPass_lt {a b : Nat → Nat} {vc : Nat} (hh : ∀ j, j < vc → a j < 268435456 ∧ b j < 268435456) (op x : Nat) (hx : x < 268435456) : wetPass a b vc op x < 268435456 := by
  have := gfor_invK (fun _ (x : Nat) => x < 268435456) (wset a b op) vc 0 x (fun i y _ hi h => by
    have h1 := hh i (by omega)
    unfold wset
    (repeat' split)
    · exact h
    · exact h
    · exact or28 h (or28 h1.1 h1.2)) hx
  exact this
theorem wetGo_lt {a b : Nat → Nat} {vc : Nat} (hh : ∀ j, j < vc → a j < 268435456 ∧ b j < 268435456) (op : Nat) : ∀ (k x : Nat), x < 268435456 → wetGo a b vc op k x < 268435456
  | 0, _, h => h
  | k + 1, x, h => by
    unfold wetGo
    split
    · exact wetPass_lt hh op x h
    · exact wetGo_lt hh op k _ (wetPass_lt hh op x h)
def setGo (lim : Nat) : Nat → Nat → Nat
  | 0, s => s
  | k + 1, s => setGo lim k (nextF s lim)
theorem setGo_s (lim : Nat) : ∀ (k s : Nat), setGo lim (k + 1) s = nextF (setGo lim k s) lim
  | 0, _ => rfl
  | k + 1, s => setGo_s lim k (nextF s lim)
def setChk (lim : Nat) : Nat → Nat → Bool
  | 0, _ => true
  | k + 1, s => decide (s < lim) && setChk lim k (nextF s lim)
theorem setChk_lt {lim : Nat} : ∀ (k s : Nat), setChk lim k s = true → ∀ t, t < k → setGo lim t s < lim
  | 0, _, _, t, ht => absurd ht (Nat.not_lt_zero t)
  | k + 1, s, h, 0, _ => by simp [setChk] at h; exact h.1
  | k + 1, s, h, t + 1, ht => by
    simp [setChk] at h
    exact setChk_lt k (nextF s lim) h.2 t (by omega)
theorem setChk_all : ∀ n : Fin 13, setChk (2 ^ n.val) (2 ^ n.val) 0 = true := by decide +kernel
theorem setAt_lt {n t : Nat} (hn : n ≤ 12) (ht : t < 1 <<< n) : setGo (1 <<< n) t 0 < 1 <<< n := by
  rw [Nat.one_shiftLeft] at ht ⊢
  exact setChk_lt _ 0 (setChk_all ⟨n, by omega⟩) t ht
def tryGo (S : Nat → Nat → Nat) (a b : Nat → Nat) (c f g lim : Nat) : Nat → Nat → Nat
  | 0, _ => 4294967295
  | k + 1, s => if s &&& (c ^^^ 4294967295) = 0 then (if wetO S a b (c &&& (s ^^^ 4294967295)) f &&& g = 0 then s else tryGo S a b c f g lim k (nextF s lim)) else tryGo S a b c f g lim k (nextF s lim)
def tryF (S : Nat → Nat → Nat) (p : Nat) : Nat := if fedF S &&& regOf S p = 0 then tryGo S (regsF S).1 (regsF S).2 (closable S) (fedF S) (regOf S p) (1 <<< S 1 2) (1 <<< S 1 2) 0 else 4294967295
def tryS (S : Nat → Nat → Nat) (p : Nat) : Nat → Nat → Nat := if fedF S &&& regOf S p = 0 then va_up (va_up S 11 (regsF S).1) 12 (regsF S).2 else S
set_option maxHeartbeats 4000000 in
set_option maxRecDepth 100000 in
theorem L_wet (X : gC) (S : Nat → Nat → Nat) (op : Nat) (rd : Nat) (bf : Nat) (K : gOk X cX0_wetOver 8 wsX0_wetOver RX0) (hRf : 1 ≤ (g_R X).frames) (hRl : 21 ≤ (g_R X).locals) (hw : wfC S) (hh : ∀ j, j < S 1 2 → S 11 j < 268435456 ∧ S 12 j < 268435456) (hop : op < 2147483648) : ∀ (k v : Nat) (x : Nat), v + k = S 1 2 → (x < 268435456) → gG X 74 [(0, .ref (g_ad X 10)), (1, .int (nI (op))), (3, .int (nI (((gfor (wset (S 11) (S 12) op) k v x))))), (4, .int (nI (rd))), (5, .int (nI (bf))), (6, .int (nI ((S 1 2))))] [] S → gG X 18 [(0, .ref (g_ad X 10)), (1, .int (nI (op))), (3, .int (nI (x))), (4, .int (nI (rd))), (5, .int (nI (bf))), (6, .int (nI (v)))] [] S := by
  have hin0 : ∀ w ∈ u_ws RX0 TX0 6, w ∈ wsX0_wetOver := by decide +kernel
  obtain ⟨w0, w1, w2, w3, wsh, wst, a2, a3, a4, a5, a6, a7⟩ := id hw
  intro k
  induction k with
  | zero =>
    intro v x hj hx kk
    have hj : v = S 1 2 := by omega
    refine g_iload K 5 dX0_wetOver_18 rfl ?_
    refine g_aload_n K 0 dX0_wetOver_20 rfl ?_
    refine g_getR (q' := 1) (q := 10) (ci := 0) (k := 0) (N := 6) (C := RX0) (T := TX0) (ref := "ValveWalk$Breaks") K rfl rfl rfl (by decide) hin0 (by decide +kernel) rfl dX0_wetOver_21 ?_
    refine g_callVd (q := 1) (ci := 2) (As := []) (rest := [.int (nI (v))]) (C := RX2) (T := TX2) (N := 12) K (cX2_valveCount_k (g_z X) S) (cwV 0 K.1.2.2.2.2 gX0_wetOver_X2_valveCount rfl rfl rfl (by decide +kernel) ⟨Nat.le_trans (Nat.le_of_ble_eq_true rfl) hRf, Nat.le_trans (Nat.le_of_ble_eq_true rfl) hRl⟩) rfl rfl rfl rfl (Nat.le_of_ble_eq_true rfl) dX0_wetOver_24 ?_
    refine g_icmp_ge (tgt := 74) (a := v) (b := S 1 2) K dX0_wetOver_27 (by decide) (by omega) (by omega) (fun h27_1 => ?_) (fun h27_1 => ?_)
    · refine g_loc (lo' := [(0, .ref (g_ad X 10)), (1, .int (nI (op))), (3, .int (nI (x))), (4, .int (nI (rd))), (5, .int (nI (bf))), (6, .int (nI (v)))]) [0, 1, 2, 3, 4, 5] rfl ?_
      exact g_cast (by first | rfl | (rw [hj]; done) | (rw [hj]; rfl)) rfl rfl kk
    · exact absurd h27_1 (by omega)
  | succ k ih =>
    intro v x hj hx kk
    refine g_iload K 5 dX0_wetOver_18 rfl ?_
    refine g_aload_n K 0 dX0_wetOver_20 rfl ?_
    refine g_getR (q' := 1) (q := 10) (ci := 0) (k := 0) (N := 6) (C := RX0) (T := TX0) (ref := "ValveWalk$Breaks") K rfl rfl rfl (by decide) hin0 (by decide +kernel) rfl dX0_wetOver_21 ?_
    refine g_callVd (q := 1) (ci := 2) (As := []) (rest := [.int (nI (v))]) (C := RX2) (T := TX2) (N := 12) K (cX2_valveCount_k (g_z X) S) (cwV 0 K.1.2.2.2.2 gX0_wetOver_X2_valveCount rfl rfl rfl (by decide +kernel) ⟨Nat.le_trans (Nat.le_of_ble_eq_true rfl) hRf, Nat.le_trans (Nat.le_of_ble_eq_true rfl) hRl⟩) rfl rfl rfl rfl (Nat.le_of_ble_eq_true rfl) dX0_wetOver_24 ?_
    refine g_icmp_ge (tgt := 74) (a := v) (b := S 1 2) K dX0_wetOver_27 (by decide) (by omega) (by omega) (fun h27_1 => ?_) (fun h27_1 => ?_)
    · exact absurd h27_1 (by omega)
    · refine g_aload_n K 0 dX0_wetOver_30 rfl ?_
      refine g_getR (q' := 11) (q := 10) (ci := 0) (k := 1) (N := 6) (C := RX0) (T := TX0) (ref := "ValveWalk$Breaks") K rfl rfl rfl (by decide) hin0 (by decide +kernel) rfl dX0_wetOver_31 ?_
      refine g_iload K 5 dX0_wetOver_34 rfl ?_
      refine g_ald (q := 11) (n := 12) (i := v) K rfl (by decide) (by omega) dX0_wetOver_36 ?_
      refine g_aload_n K 0 dX0_wetOver_37 rfl ?_
      refine g_getR (q' := 12) (q := 10) (ci := 0) (k := 2) (N := 6) (C := RX0) (T := TX0) (ref := "ValveWalk$Breaks") K rfl rfl rfl (by decide) hin0 (by decide +kernel) rfl dX0_wetOver_38 ?_
      refine g_iload K 5 dX0_wetOver_41 rfl ?_
      refine g_ald (q := 12) (n := 12) (i := v) K rfl (by decide) (by omega) dX0_wetOver_43 ?_
      refine g_ior (a := S 11 (v)) (b := S 12 (v)) K dX0_wetOver_44 ?_
      refine g_istore (lo' := [(7, .int (nI ((S 11 (v)) ||| (S 12 (v))))), (0, .ref (g_ad X 10)), (1, .int (nI (op))), (3, .int (nI (x))), (4, .int (nI (rd))), (5, .int (nI (bf))), (6, .int (nI (v)))]) K dX0_wetOver_45 (by decide) rfl ?_
      refine g_iload_n K 2 dX0_wetOver_47 rfl ?_
      refine g_iload K 6 dX0_wetOver_48 rfl ?_
      refine g_callNd (As := [.int (nI (op)), .int (nI (v))]) (rest := []) (host := "ValveWalk") K (cX5_hasBit_k (g_z X) S op v (by omega) (by omega)) ⟨va_cnB 2 K.1.2.2.2.2 gX0_wetOver_X5_hasBit_n57 rfl rfl rfl (K.2.2.2.1 _ (List.mem_of_getElem? (i := 2) rfl)) (K.1.2.2.2.2 _ (by decide +kernel)) (by decide +kernel) ⟨Nat.le_trans (Nat.le_of_ble_eq_true rfl) hRf, Nat.le_trans (Nat.le_of_ble_eq_true rfl) hRl⟩, K.1.2.2.2.2 _ (by decide +kernel), trivial⟩ rfl rfl (Nat.le_of_ble_eq_true rfl) dX0_wetOver_50 ?_
      have hf50_2 := gbit_le op v
      refine g_if_eq (tgt := 68) (a := gbit op v) K dX0_wetOver_53 (by decide) (by omega) (fun h53_3 => ?_) (fun h53_3 => ?_)
      · refine g_iinc (a := v) (b := v + 1) (lo' := [(6, .int (nI (v + 1))), (7, .int (nI ((S 11 (v)) ||| (S 12 (v))))), (0, .ref (g_ad X 10)), (1, .int (nI (op))), (3, .int (nI (x))), (4, .int (nI (rd))), (5, .int (nI (bf)))]) K 6 dX0_wetOver_68 rfl (gi_inc _) (by decide) rfl ?_
        refine g_goto (tgt := 18) K dX0_wetOver_71 (by decide) ?_
        refine g_loc (lo' := [(0, .ref (g_ad X 10)), (1, .int (nI (op))), (3, .int (nI (x))), (4, .int (nI (rd))), (5, .int (nI (bf))), (6, .int (nI (v + 1)))]) [2, 3, 4, 5, 6, 0] rfl ?_
        exact ih (v + 1) x (by omega) (hx) (by rw [gfor_succ, show (wset (S 11) (S 12) op) v x = x from by simp only [wset]; (repeat' split) <;> first | rfl | contradiction | (exfalso; omega) | omega] at kk; exact kk)
      · refine g_iload_n K 3 dX0_wetOver_56 rfl ?_
        refine g_iload K 0 dX0_wetOver_57 rfl ?_
        refine g_iand (a := x) (b := (S 11 (v)) ||| (S 12 (v))) K dX0_wetOver_59 ?_
        have hL59_4 := @Nat.and_le_left (x) ((S 11 (v)) ||| (S 12 (v)))
        have hR59_5 := @Nat.and_le_right (x) ((S 11 (v)) ||| (S 12 (v)))
        refine g_if_eq (tgt := 68) (a := (x) &&& ((S 11 (v)) ||| (S 12 (v)))) K dX0_wetOver_60 (by decide) (by omega) (fun h60_6 => ?_) (fun h60_6 => ?_)
        · refine g_iinc (a := v) (b := v + 1) (lo' := [(6, .int (nI (v + 1))), (7, .int (nI ((S 11 (v)) ||| (S 12 (v))))), (0, .ref (g_ad X 10)), (1, .int (nI (op))), (3, .int (nI (x))), (4, .int (nI (rd))), (5, .int (nI (bf)))]) K 6 dX0_wetOver_68 rfl (gi_inc _) (by decide) rfl ?_
          refine g_goto (tgt := 18) K dX0_wetOver_71 (by decide) ?_
          refine g_loc (lo' := [(0, .ref (g_ad X 10)), (1, .int (nI (op))), (3, .int (nI (x))), (4, .int (nI (rd))), (5, .int (nI (bf))), (6, .int (nI (v + 1)))]) [2, 3, 4, 5, 6, 0] rfl ?_
          exact ih (v + 1) x (by omega) (hx) (by rw [gfor_succ, show (wset (S 11) (S 12) op) v x = x from by simp only [wset]; (repeat' split) <;> first | rfl | contradiction | (exfalso; omega) | omega] at kk; exact kk)
        · refine g_iload_n K 3 dX0_wetOver_63 rfl ?_
          refine g_iload K 0 dX0_wetOver_64 rfl ?_
          refine g_ior (a := x) (b := (S 11 (v)) ||| (S 12 (v))) K dX0_wetOver_66 ?_
          refine g_istore_n (lo' := [(3, .int (nI ((x) ||| ((S 11 (v)) ||| (S 12 (v)))))), (7, .int (nI ((S 11 (v)) ||| (S 12 (v))))), (0, .ref (g_ad X 10)), (1, .int (nI (op))), (4, .int (nI (rd))), (5, .int (nI (bf))), (6, .int (nI (v)))]) K dX0_wetOver_67 (by decide) rfl ?_
          refine g_iinc (a := v) (b := v + 1) (lo' := [(6, .int (nI (v + 1))), (3, .int (nI ((x) ||| ((S 11 (v)) ||| (S 12 (v)))))), (7, .int (nI ((S 11 (v)) ||| (S 12 (v))))), (0, .ref (g_ad X 10)), (1, .int (nI (op))), (4, .int (nI (rd))), (5, .int (nI (bf)))]) K 6 dX0_wetOver_68 rfl (gi_inc _) (by decide) rfl ?_
          refine g_goto (tgt := 18) K dX0_wetOver_71 (by decide) ?_
          refine g_loc (lo' := [(0, .ref (g_ad X 10)), (1, .int (nI (op))), (3, .int (nI ((x) ||| ((S 11 (v)) ||| (S 12 (v)))))), (4, .int (nI (rd))), (5, .int (nI (bf))), (6, .int (nI (v + 1)))]) [3, 4, 1, 5, 6, 0] rfl ?_
          exact ih (v + 1) ((x) ||| ((S 11 (v)) ||| (S 12 (v)))) (by omega) (or28 hx (or28 (hh v (by omega)).1 (hh v (by omega)).2)) (by rw [gfor_succ, show (wset (S 11) (S 12) op) v x = (x) ||| ((S 11 (v)) ||| (S 12 (v))) from by simp only [wset]; (repeat' split) <;> first | rfl | contradiction | (exfalso; omega) | omega] at kk; exact kk)

set_option maxHeartbeats 4000000 in
set_option maxRecDepth 100000 in
theorem L_wetr (X : gC) (S : Nat → Nat → Nat) (op : Nat) (K : gOk X cX0_wetOver 8 wsX0_wetOver RX0) (hRf : 1 ≤ (g_R X).frames) (hRl : 21 ≤ (g_R X).locals) (hw : wfC S) (hh : ∀ j, j < S 1 2 → S 11 j < 268435456 ∧ S 12 j < 268435456) (hop : op < 2147483648) : ∀ (k rd x : Nat), rd + k = 12 → x < 268435456 → gG X 89 [(3, .int (nI (wetGo (S 11) (S 12) (S 1 2) op k x)))] [] S → gG X 5 [(0, .ref (g_ad X 10)), (1, .int (nI (op))), (3, .int (nI (x))), (4, .int (nI (rd)))] [] S := by
  have hin0 : ∀ w ∈ u_ws RX0 TX0 6, w ∈ wsX0_wetOver := by decide +kernel
  obtain ⟨w0, w1, w2, w3, wsh, wst, a2, a3, a4, a5, a6, a7⟩ := id hw
  intro k
  induction k with
  | zero =>
    intro rd x hj hx kk
    refine g_iload K 3 dX0_wetOver_5 rfl ?_
    refine g_bipush K 12 dX0_wetOver_7 (by decide +kernel) ?_
    refine g_icmp_ge (tgt := 89) (a := rd) (b := 12) K dX0_wetOver_9 (by decide) (by omega) (by omega) (fun h9_1 => ?_) (fun h9_1 => ?_)
    · refine g_loc (lo' := [(3, .int (nI (x)))]) [2] rfl ?_
      exact kk
    · exact absurd h9_1 (by omega)
  | succ k ih =>
    intro rd x hj hx kk
    refine g_iload K 3 dX0_wetOver_5 rfl ?_
    refine g_bipush K 12 dX0_wetOver_7 (by decide +kernel) ?_
    refine g_icmp_ge (tgt := 89) (a := rd) (b := 12) K dX0_wetOver_9 (by decide) (by omega) (by omega) (fun h9_1 => ?_) (fun h9_1 => ?_)
    · exact absurd h9_1 (by omega)
    · refine g_iload_n K 2 dX0_wetOver_12 rfl ?_
      refine g_istore (lo' := [(5, .int (nI (x))), (0, .ref (g_ad X 10)), (1, .int (nI (op))), (3, .int (nI (x))), (4, .int (nI (rd)))]) K dX0_wetOver_13 (by decide) rfl ?_
      refine g_iconst K 0 dX0_wetOver_15 (by decide +kernel) ?_
      refine g_istore (lo' := [(6, .int (nI (0))), (5, .int (nI (x))), (0, .ref (g_ad X 10)), (1, .int (nI (op))), (3, .int (nI (x))), (4, .int (nI (rd)))]) K dX0_wetOver_16 (by decide) rfl ?_
      refine g_loc (lo' := [(0, .ref (g_ad X 10)), (1, .int (nI (op))), (3, .int (nI (x))), (4, .int (nI (rd))), (5, .int (nI (x))), (6, .int (nI (0)))]) [2, 3, 4, 5, 1, 0] rfl ?_
      refine L_wet X S op rd x K (Nat.le_trans (Nat.le_of_ble_eq_true rfl) hRf) (Nat.le_trans (Nat.le_of_ble_eq_true rfl) hRl) (hw) (hh) (hop)  (S 1 2) 0 x (by omega) (hx) ?_
      have hq : gfor (wset (S 11) (S 12) op) (S 1 2) 0 x < 268435456 := wetPass_lt hh op x hx
      refine g_iload_n K 2 dX0_wetOver_74 rfl ?_
      refine g_iload K 4 dX0_wetOver_75 rfl ?_
      refine g_icmp_ne (tgt := 83) (a := ((gfor (wset (S 11) (S 12) op) (S 1 2) 0 x))) (b := x) K dX0_wetOver_77 (by decide) (by omega) (by omega) (fun h77_2 => ?_) (fun h77_2 => ?_)
      · refine g_iinc (a := rd) (b := rd + 1) (lo' := [(4, .int (nI (rd + 1))), (0, .ref (g_ad X 10)), (1, .int (nI (op))), (3, .int (nI (((gfor (wset (S 11) (S 12) op) (S 1 2) 0 x))))), (5, .int (nI (x))), (6, .int (nI ((S 1 2))))]) K 3 dX0_wetOver_83 rfl (gi_inc _) (by decide) rfl ?_
        refine g_goto (tgt := 5) K dX0_wetOver_86 (by decide) ?_
        refine g_loc (lo' := [(0, .ref (g_ad X 10)), (1, .int (nI (op))), (3, .int (nI (((gfor (wset (S 11) (S 12) op) (S 1 2) 0 x))))), (4, .int (nI (rd + 1)))]) [1, 2, 3, 0] rfl ?_
        exact ih (rd + 1) _ (by omega) (wetPass_lt hh op x hx) (by rw [wetGo, if_neg (by assumption)] at kk; exact kk)
      · refine g_goto (tgt := 89) K dX0_wetOver_80 (by decide) ?_
        refine g_loc (lo' := [(3, .int (nI (((gfor (wset (S 11) (S 12) op) (S 1 2) 0 x)))))]) [2] rfl ?_
        exact (by rw [wetGo, if_pos (by assumption)] at kk; exact kk)

set_option maxHeartbeats 4000000 in
set_option maxRecDepth 100000 in
theorem cX0_wetOver_k (Z : gZ) (S : Nat → Nat → Nat) (op f : Nat) (hw : wfC S) (hh : ∀ j, j < S 1 2 → S 11 j < 268435456 ∧ S 12 j < 268435456) (hop : op < 2147483648) (hf : f < 268435456) : gMd Z yX0_wetOver wsX0_wetOver { frames := 1, cells := 0, slots := 0, locals := 21 } [.ref (gz_ad Z 10), .int (nI (op)), .int (nI (f))] S (wetO S (S 11) (S 12) op f) (S) := by
  refine gMd_of (cc := cX0_wetOver) (maxL := 8) (ret := (some .int)) (by decide +kernel) rfl (Nat.le_of_ble_eq_true rfl) (Or.inl rfl) (fun X hZ hR K hret => ?_)
  subst hZ
  have K : gOk X cX0_wetOver 8 wsX0_wetOver RX0 := K
  have hRf : 1 ≤ (g_R X).frames := gR_f hR rfl
  have hRl : 21 ≤ (g_R X).locals := gR_l hR rfl
  have hin0 : ∀ w ∈ u_ws RX0 TX0 6, w ∈ wsX0_wetOver := by decide +kernel
  obtain ⟨w0, w1, w2, w3, wsh, wst, a2, a3, a4, a5, a6, a7⟩ := id hw
  show gG X 0 [(0, .ref (g_ad X 10)), (1, .int (nI (op))), (2, .int (nI (f)))] [] S
  refine g_iload_n K 2 dX0_wetOver_0 rfl ?_
  refine g_istore_n (lo' := [(3, .int (nI (f))), (0, .ref (g_ad X 10)), (1, .int (nI (op))), (2, .int (nI (f)))]) K dX0_wetOver_1 (by decide) rfl ?_
  refine g_iconst K 0 dX0_wetOver_2 (by decide +kernel) ?_
  refine g_istore (lo' := [(4, .int (nI (0))), (3, .int (nI (f))), (0, .ref (g_ad X 10)), (1, .int (nI (op))), (2, .int (nI (f)))]) K dX0_wetOver_3 (by decide) rfl ?_
  refine g_loc (lo' := [(0, .ref (g_ad X 10)), (1, .int (nI (op))), (3, .int (nI (f))), (4, .int (nI (0)))]) [2, 3, 1, 0] rfl ?_
  refine L_wetr X S op K (Nat.le_trans (Nat.le_of_ble_eq_true rfl) hRf) (Nat.le_trans (Nat.le_of_ble_eq_true rfl) hRl) (hw) (hh) (hop)  12 0 f (by omega) (hf) ?_
  refine g_iload_n K 0 dX0_wetOver_89 rfl ?_
  exact g_retd hret dX0_wetOver_90 rfl rfl

set_option maxHeartbeats 4000000 in
set_option maxRecDepth 100000 in
theorem cX0_setBehind_k (Z : gZ) (S : Nat → Nat → Nat) (s lim : Nat) (hs : s < 4096) (hl : lim ≤ 4096) : gMd Z yX0_setBehind wsX0_setBehind { frames := 1, cells := 0, slots := 0, locals := 20 } [.int (nI (s)), .int (nI (lim))] S (nextF s lim) (S) := by
  refine gMd_of (cc := cX0_setBehind) (maxL := 5) (ret := (some .int)) (by decide +kernel) rfl (Nat.le_of_ble_eq_true rfl) (Or.inl rfl) (fun X hZ hR K hret => ?_)
  subst hZ
  have K : gOk X cX0_setBehind 5 wsX0_setBehind RX0 := K
  have hRf : 1 ≤ (g_R X).frames := gR_f hR rfl
  have hRl : 20 ≤ (g_R X).locals := gR_l hR rfl
  show gG X 0 [(0, .int (nI (s))), (1, .int (nI (lim)))] [] S
  refine g_iload_n K 0 dX0_setBehind_0 rfl ?_
  refine g_iload_n K 0 dX0_setBehind_1 rfl ?_
  refine g_ineg' K ((4294967296 - s) % 4294967296) (gi_neg (by omega)) dX0_setBehind_2 ?_
  refine g_iand (a := s) (b := (4294967296 - s) % 4294967296) K dX0_setBehind_3 ?_
  have hL3_1 := @Nat.and_le_left (s) ((4294967296 - s) % 4294967296)
  have hR3_2 := @Nat.and_le_right (s) ((4294967296 - s) % 4294967296)
  obtain ⟨lw, hlw⟩ : ∃ x, x = lowB s := ⟨_, rfl⟩
  have hlw1 : lw ≤ s := by rw [hlw]; exact Nat.and_le_left
  refine g_topE lw hlw.symm ?_
  refine g_istore_n (lo' := [(2, .int (nI (lw))), (0, .int (nI (s))), (1, .int (nI (lim)))]) K dX0_setBehind_4 (by decide) rfl ?_
  refine g_iload_n K 0 dX0_setBehind_5 rfl ?_
  refine g_if_ne (tgt := 11) (a := lw) K dX0_setBehind_6 (by decide) (by omega) (fun h6_3 => ?_) (fun h6_3 => ?_)
  · refine g_iload_n K 1 dX0_setBehind_11 rfl ?_
    refine g_iload_n K 0 dX0_setBehind_12 rfl ?_
    refine g_iadd (a := s) (b := lw) K dX0_setBehind_13 ?_
    refine g_istore_n (lo' := [(3, .int (nI ((s) + (lw)))), (2, .int (nI (lw))), (0, .int (nI (s))), (1, .int (nI (lim)))]) K dX0_setBehind_14 (by decide) rfl ?_
    refine g_iload_n K 0 dX0_setBehind_15 rfl ?_
    refine g_iload_n K 2 dX0_setBehind_16 rfl ?_
    refine g_iload_n K 0 dX0_setBehind_17 rfl ?_
    have hxr : s ^^^ (s + lw) < 8192 := Nat.xor_lt_two_pow (n := 13) (by omega) (by omega)
    refine g_ixor (a := s) (b := (s) + (lw)) K dX0_setBehind_18 ?_
    refine g_iload_n K 1 dX0_setBehind_19 rfl ?_
    refine g_idiv (a := (s) ^^^ ((s) + (lw))) (b := lw) K (by omega) (by omega) (by omega) dX0_setBehind_20 ?_
    have hdv : (s ^^^ (s + lw)) / lw ≤ s ^^^ (s + lw) := Nat.div_le_self _ _
    refine g_iconst K 2 dX0_setBehind_21 (by decide +kernel) ?_
    refine g_ishr (a := ((s) ^^^ ((s) + (lw))) / (lw)) (b := 2) K (by omega) (by decide) dX0_setBehind_22 ?_
    refine g_ior (a := (s) + (lw)) (b := (((s) ^^^ ((s) + (lw))) / (lw)) >>> (2)) K dX0_setBehind_23 ?_
    obtain ⟨gx, hgx⟩ : ∃ x, x = gos s := ⟨_, rfl⟩
    have hgx1 : gx < 8192 := by rw [hgx]; exact gos_lt hs
    refine g_topE gx (by rw [hgx, hlw]; rfl) ?_
    refine g_istore (lo' := [(4, .int (nI (gx))), (3, .int (nI ((s) + (lw)))), (2, .int (nI (lw))), (0, .int (nI (s))), (1, .int (nI (lim)))]) K dX0_setBehind_24 (by decide) rfl ?_
    refine g_iload K 0 dX0_setBehind_26 rfl ?_
    refine g_iload_n K 4 dX0_setBehind_28 rfl ?_
    refine g_icmp_ge (tgt := 37) (a := gx) (b := lim) K dX0_setBehind_29 (by decide) (by omega) (by omega) (fun h29_4 => ?_) (fun h29_4 => ?_)
    · refine g_iconst K 2 dX0_setBehind_37 (by decide +kernel) ?_
      refine g_iload_n K 3 dX0_setBehind_38 rfl ?_
      refine g_callSd (As := [.int (nI (s))]) (rest := [.int (nI (2))]) K (cJ6_bitCount_0f7a4_k (g_z X) S s (by omega)) (va_cwS 1 K.1.2.2.2.2 gX0_setBehind_J6_bitCount_0f7a4 rfl rfl rfl (by decide +kernel) ⟨Nat.le_trans (Nat.le_of_ble_eq_true rfl) hRf, Nat.le_trans (Nat.le_of_ble_eq_true rfl) hRl⟩) rfl rfl (Nat.le_of_ble_eq_true rfl) dX0_setBehind_39 ?_
      have hbc := bc_le hs
      refine g_ishl (a := 2) (b := bc s) K (by omega) dX0_setBehind_42 ?_
      have hs2 : 1 ≤ 2 <<< bc s := by rw [Nat.shiftLeft_eq]; have := Nat.one_le_two_pow (n := bc s); omega
      refine g_iconst K 1 dX0_setBehind_43 (by decide +kernel) ?_
      refine g_isub (a := (2) <<< (bc s)) (b := 1) K (by omega) dX0_setBehind_44 ?_
      exact g_retd hret dX0_setBehind_45 (by unfold nextF; rw [← hlw, if_neg (by assumption), ← hgx, if_neg (by omega)]) rfl
    · refine g_iload K 0 dX0_setBehind_32 rfl ?_
      refine g_goto (tgt := 45) K dX0_setBehind_34 (by decide) ?_
      exact g_retd hret dX0_setBehind_45 (by unfold nextF; rw [← hlw, if_neg (by assumption), ← hgx, if_pos (by assumption)]) rfl
  · refine g_iconst K 1 dX0_setBehind_9 (by decide +kernel) ?_
    exact g_retd hret dX0_setBehind_10 (by unfold nextF; rw [← hlw, if_pos (by assumption)]) rfl

set_option maxHeartbeats 4000000 in
set_option maxRecDepth 100000 in
theorem L_try (X : gC) (S : Nat → Nat → Nat) (g : Nat) (f : Nat) (c : Nat) (lim : Nat) (a : Nat → Nat) (b : Nat → Nat) (K : gOk X cX0_trySets 9 wsX0_trySets RX0) (hRf : 2 ≤ (g_R X).frames) (hRl : 48 ≤ (g_R X).locals) (hw : wfC S) (hh : ∀ j, j < S 1 2 → a j < 268435456 ∧ b j < 268435456) (hg : g < 268435456) (hf : f < 268435456) (hc : c < 4096) (hl : lim ≤ 4096) (hlt : ∀ t, t < lim → setGo lim t 0 < lim) : ∀ (k t s : Nat), t + k = lim → s = setGo lim t 0 → (∀ (pc : Nat) (lo : List (Nat × Value)), decode cX0_trySets pc = .ok (.ireturn, 1) → gG X pc lo [.int (nI (tryGo S a b c f g lim k s))] (va_up (va_up S 11 (a)) 12 (b))) → gG X 49 [(0, .ref (g_ad X 10)), (2, .int (nI (g))), (3, .int (nI (f))), (4, .int (nI (c))), (5, .int (nI (lim))), (6, .int (nI (s))), (7, .int (nI (t)))] [] (va_up (va_up S 11 (a)) 12 (b)) := by
  have hin0 : ∀ w ∈ u_ws RX0 TX0 6, w ∈ wsX0_trySets := by decide +kernel
  obtain ⟨w0, w1, w2, w3, wsh, wst, a2, a3, a4, a5, a6, a7⟩ := id hw
  intro k
  induction k with
  | zero =>
    intro t s hj hs hret
    refine g_iload K 6 dX0_trySets_49 rfl ?_
    refine g_iload K 4 dX0_trySets_51 rfl ?_
    refine g_icmp_ge (tgt := 113) (a := t) (b := lim) K dX0_trySets_53 (by decide) (by omega) (by omega) (fun h53_1 => ?_) (fun h53_1 => ?_)
    · refine g_iconst K 4294967295 dX0_trySets_113 (by decide +kernel) ?_
      exact g_retd hret dX0_trySets_114 rfl rfl
    · exact absurd h53_1 (by omega)
  | succ k ih =>
    intro t s hj hs hret
    refine g_iload K 6 dX0_trySets_49 rfl ?_
    refine g_iload K 4 dX0_trySets_51 rfl ?_
    refine g_icmp_ge (tgt := 113) (a := t) (b := lim) K dX0_trySets_53 (by decide) (by omega) (by omega) (fun h53_1 => ?_) (fun h53_1 => ?_)
    · exact absurd h53_1 (by omega)
    · have hsl : s < lim := by rw [hs]; exact hlt t (by omega)
      refine g_iload K 5 dX0_trySets_56 rfl ?_
      refine g_iload K 3 dX0_trySets_58 rfl ?_
      refine g_iconst K 4294967295 dX0_trySets_60 (by decide +kernel) ?_
      refine g_ixor (a := c) (b := 4294967295) K dX0_trySets_61 ?_
      refine g_iand (a := s) (b := (c) ^^^ (4294967295)) K dX0_trySets_62 ?_
      have hL62_2 := @Nat.and_le_left (s) ((c) ^^^ (4294967295))
      have hR62_3 := @Nat.and_le_right (s) ((c) ^^^ (4294967295))
      refine g_if_ne (tgt := 70) (a := (s) &&& ((c) ^^^ (4294967295))) K dX0_trySets_63 (by decide) (by omega) (fun h63_4 => ?_) (fun h63_4 => ?_)
      · refine g_iconst K 0 dX0_trySets_70 (by decide +kernel) ?_
        refine g_istore (lo' := [(8, .int (nI (0))), (0, .ref (g_ad X 10)), (2, .int (nI (g))), (3, .int (nI (f))), (4, .int (nI (c))), (5, .int (nI (lim))), (6, .int (nI (s))), (7, .int (nI (t)))]) K dX0_trySets_71 (by decide) rfl ?_
        refine g_iload K 0 dX0_trySets_73 rfl ?_
        refine g_if_eq (tgt := 98) (a := 0) K dX0_trySets_75 (by decide) (by omega) (fun h75_5 => ?_) (fun h75_5 => absurd h75_5 (by omega))
        refine g_iload K 6 dX0_trySets_98 rfl ?_
        refine g_iload K 5 dX0_trySets_100 rfl ?_
        refine g_callSd (As := [.int (nI (s)), .int (nI (lim))]) (rest := []) K (cX0_setBehind_k (g_z X) (va_up (va_up S 11 (a)) 12 (b)) s lim (by omega) (by omega)) (va_cwS 2 K.1.2.2.2.2 gX0_trySets_X0_setBehind rfl rfl rfl (by decide +kernel) ⟨Nat.le_trans (Nat.le_of_ble_eq_true rfl) hRf, Nat.le_trans (Nat.le_of_ble_eq_true rfl) hRl⟩) rfl rfl (Nat.le_of_ble_eq_true rfl) dX0_trySets_102 ?_
        refine g_istore (lo' := [(6, .int (nI (nextF s lim))), (8, .int (nI (0))), (0, .ref (g_ad X 10)), (2, .int (nI (g))), (3, .int (nI (f))), (4, .int (nI (c))), (5, .int (nI (lim))), (7, .int (nI (t)))]) K dX0_trySets_105 (by decide) rfl ?_
        refine g_iinc (a := t) (b := t + 1) (lo' := [(7, .int (nI (t + 1))), (6, .int (nI (nextF s lim))), (8, .int (nI (0))), (0, .ref (g_ad X 10)), (2, .int (nI (g))), (3, .int (nI (f))), (4, .int (nI (c))), (5, .int (nI (lim)))]) K 7 dX0_trySets_107 rfl (gi_inc _) (by decide) rfl ?_
        refine g_goto (tgt := 49) K dX0_trySets_110 (by decide) ?_
        refine g_loc (lo' := [(0, .ref (g_ad X 10)), (2, .int (nI (g))), (3, .int (nI (f))), (4, .int (nI (c))), (5, .int (nI (lim))), (6, .int (nI (nextF s lim))), (7, .int (nI (t + 1)))]) [3, 4, 5, 6, 7, 1, 0] rfl ?_
        exact ih (t + 1) (nextF s lim) (by omega) (by rw [setGo_s, hs]) (fun pc lo hd => by have q := hret pc lo hd; rw [tryGo] at q; first | (rw [if_neg (by assumption)] at q; exact q) | (rw [if_pos (by assumption), if_neg (by assumption)] at q; exact q))
      · refine g_iconst K 1 dX0_trySets_66 (by decide +kernel) ?_
        refine g_goto (tgt := 71) K dX0_trySets_67 (by decide) ?_
        refine g_istore (lo' := [(8, .int (nI (1))), (0, .ref (g_ad X 10)), (2, .int (nI (g))), (3, .int (nI (f))), (4, .int (nI (c))), (5, .int (nI (lim))), (6, .int (nI (s))), (7, .int (nI (t)))]) K dX0_trySets_71 (by decide) rfl ?_
        refine g_iload K 0 dX0_trySets_73 rfl ?_
        refine g_if_eq (tgt := 98) (a := 1) K dX0_trySets_75 (by decide) (by omega) (fun h75_6 => absurd h75_6 (by omega)) (fun h75_6 => ?_)
        refine g_aload_n K 1 dX0_trySets_78 rfl ?_
        refine g_iload K 4 dX0_trySets_79 rfl ?_
        refine g_iload K 6 dX0_trySets_81 rfl ?_
        refine g_iconst K 4294967295 dX0_trySets_83 (by decide +kernel) ?_
        refine g_ixor (a := s) (b := 4294967295) K dX0_trySets_84 ?_
        refine g_iand (a := c) (b := (s) ^^^ (4294967295)) K dX0_trySets_85 ?_
        have hL85_7 := @Nat.and_le_left (c) ((s) ^^^ (4294967295))
        have hR85_8 := @Nat.and_le_right (c) ((s) ^^^ (4294967295))
        refine g_iload_n K 3 dX0_trySets_86 rfl ?_
        refine g_callVd (q := 10) (ci := 0) (As := [.int (nI ((c) &&& ((s) ^^^ (4294967295)))), .int (nI (f))]) (rest := []) (C := RX0) (T := TX0) (N := 6) K (cX0_wetOver_k (g_z X) (va_up (va_up S 11 (a)) 12 (b)) ((c) &&& ((s) ^^^ (4294967295))) f ((wfC_up (wfC_up hw (q := 11) (by decide) _) (q := 12) (by decide) _)) (hh) (by omega) (by omega)) (cwV 2 K.1.2.2.2.2 gX0_trySets_X0_wetOver rfl rfl rfl (by decide +kernel) ⟨Nat.le_trans (Nat.le_of_ble_eq_true rfl) hRf, Nat.le_trans (Nat.le_of_ble_eq_true rfl) hRl⟩) rfl rfl rfl rfl (Nat.le_of_ble_eq_true rfl) dX0_trySets_87 ?_
        refine g_topE (wetO S a b ((c) &&& ((s) ^^^ (4294967295))) (f)) rfl ?_
        have hwl : wetO S a b (c &&& (s ^^^ 4294967295)) f < 268435456 := wetGo_lt hh _ 12 f hf
        refine g_iload_n K 2 dX0_trySets_90 rfl ?_
        refine g_iand (a := wetO S a b ((c) &&& ((s) ^^^ (4294967295))) (f)) (b := g) K dX0_trySets_91 ?_
        have hL91_9 := @Nat.and_le_left (wetO S a b ((c) &&& ((s) ^^^ (4294967295))) (f)) (g)
        have hR91_10 := @Nat.and_le_right (wetO S a b ((c) &&& ((s) ^^^ (4294967295))) (f)) (g)
        refine g_if_ne (tgt := 98) (a := (wetO S a b ((c) &&& ((s) ^^^ (4294967295))) (f)) &&& (g)) K dX0_trySets_92 (by decide) (by omega) (fun h92_11 => ?_) (fun h92_11 => ?_)
        · refine g_iload K 6 dX0_trySets_98 rfl ?_
          refine g_iload K 5 dX0_trySets_100 rfl ?_
          refine g_callSd (As := [.int (nI (s)), .int (nI (lim))]) (rest := []) K (cX0_setBehind_k (g_z X) (va_up (va_up S 11 (a)) 12 (b)) s lim (by omega) (by omega)) (va_cwS 2 K.1.2.2.2.2 gX0_trySets_X0_setBehind rfl rfl rfl (by decide +kernel) ⟨Nat.le_trans (Nat.le_of_ble_eq_true rfl) hRf, Nat.le_trans (Nat.le_of_ble_eq_true rfl) hRl⟩) rfl rfl (Nat.le_of_ble_eq_true rfl) dX0_trySets_102 ?_
          refine g_istore (lo' := [(6, .int (nI (nextF s lim))), (8, .int (nI (1))), (0, .ref (g_ad X 10)), (2, .int (nI (g))), (3, .int (nI (f))), (4, .int (nI (c))), (5, .int (nI (lim))), (7, .int (nI (t)))]) K dX0_trySets_105 (by decide) rfl ?_
          refine g_iinc (a := t) (b := t + 1) (lo' := [(7, .int (nI (t + 1))), (6, .int (nI (nextF s lim))), (8, .int (nI (1))), (0, .ref (g_ad X 10)), (2, .int (nI (g))), (3, .int (nI (f))), (4, .int (nI (c))), (5, .int (nI (lim)))]) K 7 dX0_trySets_107 rfl (gi_inc _) (by decide) rfl ?_
          refine g_goto (tgt := 49) K dX0_trySets_110 (by decide) ?_
          refine g_loc (lo' := [(0, .ref (g_ad X 10)), (2, .int (nI (g))), (3, .int (nI (f))), (4, .int (nI (c))), (5, .int (nI (lim))), (6, .int (nI (nextF s lim))), (7, .int (nI (t + 1)))]) [3, 4, 5, 6, 7, 1, 0] rfl ?_
          exact ih (t + 1) (nextF s lim) (by omega) (by rw [setGo_s, hs]) (fun pc lo hd => by have q := hret pc lo hd; rw [tryGo] at q; first | (rw [if_neg (by assumption)] at q; exact q) | (rw [if_pos (by assumption), if_neg (by assumption)] at q; exact q))
        · refine g_iload K 6 dX0_trySets_95 rfl ?_
          exact g_retd hret dX0_trySets_97 (by rw [tryGo, if_pos (by assumption), if_pos (by assumption)]) rfl

set_option maxHeartbeats 4000000 in
set_option maxRecDepth 100000 in
theorem cX0_trySets_k (Z : gZ) (S : Nat → Nat → Nat) (p : Nat) (hw : wfC S) (hp : p < 16) : gMd Z yX0_trySets wsX0_trySets { frames := 4, cells := 0, slots := 0, locals := 90 } [.ref (gz_ad Z 10), .int (nI (p))] S (tryF S p) (tryS S p) := by
  refine gMd_of (cc := cX0_trySets) (maxL := 9) (ret := (some .int)) (by decide +kernel) rfl (Nat.le_of_ble_eq_true rfl) (Or.inl rfl) (fun X hZ hR K hret => ?_)
  subst hZ
  have K : gOk X cX0_trySets 9 wsX0_trySets RX0 := K
  have hRf : 4 ≤ (g_R X).frames := gR_f hR rfl
  have hRl : 90 ≤ (g_R X).locals := gR_l hR rfl
  have hin0 : ∀ w ∈ u_ws RX0 TX0 6, w ∈ wsX0_trySets := by decide +kernel
  obtain ⟨w0, w1, w2, w3, wsh, wst, a2, a3, a4, a5, a6, a7⟩ := id hw
  show gG X 0 [(0, .ref (g_ad X 10)), (1, .int (nI (p)))] [] S
  refine g_aload_n K 0 dX0_trySets_0 rfl ?_
  refine g_iload_n K 1 dX0_trySets_1 rfl ?_
  refine g_callVd (q := 10) (ci := 0) (As := [.int (nI (p))]) (rest := []) (C := RX0) (T := TX0) (N := 6) K (cX0_regionOf_k (g_z X) S p (hw) (by omega)) (cwV 1 K.1.2.2.2.2 gX0_trySets_X0_regionOf rfl rfl rfl (by decide +kernel) ⟨Nat.le_trans (Nat.le_of_ble_eq_true rfl) hRf, Nat.le_trans (Nat.le_of_ble_eq_true rfl) hRl⟩) rfl rfl rfl rfl (Nat.le_of_ble_eq_true rfl) dX0_trySets_2 ?_
  have hlr := regOf_lt hw hp
  refine g_istore_n (lo' := [(2, .int (nI (regOf S p))), (0, .ref (g_ad X 10)), (1, .int (nI (p)))]) K dX0_trySets_5 (by decide) rfl ?_
  refine g_aload_n K 1 dX0_trySets_6 rfl ?_
  refine g_callVd (q := 10) (ci := 0) (As := []) (rest := []) (C := RX0) (T := TX0) (N := 6) K (cX0_regionsWithSources_k (g_z X) S (hw)) (cwV 0 K.1.2.2.2.2 gX0_trySets_X0_regionsWithSources rfl rfl rfl (by decide +kernel) ⟨Nat.le_trans (Nat.le_of_ble_eq_true rfl) hRf, Nat.le_trans (Nat.le_of_ble_eq_true rfl) hRl⟩) rfl rfl rfl rfl (Nat.le_of_ble_eq_true rfl) dX0_trySets_7 ?_
  refine g_istore_n (lo' := [(3, .int (nI (fedF S))), (2, .int (nI (regOf S p))), (0, .ref (g_ad X 10)), (1, .int (nI (p)))]) K dX0_trySets_10 (by decide) rfl ?_
  refine g_iload_n K 0 dX0_trySets_11 rfl ?_
  refine g_iload_n K 1 dX0_trySets_12 rfl ?_
  refine g_iand (a := fedF S) (b := regOf S p) K dX0_trySets_13 ?_
  have hL13_1 := @Nat.and_le_left (fedF S) (regOf S p)
  have hR13_2 := @Nat.and_le_right (fedF S) (regOf S p)
  have hlf := fedF_lt hw
  refine g_if_eq (tgt := 19) (a := (fedF S) &&& (regOf S p)) K dX0_trySets_14 (by decide) (by omega) (fun h14_3 => ?_) (fun h14_3 => ?_)
  · refine g_aload_n K 2 dX0_trySets_19 rfl ?_
    refine g_callVv (q := 10) (ci := 0) (As := []) (rest := []) (C := RX0) (T := TX0) (N := 6) K (cX0_findRegionsOfValves_k (g_z X) S (hw)) (cwV 0 K.1.2.2.2.2 gX0_trySets_X0_findRegionsOfValves rfl rfl rfl (by decide +kernel) ⟨Nat.le_trans (Nat.le_of_ble_eq_true rfl) hRf, Nat.le_trans (Nat.le_of_ble_eq_true rfl) hRl⟩) rfl rfl rfl rfl (Nat.le_of_ble_eq_true rfl) dX0_trySets_20 ?_
    refine g_cast (S' := (va_up (va_up S 11 ((regsF S).1)) 12 ((regsF S).2))) rfl rfl rfl ?_
    refine g_aload_n K 2 dX0_trySets_23 rfl ?_
    refine g_getR (q' := 1) (q := 10) (ci := 0) (k := 0) (N := 6) (C := RX0) (T := TX0) (ref := "ValveWalk$Breaks") K rfl rfl rfl (by decide) hin0 (by decide +kernel) rfl dX0_trySets_24 ?_
    refine g_callVd (q := 1) (ci := 2) (As := []) (rest := []) (C := RX2) (T := TX2) (N := 12) K (cX2_closable_k (g_z X) (va_up (va_up S 11 ((regsF S).1)) 12 ((regsF S).2)) ((wfC_up (wfC_up hw (q := 11) (by decide) _) (q := 12) (by decide) _))) (cwV 0 K.1.2.2.2.2 gX0_trySets_X2_closable rfl rfl rfl (by decide +kernel) ⟨Nat.le_trans (Nat.le_of_ble_eq_true rfl) hRf, Nat.le_trans (Nat.le_of_ble_eq_true rfl) hRl⟩) rfl rfl rfl rfl (Nat.le_of_ble_eq_true rfl) dX0_trySets_27 ?_
    refine g_topE (closable S) (by first | (rw [closable_up (q := 12) (by decide), closable_up (q := 11) (by decide)]; done) | (rw [closable_up (q := 12) (by decide), closable_up (q := 11) (by decide)]; rfl)) ?_
    refine g_istore (lo' := [(4, .int (nI (closable S))), (3, .int (nI (fedF S))), (2, .int (nI (regOf S p))), (0, .ref (g_ad X 10)), (1, .int (nI (p)))]) K dX0_trySets_30 (by decide) rfl ?_
    refine g_iconst K 1 dX0_trySets_32 (by decide +kernel) ?_
    refine g_aload_n K 3 dX0_trySets_33 rfl ?_
    refine g_getR (q' := 1) (q := 10) (ci := 0) (k := 0) (N := 6) (C := RX0) (T := TX0) (ref := "ValveWalk$Breaks") K rfl rfl rfl (by decide) hin0 (by decide +kernel) rfl dX0_trySets_34 ?_
    refine g_callVd (q := 1) (ci := 2) (As := []) (rest := [.int (nI (1))]) (C := RX2) (T := TX2) (N := 12) K (cX2_valveCount_k (g_z X) (va_up (va_up S 11 ((regsF S).1)) 12 ((regsF S).2))) (cwV 0 K.1.2.2.2.2 gX0_trySets_X2_valveCount rfl rfl rfl (by decide +kernel) ⟨Nat.le_trans (Nat.le_of_ble_eq_true rfl) hRf, Nat.le_trans (Nat.le_of_ble_eq_true rfl) hRl⟩) rfl rfl rfl rfl (Nat.le_of_ble_eq_true rfl) dX0_trySets_37 ?_
    refine g_topE (S 1 2) rfl ?_
    refine g_ishl (a := 1) (b := S 1 2) K (by omega) dX0_trySets_40 ?_
    refine g_istore (lo' := [(5, .int (nI ((1) <<< (S 1 2)))), (4, .int (nI (closable S))), (3, .int (nI (fedF S))), (2, .int (nI (regOf S p))), (0, .ref (g_ad X 10)), (1, .int (nI (p)))]) K dX0_trySets_41 (by decide) rfl ?_
    refine g_iconst K 0 dX0_trySets_43 (by decide +kernel) ?_
    refine g_istore (lo' := [(6, .int (nI (0))), (5, .int (nI ((1) <<< (S 1 2)))), (4, .int (nI (closable S))), (3, .int (nI (fedF S))), (2, .int (nI (regOf S p))), (0, .ref (g_ad X 10)), (1, .int (nI (p)))]) K dX0_trySets_44 (by decide) rfl ?_
    refine g_iconst K 0 dX0_trySets_46 (by decide +kernel) ?_
    refine g_istore (lo' := [(7, .int (nI (0))), (6, .int (nI (0))), (5, .int (nI ((1) <<< (S 1 2)))), (4, .int (nI (closable S))), (3, .int (nI (fedF S))), (2, .int (nI (regOf S p))), (0, .ref (g_ad X 10)), (1, .int (nI (p)))]) K dX0_trySets_47 (by decide) rfl ?_
    refine g_loc (lo' := [(0, .ref (g_ad X 10)), (2, .int (nI (regOf S p))), (3, .int (nI (fedF S))), (4, .int (nI (closable S))), (5, .int (nI ((1) <<< (S 1 2)))), (6, .int (nI (0))), (7, .int (nI (0)))]) [6, 5, 4, 3, 2, 1, 0] rfl ?_
    exact L_try X S (regOf S p) (fedF S) (closable S) (1 <<< S 1 2) (regsF S).1 (regsF S).2 K (Nat.le_trans (Nat.le_of_ble_eq_true rfl) hRf) (Nat.le_trans (Nat.le_of_ble_eq_true rfl) hRl) hw (regsF_lt hw) (regOf_lt hw hp) (fedF_lt hw) (closable_lt hw) (shl1_le (n := 12) w2) (fun t ht => setAt_lt w2 ht) (1 <<< S 1 2) 0 0 (by omega) rfl (fun pc lo hd => by have q := hret pc lo hd; rw [tryF, tryS, if_pos (by assumption), if_pos (by assumption)] at q; exact q)
  · refine g_iconst K 4294967295 dX0_trySets_17 (by decide +kernel) ?_
    exact g_retd hret dX0_trySets_18 (by rw [tryF, if_neg (by assumption)]) (by rw [tryS, if_neg (by assumption)])

