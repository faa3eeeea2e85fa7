set_option maxHeartbeats 4000000 in
set_option maxRecDepth 100000 in
theorem L_flush (X : gC) (S : Nat → Nat → Nat) (pl : Nat) (K : gOk X cX1_pipeAndEndAt 3 wsX1_pipeAndEndAt RX1) (hRf : 6 ≤ (g_R X).frames) (hRl : 133 ≤ (g_R X).locals) (hw : wfC S) (hd : ∀ j, j < 12 → S 17 j ≤ 1000000) (hpl : pl < 4294967296) : ∀ (k p : Nat), p + k = S 1 1 → (∀ (pc : Nat) (lo : List (Nat × Value)), decode cX1_pipeAndEndAt pc = .ok (.ireturn, 1) → gG X pc lo [.int (nI (flushGo S (S 17) pl k p))] S) → gG X 6 [(0, .ref (g_ad X 16)), (1, .int (nI (pl))), (2, .int (nI (p)))] [] S := by
  have hin1 : ∀ w ∈ u_ws RX1 TX1 2, w ∈ wsX1_pipeAndEndAt := by decide +kernel
  obtain ⟨w0, w1, w2, w3, wsh, wst, a2, a3, a4, a5, a6, a7⟩ := id hw
  intro k
  induction k with
  | zero =>
    intro p hj hret
    refine g_iload_n K 2 dX1_pipeAndEndAt_6 rfl ?_
    refine g_aload_n K 0 dX1_pipeAndEndAt_7 rfl ?_
    refine g_getR (q' := 1) (q := 16) (ci := 1) (k := 0) (N := 2) (C := RX1) (T := TX1) (ref := "ValveWalk$Flushing") K rfl rfl rfl (by decide) hin1 (by decide +kernel) rfl dX1_pipeAndEndAt_8 ?_
    refine g_callVd (q := 1) (ci := 2) (As := []) (rest := [.int (nI (p))]) (C := RX2) (T := TX2) (N := 12) K (cX2_pipeCount_k (g_z X) S) (cwV 0 K.1.2.2.2.2 gX1_pipeAndEndAt_X2_pipeCount rfl rfl rfl (by decide +kernel) ⟨Nat.le_trans (Nat.le_of_ble_eq_true rfl) hRf, Nat.le_trans (Nat.le_of_ble_eq_true rfl) hRl⟩) rfl rfl rfl rfl (Nat.le_of_ble_eq_true rfl) dX1_pipeAndEndAt_11 ?_
    refine g_icmp_ge (tgt := 50) (a := p) (b := S 1 1) K dX1_pipeAndEndAt_14 (by decide) (by omega) (by omega) (fun h14_1 => ?_) (fun h14_1 => ?_)
    · refine g_iconst K 4294967295 dX1_pipeAndEndAt_50 (by decide +kernel) ?_
      exact g_retd hret dX1_pipeAndEndAt_51 rfl rfl
    · exact absurd h14_1 (by omega)
  | succ k ih =>
    intro p hj hret
    refine g_iload_n K 2 dX1_pipeAndEndAt_6 rfl ?_
    refine g_aload_n K 0 dX1_pipeAndEndAt_7 rfl ?_
    refine g_getR (q' := 1) (q := 16) (ci := 1) (k := 0) (N := 2) (C := RX1) (T := TX1) (ref := "ValveWalk$Flushing") K rfl rfl rfl (by decide) hin1 (by decide +kernel) rfl dX1_pipeAndEndAt_8 ?_
    refine g_callVd (q := 1) (ci := 2) (As := []) (rest := [.int (nI (p))]) (C := RX2) (T := TX2) (N := 12) K (cX2_pipeCount_k (g_z X) S) (cwV 0 K.1.2.2.2.2 gX1_pipeAndEndAt_X2_pipeCount rfl rfl rfl (by decide +kernel) ⟨Nat.le_trans (Nat.le_of_ble_eq_true rfl) hRf, Nat.le_trans (Nat.le_of_ble_eq_true rfl) hRl⟩) rfl rfl rfl rfl (Nat.le_of_ble_eq_true rfl) dX1_pipeAndEndAt_11 ?_
    refine g_icmp_ge (tgt := 50) (a := p) (b := S 1 1) K dX1_pipeAndEndAt_14 (by decide) (by omega) (by omega) (fun h14_1 => ?_) (fun h14_1 => ?_)
    · exact absurd h14_1 (by omega)
    · have hp16 : p < 16 := by omega
      refine g_aload_n K 0 dX1_pipeAndEndAt_17 rfl ?_
      refine g_iload_n K 2 dX1_pipeAndEndAt_18 rfl ?_
      refine g_callVd (q := 16) (ci := 1) (As := [.int (nI (p))]) (rest := []) (C := RX1) (T := TX1) (N := 2) K (cX1_isFlushed_k (g_z X) S p (hw) (hd) (by omega)) (cwV 1 K.1.2.2.2.2 gX1_pipeAndEndAt_X1_isFlushed rfl rfl rfl (by decide +kernel) ⟨Nat.le_trans (Nat.le_of_ble_eq_true rfl) hRf, Nat.le_trans (Nat.le_of_ble_eq_true rfl) hRl⟩) rfl rfl rfl rfl (Nat.le_of_ble_eq_true rfl) dX1_pipeAndEndAt_19 ?_
      have hfl := flushed_le S (S 17) p
      refine g_if_eq (tgt := 44) (a := flushed S (S 17) p) K dX1_pipeAndEndAt_22 (by decide) (by omega) (fun h22_2 => ?_) (fun h22_2 => ?_)
      · refine g_iinc (a := p) (b := p + 1) (lo' := [(2, .int (nI (p + 1))), (0, .ref (g_ad X 16)), (1, .int (nI (pl)))]) K 2 dX1_pipeAndEndAt_44 rfl (gi_inc _) (by decide) rfl ?_
        refine g_goto (tgt := 6) K dX1_pipeAndEndAt_47 (by decide) ?_
        refine g_loc (lo' := [(0, .ref (g_ad X 16)), (1, .int (nI (pl))), (2, .int (nI (p + 1)))]) [1, 2, 0] rfl ?_
        exact ih (p + 1) (by omega) (fun pc lo hd => by have q := hret pc lo hd; rw [flushGo] at q; first | (rw [if_pos (by assumption)] at q; exact q) | (rw [if_neg (by assumption), if_neg (by assumption)] at q; exact q))
      · refine g_aload_n K 0 dX1_pipeAndEndAt_25 rfl ?_
        refine g_iload_n K 2 dX1_pipeAndEndAt_26 rfl ?_
        refine g_callVd (q := 16) (ci := 1) (As := [.int (nI (p))]) (rest := []) (C := RX1) (T := TX1) (N := 2) K (cX1_placeOf_k (g_z X) S p (hw) (hd) (by omega)) (cwV 1 K.1.2.2.2.2 gX1_pipeAndEndAt_X1_placeOf rfl rfl rfl (by decide +kernel) ⟨Nat.le_trans (Nat.le_of_ble_eq_true rfl) hRf, Nat.le_trans (Nat.le_of_ble_eq_true rfl) hRl⟩) rfl rfl rfl rfl (Nat.le_of_ble_eq_true rfl) dX1_pipeAndEndAt_27 ?_
        have hf27_3 := placeF_le S (S 17) p
        have hpl1 := placeF_le S (S 17) p
        refine g_iload_n K 1 dX1_pipeAndEndAt_30 rfl ?_
        refine g_icmp_ne (tgt := 44) (a := placeF S (S 17) p) (b := pl) K dX1_pipeAndEndAt_31 (by decide) (by omega) (by omega) (fun h31_4 => ?_) (fun h31_4 => ?_)
        · refine g_iinc (a := p) (b := p + 1) (lo' := [(2, .int (nI (p + 1))), (0, .ref (g_ad X 16)), (1, .int (nI (pl)))]) K 2 dX1_pipeAndEndAt_44 rfl (gi_inc _) (by decide) rfl ?_
          refine g_goto (tgt := 6) K dX1_pipeAndEndAt_47 (by decide) ?_
          refine g_loc (lo' := [(0, .ref (g_ad X 16)), (1, .int (nI (pl))), (2, .int (nI (p + 1)))]) [1, 2, 0] rfl ?_
          exact ih (p + 1) (by omega) (fun pc lo hd => by have q := hret pc lo hd; rw [flushGo] at q; first | (rw [if_pos (by assumption)] at q; exact q) | (rw [if_neg (by assumption), if_neg (by assumption)] at q; exact q))
        · refine g_iconst K 2 dX1_pipeAndEndAt_34 (by decide +kernel) ?_
          refine g_iload_n K 2 dX1_pipeAndEndAt_35 rfl ?_
          refine g_imul (a := 2) (b := p) K dX1_pipeAndEndAt_36 ?_
          refine g_aload_n K 0 dX1_pipeAndEndAt_37 rfl ?_
          refine g_iload_n K 2 dX1_pipeAndEndAt_38 rfl ?_
          refine g_callVd (q := 16) (ci := 1) (As := [.int (nI (p))]) (rest := [.int (nI ((2) * (p)))]) (C := RX1) (T := TX1) (N := 2) K (cX1_endOf_k (g_z X) S p (hw) (hd) (by omega)) (cwV 1 K.1.2.2.2.2 gX1_pipeAndEndAt_X1_endOf rfl rfl rfl (by decide +kernel) ⟨Nat.le_trans (Nat.le_of_ble_eq_true rfl) hRf, Nat.le_trans (Nat.le_of_ble_eq_true rfl) hRl⟩) rfl rfl rfl rfl (Nat.le_of_ble_eq_true rfl) dX1_pipeAndEndAt_39 ?_
          have hf39_5 := endF_le S (S 17) p
          refine g_iadd (a := (2) * (p)) (b := endF S (S 17) p) K dX1_pipeAndEndAt_42 ?_
          exact g_retd hret dX1_pipeAndEndAt_43 (by rw [flushGo, if_neg (by assumption), if_pos (by assumption)]) rfl

theorem dAt_up {S : Nat → Nat → Nat} {q : Nat} {e : Nat → Nat} (h : 7 < q) (d : Nat → Nat) (p n : Nat) : dAt (va_up S q e) d p n = dAt S d p n := by
  simp only [dAt, shutAt_up h, va_up_ne (f := S) e (show 4 ≠ q by omega)]
theorem endF_up {S : Nat → Nat → Nat} {q : Nat} {e : Nat → Nat} (h : 7 < q) (d : Nat → Nat) (p : Nat) : endF (va_up S q e) d p = endF S d p := by simp only [endF, dAt_up h]
theorem dEnd_up {S : Nat → Nat → Nat} {q : Nat} {e : Nat → Nat} (h : 7 < q) (d : Nat → Nat) (p : Nat) : dEnd (va_up S q e) d p = dEnd S d p := by simp only [dEnd, endF_up h, dAt_up h]
theorem flushed_up {S : Nat → Nat → Nat} {q : Nat} {e : Nat → Nat} (h : 7 < q) (d : Nat → Nat) (p : Nat) : flushed (va_up S q e) d p = flushed S d p := by simp only [flushed, dEnd_up h]
theorem ahead_up {S : Nat → Nat → Nat} {q : Nat} {e : Nat → Nat} (h : 7 < q) (d : Nat → Nat) (a p : Nat) : ahead (va_up S q e) d a p = ahead S d a p := by simp only [ahead, dEnd_up h]
theorem placeF_up {S : Nat → Nat → Nat} {q : Nat} {e : Nat → Nat} (h : 7 < q) (d : Nat → Nat) (p : Nat) : placeF (va_up S q e) d p = placeF S d p := by
  have e1 : fAhead (va_up S q e) d p = fAhead S d p := by funext a n; simp only [fAhead, ahead_up h]
  simp only [placeF, e1, va_up_ne (f := S) e (show 1 ≠ q by omega)]
theorem flushGo_up {S : Nat → Nat → Nat} {q : Nat} {e : Nat → Nat} (h : 7 < q) (d : Nat → Nat) (pl : Nat) : ∀ (k p : Nat), flushGo (va_up S q e) d pl k p = flushGo S d pl k p
  | 0, _ => rfl
  | k + 1, p => by simp only [flushGo, flushed_up h, placeF_up h, endF_up h, flushGo_up h d pl k]
theorem flushF_up (S : Nat → Nat → Nat) (pl : Nat) : flushF S pl = flushGo (va_up S 17 (measD S)) (va_up S 17 (measD S) 17) pl (S 1 1) 0 := by
  rw [flushGo_up (by decide)]; rfl
set_option maxHeartbeats 4000000 in
set_option maxRecDepth 100000 in
theorem cX1_pipeAndEndAt_k (Z : gZ) (S : Nat → Nat → Nat) (pl : Nat) (hw : wfC S) (hpl : pl < 4294967296) : gMd Z yX1_pipeAndEndAt wsX1_pipeAndEndAt { frames := 6, cells := 0, slots := 0, locals := 133 } [.ref (gz_ad Z 16), .int (nI (pl))] S (flushF S pl) (va_up S 17 (measD S)) := by
  refine gMd_of (cc := cX1_pipeAndEndAt) (maxL := 3) (ret := (some .int)) (by decide +kernel) rfl (Nat.le_of_ble_eq_true rfl) (Or.inl rfl) (fun X hZ hR K hret => ?_)
  subst hZ
  have K : gOk X cX1_pipeAndEndAt 3 wsX1_pipeAndEndAt RX1 := K
  have hRf : 6 ≤ (g_R X).frames := gR_f hR rfl
  have hRl : 133 ≤ (g_R X).locals := gR_l hR rfl
  have hin1 : ∀ w ∈ u_ws RX1 TX1 2, w ∈ wsX1_pipeAndEndAt := by decide +kernel
  obtain ⟨w0, w1, w2, w3, wsh, wst, a2, a3, a4, a5, a6, a7⟩ := id hw
  show gG X 0 [(0, .ref (g_ad X 16)), (1, .int (nI (pl)))] [] S
  refine g_aload_n K 0 dX1_pipeAndEndAt_0 rfl ?_
  refine g_callVv (q := 16) (ci := 1) (As := []) (rest := []) (C := RX1) (T := TX1) (N := 2) K (cX1_measure_k (g_z X) S (hw)) (cwV 0 K.1.2.2.2.2 gX1_pipeAndEndAt_X1_measure rfl rfl rfl (by decide +kernel) ⟨Nat.le_trans (Nat.le_of_ble_eq_true rfl) hRf, Nat.le_trans (Nat.le_of_ble_eq_true rfl) hRl⟩) rfl rfl rfl rfl (Nat.le_of_ble_eq_true rfl) dX1_pipeAndEndAt_1 ?_
  refine g_cast (S' := (va_up S 17 (measD S))) rfl rfl rfl ?_
  refine g_iconst K 0 dX1_pipeAndEndAt_4 (by decide +kernel) ?_
  refine g_istore_n (lo' := [(2, .int (nI (0))), (0, .ref (g_ad X 16)), (1, .int (nI (pl)))]) K dX1_pipeAndEndAt_5 (by decide) rfl ?_
  refine g_loc (lo' := [(0, .ref (g_ad X 16)), (1, .int (nI (pl))), (2, .int (nI (0)))]) [1, 2, 0] rfl ?_
  exact L_flush X (va_up S 17 (measD S)) pl K (Nat.le_trans (Nat.le_of_ble_eq_true rfl) hRf) (Nat.le_trans (Nat.le_of_ble_eq_true rfl) hRl) (wfC_up hw (by decide) _) (measD_le hw) hpl (S 1 1) 0 (by show 0 + S 1 1 = S 1 1; omega) (fun pc lo hd => by have q := hret pc lo hd; rw [flushF_up] at q; exact q)

