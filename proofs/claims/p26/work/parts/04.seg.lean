/-! JDK: max, min, numberOfTrailingZeros; class Segments -/
def ntzF (y : Nat) : Nat := if y = 0 then 0 else
  if y ≤ 65536 then 
    if y ≤ 256 then 
      if y ≤ 16 then 
        if y ≤ 4 then 1 + y >>> 1 
        else 3 + (y >>> 2) >>> 1 
      else 
        if (y >>> 4) ≤ 4 then 5 + (y >>> 4) >>> 1 
        else 7 + ((y >>> 4) >>> 2) >>> 1 
    else 
      if (y >>> 8) ≤ 16 then 
        if (y >>> 8) ≤ 4 then 9 + (y >>> 8) >>> 1 
        else 11 + ((y >>> 8) >>> 2) >>> 1 
      else 
        if ((y >>> 8) >>> 4) ≤ 4 then 13 + ((y >>> 8) >>> 4) >>> 1 
        else 15 + (((y >>> 8) >>> 4) >>> 2) >>> 1 
  else 
    if (y >>> 16) ≤ 256 then 
      if (y >>> 16) ≤ 16 then 
        if (y >>> 16) ≤ 4 then 17 + (y >>> 16) >>> 1 
        else 19 + ((y >>> 16) >>> 2) >>> 1 
      else 
        if ((y >>> 16) >>> 4) ≤ 4 then 21 + ((y >>> 16) >>> 4) >>> 1 
        else 23 + (((y >>> 16) >>> 4) >>> 2) >>> 1 
    else 
      if ((y >>> 16) >>> 8) ≤ 16 then 
        if ((y >>> 16) >>> 8) ≤ 4 then 25 + ((y >>> 16) >>> 8) >>> 1 
        else 27 + (((y >>> 16) >>> 8) >>> 2) >>> 1 
      else 
        if (((y >>> 16) >>> 8) >>> 4) ≤ 4 then 29 + (((y >>> 16) >>> 8) >>> 4) >>> 1 
        else 31 + ((((y >>> 16) >>> 8) >>> 4) >>> 2) >>> 1
def ntz (a : Nat) : Nat := ntzF ((a ^^^ 4294967295) &&& (a - 1))
set_option maxHeartbeats 4000000 in
set_option maxRecDepth 100000 in
theorem cJ6_numberOfTrailingZeros_0f7a4_k (Z : gZ) (S : Nat → Nat → Nat) (a : Nat) (ha : a < 2147483648) (h0 : 0 < a) : gMd Z yJ6_numberOfTrailingZeros_0f7a4 wsJ6_numberOfTrailingZeros_0f7a4 { frames := 0, cells := 0, slots := 0, locals := 0 } [.int (nI (a))] S (ntz a) (S) := by
  refine gMd_of (cc := cJ6_numberOfTrailingZeros_0f7a4) (maxL := 2) (ret := (some .int)) (by decide +kernel) rfl (Nat.le_of_ble_eq_true rfl) (Or.inl rfl) (fun X hZ hR K hret => ?_)
  subst hZ
  have K : gOk X cJ6_numberOfTrailingZeros_0f7a4 2 wsJ6_numberOfTrailingZeros_0f7a4 RJ6 := K
  have hRf : 0 ≤ (g_R X).frames := gR_f hR rfl
  have hRl : 0 ≤ (g_R X).locals := gR_l hR rfl
  show gG X 0 [(0, .int (nI (a)))] [] S
  refine g_iload_n K 0 dJ6_numberOfTrailingZeros_0f7a4_0 rfl ?_
  refine g_iconst K 4294967295 dJ6_numberOfTrailingZeros_0f7a4_1 (by decide +kernel) ?_
  refine g_ixor (a := a) (b := 4294967295) K dJ6_numberOfTrailingZeros_0f7a4_2 ?_
  refine g_iload_n K 0 dJ6_numberOfTrailingZeros_0f7a4_3 rfl ?_
  refine g_iconst K 1 dJ6_numberOfTrailingZeros_0f7a4_4 (by decide +kernel) ?_
  refine g_isub (a := a) (b := 1) K (by omega) dJ6_numberOfTrailingZeros_0f7a4_5 ?_
  refine g_iand (a := (a) ^^^ (4294967295)) (b := (a) - (1)) K dJ6_numberOfTrailingZeros_0f7a4_6 ?_
  have hL6_1 := @Nat.and_le_left ((a) ^^^ (4294967295)) ((a) - (1))
  have hR6_2 := @Nat.and_le_right ((a) ^^^ (4294967295)) ((a) - (1))
  obtain ⟨y, hy⟩ : ∃ y, y = (a ^^^ 4294967295) &&& (a - 1) := ⟨_, rfl⟩
  have hy9 : y < 2147483648 := by omega
  refine g_topE y hy.symm ?_
  refine g_istore_n (lo' := [(0, .int (nI (y)))]) K dJ6_numberOfTrailingZeros_0f7a4_7 (by decide) rfl ?_
  refine g_iload_n K 0 dJ6_numberOfTrailingZeros_0f7a4_8 rfl ?_
  refine g_if_gt (tgt := 17) (a := y) K dJ6_numberOfTrailingZeros_0f7a4_9 (by decide) (by omega) (fun h9_3 => ?_) (fun h9_3 => ?_)
  · refine g_iconst K 1 dJ6_numberOfTrailingZeros_0f7a4_17 (by decide +kernel) ?_
    refine g_istore_n (lo' := [(1, .int (nI (1))), (0, .int (nI (y)))]) K dJ6_numberOfTrailingZeros_0f7a4_18 (by decide) rfl ?_
    refine g_iload_n K 1 dJ6_numberOfTrailingZeros_0f7a4_19 rfl ?_
    refine g_ldc_w (w := 65536) K 65536 (K.1.2.2.2.2 _ (by decide +kernel)) (by decide +kernel) dJ6_numberOfTrailingZeros_0f7a4_20 ?_
    refine g_icmp_le (tgt := 34) (a := y) (b := 65536) K dJ6_numberOfTrailingZeros_0f7a4_23 (by decide) (by omega) (by omega) (fun h23_4 => ?_) (fun h23_4 => ?_)
    · refine g_iload_n K 1 dJ6_numberOfTrailingZeros_0f7a4_34 rfl ?_
      refine g_sipush K 256 dJ6_numberOfTrailingZeros_0f7a4_35 (by decide +kernel) ?_
      refine g_icmp_le (tgt := 49) (a := y) (b := 256) K dJ6_numberOfTrailingZeros_0f7a4_38 (by decide) (by omega) (by omega) (fun h38_5 => ?_) (fun h38_5 => ?_)
      · refine g_iload_n K 1 dJ6_numberOfTrailingZeros_0f7a4_49 rfl ?_
        refine g_bipush K 16 dJ6_numberOfTrailingZeros_0f7a4_50 (by decide +kernel) ?_
        refine g_icmp_le (tgt := 62) (a := y) (b := 16) K dJ6_numberOfTrailingZeros_0f7a4_52 (by decide) (by omega) (by omega) (fun h52_6 => ?_) (fun h52_6 => ?_)
        · refine g_iload_n K 1 dJ6_numberOfTrailingZeros_0f7a4_62 rfl ?_
          refine g_iconst K 4 dJ6_numberOfTrailingZeros_0f7a4_63 (by decide +kernel) ?_
          refine g_icmp_le (tgt := 74) (a := y) (b := 4) K dJ6_numberOfTrailingZeros_0f7a4_64 (by decide) (by omega) (by omega) (fun h64_7 => ?_) (fun h64_7 => ?_)
          · refine g_iload_n K 0 dJ6_numberOfTrailingZeros_0f7a4_74 rfl ?_
            refine g_iload_n K 1 dJ6_numberOfTrailingZeros_0f7a4_75 rfl ?_
            refine g_iconst K 1 dJ6_numberOfTrailingZeros_0f7a4_76 (by decide +kernel) ?_
            refine g_iushr (a := y) (b := 1) K (by omega) (by decide) dJ6_numberOfTrailingZeros_0f7a4_77 ?_
            have hL77_8 := Nat.shiftRight_le (y) (1)
            refine g_iadd (a := 1) (b := (y) >>> (1)) K dJ6_numberOfTrailingZeros_0f7a4_78 ?_
            exact g_retd hret dJ6_numberOfTrailingZeros_0f7a4_79 (by rw [ntz, ← hy]; clear hy; unfold ntzF; (repeat' split) <;> first | rfl | omega) rfl
          · refine g_iinc (a := 1) (b := 3) (lo' := [(1, .int (nI (3))), (0, .int (nI (y)))]) K 0 dJ6_numberOfTrailingZeros_0f7a4_67 rfl (nI_add _ 2) (by decide) rfl ?_
            refine g_iload_n K 1 dJ6_numberOfTrailingZeros_0f7a4_70 rfl ?_
            refine g_iconst K 2 dJ6_numberOfTrailingZeros_0f7a4_71 (by decide +kernel) ?_
            refine g_iushr (a := y) (b := 2) K (by omega) (by decide) dJ6_numberOfTrailingZeros_0f7a4_72 ?_
            have hL72_9 := Nat.shiftRight_le (y) (2)
            refine g_istore_n (lo' := [(0, .int (nI ((y) >>> (2)))), (1, .int (nI (3)))]) K dJ6_numberOfTrailingZeros_0f7a4_73 (by decide) rfl ?_
            refine g_iload_n K 1 dJ6_numberOfTrailingZeros_0f7a4_74 rfl ?_
            refine g_iload_n K 0 dJ6_numberOfTrailingZeros_0f7a4_75 rfl ?_
            refine g_iconst K 1 dJ6_numberOfTrailingZeros_0f7a4_76 (by decide +kernel) ?_
            refine g_iushr (a := (y) >>> (2)) (b := 1) K (by omega) (by decide) dJ6_numberOfTrailingZeros_0f7a4_77 ?_
            have hL77_10 := Nat.shiftRight_le ((y) >>> (2)) (1)
            refine g_iadd (a := 3) (b := ((y) >>> (2)) >>> (1)) K dJ6_numberOfTrailingZeros_0f7a4_78 ?_
            exact g_retd hret dJ6_numberOfTrailingZeros_0f7a4_79 (by rw [ntz, ← hy]; clear hy; unfold ntzF; (repeat' split) <;> first | rfl | omega) rfl
        · refine g_iinc (a := 1) (b := 5) (lo' := [(1, .int (nI (5))), (0, .int (nI (y)))]) K 0 dJ6_numberOfTrailingZeros_0f7a4_55 rfl (nI_add _ 4) (by decide) rfl ?_
          refine g_iload_n K 1 dJ6_numberOfTrailingZeros_0f7a4_58 rfl ?_
          refine g_iconst K 4 dJ6_numberOfTrailingZeros_0f7a4_59 (by decide +kernel) ?_
          refine g_iushr (a := y) (b := 4) K (by omega) (by decide) dJ6_numberOfTrailingZeros_0f7a4_60 ?_
          have hL60_11 := Nat.shiftRight_le (y) (4)
          refine g_istore_n (lo' := [(0, .int (nI ((y) >>> (4)))), (1, .int (nI (5)))]) K dJ6_numberOfTrailingZeros_0f7a4_61 (by decide) rfl ?_
          refine g_iload_n K 0 dJ6_numberOfTrailingZeros_0f7a4_62 rfl ?_
          refine g_iconst K 4 dJ6_numberOfTrailingZeros_0f7a4_63 (by decide +kernel) ?_
          refine g_icmp_le (tgt := 74) (a := (y) >>> (4)) (b := 4) K dJ6_numberOfTrailingZeros_0f7a4_64 (by decide) (by omega) (by omega) (fun h64_12 => ?_) (fun h64_12 => ?_)
          · refine g_iload_n K 1 dJ6_numberOfTrailingZeros_0f7a4_74 rfl ?_
            refine g_iload_n K 0 dJ6_numberOfTrailingZeros_0f7a4_75 rfl ?_
            refine g_iconst K 1 dJ6_numberOfTrailingZeros_0f7a4_76 (by decide +kernel) ?_
            refine g_iushr (a := (y) >>> (4)) (b := 1) K (by omega) (by decide) dJ6_numberOfTrailingZeros_0f7a4_77 ?_
            have hL77_13 := Nat.shiftRight_le ((y) >>> (4)) (1)
            refine g_iadd (a := 5) (b := ((y) >>> (4)) >>> (1)) K dJ6_numberOfTrailingZeros_0f7a4_78 ?_
            exact g_retd hret dJ6_numberOfTrailingZeros_0f7a4_79 (by rw [ntz, ← hy]; clear hy; unfold ntzF; (repeat' split) <;> first | rfl | omega) rfl
          · refine g_iinc (a := 5) (b := 7) (lo' := [(1, .int (nI (7))), (0, .int (nI ((y) >>> (4))))]) K 1 dJ6_numberOfTrailingZeros_0f7a4_67 rfl (nI_add _ 2) (by decide) rfl ?_
            refine g_iload_n K 1 dJ6_numberOfTrailingZeros_0f7a4_70 rfl ?_
            refine g_iconst K 2 dJ6_numberOfTrailingZeros_0f7a4_71 (by decide +kernel) ?_
            refine g_iushr (a := (y) >>> (4)) (b := 2) K (by omega) (by decide) dJ6_numberOfTrailingZeros_0f7a4_72 ?_
            have hL72_14 := Nat.shiftRight_le ((y) >>> (4)) (2)
            refine g_istore_n (lo' := [(0, .int (nI (((y) >>> (4)) >>> (2)))), (1, .int (nI (7)))]) K dJ6_numberOfTrailingZeros_0f7a4_73 (by decide) rfl ?_
            refine g_iload_n K 1 dJ6_numberOfTrailingZeros_0f7a4_74 rfl ?_
            refine g_iload_n K 0 dJ6_numberOfTrailingZeros_0f7a4_75 rfl ?_
            refine g_iconst K 1 dJ6_numberOfTrailingZeros_0f7a4_76 (by decide +kernel) ?_
            refine g_iushr (a := ((y) >>> (4)) >>> (2)) (b := 1) K (by omega) (by decide) dJ6_numberOfTrailingZeros_0f7a4_77 ?_
            have hL77_15 := Nat.shiftRight_le (((y) >>> (4)) >>> (2)) (1)
            refine g_iadd (a := 7) (b := (((y) >>> (4)) >>> (2)) >>> (1)) K dJ6_numberOfTrailingZeros_0f7a4_78 ?_
            exact g_retd hret dJ6_numberOfTrailingZeros_0f7a4_79 (by rw [ntz, ← hy]; clear hy; unfold ntzF; (repeat' split) <;> first | rfl | omega) rfl
      · refine g_iinc (a := 1) (b := 9) (lo' := [(1, .int (nI (9))), (0, .int (nI (y)))]) K 0 dJ6_numberOfTrailingZeros_0f7a4_41 rfl (nI_add _ 8) (by decide) rfl ?_
        refine g_iload_n K 1 dJ6_numberOfTrailingZeros_0f7a4_44 rfl ?_
        refine g_bipush K 8 dJ6_numberOfTrailingZeros_0f7a4_45 (by decide +kernel) ?_
        refine g_iushr (a := y) (b := 8) K (by omega) (by decide) dJ6_numberOfTrailingZeros_0f7a4_47 ?_
        have hL47_16 := Nat.shiftRight_le (y) (8)
        refine g_istore_n (lo' := [(0, .int (nI ((y) >>> (8)))), (1, .int (nI (9)))]) K dJ6_numberOfTrailingZeros_0f7a4_48 (by decide) rfl ?_
        refine g_iload_n K 0 dJ6_numberOfTrailingZeros_0f7a4_49 rfl ?_
        refine g_bipush K 16 dJ6_numberOfTrailingZeros_0f7a4_50 (by decide +kernel) ?_
        refine g_icmp_le (tgt := 62) (a := (y) >>> (8)) (b := 16) K dJ6_numberOfTrailingZeros_0f7a4_52 (by decide) (by omega) (by omega) (fun h52_17 => ?_) (fun h52_17 => ?_)
        · refine g_iload_n K 0 dJ6_numberOfTrailingZeros_0f7a4_62 rfl ?_
          refine g_iconst K 4 dJ6_numberOfTrailingZeros_0f7a4_63 (by decide +kernel) ?_
          refine g_icmp_le (tgt := 74) (a := (y) >>> (8)) (b := 4) K dJ6_numberOfTrailingZeros_0f7a4_64 (by decide) (by omega) (by omega) (fun h64_18 => ?_) (fun h64_18 => ?_)
          · refine g_iload_n K 1 dJ6_numberOfTrailingZeros_0f7a4_74 rfl ?_
            refine g_iload_n K 0 dJ6_numberOfTrailingZeros_0f7a4_75 rfl ?_
            refine g_iconst K 1 dJ6_numberOfTrailingZeros_0f7a4_76 (by decide +kernel) ?_
            refine g_iushr (a := (y) >>> (8)) (b := 1) K (by omega) (by decide) dJ6_numberOfTrailingZeros_0f7a4_77 ?_
            have hL77_19 := Nat.shiftRight_le ((y) >>> (8)) (1)
            refine g_iadd (a := 9) (b := ((y) >>> (8)) >>> (1)) K dJ6_numberOfTrailingZeros_0f7a4_78 ?_
            exact g_retd hret dJ6_numberOfTrailingZeros_0f7a4_79 (by rw [ntz, ← hy]; clear hy; unfold ntzF; (repeat' split) <;> first | rfl | omega) rfl
          · refine g_iinc (a := 9) (b := 11) (lo' := [(1, .int (nI (11))), (0, .int (nI ((y) >>> (8))))]) K 1 dJ6_numberOfTrailingZeros_0f7a4_67 rfl (nI_add _ 2) (by decide) rfl ?_
            refine g_iload_n K 1 dJ6_numberOfTrailingZeros_0f7a4_70 rfl ?_
            refine g_iconst K 2 dJ6_numberOfTrailingZeros_0f7a4_71 (by decide +kernel) ?_
            refine g_iushr (a := (y) >>> (8)) (b := 2) K (by omega) (by decide) dJ6_numberOfTrailingZeros_0f7a4_72 ?_
            have hL72_20 := Nat.shiftRight_le ((y) >>> (8)) (2)
            refine g_istore_n (lo' := [(0, .int (nI (((y) >>> (8)) >>> (2)))), (1, .int (nI (11)))]) K dJ6_numberOfTrailingZeros_0f7a4_73 (by decide) rfl ?_
            refine g_iload_n K 1 dJ6_numberOfTrailingZeros_0f7a4_74 rfl ?_
            refine g_iload_n K 0 dJ6_numberOfTrailingZeros_0f7a4_75 rfl ?_
            refine g_iconst K 1 dJ6_numberOfTrailingZeros_0f7a4_76 (by decide +kernel) ?_
            refine g_iushr (a := ((y) >>> (8)) >>> (2)) (b := 1) K (by omega) (by decide) dJ6_numberOfTrailingZeros_0f7a4_77 ?_
            have hL77_21 := Nat.shiftRight_le (((y) >>> (8)) >>> (2)) (1)
            refine g_iadd (a := 11) (b := (((y) >>> (8)) >>> (2)) >>> (1)) K dJ6_numberOfTrailingZeros_0f7a4_78 ?_
            exact g_retd hret dJ6_numberOfTrailingZeros_0f7a4_79 (by rw [ntz, ← hy]; clear hy; unfold ntzF; (repeat' split) <;> first | rfl | omega) rfl
        · refine g_iinc (a := 9) (b := 13) (lo' := [(1, .int (nI (13))), (0, .int (nI ((y) >>> (8))))]) K 1 dJ6_numberOfTrailingZeros_0f7a4_55 rfl (nI_add _ 4) (by decide) rfl ?_
          refine g_iload_n K 1 dJ6_numberOfTrailingZeros_0f7a4_58 rfl ?_
          refine g_iconst K 4 dJ6_numberOfTrailingZeros_0f7a4_59 (by decide +kernel) ?_
          refine g_iushr (a := (y) >>> (8)) (b := 4) K (by omega) (by decide) dJ6_numberOfTrailingZeros_0f7a4_60 ?_
          have hL60_22 := Nat.shiftRight_le ((y) >>> (8)) (4)
          refine g_istore_n (lo' := [(0, .int (nI (((y) >>> (8)) >>> (4)))), (1, .int (nI (13)))]) K dJ6_numberOfTrailingZeros_0f7a4_61 (by decide) rfl ?_
          refine g_iload_n K 0 dJ6_numberOfTrailingZeros_0f7a4_62 rfl ?_
          refine g_iconst K 4 dJ6_numberOfTrailingZeros_0f7a4_63 (by decide +kernel) ?_
          refine g_icmp_le (tgt := 74) (a := ((y) >>> (8)) >>> (4)) (b := 4) K dJ6_numberOfTrailingZeros_0f7a4_64 (by decide) (by omega) (by omega) (fun h64_23 => ?_) (fun h64_23 => ?_)
          · refine g_iload_n K 1 dJ6_numberOfTrailingZeros_0f7a4_74 rfl ?_
            refine g_iload_n K 0 dJ6_numberOfTrailingZeros_0f7a4_75 rfl ?_
            refine g_iconst K 1 dJ6_numberOfTrailingZeros_0f7a4_76 (by decide +kernel) ?_
            refine g_iushr (a := ((y) >>> (8)) >>> (4)) (b := 1) K (by omega) (by decide) dJ6_numberOfTrailingZeros_0f7a4_77 ?_
            have hL77_24 := Nat.shiftRight_le (((y) >>> (8)) >>> (4)) (1)
            refine g_iadd (a := 13) (b := (((y) >>> (8)) >>> (4)) >>> (1)) K dJ6_numberOfTrailingZeros_0f7a4_78 ?_
            exact g_retd hret dJ6_numberOfTrailingZeros_0f7a4_79 (by rw [ntz, ← hy]; clear hy; unfold ntzF; (repeat' split) <;> first | rfl | omega) rfl
          · refine g_iinc (a := 13) (b := 15) (lo' := [(1, .int (nI (15))), (0, .int (nI (((y) >>> (8)) >>> (4))))]) K 1 dJ6_numberOfTrailingZeros_0f7a4_67 rfl (nI_add _ 2) (by decide) rfl ?_
            refine g_iload_n K 1 dJ6_numberOfTrailingZeros_0f7a4_70 rfl ?_
            refine g_iconst K 2 dJ6_numberOfTrailingZeros_0f7a4_71 (by decide +kernel) ?_
            refine g_iushr (a := ((y) >>> (8)) >>> (4)) (b := 2) K (by omega) (by decide) dJ6_numberOfTrailingZeros_0f7a4_72 ?_
            have hL72_25 := Nat.shiftRight_le (((y) >>> (8)) >>> (4)) (2)
            refine g_istore_n (lo' := [(0, .int (nI ((((y) >>> (8)) >>> (4)) >>> (2)))), (1, .int (nI (15)))]) K dJ6_numberOfTrailingZeros_0f7a4_73 (by decide) rfl ?_
            refine g_iload_n K 1 dJ6_numberOfTrailingZeros_0f7a4_74 rfl ?_
            refine g_iload_n K 0 dJ6_numberOfTrailingZeros_0f7a4_75 rfl ?_
            refine g_iconst K 1 dJ6_numberOfTrailingZeros_0f7a4_76 (by decide +kernel) ?_
            refine g_iushr (a := (((y) >>> (8)) >>> (4)) >>> (2)) (b := 1) K (by omega) (by decide) dJ6_numberOfTrailingZeros_0f7a4_77 ?_
            have hL77_26 := Nat.shiftRight_le ((((y) >>> (8)) >>> (4)) >>> (2)) (1)
            refine g_iadd (a := 15) (b := ((((y) >>> (8)) >>> (4)) >>> (2)) >>> (1)) K dJ6_numberOfTrailingZeros_0f7a4_78 ?_
            exact g_retd hret dJ6_numberOfTrailingZeros_0f7a4_79 (by rw [ntz, ← hy]; clear hy; unfold ntzF; (repeat' split) <;> first | rfl | omega) rfl
    · refine g_iinc (a := 1) (b := 17) (lo' := [(1, .int (nI (17))), (0, .int (nI (y)))]) K 0 dJ6_numberOfTrailingZeros_0f7a4_26 rfl (nI_add _ 16) (by decide) rfl ?_
      refine g_iload_n K 1 dJ6_numberOfTrailingZeros_0f7a4_29 rfl ?_
      refine g_bipush K 16 dJ6_numberOfTrailingZeros_0f7a4_30 (by decide +kernel) ?_
      refine g_iushr (a := y) (b := 16) K (by omega) (by decide) dJ6_numberOfTrailingZeros_0f7a4_32 ?_
      have hL32_27 := Nat.shiftRight_le (y) (16)
      refine g_istore_n (lo' := [(0, .int (nI ((y) >>> (16)))), (1, .int (nI (17)))]) K dJ6_numberOfTrailingZeros_0f7a4_33 (by decide) rfl ?_
      refine g_iload_n K 0 dJ6_numberOfTrailingZeros_0f7a4_34 rfl ?_
      refine g_sipush K 256 dJ6_numberOfTrailingZeros_0f7a4_35 (by decide +kernel) ?_
      refine g_icmp_le (tgt := 49) (a := (y) >>> (16)) (b := 256) K dJ6_numberOfTrailingZeros_0f7a4_38 (by decide) (by omega) (by omega) (fun h38_28 => ?_) (fun h38_28 => ?_)
      · refine g_iload_n K 0 dJ6_numberOfTrailingZeros_0f7a4_49 rfl ?_
        refine g_bipush K 16 dJ6_numberOfTrailingZeros_0f7a4_50 (by decide +kernel) ?_
        refine g_icmp_le (tgt := 62) (a := (y) >>> (16)) (b := 16) K dJ6_numberOfTrailingZeros_0f7a4_52 (by decide) (by omega) (by omega) (fun h52_29 => ?_) (fun h52_29 => ?_)
        · refine g_iload_n K 0 dJ6_numberOfTrailingZeros_0f7a4_62 rfl ?_
          refine g_iconst K 4 dJ6_numberOfTrailingZeros_0f7a4_63 (by decide +kernel) ?_
          refine g_icmp_le (tgt := 74) (a := (y) >>> (16)) (b := 4) K dJ6_numberOfTrailingZeros_0f7a4_64 (by decide) (by omega) (by omega) (fun h64_30 => ?_) (fun h64_30 => ?_)
          · refine g_iload_n K 1 dJ6_numberOfTrailingZeros_0f7a4_74 rfl ?_
            refine g_iload_n K 0 dJ6_numberOfTrailingZeros_0f7a4_75 rfl ?_
            refine g_iconst K 1 dJ6_numberOfTrailingZeros_0f7a4_76 (by decide +kernel) ?_
            refine g_iushr (a := (y) >>> (16)) (b := 1) K (by omega) (by decide) dJ6_numberOfTrailingZeros_0f7a4_77 ?_
            have hL77_31 := Nat.shiftRight_le ((y) >>> (16)) (1)
            refine g_iadd (a := 17) (b := ((y) >>> (16)) >>> (1)) K dJ6_numberOfTrailingZeros_0f7a4_78 ?_
            exact g_retd hret dJ6_numberOfTrailingZeros_0f7a4_79 (by rw [ntz, ← hy]; clear hy; unfold ntzF; (repeat' split) <;> first | rfl | omega) rfl
          · refine g_iinc (a := 17) (b := 19) (lo' := [(1, .int (nI (19))), (0, .int (nI ((y) >>> (16))))]) K 1 dJ6_numberOfTrailingZeros_0f7a4_67 rfl (nI_add _ 2) (by decide) rfl ?_
            refine g_iload_n K 1 dJ6_numberOfTrailingZeros_0f7a4_70 rfl ?_
            refine g_iconst K 2 dJ6_numberOfTrailingZeros_0f7a4_71 (by decide +kernel) ?_
            refine g_iushr (a := (y) >>> (16)) (b := 2) K (by omega) (by decide) dJ6_numberOfTrailingZeros_0f7a4_72 ?_
            have hL72_32 := Nat.shiftRight_le ((y) >>> (16)) (2)
            refine g_istore_n (lo' := [(0, .int (nI (((y) >>> (16)) >>> (2)))), (1, .int (nI (19)))]) K dJ6_numberOfTrailingZeros_0f7a4_73 (by decide) rfl ?_
            refine g_iload_n K 1 dJ6_numberOfTrailingZeros_0f7a4_74 rfl ?_
            refine g_iload_n K 0 dJ6_numberOfTrailingZeros_0f7a4_75 rfl ?_
            refine g_iconst K 1 dJ6_numberOfTrailingZeros_0f7a4_76 (by decide +kernel) ?_
            refine g_iushr (a := ((y) >>> (16)) >>> (2)) (b := 1) K (by omega) (by decide) dJ6_numberOfTrailingZeros_0f7a4_77 ?_
            have hL77_33 := Nat.shiftRight_le (((y) >>> (16)) >>> (2)) (1)
            refine g_iadd (a := 19) (b := (((y) >>> (16)) >>> (2)) >>> (1)) K dJ6_numberOfTrailingZeros_0f7a4_78 ?_
            exact g_retd hret dJ6_numberOfTrailingZeros_0f7a4_79 (by rw [ntz, ← hy]; clear hy; unfold ntzF; (repeat' split) <;> first | rfl | omega) rfl
        · refine g_iinc (a := 17) (b := 21) (lo' := [(1, .int (nI (21))), (0, .int (nI ((y) >>> (16))))]) K 1 dJ6_numberOfTrailingZeros_0f7a4_55 rfl (nI_add _ 4) (by decide) rfl ?_
          refine g_iload_n K 1 dJ6_numberOfTrailingZeros_0f7a4_58 rfl ?_
          refine g_iconst K 4 dJ6_numberOfTrailingZeros_0f7a4_59 (by decide +kernel) ?_
          refine g_iushr (a := (y) >>> (16)) (b := 4) K (by omega) (by decide) dJ6_numberOfTrailingZeros_0f7a4_60 ?_
          have hL60_34 := Nat.shiftRight_le ((y) >>> (16)) (4)
          refine g_istore_n (lo' := [(0, .int (nI (((y) >>> (16)) >>> (4)))), (1, .int (nI (21)))]) K dJ6_numberOfTrailingZeros_0f7a4_61 (by decide) rfl ?_
          refine g_iload_n K 0 dJ6_numberOfTrailingZeros_0f7a4_62 rfl ?_
          refine g_iconst K 4 dJ6_numberOfTrailingZeros_0f7a4_63 (by decide +kernel) ?_
          refine g_icmp_le (tgt := 74) (a := ((y) >>> (16)) >>> (4)) (b := 4) K dJ6_numberOfTrailingZeros_0f7a4_64 (by decide) (by omega) (by omega) (fun h64_35 => ?_) (fun h64_35 => ?_)
          · refine g_iload_n K 1 dJ6_numberOfTrailingZeros_0f7a4_74 rfl ?_
            refine g_iload_n K 0 dJ6_numberOfTrailingZeros_0f7a4_75 rfl ?_
            refine g_iconst K 1 dJ6_numberOfTrailingZeros_0f7a4_76 (by decide +kernel) ?_
            refine g_iushr (a := ((y) >>> (16)) >>> (4)) (b := 1) K (by omega) (by decide) dJ6_numberOfTrailingZeros_0f7a4_77 ?_
            have hL77_36 := Nat.shiftRight_le (((y) >>> (16)) >>> (4)) (1)
            refine g_iadd (a := 21) (b := (((y) >>> (16)) >>> (4)) >>> (1)) K dJ6_numberOfTrailingZeros_0f7a4_78 ?_
            exact g_retd hret dJ6_numberOfTrailingZeros_0f7a4_79 (by rw [ntz, ← hy]; clear hy; unfold ntzF; (repeat' split) <;> first | rfl | omega) rfl
          · refine g_iinc (a := 21) (b := 23) (lo' := [(1, .int (nI (23))), (0, .int (nI (((y) >>> (16)) >>> (4))))]) K 1 dJ6_numberOfTrailingZeros_0f7a4_67 rfl (nI_add _ 2) (by decide) rfl ?_
            refine g_iload_n K 1 dJ6_numberOfTrailingZeros_0f7a4_70 rfl ?_
            refine g_iconst K 2 dJ6_numberOfTrailingZeros_0f7a4_71 (by decide +kernel) ?_
            refine g_iushr (a := ((y) >>> (16)) >>> (4)) (b := 2) K (by omega) (by decide) dJ6_numberOfTrailingZeros_0f7a4_72 ?_
            have hL72_37 := Nat.shiftRight_le (((y) >>> (16)) >>> (4)) (2)
            refine g_istore_n (lo' := [(0, .int (nI ((((y) >>> (16)) >>> (4)) >>> (2)))), (1, .int (nI (23)))]) K dJ6_numberOfTrailingZeros_0f7a4_73 (by decide) rfl ?_
            refine g_iload_n K 1 dJ6_numberOfTrailingZeros_0f7a4_74 rfl ?_
            refine g_iload_n K 0 dJ6_numberOfTrailingZeros_0f7a4_75 rfl ?_
            refine g_iconst K 1 dJ6_numberOfTrailingZeros_0f7a4_76 (by decide +kernel) ?_
            refine g_iushr (a := (((y) >>> (16)) >>> (4)) >>> (2)) (b := 1) K (by omega) (by decide) dJ6_numberOfTrailingZeros_0f7a4_77 ?_
            have hL77_38 := Nat.shiftRight_le ((((y) >>> (16)) >>> (4)) >>> (2)) (1)
            refine g_iadd (a := 23) (b := ((((y) >>> (16)) >>> (4)) >>> (2)) >>> (1)) K dJ6_numberOfTrailingZeros_0f7a4_78 ?_
            exact g_retd hret dJ6_numberOfTrailingZeros_0f7a4_79 (by rw [ntz, ← hy]; clear hy; unfold ntzF; (repeat' split) <;> first | rfl | omega) rfl
      · refine g_iinc (a := 17) (b := 25) (lo' := [(1, .int (nI (25))), (0, .int (nI ((y) >>> (16))))]) K 1 dJ6_numberOfTrailingZeros_0f7a4_41 rfl (nI_add _ 8) (by decide) rfl ?_
        refine g_iload_n K 1 dJ6_numberOfTrailingZeros_0f7a4_44 rfl ?_
        refine g_bipush K 8 dJ6_numberOfTrailingZeros_0f7a4_45 (by decide +kernel) ?_
        refine g_iushr (a := (y) >>> (16)) (b := 8) K (by omega) (by decide) dJ6_numberOfTrailingZeros_0f7a4_47 ?_
        have hL47_39 := Nat.shiftRight_le ((y) >>> (16)) (8)
        refine g_istore_n (lo' := [(0, .int (nI (((y) >>> (16)) >>> (8)))), (1, .int (nI (25)))]) K dJ6_numberOfTrailingZeros_0f7a4_48 (by decide) rfl ?_
        refine g_iload_n K 0 dJ6_numberOfTrailingZeros_0f7a4_49 rfl ?_
        refine g_bipush K 16 dJ6_numberOfTrailingZeros_0f7a4_50 (by decide +kernel) ?_
        refine g_icmp_le (tgt := 62) (a := ((y) >>> (16)) >>> (8)) (b := 16) K dJ6_numberOfTrailingZeros_0f7a4_52 (by decide) (by omega) (by omega) (fun h52_40 => ?_) (fun h52_40 => ?_)
        · refine g_iload_n K 0 dJ6_numberOfTrailingZeros_0f7a4_62 rfl ?_
          refine g_iconst K 4 dJ6_numberOfTrailingZeros_0f7a4_63 (by decide +kernel) ?_
          refine g_icmp_le (tgt := 74) (a := ((y) >>> (16)) >>> (8)) (b := 4) K dJ6_numberOfTrailingZeros_0f7a4_64 (by decide) (by omega) (by omega) (fun h64_41 => ?_) (fun h64_41 => ?_)
          · refine g_iload_n K 1 dJ6_numberOfTrailingZeros_0f7a4_74 rfl ?_
            refine g_iload_n K 0 dJ6_numberOfTrailingZeros_0f7a4_75 rfl ?_
            refine g_iconst K 1 dJ6_numberOfTrailingZeros_0f7a4_76 (by decide +kernel) ?_
            refine g_iushr (a := ((y) >>> (16)) >>> (8)) (b := 1) K (by omega) (by decide) dJ6_numberOfTrailingZeros_0f7a4_77 ?_
            have hL77_42 := Nat.shiftRight_le (((y) >>> (16)) >>> (8)) (1)
            refine g_iadd (a := 25) (b := (((y) >>> (16)) >>> (8)) >>> (1)) K dJ6_numberOfTrailingZeros_0f7a4_78 ?_
            exact g_retd hret dJ6_numberOfTrailingZeros_0f7a4_79 (by rw [ntz, ← hy]; clear hy; unfold ntzF; (repeat' split) <;> first | rfl | omega) rfl
          · refine g_iinc (a := 25) (b := 27) (lo' := [(1, .int (nI (27))), (0, .int (nI (((y) >>> (16)) >>> (8))))]) K 1 dJ6_numberOfTrailingZeros_0f7a4_67 rfl (nI_add _ 2) (by decide) rfl ?_
            refine g_iload_n K 1 dJ6_numberOfTrailingZeros_0f7a4_70 rfl ?_
            refine g_iconst K 2 dJ6_numberOfTrailingZeros_0f7a4_71 (by decide +kernel) ?_
            refine g_iushr (a := ((y) >>> (16)) >>> (8)) (b := 2) K (by omega) (by decide) dJ6_numberOfTrailingZeros_0f7a4_72 ?_
            have hL72_43 := Nat.shiftRight_le (((y) >>> (16)) >>> (8)) (2)
            refine g_istore_n (lo' := [(0, .int (nI ((((y) >>> (16)) >>> (8)) >>> (2)))), (1, .int (nI (27)))]) K dJ6_numberOfTrailingZeros_0f7a4_73 (by decide) rfl ?_
            refine g_iload_n K 1 dJ6_numberOfTrailingZeros_0f7a4_74 rfl ?_
            refine g_iload_n K 0 dJ6_numberOfTrailingZeros_0f7a4_75 rfl ?_
            refine g_iconst K 1 dJ6_numberOfTrailingZeros_0f7a4_76 (by decide +kernel) ?_
            refine g_iushr (a := (((y) >>> (16)) >>> (8)) >>> (2)) (b := 1) K (by omega) (by decide) dJ6_numberOfTrailingZeros_0f7a4_77 ?_
            have hL77_44 := Nat.shiftRight_le ((((y) >>> (16)) >>> (8)) >>> (2)) (1)
            refine g_iadd (a := 27) (b := ((((y) >>> (16)) >>> (8)) >>> (2)) >>> (1)) K dJ6_numberOfTrailingZeros_0f7a4_78 ?_
            exact g_retd hret dJ6_numberOfTrailingZeros_0f7a4_79 (by rw [ntz, ← hy]; clear hy; unfold ntzF; (repeat' split) <;> first | rfl | omega) rfl
        · refine g_iinc (a := 25) (b := 29) (lo' := [(1, .int (nI (29))), (0, .int (nI (((y) >>> (16)) >>> (8))))]) K 1 dJ6_numberOfTrailingZeros_0f7a4_55 rfl (nI_add _ 4) (by decide) rfl ?_
          refine g_iload_n K 1 dJ6_numberOfTrailingZeros_0f7a4_58 rfl ?_
          refine g_iconst K 4 dJ6_numberOfTrailingZeros_0f7a4_59 (by decide +kernel) ?_
          refine g_iushr (a := ((y) >>> (16)) >>> (8)) (b := 4) K (by omega) (by decide) dJ6_numberOfTrailingZeros_0f7a4_60 ?_
          have hL60_45 := Nat.shiftRight_le (((y) >>> (16)) >>> (8)) (4)
          refine g_istore_n (lo' := [(0, .int (nI ((((y) >>> (16)) >>> (8)) >>> (4)))), (1, .int (nI (29)))]) K dJ6_numberOfTrailingZeros_0f7a4_61 (by decide) rfl ?_
          refine g_iload_n K 0 dJ6_numberOfTrailingZeros_0f7a4_62 rfl ?_
          refine g_iconst K 4 dJ6_numberOfTrailingZeros_0f7a4_63 (by decide +kernel) ?_
          refine g_icmp_le (tgt := 74) (a := (((y) >>> (16)) >>> (8)) >>> (4)) (b := 4) K dJ6_numberOfTrailingZeros_0f7a4_64 (by decide) (by omega) (by omega) (fun h64_46 => ?_) (fun h64_46 => ?_)
          · refine g_iload_n K 1 dJ6_numberOfTrailingZeros_0f7a4_74 rfl ?_
            refine g_iload_n K 0 dJ6_numberOfTrailingZeros_0f7a4_75 rfl ?_
            refine g_iconst K 1 dJ6_numberOfTrailingZeros_0f7a4_76 (by decide +kernel) ?_
            refine g_iushr (a := (((y) >>> (16)) >>> (8)) >>> (4)) (b := 1) K (by omega) (by decide) dJ6_numberOfTrailingZeros_0f7a4_77 ?_
            have hL77_47 := Nat.shiftRight_le ((((y) >>> (16)) >>> (8)) >>> (4)) (1)
            refine g_iadd (a := 29) (b := ((((y) >>> (16)) >>> (8)) >>> (4)) >>> (1)) K dJ6_numberOfTrailingZeros_0f7a4_78 ?_
            exact g_retd hret dJ6_numberOfTrailingZeros_0f7a4_79 (by rw [ntz, ← hy]; clear hy; unfold ntzF; (repeat' split) <;> first | rfl | omega) rfl
          · refine g_iinc (a := 29) (b := 31) (lo' := [(1, .int (nI (31))), (0, .int (nI ((((y) >>> (16)) >>> (8)) >>> (4))))]) K 1 dJ6_numberOfTrailingZeros_0f7a4_67 rfl (nI_add _ 2) (by decide) rfl ?_
            refine g_iload_n K 1 dJ6_numberOfTrailingZeros_0f7a4_70 rfl ?_
            refine g_iconst K 2 dJ6_numberOfTrailingZeros_0f7a4_71 (by decide +kernel) ?_
            refine g_iushr (a := (((y) >>> (16)) >>> (8)) >>> (4)) (b := 2) K (by omega) (by decide) dJ6_numberOfTrailingZeros_0f7a4_72 ?_
            have hL72_48 := Nat.shiftRight_le ((((y) >>> (16)) >>> (8)) >>> (4)) (2)
            refine g_istore_n (lo' := [(0, .int (nI (((((y) >>> (16)) >>> (8)) >>> (4)) >>> (2)))), (1, .int (nI (31)))]) K dJ6_numberOfTrailingZeros_0f7a4_73 (by decide) rfl ?_
            refine g_iload_n K 1 dJ6_numberOfTrailingZeros_0f7a4_74 rfl ?_
            refine g_iload_n K 0 dJ6_numberOfTrailingZeros_0f7a4_75 rfl ?_
            refine g_iconst K 1 dJ6_numberOfTrailingZeros_0f7a4_76 (by decide +kernel) ?_
            refine g_iushr (a := ((((y) >>> (16)) >>> (8)) >>> (4)) >>> (2)) (b := 1) K (by omega) (by decide) dJ6_numberOfTrailingZeros_0f7a4_77 ?_
            have hL77_49 := Nat.shiftRight_le (((((y) >>> (16)) >>> (8)) >>> (4)) >>> (2)) (1)
            refine g_iadd (a := 31) (b := (((((y) >>> (16)) >>> (8)) >>> (4)) >>> (2)) >>> (1)) K dJ6_numberOfTrailingZeros_0f7a4_78 ?_
            exact g_retd hret dJ6_numberOfTrailingZeros_0f7a4_79 (by rw [ntz, ← hy]; clear hy; unfold ntzF; (repeat' split) <;> first | rfl | omega) rfl
  · refine g_iload_n K 0 dJ6_numberOfTrailingZeros_0f7a4_12 rfl ?_
    have hy0 : y = 0 := by omega
    refine g_bipush K 32 dJ6_numberOfTrailingZeros_0f7a4_13 (by decide +kernel) ?_
    refine g_iand (a := y) (b := 32) K dJ6_numberOfTrailingZeros_0f7a4_15 ?_
    have hL15_50 := @Nat.and_le_left (y) (32)
    have hR15_51 := @Nat.and_le_right (y) (32)
    exact g_retd hret dJ6_numberOfTrailingZeros_0f7a4_16 (by rw [ntz, ← hy, hy0]; decide) rfl

def segWith (S : Nat → Nat → Nat) (a : Nat) : Nat := reach S (1 <<< a) 4095
theorem segWith_up {S : Nat → Nat → Nat} {q : Nat} {d : Nat → Nat} (h : 7 < q) (a : Nat) : segWith (va_up S q d) a = segWith S a := reach_up h _ _
theorem segWith_lt {S : Nat → Nat → Nat} (hw : wfC S) {a : Nat} (h : a < 28) : segWith S a < 268435456 := reach_lt hw (shl1 h)
def fBegun (S : Nat → Nat → Nat) (p : Nat) (x : Nat × Nat) : Nat × Nat := if hasPart S p = 0 then x else if gbit x.1 p = 0 then (x.1 ||| segWith S p, x.2 + 1) else x
def countBegun (S : Nat → Nat → Nat) (n : Nat) : Nat := (gfor (fBegun S) n 0 (0, 0)).2
set_option maxHeartbeats 4000000 in
set_option maxRecDepth 100000 in
theorem cX3_segmentWith_k (Z : gZ) (S : Nat → Nat → Nat) (a : Nat) (hw : wfC S) (ha : a < 28) : gMd Z yX3_segmentWith wsX3_segmentWith { frames := 1, cells := 0, slots := 0, locals := 27 } [.ref (gz_ad Z 8), .int (nI (a))] S (segWith S a) (S) := by
  refine gMd_of (cc := cX3_segmentWith) (maxL := 2) (ret := (some .int)) (by decide +kernel) rfl (Nat.le_of_ble_eq_true rfl) (Or.inl rfl) (fun X hZ hR K hret => ?_)
  subst hZ
  have K : gOk X cX3_segmentWith 2 wsX3_segmentWith RX3 := K
  have hRf : 1 ≤ (g_R X).frames := gR_f hR rfl
  have hRl : 27 ≤ (g_R X).locals := gR_l hR rfl
  have hin3 : ∀ w ∈ u_ws RX3 TX3 2, w ∈ wsX3_segmentWith := by decide +kernel
  obtain ⟨w0, w1, w2, w3, wsh, wst, a2, a3, a4, a5, a6, a7⟩ := id hw
  show gG X 0 [(0, .ref (g_ad X 8)), (1, .int (nI (a)))] [] S
  refine g_aload_n K 0 dX3_segmentWith_0 rfl ?_
  refine g_getR (q' := 1) (q := 8) (ci := 3) (k := 0) (N := 2) (C := RX3) (T := TX3) (ref := "ValveWalk$Segments") K rfl rfl rfl (by decide) hin3 (by decide +kernel) rfl dX3_segmentWith_1 ?_
  refine g_iconst K 1 dX3_segmentWith_4 (by decide +kernel) ?_
  refine g_iload_n K 1 dX3_segmentWith_5 rfl ?_
  have h9 : 1 <<< a < 268435456 := shl1 ha
  refine g_ishl (a := 1) (b := a) K (by omega) dX3_segmentWith_6 ?_
  refine g_sipush K 4095 dX3_segmentWith_7 (by decide +kernel) ?_
  refine g_callVd (q := 1) (ci := 2) (As := [.int (nI ((1) <<< (a))), .int (nI (4095))]) (rest := []) (C := RX2) (T := TX2) (N := 12) K (cX2_reach_k (g_z X) S ((1) <<< (a)) 4095 (hw) (by omega)) (cwV 2 K.1.2.2.2.2 gX3_segmentWith_X2_reach rfl rfl rfl (by decide +kernel) ⟨Nat.le_trans (Nat.le_of_ble_eq_true rfl) hRf, Nat.le_trans (Nat.le_of_ble_eq_true rfl) hRl⟩) rfl rfl rfl rfl (Nat.le_of_ble_eq_true rfl) dX3_segmentWith_10 ?_
  exact g_retd hret dX3_segmentWith_13 rfl rfl

set_option maxHeartbeats 4000000 in
set_option maxRecDepth 100000 in
theorem L_begun (X : gC) (S : Nat → Nat → Nat) (m : Nat) (K : gOk X cX3_countBegunBelow 5 wsX3_countBegunBelow RX3) (hRf : 2 ≤ (g_R X).frames) (hRl : 48 ≤ (g_R X).locals) (hw : wfC S) (hm : m ≤ 28) : ∀ (k j : Nat) (x : Nat) (y : Nat), j + k = m → (x < 268435456) → gG X 52 [(0, .ref (g_ad X 8)), (1, .int (nI (m))), (2, .int (nI (((gfor (fBegun S) k j (x, y)).1)))), (3, .int (nI (((gfor (fBegun S) k j (x, y)).2)))), (4, .int (nI (m)))] [] S → gG X 7 [(0, .ref (g_ad X 8)), (1, .int (nI (m))), (2, .int (nI (x))), (3, .int (nI (y))), (4, .int (nI (j)))] [] S := by
  have hin3 : ∀ w ∈ u_ws RX3 TX3 2, w ∈ wsX3_countBegunBelow := by decide +kernel
  obtain ⟨w0, w1, w2, w3, wsh, wst, a2, a3, a4, a5, a6, a7⟩ := id hw
  intro k
  induction k with
  | zero =>
    intro j x y hj hx kk
    have hj : j = m := by omega
    refine g_iload K 4 dX3_countBegunBelow_7 rfl ?_
    refine g_iload_n K 1 dX3_countBegunBelow_9 rfl ?_
    refine g_icmp_ge (tgt := 52) (a := j) (b := m) K dX3_countBegunBelow_10 (by decide) (by omega) (by omega) (fun h10_1 => ?_) (fun h10_1 => ?_)
    · refine g_loc (lo' := [(0, .ref (g_ad X 8)), (1, .int (nI (m))), (2, .int (nI (x))), (3, .int (nI (y))), (4, .int (nI (j)))]) [0, 1, 2, 3, 4] rfl ?_
      exact g_cast (by first | rfl | (rw [hj]; done) | (rw [hj]; rfl)) rfl rfl kk
    · exact absurd h10_1 (by omega)
  | succ k ih =>
    intro j x y hj hx kk
    refine g_iload K 4 dX3_countBegunBelow_7 rfl ?_
    refine g_iload_n K 1 dX3_countBegunBelow_9 rfl ?_
    refine g_icmp_ge (tgt := 52) (a := j) (b := m) K dX3_countBegunBelow_10 (by decide) (by omega) (by omega) (fun h10_1 => ?_) (fun h10_1 => ?_)
    · exact absurd h10_1 (by omega)
    · refine g_aload_n K 0 dX3_countBegunBelow_13 rfl ?_
      refine g_getR (q' := 1) (q := 8) (ci := 3) (k := 0) (N := 2) (C := RX3) (T := TX3) (ref := "ValveWalk$Segments") K rfl rfl rfl (by decide) hin3 (by decide +kernel) rfl dX3_countBegunBelow_14 ?_
      refine g_iload K 4 dX3_countBegunBelow_17 rfl ?_
      refine g_callVd (q := 1) (ci := 2) (As := [.int (nI (j))]) (rest := []) (C := RX2) (T := TX2) (N := 12) K (cX2_hasPart_k (g_z X) S j (hw) (by omega)) (cwV 1 K.1.2.2.2.2 gX3_countBegunBelow_X2_hasPart rfl rfl rfl (by decide +kernel) ⟨Nat.le_trans (Nat.le_of_ble_eq_true rfl) hRf, Nat.le_trans (Nat.le_of_ble_eq_true rfl) hRl⟩) rfl rfl rfl rfl (Nat.le_of_ble_eq_true rfl) dX3_countBegunBelow_19 ?_
      have hf19_2 := hasPart_le S j
      refine g_if_eq (tgt := 46) (a := hasPart S j) K dX3_countBegunBelow_22 (by decide) (by omega) (fun h22_3 => ?_) (fun h22_3 => ?_)
      · refine g_iinc (a := j) (b := j + 1) (lo' := [(4, .int (nI (j + 1))), (0, .ref (g_ad X 8)), (1, .int (nI (m))), (2, .int (nI (x))), (3, .int (nI (y)))]) K 4 dX3_countBegunBelow_46 rfl (gi_inc _) (by decide) rfl ?_
        refine g_goto (tgt := 7) K dX3_countBegunBelow_49 (by decide) ?_
        refine g_loc (lo' := [(0, .ref (g_ad X 8)), (1, .int (nI (m))), (2, .int (nI (x))), (3, .int (nI (y))), (4, .int (nI (j + 1)))]) [1, 2, 3, 4, 0] rfl ?_
        exact ih (j + 1) x y (by omega) (hx) (by rw [gfor_succ, show (fBegun S) j (x, y) = (x, y) from by simp only [fBegun]; (repeat' split) <;> first | rfl | contradiction | (exfalso; omega) | omega] at kk; exact kk)
      · refine g_iload_n K 2 dX3_countBegunBelow_25 rfl ?_
        refine g_iload K 4 dX3_countBegunBelow_26 rfl ?_
        refine g_callNd (As := [.int (nI (x)), .int (nI (j))]) (rest := []) (host := "ValveWalk") K (cX5_hasBit_k (g_z X) S x j (by omega) (by omega)) ⟨va_cnB 2 K.1.2.2.2.2 gX3_countBegunBelow_X5_hasBit_n41 rfl rfl rfl (K.2.2.2.1 _ (List.mem_of_getElem? (i := 7) rfl)) (K.1.2.2.2.2 _ (by decide +kernel)) (by decide +kernel) ⟨Nat.le_trans (Nat.le_of_ble_eq_true rfl) hRf, Nat.le_trans (Nat.le_of_ble_eq_true rfl) hRl⟩, K.1.2.2.2.2 _ (by decide +kernel), trivial⟩ rfl rfl (Nat.le_of_ble_eq_true rfl) dX3_countBegunBelow_28 ?_
        have hf28_4 := gbit_le x j
        refine g_if_ne (tgt := 46) (a := gbit x j) K dX3_countBegunBelow_31 (by decide) (by omega) (fun h31_5 => ?_) (fun h31_5 => ?_)
        · refine g_iinc (a := j) (b := j + 1) (lo' := [(4, .int (nI (j + 1))), (0, .ref (g_ad X 8)), (1, .int (nI (m))), (2, .int (nI (x))), (3, .int (nI (y)))]) K 4 dX3_countBegunBelow_46 rfl (gi_inc _) (by decide) rfl ?_
          refine g_goto (tgt := 7) K dX3_countBegunBelow_49 (by decide) ?_
          refine g_loc (lo' := [(0, .ref (g_ad X 8)), (1, .int (nI (m))), (2, .int (nI (x))), (3, .int (nI (y))), (4, .int (nI (j + 1)))]) [1, 2, 3, 4, 0] rfl ?_
          exact ih (j + 1) x y (by omega) (hx) (by rw [gfor_succ, show (fBegun S) j (x, y) = (x, y) from by simp only [fBegun]; (repeat' split) <;> first | rfl | contradiction | (exfalso; omega) | omega] at kk; exact kk)
        · refine g_iload_n K 2 dX3_countBegunBelow_34 rfl ?_
          refine g_aload_n K 0 dX3_countBegunBelow_35 rfl ?_
          refine g_iload K 4 dX3_countBegunBelow_36 rfl ?_
          refine g_callVd (q := 8) (ci := 3) (As := [.int (nI (j))]) (rest := [.int (nI (x))]) (C := RX3) (T := TX3) (N := 2) K (cX3_segmentWith_k (g_z X) S j (hw) (by omega)) (cwV 1 K.1.2.2.2.2 gX3_countBegunBelow_X3_segmentWith rfl rfl rfl (by decide +kernel) ⟨Nat.le_trans (Nat.le_of_ble_eq_true rfl) hRf, Nat.le_trans (Nat.le_of_ble_eq_true rfl) hRl⟩) rfl rfl rfl rfl (Nat.le_of_ble_eq_true rfl) dX3_countBegunBelow_38 ?_
          refine g_ior (a := x) (b := segWith S j) K dX3_countBegunBelow_41 ?_
          refine g_istore_n (lo' := [(2, .int (nI ((x) ||| (segWith S j)))), (0, .ref (g_ad X 8)), (1, .int (nI (m))), (3, .int (nI (y))), (4, .int (nI (j)))]) K dX3_countBegunBelow_42 (by decide) rfl ?_
          refine g_iinc (a := y) (b := y + 1) (lo' := [(3, .int (nI (y + 1))), (2, .int (nI ((x) ||| (segWith S j)))), (0, .ref (g_ad X 8)), (1, .int (nI (m))), (4, .int (nI (j)))]) K 3 dX3_countBegunBelow_43 rfl (gi_inc _) (by decide) rfl ?_
          refine g_iinc (a := j) (b := j + 1) (lo' := [(4, .int (nI (j + 1))), (3, .int (nI (y + 1))), (2, .int (nI ((x) ||| (segWith S j)))), (0, .ref (g_ad X 8)), (1, .int (nI (m)))]) K 4 dX3_countBegunBelow_46 rfl (gi_inc _) (by decide) rfl ?_
          refine g_goto (tgt := 7) K dX3_countBegunBelow_49 (by decide) ?_
          refine g_loc (lo' := [(0, .ref (g_ad X 8)), (1, .int (nI (m))), (2, .int (nI ((x) ||| (segWith S j)))), (3, .int (nI (y + 1))), (4, .int (nI (j + 1)))]) [3, 4, 2, 1, 0] rfl ?_
          exact ih (j + 1) ((x) ||| (segWith S j)) (y + 1) (by omega) (or28 hx (segWith_lt hw (by omega))) (by rw [gfor_succ, show (fBegun S) j (x, y) = ((x) ||| (segWith S j), y + 1) from by simp only [fBegun]; (repeat' split) <;> first | rfl | contradiction | (exfalso; omega) | omega] at kk; exact kk)

set_option maxHeartbeats 4000000 in
set_option maxRecDepth 100000 in
theorem cX3_countBegunBelow_k (Z : gZ) (S : Nat → Nat → Nat) (m : Nat) (hw : wfC S) (hm : m ≤ 28) : gMd Z yX3_countBegunBelow wsX3_countBegunBelow { frames := 2, cells := 0, slots := 0, locals := 48 } [.ref (gz_ad Z 8), .int (nI (m))] S (countBegun S m) (S) := by
  refine gMd_of (cc := cX3_countBegunBelow) (maxL := 5) (ret := (some .int)) (by decide +kernel) rfl (Nat.le_of_ble_eq_true rfl) (Or.inl rfl) (fun X hZ hR K hret => ?_)
  subst hZ
  have K : gOk X cX3_countBegunBelow 5 wsX3_countBegunBelow RX3 := K
  have hRf : 2 ≤ (g_R X).frames := gR_f hR rfl
  have hRl : 48 ≤ (g_R X).locals := gR_l hR rfl
  have hin3 : ∀ w ∈ u_ws RX3 TX3 2, w ∈ wsX3_countBegunBelow := by decide +kernel
  obtain ⟨w0, w1, w2, w3, wsh, wst, a2, a3, a4, a5, a6, a7⟩ := id hw
  show gG X 0 [(0, .ref (g_ad X 8)), (1, .int (nI (m)))] [] S
  refine g_iconst K 0 dX3_countBegunBelow_0 (by decide +kernel) ?_
  refine g_istore_n (lo' := [(2, .int (nI (0))), (0, .ref (g_ad X 8)), (1, .int (nI (m)))]) K dX3_countBegunBelow_1 (by decide) rfl ?_
  refine g_iconst K 0 dX3_countBegunBelow_2 (by decide +kernel) ?_
  refine g_istore_n (lo' := [(3, .int (nI (0))), (2, .int (nI (0))), (0, .ref (g_ad X 8)), (1, .int (nI (m)))]) K dX3_countBegunBelow_3 (by decide) rfl ?_
  refine g_iconst K 0 dX3_countBegunBelow_4 (by decide +kernel) ?_
  refine g_istore (lo' := [(4, .int (nI (0))), (3, .int (nI (0))), (2, .int (nI (0))), (0, .ref (g_ad X 8)), (1, .int (nI (m)))]) K dX3_countBegunBelow_5 (by decide) rfl ?_
  refine g_loc (lo' := [(0, .ref (g_ad X 8)), (1, .int (nI (m))), (2, .int (nI (0))), (3, .int (nI (0))), (4, .int (nI (0)))]) [3, 4, 2, 1, 0] rfl ?_
  refine L_begun X S m K (Nat.le_trans (Nat.le_of_ble_eq_true rfl) hRf) (Nat.le_trans (Nat.le_of_ble_eq_true rfl) hRl) (hw) (hm)  m 0 0 0 (by omega) (by decide) ?_
  refine g_iload_n K 3 dX3_countBegunBelow_52 rfl ?_
  exact g_retd hret dX3_countBegunBelow_53 rfl rfl

set_option maxHeartbeats 4000000 in
set_option maxRecDepth 100000 in
theorem cX3_count_k (Z : gZ) (S : Nat → Nat → Nat) (hw : wfC S) : gMd Z yX3_count wsX3_count { frames := 3, cells := 0, slots := 0, locals := 72 } [.ref (gz_ad Z 8)] S (countBegun S 28) (S) := by
  refine gMd_of (cc := cX3_count) (maxL := 1) (ret := (some .int)) (by decide +kernel) rfl (Nat.le_of_ble_eq_true rfl) (Or.inl rfl) (fun X hZ hR K hret => ?_)
  subst hZ
  have K : gOk X cX3_count 1 wsX3_count RX3 := K
  have hRf : 3 ≤ (g_R X).frames := gR_f hR rfl
  have hRl : 72 ≤ (g_R X).locals := gR_l hR rfl
  obtain ⟨w0, w1, w2, w3, wsh, wst, a2, a3, a4, a5, a6, a7⟩ := id hw
  show gG X 0 [(0, .ref (g_ad X 8))] [] S
  refine g_aload_n K 0 dX3_count_0 rfl ?_
  refine g_bipush K 28 dX3_count_1 (by decide +kernel) ?_
  refine g_callVd (q := 8) (ci := 3) (As := [.int (nI (28))]) (rest := []) (C := RX3) (T := TX3) (N := 2) K (cX3_countBegunBelow_k (g_z X) S 28 (hw) (by omega)) (cwV 1 K.1.2.2.2.2 gX3_count_X3_countBegunBelow rfl rfl rfl (by decide +kernel) ⟨Nat.le_trans (Nat.le_of_ble_eq_true rfl) hRf, Nat.le_trans (Nat.le_of_ble_eq_true rfl) hRl⟩) rfl rfl rfl rfl (Nat.le_of_ble_eq_true rfl) dX3_count_3 ?_
  exact g_retd hret dX3_count_6 rfl rfl

set_option maxHeartbeats 4000000 in
set_option maxRecDepth 100000 in
theorem cX3_numberByWalking_k (Z : gZ) (S : Nat → Nat → Nat) (a : Nat) (hw : wfC S) (ha : a < 28) (hp : 0 < segWith S a) (hn : ntz (segWith S a) ≤ 28) : gMd Z yX3_numberByWalking wsX3_numberByWalking { frames := 3, cells := 0, slots := 0, locals := 72 } [.ref (gz_ad Z 8), .int (nI (a))] S (countBegun S (ntz (segWith S a))) (S) := by
  refine gMd_of (cc := cX3_numberByWalking) (maxL := 3) (ret := (some .int)) (by decide +kernel) rfl (Nat.le_of_ble_eq_true rfl) (Or.inl rfl) (fun X hZ hR K hret => ?_)
  subst hZ
  have K : gOk X cX3_numberByWalking 3 wsX3_numberByWalking RX3 := K
  have hRf : 3 ≤ (g_R X).frames := gR_f hR rfl
  have hRl : 72 ≤ (g_R X).locals := gR_l hR rfl
  obtain ⟨w0, w1, w2, w3, wsh, wst, a2, a3, a4, a5, a6, a7⟩ := id hw
  show gG X 0 [(0, .ref (g_ad X 8)), (1, .int (nI (a)))] [] S
  refine g_aload_n K 0 dX3_numberByWalking_0 rfl ?_
  refine g_iload_n K 1 dX3_numberByWalking_1 rfl ?_
  refine g_callVd (q := 8) (ci := 3) (As := [.int (nI (a))]) (rest := []) (C := RX3) (T := TX3) (N := 2) K (cX3_segmentWith_k (g_z X) S a (hw) (by omega)) (cwV 1 K.1.2.2.2.2 gX3_numberByWalking_X3_segmentWith rfl rfl rfl (by decide +kernel) ⟨Nat.le_trans (Nat.le_of_ble_eq_true rfl) hRf, Nat.le_trans (Nat.le_of_ble_eq_true rfl) hRl⟩) rfl rfl rfl rfl (Nat.le_of_ble_eq_true rfl) dX3_numberByWalking_2 ?_
  have h8 := segWith_lt hw ha
  refine g_callSd (As := [.int (nI (segWith S a))]) (rest := []) K (cJ6_numberOfTrailingZeros_0f7a4_k (g_z X) S (segWith S a) (by omega) (by omega)) (va_cwS 1 K.1.2.2.2.2 gX3_numberByWalking_J6_numberOfTrailingZeros_0f7a4 rfl rfl rfl (by decide +kernel) ⟨Nat.le_trans (Nat.le_of_ble_eq_true rfl) hRf, Nat.le_trans (Nat.le_of_ble_eq_true rfl) hRl⟩) rfl rfl (Nat.le_of_ble_eq_true rfl) dX3_numberByWalking_5 ?_
  refine g_istore_n (lo' := [(2, .int (nI (ntz (segWith S a)))), (0, .ref (g_ad X 8)), (1, .int (nI (a)))]) K dX3_numberByWalking_8 (by decide) rfl ?_
  refine g_aload_n K 1 dX3_numberByWalking_9 rfl ?_
  refine g_iload_n K 0 dX3_numberByWalking_10 rfl ?_
  refine g_callVd (q := 8) (ci := 3) (As := [.int (nI (ntz (segWith S a)))]) (rest := []) (C := RX3) (T := TX3) (N := 2) K (cX3_countBegunBelow_k (g_z X) S (ntz (segWith S a)) (hw) (by omega)) (cwV 1 K.1.2.2.2.2 gX3_numberByWalking_X3_countBegunBelow rfl rfl rfl (by decide +kernel) ⟨Nat.le_trans (Nat.le_of_ble_eq_true rfl) hRf, Nat.le_trans (Nat.le_of_ble_eq_true rfl) hRl⟩) rfl rfl rfl rfl (Nat.le_of_ble_eq_true rfl) dX3_numberByWalking_11 ?_
  exact g_retd hret dX3_numberByWalking_14 rfl rfl

def firstGo (d : Nat → Nat) : Nat → Nat → Nat
  | 0, x => x
  | k + 1, x => if d x = x then x else firstGo d k (d x)
def firstOf (d : Nat → Nat) (a : Nat) : Nat := firstGo d 28 a
theorem firstGo_lt {d : Nat → Nat} (hd : ∀ j, j < 28 → d j < 28) : ∀ (k x : Nat), x < 28 → firstGo d k x < 28
  | 0, _, h => h
  | k + 1, x, h => by
    unfold firstGo
    split
    · exact h
    · exact firstGo_lt hd k _ (hd x h)
theorem firstOf_lt {d : Nat → Nat} (hd : ∀ j, j < 28 → d j < 28) {a : Nat} (h : a < 28) : firstOf d a < 28 := firstGo_lt hd 28 a h
def mergeF (d : Nat → Nat) (a b : Nat) : Nat → Nat := va_up d (max (firstOf d a) (firstOf d b)) (min (firstOf d a) (firstOf d b))
theorem mergeF_lt {d : Nat → Nat} (hd : ∀ j, j < 28 → d j < 28) {a b : Nat} (ha : a < 28) (hb : b < 28) : ∀ j, j < 28 → mergeF d a b j < 28 := by
  intro j hj
  have h1 := firstOf_lt hd ha
  have h2 := firstOf_lt hd hb
  unfold mergeF va_up
  split
  · omega
  · exact hd j hj
set_option maxHeartbeats 4000000 in
set_option maxRecDepth 100000 in
theorem L_first (X : gC) (S : Nat → Nat → Nat) (K : gOk X cX3_firstOfSet 4 wsX3_firstOfSet RX3) (hRf : 0 ≤ (g_R X).frames) (hRl : 0 ≤ (g_R X).locals) (hd : ∀ j, j < 28 → S 9 j < 28) : ∀ (k n x : Nat), n + k = 28 → x < 28 → gG X 33 [(2, .int (nI (firstGo (S 9) k x)))] [] S → gG X 4 [(0, .ref (g_ad X 8)), (2, .int (nI (x))), (3, .int (nI (n)))] [] S := by
  have hin3 : ∀ w ∈ u_ws RX3 TX3 2, w ∈ wsX3_firstOfSet := by decide +kernel
  intro k
  induction k with
  | zero =>
    intro n x hj hx kk
    have hj : n = 28 := by omega
    refine g_iload_n K 2 dX3_firstOfSet_4 rfl ?_
    refine g_bipush K 28 dX3_firstOfSet_5 (by decide +kernel) ?_
    refine g_icmp_ge (tgt := 33) (a := n) (b := 28) K dX3_firstOfSet_7 (by decide) (by omega) (by omega) (fun h7_1 => ?_) (fun h7_1 => ?_)
    · refine g_loc (lo' := [(2, .int (nI (x)))]) [1] rfl ?_
      exact kk
    · exact absurd h7_1 (by omega)
  | succ k ih =>
    intro n x hj hx kk
    refine g_iload_n K 2 dX3_firstOfSet_4 rfl ?_
    refine g_bipush K 28 dX3_firstOfSet_5 (by decide +kernel) ?_
    refine g_icmp_ge (tgt := 33) (a := n) (b := 28) K dX3_firstOfSet_7 (by decide) (by omega) (by omega) (fun h7_1 => ?_) (fun h7_1 => ?_)
    · exact absurd h7_1 (by omega)
    · refine g_aload_n K 0 dX3_firstOfSet_10 rfl ?_
      refine g_getR (q' := 9) (q := 8) (ci := 3) (k := 1) (N := 2) (C := RX3) (T := TX3) (ref := "ValveWalk$Segments") K rfl rfl rfl (by decide) hin3 (by decide +kernel) rfl dX3_firstOfSet_11 ?_
      refine g_iload_n K 1 dX3_firstOfSet_14 rfl ?_
      refine g_ald (q := 9) (n := 28) (i := x) K rfl (by decide) (by omega) dX3_firstOfSet_15 ?_
      have hdx := hd x hx
      refine g_iload_n K 1 dX3_firstOfSet_16 rfl ?_
      refine g_icmp_eq (tgt := 33) (a := S 9 (x)) (b := x) K dX3_firstOfSet_17 (by decide) (by omega) (by omega) (fun h17_2 => ?_) (fun h17_2 => ?_)
      · refine g_loc (lo' := [(2, .int (nI (x)))]) [1] rfl ?_
        exact (by rw [firstGo, if_pos (by assumption)] at kk; exact kk)
      · refine g_aload_n K 0 dX3_firstOfSet_20 rfl ?_
        refine g_getR (q' := 9) (q := 8) (ci := 3) (k := 1) (N := 2) (C := RX3) (T := TX3) (ref := "ValveWalk$Segments") K rfl rfl rfl (by decide) hin3 (by decide +kernel) rfl dX3_firstOfSet_21 ?_
        refine g_iload_n K 1 dX3_firstOfSet_24 rfl ?_
        refine g_ald (q := 9) (n := 28) (i := x) K rfl (by decide) (by omega) dX3_firstOfSet_25 ?_
        refine g_istore_n (lo' := [(2, .int (nI (S 9 (x)))), (0, .ref (g_ad X 8)), (3, .int (nI (n)))]) K dX3_firstOfSet_26 (by decide) rfl ?_
        refine g_iinc (a := n) (b := n + 1) (lo' := [(3, .int (nI (n + 1))), (2, .int (nI (S 9 (x)))), (0, .ref (g_ad X 8))]) K 2 dX3_firstOfSet_27 rfl (gi_inc _) (by decide) rfl ?_
        refine g_goto (tgt := 4) K dX3_firstOfSet_30 (by decide) ?_
        refine g_loc (lo' := [(0, .ref (g_ad X 8)), (2, .int (nI (S 9 (x)))), (3, .int (nI (n + 1)))]) [2, 1, 0] rfl ?_
        exact ih (n + 1) _ (by omega) (hd x hx) (by rw [firstGo, if_neg (by assumption)] at kk; exact kk)

set_option maxHeartbeats 4000000 in
set_option maxRecDepth 100000 in
theorem cX3_firstOfSet_k (Z : gZ) (S : Nat → Nat → Nat) (a : Nat) (hd : ∀ j, j < 28 → S 9 j < 28) (ha : a < 28) : gMd Z yX3_firstOfSet wsX3_firstOfSet { frames := 0, cells := 0, slots := 0, locals := 0 } [.ref (gz_ad Z 8), .int (nI (a))] S (firstOf (S 9) a) (S) := by
  refine gMd_of (cc := cX3_firstOfSet) (maxL := 4) (ret := (some .int)) (by decide +kernel) rfl (Nat.le_of_ble_eq_true rfl) (Or.inl rfl) (fun X hZ hR K hret => ?_)
  subst hZ
  have K : gOk X cX3_firstOfSet 4 wsX3_firstOfSet RX3 := K
  have hRf : 0 ≤ (g_R X).frames := gR_f hR rfl
  have hRl : 0 ≤ (g_R X).locals := gR_l hR rfl
  have hin3 : ∀ w ∈ u_ws RX3 TX3 2, w ∈ wsX3_firstOfSet := by decide +kernel
 
  show gG X 0 [(0, .ref (g_ad X 8)), (1, .int (nI (a)))] [] S
  refine g_iload_n K 1 dX3_firstOfSet_0 rfl ?_
  refine g_istore_n (lo' := [(2, .int (nI (a))), (0, .ref (g_ad X 8)), (1, .int (nI (a)))]) K dX3_firstOfSet_1 (by decide) rfl ?_
  refine g_iconst K 0 dX3_firstOfSet_2 (by decide +kernel) ?_
  refine g_istore_n (lo' := [(3, .int (nI (0))), (2, .int (nI (a))), (0, .ref (g_ad X 8)), (1, .int (nI (a)))]) K dX3_firstOfSet_3 (by decide) rfl ?_
  refine g_loc (lo' := [(0, .ref (g_ad X 8)), (2, .int (nI (a))), (3, .int (nI (0)))]) [2, 1, 0] rfl ?_
  refine L_first X S  K (Nat.le_trans (Nat.le_of_ble_eq_true rfl) hRf) (Nat.le_trans (Nat.le_of_ble_eq_true rfl) hRl) (hd)  28 0 a (by omega) (ha) ?_
  refine g_iload_n K 0 dX3_firstOfSet_33 rfl ?_
  exact g_retd hret dX3_firstOfSet_34 rfl rfl

set_option maxHeartbeats 4000000 in
set_option maxRecDepth 100000 in
theorem cX3_merge_k (Z : gZ) (S : Nat → Nat → Nat) (a b : Nat) (hd : ∀ j, j < 28 → S 9 j < 28) (ha : a < 28) (hb : b < 28) : gMv Z yX3_merge wsX3_merge { frames := 1, cells := 0, slots := 0, locals := 23 } [.ref (gz_ad Z 8), .int (nI (a)), .int (nI (b))] S (va_up S 9 (mergeF (S 9) a b)) := by
  refine gMv_of (cc := cX3_merge) (maxL := 5) (by decide +kernel) rfl (Nat.le_of_ble_eq_true rfl)  (fun X hZ hR K hret => ?_)
  subst hZ
  have K : gOk X cX3_merge 5 wsX3_merge RX3 := K
  have hRf : 1 ≤ (g_R X).frames := gR_f hR rfl
  have hRl : 23 ≤ (g_R X).locals := gR_l hR rfl
  have hin3 : ∀ w ∈ u_ws RX3 TX3 2, w ∈ wsX3_merge := by decide +kernel
 
  show gG X 0 [(0, .ref (g_ad X 8)), (1, .int (nI (a))), (2, .int (nI (b)))] [] S
  refine g_aload_n K 0 dX3_merge_0 rfl ?_
  refine g_iload_n K 1 dX3_merge_1 rfl ?_
  refine g_callVd (q := 8) (ci := 3) (As := [.int (nI (a))]) (rest := []) (C := RX3) (T := TX3) (N := 2) K (cX3_firstOfSet_k (g_z X) S a (hd) (by omega)) (cwV 1 K.1.2.2.2.2 gX3_merge_X3_firstOfSet rfl rfl rfl (by decide +kernel) ⟨Nat.le_trans (Nat.le_of_ble_eq_true rfl) hRf, Nat.le_trans (Nat.le_of_ble_eq_true rfl) hRl⟩) rfl rfl rfl rfl (Nat.le_of_ble_eq_true rfl) dX3_merge_2 ?_
  have hfa := firstOf_lt hd ha
  refine g_istore_n (lo' := [(3, .int (nI (firstOf (S 9) a))), (0, .ref (g_ad X 8)), (1, .int (nI (a))), (2, .int (nI (b)))]) K dX3_merge_5 (by decide) rfl ?_
  refine g_aload_n K 1 dX3_merge_6 rfl ?_
  refine g_iload_n K 3 dX3_merge_7 rfl ?_
  refine g_callVd (q := 8) (ci := 3) (As := [.int (nI (b))]) (rest := []) (C := RX3) (T := TX3) (N := 2) K (cX3_firstOfSet_k (g_z X) S b (hd) (by omega)) (cwV 1 K.1.2.2.2.2 gX3_merge_X3_firstOfSet rfl rfl rfl (by decide +kernel) ⟨Nat.le_trans (Nat.le_of_ble_eq_true rfl) hRf, Nat.le_trans (Nat.le_of_ble_eq_true rfl) hRl⟩) rfl rfl rfl rfl (Nat.le_of_ble_eq_true rfl) dX3_merge_8 ?_
  have hfb := firstOf_lt hd hb
  refine g_istore (lo' := [(4, .int (nI (firstOf (S 9) b))), (3, .int (nI (firstOf (S 9) a))), (0, .ref (g_ad X 8)), (1, .int (nI (a))), (2, .int (nI (b)))]) K dX3_merge_11 (by decide) rfl ?_
  refine g_aload_n K 2 dX3_merge_13 rfl ?_
  refine g_getR (q' := 9) (q := 8) (ci := 3) (k := 1) (N := 2) (C := RX3) (T := TX3) (ref := "ValveWalk$Segments") K rfl rfl rfl (by decide) hin3 (by decide +kernel) rfl dX3_merge_14 ?_
  refine g_iload_n K 1 dX3_merge_17 rfl ?_
  refine g_iload K 0 dX3_merge_18 rfl ?_
  refine g_mmax (a := firstOf (S 9) a) (b := firstOf (S 9) b) K (by decide +kernel) (by decide +kernel) (by decide +kernel) (by decide +kernel) (Nat.le_trans (Nat.le_of_ble_eq_true rfl) hRf) (Nat.le_trans (Nat.le_of_ble_eq_true rfl) hRl) (by omega) (by omega) dX3_merge_20 ?_
  refine g_iload_n K 1 dX3_merge_23 rfl ?_
  refine g_iload K 0 dX3_merge_24 rfl ?_
  refine g_mmin (a := firstOf (S 9) a) (b := firstOf (S 9) b) K (by decide +kernel) (by decide +kernel) (by decide +kernel) (by decide +kernel) (Nat.le_trans (Nat.le_of_ble_eq_true rfl) hRf) (Nat.le_trans (Nat.le_of_ble_eq_true rfl) hRl) (by omega) (by omega) dX3_merge_26 ?_
  refine g_ast (q := 9) (n := 28) (i := max (firstOf (S 9) a) (firstOf (S 9) b)) (a := min (firstOf (S 9) a) (firstOf (S 9) b)) K rfl (by decide) (by omega) dX3_merge_29 ?_
  exact g_retv hret dX3_merge_30 rfl

