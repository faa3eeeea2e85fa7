/-! THE LAW'S ROWS: a further cell (the law's long), catching, contracts of the law's own methods -/
def zx (Z : gZ) (w : va_W) : gZ := (Z.1, Z.2.1, Z.2.2.1, Z.2.2.2.1, Z.2.2.2.2.1, w)
/-- the same body, with other further cells and other counts of cells and slots -/
def gY (X : gC) (w : va_W) (a b : Nat) : gC := (zx (g_z X) w, g_p X, g_e X, g_R X, g_s X, g_m X, g_a X, g_b X, g_mt X, g_c X, g_n X, g_A X, g_H X, g_Q X, a, b)
/-- the law's long -/
def oc (o : Nat) (tL : ClassId) (O : Nat → Int64) : va_W := [(o, .inl (tL, 1, .inr (.inl O)))]
theorem gY_ok {X : gC} {cc : ByteArray} {nL : Nat} {ws : List Cond} {own : String} (K : gOk X cc nL ws own) (w : va_W) {a b : Nat} (ha : a ≤ (g_R X).cells) (hb : b ≤ (g_R X).slots) : gOk (gY X w a b) cc nL ws own :=
  ⟨K.1, K.2.1, K.2.2.1, K.2.2.2.1, K.2.2.2.2.1, ha, hb⟩
def gNc (U : State) : Prop := va_Nc ISE IOB U ∧ va_Nc ISE IAE U ∧ va_Nc IAE IOB U
theorem gNc.moved {u U : State} (h : u.vm.Alike U.vm) (q : gNc u) : gNc U := ⟨va_Nc.moved h q.1, va_Nc.moved h q.2.1, va_Nc.moved h q.2.2⟩
def gTc (A : Nat → Prop) (U : State) (H : Heap) : Prop := gT A U H ∧ gNc U
theorem gT_cast {A : Nat → Prop} {U : State} {H : Heap} (h : gT A U H) {E : String} (hE : Cond.castable E E ∈ badL) (args : Array Value) : (Cond.castable E E).before args U = true := va_Nw.use (badL_t _ hE) (h.1.1 _ hE)
theorem bad_ISE : Cond.castable ISE ISE ∈ badL := List.mem_of_getElem? (i := 3) rfl
theorem bad_IAE : Cond.castable IAE IAE ∈ badL := List.mem_of_getElem? (i := 4) rfl
theorem bad_IOB : Cond.castable IOB IOB ∈ badL := List.mem_of_getElem? (i := 5) rfl
/-- a method of the law: it catches what the class throws, and answers k; one cell of six slots may come -/
def gMh (Z : gZ) (y : MethodName) (ws : List Cond) (rm : Room) (av : List Value) (S : Nat → Nat → Nat) (k : Nat) (S1 : Nat → Nat → Nat) (w1 : va_W) : Prop :=
  ∀ sz, Met (gz_l Z) y ws rm (va_Pc av (fun U => gI Z S sz U ∧ gTc (gA Z sz) U U.heap)) (va_Qi (fun r S' => r = nI k ∧ S' = S1) (gE (zx Z w1) (gA Z sz)) (gA Z sz)) 1 6 (gA Z sz)
theorem gIc_blind {Z : gZ} {S : Nat → Nat → Nat} {sz : Nat} {av : List Value} : FrameBlind (va_Pc av (fun U => gI Z S sz U ∧ gTc (gA Z sz) U U.heap)) := fun a U g mk q => by
  obtain ⟨q0, ⟨q1, qP, qK, qD, qN⟩, qT, qC⟩ := q
  exact ⟨q0, ⟨q1, qP, va_K.moved (u := U) (U := U.calling g mk a) (Vm.Alike.refl U.vm) qK, qD, gN.same (u := U) (U := U.calling g mk a) rfl qN⟩, gT.same (u := U) (U := U.calling g mk a) rfl qT, gNc.moved (u := U) (U := U.calling g mk a) (Vm.Alike.refl U.vm) qC⟩
theorem MetW_of {l : Launch} {y : MethodName} {ws ws' : List Cond} {rm : Room} {Pc : Array Value → State → Prop} {Qc : Array Value → State → Outcome → State → Prop} {mc ms : Nat} {free : Addr → Prop} {cc : ByteArray} {maxL : Nat} {ret : Option FieldType} {hh : List (Nat × Nat × Nat × Nat)}
    (hy : plainName y.cls = true) (hw : ws = Cond.codeWith y cc maxL ret hh :: ws')
    (body : ∀ p e s m args below meth c s₁, BodyLoose p l y (headSpec ws rm) cc maxL ret e s m args below meth c s₁ → c.maxLocals = maxL → c.exceptionTable.toList = tableOf hh → Pc args s →
      W p l e (headSpec ws rm).room s m args below meth c s.heap [] 0 0 (MQ below Qc args s mc ms free) (entryFrame m args maxL)) : Met l y ws rm Pc Qc mc ms free := by
  refine MetFree.of_bodyS (code := cc) (maxLocals := maxL) (ret := ret) hy ?_ ?_
  · intro args s m h hn
    obtain ⟨m9, meth, c, hn9, h1, h2, h3, h4, -, h5, h6, -⟩ := Cond.codeWith_spec (atoms_spec (ws := ws) h _ (by rw [hw]; exact List.mem_cons_self))
    cases hn.symm.trans hn9
    exact ⟨meth, c, h1, h2, h3, h4, h5, h6⟩
  · intro p e s m args below meth c s₁ B hml hP _
    have hh0 : s₁.heap = s.heap := by rw [B.state]; rfl
    have htab := vx_table (x := y) B (atoms_spec (ws := ws) B.pre _ (by rw [hw]; exact List.mem_cons_self))
    obtain ⟨t, a1, o, b1, b2, b3⟩ := body p e s m args below meth c s₁ B hml htab hP s₁ hh0 (Stand.of_body B)
    exact ⟨t, o, a1, b1, b2, ⟨b3.1, b3.2⟩⟩
theorem gMh_of {Z : gZ} {y : MethodName} {ws ws' : List Cond} {rm : Room} {av : List Value} {S S1 : Nat → Nat → Nat} {k : Nat} {w1 : va_W} {cc : ByteArray} {maxL : Nat} {hh : List (Nat × Nat × Nat × Nat)} (hy : plainName y.cls = true) (hcls : y.cls = RL) (hw : ws = Cond.codeWith y cc maxL (some .int) hh :: ws') (hav : (lg_sl av).length ≤ maxL)
    (body : ∀ X : gC, g_z X = Z → g_R X = { rm with } → gOk X cc maxL ws RL → gT (g_A X) (g_s X) (g_H X) → gNc (g_s X) → (g_c X).exceptionTable.toList = tableOf hh → g_ce X = 0 → g_sl X = 0 →
      (∀ (pc : Nat) (lo : List (Nat × Value)) (a b : Nat), a ≤ 1 → b ≤ 6 → decode cc pc = .ok (.ireturn, 1) → gG (gY X w1 a b) pc lo [.int (nI k)] S1) → gG X 0 (lv_args 0 av) [] S) : gMh Z y ws rm av S k S1 w1 := by
  intro sz
  refine MetW_of (cc := cc) (maxL := maxL) (ret := some .int) (hh := hh) hy hw ?_
  intro p e s m args below meth c s₁ B hml htab hv
  obtain ⟨rfl, ⟨hsz, hP, hK, hD0, hN⟩, hT, hC⟩ := hv
  have hr := B.returns
  have hlocks := B.notSynchronized
  subst hsz
  have hD : va_D (gA Z s.heap.size) (gz_w Z S) := ⟨hD0.1, fun k q hk => gA_of hk⟩
  have hl := lv_entry av (n := maxL) hav
  rw [lg_entry_eq]
  generalize (lg_sl av ++ List.replicate (maxL - (lg_sl av).length) Slot.unset).toArray = ls at hl ⊢
  have hown : s.vm.findClass RL = some m.cls := by rw [← hcls]; exact findClass_of_methodNamed B.named
  have hb := body (Z, p, e, rm, s, m, av.toArray, below, meth, c, maxL, gA Z s.heap.size, s.heap, MQ below (va_Qi (fun r S' => r = nI k ∧ S' = S1) (gE (zx Z w1) (gA Z s.heap.size)) (gA Z s.heap.size)) av.toArray s 1 6 (gA Z s.heap.size), 0, 0) rfl rfl
    ⟨⟨B.exec, B.bytes, hml, hown, atoms_spec (ws := ws) B.pre⟩, rfl, hK, hN, fun q h => Or.inr h, Nat.zero_le _, Nat.zero_le _⟩ hT hC htab rfl rfl ?_
  · exact hb ls s.heap [] hl hP hD va_S.rf
  · intro pc lo a b ha hb9 hdg ls H locs hl hP hD hS
    show W p (gz_l Z) e rm s m av.toArray below meth c H locs a b _ (F0 m pc ls [.int (nI k)])
    refine W.widen (k := 1) (n := 6) ha hb9 ?_
    exact W.iret (v := nI k) B.exec B.bytes hr (fun t ht hW => ⟨⟨nI k, S1, rfl, ⟨rfl, rfl⟩, by rw [ht]; exact hP, va_K.moved hW.alike hK, hD⟩, va_S.F hS ht⟩) hS.2.2 hdg hlocks
theorem gi_self (x : Int32) : x = nI x.toBitVec.toNat := by
  apply Int32.toBitVec_inj.mp
  simp [nI]
/-- the script's int at a place, as a natural -/
def xn (xs : Nat → Int32) (j : Nat) : Nat := (xs j).toBitVec.toNat
theorem xn_lt (xs : Nat → Int32) (j : Nat) : xn xs j < 4294967296 := (xs j).toBitVec.isLt
def bI (a : Nat) : Nat := if a = 0 then 0 else 1
theorem bI_lt (a : Nat) : bI a < 4294967296 := by unfold bI; split <;> omega
def bL (a : Nat) : Int64 := if a = 0 then 0 else 1
def lI (a : Nat) : Int64 := (nI a).toInt64
/-- the script lies below all that the law may write -/
def gScr (X : gC) (b L : Nat) (xs : Nat → Int32) : Prop := va_X b L xs (g_s X) (g_H X) ∧ b < (g_H X).size ∧ ¬ g_A X b ∧ L ≤ 2560
section GLW
variable {X : gC} {cc bytes : ByteArray} {nL maxL n index : Nat} {ws wsY : List Cond} {own : String} {pc : Nat} {lo : List (Nat × Value)} {st rest As : List Value} {S S1 : Nat → Nat → Nat} {y : MethodName} {ret : Option FieldType} {rm : Room}
theorem g_i2l (K : gOk X cc nL ws own) {a : Nat} (hdg : decode cc pc = .ok (.i2l, 1)) (kk : gG X (pc + 1) lo (.long (lI a) :: st) S) : gG X pc lo (.int (nI a) :: st) S :=
  fun ls H locs hl hP hD hS => lv_i2l K.1.1 K.1.2.1 hdg rfl (kk ls H locs hl hP hD hS)
theorem oc_at {Z : gZ} {o : Nat} {O : Nat → Int64} (hex : gz_ex Z = oc o (gz_L Z) O) (S : Nat → Nat → Nat) : (gz_w Z S)[32]? = some (o, .inl (gz_L Z, 1, .inr (.inl O))) := by
  show (gw _ _ _ ++ gz_ex Z)[32]? = _
  rw [hex, List.getElem?_append_right (Nat.le_of_eq (gw_len _ _ _)), gw_len]
  rfl
theorem g_lald (K : gOk X cc nL ws own) {o : Nat} {O : Nat → Int64} (hex : gz_ex (g_z X) = oc o (gz_L (g_z X)) O) (hdg : decode cc pc = .ok (.laload, 1)) (kk : gG X (pc + 1) lo (.long (O 0) :: st) S) : gG X pc lo (.int (nI 0) :: .ref o :: st) S := by
  intro ls H locs hl hP hD hS
  refine va_lald K.1.1 K.1.2.1 K.2.2.1 hP 32 1 (oc_at hex S) rfl (gi_in (i := 0) (by decide) (by decide)) hdg ?_
  rw [gi_cl (i := 0) (by decide)]
  exact kk ls H locs hl hP hD hS
theorem g_last (K : gOk X cc nL ws own) {o : Nat} {O : Nat → Int64} {x : Int64} (hex : gz_ex (g_z X) = oc o (gz_L (g_z X)) O) (hdg : decode cc pc = .ok (.lastore, 1)) (kk : gG (gY X (oc o (gz_L (g_z X)) (vp_updL O 0 x)) (g_ce X) (g_sl X)) (pc + 1) lo st S) : gG X pc lo (.long x :: .int (nI 0) :: .ref o :: st) S := by
  intro ls H locs hl hP hD hS
  have e : (gz_w (g_z X) S).set 32 (o, .inl (gz_L (g_z X), 1, .inr (.inl (vp_updL O 0 x)))) = gz_w (zx (g_z X) (oc o (gz_L (g_z X)) (vp_updL O 0 x))) S := by
    show (gw _ _ _ ++ gz_ex (g_z X)).set 32 _ = gw _ _ _ ++ oc _ _ _
    rw [hex, List.set_append_right _ _ (Nat.le_of_eq (gw_len _ _ _)), gw_len]
    rfl
  refine va_last K.1.1 K.1.2.1 K.2.2.1 hP hD hS 32 1 (oc_at hex S) rfl (gi_in (i := 0) (by decide) (by decide)) hdg (fun H1 locs1 hP1 hD1 hS1 => ?_)
  rw [gi_cl (i := 0) (by decide), e] at hP1 hD1
  exact kk ls H1 locs1 hl hP1 hD1 hS1
theorem g_boolL (K : gOk X cc nL ws own) {a t1 t2 : Nat} {o1 o2 : Int} (ha : a < 4294967296) (d1 : decode cc pc = .ok (.ifCond .eq o1, 3)) (e1 : (pc : Int) + o1 = (t1 : Int)) (d2 : decode cc (pc + 3) = .ok (.lconst 1, 1)) (d3 : decode cc (pc + 3 + 1) = .ok (.goto o2, 3)) (e2 : ((pc + 3 + 1 : Nat) : Int) + o2 = (t2 : Int)) (d4 : decode cc t1 = .ok (.lconst 0, 1)) (e3 : t2 = t1 + 1) (kk : gG X t2 lo (.long (bL a) :: st) S) : gG X pc lo (.int (nI a) :: st) S := by
  refine g_if_eq K d1 e1 ha (fun h => ?_) (fun h => ?_)
  · intro ls H locs hl hP hD hS
    refine lv_lconst (v := 0) K.1.1 K.1.2.1 d4 rfl ?_
    have q := kk ls H locs hl hP hD hS
    rw [show bL a = 0 from if_pos h, e3] at q
    exact q
  · intro ls H locs hl hP hD hS
    refine lv_lconst (v := 1) K.1.1 K.1.2.1 d2 rfl ?_
    have q := kk
    rw [show bL a = 1 from if_neg h] at q
    exact g_goto K d3 e2 q ls H locs hl hP hD hS
theorem g_boolI (K : gOk X cc nL ws own) {a t1 t2 : Nat} {o1 o2 : Int} (ha : a < 4294967296) (d1 : decode cc pc = .ok (.ifCond .eq o1, 3)) (e1 : (pc : Int) + o1 = (t1 : Int)) (d2 : decode cc (pc + 3) = .ok (.iconst 1, 1)) (d3 : decode cc (pc + 3 + 1) = .ok (.goto o2, 3)) (e2 : ((pc + 3 + 1 : Nat) : Int) + o2 = (t2 : Int)) (d4 : decode cc t1 = .ok (.iconst 0, 1)) (e3 : t2 = t1 + 1) (kk : gG X t2 lo (.int (nI (bI a)) :: st) S) : gG X pc lo (.int (nI a) :: st) S := by
  refine g_if_eq K d1 e1 ha (fun h => ?_) (fun h => ?_)
  · refine g_iconst K 0 d4 (by decide +kernel) ?_
    have q := kk
    rw [show bI a = 0 from if_pos h, e3] at q
    exact q
  · refine g_iconst K 1 d2 (by decide +kernel) ?_
    have q := kk
    rw [show bI a = 1 from if_neg h] at q
    exact g_goto K d3 e2 q
theorem g_lcmpeq (K : gOk X cc nL ws own) {u v : Int64} {tgt : Nat} {off : Int} (h : u = v) (d1 : decode cc pc = .ok (.lcmp, 1)) (d2 : decode cc (pc + 1) = .ok (.ifCond .eq off, 3)) (ht : ((pc + 1 : Nat) : Int) + off = (tgt : Int)) (kk : gG X tgt lo st S) : gG X pc lo (.long v :: .long u :: st) S := by
  intro ls H locs hl hP hD hS
  refine W.lcmp K.1.1 K.1.2.1 d1 ?_
  rw [(lg_cmp_eq u v).mpr h]
  exact lv_if_eq K.1.1 K.1.2.1 d2 ht (fun _ => kk ls H locs hl hP hD hS) (fun q => absurd rfl q)
theorem g_sld (K : gOk X cc nL ws own) {b L i : Nat} {xs : Nat → Int32} (B : gScr X b L xs) (hi : i < L) (hdg : decode cc pc = .ok (.iaload, 1)) (kk : gG X (pc + 1) lo (.int (nI (xn xs i)) :: st) S) : gG X pc lo (.int (nI i) :: .ref b :: st) S := by
  have hL := B.2.2.2
  have hi2 : i < 2147483648 := by omega
  intro ls H locs hl hP hD hS
  refine va_sld K.1.1 K.1.2.1 B.1 B.2.1 B.2.2.1 hS (gi_in hi (by omega)) hdg ?_
  rw [gi_cl hi2, gi_self (xs i)]
  exact kk ls H locs hl hP hD hS
theorem g_slen (K : gOk X cc nL ws own) {b L : Nat} {xs : Nat → Int32} (B : gScr X b L xs) (hdg : decode cc pc = .ok (.arraylength, 1)) (kk : gG X (pc + 1) lo (.int (nI L) :: st) S) : gG X pc lo (.ref b :: st) S :=
  fun ls H locs hl hP hD hS => va_slen K.1.1 K.1.2.1 B.1 B.2.1 B.2.2.1 hS hdg (kk ls H locs hl hP hD hS)
theorem g_tabIn (K : gOk X cc nL ws own) {a k tgt len : Nat} {dflt hi off : Int} {offs : Array Int} (hdg : decode cc pc = .ok (.tableswitch dflt 0 hi offs, len)) (hk : a = k) (hs : k < 2147483648) (h2 : ¬ hi < (k : Int)) (ho : offs[k]? = some off) (ht : (pc : Int) + off = (tgt : Int)) (kk : gG X tgt lo st S) : gG X pc lo (.int (nI a) :: st) S := by
  subst hk
  have e : (nI a).toInt = (a : Int) := by rw [gi_toInt (by omega), if_pos hs]
  intro ls H locs hl hP hD hS
  refine lv_tableIn K.1.1 K.1.2.1 hdg (by rw [e]; omega) (by rw [e]; exact h2) (by rw [e, show ((a : Int) - 0).toNat = a by omega]; exact ho) ht (kk ls H locs hl hP hD hS)
theorem g_tabOut (K : gOk X cc nL ws own) {a tgt len : Nat} {dflt hi : Int} {offs : Array Int} (hdg : decode cc pc = .ok (.tableswitch dflt 0 hi offs, len)) (hs : a < 2147483648) (h2 : hi < (a : Int)) (ht : (pc : Int) + dflt = (tgt : Int)) (kk : gG X tgt lo st S) : gG X pc lo (.int (nI a) :: st) S := by
  have e : (nI a).toInt = (a : Int) := by rw [gi_toInt (by omega), if_pos hs]
  intro ls H locs hl hP hD hS
  exact lv_tableOut K.1.1 K.1.2.1 hdg (Or.inr (by rw [e]; exact h2)) ht (kk ls H locs hl hP hD hS)
theorem g_catch (K : gOk X cc nL ws own) {name E : String} {w : va_W} (pre : List ExceptionTableEntry) (x : ExceptionTableEntry) (suf : List ExceptionTableEntry) (hsplit : (g_c X).exceptionTable.toList = pre ++ x :: suf)
    (hpass : ∀ z ∈ pre, covers z pc = false ∨ (z.catchType ≠ 0 ∧ ∃ nm : String, (Cond.classLink own z.catchType nm).before (g_a X) (g_s X) = true ∧ va_Nc E nm (g_s X))) (hx : covers x pc = true) (h0 : x.catchType ≠ 0)
    (hlink : (Cond.classLink own x.catchType name).before (g_a X) (g_s X) = true) (hcast : (Cond.castable E name).before (g_a X) (g_s X) = true) (hw9 : gz_ex (g_z X) = w) (kk : ∀ q : Nat, gG (gY X w (g_ce X + 1) (g_sl X + 6)) x.handlerPc lo [.ref q] S) : gX X lo pc E S := by
  subst hw9
  intro rest ls H locs q cl hl hP hD hS hce hcv hcl
  exact vx_catch (rest := rest) K.1.2.2.2.1 pre x suf hsplit hpass hx h0 hlink hcast hce hcv hcl (kk q ls H locs hl hP hD hS)
theorem g_callH (K : gOk X cc nL ws own) (T : gT (g_A X) (g_s X) (g_H X)) (C : gNc (g_s X)) {k : Nat} {w1 : va_W} {hh : List (Nat × Nat × Nat × Nat)} (hM : gMh (g_z X) y wsY rm As S k S1 w1) (cw : vx_CSW (g_R X) (g_s X) (g_a X) own index y bytes maxL ret hh wsY rm 1 6 n) (hn : As.length = n) (hst : st = As.reverse ++ rest) (hroom : (rest.map fun v => v.category).sum ≤ 8) (hdg : decode cc pc = .ok (.invokestatic index, 3)) (hce : g_ce X + 1 ≤ (g_R X).cells) (hsl : g_sl X + 6 ≤ (g_R X).slots) (kk : gG (gY X w1 (g_ce X + 1) (g_sl X + 6)) (pc + 3) lo (.int (nI k) :: rest) S1) : gG X pc lo st S := by
  intro ls H locs hl hP hD hS
  have hF := gA_in hD hS K.2.2.2.2.1
  have hT1 : gT (gA (g_z X) H.size) (g_s X) H := (T.kept (fun a h1 h2 => hS.2.1 a h1 h2)).narrow hF
  have hr := vx_runSW (As := As) (rest := rest) (l := gz_l (g_z X)) (e := g_e X) (p := g_p X) (below := g_b X) (meth := g_mt X) (locs := locs) (H := H) (g := F0 (g_m X) pc ls st) K.1 (hM H.size) cw ⟨gIc_blind, fun U hU hW => ⟨(gI_at K hP hD As U hU hW).1, (gI_at K hP hD As U hU hW).2, by rw [hU]; exact hT1.warm hW, C.moved hW.alike⟩⟩ rfl hn (hl.1.trans K.2.1) hst (lv_room hroom) hdg ⟨hce, hsl⟩
  refine va_calli hr hS (fun q _ h => hF q h) hF (fun r u t H1 locs1 ht hvm hw hB hz1 hk1 hS1 => ?_)
  obtain ⟨rfl, rfl⟩ := hw
  obtain ⟨hP1, hK1, hD1⟩ := hB
  rw [ht] at hP1
  exact kk ls H1 locs1 hl hP1 (hD1.weaken (fun _ q _ h => hF q.1 h)) hS1
end GLW
/-- numbers of a state modulo 2^32: the world is the same -/
def gnm (S : Nat → Nat → Nat) : Nat → Nat → Nat := fun q j => S q j % 4294967296
theorem gnI_m (a : Nat) : nI (a % 4294967296) = nI a := by
  apply Int32.toBitVec_inj.mp
  apply BitVec.eq_of_toNat_eq
  simp [nI]
theorem gfl_nm (ad : Nat → Nat) (f : Nat → Nat) : ∀ (fl : List (Option Nat)) (k : Nat), gfl ad (fun j => f j % 4294967296) k fl = gfl ad f k fl
  | [], _ => rfl
  | none :: t, k => by simp only [gfl, gnI_m, gfl_nm ad f t]
  | some q :: t, k => by simp only [gfl, gfl_nm ad f t]
theorem gmk_nm (ad : Nat → Nat) (tI : ClassId) (S : Nat → Nat → Nat) : ∀ (sh : List gCell) (k : Nat), gmk ad tI (gnm S) k sh = gmk ad tI S k sh
  | [], _ => rfl
  | .inl n :: t, k => by simp only [gmk, gce, gnm, gnI_m]; rw [← gmk_nm ad tI S t]
  | .inr q :: t, k => by
    simp only [gmk, gce]
    rw [show gnm S k = fun j => S k j % 4294967296 from rfl, gfl_nm, gmk_nm ad tI S t]
theorem gG_nm {X : gC} {pc : Nat} {lo : List (Nat × Value)} {st : List Value} {S : Nat → Nat → Nat} (kk : gG X pc lo st (gnm S)) : gG X pc lo st S := by
  have e : gz_w (g_z X) (gnm S) = gz_w (g_z X) S := by
    show gmk _ _ _ 0 shW ++ _ = gmk _ _ _ 0 shW ++ _
    rw [gmk_nm]
  intro ls H locs hl hP hD hS
  exact kk ls H locs hl (by rw [e]; exact hP) (by rw [e]; exact hD) hS
theorem wfU_nm (S : Nat → Nat → Nat) : wfU (gnm S) := fun q j => Nat.mod_lt _ (by decide)
