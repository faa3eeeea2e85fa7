/-! THE LAW'S ROWS: one body in several worlds; how many cells have come at the least; catching; contracts of the law's own methods -/
/-- the same launch and classes, another object in front, other further cells -/
def zy (Z : gZ) (ad : Nat → Nat) (w : va_W) : gZ := (Z.1, Z.2.1, ad, Z.2.2.2.1, Z.2.2.2.2.1, w)
def gV (X : gC) (Z : gZ) (H : Heap) (a b : Nat) : gC := (Z, g_p X, g_e X, g_R X, g_s X, g_m X, g_a X, g_b X, g_mt X, g_c X, g_n X, g_A X, H, g_Q X, a, b)
def gNc (U : State) : Prop := va_Nc ISE IOB U ∧ va_Nc ISE IAE U ∧ va_Nc IAE IOB U
theorem gNc.moved {u U : State} (h : u.vm.Alike U.vm) (q : gNc u) : gNc U := ⟨va_Nc.moved h q.1, va_Nc.moved h q.2.1, va_Nc.moved h q.2.2⟩
def gTc (A : Nat → Prop) (U : State) (H : Heap) : Prop := gT A U H ∧ gNc U
theorem gT_cast {A : Nat → Prop} {U : State} {H : Heap} (h : gT A U H) {E : String} (hE : Cond.castable E E ∈ badL) (args : Array Value) : (Cond.castable E E).before args U = true := va_Nw.use (badL_t _ hE) (h.1.1 _ hE)
theorem bad_ISE : Cond.castable ISE ISE ∈ badL := List.mem_of_getElem? (i := 3) rfl
theorem bad_IAE : Cond.castable IAE IAE ∈ badL := List.mem_of_getElem? (i := 4) rfl
theorem bad_IOB : Cond.castable IOB IOB ∈ badL := List.mem_of_getElem? (i := 5) rfl
/-- X is the body X0 later on: at least n cells have come, and nothing was written beside its own cells -/
def gRel (X0 X : gC) (n : Nat) : Prop := ∃ (ad : Nat → Nat) (w : va_W) (H : Heap) (a b : Nat), X = gV X0 (zy (g_z X0) ad w) H a b ∧ (g_H X0).size + n ≤ H.size ∧ ∀ q : Nat, q < (g_H X0).size → ¬ g_A X0 q → H[q]? = (g_H X0)[q]?
/-- where a body of the law stands: what is in front (ad), what else there is (w), cells at the least (n), cells and slots at the most (a, b) -/
def gCx (X0 X : gC) (cc : ByteArray) (nL : Nat) (ws : List Cond) (ad : Nat → Nat) (w : va_W) (n a b : Nat) : Prop :=
  gRel X0 X n ∧ gOk X cc nL ws RL ∧ gT (g_A X) (g_s X) (g_H X) ∧ gNc (g_s X) ∧ g_z X = zy (g_z X0) ad w ∧ g_ce X = a ∧ g_sl X = b
theorem gRel.next {X0 X : gC} {n k : Nat} (r : gRel X0 X n) {ad : Nat → Nat} {w : va_W} {H : Heap} {a b : Nat} (h1 : (g_H X).size + k ≤ H.size) (h2 : ∀ q : Nat, q < (g_H X).size → ¬ g_A X q → H[q]? = (g_H X)[q]?) : gRel X0 (gV X (zy (g_z X0) ad w) H a b) (n + k) := by
  obtain ⟨ad0, w0, H0, a0, b0, rfl, r1, r2⟩ := r
  have h1 : H0.size + k ≤ H.size := h1
  have h2 : ∀ q : Nat, q < H0.size → ¬ g_A X0 q → H[q]? = H0[q]? := h2
  exact ⟨ad, w, H, a, b, rfl, by omega, fun q q1 q2 => (h2 q (by omega) q2).trans (r2 q q1 q2)⟩
theorem gCx.next {X0 X : gC} {cc : ByteArray} {nL : Nat} {ws : List Cond} {ad ad1 : Nat → Nat} {w w1 : va_W} {n a b k a1 b1 : Nat} (h : gCx X0 X cc nL ws ad w n a b) {H : Heap} (h1 : (g_H X).size + k ≤ H.size) (h2 : ∀ q : Nat, q < (g_H X).size → ¬ g_A X q → H[q]? = (g_H X)[q]?) (ha : a1 ≤ (g_R X).cells) (hb : b1 ≤ (g_R X).slots) : gCx X0 (gV X (zy (g_z X0) ad1 w1) H a1 b1) cc nL ws ad1 w1 (n + k) a1 b1 := by
  obtain ⟨r, K, T, C, hz, rfl, rfl⟩ := h
  refine ⟨r.next h1 h2, ⟨K.1, K.2.1, ?_, K.2.2.2.1, fun q hq => K.2.2.2.2.1 q (by have e : H.size ≤ q := hq; omega), ha, hb⟩, T.kept h2, C, rfl, rfl, rfl⟩
  have hK := K.2.2.1
  rw [hz] at hK
  exact hK
theorem gCx.R {X0 X : gC} {cc : ByteArray} {nL : Nat} {ws : List Cond} {ad : Nat → Nat} {w : va_W} {n a b : Nat} (h : gCx X0 X cc nL ws ad w n a b) : g_R X = g_R X0 := by
  obtain ⟨⟨ad0, w0, H0, a0, b0, rfl, -⟩, -⟩ := h; rfl
theorem gCx.c {X0 X : gC} {cc : ByteArray} {nL : Nat} {ws : List Cond} {ad : Nat → Nat} {w : va_W} {n a b : Nat} (h : gCx X0 X cc nL ws ad w n a b) : g_c X = g_c X0 := by
  obtain ⟨⟨ad0, w0, H0, a0, b0, rfl, -⟩, -⟩ := h; rfl
theorem gCx.rf {X : gC} {cc : ByteArray} {nL : Nat} {ws : List Cond} (K : gOk X cc nL ws RL) (T : gT (g_A X) (g_s X) (g_H X)) (C : gNc (g_s X)) : gCx X X cc nL ws (gz_ad (g_z X)) (gz_ex (g_z X)) 0 (g_ce X) (g_sl X) :=
  ⟨⟨gz_ad (g_z X), gz_ex (g_z X), g_H X, g_ce X, g_sl X, rfl, Nat.le_refl _, fun _ _ _ => rfl⟩, K, T, C, rfl, rfl, rfl⟩
/-- a method of the law: its answer, the world behind it, the further cells by P; kn cells come at the least, mc at the most -/
def gMu (Z : gZ) (y : MethodName) (ws : List Cond) (rm : Room) (av : List Value) (S : Nat → Nat → Nat) (PQ : Nat → (Nat → Nat → Nat) → va_W → Prop) (mc ms kn : Nat) : Prop :=
  ∀ sz, Met (gz_l Z) y ws rm (va_Pc av (fun U => gI Z S sz U ∧ gTc (gA Z sz) U U.heap)) (va_Qi (fun r (u : Nat × (Nat → Nat → Nat) × va_W) => r = nI u.1 ∧ PQ u.1 u.2.1 u.2.2) (fun u t => gE (zy Z (gz_ad Z) u.2.2) (gA Z sz) u.2.1 t ∧ sz + kn ≤ t.heap.size) (gA Z sz)) mc ms (gA Z sz)
theorem gIc_blind {Z : gZ} {S : Nat → Nat → Nat} {sz : Nat} {av : List Value} : FrameBlind (va_Pc av (fun U => gI Z S sz U ∧ gTc (gA Z sz) U U.heap)) := fun a U g mk q => by
  obtain ⟨q0, ⟨q1, qP, qK, qD, qN⟩, qT, qC⟩ := q
  exact ⟨q0, ⟨q1, qP, va_K.moved (u := U) (U := U.calling g mk a) (Vm.Alike.refl U.vm) qK, qD, gN.same (u := U) (U := U.calling g mk a) rfl qN⟩, gT.same (u := U) (U := U.calling g mk a) rfl qT, gNc.moved (u := U) (U := U.calling g mk a) (Vm.Alike.refl U.vm) qC⟩
theorem MetW_of {l : Launch} {y : MethodName} {ws ws' : List Cond} {rm : Room} {Pc : Array Value → State → Prop} {Qc : Array Value → State → Outcome → State → Prop} {mc ms : Nat} {free : Addr → Prop} {cc : ByteArray} {maxL : Nat} {ret : Option FieldType} {hh : List (Nat × Nat × Nat × Nat)}
    (hy : plainName y.cls = true) (hw : ws = Cond.codeWith y cc maxL ret hh :: ws')
    (body : ∀ p e s m args below meth c s₁, BodyLoose p l y (headSpec ws rm) cc maxL ret e s m args below meth c s₁ → c.maxLocals = maxL → c.exceptionTable.toList = tableOf hh → Pc args s →
      W p l e (headSpec ws rm).room s m args below meth c s.heap [] 0 0 (MQ below Qc args s mc ms free) (entryFrame m args maxL)) : Met l y ws rm Pc Qc mc ms free := by
  refine MetFree.of_bodyS (code := cc) (maxLocals := maxL) (ret := ret) hy ?_ ?_
  · intro args s m h hn
    obtain ⟨m9, meth, c, hn9, h1, h2, h3, h4, -, h5, h6, -⟩ := Cond.codeWith_spec (atoms_spec (ws := ws) h _ (by rw [hw]; exact List.mem_cons_self))
    cases hn.symm.trans hn9
    exact ⟨meth, c, h1, h2, h3, h4, h5, h6⟩
  · intro p e s m args below meth c s₁ B hml hP _
    have hh0 : s₁.heap = s.heap := by rw [B.state]; rfl
    have htab := vx_table (x := y) B (atoms_spec (ws := ws) B.pre _ (by rw [hw]; exact List.mem_cons_self))
    obtain ⟨t, a1, o, b1, b2, b3⟩ := body p e s m args below meth c s₁ B hml htab hP s₁ hh0 (Stand.of_body B)
    exact ⟨t, o, a1, b1, b2, ⟨b3.1, b3.2⟩⟩
/-- the end of a body: where it may answer -/
def gRet (X0 : gC) (cc : ByteArray) (nL : Nat) (ws : List Cond) (PQ : Nat → (Nat → Nat → Nat) → va_W → Prop) (mc ms kn : Nat) (ret : Option FieldType) : Prop :=
  ∀ (X : gC) (pc : Nat) (lo : List (Nat × Value)) (v : Nat) (S1 : Nat → Nat → Nat) (w : va_W) (n a b : Nat), gCx X0 X cc nL ws (gz_ad (g_z X0)) w n a b → kn ≤ n → a ≤ mc → b ≤ ms → PQ v S1 w → (ret = some .int ∨ (ret = some .boolean ∧ v ≤ 1)) → decode cc pc = .ok (.ireturn, 1) → gG X pc lo [.int (nI v)] S1
theorem gMu_end {Z : gZ} {PQ : Nat → (Nat → Nat → Nat) → va_W → Prop} {mc ms kn : Nat} {rm : Room} {av : List Value} {cc : ByteArray} {maxL : Nat} {ws : List Cond} {ret : Option FieldType} {p : Program} {e : Env} {s : State} {m : MethodId} {below : List Frame} {meth : Method} {c : Code} (hx : p.tables.exec = Jvm.exec) (hb : c.code = cc) (hr : meth.sig.returnType = ret) (hlocks : meth.locks = false) :
    gRet (Z, p, e, rm, s, m, av.toArray, below, meth, c, maxL, gA Z s.heap.size, s.heap, MQ below (va_Qi (fun r (u : Nat × (Nat → Nat → Nat) × va_W) => r = nI u.1 ∧ PQ u.1 u.2.1 u.2.2) (fun u t => gE (zy Z (gz_ad Z) u.2.2) (gA Z s.heap.size) u.2.1 t ∧ s.heap.size + kn ≤ t.heap.size) (gA Z s.heap.size)) av.toArray s mc ms (gA Z s.heap.size), 0, 0) cc maxL ws PQ mc ms kn ret := by
  intro X pc lo v S1 w n a b hc hn ha hb9 hq hret hdg
  obtain ⟨⟨ad0, w0, H0, a0, b0, rfl, r1, r2⟩, K, T, C, hz, rfl, rfl⟩ := hc
  have hz : zy Z ad0 w0 = zy Z (gz_ad Z) w := hz
  have r1 : s.heap.size + n ≤ H0.size := r1
  have r2 : ∀ q : Nat, q < s.heap.size → ¬ gA Z s.heap.size q → H0[q]? = s.heap[q]? := r2
  have ha : a0 ≤ mc := ha
  have hb9 : b0 ≤ ms := hb9
  intro ls H locs hl hP hD hS
  have hP : va_P (gz_D Z) vwCl (gz_w (zy Z ad0 w0) S1) H := hP
  have hD : va_D (gA Z s.heap.size) (gz_w (zy Z ad0 w0) S1) := hD
  have hS : va_S (gA Z s.heap.size) H0 H locs := hS
  have hK : va_K (gz_D Z) vwCl (gz_t Z) s := K.2.2.1
  rw [hz] at hP hD
  show W p (gz_l Z) e rm s m av.toArray below meth c H locs a0 b0 _ (F0 m pc ls [.int (nI v)])
  have hF : ∀ t : State, t.heap = H → va_F (gA Z s.heap.size) s t := fun t ht => ⟨by rw [ht]; have := hS.1; omega, fun q h1 h2 => by rw [ht, hS.2.1 q (by omega) h2, r2 q h1 h2]⟩
  have hend : ∀ t : State, t.heap = H → s.WarmedH t.vm → va_Qi (fun r (u : Nat × (Nat → Nat → Nat) × va_W) => r = nI u.1 ∧ PQ u.1 u.2.1 u.2.2) (fun u t => gE (zy Z (gz_ad Z) u.2.2) (gA Z s.heap.size) u.2.1 t ∧ s.heap.size + kn ≤ t.heap.size) (gA Z s.heap.size) av.toArray s (.returned (some (.int (nI v)))) t :=
    fun t ht hW => ⟨⟨nI v, (v, S1, w), rfl, ⟨rfl, hq⟩, ⟨by rw [ht]; exact hP, va_K.moved hW.alike hK, hD⟩, by rw [ht]; have := hS.1; omega⟩, hF t ht⟩
  refine W.widen (k := mc) (n := ms) ha hb9 ?_
  rcases hret with h1 | ⟨h1, h2⟩
  · exact W.iret (v := nI v) hx hb (hr.trans h1) hend hS.2.2 hdg hlocks
  · refine W.zret (v := nI v) (ty := .boolean) hx hb (hr.trans h1) ?_ hend hS.2.2 hdg hlocks
    rcases (show v = 0 ∨ v = 1 by omega) with rfl | rfl <;> decide
theorem gMu_ofW {Z : gZ} {y : MethodName} {ws ws' : List Cond} {rm : Room} {av : List Value} {S : Nat → Nat → Nat} {PQ : Nat → (Nat → Nat → Nat) → va_W → Prop} {mc ms kn : Nat} {cc : ByteArray} {maxL : Nat} {ret : Option FieldType} {hh : List (Nat × Nat × Nat × Nat)} (hy : plainName y.cls = true) (hcls : y.cls = RL) (hw : ws = Cond.codeWith y cc maxL ret hh :: ws') (hav : (lg_sl av).length ≤ maxL)
    (body : ∀ X : gC, g_z X = Z → g_R X = { rm with } → (g_c X).exceptionTable.toList = tableOf hh → gCx X X cc maxL ws (gz_ad (g_z X)) (gz_ex (g_z X)) 0 0 0 → gRet X cc maxL ws PQ mc ms kn ret → gG X 0 (lv_args 0 av) [] S) : gMu Z y ws rm av S PQ mc ms kn := by
  intro sz
  refine MetW_of (cc := cc) (maxL := maxL) (ret := ret) (hh := hh) hy hw ?_
  intro p e s m args below meth c s₁ B hml htab hv
  obtain ⟨rfl, ⟨hsz, hP, hK, hD0, hN⟩, hT, hC⟩ := hv
  subst hsz
  have hD : va_D (gA Z s.heap.size) (gz_w Z S) := ⟨hD0.1, fun k q hk => gA_of hk⟩
  have hl := lv_entry av (n := maxL) hav
  rw [lg_entry_eq]
  generalize (lg_sl av ++ List.replicate (maxL - (lg_sl av).length) Slot.unset).toArray = ls at hl ⊢
  have hown : s.vm.findClass RL = some m.cls := by rw [← hcls]; exact findClass_of_methodNamed B.named
  exact body (Z, p, e, rm, s, m, av.toArray, below, meth, c, maxL, gA Z s.heap.size, s.heap, _, 0, 0) rfl rfl htab
    (gCx.rf ⟨⟨B.exec, B.bytes, hml, hown, atoms_spec (ws := ws) B.pre⟩, rfl, hK, hN, fun q h => Or.inr h, Nat.zero_le _, Nat.zero_le _⟩ hT hC) (gMu_end B.exec B.bytes B.returns B.notSynchronized) ls s.heap [] hl hP hD va_S.rf
theorem gMu_of {Z : gZ} {y : MethodName} {ws ws' : List Cond} {rm : Room} {av : List Value} {S : Nat → Nat → Nat} {PQ : Nat → (Nat → Nat → Nat) → va_W → Prop} {mc ms kn : Nat} {cc : ByteArray} {maxL : Nat} {ret : Option FieldType} (hy : plainName y.cls = true) (hcls : y.cls = RL) (hw : ws = Cond.code y cc maxL ret :: ws') (hav : (lg_sl av).length ≤ maxL)
    (body : ∀ X : gC, g_z X = Z → g_R X = { rm with } → gCx X X cc maxL ws (gz_ad (g_z X)) (gz_ex (g_z X)) 0 0 0 → gRet X cc maxL ws PQ mc ms kn ret → gG X 0 (lv_args 0 av) [] S) : gMu Z y ws rm av S PQ mc ms kn := by
  intro sz
  refine Met.ofW (cc := cc) (maxL := maxL) (ret := ret) hy hw ?_
  intro p e s m args below meth c s₁ B hml hv
  obtain ⟨rfl, ⟨hsz, hP, hK, hD0, hN⟩, hT, hC⟩ := hv
  subst hsz
  have hD : va_D (gA Z s.heap.size) (gz_w Z S) := ⟨hD0.1, fun k q hk => gA_of hk⟩
  have hl := lv_entry av (n := maxL) hav
  rw [lg_entry_eq]
  generalize (lg_sl av ++ List.replicate (maxL - (lg_sl av).length) Slot.unset).toArray = ls at hl ⊢
  have hown : s.vm.findClass RL = some m.cls := by rw [← hcls]; exact findClass_of_methodNamed B.named
  exact body (Z, p, e, rm, s, m, av.toArray, below, meth, c, maxL, gA Z s.heap.size, s.heap, _, 0, 0) rfl rfl
    (gCx.rf ⟨⟨B.exec, B.bytes, hml, hown, atoms_spec (ws := ws) B.pre⟩, rfl, hK, hN, fun q h => Or.inr h, Nat.zero_le _, Nat.zero_le _⟩ hT hC) (gMu_end B.exec B.bytes B.returns B.notSynchronized) ls s.heap [] hl hP hD va_S.rf
theorem gi_self (x : Int32) : x = nI x.toBitVec.toNat := by
  apply Int32.toBitVec_inj.mp
  simp [nI]
def xn (xs : Nat → Int32) (j : Nat) : Nat := (xs j).toBitVec.toNat
theorem xn_lt (xs : Nat → Int32) (j : Nat) : xn xs j < 4294967296 := (xs j).toBitVec.isLt
def bI (a : Nat) : Nat := if a = 0 then 0 else 1
theorem bI_le (a : Nat) : bI a ≤ 1 := by unfold bI; split <;> omega
theorem gnI_m (a : Nat) : nI (a % 4294967296) = nI a := by
  apply Int32.toBitVec_inj.mp
  apply BitVec.eq_of_toNat_eq
  simp [nI]
section GLW
variable {X0 X : gC} {cc bytes : ByteArray} {nL maxL N index n a b v mc ms kn : Nat} {ws wsY : List Cond} {own : String} {pc : Nat} {lo : List (Nat × Value)} {st rest As : List Value} {S S1 : Nat → Nat → Nat} {y : MethodName} {ret : Option FieldType} {rm : Room} {ad : Nat → Nat} {w : va_W} {PQ : Nat → (Nat → Nat → Nat) → va_W → Prop}
/-- an int on the stack as a natural below 2^32 -/
theorem g_topM {u : Nat} (kk : ∀ v : Nat, v < 4294967296 → gG X pc lo (.int (nI v) :: st) S) : gG X pc lo (.int (nI u) :: st) S := by
  rw [← gnI_m u]
  exact kk _ (Nat.mod_lt _ (by decide))
theorem g_boolI (K : gOk X cc nL ws own) {a t1 t2 : Nat} {o1 o2 : Int} (ha : a < 4294967296) (d1 : decode cc pc = .ok (.ifCond .eq o1, 3)) (e1 : (pc : Int) + o1 = (t1 : Int)) (d2 : decode cc (pc + 3) = .ok (.iconst 1, 1)) (d3 : decode cc (pc + 3 + 1) = .ok (.goto o2, 3)) (e2 : ((pc + 3 + 1 : Nat) : Int) + o2 = (t2 : Int)) (d4 : decode cc t1 = .ok (.iconst 0, 1)) (e3 : t2 = t1 + 1) (kk : gG X t2 lo (.int (nI (bI a)) :: st) S) : gG X pc lo (.int (nI a) :: st) S := by
  refine g_if_eq K d1 e1 ha (fun h => ?_) (fun h => ?_)
  · refine g_iconst K 0 d4 (by decide +kernel) ?_
    have q := kk
    rw [show bI a = 0 from if_pos h, e3] at q
    exact q
  · refine g_iconst K 1 d2 (by decide +kernel) ?_
    have q := kk
    rw [show bI a = 1 from if_neg h] at q
    exact g_goto K d3 e2 q
theorem g_tabIn (K : gOk X cc nL ws own) {a k tgt len : Nat} {dflt hi off : Int} {offs : Array Int} (hdg : decode cc pc = .ok (.tableswitch dflt 0 hi offs, len)) (hk : a = k) (hs : k < 2147483648) (h2 : ¬ hi < (k : Int)) (ho : offs[k]? = some off) (ht : (pc : Int) + off = (tgt : Int)) (kk : gG X tgt lo st S) : gG X pc lo (.int (nI a) :: st) S := by
  subst hk
  have e : (nI a).toInt = (a : Int) := by rw [gi_toInt (by omega), if_pos hs]
  intro ls H locs hl hP hD hS
  refine lv_tableIn K.1.1 K.1.2.1 hdg (by rw [e]; omega) (by rw [e]; exact h2) (by rw [e, show ((a : Int) - 0).toNat = a by omega]; exact ho) ht (kk ls H locs hl hP hD hS)
/-- a throw that this body catches: one cell has come -/
theorem g_catchQ (h : gCx X0 X cc nL ws ad w n a b) {name E : String} (pre : List ExceptionTableEntry) (x : ExceptionTableEntry) (suf : List ExceptionTableEntry) (hsplit : (g_c X).exceptionTable.toList = pre ++ x :: suf)
    (hpass : ∀ z ∈ pre, covers z pc = false ∨ (z.catchType ≠ 0 ∧ ∃ nm : String, (Cond.classLink RL z.catchType nm).before (g_a X) (g_s X) = true ∧ va_Nc E nm (g_s X))) (hx : covers x pc = true) (h0 : x.catchType ≠ 0)
    (hlink : (Cond.classLink RL x.catchType name).before (g_a X) (g_s X) = true) (hcast : (Cond.castable E name).before (g_a X) (g_s X) = true) (hce : a + 1 ≤ (g_R X).cells) (hsl : b + 6 ≤ (g_R X).slots) (kk : ∀ (X' : gC) (q : Nat), gCx X0 X' cc nL ws ad w (n + 1) (a + 1) (b + 6) → gG X' x.handlerPc lo [.ref q] S) : gX X lo pc E S := by
  intro rest ls H locs q cl hl hP hD hS hlow hcl0 hcv hcl
  have hz := h.2.2.2.2.1
  have ea := h.2.2.2.2.2.1
  have eb := h.2.2.2.2.2.2
  have q1 := kk (gV X (zy (g_z X0) ad w) H (a + 1) (b + 6)) q (h.next hlow hS.2.1 hce hsl) ls H locs hl
  have hP1 : va_P (gz_D (zy (g_z X0) ad w)) vwCl (gz_w (zy (g_z X0) ad w) S) H := by rw [← hz]; exact hP
  have hD1 : va_D (g_A X) (gz_w (zy (g_z X0) ad w) S) := by rw [← hz]; exact hD
  have q2 := q1 hP1 hD1 ⟨Nat.le_refl _, fun _ _ _ => rfl, hS.2.2⟩
  have q3 : W (g_p X) (gz_l (g_z X)) (g_e X) (g_R X) (g_s X) (g_m X) (g_a X) (g_b X) (g_mt X) (g_c X) H locs (g_ce X + 1) (g_sl X + 6) (g_Q X) (F0 (g_m X) x.handlerPc ls [.ref q]) := by
    rw [hz, ea, eb]; exact q2
  exact vx_catch (rest := rest) h.2.1.1.2.2.2.1 pre x suf hsplit hpass hx h0 hlink hcast hcl0 hcv hcl q3
theorem g_endU (h : gCx X0 X cc nL ws ad w n a b) {ls : Array Slot} {H : Heap} {locs : List Loc} {a0 : Array Value} (hl : lv_has ls (g_n X) lo) (hP : va_P (gz_D (g_z X)) vwCl (gz_w (g_z X) S) H) (hD : va_D (g_A X) (gz_w (g_z X) S)) (hS : va_S (g_A X) (g_H X) H locs) (hce : a + mc ≤ (g_R X).cells) (hsl : b + ms ≤ (g_R X).slots)
    (hr : va_Run (g_p X) (gz_l (g_z X)) (g_e X) (g_R X) (g_s X) (g_m X) (g_a X) (g_b X) (g_mt X) (g_c X) H locs (g_ce X) (g_sl X) mc ms (F0 (g_m X) pc ls st) rest (va_Qi (fun r (u : Nat × (Nat → Nat → Nat) × va_W) => r = nI u.1 ∧ PQ u.1 u.2.1 u.2.2) (fun u t => gE (zy (zy (g_z X0) ad w) ad u.2.2) (gA (zy (g_z X0) ad w) H.size) u.2.1 t ∧ H.size + kn ≤ t.heap.size) (gA (zy (g_z X0) ad w) H.size) a0) (gA (zy (g_z X0) ad w) H.size))
    (kk : ∀ (X' : gC) (v : Nat) (S1 : Nat → Nat → Nat) (w1 : va_W), PQ v S1 w1 → gCx X0 X' cc nL ws ad w1 (n + kn) (a + mc) (b + ms) → gG X' (pc + 3) lo (.int (nI v) :: rest) S1) : W (g_p X) (gz_l (g_z X)) (g_e X) (g_R X) (g_s X) (g_m X) (g_a X) (g_b X) (g_mt X) (g_c X) H locs (g_ce X) (g_sl X) (g_Q X) (F0 (g_m X) pc ls st) := by
  have hz := h.2.2.2.2.1
  have ea := h.2.2.2.2.2.1
  have eb := h.2.2.2.2.2.2
  have hF : ∀ q, gA (zy (g_z X0) ad w) H.size q → g_A X q := by rw [← hz]; exact gA_in hD hS h.2.1.2.2.2.2.1
  refine va_calli hr hS (fun q _ h => hF q h) hF (fun r u t H1 locs1 ht hvm hw hB hz1 hk1 hS1 => ?_)
  obtain ⟨rfl, hq⟩ := hw
  obtain ⟨⟨hP1, hK1, hD1⟩, hlow⟩ := hB
  rw [ht] at hP1 hlow
  have q2 := kk (gV X (zy (g_z X0) ad u.2.2) H1 (a + mc) (b + ms)) u.1 u.2.1 u.2.2 hq (h.next (by have := hS.1; omega) hS1.2.1 hce hsl) ls H1 locs1 hl hP1 (hD1.weaken (fun _ q _ h => hF q.1 h)) ⟨Nat.le_refl _, fun _ _ _ => rfl, hS1.2.2⟩
  rw [hz, ea, eb]; exact q2
/-- a call of a law's method that has a table of exceptions -/
theorem g_callUW (h : gCx X0 X cc nL ws ad w n a b) {hh : List (Nat × Nat × Nat × Nat)} (hM : gMu (zy (g_z X0) ad w) y wsY rm As S PQ mc ms kn) (cw : vx_CSW (g_R X) (g_s X) (g_a X) RL index y bytes maxL ret hh wsY rm mc ms N) (hn : As.length = N) (hst : st = As.reverse ++ rest) (hroom : (rest.map fun v => v.category).sum ≤ 8) (hdg : decode cc pc = .ok (.invokestatic index, 3)) (hce : a + mc ≤ (g_R X).cells) (hsl : b + ms ≤ (g_R X).slots)
    (kk : ∀ (X' : gC) (v : Nat) (S1 : Nat → Nat → Nat) (w1 : va_W), PQ v S1 w1 → gCx X0 X' cc nL ws ad w1 (n + kn) (a + mc) (b + ms) → gG X' (pc + 3) lo (.int (nI v) :: rest) S1) : gG X pc lo st S := by
  intro ls H locs hl hP hD hS
  have K := h.2.1
  have hz := h.2.2.2.2.1
  have hF := gA_in hD hS K.2.2.2.2.1
  have hT1 : gT (gA (g_z X) H.size) (g_s X) H := (h.2.2.1.kept (fun a h1 h2 => hS.2.1 a h1 h2)).narrow hF
  have C := h.2.2.2.1
  refine g_endU (a0 := As.toArray) h hl hP hD hS hce hsl ?_ kk
  have hM1 := hM H.size
  have hat := fun (U : State) hU hW => gI_at K hP hD As U hU hW
  rw [hz] at hat hT1
  have ea := h.2.2.2.2.2.1
  have eb := h.2.2.2.2.2.2
  exact vx_runSW (As := As) (rest := rest) (l := gz_l (g_z X)) (e := g_e X) (p := g_p X) (below := g_b X) (meth := g_mt X) (locs := locs) (H := H) (g := F0 (g_m X) pc ls st) K.1 (by rw [hz]; exact hM1) cw ⟨gIc_blind, fun U hU hW => ⟨(hat U hU hW).1, (hat U hU hW).2, by rw [hU]; exact hT1.warm hW, C.moved hW.alike⟩⟩ rfl hn (hl.1.trans K.2.1) hst (lv_room hroom) hdg ⟨by rw [ea]; exact hce, by rw [eb]; exact hsl⟩
/-- a call of a law's method without one -/
theorem g_callU (h : gCx X0 X cc nL ws ad w n a b) (hM : gMu (zy (g_z X0) ad w) y wsY rm As S PQ mc ms kn) (cw : CallB (g_R X) (g_s X) (g_a X) RL index y bytes maxL ret wsY rm mc ms N ∧ (Cond.static y).before (g_a X) (g_s X) = true) (hn : As.length = N) (hst : st = As.reverse ++ rest) (hroom : (rest.map fun v => v.category).sum ≤ 8) (hdg : decode cc pc = .ok (.invokestatic index, 3)) (hce : a + mc ≤ (g_R X).cells) (hsl : b + ms ≤ (g_R X).slots)
    (kk : ∀ (X' : gC) (v : Nat) (S1 : Nat → Nat → Nat) (w1 : va_W), PQ v S1 w1 → gCx X0 X' cc nL ws ad w1 (n + kn) (a + mc) (b + ms) → gG X' (pc + 3) lo (.int (nI v) :: rest) S1) : gG X pc lo st S := by
  intro ls H locs hl hP hD hS
  have K := h.2.1
  have hz := h.2.2.2.2.1
  have hF := gA_in hD hS K.2.2.2.2.1
  have hT1 : gT (gA (g_z X) H.size) (g_s X) H := (h.2.2.1.kept (fun a h1 h2 => hS.2.1 a h1 h2)).narrow hF
  have C := h.2.2.2.1
  refine g_endU (a0 := As.toArray) h hl hP hD hS hce hsl ?_ kk
  have hM1 := hM H.size
  have hat := fun (U : State) hU hW => gI_at K hP hD As U hU hW
  rw [hz] at hat hT1
  have ea := h.2.2.2.2.2.1
  have eb := h.2.2.2.2.2.2
  exact va_runS (As := As) (rest := rest) (l := gz_l (g_z X)) (e := g_e X) (p := g_p X) (below := g_b X) (meth := g_mt X) (locs := locs) (H := H) (g := F0 (g_m X) pc ls st) K.1 (by rw [hz]; exact hM1) cw ⟨gIc_blind, fun U hU hW => ⟨(hat U hU hW).1, (hat U hU hW).2, by rw [hU]; exact hT1.warm hW, C.moved hW.alike⟩⟩ rfl hn (hl.1.trans K.2.1) hst (lv_room hroom) hdg ⟨by rw [ea]; exact hce, by rw [eb]; exact hsl⟩
theorem gCx.ad0 (h : gCx X0 X cc nL ws ad w n a b) (q : Nat) : g_ad X q = ad q := by
  show gz_ad (g_z X) q = ad q
  rw [h.2.2.2.2.1]; rfl
theorem gCx.gd (h : gCx X0 X cc nL ws ad w n a b) {y : MethodName} {av : List Value} (hM : gMd (zy (g_z X0) ad w) y wsY rm av S v S1) : gMd (g_z X) y wsY rm av S v S1 := by
  rw [h.2.2.2.2.1]; exact hM
theorem gCx.gx (h : gCx X0 X cc nL ws ad w n a b) {y : MethodName} {av : List Value} {E : String} (hM : gMx (zy (g_z X0) ad w) y wsY rm av S S1 E) : gMx (g_z X) y wsY rm av S S1 E := by
  rw [h.2.2.2.2.1]; exact hM
/-- a call of the class's method on the object in front -/
theorem g_callVq (h : gCx X0 X cc nL ws ad w n a b) (hM : gMd (zy (g_z X0) ad w) y wsY rm (.ref (ad 0) :: As) S v S1) (cw : CallW (g_R X) (g_s X) (g_a X) RL RX5 index y bytes maxL ret wsY rm 0 0 N) (hn : As.length = N) (hst : st = As.reverse ++ .ref (ad 0) :: rest) (hroom : (rest.map fun v => v.category).sum ≤ 8) (hdg : decode cc pc = .ok (.invokevirtual index, 3)) (kk : gG X (pc + 3) lo (.int (nI v) :: rest) S1) : gG X pc lo st S := by
  have e := h.ad0 0
  have hM := h.gd hM
  rw [← e] at hM hst
  exact g_callVd (q := 0) (ci := 5) (As := As) (rest := rest) (C := RX5) (T := TX5) (N := 5) h.2.1 hM cw rfl rfl hn hst hroom hdg kk
theorem g_callXq (h : gCx X0 X cc nL ws ad w n a b) {E : String} (hM : gMx (zy (g_z X0) ad w) y wsY rm (.ref (ad 0) :: As) S S1 E) (cw : CallW (g_R X) (g_s X) (g_a X) RL RX5 index y bytes maxL ret wsY rm 1 6 N) (hce : a + 1 ≤ (g_R X).cells) (hsl : b + 6 ≤ (g_R X).slots) (hn : As.length = N) (hst : st = As.reverse ++ .ref (ad 0) :: rest) (hroom : (rest.map fun v => v.category).sum ≤ 8) (hdg : decode cc pc = .ok (.invokevirtual index, 3)) (kx : gX X lo pc E S1) : gG X pc lo st S := by
  have e := h.ad0 0
  have ea := h.2.2.2.2.2.1
  have eb := h.2.2.2.2.2.2
  have hM := h.gx hM
  rw [← e] at hM hst
  exact g_callVx (q := 0) (ci := 5) (As := As) (rest := rest) (C := RX5) (U := TX5) (N := 5) h.2.1 h.2.2.1 hM cw (by rw [ea]; exact hce) (by rw [eb]; exact hsl) rfl rfl hn hst hroom hdg kx
end GLW
/-- two blocks of cells in the other order -/
def swp (a b i : Nat) : Nat := if i < b then a + i else if i < a + b then i - b else i
theorem swp_inj {a b i j : Nat} (h : swp a b i = swp a b j) : i = j := by
  unfold swp at h
  (repeat' split at h) <;> omega
theorem swp_get {α : Type} (A B r : List α) (i : Nat) : (B ++ (A ++ r))[i]? = (A ++ (B ++ r))[swp A.length B.length i]? := by
  unfold swp
  by_cases h1 : i < B.length
  · rw [if_pos h1, List.getElem?_append_left h1, List.getElem?_append_right (by omega), List.getElem?_append_left (by omega)]
    congr 1; omega
  · rw [if_neg h1, List.getElem?_append_right (by omega)]
    by_cases h2 : i < A.length + B.length
    · rw [if_pos h2, List.getElem?_append_left (by omega), List.getElem?_append_left (by omega)]
    · rw [if_neg h2, List.getElem?_append_right (by omega), List.getElem?_append_right (by omega), List.getElem?_append_right (by omega)]
      congr 1; omega
theorem va_P.swp {D : va_G} {cl : List vw_C} {A B r : va_W} {H : Heap} (h : va_P D cl (A ++ (B ++ r)) H) : va_P D cl (B ++ (A ++ r)) H := fun k q hk => h _ q (by rw [← swp_get]; exact hk)
theorem va_D.swp {F : Nat → Prop} {A B r : va_W} (h : va_D F (A ++ (B ++ r))) : va_D F (B ++ (A ++ r)) :=
  ⟨fun i j x y hi hj hxy => swp_inj (h.1 _ _ x y (by rw [← swp_get]; exact hi) (by rw [← swp_get]; exact hj) hxy), fun k q hk => h.2 _ q (by rw [← swp_get]; exact hk)⟩
/-- the other object comes in front -/
theorem g_swap {X0 X : gC} {cc : ByteArray} {nL n a b pc : Nat} {ws : List Cond} {lo : List (Nat × Value)} {st : List Value} {S S2 : Nat → Nat → Nat} {ad ad2 : Nat → Nat} {r : va_W} (h : gCx X0 X cc nL ws ad (gw ad2 (gz_I (g_z X0)) S2 ++ r) n a b)
    (kk : ∀ X' : gC, gCx X0 X' cc nL ws ad2 (gw ad (gz_I (g_z X0)) S ++ r) n a b → gG X' pc lo st S2) : gG X pc lo st S := by
  have hz := h.2.2.2.2.1
  have ea := h.2.2.2.2.2.1
  have eb := h.2.2.2.2.2.2
  intro ls H locs hl hP hD hS
  have h1 : gCx X0 (gV X (zy (g_z X0) ad2 (gw ad (gz_I (g_z X0)) S ++ r)) (g_H X) a b) cc nL ws ad2 (gw ad (gz_I (g_z X0)) S ++ r) (n + 0) a b :=
    h.next (k := 0) (Nat.le_refl _) (fun _ _ _ => rfl) (by rw [← ea]; exact h.2.1.2.2.2.2.2.1) (by rw [← eb]; exact h.2.1.2.2.2.2.2.2)
  rw [hz] at hP hD
  have hP1 : va_P (gz_D (g_z X0)) vwCl (gw ad (gz_I (g_z X0)) S ++ (gw ad2 (gz_I (g_z X0)) S2 ++ r)) H := hP
  have hD1 : va_D (g_A X) (gw ad (gz_I (g_z X0)) S ++ (gw ad2 (gz_I (g_z X0)) S2 ++ r)) := hD
  have q2 := kk _ h1 ls H locs hl hP1.swp hD1.swp hS
  rw [hz, ea, eb]; exact q2
