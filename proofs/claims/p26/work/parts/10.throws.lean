/-! THROWS: what a method that throws needs of the machine, and its contract -/
def ISE : String := "java/lang/IllegalStateException"
def IAE : String := "java/lang/IllegalArgumentException"
def IOB : String := "java/lang/IndexOutOfBoundsException"
def thN : List String := ["java/lang/RuntimeException", "java/lang/Exception"]
def badL : List Cond := [.declares (Bundle.initS "java/lang/RuntimeException"), .declares (Bundle.initS "java/lang/Exception"), .declares (Bundle.initS "java/lang/Throwable"), .castable ISE ISE, .castable IAE IAE, .castable IOB IOB]
def strL : List (Nat × String) := [(52, "there are 12 nodes"), (67, "both nodes are the same"), (70, "the length is not 1 to 99"), (72, "the customers are not 0 to 99"), (77, "there are 16 pipes"), (86, "the end is neither 0 nor 1"), (92, "there is a valve"), (97, "there are 12 valves"), (116, "the valve is stuck"), (166, "there is no such place"), (169, "the set has a valve that there is not"), (176, "the set has more than 6 valves"), (181, "there is no such node"), (183, "there is no such pipe"), (185, "there is no such valve"), (197, "the region has a source")]
theorem badL_t : ∀ w ∈ badL, w.onTables = true := by decide +kernel
theorem thB1 : ∀ w ∈ (vx_atS RX5 54 ISE thN).filter (fun w => !goodWord w), w ∈ badL := by decide +kernel
theorem thB2 : ∀ w ∈ (vx_atS RX5 69 IAE thN).filter (fun w => !goodWord w), w ∈ badL := by decide +kernel
theorem thB3 : ∀ w ∈ (vx_atS RX5 168 IOB thN).filter (fun w => !goodWord w), w ∈ badL := by decide +kernel
theorem thG1 : ∀ w ∈ Cond.classLink RX5 50 ISE :: Cond.initialized ISE :: vx_atS RX5 54 ISE thN, vx_ot w = true := by decide +kernel
theorem thG2 : ∀ w ∈ Cond.classLink RX5 65 IAE :: Cond.initialized IAE :: vx_atS RX5 69 IAE thN, vx_ot w = true := by decide +kernel
theorem thG3 : ∀ w ∈ Cond.classLink RX5 164 IOB :: Cond.initialized IOB :: vx_atS RX5 168 IOB thN, vx_ot w = true := by decide +kernel
/-- a kind of throw: class, its link, its constructor's link -/
def thK (E : String) (ik ic : Nat) : Prop := Bundle.fit E = true ∧ (∀ w ∈ (vx_atS RX5 ic E thN).filter (fun w => !goodWord w), w ∈ badL) ∧ ∀ w ∈ Cond.classLink RX5 ik E :: Cond.initialized E :: vx_atS RX5 ic E thN, vx_ot w = true
theorem thK1 : thK ISE 50 54 := ⟨by decide +kernel, thB1, thG1⟩
theorem thK2 : thK IAE 65 69 := ⟨by decide +kernel, thB2, thG2⟩
theorem thK3 : thK IOB 164 168 := ⟨by decide +kernel, thB3, thG3⟩
theorem thNf : ∀ n ∈ thN, Bundle.fit n = true := by decide +kernel
def gTw (U : State) : Prop := (∀ w ∈ badL, va_Nw w U) ∧ ∀ q ∈ strL, ∃ a : Nat, vk_R RX5 q.1 q.2 a U
theorem gTw.warm {s U : State} (hW : s.WarmedH U.vm) (h : gTw s) : gTw U := by
  refine ⟨fun w hw => ?_, fun q hq => ?_⟩
  · have h1 := h.1 w hw
    simp only [badL, List.mem_cons, List.not_mem_nil, or_false] at hw
    rcases hw with rfl | rfl | rfl | rfl | rfl | rfl
    · exact va_Nw.warmD hW h1
    · exact va_Nw.warmD hW h1
    · exact va_Nw.warmD hW h1
    · exact va_Nw.warmC hW h1
    · exact va_Nw.warmC hW h1
    · exact va_Nw.warmC hW h1
  · obtain ⟨a, ha⟩ := h.2 q hq
    exact ⟨a, vk_R.warm hW ha⟩
theorem gTw.same {u U : State} (hv : u.vm = U.vm) (h : gTw u) : gTw U :=
  ⟨fun w hw => va_Nw.same (badL_t w hw) hv (h.1 w hw), fun q hq => (h.2 q hq).elim fun a ha => ⟨a, vk_R.same hv.symm ha⟩⟩
def gT (A : Nat → Prop) (U : State) (H : Heap) : Prop := gTw U ∧ vx_Zq Bundle.tN "UNASSIGNED_STACK" Bundle.steD A U H ∧ vx_Zq Bundle.tN "SUPPRESSED_SENTINEL" Bundle.listD A U H
def gTX (X : gC) : Prop := gT (g_A X) (g_s X) (g_H X)
theorem gT.kept {A : Nat → Prop} {U : State} {H H1 : Heap} (h : gT A U H) (hq : ∀ a : Nat, a < H.size → ¬ A a → H1[a]? = H[a]?) : gT A U H1 := ⟨h.1, h.2.1.kept hq, h.2.2.kept hq⟩
theorem gT.narrow {A B : Nat → Prop} {U : State} {H : Heap} (h : gT A U H) (hAB : ∀ q, B q → A q) : gT B U H := ⟨h.1, h.2.1.narrow hAB, h.2.2.narrow hAB⟩
theorem gT.warm {A : Nat → Prop} {s U : State} {H : Heap} (hW : s.WarmedH U.vm) (h : gT A s H) : gT A U H := ⟨h.1.warm hW, h.2.1.moved hW.alike, h.2.2.moved hW.alike⟩
theorem gT.same {A : Nat → Prop} {u U : State} {H : Heap} (hv : u.vm = U.vm) (h : gT A u H) : gT A U H := by
  have ha : u.vm.Alike U.vm := by rw [hv]; exact Vm.Alike.refl _
  exact ⟨h.1.same hv, h.2.1.moved ha, h.2.2.moved ha⟩
section TXS
variable {p : Program} {l : Launch} {e : Env} {R : Room} {s : State} {m : MethodId} {args : Array Value} {below : List Frame} {meth : Method} {c : Code} {H : Heap} {locs : List Loc} {cells slots : Nat}
variable {mc ms : Nat} {free : Addr → Prop} {ls : Array Slot} {rest : List Value}
variable {Qc : Array Value → State → Outcome → State → Prop} {XC : String → State → State → Prop}
/-- the kit's row of a throw, turned: the thrown object's cell is a new one -/
theorem tx_throwS {cc : ByteArray} {pc : Nat} (hexec : p.tables.exec = Jvm.exec) (hb : c.code = cc) (hl : l.stackTraces = false) {own cls text : String} {names : List String} {ik is ic mc ms sa : Nat} {A : Nat → Prop}
    (hown : s.vm.findClass own = some m.cls) (hcls : Bundle.fit cls = true) (hnames : ∀ n ∈ names, Bundle.fit n = true)
    (hk : (Cond.classLink own ik cls).before args s = true) (hini : (Cond.initialized cls).before args s = true) (hstr : vk_R own is text sa s) (hat : ∀ w ∈ vx_atS own ic cls names, w.before args s = true)
    (hgood : ∀ w ∈ Cond.classLink own ik cls :: Cond.initialized cls :: vx_atS own ic cls names, vx_ot w = true)
    (hU : vx_Zq Bundle.tN "UNASSIGNED_STACK" Bundle.steD A s s.heap) (hN : vx_Zq Bundle.tN "SUPPRESSED_SENTINEL" Bundle.listD A s s.heap) (hS : va_S A s.heap H locs) (hsize : ls.size = c.maxLocals)
    (d0 : decode cc pc = .ok (.new ik, 3)) (d3 : decode cc (pc + 3) = .ok (.dup, 1)) (d4 : decode cc (pc + 4) = .ok (.ldc is, 2)) (d6 : decode cc (pc + 6) = .ok (.invokespecial ic, 3)) (d9 : decode cc (pc + 9) = .ok (.athrow, 1))
    (hout : ∀ x ∈ c.exceptionTable.toList, covers x (pc + 9) = false)
    (hRframes : names.length + 3 < R.frames) (hRlocals : (rest.map fun v => v.category).sum + (13 * (names.length + 1) + 43) ≤ R.locals) (hRcells : cells + 1 ≤ R.cells) (hRslots : slots + 6 ≤ R.slots) (hlocks : meth.locks = false)
    (hx : ∀ t : State, s.vm.Alike t.vm → H.size + 1 ≤ t.heap.size → (∀ q : Nat, q < H.size → t.heap[q]? = H[q]?) → XC cls s t)
    (hf : ∀ z ∈ locs, free z.base) (hc : cells + 1 ≤ mc) (hs : slots + 6 ≤ ms) :
    W p l e R s m args below meth c H locs cells slots (vx_MQ below Qc XC args s mc ms free) (F0 m pc ls rest) := by
  intro T hT X
  have htr : e.platform.stackTraces = false := (show e.platform.stackTraces = l.stackTraces by rw [X.admits.platform]).trans hl
  have Y := vx_rebase X (R' := { frames := R.frames, locals := R.locals, cells := 1, slots := 6 }) (Nat.le_refl _) (Nat.le_refl _) hRcells hRslots
  obtain ⟨s', hA⟩ : ∃ z, z = (T.setVm s.vm).setFrames (.invoking m args :: below) := ⟨_, rfl⟩
  rw [← hA] at Y
  have hvm : s'.vm = s.vm := by rw [hA]; rfl
  have hhp : s'.heap = H := by rw [hA]; exact hT
  have hW0 : s.WarmedH s'.vm := by rw [hvm]; exact State.WarmedH.refl s
  have hat' : ∀ w ∈ vx_atS own ic cls names, w.before args s' = true := fun w hw => vx_ot_at hW0 hvm.symm (hgood w (List.mem_cons_of_mem _ (List.mem_cons_of_mem _ hw))) (hat w hw)
  have hk' : (Cond.classLink own ik cls).before args s' = true := vx_ot_at hW0 hvm.symm (hgood _ List.mem_cons_self) hk
  have hini' : (Cond.initialized cls).before args s' = true := vx_ot_at hW0 hvm.symm (hgood _ (List.mem_cons_of_mem _ List.mem_cons_self)) hini
  have hU' : vx_Zq Bundle.tN "UNASSIGNED_STACK" Bundle.steD A s' s'.heap := by rw [hhp]; exact vx_Zq.moved hW0.alike (hU.kept hS.2.1)
  have hN' : vx_Zq Bundle.tN "SUPPRESSED_SENTINEL" Bundle.listD A s' s'.heap := by rw [hhp]; exact vx_Zq.moved hW0.alike (hN.kept hS.2.1)
  have h : ∀ w ∈ Bundle.ownAtoms own ic cls names, w.before args s' = true := vx_own hat' (vx_isRefq hU'.1) (vx_isRefq hN'.1) hU'.2.word hN'.2.word
  have hown' : s'.vm.findClass own = some m.cls := by rw [hvm]; exact hown
  have hins : (Cond.instantiable cls 6).before args s' = true := h _ (by simp [Bundle.ownAtoms])
  obtain ⟨vm₁, cX, kX, hfX, hkX, -, -, X₁, st1⟩ := Y.newCold hexec (own := own) (C := cls) (index := ik) (n := 6) hown' hk' hins hini'
    (g := F0 m pc ls rest) rfl (by rw [hb]; exact d0) (Nat.le_refl _) (Nat.le_refl _)
  generalize hT1 : (T.setVm vm₁).pushCell { cls := cX, slots := kX.instanceTypes.map defaultValue, vm := .none } = T1 at X₁ st1
  have hcat : (Value.ref T.heap.size).category = 1 := rfl
  have hcellA : T1.heap[T.heap.size]? = some (freshCell cX kX) := by rw [← hT1]; exact State.heap_pushCell_size _ _
  have d3' : decode c.code (pc + 3) = .ok (.dup, 1) := by rw [hb]; exact d3
  have d4' : decode c.code (pc + 4) = .ok (.ldc is, 2) := by rw [hb]; exact d4
  have hstr' : vk_R own is text sa s' := vk_R.warm hW0 hstr
  obtain ⟨U, hsteps, hrun, hend, hW, hsame, ce, hce, hO⟩ := X₁.ctorThrowS hexec htr (own := own) (cls := cls) (names := names) (ic := ic) hown' hcls hnames h (fun x hx => nomatch hx) hfX hkX hcellA (by rw [hhp, hT]; exact Nat.le_refl _) (msg := .ref sa) rfl
    (g := { method := m, pc := pc + 6, locals := ls, stack := .ref sa :: .ref T.heap.size :: .ref T.heap.size :: rest, locked := none }) rfl hsize rfl rfl (rest := rest) rfl
    (by rw [hb]; exact d6) (by rw [hb]; exact d9) hout hRframes (by simp only [List.map_cons, List.sum_cons, hcat]; omega) hlocks
  obtain ⟨f1, f2⟩ := vx_frame hsame
  rw [hhp] at f1 f2
  have hWs : s.WarmedH U.vm := State.WarmedH.trans hW0 hW
  have hcl : s.vm.findClass cls = some ce.cls := by
    have h9 := hO.cls
    rw [hvm] at h9
    exact h9
  have hall : s.sameButNew ({ U with vm := s.vm } : State) locs mc ms := by
    subst hA
    obtain ⟨e1, e2⟩ := hsame
    rw [State.setFrames_setFrames] at e1
    have h2 : (T.setVm s.vm).sameButNew ({ U with vm := s.vm } : State) [] (0 + 1) (0 + 6) := ⟨e1, e2⟩
    have h3 := X.same.trans h2
    rw [List.append_nil] at h3
    exact h3.mono hc hs
  refine ⟨U, ?_, .threw T.heap.size, hrun, hend, Or.inr ⟨T.heap.size, rfl, cls, ce, locs, hx U hWs.alike (by have h9 := (Array.getElem?_eq_some_iff.mp hce).1; rw [hT] at h9; exact h9) (fun q hq => f2 q hq (fun z hz => nomatch hz)), hce, hO.vm, hcl, hWs, hall, hf⟩⟩
  refine st1 _ ?_
  show Steps p.tables e below (T1.setTop { method := m, pc := pc + 3, locals := ls, stack := .ref T.heap.size :: rest, locked := none }) _
  jvm_step X₁.here [X₁.here.top, hexec, d3', Value.category]
  exact X₁.ldcString hexec (own := own) (text := text) (index := is) (a := sa) hown' hstr'.1 hstr'.2
    (g := { method := m, pc := pc + 4, locals := ls, stack := .ref T.heap.size :: .ref T.heap.size :: rest, locked := none }) rfl d4' _ hsteps
end TXS
/-- a throw of E leaves this frame, the world being S, one cell having come at the least: what is owed then is done -/
def gX (X : gC) (lo : List (Nat × Value)) (pc : Nat) (E : String) (S : Nat → Nat → Nat) : Prop :=
  ∀ (rest : List Value) (ls : Array Slot) (H : Heap) (locs : List Loc) (q : Addr) (cl : Cell), lv_has ls (g_n X) lo → va_P (gz_D (g_z X)) vwCl (gz_w (g_z X) S) H → va_D (g_A X) (gz_w (g_z X) S) → va_S (g_A X) (g_H X) H locs → (g_H X).size + 1 ≤ H.size → H[q]? = some cl → cl.vm = .none → (g_s X).vm.findClass E = some cl.cls →
    vx_W (g_p X) (gz_l (g_z X)) (g_e X) (g_R X) (g_s X) (g_m X) (g_a X) (g_b X) (g_mt X) (g_c X) H locs (g_ce X + 1) (g_sl X + 6) (g_Q X) (F0 (g_m X) pc ls rest) q
/-- a method that throws E, and leaves the world as it was; one cell of six slots comes -/
def gMx (Z : gZ) (y : MethodName) (ws : List Cond) (rm : Room) (av : List Value) (S S1 : Nat → Nat → Nat) (E : String) : Prop :=
  ∀ sz, vx_Met (gz_l Z) y ws rm (va_Pc av (fun U => gI Z S sz U ∧ gT (gA Z sz) U U.heap)) (fun _ _ _ _ => False) (vx_X (fun S' => S' = S1) (fun E' S' t => E' = E ∧ gE Z (gA Z sz) S' t ∧ sz + 1 ≤ t.heap.size) (gA Z sz)) 1 6 (gA Z sz)
theorem gIx_blind {Z : gZ} {S : Nat → Nat → Nat} {sz : Nat} {av : List Value} : FrameBlind (va_Pc av (fun U => gI Z S sz U ∧ gT (gA Z sz) U U.heap)) := fun a U g mk q => by
  obtain ⟨q0, ⟨q1, qP, qK, qD, qN⟩, qT⟩ := q
  exact ⟨q0, ⟨q1, qP, va_K.moved (u := U) (U := U.calling g mk a) (Vm.Alike.refl U.vm) qK, qD, gN.same (u := U) (U := U.calling g mk a) rfl qN⟩, gT.same (u := U) (U := U.calling g mk a) rfl qT⟩
theorem gMx_of {Z : gZ} {y : MethodName} {ws ws' : List Cond} {rm : Room} {av : List Value} {S S1 : Nat → Nat → Nat} {E : String} {cc : ByteArray} {maxL : Nat} {ret : Option FieldType} (hl0 : (gz_l Z).stackTraces = false) (hy : plainName y.cls = true) (hcls : y.cls = RX5) (hw : ws = Cond.code y cc maxL ret :: ws') (hav : (lg_sl av).length ≤ maxL) (hrc : rm.cells = 1) (hrs : rm.slots = 6) (hrf : 6 ≤ rm.frames) (hrl : 90 ≤ rm.locals)
    (body : ∀ X : gC, g_z X = Z → g_R X = { rm with } → gOk X cc maxL ws RX5 → gTX X → g_ce X + 1 ≤ (g_R X).cells → g_sl X + 6 ≤ (g_R X).slots →
      (∀ (pc : Nat) (lo : List (Nat × Value)) (st : List Value) (ik is ic : Nat) (text : String), thK E ik ic → Cond.classLink RX5 ik E ∈ ws → Cond.initialized E ∈ ws → (is, text) ∈ strL → (∀ w ∈ (vx_atS RX5 ic E thN).filter goodWord, w ∈ ws) → (st.map fun v => v.category).sum ≤ 8 → decode cc pc = .ok (.new ik, 3) → decode cc (pc + 3) = .ok (.dup, 1) → decode cc (pc + 4) = .ok (.ldc is, 2) → decode cc (pc + 6) = .ok (.invokespecial ic, 3) → decode cc (pc + 9) = .ok (.athrow, 1) → gG X pc lo st S1) →
      (∀ (lo : List (Nat × Value)) (pc : Nat), gX X lo pc E S1) → gG X 0 (lv_args 0 av) [] S) : gMx Z y ws rm av S S1 E := by
  intro sz
  refine vx_ofW (cc := cc) (maxL := maxL) (ret := ret) hy hw ?_
  intro p e s m args below meth c s₁ B hml htab hv
  obtain ⟨rfl, ⟨hsz, hP, hK, hD0, hN⟩, hT⟩ := hv
  have hlocks := B.notSynchronized
  subst hsz
  have hD : va_D (gA Z s.heap.size) (gz_w Z S) := ⟨hD0.1, fun k q hk => gA_of hk⟩
  have hl := lv_entry av (n := maxL) hav
  rw [lg_entry_eq]
  generalize (lg_sl av ++ List.replicate (maxL - (lg_sl av).length) Slot.unset).toArray = ls at hl ⊢
  have hown : s.vm.findClass RX5 = some m.cls := by rw [← hcls]; exact findClass_of_methodNamed B.named
  have hts := atoms_spec (ws := ws) B.pre
  have hend : ∀ (H : Heap) (locs : List Loc), va_P (gz_D Z) vwCl (gz_w Z S1) H → va_D (gA Z s.heap.size) (gz_w Z S1) → va_S (gA Z s.heap.size) s.heap H locs → ∀ t : State, s.vm.Alike t.vm → s.heap.size + 1 ≤ t.heap.size → H.size ≤ t.heap.size → (∀ q : Nat, q < H.size → t.heap[q]? = H[q]?) → vx_X (fun S' => S' = S1) (fun E' S' t => E' = E ∧ gE Z (gA Z s.heap.size) S' t ∧ s.heap.size + 1 ≤ t.heap.size) (gA Z s.heap.size) E s t := by
    intro H locs hP hD hS t hvm hlow hz hq
    refine ⟨S1, rfl, ⟨rfl, ⟨hP.kept (fun k q hk => hq q.1 (hP k q hk).lt), va_K.moved hvm hK, hD⟩, hlow⟩, Nat.le_trans hS.1 hz, fun q h1 h2 => ?_⟩
    rw [hq q (Nat.lt_of_lt_of_le h1 hS.1)]
    exact hS.2.1 q h1 h2
  have hb := body (Z, p, e, rm, s, m, av.toArray, below, meth, c, maxL, gA Z s.heap.size, s.heap, vx_MQ below (fun _ _ _ _ => False) (vx_X (fun S' => S' = S1) (fun E' S' t => E' = E ∧ gE Z (gA Z s.heap.size) S' t ∧ s.heap.size + 1 ≤ t.heap.size) (gA Z s.heap.size)) av.toArray s 1 6 (gA Z s.heap.size), 0, 0) rfl rfl
    ⟨⟨B.exec, B.bytes, hml, hown, hts⟩, rfl, hK, hN, fun q h => Or.inr h, Nat.zero_le _, Nat.zero_le _⟩ hT (by show 0 + 1 ≤ rm.cells; omega) (by show 0 + 6 ≤ rm.slots; omega) ?_ ?_
  · exact hb ls s.heap [] hl hP hD va_S.rf
  · intro pc lo st ik is ic text hk h1 h2 h3 h4 hst d0 d3 d4 d6 d9 ls H locs hl hP hD hS
    obtain ⟨sa, hsa⟩ := hT.1.2 _ h3
    have hat : ∀ w ∈ vx_atS RX5 ic E thN, w.before av.toArray s = true := vx_hat (fun w hw => hts w (h4 w hw)) hk.2.1 (fun w hw => va_Nw.use (badL_t w hw) (hT.1.1 w hw))
    exact tx_throwS (A := gA Z s.heap.size) (text := text) (sa := sa) (R := rm) (slots := 0) (cells := 0) B.exec B.bytes hl0 hown hk.1 thNf (hts _ h1) (hts _ h2) hsa hat hk.2.2 hT.2.1 hT.2.2 hS (hl.1.trans hml.symm) d0 d3 d4 d6 d9 (fun x hx => (htab x hx).elim) (Nat.lt_of_lt_of_le (by decide) hrf) (Nat.le_trans (by show _ ≤ 90; have e : 13 * (thN.length + 1) + 43 = 82 := rfl; omega) hrl) (by rw [hrc]; decide) (by rw [hrs]; decide) hlocks (fun t h1 h2 h3 => hend H locs hP hD hS t h1 (Nat.le_trans (Nat.succ_le_succ hS.1) h2) (Nat.le_of_succ_le h2) h3) hS.2.2 (Nat.le_refl _) (Nat.le_refl _)
  · intro lo pc rest ls H locs q cl hl hP hD hS hlow hcell hv hcl
    exact vx_out (fun x hx => (htab x hx).elim) hlocks hcell hv hcl (fun t ht hvm => hend H locs hP hD hS t hvm (by rw [ht]; exact hlow) (by rw [ht]; exact Nat.le_refl _) (fun q _ => by rw [ht])) hS.2.2 (Nat.le_refl _) (Nat.le_refl _)
section GXC
variable {X : gC} {cc bytes : ByteArray} {nL maxL n index : Nat} {ws wsY : List Cond} {own C E : String} {pc : Nat} {lo : List (Nat × Value)} {st rest As : List Value} {S S1 : Nat → Nat → Nat} {y : MethodName} {ret : Option FieldType} {rm : Room}
theorem g_callVx (K : gOk X cc nL ws own) (T : gTX X) {q ci N : Nat} {fl : List (Option Nat)} {U : u_T} (hM : gMx (g_z X) y wsY rm (.ref (g_ad X q) :: As) S S1 E) (cw : CallW (g_R X) (g_s X) (g_a X) own C index y bytes maxL ret wsY rm 1 6 n) (hce : g_ce X + 1 ≤ (g_R X).cells) (hsl : g_sl X + 6 ≤ (g_R X).slots) (hq : shW[q]? = some (.inr (ci, fl))) (hc : vwCl[ci]? = some (C, U, N)) (hn : As.length = n) (hst : st = As.reverse ++ .ref (g_ad X q) :: rest) (hroom : (rest.map fun v => v.category).sum ≤ 8) (hdg : decode cc pc = .ok (.invokevirtual index, 3)) (kx : gX X lo pc E S1) : gG X pc lo st S := by
  intro ls H locs hl hP hD hS
  have hF := gA_in hD hS K.2.2.2.2.1
  have hT1 : gT (gA (g_z X) H.size) (g_s X) H := (T.kept (fun a h1 h2 => hS.2.1 a h1 h2)).narrow hF
  have hr := vx_runV (As := As) (rest := rest) (l := gz_l (g_z X)) (e := g_e X) (p := g_p X) (below := g_b X) (meth := g_mt X) (locs := locs) (H := H) (g := F0 (g_m X) pc ls st) K.1 (hM H.size) cw ⟨gIx_blind, va_recv K.2.2.1 hP (ci := ci) (q0 := q) hc (gw_get hq), fun U hU hW => ⟨(gI_at K hP hD (.ref (g_ad X q) :: As) U hU hW).1, (gI_at K hP hD (.ref (g_ad X q) :: As) U hU hW).2, by rw [hU]; exact hT1.warm hW⟩⟩ rfl hn (hl.1.trans K.2.1) hst (lv_room hroom) hdg ⟨hce, hsl⟩
  intro T0 hT0 X0
  rcases hr T0 hT0 X0 with ⟨v, st₀, t, T', L, h0, X', hL, e1, e2, hQ, -⟩ | ⟨q9, st₀, t, T', L, E9, cl, h0, X', hL, e1, e2, ⟨u, hp, ⟨rfl, hB, hlow⟩, hFr⟩, hce9, hcv, hcl, st9⟩
  · exact hQ.elim
  · subst hp
    obtain ⟨hP1, hK1, hD1⟩ := hB
    obtain ⟨k1, k2, k3⟩ := vx_keep h0 e1 hS (fun q _ h => hF q h) hF hL hFr
    obtain ⟨t2, a1, b1⟩ := kx rest ls T'.heap (locs ++ L) q9 cl hl (by rw [e1]; exact hP1) (gw_swap hD) k3 (by rw [e1]; have h8 := hS.1; omega) (by rw [e1]; exact hce9) hcv hcl T' rfl X'
    exact ⟨t2, st9.trans a1, b1⟩
end GXC
