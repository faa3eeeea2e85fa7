/-! THE REFUTATION: the printed claim fails at the printed start -/
theorem first_step {p : Program} {l : Launch} {x : MethodName} {S : Spec} {cc : ByteArray} {mL : Nat} {rt : Option FieldType} {e : Env} {s : State} {m : MethodId} {args : Array Value} {below : List Frame} {meth : Method} {c : Code} {s₁ : State} (B : BodyLoose p l x S cc mL rt e s m args below meth c s₁) (hml : c.maxLocals = mL) : (stepThread p.tables e s).1 = s₁.setTop (entryFrame m args mL) := by
  have hcur := State.cur_lt_of_frames B.frames
  have hcode : meth.code = some c := (Stand.of_body B).code
  have hf1 : s₁.frames = .java (entryFrame m args mL) :: below := by rw [B.state]; exact State.frames_setFrames _ hcur
  have hroom : e.platform.stackFull (s.setFrames below).me (s.setFrames below).frames c.maxLocals = false := by
    have h1 := (State.hasRoom_stack B.room).2.1
    have h2 := (State.hasRoom_stack B.room).2.2.2
    rw [B.frames, List.length_cons] at h1
    rw [State.localsInUse_invoking B.frames B.method hcode] at h2
    have h3 := stackUse_le_stackWeight below
    rw [State.frames_setFrames _ hcur]
    exact Platform.stackFull_eq_false (by rw [State.stackLimits_setFrames]; omega) (by rw [State.stackLimits_setFrames]; omega)
  rw [State.setTop_self (State.topJava?_of_frames hf1), stepThread_invoking B.frames, (doInvoke_java (s := s.setFrames below) (e := e) B.method hcode B.notSynchronized hroom).1, B.state]
  simp only [State.pushFrame, State.frames_setFrames _ hcur, State.setFrames_setFrames, entryFrame, hml]
def bigQ (s : State) (below : List Frame) (t : State) : Prop := s.heap.size + 166 ≤ t.heap.size ∨ (t.status = .running ∧ Ended t below (.returned (some (.int 0))))
set_option maxHeartbeats 4000000 in
theorem run_met (l : Launch) (hflags : l.flags = flags0) (b : Addr) (xs : List Int32) : MetFree l x (headSpec (Jvm.Cond.code x code maxLocals ret :: tables_1) rmW) (lw_P b xs) (fun p e below s args => s.goesOn ∧ ¬ ∃ t, Steps p.tables e below s t ∧ bigQ s below t) (fun _ _ _ _ => False) := by
  refine MetFree.of_bodyS (code := code) (maxLocals := maxLocals) (ret := ret) (by decide) ?_ ?_
  · intro args s m h hn
    obtain ⟨meth, c, h1, h2, h3, h4, h5, h6, -, -⟩ := Cond.code_spec hn (atoms_spec (ws := Jvm.Cond.code x code maxLocals ret :: tables_1) h _ List.mem_cons_self)
    exact ⟨meth, c, h1, h2, h3, h4, h5, h6⟩
  · intro p e s m args below meth c s₁ B hml0 hP hneg
    exfalso
    obtain ⟨rfl, hx, hbd, hgv⟩ := hP
    obtain ⟨scr, harrAt, hlist, hof, hsmall⟩ := hx
    obtain ⟨hcb, hkn, -, -⟩ := State.arrayAt?_spec harrAt
    have hown : s.vm.findClass R_law = some m.cls := findClass_of_methodNamed B.named
    have hts0 : ∀ c ∈ (Jvm.Cond.code x code maxLocals ret :: tables_1), c.before #[Value.ref b] s = true := atoms_spec (ws := Jvm.Cond.code x code maxLocals ret :: tables_1) B.pre
    have hts : ∀ w ∈ lw_tbl, w.before #[Value.ref b] s = true := k2_hts_sels lw_privs (fun w hw => hts0 w (List.mem_cons_of_mem _ hw)) lw_privs_ok
    have hml : c.maxLocals = 11 := B.maxLocals_eq (hts0 _ List.mem_cons_self)
    have X₀ : Stand p l e rmW s m #[Value.ref b] below meth c s₁ [] 0 0 := Stand.of_body B
    have hh0 : s₁.heap = s.heap := by rw [B.state]; rfl
    have hsz : scr.slots.size = xs.length := by rw [← Array.length_toList, hlist, List.length_map]
    have hval : ∀ j : Nat, j < xs.length → scr.slots[j]? = some (.int (xs.getD j 0)) := fun j hj => by
      rw [← Array.getElem?_toList, hlist]
      simp [hj]
    have hbl : b < s.heap.size := (Array.getElem?_eq_some_iff.mp hcb).1
    have hX : va_X b xs.length (fun j => xs.getD j 0) s s.heap := ⟨scr, hcb, hof, hkn, hsz, hval⟩
    have K : W p l e rmW s m #[Value.ref b] below meth c s₁.heap [] 0 0 (bigQ s below) (entryFrame m ([Value.ref b] : List Value).toArray 11) := by
      rw [hh0]
      exact start_big l hflags hbd ⟨B.exec, B.bytes, B.returns, hml, hown, hts, hX, hbl, B.notSynchronized, hgv⟩
    obtain ⟨t, a1, a2⟩ := K s₁ rfl X₀
    have hst := first_step B hml0
    refine hneg.2 ⟨t, Steps.head hneg.1 ⟨[.invoking m #[Value.ref b]], B.frames, by simp, by simp⟩ ?_, a2⟩
    rw [hst]
    exact a1
theorem within_ended {s : State} {g : NFrame} {o : Outcome} (h : Within s [.native g]) (h2 : Ended s [.native g] o) : False := by
  obtain ⟨above, hf, hne, hthr⟩ := h
  cases o with
  | threw a =>
    have h3 : s.frames = [.throwing a, .native g] := h2
    rw [hf] at h3
    cases above with
    | nil => exact hne rfl
    | cons y t =>
      cases t with
      | nil => rw [List.cons_append, List.nil_append] at h3; injection h3 with h4 h5; exact hthr a (by rw [h4])
      | cons z t => simp at h3
  | returned v =>
    have h3 : s.frames = [.native { g with awaiting := false, answer := some (.returned v) }] := h2
    rw [hf] at h3
    cases above with
    | nil => exact hne rfl
    | cons y t => cases t <;> simp at h3
theorem ended_val {g : NFrame} {v w : Option Value} {s : State} (h : Ended s [.native g] (.returned v)) (h2 : Ended s [.native g] (.returned w)) : v = w := by
  have e1 : s.frames = [.native { g with awaiting := false, answer := some (.returned v) }] := h
  have e2 : s.frames = [.native { g with awaiting := false, answer := some (.returned w) }] := h2
  rw [e1] at e2
  simpa using e2
theorem limb_no (args : Array Value) (s t : State) : limb_1_2.after args s (.returned (some (.int 0))) t = false := by
  first
  | rfl
  | (simp [limb_1_2, Cond.after, Cond.holds, Cond.value, Term.eval]; done)
  | (simp [limb_1_2, Cond.after, Cond.holds, Cond.value, Term.eval]; decide)
theorem lw_pre_spec9 {args : Array Value} {s : State} (h : (Jvm.Cond.and given_1 narrow_1).before args s = true) (hr : rest_1_c.before args s = true) : ∃ (b : Addr) (xs : List Int32), lw_P b xs args s := by
  have hs := flat_of_before _ h
  have hq := flat_of_before _ hr
  have hc : (Cond.count 1).before args s = true := hs _ (by decide +kernel)
  have harr : (Cond.arrayOf (.arg 0) .int).before args s = true := hs _ (by decide +kernel)
  have hle : (Cond.le (.length (.arg 0)) (.int 260)).before args s = true := hs _ (by decide +kernel)
  have hlen : (Cond.isInt (.length (.arg 0))).before args s = true := hq _ (by decide +kernel)
  have hall : (Cond.all (.arg 0) (.isInt (.elem (.arg 0) (.index 0)))).before args s = true := hq _ (by decide +kernel)
  obtain ⟨b, xs, hb, hx⟩ := State.ints_of_pre rfl harr hlen hall
  have hsm : xs.length < 2 ^ 31 := hx.choose_spec.2.2.2
  have hev : (Term.length (.arg 0)).eval args s none [] s = some (.int xs.length.toInt32) := hx.length_eval hb
  have hv := Cond.le_ints hev (show (Term.int 260).eval args s none [] s = some (.int 260) from rfl)
  have hd : xs.length.toInt32 ≤ 260 := by
    simpa [Cond.before, Cond.holds, hv] using hle
  have hN : xs.length ≤ 260 := (Int32.ofNat_le_ofNat hsm (by decide)).mp (show Int32.ofNat xs.length ≤ Int32.ofNat 260 from hd)
  exact ⟨b, xs, Cond.one_arg hc (show args[0]? = some (.ref b) from hb), hx, hN, h⟩
/-- THE PRINTED STATEMENT IS FALSE: its room is smaller than what its own law makes -/
theorem no_vc : ¬ (Claimed_1_1 ∧ Claimed_1_2) := by
  rintro ⟨-, h2⟩
  obtain ⟨hlists, hworld, hadm, hleast, hcas, hclock, hframes, hargs, hheap, happ, hcalls, hrest, hpre⟩ := start1.atStart
  obtain ⟨n, o, hw, hrun, hend, hpost, hfr⟩ := h2 launch0 rfl hlists hworld start1.p0 start1.e0 hadm hcas hclock start1.about ⟨0, 0⟩ start1.args0 Lib.HandBits.below0 hframes hargs hheap happ ⟨hcalls, hrest, hpre⟩
  obtain ⟨⟨v, rfl⟩, -, -, -, hsize, -⟩ := hfr
  have hsize : (stepsAlone start1.p0.tables start1.e0 n start1.about).heap.size ≤ start1.about.heap.size + 165 := hsize
  obtain ⟨b, xs, hP⟩ := lw_pre_spec9 hpre hrest
  obtain ⟨g1, g2, g3, g4, g5, g6, g7, g8⟩ := (Spec.applies_iff hframes).mp happ
  have g6 := (Spec.applies_iff_loose hframes).mp happ
  have g7' : start1.about.hasRoom start1.e0.platform rmW = true := launch0.hasRoom_least start1.about rmW (by decide +kernel) (by decide +kernel) (by decide +kernel) (by decide +kernel) (by decide +kernel) (by decide +kernel)
  have hrip := (Spec.appliesLoose_iff hframes).mp g6.1
  have happ2 : (headSpec (Jvm.Cond.code x code maxLocals ret :: tables_1) rmW).appliesLoose x start1.e0.platform start1.about = true := (Spec.appliesLoose_iff hframes).mpr ⟨g1, g2, g3, g4, g5, hrip.2.2.2.2.2.1, g7', g8⟩
  have hbig : ∃ t, Steps start1.p0.tables start1.e0 Lib.HandBits.below0 start1.about t ∧ bigQ start1.about Lib.HandBits.below0 t := Classical.byContradiction fun hne => by
    obtain ⟨n9, o9, -, -, -, hF⟩ := run_met launch0 rfl b xs start1.p0 start1.e0 hadm hcas hclock start1.about ⟨0, 0⟩ start1.args0 Lib.HandBits.below0 hframes happ2 hP ⟨⟨g1, g2, g3⟩, hne⟩
    exact hF
  obtain ⟨t, ⟨k, hk, hkw⟩, hq⟩ := hbig
  have hnk : ¬ n < k := fun q => within_ended (hkw n q) hend
  rcases hq with hq | ⟨-, hq⟩
  · have h9 := stepsAlone_heap_le start1.p0.tables start1.e0 (n - k) t
    rw [← hk, ← stepsAlone_add, show k + (n - k) = n by omega, hk] at h9
    omega
  · have hkn : ¬ k < n := fun q => within_ended (hw k q) (by rw [hk]; exact hq)
    have hkn : k = n := by omega
    subst hkn
    rw [hk] at hend
    have e3 : v = some (.int 0) := ended_val hend hq
    subst e3
    have h8 : limb_1_2.after start1.args0 start1.about (.returned (some (.int 0))) _ = true := hpost
    rw [limb_no] at h8
    cases h8
