/-! ROWS OVER ONE WORLD: all objects of the class and of the reference are cells of one list; what a cell holds is a function of naturals -/
abbrev gCell : Type := Nat ⊕ (Nat × List (Option Nat))
def gfl (ad : Nat → Nat) (f : Nat → Nat) : Nat → List (Option Nat) → List Value
  | _, [] => []
  | k, none :: t => Value.int (nI (f k)) :: gfl ad f (k + 1) t
  | k, some q :: t => Value.ref (ad q) :: gfl ad f (k + 1) t
def gce (ad : Nat → Nat) (tI : ClassId) (f : Nat → Nat) (c : gCell) : va_E := match c with
  | .inl n => .inl (tI, n, .inl (fun j => nI (f j)))
  | .inr q => .inr (q.1, gfl ad f 0 q.2)
def gmk (ad : Nat → Nat) (tI : ClassId) (S : Nat → Nat → Nat) : Nat → List gCell → va_W
  | _, [] => []
  | q, c :: t => (ad q, gce ad tI (S q) c) :: gmk ad tI S (q + 1) t
theorem gfl_get (ad : Nat → Nat) (f : Nat → Nat) : ∀ (fl : List (Option Nat)) (k i : Nat), (gfl ad f k fl)[i]? = (fl[i]?).map (fun o => match o with | none => Value.int (nI (f (k + i))) | some q => Value.ref (ad q))
  | [], k, i => by simp [gfl]
  | none :: t, k, 0 => by simp [gfl]
  | some q :: t, k, 0 => by simp [gfl]
  | none :: t, k, i + 1 => by
    simp only [gfl, List.getElem?_cons_succ]
    rw [gfl_get ad f t (k + 1) i, show k + 1 + i = k + (i + 1) by omega]
  | some q :: t, k, i + 1 => by
    simp only [gfl, List.getElem?_cons_succ]
    rw [gfl_get ad f t (k + 1) i, show k + 1 + i = k + (i + 1) by omega]
theorem gmk_get (ad : Nat → Nat) (tI : ClassId) (S : Nat → Nat → Nat) : ∀ (sh : List gCell) (k i : Nat), (gmk ad tI S k sh)[i]? = (sh[i]?).map (fun c => (ad (k + i), gce ad tI (S (k + i)) c))
  | [], k, i => by simp [gmk]
  | c :: t, k, 0 => by simp [gmk]
  | c :: t, k, i + 1 => by
    simp only [gmk, List.getElem?_cons_succ]
    rw [gmk_get ad tI S t (k + 1) i, show k + 1 + i = k + (i + 1) by omega]
theorem gfl_len (ad : Nat → Nat) (f : Nat → Nat) : ∀ (fl : List (Option Nat)) (k : Nat), (gfl ad f k fl).length = fl.length
  | [], _ => rfl
  | none :: t, k => by simp [gfl, gfl_len ad f t]
  | some _ :: t, k => by simp [gfl, gfl_len ad f t]
theorem gfl_set (ad : Nat → Nat) (f : Nat → Nat) {fl : List (Option Nat)} {i x : Nat} (h : fl[i]? = some none) : (gfl ad f 0 fl).set i (Value.int (nI x)) = gfl ad (va_up f i x) 0 fl := by
  apply List.ext_getElem?
  intro j
  have hl := (List.getElem?_eq_some_iff.mp h).1
  by_cases hj : j = i
  · subst hj
    rw [List.getElem?_set_self (by rw [gfl_len]; exact hl), gfl_get, h]
    simp [va_up]
  · rw [List.getElem?_set_ne (Ne.symm hj), gfl_get, gfl_get]
    cases fl[j]? with
    | none => rfl
    | some o => cases o <;> simp [va_up, hj]
theorem gmk_set (ad : Nat → Nat) (tI : ClassId) (S : Nat → Nat → Nat) {sh : List gCell} {i : Nat} {c : gCell} (f : Nat → Nat) (h : sh[i]? = some c) : (gmk ad tI S 0 sh).set i (ad i, gce ad tI f c) = gmk ad tI (va_up S i f) 0 sh := by
  apply List.ext_getElem?
  intro j
  have hl := (List.getElem?_eq_some_iff.mp h).1
  have hlen : (gmk ad tI S 0 sh).length = sh.length := by
    refine Nat.le_antisymm (Nat.le_of_not_lt fun q => ?_) (Nat.le_of_not_lt fun q => ?_)
    · have := gmk_get ad tI S sh 0 sh.length
      rw [List.getElem?_eq_getElem q, List.getElem?_eq_none (Nat.le_refl _)] at this
      cases this
    · have := gmk_get ad tI S sh 0 (gmk ad tI S 0 sh).length
      rw [List.getElem?_eq_none (Nat.le_refl _), List.getElem?_eq_getElem q] at this
      cases this
  by_cases hj : j = i
  · subst hj
    rw [List.getElem?_set_self (by rw [hlen]; exact hl), gmk_get, h]
    simp [va_up]
  · rw [List.getElem?_set_ne (Ne.symm hj), gmk_get, gmk_get]
    cases sh[j]? with
    | none => rfl
    | some o => simp [va_up, hj]
theorem gupd (f : Nat → Nat) (i x : Nat) : upd (fun j => nI (f j)) i (nI x) = fun j => nI (va_up f i x j) := by
  funext j
  by_cases h : j = i
  · subst h; simp [upd, va_up]
  · simp [upd, va_up, h]
/-- the cells: the class (0 to 21)  -/
def shW : List gCell := [.inr (5, [some 1, some 8, some 10, some 16, some 18]), .inr (2, [none, none, none, none, none, none, some 2, some 3, some 4, some 5, some 6, some 7]), .inl 16, .inl 16, .inl 32, .inl 32, .inl 32, .inl 12, .inr (3, [some 1, some 9]), .inl 28, .inr (0, [some 1, some 11, some 12, some 13, some 14, some 15]), .inl 12, .inl 12, .inl 12, .inl 12, .inl 12, .inr (1, [some 1, some 17]), .inl 12, .inr (4, [some 1, some 19, some 20, some 21]), .inl 144, .inl 6, .inl 384]
def gw (ad : Nat → Nat) (tI : ClassId) (S : Nat → Nat → Nat) : va_W := gmk ad tI S 0 shW
theorem gw_len (ad : Nat → Nat) (tI : ClassId) (S : Nat → Nat → Nat) : (gw ad tI S).length = 22 := rfl
theorem gw_get {ad : Nat → Nat} {tI : ClassId} {S : Nat → Nat → Nat} {ex : va_W} {q : Nat} {c : gCell} (h : shW[q]? = some c) : (gw ad tI S ++ ex)[q]? = some (ad q, gce ad tI (S q) c) := by
  have hl : q < 22 := (List.getElem?_eq_some_iff.mp h).1
  rw [List.getElem?_append_left (by rw [gw_len]; exact hl), gw, gmk_get, h]
  simp
theorem gw_set {ad : Nat → Nat} {tI : ClassId} {S : Nat → Nat → Nat} {ex : va_W} {q : Nat} {c : gCell} (f : Nat → Nat) (h : shW[q]? = some c) : (gw ad tI S ++ ex).set q (ad q, gce ad tI f c) = gw ad tI (va_up S q f) ++ ex := by
  have hl : q < 22 := (List.getElem?_eq_some_iff.mp h).1
  rw [List.set_append_left _ _ (by rw [gw_len]; exact hl), gw, gmk_set ad tI S f h]
  rfl
/-- S with x at the place j of the cell q -/
def gup (S : Nat → Nat → Nat) (q j x : Nat) : Nat → Nat → Nat := va_up S q (va_up (S q) j x)
theorem gup_same (S : Nat → Nat → Nat) (q j x : Nat) : gup S q j x q j = x := by simp [gup, va_up]
theorem gup_cell (S : Nat → Nat → Nat) {q j x a : Nat} (h : a ≠ q) : gup S q j x a = S a := by funext b; simp [gup, va_up, h]
theorem gup_place (S : Nat → Nat → Nat) {q j x b : Nat} (h : b ≠ j) : gup S q j x q b = S q b := by simp [gup, va_up, h]
/-- the links between nest mates, which no list of words may hold -/
def nestL : List (String × Nat × MethodName × String) := [("ValveWalk", 11, yX2_init, "ValveWalk"), ("ValveWalk$Breaks", 31, yX5_partOfPipe, "ValveWalk"), ("ValveWalk$Breaks", 57, yX5_hasBit, "ValveWalk"), ("ValveWalk$Flushing", 29, yX5_hasBit, "ValveWalk"), ("ValveWalk$Network", 51, yX5_partOfPipe, "ValveWalk"), ("ValveWalk$Network", 55, yX5_hasBit, "ValveWalk"), ("ValveWalk$Network", 59, yX5_withBit, "ValveWalk"), ("ValveWalk$Segments", 41, yX5_hasBit, "ValveWalk"), ("ValveWalk$Segments", 58, yX5_partOfPipe, "ValveWalk"), ("ValveWalk$Walks", 32, yX5_hasBit, "ValveWalk")]
def gN (U : State) : Prop := ∀ q ∈ nestL, va_Nw (.methodLinkNest q.1 q.2.1 q.2.2.1 q.2.2.2) U
theorem gN.warm {s U : State} (hW : s.WarmedH U.vm) (h : gN s) : gN U := fun q hq => va_Nw.warmM hW (h q hq)
theorem gN.same {u U : State} (hv : u.vm = U.vm) (h : gN u) : gN U := fun q hq => va_Nw.same rfl hv (h q hq)
/-- what stays through all calls of one launch: launch, classes and slots, the cells' addresses, the classes of int[] and long[], further cells -/
abbrev gZ : Type := Launch × va_G × (Nat → Nat) × ClassId × ClassId × va_W
def gz_l (Z : gZ) : Launch := Z.1
def gz_D (Z : gZ) : va_G := Z.2.1
def gz_ad (Z : gZ) : Nat → Nat := Z.2.2.1
def gz_I (Z : gZ) : ClassId := Z.2.2.2.1
def gz_L (Z : gZ) : ClassId := Z.2.2.2.2.1
def gz_ex (Z : gZ) : va_W := Z.2.2.2.2.2
def gz_t (Z : gZ) : List (ClassId × FieldType) := [(gz_I Z, .int)]
def gz_w (Z : gZ) (S : Nat → Nat → Nat) : va_W := gw (gz_ad Z) (gz_I Z) S ++ gz_ex Z
/-- a method's body: program, environment, room, entry state .. -/
abbrev gC : Type := gZ × Program × Env × Room × State × MethodId × Array Value × List Frame × Method × Code × Nat × (Nat → Prop) × Heap × (State → Prop) × Nat × Nat
def g_z (X : gC) : gZ := X.1
def g_p (X : gC) : Program := X.2.1
def g_e (X : gC) : Env := X.2.2.1
def g_R (X : gC) : Room := X.2.2.2.1
def g_s (X : gC) : State := X.2.2.2.2.1
def g_m (X : gC) : MethodId := X.2.2.2.2.2.1
def g_a (X : gC) : Array Value := X.2.2.2.2.2.2.1
def g_b (X : gC) : List Frame := X.2.2.2.2.2.2.2.1
def g_mt (X : gC) : Method := X.2.2.2.2.2.2.2.2.1
def g_c (X : gC) : Code := X.2.2.2.2.2.2.2.2.2.1
def g_n (X : gC) : Nat := X.2.2.2.2.2.2.2.2.2.2.1
def g_A (X : gC) : Nat → Prop := X.2.2.2.2.2.2.2.2.2.2.2.1
def g_H (X : gC) : Heap := X.2.2.2.2.2.2.2.2.2.2.2.2.1
def g_Q (X : gC) : State → Prop := X.2.2.2.2.2.2.2.2.2.2.2.2.2.1
def g_ce (X : gC) : Nat := X.2.2.2.2.2.2.2.2.2.2.2.2.2.2.1
def g_sl (X : gC) : Nat := X.2.2.2.2.2.2.2.2.2.2.2.2.2.2.2
def g_ad (X : gC) : Nat → Nat := gz_ad (g_z X)
/-- the machine stands at pc, with the locals lo, the operands st, the world S: it comes to the body's end -/
def gG (X : gC) (pc : Nat) (lo : List (Nat × Value)) (st : List Value) (S : Nat → Nat → Nat) : Prop :=
  ∀ (ls : Array Slot) (H : Heap) (locs : List Loc), lv_has ls (g_n X) lo → va_P (gz_D (g_z X)) vwCl (gz_w (g_z X) S) H → va_D (g_A X) (gz_w (g_z X) S) → va_S (g_A X) (g_H X) H locs → W (g_p X) (gz_l (g_z X)) (g_e X) (g_R X) (g_s X) (g_m X) (g_a X) (g_b X) (g_mt X) (g_c X) H locs (g_ce X) (g_sl X) (g_Q X) (F0 (g_m X) pc ls st)
def gOk (X : gC) (cc : ByteArray) (nL : Nat) (ws : List Cond) (own : String) : Prop :=
  CallFix (g_p X) (g_m X) (g_c X) cc nL (g_s X) (g_a X) ws own ∧ g_n X = nL ∧ va_K (gz_D (g_z X)) vwCl (gz_t (g_z X)) (g_s X) ∧ gN (g_s X) ∧ (∀ q : Nat, (g_H X).size ≤ q → g_A X q) ∧ g_ce X ≤ (g_R X).cells ∧ g_sl X ≤ (g_R X).slots

theorem gi_toInt {a : Nat} (ha : a < 4294967296) : (nI a).toInt = if a < 2147483648 then (a : Int) else (a : Int) - 4294967296 := by
  have h : (nI a).toInt = (a : Int).bmod (2 ^ 32) := BitVec.toInt_ofNat a
  rw [h, Int.bmod]
  split <;> split <;> omega
theorem gi_eq {a b : Nat} (ha : a < 4294967296) (hb : b < 4294967296) : nI a = nI b ↔ a = b := by
  rw [← Int32.toInt_inj, gi_toInt ha, gi_toInt hb]
  split <;> split <;> omega
theorem gi_le {a b : Nat} (ha : a < 4294967296) (hb : b < 4294967296) : nI a ≤ nI b ↔ (b < 2147483648 ∧ 2147483648 ≤ a) ∨ (a ≤ b ∧ (b < 2147483648 ∨ 2147483648 ≤ a)) := by
  rw [Int32.le_iff_toInt_le, gi_toInt ha, gi_toInt hb]
  split <;> split <;> omega
theorem gi_lt {a b : Nat} (ha : a < 4294967296) (hb : b < 4294967296) : nI a < nI b ↔ (b < 2147483648 ∧ 2147483648 ≤ a) ∨ (a < b ∧ (b < 2147483648 ∨ 2147483648 ≤ a)) := by
  rw [Int32.lt_iff_toInt_lt, gi_toInt ha, gi_toInt hb]
  split <;> split <;> omega
theorem gi_of (x : Int32) : ∃ n : Nat, n < 4294967296 ∧ x = nI n := by
  refine ⟨x.toBitVec.toNat, x.toBitVec.isLt, ?_⟩
  apply Int32.toBitVec_inj.mp
  simp [nI]
theorem gi_and (a b : Nat) : nI a &&& nI b = nI (a &&& b) := by
  apply Int32.toBitVec_inj.mp
  simp [nI, BitVec.ofNat_and]
theorem gi_or (a b : Nat) : nI a ||| nI b = nI (a ||| b) := by
  apply Int32.toBitVec_inj.mp
  simp [nI, BitVec.ofNat_or]
theorem gi_xor (a b : Nat) : nI a ^^^ nI b = nI (a ^^^ b) := by
  apply Int32.toBitVec_inj.mp
  simp [nI, BitVec.ofNat_xor]
theorem gi_cnt : ∀ k : Fin 32, ((nI k.val &&& 31).toBitVec.smod 32).toNat = k.val := by decide +kernel
theorem gi_shl (a : Nat) {k : Nat} (hk : k < 32) : nI a <<< (nI k &&& 31) = nI (a <<< k) := by
  apply Int32.toBitVec_inj.mp
  apply BitVec.eq_of_toNat_eq
  rw [pk_shl (nI a) (nI k &&& 31) k (gi_cnt ⟨k, hk⟩)]
  simp [nI, Nat.shiftLeft_eq, Nat.mod_mul_mod]
theorem gi_shr {a k : Nat} (ha : a < 2147483648) (hk : k < 32) : nI a >>> (nI k &&& 31) = nI (a >>> k) := by
  rw [pk_shrN ha (nI k &&& 31) k (gi_cnt ⟨k, hk⟩), Nat.shiftRight_eq_div_pow]
theorem gi_sub {a b : Nat} (h : b ≤ a) : nI a - nI b = nI (a - b) := pk_sub h
theorem gi_inc (a : Nat) : nI a + Int32.ofInt 1 = nI (a + 1) := nI_1 a
theorem gi_inc5 (a : Nat) : nI a + Int32.ofInt 5 = nI (a + 5) := nI_add a 5
theorem gi_dec {a : Nat} (h : 1 ≤ a) : nI a + Int32.ofInt (-1) = nI (a - 1) := by
  obtain ⟨b, rfl⟩ : ∃ b, a = b + 1 := ⟨a - 1, by omega⟩
  exact pk_m1 b
theorem gi_in {i n : Nat} (h : i < n) (hn : n < 2147483648) : vp_in (nI i) n := vp_in_nI h hn
theorem gi_cl {i : Nat} (h : i < 2147483648) : (nI i).toNatClampNeg = i := nI_clamp h
section GR
variable {X : gC} {cc : ByteArray} {nL : Nat} {ws : List Cond} {own : String} {pc : Nat} {lo lo' : List (Nat × Value)} {st : List Value} {S : Nat → Nat → Nat}
theorem g_loc (ks : List Nat) (h : lv_pick lo ks = lo') (kk : gG X pc lo' st S) : gG X pc lo st S := fun ls H locs hl hP hD hS => kk ls H locs (lv_sub hl ks h) hP hD hS
theorem g_pc {pc' : Nat} (h : pc = pc') (kk : gG X pc' lo st S) : gG X pc lo st S := h ▸ kk
theorem g_iload_n (K : gOk X cc nL ws own) {k : Fin 4} {x : Int32} (j : Nat) (hdg : decode cc pc = .ok (.iload_n k, 1)) (hk : lo[j]? = some (k.val, .int x)) (kk : gG X (pc + 1) lo (.int x :: st) S) : gG X pc lo st S := fun ls H locs hl hP hD hS => lv_iload_n K.1.1 K.1.2.1 hdg rfl (lv_at hl j hk) (kk ls H locs hl hP hD hS)
theorem g_iload (K : gOk X cc nL ws own) {i : Nat} {x : Int32} (j : Nat) (hdg : decode cc pc = .ok (.iload i, 2)) (hk : lo[j]? = some (i, .int x)) (kk : gG X (pc + 2) lo (.int x :: st) S) : gG X pc lo st S := fun ls H locs hl hP hD hS => lv_iload K.1.1 K.1.2.1 hdg (lv_at hl j hk) (kk ls H locs hl hP hD hS)
theorem g_aload_n (K : gOk X cc nL ws own) {k : Fin 4} {x : Nat} (j : Nat) (hdg : decode cc pc = .ok (.aload_n k, 1)) (hk : lo[j]? = some (k.val, .ref x)) (kk : gG X (pc + 1) lo (.ref x :: st) S) : gG X pc lo st S := fun ls H locs hl hP hD hS => lv_aload_n K.1.1 K.1.2.1 hdg rfl (lv_at hl j hk) (kk ls H locs hl hP hD hS)
theorem g_aload (K : gOk X cc nL ws own) {i : Nat} {x : Nat} (j : Nat) (hdg : decode cc pc = .ok (.aload i, 2)) (hk : lo[j]? = some (i, .ref x)) (kk : gG X (pc + 2) lo (.ref x :: st) S) : gG X pc lo st S := fun ls H locs hl hP hD hS => lv_aload K.1.1 K.1.2.1 hdg (lv_at hl j hk) (kk ls H locs hl hP hD hS)
theorem g_istore_n (K : gOk X cc nL ws own) {k : Fin 4} {x : Int32} (hdg : decode cc pc = .ok (.istore_n k, 1)) (hn : k.val < nL) (hl9 : (k.val, Value.int x) :: lo.filter (fun q => !(q.1 == k.val) && !(q.1 + 1 == k.val && q.2.category == 2)) = lo') (kk : gG X (pc + 1) lo' st S) : gG X pc lo (.int x :: st) S := fun ls H locs hl hP hD hS => lv_istore_n K.1.1 K.1.2.1 hdg rfl hl (by rw [K.2.1]; exact hn) hl9 (fun ls hl => kk ls H locs hl hP hD hS)
theorem g_istore (K : gOk X cc nL ws own) {i : Nat} {x : Int32} (hdg : decode cc pc = .ok (.istore i, 2)) (hn : i < nL) (hl9 : (i, Value.int x) :: lo.filter (fun q => !(q.1 == i) && !(q.1 + 1 == i && q.2.category == 2)) = lo') (kk : gG X (pc + 2) lo' st S) : gG X pc lo (.int x :: st) S := fun ls H locs hl hP hD hS => lv_istore K.1.1 K.1.2.1 hdg hl (by rw [K.2.1]; exact hn) hl9 (fun ls hl => kk ls H locs hl hP hD hS)
theorem g_astore_n (K : gOk X cc nL ws own) {k : Fin 4} {x : Nat} (hdg : decode cc pc = .ok (.astore_n k, 1)) (hn : k.val < nL) (hl9 : (k.val, Value.ref x) :: lo.filter (fun q => !(q.1 == k.val) && !(q.1 + 1 == k.val && q.2.category == 2)) = lo') (kk : gG X (pc + 1) lo' st S) : gG X pc lo (.ref x :: st) S := fun ls H locs hl hP hD hS => lv_astore_n K.1.1 K.1.2.1 hdg rfl hl (by rw [K.2.1]; exact hn) hl9 (fun ls hl => kk ls H locs hl hP hD hS)
theorem g_astore (K : gOk X cc nL ws own) {i : Nat} {x : Nat} (hdg : decode cc pc = .ok (.astore i, 2)) (hn : i < nL) (hl9 : (i, Value.ref x) :: lo.filter (fun q => !(q.1 == i) && !(q.1 + 1 == i && q.2.category == 2)) = lo') (kk : gG X (pc + 2) lo' st S) : gG X pc lo (.ref x :: st) S := fun ls H locs hl hP hD hS => lv_astore K.1.1 K.1.2.1 hdg hl (by rw [K.2.1]; exact hn) hl9 (fun ls hl => kk ls H locs hl hP hD hS)
theorem g_iinc (K : gOk X cc nL ws own) {i a b : Nat} {n : Int} (j : Nat) (hdg : decode cc pc = .ok (.iinc i n, 3)) (hk : lo[j]? = some (i, .int (nI a))) (hv : nI a + Int32.ofInt n = nI b) (hn : i < nL) (hl9 : (i, Value.int (nI b)) :: lo.filter (fun q => !(q.1 == i) && !(q.1 + 1 == i && q.2.category == 2)) = lo') (kk : gG X (pc + 3) lo' st S) : gG X pc lo st S := fun ls H locs hl hP hD hS => lv_iinc K.1.1 K.1.2.1 hdg hl hk hv (by rw [K.2.1]; exact hn) hl9 (fun ls hl => kk ls H locs hl hP hD hS)
theorem g_iconst (K : gOk X cc nL ws own) {n : Int} (v : Nat) (hdg : decode cc pc = .ok (.iconst n, 1)) (hv : Int32.ofInt n = nI v) (kk : gG X (pc + 1) lo (.int (nI v) :: st) S) : gG X pc lo st S := fun ls H locs hl hP hD hS => lv_iconst K.1.1 K.1.2.1 hdg hv (kk ls H locs hl hP hD hS)
theorem g_bipush (K : gOk X cc nL ws own) {n : Int} (v : Nat) (hdg : decode cc pc = .ok (.bipush n, 2)) (hv : (Int8.ofInt n).toInt32 = nI v) (kk : gG X (pc + 2) lo (.int (nI v) :: st) S) : gG X pc lo st S := fun ls H locs hl hP hD hS => lv_bipush K.1.1 K.1.2.1 hdg hv (kk ls H locs hl hP hD hS)
theorem g_sipush (K : gOk X cc nL ws own) {n : Int} (v : Nat) (hdg : decode cc pc = .ok (.sipush n, 3)) (hv : (Int16.ofInt n).toInt32 = nI v) (kk : gG X (pc + 3) lo (.int (nI v) :: st) S) : gG X pc lo st S := fun ls H locs hl hP hD hS => lv_sipush K.1.1 K.1.2.1 hdg hv (kk ls H locs hl hP hD hS)
theorem g_ldc (K : gOk X cc nL ws own) {index : Nat} {w : Int32} (v : Nat) (hc : (Jvm.Cond.constant own index w).before (g_a X) (g_s X) = true) (hv : w = nI v) (hdg : decode cc pc = .ok (.ldc index, 2)) (kk : gG X (pc + 2) lo (.int (nI v) :: st) S) : gG X pc lo st S := fun ls H locs hl hP hD hS => by rw [← hv] at kk; exact lv_ldc K.1.1 K.1.2.1 K.1.2.2.2.1 hc hdg (kk ls H locs hl hP hD hS)
theorem g_iadd (K : gOk X cc nL ws own) {a b : Nat} (hdg : decode cc pc = .ok (.iadd, 1)) (kk : gG X (pc + 1) lo (.int (nI (a + b)) :: st) S) : gG X pc lo (.int (nI b) :: .int (nI a) :: st) S := fun ls H locs hl hP hD hS => lv_iadd K.1.1 K.1.2.1 hdg (by rw [nI_add]; exact kk ls H locs hl hP hD hS)
theorem g_imul (K : gOk X cc nL ws own) {a b : Nat} (hdg : decode cc pc = .ok (.imul, 1)) (kk : gG X (pc + 1) lo (.int (nI (a * b)) :: st) S) : gG X pc lo (.int (nI b) :: .int (nI a) :: st) S := fun ls H locs hl hP hD hS => lv_imul K.1.1 K.1.2.1 hdg (by rw [pk_mul]; exact kk ls H locs hl hP hD hS)
theorem g_iand (K : gOk X cc nL ws own) {a b : Nat} (hdg : decode cc pc = .ok (.iand, 1)) (kk : gG X (pc + 1) lo (.int (nI (a &&& b)) :: st) S) : gG X pc lo (.int (nI b) :: .int (nI a) :: st) S := fun ls H locs hl hP hD hS => lv_iand K.1.1 K.1.2.1 hdg (by rw [gi_and]; exact kk ls H locs hl hP hD hS)
theorem g_ior (K : gOk X cc nL ws own) {a b : Nat} (hdg : decode cc pc = .ok (.ior, 1)) (kk : gG X (pc + 1) lo (.int (nI (a ||| b)) :: st) S) : gG X pc lo (.int (nI b) :: .int (nI a) :: st) S := fun ls H locs hl hP hD hS => lv_ior K.1.1 K.1.2.1 hdg (by rw [gi_or]; exact kk ls H locs hl hP hD hS)
theorem g_ixor (K : gOk X cc nL ws own) {a b : Nat} (hdg : decode cc pc = .ok (.ixor, 1)) (kk : gG X (pc + 1) lo (.int (nI (a ^^^ b)) :: st) S) : gG X pc lo (.int (nI b) :: .int (nI a) :: st) S := fun ls H locs hl hP hD hS => lv_ixor K.1.1 K.1.2.1 hdg (by rw [gi_xor]; exact kk ls H locs hl hP hD hS)
theorem g_isub (K : gOk X cc nL ws own) {a b : Nat} (h : b ≤ a) (hdg : decode cc pc = .ok (.isub, 1)) (kk : gG X (pc + 1) lo (.int (nI (a - b)) :: st) S) : gG X pc lo (.int (nI b) :: .int (nI a) :: st) S := fun ls H locs hl hP hD hS => lv_isub K.1.1 K.1.2.1 hdg (by rw [gi_sub h]; exact kk ls H locs hl hP hD hS)
theorem g_isub' (K : gOk X cc nL ws own) {x y : Int32} (r : Nat) (h : x - y = nI r) (hdg : decode cc pc = .ok (.isub, 1)) (kk : gG X (pc + 1) lo (.int (nI r) :: st) S) : gG X pc lo (.int y :: .int x :: st) S := fun ls H locs hl hP hD hS => lv_isub K.1.1 K.1.2.1 hdg (by rw [h]; exact kk ls H locs hl hP hD hS)
theorem g_ineg' (K : gOk X cc nL ws own) {x : Int32} (r : Nat) (h : -x = nI r) (hdg : decode cc pc = .ok (.ineg, 1)) (kk : gG X (pc + 1) lo (.int (nI r) :: st) S) : gG X pc lo (.int x :: st) S := fun ls H locs hl hP hD hS => lv_ineg K.1.1 K.1.2.1 hdg (by rw [h]; exact kk ls H locs hl hP hD hS)
theorem g_ishl (K : gOk X cc nL ws own) {a b : Nat} (h : b < 32) (hdg : decode cc pc = .ok (.ishl, 1)) (kk : gG X (pc + 1) lo (.int (nI (a <<< b)) :: st) S) : gG X pc lo (.int (nI b) :: .int (nI a) :: st) S := fun ls H locs hl hP hD hS => lv_ishl K.1.1 K.1.2.1 hdg (by rw [gi_shl a h]; exact kk ls H locs hl hP hD hS)
theorem g_ishr (K : gOk X cc nL ws own) {a b : Nat} (ha : a < 2147483648) (h : b < 32) (hdg : decode cc pc = .ok (.ishr, 1)) (kk : gG X (pc + 1) lo (.int (nI (a >>> b)) :: st) S) : gG X pc lo (.int (nI b) :: .int (nI a) :: st) S := fun ls H locs hl hP hD hS => lv_ishr K.1.1 K.1.2.1 hdg (by rw [gi_shr ha h]; exact kk ls H locs hl hP hD hS)
theorem g_idiv (K : gOk X cc nL ws own) {a b : Nat} (ha : a < 2147483648) (h0 : 0 < b) (hb : b < 2147483648) (hdg : decode cc pc = .ok (.idiv, 1)) (kk : gG X (pc + 1) lo (.int (nI (a / b)) :: st) S) : gG X pc lo (.int (nI b) :: .int (nI a) :: st) S := fun ls H locs hl hP hD hS => lv_idiv K.1.1 K.1.2.1 hdg (nI_ne0 h0 hb) (by rw [pk_div ha h0 hb]; exact kk ls H locs hl hP hD hS)
theorem g_irem (K : gOk X cc nL ws own) {a b : Nat} (ha : a < 2147483648) (h0 : 0 < b) (hb : b < 2147483648) (hdg : decode cc pc = .ok (.irem, 1)) (kk : gG X (pc + 1) lo (.int (nI (a % b)) :: st) S) : gG X pc lo (.int (nI b) :: .int (nI a) :: st) S := fun ls H locs hl hP hD hS => lv_irem K.1.1 K.1.2.1 hdg (nI_ne0 h0 hb) (by rw [pk_rem ha h0 hb]; exact kk ls H locs hl hP hD hS)
theorem gi_ucnt : ∀ k : Fin 32, (((nI k.val).toUInt32 &&& Int32.toUInt32 31).toBitVec % 32).toNat = k.val := by decide +kernel
theorem gi_ushr {a k : Nat} (ha : a < 4294967296) (hk : k < 32) : ((nI a).toUInt32 >>> ((nI k).toUInt32 &&& Int32.toUInt32 31)).toInt32 = nI (a >>> k) := by rw [pk_ushrN ha (nI k) k (gi_ucnt ⟨k, hk⟩), Nat.shiftRight_eq_div_pow]
theorem g_iushr (K : gOk X cc nL ws own) {a b : Nat} (ha : a < 4294967296) (hk : b < 32) (hdg : decode cc pc = .ok (.iushr, 1)) (kk : gG X (pc + 1) lo (.int (nI (a >>> b)) :: st) S) : gG X pc lo (.int (nI b) :: .int (nI a) :: st) S := fun ls H locs hl hP hD hS => lv_iushr K.1.1 K.1.2.1 hdg (gi_ushr ha hk) (kk ls H locs hl hP hD hS)
theorem g_ldc_w (K : gOk X cc nL ws own) {index : Nat} {w : Int32} (v : Nat) (hc : (Jvm.Cond.constant own index w).before (g_a X) (g_s X) = true) (hv : w = nI v) (hdg : decode cc pc = .ok (.ldc_w index, 3)) (kk : gG X (pc + 3) lo (.int (nI v) :: st) S) : gG X pc lo st S := fun ls H locs hl hP hD hS => by rw [← hv] at kk; exact lv_ldcw K.1.1 K.1.2.1 K.1.2.2.2.1 hc hdg (kk ls H locs hl hP hD hS)
theorem g_dup (K : gOk X cc nL ws own) {v : Value} (hdg : decode cc pc = .ok (.dup, 1)) (hv : v.category = 1) (kk : gG X (pc + 1) lo (v :: v :: st) S) : gG X pc lo (v :: st) S := fun ls H locs hl hP hD hS => lv_dup K.1.1 K.1.2.1 hdg hv (kk ls H locs hl hP hD hS)
theorem g_pop (K : gOk X cc nL ws own) {v : Value} (hdg : decode cc pc = .ok (.pop, 1)) (hv : v.category = 1) (kk : gG X (pc + 1) lo st S) : gG X pc lo (v :: st) S := fun ls H locs hl hP hD hS => lv_pop K.1.1 K.1.2.1 hdg hv (kk ls H locs hl hP hD hS)
theorem g_dup2 (K : gOk X cc nL ws own) {v w : Value} (hdg : decode cc pc = .ok (.dup2, 1)) (hv : v.category = 1) (hw : w.category = 1) (kk : gG X (pc + 1) lo (v :: w :: v :: w :: st) S) : gG X pc lo (v :: w :: st) S := fun ls H locs hl hP hD hS => lv_dup2_11 K.1.1 K.1.2.1 hdg hv hw (kk ls H locs hl hP hD hS)
theorem g_dup_x1 (K : gOk X cc nL ws own) {v w : Value} (hdg : decode cc pc = .ok (.dup_x1, 1)) (hv : v.category = 1) (hw : w.category = 1) (kk : gG X (pc + 1) lo (v :: w :: v :: st) S) : gG X pc lo (v :: w :: st) S := fun ls H locs hl hP hD hS => lv_dup_x1 K.1.1 K.1.2.1 hdg hv hw (kk ls H locs hl hP hD hS)
theorem g_goto (K : gOk X cc nL ws own) {off : Int} {tgt : Nat} (hdg : decode cc pc = .ok (.goto off, 3)) (ht : (pc : Int) + off = (tgt : Int)) (kk : gG X tgt lo st S) : gG X pc lo st S := fun ls H locs hl hP hD hS => lv_goto K.1.1 K.1.2.1 hdg ht (kk ls H locs hl hP hD hS)
theorem g_mmax (K : gOk X cc nL ws own) {index a b : Nat} (h1 : Cond.methodLink own index Lib.Math.max.name ∈ ws) (h2 : Cond.static Lib.Math.max.name ∈ ws) (h3 : Cond.initialized "java/lang/Math" ∈ ws) (h4 : Cond.code Lib.Math.max.name Lib.Math.max.code 2 (some .int) ∈ ws) (hf : 1 ≤ (g_R X).frames) (hlo : (st.map fun v => v.category).sum + 13 ≤ (g_R X).locals) (ha : a < 2147483648) (hb : b < 2147483648) (hdg : decode cc pc = .ok (.invokestatic index, 3)) (kk : gG X (pc + 3) lo (.int (nI (max a b)) :: st) S) : gG X pc lo (.int (nI b) :: .int (nI a) :: st) S :=
  fun ls H locs hl hP hD hS => va_mmax K.1.1 K.1.2.1 (by rw [hl.1, K.2.1]; exact K.1.2.2.1) K.1.2.2.2.1 (K.1.2.2.2.2 _ h1) (K.1.2.2.2.2 _ h2) (K.1.2.2.2.2 _ h3) (K.1.2.2.2.2 _ h4) hf hlo K.2.2.2.2.2.1 K.2.2.2.2.2.2 hdg (by
    have e : (if nI a < nI b then nI b else nI a) = nI (max a b) := by
      by_cases h : a < b
      · rw [if_pos ((nI_ltI ha hb).mpr h)]; congr 1; omega
      · rw [if_neg (fun q => h ((nI_ltI ha hb).mp q))]; congr 1; omega
    rw [e]; exact kk ls H locs hl hP hD hS)
theorem g_mmin (K : gOk X cc nL ws own) {index a b : Nat} (h1 : Cond.methodLink own index Lib.Math.min.name ∈ ws) (h2 : Cond.static Lib.Math.min.name ∈ ws) (h3 : Cond.initialized "java/lang/Math" ∈ ws) (h4 : Cond.code Lib.Math.min.name Lib.Math.min.code 2 (some .int) ∈ ws) (hf : 1 ≤ (g_R X).frames) (hlo : (st.map fun v => v.category).sum + 13 ≤ (g_R X).locals) (ha : a < 2147483648) (hb : b < 2147483648) (hdg : decode cc pc = .ok (.invokestatic index, 3)) (kk : gG X (pc + 3) lo (.int (nI (min a b)) :: st) S) : gG X pc lo (.int (nI b) :: .int (nI a) :: st) S :=
  fun ls H locs hl hP hD hS => va_mmin K.1.1 K.1.2.1 (by rw [hl.1, K.2.1]; exact K.1.2.2.1) K.1.2.2.2.1 (K.1.2.2.2.2 _ h1) (K.1.2.2.2.2 _ h2) (K.1.2.2.2.2 _ h3) (K.1.2.2.2.2 _ h4) hf hlo K.2.2.2.2.2.1 K.2.2.2.2.2.2 hdg (by
    have e : (if nI b < nI a then nI b else nI a) = nI (min a b) := by
      by_cases h : b < a
      · rw [if_pos ((nI_ltI hb ha).mpr h)]; congr 1; omega
      · rw [if_neg (fun q => h ((nI_ltI hb ha).mp q))]; congr 1; omega
    rw [e]; exact kk ls H locs hl hP hD hS)
theorem g_icmp_ge (K : gOk X cc nL ws own) {off : Int} {tgt a b : Nat} (hdg : decode cc pc = .ok (.if_icmp .ge off, 3)) (ht : (pc : Int) + off = (tgt : Int)) (ha : a < 2147483648) (hb : b < 2147483648) (kt : b ≤ a → gG X tgt lo st S) (kf : a < b → gG X (pc + 3) lo st S) : gG X pc lo (.int (nI b) :: .int (nI a) :: st) S := fun ls H locs hl hP hD hS => lv_icmp_ge K.1.1 K.1.2.1 hdg ht (fun h => kt (by have q := @nI_leI b a hb ha; first | exact q.mp h | (rw [q] at h; omega)) ls H locs hl hP hD hS) (fun h => kf (by have q := @nI_leI b a hb ha; first | exact q.mp h | (rw [q] at h; omega)) ls H locs hl hP hD hS)
theorem g_icmp_lt (K : gOk X cc nL ws own) {off : Int} {tgt a b : Nat} (hdg : decode cc pc = .ok (.if_icmp .lt off, 3)) (ht : (pc : Int) + off = (tgt : Int)) (ha : a < 2147483648) (hb : b < 2147483648) (kt : a < b → gG X tgt lo st S) (kf : b ≤ a → gG X (pc + 3) lo st S) : gG X pc lo (.int (nI b) :: .int (nI a) :: st) S := fun ls H locs hl hP hD hS => lv_icmp_lt K.1.1 K.1.2.1 hdg ht (fun h => kt (by have q := @nI_ltI a b ha hb; first | exact q.mp h | (rw [q] at h; omega)) ls H locs hl hP hD hS) (fun h => kf (by have q := @nI_ltI a b ha hb; first | exact q.mp h | (rw [q] at h; omega)) ls H locs hl hP hD hS)
theorem g_icmp_le (K : gOk X cc nL ws own) {off : Int} {tgt a b : Nat} (hdg : decode cc pc = .ok (.if_icmp .le off, 3)) (ht : (pc : Int) + off = (tgt : Int)) (ha : a < 2147483648) (hb : b < 2147483648) (kt : a ≤ b → gG X tgt lo st S) (kf : b < a → gG X (pc + 3) lo st S) : gG X pc lo (.int (nI b) :: .int (nI a) :: st) S := fun ls H locs hl hP hD hS => lv_icmp_le K.1.1 K.1.2.1 hdg ht (fun h => kt (by have q := @nI_leI a b ha hb; first | exact q.mp h | (rw [q] at h; omega)) ls H locs hl hP hD hS) (fun h => kf (by have q := @nI_leI a b ha hb; first | exact q.mp h | (rw [q] at h; omega)) ls H locs hl hP hD hS)
theorem g_icmp_gt (K : gOk X cc nL ws own) {off : Int} {tgt a b : Nat} (hdg : decode cc pc = .ok (.if_icmp .gt off, 3)) (ht : (pc : Int) + off = (tgt : Int)) (ha : a < 2147483648) (hb : b < 2147483648) (kt : b < a → gG X tgt lo st S) (kf : a ≤ b → gG X (pc + 3) lo st S) : gG X pc lo (.int (nI b) :: .int (nI a) :: st) S := fun ls H locs hl hP hD hS => lv_icmp_gt K.1.1 K.1.2.1 hdg ht (fun h => kt (by have q := @nI_ltI b a hb ha; first | exact q.mp h | (rw [q] at h; omega)) ls H locs hl hP hD hS) (fun h => kf (by have q := @nI_ltI b a hb ha; first | exact q.mp h | (rw [q] at h; omega)) ls H locs hl hP hD hS)
theorem g_icmp_eq (K : gOk X cc nL ws own) {off : Int} {tgt a b : Nat} (hdg : decode cc pc = .ok (.if_icmp .eq off, 3)) (ht : (pc : Int) + off = (tgt : Int)) (ha : a < 4294967296) (hb : b < 4294967296) (kt : a = b → gG X tgt lo st S) (kf : a ≠ b → gG X (pc + 3) lo st S) : gG X pc lo (.int (nI b) :: .int (nI a) :: st) S := fun ls H locs hl hP hD hS => lv_icmp_eq K.1.1 K.1.2.1 hdg ht (fun h => kt (by rw [gi_eq ha hb] at h; exact h) ls H locs hl hP hD hS) (fun h => kf (by rw [gi_eq ha hb] at h; exact h) ls H locs hl hP hD hS)
theorem g_icmp_ne (K : gOk X cc nL ws own) {off : Int} {tgt a b : Nat} (hdg : decode cc pc = .ok (.if_icmp .ne off, 3)) (ht : (pc : Int) + off = (tgt : Int)) (ha : a < 4294967296) (hb : b < 4294967296) (kt : a ≠ b → gG X tgt lo st S) (kf : a = b → gG X (pc + 3) lo st S) : gG X pc lo (.int (nI b) :: .int (nI a) :: st) S := fun ls H locs hl hP hD hS => lv_icmp_ne K.1.1 K.1.2.1 hdg ht (fun h => kt (by rw [gi_eq ha hb] at h; exact h) ls H locs hl hP hD hS) (fun h => kf (by rw [gi_eq ha hb] at h; exact h) ls H locs hl hP hD hS)
theorem g_icmp_ge' (K : gOk X cc nL ws own) {off : Int} {tgt a b : Nat} (hdg : decode cc pc = .ok (.if_icmp .ge off, 3)) (ht : (pc : Int) + off = (tgt : Int)) (ha : a < 4294967296) (hb : b < 4294967296) (kt : ((a < 2147483648 ∧ 2147483648 ≤ b) ∨ (b ≤ a ∧ (a < 2147483648 ∨ 2147483648 ≤ b))) → gG X tgt lo st S) (kf : ¬ ((a < 2147483648 ∧ 2147483648 ≤ b) ∨ (b ≤ a ∧ (a < 2147483648 ∨ 2147483648 ≤ b))) → gG X (pc + 3) lo st S) : gG X pc lo (.int (nI b) :: .int (nI a) :: st) S := fun ls H locs hl hP hD hS => lv_icmp_ge K.1.1 K.1.2.1 hdg ht (fun h => kt ((gi_le hb ha).mp h) ls H locs hl hP hD hS) (fun h => kf (fun q => h ((gi_le hb ha).mpr q)) ls H locs hl hP hD hS)
theorem g_icmp_lt' (K : gOk X cc nL ws own) {off : Int} {tgt a b : Nat} (hdg : decode cc pc = .ok (.if_icmp .lt off, 3)) (ht : (pc : Int) + off = (tgt : Int)) (ha : a < 4294967296) (hb : b < 4294967296) (kt : ((b < 2147483648 ∧ 2147483648 ≤ a) ∨ (a < b ∧ (b < 2147483648 ∨ 2147483648 ≤ a))) → gG X tgt lo st S) (kf : ¬ ((b < 2147483648 ∧ 2147483648 ≤ a) ∨ (a < b ∧ (b < 2147483648 ∨ 2147483648 ≤ a))) → gG X (pc + 3) lo st S) : gG X pc lo (.int (nI b) :: .int (nI a) :: st) S := fun ls H locs hl hP hD hS => lv_icmp_lt K.1.1 K.1.2.1 hdg ht (fun h => kt ((gi_lt ha hb).mp h) ls H locs hl hP hD hS) (fun h => kf (fun q => h ((gi_lt ha hb).mpr q)) ls H locs hl hP hD hS)
theorem g_icmp_le' (K : gOk X cc nL ws own) {off : Int} {tgt a b : Nat} (hdg : decode cc pc = .ok (.if_icmp .le off, 3)) (ht : (pc : Int) + off = (tgt : Int)) (ha : a < 4294967296) (hb : b < 4294967296) (kt : ((b < 2147483648 ∧ 2147483648 ≤ a) ∨ (a ≤ b ∧ (b < 2147483648 ∨ 2147483648 ≤ a))) → gG X tgt lo st S) (kf : ¬ ((b < 2147483648 ∧ 2147483648 ≤ a) ∨ (a ≤ b ∧ (b < 2147483648 ∨ 2147483648 ≤ a))) → gG X (pc + 3) lo st S) : gG X pc lo (.int (nI b) :: .int (nI a) :: st) S := fun ls H locs hl hP hD hS => lv_icmp_le K.1.1 K.1.2.1 hdg ht (fun h => kt ((gi_le ha hb).mp h) ls H locs hl hP hD hS) (fun h => kf (fun q => h ((gi_le ha hb).mpr q)) ls H locs hl hP hD hS)
theorem g_icmp_gt' (K : gOk X cc nL ws own) {off : Int} {tgt a b : Nat} (hdg : decode cc pc = .ok (.if_icmp .gt off, 3)) (ht : (pc : Int) + off = (tgt : Int)) (ha : a < 4294967296) (hb : b < 4294967296) (kt : ((a < 2147483648 ∧ 2147483648 ≤ b) ∨ (b < a ∧ (a < 2147483648 ∨ 2147483648 ≤ b))) → gG X tgt lo st S) (kf : ¬ ((a < 2147483648 ∧ 2147483648 ≤ b) ∨ (b < a ∧ (a < 2147483648 ∨ 2147483648 ≤ b))) → gG X (pc + 3) lo st S) : gG X pc lo (.int (nI b) :: .int (nI a) :: st) S := fun ls H locs hl hP hD hS => lv_icmp_gt K.1.1 K.1.2.1 hdg ht (fun h => kt ((gi_lt hb ha).mp h) ls H locs hl hP hD hS) (fun h => kf (fun q => h ((gi_lt hb ha).mpr q)) ls H locs hl hP hD hS)
theorem g_if_eq (K : gOk X cc nL ws own) {off : Int} {tgt a : Nat} (hdg : decode cc pc = .ok (.ifCond .eq off, 3)) (ht : (pc : Int) + off = (tgt : Int)) (ha : a < 4294967296) (kt : a = 0 → gG X tgt lo st S) (kf : a ≠ 0 → gG X (pc + 3) lo st S) : gG X pc lo (.int (nI a) :: st) S := fun ls H locs hl hP hD hS => lv_if_eq K.1.1 K.1.2.1 hdg ht (fun h => kt (by rw [← nI_0, gi_eq ha (by decide)] at h; exact h) ls H locs hl hP hD hS) (fun h => kf (by rw [← nI_0, gi_eq ha (by decide)] at h; exact h) ls H locs hl hP hD hS)
theorem g_if_ne (K : gOk X cc nL ws own) {off : Int} {tgt a : Nat} (hdg : decode cc pc = .ok (.ifCond .ne off, 3)) (ht : (pc : Int) + off = (tgt : Int)) (ha : a < 4294967296) (kt : a ≠ 0 → gG X tgt lo st S) (kf : a = 0 → gG X (pc + 3) lo st S) : gG X pc lo (.int (nI a) :: st) S := fun ls H locs hl hP hD hS => lv_if_ne K.1.1 K.1.2.1 hdg ht (fun h => kt (by rw [← nI_0, gi_eq ha (by decide)] at h; exact h) ls H locs hl hP hD hS) (fun h => kf (by rw [← nI_0, gi_eq ha (by decide)] at h; exact h) ls H locs hl hP hD hS)
theorem g_if_lt (K : gOk X cc nL ws own) {off : Int} {tgt a : Nat} (hdg : decode cc pc = .ok (.ifCond .lt off, 3)) (ht : (pc : Int) + off = (tgt : Int)) (ha : a < 4294967296) (kt : 2147483648 ≤ a → gG X tgt lo st S) (kf : a < 2147483648 → gG X (pc + 3) lo st S) : gG X pc lo (.int (nI a) :: st) S := fun ls H locs hl hP hD hS => lv_if_lt K.1.1 K.1.2.1 hdg ht (fun h => kt (by rw [← nI_0, gi_lt ha (b := 0) (by decide)] at h; omega) ls H locs hl hP hD hS) (fun h => kf (by rw [← nI_0, gi_lt ha (b := 0) (by decide)] at h; omega) ls H locs hl hP hD hS)
theorem g_if_ge (K : gOk X cc nL ws own) {off : Int} {tgt a : Nat} (hdg : decode cc pc = .ok (.ifCond .ge off, 3)) (ht : (pc : Int) + off = (tgt : Int)) (ha : a < 4294967296) (kt : a < 2147483648 → gG X tgt lo st S) (kf : 2147483648 ≤ a → gG X (pc + 3) lo st S) : gG X pc lo (.int (nI a) :: st) S := fun ls H locs hl hP hD hS => lv_if_ge K.1.1 K.1.2.1 hdg ht (fun h => kt (by rw [← nI_0, gi_le (a := 0) (by decide) ha] at h; omega) ls H locs hl hP hD hS) (fun h => kf (by rw [← nI_0, gi_le (a := 0) (by decide) ha] at h; omega) ls H locs hl hP hD hS)
theorem g_if_gt (K : gOk X cc nL ws own) {off : Int} {tgt a : Nat} (hdg : decode cc pc = .ok (.ifCond .gt off, 3)) (ht : (pc : Int) + off = (tgt : Int)) (ha : a < 4294967296) (kt : 0 < a ∧ a < 2147483648 → gG X tgt lo st S) (kf : a = 0 ∨ 2147483648 ≤ a → gG X (pc + 3) lo st S) : gG X pc lo (.int (nI a) :: st) S := fun ls H locs hl hP hD hS => lv_if_gt K.1.1 K.1.2.1 hdg ht (fun h => kt (by rw [← nI_0, gi_lt (a := 0) (by decide) ha] at h; omega) ls H locs hl hP hD hS) (fun h => kf (by rw [← nI_0, gi_lt (a := 0) (by decide) ha] at h; omega) ls H locs hl hP hD hS)
theorem g_if_le (K : gOk X cc nL ws own) {off : Int} {tgt a : Nat} (hdg : decode cc pc = .ok (.ifCond .le off, 3)) (ht : (pc : Int) + off = (tgt : Int)) (ha : a < 4294967296) (kt : a = 0 ∨ 2147483648 ≤ a → gG X tgt lo st S) (kf : 0 < a ∧ a < 2147483648 → gG X (pc + 3) lo st S) : gG X pc lo (.int (nI a) :: st) S := fun ls H locs hl hP hD hS => lv_if_le K.1.1 K.1.2.1 hdg ht (fun h => kt (by rw [← nI_0, gi_le ha (b := 0) (by decide)] at h; omega) ls H locs hl hP hD hS) (fun h => kf (by rw [← nI_0, gi_le ha (b := 0) (by decide)] at h; omega) ls H locs hl hP hD hS)
theorem g_getI (K : gOk X cc nL ws own) {q ci k N index : Nat} {fl : List (Option Nat)} {C ref : String} {T : u_T} (hq : shW[q]? = some (.inr (ci, fl))) (hc : vwCl[ci]? = some (C, T, N)) (hkf : fl[k]? = some none) (hk : k < N) (hin : ∀ w ∈ u_ws C T N, w ∈ ws) (hlink : (Cond.fieldLink own index ref (T k).2.1 (T k).2.2.1) ∈ ws) (hsame : (T k).1 = ref) (hdg : decode cc pc = .ok (.getfield index, 3)) (kk : gG X (pc + 3) lo (.int (nI (S q k)) :: st) S) : gG X pc lo (.ref (g_ad X q) :: st) S :=
  fun ls H locs hl hP hD hS => va_get K.1.1 K.1.2.1 K.1.2.2.2.2 hin K.1.2.2.2.1 K.2.2.1 hP q (gw_get hq) hc k hk (K.1.2.2.2.2 _ hlink) (fun x h => by rw [← hsame]; exact h) (by rw [gfl_get, hkf]; simp) hdg (kk ls H locs hl hP hD hS)
theorem g_getR (K : gOk X cc nL ws own) {q ci k N index q' : Nat} {fl : List (Option Nat)} {C ref : String} {T : u_T} (hq : shW[q]? = some (.inr (ci, fl))) (hc : vwCl[ci]? = some (C, T, N)) (hkf : fl[k]? = some (some q')) (hk : k < N) (hin : ∀ w ∈ u_ws C T N, w ∈ ws) (hlink : (Cond.fieldLink own index ref (T k).2.1 (T k).2.2.1) ∈ ws) (hsame : (T k).1 = ref) (hdg : decode cc pc = .ok (.getfield index, 3)) (kk : gG X (pc + 3) lo (.ref (g_ad X q') :: st) S) : gG X pc lo (.ref (g_ad X q) :: st) S :=
  fun ls H locs hl hP hD hS => va_get K.1.1 K.1.2.1 K.1.2.2.2.2 hin K.1.2.2.2.1 K.2.2.1 hP q (gw_get hq) hc k hk (K.1.2.2.2.2 _ hlink) (fun x h => by rw [← hsame]; exact h) (by rw [gfl_get, hkf]; rfl) hdg (kk ls H locs hl hP hD hS)
theorem g_putI (K : gOk X cc nL ws own) {q ci k N index a : Nat} {fl : List (Option Nat)} {C ref : String} {T : u_T} {ty0 : Nat → FieldType} (hq : shW[q]? = some (.inr (ci, fl))) (hc : vwCl[ci]? = some (C, T, N)) (hkf : fl[k]? = some none) (hk : k < N) (hin : ∀ w ∈ u_ws C T N, w ∈ ws) (hty : ∀ k, k < N → parseFieldDescriptor (T k).2.2.1 = some (ty0 k)) (hnm : ∀ a, a < N → ∀ b, b < N → a ≠ b → (T a).2.1 ≠ (T b).2.1) (hlink : (Cond.fieldLink own index ref (T k).2.1 (T k).2.2.1) ∈ ws) (hsame : (T k).1 = ref) (hfin : (T k).2.2.2 = false) (hd : parseFieldDescriptor (T k).2.2.1 = some .int) (hdg : decode cc pc = .ok (.putfield index, 3)) (kk : gG X (pc + 3) lo st (gup S q k a)) : gG X pc lo (.int (nI a) :: .ref (g_ad X q) :: st) S :=
  fun ls H locs hl hP hD hS => va_put (v := .int (nI a)) (ty := .int) K.1.1 K.1.2.1 K.1.2.2.2.2 hin ty0 hty hnm K.1.2.2.2.1 K.2.2.1 hP hD hS q (gw_get hq) hc k hk (K.1.2.2.2.2 _ hlink) (fun x h => by rw [← hsame]; exact h) hfin hd (vp_nar_int (nI a)) rfl (by rw [gfl_len]; exact (List.getElem?_eq_some_iff.mp hkf).1) hdg (fun H locs hP hD hS => by
    rw [gfl_set _ _ hkf] at hP hD
    have e := gw_set (ad := gz_ad (g_z X)) (tI := gz_I (g_z X)) (S := S) (ex := gz_ex (g_z X)) (va_up (S q) k a) hq
    exact kk ls H locs hl (Eq.mp (congrArg (fun w => va_P (gz_D (g_z X)) vwCl w H) e) hP) (Eq.mp (congrArg (fun w => va_D (g_A X) w) e) hD) hS)
theorem g_ald (K : gOk X cc nL ws own) {q n i : Nat} (hq : shW[q]? = some (.inl n)) (hn : n < 2147483648) (hi : i < n) (hdg : decode cc pc = .ok (.iaload, 1)) (kk : gG X (pc + 1) lo (.int (nI (S q i)) :: st) S) : gG X pc lo (.int (nI i) :: .ref (g_ad X q) :: st) S :=
  fun ls H locs hl hP hD hS => va_iald K.1.1 K.1.2.1 K.2.2.1 hP q 0 (gw_get hq) rfl (gi_in hi hn) hdg (by rw [gi_cl (Nat.lt_trans hi hn)]; exact kk ls H locs hl hP hD hS)
theorem g_ast (K : gOk X cc nL ws own) {q n i a : Nat} (hq : shW[q]? = some (.inl n)) (hn : n < 2147483648) (hi : i < n) (hdg : decode cc pc = .ok (.iastore, 1)) (kk : gG X (pc + 1) lo st (gup S q i a)) : gG X pc lo (.int (nI a) :: .int (nI i) :: .ref (g_ad X q) :: st) S :=
  fun ls H locs hl hP hD hS => va_iast K.1.1 K.1.2.1 K.2.2.1 hP hD hS q 0 (gw_get hq) rfl (gi_in hi hn) hdg (fun H locs hP hD hS => by
    rw [gi_cl (Nat.lt_trans hi hn), gupd] at hP hD
    have e := gw_set (ad := gz_ad (g_z X)) (tI := gz_I (g_z X)) (S := S) (ex := gz_ex (g_z X)) (va_up (S q) i a) hq
    exact kk ls H locs hl (Eq.mp (congrArg (fun w => va_P (gz_D (g_z X)) vwCl w H) e) hP) (Eq.mp (congrArg (fun w => va_D (g_A X) w) e) hD) hS)
end GR
def gAd (ad : Nat → Nat) (ex : va_W) (q : Nat) : Prop := (∃ k, k < 22 ∧ q = ad k) ∨ ∃ (k : Nat) (e : va_E), ex[k]? = some (q, e)
def gA (Z : gZ) (sz : Nat) : Nat → Prop := fun q => gAd (gz_ad Z) (gz_ex Z) q ∨ sz ≤ q
theorem gw_at {ad : Nat → Nat} {tI : ClassId} {S : Nat → Nat → Nat} {ex : va_W} {k : Nat} {q : Nat × va_E} (h : (gw ad tI S ++ ex)[k]? = some q) : (k < 22 ∧ q.1 = ad k) ∨ (22 ≤ k ∧ ex[k - 22]? = some q) := by
  by_cases hk : k < 22
  · rw [List.getElem?_append_left (by rw [gw_len]; exact hk), gw, gmk_get] at h
    cases hs : shW[k]? with
    | none => rw [hs] at h; cases h
    | some c => rw [hs] at h; cases h; exact Or.inl ⟨hk, by simp⟩
  · rw [List.getElem?_append_right (by rw [gw_len]; omega), gw_len] at h
    exact Or.inr ⟨by omega, h⟩
theorem gA_of {Z : gZ} {S : Nat → Nat → Nat} {sz k : Nat} {q : Nat × va_E} (h : (gz_w Z S)[k]? = some q) : gA Z sz q.1 := by
  rcases gw_at h with ⟨h1, h2⟩ | ⟨h1, h2⟩
  · exact Or.inl (Or.inl ⟨k, h1, h2⟩)
  · exact Or.inl (Or.inr ⟨_, q.2, h2⟩)
theorem gA_in {Z : gZ} {S : Nat → Nat → Nat} {A : Nat → Prop} {H0 H : Heap} {locs : List Loc} (hD : va_D A (gz_w Z S)) (hS : va_S A H0 H locs) (hA : ∀ q, H0.size ≤ q → A q) : ∀ q, gA Z H.size q → A q := by
  intro q h
  rcases h with (⟨k, hk, rfl⟩ | ⟨k, e, he⟩) | h
  · obtain ⟨c, hc⟩ : ∃ c, shW[k]? = some c := ⟨shW[k]'hk, List.getElem?_eq_getElem _⟩
    exact hD.2 k _ (gw_get hc)
  · refine hD.2 (k + 22) (q, e) ?_
    show (gw _ _ _ ++ gz_ex Z)[k + 22]? = _
    rw [List.getElem?_append_right (by rw [gw_len]; omega), gw_len]
    simpa using he
  · exact hA q (Nat.le_trans hS.1 h)
theorem gw_swap {Z : gZ} {S S' : Nat → Nat → Nat} {A : Nat → Prop} (hD : va_D A (gz_w Z S)) : va_D A (gz_w Z S') := by
  have key : ∀ (k : Nat) (q : Nat × va_E), (gz_w Z S')[k]? = some q → ∃ q0, (gz_w Z S)[k]? = some q0 ∧ q0.1 = q.1 := by
    intro k q hk
    rcases gw_at hk with ⟨h1, h2⟩ | ⟨h1, h2⟩
    · obtain ⟨c, hc⟩ : ∃ c, shW[k]? = some c := ⟨shW[k]'h1, List.getElem?_eq_getElem _⟩
      exact ⟨_, gw_get hc, h2.symm⟩
    · refine ⟨q, ?_, rfl⟩
      show (gw _ _ _ ++ gz_ex Z)[k]? = _
      rw [List.getElem?_append_right (by rw [gw_len]; omega), gw_len]
      exact h2
  refine ⟨fun i j x y hi hj hxy => ?_, fun k q hk => ?_⟩
  · obtain ⟨x0, h1, h2⟩ := key i x hi
    obtain ⟨y0, h3, h4⟩ := key j y hj
    exact hD.1 i j x0 y0 h1 h3 (h2.trans (hxy.trans h4.symm))
  · obtain ⟨q0, h1, h2⟩ := key k q hk
    rw [← h2]
    exact hD.2 k q0 h1
def gI (Z : gZ) (S : Nat → Nat → Nat) (sz : Nat) (U : State) : Prop := U.heap.size = sz ∧ va_P (gz_D Z) vwCl (gz_w Z S) U.heap ∧ va_K (gz_D Z) vwCl (gz_t Z) U ∧ va_D (fun _ => True) (gz_w Z S) ∧ gN U
def gE (Z : gZ) (A : Nat → Prop) (S : Nat → Nat → Nat) (t : State) : Prop := va_P (gz_D Z) vwCl (gz_w Z S) t.heap ∧ va_K (gz_D Z) vwCl (gz_t Z) t ∧ va_D A (gz_w Z S)
/-- a method that answers the int v, and leaves the world S1 -/
def gMd (Z : gZ) (y : MethodName) (ws : List Cond) (rm : Room) (av : List Value) (S : Nat → Nat → Nat) (v : Nat) (S1 : Nat → Nat → Nat) : Prop :=
  ∀ sz, Met (gz_l Z) y ws rm (va_Pc av (gI Z S sz)) (va_Qi (fun r S' => r = nI v ∧ S' = S1) (gE Z (gA Z sz)) (gA Z sz)) 0 0 (gA Z sz)
/-- a method that answers nothing, and leaves the world S1 -/
def gMv (Z : gZ) (y : MethodName) (ws : List Cond) (rm : Room) (av : List Value) (S : Nat → Nat → Nat) (S1 : Nat → Nat → Nat) : Prop :=
  ∀ sz, Met (gz_l Z) y ws rm (va_Pc av (gI Z S sz)) (va_Qv (fun S' => S' = S1) (gE Z (gA Z sz)) (gA Z sz)) 0 0 (gA Z sz)
theorem gI_blind {Z : gZ} {S : Nat → Nat → Nat} {sz : Nat} {av : List Value} : FrameBlind (va_Pc av (gI Z S sz)) := fun a U g mk q => by
  obtain ⟨q0, q1, qP, qK, qD, qN⟩ := q
  exact ⟨q0, q1, qP, va_K.moved (u := U) (U := U.calling g mk a) (Vm.Alike.refl U.vm) qK, qD, gN.same (u := U) (U := U.calling g mk a) rfl qN⟩
theorem gI_at {X : gC} {cc : ByteArray} {nL : Nat} {ws : List Cond} {own : String} {S : Nat → Nat → Nat} {H : Heap} (K : gOk X cc nL ws own) (hP : va_P (gz_D (g_z X)) vwCl (gz_w (g_z X) S) H) (hD : va_D (g_A X) (gz_w (g_z X) S)) (av : List Value) (U : State) (hU : U.heap = H) (hW : (g_s X).WarmedH U.vm) : va_Pc av (gI (g_z X) S H.size) av.toArray U :=
  ⟨rfl, by rw [hU], by rw [hU]; exact hP, va_K.moved hW.alike K.2.2.1, hD.weaken (fun _ _ _ _ => trivial), gN.warm hW K.2.2.2.1⟩
theorem gMd_of {Z : gZ} {y : MethodName} {ws ws' : List Cond} {rm : Room} {av : List Value} {S : Nat → Nat → Nat} {v : Nat} {S1 : Nat → Nat → Nat} {cc : ByteArray} {maxL : Nat} {ret : Option FieldType} (hy : plainName y.cls = true) (hw : ws = Cond.code y cc maxL ret :: ws') (hav : (lg_sl av).length ≤ maxL) (hret : ret = some .int ∨ (ret = some .boolean ∧ v ≤ 1))
    (body : ∀ X : gC, g_z X = Z → g_R X = { rm with } → gOk X cc maxL ws y.cls → (∀ (pc : Nat) (lo : List (Nat × Value)), decode cc pc = .ok (.ireturn, 1) → gG X pc lo [.int (nI v)] S1) → gG X 0 (lv_args 0 av) [] S) : gMd Z y ws rm av S v S1 := by
  intro sz
  refine Met.ofW (cc := cc) (maxL := maxL) (ret := ret) hy hw ?_
  intro p e s m args below meth c s₁ B hml hv
  obtain ⟨rfl, hsz, hP, hK, hD0, hN⟩ := hv
  have hr := B.returns
  have hlocks := B.notSynchronized
  subst hsz
  have hD : va_D (gA Z s.heap.size) (gz_w Z S) := ⟨hD0.1, fun k q hk => gA_of hk⟩
  have hl := lv_entry av (n := maxL) hav
  rw [lg_entry_eq]
  generalize (lg_sl av ++ List.replicate (maxL - (lg_sl av).length) Slot.unset).toArray = ls at hl ⊢
  have hb := body (Z, p, e, rm, s, m, av.toArray, below, meth, c, maxL, gA Z s.heap.size, s.heap, MQ below (va_Qi (fun r S' => r = nI v ∧ S' = S1) (gE Z (gA Z s.heap.size)) (gA Z s.heap.size)) av.toArray s 0 0 (gA Z s.heap.size), 0, 0) rfl rfl
    ⟨⟨B.exec, B.bytes, hml, findClass_of_methodNamed B.named, atoms_spec (ws := ws) B.pre⟩, rfl, hK, hN, fun q h => Or.inr h, Nat.zero_le _, Nat.zero_le _⟩ ?_
  · exact hb ls s.heap [] hl hP hD va_S.rf
  · intro pc lo hdg ls H locs hl hP hD hS
    have hend : ∀ t : State, t.heap = H → s.WarmedH t.vm → va_Qi (fun r S' => r = nI v ∧ S' = S1) (gE Z (gA Z s.heap.size)) (gA Z s.heap.size) av.toArray s (.returned (some (.int (nI v)))) t := fun t ht hW => ⟨⟨nI v, S1, rfl, ⟨rfl, rfl⟩, by rw [ht]; exact hP, va_K.moved hW.alike hK, hD⟩, va_S.F hS ht⟩
    rcases hret with h1 | ⟨h1, h2⟩
    · exact W.iret (v := nI v) B.exec B.bytes (hr.trans h1) hend hS.2.2 hdg hlocks
    · refine W.zret (v := nI v) (ty := .boolean) B.exec B.bytes (hr.trans h1) ?_ hend hS.2.2 hdg hlocks
      rcases (show v = 0 ∨ v = 1 by omega) with rfl | rfl <;> decide
theorem gMv_of {Z : gZ} {y : MethodName} {ws ws' : List Cond} {rm : Room} {av : List Value} {S : Nat → Nat → Nat} {S1 : Nat → Nat → Nat} {cc : ByteArray} {maxL : Nat} (hy : plainName y.cls = true) (hw : ws = Cond.code y cc maxL none :: ws') (hav : (lg_sl av).length ≤ maxL)
    (body : ∀ X : gC, g_z X = Z → g_R X = { rm with } → gOk X cc maxL ws y.cls → (∀ (pc : Nat) (lo : List (Nat × Value)), decode cc pc = .ok (.return_, 1) → gG X pc lo [] S1) → gG X 0 (lv_args 0 av) [] S) : gMv Z y ws rm av S S1 := by
  intro sz
  refine Met.ofW (cc := cc) (maxL := maxL) (ret := none) hy hw ?_
  intro p e s m args below meth c s₁ B hml hv
  obtain ⟨rfl, hsz, hP, hK, hD0, hN⟩ := hv
  have hr := B.returns
  have hlocks := B.notSynchronized
  subst hsz
  have hD : va_D (gA Z s.heap.size) (gz_w Z S) := ⟨hD0.1, fun k q hk => gA_of hk⟩
  have hl := lv_entry av (n := maxL) hav
  rw [lg_entry_eq]
  generalize (lg_sl av ++ List.replicate (maxL - (lg_sl av).length) Slot.unset).toArray = ls at hl ⊢
  have hb := body (Z, p, e, rm, s, m, av.toArray, below, meth, c, maxL, gA Z s.heap.size, s.heap, MQ below (va_Qv (fun S' => S' = S1) (gE Z (gA Z s.heap.size)) (gA Z s.heap.size)) av.toArray s 0 0 (gA Z s.heap.size), 0, 0) rfl rfl
    ⟨⟨B.exec, B.bytes, hml, findClass_of_methodNamed B.named, atoms_spec (ws := ws) B.pre⟩, rfl, hK, hN, fun q h => Or.inr h, Nat.zero_le _, Nat.zero_le _⟩ ?_
  · exact hb ls s.heap [] hl hP hD va_S.rf
  · intro pc lo hdg ls H locs hl hP hD hS
    exact W.vret B.exec B.bytes hr (fun t ht hW => ⟨⟨S1, rfl, rfl, by rw [ht]; exact hP, va_K.moved hW.alike hK, hD⟩, va_S.F hS ht⟩) hS.2.2 hdg hlocks
section GCALL
variable {X : gC} {cc bytes : ByteArray} {nL maxL n index v : Nat} {ws wsY : List Cond} {own C : String} {pc : Nat} {lo : List (Nat × Value)} {st rest As : List Value} {S S1 : Nat → Nat → Nat} {y : MethodName} {ret : Option FieldType} {rm : Room}
theorem g_endI {g : JFrame} {sz : Nat} (K : gOk X cc nL ws own) {ls : Array Slot} {H : Heap} {locs : List Loc} {a : Array Value} (hl : lv_has ls (g_n X) lo) (hP : va_P (gz_D (g_z X)) vwCl (gz_w (g_z X) S) H) (hD : va_D (g_A X) (gz_w (g_z X) S)) (hS : va_S (g_A X) (g_H X) H locs)
    (hr : va_Run (g_p X) (gz_l (g_z X)) (g_e X) (g_R X) (g_s X) (g_m X) (g_a X) (g_b X) (g_mt X) (g_c X) H locs (g_ce X) (g_sl X) 0 0 (F0 (g_m X) pc ls st) rest (va_Qi (fun r S' => r = nI v ∧ S' = S1) (gE (g_z X) (gA (g_z X) H.size)) (gA (g_z X) H.size) a) (gA (g_z X) H.size)) (kk : gG X (pc + 3) lo (.int (nI v) :: rest) S1) : W (g_p X) (gz_l (g_z X)) (g_e X) (g_R X) (g_s X) (g_m X) (g_a X) (g_b X) (g_mt X) (g_c X) H locs (g_ce X) (g_sl X) (g_Q X) (F0 (g_m X) pc ls st) := by
  have hF := gA_in hD hS K.2.2.2.2.1
  refine va_calli hr hS (fun q _ h => hF q h) hF (fun r u t H1 locs1 ht hvm hw hB hz1 hk1 hS1 => ?_)
  obtain ⟨rfl, rfl⟩ := hw
  obtain ⟨hP1, hK1, hD1⟩ := hB
  rw [ht] at hP1
  exact kk ls H1 locs1 hl hP1 (hD1.weaken (fun _ q _ h => hF q.1 h)) hS1
theorem g_endV {g : JFrame} {sz : Nat} (K : gOk X cc nL ws own) {ls : Array Slot} {H : Heap} {locs : List Loc} {a : Array Value} (hl : lv_has ls (g_n X) lo) (hP : va_P (gz_D (g_z X)) vwCl (gz_w (g_z X) S) H) (hD : va_D (g_A X) (gz_w (g_z X) S)) (hS : va_S (g_A X) (g_H X) H locs)
    (hr : va_Run (g_p X) (gz_l (g_z X)) (g_e X) (g_R X) (g_s X) (g_m X) (g_a X) (g_b X) (g_mt X) (g_c X) H locs (g_ce X) (g_sl X) 0 0 (F0 (g_m X) pc ls st) rest (va_Qv (fun S' => S' = S1) (gE (g_z X) (gA (g_z X) H.size)) (gA (g_z X) H.size) a) (gA (g_z X) H.size)) (kk : gG X (pc + 3) lo rest S1) : W (g_p X) (gz_l (g_z X)) (g_e X) (g_R X) (g_s X) (g_m X) (g_a X) (g_b X) (g_mt X) (g_c X) H locs (g_ce X) (g_sl X) (g_Q X) (F0 (g_m X) pc ls st) := by
  have hF := gA_in hD hS K.2.2.2.2.1
  refine va_callv hr hS (fun q _ h => hF q h) hF (fun u t H1 locs1 ht hvm hw hB hz1 hk1 hS1 => ?_)
  subst hw
  obtain ⟨hP1, hK1, hD1⟩ := hB
  rw [ht] at hP1
  exact kk ls H1 locs1 hl hP1 (hD1.weaken (fun _ q _ h => hF q.1 h)) hS1
theorem g_callVd (K : gOk X cc nL ws own) {q ci N : Nat} {fl : List (Option Nat)} {T : u_T} (hM : gMd (g_z X) y wsY rm (.ref (g_ad X q) :: As) S v S1) (cw : CallW (g_R X) (g_s X) (g_a X) own C index y bytes maxL ret wsY rm 0 0 n) (hq : shW[q]? = some (.inr (ci, fl))) (hc : vwCl[ci]? = some (C, T, N)) (hn : As.length = n) (hst : st = As.reverse ++ .ref (g_ad X q) :: rest) (hroom : (rest.map fun v => v.category).sum ≤ 8) (hdg : decode cc pc = .ok (.invokevirtual index, 3)) (kk : gG X (pc + 3) lo (.int (nI v) :: rest) S1) : gG X pc lo st S :=
  fun ls H locs hl hP hD hS => g_endI (g := F0 (g_m X) pc ls st) (sz := 0) K hl hP hD hS (va_runV (As := As) (rest := rest) K.1 (hM H.size) cw ⟨gI_blind, va_recv K.2.2.1 hP (ci := ci) (q0 := q) hc (gw_get hq), fun U hU hW => gI_at K hP hD _ U hU hW⟩ rfl hn (hl.1.trans K.2.1) hst (lv_room hroom) hdg ⟨K.2.2.2.2.2.1, K.2.2.2.2.2.2⟩) kk
theorem g_callVv (K : gOk X cc nL ws own) {q ci N : Nat} {fl : List (Option Nat)} {T : u_T} (hM : gMv (g_z X) y wsY rm (.ref (g_ad X q) :: As) S S1) (cw : CallW (g_R X) (g_s X) (g_a X) own C index y bytes maxL ret wsY rm 0 0 n) (hq : shW[q]? = some (.inr (ci, fl))) (hc : vwCl[ci]? = some (C, T, N)) (hn : As.length = n) (hst : st = As.reverse ++ .ref (g_ad X q) :: rest) (hroom : (rest.map fun v => v.category).sum ≤ 8) (hdg : decode cc pc = .ok (.invokevirtual index, 3)) (kk : gG X (pc + 3) lo rest S1) : gG X pc lo st S :=
  fun ls H locs hl hP hD hS => g_endV (g := F0 (g_m X) pc ls st) (sz := 0) K hl hP hD hS (va_runV (As := As) (rest := rest) K.1 (hM H.size) cw ⟨gI_blind, va_recv K.2.2.1 hP (ci := ci) (q0 := q) hc (gw_get hq), fun U hU hW => gI_at K hP hD _ U hU hW⟩ rfl hn (hl.1.trans K.2.1) hst (lv_room hroom) hdg ⟨K.2.2.2.2.2.1, K.2.2.2.2.2.2⟩) kk
theorem g_callSd (K : gOk X cc nL ws own) (hM : gMd (g_z X) y wsY rm As S v S1) (cw : CallB (g_R X) (g_s X) (g_a X) own index y bytes maxL ret wsY rm 0 0 n ∧ (Cond.static y).before (g_a X) (g_s X) = true) (hn : As.length = n) (hst : st = As.reverse ++ rest) (hroom : (rest.map fun v => v.category).sum ≤ 8) (hdg : decode cc pc = .ok (.invokestatic index, 3)) (kk : gG X (pc + 3) lo (.int (nI v) :: rest) S1) : gG X pc lo st S :=
  fun ls H locs hl hP hD hS => g_endI (g := F0 (g_m X) pc ls st) (sz := 0) K hl hP hD hS (va_runS (As := As) (rest := rest) K.1 (hM H.size) cw ⟨gI_blind, fun U hU hW => gI_at K hP hD _ U hU hW⟩ rfl hn (hl.1.trans K.2.1) hst (lv_room hroom) hdg ⟨K.2.2.2.2.2.1, K.2.2.2.2.2.2⟩) kk
theorem g_callSv (K : gOk X cc nL ws own) (hM : gMv (g_z X) y wsY rm As S S1) (cw : CallB (g_R X) (g_s X) (g_a X) own index y bytes maxL ret wsY rm 0 0 n ∧ (Cond.static y).before (g_a X) (g_s X) = true) (hn : As.length = n) (hst : st = As.reverse ++ rest) (hroom : (rest.map fun v => v.category).sum ≤ 8) (hdg : decode cc pc = .ok (.invokestatic index, 3)) (kk : gG X (pc + 3) lo rest S1) : gG X pc lo st S :=
  fun ls H locs hl hP hD hS => g_endV (g := F0 (g_m X) pc ls st) (sz := 0) K hl hP hD hS (va_runS (As := As) (rest := rest) K.1 (hM H.size) cw ⟨gI_blind, fun U hU hW => gI_at K hP hD _ U hU hW⟩ rfl hn (hl.1.trans K.2.1) hst (lv_room hroom) hdg ⟨K.2.2.2.2.2.1, K.2.2.2.2.2.2⟩) kk
theorem g_callNd (K : gOk X cc nL ws own) (hM : gMd (g_z X) y wsY rm As S v S1) {host : String} (cw : va_CN (g_R X) (g_s X) (g_a X) own index y host bytes maxL ret wsY rm 0 0 n ∧ (Cond.static y).before (g_a X) (g_s X) = true ∧ True) (hn : As.length = n) (hst : st = As.reverse ++ rest) (hroom : (rest.map fun v => v.category).sum ≤ 8) (hdg : decode cc pc = .ok (.invokestatic index, 3)) (kk : gG X (pc + 3) lo (.int (nI v) :: rest) S1) : gG X pc lo st S :=
  fun ls H locs hl hP hD hS => g_endI (g := F0 (g_m X) pc ls st) (sz := 0) K hl hP hD hS (va_runSN (As := As) (rest := rest) K.1 (hM H.size) cw ⟨gI_blind, fun U hU hW => gI_at K hP hD _ U hU hW⟩ rfl hn (hl.1.trans K.2.1) hst (lv_room hroom) hdg ⟨K.2.2.2.2.2.1, K.2.2.2.2.2.2⟩) kk
end GCALL
theorem gR_f {X : gC} {rm : Room} (h : g_R X = rm) {n : Nat} (hn : Nat.ble n rm.frames = true) : n ≤ (g_R X).frames := by rw [h]; exact Nat.le_of_ble_eq_true hn
theorem gR_l {X : gC} {rm : Room} (h : g_R X = rm) {n : Nat} (hn : Nat.ble n rm.locals = true) : n ≤ (g_R X).locals := by rw [h]; exact Nat.le_of_ble_eq_true hn
theorem g_retd {X : gC} {cc : ByteArray} {v e pc : Nat} {S1 S' : Nat → Nat → Nat} {lo : List (Nat × Value)} (hret : ∀ (pc : Nat) (lo : List (Nat × Value)), decode cc pc = .ok (.ireturn, 1) → gG X pc lo [.int (nI v)] S1) (hdg : decode cc pc = .ok (.ireturn, 1)) (hv : e = v) (hS : S' = S1) : gG X pc lo [.int (nI e)] S' := by
  subst hv; subst hS; exact hret pc lo hdg
theorem g_retv {X : gC} {cc : ByteArray} {pc : Nat} {S1 S' : Nat → Nat → Nat} {lo : List (Nat × Value)} (hret : ∀ (pc : Nat) (lo : List (Nat × Value)), decode cc pc = .ok (.return_, 1) → gG X pc lo [] S1) (hdg : decode cc pc = .ok (.return_, 1)) (hS : S' = S1) : gG X pc lo [] S' := by
  subst hS; exact hret pc lo hdg
theorem g_top {X : gC} {pc a : Nat} {lo : List (Nat × Value)} {st : List Value} {S : Nat → Nat → Nat} (kk : ∀ b : Nat, b = a → gG X pc lo (.int (nI b) :: st) S) : gG X pc lo (.int (nI a) :: st) S := kk a rfl
theorem g_topE {X : gC} {pc a : Nat} {lo : List (Nat × Value)} {st : List Value} {S : Nat → Nat → Nat} (b : Nat) (h : a = b) (kk : gG X pc lo (.int (nI b) :: st) S) : gG X pc lo (.int (nI a) :: st) S := h ▸ kk
theorem g_cast {X : gC} {pc : Nat} {lo lo' : List (Nat × Value)} {st st' : List Value} {S S' : Nat → Nat → Nat} (h1 : lo = lo') (h2 : st = st') (h3 : S = S') (kk : gG X pc lo' st' S') : gG X pc lo st S := by
  subst h1; subst h2; subst h3; exact kk
/-- counting loops: f at the counts j, j + 1 .. -/
def gfor {α : Type} (f : Nat → α → α) : Nat → Nat → α → α
  | 0, _, x => x
  | k + 1, j, x => gfor f k (j + 1) (f j x)
theorem gfor_succ {α : Type} (f : Nat → α → α) (k j : Nat) (x : α) : gfor f (k + 1) j x = gfor f k (j + 1) (f j x) := rfl
theorem up_up {α : Type} (S : Nat → α) (q : Nat) (a b : α) : va_up (va_up S q a) q b = va_up S q b := by
  funext z; simp only [va_up]; split <;> rfl
theorem up_comm {α : Type} (S : Nat → α) {p q : Nat} (h : p ≠ q) (a b : α) : va_up (va_up S p a) q b = va_up (va_up S q b) p a := by
  funext z; simp only [va_up]
  by_cases h1 : z = q
  · by_cases h2 : z = p
    · exact absurd (h2.symm.trans h1) h
    · simp [h1, Ne.symm h]
  · simp [h1]
theorem gup_w1a {S : Nat → Nat → Nat} {q i x : Nat} {d : Nat → Nat} : gup (va_up S q d) q i x = va_up S q (va_up d i x) := by
  rw [gup, up_up]; simp [va_up]
theorem gup_w1 {S : Nat → Nat → Nat} {q i x : Nat} {d : Nat → Nat} : gup (va_up S q d) q i x = va_up S q (va_up d i x) := gup_w1a
theorem gup_w2b {S : Nat → Nat → Nat} {p q i x : Nat} {a d : Nat → Nat} (h : p ≠ q) : gup (va_up (va_up S p a) q d) q i x = va_up (va_up S p a) q (va_up d i x) := gup_w1a
theorem gup_w2a {S : Nat → Nat → Nat} {p q i x : Nat} {a d : Nat → Nat} (h : p ≠ q) : gup (va_up (va_up S p a) q d) p i x = va_up (va_up S p (va_up a i x)) q d := by
  rw [up_comm S h, gup_w1a, up_comm S h]
theorem gup_w3c {S : Nat → Nat → Nat} {p q r i x : Nat} {a b d : Nat → Nat} (h : p ≠ q) (h1 : p ≠ r) (h2 : q ≠ r) : gup (va_up (va_up (va_up S p a) q b) r d) r i x = va_up (va_up (va_up S p a) q b) r (va_up d i x) := gup_w1a
theorem gup_w3b {S : Nat → Nat → Nat} {p q r i x : Nat} {a b d : Nat → Nat} (h : p ≠ q) (h1 : p ≠ r) (h2 : q ≠ r) : gup (va_up (va_up (va_up S p a) q b) r d) q i x = va_up (va_up (va_up S p a) q (va_up b i x)) r d := gup_w2a h2
theorem gup_w3a {S : Nat → Nat → Nat} {p q r i x : Nat} {a b d : Nat → Nat} (h : p ≠ q) (h1 : p ≠ r) (h2 : q ≠ r) : gup (va_up (va_up (va_up S p a) q b) r d) p i x = va_up (va_up (va_up S p (va_up a i x)) q b) r d := by
  have e : va_up (va_up (va_up S p a) q b) r d p = a := by simp [va_up, h, h1]
  rw [gup, e, up_comm _ h1.symm, up_comm _ h.symm, up_up]
theorem up_id1 (S : Nat → Nat → Nat) (q : Nat) : va_up S q (S q) = S := by
  funext z; simp only [va_up]; split
  · rename_i h; rw [h]
  · rfl
theorem up_id2 (S : Nat → Nat → Nat) (p q : Nat) : va_up (va_up S p (S p)) q (S q) = S := by rw [up_id1, up_id1]
theorem up_id3 (S : Nat → Nat → Nat) (p q r : Nat) : va_up (va_up (va_up S p (S p)) q (S q)) r (S r) = S := by rw [up_id1, up_id1, up_id1]
theorem eq_if_same {c : Prop} [Decidable c] {α : Type} (x : α) : (if c then x else x) = x := by split <;> rfl
