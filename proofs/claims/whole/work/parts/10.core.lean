/-! THE CORE: a judgement V that hides the machine (context X), with a row an instruction; contracts Ok. -/
/-- the links to a nest mate's own methods -/
def nstW : List (String × Nat × MethodName) := [(RX5, 19, yX1_init), (RX5, 29, yX4_init), (RX5, 36, yX0_init), (RX5, 43, yX2_init), (RX5, 55, yX3_init), (RX0, 32, yX5_isIn), (RX0, 48, yX5_isWithin), (RX1, 64, yX5_isIn), (RX1, 72, yX5_freshBy), (RX2, 25, yX5_freshBy)]
def Nst (U : State) : Prop := ∀ q ∈ nstW, va_Nw (.methodLinkNest q.1 q.2.1 q.2.2 RX5) U
theorem Nst.warm {s U : State} (hW : s.WarmedH U.vm) (h : Nst s) : Nst U := fun q hq => va_Nw.warmM hW (h q hq)
theorem Nst.call {U : State} {g : JFrame} {mk : MethodId} {a : Array Value} (h : Nst U) : Nst (U.calling g mk a) := fun q hq => va_Nw.same rfl rfl (h q hq)
/-- the classes of arrays -/
abbrev TY (t : ClassId × ClassId × ClassId) : List (ClassId × FieldType) := [(t.1, .int), (t.2.1, .boolean), (t.2.2, .object RX3)]
abbrev Tc : Type := ClassId × ClassId × ClassId
/-- the room at depth d -/
def rmD (d : Nat) : Room := { frames := d, cells := 0, slots := 0, locals := 35 * d }
/-- program, launch, env, room, state; method, args, below, meth, code; free, aim, return type; depth, cells, slots -/
abbrev Cx : Type := (Program × Launch × Env × Room × State) × (MethodId × Array Value × List Frame × Method × Code) × ((Nat → Prop) × (State → Prop) × Option FieldType) × (Nat × Nat × Nat)
def WW (X : Cx) (H : Heap) (locs : List Loc) (g : JFrame) : Prop := W X.1.1 X.1.2.1 X.1.2.2.1 X.1.2.2.2.1 X.1.2.2.2.2 X.2.1.1 X.2.1.2.1 X.2.1.2.2.1 X.2.1.2.2.2.1 X.2.1.2.2.2.2 H locs X.2.2.2.2.1 X.2.2.2.2.2 X.2.2.1.2.1 g
def Fx (X : Cx) (D : va_G) (tc : Tc) (cc : ByteArray) (own : String) (nL : Nat) : Prop := X.1.1.tables.exec = Jvm.exec ∧ X.2.1.2.2.2.2.code = cc ∧ X.2.1.2.2.2.2.maxLocals = nL ∧ X.1.2.2.2.2.vm.findClass own = some X.2.1.1.cls ∧ (∀ w ∈ bigW, w.before X.2.1.2.1 X.1.2.2.2.2 = true) ∧ va_K D vwCl (TY tc) X.1.2.2.2.2 ∧ Nst X.1.2.2.2.2 ∧ (∀ q : Nat, X.1.2.2.2.2.heap.size ≤ q → X.2.2.1.1 q) ∧ X.2.1.2.2.2.1.sig.returnType = X.2.2.1.2.2 ∧ X.2.1.2.2.2.1.locks = false ∧ (X.2.2.2.1 ≤ X.1.2.2.2.1.frames ∧ 35 * X.2.2.2.1 ≤ X.1.2.2.2.1.locals) ∧ X.2.2.2.2.1 ≤ X.1.2.2.2.1.cells ∧ X.2.2.2.2.2 ≤ X.1.2.2.2.1.slots
def lget : List (Option Value) → Nat → Option Value
  | [], _ => none
  | a :: _, 0 => a
  | _ :: t, n + 1 => lget t n
def lset : List (Option Value) → Nat → Value → List (Option Value)
  | [], _, _ => []
  | _ :: t, 0, v => some v :: t
  | a :: t, n + 1, v => a :: lset t n v
def lflat (L : List (Option Value)) : Bool := L.all fun o => match o with
  | some v => v.category == 1
  | none => true
def lvp : Nat → List (Option Value) → List (Nat × Value)
  | _, [] => []
  | k, some v :: t => (k, v) :: lvp (k + 1) t
  | k, none :: t => lvp (k + 1) t
theorem lvp_mem (L : List (Option Value)) : ∀ (k i : Nat) (v : Value), (k + i, v) ∈ lvp k L ↔ lget L i = some v := by
  induction L with
  | nil => intro k i v; simp [lvp, lget]
  | cons a t ih =>
    intro k i v
    have hlow : ∀ (k j : Nat) (w : Value), (j, w) ∈ lvp k t → k ≤ j := by
      clear ih
      induction t with
      | nil => intro k j w h; simp [lvp] at h
      | cons b t ih2 =>
        intro k j w h
        cases b with
        | none => have := ih2 (k + 1) j w (by simpa [lvp] using h); omega
        | some u =>
          simp only [lvp, List.mem_cons, Prod.mk.injEq] at h
          rcases h with h | h
          · omega
          · have := ih2 (k + 1) j w h; omega
    cases i with
    | zero =>
      cases a with
      | none =>
        simp only [lvp, lget, Nat.add_zero]
        constructor
        · intro h; have := hlow (k + 1) k v h; omega
        · intro h; cases h
      | some u =>
        simp only [lvp, lget, Nat.add_zero, List.mem_cons, Prod.mk.injEq, true_and, Option.some.injEq]
        constructor
        · rintro (h | h)
          · exact h.symm
          · have := hlow (k + 1) k v h; omega
        · intro h; exact Or.inl h.symm
    | succ i =>
      have e : k + (i + 1) = (k + 1) + i := by omega
      have ih' := ih (k + 1) i v
      rw [e]
      cases a with
      | none => simpa [lvp, lget] using ih'
      | some u =>
        simp only [lvp, lget, List.mem_cons, Prod.mk.injEq]
        constructor
        · rintro (h | h)
          · omega
          · exact ih'.mp h
        · intro h; exact Or.inr (ih'.mpr h)
def lvH (ls : Array Slot) (nL : Nat) (L : List (Option Value)) : Prop := ls.size = nL ∧ lv_wf ls ∧ ∀ (i : Nat) (v : Value), lget L i = some v → ls[i]? = some (.val v)
theorem lvH.has {ls : Array Slot} {nL : Nat} {L : List (Option Value)} (h : lvH ls nL L) : lv_has ls nL (lvp 0 L) := ⟨h.1, h.2.1, fun q hq => h.2.2 q.1 q.2 ((lvp_mem L 0 q.1 q.2).mp (by simpa using hq))⟩
theorem lvH.of {ls : Array Slot} {nL : Nat} {L : List (Option Value)} {l : List (Nat × Value)} (h : lv_has ls nL l) (e : lvp 0 L = l) : lvH ls nL L := ⟨h.1, h.2.1, fun i v hi => h.2.2 (i, v) (by rw [← e]; have := (lvp_mem L 0 i v).mpr hi; simpa using this)⟩
theorem lget_lset (L : List (Option Value)) : ∀ (i j : Nat) (v w : Value), lget (lset L i v) j = some w → (j = i ∧ w = v) ∨ (j ≠ i ∧ lget L j = some w) := by
  induction L with
  | nil => intro i j v w h; simp [lset, lget] at h
  | cons a t ih =>
    intro i j v w h
    cases i with
    | zero =>
      cases j with
      | zero => simp [lset, lget] at h; exact Or.inl ⟨rfl, h.symm⟩
      | succ j => simp [lset, lget] at h; exact Or.inr ⟨by omega, h⟩
    | succ i =>
      cases j with
      | zero => simp [lset, lget] at h; exact Or.inr ⟨by omega, h⟩
      | succ j =>
        simp [lset, lget] at h
        rcases ih i j v w h with q | q
        · exact Or.inl ⟨by omega, q.2⟩
        · exact Or.inr ⟨by omega, by simpa [lget] using q.2⟩
theorem lflat_get {L : List (Option Value)} (h : lflat L = true) : ∀ (i : Nat) (w : Value), lget L i = some w → w.category = 1 := by
  induction L with
  | nil => intro i w h; simp [lget] at h
  | cons a t ih =>
    intro i w hi
    simp only [lflat, List.all_cons, Bool.and_eq_true] at h
    cases i with
    | zero =>
      simp only [lget] at hi
      subst hi
      simpa using h.1
    | succ i => exact ih h.2 i w (by simpa [lget] using hi)
/-- a value of one slot is stored -/
theorem lvH.store {ls' : Array Slot} {nL i : Nat} {v : Value} {L : List (Option Value)} (hf : lflat L = true) (h : lv_has ls' nL ((i, v) :: (lvp 0 L).filter (fun q => !(q.1 == i) && !(q.1 + 1 == i && q.2.category == 2)))) : lvH ls' nL (lset L i v) := by
  refine ⟨h.1, h.2.1, fun j w hj => ?_⟩
  rcases lget_lset L i j v w hj with ⟨rfl, rfl⟩ | ⟨hne, hw⟩
  · exact h.2.2 _ List.mem_cons_self
  · refine h.2.2 (j, w) (List.mem_cons_of_mem _ (List.mem_filter.mpr ⟨by have := (lvp_mem L 0 j w).mpr hw; simpa using this, ?_⟩))
    have := lflat_get hf j w hw
    simp [hne, this]
/-- THE JUDGEMENT: from here, with these locals, this stack and these cells, the machine comes to its aim -/
def V (X : Cx) (D : va_G) (tc : Tc) (cc : ByteArray) (own : String) (nL pc : Nat) (L : List (Option Value)) (st : List Value) (ws : va_W) : Prop :=
  Fx X D tc cc own nL → ∀ (H : Heap) (locs : List Loc) (ls : Array Slot), va_P D vwCl ws H → va_D X.2.2.1.1 ws → va_S X.2.2.1.1 X.1.2.2.2.2.heap H locs → lvH ls nL L → WW X H locs (F0 X.2.1.1 pc ls st)
section VROWS
variable {X : Cx} {D : va_G} {tc : Tc} {cc : ByteArray} {own : String} {nL pc : Nat} {L : List (Option Value)} {st : List Value} {ws : va_W}
theorem V_w {ws2 : va_W} (h : ws2 = ws) (k : V X D tc cc own nL pc L st ws2) : V X D tc cc own nL pc L st ws := h ▸ k
theorem V_iconst {n : Int} (v : Int32) (hd : decode cc pc = .ok (.iconst n, 1)) (hv : Int32.ofInt n = v) (k : V X D tc cc own nL (pc + 1) L (.int v :: st) ws) : V X D tc cc own nL pc L (st) ws := by
  intro F H locs ls hP hD hS hl
  exact lv_iconst F.1 F.2.1 hd hv (k F H locs ls hP hD hS hl)
theorem V_bipush {n : Int} (v : Int32) (hd : decode cc pc = .ok (.bipush n, 2)) (hv : (Int8.ofInt n).toInt32 = v) (k : V X D tc cc own nL (pc + 2) L (.int v :: st) ws) : V X D tc cc own nL pc L (st) ws := by
  intro F H locs ls hP hD hS hl
  exact lv_bipush F.1 F.2.1 hd hv (k F H locs ls hP hD hS hl)
theorem V_sipush {n : Int} (v : Int32) (hd : decode cc pc = .ok (.sipush n, 3)) (hv : (Int16.ofInt n).toInt32 = v) (k : V X D tc cc own nL (pc + 3) L (.int v :: st) ws) : V X D tc cc own nL pc L (st) ws := by
  intro F H locs ls hP hD hS hl
  exact lv_sipush F.1 F.2.1 hd hv (k F H locs ls hP hD hS hl)
theorem V_lconst {n : Fin 2} (v : Int64) (hd : decode cc pc = .ok (.lconst n, 1)) (hv : Int64.ofNat (n : Nat) = v) (k : V X D tc cc own nL (pc + 1) L (.long v :: st) ws) : V X D tc cc own nL pc L (st) ws := by
  intro F H locs ls hP hD hS hl
  exact lv_lconst F.1 F.2.1 hd hv (k F H locs ls hP hD hS hl)
theorem V_null (hd : decode cc pc = .ok (.aconst_null, 1)) (k : V X D tc cc own nL (pc + 1) L (.null :: st) ws) : V X D tc cc own nL pc L (st) ws := by
  intro F H locs ls hP hD hS hl
  exact lv_null F.1 F.2.1 hd (k F H locs ls hP hD hS hl)
theorem V_iadd {x y : Int32} (hd : decode cc pc = .ok (.iadd, 1)) (k : V X D tc cc own nL (pc + 1) L (.int (x + y) :: st) ws) : V X D tc cc own nL pc L (.int y :: .int x :: st) ws := by
  intro F H locs ls hP hD hS hl
  exact lv_iadd F.1 F.2.1 hd (k F H locs ls hP hD hS hl)
theorem V_isub {x y : Int32} (hd : decode cc pc = .ok (.isub, 1)) (k : V X D tc cc own nL (pc + 1) L (.int (x - y) :: st) ws) : V X D tc cc own nL pc L (.int y :: .int x :: st) ws := by
  intro F H locs ls hP hD hS hl
  exact lv_isub F.1 F.2.1 hd (k F H locs ls hP hD hS hl)
theorem V_imul {x y : Int32} (hd : decode cc pc = .ok (.imul, 1)) (k : V X D tc cc own nL (pc + 1) L (.int (x * y) :: st) ws) : V X D tc cc own nL pc L (.int y :: .int x :: st) ws := by
  intro F H locs ls hP hD hS hl
  exact lv_imul F.1 F.2.1 hd (k F H locs ls hP hD hS hl)
theorem V_iand {x y : Int32} (hd : decode cc pc = .ok (.iand, 1)) (k : V X D tc cc own nL (pc + 1) L (.int (x &&& y) :: st) ws) : V X D tc cc own nL pc L (.int y :: .int x :: st) ws := by
  intro F H locs ls hP hD hS hl
  exact lv_iand F.1 F.2.1 hd (k F H locs ls hP hD hS hl)
theorem V_ior {x y : Int32} (hd : decode cc pc = .ok (.ior, 1)) (k : V X D tc cc own nL (pc + 1) L (.int (x ||| y) :: st) ws) : V X D tc cc own nL pc L (.int y :: .int x :: st) ws := by
  intro F H locs ls hP hD hS hl
  exact lv_ior F.1 F.2.1 hd (k F H locs ls hP hD hS hl)
theorem V_ixor {x y : Int32} (hd : decode cc pc = .ok (.ixor, 1)) (k : V X D tc cc own nL (pc + 1) L (.int (x ^^^ y) :: st) ws) : V X D tc cc own nL pc L (.int y :: .int x :: st) ws := by
  intro F H locs ls hP hD hS hl
  exact lv_ixor F.1 F.2.1 hd (k F H locs ls hP hD hS hl)
theorem V_ishl {x y : Int32} (hd : decode cc pc = .ok (.ishl, 1)) (k : V X D tc cc own nL (pc + 1) L (.int (x <<< (y &&& 31)) :: st) ws) : V X D tc cc own nL pc L (.int y :: .int x :: st) ws := by
  intro F H locs ls hP hD hS hl
  exact lv_ishl F.1 F.2.1 hd (k F H locs ls hP hD hS hl)
theorem V_ishr {x y : Int32} (hd : decode cc pc = .ok (.ishr, 1)) (k : V X D tc cc own nL (pc + 1) L (.int (x >>> (y &&& 31)) :: st) ws) : V X D tc cc own nL pc L (.int y :: .int x :: st) ws := by
  intro F H locs ls hP hD hS hl
  exact lv_ishr F.1 F.2.1 hd (k F H locs ls hP hD hS hl)
theorem V_idiv {x y : Int32} (hd : decode cc pc = .ok (.idiv, 1)) (hne : ¬ y = 0) (k : V X D tc cc own nL (pc + 1) L (.int (x / y) :: st) ws) : V X D tc cc own nL pc L (.int y :: .int x :: st) ws := by
  intro F H locs ls hP hD hS hl
  exact lv_idiv F.1 F.2.1 hd hne (k F H locs ls hP hD hS hl)
theorem V_irem {x y : Int32} (hd : decode cc pc = .ok (.irem, 1)) (hne : ¬ y = 0) (k : V X D tc cc own nL (pc + 1) L (.int (x - x / y * y) :: st) ws) : V X D tc cc own nL pc L (.int y :: .int x :: st) ws := by
  intro F H locs ls hP hD hS hl
  exact lv_irem F.1 F.2.1 hd hne (k F H locs ls hP hD hS hl)
theorem V_ldiv {x y : Int64} (hd : decode cc pc = .ok (.ldiv, 1)) (hne : ¬ y = 0) (k : V X D tc cc own nL (pc + 1) L (.long (x / y) :: st) ws) : V X D tc cc own nL pc L (.long y :: .long x :: st) ws := by
  intro F H locs ls hP hD hS hl
  exact lv_ldiv F.1 F.2.1 hd hne (k F H locs ls hP hD hS hl)
theorem V_lrem {x y : Int64} (hd : decode cc pc = .ok (.lrem, 1)) (hne : ¬ y = 0) (k : V X D tc cc own nL (pc + 1) L (.long (x - x / y * y) :: st) ws) : V X D tc cc own nL pc L (.long y :: .long x :: st) ws := by
  intro F H locs ls hP hD hS hl
  exact lv_lrem F.1 F.2.1 hd hne (k F H locs ls hP hD hS hl)
theorem V_iushr {x y : Int32} (hd : decode cc pc = .ok (.iushr, 1)) (k : V X D tc cc own nL (pc + 1) L (.int ((x.toUInt32 >>> (y.toUInt32 &&& Int32.toUInt32 31)).toInt32) :: st) ws) : V X D tc cc own nL pc L (.int y :: .int x :: st) ws := by
  intro F H locs ls hP hD hS hl
  exact lv_iushr F.1 F.2.1 hd rfl (k F H locs ls hP hD hS hl)
theorem V_i2l {x : Int32} (hd : decode cc pc = .ok (.i2l, 1)) (k : V X D tc cc own nL (pc + 1) L (.long x.toInt64 :: st) ws) : V X D tc cc own nL pc L (.int x :: st) ws := by
  intro F H locs ls hP hD hS hl
  exact lv_i2l F.1 F.2.1 hd rfl (k F H locs ls hP hD hS hl)
theorem V_i2b {x : Int32} (hd : decode cc pc = .ok (.i2b, 1)) (k : V X D tc cc own nL (pc + 1) L (.int x.toInt8.toInt32 :: st) ws) : V X D tc cc own nL pc L (.int x :: st) ws := by
  intro F H locs ls hP hD hS hl
  exact lv_i2b F.1 F.2.1 hd rfl (k F H locs ls hP hD hS hl)
theorem V_i2s {x : Int32} (hd : decode cc pc = .ok (.i2s, 1)) (k : V X D tc cc own nL (pc + 1) L (.int x.toInt16.toInt32 :: st) ws) : V X D tc cc own nL pc L (.int x :: st) ws := by
  intro F H locs ls hP hD hS hl
  exact lv_i2s F.1 F.2.1 hd rfl (k F H locs ls hP hD hS hl)
theorem V_dupi {x : Int32} (hd : decode cc pc = .ok (.dup, 1)) (k : V X D tc cc own nL (pc + 1) L (.int x :: .int x :: st) ws) : V X D tc cc own nL pc L (.int x :: st) ws := by
  intro F H locs ls hP hD hS hl
  exact lv_dup F.1 F.2.1 hd rfl (k F H locs ls hP hD hS hl)
theorem V_dupa {x : Nat} (hd : decode cc pc = .ok (.dup, 1)) (k : V X D tc cc own nL (pc + 1) L (.ref x :: .ref x :: st) ws) : V X D tc cc own nL pc L (.ref x :: st) ws := by
  intro F H locs ls hP hD hS hl
  exact lv_dup F.1 F.2.1 hd rfl (k F H locs ls hP hD hS hl)
theorem V_popi {x : Int32} (hd : decode cc pc = .ok (.pop, 1)) (k : V X D tc cc own nL (pc + 1) L (st) ws) : V X D tc cc own nL pc L (.int x :: st) ws := by
  intro F H locs ls hP hD hS hl
  exact lv_pop F.1 F.2.1 hd rfl (k F H locs ls hP hD hS hl)
theorem V_dup2 {x : Int32} {a : Nat} (hd : decode cc pc = .ok (.dup2, 1)) (k : V X D tc cc own nL (pc + 1) L (.int x :: .ref a :: .int x :: .ref a :: st) ws) : V X D tc cc own nL pc L (.int x :: .ref a :: st) ws := by
  intro F H locs ls hP hD hS hl
  exact lv_dup2_11 F.1 F.2.1 hd rfl rfl (k F H locs ls hP hD hS hl)
theorem V_iloadG {i : Nat} {x : Int32} (hd : decode cc pc = .ok (.iload i, 2)) (hg : lget L i = some (.int x)) (k : V X D tc cc own nL (pc + 2) L (.int x :: st) ws) : V X D tc cc own nL pc L st ws := by
  intro F H locs ls hP hD hS hl
  exact lv_iload F.1 F.2.1 hd (hl.2.2 _ _ hg) (k F H locs ls hP hD hS hl)
theorem V_iloadnG {i : Fin 4} {x : Int32} (hd : decode cc pc = .ok (.iload_n i, 1)) (hg : lget L i = some (.int x)) (k : V X D tc cc own nL (pc + 1) L (.int x :: st) ws) : V X D tc cc own nL pc L st ws := by
  intro F H locs ls hP hD hS hl
  exact lv_iload_n F.1 F.2.1 hd rfl (hl.2.2 _ _ hg) (k F H locs ls hP hD hS hl)
theorem V_aloadG {i : Nat} {x : Nat} (hd : decode cc pc = .ok (.aload i, 2)) (hg : lget L i = some (.ref x)) (k : V X D tc cc own nL (pc + 2) L (.ref x :: st) ws) : V X D tc cc own nL pc L st ws := by
  intro F H locs ls hP hD hS hl
  exact lv_aload F.1 F.2.1 hd (hl.2.2 _ _ hg) (k F H locs ls hP hD hS hl)
theorem V_aloadnG {i : Fin 4} {x : Nat} (hd : decode cc pc = .ok (.aload_n i, 1)) (hg : lget L i = some (.ref x)) (k : V X D tc cc own nL (pc + 1) L (.ref x :: st) ws) : V X D tc cc own nL pc L st ws := by
  intro F H locs ls hP hD hS hl
  exact lv_aload_n F.1 F.2.1 hd rfl (hl.2.2 _ _ hg) (k F H locs ls hP hD hS hl)
theorem V_istoreG {i : Nat} {x : Int32} (hd : decode cc pc = .ok (.istore i, 2)) (hf : lflat L = true) (hn : i < nL) (k : V X D tc cc own nL (pc + 2) (lset L i (.int x)) st ws) : V X D tc cc own nL pc L (.int x :: st) ws := by
  intro F H locs ls hP hD hS hl
  exact lv_istore F.1 F.2.1 hd hl.has hn rfl (fun ls' hl' => k F H locs ls' hP hD hS (lvH.store hf hl'))
theorem V_istorenG {i : Fin 4} {x : Int32} (hd : decode cc pc = .ok (.istore_n i, 1)) (hf : lflat L = true) (hn : (i : Nat) < nL) (k : V X D tc cc own nL (pc + 1) (lset L i (.int x)) st ws) : V X D tc cc own nL pc L (.int x :: st) ws := by
  intro F H locs ls hP hD hS hl
  exact lv_istore_n F.1 F.2.1 hd rfl hl.has hn rfl (fun ls' hl' => k F H locs ls' hP hD hS (lvH.store hf hl'))
theorem V_astoreG {i : Nat} {x : Nat} (hd : decode cc pc = .ok (.astore i, 2)) (hf : lflat L = true) (hn : i < nL) (k : V X D tc cc own nL (pc + 2) (lset L i (.ref x)) st ws) : V X D tc cc own nL pc L (.ref x :: st) ws := by
  intro F H locs ls hP hD hS hl
  exact lv_astore F.1 F.2.1 hd hl.has hn rfl (fun ls' hl' => k F H locs ls' hP hD hS (lvH.store hf hl'))
theorem V_astorenG {i : Fin 4} {x : Nat} (hd : decode cc pc = .ok (.astore_n i, 1)) (hf : lflat L = true) (hn : (i : Nat) < nL) (k : V X D tc cc own nL (pc + 1) (lset L i (.ref x)) st ws) : V X D tc cc own nL pc L (.ref x :: st) ws := by
  intro F H locs ls hP hD hS hl
  exact lv_astore_n F.1 F.2.1 hd rfl hl.has hn rfl (fun ls' hl' => k F H locs ls' hP hD hS (lvH.store hf hl'))
theorem V_astoreNG {i : Nat} (hd : decode cc pc = .ok (.astore i, 2)) (hf : lflat L = true) (hn : i < nL) (k : V X D tc cc own nL (pc + 2) (lset L i .null) st ws) : V X D tc cc own nL pc L (.null :: st) ws := by
  intro F H locs ls hP hD hS hl
  exact lv_astoreN F.1 F.2.1 hd hl.has hn rfl (fun ls' hl' => k F H locs ls' hP hD hS (lvH.store hf hl'))
theorem V_astorenNG {i : Fin 4} (hd : decode cc pc = .ok (.astore_n i, 1)) (hf : lflat L = true) (hn : (i : Nat) < nL) (k : V X D tc cc own nL (pc + 1) (lset L i .null) st ws) : V X D tc cc own nL pc L (.null :: st) ws := by
  intro F H locs ls hP hD hS hl
  exact lv_astore_nN F.1 F.2.1 hd rfl hl.has hn rfl (fun ls' hl' => k F H locs ls' hP hD hS (lvH.store hf hl'))
theorem V_aloadNG {i : Nat} (hd : decode cc pc = .ok (.aload i, 2)) (hg : lget L i = some .null) (k : V X D tc cc own nL (pc + 2) L (.null :: st) ws) : V X D tc cc own nL pc L st ws := by
  intro F H locs ls hP hD hS hl
  exact lv_aloadN F.1 F.2.1 hd (hl.2.2 _ _ hg) (k F H locs ls hP hD hS hl)
theorem V_aloadnNG {i : Fin 4} (hd : decode cc pc = .ok (.aload_n i, 1)) (hg : lget L i = some .null) (k : V X D tc cc own nL (pc + 1) L (.null :: st) ws) : V X D tc cc own nL pc L st ws := by
  intro F H locs ls hP hD hS hl
  exact lv_aload_nN F.1 F.2.1 hd rfl (hl.2.2 _ _ hg) (k F H locs ls hP hD hS hl)
theorem lget_pos {L : List (Option Value)} : ∀ (i : Nat) {v : Value}, lget L i = some v → ∃ k : Nat, (lvp 0 L)[k]? = some (i, v) := fun i v h => List.getElem?_of_mem (by have := (lvp_mem L 0 i v).mpr h; simpa using this)
theorem V_iincG {i : Nat} {n : Int} {x : Int32} (v : Int32) (hd : decode cc pc = .ok (.iinc i n, 3)) (hg : lget L i = some (.int x)) (hv : x + Int32.ofInt n = v) (hf : lflat L = true) (hn : i < nL) (k : V X D tc cc own nL (pc + 3) (lset L i (.int v)) st ws) : V X D tc cc own nL pc L st ws := by
  intro F H locs ls hP hD hS hl
  obtain ⟨q, hq⟩ := lget_pos i hg
  exact lv_iinc F.1 F.2.1 hd hl.has hq hv hn rfl (fun ls' hl' => k F H locs ls' hP hD hS (lvH.store hf hl'))
theorem V_goto {off : Int} (tgt : Nat) (hd : decode cc pc = .ok (.goto off, 3)) (ht : (pc : Int) + off = (tgt : Int)) (k : V X D tc cc own nL tgt L st ws) : V X D tc cc own nL pc L st ws := by
  intro F H locs ls hP hD hS hl
  exact lv_goto F.1 F.2.1 hd ht (k F H locs ls hP hD hS hl)
theorem V_if_eq {x : Int32} {off : Int} (tgt : Nat) (hd : decode cc pc = .ok (.ifCond .eq off, 3)) (ht : (pc : Int) + off = (tgt : Int)) (kt : x = 0 → V X D tc cc own nL tgt L st ws) (kf : ¬ x = 0 → V X D tc cc own nL (pc + 3) L st ws) : V X D tc cc own nL pc L (.int x :: st) ws := by
  intro F H locs ls hP hD hS hl
  exact lv_if_eq F.1 F.2.1 hd ht (fun h => kt h F H locs ls hP hD hS hl) (fun h => kf h F H locs ls hP hD hS hl)
theorem V_icmp_eq {x y : Int32} {off : Int} (tgt : Nat) (hd : decode cc pc = .ok (.if_icmp .eq off, 3)) (ht : (pc : Int) + off = (tgt : Int)) (kt : x = y → V X D tc cc own nL tgt L st ws) (kf : ¬ x = y → V X D tc cc own nL (pc + 3) L st ws) : V X D tc cc own nL pc L (.int y :: .int x :: st) ws := by
  intro F H locs ls hP hD hS hl
  exact lv_icmp_eq F.1 F.2.1 hd ht (fun h => kt h F H locs ls hP hD hS hl) (fun h => kf h F H locs ls hP hD hS hl)
theorem V_if_ne {x : Int32} {off : Int} (tgt : Nat) (hd : decode cc pc = .ok (.ifCond .ne off, 3)) (ht : (pc : Int) + off = (tgt : Int)) (kt : ¬ x = 0 → V X D tc cc own nL tgt L st ws) (kf : x = 0 → V X D tc cc own nL (pc + 3) L st ws) : V X D tc cc own nL pc L (.int x :: st) ws := by
  intro F H locs ls hP hD hS hl
  exact lv_if_ne F.1 F.2.1 hd ht (fun h => kt h F H locs ls hP hD hS hl) (fun h => kf h F H locs ls hP hD hS hl)
theorem V_icmp_ne {x y : Int32} {off : Int} (tgt : Nat) (hd : decode cc pc = .ok (.if_icmp .ne off, 3)) (ht : (pc : Int) + off = (tgt : Int)) (kt : ¬ x = y → V X D tc cc own nL tgt L st ws) (kf : x = y → V X D tc cc own nL (pc + 3) L st ws) : V X D tc cc own nL pc L (.int y :: .int x :: st) ws := by
  intro F H locs ls hP hD hS hl
  exact lv_icmp_ne F.1 F.2.1 hd ht (fun h => kt h F H locs ls hP hD hS hl) (fun h => kf h F H locs ls hP hD hS hl)
theorem V_if_lt {x : Int32} {off : Int} (tgt : Nat) (hd : decode cc pc = .ok (.ifCond .lt off, 3)) (ht : (pc : Int) + off = (tgt : Int)) (kt : x < 0 → V X D tc cc own nL tgt L st ws) (kf : ¬ x < 0 → V X D tc cc own nL (pc + 3) L st ws) : V X D tc cc own nL pc L (.int x :: st) ws := by
  intro F H locs ls hP hD hS hl
  exact lv_if_lt F.1 F.2.1 hd ht (fun h => kt h F H locs ls hP hD hS hl) (fun h => kf h F H locs ls hP hD hS hl)
theorem V_icmp_lt {x y : Int32} {off : Int} (tgt : Nat) (hd : decode cc pc = .ok (.if_icmp .lt off, 3)) (ht : (pc : Int) + off = (tgt : Int)) (kt : x < y → V X D tc cc own nL tgt L st ws) (kf : ¬ x < y → V X D tc cc own nL (pc + 3) L st ws) : V X D tc cc own nL pc L (.int y :: .int x :: st) ws := by
  intro F H locs ls hP hD hS hl
  exact lv_icmp_lt F.1 F.2.1 hd ht (fun h => kt h F H locs ls hP hD hS hl) (fun h => kf h F H locs ls hP hD hS hl)
theorem V_if_ge {x : Int32} {off : Int} (tgt : Nat) (hd : decode cc pc = .ok (.ifCond .ge off, 3)) (ht : (pc : Int) + off = (tgt : Int)) (kt : 0 ≤ x → V X D tc cc own nL tgt L st ws) (kf : ¬ 0 ≤ x → V X D tc cc own nL (pc + 3) L st ws) : V X D tc cc own nL pc L (.int x :: st) ws := by
  intro F H locs ls hP hD hS hl
  exact lv_if_ge F.1 F.2.1 hd ht (fun h => kt h F H locs ls hP hD hS hl) (fun h => kf h F H locs ls hP hD hS hl)
theorem V_icmp_ge {x y : Int32} {off : Int} (tgt : Nat) (hd : decode cc pc = .ok (.if_icmp .ge off, 3)) (ht : (pc : Int) + off = (tgt : Int)) (kt : y ≤ x → V X D tc cc own nL tgt L st ws) (kf : ¬ y ≤ x → V X D tc cc own nL (pc + 3) L st ws) : V X D tc cc own nL pc L (.int y :: .int x :: st) ws := by
  intro F H locs ls hP hD hS hl
  exact lv_icmp_ge F.1 F.2.1 hd ht (fun h => kt h F H locs ls hP hD hS hl) (fun h => kf h F H locs ls hP hD hS hl)
theorem V_if_gt {x : Int32} {off : Int} (tgt : Nat) (hd : decode cc pc = .ok (.ifCond .gt off, 3)) (ht : (pc : Int) + off = (tgt : Int)) (kt : 0 < x → V X D tc cc own nL tgt L st ws) (kf : ¬ 0 < x → V X D tc cc own nL (pc + 3) L st ws) : V X D tc cc own nL pc L (.int x :: st) ws := by
  intro F H locs ls hP hD hS hl
  exact lv_if_gt F.1 F.2.1 hd ht (fun h => kt h F H locs ls hP hD hS hl) (fun h => kf h F H locs ls hP hD hS hl)
theorem V_icmp_gt {x y : Int32} {off : Int} (tgt : Nat) (hd : decode cc pc = .ok (.if_icmp .gt off, 3)) (ht : (pc : Int) + off = (tgt : Int)) (kt : y < x → V X D tc cc own nL tgt L st ws) (kf : ¬ y < x → V X D tc cc own nL (pc + 3) L st ws) : V X D tc cc own nL pc L (.int y :: .int x :: st) ws := by
  intro F H locs ls hP hD hS hl
  exact lv_icmp_gt F.1 F.2.1 hd ht (fun h => kt h F H locs ls hP hD hS hl) (fun h => kf h F H locs ls hP hD hS hl)
theorem V_if_le {x : Int32} {off : Int} (tgt : Nat) (hd : decode cc pc = .ok (.ifCond .le off, 3)) (ht : (pc : Int) + off = (tgt : Int)) (kt : x ≤ 0 → V X D tc cc own nL tgt L st ws) (kf : ¬ x ≤ 0 → V X D tc cc own nL (pc + 3) L st ws) : V X D tc cc own nL pc L (.int x :: st) ws := by
  intro F H locs ls hP hD hS hl
  exact lv_if_le F.1 F.2.1 hd ht (fun h => kt h F H locs ls hP hD hS hl) (fun h => kf h F H locs ls hP hD hS hl)
theorem V_icmp_le {x y : Int32} {off : Int} (tgt : Nat) (hd : decode cc pc = .ok (.if_icmp .le off, 3)) (ht : (pc : Int) + off = (tgt : Int)) (kt : x ≤ y → V X D tc cc own nL tgt L st ws) (kf : ¬ x ≤ y → V X D tc cc own nL (pc + 3) L st ws) : V X D tc cc own nL pc L (.int y :: .int x :: st) ws := by
  intro F H locs ls hP hD hS hl
  exact lv_icmp_le F.1 F.2.1 hd ht (fun h => kt h F H locs ls hP hD hS hl) (fun h => kf h F H locs ls hP hD hS hl)
theorem V_ifnonnull {x : Nat} {off : Int} (tgt : Nat) (hd : decode cc pc = .ok (.ifnonnull off, 3)) (ht : (pc : Int) + off = (tgt : Int)) (k : V X D tc cc own nL tgt L st ws) : V X D tc cc own nL pc L (.ref x :: st) ws := by
  intro F H locs ls hP hD hS hl
  exact lv_ifnonnull F.1 F.2.1 hd ht (k F H locs ls hP hD hS hl)
theorem V_ifnonnullN {off : Int} (hd : decode cc pc = .ok (.ifnonnull off, 3)) (k : V X D tc cc own nL (pc + 3) L st ws) : V X D tc cc own nL pc L (.null :: st) ws := by
  intro F H locs ls hP hD hS hl
  exact lv_ifnonnullN F.1 F.2.1 hd (k F H locs ls hP hD hS hl)
theorem V_ifnull {x : Nat} {off : Int} (hd : decode cc pc = .ok (.ifnull off, 3)) (k : V X D tc cc own nL (pc + 3) L st ws) : V X D tc cc own nL pc L (.ref x :: st) ws := by
  intro F H locs ls hP hD hS hl
  exact lv_ifnull F.1 F.2.1 hd (k F H locs ls hP hD hS hl)
theorem V_ifnullN {off : Int} (tgt : Nat) (hd : decode cc pc = .ok (.ifnull off, 3)) (ht : (pc : Int) + off = (tgt : Int)) (k : V X D tc cc own nL tgt L st ws) : V X D tc cc own nL pc L (.null :: st) ws := by
  intro F H locs ls hP hD hS hl
  exact lv_ifnullN F.1 F.2.1 hd ht (k F H locs ls hP hD hS hl)
theorem V_tableOut {dflt lo hi : Int} {offs : Array Int} {len : Nat} {x : Int32} (tgt : Nat) (hd : decode cc pc = .ok (.tableswitch dflt lo hi offs, len)) (h : x.toInt < lo ∨ hi < x.toInt) (ht : (pc : Int) + dflt = (tgt : Int)) (k : V X D tc cc own nL tgt L st ws) : V X D tc cc own nL pc L (.int x :: st) ws := by
  intro F H locs ls hP hD hS hl
  exact lv_tableOut F.1 F.2.1 hd h ht (k F H locs ls hP hD hS hl)
theorem V_tableIn {dflt lo hi : Int} {offs : Array Int} {len : Nat} {x : Int32} {off : Int} (tgt : Nat) (hd : decode cc pc = .ok (.tableswitch dflt lo hi offs, len)) (h1 : ¬ x.toInt < lo) (h2 : ¬ hi < x.toInt) (ho : offs[(x.toInt - lo).toNat]? = some off) (ht : (pc : Int) + off = (tgt : Int)) (k : V X D tc cc own nL tgt L st ws) : V X D tc cc own nL pc L (.int x :: st) ws := by
  intro F H locs ls hP hD hS hl
  exact lv_tableIn F.1 F.2.1 hd h1 h2 ho ht (k F H locs ls hP hD hS hl)
theorem V_lookup {dflt : Int} {ps : Array (Int × Int)} {len : Nat} {x : Int32} {off : Int} (tgt : Nat) (hd : decode cc pc = .ok (.lookupswitch dflt ps, len)) (hp : (ps.toList.zip (ps.toList.drop 1)).all (fun (a, next) => a.1 < next.1) = true) (ho : Op.lookupswitch.offset ps.toList dflt x.toInt = off) (ht : (pc : Int) + off = (tgt : Int)) (k : V X D tc cc own nL tgt L st ws) : V X D tc cc own nL pc L (.int x :: st) ws := by
  intro F H locs ls hP hD hS hl
  exact lv_lookup F.1 F.2.1 hd hp ho ht (k F H locs ls hP hD hS hl)
theorem V_ldc2 {index : Nat} (v : Int64) (hc : Cond.constantLong own index v ∈ bigW) (hd : decode cc pc = .ok (.ldc2_w index, 3)) (k : V X D tc cc own nL (pc + 3) L (.long v :: st) ws) : V X D tc cc own nL pc L st ws := by
  intro F H locs ls hP hD hS hl
  exact lv_ldc2 F.1 F.2.1 F.2.2.2.1 (F.2.2.2.2.1 _ hc) hd (k F H locs ls hP hD hS hl)
theorem V_ldcw {index : Nat} (v : Int32) (hc : Cond.constant own index v ∈ bigW) (hd : decode cc pc = .ok (.ldc_w index, 3)) (k : V X D tc cc own nL (pc + 3) L (.int v :: st) ws) : V X D tc cc own nL pc L st ws := by
  intro F H locs ls hP hD hS hl
  exact lv_ldcw F.1 F.2.1 F.2.2.2.1 (F.2.2.2.2.1 _ hc) hd (k F H locs ls hP hD hS hl)
theorem V_lcmp {x y : Int64} (hd : decode cc pc = .ok (.lcmp, 1)) (k : V X D tc cc own nL (pc + 1) L (.int (lg_cmp x y) :: st) ws) : V X D tc cc own nL pc L (.long y :: .long x :: st) ws := by
  intro F H locs ls hP hD hS hl
  exact W.lcmp F.1 F.2.1 hd (k F H locs ls hP hD hS hl)
/-- a field's link: the words that a read of field k of class ci at this constant needs -/
def LinkF (own : String) (idx : Nat) (C : String) (T : u_T) (N ci k : Nat) : Prop := vwCl[ci]? = some (C, T, N) ∧ k < N ∧ (∀ w ∈ u_ws C T N, w ∈ bigW) ∧ Cond.fieldLink own idx (T k).1 (T k).2.1 (T k).2.2.1 ∈ bigW
/-- and a write of an int field -/
def LinkP (own : String) (idx : Nat) (C : String) (T : u_T) (N ci k : Nat) : Prop := LinkF own idx C T N ci k ∧ (T k).2.2.2 = false ∧ parseFieldDescriptor (T k).2.2.1 = some .int ∧ (∀ a, a < N → ∀ b, b < N → a ≠ b → (T a).2.1 ≠ (T b).2.1) ∧ ∃ ty0 : Nat → FieldType, ∀ k, k < N → parseFieldDescriptor (T k).2.2.1 = some (ty0 k)
theorem V_get {idx ci k : Nat} {C : String} {T : u_T} {N a : Nat} {fs : List Value} {v : Value} (hl : LinkF own idx C T N ci k) (hd : decode cc pc = .ok (.getfield idx, 3)) {q0 : Nat} (he : ws[q0]? = some (a, .inr (ci, fs))) (hv : fs[k]? = some v) (kk : V X D tc cc own nL (pc + 3) L (v :: st) ws) : V X D tc cc own nL pc L (.ref a :: st) ws := by
  intro F H locs ls hP hD hS hlv
  exact va_get F.1 F.2.1 F.2.2.2.2.1 hl.2.2.1 F.2.2.2.1 F.2.2.2.2.2.1 hP q0 he hl.1 k hl.2.1 (F.2.2.2.2.1 _ hl.2.2.2) (fun _ h9 => h9) hv hd (kk F H locs ls hP hD hS hlv)
theorem V_puti {idx ci k : Nat} {C : String} {T : u_T} {N a : Nat} {fs : List Value} {v : Int32} (hl : LinkP own idx C T N ci k) (hd : decode cc pc = .ok (.putfield idx, 3)) {q0 : Nat} (he : ws[q0]? = some (a, .inr (ci, fs))) (hk : k < fs.length) {ws' : va_W} (hw : ws.set q0 (a, .inr (ci, fs.set k (.int v))) = ws') (kk : V X D tc cc own nL (pc + 3) L st ws') : V X D tc cc own nL pc L (.int v :: .ref a :: st) ws := by
  intro F H locs ls hP hD hS hlv
  obtain ⟨hf, hfin, hty, hnm, ty0, ht0⟩ := hl
  exact va_put F.1 F.2.1 F.2.2.2.2.1 hf.2.2.1 ty0 ht0 hnm F.2.2.2.1 F.2.2.2.2.2.1 hP hD hS q0 he hf.1 k hf.2.1 (F.2.2.2.2.1 _ hf.2.2.2) (fun _ h9 => h9) hfin hty rfl rfl hk hd (fun H1 locs1 hP1 hD1 hS1 => kk F H1 locs1 ls (hw ▸ hP1) (hw ▸ hD1) hS1 hlv)
theorem V_iald {a n : Nat} {f : Nat → Int32} {i : Int32} (hd : decode cc pc = .ok (.iaload, 1)) {q0 : Nat} (he : ws[q0]? = some (a, .inl (tc.1, n, .inl f))) (hin : vp_in i n) (kk : V X D tc cc own nL (pc + 1) L (.int (f i.toNatClampNeg) :: st) ws) : V X D tc cc own nL pc L (.int i :: .ref a :: st) ws := by
  intro F H locs ls hP hD hS hlv
  exact va_iald F.1 F.2.1 F.2.2.2.2.2.1 hP q0 0 he rfl hin hd (kk F H locs ls hP hD hS hlv)
theorem V_zald {a n : Nat} {f : Nat → Int32} {i : Int32} (hd : decode cc pc = .ok (.baload, 1)) {q0 : Nat} (he : ws[q0]? = some (a, .inl (tc.2.1, n, .inl f))) (hin : vp_in i n) (kk : V X D tc cc own nL (pc + 1) L (.int (f i.toNatClampNeg) :: st) ws) : V X D tc cc own nL pc L (.int i :: .ref a :: st) ws := by
  intro F H locs ls hP hD hS hlv
  exact va_zald F.1 F.2.1 F.2.2.2.2.2.1 hP q0 1 he rfl hin hd (kk F H locs ls hP hD hS hlv)
theorem V_aald {a n b : Nat} {f : Nat → Option Nat} {i : Int32} (hd : decode cc pc = .ok (.aaload, 1)) {q0 : Nat} (he : ws[q0]? = some (a, .inl (tc.2.2, n, .inr (.inr (.inr (.inr f)))))) (hin : vp_in i n) (hb : f i.toNatClampNeg = some b) (kk : V X D tc cc own nL (pc + 1) L (.ref b :: st) ws) : V X D tc cc own nL pc L (.int i :: .ref a :: st) ws := by
  intro F H locs ls hP hD hS hlv
  refine va_aldq F.1 F.2.1 F.2.2.2.2.2.1 hP q0 2 he rfl hin hd ?_
  rw [hb]
  exact kk F H locs ls hP hD hS hlv
theorem V_alen {a n : Nat} {f : Nat → Int32} (hd : decode cc pc = .ok (.arraylength, 1)) {q0 : Nat} (he : ws[q0]? = some (a, .inl (tc.1, n, .inl f))) (kk : V X D tc cc own nL (pc + 1) L (.int (nI n) :: st) ws) : V X D tc cc own nL pc L (.ref a :: st) ws := by
  intro F H locs ls hP hD hS hlv
  exact va_alen F.1 F.2.1 F.2.2.2.2.2.1 hP q0 0 he rfl rfl hd (kk F H locs ls hP hD hS hlv)
theorem V_alenS {a n : Nat} {f : Nat → Option Nat} (hd : decode cc pc = .ok (.arraylength, 1)) {q0 : Nat} (he : ws[q0]? = some (a, .inl (tc.2.2, n, .inr (.inr (.inr (.inr f)))))) (kk : V X D tc cc own nL (pc + 1) L (.int (nI n) :: st) ws) : V X D tc cc own nL pc L (.ref a :: st) ws := by
  intro F H locs ls hP hD hS hlv
  exact va_alen F.1 F.2.1 F.2.2.2.2.2.1 hP q0 2 he rfl rfl hd (kk F H locs ls hP hD hS hlv)
theorem V_iast {a n : Nat} {f : Nat → Int32} {i x : Int32} (hd : decode cc pc = .ok (.iastore, 1)) {q0 : Nat} (he : ws[q0]? = some (a, .inl (tc.1, n, .inl f))) (hin : vp_in i n) {ws' : va_W} (hw : ws.set q0 (a, .inl (tc.1, n, .inl (upd f i.toNatClampNeg x))) = ws') (kk : V X D tc cc own nL (pc + 1) L st ws') : V X D tc cc own nL pc L (.int x :: .int i :: .ref a :: st) ws := by
  intro F H locs ls hP hD hS hlv
  exact va_iast F.1 F.2.1 F.2.2.2.2.2.1 hP hD hS q0 0 he rfl hin hd (fun H1 locs1 hP1 hD1 hS1 => kk F H1 locs1 ls (hw ▸ hP1) (hw ▸ hD1) hS1 hlv)
theorem V_zast {a n : Nat} {f : Nat → Int32} {i x : Int32} (hd : decode cc pc = .ok (.bastore, 1)) {q0 : Nat} (he : ws[q0]? = some (a, .inl (tc.2.1, n, .inl f))) (hin : vp_in i n) {ws' : va_W} (hw : ws.set q0 (a, .inl (tc.2.1, n, .inl (upd f i.toNatClampNeg (vp_nar .boolean x)))) = ws') (kk : V X D tc cc own nL (pc + 1) L st ws') : V X D tc cc own nL pc L (.int x :: .int i :: .ref a :: st) ws := by
  intro F H locs ls hP hD hS hlv
  exact va_zast F.1 F.2.1 F.2.2.2.2.2.1 hP hD hS q0 1 he rfl hin hd (fun H1 locs1 hP1 hD1 hS1 => kk F H1 locs1 ls (hw ▸ hP1) (hw ▸ hD1) hS1 hlv)
theorem V_copy {index a0 a n0 n1 : Nat} {f g : Nat → Int32} {sp dp n : Int32} (hm : Cond.methodLink own index arraycopyName ∈ bigW) (hm2 : Cond.native arraycopyName ∈ bigW ∧ Cond.static arraycopyName ∈ bigW ∧ Cond.initialized "java/lang/System" ∈ bigW) (hdep : 1 ≤ X.2.2.2.1) (hroom : (st.map fun v => v.category).sum + (nativeFrameWords "java/lang/System" "arraycopy" 5 + 11) ≤ 35) (hd : decode cc pc = .ok (.invokestatic index, 3)) {q0 q1 : Nat} (he0 : ws[q0]? = some (a0, .inl (tc.1, n0, .inl f))) (he1 : ws[q1]? = some (a, .inl (tc.1, n1, .inl g))) (h1 : ¬ sp < 0) (h2 : ¬ dp < 0) (h3 : ¬ n < 0) (h4 : sp.toNatClampNeg + n.toNatClampNeg ≤ n0) (h5 : dp.toNatClampNeg + n.toNatClampNeg ≤ n1) {ws' : va_W} (hw : ws.set q1 (a, .inl (tc.1, n1, .inl (va_cpy f g sp.toNatClampNeg dp.toNatClampNeg n.toNatClampNeg))) = ws') (kk : V X D tc cc own nL (pc + 3) L st ws') : V X D tc cc own nL pc L (.int n :: .int dp :: .ref a :: .int sp :: .ref a0 :: st) ws := by
  intro F H locs ls hP hD hS hlv
  have hr := F.2.2.2.2.2.2.2.2.2.2.1
  exact va_copyi F.1 F.2.1 (F.2.2.1.trans hlv.1.symm) F.2.2.2.1 (F.2.2.2.2.1 _ hm) (F.2.2.2.2.1 _ hm2.1) (F.2.2.2.2.1 _ hm2.2.1) (F.2.2.2.2.1 _ hm2.2.2) F.2.2.2.2.2.1 hP hD hS q0 q1 0 0 he0 he1 rfl rfl rfl h1 h2 h3 h4 h5 (fun _ _ => rfl) (by omega) (by omega) hd (fun H1 locs1 hP1 hD1 hS1 => kk F H1 locs1 ls (hw ▸ hP1) (hw ▸ hD1) hS1 hlv)
end VROWS
section VIX
variable {X : Cx} {D : va_G} {tc : Tc} {cc : ByteArray} {own : String} {nL pc : Nat} {t : List (Option Value)} {st : List Value} {ws : va_W}
theorem V_ild0 {x : Int32} (hd : decode cc pc = .ok (.iload_n 0, 1)) (k : V X D tc cc own nL (pc + 1) (some (.int x) :: t) (.int x :: st) ws) : V X D tc cc own nL pc (some (.int x) :: t) st ws := V_iloadnG hd rfl k
theorem V_ald0 {x : Nat} (hd : decode cc pc = .ok (.aload_n 0, 1)) (k : V X D tc cc own nL (pc + 1) (some (.ref x) :: t) (.ref x :: st) ws) : V X D tc cc own nL pc (some (.ref x) :: t) st ws := V_aloadnG hd rfl k
theorem V_aldN0 (hd : decode cc pc = .ok (.aload_n 0, 1)) (k : V X D tc cc own nL (pc + 1) (some .null :: t) (.null :: st) ws) : V X D tc cc own nL pc (some .null :: t) st ws := V_aloadnNG hd rfl k
theorem V_ist0 {a0 : Option Value} {x : Int32} (hd : decode cc pc = .ok (.istore_n 0, 1)) (hf : lflat (a0 :: t) = true) (hn : 0 < nL) (k : V X D tc cc own nL (pc + 1) (some (.int x) :: t) st ws) : V X D tc cc own nL pc (a0 :: t) (.int x :: st) ws := V_istorenG hd hf hn k
theorem V_ast0 {a0 : Option Value} {x : Nat} (hd : decode cc pc = .ok (.astore_n 0, 1)) (hf : lflat (a0 :: t) = true) (hn : 0 < nL) (k : V X D tc cc own nL (pc + 1) (some (.ref x) :: t) st ws) : V X D tc cc own nL pc (a0 :: t) (.ref x :: st) ws := V_astorenG hd hf hn k
theorem V_astN0 {a0 : Option Value} (hd : decode cc pc = .ok (.astore_n 0, 1)) (hf : lflat (a0 :: t) = true) (hn : 0 < nL) (k : V X D tc cc own nL (pc + 1) (some .null :: t) st ws) : V X D tc cc own nL pc (a0 :: t) (.null :: st) ws := V_astorenNG hd hf hn k
theorem V_inc0 {n : Int} {x : Int32} (v : Int32) (hd : decode cc pc = .ok (.iinc 0 n, 3)) (hv : x + Int32.ofInt n = v) (hf : lflat (some (.int x) :: t) = true) (hn : 0 < nL) (k : V X D tc cc own nL (pc + 3) (some (.int v) :: t) st ws) : V X D tc cc own nL pc (some (.int x) :: t) st ws := V_iincG v hd rfl hv hf hn k
theorem V_ild1 {a0 : Option Value} {x : Int32} (hd : decode cc pc = .ok (.iload_n 1, 1)) (k : V X D tc cc own nL (pc + 1) (a0 :: some (.int x) :: t) (.int x :: st) ws) : V X D tc cc own nL pc (a0 :: some (.int x) :: t) st ws := V_iloadnG hd rfl k
theorem V_ald1 {a0 : Option Value} {x : Nat} (hd : decode cc pc = .ok (.aload_n 1, 1)) (k : V X D tc cc own nL (pc + 1) (a0 :: some (.ref x) :: t) (.ref x :: st) ws) : V X D tc cc own nL pc (a0 :: some (.ref x) :: t) st ws := V_aloadnG hd rfl k
theorem V_aldN1 {a0 : Option Value} (hd : decode cc pc = .ok (.aload_n 1, 1)) (k : V X D tc cc own nL (pc + 1) (a0 :: some .null :: t) (.null :: st) ws) : V X D tc cc own nL pc (a0 :: some .null :: t) st ws := V_aloadnNG hd rfl k
theorem V_ist1 {a0 a1 : Option Value} {x : Int32} (hd : decode cc pc = .ok (.istore_n 1, 1)) (hf : lflat (a0 :: a1 :: t) = true) (hn : 1 < nL) (k : V X D tc cc own nL (pc + 1) (a0 :: some (.int x) :: t) st ws) : V X D tc cc own nL pc (a0 :: a1 :: t) (.int x :: st) ws := V_istorenG hd hf hn k
theorem V_ast1 {a0 a1 : Option Value} {x : Nat} (hd : decode cc pc = .ok (.astore_n 1, 1)) (hf : lflat (a0 :: a1 :: t) = true) (hn : 1 < nL) (k : V X D tc cc own nL (pc + 1) (a0 :: some (.ref x) :: t) st ws) : V X D tc cc own nL pc (a0 :: a1 :: t) (.ref x :: st) ws := V_astorenG hd hf hn k
theorem V_astN1 {a0 a1 : Option Value} (hd : decode cc pc = .ok (.astore_n 1, 1)) (hf : lflat (a0 :: a1 :: t) = true) (hn : 1 < nL) (k : V X D tc cc own nL (pc + 1) (a0 :: some .null :: t) st ws) : V X D tc cc own nL pc (a0 :: a1 :: t) (.null :: st) ws := V_astorenNG hd hf hn k
theorem V_inc1 {a0 : Option Value} {n : Int} {x : Int32} (v : Int32) (hd : decode cc pc = .ok (.iinc 1 n, 3)) (hv : x + Int32.ofInt n = v) (hf : lflat (a0 :: some (.int x) :: t) = true) (hn : 1 < nL) (k : V X D tc cc own nL (pc + 3) (a0 :: some (.int v) :: t) st ws) : V X D tc cc own nL pc (a0 :: some (.int x) :: t) st ws := V_iincG v hd rfl hv hf hn k
theorem V_ild2 {a0 a1 : Option Value} {x : Int32} (hd : decode cc pc = .ok (.iload_n 2, 1)) (k : V X D tc cc own nL (pc + 1) (a0 :: a1 :: some (.int x) :: t) (.int x :: st) ws) : V X D tc cc own nL pc (a0 :: a1 :: some (.int x) :: t) st ws := V_iloadnG hd rfl k
theorem V_ald2 {a0 a1 : Option Value} {x : Nat} (hd : decode cc pc = .ok (.aload_n 2, 1)) (k : V X D tc cc own nL (pc + 1) (a0 :: a1 :: some (.ref x) :: t) (.ref x :: st) ws) : V X D tc cc own nL pc (a0 :: a1 :: some (.ref x) :: t) st ws := V_aloadnG hd rfl k
theorem V_aldN2 {a0 a1 : Option Value} (hd : decode cc pc = .ok (.aload_n 2, 1)) (k : V X D tc cc own nL (pc + 1) (a0 :: a1 :: some .null :: t) (.null :: st) ws) : V X D tc cc own nL pc (a0 :: a1 :: some .null :: t) st ws := V_aloadnNG hd rfl k
theorem V_ist2 {a0 a1 a2 : Option Value} {x : Int32} (hd : decode cc pc = .ok (.istore_n 2, 1)) (hf : lflat (a0 :: a1 :: a2 :: t) = true) (hn : 2 < nL) (k : V X D tc cc own nL (pc + 1) (a0 :: a1 :: some (.int x) :: t) st ws) : V X D tc cc own nL pc (a0 :: a1 :: a2 :: t) (.int x :: st) ws := V_istorenG hd hf hn k
theorem V_ast2 {a0 a1 a2 : Option Value} {x : Nat} (hd : decode cc pc = .ok (.astore_n 2, 1)) (hf : lflat (a0 :: a1 :: a2 :: t) = true) (hn : 2 < nL) (k : V X D tc cc own nL (pc + 1) (a0 :: a1 :: some (.ref x) :: t) st ws) : V X D tc cc own nL pc (a0 :: a1 :: a2 :: t) (.ref x :: st) ws := V_astorenG hd hf hn k
theorem V_astN2 {a0 a1 a2 : Option Value} (hd : decode cc pc = .ok (.astore_n 2, 1)) (hf : lflat (a0 :: a1 :: a2 :: t) = true) (hn : 2 < nL) (k : V X D tc cc own nL (pc + 1) (a0 :: a1 :: some .null :: t) st ws) : V X D tc cc own nL pc (a0 :: a1 :: a2 :: t) (.null :: st) ws := V_astorenNG hd hf hn k
theorem V_inc2 {a0 a1 : Option Value} {n : Int} {x : Int32} (v : Int32) (hd : decode cc pc = .ok (.iinc 2 n, 3)) (hv : x + Int32.ofInt n = v) (hf : lflat (a0 :: a1 :: some (.int x) :: t) = true) (hn : 2 < nL) (k : V X D tc cc own nL (pc + 3) (a0 :: a1 :: some (.int v) :: t) st ws) : V X D tc cc own nL pc (a0 :: a1 :: some (.int x) :: t) st ws := V_iincG v hd rfl hv hf hn k
theorem V_ild3 {a0 a1 a2 : Option Value} {x : Int32} (hd : decode cc pc = .ok (.iload_n 3, 1)) (k : V X D tc cc own nL (pc + 1) (a0 :: a1 :: a2 :: some (.int x) :: t) (.int x :: st) ws) : V X D tc cc own nL pc (a0 :: a1 :: a2 :: some (.int x) :: t) st ws := V_iloadnG hd rfl k
theorem V_ald3 {a0 a1 a2 : Option Value} {x : Nat} (hd : decode cc pc = .ok (.aload_n 3, 1)) (k : V X D tc cc own nL (pc + 1) (a0 :: a1 :: a2 :: some (.ref x) :: t) (.ref x :: st) ws) : V X D tc cc own nL pc (a0 :: a1 :: a2 :: some (.ref x) :: t) st ws := V_aloadnG hd rfl k
theorem V_aldN3 {a0 a1 a2 : Option Value} (hd : decode cc pc = .ok (.aload_n 3, 1)) (k : V X D tc cc own nL (pc + 1) (a0 :: a1 :: a2 :: some .null :: t) (.null :: st) ws) : V X D tc cc own nL pc (a0 :: a1 :: a2 :: some .null :: t) st ws := V_aloadnNG hd rfl k
theorem V_ist3 {a0 a1 a2 a3 : Option Value} {x : Int32} (hd : decode cc pc = .ok (.istore_n 3, 1)) (hf : lflat (a0 :: a1 :: a2 :: a3 :: t) = true) (hn : 3 < nL) (k : V X D tc cc own nL (pc + 1) (a0 :: a1 :: a2 :: some (.int x) :: t) st ws) : V X D tc cc own nL pc (a0 :: a1 :: a2 :: a3 :: t) (.int x :: st) ws := V_istorenG hd hf hn k
theorem V_ast3 {a0 a1 a2 a3 : Option Value} {x : Nat} (hd : decode cc pc = .ok (.astore_n 3, 1)) (hf : lflat (a0 :: a1 :: a2 :: a3 :: t) = true) (hn : 3 < nL) (k : V X D tc cc own nL (pc + 1) (a0 :: a1 :: a2 :: some (.ref x) :: t) st ws) : V X D tc cc own nL pc (a0 :: a1 :: a2 :: a3 :: t) (.ref x :: st) ws := V_astorenG hd hf hn k
theorem V_astN3 {a0 a1 a2 a3 : Option Value} (hd : decode cc pc = .ok (.astore_n 3, 1)) (hf : lflat (a0 :: a1 :: a2 :: a3 :: t) = true) (hn : 3 < nL) (k : V X D tc cc own nL (pc + 1) (a0 :: a1 :: a2 :: some .null :: t) st ws) : V X D tc cc own nL pc (a0 :: a1 :: a2 :: a3 :: t) (.null :: st) ws := V_astorenNG hd hf hn k
theorem V_inc3 {a0 a1 a2 : Option Value} {n : Int} {x : Int32} (v : Int32) (hd : decode cc pc = .ok (.iinc 3 n, 3)) (hv : x + Int32.ofInt n = v) (hf : lflat (a0 :: a1 :: a2 :: some (.int x) :: t) = true) (hn : 3 < nL) (k : V X D tc cc own nL (pc + 3) (a0 :: a1 :: a2 :: some (.int v) :: t) st ws) : V X D tc cc own nL pc (a0 :: a1 :: a2 :: some (.int x) :: t) st ws := V_iincG v hd rfl hv hf hn k
theorem V_ild4 {a0 a1 a2 a3 : Option Value} {x : Int32} (hd : decode cc pc = .ok (.iload 4, 2)) (k : V X D tc cc own nL (pc + 2) (a0 :: a1 :: a2 :: a3 :: some (.int x) :: t) (.int x :: st) ws) : V X D tc cc own nL pc (a0 :: a1 :: a2 :: a3 :: some (.int x) :: t) st ws := V_iloadG hd rfl k
theorem V_ald4 {a0 a1 a2 a3 : Option Value} {x : Nat} (hd : decode cc pc = .ok (.aload 4, 2)) (k : V X D tc cc own nL (pc + 2) (a0 :: a1 :: a2 :: a3 :: some (.ref x) :: t) (.ref x :: st) ws) : V X D tc cc own nL pc (a0 :: a1 :: a2 :: a3 :: some (.ref x) :: t) st ws := V_aloadG hd rfl k
theorem V_aldN4 {a0 a1 a2 a3 : Option Value} (hd : decode cc pc = .ok (.aload 4, 2)) (k : V X D tc cc own nL (pc + 2) (a0 :: a1 :: a2 :: a3 :: some .null :: t) (.null :: st) ws) : V X D tc cc own nL pc (a0 :: a1 :: a2 :: a3 :: some .null :: t) st ws := V_aloadNG hd rfl k
theorem V_ist4 {a0 a1 a2 a3 a4 : Option Value} {x : Int32} (hd : decode cc pc = .ok (.istore 4, 2)) (hf : lflat (a0 :: a1 :: a2 :: a3 :: a4 :: t) = true) (hn : 4 < nL) (k : V X D tc cc own nL (pc + 2) (a0 :: a1 :: a2 :: a3 :: some (.int x) :: t) st ws) : V X D tc cc own nL pc (a0 :: a1 :: a2 :: a3 :: a4 :: t) (.int x :: st) ws := V_istoreG hd hf hn k
theorem V_ast4 {a0 a1 a2 a3 a4 : Option Value} {x : Nat} (hd : decode cc pc = .ok (.astore 4, 2)) (hf : lflat (a0 :: a1 :: a2 :: a3 :: a4 :: t) = true) (hn : 4 < nL) (k : V X D tc cc own nL (pc + 2) (a0 :: a1 :: a2 :: a3 :: some (.ref x) :: t) st ws) : V X D tc cc own nL pc (a0 :: a1 :: a2 :: a3 :: a4 :: t) (.ref x :: st) ws := V_astoreG hd hf hn k
theorem V_astN4 {a0 a1 a2 a3 a4 : Option Value} (hd : decode cc pc = .ok (.astore 4, 2)) (hf : lflat (a0 :: a1 :: a2 :: a3 :: a4 :: t) = true) (hn : 4 < nL) (k : V X D tc cc own nL (pc + 2) (a0 :: a1 :: a2 :: a3 :: some .null :: t) st ws) : V X D tc cc own nL pc (a0 :: a1 :: a2 :: a3 :: a4 :: t) (.null :: st) ws := V_astoreNG hd hf hn k
theorem V_inc4 {a0 a1 a2 a3 : Option Value} {n : Int} {x : Int32} (v : Int32) (hd : decode cc pc = .ok (.iinc 4 n, 3)) (hv : x + Int32.ofInt n = v) (hf : lflat (a0 :: a1 :: a2 :: a3 :: some (.int x) :: t) = true) (hn : 4 < nL) (k : V X D tc cc own nL (pc + 3) (a0 :: a1 :: a2 :: a3 :: some (.int v) :: t) st ws) : V X D tc cc own nL pc (a0 :: a1 :: a2 :: a3 :: some (.int x) :: t) st ws := V_iincG v hd rfl hv hf hn k
theorem V_ild5 {a0 a1 a2 a3 a4 : Option Value} {x : Int32} (hd : decode cc pc = .ok (.iload 5, 2)) (k : V X D tc cc own nL (pc + 2) (a0 :: a1 :: a2 :: a3 :: a4 :: some (.int x) :: t) (.int x :: st) ws) : V X D tc cc own nL pc (a0 :: a1 :: a2 :: a3 :: a4 :: some (.int x) :: t) st ws := V_iloadG hd rfl k
theorem V_ald5 {a0 a1 a2 a3 a4 : Option Value} {x : Nat} (hd : decode cc pc = .ok (.aload 5, 2)) (k : V X D tc cc own nL (pc + 2) (a0 :: a1 :: a2 :: a3 :: a4 :: some (.ref x) :: t) (.ref x :: st) ws) : V X D tc cc own nL pc (a0 :: a1 :: a2 :: a3 :: a4 :: some (.ref x) :: t) st ws := V_aloadG hd rfl k
theorem V_aldN5 {a0 a1 a2 a3 a4 : Option Value} (hd : decode cc pc = .ok (.aload 5, 2)) (k : V X D tc cc own nL (pc + 2) (a0 :: a1 :: a2 :: a3 :: a4 :: some .null :: t) (.null :: st) ws) : V X D tc cc own nL pc (a0 :: a1 :: a2 :: a3 :: a4 :: some .null :: t) st ws := V_aloadNG hd rfl k
theorem V_ist5 {a0 a1 a2 a3 a4 a5 : Option Value} {x : Int32} (hd : decode cc pc = .ok (.istore 5, 2)) (hf : lflat (a0 :: a1 :: a2 :: a3 :: a4 :: a5 :: t) = true) (hn : 5 < nL) (k : V X D tc cc own nL (pc + 2) (a0 :: a1 :: a2 :: a3 :: a4 :: some (.int x) :: t) st ws) : V X D tc cc own nL pc (a0 :: a1 :: a2 :: a3 :: a4 :: a5 :: t) (.int x :: st) ws := V_istoreG hd hf hn k
theorem V_ast5 {a0 a1 a2 a3 a4 a5 : Option Value} {x : Nat} (hd : decode cc pc = .ok (.astore 5, 2)) (hf : lflat (a0 :: a1 :: a2 :: a3 :: a4 :: a5 :: t) = true) (hn : 5 < nL) (k : V X D tc cc own nL (pc + 2) (a0 :: a1 :: a2 :: a3 :: a4 :: some (.ref x) :: t) st ws) : V X D tc cc own nL pc (a0 :: a1 :: a2 :: a3 :: a4 :: a5 :: t) (.ref x :: st) ws := V_astoreG hd hf hn k
theorem V_astN5 {a0 a1 a2 a3 a4 a5 : Option Value} (hd : decode cc pc = .ok (.astore 5, 2)) (hf : lflat (a0 :: a1 :: a2 :: a3 :: a4 :: a5 :: t) = true) (hn : 5 < nL) (k : V X D tc cc own nL (pc + 2) (a0 :: a1 :: a2 :: a3 :: a4 :: some .null :: t) st ws) : V X D tc cc own nL pc (a0 :: a1 :: a2 :: a3 :: a4 :: a5 :: t) (.null :: st) ws := V_astoreNG hd hf hn k
theorem V_inc5 {a0 a1 a2 a3 a4 : Option Value} {n : Int} {x : Int32} (v : Int32) (hd : decode cc pc = .ok (.iinc 5 n, 3)) (hv : x + Int32.ofInt n = v) (hf : lflat (a0 :: a1 :: a2 :: a3 :: a4 :: some (.int x) :: t) = true) (hn : 5 < nL) (k : V X D tc cc own nL (pc + 3) (a0 :: a1 :: a2 :: a3 :: a4 :: some (.int v) :: t) st ws) : V X D tc cc own nL pc (a0 :: a1 :: a2 :: a3 :: a4 :: some (.int x) :: t) st ws := V_iincG v hd rfl hv hf hn k
theorem V_ild6 {a0 a1 a2 a3 a4 a5 : Option Value} {x : Int32} (hd : decode cc pc = .ok (.iload 6, 2)) (k : V X D tc cc own nL (pc + 2) (a0 :: a1 :: a2 :: a3 :: a4 :: a5 :: some (.int x) :: t) (.int x :: st) ws) : V X D tc cc own nL pc (a0 :: a1 :: a2 :: a3 :: a4 :: a5 :: some (.int x) :: t) st ws := V_iloadG hd rfl k
theorem V_ald6 {a0 a1 a2 a3 a4 a5 : Option Value} {x : Nat} (hd : decode cc pc = .ok (.aload 6, 2)) (k : V X D tc cc own nL (pc + 2) (a0 :: a1 :: a2 :: a3 :: a4 :: a5 :: some (.ref x) :: t) (.ref x :: st) ws) : V X D tc cc own nL pc (a0 :: a1 :: a2 :: a3 :: a4 :: a5 :: some (.ref x) :: t) st ws := V_aloadG hd rfl k
theorem V_aldN6 {a0 a1 a2 a3 a4 a5 : Option Value} (hd : decode cc pc = .ok (.aload 6, 2)) (k : V X D tc cc own nL (pc + 2) (a0 :: a1 :: a2 :: a3 :: a4 :: a5 :: some .null :: t) (.null :: st) ws) : V X D tc cc own nL pc (a0 :: a1 :: a2 :: a3 :: a4 :: a5 :: some .null :: t) st ws := V_aloadNG hd rfl k
theorem V_ist6 {a0 a1 a2 a3 a4 a5 a6 : Option Value} {x : Int32} (hd : decode cc pc = .ok (.istore 6, 2)) (hf : lflat (a0 :: a1 :: a2 :: a3 :: a4 :: a5 :: a6 :: t) = true) (hn : 6 < nL) (k : V X D tc cc own nL (pc + 2) (a0 :: a1 :: a2 :: a3 :: a4 :: a5 :: some (.int x) :: t) st ws) : V X D tc cc own nL pc (a0 :: a1 :: a2 :: a3 :: a4 :: a5 :: a6 :: t) (.int x :: st) ws := V_istoreG hd hf hn k
theorem V_ast6 {a0 a1 a2 a3 a4 a5 a6 : Option Value} {x : Nat} (hd : decode cc pc = .ok (.astore 6, 2)) (hf : lflat (a0 :: a1 :: a2 :: a3 :: a4 :: a5 :: a6 :: t) = true) (hn : 6 < nL) (k : V X D tc cc own nL (pc + 2) (a0 :: a1 :: a2 :: a3 :: a4 :: a5 :: some (.ref x) :: t) st ws) : V X D tc cc own nL pc (a0 :: a1 :: a2 :: a3 :: a4 :: a5 :: a6 :: t) (.ref x :: st) ws := V_astoreG hd hf hn k
theorem V_astN6 {a0 a1 a2 a3 a4 a5 a6 : Option Value} (hd : decode cc pc = .ok (.astore 6, 2)) (hf : lflat (a0 :: a1 :: a2 :: a3 :: a4 :: a5 :: a6 :: t) = true) (hn : 6 < nL) (k : V X D tc cc own nL (pc + 2) (a0 :: a1 :: a2 :: a3 :: a4 :: a5 :: some .null :: t) st ws) : V X D tc cc own nL pc (a0 :: a1 :: a2 :: a3 :: a4 :: a5 :: a6 :: t) (.null :: st) ws := V_astoreNG hd hf hn k
theorem V_inc6 {a0 a1 a2 a3 a4 a5 : Option Value} {n : Int} {x : Int32} (v : Int32) (hd : decode cc pc = .ok (.iinc 6 n, 3)) (hv : x + Int32.ofInt n = v) (hf : lflat (a0 :: a1 :: a2 :: a3 :: a4 :: a5 :: some (.int x) :: t) = true) (hn : 6 < nL) (k : V X D tc cc own nL (pc + 3) (a0 :: a1 :: a2 :: a3 :: a4 :: a5 :: some (.int v) :: t) st ws) : V X D tc cc own nL pc (a0 :: a1 :: a2 :: a3 :: a4 :: a5 :: some (.int x) :: t) st ws := V_iincG v hd rfl hv hf hn k
theorem V_ild7 {a0 a1 a2 a3 a4 a5 a6 : Option Value} {x : Int32} (hd : decode cc pc = .ok (.iload 7, 2)) (k : V X D tc cc own nL (pc + 2) (a0 :: a1 :: a2 :: a3 :: a4 :: a5 :: a6 :: some (.int x) :: t) (.int x :: st) ws) : V X D tc cc own nL pc (a0 :: a1 :: a2 :: a3 :: a4 :: a5 :: a6 :: some (.int x) :: t) st ws := V_iloadG hd rfl k
theorem V_ald7 {a0 a1 a2 a3 a4 a5 a6 : Option Value} {x : Nat} (hd : decode cc pc = .ok (.aload 7, 2)) (k : V X D tc cc own nL (pc + 2) (a0 :: a1 :: a2 :: a3 :: a4 :: a5 :: a6 :: some (.ref x) :: t) (.ref x :: st) ws) : V X D tc cc own nL pc (a0 :: a1 :: a2 :: a3 :: a4 :: a5 :: a6 :: some (.ref x) :: t) st ws := V_aloadG hd rfl k
theorem V_aldN7 {a0 a1 a2 a3 a4 a5 a6 : Option Value} (hd : decode cc pc = .ok (.aload 7, 2)) (k : V X D tc cc own nL (pc + 2) (a0 :: a1 :: a2 :: a3 :: a4 :: a5 :: a6 :: some .null :: t) (.null :: st) ws) : V X D tc cc own nL pc (a0 :: a1 :: a2 :: a3 :: a4 :: a5 :: a6 :: some .null :: t) st ws := V_aloadNG hd rfl k
theorem V_ist7 {a0 a1 a2 a3 a4 a5 a6 a7 : Option Value} {x : Int32} (hd : decode cc pc = .ok (.istore 7, 2)) (hf : lflat (a0 :: a1 :: a2 :: a3 :: a4 :: a5 :: a6 :: a7 :: t) = true) (hn : 7 < nL) (k : V X D tc cc own nL (pc + 2) (a0 :: a1 :: a2 :: a3 :: a4 :: a5 :: a6 :: some (.int x) :: t) st ws) : V X D tc cc own nL pc (a0 :: a1 :: a2 :: a3 :: a4 :: a5 :: a6 :: a7 :: t) (.int x :: st) ws := V_istoreG hd hf hn k
theorem V_ast7 {a0 a1 a2 a3 a4 a5 a6 a7 : Option Value} {x : Nat} (hd : decode cc pc = .ok (.astore 7, 2)) (hf : lflat (a0 :: a1 :: a2 :: a3 :: a4 :: a5 :: a6 :: a7 :: t) = true) (hn : 7 < nL) (k : V X D tc cc own nL (pc + 2) (a0 :: a1 :: a2 :: a3 :: a4 :: a5 :: a6 :: some (.ref x) :: t) st ws) : V X D tc cc own nL pc (a0 :: a1 :: a2 :: a3 :: a4 :: a5 :: a6 :: a7 :: t) (.ref x :: st) ws := V_astoreG hd hf hn k
theorem V_astN7 {a0 a1 a2 a3 a4 a5 a6 a7 : Option Value} (hd : decode cc pc = .ok (.astore 7, 2)) (hf : lflat (a0 :: a1 :: a2 :: a3 :: a4 :: a5 :: a6 :: a7 :: t) = true) (hn : 7 < nL) (k : V X D tc cc own nL (pc + 2) (a0 :: a1 :: a2 :: a3 :: a4 :: a5 :: a6 :: some .null :: t) st ws) : V X D tc cc own nL pc (a0 :: a1 :: a2 :: a3 :: a4 :: a5 :: a6 :: a7 :: t) (.null :: st) ws := V_astoreNG hd hf hn k
theorem V_inc7 {a0 a1 a2 a3 a4 a5 a6 : Option Value} {n : Int} {x : Int32} (v : Int32) (hd : decode cc pc = .ok (.iinc 7 n, 3)) (hv : x + Int32.ofInt n = v) (hf : lflat (a0 :: a1 :: a2 :: a3 :: a4 :: a5 :: a6 :: some (.int x) :: t) = true) (hn : 7 < nL) (k : V X D tc cc own nL (pc + 3) (a0 :: a1 :: a2 :: a3 :: a4 :: a5 :: a6 :: some (.int v) :: t) st ws) : V X D tc cc own nL pc (a0 :: a1 :: a2 :: a3 :: a4 :: a5 :: a6 :: some (.int x) :: t) st ws := V_iincG v hd rfl hv hf hn k
theorem V_ild8 {a0 a1 a2 a3 a4 a5 a6 a7 : Option Value} {x : Int32} (hd : decode cc pc = .ok (.iload 8, 2)) (k : V X D tc cc own nL (pc + 2) (a0 :: a1 :: a2 :: a3 :: a4 :: a5 :: a6 :: a7 :: some (.int x) :: t) (.int x :: st) ws) : V X D tc cc own nL pc (a0 :: a1 :: a2 :: a3 :: a4 :: a5 :: a6 :: a7 :: some (.int x) :: t) st ws := V_iloadG hd rfl k
theorem V_ald8 {a0 a1 a2 a3 a4 a5 a6 a7 : Option Value} {x : Nat} (hd : decode cc pc = .ok (.aload 8, 2)) (k : V X D tc cc own nL (pc + 2) (a0 :: a1 :: a2 :: a3 :: a4 :: a5 :: a6 :: a7 :: some (.ref x) :: t) (.ref x :: st) ws) : V X D tc cc own nL pc (a0 :: a1 :: a2 :: a3 :: a4 :: a5 :: a6 :: a7 :: some (.ref x) :: t) st ws := V_aloadG hd rfl k
theorem V_aldN8 {a0 a1 a2 a3 a4 a5 a6 a7 : Option Value} (hd : decode cc pc = .ok (.aload 8, 2)) (k : V X D tc cc own nL (pc + 2) (a0 :: a1 :: a2 :: a3 :: a4 :: a5 :: a6 :: a7 :: some .null :: t) (.null :: st) ws) : V X D tc cc own nL pc (a0 :: a1 :: a2 :: a3 :: a4 :: a5 :: a6 :: a7 :: some .null :: t) st ws := V_aloadNG hd rfl k
theorem V_ist8 {a0 a1 a2 a3 a4 a5 a6 a7 a8 : Option Value} {x : Int32} (hd : decode cc pc = .ok (.istore 8, 2)) (hf : lflat (a0 :: a1 :: a2 :: a3 :: a4 :: a5 :: a6 :: a7 :: a8 :: t) = true) (hn : 8 < nL) (k : V X D tc cc own nL (pc + 2) (a0 :: a1 :: a2 :: a3 :: a4 :: a5 :: a6 :: a7 :: some (.int x) :: t) st ws) : V X D tc cc own nL pc (a0 :: a1 :: a2 :: a3 :: a4 :: a5 :: a6 :: a7 :: a8 :: t) (.int x :: st) ws := V_istoreG hd hf hn k
theorem V_ast8 {a0 a1 a2 a3 a4 a5 a6 a7 a8 : Option Value} {x : Nat} (hd : decode cc pc = .ok (.astore 8, 2)) (hf : lflat (a0 :: a1 :: a2 :: a3 :: a4 :: a5 :: a6 :: a7 :: a8 :: t) = true) (hn : 8 < nL) (k : V X D tc cc own nL (pc + 2) (a0 :: a1 :: a2 :: a3 :: a4 :: a5 :: a6 :: a7 :: some (.ref x) :: t) st ws) : V X D tc cc own nL pc (a0 :: a1 :: a2 :: a3 :: a4 :: a5 :: a6 :: a7 :: a8 :: t) (.ref x :: st) ws := V_astoreG hd hf hn k
theorem V_astN8 {a0 a1 a2 a3 a4 a5 a6 a7 a8 : Option Value} (hd : decode cc pc = .ok (.astore 8, 2)) (hf : lflat (a0 :: a1 :: a2 :: a3 :: a4 :: a5 :: a6 :: a7 :: a8 :: t) = true) (hn : 8 < nL) (k : V X D tc cc own nL (pc + 2) (a0 :: a1 :: a2 :: a3 :: a4 :: a5 :: a6 :: a7 :: some .null :: t) st ws) : V X D tc cc own nL pc (a0 :: a1 :: a2 :: a3 :: a4 :: a5 :: a6 :: a7 :: a8 :: t) (.null :: st) ws := V_astoreNG hd hf hn k
theorem V_inc8 {a0 a1 a2 a3 a4 a5 a6 a7 : Option Value} {n : Int} {x : Int32} (v : Int32) (hd : decode cc pc = .ok (.iinc 8 n, 3)) (hv : x + Int32.ofInt n = v) (hf : lflat (a0 :: a1 :: a2 :: a3 :: a4 :: a5 :: a6 :: a7 :: some (.int x) :: t) = true) (hn : 8 < nL) (k : V X D tc cc own nL (pc + 3) (a0 :: a1 :: a2 :: a3 :: a4 :: a5 :: a6 :: a7 :: some (.int v) :: t) st ws) : V X D tc cc own nL pc (a0 :: a1 :: a2 :: a3 :: a4 :: a5 :: a6 :: a7 :: some (.int x) :: t) st ws := V_iincG v hd rfl hv hf hn k
theorem V_ild9 {a0 a1 a2 a3 a4 a5 a6 a7 a8 : Option Value} {x : Int32} (hd : decode cc pc = .ok (.iload 9, 2)) (k : V X D tc cc own nL (pc + 2) (a0 :: a1 :: a2 :: a3 :: a4 :: a5 :: a6 :: a7 :: a8 :: some (.int x) :: t) (.int x :: st) ws) : V X D tc cc own nL pc (a0 :: a1 :: a2 :: a3 :: a4 :: a5 :: a6 :: a7 :: a8 :: some (.int x) :: t) st ws := V_iloadG hd rfl k
theorem V_ald9 {a0 a1 a2 a3 a4 a5 a6 a7 a8 : Option Value} {x : Nat} (hd : decode cc pc = .ok (.aload 9, 2)) (k : V X D tc cc own nL (pc + 2) (a0 :: a1 :: a2 :: a3 :: a4 :: a5 :: a6 :: a7 :: a8 :: some (.ref x) :: t) (.ref x :: st) ws) : V X D tc cc own nL pc (a0 :: a1 :: a2 :: a3 :: a4 :: a5 :: a6 :: a7 :: a8 :: some (.ref x) :: t) st ws := V_aloadG hd rfl k
theorem V_aldN9 {a0 a1 a2 a3 a4 a5 a6 a7 a8 : Option Value} (hd : decode cc pc = .ok (.aload 9, 2)) (k : V X D tc cc own nL (pc + 2) (a0 :: a1 :: a2 :: a3 :: a4 :: a5 :: a6 :: a7 :: a8 :: some .null :: t) (.null :: st) ws) : V X D tc cc own nL pc (a0 :: a1 :: a2 :: a3 :: a4 :: a5 :: a6 :: a7 :: a8 :: some .null :: t) st ws := V_aloadNG hd rfl k
theorem V_ist9 {a0 a1 a2 a3 a4 a5 a6 a7 a8 a9 : Option Value} {x : Int32} (hd : decode cc pc = .ok (.istore 9, 2)) (hf : lflat (a0 :: a1 :: a2 :: a3 :: a4 :: a5 :: a6 :: a7 :: a8 :: a9 :: t) = true) (hn : 9 < nL) (k : V X D tc cc own nL (pc + 2) (a0 :: a1 :: a2 :: a3 :: a4 :: a5 :: a6 :: a7 :: a8 :: some (.int x) :: t) st ws) : V X D tc cc own nL pc (a0 :: a1 :: a2 :: a3 :: a4 :: a5 :: a6 :: a7 :: a8 :: a9 :: t) (.int x :: st) ws := V_istoreG hd hf hn k
theorem V_ast9 {a0 a1 a2 a3 a4 a5 a6 a7 a8 a9 : Option Value} {x : Nat} (hd : decode cc pc = .ok (.astore 9, 2)) (hf : lflat (a0 :: a1 :: a2 :: a3 :: a4 :: a5 :: a6 :: a7 :: a8 :: a9 :: t) = true) (hn : 9 < nL) (k : V X D tc cc own nL (pc + 2) (a0 :: a1 :: a2 :: a3 :: a4 :: a5 :: a6 :: a7 :: a8 :: some (.ref x) :: t) st ws) : V X D tc cc own nL pc (a0 :: a1 :: a2 :: a3 :: a4 :: a5 :: a6 :: a7 :: a8 :: a9 :: t) (.ref x :: st) ws := V_astoreG hd hf hn k
theorem V_astN9 {a0 a1 a2 a3 a4 a5 a6 a7 a8 a9 : Option Value} (hd : decode cc pc = .ok (.astore 9, 2)) (hf : lflat (a0 :: a1 :: a2 :: a3 :: a4 :: a5 :: a6 :: a7 :: a8 :: a9 :: t) = true) (hn : 9 < nL) (k : V X D tc cc own nL (pc + 2) (a0 :: a1 :: a2 :: a3 :: a4 :: a5 :: a6 :: a7 :: a8 :: some .null :: t) st ws) : V X D tc cc own nL pc (a0 :: a1 :: a2 :: a3 :: a4 :: a5 :: a6 :: a7 :: a8 :: a9 :: t) (.null :: st) ws := V_astoreNG hd hf hn k
theorem V_inc9 {a0 a1 a2 a3 a4 a5 a6 a7 a8 : Option Value} {n : Int} {x : Int32} (v : Int32) (hd : decode cc pc = .ok (.iinc 9 n, 3)) (hv : x + Int32.ofInt n = v) (hf : lflat (a0 :: a1 :: a2 :: a3 :: a4 :: a5 :: a6 :: a7 :: a8 :: some (.int x) :: t) = true) (hn : 9 < nL) (k : V X D tc cc own nL (pc + 3) (a0 :: a1 :: a2 :: a3 :: a4 :: a5 :: a6 :: a7 :: a8 :: some (.int v) :: t) st ws) : V X D tc cc own nL pc (a0 :: a1 :: a2 :: a3 :: a4 :: a5 :: a6 :: a7 :: a8 :: some (.int x) :: t) st ws := V_iincG v hd rfl hv hf hn k
theorem V_ild10 {a0 a1 a2 a3 a4 a5 a6 a7 a8 a9 : Option Value} {x : Int32} (hd : decode cc pc = .ok (.iload 10, 2)) (k : V X D tc cc own nL (pc + 2) (a0 :: a1 :: a2 :: a3 :: a4 :: a5 :: a6 :: a7 :: a8 :: a9 :: some (.int x) :: t) (.int x :: st) ws) : V X D tc cc own nL pc (a0 :: a1 :: a2 :: a3 :: a4 :: a5 :: a6 :: a7 :: a8 :: a9 :: some (.int x) :: t) st ws := V_iloadG hd rfl k
theorem V_ald10 {a0 a1 a2 a3 a4 a5 a6 a7 a8 a9 : Option Value} {x : Nat} (hd : decode cc pc = .ok (.aload 10, 2)) (k : V X D tc cc own nL (pc + 2) (a0 :: a1 :: a2 :: a3 :: a4 :: a5 :: a6 :: a7 :: a8 :: a9 :: some (.ref x) :: t) (.ref x :: st) ws) : V X D tc cc own nL pc (a0 :: a1 :: a2 :: a3 :: a4 :: a5 :: a6 :: a7 :: a8 :: a9 :: some (.ref x) :: t) st ws := V_aloadG hd rfl k
theorem V_aldN10 {a0 a1 a2 a3 a4 a5 a6 a7 a8 a9 : Option Value} (hd : decode cc pc = .ok (.aload 10, 2)) (k : V X D tc cc own nL (pc + 2) (a0 :: a1 :: a2 :: a3 :: a4 :: a5 :: a6 :: a7 :: a8 :: a9 :: some .null :: t) (.null :: st) ws) : V X D tc cc own nL pc (a0 :: a1 :: a2 :: a3 :: a4 :: a5 :: a6 :: a7 :: a8 :: a9 :: some .null :: t) st ws := V_aloadNG hd rfl k
theorem V_ist10 {a0 a1 a2 a3 a4 a5 a6 a7 a8 a9 a10 : Option Value} {x : Int32} (hd : decode cc pc = .ok (.istore 10, 2)) (hf : lflat (a0 :: a1 :: a2 :: a3 :: a4 :: a5 :: a6 :: a7 :: a8 :: a9 :: a10 :: t) = true) (hn : 10 < nL) (k : V X D tc cc own nL (pc + 2) (a0 :: a1 :: a2 :: a3 :: a4 :: a5 :: a6 :: a7 :: a8 :: a9 :: some (.int x) :: t) st ws) : V X D tc cc own nL pc (a0 :: a1 :: a2 :: a3 :: a4 :: a5 :: a6 :: a7 :: a8 :: a9 :: a10 :: t) (.int x :: st) ws := V_istoreG hd hf hn k
theorem V_ast10 {a0 a1 a2 a3 a4 a5 a6 a7 a8 a9 a10 : Option Value} {x : Nat} (hd : decode cc pc = .ok (.astore 10, 2)) (hf : lflat (a0 :: a1 :: a2 :: a3 :: a4 :: a5 :: a6 :: a7 :: a8 :: a9 :: a10 :: t) = true) (hn : 10 < nL) (k : V X D tc cc own nL (pc + 2) (a0 :: a1 :: a2 :: a3 :: a4 :: a5 :: a6 :: a7 :: a8 :: a9 :: some (.ref x) :: t) st ws) : V X D tc cc own nL pc (a0 :: a1 :: a2 :: a3 :: a4 :: a5 :: a6 :: a7 :: a8 :: a9 :: a10 :: t) (.ref x :: st) ws := V_astoreG hd hf hn k
theorem V_astN10 {a0 a1 a2 a3 a4 a5 a6 a7 a8 a9 a10 : Option Value} (hd : decode cc pc = .ok (.astore 10, 2)) (hf : lflat (a0 :: a1 :: a2 :: a3 :: a4 :: a5 :: a6 :: a7 :: a8 :: a9 :: a10 :: t) = true) (hn : 10 < nL) (k : V X D tc cc own nL (pc + 2) (a0 :: a1 :: a2 :: a3 :: a4 :: a5 :: a6 :: a7 :: a8 :: a9 :: some .null :: t) st ws) : V X D tc cc own nL pc (a0 :: a1 :: a2 :: a3 :: a4 :: a5 :: a6 :: a7 :: a8 :: a9 :: a10 :: t) (.null :: st) ws := V_astoreNG hd hf hn k
theorem V_inc10 {a0 a1 a2 a3 a4 a5 a6 a7 a8 a9 : Option Value} {n : Int} {x : Int32} (v : Int32) (hd : decode cc pc = .ok (.iinc 10 n, 3)) (hv : x + Int32.ofInt n = v) (hf : lflat (a0 :: a1 :: a2 :: a3 :: a4 :: a5 :: a6 :: a7 :: a8 :: a9 :: some (.int x) :: t) = true) (hn : 10 < nL) (k : V X D tc cc own nL (pc + 3) (a0 :: a1 :: a2 :: a3 :: a4 :: a5 :: a6 :: a7 :: a8 :: a9 :: some (.int v) :: t) st ws) : V X D tc cc own nL pc (a0 :: a1 :: a2 :: a3 :: a4 :: a5 :: a6 :: a7 :: a8 :: a9 :: some (.int x) :: t) st ws := V_iincG v hd rfl hv hf hn k
end VIX
