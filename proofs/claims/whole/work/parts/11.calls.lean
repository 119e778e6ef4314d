/-! CONTRACTS: Ok d y .. av ws r ws': called with av over the cells ws, the method y returns r and leaves ws'; d frames are enough below it -/
def PreK (D : va_G) (tc : Tc) (ws : va_W) (sz : Nat) (U : State) : Prop := U.heap.size = sz ∧ va_P D vwCl ws U.heap ∧ va_K D vwCl (TY tc) U ∧ va_D (fun _ => True) ws ∧ Nst U
def QK (D : va_G) (r : Option Value) (ws' : va_W) (A : Nat → Prop) : Array Value → State → Outcome → State → Prop := fun _ st oc t => (oc = .returned r ∧ va_P D vwCl ws' t.heap ∧ va_D A ws') ∧ va_F A st t
def Ok (d : Nat) (y : MethodName) (cc : ByteArray) (maxL : Nat) (ret : Option FieldType) (D : va_G) (tc : Tc) (av : List Value) (ws : va_W) (r : Option Value) (ws' : va_W) : Prop :=
  ∀ (l : Launch) (sz : Nat), Met l y (.code y cc maxL ret :: bigW) (rmD d) (va_Pc av (PreK D tc ws sz)) (QK D r ws' (va_A ws sz)) 0 0 (va_A ws sz)
/-- what a body's context aims at -/
def Aim (X : Cx) (D : va_G) (ret : Option FieldType) (d : Nat) (r : Option Value) (ws' : va_W) : Prop := X.2.2.1.2.1 = MQ X.2.1.2.2.1 (QK D r ws' X.2.2.1.1) X.2.1.2.1 X.1.2.2.2.2 0 0 X.2.2.1.1 ∧ X.2.2.1.2.2 = ret ∧ X.2.2.2 = (d, 0, 0)
theorem Ok_of {d : Nat} {y : MethodName} {cc : ByteArray} {maxL : Nat} {ret : Option FieldType} {D : va_G} {tc : Tc} {av : List Value} {ws : va_W} {r : Option Value} {ws' : va_W} (own : String) (hown : y.cls = own) (hy : plainName y.cls = true) (L0 : List (Option Value)) (hL : lvp 0 L0 = lv_args 0 av) (hlen : (lg_sl av).length ≤ maxL)
    (body : ∀ X : Cx, Aim X D ret d r ws' → V X D tc cc own maxL 0 L0 [] ws) : Ok d y cc maxL ret D tc av ws r ws' := by
  intro l sz
  refine Met.ofW (cc := cc) (maxL := maxL) (ret := ret) hy rfl ?_
  intro p e s m args below meth c s₁ B hml hv
  obtain ⟨rfl, hsz, hP, hK, hD0, hN⟩ := hv
  have hts := atoms_spec (ws := .code y cc maxL ret :: bigW) B.pre
  have ho : s.vm.findClass own = some m.cls := hown ▸ findClass_of_methodNamed B.named
  subst hsz
  have hD := hD0.self (sz := s.heap.size)
  have hl := lv_entry av (n := maxL) hlen
  rw [lg_entry_eq]
  exact body ((p, l, e, (headSpec (.code y cc maxL ret :: bigW) (rmD d)).room, s), (m, av.toArray, below, meth, c), (va_A ws s.heap.size, _, ret), (d, 0, 0)) ⟨rfl, rfl, rfl⟩
    ⟨B.exec, B.bytes, hml, ho, fun w hw => hts w (List.mem_cons_of_mem _ hw), hK, hN, fun q h => Or.inr h, B.returns, B.notSynchronized, ⟨Nat.le_refl _, Nat.le_refl _⟩, Nat.zero_le _, Nat.zero_le _⟩ s.heap [] _ hP hD va_S.rf (lvH.of hl hL)
section VRET
variable {X : Cx} {D : va_G} {tc : Tc} {cc : ByteArray} {own : String} {nL pc : Nat} {L : List (Option Value)} {st : List Value} {ws : va_W} {ret : Option FieldType} {d : Nat} {r : Option Value} {ws' : va_W}
theorem V_iret {v : Int32} (hX : Aim X D ret d r ws') (hd : decode cc pc = .ok (.ireturn, 1)) (hret : ret = some .int) (hr : r = some (.int v)) (hw : ws' = ws) : V X D tc cc own nL pc L [.int v] ws := by
  intro F H locs ls hP hD hS hl
  subst hr; subst hw
  obtain ⟨h1, h2, h3⟩ := hX
  unfold WW
  rw [h1, h3]
  exact W.iret F.1 F.2.1 (by rw [F.2.2.2.2.2.2.2.2.1, h2, hret]) (fun t ht hW => ⟨⟨rfl, by rw [ht]; exact hP, hD⟩, hS.F ht⟩) hS.2.2 hd F.2.2.2.2.2.2.2.2.2.1
theorem V_zret {v : Int32} (hX : Aim X D ret d r ws') (hd : decode cc pc = .ok (.ireturn, 1)) (hret : ret = some .boolean) (hn : v = 0 ∨ v = 1) (hr : r = some (.int v)) (hw : ws' = ws) : V X D tc cc own nL pc L [.int v] ws := by
  intro F H locs ls hP hD hS hl
  subst hr; subst hw
  obtain ⟨h1, h2, h3⟩ := hX
  unfold WW
  rw [h1, h3]
  exact W.zret (ty := .boolean) F.1 F.2.1 (by rw [F.2.2.2.2.2.2.2.2.1, h2, hret]) (by rcases hn with rfl | rfl <;> rfl) (fun t ht hW => ⟨⟨rfl, by rw [ht]; exact hP, hD⟩, hS.F ht⟩) hS.2.2 hd F.2.2.2.2.2.2.2.2.2.1
theorem V_lret {v : Int64} (hX : Aim X D ret d r ws') (hd : decode cc pc = .ok (.lreturn, 1)) (hret : ret = some .long) (hr : r = some (.long v)) (hw : ws' = ws) : V X D tc cc own nL pc L [.long v] ws := by
  intro F H locs ls hP hD hS hl
  subst hr; subst hw
  obtain ⟨h1, h2, h3⟩ := hX
  unfold WW
  rw [h1, h3]
  exact W.lret F.1 F.2.1 (by rw [F.2.2.2.2.2.2.2.2.1, h2, hret]) (fun t ht hW => ⟨⟨rfl, by rw [ht]; exact hP, hD⟩, hS.F ht⟩) hS.2.2 hd F.2.2.2.2.2.2.2.2.2.1
theorem V_vret (hX : Aim X D ret d r ws') (hd : decode cc pc = .ok (.return_, 1)) (hret : ret = none) (hr : r = none) (hw : ws' = ws) : V X D tc cc own nL pc L [] ws := by
  intro F H locs ls hP hD hS hl
  subst hr; subst hw
  obtain ⟨h1, h2, h3⟩ := hX
  unfold WW
  rw [h1, h3]
  exact W.vret F.1 F.2.1 (by rw [F.2.2.2.2.2.2.2.2.1, h2, hret]) (fun t ht hW => ⟨⟨rfl, by rw [ht]; exact hP, hD⟩, hS.F ht⟩) hS.2.2 hd F.2.2.2.2.2.2.2.2.2.1
theorem V_aret {v : Value} {n : String} (hX : Aim X D ret d r ws') (hd : decode cc pc = .ok (.areturn, 1)) (hret : ret = some (.object n)) (hv : v = .null ∨ ∃ a, v = .ref a) (hr : r = some v) (hw : ws' = ws) : V X D tc cc own nL pc L [v] ws := by
  intro F H locs ls hP hD hS hl
  subst hr; subst hw
  obtain ⟨h1, h2, h3⟩ := hX
  unfold WW
  rw [h1, h3]
  exact W.aret (rt := .object n) F.1 F.2.1 (by rw [F.2.2.2.2.2.2.2.2.1, h2, hret]) (Or.inl ⟨n, rfl⟩) hv (fun t ht hW => ⟨⟨rfl, by rw [ht]; exact hP, hD⟩, hS.F ht⟩) hS.2.2 hd F.2.2.2.2.2.2.2.2.2.1
end VRET
def okN (y : MethodName) (n : Nat) : Prop := y.cls ≠ "java/lang/invoke/MethodHandle" ∧ y.cls ≠ "java/lang/invoke/VarHandle" ∧ (parseMethodDescriptor y.desc).map (fun d => d.parameters.length) = some n
def LinkV (own : String) (idx : Nat) (C : String) (y : MethodName) (cc : ByteArray) (maxL : Nat) (ret : Option FieldType) (n : Nat) : Prop := Cond.methodLink own idx y ∈ bigW ∧ Cond.instanceMethod y ∈ bigW ∧ Cond.selects C y y ∈ bigW ∧ Cond.initialized C ∈ bigW ∧ Cond.code y cc maxL ret ∈ bigW ∧ y.cls = C ∧ okN y n
def LinkS (own : String) (idx : Nat) (y : MethodName) (cc : ByteArray) (maxL : Nat) (ret : Option FieldType) (n : Nat) : Prop := Cond.methodLink own idx y ∈ bigW ∧ Cond.static y ∈ bigW ∧ Cond.initialized y.cls ∈ bigW ∧ Cond.code y cc maxL ret ∈ bigW ∧ okN y n
def LinkN (own : String) (idx : Nat) (y : MethodName) (cc : ByteArray) (maxL : Nat) (ret : Option FieldType) (n : Nat) : Prop := (own, idx, y) ∈ nstW ∧ Cond.static y ∈ bigW ∧ Cond.initialized y.cls ∈ bigW ∧ Cond.code y cc maxL ret ∈ bigW ∧ okN y n
theorem goodY {y : MethodName} {cc : ByteArray} {maxL : Nat} {ret : Option FieldType} (h : Cond.code y cc maxL ret ∈ bigW) : ∀ w ∈ (Cond.code y cc maxL ret :: bigW), w ∈ bigW := fun w hw => by
  rcases List.mem_cons.mp hw with rfl | hw
  · exact h
  · exact hw
theorem PreK.blind {D : va_G} {tc : Tc} {av : List Value} {ws : va_W} {sz : Nat} : FrameBlind (va_Pc av (PreK D tc ws sz)) := fun a U g mk q => by
  obtain ⟨q0, q1, qP, qK, qD, qN⟩ := q
  exact ⟨q0, q1, qP, va_K.moved (u := U) (U := U.calling g mk a) (Vm.Alike.refl U.vm) qK, qD, qN.call⟩
section VCALL
variable {X : Cx} {D : va_G} {tc : Tc} {cc : ByteArray} {own : String} {nL pc : Nat} {L : List (Option Value)} {st : List Value} {ws : va_W}
/-- behind a call -/
theorem V_back {p : Program} {d' : Nat} {r : Option Value} {ws' : va_W} {rest : List Value} {a : Array Value} (F : Fx X D tc cc own nL) {H : Heap} {locs : List Loc} {ls : Array Slot} (hP : va_P D vwCl ws H) (hD : va_D X.2.2.1.1 ws) (hS : va_S X.2.2.1.1 X.1.2.2.2.2.heap H locs) (hl : lvH ls nL L)
    (run : va_Run X.1.1 X.1.2.1 X.1.2.2.1 X.1.2.2.2.1 X.1.2.2.2.2 X.2.1.1 X.2.1.2.1 X.2.1.2.2.1 X.2.1.2.2.2.1 X.2.1.2.2.2.2 H locs X.2.2.2.2.1 X.2.2.2.2.2 0 0 (F0 X.2.1.1 pc ls st) rest (QK D r ws' (va_A ws H.size) a) (va_A ws H.size))
    (k : V X D tc cc own nL (pc + 3) L (r.toList ++ rest) ws') : WW X H locs (F0 X.2.1.1 pc ls st) := by
  have hfree : ∀ q, va_A ws H.size q → X.2.2.1.1 q := by
    rintro q (⟨j, e, h⟩ | h)
    · exact hD.2 j _ h
    · exact F.2.2.2.2.2.2.2.1 q (Nat.le_trans hS.1 h)
  intro T hT St
  obtain ⟨v, st₀, t, T', L', h0, X', hL, e1, e2, ⟨⟨hv, hP', hD'⟩, hz, hk⟩, go⟩ := run T hT St
  cases hv
  rw [h0] at hz hk
  obtain ⟨t2, a1, b1⟩ := k F T'.heap (locs ++ L') ls (by rw [e1]; exact hP') (hD'.weaken (fun _ _ _ h => hfree _ h))
    ⟨Nat.le_trans hS.1 (by rw [e1]; exact hz), fun q h1 h2 => by rw [e1, hk q (Nat.lt_of_lt_of_le h1 hS.1) (fun z => h2 (hfree q z))]; exact hS.2.1 q h1 h2, fun q hq => by
      rcases List.mem_append.mp hq with h | h
      · exact hS.2.2 q h
      · exact hfree _ (hL q h)⟩ hl T' rfl X'
  exact ⟨t2, go t2 a1, b1⟩
theorem V_callVG {d' idx maxL ci N b : Nat} {C : String} {T : u_T} {y : MethodName} {cc' : ByteArray} {ret : Option FieldType} {As rest : List Value} {r : Option Value} {ws' : va_W} {fs : List Value} (hl : LinkV own idx C y cc' maxL ret As.length) (hok : Ok d' y cc' maxL ret D tc (.ref b :: As) ws r ws') (hd : decode cc pc = .ok (.invokevirtual idx, 3)) {q0 : Nat} (he : ws[q0]? = some (b, .inr (ci, fs))) (hc : vwCl[ci]? = some (C, T, N)) (hdep : d' + 1 ≤ X.2.2.2.1 ∧ maxL ≤ 16) (hst : st = As.reverse ++ .ref b :: rest) (hcat : (rest.map fun v => v.category).sum ≤ 8) (k : V X D tc cc own nL (pc + 3) L (r.toList ++ rest) ws') : V X D tc cc own nL pc L st ws := by
  intro F H locs ls hP hD hS hlv
  obtain ⟨m1, m2, m3, m4, m5, m6, m7⟩ := hl
  have hR := F.2.2.2.2.2.2.2.2.2.2.1
  refine V_back (p := X.1.1) (d' := d') F hP hD hS hlv (va_runV (As := As) (rest := rest) (C := C) (b := b) (n := As.length) ⟨F.1, F.2.1, F.2.2.1, F.2.2.2.1, F.2.2.2.2.1⟩ (hok X.1.2.1 H.size) (cwV As.length F.2.2.2.2.1 (bigW_in (fun w hw => ?_)) rfl rfl rfl ⟨m6, m7⟩ ⟨by show d' + 1 ≤ _; omega, by show 8 + (maxL + 11) + 35 * d' ≤ _; omega⟩) ⟨PreK.blind, va_recv F.2.2.2.2.2.1 hP hc he, fun U hU hW => ⟨rfl, by rw [hU], by rw [hU]; exact hP, va_K.moved hW.alike F.2.2.2.2.2.1, hD.weaken (fun _ _ _ _ => trivial), F.2.2.2.2.2.2.1.warm hW⟩⟩ rfl rfl hlv.1 hst (lv_room hcat) hd ⟨F.2.2.2.2.2.2.2.2.2.2.2.1, F.2.2.2.2.2.2.2.2.2.2.2.2⟩) k
  rcases List.mem_append.mp hw with h | h
  · simp only [List.mem_cons, List.not_mem_nil, or_false] at h
    rcases h with rfl | rfl | rfl | rfl
    · exact m1
    · exact m2
    · exact m3
    · exact m4
  · exact goodY m5 w h
theorem V_callSG {d' idx maxL : Nat} {y : MethodName} {cc' : ByteArray} {ret : Option FieldType} {As rest : List Value} {r : Option Value} {ws' : va_W} (hl : LinkS own idx y cc' maxL ret As.length) (hok : Ok d' y cc' maxL ret D tc As ws r ws') (hd : decode cc pc = .ok (.invokestatic idx, 3)) (hdep : d' + 1 ≤ X.2.2.2.1 ∧ maxL ≤ 16) (hst : st = As.reverse ++ rest) (hcat : (rest.map fun v => v.category).sum ≤ 8) (k : V X D tc cc own nL (pc + 3) L (r.toList ++ rest) ws') : V X D tc cc own nL pc L st ws := by
  intro F H locs ls hP hD hS hlv
  obtain ⟨m1, m2, m3, m5, m7⟩ := hl
  have hR := F.2.2.2.2.2.2.2.2.2.2.1
  have ht := F.2.2.2.2.1
  exact V_back (p := X.1.1) (d' := d') F hP hD hS hlv (va_runS (As := As) (rest := rest) (n := As.length) ⟨F.1, F.2.1, F.2.2.1, F.2.2.2.1, F.2.2.2.2.1⟩ (hok X.1.2.1 H.size) ⟨callB_of As.length ht (bigW_in (goodY m5)) rfl rfl rfl (ht _ m3) (ht _ m1) m7 ⟨by show d' + 1 ≤ _; omega, by show 8 + (maxL + 11) + 35 * d' ≤ _; omega⟩, ht _ m2⟩ ⟨PreK.blind, fun U hU hW => ⟨rfl, by rw [hU], by rw [hU]; exact hP, va_K.moved hW.alike F.2.2.2.2.2.1, hD.weaken (fun _ _ _ _ => trivial), F.2.2.2.2.2.2.1.warm hW⟩⟩ rfl rfl hlv.1 hst (lv_room hcat) hd ⟨F.2.2.2.2.2.2.2.2.2.2.2.1, F.2.2.2.2.2.2.2.2.2.2.2.2⟩) k
theorem V_callNG {d' idx maxL : Nat} {y : MethodName} {cc' : ByteArray} {ret : Option FieldType} {As rest : List Value} {r : Option Value} {ws' : va_W} (hl : LinkN own idx y cc' maxL ret As.length) (hok : Ok d' y cc' maxL ret D tc As ws r ws') (hd : decode cc pc = .ok (.invokestatic idx, 3)) (hdep : d' + 1 ≤ X.2.2.2.1 ∧ maxL ≤ 16) (hst : st = As.reverse ++ rest) (hcat : (rest.map fun v => v.category).sum ≤ 8) (k : V X D tc cc own nL (pc + 3) L (r.toList ++ rest) ws') : V X D tc cc own nL pc L st ws := by
  intro F H locs ls hP hD hS hlv
  obtain ⟨m1, m2, m3, m5, m7⟩ := hl
  have hR := F.2.2.2.2.2.2.2.2.2.2.1
  have ht := F.2.2.2.2.1
  exact V_back (p := X.1.1) (d' := d') F hP hD hS hlv (va_runSN (As := As) (rest := rest) (n := As.length) (host := RX5) ⟨F.1, F.2.1, F.2.2.1, F.2.2.2.1, F.2.2.2.2.1⟩ (hok X.1.2.1 H.size) ⟨va_cnB As.length ht (bigW_in (goodY m5)) rfl rfl rfl (F.2.2.2.2.2.2.1 _ m1) (ht _ m3) m7 ⟨by show d' + 1 ≤ _; omega, by show 8 + (maxL + 11) + 35 * d' ≤ _; omega⟩, ht _ m2, trivial⟩ ⟨PreK.blind, fun U hU hW => ⟨rfl, by rw [hU], by rw [hU]; exact hP, va_K.moved hW.alike F.2.2.2.2.2.1, hD.weaken (fun _ _ _ _ => trivial), F.2.2.2.2.2.2.1.warm hW⟩⟩ rfl rfl hlv.1 hst (lv_room hcat) hd ⟨F.2.2.2.2.2.2.2.2.2.2.2.1, F.2.2.2.2.2.2.2.2.2.2.2.2⟩) k
end VCALL
