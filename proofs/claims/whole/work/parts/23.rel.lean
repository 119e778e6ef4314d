/-! contracts with a relation: what is answered, and what the cells are then, is not told exactly -/
def QR (D : va_G) (Qp : Option Value → va_W → Prop) (A : Nat → Prop) : Array Value → State → Outcome → State → Prop := fun _ st oc t => (∃ (r : Option Value) (ws' : va_W), oc = .returned r ∧ Qp r ws' ∧ va_P D vwCl ws' t.heap ∧ va_D A ws') ∧ va_F A st t
def OkR (d : Nat) (y : MethodName) (cc : ByteArray) (maxL : Nat) (ret : Option FieldType) (D : va_G) (tc : Tc) (av : List Value) (ws : va_W) (Qp : Option Value → va_W → Prop) : Prop :=
  ∀ (l : Launch) (sz : Nat), Met l y (.code y cc maxL ret :: bigW) (rmD d) (va_Pc av (PreK D tc ws sz)) (QR D Qp (va_A ws sz)) 0 0 (va_A ws sz)
def AimR (X : Cx) (D : va_G) (ret : Option FieldType) (d : Nat) (Qp : Option Value → va_W → Prop) : Prop := X.2.2.1.2.1 = MQ X.2.1.2.2.1 (QR D Qp X.2.2.1.1) X.2.1.2.1 X.1.2.2.2.2 0 0 X.2.2.1.1 ∧ X.2.2.1.2.2 = ret ∧ X.2.2.2 = (d, 0, 0)
theorem Ok_ofR {d : Nat} {y : MethodName} {cc : ByteArray} {maxL : Nat} {ret : Option FieldType} {D : va_G} {tc : Tc} {av : List Value} {ws : va_W} {Qp : Option Value → va_W → Prop} (own : String) (hown : y.cls = own) (hy : plainName y.cls = true) (L0 : List (Option Value)) (hL : lvp 0 L0 = lv_args 0 av) (hlen : (lg_sl av).length ≤ maxL)
    (body : ∀ X : Cx, AimR X D ret d Qp → V X D tc cc own maxL 0 L0 [] ws) : OkR d y cc maxL ret D tc av ws Qp := by
  intro l sz
  refine Met.ofW (cc := cc) (maxL := maxL) (ret := ret) hy rfl ?_
  intro p e s m args below meth c s₁ B hml hv
  obtain ⟨rfl, hsz, hP, hK, hD0, hN⟩ := hv
  have hts := atoms_spec (ws := .code y cc maxL ret :: bigW) B.pre
  have ho : s.vm.findClass own = some m.cls := hown ▸ findClass_of_methodNamed B.named
  subst hsz
  have hD := hD0.self (sz := s.heap.size)
  have hl := lv_entry av (n := maxL) hlen
  rw [lg_entry_eq]
  exact body ((p, l, e, (headSpec (.code y cc maxL ret :: bigW) (rmD d)).room, s), (m, av.toArray, below, meth, c), (va_A ws s.heap.size, _, ret), (d, 0, 0)) ⟨rfl, rfl, rfl⟩
    ⟨B.exec, B.bytes, hml, ho, fun w hw => hts w (List.mem_cons_of_mem _ hw), hK, hN, fun q h => Or.inr h, B.returns, B.notSynchronized, ⟨Nat.le_refl _, Nat.le_refl _⟩, Nat.zero_le _, Nat.zero_le _⟩ s.heap [] _ hP hD va_S.rf (lvH.of hl hL)
theorem Ok.rel {d : Nat} {y : MethodName} {cc : ByteArray} {maxL : Nat} {ret : Option FieldType} {D : va_G} {tc : Tc} {av : List Value} {ws : va_W} {r : Option Value} {ws' : va_W} {Qp : Option Value → va_W → Prop} (h : Ok d y cc maxL ret D tc av ws r ws') (hq : Qp r ws') : OkR d y cc maxL ret D tc av ws Qp := by
  intro l sz p e h1 h2 h3 s m args below h4 h5 h6 h7
  obtain ⟨k, o, a1, a2, a3, ⟨⟨b1, b2, b3⟩, b4⟩, a5⟩ := h l sz p e h1 h2 h3 s m args below h4 h5 h6 h7
  exact ⟨k, o, a1, a2, a3, ⟨⟨r, ws', b1, hq, b2, b3⟩, b4⟩, a5⟩
section VRETR
variable {X : Cx} {D : va_G} {tc : Tc} {cc : ByteArray} {own : String} {nL pc : Nat} {L : List (Option Value)} {st : List Value} {ws : va_W} {ret : Option FieldType} {d : Nat} {Qp : Option Value → va_W → Prop}
theorem V_iretR {v : Int32} (hX : AimR X D ret d Qp) (hd : decode cc pc = .ok (.ireturn, 1)) (hret : ret = some .int) (hq : Qp (some (.int v)) ws) : V X D tc cc own nL pc L [.int v] ws := by
  intro F H locs ls hP hD hS hl
  obtain ⟨h1, h2, h3⟩ := hX
  unfold WW
  rw [h1, h3]
  exact W.iret F.1 F.2.1 (by rw [F.2.2.2.2.2.2.2.2.1, h2, hret]) (fun t ht hW => ⟨⟨_, _, rfl, hq, by rw [ht]; exact hP, hD⟩, hS.F ht⟩) hS.2.2 hd F.2.2.2.2.2.2.2.2.2.1
theorem V_zretR {v : Int32} (hX : AimR X D ret d Qp) (hd : decode cc pc = .ok (.ireturn, 1)) (hret : ret = some .boolean) (hn : v = 0 ∨ v = 1) (hq : Qp (some (.int v)) ws) : V X D tc cc own nL pc L [.int v] ws := by
  intro F H locs ls hP hD hS hl
  obtain ⟨h1, h2, h3⟩ := hX
  unfold WW
  rw [h1, h3]
  exact W.zret (ty := .boolean) F.1 F.2.1 (by rw [F.2.2.2.2.2.2.2.2.1, h2, hret]) (by rcases hn with rfl | rfl <;> rfl) (fun t ht hW => ⟨⟨_, _, rfl, hq, by rw [ht]; exact hP, hD⟩, hS.F ht⟩) hS.2.2 hd F.2.2.2.2.2.2.2.2.2.1
theorem V_vretR (hX : AimR X D ret d Qp) (hd : decode cc pc = .ok (.return_, 1)) (hret : ret = none) (hq : Qp none ws) : V X D tc cc own nL pc L [] ws := by
  intro F H locs ls hP hD hS hl
  obtain ⟨h1, h2, h3⟩ := hX
  unfold WW
  rw [h1, h3]
  exact W.vret F.1 F.2.1 (by rw [F.2.2.2.2.2.2.2.2.1, h2, hret]) (fun t ht hW => ⟨⟨_, _, rfl, hq, by rw [ht]; exact hP, hD⟩, hS.F ht⟩) hS.2.2 hd F.2.2.2.2.2.2.2.2.2.1
end VRETR
section VCALLR
variable {X : Cx} {D : va_G} {tc : Tc} {cc : ByteArray} {own : String} {nL pc : Nat} {L : List (Option Value)} {st : List Value} {ws : va_W}
theorem V_backR {Qp : Option Value → va_W → Prop} {rest : List Value} {a : Array Value} (F : Fx X D tc cc own nL) {H : Heap} {locs : List Loc} {ls : Array Slot} (hP : va_P D vwCl ws H) (hD : va_D X.2.2.1.1 ws) (hS : va_S X.2.2.1.1 X.1.2.2.2.2.heap H locs) (hl : lvH ls nL L)
    (run : va_Run X.1.1 X.1.2.1 X.1.2.2.1 X.1.2.2.2.1 X.1.2.2.2.2 X.2.1.1 X.2.1.2.1 X.2.1.2.2.1 X.2.1.2.2.2.1 X.2.1.2.2.2.2 H locs X.2.2.2.2.1 X.2.2.2.2.2 0 0 (F0 X.2.1.1 pc ls st) rest (QR D Qp (va_A ws H.size) a) (va_A ws H.size))
    (k : ∀ (r : Option Value) (ws' : va_W), Qp r ws' → V X D tc cc own nL (pc + 3) L (r.toList ++ rest) ws') : WW X H locs (F0 X.2.1.1 pc ls st) := by
  have hfree : ∀ q, va_A ws H.size q → X.2.2.1.1 q := by
    rintro q (⟨j, e, h⟩ | h)
    · exact hD.2 j _ h
    · exact F.2.2.2.2.2.2.2.1 q (Nat.le_trans hS.1 h)
  intro T hT St
  obtain ⟨v, st₀, t, T', L', h0, X', hL, e1, e2, ⟨⟨r, ws', hv, hq, hP', hD'⟩, hz, hk⟩, go⟩ := run T hT St
  cases hv
  rw [h0] at hz hk
  obtain ⟨t2, a1, b1⟩ := k v ws' hq F T'.heap (locs ++ L') ls (by rw [e1]; exact hP') (hD'.weaken (fun _ _ _ h => hfree _ h))
    ⟨Nat.le_trans hS.1 (by rw [e1]; exact hz), fun q h1 h2 => by rw [e1, hk q (Nat.lt_of_lt_of_le h1 hS.1) (fun z => h2 (hfree q z))]; exact hS.2.1 q h1 h2, fun q hq => by
      rcases List.mem_append.mp hq with h | h
      · exact hS.2.2 q h
      · exact hfree _ (hL q h)⟩ hl T' rfl X'
  exact ⟨t2, go t2 a1, b1⟩
theorem V_callVR {d' idx maxL ci N b : Nat} {C : String} {T : u_T} {y : MethodName} {cc' : ByteArray} {ret : Option FieldType} {As rest : List Value} {Qp : Option Value → va_W → Prop} {fs : List Value} (hl : LinkV own idx C y cc' maxL ret As.length) (hok : OkR d' y cc' maxL ret D tc (.ref b :: As) ws Qp) (hd : decode cc pc = .ok (.invokevirtual idx, 3)) {q0 : Nat} (he : ws[q0]? = some (b, .inr (ci, fs))) (hc : vwCl[ci]? = some (C, T, N)) (hdep : d' + 1 ≤ X.2.2.2.1 ∧ maxL ≤ 16) (hst : st = As.reverse ++ .ref b :: rest) (hcat : (rest.map fun v => v.category).sum ≤ 8) (k : ∀ (r : Option Value) (ws' : va_W), Qp r ws' → V X D tc cc own nL (pc + 3) L (r.toList ++ rest) ws') : V X D tc cc own nL pc L st ws := by
  intro F H locs ls hP hD hS hlv
  obtain ⟨m1, m2, m3, m4, m5, m6, m7⟩ := hl
  have hR := F.2.2.2.2.2.2.2.2.2.2.1
  refine V_backR F hP hD hS hlv (va_runV (As := As) (rest := rest) (C := C) (b := b) (n := As.length) ⟨F.1, F.2.1, F.2.2.1, F.2.2.2.1, F.2.2.2.2.1⟩ (hok X.1.2.1 H.size) (cwV As.length F.2.2.2.2.1 (bigW_in (fun w hw => ?_)) rfl rfl rfl ⟨m6, m7⟩ ⟨by show d' + 1 ≤ _; omega, by show 8 + (maxL + 11) + 35 * d' ≤ _; omega⟩) ⟨PreK.blind, va_recv F.2.2.2.2.2.1 hP hc he, fun U hU hW => ⟨rfl, by rw [hU], by rw [hU]; exact hP, va_K.moved hW.alike F.2.2.2.2.2.1, hD.weaken (fun _ _ _ _ => trivial), F.2.2.2.2.2.2.1.warm hW⟩⟩ rfl rfl hlv.1 hst (lv_room hcat) hd ⟨F.2.2.2.2.2.2.2.2.2.2.2.1, F.2.2.2.2.2.2.2.2.2.2.2.2⟩) k
  rcases List.mem_append.mp hw with h | h
  · simp only [List.mem_cons, List.not_mem_nil, or_false] at h
    rcases h with rfl | rfl | rfl | rfl
    · exact m1
    · exact m2
    · exact m3
    · exact m4
  · exact goodY m5 w h
end VCALLR
theorem depR {X : Cx} {D : va_G} {ret : Option FieldType} {d d' mx : Nat} {Qp : Option Value → va_W → Prop} (hX : AimR X D ret d Qp) (h : d' + 1 ≤ d ∧ mx ≤ 16) : d' + 1 ≤ X.2.2.2.1 ∧ mx ≤ 16 := by rw [hX.2.2]; exact h
theorem depR1 {X : Cx} {D : va_G} {ret : Option FieldType} {d : Nat} {Qp : Option Value → va_W → Prop} (hX : AimR X D ret d Qp) (h : 1 ≤ d) : 1 ≤ X.2.2.2.1 := by rw [hX.2.2]; exact h
