/-! CONSTRUCTORS: rows that make cells, contracts that count them; the frame -/
theorem wA_int : Cond.arrayClass .int ∈ bigW := bw 132 (by decide +kernel) (by decide +kernel)
theorem wA_bool : Cond.arrayClass .boolean ∈ bigW := bw 740 (by decide +kernel) (by decide +kernel)
def upc (X : Cx) (k n : Nat) : Cx := (X.1, X.2.1, X.2.2.1, (X.2.2.2.1, k, n))
theorem Fx.upc {X : Cx} {D : va_G} {tc : Tc} {cc : ByteArray} {own : String} {nL k n k' n' : Nat} (F : Fx (upc X k n) D tc cc own nL) (h1 : k' ≤ X.1.2.2.2.1.cells) (h2 : n' ≤ X.1.2.2.2.1.slots) : Fx (upc X k' n') D tc cc own nL := ⟨F.1, F.2.1, F.2.2.1, F.2.2.2.1, F.2.2.2.2.1, F.2.2.2.2.2.1, F.2.2.2.2.2.2.1, F.2.2.2.2.2.2.2.1, F.2.2.2.2.2.2.2.2.1, F.2.2.2.2.2.2.2.2.2.1, F.2.2.2.2.2.2.2.2.2.2.1, h1, h2⟩
theorem sameA {s : State} {a b : ClassId} {ty : FieldType} (h1 : s.vm.findClass ("[" ++ ty.toString) = some a) (h2 : s.vm.findClass ("[" ++ ty.toString) = some b) : a = b := Option.some.inj (h1.symm.trans h2)
section VNEW
variable {X : Cx} {D : va_G} {tc : Tc} {cc : ByteArray} {own : String} {nL pc : Nat} {L : List (Option Value)} {st : List Value} {ws : va_W} {k n : Nat}
theorem V_newI {N : Nat} (hd : decode cc pc = .ok (.newarray .int, 2)) (hN : N ≤ 1000) (hc : k + 1 ≤ X.1.2.2.2.1.cells ∧ n + N ≤ X.1.2.2.2.1.slots) (kk : ∀ q : Nat, V (upc X (k + 1) (n + N)) D tc cc own nL (pc + 2) L (.ref q :: st) (ws ++ [(q, .inl (tc.1, N, .inl (fun _ => 0)))])) : V (upc X k n) D tc cc own nL pc L (.int (nI N) :: st) ws := by
  intro F H locs ls hP hD hS hl
  refine va_newa (atype := .int) (ty := .int) (a0 := (N, .inl (fun _ => 0))) F.1 F.2.1 (F.2.2.2.2.1 _ wA_int) rfl F.2.2.2.2.2.1 hP hD hS F.2.2.2.2.2.2.2.1 (fun cA => rfl) (nI_pos (by omega)) (nI_clamp (by omega)) (by show N * 4 ≤ _; omega) hc.1 hc.2 hd (fun q cA H1 hK1 hP1 hD1 hS1 => ?_)
  have e1 : cA = tc.1 := by
    have a1 := (hK1.2 3 _ rfl).2
    have a2 := (F.2.2.2.2.2.1.2 0 _ rfl).2
    exact sameA (ty := .int) a1 a2
  subst e1
  exact kk q (F.upc hc.1 hc.2) H1 locs ls hP1 hD1 hS1 hl
theorem V_newZ {N : Nat} (hd : decode cc pc = .ok (.newarray .boolean, 2)) (hN : N ≤ 1000) (hc : k + 1 ≤ X.1.2.2.2.1.cells ∧ n + N ≤ X.1.2.2.2.1.slots) (kk : ∀ q : Nat, V (upc X (k + 1) (n + N)) D tc cc own nL (pc + 2) L (.ref q :: st) (ws ++ [(q, .inl (tc.2.1, N, .inl (fun _ => 0)))])) : V (upc X k n) D tc cc own nL pc L (.int (nI N) :: st) ws := by
  intro F H locs ls hP hD hS hl
  refine va_newa (atype := .boolean) (ty := .boolean) (a0 := (N, .inl (fun _ => 0))) F.1 F.2.1 (F.2.2.2.2.1 _ wA_bool) rfl F.2.2.2.2.2.1 hP hD hS F.2.2.2.2.2.2.2.1 (fun cA => rfl) (nI_pos (by omega)) (nI_clamp (by omega)) (by show N * 1 ≤ _; omega) hc.1 hc.2 hd (fun q cA H1 hK1 hP1 hD1 hS1 => ?_)
  have e1 : cA = tc.2.1 := by
    have a1 := (hK1.2 3 _ rfl).2
    have a2 := (F.2.2.2.2.2.1.2 1 _ rfl).2
    exact sameA (ty := .boolean) a1 a2
  subst e1
  exact kk q (F.upc hc.1 hc.2) H1 locs ls hP1 hD1 hS1 hl
theorem V_newQ {N idx : Nat} {C : String} (hC : C = RX3) (hcl : Cond.classLink own idx C ∈ bigW) (hAO : va_AO RX3 X.1.2.2.2.2) (hd : decode cc pc = .ok (.anewarray idx, 3)) (hN : N ≤ 1000) (hc : k + 1 ≤ X.1.2.2.2.1.cells ∧ n + N ≤ X.1.2.2.2.1.slots) (kk : ∀ q : Nat, V (upc X (k + 1) (n + N)) D tc cc own nL (pc + 3) L (.ref q :: st) (ws ++ [(q, .inl (tc.2.2, N, .inr (.inr (.inr (.inr (fun _ => none))))))])) : V (upc X k n) D tc cc own nL pc L (.int (nI N) :: st) ws := by
  intro F H locs ls hP hD hS hl
  subst hC
  refine va_newq F.1 F.2.1 F.2.2.2.1 (F.2.2.2.2.1 _ hcl) hAO F.2.2.2.2.2.1 hP hD hS F.2.2.2.2.2.2.2.1 (nI_pos (by omega)) (nI_clamp (by omega)) (by omega) hc.1 hc.2 hd (fun q cA H1 hK1 hP1 hD1 hS1 => ?_)
  have e1 : cA = tc.2.2 := by
    obtain ⟨_, _, _, _, _, a1⟩ := (hK1.2 3 _ rfl).2
    obtain ⟨_, _, _, _, _, a2⟩ := (F.2.2.2.2.2.1.2 2 _ rfl).2
    exact sameA (ty := .object RX3) a1 a2
  subst e1
  exact kk q (F.upc hc.1 hc.2) H1 locs ls hP1 hD1 hS1 hl
theorem V_newO {N ci idx : Nat} {C : String} {T : u_T} {fs : List Value} (hcl : Cond.classLink own idx C ∈ bigW) (hin : Cond.instantiable C N ∈ bigW) (hini : Cond.initialized C ∈ bigW) (hw : ∀ w ∈ u_ws C T N, w ∈ bigW) (hv : vwCl[ci]? = some (C, T, N)) (ty : Nat → FieldType) (hty : ∀ k, k < N → parseFieldDescriptor (T k).2.2.1 = some (ty k)) (hfs : ∀ j, j < N → defaultValue (ty j) = vp_V fs j) (hd : decode cc pc = .ok (.new idx, 3)) (hc : k + 1 ≤ X.1.2.2.2.1.cells ∧ n + N ≤ X.1.2.2.2.1.slots) (kk : ∀ q : Nat, V (upc X (k + 1) (n + N)) D tc cc own nL (pc + 3) L (.ref q :: st) (ws ++ [(q, .inr (ci, fs))])) : V (upc X k n) D tc cc own nL pc L st ws := by
  intro F H locs ls hP hD hS hl
  have ht := F.2.2.2.2.1
  refine va_new F.1 F.2.1 ht hw ty hty F.2.2.2.1 (ht _ hcl) (ht _ hin) (ht _ hini) F.2.2.2.2.2.1 hP hD hS F.2.2.2.2.2.2.2.1 hv hfs hc.1 hc.2 hd (fun q H1 hP1 hD1 hS1 => ?_)
  exact kk q (F.upc hc.1 hc.2) H1 locs ls hP1 hD1 hS1 hl
theorem V_putF {idx ci j : Nat} {C : String} {T : u_T} {N a b : Nat} {fs : List Value} {ty : FieldType} (hl : LinkF own idx C T N ci j) (hfin : (T j).2.2.2 = true) (hdecl : (T j).1 = own) {ty0 : Nat → FieldType} (ht0 : ∀ k, k < N → parseFieldDescriptor (T k).2.2.1 = some (ty0 k)) (hnm : ∀ a, a < N → ∀ b, b < N → a ≠ b → (T a).2.1 ≠ (T b).2.1) (hty : parseFieldDescriptor (T j).2.2.1 = some ty) (hn : narrow ty (.ref b) = .ref b) (hfit : fits ty (.ref b) = true) (hin : X.2.1.2.2.2.1.name = "<init>") (hd : decode cc pc = .ok (.putfield idx, 3)) {q0 : Nat} (he : ws[q0]? = some (a, .inr (ci, fs))) (hk : j < fs.length) {ws' : va_W} (hw : ws.set q0 (a, .inr (ci, fs.set j (.ref b))) = ws') (kk : V X D tc cc own nL (pc + 3) L st ws') : V X D tc cc own nL pc L (.ref b :: .ref a :: st) ws := by
  intro F H locs ls hP hD hS hlv
  exact va_putF F.1 F.2.1 F.2.2.2.2.1 hl.2.2.1 ty0 ht0 hnm F.2.2.2.1 F.2.2.2.2.2.1 hP hD hS q0 he hl.1 j hl.2.1 (F.2.2.2.2.1 _ hl.2.2.2) (fun _ h9 => h9) hfin hin hdecl hty hn hfit hk hd (fun H1 locs1 hP1 hD1 hS1 => kk F H1 locs1 ls (hw ▸ hP1) (hw ▸ hD1) hS1 hlv)
theorem V_objInit {idx a : Nat} (hlk : Cond.methodLink own idx objectInit ∈ bigW) (hi : Cond.instanceMethod objectInit ∈ bigW) (hco : Cond.code objectInit ⟨#[0xb1]⟩ 1 none ∈ bigW) (hd : decode cc pc = .ok (.invokespecial idx, 3)) (hfr : 1 ≤ X.2.2.2.1) (hcat : (st.map fun v => v.category).sum ≤ 8) (kk : V X D tc cc own nL (pc + 3) L st ws) : V X D tc cc own nL pc L (.ref a :: st) ws := by
  intro F H locs ls hP hD hS hlv
  have ht := F.2.2.2.2.1
  have hR := F.2.2.2.2.2.2.2.2.2.2.1
  exact W.objInit F.1 F.2.1 F.2.2.2.1 (ht _ hlk) (ht _ hi) (ht _ hco) rfl (by rw [F.2.2.1]; exact hlv.1) rfl hd (by omega) (by have : 2 * (F0 X.2.1.1 pc ls (.ref a :: st)).monitorRoom + (st.map fun v => v.category).sum ≤ 8 := lv_room hcat; omega) (kk F H locs ls hP hD hS hlv)
/-- the cells in another order -/
theorem V_perm {ws' : va_W} (is : List Nat) (h1 : is.filterMap (fun i => ws[i]?) = ws') (hn : va_nd is = true) (h2 : is.map (fun i => ws[i]?) = ws'.map some) (kk : V X D tc cc own nL pc L st ws') : V X D tc cc own nL pc L st ws := by
  intro F H locs ls hP hD hS hlv
  exact kk F H locs ls (hP.sub is h1) (hD.sub is hn h2) hS hlv
end VNEW
def rmC (d mc ms : Nat) : Room := { frames := d, cells := mc, slots := ms, locals := 35 * d }
def PreC (D : va_G) (tc : Tc) (ws : va_W) (sz : Nat) (U : State) : Prop := PreK D tc ws sz U ∧ va_AO RX3 U
def OkC (d mc ms : Nat) (y : MethodName) (cc : ByteArray) (maxL : Nat) (D : va_G) (tc : Tc) (av : List Value) (ws : va_W) (Qp : va_W → Prop) : Prop :=
  ∀ (l : Launch) (sz : Nat), Met l y (.code y cc maxL none :: bigW) (rmC d mc ms) (va_Pc av (PreC D tc ws sz)) (QR D (fun r w => r = none ∧ Qp w) (va_A ws sz)) mc ms (va_A ws sz)
def AimC (X : Cx) (D : va_G) (d mc ms : Nat) (Qp : va_W → Prop) : Prop := X.2.2.1.2.1 = MQ X.2.1.2.2.1 (QR D (fun r w => r = none ∧ Qp w) X.2.2.1.1) X.2.1.2.1 X.1.2.2.2.2 mc ms X.2.2.1.1 ∧ X.2.2.1.2.2 = none ∧ X.2.2.2.1 = d ∧ (X.1.2.2.2.1.cells = mc ∧ X.1.2.2.2.1.slots = ms) ∧ va_AO RX3 X.1.2.2.2.2 ∧ X.2.1.2.2.2.1.name = "<init>"
theorem Ok_ofC {d mc ms : Nat} {y : MethodName} {cc : ByteArray} {maxL : Nat} {D : va_G} {tc : Tc} {av : List Value} {ws : va_W} {Qp : va_W → Prop} (own : String) (hown : y.cls = own) (hnm : y.name = "<init>") (hy : plainName y.cls = true) (L0 : List (Option Value)) (hL : lvp 0 L0 = lv_args 0 av) (hlen : (lg_sl av).length ≤ maxL)
    (body : ∀ X : Cx, AimC X D d mc ms Qp → V (upc X 0 0) D tc cc own maxL 0 L0 [] ws) : OkC d mc ms y cc maxL D tc av ws Qp := by
  intro l sz
  refine Met.ofW (cc := cc) (maxL := maxL) (ret := none) hy rfl ?_
  intro p e s m args below meth c s₁ B hml hv
  obtain ⟨rfl, ⟨hsz, hP, hK, hD0, hN⟩, hAO⟩ := hv
  have hts := atoms_spec (ws := .code y cc maxL none :: bigW) B.pre
  have ho : s.vm.findClass own = some m.cls := hown ▸ findClass_of_methodNamed B.named
  have hin : meth.name = "<init>" := hnm ▸ (name_of_methodNamed B.named B.method).1
  subst hsz
  have hD := hD0.self (sz := s.heap.size)
  have hl := lv_entry av (n := maxL) hlen
  rw [lg_entry_eq]
  exact body ((p, l, e, (headSpec (.code y cc maxL none :: bigW) (rmC d mc ms)).room, s), (m, av.toArray, below, meth, c), (va_A ws s.heap.size, _, none), (d, 0, 0)) ⟨rfl, rfl, rfl, ⟨rfl, rfl⟩, hAO, hin⟩
    ⟨B.exec, B.bytes, hml, ho, fun w hw => hts w (List.mem_cons_of_mem _ hw), hK, hN, fun q h => Or.inr h, B.returns, B.notSynchronized, ⟨Nat.le_refl _, Nat.le_refl _⟩, Nat.zero_le _, Nat.zero_le _⟩ s.heap [] _ hP hD va_S.rf (lvH.of hl hL)
theorem roomC {X : Cx} {D : va_G} {d mc ms k n : Nat} {Qp : va_W → Prop} (hX : AimC X D d mc ms Qp) (h : k ≤ mc ∧ n ≤ ms) : k ≤ X.1.2.2.2.1.cells ∧ n ≤ X.1.2.2.2.1.slots := by
  rw [hX.2.2.2.1.1, hX.2.2.2.1.2]
  exact h
theorem V_vretC {X : Cx} {D : va_G} {tc : Tc} {cc : ByteArray} {own : String} {nL pc : Nat} {L : List (Option Value)} {ws : va_W} {d mc ms : Nat} {Qp : va_W → Prop} (hX : AimC X D d mc ms Qp) (hd : decode cc pc = .ok (.return_, 1)) (hq : Qp ws) : V (upc X mc ms) D tc cc own nL pc L [] ws := by
  intro F H locs ls hP hD hS hl
  have h1 := hX.1
  have h2 := hX.2.1
  show W X.1.1 X.1.2.1 X.1.2.2.1 X.1.2.2.2.1 X.1.2.2.2.2 X.2.1.1 X.2.1.2.1 X.2.1.2.2.1 X.2.1.2.2.2.1 X.2.1.2.2.2.2 H locs mc ms X.2.2.1.2.1 _
  rw [h1]
  exact W.vret F.1 F.2.1 ((show X.2.1.2.2.2.1.sig.returnType = X.2.2.1.2.2 from F.2.2.2.2.2.2.2.2.1).trans h2) (fun t ht hW => ⟨⟨_, _, rfl, ⟨rfl, hq⟩, by rw [ht]; exact hP, hD⟩, hS.F ht⟩) hS.2.2 hd F.2.2.2.2.2.2.2.2.2.1
/-! the frame -/
theorem fr_not {D : va_G} {fr ws : va_W} {A : Nat → Prop} {H : Heap} (hP : va_P D vwCl fr H) (hx : ∀ (i j : Nat) (p q : Nat × va_E), fr[i]? = some p → ws[j]? = some q → p.1 ≠ q.1) {i : Nat} {p : Nat × va_E} (hp : fr[i]? = some p) : ¬ va_A ws H.size p.1 := by
  rintro (⟨j, e, hj⟩ | h)
  · exact hx i j p (p.1, e) hp hj rfl
  · exact absurd (hP i p hp).lt (by omega)
theorem apL {fr ws : va_W} {A : Nat → Prop} (hD : va_D A (fr ++ ws)) : va_D A fr ∧ va_D A ws ∧ ∀ (i j : Nat) (p q : Nat × va_E), fr[i]? = some p → ws[j]? = some q → p.1 ≠ q.1 := by
  have l1 : ∀ (i : Nat) (p : Nat × va_E), fr[i]? = some p → (fr ++ ws)[i]? = some p := fun i p h => by
    have := (List.getElem?_eq_some_iff.mp h).1
    rw [List.getElem?_append_left this]; exact h
  have l2 : ∀ (i : Nat) (p : Nat × va_E), ws[i]? = some p → (fr ++ ws)[fr.length + i]? = some p := fun i p h => by
    rw [List.getElem?_append_right (by omega), Nat.add_sub_cancel_left]; exact h
  refine ⟨⟨fun i j p q h1 h2 e => hD.1 i j p q (l1 i p h1) (l1 j q h2) e, fun k q h => hD.2 k q (l1 k q h)⟩, ⟨fun i j p q h1 h2 e => ?_, fun k q h => hD.2 _ q (l2 k q h)⟩, fun i j p q h1 h2 e => ?_⟩
  · have := hD.1 _ _ p q (l2 i p h1) (l2 j q h2) e
    omega
  · have := hD.1 _ _ p q (l1 i p h1) (l2 j q h2) e
    have := (List.getElem?_eq_some_iff.mp h1).1
    omega
theorem apP {D : va_G} {fr ws : va_W} {H : Heap} (hP : va_P D vwCl (fr ++ ws) H) : va_P D vwCl fr H ∧ va_P D vwCl ws H :=
  ⟨fun i p h => hP i p (by rw [List.getElem?_append_left (List.getElem?_eq_some_iff.mp h).1]; exact h), fun i p h => hP (fr.length + i) p (by rw [List.getElem?_append_right (by omega), Nat.add_sub_cancel_left]; exact h)⟩
theorem va_A.inl {fr ws : va_W} {sz q : Nat} (h : va_A fr sz q) : va_A (fr ++ ws) sz q := by
  rcases h with ⟨j, e, h⟩ | h
  · exact Or.inl ⟨j, e, by rw [List.getElem?_append_left (List.getElem?_eq_some_iff.mp h).1]; exact h⟩
  · exact Or.inr h
theorem va_A.inr {fr ws : va_W} {sz q : Nat} (h : va_A ws sz q) : va_A (fr ++ ws) sz q := by
  rcases h with ⟨j, e, h⟩ | h
  · exact Or.inl ⟨fr.length + j, e, by rw [List.getElem?_append_right (by omega), Nat.add_sub_cancel_left]; exact h⟩
  · exact Or.inr h
theorem va_F.mono {A B : Nat → Prop} {s t : State} (h : va_F A s t) (hAB : ∀ q, A q → B q) : va_F B s t := ⟨h.1, fun q hq hn => h.2 q hq (fun z => hn (hAB q z))⟩
theorem QR_fl {D : va_G} {fr ws : va_W} {Qp : Option Value → va_W → Prop} {a : Array Value} {s t : State} {o : Outcome} (hP : va_P D vwCl (fr ++ ws) s.heap) (hD : va_D (fun _ => True) (fr ++ ws)) (h : QR D Qp (va_A ws s.heap.size) a s o t) : QR D (fun r w => ∃ w1, w = fr ++ w1 ∧ Qp r w1) (va_A (fr ++ ws) s.heap.size) a s o t := by
  obtain ⟨⟨r, w1, ho, hq, hP1, hD1⟩, hF⟩ := h
  obtain ⟨d1, d2, d3⟩ := apL hD
  obtain ⟨p1, p2⟩ := apP hP
  have hno : ∀ (i : Nat) (p : Nat × va_E), fr[i]? = some p → ¬ va_A ws s.heap.size p.1 := fun i p hp => fr_not (A := fun _ => True) p1 d3 hp
  refine ⟨⟨r, fr ++ w1, ho, ⟨w1, rfl, hq⟩, (p1.kept (fun i p hp => hF.2 p.1 (p1 i p hp).lt (hno i p hp))).app hP1, va_D.app (d1.weaken (fun i p hp _ => va_A.inl (Or.inl ⟨i, p.2, hp⟩))) (hD1.weaken (fun i p hp h => va_A.inr h)) (fun i j p q hp hq e => hno i p hp (by rw [e]; exact hD1.2 j q hq))⟩, hF.mono (fun q h => va_A.inr h)⟩
theorem QR_fr {D : va_G} {fr ws : va_W} {Qp : Option Value → va_W → Prop} {a : Array Value} {s t : State} {o : Outcome} (hP : va_P D vwCl (ws ++ fr) s.heap) (hD : va_D (fun _ => True) (ws ++ fr)) (h : QR D Qp (va_A ws s.heap.size) a s o t) : QR D (fun r w => ∃ w1, w = w1 ++ fr ∧ Qp r w1) (va_A (ws ++ fr) s.heap.size) a s o t := by
  obtain ⟨⟨r, w1, ho, hq, hP1, hD1⟩, hF⟩ := h
  obtain ⟨d1, d2, d3⟩ := apL hD
  obtain ⟨p1, p2⟩ := apP hP
  have hno : ∀ (i : Nat) (p : Nat × va_E), fr[i]? = some p → ¬ va_A ws s.heap.size p.1 := fun i p hp => fr_not (A := fun _ => True) p2 (fun i j p q h1 h2 e => d3 j i q p h2 h1 e.symm) hp
  refine ⟨⟨r, w1 ++ fr, ho, ⟨w1, rfl, hq⟩, hP1.app (p2.kept (fun i p hp => hF.2 p.1 (p2 i p hp).lt (hno i p hp))), va_D.app (hD1.weaken (fun i p hp h => va_A.inl h)) (d2.weaken (fun i p hp _ => va_A.inr (Or.inl ⟨i, p.2, hp⟩))) (fun i j p q hp hq e => hno j q hq (by rw [← e]; exact hD1.2 i p hp))⟩, hF.mono (fun q h => va_A.inl h)⟩
theorem OkR.fl {d : Nat} {y : MethodName} {cc : ByteArray} {maxL : Nat} {ret : Option FieldType} {D : va_G} {tc : Tc} {av : List Value} {ws : va_W} {Qp : Option Value → va_W → Prop} (fr : va_W) (h : OkR d y cc maxL ret D tc av ws Qp) : OkR d y cc maxL ret D tc av (fr ++ ws) (fun r w => ∃ w1, w = fr ++ w1 ∧ Qp r w1) := by
  intro l sz p e h1 h2 h3 s m args below h4 h5 h6 h7
  obtain ⟨rfl, rfl, hP, hK, hD, hN⟩ := h6
  obtain ⟨k, o, a1, a2, a3, a4, L, a5, a6⟩ := h l s.heap.size p e h1 h2 h3 s m _ below h4 h5 ⟨rfl, rfl, (apP hP).2, hK, (apL hD).2.1, hN⟩ h7
  exact ⟨k, o, a1, a2, a3, QR_fl hP hD a4, L, a5, fun q hq => va_A.inr (a6 q hq)⟩
theorem OkR.fr {d : Nat} {y : MethodName} {cc : ByteArray} {maxL : Nat} {ret : Option FieldType} {D : va_G} {tc : Tc} {av : List Value} {ws : va_W} {Qp : Option Value → va_W → Prop} (fr : va_W) (h : OkR d y cc maxL ret D tc av ws Qp) : OkR d y cc maxL ret D tc av (ws ++ fr) (fun r w => ∃ w1, w = w1 ++ fr ∧ Qp r w1) := by
  intro l sz p e h1 h2 h3 s m args below h4 h5 h6 h7
  obtain ⟨rfl, rfl, hP, hK, hD, hN⟩ := h6
  obtain ⟨k, o, a1, a2, a3, a4, L, a5, a6⟩ := h l s.heap.size p e h1 h2 h3 s m _ below h4 h5 ⟨rfl, rfl, (apP hP).1, hK, (apL hD).1, hN⟩ h7
  exact ⟨k, o, a1, a2, a3, QR_fr hP hD a4, L, a5, fun q hq => va_A.inl (a6 q hq)⟩
theorem OkC.fl {d mc ms : Nat} {y : MethodName} {cc : ByteArray} {maxL : Nat} {D : va_G} {tc : Tc} {av : List Value} {ws : va_W} {Qp : va_W → Prop} (fr : va_W) (h : OkC d mc ms y cc maxL D tc av ws Qp) : OkC d mc ms y cc maxL D tc av (fr ++ ws) (fun w => ∃ w1, w = fr ++ w1 ∧ Qp w1) := by
  intro l sz p e h1 h2 h3 s m args below h4 h5 h6 h7
  obtain ⟨rfl, ⟨rfl, hP, hK, hD, hN⟩, hAO⟩ := h6
  obtain ⟨k, o, a1, a2, a3, a4, L, a5, a6⟩ := h l s.heap.size p e h1 h2 h3 s m _ below h4 h5 ⟨rfl, ⟨rfl, (apP hP).2, hK, (apL hD).2.1, hN⟩, hAO⟩ h7
  refine ⟨k, o, a1, a2, a3, ?_, L, a5, fun q hq => va_A.inr (a6 q hq)⟩
  obtain ⟨⟨r, w, b1, ⟨w1, b2, b3, b4⟩, b5⟩, b6⟩ := QR_fl hP hD a4
  exact ⟨⟨r, w, b1, ⟨b3, w1, b2, b4⟩, b5⟩, b6⟩
theorem PreC.blind {D : va_G} {tc : Tc} {av : List Value} {ws : va_W} {sz : Nat} : FrameBlind (va_Pc av (PreC D tc ws sz)) := fun a U g mk q => by
  obtain ⟨q0, ⟨q1, qP, qK, qD, qN⟩, qA⟩ := q
  exact ⟨q0, ⟨q1, qP, va_K.moved (u := U) (U := U.calling g mk a) (Vm.Alike.refl U.vm) qK, qD, qN.call⟩, va_AO.moved (u := U) (U := U.calling g mk a) (Vm.Alike.refl U.vm) qA⟩
section VCALLC
variable {X : Cx} {D : va_G} {tc : Tc} {cc : ByteArray} {own : String} {nL pc : Nat} {L : List (Option Value)} {st : List Value} {ws : va_W} {k n : Nat}
theorem V_backC {Qp : va_W → Prop} {rest : List Value} {a : Array Value} {mc ms : Nat} (hR : k + mc ≤ X.1.2.2.2.1.cells ∧ n + ms ≤ X.1.2.2.2.1.slots) (F : Fx (upc X k n) D tc cc own nL) {H : Heap} {locs : List Loc} {ls : Array Slot} (hP : va_P D vwCl ws H) (hD : va_D X.2.2.1.1 ws) (hS : va_S X.2.2.1.1 X.1.2.2.2.2.heap H locs) (hl : lvH ls nL L)
    (run : va_Run X.1.1 X.1.2.1 X.1.2.2.1 X.1.2.2.2.1 X.1.2.2.2.2 X.2.1.1 X.2.1.2.1 X.2.1.2.2.1 X.2.1.2.2.2.1 X.2.1.2.2.2.2 H locs k n mc ms (F0 X.2.1.1 pc ls st) rest (QR D (fun r w => r = none ∧ Qp w) (va_A ws H.size) a) (va_A ws H.size))
    (kk : ∀ ws' : va_W, Qp ws' → V (upc X (k + mc) (n + ms)) D tc cc own nL (pc + 3) L rest ws') : WW (upc X k n) H locs (F0 X.2.1.1 pc ls st) := by
  have hfree : ∀ q, va_A ws H.size q → X.2.2.1.1 q := by
    rintro q (⟨j, e, h⟩ | h)
    · exact hD.2 j _ h
    · exact F.2.2.2.2.2.2.2.1 q (Nat.le_trans hS.1 h)
  intro T hT St
  obtain ⟨v, st₀, t, T', L', h0, X', hL, e1, e2, ⟨⟨r, ws', hv, ⟨hr, hq⟩, hP', hD'⟩, hz, hk⟩, go⟩ := run T hT St
  cases hv
  subst hr
  rw [h0] at hz hk
  obtain ⟨t2, a1, b1⟩ := kk ws' hq (F.upc hR.1 hR.2) T'.heap (locs ++ L') ls (by rw [e1]; exact hP') (hD'.weaken (fun _ _ _ h => hfree _ h))
    ⟨Nat.le_trans hS.1 (by rw [e1]; exact hz), fun q h1 h2 => by rw [e1, hk q (Nat.lt_of_lt_of_le h1 hS.1) (fun z => h2 (hfree q z))]; exact hS.2.1 q h1 h2, fun q hq => by
      rcases List.mem_append.mp hq with h | h
      · exact hS.2.2 q h
      · exact hfree _ (hL q h)⟩ hl T' rfl X'
  exact ⟨t2, go t2 a1, b1⟩
/-- a nest mate's constructor -/
theorem V_callIN {d' mc ms idx maxL b : Nat} {y : MethodName} {cc' : ByteArray} {rest : List Value} {Qp : va_W → Prop} (hl : (own, idx, y) ∈ nstW) (hi : Cond.instanceMethod y ∈ bigW) (hini : Cond.initialized y.cls ∈ bigW) (hco : Cond.code y cc' maxL none ∈ bigW) (hy : okN y 0) (hnm : y.name = "<init>") (hok : OkC d' mc ms y cc' maxL D tc [.ref b] ws Qp) (hAO : va_AO RX3 X.1.2.2.2.2) (hd : decode cc pc = .ok (.invokespecial idx, 3)) (hdep : d' + 1 ≤ X.2.2.2.1 ∧ maxL ≤ 16) (hcat : (rest.map fun v => v.category).sum ≤ 8) (hR : k + mc ≤ X.1.2.2.2.1.cells ∧ n + ms ≤ X.1.2.2.2.1.slots) (kk : ∀ ws' : va_W, Qp ws' → V (upc X (k + mc) (n + ms)) D tc cc own nL (pc + 3) L rest ws') : V (upc X k n) D tc cc own nL pc L (.ref b :: rest) ws := by
  intro F H locs ls hP hD hS hlv
  have hR2 := F.2.2.2.2.2.2.2.2.2.2.1
  have ht := F.2.2.2.2.1
  exact V_backC (mc := mc) (ms := ms) hR F hP hD hS hlv (va_runIN (As := []) (rest := rest) (n := 0) (host := RX5) (b := b) ⟨F.1, F.2.1, F.2.2.1, F.2.2.2.1, F.2.2.2.2.1⟩ (hok X.1.2.1 H.size) ⟨va_cnB 0 ht (bigW_in (goodY hco)) rfl rfl rfl (F.2.2.2.2.2.2.1 _ hl) (ht _ hini) hy ⟨by show d' + 1 ≤ _; have := hR2.1; exact Nat.le_trans hdep.1 this, by show 8 + (maxL + 11) + 35 * d' ≤ _; have h1 := hR2.2; have h2 := hdep.1; have h3 : 35 * (d' + 1) ≤ 35 * X.2.2.2.1 := Nat.mul_le_mul_left _ h2; have h4 : 35 * X.2.2.2.1 ≤ X.1.2.2.2.1.locals := h1; omega⟩, hnm, ht _ hi⟩ ⟨PreC.blind, fun U hU hW => ⟨rfl, ⟨by rw [hU], by rw [hU]; exact hP, va_K.moved hW.alike F.2.2.2.2.2.1, hD.weaken (fun _ _ _ _ => trivial), F.2.2.2.2.2.2.1.warm hW⟩, va_AO.moved hW.alike hAO⟩⟩ rfl rfl hlv.1 rfl (lv_room hcat) hd hR) kk
/-- a constructor of another class -/
theorem V_callI {d' mc ms idx maxL b : Nat} {y : MethodName} {cc' : ByteArray} {rest : List Value} {Qp : va_W → Prop} (hl : Cond.methodLink own idx y ∈ bigW) (hi : Cond.instanceMethod y ∈ bigW) (hini : Cond.initialized y.cls ∈ bigW) (hco : Cond.code y cc' maxL none ∈ bigW) (hy : okN y 0) (hnm : y.name = "<init>") (hok : OkC d' mc ms y cc' maxL D tc [.ref b] ws Qp) (hAO : va_AO RX3 X.1.2.2.2.2) (hd : decode cc pc = .ok (.invokespecial idx, 3)) (hdep : d' + 1 ≤ X.2.2.2.1 ∧ maxL ≤ 16) (hcat : (rest.map fun v => v.category).sum ≤ 8) (hR : k + mc ≤ X.1.2.2.2.1.cells ∧ n + ms ≤ X.1.2.2.2.1.slots) (kk : ∀ ws' : va_W, Qp ws' → V (upc X (k + mc) (n + ms)) D tc cc own nL (pc + 3) L rest ws') : V (upc X k n) D tc cc own nL pc L (.ref b :: rest) ws := by
  intro F H locs ls hP hD hS hlv
  have hR2 := F.2.2.2.2.2.2.2.2.2.2.1
  have ht := F.2.2.2.2.1
  exact V_backC (mc := mc) (ms := ms) hR F hP hD hS hlv (va_runI (As := []) (rest := rest) (n := 0) (b := b) ⟨F.1, F.2.1, F.2.2.1, F.2.2.2.1, F.2.2.2.2.1⟩ (hok X.1.2.1 H.size) ⟨callB_of 0 ht (bigW_in (goodY hco)) rfl rfl rfl (ht _ hini) (ht _ hl) hy ⟨by show d' + 1 ≤ _; have := hR2.1; exact Nat.le_trans hdep.1 this, by show 8 + (maxL + 11) + 35 * d' ≤ _; have h1 := hR2.2; have h2 := hdep.1; have h3 : 35 * (d' + 1) ≤ 35 * X.2.2.2.1 := Nat.mul_le_mul_left _ h2; have h4 : 35 * X.2.2.2.1 ≤ X.1.2.2.2.1.locals := h1; omega⟩, hnm, ht _ hi⟩ ⟨PreC.blind, fun U hU hW => ⟨rfl, ⟨by rw [hU], by rw [hU]; exact hP, va_K.moved hW.alike F.2.2.2.2.2.1, hD.weaken (fun _ _ _ _ => trivial), F.2.2.2.2.2.2.1.warm hW⟩, va_AO.moved hW.alike hAO⟩⟩ rfl rfl hlv.1 rfl (lv_room hcat) hd hR) kk
end VCALLC

