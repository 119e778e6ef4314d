/-! THE CLAIM OUT OF ONE WALK OF THE LAW'S BODY. Your part is whole_start (and what it stands on); all else here is the same for every law, but numbers. -/
def R_law : String := "MornMarketLaw"
def lw_P (b : Addr) (xs : List Int32) (args : Array Value) (s : State) : Prop := args = #[.ref b] ∧ s.IntsAt b xs ∧ xs.length ≤ 384 ∧ (Jvm.Cond.and given_1 narrow_1).before args s = true
def lw_Q (_ : Array Value) (s : State) (o : Outcome) (t : State) : Prop := o = .returned (some (.int 1)) ∧ Framed s o t [] 600000 7302250
def lw_Z (below : List Frame) (a : Array Value) (s : State) : State → Prop := fun t => ∃ o, t.status = .running ∧ Ended t below o ∧ lw_Q a s o t
/-- the law's own end, with 1 on the stack, nothing written that was there before, its room as the claim has it -/
theorem lw_ret {p : Program} {l : Launch} {e : Env} {s : State} {m : MethodId} {below : List Frame} {meth : Method} {c : Code} {b : Nat} (hx : p.tables.exec = Jvm.exec) (hb : c.code = code) (hr : meth.sig.returnType = ret) (hlocks : meth.locks = false) {pc : Nat} {H : Heap} {ls : Array Slot} (hdg : decode code pc = .ok (.ireturn, 1)) : W p l e room_1 s m #[Value.ref b] below meth c H [] 600000 7302250 (lw_Z below #[Value.ref b] s) (F0 m pc ls [.int 1]) := by
  intro T hT X
  obtain ⟨fs, hret, hrun, hended, hW, hframe⟩ := X.leave (v := some (.int 1)) (hlocks := hlocks) (fun h => by rw [hr] at h; cases h)
  have hmeth' : T.vm.method? m = some meth := X.method'
  refine ⟨T.setFrames fs, ?_, .returned (some (.int 1)), hrun, hended, rfl, ⟨_, rfl⟩, hW, hframe⟩
  jvm_step X.here [X.here.top, hx, hb, hdg, hmeth', hr, ret, narrow_b1]
  (try refine ⟨rfl, ?_⟩); (try refine ⟨rfl, ?_⟩)
  first | (intro acts; rw [hret _ acts rfl rfl rfl]) | rw [hret _ _ rfl rfl rfl]
  exact Steps.refl _
/-- what holds at the law's entry: the machine, the code, the tables' words (any of lw_tbl by 'hts w (by decide +kernel)'), the script of L ints xs at the cell b, what the Statement gives of the start (any of its parts by flat_of_before) -/
def lw_At (p : Program) (s : State) (m : MethodId) (meth : Method) (c : Code) (b L : Nat) (xs : Nat → Int32) : Prop :=
  p.tables.exec = Jvm.exec ∧ c.code = code ∧ meth.sig.returnType = ret ∧ c.maxLocals = 4 ∧ s.vm.findClass R_law = some m.cls ∧ (∀ w ∈ lw_tbl, w.before #[Value.ref b] s = true) ∧ va_X b L xs s s.heap ∧ b < s.heap.size ∧ meth.locks = false ∧ (Jvm.Cond.and given_1 narrow_1).before #[Value.ref b] s = true
theorem wLL5 : Cond.classLink RL 7 RX5 ∈ bigW := bw 59 (by decide +kernel) (by decide +kernel)
theorem wLL6 : Cond.classLink RL 10 RX6 ∈ bigW := bw 622 (by decide +kernel) (by decide +kernel)
theorem wML5 : Cond.methodLink RL 9 yX5_init ∈ bigW := bw 61 (by decide +kernel) (by decide +kernel)
theorem wML6 : Cond.methodLink RL 12 yX6_init ∈ bigW := bw 624 (by decide +kernel) (by decide +kernel)
theorem wAO : Cond.arrayOver (.object RX3) ∈ lw_tbl := List.mem_of_getElem? (i := 68) (by decide +kernel)
theorem wNs0 : Cond.methodLinkNest RX5 19 yX1_init RX5 ∈ lw_tbl := List.mem_of_getElem? (i := 71) (by decide +kernel)
theorem wNs1 : Cond.methodLinkNest RX5 29 yX4_init RX5 ∈ lw_tbl := List.mem_of_getElem? (i := 135) (by decide +kernel)
theorem wNs2 : Cond.methodLinkNest RX5 36 yX0_init RX5 ∈ lw_tbl := List.mem_of_getElem? (i := 154) (by decide +kernel)
theorem wNs3 : Cond.methodLinkNest RX5 43 yX2_init RX5 ∈ lw_tbl := List.mem_of_getElem? (i := 171) (by decide +kernel)
theorem wNs4 : Cond.methodLinkNest RX5 55 yX3_init RX5 ∈ lw_tbl := List.mem_of_getElem? (i := 190) (by decide +kernel)
theorem wNs5 : Cond.methodLinkNest RX0 32 yX5_isIn RX5 ∈ lw_tbl := List.mem_of_getElem? (i := 459) (by decide +kernel)
theorem wNs6 : Cond.methodLinkNest RX0 48 yX5_isWithin RX5 ∈ lw_tbl := List.mem_of_getElem? (i := 455) (by decide +kernel)
theorem wNs7 : Cond.methodLinkNest RX1 64 yX5_isIn RX5 ∈ lw_tbl := List.mem_of_getElem? (i := 308) (by decide +kernel)
theorem wNs8 : Cond.methodLinkNest RX1 72 yX5_freshBy RX5 ∈ lw_tbl := List.mem_of_getElem? (i := 354) (by decide +kernel)
theorem wNs9 : Cond.methodLinkNest RX2 25 yX5_freshBy RX5 ∈ lw_tbl := List.mem_of_getElem? (i := 525) (by decide +kernel)
theorem nst_of {s : State} {args : Array Value} (h : ∀ w ∈ lw_tbl, w.before args s = true) : Nst s := by
  intro q hq
  simp only [nstW, List.mem_cons, List.not_mem_nil, or_false] at hq
  rcases hq with rfl | rfl | rfl | rfl | rfl | rfl | rfl | rfl | rfl | rfl
  · exact va_Nw.of rfl (h _ wNs0)
  · exact va_Nw.of rfl (h _ wNs1)
  · exact va_Nw.of rfl (h _ wNs2)
  · exact va_Nw.of rfl (h _ wNs3)
  · exact va_Nw.of rfl (h _ wNs4)
  · exact va_Nw.of rfl (h _ wNs5)
  · exact va_Nw.of rfl (h _ wNs6)
  · exact va_Nw.of rfl (h _ wNs7)
  · exact va_Nw.of rfl (h _ wNs8)
  · exact va_Nw.of rfl (h _ wNs9)
/-- the classes, as the tables have them -/
theorem known_of {s : State} {args : Array Value} (h : ∀ w ∈ lw_tbl, w.before args s = true) : ∃ (D : va_G) (tc : Tc), va_K D vwCl (TY tc) s := by
  have hb : ∀ w ∈ bigW, w.before args s = true := fun w hw => h w (bigW_tbl w hw)
  obtain ⟨c0, i0, k0⟩ := u_known (C := RX0) (T := TX0) (N := 3) (n := 3) hb inX0 (hb _ wN_X0)
  obtain ⟨c1, i1, k1⟩ := u_known (C := RX1) (T := TX1) (N := 12) (n := 12) hb inX1 (hb _ wN_X1)
  obtain ⟨c2, i2, k2⟩ := u_known (C := RX2) (T := TX2) (N := 4) (n := 4) hb inX2 (hb _ wN_X2)
  obtain ⟨c3, i3, k3⟩ := u_known (C := RX3) (T := TX3) (N := 3) (n := 3) hb inX3 (hb _ wN_X3)
  obtain ⟨c4, i4, k4⟩ := u_known (C := RX4) (T := TX4) (N := 4) (n := 4) hb inX4 (hb _ wN_X4)
  obtain ⟨c5, i5, k5⟩ := u_known (C := RX5) (T := TX5) (N := 8) (n := 8) hb inX5 (hb _ wN_X5)
  obtain ⟨c6, i6, k6⟩ := u_known (C := RX6) (T := TX6) (N := 37) (n := 37) hb inX6 (hb _ wN_X6)
  obtain ⟨tI, kI, pI, a1, a2, a3⟩ := Cond.arrayClass_spec (hb _ wA_int)
  obtain ⟨tZ, kZ, pZ, b1, b2, b3⟩ := Cond.arrayClass_spec (hb _ wA_bool)
  obtain ⟨pO, tO, kO, d1, -, d3, d4, d5⟩ := Cond.arrayOver_spec (h _ wAO)
  refine ⟨(fun k => ([c0, c1, c2, c3, c4, c5, c6]).getD k c0, fun k => ([i0, i1, i2, i3, i4, i5, i6]).getD k i0), (tI, tZ, tO), ?_, ?_⟩
  · intro k q hq
    rcases k with _ | _ | _ | _ | _ | _ | _ | k
    · cases hq; exact k0
    · cases hq; exact k1
    · cases hq; exact k2
    · cases hq; exact k3
    · cases hq; exact k4
    · cases hq; exact k5
    · cases hq; exact k6
    · exact absurd (show (none : Option vw_C) = some q from hq) (by simp)
  · intro k q hq
    rcases k with _ | _ | _ | k
    · cases hq
      exact ⟨fun n z => ⟨fun k h => (by cases h), kI, a2, pI, a3⟩, a1⟩
    · cases hq
      exact ⟨fun n z => ⟨fun k h => (by cases h), kZ, b2, pZ, b3⟩, b1⟩
    · cases hq
      exact ⟨fun n z => ⟨fun k h => (by cases h), kO, d3, pO, d4⟩, kO, pO, d3, d4, d1, d5⟩
    · exact absurd (show (none : Option (ClassId × FieldType)) = some q from hq) (by simp)
theorem V_law_end {X : Cx} {D : va_G} {tc : Tc} {b : Nat} {L : List (Option Value)} {ws : va_W} (hZ : X.2.2.1.2.1 = lw_Z X.2.1.2.2.1 X.2.1.2.1 X.1.2.2.2.2) (hA : X.2.2.1.1 = fun q => X.1.2.2.2.2.heap.size ≤ q) (hrm : X.1.2.2.2.1 = room_1) (hret : X.2.2.1.2.2 = ret) (hargs : X.2.1.2.1 = #[.ref b]) : V X D tc cL_law RL 4 1257 L [] ws := by
  refine V_iconst 1 dL_law_1257 (by decide) ?_
  intro F H locs ls hP hD hS hl
  unfold WW
  rw [hZ, hrm, hargs]
  refine va_forget (fun q hq => by have := hS.2.2 q hq; rw [hA] at this; exact this) ?_
  refine W.widen (k := 600000) (n := 7302250) (by have := F.2.2.2.2.2.2.2.2.2.2.2.1; rw [hrm] at this; exact this) (by have := F.2.2.2.2.2.2.2.2.2.2.2.2; rw [hrm] at this; exact this) ?_
  exact lw_ret F.1 F.2.1 (by rw [F.2.2.2.2.2.2.2.2.1, hret]) F.2.2.2.2.2.2.2.2.2.1 dL_law_1258
set_option maxRecDepth 100000 in
set_option maxHeartbeats 4000000 in
theorem law_start {X : Cx} {D : va_G} {tc : Tc} {b Ls : Nat} {xs : Nat → Int32} {Rl : St → Sm → Prop} (hP : AllP Rl) (h0 : Rl sg0 ta0) (hs : Scr X b Ls xs) (h8 : X.2.2.2.1 = 8) (hL : Ls ≤ 384) (hAO : va_AO RX3 X.1.2.2.2.2) (hZ : X.2.2.1.2.1 = lw_Z X.2.1.2.2.1 X.2.1.2.1 X.1.2.2.2.2) (hA : X.2.2.1.1 = fun q => X.1.2.2.2.2.heap.size ≤ q) (hrm : X.1.2.2.2.1 = room_1) (hret : X.2.2.1.2.2 = ret) (hargs : X.2.1.2.1 = #[.ref b]) : V (upc X 0 0) D tc cL_law RL 4 0 [some (.ref b), none, none, none] [] [] := by
  have hroom : ∀ k n : Nat, k ≤ 600000 ∧ n ≤ 7302250 → k ≤ X.1.2.2.2.1.cells ∧ n ≤ X.1.2.2.2.1.slots := fun k n h => by rw [hrm]; exact h
  refine V_newO (N := 8) (ci := 5) (fs := [.null, .null, .null, .null, .null, .null, .int 0, .int 0]) wLL5 wN_X5 wI_MornMarket inX5 rfl tyX5 tyX5_ok dfX5 dL_law_0 (hroom _ _ (by decide)) (fun q1 => ?_)
  refine V_dupa dL_law_3 ?_
  refine V_callI wML5 wIi_X5 wI_MornMarket wIc_X5 ⟨by decide, by decide, by decide +kernel⟩ rfl ((ok_initX5 (b := q1)).fl []) hAO dL_law_4 (dep8 (d := 2) h8 (by decide) (by decide)) (Nat.le_of_ble_eq_true rfl) (hroom _ _ (by decide)) (fun ws' hq => ?_)
  obtain ⟨w1, rfl, A, rfl, rfl⟩ := hq
  refine V_ast1 dL_law_7 rfl (by decide) ?_
  refine V_newO (N := 37) (ci := 6) (fs := [.int 0, .int 0, .null, .null, .null, .int 0, .int 0, .int 0, .int 0, .null, .null, .null, .null, .null, .null, .null, .null, .int 0, .int 0, .int 0, .int 0, .null, .null, .int 0, .null, .null, .null, .null, .null, .null, .null, .int 0, .int 0, .int 0, .null, .null, .null]) wLL6 wN_X6 wI_MornMarketModel inX6 rfl tyX6 tyX6_ok dfX6 dL_law_8 (hroom _ _ (by decide)) (fun q2 => ?_)
  refine V_dupa dL_law_11 ?_
  refine V_callI wML6 wIi_X6 wI_MornMarketModel wIc_X6 ⟨by decide, by decide, by decide +kernel⟩ rfl ((ok_initX6 (b := q2)).fl ([] ++ cW A tc sg0)) hAO dL_law_12 (dep8 (d := 1) h8 (by decide) (by decide)) (Nat.le_of_ble_eq_true rfl) (hroom _ _ (by decide)) (fun ws' hq => ?_)
  obtain ⟨w1, rfl, B, rfl, rfl⟩ := hq
  refine V_ast2 dL_law_15 rfl (by decide) ?_
  refine V_iconst 0 dL_law_16 (by decide) ?_
  refine V_ist3 dL_law_17 rfl (by decide) ?_
  exact law_loop (X := upc X (0 + 1 + 33 + 1 + 23) (0 + 8 + 639 + 37 + 378)) hP hs h8 hL (fun i σ τ => V_law_end (X := upc X (0 + 1 + 33 + 1 + 23) (0 + 8 + 639 + 37 + 378)) hZ hA hrm hret hargs) (Ls + 1) 0 sg0 ta0 (by omega) (by omega) h0
set_option maxRecDepth 100000 in
set_option maxHeartbeats 4000000 in
theorem start_of {Rl : St → Sm → Prop} (hAll : AllP Rl) (h0 : Rl sg0 ta0) {p : Program} {e : Env} {s : State} {m : MethodId} {below : List Frame} {meth : Method} {c : Code} (l : Launch) {b L : Nat} {xs : Nat → Int32} (hL : L ≤ 384) (C0 : lw_At p s m meth c b L xs) : W p l e room_1 s m #[Value.ref b] below meth c s.heap [] 0 0 (lw_Z below #[Value.ref b] s) (entryFrame m ([Value.ref b] : List Value).toArray 4) := by
  obtain ⟨hx, hb, hr, hml, hown, hts, hX, hbl, hlocks, hgv⟩ := C0
  obtain ⟨D, tc, hK⟩ := known_of hts
  have hl := lv_entry ([.ref b]) (n := 4) (Nat.le_of_ble_eq_true rfl)
  rw [lg_entry_eq]
  exact law_start (X := ((p, l, e, room_1, s), (m, #[Value.ref b], below, meth, c), ((fun q : Nat => s.heap.size ≤ q), lw_Z below #[Value.ref b] s, ret), (8, 0, 0))) (D := D) (tc := tc) hAll h0 ⟨hX, hbl, Nat.not_le.mpr hbl⟩ rfl hL (va_AO.of (hts _ wAO)) rfl rfl rfl rfl rfl
    ⟨hx, hb, hml, hown, fun w hw => hts w (bigW_tbl w hw), hK, nst_of hts, fun q h => h, hr, hlocks, ⟨(show (8 : Nat) ≤ 9 by decide), (show 35 * 8 ≤ 332 by decide)⟩, Nat.zero_le _, Nat.zero_le _⟩ s.heap [] _ (fun k q h => by simp at h) ⟨fun i j p q h => by simp at h, fun k q h => by simp at h⟩ va_S.rf (lvH.of hl rfl)
