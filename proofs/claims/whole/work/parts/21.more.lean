/-! more rows: calls by what they answer, arrays at a known place, small helps -/
def b2i (P : Prop) [Decidable P] : Int32 := if P then 1 else 0
theorem b2i_t {P : Prop} [Decidable P] (h : P) : b2i P = 1 := if_pos h
theorem b2i_f {P : Prop} [Decidable P] (h : ¬ P) : b2i P = 0 := if_neg h
theorem b2i_ne {P : Prop} [Decidable P] : ¬ b2i P = 0 ↔ P := by unfold b2i; by_cases h : P <;> simp [h]
theorem b2i_eq {P : Prop} [Decidable P] : b2i P = 0 ↔ ¬ P := by unfold b2i; by_cases h : P <;> simp [h]
theorem b2i_01 {P : Prop} [Decidable P] : b2i P = 0 ∨ b2i P = 1 := by unfold b2i; by_cases h : P <;> simp [h]
theorem b2i_congr {P Q : Prop} [Decidable P] [Decidable Q] (h : P ↔ Q) : b2i P = b2i Q := by unfold b2i; by_cases hq : Q <;> simp [h, hq]
theorem now5 : (5 : Nat) = 5 ∨ (5 : Nat) = 6 := Or.inl rfl
theorem dra6 : (6 : Nat) = 5 ∨ (6 : Nat) = 6 := Or.inr rfl
theorem dep {X : Cx} {D : va_G} {ret : Option FieldType} {d d' mx : Nat} {r : Option Value} {ws' : va_W} (hX : Aim X D ret d r ws') (h : d' + 1 ≤ d ∧ mx ≤ 16) : d' + 1 ≤ X.2.2.2.1 ∧ mx ≤ 16 := by rw [hX.2.2]; exact h
theorem dep1 {X : Cx} {D : va_G} {ret : Option FieldType} {d : Nat} {r : Option Value} {ws' : va_W} (hX : Aim X D ret d r ws') (h : 1 ≤ d) : 1 ≤ X.2.2.2.1 := by rw [hX.2.2]; exact h
section VMORE
variable {X : Cx} {D : va_G} {tc : Tc} {cc : ByteArray} {own : String} {nL pc : Nat} {L : List (Option Value)} {st : List Value} {ws : va_W}
theorem V_callV {d' idx maxL ci N b : Nat} {C : String} {T : u_T} {y : MethodName} {cc' : ByteArray} {ret : Option FieldType} {As rest : List Value} {v : Value} {ws' : va_W} {fs : List Value} (hl : LinkV own idx C y cc' maxL ret As.length) (hok : Ok d' y cc' maxL ret D tc (.ref b :: As) ws (some v) ws') (hd : decode cc pc = .ok (.invokevirtual idx, 3)) {q0 : Nat} (he : ws[q0]? = some (b, .inr (ci, fs))) (hc : vwCl[ci]? = some (C, T, N)) (hdep : d' + 1 ≤ X.2.2.2.1 ∧ maxL ≤ 16) (hst : st = As.reverse ++ .ref b :: rest) (hcat : (rest.map fun v => v.category).sum ≤ 8) (k : V X D tc cc own nL (pc + 3) L (v :: rest) ws') : V X D tc cc own nL pc L st ws := V_callVG hl hok hd he hc hdep hst hcat k
theorem V_callVv {d' idx maxL ci N b : Nat} {C : String} {T : u_T} {y : MethodName} {cc' : ByteArray} {ret : Option FieldType} {As rest : List Value} {ws' : va_W} {fs : List Value} (hl : LinkV own idx C y cc' maxL ret As.length) (hok : Ok d' y cc' maxL ret D tc (.ref b :: As) ws none ws') (hd : decode cc pc = .ok (.invokevirtual idx, 3)) {q0 : Nat} (he : ws[q0]? = some (b, .inr (ci, fs))) (hc : vwCl[ci]? = some (C, T, N)) (hdep : d' + 1 ≤ X.2.2.2.1 ∧ maxL ≤ 16) (hst : st = As.reverse ++ .ref b :: rest) (hcat : (rest.map fun v => v.category).sum ≤ 8) (k : V X D tc cc own nL (pc + 3) L rest ws') : V X D tc cc own nL pc L st ws := V_callVG hl hok hd he hc hdep hst hcat k
theorem V_callS {d' idx maxL : Nat} {y : MethodName} {cc' : ByteArray} {ret : Option FieldType} {As rest : List Value} {v : Value} {ws' : va_W} (hl : LinkS own idx y cc' maxL ret As.length) (hok : Ok d' y cc' maxL ret D tc As ws (some v) ws') (hd : decode cc pc = .ok (.invokestatic idx, 3)) (hdep : d' + 1 ≤ X.2.2.2.1 ∧ maxL ≤ 16) (hst : st = As.reverse ++ rest) (hcat : (rest.map fun v => v.category).sum ≤ 8) (k : V X D tc cc own nL (pc + 3) L (v :: rest) ws') : V X D tc cc own nL pc L st ws := V_callSG hl hok hd hdep hst hcat k
theorem V_callSv {d' idx maxL : Nat} {y : MethodName} {cc' : ByteArray} {ret : Option FieldType} {As rest : List Value} {ws' : va_W} (hl : LinkS own idx y cc' maxL ret As.length) (hok : Ok d' y cc' maxL ret D tc As ws none ws') (hd : decode cc pc = .ok (.invokestatic idx, 3)) (hdep : d' + 1 ≤ X.2.2.2.1 ∧ maxL ≤ 16) (hst : st = As.reverse ++ rest) (hcat : (rest.map fun v => v.category).sum ≤ 8) (k : V X D tc cc own nL (pc + 3) L rest ws') : V X D tc cc own nL pc L st ws := V_callSG hl hok hd hdep hst hcat k
theorem V_callN {d' idx maxL : Nat} {y : MethodName} {cc' : ByteArray} {ret : Option FieldType} {As rest : List Value} {v : Value} {ws' : va_W} (hl : LinkN own idx y cc' maxL ret As.length) (hok : Ok d' y cc' maxL ret D tc As ws (some v) ws') (hd : decode cc pc = .ok (.invokestatic idx, 3)) (hdep : d' + 1 ≤ X.2.2.2.1 ∧ maxL ≤ 16) (hst : st = As.reverse ++ rest) (hcat : (rest.map fun v => v.category).sum ≤ 8) (k : V X D tc cc own nL (pc + 3) L (v :: rest) ws') : V X D tc cc own nL pc L st ws := V_callNG hl hok hd hdep hst hcat k
/-- arrays at place k -/
theorem V_ialdk {a n k : Nat} {f : Nat → Int32} (hd : decode cc pc = .ok (.iaload, 1)) {q0 : Nat} (he : ws[q0]? = some (a, .inl (tc.1, n, .inl f))) (hin : k < n ∧ n < 2 ^ 31) (kk : V X D tc cc own nL (pc + 1) L (.int (f k) :: st) ws) : V X D tc cc own nL pc L (.int (nI k) :: .ref a :: st) ws := V_iald hd he (vp_in_nI hin.1 hin.2) (by rw [nI_clamp (Nat.lt_trans hin.1 hin.2)]; exact kk)
theorem V_zaldk {a n k : Nat} {f : Nat → Int32} (hd : decode cc pc = .ok (.baload, 1)) {q0 : Nat} (he : ws[q0]? = some (a, .inl (tc.2.1, n, .inl f))) (hin : k < n ∧ n < 2 ^ 31) (kk : V X D tc cc own nL (pc + 1) L (.int (f k) :: st) ws) : V X D tc cc own nL pc L (.int (nI k) :: .ref a :: st) ws := V_zald hd he (vp_in_nI hin.1 hin.2) (by rw [nI_clamp (Nat.lt_trans hin.1 hin.2)]; exact kk)
theorem V_iastk {a n k : Nat} {f : Nat → Int32} {x : Int32} (hd : decode cc pc = .ok (.iastore, 1)) {q0 : Nat} (he : ws[q0]? = some (a, .inl (tc.1, n, .inl f))) (hin : k < n ∧ n < 2 ^ 31) {ws' : va_W} (hw : ws.set q0 (a, .inl (tc.1, n, .inl (upd f k x))) = ws') (kk : V X D tc cc own nL (pc + 1) L st ws') : V X D tc cc own nL pc L (.int x :: .int (nI k) :: .ref a :: st) ws := V_iast hd he (vp_in_nI hin.1 hin.2) (by rw [nI_clamp (Nat.lt_trans hin.1 hin.2)]; exact hw) kk
theorem V_zastk {a n k : Nat} {f : Nat → Int32} {x : Int32} (hd : decode cc pc = .ok (.bastore, 1)) {q0 : Nat} (he : ws[q0]? = some (a, .inl (tc.2.1, n, .inl f))) (hin : k < n ∧ n < 2 ^ 31) (hx : x = 0 ∨ x = 1) {ws' : va_W} (hw : ws.set q0 (a, .inl (tc.2.1, n, .inl (upd f k x))) = ws') (kk : V X D tc cc own nL (pc + 1) L st ws') : V X D tc cc own nL pc L (.int x :: .int (nI k) :: .ref a :: st) ws := V_zast hd he (vp_in_nI hin.1 hin.2) (by rw [nI_clamp (Nat.lt_trans hin.1 hin.2), show vp_nar .boolean x = x by rcases hx with rfl | rfl <;> rfl]; exact hw) kk
/-- the state renamed: top of the stack, locals, cells -/
theorem V_top {x y : Int32} (h : x = y) (k : V X D tc cc own nL pc L (.int y :: st) ws) : V X D tc cc own nL pc L (.int x :: st) ws := h ▸ k
theorem V_eq {L' : List (Option Value)} {st' : List Value} {ws' : va_W} (h1 : L = L') (h2 : st = st') (h3 : ws = ws') (k : V X D tc cc own nL pc L' st' ws') : V X D tc cc own nL pc L st ws := by subst h1; subst h2; subst h3; exact k
/-- fewer locals are known -/
theorem V_weak {L' : List (Option Value)} (h : ∀ (i : Nat) (w : Value), lget L' i = some w → lget L i = some w) (k : V X D tc cc own nL pc L' st ws) : V X D tc cc own nL pc L st ws := fun F H locs ls hP hD hS hl => k F H locs ls hP hD hS ⟨hl.1, hl.2.1, fun i w hi => hl.2.2 i w (h i w hi)⟩
theorem V_dr0 {x : Option Value} {t : List (Option Value)} (k : V X D tc cc own nL pc (none :: t) st ws) : V X D tc cc own nL pc (x :: t) st ws := V_weak (fun i w h => by rcases i with _ | i <;> simp_all [lget]) k
theorem V_dr1 {a0 : Option Value} {x : Option Value} {t : List (Option Value)} (k : V X D tc cc own nL pc (a0 :: none :: t) st ws) : V X D tc cc own nL pc (a0 :: x :: t) st ws := V_weak (fun i w h => by rcases i with _ | _ | i <;> simp_all [lget]) k
theorem V_dr2 {a0 a1 : Option Value} {x : Option Value} {t : List (Option Value)} (k : V X D tc cc own nL pc (a0 :: a1 :: none :: t) st ws) : V X D tc cc own nL pc (a0 :: a1 :: x :: t) st ws := V_weak (fun i w h => by rcases i with _ | _ | _ | i <;> simp_all [lget]) k
theorem V_dr3 {a0 a1 a2 : Option Value} {x : Option Value} {t : List (Option Value)} (k : V X D tc cc own nL pc (a0 :: a1 :: a2 :: none :: t) st ws) : V X D tc cc own nL pc (a0 :: a1 :: a2 :: x :: t) st ws := V_weak (fun i w h => by rcases i with _ | _ | _ | _ | i <;> simp_all [lget]) k
theorem V_dr4 {a0 a1 a2 a3 : Option Value} {x : Option Value} {t : List (Option Value)} (k : V X D tc cc own nL pc (a0 :: a1 :: a2 :: a3 :: none :: t) st ws) : V X D tc cc own nL pc (a0 :: a1 :: a2 :: a3 :: x :: t) st ws := V_weak (fun i w h => by rcases i with _ | _ | _ | _ | _ | i <;> simp_all [lget]) k
theorem V_dr5 {a0 a1 a2 a3 a4 : Option Value} {x : Option Value} {t : List (Option Value)} (k : V X D tc cc own nL pc (a0 :: a1 :: a2 :: a3 :: a4 :: none :: t) st ws) : V X D tc cc own nL pc (a0 :: a1 :: a2 :: a3 :: a4 :: x :: t) st ws := V_weak (fun i w h => by rcases i with _ | _ | _ | _ | _ | _ | i <;> simp_all [lget]) k
theorem V_dr6 {a0 a1 a2 a3 a4 a5 : Option Value} {x : Option Value} {t : List (Option Value)} (k : V X D tc cc own nL pc (a0 :: a1 :: a2 :: a3 :: a4 :: a5 :: none :: t) st ws) : V X D tc cc own nL pc (a0 :: a1 :: a2 :: a3 :: a4 :: a5 :: x :: t) st ws := V_weak (fun i w h => by rcases i with _ | _ | _ | _ | _ | _ | _ | i <;> simp_all [lget]) k
theorem V_dr7 {a0 a1 a2 a3 a4 a5 a6 : Option Value} {x : Option Value} {t : List (Option Value)} (k : V X D tc cc own nL pc (a0 :: a1 :: a2 :: a3 :: a4 :: a5 :: a6 :: none :: t) st ws) : V X D tc cc own nL pc (a0 :: a1 :: a2 :: a3 :: a4 :: a5 :: a6 :: x :: t) st ws := V_weak (fun i w h => by rcases i with _ | _ | _ | _ | _ | _ | _ | _ | i <;> simp_all [lget]) k
theorem V_dr8 {a0 a1 a2 a3 a4 a5 a6 a7 : Option Value} {x : Option Value} {t : List (Option Value)} (k : V X D tc cc own nL pc (a0 :: a1 :: a2 :: a3 :: a4 :: a5 :: a6 :: a7 :: none :: t) st ws) : V X D tc cc own nL pc (a0 :: a1 :: a2 :: a3 :: a4 :: a5 :: a6 :: a7 :: x :: t) st ws := V_weak (fun i w h => by rcases i with _ | _ | _ | _ | _ | _ | _ | _ | _ | i <;> simp_all [lget]) k
theorem V_dr9 {a0 a1 a2 a3 a4 a5 a6 a7 a8 : Option Value} {x : Option Value} {t : List (Option Value)} (k : V X D tc cc own nL pc (a0 :: a1 :: a2 :: a3 :: a4 :: a5 :: a6 :: a7 :: a8 :: none :: t) st ws) : V X D tc cc own nL pc (a0 :: a1 :: a2 :: a3 :: a4 :: a5 :: a6 :: a7 :: a8 :: x :: t) st ws := V_weak (fun i w h => by rcases i with _ | _ | _ | _ | _ | _ | _ | _ | _ | _ | i <;> simp_all [lget]) k
theorem V_dr10 {a0 a1 a2 a3 a4 a5 a6 a7 a8 a9 : Option Value} {x : Option Value} {t : List (Option Value)} (k : V X D tc cc own nL pc (a0 :: a1 :: a2 :: a3 :: a4 :: a5 :: a6 :: a7 :: a8 :: a9 :: none :: t) st ws) : V X D tc cc own nL pc (a0 :: a1 :: a2 :: a3 :: a4 :: a5 :: a6 :: a7 :: a8 :: a9 :: x :: t) st ws := V_weak (fun i w h => by rcases i with _ | _ | _ | _ | _ | _ | _ | _ | _ | _ | _ | i <;> simp_all [lget]) k
theorem V_copyE {index a0 a n0 n1 : Nat} {f g : Nat → Int32} {spI dpI nI' : Int32} (hm : Cond.methodLink own index arraycopyName ∈ bigW) (hm2 : Cond.native arraycopyName ∈ bigW ∧ Cond.static arraycopyName ∈ bigW ∧ Cond.initialized "java/lang/System" ∈ bigW) (hdep : 1 ≤ X.2.2.2.1) (hroom : (st.map fun v => v.category).sum + (nativeFrameWords "java/lang/System" "arraycopy" 5 + 11) ≤ 35) (hd : decode cc pc = .ok (.invokestatic index, 3)) {q0 q1 : Nat} (he0 : ws[q0]? = some (a0, .inl (tc.1, n0, .inl f))) (he1 : ws[q1]? = some (a, .inl (tc.1, n1, .inl g))) (sp dp n : Nat) (e1 : spI = nI sp) (e2 : dpI = nI dp) (e3 : nI' = nI n) (h4 : sp + n ≤ n0 ∧ dp + n ≤ n1 ∧ n0 < 2 ^ 31 ∧ n1 < 2 ^ 31) {ws' : va_W} (hw : ws.set q1 (a, .inl (tc.1, n1, .inl (va_cpy f g sp dp n))) = ws') (kk : V X D tc cc own nL (pc + 3) L st ws') : V X D tc cc own nL pc L (.int nI' :: .int dpI :: .ref a :: .int spI :: .ref a0 :: st) ws := by
  subst e1; subst e2; subst e3
  have k1 : (nI sp).toNatClampNeg = sp := nI_clamp (by omega)
  have k2 : (nI dp).toNatClampNeg = dp := nI_clamp (by omega)
  have k3 : (nI n).toNatClampNeg = n := nI_clamp (by omega)
  exact V_copy hm hm2 hdep hroom hd he0 he1 (nI_pos (by omega)) (nI_pos (by omega)) (nI_pos (by omega)) (by rw [k1, k3]; exact h4.1) (by rw [k2, k3]; exact h4.2.1) (by rw [k1, k2, k3]; exact hw) kk
end VMORE
theorem swNe {x k : Int32} {a : Int} (h : ¬ x = k) (hk : k.toInt = a) : ¬ x.toInt = a := lv_neT h hk
theorem swOut3 {x : Int32} (e0 : ¬ x = 0) (e1 : ¬ x = 1) (e2 : ¬ x = 2) : x.toInt < 0 ∨ 2 < x.toInt := by
  have h0 := swNe e0 (a := 0) (by decide); have h1 := swNe e1 (a := 1) (by decide); have h2 := swNe e2 (a := 2) (by decide)
  omega
theorem swOut4 {x : Int32} (e0 : ¬ x = 0) (e1 : ¬ x = 1) (e2 : ¬ x = 2) (e3 : ¬ x = 3) : x.toInt < 0 ∨ 3 < x.toInt := by
  have h0 := swNe e0 (a := 0) (by decide); have h1 := swNe e1 (a := 1) (by decide); have h2 := swNe e2 (a := 2) (by decide); have h3 := swNe e3 (a := 3) (by decide)
  omega
theorem swOut5 {x : Int32} (e0 : ¬ x = 0) (e1 : ¬ x = 1) (e2 : ¬ x = 2) (e3 : ¬ x = 3) (e4 : ¬ x = 4) : x.toInt < 0 ∨ 4 < x.toInt := by
  have h0 := swNe e0 (a := 0) (by decide); have h1 := swNe e1 (a := 1) (by decide); have h2 := swNe e2 (a := 2) (by decide); have h3 := swNe e3 (a := 3) (by decide); have h4 := swNe e4 (a := 4) (by decide)
  omega
/-- a counted loop: the state at its head is a function of how often it went round -/
theorem V_for {X : Cx} {D : va_G} {tc : Tc} {cc : ByteArray} {own : String} {nL pc : Nat} (Lf : Nat → List (Option Value)) (Wf : Nat → va_W) (n : Nat) (hs : ∀ k, k < n → V X D tc cc own nL pc (Lf (k + 1)) [] (Wf (k + 1)) → V X D tc cc own nL pc (Lf k) [] (Wf k)) (he : V X D tc cc own nL pc (Lf n) [] (Wf n)) : ∀ i, i ≤ n → V X D tc cc own nL pc (Lf i) [] (Wf i) := by
  intro i hi
  obtain ⟨j, rfl⟩ : ∃ j, n = i + j := ⟨n - i, by omega⟩
  induction j generalizing i with
  | zero => exact he
  | succ j ih => exact hs i (by omega) (ih (i + 1) (by simpa [Nat.add_assoc, Nat.add_comm 1 j] using hs) (by simpa [Nat.add_assoc, Nat.add_comm 1 j] using he) (by omega))
/-- a counted loop with a fact that is carried along -/
theorem V_forI {X : Cx} {D : va_G} {tc : Tc} {cc : ByteArray} {own : String} {nL pc : Nat} (Inv : Nat → Prop) (Lf : Nat → List (Option Value)) (Wf : Nat → va_W) (n : Nat) (hs : ∀ k, k < n → Inv k → (Inv (k + 1) → V X D tc cc own nL pc (Lf (k + 1)) [] (Wf (k + 1))) → V X D tc cc own nL pc (Lf k) [] (Wf k)) (he : Inv n → V X D tc cc own nL pc (Lf n) [] (Wf n)) : ∀ i, i ≤ n → Inv i → V X D tc cc own nL pc (Lf i) [] (Wf i) := by
  intro i hi
  obtain ⟨j, rfl⟩ : ∃ j, n = i + j := ⟨n - i, by omega⟩
  induction j generalizing i with
  | zero => exact he
  | succ j ih => exact fun h0 => hs i (by omega) h0 (ih (i + 1) (by simpa [Nat.add_assoc, Nat.add_comm 1 j] using hs) (by simpa [Nat.add_assoc, Nat.add_comm 1 j] using he) (by omega))
theorem wcp : Cond.native arraycopyName ∈ bigW ∧ Cond.static arraycopyName ∈ bigW ∧ Cond.initialized "java/lang/System" ∈ bigW := ⟨bw 267 (by decide +kernel) (by decide +kernel), bw 266 (by decide +kernel) (by decide +kernel), wI_java_lang_System⟩
theorem wM_X1_58 : Cond.methodLink RX1 58 arraycopyName ∈ bigW := bw 295 (by decide +kernel) (by decide +kernel)
theorem wM_X4_30 : Cond.methodLink RX4 30 arraycopyName ∈ bigW := bw 265 (by decide +kernel) (by decide +kernel)
theorem wM_X5_234 : Cond.methodLink RX5 234 arraycopyName ∈ bigW := bw 573 (by decide +kernel) (by decide +kernel)
