/-! the words of the constructors -/
theorem wOi : Cond.instanceMethod objectInit ∈ bigW := bw 65 (by decide +kernel) (by decide +kernel)
theorem wOc : Cond.code objectInit ⟨#[0xb1]⟩ 1 none ∈ bigW := bw 66 (by decide +kernel) (by decide +kernel)
theorem wO_X0 : Cond.methodLink RX0 3 objectInit ∈ bigW := bw 157 (by decide +kernel) (by decide +kernel)
theorem wN_X0 : Cond.instantiable RX0 3 ∈ bigW := bw 153 (by decide +kernel) (by decide +kernel)
theorem wIi_X0 : Cond.instanceMethod yX0_init ∈ bigW := bw 155 (by decide +kernel) (by decide +kernel)
theorem wIc_X0 : Cond.code yX0_init cX0_init 1 none ∈ bigW := bw 156 (by decide +kernel) (by decide +kernel)
theorem wO_X1 : Cond.methodLink RX1 3 objectInit ∈ bigW := bw 74 (by decide +kernel) (by decide +kernel)
theorem wN_X1 : Cond.instantiable RX1 12 ∈ bigW := bw 70 (by decide +kernel) (by decide +kernel)
theorem wIi_X1 : Cond.instanceMethod yX1_init ∈ bigW := bw 72 (by decide +kernel) (by decide +kernel)
theorem wIc_X1 : Cond.code yX1_init cX1_init 1 none ∈ bigW := bw 73 (by decide +kernel) (by decide +kernel)
theorem wO_X2 : Cond.methodLink RX2 3 objectInit ∈ bigW := bw 174 (by decide +kernel) (by decide +kernel)
theorem wN_X2 : Cond.instantiable RX2 4 ∈ bigW := bw 170 (by decide +kernel) (by decide +kernel)
theorem wIi_X2 : Cond.instanceMethod yX2_init ∈ bigW := bw 172 (by decide +kernel) (by decide +kernel)
theorem wIc_X2 : Cond.code yX2_init cX2_init 1 none ∈ bigW := bw 173 (by decide +kernel) (by decide +kernel)
theorem wO_X3 : Cond.methodLink RX3 3 objectInit ∈ bigW := bw 193 (by decide +kernel) (by decide +kernel)
theorem wN_X3 : Cond.instantiable RX3 3 ∈ bigW := bw 189 (by decide +kernel) (by decide +kernel)
theorem wIi_X3 : Cond.instanceMethod yX3_init ∈ bigW := bw 191 (by decide +kernel) (by decide +kernel)
theorem wIc_X3 : Cond.code yX3_init cX3_init 1 none ∈ bigW := bw 192 (by decide +kernel) (by decide +kernel)
theorem wO_X4 : Cond.methodLink RX4 3 objectInit ∈ bigW := bw 138 (by decide +kernel) (by decide +kernel)
theorem wN_X4 : Cond.instantiable RX4 4 ∈ bigW := bw 134 (by decide +kernel) (by decide +kernel)
theorem wIi_X4 : Cond.instanceMethod yX4_init ∈ bigW := bw 136 (by decide +kernel) (by decide +kernel)
theorem wIc_X4 : Cond.code yX4_init cX4_init 1 none ∈ bigW := bw 137 (by decide +kernel) (by decide +kernel)
theorem wO_X5 : Cond.methodLink RX5 3 objectInit ∈ bigW := bw 64 (by decide +kernel) (by decide +kernel)
theorem wN_X5 : Cond.instantiable RX5 8 ∈ bigW := bw 60 (by decide +kernel) (by decide +kernel)
theorem wIi_X5 : Cond.instanceMethod yX5_init ∈ bigW := bw 62 (by decide +kernel) (by decide +kernel)
theorem wIc_X5 : Cond.code yX5_init cX5_init 2 none ∈ bigW := bw 63 (by decide +kernel) (by decide +kernel)
theorem wO_X6 : Cond.methodLink RX6 1 objectInit ∈ bigW := bw 627 (by decide +kernel) (by decide +kernel)
theorem wN_X6 : Cond.instantiable RX6 37 ∈ bigW := bw 623 (by decide +kernel) (by decide +kernel)
theorem wIi_X6 : Cond.instanceMethod yX6_init ∈ bigW := bw 625 (by decide +kernel) (by decide +kernel)
theorem wIc_X6 : Cond.code yX6_init cX6_init 1 none ∈ bigW := bw 626 (by decide +kernel) (by decide +kernel)
theorem wL_X3 : Cond.classLink RX5 11 RX3 ∈ bigW := bw 67 (by decide +kernel) (by decide +kernel)
theorem wL_X1 : Cond.classLink RX5 17 RX1 ∈ bigW := bw 69 (by decide +kernel) (by decide +kernel)
theorem wL_X4 : Cond.classLink RX5 27 RX4 ∈ bigW := bw 133 (by decide +kernel) (by decide +kernel)
theorem wL_X0 : Cond.classLink RX5 34 RX0 ∈ bigW := bw 152 (by decide +kernel) (by decide +kernel)
theorem wL_X2 : Cond.classLink RX5 41 RX2 ∈ bigW := bw 169 (by decide +kernel) (by decide +kernel)
section VFUN
variable {X : Cx} {D : va_G} {tc : Tc} {cc : ByteArray} {own : String} {nL pc : Nat} {L : List (Option Value)} {st : List Value} {ws : va_W}
theorem V_fun {i a n : Nat} {c : ClassId} {f g : Nat → Option Nat} (he : ws[i]? = some (a, .inl (c, n, .inr (.inr (.inr (.inr f)))))) (hfg : ∀ k, k < n → f k = g k) {ws' : va_W} (hw : ws.set i (a, .inl (c, n, .inr (.inr (.inr (.inr g))))) = ws') (kk : V X D tc cc own nL pc L st ws') : V X D tc cc own nL pc L st ws := by
  intro F H locs ls hP hD hS hlv
  subst hw
  have hlt : i < ws.length := (List.getElem?_eq_some_iff.mp he).1
  have key : ∀ (k : Nat) (q : Nat × va_E), (ws.set i (a, .inl (c, n, .inr (.inr (.inr (.inr g))))))[k]? = some q → (k = i ∧ q = (a, .inl (c, n, .inr (.inr (.inr (.inr g)))))) ∨ ws[k]? = some q := by
    intro k q hk
    by_cases e : k = i
    · subst e
      rw [List.getElem?_set_self hlt] at hk
      exact Or.inl ⟨rfl, (Option.some.inj hk).symm⟩
    · rw [List.getElem?_set_ne (fun z => e z.symm)] at hk
      exact Or.inr hk
  have key2 : ∀ (k : Nat) (q : Nat × va_E), (ws.set i (a, .inl (c, n, .inr (.inr (.inr (.inr g))))))[k]? = some q → ∃ q', ws[k]? = some q' ∧ q'.1 = q.1 := by
    intro k q hk
    rcases key k q hk with ⟨rfl, rfl⟩ | h
    · exact ⟨_, he, rfl⟩
    · exact ⟨q, h, rfl⟩
  refine kk F H locs ls (fun k q hk => ?_) ⟨fun k1 k2 q1 q2 h1 h2 e => ?_, fun k q hk => ?_⟩ hS hlv
  · rcases key k q hk with ⟨rfl, rfl⟩ | h
    · have := hP _ _ he
      show H[a]? = some (vp_cell c (n, .inr (.inr (.inr (.inr g)))))
      have e2 : vp_cell c (n, .inr (.inr (.inr (.inr g)))) = vp_cell c (n, .inr (.inr (.inr (.inr f)))) := by
        rw [vp_cell_q, vp_cell_q]
        unfold arrV
        congr 2
        funext j
        show va_rf (g j.val) = va_rf (f j.val)
        rw [hfg j.val j.isLt]
      rw [e2]
      exact this
    · exact hP k q h
  · obtain ⟨p1, a1, b1⟩ := key2 k1 q1 h1
    obtain ⟨p2, a2, b2⟩ := key2 k2 q2 h2
    exact hD.1 k1 k2 p1 p2 a1 a2 (by rw [b1, b2, e])
  · obtain ⟨p1, a1, b1⟩ := key2 k q hk
    rw [← b1]
    exact hD.2 k p1 a1
theorem V_aast {q0 qk a v n k : Nat} {f : Nat → Option Nat} {vs : List Value} (hd : decode cc pc = .ok (.aastore, 1)) (ha : ws[q0]? = some (a, .inl (tc.2.2, n, .inr (.inr (.inr (.inr f)))))) (hv : ws[qk]? = some (v, .inr (3, vs))) (hin : k < n ∧ n < 2 ^ 31) {ws' : va_W} (hw : ws.set q0 (a, .inl (tc.2.2, n, .inr (.inr (.inr (.inr (va_up f k (some v))))))) = ws') (kk : V X D tc cc own nL (pc + 1) L st ws') : V X D tc cc own nL pc L (.ref v :: .int (nI k) :: .ref a :: st) ws := by
  intro F H locs ls hP hD hS hlv
  refine va_astq (ci := 3) (r := (RX3, TX3, 3)) F.1 F.2.1 F.2.2.2.2.2.1 hP hD hS q0 2 qk ha rfl hv rfl (vp_in_nI hin.1 hin.2) hd (fun H1 locs1 hP1 hD1 hS1 => ?_)
  rw [nI_clamp (Nat.lt_trans hin.1 hin.2)] at hP1 hD1
  exact kk F H1 locs1 ls (hw ▸ hP1) (hw ▸ hD1) hS1 hlv
end VFUN
section
variable {D : va_G} {tc : Tc} {b : Nat}
theorem dfX0 : ∀ j, j < 3 → defaultValue (tyX0 j) = vp_V [.null, .int 0, .int 0] j := by
  intro j hj
  rcases j with _ | _ | _ | j
  · rfl
  · rfl
  · rfl
  · omega
theorem dfX1 : ∀ j, j < 12 → defaultValue (tyX1 j) = vp_V [.null, .null, .null, .null, .null, .null, .null, .int 0, .int 0, .int 0, .int 0, .int 0] j := by
  intro j hj
  rcases j with _ | _ | _ | _ | _ | _ | _ | _ | _ | _ | _ | _ | j
  · rfl
  · rfl
  · rfl
  · rfl
  · rfl
  · rfl
  · rfl
  · rfl
  · rfl
  · rfl
  · rfl
  · rfl
  · omega
theorem dfX2 : ∀ j, j < 4 → defaultValue (tyX2 j) = vp_V [.null, .null, .null, .int 0] j := by
  intro j hj
  rcases j with _ | _ | _ | _ | j
  · rfl
  · rfl
  · rfl
  · rfl
  · omega
theorem dfX3 : ∀ j, j < 3 → defaultValue (tyX3 j) = vp_V [.null, .int 0, .int 0] j := by
  intro j hj
  rcases j with _ | _ | _ | j
  · rfl
  · rfl
  · rfl
  · omega
theorem dfX4 : ∀ j, j < 4 → defaultValue (tyX4 j) = vp_V [.null, .int 0, .int 0, .int 0] j := by
  intro j hj
  rcases j with _ | _ | _ | _ | j
  · rfl
  · rfl
  · rfl
  · rfl
  · omega
theorem dfX5 : ∀ j, j < 8 → defaultValue (tyX5 j) = vp_V [.null, .null, .null, .null, .null, .null, .int 0, .int 0] j := by
  intro j hj
  rcases j with _ | _ | _ | _ | _ | _ | _ | _ | j
  · rfl
  · rfl
  · rfl
  · rfl
  · rfl
  · rfl
  · rfl
  · rfl
  · omega
theorem dfX6 : ∀ j, j < 37 → defaultValue (tyX6 j) = vp_V [.int 0, .int 0, .null, .null, .null, .int 0, .int 0, .int 0, .int 0, .null, .null, .null, .null, .null, .null, .null, .null, .int 0, .int 0, .int 0, .int 0, .null, .null, .int 0, .null, .null, .null, .null, .null, .null, .null, .int 0, .int 0, .int 0, .null, .null, .null] j := by
  intro j hj
  rcases j with _ | _ | _ | _ | _ | _ | _ | _ | _ | _ | _ | _ | _ | _ | _ | _ | _ | _ | _ | _ | _ | _ | _ | _ | _ | _ | _ | _ | _ | _ | _ | _ | _ | _ | _ | _ | _ | j
  · rfl
  · rfl
  · rfl
  · rfl
  · rfl
  · rfl
  · rfl
  · rfl
  · rfl
  · rfl
  · rfl
  · rfl
  · rfl
  · rfl
  · rfl
  · rfl
  · rfl
  · rfl
  · rfl
  · rfl
  · rfl
  · rfl
  · rfl
  · rfl
  · rfl
  · rfl
  · rfl
  · rfl
  · rfl
  · rfl
  · rfl
  · rfl
  · rfl
  · rfl
  · rfl
  · rfl
  · rfl
  · omega
set_option maxRecDepth 100000 in
set_option maxHeartbeats 4000000 in
theorem ok_initX3 : OkC 1 1 60 yX3_init cX3_init 1 D tc [.ref b] [(b, .inr (3, [.null, .int 0, .int 0]))] (fun w => ∃ q1 : Nat, w = [(b, .inr (3, [.ref q1, .int (-1), .int 0])), (q1, .inl (tc.1, 60, .inl (fun _ => 0)))]) := by
  refine Ok_ofC RX3 rfl rfl (by decide) [some (.ref b)] rfl (Nat.le_of_ble_eq_true rfl) ?_
  intro X hX
  refine V_ald0 dX3_init_0 ?_
  refine V_objInit wO_X3 wOi wOc dX3_init_1 (by show 1 ≤ X.2.2.2.1; rw [hX.2.2.1]; decide) (Nat.le_of_ble_eq_true rfl) ?_
  refine V_ald0 dX3_init_4 ?_
  refine V_bipush 60 dX3_init_5 (by decide) ?_
  refine V_newI (N := 60) dX3_init_7 (by decide) (roomC hX (by decide)) (fun q1 => ?_)
  refine V_w (ws2 := [(b, .inr (3, [.null, .int 0, .int 0])), (q1, .inl (tc.1, 60, .inl (fun _ => 0)))]) rfl ?_
  refine V_putF lf_X3_9 rfl rfl tyX3_ok nmX3 (ty := tyX3 0) (by decide +kernel) rfl rfl hX.2.2.2.2.2 dX3_init_9 (q0 := 0) rfl (Nat.le_of_ble_eq_true rfl) (ws' := [(b, .inr (3, [.ref q1, .int 0, .int 0])), (q1, .inl (tc.1, 60, .inl (fun _ => 0)))]) rfl ?_
  refine V_ald0 dX3_init_12 ?_
  refine V_iconst (-1) dX3_init_13 (by decide) ?_
  refine V_puti lp_X3_15 dX3_init_14 (q0 := 0) rfl (Nat.le_of_ble_eq_true rfl) (ws' := [(b, .inr (3, [.ref q1, .int (-1), .int 0])), (q1, .inl (tc.1, 60, .inl (fun _ => 0)))]) rfl ?_
  refine V_ald0 dX3_init_17 ?_
  refine V_iconst 0 dX3_init_18 (by decide) ?_
  refine V_puti lp_X3_19 dX3_init_19 (q0 := 0) rfl (Nat.le_of_ble_eq_true rfl) (ws' := [(b, .inr (3, [.ref q1, .int (-1), .int 0])), (q1, .inl (tc.1, 60, .inl (fun _ => 0)))]) rfl ?_
  exact V_vretC hX dX3_init_22 ⟨q1, rfl⟩
set_option maxRecDepth 100000 in
set_option maxHeartbeats 4000000 in
theorem ok_initX1 : OkC 1 7 36 yX1_init cX1_init 1 D tc [.ref b] [(b, .inr (1, [.null, .null, .null, .null, .null, .null, .null, .int 0, .int 0, .int 0, .int 0, .int 0]))] (fun w => ∃ q1 q2 q3 q4 q5 q6 q7 : Nat, w = [(b, .inr (1, [.ref q1, .ref q2, .ref q3, .ref q4, .ref q5, .ref q6, .ref q7, .int 0, .int 0, .int 0, .int 0, .int 0])), (q1, .inl (tc.1, 4, .inl (fun _ => 0))), (q2, .inl (tc.1, 4, .inl (fun _ => 0))), (q3, .inl (tc.1, 4, .inl (fun _ => 0))), (q4, .inl (tc.1, 6, .inl (fun _ => 0))), (q5, .inl (tc.1, 6, .inl (fun _ => 0))), (q6, .inl (tc.1, 6, .inl (fun _ => 0))), (q7, .inl (tc.1, 6, .inl (fun _ => 0)))]) := by
  refine Ok_ofC RX1 rfl rfl (by decide) [some (.ref b)] rfl (Nat.le_of_ble_eq_true rfl) ?_
  intro X hX
  refine V_ald0 dX1_init_0 ?_
  refine V_objInit wO_X1 wOi wOc dX1_init_1 (by show 1 ≤ X.2.2.2.1; rw [hX.2.2.1]; decide) (Nat.le_of_ble_eq_true rfl) ?_
  refine V_ald0 dX1_init_4 ?_
  refine V_iconst 4 dX1_init_5 (by decide) ?_
  refine V_newI (N := 4) dX1_init_6 (by decide) (roomC hX (by decide)) (fun q1 => ?_)
  refine V_w (ws2 := [(b, .inr (1, [.null, .null, .null, .null, .null, .null, .null, .int 0, .int 0, .int 0, .int 0, .int 0])), (q1, .inl (tc.1, 4, .inl (fun _ => 0)))]) rfl ?_
  refine V_putF lf_X1_9 rfl rfl tyX1_ok nmX1 (ty := tyX1 0) (by decide +kernel) rfl rfl hX.2.2.2.2.2 dX1_init_8 (q0 := 0) rfl (Nat.le_of_ble_eq_true rfl) (ws' := [(b, .inr (1, [.ref q1, .null, .null, .null, .null, .null, .null, .int 0, .int 0, .int 0, .int 0, .int 0])), (q1, .inl (tc.1, 4, .inl (fun _ => 0)))]) rfl ?_
  refine V_ald0 dX1_init_11 ?_
  refine V_iconst 4 dX1_init_12 (by decide) ?_
  refine V_newI (N := 4) dX1_init_13 (by decide) (roomC hX (by decide)) (fun q2 => ?_)
  refine V_w (ws2 := [(b, .inr (1, [.ref q1, .null, .null, .null, .null, .null, .null, .int 0, .int 0, .int 0, .int 0, .int 0])), (q1, .inl (tc.1, 4, .inl (fun _ => 0))), (q2, .inl (tc.1, 4, .inl (fun _ => 0)))]) rfl ?_
  refine V_putF lf_X1_15 rfl rfl tyX1_ok nmX1 (ty := tyX1 1) (by decide +kernel) rfl rfl hX.2.2.2.2.2 dX1_init_15 (q0 := 0) rfl (Nat.le_of_ble_eq_true rfl) (ws' := [(b, .inr (1, [.ref q1, .ref q2, .null, .null, .null, .null, .null, .int 0, .int 0, .int 0, .int 0, .int 0])), (q1, .inl (tc.1, 4, .inl (fun _ => 0))), (q2, .inl (tc.1, 4, .inl (fun _ => 0)))]) rfl ?_
  refine V_ald0 dX1_init_18 ?_
  refine V_iconst 4 dX1_init_19 (by decide) ?_
  refine V_newI (N := 4) dX1_init_20 (by decide) (roomC hX (by decide)) (fun q3 => ?_)
  refine V_w (ws2 := [(b, .inr (1, [.ref q1, .ref q2, .null, .null, .null, .null, .null, .int 0, .int 0, .int 0, .int 0, .int 0])), (q1, .inl (tc.1, 4, .inl (fun _ => 0))), (q2, .inl (tc.1, 4, .inl (fun _ => 0))), (q3, .inl (tc.1, 4, .inl (fun _ => 0)))]) rfl ?_
  refine V_putF lf_X1_18 rfl rfl tyX1_ok nmX1 (ty := tyX1 2) (by decide +kernel) rfl rfl hX.2.2.2.2.2 dX1_init_22 (q0 := 0) rfl (Nat.le_of_ble_eq_true rfl) (ws' := [(b, .inr (1, [.ref q1, .ref q2, .ref q3, .null, .null, .null, .null, .int 0, .int 0, .int 0, .int 0, .int 0])), (q1, .inl (tc.1, 4, .inl (fun _ => 0))), (q2, .inl (tc.1, 4, .inl (fun _ => 0))), (q3, .inl (tc.1, 4, .inl (fun _ => 0)))]) rfl ?_
  refine V_ald0 dX1_init_25 ?_
  refine V_bipush 6 dX1_init_26 (by decide) ?_
  refine V_newI (N := 6) dX1_init_28 (by decide) (roomC hX (by decide)) (fun q4 => ?_)
  refine V_w (ws2 := [(b, .inr (1, [.ref q1, .ref q2, .ref q3, .null, .null, .null, .null, .int 0, .int 0, .int 0, .int 0, .int 0])), (q1, .inl (tc.1, 4, .inl (fun _ => 0))), (q2, .inl (tc.1, 4, .inl (fun _ => 0))), (q3, .inl (tc.1, 4, .inl (fun _ => 0))), (q4, .inl (tc.1, 6, .inl (fun _ => 0)))]) rfl ?_
  refine V_putF lf_X1_21 rfl rfl tyX1_ok nmX1 (ty := tyX1 3) (by decide +kernel) rfl rfl hX.2.2.2.2.2 dX1_init_30 (q0 := 0) rfl (Nat.le_of_ble_eq_true rfl) (ws' := [(b, .inr (1, [.ref q1, .ref q2, .ref q3, .ref q4, .null, .null, .null, .int 0, .int 0, .int 0, .int 0, .int 0])), (q1, .inl (tc.1, 4, .inl (fun _ => 0))), (q2, .inl (tc.1, 4, .inl (fun _ => 0))), (q3, .inl (tc.1, 4, .inl (fun _ => 0))), (q4, .inl (tc.1, 6, .inl (fun _ => 0)))]) rfl ?_
  refine V_ald0 dX1_init_33 ?_
  refine V_bipush 6 dX1_init_34 (by decide) ?_
  refine V_newI (N := 6) dX1_init_36 (by decide) (roomC hX (by decide)) (fun q5 => ?_)
  refine V_w (ws2 := [(b, .inr (1, [.ref q1, .ref q2, .ref q3, .ref q4, .null, .null, .null, .int 0, .int 0, .int 0, .int 0, .int 0])), (q1, .inl (tc.1, 4, .inl (fun _ => 0))), (q2, .inl (tc.1, 4, .inl (fun _ => 0))), (q3, .inl (tc.1, 4, .inl (fun _ => 0))), (q4, .inl (tc.1, 6, .inl (fun _ => 0))), (q5, .inl (tc.1, 6, .inl (fun _ => 0)))]) rfl ?_
  refine V_putF lf_X1_24 rfl rfl tyX1_ok nmX1 (ty := tyX1 4) (by decide +kernel) rfl rfl hX.2.2.2.2.2 dX1_init_38 (q0 := 0) rfl (Nat.le_of_ble_eq_true rfl) (ws' := [(b, .inr (1, [.ref q1, .ref q2, .ref q3, .ref q4, .ref q5, .null, .null, .int 0, .int 0, .int 0, .int 0, .int 0])), (q1, .inl (tc.1, 4, .inl (fun _ => 0))), (q2, .inl (tc.1, 4, .inl (fun _ => 0))), (q3, .inl (tc.1, 4, .inl (fun _ => 0))), (q4, .inl (tc.1, 6, .inl (fun _ => 0))), (q5, .inl (tc.1, 6, .inl (fun _ => 0)))]) rfl ?_
  refine V_ald0 dX1_init_41 ?_
  refine V_bipush 6 dX1_init_42 (by decide) ?_
  refine V_newI (N := 6) dX1_init_44 (by decide) (roomC hX (by decide)) (fun q6 => ?_)
  refine V_w (ws2 := [(b, .inr (1, [.ref q1, .ref q2, .ref q3, .ref q4, .ref q5, .null, .null, .int 0, .int 0, .int 0, .int 0, .int 0])), (q1, .inl (tc.1, 4, .inl (fun _ => 0))), (q2, .inl (tc.1, 4, .inl (fun _ => 0))), (q3, .inl (tc.1, 4, .inl (fun _ => 0))), (q4, .inl (tc.1, 6, .inl (fun _ => 0))), (q5, .inl (tc.1, 6, .inl (fun _ => 0))), (q6, .inl (tc.1, 6, .inl (fun _ => 0)))]) rfl ?_
  refine V_putF lf_X1_27 rfl rfl tyX1_ok nmX1 (ty := tyX1 5) (by decide +kernel) rfl rfl hX.2.2.2.2.2 dX1_init_46 (q0 := 0) rfl (Nat.le_of_ble_eq_true rfl) (ws' := [(b, .inr (1, [.ref q1, .ref q2, .ref q3, .ref q4, .ref q5, .ref q6, .null, .int 0, .int 0, .int 0, .int 0, .int 0])), (q1, .inl (tc.1, 4, .inl (fun _ => 0))), (q2, .inl (tc.1, 4, .inl (fun _ => 0))), (q3, .inl (tc.1, 4, .inl (fun _ => 0))), (q4, .inl (tc.1, 6, .inl (fun _ => 0))), (q5, .inl (tc.1, 6, .inl (fun _ => 0))), (q6, .inl (tc.1, 6, .inl (fun _ => 0)))]) rfl ?_
  refine V_ald0 dX1_init_49 ?_
  refine V_bipush 6 dX1_init_50 (by decide) ?_
  refine V_newI (N := 6) dX1_init_52 (by decide) (roomC hX (by decide)) (fun q7 => ?_)
  refine V_w (ws2 := [(b, .inr (1, [.ref q1, .ref q2, .ref q3, .ref q4, .ref q5, .ref q6, .null, .int 0, .int 0, .int 0, .int 0, .int 0])), (q1, .inl (tc.1, 4, .inl (fun _ => 0))), (q2, .inl (tc.1, 4, .inl (fun _ => 0))), (q3, .inl (tc.1, 4, .inl (fun _ => 0))), (q4, .inl (tc.1, 6, .inl (fun _ => 0))), (q5, .inl (tc.1, 6, .inl (fun _ => 0))), (q6, .inl (tc.1, 6, .inl (fun _ => 0))), (q7, .inl (tc.1, 6, .inl (fun _ => 0)))]) rfl ?_
  refine V_putF lf_X1_30 rfl rfl tyX1_ok nmX1 (ty := tyX1 6) (by decide +kernel) rfl rfl hX.2.2.2.2.2 dX1_init_54 (q0 := 0) rfl (Nat.le_of_ble_eq_true rfl) (ws' := [(b, .inr (1, [.ref q1, .ref q2, .ref q3, .ref q4, .ref q5, .ref q6, .ref q7, .int 0, .int 0, .int 0, .int 0, .int 0])), (q1, .inl (tc.1, 4, .inl (fun _ => 0))), (q2, .inl (tc.1, 4, .inl (fun _ => 0))), (q3, .inl (tc.1, 4, .inl (fun _ => 0))), (q4, .inl (tc.1, 6, .inl (fun _ => 0))), (q5, .inl (tc.1, 6, .inl (fun _ => 0))), (q6, .inl (tc.1, 6, .inl (fun _ => 0))), (q7, .inl (tc.1, 6, .inl (fun _ => 0)))]) rfl ?_
  refine V_ald0 dX1_init_57 ?_
  refine V_iconst 0 dX1_init_58 (by decide) ?_
  refine V_puti lp_X1_33 dX1_init_59 (q0 := 0) rfl (Nat.le_of_ble_eq_true rfl) (ws' := [(b, .inr (1, [.ref q1, .ref q2, .ref q3, .ref q4, .ref q5, .ref q6, .ref q7, .int 0, .int 0, .int 0, .int 0, .int 0])), (q1, .inl (tc.1, 4, .inl (fun _ => 0))), (q2, .inl (tc.1, 4, .inl (fun _ => 0))), (q3, .inl (tc.1, 4, .inl (fun _ => 0))), (q4, .inl (tc.1, 6, .inl (fun _ => 0))), (q5, .inl (tc.1, 6, .inl (fun _ => 0))), (q6, .inl (tc.1, 6, .inl (fun _ => 0))), (q7, .inl (tc.1, 6, .inl (fun _ => 0)))]) rfl ?_
  refine V_ald0 dX1_init_62 ?_
  refine V_iconst 0 dX1_init_63 (by decide) ?_
  refine V_puti lp_X1_37 dX1_init_64 (q0 := 0) rfl (Nat.le_of_ble_eq_true rfl) (ws' := [(b, .inr (1, [.ref q1, .ref q2, .ref q3, .ref q4, .ref q5, .ref q6, .ref q7, .int 0, .int 0, .int 0, .int 0, .int 0])), (q1, .inl (tc.1, 4, .inl (fun _ => 0))), (q2, .inl (tc.1, 4, .inl (fun _ => 0))), (q3, .inl (tc.1, 4, .inl (fun _ => 0))), (q4, .inl (tc.1, 6, .inl (fun _ => 0))), (q5, .inl (tc.1, 6, .inl (fun _ => 0))), (q6, .inl (tc.1, 6, .inl (fun _ => 0))), (q7, .inl (tc.1, 6, .inl (fun _ => 0)))]) rfl ?_
  refine V_ald0 dX1_init_67 ?_
  refine V_iconst 0 dX1_init_68 (by decide) ?_
  refine V_puti lp_X1_40 dX1_init_69 (q0 := 0) rfl (Nat.le_of_ble_eq_true rfl) (ws' := [(b, .inr (1, [.ref q1, .ref q2, .ref q3, .ref q4, .ref q5, .ref q6, .ref q7, .int 0, .int 0, .int 0, .int 0, .int 0])), (q1, .inl (tc.1, 4, .inl (fun _ => 0))), (q2, .inl (tc.1, 4, .inl (fun _ => 0))), (q3, .inl (tc.1, 4, .inl (fun _ => 0))), (q4, .inl (tc.1, 6, .inl (fun _ => 0))), (q5, .inl (tc.1, 6, .inl (fun _ => 0))), (q6, .inl (tc.1, 6, .inl (fun _ => 0))), (q7, .inl (tc.1, 6, .inl (fun _ => 0)))]) rfl ?_
  refine V_ald0 dX1_init_72 ?_
  refine V_iconst 0 dX1_init_73 (by decide) ?_
  refine V_puti lp_X1_43 dX1_init_74 (q0 := 0) rfl (Nat.le_of_ble_eq_true rfl) (ws' := [(b, .inr (1, [.ref q1, .ref q2, .ref q3, .ref q4, .ref q5, .ref q6, .ref q7, .int 0, .int 0, .int 0, .int 0, .int 0])), (q1, .inl (tc.1, 4, .inl (fun _ => 0))), (q2, .inl (tc.1, 4, .inl (fun _ => 0))), (q3, .inl (tc.1, 4, .inl (fun _ => 0))), (q4, .inl (tc.1, 6, .inl (fun _ => 0))), (q5, .inl (tc.1, 6, .inl (fun _ => 0))), (q6, .inl (tc.1, 6, .inl (fun _ => 0))), (q7, .inl (tc.1, 6, .inl (fun _ => 0)))]) rfl ?_
  refine V_ald0 dX1_init_77 ?_
  refine V_iconst 0 dX1_init_78 (by decide) ?_
  refine V_puti lp_X1_46 dX1_init_79 (q0 := 0) rfl (Nat.le_of_ble_eq_true rfl) (ws' := [(b, .inr (1, [.ref q1, .ref q2, .ref q3, .ref q4, .ref q5, .ref q6, .ref q7, .int 0, .int 0, .int 0, .int 0, .int 0])), (q1, .inl (tc.1, 4, .inl (fun _ => 0))), (q2, .inl (tc.1, 4, .inl (fun _ => 0))), (q3, .inl (tc.1, 4, .inl (fun _ => 0))), (q4, .inl (tc.1, 6, .inl (fun _ => 0))), (q5, .inl (tc.1, 6, .inl (fun _ => 0))), (q6, .inl (tc.1, 6, .inl (fun _ => 0))), (q7, .inl (tc.1, 6, .inl (fun _ => 0)))]) rfl ?_
  exact V_vretC hX dX1_init_82 ⟨q1, q2, q3, q4, q5, q6, q7, rfl⟩
set_option maxRecDepth 100000 in
set_option maxHeartbeats 4000000 in
theorem ok_initX4 : OkC 1 1 60 yX4_init cX4_init 1 D tc [.ref b] [(b, .inr (4, [.null, .int 0, .int 0, .int 0]))] (fun w => ∃ q1 : Nat, w = [(b, .inr (4, [.ref q1, .int 0, .int 0, .int 0])), (q1, .inl (tc.1, 60, .inl (fun _ => 0)))]) := by
  refine Ok_ofC RX4 rfl rfl (by decide) [some (.ref b)] rfl (Nat.le_of_ble_eq_true rfl) ?_
  intro X hX
  refine V_ald0 dX4_init_0 ?_
  refine V_objInit wO_X4 wOi wOc dX4_init_1 (by show 1 ≤ X.2.2.2.1; rw [hX.2.2.1]; decide) (Nat.le_of_ble_eq_true rfl) ?_
  refine V_ald0 dX4_init_4 ?_
  refine V_bipush 60 dX4_init_5 (by decide) ?_
  refine V_newI (N := 60) dX4_init_7 (by decide) (roomC hX (by decide)) (fun q1 => ?_)
  refine V_w (ws2 := [(b, .inr (4, [.null, .int 0, .int 0, .int 0])), (q1, .inl (tc.1, 60, .inl (fun _ => 0)))]) rfl ?_
  refine V_putF lf_X4_9 rfl rfl tyX4_ok nmX4 (ty := tyX4 0) (by decide +kernel) rfl rfl hX.2.2.2.2.2 dX4_init_9 (q0 := 0) rfl (Nat.le_of_ble_eq_true rfl) (ws' := [(b, .inr (4, [.ref q1, .int 0, .int 0, .int 0])), (q1, .inl (tc.1, 60, .inl (fun _ => 0)))]) rfl ?_
  refine V_ald0 dX4_init_12 ?_
  refine V_iconst 0 dX4_init_13 (by decide) ?_
  refine V_puti lp_X4_15 dX4_init_14 (q0 := 0) rfl (Nat.le_of_ble_eq_true rfl) (ws' := [(b, .inr (4, [.ref q1, .int 0, .int 0, .int 0])), (q1, .inl (tc.1, 60, .inl (fun _ => 0)))]) rfl ?_
  refine V_ald0 dX4_init_17 ?_
  refine V_iconst 0 dX4_init_18 (by decide) ?_
  refine V_puti lp_X4_19 dX4_init_19 (q0 := 0) rfl (Nat.le_of_ble_eq_true rfl) (ws' := [(b, .inr (4, [.ref q1, .int 0, .int 0, .int 0])), (q1, .inl (tc.1, 60, .inl (fun _ => 0)))]) rfl ?_
  refine V_ald0 dX4_init_22 ?_
  refine V_iconst 0 dX4_init_23 (by decide) ?_
  refine V_puti lp_X4_22 dX4_init_24 (q0 := 0) rfl (Nat.le_of_ble_eq_true rfl) (ws' := [(b, .inr (4, [.ref q1, .int 0, .int 0, .int 0])), (q1, .inl (tc.1, 60, .inl (fun _ => 0)))]) rfl ?_
  exact V_vretC hX dX4_init_27 ⟨q1, rfl⟩
set_option maxRecDepth 100000 in
set_option maxHeartbeats 4000000 in
theorem ok_initX0 : OkC 1 1 192 yX0_init cX0_init 1 D tc [.ref b] [(b, .inr (0, [.null, .int 0, .int 0]))] (fun w => ∃ q1 : Nat, w = [(b, .inr (0, [.ref q1, .int 0, .int 0])), (q1, .inl (tc.1, 192, .inl (fun _ => 0)))]) := by
  refine Ok_ofC RX0 rfl rfl (by decide) [some (.ref b)] rfl (Nat.le_of_ble_eq_true rfl) ?_
  intro X hX
  refine V_ald0 dX0_init_0 ?_
  refine V_objInit wO_X0 wOi wOc dX0_init_1 (by show 1 ≤ X.2.2.2.1; rw [hX.2.2.1]; decide) (Nat.le_of_ble_eq_true rfl) ?_
  refine V_ald0 dX0_init_4 ?_
  refine V_sipush 192 dX0_init_5 (by decide) ?_
  refine V_newI (N := 192) dX0_init_8 (by decide) (roomC hX (by decide)) (fun q1 => ?_)
  refine V_w (ws2 := [(b, .inr (0, [.null, .int 0, .int 0])), (q1, .inl (tc.1, 192, .inl (fun _ => 0)))]) rfl ?_
  refine V_putF lf_X0_9 rfl rfl tyX0_ok nmX0 (ty := tyX0 0) (by decide +kernel) rfl rfl hX.2.2.2.2.2 dX0_init_10 (q0 := 0) rfl (Nat.le_of_ble_eq_true rfl) (ws' := [(b, .inr (0, [.ref q1, .int 0, .int 0])), (q1, .inl (tc.1, 192, .inl (fun _ => 0)))]) rfl ?_
  refine V_ald0 dX0_init_13 ?_
  refine V_iconst 0 dX0_init_14 (by decide) ?_
  refine V_puti lp_X0_15 dX0_init_15 (q0 := 0) rfl (Nat.le_of_ble_eq_true rfl) (ws' := [(b, .inr (0, [.ref q1, .int 0, .int 0])), (q1, .inl (tc.1, 192, .inl (fun _ => 0)))]) rfl ?_
  refine V_ald0 dX0_init_18 ?_
  refine V_iconst 0 dX0_init_19 (by decide) ?_
  refine V_puti lp_X0_19 dX0_init_20 (q0 := 0) rfl (Nat.le_of_ble_eq_true rfl) (ws' := [(b, .inr (0, [.ref q1, .int 0, .int 0])), (q1, .inl (tc.1, 192, .inl (fun _ => 0)))]) rfl ?_
  exact V_vretC hX dX0_init_23 ⟨q1, rfl⟩
set_option maxRecDepth 100000 in
set_option maxHeartbeats 4000000 in
theorem ok_initX2 : OkC 1 3 24 yX2_init cX2_init 1 D tc [.ref b] [(b, .inr (2, [.null, .null, .null, .int 0]))] (fun w => ∃ q1 q2 q3 : Nat, w = [(b, .inr (2, [.ref q1, .ref q2, .ref q3, .int 0])), (q1, .inl (tc.1, 8, .inl (fun _ => 0))), (q2, .inl (tc.1, 8, .inl (fun _ => 0))), (q3, .inl (tc.1, 8, .inl (fun _ => 0)))]) := by
  refine Ok_ofC RX2 rfl rfl (by decide) [some (.ref b)] rfl (Nat.le_of_ble_eq_true rfl) ?_
  intro X hX
  refine V_ald0 dX2_init_0 ?_
  refine V_objInit wO_X2 wOi wOc dX2_init_1 (by show 1 ≤ X.2.2.2.1; rw [hX.2.2.1]; decide) (Nat.le_of_ble_eq_true rfl) ?_
  refine V_ald0 dX2_init_4 ?_
  refine V_bipush 8 dX2_init_5 (by decide) ?_
  refine V_newI (N := 8) dX2_init_7 (by decide) (roomC hX (by decide)) (fun q1 => ?_)
  refine V_w (ws2 := [(b, .inr (2, [.null, .null, .null, .int 0])), (q1, .inl (tc.1, 8, .inl (fun _ => 0)))]) rfl ?_
  refine V_putF lf_X2_9 rfl rfl tyX2_ok nmX2 (ty := tyX2 0) (by decide +kernel) rfl rfl hX.2.2.2.2.2 dX2_init_9 (q0 := 0) rfl (Nat.le_of_ble_eq_true rfl) (ws' := [(b, .inr (2, [.ref q1, .null, .null, .int 0])), (q1, .inl (tc.1, 8, .inl (fun _ => 0)))]) rfl ?_
  refine V_ald0 dX2_init_12 ?_
  refine V_bipush 8 dX2_init_13 (by decide) ?_
  refine V_newI (N := 8) dX2_init_15 (by decide) (roomC hX (by decide)) (fun q2 => ?_)
  refine V_w (ws2 := [(b, .inr (2, [.ref q1, .null, .null, .int 0])), (q1, .inl (tc.1, 8, .inl (fun _ => 0))), (q2, .inl (tc.1, 8, .inl (fun _ => 0)))]) rfl ?_
  refine V_putF lf_X2_15 rfl rfl tyX2_ok nmX2 (ty := tyX2 1) (by decide +kernel) rfl rfl hX.2.2.2.2.2 dX2_init_17 (q0 := 0) rfl (Nat.le_of_ble_eq_true rfl) (ws' := [(b, .inr (2, [.ref q1, .ref q2, .null, .int 0])), (q1, .inl (tc.1, 8, .inl (fun _ => 0))), (q2, .inl (tc.1, 8, .inl (fun _ => 0)))]) rfl ?_
  refine V_ald0 dX2_init_20 ?_
  refine V_bipush 8 dX2_init_21 (by decide) ?_
  refine V_newI (N := 8) dX2_init_23 (by decide) (roomC hX (by decide)) (fun q3 => ?_)
  refine V_w (ws2 := [(b, .inr (2, [.ref q1, .ref q2, .null, .int 0])), (q1, .inl (tc.1, 8, .inl (fun _ => 0))), (q2, .inl (tc.1, 8, .inl (fun _ => 0))), (q3, .inl (tc.1, 8, .inl (fun _ => 0)))]) rfl ?_
  refine V_putF lf_X2_18 rfl rfl tyX2_ok nmX2 (ty := tyX2 2) (by decide +kernel) rfl rfl hX.2.2.2.2.2 dX2_init_25 (q0 := 0) rfl (Nat.le_of_ble_eq_true rfl) (ws' := [(b, .inr (2, [.ref q1, .ref q2, .ref q3, .int 0])), (q1, .inl (tc.1, 8, .inl (fun _ => 0))), (q2, .inl (tc.1, 8, .inl (fun _ => 0))), (q3, .inl (tc.1, 8, .inl (fun _ => 0)))]) rfl ?_
  refine V_ald0 dX2_init_28 ?_
  refine V_iconst 0 dX2_init_29 (by decide) ?_
  refine V_puti lp_X2_21 dX2_init_30 (q0 := 0) rfl (Nat.le_of_ble_eq_true rfl) (ws' := [(b, .inr (2, [.ref q1, .ref q2, .ref q3, .int 0])), (q1, .inl (tc.1, 8, .inl (fun _ => 0))), (q2, .inl (tc.1, 8, .inl (fun _ => 0))), (q3, .inl (tc.1, 8, .inl (fun _ => 0)))]) rfl ?_
  exact V_vretC hX dX2_init_33 ⟨q1, q2, q3, rfl⟩
end
