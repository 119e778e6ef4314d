theorem set_self {ws : va_W} {q0 : Nat} {x : Nat × va_E} (h : ws[q0]? = some x) : ws.set q0 x = ws := by
  obtain ⟨h1, h2⟩ := List.getElem?_eq_some_iff.mp h
  rw [← h2]
  exact List.set_getElem_self h1
theorem set_get {ws : va_W} {q0 : Nat} {x y : Nat × va_E} (h : ws[q0]? = some x) : (ws.set q0 y)[q0]? = some y := by
  have := (List.getElem?_eq_some_iff.mp h).1
  simp [this]
theorem set_set' {ws : va_W} {q0 : Nat} {x y : Nat × va_E} : (ws.set q0 x).set q0 y = ws.set q0 y := by simp
section
variable {D : va_G} {tc : Tc} {ws : va_W}
set_option maxRecDepth 100000 in
set_option maxHeartbeats 4000000 in
theorem ok_fill {q0 a n : Nat} {f : Nat → Int32} (he : ws[q0]? = some (a, .inl (tc.1, n, .inl f))) (hn : n < 2 ^ 31) (v : Int32) : Ok 0 yJ7_fill_53178 cJ7_fill_53178 4 none D tc [.ref a, .int v] ws none (ws.set q0 (a, .inl (tc.1, n, .inl (fillN f v n)))) := by
  refine Ok_of RJ7 rfl (by decide) [some (.ref a), some (.int v), none, none] rfl (Nat.le_of_ble_eq_true rfl) ?_
  intro X hX
  have lpS : ∀ k, k < n → V X D tc cJ7_fill_53178 RJ7 4 5 ((fun k => [some (.ref a), some (.int v), some (.int (nI k)), some (.int (nI n))]) (k + 1)) [] ((fun k => ws.set q0 (a, .inl (tc.1, n, .inl (fillN f v k)))) (k + 1)) → V X D tc cJ7_fill_53178 RJ7 4 5 ((fun k => [some (.ref a), some (.int v), some (.int (nI k)), some (.int (nI n))]) k) [] ((fun k => ws.set q0 (a, .inl (tc.1, n, .inl (fillN f v k)))) k) := by
    intro k hk ihlp
    refine V_ild2 dJ7_fill_53178_5 ?_
    refine V_ild3 dJ7_fill_53178_6 ?_
    refine V_icmp_ge 20 dJ7_fill_53178_7 (by decide) (fun c7 => ?_) (fun c7 => ?_)
    · exact absurd c7 (ge_no rfl hk hn)
    · refine V_ald0 dJ7_fill_53178_10 ?_
      refine V_ild2 dJ7_fill_53178_11 ?_
      refine V_ild1 dJ7_fill_53178_12 ?_
      refine V_iastk dJ7_fill_53178_13 (set_get he) ⟨hk, hn⟩ set_set' ?_
      refine V_inc2 (nI (k + 1)) dJ7_fill_53178_14 (nI_inc k) rfl (by decide) ?_
      refine V_goto 5 dJ7_fill_53178_17 (by decide) ?_
      refine V_eq rfl rfl (by rw [fillN_s]) ihlp
  have lpE : V X D tc cJ7_fill_53178 RJ7 4 5 ((fun k => [some (.ref a), some (.int v), some (.int (nI k)), some (.int (nI n))]) (n)) [] ((fun k => ws.set q0 (a, .inl (tc.1, n, .inl (fillN f v k)))) (n)) := by
    refine V_ild2 dJ7_fill_53178_5 ?_
    refine V_ild3 dJ7_fill_53178_6 ?_
    refine V_icmp_ge 20 dJ7_fill_53178_7 (by decide) (fun c7 => ?_) (fun c7 => ?_)
    · exact V_vret hX dJ7_fill_53178_20 rfl rfl rfl
    · exact absurd (ge_yes rfl) c7
  have lp := V_for (fun k => [some (.ref a), some (.int v), some (.int (nI k)), some (.int (nI n))]) (fun k => ws.set q0 (a, .inl (tc.1, n, .inl (fillN f v k)))) (n) lpS lpE
  refine V_iconst 0 dJ7_fill_53178_0 (by decide) ?_
  refine V_ist2 dJ7_fill_53178_1 rfl (by decide) ?_
  refine V_ald0 dJ7_fill_53178_2 ?_
  refine V_alen dJ7_fill_53178_3 he ?_
  refine V_ist3 dJ7_fill_53178_4 rfl (by decide) ?_
  have h0 := lp 0 (Nat.zero_le _)
  refine V_eq rfl rfl ?_ h0
  show ws = ws.set q0 _
  rw [fillN_0]
  exact (set_self he).symm
end
