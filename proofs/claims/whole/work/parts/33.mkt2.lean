/-! what selling and opening do -/
def hoC (σ : St) (o m p q : Nat) : St := up (up (up σ o 0 p (σ o 0 p - prC (σ o) m)) o 0 q (up σ o 0 p (σ o 0 p - prC (σ o) m) o 0 q + prC (σ o) m)) o 4 m (nI p)
def gaC (σ : St) (o m q : Nat) : Int32 := if otC (σ o) q = 0 then frC (σ o) m (σ o 8 0) else frC (σ o) m (σ o 8 0) / 2
def unC (σ : St) (o m q : Nat) : St := up (up (up σ o 1 q (σ o 1 q + gaC σ o m q)) o 2 q (σ o 8 0)) o 11 0 (σ o 11 0 ||| oneI m)
abbrev isP (n x : Int32) : Prop := ¬ x < 0 ∧ x < n
abbrev csC (σ : St) (o m : Nat) (p : Int32) : Prop := isP (σ o 9 0) p ∧ ¬ bitI (σ o 11 0) (nI m) ∧ ¬ σ o 4 m = p ∧ ¬ σ o 0 p.toNatClampNeg < prC (σ o) m
theorem isP_of {n x : Int32} {P : Nat} (hn : n = nI P) (hP : P < 2 ^ 31) (h : isP n x) : ∃ k, k < P ∧ x = nI k := by
  obtain ⟨j, hj, e⟩ := nI_of h.1
  refine ⟨j, ?_, e⟩
  have := h.2
  rw [e, hn, nI_ltI hj hP] at this
  exact this
section
variable {D : va_G} {tc : Tc} {A : Nat → Nat} {σ : St} {o M P : Nat}
set_option maxRecDepth 100000 in
set_option maxHeartbeats 4000000 in
theorem ok_priceOfSet (ho : o = 5 ∨ o = 6) (hM : σ o 10 0 = nI M) (h6 : M ≤ 6) (s : Int32) : Ok 3 yX1_priceOfSet cX1_priceOfSet 4 (some .int) D tc [.ref (A (mb o)), .int s] (cW A tc σ) (some (.int (psC (σ o) s M))) (cW A tc σ) := by
  refine Ok_of RX1 rfl (by decide) [some (.ref (A (mb o))), some (.int s), none, none] rfl (Nat.le_of_ble_eq_true rfl) ?_
  intro X hX
  have lpS : ∀ k, k < M → V X D tc cX1_priceOfSet RX1 4 4 ((fun k => [some (.ref (A (mb o))), some (.int s), some (.int (psC (σ o) s k)), some (.int (nI k))]) (k + 1)) [] ((fun k => cW A tc σ) (k + 1)) → V X D tc cX1_priceOfSet RX1 4 4 ((fun k => [some (.ref (A (mb o))), some (.int s), some (.int (psC (σ o) s k)), some (.int (nI k))]) k) [] ((fun k => cW A tc σ) k) := by
    intro k hk ihlp
    refine V_ild3 dX1_priceOfSet_4 ?_
    refine V_ald0 dX1_priceOfSet_5 ?_
    refine V_get lf_X1_43 dX1_priceOfSet_6 (cW_mkt ho) rfl ?_
    refine V_icmp_ge 34 dX1_priceOfSet_9 (by decide) (fun c9 => ?_) (fun c9 => ?_)
    · exact absurd c9 (ge_no hM hk (by omega))
    · refine V_ild1 dX1_priceOfSet_12 ?_
      refine V_ild3 dX1_priceOfSet_13 ?_
      refine V_callN ln_X1_64 (ok_isIn _ _) dX1_priceOfSet_14 (dep hX (by decide)) rfl (Nat.le_of_ble_eq_true rfl) ?_
      refine V_if_eq 28 dX1_priceOfSet_17 (by decide) (fun c17 => ?_) (fun c17 => ?_)
      · try rw [b2i_eq] at c17
        try rw [Decidable.not_not] at c17
        refine V_inc3 (nI (k + 1)) dX1_priceOfSet_28 (nI_inc k) rfl (by decide) ?_
        refine V_goto 4 dX1_priceOfSet_31 (by decide) ?_
        refine V_eq ?_ rfl rfl ihlp
        simp [psC, c17]
      · try rw [b2i_ne] at c17
        try rw [Decidable.not_not] at c17
        refine V_ild2 dX1_priceOfSet_20 ?_
        refine V_ald0 dX1_priceOfSet_21 ?_
        refine V_ild3 dX1_priceOfSet_22 ?_
        refine V_callV lm_X1_80 (ok_priceOf ho k (by omega)) dX1_priceOfSet_23 (cW_mkt ho) rfl (dep hX (by decide)) rfl (Nat.le_of_ble_eq_true rfl) ?_
        refine V_iadd dX1_priceOfSet_26 ?_
        refine V_ist2 dX1_priceOfSet_27 rfl (by decide) ?_
        refine V_inc3 (nI (k + 1)) dX1_priceOfSet_28 (nI_inc k) rfl (by decide) ?_
        refine V_goto 4 dX1_priceOfSet_31 (by decide) ?_
        refine V_eq ?_ rfl rfl ihlp
        simp [psC, c17]
  have lpE : V X D tc cX1_priceOfSet RX1 4 4 ((fun k => [some (.ref (A (mb o))), some (.int s), some (.int (psC (σ o) s k)), some (.int (nI k))]) (M)) [] ((fun k => cW A tc σ) (M)) := by
    refine V_ild3 dX1_priceOfSet_4 ?_
    refine V_ald0 dX1_priceOfSet_5 ?_
    refine V_get lf_X1_43 dX1_priceOfSet_6 (cW_mkt ho) rfl ?_
    refine V_icmp_ge 34 dX1_priceOfSet_9 (by decide) (fun c9 => ?_) (fun c9 => ?_)
    · refine V_ild2 dX1_priceOfSet_34 ?_
      exact V_iret hX dX1_priceOfSet_35 rfl rfl rfl
    · exact absurd (ge_yes hM) c9
  have lp := V_for (fun k => [some (.ref (A (mb o))), some (.int s), some (.int (psC (σ o) s k)), some (.int (nI k))]) (fun k => cW A tc σ) (M) lpS lpE
  refine V_iconst 0 dX1_priceOfSet_0 (by decide) ?_
  refine V_ist2 dX1_priceOfSet_1 rfl (by decide) ?_
  refine V_iconst 0 dX1_priceOfSet_2 (by decide) ?_
  refine V_ist3 dX1_priceOfSet_3 rfl (by decide) ?_
  exact lp 0 (Nat.zero_le _)
set_option maxRecDepth 100000 in
set_option maxHeartbeats 4000000 in
theorem ok_joyOfAll (ho : o = 5 ∨ o = 6) (hP : σ o 9 0 = nI P) (h4 : P ≤ 4) : Ok 0 yX1_joyOfAll cX1_joyOfAll 3 (some .int) D tc [.ref (A (mb o))] (cW A tc σ) (some (.int (jaC (σ o) P))) (cW A tc σ) := by
  refine Ok_of RX1 rfl (by decide) [some (.ref (A (mb o))), none, none] rfl (Nat.le_of_ble_eq_true rfl) ?_
  intro X hX
  have lpS : ∀ k, k < P → V X D tc cX1_joyOfAll RX1 3 4 ((fun k => [some (.ref (A (mb o))), some (.int (jaC (σ o) k)), some (.int (nI k))]) (k + 1)) [] ((fun k => cW A tc σ) (k + 1)) → V X D tc cX1_joyOfAll RX1 3 4 ((fun k => [some (.ref (A (mb o))), some (.int (jaC (σ o) k)), some (.int (nI k))]) k) [] ((fun k => cW A tc σ) k) := by
    intro k hk ihlp
    refine V_ild2 dX1_joyOfAll_4 ?_
    refine V_ald0 dX1_joyOfAll_5 ?_
    refine V_get lf_X1_40 dX1_joyOfAll_6 (cW_mkt ho) rfl ?_
    refine V_icmp_ge 27 dX1_joyOfAll_9 (by decide) (fun c9 => ?_) (fun c9 => ?_)
    · exact absurd c9 (ge_no hP hk (by omega))
    · refine V_ild1 dX1_joyOfAll_12 ?_
      refine V_ald0 dX1_joyOfAll_13 ?_
      refine V_get lf_X1_15 dX1_joyOfAll_14 (cW_mkt ho) rfl ?_
      refine V_ild2 dX1_joyOfAll_17 ?_
      refine V_ialdk dX1_joyOfAll_18 (cW_ma1 ho) ⟨by omega, by decide⟩ ?_
      refine V_iadd dX1_joyOfAll_19 ?_
      refine V_ist1 dX1_joyOfAll_20 rfl (by decide) ?_
      refine V_inc2 (nI (k + 1)) dX1_joyOfAll_21 (nI_inc k) rfl (by decide) ?_
      refine V_goto 4 dX1_joyOfAll_24 (by decide) ?_
      refine V_eq ?_ rfl rfl ihlp
      simp [jaC]
  have lpE : V X D tc cX1_joyOfAll RX1 3 4 ((fun k => [some (.ref (A (mb o))), some (.int (jaC (σ o) k)), some (.int (nI k))]) (P)) [] ((fun k => cW A tc σ) (P)) := by
    refine V_ild2 dX1_joyOfAll_4 ?_
    refine V_ald0 dX1_joyOfAll_5 ?_
    refine V_get lf_X1_40 dX1_joyOfAll_6 (cW_mkt ho) rfl ?_
    refine V_icmp_ge 27 dX1_joyOfAll_9 (by decide) (fun c9 => ?_) (fun c9 => ?_)
    · refine V_ild1 dX1_joyOfAll_27 ?_
      exact V_iret hX dX1_joyOfAll_28 rfl rfl rfl
    · exact absurd (ge_yes hP) c9
  have lp := V_for (fun k => [some (.ref (A (mb o))), some (.int (jaC (σ o) k)), some (.int (nI k))]) (fun k => cW A tc σ) (P) lpS lpE
  refine V_iconst 0 dX1_joyOfAll_0 (by decide) ?_
  refine V_ist1 dX1_joyOfAll_1 rfl (by decide) ?_
  refine V_iconst 0 dX1_joyOfAll_2 (by decide) ?_
  refine V_ist2 dX1_joyOfAll_3 rfl (by decide) ?_
  exact lp 0 (Nat.zero_le _)
set_option maxRecDepth 100000 in
set_option maxHeartbeats 4000000 in
theorem ok_joyOfSet (ho : o = 5 ∨ o = 6) (hM : σ o 10 0 = nI M) (h6 : M ≤ 6) (s d b : Int32) : Ok 2 yX1_joyOfSet cX1_joyOfSet 8 (some .int) D tc [.ref (A (mb o)), .int s, .int d, .int b] (cW A tc σ) (some (.int (jsC (σ o) s d b M))) (cW A tc σ) := by
  refine Ok_of RX1 rfl (by decide) [some (.ref (A (mb o))), some (.int s), some (.int d), some (.int b), none, none, none, none] rfl (Nat.le_of_ble_eq_true rfl) ?_
  intro X hX
  have lpS : ∀ k, k < M → V X D tc cX1_joyOfSet RX1 8 9 ((fun k => [some (.ref (A (mb o))), some (.int s), some (.int d), some (.int b), some (.int (haC (σ o) s d k)), some (.int (fmC (σ o) s d k)), some (.int (nI k)), none]) (k + 1)) [] ((fun k => cW A tc σ) (k + 1)) → V X D tc cX1_joyOfSet RX1 8 9 ((fun k => [some (.ref (A (mb o))), some (.int s), some (.int d), some (.int b), some (.int (haC (σ o) s d k)), some (.int (fmC (σ o) s d k)), some (.int (nI k)), none]) k) [] ((fun k => cW A tc σ) k) := by
    intro k hk ihlp
    refine V_ild6 dX1_joyOfSet_9 ?_
    refine V_ald0 dX1_joyOfSet_11 ?_
    refine V_get lf_X1_43 dX1_joyOfSet_12 (cW_mkt ho) rfl ?_
    refine V_icmp_ge 62 dX1_joyOfSet_15 (by decide) (fun c15 => ?_) (fun c15 => ?_)
    · exact absurd c15 (ge_no hM hk (by omega))
    · refine V_ild1 dX1_joyOfSet_18 ?_
      refine V_ild6 dX1_joyOfSet_19 ?_
      refine V_callN ln_X1_64 (ok_isIn _ _) dX1_joyOfSet_21 (dep hX (by decide)) rfl (Nat.le_of_ble_eq_true rfl) ?_
      refine V_if_eq 56 dX1_joyOfSet_24 (by decide) (fun c24 => ?_) (fun c24 => ?_)
      · try rw [b2i_eq] at c24
        try rw [Decidable.not_not] at c24
        refine V_inc6 (nI (k + 1)) dX1_joyOfSet_56 (nI_inc k) rfl (by decide) ?_
        refine V_goto 9 dX1_joyOfSet_59 (by decide) ?_
        refine V_dr7 ?_
        refine V_eq ?_ rfl rfl ihlp
        simp [haC, fmC, *]
      · try rw [b2i_ne] at c24
        try rw [Decidable.not_not] at c24
        refine V_ald0 dX1_joyOfSet_27 ?_
        refine V_ild6 dX1_joyOfSet_28 ?_
        refine V_ild2 dX1_joyOfSet_30 ?_
        refine V_callV lm_X1_76 (ok_freshOn ho k (by omega) _) dX1_joyOfSet_31 (cW_mkt ho) rfl (dep hX (by decide)) rfl (Nat.le_of_ble_eq_true rfl) ?_
        refine V_ist7 dX1_joyOfSet_34 rfl (by decide) ?_
        refine V_ild4 dX1_joyOfSet_36 ?_
        refine V_ild7 dX1_joyOfSet_38 ?_
        refine V_iconst 2 dX1_joyOfSet_40 (by decide) ?_
        refine V_idiv dX1_joyOfSet_41 (by decide) ?_
        refine V_iadd dX1_joyOfSet_42 ?_
        refine V_ist4 dX1_joyOfSet_43 rfl (by decide) ?_
        refine V_ild7 dX1_joyOfSet_45 ?_
        refine V_ild5 dX1_joyOfSet_47 ?_
        refine V_icmp_le 56 dX1_joyOfSet_49 (by decide) (fun c49 => ?_) (fun c49 => ?_)
        · refine V_inc6 (nI (k + 1)) dX1_joyOfSet_56 (nI_inc k) rfl (by decide) ?_
          refine V_goto 9 dX1_joyOfSet_59 (by decide) ?_
          refine V_dr7 ?_
          refine V_eq ?_ rfl rfl ihlp
          simp [haC, fmC, *]
        · refine V_ild7 dX1_joyOfSet_52 ?_
          refine V_ist5 dX1_joyOfSet_54 rfl (by decide) ?_
          refine V_inc6 (nI (k + 1)) dX1_joyOfSet_56 (nI_inc k) rfl (by decide) ?_
          refine V_goto 9 dX1_joyOfSet_59 (by decide) ?_
          refine V_dr7 ?_
          refine V_eq ?_ rfl rfl ihlp
          simp [haC, fmC, *]
  have lpE : V X D tc cX1_joyOfSet RX1 8 9 ((fun k => [some (.ref (A (mb o))), some (.int s), some (.int d), some (.int b), some (.int (haC (σ o) s d k)), some (.int (fmC (σ o) s d k)), some (.int (nI k)), none]) (M)) [] ((fun k => cW A tc σ) (M)) := by
    refine V_ild6 dX1_joyOfSet_9 ?_
    refine V_ald0 dX1_joyOfSet_11 ?_
    refine V_get lf_X1_43 dX1_joyOfSet_12 (cW_mkt ho) rfl ?_
    refine V_icmp_ge 62 dX1_joyOfSet_15 (by decide) (fun c15 => ?_) (fun c15 => ?_)
    · refine V_ild3 dX1_joyOfSet_62 ?_
      refine V_if_eq 71 dX1_joyOfSet_63 (by decide) (fun c63 => ?_) (fun c63 => ?_)
      · refine V_ild4 dX1_joyOfSet_71 ?_
        refine V_ild5 dX1_joyOfSet_73 ?_
        refine V_iconst 2 dX1_joyOfSet_75 (by decide) ?_
        refine V_idiv dX1_joyOfSet_76 (by decide) ?_
        refine V_isub dX1_joyOfSet_77 ?_
        refine V_ild5 dX1_joyOfSet_78 ?_
        refine V_iadd dX1_joyOfSet_80 ?_
        exact V_iret hX dX1_joyOfSet_81 rfl (by simp [jsC, *]) rfl
      · refine V_ild4 dX1_joyOfSet_66 ?_
        refine V_goto 81 dX1_joyOfSet_68 (by decide) ?_
        exact V_iret hX dX1_joyOfSet_81 rfl (by simp [jsC, *]) rfl
    · exact absurd (ge_yes hM) c15
  have lp := V_for (fun k => [some (.ref (A (mb o))), some (.int s), some (.int d), some (.int b), some (.int (haC (σ o) s d k)), some (.int (fmC (σ o) s d k)), some (.int (nI k)), none]) (fun k => cW A tc σ) (M) lpS lpE
  refine V_iconst 0 dX1_joyOfSet_0 (by decide) ?_
  refine V_ist4 dX1_joyOfSet_1 rfl (by decide) ?_
  refine V_iconst 0 dX1_joyOfSet_3 (by decide) ?_
  refine V_ist5 dX1_joyOfSet_4 rfl (by decide) ?_
  refine V_iconst 0 dX1_joyOfSet_6 (by decide) ?_
  refine V_ist6 dX1_joyOfSet_7 rfl (by decide) ?_
  exact lp 0 (Nat.zero_le _)
set_option maxRecDepth 100000 in
set_option maxHeartbeats 4000000 in
theorem ok_feastWith (ho : o = 5 ∨ o = 6) (hM : σ o 10 0 = nI M) (h6 : M ≤ 6) (p : Nat) (hp : p < 4) (s : Int32) : Ok 3 yX1_feastWith cX1_feastWith 3 (some .int) D tc [.ref (A (mb o)), .int (nI p), .int s] (cW A tc σ) (some (.int (feC (σ o) p s M))) (cW A tc σ) := by
  refine Ok_of RX1 rfl (by decide) [some (.ref (A (mb o))), some (.int (nI p)), some (.int s)] rfl (Nat.le_of_ble_eq_true rfl) ?_
  intro X hX
  refine V_ald0 dX1_feastWith_0 ?_
  refine V_ild2 dX1_feastWith_1 ?_
  refine V_ald0 dX1_feastWith_2 ?_
  refine V_get lf_X1_37 dX1_feastWith_3 (cW_mkt ho) rfl ?_
  refine V_ald0 dX1_feastWith_6 ?_
  refine V_ild1 dX1_feastWith_7 ?_
  refine V_callV lm_X1_84 (ok_openedToday ho p hp) dX1_feastWith_8 (cW_mkt ho) rfl (dep hX (by decide)) rfl (Nat.le_of_ble_eq_true rfl) ?_
  refine V_callV lm_X1_87 (ok_joyOfSet ho hM h6 _ _ _) dX1_feastWith_11 (cW_mkt ho) rfl (dep hX (by decide)) rfl (Nat.le_of_ble_eq_true rfl) ?_
  exact V_iret hX dX1_feastWith_14 rfl rfl rfl
set_option maxRecDepth 100000 in
set_option maxHeartbeats 4000000 in
theorem ok_canGoBy (ho : o = 5 ∨ o = 6) (n : Int32) : Ok 0 yX1_canGoBy cX1_canGoBy 2 (some .boolean) D tc [.ref (A (mb o)), .int n] (cW A tc σ) (some (.int (b2i (¬ 99 < σ o 8 0 + n)))) (cW A tc σ) := by
  refine Ok_of RX1 rfl (by decide) [some (.ref (A (mb o))), some (.int n)] rfl (Nat.le_of_ble_eq_true rfl) ?_
  intro X hX
  refine V_ald0 dX1_canGoBy_0 ?_
  refine V_get lf_X1_37 dX1_canGoBy_1 (cW_mkt ho) rfl ?_
  refine V_ild1 dX1_canGoBy_4 ?_
  refine V_iadd dX1_canGoBy_5 ?_
  refine V_bipush 99 dX1_canGoBy_6 (by decide) ?_
  refine V_icmp_gt 15 dX1_canGoBy_8 (by decide) (fun c8 => ?_) (fun c8 => ?_)
  · refine V_iconst 0 dX1_canGoBy_15 (by decide) ?_
    exact V_zret hX dX1_canGoBy_16 rfl (by first | exact Or.inl rfl | exact Or.inr rfl) (by simp [b2i, *]) rfl
  · refine V_iconst 1 dX1_canGoBy_11 (by decide) ?_
    refine V_goto 16 dX1_canGoBy_12 (by decide) ?_
    exact V_zret hX dX1_canGoBy_16 rfl (by first | exact Or.inl rfl | exact Or.inr rfl) (by simp [b2i, *]) rfl
set_option maxRecDepth 100000 in
set_option maxHeartbeats 4000000 in
theorem ok_canBeSold (ho : o = 5 ∨ o = 6) (hP : σ o 9 0 = nI P) (h4 : P ≤ 4) (m : Nat) (hm : m < 6) (p : Int32) : Ok 3 yX1_canBeSold cX1_canBeSold 3 (some .boolean) D tc [.ref (A (mb o)), .int (nI m), .int p] (cW A tc σ) (some (.int (b2i (csC σ o m p)))) (cW A tc σ) := by
  refine Ok_of RX1 rfl (by decide) [some (.ref (A (mb o))), some (.int (nI m)), some (.int p)] rfl (Nat.le_of_ble_eq_true rfl) ?_
  intro X hX
  refine V_ald0 dX1_canBeSold_0 ?_
  refine V_ild2 dX1_canBeSold_1 ?_
  refine V_callV lm_X1_91 (ok_isPerson ho _) dX1_canBeSold_2 (cW_mkt ho) rfl (dep hX (by decide)) rfl (Nat.le_of_ble_eq_true rfl) ?_
  refine V_if_eq 44 dX1_canBeSold_5 (by decide) (fun c5 => ?_) (fun c5 => ?_)
  · try rw [b2i_eq] at c5
    try rw [Decidable.not_not] at c5
    have hf : ¬ csC σ o m p := fun h => c5 h.1
    refine V_iconst 0 dX1_canBeSold_44 (by decide) ?_
    exact V_zret hX dX1_canBeSold_45 rfl (by first | exact Or.inl rfl | exact Or.inr rfl) (by first | rw [b2i_f hf] | rw [b2i_t ht]) rfl
  · try rw [b2i_ne] at c5
    try rw [Decidable.not_not] at c5
    obtain ⟨j, hj, hpj⟩ := isP_of hP (by omega) c5
    subst hpj
    refine V_ald0 dX1_canBeSold_8 ?_
    refine V_ild1 dX1_canBeSold_9 ?_
    refine V_callV lm_X1_68 (ok_isOpened ho _) dX1_canBeSold_10 (cW_mkt ho) rfl (dep hX (by decide)) rfl (Nat.le_of_ble_eq_true rfl) ?_
    refine V_if_ne 44 dX1_canBeSold_13 (by decide) (fun c13 => ?_) (fun c13 => ?_)
    · try rw [b2i_ne] at c13
      try rw [Decidable.not_not] at c13
      have hf : ¬ csC σ o m (nI j) := fun h => h.2.1 c13
      refine V_iconst 0 dX1_canBeSold_44 (by decide) ?_
      exact V_zret hX dX1_canBeSold_45 rfl (by first | exact Or.inl rfl | exact Or.inr rfl) (by first | rw [b2i_f hf] | rw [b2i_t ht]) rfl
    · try rw [b2i_eq] at c13
      try rw [Decidable.not_not] at c13
      refine V_ald0 dX1_canBeSold_16 ?_
      refine V_get lf_X1_24 dX1_canBeSold_17 (cW_mkt ho) rfl ?_
      refine V_ild1 dX1_canBeSold_20 ?_
      refine V_ialdk dX1_canBeSold_21 (cW_ma4 ho) ⟨hm, by decide⟩ ?_
      refine V_ild2 dX1_canBeSold_22 ?_
      refine V_icmp_eq 44 dX1_canBeSold_23 (by decide) (fun c23 => ?_) (fun c23 => ?_)
      · have hf : ¬ csC σ o m (nI j) := fun h => h.2.2.1 c23
        refine V_iconst 0 dX1_canBeSold_44 (by decide) ?_
        exact V_zret hX dX1_canBeSold_45 rfl (by first | exact Or.inl rfl | exact Or.inr rfl) (by first | rw [b2i_f hf] | rw [b2i_t ht]) rfl
      · refine V_ald0 dX1_canBeSold_26 ?_
        refine V_ild1 dX1_canBeSold_27 ?_
        refine V_callV lm_X1_80 (ok_priceOf ho m hm) dX1_canBeSold_28 (cW_mkt ho) rfl (dep hX (by decide)) rfl (Nat.le_of_ble_eq_true rfl) ?_
        refine V_ald0 dX1_canBeSold_31 ?_
        refine V_get lf_X1_9 dX1_canBeSold_32 (cW_mkt ho) rfl ?_
        refine V_ild2 dX1_canBeSold_35 ?_
        refine V_ialdk dX1_canBeSold_36 (cW_ma0 ho) ⟨by omega, by decide⟩ ?_
        refine V_icmp_gt 44 dX1_canBeSold_37 (by decide) (fun c37 => ?_) (fun c37 => ?_)
        · have hf : ¬ csC σ o m (nI j) := fun h => h.2.2.2 (by rw [nI_clamp (by omega)]; exact c37)
          refine V_iconst 0 dX1_canBeSold_44 (by decide) ?_
          exact V_zret hX dX1_canBeSold_45 rfl (by first | exact Or.inl rfl | exact Or.inr rfl) (by first | rw [b2i_f hf] | rw [b2i_t ht]) rfl
        · have ht : csC σ o m (nI j) := ⟨c5, c13, c23, by rw [nI_clamp (by omega)]; exact c37⟩
          refine V_iconst 1 dX1_canBeSold_40 (by decide) ?_
          refine V_goto 45 dX1_canBeSold_41 (by decide) ?_
          exact V_zret hX dX1_canBeSold_45 rfl (by first | exact Or.inl rfl | exact Or.inr rfl) (by first | rw [b2i_f hf] | rw [b2i_t ht]) rfl
end
