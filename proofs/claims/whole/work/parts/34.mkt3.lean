section
variable {D : va_G} {tc : Tc} {A : Nat → Nat} {σ : St} {o M P : Nat}
set_option maxRecDepth 100000 in
set_option maxHeartbeats 4000000 in
theorem ok_handOver (ho : o = 5 ∨ o = 6) (m p q : Nat) (hm : m < 6) (hp : p < 4) (hq4 : q < 4) (hq : σ o 4 m = nI q) : Ok 3 yX1_handOver cX1_handOver 4 (some .int) D tc [.ref (A (mb o)), .int (nI m), .int (nI p)] (cW A tc σ) (some (.int (prC (σ o) m))) (cW A tc (hoC σ o m p q)) := by
  refine Ok_of RX1 rfl (by decide) [some (.ref (A (mb o))), some (.int (nI m)), some (.int (nI p)), none] rfl (Nat.le_of_ble_eq_true rfl) ?_
  intro X hX
  refine V_ald0 dX1_handOver_0 ?_
  refine V_ild1 dX1_handOver_1 ?_
  refine V_callV lm_X1_80 (ok_priceOf ho m hm) dX1_handOver_2 (cW_mkt ho) rfl (dep hX (by decide)) rfl (Nat.le_of_ble_eq_true rfl) ?_
  refine V_ist3 dX1_handOver_5 rfl (by decide) ?_
  refine V_ald0 dX1_handOver_6 ?_
  refine V_get lf_X1_9 dX1_handOver_7 (cW_mkt ho) rfl ?_
  refine V_ild2 dX1_handOver_10 ?_
  refine V_dup2 dX1_handOver_11 ?_
  refine V_ialdk dX1_handOver_12 (cW_ma0 ho) ⟨hp, by decide⟩ ?_
  refine V_ild3 dX1_handOver_13 ?_
  refine V_isub dX1_handOver_14 ?_
  refine V_iastk dX1_handOver_15 (cW_ma0 ho) ⟨hp, by decide⟩ (cW_ma0s ho _ _) ?_
  refine V_ald0 dX1_handOver_16 ?_
  refine V_get lf_X1_9 dX1_handOver_17 (cW_mkt ho) rfl ?_
  refine V_ald0 dX1_handOver_20 ?_
  refine V_get lf_X1_24 dX1_handOver_21 (cW_mkt ho) rfl ?_
  refine V_ild1 dX1_handOver_24 ?_
  refine V_ialdk dX1_handOver_25 (cW_ma4 ho) ⟨hm, by decide⟩ ?_
  refine V_top (y := nI q) (by simp [up, hq]) ?_
  refine V_dup2 dX1_handOver_26 ?_
  refine V_ialdk dX1_handOver_27 (cW_ma0 ho) ⟨hq4, by decide⟩ ?_
  refine V_ild3 dX1_handOver_28 ?_
  refine V_iadd dX1_handOver_29 ?_
  refine V_iastk dX1_handOver_30 (cW_ma0 ho) ⟨hq4, by decide⟩ (cW_ma0s ho _ _) ?_
  refine V_ald0 dX1_handOver_31 ?_
  refine V_get lf_X1_24 dX1_handOver_32 (cW_mkt ho) rfl ?_
  refine V_ild1 dX1_handOver_35 ?_
  refine V_ild2 dX1_handOver_36 ?_
  refine V_iastk dX1_handOver_37 (cW_ma4 ho) ⟨hm, by decide⟩ (cW_ma4s ho _ _) ?_
  refine V_ild3 dX1_handOver_38 ?_
  exact V_iret hX dX1_handOver_39 rfl rfl rfl
set_option maxRecDepth 100000 in
set_option maxHeartbeats 4000000 in
theorem ok_unseal (ho : o = 5 ∨ o = 6) (m q : Nat) (hm : m < 6) (hq4 : q < 4) (hq : σ o 4 m = nI q) : Ok 2 yX1_unseal cX1_unseal 5 (some .int) D tc [.ref (A (mb o)), .int (nI m)] (cW A tc σ) (some (.int (gaC σ o m q))) (cW A tc (unC σ o m q)) := by
  refine Ok_of RX1 rfl (by decide) [some (.ref (A (mb o))), some (.int (nI m)), none, none, none] rfl (Nat.le_of_ble_eq_true rfl) ?_
  intro X hX
  refine V_ald0 dX1_unseal_0 ?_
  refine V_get lf_X1_24 dX1_unseal_1 (cW_mkt ho) rfl ?_
  refine V_ild1 dX1_unseal_4 ?_
  refine V_ialdk dX1_unseal_5 (cW_ma4 ho) ⟨hm, by decide⟩ ?_
  refine V_top (y := nI q) hq ?_
  refine V_ist2 dX1_unseal_6 rfl (by decide) ?_
  refine V_ald0 dX1_unseal_7 ?_
  refine V_ild1 dX1_unseal_8 ?_
  refine V_ald0 dX1_unseal_9 ?_
  refine V_get lf_X1_37 dX1_unseal_10 (cW_mkt ho) rfl ?_
  refine V_callV lm_X1_76 (ok_freshOn ho m hm _) dX1_unseal_13 (cW_mkt ho) rfl (dep hX (by decide)) rfl (Nat.le_of_ble_eq_true rfl) ?_
  refine V_ist3 dX1_unseal_16 rfl (by decide) ?_
  refine V_ald0 dX1_unseal_17 ?_
  refine V_ild2 dX1_unseal_18 ?_
  refine V_callV lm_X1_84 (ok_openedToday ho q hq4) dX1_unseal_19 (cW_mkt ho) rfl (dep hX (by decide)) rfl (Nat.le_of_ble_eq_true rfl) ?_
  refine V_if_eq 31 dX1_unseal_22 (by decide) (fun c22 => ?_) (fun c22 => ?_)
  · try rw [b2i_eq] at c22
    try rw [Decidable.not_not] at c22
    refine V_ild3 dX1_unseal_31 ?_
    refine V_top (y := gaC σ o m q) (by simp [gaC, c22]) ?_
    refine V_ist4 dX1_unseal_32 rfl (by decide) ?_
    refine V_ald0 dX1_unseal_34 ?_
    refine V_get lf_X1_15 dX1_unseal_35 (cW_mkt ho) rfl ?_
    refine V_ild2 dX1_unseal_38 ?_
    refine V_dup2 dX1_unseal_39 ?_
    refine V_ialdk dX1_unseal_40 (cW_ma1 ho) ⟨hq4, by decide⟩ ?_
    refine V_ild4 dX1_unseal_41 ?_
    refine V_iadd dX1_unseal_43 ?_
    refine V_iastk dX1_unseal_44 (cW_ma1 ho) ⟨hq4, by decide⟩ (cW_ma1s ho _ _) ?_
    refine V_ald0 dX1_unseal_45 ?_
    refine V_get lf_X1_18 dX1_unseal_46 (cW_mkt ho) rfl ?_
    refine V_ild2 dX1_unseal_49 ?_
    refine V_ald0 dX1_unseal_50 ?_
    refine V_get lf_X1_37 dX1_unseal_51 (cW_mkt ho) rfl ?_
    refine V_top (y := σ o 8 0) (by simp [up]) ?_
    refine V_iastk dX1_unseal_54 (cW_ma2 ho) ⟨hq4, by decide⟩ (cW_ma2s ho _ _) ?_
    refine V_ald0 dX1_unseal_55 ?_
    refine V_dupa dX1_unseal_56 ?_
    refine V_get lf_X1_46 dX1_unseal_57 (cW_mkt ho) rfl ?_
    refine V_top (y := σ o 11 0) (by simp [up]) ?_
    refine V_iconst 1 dX1_unseal_60 (by decide) ?_
    refine V_ild1 dX1_unseal_61 ?_
    refine V_ishl dX1_unseal_62 ?_
    refine V_ior dX1_unseal_63 ?_
    refine V_puti lp_X1_46 dX1_unseal_64 (cW_mkt ho) (Nat.le_of_ble_eq_true rfl) (cW_mktp11 ho _) ?_
    refine V_ild4 dX1_unseal_67 ?_
    exact V_iret hX dX1_unseal_69 rfl rfl rfl
  · try rw [b2i_ne] at c22
    try rw [Decidable.not_not] at c22
    refine V_ild3 dX1_unseal_25 ?_
    refine V_iconst 2 dX1_unseal_26 (by decide) ?_
    refine V_idiv dX1_unseal_27 (by decide) ?_
    refine V_goto 32 dX1_unseal_28 (by decide) ?_
    refine V_top (y := gaC σ o m q) (by simp [gaC, c22]) ?_
    refine V_ist4 dX1_unseal_32 rfl (by decide) ?_
    refine V_ald0 dX1_unseal_34 ?_
    refine V_get lf_X1_15 dX1_unseal_35 (cW_mkt ho) rfl ?_
    refine V_ild2 dX1_unseal_38 ?_
    refine V_dup2 dX1_unseal_39 ?_
    refine V_ialdk dX1_unseal_40 (cW_ma1 ho) ⟨hq4, by decide⟩ ?_
    refine V_ild4 dX1_unseal_41 ?_
    refine V_iadd dX1_unseal_43 ?_
    refine V_iastk dX1_unseal_44 (cW_ma1 ho) ⟨hq4, by decide⟩ (cW_ma1s ho _ _) ?_
    refine V_ald0 dX1_unseal_45 ?_
    refine V_get lf_X1_18 dX1_unseal_46 (cW_mkt ho) rfl ?_
    refine V_ild2 dX1_unseal_49 ?_
    refine V_ald0 dX1_unseal_50 ?_
    refine V_get lf_X1_37 dX1_unseal_51 (cW_mkt ho) rfl ?_
    refine V_top (y := σ o 8 0) (by simp [up]) ?_
    refine V_iastk dX1_unseal_54 (cW_ma2 ho) ⟨hq4, by decide⟩ (cW_ma2s ho _ _) ?_
    refine V_ald0 dX1_unseal_55 ?_
    refine V_dupa dX1_unseal_56 ?_
    refine V_get lf_X1_46 dX1_unseal_57 (cW_mkt ho) rfl ?_
    refine V_top (y := σ o 11 0) (by simp [up]) ?_
    refine V_iconst 1 dX1_unseal_60 (by decide) ?_
    refine V_ild1 dX1_unseal_61 ?_
    refine V_ishl dX1_unseal_62 ?_
    refine V_ior dX1_unseal_63 ?_
    refine V_puti lp_X1_46 dX1_unseal_64 (cW_mkt ho) (Nat.le_of_ble_eq_true rfl) (cW_mktp11 ho _) ?_
    refine V_ild4 dX1_unseal_67 ?_
    exact V_iret hX dX1_unseal_69 rfl rfl rfl
set_option maxRecDepth 100000 in
set_option maxHeartbeats 4000000 in
theorem ok_acts_sleep (ho : o = 5 ∨ o = 6) (n : Int32) : Ok 4 yX1_acts cX1_acts 3 (some .boolean) D tc [.ref (A (mb o)), .int n, .int 9] (cW A tc σ) (some (.int (b2i (¬ 99 < σ o 8 0 + n)))) (cW A tc (if 99 < σ o 8 0 + n then σ else up σ o 8 0 (σ o 8 0 + n))) := by
  refine Ok_of RX1 rfl (by decide) [some (.ref (A (mb o))), some (.int n), some (.int 9)] rfl (Nat.le_of_ble_eq_true rfl) ?_
  intro X hX
  refine V_ild2 dX1_acts_0 ?_
  refine V_bipush 9 dX1_acts_1 (by decide) ?_
  refine V_icmp_ne 29 dX1_acts_3 (by decide) (fun c3 => ?_) (fun c3 => ?_)
  · exact absurd rfl c3
  · refine V_ald0 dX1_acts_6 ?_
    refine V_ild1 dX1_acts_7 ?_
    refine V_callV lm_X1_94 (ok_canGoBy ho _) dX1_acts_8 (cW_mkt ho) rfl (dep hX (by decide)) rfl (Nat.le_of_ble_eq_true rfl) ?_
    refine V_if_ne 16 dX1_acts_11 (by decide) (fun c11 => ?_) (fun c11 => ?_)
    · try rw [b2i_ne] at c11
      try rw [Decidable.not_not] at c11
      refine V_ald0 dX1_acts_16 ?_
      refine V_dupa dX1_acts_17 ?_
      refine V_get lf_X1_37 dX1_acts_18 (cW_mkt ho) rfl ?_
      refine V_ild1 dX1_acts_21 ?_
      refine V_iadd dX1_acts_22 ?_
      refine V_puti lp_X1_37 dX1_acts_23 (cW_mkt ho) (Nat.le_of_ble_eq_true rfl) (cW_mktp8 ho _) ?_
      refine V_goto 72 dX1_acts_26 (by decide) ?_
      refine V_iconst 1 dX1_acts_72 (by decide) ?_
      exact V_zret hX dX1_acts_73 rfl (by first | exact Or.inl rfl | exact Or.inr rfl) (by first | rw [b2i_t c11] | rw [b2i_f (fun h => h c11)]) (by first | rw [if_pos c11] | rw [if_neg c11])
    · try rw [b2i_eq] at c11
      try rw [Decidable.not_not] at c11
      refine V_iconst 0 dX1_acts_14 (by decide) ?_
      exact V_zret hX dX1_acts_15 rfl (by first | exact Or.inl rfl | exact Or.inr rfl) (by first | rw [b2i_t c11] | rw [b2i_f (fun h => h c11)]) (by first | rw [if_pos c11] | rw [if_neg c11])
set_option maxRecDepth 100000 in
set_option maxHeartbeats 4000000 in
theorem ok_acts_open (ho : o = 5 ∨ o = 6) (m q : Nat) (hm : m < 6) (hq4 : q < 4) (hq : σ o 4 m = nI q) : Ok 4 yX1_acts cX1_acts 3 (some .boolean) D tc [.ref (A (mb o)), .int (nI m), .int 8] (cW A tc σ) (some (.int (b2i (¬ bitI (σ o 11 0) (nI m))))) (cW A tc (if bitI (σ o 11 0) (nI m) then σ else unC σ o m q)) := by
  refine Ok_of RX1 rfl (by decide) [some (.ref (A (mb o))), some (.int (nI m)), some (.int 8)] rfl (Nat.le_of_ble_eq_true rfl) ?_
  intro X hX
  refine V_ild2 dX1_acts_0 ?_
  refine V_bipush 9 dX1_acts_1 (by decide) ?_
  refine V_icmp_ne 29 dX1_acts_3 (by decide) (fun c3 => ?_) (fun c3 => ?_)
  · refine V_ild2 dX1_acts_29 ?_
    refine V_bipush 8 dX1_acts_30 (by decide) ?_
    refine V_icmp_ne 54 dX1_acts_32 (by decide) (fun c32 => ?_) (fun c32 => ?_)
    · exact absurd rfl c32
    · refine V_ald0 dX1_acts_35 ?_
      refine V_ild1 dX1_acts_36 ?_
      refine V_callV lm_X1_68 (ok_isOpened ho _) dX1_acts_37 (cW_mkt ho) rfl (dep hX (by decide)) rfl (Nat.le_of_ble_eq_true rfl) ?_
      refine V_if_eq 45 dX1_acts_40 (by decide) (fun c40 => ?_) (fun c40 => ?_)
      · try rw [b2i_eq] at c40
        try rw [Decidable.not_not] at c40
        refine V_ald0 dX1_acts_45 ?_
        refine V_ild1 dX1_acts_46 ?_
        refine V_callV lm_X1_97 (ok_unseal ho m q hm hq4 hq) dX1_acts_47 (cW_mkt ho) rfl (dep hX (by decide)) rfl (Nat.le_of_ble_eq_true rfl) ?_
        refine V_popi dX1_acts_50 ?_
        refine V_goto 72 dX1_acts_51 (by decide) ?_
        refine V_iconst 1 dX1_acts_72 (by decide) ?_
        exact V_zret hX dX1_acts_73 rfl (by first | exact Or.inl rfl | exact Or.inr rfl) (by first | rw [b2i_t c40] | rw [b2i_f (fun h => h c40)]) (by first | rw [if_pos c40] | rw [if_neg c40])
      · try rw [b2i_ne] at c40
        try rw [Decidable.not_not] at c40
        refine V_iconst 0 dX1_acts_43 (by decide) ?_
        exact V_zret hX dX1_acts_44 rfl (by first | exact Or.inl rfl | exact Or.inr rfl) (by first | rw [b2i_t c40] | rw [b2i_f (fun h => h c40)]) (by first | rw [if_pos c40] | rw [if_neg c40])
  · exact absurd c3 (by decide)
set_option maxRecDepth 100000 in
set_option maxHeartbeats 4000000 in
theorem ok_acts_sell (ho : o = 5 ∨ o = 6) (hP : σ o 9 0 = nI P) (h4 : P ≤ 4) (m p q : Nat) (hm : m < 6) (hp : p < 4) (hq4 : q < 4) (hq : σ o 4 m = nI q) : Ok 4 yX1_acts cX1_acts 3 (some .boolean) D tc [.ref (A (mb o)), .int (nI m), .int (nI p)] (cW A tc σ) (some (.int (b2i (csC σ o m (nI p))))) (cW A tc (if csC σ o m (nI p) then hoC σ o m p q else σ)) := by
  refine Ok_of RX1 rfl (by decide) [some (.ref (A (mb o))), some (.int (nI m)), some (.int (nI p))] rfl (Nat.le_of_ble_eq_true rfl) ?_
  intro X hX
  refine V_ild2 dX1_acts_0 ?_
  refine V_bipush 9 dX1_acts_1 (by decide) ?_
  refine V_icmp_ne 29 dX1_acts_3 (by decide) (fun c3 => ?_) (fun c3 => ?_)
  · refine V_ild2 dX1_acts_29 ?_
    refine V_bipush 8 dX1_acts_30 (by decide) ?_
    refine V_icmp_ne 54 dX1_acts_32 (by decide) (fun c32 => ?_) (fun c32 => ?_)
    · refine V_ald0 dX1_acts_54 ?_
      refine V_ild1 dX1_acts_55 ?_
      refine V_ild2 dX1_acts_56 ?_
      refine V_callV lm_X1_100 (ok_canBeSold ho hP h4 m hm _) dX1_acts_57 (cW_mkt ho) rfl (dep hX (by decide)) rfl (Nat.le_of_ble_eq_true rfl) ?_
      refine V_if_ne 65 dX1_acts_60 (by decide) (fun c60 => ?_) (fun c60 => ?_)
      · try rw [b2i_ne] at c60
        try rw [Decidable.not_not] at c60
        refine V_ald0 dX1_acts_65 ?_
        refine V_ild1 dX1_acts_66 ?_
        refine V_ild2 dX1_acts_67 ?_
        refine V_callV lm_X1_103 (ok_handOver ho m p q hm hp hq4 hq) dX1_acts_68 (cW_mkt ho) rfl (dep hX (by decide)) rfl (Nat.le_of_ble_eq_true rfl) ?_
        refine V_popi dX1_acts_71 ?_
        refine V_iconst 1 dX1_acts_72 (by decide) ?_
        exact V_zret hX dX1_acts_73 rfl (by first | exact Or.inl rfl | exact Or.inr rfl) (by first | rw [b2i_t c60] | rw [b2i_f c60]) (by first | rw [if_pos c60] | rw [if_neg c60])
      · try rw [b2i_eq] at c60
        try rw [Decidable.not_not] at c60
        refine V_iconst 0 dX1_acts_63 (by decide) ?_
        exact V_zret hX dX1_acts_64 rfl (by first | exact Or.inl rfl | exact Or.inr rfl) (by first | rw [b2i_t c60] | rw [b2i_f c60]) (by first | rw [if_pos c60] | rw [if_neg c60])
    · exact absurd c32 (by rcases (show p = 0 ∨ p = 1 ∨ p = 2 ∨ p = 3 by omega) with rfl | rfl | rfl | rfl <;> decide)
  · exact absurd c3 (by rcases (show p = 0 ∨ p = 1 ∨ p = 2 ∨ p = 3 by omega) with rfl | rfl | rfl | rfl <;> decide)
theorem ok_fillM (ho : o = 5 ∨ o = 6) (v : Int32) : Ok 0 yJ7_fill_53178 cJ7_fill_53178 4 none D tc [.ref (A (mb o + 2)), .int v] (cW A tc σ) none (cW A tc (upF σ o 1 (fillN (σ o 1) v 4))) := by
  rw [← cW_ma1F ho]
  exact ok_fill (cW_ma1 ho) (by decide) v
theorem ok_fillO (ho : o = 5 ∨ o = 6) (v : Int32) : Ok 0 yJ7_fill_53178 cJ7_fill_53178 4 none D tc [.ref (A (mb o + 3)), .int v] (cW A tc σ) none (cW A tc (upF σ o 2 (fillN (σ o 2) v 4))) := by
  rw [← cW_ma2F ho]
  exact ok_fill (cW_ma2 ho) (by decide) v
def fjC (σ : St) : St := upF σ 6 1 (fillN (σ 6 1) 0 4)
def baC (σ : St) : St := up (up (up (up (up (upF (fjC σ) 6 2 (fillN (σ 6 2) (-1) 4)) 6 7 0 0) 6 8 0 0) 6 9 0 0) 6 10 0 0) 6 11 0 0
set_option maxRecDepth 100000 in
set_option maxHeartbeats 4000000 in
theorem ok_forgetJoy : Ok 1 yX1_forgetJoy cX1_forgetJoy 1 none D tc [.ref (A (mb 6))] (cW A tc σ) none (cW A tc (fjC σ)) := by
  refine Ok_of RX1 rfl (by decide) [some (.ref (A (mb 6)))] rfl (Nat.le_of_ble_eq_true rfl) ?_
  intro X hX
  refine V_ald0 dX1_forgetJoy_0 ?_
  refine V_get lf_X1_15 dX1_forgetJoy_1 (cW_mkt dra6) rfl ?_
  refine V_iconst 0 dX1_forgetJoy_4 (by decide) ?_
  refine V_callSv ls_X1_52 (ok_fillM dra6 0) dX1_forgetJoy_5 (dep hX (by decide)) rfl (Nat.le_of_ble_eq_true rfl) ?_
  exact V_vret hX dX1_forgetJoy_8 rfl rfl rfl
set_option maxRecDepth 100000 in
set_option maxHeartbeats 4000000 in
theorem ok_beginAnew : Ok 2 yX1_beginAnew cX1_beginAnew 1 none D tc [.ref (A (mb 6))] (cW A tc σ) none (cW A tc (baC σ)) := by
  refine Ok_of RX1 rfl (by decide) [some (.ref (A (mb 6)))] rfl (Nat.le_of_ble_eq_true rfl) ?_
  intro X hX
  refine V_ald0 dX1_beginAnew_0 ?_
  refine V_callVv lm_X1_49 (ok_forgetJoy) dX1_beginAnew_1 (cW_mkt dra6) rfl (dep hX (by decide)) rfl (Nat.le_of_ble_eq_true rfl) ?_
  refine V_ald0 dX1_beginAnew_4 ?_
  refine V_get lf_X1_18 dX1_beginAnew_5 (cW_mkt dra6) rfl ?_
  refine V_iconst (-1) dX1_beginAnew_8 (by decide) ?_
  refine V_callSv ls_X1_52 (ok_fillO dra6 (-1)) dX1_beginAnew_9 (dep hX (by decide)) rfl (Nat.le_of_ble_eq_true rfl) ?_
  refine V_ald0 dX1_beginAnew_12 ?_
  refine V_iconst 0 dX1_beginAnew_13 (by decide) ?_
  refine V_puti lp_X1_33 dX1_beginAnew_14 (cW_mkt dra6) (Nat.le_of_ble_eq_true rfl) (cW_mktp7 dra6 _) ?_
  refine V_ald0 dX1_beginAnew_17 ?_
  refine V_iconst 0 dX1_beginAnew_18 (by decide) ?_
  refine V_puti lp_X1_37 dX1_beginAnew_19 (cW_mkt dra6) (Nat.le_of_ble_eq_true rfl) (cW_mktp8 dra6 _) ?_
  refine V_ald0 dX1_beginAnew_22 ?_
  refine V_iconst 0 dX1_beginAnew_23 (by decide) ?_
  refine V_puti lp_X1_40 dX1_beginAnew_24 (cW_mkt dra6) (Nat.le_of_ble_eq_true rfl) (cW_mktp9 dra6 _) ?_
  refine V_ald0 dX1_beginAnew_27 ?_
  refine V_iconst 0 dX1_beginAnew_28 (by decide) ?_
  refine V_puti lp_X1_43 dX1_beginAnew_29 (cW_mkt dra6) (Nat.le_of_ble_eq_true rfl) (cW_mktp10 dra6 _) ?_
  refine V_ald0 dX1_beginAnew_32 ?_
  refine V_iconst 0 dX1_beginAnew_33 (by decide) ?_
  refine V_puti lp_X1_46 dX1_beginAnew_34 (cW_mkt dra6) (Nat.le_of_ble_eq_true rfl) (cW_mktp11 dra6 _) ?_
  exact V_vret hX dX1_beginAnew_37 rfl rfl rfl
def blC (σ : St) (a b : Nat) : St := up (up (up (up (up (upF (upF (upF (upF (upF (upF (upF (σ) a 0 (va_cpy (σ b 0) (σ a 0) 0 0 4)) a 1 (va_cpy (σ b 1) (σ a 1) 0 0 4)) a 2 (va_cpy (σ b 2) (σ a 2) 0 0 4)) a 3 (va_cpy (σ b 3) (σ a 3) 0 0 6)) a 4 (va_cpy (σ b 4) (σ a 4) 0 0 6)) a 5 (va_cpy (σ b 5) (σ a 5) 0 0 6)) a 6 (va_cpy (σ b 6) (σ a 6) 0 0 6)) a 7 0 (σ b 7 0)) a 8 0 (σ b 8 0)) a 9 0 (σ b 9 0)) a 10 0 (σ b 10 0)) a 11 0 (σ b 11 0)
set_option maxRecDepth 100000 in
set_option maxHeartbeats 4000000 in
theorem ok_becomeLike56 : Ok 1 yX1_becomeLike cX1_becomeLike 2 none D tc [.ref (A (mb 5)), .ref (A (mb 6))] (cW A tc σ) none (cW A tc (blC σ 5 6)) := by
  refine Ok_of RX1 rfl (by decide) [some (.ref (A (mb 5))), some (.ref (A (mb 6)))] rfl (Nat.le_of_ble_eq_true rfl) ?_
  intro X hX
  refine V_ald1 dX1_becomeLike_0 ?_
  refine V_get lf_X1_9 dX1_becomeLike_1 (cW_mkt dra6) rfl ?_
  refine V_iconst 0 dX1_becomeLike_4 (by decide) ?_
  refine V_ald0 dX1_becomeLike_5 ?_
  refine V_get lf_X1_9 dX1_becomeLike_6 (cW_mkt now5) rfl ?_
  refine V_iconst 0 dX1_becomeLike_9 (by decide) ?_
  refine V_iconst 4 dX1_becomeLike_10 (by decide) ?_
  refine V_copyE wM_X1_58 wcp (dep1 hX (by decide)) (Nat.le_of_ble_eq_true rfl) dX1_becomeLike_11 (cW_ma0 dra6) (cW_ma0 now5) 0 0 4 (by decide) (by decide) (by decide) (by decide) (cW_ma0F now5 _) ?_
  refine V_ald1 dX1_becomeLike_14 ?_
  refine V_get lf_X1_15 dX1_becomeLike_15 (cW_mkt dra6) rfl ?_
  refine V_iconst 0 dX1_becomeLike_18 (by decide) ?_
  refine V_ald0 dX1_becomeLike_19 ?_
  refine V_get lf_X1_15 dX1_becomeLike_20 (cW_mkt now5) rfl ?_
  refine V_iconst 0 dX1_becomeLike_23 (by decide) ?_
  refine V_iconst 4 dX1_becomeLike_24 (by decide) ?_
  refine V_copyE wM_X1_58 wcp (dep1 hX (by decide)) (Nat.le_of_ble_eq_true rfl) dX1_becomeLike_25 (cW_ma1 dra6) (cW_ma1 now5) 0 0 4 (by decide) (by decide) (by decide) (by decide) (cW_ma1F now5 _) ?_
  refine V_ald1 dX1_becomeLike_28 ?_
  refine V_get lf_X1_18 dX1_becomeLike_29 (cW_mkt dra6) rfl ?_
  refine V_iconst 0 dX1_becomeLike_32 (by decide) ?_
  refine V_ald0 dX1_becomeLike_33 ?_
  refine V_get lf_X1_18 dX1_becomeLike_34 (cW_mkt now5) rfl ?_
  refine V_iconst 0 dX1_becomeLike_37 (by decide) ?_
  refine V_iconst 4 dX1_becomeLike_38 (by decide) ?_
  refine V_copyE wM_X1_58 wcp (dep1 hX (by decide)) (Nat.le_of_ble_eq_true rfl) dX1_becomeLike_39 (cW_ma2 dra6) (cW_ma2 now5) 0 0 4 (by decide) (by decide) (by decide) (by decide) (cW_ma2F now5 _) ?_
  refine V_ald1 dX1_becomeLike_42 ?_
  refine V_get lf_X1_21 dX1_becomeLike_43 (cW_mkt dra6) rfl ?_
  refine V_iconst 0 dX1_becomeLike_46 (by decide) ?_
  refine V_ald0 dX1_becomeLike_47 ?_
  refine V_get lf_X1_21 dX1_becomeLike_48 (cW_mkt now5) rfl ?_
  refine V_iconst 0 dX1_becomeLike_51 (by decide) ?_
  refine V_bipush 6 dX1_becomeLike_52 (by decide) ?_
  refine V_copyE wM_X1_58 wcp (dep1 hX (by decide)) (Nat.le_of_ble_eq_true rfl) dX1_becomeLike_54 (cW_ma3 dra6) (cW_ma3 now5) 0 0 6 (by decide) (by decide) (by decide) (by decide) (cW_ma3F now5 _) ?_
  refine V_ald1 dX1_becomeLike_57 ?_
  refine V_get lf_X1_24 dX1_becomeLike_58 (cW_mkt dra6) rfl ?_
  refine V_iconst 0 dX1_becomeLike_61 (by decide) ?_
  refine V_ald0 dX1_becomeLike_62 ?_
  refine V_get lf_X1_24 dX1_becomeLike_63 (cW_mkt now5) rfl ?_
  refine V_iconst 0 dX1_becomeLike_66 (by decide) ?_
  refine V_bipush 6 dX1_becomeLike_67 (by decide) ?_
  refine V_copyE wM_X1_58 wcp (dep1 hX (by decide)) (Nat.le_of_ble_eq_true rfl) dX1_becomeLike_69 (cW_ma4 dra6) (cW_ma4 now5) 0 0 6 (by decide) (by decide) (by decide) (by decide) (cW_ma4F now5 _) ?_
  refine V_ald1 dX1_becomeLike_72 ?_
  refine V_get lf_X1_27 dX1_becomeLike_73 (cW_mkt dra6) rfl ?_
  refine V_iconst 0 dX1_becomeLike_76 (by decide) ?_
  refine V_ald0 dX1_becomeLike_77 ?_
  refine V_get lf_X1_27 dX1_becomeLike_78 (cW_mkt now5) rfl ?_
  refine V_iconst 0 dX1_becomeLike_81 (by decide) ?_
  refine V_bipush 6 dX1_becomeLike_82 (by decide) ?_
  refine V_copyE wM_X1_58 wcp (dep1 hX (by decide)) (Nat.le_of_ble_eq_true rfl) dX1_becomeLike_84 (cW_ma5 dra6) (cW_ma5 now5) 0 0 6 (by decide) (by decide) (by decide) (by decide) (cW_ma5F now5 _) ?_
  refine V_ald1 dX1_becomeLike_87 ?_
  refine V_get lf_X1_30 dX1_becomeLike_88 (cW_mkt dra6) rfl ?_
  refine V_iconst 0 dX1_becomeLike_91 (by decide) ?_
  refine V_ald0 dX1_becomeLike_92 ?_
  refine V_get lf_X1_30 dX1_becomeLike_93 (cW_mkt now5) rfl ?_
  refine V_iconst 0 dX1_becomeLike_96 (by decide) ?_
  refine V_bipush 6 dX1_becomeLike_97 (by decide) ?_
  refine V_copyE wM_X1_58 wcp (dep1 hX (by decide)) (Nat.le_of_ble_eq_true rfl) dX1_becomeLike_99 (cW_ma6 dra6) (cW_ma6 now5) 0 0 6 (by decide) (by decide) (by decide) (by decide) (cW_ma6F now5 _) ?_
  refine V_ald0 dX1_becomeLike_102 ?_
  refine V_ald1 dX1_becomeLike_103 ?_
  refine V_get lf_X1_33 dX1_becomeLike_104 (cW_mkt dra6) rfl ?_
  refine V_puti lp_X1_33 dX1_becomeLike_107 (cW_mkt now5) (Nat.le_of_ble_eq_true rfl) (cW_mktp7 now5 _) ?_
  refine V_ald0 dX1_becomeLike_110 ?_
  refine V_ald1 dX1_becomeLike_111 ?_
  refine V_get lf_X1_37 dX1_becomeLike_112 (cW_mkt dra6) rfl ?_
  refine V_puti lp_X1_37 dX1_becomeLike_115 (cW_mkt now5) (Nat.le_of_ble_eq_true rfl) (cW_mktp8 now5 _) ?_
  refine V_ald0 dX1_becomeLike_118 ?_
  refine V_ald1 dX1_becomeLike_119 ?_
  refine V_get lf_X1_40 dX1_becomeLike_120 (cW_mkt dra6) rfl ?_
  refine V_puti lp_X1_40 dX1_becomeLike_123 (cW_mkt now5) (Nat.le_of_ble_eq_true rfl) (cW_mktp9 now5 _) ?_
  refine V_ald0 dX1_becomeLike_126 ?_
  refine V_ald1 dX1_becomeLike_127 ?_
  refine V_get lf_X1_43 dX1_becomeLike_128 (cW_mkt dra6) rfl ?_
  refine V_puti lp_X1_43 dX1_becomeLike_131 (cW_mkt now5) (Nat.le_of_ble_eq_true rfl) (cW_mktp10 now5 _) ?_
  refine V_ald0 dX1_becomeLike_134 ?_
  refine V_ald1 dX1_becomeLike_135 ?_
  refine V_get lf_X1_46 dX1_becomeLike_136 (cW_mkt dra6) rfl ?_
  refine V_puti lp_X1_46 dX1_becomeLike_139 (cW_mkt now5) (Nat.le_of_ble_eq_true rfl) (cW_mktp11 now5 _) ?_
  exact V_vret hX dX1_becomeLike_142 rfl rfl rfl
set_option maxRecDepth 100000 in
set_option maxHeartbeats 4000000 in
theorem ok_becomeLike65 : Ok 1 yX1_becomeLike cX1_becomeLike 2 none D tc [.ref (A (mb 6)), .ref (A (mb 5))] (cW A tc σ) none (cW A tc (blC σ 6 5)) := by
  refine Ok_of RX1 rfl (by decide) [some (.ref (A (mb 6))), some (.ref (A (mb 5)))] rfl (Nat.le_of_ble_eq_true rfl) ?_
  intro X hX
  refine V_ald1 dX1_becomeLike_0 ?_
  refine V_get lf_X1_9 dX1_becomeLike_1 (cW_mkt now5) rfl ?_
  refine V_iconst 0 dX1_becomeLike_4 (by decide) ?_
  refine V_ald0 dX1_becomeLike_5 ?_
  refine V_get lf_X1_9 dX1_becomeLike_6 (cW_mkt dra6) rfl ?_
  refine V_iconst 0 dX1_becomeLike_9 (by decide) ?_
  refine V_iconst 4 dX1_becomeLike_10 (by decide) ?_
  refine V_copyE wM_X1_58 wcp (dep1 hX (by decide)) (Nat.le_of_ble_eq_true rfl) dX1_becomeLike_11 (cW_ma0 now5) (cW_ma0 dra6) 0 0 4 (by decide) (by decide) (by decide) (by decide) (cW_ma0F dra6 _) ?_
  refine V_ald1 dX1_becomeLike_14 ?_
  refine V_get lf_X1_15 dX1_becomeLike_15 (cW_mkt now5) rfl ?_
  refine V_iconst 0 dX1_becomeLike_18 (by decide) ?_
  refine V_ald0 dX1_becomeLike_19 ?_
  refine V_get lf_X1_15 dX1_becomeLike_20 (cW_mkt dra6) rfl ?_
  refine V_iconst 0 dX1_becomeLike_23 (by decide) ?_
  refine V_iconst 4 dX1_becomeLike_24 (by decide) ?_
  refine V_copyE wM_X1_58 wcp (dep1 hX (by decide)) (Nat.le_of_ble_eq_true rfl) dX1_becomeLike_25 (cW_ma1 now5) (cW_ma1 dra6) 0 0 4 (by decide) (by decide) (by decide) (by decide) (cW_ma1F dra6 _) ?_
  refine V_ald1 dX1_becomeLike_28 ?_
  refine V_get lf_X1_18 dX1_becomeLike_29 (cW_mkt now5) rfl ?_
  refine V_iconst 0 dX1_becomeLike_32 (by decide) ?_
  refine V_ald0 dX1_becomeLike_33 ?_
  refine V_get lf_X1_18 dX1_becomeLike_34 (cW_mkt dra6) rfl ?_
  refine V_iconst 0 dX1_becomeLike_37 (by decide) ?_
  refine V_iconst 4 dX1_becomeLike_38 (by decide) ?_
  refine V_copyE wM_X1_58 wcp (dep1 hX (by decide)) (Nat.le_of_ble_eq_true rfl) dX1_becomeLike_39 (cW_ma2 now5) (cW_ma2 dra6) 0 0 4 (by decide) (by decide) (by decide) (by decide) (cW_ma2F dra6 _) ?_
  refine V_ald1 dX1_becomeLike_42 ?_
  refine V_get lf_X1_21 dX1_becomeLike_43 (cW_mkt now5) rfl ?_
  refine V_iconst 0 dX1_becomeLike_46 (by decide) ?_
  refine V_ald0 dX1_becomeLike_47 ?_
  refine V_get lf_X1_21 dX1_becomeLike_48 (cW_mkt dra6) rfl ?_
  refine V_iconst 0 dX1_becomeLike_51 (by decide) ?_
  refine V_bipush 6 dX1_becomeLike_52 (by decide) ?_
  refine V_copyE wM_X1_58 wcp (dep1 hX (by decide)) (Nat.le_of_ble_eq_true rfl) dX1_becomeLike_54 (cW_ma3 now5) (cW_ma3 dra6) 0 0 6 (by decide) (by decide) (by decide) (by decide) (cW_ma3F dra6 _) ?_
  refine V_ald1 dX1_becomeLike_57 ?_
  refine V_get lf_X1_24 dX1_becomeLike_58 (cW_mkt now5) rfl ?_
  refine V_iconst 0 dX1_becomeLike_61 (by decide) ?_
  refine V_ald0 dX1_becomeLike_62 ?_
  refine V_get lf_X1_24 dX1_becomeLike_63 (cW_mkt dra6) rfl ?_
  refine V_iconst 0 dX1_becomeLike_66 (by decide) ?_
  refine V_bipush 6 dX1_becomeLike_67 (by decide) ?_
  refine V_copyE wM_X1_58 wcp (dep1 hX (by decide)) (Nat.le_of_ble_eq_true rfl) dX1_becomeLike_69 (cW_ma4 now5) (cW_ma4 dra6) 0 0 6 (by decide) (by decide) (by decide) (by decide) (cW_ma4F dra6 _) ?_
  refine V_ald1 dX1_becomeLike_72 ?_
  refine V_get lf_X1_27 dX1_becomeLike_73 (cW_mkt now5) rfl ?_
  refine V_iconst 0 dX1_becomeLike_76 (by decide) ?_
  refine V_ald0 dX1_becomeLike_77 ?_
  refine V_get lf_X1_27 dX1_becomeLike_78 (cW_mkt dra6) rfl ?_
  refine V_iconst 0 dX1_becomeLike_81 (by decide) ?_
  refine V_bipush 6 dX1_becomeLike_82 (by decide) ?_
  refine V_copyE wM_X1_58 wcp (dep1 hX (by decide)) (Nat.le_of_ble_eq_true rfl) dX1_becomeLike_84 (cW_ma5 now5) (cW_ma5 dra6) 0 0 6 (by decide) (by decide) (by decide) (by decide) (cW_ma5F dra6 _) ?_
  refine V_ald1 dX1_becomeLike_87 ?_
  refine V_get lf_X1_30 dX1_becomeLike_88 (cW_mkt now5) rfl ?_
  refine V_iconst 0 dX1_becomeLike_91 (by decide) ?_
  refine V_ald0 dX1_becomeLike_92 ?_
  refine V_get lf_X1_30 dX1_becomeLike_93 (cW_mkt dra6) rfl ?_
  refine V_iconst 0 dX1_becomeLike_96 (by decide) ?_
  refine V_bipush 6 dX1_becomeLike_97 (by decide) ?_
  refine V_copyE wM_X1_58 wcp (dep1 hX (by decide)) (Nat.le_of_ble_eq_true rfl) dX1_becomeLike_99 (cW_ma6 now5) (cW_ma6 dra6) 0 0 6 (by decide) (by decide) (by decide) (by decide) (cW_ma6F dra6 _) ?_
  refine V_ald0 dX1_becomeLike_102 ?_
  refine V_ald1 dX1_becomeLike_103 ?_
  refine V_get lf_X1_33 dX1_becomeLike_104 (cW_mkt now5) rfl ?_
  refine V_puti lp_X1_33 dX1_becomeLike_107 (cW_mkt dra6) (Nat.le_of_ble_eq_true rfl) (cW_mktp7 dra6 _) ?_
  refine V_ald0 dX1_becomeLike_110 ?_
  refine V_ald1 dX1_becomeLike_111 ?_
  refine V_get lf_X1_37 dX1_becomeLike_112 (cW_mkt now5) rfl ?_
  refine V_puti lp_X1_37 dX1_becomeLike_115 (cW_mkt dra6) (Nat.le_of_ble_eq_true rfl) (cW_mktp8 dra6 _) ?_
  refine V_ald0 dX1_becomeLike_118 ?_
  refine V_ald1 dX1_becomeLike_119 ?_
  refine V_get lf_X1_40 dX1_becomeLike_120 (cW_mkt now5) rfl ?_
  refine V_puti lp_X1_40 dX1_becomeLike_123 (cW_mkt dra6) (Nat.le_of_ble_eq_true rfl) (cW_mktp9 dra6 _) ?_
  refine V_ald0 dX1_becomeLike_126 ?_
  refine V_ald1 dX1_becomeLike_127 ?_
  refine V_get lf_X1_43 dX1_becomeLike_128 (cW_mkt now5) rfl ?_
  refine V_puti lp_X1_43 dX1_becomeLike_131 (cW_mkt dra6) (Nat.le_of_ble_eq_true rfl) (cW_mktp10 dra6 _) ?_
  refine V_ald0 dX1_becomeLike_134 ?_
  refine V_ald1 dX1_becomeLike_135 ?_
  refine V_get lf_X1_46 dX1_becomeLike_136 (cW_mkt now5) rfl ?_
  refine V_puti lp_X1_46 dX1_becomeLike_139 (cW_mkt dra6) (Nat.le_of_ble_eq_true rfl) (cW_mktp11 dra6 _) ?_
  exact V_vret hX dX1_becomeLike_142 rfl rfl rfl
end
