section
variable {D : va_G} {tc : Tc} {A : Nat → Nat} {σ : St} {ws : va_W}
set_option maxRecDepth 100000 in
set_option maxHeartbeats 4000000 in
theorem ok_isIn (s n : Int32) : Ok 0 yX5_isIn cX5_isIn 2 (some .boolean) D tc [.int s, .int n] ws (some (.int (b2i (bitI s n)))) ws := by
  refine Ok_of RX5 rfl (by decide) [some (.int s), some (.int n)] rfl (Nat.le_of_ble_eq_true rfl) ?_
  intro X hX
  refine V_ild0 dX5_isIn_0 ?_
  refine V_ild1 dX5_isIn_1 ?_
  refine V_ishr dX5_isIn_2 ?_
  refine V_iconst 1 dX5_isIn_3 (by decide) ?_
  refine V_iand dX5_isIn_4 ?_
  refine V_iconst 1 dX5_isIn_5 (by decide) ?_
  refine V_icmp_ne 13 dX5_isIn_6 (by decide) (fun c6 => ?_) (fun c6 => ?_)
  · refine V_iconst 0 dX5_isIn_13 (by decide) ?_
    exact V_zret hX dX5_isIn_14 rfl (by first | exact Or.inl rfl | exact Or.inr rfl) (by simp [b2i, bitI, c6]) rfl
  · refine V_iconst 1 dX5_isIn_9 (by decide) ?_
    refine V_goto 14 dX5_isIn_10 (by decide) ?_
    exact V_zret hX dX5_isIn_14 rfl (by first | exact Or.inl rfl | exact Or.inr rfl) (by simp [b2i, bitI, c6]) rfl
set_option maxRecDepth 100000 in
set_option maxHeartbeats 4000000 in
theorem ok_isWithin (s n : Int32) : Ok 0 yX5_isWithin cX5_isWithin 2 (some .boolean) D tc [.int s, .int n] ws (some (.int (b2i (s &&& (n ^^^ (-1)) = 0)))) ws := by
  refine Ok_of RX5 rfl (by decide) [some (.int s), some (.int n)] rfl (Nat.le_of_ble_eq_true rfl) ?_
  intro X hX
  refine V_ild0 dX5_isWithin_0 ?_
  refine V_ild1 dX5_isWithin_1 ?_
  refine V_iconst (-1) dX5_isWithin_2 (by decide) ?_
  refine V_ixor dX5_isWithin_3 ?_
  refine V_iand dX5_isWithin_4 ?_
  refine V_if_ne 12 dX5_isWithin_5 (by decide) (fun c5 => ?_) (fun c5 => ?_)
  · refine V_iconst 0 dX5_isWithin_12 (by decide) ?_
    exact V_zret hX dX5_isWithin_13 rfl (by first | exact Or.inl rfl | exact Or.inr rfl) (by first | rw [b2i_t c5] | rw [b2i_f c5]) rfl
  · refine V_iconst 1 dX5_isWithin_8 (by decide) ?_
    refine V_goto 13 dX5_isWithin_9 (by decide) ?_
    exact V_zret hX dX5_isWithin_13 rfl (by first | exact Or.inl rfl | exact Or.inr rfl) (by first | rw [b2i_t c5] | rw [b2i_f c5]) rfl
set_option maxRecDepth 100000 in
set_option maxHeartbeats 4000000 in
theorem ok_freshBy (k t w d : Int32) : Ok 0 yX5_freshBy cX5_freshBy 6 (some .int) D tc [.int k, .int t, .int w, .int d] ws (some (.int (freshI k t w d))) ws := by
  refine Ok_of RX5 rfl (by decide) [some (.int k), some (.int t), some (.int w), some (.int d), none, none] rfl (Nat.le_of_ble_eq_true rfl) ?_
  intro X hX
  refine V_ild3 dX5_freshBy_0 ?_
  refine V_ild1 dX5_freshBy_1 ?_
  refine V_icmp_ge 7 dX5_freshBy_2 (by decide) (fun c2 => ?_) (fun c2 => ?_)
  · refine V_ild3 dX5_freshBy_7 ?_
    refine V_ild1 dX5_freshBy_8 ?_
    refine V_isub dX5_freshBy_9 ?_
    refine V_ist4 dX5_freshBy_10 rfl (by decide) ?_
    refine V_ild2 dX5_freshBy_12 ?_
    refine V_ild0 dX5_freshBy_13 ?_
    refine V_iconst 1 dX5_freshBy_14 (by decide) ?_
    refine V_icmp_ne 25 dX5_freshBy_15 (by decide) (fun c15 => ?_) (fun c15 => ?_)
    · refine V_ild4 dX5_freshBy_25 ?_
      refine V_isub dX5_freshBy_27 ?_
      refine V_ist5 dX5_freshBy_28 rfl (by decide) ?_
      refine V_ild5 dX5_freshBy_30 ?_
      refine V_if_ge 37 dX5_freshBy_32 (by decide) (fun c32 => ?_) (fun c32 => ?_)
      · refine V_ild0 dX5_freshBy_37 ?_
        refine V_iconst 2 dX5_freshBy_38 (by decide) ?_
        refine V_icmp_ne 49 dX5_freshBy_39 (by decide) (fun c39 => ?_) (fun c39 => ?_)
        · refine V_ild5 dX5_freshBy_49 ?_
          exact V_iret hX dX5_freshBy_51 rfl (by first | (simp [freshI, *]; done) | exact absurd (c15.symm.trans c39) (by decide)) rfl
        · refine V_ild5 dX5_freshBy_42 ?_
          refine V_iconst 2 dX5_freshBy_44 (by decide) ?_
          refine V_idiv dX5_freshBy_45 (by decide) ?_
          refine V_goto 51 dX5_freshBy_46 (by decide) ?_
          exact V_iret hX dX5_freshBy_51 rfl (by first | (simp [freshI, *]; done) | exact absurd (c15.symm.trans c39) (by decide)) rfl
      · refine V_iconst 0 dX5_freshBy_35 (by decide) ?_
        exact V_iret hX dX5_freshBy_36 rfl (by first | (simp [freshI, *]; done) | exact absurd (c15.symm.trans c39) (by decide)) rfl
    · refine V_ild4 dX5_freshBy_18 ?_
      refine V_iconst 3 dX5_freshBy_20 (by decide) ?_
      refine V_idiv dX5_freshBy_21 (by decide) ?_
      refine V_goto 27 dX5_freshBy_22 (by decide) ?_
      refine V_isub dX5_freshBy_27 ?_
      refine V_ist5 dX5_freshBy_28 rfl (by decide) ?_
      refine V_ild5 dX5_freshBy_30 ?_
      refine V_if_ge 37 dX5_freshBy_32 (by decide) (fun c32 => ?_) (fun c32 => ?_)
      · refine V_ild0 dX5_freshBy_37 ?_
        refine V_iconst 2 dX5_freshBy_38 (by decide) ?_
        refine V_icmp_ne 49 dX5_freshBy_39 (by decide) (fun c39 => ?_) (fun c39 => ?_)
        · refine V_ild5 dX5_freshBy_49 ?_
          exact V_iret hX dX5_freshBy_51 rfl (by first | (simp [freshI, *]; done) | exact absurd (c15.symm.trans c39) (by decide)) rfl
        · refine V_ild5 dX5_freshBy_42 ?_
          refine V_iconst 2 dX5_freshBy_44 (by decide) ?_
          refine V_idiv dX5_freshBy_45 (by decide) ?_
          refine V_goto 51 dX5_freshBy_46 (by decide) ?_
          exact V_iret hX dX5_freshBy_51 rfl (by first | (simp [freshI, *]; done) | exact absurd (c15.symm.trans c39) (by decide)) rfl
      · refine V_iconst 0 dX5_freshBy_35 (by decide) ?_
        exact V_iret hX dX5_freshBy_36 rfl (by first | (simp [freshI, *]; done) | exact absurd (c15.symm.trans c39) (by decide)) rfl
  · refine V_iconst 0 dX5_freshBy_5 (by decide) ?_
    exact V_iret hX dX5_freshBy_6 rfl (by first | (simp [freshI, *]; done) | exact absurd (c15.symm.trans c39) (by decide)) rfl
end
section
variable {D : va_G} {tc : Tc} {A : Nat → Nat} {σ : St} {o M P : Nat}
set_option maxRecDepth 100000 in
set_option maxHeartbeats 4000000 in
theorem ok_isThere (ho : o = 5 ∨ o = 6) : Ok 0 yX1_isThere cX1_isThere 1 (some .boolean) D tc [.ref (A (mb o))] (cW A tc σ) (some (.int (b2i (0 < σ o 9 0)))) (cW A tc σ) := by
  refine Ok_of RX1 rfl (by decide) [some (.ref (A (mb o)))] rfl (Nat.le_of_ble_eq_true rfl) ?_
  intro X hX
  refine V_ald0 dX1_isThere_0 ?_
  refine V_get lf_X1_40 dX1_isThere_1 (cW_mkt ho) rfl ?_
  refine V_if_le 11 dX1_isThere_4 (by decide) (fun c4 => ?_) (fun c4 => ?_)
  · refine V_iconst 0 dX1_isThere_11 (by decide) ?_
    exact V_zret hX dX1_isThere_12 rfl (by first | exact Or.inl rfl | exact Or.inr rfl) (by simp [b2i, c4]) rfl
  · refine V_iconst 1 dX1_isThere_7 (by decide) ?_
    refine V_goto 12 dX1_isThere_8 (by decide) ?_
    exact V_zret hX dX1_isThere_12 rfl (by first | exact Or.inl rfl | exact Or.inr rfl) (by simp [b2i, c4]) rfl
set_option maxRecDepth 100000 in
set_option maxHeartbeats 4000000 in
theorem ok_isPerson (ho : o = 5 ∨ o = 6) (p : Int32) : Ok 0 yX1_isPerson cX1_isPerson 2 (some .boolean) D tc [.ref (A (mb o)), .int p] (cW A tc σ) (some (.int (b2i (¬ p < 0 ∧ p < σ o 9 0)))) (cW A tc σ) := by
  refine Ok_of RX1 rfl (by decide) [some (.ref (A (mb o))), some (.int p)] rfl (Nat.le_of_ble_eq_true rfl) ?_
  intro X hX
  refine V_ild1 dX1_isPerson_0 ?_
  refine V_if_lt 16 dX1_isPerson_1 (by decide) (fun c1 => ?_) (fun c1 => ?_)
  · refine V_iconst 0 dX1_isPerson_16 (by decide) ?_
    exact V_zret hX dX1_isPerson_17 rfl (by first | exact Or.inl rfl | exact Or.inr rfl) (by simp_all [b2i]) rfl
  · refine V_ild1 dX1_isPerson_4 ?_
    refine V_ald0 dX1_isPerson_5 ?_
    refine V_get lf_X1_40 dX1_isPerson_6 (cW_mkt ho) rfl ?_
    refine V_icmp_ge 16 dX1_isPerson_9 (by decide) (fun c9 => ?_) (fun c9 => ?_)
    · refine V_iconst 0 dX1_isPerson_16 (by decide) ?_
      exact V_zret hX dX1_isPerson_17 rfl (by first | exact Or.inl rfl | exact Or.inr rfl) (by simp_all [b2i]) rfl
    · refine V_iconst 1 dX1_isPerson_12 (by decide) ?_
      refine V_goto 17 dX1_isPerson_13 (by decide) ?_
      exact V_zret hX dX1_isPerson_17 rfl (by first | exact Or.inl rfl | exact Or.inr rfl) (by simp_all [b2i]) rfl
set_option maxRecDepth 100000 in
set_option maxHeartbeats 4000000 in
theorem ok_isMorning (ho : o = 5 ∨ o = 6) (m : Int32) : Ok 0 yX1_isMorning cX1_isMorning 2 (some .boolean) D tc [.ref (A (mb o)), .int m] (cW A tc σ) (some (.int (b2i (¬ m < 0 ∧ m < σ o 10 0)))) (cW A tc σ) := by
  refine Ok_of RX1 rfl (by decide) [some (.ref (A (mb o))), some (.int m)] rfl (Nat.le_of_ble_eq_true rfl) ?_
  intro X hX
  refine V_ild1 dX1_isMorning_0 ?_
  refine V_if_lt 16 dX1_isMorning_1 (by decide) (fun c1 => ?_) (fun c1 => ?_)
  · refine V_iconst 0 dX1_isMorning_16 (by decide) ?_
    exact V_zret hX dX1_isMorning_17 rfl (by first | exact Or.inl rfl | exact Or.inr rfl) (by simp_all [b2i]) rfl
  · refine V_ild1 dX1_isMorning_4 ?_
    refine V_ald0 dX1_isMorning_5 ?_
    refine V_get lf_X1_43 dX1_isMorning_6 (cW_mkt ho) rfl ?_
    refine V_icmp_ge 16 dX1_isMorning_9 (by decide) (fun c9 => ?_) (fun c9 => ?_)
    · refine V_iconst 0 dX1_isMorning_16 (by decide) ?_
      exact V_zret hX dX1_isMorning_17 rfl (by first | exact Or.inl rfl | exact Or.inr rfl) (by simp_all [b2i]) rfl
    · refine V_iconst 1 dX1_isMorning_12 (by decide) ?_
      refine V_goto 17 dX1_isMorning_13 (by decide) ?_
      exact V_zret hX dX1_isMorning_17 rfl (by first | exact Or.inl rfl | exact Or.inr rfl) (by simp_all [b2i]) rfl
set_option maxRecDepth 100000 in
set_option maxHeartbeats 4000000 in
theorem ok_isOpened (ho : o = 5 ∨ o = 6) (m : Int32) : Ok 1 yX1_isOpened cX1_isOpened 2 (some .boolean) D tc [.ref (A (mb o)), .int m] (cW A tc σ) (some (.int (b2i (bitI (σ o 11 0) m)))) (cW A tc σ) := by
  refine Ok_of RX1 rfl (by decide) [some (.ref (A (mb o))), some (.int m)] rfl (Nat.le_of_ble_eq_true rfl) ?_
  intro X hX
  refine V_ald0 dX1_isOpened_0 ?_
  refine V_get lf_X1_46 dX1_isOpened_1 (cW_mkt ho) rfl ?_
  refine V_ild1 dX1_isOpened_4 ?_
  refine V_callN ln_X1_64 (ok_isIn _ _) dX1_isOpened_5 (dep hX (by decide)) rfl (Nat.le_of_ble_eq_true rfl) ?_
  exact V_zret hX dX1_isOpened_8 rfl b2i_01 rfl rfl
set_option maxRecDepth 100000 in
set_option maxHeartbeats 4000000 in
theorem ok_openedToday (ho : o = 5 ∨ o = 6) (p : Nat) (hp : p < 4) : Ok 0 yX1_openedToday cX1_openedToday 2 (some .boolean) D tc [.ref (A (mb o)), .int (nI p)] (cW A tc σ) (some (.int (otC (σ o) p))) (cW A tc σ) := by
  refine Ok_of RX1 rfl (by decide) [some (.ref (A (mb o))), some (.int (nI p))] rfl (Nat.le_of_ble_eq_true rfl) ?_
  intro X hX
  refine V_ald0 dX1_openedToday_0 ?_
  refine V_get lf_X1_18 dX1_openedToday_1 (cW_mkt ho) rfl ?_
  refine V_ild1 dX1_openedToday_4 ?_
  refine V_ialdk dX1_openedToday_5 (cW_ma2 ho) ⟨hp, by decide⟩ ?_
  refine V_ald0 dX1_openedToday_6 ?_
  refine V_get lf_X1_37 dX1_openedToday_7 (cW_mkt ho) rfl ?_
  refine V_icmp_ne 17 dX1_openedToday_10 (by decide) (fun c10 => ?_) (fun c10 => ?_)
  · refine V_iconst 0 dX1_openedToday_17 (by decide) ?_
    exact V_zret hX dX1_openedToday_18 rfl (by first | exact Or.inl rfl | exact Or.inr rfl) (by simp [otC, b2i, c10]) rfl
  · refine V_iconst 1 dX1_openedToday_13 (by decide) ?_
    refine V_goto 18 dX1_openedToday_14 (by decide) ?_
    exact V_zret hX dX1_openedToday_18 rfl (by first | exact Or.inl rfl | exact Or.inr rfl) (by simp [otC, b2i, c10]) rfl
set_option maxRecDepth 100000 in
set_option maxHeartbeats 4000000 in
theorem ok_closed (ho : o = 5 ∨ o = 6) : Ok 0 yX1_closed cX1_closed 1 (some .int) D tc [.ref (A (mb o))] (cW A tc σ) (some (.int (((1 <<< (σ o 10 0 &&& 31)) - 1) &&& (σ o 11 0 ^^^ (-1))))) (cW A tc σ) := by
  refine Ok_of RX1 rfl (by decide) [some (.ref (A (mb o)))] rfl (Nat.le_of_ble_eq_true rfl) ?_
  intro X hX
  refine V_iconst 1 dX1_closed_0 (by decide) ?_
  refine V_ald0 dX1_closed_1 ?_
  refine V_get lf_X1_43 dX1_closed_2 (cW_mkt ho) rfl ?_
  refine V_ishl dX1_closed_5 ?_
  refine V_iconst 1 dX1_closed_6 (by decide) ?_
  refine V_isub dX1_closed_7 ?_
  refine V_ald0 dX1_closed_8 ?_
  refine V_get lf_X1_46 dX1_closed_9 (cW_mkt ho) rfl ?_
  refine V_iconst (-1) dX1_closed_12 (by decide) ?_
  refine V_ixor dX1_closed_13 ?_
  refine V_iand dX1_closed_14 ?_
  exact V_iret hX dX1_closed_15 rfl rfl rfl
set_option maxRecDepth 100000 in
set_option maxHeartbeats 4000000 in
theorem ok_closedOf (ho : o = 5 ∨ o = 6) (hM : σ o 10 0 = nI M) (h6 : M ≤ 6) (p : Int32) : Ok 2 yX1_closedOf cX1_closedOf 4 (some .int) D tc [.ref (A (mb o)), .int p] (cW A tc σ) (some (.int (clC (σ o) p M))) (cW A tc σ) := by
  refine Ok_of RX1 rfl (by decide) [some (.ref (A (mb o))), some (.int p), none, none] rfl (Nat.le_of_ble_eq_true rfl) ?_
  intro X hX
  have lpS : ∀ k, k < M → V X D tc cX1_closedOf RX1 4 4 ((fun k => [some (.ref (A (mb o))), some (.int p), some (.int (clC (σ o) p k)), some (.int (nI k))]) (k + 1)) [] ((fun k => cW A tc σ) (k + 1)) → V X D tc cX1_closedOf RX1 4 4 ((fun k => [some (.ref (A (mb o))), some (.int p), some (.int (clC (σ o) p k)), some (.int (nI k))]) k) [] ((fun k => cW A tc σ) k) := by
    intro k hk ih
    refine V_ild3 dX1_closedOf_4 ?_
    refine V_ald0 dX1_closedOf_5 ?_
    refine V_get lf_X1_43 dX1_closedOf_6 (cW_mkt ho) rfl ?_
    refine V_icmp_ge 42 dX1_closedOf_9 (by decide) (fun c9 => ?_) (fun c9 => ?_)
    · exact absurd c9 (ge_no hM hk (by omega))
    · refine V_ald0 dX1_closedOf_12 ?_
      refine V_get lf_X1_24 dX1_closedOf_13 (cW_mkt ho) rfl ?_
      refine V_ild3 dX1_closedOf_16 ?_
      refine V_ialdk dX1_closedOf_17 (cW_ma4 ho) ⟨by omega, by decide⟩ ?_
      refine V_ild1 dX1_closedOf_18 ?_
      refine V_icmp_ne 36 dX1_closedOf_19 (by decide) (fun c19 => ?_) (fun c19 => ?_)
      · refine V_inc3 (nI (k + 1)) dX1_closedOf_36 (nI_inc k) rfl (by decide) ?_
        refine V_goto 4 dX1_closedOf_39 (by decide) ?_
        refine V_eq ?_ rfl rfl ih
        simp_all [clC, oneI, b2i]
      · refine V_ald0 dX1_closedOf_22 ?_
        refine V_ild3 dX1_closedOf_23 ?_
        refine V_callV lm_X1_68 (ok_isOpened ho _) dX1_closedOf_24 (cW_mkt ho) rfl (dep hX (by decide)) rfl (Nat.le_of_ble_eq_true rfl) ?_
        refine V_if_ne 36 dX1_closedOf_27 (by decide) (fun c27 => ?_) (fun c27 => ?_)
        · try rw [b2i_ne] at c27
          try rw [Decidable.not_not] at c27
          refine V_inc3 (nI (k + 1)) dX1_closedOf_36 (nI_inc k) rfl (by decide) ?_
          refine V_goto 4 dX1_closedOf_39 (by decide) ?_
          refine V_eq ?_ rfl rfl ih
          simp_all [clC, oneI, b2i]
        · try rw [b2i_eq] at c27
          try rw [Decidable.not_not] at c27
          refine V_ild2 dX1_closedOf_30 ?_
          refine V_iconst 1 dX1_closedOf_31 (by decide) ?_
          refine V_ild3 dX1_closedOf_32 ?_
          refine V_ishl dX1_closedOf_33 ?_
          refine V_ior dX1_closedOf_34 ?_
          refine V_ist2 dX1_closedOf_35 rfl (by decide) ?_
          refine V_inc3 (nI (k + 1)) dX1_closedOf_36 (nI_inc k) rfl (by decide) ?_
          refine V_goto 4 dX1_closedOf_39 (by decide) ?_
          refine V_eq ?_ rfl rfl ih
          simp_all [clC, oneI, b2i]
  have lpE : V X D tc cX1_closedOf RX1 4 4 ((fun k => [some (.ref (A (mb o))), some (.int p), some (.int (clC (σ o) p k)), some (.int (nI k))]) (M)) [] ((fun k => cW A tc σ) (M)) := by
    refine V_ild3 dX1_closedOf_4 ?_
    refine V_ald0 dX1_closedOf_5 ?_
    refine V_get lf_X1_43 dX1_closedOf_6 (cW_mkt ho) rfl ?_
    refine V_icmp_ge 42 dX1_closedOf_9 (by decide) (fun c9 => ?_) (fun c9 => ?_)
    · refine V_ild2 dX1_closedOf_42 ?_
      exact V_iret hX dX1_closedOf_43 rfl rfl rfl
    · exact absurd (ge_yes hM) c9
  have lp := V_for (fun k => [some (.ref (A (mb o))), some (.int p), some (.int (clC (σ o) p k)), some (.int (nI k))]) (fun k => cW A tc σ) (M) lpS lpE
  refine V_iconst 0 dX1_closedOf_0 (by decide) ?_
  refine V_ist2 dX1_closedOf_1 rfl (by decide) ?_
  refine V_iconst 0 dX1_closedOf_2 (by decide) ?_
  refine V_ist3 dX1_closedOf_3 rfl (by decide) ?_
  exact lp 0 (Nat.zero_le _)
set_option maxRecDepth 100000 in
set_option maxHeartbeats 4000000 in
theorem ok_freshOn (ho : o = 5 ∨ o = 6) (m : Nat) (hm : m < 6) (d : Int32) : Ok 1 yX1_freshOn cX1_freshOn 3 (some .int) D tc [.ref (A (mb o)), .int (nI m), .int d] (cW A tc σ) (some (.int (frC (σ o) m d))) (cW A tc σ) := by
  refine Ok_of RX1 rfl (by decide) [some (.ref (A (mb o))), some (.int (nI m)), some (.int d)] rfl (Nat.le_of_ble_eq_true rfl) ?_
  intro X hX
  refine V_ald0 dX1_freshOn_0 ?_
  refine V_get lf_X1_21 dX1_freshOn_1 (cW_mkt ho) rfl ?_
  refine V_ild1 dX1_freshOn_4 ?_
  refine V_ialdk dX1_freshOn_5 (cW_ma3 ho) ⟨hm, by decide⟩ ?_
  refine V_ald0 dX1_freshOn_6 ?_
  refine V_get lf_X1_27 dX1_freshOn_7 (cW_mkt ho) rfl ?_
  refine V_ild1 dX1_freshOn_10 ?_
  refine V_ialdk dX1_freshOn_11 (cW_ma5 ho) ⟨hm, by decide⟩ ?_
  refine V_ald0 dX1_freshOn_12 ?_
  refine V_get lf_X1_30 dX1_freshOn_13 (cW_mkt ho) rfl ?_
  refine V_ild1 dX1_freshOn_16 ?_
  refine V_ialdk dX1_freshOn_17 (cW_ma6 ho) ⟨hm, by decide⟩ ?_
  refine V_ild2 dX1_freshOn_18 ?_
  refine V_callN ln_X1_72 (ok_freshBy _ _ _ _) dX1_freshOn_19 (dep hX (by decide)) rfl (Nat.le_of_ble_eq_true rfl) ?_
  exact V_iret hX dX1_freshOn_22 rfl rfl rfl
set_option maxRecDepth 100000 in
set_option maxHeartbeats 4000000 in
theorem ok_priceOf (ho : o = 5 ∨ o = 6) (m : Nat) (hm : m < 6) : Ok 2 yX1_priceOf cX1_priceOf 2 (some .int) D tc [.ref (A (mb o)), .int (nI m)] (cW A tc σ) (some (.int (prC (σ o) m))) (cW A tc σ) := by
  refine Ok_of RX1 rfl (by decide) [some (.ref (A (mb o))), some (.int (nI m))] rfl (Nat.le_of_ble_eq_true rfl) ?_
  intro X hX
  refine V_ald0 dX1_priceOf_0 ?_
  refine V_get lf_X1_33 dX1_priceOf_1 (cW_mkt ho) rfl ?_
  refine V_ald0 dX1_priceOf_4 ?_
  refine V_ild1 dX1_priceOf_5 ?_
  refine V_ald0 dX1_priceOf_6 ?_
  refine V_get lf_X1_37 dX1_priceOf_7 (cW_mkt ho) rfl ?_
  refine V_callV lm_X1_76 (ok_freshOn ho m hm _) dX1_priceOf_10 (cW_mkt ho) rfl (dep hX (by decide)) rfl (Nat.le_of_ble_eq_true rfl) ?_
  refine V_imul dX1_priceOf_13 ?_
  exact V_iret hX dX1_priceOf_14 rfl rfl rfl
end
