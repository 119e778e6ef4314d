/-! sheets, readings, the small ones -/
abbrev hcI (len i n : Int32) : Prop := ¬ i < 0 ∧ ¬ len < i ∧ ¬ n < 0 ∧ ¬ len - i < n
def cuI (lane v : Int32) : Int32 := if lane = 0 then v.toInt8.toInt32 else if lane = 1 then v.toInt16.toInt32 else v
abbrev laI (l : Int32) : Prop := ¬ l < 0 ∧ ¬ 2 < l
def grC (σ : St) (j : Nat) (lane n : Int32) : St := upF (up (up σ (1 + j) 2 0 lane) (1 + j) 1 0 n) (1 + j) 0 (fillN (up (up σ (1 + j) 2 0 lane) (1 + j) 1 0 n (1 + j) 0) 0 60)
def apC (σ : St) (C : Nat) (m t v : Int32) : St := up (up (up (up σ 9 0 C m) 9 1 C t) 9 2 C v) 9 3 0 (σ 9 3 0 + 1)
def waC (σ : St) (m kd tk dw : Int32) (r : Nat) : Int32 := if σ 9 0 r = m then freshI kd tk dw (σ 9 1 r) else frC (σ 5) (σ 9 0 r).toNatClampNeg (σ 9 1 r)
def faC (σ : St) (f : Int32) : St := up σ 0 7 0 f
def beC (σ : St) (b : Int32) : St := up σ 0 6 0 (31 * σ 0 6 0 + b)
theorem lt_succ' {P : Nat → Prop} {k : Nat} (h : ∀ r, r < k → P r) (hk : P k) : ∀ r, r < k + 1 → P r := lt_s h hk
section
variable {D : va_G} {tc : Tc} {A : Nat → Nat} {σ : St} {j C : Nat} {ws : va_W}
set_option maxRecDepth 100000 in
set_option maxHeartbeats 4000000 in
theorem ok_hasRow (hj : j < 4) : Ok 0 yX3_hasRow cX3_hasRow 1 (some .boolean) D tc [.ref (A (sb j))] (cW A tc σ) (some (.int (b2i (¬ σ (1 + j) 1 0 = -1)))) (cW A tc σ) := by
  refine Ok_of RX3 rfl (by decide) [some (.ref (A (sb j)))] rfl (Nat.le_of_ble_eq_true rfl) ?_
  intro X hX
  refine V_ald0 dX3_hasRow_0 ?_
  refine V_get lf_X3_15 dX3_hasRow_1 (cW_sh hj) rfl ?_
  refine V_iconst (-1) dX3_hasRow_4 (by decide) ?_
  refine V_icmp_eq 12 dX3_hasRow_5 (by decide) (fun c5 => ?_) (fun c5 => ?_)
  · refine V_iconst 0 dX3_hasRow_12 (by decide) ?_
    exact V_zret hX dX3_hasRow_13 rfl (by first | exact Or.inl rfl | exact Or.inr rfl) (by first | rw [b2i_t c5] | rw [b2i_f (fun h => h c5)]) rfl
  · refine V_iconst 1 dX3_hasRow_8 (by decide) ?_
    refine V_goto 13 dX3_hasRow_9 (by decide) ?_
    exact V_zret hX dX3_hasRow_13 rfl (by first | exact Or.inl rfl | exact Or.inr rfl) (by first | rw [b2i_t c5] | rw [b2i_f (fun h => h c5)]) rfl
set_option maxRecDepth 100000 in
set_option maxHeartbeats 4000000 in
theorem ok_isOfAnotherLane (hj : j < 4) (l : Int32) : Ok 1 yX3_isOfAnotherLane cX3_isOfAnotherLane 2 (some .boolean) D tc [.ref (A (sb j)), .int l] (cW A tc σ) (some (.int (b2i (¬ σ (1 + j) 1 0 = -1 ∧ ¬ σ (1 + j) 2 0 = l)))) (cW A tc σ) := by
  refine Ok_of RX3 rfl (by decide) [some (.ref (A (sb j))), some (.int l)] rfl (Nat.le_of_ble_eq_true rfl) ?_
  intro X hX
  refine V_ald0 dX3_isOfAnotherLane_0 ?_
  refine V_callV lm_X3_28 (ok_hasRow hj) dX3_isOfAnotherLane_1 (cW_sh hj) rfl (dep hX (by decide)) rfl (Nat.le_of_ble_eq_true rfl) ?_
  refine V_if_eq 19 dX3_isOfAnotherLane_4 (by decide) (fun c4 => ?_) (fun c4 => ?_)
  · try rw [b2i_eq] at c4
    try rw [Decidable.not_not] at c4
    refine V_iconst 0 dX3_isOfAnotherLane_19 (by decide) ?_
    exact V_zret hX dX3_isOfAnotherLane_20 rfl (by first | exact Or.inl rfl | exact Or.inr rfl) (by simp [b2i, *]) rfl
  · try rw [b2i_ne] at c4
    try rw [Decidable.not_not] at c4
    refine V_ald0 dX3_isOfAnotherLane_7 ?_
    refine V_get lf_X3_19 dX3_isOfAnotherLane_8 (cW_sh hj) rfl ?_
    refine V_ild1 dX3_isOfAnotherLane_11 ?_
    refine V_icmp_eq 19 dX3_isOfAnotherLane_12 (by decide) (fun c12 => ?_) (fun c12 => ?_)
    · refine V_iconst 0 dX3_isOfAnotherLane_19 (by decide) ?_
      exact V_zret hX dX3_isOfAnotherLane_20 rfl (by first | exact Or.inl rfl | exact Or.inr rfl) (by simp [b2i, *]) rfl
    · refine V_iconst 1 dX3_isOfAnotherLane_15 (by decide) ?_
      refine V_goto 20 dX3_isOfAnotherLane_16 (by decide) ?_
      exact V_zret hX dX3_isOfAnotherLane_20 rfl (by first | exact Or.inl rfl | exact Or.inr rfl) (by simp [b2i, *]) rfl
set_option maxRecDepth 100000 in
set_option maxHeartbeats 4000000 in
theorem ok_hasCells (hj : j < 4) (i n : Int32) : Ok 0 yX3_hasCells cX3_hasCells 3 (some .boolean) D tc [.ref (A (sb j)), .int i, .int n] (cW A tc σ) (some (.int (b2i (hcI (σ (1 + j) 1 0) i n)))) (cW A tc σ) := by
  refine Ok_of RX3 rfl (by decide) [some (.ref (A (sb j))), some (.int i), some (.int n)] rfl (Nat.le_of_ble_eq_true rfl) ?_
  intro X hX
  refine V_ild1 dX3_hasCells_0 ?_
  refine V_if_lt 30 dX3_hasCells_1 (by decide) (fun c1 => ?_) (fun c1 => ?_)
  · have hf : ¬ hcI (σ (1 + j) 1 0) i n := fun h => h.1 c1
    refine V_iconst 0 dX3_hasCells_30 (by decide) ?_
    exact V_zret hX dX3_hasCells_31 rfl (by first | exact Or.inl rfl | exact Or.inr rfl) (by first | rw [b2i_f hf] | rw [b2i_t ht]) rfl
  · refine V_ild1 dX3_hasCells_4 ?_
    refine V_ald0 dX3_hasCells_5 ?_
    refine V_get lf_X3_15 dX3_hasCells_6 (cW_sh hj) rfl ?_
    refine V_icmp_gt 30 dX3_hasCells_9 (by decide) (fun c9 => ?_) (fun c9 => ?_)
    · have hf : ¬ hcI (σ (1 + j) 1 0) i n := fun h => h.2.1 c9
      refine V_iconst 0 dX3_hasCells_30 (by decide) ?_
      exact V_zret hX dX3_hasCells_31 rfl (by first | exact Or.inl rfl | exact Or.inr rfl) (by first | rw [b2i_f hf] | rw [b2i_t ht]) rfl
    · refine V_ild2 dX3_hasCells_12 ?_
      refine V_if_lt 30 dX3_hasCells_13 (by decide) (fun c13 => ?_) (fun c13 => ?_)
      · have hf : ¬ hcI (σ (1 + j) 1 0) i n := fun h => h.2.2.1 c13
        refine V_iconst 0 dX3_hasCells_30 (by decide) ?_
        exact V_zret hX dX3_hasCells_31 rfl (by first | exact Or.inl rfl | exact Or.inr rfl) (by first | rw [b2i_f hf] | rw [b2i_t ht]) rfl
      · refine V_ild2 dX3_hasCells_16 ?_
        refine V_ald0 dX3_hasCells_17 ?_
        refine V_get lf_X3_15 dX3_hasCells_18 (cW_sh hj) rfl ?_
        refine V_ild1 dX3_hasCells_21 ?_
        refine V_isub dX3_hasCells_22 ?_
        refine V_icmp_gt 30 dX3_hasCells_23 (by decide) (fun c23 => ?_) (fun c23 => ?_)
        · have hf : ¬ hcI (σ (1 + j) 1 0) i n := fun h => h.2.2.2 c23
          refine V_iconst 0 dX3_hasCells_30 (by decide) ?_
          exact V_zret hX dX3_hasCells_31 rfl (by first | exact Or.inl rfl | exact Or.inr rfl) (by first | rw [b2i_f hf] | rw [b2i_t ht]) rfl
        · have ht : hcI (σ (1 + j) 1 0) i n := ⟨c1, c9, c13, c23⟩
          refine V_iconst 1 dX3_hasCells_26 (by decide) ?_
          refine V_goto 31 dX3_hasCells_27 (by decide) ?_
          exact V_zret hX dX3_hasCells_31 rfl (by first | exact Or.inl rfl | exact Or.inr rfl) (by first | rw [b2i_f hf] | rw [b2i_t ht]) rfl
set_option maxRecDepth 100000 in
set_option maxHeartbeats 4000000 in
theorem ok_cutToLane (hj : j < 4) (v : Int32) : Ok 0 yX3_cutToLane cX3_cutToLane 2 (some .int) D tc [.ref (A (sb j)), .int v] (cW A tc σ) (some (.int (cuI (σ (1 + j) 2 0) v))) (cW A tc σ) := by
  refine Ok_of RX3 rfl (by decide) [some (.ref (A (sb j))), some (.int v)] rfl (Nat.le_of_ble_eq_true rfl) ?_
  intro X hX
  refine V_ald0 dX3_cutToLane_0 ?_
  refine V_get lf_X3_19 dX3_cutToLane_1 (cW_sh hj) rfl ?_
  refine V_if_ne 10 dX3_cutToLane_4 (by decide) (fun c4 => ?_) (fun c4 => ?_)
  · refine V_ald0 dX3_cutToLane_10 ?_
    refine V_get lf_X3_19 dX3_cutToLane_11 (cW_sh hj) rfl ?_
    refine V_iconst 1 dX3_cutToLane_14 (by decide) ?_
    refine V_icmp_ne 21 dX3_cutToLane_15 (by decide) (fun c15 => ?_) (fun c15 => ?_)
    · refine V_ild1 dX3_cutToLane_21 ?_
      exact V_iret hX dX3_cutToLane_22 rfl (by simp [cuI, *]) rfl
    · refine V_ild1 dX3_cutToLane_18 ?_
      refine V_i2s dX3_cutToLane_19 ?_
      exact V_iret hX dX3_cutToLane_20 rfl (by simp [cuI, *]) rfl
  · refine V_ild1 dX3_cutToLane_7 ?_
    refine V_i2b dX3_cutToLane_8 ?_
    exact V_iret hX dX3_cutToLane_9 rfl (by simp [cuI, *]) rfl
theorem ok_fillS (hj : j < 4) (v : Int32) : Ok 0 yJ7_fill_53178 cJ7_fill_53178 4 none D tc [.ref (A (sb j + 1)), .int v] (cW A tc σ) none (cW A tc (upF σ (1 + j) 0 (fillN (σ (1 + j) 0) v 60))) := by
  rw [← cW_shaF hj]
  exact ok_fill (cW_sha hj) (by decide) v
set_option maxRecDepth 100000 in
set_option maxHeartbeats 4000000 in
theorem ok_getRow (hj : j < 4) (l n : Int32) : Ok 1 yX3_getRow cX3_getRow 3 none D tc [.ref (A (sb j)), .int l, .int n] (cW A tc σ) none (cW A tc (grC σ j l n)) := by
  refine Ok_of RX3 rfl (by decide) [some (.ref (A (sb j))), some (.int l), some (.int n)] rfl (Nat.le_of_ble_eq_true rfl) ?_
  intro X hX
  refine V_ald0 dX3_getRow_0 ?_
  refine V_ild1 dX3_getRow_1 ?_
  refine V_puti lp_X3_19 dX3_getRow_2 (cW_sh hj) (Nat.le_of_ble_eq_true rfl) (cW_shp2 hj _) ?_
  refine V_ald0 dX3_getRow_5 ?_
  refine V_ild2 dX3_getRow_6 ?_
  refine V_puti lp_X3_15 dX3_getRow_7 (cW_sh hj) (Nat.le_of_ble_eq_true rfl) (cW_shp1 hj _) ?_
  refine V_ald0 dX3_getRow_10 ?_
  refine V_get lf_X3_9 dX3_getRow_11 (cW_sh hj) rfl ?_
  refine V_iconst 0 dX3_getRow_14 (by decide) ?_
  refine V_callSv ls_X3_22 (ok_fillS hj 0) dX3_getRow_15 (dep hX (by decide)) rfl (Nat.le_of_ble_eq_true rfl) ?_
  exact V_vret hX dX3_getRow_18 rfl rfl rfl
set_option maxRecDepth 100000 in
set_option maxHeartbeats 4000000 in
theorem ok_append (hC : σ 9 3 0 = nI C) (h8 : C < 8) (m t v : Int32) : Ok 0 yX2_append cX2_append 5 (some .int) D tc [.ref (A 30), .int m, .int t, .int v] (cW A tc σ) (some (.int (nI C))) (cW A tc (apC σ C m t v)) := by
  refine Ok_of RX2 rfl (by decide) [some (.ref (A 30)), some (.int m), some (.int t), some (.int v), none] rfl (Nat.le_of_ble_eq_true rfl) ?_
  intro X hX
  refine V_ald0 dX2_append_0 ?_
  refine V_get lf_X2_21 dX2_append_1 cW_re rfl ?_
  refine V_top (y := nI C) hC ?_
  refine V_ist4 dX2_append_4 rfl (by decide) ?_
  refine V_ald0 dX2_append_6 ?_
  refine V_get lf_X2_9 dX2_append_7 cW_re rfl ?_
  refine V_ild4 dX2_append_10 ?_
  refine V_ild1 dX2_append_12 ?_
  refine V_iastk dX2_append_13 cW_rea0 ⟨h8, by decide⟩ (cW_rea0s _ _) ?_
  refine V_ald0 dX2_append_14 ?_
  refine V_get lf_X2_15 dX2_append_15 cW_re rfl ?_
  refine V_ild4 dX2_append_18 ?_
  refine V_ild2 dX2_append_20 ?_
  refine V_iastk dX2_append_21 cW_rea1 ⟨h8, by decide⟩ (cW_rea1s _ _) ?_
  refine V_ald0 dX2_append_22 ?_
  refine V_get lf_X2_18 dX2_append_23 cW_re rfl ?_
  refine V_ild4 dX2_append_26 ?_
  refine V_ild3 dX2_append_28 ?_
  refine V_iastk dX2_append_29 cW_rea2 ⟨h8, by decide⟩ (cW_rea2s _ _) ?_
  refine V_ald0 dX2_append_30 ?_
  refine V_dupa dX2_append_31 ?_
  refine V_get lf_X2_21 dX2_append_32 cW_re rfl ?_
  refine V_iconst 1 dX2_append_35 (by decide) ?_
  refine V_iadd dX2_append_36 ?_
  refine V_puti lp_X2_21 dX2_append_37 cW_re (Nat.le_of_ble_eq_true rfl) (cW_rep3 _) ?_
  refine V_ild4 dX2_append_40 ?_
  exact V_iret hX dX2_append_42 rfl rfl rfl
set_option maxRecDepth 100000 in
set_option maxHeartbeats 4000000 in
theorem ok_areSoWith (hC : σ 9 3 0 = nI C) (h8 : C ≤ 8) (hr : ∀ r, r < C → ∃ z, z < 6 ∧ σ 9 0 r = nI z) (m kd tk dw : Int32) : Ok 2 yX2_areSoWith cX2_areSoWith 8 (some .boolean) D tc [.ref (A 30), .ref (A (mb 5)), .int m, .int kd, .int tk, .int dw] (cW A tc σ) (some (.int (b2i (∀ r, r < C → waC σ m kd tk dw r = σ 9 2 r)))) (cW A tc σ) := by
  refine Ok_of RX2 rfl (by decide) [some (.ref (A 30)), some (.ref (A (mb 5))), some (.int m), some (.int kd), some (.int tk), some (.int dw), none, none] rfl (Nat.le_of_ble_eq_true rfl) ?_
  intro X hX
  have lpS : ∀ k, k < C → (fun k => ∀ r, r < k → waC σ m kd tk dw r = σ 9 2 r) k → ((fun k => ∀ r, r < k → waC σ m kd tk dw r = σ 9 2 r) (k + 1) → V X D tc cX2_areSoWith RX2 8 3 ((fun k => [some (.ref (A 30)), some (.ref (A (mb 5))), some (.int m), some (.int kd), some (.int tk), some (.int dw), some (.int (nI k)), none]) (k + 1)) [] ((fun k => cW A tc σ) (k + 1))) → V X D tc cX2_areSoWith RX2 8 3 ((fun k => [some (.ref (A 30)), some (.ref (A (mb 5))), some (.int m), some (.int kd), some (.int tk), some (.int dw), some (.int (nI k)), none]) k) [] ((fun k => cW A tc σ) k) := by
    intro k hk invlp ihlp
    try dsimp only at invlp
    have hk8 : k < 8 := by omega
    obtain ⟨z, hz, ez⟩ := hr k hk
    refine V_ild6 dX2_areSoWith_3 ?_
    refine V_ald0 dX2_areSoWith_5 ?_
    refine V_get lf_X2_21 dX2_areSoWith_6 cW_re rfl ?_
    refine V_icmp_ge 81 dX2_areSoWith_9 (by decide) (fun c9 => ?_) (fun c9 => ?_)
    · exact absurd c9 (ge_no hC hk (by omega))
    · refine V_ald0 dX2_areSoWith_12 ?_
      refine V_get lf_X2_9 dX2_areSoWith_13 cW_re rfl ?_
      refine V_ild6 dX2_areSoWith_16 ?_
      refine V_ialdk dX2_areSoWith_18 cW_rea0 ⟨hk8, by decide⟩ ?_
      refine V_ild2 dX2_areSoWith_19 ?_
      refine V_icmp_ne 41 dX2_areSoWith_20 (by decide) (fun c20 => ?_) (fun c20 => ?_)
      · refine V_ald1 dX2_areSoWith_41 ?_
        refine V_ald0 dX2_areSoWith_42 ?_
        refine V_get lf_X2_9 dX2_areSoWith_43 cW_re rfl ?_
        refine V_ild6 dX2_areSoWith_46 ?_
        refine V_ialdk dX2_areSoWith_48 cW_rea0 ⟨hk8, by decide⟩ ?_
        refine V_top (y := nI z) ez ?_
        refine V_ald0 dX2_areSoWith_49 ?_
        refine V_get lf_X2_15 dX2_areSoWith_50 cW_re rfl ?_
        refine V_ild6 dX2_areSoWith_53 ?_
        refine V_ialdk dX2_areSoWith_55 cW_rea1 ⟨hk8, by decide⟩ ?_
        refine V_callV lm_X2_29 (ok_freshOn now5 z hz _) dX2_areSoWith_56 (cW_mkt now5) rfl (dep hX (by decide)) rfl (Nat.le_of_ble_eq_true rfl) ?_
        refine V_top (y := waC σ m kd tk dw k) (by simp only [waC]; first | rw [if_pos c20] | rw [if_neg c20, ez, nI_clamp (by omega)]) ?_
        refine V_ist7 dX2_areSoWith_59 rfl (by decide) ?_
        refine V_ild7 dX2_areSoWith_61 ?_
        refine V_ald0 dX2_areSoWith_63 ?_
        refine V_get lf_X2_18 dX2_areSoWith_64 cW_re rfl ?_
        refine V_ild6 dX2_areSoWith_67 ?_
        refine V_ialdk dX2_areSoWith_69 cW_rea2 ⟨hk8, by decide⟩ ?_
        refine V_icmp_eq 75 dX2_areSoWith_70 (by decide) (fun c70 => ?_) (fun c70 => ?_)
        · refine V_inc6 (nI (k + 1)) dX2_areSoWith_75 (nI_inc k) rfl (by decide) ?_
          refine V_goto 3 dX2_areSoWith_78 (by decide) ?_
          refine V_dr7 ?_
          exact ihlp (lt_succ' invlp c70)
        · refine V_iconst 0 dX2_areSoWith_73 (by decide) ?_
          exact V_zret hX dX2_areSoWith_74 rfl (by first | exact Or.inl rfl | exact Or.inr rfl) (by rw [b2i_f (fun h => c70 (h k hk))]) rfl
      · refine V_ild3 dX2_areSoWith_23 ?_
        refine V_ild4 dX2_areSoWith_24 ?_
        refine V_ild5 dX2_areSoWith_26 ?_
        refine V_ald0 dX2_areSoWith_28 ?_
        refine V_get lf_X2_15 dX2_areSoWith_29 cW_re rfl ?_
        refine V_ild6 dX2_areSoWith_32 ?_
        refine V_ialdk dX2_areSoWith_34 cW_rea1 ⟨hk8, by decide⟩ ?_
        refine V_callN ln_X2_25 (ok_freshBy _ _ _ _) dX2_areSoWith_35 (dep hX (by decide)) rfl (Nat.le_of_ble_eq_true rfl) ?_
        refine V_goto 59 dX2_areSoWith_38 (by decide) ?_
        refine V_top (y := waC σ m kd tk dw k) (by simp only [waC]; first | rw [if_pos c20] | rw [if_neg c20, ez, nI_clamp (by omega)]) ?_
        refine V_ist7 dX2_areSoWith_59 rfl (by decide) ?_
        refine V_ild7 dX2_areSoWith_61 ?_
        refine V_ald0 dX2_areSoWith_63 ?_
        refine V_get lf_X2_18 dX2_areSoWith_64 cW_re rfl ?_
        refine V_ild6 dX2_areSoWith_67 ?_
        refine V_ialdk dX2_areSoWith_69 cW_rea2 ⟨hk8, by decide⟩ ?_
        refine V_icmp_eq 75 dX2_areSoWith_70 (by decide) (fun c70 => ?_) (fun c70 => ?_)
        · refine V_inc6 (nI (k + 1)) dX2_areSoWith_75 (nI_inc k) rfl (by decide) ?_
          refine V_goto 3 dX2_areSoWith_78 (by decide) ?_
          refine V_dr7 ?_
          exact ihlp (lt_succ' invlp c70)
        · refine V_iconst 0 dX2_areSoWith_73 (by decide) ?_
          exact V_zret hX dX2_areSoWith_74 rfl (by first | exact Or.inl rfl | exact Or.inr rfl) (by rw [b2i_f (fun h => c70 (h k hk))]) rfl
  have lpE : (fun k => ∀ r, r < k → waC σ m kd tk dw r = σ 9 2 r) (C) → V X D tc cX2_areSoWith RX2 8 3 ((fun k => [some (.ref (A 30)), some (.ref (A (mb 5))), some (.int m), some (.int kd), some (.int tk), some (.int dw), some (.int (nI k)), none]) (C)) [] ((fun k => cW A tc σ) (C)) := by
    intro invlp
    try dsimp only at invlp
    refine V_ild6 dX2_areSoWith_3 ?_
    refine V_ald0 dX2_areSoWith_5 ?_
    refine V_get lf_X2_21 dX2_areSoWith_6 cW_re rfl ?_
    refine V_icmp_ge 81 dX2_areSoWith_9 (by decide) (fun c9 => ?_) (fun c9 => ?_)
    · refine V_iconst 1 dX2_areSoWith_81 (by decide) ?_
      exact V_zret hX dX2_areSoWith_82 rfl (by first | exact Or.inl rfl | exact Or.inr rfl) (by rw [b2i_t invlp]) rfl
    · exact absurd (ge_yes hC) c9
  have lp := V_forI (fun k => ∀ r, r < k → waC σ m kd tk dw r = σ 9 2 r) (fun k => [some (.ref (A 30)), some (.ref (A (mb 5))), some (.int m), some (.int kd), some (.int tk), some (.int dw), some (.int (nI k)), none]) (fun k => cW A tc σ) (C) lpS lpE
  refine V_iconst 0 dX2_areSoWith_0 (by decide) ?_
  refine V_ist6 dX2_areSoWith_1 rfl (by decide) ?_
  exact lp 0 (Nat.zero_le _) (fun r h => absurd h (by omega))
set_option maxRecDepth 100000 in
set_option maxHeartbeats 4000000 in
theorem ok_sheetAt (hj : j < 4) : Ok 0 yX5_sheetAt cX5_sheetAt 2 (some (.object "MornMarket$Sheet")) D tc [.ref (A 0), .int (nI j)] (cW A tc σ) (some (.ref (A (sb j)))) (cW A tc σ) := by
  refine Ok_of RX5 rfl (by decide) [some (.ref (A 0)), some (.int (nI j))] rfl (Nat.le_of_ble_eq_true rfl) ?_
  intro X hX
  refine V_ild1 dX5_sheetAt_0 ?_
  refine V_if_lt 22 dX5_sheetAt_1 (by decide) (fun c1 => ?_) (fun c1 => ?_)
  · exact absurd c1 (nI_pos (by omega))
  · refine V_ild1 dX5_sheetAt_4 ?_
    refine V_ald0 dX5_sheetAt_5 ?_
    refine V_get lf_X5_13 dX5_sheetAt_6 cW_main rfl ?_
    refine V_alenS dX5_sheetAt_9 cW_sheets ?_
    refine V_icmp_ge 22 dX5_sheetAt_10 (by decide) (fun c10 => ?_) (fun c10 => ?_)
    · exact absurd c10 (nI_ge hj (by decide))
    · refine V_ald0 dX5_sheetAt_13 ?_
      refine V_get lf_X5_13 dX5_sheetAt_14 cW_main rfl ?_
      refine V_ild1 dX5_sheetAt_17 ?_
      refine V_aald dX5_sheetAt_18 cW_sheets (vp_in_nI hj (by decide)) (by rw [nI_clamp (by omega)]) ?_
      refine V_goto 23 dX5_sheetAt_19 (by decide) ?_
      exact V_aret hX dX5_sheetAt_23 rfl (Or.inr ⟨_, rfl⟩) rfl rfl
set_option maxRecDepth 100000 in
set_option maxHeartbeats 4000000 in
theorem ok_sheetAtN (k : Int32) (hk : ¬ (¬ k < 0 ∧ ¬ nI 4 ≤ k)) : Ok 0 yX5_sheetAt cX5_sheetAt 2 (some (.object "MornMarket$Sheet")) D tc [.ref (A 0), .int k] (cW A tc σ) (some .null) (cW A tc σ) := by
  refine Ok_of RX5 rfl (by decide) [some (.ref (A 0)), some (.int k)] rfl (Nat.le_of_ble_eq_true rfl) ?_
  intro X hX
  refine V_ild1 dX5_sheetAt_0 ?_
  refine V_if_lt 22 dX5_sheetAt_1 (by decide) (fun c1 => ?_) (fun c1 => ?_)
  · refine V_null dX5_sheetAt_22 ?_
    exact V_aret hX dX5_sheetAt_23 rfl (Or.inl rfl) rfl rfl
  · refine V_ild1 dX5_sheetAt_4 ?_
    refine V_ald0 dX5_sheetAt_5 ?_
    refine V_get lf_X5_13 dX5_sheetAt_6 cW_main rfl ?_
    refine V_alenS dX5_sheetAt_9 cW_sheets ?_
    refine V_icmp_ge 22 dX5_sheetAt_10 (by decide) (fun c10 => ?_) (fun c10 => ?_)
    · refine V_null dX5_sheetAt_22 ?_
      exact V_aret hX dX5_sheetAt_23 rfl (Or.inl rfl) rfl rfl
    · exact absurd ⟨c1, c10⟩ hk
set_option maxRecDepth 100000 in
set_option maxHeartbeats 4000000 in
theorem ok_faulted (f : Int32) : Ok 0 yX5_faulted cX5_faulted 2 (some .int) D tc [.ref (A 0), .int f] (cW A tc σ) (some (.int (-10 - f))) (cW A tc (faC σ f)) := by
  refine Ok_of RX5 rfl (by decide) [some (.ref (A 0)), some (.int f)] rfl (Nat.le_of_ble_eq_true rfl) ?_
  intro X hX
  refine V_ald0 dX5_faulted_0 ?_
  refine V_ild1 dX5_faulted_1 ?_
  refine V_puti lp_X5_52 dX5_faulted_2 cW_main (Nat.le_of_ble_eq_true rfl) (cW_mainp7 _) ?_
  refine V_bipush (-10) dX5_faulted_5 (by decide) ?_
  refine V_ild1 dX5_faulted_7 ?_
  refine V_isub dX5_faulted_8 ?_
  exact V_iret hX dX5_faulted_9 rfl rfl rfl
set_option maxRecDepth 100000 in
set_option maxHeartbeats 4000000 in
theorem ok_lostBy (f : Int32) : Ok 0 yX5_lostBy cX5_lostBy 2 (some .long) D tc [.ref (A 0), .int f] (cW A tc σ) (some (.long (-9223372036854775808))) (cW A tc (faC σ f)) := by
  refine Ok_of RX5 rfl (by decide) [some (.ref (A 0)), some (.int f)] rfl (Nat.le_of_ble_eq_true rfl) ?_
  intro X hX
  refine V_ald0 dX5_lostBy_0 ?_
  refine V_ild1 dX5_lostBy_1 ?_
  refine V_puti lp_X5_52 dX5_lostBy_2 cW_main (Nat.le_of_ble_eq_true rfl) (cW_mainp7 _) ?_
  refine V_ldc2 _ wC_X5_209 dX5_lostBy_5 ?_
  exact V_lret hX dX5_lostBy_8 rfl rfl rfl
set_option maxRecDepth 100000 in
set_option maxHeartbeats 4000000 in
theorem ok_isLane (l : Int32) : Ok 0 yX5_isLane cX5_isLane 1 (some .boolean) D tc [.int l] ws (some (.int (b2i (laI l)))) ws := by
  refine Ok_of RX5 rfl (by decide) [some (.int l)] rfl (Nat.le_of_ble_eq_true rfl) ?_
  intro X hX
  refine V_ild0 dX5_isLane_0 ?_
  refine V_if_lt 13 dX5_isLane_1 (by decide) (fun c1 => ?_) (fun c1 => ?_)
  · have hf : ¬ laI l := fun h => h.1 c1
    refine V_iconst 0 dX5_isLane_13 (by decide) ?_
    exact V_zret hX dX5_isLane_14 rfl (by first | exact Or.inl rfl | exact Or.inr rfl) (by first | rw [b2i_f hf] | rw [b2i_t ht]) rfl
  · refine V_ild0 dX5_isLane_4 ?_
    refine V_iconst 2 dX5_isLane_5 (by decide) ?_
    refine V_icmp_gt 13 dX5_isLane_6 (by decide) (fun c6 => ?_) (fun c6 => ?_)
    · have hf : ¬ laI l := fun h => h.2 c6
      refine V_iconst 0 dX5_isLane_13 (by decide) ?_
      exact V_zret hX dX5_isLane_14 rfl (by first | exact Or.inl rfl | exact Or.inr rfl) (by first | rw [b2i_f hf] | rw [b2i_t ht]) rfl
    · have ht : laI l := ⟨c1, c6⟩
      refine V_iconst 1 dX5_isLane_9 (by decide) ?_
      refine V_goto 14 dX5_isLane_10 (by decide) ?_
      exact V_zret hX dX5_isLane_14 rfl (by first | exact Or.inl rfl | exact Or.inr rfl) (by first | rw [b2i_f hf] | rw [b2i_t ht]) rfl
set_option maxRecDepth 100000 in
set_option maxHeartbeats 4000000 in
theorem ok_begins (b : Int32) : Ok 0 yX5_begins cX5_begins 2 none D tc [.ref (A 0), .int b] (cW A tc σ) none (cW A tc (beC σ b)) := by
  refine Ok_of RX5 rfl (by decide) [some (.ref (A 0)), some (.int b)] rfl (Nat.le_of_ble_eq_true rfl) ?_
  intro X hX
  refine V_ald0 dX5_begins_0 ?_
  refine V_bipush 31 dX5_begins_1 (by decide) ?_
  refine V_ald0 dX5_begins_3 ?_
  refine V_get lf_X5_48 dX5_begins_4 cW_main rfl ?_
  refine V_imul dX5_begins_7 ?_
  refine V_ild1 dX5_begins_8 ?_
  refine V_iadd dX5_begins_9 ?_
  refine V_puti lp_X5_48 dX5_begins_10 cW_main (Nat.le_of_ble_eq_true rfl) (cW_mainp6 _) ?_
  exact V_vret hX dX5_begins_13 rfl rfl rfl
set_option maxRecDepth 100000 in
set_option maxHeartbeats 4000000 in
theorem ok_toldByClear (m : Nat) (hm : m < 6) : Ok 1 yX5_toldByClear cX5_toldByClear 2 (some .int) D tc [.ref (A 0), .int (nI m)] (cW A tc σ) (some (.int (σ 5 6 m))) (cW A tc (beC σ 1)) := by
  refine Ok_of RX5 rfl (by decide) [some (.ref (A 0)), some (.int (nI m))] rfl (Nat.le_of_ble_eq_true rfl) ?_
  intro X hX
  refine V_ald0 dX5_toldByClear_0 ?_
  refine V_iconst 1 dX5_toldByClear_1 (by decide) ?_
  refine V_callVv lm_X5_271 (ok_begins 1) dX5_toldByClear_2 cW_main rfl (dep hX (by decide)) rfl (Nat.le_of_ble_eq_true rfl) ?_
  refine V_ald0 dX5_toldByClear_5 ?_
  refine V_get lf_X5_20 dX5_toldByClear_6 cW_main rfl ?_
  refine V_get lf_X5_106 dX5_toldByClear_9 (cW_mkt now5) rfl ?_
  refine V_ild1 dX5_toldByClear_12 ?_
  refine V_ialdk dX5_toldByClear_13 (cW_ma6 now5) ⟨hm, by decide⟩ ?_
  exact V_iret hX dX5_toldByClear_14 rfl rfl rfl
set_option maxRecDepth 100000 in
set_option maxHeartbeats 4000000 in
theorem ok_toldByFrost (m : Nat) (hm : m < 6) : Ok 2 yX5_toldByFrost cX5_toldByFrost 2 (some .int) D tc [.ref (A 0), .int (nI m)] (cW A tc σ) (some (.int (σ 5 6 m + 100))) (cW A tc (beC (beC σ 2) 1)) := by
  refine Ok_of RX5 rfl (by decide) [some (.ref (A 0)), some (.int (nI m))] rfl (Nat.le_of_ble_eq_true rfl) ?_
  intro X hX
  refine V_ald0 dX5_toldByFrost_0 ?_
  refine V_iconst 2 dX5_toldByFrost_1 (by decide) ?_
  refine V_callVv lm_X5_271 (ok_begins 2) dX5_toldByFrost_2 cW_main rfl (dep hX (by decide)) rfl (Nat.le_of_ble_eq_true rfl) ?_
  refine V_ald0 dX5_toldByFrost_5 ?_
  refine V_ild1 dX5_toldByFrost_6 ?_
  refine V_callV lm_X5_246 (ok_toldByClear m hm) dX5_toldByFrost_7 cW_main rfl (dep hX (by decide)) rfl (Nat.le_of_ble_eq_true rfl) ?_
  refine V_bipush 100 dX5_toldByFrost_10 (by decide) ?_
  refine V_iadd dX5_toldByFrost_12 ?_
  exact V_iret hX dX5_toldByFrost_13 rfl rfl rfl
set_option maxRecDepth 100000 in
set_option maxHeartbeats 4000000 in
theorem ok_toldByPainted (m : Nat) (hm : m < 6) : Ok 3 yX5_toldByPainted cX5_toldByPainted 3 (some .int) D tc [.ref (A 0), .int (nI m)] (cW A tc σ) (some (.int (σ 5 6 m + 100 + σ 5 6 m))) (cW A tc (beC (beC (beC (beC σ 3) 2) 1) 1)) := by
  refine Ok_of RX5 rfl (by decide) [some (.ref (A 0)), some (.int (nI m)), none] rfl (Nat.le_of_ble_eq_true rfl) ?_
  intro X hX
  refine V_ald0 dX5_toldByPainted_0 ?_
  refine V_iconst 3 dX5_toldByPainted_1 (by decide) ?_
  refine V_callVv lm_X5_271 (ok_begins 3) dX5_toldByPainted_2 cW_main rfl (dep hX (by decide)) rfl (Nat.le_of_ble_eq_true rfl) ?_
  refine V_ald0 dX5_toldByPainted_5 ?_
  refine V_ild1 dX5_toldByPainted_6 ?_
  refine V_callV lm_X5_240 (ok_toldByFrost m hm) dX5_toldByPainted_7 cW_main rfl (dep hX (by decide)) rfl (Nat.le_of_ble_eq_true rfl) ?_
  refine V_ist2 dX5_toldByPainted_10 rfl (by decide) ?_
  refine V_ild2 dX5_toldByPainted_11 ?_
  refine V_ald0 dX5_toldByPainted_12 ?_
  refine V_ild1 dX5_toldByPainted_13 ?_
  refine V_callV lm_X5_246 (ok_toldByClear m hm) dX5_toldByPainted_14 cW_main rfl (dep hX (by decide)) rfl (Nat.le_of_ble_eq_true rfl) ?_
  refine V_iadd dX5_toldByPainted_17 ?_
  exact V_iret hX dX5_toldByPainted_18 rfl rfl rfl
set_option maxRecDepth 100000 in
set_option maxHeartbeats 4000000 in
theorem ok_crowedByLent (m : Int32) : Ok 1 yX5_crowedByLent cX5_crowedByLent 2 (some .int) D tc [.ref (A 0), .int m] (cW A tc σ) (some (.int m)) (cW A tc (beC σ 4)) := by
  refine Ok_of RX5 rfl (by decide) [some (.ref (A 0)), some (.int m)] rfl (Nat.le_of_ble_eq_true rfl) ?_
  intro X hX
  refine V_ald0 dX5_crowedByLent_0 ?_
  refine V_iconst 4 dX5_crowedByLent_1 (by decide) ?_
  refine V_callVv lm_X5_271 (ok_begins 4) dX5_crowedByLent_2 cW_main rfl (dep hX (by decide)) rfl (Nat.le_of_ble_eq_true rfl) ?_
  refine V_ild1 dX5_crowedByLent_5 ?_
  exact V_iret hX dX5_crowedByLent_6 rfl rfl rfl
set_option maxRecDepth 100000 in
set_option maxHeartbeats 4000000 in
theorem ok_crowedByPainted : Ok 1 yX5_crowedByPainted cX5_crowedByPainted 1 (some .int) D tc [.ref (A 0)] (cW A tc σ) (some (.int 70)) (cW A tc (beC σ 5)) := by
  refine Ok_of RX5 rfl (by decide) [some (.ref (A 0))] rfl (Nat.le_of_ble_eq_true rfl) ?_
  intro X hX
  refine V_ald0 dX5_crowedByPainted_0 ?_
  refine V_iconst 5 dX5_crowedByPainted_1 (by decide) ?_
  refine V_callVv lm_X5_271 (ok_begins 5) dX5_crowedByPainted_2 cW_main rfl (dep hX (by decide)) rfl (Nat.le_of_ble_eq_true rfl) ?_
  refine V_bipush 70 dX5_crowedByPainted_5 (by decide) ?_
  exact V_iret hX dX5_crowedByPainted_7 rfl rfl rfl
abbrev yeI (w : Int32) : Prop := (¬ w < 0 ∧ w ≤ 3) ∨ (¬ w < 10 ∧ w < 14) ∨ (¬ w < 20 ∧ w < 24) ∨ (¬ w < 30 ∧ ¬ 36 ≤ w)
set_option maxRecDepth 100000 in
set_option maxHeartbeats 4000000 in
theorem ok_canBeAsked (w : Int32) : Ok 0 yX5_canBeAskedOfYear cX5_canBeAskedOfYear 1 (some .boolean) D tc [.int w] ws (some (.int (b2i (yeI w)))) ws := by
  refine Ok_of RX5 rfl (by decide) [some (.int w)] rfl (Nat.le_of_ble_eq_true rfl) ?_
  intro X hX
  refine V_ild0 dX5_canBeAskedOfYear_0 ?_
  refine V_if_lt 9 dX5_canBeAskedOfYear_1 (by decide) (fun c1 => ?_) (fun c1 => ?_)
  · refine V_ild0 dX5_canBeAskedOfYear_9 ?_
    refine V_bipush 10 dX5_canBeAskedOfYear_10 (by decide) ?_
    refine V_icmp_lt 21 dX5_canBeAskedOfYear_12 (by decide) (fun c12 => ?_) (fun c12 => ?_)
    · refine V_ild0 dX5_canBeAskedOfYear_21 ?_
      refine V_bipush 20 dX5_canBeAskedOfYear_22 (by decide) ?_
      refine V_icmp_lt 33 dX5_canBeAskedOfYear_24 (by decide) (fun c24 => ?_) (fun c24 => ?_)
      · refine V_ild0 dX5_canBeAskedOfYear_33 ?_
        refine V_bipush 30 dX5_canBeAskedOfYear_34 (by decide) ?_
        refine V_icmp_lt 49 dX5_canBeAskedOfYear_36 (by decide) (fun c36 => ?_) (fun c36 => ?_)
        · refine V_iconst 0 dX5_canBeAskedOfYear_49 (by decide) ?_
          exact V_zret hX dX5_canBeAskedOfYear_50 rfl (by first | exact Or.inl rfl | exact Or.inr rfl) (by simp [b2i, yeI, *]) rfl
        · refine V_ild0 dX5_canBeAskedOfYear_39 ?_
          refine V_bipush 36 dX5_canBeAskedOfYear_40 (by decide) ?_
          refine V_icmp_ge 49 dX5_canBeAskedOfYear_42 (by decide) (fun c42 => ?_) (fun c42 => ?_)
          · refine V_iconst 0 dX5_canBeAskedOfYear_49 (by decide) ?_
            exact V_zret hX dX5_canBeAskedOfYear_50 rfl (by first | exact Or.inl rfl | exact Or.inr rfl) (by simp [b2i, yeI, *]) rfl
          · refine V_iconst 1 dX5_canBeAskedOfYear_45 (by decide) ?_
            refine V_goto 50 dX5_canBeAskedOfYear_46 (by decide) ?_
            exact V_zret hX dX5_canBeAskedOfYear_50 rfl (by first | exact Or.inl rfl | exact Or.inr rfl) (by simp [b2i, yeI, *]) rfl
      · refine V_ild0 dX5_canBeAskedOfYear_27 ?_
        refine V_bipush 24 dX5_canBeAskedOfYear_28 (by decide) ?_
        refine V_icmp_lt 45 dX5_canBeAskedOfYear_30 (by decide) (fun c30 => ?_) (fun c30 => ?_)
        · refine V_iconst 1 dX5_canBeAskedOfYear_45 (by decide) ?_
          refine V_goto 50 dX5_canBeAskedOfYear_46 (by decide) ?_
          exact V_zret hX dX5_canBeAskedOfYear_50 rfl (by first | exact Or.inl rfl | exact Or.inr rfl) (by simp [b2i, yeI, *]) rfl
        · refine V_ild0 dX5_canBeAskedOfYear_33 ?_
          refine V_bipush 30 dX5_canBeAskedOfYear_34 (by decide) ?_
          refine V_icmp_lt 49 dX5_canBeAskedOfYear_36 (by decide) (fun c36 => ?_) (fun c36 => ?_)
          · refine V_iconst 0 dX5_canBeAskedOfYear_49 (by decide) ?_
            exact V_zret hX dX5_canBeAskedOfYear_50 rfl (by first | exact Or.inl rfl | exact Or.inr rfl) (by simp [b2i, yeI, *]) rfl
          · refine V_ild0 dX5_canBeAskedOfYear_39 ?_
            refine V_bipush 36 dX5_canBeAskedOfYear_40 (by decide) ?_
            refine V_icmp_ge 49 dX5_canBeAskedOfYear_42 (by decide) (fun c42 => ?_) (fun c42 => ?_)
            · refine V_iconst 0 dX5_canBeAskedOfYear_49 (by decide) ?_
              exact V_zret hX dX5_canBeAskedOfYear_50 rfl (by first | exact Or.inl rfl | exact Or.inr rfl) (by simp [b2i, yeI, *]) rfl
            · refine V_iconst 1 dX5_canBeAskedOfYear_45 (by decide) ?_
              refine V_goto 50 dX5_canBeAskedOfYear_46 (by decide) ?_
              exact V_zret hX dX5_canBeAskedOfYear_50 rfl (by first | exact Or.inl rfl | exact Or.inr rfl) (by simp [b2i, yeI, *]) rfl
    · refine V_ild0 dX5_canBeAskedOfYear_15 ?_
      refine V_bipush 14 dX5_canBeAskedOfYear_16 (by decide) ?_
      refine V_icmp_lt 45 dX5_canBeAskedOfYear_18 (by decide) (fun c18 => ?_) (fun c18 => ?_)
      · refine V_iconst 1 dX5_canBeAskedOfYear_45 (by decide) ?_
        refine V_goto 50 dX5_canBeAskedOfYear_46 (by decide) ?_
        exact V_zret hX dX5_canBeAskedOfYear_50 rfl (by first | exact Or.inl rfl | exact Or.inr rfl) (by simp [b2i, yeI, *]) rfl
      · refine V_ild0 dX5_canBeAskedOfYear_21 ?_
        refine V_bipush 20 dX5_canBeAskedOfYear_22 (by decide) ?_
        refine V_icmp_lt 33 dX5_canBeAskedOfYear_24 (by decide) (fun c24 => ?_) (fun c24 => ?_)
        · refine V_ild0 dX5_canBeAskedOfYear_33 ?_
          refine V_bipush 30 dX5_canBeAskedOfYear_34 (by decide) ?_
          refine V_icmp_lt 49 dX5_canBeAskedOfYear_36 (by decide) (fun c36 => ?_) (fun c36 => ?_)
          · refine V_iconst 0 dX5_canBeAskedOfYear_49 (by decide) ?_
            exact V_zret hX dX5_canBeAskedOfYear_50 rfl (by first | exact Or.inl rfl | exact Or.inr rfl) (by simp [b2i, yeI, *]) rfl
          · refine V_ild0 dX5_canBeAskedOfYear_39 ?_
            refine V_bipush 36 dX5_canBeAskedOfYear_40 (by decide) ?_
            refine V_icmp_ge 49 dX5_canBeAskedOfYear_42 (by decide) (fun c42 => ?_) (fun c42 => ?_)
            · refine V_iconst 0 dX5_canBeAskedOfYear_49 (by decide) ?_
              exact V_zret hX dX5_canBeAskedOfYear_50 rfl (by first | exact Or.inl rfl | exact Or.inr rfl) (by simp [b2i, yeI, *]) rfl
            · refine V_iconst 1 dX5_canBeAskedOfYear_45 (by decide) ?_
              refine V_goto 50 dX5_canBeAskedOfYear_46 (by decide) ?_
              exact V_zret hX dX5_canBeAskedOfYear_50 rfl (by first | exact Or.inl rfl | exact Or.inr rfl) (by simp [b2i, yeI, *]) rfl
        · refine V_ild0 dX5_canBeAskedOfYear_27 ?_
          refine V_bipush 24 dX5_canBeAskedOfYear_28 (by decide) ?_
          refine V_icmp_lt 45 dX5_canBeAskedOfYear_30 (by decide) (fun c30 => ?_) (fun c30 => ?_)
          · refine V_iconst 1 dX5_canBeAskedOfYear_45 (by decide) ?_
            refine V_goto 50 dX5_canBeAskedOfYear_46 (by decide) ?_
            exact V_zret hX dX5_canBeAskedOfYear_50 rfl (by first | exact Or.inl rfl | exact Or.inr rfl) (by simp [b2i, yeI, *]) rfl
          · refine V_ild0 dX5_canBeAskedOfYear_33 ?_
            refine V_bipush 30 dX5_canBeAskedOfYear_34 (by decide) ?_
            refine V_icmp_lt 49 dX5_canBeAskedOfYear_36 (by decide) (fun c36 => ?_) (fun c36 => ?_)
            · refine V_iconst 0 dX5_canBeAskedOfYear_49 (by decide) ?_
              exact V_zret hX dX5_canBeAskedOfYear_50 rfl (by first | exact Or.inl rfl | exact Or.inr rfl) (by simp [b2i, yeI, *]) rfl
            · refine V_ild0 dX5_canBeAskedOfYear_39 ?_
              refine V_bipush 36 dX5_canBeAskedOfYear_40 (by decide) ?_
              refine V_icmp_ge 49 dX5_canBeAskedOfYear_42 (by decide) (fun c42 => ?_) (fun c42 => ?_)
              · refine V_iconst 0 dX5_canBeAskedOfYear_49 (by decide) ?_
                exact V_zret hX dX5_canBeAskedOfYear_50 rfl (by first | exact Or.inl rfl | exact Or.inr rfl) (by simp [b2i, yeI, *]) rfl
              · refine V_iconst 1 dX5_canBeAskedOfYear_45 (by decide) ?_
                refine V_goto 50 dX5_canBeAskedOfYear_46 (by decide) ?_
                exact V_zret hX dX5_canBeAskedOfYear_50 rfl (by first | exact Or.inl rfl | exact Or.inr rfl) (by simp [b2i, yeI, *]) rfl
  · refine V_ild0 dX5_canBeAskedOfYear_4 ?_
    refine V_iconst 3 dX5_canBeAskedOfYear_5 (by decide) ?_
    refine V_icmp_le 45 dX5_canBeAskedOfYear_6 (by decide) (fun c6 => ?_) (fun c6 => ?_)
    · refine V_iconst 1 dX5_canBeAskedOfYear_45 (by decide) ?_
      refine V_goto 50 dX5_canBeAskedOfYear_46 (by decide) ?_
      exact V_zret hX dX5_canBeAskedOfYear_50 rfl (by first | exact Or.inl rfl | exact Or.inr rfl) (by simp [b2i, yeI, *]) rfl
    · refine V_ild0 dX5_canBeAskedOfYear_9 ?_
      refine V_bipush 10 dX5_canBeAskedOfYear_10 (by decide) ?_
      refine V_icmp_lt 21 dX5_canBeAskedOfYear_12 (by decide) (fun c12 => ?_) (fun c12 => ?_)
      · refine V_ild0 dX5_canBeAskedOfYear_21 ?_
        refine V_bipush 20 dX5_canBeAskedOfYear_22 (by decide) ?_
        refine V_icmp_lt 33 dX5_canBeAskedOfYear_24 (by decide) (fun c24 => ?_) (fun c24 => ?_)
        · refine V_ild0 dX5_canBeAskedOfYear_33 ?_
          refine V_bipush 30 dX5_canBeAskedOfYear_34 (by decide) ?_
          refine V_icmp_lt 49 dX5_canBeAskedOfYear_36 (by decide) (fun c36 => ?_) (fun c36 => ?_)
          · refine V_iconst 0 dX5_canBeAskedOfYear_49 (by decide) ?_
            exact V_zret hX dX5_canBeAskedOfYear_50 rfl (by first | exact Or.inl rfl | exact Or.inr rfl) (by simp [b2i, yeI, *]) rfl
          · refine V_ild0 dX5_canBeAskedOfYear_39 ?_
            refine V_bipush 36 dX5_canBeAskedOfYear_40 (by decide) ?_
            refine V_icmp_ge 49 dX5_canBeAskedOfYear_42 (by decide) (fun c42 => ?_) (fun c42 => ?_)
            · refine V_iconst 0 dX5_canBeAskedOfYear_49 (by decide) ?_
              exact V_zret hX dX5_canBeAskedOfYear_50 rfl (by first | exact Or.inl rfl | exact Or.inr rfl) (by simp [b2i, yeI, *]) rfl
            · refine V_iconst 1 dX5_canBeAskedOfYear_45 (by decide) ?_
              refine V_goto 50 dX5_canBeAskedOfYear_46 (by decide) ?_
              exact V_zret hX dX5_canBeAskedOfYear_50 rfl (by first | exact Or.inl rfl | exact Or.inr rfl) (by simp [b2i, yeI, *]) rfl
        · refine V_ild0 dX5_canBeAskedOfYear_27 ?_
          refine V_bipush 24 dX5_canBeAskedOfYear_28 (by decide) ?_
          refine V_icmp_lt 45 dX5_canBeAskedOfYear_30 (by decide) (fun c30 => ?_) (fun c30 => ?_)
          · refine V_iconst 1 dX5_canBeAskedOfYear_45 (by decide) ?_
            refine V_goto 50 dX5_canBeAskedOfYear_46 (by decide) ?_
            exact V_zret hX dX5_canBeAskedOfYear_50 rfl (by first | exact Or.inl rfl | exact Or.inr rfl) (by simp [b2i, yeI, *]) rfl
          · refine V_ild0 dX5_canBeAskedOfYear_33 ?_
            refine V_bipush 30 dX5_canBeAskedOfYear_34 (by decide) ?_
            refine V_icmp_lt 49 dX5_canBeAskedOfYear_36 (by decide) (fun c36 => ?_) (fun c36 => ?_)
            · refine V_iconst 0 dX5_canBeAskedOfYear_49 (by decide) ?_
              exact V_zret hX dX5_canBeAskedOfYear_50 rfl (by first | exact Or.inl rfl | exact Or.inr rfl) (by simp [b2i, yeI, *]) rfl
            · refine V_ild0 dX5_canBeAskedOfYear_39 ?_
              refine V_bipush 36 dX5_canBeAskedOfYear_40 (by decide) ?_
              refine V_icmp_ge 49 dX5_canBeAskedOfYear_42 (by decide) (fun c42 => ?_) (fun c42 => ?_)
              · refine V_iconst 0 dX5_canBeAskedOfYear_49 (by decide) ?_
                exact V_zret hX dX5_canBeAskedOfYear_50 rfl (by first | exact Or.inl rfl | exact Or.inr rfl) (by simp [b2i, yeI, *]) rfl
              · refine V_iconst 1 dX5_canBeAskedOfYear_45 (by decide) ?_
                refine V_goto 50 dX5_canBeAskedOfYear_46 (by decide) ?_
                exact V_zret hX dX5_canBeAskedOfYear_50 rfl (by first | exact Or.inl rfl | exact Or.inr rfl) (by simp [b2i, yeI, *]) rfl
      · refine V_ild0 dX5_canBeAskedOfYear_15 ?_
        refine V_bipush 14 dX5_canBeAskedOfYear_16 (by decide) ?_
        refine V_icmp_lt 45 dX5_canBeAskedOfYear_18 (by decide) (fun c18 => ?_) (fun c18 => ?_)
        · refine V_iconst 1 dX5_canBeAskedOfYear_45 (by decide) ?_
          refine V_goto 50 dX5_canBeAskedOfYear_46 (by decide) ?_
          exact V_zret hX dX5_canBeAskedOfYear_50 rfl (by first | exact Or.inl rfl | exact Or.inr rfl) (by simp [b2i, yeI, *]) rfl
        · refine V_ild0 dX5_canBeAskedOfYear_21 ?_
          refine V_bipush 20 dX5_canBeAskedOfYear_22 (by decide) ?_
          refine V_icmp_lt 33 dX5_canBeAskedOfYear_24 (by decide) (fun c24 => ?_) (fun c24 => ?_)
          · refine V_ild0 dX5_canBeAskedOfYear_33 ?_
            refine V_bipush 30 dX5_canBeAskedOfYear_34 (by decide) ?_
            refine V_icmp_lt 49 dX5_canBeAskedOfYear_36 (by decide) (fun c36 => ?_) (fun c36 => ?_)
            · refine V_iconst 0 dX5_canBeAskedOfYear_49 (by decide) ?_
              exact V_zret hX dX5_canBeAskedOfYear_50 rfl (by first | exact Or.inl rfl | exact Or.inr rfl) (by simp [b2i, yeI, *]) rfl
            · refine V_ild0 dX5_canBeAskedOfYear_39 ?_
              refine V_bipush 36 dX5_canBeAskedOfYear_40 (by decide) ?_
              refine V_icmp_ge 49 dX5_canBeAskedOfYear_42 (by decide) (fun c42 => ?_) (fun c42 => ?_)
              · refine V_iconst 0 dX5_canBeAskedOfYear_49 (by decide) ?_
                exact V_zret hX dX5_canBeAskedOfYear_50 rfl (by first | exact Or.inl rfl | exact Or.inr rfl) (by simp [b2i, yeI, *]) rfl
              · refine V_iconst 1 dX5_canBeAskedOfYear_45 (by decide) ?_
                refine V_goto 50 dX5_canBeAskedOfYear_46 (by decide) ?_
                exact V_zret hX dX5_canBeAskedOfYear_50 rfl (by first | exact Or.inl rfl | exact Or.inr rfl) (by simp [b2i, yeI, *]) rfl
          · refine V_ild0 dX5_canBeAskedOfYear_27 ?_
            refine V_bipush 24 dX5_canBeAskedOfYear_28 (by decide) ?_
            refine V_icmp_lt 45 dX5_canBeAskedOfYear_30 (by decide) (fun c30 => ?_) (fun c30 => ?_)
            · refine V_iconst 1 dX5_canBeAskedOfYear_45 (by decide) ?_
              refine V_goto 50 dX5_canBeAskedOfYear_46 (by decide) ?_
              exact V_zret hX dX5_canBeAskedOfYear_50 rfl (by first | exact Or.inl rfl | exact Or.inr rfl) (by simp [b2i, yeI, *]) rfl
            · refine V_ild0 dX5_canBeAskedOfYear_33 ?_
              refine V_bipush 30 dX5_canBeAskedOfYear_34 (by decide) ?_
              refine V_icmp_lt 49 dX5_canBeAskedOfYear_36 (by decide) (fun c36 => ?_) (fun c36 => ?_)
              · refine V_iconst 0 dX5_canBeAskedOfYear_49 (by decide) ?_
                exact V_zret hX dX5_canBeAskedOfYear_50 rfl (by first | exact Or.inl rfl | exact Or.inr rfl) (by simp [b2i, yeI, *]) rfl
              · refine V_ild0 dX5_canBeAskedOfYear_39 ?_
                refine V_bipush 36 dX5_canBeAskedOfYear_40 (by decide) ?_
                refine V_icmp_ge 49 dX5_canBeAskedOfYear_42 (by decide) (fun c42 => ?_) (fun c42 => ?_)
                · refine V_iconst 0 dX5_canBeAskedOfYear_49 (by decide) ?_
                  exact V_zret hX dX5_canBeAskedOfYear_50 rfl (by first | exact Or.inl rfl | exact Or.inr rfl) (by simp [b2i, yeI, *]) rfl
                · refine V_iconst 1 dX5_canBeAskedOfYear_45 (by decide) ?_
                  refine V_goto 50 dX5_canBeAskedOfYear_46 (by decide) ?_
                  exact V_zret hX dX5_canBeAskedOfYear_50 rfl (by first | exact Or.inl rfl | exact Or.inr rfl) (by simp [b2i, yeI, *]) rfl
end
