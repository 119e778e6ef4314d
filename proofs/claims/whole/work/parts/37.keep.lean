/-! what to keep -/
def doC (b m : Int32) : Int32 := if bitI b (nI 0 * 6 + m) then nI 0 else if bitI b (nI 1 * 6 + m) then nI 1 else if bitI b (nI 2 * 6 + m) then nI 2 else -9
def dnI (k : Nat) : Int32 := 5 - nI k
theorem dn_s : ∀ k, k < 6 → dnI k + Int32.ofInt (-1) = dnI (k + 1) := by decide
theorem dn_g : ∀ k, k < 6 → ¬ dnI k < 0 := by decide
theorem dn_e : dnI 6 < 0 := by decide
def sxC (n th row : Int32) : Nat → Int32 × Int32
  | 0 => (0, row)
  | k + 1 => if bitI th (dnI k) then ((sxC n th row k).1 ||| (1 <<< ((((sxC n th row k).2 - (sxC n th row k).2 / n * n) * 6 + dnI k) &&& 31)), (sxC n th row k).2 / n) else sxC n th row k
def jxC (T : Nat → Int32) (s : Int32) : Nat → Int32
  | 0 => 0
  | d + 1 => jxC T s d + T (64 * d + ((s >>> ((nI d * 6) &&& 31)) &&& 63).toNatClampNeg)
def oaC (μ : Sm) (p d : Nat) : Int32 := if d = 0 then otC μ p else 0
def wiC (μ : Sm) (M p : Nat) (th : Int32) (d : Nat) (T0 : Nat → Int32) : Nat → (Nat → Int32)
  | 0 => T0
  | s + 1 => if nI s &&& (th ^^^ (-1)) = 0 then upd (wiC μ M p th d T0 s) (64 * d + s) (jsC μ (nI s) (μ 8 0 + nI d) (oaC μ p d) M) else wiC μ M p th d T0 s
def woC (μ : Sm) (M p : Nat) (th : Int32) (T0 : Nat → Int32) : Nat → (Nat → Int32)
  | 0 => T0
  | d + 1 => wiC μ M p th d (woC μ M p th T0 d) 64
def rwN (N : Nat) (th : Int32) : Nat → Nat
  | 0 => 1
  | k + 1 => if bitI th (nI k) then rwN N th k * N else rwN N th k
theorem rwN_le (N : Nat) (th : Int32) (h : N ≤ 3) : ∀ k, k ≤ 6 → rwN N th k ≤ 729 := by
  have g : ∀ k, rwN N th k ≤ 3 ^ k := by
    intro k
    induction k with
    | zero => simp [rwN]
    | succ k ih =>
      rw [Nat.pow_succ]
      unfold rwN
      split
      · exact Nat.mul_le_mul ih h
      · omega
  intro k hk
  exact Nat.le_trans (g k) (Nat.le_trans (Nat.pow_le_pow_right (by decide) hk) (by decide))
def fbC (T : Nat → Int32) (N : Nat) (th b0 : Int32) : Nat → Int32 × Int32
  | 0 => (-9, b0)
  | k + 1 => if jxC T (sxC (nI N) th (nI k) 6).1 N ≤ (fbC T N th b0 k).1 then fbC T N th b0 k else (jxC T (sxC (nI N) th (nI k) 6).1 N, (sxC (nI N) th (nI k) 6).1)
theorem up_upF (σ : St) (o k : Nat) (T : Nat → Int32) (i : Nat) (v : Int32) : up (upF σ o k T) o k i v = upF σ o k (upd T i v) := by
  funext o' k' i'
  unfold up upF upd
  by_cases h1 : o' = o <;> by_cases h2 : k' = k <;> by_cases h3 : i' = i <;> simp [h1, h2, h3]
theorem up_self (σ : St) (o k i : Nat) : up σ o k i (σ o k i) = σ := by
  funext o' k' i'
  unfold up
  by_cases h1 : o' = o <;> by_cases h2 : k' = k <;> by_cases h3 : i' = i <;> simp [h1, h2, h3]
theorem upF_self (σ : St) (o k : Nat) : upF σ o k (σ o k) = σ := by
  funext o' k'
  unfold upF
  by_cases h1 : o' = o <;> by_cases h2 : k' = k <;> simp [h1, h2]
theorem up_up2 (σ : St) (a b c d : Int32) : up (up (up (up σ 8 1 0 a) 8 2 0 b) 8 1 0 c) 8 2 0 d = up (up σ 8 1 0 c) 8 2 0 d := by
  funext o' k' i'
  unfold up
  by_cases h1 : o' = 8 <;> by_cases h2 : k' = 1 <;> by_cases h4 : k' = 2 <;> by_cases h3 : i' = 0 <;> simp [h1, h2, h3, h4]
theorem i64 (k j : Nat) : nI k * 64 + nI j = nI (64 * k + j) := by
  rw [show (64 : Int32) = nI 64 by decide, pk_mul, nI_add, Nat.mul_comm]
theorem L6 {k : Nat} (h : k < 6) : ¬ (6 : Int32) ≤ nI k := ge_no (x := 6) (M := 6) (by decide) h (by decide)
theorem E6 : (6 : Int32) ≤ nI 6 := by decide
theorem L3 {k : Nat} (h : k < 3) : ¬ (3 : Int32) ≤ nI k := ge_no (x := 3) (M := 3) (by decide) h (by decide)
theorem E3 : (3 : Int32) ≤ nI 3 := by decide
section
variable {D : va_G} {tc : Tc} {A : Nat → Nat} {σ : St} {M P N : Nat}
set_option maxRecDepth 100000 in
set_option maxHeartbeats 4000000 in
theorem ok_dayOf (m : Int32) : Ok 1 yX0_dayOf cX0_dayOf 3 (some .int) D tc [.ref (A 28), .int m] (cW A tc σ) (some (.int (doC (σ 8 2 0) m))) (cW A tc σ) := by
  refine Ok_of RX0 rfl (by decide) [some (.ref (A 28)), some (.int m), none] rfl (Nat.le_of_ble_eq_true rfl) ?_
  intro X hX
  have lpS : ∀ k, k < 3 → (fun k => ∀ d, d < k → ¬ bitI (σ 8 2 0) (nI d * 6 + m)) k → ((fun k => ∀ d, d < k → ¬ bitI (σ 8 2 0) (nI d * 6 + m)) (k + 1) → V X D tc cX0_dayOf RX0 3 2 ((fun k => [some (.ref (A 28)), some (.int m), some (.int (nI k))]) (k + 1)) [] ((fun k => cW A tc σ) (k + 1))) → V X D tc cX0_dayOf RX0 3 2 ((fun k => [some (.ref (A 28)), some (.int m), some (.int (nI k))]) k) [] ((fun k => cW A tc σ) k) := by
    intro k hk invlp ihlp
    try dsimp only at invlp
    refine V_ild2 dX0_dayOf_2 ?_
    refine V_iconst 3 dX0_dayOf_3 (by decide) ?_
    refine V_icmp_ge 31 dX0_dayOf_4 (by decide) (fun c4 => ?_) (fun c4 => ?_)
    · exact absurd c4 (L3 hk)
    · refine V_ald0 dX0_dayOf_7 ?_
      refine V_get lf_X0_19 dX0_dayOf_8 cW_ke rfl ?_
      refine V_ild2 dX0_dayOf_11 ?_
      refine V_bipush 6 dX0_dayOf_12 (by decide) ?_
      refine V_imul dX0_dayOf_14 ?_
      refine V_ild1 dX0_dayOf_15 ?_
      refine V_iadd dX0_dayOf_16 ?_
      refine V_callN ln_X0_32 (ok_isIn _ _) dX0_dayOf_17 (dep hX (by decide)) rfl (Nat.le_of_ble_eq_true rfl) ?_
      refine V_if_eq 25 dX0_dayOf_20 (by decide) (fun c20 => ?_) (fun c20 => ?_)
      · try rw [b2i_eq] at c20
        try rw [Decidable.not_not] at c20
        refine V_inc2 (nI (k + 1)) dX0_dayOf_25 (nI_inc k) rfl (by decide) ?_
        refine V_goto 2 dX0_dayOf_28 (by decide) ?_
        exact ihlp (lt_s invlp c20)
      · try rw [b2i_ne] at c20
        try rw [Decidable.not_not] at c20
        refine V_ild2 dX0_dayOf_23 ?_
        exact V_iret hX dX0_dayOf_24 rfl (by rcases (show k = 0 ∨ k = 1 ∨ k = 2 by omega) with rfl | rfl | rfl <;> first | (rw [doC, if_pos c20]; done) | (rw [doC, if_neg (invlp 0 (by decide)), if_pos c20]; done) | (rw [doC, if_neg (invlp 0 (by decide)), if_neg (invlp 1 (by decide)), if_pos c20])) rfl
  have lpE : (fun k => ∀ d, d < k → ¬ bitI (σ 8 2 0) (nI d * 6 + m)) (3) → V X D tc cX0_dayOf RX0 3 2 ((fun k => [some (.ref (A 28)), some (.int m), some (.int (nI k))]) (3)) [] ((fun k => cW A tc σ) (3)) := by
    intro invlp
    try dsimp only at invlp
    refine V_ild2 dX0_dayOf_2 ?_
    refine V_iconst 3 dX0_dayOf_3 (by decide) ?_
    refine V_icmp_ge 31 dX0_dayOf_4 (by decide) (fun c4 => ?_) (fun c4 => ?_)
    · refine V_bipush (-9) dX0_dayOf_31 (by decide) ?_
      exact V_iret hX dX0_dayOf_33 rfl (by rw [doC, if_neg (invlp 0 (by omega)), if_neg (invlp 1 (by omega)), if_neg (invlp 2 (by omega))]) rfl
    · exact absurd E3 c4
  have lp := V_forI (fun k => ∀ d, d < k → ¬ bitI (σ 8 2 0) (nI d * 6 + m)) (fun k => [some (.ref (A 28)), some (.int m), some (.int (nI k))]) (fun k => cW A tc σ) (3) lpS lpE
  refine V_iconst 0 dX0_dayOf_0 (by decide) ?_
  refine V_ist2 dX0_dayOf_1 rfl (by decide) ?_
  exact lp 0 (Nat.zero_le _) (fun d h => absurd h (by omega))
set_option maxRecDepth 100000 in
set_option maxHeartbeats 4000000 in
theorem ok_setsOfDays (row n th : Int32) (hn : ¬ n = 0) : Ok 1 yX0_setsOfDays cX0_setsOfDays 7 (some .int) D tc [.ref (A 28), .int row, .int n, .int th] (cW A tc σ) (some (.int (sxC n th row 6).1)) (cW A tc σ) := by
  refine Ok_of RX0 rfl (by decide) [some (.ref (A 28)), some (.int row), some (.int n), some (.int th), none, none, none] rfl (Nat.le_of_ble_eq_true rfl) ?_
  intro X hX
  have lpS : ∀ k, k < 6 → V X D tc cX0_setsOfDays RX0 7 9 ((fun k => [some (.ref (A 28)), some (.int row), some (.int n), some (.int th), some (.int (sxC n th row k).1), some (.int (sxC n th row k).2), some (.int (dnI k))]) (k + 1)) [] ((fun k => cW A tc σ) (k + 1)) → V X D tc cX0_setsOfDays RX0 7 9 ((fun k => [some (.ref (A 28)), some (.int row), some (.int n), some (.int th), some (.int (sxC n th row k).1), some (.int (sxC n th row k).2), some (.int (dnI k))]) k) [] ((fun k => cW A tc σ) k) := by
    intro k hk ihlp
    refine V_ild6 dX0_setsOfDays_9 ?_
    refine V_if_lt 52 dX0_setsOfDays_11 (by decide) (fun c11 => ?_) (fun c11 => ?_)
    · exact absurd c11 (dn_g k hk)
    · refine V_ild3 dX0_setsOfDays_14 ?_
      refine V_ild6 dX0_setsOfDays_15 ?_
      refine V_callN ln_X0_32 (ok_isIn _ _) dX0_setsOfDays_17 (dep hX (by decide)) rfl (Nat.le_of_ble_eq_true rfl) ?_
      refine V_if_eq 46 dX0_setsOfDays_20 (by decide) (fun c20 => ?_) (fun c20 => ?_)
      · try rw [b2i_eq] at c20
        try rw [Decidable.not_not] at c20
        refine V_inc6 (dnI (k + 1)) dX0_setsOfDays_46 (dn_s k hk) rfl (by decide) ?_
        refine V_goto 9 dX0_setsOfDays_49 (by decide) ?_
        refine V_eq ?_ rfl rfl ihlp
        (try first | replace c20 := eq_false c20 | replace c20 := eq_true c20)
        simp only [sxC, *, not_true_eq_false, not_false_eq_true, and_self, true_and, and_true, false_and, and_false, true_or, or_true, false_or, or_false, or_self, ↓reduceIte]
      · try rw [b2i_ne] at c20
        try rw [Decidable.not_not] at c20
        refine V_ild4 dX0_setsOfDays_23 ?_
        refine V_iconst 1 dX0_setsOfDays_25 (by decide) ?_
        refine V_ild5 dX0_setsOfDays_26 ?_
        refine V_ild2 dX0_setsOfDays_28 ?_
        refine V_irem dX0_setsOfDays_29 hn ?_
        refine V_bipush 6 dX0_setsOfDays_30 (by decide) ?_
        refine V_imul dX0_setsOfDays_32 ?_
        refine V_ild6 dX0_setsOfDays_33 ?_
        refine V_iadd dX0_setsOfDays_35 ?_
        refine V_ishl dX0_setsOfDays_36 ?_
        refine V_ior dX0_setsOfDays_37 ?_
        refine V_ist4 dX0_setsOfDays_38 rfl (by decide) ?_
        refine V_ild5 dX0_setsOfDays_40 ?_
        refine V_ild2 dX0_setsOfDays_42 ?_
        refine V_idiv dX0_setsOfDays_43 hn ?_
        refine V_ist5 dX0_setsOfDays_44 rfl (by decide) ?_
        refine V_inc6 (dnI (k + 1)) dX0_setsOfDays_46 (dn_s k hk) rfl (by decide) ?_
        refine V_goto 9 dX0_setsOfDays_49 (by decide) ?_
        refine V_eq ?_ rfl rfl ihlp
        (try first | replace c20 := eq_false c20 | replace c20 := eq_true c20)
        simp only [sxC, *, not_true_eq_false, not_false_eq_true, and_self, true_and, and_true, false_and, and_false, true_or, or_true, false_or, or_false, or_self, ↓reduceIte]
  have lpE : V X D tc cX0_setsOfDays RX0 7 9 ((fun k => [some (.ref (A 28)), some (.int row), some (.int n), some (.int th), some (.int (sxC n th row k).1), some (.int (sxC n th row k).2), some (.int (dnI k))]) (6)) [] ((fun k => cW A tc σ) (6)) := by
    refine V_ild6 dX0_setsOfDays_9 ?_
    refine V_if_lt 52 dX0_setsOfDays_11 (by decide) (fun c11 => ?_) (fun c11 => ?_)
    · refine V_ild4 dX0_setsOfDays_52 ?_
      exact V_iret hX dX0_setsOfDays_54 rfl rfl rfl
    · exact absurd dn_e c11
  have lp := V_for (fun k => [some (.ref (A 28)), some (.int row), some (.int n), some (.int th), some (.int (sxC n th row k).1), some (.int (sxC n th row k).2), some (.int (dnI k))]) (fun k => cW A tc σ) (6) lpS lpE
  refine V_iconst 0 dX0_setsOfDays_0 (by decide) ?_
  refine V_ist4 dX0_setsOfDays_1 rfl (by decide) ?_
  refine V_ild1 dX0_setsOfDays_3 ?_
  refine V_ist5 dX0_setsOfDays_4 rfl (by decide) ?_
  refine V_iconst 5 dX0_setsOfDays_6 (by decide) ?_
  refine V_ist6 dX0_setsOfDays_7 rfl (by decide) ?_
  exact lp 0 (Nat.zero_le _)
set_option maxRecDepth 100000 in
set_option maxHeartbeats 4000000 in
theorem ok_joyOfDays (hN : N ≤ 3) (s : Int32) : Ok 0 yX0_joyOfDays cX0_joyOfDays 6 (some .int) D tc [.ref (A 28), .int s, .int (nI N)] (cW A tc σ) (some (.int (jxC (σ 8 0) s N))) (cW A tc σ) := by
  refine Ok_of RX0 rfl (by decide) [some (.ref (A 28)), some (.int s), some (.int (nI N)), none, none, none] rfl (Nat.le_of_ble_eq_true rfl) ?_
  intro X hX
  have lpS : ∀ k, k < N → V X D tc cX0_joyOfDays RX0 6 5 ((fun k => [some (.ref (A 28)), some (.int s), some (.int (nI N)), some (.int (jxC (σ 8 0) s k)), some (.int (nI k)), none]) (k + 1)) [] ((fun k => cW A tc σ) (k + 1)) → V X D tc cX0_joyOfDays RX0 6 5 ((fun k => [some (.ref (A 28)), some (.int s), some (.int (nI N)), some (.int (jxC (σ 8 0) s k)), some (.int (nI k)), none]) k) [] ((fun k => cW A tc σ) k) := by
    intro k hk ihlp
    refine V_ild4 dX0_joyOfDays_5 ?_
    refine V_ild2 dX0_joyOfDays_7 ?_
    refine V_icmp_ge 45 dX0_joyOfDays_8 (by decide) (fun c8 => ?_) (fun c8 => ?_)
    · exact absurd c8 (nI_ge hk (by omega))
    · refine V_ild1 dX0_joyOfDays_11 ?_
      refine V_ild4 dX0_joyOfDays_12 ?_
      refine V_bipush 6 dX0_joyOfDays_14 (by decide) ?_
      refine V_imul dX0_joyOfDays_16 ?_
      refine V_ishr dX0_joyOfDays_17 ?_
      refine V_bipush 63 dX0_joyOfDays_18 (by decide) ?_
      refine V_iand dX0_joyOfDays_20 ?_
      refine V_ist5 dX0_joyOfDays_21 rfl (by decide) ?_
      refine V_ild3 dX0_joyOfDays_23 ?_
      refine V_ald0 dX0_joyOfDays_24 ?_
      refine V_get lf_X0_9 dX0_joyOfDays_25 cW_ke rfl ?_
      refine V_ild4 dX0_joyOfDays_28 ?_
      refine V_bipush 64 dX0_joyOfDays_30 (by decide) ?_
      refine V_imul dX0_joyOfDays_32 ?_
      refine V_ild5 dX0_joyOfDays_33 ?_
      refine V_iadd dX0_joyOfDays_35 ?_
      obtain ⟨j, hj, ej⟩ := pk_andE (s >>> ((nI k * 6) &&& 31)) (m := 63) 6 (by decide)
      refine V_top (y := nI (64 * k + j)) (by rw [ej, i64]) ?_
      refine V_ialdk dX0_joyOfDays_36 cW_kea ⟨by omega, by decide⟩ ?_
      refine V_iadd dX0_joyOfDays_37 ?_
      refine V_ist3 dX0_joyOfDays_38 rfl (by decide) ?_
      refine V_inc4 (nI (k + 1)) dX0_joyOfDays_39 (nI_inc k) rfl (by decide) ?_
      refine V_goto 5 dX0_joyOfDays_42 (by decide) ?_
      refine V_dr5 ?_
      refine V_eq ?_ rfl rfl ihlp
      simp only [jxC, ej]
      rw [nI_clamp (by omega)]
  have lpE : V X D tc cX0_joyOfDays RX0 6 5 ((fun k => [some (.ref (A 28)), some (.int s), some (.int (nI N)), some (.int (jxC (σ 8 0) s k)), some (.int (nI k)), none]) (N)) [] ((fun k => cW A tc σ) (N)) := by
    refine V_ild4 dX0_joyOfDays_5 ?_
    refine V_ild2 dX0_joyOfDays_7 ?_
    refine V_icmp_ge 45 dX0_joyOfDays_8 (by decide) (fun c8 => ?_) (fun c8 => ?_)
    · refine V_ild3 dX0_joyOfDays_45 ?_
      exact V_iret hX dX0_joyOfDays_46 rfl rfl rfl
    · exact absurd (ge_yes rfl) c8
  have lp := V_for (fun k => [some (.ref (A 28)), some (.int s), some (.int (nI N)), some (.int (jxC (σ 8 0) s k)), some (.int (nI k)), none]) (fun k => cW A tc σ) (N) lpS lpE
  refine V_iconst 0 dX0_joyOfDays_0 (by decide) ?_
  refine V_ist3 dX0_joyOfDays_1 rfl (by decide) ?_
  refine V_iconst 0 dX0_joyOfDays_2 (by decide) ?_
  refine V_ist4 dX0_joyOfDays_3 rfl (by decide) ?_
  exact lp 0 (Nat.zero_le _)
theorem ot1 {μ : Sm} {p : Nat} (h : ¬ otC μ p = 0) : otC μ p = 1 := (b2i_01 (P := μ 2 p = μ 8 0)).elim (fun q => absurd q h) (fun q => q)
theorem of0 {d : Nat} (h : nI d = 0) (hd : d < 2 ^ 31) : d = 0 := (nI_eq hd (by decide)).mp (h.trans nI_0.symm)
set_option maxRecDepth 100000 in
set_option maxHeartbeats 4000000 in
theorem ok_weighDays (hM : σ 5 10 0 = nI M) (h6 : M ≤ 6) (p : Nat) (hp : p < 4) (hN : N ≤ 3) (th : Int32) : Ok 3 yX0_weighDays cX0_weighDays 8 none D tc [.ref (A 28), .ref (A (mb 5)), .int (nI p), .int (nI N), .int th] (cW A tc σ) none (cW A tc (upF σ 8 0 (woC (σ 5) M p th (σ 8 0) N))) := by
  refine Ok_of RX0 rfl (by decide) [some (.ref (A 28)), some (.ref (A (mb 5))), some (.int (nI p)), some (.int (nI N)), some (.int th), none, none, none] rfl (Nat.le_of_ble_eq_true rfl) ?_
  intro X hX
  have lpS : ∀ d, d < N → V X D tc cX0_weighDays RX0 8 3 ((fun d => [some (.ref (A 28)), some (.ref (A (mb 5))), some (.int (nI p)), some (.int (nI N)), some (.int th), some (.int (nI d)), none, none]) (d + 1)) [] ((fun d => cW A tc (upF σ 8 0 (woC (σ 5) M p th (σ 8 0) d))) (d + 1)) → V X D tc cX0_weighDays RX0 8 3 ((fun d => [some (.ref (A 28)), some (.ref (A (mb 5))), some (.int (nI p)), some (.int (nI N)), some (.int th), some (.int (nI d)), none, none]) d) [] ((fun d => cW A tc (upF σ 8 0 (woC (σ 5) M p th (σ 8 0) d))) d) := by
    intro d hd ihlp
    have innS : ∀ k, k < 64 → V X D tc cX0_weighDays RX0 8 32 ((fun k => [some (.ref (A 28)), some (.ref (A (mb 5))), some (.int (nI p)), some (.int (nI N)), some (.int th), some (.int (nI d)), some (.int (oaC (σ 5) p d)), some (.int (nI k))]) (k + 1)) [] ((fun k => cW A tc (upF σ 8 0 (wiC (σ 5) M p th d (woC (σ 5) M p th (σ 8 0) d) k))) (k + 1)) → V X D tc cX0_weighDays RX0 8 32 ((fun k => [some (.ref (A 28)), some (.ref (A (mb 5))), some (.int (nI p)), some (.int (nI N)), some (.int th), some (.int (nI d)), some (.int (oaC (σ 5) p d)), some (.int (nI k))]) k) [] ((fun k => cW A tc (upF σ 8 0 (wiC (σ 5) M p th d (woC (σ 5) M p th (σ 8 0) d) k))) k) := by
      intro k hk ihinn
      refine V_ild7 dX0_weighDays_32 ?_
      refine V_bipush 64 dX0_weighDays_34 (by decide) ?_
      refine V_icmp_ge 83 dX0_weighDays_36 (by decide) (fun c36 => ?_) (fun c36 => ?_)
      · exact absurd c36 (L64 hk)
      · refine V_ild7 dX0_weighDays_39 ?_
        refine V_ild4 dX0_weighDays_41 ?_
        refine V_callN ln_X0_48 (ok_isWithin _ _) dX0_weighDays_43 (dep hX (by decide)) rfl (Nat.le_of_ble_eq_true rfl) ?_
        refine V_if_eq 77 dX0_weighDays_46 (by decide) (fun c46 => ?_) (fun c46 => ?_)
        · try rw [b2i_eq] at c46
          try rw [Decidable.not_not] at c46
          refine V_inc7 (nI (k + 1)) dX0_weighDays_77 (nI_inc k) rfl (by decide) ?_
          refine V_goto 32 dX0_weighDays_80 (by decide) ?_
          refine V_eq rfl rfl ?_ ihinn
          try rw [up_upF]
          simp only [wiC]
          first | rw [if_pos c46] | rw [if_neg c46]
          try rfl
        · try rw [b2i_ne] at c46
          try rw [Decidable.not_not] at c46
          refine V_ald0 dX0_weighDays_49 ?_
          refine V_get lf_X0_9 dX0_weighDays_50 cW_ke rfl ?_
          refine V_ild5 dX0_weighDays_53 ?_
          refine V_bipush 64 dX0_weighDays_55 (by decide) ?_
          refine V_imul dX0_weighDays_57 ?_
          refine V_ild7 dX0_weighDays_58 ?_
          refine V_iadd dX0_weighDays_60 ?_
          refine V_top (y := nI (64 * d + k)) (i64 d k) ?_
          refine V_ald1 dX0_weighDays_61 ?_
          refine V_ild7 dX0_weighDays_62 ?_
          refine V_ald1 dX0_weighDays_64 ?_
          refine V_get lf_X0_51 dX0_weighDays_65 (cW_mkt now5) rfl ?_
          refine V_ild5 dX0_weighDays_68 ?_
          refine V_iadd dX0_weighDays_70 ?_
          refine V_ild6 dX0_weighDays_71 ?_
          refine V_callV lm_X0_54 (ok_joyOfSet (σ := upF σ 8 0 (wiC (σ 5) M p th d (woC (σ 5) M p th (σ 8 0) d) k)) now5 hM h6 _ _ _) dX0_weighDays_73 (cW_mkt now5) rfl (dep hX (by decide)) rfl (Nat.le_of_ble_eq_true rfl) ?_
          refine V_iastk dX0_weighDays_76 cW_kea ⟨by omega, by decide⟩ (cW_keas _ _) ?_
          refine V_inc7 (nI (k + 1)) dX0_weighDays_77 (nI_inc k) rfl (by decide) ?_
          refine V_goto 32 dX0_weighDays_80 (by decide) ?_
          refine V_eq rfl rfl ?_ ihinn
          try rw [up_upF]
          simp only [wiC]
          first | rw [if_pos c46] | rw [if_neg c46]
          try rfl
    have innE : V X D tc cX0_weighDays RX0 8 32 ((fun k => [some (.ref (A 28)), some (.ref (A (mb 5))), some (.int (nI p)), some (.int (nI N)), some (.int th), some (.int (nI d)), some (.int (oaC (σ 5) p d)), some (.int (nI k))]) (64)) [] ((fun k => cW A tc (upF σ 8 0 (wiC (σ 5) M p th d (woC (σ 5) M p th (σ 8 0) d) k))) (64)) := by
      refine V_ild7 dX0_weighDays_32 ?_
      refine V_bipush 64 dX0_weighDays_34 (by decide) ?_
      refine V_icmp_ge 83 dX0_weighDays_36 (by decide) (fun c36 => ?_) (fun c36 => ?_)
      · refine V_inc5 (nI (d + 1)) dX0_weighDays_83 (nI_inc d) rfl (by decide) ?_
        refine V_goto 3 dX0_weighDays_86 (by decide) ?_
        refine V_dr6 ?_
        refine V_dr7 ?_
        exact ihlp
      · exact absurd E64 c36
    have inn := V_for (fun k => [some (.ref (A 28)), some (.ref (A (mb 5))), some (.int (nI p)), some (.int (nI N)), some (.int th), some (.int (nI d)), some (.int (oaC (σ 5) p d)), some (.int (nI k))]) (fun k => cW A tc (upF σ 8 0 (wiC (σ 5) M p th d (woC (σ 5) M p th (σ 8 0) d) k))) (64) innS innE
    refine V_ild5 dX0_weighDays_3 ?_
    refine V_ild3 dX0_weighDays_5 ?_
    refine V_icmp_ge 89 dX0_weighDays_6 (by decide) (fun c6 => ?_) (fun c6 => ?_)
    · exact absurd c6 (nI_ge hd (by omega))
    · refine V_ild5 dX0_weighDays_9 ?_
      refine V_if_ne 26 dX0_weighDays_11 (by decide) (fun c11 => ?_) (fun c11 => ?_)
      · refine V_iconst 0 dX0_weighDays_26 (by decide) ?_
        refine V_top (y := oaC (σ 5) p d) (by
        show _ = (if d = 0 then otC (σ 5) p else 0)
        first
          | (rw [if_neg (fun h => c11 (by rw [h]; rfl))])
          | (rw [if_pos (of0 c11 (by omega))]; first | (exact (ot1 c19).symm) | (exact c19.symm))) ?_
        refine V_ist6 dX0_weighDays_27 rfl (by decide) ?_
        refine V_iconst 0 dX0_weighDays_29 (by decide) ?_
        refine V_ist7 dX0_weighDays_30 rfl (by decide) ?_
        exact inn 0 (Nat.zero_le _)
      · refine V_ald1 dX0_weighDays_14 ?_
        refine V_ild2 dX0_weighDays_15 ?_
        refine V_callV lm_X0_44 (ok_openedToday now5 p hp) dX0_weighDays_16 (cW_mkt now5) rfl (dep hX (by decide)) rfl (Nat.le_of_ble_eq_true rfl) ?_
        refine V_if_eq 26 dX0_weighDays_19 (by decide) (fun c19 => ?_) (fun c19 => ?_)
        · try rw [b2i_eq] at c19
          try rw [Decidable.not_not] at c19
          refine V_iconst 0 dX0_weighDays_26 (by decide) ?_
          refine V_top (y := oaC (σ 5) p d) (by
        show _ = (if d = 0 then otC (σ 5) p else 0)
        first
          | (rw [if_neg (fun h => c11 (by rw [h]; rfl))])
          | (rw [if_pos (of0 c11 (by omega))]; first | (exact (ot1 c19).symm) | (exact c19.symm))) ?_
          refine V_ist6 dX0_weighDays_27 rfl (by decide) ?_
          refine V_iconst 0 dX0_weighDays_29 (by decide) ?_
          refine V_ist7 dX0_weighDays_30 rfl (by decide) ?_
          exact inn 0 (Nat.zero_le _)
        · try rw [b2i_ne] at c19
          try rw [Decidable.not_not] at c19
          refine V_iconst 1 dX0_weighDays_22 (by decide) ?_
          refine V_goto 27 dX0_weighDays_23 (by decide) ?_
          refine V_top (y := oaC (σ 5) p d) (by
        show _ = (if d = 0 then otC (σ 5) p else 0)
        first
          | (rw [if_neg (fun h => c11 (by rw [h]; rfl))])
          | (rw [if_pos (of0 c11 (by omega))]; first | (exact (ot1 c19).symm) | (exact c19.symm))) ?_
          refine V_ist6 dX0_weighDays_27 rfl (by decide) ?_
          refine V_iconst 0 dX0_weighDays_29 (by decide) ?_
          refine V_ist7 dX0_weighDays_30 rfl (by decide) ?_
          exact inn 0 (Nat.zero_le _)
  have lpE : V X D tc cX0_weighDays RX0 8 3 ((fun d => [some (.ref (A 28)), some (.ref (A (mb 5))), some (.int (nI p)), some (.int (nI N)), some (.int th), some (.int (nI d)), none, none]) (N)) [] ((fun d => cW A tc (upF σ 8 0 (woC (σ 5) M p th (σ 8 0) d))) (N)) := by
    refine V_ild5 dX0_weighDays_3 ?_
    refine V_ild3 dX0_weighDays_5 ?_
    refine V_icmp_ge 89 dX0_weighDays_6 (by decide) (fun c6 => ?_) (fun c6 => ?_)
    · exact V_vret hX dX0_weighDays_89 rfl rfl rfl
    · exact absurd (ge_yes rfl) c6
  have lp := V_for (fun d => [some (.ref (A 28)), some (.ref (A (mb 5))), some (.int (nI p)), some (.int (nI N)), some (.int th), some (.int (nI d)), none, none]) (fun d => cW A tc (upF σ 8 0 (woC (σ 5) M p th (σ 8 0) d))) (N) lpS lpE
  refine V_iconst 0 dX0_weighDays_0 (by decide) ?_
  refine V_ist5 dX0_weighDays_1 rfl (by decide) ?_
  refine V_eq rfl rfl ?_ (lp 0 (Nat.zero_le _))
  exact congrArg (cW A tc) (upF_self σ 8 0).symm
end
