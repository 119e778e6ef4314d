theorem V_iastk0 {X : Cx} {D : va_G} {tc : Tc} {cc : ByteArray} {own : String} {nL pc : Nat} {L : List (Option Value)} {st : List Value} {ws : va_W} {x i k : Int32} (h : i = k) (kk : V X D tc cc own nL pc L (.int x :: .int k :: st) ws) : V X D tc cc own nL pc L (.int x :: .int i :: st) ws := h ▸ kk
theorem faC_sh {σ : St} {f : Int32} {j : Nat} : faC σ f (1 + j) = σ (1 + j) := by
  funext k i
  have h : ¬ 1 + j = 0 := by omega
  simp [faC, up, h]
abbrev isS (k : Int32) : Prop := ¬ k < 0 ∧ ¬ nI 4 ≤ k
/-- a sheet's length: none, or 0 .. 60 -/
def lenOk (x : Int32) : Prop := ∃ n : Nat, n ≤ 60 ∧ (x = -1 ∨ x = nI n)
theorem hc_in {x i c : Int32} (h : lenOk x) (hx : ¬ x = -1) (hc : hcI x i c) : ∃ a e n : Nat, i = nI a ∧ c = nI e ∧ a + e ≤ n ∧ n ≤ 60 ∧ x = nI n := by
  obtain ⟨n, hn, h1⟩ := h
  have hxn : x = nI n := h1.resolve_left hx
  obtain ⟨a, ha, ea⟩ := nI_of hc.1
  obtain ⟨e, he, ee⟩ := nI_of hc.2.2.1
  have h2 := hc.2.1
  rw [hxn, ea, nI_ltI (by omega) ha] at h2
  have h3 := hc.2.2.2
  rw [hxn, ea, ee, pk_sub (by omega), nI_ltI (by omega) he] at h3
  exact ⟨a, e, n, ea, ee, by omega, hn, hxn⟩
theorem hc_no {i c : Int32} : ¬ hcI (-1) i c := by
  intro h
  have h1 := h.1
  have h2 := h.2.1
  rw [Int32.lt_iff_toInt_lt] at h1 h2
  have e1 : (-1 : Int32).toInt = -1 := by decide
  have e0 : (0 : Int32).toInt = 0 := by decide
  omega
def R_sheet (l n : Int32) : Int32 := if laI l ∧ n ≤ 60 then (if 0 ≤ n then 1 else -14) else -2
def S_sheet (σ : St) (j : Nat) (l n : Int32) : St := if laI l ∧ n ≤ 60 then (if 0 ≤ n then grC σ j l n else faC σ 4) else σ
def R_lose (σ : St) (j : Nat) : Int32 := b2i (¬ σ (1 + j) 1 0 = -1)
def R_put (σ : St) (j : Nat) (i : Int32) : Int32 := if σ (1 + j) 1 0 = -1 then -11 else if hcI (σ (1 + j) 1 0) i 1 then 1 else -13
def S_put (σ : St) (j : Nat) (i v : Int32) : St := if σ (1 + j) 1 0 = -1 then faC σ 1 else if hcI (σ (1 + j) 1 0) i 1 then up σ (1 + j) 0 i.toNatClampNeg (cuI (σ (1 + j) 2 0) v) else faC σ 3
def R_cell (σ : St) (j : Nat) (i l : Int32) : Int64 := if laI l then (if ¬ σ (1 + j) 1 0 = -1 ∧ ¬ σ (1 + j) 2 0 = l then -9223372036854775808 else if σ (1 + j) 1 0 = -1 then -9223372036854775808 else if hcI (σ (1 + j) 1 0) i 1 then (σ (1 + j) 0 i.toNatClampNeg).toInt64 else -9223372036854775808) else -9223372036854775808
def S_cell (σ : St) (j : Nat) (i l : Int32) : St := if laI l then (if ¬ σ (1 + j) 1 0 = -1 ∧ ¬ σ (1 + j) 2 0 = l then faC σ 2 else if σ (1 + j) 1 0 = -1 then faC σ 1 else if hcI (σ (1 + j) 1 0) i 1 then σ else faC σ 3) else σ
def R_copy (σ : St) (j j' : Nat) (i i' n : Int32) : Int32 := if σ (1 + j) 1 0 = -1 ∨ σ (1 + j') 1 0 = -1 then -11 else if σ (1 + j) 2 0 = σ (1 + j') 2 0 then (if hcI (σ (1 + j) 1 0) i n ∧ hcI (σ (1 + j') 1 0) i' n then n else -13) else -12
def S_copy (σ : St) (j j' : Nat) (i i' n : Int32) : St := if σ (1 + j) 1 0 = -1 ∨ σ (1 + j') 1 0 = -1 then faC σ 1 else if σ (1 + j) 2 0 = σ (1 + j') 2 0 then (if hcI (σ (1 + j) 1 0) i n ∧ hcI (σ (1 + j') 1 0) i' n then upF σ (1 + j') 0 (va_cpy (σ (1 + j) 0) (σ (1 + j') 0) i.toNatClampNeg i'.toNatClampNeg n.toNatClampNeg) else faC σ 3) else faC σ 2
abbrev soA (σ : St) (C : Nat) (m kd tk dw : Int32) : Prop := ∀ r, r < C → waC σ m kd tk dw r = σ 9 2 r
def dwC (σ : St) (C m : Nat) : Nat → Int32
  | 0 => 0
  | k + 1 => if soA σ C (nI m) (σ 5 3 m) (σ 5 5 m) (nI k) then dwC σ C m k ||| oneI k else dwC σ C m k
def kdC (σ : St) (C m : Nat) : Nat → Int32
  | 0 => 0
  | k + 1 => if soA σ C (nI m) (nI k) (σ 5 5 m) (σ 5 6 m) then kdC σ C m k ||| oneI k else kdC σ C m k
def tkC (σ : St) (C m : Nat) : Nat → Int32
  | 0 => 0
  | k + 1 => if soA σ C (nI m) (σ 5 3 m) (nI k) (σ 5 6 m) then tkC σ C m k ||| oneI k else tkC σ C m k
def R_dews (σ : St) (C : Nat) (m : Int32) : Int32 := if isP (σ 5 10 0) m then dwC σ C m.toNatClampNeg 10 else -1
def R_kinds (σ : St) (C : Nat) (m : Int32) : Int32 := if isP (σ 5 10 0) m then kdC σ C m.toNatClampNeg 3 else -1
def R_takens (σ : St) (C : Nat) (m : Int32) : Int32 := if isP (σ 5 10 0) m then tkC σ C m.toNatClampNeg 10 else -1
theorem G9 {k : Nat} (h : k < 10) : ¬ (9 : Int32) < nI k := by
  rw [show (9 : Int32) = nI 9 by decide, nI_ltI (by decide) (by omega)]; omega
theorem G2 {k : Nat} (h : k < 3) : ¬ (2 : Int32) < nI k := by
  rw [show (2 : Int32) = nI 2 by decide, nI_ltI (by decide) (by omega)]; omega
theorem G9e : (9 : Int32) < nI 10 := by decide
theorem G2e : (2 : Int32) < nI 3 := by decide
section
variable {D : va_G} {tc : Tc} {A : Nat → Nat} {σ : St} {M P C j j' : Nat}
set_option maxRecDepth 100000 in
set_option maxHeartbeats 4000000 in
theorem ok_tell (hM : σ 5 10 0 = nI M) (h6 : M ≤ 6) (m : Int32) : Ok 4 yX5_tell cX5_tell 2 (some .int) D tc [.ref (A 0), .int m] (cW A tc σ) (some (.int (R_tell σ m))) (cW A tc (S_tell σ m)) := by
  refine Ok_of RX5 rfl (by decide) [some (.ref (A 0)), some (.int m)] rfl (Nat.le_of_ble_eq_true rfl) ?_
  intro X hX
  refine V_ald0 dX5_tell_0 ?_
  refine V_get lf_X5_20 dX5_tell_1 cW_main rfl ?_
  refine V_ild1 dX5_tell_4 ?_
  refine V_callV lm_X5_93 (ok_isMorning now5 _) dX5_tell_5 (cW_mkt now5) rfl (dep hX (by decide)) rfl (Nat.le_of_ble_eq_true rfl) ?_
  refine V_if_ne 13 dX5_tell_8 (by decide) (fun c8 => ?_) (fun c8 => ?_)
  · try rw [b2i_ne] at c8
    try rw [Decidable.not_not] at c8
    obtain ⟨k, hk, ek⟩ := isP_of hM (by omega) c8
    subst ek
    have hck : (nI k).toNatClampNeg = k := nI_clamp (by omega)
    refine V_ald0 dX5_tell_13 ?_
    refine V_get lf_X5_20 dX5_tell_14 cW_main rfl ?_
    refine V_get lf_X5_96 dX5_tell_17 (cW_mkt now5) rfl ?_
    refine V_ild1 dX5_tell_20 ?_
    refine V_ialdk dX5_tell_21 (cW_ma3 now5) ⟨by omega, by decide⟩ ?_
    by_cases e1 : σ 5 3 k = 1
    · refine V_lookup (off := 26) 48 dX5_tell_22 (by decide) (by rw [e1]; decide) (by decide) ?_
      refine V_ald0 dX5_tell_48 ?_
      refine V_ild1 dX5_tell_49 ?_
      refine V_callV lm_X5_240 (ok_toldByFrost k (by omega)) dX5_tell_50 cW_main rfl (dep hX (by decide)) rfl (Nat.le_of_ble_eq_true rfl) ?_
      exact V_iret hX dX5_tell_53 rfl (by (try first | replace c8 := eq_false c8 | replace c8 := eq_true c8); simp only [R_tell, hck, e1, c8, not_true_eq_false, not_false_eq_true, and_self, true_and, and_true, false_and, and_false, true_or, or_true, false_or, or_false, or_self, ↓reduceIte]) (congrArg (cW A tc) (by (try first | replace c8 := eq_false c8 | replace c8 := eq_true c8); simp only [S_tell, hck, e1, c8, not_true_eq_false, not_false_eq_true, and_self, true_and, and_true, false_and, and_false, true_or, or_true, false_or, or_false, or_self, ↓reduceIte]))
    by_cases e2 : σ 5 3 k = 2
    · refine V_lookup (off := 32) 54 dX5_tell_22 (by decide) (by rw [e2]; decide) (by decide) ?_
      refine V_ald0 dX5_tell_54 ?_
      refine V_ild1 dX5_tell_55 ?_
      refine V_callV lm_X5_243 (ok_toldByPainted k (by omega)) dX5_tell_56 cW_main rfl (dep hX (by decide)) rfl (Nat.le_of_ble_eq_true rfl) ?_
      exact V_iret hX dX5_tell_59 rfl (by (try first | replace c8 := eq_false c8 | replace c8 := eq_true c8); simp only [R_tell, hck, e2, c8, not_true_eq_false, not_false_eq_true, and_self, true_and, and_true, false_and, and_false, true_or, or_true, false_or, or_false, or_self, ↓reduceIte]; rw [if_neg (by decide)]) (congrArg (cW A tc) (by (try first | replace c8 := eq_false c8 | replace c8 := eq_true c8); simp only [S_tell, hck, e2, c8, not_true_eq_false, not_false_eq_true, and_self, true_and, and_true, false_and, and_false, true_or, or_true, false_or, or_false, or_self, ↓reduceIte]; rw [if_neg (by decide)]))
    refine V_lookup (off := 38) 60 dX5_tell_22 (by decide) (by show Op.lookupswitch.offset [(1, 26), (2, 32)] 38 _ = 38; rw [lv_osw e1 (by decide), lv_osw e2 (by decide)]; rfl) (by decide) ?_
    refine V_ald0 dX5_tell_60 ?_
    refine V_ild1 dX5_tell_61 ?_
    refine V_callV lm_X5_246 (ok_toldByClear k (by omega)) dX5_tell_62 cW_main rfl (dep hX (by decide)) rfl (Nat.le_of_ble_eq_true rfl) ?_
    exact V_iret hX dX5_tell_65 rfl (by (try first | replace c8 := eq_false c8 | replace c8 := eq_true c8); simp only [R_tell, hck, e1, e2, c8, not_true_eq_false, not_false_eq_true, and_self, true_and, and_true, false_and, and_false, true_or, or_true, false_or, or_false, or_self, ↓reduceIte]) (congrArg (cW A tc) (by (try first | replace c8 := eq_false c8 | replace c8 := eq_true c8); simp only [S_tell, hck, e1, e2, c8, not_true_eq_false, not_false_eq_true, and_self, true_and, and_true, false_and, and_false, true_or, or_true, false_or, or_false, or_self, ↓reduceIte]))
  · try rw [b2i_eq] at c8
    try rw [Decidable.not_not] at c8
    refine V_iconst (-1) dX5_tell_11 (by decide) ?_
    exact V_iret hX dX5_tell_12 rfl (by (try first | replace c8 := eq_false c8 | replace c8 := eq_true c8); simp only [R_tell, c8, not_true_eq_false, not_false_eq_true, and_self, true_and, and_true, false_and, and_false, true_or, or_true, false_or, or_false, or_self, ↓reduceIte]) (congrArg (cW A tc) (by (try first | replace c8 := eq_false c8 | replace c8 := eq_true c8); simp only [S_tell, c8, not_true_eq_false, not_false_eq_true, and_self, true_and, and_true, false_and, and_false, true_or, or_true, false_or, or_false, or_self, ↓reduceIte]))
set_option maxRecDepth 100000 in
set_option maxHeartbeats 4000000 in
theorem ok_sheet (hj : j < 4) (l n : Int32) : Ok 2 yX5_sheet cX5_sheet 5 (some .int) D tc [.ref (A 0), .int (nI j), .int l, .int n] (cW A tc σ) (some (.int (R_sheet l n))) (cW A tc (S_sheet (faC σ 0) j l n)) := by
  refine Ok_of RX5 rfl (by decide) [some (.ref (A 0)), some (.int (nI j)), some (.int l), some (.int n), none] rfl (Nat.le_of_ble_eq_true rfl) ?_
  intro X hX
  refine V_ald0 dX5_sheet_0 ?_
  refine V_iconst 0 dX5_sheet_1 (by decide) ?_
  refine V_puti lp_X5_52 dX5_sheet_2 cW_main (Nat.le_of_ble_eq_true rfl) (cW_mainp7 _) ?_
  change V _ _ _ _ _ _ _ _ _ (cW A tc (faC σ 0))
  generalize faC σ 0 = σ at hX  ⊢
  refine V_ald0 dX5_sheet_5 ?_
  refine V_ild1 dX5_sheet_6 ?_
  refine V_callV lm_X5_56 (ok_sheetAt hj) dX5_sheet_7 cW_main rfl (dep hX (by decide)) rfl (Nat.le_of_ble_eq_true rfl) ?_
  refine V_ast4 dX5_sheet_10 rfl (by decide) ?_
  refine V_ald4 dX5_sheet_12 ?_
  refine V_ifnonnull 19 dX5_sheet_14 (by decide) ?_
  refine V_ild2 dX5_sheet_19 ?_
  refine V_callS ls_X5_60 (ok_isLane _) dX5_sheet_20 (dep hX (by decide)) rfl (Nat.le_of_ble_eq_true rfl) ?_
  refine V_if_eq 32 dX5_sheet_23 (by decide) (fun c23 => ?_) (fun c23 => ?_)
  · try rw [b2i_eq] at c23
    try rw [Decidable.not_not] at c23
    refine V_bipush (-2) dX5_sheet_32 (by decide) ?_
    exact V_iret hX dX5_sheet_34 rfl (by (try first | replace c23 := eq_false c23 | replace c23 := eq_true c23); simp only [R_sheet, c23, not_true_eq_false, not_false_eq_true, and_self, true_and, and_true, false_and, and_false, true_or, or_true, false_or, or_false, or_self, ↓reduceIte]; try decide) (congrArg (cW A tc) (by (try first | replace c23 := eq_false c23 | replace c23 := eq_true c23); simp only [S_sheet, c23, not_true_eq_false, not_false_eq_true, and_self, true_and, and_true, false_and, and_false, true_or, or_true, false_or, or_false, or_self, ↓reduceIte]))
  · try rw [b2i_ne] at c23
    try rw [Decidable.not_not] at c23
    refine V_ild3 dX5_sheet_26 ?_
    refine V_bipush 60 dX5_sheet_27 (by decide) ?_
    refine V_icmp_le 35 dX5_sheet_29 (by decide) (fun c29 => ?_) (fun c29 => ?_)
    · refine V_ild3 dX5_sheet_35 ?_
      refine V_if_ge 45 dX5_sheet_36 (by decide) (fun c36 => ?_) (fun c36 => ?_)
      · refine V_ald4 dX5_sheet_45 ?_
        refine V_ild2 dX5_sheet_47 ?_
        refine V_ild3 dX5_sheet_48 ?_
        refine V_callVv lm_X5_214 (ok_getRow hj _ _) dX5_sheet_49 (cW_sh hj) rfl (dep hX (by decide)) rfl (Nat.le_of_ble_eq_true rfl) ?_
        refine V_iconst 1 dX5_sheet_52 (by decide) ?_
        exact V_iret hX dX5_sheet_53 rfl (by (try first | replace c23 := eq_false c23 | replace c23 := eq_true c23); (try first | replace c29 := eq_false c29 | replace c29 := eq_true c29); (try first | replace c36 := eq_false c36 | replace c36 := eq_true c36); simp only [R_sheet, c23, c29, c36, not_true_eq_false, not_false_eq_true, and_self, true_and, and_true, false_and, and_false, true_or, or_true, false_or, or_false, or_self, ↓reduceIte]; try decide) (congrArg (cW A tc) (by (try first | replace c23 := eq_false c23 | replace c23 := eq_true c23); (try first | replace c29 := eq_false c29 | replace c29 := eq_true c29); (try first | replace c36 := eq_false c36 | replace c36 := eq_true c36); simp only [S_sheet, c23, c29, c36, not_true_eq_false, not_false_eq_true, and_self, true_and, and_true, false_and, and_false, true_or, or_true, false_or, or_false, or_self, ↓reduceIte]))
      · refine V_ald0 dX5_sheet_39 ?_
        refine V_iconst 4 dX5_sheet_40 (by decide) ?_
        refine V_callV lm_X5_67 (ok_faulted 4) dX5_sheet_41 cW_main rfl (dep hX (by decide)) rfl (Nat.le_of_ble_eq_true rfl) ?_
        exact V_iret hX dX5_sheet_44 rfl (by (try first | replace c23 := eq_false c23 | replace c23 := eq_true c23); (try first | replace c29 := eq_false c29 | replace c29 := eq_true c29); (try first | replace c36 := eq_false c36 | replace c36 := eq_true c36); simp only [R_sheet, c23, c29, c36, not_true_eq_false, not_false_eq_true, and_self, true_and, and_true, false_and, and_false, true_or, or_true, false_or, or_false, or_self, ↓reduceIte]; try decide) (congrArg (cW A tc) (by (try first | replace c23 := eq_false c23 | replace c23 := eq_true c23); (try first | replace c29 := eq_false c29 | replace c29 := eq_true c29); (try first | replace c36 := eq_false c36 | replace c36 := eq_true c36); simp only [S_sheet, c23, c29, c36, not_true_eq_false, not_false_eq_true, and_self, true_and, and_true, false_and, and_false, true_or, or_true, false_or, or_false, or_self, ↓reduceIte]))
    · refine V_bipush (-2) dX5_sheet_32 (by decide) ?_
      exact V_iret hX dX5_sheet_34 rfl (by (try first | replace c23 := eq_false c23 | replace c23 := eq_true c23); (try first | replace c29 := eq_false c29 | replace c29 := eq_true c29); simp only [R_sheet, c23, c29, not_true_eq_false, not_false_eq_true, and_self, true_and, and_true, false_and, and_false, true_or, or_true, false_or, or_false, or_self, ↓reduceIte]; try decide) (congrArg (cW A tc) (by (try first | replace c23 := eq_false c23 | replace c23 := eq_true c23); (try first | replace c29 := eq_false c29 | replace c29 := eq_true c29); simp only [S_sheet, c23, c29, not_true_eq_false, not_false_eq_true, and_self, true_and, and_true, false_and, and_false, true_or, or_true, false_or, or_false, or_self, ↓reduceIte]))
set_option maxRecDepth 100000 in
set_option maxHeartbeats 4000000 in
theorem ok_sheetN (k : Int32) (hk : ¬ isS k) (l n : Int32) : Ok 1 yX5_sheet cX5_sheet 5 (some .int) D tc [.ref (A 0), .int k, .int l, .int n] (cW A tc σ) (some (.int (-1))) (cW A tc (faC σ 0)) := by
  refine Ok_of RX5 rfl (by decide) [some (.ref (A 0)), some (.int k), some (.int l), some (.int n), none] rfl (Nat.le_of_ble_eq_true rfl) ?_
  intro X hX
  refine V_ald0 dX5_sheet_0 ?_
  refine V_iconst 0 dX5_sheet_1 (by decide) ?_
  refine V_puti lp_X5_52 dX5_sheet_2 cW_main (Nat.le_of_ble_eq_true rfl) (cW_mainp7 _) ?_
  refine V_ald0 dX5_sheet_5 ?_
  refine V_ild1 dX5_sheet_6 ?_
  refine V_callV lm_X5_56 (ok_sheetAtN _ hk) dX5_sheet_7 cW_main rfl (dep hX (by decide)) rfl (Nat.le_of_ble_eq_true rfl) ?_
  refine V_astN4 dX5_sheet_10 rfl (by decide) ?_
  refine V_aldN4 dX5_sheet_12 ?_
  refine V_ifnonnullN dX5_sheet_14 ?_
  refine V_iconst (-1) dX5_sheet_17 (by decide) ?_
  exact V_iret hX dX5_sheet_18 rfl rfl rfl
set_option maxRecDepth 100000 in
set_option maxHeartbeats 4000000 in
theorem ok_putN (k : Int32) (hk : ¬ isS k) (i v : Int32) : Ok 1 yX5_put cX5_put 5 (some .int) D tc [.ref (A 0), .int k, .int i, .int v] (cW A tc σ) (some (.int (-1))) (cW A tc (faC σ 0)) := by
  refine Ok_of RX5 rfl (by decide) [some (.ref (A 0)), some (.int k), some (.int i), some (.int v), none] rfl (Nat.le_of_ble_eq_true rfl) ?_
  intro X hX
  refine V_ald0 dX5_put_0 ?_
  refine V_iconst 0 dX5_put_1 (by decide) ?_
  refine V_puti lp_X5_52 dX5_put_2 cW_main (Nat.le_of_ble_eq_true rfl) (cW_mainp7 _) ?_
  refine V_ald0 dX5_put_5 ?_
  refine V_ild1 dX5_put_6 ?_
  refine V_callV lm_X5_56 (ok_sheetAtN _ hk) dX5_put_7 cW_main rfl (dep hX (by decide)) rfl (Nat.le_of_ble_eq_true rfl) ?_
  refine V_astN4 dX5_put_10 rfl (by decide) ?_
  refine V_aldN4 dX5_put_12 ?_
  refine V_ifnonnullN dX5_put_14 ?_
  refine V_iconst (-1) dX5_put_17 (by decide) ?_
  exact V_iret hX dX5_put_18 rfl rfl rfl
set_option maxRecDepth 100000 in
set_option maxHeartbeats 4000000 in
theorem ok_cellN (k : Int32) (hk : ¬ isS k) (i l : Int32) : Ok 1 yX5_cell cX5_cell 5 (some .long) D tc [.ref (A 0), .int k, .int i, .int l] (cW A tc σ) (some (.long (-9223372036854775808))) (cW A tc (faC σ 0)) := by
  refine Ok_of RX5 rfl (by decide) [some (.ref (A 0)), some (.int k), some (.int i), some (.int l), none] rfl (Nat.le_of_ble_eq_true rfl) ?_
  intro X hX
  refine V_ald0 dX5_cell_0 ?_
  refine V_iconst 0 dX5_cell_1 (by decide) ?_
  refine V_puti lp_X5_52 dX5_cell_2 cW_main (Nat.le_of_ble_eq_true rfl) (cW_mainp7 _) ?_
  refine V_ald0 dX5_cell_5 ?_
  refine V_ild1 dX5_cell_6 ?_
  refine V_callV lm_X5_56 (ok_sheetAtN _ hk) dX5_cell_7 cW_main rfl (dep hX (by decide)) rfl (Nat.le_of_ble_eq_true rfl) ?_
  refine V_astN4 dX5_cell_10 rfl (by decide) ?_
  refine V_aldN4 dX5_cell_12 ?_
  refine V_ifnullN 24 dX5_cell_14 (by decide) ?_
  refine V_ldc2 _ wC_X5_209 dX5_cell_24 ?_
  exact V_lret hX dX5_cell_27 rfl rfl rfl
set_option maxRecDepth 100000 in
set_option maxHeartbeats 4000000 in
theorem ok_loseN (k : Int32) (hk : ¬ isS k) : Ok 1 yX5_lose cX5_lose 4 (some .int) D tc [.ref (A 0), .int k] (cW A tc σ) (some (.int (-1))) (cW A tc σ) := by
  refine Ok_of RX5 rfl (by decide) [some (.ref (A 0)), some (.int k), none, none] rfl (Nat.le_of_ble_eq_true rfl) ?_
  intro X hX
  refine V_ald0 dX5_lose_0 ?_
  refine V_ild1 dX5_lose_1 ?_
  refine V_callV lm_X5_56 (ok_sheetAtN _ hk) dX5_lose_2 cW_main rfl (dep hX (by decide)) rfl (Nat.le_of_ble_eq_true rfl) ?_
  refine V_astN2 dX5_lose_5 rfl (by decide) ?_
  refine V_aldN2 dX5_lose_6 ?_
  refine V_ifnonnullN dX5_lose_7 ?_
  refine V_iconst (-1) dX5_lose_10 (by decide) ?_
  exact V_iret hX dX5_lose_11 rfl rfl rfl
set_option maxRecDepth 100000 in
set_option maxHeartbeats 4000000 in
theorem ok_lose (hj : j < 4) : Ok 1 yX5_lose cX5_lose 4 (some .int) D tc [.ref (A 0), .int (nI j)] (cW A tc σ) (some (.int (R_lose σ j))) (cW A tc (up σ (1 + j) 1 0 (-1))) := by
  refine Ok_of RX5 rfl (by decide) [some (.ref (A 0)), some (.int (nI j)), none, none] rfl (Nat.le_of_ble_eq_true rfl) ?_
  intro X hX
  refine V_ald0 dX5_lose_0 ?_
  refine V_ild1 dX5_lose_1 ?_
  refine V_callV lm_X5_56 (ok_sheetAt hj) dX5_lose_2 cW_main rfl (dep hX (by decide)) rfl (Nat.le_of_ble_eq_true rfl) ?_
  refine V_ast2 dX5_lose_5 rfl (by decide) ?_
  refine V_ald2 dX5_lose_6 ?_
  refine V_ifnonnull 12 dX5_lose_7 (by decide) ?_
  refine V_ald2 dX5_lose_12 ?_
  refine V_callV lm_X5_71 (ok_hasRow hj) dX5_lose_13 (cW_sh hj) rfl (dep hX (by decide)) rfl (Nat.le_of_ble_eq_true rfl) ?_
  refine V_if_eq 23 dX5_lose_16 (by decide) (fun c16 => ?_) (fun c16 => ?_)
  · try rw [b2i_eq] at c16
    try rw [Decidable.not_not] at c16
    refine V_iconst 0 dX5_lose_23 (by decide) ?_
    refine V_ist3 dX5_lose_24 rfl (by decide) ?_
    refine V_ald2 dX5_lose_25 ?_
    refine V_iconst (-1) dX5_lose_26 (by decide) ?_
    refine V_puti lp_X5_218 dX5_lose_27 (cW_sh hj) (Nat.le_of_ble_eq_true rfl) (cW_shp1 hj _) ?_
    refine V_ild3 dX5_lose_30 ?_
    exact V_iret hX dX5_lose_31 rfl (by (try first | replace c16 := eq_false c16 | replace c16 := eq_true c16); simp only [R_lose, b2i, c16, not_true_eq_false, not_false_eq_true, and_self, true_and, and_true, false_and, and_false, true_or, or_true, false_or, or_false, or_self, ↓reduceIte]) rfl
  · try rw [b2i_ne] at c16
    try rw [Decidable.not_not] at c16
    refine V_iconst 1 dX5_lose_19 (by decide) ?_
    refine V_goto 24 dX5_lose_20 (by decide) ?_
    refine V_ist3 dX5_lose_24 rfl (by decide) ?_
    refine V_ald2 dX5_lose_25 ?_
    refine V_iconst (-1) dX5_lose_26 (by decide) ?_
    refine V_puti lp_X5_218 dX5_lose_27 (cW_sh hj) (Nat.le_of_ble_eq_true rfl) (cW_shp1 hj _) ?_
    refine V_ild3 dX5_lose_30 ?_
    exact V_iret hX dX5_lose_31 rfl (by (try first | replace c16 := eq_false c16 | replace c16 := eq_true c16); simp only [R_lose, b2i, c16, not_true_eq_false, not_false_eq_true, and_self, true_and, and_true, false_and, and_false, true_or, or_true, false_or, or_false, or_self, ↓reduceIte]) rfl
set_option maxRecDepth 100000 in
set_option maxHeartbeats 4000000 in
theorem ok_put (hj : j < 4) (hl : lenOk (σ (1 + j) 1 0)) (i v : Int32) : Ok 1 yX5_put cX5_put 5 (some .int) D tc [.ref (A 0), .int (nI j), .int i, .int v] (cW A tc σ) (some (.int (R_put (faC σ 0) j i))) (cW A tc (S_put (faC σ 0) j i v)) := by
  refine Ok_of RX5 rfl (by decide) [some (.ref (A 0)), some (.int (nI j)), some (.int i), some (.int v), none] rfl (Nat.le_of_ble_eq_true rfl) ?_
  intro X hX
  refine V_ald0 dX5_put_0 ?_
  refine V_iconst 0 dX5_put_1 (by decide) ?_
  refine V_puti lp_X5_52 dX5_put_2 cW_main (Nat.le_of_ble_eq_true rfl) (cW_mainp7 _) ?_
  have hl := (show lenOk ((faC σ 0) (1 + j) 1 0) from by rw [faC_sh]; exact hl)
  change V _ _ _ _ _ _ _ _ _ (cW A tc (faC σ 0))
  generalize faC σ 0 = σ at hX hl ⊢
  refine V_ald0 dX5_put_5 ?_
  refine V_ild1 dX5_put_6 ?_
  refine V_callV lm_X5_56 (ok_sheetAt hj) dX5_put_7 cW_main rfl (dep hX (by decide)) rfl (Nat.le_of_ble_eq_true rfl) ?_
  refine V_ast4 dX5_put_10 rfl (by decide) ?_
  refine V_ald4 dX5_put_12 ?_
  refine V_ifnonnull 19 dX5_put_14 (by decide) ?_
  refine V_ald4 dX5_put_19 ?_
  refine V_callV lm_X5_71 (ok_hasRow hj) dX5_put_21 (cW_sh hj) rfl (dep hX (by decide)) rfl (Nat.le_of_ble_eq_true rfl) ?_
  refine V_if_ne 33 dX5_put_24 (by decide) (fun c24 => ?_) (fun c24 => ?_)
  · try rw [b2i_ne] at c24
    try rw [Decidable.not_not] at c24
    refine V_ald4 dX5_put_33 ?_
    refine V_ild2 dX5_put_35 ?_
    refine V_iconst 1 dX5_put_36 (by decide) ?_
    refine V_callV lm_X5_75 (ok_hasCells hj _ _) dX5_put_37 (cW_sh hj) rfl (dep hX (by decide)) rfl (Nat.le_of_ble_eq_true rfl) ?_
    refine V_if_ne 49 dX5_put_40 (by decide) (fun c40 => ?_) (fun c40 => ?_)
    · try rw [b2i_ne] at c40
      try rw [Decidable.not_not] at c40
      obtain ⟨a, e, n, ea, ee, hae, hn6, hxn⟩ := hc_in hl c24 c40
      have hca : i.toNatClampNeg = a := by rw [ea]; exact nI_clamp (by omega)
      have he1 : e = 1 := (nI_eq (by omega) (by decide)).mp (ee.symm.trans (by decide))
      refine V_ald4 dX5_put_49 ?_
      refine V_get lf_X5_221 dX5_put_51 (cW_sh hj) rfl ?_
      refine V_ild2 dX5_put_54 ?_
      refine V_ald4 dX5_put_55 ?_
      refine V_ild3 dX5_put_57 ?_
      refine V_callV lm_X5_224 (ok_cutToLane hj _) dX5_put_58 (cW_sh hj) rfl (dep hX (by decide)) rfl (Nat.le_of_ble_eq_true rfl) ?_
      refine V_iastk0 ea ?_
      refine V_iastk dX5_put_61 (cW_sha hj) ⟨by omega, by decide⟩ (cW_shas hj _ _) ?_
      refine V_iconst 1 dX5_put_62 (by decide) ?_
      exact V_iret hX dX5_put_63 rfl (by (try first | replace c24 := eq_false c24 | replace c24 := eq_true c24); (try first | replace c40 := eq_false c40 | replace c40 := eq_true c40); simp only [R_put, c24, c40, not_true_eq_false, not_false_eq_true, and_self, true_and, and_true, false_and, and_false, true_or, or_true, false_or, or_false, or_self, ↓reduceIte]) (congrArg (cW A tc) (by (try first | replace c24 := eq_false c24 | replace c24 := eq_true c24); (try first | replace c40 := eq_false c40 | replace c40 := eq_true c40); simp only [S_put, hca, c24, c40, not_true_eq_false, not_false_eq_true, and_self, true_and, and_true, false_and, and_false, true_or, or_true, false_or, or_false, or_self, ↓reduceIte]))
    · try rw [b2i_eq] at c40
      try rw [Decidable.not_not] at c40
      refine V_ald0 dX5_put_43 ?_
      refine V_iconst 3 dX5_put_44 (by decide) ?_
      refine V_callV lm_X5_67 (ok_faulted 3) dX5_put_45 cW_main rfl (dep hX (by decide)) rfl (Nat.le_of_ble_eq_true rfl) ?_
      exact V_iret hX dX5_put_48 rfl (by (try first | replace c24 := eq_false c24 | replace c24 := eq_true c24); (try first | replace c40 := eq_false c40 | replace c40 := eq_true c40); simp only [R_put, c24, c40, not_true_eq_false, not_false_eq_true, and_self, true_and, and_true, false_and, and_false, true_or, or_true, false_or, or_false, or_self, ↓reduceIte]; try decide) (congrArg (cW A tc) (by (try first | replace c24 := eq_false c24 | replace c24 := eq_true c24); (try first | replace c40 := eq_false c40 | replace c40 := eq_true c40); simp only [S_put, c24, c40, not_true_eq_false, not_false_eq_true, and_self, true_and, and_true, false_and, and_false, true_or, or_true, false_or, or_false, or_self, ↓reduceIte]))
  · try rw [b2i_eq] at c24
    try rw [Decidable.not_not] at c24
    refine V_ald0 dX5_put_27 ?_
    refine V_iconst 1 dX5_put_28 (by decide) ?_
    refine V_callV lm_X5_67 (ok_faulted 1) dX5_put_29 cW_main rfl (dep hX (by decide)) rfl (Nat.le_of_ble_eq_true rfl) ?_
    exact V_iret hX dX5_put_32 rfl (by (try first | replace c24 := eq_false c24 | replace c24 := eq_true c24); simp only [R_put, c24, not_true_eq_false, not_false_eq_true, and_self, true_and, and_true, false_and, and_false, true_or, or_true, false_or, or_false, or_self, ↓reduceIte]; try decide) (congrArg (cW A tc) (by (try first | replace c24 := eq_false c24 | replace c24 := eq_true c24); simp only [S_put, c24, not_true_eq_false, not_false_eq_true, and_self, true_and, and_true, false_and, and_false, true_or, or_true, false_or, or_false, or_self, ↓reduceIte]))
set_option maxRecDepth 100000 in
set_option maxHeartbeats 4000000 in
theorem ok_cell (hj : j < 4) (hl : lenOk (σ (1 + j) 1 0)) (i l : Int32) : Ok 2 yX5_cell cX5_cell 5 (some .long) D tc [.ref (A 0), .int (nI j), .int i, .int l] (cW A tc σ) (some (.long (R_cell (faC σ 0) j i l))) (cW A tc (S_cell (faC σ 0) j i l)) := by
  refine Ok_of RX5 rfl (by decide) [some (.ref (A 0)), some (.int (nI j)), some (.int i), some (.int l), none] rfl (Nat.le_of_ble_eq_true rfl) ?_
  intro X hX
  refine V_ald0 dX5_cell_0 ?_
  refine V_iconst 0 dX5_cell_1 (by decide) ?_
  refine V_puti lp_X5_52 dX5_cell_2 cW_main (Nat.le_of_ble_eq_true rfl) (cW_mainp7 _) ?_
  have hl := (show lenOk ((faC σ 0) (1 + j) 1 0) from by rw [faC_sh]; exact hl)
  change V _ _ _ _ _ _ _ _ _ (cW A tc (faC σ 0))
  generalize faC σ 0 = σ at hX hl ⊢
  refine V_ald0 dX5_cell_5 ?_
  refine V_ild1 dX5_cell_6 ?_
  refine V_callV lm_X5_56 (ok_sheetAt hj) dX5_cell_7 cW_main rfl (dep hX (by decide)) rfl (Nat.le_of_ble_eq_true rfl) ?_
  refine V_ast4 dX5_cell_10 rfl (by decide) ?_
  refine V_ald4 dX5_cell_12 ?_
  refine V_ifnull dX5_cell_14 ?_
  refine V_ild3 dX5_cell_17 ?_
  refine V_callS ls_X5_60 (ok_isLane _) dX5_cell_18 (dep hX (by decide)) rfl (Nat.le_of_ble_eq_true rfl) ?_
  refine V_if_ne 28 dX5_cell_21 (by decide) (fun c21 => ?_) (fun c21 => ?_)
  · try rw [b2i_ne] at c21
    try rw [Decidable.not_not] at c21
    refine V_ald4 dX5_cell_28 ?_
    refine V_ild3 dX5_cell_30 ?_
    refine V_callV lm_X5_64 (ok_isOfAnotherLane hj _) dX5_cell_31 (cW_sh hj) rfl (dep hX (by decide)) rfl (Nat.le_of_ble_eq_true rfl) ?_
    refine V_if_eq 43 dX5_cell_34 (by decide) (fun c34 => ?_) (fun c34 => ?_)
    · try rw [b2i_eq] at c34
      try rw [Decidable.not_not] at c34
      refine V_ald4 dX5_cell_43 ?_
      refine V_callV lm_X5_71 (ok_hasRow hj) dX5_cell_45 (cW_sh hj) rfl (dep hX (by decide)) rfl (Nat.le_of_ble_eq_true rfl) ?_
      refine V_if_ne 57 dX5_cell_48 (by decide) (fun c48 => ?_) (fun c48 => ?_)
      · try rw [b2i_ne] at c48
        try rw [Decidable.not_not] at c48
        refine V_ald4 dX5_cell_57 ?_
        refine V_ild2 dX5_cell_59 ?_
        refine V_iconst 1 dX5_cell_60 (by decide) ?_
        refine V_callV lm_X5_75 (ok_hasCells hj _ _) dX5_cell_61 (cW_sh hj) rfl (dep hX (by decide)) rfl (Nat.le_of_ble_eq_true rfl) ?_
        refine V_if_ne 73 dX5_cell_64 (by decide) (fun c64 => ?_) (fun c64 => ?_)
        · try rw [b2i_ne] at c64
          try rw [Decidable.not_not] at c64
          obtain ⟨a, e, n, ea, ee, hae, hn6, hxn⟩ := hc_in hl c48 c64
          have hca : i.toNatClampNeg = a := by rw [ea]; exact nI_clamp (by omega)
          have he1 : e = 1 := (nI_eq (by omega) (by decide)).mp (ee.symm.trans (by decide))
          refine V_ald4 dX5_cell_73 ?_
          refine V_get lf_X5_221 dX5_cell_75 (cW_sh hj) rfl ?_
          refine V_ild2 dX5_cell_78 ?_
          refine V_top (y := nI a) ea ?_
          refine V_ialdk dX5_cell_79 (cW_sha hj) ⟨by omega, by decide⟩ ?_
          refine V_i2l dX5_cell_80 ?_
          exact V_lret hX dX5_cell_81 rfl (by rw [R_cell, if_pos c21, if_neg c34, if_neg c48, if_pos c64, hca]) (by rw [S_cell, if_pos c21, if_neg c34, if_neg c48, if_pos c64])
        · try rw [b2i_eq] at c64
          try rw [Decidable.not_not] at c64
          refine V_ald0 dX5_cell_67 ?_
          refine V_iconst 3 dX5_cell_68 (by decide) ?_
          refine V_callV lm_X5_227 (ok_lostBy 3) dX5_cell_69 cW_main rfl (dep hX (by decide)) rfl (Nat.le_of_ble_eq_true rfl) ?_
          exact V_lret hX dX5_cell_72 rfl (by rw [R_cell, if_pos c21, if_neg c34, if_neg c48, if_neg c64]) (by rw [S_cell, if_pos c21, if_neg c34, if_neg c48, if_neg c64])
      · try rw [b2i_eq] at c48
        try rw [Decidable.not_not] at c48
        refine V_ald0 dX5_cell_51 ?_
        refine V_iconst 1 dX5_cell_52 (by decide) ?_
        refine V_callV lm_X5_227 (ok_lostBy 1) dX5_cell_53 cW_main rfl (dep hX (by decide)) rfl (Nat.le_of_ble_eq_true rfl) ?_
        exact V_lret hX dX5_cell_56 rfl (by (try first | replace c21 := eq_false c21 | replace c21 := eq_true c21); (try first | replace c34 := eq_false c34 | replace c34 := eq_true c34); (try first | replace c48 := eq_false c48 | replace c48 := eq_true c48); simp only [R_cell, c21, c34, c48, not_true_eq_false, not_false_eq_true, and_self, true_and, and_true, false_and, and_false, true_or, or_true, false_or, or_false, or_self, ↓reduceIte]) (congrArg (cW A tc) (by (try first | replace c21 := eq_false c21 | replace c21 := eq_true c21); (try first | replace c34 := eq_false c34 | replace c34 := eq_true c34); (try first | replace c48 := eq_false c48 | replace c48 := eq_true c48); simp only [S_cell, c21, c34, c48, not_true_eq_false, not_false_eq_true, and_self, true_and, and_true, false_and, and_false, true_or, or_true, false_or, or_false, or_self, ↓reduceIte]))
    · try rw [b2i_ne] at c34
      try rw [Decidable.not_not] at c34
      refine V_ald0 dX5_cell_37 ?_
      refine V_iconst 2 dX5_cell_38 (by decide) ?_
      refine V_callV lm_X5_227 (ok_lostBy 2) dX5_cell_39 cW_main rfl (dep hX (by decide)) rfl (Nat.le_of_ble_eq_true rfl) ?_
      exact V_lret hX dX5_cell_42 rfl (by (try first | replace c21 := eq_false c21 | replace c21 := eq_true c21); (try first | replace c34 := eq_false c34 | replace c34 := eq_true c34); simp only [R_cell, c21, c34, not_true_eq_false, not_false_eq_true, and_self, true_and, and_true, false_and, and_false, true_or, or_true, false_or, or_false, or_self, ↓reduceIte]) (congrArg (cW A tc) (by (try first | replace c21 := eq_false c21 | replace c21 := eq_true c21); (try first | replace c34 := eq_false c34 | replace c34 := eq_true c34); simp only [S_cell, c21, c34, not_true_eq_false, not_false_eq_true, and_self, true_and, and_true, false_and, and_false, true_or, or_true, false_or, or_false, or_self, ↓reduceIte]))
  · try rw [b2i_eq] at c21
    try rw [Decidable.not_not] at c21
    refine V_ldc2 _ wC_X5_209 dX5_cell_24 ?_
    exact V_lret hX dX5_cell_27 rfl (by (try first | replace c21 := eq_false c21 | replace c21 := eq_true c21); simp only [R_cell, c21, not_true_eq_false, not_false_eq_true, and_self, true_and, and_true, false_and, and_false, true_or, or_true, false_or, or_false, or_self, ↓reduceIte]) (congrArg (cW A tc) (by (try first | replace c21 := eq_false c21 | replace c21 := eq_true c21); simp only [S_cell, c21, not_true_eq_false, not_false_eq_true, and_self, true_and, and_true, false_and, and_false, true_or, or_true, false_or, or_false, or_self, ↓reduceIte]))
set_option maxRecDepth 100000 in
set_option maxHeartbeats 4000000 in
theorem ok_copy (hj : j < 4) (hj' : j' < 4) (hl : lenOk (σ (1 + j) 1 0)) (hl' : lenOk (σ (1 + j') 1 0)) (i i' n : Int32) : Ok 1 yX5_copy cX5_copy 8 (some .int) D tc [.ref (A 0), .int (nI j), .int i, .int (nI j'), .int i', .int n] (cW A tc σ) (some (.int (R_copy (faC σ 0) j j' i i' n))) (cW A tc (S_copy (faC σ 0) j j' i i' n)) := by
  refine Ok_of RX5 rfl (by decide) [some (.ref (A 0)), some (.int (nI j)), some (.int i), some (.int (nI j')), some (.int i'), some (.int n), none, none] rfl (Nat.le_of_ble_eq_true rfl) ?_
  intro X hX
  refine V_ald0 dX5_copy_0 ?_
  refine V_iconst 0 dX5_copy_1 (by decide) ?_
  refine V_puti lp_X5_52 dX5_copy_2 cW_main (Nat.le_of_ble_eq_true rfl) (cW_mainp7 _) ?_
  have hl := (show lenOk ((faC σ 0) (1 + j) 1 0) from by rw [faC_sh]; exact hl)
  have hl' := (show lenOk ((faC σ 0) (1 + j') 1 0) from by rw [faC_sh]; exact hl')
  change V _ _ _ _ _ _ _ _ _ (cW A tc (faC σ 0))
  generalize faC σ 0 = σ at hX hl hl' ⊢
  refine V_ald0 dX5_copy_5 ?_
  refine V_ild1 dX5_copy_6 ?_
  refine V_callV lm_X5_56 (ok_sheetAt hj) dX5_copy_7 cW_main rfl (dep hX (by decide)) rfl (Nat.le_of_ble_eq_true rfl) ?_
  refine V_ast6 dX5_copy_10 rfl (by decide) ?_
  refine V_ald0 dX5_copy_12 ?_
  refine V_ild3 dX5_copy_13 ?_
  refine V_callV lm_X5_56 (ok_sheetAt hj') dX5_copy_14 cW_main rfl (dep hX (by decide)) rfl (Nat.le_of_ble_eq_true rfl) ?_
  refine V_ast7 dX5_copy_17 rfl (by decide) ?_
  refine V_ald6 dX5_copy_19 ?_
  refine V_ifnull dX5_copy_21 ?_
  refine V_ald7 dX5_copy_24 ?_
  refine V_ifnonnull 31 dX5_copy_26 (by decide) ?_
  refine V_ald6 dX5_copy_31 ?_
  refine V_callV lm_X5_71 (ok_hasRow hj) dX5_copy_33 (cW_sh hj) rfl (dep hX (by decide)) rfl (Nat.le_of_ble_eq_true rfl) ?_
  refine V_if_eq 47 dX5_copy_36 (by decide) (fun c36 => ?_) (fun c36 => ?_)
  · try rw [b2i_eq] at c36
    try rw [Decidable.not_not] at c36
    refine V_ald0 dX5_copy_47 ?_
    refine V_iconst 1 dX5_copy_48 (by decide) ?_
    refine V_callV lm_X5_67 (ok_faulted 1) dX5_copy_49 cW_main rfl (dep hX (by decide)) rfl (Nat.le_of_ble_eq_true rfl) ?_
    exact V_iret hX dX5_copy_52 rfl (by (try first | replace c36 := eq_false c36 | replace c36 := eq_true c36); simp only [R_copy, c36, not_true_eq_false, not_false_eq_true, and_self, true_and, and_true, false_and, and_false, true_or, or_true, false_or, or_false, or_self, ↓reduceIte]; try decide) (congrArg (cW A tc) (by (try first | replace c36 := eq_false c36 | replace c36 := eq_true c36); simp only [S_copy, c36, not_true_eq_false, not_false_eq_true, and_self, true_and, and_true, false_and, and_false, true_or, or_true, false_or, or_false, or_self, ↓reduceIte]))
  · try rw [b2i_ne] at c36
    try rw [Decidable.not_not] at c36
    refine V_ald7 dX5_copy_39 ?_
    refine V_callV lm_X5_71 (ok_hasRow hj') dX5_copy_41 (cW_sh hj') rfl (dep hX (by decide)) rfl (Nat.le_of_ble_eq_true rfl) ?_
    refine V_if_ne 53 dX5_copy_44 (by decide) (fun c44 => ?_) (fun c44 => ?_)
    · try rw [b2i_ne] at c44
      try rw [Decidable.not_not] at c44
      refine V_ald6 dX5_copy_53 ?_
      refine V_get lf_X5_231 dX5_copy_55 (cW_sh hj) rfl ?_
      refine V_ald7 dX5_copy_58 ?_
      refine V_get lf_X5_231 dX5_copy_60 (cW_sh hj') rfl ?_
      refine V_icmp_eq 72 dX5_copy_63 (by decide) (fun c63 => ?_) (fun c63 => ?_)
      · refine V_ald6 dX5_copy_72 ?_
        refine V_ild2 dX5_copy_74 ?_
        refine V_ild5 dX5_copy_75 ?_
        refine V_callV lm_X5_75 (ok_hasCells hj _ _) dX5_copy_77 (cW_sh hj) rfl (dep hX (by decide)) rfl (Nat.le_of_ble_eq_true rfl) ?_
        refine V_if_eq 95 dX5_copy_80 (by decide) (fun c80 => ?_) (fun c80 => ?_)
        · try rw [b2i_eq] at c80
          try rw [Decidable.not_not] at c80
          refine V_ald0 dX5_copy_95 ?_
          refine V_iconst 3 dX5_copy_96 (by decide) ?_
          refine V_callV lm_X5_67 (ok_faulted 3) dX5_copy_97 cW_main rfl (dep hX (by decide)) rfl (Nat.le_of_ble_eq_true rfl) ?_
          exact V_iret hX dX5_copy_100 rfl (by (try first | replace c36 := eq_false c36 | replace c36 := eq_true c36); (try first | replace c44 := eq_false c44 | replace c44 := eq_true c44); (try first | replace c63 := eq_false c63 | replace c63 := eq_true c63); (try first | replace c80 := eq_false c80 | replace c80 := eq_true c80); simp only [R_copy, c36, c44, c63, c80, not_true_eq_false, not_false_eq_true, and_self, true_and, and_true, false_and, and_false, true_or, or_true, false_or, or_false, or_self, ↓reduceIte]; try decide) (congrArg (cW A tc) (by (try first | replace c36 := eq_false c36 | replace c36 := eq_true c36); (try first | replace c44 := eq_false c44 | replace c44 := eq_true c44); (try first | replace c63 := eq_false c63 | replace c63 := eq_true c63); (try first | replace c80 := eq_false c80 | replace c80 := eq_true c80); simp only [S_copy, c36, c44, c63, c80, not_true_eq_false, not_false_eq_true, and_self, true_and, and_true, false_and, and_false, true_or, or_true, false_or, or_false, or_self, ↓reduceIte]))
        · try rw [b2i_ne] at c80
          try rw [Decidable.not_not] at c80
          refine V_ald7 dX5_copy_83 ?_
          refine V_ild4 dX5_copy_85 ?_
          refine V_ild5 dX5_copy_87 ?_
          refine V_callV lm_X5_75 (ok_hasCells hj' _ _) dX5_copy_89 (cW_sh hj') rfl (dep hX (by decide)) rfl (Nat.le_of_ble_eq_true rfl) ?_
          refine V_if_ne 101 dX5_copy_92 (by decide) (fun c92 => ?_) (fun c92 => ?_)
          · try rw [b2i_ne] at c92
            try rw [Decidable.not_not] at c92
            obtain ⟨a, e, n1, ea, ee, hae, hn6, hxn⟩ := hc_in hl c36 c80
            obtain ⟨a', e', n2, ea', ee', hae', hn6', hxn'⟩ := hc_in hl' c44 c92
            have hee : e' = e := (nI_eq (by omega) (by omega)).mp (ee'.symm.trans ee)
            subst hee
            have hca : i.toNatClampNeg = a := by rw [ea]; exact nI_clamp (by omega)
            have hca' : i'.toNatClampNeg = a' := by rw [ea']; exact nI_clamp (by omega)
            have hce : n.toNatClampNeg = e' := by rw [ee']; exact nI_clamp (by omega)
            refine V_ald6 dX5_copy_101 ?_
            refine V_get lf_X5_221 dX5_copy_103 (cW_sh hj) rfl ?_
            refine V_ild2 dX5_copy_106 ?_
            refine V_ald7 dX5_copy_107 ?_
            refine V_get lf_X5_221 dX5_copy_109 (cW_sh hj') rfl ?_
            refine V_ild4 dX5_copy_112 ?_
            refine V_ild5 dX5_copy_114 ?_
            refine V_copyE wM_X5_234 wcp (dep1 hX (by decide)) (Nat.le_of_ble_eq_true rfl) dX5_copy_116 (cW_sha hj) (cW_sha hj') a a' e' ea ea' ee' ⟨by omega, by omega, by decide, by decide⟩ (cW_shaF hj' _) ?_
            refine V_ild5 dX5_copy_119 ?_
            exact V_iret hX dX5_copy_121 rfl (by (try first | replace c36 := eq_false c36 | replace c36 := eq_true c36); (try first | replace c44 := eq_false c44 | replace c44 := eq_true c44); (try first | replace c63 := eq_false c63 | replace c63 := eq_true c63); (try first | replace c80 := eq_false c80 | replace c80 := eq_true c80); (try first | replace c92 := eq_false c92 | replace c92 := eq_true c92); simp only [R_copy, c36, c44, c63, c80, c92, not_true_eq_false, not_false_eq_true, and_self, true_and, and_true, false_and, and_false, true_or, or_true, false_or, or_false, or_self, ↓reduceIte]) (congrArg (cW A tc) (by (try first | replace c36 := eq_false c36 | replace c36 := eq_true c36); (try first | replace c44 := eq_false c44 | replace c44 := eq_true c44); (try first | replace c63 := eq_false c63 | replace c63 := eq_true c63); (try first | replace c80 := eq_false c80 | replace c80 := eq_true c80); (try first | replace c92 := eq_false c92 | replace c92 := eq_true c92); simp only [S_copy, hca, hca', hce, c36, c44, c63, c80, c92, not_true_eq_false, not_false_eq_true, and_self, true_and, and_true, false_and, and_false, true_or, or_true, false_or, or_false, or_self, ↓reduceIte]))
          · try rw [b2i_eq] at c92
            try rw [Decidable.not_not] at c92
            refine V_ald0 dX5_copy_95 ?_
            refine V_iconst 3 dX5_copy_96 (by decide) ?_
            refine V_callV lm_X5_67 (ok_faulted 3) dX5_copy_97 cW_main rfl (dep hX (by decide)) rfl (Nat.le_of_ble_eq_true rfl) ?_
            exact V_iret hX dX5_copy_100 rfl (by (try first | replace c36 := eq_false c36 | replace c36 := eq_true c36); (try first | replace c44 := eq_false c44 | replace c44 := eq_true c44); (try first | replace c63 := eq_false c63 | replace c63 := eq_true c63); (try first | replace c80 := eq_false c80 | replace c80 := eq_true c80); (try first | replace c92 := eq_false c92 | replace c92 := eq_true c92); simp only [R_copy, c36, c44, c63, c80, c92, not_true_eq_false, not_false_eq_true, and_self, true_and, and_true, false_and, and_false, true_or, or_true, false_or, or_false, or_self, ↓reduceIte]; try decide) (congrArg (cW A tc) (by (try first | replace c36 := eq_false c36 | replace c36 := eq_true c36); (try first | replace c44 := eq_false c44 | replace c44 := eq_true c44); (try first | replace c63 := eq_false c63 | replace c63 := eq_true c63); (try first | replace c80 := eq_false c80 | replace c80 := eq_true c80); (try first | replace c92 := eq_false c92 | replace c92 := eq_true c92); simp only [S_copy, c36, c44, c63, c80, c92, not_true_eq_false, not_false_eq_true, and_self, true_and, and_true, false_and, and_false, true_or, or_true, false_or, or_false, or_self, ↓reduceIte]))
      · refine V_ald0 dX5_copy_66 ?_
        refine V_iconst 2 dX5_copy_67 (by decide) ?_
        refine V_callV lm_X5_67 (ok_faulted 2) dX5_copy_68 cW_main rfl (dep hX (by decide)) rfl (Nat.le_of_ble_eq_true rfl) ?_
        exact V_iret hX dX5_copy_71 rfl (by (try first | replace c36 := eq_false c36 | replace c36 := eq_true c36); (try first | replace c44 := eq_false c44 | replace c44 := eq_true c44); (try first | replace c63 := eq_false c63 | replace c63 := eq_true c63); simp only [R_copy, c36, c44, c63, not_true_eq_false, not_false_eq_true, and_self, true_and, and_true, false_and, and_false, true_or, or_true, false_or, or_false, or_self, ↓reduceIte]; try decide) (congrArg (cW A tc) (by (try first | replace c36 := eq_false c36 | replace c36 := eq_true c36); (try first | replace c44 := eq_false c44 | replace c44 := eq_true c44); (try first | replace c63 := eq_false c63 | replace c63 := eq_true c63); simp only [S_copy, c36, c44, c63, not_true_eq_false, not_false_eq_true, and_self, true_and, and_true, false_and, and_false, true_or, or_true, false_or, or_false, or_self, ↓reduceIte]))
    · try rw [b2i_eq] at c44
      try rw [Decidable.not_not] at c44
      refine V_ald0 dX5_copy_47 ?_
      refine V_iconst 1 dX5_copy_48 (by decide) ?_
      refine V_callV lm_X5_67 (ok_faulted 1) dX5_copy_49 cW_main rfl (dep hX (by decide)) rfl (Nat.le_of_ble_eq_true rfl) ?_
      exact V_iret hX dX5_copy_52 rfl (by (try first | replace c36 := eq_false c36 | replace c36 := eq_true c36); (try first | replace c44 := eq_false c44 | replace c44 := eq_true c44); simp only [R_copy, c36, c44, not_true_eq_false, not_false_eq_true, and_self, true_and, and_true, false_and, and_false, true_or, or_true, false_or, or_false, or_self, ↓reduceIte]; try decide) (congrArg (cW A tc) (by (try first | replace c36 := eq_false c36 | replace c36 := eq_true c36); (try first | replace c44 := eq_false c44 | replace c44 := eq_true c44); simp only [S_copy, c36, c44, not_true_eq_false, not_false_eq_true, and_self, true_and, and_true, false_and, and_false, true_or, or_true, false_or, or_false, or_self, ↓reduceIte]))
set_option maxRecDepth 100000 in
set_option maxHeartbeats 4000000 in
theorem ok_copyN1 (k : Int32) (hk : ¬ isS k) (k2 i j0 n : Int32) : Ok 1 yX5_copy cX5_copy 8 (some .int) D tc [.ref (A 0), .int k, .int i, .int k2, .int j0, .int n] (cW A tc σ) (some (.int (-1))) (cW A tc (faC σ 0)) := by
  refine Ok_of RX5 rfl (by decide) [some (.ref (A 0)), some (.int k), some (.int i), some (.int k2), some (.int j0), some (.int n), none, none] rfl (Nat.le_of_ble_eq_true rfl) ?_
  intro X hX
  by_cases hk2 : isS k2
  · obtain ⟨j2, hj2, e2⟩ : ∃ j2, j2 < 4 ∧ k2 = nI j2 := by
      obtain ⟨z, hz, ez⟩ := nI_of hk2.1
      refine ⟨z, ?_, ez⟩
      have := hk2.2
      rw [ez, nI_leI (by decide) hz] at this
      omega
    subst e2
    refine V_ald0 dX5_copy_0 ?_
    refine V_iconst 0 dX5_copy_1 (by decide) ?_
    refine V_puti lp_X5_52 dX5_copy_2 cW_main (Nat.le_of_ble_eq_true rfl) (cW_mainp7 _) ?_
    refine V_ald0 dX5_copy_5 ?_
    refine V_ild1 dX5_copy_6 ?_
    refine V_callV lm_X5_56 (ok_sheetAtN _ hk) dX5_copy_7 cW_main rfl (dep hX (by decide)) rfl (Nat.le_of_ble_eq_true rfl) ?_
    refine V_astN6 dX5_copy_10 rfl (by decide) ?_
    refine V_ald0 dX5_copy_12 ?_
    refine V_ild3 dX5_copy_13 ?_
    refine V_callV lm_X5_56 (ok_sheetAt hj2) dX5_copy_14 cW_main rfl (dep hX (by decide)) rfl (Nat.le_of_ble_eq_true rfl) ?_
    refine V_ast7 dX5_copy_17 rfl (by decide) ?_
    refine V_aldN6 dX5_copy_19 ?_
    refine V_ifnullN 29 dX5_copy_21 (by decide) ?_
    refine V_iconst (-1) dX5_copy_29 (by decide) ?_
    exact V_iret hX dX5_copy_30 rfl rfl rfl
  · refine V_ald0 dX5_copy_0 ?_
    refine V_iconst 0 dX5_copy_1 (by decide) ?_
    refine V_puti lp_X5_52 dX5_copy_2 cW_main (Nat.le_of_ble_eq_true rfl) (cW_mainp7 _) ?_
    refine V_ald0 dX5_copy_5 ?_
    refine V_ild1 dX5_copy_6 ?_
    refine V_callV lm_X5_56 (ok_sheetAtN _ hk) dX5_copy_7 cW_main rfl (dep hX (by decide)) rfl (Nat.le_of_ble_eq_true rfl) ?_
    refine V_astN6 dX5_copy_10 rfl (by decide) ?_
    refine V_ald0 dX5_copy_12 ?_
    refine V_ild3 dX5_copy_13 ?_
    refine V_callV lm_X5_56 (ok_sheetAtN _ hk2) dX5_copy_14 cW_main rfl (dep hX (by decide)) rfl (Nat.le_of_ble_eq_true rfl) ?_
    refine V_astN7 dX5_copy_17 rfl (by decide) ?_
    refine V_aldN6 dX5_copy_19 ?_
    refine V_ifnullN 29 dX5_copy_21 (by decide) ?_
    refine V_iconst (-1) dX5_copy_29 (by decide) ?_
    exact V_iret hX dX5_copy_30 rfl rfl rfl
set_option maxRecDepth 100000 in
set_option maxHeartbeats 4000000 in
theorem ok_copyN2 (k2 : Int32) (hk2 : ¬ isS k2) (i j0 n : Int32) (hj : j < 4) : Ok 1 yX5_copy cX5_copy 8 (some .int) D tc [.ref (A 0), .int (nI j), .int i, .int k2, .int j0, .int n] (cW A tc σ) (some (.int (-1))) (cW A tc (faC σ 0)) := by
  refine Ok_of RX5 rfl (by decide) [some (.ref (A 0)), some (.int (nI j)), some (.int i), some (.int k2), some (.int j0), some (.int n), none, none] rfl (Nat.le_of_ble_eq_true rfl) ?_
  intro X hX
  refine V_ald0 dX5_copy_0 ?_
  refine V_iconst 0 dX5_copy_1 (by decide) ?_
  refine V_puti lp_X5_52 dX5_copy_2 cW_main (Nat.le_of_ble_eq_true rfl) (cW_mainp7 _) ?_
  refine V_ald0 dX5_copy_5 ?_
  refine V_ild1 dX5_copy_6 ?_
  refine V_callV lm_X5_56 (ok_sheetAt hj) dX5_copy_7 cW_main rfl (dep hX (by decide)) rfl (Nat.le_of_ble_eq_true rfl) ?_
  refine V_ast6 dX5_copy_10 rfl (by decide) ?_
  refine V_ald0 dX5_copy_12 ?_
  refine V_ild3 dX5_copy_13 ?_
  refine V_callV lm_X5_56 (ok_sheetAtN _ hk2) dX5_copy_14 cW_main rfl (dep hX (by decide)) rfl (Nat.le_of_ble_eq_true rfl) ?_
  refine V_astN7 dX5_copy_17 rfl (by decide) ?_
  refine V_ald6 dX5_copy_19 ?_
  refine V_ifnull dX5_copy_21 ?_
  refine V_aldN7 dX5_copy_24 ?_
  refine V_ifnonnullN dX5_copy_26 ?_
  refine V_iconst (-1) dX5_copy_29 (by decide) ?_
  exact V_iret hX dX5_copy_30 rfl rfl rfl
set_option maxRecDepth 100000 in
set_option maxHeartbeats 4000000 in
theorem lo_dews (hC : σ 9 3 0 = nI C) (h8 : C ≤ 8) (hr : ∀ r, r < C → ∃ z, z < 6 ∧ σ 9 0 r = nI z) {X : Cx} {m : Nat} (hm6 : m < 6) (hX : Aim X D (some .int) 3 (some (.int (dwC σ C m 10))) (cW A tc σ)) : V X D tc cX5_dews RX5 4 17 [some (.ref (A 0)), some (.int (nI m)), some (.int 0), some (.int 0)] [] (cW A tc σ) := by
  have lpS : ∀ k, k < 10 → V X D tc cX5_dews RX5 4 17 ((fun k => [some (.ref (A 0)), some (.int (nI m)), some (.int (dwC σ C m k)), some (.int (nI k))]) (k + 1)) [] ((fun k => cW A tc σ) (k + 1)) → V X D tc cX5_dews RX5 4 17 ((fun k => [some (.ref (A 0)), some (.int (nI m)), some (.int (dwC σ C m k)), some (.int (nI k))]) k) [] ((fun k => cW A tc σ) k) := by
    intro k hk ihlp
    refine V_ild3 dX5_dews_17 ?_
    refine V_bipush 9 dX5_dews_18 (by decide) ?_
    refine V_icmp_gt 69 dX5_dews_20 (by decide) (fun c20 => ?_) (fun c20 => ?_)
    · exact absurd c20 (G9 hk)
    · refine V_ald0 dX5_dews_23 ?_
      refine V_get lf_X5_44 dX5_dews_24 cW_main rfl ?_
      refine V_ald0 dX5_dews_27 ?_
      refine V_get lf_X5_20 dX5_dews_28 cW_main rfl ?_
      refine V_ild1 dX5_dews_31 ?_
      refine V_ald0 dX5_dews_32 ?_
      refine V_get lf_X5_20 dX5_dews_33 cW_main rfl ?_
      refine V_get lf_X5_96 dX5_dews_36 (cW_mkt now5) rfl ?_
      refine V_ild1 dX5_dews_39 ?_
      refine V_ialdk dX5_dews_40 (cW_ma3 now5) ⟨hm6, by decide⟩ ?_
      refine V_ald0 dX5_dews_41 ?_
      refine V_get lf_X5_20 dX5_dews_42 cW_main rfl ?_
      refine V_get lf_X5_103 dX5_dews_45 (cW_mkt now5) rfl ?_
      refine V_ild1 dX5_dews_48 ?_
      refine V_ialdk dX5_dews_49 (cW_ma5 now5) ⟨hm6, by decide⟩ ?_
      refine V_ild3 dX5_dews_50 ?_
      refine V_callV lm_X5_205 (ok_areSoWith hC h8 hr _ _ _ _) dX5_dews_51 cW_re rfl (dep hX (by decide)) rfl (Nat.le_of_ble_eq_true rfl) ?_
      refine V_if_eq 63 dX5_dews_54 (by decide) (fun c54 => ?_) (fun c54 => ?_)
      · try rw [b2i_eq] at c54
        try rw [Decidable.not_not] at c54
        refine V_inc3 (nI (k + 1)) dX5_dews_63 (nI_inc k) rfl (by decide) ?_
        refine V_goto 17 dX5_dews_66 (by decide) ?_
        refine V_eq ?_ rfl rfl ihlp
        (try first | replace c54 := eq_false c54 | replace c54 := eq_true c54)
        simp only [dwC, c54, oneI, not_true_eq_false, not_false_eq_true, and_self, true_and, and_true, false_and, and_false, true_or, or_true, false_or, or_false, or_self, ↓reduceIte]
      · try rw [b2i_ne] at c54
        try rw [Decidable.not_not] at c54
        refine V_ild2 dX5_dews_57 ?_
        refine V_iconst 1 dX5_dews_58 (by decide) ?_
        refine V_ild3 dX5_dews_59 ?_
        refine V_ishl dX5_dews_60 ?_
        refine V_ior dX5_dews_61 ?_
        refine V_ist2 dX5_dews_62 rfl (by decide) ?_
        refine V_inc3 (nI (k + 1)) dX5_dews_63 (nI_inc k) rfl (by decide) ?_
        refine V_goto 17 dX5_dews_66 (by decide) ?_
        refine V_eq ?_ rfl rfl ihlp
        (try first | replace c54 := eq_false c54 | replace c54 := eq_true c54)
        simp only [dwC, c54, oneI, not_true_eq_false, not_false_eq_true, and_self, true_and, and_true, false_and, and_false, true_or, or_true, false_or, or_false, or_self, ↓reduceIte]
  have lpE : V X D tc cX5_dews RX5 4 17 ((fun k => [some (.ref (A 0)), some (.int (nI m)), some (.int (dwC σ C m k)), some (.int (nI k))]) (10)) [] ((fun k => cW A tc σ) (10)) := by
    refine V_ild3 dX5_dews_17 ?_
    refine V_bipush 9 dX5_dews_18 (by decide) ?_
    refine V_icmp_gt 69 dX5_dews_20 (by decide) (fun c20 => ?_) (fun c20 => ?_)
    · refine V_ild2 dX5_dews_69 ?_
      exact V_iret hX dX5_dews_70 rfl rfl rfl
    · exact absurd G9e c20
  have lp := V_for (fun k => [some (.ref (A 0)), some (.int (nI m)), some (.int (dwC σ C m k)), some (.int (nI k))]) (fun k => cW A tc σ) (10) lpS lpE
  exact lp 0 (Nat.zero_le _)
set_option maxRecDepth 100000 in
set_option maxHeartbeats 4000000 in
theorem ok_dews (hM : σ 5 10 0 = nI M) (h6 : M ≤ 6) (hC : σ 9 3 0 = nI C) (h8 : C ≤ 8) (hr : ∀ r, r < C → ∃ z, z < 6 ∧ σ 9 0 r = nI z) (m : Int32) : Ok 3 yX5_dews cX5_dews 4 (some .int) D tc [.ref (A 0), .int m] (cW A tc σ) (some (.int (R_dews σ C m))) (cW A tc σ) := by
  refine Ok_of RX5 rfl (by decide) [some (.ref (A 0)), some (.int m), none, none] rfl (Nat.le_of_ble_eq_true rfl) ?_
  intro X hX
  refine V_ald0 dX5_dews_0 ?_
  refine V_get lf_X5_20 dX5_dews_1 cW_main rfl ?_
  refine V_ild1 dX5_dews_4 ?_
  refine V_callV lm_X5_93 (ok_isMorning now5 _) dX5_dews_5 (cW_mkt now5) rfl (dep hX (by decide)) rfl (Nat.le_of_ble_eq_true rfl) ?_
  refine V_if_ne 13 dX5_dews_8 (by decide) (fun c8 => ?_) (fun c8 => ?_)
  · try rw [b2i_ne] at c8
    try rw [Decidable.not_not] at c8
    obtain ⟨k, hk, ek⟩ := isP_of hM (by omega) c8
    subst ek
    have hck : (nI k).toNatClampNeg = k := nI_clamp (by omega)
    refine V_iconst 0 dX5_dews_13 (by decide) ?_
    refine V_ist2 dX5_dews_14 rfl (by decide) ?_
    refine V_iconst 0 dX5_dews_15 (by decide) ?_
    refine V_ist3 dX5_dews_16 rfl (by decide) ?_
    refine lo_dews hC h8 hr (by omega) ?_
    (try first | replace c8 := eq_false c8 | replace c8 := eq_true c8);
    have e : R_dews σ C (nI k) = dwC σ C k 10 := by simp only [R_dews, c8, hck, not_true_eq_false, not_false_eq_true, and_self, true_and, and_true, false_and, and_false, true_or, or_true, false_or, or_false, or_self, ↓reduceIte]
    rw [← e]
    exact hX
  · try rw [b2i_eq] at c8
    try rw [Decidable.not_not] at c8
    refine V_iconst (-1) dX5_dews_11 (by decide) ?_
    exact V_iret hX dX5_dews_12 rfl (by (try first | replace c8 := eq_false c8 | replace c8 := eq_true c8); simp only [R_dews, c8, not_true_eq_false, not_false_eq_true, and_self, true_and, and_true, false_and, and_false, true_or, or_true, false_or, or_false, or_self, ↓reduceIte]) rfl
set_option maxRecDepth 100000 in
set_option maxHeartbeats 4000000 in
theorem lo_kinds (hC : σ 9 3 0 = nI C) (h8 : C ≤ 8) (hr : ∀ r, r < C → ∃ z, z < 6 ∧ σ 9 0 r = nI z) {X : Cx} {m : Nat} (hm6 : m < 6) (hX : Aim X D (some .int) 3 (some (.int (kdC σ C m 3))) (cW A tc σ)) : V X D tc cX5_kinds RX5 4 17 [some (.ref (A 0)), some (.int (nI m)), some (.int 0), some (.int 0)] [] (cW A tc σ) := by
  have lpS : ∀ k, k < 3 → V X D tc cX5_kinds RX5 4 17 ((fun k => [some (.ref (A 0)), some (.int (nI m)), some (.int (kdC σ C m k)), some (.int (nI k))]) (k + 1)) [] ((fun k => cW A tc σ) (k + 1)) → V X D tc cX5_kinds RX5 4 17 ((fun k => [some (.ref (A 0)), some (.int (nI m)), some (.int (kdC σ C m k)), some (.int (nI k))]) k) [] ((fun k => cW A tc σ) k) := by
    intro k hk ihlp
    refine V_ild3 dX5_kinds_17 ?_
    refine V_iconst 2 dX5_kinds_18 (by decide) ?_
    refine V_icmp_gt 68 dX5_kinds_19 (by decide) (fun c19 => ?_) (fun c19 => ?_)
    · exact absurd c19 (G2 hk)
    · refine V_ald0 dX5_kinds_22 ?_
      refine V_get lf_X5_44 dX5_kinds_23 cW_main rfl ?_
      refine V_ald0 dX5_kinds_26 ?_
      refine V_get lf_X5_20 dX5_kinds_27 cW_main rfl ?_
      refine V_ild1 dX5_kinds_30 ?_
      refine V_ild3 dX5_kinds_31 ?_
      refine V_ald0 dX5_kinds_32 ?_
      refine V_get lf_X5_20 dX5_kinds_33 cW_main rfl ?_
      refine V_get lf_X5_103 dX5_kinds_36 (cW_mkt now5) rfl ?_
      refine V_ild1 dX5_kinds_39 ?_
      refine V_ialdk dX5_kinds_40 (cW_ma5 now5) ⟨hm6, by decide⟩ ?_
      refine V_ald0 dX5_kinds_41 ?_
      refine V_get lf_X5_20 dX5_kinds_42 cW_main rfl ?_
      refine V_get lf_X5_106 dX5_kinds_45 (cW_mkt now5) rfl ?_
      refine V_ild1 dX5_kinds_48 ?_
      refine V_ialdk dX5_kinds_49 (cW_ma6 now5) ⟨hm6, by decide⟩ ?_
      refine V_callV lm_X5_205 (ok_areSoWith hC h8 hr _ _ _ _) dX5_kinds_50 cW_re rfl (dep hX (by decide)) rfl (Nat.le_of_ble_eq_true rfl) ?_
      refine V_if_eq 62 dX5_kinds_53 (by decide) (fun c53 => ?_) (fun c53 => ?_)
      · try rw [b2i_eq] at c53
        try rw [Decidable.not_not] at c53
        refine V_inc3 (nI (k + 1)) dX5_kinds_62 (nI_inc k) rfl (by decide) ?_
        refine V_goto 17 dX5_kinds_65 (by decide) ?_
        refine V_eq ?_ rfl rfl ihlp
        (try first | replace c53 := eq_false c53 | replace c53 := eq_true c53)
        simp only [kdC, c53, oneI, not_true_eq_false, not_false_eq_true, and_self, true_and, and_true, false_and, and_false, true_or, or_true, false_or, or_false, or_self, ↓reduceIte]
      · try rw [b2i_ne] at c53
        try rw [Decidable.not_not] at c53
        refine V_ild2 dX5_kinds_56 ?_
        refine V_iconst 1 dX5_kinds_57 (by decide) ?_
        refine V_ild3 dX5_kinds_58 ?_
        refine V_ishl dX5_kinds_59 ?_
        refine V_ior dX5_kinds_60 ?_
        refine V_ist2 dX5_kinds_61 rfl (by decide) ?_
        refine V_inc3 (nI (k + 1)) dX5_kinds_62 (nI_inc k) rfl (by decide) ?_
        refine V_goto 17 dX5_kinds_65 (by decide) ?_
        refine V_eq ?_ rfl rfl ihlp
        (try first | replace c53 := eq_false c53 | replace c53 := eq_true c53)
        simp only [kdC, c53, oneI, not_true_eq_false, not_false_eq_true, and_self, true_and, and_true, false_and, and_false, true_or, or_true, false_or, or_false, or_self, ↓reduceIte]
  have lpE : V X D tc cX5_kinds RX5 4 17 ((fun k => [some (.ref (A 0)), some (.int (nI m)), some (.int (kdC σ C m k)), some (.int (nI k))]) (3)) [] ((fun k => cW A tc σ) (3)) := by
    refine V_ild3 dX5_kinds_17 ?_
    refine V_iconst 2 dX5_kinds_18 (by decide) ?_
    refine V_icmp_gt 68 dX5_kinds_19 (by decide) (fun c19 => ?_) (fun c19 => ?_)
    · refine V_ild2 dX5_kinds_68 ?_
      exact V_iret hX dX5_kinds_69 rfl rfl rfl
    · exact absurd G2e c19
  have lp := V_for (fun k => [some (.ref (A 0)), some (.int (nI m)), some (.int (kdC σ C m k)), some (.int (nI k))]) (fun k => cW A tc σ) (3) lpS lpE
  exact lp 0 (Nat.zero_le _)
set_option maxRecDepth 100000 in
set_option maxHeartbeats 4000000 in
theorem ok_kinds (hM : σ 5 10 0 = nI M) (h6 : M ≤ 6) (hC : σ 9 3 0 = nI C) (h8 : C ≤ 8) (hr : ∀ r, r < C → ∃ z, z < 6 ∧ σ 9 0 r = nI z) (m : Int32) : Ok 3 yX5_kinds cX5_kinds 4 (some .int) D tc [.ref (A 0), .int m] (cW A tc σ) (some (.int (R_kinds σ C m))) (cW A tc σ) := by
  refine Ok_of RX5 rfl (by decide) [some (.ref (A 0)), some (.int m), none, none] rfl (Nat.le_of_ble_eq_true rfl) ?_
  intro X hX
  refine V_ald0 dX5_kinds_0 ?_
  refine V_get lf_X5_20 dX5_kinds_1 cW_main rfl ?_
  refine V_ild1 dX5_kinds_4 ?_
  refine V_callV lm_X5_93 (ok_isMorning now5 _) dX5_kinds_5 (cW_mkt now5) rfl (dep hX (by decide)) rfl (Nat.le_of_ble_eq_true rfl) ?_
  refine V_if_ne 13 dX5_kinds_8 (by decide) (fun c8 => ?_) (fun c8 => ?_)
  · try rw [b2i_ne] at c8
    try rw [Decidable.not_not] at c8
    obtain ⟨k, hk, ek⟩ := isP_of hM (by omega) c8
    subst ek
    have hck : (nI k).toNatClampNeg = k := nI_clamp (by omega)
    refine V_iconst 0 dX5_kinds_13 (by decide) ?_
    refine V_ist2 dX5_kinds_14 rfl (by decide) ?_
    refine V_iconst 0 dX5_kinds_15 (by decide) ?_
    refine V_ist3 dX5_kinds_16 rfl (by decide) ?_
    refine lo_kinds hC h8 hr (by omega) ?_
    (try first | replace c8 := eq_false c8 | replace c8 := eq_true c8);
    have e : R_kinds σ C (nI k) = kdC σ C k 3 := by simp only [R_kinds, c8, hck, not_true_eq_false, not_false_eq_true, and_self, true_and, and_true, false_and, and_false, true_or, or_true, false_or, or_false, or_self, ↓reduceIte]
    rw [← e]
    exact hX
  · try rw [b2i_eq] at c8
    try rw [Decidable.not_not] at c8
    refine V_iconst (-1) dX5_kinds_11 (by decide) ?_
    exact V_iret hX dX5_kinds_12 rfl (by (try first | replace c8 := eq_false c8 | replace c8 := eq_true c8); simp only [R_kinds, c8, not_true_eq_false, not_false_eq_true, and_self, true_and, and_true, false_and, and_false, true_or, or_true, false_or, or_false, or_self, ↓reduceIte]) rfl
set_option maxRecDepth 100000 in
set_option maxHeartbeats 4000000 in
theorem lo_takens (hC : σ 9 3 0 = nI C) (h8 : C ≤ 8) (hr : ∀ r, r < C → ∃ z, z < 6 ∧ σ 9 0 r = nI z) {X : Cx} {m : Nat} (hm6 : m < 6) (hX : Aim X D (some .int) 3 (some (.int (tkC σ C m 10))) (cW A tc σ)) : V X D tc cX5_takens RX5 4 17 [some (.ref (A 0)), some (.int (nI m)), some (.int 0), some (.int 0)] [] (cW A tc σ) := by
  have lpS : ∀ k, k < 10 → V X D tc cX5_takens RX5 4 17 ((fun k => [some (.ref (A 0)), some (.int (nI m)), some (.int (tkC σ C m k)), some (.int (nI k))]) (k + 1)) [] ((fun k => cW A tc σ) (k + 1)) → V X D tc cX5_takens RX5 4 17 ((fun k => [some (.ref (A 0)), some (.int (nI m)), some (.int (tkC σ C m k)), some (.int (nI k))]) k) [] ((fun k => cW A tc σ) k) := by
    intro k hk ihlp
    refine V_ild3 dX5_takens_17 ?_
    refine V_bipush 9 dX5_takens_18 (by decide) ?_
    refine V_icmp_gt 69 dX5_takens_20 (by decide) (fun c20 => ?_) (fun c20 => ?_)
    · exact absurd c20 (G9 hk)
    · refine V_ald0 dX5_takens_23 ?_
      refine V_get lf_X5_44 dX5_takens_24 cW_main rfl ?_
      refine V_ald0 dX5_takens_27 ?_
      refine V_get lf_X5_20 dX5_takens_28 cW_main rfl ?_
      refine V_ild1 dX5_takens_31 ?_
      refine V_ald0 dX5_takens_32 ?_
      refine V_get lf_X5_20 dX5_takens_33 cW_main rfl ?_
      refine V_get lf_X5_96 dX5_takens_36 (cW_mkt now5) rfl ?_
      refine V_ild1 dX5_takens_39 ?_
      refine V_ialdk dX5_takens_40 (cW_ma3 now5) ⟨hm6, by decide⟩ ?_
      refine V_ild3 dX5_takens_41 ?_
      refine V_ald0 dX5_takens_42 ?_
      refine V_get lf_X5_20 dX5_takens_43 cW_main rfl ?_
      refine V_get lf_X5_106 dX5_takens_46 (cW_mkt now5) rfl ?_
      refine V_ild1 dX5_takens_49 ?_
      refine V_ialdk dX5_takens_50 (cW_ma6 now5) ⟨hm6, by decide⟩ ?_
      refine V_callV lm_X5_205 (ok_areSoWith hC h8 hr _ _ _ _) dX5_takens_51 cW_re rfl (dep hX (by decide)) rfl (Nat.le_of_ble_eq_true rfl) ?_
      refine V_if_eq 63 dX5_takens_54 (by decide) (fun c54 => ?_) (fun c54 => ?_)
      · try rw [b2i_eq] at c54
        try rw [Decidable.not_not] at c54
        refine V_inc3 (nI (k + 1)) dX5_takens_63 (nI_inc k) rfl (by decide) ?_
        refine V_goto 17 dX5_takens_66 (by decide) ?_
        refine V_eq ?_ rfl rfl ihlp
        (try first | replace c54 := eq_false c54 | replace c54 := eq_true c54)
        simp only [tkC, c54, oneI, not_true_eq_false, not_false_eq_true, and_self, true_and, and_true, false_and, and_false, true_or, or_true, false_or, or_false, or_self, ↓reduceIte]
      · try rw [b2i_ne] at c54
        try rw [Decidable.not_not] at c54
        refine V_ild2 dX5_takens_57 ?_
        refine V_iconst 1 dX5_takens_58 (by decide) ?_
        refine V_ild3 dX5_takens_59 ?_
        refine V_ishl dX5_takens_60 ?_
        refine V_ior dX5_takens_61 ?_
        refine V_ist2 dX5_takens_62 rfl (by decide) ?_
        refine V_inc3 (nI (k + 1)) dX5_takens_63 (nI_inc k) rfl (by decide) ?_
        refine V_goto 17 dX5_takens_66 (by decide) ?_
        refine V_eq ?_ rfl rfl ihlp
        (try first | replace c54 := eq_false c54 | replace c54 := eq_true c54)
        simp only [tkC, c54, oneI, not_true_eq_false, not_false_eq_true, and_self, true_and, and_true, false_and, and_false, true_or, or_true, false_or, or_false, or_self, ↓reduceIte]
  have lpE : V X D tc cX5_takens RX5 4 17 ((fun k => [some (.ref (A 0)), some (.int (nI m)), some (.int (tkC σ C m k)), some (.int (nI k))]) (10)) [] ((fun k => cW A tc σ) (10)) := by
    refine V_ild3 dX5_takens_17 ?_
    refine V_bipush 9 dX5_takens_18 (by decide) ?_
    refine V_icmp_gt 69 dX5_takens_20 (by decide) (fun c20 => ?_) (fun c20 => ?_)
    · refine V_ild2 dX5_takens_69 ?_
      exact V_iret hX dX5_takens_70 rfl rfl rfl
    · exact absurd G9e c20
  have lp := V_for (fun k => [some (.ref (A 0)), some (.int (nI m)), some (.int (tkC σ C m k)), some (.int (nI k))]) (fun k => cW A tc σ) (10) lpS lpE
  exact lp 0 (Nat.zero_le _)
set_option maxRecDepth 100000 in
set_option maxHeartbeats 4000000 in
theorem ok_takens (hM : σ 5 10 0 = nI M) (h6 : M ≤ 6) (hC : σ 9 3 0 = nI C) (h8 : C ≤ 8) (hr : ∀ r, r < C → ∃ z, z < 6 ∧ σ 9 0 r = nI z) (m : Int32) : Ok 3 yX5_takens cX5_takens 4 (some .int) D tc [.ref (A 0), .int m] (cW A tc σ) (some (.int (R_takens σ C m))) (cW A tc σ) := by
  refine Ok_of RX5 rfl (by decide) [some (.ref (A 0)), some (.int m), none, none] rfl (Nat.le_of_ble_eq_true rfl) ?_
  intro X hX
  refine V_ald0 dX5_takens_0 ?_
  refine V_get lf_X5_20 dX5_takens_1 cW_main rfl ?_
  refine V_ild1 dX5_takens_4 ?_
  refine V_callV lm_X5_93 (ok_isMorning now5 _) dX5_takens_5 (cW_mkt now5) rfl (dep hX (by decide)) rfl (Nat.le_of_ble_eq_true rfl) ?_
  refine V_if_ne 13 dX5_takens_8 (by decide) (fun c8 => ?_) (fun c8 => ?_)
  · try rw [b2i_ne] at c8
    try rw [Decidable.not_not] at c8
    obtain ⟨k, hk, ek⟩ := isP_of hM (by omega) c8
    subst ek
    have hck : (nI k).toNatClampNeg = k := nI_clamp (by omega)
    refine V_iconst 0 dX5_takens_13 (by decide) ?_
    refine V_ist2 dX5_takens_14 rfl (by decide) ?_
    refine V_iconst 0 dX5_takens_15 (by decide) ?_
    refine V_ist3 dX5_takens_16 rfl (by decide) ?_
    refine lo_takens hC h8 hr (by omega) ?_
    (try first | replace c8 := eq_false c8 | replace c8 := eq_true c8);
    have e : R_takens σ C (nI k) = tkC σ C k 10 := by simp only [R_takens, c8, hck, not_true_eq_false, not_false_eq_true, and_self, true_and, and_true, false_and, and_false, true_or, or_true, false_or, or_false, or_self, ↓reduceIte]
    rw [← e]
    exact hX
  · try rw [b2i_eq] at c8
    try rw [Decidable.not_not] at c8
    refine V_iconst (-1) dX5_takens_11 (by decide) ?_
    exact V_iret hX dX5_takens_12 rfl (by (try first | replace c8 := eq_false c8 | replace c8 := eq_true c8); simp only [R_takens, c8, not_true_eq_false, not_false_eq_true, and_self, true_and, and_true, false_and, and_false, true_or, or_true, false_or, or_false, or_self, ↓reduceIte]) rfl
end
