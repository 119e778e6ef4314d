/-! the reference's sheets -/
def i6 (j a : Nat) : Nat := 60 * j + a
theorem ix6 (j a : Nat) : 60 * nI j + nI a = nI (i6 j a) := by rw [show (60 : Int32) = nI 60 by decide, pk_mul, nI_add]; rfl
theorem wi_in {i : Int32} {n : Nat} (hn : n ≤ 60) (h : wiI i 0 (nI n - 1)) : ∃ a, a < n ∧ i = nI a := by
  obtain ⟨a, ha, ea⟩ := nI_of h.1
  refine ⟨a, ?_, ea⟩
  have h2 := h.2
  rw [ea, Int32.lt_iff_toInt_lt, nI_toInt ha] at h2
  have e : (nI n - 1).toInt = (n : Int) - 1 := by
    have := pk_sub_toInt (a := n) (b := 1) (by omega) (by decide)
    exact this
  omega
def clM (τ : Sm) (j k : Nat) : Nat → Int32 := fun q => if 60 * j ≤ q ∧ q < 60 * j + k then 0 else τ 4 q
theorem clM_0 (τ : Sm) (j : Nat) : clM τ j 0 = τ 4 := by
  funext q; unfold clM; rw [if_neg (by omega)]
theorem clM_s (τ : Sm) (j k : Nat) : upd (clM τ j k) (i6 j k) 0 = clM τ j (k + 1) := by
  funext q
  unfold upd clM i6
  by_cases h : q = 60 * j + k
  · rw [if_pos h, if_pos (by omega)]
  · rw [if_neg h]
    by_cases h2 : 60 * j ≤ q ∧ q < 60 * j + k
    · rw [if_pos h2, if_pos (by omega)]
    · rw [if_neg h2, if_neg (by omega)]
def Rm_sheet (l n : Int32) : Int32 := if laI l ∧ n ≤ 60 then (if 0 ≤ n then 1 else -14) else -2
def Sm_sheet (τ : Sm) (j : Nat) (l n : Int32) : Sm := if laI l ∧ n ≤ 60 then (if 0 ≤ n then umF (um (um τ 2 j l) 3 j n) 4 (clM τ j 60) else um τ 0 0 4) else τ
def Rm_lose (τ : Sm) (j : Nat) : Int32 := if τ 2 j = -9 then 0 else 1
def cuM (lane v : Int32) : Int32 := if lane = 0 then v.toInt8.toInt32 else if lane = 1 then v.toInt16.toInt32 else v
def Rm_put (τ : Sm) (j : Nat) (i : Int32) : Int32 := if τ 2 j = -9 then -11 else if wiI i 0 (τ 3 j - 1) then 1 else -13
def Sm_put (τ : Sm) (j : Nat) (i v : Int32) : Sm := if τ 2 j = -9 then um τ 0 0 1 else if wiI i 0 (τ 3 j - 1) then um τ 4 (i6 j i.toNatClampNeg) (cuM (τ 2 j) v) else um τ 0 0 3
def Rm_cell (τ : Sm) (j : Nat) (i l : Int32) : Int64 := if laI l then (if ¬ τ 2 j = -9 ∧ ¬ τ 2 j = l then -9223372036854775808 else if τ 2 j = -9 then -9223372036854775808 else if wiI i 0 (τ 3 j - 1) then (τ 4 (i6 j i.toNatClampNeg)).toInt64 else -9223372036854775808) else -9223372036854775808
def Sm_cell (τ : Sm) (j : Nat) (i l : Int32) : Sm := if laI l then (if ¬ τ 2 j = -9 ∧ ¬ τ 2 j = l then um τ 0 0 2 else if τ 2 j = -9 then um τ 0 0 1 else if wiI i 0 (τ 3 j - 1) then τ else um τ 0 0 3) else τ
abbrev cpP (τ : Sm) (j j' : Nat) (i i' n : Int32) : Prop := ¬ i < 0 ∧ ¬ i' < 0 ∧ ¬ n < 0 ∧ ¬ τ 3 j < i ∧ ¬ τ 3 j' < i' ∧ ¬ τ 3 j - i < n ∧ n ≤ τ 3 j' - i'
/-- which cell the copying comes to in its k-th step -/
def stp (fw : Prop) [Decidable fw] (n k : Nat) : Nat := if fw then n - 1 - k else k
/-- the cells behind k steps of a copying -/
def cpL (f : Nat → Int32) (s d n : Nat) (fw : Prop) [Decidable fw] : Nat → (Nat → Int32)
  | 0 => f
  | k + 1 => upd (cpL f s d n fw k) (d + stp fw n k) (cpL f s d n fw k (s + stp fw n k))
def Rm_copy (τ : Sm) (j j' : Nat) (i i' n : Int32) : Int32 := if τ 2 j = -9 ∨ τ 2 j' = -9 then -11 else if τ 2 j = τ 2 j' then (if cpP τ j j' i i' n then n else -13) else -12
def Sm_copy (τ : Sm) (j j' : Nat) (i i' n : Int32) : Sm := if τ 2 j = -9 ∨ τ 2 j' = -9 then um τ 0 0 1 else if τ 2 j = τ 2 j' then (if cpP τ j j' i i' n then umF τ 4 (cpL (τ 4) (i6 j i.toNatClampNeg) (i6 j' i'.toNatClampNeg) n.toNatClampNeg (i < i') n.toNatClampNeg) else um τ 0 0 3) else um τ 0 0 2
section
variable {D : va_G} {tc : Tc} {B : Nat → Nat} {τ : Sm} {M P C j j' : Nat} {ws : va_W}
theorem L60 {k : Nat} (h : k < 60) : ¬ (60 : Int32) ≤ nI k := ge_no (x := 60) (M := 60) (by decide) h (by decide)
theorem E60 : (60 : Int32) ≤ nI 60 := by decide
set_option maxRecDepth 100000 in
set_option maxHeartbeats 4000000 in
theorem lm_sheet (hj : j < 4) {X : Cx} {l n R : Int32} {S : Sm} (hR : 1 = R) (hS : umF (um (um τ 2 j l) 3 j n) 4 (clM τ j 60) = S) (hX : Aim X D (some .int) 2 (some (.int R)) (mW B tc S)) : V X D tc cX6_sheet RX6 5 57 [some (.ref (B 0)), some (.int (nI j)), some (.int l), some (.int n), some (.int 0)] [] (mW B tc (um (um τ 2 j l) 3 j n)) := by
  have lpS : ∀ k, k < 60 → V X D tc cX6_sheet RX6 5 57 ((fun k => [some (.ref (B 0)), some (.int (nI j)), some (.int l), some (.int n), some (.int (nI k))]) (k + 1)) [] ((fun k => mW B tc (umF (um (um τ 2 j l) 3 j n) 4 (clM τ j k))) (k + 1)) → V X D tc cX6_sheet RX6 5 57 ((fun k => [some (.ref (B 0)), some (.int (nI j)), some (.int l), some (.int n), some (.int (nI k))]) k) [] ((fun k => mW B tc (umF (um (um τ 2 j l) 3 j n) 4 (clM τ j k))) k) := by
    intro k hk ihlp
    refine V_ild4 dX6_sheet_57 ?_
    refine V_bipush 60 dX6_sheet_59 (by decide) ?_
    refine V_icmp_ge 83 dX6_sheet_61 (by decide) (fun c61 => ?_) (fun c61 => ?_)
    · exact absurd c61 (L60 hk)
    · refine V_ald0 dX6_sheet_64 ?_
      refine V_get lf_X6_16 dX6_sheet_65 mW_obj rfl ?_
      refine V_bipush 60 dX6_sheet_68 (by decide) ?_
      refine V_ild1 dX6_sheet_70 ?_
      refine V_imul dX6_sheet_71 ?_
      refine V_ild4 dX6_sheet_72 ?_
      refine V_iadd dX6_sheet_74 ?_
      refine V_top (y := nI (i6 j k)) (ix6 j k) ?_
      refine V_iconst 0 dX6_sheet_75 (by decide) ?_
      refine V_iastk dX6_sheet_76 mW_a4 ⟨by unfold i6; omega, by decide⟩ (mW_a4s _ _) ?_
      refine V_inc4 (nI (k + 1)) dX6_sheet_77 (nI_inc k) rfl (by decide) ?_
      refine V_goto 57 dX6_sheet_80 (by decide) ?_
      refine V_eq rfl rfl ?_ ihlp
      rw [um_umF]
      exact congrArg (fun g => mW B tc (umF (um (um τ 2 j l) 3 j n) 4 g)) (clM_s τ j k)
  have lpE : V X D tc cX6_sheet RX6 5 57 ((fun k => [some (.ref (B 0)), some (.int (nI j)), some (.int l), some (.int n), some (.int (nI k))]) (60)) [] ((fun k => mW B tc (umF (um (um τ 2 j l) 3 j n) 4 (clM τ j k))) (60)) := by
    refine V_ild4 dX6_sheet_57 ?_
    refine V_bipush 60 dX6_sheet_59 (by decide) ?_
    refine V_icmp_ge 83 dX6_sheet_61 (by decide) (fun c61 => ?_) (fun c61 => ?_)
    · refine V_iconst 1 dX6_sheet_83 (by decide) ?_
      exact V_iret hX dX6_sheet_84 rfl (by rw [← hR]) (by rw [← hS])
    · exact absurd E60 c61
  have lp := V_for (fun k => [some (.ref (B 0)), some (.int (nI j)), some (.int l), some (.int n), some (.int (nI k))]) (fun k => mW B tc (umF (um (um τ 2 j l) 3 j n) 4 (clM τ j k))) (60) lpS lpE
  refine V_eq rfl rfl ?_ (lp 0 (Nat.zero_le _))
  rw [clM_0]
  exact congrArg (mW B tc) (umF_self (um (um τ 2 j l) 3 j n) 4).symm
set_option maxRecDepth 100000 in
set_option maxHeartbeats 4000000 in
theorem mk_sheet (hj : j < 4) (l n : Int32) : Ok 2 yX6_sheet cX6_sheet 5 (some .int) D tc [.ref (B 0), .int (nI j), .int l, .int n] (mW B tc τ) (some (.int (Rm_sheet l n))) (mW B tc (Sm_sheet (um τ 0 0 0) j l n)) := by
  refine Ok_of RX6 rfl (by decide) [some (.ref (B 0)), some (.int (nI j)), some (.int l), some (.int n), none] rfl (Nat.le_of_ble_eq_true rfl) ?_
  intro X hX
  refine V_ald0 dX6_sheet_0 ?_
  refine V_iconst 0 dX6_sheet_1 (by decide) ?_
  refine V_puti lp_X6_80 dX6_sheet_2 mW_obj (Nat.le_of_ble_eq_true rfl) (mW_p0 _) ?_
  generalize um τ 0 0 0 = τ at hX  ⊢
  refine V_ild1 dX6_sheet_5 ?_
  refine V_callS ls_X6_99 (mk_isSheet _) dX6_sheet_6 (dep hX (by decide)) rfl (Nat.le_of_ble_eq_true rfl) ?_
  refine V_if_ne 14 dX6_sheet_9 (by decide) (fun c9 => ?_) (fun c9 => ?_)
  · try rw [b2i_ne] at c9
    try rw [Decidable.not_not] at c9
    refine V_ild2 dX6_sheet_14 ?_
    refine V_callS ls_X6_103 (mk_isSort _) dX6_sheet_15 (dep hX (by decide)) rfl (Nat.le_of_ble_eq_true rfl) ?_
    refine V_if_eq 27 dX6_sheet_18 (by decide) (fun c18 => ?_) (fun c18 => ?_)
    · try rw [b2i_eq] at c18
      try rw [Decidable.not_not] at c18
      refine V_bipush (-2) dX6_sheet_27 (by decide) ?_
      exact V_iret hX dX6_sheet_29 rfl (by (try first | replace c9 := eq_false c9 | replace c9 := eq_true c9); (try first | replace c18 := eq_false c18 | replace c18 := eq_true c18); simp only [Rm_sheet, c9, c18, not_true_eq_false, not_false_eq_true, and_self, true_and, and_true, false_and, and_false, true_or, or_true, false_or, or_false, or_self, ↓reduceIte]; try decide) (congrArg (mW B tc) (by (try first | replace c9 := eq_false c9 | replace c9 := eq_true c9); (try first | replace c18 := eq_false c18 | replace c18 := eq_true c18); simp only [Sm_sheet, c9, c18, not_true_eq_false, not_false_eq_true, and_self, true_and, and_true, false_and, and_false, true_or, or_true, false_or, or_false, or_self, ↓reduceIte]))
    · try rw [b2i_ne] at c18
      try rw [Decidable.not_not] at c18
      refine V_ild3 dX6_sheet_21 ?_
      refine V_bipush 60 dX6_sheet_22 (by decide) ?_
      refine V_icmp_le 30 dX6_sheet_24 (by decide) (fun c24 => ?_) (fun c24 => ?_)
      · refine V_ild3 dX6_sheet_30 ?_
        refine V_if_ge 40 dX6_sheet_31 (by decide) (fun c31 => ?_) (fun c31 => ?_)
        · refine V_ald0 dX6_sheet_40 ?_
          refine V_get lf_X6_9 dX6_sheet_41 mW_obj rfl ?_
          refine V_ild1 dX6_sheet_44 ?_
          refine V_ild2 dX6_sheet_45 ?_
          refine V_iastk dX6_sheet_46 mW_a2 ⟨hj, by decide⟩ (mW_a2s _ _) ?_
          refine V_ald0 dX6_sheet_47 ?_
          refine V_get lf_X6_13 dX6_sheet_48 mW_obj rfl ?_
          refine V_ild1 dX6_sheet_51 ?_
          refine V_ild3 dX6_sheet_52 ?_
          refine V_iastk dX6_sheet_53 mW_a3 ⟨hj, by decide⟩ (mW_a3s _ _) ?_
          refine V_iconst 0 dX6_sheet_54 (by decide) ?_
          refine V_ist4 dX6_sheet_55 rfl (by decide) ?_
          refine lm_sheet hj ?_ ?_ hX
          · rw [Rm_sheet, if_pos ⟨c18, c24⟩, if_pos c31]
          · rw [Sm_sheet, if_pos ⟨c18, c24⟩, if_pos c31]
        · refine V_ald0 dX6_sheet_34 ?_
          refine V_iconst 4 dX6_sheet_35 (by decide) ?_
          refine V_callV lm_X6_110 (mk_fails 4) dX6_sheet_36 mW_obj rfl (dep hX (by decide)) rfl (Nat.le_of_ble_eq_true rfl) ?_
          exact V_iret hX dX6_sheet_39 rfl (by (try first | replace c9 := eq_false c9 | replace c9 := eq_true c9); (try first | replace c18 := eq_false c18 | replace c18 := eq_true c18); (try first | replace c24 := eq_false c24 | replace c24 := eq_true c24); (try first | replace c31 := eq_false c31 | replace c31 := eq_true c31); simp only [Rm_sheet, c9, c18, c24, c31, not_true_eq_false, not_false_eq_true, and_self, true_and, and_true, false_and, and_false, true_or, or_true, false_or, or_false, or_self, ↓reduceIte]; try decide) (congrArg (mW B tc) (by (try first | replace c9 := eq_false c9 | replace c9 := eq_true c9); (try first | replace c18 := eq_false c18 | replace c18 := eq_true c18); (try first | replace c24 := eq_false c24 | replace c24 := eq_true c24); (try first | replace c31 := eq_false c31 | replace c31 := eq_true c31); simp only [Sm_sheet, c9, c18, c24, c31, not_true_eq_false, not_false_eq_true, and_self, true_and, and_true, false_and, and_false, true_or, or_true, false_or, or_false, or_self, ↓reduceIte]))
      · refine V_bipush (-2) dX6_sheet_27 (by decide) ?_
        exact V_iret hX dX6_sheet_29 rfl (by (try first | replace c9 := eq_false c9 | replace c9 := eq_true c9); (try first | replace c18 := eq_false c18 | replace c18 := eq_true c18); (try first | replace c24 := eq_false c24 | replace c24 := eq_true c24); simp only [Rm_sheet, c9, c18, c24, not_true_eq_false, not_false_eq_true, and_self, true_and, and_true, false_and, and_false, true_or, or_true, false_or, or_false, or_self, ↓reduceIte]; try decide) (congrArg (mW B tc) (by (try first | replace c9 := eq_false c9 | replace c9 := eq_true c9); (try first | replace c18 := eq_false c18 | replace c18 := eq_true c18); (try first | replace c24 := eq_false c24 | replace c24 := eq_true c24); simp only [Sm_sheet, c9, c18, c24, not_true_eq_false, not_false_eq_true, and_self, true_and, and_true, false_and, and_false, true_or, or_true, false_or, or_false, or_self, ↓reduceIte]))
  · try rw [b2i_eq] at c9
    exact absurd (show shI (nI j) from ⟨nI_pos (by omega), by rw [show (3 : Int32) = nI 3 by decide, nI_ltI (by decide) (by omega)]; omega⟩) c9
set_option maxRecDepth 100000 in
set_option maxHeartbeats 4000000 in
theorem mk_sheetN (k : Int32) (hk : ¬ shI k) (l n : Int32) : Ok 2 yX6_sheet cX6_sheet 5 (some .int) D tc [.ref (B 0), .int k, .int l, .int n] (mW B tc τ) (some (.int (-1))) (mW B tc (um τ 0 0 0)) := by
  refine Ok_of RX6 rfl (by decide) [some (.ref (B 0)), some (.int k), some (.int l), some (.int n), none] rfl (Nat.le_of_ble_eq_true rfl) ?_
  intro X hX
  refine V_ald0 dX6_sheet_0 ?_
  refine V_iconst 0 dX6_sheet_1 (by decide) ?_
  refine V_puti lp_X6_80 dX6_sheet_2 mW_obj (Nat.le_of_ble_eq_true rfl) (mW_p0 _) ?_
  refine V_ild1 dX6_sheet_5 ?_
  refine V_callS ls_X6_99 (mk_isSheet _) dX6_sheet_6 (dep hX (by decide)) rfl (Nat.le_of_ble_eq_true rfl) ?_
  refine V_if_ne 14 dX6_sheet_9 (by decide) (fun c9 => ?_) (fun c9 => ?_)
  · try rw [b2i_ne] at c9
    exact absurd c9 hk
  · try rw [b2i_eq] at c9
    try rw [Decidable.not_not] at c9
    refine V_iconst (-1) dX6_sheet_12 (by decide) ?_
    exact V_iret hX dX6_sheet_13 rfl rfl rfl
set_option maxRecDepth 100000 in
set_option maxHeartbeats 4000000 in
theorem mk_putN (k : Int32) (hk : ¬ shI k) (i v : Int32) : Ok 2 yX6_put cX6_put 4 (some .int) D tc [.ref (B 0), .int k, .int i, .int v] (mW B tc τ) (some (.int (-1))) (mW B tc (um τ 0 0 0)) := by
  refine Ok_of RX6 rfl (by decide) [some (.ref (B 0)), some (.int k), some (.int i), some (.int v)] rfl (Nat.le_of_ble_eq_true rfl) ?_
  intro X hX
  refine V_ald0 dX6_put_0 ?_
  refine V_iconst 0 dX6_put_1 (by decide) ?_
  refine V_puti lp_X6_80 dX6_put_2 mW_obj (Nat.le_of_ble_eq_true rfl) (mW_p0 _) ?_
  refine V_ild1 dX6_put_5 ?_
  refine V_callS ls_X6_99 (mk_isSheet _) dX6_put_6 (dep hX (by decide)) rfl (Nat.le_of_ble_eq_true rfl) ?_
  refine V_if_ne 14 dX6_put_9 (by decide) (fun c9 => ?_) (fun c9 => ?_)
  · try rw [b2i_ne] at c9
    exact absurd c9 hk
  · try rw [b2i_eq] at c9
    try rw [Decidable.not_not] at c9
    refine V_iconst (-1) dX6_put_12 (by decide) ?_
    exact V_iret hX dX6_put_13 rfl rfl rfl
set_option maxRecDepth 100000 in
set_option maxHeartbeats 4000000 in
theorem mk_loseN (k : Int32) (hk : ¬ shI k) : Ok 2 yX6_lose cX6_lose 3 (some .int) D tc [.ref (B 0), .int k] (mW B tc τ) (some (.int (-1))) (mW B tc τ) := by
  refine Ok_of RX6 rfl (by decide) [some (.ref (B 0)), some (.int k), none] rfl (Nat.le_of_ble_eq_true rfl) ?_
  intro X hX
  refine V_ild1 dX6_lose_0 ?_
  refine V_callS ls_X6_99 (mk_isSheet _) dX6_lose_1 (dep hX (by decide)) rfl (Nat.le_of_ble_eq_true rfl) ?_
  refine V_if_ne 9 dX6_lose_4 (by decide) (fun c4 => ?_) (fun c4 => ?_)
  · try rw [b2i_ne] at c4
    exact absurd c4 hk
  · try rw [b2i_eq] at c4
    try rw [Decidable.not_not] at c4
    refine V_iconst (-1) dX6_lose_7 (by decide) ?_
    exact V_iret hX dX6_lose_8 rfl rfl rfl
set_option maxRecDepth 100000 in
set_option maxHeartbeats 4000000 in
theorem mk_cellN (k : Int32) (hk : ¬ shI k) (i l : Int32) : Ok 2 yX6_cell cX6_cell 4 (some .long) D tc [.ref (B 0), .int k, .int i, .int l] (mW B tc τ) (some (.long (-9223372036854775808))) (mW B tc (um τ 0 0 0)) := by
  refine Ok_of RX6 rfl (by decide) [some (.ref (B 0)), some (.int k), some (.int i), some (.int l)] rfl (Nat.le_of_ble_eq_true rfl) ?_
  intro X hX
  refine V_ald0 dX6_cell_0 ?_
  refine V_iconst 0 dX6_cell_1 (by decide) ?_
  refine V_puti lp_X6_80 dX6_cell_2 mW_obj (Nat.le_of_ble_eq_true rfl) (mW_p0 _) ?_
  refine V_ild1 dX6_cell_5 ?_
  refine V_callS ls_X6_99 (mk_isSheet _) dX6_cell_6 (dep hX (by decide)) rfl (Nat.le_of_ble_eq_true rfl) ?_
  refine V_if_eq 19 dX6_cell_9 (by decide) (fun c9 => ?_) (fun c9 => ?_)
  · try rw [b2i_eq] at c9
    try rw [Decidable.not_not] at c9
    refine V_ldc2 _ wC_X6_84 dX6_cell_19 ?_
    exact V_lret hX dX6_cell_22 rfl rfl rfl
  · try rw [b2i_ne] at c9
    exact absurd c9 hk
set_option maxRecDepth 100000 in
set_option maxHeartbeats 4000000 in
theorem mk_marketN (k : Int32) (hk : ¬ shI k) (l i n : Int32) : Ok 2 yX6_market cX6_market 7 (some .int) D tc [.ref (B 0), .int k, .int l, .int i, .int n] (mW B tc τ) (some (.int (-1))) (mW B tc (um τ 0 0 0)) := by
  refine Ok_of RX6 rfl (by decide) [some (.ref (B 0)), some (.int k), some (.int l), some (.int i), some (.int n), none, none] rfl (Nat.le_of_ble_eq_true rfl) ?_
  intro X hX
  refine V_ald0 dX6_market_0 ?_
  refine V_iconst 0 dX6_market_1 (by decide) ?_
  refine V_puti lp_X6_80 dX6_market_2 mW_obj (Nat.le_of_ble_eq_true rfl) (mW_p0 _) ?_
  refine V_ild1 dX6_market_5 ?_
  refine V_callS ls_X6_99 (mk_isSheet _) dX6_market_6 (dep hX (by decide)) rfl (Nat.le_of_ble_eq_true rfl) ?_
  refine V_if_ne 14 dX6_market_9 (by decide) (fun c9 => ?_) (fun c9 => ?_)
  · try rw [b2i_ne] at c9
    exact absurd c9 hk
  · try rw [b2i_eq] at c9
    try rw [Decidable.not_not] at c9
    refine V_iconst (-1) dX6_market_12 (by decide) ?_
    exact V_iret hX dX6_market_13 rfl rfl rfl
set_option maxRecDepth 100000 in
set_option maxHeartbeats 4000000 in
theorem mk_yearN (k : Int32) (hk : ¬ shI k) (l i n w : Int32) : Ok 2 yX6_year cX6_year 11 (some .int) D tc [.ref (B 0), .int k, .int l, .int i, .int n, .int w] (mW B tc τ) (some (.int (-1))) (mW B tc (um τ 0 0 0)) := by
  refine Ok_of RX6 rfl (by decide) [some (.ref (B 0)), some (.int k), some (.int l), some (.int i), some (.int n), some (.int w), none, none, none, none, none] rfl (Nat.le_of_ble_eq_true rfl) ?_
  intro X hX
  refine V_ald0 dX6_year_0 ?_
  refine V_iconst 0 dX6_year_1 (by decide) ?_
  refine V_puti lp_X6_80 dX6_year_2 mW_obj (Nat.le_of_ble_eq_true rfl) (mW_p0 _) ?_
  refine V_ild1 dX6_year_5 ?_
  refine V_callS ls_X6_99 (mk_isSheet _) dX6_year_6 (dep hX (by decide)) rfl (Nat.le_of_ble_eq_true rfl) ?_
  refine V_if_ne 14 dX6_year_9 (by decide) (fun c9 => ?_) (fun c9 => ?_)
  · try rw [b2i_ne] at c9
    exact absurd c9 hk
  · try rw [b2i_eq] at c9
    try rw [Decidable.not_not] at c9
    refine V_iconst (-1) dX6_year_12 (by decide) ?_
    exact V_iret hX dX6_year_13 rfl rfl rfl
set_option maxRecDepth 100000 in
set_option maxHeartbeats 4000000 in
theorem mk_lose (hj : j < 4) : Ok 2 yX6_lose cX6_lose 3 (some .int) D tc [.ref (B 0), .int (nI j)] (mW B tc τ) (some (.int (Rm_lose τ j))) (mW B tc (um τ 2 j (-9))) := by
  refine Ok_of RX6 rfl (by decide) [some (.ref (B 0)), some (.int (nI j)), none] rfl (Nat.le_of_ble_eq_true rfl) ?_
  intro X hX
  refine V_ild1 dX6_lose_0 ?_
  refine V_callS ls_X6_99 (mk_isSheet _) dX6_lose_1 (dep hX (by decide)) rfl (Nat.le_of_ble_eq_true rfl) ?_
  refine V_if_ne 9 dX6_lose_4 (by decide) (fun c4 => ?_) (fun c4 => ?_)
  · try rw [b2i_ne] at c4
    try rw [Decidable.not_not] at c4
    refine V_ald0 dX6_lose_9 ?_
    refine V_get lf_X6_9 dX6_lose_10 mW_obj rfl ?_
    refine V_ild1 dX6_lose_13 ?_
    refine V_ialdk dX6_lose_14 mW_a2 ⟨hj, by decide⟩ ?_
    refine V_bipush (-9) dX6_lose_15 (by decide) ?_
    refine V_icmp_ne 24 dX6_lose_17 (by decide) (fun c17 => ?_) (fun c17 => ?_)
    · refine V_iconst 1 dX6_lose_24 (by decide) ?_
      refine V_ist2 dX6_lose_25 rfl (by decide) ?_
      refine V_ald0 dX6_lose_26 ?_
      refine V_get lf_X6_9 dX6_lose_27 mW_obj rfl ?_
      refine V_ild1 dX6_lose_30 ?_
      refine V_bipush (-9) dX6_lose_31 (by decide) ?_
      refine V_iastk dX6_lose_33 mW_a2 ⟨hj, by decide⟩ (mW_a2s _ _) ?_
      refine V_ild2 dX6_lose_34 ?_
      exact V_iret hX dX6_lose_35 rfl (by rw [Rm_lose]; first | rw [if_pos c17] | rw [if_neg c17]) rfl
    · refine V_iconst 0 dX6_lose_20 (by decide) ?_
      refine V_goto 25 dX6_lose_21 (by decide) ?_
      refine V_ist2 dX6_lose_25 rfl (by decide) ?_
      refine V_ald0 dX6_lose_26 ?_
      refine V_get lf_X6_9 dX6_lose_27 mW_obj rfl ?_
      refine V_ild1 dX6_lose_30 ?_
      refine V_bipush (-9) dX6_lose_31 (by decide) ?_
      refine V_iastk dX6_lose_33 mW_a2 ⟨hj, by decide⟩ (mW_a2s _ _) ?_
      refine V_ild2 dX6_lose_34 ?_
      exact V_iret hX dX6_lose_35 rfl (by rw [Rm_lose]; first | rw [if_pos c17] | rw [if_neg c17]) rfl
  · try rw [b2i_eq] at c4
    exact absurd (show shI (nI j) from ⟨nI_pos (by omega), by rw [show (3 : Int32) = nI 3 by decide, nI_ltI (by decide) (by omega)]; omega⟩) c4
set_option maxRecDepth 100000 in
set_option maxHeartbeats 4000000 in
theorem mk_put (hj : j < 4) (hl : ∃ n, n ≤ 60 ∧ τ 3 j = nI n) (i v : Int32) : Ok 2 yX6_put cX6_put 4 (some .int) D tc [.ref (B 0), .int (nI j), .int i, .int v] (mW B tc τ) (some (.int (Rm_put (um τ 0 0 0) j i))) (mW B tc (Sm_put (um τ 0 0 0) j i v)) := by
  refine Ok_of RX6 rfl (by decide) [some (.ref (B 0)), some (.int (nI j)), some (.int i), some (.int v)] rfl (Nat.le_of_ble_eq_true rfl) ?_
  intro X hX
  refine V_ald0 dX6_put_0 ?_
  refine V_iconst 0 dX6_put_1 (by decide) ?_
  refine V_puti lp_X6_80 dX6_put_2 mW_obj (Nat.le_of_ble_eq_true rfl) (mW_p0 _) ?_
  have hl := (show ∃ n, n ≤ 60 ∧ (um τ 0 0 0) 3 j = nI n from hl)
  generalize um τ 0 0 0 = τ at hX hl ⊢
  refine V_ild1 dX6_put_5 ?_
  refine V_callS ls_X6_99 (mk_isSheet _) dX6_put_6 (dep hX (by decide)) rfl (Nat.le_of_ble_eq_true rfl) ?_
  refine V_if_ne 14 dX6_put_9 (by decide) (fun c9 => ?_) (fun c9 => ?_)
  · try rw [b2i_ne] at c9
    try rw [Decidable.not_not] at c9
    refine V_ald0 dX6_put_14 ?_
    refine V_get lf_X6_9 dX6_put_15 mW_obj rfl ?_
    refine V_ild1 dX6_put_18 ?_
    refine V_ialdk dX6_put_19 mW_a2 ⟨hj, by decide⟩ ?_
    refine V_bipush (-9) dX6_put_20 (by decide) ?_
    refine V_icmp_ne 31 dX6_put_22 (by decide) (fun c22 => ?_) (fun c22 => ?_)
    · refine V_ild2 dX6_put_31 ?_
      refine V_iconst 0 dX6_put_32 (by decide) ?_
      refine V_ald0 dX6_put_33 ?_
      refine V_get lf_X6_13 dX6_put_34 mW_obj rfl ?_
      refine V_ild1 dX6_put_37 ?_
      refine V_ialdk dX6_put_38 mW_a3 ⟨hj, by decide⟩ ?_
      refine V_iconst 1 dX6_put_39 (by decide) ?_
      refine V_isub dX6_put_40 ?_
      refine V_callS ls_X6_86 (mk_within _ _ _) dX6_put_41 (dep hX (by decide)) rfl (Nat.le_of_ble_eq_true rfl) ?_
      refine V_if_ne 53 dX6_put_44 (by decide) (fun c44 => ?_) (fun c44 => ?_)
      · try rw [b2i_ne] at c44
        try rw [Decidable.not_not] at c44
        obtain ⟨n, hn6, hxn⟩ := hl
        obtain ⟨a, ha, ea⟩ := wi_in hn6 (by rw [← hxn]; exact c44)
        have hca : i.toNatClampNeg = a := by rw [ea]; exact nI_clamp (by omega)
        refine V_ald0 dX6_put_53 ?_
        refine V_get lf_X6_16 dX6_put_54 mW_obj rfl ?_
        refine V_bipush 60 dX6_put_57 (by decide) ?_
        refine V_ild1 dX6_put_59 ?_
        refine V_imul dX6_put_60 ?_
        refine V_ild2 dX6_put_61 ?_
        refine V_iadd dX6_put_62 ?_
        refine V_ald0 dX6_put_63 ?_
        refine V_get lf_X6_9 dX6_put_64 mW_obj rfl ?_
        refine V_ild1 dX6_put_67 ?_
        refine V_ialdk dX6_put_68 mW_a2 ⟨hj, by decide⟩ ?_
        refine V_if_ne 77 dX6_put_69 (by decide) (fun c69 => ?_) (fun c69 => ?_)
        · refine V_ald0 dX6_put_77 ?_
          refine V_get lf_X6_9 dX6_put_78 mW_obj rfl ?_
          refine V_ild1 dX6_put_81 ?_
          refine V_ialdk dX6_put_82 mW_a2 ⟨hj, by decide⟩ ?_
          refine V_iconst 1 dX6_put_83 (by decide) ?_
          refine V_icmp_ne 92 dX6_put_84 (by decide) (fun c84 => ?_) (fun c84 => ?_)
          · refine V_ild3 dX6_put_92 ?_
            refine V_top (y := cuM (τ 2 j) v) (by rw [cuM]; first | rw [if_pos c69] | rw [if_neg c69, if_pos c84] | rw [if_neg c69, if_neg c84]) ?_
            refine V_iastk0 (k := nI (i6 j a)) (by rw [ea]; exact ix6 j a) ?_
            refine V_iastk dX6_put_93 mW_a4 ⟨by unfold i6; omega, by decide⟩ (mW_a4s _ _) ?_
            refine V_iconst 1 dX6_put_94 (by decide) ?_
            exact V_iret hX dX6_put_95 rfl (by (try first | replace c9 := eq_false c9 | replace c9 := eq_true c9); (try first | replace c22 := eq_false c22 | replace c22 := eq_true c22); (try first | replace c44 := eq_false c44 | replace c44 := eq_true c44); (try first | replace c69 := eq_false c69 | replace c69 := eq_true c69); (try first | replace c84 := eq_false c84 | replace c84 := eq_true c84); simp only [Rm_put, c9, c22, c44, c69, c84, not_true_eq_false, not_false_eq_true, and_self, true_and, and_true, false_and, and_false, true_or, or_true, false_or, or_false, or_self, ↓reduceIte]) (congrArg (mW B tc) (by (try first | replace c9 := eq_false c9 | replace c9 := eq_true c9); (try first | replace c22 := eq_false c22 | replace c22 := eq_true c22); (try first | replace c44 := eq_false c44 | replace c44 := eq_true c44); (try first | replace c69 := eq_false c69 | replace c69 := eq_true c69); (try first | replace c84 := eq_false c84 | replace c84 := eq_true c84); simp only [Sm_put, hca, c9, c22, c44, c69, c84, not_true_eq_false, not_false_eq_true, and_self, true_and, and_true, false_and, and_false, true_or, or_true, false_or, or_false, or_self, ↓reduceIte]))
          · refine V_ild3 dX6_put_87 ?_
            refine V_i2s dX6_put_88 ?_
            refine V_goto 93 dX6_put_89 (by decide) ?_
            refine V_top (y := cuM (τ 2 j) v) (by rw [cuM]; first | rw [if_pos c69] | rw [if_neg c69, if_pos c84] | rw [if_neg c69, if_neg c84]) ?_
            refine V_iastk0 (k := nI (i6 j a)) (by rw [ea]; exact ix6 j a) ?_
            refine V_iastk dX6_put_93 mW_a4 ⟨by unfold i6; omega, by decide⟩ (mW_a4s _ _) ?_
            refine V_iconst 1 dX6_put_94 (by decide) ?_
            exact V_iret hX dX6_put_95 rfl (by (try first | replace c9 := eq_false c9 | replace c9 := eq_true c9); (try first | replace c22 := eq_false c22 | replace c22 := eq_true c22); (try first | replace c44 := eq_false c44 | replace c44 := eq_true c44); (try first | replace c69 := eq_false c69 | replace c69 := eq_true c69); (try first | replace c84 := eq_false c84 | replace c84 := eq_true c84); simp only [Rm_put, c9, c22, c44, c69, c84, not_true_eq_false, not_false_eq_true, and_self, true_and, and_true, false_and, and_false, true_or, or_true, false_or, or_false, or_self, ↓reduceIte]) (congrArg (mW B tc) (by (try first | replace c9 := eq_false c9 | replace c9 := eq_true c9); (try first | replace c22 := eq_false c22 | replace c22 := eq_true c22); (try first | replace c44 := eq_false c44 | replace c44 := eq_true c44); (try first | replace c69 := eq_false c69 | replace c69 := eq_true c69); (try first | replace c84 := eq_false c84 | replace c84 := eq_true c84); simp only [Sm_put, hca, c9, c22, c44, c69, c84, not_true_eq_false, not_false_eq_true, and_self, true_and, and_true, false_and, and_false, true_or, or_true, false_or, or_false, or_self, ↓reduceIte]))
        · refine V_ild3 dX6_put_72 ?_
          refine V_i2b dX6_put_73 ?_
          refine V_goto 93 dX6_put_74 (by decide) ?_
          refine V_top (y := cuM (τ 2 j) v) (by rw [cuM]; first | rw [if_pos c69] | rw [if_neg c69, if_pos c84] | rw [if_neg c69, if_neg c84]) ?_
          refine V_iastk0 (k := nI (i6 j a)) (by rw [ea]; exact ix6 j a) ?_
          refine V_iastk dX6_put_93 mW_a4 ⟨by unfold i6; omega, by decide⟩ (mW_a4s _ _) ?_
          refine V_iconst 1 dX6_put_94 (by decide) ?_
          exact V_iret hX dX6_put_95 rfl (by (try first | replace c9 := eq_false c9 | replace c9 := eq_true c9); (try first | replace c22 := eq_false c22 | replace c22 := eq_true c22); (try first | replace c44 := eq_false c44 | replace c44 := eq_true c44); (try first | replace c69 := eq_false c69 | replace c69 := eq_true c69); simp only [Rm_put, c9, c22, c44, c69, not_true_eq_false, not_false_eq_true, and_self, true_and, and_true, false_and, and_false, true_or, or_true, false_or, or_false, or_self, ↓reduceIte]) (congrArg (mW B tc) (by (try first | replace c9 := eq_false c9 | replace c9 := eq_true c9); (try first | replace c22 := eq_false c22 | replace c22 := eq_true c22); (try first | replace c44 := eq_false c44 | replace c44 := eq_true c44); (try first | replace c69 := eq_false c69 | replace c69 := eq_true c69); simp only [Sm_put, hca, c9, c22, c44, c69, not_true_eq_false, not_false_eq_true, and_self, true_and, and_true, false_and, and_false, true_or, or_true, false_or, or_false, or_self, ↓reduceIte]))
      · try rw [b2i_eq] at c44
        try rw [Decidable.not_not] at c44
        refine V_ald0 dX6_put_47 ?_
        refine V_iconst 3 dX6_put_48 (by decide) ?_
        refine V_callV lm_X6_110 (mk_fails 3) dX6_put_49 mW_obj rfl (dep hX (by decide)) rfl (Nat.le_of_ble_eq_true rfl) ?_
        exact V_iret hX dX6_put_52 rfl (by (try first | replace c9 := eq_false c9 | replace c9 := eq_true c9); (try first | replace c22 := eq_false c22 | replace c22 := eq_true c22); (try first | replace c44 := eq_false c44 | replace c44 := eq_true c44); simp only [Rm_put, c9, c22, c44, not_true_eq_false, not_false_eq_true, and_self, true_and, and_true, false_and, and_false, true_or, or_true, false_or, or_false, or_self, ↓reduceIte]; try decide) (congrArg (mW B tc) (by (try first | replace c9 := eq_false c9 | replace c9 := eq_true c9); (try first | replace c22 := eq_false c22 | replace c22 := eq_true c22); (try first | replace c44 := eq_false c44 | replace c44 := eq_true c44); simp only [Sm_put, c9, c22, c44, not_true_eq_false, not_false_eq_true, and_self, true_and, and_true, false_and, and_false, true_or, or_true, false_or, or_false, or_self, ↓reduceIte]))
    · refine V_ald0 dX6_put_25 ?_
      refine V_iconst 1 dX6_put_26 (by decide) ?_
      refine V_callV lm_X6_110 (mk_fails 1) dX6_put_27 mW_obj rfl (dep hX (by decide)) rfl (Nat.le_of_ble_eq_true rfl) ?_
      exact V_iret hX dX6_put_30 rfl (by (try first | replace c9 := eq_false c9 | replace c9 := eq_true c9); (try first | replace c22 := eq_false c22 | replace c22 := eq_true c22); simp only [Rm_put, c9, c22, not_true_eq_false, not_false_eq_true, and_self, true_and, and_true, false_and, and_false, true_or, or_true, false_or, or_false, or_self, ↓reduceIte]; try decide) (congrArg (mW B tc) (by (try first | replace c9 := eq_false c9 | replace c9 := eq_true c9); (try first | replace c22 := eq_false c22 | replace c22 := eq_true c22); simp only [Sm_put, c9, c22, not_true_eq_false, not_false_eq_true, and_self, true_and, and_true, false_and, and_false, true_or, or_true, false_or, or_false, or_self, ↓reduceIte]))
  · try rw [b2i_eq] at c9
    exact absurd (show shI (nI j) from ⟨nI_pos (by omega), by rw [show (3 : Int32) = nI 3 by decide, nI_ltI (by decide) (by omega)]; omega⟩) c9
set_option maxRecDepth 100000 in
set_option maxHeartbeats 4000000 in
theorem mk_cell (hj : j < 4) (hl : ∃ n, n ≤ 60 ∧ τ 3 j = nI n) (i l : Int32) : Ok 2 yX6_cell cX6_cell 4 (some .long) D tc [.ref (B 0), .int (nI j), .int i, .int l] (mW B tc τ) (some (.long (Rm_cell (um τ 0 0 0) j i l))) (mW B tc (Sm_cell (um τ 0 0 0) j i l)) := by
  refine Ok_of RX6 rfl (by decide) [some (.ref (B 0)), some (.int (nI j)), some (.int i), some (.int l)] rfl (Nat.le_of_ble_eq_true rfl) ?_
  intro X hX
  refine V_ald0 dX6_cell_0 ?_
  refine V_iconst 0 dX6_cell_1 (by decide) ?_
  refine V_puti lp_X6_80 dX6_cell_2 mW_obj (Nat.le_of_ble_eq_true rfl) (mW_p0 _) ?_
  have hl := (show ∃ n, n ≤ 60 ∧ (um τ 0 0 0) 3 j = nI n from hl)
  generalize um τ 0 0 0 = τ at hX hl ⊢
  refine V_ild1 dX6_cell_5 ?_
  refine V_callS ls_X6_99 (mk_isSheet _) dX6_cell_6 (dep hX (by decide)) rfl (Nat.le_of_ble_eq_true rfl) ?_
  refine V_if_eq 19 dX6_cell_9 (by decide) (fun c9 => ?_) (fun c9 => ?_)
  · try rw [b2i_eq] at c9
    exact absurd (show shI (nI j) from ⟨nI_pos (by omega), by rw [show (3 : Int32) = nI 3 by decide, nI_ltI (by decide) (by omega)]; omega⟩) c9
  · try rw [b2i_ne] at c9
    try rw [Decidable.not_not] at c9
    refine V_ild3 dX6_cell_12 ?_
    refine V_callS ls_X6_103 (mk_isSort _) dX6_cell_13 (dep hX (by decide)) rfl (Nat.le_of_ble_eq_true rfl) ?_
    refine V_if_ne 23 dX6_cell_16 (by decide) (fun c16 => ?_) (fun c16 => ?_)
    · try rw [b2i_ne] at c16
      try rw [Decidable.not_not] at c16
      refine V_ald0 dX6_cell_23 ?_
      refine V_get lf_X6_9 dX6_cell_24 mW_obj rfl ?_
      refine V_ild1 dX6_cell_27 ?_
      refine V_ialdk dX6_cell_28 mW_a2 ⟨hj, by decide⟩ ?_
      refine V_bipush (-9) dX6_cell_29 (by decide) ?_
      refine V_icmp_eq 50 dX6_cell_31 (by decide) (fun c31 => ?_) (fun c31 => ?_)
      · have hN : ¬ (¬ τ 2 j = -9 ∧ ¬ τ 2 j = l) := fun h => h.1 c31
        refine V_ald0 dX6_cell_50 ?_
        refine V_get lf_X6_9 dX6_cell_51 mW_obj rfl ?_
        refine V_ild1 dX6_cell_54 ?_
        refine V_ialdk dX6_cell_55 mW_a2 ⟨hj, by decide⟩ ?_
        refine V_bipush (-9) dX6_cell_56 (by decide) ?_
        refine V_icmp_ne 67 dX6_cell_58 (by decide) (fun c58 => ?_) (fun c58 => ?_)
        · refine V_ild2 dX6_cell_67 ?_
          refine V_iconst 0 dX6_cell_68 (by decide) ?_
          refine V_ald0 dX6_cell_69 ?_
          refine V_get lf_X6_13 dX6_cell_70 mW_obj rfl ?_
          refine V_ild1 dX6_cell_73 ?_
          refine V_ialdk dX6_cell_74 mW_a3 ⟨hj, by decide⟩ ?_
          refine V_iconst 1 dX6_cell_75 (by decide) ?_
          refine V_isub dX6_cell_76 ?_
          refine V_callS ls_X6_86 (mk_within _ _ _) dX6_cell_77 (dep hX (by decide)) rfl (Nat.le_of_ble_eq_true rfl) ?_
          refine V_if_ne 89 dX6_cell_80 (by decide) (fun c80 => ?_) (fun c80 => ?_)
          · try rw [b2i_ne] at c80
            try rw [Decidable.not_not] at c80
            obtain ⟨n, hn6, hxn⟩ := hl
            obtain ⟨a, ha, ea⟩ := wi_in hn6 (by rw [← hxn]; exact c80)
            have hca : i.toNatClampNeg = a := by rw [ea]; exact nI_clamp (by omega)
            refine V_ald0 dX6_cell_89 ?_
            refine V_get lf_X6_16 dX6_cell_90 mW_obj rfl ?_
            refine V_bipush 60 dX6_cell_93 (by decide) ?_
            refine V_ild1 dX6_cell_95 ?_
            refine V_imul dX6_cell_96 ?_
            refine V_ild2 dX6_cell_97 ?_
            refine V_iadd dX6_cell_98 ?_
            refine V_top (y := nI (i6 j a)) (by rw [ea]; exact ix6 j a) ?_
            refine V_ialdk dX6_cell_99 mW_a4 ⟨by unfold i6; omega, by decide⟩ ?_
            refine V_i2l dX6_cell_100 ?_
            exact V_lret hX dX6_cell_101 rfl (by rw [Rm_cell, if_pos c16, if_neg hN, if_neg c58, if_pos c80, hca]) (by rw [Sm_cell, if_pos c16, if_neg hN, if_neg c58, if_pos c80])
          · try rw [b2i_eq] at c80
            try rw [Decidable.not_not] at c80
            refine V_ald0 dX6_cell_83 ?_
            refine V_iconst 3 dX6_cell_84 (by decide) ?_
            refine V_callV lm_X6_243 (mk_lost 3) dX6_cell_85 mW_obj rfl (dep hX (by decide)) rfl (Nat.le_of_ble_eq_true rfl) ?_
            exact V_lret hX dX6_cell_88 rfl (by rw [Rm_cell, if_pos c16, if_neg hN, if_neg c58, if_neg c80]) (by rw [Sm_cell, if_pos c16, if_neg hN, if_neg c58, if_neg c80])
        · refine V_ald0 dX6_cell_61 ?_
          refine V_iconst 1 dX6_cell_62 (by decide) ?_
          refine V_callV lm_X6_243 (mk_lost 1) dX6_cell_63 mW_obj rfl (dep hX (by decide)) rfl (Nat.le_of_ble_eq_true rfl) ?_
          exact V_lret hX dX6_cell_66 rfl (by rw [Rm_cell, if_pos c16, if_neg (fun h => h.1 c58), if_pos c58]) (by rw [Sm_cell, if_pos c16, if_neg (fun h => h.1 c58), if_pos c58])
      · refine V_ald0 dX6_cell_34 ?_
        refine V_get lf_X6_9 dX6_cell_35 mW_obj rfl ?_
        refine V_ild1 dX6_cell_38 ?_
        refine V_ialdk dX6_cell_39 mW_a2 ⟨hj, by decide⟩ ?_
        refine V_ild3 dX6_cell_40 ?_
        refine V_icmp_eq 50 dX6_cell_41 (by decide) (fun c41 => ?_) (fun c41 => ?_)
        · have hN : ¬ (¬ τ 2 j = -9 ∧ ¬ τ 2 j = l) := fun h => h.2 c41
          refine V_ald0 dX6_cell_50 ?_
          refine V_get lf_X6_9 dX6_cell_51 mW_obj rfl ?_
          refine V_ild1 dX6_cell_54 ?_
          refine V_ialdk dX6_cell_55 mW_a2 ⟨hj, by decide⟩ ?_
          refine V_bipush (-9) dX6_cell_56 (by decide) ?_
          refine V_icmp_ne 67 dX6_cell_58 (by decide) (fun c58 => ?_) (fun c58 => ?_)
          · refine V_ild2 dX6_cell_67 ?_
            refine V_iconst 0 dX6_cell_68 (by decide) ?_
            refine V_ald0 dX6_cell_69 ?_
            refine V_get lf_X6_13 dX6_cell_70 mW_obj rfl ?_
            refine V_ild1 dX6_cell_73 ?_
            refine V_ialdk dX6_cell_74 mW_a3 ⟨hj, by decide⟩ ?_
            refine V_iconst 1 dX6_cell_75 (by decide) ?_
            refine V_isub dX6_cell_76 ?_
            refine V_callS ls_X6_86 (mk_within _ _ _) dX6_cell_77 (dep hX (by decide)) rfl (Nat.le_of_ble_eq_true rfl) ?_
            refine V_if_ne 89 dX6_cell_80 (by decide) (fun c80 => ?_) (fun c80 => ?_)
            · try rw [b2i_ne] at c80
              try rw [Decidable.not_not] at c80
              obtain ⟨n, hn6, hxn⟩ := hl
              obtain ⟨a, ha, ea⟩ := wi_in hn6 (by rw [← hxn]; exact c80)
              have hca : i.toNatClampNeg = a := by rw [ea]; exact nI_clamp (by omega)
              refine V_ald0 dX6_cell_89 ?_
              refine V_get lf_X6_16 dX6_cell_90 mW_obj rfl ?_
              refine V_bipush 60 dX6_cell_93 (by decide) ?_
              refine V_ild1 dX6_cell_95 ?_
              refine V_imul dX6_cell_96 ?_
              refine V_ild2 dX6_cell_97 ?_
              refine V_iadd dX6_cell_98 ?_
              refine V_top (y := nI (i6 j a)) (by rw [ea]; exact ix6 j a) ?_
              refine V_ialdk dX6_cell_99 mW_a4 ⟨by unfold i6; omega, by decide⟩ ?_
              refine V_i2l dX6_cell_100 ?_
              exact V_lret hX dX6_cell_101 rfl (by rw [Rm_cell, if_pos c16, if_neg hN, if_neg c58, if_pos c80, hca]) (by rw [Sm_cell, if_pos c16, if_neg hN, if_neg c58, if_pos c80])
            · try rw [b2i_eq] at c80
              try rw [Decidable.not_not] at c80
              refine V_ald0 dX6_cell_83 ?_
              refine V_iconst 3 dX6_cell_84 (by decide) ?_
              refine V_callV lm_X6_243 (mk_lost 3) dX6_cell_85 mW_obj rfl (dep hX (by decide)) rfl (Nat.le_of_ble_eq_true rfl) ?_
              exact V_lret hX dX6_cell_88 rfl (by rw [Rm_cell, if_pos c16, if_neg hN, if_neg c58, if_neg c80]) (by rw [Sm_cell, if_pos c16, if_neg hN, if_neg c58, if_neg c80])
          · refine V_ald0 dX6_cell_61 ?_
            refine V_iconst 1 dX6_cell_62 (by decide) ?_
            refine V_callV lm_X6_243 (mk_lost 1) dX6_cell_63 mW_obj rfl (dep hX (by decide)) rfl (Nat.le_of_ble_eq_true rfl) ?_
            exact V_lret hX dX6_cell_66 rfl (by rw [Rm_cell, if_pos c16, if_neg (fun h => h.1 c58), if_pos c58]) (by rw [Sm_cell, if_pos c16, if_neg (fun h => h.1 c58), if_pos c58])
        · refine V_ald0 dX6_cell_44 ?_
          refine V_iconst 2 dX6_cell_45 (by decide) ?_
          refine V_callV lm_X6_243 (mk_lost 2) dX6_cell_46 mW_obj rfl (dep hX (by decide)) rfl (Nat.le_of_ble_eq_true rfl) ?_
          exact V_lret hX dX6_cell_49 rfl (by rw [Rm_cell, if_pos c16, if_pos ⟨c31, c41⟩]) (by rw [Sm_cell, if_pos c16, if_pos ⟨c31, c41⟩])
    · try rw [b2i_eq] at c16
      try rw [Decidable.not_not] at c16
      refine V_ldc2 _ wC_X6_84 dX6_cell_19 ?_
      exact V_lret hX dX6_cell_22 rfl (by rw [Rm_cell, if_neg c16]) (by rw [Sm_cell, if_neg c16])
end
