/-! the calls of a MornMarket: what each answers (R), what the state is then (S) -/
def sel3 {α : Type} (w : Int32) (a b c f : α) : α := if w = 0 then a else if w = 1 then b else if w = 2 then c else f
def sel4 {α : Type} (w : Int32) (a b c d f : α) : α := if w = 0 then a else if w = 1 then b else if w = 2 then c else if w = 3 then d else f
def sel5 {α : Type} (w : Int32) (a b c d e f : α) : α := if w = 0 then a else if w = 1 then b else if w = 2 then c else if w = 3 then d else if w = 4 then e else f
theorem sel5_0 {α : Type} (a b c d e f : α) : sel5 0 a b c d e f = a := rfl
theorem sel5_1 {α : Type} (a b c d e f : α) : sel5 1 a b c d e f = b := rfl
theorem sel5_2 {α : Type} (a b c d e f : α) : sel5 2 a b c d e f = c := rfl
theorem sel5_3 {α : Type} (a b c d e f : α) : sel5 3 a b c d e f = d := rfl
theorem sel5_4 {α : Type} (a b c d e f : α) : sel5 4 a b c d e f = e := rfl
theorem sel5_d {α : Type} {w : Int32} {a b c d e f : α} (e0 : ¬ w = 0) (e1 : ¬ w = 1) (e2 : ¬ w = 2) (e3 : ¬ w = 3) (e4 : ¬ w = 4) : sel5 w a b c d e f = f := by simp only [sel5, e0, e1, e2, e3, e4, ↓reduceIte]
theorem sel4_0 {α : Type} (a b c d f : α) : sel4 0 a b c d f = a := rfl
theorem sel4_1 {α : Type} (a b c d f : α) : sel4 1 a b c d f = b := rfl
theorem sel4_2 {α : Type} (a b c d f : α) : sel4 2 a b c d f = c := rfl
theorem sel4_3 {α : Type} (a b c d f : α) : sel4 3 a b c d f = d := rfl
theorem sel4_d {α : Type} {w : Int32} {a b c d f : α} (e0 : ¬ w = 0) (e1 : ¬ w = 1) (e2 : ¬ w = 2) (e3 : ¬ w = 3) : sel4 w a b c d f = f := by simp only [sel4, e0, e1, e2, e3, ↓reduceIte]
abbrev inI (v a b : Int32) : Prop := ¬ v < a ∧ v ≤ b
def R_ofMorning (σ : St) (m w : Int32) : Int32 := if isP (σ 5 10 0) m then sel5 w (σ 5 3 m.toNatClampNeg) (σ 5 4 m.toNatClampNeg) (σ 5 5 m.toNatClampNeg) (σ 5 6 m.toNatClampNeg) (b2i (bitI (σ 5 11 0) m)) (-2) else -1
def R_ofPerson (σ : St) (M : Nat) (p w : Int32) : Int32 := if isP (σ 5 9 0) p then sel4 w (σ 5 0 p.toNatClampNeg) (σ 5 1 p.toNatClampNeg) (bcI (clC (σ 5) p M)) (otC (σ 5) p.toNatClampNeg) (-2) else -1
def R_fill (σ : St) (p v : Int32) : Int32 := if isP (σ 5 9 0) p then (if v < 0 ∨ ¬ v ≤ 99 then -2 else σ 5 0 p.toNatClampNeg) else -1
def S_fill (σ : St) (p v : Int32) : St := if isP (σ 5 9 0) p then (if v < 0 ∨ ¬ v ≤ 99 then σ else up σ 5 0 p.toNatClampNeg v) else σ
def R_rate (σ : St) (v : Int32) : Int32 := if v < 1 ∨ ¬ v ≤ 9 then -2 else if 0 < σ 5 9 0 then σ 5 7 0 else -3
def S_rate (σ : St) (v : Int32) : St := if v < 1 ∨ ¬ v ≤ 9 then σ else if 0 < σ 5 9 0 then up σ 5 7 0 v else σ
def R_fresh (σ : St) (m t : Int32) : Int32 := if isP (σ 5 10 0) m then (if t < 0 ∨ ¬ t ≤ 99 then -2 else frC (σ 5) m.toNatClampNeg t) else -1
def R_price (σ : St) (m : Int32) : Int32 := if isP (σ 5 10 0) m then prC (σ 5) m.toNatClampNeg else -1
def R_sell (σ : St) (m p : Int32) : Int32 := if isP (σ 5 10 0) m ∧ isP (σ 5 9 0) p then (if csC σ 5 m.toNatClampNeg p then prC (σ 5) m.toNatClampNeg else -3) else -1
def S_sell (σ : St) (m p : Int32) : St := if isP (σ 5 10 0) m ∧ isP (σ 5 9 0) p then (if csC σ 5 m.toNatClampNeg p then hoC σ 5 m.toNatClampNeg p.toNatClampNeg (σ 5 4 m.toNatClampNeg).toNatClampNeg else σ) else σ
def R_open (σ : St) (m : Int32) : Int32 := if isP (σ 5 10 0) m then (if bitI (σ 5 11 0) m then -3 else gaC σ 5 m.toNatClampNeg (σ 5 4 m.toNatClampNeg).toNatClampNeg) else -1
def S_open (σ : St) (m : Int32) : St := if isP (σ 5 10 0) m then (if bitI (σ 5 11 0) m then σ else unC σ 5 m.toNatClampNeg (σ 5 4 m.toNatClampNeg).toNatClampNeg) else σ
def R_sleep (σ : St) (n : Int32) : Int32 := if n < 0 ∨ ¬ n ≤ 9 then -2 else if 0 < σ 5 9 0 ∧ ¬ 99 < σ 5 8 0 + n then σ 5 8 0 + n else -3
def S_sleep (σ : St) (n : Int32) : St := if n < 0 ∨ ¬ n ≤ 9 then σ else if 0 < σ 5 9 0 ∧ ¬ 99 < σ 5 8 0 + n then up σ 5 8 0 (σ 5 8 0 + n) else σ
def R_feast (σ : St) (M : Nat) (p : Int32) : Int32 := if isP (σ 5 9 0) p then feC (σ 5) p.toNatClampNeg (clC (σ 5) p M) M else -1
def R_buy (σ : St) (M : Nat) (p v w : Int32) : Int32 := if isP (σ 5 9 0) p then (if v < 0 ∨ 99 < v ∨ w < 0 ∨ ¬ w ≤ 1 then -2 else
  if (sbC (σ 5) M p.toNatClampNeg v (clC (σ 5) p M) (otsC (σ 5) (clC (σ 5) p M)) 64).1 = -9 ∨ w = 1 then (sbC (σ 5) M p.toNatClampNeg v (clC (σ 5) p M) (otsC (σ 5) (clC (σ 5) p M)) 64).1 else psC (σ 5) (sbC (σ 5) M p.toNatClampNeg v (clC (σ 5) p M) (otsC (σ 5) (clC (σ 5) p M)) 64).1 M) else -1
def R_debt (σ : St) (M : Nat) (p v w : Int32) : Int32 := if isP (σ 5 9 0) p then (if v < 0 ∨ 999 < v ∨ w < 0 ∨ ¬ w ≤ 1 then -2 else
  if (sdC (σ 5) M p.toNatClampNeg v (clC (σ 5) p M) 64).1 = -9 ∨ w = 1 then (sdC (σ 5) M p.toNatClampNeg v (clC (σ 5) p M) 64).1 else feC (σ 5) p.toNatClampNeg (clC (σ 5) p M &&& ((sdC (σ 5) M p.toNatClampNeg v (clC (σ 5) p M) 64).1 ^^^ (-1))) M) else -1
def R_reading (σ : St) (m t v : Int32) : Int32 := if isP (σ 5 10 0) m then (if t < 0 ∨ 99 < t ∨ v < 0 ∨ ¬ v ≤ 9 then -2 else if σ 9 3 0 < 8 then σ 9 3 0 else -4) else -1
def S_reading (σ : St) (m t v : Int32) : St := if isP (σ 5 10 0) m then (if t < 0 ∨ 99 < t ∨ v < 0 ∨ ¬ v ≤ 9 then σ else if σ 9 3 0 < 8 then apC σ (σ 9 3 0).toNatClampNeg m t v else σ) else σ
def R_back (σ : St) (k : Int32) : Int32 := if k < 0 ∨ ¬ k ≤ σ 9 3 0 then -2 else σ 9 3 0 - k
def S_back (σ : St) (k : Int32) : St := if k < 0 ∨ ¬ k ≤ σ 9 3 0 then σ else up σ 9 3 0 (σ 9 3 0 - k)
def R_tell (σ : St) (m : Int32) : Int32 := if isP (σ 5 10 0) m then (if σ 5 3 m.toNatClampNeg = 1 then σ 5 6 m.toNatClampNeg + 100 else if σ 5 3 m.toNatClampNeg = 2 then σ 5 6 m.toNatClampNeg + 100 + σ 5 6 m.toNatClampNeg else σ 5 6 m.toNatClampNeg) else -1
def S_tell (σ : St) (m : Int32) : St := if isP (σ 5 10 0) m then (if σ 5 3 m.toNatClampNeg = 1 then beC (beC σ 2) 1 else if σ 5 3 m.toNatClampNeg = 2 then beC (beC (beC (beC σ 3) 2) 1) 1 else beC σ 1) else σ
def R_crow (σ : St) (m : Int32) : Int32 := if isP (σ 5 10 0) m then (if σ 5 3 m.toNatClampNeg = 2 then 70 else m) else -1
def S_crow (σ : St) (m : Int32) : St := if isP (σ 5 10 0) m then (if σ 5 3 m.toNatClampNeg = 2 then beC σ 5 else beC σ 4) else σ
def R_as (σ : St) (m k : Int32) : Int32 := if isP (σ 5 10 0) m then (if k < 0 ∨ ¬ k ≤ 2 then -2 else if σ 5 3 m.toNatClampNeg < k then -12 else 1) else -1
def S_as (σ : St) (m k : Int32) : St := if isP (σ 5 10 0) m then (if k < 0 ∨ ¬ k ≤ 2 then σ else if σ 5 3 m.toNatClampNeg < k then faC σ 2 else σ) else σ
def R_many (σ : St) (w : Int32) : Int32 := sel5 w (σ 5 10 0) (σ 5 9 0) (σ 5 8 0) (σ 5 7 0) (σ 9 3 0) (-2)
section
variable {D : va_G} {tc : Tc} {A : Nat → Nat} {σ : St} {M P C : Nat}
set_option maxRecDepth 100000 in
set_option maxHeartbeats 4000000 in
theorem ok_ofMorning (hM : σ 5 10 0 = nI M) (h6 : M ≤ 6) (m w : Int32) : Ok 2 yX5_ofMorning cX5_ofMorning 3 (some .int) D tc [.ref (A 0), .int m, .int w] (cW A tc σ) (some (.int (R_ofMorning σ m w))) (cW A tc σ) := by
  refine Ok_of RX5 rfl (by decide) [some (.ref (A 0)), some (.int m), some (.int w)] rfl (Nat.le_of_ble_eq_true rfl) ?_
  intro X hX
  refine V_ald0 dX5_ofMorning_0 ?_
  refine V_get lf_X5_20 dX5_ofMorning_1 cW_main rfl ?_
  refine V_ild1 dX5_ofMorning_4 ?_
  refine V_callV lm_X5_93 (ok_isMorning now5 _) dX5_ofMorning_5 (cW_mkt now5) rfl (dep hX (by decide)) rfl (Nat.le_of_ble_eq_true rfl) ?_
  refine V_if_ne 13 dX5_ofMorning_8 (by decide) (fun c8 => ?_) (fun c8 => ?_)
  · try rw [b2i_ne] at c8
    try rw [Decidable.not_not] at c8
    obtain ⟨k, hk, ek⟩ := isP_of hM (by omega) c8
    subst ek
    have hck : (nI k).toNatClampNeg = k := nI_clamp (by omega)
    refine V_ild2 dX5_ofMorning_13 ?_
    by_cases e0 : w = 0
    · subst e0
      refine V_tableIn (off := 34) 48 dX5_ofMorning_14 (by decide) (by decide) (by decide) (by decide) ?_
      refine V_ald0 dX5_ofMorning_48 ?_
      refine V_get lf_X5_20 dX5_ofMorning_49 cW_main rfl ?_
      refine V_get lf_X5_96 dX5_ofMorning_52 (cW_mkt now5) rfl ?_
      refine V_ild1 dX5_ofMorning_55 ?_
      refine V_ialdk dX5_ofMorning_56 (cW_ma3 now5) ⟨by omega, by decide⟩ ?_
      exact V_iret hX dX5_ofMorning_57 rfl (by (try first | replace c8 := eq_false c8 | replace c8 := eq_true c8); simp only [R_ofMorning, sel5_0, hck, c8, not_true_eq_false, not_false_eq_true, and_self, true_and, and_true, false_and, and_false, true_or, or_true, false_or, or_false, or_self, ↓reduceIte]) rfl
    by_cases e1 : w = 1
    · subst e1
      refine V_tableIn (off := 44) 58 dX5_ofMorning_14 (by decide) (by decide) (by decide) (by decide) ?_
      refine V_ald0 dX5_ofMorning_58 ?_
      refine V_get lf_X5_20 dX5_ofMorning_59 cW_main rfl ?_
      refine V_get lf_X5_100 dX5_ofMorning_62 (cW_mkt now5) rfl ?_
      refine V_ild1 dX5_ofMorning_65 ?_
      refine V_ialdk dX5_ofMorning_66 (cW_ma4 now5) ⟨by omega, by decide⟩ ?_
      exact V_iret hX dX5_ofMorning_67 rfl (by (try first | replace c8 := eq_false c8 | replace c8 := eq_true c8); simp only [R_ofMorning, sel5_1, hck, c8, not_true_eq_false, not_false_eq_true, and_self, true_and, and_true, false_and, and_false, true_or, or_true, false_or, or_false, or_self, ↓reduceIte]) rfl
    by_cases e2 : w = 2
    · subst e2
      refine V_tableIn (off := 54) 68 dX5_ofMorning_14 (by decide) (by decide) (by decide) (by decide) ?_
      refine V_ald0 dX5_ofMorning_68 ?_
      refine V_get lf_X5_20 dX5_ofMorning_69 cW_main rfl ?_
      refine V_get lf_X5_103 dX5_ofMorning_72 (cW_mkt now5) rfl ?_
      refine V_ild1 dX5_ofMorning_75 ?_
      refine V_ialdk dX5_ofMorning_76 (cW_ma5 now5) ⟨by omega, by decide⟩ ?_
      exact V_iret hX dX5_ofMorning_77 rfl (by (try first | replace c8 := eq_false c8 | replace c8 := eq_true c8); simp only [R_ofMorning, sel5_2, hck, c8, not_true_eq_false, not_false_eq_true, and_self, true_and, and_true, false_and, and_false, true_or, or_true, false_or, or_false, or_self, ↓reduceIte]) rfl
    by_cases e3 : w = 3
    · subst e3
      refine V_tableIn (off := 64) 78 dX5_ofMorning_14 (by decide) (by decide) (by decide) (by decide) ?_
      refine V_ald0 dX5_ofMorning_78 ?_
      refine V_get lf_X5_20 dX5_ofMorning_79 cW_main rfl ?_
      refine V_get lf_X5_106 dX5_ofMorning_82 (cW_mkt now5) rfl ?_
      refine V_ild1 dX5_ofMorning_85 ?_
      refine V_ialdk dX5_ofMorning_86 (cW_ma6 now5) ⟨by omega, by decide⟩ ?_
      exact V_iret hX dX5_ofMorning_87 rfl (by (try first | replace c8 := eq_false c8 | replace c8 := eq_true c8); simp only [R_ofMorning, sel5_3, hck, c8, not_true_eq_false, not_false_eq_true, and_self, true_and, and_true, false_and, and_false, true_or, or_true, false_or, or_false, or_self, ↓reduceIte]) rfl
    by_cases e4 : w = 4
    · subst e4
      refine V_tableIn (off := 74) 88 dX5_ofMorning_14 (by decide) (by decide) (by decide) (by decide) ?_
      refine V_ald0 dX5_ofMorning_88 ?_
      refine V_get lf_X5_20 dX5_ofMorning_89 cW_main rfl ?_
      refine V_ild1 dX5_ofMorning_92 ?_
      refine V_callV lm_X5_109 (ok_isOpened now5 _) dX5_ofMorning_93 (cW_mkt now5) rfl (dep hX (by decide)) rfl (Nat.le_of_ble_eq_true rfl) ?_
      refine V_if_eq 103 dX5_ofMorning_96 (by decide) (fun c96 => ?_) (fun c96 => ?_)
      · try rw [b2i_eq] at c96
        try rw [Decidable.not_not] at c96
        refine V_iconst 0 dX5_ofMorning_103 (by decide) ?_
        exact V_iret hX dX5_ofMorning_104 rfl (by (try first | replace c8 := eq_false c8 | replace c8 := eq_true c8); (try first | replace c96 := eq_false c96 | replace c96 := eq_true c96); simp only [R_ofMorning, sel5_4, b2i, c8, c96, not_true_eq_false, not_false_eq_true, and_self, true_and, and_true, false_and, and_false, true_or, or_true, false_or, or_false, or_self, ↓reduceIte]) rfl
      · try rw [b2i_ne] at c96
        try rw [Decidable.not_not] at c96
        refine V_iconst 1 dX5_ofMorning_99 (by decide) ?_
        refine V_goto 104 dX5_ofMorning_100 (by decide) ?_
        exact V_iret hX dX5_ofMorning_104 rfl (by (try first | replace c8 := eq_false c8 | replace c8 := eq_true c8); (try first | replace c96 := eq_false c96 | replace c96 := eq_true c96); simp only [R_ofMorning, sel5_4, b2i, c8, c96, not_true_eq_false, not_false_eq_true, and_self, true_and, and_true, false_and, and_false, true_or, or_true, false_or, or_false, or_self, ↓reduceIte]) rfl
    refine V_tableOut 105 dX5_ofMorning_14 (swOut5 e0 e1 e2 e3 e4) (by decide) ?_
    refine V_bipush (-2) dX5_ofMorning_105 (by decide) ?_
    exact V_iret hX dX5_ofMorning_107 rfl (by (try first | replace c8 := eq_false c8 | replace c8 := eq_true c8); simp only [R_ofMorning, c8, sel5_0, sel5_1, sel5_2, sel5_3, sel5_4, sel5_d e0 e1 e2 e3 e4, hck, not_true_eq_false, not_false_eq_true, and_self, true_and, and_true, false_and, and_false, true_or, or_true, false_or, or_false, or_self, ↓reduceIte]) rfl
  · try rw [b2i_eq] at c8
    try rw [Decidable.not_not] at c8
    refine V_iconst (-1) dX5_ofMorning_11 (by decide) ?_
    exact V_iret hX dX5_ofMorning_12 rfl (by (try first | replace c8 := eq_false c8 | replace c8 := eq_true c8); simp only [R_ofMorning, c8, not_true_eq_false, not_false_eq_true, and_self, true_and, and_true, false_and, and_false, true_or, or_true, false_or, or_false, or_self, ↓reduceIte]) rfl
set_option maxRecDepth 100000 in
set_option maxHeartbeats 4000000 in
theorem ok_ofPerson (hP : σ 5 9 0 = nI P) (h4 : P ≤ 4) (hM : σ 5 10 0 = nI M) (h6 : M ≤ 6) (p w : Int32) : Ok 3 yX5_ofPerson cX5_ofPerson 3 (some .int) D tc [.ref (A 0), .int p, .int w] (cW A tc σ) (some (.int (R_ofPerson σ M p w))) (cW A tc σ) := by
  refine Ok_of RX5 rfl (by decide) [some (.ref (A 0)), some (.int p), some (.int w)] rfl (Nat.le_of_ble_eq_true rfl) ?_
  intro X hX
  refine V_ald0 dX5_ofPerson_0 ?_
  refine V_get lf_X5_20 dX5_ofPerson_1 cW_main rfl ?_
  refine V_ild1 dX5_ofPerson_4 ?_
  refine V_callV lm_X5_112 (ok_isPerson now5 _) dX5_ofPerson_5 (cW_mkt now5) rfl (dep hX (by decide)) rfl (Nat.le_of_ble_eq_true rfl) ?_
  refine V_if_ne 13 dX5_ofPerson_8 (by decide) (fun c8 => ?_) (fun c8 => ?_)
  · try rw [b2i_ne] at c8
    try rw [Decidable.not_not] at c8
    obtain ⟨j, hj, ej⟩ := isP_of hP (by omega) c8
    subst ej
    have hcj : (nI j).toNatClampNeg = j := nI_clamp (by omega)
    refine V_ild2 dX5_ofPerson_13 ?_
    by_cases e0 : w = 0
    · subst e0
      refine V_tableIn (off := 30) 44 dX5_ofPerson_14 (by decide) (by decide) (by decide) (by decide) ?_
      refine V_ald0 dX5_ofPerson_44 ?_
      refine V_get lf_X5_20 dX5_ofPerson_45 cW_main rfl ?_
      refine V_get lf_X5_115 dX5_ofPerson_48 (cW_mkt now5) rfl ?_
      refine V_ild1 dX5_ofPerson_51 ?_
      refine V_ialdk dX5_ofPerson_52 (cW_ma0 now5) ⟨by omega, by decide⟩ ?_
      exact V_iret hX dX5_ofPerson_53 rfl (by (try first | replace c8 := eq_false c8 | replace c8 := eq_true c8); simp only [R_ofPerson, sel4_0, hcj, c8, not_true_eq_false, not_false_eq_true, and_self, true_and, and_true, false_and, and_false, true_or, or_true, false_or, or_false, or_self, ↓reduceIte]) rfl
    by_cases e1 : w = 1
    · subst e1
      refine V_tableIn (off := 40) 54 dX5_ofPerson_14 (by decide) (by decide) (by decide) (by decide) ?_
      refine V_ald0 dX5_ofPerson_54 ?_
      refine V_get lf_X5_20 dX5_ofPerson_55 cW_main rfl ?_
      refine V_get lf_X5_118 dX5_ofPerson_58 (cW_mkt now5) rfl ?_
      refine V_ild1 dX5_ofPerson_61 ?_
      refine V_ialdk dX5_ofPerson_62 (cW_ma1 now5) ⟨by omega, by decide⟩ ?_
      exact V_iret hX dX5_ofPerson_63 rfl (by (try first | replace c8 := eq_false c8 | replace c8 := eq_true c8); simp only [R_ofPerson, sel4_1, hcj, c8, not_true_eq_false, not_false_eq_true, and_self, true_and, and_true, false_and, and_false, true_or, or_true, false_or, or_false, or_self, ↓reduceIte]) rfl
    by_cases e2 : w = 2
    · subst e2
      refine V_tableIn (off := 50) 64 dX5_ofPerson_14 (by decide) (by decide) (by decide) (by decide) ?_
      refine V_ald0 dX5_ofPerson_64 ?_
      refine V_get lf_X5_20 dX5_ofPerson_65 cW_main rfl ?_
      refine V_ild1 dX5_ofPerson_68 ?_
      refine V_callV lm_X5_121 (ok_closedOf now5 hM h6 _) dX5_ofPerson_69 (cW_mkt now5) rfl (dep hX (by decide)) rfl (Nat.le_of_ble_eq_true rfl) ?_
      refine V_callS ls_X5_124 (ok_bitCount _) dX5_ofPerson_72 (dep hX (by decide)) rfl (Nat.le_of_ble_eq_true rfl) ?_
      exact V_iret hX dX5_ofPerson_75 rfl (by (try first | replace c8 := eq_false c8 | replace c8 := eq_true c8); simp only [R_ofPerson, sel4_2, hcj, c8, not_true_eq_false, not_false_eq_true, and_self, true_and, and_true, false_and, and_false, true_or, or_true, false_or, or_false, or_self, ↓reduceIte]) rfl
    by_cases e3 : w = 3
    · subst e3
      refine V_tableIn (off := 62) 76 dX5_ofPerson_14 (by decide) (by decide) (by decide) (by decide) ?_
      refine V_ald0 dX5_ofPerson_76 ?_
      refine V_get lf_X5_20 dX5_ofPerson_77 cW_main rfl ?_
      refine V_ild1 dX5_ofPerson_80 ?_
      refine V_callV lm_X5_129 (ok_openedToday now5 j (by omega)) dX5_ofPerson_81 (cW_mkt now5) rfl (dep hX (by decide)) rfl (Nat.le_of_ble_eq_true rfl) ?_
      refine V_if_eq 91 dX5_ofPerson_84 (by decide) (fun c84 => ?_) (fun c84 => ?_)
      · try rw [b2i_eq] at c84
        try rw [Decidable.not_not] at c84
        refine V_iconst 0 dX5_ofPerson_91 (by decide) ?_
        exact V_iret hX dX5_ofPerson_92 rfl (by first | rw [show R_ofPerson σ M (nI j) 3 = otC (σ 5) j by simp only [R_ofPerson, eq_true c8, sel4_3, hcj, ↓reduceIte], c84] | rw [show R_ofPerson σ M (nI j) 3 = otC (σ 5) j by simp only [R_ofPerson, eq_true c8, sel4_3, hcj, ↓reduceIte], ot1 c84]) rfl
      · try rw [b2i_ne] at c84
        try rw [Decidable.not_not] at c84
        refine V_iconst 1 dX5_ofPerson_87 (by decide) ?_
        refine V_goto 92 dX5_ofPerson_88 (by decide) ?_
        exact V_iret hX dX5_ofPerson_92 rfl (by first | rw [show R_ofPerson σ M (nI j) 3 = otC (σ 5) j by simp only [R_ofPerson, eq_true c8, sel4_3, hcj, ↓reduceIte], c84] | rw [show R_ofPerson σ M (nI j) 3 = otC (σ 5) j by simp only [R_ofPerson, eq_true c8, sel4_3, hcj, ↓reduceIte], ot1 c84]) rfl
    refine V_tableOut 93 dX5_ofPerson_14 (swOut4 e0 e1 e2 e3) (by decide) ?_
    refine V_bipush (-2) dX5_ofPerson_93 (by decide) ?_
    exact V_iret hX dX5_ofPerson_95 rfl (by (try first | replace c8 := eq_false c8 | replace c8 := eq_true c8); simp only [R_ofPerson, c8, sel4_d e0 e1 e2 e3, not_true_eq_false, not_false_eq_true, and_self, true_and, and_true, false_and, and_false, true_or, or_true, false_or, or_false, or_self, ↓reduceIte]) rfl
  · try rw [b2i_eq] at c8
    try rw [Decidable.not_not] at c8
    refine V_iconst (-1) dX5_ofPerson_11 (by decide) ?_
    exact V_iret hX dX5_ofPerson_12 rfl (by (try first | replace c8 := eq_false c8 | replace c8 := eq_true c8); simp only [R_ofPerson, c8, not_true_eq_false, not_false_eq_true, and_self, true_and, and_true, false_and, and_false, true_or, or_true, false_or, or_false, or_self, ↓reduceIte]) rfl
set_option maxRecDepth 100000 in
set_option maxHeartbeats 4000000 in
theorem ok_fillP (hP : σ 5 9 0 = nI P) (h4 : P ≤ 4) (p v : Int32) : Ok 1 yX5_fill cX5_fill 4 (some .int) D tc [.ref (A 0), .int p, .int v] (cW A tc σ) (some (.int (R_fill σ p v))) (cW A tc (S_fill σ p v)) := by
  refine Ok_of RX5 rfl (by decide) [some (.ref (A 0)), some (.int p), some (.int v), none] rfl (Nat.le_of_ble_eq_true rfl) ?_
  intro X hX
  refine V_ald0 dX5_fill_0 ?_
  refine V_get lf_X5_20 dX5_fill_1 cW_main rfl ?_
  refine V_ild1 dX5_fill_4 ?_
  refine V_callV lm_X5_112 (ok_isPerson now5 _) dX5_fill_5 (cW_mkt now5) rfl (dep hX (by decide)) rfl (Nat.le_of_ble_eq_true rfl) ?_
  refine V_if_ne 13 dX5_fill_8 (by decide) (fun c8 => ?_) (fun c8 => ?_)
  · try rw [b2i_ne] at c8
    try rw [Decidable.not_not] at c8
    obtain ⟨j, hj, ej⟩ := isP_of hP (by omega) c8
    subst ej
    have hcj : (nI j).toNatClampNeg = j := nI_clamp (by omega)
    refine V_ild2 dX5_fill_13 ?_
    refine V_if_lt 23 dX5_fill_14 (by decide) (fun c14 => ?_) (fun c14 => ?_)
    · refine V_bipush (-2) dX5_fill_23 (by decide) ?_
      exact V_iret hX dX5_fill_25 rfl (by (try first | replace c8 := eq_false c8 | replace c8 := eq_true c8); (try first | replace c14 := eq_false c14 | replace c14 := eq_true c14); simp only [R_fill, hcj, c8, c14, not_true_eq_false, not_false_eq_true, and_self, true_and, and_true, false_and, and_false, true_or, or_true, false_or, or_false, or_self, ↓reduceIte]) (congrArg (cW A tc) (by (try first | replace c8 := eq_false c8 | replace c8 := eq_true c8); (try first | replace c14 := eq_false c14 | replace c14 := eq_true c14); simp only [S_fill, hcj, c8, c14, not_true_eq_false, not_false_eq_true, and_self, true_and, and_true, false_and, and_false, true_or, or_true, false_or, or_false, or_self, ↓reduceIte]))
    · refine V_ild2 dX5_fill_17 ?_
      refine V_bipush 99 dX5_fill_18 (by decide) ?_
      refine V_icmp_le 26 dX5_fill_20 (by decide) (fun c20 => ?_) (fun c20 => ?_)
      · refine V_ald0 dX5_fill_26 ?_
        refine V_get lf_X5_20 dX5_fill_27 cW_main rfl ?_
        refine V_get lf_X5_115 dX5_fill_30 (cW_mkt now5) rfl ?_
        refine V_ild1 dX5_fill_33 ?_
        refine V_ialdk dX5_fill_34 (cW_ma0 now5) ⟨by omega, by decide⟩ ?_
        refine V_ist3 dX5_fill_35 rfl (by decide) ?_
        refine V_ald0 dX5_fill_36 ?_
        refine V_get lf_X5_20 dX5_fill_37 cW_main rfl ?_
        refine V_get lf_X5_115 dX5_fill_40 (cW_mkt now5) rfl ?_
        refine V_ild1 dX5_fill_43 ?_
        refine V_ild2 dX5_fill_44 ?_
        refine V_iastk dX5_fill_45 (cW_ma0 now5) ⟨by omega, by decide⟩ (cW_ma0s now5 _ _) ?_
        refine V_ild3 dX5_fill_46 ?_
        exact V_iret hX dX5_fill_47 rfl (by (try first | replace c8 := eq_false c8 | replace c8 := eq_true c8); (try first | replace c14 := eq_false c14 | replace c14 := eq_true c14); (try first | replace c20 := eq_false c20 | replace c20 := eq_true c20); simp only [R_fill, hcj, c8, c14, c20, not_true_eq_false, not_false_eq_true, and_self, true_and, and_true, false_and, and_false, true_or, or_true, false_or, or_false, or_self, ↓reduceIte]) (congrArg (cW A tc) (by (try first | replace c8 := eq_false c8 | replace c8 := eq_true c8); (try first | replace c14 := eq_false c14 | replace c14 := eq_true c14); (try first | replace c20 := eq_false c20 | replace c20 := eq_true c20); simp only [S_fill, hcj, c8, c14, c20, not_true_eq_false, not_false_eq_true, and_self, true_and, and_true, false_and, and_false, true_or, or_true, false_or, or_false, or_self, ↓reduceIte]))
      · refine V_bipush (-2) dX5_fill_23 (by decide) ?_
        exact V_iret hX dX5_fill_25 rfl (by (try first | replace c8 := eq_false c8 | replace c8 := eq_true c8); (try first | replace c14 := eq_false c14 | replace c14 := eq_true c14); (try first | replace c20 := eq_false c20 | replace c20 := eq_true c20); simp only [R_fill, hcj, c8, c14, c20, not_true_eq_false, not_false_eq_true, and_self, true_and, and_true, false_and, and_false, true_or, or_true, false_or, or_false, or_self, ↓reduceIte]) (congrArg (cW A tc) (by (try first | replace c8 := eq_false c8 | replace c8 := eq_true c8); (try first | replace c14 := eq_false c14 | replace c14 := eq_true c14); (try first | replace c20 := eq_false c20 | replace c20 := eq_true c20); simp only [S_fill, hcj, c8, c14, c20, not_true_eq_false, not_false_eq_true, and_self, true_and, and_true, false_and, and_false, true_or, or_true, false_or, or_false, or_self, ↓reduceIte]))
  · try rw [b2i_eq] at c8
    try rw [Decidable.not_not] at c8
    refine V_iconst (-1) dX5_fill_11 (by decide) ?_
    exact V_iret hX dX5_fill_12 rfl (by (try first | replace c8 := eq_false c8 | replace c8 := eq_true c8); simp only [R_fill, c8, not_true_eq_false, not_false_eq_true, and_self, true_and, and_true, false_and, and_false, true_or, or_true, false_or, or_false, or_self, ↓reduceIte]) (congrArg (cW A tc) (by (try first | replace c8 := eq_false c8 | replace c8 := eq_true c8); simp only [S_fill, c8, not_true_eq_false, not_false_eq_true, and_self, true_and, and_true, false_and, and_false, true_or, or_true, false_or, or_false, or_self, ↓reduceIte]))
set_option maxRecDepth 100000 in
set_option maxHeartbeats 4000000 in
theorem ok_rate (v : Int32) : Ok 1 yX5_rate cX5_rate 3 (some .int) D tc [.ref (A 0), .int v] (cW A tc σ) (some (.int (R_rate σ v))) (cW A tc (S_rate σ v)) := by
  refine Ok_of RX5 rfl (by decide) [some (.ref (A 0)), some (.int v), none] rfl (Nat.le_of_ble_eq_true rfl) ?_
  intro X hX
  refine V_ild1 dX5_rate_0 ?_
  refine V_iconst 1 dX5_rate_1 (by decide) ?_
  refine V_icmp_lt 11 dX5_rate_2 (by decide) (fun c2 => ?_) (fun c2 => ?_)
  · refine V_bipush (-2) dX5_rate_11 (by decide) ?_
    exact V_iret hX dX5_rate_13 rfl (by (try first | replace c2 := eq_false c2 | replace c2 := eq_true c2); simp only [R_rate, c2, not_true_eq_false, not_false_eq_true, and_self, true_and, and_true, false_and, and_false, true_or, or_true, false_or, or_false, or_self, ↓reduceIte]) (congrArg (cW A tc) (by (try first | replace c2 := eq_false c2 | replace c2 := eq_true c2); simp only [S_rate, c2, not_true_eq_false, not_false_eq_true, and_self, true_and, and_true, false_and, and_false, true_or, or_true, false_or, or_false, or_self, ↓reduceIte]))
  · refine V_ild1 dX5_rate_5 ?_
    refine V_bipush 9 dX5_rate_6 (by decide) ?_
    refine V_icmp_le 14 dX5_rate_8 (by decide) (fun c8 => ?_) (fun c8 => ?_)
    · refine V_ald0 dX5_rate_14 ?_
      refine V_get lf_X5_20 dX5_rate_15 cW_main rfl ?_
      refine V_callV lm_X5_132 (ok_isThere now5) dX5_rate_18 (cW_mkt now5) rfl (dep hX (by decide)) rfl (Nat.le_of_ble_eq_true rfl) ?_
      refine V_if_ne 27 dX5_rate_21 (by decide) (fun c21 => ?_) (fun c21 => ?_)
      · try rw [b2i_ne] at c21
        try rw [Decidable.not_not] at c21
        refine V_ald0 dX5_rate_27 ?_
        refine V_get lf_X5_20 dX5_rate_28 cW_main rfl ?_
        refine V_get lf_X5_135 dX5_rate_31 (cW_mkt now5) rfl ?_
        refine V_ist2 dX5_rate_34 rfl (by decide) ?_
        refine V_ald0 dX5_rate_35 ?_
        refine V_get lf_X5_20 dX5_rate_36 cW_main rfl ?_
        refine V_ild1 dX5_rate_39 ?_
        refine V_puti lp_X5_135 dX5_rate_40 (cW_mkt now5) (Nat.le_of_ble_eq_true rfl) (cW_mktp7 now5 _) ?_
        refine V_ild2 dX5_rate_43 ?_
        exact V_iret hX dX5_rate_44 rfl (by (try first | replace c2 := eq_false c2 | replace c2 := eq_true c2); (try first | replace c8 := eq_false c8 | replace c8 := eq_true c8); (try first | replace c21 := eq_false c21 | replace c21 := eq_true c21); simp only [R_rate, c2, c8, c21, not_true_eq_false, not_false_eq_true, and_self, true_and, and_true, false_and, and_false, true_or, or_true, false_or, or_false, or_self, ↓reduceIte]) (congrArg (cW A tc) (by (try first | replace c2 := eq_false c2 | replace c2 := eq_true c2); (try first | replace c8 := eq_false c8 | replace c8 := eq_true c8); (try first | replace c21 := eq_false c21 | replace c21 := eq_true c21); simp only [S_rate, c2, c8, c21, not_true_eq_false, not_false_eq_true, and_self, true_and, and_true, false_and, and_false, true_or, or_true, false_or, or_false, or_self, ↓reduceIte]))
      · try rw [b2i_eq] at c21
        try rw [Decidable.not_not] at c21
        refine V_bipush (-3) dX5_rate_24 (by decide) ?_
        exact V_iret hX dX5_rate_26 rfl (by (try first | replace c2 := eq_false c2 | replace c2 := eq_true c2); (try first | replace c8 := eq_false c8 | replace c8 := eq_true c8); (try first | replace c21 := eq_false c21 | replace c21 := eq_true c21); simp only [R_rate, c2, c8, c21, not_true_eq_false, not_false_eq_true, and_self, true_and, and_true, false_and, and_false, true_or, or_true, false_or, or_false, or_self, ↓reduceIte]) (congrArg (cW A tc) (by (try first | replace c2 := eq_false c2 | replace c2 := eq_true c2); (try first | replace c8 := eq_false c8 | replace c8 := eq_true c8); (try first | replace c21 := eq_false c21 | replace c21 := eq_true c21); simp only [S_rate, c2, c8, c21, not_true_eq_false, not_false_eq_true, and_self, true_and, and_true, false_and, and_false, true_or, or_true, false_or, or_false, or_self, ↓reduceIte]))
    · refine V_bipush (-2) dX5_rate_11 (by decide) ?_
      exact V_iret hX dX5_rate_13 rfl (by (try first | replace c2 := eq_false c2 | replace c2 := eq_true c2); (try first | replace c8 := eq_false c8 | replace c8 := eq_true c8); simp only [R_rate, c2, c8, not_true_eq_false, not_false_eq_true, and_self, true_and, and_true, false_and, and_false, true_or, or_true, false_or, or_false, or_self, ↓reduceIte]) (congrArg (cW A tc) (by (try first | replace c2 := eq_false c2 | replace c2 := eq_true c2); (try first | replace c8 := eq_false c8 | replace c8 := eq_true c8); simp only [S_rate, c2, c8, not_true_eq_false, not_false_eq_true, and_self, true_and, and_true, false_and, and_false, true_or, or_true, false_or, or_false, or_self, ↓reduceIte]))
set_option maxRecDepth 100000 in
set_option maxHeartbeats 4000000 in
theorem ok_fresh (hM : σ 5 10 0 = nI M) (h6 : M ≤ 6) (m t : Int32) : Ok 2 yX5_fresh cX5_fresh 3 (some .int) D tc [.ref (A 0), .int m, .int t] (cW A tc σ) (some (.int (R_fresh σ m t))) (cW A tc σ) := by
  refine Ok_of RX5 rfl (by decide) [some (.ref (A 0)), some (.int m), some (.int t)] rfl (Nat.le_of_ble_eq_true rfl) ?_
  intro X hX
  refine V_ald0 dX5_fresh_0 ?_
  refine V_get lf_X5_20 dX5_fresh_1 cW_main rfl ?_
  refine V_ild1 dX5_fresh_4 ?_
  refine V_callV lm_X5_93 (ok_isMorning now5 _) dX5_fresh_5 (cW_mkt now5) rfl (dep hX (by decide)) rfl (Nat.le_of_ble_eq_true rfl) ?_
  refine V_if_ne 13 dX5_fresh_8 (by decide) (fun c8 => ?_) (fun c8 => ?_)
  · try rw [b2i_ne] at c8
    try rw [Decidable.not_not] at c8
    obtain ⟨k, hk, ek⟩ := isP_of hM (by omega) c8
    subst ek
    have hck : (nI k).toNatClampNeg = k := nI_clamp (by omega)
    refine V_ild2 dX5_fresh_13 ?_
    refine V_if_lt 23 dX5_fresh_14 (by decide) (fun c14 => ?_) (fun c14 => ?_)
    · refine V_bipush (-2) dX5_fresh_23 (by decide) ?_
      exact V_iret hX dX5_fresh_25 rfl (by (try first | replace c8 := eq_false c8 | replace c8 := eq_true c8); (try first | replace c14 := eq_false c14 | replace c14 := eq_true c14); simp only [R_fresh, hck, c8, c14, not_true_eq_false, not_false_eq_true, and_self, true_and, and_true, false_and, and_false, true_or, or_true, false_or, or_false, or_self, ↓reduceIte]) rfl
    · refine V_ild2 dX5_fresh_17 ?_
      refine V_bipush 99 dX5_fresh_18 (by decide) ?_
      refine V_icmp_le 26 dX5_fresh_20 (by decide) (fun c20 => ?_) (fun c20 => ?_)
      · refine V_ald0 dX5_fresh_26 ?_
        refine V_get lf_X5_20 dX5_fresh_27 cW_main rfl ?_
        refine V_ild1 dX5_fresh_30 ?_
        refine V_ild2 dX5_fresh_31 ?_
        refine V_callV lm_X5_138 (ok_freshOn now5 k (by omega) _) dX5_fresh_32 (cW_mkt now5) rfl (dep hX (by decide)) rfl (Nat.le_of_ble_eq_true rfl) ?_
        exact V_iret hX dX5_fresh_35 rfl (by (try first | replace c8 := eq_false c8 | replace c8 := eq_true c8); (try first | replace c14 := eq_false c14 | replace c14 := eq_true c14); (try first | replace c20 := eq_false c20 | replace c20 := eq_true c20); simp only [R_fresh, hck, c8, c14, c20, not_true_eq_false, not_false_eq_true, and_self, true_and, and_true, false_and, and_false, true_or, or_true, false_or, or_false, or_self, ↓reduceIte]) rfl
      · refine V_bipush (-2) dX5_fresh_23 (by decide) ?_
        exact V_iret hX dX5_fresh_25 rfl (by (try first | replace c8 := eq_false c8 | replace c8 := eq_true c8); (try first | replace c14 := eq_false c14 | replace c14 := eq_true c14); (try first | replace c20 := eq_false c20 | replace c20 := eq_true c20); simp only [R_fresh, hck, c8, c14, c20, not_true_eq_false, not_false_eq_true, and_self, true_and, and_true, false_and, and_false, true_or, or_true, false_or, or_false, or_self, ↓reduceIte]) rfl
  · try rw [b2i_eq] at c8
    try rw [Decidable.not_not] at c8
    refine V_iconst (-1) dX5_fresh_11 (by decide) ?_
    exact V_iret hX dX5_fresh_12 rfl (by (try first | replace c8 := eq_false c8 | replace c8 := eq_true c8); simp only [R_fresh, c8, not_true_eq_false, not_false_eq_true, and_self, true_and, and_true, false_and, and_false, true_or, or_true, false_or, or_false, or_self, ↓reduceIte]) rfl
set_option maxRecDepth 100000 in
set_option maxHeartbeats 4000000 in
theorem ok_price (hM : σ 5 10 0 = nI M) (h6 : M ≤ 6) (m : Int32) : Ok 3 yX5_price cX5_price 2 (some .int) D tc [.ref (A 0), .int m] (cW A tc σ) (some (.int (R_price σ m))) (cW A tc σ) := by
  refine Ok_of RX5 rfl (by decide) [some (.ref (A 0)), some (.int m)] rfl (Nat.le_of_ble_eq_true rfl) ?_
  intro X hX
  refine V_ald0 dX5_price_0 ?_
  refine V_get lf_X5_20 dX5_price_1 cW_main rfl ?_
  refine V_ild1 dX5_price_4 ?_
  refine V_callV lm_X5_93 (ok_isMorning now5 _) dX5_price_5 (cW_mkt now5) rfl (dep hX (by decide)) rfl (Nat.le_of_ble_eq_true rfl) ?_
  refine V_if_ne 13 dX5_price_8 (by decide) (fun c8 => ?_) (fun c8 => ?_)
  · try rw [b2i_ne] at c8
    try rw [Decidable.not_not] at c8
    obtain ⟨k, hk, ek⟩ := isP_of hM (by omega) c8
    subst ek
    have hck : (nI k).toNatClampNeg = k := nI_clamp (by omega)
    refine V_ald0 dX5_price_13 ?_
    refine V_get lf_X5_20 dX5_price_14 cW_main rfl ?_
    refine V_ild1 dX5_price_17 ?_
    refine V_callV lm_X5_142 (ok_priceOf now5 k (by omega)) dX5_price_18 (cW_mkt now5) rfl (dep hX (by decide)) rfl (Nat.le_of_ble_eq_true rfl) ?_
    exact V_iret hX dX5_price_21 rfl (by (try first | replace c8 := eq_false c8 | replace c8 := eq_true c8); simp only [R_price, hck, c8, not_true_eq_false, not_false_eq_true, and_self, true_and, and_true, false_and, and_false, true_or, or_true, false_or, or_false, or_self, ↓reduceIte]) rfl
  · try rw [b2i_eq] at c8
    try rw [Decidable.not_not] at c8
    refine V_iconst (-1) dX5_price_11 (by decide) ?_
    exact V_iret hX dX5_price_12 rfl (by (try first | replace c8 := eq_false c8 | replace c8 := eq_true c8); simp only [R_price, c8, not_true_eq_false, not_false_eq_true, and_self, true_and, and_true, false_and, and_false, true_or, or_true, false_or, or_false, or_self, ↓reduceIte]) rfl
set_option maxRecDepth 100000 in
set_option maxHeartbeats 4000000 in
theorem ok_sell (hP : σ 5 9 0 = nI P) (h4 : P ≤ 4) (hM : σ 5 10 0 = nI M) (h6 : M ≤ 6) (hw : ∀ m, m < M → ∃ q, q < 4 ∧ σ 5 4 m = nI q) (m p : Int32) : Ok 4 yX5_sell cX5_sell 3 (some .int) D tc [.ref (A 0), .int m, .int p] (cW A tc σ) (some (.int (R_sell σ m p))) (cW A tc (S_sell σ m p)) := by
  refine Ok_of RX5 rfl (by decide) [some (.ref (A 0)), some (.int m), some (.int p)] rfl (Nat.le_of_ble_eq_true rfl) ?_
  intro X hX
  refine V_ald0 dX5_sell_0 ?_
  refine V_get lf_X5_20 dX5_sell_1 cW_main rfl ?_
  refine V_ild1 dX5_sell_4 ?_
  refine V_callV lm_X5_93 (ok_isMorning now5 _) dX5_sell_5 (cW_mkt now5) rfl (dep hX (by decide)) rfl (Nat.le_of_ble_eq_true rfl) ?_
  refine V_if_eq 22 dX5_sell_8 (by decide) (fun c8 => ?_) (fun c8 => ?_)
  · try rw [b2i_eq] at c8
    try rw [Decidable.not_not] at c8
    refine V_iconst (-1) dX5_sell_22 (by decide) ?_
    exact V_iret hX dX5_sell_23 rfl (by (try first | replace c8 := eq_false c8 | replace c8 := eq_true c8); simp only [R_sell, c8, not_true_eq_false, not_false_eq_true, and_self, true_and, and_true, false_and, and_false, true_or, or_true, false_or, or_false, or_self, ↓reduceIte]) (congrArg (cW A tc) (by (try first | replace c8 := eq_false c8 | replace c8 := eq_true c8); simp only [S_sell, c8, not_true_eq_false, not_false_eq_true, and_self, true_and, and_true, false_and, and_false, true_or, or_true, false_or, or_false, or_self, ↓reduceIte]))
  · try rw [b2i_ne] at c8
    try rw [Decidable.not_not] at c8
    obtain ⟨k, hk, ek⟩ := isP_of hM (by omega) c8
    subst ek
    have hck : (nI k).toNatClampNeg = k := nI_clamp (by omega)
    refine V_ald0 dX5_sell_11 ?_
    refine V_get lf_X5_20 dX5_sell_12 cW_main rfl ?_
    refine V_ild2 dX5_sell_15 ?_
    refine V_callV lm_X5_112 (ok_isPerson now5 _) dX5_sell_16 (cW_mkt now5) rfl (dep hX (by decide)) rfl (Nat.le_of_ble_eq_true rfl) ?_
    refine V_if_ne 24 dX5_sell_19 (by decide) (fun c19 => ?_) (fun c19 => ?_)
    · try rw [b2i_ne] at c19
      try rw [Decidable.not_not] at c19
      obtain ⟨j, hj, ej⟩ := isP_of hP (by omega) c19
      subst ej
      have hcj : (nI j).toNatClampNeg = j := nI_clamp (by omega)
      obtain ⟨q, hq4, hq⟩ := hw k hk
      have hcq : (σ 5 4 k).toNatClampNeg = q := by rw [hq]; exact nI_clamp (by omega)
      refine V_ald0 dX5_sell_24 ?_
      refine V_get lf_X5_20 dX5_sell_25 cW_main rfl ?_
      refine V_ild1 dX5_sell_28 ?_
      refine V_ild2 dX5_sell_29 ?_
      refine V_callV lm_X5_145 (ok_canBeSold now5 hP h4 k (by omega) _) dX5_sell_30 (cW_mkt now5) rfl (dep hX (by decide)) rfl (Nat.le_of_ble_eq_true rfl) ?_
      refine V_if_ne 39 dX5_sell_33 (by decide) (fun c33 => ?_) (fun c33 => ?_)
      · try rw [b2i_ne] at c33
        try rw [Decidable.not_not] at c33
        refine V_ald0 dX5_sell_39 ?_
        refine V_get lf_X5_20 dX5_sell_40 cW_main rfl ?_
        refine V_ild1 dX5_sell_43 ?_
        refine V_ild2 dX5_sell_44 ?_
        refine V_callV lm_X5_148 (ok_handOver now5 k j q (by omega) (by omega) hq4 hq) dX5_sell_45 (cW_mkt now5) rfl (dep hX (by decide)) rfl (Nat.le_of_ble_eq_true rfl) ?_
        exact V_iret hX dX5_sell_48 rfl (by (try first | replace c8 := eq_false c8 | replace c8 := eq_true c8); (try first | replace c19 := eq_false c19 | replace c19 := eq_true c19); (try first | replace c33 := eq_false c33 | replace c33 := eq_true c33); simp only [R_sell, hck, hcj, c8, c19, c33, not_true_eq_false, not_false_eq_true, and_self, true_and, and_true, false_and, and_false, true_or, or_true, false_or, or_false, or_self, ↓reduceIte]) (congrArg (cW A tc) (by (try first | replace c8 := eq_false c8 | replace c8 := eq_true c8); (try first | replace c19 := eq_false c19 | replace c19 := eq_true c19); (try first | replace c33 := eq_false c33 | replace c33 := eq_true c33); simp only [S_sell, hck, hcj, hcq, c8, c19, c33, not_true_eq_false, not_false_eq_true, and_self, true_and, and_true, false_and, and_false, true_or, or_true, false_or, or_false, or_self, ↓reduceIte]))
      · try rw [b2i_eq] at c33
        try rw [Decidable.not_not] at c33
        refine V_bipush (-3) dX5_sell_36 (by decide) ?_
        exact V_iret hX dX5_sell_38 rfl (by (try first | replace c8 := eq_false c8 | replace c8 := eq_true c8); (try first | replace c19 := eq_false c19 | replace c19 := eq_true c19); (try first | replace c33 := eq_false c33 | replace c33 := eq_true c33); simp only [R_sell, hck, hcj, c8, c19, c33, not_true_eq_false, not_false_eq_true, and_self, true_and, and_true, false_and, and_false, true_or, or_true, false_or, or_false, or_self, ↓reduceIte]) (congrArg (cW A tc) (by (try first | replace c8 := eq_false c8 | replace c8 := eq_true c8); (try first | replace c19 := eq_false c19 | replace c19 := eq_true c19); (try first | replace c33 := eq_false c33 | replace c33 := eq_true c33); simp only [S_sell, hck, hcj, c8, c19, c33, not_true_eq_false, not_false_eq_true, and_self, true_and, and_true, false_and, and_false, true_or, or_true, false_or, or_false, or_self, ↓reduceIte]))
    · try rw [b2i_eq] at c19
      try rw [Decidable.not_not] at c19
      refine V_iconst (-1) dX5_sell_22 (by decide) ?_
      exact V_iret hX dX5_sell_23 rfl (by (try first | replace c8 := eq_false c8 | replace c8 := eq_true c8); (try first | replace c19 := eq_false c19 | replace c19 := eq_true c19); simp only [R_sell, c8, c19, not_true_eq_false, not_false_eq_true, and_self, true_and, and_true, false_and, and_false, true_or, or_true, false_or, or_false, or_self, ↓reduceIte]) (congrArg (cW A tc) (by (try first | replace c8 := eq_false c8 | replace c8 := eq_true c8); (try first | replace c19 := eq_false c19 | replace c19 := eq_true c19); simp only [S_sell, c8, c19, not_true_eq_false, not_false_eq_true, and_self, true_and, and_true, false_and, and_false, true_or, or_true, false_or, or_false, or_self, ↓reduceIte]))
set_option maxRecDepth 100000 in
set_option maxHeartbeats 4000000 in
theorem ok_open (hM : σ 5 10 0 = nI M) (h6 : M ≤ 6) (hw : ∀ m, m < M → ∃ q, q < 4 ∧ σ 5 4 m = nI q) (m : Int32) : Ok 3 yX5_open cX5_open 2 (some .int) D tc [.ref (A 0), .int m] (cW A tc σ) (some (.int (R_open σ m))) (cW A tc (S_open σ m)) := by
  refine Ok_of RX5 rfl (by decide) [some (.ref (A 0)), some (.int m)] rfl (Nat.le_of_ble_eq_true rfl) ?_
  intro X hX
  refine V_ald0 dX5_open_0 ?_
  refine V_get lf_X5_20 dX5_open_1 cW_main rfl ?_
  refine V_ild1 dX5_open_4 ?_
  refine V_callV lm_X5_93 (ok_isMorning now5 _) dX5_open_5 (cW_mkt now5) rfl (dep hX (by decide)) rfl (Nat.le_of_ble_eq_true rfl) ?_
  refine V_if_ne 13 dX5_open_8 (by decide) (fun c8 => ?_) (fun c8 => ?_)
  · try rw [b2i_ne] at c8
    try rw [Decidable.not_not] at c8
    obtain ⟨k, hk, ek⟩ := isP_of hM (by omega) c8
    subst ek
    have hck : (nI k).toNatClampNeg = k := nI_clamp (by omega)
    obtain ⟨q, hq4, hq⟩ := hw k hk
    have hcq : (σ 5 4 k).toNatClampNeg = q := by rw [hq]; exact nI_clamp (by omega)
    refine V_ald0 dX5_open_13 ?_
    refine V_get lf_X5_20 dX5_open_14 cW_main rfl ?_
    refine V_ild1 dX5_open_17 ?_
    refine V_callV lm_X5_109 (ok_isOpened now5 _) dX5_open_18 (cW_mkt now5) rfl (dep hX (by decide)) rfl (Nat.le_of_ble_eq_true rfl) ?_
    refine V_if_eq 27 dX5_open_21 (by decide) (fun c21 => ?_) (fun c21 => ?_)
    · try rw [b2i_eq] at c21
      try rw [Decidable.not_not] at c21
      refine V_ald0 dX5_open_27 ?_
      refine V_get lf_X5_20 dX5_open_28 cW_main rfl ?_
      refine V_ild1 dX5_open_31 ?_
      refine V_callV lm_X5_151 (ok_unseal now5 k q (by omega) hq4 hq) dX5_open_32 (cW_mkt now5) rfl (dep hX (by decide)) rfl (Nat.le_of_ble_eq_true rfl) ?_
      exact V_iret hX dX5_open_35 rfl (by (try first | replace c8 := eq_false c8 | replace c8 := eq_true c8); (try first | replace c21 := eq_false c21 | replace c21 := eq_true c21); simp only [R_open, hck, hcq, c8, c21, not_true_eq_false, not_false_eq_true, and_self, true_and, and_true, false_and, and_false, true_or, or_true, false_or, or_false, or_self, ↓reduceIte]) (congrArg (cW A tc) (by (try first | replace c8 := eq_false c8 | replace c8 := eq_true c8); (try first | replace c21 := eq_false c21 | replace c21 := eq_true c21); simp only [S_open, hck, hcq, c8, c21, not_true_eq_false, not_false_eq_true, and_self, true_and, and_true, false_and, and_false, true_or, or_true, false_or, or_false, or_self, ↓reduceIte]))
    · try rw [b2i_ne] at c21
      try rw [Decidable.not_not] at c21
      refine V_bipush (-3) dX5_open_24 (by decide) ?_
      exact V_iret hX dX5_open_26 rfl (by (try first | replace c8 := eq_false c8 | replace c8 := eq_true c8); (try first | replace c21 := eq_false c21 | replace c21 := eq_true c21); simp only [R_open, hck, hcq, c8, c21, not_true_eq_false, not_false_eq_true, and_self, true_and, and_true, false_and, and_false, true_or, or_true, false_or, or_false, or_self, ↓reduceIte]) (congrArg (cW A tc) (by (try first | replace c8 := eq_false c8 | replace c8 := eq_true c8); (try first | replace c21 := eq_false c21 | replace c21 := eq_true c21); simp only [S_open, hck, hcq, c8, c21, not_true_eq_false, not_false_eq_true, and_self, true_and, and_true, false_and, and_false, true_or, or_true, false_or, or_false, or_self, ↓reduceIte]))
  · try rw [b2i_eq] at c8
    try rw [Decidable.not_not] at c8
    refine V_iconst (-1) dX5_open_11 (by decide) ?_
    exact V_iret hX dX5_open_12 rfl (by (try first | replace c8 := eq_false c8 | replace c8 := eq_true c8); simp only [R_open, c8, not_true_eq_false, not_false_eq_true, and_self, true_and, and_true, false_and, and_false, true_or, or_true, false_or, or_false, or_self, ↓reduceIte]) (congrArg (cW A tc) (by (try first | replace c8 := eq_false c8 | replace c8 := eq_true c8); simp only [S_open, c8, not_true_eq_false, not_false_eq_true, and_self, true_and, and_true, false_and, and_false, true_or, or_true, false_or, or_false, or_self, ↓reduceIte]))
set_option maxRecDepth 100000 in
set_option maxHeartbeats 4000000 in
theorem ok_sleep (n : Int32) : Ok 1 yX5_sleep cX5_sleep 2 (some .int) D tc [.ref (A 0), .int n] (cW A tc σ) (some (.int (R_sleep σ n))) (cW A tc (S_sleep σ n)) := by
  refine Ok_of RX5 rfl (by decide) [some (.ref (A 0)), some (.int n)] rfl (Nat.le_of_ble_eq_true rfl) ?_
  intro X hX
  refine V_ild1 dX5_sleep_0 ?_
  refine V_if_lt 10 dX5_sleep_1 (by decide) (fun c1 => ?_) (fun c1 => ?_)
  · refine V_bipush (-2) dX5_sleep_10 (by decide) ?_
    exact V_iret hX dX5_sleep_12 rfl (by (try first | replace c1 := eq_false c1 | replace c1 := eq_true c1); simp only [R_sleep, c1, not_true_eq_false, not_false_eq_true, and_self, true_and, and_true, false_and, and_false, true_or, or_true, false_or, or_false, or_self, ↓reduceIte]) (congrArg (cW A tc) (by (try first | replace c1 := eq_false c1 | replace c1 := eq_true c1); simp only [S_sleep, c1, not_true_eq_false, not_false_eq_true, and_self, true_and, and_true, false_and, and_false, true_or, or_true, false_or, or_false, or_self, ↓reduceIte]))
  · refine V_ild1 dX5_sleep_4 ?_
    refine V_bipush 9 dX5_sleep_5 (by decide) ?_
    refine V_icmp_le 13 dX5_sleep_7 (by decide) (fun c7 => ?_) (fun c7 => ?_)
    · refine V_ald0 dX5_sleep_13 ?_
      refine V_get lf_X5_20 dX5_sleep_14 cW_main rfl ?_
      refine V_callV lm_X5_132 (ok_isThere now5) dX5_sleep_17 (cW_mkt now5) rfl (dep hX (by decide)) rfl (Nat.le_of_ble_eq_true rfl) ?_
      refine V_if_eq 34 dX5_sleep_20 (by decide) (fun c20 => ?_) (fun c20 => ?_)
      · try rw [b2i_eq] at c20
        try rw [Decidable.not_not] at c20
        refine V_bipush (-3) dX5_sleep_34 (by decide) ?_
        exact V_iret hX dX5_sleep_36 rfl (by (try first | replace c1 := eq_false c1 | replace c1 := eq_true c1); (try first | replace c7 := eq_false c7 | replace c7 := eq_true c7); (try first | replace c20 := eq_false c20 | replace c20 := eq_true c20); simp only [R_sleep, c1, c7, c20, not_true_eq_false, not_false_eq_true, and_self, true_and, and_true, false_and, and_false, true_or, or_true, false_or, or_false, or_self, ↓reduceIte]) (congrArg (cW A tc) (by (try first | replace c1 := eq_false c1 | replace c1 := eq_true c1); (try first | replace c7 := eq_false c7 | replace c7 := eq_true c7); (try first | replace c20 := eq_false c20 | replace c20 := eq_true c20); simp only [S_sleep, c1, c7, c20, not_true_eq_false, not_false_eq_true, and_self, true_and, and_true, false_and, and_false, true_or, or_true, false_or, or_false, or_self, ↓reduceIte]))
      · try rw [b2i_ne] at c20
        try rw [Decidable.not_not] at c20
        refine V_ald0 dX5_sleep_23 ?_
        refine V_get lf_X5_20 dX5_sleep_24 cW_main rfl ?_
        refine V_ild1 dX5_sleep_27 ?_
        refine V_callV lm_X5_154 (ok_canGoBy now5 _) dX5_sleep_28 (cW_mkt now5) rfl (dep hX (by decide)) rfl (Nat.le_of_ble_eq_true rfl) ?_
        refine V_if_ne 37 dX5_sleep_31 (by decide) (fun c31 => ?_) (fun c31 => ?_)
        · try rw [b2i_ne] at c31
          try rw [Decidable.not_not] at c31
          refine V_ald0 dX5_sleep_37 ?_
          refine V_get lf_X5_20 dX5_sleep_38 cW_main rfl ?_
          refine V_dupa dX5_sleep_41 ?_
          refine V_get lf_X5_157 dX5_sleep_42 (cW_mkt now5) rfl ?_
          refine V_ild1 dX5_sleep_45 ?_
          refine V_iadd dX5_sleep_46 ?_
          refine V_puti lp_X5_157 dX5_sleep_47 (cW_mkt now5) (Nat.le_of_ble_eq_true rfl) (cW_mktp8 now5 _) ?_
          refine V_ald0 dX5_sleep_50 ?_
          refine V_get lf_X5_20 dX5_sleep_51 cW_main rfl ?_
          refine V_get lf_X5_157 dX5_sleep_54 (cW_mkt now5) rfl ?_
          refine V_top (y := σ 5 8 0 + n) (by simp [up]) ?_
          exact V_iret hX dX5_sleep_57 rfl (by (try first | replace c1 := eq_false c1 | replace c1 := eq_true c1); (try first | replace c7 := eq_false c7 | replace c7 := eq_true c7); (try first | replace c20 := eq_false c20 | replace c20 := eq_true c20); (try first | replace c31 := eq_false c31 | replace c31 := eq_true c31); simp only [R_sleep, c1, c7, c20, c31, not_true_eq_false, not_false_eq_true, and_self, true_and, and_true, false_and, and_false, true_or, or_true, false_or, or_false, or_self, ↓reduceIte]) (congrArg (cW A tc) (by (try first | replace c1 := eq_false c1 | replace c1 := eq_true c1); (try first | replace c7 := eq_false c7 | replace c7 := eq_true c7); (try first | replace c20 := eq_false c20 | replace c20 := eq_true c20); (try first | replace c31 := eq_false c31 | replace c31 := eq_true c31); simp only [S_sleep, c1, c7, c20, c31, not_true_eq_false, not_false_eq_true, and_self, true_and, and_true, false_and, and_false, true_or, or_true, false_or, or_false, or_self, ↓reduceIte]))
        · try rw [b2i_eq] at c31
          try rw [Decidable.not_not] at c31
          refine V_bipush (-3) dX5_sleep_34 (by decide) ?_
          exact V_iret hX dX5_sleep_36 rfl (by (try first | replace c1 := eq_false c1 | replace c1 := eq_true c1); (try first | replace c7 := eq_false c7 | replace c7 := eq_true c7); (try first | replace c20 := eq_false c20 | replace c20 := eq_true c20); (try first | replace c31 := eq_false c31 | replace c31 := eq_true c31); simp only [R_sleep, c1, c7, c20, c31, not_true_eq_false, not_false_eq_true, and_self, true_and, and_true, false_and, and_false, true_or, or_true, false_or, or_false, or_self, ↓reduceIte]) (congrArg (cW A tc) (by (try first | replace c1 := eq_false c1 | replace c1 := eq_true c1); (try first | replace c7 := eq_false c7 | replace c7 := eq_true c7); (try first | replace c20 := eq_false c20 | replace c20 := eq_true c20); (try first | replace c31 := eq_false c31 | replace c31 := eq_true c31); simp only [S_sleep, c1, c7, c20, c31, not_true_eq_false, not_false_eq_true, and_self, true_and, and_true, false_and, and_false, true_or, or_true, false_or, or_false, or_self, ↓reduceIte]))
    · refine V_bipush (-2) dX5_sleep_10 (by decide) ?_
      exact V_iret hX dX5_sleep_12 rfl (by (try first | replace c1 := eq_false c1 | replace c1 := eq_true c1); (try first | replace c7 := eq_false c7 | replace c7 := eq_true c7); simp only [R_sleep, c1, c7, not_true_eq_false, not_false_eq_true, and_self, true_and, and_true, false_and, and_false, true_or, or_true, false_or, or_false, or_self, ↓reduceIte]) (congrArg (cW A tc) (by (try first | replace c1 := eq_false c1 | replace c1 := eq_true c1); (try first | replace c7 := eq_false c7 | replace c7 := eq_true c7); simp only [S_sleep, c1, c7, not_true_eq_false, not_false_eq_true, and_self, true_and, and_true, false_and, and_false, true_or, or_true, false_or, or_false, or_self, ↓reduceIte]))
set_option maxRecDepth 100000 in
set_option maxHeartbeats 4000000 in
theorem ok_feast (hP : σ 5 9 0 = nI P) (h4 : P ≤ 4) (hM : σ 5 10 0 = nI M) (h6 : M ≤ 6) (p : Int32) : Ok 4 yX5_feast cX5_feast 2 (some .int) D tc [.ref (A 0), .int p] (cW A tc σ) (some (.int (R_feast σ M p))) (cW A tc σ) := by
  refine Ok_of RX5 rfl (by decide) [some (.ref (A 0)), some (.int p)] rfl (Nat.le_of_ble_eq_true rfl) ?_
  intro X hX
  refine V_ald0 dX5_feast_0 ?_
  refine V_get lf_X5_20 dX5_feast_1 cW_main rfl ?_
  refine V_ild1 dX5_feast_4 ?_
  refine V_callV lm_X5_112 (ok_isPerson now5 _) dX5_feast_5 (cW_mkt now5) rfl (dep hX (by decide)) rfl (Nat.le_of_ble_eq_true rfl) ?_
  refine V_if_ne 13 dX5_feast_8 (by decide) (fun c8 => ?_) (fun c8 => ?_)
  · try rw [b2i_ne] at c8
    try rw [Decidable.not_not] at c8
    obtain ⟨j, hj, ej⟩ := isP_of hP (by omega) c8
    subst ej
    have hcj : (nI j).toNatClampNeg = j := nI_clamp (by omega)
    refine V_ald0 dX5_feast_13 ?_
    refine V_get lf_X5_20 dX5_feast_14 cW_main rfl ?_
    refine V_ild1 dX5_feast_17 ?_
    refine V_ald0 dX5_feast_18 ?_
    refine V_get lf_X5_20 dX5_feast_19 cW_main rfl ?_
    refine V_ild1 dX5_feast_22 ?_
    refine V_callV lm_X5_121 (ok_closedOf now5 hM h6 _) dX5_feast_23 (cW_mkt now5) rfl (dep hX (by decide)) rfl (Nat.le_of_ble_eq_true rfl) ?_
    refine V_callV lm_X5_176 (ok_feastWith now5 hM h6 j (by omega) _) dX5_feast_26 (cW_mkt now5) rfl (dep hX (by decide)) rfl (Nat.le_of_ble_eq_true rfl) ?_
    exact V_iret hX dX5_feast_29 rfl (by (try first | replace c8 := eq_false c8 | replace c8 := eq_true c8); simp only [R_feast, hcj, c8, not_true_eq_false, not_false_eq_true, and_self, true_and, and_true, false_and, and_false, true_or, or_true, false_or, or_false, or_self, ↓reduceIte]) rfl
  · try rw [b2i_eq] at c8
    try rw [Decidable.not_not] at c8
    refine V_iconst (-1) dX5_feast_11 (by decide) ?_
    exact V_iret hX dX5_feast_12 rfl (by (try first | replace c8 := eq_false c8 | replace c8 := eq_true c8); simp only [R_feast, c8, not_true_eq_false, not_false_eq_true, and_self, true_and, and_true, false_and, and_false, true_or, or_true, false_or, or_false, or_self, ↓reduceIte]) rfl
set_option maxRecDepth 100000 in
set_option maxHeartbeats 4000000 in
theorem ok_buy (hP : σ 5 9 0 = nI P) (h4 : P ≤ 4) (hM : σ 5 10 0 = nI M) (h6 : M ≤ 6) (p v w : Int32) : Ok 5 yX5_buy cX5_buy 5 (some .int) D tc [.ref (A 0), .int p, .int v, .int w] (cW A tc σ) (some (.int (R_buy σ M p v w))) (cW A tc σ) := by
  refine Ok_of RX5 rfl (by decide) [some (.ref (A 0)), some (.int p), some (.int v), some (.int w), none] rfl (Nat.le_of_ble_eq_true rfl) ?_
  intro X hX
  refine V_ald0 dX5_buy_0 ?_
  refine V_get lf_X5_20 dX5_buy_1 cW_main rfl ?_
  refine V_ild1 dX5_buy_4 ?_
  refine V_callV lm_X5_112 (ok_isPerson now5 _) dX5_buy_5 (cW_mkt now5) rfl (dep hX (by decide)) rfl (Nat.le_of_ble_eq_true rfl) ?_
  refine V_if_ne 13 dX5_buy_8 (by decide) (fun c8 => ?_) (fun c8 => ?_)
  · try rw [b2i_ne] at c8
    try rw [Decidable.not_not] at c8
    obtain ⟨j, hj, ej⟩ := isP_of hP (by omega) c8
    subst ej
    have hcj : (nI j).toNatClampNeg = j := nI_clamp (by omega)
    refine V_ild2 dX5_buy_13 ?_
    refine V_if_lt 32 dX5_buy_14 (by decide) (fun c14 => ?_) (fun c14 => ?_)
    · refine V_bipush (-2) dX5_buy_32 (by decide) ?_
      exact V_iret hX dX5_buy_34 rfl (by (try first | replace c8 := eq_false c8 | replace c8 := eq_true c8); (try first | replace c14 := eq_false c14 | replace c14 := eq_true c14); simp only [R_buy, hcj, c8, c14, not_true_eq_false, not_false_eq_true, and_self, true_and, and_true, false_and, and_false, true_or, or_true, false_or, or_false, or_self, ↓reduceIte]) rfl
    · refine V_ild2 dX5_buy_17 ?_
      refine V_bipush 99 dX5_buy_18 (by decide) ?_
      refine V_icmp_gt 32 dX5_buy_20 (by decide) (fun c20 => ?_) (fun c20 => ?_)
      · refine V_bipush (-2) dX5_buy_32 (by decide) ?_
        exact V_iret hX dX5_buy_34 rfl (by (try first | replace c8 := eq_false c8 | replace c8 := eq_true c8); (try first | replace c14 := eq_false c14 | replace c14 := eq_true c14); (try first | replace c20 := eq_false c20 | replace c20 := eq_true c20); simp only [R_buy, hcj, c8, c14, c20, not_true_eq_false, not_false_eq_true, and_self, true_and, and_true, false_and, and_false, true_or, or_true, false_or, or_false, or_self, ↓reduceIte]) rfl
      · refine V_ild3 dX5_buy_23 ?_
        refine V_if_lt 32 dX5_buy_24 (by decide) (fun c24 => ?_) (fun c24 => ?_)
        · refine V_bipush (-2) dX5_buy_32 (by decide) ?_
          exact V_iret hX dX5_buy_34 rfl (by (try first | replace c8 := eq_false c8 | replace c8 := eq_true c8); (try first | replace c14 := eq_false c14 | replace c14 := eq_true c14); (try first | replace c20 := eq_false c20 | replace c20 := eq_true c20); (try first | replace c24 := eq_false c24 | replace c24 := eq_true c24); simp only [R_buy, hcj, c8, c14, c20, c24, not_true_eq_false, not_false_eq_true, and_self, true_and, and_true, false_and, and_false, true_or, or_true, false_or, or_false, or_self, ↓reduceIte]) rfl
        · refine V_ild3 dX5_buy_27 ?_
          refine V_iconst 1 dX5_buy_28 (by decide) ?_
          refine V_icmp_le 35 dX5_buy_29 (by decide) (fun c29 => ?_) (fun c29 => ?_)
          · refine V_ald0 dX5_buy_35 ?_
            refine V_ild1 dX5_buy_36 ?_
            refine V_ild2 dX5_buy_37 ?_
            refine V_callV lm_X5_189 (ok_setToBuy hM h6 j (by omega) _) dX5_buy_38 cW_main rfl (dep hX (by decide)) rfl (Nat.le_of_ble_eq_true rfl) ?_
            refine V_ist4 dX5_buy_41 rfl (by decide) ?_
            refine V_ild4 dX5_buy_43 ?_
            refine V_bipush (-9) dX5_buy_45 (by decide) ?_
            refine V_icmp_eq 55 dX5_buy_47 (by decide) (fun c47 => ?_) (fun c47 => ?_)
            · refine V_ild4 dX5_buy_55 ?_
              refine V_goto 69 dX5_buy_57 (by decide) ?_
              exact V_iret hX dX5_buy_69 rfl (by (try first | replace c8 := eq_false c8 | replace c8 := eq_true c8); (try first | replace c14 := eq_false c14 | replace c14 := eq_true c14); (try first | replace c20 := eq_false c20 | replace c20 := eq_true c20); (try first | replace c24 := eq_false c24 | replace c24 := eq_true c24); (try first | replace c29 := eq_false c29 | replace c29 := eq_true c29); (try first | replace c47 := eq_false c47 | replace c47 := eq_true c47); simp only [R_buy, hcj, c8, c14, c20, c24, c29, c47, not_true_eq_false, not_false_eq_true, and_self, true_and, and_true, false_and, and_false, true_or, or_true, false_or, or_false, or_self, ↓reduceIte]) rfl
            · refine V_ild3 dX5_buy_50 ?_
              refine V_iconst 1 dX5_buy_51 (by decide) ?_
              refine V_icmp_ne 60 dX5_buy_52 (by decide) (fun c52 => ?_) (fun c52 => ?_)
              · refine V_ald0 dX5_buy_60 ?_
                refine V_get lf_X5_20 dX5_buy_61 cW_main rfl ?_
                refine V_ild4 dX5_buy_64 ?_
                refine V_callV lm_X5_192 (ok_priceOfSet now5 hM h6 _) dX5_buy_66 (cW_mkt now5) rfl (dep hX (by decide)) rfl (Nat.le_of_ble_eq_true rfl) ?_
                exact V_iret hX dX5_buy_69 rfl (by (try first | replace c8 := eq_false c8 | replace c8 := eq_true c8); (try first | replace c14 := eq_false c14 | replace c14 := eq_true c14); (try first | replace c20 := eq_false c20 | replace c20 := eq_true c20); (try first | replace c24 := eq_false c24 | replace c24 := eq_true c24); (try first | replace c29 := eq_false c29 | replace c29 := eq_true c29); (try first | replace c47 := eq_false c47 | replace c47 := eq_true c47); (try first | replace c52 := eq_false c52 | replace c52 := eq_true c52); simp only [R_buy, hcj, c8, c14, c20, c24, c29, c47, c52, not_true_eq_false, not_false_eq_true, and_self, true_and, and_true, false_and, and_false, true_or, or_true, false_or, or_false, or_self, ↓reduceIte]) rfl
              · refine V_ild4 dX5_buy_55 ?_
                refine V_goto 69 dX5_buy_57 (by decide) ?_
                exact V_iret hX dX5_buy_69 rfl (by (try first | replace c8 := eq_false c8 | replace c8 := eq_true c8); (try first | replace c14 := eq_false c14 | replace c14 := eq_true c14); (try first | replace c20 := eq_false c20 | replace c20 := eq_true c20); (try first | replace c24 := eq_false c24 | replace c24 := eq_true c24); (try first | replace c29 := eq_false c29 | replace c29 := eq_true c29); (try first | replace c47 := eq_false c47 | replace c47 := eq_true c47); (try first | replace c52 := eq_false c52 | replace c52 := eq_true c52); simp only [R_buy, hcj, c8, c14, c20, c24, c29, c47, c52, not_true_eq_false, not_false_eq_true, and_self, true_and, and_true, false_and, and_false, true_or, or_true, false_or, or_false, or_self, ↓reduceIte]) rfl
          · refine V_bipush (-2) dX5_buy_32 (by decide) ?_
            exact V_iret hX dX5_buy_34 rfl (by (try first | replace c8 := eq_false c8 | replace c8 := eq_true c8); (try first | replace c14 := eq_false c14 | replace c14 := eq_true c14); (try first | replace c20 := eq_false c20 | replace c20 := eq_true c20); (try first | replace c24 := eq_false c24 | replace c24 := eq_true c24); (try first | replace c29 := eq_false c29 | replace c29 := eq_true c29); simp only [R_buy, hcj, c8, c14, c20, c24, c29, not_true_eq_false, not_false_eq_true, and_self, true_and, and_true, false_and, and_false, true_or, or_true, false_or, or_false, or_self, ↓reduceIte]) rfl
  · try rw [b2i_eq] at c8
    try rw [Decidable.not_not] at c8
    refine V_iconst (-1) dX5_buy_11 (by decide) ?_
    exact V_iret hX dX5_buy_12 rfl (by (try first | replace c8 := eq_false c8 | replace c8 := eq_true c8); simp only [R_buy, c8, not_true_eq_false, not_false_eq_true, and_self, true_and, and_true, false_and, and_false, true_or, or_true, false_or, or_false, or_self, ↓reduceIte]) rfl
set_option maxRecDepth 100000 in
set_option maxHeartbeats 4000000 in
theorem ok_debt (hP : σ 5 9 0 = nI P) (h4 : P ≤ 4) (hM : σ 5 10 0 = nI M) (h6 : M ≤ 6) (p v w : Int32) : Ok 5 yX5_debt cX5_debt 5 (some .int) D tc [.ref (A 0), .int p, .int v, .int w] (cW A tc σ) (some (.int (R_debt σ M p v w))) (cW A tc σ) := by
  refine Ok_of RX5 rfl (by decide) [some (.ref (A 0)), some (.int p), some (.int v), some (.int w), none] rfl (Nat.le_of_ble_eq_true rfl) ?_
  intro X hX
  refine V_ald0 dX5_debt_0 ?_
  refine V_get lf_X5_20 dX5_debt_1 cW_main rfl ?_
  refine V_ild1 dX5_debt_4 ?_
  refine V_callV lm_X5_112 (ok_isPerson now5 _) dX5_debt_5 (cW_mkt now5) rfl (dep hX (by decide)) rfl (Nat.le_of_ble_eq_true rfl) ?_
  refine V_if_ne 13 dX5_debt_8 (by decide) (fun c8 => ?_) (fun c8 => ?_)
  · try rw [b2i_ne] at c8
    try rw [Decidable.not_not] at c8
    obtain ⟨j, hj, ej⟩ := isP_of hP (by omega) c8
    subst ej
    have hcj : (nI j).toNatClampNeg = j := nI_clamp (by omega)
    refine V_ild2 dX5_debt_13 ?_
    refine V_if_lt 33 dX5_debt_14 (by decide) (fun c14 => ?_) (fun c14 => ?_)
    · refine V_bipush (-2) dX5_debt_33 (by decide) ?_
      exact V_iret hX dX5_debt_35 rfl (by (try first | replace c8 := eq_false c8 | replace c8 := eq_true c8); (try first | replace c14 := eq_false c14 | replace c14 := eq_true c14); simp only [R_debt, hcj, c8, c14, not_true_eq_false, not_false_eq_true, and_self, true_and, and_true, false_and, and_false, true_or, or_true, false_or, or_false, or_self, ↓reduceIte]) rfl
    · refine V_ild2 dX5_debt_17 ?_
      refine V_sipush 999 dX5_debt_18 (by decide) ?_
      refine V_icmp_gt 33 dX5_debt_21 (by decide) (fun c21 => ?_) (fun c21 => ?_)
      · refine V_bipush (-2) dX5_debt_33 (by decide) ?_
        exact V_iret hX dX5_debt_35 rfl (by (try first | replace c8 := eq_false c8 | replace c8 := eq_true c8); (try first | replace c14 := eq_false c14 | replace c14 := eq_true c14); (try first | replace c21 := eq_false c21 | replace c21 := eq_true c21); simp only [R_debt, hcj, c8, c14, c21, not_true_eq_false, not_false_eq_true, and_self, true_and, and_true, false_and, and_false, true_or, or_true, false_or, or_false, or_self, ↓reduceIte]) rfl
      · refine V_ild3 dX5_debt_24 ?_
        refine V_if_lt 33 dX5_debt_25 (by decide) (fun c25 => ?_) (fun c25 => ?_)
        · refine V_bipush (-2) dX5_debt_33 (by decide) ?_
          exact V_iret hX dX5_debt_35 rfl (by (try first | replace c8 := eq_false c8 | replace c8 := eq_true c8); (try first | replace c14 := eq_false c14 | replace c14 := eq_true c14); (try first | replace c21 := eq_false c21 | replace c21 := eq_true c21); (try first | replace c25 := eq_false c25 | replace c25 := eq_true c25); simp only [R_debt, hcj, c8, c14, c21, c25, not_true_eq_false, not_false_eq_true, and_self, true_and, and_true, false_and, and_false, true_or, or_true, false_or, or_false, or_self, ↓reduceIte]) rfl
        · refine V_ild3 dX5_debt_28 ?_
          refine V_iconst 1 dX5_debt_29 (by decide) ?_
          refine V_icmp_le 36 dX5_debt_30 (by decide) (fun c30 => ?_) (fun c30 => ?_)
          · refine V_ald0 dX5_debt_36 ?_
            refine V_ild1 dX5_debt_37 ?_
            refine V_ild2 dX5_debt_38 ?_
            refine V_callV lm_X5_195 (ok_setToSell hM h6 j (by omega) _) dX5_debt_39 cW_main rfl (dep hX (by decide)) rfl (Nat.le_of_ble_eq_true rfl) ?_
            refine V_ist4 dX5_debt_42 rfl (by decide) ?_
            refine V_ild4 dX5_debt_44 ?_
            refine V_bipush (-9) dX5_debt_46 (by decide) ?_
            refine V_icmp_eq 56 dX5_debt_48 (by decide) (fun c48 => ?_) (fun c48 => ?_)
            · refine V_ild4 dX5_debt_56 ?_
              refine V_goto 82 dX5_debt_58 (by decide) ?_
              exact V_iret hX dX5_debt_82 rfl (by (try first | replace c8 := eq_false c8 | replace c8 := eq_true c8); (try first | replace c14 := eq_false c14 | replace c14 := eq_true c14); (try first | replace c21 := eq_false c21 | replace c21 := eq_true c21); (try first | replace c25 := eq_false c25 | replace c25 := eq_true c25); (try first | replace c30 := eq_false c30 | replace c30 := eq_true c30); (try first | replace c48 := eq_false c48 | replace c48 := eq_true c48); simp only [R_debt, hcj, c8, c14, c21, c25, c30, c48, not_true_eq_false, not_false_eq_true, and_self, true_and, and_true, false_and, and_false, true_or, or_true, false_or, or_false, or_self, ↓reduceIte]) rfl
            · refine V_ild3 dX5_debt_51 ?_
              refine V_iconst 1 dX5_debt_52 (by decide) ?_
              refine V_icmp_ne 61 dX5_debt_53 (by decide) (fun c53 => ?_) (fun c53 => ?_)
              · refine V_ald0 dX5_debt_61 ?_
                refine V_get lf_X5_20 dX5_debt_62 cW_main rfl ?_
                refine V_ild1 dX5_debt_65 ?_
                refine V_ald0 dX5_debt_66 ?_
                refine V_get lf_X5_20 dX5_debt_67 cW_main rfl ?_
                refine V_ild1 dX5_debt_70 ?_
                refine V_callV lm_X5_121 (ok_closedOf now5 hM h6 _) dX5_debt_71 (cW_mkt now5) rfl (dep hX (by decide)) rfl (Nat.le_of_ble_eq_true rfl) ?_
                refine V_ild4 dX5_debt_74 ?_
                refine V_iconst (-1) dX5_debt_76 (by decide) ?_
                refine V_ixor dX5_debt_77 ?_
                refine V_iand dX5_debt_78 ?_
                refine V_callV lm_X5_176 (ok_feastWith now5 hM h6 j (by omega) _) dX5_debt_79 (cW_mkt now5) rfl (dep hX (by decide)) rfl (Nat.le_of_ble_eq_true rfl) ?_
                exact V_iret hX dX5_debt_82 rfl (by (try first | replace c8 := eq_false c8 | replace c8 := eq_true c8); (try first | replace c14 := eq_false c14 | replace c14 := eq_true c14); (try first | replace c21 := eq_false c21 | replace c21 := eq_true c21); (try first | replace c25 := eq_false c25 | replace c25 := eq_true c25); (try first | replace c30 := eq_false c30 | replace c30 := eq_true c30); (try first | replace c48 := eq_false c48 | replace c48 := eq_true c48); (try first | replace c53 := eq_false c53 | replace c53 := eq_true c53); simp only [R_debt, hcj, c8, c14, c21, c25, c30, c48, c53, not_true_eq_false, not_false_eq_true, and_self, true_and, and_true, false_and, and_false, true_or, or_true, false_or, or_false, or_self, ↓reduceIte]) rfl
              · refine V_ild4 dX5_debt_56 ?_
                refine V_goto 82 dX5_debt_58 (by decide) ?_
                exact V_iret hX dX5_debt_82 rfl (by (try first | replace c8 := eq_false c8 | replace c8 := eq_true c8); (try first | replace c14 := eq_false c14 | replace c14 := eq_true c14); (try first | replace c21 := eq_false c21 | replace c21 := eq_true c21); (try first | replace c25 := eq_false c25 | replace c25 := eq_true c25); (try first | replace c30 := eq_false c30 | replace c30 := eq_true c30); (try first | replace c48 := eq_false c48 | replace c48 := eq_true c48); (try first | replace c53 := eq_false c53 | replace c53 := eq_true c53); simp only [R_debt, hcj, c8, c14, c21, c25, c30, c48, c53, not_true_eq_false, not_false_eq_true, and_self, true_and, and_true, false_and, and_false, true_or, or_true, false_or, or_false, or_self, ↓reduceIte]) rfl
          · refine V_bipush (-2) dX5_debt_33 (by decide) ?_
            exact V_iret hX dX5_debt_35 rfl (by (try first | replace c8 := eq_false c8 | replace c8 := eq_true c8); (try first | replace c14 := eq_false c14 | replace c14 := eq_true c14); (try first | replace c21 := eq_false c21 | replace c21 := eq_true c21); (try first | replace c25 := eq_false c25 | replace c25 := eq_true c25); (try first | replace c30 := eq_false c30 | replace c30 := eq_true c30); simp only [R_debt, hcj, c8, c14, c21, c25, c30, not_true_eq_false, not_false_eq_true, and_self, true_and, and_true, false_and, and_false, true_or, or_true, false_or, or_false, or_self, ↓reduceIte]) rfl
  · try rw [b2i_eq] at c8
    try rw [Decidable.not_not] at c8
    refine V_iconst (-1) dX5_debt_11 (by decide) ?_
    exact V_iret hX dX5_debt_12 rfl (by (try first | replace c8 := eq_false c8 | replace c8 := eq_true c8); simp only [R_debt, c8, not_true_eq_false, not_false_eq_true, and_self, true_and, and_true, false_and, and_false, true_or, or_true, false_or, or_false, or_self, ↓reduceIte]) rfl
set_option maxRecDepth 100000 in
set_option maxHeartbeats 4000000 in
theorem ok_reading (hM : σ 5 10 0 = nI M) (h6 : M ≤ 6) (hC : σ 9 3 0 = nI C) (h8 : C ≤ 8) (m t v : Int32) : Ok 1 yX5_reading cX5_reading 4 (some .int) D tc [.ref (A 0), .int m, .int t, .int v] (cW A tc σ) (some (.int (R_reading σ m t v))) (cW A tc (S_reading σ m t v)) := by
  refine Ok_of RX5 rfl (by decide) [some (.ref (A 0)), some (.int m), some (.int t), some (.int v)] rfl (Nat.le_of_ble_eq_true rfl) ?_
  intro X hX
  refine V_ald0 dX5_reading_0 ?_
  refine V_get lf_X5_20 dX5_reading_1 cW_main rfl ?_
  refine V_ild1 dX5_reading_4 ?_
  refine V_callV lm_X5_93 (ok_isMorning now5 _) dX5_reading_5 (cW_mkt now5) rfl (dep hX (by decide)) rfl (Nat.le_of_ble_eq_true rfl) ?_
  refine V_if_ne 13 dX5_reading_8 (by decide) (fun c8 => ?_) (fun c8 => ?_)
  · try rw [b2i_ne] at c8
    try rw [Decidable.not_not] at c8
    obtain ⟨k, hk, ek⟩ := isP_of hM (by omega) c8
    subst ek
    have hck : (nI k).toNatClampNeg = k := nI_clamp (by omega)
    refine V_ild2 dX5_reading_13 ?_
    refine V_if_lt 33 dX5_reading_14 (by decide) (fun c14 => ?_) (fun c14 => ?_)
    · refine V_bipush (-2) dX5_reading_33 (by decide) ?_
      exact V_iret hX dX5_reading_35 rfl (by (try first | replace c8 := eq_false c8 | replace c8 := eq_true c8); (try first | replace c14 := eq_false c14 | replace c14 := eq_true c14); simp only [R_reading, c8, c14, not_true_eq_false, not_false_eq_true, and_self, true_and, and_true, false_and, and_false, true_or, or_true, false_or, or_false, or_self, ↓reduceIte]) (congrArg (cW A tc) (by (try first | replace c8 := eq_false c8 | replace c8 := eq_true c8); (try first | replace c14 := eq_false c14 | replace c14 := eq_true c14); simp only [S_reading, c8, c14, not_true_eq_false, not_false_eq_true, and_self, true_and, and_true, false_and, and_false, true_or, or_true, false_or, or_false, or_self, ↓reduceIte]))
    · refine V_ild2 dX5_reading_17 ?_
      refine V_bipush 99 dX5_reading_18 (by decide) ?_
      refine V_icmp_gt 33 dX5_reading_20 (by decide) (fun c20 => ?_) (fun c20 => ?_)
      · refine V_bipush (-2) dX5_reading_33 (by decide) ?_
        exact V_iret hX dX5_reading_35 rfl (by (try first | replace c8 := eq_false c8 | replace c8 := eq_true c8); (try first | replace c14 := eq_false c14 | replace c14 := eq_true c14); (try first | replace c20 := eq_false c20 | replace c20 := eq_true c20); simp only [R_reading, c8, c14, c20, not_true_eq_false, not_false_eq_true, and_self, true_and, and_true, false_and, and_false, true_or, or_true, false_or, or_false, or_self, ↓reduceIte]) (congrArg (cW A tc) (by (try first | replace c8 := eq_false c8 | replace c8 := eq_true c8); (try first | replace c14 := eq_false c14 | replace c14 := eq_true c14); (try first | replace c20 := eq_false c20 | replace c20 := eq_true c20); simp only [S_reading, c8, c14, c20, not_true_eq_false, not_false_eq_true, and_self, true_and, and_true, false_and, and_false, true_or, or_true, false_or, or_false, or_self, ↓reduceIte]))
      · refine V_ild3 dX5_reading_23 ?_
        refine V_if_lt 33 dX5_reading_24 (by decide) (fun c24 => ?_) (fun c24 => ?_)
        · refine V_bipush (-2) dX5_reading_33 (by decide) ?_
          exact V_iret hX dX5_reading_35 rfl (by (try first | replace c8 := eq_false c8 | replace c8 := eq_true c8); (try first | replace c14 := eq_false c14 | replace c14 := eq_true c14); (try first | replace c20 := eq_false c20 | replace c20 := eq_true c20); (try first | replace c24 := eq_false c24 | replace c24 := eq_true c24); simp only [R_reading, c8, c14, c20, c24, not_true_eq_false, not_false_eq_true, and_self, true_and, and_true, false_and, and_false, true_or, or_true, false_or, or_false, or_self, ↓reduceIte]) (congrArg (cW A tc) (by (try first | replace c8 := eq_false c8 | replace c8 := eq_true c8); (try first | replace c14 := eq_false c14 | replace c14 := eq_true c14); (try first | replace c20 := eq_false c20 | replace c20 := eq_true c20); (try first | replace c24 := eq_false c24 | replace c24 := eq_true c24); simp only [S_reading, c8, c14, c20, c24, not_true_eq_false, not_false_eq_true, and_self, true_and, and_true, false_and, and_false, true_or, or_true, false_or, or_false, or_self, ↓reduceIte]))
        · refine V_ild3 dX5_reading_27 ?_
          refine V_bipush 9 dX5_reading_28 (by decide) ?_
          refine V_icmp_le 36 dX5_reading_30 (by decide) (fun c30 => ?_) (fun c30 => ?_)
          · refine V_ald0 dX5_reading_36 ?_
            refine V_get lf_X5_44 dX5_reading_37 cW_main rfl ?_
            refine V_get lf_X5_87 dX5_reading_40 cW_re rfl ?_
            refine V_bipush 8 dX5_reading_43 (by decide) ?_
            refine V_icmp_lt 51 dX5_reading_45 (by decide) (fun c45 => ?_) (fun c45 => ?_)
            · have h8' : C < 8 := by
                rw [hC, show (8 : Int32) = nI 8 by decide, nI_ltI (by omega) (by decide)] at c45; exact c45
              have hcC : (σ 9 3 0).toNatClampNeg = C := by rw [hC]; exact nI_clamp (by omega)
              refine V_ald0 dX5_reading_51 ?_
              refine V_get lf_X5_44 dX5_reading_52 cW_main rfl ?_
              refine V_ild1 dX5_reading_55 ?_
              refine V_ild2 dX5_reading_56 ?_
              refine V_ild3 dX5_reading_57 ?_
              refine V_callV lm_X5_201 (ok_append hC h8' _ _ _) dX5_reading_58 cW_re rfl (dep hX (by decide)) rfl (Nat.le_of_ble_eq_true rfl) ?_
              exact V_iret hX dX5_reading_61 rfl (by (try first | replace c8 := eq_false c8 | replace c8 := eq_true c8); (try first | replace c14 := eq_false c14 | replace c14 := eq_true c14); (try first | replace c20 := eq_false c20 | replace c20 := eq_true c20); (try first | replace c24 := eq_false c24 | replace c24 := eq_true c24); (try first | replace c30 := eq_false c30 | replace c30 := eq_true c30); (try first | replace c45 := eq_false c45 | replace c45 := eq_true c45); simp only [R_reading, c8, c14, c20, c24, c30, c45, not_true_eq_false, not_false_eq_true, and_self, true_and, and_true, false_and, and_false, true_or, or_true, false_or, or_false, or_self, ↓reduceIte]; rw [hC]) (congrArg (cW A tc) (by (try first | replace c8 := eq_false c8 | replace c8 := eq_true c8); (try first | replace c14 := eq_false c14 | replace c14 := eq_true c14); (try first | replace c20 := eq_false c20 | replace c20 := eq_true c20); (try first | replace c24 := eq_false c24 | replace c24 := eq_true c24); (try first | replace c30 := eq_false c30 | replace c30 := eq_true c30); (try first | replace c45 := eq_false c45 | replace c45 := eq_true c45); simp only [S_reading, hcC, c8, c14, c20, c24, c30, c45, not_true_eq_false, not_false_eq_true, and_self, true_and, and_true, false_and, and_false, true_or, or_true, false_or, or_false, or_self, ↓reduceIte]))
            · refine V_bipush (-4) dX5_reading_48 (by decide) ?_
              exact V_iret hX dX5_reading_50 rfl (by (try first | replace c8 := eq_false c8 | replace c8 := eq_true c8); (try first | replace c14 := eq_false c14 | replace c14 := eq_true c14); (try first | replace c20 := eq_false c20 | replace c20 := eq_true c20); (try first | replace c24 := eq_false c24 | replace c24 := eq_true c24); (try first | replace c30 := eq_false c30 | replace c30 := eq_true c30); (try first | replace c45 := eq_false c45 | replace c45 := eq_true c45); simp only [R_reading, c8, c14, c20, c24, c30, c45, not_true_eq_false, not_false_eq_true, and_self, true_and, and_true, false_and, and_false, true_or, or_true, false_or, or_false, or_self, ↓reduceIte]) (congrArg (cW A tc) (by (try first | replace c8 := eq_false c8 | replace c8 := eq_true c8); (try first | replace c14 := eq_false c14 | replace c14 := eq_true c14); (try first | replace c20 := eq_false c20 | replace c20 := eq_true c20); (try first | replace c24 := eq_false c24 | replace c24 := eq_true c24); (try first | replace c30 := eq_false c30 | replace c30 := eq_true c30); (try first | replace c45 := eq_false c45 | replace c45 := eq_true c45); simp only [S_reading, c8, c14, c20, c24, c30, c45, not_true_eq_false, not_false_eq_true, and_self, true_and, and_true, false_and, and_false, true_or, or_true, false_or, or_false, or_self, ↓reduceIte]))
          · refine V_bipush (-2) dX5_reading_33 (by decide) ?_
            exact V_iret hX dX5_reading_35 rfl (by (try first | replace c8 := eq_false c8 | replace c8 := eq_true c8); (try first | replace c14 := eq_false c14 | replace c14 := eq_true c14); (try first | replace c20 := eq_false c20 | replace c20 := eq_true c20); (try first | replace c24 := eq_false c24 | replace c24 := eq_true c24); (try first | replace c30 := eq_false c30 | replace c30 := eq_true c30); simp only [R_reading, c8, c14, c20, c24, c30, not_true_eq_false, not_false_eq_true, and_self, true_and, and_true, false_and, and_false, true_or, or_true, false_or, or_false, or_self, ↓reduceIte]) (congrArg (cW A tc) (by (try first | replace c8 := eq_false c8 | replace c8 := eq_true c8); (try first | replace c14 := eq_false c14 | replace c14 := eq_true c14); (try first | replace c20 := eq_false c20 | replace c20 := eq_true c20); (try first | replace c24 := eq_false c24 | replace c24 := eq_true c24); (try first | replace c30 := eq_false c30 | replace c30 := eq_true c30); simp only [S_reading, c8, c14, c20, c24, c30, not_true_eq_false, not_false_eq_true, and_self, true_and, and_true, false_and, and_false, true_or, or_true, false_or, or_false, or_self, ↓reduceIte]))
  · try rw [b2i_eq] at c8
    try rw [Decidable.not_not] at c8
    refine V_iconst (-1) dX5_reading_11 (by decide) ?_
    exact V_iret hX dX5_reading_12 rfl (by (try first | replace c8 := eq_false c8 | replace c8 := eq_true c8); simp only [R_reading, c8, not_true_eq_false, not_false_eq_true, and_self, true_and, and_true, false_and, and_false, true_or, or_true, false_or, or_false, or_self, ↓reduceIte]) (congrArg (cW A tc) (by (try first | replace c8 := eq_false c8 | replace c8 := eq_true c8); simp only [S_reading, c8, not_true_eq_false, not_false_eq_true, and_self, true_and, and_true, false_and, and_false, true_or, or_true, false_or, or_false, or_self, ↓reduceIte]))
set_option maxRecDepth 100000 in
set_option maxHeartbeats 4000000 in
theorem ok_back (k : Int32) : Ok 0 yX5_back cX5_back 2 (some .int) D tc [.ref (A 0), .int k] (cW A tc σ) (some (.int (R_back σ k))) (cW A tc (S_back σ k)) := by
  refine Ok_of RX5 rfl (by decide) [some (.ref (A 0)), some (.int k)] rfl (Nat.le_of_ble_eq_true rfl) ?_
  intro X hX
  refine V_ild1 dX5_back_0 ?_
  refine V_if_lt 15 dX5_back_1 (by decide) (fun c1 => ?_) (fun c1 => ?_)
  · refine V_bipush (-2) dX5_back_15 (by decide) ?_
    exact V_iret hX dX5_back_17 rfl (by (try first | replace c1 := eq_false c1 | replace c1 := eq_true c1); simp only [R_back, c1, not_true_eq_false, not_false_eq_true, and_self, true_and, and_true, false_and, and_false, true_or, or_true, false_or, or_false, or_self, ↓reduceIte]) (congrArg (cW A tc) (by (try first | replace c1 := eq_false c1 | replace c1 := eq_true c1); simp only [S_back, c1, not_true_eq_false, not_false_eq_true, and_self, true_and, and_true, false_and, and_false, true_or, or_true, false_or, or_false, or_self, ↓reduceIte]))
  · refine V_ild1 dX5_back_4 ?_
    refine V_ald0 dX5_back_5 ?_
    refine V_get lf_X5_44 dX5_back_6 cW_main rfl ?_
    refine V_get lf_X5_87 dX5_back_9 cW_re rfl ?_
    refine V_icmp_le 18 dX5_back_12 (by decide) (fun c12 => ?_) (fun c12 => ?_)
    · refine V_ald0 dX5_back_18 ?_
      refine V_get lf_X5_44 dX5_back_19 cW_main rfl ?_
      refine V_dupa dX5_back_22 ?_
      refine V_get lf_X5_87 dX5_back_23 cW_re rfl ?_
      refine V_ild1 dX5_back_26 ?_
      refine V_isub dX5_back_27 ?_
      refine V_puti lp_X5_87 dX5_back_28 cW_re (Nat.le_of_ble_eq_true rfl) (cW_rep3 _) ?_
      refine V_ald0 dX5_back_31 ?_
      refine V_get lf_X5_44 dX5_back_32 cW_main rfl ?_
      refine V_get lf_X5_87 dX5_back_35 cW_re rfl ?_
      refine V_top (y := σ 9 3 0 - k) (by simp [up]) ?_
      exact V_iret hX dX5_back_38 rfl (by (try first | replace c1 := eq_false c1 | replace c1 := eq_true c1); (try first | replace c12 := eq_false c12 | replace c12 := eq_true c12); simp only [R_back, c1, c12, not_true_eq_false, not_false_eq_true, and_self, true_and, and_true, false_and, and_false, true_or, or_true, false_or, or_false, or_self, ↓reduceIte]) (congrArg (cW A tc) (by (try first | replace c1 := eq_false c1 | replace c1 := eq_true c1); (try first | replace c12 := eq_false c12 | replace c12 := eq_true c12); simp only [S_back, c1, c12, not_true_eq_false, not_false_eq_true, and_self, true_and, and_true, false_and, and_false, true_or, or_true, false_or, or_false, or_self, ↓reduceIte]))
    · refine V_bipush (-2) dX5_back_15 (by decide) ?_
      exact V_iret hX dX5_back_17 rfl (by (try first | replace c1 := eq_false c1 | replace c1 := eq_true c1); (try first | replace c12 := eq_false c12 | replace c12 := eq_true c12); simp only [R_back, c1, c12, not_true_eq_false, not_false_eq_true, and_self, true_and, and_true, false_and, and_false, true_or, or_true, false_or, or_false, or_self, ↓reduceIte]) (congrArg (cW A tc) (by (try first | replace c1 := eq_false c1 | replace c1 := eq_true c1); (try first | replace c12 := eq_false c12 | replace c12 := eq_true c12); simp only [S_back, c1, c12, not_true_eq_false, not_false_eq_true, and_self, true_and, and_true, false_and, and_false, true_or, or_true, false_or, or_false, or_self, ↓reduceIte]))
set_option maxRecDepth 100000 in
set_option maxHeartbeats 4000000 in
theorem ok_crow (hM : σ 5 10 0 = nI M) (h6 : M ≤ 6) (m : Int32) : Ok 2 yX5_crow cX5_crow 2 (some .int) D tc [.ref (A 0), .int m] (cW A tc σ) (some (.int (R_crow σ m))) (cW A tc (S_crow σ m)) := by
  refine Ok_of RX5 rfl (by decide) [some (.ref (A 0)), some (.int m)] rfl (Nat.le_of_ble_eq_true rfl) ?_
  intro X hX
  refine V_ald0 dX5_crow_0 ?_
  refine V_get lf_X5_20 dX5_crow_1 cW_main rfl ?_
  refine V_ild1 dX5_crow_4 ?_
  refine V_callV lm_X5_93 (ok_isMorning now5 _) dX5_crow_5 (cW_mkt now5) rfl (dep hX (by decide)) rfl (Nat.le_of_ble_eq_true rfl) ?_
  refine V_if_ne 13 dX5_crow_8 (by decide) (fun c8 => ?_) (fun c8 => ?_)
  · try rw [b2i_ne] at c8
    try rw [Decidable.not_not] at c8
    obtain ⟨k, hk, ek⟩ := isP_of hM (by omega) c8
    subst ek
    have hck : (nI k).toNatClampNeg = k := nI_clamp (by omega)
    refine V_ald0 dX5_crow_13 ?_
    refine V_get lf_X5_20 dX5_crow_14 cW_main rfl ?_
    refine V_get lf_X5_96 dX5_crow_17 (cW_mkt now5) rfl ?_
    refine V_ild1 dX5_crow_20 ?_
    refine V_ialdk dX5_crow_21 (cW_ma3 now5) ⟨by omega, by decide⟩ ?_
    refine V_iconst 2 dX5_crow_22 (by decide) ?_
    refine V_icmp_ne 33 dX5_crow_23 (by decide) (fun c23 => ?_) (fun c23 => ?_)
    · refine V_ald0 dX5_crow_33 ?_
      refine V_ild1 dX5_crow_34 ?_
      refine V_callV lm_X5_253 (ok_crowedByLent _) dX5_crow_35 cW_main rfl (dep hX (by decide)) rfl (Nat.le_of_ble_eq_true rfl) ?_
      exact V_iret hX dX5_crow_38 rfl (by (try first | replace c8 := eq_false c8 | replace c8 := eq_true c8); (try first | replace c23 := eq_false c23 | replace c23 := eq_true c23); simp only [R_crow, hck, c8, c23, not_true_eq_false, not_false_eq_true, and_self, true_and, and_true, false_and, and_false, true_or, or_true, false_or, or_false, or_self, ↓reduceIte]) (congrArg (cW A tc) (by (try first | replace c8 := eq_false c8 | replace c8 := eq_true c8); (try first | replace c23 := eq_false c23 | replace c23 := eq_true c23); simp only [S_crow, hck, c8, c23, not_true_eq_false, not_false_eq_true, and_self, true_and, and_true, false_and, and_false, true_or, or_true, false_or, or_false, or_self, ↓reduceIte]))
    · refine V_ald0 dX5_crow_26 ?_
      refine V_callV lm_X5_249 (ok_crowedByPainted) dX5_crow_27 cW_main rfl (dep hX (by decide)) rfl (Nat.le_of_ble_eq_true rfl) ?_
      refine V_goto 38 dX5_crow_30 (by decide) ?_
      exact V_iret hX dX5_crow_38 rfl (by (try first | replace c8 := eq_false c8 | replace c8 := eq_true c8); (try first | replace c23 := eq_false c23 | replace c23 := eq_true c23); simp only [R_crow, hck, c8, c23, not_true_eq_false, not_false_eq_true, and_self, true_and, and_true, false_and, and_false, true_or, or_true, false_or, or_false, or_self, ↓reduceIte]) (congrArg (cW A tc) (by (try first | replace c8 := eq_false c8 | replace c8 := eq_true c8); (try first | replace c23 := eq_false c23 | replace c23 := eq_true c23); simp only [S_crow, hck, c8, c23, not_true_eq_false, not_false_eq_true, and_self, true_and, and_true, false_and, and_false, true_or, or_true, false_or, or_false, or_self, ↓reduceIte]))
  · try rw [b2i_eq] at c8
    try rw [Decidable.not_not] at c8
    refine V_iconst (-1) dX5_crow_11 (by decide) ?_
    exact V_iret hX dX5_crow_12 rfl (by (try first | replace c8 := eq_false c8 | replace c8 := eq_true c8); simp only [R_crow, c8, not_true_eq_false, not_false_eq_true, and_self, true_and, and_true, false_and, and_false, true_or, or_true, false_or, or_false, or_self, ↓reduceIte]) (congrArg (cW A tc) (by (try first | replace c8 := eq_false c8 | replace c8 := eq_true c8); simp only [S_crow, c8, not_true_eq_false, not_false_eq_true, and_self, true_and, and_true, false_and, and_false, true_or, or_true, false_or, or_false, or_self, ↓reduceIte]))
set_option maxRecDepth 100000 in
set_option maxHeartbeats 4000000 in
theorem ok_as (hM : σ 5 10 0 = nI M) (h6 : M ≤ 6) (m kd : Int32) : Ok 1 yX5_as cX5_as 3 (some .int) D tc [.ref (A 0), .int m, .int kd] (cW A tc σ) (some (.int (R_as (faC σ 0) m kd))) (cW A tc (S_as (faC σ 0) m kd)) := by
  refine Ok_of RX5 rfl (by decide) [some (.ref (A 0)), some (.int m), some (.int kd)] rfl (Nat.le_of_ble_eq_true rfl) ?_
  intro X hX
  refine V_ald0 dX5_as_0 ?_
  refine V_iconst 0 dX5_as_1 (by decide) ?_
  refine V_puti lp_X5_52 dX5_as_2 cW_main (Nat.le_of_ble_eq_true rfl) (cW_mainp7 _) ?_
  have hM := (show (faC σ 0) 5 10 0 = nI M from hM)
  change V _ _ _ _ _ _ _ _ _ (cW A tc (faC σ 0))
  generalize faC σ 0 = σ at hX hM ⊢
  refine V_ald0 dX5_as_5 ?_
  refine V_get lf_X5_20 dX5_as_6 cW_main rfl ?_
  refine V_ild1 dX5_as_9 ?_
  refine V_callV lm_X5_93 (ok_isMorning now5 _) dX5_as_10 (cW_mkt now5) rfl (dep hX (by decide)) rfl (Nat.le_of_ble_eq_true rfl) ?_
  refine V_if_ne 18 dX5_as_13 (by decide) (fun c13 => ?_) (fun c13 => ?_)
  · try rw [b2i_ne] at c13
    try rw [Decidable.not_not] at c13
    obtain ⟨k, hk, ek⟩ := isP_of hM (by omega) c13
    subst ek
    have hck : (nI k).toNatClampNeg = k := nI_clamp (by omega)
    refine V_ild2 dX5_as_18 ?_
    refine V_if_lt 27 dX5_as_19 (by decide) (fun c19 => ?_) (fun c19 => ?_)
    · refine V_bipush (-2) dX5_as_27 (by decide) ?_
      exact V_iret hX dX5_as_29 rfl (by (try first | replace c13 := eq_false c13 | replace c13 := eq_true c13); (try first | replace c19 := eq_false c19 | replace c19 := eq_true c19); simp only [R_as, hck, c13, c19, not_true_eq_false, not_false_eq_true, and_self, true_and, and_true, false_and, and_false, true_or, or_true, false_or, or_false, or_self, ↓reduceIte]) (congrArg (cW A tc) (by (try first | replace c13 := eq_false c13 | replace c13 := eq_true c13); (try first | replace c19 := eq_false c19 | replace c19 := eq_true c19); simp only [S_as, hck, c13, c19, not_true_eq_false, not_false_eq_true, and_self, true_and, and_true, false_and, and_false, true_or, or_true, false_or, or_false, or_self, ↓reduceIte]))
    · refine V_ild2 dX5_as_22 ?_
      refine V_iconst 2 dX5_as_23 (by decide) ?_
      refine V_icmp_le 30 dX5_as_24 (by decide) (fun c24 => ?_) (fun c24 => ?_)
      · refine V_ald0 dX5_as_30 ?_
        refine V_get lf_X5_20 dX5_as_31 cW_main rfl ?_
        refine V_get lf_X5_96 dX5_as_34 (cW_mkt now5) rfl ?_
        refine V_ild1 dX5_as_37 ?_
        refine V_ialdk dX5_as_38 (cW_ma3 now5) ⟨by omega, by decide⟩ ?_
        refine V_ild2 dX5_as_39 ?_
        refine V_icmp_lt 47 dX5_as_40 (by decide) (fun c40 => ?_) (fun c40 => ?_)
        · refine V_ald0 dX5_as_47 ?_
          refine V_iconst 2 dX5_as_48 (by decide) ?_
          refine V_callV lm_X5_67 (ok_faulted 2) dX5_as_49 cW_main rfl (dep hX (by decide)) rfl (Nat.le_of_ble_eq_true rfl) ?_
          exact V_iret hX dX5_as_52 rfl (by (try first | replace c13 := eq_false c13 | replace c13 := eq_true c13); (try first | replace c19 := eq_false c19 | replace c19 := eq_true c19); (try first | replace c24 := eq_false c24 | replace c24 := eq_true c24); (try first | replace c40 := eq_false c40 | replace c40 := eq_true c40); simp only [R_as, hck, c13, c19, c24, c40, not_true_eq_false, not_false_eq_true, and_self, true_and, and_true, false_and, and_false, true_or, or_true, false_or, or_false, or_self, ↓reduceIte]; try decide) (congrArg (cW A tc) (by (try first | replace c13 := eq_false c13 | replace c13 := eq_true c13); (try first | replace c19 := eq_false c19 | replace c19 := eq_true c19); (try first | replace c24 := eq_false c24 | replace c24 := eq_true c24); (try first | replace c40 := eq_false c40 | replace c40 := eq_true c40); simp only [S_as, hck, c13, c19, c24, c40, not_true_eq_false, not_false_eq_true, and_self, true_and, and_true, false_and, and_false, true_or, or_true, false_or, or_false, or_self, ↓reduceIte]))
        · refine V_iconst 1 dX5_as_43 (by decide) ?_
          refine V_goto 52 dX5_as_44 (by decide) ?_
          exact V_iret hX dX5_as_52 rfl (by (try first | replace c13 := eq_false c13 | replace c13 := eq_true c13); (try first | replace c19 := eq_false c19 | replace c19 := eq_true c19); (try first | replace c24 := eq_false c24 | replace c24 := eq_true c24); (try first | replace c40 := eq_false c40 | replace c40 := eq_true c40); simp only [R_as, hck, c13, c19, c24, c40, not_true_eq_false, not_false_eq_true, and_self, true_and, and_true, false_and, and_false, true_or, or_true, false_or, or_false, or_self, ↓reduceIte]; try decide) (congrArg (cW A tc) (by (try first | replace c13 := eq_false c13 | replace c13 := eq_true c13); (try first | replace c19 := eq_false c19 | replace c19 := eq_true c19); (try first | replace c24 := eq_false c24 | replace c24 := eq_true c24); (try first | replace c40 := eq_false c40 | replace c40 := eq_true c40); simp only [S_as, hck, c13, c19, c24, c40, not_true_eq_false, not_false_eq_true, and_self, true_and, and_true, false_and, and_false, true_or, or_true, false_or, or_false, or_self, ↓reduceIte]))
      · refine V_bipush (-2) dX5_as_27 (by decide) ?_
        exact V_iret hX dX5_as_29 rfl (by (try first | replace c13 := eq_false c13 | replace c13 := eq_true c13); (try first | replace c19 := eq_false c19 | replace c19 := eq_true c19); (try first | replace c24 := eq_false c24 | replace c24 := eq_true c24); simp only [R_as, hck, c13, c19, c24, not_true_eq_false, not_false_eq_true, and_self, true_and, and_true, false_and, and_false, true_or, or_true, false_or, or_false, or_self, ↓reduceIte]) (congrArg (cW A tc) (by (try first | replace c13 := eq_false c13 | replace c13 := eq_true c13); (try first | replace c19 := eq_false c19 | replace c19 := eq_true c19); (try first | replace c24 := eq_false c24 | replace c24 := eq_true c24); simp only [S_as, hck, c13, c19, c24, not_true_eq_false, not_false_eq_true, and_self, true_and, and_true, false_and, and_false, true_or, or_true, false_or, or_false, or_self, ↓reduceIte]))
  · try rw [b2i_eq] at c13
    try rw [Decidable.not_not] at c13
    refine V_iconst (-1) dX5_as_16 (by decide) ?_
    exact V_iret hX dX5_as_17 rfl (by (try first | replace c13 := eq_false c13 | replace c13 := eq_true c13); simp only [R_as, c13, not_true_eq_false, not_false_eq_true, and_self, true_and, and_true, false_and, and_false, true_or, or_true, false_or, or_false, or_self, ↓reduceIte]) (congrArg (cW A tc) (by (try first | replace c13 := eq_false c13 | replace c13 := eq_true c13); simp only [S_as, c13, not_true_eq_false, not_false_eq_true, and_self, true_and, and_true, false_and, and_false, true_or, or_true, false_or, or_false, or_self, ↓reduceIte]))
set_option maxRecDepth 100000 in
set_option maxHeartbeats 4000000 in
theorem ok_trace : Ok 0 yX5_trace cX5_trace 1 (some .int) D tc [.ref (A 0)] (cW A tc σ) (some (.int (σ 0 6 0))) (cW A tc σ) := by
  refine Ok_of RX5 rfl (by decide) [some (.ref (A 0))] rfl (Nat.le_of_ble_eq_true rfl) ?_
  intro X hX
  refine V_ald0 dX5_trace_0 ?_
  refine V_get lf_X5_48 dX5_trace_1 cW_main rfl ?_
  exact V_iret hX dX5_trace_4 rfl rfl rfl
set_option maxRecDepth 100000 in
set_option maxHeartbeats 4000000 in
theorem ok_fault : Ok 0 yX5_fault cX5_fault 1 (some .int) D tc [.ref (A 0)] (cW A tc σ) (some (.int (σ 0 7 0))) (cW A tc σ) := by
  refine Ok_of RX5 rfl (by decide) [some (.ref (A 0))] rfl (Nat.le_of_ble_eq_true rfl) ?_
  intro X hX
  refine V_ald0 dX5_fault_0 ?_
  refine V_get lf_X5_52 dX5_fault_1 cW_main rfl ?_
  exact V_iret hX dX5_fault_4 rfl rfl rfl
set_option maxRecDepth 100000 in
set_option maxHeartbeats 4000000 in
theorem ok_many (w : Int32) : Ok 0 yX5_many cX5_many 2 (some .int) D tc [.ref (A 0), .int w] (cW A tc σ) (some (.int (R_many σ w))) (cW A tc σ) := by
  refine Ok_of RX5 rfl (by decide) [some (.ref (A 0)), some (.int w)] rfl (Nat.le_of_ble_eq_true rfl) ?_
  intro X hX
  refine V_ild1 dX5_many_0 ?_
  by_cases e0 : w = 0
  · subst e0
    refine V_tableIn (off := 35) 36 dX5_many_1 (by decide) (by decide) (by decide) (by decide) ?_
    refine V_ald0 dX5_many_36 ?_
    refine V_get lf_X5_20 dX5_many_37 cW_main rfl ?_
    refine V_get lf_X5_90 dX5_many_40 (cW_mkt now5) rfl ?_
    exact V_iret hX dX5_many_43 rfl rfl rfl
  by_cases e1 : w = 1
  · subst e1
    refine V_tableIn (off := 43) 44 dX5_many_1 (by decide) (by decide) (by decide) (by decide) ?_
    refine V_ald0 dX5_many_44 ?_
    refine V_get lf_X5_20 dX5_many_45 cW_main rfl ?_
    refine V_get lf_X5_256 dX5_many_48 (cW_mkt now5) rfl ?_
    exact V_iret hX dX5_many_51 rfl rfl rfl
  by_cases e2 : w = 2
  · subst e2
    refine V_tableIn (off := 51) 52 dX5_many_1 (by decide) (by decide) (by decide) (by decide) ?_
    refine V_ald0 dX5_many_52 ?_
    refine V_get lf_X5_20 dX5_many_53 cW_main rfl ?_
    refine V_get lf_X5_157 dX5_many_56 (cW_mkt now5) rfl ?_
    exact V_iret hX dX5_many_59 rfl rfl rfl
  by_cases e3 : w = 3
  · subst e3
    refine V_tableIn (off := 59) 60 dX5_many_1 (by decide) (by decide) (by decide) (by decide) ?_
    refine V_ald0 dX5_many_60 ?_
    refine V_get lf_X5_20 dX5_many_61 cW_main rfl ?_
    refine V_get lf_X5_135 dX5_many_64 (cW_mkt now5) rfl ?_
    exact V_iret hX dX5_many_67 rfl rfl rfl
  by_cases e4 : w = 4
  · subst e4
    refine V_tableIn (off := 67) 68 dX5_many_1 (by decide) (by decide) (by decide) (by decide) ?_
    refine V_ald0 dX5_many_68 ?_
    refine V_get lf_X5_44 dX5_many_69 cW_main rfl ?_
    refine V_get lf_X5_87 dX5_many_72 cW_re rfl ?_
    exact V_iret hX dX5_many_75 rfl rfl rfl
  refine V_tableOut 76 dX5_many_1 (swOut5 e0 e1 e2 e3 e4) (by decide) ?_
  refine V_bipush (-2) dX5_many_76 (by decide) ?_
  exact V_iret hX dX5_many_78 rfl (by rw [R_many, sel5_d e0 e1 e2 e3 e4]) rfl
end
