/-! THE REFERENCE: what its methods answer, in the machine's own numbers; τ k i: field k, place i -/
abbrev wiI (v a b : Int32) : Prop := ¬ v < a ∧ ¬ b < v
abbrev shI (k : Int32) : Prop := wiI k 0 3
def agM (τ : Sm) (j : Nat) (s i n : Int32) : Int32 := if ¬ τ 2 j = -9 ∧ ¬ τ 2 j = s then 2 else if τ 2 j = -9 then 1 else if 0 ≤ n then (if i < 0 ∨ τ 3 j < i ∨ ¬ n ≤ τ 3 j - i then 3 else 0) else 4
def frM (τ : Sm) (m : Nat) (t : Int32) : Int32 := freshI (τ 12 m) (τ 14 m) (τ 15 m) t
def prM (τ : Sm) (m : Nat) : Int32 := τ 7 0 * frM τ m (τ 8 0)
def owM (τ : Sm) (p : Int32) : Nat → Int32
  | 0 => 0
  | k + 1 => owM τ p k ||| (if τ 13 k = p ∧ τ 16 k = 0 then oneI k else 0)
abbrev msM (τ : Sm) (m : Nat) (p : Int32) : Prop := τ 16 m = 0 ∧ isP (τ 5 0) p ∧ ¬ p = τ 13 m ∧ ¬ τ 9 p.toNatClampNeg < prM τ m
def dsM (τ : Sm) (m p q : Nat) : Sm := um (um (um τ 9 p (τ 9 p - prM τ m)) 9 q (um τ 9 p (τ 9 p - prM τ m) 9 q + prM τ m)) 13 m (nI p)
def jgM (τ : Sm) (m q : Nat) : Int32 := if τ 11 q = 0 then frM τ m (τ 8 0) else frM τ m (τ 8 0) / 2
def doM (τ : Sm) (m q : Nat) : Sm := um (um (um τ 11 q 1) 16 m 1) 10 q (τ 10 q + jgM τ m q)
def dlM (τ : Sm) (n : Int32) (P : Nat) : Sm := if n ≤ 0 then um τ 8 0 (τ 8 0 + n) else umF (um τ 8 0 (τ 8 0 + n)) 11 (fillN (τ 11) 0 P)
/-- how many there are in a set, by halving -/
def szN : Nat → Nat → Nat
  | 0, _ => 0
  | f + 1, s => if s = 0 then 0 else s % 2 + szN f (s / 2)
def szM (s : Int32) : Int32 := if s < 0 then 0 else nI (szN 31 s.toNatClampNeg)
def Rm_ofMorning (τ : Sm) (m w : Int32) : Int32 := if isP (τ 6 0) m then sel5 w (τ 12 m.toNatClampNeg) (τ 13 m.toNatClampNeg) (τ 14 m.toNatClampNeg) (τ 15 m.toNatClampNeg) (b2i (¬ τ 16 m.toNatClampNeg = 0)) (-2) else -1
def Rm_ofPerson (τ : Sm) (M : Nat) (p w : Int32) : Int32 := if isP (τ 5 0) p then sel4 w (τ 9 p.toNatClampNeg) (τ 10 p.toNatClampNeg) (szM (owM τ p M)) (b2i (¬ τ 11 p.toNatClampNeg = 0)) (-2) else -1
def Rm_fill (τ : Sm) (p v : Int32) : Int32 := if isP (τ 5 0) p then (if wiI v 0 99 then τ 9 p.toNatClampNeg else -2) else -1
def Sm_fill (τ : Sm) (p v : Int32) : Sm := if isP (τ 5 0) p then (if wiI v 0 99 then um τ 9 p.toNatClampNeg v else τ) else τ
def Rm_rate (τ : Sm) (v : Int32) : Int32 := if wiI v 1 9 then (if τ 5 0 = 0 then -3 else τ 7 0) else -2
def Sm_rate (τ : Sm) (v : Int32) : Sm := if wiI v 1 9 then (if τ 5 0 = 0 then τ else um τ 7 0 v) else τ
def Rm_fresh (τ : Sm) (m t : Int32) : Int32 := if isP (τ 6 0) m then (if wiI t 0 99 then frM τ m.toNatClampNeg t else -2) else -1
def Rm_price (τ : Sm) (m : Int32) : Int32 := if isP (τ 6 0) m then prM τ m.toNatClampNeg else -1
def Rm_sell (τ : Sm) (m p : Int32) : Int32 := if isP (τ 6 0) m ∧ isP (τ 5 0) p then (if msM τ m.toNatClampNeg p then prM τ m.toNatClampNeg else -3) else -1
def Sm_sell (τ : Sm) (m p : Int32) : Sm := if isP (τ 6 0) m ∧ isP (τ 5 0) p then (if msM τ m.toNatClampNeg p then dsM τ m.toNatClampNeg p.toNatClampNeg (τ 13 m.toNatClampNeg).toNatClampNeg else τ) else τ
def Rm_open (τ : Sm) (m : Int32) : Int32 := if isP (τ 6 0) m then (if τ 16 m.toNatClampNeg = 0 then jgM τ m.toNatClampNeg (τ 13 m.toNatClampNeg).toNatClampNeg else -3) else -1
def Sm_open (τ : Sm) (m : Int32) : Sm := if isP (τ 6 0) m then (if τ 16 m.toNatClampNeg = 0 then doM τ m.toNatClampNeg (τ 13 m.toNatClampNeg).toNatClampNeg else τ) else τ
def Rm_sleep (τ : Sm) (n : Int32) : Int32 := if wiI n 0 9 then (if τ 5 0 = 0 ∨ ¬ τ 8 0 + n ≤ 99 then -3 else τ 8 0 + n) else -2
def Sm_sleep (τ : Sm) (n : Int32) (P : Nat) : Sm := if wiI n 0 9 then (if τ 5 0 = 0 ∨ ¬ τ 8 0 + n ≤ 99 then τ else dlM τ n P) else τ
theorem szN_le : ∀ f s, szN f s ≤ f := by
  intro f
  induction f with
  | zero => intro s; exact Nat.le_refl _
  | succ f ih => intro s; unfold szN; split
                 · omega
                 · have := ih (s / 2); omega
section
variable {D : va_G} {tc : Tc} {B : Nat → Nat} {τ : Sm} {M P C : Nat} {ws : va_W}
set_option maxRecDepth 100000 in
set_option maxHeartbeats 4000000 in
theorem mk_fails (f : Int32) : Ok 0 yX6_fails cX6_fails 2 (some .int) D tc [.ref (B 0), .int f] (mW B tc τ) (some (.int (-10 - f))) (mW B tc (um τ 0 0 f)) := by
  refine Ok_of RX6 rfl (by decide) [some (.ref (B 0)), some (.int f)] rfl (Nat.le_of_ble_eq_true rfl) ?_
  intro X hX
  refine V_ald0 dX6_fails_0 ?_
  refine V_ild1 dX6_fails_1 ?_
  refine V_puti lp_X6_80 dX6_fails_2 mW_obj (Nat.le_of_ble_eq_true rfl) (mW_p0 _) ?_
  refine V_bipush (-10) dX6_fails_5 (by decide) ?_
  refine V_ild1 dX6_fails_7 ?_
  refine V_isub dX6_fails_8 ?_
  exact V_iret hX dX6_fails_9 rfl rfl rfl
set_option maxRecDepth 100000 in
set_option maxHeartbeats 4000000 in
theorem mk_lost (f : Int32) : Ok 0 yX6_lost cX6_lost 2 (some .long) D tc [.ref (B 0), .int f] (mW B tc τ) (some (.long (-9223372036854775808))) (mW B tc (um τ 0 0 f)) := by
  refine Ok_of RX6 rfl (by decide) [some (.ref (B 0)), some (.int f)] rfl (Nat.le_of_ble_eq_true rfl) ?_
  intro X hX
  refine V_ald0 dX6_lost_0 ?_
  refine V_ild1 dX6_lost_1 ?_
  refine V_puti lp_X6_80 dX6_lost_2 mW_obj (Nat.le_of_ble_eq_true rfl) (mW_p0 _) ?_
  refine V_ldc2 _ wC_X6_84 dX6_lost_5 ?_
  exact V_lret hX dX6_lost_8 rfl rfl rfl
set_option maxRecDepth 100000 in
set_option maxHeartbeats 4000000 in
theorem mk_within (v a b : Int32) : Ok 0 yX6_within cX6_within 3 (some .boolean) D tc [.int v, .int a, .int b] ws (some (.int (b2i (wiI v a b)))) ws := by
  refine Ok_of RX6 rfl (by decide) [some (.int v), some (.int a), some (.int b)] rfl (Nat.le_of_ble_eq_true rfl) ?_
  intro X hX
  refine V_ild0 dX6_within_0 ?_
  refine V_ild1 dX6_within_1 ?_
  refine V_icmp_lt 14 dX6_within_2 (by decide) (fun c2 => ?_) (fun c2 => ?_)
  · have hf : ¬ wiI v a b := fun h => h.1 c2
    refine V_iconst 0 dX6_within_14 (by decide) ?_
    exact V_zret hX dX6_within_15 rfl (by first | exact Or.inl rfl | exact Or.inr rfl) (by first | rw [b2i_f hf] | rw [b2i_t ht]) rfl
  · refine V_ild0 dX6_within_5 ?_
    refine V_ild2 dX6_within_6 ?_
    refine V_icmp_gt 14 dX6_within_7 (by decide) (fun c7 => ?_) (fun c7 => ?_)
    · have hf : ¬ wiI v a b := fun h => h.2 c7
      refine V_iconst 0 dX6_within_14 (by decide) ?_
      exact V_zret hX dX6_within_15 rfl (by first | exact Or.inl rfl | exact Or.inr rfl) (by first | rw [b2i_f hf] | rw [b2i_t ht]) rfl
    · have ht : wiI v a b := ⟨c2, c7⟩
      refine V_iconst 1 dX6_within_10 (by decide) ?_
      refine V_goto 15 dX6_within_11 (by decide) ?_
      exact V_zret hX dX6_within_15 rfl (by first | exact Or.inl rfl | exact Or.inr rfl) (by first | rw [b2i_f hf] | rw [b2i_t ht]) rfl
set_option maxRecDepth 100000 in
set_option maxHeartbeats 4000000 in
theorem mk_isSheet (k : Int32) : Ok 1 yX6_isSheet cX6_isSheet 1 (some .boolean) D tc [.int k] ws (some (.int (b2i (shI k)))) ws := by
  refine Ok_of RX6 rfl (by decide) [some (.int k)] rfl (Nat.le_of_ble_eq_true rfl) ?_
  intro X hX
  refine V_ild0 dX6_isSheet_0 ?_
  refine V_iconst 0 dX6_isSheet_1 (by decide) ?_
  refine V_iconst 3 dX6_isSheet_2 (by decide) ?_
  refine V_callS ls_X6_86 (mk_within _ _ _) dX6_isSheet_3 (dep hX (by decide)) rfl (Nat.le_of_ble_eq_true rfl) ?_
  exact V_zret hX dX6_isSheet_6 rfl b2i_01 rfl rfl
set_option maxRecDepth 100000 in
set_option maxHeartbeats 4000000 in
theorem mk_isSort (s : Int32) : Ok 1 yX6_isSort cX6_isSort 1 (some .boolean) D tc [.int s] ws (some (.int (b2i (laI s)))) ws := by
  refine Ok_of RX6 rfl (by decide) [some (.int s)] rfl (Nat.le_of_ble_eq_true rfl) ?_
  intro X hX
  refine V_ild0 dX6_isSort_0 ?_
  refine V_iconst 0 dX6_isSort_1 (by decide) ?_
  refine V_iconst 2 dX6_isSort_2 (by decide) ?_
  refine V_callS ls_X6_86 (mk_within _ _ _) dX6_isSort_3 (dep hX (by decide)) rfl (Nat.le_of_ble_eq_true rfl) ?_
  exact V_zret hX dX6_isSort_6 rfl b2i_01 rfl rfl
set_option maxRecDepth 100000 in
set_option maxHeartbeats 4000000 in
theorem mk_against {j : Nat} (hj : j < 4) (s i n : Int32) : Ok 0 yX6_against cX6_against 5 (some .int) D tc [.ref (B 0), .int (nI j), .int s, .int i, .int n] (mW B tc τ) (some (.int (agM τ j s i n))) (mW B tc τ) := by
  refine Ok_of RX6 rfl (by decide) [some (.ref (B 0)), some (.int (nI j)), some (.int s), some (.int i), some (.int n)] rfl (Nat.le_of_ble_eq_true rfl) ?_
  intro X hX
  refine V_ald0 dX6_against_0 ?_
  refine V_get lf_X6_9 dX6_against_1 mW_obj rfl ?_
  refine V_ild1 dX6_against_4 ?_
  refine V_ialdk dX6_against_5 mW_a2 ⟨hj, by decide⟩ ?_
  refine V_bipush (-9) dX6_against_6 (by decide) ?_
  refine V_icmp_eq 23 dX6_against_8 (by decide) (fun c8 => ?_) (fun c8 => ?_)
  · have hN : ¬ (¬ τ 2 j = -9 ∧ ¬ τ 2 j = s) := fun h => h.1 c8
    refine V_ald0 dX6_against_23 ?_
    refine V_get lf_X6_9 dX6_against_24 mW_obj rfl ?_
    refine V_ild1 dX6_against_27 ?_
    refine V_ialdk dX6_against_28 mW_a2 ⟨hj, by decide⟩ ?_
    refine V_bipush (-9) dX6_against_29 (by decide) ?_
    refine V_icmp_ne 36 dX6_against_31 (by decide) (fun c31 => ?_) (fun c31 => ?_)
    · refine V_ild4 dX6_against_36 ?_
      refine V_if_ge 43 dX6_against_38 (by decide) (fun c38 => ?_) (fun c38 => ?_)
      · refine V_ild3 dX6_against_43 ?_
        refine V_if_lt 70 dX6_against_44 (by decide) (fun c44 => ?_) (fun c44 => ?_)
        · refine V_iconst 3 dX6_against_70 (by decide) ?_
          refine V_goto 75 dX6_against_71 (by decide) ?_
          exact V_iret hX dX6_against_75 rfl (by rw [agM, if_neg hN, if_neg c31, if_pos c38]; (try first | replace c8 := eq_false c8 | replace c8 := eq_true c8); (try first | replace c31 := eq_false c31 | replace c31 := eq_true c31); (try first | replace c38 := eq_false c38 | replace c38 := eq_true c38); (try first | replace c44 := eq_false c44 | replace c44 := eq_true c44); simp only [c8, c31, c38, c44, not_true_eq_false, not_false_eq_true, and_self, true_and, and_true, false_and, and_false, true_or, or_true, false_or, or_false, or_self, ↓reduceIte]) rfl
        · refine V_ild3 dX6_against_47 ?_
          refine V_ald0 dX6_against_48 ?_
          refine V_get lf_X6_13 dX6_against_49 mW_obj rfl ?_
          refine V_ild1 dX6_against_52 ?_
          refine V_ialdk dX6_against_53 mW_a3 ⟨hj, by decide⟩ ?_
          refine V_icmp_gt 70 dX6_against_54 (by decide) (fun c54 => ?_) (fun c54 => ?_)
          · refine V_iconst 3 dX6_against_70 (by decide) ?_
            refine V_goto 75 dX6_against_71 (by decide) ?_
            exact V_iret hX dX6_against_75 rfl (by rw [agM, if_neg hN, if_neg c31, if_pos c38]; (try first | replace c8 := eq_false c8 | replace c8 := eq_true c8); (try first | replace c31 := eq_false c31 | replace c31 := eq_true c31); (try first | replace c38 := eq_false c38 | replace c38 := eq_true c38); (try first | replace c44 := eq_false c44 | replace c44 := eq_true c44); (try first | replace c54 := eq_false c54 | replace c54 := eq_true c54); simp only [c8, c31, c38, c44, c54, not_true_eq_false, not_false_eq_true, and_self, true_and, and_true, false_and, and_false, true_or, or_true, false_or, or_false, or_self, ↓reduceIte]) rfl
          · refine V_ild4 dX6_against_57 ?_
            refine V_ald0 dX6_against_59 ?_
            refine V_get lf_X6_13 dX6_against_60 mW_obj rfl ?_
            refine V_ild1 dX6_against_63 ?_
            refine V_ialdk dX6_against_64 mW_a3 ⟨hj, by decide⟩ ?_
            refine V_ild3 dX6_against_65 ?_
            refine V_isub dX6_against_66 ?_
            refine V_icmp_le 74 dX6_against_67 (by decide) (fun c67 => ?_) (fun c67 => ?_)
            · refine V_iconst 0 dX6_against_74 (by decide) ?_
              exact V_iret hX dX6_against_75 rfl (by rw [agM, if_neg hN, if_neg c31, if_pos c38]; (try first | replace c8 := eq_false c8 | replace c8 := eq_true c8); (try first | replace c31 := eq_false c31 | replace c31 := eq_true c31); (try first | replace c38 := eq_false c38 | replace c38 := eq_true c38); (try first | replace c44 := eq_false c44 | replace c44 := eq_true c44); (try first | replace c54 := eq_false c54 | replace c54 := eq_true c54); (try first | replace c67 := eq_false c67 | replace c67 := eq_true c67); simp only [c8, c31, c38, c44, c54, c67, not_true_eq_false, not_false_eq_true, and_self, true_and, and_true, false_and, and_false, true_or, or_true, false_or, or_false, or_self, ↓reduceIte]) rfl
            · refine V_iconst 3 dX6_against_70 (by decide) ?_
              refine V_goto 75 dX6_against_71 (by decide) ?_
              exact V_iret hX dX6_against_75 rfl (by rw [agM, if_neg hN, if_neg c31, if_pos c38]; (try first | replace c8 := eq_false c8 | replace c8 := eq_true c8); (try first | replace c31 := eq_false c31 | replace c31 := eq_true c31); (try first | replace c38 := eq_false c38 | replace c38 := eq_true c38); (try first | replace c44 := eq_false c44 | replace c44 := eq_true c44); (try first | replace c54 := eq_false c54 | replace c54 := eq_true c54); (try first | replace c67 := eq_false c67 | replace c67 := eq_true c67); simp only [c8, c31, c38, c44, c54, c67, not_true_eq_false, not_false_eq_true, and_self, true_and, and_true, false_and, and_false, true_or, or_true, false_or, or_false, or_self, ↓reduceIte]) rfl
      · refine V_iconst 4 dX6_against_41 (by decide) ?_
        exact V_iret hX dX6_against_42 rfl (by rw [agM, if_neg hN, if_neg c31, if_neg c38]) rfl
    · refine V_iconst 1 dX6_against_34 (by decide) ?_
      exact V_iret hX dX6_against_35 rfl (by rw [agM, if_neg (fun h => h.1 c31), if_pos c31]) rfl
  · refine V_ald0 dX6_against_11 ?_
    refine V_get lf_X6_9 dX6_against_12 mW_obj rfl ?_
    refine V_ild1 dX6_against_15 ?_
    refine V_ialdk dX6_against_16 mW_a2 ⟨hj, by decide⟩ ?_
    refine V_ild2 dX6_against_17 ?_
    refine V_icmp_eq 23 dX6_against_18 (by decide) (fun c18 => ?_) (fun c18 => ?_)
    · have hN : ¬ (¬ τ 2 j = -9 ∧ ¬ τ 2 j = s) := fun h => h.2 c18
      refine V_ald0 dX6_against_23 ?_
      refine V_get lf_X6_9 dX6_against_24 mW_obj rfl ?_
      refine V_ild1 dX6_against_27 ?_
      refine V_ialdk dX6_against_28 mW_a2 ⟨hj, by decide⟩ ?_
      refine V_bipush (-9) dX6_against_29 (by decide) ?_
      refine V_icmp_ne 36 dX6_against_31 (by decide) (fun c31 => ?_) (fun c31 => ?_)
      · refine V_ild4 dX6_against_36 ?_
        refine V_if_ge 43 dX6_against_38 (by decide) (fun c38 => ?_) (fun c38 => ?_)
        · refine V_ild3 dX6_against_43 ?_
          refine V_if_lt 70 dX6_against_44 (by decide) (fun c44 => ?_) (fun c44 => ?_)
          · refine V_iconst 3 dX6_against_70 (by decide) ?_
            refine V_goto 75 dX6_against_71 (by decide) ?_
            exact V_iret hX dX6_against_75 rfl (by rw [agM, if_neg hN, if_neg c31, if_pos c38]; (try first | replace c8 := eq_false c8 | replace c8 := eq_true c8); (try first | replace c18 := eq_false c18 | replace c18 := eq_true c18); (try first | replace c31 := eq_false c31 | replace c31 := eq_true c31); (try first | replace c38 := eq_false c38 | replace c38 := eq_true c38); (try first | replace c44 := eq_false c44 | replace c44 := eq_true c44); simp only [c8, c18, c31, c38, c44, not_true_eq_false, not_false_eq_true, and_self, true_and, and_true, false_and, and_false, true_or, or_true, false_or, or_false, or_self, ↓reduceIte]) rfl
          · refine V_ild3 dX6_against_47 ?_
            refine V_ald0 dX6_against_48 ?_
            refine V_get lf_X6_13 dX6_against_49 mW_obj rfl ?_
            refine V_ild1 dX6_against_52 ?_
            refine V_ialdk dX6_against_53 mW_a3 ⟨hj, by decide⟩ ?_
            refine V_icmp_gt 70 dX6_against_54 (by decide) (fun c54 => ?_) (fun c54 => ?_)
            · refine V_iconst 3 dX6_against_70 (by decide) ?_
              refine V_goto 75 dX6_against_71 (by decide) ?_
              exact V_iret hX dX6_against_75 rfl (by rw [agM, if_neg hN, if_neg c31, if_pos c38]; (try first | replace c8 := eq_false c8 | replace c8 := eq_true c8); (try first | replace c18 := eq_false c18 | replace c18 := eq_true c18); (try first | replace c31 := eq_false c31 | replace c31 := eq_true c31); (try first | replace c38 := eq_false c38 | replace c38 := eq_true c38); (try first | replace c44 := eq_false c44 | replace c44 := eq_true c44); (try first | replace c54 := eq_false c54 | replace c54 := eq_true c54); simp only [c8, c18, c31, c38, c44, c54, not_true_eq_false, not_false_eq_true, and_self, true_and, and_true, false_and, and_false, true_or, or_true, false_or, or_false, or_self, ↓reduceIte]) rfl
            · refine V_ild4 dX6_against_57 ?_
              refine V_ald0 dX6_against_59 ?_
              refine V_get lf_X6_13 dX6_against_60 mW_obj rfl ?_
              refine V_ild1 dX6_against_63 ?_
              refine V_ialdk dX6_against_64 mW_a3 ⟨hj, by decide⟩ ?_
              refine V_ild3 dX6_against_65 ?_
              refine V_isub dX6_against_66 ?_
              refine V_icmp_le 74 dX6_against_67 (by decide) (fun c67 => ?_) (fun c67 => ?_)
              · refine V_iconst 0 dX6_against_74 (by decide) ?_
                exact V_iret hX dX6_against_75 rfl (by rw [agM, if_neg hN, if_neg c31, if_pos c38]; (try first | replace c8 := eq_false c8 | replace c8 := eq_true c8); (try first | replace c18 := eq_false c18 | replace c18 := eq_true c18); (try first | replace c31 := eq_false c31 | replace c31 := eq_true c31); (try first | replace c38 := eq_false c38 | replace c38 := eq_true c38); (try first | replace c44 := eq_false c44 | replace c44 := eq_true c44); (try first | replace c54 := eq_false c54 | replace c54 := eq_true c54); (try first | replace c67 := eq_false c67 | replace c67 := eq_true c67); simp only [c8, c18, c31, c38, c44, c54, c67, not_true_eq_false, not_false_eq_true, and_self, true_and, and_true, false_and, and_false, true_or, or_true, false_or, or_false, or_self, ↓reduceIte]) rfl
              · refine V_iconst 3 dX6_against_70 (by decide) ?_
                refine V_goto 75 dX6_against_71 (by decide) ?_
                exact V_iret hX dX6_against_75 rfl (by rw [agM, if_neg hN, if_neg c31, if_pos c38]; (try first | replace c8 := eq_false c8 | replace c8 := eq_true c8); (try first | replace c18 := eq_false c18 | replace c18 := eq_true c18); (try first | replace c31 := eq_false c31 | replace c31 := eq_true c31); (try first | replace c38 := eq_false c38 | replace c38 := eq_true c38); (try first | replace c44 := eq_false c44 | replace c44 := eq_true c44); (try first | replace c54 := eq_false c54 | replace c54 := eq_true c54); (try first | replace c67 := eq_false c67 | replace c67 := eq_true c67); simp only [c8, c18, c31, c38, c44, c54, c67, not_true_eq_false, not_false_eq_true, and_self, true_and, and_true, false_and, and_false, true_or, or_true, false_or, or_false, or_self, ↓reduceIte]) rfl
        · refine V_iconst 4 dX6_against_41 (by decide) ?_
          exact V_iret hX dX6_against_42 rfl (by rw [agM, if_neg hN, if_neg c31, if_neg c38]) rfl
      · refine V_iconst 1 dX6_against_34 (by decide) ?_
        exact V_iret hX dX6_against_35 rfl (by rw [agM, if_neg (fun h => h.1 c31), if_pos c31]) rfl
    · refine V_iconst 2 dX6_against_21 (by decide) ?_
      exact V_iret hX dX6_against_22 rfl (by rw [agM, if_pos ⟨c8, c18⟩]) rfl
set_option maxRecDepth 100000 in
set_option maxHeartbeats 4000000 in
theorem mk_isPerson (p : Int32) : Ok 0 yX6_isPerson cX6_isPerson 2 (some .boolean) D tc [.ref (B 0), .int p] (mW B tc τ) (some (.int (b2i (isP (τ 5 0) p)))) (mW B tc τ) := by
  refine Ok_of RX6 rfl (by decide) [some (.ref (B 0)), some (.int p)] rfl (Nat.le_of_ble_eq_true rfl) ?_
  intro X hX
  refine V_ild1 dX6_isPerson_0 ?_
  refine V_if_lt 16 dX6_isPerson_1 (by decide) (fun c1 => ?_) (fun c1 => ?_)
  · refine V_iconst 0 dX6_isPerson_16 (by decide) ?_
    exact V_zret hX dX6_isPerson_17 rfl (by first | exact Or.inl rfl | exact Or.inr rfl) (by simp_all [b2i]) rfl
  · refine V_ild1 dX6_isPerson_4 ?_
    refine V_ald0 dX6_isPerson_5 ?_
    refine V_get lf_X6_90 dX6_isPerson_6 mW_obj rfl ?_
    refine V_icmp_ge 16 dX6_isPerson_9 (by decide) (fun c9 => ?_) (fun c9 => ?_)
    · refine V_iconst 0 dX6_isPerson_16 (by decide) ?_
      exact V_zret hX dX6_isPerson_17 rfl (by first | exact Or.inl rfl | exact Or.inr rfl) (by simp_all [b2i]) rfl
    · refine V_iconst 1 dX6_isPerson_12 (by decide) ?_
      refine V_goto 17 dX6_isPerson_13 (by decide) ?_
      exact V_zret hX dX6_isPerson_17 rfl (by first | exact Or.inl rfl | exact Or.inr rfl) (by simp_all [b2i]) rfl
set_option maxRecDepth 100000 in
set_option maxHeartbeats 4000000 in
theorem mk_isMorning (m : Int32) : Ok 0 yX6_isMorning cX6_isMorning 2 (some .boolean) D tc [.ref (B 0), .int m] (mW B tc τ) (some (.int (b2i (isP (τ 6 0) m)))) (mW B tc τ) := by
  refine Ok_of RX6 rfl (by decide) [some (.ref (B 0)), some (.int m)] rfl (Nat.le_of_ble_eq_true rfl) ?_
  intro X hX
  refine V_ild1 dX6_isMorning_0 ?_
  refine V_if_lt 16 dX6_isMorning_1 (by decide) (fun c1 => ?_) (fun c1 => ?_)
  · refine V_iconst 0 dX6_isMorning_16 (by decide) ?_
    exact V_zret hX dX6_isMorning_17 rfl (by first | exact Or.inl rfl | exact Or.inr rfl) (by simp_all [b2i]) rfl
  · refine V_ild1 dX6_isMorning_4 ?_
    refine V_ald0 dX6_isMorning_5 ?_
    refine V_get lf_X6_93 dX6_isMorning_6 mW_obj rfl ?_
    refine V_icmp_ge 16 dX6_isMorning_9 (by decide) (fun c9 => ?_) (fun c9 => ?_)
    · refine V_iconst 0 dX6_isMorning_16 (by decide) ?_
      exact V_zret hX dX6_isMorning_17 rfl (by first | exact Or.inl rfl | exact Or.inr rfl) (by simp_all [b2i]) rfl
    · refine V_iconst 1 dX6_isMorning_12 (by decide) ?_
      refine V_goto 17 dX6_isMorning_13 (by decide) ?_
      exact V_zret hX dX6_isMorning_17 rfl (by first | exact Or.inl rfl | exact Or.inr rfl) (by simp_all [b2i]) rfl
set_option maxRecDepth 100000 in
set_option maxHeartbeats 4000000 in
theorem mk_freshOn (m : Nat) (hm : m < 6) (t : Int32) : Ok 0 yX6_freshOn cX6_freshOn 5 (some .int) D tc [.ref (B 0), .int (nI m), .int t] (mW B tc τ) (some (.int (frM τ m t))) (mW B tc τ) := by
  refine Ok_of RX6 rfl (by decide) [some (.ref (B 0)), some (.int (nI m)), some (.int t), none, none] rfl (Nat.le_of_ble_eq_true rfl) ?_
  intro X hX
  refine V_ild2 dX6_freshOn_0 ?_
  refine V_ald0 dX6_freshOn_1 ?_
  refine V_get lf_X6_35 dX6_freshOn_2 mW_obj rfl ?_
  refine V_ild1 dX6_freshOn_5 ?_
  refine V_ialdk dX6_freshOn_6 mW_a14 ⟨hm, by decide⟩ ?_
  refine V_icmp_ge 12 dX6_freshOn_7 (by decide) (fun c7 => ?_) (fun c7 => ?_)
  · refine V_ild2 dX6_freshOn_12 ?_
    refine V_ald0 dX6_freshOn_13 ?_
    refine V_get lf_X6_35 dX6_freshOn_14 mW_obj rfl ?_
    refine V_ild1 dX6_freshOn_17 ?_
    refine V_ialdk dX6_freshOn_18 mW_a14 ⟨hm, by decide⟩ ?_
    refine V_isub dX6_freshOn_19 ?_
    refine V_ist3 dX6_freshOn_20 rfl (by decide) ?_
    refine V_ald0 dX6_freshOn_21 ?_
    refine V_get lf_X6_38 dX6_freshOn_22 mW_obj rfl ?_
    refine V_ild1 dX6_freshOn_25 ?_
    refine V_ialdk dX6_freshOn_26 mW_a15 ⟨hm, by decide⟩ ?_
    refine V_ald0 dX6_freshOn_27 ?_
    refine V_get lf_X6_29 dX6_freshOn_28 mW_obj rfl ?_
    refine V_ild1 dX6_freshOn_31 ?_
    refine V_ialdk dX6_freshOn_32 mW_a12 ⟨hm, by decide⟩ ?_
    refine V_iconst 1 dX6_freshOn_33 (by decide) ?_
    refine V_icmp_ne 43 dX6_freshOn_34 (by decide) (fun c34 => ?_) (fun c34 => ?_)
    · refine V_ild3 dX6_freshOn_43 ?_
      refine V_isub dX6_freshOn_44 ?_
      refine V_ist4 dX6_freshOn_45 rfl (by decide) ?_
      refine V_ild4 dX6_freshOn_47 ?_
      refine V_if_ge 54 dX6_freshOn_49 (by decide) (fun c49 => ?_) (fun c49 => ?_)
      · refine V_ald0 dX6_freshOn_54 ?_
        refine V_get lf_X6_29 dX6_freshOn_55 mW_obj rfl ?_
        refine V_ild1 dX6_freshOn_58 ?_
        refine V_ialdk dX6_freshOn_59 mW_a12 ⟨hm, by decide⟩ ?_
        refine V_iconst 2 dX6_freshOn_60 (by decide) ?_
        refine V_icmp_ne 71 dX6_freshOn_61 (by decide) (fun c61 => ?_) (fun c61 => ?_)
        · refine V_ild4 dX6_freshOn_71 ?_
          exact V_iret hX dX6_freshOn_73 rfl (by first | (simp [frM, freshI, *]; done) | exact absurd (c34.symm.trans c61) (by decide)) rfl
        · refine V_ild4 dX6_freshOn_64 ?_
          refine V_iconst 2 dX6_freshOn_66 (by decide) ?_
          refine V_idiv dX6_freshOn_67 (by decide) ?_
          refine V_goto 73 dX6_freshOn_68 (by decide) ?_
          exact V_iret hX dX6_freshOn_73 rfl (by first | (simp [frM, freshI, *]; done) | exact absurd (c34.symm.trans c61) (by decide)) rfl
      · refine V_iconst 0 dX6_freshOn_52 (by decide) ?_
        exact V_iret hX dX6_freshOn_53 rfl (by first | (simp [frM, freshI, *]; done) | exact absurd (c34.symm.trans c61) (by decide)) rfl
    · refine V_ild3 dX6_freshOn_37 ?_
      refine V_iconst 3 dX6_freshOn_38 (by decide) ?_
      refine V_idiv dX6_freshOn_39 (by decide) ?_
      refine V_goto 44 dX6_freshOn_40 (by decide) ?_
      refine V_isub dX6_freshOn_44 ?_
      refine V_ist4 dX6_freshOn_45 rfl (by decide) ?_
      refine V_ild4 dX6_freshOn_47 ?_
      refine V_if_ge 54 dX6_freshOn_49 (by decide) (fun c49 => ?_) (fun c49 => ?_)
      · refine V_ald0 dX6_freshOn_54 ?_
        refine V_get lf_X6_29 dX6_freshOn_55 mW_obj rfl ?_
        refine V_ild1 dX6_freshOn_58 ?_
        refine V_ialdk dX6_freshOn_59 mW_a12 ⟨hm, by decide⟩ ?_
        refine V_iconst 2 dX6_freshOn_60 (by decide) ?_
        refine V_icmp_ne 71 dX6_freshOn_61 (by decide) (fun c61 => ?_) (fun c61 => ?_)
        · refine V_ild4 dX6_freshOn_71 ?_
          exact V_iret hX dX6_freshOn_73 rfl (by first | (simp [frM, freshI, *]; done) | exact absurd (c34.symm.trans c61) (by decide)) rfl
        · refine V_ild4 dX6_freshOn_64 ?_
          refine V_iconst 2 dX6_freshOn_66 (by decide) ?_
          refine V_idiv dX6_freshOn_67 (by decide) ?_
          refine V_goto 73 dX6_freshOn_68 (by decide) ?_
          exact V_iret hX dX6_freshOn_73 rfl (by first | (simp [frM, freshI, *]; done) | exact absurd (c34.symm.trans c61) (by decide)) rfl
      · refine V_iconst 0 dX6_freshOn_52 (by decide) ?_
        exact V_iret hX dX6_freshOn_53 rfl (by first | (simp [frM, freshI, *]; done) | exact absurd (c34.symm.trans c61) (by decide)) rfl
  · refine V_iconst 0 dX6_freshOn_10 (by decide) ?_
    exact V_iret hX dX6_freshOn_11 rfl (by first | (simp [frM, freshI, *]; done) | exact absurd (c34.symm.trans c61) (by decide)) rfl
set_option maxRecDepth 100000 in
set_option maxHeartbeats 4000000 in
theorem mk_priceOf (m : Nat) (hm : m < 6) : Ok 1 yX6_priceOf cX6_priceOf 2 (some .int) D tc [.ref (B 0), .int (nI m)] (mW B tc τ) (some (.int (prM τ m))) (mW B tc τ) := by
  refine Ok_of RX6 rfl (by decide) [some (.ref (B 0)), some (.int (nI m))] rfl (Nat.le_of_ble_eq_true rfl) ?_
  intro X hX
  refine V_ald0 dX6_priceOf_0 ?_
  refine V_get lf_X6_123 dX6_priceOf_1 mW_obj rfl ?_
  refine V_ald0 dX6_priceOf_4 ?_
  refine V_ild1 dX6_priceOf_5 ?_
  refine V_ald0 dX6_priceOf_6 ?_
  refine V_get lf_X6_129 dX6_priceOf_7 mW_obj rfl ?_
  refine V_callV lm_X6_152 (mk_freshOn m hm _) dX6_priceOf_10 mW_obj rfl (dep hX (by decide)) rfl (Nat.le_of_ble_eq_true rfl) ?_
  refine V_imul dX6_priceOf_13 ?_
  exact V_iret hX dX6_priceOf_14 rfl rfl rfl
set_option maxRecDepth 100000 in
set_option maxHeartbeats 4000000 in
theorem mk_ofMorning (hM : τ 6 0 = nI M) (h6 : M ≤ 6) (m w : Int32) : Ok 1 yX6_ofMorning cX6_ofMorning 3 (some .int) D tc [.ref (B 0), .int m, .int w] (mW B tc τ) (some (.int (Rm_ofMorning τ m w))) (mW B tc τ) := by
  refine Ok_of RX6 rfl (by decide) [some (.ref (B 0)), some (.int m), some (.int w)] rfl (Nat.le_of_ble_eq_true rfl) ?_
  intro X hX
  refine V_ald0 dX6_ofMorning_0 ?_
  refine V_ild1 dX6_ofMorning_1 ?_
  refine V_callV lm_X6_156 (mk_isMorning _) dX6_ofMorning_2 mW_obj rfl (dep hX (by decide)) rfl (Nat.le_of_ble_eq_true rfl) ?_
  refine V_if_ne 10 dX6_ofMorning_5 (by decide) (fun c5 => ?_) (fun c5 => ?_)
  · try rw [b2i_ne] at c5
    try rw [Decidable.not_not] at c5
    obtain ⟨k, hk, ek⟩ := isP_of hM (by omega) c5
    subst ek
    have hck : (nI k).toNatClampNeg = k := nI_clamp (by omega)
    refine V_ild2 dX6_ofMorning_10 ?_
    by_cases e0 : w = 0
    · subst e0
      refine V_tableIn (off := 33) 44 dX6_ofMorning_11 (by decide) (by decide) (by decide) (by decide) ?_
      refine V_ald0 dX6_ofMorning_44 ?_
      refine V_get lf_X6_29 dX6_ofMorning_45 mW_obj rfl ?_
      refine V_ild1 dX6_ofMorning_48 ?_
      refine V_ialdk dX6_ofMorning_49 mW_a12 ⟨by omega, by decide⟩ ?_
      exact V_iret hX dX6_ofMorning_50 rfl (by (try first | replace c5 := eq_false c5 | replace c5 := eq_true c5); simp only [Rm_ofMorning, sel5_0, hck, c5, not_true_eq_false, not_false_eq_true, and_self, true_and, and_true, false_and, and_false, true_or, or_true, false_or, or_false, or_self, ↓reduceIte]) rfl
    by_cases e1 : w = 1
    · subst e1
      refine V_tableIn (off := 40) 51 dX6_ofMorning_11 (by decide) (by decide) (by decide) (by decide) ?_
      refine V_ald0 dX6_ofMorning_51 ?_
      refine V_get lf_X6_32 dX6_ofMorning_52 mW_obj rfl ?_
      refine V_ild1 dX6_ofMorning_55 ?_
      refine V_ialdk dX6_ofMorning_56 mW_a13 ⟨by omega, by decide⟩ ?_
      exact V_iret hX dX6_ofMorning_57 rfl (by (try first | replace c5 := eq_false c5 | replace c5 := eq_true c5); simp only [Rm_ofMorning, sel5_1, hck, c5, not_true_eq_false, not_false_eq_true, and_self, true_and, and_true, false_and, and_false, true_or, or_true, false_or, or_false, or_self, ↓reduceIte]) rfl
    by_cases e2 : w = 2
    · subst e2
      refine V_tableIn (off := 47) 58 dX6_ofMorning_11 (by decide) (by decide) (by decide) (by decide) ?_
      refine V_ald0 dX6_ofMorning_58 ?_
      refine V_get lf_X6_35 dX6_ofMorning_59 mW_obj rfl ?_
      refine V_ild1 dX6_ofMorning_62 ?_
      refine V_ialdk dX6_ofMorning_63 mW_a14 ⟨by omega, by decide⟩ ?_
      exact V_iret hX dX6_ofMorning_64 rfl (by (try first | replace c5 := eq_false c5 | replace c5 := eq_true c5); simp only [Rm_ofMorning, sel5_2, hck, c5, not_true_eq_false, not_false_eq_true, and_self, true_and, and_true, false_and, and_false, true_or, or_true, false_or, or_false, or_self, ↓reduceIte]) rfl
    by_cases e3 : w = 3
    · subst e3
      refine V_tableIn (off := 54) 65 dX6_ofMorning_11 (by decide) (by decide) (by decide) (by decide) ?_
      refine V_ald0 dX6_ofMorning_65 ?_
      refine V_get lf_X6_38 dX6_ofMorning_66 mW_obj rfl ?_
      refine V_ild1 dX6_ofMorning_69 ?_
      refine V_ialdk dX6_ofMorning_70 mW_a15 ⟨by omega, by decide⟩ ?_
      exact V_iret hX dX6_ofMorning_71 rfl (by (try first | replace c5 := eq_false c5 | replace c5 := eq_true c5); simp only [Rm_ofMorning, sel5_3, hck, c5, not_true_eq_false, not_false_eq_true, and_self, true_and, and_true, false_and, and_false, true_or, or_true, false_or, or_false, or_self, ↓reduceIte]) rfl
    by_cases e4 : w = 4
    · subst e4
      refine V_tableIn (off := 61) 72 dX6_ofMorning_11 (by decide) (by decide) (by decide) (by decide) ?_
      refine V_ald0 dX6_ofMorning_72 ?_
      refine V_get lf_X6_41 dX6_ofMorning_73 mW_obj rfl ?_
      refine V_ild1 dX6_ofMorning_76 ?_
      refine V_zaldk dX6_ofMorning_77 mW_a16 ⟨by omega, by decide⟩ ?_
      refine V_if_eq 85 dX6_ofMorning_78 (by decide) (fun c78 => ?_) (fun c78 => ?_)
      · refine V_iconst 0 dX6_ofMorning_85 (by decide) ?_
        exact V_iret hX dX6_ofMorning_86 rfl (by (try first | replace c5 := eq_false c5 | replace c5 := eq_true c5); (try first | replace c78 := eq_false c78 | replace c78 := eq_true c78); simp only [Rm_ofMorning, sel5_4, hck, b2i, c5, c78, not_true_eq_false, not_false_eq_true, and_self, true_and, and_true, false_and, and_false, true_or, or_true, false_or, or_false, or_self, ↓reduceIte]) rfl
      · refine V_iconst 1 dX6_ofMorning_81 (by decide) ?_
        refine V_goto 86 dX6_ofMorning_82 (by decide) ?_
        exact V_iret hX dX6_ofMorning_86 rfl (by (try first | replace c5 := eq_false c5 | replace c5 := eq_true c5); (try first | replace c78 := eq_false c78 | replace c78 := eq_true c78); simp only [Rm_ofMorning, sel5_4, hck, b2i, c5, c78, not_true_eq_false, not_false_eq_true, and_self, true_and, and_true, false_and, and_false, true_or, or_true, false_or, or_false, or_self, ↓reduceIte]) rfl
    refine V_tableOut 87 dX6_ofMorning_11 (swOut5 e0 e1 e2 e3 e4) (by decide) ?_
    refine V_bipush (-2) dX6_ofMorning_87 (by decide) ?_
    exact V_iret hX dX6_ofMorning_89 rfl (by (try first | replace c5 := eq_false c5 | replace c5 := eq_true c5); simp only [Rm_ofMorning, c5, sel5_d e0 e1 e2 e3 e4, not_true_eq_false, not_false_eq_true, and_self, true_and, and_true, false_and, and_false, true_or, or_true, false_or, or_false, or_self, ↓reduceIte]) rfl
  · try rw [b2i_eq] at c5
    try rw [Decidable.not_not] at c5
    refine V_iconst (-1) dX6_ofMorning_8 (by decide) ?_
    exact V_iret hX dX6_ofMorning_9 rfl (by (try first | replace c5 := eq_false c5 | replace c5 := eq_true c5); simp only [Rm_ofMorning, c5, not_true_eq_false, not_false_eq_true, and_self, true_and, and_true, false_and, and_false, true_or, or_true, false_or, or_false, or_self, ↓reduceIte]) rfl
set_option maxRecDepth 100000 in
set_option maxHeartbeats 4000000 in
theorem mk_ownOf (hM : τ 6 0 = nI M) (h6 : M ≤ 6) (p : Int32) : Ok 0 yX6_ownOf cX6_ownOf 4 (some .int) D tc [.ref (B 0), .int p] (mW B tc τ) (some (.int (owM τ p M))) (mW B tc τ) := by
  refine Ok_of RX6 rfl (by decide) [some (.ref (B 0)), some (.int p), none, none] rfl (Nat.le_of_ble_eq_true rfl) ?_
  intro X hX
  have lpS : ∀ k, k < M → V X D tc cX6_ownOf RX6 4 4 ((fun k => [some (.ref (B 0)), some (.int p), some (.int (owM τ p k)), some (.int (nI k))]) (k + 1)) [] ((fun k => mW B tc τ) (k + 1)) → V X D tc cX6_ownOf RX6 4 4 ((fun k => [some (.ref (B 0)), some (.int p), some (.int (owM τ p k)), some (.int (nI k))]) k) [] ((fun k => mW B tc τ) k) := by
    intro k hk ihlp
    refine V_ild3 dX6_ownOf_4 ?_
    refine V_ald0 dX6_ownOf_5 ?_
    refine V_get lf_X6_93 dX6_ownOf_6 mW_obj rfl ?_
    refine V_icmp_ge 47 dX6_ownOf_9 (by decide) (fun c9 => ?_) (fun c9 => ?_)
    · exact absurd c9 (ge_no hM hk (by omega))
    · refine V_ild2 dX6_ownOf_12 ?_
      refine V_ald0 dX6_ownOf_13 ?_
      refine V_get lf_X6_32 dX6_ownOf_14 mW_obj rfl ?_
      refine V_ild3 dX6_ownOf_17 ?_
      refine V_ialdk dX6_ownOf_18 mW_a13 ⟨by omega, by decide⟩ ?_
      refine V_ild1 dX6_ownOf_19 ?_
      refine V_icmp_ne 38 dX6_ownOf_20 (by decide) (fun c20 => ?_) (fun c20 => ?_)
      · refine V_iconst 0 dX6_ownOf_38 (by decide) ?_
        refine V_ior dX6_ownOf_39 ?_
        refine V_ist2 dX6_ownOf_40 rfl (by decide) ?_
        refine V_inc3 (nI (k + 1)) dX6_ownOf_41 (nI_inc k) rfl (by decide) ?_
        refine V_goto 4 dX6_ownOf_44 (by decide) ?_
        refine V_eq ?_ rfl rfl ihlp
        (try first | replace c9 := eq_false c9 | replace c9 := eq_true c9); (try first | replace c20 := eq_false c20 | replace c20 := eq_true c20);
        simp only [owM, oneI, c9, c20, not_true_eq_false, not_false_eq_true, and_self, true_and, and_true, false_and, and_false, true_or, or_true, false_or, or_false, or_self, ↓reduceIte]
      · refine V_ald0 dX6_ownOf_23 ?_
        refine V_get lf_X6_41 dX6_ownOf_24 mW_obj rfl ?_
        refine V_ild3 dX6_ownOf_27 ?_
        refine V_zaldk dX6_ownOf_28 mW_a16 ⟨by omega, by decide⟩ ?_
        refine V_if_ne 38 dX6_ownOf_29 (by decide) (fun c29 => ?_) (fun c29 => ?_)
        · refine V_iconst 0 dX6_ownOf_38 (by decide) ?_
          refine V_ior dX6_ownOf_39 ?_
          refine V_ist2 dX6_ownOf_40 rfl (by decide) ?_
          refine V_inc3 (nI (k + 1)) dX6_ownOf_41 (nI_inc k) rfl (by decide) ?_
          refine V_goto 4 dX6_ownOf_44 (by decide) ?_
          refine V_eq ?_ rfl rfl ihlp
          (try first | replace c9 := eq_false c9 | replace c9 := eq_true c9); (try first | replace c20 := eq_false c20 | replace c20 := eq_true c20); (try first | replace c29 := eq_false c29 | replace c29 := eq_true c29);
          simp only [owM, oneI, c9, c20, c29, not_true_eq_false, not_false_eq_true, and_self, true_and, and_true, false_and, and_false, true_or, or_true, false_or, or_false, or_self, ↓reduceIte]
        · refine V_iconst 1 dX6_ownOf_32 (by decide) ?_
          refine V_ild3 dX6_ownOf_33 ?_
          refine V_ishl dX6_ownOf_34 ?_
          refine V_goto 39 dX6_ownOf_35 (by decide) ?_
          refine V_ior dX6_ownOf_39 ?_
          refine V_ist2 dX6_ownOf_40 rfl (by decide) ?_
          refine V_inc3 (nI (k + 1)) dX6_ownOf_41 (nI_inc k) rfl (by decide) ?_
          refine V_goto 4 dX6_ownOf_44 (by decide) ?_
          refine V_eq ?_ rfl rfl ihlp
          (try first | replace c9 := eq_false c9 | replace c9 := eq_true c9); (try first | replace c20 := eq_false c20 | replace c20 := eq_true c20); (try first | replace c29 := eq_false c29 | replace c29 := eq_true c29);
          simp only [owM, oneI, c9, c20, c29, not_true_eq_false, not_false_eq_true, and_self, true_and, and_true, false_and, and_false, true_or, or_true, false_or, or_false, or_self, ↓reduceIte]
  have lpE : V X D tc cX6_ownOf RX6 4 4 ((fun k => [some (.ref (B 0)), some (.int p), some (.int (owM τ p k)), some (.int (nI k))]) (M)) [] ((fun k => mW B tc τ) (M)) := by
    refine V_ild3 dX6_ownOf_4 ?_
    refine V_ald0 dX6_ownOf_5 ?_
    refine V_get lf_X6_93 dX6_ownOf_6 mW_obj rfl ?_
    refine V_icmp_ge 47 dX6_ownOf_9 (by decide) (fun c9 => ?_) (fun c9 => ?_)
    · refine V_ild2 dX6_ownOf_47 ?_
      exact V_iret hX dX6_ownOf_48 rfl rfl rfl
    · exact absurd (ge_yes hM) c9
  have lp := V_for (fun k => [some (.ref (B 0)), some (.int p), some (.int (owM τ p k)), some (.int (nI k))]) (fun k => mW B tc τ) (M) lpS lpE
  refine V_iconst 0 dX6_ownOf_0 (by decide) ?_
  refine V_ist2 dX6_ownOf_1 rfl (by decide) ?_
  refine V_iconst 0 dX6_ownOf_2 (by decide) ?_
  refine V_ist3 dX6_ownOf_3 rfl (by decide) ?_
  exact lp 0 (Nat.zero_le _)
theorem nx1 {s : Nat} (h : s < 2 ^ 31) : nI s &&& nI 1 = nI (s % 2) := pk_andN (by omega) 1 (by decide)
set_option maxRecDepth 100000 in
set_option maxHeartbeats 4000000 in
theorem lo_size {X : Cx} {x R : Int32} (hX : Aim X D (some .int) 0 (some (.int R)) ws) : ∀ (f s a : Nat), s < 2 ^ 31 → s < 2 ^ f → R = nI (a + szN f s) → V X D tc cX6_size RX6 3 4 [some (.int x), some (.int (nI a)), some (.int (nI s))] [] ws := by
  intro f
  induction f with
  | zero =>
    intro s a hs hf hR
    obtain rfl : s = 0 := by omega
    refine V_ild2 dX6_size_4 ?_
    refine V_if_le 21 dX6_size_5 (by decide) (fun c5 => ?_) (fun c5 => ?_)
    · refine V_ild1 dX6_size_21 ?_
      exact V_iret hX dX6_size_22 rfl (by rw [hR]; rfl) rfl
    · exact absurd (by decide) c5
  | succ f ih =>
    intro s a hs hf hR
    have hf2 : s / 2 < 2 ^ f := by rw [Nat.pow_succ] at hf; omega
    refine V_ild2 dX6_size_4 ?_
    refine V_if_le 21 dX6_size_5 (by decide) (fun c5 => ?_) (fun c5 => ?_)
    · have hs0 : s = 0 := by
        rcases Nat.eq_zero_or_pos s with z | z
        · exact z
        · exact absurd c5 (nI_nle z hs)
      refine V_ild1 dX6_size_21 ?_
      exact V_iret hX dX6_size_22 rfl (by rw [hR, szN, if_pos hs0]; rfl) rfl
    · have hs0 : ¬ s = 0 := fun z => c5 (by rw [z]; decide)
      refine V_ild1 dX6_size_8 ?_
      refine V_ild2 dX6_size_9 ?_
      refine V_iconst 1 dX6_size_10 (by decide) ?_
      refine V_iand dX6_size_11 ?_
      refine V_top (y := nI (s % 2)) (by rw [show (1 : Int32) = nI 1 by decide, nx1 hs]) ?_
      refine V_iadd dX6_size_12 ?_
      refine V_top (y := nI (a + s % 2)) (nI_add _ _) ?_
      refine V_ist1 dX6_size_13 rfl (by decide) ?_
      refine V_ild2 dX6_size_14 ?_
      refine V_iconst 1 dX6_size_15 (by decide) ?_
      refine V_ishr dX6_size_16 ?_
      refine V_top (y := nI (s / 2)) (by rw [pk_shrN hs _ 1 (by decide)]) ?_
      refine V_ist2 dX6_size_17 rfl (by decide) ?_
      refine V_goto 4 dX6_size_18 (by decide) ?_
      exact ih _ _ (by omega) hf2 (by rw [hR, szN, if_neg hs0, Nat.add_assoc])
set_option maxRecDepth 100000 in
set_option maxHeartbeats 4000000 in
theorem mk_size (s : Int32) : Ok 0 yX6_size cX6_size 3 (some .int) D tc [.int s] ws (some (.int (szM s))) ws := by
  refine Ok_of RX6 rfl (by decide) [some (.int s), none, none] rfl (Nat.le_of_ble_eq_true rfl) ?_
  intro X hX
  by_cases h : s < 0
  · have hz : szM s = 0 := if_pos h
    rw [hz] at hX
    refine V_iconst 0 dX6_size_0 (by decide) ?_
    refine V_ist1 dX6_size_1 rfl (by decide) ?_
    refine V_ild0 dX6_size_2 ?_
    refine V_ist2 dX6_size_3 rfl (by decide) ?_
    refine V_ild2 dX6_size_4 ?_
    refine V_if_le 21 dX6_size_5 (by decide) (fun c5 => ?_) (fun c5 => ?_)
    · refine V_ild1 dX6_size_21 ?_
      exact V_iret hX dX6_size_22 rfl rfl rfl
    · exact absurd (Int32.le_of_lt h) c5
  · obtain ⟨z, hz, ez⟩ := nI_of h
    have hR : szM s = nI (0 + szN 31 z) := by rw [szM, if_neg h, ez, nI_clamp hz, Nat.zero_add]
    subst ez
    refine V_iconst 0 dX6_size_0 (by decide) ?_
    refine V_ist1 dX6_size_1 rfl (by decide) ?_
    refine V_ild0 dX6_size_2 ?_
    refine V_ist2 dX6_size_3 rfl (by decide) ?_
    exact lo_size hX 31 z 0 hz hz hR
set_option maxRecDepth 100000 in
set_option maxHeartbeats 4000000 in
theorem mk_ofPerson (hP : τ 5 0 = nI P) (h4 : P ≤ 4) (hM : τ 6 0 = nI M) (h6 : M ≤ 6) (p w : Int32) : Ok 1 yX6_ofPerson cX6_ofPerson 3 (some .int) D tc [.ref (B 0), .int p, .int w] (mW B tc τ) (some (.int (Rm_ofPerson τ M p w))) (mW B tc τ) := by
  refine Ok_of RX6 rfl (by decide) [some (.ref (B 0)), some (.int p), some (.int w)] rfl (Nat.le_of_ble_eq_true rfl) ?_
  intro X hX
  refine V_ald0 dX6_ofPerson_0 ?_
  refine V_ild1 dX6_ofPerson_1 ?_
  refine V_callV lm_X6_159 (mk_isPerson _) dX6_ofPerson_2 mW_obj rfl (dep hX (by decide)) rfl (Nat.le_of_ble_eq_true rfl) ?_
  refine V_if_ne 10 dX6_ofPerson_5 (by decide) (fun c5 => ?_) (fun c5 => ?_)
  · try rw [b2i_ne] at c5
    try rw [Decidable.not_not] at c5
    obtain ⟨j, hj, ej⟩ := isP_of hP (by omega) c5
    subst ej
    have hcj : (nI j).toNatClampNeg = j := nI_clamp (by omega)
    refine V_ild2 dX6_ofPerson_10 ?_
    by_cases e0 : w = 0
    · subst e0
      refine V_tableIn (off := 29) 40 dX6_ofPerson_11 (by decide) (by decide) (by decide) (by decide) ?_
      refine V_ald0 dX6_ofPerson_40 ?_
      refine V_get lf_X6_19 dX6_ofPerson_41 mW_obj rfl ?_
      refine V_ild1 dX6_ofPerson_44 ?_
      refine V_ialdk dX6_ofPerson_45 mW_a9 ⟨by omega, by decide⟩ ?_
      exact V_iret hX dX6_ofPerson_46 rfl (by (try first | replace c5 := eq_false c5 | replace c5 := eq_true c5); simp only [Rm_ofPerson, sel4_0, hcj, c5, not_true_eq_false, not_false_eq_true, and_self, true_and, and_true, false_and, and_false, true_or, or_true, false_or, or_false, or_self, ↓reduceIte]) rfl
    by_cases e1 : w = 1
    · subst e1
      refine V_tableIn (off := 36) 47 dX6_ofPerson_11 (by decide) (by decide) (by decide) (by decide) ?_
      refine V_ald0 dX6_ofPerson_47 ?_
      refine V_get lf_X6_22 dX6_ofPerson_48 mW_obj rfl ?_
      refine V_ild1 dX6_ofPerson_51 ?_
      refine V_ialdk dX6_ofPerson_52 mW_a10 ⟨by omega, by decide⟩ ?_
      exact V_iret hX dX6_ofPerson_53 rfl (by (try first | replace c5 := eq_false c5 | replace c5 := eq_true c5); simp only [Rm_ofPerson, sel4_1, hcj, c5, not_true_eq_false, not_false_eq_true, and_self, true_and, and_true, false_and, and_false, true_or, or_true, false_or, or_false, or_self, ↓reduceIte]) rfl
    by_cases e2 : w = 2
    · subst e2
      refine V_tableIn (off := 43) 54 dX6_ofPerson_11 (by decide) (by decide) (by decide) (by decide) ?_
      refine V_ald0 dX6_ofPerson_54 ?_
      refine V_ild1 dX6_ofPerson_55 ?_
      refine V_callV lm_X6_162 (mk_ownOf hM h6 _) dX6_ofPerson_56 mW_obj rfl (dep hX (by decide)) rfl (Nat.le_of_ble_eq_true rfl) ?_
      refine V_callS ls_X6_165 (mk_size _) dX6_ofPerson_59 (dep hX (by decide)) rfl (Nat.le_of_ble_eq_true rfl) ?_
      exact V_iret hX dX6_ofPerson_62 rfl (by (try first | replace c5 := eq_false c5 | replace c5 := eq_true c5); simp only [Rm_ofPerson, sel4_2, c5, not_true_eq_false, not_false_eq_true, and_self, true_and, and_true, false_and, and_false, true_or, or_true, false_or, or_false, or_self, ↓reduceIte]) rfl
    by_cases e3 : w = 3
    · subst e3
      refine V_tableIn (off := 52) 63 dX6_ofPerson_11 (by decide) (by decide) (by decide) (by decide) ?_
      refine V_ald0 dX6_ofPerson_63 ?_
      refine V_get lf_X6_25 dX6_ofPerson_64 mW_obj rfl ?_
      refine V_ild1 dX6_ofPerson_67 ?_
      refine V_zaldk dX6_ofPerson_68 mW_a11 ⟨by omega, by decide⟩ ?_
      refine V_if_eq 76 dX6_ofPerson_69 (by decide) (fun c69 => ?_) (fun c69 => ?_)
      · refine V_iconst 0 dX6_ofPerson_76 (by decide) ?_
        exact V_iret hX dX6_ofPerson_77 rfl (by (try first | replace c5 := eq_false c5 | replace c5 := eq_true c5); (try first | replace c69 := eq_false c69 | replace c69 := eq_true c69); simp only [Rm_ofPerson, sel4_3, hcj, b2i, c5, c69, not_true_eq_false, not_false_eq_true, and_self, true_and, and_true, false_and, and_false, true_or, or_true, false_or, or_false, or_self, ↓reduceIte]) rfl
      · refine V_iconst 1 dX6_ofPerson_72 (by decide) ?_
        refine V_goto 77 dX6_ofPerson_73 (by decide) ?_
        exact V_iret hX dX6_ofPerson_77 rfl (by (try first | replace c5 := eq_false c5 | replace c5 := eq_true c5); (try first | replace c69 := eq_false c69 | replace c69 := eq_true c69); simp only [Rm_ofPerson, sel4_3, hcj, b2i, c5, c69, not_true_eq_false, not_false_eq_true, and_self, true_and, and_true, false_and, and_false, true_or, or_true, false_or, or_false, or_self, ↓reduceIte]) rfl
    refine V_tableOut 78 dX6_ofPerson_11 (swOut4 e0 e1 e2 e3) (by decide) ?_
    refine V_bipush (-2) dX6_ofPerson_78 (by decide) ?_
    exact V_iret hX dX6_ofPerson_80 rfl (by (try first | replace c5 := eq_false c5 | replace c5 := eq_true c5); simp only [Rm_ofPerson, c5, sel4_d e0 e1 e2 e3, not_true_eq_false, not_false_eq_true, and_self, true_and, and_true, false_and, and_false, true_or, or_true, false_or, or_false, or_self, ↓reduceIte]) rfl
  · try rw [b2i_eq] at c5
    try rw [Decidable.not_not] at c5
    refine V_iconst (-1) dX6_ofPerson_8 (by decide) ?_
    exact V_iret hX dX6_ofPerson_9 rfl (by (try first | replace c5 := eq_false c5 | replace c5 := eq_true c5); simp only [Rm_ofPerson, c5, not_true_eq_false, not_false_eq_true, and_self, true_and, and_true, false_and, and_false, true_or, or_true, false_or, or_false, or_self, ↓reduceIte]) rfl
set_option maxRecDepth 100000 in
set_option maxHeartbeats 4000000 in
theorem mk_fill (hP : τ 5 0 = nI P) (h4 : P ≤ 4) (p v : Int32) : Ok 1 yX6_fill cX6_fill 4 (some .int) D tc [.ref (B 0), .int p, .int v] (mW B tc τ) (some (.int (Rm_fill τ p v))) (mW B tc (Sm_fill τ p v)) := by
  refine Ok_of RX6 rfl (by decide) [some (.ref (B 0)), some (.int p), some (.int v), none] rfl (Nat.le_of_ble_eq_true rfl) ?_
  intro X hX
  refine V_ald0 dX6_fill_0 ?_
  refine V_ild1 dX6_fill_1 ?_
  refine V_callV lm_X6_159 (mk_isPerson _) dX6_fill_2 mW_obj rfl (dep hX (by decide)) rfl (Nat.le_of_ble_eq_true rfl) ?_
  refine V_if_ne 10 dX6_fill_5 (by decide) (fun c5 => ?_) (fun c5 => ?_)
  · try rw [b2i_ne] at c5
    try rw [Decidable.not_not] at c5
    obtain ⟨j, hj, ej⟩ := isP_of hP (by omega) c5
    subst ej
    have hcj : (nI j).toNatClampNeg = j := nI_clamp (by omega)
    refine V_ild2 dX6_fill_10 ?_
    refine V_iconst 0 dX6_fill_11 (by decide) ?_
    refine V_bipush 99 dX6_fill_12 (by decide) ?_
    refine V_callS ls_X6_86 (mk_within _ _ _) dX6_fill_14 (dep hX (by decide)) rfl (Nat.le_of_ble_eq_true rfl) ?_
    refine V_if_ne 23 dX6_fill_17 (by decide) (fun c17 => ?_) (fun c17 => ?_)
    · try rw [b2i_ne] at c17
      try rw [Decidable.not_not] at c17
      refine V_ald0 dX6_fill_23 ?_
      refine V_get lf_X6_19 dX6_fill_24 mW_obj rfl ?_
      refine V_ild1 dX6_fill_27 ?_
      refine V_ialdk dX6_fill_28 mW_a9 ⟨by omega, by decide⟩ ?_
      refine V_ist3 dX6_fill_29 rfl (by decide) ?_
      refine V_ald0 dX6_fill_30 ?_
      refine V_get lf_X6_19 dX6_fill_31 mW_obj rfl ?_
      refine V_ild1 dX6_fill_34 ?_
      refine V_ild2 dX6_fill_35 ?_
      refine V_iastk dX6_fill_36 mW_a9 ⟨by omega, by decide⟩ (mW_a9s _ _) ?_
      refine V_ild3 dX6_fill_37 ?_
      exact V_iret hX dX6_fill_38 rfl (by (try first | replace c5 := eq_false c5 | replace c5 := eq_true c5); (try first | replace c17 := eq_false c17 | replace c17 := eq_true c17); simp only [Rm_fill, hcj, c5, c17, not_true_eq_false, not_false_eq_true, and_self, true_and, and_true, false_and, and_false, true_or, or_true, false_or, or_false, or_self, ↓reduceIte]) (congrArg (mW B tc) (by (try first | replace c5 := eq_false c5 | replace c5 := eq_true c5); (try first | replace c17 := eq_false c17 | replace c17 := eq_true c17); simp only [Sm_fill, hcj, c5, c17, not_true_eq_false, not_false_eq_true, and_self, true_and, and_true, false_and, and_false, true_or, or_true, false_or, or_false, or_self, ↓reduceIte]))
    · try rw [b2i_eq] at c17
      try rw [Decidable.not_not] at c17
      refine V_bipush (-2) dX6_fill_20 (by decide) ?_
      exact V_iret hX dX6_fill_22 rfl (by (try first | replace c5 := eq_false c5 | replace c5 := eq_true c5); (try first | replace c17 := eq_false c17 | replace c17 := eq_true c17); simp only [Rm_fill, hcj, c5, c17, not_true_eq_false, not_false_eq_true, and_self, true_and, and_true, false_and, and_false, true_or, or_true, false_or, or_false, or_self, ↓reduceIte]) (congrArg (mW B tc) (by (try first | replace c5 := eq_false c5 | replace c5 := eq_true c5); (try first | replace c17 := eq_false c17 | replace c17 := eq_true c17); simp only [Sm_fill, hcj, c5, c17, not_true_eq_false, not_false_eq_true, and_self, true_and, and_true, false_and, and_false, true_or, or_true, false_or, or_false, or_self, ↓reduceIte]))
  · try rw [b2i_eq] at c5
    try rw [Decidable.not_not] at c5
    refine V_iconst (-1) dX6_fill_8 (by decide) ?_
    exact V_iret hX dX6_fill_9 rfl (by (try first | replace c5 := eq_false c5 | replace c5 := eq_true c5); simp only [Rm_fill, c5, not_true_eq_false, not_false_eq_true, and_self, true_and, and_true, false_and, and_false, true_or, or_true, false_or, or_false, or_self, ↓reduceIte]) (congrArg (mW B tc) (by (try first | replace c5 := eq_false c5 | replace c5 := eq_true c5); simp only [Sm_fill, c5, not_true_eq_false, not_false_eq_true, and_self, true_and, and_true, false_and, and_false, true_or, or_true, false_or, or_false, or_self, ↓reduceIte]))
set_option maxRecDepth 100000 in
set_option maxHeartbeats 4000000 in
theorem mk_rate (v : Int32) : Ok 1 yX6_rate cX6_rate 3 (some .int) D tc [.ref (B 0), .int v] (mW B tc τ) (some (.int (Rm_rate τ v))) (mW B tc (Sm_rate τ v)) := by
  refine Ok_of RX6 rfl (by decide) [some (.ref (B 0)), some (.int v), none] rfl (Nat.le_of_ble_eq_true rfl) ?_
  intro X hX
  refine V_ild1 dX6_rate_0 ?_
  refine V_iconst 1 dX6_rate_1 (by decide) ?_
  refine V_bipush 9 dX6_rate_2 (by decide) ?_
  refine V_callS ls_X6_86 (mk_within _ _ _) dX6_rate_4 (dep hX (by decide)) rfl (Nat.le_of_ble_eq_true rfl) ?_
  refine V_if_ne 13 dX6_rate_7 (by decide) (fun c7 => ?_) (fun c7 => ?_)
  · try rw [b2i_ne] at c7
    try rw [Decidable.not_not] at c7
    refine V_ald0 dX6_rate_13 ?_
    refine V_get lf_X6_90 dX6_rate_14 mW_obj rfl ?_
    refine V_if_ne 23 dX6_rate_17 (by decide) (fun c17 => ?_) (fun c17 => ?_)
    · refine V_ald0 dX6_rate_23 ?_
      refine V_get lf_X6_123 dX6_rate_24 mW_obj rfl ?_
      refine V_ist2 dX6_rate_27 rfl (by decide) ?_
      refine V_ald0 dX6_rate_28 ?_
      refine V_ild1 dX6_rate_29 ?_
      refine V_puti lp_X6_123 dX6_rate_30 mW_obj (Nat.le_of_ble_eq_true rfl) (mW_p7 _) ?_
      refine V_ild2 dX6_rate_33 ?_
      exact V_iret hX dX6_rate_34 rfl (by (try first | replace c7 := eq_false c7 | replace c7 := eq_true c7); (try first | replace c17 := eq_false c17 | replace c17 := eq_true c17); simp only [Rm_rate, c7, c17, not_true_eq_false, not_false_eq_true, and_self, true_and, and_true, false_and, and_false, true_or, or_true, false_or, or_false, or_self, ↓reduceIte]) (congrArg (mW B tc) (by (try first | replace c7 := eq_false c7 | replace c7 := eq_true c7); (try first | replace c17 := eq_false c17 | replace c17 := eq_true c17); simp only [Sm_rate, c7, c17, not_true_eq_false, not_false_eq_true, and_self, true_and, and_true, false_and, and_false, true_or, or_true, false_or, or_false, or_self, ↓reduceIte]))
    · refine V_bipush (-3) dX6_rate_20 (by decide) ?_
      exact V_iret hX dX6_rate_22 rfl (by (try first | replace c7 := eq_false c7 | replace c7 := eq_true c7); (try first | replace c17 := eq_false c17 | replace c17 := eq_true c17); simp only [Rm_rate, c7, c17, not_true_eq_false, not_false_eq_true, and_self, true_and, and_true, false_and, and_false, true_or, or_true, false_or, or_false, or_self, ↓reduceIte]) (congrArg (mW B tc) (by (try first | replace c7 := eq_false c7 | replace c7 := eq_true c7); (try first | replace c17 := eq_false c17 | replace c17 := eq_true c17); simp only [Sm_rate, c7, c17, not_true_eq_false, not_false_eq_true, and_self, true_and, and_true, false_and, and_false, true_or, or_true, false_or, or_false, or_self, ↓reduceIte]))
  · try rw [b2i_eq] at c7
    try rw [Decidable.not_not] at c7
    refine V_bipush (-2) dX6_rate_10 (by decide) ?_
    exact V_iret hX dX6_rate_12 rfl (by (try first | replace c7 := eq_false c7 | replace c7 := eq_true c7); simp only [Rm_rate, c7, not_true_eq_false, not_false_eq_true, and_self, true_and, and_true, false_and, and_false, true_or, or_true, false_or, or_false, or_self, ↓reduceIte]) (congrArg (mW B tc) (by (try first | replace c7 := eq_false c7 | replace c7 := eq_true c7); simp only [Sm_rate, c7, not_true_eq_false, not_false_eq_true, and_self, true_and, and_true, false_and, and_false, true_or, or_true, false_or, or_false, or_self, ↓reduceIte]))
set_option maxRecDepth 100000 in
set_option maxHeartbeats 4000000 in
theorem mk_fresh (hM : τ 6 0 = nI M) (h6 : M ≤ 6) (m t : Int32) : Ok 1 yX6_fresh cX6_fresh 3 (some .int) D tc [.ref (B 0), .int m, .int t] (mW B tc τ) (some (.int (Rm_fresh τ m t))) (mW B tc τ) := by
  refine Ok_of RX6 rfl (by decide) [some (.ref (B 0)), some (.int m), some (.int t)] rfl (Nat.le_of_ble_eq_true rfl) ?_
  intro X hX
  refine V_ald0 dX6_fresh_0 ?_
  refine V_ild1 dX6_fresh_1 ?_
  refine V_callV lm_X6_156 (mk_isMorning _) dX6_fresh_2 mW_obj rfl (dep hX (by decide)) rfl (Nat.le_of_ble_eq_true rfl) ?_
  refine V_if_ne 10 dX6_fresh_5 (by decide) (fun c5 => ?_) (fun c5 => ?_)
  · try rw [b2i_ne] at c5
    try rw [Decidable.not_not] at c5
    obtain ⟨k, hk, ek⟩ := isP_of hM (by omega) c5
    subst ek
    have hck : (nI k).toNatClampNeg = k := nI_clamp (by omega)
    refine V_ild2 dX6_fresh_10 ?_
    refine V_iconst 0 dX6_fresh_11 (by decide) ?_
    refine V_bipush 99 dX6_fresh_12 (by decide) ?_
    refine V_callS ls_X6_86 (mk_within _ _ _) dX6_fresh_14 (dep hX (by decide)) rfl (Nat.le_of_ble_eq_true rfl) ?_
    refine V_if_eq 29 dX6_fresh_17 (by decide) (fun c17 => ?_) (fun c17 => ?_)
    · try rw [b2i_eq] at c17
      try rw [Decidable.not_not] at c17
      refine V_bipush (-2) dX6_fresh_29 (by decide) ?_
      exact V_iret hX dX6_fresh_31 rfl (by (try first | replace c5 := eq_false c5 | replace c5 := eq_true c5); (try first | replace c17 := eq_false c17 | replace c17 := eq_true c17); simp only [Rm_fresh, hck, c5, c17, not_true_eq_false, not_false_eq_true, and_self, true_and, and_true, false_and, and_false, true_or, or_true, false_or, or_false, or_self, ↓reduceIte]) rfl
    · try rw [b2i_ne] at c17
      try rw [Decidable.not_not] at c17
      refine V_ald0 dX6_fresh_20 ?_
      refine V_ild1 dX6_fresh_21 ?_
      refine V_ild2 dX6_fresh_22 ?_
      refine V_callV lm_X6_152 (mk_freshOn k (by omega) _) dX6_fresh_23 mW_obj rfl (dep hX (by decide)) rfl (Nat.le_of_ble_eq_true rfl) ?_
      refine V_goto 31 dX6_fresh_26 (by decide) ?_
      exact V_iret hX dX6_fresh_31 rfl (by (try first | replace c5 := eq_false c5 | replace c5 := eq_true c5); (try first | replace c17 := eq_false c17 | replace c17 := eq_true c17); simp only [Rm_fresh, hck, c5, c17, not_true_eq_false, not_false_eq_true, and_self, true_and, and_true, false_and, and_false, true_or, or_true, false_or, or_false, or_self, ↓reduceIte]) rfl
  · try rw [b2i_eq] at c5
    try rw [Decidable.not_not] at c5
    refine V_iconst (-1) dX6_fresh_8 (by decide) ?_
    exact V_iret hX dX6_fresh_9 rfl (by (try first | replace c5 := eq_false c5 | replace c5 := eq_true c5); simp only [Rm_fresh, c5, not_true_eq_false, not_false_eq_true, and_self, true_and, and_true, false_and, and_false, true_or, or_true, false_or, or_false, or_self, ↓reduceIte]) rfl
set_option maxRecDepth 100000 in
set_option maxHeartbeats 4000000 in
theorem mk_price (hM : τ 6 0 = nI M) (h6 : M ≤ 6) (m : Int32) : Ok 2 yX6_price cX6_price 2 (some .int) D tc [.ref (B 0), .int m] (mW B tc τ) (some (.int (Rm_price τ m))) (mW B tc τ) := by
  refine Ok_of RX6 rfl (by decide) [some (.ref (B 0)), some (.int m)] rfl (Nat.le_of_ble_eq_true rfl) ?_
  intro X hX
  refine V_ald0 dX6_price_0 ?_
  refine V_ild1 dX6_price_1 ?_
  refine V_callV lm_X6_156 (mk_isMorning _) dX6_price_2 mW_obj rfl (dep hX (by decide)) rfl (Nat.le_of_ble_eq_true rfl) ?_
  refine V_if_eq 16 dX6_price_5 (by decide) (fun c5 => ?_) (fun c5 => ?_)
  · try rw [b2i_eq] at c5
    try rw [Decidable.not_not] at c5
    refine V_iconst (-1) dX6_price_16 (by decide) ?_
    exact V_iret hX dX6_price_17 rfl (by (try first | replace c5 := eq_false c5 | replace c5 := eq_true c5); first | simp only [Rm_price, hck, c5, not_true_eq_false, not_false_eq_true, and_self, true_and, and_true, false_and, and_false, true_or, or_true, false_or, or_false, or_self, ↓reduceIte] | simp only [Rm_price, c5, not_true_eq_false, not_false_eq_true, and_self, true_and, and_true, false_and, and_false, true_or, or_true, false_or, or_false, or_self, ↓reduceIte]) rfl
  · try rw [b2i_ne] at c5
    try rw [Decidable.not_not] at c5
    obtain ⟨k, hk, ek⟩ := isP_of hM (by omega) c5
    subst ek
    have hck : (nI k).toNatClampNeg = k := nI_clamp (by omega)
    refine V_ald0 dX6_price_8 ?_
    refine V_ild1 dX6_price_9 ?_
    refine V_callV lm_X6_168 (mk_priceOf k (by omega)) dX6_price_10 mW_obj rfl (dep hX (by decide)) rfl (Nat.le_of_ble_eq_true rfl) ?_
    refine V_goto 17 dX6_price_13 (by decide) ?_
    exact V_iret hX dX6_price_17 rfl (by (try first | replace c5 := eq_false c5 | replace c5 := eq_true c5); first | simp only [Rm_price, hck, c5, not_true_eq_false, not_false_eq_true, and_self, true_and, and_true, false_and, and_false, true_or, or_true, false_or, or_false, or_self, ↓reduceIte] | simp only [Rm_price, c5, not_true_eq_false, not_false_eq_true, and_self, true_and, and_true, false_and, and_false, true_or, or_true, false_or, or_false, or_self, ↓reduceIte]) rfl
set_option maxRecDepth 100000 in
set_option maxHeartbeats 4000000 in
theorem mk_maySell (hP : τ 5 0 = nI P) (h4 : P ≤ 4) (m : Nat) (hm : m < 6) (p : Int32) : Ok 2 yX6_maySell cX6_maySell 3 (some .boolean) D tc [.ref (B 0), .int (nI m), .int p] (mW B tc τ) (some (.int (b2i (msM τ m p)))) (mW B tc τ) := by
  refine Ok_of RX6 rfl (by decide) [some (.ref (B 0)), some (.int (nI m)), some (.int p)] rfl (Nat.le_of_ble_eq_true rfl) ?_
  intro X hX
  refine V_ald0 dX6_maySell_0 ?_
  refine V_get lf_X6_41 dX6_maySell_1 mW_obj rfl ?_
  refine V_ild1 dX6_maySell_4 ?_
  refine V_zaldk dX6_maySell_5 mW_a16 ⟨hm, by decide⟩ ?_
  refine V_if_ne 45 dX6_maySell_6 (by decide) (fun c6 => ?_) (fun c6 => ?_)
  · have hf : ¬ msM τ m p := fun h => c6 h.1
    refine V_iconst 0 dX6_maySell_45 (by decide) ?_
    exact V_zret hX dX6_maySell_46 rfl (by first | exact Or.inl rfl | exact Or.inr rfl) (by first | rw [b2i_f hf] | rw [b2i_t ht]) rfl
  · refine V_ald0 dX6_maySell_9 ?_
    refine V_ild2 dX6_maySell_10 ?_
    refine V_callV lm_X6_159 (mk_isPerson _) dX6_maySell_11 mW_obj rfl (dep hX (by decide)) rfl (Nat.le_of_ble_eq_true rfl) ?_
    refine V_if_eq 45 dX6_maySell_14 (by decide) (fun c14 => ?_) (fun c14 => ?_)
    · try rw [b2i_eq] at c14
      try rw [Decidable.not_not] at c14
      have hf : ¬ msM τ m p := fun h => c14 h.2.1
      refine V_iconst 0 dX6_maySell_45 (by decide) ?_
      exact V_zret hX dX6_maySell_46 rfl (by first | exact Or.inl rfl | exact Or.inr rfl) (by first | rw [b2i_f hf] | rw [b2i_t ht]) rfl
    · try rw [b2i_ne] at c14
      try rw [Decidable.not_not] at c14
      obtain ⟨j, hj, ej⟩ := isP_of hP (by omega) c14
      subst ej
      have hcj : (nI j).toNatClampNeg = j := nI_clamp (by omega)
      refine V_ild2 dX6_maySell_17 ?_
      refine V_ald0 dX6_maySell_18 ?_
      refine V_get lf_X6_32 dX6_maySell_19 mW_obj rfl ?_
      refine V_ild1 dX6_maySell_22 ?_
      refine V_ialdk dX6_maySell_23 mW_a13 ⟨hm, by decide⟩ ?_
      refine V_icmp_eq 45 dX6_maySell_24 (by decide) (fun c24 => ?_) (fun c24 => ?_)
      · have hf : ¬ msM τ m (nI j) := fun h => h.2.2.1 c24
        refine V_iconst 0 dX6_maySell_45 (by decide) ?_
        exact V_zret hX dX6_maySell_46 rfl (by first | exact Or.inl rfl | exact Or.inr rfl) (by first | rw [b2i_f hf] | rw [b2i_t ht]) rfl
      · refine V_ald0 dX6_maySell_27 ?_
        refine V_ild1 dX6_maySell_28 ?_
        refine V_callV lm_X6_168 (mk_priceOf m hm) dX6_maySell_29 mW_obj rfl (dep hX (by decide)) rfl (Nat.le_of_ble_eq_true rfl) ?_
        refine V_ald0 dX6_maySell_32 ?_
        refine V_get lf_X6_19 dX6_maySell_33 mW_obj rfl ?_
        refine V_ild2 dX6_maySell_36 ?_
        refine V_ialdk dX6_maySell_37 mW_a9 ⟨by omega, by decide⟩ ?_
        refine V_icmp_gt 45 dX6_maySell_38 (by decide) (fun c38 => ?_) (fun c38 => ?_)
        · have hf : ¬ msM τ m (nI j) := fun h => h.2.2.2 (by rw [hcj]; exact c38)
          refine V_iconst 0 dX6_maySell_45 (by decide) ?_
          exact V_zret hX dX6_maySell_46 rfl (by first | exact Or.inl rfl | exact Or.inr rfl) (by first | rw [b2i_f hf] | rw [b2i_t ht]) rfl
        · have ht : msM τ m (nI j) := ⟨c6, c14, c24, by rw [hcj]; exact c38⟩
          refine V_iconst 1 dX6_maySell_41 (by decide) ?_
          refine V_goto 46 dX6_maySell_42 (by decide) ?_
          exact V_zret hX dX6_maySell_46 rfl (by first | exact Or.inl rfl | exact Or.inr rfl) (by first | rw [b2i_f hf] | rw [b2i_t ht]) rfl
set_option maxRecDepth 100000 in
set_option maxHeartbeats 4000000 in
theorem mk_doSell (m p q : Nat) (hm : m < 6) (hp : p < 4) (hq4 : q < 4) (hq : τ 13 m = nI q) : Ok 2 yX6_doSell cX6_doSell 3 none D tc [.ref (B 0), .int (nI m), .int (nI p)] (mW B tc τ) none (mW B tc (dsM τ m p q)) := by
  refine Ok_of RX6 rfl (by decide) [some (.ref (B 0)), some (.int (nI m)), some (.int (nI p))] rfl (Nat.le_of_ble_eq_true rfl) ?_
  intro X hX
  refine V_ald0 dX6_doSell_0 ?_
  refine V_get lf_X6_19 dX6_doSell_1 mW_obj rfl ?_
  refine V_ild2 dX6_doSell_4 ?_
  refine V_dup2 dX6_doSell_5 ?_
  refine V_ialdk dX6_doSell_6 mW_a9 ⟨hp, by decide⟩ ?_
  refine V_ald0 dX6_doSell_7 ?_
  refine V_ild1 dX6_doSell_8 ?_
  refine V_callV lm_X6_168 (mk_priceOf m hm) dX6_doSell_9 mW_obj rfl (dep hX (by decide)) rfl (Nat.le_of_ble_eq_true rfl) ?_
  refine V_isub dX6_doSell_12 ?_
  refine V_iastk dX6_doSell_13 mW_a9 ⟨hp, by decide⟩ (mW_a9s _ _) ?_
  refine V_ald0 dX6_doSell_14 ?_
  refine V_get lf_X6_19 dX6_doSell_15 mW_obj rfl ?_
  refine V_ald0 dX6_doSell_18 ?_
  refine V_get lf_X6_32 dX6_doSell_19 mW_obj rfl ?_
  refine V_ild1 dX6_doSell_22 ?_
  refine V_ialdk dX6_doSell_23 mW_a13 ⟨hm, by decide⟩ ?_
  refine V_top (y := nI q) hq ?_
  refine V_dup2 dX6_doSell_24 ?_
  refine V_ialdk dX6_doSell_25 mW_a9 ⟨hq4, by decide⟩ ?_
  refine V_ald0 dX6_doSell_26 ?_
  refine V_ild1 dX6_doSell_27 ?_
  refine V_callV lm_X6_168 (mk_priceOf m hm) dX6_doSell_28 mW_obj rfl (dep hX (by decide)) rfl (Nat.le_of_ble_eq_true rfl) ?_
  refine V_iadd dX6_doSell_31 ?_
  refine V_iastk dX6_doSell_32 mW_a9 ⟨hq4, by decide⟩ (mW_a9s _ _) ?_
  refine V_ald0 dX6_doSell_33 ?_
  refine V_get lf_X6_32 dX6_doSell_34 mW_obj rfl ?_
  refine V_ild1 dX6_doSell_37 ?_
  refine V_ild2 dX6_doSell_38 ?_
  refine V_iastk dX6_doSell_39 mW_a13 ⟨hm, by decide⟩ (mW_a13s _ _) ?_
  exact V_vret hX dX6_doSell_40 rfl rfl rfl
set_option maxRecDepth 100000 in
set_option maxHeartbeats 4000000 in
theorem mk_doOpen (m q : Nat) (hm : m < 6) (hq4 : q < 4) (hq : τ 13 m = nI q) : Ok 1 yX6_doOpen cX6_doOpen 4 (some .int) D tc [.ref (B 0), .int (nI m)] (mW B tc τ) (some (.int (jgM τ m q))) (mW B tc (doM τ m q)) := by
  refine Ok_of RX6 rfl (by decide) [some (.ref (B 0)), some (.int (nI m)), none, none] rfl (Nat.le_of_ble_eq_true rfl) ?_
  intro X hX
  refine V_ald0 dX6_doOpen_0 ?_
  refine V_get lf_X6_32 dX6_doOpen_1 mW_obj rfl ?_
  refine V_ild1 dX6_doOpen_4 ?_
  refine V_ialdk dX6_doOpen_5 mW_a13 ⟨hm, by decide⟩ ?_
  refine V_top (y := nI q) hq ?_
  refine V_ist2 dX6_doOpen_6 rfl (by decide) ?_
  refine V_ald0 dX6_doOpen_7 ?_
  refine V_get lf_X6_25 dX6_doOpen_8 mW_obj rfl ?_
  refine V_ild2 dX6_doOpen_11 ?_
  refine V_zaldk dX6_doOpen_12 mW_a11 ⟨hq4, by decide⟩ ?_
  refine V_if_eq 30 dX6_doOpen_13 (by decide) (fun c13 => ?_) (fun c13 => ?_)
  · refine V_ald0 dX6_doOpen_30 ?_
    refine V_ild1 dX6_doOpen_31 ?_
    refine V_ald0 dX6_doOpen_32 ?_
    refine V_get lf_X6_129 dX6_doOpen_33 mW_obj rfl ?_
    refine V_callV lm_X6_152 (mk_freshOn m hm _) dX6_doOpen_36 mW_obj rfl (dep hX (by decide)) rfl (Nat.le_of_ble_eq_true rfl) ?_
    refine V_top (y := jgM τ m q) (by rw [jgM]; first | rw [if_pos c13] | rw [if_neg c13]) ?_
    refine V_ist3 dX6_doOpen_39 rfl (by decide) ?_
    refine V_ald0 dX6_doOpen_40 ?_
    refine V_get lf_X6_25 dX6_doOpen_41 mW_obj rfl ?_
    refine V_ild2 dX6_doOpen_44 ?_
    refine V_iconst 1 dX6_doOpen_45 (by decide) ?_
    refine V_zastk dX6_doOpen_46 mW_a11 ⟨hq4, by decide⟩ (by first | exact Or.inl rfl | exact Or.inr rfl) (mW_a11s _ _) ?_
    refine V_ald0 dX6_doOpen_47 ?_
    refine V_get lf_X6_41 dX6_doOpen_48 mW_obj rfl ?_
    refine V_ild1 dX6_doOpen_51 ?_
    refine V_iconst 1 dX6_doOpen_52 (by decide) ?_
    refine V_zastk dX6_doOpen_53 mW_a16 ⟨hm, by decide⟩ (by first | exact Or.inl rfl | exact Or.inr rfl) (mW_a16s _ _) ?_
    refine V_ald0 dX6_doOpen_54 ?_
    refine V_get lf_X6_22 dX6_doOpen_55 mW_obj rfl ?_
    refine V_ild2 dX6_doOpen_58 ?_
    refine V_dup2 dX6_doOpen_59 ?_
    refine V_ialdk dX6_doOpen_60 mW_a10 ⟨hq4, by decide⟩ ?_
    refine V_ild3 dX6_doOpen_61 ?_
    refine V_iadd dX6_doOpen_62 ?_
    refine V_iastk dX6_doOpen_63 mW_a10 ⟨hq4, by decide⟩ (mW_a10s _ _) ?_
    refine V_ild3 dX6_doOpen_64 ?_
    exact V_iret hX dX6_doOpen_65 rfl rfl rfl
  · refine V_ald0 dX6_doOpen_16 ?_
    refine V_ild1 dX6_doOpen_17 ?_
    refine V_ald0 dX6_doOpen_18 ?_
    refine V_get lf_X6_129 dX6_doOpen_19 mW_obj rfl ?_
    refine V_callV lm_X6_152 (mk_freshOn m hm _) dX6_doOpen_22 mW_obj rfl (dep hX (by decide)) rfl (Nat.le_of_ble_eq_true rfl) ?_
    refine V_iconst 2 dX6_doOpen_25 (by decide) ?_
    refine V_idiv dX6_doOpen_26 (by decide) ?_
    refine V_goto 39 dX6_doOpen_27 (by decide) ?_
    refine V_top (y := jgM τ m q) (by rw [jgM]; first | rw [if_pos c13] | rw [if_neg c13]) ?_
    refine V_ist3 dX6_doOpen_39 rfl (by decide) ?_
    refine V_ald0 dX6_doOpen_40 ?_
    refine V_get lf_X6_25 dX6_doOpen_41 mW_obj rfl ?_
    refine V_ild2 dX6_doOpen_44 ?_
    refine V_iconst 1 dX6_doOpen_45 (by decide) ?_
    refine V_zastk dX6_doOpen_46 mW_a11 ⟨hq4, by decide⟩ (by first | exact Or.inl rfl | exact Or.inr rfl) (mW_a11s _ _) ?_
    refine V_ald0 dX6_doOpen_47 ?_
    refine V_get lf_X6_41 dX6_doOpen_48 mW_obj rfl ?_
    refine V_ild1 dX6_doOpen_51 ?_
    refine V_iconst 1 dX6_doOpen_52 (by decide) ?_
    refine V_zastk dX6_doOpen_53 mW_a16 ⟨hm, by decide⟩ (by first | exact Or.inl rfl | exact Or.inr rfl) (mW_a16s _ _) ?_
    refine V_ald0 dX6_doOpen_54 ?_
    refine V_get lf_X6_22 dX6_doOpen_55 mW_obj rfl ?_
    refine V_ild2 dX6_doOpen_58 ?_
    refine V_dup2 dX6_doOpen_59 ?_
    refine V_ialdk dX6_doOpen_60 mW_a10 ⟨hq4, by decide⟩ ?_
    refine V_ild3 dX6_doOpen_61 ?_
    refine V_iadd dX6_doOpen_62 ?_
    refine V_iastk dX6_doOpen_63 mW_a10 ⟨hq4, by decide⟩ (mW_a10s _ _) ?_
    refine V_ild3 dX6_doOpen_64 ?_
    exact V_iret hX dX6_doOpen_65 rfl rfl rfl
set_option maxRecDepth 100000 in
set_option maxHeartbeats 4000000 in
theorem mk_doSleep (hP : τ 5 0 = nI P) (h4 : P ≤ 4) (n : Int32) : Ok 0 yX6_doSleep cX6_doSleep 3 none D tc [.ref (B 0), .int n] (mW B tc τ) none (mW B tc (dlM τ n P)) := by
  refine Ok_of RX6 rfl (by decide) [some (.ref (B 0)), some (.int n), none] rfl (Nat.le_of_ble_eq_true rfl) ?_
  intro X hX
  by_cases hn : n ≤ 0
  · refine V_ald0 dX6_doSleep_0 ?_
    refine V_dupa dX6_doSleep_1 ?_
    refine V_get lf_X6_129 dX6_doSleep_2 mW_obj rfl ?_
    refine V_ild1 dX6_doSleep_5 ?_
    refine V_iadd dX6_doSleep_6 ?_
    refine V_puti lp_X6_129 dX6_doSleep_7 mW_obj (Nat.le_of_ble_eq_true rfl) (mW_p8 _) ?_
    refine V_iconst 0 dX6_doSleep_10 (by decide) ?_
    refine V_ist2 dX6_doSleep_11 rfl (by decide) ?_
    refine V_ild2 dX6_doSleep_12 ?_
    refine V_ald0 dX6_doSleep_13 ?_
    refine V_get lf_X6_90 dX6_doSleep_14 mW_obj rfl ?_
    refine V_icmp_ge 37 dX6_doSleep_17 (by decide) (fun c17 => ?_) (fun c17 => ?_)
    · exact V_vret hX dX6_doSleep_37 rfl rfl (congrArg (mW B tc) (by rw [dlM, if_pos hn]))
    · refine V_ild1 dX6_doSleep_20 ?_
      refine V_if_le 37 dX6_doSleep_21 (by decide) (fun c21 => ?_) (fun c21 => ?_)
      · exact V_vret hX dX6_doSleep_37 rfl rfl (congrArg (mW B tc) (by rw [dlM, if_pos hn]))
      · exact absurd hn c21
  · have lpS : ∀ k, k < P → V X D tc cX6_doSleep RX6 3 12 ((fun k => [some (.ref (B 0)), some (.int n), some (.int (nI k))]) (k + 1)) [] ((fun k => mW B tc (umF (um τ 8 0 (τ 8 0 + n)) 11 (fillN (τ 11) 0 k))) (k + 1)) → V X D tc cX6_doSleep RX6 3 12 ((fun k => [some (.ref (B 0)), some (.int n), some (.int (nI k))]) k) [] ((fun k => mW B tc (umF (um τ 8 0 (τ 8 0 + n)) 11 (fillN (τ 11) 0 k))) k) := by
      intro k hk ihlp
      refine V_ild2 dX6_doSleep_12 ?_
      refine V_ald0 dX6_doSleep_13 ?_
      refine V_get lf_X6_90 dX6_doSleep_14 mW_obj rfl ?_
      refine V_icmp_ge 37 dX6_doSleep_17 (by decide) (fun c17 => ?_) (fun c17 => ?_)
      · exact absurd c17 (ge_no hP hk (by omega))
      · refine V_ild1 dX6_doSleep_20 ?_
        refine V_if_le 37 dX6_doSleep_21 (by decide) (fun c21 => ?_) (fun c21 => ?_)
        · exact absurd c21 hn
        · refine V_ald0 dX6_doSleep_24 ?_
          refine V_get lf_X6_25 dX6_doSleep_25 mW_obj rfl ?_
          refine V_ild2 dX6_doSleep_28 ?_
          refine V_iconst 0 dX6_doSleep_29 (by decide) ?_
          refine V_zastk dX6_doSleep_30 mW_a11 ⟨by omega, by decide⟩ (by first | exact Or.inl rfl | exact Or.inr rfl) (mW_a11s _ _) ?_
          refine V_inc2 (nI (k + 1)) dX6_doSleep_31 (nI_inc k) rfl (by decide) ?_
          refine V_goto 12 dX6_doSleep_34 (by decide) ?_
          refine V_eq rfl rfl ?_ ihlp
          rw [um_umF]
          exact congrArg (fun g => mW B tc (umF (um τ 8 0 (τ 8 0 + n)) 11 g)) (fillN_s _ _ _)
    have lpE : V X D tc cX6_doSleep RX6 3 12 ((fun k => [some (.ref (B 0)), some (.int n), some (.int (nI k))]) (P)) [] ((fun k => mW B tc (umF (um τ 8 0 (τ 8 0 + n)) 11 (fillN (τ 11) 0 k))) (P)) := by
      refine V_ild2 dX6_doSleep_12 ?_
      refine V_ald0 dX6_doSleep_13 ?_
      refine V_get lf_X6_90 dX6_doSleep_14 mW_obj rfl ?_
      refine V_icmp_ge 37 dX6_doSleep_17 (by decide) (fun c17 => ?_) (fun c17 => ?_)
      · exact V_vret hX dX6_doSleep_37 rfl rfl (congrArg (mW B tc) (by rw [dlM, if_neg hn]))
      · exact absurd (ge_yes hP) c17
    have lp := V_for (fun k => [some (.ref (B 0)), some (.int n), some (.int (nI k))]) (fun k => mW B tc (umF (um τ 8 0 (τ 8 0 + n)) 11 (fillN (τ 11) 0 k))) (P) lpS lpE
    refine V_ald0 dX6_doSleep_0 ?_
    refine V_dupa dX6_doSleep_1 ?_
    refine V_get lf_X6_129 dX6_doSleep_2 mW_obj rfl ?_
    refine V_ild1 dX6_doSleep_5 ?_
    refine V_iadd dX6_doSleep_6 ?_
    refine V_puti lp_X6_129 dX6_doSleep_7 mW_obj (Nat.le_of_ble_eq_true rfl) (mW_p8 _) ?_
    refine V_iconst 0 dX6_doSleep_10 (by decide) ?_
    refine V_ist2 dX6_doSleep_11 rfl (by decide) ?_
    refine V_eq rfl rfl ?_ (lp 0 (Nat.zero_le _))
    rw [fillN_0]
    exact congrArg (mW B tc) (umF_self (um τ 8 0 (τ 8 0 + n)) 11).symm
set_option maxRecDepth 100000 in
set_option maxHeartbeats 4000000 in
theorem mk_sell (hP : τ 5 0 = nI P) (h4 : P ≤ 4) (hM : τ 6 0 = nI M) (h6 : M ≤ 6) (hw : ∀ m, m < M → ∃ q, q < 4 ∧ τ 13 m = nI q) (m p : Int32) : Ok 3 yX6_sell cX6_sell 4 (some .int) D tc [.ref (B 0), .int m, .int p] (mW B tc τ) (some (.int (Rm_sell τ m p))) (mW B tc (Sm_sell τ m p)) := by
  refine Ok_of RX6 rfl (by decide) [some (.ref (B 0)), some (.int m), some (.int p), none] rfl (Nat.le_of_ble_eq_true rfl) ?_
  intro X hX
  refine V_ald0 dX6_sell_0 ?_
  refine V_ild1 dX6_sell_1 ?_
  refine V_callV lm_X6_156 (mk_isMorning _) dX6_sell_2 mW_obj rfl (dep hX (by decide)) rfl (Nat.le_of_ble_eq_true rfl) ?_
  refine V_if_eq 16 dX6_sell_5 (by decide) (fun c5 => ?_) (fun c5 => ?_)
  · try rw [b2i_eq] at c5
    try rw [Decidable.not_not] at c5
    refine V_iconst (-1) dX6_sell_16 (by decide) ?_
    exact V_iret hX dX6_sell_17 rfl (by (try first | replace c5 := eq_false c5 | replace c5 := eq_true c5); simp only [Rm_sell, c5, not_true_eq_false, not_false_eq_true, and_self, true_and, and_true, false_and, and_false, true_or, or_true, false_or, or_false, or_self, ↓reduceIte]) (congrArg (mW B tc) (by (try first | replace c5 := eq_false c5 | replace c5 := eq_true c5); simp only [Sm_sell, c5, not_true_eq_false, not_false_eq_true, and_self, true_and, and_true, false_and, and_false, true_or, or_true, false_or, or_false, or_self, ↓reduceIte]))
  · try rw [b2i_ne] at c5
    try rw [Decidable.not_not] at c5
    obtain ⟨k, hk, ek⟩ := isP_of hM (by omega) c5
    subst ek
    have hck : (nI k).toNatClampNeg = k := nI_clamp (by omega)
    refine V_ald0 dX6_sell_8 ?_
    refine V_ild2 dX6_sell_9 ?_
    refine V_callV lm_X6_159 (mk_isPerson _) dX6_sell_10 mW_obj rfl (dep hX (by decide)) rfl (Nat.le_of_ble_eq_true rfl) ?_
    refine V_if_ne 18 dX6_sell_13 (by decide) (fun c13 => ?_) (fun c13 => ?_)
    · try rw [b2i_ne] at c13
      try rw [Decidable.not_not] at c13
      obtain ⟨j, hj, ej⟩ := isP_of hP (by omega) c13
      subst ej
      have hcj : (nI j).toNatClampNeg = j := nI_clamp (by omega)
      obtain ⟨q, hq4, hq⟩ := hw k hk
      have hcq : (τ 13 k).toNatClampNeg = q := by rw [hq]; exact nI_clamp (by omega)
      refine V_ald0 dX6_sell_18 ?_
      refine V_ild1 dX6_sell_19 ?_
      refine V_ild2 dX6_sell_20 ?_
      refine V_callV lm_X6_171 (mk_maySell hP h4 k (by omega) _) dX6_sell_21 mW_obj rfl (dep hX (by decide)) rfl (Nat.le_of_ble_eq_true rfl) ?_
      refine V_if_ne 30 dX6_sell_24 (by decide) (fun c24 => ?_) (fun c24 => ?_)
      · try rw [b2i_ne] at c24
        try rw [Decidable.not_not] at c24
        refine V_ald0 dX6_sell_30 ?_
        refine V_ild1 dX6_sell_31 ?_
        refine V_callV lm_X6_168 (mk_priceOf k (by omega)) dX6_sell_32 mW_obj rfl (dep hX (by decide)) rfl (Nat.le_of_ble_eq_true rfl) ?_
        refine V_ist3 dX6_sell_35 rfl (by decide) ?_
        refine V_ald0 dX6_sell_36 ?_
        refine V_ild1 dX6_sell_37 ?_
        refine V_ild2 dX6_sell_38 ?_
        refine V_callVv lm_X6_174 (mk_doSell k j q (by omega) (by omega) hq4 hq) dX6_sell_39 mW_obj rfl (dep hX (by decide)) rfl (Nat.le_of_ble_eq_true rfl) ?_
        refine V_ild3 dX6_sell_42 ?_
        exact V_iret hX dX6_sell_43 rfl (by (try first | replace c5 := eq_false c5 | replace c5 := eq_true c5); (try first | replace c13 := eq_false c13 | replace c13 := eq_true c13); (try first | replace c24 := eq_false c24 | replace c24 := eq_true c24); simp only [Rm_sell, hck, hcj, c5, c13, c24, not_true_eq_false, not_false_eq_true, and_self, true_and, and_true, false_and, and_false, true_or, or_true, false_or, or_false, or_self, ↓reduceIte]) (congrArg (mW B tc) (by (try first | replace c5 := eq_false c5 | replace c5 := eq_true c5); (try first | replace c13 := eq_false c13 | replace c13 := eq_true c13); (try first | replace c24 := eq_false c24 | replace c24 := eq_true c24); simp only [Sm_sell, hck, hcj, hcq, c5, c13, c24, not_true_eq_false, not_false_eq_true, and_self, true_and, and_true, false_and, and_false, true_or, or_true, false_or, or_false, or_self, ↓reduceIte]))
      · try rw [b2i_eq] at c24
        try rw [Decidable.not_not] at c24
        refine V_bipush (-3) dX6_sell_27 (by decide) ?_
        exact V_iret hX dX6_sell_29 rfl (by (try first | replace c5 := eq_false c5 | replace c5 := eq_true c5); (try first | replace c13 := eq_false c13 | replace c13 := eq_true c13); (try first | replace c24 := eq_false c24 | replace c24 := eq_true c24); simp only [Rm_sell, hck, hcj, c5, c13, c24, not_true_eq_false, not_false_eq_true, and_self, true_and, and_true, false_and, and_false, true_or, or_true, false_or, or_false, or_self, ↓reduceIte]) (congrArg (mW B tc) (by (try first | replace c5 := eq_false c5 | replace c5 := eq_true c5); (try first | replace c13 := eq_false c13 | replace c13 := eq_true c13); (try first | replace c24 := eq_false c24 | replace c24 := eq_true c24); simp only [Sm_sell, hck, hcj, c5, c13, c24, not_true_eq_false, not_false_eq_true, and_self, true_and, and_true, false_and, and_false, true_or, or_true, false_or, or_false, or_self, ↓reduceIte]))
    · try rw [b2i_eq] at c13
      try rw [Decidable.not_not] at c13
      refine V_iconst (-1) dX6_sell_16 (by decide) ?_
      exact V_iret hX dX6_sell_17 rfl (by (try first | replace c5 := eq_false c5 | replace c5 := eq_true c5); (try first | replace c13 := eq_false c13 | replace c13 := eq_true c13); simp only [Rm_sell, c5, c13, not_true_eq_false, not_false_eq_true, and_self, true_and, and_true, false_and, and_false, true_or, or_true, false_or, or_false, or_self, ↓reduceIte]) (congrArg (mW B tc) (by (try first | replace c5 := eq_false c5 | replace c5 := eq_true c5); (try first | replace c13 := eq_false c13 | replace c13 := eq_true c13); simp only [Sm_sell, c5, c13, not_true_eq_false, not_false_eq_true, and_self, true_and, and_true, false_and, and_false, true_or, or_true, false_or, or_false, or_self, ↓reduceIte]))
set_option maxRecDepth 100000 in
set_option maxHeartbeats 4000000 in
theorem mk_open (hM : τ 6 0 = nI M) (h6 : M ≤ 6) (hw : ∀ m, m < M → ∃ q, q < 4 ∧ τ 13 m = nI q) (m : Int32) : Ok 2 yX6_open cX6_open 2 (some .int) D tc [.ref (B 0), .int m] (mW B tc τ) (some (.int (Rm_open τ m))) (mW B tc (Sm_open τ m)) := by
  refine Ok_of RX6 rfl (by decide) [some (.ref (B 0)), some (.int m)] rfl (Nat.le_of_ble_eq_true rfl) ?_
  intro X hX
  refine V_ald0 dX6_open_0 ?_
  refine V_ild1 dX6_open_1 ?_
  refine V_callV lm_X6_156 (mk_isMorning _) dX6_open_2 mW_obj rfl (dep hX (by decide)) rfl (Nat.le_of_ble_eq_true rfl) ?_
  refine V_if_ne 10 dX6_open_5 (by decide) (fun c5 => ?_) (fun c5 => ?_)
  · try rw [b2i_ne] at c5
    try rw [Decidable.not_not] at c5
    obtain ⟨k, hk, ek⟩ := isP_of hM (by omega) c5
    subst ek
    have hck : (nI k).toNatClampNeg = k := nI_clamp (by omega)
    obtain ⟨q, hq4, hq⟩ := hw k hk
    have hcq : (τ 13 k).toNatClampNeg = q := by rw [hq]; exact nI_clamp (by omega)
    refine V_ald0 dX6_open_10 ?_
    refine V_get lf_X6_41 dX6_open_11 mW_obj rfl ?_
    refine V_ild1 dX6_open_14 ?_
    refine V_zaldk dX6_open_15 mW_a16 ⟨by omega, by decide⟩ ?_
    refine V_if_eq 24 dX6_open_16 (by decide) (fun c16 => ?_) (fun c16 => ?_)
    · refine V_ald0 dX6_open_24 ?_
      refine V_ild1 dX6_open_25 ?_
      refine V_callV lm_X6_178 (mk_doOpen k q (by omega) hq4 hq) dX6_open_26 mW_obj rfl (dep hX (by decide)) rfl (Nat.le_of_ble_eq_true rfl) ?_
      exact V_iret hX dX6_open_29 rfl (by (try first | replace c5 := eq_false c5 | replace c5 := eq_true c5); (try first | replace c16 := eq_false c16 | replace c16 := eq_true c16); simp only [Rm_open, hck, hcq, c5, c16, not_true_eq_false, not_false_eq_true, and_self, true_and, and_true, false_and, and_false, true_or, or_true, false_or, or_false, or_self, ↓reduceIte]) (congrArg (mW B tc) (by (try first | replace c5 := eq_false c5 | replace c5 := eq_true c5); (try first | replace c16 := eq_false c16 | replace c16 := eq_true c16); simp only [Sm_open, hck, hcq, c5, c16, not_true_eq_false, not_false_eq_true, and_self, true_and, and_true, false_and, and_false, true_or, or_true, false_or, or_false, or_self, ↓reduceIte]))
    · refine V_bipush (-3) dX6_open_19 (by decide) ?_
      refine V_goto 29 dX6_open_21 (by decide) ?_
      exact V_iret hX dX6_open_29 rfl (by (try first | replace c5 := eq_false c5 | replace c5 := eq_true c5); (try first | replace c16 := eq_false c16 | replace c16 := eq_true c16); simp only [Rm_open, hck, hcq, c5, c16, not_true_eq_false, not_false_eq_true, and_self, true_and, and_true, false_and, and_false, true_or, or_true, false_or, or_false, or_self, ↓reduceIte]) (congrArg (mW B tc) (by (try first | replace c5 := eq_false c5 | replace c5 := eq_true c5); (try first | replace c16 := eq_false c16 | replace c16 := eq_true c16); simp only [Sm_open, hck, hcq, c5, c16, not_true_eq_false, not_false_eq_true, and_self, true_and, and_true, false_and, and_false, true_or, or_true, false_or, or_false, or_self, ↓reduceIte]))
  · try rw [b2i_eq] at c5
    try rw [Decidable.not_not] at c5
    refine V_iconst (-1) dX6_open_8 (by decide) ?_
    exact V_iret hX dX6_open_9 rfl (by (try first | replace c5 := eq_false c5 | replace c5 := eq_true c5); simp only [Rm_open, c5, not_true_eq_false, not_false_eq_true, and_self, true_and, and_true, false_and, and_false, true_or, or_true, false_or, or_false, or_self, ↓reduceIte]) (congrArg (mW B tc) (by (try first | replace c5 := eq_false c5 | replace c5 := eq_true c5); simp only [Sm_open, c5, not_true_eq_false, not_false_eq_true, and_self, true_and, and_true, false_and, and_false, true_or, or_true, false_or, or_false, or_self, ↓reduceIte]))
set_option maxRecDepth 100000 in
set_option maxHeartbeats 4000000 in
theorem mk_sleep (hP : τ 5 0 = nI P) (h4 : P ≤ 4) (n : Int32) : Ok 1 yX6_sleep cX6_sleep 2 (some .int) D tc [.ref (B 0), .int n] (mW B tc τ) (some (.int (Rm_sleep τ n))) (mW B tc (Sm_sleep τ n P)) := by
  refine Ok_of RX6 rfl (by decide) [some (.ref (B 0)), some (.int n)] rfl (Nat.le_of_ble_eq_true rfl) ?_
  intro X hX
  refine V_ild1 dX6_sleep_0 ?_
  refine V_iconst 0 dX6_sleep_1 (by decide) ?_
  refine V_bipush 9 dX6_sleep_2 (by decide) ?_
  refine V_callS ls_X6_86 (mk_within _ _ _) dX6_sleep_4 (dep hX (by decide)) rfl (Nat.le_of_ble_eq_true rfl) ?_
  refine V_if_ne 13 dX6_sleep_7 (by decide) (fun c7 => ?_) (fun c7 => ?_)
  · try rw [b2i_ne] at c7
    try rw [Decidable.not_not] at c7
    refine V_ald0 dX6_sleep_13 ?_
    refine V_get lf_X6_90 dX6_sleep_14 mW_obj rfl ?_
    refine V_if_eq 31 dX6_sleep_17 (by decide) (fun c17 => ?_) (fun c17 => ?_)
    · refine V_bipush (-3) dX6_sleep_31 (by decide) ?_
      exact V_iret hX dX6_sleep_33 rfl (by (try first | replace c7 := eq_false c7 | replace c7 := eq_true c7); (try first | replace c17 := eq_false c17 | replace c17 := eq_true c17); simp only [Rm_sleep, c7, c17, not_true_eq_false, not_false_eq_true, and_self, true_and, and_true, false_and, and_false, true_or, or_true, false_or, or_false, or_self, ↓reduceIte]) (congrArg (mW B tc) (by (try first | replace c7 := eq_false c7 | replace c7 := eq_true c7); (try first | replace c17 := eq_false c17 | replace c17 := eq_true c17); simp only [Sm_sleep, c7, c17, not_true_eq_false, not_false_eq_true, and_self, true_and, and_true, false_and, and_false, true_or, or_true, false_or, or_false, or_self, ↓reduceIte]))
    · refine V_ald0 dX6_sleep_20 ?_
      refine V_get lf_X6_129 dX6_sleep_21 mW_obj rfl ?_
      refine V_ild1 dX6_sleep_24 ?_
      refine V_iadd dX6_sleep_25 ?_
      refine V_bipush 99 dX6_sleep_26 (by decide) ?_
      refine V_icmp_le 34 dX6_sleep_28 (by decide) (fun c28 => ?_) (fun c28 => ?_)
      · refine V_ald0 dX6_sleep_34 ?_
        refine V_ild1 dX6_sleep_35 ?_
        refine V_callVv lm_X6_181 (mk_doSleep hP h4 _) dX6_sleep_36 mW_obj rfl (dep hX (by decide)) rfl (Nat.le_of_ble_eq_true rfl) ?_
        refine V_ald0 dX6_sleep_39 ?_
        refine V_get lf_X6_129 dX6_sleep_40 mW_obj rfl ?_
        refine V_top (y := τ 8 0 + n) (by unfold dlM; split <;> rfl) ?_
        exact V_iret hX dX6_sleep_43 rfl (by (try first | replace c7 := eq_false c7 | replace c7 := eq_true c7); (try first | replace c17 := eq_false c17 | replace c17 := eq_true c17); (try first | replace c28 := eq_false c28 | replace c28 := eq_true c28); simp only [Rm_sleep, c7, c17, c28, not_true_eq_false, not_false_eq_true, and_self, true_and, and_true, false_and, and_false, true_or, or_true, false_or, or_false, or_self, ↓reduceIte]) (congrArg (mW B tc) (by (try first | replace c7 := eq_false c7 | replace c7 := eq_true c7); (try first | replace c17 := eq_false c17 | replace c17 := eq_true c17); (try first | replace c28 := eq_false c28 | replace c28 := eq_true c28); simp only [Sm_sleep, c7, c17, c28, not_true_eq_false, not_false_eq_true, and_self, true_and, and_true, false_and, and_false, true_or, or_true, false_or, or_false, or_self, ↓reduceIte]))
      · refine V_bipush (-3) dX6_sleep_31 (by decide) ?_
        exact V_iret hX dX6_sleep_33 rfl (by (try first | replace c7 := eq_false c7 | replace c7 := eq_true c7); (try first | replace c17 := eq_false c17 | replace c17 := eq_true c17); (try first | replace c28 := eq_false c28 | replace c28 := eq_true c28); simp only [Rm_sleep, c7, c17, c28, not_true_eq_false, not_false_eq_true, and_self, true_and, and_true, false_and, and_false, true_or, or_true, false_or, or_false, or_self, ↓reduceIte]) (congrArg (mW B tc) (by (try first | replace c7 := eq_false c7 | replace c7 := eq_true c7); (try first | replace c17 := eq_false c17 | replace c17 := eq_true c17); (try first | replace c28 := eq_false c28 | replace c28 := eq_true c28); simp only [Sm_sleep, c7, c17, c28, not_true_eq_false, not_false_eq_true, and_self, true_and, and_true, false_and, and_false, true_or, or_true, false_or, or_false, or_self, ↓reduceIte]))
  · try rw [b2i_eq] at c7
    try rw [Decidable.not_not] at c7
    refine V_bipush (-2) dX6_sleep_10 (by decide) ?_
    exact V_iret hX dX6_sleep_12 rfl (by (try first | replace c7 := eq_false c7 | replace c7 := eq_true c7); simp only [Rm_sleep, c7, not_true_eq_false, not_false_eq_true, and_self, true_and, and_true, false_and, and_false, true_or, or_true, false_or, or_false, or_self, ↓reduceIte]) (congrArg (mW B tc) (by (try first | replace c7 := eq_false c7 | replace c7 := eq_true c7); simp only [Sm_sleep, c7, not_true_eq_false, not_false_eq_true, and_self, true_and, and_true, false_and, and_false, true_or, or_true, false_or, or_false, or_self, ↓reduceIte]))
end
