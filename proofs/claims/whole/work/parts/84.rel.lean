/-! class and reference, side by side: a Market μ of the class, the reference's fields τ -/
abbrev PR (μ τ : Sm) (p : Nat) : Prop := μ 0 p = τ 9 p ∧ (μ 2 p = μ 8 0 ↔ ¬ τ 11 p = 0) ∧ ¬ μ 8 0 < μ 2 p
abbrev MO (P : Nat) (μ τ : Sm) (m : Nat) : Prop := μ 3 m = τ 12 m ∧ μ 4 m = τ 13 m ∧ μ 5 m = τ 14 m ∧ μ 6 m = τ 15 m ∧ (∃ q, q < P ∧ τ 13 m = nI q) ∧ (∃ kd, kd ≤ 2 ∧ τ 12 m = nI kd) ∧ (∃ t, t ≤ 9 ∧ τ 14 m = nI t) ∧ (∃ w, w ≤ 9 ∧ τ 15 m = nI w)
def MR (P M : Nat) (μ τ : Sm) : Prop := (P ≤ 4 ∧ M ≤ 6) ∧ (μ 9 0 = nI P ∧ τ 5 0 = nI P) ∧ (μ 10 0 = nI M ∧ τ 6 0 = nI M) ∧ (μ 7 0 = τ 7 0 ∧ ∃ r, r ≤ 9 ∧ τ 7 0 = nI r) ∧ (μ 8 0 = τ 8 0 ∧ ∃ d, d ≤ 99 ∧ τ 8 0 = nI d) ∧ μ 11 0 = opM τ M ∧ (∀ p, p < P → PR μ τ p) ∧ (∀ m, m < M → MO P μ τ m) ∧ z01 (τ 11) 4 ∧ z01 (τ 16) 6
theorem op_bit {τ : Sm} : ∀ k, k ≤ 6 → ∀ m, m < 6 → (bitI (opM τ k) (nI m) ↔ m < k ∧ ¬ τ 16 m = 0) := by
  intro k
  induction k with
  | zero => intro _ m hm; exact ⟨fun h => absurd h (bit_0 (by omega)), fun h => by omega⟩
  | succ k ih =>
    intro hk m hm
    unfold opM
    rw [bit_or (by omega), ih (by omega) m hm]
    by_cases h0 : τ 16 k = 0
    · rw [if_pos h0]
      constructor
      · rintro (h | h)
        · exact ⟨by omega, h.2⟩
        · exact absurd h (bit_0 (by omega))
      · rintro ⟨h1, h2⟩
        have : ¬ m = k := fun e => h2 (by rw [e]; exact h0)
        exact Or.inl ⟨by omega, h2⟩
    · rw [if_neg h0, bit_one (by omega) hm]
      constructor
      · rintro (h | h)
        · exact ⟨by omega, h.2⟩
        · subst h; exact ⟨by omega, h0⟩
      · rintro ⟨h1, h2⟩
        by_cases e : m = k
        · exact Or.inr e
        · exact Or.inl ⟨by omega, h2⟩
section
variable {P M : Nat} {μ τ : Sm}
theorem mr_bit (h : MR P M μ τ) {m : Nat} (hm : m < M) : bitI (μ 11 0) (nI m) ↔ ¬ τ 16 m = 0 := by
  have h6 := h.1.2
  rw [h.2.2.2.2.2.1, op_bit M h6 m (by omega)]
  exact ⟨fun z => z.2, fun z => ⟨hm, z⟩⟩
theorem mr_nbit (h : MR P M μ τ) {m : Nat} (hm : m < M) : ¬ bitI (μ 11 0) (nI m) ↔ τ 16 m = 0 := by
  rw [mr_bit h hm, Decidable.not_not]
theorem fr_eq (h : MR P M μ τ) {m : Nat} (hm : m < M) (t : Int32) : frC μ m t = frM τ m t := by
  obtain ⟨h1, h2, h3, h4, -⟩ := h.2.2.2.2.2.2.2.1 m hm
  unfold frC frM
  rw [h1, h3, h4]
theorem pr_eq (h : MR P M μ τ) {m : Nat} (hm : m < M) : prC μ m = prM τ m := by
  unfold prC prM
  rw [fr_eq h hm, h.2.2.2.1.1, h.2.2.2.2.1.1]
theorem cl_eq (h : MR P M μ τ) (p : Int32) : ∀ k, k ≤ M → clC μ p k = owM τ p k := by
  intro k
  induction k with
  | zero => intro _; rfl
  | succ k ih =>
    intro hk
    unfold clC owM
    rw [ih (by omega), (h.2.2.2.2.2.2.2.1 k (by omega)).2.1]
    by_cases e : τ 13 k = p ∧ τ 16 k = 0
    · rw [if_pos e, if_pos ⟨e.1, (mr_nbit h (by omega)).mpr e.2⟩]
    · rw [if_neg e, if_neg (fun z => e ⟨z.1, (mr_nbit h (by omega)).mp z.2⟩), or_0]
theorem ps_eq (h : MR P M μ τ) (s : Int32) : ∀ k, k ≤ M → psC μ s k = psM τ s k := by
  intro k
  induction k with
  | zero => intro _; rfl
  | succ k ih =>
    intro hk
    unfold psC psM
    rw [ih (by omega), pr_eq h (by omega)]
    by_cases e : bitI s (nI k)
    · rw [if_pos e, if_pos e]
    · rw [if_neg e, if_neg e, Int32.add_zero]
theorem ha_eq (h : MR P M μ τ) (s d : Int32) : ∀ k, k ≤ M → haC μ s d k = jbS τ s d k := by
  intro k
  induction k with
  | zero => intro _; rfl
  | succ k ih =>
    intro hk
    unfold haC jbS isM
    rw [ih (by omega), fr_eq h (by omega)]
    by_cases e : bitI s (nI k)
    · rw [if_pos e, if_pos e]
    · rw [if_neg e, if_neg e, show (0 : Int32) / 2 = 0 by decide, Int32.add_zero]
theorem jbF_pos (τ : Sm) (s d : Int32) : ∀ k, 0 ≤ jbF τ s d k := by
  intro k
  induction k with
  | zero => exact Int32.le_refl _
  | succ k ih =>
    unfold jbF
    split
    · exact ih
    · rename_i hn
      exact Int32.le_trans ih (Int32.le_of_lt (Int32.not_le.mp hn))
theorem fm_eq (h : MR P M μ τ) (s d : Int32) : ∀ k, k ≤ M → fmC μ s d k = jbF τ s d k := by
  intro k
  induction k with
  | zero => intro _; rfl
  | succ k ih =>
    intro hk
    have h0 := jbF_pos τ s d k
    unfold fmC jbF isM
    rw [ih (by omega), fr_eq h (by omega)]
    by_cases e : bitI s (nI k)
    · rw [if_pos e]
      by_cases g : frM τ k d ≤ jbF τ s d k
      · rw [if_pos g, if_neg (fun z => z.2 g)]
      · rw [if_neg g, if_pos ⟨e, g⟩]
    · rw [if_neg e, if_pos h0, if_neg (fun z => e z.1)]
theorem ring1 (a b c : Int32) : a - b + c = a + c - b := by
  rw [Int32.sub_eq_add_neg, Int32.sub_eq_add_neg, Int32.add_assoc, Int32.add_comm (-b) c, Int32.add_assoc]
theorem js_eq (h : MR P M μ τ) (s d b b' : Int32) (hb : b = 0 ↔ b' = 0) : jsC μ s d b M = joM τ s d b' M := by
  unfold jsC joM
  rw [ha_eq h s d M (Nat.le_refl _), fm_eq h s d M (Nat.le_refl _)]
  by_cases e : b = 0
  · rw [if_pos e, if_pos (hb.mp e), ring1]
  · rw [if_neg e, if_neg (fun z => e (hb.mpr z))]
theorem ot_eq (h : MR P M μ τ) {p : Nat} (hp : p < P) : otC μ p = 0 ↔ τ 11 p = 0 := by
  unfold otC
  rw [b2i_eq, (h.2.2.2.2.2.2.1 p hp).2.1, Decidable.not_not]
theorem ot_eqb (h : MR P M μ τ) {p : Nat} (hp : p < P) : otC μ p = b2i (¬ τ 11 p = 0) := by
  unfold otC
  exact b2i_congr (h.2.2.2.2.2.2.1 p hp).2.1
theorem fe_eq (h : MR P M μ τ) {p : Nat} (hp : p < P) (s : Int32) : feC μ p s M = feM τ p s M := by
  unfold feC feM
  rw [h.2.2.2.2.1.1]
  exact js_eq h s _ _ _ (ot_eq h hp)
end
/-! own mornings: a small set -/
theorem ow_small (τ : Sm) (p : Int32) : ∀ k, k ≤ 6 → ∃ x, x < 2 ^ k ∧ owM τ p k = nI x := by
  intro k
  induction k with
  | zero => intro _; exact ⟨0, by decide, rfl⟩
  | succ k ih =>
    intro hk
    obtain ⟨x, hx, e⟩ := ih (by omega)
    unfold owM
    by_cases g : τ 13 k = p ∧ τ 16 k = 0
    · rw [if_pos g, e, one_nI (by omega), nI_or]
      exact ⟨_, Nat.or_lt_two_pow (Nat.lt_of_lt_of_le hx (Nat.pow_le_pow_right (by decide) (by omega))) (Nat.pow_lt_pow_right (by decide) (by omega)), rfl⟩
    · rw [if_neg g, or_0, e]
      exact ⟨x, Nat.lt_of_lt_of_le hx (Nat.pow_le_pow_right (by decide) (by omega)), rfl⟩
theorem ow_bit (τ : Sm) (p : Int32) : ∀ k, k ≤ 6 → ∀ m, m < 6 → (bitI (owM τ p k) (nI m) ↔ m < k ∧ τ 13 m = p ∧ τ 16 m = 0) := by
  intro k
  induction k with
  | zero => intro _ m hm; exact ⟨fun h => absurd h (bit_0 (by omega)), fun h => by omega⟩
  | succ k ih =>
    intro hk m hm
    unfold owM
    rw [bit_or (by omega), ih (by omega) m hm]
    by_cases h0 : τ 13 k = p ∧ τ 16 k = 0
    · rw [if_pos h0, bit_one (by omega) hm]
      constructor
      · rintro (h | h)
        · exact ⟨by omega, h.2⟩
        · subst h; exact ⟨by omega, h0⟩
      · rintro ⟨h1, h2⟩
        by_cases e : m = k
        · exact Or.inr e
        · exact Or.inl ⟨by omega, h2⟩
    · rw [if_neg h0]
      constructor
      · rintro (h | h)
        · exact ⟨by omega, h.2⟩
        · exact absurd h (bit_0 (by omega))
      · rintro ⟨h1, h2⟩
        have : ¬ m = k := fun e => h0 (by rw [← e]; exact h2)
        exact Or.inl ⟨by omega, h2⟩
/-! all of both -/
abbrev RR (M : Nat) (σ : St) (τ : Sm) (r : Nat) : Prop := σ 9 0 r = τ 34 r ∧ σ 9 1 r = τ 35 r ∧ σ 9 2 r = τ 36 r ∧ ∃ z, z < M ∧ τ 34 r = nI z
abbrev SR (σ : St) (τ : Sm) (j : Nat) : Prop := (∃ n, n ≤ 60 ∧ τ 3 j = nI n ∧ ((σ (1 + j) 1 0 = -1 ∧ τ 2 j = -9) ∨ (σ (1 + j) 1 0 = nI n ∧ σ (1 + j) 2 0 = τ 2 j ∧ laI (τ 2 j)))) ∧ ∀ i, i < 60 → σ (1 + j) 0 i = τ 4 (i6 j i)
def RelE (P M C : Nat) (σ : St) (τ : Sm) : Prop := MR P M (σ 5) τ ∧ (∀ p, p < P → σ 5 1 p = τ 10 p) ∧ (C ≤ 8 ∧ σ 9 3 0 = nI C ∧ τ 33 0 = nI C ∧ ∀ r, r < C → RR M σ τ r) ∧ (∀ j, j < 4 → SR σ τ j) ∧ σ 0 6 0 = τ 1 0 ∧ σ 0 7 0 = τ 0 0
def Rel (σ : St) (τ : Sm) : Prop := ∃ P M C : Nat, RelE P M C σ τ
