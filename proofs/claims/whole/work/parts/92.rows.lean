/-! what to keep: a row of days as a number, the last morning's day lowest -/
def encN (B : Nat) (own : Int32) (d : Nat → Nat) : Nat → Nat
  | 0 => 0
  | m + 1 => if bitI own (nI m) then encN B own d m * B + d m else encN B own d m
theorem rc_rw (N : Nat) (own : Int32) : ∀ k, rcN N own k = rwN (N + 1) own k := by
  intro k
  induction k with
  | zero => rfl
  | succ k ih =>
    unfold rcN rwN
    rw [ih]
    by_cases g : bitI own (nI k)
    · rw [if_pos g, if_pos g]
    · rw [if_neg g, if_neg g, Nat.mul_one]
theorem rw_pos {B : Nat} {own : Int32} (hB : 0 < B) : ∀ k, 0 < rwN B own k := by
  intro k
  induction k with
  | zero => exact Nat.one_pos
  | succ k ih =>
    unfold rwN
    split
    · exact Nat.mul_pos ih hB
    · exact ih
theorem succ_mul' {a b B : Nat} (h : a < b) : a * B + B ≤ b * B := by
  have := Nat.mul_le_mul_right B (show a + 1 ≤ b from h)
  rw [Nat.add_mul, Nat.one_mul] at this
  exact this
theorem lx_step {a b x y B : Nat} (hx : x < B) (hy : y < B) : (a * B + x < b * B + y ↔ a < b ∨ (a = b ∧ x < y)) ∧ (a * B + x = b * B + y ↔ a = b ∧ x = y) := by
  rcases Nat.lt_trichotomy a b with h | h | h
  · have := succ_mul' (B := B) h
    constructor <;> omega
  · subst h
    constructor <;> omega
  · have := succ_mul' (B := B) h
    constructor <;> omega
theorem dm_div {a x B : Nat} (hx : x < B) : (a * B + x) / B = a := by
  rw [Nat.mul_comm, Nat.mul_add_div (by omega), Nat.div_eq_of_lt hx, Nat.add_zero]
theorem dm_mod {a x B : Nat} (hx : x < B) : (a * B + x) % B = x := by
  rw [Nat.mul_comm, Nat.mul_add_mod, Nat.mod_eq_of_lt hx]
section
variable {B : Nat} {own : Int32} {d d' : Nat → Nat}
theorem enc_lt : ∀ k, (∀ m, d m < B) → encN B own d k < rwN B own k := by
  intro k hd
  induction k with
  | zero => exact Nat.one_pos
  | succ k ih =>
    unfold encN rwN
    by_cases g : bitI own (nI k)
    · rw [if_pos g, if_pos g]
      have h1 := succ_mul' (B := B) ih
      have h2 := hd k
      omega
    · rw [if_neg g, if_neg g]
      exact ih
theorem enc_c : ∀ k, (∀ m, m < k → bitI own (nI m) → d m = d' m) → encN B own d k = encN B own d' k := by
  intro k
  induction k with
  | zero => intro _; rfl
  | succ k ih =>
    intro h
    unfold encN
    rw [ih (fun m hm => h m (by omega))]
    by_cases g : bitI own (nI k)
    · rw [if_pos g, if_pos g, h k (by omega) g]
    · rw [if_neg g, if_neg g]
theorem enc_surj (hB : 0 < B) : ∀ k c, c < rwN B own k → ∃ d : Nat → Nat, (∀ m, d m < B) ∧ encN B own d k = c := by
  intro k
  induction k with
  | zero =>
    intro c hc
    have : c < 1 := hc
    exact ⟨fun _ => 0, fun _ => hB, by rw [show c = 0 by omega]; rfl⟩
  | succ k ih =>
    intro c hc
    unfold rwN at hc
    by_cases g : bitI own (nI k)
    · rw [if_pos g] at hc
      obtain ⟨d, hd, e⟩ := ih (c / B) ((Nat.div_lt_iff_lt_mul hB).mpr hc)
      refine ⟨fun m => if m = k then c % B else d m, fun m => ?_, ?_⟩
      · show (if m = k then c % B else d m) < B
        split
        · exact Nat.mod_lt _ hB
        · exact hd m
      · unfold encN
        rw [if_pos g, enc_c (d' := d) k (fun m hm _ => if_neg (by omega)), e]
        show c / B * B + (if k = k then c % B else d k) = c
        rw [if_pos rfl]
        exact Nat.div_add_mod' c B
    · rw [if_neg g] at hc
      obtain ⟨d, hd, e⟩ := ih c hc
      refine ⟨d, hd, ?_⟩
      unfold encN
      rw [if_neg g, e]
theorem enc_inj (hd : ∀ m, d m < B) (hd' : ∀ m, d' m < B) : ∀ k, encN B own d k = encN B own d' k → ∀ m, m < k → bitI own (nI m) → d m = d' m := by
  intro k
  induction k with
  | zero => intro _ m hm; omega
  | succ k ih =>
    intro h m hm hb
    unfold encN at h
    by_cases g : bitI own (nI k)
    · rw [if_pos g, if_pos g] at h
      obtain ⟨h1, h2⟩ := (lx_step (hd k) (hd' k)).2.mp h
      by_cases e : m = k
      · subst e; exact h2
      · exact ih h1 m (by omega) hb
    · rw [if_neg g, if_neg g] at h
      by_cases e : m = k
      · subst e; exact absurd hb g
      · exact ih h m (by omega) hb
theorem enc_tr {B' : Nat} (hd : ∀ m, d m < B ∧ d m < B') (hd' : ∀ m, d' m < B ∧ d' m < B') : ∀ k, (encN B own d k < encN B own d' k ↔ encN B' own d k < encN B' own d' k) ∧ (encN B own d k = encN B own d' k ↔ encN B' own d k = encN B' own d' k) := by
  intro k
  induction k with
  | zero => exact ⟨Iff.rfl, Iff.rfl⟩
  | succ k ih =>
    unfold encN
    by_cases g : bitI own (nI k)
    · simp only [if_pos g]
      rw [(lx_step (hd k).1 (hd' k).1).1, (lx_step (hd k).1 (hd' k).1).2, (lx_step (hd k).2 (hd' k).2).1, (lx_step (hd k).2 (hd' k).2).2, ih.1, ih.2]
      exact ⟨Iff.rfl, Iff.rfl⟩
    · simp only [if_neg g]
      exact ih
theorem enc_le : ∀ k, (∀ m, m < k → d' m ≤ d m) → encN B own d' k ≤ encN B own d k := by
  intro k
  induction k with
  | zero => intro _; exact Nat.le_refl _
  | succ k ih =>
    intro h
    have i := ih (fun m hm => h m (by omega))
    unfold encN
    by_cases g : bitI own (nI k)
    · rw [if_pos g, if_pos g]
      have h1 := Nat.mul_le_mul_right B i
      have h2 := h k (by omega)
      omega
    · rw [if_neg g, if_neg g]; exact i
theorem enc_up (hB : 0 < B) {i : Nat} (hb : bitI own (nI i)) (hlt : d' i < d i) : ∀ k, i < k → (∀ m, m < k → d' m ≤ d m) → encN B own d' k < encN B own d k := by
  intro k
  induction k with
  | zero => intro h; omega
  | succ k ih =>
    intro hi h
    unfold encN
    by_cases e : i = k
    · subst e
      rw [if_pos hb, if_pos hb]
      have h1 := Nat.mul_le_mul_right B (enc_le (B := B) (own := own) i (fun m hm => h m (by omega)))
      omega
    · have i1 := ih (by omega) (fun m hm => h m (by omega))
      by_cases g : bitI own (nI k)
      · rw [if_pos g, if_pos g]
        have h1 := succ_mul' (B := B) i1
        have h2 := h k (by omega)
        omega
      · rw [if_neg g, if_neg g]; exact i1
theorem enc_top {M : Nat} (hob : ∀ m, m < 6 → bitI own (nI m) → m < M) : ∀ k, M ≤ k → k ≤ 6 → encN B own d k = encN B own d M := by
  intro k
  induction k with
  | zero => intro h _; rw [show M = 0 by omega]
  | succ k ih =>
    intro h1 h2
    by_cases e : M = k + 1
    · rw [e]
    · rw [show encN B own d (k + 1) = (if bitI own (nI k) then encN B own d k * B + d k else encN B own d k) from rfl, if_neg (fun z => by have := hob k (by omega) z; omega)]
      exact ih (by omega) (by omega)
theorem rw_top {M : Nat} (hob : ∀ m, m < 6 → bitI own (nI m) → m < M) : ∀ k, M ≤ k → k ≤ 6 → rwN B own k = rwN B own M := by
  intro k
  induction k with
  | zero => intro h _; rw [show M = 0 by omega]
  | succ k ih =>
    intro h1 h2
    by_cases e : M = k + 1
    · rw [e]
    · rw [show rwN B own (k + 1) = (if bitI own (nI k) then rwN B own k * B else rwN B own k) from rfl, if_neg (fun z => by have := hob k (by omega) z; omega)]
      exact ih (by omega) (by omega)
end
/-- the first best of all rows has no morning that is not opened at all -/
theorem first_eq {own : Int32} {M N : Nat} (hN : 1 ≤ N) (v : (Nat → Nat) → Nat) (hvc : ∀ d d' : Nat → Nat, (∀ m, m < M → bitI own (nI m) → d m = d' m) → v d = v d') (hmono : ∀ (d : Nat → Nat) (i : Nat), i < M → bitI own (nI i) → d i = N → v d ≤ v (fun m => if m = i then 0 else d m)) {dc dr : Nat → Nat} (hdc : ∀ m, dc m < N + 1) (hdr : ∀ m, dr m < N) (cmax : ∀ d : Nat → Nat, (∀ m, d m < N + 1) → v d ≤ v dc) (cfirst : ∀ d : Nat → Nat, (∀ m, d m < N + 1) → encN (N + 1) own d M < encN (N + 1) own dc M → v d < v dc) (rmax : ∀ d : Nat → Nat, (∀ m, d m < N) → v d ≤ v dr) (rfirst : ∀ d : Nat → Nat, (∀ m, d m < N) → encN N own d M < encN N own dr M → v d < v dr) : v dc = v dr ∧ ∀ m, m < M → bitI own (nI m) → dc m = dr m := by
  have h1 : ∀ m, m < M → bitI own (nI m) → dc m < N := by
    intro i hi hb
    refine Decidable.byContradiction (fun hn => ?_)
    have e : dc i = N := by have := hdc i; omega
    have a := hmono dc i hi hb e
    have b := cfirst (fun m => if m = i then 0 else dc m) (fun m => by
      show (if m = i then 0 else dc m) < N + 1
      split
      · omega
      · exact hdc m) (enc_up (by omega) hb (by
        show (if i = i then 0 else dc i) < dc i
        rw [if_pos rfl]; omega) M hi (fun m _ => by
        show (if m = i then 0 else dc m) ≤ dc m
        split <;> omega))
    omega
  have hde : ∀ m, (if m < M ∧ bitI own (nI m) then dc m else 0) < N := by
    intro m
    split
    · rename_i g; exact h1 m g.1 g.2
    · omega
  have hee : ∀ m, m < M → bitI own (nI m) → (if m < M ∧ bitI own (nI m) then dc m else 0) = dc m := fun m hm hb => if_pos ⟨hm, hb⟩
  have ve : v (fun m => if m < M ∧ bitI own (nI m) then dc m else 0) = v dc := hvc _ _ hee
  have ee : encN (N + 1) own (fun m => if m < M ∧ bitI own (nI m) then dc m else 0) M = encN (N + 1) own dc M := enc_c M hee
  have eq : encN N own (fun m => if m < M ∧ bitI own (nI m) then dc m else 0) M = encN N own dr M := by
    rcases Nat.lt_trichotomy (encN N own (fun m => if m < M ∧ bitI own (nI m) then dc m else 0) M) (encN N own dr M) with h | h | h
    · have a := rfirst _ hde h
      have b := cmax dr (fun m => by have := hdr m; omega)
      omega
    · exact h
    · have a := (enc_tr (B := N) (B' := N + 1) (own := own) (fun m => ⟨hdr m, by have := hdr m; omega⟩) (fun m => ⟨hde m, by have := hde m; omega⟩) M).1.mp h
      rw [ee] at a
      have b := cfirst dr (fun m => by have := hdr m; omega) a
      have c := rmax _ hde
      omega
  have dd : ∀ m, m < M → bitI own (nI m) → dc m = dr m := fun m hm hb => (hee m hm hb).symm.trans (enc_inj hde hdr M eq m hm hb)
  exact ⟨hvc _ _ dd, dd⟩
