/-! sets to buy, to sell; odds: joy in plain numbers -/
def fN (τ : Sm) (d k : Nat) : Nat := (frM τ k (nI d)).toNatClampNeg
def hsN (g : Nat → Nat) : Nat → Nat
  | 0 => 0
  | k + 1 => hsN g k + g k / 2
def mxN (g : Nat → Nat) : Nat → Nat
  | 0 => 0
  | k + 1 => if g k ≤ mxN g k then mxN g k else g k
def joN (g : Nat → Nat) (b : Int32) (M : Nat) : Nat := if b = 0 then hsN g M + (mxN g M - mxN g M / 2) else hsN g M
def gN (τ : Sm) (d : Nat) (s : Int32) (k : Nat) : Nat := if bitI s (nI k) then fN τ d k else 0
theorem kd1 {k : Nat} (h : k ≤ 2) : (nI k = 1 ↔ k = 1) ∧ (nI k = 2 ↔ k = 2) := by
  rw [show (1 : Int32) = nI 1 by decide, show (2 : Int32) = nI 2 by decide, nI_eq (by omega) (by decide), nI_eq (by omega) (by decide)]
  exact ⟨Iff.rfl, Iff.rfl⟩
theorem fresh_N {k t w d : Nat} (hk : k ≤ 2) (ht : t ≤ 9) (hw : w ≤ 9) (hd : d < 2 ^ 20) : ∃ f, f ≤ 9 ∧ freshI (nI k) (nI t) (nI w) (nI d) = nI f := by
  obtain ⟨k1, k2⟩ := kd1 hk
  unfold freshI
  by_cases h : t ≤ d
  · have e3 : (if nI k = 1 then nI (d - t) / 3 else nI (d - t)) = nI (if k = 1 then (d - t) / 3 else d - t) := by
      by_cases e : k = 1
      · rw [if_pos e, if_pos (k1.mpr e), show (3 : Int32) = nI 3 by decide, pk_div (by omega) (by decide) (by decide)]
      · rw [if_neg e, if_neg (fun z => e (k1.mp z))]
    have hs : (if k = 1 then (d - t) / 3 else d - t) < 2 ^ 20 := by
      split
      · omega
      · omega
    rw [if_pos ((nI_leI (by omega) (by omega)).mpr h), pk_sub h, e3]
    generalize (if k = 1 then (d - t) / 3 else d - t) = s at hs
    by_cases g : s ≤ w
    · rw [pk_sub g, if_pos (nI_pos' (by omega))]
      by_cases e : nI k = 2
      · rw [if_pos e, show (2 : Int32) = nI 2 by decide, pk_div (by omega) (by decide) (by decide)]
        exact ⟨(w - s) / 2, by omega, rfl⟩
      · rw [if_neg e]
        exact ⟨w - s, by omega, rfl⟩
    · rw [if_neg (Int32.not_le.mpr (pk_sneg (by omega) (by omega)))]
      exact ⟨0, by decide, rfl⟩
  · rw [if_neg (fun z => h ((nI_leI (by omega) (by omega)).mp z))]
    exact ⟨0, by decide, rfl⟩
section
variable {P M : Nat} {μ τ : Sm}
theorem fr_f (h : MR P M μ τ) {m d : Nat} (hm : m < M) (hd : d < 2 ^ 20) : frM τ m (nI d) = nI (fN τ d m) ∧ fN τ d m ≤ 9 := by
  obtain ⟨-, -, -, -, -, ⟨k, hk, ek⟩, ⟨t, ht, et⟩, ⟨w, hw, ew⟩⟩ := h.2.2.2.2.2.2.2.1 m hm
  obtain ⟨f, hf, ef⟩ := fresh_N hk ht hw hd
  have e : frM τ m (nI d) = nI f := by
    unfold frM
    rw [ek, et, ew, ef]
  have e2 : fN τ d m = f := by
    unfold fN
    rw [e, nI_clamp (by omega)]
  rw [e2]
  exact ⟨e, hf⟩
theorem is_g (h : MR P M μ τ) {m d : Nat} (hm : m < M) (hd : d < 2 ^ 20) (s : Int32) : isM τ s m (nI d) = nI (gN τ d s m) ∧ gN τ d s m ≤ 9 := by
  obtain ⟨h1, h2⟩ := fr_f h hm hd
  unfold isM gN
  by_cases e : bitI s (nI m)
  · rw [if_pos e, if_pos e]; exact ⟨h1, h2⟩
  · rw [if_neg e, if_neg e]; exact ⟨rfl, by decide⟩
theorem jb_g (h : MR P M μ τ) {d : Nat} (hd : d < 2 ^ 20) (s : Int32) : ∀ k, k ≤ M → (jbS τ s (nI d) k = nI (hsN (gN τ d s) k) ∧ hsN (gN τ d s) k ≤ 4 * k) ∧ (jbF τ s (nI d) k = nI (mxN (gN τ d s) k) ∧ mxN (gN τ d s) k ≤ 9) := by
  intro k
  induction k with
  | zero => intro _; exact ⟨⟨rfl, Nat.zero_le _⟩, ⟨rfl, Nat.zero_le _⟩⟩
  | succ k ih =>
    intro hk
    obtain ⟨⟨a1, a2⟩, ⟨b1, b2⟩⟩ := ih (by omega)
    obtain ⟨c1, c2⟩ := is_g h (show k < M by omega) hd s
    unfold jbS jbF hsN mxN
    rw [a1, b1, c1]
    refine ⟨⟨?_, by omega⟩, ?_⟩
    · rw [show (2 : Int32) = nI 2 by decide, pk_div (by omega) (by decide) (by decide), nI_add]
    · by_cases e : gN τ d s k ≤ mxN (gN τ d s) k
      · rw [if_pos e, if_pos ((nI_leI (by omega) (by omega)).mpr e)]
        exact ⟨rfl, b2⟩
      · rw [if_neg e, if_neg (fun z => e ((nI_leI (by omega) (by omega)).mp z))]
        exact ⟨rfl, c2⟩
theorem jo_g (h : MR P M μ τ) {d : Nat} (hd : d < 2 ^ 20) (s b : Int32) : joM τ s (nI d) b M = nI (joN (gN τ d s) b M) ∧ joN (gN τ d s) b M ≤ 40 := by
  obtain ⟨⟨a1, a2⟩, ⟨b1, b2⟩⟩ := jb_g h hd s M (Nat.le_refl _)
  have h6 := h.1.2
  unfold joM joN
  rw [a1, b1]
  by_cases e : b = 0
  · rw [if_pos e, if_pos e]
    refine ⟨?_, by omega⟩
    rw [show (2 : Int32) = nI 2 by decide, pk_div (by omega) (by decide) (by decide), nI_add, pk_sub (by omega)]
    congr 1
    omega
  · rw [if_neg e, if_neg e]
    exact ⟨rfl, by omega⟩
theorem fe_pos (h : MR P M μ τ) (p : Nat) (s : Int32) : 0 ≤ feM τ p s M := by
  obtain ⟨d, hd, ed⟩ := h.2.2.2.2.1.2
  unfold feM
  rw [ed]
  obtain ⟨e, he⟩ := jo_g h (d := d) (by omega) s (τ 11 p)
  rw [e]
  exact nI_pos' (by omega)
/-- a part of a small set is no greater -/
theorem sub_le {k x : Nat} (hk : k < 64) (hx : x < 64) (h : nI k &&& (nI x ^^^ (-1)) = 0) : k ≤ x := by
  have h1 := (sub_iff hk (nI x)).mp h
  have e : k &&& x = k := by
    apply Nat.eq_of_testBit_eq
    intro i
    rw [Nat.testBit_and]
    by_cases hi : i < 6
    · have := h1 i hi
      rw [bit_nI (by omega) (by omega), bit_nI (by omega) (by omega)] at this
      cases hb : k.testBit i
      · rfl
      · rw [this hb]; rfl
    · rw [Nat.testBit_lt_two_pow (Nat.lt_of_lt_of_le hk (show 64 ≤ 2 ^ i from Nat.le_trans (by decide) (Nat.pow_le_pow_right (by decide) (show 6 ≤ i by omega))))]
      rfl
  rw [← e]
  exact Nat.and_le_right
theorem stop_of {α : Type} {f : Nat → α} {a : Nat} (h : ∀ k, a ≤ k → k < 64 → f (k + 1) = f k) : ∀ k, a ≤ k → k ≤ 64 → f k = f a := by
  intro k
  induction k with
  | zero => intro h1 _; rw [show a = 0 by omega]
  | succ k ih =>
    intro h1 h2
    by_cases e : a = k + 1
    · rw [e]
    · rw [h k (by omega) (by omega), ih (by omega) (by omega)]
theorem mask_bit {M k : Nat} (h6 : M ≤ 6) (hk : k < 32) : bitI (nI (2 ^ M) - 1) (nI k) ↔ k < M := by
  have : ∀ i : Fin 7, ∀ j : Fin 32, bitI (nI (2 ^ i.val) - 1) (nI j.val) ↔ j.val < i.val := by decide +kernel
  exact this ⟨M, by omega⟩ ⟨k, hk⟩
theorem otM_bit (h6 : M ≤ 6) (p : Int32) : ∀ Q k, k < 32 → (bitI (otM τ M p Q) (nI k) ↔ k < 6 ∧ ∃ q, q < Q ∧ ¬ nI q = p ∧ k < M ∧ τ 13 k = nI q ∧ τ 16 k = 0) := by
  intro Q
  induction Q with
  | zero => intro k hk; exact ⟨fun z => absurd z (bit_0 hk), fun ⟨_, q, hq, _⟩ => by omega⟩
  | succ Q ih =>
    intro k hk
    unfold otM
    rw [bit_or hk, ih k hk]
    have hb : bitI (if nI Q = p then 0 else owM τ (nI Q) M) (nI k) ↔ k < 6 ∧ ¬ nI Q = p ∧ k < M ∧ τ 13 k = nI Q ∧ τ 16 k = 0 := by
      by_cases e : nI Q = p
      · rw [if_pos e]
        exact ⟨fun z => absurd z (bit_0 hk), fun z => absurd e z.2.1⟩
      · rw [if_neg e]
        by_cases h6k : k < 6
        · rw [ow_bit τ (nI Q) M h6 k h6k]
          exact ⟨fun z => ⟨h6k, e, z⟩, fun z => z.2.2⟩
        · obtain ⟨x, hx, ex⟩ := ow_small τ (nI Q) M h6
          rw [ex]
          exact ⟨fun z => absurd z (bit_hi (Nat.lt_of_lt_of_le hx (p64 h6)) (by omega) hk), fun z => absurd z.1 h6k⟩
    rw [hb]
    constructor
    · rintro (⟨a, q, hq, b⟩ | ⟨a, b⟩)
      · exact ⟨a, q, by omega, b⟩
      · exact ⟨a, Q, by omega, b⟩
    · rintro ⟨a, q, hq, b⟩
      by_cases e : q = Q
      · subst e; exact Or.inr ⟨a, b⟩
      · exact Or.inl ⟨a, q, by omega, b⟩
theorem otM_small (h6 : M ≤ 6) (p : Int32) : ∀ Q, ∃ x, x < 2 ^ M ∧ otM τ M p Q = nI x := by
  intro Q
  induction Q with
  | zero => exact ⟨0, Nat.two_pow_pos M, rfl⟩
  | succ Q ih =>
    obtain ⟨x, hx, e⟩ := ih
    unfold otM
    by_cases g : nI Q = p
    · rw [if_pos g, or_0]
      exact ⟨x, hx, e⟩
    · obtain ⟨y, hy, ey⟩ := ow_small τ (nI Q) M h6
      rw [if_neg g, e, ey, nI_or]
      exact ⟨_, Nat.or_lt_two_pow hx hy, rfl⟩
theorem ots_eq (h : MR P M μ τ) {p : Nat} : otsC μ (clC μ (nI p) M) = otM τ M (nI p) P := by
  have h6 := h.1.2
  apply ext_bits
  intro k hk
  rw [otM_bit h6 _ P k hk]
  unfold otsC
  rw [bit_and hk, bit_and hk, bit_not hk, bit_not hk, h.2.2.1.1, sh1 M h6, mask_bit h6 hk, cl_eq h _ M (Nat.le_refl _)]
  constructor
  · rintro ⟨⟨h1, h2⟩, h3⟩
    have h6k : k < 6 := by omega
    have h0 := (mr_nbit h h1).mp h2
    obtain ⟨q, hq, eq⟩ := (h.2.2.2.2.2.2.2.1 k h1).2.2.2.2.1
    exact ⟨h6k, q, hq, fun z => h3 ((ow_bit τ (nI p) M h6 k h6k).mpr ⟨h1, eq.trans z, h0⟩), h1, eq, h0⟩
  · rintro ⟨h6k, q, hq, hne, h1, eq, h0⟩
    exact ⟨⟨h1, (mr_nbit h h1).mpr h0⟩, fun z => hne (eq.symm.trans ((ow_bit τ (nI p) M h6 k h6k).mp z).2.1)⟩
/-! to buy -/
abbrev buP (τ : Sm) (M p : Nat) (v ot b : Int32) (k : Nat) : Prop := nI k &&& (ot ^^^ (-1)) = 0 ∧ ¬ τ 9 p < psM τ (nI k) M ∧ ¬ feM τ p (owM τ (nI p) M ||| nI k) M < v ∧ (b = -9 ∨ chM τ M (nI k) b)
theorem buy_c (h : MR P M μ τ) {p : Nat} (hp : p < P) {v ot : Int32} {k : Nat} (hk : k < 64) {t : T3} {b : Int32} (i1 : t.1 = b) (i2 : b = -9 ∨ ∃ x, x < 64 ∧ b = nI x ∧ t.2.1 = psM τ (nI x) M ∧ t.2.2 = szM (nI x)) : (nI k &&& (ot ^^^ (-1)) = 0 ∧ ¬ μ 0 p < psC μ (nI k) M ∧ v ≤ feC μ p (owM τ (nI p) M ||| nI k) M ∧ (t.1 = -9 ∨ psC μ (nI k) M < t.2.1 ∨ (psC μ (nI k) M = t.2.1 ∧ ¬ t.2.2 ≤ bcI (nI k)))) ↔ buP τ M p v ot b k := by
  have e0 : v ≤ feM τ p (owM τ (nI p) M ||| nI k) M ↔ ¬ feM τ p (owM τ (nI p) M ||| nI k) M < v := Int32.not_lt.symm
  rw [(h.2.2.2.2.2.2.1 p hp).1, ps_eq h (nI k) M (Nat.le_refl _), fe_eq h hp, bc_sz k hk, i1, e0]
  rcases i2 with e | ⟨x, hx, e, e1, e2⟩
  · constructor
    · rintro ⟨a1, a2, a3, -⟩; exact ⟨a1, a2, a3, Or.inl e⟩
    · rintro ⟨a1, a2, a3, -⟩; exact ⟨a1, a2, a3, Or.inl e⟩
  · rw [e1, e2]
    subst e
    exact Iff.rfl
theorem buy_eq (h : MR P M μ τ) {p : Nat} (hp : p < P) (v ot : Int32) : ∀ k, k ≤ 64 → (sbC μ M p v (owM τ (nI p) M) ot k).1 = bbM τ M p v ot k ∧ (bbM τ M p v ot k = -9 ∨ ∃ x, x < 64 ∧ bbM τ M p v ot k = nI x ∧ (sbC μ M p v (owM τ (nI p) M) ot k).2.1 = psM τ (nI x) M ∧ (sbC μ M p v (owM τ (nI p) M) ot k).2.2 = szM (nI x)) := by
  intro k
  induction k with
  | zero => intro _; exact ⟨rfl, Or.inl rfl⟩
  | succ k ih =>
    intro hk
    obtain ⟨i1, i2⟩ := ih (by omega)
    have hc := buy_c h hp (v := v) (ot := ot) (k := k) (by omega) i1 i2
    rw [show sbC μ M p v (owM τ (nI p) M) ot (k + 1) = sbS μ M p v (owM τ (nI p) M) ot (nI k) (sbC μ M p v (owM τ (nI p) M) ot k) from rfl]
    unfold sbS bbM
    by_cases c : buP τ M p v ot (bbM τ M p v ot k) k
    · rw [if_pos (hc.mpr c), if_pos c]
      exact ⟨rfl, Or.inr ⟨k, by omega, rfl, ps_eq h _ M (Nat.le_refl _), bc_sz k (by omega)⟩⟩
    · rw [if_neg (fun z => c (hc.mp z)), if_neg c]
      exact ⟨i1, i2⟩
theorem sb_stop {p : Nat} {v th : Int32} {x : Nat} (h6 : M ≤ 6) (hx : x < 2 ^ M) : sbC μ M p v th (nI x) 64 = sbC μ M p v th (nI x) (2 ^ M) := by
  have hp := p64 h6
  refine stop_of (f := fun k => sbC μ M p v th (nI x) k) (fun k h1 h2 => ?_) 64 hp (Nat.le_refl _)
  show sbS μ M p v th (nI x) (nI k) _ = _
  unfold sbS
  exact if_neg (fun z => by have := sub_le h2 (by omega) z.1; omega)
/-! to sell -/
abbrev dbP (τ : Sm) (M p : Nat) (v own b m : Int32) (k : Nat) : Prop := nI k &&& (own ^^^ (-1)) = 0 ∧ ¬ psM τ (nI k) M < v ∧ (m < feM τ p (own &&& (nI k ^^^ (-1))) M ∨ (feM τ p (own &&& (nI k ^^^ (-1))) M = m ∧ ¬ szM b ≤ szM (nI k)))
abbrev dbI (τ : Sm) (M p : Nat) (own : Int32) (t : T3) (b m : Int32) : Prop := t.1 = b ∧ ((b = -9 ∧ m = -9) ∨ ∃ x, x < 64 ∧ b = nI x ∧ t.2.1 = m ∧ t.2.2 = szM (nI x) ∧ m = feM τ p (own &&& (nI x ^^^ (-1))) M)
theorem debt_c (h : MR P M μ τ) {p : Nat} (hp : p < P) {v own : Int32} {k : Nat} (hk : k < 64) {t : T3} {b m : Int32} (i : dbI τ M p own t b m) : (nI k &&& (own ^^^ (-1)) = 0 ∧ v ≤ psC μ (nI k) M ∧ (t.1 = -9 ∨ t.2.1 < feC μ p (own &&& (nI k ^^^ (-1))) M ∨ (feC μ p (own &&& (nI k ^^^ (-1))) M = t.2.1 ∧ ¬ t.2.2 ≤ bcI (nI k)))) ↔ dbP τ M p v own b m k := by
  obtain ⟨i1, i2⟩ := i
  have e0 : v ≤ psM τ (nI k) M ↔ ¬ psM τ (nI k) M < v := Int32.not_lt.symm
  rw [ps_eq h (nI k) M (Nat.le_refl _), fe_eq h hp, bc_sz k hk, i1, e0]
  rcases i2 with ⟨e, e'⟩ | ⟨x, hx, e, e1, e2, e3⟩
  · constructor
    · rintro ⟨a1, a2, -⟩
      refine ⟨a1, a2, Or.inl ?_⟩
      rw [e']
      exact Int32.lt_of_lt_of_le (by decide) (fe_pos h p _)
    · rintro ⟨a1, a2, -⟩; exact ⟨a1, a2, Or.inl e⟩
  · rw [e1, e2]
    subst e
    constructor
    · rintro ⟨a1, a2, a3 | a3⟩
      · exact absurd a3 (nI_ne9 (by omega))
      · exact ⟨a1, a2, a3⟩
    · rintro ⟨a1, a2, a3⟩; exact ⟨a1, a2, Or.inr a3⟩
theorem debt_eq (h : MR P M μ τ) {p : Nat} (hp : p < P) (v own : Int32) : ∀ k, k ≤ 64 → dbI τ M p own (sdC μ M p v own k) (dbM τ M p v own k).1 (dbM τ M p v own k).2 := by
  intro k
  induction k with
  | zero => intro _; exact ⟨rfl, Or.inl ⟨rfl, rfl⟩⟩
  | succ k ih =>
    intro hk
    have i := ih (by omega)
    have hc := debt_c h hp (v := v) (k := k) (by omega) i
    rw [show sdC μ M p v own (k + 1) = sdS μ M p v own (nI k) (sdC μ M p v own k) from rfl]
    unfold sdS dbM
    by_cases c : dbP τ M p v own (dbM τ M p v own k).1 (dbM τ M p v own k).2 k
    · rw [if_pos (hc.mpr c), if_pos c]
      exact ⟨rfl, Or.inr ⟨k, by omega, rfl, fe_eq h hp _, bc_sz k (by omega), rfl⟩⟩
    · rw [if_neg (fun z => c (hc.mp z)), if_neg c]
      exact i
theorem sd_stop {p : Nat} {v : Int32} {x : Nat} (h6 : M ≤ 6) (hx : x < 2 ^ M) : sdC μ M p v (nI x) 64 = sdC μ M p v (nI x) (2 ^ M) := by
  have hp := p64 h6
  refine stop_of (f := fun k => sdC μ M p v (nI x) k) (fun k h1 h2 => ?_) 64 hp (Nat.le_refl _)
  show sdS μ M p v (nI x) (nI k) _ = _
  unfold sdS
  exact if_neg (fun z => by have := sub_le h2 (by omega) z.1; omega)
/-! odds -/
theorem od_L {x : Nat} (h6 : M ≤ 6) (hx : x < 2 ^ M) : odL (nI x) 64 = odL (nI x) (2 ^ M) := by
  have hp := p64 h6
  refine stop_of (f := fun k => odL (nI x) k) (fun k h1 h2 => ?_) 64 hp (Nat.le_refl _)
  show (if nI k &&& (nI x ^^^ (-1)) = 0 then odL (nI x) k + 1 else odL (nI x) k) = _
  exact if_neg (fun z => by have := sub_le h2 (by omega) z; omega)
theorem od_U {p : Nat} {v : Int32} {x : Nat} (h6 : M ≤ 6) (hx : x < 2 ^ M) : odU μ M p v (nI x) 64 = odU μ M p v (nI x) (2 ^ M) := by
  have hp := p64 h6
  refine stop_of (f := fun k => odU μ M p v (nI x) k) (fun k h1 h2 => ?_) 64 hp (Nat.le_refl _)
  show (if nI k &&& (nI x ^^^ (-1)) = 0 ∧ ¬ feC μ p (nI k) M < v then odU μ M p v (nI x) k + 1 else odU μ M p v (nI x) k) = _
  exact if_neg (fun z => by have := sub_le h2 (by omega) z.1; omega)
theorem od_eq (h : MR P M μ τ) {p : Nat} (hp : p < P) (v th : Int32) : ∀ k, odU μ M p v th k = omM τ M p v th k := by
  intro k
  induction k with
  | zero => rfl
  | succ k ih =>
    unfold odU omM
    rw [ih, fe_eq h hp]
theorem om_le {p : Nat} {v th : Int32} : ∀ k, omM τ M p v th k ≤ odL th k := by
  intro k
  induction k with
  | zero => exact Nat.le_refl _
  | succ k ih =>
    unfold omM odL
    by_cases e : nI k &&& (th ^^^ (-1)) = 0
    · rw [if_pos e]
      split <;> omega
    · rw [if_neg e, if_neg (fun z => e z.1)]
      exact ih
theorem od_pow : ∀ x, x < 64 → ∃ j, j ≤ 6 ∧ odL (nI x) 64 = 2 ^ j := by
  have : ∀ x : Fin 64, ∃ j : Fin 7, odL (nI x.val) 64 = 2 ^ j.val := by decide +kernel
  intro x hx
  obtain ⟨j, e⟩ := this ⟨x, hx⟩
  exact ⟨j.val, by omega, e⟩
theorem rd_gcd : ∀ j, j ≤ 6 → ∀ u, u ≤ 2 ^ j → (nI (rdN 6 u (2 ^ j)).1).toInt64 = lN (u / Nat.gcd u (2 ^ j)) ∧ (nI (rdN 6 u (2 ^ j)).2).toInt64 = lN (2 ^ j / Nat.gcd u (2 ^ j)) := by
  have : ∀ j : Fin 7, ∀ u : Fin 65, u.val ≤ 2 ^ j.val → (nI (rdN 6 u.val (2 ^ j.val)).1).toInt64 = lN (u.val / Nat.gcd u.val (2 ^ j.val)) ∧ (nI (rdN 6 u.val (2 ^ j.val)).2).toInt64 = lN (2 ^ j.val / Nat.gcd u.val (2 ^ j.val)) := by decide +kernel
  intro j hj u hu
  have hq := p64 hj
  exact this ⟨j, by omega⟩ ⟨u, by omega⟩ hu
end
theorem w01 {w : Int32} (h : wiI w 0 1) : w = 0 ∨ w = 1 := by
  obtain ⟨e, he, rfl⟩ := wi_n (B := 1) rfl (by decide) h
  rcases (show e = 0 ∨ e = 1 by omega) with rfl | rfl
  · exact Or.inl rfl
  · exact Or.inr rfl
theorem pr_buy (p v w : Int32) : Pair Rel yX5_buy cX5_buy 5 yX6_buy cX6_buy 8 [.int p, .int v, .int w] := pair_of fun D tc A B σ τ hR => by
  obtain ⟨P, M, C, h⟩ := hR
  have hMR := h.1
  obtain ⟨⟨h4, h6⟩, ⟨hP1, hP2⟩, ⟨hM1, hM2⟩, ⟨hr1, hr2⟩, ⟨hd1, hd2⟩, hop, hPR, hMO, hz, hy⟩ := id hMR
  refine ⟨5, 4, _, _, σ, τ, ⟨by decide, by decide⟩, ok_buy hP1 h4 hM1 h6 p v w, mk_buy hP2 h4 hM2 h6 p v w, ?_, ⟨P, M, C, h⟩⟩
  unfold R_buy Rm_buy
  rw [hP1, hP2, rng2]
  by_cases hp : isP (nI P) p
  · obtain ⟨k, hk, rfl⟩ := isP_of rfl (by omega) hp
    have hck : (nI k).toNatClampNeg = k := nI_clamp (by omega)
    obtain ⟨x, hx, ex⟩ := otM_small (τ := τ) h6 (nI k) P
    have hbe := (buy_eq hMR hk v (nI x) (2 ^ M) (p64 h6)).1
    rw [if_pos hp, if_pos hp, hck]
    unfold buM
    rw [hck, ots_eq hMR, cl_eq hMR _ M (Nat.le_refl _), ex, sb_stop h6 hx, hbe, ps_eq hMR _ M (Nat.le_refl _)]
    by_cases hv : wiI v 0 99 ∧ wiI w 0 1
    · rw [if_pos hv, if_pos hv]
      exact if_c or_comm rfl rfl
    · rw [if_neg hv, if_neg hv]
  · rw [if_neg hp, if_neg hp]
theorem pr_debt (p v w : Int32) : Pair Rel yX5_debt cX5_debt 5 yX6_debt cX6_debt 10 [.int p, .int v, .int w] := pair_of fun D tc A B σ τ hR => by
  obtain ⟨P, M, C, h⟩ := hR
  have hMR := h.1
  obtain ⟨⟨h4, h6⟩, ⟨hP1, hP2⟩, ⟨hM1, hM2⟩, ⟨hr1, hr2⟩, ⟨hd1, hd2⟩, hop, hPR, hMO, hz, hy⟩ := id hMR
  refine ⟨5, 4, _, _, σ, τ, ⟨by decide, by decide⟩, ok_debt hP1 h4 hM1 h6 p v w, mk_debt hP2 h4 hM2 h6 p v w, ?_, ⟨P, M, C, h⟩⟩
  unfold R_debt Rm_debt
  rw [hP1, hP2, rng2]
  by_cases hp : isP (nI P) p
  · obtain ⟨k, hk, rfl⟩ := isP_of rfl (by omega) hp
    have hck : (nI k).toNatClampNeg = k := nI_clamp (by omega)
    obtain ⟨x, hx, ex⟩ := ow_small τ (nI k) M h6
    obtain ⟨d1, d2⟩ := debt_eq hMR hk v (nI x) (2 ^ M) (p64 h6)
    rw [if_pos hp, if_pos hp, hck, cl_eq hMR _ M (Nat.le_refl _), ex, sd_stop h6 hx, d1, fe_eq hMR hk]
    by_cases hv : wiI v 0 999 ∧ wiI w 0 1
    · rw [if_pos hv, if_pos hv]
      rcases d2 with ⟨e1, e2⟩ | ⟨y, hy, e1, -, -, e4⟩
      · rw [e1, e2, if_pos (Or.inl rfl)]
        split <;> rfl
      · rcases w01 hv.2 with rfl | rfl
        · have hn : ¬ ((dbM τ M k v (nI x) (2 ^ M)).1 = -9 ∨ (0 : Int32) = 1) := by
            rintro (z | z)
            · rw [e1] at z; exact nI_ne9 (by omega) z
            · exact absurd z (by decide)
          rw [if_neg hn, if_pos rfl, e4, e1]
        · rw [if_pos (Or.inr rfl), if_neg (by decide)]
    · rw [if_neg hv, if_neg hv]
  · rw [if_neg hp, if_neg hp]
theorem pr_odds (p v w : Int32) : PairL Rel yX5_odds cX5_odds 8 yX6_odds cX6_odds 8 [.int p, .int v, .int w] := pair_ofL fun D tc A B σ τ hR => by
  obtain ⟨P, M, C, h⟩ := hR
  have hMR := h.1
  obtain ⟨⟨h4, h6⟩, ⟨hP1, hP2⟩, ⟨hM1, hM2⟩, ⟨hr1, hr2⟩, ⟨hd1, hd2⟩, hop, hPR, hMO, hz, hy⟩ := id hMR
  refine ⟨4, 3, _, _, σ, τ, ⟨by decide, by decide⟩, ok_odds hP1 h4 hM1 h6 p v w, mk_odds hP2 h4 hM2 h6 p v w, ?_, ⟨P, M, C, h⟩⟩
  unfold R_odds Rm_odds
  rw [hP1, hP2, rng2]
  by_cases hp : isP (nI P) p
  · obtain ⟨k, hk, rfl⟩ := isP_of rfl (by omega) hp
    have hck : (nI k).toNatClampNeg = k := nI_clamp (by omega)
    obtain ⟨x, hx, ex⟩ := ow_small τ (nI k) M h6
    by_cases hv : wiI v 0 99 ∧ wiI w 0 1
    · rw [if_pos hp, if_pos hv, if_pos (show isP (nI P) (nI k) ∧ wiI v 0 99 ∧ wiI w 0 1 from ⟨hp, hv⟩), hck, cl_eq hMR _ M (Nat.le_refl _), ex, od_U h6 hx, od_L h6 hx, od_eq hMR hk]
      obtain ⟨j, hj, ej⟩ := od_pow x (Nat.lt_of_lt_of_le hx (p64 h6))
      rw [od_L h6 hx] at ej
      have hu := om_le (τ := τ) (M := M) (p := k) (v := v) (th := nI x) (2 ^ M)
      rw [ej] at hu ⊢
      generalize omM τ M k v (nI x) (2 ^ M) = u at hu ⊢
      obtain ⟨g1, g2⟩ := rd_gcd j hj u hu
      unfold odR ltM
      rw [g1, g2]
    · rw [if_pos hp, if_neg hv, if_neg (fun z => hv z.2)]
  · rw [if_neg hp, if_neg (fun z => hp z.1)]
