/-! what acts do to both -/
theorem up_um {σ : St} {o k i : Nat} {v : Int32} : up σ o k i v o = um (σ o) k i v := by
  funext k' i'
  simp [up, um]
theorem upF_um {σ : St} {o k : Nat} {g : Nat → Int32} : upF σ o k g o = umF (σ o) k g := by
  funext k'
  simp [upF, umF]
theorem op_congr {τ τ' : Sm} : ∀ k, (∀ i, i < k → τ' 16 i = τ 16 i) → opM τ' k = opM τ k := by
  intro k
  induction k with
  | zero => intro _; rfl
  | succ k ih =>
    intro h
    unfold opM
    rw [ih (fun i hi => h i (by omega)), h k (by omega)]
theorem op_set {τ : Sm} {m : Nat} (h0 : τ 16 m = 0) : ∀ k, opM (um τ 16 m 1) k = opM τ k ||| (if m < k then oneI m else 0) := by
  intro k
  induction k with
  | zero =>
    show (0 : Int32) = 0 ||| (if m < 0 then oneI m else 0)
    rw [if_neg (show ¬ m < 0 by omega), or_0]
  | succ k ih =>
    unfold opM
    rw [ih]
    by_cases e : k = m
    · subst e
      rw [if_neg (show ¬ k < k by omega), um_eq, if_neg (show ¬ (1 : Int32) = 0 by decide), if_pos h0, if_pos (show k < k + 1 by omega)]
    · rw [um_ne (fun z => e z.2)]
      by_cases g : m < k
      · rw [if_pos g, if_pos (show m < k + 1 by omega), or_as, or_cm (oneI m), ← or_as]
      · rw [if_neg g, if_neg (show ¬ m < k + 1 by omega), or_0, or_0]
def hoμ (μ : Sm) (m p q : Nat) : Sm := um (um (um μ 0 p (μ 0 p - prC μ m)) 0 q (um μ 0 p (μ 0 p - prC μ m) 0 q + prC μ m)) 4 m (nI p)
def unμ (μ : Sm) (m q : Nat) (g : Int32) : Sm := um (um (um μ 1 q (μ 1 q + g)) 2 q (μ 8 0)) 11 0 (μ 11 0 ||| oneI m)
theorem ho_μ {σ : St} {o m p q : Nat} : hoC σ o m p q o = hoμ (σ o) m p q := by
  unfold hoC hoμ
  rw [up_um, up_um, up_um]
theorem un_μ {σ : St} {o m q : Nat} : unC σ o m q o = unμ (σ o) m q (gaC σ o m q) := by
  unfold unC unμ
  rw [up_um, up_um, up_um]
theorem um_at {τ : Sm} {k i i' : Nat} {v : Int32} : um τ k i v k i' = if i' = i then v else τ k i' := by
  by_cases h : i' = i
  · rw [h, um_eq, if_pos rfl]
  · rw [if_neg h]; exact um_ne (fun z => h z.2)
section
variable {P M : Nat} {μ τ : Sm}
theorem MR_sell (h : MR P M μ τ) {m p q : Nat} (hm : m < M) (hp : p < P) (hq : q < P) : MR P M (hoμ μ m p q) (dsM τ m p q) := by
  have hpr := pr_eq h hm
  obtain ⟨h1, h2, h3, h4, h5, h6, h7, h8, h9, h10⟩ := h
  refine ⟨h1, h2, h3, h4, h5, ?_, fun x hx => ?_, fun x hx => ?_, h9, h10⟩
  · exact h6.trans (op_congr (τ := τ) (τ' := dsM τ m p q) M (fun i _ => rfl)).symm
  · obtain ⟨a1, a2, a3⟩ := h7 x hx
    refine ⟨?_, a2, a3⟩
    show um (um μ 0 p (μ 0 p - prC μ m)) 0 q (um μ 0 p (μ 0 p - prC μ m) 0 q + prC μ m) 0 x = um (um τ 9 p (τ 9 p - prM τ m)) 9 q (um τ 9 p (τ 9 p - prM τ m) 9 q + prM τ m) 9 x
    rw [um_at, um_at, um_at, um_at, um_at, um_at, hpr, (h7 p hp).1, (h7 q hq).1, a1]
  · obtain ⟨a1, a2, a3, a4, a5, a6⟩ := h8 x hx
    refine ⟨a1, ?_, a3, a4, ?_, a6⟩
    · show (if x = m then nI p else μ 4 x) = (if x = m then nI p else τ 13 x)
      rw [a2]
    · show ∃ z, z < P ∧ (if x = m then nI p else τ 13 x) = nI z
      by_cases e : x = m
      · rw [if_pos e]; exact ⟨p, hp, rfl⟩
      · rw [if_neg e]; exact a5
theorem ga_eq (h : MR P M μ τ) {m q : Nat} (hm : m < M) (hq : q < P) : (if otC μ q = 0 then frC μ m (μ 8 0) else frC μ m (μ 8 0) / 2) = jgM τ m q := by
  unfold jgM
  rw [fr_eq h hm, h.2.2.2.2.1.1]
  by_cases e : τ 11 q = 0
  · rw [if_pos e, if_pos ((ot_eq h hq).mpr e)]
  · rw [if_neg e, if_neg (fun z => e ((ot_eq h hq).mp z))]
theorem MR_open (h : MR P M μ τ) {m q : Nat} (hm : m < M) (hq : q < P) (h0 : τ 16 m = 0) (g : Int32) : MR P M (unμ μ m q g) (doM τ m q) := by
  obtain ⟨h1, h2, h3, h4, h5, h6, h7, h8, h9, h10⟩ := h
  refine ⟨h1, h2, h3, h4, h5, ?_, fun x hx => ?_, fun x hx => ?_, fun i hi => ?_, fun i hi => ?_⟩
  · show μ 11 0 ||| oneI m = opM (doM τ m q) M
    rw [show opM (doM τ m q) M = opM (um τ 16 m 1) M from op_congr M (fun i _ => rfl), op_set h0, if_pos hm, h6]
  · obtain ⟨a1, a2, a3⟩ := h7 x hx
    refine ⟨a1, ?_, ?_⟩
    · show (um (um μ 1 q _) 2 q (μ 8 0) 2 x = μ 8 0 ↔ ¬ um τ 11 q 1 11 x = 0)
      rw [um_at, um_at]
      by_cases e : x = q
      · rw [if_pos e, if_pos e]
        exact ⟨fun _ => by decide, fun _ => rfl⟩
      · rw [if_neg e, if_neg e]
        exact a2
    · show ¬ μ 8 0 < um (um μ 1 q _) 2 q (μ 8 0) 2 x
      rw [um_at]
      by_cases e : x = q
      · rw [if_pos e]; exact fun z => Int32.lt_irrefl z
      · rw [if_neg e]; exact a3
  · exact h8 x hx
  · show um τ 11 q 1 11 i = 0 ∨ um τ 11 q 1 11 i = 1
    rw [um_at]
    by_cases e : i = q
    · rw [if_pos e]; exact Or.inr rfl
    · rw [if_neg e]; exact h9 i hi
  · show um (um τ 11 q 1) 16 m 1 16 i = 0 ∨ um (um τ 11 q 1) 16 m 1 16 i = 1
    rw [um_at]
    by_cases e : i = m
    · rw [if_pos e]; exact Or.inr rfl
    · rw [if_neg e]; exact h10 i hi
theorem MR_day (h : MR P M μ τ) {e : Nat} (he : e ≤ 9) (hle : τ 8 0 + nI e ≤ 99) : MR P M (um μ 8 0 (μ 8 0 + nI e)) (dlM τ (nI e) P) := by
  obtain ⟨h1, h2, h3, h4, ⟨h5, d, hd, ed⟩, h6, h7, h8, h9, h10⟩ := h
  have hde : d + e ≤ 99 := by
    rw [ed, nI_add, show (99 : Int32) = nI 99 by decide, nI_leI (by omega) (by decide)] at hle
    exact hle
  by_cases e0 : e = 0
  · subst e0
    have z1 : um μ 8 0 (μ 8 0 + nI 0) = μ := by rw [show nI 0 = 0 from rfl, Int32.add_zero, um_self]
    have z2 : dlM τ (nI 0) P = τ := by
      unfold dlM
      rw [if_pos (by decide), show nI 0 = 0 from rfl, Int32.add_zero, um_self]
    rw [z1, z2]
    exact ⟨h1, h2, h3, h4, ⟨h5, d, hd, ed⟩, h6, h7, h8, h9, h10⟩
  · have z2 : dlM τ (nI e) P = umF (um τ 8 0 (τ 8 0 + nI e)) 11 (fillN (τ 11) 0 P) := by
      unfold dlM
      rw [if_neg (nI_nle (by omega) (by omega))]
    rw [z2]
    refine ⟨h1, h2, h3, h4, ⟨?_, d + e, hde, ?_⟩, ?_, fun x hx => ?_, h8, fun i hi => ?_, h10⟩
    · show μ 8 0 + nI e = τ 8 0 + nI e
      rw [h5]
    · show τ 8 0 + nI e = nI (d + e)
      rw [ed, nI_add]
    · exact h6.trans (op_congr (τ := τ) (τ' := umF (um τ 8 0 (τ 8 0 + nI e)) 11 (fillN (τ 11) 0 P)) M (fun i _ => rfl)).symm
    · obtain ⟨a1, a2, a3⟩ := h7 x hx
      have hlt : μ 2 x < μ 8 0 + nI e := by
        refine Int32.lt_of_le_of_lt (Int32.not_lt.mp a3) ?_
        rw [h5, ed, nI_add, nI_ltI (by omega) (by omega)]
        omega
      refine ⟨a1, ?_, ?_⟩
      · show (μ 2 x = μ 8 0 + nI e ↔ ¬ fillN (τ 11) 0 P x = 0)
        constructor
        · intro z; rw [z] at hlt; exact absurd hlt (fun q => Int32.lt_irrefl q)
        · intro z; exact absurd (if_pos hx) z
      · show ¬ μ 8 0 + nI e < μ 2 x
        exact Int32.not_lt.mpr (Int32.le_of_lt hlt)
    · show fillN (τ 11) 0 P i = 0 ∨ fillN (τ 11) 0 P i = 1
      unfold fillN
      split
      · exact Or.inl rfl
      · exact h9 i hi
/-- only what counts of both -/
theorem MR_congr {μ' τ' : Sm} (h : MR P M μ τ) (hμ : ∀ k, k < 12 → ¬ k = 1 → μ' k = μ k) (h5 : ∀ k, 5 ≤ k → k ≤ 8 → τ' k 0 = τ k 0) (h9 : ∀ i, i < 4 → τ' 9 i = τ 9 i ∧ τ' 11 i = τ 11 i) (h12 : ∀ k, 12 ≤ k → k ≤ 16 → ∀ i, i < 6 → τ' k i = τ k i) : MR P M μ' τ' := by
  obtain ⟨a1, a2, a3, a4, a5, a6, a7, a8, a9, a10⟩ := h
  refine ⟨a1, ?_, ?_, ?_, ?_, ?_, fun p hp => ?_, fun m hm => ?_, fun i hi => ?_, fun i hi => ?_⟩
  · rw [hμ 9 (by decide) (by decide), h5 5 (by decide) (by decide)]; exact a2
  · rw [hμ 10 (by decide) (by decide), h5 6 (by decide) (by decide)]; exact a3
  · rw [hμ 7 (by decide) (by decide), h5 7 (by decide) (by decide)]; exact a4
  · rw [hμ 8 (by decide) (by decide), h5 8 (by decide) (by decide)]; exact a5
  · rw [hμ 11 (by decide) (by decide), op_congr M (fun i hi => h12 16 (by decide) (by decide) i (by omega))]; exact a6
  · have := a7 p hp
    unfold PR
    rw [hμ 0 (by decide) (by decide), hμ 2 (by decide) (by decide), hμ 8 (by decide) (by decide), (h9 p (by omega)).1, (h9 p (by omega)).2]
    exact this
  · have := a8 m hm
    unfold MO
    rw [hμ 3 (by decide) (by decide), hμ 4 (by decide) (by decide), hμ 5 (by decide) (by decide), hμ 6 (by decide) (by decide), h12 12 (by decide) (by decide) m (by omega), h12 13 (by decide) (by decide) m (by omega), h12 14 (by decide) (by decide) m (by omega), h12 15 (by decide) (by decide) m (by omega)]
    exact this
  · rw [(h9 i hi).2]; exact a9 i hi
  · rw [h12 16 (by decide) (by decide) i hi]; exact a10 i hi
end
/-- the rest of Rel does not look at a market's own cells -/
theorem RelE_of {P M C : Nat} {σ σ' : St} {τ τ' : Sm} (h : RelE P M C σ τ) (hm : MR P M (σ' 5) τ') (hj : ∀ p, p < P → σ' 5 1 p = τ' 10 p) (h9 : σ' 9 = σ 9) (hs : ∀ j, j < 4 → σ' (1 + j) = σ (1 + j)) (h0 : σ' 0 = σ 0) (ht : ∀ k, k ≤ 4 ∨ (33 ≤ k ∧ k ≤ 36) → τ' k = τ k) : RelE P M C σ' τ' := by
  obtain ⟨a1, a2, a3, a4, a5, a6⟩ := h
  refine ⟨hm, hj, ?_, fun j hj => ?_, ?_, ?_⟩
  · rw [h9, ht 33 (by decide)]
    refine ⟨a3.1, a3.2.1, a3.2.2.1, fun r hr => ?_⟩
    unfold RR
    rw [h9, ht 34 (by decide), ht 35 (by decide), ht 36 (by decide)]
    exact a3.2.2.2 r hr
  · have := a4 j hj
    unfold SR
    rw [hs j hj, ht 2 (by decide), ht 3 (by decide), ht 4 (by decide)]
    exact this
  · rw [h0, ht 1 (by decide)]; exact a5
  · rw [h0, ht 0 (by decide)]; exact a6
theorem pair_of {Rl : St → Sm → Prop} {yc yr : MethodName} {cc cr : ByteArray} {mx mx' : Nat} {args : List Value} (h : ∀ (D : va_G) (tc : Tc) (A B : Nat → Nat) (σ : St) (τ : Sm), Rl σ τ → ∃ (d d' : Nat) (v v' : Int32) (σ' : St) (τ' : Sm), (d ≤ 7 ∧ d' ≤ 7) ∧ Ok d yc cc mx (some .int) D tc (.ref (A 0) :: args) (cW A tc σ) (some (.int v)) (cW A tc σ') ∧ Ok d' yr cr mx' (some .int) D tc (.ref (B 0) :: args) (mW B tc τ) (some (.int v')) (mW B tc τ') ∧ v = v' ∧ Rl σ' τ') : Pair Rl yc cc mx yr cr mx' args := by
  intro D tc A B σ τ hR
  obtain ⟨d, d', v, v', σ', τ', h7, o1, o2, e, hr⟩ := h D tc A B σ τ hR
  subst e
  exact ⟨d, d', v, (fun x => x = σ'), (fun x => x = τ'), h7, o1.rel ⟨σ', rfl, rfl, rfl⟩, o2.rel ⟨τ', rfl, rfl, rfl⟩, fun a b ha hb => by rw [ha, hb]; exact hr⟩
theorem pair_ofL {Rl : St → Sm → Prop} {yc yr : MethodName} {cc cr : ByteArray} {mx mx' : Nat} {args : List Value} (h : ∀ (D : va_G) (tc : Tc) (A B : Nat → Nat) (σ : St) (τ : Sm), Rl σ τ → ∃ (d d' : Nat) (v v' : Int64) (σ' : St) (τ' : Sm), (d ≤ 7 ∧ d' ≤ 7) ∧ Ok d yc cc mx (some .long) D tc (.ref (A 0) :: args) (cW A tc σ) (some (.long v)) (cW A tc σ') ∧ Ok d' yr cr mx' (some .long) D tc (.ref (B 0) :: args) (mW B tc τ) (some (.long v')) (mW B tc τ') ∧ v = v' ∧ Rl σ' τ') : PairL Rl yc cc mx yr cr mx' args := by
  intro D tc A B σ τ hR
  obtain ⟨d, d', v, v', σ', τ', h7, o1, o2, e, hr⟩ := h D tc A B σ τ hR
  subst e
  exact ⟨d, d', v, (fun x => x = σ'), (fun x => x = τ'), h7, o1.rel ⟨σ', rfl, rfl, rfl⟩, o2.rel ⟨τ', rfl, rfl, rfl⟩, fun a b ha hb => by rw [ha, hb]; exact hr⟩
