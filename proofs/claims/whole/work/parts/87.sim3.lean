/-! exchanges; readings -/
theorem gx_eq {P M : Nat} {μ τ : Sm} (h : MR P M μ τ) {a b : Nat} (ha : a < M) (hb : b < M) : gxC μ M a b = gyM τ M a b ∨ (gxC μ M a b = 0 ∧ gyM τ M a b = -9) := by
  obtain ⟨-, a2, -, -, ⟨q, hq, eq⟩, -⟩ := h.2.2.2.2.2.2.2.1 a ha
  obtain ⟨-, b2, -, -, ⟨r, hr, er⟩, -⟩ := h.2.2.2.2.2.2.2.1 b hb
  have h4 := h.1.1
  have hcq : (nI q).toNatClampNeg = q := nI_clamp (by omega)
  have hcr : (nI r).toNatClampNeg = r := nI_clamp (by omega)
  unfold gxC gyM geC
  rw [a2, b2, eq, er, hcq, hcr, cl_eq h _ M (Nat.le_refl _), cl_eq h _ M (Nat.le_refl _), fe_eq h hq, fe_eq h hq, fe_eq h hr, fe_eq h hr]
  by_cases hc : ¬ τ 16 a = 0 ∨ ¬ τ 16 b = 0 ∨ nI q = nI r
  · right
    rw [if_pos hc, if_pos (by
      rcases hc with hc | hc | hc
      · exact Or.inr (Or.inl ((mr_bit h ha).mpr hc))
      · exact Or.inr (Or.inr ((mr_bit h hb).mpr hc))
      · exact Or.inl hc)]
    exact ⟨rfl, rfl⟩
  · rw [if_neg hc, if_neg (by
      rintro (z | z | z)
      · exact hc (Or.inr (Or.inr z))
      · exact hc (Or.inl ((mr_bit h ha).mp z))
      · exact hc (Or.inr (Or.inl ((mr_bit h hb).mp z))))]
    unfold gbM
    by_cases hd : feM τ q (owM τ (nI q) M ^^^ (oneI a ||| oneI b)) M - feM τ q (owM τ (nI q) M) M < 0 ∨ ¬ 0 ≤ feM τ r (owM τ (nI r) M ^^^ (oneI a ||| oneI b)) M - feM τ r (owM τ (nI r) M) M
    · rw [if_pos hd, if_pos hd]
      exact Or.inr ⟨rfl, rfl⟩
    · rw [if_neg hd, if_neg hd]
      exact Or.inl rfl
abbrev t3ok (t : T3) : Prop := 0 ≤ t.1 ∧ (t.1 = 0 → t.2.1 = -9 ∧ t.2.2 = -9)
theorem sw_in {P M : Nat} {μ τ : Sm} (h : MR P M μ τ) {a : Nat} (ha : a < M) (t0 : T3) (h0 : t3ok t0) : ∀ k, k ≤ M - (a + 1) → swI μ M a t0 k = fsI τ M a t0 k ∧ t3ok (fsI τ M a t0 k) := by
  intro k
  induction k with
  | zero => intro _; exact ⟨rfl, h0⟩
  | succ k ih =>
    intro hk
    obtain ⟨i1, i2⟩ := ih (by omega)
    unfold swI fsI
    rw [i1]
    rcases gx_eq h ha (b := a + 1 + k) (by omega) with g | ⟨g1, g2⟩
    · rw [g]
      by_cases hc : gyM τ M a (a + 1 + k) ≤ (fsI τ M a t0 k).1
      · rw [if_pos hc]
        exact ⟨rfl, i2⟩
      · rw [if_neg hc]
        refine ⟨rfl, ?_, fun z => ?_⟩
        · exact Int32.le_trans i2.1 (Int32.le_of_lt (Int32.not_le.mp hc))
        · have : gyM τ M a (a + 1 + k) = 0 := z
          rw [this] at hc
          exact absurd i2.1 hc
    · rw [g1, g2, if_pos i2.1, if_pos (Int32.le_trans (by decide) i2.1)]
      exact ⟨rfl, i2⟩
theorem sw_out {P M : Nat} {μ τ : Sm} (h : MR P M μ τ) : ∀ a, a ≤ M → swO μ M a = fsO τ M a ∧ t3ok (fsO τ M a) := by
  intro a
  induction a with
  | zero => intro _; exact ⟨rfl, (show (0 : Int32) ≤ 0 by decide), fun _ => ⟨rfl, rfl⟩⟩
  | succ a ih =>
    intro ha
    obtain ⟨i1, i2⟩ := ih (by omega)
    unfold swO fsO
    rw [i1]
    exact sw_in h (by omega) _ i2 _ (Nat.le_refl _)
theorem so_dew {P M C : Nat} {σ : St} {τ : Sm} (h : RelE P M C σ τ) {m : Nat} (hm : m < M) (v : Int32) : soA σ C (nI m) (σ 5 3 m) (σ 5 5 m) v ↔ asA (um τ 15 m v) C := by
  obtain ⟨a1, a2, a3, a4, -⟩ := h.1.2.2.2.2.2.2.2.1 m hm
  have h6 := h.1.1.2
  have key : ∀ r, r < C → (waC σ (nI m) (σ 5 3 m) (σ 5 5 m) v r = σ 9 2 r ↔ frM (um τ 15 m v) ((um τ 15 m v) 34 r).toNatClampNeg ((um τ 15 m v) 35 r) = (um τ 15 m v) 36 r) := by
    intro r hr
    obtain ⟨b1, b2, b3, z, hz, ez⟩ := h.2.2.1.2.2.2 r hr
    show _ ↔ freshI (τ 12 (τ 34 r).toNatClampNeg) (τ 14 (τ 34 r).toNatClampNeg) (um τ 15 m v 15 (τ 34 r).toNatClampNeg) (τ 35 r) = τ 36 r
    unfold waC
    rw [b1, b2, b3, ez, nI_clamp (by omega), um_at, a1, a3]
    by_cases e : z = m
    · subst e
      rw [if_pos rfl, if_pos rfl]
    · rw [if_neg (fun q => e ((nI_eq (by omega) (by omega)).mp q)), if_neg e, fr_eq h.1 hz]
      exact Iff.rfl
  exact ⟨fun q r hr => (key r hr).mp (q r hr), fun q r hr => (key r hr).mpr (q r hr)⟩
theorem so_kind {P M C : Nat} {σ : St} {τ : Sm} (h : RelE P M C σ τ) {m : Nat} (hm : m < M) (v : Int32) : soA σ C (nI m) v (σ 5 5 m) (σ 5 6 m) ↔ asA (um τ 12 m v) C := by
  obtain ⟨a1, a2, a3, a4, -⟩ := h.1.2.2.2.2.2.2.2.1 m hm
  have h6 := h.1.1.2
  have key : ∀ r, r < C → (waC σ (nI m) v (σ 5 5 m) (σ 5 6 m) r = σ 9 2 r ↔ frM (um τ 12 m v) ((um τ 12 m v) 34 r).toNatClampNeg ((um τ 12 m v) 35 r) = (um τ 12 m v) 36 r) := by
    intro r hr
    obtain ⟨b1, b2, b3, z, hz, ez⟩ := h.2.2.1.2.2.2 r hr
    show _ ↔ freshI (um τ 12 m v 12 (τ 34 r).toNatClampNeg) (τ 14 (τ 34 r).toNatClampNeg) (τ 15 (τ 34 r).toNatClampNeg) (τ 35 r) = τ 36 r
    unfold waC
    rw [b1, b2, b3, ez, nI_clamp (by omega), um_at, a4, a3]
    by_cases e : z = m
    · subst e
      rw [if_pos rfl, if_pos rfl]
    · rw [if_neg (fun q => e ((nI_eq (by omega) (by omega)).mp q)), if_neg e, fr_eq h.1 hz]
      exact Iff.rfl
  exact ⟨fun q r hr => (key r hr).mp (q r hr), fun q r hr => (key r hr).mpr (q r hr)⟩
theorem so_taken {P M C : Nat} {σ : St} {τ : Sm} (h : RelE P M C σ τ) {m : Nat} (hm : m < M) (v : Int32) : soA σ C (nI m) (σ 5 3 m) v (σ 5 6 m) ↔ asA (um τ 14 m v) C := by
  obtain ⟨a1, a2, a3, a4, -⟩ := h.1.2.2.2.2.2.2.2.1 m hm
  have h6 := h.1.1.2
  have key : ∀ r, r < C → (waC σ (nI m) (σ 5 3 m) v (σ 5 6 m) r = σ 9 2 r ↔ frM (um τ 14 m v) ((um τ 14 m v) 34 r).toNatClampNeg ((um τ 14 m v) 35 r) = (um τ 14 m v) 36 r) := by
    intro r hr
    obtain ⟨b1, b2, b3, z, hz, ez⟩ := h.2.2.1.2.2.2 r hr
    show _ ↔ freshI (τ 12 (τ 34 r).toNatClampNeg) (um τ 14 m v 14 (τ 34 r).toNatClampNeg) (τ 15 (τ 34 r).toNatClampNeg) (τ 35 r) = τ 36 r
    unfold waC
    rw [b1, b2, b3, ez, nI_clamp (by omega), um_at, a4, a1]
    by_cases e : z = m
    · subst e
      rw [if_pos rfl, if_pos rfl]
    · rw [if_neg (fun q => e ((nI_eq (by omega) (by omega)).mp q)), if_neg e, fr_eq h.1 hz]
      exact Iff.rfl
  exact ⟨fun q r hr => (key r hr).mp (q r hr), fun q r hr => (key r hr).mpr (q r hr)⟩
theorem dews_eq {P M C : Nat} {σ : St} {τ : Sm} (h : RelE P M C σ τ) {m : Nat} (hm : m < M) : ∀ k, dwC σ C m k = vxM τ 15 m C k := by
  intro k
  induction k with
  | zero => rfl
  | succ k ih =>
    unfold dwC vxM
    rw [ih]
    by_cases e : asA (um τ 15 m (nI k)) C
    · rw [if_pos e, if_pos ((so_dew h hm (nI k)).mpr e)]
    · rw [if_neg e, if_neg (fun z => e ((so_dew h hm (nI k)).mp z)), or_0]
theorem pr_dews (m : Int32) : Pair Rel yX5_dews cX5_dews 4 yX6_dews cX6_dews 5 [.int m] := pair_of fun D tc A B σ τ hR => by
  obtain ⟨P, M, C, h⟩ := hR
  have hMR := h.1
  obtain ⟨⟨h4, h6⟩, ⟨hP1, hP2⟩, ⟨hM1, hM2⟩, ⟨hr1, hr2⟩, ⟨hd1, hd2⟩, hop, hPR, hMO, hz, hy⟩ := id hMR
  obtain ⟨hC8, hC1, hC2, hRR⟩ := h.2.2.1
  refine ⟨3, 2, _, _, σ, τ, ⟨by decide, by decide⟩, ok_dews hM1 h6 hC1 hC8 (fun r hr => by obtain ⟨b1, -, -, z, hz, ez⟩ := hRR r hr; exact ⟨z, by omega, b1.trans ez⟩) m, mk_dews hM2 h6 hC2 hC8 (fun r hr => by obtain ⟨-, -, -, z, hz, ez⟩ := hRR r hr; exact ⟨z, by omega, ez⟩) m, ?_, ?_⟩
  · unfold R_dews Rm_dews
    rw [hM1, hM2]
    by_cases hp : isP (nI M) m
    · obtain ⟨k, hk, rfl⟩ := isP_of rfl (by omega) hp
      have hck : (nI k).toNatClampNeg = k := nI_clamp (by omega)
      rw [if_pos hp, if_pos hp, hck, dews_eq h hk]
    · rw [if_neg hp, if_neg hp]
  · exact ⟨P, M, C, h⟩
theorem kinds_eq {P M C : Nat} {σ : St} {τ : Sm} (h : RelE P M C σ τ) {m : Nat} (hm : m < M) : ∀ k, kdC σ C m k = vxM τ 12 m C k := by
  intro k
  induction k with
  | zero => rfl
  | succ k ih =>
    unfold kdC vxM
    rw [ih]
    by_cases e : asA (um τ 12 m (nI k)) C
    · rw [if_pos e, if_pos ((so_kind h hm (nI k)).mpr e)]
    · rw [if_neg e, if_neg (fun z => e ((so_kind h hm (nI k)).mp z)), or_0]
theorem pr_kinds (m : Int32) : Pair Rel yX5_kinds cX5_kinds 4 yX6_kinds cX6_kinds 5 [.int m] := pair_of fun D tc A B σ τ hR => by
  obtain ⟨P, M, C, h⟩ := hR
  have hMR := h.1
  obtain ⟨⟨h4, h6⟩, ⟨hP1, hP2⟩, ⟨hM1, hM2⟩, ⟨hr1, hr2⟩, ⟨hd1, hd2⟩, hop, hPR, hMO, hz, hy⟩ := id hMR
  obtain ⟨hC8, hC1, hC2, hRR⟩ := h.2.2.1
  refine ⟨3, 2, _, _, σ, τ, ⟨by decide, by decide⟩, ok_kinds hM1 h6 hC1 hC8 (fun r hr => by obtain ⟨b1, -, -, z, hz, ez⟩ := hRR r hr; exact ⟨z, by omega, b1.trans ez⟩) m, mk_kinds hM2 h6 hC2 hC8 (fun r hr => by obtain ⟨-, -, -, z, hz, ez⟩ := hRR r hr; exact ⟨z, by omega, ez⟩) m, ?_, ?_⟩
  · unfold R_kinds Rm_kinds
    rw [hM1, hM2]
    by_cases hp : isP (nI M) m
    · obtain ⟨k, hk, rfl⟩ := isP_of rfl (by omega) hp
      have hck : (nI k).toNatClampNeg = k := nI_clamp (by omega)
      rw [if_pos hp, if_pos hp, hck, kinds_eq h hk]
    · rw [if_neg hp, if_neg hp]
  · exact ⟨P, M, C, h⟩
theorem takens_eq {P M C : Nat} {σ : St} {τ : Sm} (h : RelE P M C σ τ) {m : Nat} (hm : m < M) : ∀ k, tkC σ C m k = vxM τ 14 m C k := by
  intro k
  induction k with
  | zero => rfl
  | succ k ih =>
    unfold tkC vxM
    rw [ih]
    by_cases e : asA (um τ 14 m (nI k)) C
    · rw [if_pos e, if_pos ((so_taken h hm (nI k)).mpr e)]
    · rw [if_neg e, if_neg (fun z => e ((so_taken h hm (nI k)).mp z)), or_0]
theorem pr_takens (m : Int32) : Pair Rel yX5_takens cX5_takens 4 yX6_takens cX6_takens 5 [.int m] := pair_of fun D tc A B σ τ hR => by
  obtain ⟨P, M, C, h⟩ := hR
  have hMR := h.1
  obtain ⟨⟨h4, h6⟩, ⟨hP1, hP2⟩, ⟨hM1, hM2⟩, ⟨hr1, hr2⟩, ⟨hd1, hd2⟩, hop, hPR, hMO, hz, hy⟩ := id hMR
  obtain ⟨hC8, hC1, hC2, hRR⟩ := h.2.2.1
  refine ⟨3, 2, _, _, σ, τ, ⟨by decide, by decide⟩, ok_takens hM1 h6 hC1 hC8 (fun r hr => by obtain ⟨b1, -, -, z, hz, ez⟩ := hRR r hr; exact ⟨z, by omega, b1.trans ez⟩) m, mk_takens hM2 h6 hC2 hC8 (fun r hr => by obtain ⟨-, -, -, z, hz, ez⟩ := hRR r hr; exact ⟨z, by omega, ez⟩) m, ?_, ?_⟩
  · unfold R_takens Rm_takens
    rw [hM1, hM2]
    by_cases hp : isP (nI M) m
    · obtain ⟨k, hk, rfl⟩ := isP_of rfl (by omega) hp
      have hck : (nI k).toNatClampNeg = k := nI_clamp (by omega)
      rw [if_pos hp, if_pos hp, hck, takens_eq h hk]
    · rw [if_neg hp, if_neg hp]
  · exact ⟨P, M, C, h⟩
theorem pr_swap (w : Int32) : Pair Rel yX5_swap cX5_swap 8 yX6_swap cX6_swap 3 [.int w] := pair_of fun D tc A B σ τ hR => by
  obtain ⟨P, M, C, h⟩ := hR
  have hMR := h.1
  obtain ⟨⟨h4, h6⟩, ⟨hP1, hP2⟩, ⟨hM1, hM2⟩, ⟨hr1, hr2⟩, ⟨hd1, hd2⟩, hop, hPR, hMO, hz, hy⟩ := id hMR
  obtain ⟨hC8, hC1, hC2, hRR⟩ := h.2.2.1
  refine ⟨5, 5, _, _, σ, _, ⟨by decide, by decide⟩, ok_swap hM1 h6 (ow4 hMR).1 w, mk_swap hM2 h6 (ow4 hMR).2 w, ?_, ?_⟩
  · obtain ⟨e1, e2⟩ := sw_out hMR M (Nat.le_refl _)
    unfold R_swap Rm_swap
    rw [hP1, hP2, rng, e1]
    by_cases hv : wiI w 0 2
    · rw [if_pos hv, if_pos hv]
      by_cases hz0 : nI P = 0
      · rw [if_pos hz0, if_neg (fun q => (pos_n h4).mp q hz0)]
      · rw [if_neg hz0, if_pos ((pos_n h4).mpr hz0)]
        by_cases ht : (fsO τ M M).1 = 0
        · obtain ⟨u1, u2⟩ := e2.2 ht
          rw [if_pos ht, if_pos ht, u1, u2]
          by_cases w0 : w = 0
          · rw [if_pos w0]
          · rw [if_neg w0]
            by_cases w1 : w = 1
            · rw [if_pos w1]
            · rw [if_neg w1]
        · rw [if_neg ht, if_neg ht]
    · rw [if_neg hv, if_neg hv]
  · unfold Sm_swap
    split
    · split
      · exact ⟨P, M, C, h⟩
      · refine ⟨P, M, C, RelE_of h (MR_congr hMR (fun _ _ _ => rfl) (fun k h1 h2 => ?_) (fun i _ => ⟨rfl, rfl⟩) (fun k h1 h2 i _ => ?_)) (fun x hx => h.2.1 x hx) rfl (fun _ _ => rfl) rfl (fun k hk => ?_)⟩
        · unfold fwS; rw [um_k (by omega), um_k (by omega)]
        · unfold fwS; rw [um_k (by omega), um_k (by omega)]
        · unfold fwS; rw [um_k (by omega), um_k (by omega)]
    · exact ⟨P, M, C, h⟩
theorem pr_back (k : Int32) : Pair Rel yX5_back cX5_back 2 yX6_back cX6_back 2 [.int k] := pair_of fun D tc A B σ τ hR => by
  obtain ⟨P, M, C, h⟩ := hR
  have hMR := h.1
  obtain ⟨⟨h4, h6⟩, ⟨hP1, hP2⟩, ⟨hM1, hM2⟩, ⟨hr1, hr2⟩, ⟨hd1, hd2⟩, hop, hPR, hMO, hz, hy⟩ := id hMR
  obtain ⟨hC8, hC1, hC2, hRR⟩ := h.2.2.1
  refine ⟨0, 1, _, _, _, _, ⟨by decide, by decide⟩, ok_back k, mk_back k, ?_, ?_⟩
  · unfold R_back Rm_back
    rw [hC1, hC2, rng]
  · unfold S_back Sm_back
    rw [hC1, hC2, rng]
    by_cases hv : wiI k 0 (nI C)
    · rw [if_pos hv, if_pos hv]
      obtain ⟨e, he, rfl⟩ := wi_n (B := C) rfl (by omega) hv
      rw [pk_sub he]
      obtain ⟨c1, c2, c3, c4, c5, c6⟩ := h
      refine ⟨P, M, C - e, ?_, c2, ⟨by omega, rfl, rfl, fun r hr => ?_⟩, fun j hj => ?_, c5, c6⟩
      · refine MR_congr c1 (fun k _ _ => ?_) (fun k h1 h2 => ?_) (fun i _ => ⟨rfl, rfl⟩) (fun k h1 h2 i _ => ?_)
        · rw [up_o (by decide)]
        · rw [um_k (by omega)]
        · rw [um_k (by omega)]
      · exact hRR r (by omega)
      · have := c4 j hj
        unfold SR
        rw [up_o (show ¬ 1 + j = 9 by omega), um_k (show ¬ 2 = 33 by decide), um_k (show ¬ 3 = 33 by decide), um_k (show ¬ 4 = 33 by decide)]
        exact this
    · rw [if_neg hv, if_neg hv]
      exact ⟨P, M, C, h⟩
theorem pr_reading (m t v : Int32) : Pair Rel yX5_reading cX5_reading 4 yX6_reading cX6_reading 4 [.int m, .int t, .int v] := pair_of fun D tc A B σ τ hR => by
  obtain ⟨P, M, C, h⟩ := hR
  have hMR := h.1
  obtain ⟨⟨h4, h6⟩, ⟨hP1, hP2⟩, ⟨hM1, hM2⟩, ⟨hr1, hr2⟩, ⟨hd1, hd2⟩, hop, hPR, hMO, hz, hy⟩ := id hMR
  obtain ⟨hC8, hC1, hC2, hRR⟩ := h.2.2.1
  refine ⟨1, 1, _, _, _, _, ⟨by decide, by decide⟩, ok_reading hM1 h6 hC1 hC8 m t v, mk_reading hM2 h6 hC2 hC8 m t v, ?_, ?_⟩
  · have hc8 : (nI C < 8) ↔ ¬ nI C = 8 := by
      rw [show (8 : Int32) = nI 8 by decide, nI_ltI (by omega) (by decide), nI_eq (by omega) (by decide)]
      omega
    unfold R_reading Rm_reading
    rw [hM1, hM2, rng2, hC1, hC2]
    by_cases hp : isP (nI M) m
    · obtain ⟨k, hk, rfl⟩ := isP_of rfl (by omega) hp
      have hck : (nI k).toNatClampNeg = k := nI_clamp (by omega)
      rw [if_pos hp, if_pos hp]
      by_cases hc : nI C = 8
      · rw [if_pos hc, if_neg (fun z => hc8.mp z hc)]
      · rw [if_neg hc, if_pos (hc8.mpr hc)]
    · rw [if_neg hp, if_neg hp]
  · have hc8 : (nI C < 8) ↔ ¬ nI C = 8 := by
      rw [show (8 : Int32) = nI 8 by decide, nI_ltI (by omega) (by decide), nI_eq (by omega) (by decide)]
      omega
    unfold S_reading Sm_reading
    rw [hM1, hM2, rng2, hC1, hC2, nI_clamp (show C < 2 ^ 31 by omega)]
    by_cases hp : isP (nI M) m
    · obtain ⟨k, hk, rfl⟩ := isP_of rfl (by omega) hp
      have hck : (nI k).toNatClampNeg = k := nI_clamp (by omega)
      rw [if_pos hp, if_pos hp]
      by_cases hv : wiI t 0 99 ∧ wiI v 0 9
      · rw [if_pos hv, if_pos hv]
        by_cases hc : nI C = 8
        · rw [if_pos hc, if_neg (fun z => hc8.mp z hc)]
          exact ⟨P, M, C, h⟩
        · rw [if_neg hc, if_pos (hc8.mpr hc)]
          have hC7 : C < 8 := by
            have := hc8.mpr hc
            rw [show (8 : Int32) = nI 8 by decide, nI_ltI (by omega) (by decide)] at this
            exact this
          obtain ⟨c1, c2, c3, c4, c5, c6⟩ := h
          refine ⟨P, M, C + 1, ?_, c2, ⟨by omega, ?_, ?_, fun r hr => ?_⟩, fun j hj => ?_, c5, c6⟩
          · refine MR_congr c1 (fun k _ _ => ?_) (fun k h1 h2 => ?_) (fun i _ => ⟨rfl, rfl⟩) (fun k h1 h2 i _ => ?_)
            · unfold apC; rw [up_o (by decide), up_o (by decide), up_o (by decide), up_o (by decide)]
            · unfold rxM; rw [um_k (by omega), um_k (by omega), um_k (by omega), um_k (by omega)]
            · unfold rxM; rw [um_k (by omega), um_k (by omega), um_k (by omega), um_k (by omega)]
          · show σ 9 3 0 + 1 = _
            rw [hC1, nI_1]
          · show τ 33 0 + 1 = _
            rw [hC2, nI_1]
          · show ((if r = C then nI k else σ 9 0 r) = (if r = C then nI k else τ 34 r) ∧ (if r = C then t else σ 9 1 r) = (if r = C then t else τ 35 r) ∧ (if r = C then v else σ 9 2 r) = (if r = C then v else τ 36 r) ∧ ∃ z, z < M ∧ (if r = C then nI k else τ 34 r) = nI z)
            by_cases e : r = C
            · simp only [if_pos e]
              exact ⟨trivial, trivial, trivial, k, hk, rfl⟩
            · simp only [if_neg e]
              exact hRR r (by omega)
          · have := c4 j hj
            unfold SR apC rxM
            rw [up_o (show ¬ 1 + j = 9 by omega), up_o (show ¬ 1 + j = 9 by omega), up_o (show ¬ 1 + j = 9 by omega), up_o (show ¬ 1 + j = 9 by omega)]
            exact this
      · rw [if_neg hv, if_neg hv]
        exact ⟨P, M, C, h⟩
    · rw [if_neg hp, if_neg hp]
      exact ⟨P, M, C, h⟩
