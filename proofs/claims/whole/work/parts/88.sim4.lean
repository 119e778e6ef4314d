/-! sheets -/
theorem is_sh {k : Int32} : isS k ↔ shI k := by
  unfold isS shI wiI
  rw [show (nI 4 : Int32) = 4 by decide, Int32.lt_iff_toInt_lt, Int32.le_iff_toInt_le, Int32.lt_iff_toInt_lt, show (4 : Int32).toInt = 4 by decide, show (3 : Int32).toInt = 3 by decide]
  constructor
  · rintro ⟨a, b⟩; exact ⟨a, by omega⟩
  · rintro ⟨a, b⟩; exact ⟨a, by omega⟩
theorem is_j {k : Int32} (h : isS k) : ∃ j, j < 4 ∧ k = nI j := by
  obtain ⟨j, hj, e⟩ := nI_of h.1
  refine ⟨j, ?_, e⟩
  have := h.2
  rw [e, nI_leI (by decide) (by omega)] at this
  omega
theorem la_9 {x : Int32} (h : laI x) : ¬ x = -9 := fun e => h.1 (by rw [e]; decide)
theorem sr_none {σ : St} {τ : Sm} {j : Nat} (h : SR σ τ j) : σ (1 + j) 1 0 = -1 ↔ τ 2 j = -9 := by
  obtain ⟨⟨n, hn, e3, (⟨a, b⟩ | ⟨a, b, c⟩)⟩, -⟩ := h
  · exact ⟨fun _ => b, fun _ => a⟩
  · exact ⟨fun z => absurd (a.symm.trans z) (fun q => nI_pos (n := n) (by omega) (by rw [q]; decide)), fun z => absurd z (la_9 c)⟩
theorem sr_there {σ : St} {τ : Sm} {j : Nat} (h : SR σ τ j) (hx : ¬ τ 2 j = -9) : ∃ n, n ≤ 60 ∧ τ 3 j = nI n ∧ σ (1 + j) 1 0 = nI n ∧ σ (1 + j) 2 0 = τ 2 j := by
  obtain ⟨⟨n, hn, e3, (⟨a, b⟩ | ⟨a, b, c⟩)⟩, -⟩ := h
  · exact absurd b hx
  · exact ⟨n, hn, e3, a, b⟩
theorem sr_len {σ : St} {τ : Sm} {j : Nat} (h : SR σ τ j) : lenOk (σ (1 + j) 1 0) ∧ ∃ n, n ≤ 60 ∧ τ 3 j = nI n := by
  obtain ⟨⟨n, hn, e3, (⟨a, b⟩ | ⟨a, b, c⟩)⟩, -⟩ := h
  · exact ⟨⟨n, hn, Or.inl a⟩, n, hn, e3⟩
  · exact ⟨⟨n, hn, Or.inr a⟩, n, hn, e3⟩
theorem hc_wi {n : Nat} (hn : n ≤ 60) (i : Int32) : hcI (nI n) i 1 ↔ wiI i 0 (nI n - 1) := by
  unfold hcI wiI
  by_cases h0 : i < 0
  · exact ⟨fun z => absurd h0 z.1, fun z => absurd h0 z.1⟩
  · obtain ⟨a, ha, rfl⟩ := nI_of h0
    have e1 : (nI n - 1).toInt = (n : Int) - 1 := pk_sub_toInt (b := 1) (by omega) (by decide)
    constructor
    · rintro ⟨b1, b2, b3, b4⟩
      refine ⟨b1, ?_⟩
      rw [nI_ltI (by omega) ha] at b2
      rw [pk_sub (by omega), show (1 : Int32) = nI 1 by decide, nI_ltI (by omega) (by decide)] at b4
      rw [Int32.lt_iff_toInt_lt, e1, nI_toInt ha]
      omega
    · rintro ⟨b1, b2⟩
      rw [Int32.lt_iff_toInt_lt, e1, nI_toInt ha] at b2
      refine ⟨b1, ?_, by decide, ?_⟩
      · rw [nI_ltI (by omega) ha]; omega
      · rw [pk_sub (by omega), show (1 : Int32) = nI 1 by decide, nI_ltI (by omega) (by decide)]; omega
theorem cu_eq (a b : Int32) : cuI a b = cuM a b := rfl
/-- one sheet is changed, the rest stays -/
theorem RelE_sh {P M C : Nat} {σ σ' : St} {τ τ' : Sm} (h : RelE P M C σ τ) (j : Nat) (h5 : σ' 5 = σ 5) (h9 : σ' 9 = σ 9) (h0 : σ' 0 = σ 0) (ht : ∀ k, k ≤ 1 ∨ 5 ≤ k → τ' k = τ k) (hj : SR σ' τ' j) (ho : ∀ i, i < 4 → ¬ i = j → σ' (1 + i) = σ (1 + i) ∧ τ' 2 i = τ 2 i ∧ τ' 3 i = τ 3 i ∧ ∀ q, q < 60 → τ' 4 (i6 i q) = τ 4 (i6 i q)) : RelE P M C σ' τ' := by
  obtain ⟨a1, a2, a3, a4, a5, a6⟩ := h
  refine ⟨?_, ?_, ?_, fun i hi => ?_, ?_, ?_⟩
  · rw [h5]
    exact MR_congr a1 (fun _ _ _ => rfl) (fun k h1 h2 => by rw [ht k (by omega)]) (fun i _ => by rw [ht 9 (by decide), ht 11 (by decide)]; exact ⟨rfl, rfl⟩) (fun k h1 h2 i _ => by rw [ht k (by omega)])
  · intro p hp
    rw [h5, ht 10 (by decide)]
    exact a2 p hp
  · rw [h9, ht 33 (by decide)]
    refine ⟨a3.1, a3.2.1, a3.2.2.1, fun r hr => ?_⟩
    unfold RR
    rw [h9, ht 34 (by decide), ht 35 (by decide), ht 36 (by decide)]
    exact a3.2.2.2 r hr
  · by_cases e : i = j
    · subst e; exact hj
    · obtain ⟨b1, b2, b3, b4⟩ := ho i hi e
      obtain ⟨c1, c2⟩ := a4 i hi
      refine ⟨?_, fun q hq => ?_⟩
      · rw [b1, b2, b3]; exact c1
      · rw [b1, b4 q hq]; exact c2 q hq
  · rw [h0, ht 1 (by decide)]; exact a5
  · rw [h0, ht 0 (by decide)]; exact a6
/-- copying, step by step, is copying at once -/
theorem cpL_f {f : Nat → Int32} {s d n : Nat} {fw : Prop} [Decidable fw] (hf : ¬ fw) (hsd : d ≤ s ∨ s + n ≤ d) : ∀ k, k ≤ n → ∀ q, cpL f s d n fw k q = if d ≤ q ∧ q < d + k then f (s + (q - d)) else f q := by
  intro k
  induction k with
  | zero => intro _ q; rw [if_neg (by omega)]; rfl
  | succ k ih =>
    intro hk q
    unfold cpL
    have e : stp fw n k = k := if_neg hf
    rw [e]
    by_cases hq : q = d + k
    · subst hq
      rw [pk_us, ih (by omega), if_neg (by omega), if_pos (by omega)]
      congr 1
      omega
    · rw [pk_un hq, ih (by omega)]
      by_cases hc : d ≤ q ∧ q < d + k
      · rw [if_pos hc, if_pos (by omega)]
      · rw [if_neg hc, if_neg (by omega)]
theorem cpL_b {f : Nat → Int32} {s d n : Nat} {fw : Prop} [Decidable fw] (hf : fw) (hsd : s ≤ d ∨ d + n ≤ s) : ∀ k, k ≤ n → ∀ q, cpL f s d n fw k q = if d + (n - k) ≤ q ∧ q < d + n then f (s + (q - d)) else f q := by
  intro k
  induction k with
  | zero => intro _ q; rw [if_neg (by omega)]; rfl
  | succ k ih =>
    intro hk q
    unfold cpL
    have e : stp fw n k = n - 1 - k := if_pos hf
    rw [e]
    by_cases hq : q = d + (n - 1 - k)
    · subst hq
      rw [pk_us, ih (by omega), if_neg (by omega), if_pos (by omega)]
      congr 1
      omega
    · rw [pk_un hq, ih (by omega)]
      by_cases hc : d + (n - k) ≤ q ∧ q < d + n
      · rw [if_pos hc, if_pos (by omega)]
      · rw [if_neg hc, if_neg (by omega)]
theorem cpL_all {f : Nat → Int32} {j j' a a' n : Nat} {fw : Prop} [Decidable fw] (hfw : fw ↔ a < a') (h1 : a + n ≤ 60) (h2 : a' + n ≤ 60) (q : Nat) : cpL f (i6 j a) (i6 j' a') n fw n q = if i6 j' a' ≤ q ∧ q < i6 j' a' + n then f (i6 j a + (q - i6 j' a')) else f q := by
  unfold i6
  by_cases h : fw
  · have := hfw.mp h
    rw [cpL_b h (by omega) n (Nat.le_refl _) q, Nat.sub_self, Nat.add_zero]
  · have : ¬ a < a' := fun z => h (hfw.mpr z)
    rw [cpL_f h (by omega) n (Nat.le_refl _) q]
theorem pr_sheet (k l n : Int32) : Pair Rel yX5_sheet cX5_sheet 5 yX6_sheet cX6_sheet 5 [.int k, .int l, .int n] := pair_of fun D tc A B σ τ hR => by
  obtain ⟨P, M, C, h⟩ := hR
  have hMR := h.1
  obtain ⟨⟨h4, h6⟩, ⟨hP1, hP2⟩, ⟨hM1, hM2⟩, ⟨hr1, hr2⟩, ⟨hd1, hd2⟩, hop, hPR, hMO, hz, hy⟩ := id hMR
  obtain ⟨hC8, hC1, hC2, hRR⟩ := h.2.2.1
  have hf := RelE_fault h 0
  by_cases hk : isS k
  · obtain ⟨j, hj, rfl⟩ := is_j hk
    have hS := h.2.2.2.1 j hj
    refine ⟨2, 2, _, _, _, _, ⟨by decide, by decide⟩, ok_sheet hj l n, mk_sheet hj l n, rfl, ?_⟩
    generalize faC σ 0 = σ' at hf ⊢
    generalize um τ 0 0 0 = τ' at hf ⊢
    unfold S_sheet Sm_sheet
    by_cases hc : laI l ∧ n ≤ 60
    · rw [if_pos hc, if_pos hc]
      by_cases hn : 0 ≤ n
      · rw [if_pos hn, if_pos hn]
        obtain ⟨e, he, rfl⟩ := wi_n (B := 60) rfl (by decide) (⟨Int32.not_lt.mpr hn, Int32.not_lt.mpr hc.2⟩ : wiI n 0 60)
        refine ⟨P, M, C, RelE_sh hf j ?_ ?_ ?_ (fun k hk => ?_) ?_ (fun i hi hne => ?_)⟩
        · unfold grC; rw [upF_o (by omega), up_o (by omega), up_o (by omega)]
        · unfold grC; rw [upF_o (by omega), up_o (by omega), up_o (by omega)]
        · unfold grC; rw [upF_o (by omega), up_o (by omega), up_o (by omega)]
        · rw [umF_k (by omega), um_k (by omega), um_k (by omega)]
        · have g : grC σ' j l (nI e) (1 + j) = umF (um (um (σ' (1 + j)) 2 0 l) 1 0 (nI e)) 0 (fillN (um (um (σ' (1 + j)) 2 0 l) 1 0 (nI e) 0) 0 60) := by
            unfold grC
            rw [upF_um, up_um, up_um]
          refine ⟨⟨e, he, ?_, Or.inr ⟨?_, ?_, ?_⟩⟩, fun i hi => ?_⟩
          · show um (um τ' 2 j l) 3 j (nI e) 3 j = nI e
            exact um_eq
          · rw [g]; rfl
          · rw [g]
            show l = um (um τ' 2 j l) 3 j (nI e) 2 j
            rw [um_k (by decide), um_eq]
          · show laI (um (um τ' 2 j l) 3 j (nI e) 2 j)
            rw [um_k (by decide), um_eq]
            exact hc.1
          · rw [g]
            show fillN _ 0 60 i = clM τ' j 60 (i6 j i)
            unfold fillN clM i6
            rw [if_pos hi, if_pos (by omega)]
        · refine ⟨?_, ?_, ?_, fun q hq => ?_⟩
          · unfold grC; rw [upF_o (by omega), up_o (by omega), up_o (by omega)]
          · show um (um τ' 2 j l) 3 j (nI e) 2 i = τ' 2 i
            rw [um_k (by decide), um_ne (fun z => hne z.2)]
          · show um (um τ' 2 j l) 3 j (nI e) 3 i = τ' 3 i
            rw [um_ne (fun z => hne z.2), um_k (by decide)]
          · show clM τ' j 60 (i6 i q) = τ' 4 (i6 i q)
            unfold clM i6
            rw [if_neg (by omega)]
      · rw [if_neg hn, if_neg hn]
        exact ⟨P, M, C, RelE_fault hf 4⟩
    · rw [if_neg hc, if_neg hc]
      exact ⟨P, M, C, hf⟩
  · exact ⟨1, 2, _, _, _, _, ⟨by decide, by decide⟩, ok_sheetN k hk l n, mk_sheetN k (fun z => hk (is_sh.mpr z)) l n, rfl, P, M, C, hf⟩
theorem pr_lose (k : Int32) : Pair Rel yX5_lose cX5_lose 4 yX6_lose cX6_lose 3 [.int k] := pair_of fun D tc A B σ τ hR => by
  obtain ⟨P, M, C, h⟩ := hR
  have hMR := h.1
  obtain ⟨⟨h4, h6⟩, ⟨hP1, hP2⟩, ⟨hM1, hM2⟩, ⟨hr1, hr2⟩, ⟨hd1, hd2⟩, hop, hPR, hMO, hz, hy⟩ := id hMR
  obtain ⟨hC8, hC1, hC2, hRR⟩ := h.2.2.1
  have hf := RelE_fault h 0
  by_cases hk : isS k
  · obtain ⟨j, hj, rfl⟩ := is_j hk
    have hS := h.2.2.2.1 j hj
    refine ⟨1, 2, _, _, _, _, ⟨by decide, by decide⟩, ok_lose hj, mk_lose hj, ?_, ?_⟩
    · unfold R_lose Rm_lose b2i
      by_cases e : τ 2 j = -9
      · rw [if_pos e, if_neg (fun z => z ((sr_none hS).mpr e))]
      · rw [if_neg e, if_pos (fun z => e ((sr_none hS).mp z))]
    · refine ⟨P, M, C, RelE_sh h j (up_o (by omega)) (up_o (by omega)) (up_o (by omega)) (fun k hk => um_k (by omega)) ?_ (fun i hi hne => ?_)⟩
      · obtain ⟨⟨n, hn, e3, -⟩, c2⟩ := hS
        refine ⟨⟨n, hn, e3, Or.inl ⟨?_, um_eq⟩⟩, fun i hi => ?_⟩
        · rw [up_um]; exact um_eq
        · rw [up_um]; exact c2 i hi
      · exact ⟨up_o (by omega), um_ne (fun z => hne z.2), rfl, fun _ _ => rfl⟩
  · exact ⟨1, 2, _, _, _, _, ⟨by decide, by decide⟩, ok_loseN k hk, mk_loseN k (fun z => hk (is_sh.mpr z)), rfl, P, M, C, h⟩
theorem pr_put (k i v : Int32) : Pair Rel yX5_put cX5_put 5 yX6_put cX6_put 4 [.int k, .int i, .int v] := pair_of fun D tc A B σ τ hR => by
  obtain ⟨P, M, C, h⟩ := hR
  have hMR := h.1
  obtain ⟨⟨h4, h6⟩, ⟨hP1, hP2⟩, ⟨hM1, hM2⟩, ⟨hr1, hr2⟩, ⟨hd1, hd2⟩, hop, hPR, hMO, hz, hy⟩ := id hMR
  obtain ⟨hC8, hC1, hC2, hRR⟩ := h.2.2.1
  have hf := RelE_fault h 0
  by_cases hk : isS k
  · obtain ⟨j, hj, rfl⟩ := is_j hk
    have hS := h.2.2.2.1 j hj
    refine ⟨1, 2, _, _, _, _, ⟨by decide, by decide⟩, ok_put hj (sr_len hS).1 i v, mk_put hj (sr_len hS).2 i v, ?_, ?_⟩
    · generalize faC σ 0 = σ' at hf ⊢
      generalize um τ 0 0 0 = τ' at hf ⊢
      have hS := hf.2.2.2.1 j hj
      unfold R_put Rm_put
      by_cases e : τ' 2 j = -9
      · rw [if_pos e, if_pos ((sr_none hS).mpr e)]
      · obtain ⟨n, hn, e3, e1, e2⟩ := sr_there hS e
        rw [if_neg e, if_neg (fun z => e ((sr_none hS).mp z)), e1, e3]
        by_cases hw : wiI i 0 (nI n - 1)
        · rw [if_pos hw, if_pos ((hc_wi hn i).mpr hw)]
        · rw [if_neg hw, if_neg (fun z => hw ((hc_wi hn i).mp z))]
    · generalize faC σ 0 = σ' at hf ⊢
      generalize um τ 0 0 0 = τ' at hf ⊢
      have hS := hf.2.2.2.1 j hj
      unfold S_put Sm_put
      by_cases e : τ' 2 j = -9
      · rw [if_pos e, if_pos ((sr_none hS).mpr e)]
        exact ⟨P, M, C, RelE_fault hf 1⟩
      · obtain ⟨n, hn, e3, e1, e2⟩ := sr_there hS e
        rw [if_neg e, if_neg (fun z => e ((sr_none hS).mp z)), e1, e3]
        by_cases hw : wiI i 0 (nI n - 1)
        · rw [if_pos hw, if_pos ((hc_wi hn i).mpr hw), e2, cu_eq]
          obtain ⟨a, ha, rfl⟩ := wi_in hn hw
          rw [nI_clamp (by omega)]
          refine ⟨P, M, C, RelE_sh hf j (up_o (by omega)) (up_o (by omega)) (up_o (by omega)) (fun k hk => um_k (by omega)) ?_ (fun x hx hne => ?_)⟩
          · obtain ⟨c1, c2⟩ := hS
            refine ⟨?_, fun x hx => ?_⟩
            · rw [up_um]; exact c1
            · rw [up_um]
              show um (σ' (1 + j)) 0 a (cuM (τ' 2 j) v) 0 x = um τ' 4 (i6 j a) (cuM (τ' 2 j) v) 4 (i6 j x)
              rw [um_at, um_at]
              by_cases ex : x = a
              · rw [if_pos ex, if_pos (by rw [ex])]
              · rw [if_neg ex, if_neg (by unfold i6; omega)]
                exact c2 x hx
          · refine ⟨up_o (by omega), rfl, rfl, fun q hq => ?_⟩
            exact um_ne (fun z => by have := z.2; unfold i6 at this; omega)
        · rw [if_neg hw, if_neg (fun z => hw ((hc_wi hn i).mp z))]
          exact ⟨P, M, C, RelE_fault hf 3⟩
  · exact ⟨1, 2, _, _, _, _, ⟨by decide, by decide⟩, ok_putN k hk i v, mk_putN k (fun z => hk (is_sh.mpr z)) i v, rfl, P, M, C, hf⟩
theorem pr_cell (k i l : Int32) : PairL Rel yX5_cell cX5_cell 5 yX6_cell cX6_cell 4 [.int k, .int i, .int l] := pair_ofL fun D tc A B σ τ hR => by
  obtain ⟨P, M, C, h⟩ := hR
  have hMR := h.1
  obtain ⟨⟨h4, h6⟩, ⟨hP1, hP2⟩, ⟨hM1, hM2⟩, ⟨hr1, hr2⟩, ⟨hd1, hd2⟩, hop, hPR, hMO, hz, hy⟩ := id hMR
  obtain ⟨hC8, hC1, hC2, hRR⟩ := h.2.2.1
  have hf := RelE_fault h 0
  by_cases hk : isS k
  · obtain ⟨j, hj, rfl⟩ := is_j hk
    have hS := h.2.2.2.1 j hj
    refine ⟨2, 2, _, _, _, _, ⟨by decide, by decide⟩, ok_cell hj (sr_len hS).1 i l, mk_cell hj (sr_len hS).2 i l, ?_, ?_⟩
    · generalize faC σ 0 = σ' at hf ⊢
      generalize um τ 0 0 0 = τ' at hf ⊢
      have hS := hf.2.2.2.1 j hj
      unfold R_cell Rm_cell
      by_cases hl : laI l
      · rw [if_pos hl, if_pos hl]
        by_cases e : τ' 2 j = -9
        · have n1 : ¬ (¬ σ' (1 + j) 1 0 = -1 ∧ ¬ σ' (1 + j) 2 0 = l) := fun z => z.1 ((sr_none hS).mpr e)
          have n2 : ¬ (¬ τ' 2 j = -9 ∧ ¬ τ' 2 j = l) := fun z => z.1 e
          rw [if_neg n1, if_neg n2, if_pos e, if_pos ((sr_none hS).mpr e)]
        · obtain ⟨n, hn, e3, e1, e2⟩ := sr_there hS e
          have e0 : ¬ σ' (1 + j) 1 0 = -1 := fun z => e ((sr_none hS).mp z)
          by_cases el : τ' 2 j = l
          · have n1 : ¬ (¬ σ' (1 + j) 1 0 = -1 ∧ ¬ σ' (1 + j) 2 0 = l) := fun z => z.2 (e2.trans el)
            have n2 : ¬ (¬ τ' 2 j = -9 ∧ ¬ τ' 2 j = l) := fun z => z.2 el
            rw [if_neg n1, if_neg n2, if_neg e, if_neg e0, e1, e3]
            by_cases hw : wiI i 0 (nI n - 1)
            · rw [if_pos hw, if_pos ((hc_wi hn i).mpr hw)]
              obtain ⟨a, ha, rfl⟩ := wi_in hn hw
              rw [nI_clamp (by omega), hS.2 a (by omega)]
            · rw [if_neg hw, if_neg (fun z => hw ((hc_wi hn i).mp z))]
          · rw [if_pos ⟨e0, fun z => el (e2.symm.trans z)⟩, if_pos ⟨e, el⟩]
      · rw [if_neg hl, if_neg hl]
    · generalize faC σ 0 = σ' at hf ⊢
      generalize um τ 0 0 0 = τ' at hf ⊢
      have hS := hf.2.2.2.1 j hj
      unfold S_cell Sm_cell
      by_cases hl : laI l
      · rw [if_pos hl, if_pos hl]
        by_cases e : τ' 2 j = -9
        · have n1 : ¬ (¬ σ' (1 + j) 1 0 = -1 ∧ ¬ σ' (1 + j) 2 0 = l) := fun z => z.1 ((sr_none hS).mpr e)
          have n2 : ¬ (¬ τ' 2 j = -9 ∧ ¬ τ' 2 j = l) := fun z => z.1 e
          rw [if_neg n1, if_neg n2, if_pos e, if_pos ((sr_none hS).mpr e)]
          exact ⟨P, M, C, RelE_fault hf 1⟩
        · obtain ⟨n, hn, e3, e1, e2⟩ := sr_there hS e
          have e0 : ¬ σ' (1 + j) 1 0 = -1 := fun z => e ((sr_none hS).mp z)
          by_cases el : τ' 2 j = l
          · have n1 : ¬ (¬ σ' (1 + j) 1 0 = -1 ∧ ¬ σ' (1 + j) 2 0 = l) := fun z => z.2 (e2.trans el)
            have n2 : ¬ (¬ τ' 2 j = -9 ∧ ¬ τ' 2 j = l) := fun z => z.2 el
            rw [if_neg n1, if_neg n2, if_neg e, if_neg e0, e1, e3]
            by_cases hw : wiI i 0 (nI n - 1)
            · rw [if_pos hw, if_pos ((hc_wi hn i).mpr hw)]
              exact ⟨P, M, C, hf⟩
            · rw [if_neg hw, if_neg (fun z => hw ((hc_wi hn i).mp z))]
              exact ⟨P, M, C, RelE_fault hf 3⟩
          · rw [if_pos ⟨e0, fun z => el (e2.symm.trans z)⟩, if_pos ⟨e, el⟩]
            exact ⟨P, M, C, RelE_fault hf 2⟩
      · rw [if_neg hl, if_neg hl]
        exact ⟨P, M, C, hf⟩
  · exact ⟨1, 2, _, _, _, _, ⟨by decide, by decide⟩, ok_cellN k hk i l, mk_cellN k (fun z => hk (is_sh.mpr z)) i l, rfl, P, M, C, hf⟩
theorem cp_hc {τ : Sm} {j j' N N' : Nat} {i i' n : Int32} (e3 : τ 3 j = nI N) (e3' : τ 3 j' = nI N') : cpP τ j j' i i' n ↔ hcI (nI N) i n ∧ hcI (nI N') i' n := by
  unfold cpP hcI
  rw [e3, e3']
  constructor
  · rintro ⟨b1, b2, b3, b4, b5, b6, b7⟩
    exact ⟨⟨b1, b4, b3, b6⟩, b2, b5, b3, Int32.not_lt.mpr b7⟩
  · rintro ⟨⟨b1, b4, b3, b6⟩, b2, b5, -, b7⟩
    exact ⟨b1, b2, b3, b4, b5, b6, Int32.not_lt.mp b7⟩
theorem pr_copy (k i k2 i2 n : Int32) : Pair Rel yX5_copy cX5_copy 8 yX6_copy cX6_copy 10 [.int k, .int i, .int k2, .int i2, .int n] := pair_of fun D tc A B σ τ hR => by
  obtain ⟨P, M, C, h⟩ := hR
  have hMR := h.1
  obtain ⟨⟨h4, h6⟩, ⟨hP1, hP2⟩, ⟨hM1, hM2⟩, ⟨hr1, hr2⟩, ⟨hd1, hd2⟩, hop, hPR, hMO, hz, hy⟩ := id hMR
  obtain ⟨hC8, hC1, hC2, hRR⟩ := h.2.2.1
  have hf := RelE_fault h 0
  by_cases hk : isS k
  · obtain ⟨j, hj, rfl⟩ := is_j hk
    by_cases hk2 : isS k2
    · obtain ⟨j', hj', rfl⟩ := is_j hk2
      refine ⟨1, 2, _, _, _, _, ⟨by decide, by decide⟩, ok_copy hj hj' (sr_len (h.2.2.2.1 j hj)).1 (sr_len (h.2.2.2.1 j' hj')).1 i i2 n, mk_copy hj hj' (sr_len (h.2.2.2.1 j hj)).2 (sr_len (h.2.2.2.1 j' hj')).2 i i2 n, ?_, ?_⟩
      · generalize faC σ 0 = σ' at hf ⊢
        generalize um τ 0 0 0 = τ' at hf ⊢
        have hS := hf.2.2.2.1 j hj
        have hS' := hf.2.2.2.1 j' hj'
        unfold R_copy Rm_copy
        by_cases e : τ' 2 j = -9 ∨ τ' 2 j' = -9
        · rw [if_pos e, if_pos (e.elim (fun z => Or.inl ((sr_none hS).mpr z)) (fun z => Or.inr ((sr_none hS').mpr z)))]
        · rw [if_neg e, if_neg (fun z => e (z.elim (fun z => Or.inl ((sr_none hS).mp z)) (fun z => Or.inr ((sr_none hS').mp z))))]
          rw [not_or] at e
          obtain ⟨N, hN, e3, e1, e2⟩ := sr_there hS e.1
          obtain ⟨N', hN', e3', e1', e2'⟩ := sr_there hS' e.2
          rw [e2, e2', e1, e1']
          by_cases el : τ' 2 j = τ' 2 j'
          · rw [if_pos el, if_pos el]
            by_cases hc : cpP τ' j j' i i2 n
            · rw [if_pos hc, if_pos ((cp_hc e3 e3').mp hc)]
            · rw [if_neg hc, if_neg (fun z => hc ((cp_hc e3 e3').mpr z))]
          · rw [if_neg el, if_neg el]
      · generalize faC σ 0 = σ' at hf ⊢
        generalize um τ 0 0 0 = τ' at hf ⊢
        have hS := hf.2.2.2.1 j hj
        have hS' := hf.2.2.2.1 j' hj'
        unfold S_copy Sm_copy
        by_cases e : τ' 2 j = -9 ∨ τ' 2 j' = -9
        · rw [if_pos e, if_pos (e.elim (fun z => Or.inl ((sr_none hS).mpr z)) (fun z => Or.inr ((sr_none hS').mpr z)))]
          exact ⟨P, M, C, RelE_fault hf 1⟩
        · rw [if_neg e, if_neg (fun z => e (z.elim (fun z => Or.inl ((sr_none hS).mp z)) (fun z => Or.inr ((sr_none hS').mp z))))]
          rw [not_or] at e
          obtain ⟨N, hN, e3, e1, e2⟩ := sr_there hS e.1
          obtain ⟨N', hN', e3', e1', e2'⟩ := sr_there hS' e.2
          rw [e2, e2', e1, e1']
          by_cases el : τ' 2 j = τ' 2 j'
          · rw [if_pos el, if_pos el]
            by_cases hc : cpP τ' j j' i i2 n
            · rw [if_pos hc, if_pos ((cp_hc e3 e3').mp hc)]
              obtain ⟨b1, b2, b3, b4, b5, b6, b7⟩ := hc
              obtain ⟨a, x, rfl, rfl, hax⟩ := cp_in hN e3 b1 b3 b4 b6
              obtain ⟨a', x', rfl, ex, hax'⟩ := cp_in hN' e3' b2 b3 b5 (Int32.not_lt.mpr b7)
              have exx : x = x' := (nI_eq (by omega) (by omega)).mp ex
              subst exx
              rw [nI_clamp (show a < 2 ^ 31 by omega), nI_clamp (show a' < 2 ^ 31 by omega), nI_clamp (show x < 2 ^ 31 by omega)]
              have hfw : nI a < nI a' ↔ a < a' := nI_ltI (by omega) (by omega)
              refine ⟨P, M, C, RelE_sh hf j' (upF_o (by omega)) (upF_o (by omega)) (upF_o (by omega)) (fun k hk => umF_k (by omega)) ?_ (fun y hy hne => ?_)⟩
              · obtain ⟨c1, c2⟩ := hS'
                refine ⟨?_, fun y hy => ?_⟩
                · rw [upF_um]; exact c1
                · rw [upF_um]
                  show va_cpy (σ' (1 + j) 0) (σ' (1 + j') 0) a a' x y = cpL (τ' 4) (i6 j a) (i6 j' a') x (nI a < nI a') x (i6 j' y)
                  rw [cpL_all hfw (by omega) (by omega)]
                  by_cases hq : a' ≤ y ∧ y < a' + x
                  · rw [pk_cpy_in hq.1 hq.2, if_pos (by unfold i6; omega), hS.2 _ (by omega)]
                    congr 1
                    unfold i6
                    omega
                  · rw [pk_cpy_out (by omega), if_neg (by unfold i6; omega)]
                    exact c2 y hy
              · refine ⟨upF_o (by omega), rfl, rfl, fun q hq => ?_⟩
                show cpL (τ' 4) (i6 j a) (i6 j' a') x (nI a < nI a') x (i6 y q) = τ' 4 (i6 y q)
                rw [cpL_all hfw (by omega) (by omega), if_neg (by unfold i6; omega)]
            · rw [if_neg hc, if_neg (fun z => hc ((cp_hc e3 e3').mpr z))]
              exact ⟨P, M, C, RelE_fault hf 3⟩
          · rw [if_neg el, if_neg el]
            exact ⟨P, M, C, RelE_fault hf 2⟩
    · exact ⟨1, 2, _, _, _, _, ⟨by decide, by decide⟩, ok_copyN2 k2 hk2 i i2 n hj, mk_copyN2 hj k2 (fun z => hk2 (is_sh.mpr z)) i i2 n, rfl, P, M, C, hf⟩
  · exact ⟨1, 2, _, _, _, _, ⟨by decide, by decide⟩, ok_copyN1 k hk k2 i i2 n, mk_copyN1 k (fun z => hk (is_sh.mpr z)) i k2 i2 n, rfl, P, M, C, hf⟩
