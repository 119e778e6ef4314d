/-! a text, read by both -/
theorem tk_c {c c' : Nat → Int32} {n q : Nat} {a b : Int32} (h : ∀ i, i < n → c i = c' i) : tkP c n q a b ↔ tkP c' n q a b := by
  constructor
  · rintro ⟨h1, h2, h3⟩; exact ⟨h1, by rw [← h q h1]; exact h2, by rw [← h q h1]; exact h3⟩
  · rintro ⟨h1, h2, h3⟩; exact ⟨h1, by rw [h q h1]; exact h2, by rw [h q h1]; exact h3⟩
theorem kd_c {c c' : Nat → Int32} {n q : Nat} (h : ∀ i, i < n → c i = c' i) : kdP c n q ↔ kdP c' n q := by
  unfold kdP
  rw [tk_c h, tk_c h, tk_c h]
theorem if_c {α : Type} {p q : Prop} [Decidable p] [Decidable q] {x y x' y' : α} (h : p ↔ q) (hx : x = x') (hy : y = y') : (if p then x else y) = (if q then x' else y') := by
  subst hx; subst hy
  by_cases hq : q
  · rw [if_pos hq, if_pos (h.mpr hq)]
  · rw [if_neg hq, if_neg (fun z => hq (h.mp z))]
theorem prsP_c {c c' : Nat → Int32} {n : Nat} (h : ∀ i, i < n → c i = c' i) : ∀ f k, prsP c n f k = prsP c' n f k := by
  intro f
  induction f with
  | zero => intro k; rfl
  | succ f ih =>
    intro k
    unfold prsP
    exact if_c (tk_c h) (if_c (tk_c h) (if_c (tk_c h) (ih _) rfl) rfl) rfl
theorem prsM_c {c c' : Nat → Int32} {n P : Nat} (h : ∀ i, i < n → c i = c' i) : ∀ f m, prsM c n P f m = prsM c' n P f m := by
  intro f
  induction f with
  | zero => intro k; rfl
  | succ f ih =>
    intro k
    unfold prsM
    exact if_c (tk_c h) (if_c (kd_c h) (if_c (tk_c h) (if_c (tk_c h) (if_c (tk_c h) (ih _) rfl) rfl) rfl) rfl) rfl
theorem prs_c {c c' : Nat → Int32} {n : Nat} (h : ∀ i, i < n → c i = c' i) : prs c n = prs c' n := by
  unfold prs
  refine if_c (tk_c h) (if_c (tk_c h) ?_ rfl) rfl
  rw [prsP_c h]
  cases prsP c' n 4 0 with
  | inl q => rfl
  | inr P =>
    show (if P = 0 then nI 2 else finM n P (prsM c n P 6 0)) = (if P = 0 then nI 2 else finM n P (prsM c' n P 6 0))
    rw [prsM_c h]
theorem mkN_c {c c' : Nat → Int32} {n : Nat} (h : ∀ i, i < n → c i = c' i) : mkN c n = mkN c' n := by
  unfold mkN
  rw [prsP_c h]
  cases prsP c' n 4 0 with
  | inl q => rfl
  | inr P =>
    dsimp only
    rw [prsM_c h]
theorem prsP_d {c : Nat → Int32} {n : Nat} : ∀ f k P, prsP c n f k = .inr P → ∀ p, k ≤ p → p < P → dgP c n (3 + 3 * p) ∧ dgP c n (3 + 3 * p + 1) := by
  intro f
  induction f with
  | zero => intro k P h p h1 h2; unfold prsP at h; cases h; omega
  | succ f ih =>
    intro k P h p h1 h2
    unfold prsP at h
    split at h
    · split at h
      · rename_i d1
        split at h
        · rename_i d2
          by_cases e : p = k
          · subst e; exact ⟨d1, d2⟩
          · exact ih _ _ h p (by omega) h2
        · cases h
      · cases h
    · cases h; omega
theorem prsM_d {c : Nat → Int32} {n P : Nat} : ∀ f m M, prsM c n P f m = .inr M → ∀ i, m ≤ i → i < M → kdP c n (bM P i + 1) ∧ tkP c n (bM P i + 1 + 1) 48 (48 + nI P - 1) ∧ dgP c n (bM P i + 1 + 2) ∧ dgP c n (bM P i + 1 + 3) := by
  intro f
  induction f with
  | zero => intro m M h p h1 h2; unfold prsM at h; cases h; omega
  | succ f ih =>
    intro m M h p h1 h2
    unfold prsM at h
    split at h
    · split at h
      · rename_i d1
        split at h
        · rename_i d2
          split at h
          · rename_i d3
            split at h
            · rename_i d4
              by_cases e : p = m
              · subst e; exact ⟨d1, d2, d3, d4⟩
              · exact ih _ _ h p (by omega) h2
            · cases h
          · cases h
        · cases h
      · cases h
    · cases h; omega
theorem prs_1 {c : Nat → Int32} {n : Nat} (h : prs c n = -9) : tkP c n 1 49 57 := by
  unfold prs at h
  split at h
  · split at h
    · assumption
    · exact absurd h (by decide)
  · exact absurd h (by decide)
theorem dig {x a : Int32} {A : Nat} (ha : a = nI A) (hA : A < 2 ^ 20) (h1 : ¬ x < 48) (h2 : x ≤ a) : ∃ q, 48 ≤ q ∧ q ≤ A ∧ x - 48 = nI (q - 48) := by
  obtain ⟨q, hq, e⟩ := nI_of (x := x) (fun z => h1 (Int32.lt_trans z (by decide)))
  subst e
  rw [show (48 : Int32) = nI 48 by decide, nI_ltI hq (by decide)] at h1
  rw [ha, nI_leI hq (by omega)] at h2
  refine ⟨q, by omega, h2, ?_⟩
  rw [show (48 : Int32) = nI 48 by decide, pk_sub (by omega)]
theorem op_zero {τ : Sm} : ∀ k, (∀ i, i < k → τ 16 i = 0) → opM τ k = 0 := by
  intro k
  induction k with
  | zero => intro _; rfl
  | succ k ih =>
    intro h
    unfold opM
    rw [ih (fun i hi => h i (by omega)), if_pos (h k (by omega)), or_0]
theorem kd_3 (x : Int32) : ∃ k, k ≤ 2 ∧ kdI x = nI k := by
  unfold kdI
  split
  · exact ⟨0, by decide, rfl⟩
  · split
    · exact ⟨1, by decide, rfl⟩
    · exact ⟨2, by decide, rfl⟩
theorem ow_P {P : Nat} (h : 0 < P) (h4 : P ≤ 4) : (48 : Int32) + nI P - 1 = nI (47 + P) := by
  rw [show (48 : Int32) = nI 48 by decide, nI_add, show (1 : Int32) = nI 1 by decide, pk_sub (by omega)]
  congr 1
  omega
/-- both have taken the same text -/
theorem MR_text {c c' : Nat → Int32} {n : Nat} {μ τ : Sm} (hc : ∀ i, i < n → c i = c' i) (h9 : prs c' n = -9) (h1 : MkOk c n μ) (h2 : MkM c' n τ) (hz : z01 (τ 11) 4) (hy : z01 (τ 16) 6) : ∃ P M, MR P M μ τ ∧ ∀ p, p < P → μ 1 p = τ 10 p := by
  obtain ⟨P, M, a1, a2, a3, a4, a5, a6, a7, a8, a9, a10, a11, a12, a13, a14⟩ := h1
  obtain ⟨P', M', b1, b2, b3, b4, b5, b6, b7, b8, b9, b10, b11, b12⟩ := h2
  rw [prsP_c hc, b1] at a1
  cases a1
  rw [prsM_c hc, b2] at a2
  cases a2
  have t1 := prs_1 h9
  have dP := prsP_d 4 0 P b1
  have dM := prsM_d 6 0 M b2
  refine ⟨P, M, ⟨⟨a4, a6⟩, ⟨a7, b7⟩, ⟨a8, b8⟩, ⟨?_, ?_⟩, ⟨?_, 0, by decide, b10⟩, ?_, fun p hp => ⟨?_, ?_, ?_⟩, fun m hm => ?_, hz, hy⟩, fun p hp => ?_⟩
  · rw [a9, b9, hc 1 t1.1]
  · obtain ⟨q, q1, q2, q3⟩ := dig (A := 57) rfl (by decide) (fun z => t1.2.1 (Int32.lt_trans z (by decide))) t1.2.2
    exact ⟨q - 48, by omega, b9.trans q3⟩
  · rw [a10, b10]
  · rw [a11, op_zero M (fun i hi => (b12 i hi).2.2.2.2)]
  · obtain ⟨d1, d2⟩ := dP p (Nat.zero_le _) hp
    rw [a13 p hp, (b11 p hp).1]
    unfold puI
    rw [hc _ d1.1, hc _ d2.1]
  · rw [(a12 p (by omega)).2, a10, (b11 p hp).2.2]
    exact ⟨fun z => absurd z (by decide), fun z => absurd rfl z⟩
  · rw [(a12 p (by omega)).2, a10]
    decide
  · obtain ⟨d1, d2, d3, d4⟩ := dM m (Nat.zero_le _) hm
    obtain ⟨x1, x2, x3, x4⟩ := a14 m hm
    obtain ⟨y1, y2, y3, y4, y5⟩ := b12 m hm
    have k1 := (kd_y d1).1
    refine ⟨?_, ?_, ?_, ?_, ?_, ?_, ?_, ?_⟩
    · rw [x1, y1, hc _ k1]
    · rw [x2, y2, hc _ d2.1]
    · rw [x3, y3, hc _ d3.1]
    · rw [x4, y4, hc _ d4.1]
    · obtain ⟨q, q1, q2, q3⟩ := dig (A := 47 + P) (ow_P b3 b4) (by omega) d2.2.1 d2.2.2
      exact ⟨q - 48, by omega, y2.trans q3⟩
    · obtain ⟨k, k2, k3⟩ := kd_3 (c' (bM P m + 1))
      exact ⟨k, k2, y1.trans k3⟩
    · obtain ⟨q, q1, q2, q3⟩ := dig (A := 57) rfl (by decide) d3.2.1 d3.2.2
      exact ⟨q - 48, by omega, y3.trans q3⟩
    · obtain ⟨q, q1, q2, q3⟩ := dig (A := 57) rfl (by decide) d4.2.1 d4.2.2
      exact ⟨q - 48, by omega, y4.trans q3⟩
  · rw [(a12 p (by omega)).1, (b11 p hp).2.1]
theorem hc_ag {n : Nat} (hn : n ≤ 60) {i e : Int32} (he : 0 ≤ e) : hcI (nI n) i e ↔ ¬ (i < 0 ∨ nI n < i ∨ ¬ e ≤ nI n - i) := by
  unfold hcI
  rw [not_or, not_or, Decidable.not_not]
  constructor
  · rintro ⟨a, b, c, d⟩; exact ⟨a, b, Int32.not_lt.mp d⟩
  · rintro ⟨a, b, d⟩; exact ⟨a, b, Int32.not_lt.mpr he, Int32.not_lt.mpr d⟩
/-- what stands against a row of cells, by both -/
theorem ag_1 {τ : Sm} {j : Nat} {l i n : Int32} (h : τ 2 j = -9) : agM τ j l i n = 1 := by
  unfold agM
  rw [if_neg (fun z => z.1 h), if_pos h]
theorem ag_2 {τ : Sm} {j : Nat} {l i n : Int32} (h : ¬ τ 2 j = -9) (hl : ¬ τ 2 j = l) : agM τ j l i n = 2 := by
  unfold agM
  rw [if_pos ⟨h, hl⟩]
theorem ag_4 {τ : Sm} {j : Nat} {l i n : Int32} (h : ¬ τ 2 j = -9) (hl : τ 2 j = l) (hn : ¬ 0 ≤ n) : agM τ j l i n = 4 := by
  unfold agM
  rw [if_neg (fun z => z.2 hl), if_neg h, if_neg hn]
theorem ag_3 {τ : Sm} {j N : Nat} {l i n : Int32} (h : ¬ τ 2 j = -9) (hl : τ 2 j = l) (hn : 0 ≤ n) (hN : N ≤ 60) (e3 : τ 3 j = nI N) (hc : ¬ hcI (nI N) i n) : agM τ j l i n = 3 := by
  unfold agM
  rw [if_neg (fun z => z.2 hl), if_neg h, if_pos hn, e3, if_pos (Decidable.byContradiction (fun z => hc ((hc_ag hN hn).mpr z)))]
theorem ag_o {τ : Sm} {j N : Nat} {l i n : Int32} (h : ¬ τ 2 j = -9) (hl : τ 2 j = l) (hn : 0 ≤ n) (hN : N ≤ 60) (e3 : τ 3 j = nI N) (hc : hcI (nI N) i n) : agM τ j l i n = 0 := by
  unfold agM
  rw [if_neg (fun z => z.2 hl), if_neg h, if_pos hn, e3, if_neg ((hc_ag hN hn).mp hc)]
theorem hc_n {N : Nat} {i n : Int32} (hN : N ≤ 60) (hc : hcI (nI N) i n) : ∃ a e : Nat, i = nI a ∧ n = nI e ∧ a + e ≤ N := by
  obtain ⟨a, e, n', ea, ee, hae, hn', hx'⟩ := hc_in (x := nI N) ⟨N, hN, Or.inr rfl⟩ (fun z => nI_pos (n := N) (by omega) (by rw [z]; decide)) hc
  have : n' = N := (nI_eq (by omega) (by omega)).mp hx'.symm
  exact ⟨a, e, ea, ee, by omega⟩
theorem pr_market (k l i n : Int32) : Pair Rel yX5_market cX5_market 7 yX6_market cX6_market 7 [.int k, .int l, .int i, .int n] := by
  by_cases hk : isS k
  · obtain ⟨j, hj, rfl⟩ := is_j hk
    intro D tc A B σ τ ⟨P, M, C, h⟩
    have hf := RelE_fault h 0
    obtain ⟨hl1, N0, hN0, eN0⟩ := sr_len (h.2.2.2.1 j hj)
    have ok1 := ok_market (D := D) (tc := tc) (A := A) hj hl1 l i n
    have ok2 := mk_market (D := D) (tc := tc) (B := B) hj eN0 hN0 l i n
    generalize faC σ 0 = σ' at hf ok1
    generalize um τ 0 0 0 = τ' at hf ok2
    have hS := hf.2.2.2.1 j hj
    have key : R_market σ' j l i n = Rm_market τ' j l i n ∧ ∀ σ2 τ2, Smk σ' j l i n σ2 → Smm τ' j l i n τ2 → Rel σ2 τ2 := by
      unfold R_market Rm_market Smk Smm
      by_cases hla : laI l
      · rw [if_pos hla, if_pos hla]
        by_cases e : τ' 2 j = -9
        · have n1 : ¬ (¬ σ' (1 + j) 1 0 = -1 ∧ ¬ σ' (1 + j) 2 0 = l) := fun z => z.1 ((sr_none hS).mpr e)
          have n2 : ¬ (1 : Int32) = 0 := by decide
          rw [ag_1 e, if_neg n1, if_pos ((sr_none hS).mpr e), if_neg n2]
          refine ⟨by decide, fun σ2 τ2 a b => ?_⟩
          rw [if_pos hla, if_neg n1, if_pos ((sr_none hS).mpr e)] at a
          rw [if_pos hla, if_neg n2] at b
          rw [a, b]
          exact ⟨P, M, C, RelE_fault hf 1⟩
        · obtain ⟨N, hN, e3, e1, e2⟩ := sr_there hS e
          have e0 : ¬ σ' (1 + j) 1 0 = -1 := fun z => e ((sr_none hS).mp z)
          by_cases el : τ' 2 j = l
          · have n1 : ¬ (¬ σ' (1 + j) 1 0 = -1 ∧ ¬ σ' (1 + j) 2 0 = l) := fun z => z.2 (e2.trans el)
            by_cases hn : 0 ≤ n
            · by_cases hc : hcI (nI N) i n
              · obtain ⟨a, x, rfl, rfl, hax⟩ := hc_n hN hc
                have hca : (nI a).toNatClampNeg = a := nI_clamp (by omega)
                have hcx : (nI x).toNatClampNeg = x := nI_clamp (by omega)
                have hcc : ∀ q, q < x → txC σ' j a x q = cM τ' (i6 j a) q := by
                  intro q hq
                  unfold txC cM
                  rw [pk_cpy_in (Nat.zero_le _) (by omega), Nat.sub_zero, hS.2 _ (by omega)]
                  exact congrArg (τ' 4) (by unfold i6; omega)
                have hc1 : hcI (σ' (1 + j) 1 0) (nI a) (nI x) := by rw [e1]; exact hc
                rw [ag_o e el hn hN e3 hc, if_neg n1, if_neg e0, if_pos hn, if_pos hc1, if_pos rfl, hca, hcx, prs_c hcc, mkN_c hcc]
                refine ⟨rfl, fun σ2 τ2 s t => ?_⟩
                rw [if_pos hla, if_neg n1, if_neg e0, if_pos hn, if_pos hc1] at s
                rw [if_pos hla, if_pos rfl] at t
                by_cases h9 : prs (cM τ' (i6 j a)) x = -9
                · rw [if_pos h9] at s t
                  obtain ⟨s1, s2, s3, s4⟩ := s
                  obtain ⟨t1, t2, t3, t4⟩ := t
                  have hz := hf.1.2.2.2.2.2.2.2.2.1
                  have hy := hf.1.2.2.2.2.2.2.2.2.2
                  obtain ⟨P', M', m1, m2⟩ := MR_text hcc h9 s4 t3 (fun q hq => (t4 q).1.elim Or.inl (fun z => by rw [z]; exact hz q hq)) (fun q hq => (t4 q).2.elim Or.inl (fun z => by rw [z]; exact hy q hq))
                  refine ⟨P', M', 0, m1, m2, ⟨by decide, s3, t2, fun r hr => absurd hr (by omega)⟩, fun y hy => ?_, ?_, ?_⟩
                  · have := hf.2.2.2.1 y hy
                    unfold SR
                    rw [s1 (1 + y) (by omega) (by omega) (by omega) (by omega), t1 2 (by decide), t1 3 (by decide), t1 4 (by decide)]
                    exact this
                  · rw [s1 0 (by decide) (by decide) (by decide) (by decide), t1 1 (by decide)]
                    exact hf.2.2.2.2.1
                  · rw [s1 0 (by decide) (by decide) (by decide) (by decide), t1 0 (by decide)]
                    exact hf.2.2.2.2.2
                · rw [if_neg h9] at s t
                  refine ⟨P, M, C, RelE_of hf ?_ (fun p hp => ?_) (s 9 (by decide) (by decide)) (fun y hy => s (1 + y) (by omega) (by omega)) (s 0 (by decide) (by decide)) (fun k hk => t k (by omega))⟩
                  · rw [s 5 (by decide) (by decide)]
                    exact MR_congr hf.1 (fun _ _ _ => rfl) (fun k h1 h2 => by rw [t k (by omega)]) (fun q _ => by rw [t 9 (by decide), t 11 (by decide)]; exact ⟨rfl, rfl⟩) (fun k h1 h2 q _ => by rw [t k (by omega)])
                  · rw [s 5 (by decide) (by decide), t 10 (by decide)]
                    exact hf.2.1 p hp
              · have n2 : ¬ (3 : Int32) = 0 := by decide
                have hc1 : ¬ hcI (σ' (1 + j) 1 0) i n := by rw [e1]; exact hc
                rw [ag_3 e el hn hN e3 hc, if_neg n1, if_neg e0, if_pos hn, if_neg hc1, if_neg n2]
                refine ⟨by decide, fun σ2 τ2 s t => ?_⟩
                rw [if_pos hla, if_neg n1, if_neg e0, if_pos hn, if_neg hc1] at s
                rw [if_pos hla, if_neg n2] at t
                rw [s, t]
                exact ⟨P, M, C, RelE_fault hf 3⟩
            · have n2 : ¬ (4 : Int32) = 0 := by decide
              rw [ag_4 e el hn, if_neg n1, if_neg e0, if_neg hn, if_neg n2]
              refine ⟨by decide, fun σ2 τ2 s t => ?_⟩
              rw [if_pos hla, if_neg n1, if_neg e0, if_neg hn] at s
              rw [if_pos hla, if_neg n2] at t
              rw [s, t]
              exact ⟨P, M, C, RelE_fault hf 4⟩
          · have n1 : ¬ σ' (1 + j) 1 0 = -1 ∧ ¬ σ' (1 + j) 2 0 = l := ⟨e0, fun z => el (e2.symm.trans z)⟩
            have n2 : ¬ (2 : Int32) = 0 := by decide
            rw [ag_2 e el, if_pos n1, if_neg n2]
            refine ⟨by decide, fun σ2 τ2 s t => ?_⟩
            rw [if_pos hla, if_pos n1] at s
            rw [if_pos hla, if_neg n2] at t
            rw [s, t]
            exact ⟨P, M, C, RelE_fault hf 2⟩
      · rw [if_neg hla, if_neg hla]
        refine ⟨rfl, fun σ2 τ2 s t => ?_⟩
        rw [if_neg hla] at s t
        rw [s, t]
        exact ⟨P, M, C, hf⟩
    refine ⟨4, 4, R_market σ' j l i n, Smk σ' j l i n, Smm τ' j l i n, ⟨by decide, by decide⟩, ok1, ?_, key.2⟩
    rw [key.1]
    exact ok2
  · refine pair_of fun D tc A B σ τ hR => ?_
    obtain ⟨P, M, C, h⟩ := hR
    exact ⟨1, 2, _, _, _, _, ⟨by decide, by decide⟩, ok_marketN k hk l i n, mk_marketN k (fun z => hk (is_sh.mpr z)) l i n, rfl, P, M, C, RelE_fault h 0⟩
