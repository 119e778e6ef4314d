/-! the calls, one beside the other -/
theorem rng {α : Type} {v a b : Int32} {x y : α} : (if v < a ∨ ¬ v ≤ b then x else y) = if wiI v a b then y else x := by
  by_cases h : wiI v a b
  · rw [if_pos h, if_neg (by rintro (z | z); exact h.1 z; exact z (Int32.not_lt.mp h.2))]
  · rw [if_neg h, if_pos (by
      by_cases h0 : v < a
      · exact Or.inl h0
      · exact Or.inr (fun z => h ⟨h0, Int32.not_lt.mpr z⟩))]
theorem rng2 {α : Type} {v a b w c d : Int32} {x y : α} : (if v < a ∨ b < v ∨ w < c ∨ ¬ w ≤ d then x else y) = if wiI v a b ∧ wiI w c d then y else x := by
  by_cases h : wiI v a b ∧ wiI w c d
  · rw [if_pos h, if_neg (by rintro (z | z | z | z); exact h.1.1 z; exact h.1.2 z; exact h.2.1 z; exact z (Int32.not_lt.mp h.2.2))]
  · rw [if_neg h, if_pos (by
      by_cases h0 : v < a
      · exact Or.inl h0
      · by_cases h1 : b < v
        · exact Or.inr (Or.inl h1)
        · by_cases h2 : w < c
          · exact Or.inr (Or.inr (Or.inl h2))
          · exact Or.inr (Or.inr (Or.inr (fun z => h ⟨⟨h0, h1⟩, h2, Int32.not_lt.mpr z⟩))))]
theorem wi_n {n : Int32} {b : Int32} {B : Nat} (hb : b = nI B) (hB : B < 2 ^ 31) (h : wiI n 0 b) : ∃ e : Nat, e ≤ B ∧ n = nI e := by
  obtain ⟨j, hj, e⟩ := nI_of h.1
  refine ⟨j, ?_, e⟩
  have h2 := h.2
  rw [e, hb, nI_ltI hB hj] at h2
  omega
theorem pos_n {P : Nat} (h : P ≤ 4) : 0 < nI P ↔ ¬ nI P = 0 := by
  rw [show (0 : Int32) = nI 0 by decide, nI_ltI (by decide) (by omega), nI_eq (by omega) (by decide)]
  omega
theorem MR_fill {P M : Nat} {μ τ : Sm} (h : MR P M μ τ) (k : Nat) (v : Int32) : MR P M (um μ 0 k v) (um τ 9 k v) := by
  obtain ⟨h1, h2, h3, h4, h5, h6, h7, h8, h9, h10⟩ := h
  refine ⟨h1, h2, h3, h4, h5, ?_, fun x hx => ?_, h8, h9, h10⟩
  · exact h6.trans (op_congr (τ := τ) (τ' := um τ 9 k v) M (fun i _ => rfl)).symm
  · obtain ⟨a1, a2, a3⟩ := h7 x hx
    refine ⟨?_, a2, a3⟩
    rw [um_at, um_at, a1]
theorem MR_rate {P M : Nat} {μ τ : Sm} (h : MR P M μ τ) {r : Nat} (hr : r ≤ 9) : MR P M (um μ 7 0 (nI r)) (um τ 7 0 (nI r)) := by
  obtain ⟨h1, h2, h3, h4, h5, h6, h7, h8, h9, h10⟩ := h
  refine ⟨h1, h2, h3, ⟨rfl, r, hr, rfl⟩, h5, ?_, h7, h8, h9, h10⟩
  exact h6.trans (op_congr (τ := τ) (τ' := um τ 7 0 (nI r)) M (fun i _ => rfl)).symm
theorem ho_o {σ : St} {o m p q o' : Nat} (h : ¬ o' = o) : hoC σ o m p q o' = σ o' := by
  unfold hoC
  rw [up_o h, up_o h, up_o h]
theorem un_o {σ : St} {o m q o' : Nat} (h : ¬ o' = o) : unC σ o m q o' = σ o' := by
  unfold unC
  rw [up_o h, up_o h, up_o h]
theorem RelE_fault {P M C : Nat} {σ : St} {τ : Sm} (h : RelE P M C σ τ) (f : Int32) : RelE P M C (faC σ f) (um τ 0 0 f) := by
  obtain ⟨a1, a2, a3, a4, a5, a6⟩ := h
  refine ⟨?_, a2, a3, fun j hj => ?_, a5, rfl⟩
  · refine MR_congr a1 (fun k _ _ => ?_) (fun k h1 h2 => ?_) (fun i _ => ⟨rfl, rfl⟩) (fun k h1 h2 i _ => ?_)
    · unfold faC; rw [up_o (by decide)]
    · rw [um_k (by omega)]
    · rw [um_k (by omega)]
  · have := a4 j hj
    unfold SR
    unfold faC
    rw [up_o (show ¬ 1 + j = 0 by omega), um_k (show ¬ 2 = 0 by decide), um_k (show ¬ 3 = 0 by decide), um_k (show ¬ 4 = 0 by decide)]
    exact this
theorem RelE_trace {P M C : Nat} {σ : St} {τ : Sm} (h : RelE P M C σ τ) (b : Int32) : RelE P M C (beC σ b) (bgM τ b) := by
  obtain ⟨a1, a2, a3, a4, a5, a6⟩ := h
  refine ⟨?_, a2, a3, fun j hj => ?_, ?_, a6⟩
  · unfold bgM beC
    refine MR_congr a1 (fun k _ _ => ?_) (fun k h1 h2 => ?_) (fun i _ => ⟨rfl, rfl⟩) (fun k h1 h2 i _ => ?_)
    · rw [up_o (by decide)]
    · rw [um_k (by omega)]
    · rw [um_k (by omega)]
  · have := a4 j hj
    unfold SR beC bgM
    rw [up_o (show ¬ 1 + j = 0 by omega), um_k (show ¬ 2 = 1 by decide), um_k (show ¬ 3 = 1 by decide), um_k (show ¬ 4 = 1 by decide)]
    exact this
  · show 31 * σ 0 6 0 + b = 31 * τ 1 0 + b
    rw [a5]
theorem up5 {σ : St} {k i : Nat} {v : Int32} {j : Nat} (hj : j < 4) : up σ 5 k i v (1 + j) = σ (1 + j) := up_o (by omega)
theorem pr_ofMorning (m w : Int32) : Pair Rel yX5_ofMorning cX5_ofMorning 3 yX6_ofMorning cX6_ofMorning 3 [.int m, .int w] := pair_of fun D tc A B σ τ hR => by
  obtain ⟨P, M, C, h⟩ := hR
  have hMR := h.1
  obtain ⟨⟨h4, h6⟩, ⟨hP1, hP2⟩, ⟨hM1, hM2⟩, ⟨hr1, hr2⟩, ⟨hd1, hd2⟩, hop, hPR, hMO, hz, hy⟩ := id hMR
  obtain ⟨hC8, hC1, hC2, hRR⟩ := h.2.2.1
  refine ⟨2, 1, _, _, σ, τ, ⟨by decide, by decide⟩, ok_ofMorning hM1 h6 m w, mk_ofMorning hM2 h6 m w, ?_, ?_⟩
  · unfold R_ofMorning Rm_ofMorning
    rw [hM1, hM2]
    by_cases hp : isP (nI M) m
    · obtain ⟨k, hk, rfl⟩ := isP_of rfl (by omega) hp
      have hck : (nI k).toNatClampNeg = k := nI_clamp (by omega)
      obtain ⟨a1, a2, a3, a4, -⟩ := hMO k hk
      rw [if_pos hp, if_pos hp, hck, a1, a2, a3, a4, b2i_congr (mr_bit hMR hk)]
    · rw [if_neg hp, if_neg hp]
  · exact ⟨P, M, C, h⟩
theorem pr_ofPerson (p w : Int32) : Pair Rel yX5_ofPerson cX5_ofPerson 3 yX6_ofPerson cX6_ofPerson 3 [.int p, .int w] := pair_of fun D tc A B σ τ hR => by
  obtain ⟨P, M, C, h⟩ := hR
  have hMR := h.1
  obtain ⟨⟨h4, h6⟩, ⟨hP1, hP2⟩, ⟨hM1, hM2⟩, ⟨hr1, hr2⟩, ⟨hd1, hd2⟩, hop, hPR, hMO, hz, hy⟩ := id hMR
  obtain ⟨hC8, hC1, hC2, hRR⟩ := h.2.2.1
  refine ⟨3, 1, _, _, σ, τ, ⟨by decide, by decide⟩, ok_ofPerson hP1 h4 hM1 h6 p w, mk_ofPerson hP2 h4 hM2 h6 p w, ?_, ?_⟩
  · unfold R_ofPerson Rm_ofPerson
    rw [hP1, hP2]
    by_cases hp : isP (nI P) p
    · obtain ⟨k, hk, rfl⟩ := isP_of rfl (by omega) hp
      have hck : (nI k).toNatClampNeg = k := nI_clamp (by omega)
      obtain ⟨x, hx, ex⟩ := ow_small τ (nI k) M h6
      have hx64 : x < 64 := Nat.lt_of_lt_of_le hx (p64 h6)
      rw [if_pos hp, if_pos hp, hck, (hPR k hk).1, h.2.1 k hk, cl_eq hMR _ M (Nat.le_refl _), ex, bc_sz x hx64, ot_eqb hMR hk]
    · rw [if_neg hp, if_neg hp]
  · exact ⟨P, M, C, h⟩
theorem pr_fill (p v : Int32) : Pair Rel yX5_fill cX5_fill 4 yX6_fill cX6_fill 4 [.int p, .int v] := pair_of fun D tc A B σ τ hR => by
  obtain ⟨P, M, C, h⟩ := hR
  have hMR := h.1
  obtain ⟨⟨h4, h6⟩, ⟨hP1, hP2⟩, ⟨hM1, hM2⟩, ⟨hr1, hr2⟩, ⟨hd1, hd2⟩, hop, hPR, hMO, hz, hy⟩ := id hMR
  obtain ⟨hC8, hC1, hC2, hRR⟩ := h.2.2.1
  refine ⟨1, 1, _, _, _, _, ⟨by decide, by decide⟩, ok_fillP hP1 h4 p v, mk_fill hP2 h4 p v, ?_, ?_⟩
  · unfold R_fill Rm_fill
    rw [hP1, hP2, rng]
    by_cases hp : isP (nI P) p
    · obtain ⟨k, hk, rfl⟩ := isP_of rfl (by omega) hp
      have hck : (nI k).toNatClampNeg = k := nI_clamp (by omega)
      rw [if_pos hp, if_pos hp, hck, (hPR k hk).1]
    · rw [if_neg hp, if_neg hp]
  · unfold S_fill Sm_fill
    rw [hP1, hP2, rng]
    by_cases hp : isP (nI P) p
    · obtain ⟨k, hk, rfl⟩ := isP_of rfl (by omega) hp
      have hck : (nI k).toNatClampNeg = k := nI_clamp (by omega)
      rw [if_pos hp, if_pos hp, hck]
      by_cases hv : wiI v 0 99
      · rw [if_pos hv, if_pos hv]
        exact ⟨P, M, C, RelE_of h (by rw [up_um]; exact MR_fill hMR k v) (fun x hx => by rw [up_um]; exact h.2.1 x hx) (up_o (by decide)) (fun j hj => up5 hj) (up_o (by decide)) (fun k hk => um_k (by omega))⟩
      · rw [if_neg hv, if_neg hv]
        exact ⟨P, M, C, h⟩
    · rw [if_neg hp, if_neg hp]
      exact ⟨P, M, C, h⟩
theorem pr_rate (v : Int32) : Pair Rel yX5_rate cX5_rate 3 yX6_rate cX6_rate 3 [.int v] := pair_of fun D tc A B σ τ hR => by
  obtain ⟨P, M, C, h⟩ := hR
  have hMR := h.1
  obtain ⟨⟨h4, h6⟩, ⟨hP1, hP2⟩, ⟨hM1, hM2⟩, ⟨hr1, hr2⟩, ⟨hd1, hd2⟩, hop, hPR, hMO, hz, hy⟩ := id hMR
  obtain ⟨hC8, hC1, hC2, hRR⟩ := h.2.2.1
  refine ⟨1, 1, _, _, _, _, ⟨by decide, by decide⟩, ok_rate v, mk_rate v, ?_, ?_⟩
  · unfold R_rate Rm_rate
    rw [hP1, hP2, rng, hr1]
    by_cases hz0 : nI P = 0
    · rw [if_pos hz0, if_neg (fun q => (pos_n h4).mp q hz0)]
    · rw [if_neg hz0, if_pos ((pos_n h4).mpr hz0)]
  · unfold S_rate Sm_rate
    rw [hP1, hP2, rng]
    by_cases hv : wiI v 1 9
    · rw [if_pos hv, if_pos hv]
      by_cases hz0 : nI P = 0
      · rw [if_pos hz0, if_neg (fun q => (pos_n h4).mp q hz0)]
        exact ⟨P, M, C, h⟩
      · rw [if_neg hz0, if_pos ((pos_n h4).mpr hz0)]
        obtain ⟨e, he, rfl⟩ := wi_n (B := 9) rfl (by decide) (⟨fun q => hv.1 (Int32.lt_trans q (by decide)), hv.2⟩ : wiI v 0 9)
        exact ⟨P, M, C, RelE_of h (by rw [up_um]; exact MR_rate hMR he) (fun x hx => by rw [up_um]; exact h.2.1 x hx) (up_o (by decide)) (fun j hj => up5 hj) (up_o (by decide)) (fun k hk => um_k (by omega))⟩
    · rw [if_neg hv, if_neg hv]
      exact ⟨P, M, C, h⟩
theorem pr_fresh (m t : Int32) : Pair Rel yX5_fresh cX5_fresh 3 yX6_fresh cX6_fresh 3 [.int m, .int t] := pair_of fun D tc A B σ τ hR => by
  obtain ⟨P, M, C, h⟩ := hR
  have hMR := h.1
  obtain ⟨⟨h4, h6⟩, ⟨hP1, hP2⟩, ⟨hM1, hM2⟩, ⟨hr1, hr2⟩, ⟨hd1, hd2⟩, hop, hPR, hMO, hz, hy⟩ := id hMR
  obtain ⟨hC8, hC1, hC2, hRR⟩ := h.2.2.1
  refine ⟨2, 1, _, _, σ, τ, ⟨by decide, by decide⟩, ok_fresh hM1 h6 m t, mk_fresh hM2 h6 m t, ?_, ?_⟩
  · unfold R_fresh Rm_fresh
    rw [hM1, hM2, rng]
    by_cases hp : isP (nI M) m
    · obtain ⟨k, hk, rfl⟩ := isP_of rfl (by omega) hp
      have hck : (nI k).toNatClampNeg = k := nI_clamp (by omega)
      rw [if_pos hp, if_pos hp, hck, fr_eq hMR hk]
    · rw [if_neg hp, if_neg hp]
  · exact ⟨P, M, C, h⟩
theorem pr_price (m : Int32) : Pair Rel yX5_price cX5_price 2 yX6_price cX6_price 2 [.int m] := pair_of fun D tc A B σ τ hR => by
  obtain ⟨P, M, C, h⟩ := hR
  have hMR := h.1
  obtain ⟨⟨h4, h6⟩, ⟨hP1, hP2⟩, ⟨hM1, hM2⟩, ⟨hr1, hr2⟩, ⟨hd1, hd2⟩, hop, hPR, hMO, hz, hy⟩ := id hMR
  obtain ⟨hC8, hC1, hC2, hRR⟩ := h.2.2.1
  refine ⟨3, 2, _, _, σ, τ, ⟨by decide, by decide⟩, ok_price hM1 h6 m, mk_price hM2 h6 m, ?_, ?_⟩
  · unfold R_price Rm_price
    rw [hM1, hM2]
    by_cases hp : isP (nI M) m
    · obtain ⟨k, hk, rfl⟩ := isP_of rfl (by omega) hp
      have hck : (nI k).toNatClampNeg = k := nI_clamp (by omega)
      rw [if_pos hp, if_pos hp, hck, pr_eq hMR hk]
    · rw [if_neg hp, if_neg hp]
  · exact ⟨P, M, C, h⟩
theorem cs_eq {P M : Nat} {σ : St} {τ : Sm} {o : Nat} (h : MR P M (σ o) τ) {m : Nat} (hm : m < M) (p : Int32) : csC σ o m p ↔ msM τ m p := by
  have hP1 := h.2.1.1
  have hP2 := h.2.1.2
  have h4 := h.1.1
  have hw := (h.2.2.2.2.2.2.2.1 m hm).2.1
  unfold csC msM
  rw [hP1, hP2, mr_nbit h hm, pr_eq h hm, hw]
  constructor
  · rintro ⟨a1, a2, a3, a4⟩
    obtain ⟨k, hk, rfl⟩ := isP_of rfl (by omega) a1
    refine ⟨a2, a1, fun e => a3 e.symm, ?_⟩
    rw [nI_clamp (by omega)] at a4 ⊢
    rw [← (h.2.2.2.2.2.2.1 k hk).1]
    exact a4
  · rintro ⟨a1, a2, a3, a4⟩
    obtain ⟨k, hk, rfl⟩ := isP_of rfl (by omega) a2
    refine ⟨a2, a1, fun e => a3 e.symm, ?_⟩
    rw [nI_clamp (by omega)] at a4 ⊢
    rw [(h.2.2.2.2.2.2.1 k hk).1]
    exact a4
theorem ow4 {P M : Nat} {μ τ : Sm} (h : MR P M μ τ) : (∀ m, m < M → ∃ q, q < 4 ∧ μ 4 m = nI q) ∧ (∀ m, m < M → ∃ q, q < 4 ∧ τ 13 m = nI q) := by
  have h4 := h.1.1
  refine ⟨fun m hm => ?_, fun m hm => ?_⟩
  · obtain ⟨-, a2, -, -, ⟨q, hq, e⟩, -⟩ := h.2.2.2.2.2.2.2.1 m hm
    exact ⟨q, by omega, a2.trans e⟩
  · obtain ⟨-, a2, -, -, ⟨q, hq, e⟩, -⟩ := h.2.2.2.2.2.2.2.1 m hm
    exact ⟨q, by omega, e⟩
theorem pr_sell (m p : Int32) : Pair Rel yX5_sell cX5_sell 3 yX6_sell cX6_sell 4 [.int m, .int p] := pair_of fun D tc A B σ τ hR => by
  obtain ⟨P, M, C, h⟩ := hR
  have hMR := h.1
  obtain ⟨⟨h4, h6⟩, ⟨hP1, hP2⟩, ⟨hM1, hM2⟩, ⟨hr1, hr2⟩, ⟨hd1, hd2⟩, hop, hPR, hMO, hz, hy⟩ := id hMR
  obtain ⟨hC8, hC1, hC2, hRR⟩ := h.2.2.1
  refine ⟨4, 3, _, _, _, _, ⟨by decide, by decide⟩, ok_sell hP1 h4 hM1 h6 (ow4 hMR).1 m p, mk_sell hP2 h4 hM2 h6 (ow4 hMR).2 m p, ?_, ?_⟩
  · unfold R_sell Rm_sell
    by_cases hp : isP (nI M) m ∧ isP (nI P) p
    · have e1 : isP (σ 5 10 0) m ∧ isP (σ 5 9 0) p := by rw [hM1, hP1]; exact hp
      have e2 : isP (τ 6 0) m ∧ isP (τ 5 0) p := by rw [hM2, hP2]; exact hp
      obtain ⟨k, hk, rfl⟩ := isP_of rfl (by omega) hp.1
      have hck : (nI k).toNatClampNeg = k := nI_clamp (by omega)
      rw [if_pos e1, if_pos e2, hck]
      by_cases hc : msM τ k p
      · rw [if_pos hc, if_pos ((cs_eq hMR hk p).mpr hc), pr_eq hMR hk]
      · rw [if_neg hc, if_neg (fun z => hc ((cs_eq hMR hk p).mp z))]
    · rw [if_neg (fun z => hp (by rw [hM1, hP1] at z; exact z)), if_neg (fun z => hp (by rw [hM2, hP2] at z; exact z))]
  · unfold S_sell Sm_sell
    by_cases hp : isP (nI M) m ∧ isP (nI P) p
    · have e1 : isP (σ 5 10 0) m ∧ isP (σ 5 9 0) p := by rw [hM1, hP1]; exact hp
      have e2 : isP (τ 6 0) m ∧ isP (τ 5 0) p := by rw [hM2, hP2]; exact hp
      obtain ⟨k, hk, rfl⟩ := isP_of rfl (by omega) hp.1
      have hck : (nI k).toNatClampNeg = k := nI_clamp (by omega)
      obtain ⟨x, hx, rfl⟩ := isP_of rfl (by omega) hp.2
      have hcx : (nI x).toNatClampNeg = x := nI_clamp (by omega)
      obtain ⟨-, b2, -, -, ⟨q, hq, e⟩, -⟩ := hMO k hk
      have hcq : (nI q).toNatClampNeg = q := nI_clamp (by omega)
      rw [if_pos e1, if_pos e2, hck]
      by_cases hc : msM τ k (nI x)
      · rw [if_pos hc, if_pos ((cs_eq hMR hk _).mpr hc), hcx, b2, e, hcq]
        exact ⟨P, M, C, RelE_of h (by rw [ho_μ]; exact MR_sell hMR hk hx hq) (fun y hy => by rw [ho_μ]; exact h.2.1 y hy) (ho_o (by decide)) (fun j hj => ho_o (by omega)) (ho_o (by decide)) (fun z hz => by unfold dsM; rw [um_k (by omega), um_k (by omega), um_k (by omega)])⟩
      · rw [if_neg hc, if_neg (fun z => hc ((cs_eq hMR hk _).mp z))]
        exact ⟨P, M, C, h⟩
    · rw [if_neg (fun z => hp (by rw [hM1, hP1] at z; exact z)), if_neg (fun z => hp (by rw [hM2, hP2] at z; exact z))]
      exact ⟨P, M, C, h⟩
theorem pr_open (m : Int32) : Pair Rel yX5_open cX5_open 2 yX6_open cX6_open 2 [.int m] := pair_of fun D tc A B σ τ hR => by
  obtain ⟨P, M, C, h⟩ := hR
  have hMR := h.1
  obtain ⟨⟨h4, h6⟩, ⟨hP1, hP2⟩, ⟨hM1, hM2⟩, ⟨hr1, hr2⟩, ⟨hd1, hd2⟩, hop, hPR, hMO, hz, hy⟩ := id hMR
  obtain ⟨hC8, hC1, hC2, hRR⟩ := h.2.2.1
  refine ⟨3, 2, _, _, _, _, ⟨by decide, by decide⟩, ok_open hM1 h6 (ow4 hMR).1 m, mk_open hM2 h6 (ow4 hMR).2 m, ?_, ?_⟩
  · unfold R_open Rm_open
    rw [hM1, hM2]
    by_cases hp : isP (nI M) m
    · obtain ⟨k, hk, rfl⟩ := isP_of rfl (by omega) hp
      have hck : (nI k).toNatClampNeg = k := nI_clamp (by omega)
      obtain ⟨-, b2, -, -, ⟨q, hq, e⟩, -⟩ := hMO k hk
      have hcq : (nI q).toNatClampNeg = q := nI_clamp (by omega)
      rw [if_pos hp, if_pos hp, hck, b2, e, hcq]
      by_cases h0 : τ 16 k = 0
      · rw [if_pos h0, if_neg ((mr_nbit hMR hk).mpr h0)]
        exact ga_eq hMR hk hq
      · rw [if_neg h0, if_pos ((mr_bit hMR hk).mpr h0)]
    · rw [if_neg hp, if_neg hp]
  · unfold S_open Sm_open
    rw [hM1, hM2]
    by_cases hp : isP (nI M) m
    · obtain ⟨k, hk, rfl⟩ := isP_of rfl (by omega) hp
      have hck : (nI k).toNatClampNeg = k := nI_clamp (by omega)
      obtain ⟨-, b2, -, -, ⟨q, hq, e⟩, -⟩ := hMO k hk
      have hcq : (nI q).toNatClampNeg = q := nI_clamp (by omega)
      rw [if_pos hp, if_pos hp, hck, b2, e, hcq]
      by_cases h0 : τ 16 k = 0
      · rw [if_pos h0, if_neg ((mr_nbit hMR hk).mpr h0)]
        refine ⟨P, M, C, RelE_of h (by rw [un_μ]; exact MR_open hMR hk hq h0 _) (fun y hy => ?_) (un_o (by decide)) (fun j hj => un_o (by omega)) (un_o (by decide)) (fun z hz => by unfold doM; rw [um_k (by omega), um_k (by omega), um_k (by omega)])⟩
        rw [un_μ]
        show (if y = q then σ 5 1 q + gaC σ 5 k q else σ 5 1 y) = um (um (um τ 11 q 1) 16 k 1) 10 q (τ 10 q + jgM τ k q) 10 y
        rw [um_at, h.2.1 q hq, h.2.1 y hy, show gaC σ 5 k q = jgM τ k q from ga_eq hMR hk hq]
        rfl
      · rw [if_neg h0, if_pos ((mr_bit hMR hk).mpr h0)]
        exact ⟨P, M, C, h⟩
    · rw [if_neg hp, if_neg hp]
      exact ⟨P, M, C, h⟩
theorem pr_sleep (n : Int32) : Pair Rel yX5_sleep cX5_sleep 2 yX6_sleep cX6_sleep 2 [.int n] := pair_of fun D tc A B σ τ hR => by
  obtain ⟨P, M, C, h⟩ := hR
  have hMR := h.1
  obtain ⟨⟨h4, h6⟩, ⟨hP1, hP2⟩, ⟨hM1, hM2⟩, ⟨hr1, hr2⟩, ⟨hd1, hd2⟩, hop, hPR, hMO, hz, hy⟩ := id hMR
  obtain ⟨hC8, hC1, hC2, hRR⟩ := h.2.2.1
  refine ⟨1, 1, _, _, _, _, ⟨by decide, by decide⟩, ok_sleep n, mk_sleep hP2 h4 n, ?_, ?_⟩
  · unfold R_sleep Rm_sleep
    rw [hP1, hP2, rng, hd1]
    by_cases hv : wiI n 0 9
    · rw [if_pos hv, if_pos hv]
      by_cases hc : nI P = 0 ∨ ¬ τ 8 0 + n ≤ 99
      · rw [if_pos hc, if_neg (by
          rintro ⟨a, b⟩
          rcases hc with hc | hc
          · exact (pos_n h4).mp a hc
          · exact hc (Int32.not_lt.mp b))]
      · have hc2 := hc
        rw [not_or, Decidable.not_not] at hc2
        rw [if_pos ⟨(pos_n h4).mpr hc2.1, Int32.not_lt.mpr hc2.2⟩, if_neg hc]
    · rw [if_neg hv, if_neg hv]
  · unfold S_sleep Sm_sleep
    rw [hP1, hP2, rng, hd1]
    by_cases hv : wiI n 0 9
    · rw [if_pos hv, if_pos hv]
      by_cases hc : nI P = 0 ∨ ¬ τ 8 0 + n ≤ 99
      · rw [if_pos hc, if_neg (by
          rintro ⟨a, b⟩
          rcases hc with hc | hc
          · exact (pos_n h4).mp a hc
          · exact hc (Int32.not_lt.mp b))]
        exact ⟨P, M, C, h⟩
      · have hc2 := hc
        rw [not_or, Decidable.not_not] at hc2
        rw [if_pos ⟨(pos_n h4).mpr hc2.1, Int32.not_lt.mpr hc2.2⟩, if_neg hc]
        obtain ⟨e, he, rfl⟩ := wi_n (B := 9) rfl (by decide) hv
        refine ⟨P, M, C, RelE_of h (by rw [up_um, ← hd1]; exact MR_day hMR he hc2.2) (fun y hy => ?_) (up_o (by decide)) (fun j hj => up5 hj) (up_o (by decide)) (fun z hz => ?_)⟩
        · rw [up_um]
          show σ 5 1 y = dlM τ (nI e) P 10 y
          rw [h.2.1 y hy]
          unfold dlM
          split <;> rfl
        · unfold dlM
          split
          · rw [um_k (by omega)]
          · rw [umF_k (by omega), um_k (by omega)]
    · rw [if_neg hv, if_neg hv]
      exact ⟨P, M, C, h⟩
theorem pr_feast (p : Int32) : Pair Rel yX5_feast cX5_feast 2 yX6_feast cX6_feast 2 [.int p] := pair_of fun D tc A B σ τ hR => by
  obtain ⟨P, M, C, h⟩ := hR
  have hMR := h.1
  obtain ⟨⟨h4, h6⟩, ⟨hP1, hP2⟩, ⟨hM1, hM2⟩, ⟨hr1, hr2⟩, ⟨hd1, hd2⟩, hop, hPR, hMO, hz, hy⟩ := id hMR
  obtain ⟨hC8, hC1, hC2, hRR⟩ := h.2.2.1
  refine ⟨4, 3, _, _, σ, τ, ⟨by decide, by decide⟩, ok_feast hP1 h4 hM1 h6 p, mk_feast hP2 h4 hM2 h6 p, ?_, ?_⟩
  · unfold R_feast Rm_feast
    rw [hP1, hP2]
    by_cases hp : isP (nI P) p
    · obtain ⟨k, hk, rfl⟩ := isP_of rfl (by omega) hp
      have hck : (nI k).toNatClampNeg = k := nI_clamp (by omega)
      rw [if_pos hp, if_pos hp, hck, cl_eq hMR _ M (Nat.le_refl _), fe_eq hMR hk]
    · rw [if_neg hp, if_neg hp]
  · exact ⟨P, M, C, h⟩
theorem pr_trace : Pair Rel yX5_trace cX5_trace 1 yX6_trace cX6_trace 1 [] := pair_of fun D tc A B σ τ hR => by
  obtain ⟨P, M, C, h⟩ := hR
  have hMR := h.1
  obtain ⟨⟨h4, h6⟩, ⟨hP1, hP2⟩, ⟨hM1, hM2⟩, ⟨hr1, hr2⟩, ⟨hd1, hd2⟩, hop, hPR, hMO, hz, hy⟩ := id hMR
  obtain ⟨hC8, hC1, hC2, hRR⟩ := h.2.2.1
  refine ⟨0, 0, _, _, σ, τ, ⟨by decide, by decide⟩, ok_trace, mk_trace, ?_, ?_⟩
  · exact h.2.2.2.2.1
  · exact ⟨P, M, C, h⟩
theorem pr_fault : Pair Rel yX5_fault cX5_fault 1 yX6_fault cX6_fault 1 [] := pair_of fun D tc A B σ τ hR => by
  obtain ⟨P, M, C, h⟩ := hR
  have hMR := h.1
  obtain ⟨⟨h4, h6⟩, ⟨hP1, hP2⟩, ⟨hM1, hM2⟩, ⟨hr1, hr2⟩, ⟨hd1, hd2⟩, hop, hPR, hMO, hz, hy⟩ := id hMR
  obtain ⟨hC8, hC1, hC2, hRR⟩ := h.2.2.1
  refine ⟨0, 0, _, _, σ, τ, ⟨by decide, by decide⟩, ok_fault, mk_fault, ?_, ?_⟩
  · exact h.2.2.2.2.2
  · exact ⟨P, M, C, h⟩
theorem pr_many (w : Int32) : Pair Rel yX5_many cX5_many 2 yX6_many cX6_many 2 [.int w] := pair_of fun D tc A B σ τ hR => by
  obtain ⟨P, M, C, h⟩ := hR
  have hMR := h.1
  obtain ⟨⟨h4, h6⟩, ⟨hP1, hP2⟩, ⟨hM1, hM2⟩, ⟨hr1, hr2⟩, ⟨hd1, hd2⟩, hop, hPR, hMO, hz, hy⟩ := id hMR
  obtain ⟨hC8, hC1, hC2, hRR⟩ := h.2.2.1
  refine ⟨0, 0, _, _, σ, τ, ⟨by decide, by decide⟩, ok_many w, mk_many w, ?_, ?_⟩
  · unfold R_many Rm_many
    rw [hM1, hM2, hP1, hP2, hd1, hr1, hC1, hC2]
  · exact ⟨P, M, C, h⟩
theorem two_x (x : Int32) : x + 100 + x = 2 * x + 100 := by
  rw [show (2 : Int32) = 1 + 1 by decide, Int32.add_mul, Int32.one_mul, Int32.add_assoc, Int32.add_comm 100 x, Int32.add_assoc]
theorem pr_tell (m : Int32) : Pair Rel yX5_tell cX5_tell 2 yX6_tell cX6_tell 3 [.int m] := pair_of fun D tc A B σ τ hR => by
  obtain ⟨P, M, C, h⟩ := hR
  have hMR := h.1
  obtain ⟨⟨h4, h6⟩, ⟨hP1, hP2⟩, ⟨hM1, hM2⟩, ⟨hr1, hr2⟩, ⟨hd1, hd2⟩, hop, hPR, hMO, hz, hy⟩ := id hMR
  obtain ⟨hC8, hC1, hC2, hRR⟩ := h.2.2.1
  refine ⟨4, 1, _, _, _, _, ⟨by decide, by decide⟩, ok_tell hM1 h6 m, mk_tell hM2 h6 m, ?_, ?_⟩
  · unfold R_tell Rm_tell
    rw [hM1, hM2]
    by_cases hp : isP (nI M) m
    · obtain ⟨k, hk, rfl⟩ := isP_of rfl (by omega) hp
      have hck : (nI k).toNatClampNeg = k := nI_clamp (by omega)
      obtain ⟨a1, a2, a3, a4, -⟩ := hMO k hk
      rw [if_pos hp, if_pos hp, hck, a1, a4, show τ 15 k + 100 + τ 15 k = 2 * τ 15 k + 100 from two_x _]
    · rw [if_neg hp, if_neg hp]
  · unfold S_tell Sm_tell
    rw [hM1, hM2]
    by_cases hp : isP (nI M) m
    · obtain ⟨k, hk, rfl⟩ := isP_of rfl (by omega) hp
      have hck : (nI k).toNatClampNeg = k := nI_clamp (by omega)
      obtain ⟨a1, a2, a3, a4, -⟩ := hMO k hk
      rw [if_pos hp, if_pos hp, hck, a1]
      by_cases e1 : τ 12 k = 1
      · rw [if_pos e1, if_pos e1]
        exact ⟨P, M, C, RelE_trace (RelE_trace h 2) 1⟩
      · rw [if_neg e1, if_neg e1]
        by_cases e2 : τ 12 k = 2
        · rw [if_pos e2, if_pos e2]
          exact ⟨P, M, C, RelE_trace (RelE_trace (RelE_trace (RelE_trace h 3) 2) 1) 1⟩
        · rw [if_neg e2, if_neg e2]
          exact ⟨P, M, C, RelE_trace h 1⟩
    · rw [if_neg hp, if_neg hp]
      exact ⟨P, M, C, h⟩
theorem pr_crow (m : Int32) : Pair Rel yX5_crow cX5_crow 2 yX6_crow cX6_crow 2 [.int m] := pair_of fun D tc A B σ τ hR => by
  obtain ⟨P, M, C, h⟩ := hR
  have hMR := h.1
  obtain ⟨⟨h4, h6⟩, ⟨hP1, hP2⟩, ⟨hM1, hM2⟩, ⟨hr1, hr2⟩, ⟨hd1, hd2⟩, hop, hPR, hMO, hz, hy⟩ := id hMR
  obtain ⟨hC8, hC1, hC2, hRR⟩ := h.2.2.1
  refine ⟨2, 1, _, _, _, _, ⟨by decide, by decide⟩, ok_crow hM1 h6 m, mk_crow hM2 h6 m, ?_, ?_⟩
  · unfold R_crow Rm_crow
    rw [hM1, hM2]
    by_cases hp : isP (nI M) m
    · obtain ⟨k, hk, rfl⟩ := isP_of rfl (by omega) hp
      have hck : (nI k).toNatClampNeg = k := nI_clamp (by omega)
      obtain ⟨a1, a2, a3, a4, -⟩ := hMO k hk
      rw [if_pos hp, if_pos hp, hck, a1]
    · rw [if_neg hp, if_neg hp]
  · unfold S_crow Sm_crow
    rw [hM1, hM2]
    by_cases hp : isP (nI M) m
    · obtain ⟨k, hk, rfl⟩ := isP_of rfl (by omega) hp
      have hck : (nI k).toNatClampNeg = k := nI_clamp (by omega)
      obtain ⟨a1, a2, a3, a4, -⟩ := hMO k hk
      rw [if_pos hp, if_pos hp, hck, a1]
      by_cases e2 : τ 12 k = 2
      · rw [if_pos e2, if_pos e2]
        exact ⟨P, M, C, RelE_trace h 5⟩
      · rw [if_neg e2, if_neg e2]
        exact ⟨P, M, C, RelE_trace h 4⟩
    · rw [if_neg hp, if_neg hp]
      exact ⟨P, M, C, h⟩
theorem pr_as (m k2 : Int32) : Pair Rel yX5_as cX5_as 3 yX6_as cX6_as 3 [.int m, .int k2] := pair_of fun D tc A B σ τ hR => by
  obtain ⟨P, M, C, h⟩ := hR
  have hMR := h.1
  obtain ⟨⟨h4, h6⟩, ⟨hP1, hP2⟩, ⟨hM1, hM2⟩, ⟨hr1, hr2⟩, ⟨hd1, hd2⟩, hop, hPR, hMO, hz, hy⟩ := id hMR
  obtain ⟨hC8, hC1, hC2, hRR⟩ := h.2.2.1
  refine ⟨1, 1, _, _, _, _, ⟨by decide, by decide⟩, ok_as hM1 h6 m k2, mk_as hM2 h6 m k2, ?_, ?_⟩
  · have h' := RelE_fault h 0
    generalize faC σ 0 = σ at h'
    generalize um τ 0 0 0 = τ at h'
    clear hMR hP1 hP2 hM1 hM2 hr1 hr2 hd1 hd2 hop hPR hMO hz hy hC1 hC2 hRR
    obtain ⟨-, -, ⟨hM1, hM2⟩, -, -, -, hPR, hMO, -, -⟩ := h'.1
    unfold R_as Rm_as
    rw [hM1, hM2, rng]
    by_cases hp : isP (nI M) m
    · obtain ⟨k, hk, rfl⟩ := isP_of rfl (by omega) hp
      have hck : (nI k).toNatClampNeg = k := nI_clamp (by omega)
      obtain ⟨a1, -⟩ := hMO k hk
      rw [if_pos hp, if_pos hp, hck, a1]
    · rw [if_neg hp, if_neg hp]
  · have h' := RelE_fault h 0
    generalize faC σ 0 = σ at h' ⊢
    generalize um τ 0 0 0 = τ at h' ⊢
    clear hMR hP1 hP2 hM1 hM2 hr1 hr2 hd1 hd2 hop hPR hMO hz hy hC1 hC2 hRR
    obtain ⟨-, -, ⟨hM1, hM2⟩, -, -, -, hPR, hMO, -, -⟩ := h'.1
    unfold S_as Sm_as
    rw [hM1, hM2, rng]
    by_cases hp : isP (nI M) m
    · obtain ⟨k, hk, rfl⟩ := isP_of rfl (by omega) hp
      have hck : (nI k).toNatClampNeg = k := nI_clamp (by omega)
      obtain ⟨a1, -⟩ := hMO k hk
      rw [if_pos hp, if_pos hp, hck, a1]
      by_cases hv : wiI k2 0 2
      · rw [if_pos hv, if_pos hv]
        by_cases e2 : τ 12 k < k2
        · rw [if_pos e2, if_pos e2]
          exact ⟨P, M, C, RelE_fault h' 2⟩
        · rw [if_neg e2, if_neg e2]
          exact ⟨P, M, C, h'⟩
      · rw [if_neg hv, if_neg hv]
        exact ⟨P, M, C, h'⟩
    · rw [if_neg hp, if_neg hp]
      exact ⟨P, M, C, h'⟩
