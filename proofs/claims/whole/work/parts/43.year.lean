/-! a year -/
def rfI (mo x y : Int32) : Int32 := if y = 9 then (if x < 0 ∨ ¬ x ≤ 9 then -2 else 0) else if ¬ y = 8 ∧ (y < 0 ∨ ¬ y < 4) then -2 else if isP mo x then 0 else -1
def ffR (f : Nat → Int32) : Nat → Int32
  | 0 => 0
  | n + 1 => if ffR f n = 0 then f n else ffR f n
theorem ffR_hit {f : Nat → Int32} {k : Nat} (h : ffR f k = 0) (hk : ¬ f k = 0) : ∀ n, k < n → ffR f n = f k := by
  intro n
  induction n with
  | zero => intro h; omega
  | succ n ih =>
    intro hn
    unfold ffR
    by_cases e : k = n
    · subst e; rw [if_pos h]
    · rw [ih (by omega), if_neg hk]
theorem ffR_all {f : Nat → Int32} : ∀ n, ffR f n = 0 → ∀ k, k < n → f k = 0 := by
  intro n
  induction n with
  | zero => intro _ k h; omega
  | succ n ih =>
    intro h k hk
    unfold ffR at h
    by_cases e : ffR f n = 0
    · rw [if_pos e] at h
      by_cases e2 : k = n
      · subst e2; exact h
      · exact ih e k (by omega)
    · rw [if_neg e] at h; exact absurd h e
def acI (σ : St) (x y : Int32) : Int32 := if y = 9 then b2i (¬ 99 < σ 6 8 0 + x) else if y = 8 then b2i (¬ bitI (σ 6 11 0) x) else b2i (csC σ 6 x.toNatClampNeg y)
def acS (σ : St) (x y : Int32) : St := if y = 9 then (if 99 < σ 6 8 0 + x then σ else up σ 6 8 0 (σ 6 8 0 + x)) else if y = 8 then (if bitI (σ 6 11 0) x then σ else unC σ 6 x.toNatClampNeg (σ 6 4 x.toNatClampNeg).toNatClampNeg) else (if csC σ 6 x.toNatClampNeg y then hoC σ 6 x.toNatClampNeg y.toNatClampNeg (σ 6 4 x.toNatClampNeg).toNatClampNeg else σ)
def yr (σ : St) (X Y : Nat → Int32) : Nat → Int32 × St
  | 0 => (-9, σ)
  | n + 1 => if (yr σ X Y n).1 = -9 then (if acI (yr σ X Y n).2 (X n) (Y n) = 0 then (nI n, (yr σ X Y n).2) else (-9, acS (yr σ X Y n).2 (X n) (Y n))) else yr σ X Y n
theorem yr_stop {σ : St} {X Y : Nat → Int32} {k : Nat} (h : ¬ (yr σ X Y k).1 = -9) : ∀ n, k ≤ n → yr σ X Y n = yr σ X Y k := by
  intro n
  induction n with
  | zero => intro hk; rw [show k = 0 by omega]
  | succ n ih =>
    intro hk
    by_cases e : k = n + 1
    · rw [e]
    · have := ih (by omega)
      rw [show yr σ X Y (n + 1) = (if (yr σ X Y n).1 = -9 then (if acI (yr σ X Y n).2 (X n) (Y n) = 0 then (nI n, (yr σ X Y n).2) else (-9, acS (yr σ X Y n).2 (X n) (Y n))) else yr σ X Y n) from rfl, this, if_neg h]
theorem up_o {σ : St} {o o' k i : Nat} {v : Int32} (h : ¬ o' = o) : up σ o k i v o' = σ o' := by
  funext k' i'; simp [up, h]
theorem upF_o {σ : St} {o o' k : Nat} {g : Nat → Int32} (h : ¬ o' = o) : upF σ o k g o' = σ o' := by
  funext k'; simp [upF, h]
theorem up_k {σ : St} {o k k' i : Nat} {v : Int32} (h : ¬ k' = k) : up σ o k i v o k' = σ o k' := by
  funext i'; simp [up, h]
theorem acS_o {σ : St} {x y : Int32} {o : Nat} (h : ¬ o = 6) : acS σ x y o = σ o := by
  unfold acS unC hoC
  split
  · split
    · rfl
    · rw [up_o h]
  · split
    · split
      · rfl
      · rw [up_o h, up_o h, up_o h]
    · split
      · rw [up_o h, up_o h, up_o h]
      · rfl
theorem acS_9 {σ : St} {x y : Int32} : acS σ x y 6 9 = σ 6 9 := by
  unfold acS unC hoC
  split
  · split
    · rfl
    · rw [up_k (by decide)]
  · split
    · split
      · rfl
      · rw [up_k (by decide), up_k (by decide), up_k (by decide)]
    · split
      · rw [up_k (by decide), up_k (by decide), up_k (by decide)]
      · rfl
theorem rf_in {mo x y : Int32} (h : rfI mo x y = 0) : y = 9 ∨ (isP mo x ∧ (y = 8 ∨ ∃ p, p < 4 ∧ y = nI p)) := by
  unfold rfI at h
  by_cases h9 : y = 9
  · exact Or.inl h9
  · rw [if_neg h9] at h
    by_cases h8 : ¬ y = 8 ∧ (y < 0 ∨ ¬ y < 4)
    · rw [if_pos h8] at h; exact absurd h (by decide)
    · rw [if_neg h8] at h
      by_cases hm : isP mo x
      · refine Or.inr ⟨hm, ?_⟩
        by_cases e : y = 8
        · exact Or.inl e
        · refine Or.inr ?_
          have h0 : ¬ y < 0 := fun q => h8 ⟨e, Or.inl q⟩
          have h4 : y < 4 := Classical.byContradiction (fun q => h8 ⟨e, Or.inr q⟩)
          obtain ⟨p, hp, ep⟩ := nI_of h0
          refine ⟨p, ?_, ep⟩
          rw [ep, show (4 : Int32) = nI 4 by decide, nI_ltI hp (by decide)] at h4
          exact h4
      · rw [if_neg hm] at h; exact absurd h (by decide)
theorem acS_4 {σ : St} {x y : Int32} {M : Nat} (hy : y = 9 ∨ y = 8 ∨ ∃ p, p < 4 ∧ y = nI p) (h : ∀ m, m < M → ∃ q, q < 4 ∧ σ 6 4 m = nI q) : ∀ m, m < M → ∃ q, q < 4 ∧ acS σ x y 6 4 m = nI q := by
  intro m hm
  unfold acS unC hoC
  split
  · split
    · exact h m hm
    · rw [up_k (by decide)]; exact h m hm
  · rename_i n9
    split
    · split
      · exact h m hm
      · rw [up_k (by decide), up_k (by decide), up_k (by decide)]; exact h m hm
    · rename_i n8
      split
      · obtain ⟨p, hp, ep⟩ := (hy.resolve_left n9).resolve_left n8
        by_cases e : m = x.toNatClampNeg
        · refine ⟨p, hp, ?_⟩
          subst e
          rw [up_eq, ep, nI_clamp (by omega)]
        · rw [up_ne (by rintro ⟨-, -, q⟩; exact e q), up_k (by decide), up_k (by decide)]
          exact h m hm
      · exact h m hm
def byC (μ : Sm) (P : Nat) (w : Int32) : Int32 := if w = 0 then μ 8 0 else if w = 2 then μ 11 0 else if w = 3 then jaC μ P else if w < 30 then (if w < 20 then (if isP (μ 9 0) (w - 10) then μ 0 (w - 10).toNatClampNeg else -9) else (if isP (μ 9 0) (w - 20) then μ 1 (w - 20).toNatClampNeg else -9)) else (if isP (μ 10 0) (w - 30) then μ 4 (w - 30).toNatClampNeg else -9)
theorem ix2 (a k : Nat) : nI a + 2 * nI k = nI (a + 2 * k) := by rw [show (2 : Int32) = nI 2 by decide, pk_mul, nI_add]
theorem ix2s (a k : Nat) : nI a + 2 * nI k + 1 = nI (a + 2 * k + 1) := by rw [ix2, nI_1]
def pX (σ : St) (j a k : Nat) : Int32 := σ (1 + j) 0 (a + 2 * k)
def pY (σ : St) (j a k : Nat) : Int32 := σ (1 + j) 0 (a + 2 * k + 1)
theorem nI_ne9 {k : Nat} (h : k < 2 ^ 31) : ¬ nI k = -9 := fun e => nI_pos h (by rw [e]; decide)
theorem acS_no {σ : St} {x y : Int32} (h : acI σ x y = 0) : acS σ x y = σ := by
  unfold acI at h
  unfold acS
  by_cases h9 : y = 9
  · rw [if_pos h9, b2i_eq, Decidable.not_not] at h
    rw [if_pos h9, if_pos h]
  · rw [if_neg h9] at h ⊢
    by_cases h8 : y = 8
    · rw [if_pos h8, b2i_eq, Decidable.not_not] at h
      rw [if_pos h8, if_pos h]
    · rw [if_neg h8, b2i_eq] at h
      rw [if_neg h8, if_neg h]
section
variable {D : va_G} {tc : Tc} {A : Nat → Nat} {σ : St} {M P C N j : Nat}
theorem ok_acts6 (hP : σ 6 9 0 = nI P) (h4 : P ≤ 4) (h6 : M ≤ 6) (hm : ∀ m, m < M → ∃ q, q < 4 ∧ σ 6 4 m = nI q) (x y : Int32) (hv : rfI (nI M) x y = 0) : Ok 4 yX1_acts cX1_acts 3 (some .boolean) D tc [.ref (A (mb 6)), .int x, .int y] (cW A tc σ) (some (.int (acI σ x y))) (cW A tc (acS σ x y)) := by
  rcases rf_in hv with rfl | ⟨hx, hy⟩
  · rw [acI, acS, if_pos rfl, if_pos rfl]; exact ok_acts_sleep dra6 x
  · obtain ⟨k, hk, rfl⟩ := isP_of rfl (by omega) hx
    obtain ⟨q, hq4, hq⟩ := hm k hk
    have hck : (nI k).toNatClampNeg = k := nI_clamp (by omega)
    have hcq : (σ 6 4 k).toNatClampNeg = q := by rw [hq]; exact nI_clamp (by omega)
    rcases hy with rfl | ⟨p, hp, rfl⟩
    · have e1 : acI σ (nI k) 8 = b2i (¬ bitI (σ 6 11 0) (nI k)) := by rw [acI, if_neg (show ¬ (8 : Int32) = 9 by decide), if_pos rfl]
      have e2 : acS σ (nI k) 8 = (if bitI (σ 6 11 0) (nI k) then σ else unC σ 6 k q) := by rw [acS, if_neg (show ¬ (8 : Int32) = 9 by decide), if_pos rfl, hck, hcq]
      rw [e1, e2]; exact ok_acts_open dra6 k q (by omega) hq4 hq
    · have e9 : ¬ nI p = 9 := by rcases (show p = 0 ∨ p = 1 ∨ p = 2 ∨ p = 3 by omega) with rfl | rfl | rfl | rfl <;> decide
      have e8 : ¬ nI p = 8 := by rcases (show p = 0 ∨ p = 1 ∨ p = 2 ∨ p = 3 by omega) with rfl | rfl | rfl | rfl <;> decide
      have hcp : (nI p).toNatClampNeg = p := nI_clamp (by omega)
      have e1 : acI σ (nI k) (nI p) = b2i (csC σ 6 k (nI p)) := by rw [acI, if_neg e9, if_neg e8, hck]
      have e2 : acS σ (nI k) (nI p) = (if csC σ 6 k (nI p) then hoC σ 6 k p q else σ) := by
        rw [acS, if_neg e9, if_neg e8, hck, hcq]
        by_cases hc : csC σ 6 k (nI p)
        · rw [if_pos hc, if_pos hc, hcp]
        · rw [if_neg hc, if_neg hc]
      rw [e1, e2]; exact ok_acts_sell dra6 hP h4 k p q (by omega) hp hq4 hq
set_option maxRecDepth 100000 in
set_option maxHeartbeats 4000000 in
theorem ok_refusalOfPairs (hj : j < 4) (a : Nat) (hb : a + 2 * N ≤ 60) : Ok 1 yX5_refusalOfPairs cX5_refusalOfPairs 7 (some .int) D tc [.ref (A 0), .ref (A (sb j)), .int (nI a), .int (nI N)] (cW A tc σ) (some (.int (ffR (fun k => rfI (σ 5 10 0) (pX σ j a k) (pY σ j a k)) N))) (cW A tc σ) := by
  refine Ok_of RX5 rfl (by decide) [some (.ref (A 0)), some (.ref (A (sb j))), some (.int (nI a)), some (.int (nI N)), none, none, none] rfl (Nat.le_of_ble_eq_true rfl) ?_
  intro X hX
  have lpS : ∀ k, k < N → (fun k => ffR (fun k => rfI (σ 5 10 0) (pX σ j a k) (pY σ j a k)) k = 0) k → ((fun k => ffR (fun k => rfI (σ 5 10 0) (pX σ j a k) (pY σ j a k)) k = 0) (k + 1) → V X D tc cX5_refusalOfPairs RX5 7 3 ((fun k => [some (.ref (A 0)), some (.ref (A (sb j))), some (.int (nI a)), some (.int (nI N)), some (.int (nI k)), none, none]) (k + 1)) [] ((fun k => cW A tc σ) (k + 1))) → V X D tc cX5_refusalOfPairs RX5 7 3 ((fun k => [some (.ref (A 0)), some (.ref (A (sb j))), some (.int (nI a)), some (.int (nI N)), some (.int (nI k)), none, none]) k) [] ((fun k => cW A tc σ) k) := by
    intro k hk invlp ihlp
    try dsimp only at invlp
    refine V_ild4 dX5_refusalOfPairs_3 ?_
    refine V_ild3 dX5_refusalOfPairs_5 ?_
    refine V_icmp_ge 100 dX5_refusalOfPairs_6 (by decide) (fun c6 => ?_) (fun c6 => ?_)
    · exact absurd c6 (nI_ge hk (by omega))
    · refine V_ald1 dX5_refusalOfPairs_9 ?_
      refine V_get lf_X5_221 dX5_refusalOfPairs_10 (cW_sh hj) rfl ?_
      refine V_ild2 dX5_refusalOfPairs_13 ?_
      refine V_iconst 2 dX5_refusalOfPairs_14 (by decide) ?_
      refine V_ild4 dX5_refusalOfPairs_15 ?_
      refine V_imul dX5_refusalOfPairs_17 ?_
      refine V_iadd dX5_refusalOfPairs_18 ?_
      refine V_top (y := nI (a + 2 * k)) (ix2 a k) ?_
      refine V_ialdk dX5_refusalOfPairs_19 (cW_sha hj) ⟨by omega, by decide⟩ ?_
      refine V_top (y := pX σ j a k) rfl ?_
      refine V_ist5 dX5_refusalOfPairs_20 rfl (by decide) ?_
      refine V_ald1 dX5_refusalOfPairs_22 ?_
      refine V_get lf_X5_221 dX5_refusalOfPairs_23 (cW_sh hj) rfl ?_
      refine V_ild2 dX5_refusalOfPairs_26 ?_
      refine V_iconst 2 dX5_refusalOfPairs_27 (by decide) ?_
      refine V_ild4 dX5_refusalOfPairs_28 ?_
      refine V_imul dX5_refusalOfPairs_30 ?_
      refine V_iadd dX5_refusalOfPairs_31 ?_
      refine V_iconst 1 dX5_refusalOfPairs_32 (by decide) ?_
      refine V_iadd dX5_refusalOfPairs_33 ?_
      refine V_top (y := nI (a + 2 * k + 1)) (ix2s a k) ?_
      refine V_ialdk dX5_refusalOfPairs_34 (cW_sha hj) ⟨by omega, by decide⟩ ?_
      refine V_top (y := pY σ j a k) rfl ?_
      refine V_ist6 dX5_refusalOfPairs_35 rfl (by decide) ?_
      refine V_ild6 dX5_refusalOfPairs_37 ?_
      refine V_bipush 9 dX5_refusalOfPairs_39 (by decide) ?_
      refine V_icmp_ne 59 dX5_refusalOfPairs_41 (by decide) (fun c41 => ?_) (fun c41 => ?_)
      · refine V_ild6 dX5_refusalOfPairs_59 ?_
        refine V_bipush 8 dX5_refusalOfPairs_61 (by decide) ?_
        refine V_icmp_eq 80 dX5_refusalOfPairs_63 (by decide) (fun c63 => ?_) (fun c63 => ?_)
        · refine V_ald0 dX5_refusalOfPairs_80 ?_
          refine V_get lf_X5_20 dX5_refusalOfPairs_81 cW_main rfl ?_
          refine V_ild5 dX5_refusalOfPairs_84 ?_
          refine V_callV lm_X5_93 (ok_isMorning now5 _) dX5_refusalOfPairs_86 (cW_mkt now5) rfl (dep hX (by decide)) rfl (Nat.le_of_ble_eq_true rfl) ?_
          refine V_if_ne 94 dX5_refusalOfPairs_89 (by decide) (fun c89 => ?_) (fun c89 => ?_)
          · try rw [b2i_ne] at c89
            try rw [Decidable.not_not] at c89
            refine V_inc4 (nI (k + 1)) dX5_refusalOfPairs_94 (nI_inc k) rfl (by decide) ?_
            refine V_goto 3 dX5_refusalOfPairs_97 (by decide) ?_
            refine V_dr5 ?_
            refine V_dr6 ?_
            refine ihlp ?_
            show ffR _ (k + 1) = 0
            unfold ffR
            rw [if_pos invlp]
            show rfI _ _ _ = 0
            unfold rfI
            (try first | replace c6 := eq_false c6 | replace c6 := eq_true c6); (try first | replace c41 := eq_false c41 | replace c41 := eq_true c41); (try first | replace c63 := eq_false c63 | replace c63 := eq_true c63); (try first | replace c89 := eq_false c89 | replace c89 := eq_true c89);
            simp only [c6, c41, c63, c89, not_true_eq_false, not_false_eq_true, and_self, true_and, and_true, false_and, and_false, true_or, or_true, false_or, or_false, or_self, ↓reduceIte]
          · try rw [b2i_eq] at c89
            try rw [Decidable.not_not] at c89
            refine V_iconst (-1) dX5_refusalOfPairs_92 (by decide) ?_
            exact V_iret hX dX5_refusalOfPairs_93 rfl (by rw [ffR_hit (f := (fun k => rfI (σ 5 10 0) (pX σ j a k) (pY σ j a k))) invlp (by show ¬ rfI _ _ _ = 0; unfold rfI; (try first | replace c6 := eq_false c6 | replace c6 := eq_true c6); (try first | replace c41 := eq_false c41 | replace c41 := eq_true c41); (try first | replace c63 := eq_false c63 | replace c63 := eq_true c63); (try first | replace c89 := eq_false c89 | replace c89 := eq_true c89); simp only [c6, c41, c63, c89, not_true_eq_false, not_false_eq_true, and_self, true_and, and_true, false_and, and_false, true_or, or_true, false_or, or_false, or_self, ↓reduceIte]; decide) N hk]; show some (Value.int (rfI _ _ _)) = _; unfold rfI; (try first | replace c6 := eq_false c6 | replace c6 := eq_true c6); (try first | replace c41 := eq_false c41 | replace c41 := eq_true c41); (try first | replace c63 := eq_false c63 | replace c63 := eq_true c63); (try first | replace c89 := eq_false c89 | replace c89 := eq_true c89); simp only [c6, c41, c63, c89, not_true_eq_false, not_false_eq_true, and_self, true_and, and_true, false_and, and_false, true_or, or_true, false_or, or_false, or_self, ↓reduceIte]) rfl
        · refine V_ild6 dX5_refusalOfPairs_66 ?_
          refine V_if_lt 77 dX5_refusalOfPairs_68 (by decide) (fun c68 => ?_) (fun c68 => ?_)
          · refine V_bipush (-2) dX5_refusalOfPairs_77 (by decide) ?_
            exact V_iret hX dX5_refusalOfPairs_79 rfl (by rw [ffR_hit (f := (fun k => rfI (σ 5 10 0) (pX σ j a k) (pY σ j a k))) invlp (by show ¬ rfI _ _ _ = 0; unfold rfI; (try first | replace c6 := eq_false c6 | replace c6 := eq_true c6); (try first | replace c41 := eq_false c41 | replace c41 := eq_true c41); (try first | replace c63 := eq_false c63 | replace c63 := eq_true c63); (try first | replace c68 := eq_false c68 | replace c68 := eq_true c68); simp only [c6, c41, c63, c68, not_true_eq_false, not_false_eq_true, and_self, true_and, and_true, false_and, and_false, true_or, or_true, false_or, or_false, or_self, ↓reduceIte]; decide) N hk]; show some (Value.int (rfI _ _ _)) = _; unfold rfI; (try first | replace c6 := eq_false c6 | replace c6 := eq_true c6); (try first | replace c41 := eq_false c41 | replace c41 := eq_true c41); (try first | replace c63 := eq_false c63 | replace c63 := eq_true c63); (try first | replace c68 := eq_false c68 | replace c68 := eq_true c68); simp only [c6, c41, c63, c68, not_true_eq_false, not_false_eq_true, and_self, true_and, and_true, false_and, and_false, true_or, or_true, false_or, or_false, or_self, ↓reduceIte]) rfl
          · refine V_ild6 dX5_refusalOfPairs_71 ?_
            refine V_iconst 4 dX5_refusalOfPairs_73 (by decide) ?_
            refine V_icmp_lt 80 dX5_refusalOfPairs_74 (by decide) (fun c74 => ?_) (fun c74 => ?_)
            · refine V_ald0 dX5_refusalOfPairs_80 ?_
              refine V_get lf_X5_20 dX5_refusalOfPairs_81 cW_main rfl ?_
              refine V_ild5 dX5_refusalOfPairs_84 ?_
              refine V_callV lm_X5_93 (ok_isMorning now5 _) dX5_refusalOfPairs_86 (cW_mkt now5) rfl (dep hX (by decide)) rfl (Nat.le_of_ble_eq_true rfl) ?_
              refine V_if_ne 94 dX5_refusalOfPairs_89 (by decide) (fun c89 => ?_) (fun c89 => ?_)
              · try rw [b2i_ne] at c89
                try rw [Decidable.not_not] at c89
                refine V_inc4 (nI (k + 1)) dX5_refusalOfPairs_94 (nI_inc k) rfl (by decide) ?_
                refine V_goto 3 dX5_refusalOfPairs_97 (by decide) ?_
                refine V_dr5 ?_
                refine V_dr6 ?_
                refine ihlp ?_
                show ffR _ (k + 1) = 0
                unfold ffR
                rw [if_pos invlp]
                show rfI _ _ _ = 0
                unfold rfI
                (try first | replace c6 := eq_false c6 | replace c6 := eq_true c6); (try first | replace c41 := eq_false c41 | replace c41 := eq_true c41); (try first | replace c63 := eq_false c63 | replace c63 := eq_true c63); (try first | replace c68 := eq_false c68 | replace c68 := eq_true c68); (try first | replace c74 := eq_false c74 | replace c74 := eq_true c74); (try first | replace c89 := eq_false c89 | replace c89 := eq_true c89);
                simp only [c6, c41, c63, c68, c74, c89, not_true_eq_false, not_false_eq_true, and_self, true_and, and_true, false_and, and_false, true_or, or_true, false_or, or_false, or_self, ↓reduceIte]
              · try rw [b2i_eq] at c89
                try rw [Decidable.not_not] at c89
                refine V_iconst (-1) dX5_refusalOfPairs_92 (by decide) ?_
                exact V_iret hX dX5_refusalOfPairs_93 rfl (by rw [ffR_hit (f := (fun k => rfI (σ 5 10 0) (pX σ j a k) (pY σ j a k))) invlp (by show ¬ rfI _ _ _ = 0; unfold rfI; (try first | replace c6 := eq_false c6 | replace c6 := eq_true c6); (try first | replace c41 := eq_false c41 | replace c41 := eq_true c41); (try first | replace c63 := eq_false c63 | replace c63 := eq_true c63); (try first | replace c68 := eq_false c68 | replace c68 := eq_true c68); (try first | replace c74 := eq_false c74 | replace c74 := eq_true c74); (try first | replace c89 := eq_false c89 | replace c89 := eq_true c89); simp only [c6, c41, c63, c68, c74, c89, not_true_eq_false, not_false_eq_true, and_self, true_and, and_true, false_and, and_false, true_or, or_true, false_or, or_false, or_self, ↓reduceIte]; decide) N hk]; show some (Value.int (rfI _ _ _)) = _; unfold rfI; (try first | replace c6 := eq_false c6 | replace c6 := eq_true c6); (try first | replace c41 := eq_false c41 | replace c41 := eq_true c41); (try first | replace c63 := eq_false c63 | replace c63 := eq_true c63); (try first | replace c68 := eq_false c68 | replace c68 := eq_true c68); (try first | replace c74 := eq_false c74 | replace c74 := eq_true c74); (try first | replace c89 := eq_false c89 | replace c89 := eq_true c89); simp only [c6, c41, c63, c68, c74, c89, not_true_eq_false, not_false_eq_true, and_self, true_and, and_true, false_and, and_false, true_or, or_true, false_or, or_false, or_self, ↓reduceIte]) rfl
            · refine V_bipush (-2) dX5_refusalOfPairs_77 (by decide) ?_
              exact V_iret hX dX5_refusalOfPairs_79 rfl (by rw [ffR_hit (f := (fun k => rfI (σ 5 10 0) (pX σ j a k) (pY σ j a k))) invlp (by show ¬ rfI _ _ _ = 0; unfold rfI; (try first | replace c6 := eq_false c6 | replace c6 := eq_true c6); (try first | replace c41 := eq_false c41 | replace c41 := eq_true c41); (try first | replace c63 := eq_false c63 | replace c63 := eq_true c63); (try first | replace c68 := eq_false c68 | replace c68 := eq_true c68); (try first | replace c74 := eq_false c74 | replace c74 := eq_true c74); simp only [c6, c41, c63, c68, c74, not_true_eq_false, not_false_eq_true, and_self, true_and, and_true, false_and, and_false, true_or, or_true, false_or, or_false, or_self, ↓reduceIte]; decide) N hk]; show some (Value.int (rfI _ _ _)) = _; unfold rfI; (try first | replace c6 := eq_false c6 | replace c6 := eq_true c6); (try first | replace c41 := eq_false c41 | replace c41 := eq_true c41); (try first | replace c63 := eq_false c63 | replace c63 := eq_true c63); (try first | replace c68 := eq_false c68 | replace c68 := eq_true c68); (try first | replace c74 := eq_false c74 | replace c74 := eq_true c74); simp only [c6, c41, c63, c68, c74, not_true_eq_false, not_false_eq_true, and_self, true_and, and_true, false_and, and_false, true_or, or_true, false_or, or_false, or_self, ↓reduceIte]) rfl
      · refine V_ild5 dX5_refusalOfPairs_44 ?_
        refine V_if_lt 56 dX5_refusalOfPairs_46 (by decide) (fun c46 => ?_) (fun c46 => ?_)
        · refine V_bipush (-2) dX5_refusalOfPairs_56 (by decide) ?_
          exact V_iret hX dX5_refusalOfPairs_58 rfl (by rw [ffR_hit (f := (fun k => rfI (σ 5 10 0) (pX σ j a k) (pY σ j a k))) invlp (by show ¬ rfI _ _ _ = 0; unfold rfI; (try first | replace c6 := eq_false c6 | replace c6 := eq_true c6); (try first | replace c41 := eq_false c41 | replace c41 := eq_true c41); (try first | replace c46 := eq_false c46 | replace c46 := eq_true c46); simp only [c6, c41, c46, not_true_eq_false, not_false_eq_true, and_self, true_and, and_true, false_and, and_false, true_or, or_true, false_or, or_false, or_self, ↓reduceIte]; decide) N hk]; show some (Value.int (rfI _ _ _)) = _; unfold rfI; (try first | replace c6 := eq_false c6 | replace c6 := eq_true c6); (try first | replace c41 := eq_false c41 | replace c41 := eq_true c41); (try first | replace c46 := eq_false c46 | replace c46 := eq_true c46); simp only [c6, c41, c46, not_true_eq_false, not_false_eq_true, and_self, true_and, and_true, false_and, and_false, true_or, or_true, false_or, or_false, or_self, ↓reduceIte]) rfl
        · refine V_ild5 dX5_refusalOfPairs_49 ?_
          refine V_bipush 9 dX5_refusalOfPairs_51 (by decide) ?_
          refine V_icmp_le 94 dX5_refusalOfPairs_53 (by decide) (fun c53 => ?_) (fun c53 => ?_)
          · refine V_inc4 (nI (k + 1)) dX5_refusalOfPairs_94 (nI_inc k) rfl (by decide) ?_
            refine V_goto 3 dX5_refusalOfPairs_97 (by decide) ?_
            refine V_dr5 ?_
            refine V_dr6 ?_
            refine ihlp ?_
            show ffR _ (k + 1) = 0
            unfold ffR
            rw [if_pos invlp]
            show rfI _ _ _ = 0
            unfold rfI
            (try first | replace c6 := eq_false c6 | replace c6 := eq_true c6); (try first | replace c41 := eq_false c41 | replace c41 := eq_true c41); (try first | replace c46 := eq_false c46 | replace c46 := eq_true c46); (try first | replace c53 := eq_false c53 | replace c53 := eq_true c53);
            simp only [c6, c41, c46, c53, not_true_eq_false, not_false_eq_true, and_self, true_and, and_true, false_and, and_false, true_or, or_true, false_or, or_false, or_self, ↓reduceIte]
          · refine V_bipush (-2) dX5_refusalOfPairs_56 (by decide) ?_
            exact V_iret hX dX5_refusalOfPairs_58 rfl (by rw [ffR_hit (f := (fun k => rfI (σ 5 10 0) (pX σ j a k) (pY σ j a k))) invlp (by show ¬ rfI _ _ _ = 0; unfold rfI; (try first | replace c6 := eq_false c6 | replace c6 := eq_true c6); (try first | replace c41 := eq_false c41 | replace c41 := eq_true c41); (try first | replace c46 := eq_false c46 | replace c46 := eq_true c46); (try first | replace c53 := eq_false c53 | replace c53 := eq_true c53); simp only [c6, c41, c46, c53, not_true_eq_false, not_false_eq_true, and_self, true_and, and_true, false_and, and_false, true_or, or_true, false_or, or_false, or_self, ↓reduceIte]; decide) N hk]; show some (Value.int (rfI _ _ _)) = _; unfold rfI; (try first | replace c6 := eq_false c6 | replace c6 := eq_true c6); (try first | replace c41 := eq_false c41 | replace c41 := eq_true c41); (try first | replace c46 := eq_false c46 | replace c46 := eq_true c46); (try first | replace c53 := eq_false c53 | replace c53 := eq_true c53); simp only [c6, c41, c46, c53, not_true_eq_false, not_false_eq_true, and_self, true_and, and_true, false_and, and_false, true_or, or_true, false_or, or_false, or_self, ↓reduceIte]) rfl
  have lpE : (fun k => ffR (fun k => rfI (σ 5 10 0) (pX σ j a k) (pY σ j a k)) k = 0) (N) → V X D tc cX5_refusalOfPairs RX5 7 3 ((fun k => [some (.ref (A 0)), some (.ref (A (sb j))), some (.int (nI a)), some (.int (nI N)), some (.int (nI k)), none, none]) (N)) [] ((fun k => cW A tc σ) (N)) := by
    intro invlp
    try dsimp only at invlp
    refine V_ild4 dX5_refusalOfPairs_3 ?_
    refine V_ild3 dX5_refusalOfPairs_5 ?_
    refine V_icmp_ge 100 dX5_refusalOfPairs_6 (by decide) (fun c6 => ?_) (fun c6 => ?_)
    · refine V_iconst 0 dX5_refusalOfPairs_100 (by decide) ?_
      exact V_iret hX dX5_refusalOfPairs_101 rfl (by rw [invlp]) rfl
    · exact absurd (ge_yes rfl) c6
  have lp := V_forI (fun k => ffR (fun k => rfI (σ 5 10 0) (pX σ j a k) (pY σ j a k)) k = 0) (fun k => [some (.ref (A 0)), some (.ref (A (sb j))), some (.int (nI a)), some (.int (nI N)), some (.int (nI k)), none, none]) (fun k => cW A tc σ) (N) lpS lpE
  refine V_iconst 0 dX5_refusalOfPairs_0 (by decide) ?_
  refine V_ist4 dX5_refusalOfPairs_1 rfl (by decide) ?_
  exact lp 0 (Nat.zero_le _) rfl
set_option maxRecDepth 100000 in
set_option maxHeartbeats 4000000 in
theorem ok_firstWrongIn (hP : σ 6 9 0 = nI P) (h4 : P ≤ 4) (h6 : M ≤ 6) (hm : ∀ m, m < M → ∃ q, q < 4 ∧ σ 6 4 m = nI q) (hj : j < 4) (a : Nat) (hb : a + 2 * N ≤ 60) (hv : ∀ k, k < N → rfI (nI M) (pX σ j a k) (pY σ j a k) = 0) : Ok 5 yX5_firstWrongIn cX5_firstWrongIn 5 (some .int) D tc [.ref (A 0), .ref (A (sb j)), .int (nI a), .int (nI N)] (cW A tc σ) (some (.int (yr σ (pX σ j a) (pY σ j a) N).1)) (cW A tc (yr σ (pX σ j a) (pY σ j a) N).2) := by
  refine Ok_of RX5 rfl (by decide) [some (.ref (A 0)), some (.ref (A (sb j))), some (.int (nI a)), some (.int (nI N)), none] rfl (Nat.le_of_ble_eq_true rfl) ?_
  intro X hX
  have lpS : ∀ k, k < N → (fun k => (yr σ (pX σ j a) (pY σ j a) k).1 = -9 ∧ (yr σ (pX σ j a) (pY σ j a) k).2 6 9 0 = nI P ∧ (∀ m, m < M → ∃ q, q < 4 ∧ (yr σ (pX σ j a) (pY σ j a) k).2 6 4 m = nI q) ∧ (yr σ (pX σ j a) (pY σ j a) k).2 (1 + j) = σ (1 + j)) k → ((fun k => (yr σ (pX σ j a) (pY σ j a) k).1 = -9 ∧ (yr σ (pX σ j a) (pY σ j a) k).2 6 9 0 = nI P ∧ (∀ m, m < M → ∃ q, q < 4 ∧ (yr σ (pX σ j a) (pY σ j a) k).2 6 4 m = nI q) ∧ (yr σ (pX σ j a) (pY σ j a) k).2 (1 + j) = σ (1 + j)) (k + 1) → V X D tc cX5_firstWrongIn RX5 5 3 ((fun k => [some (.ref (A 0)), some (.ref (A (sb j))), some (.int (nI a)), some (.int (nI N)), some (.int (nI k))]) (k + 1)) [] ((fun k => cW A tc (yr σ (pX σ j a) (pY σ j a) k).2) (k + 1))) → V X D tc cX5_firstWrongIn RX5 5 3 ((fun k => [some (.ref (A 0)), some (.ref (A (sb j))), some (.int (nI a)), some (.int (nI N)), some (.int (nI k))]) k) [] ((fun k => cW A tc (yr σ (pX σ j a) (pY σ j a) k).2) k) := by
    intro k hk invlp ihlp
    try dsimp only at invlp
    obtain ⟨i1, i2, i3, i4⟩ := invlp
    have hyk := rf_in (hv k hk)
    refine V_ild4 dX5_firstWrongIn_3 ?_
    refine V_ild3 dX5_firstWrongIn_5 ?_
    refine V_icmp_ge 52 dX5_firstWrongIn_6 (by decide) (fun c6 => ?_) (fun c6 => ?_)
    · exact absurd c6 (nI_ge hk (by omega))
    · refine V_ald0 dX5_firstWrongIn_9 ?_
      refine V_get lf_X5_24 dX5_firstWrongIn_10 cW_main rfl ?_
      refine V_ald1 dX5_firstWrongIn_13 ?_
      refine V_get lf_X5_221 dX5_firstWrongIn_14 (cW_sh hj) rfl ?_
      refine V_ild2 dX5_firstWrongIn_17 ?_
      refine V_iconst 2 dX5_firstWrongIn_18 (by decide) ?_
      refine V_ild4 dX5_firstWrongIn_19 ?_
      refine V_imul dX5_firstWrongIn_21 ?_
      refine V_iadd dX5_firstWrongIn_22 ?_
      refine V_top (y := nI (a + 2 * k)) (ix2 a k) ?_
      refine V_ialdk dX5_firstWrongIn_23 (cW_sha hj) ⟨by omega, by decide⟩ ?_
      refine V_top (y := pX σ j a k) (by rw [i4]; rfl) ?_
      refine V_ald1 dX5_firstWrongIn_24 ?_
      refine V_get lf_X5_221 dX5_firstWrongIn_25 (cW_sh hj) rfl ?_
      refine V_ild2 dX5_firstWrongIn_28 ?_
      refine V_iconst 2 dX5_firstWrongIn_29 (by decide) ?_
      refine V_ild4 dX5_firstWrongIn_30 ?_
      refine V_imul dX5_firstWrongIn_32 ?_
      refine V_iadd dX5_firstWrongIn_33 ?_
      refine V_iconst 1 dX5_firstWrongIn_34 (by decide) ?_
      refine V_iadd dX5_firstWrongIn_35 ?_
      refine V_top (y := nI (a + 2 * k + 1)) (ix2s a k) ?_
      refine V_ialdk dX5_firstWrongIn_36 (cW_sha hj) ⟨by omega, by decide⟩ ?_
      refine V_top (y := pY σ j a k) (by rw [i4]; rfl) ?_
      refine V_callV lm_X5_259 (ok_acts6 i2 h4 h6 i3 _ _ (hv k hk)) dX5_firstWrongIn_37 (cW_mkt dra6) rfl (dep hX (by decide)) rfl (Nat.le_of_ble_eq_true rfl) ?_
      refine V_if_ne 46 dX5_firstWrongIn_40 (by decide) (fun c40 => ?_) (fun c40 => ?_)
      · try rw [b2i_ne] at c40
        try rw [Decidable.not_not] at c40
        refine V_inc4 (nI (k + 1)) dX5_firstWrongIn_46 (nI_inc k) rfl (by decide) ?_
        refine V_goto 3 dX5_firstWrongIn_49 (by decide) ?_
        have e : yr σ (pX σ j a) (pY σ j a) (k + 1) = (-9, acS (yr σ (pX σ j a) (pY σ j a) k).2 (pX σ j a k) (pY σ j a k)) := by
          show (if (yr σ (pX σ j a) (pY σ j a) k).1 = -9 then _ else _) = _
          rw [if_pos i1, if_neg c40]
        refine V_eq rfl rfl (by show cW A tc _ = cW A tc (yr σ (pX σ j a) (pY σ j a) (k + 1)).2; rw [e]) (ihlp ?_)
        dsimp only
        rw [e]
        refine ⟨rfl, ?_, ?_, ?_⟩
        · show acS _ _ _ 6 9 0 = _
          rw [acS_9]; exact i2
        · exact acS_4 (hyk.elim Or.inl (fun h => Or.inr h.2)) i3
        · show acS _ _ _ (1 + j) = _
          rw [acS_o (by omega)]; exact i4
      · try rw [b2i_eq] at c40
        try rw [Decidable.not_not] at c40
        refine V_ild4 dX5_firstWrongIn_43 ?_
        exact V_iret hX dX5_firstWrongIn_45 rfl (by rw [yr_stop (k := k + 1) (by rw [show yr σ (pX σ j a) (pY σ j a) (k + 1) = (nI k, (yr σ (pX σ j a) (pY σ j a) k).2) from (if_pos i1).trans (if_pos c40)]; exact nI_ne9 (by omega)) N (by omega), show yr σ (pX σ j a) (pY σ j a) (k + 1) = (nI k, (yr σ (pX σ j a) (pY σ j a) k).2) from (if_pos i1).trans (if_pos c40)]) (congrArg (cW A tc) (by rw [yr_stop (k := k + 1) (by rw [show yr σ (pX σ j a) (pY σ j a) (k + 1) = (nI k, (yr σ (pX σ j a) (pY σ j a) k).2) from (if_pos i1).trans (if_pos c40)]; exact nI_ne9 (by omega)) N (by omega), show yr σ (pX σ j a) (pY σ j a) (k + 1) = (nI k, (yr σ (pX σ j a) (pY σ j a) k).2) from (if_pos i1).trans (if_pos c40)]; exact (acS_no c40).symm))
  have lpE : (fun k => (yr σ (pX σ j a) (pY σ j a) k).1 = -9 ∧ (yr σ (pX σ j a) (pY σ j a) k).2 6 9 0 = nI P ∧ (∀ m, m < M → ∃ q, q < 4 ∧ (yr σ (pX σ j a) (pY σ j a) k).2 6 4 m = nI q) ∧ (yr σ (pX σ j a) (pY σ j a) k).2 (1 + j) = σ (1 + j)) (N) → V X D tc cX5_firstWrongIn RX5 5 3 ((fun k => [some (.ref (A 0)), some (.ref (A (sb j))), some (.int (nI a)), some (.int (nI N)), some (.int (nI k))]) (N)) [] ((fun k => cW A tc (yr σ (pX σ j a) (pY σ j a) k).2) (N)) := by
    intro invlp
    try dsimp only at invlp
    refine V_ild4 dX5_firstWrongIn_3 ?_
    refine V_ild3 dX5_firstWrongIn_5 ?_
    refine V_icmp_ge 52 dX5_firstWrongIn_6 (by decide) (fun c6 => ?_) (fun c6 => ?_)
    · refine V_bipush (-9) dX5_firstWrongIn_52 (by decide) ?_
      exact V_iret hX dX5_firstWrongIn_54 rfl (by rw [invlp.1]) rfl
    · exact absurd (ge_yes rfl) c6
  have lp := V_forI (fun k => (yr σ (pX σ j a) (pY σ j a) k).1 = -9 ∧ (yr σ (pX σ j a) (pY σ j a) k).2 6 9 0 = nI P ∧ (∀ m, m < M → ∃ q, q < 4 ∧ (yr σ (pX σ j a) (pY σ j a) k).2 6 4 m = nI q) ∧ (yr σ (pX σ j a) (pY σ j a) k).2 (1 + j) = σ (1 + j)) (fun k => [some (.ref (A 0)), some (.ref (A (sb j))), some (.int (nI a)), some (.int (nI N)), some (.int (nI k))]) (fun k => cW A tc (yr σ (pX σ j a) (pY σ j a) k).2) (N) lpS lpE
  refine V_iconst 0 dX5_firstWrongIn_0 (by decide) ?_
  refine V_ist4 dX5_firstWrongIn_1 rfl (by decide) ?_
  exact lp 0 (Nat.zero_le _) ⟨rfl, hP, hm, rfl⟩
set_option maxRecDepth 100000 in
set_option maxHeartbeats 4000000 in
theorem ok_behindYear (hP : σ 6 9 0 = nI P) (h4 : P ≤ 4) (hM : σ 6 10 0 = nI M) (h6 : M ≤ 6) (w : Int32) : Ok 1 yX5_behindYear cX5_behindYear 2 (some .int) D tc [.ref (A 0), .int w] (cW A tc σ) (some (.int (byC (σ 6) P w))) (cW A tc σ) := by
  refine Ok_of RX5 rfl (by decide) [some (.ref (A 0)), some (.int w)] rfl (Nat.le_of_ble_eq_true rfl) ?_
  intro X hX
  refine V_ild1 dX5_behindYear_0 ?_
  refine V_if_ne 12 dX5_behindYear_1 (by decide) (fun c1 => ?_) (fun c1 => ?_)
  · refine V_ild1 dX5_behindYear_12 ?_
    refine V_iconst 2 dX5_behindYear_13 (by decide) ?_
    refine V_icmp_ne 25 dX5_behindYear_14 (by decide) (fun c14 => ?_) (fun c14 => ?_)
    · refine V_ild1 dX5_behindYear_25 ?_
      refine V_iconst 3 dX5_behindYear_26 (by decide) ?_
      refine V_icmp_ne 38 dX5_behindYear_27 (by decide) (fun c27 => ?_) (fun c27 => ?_)
      · refine V_ild1 dX5_behindYear_38 ?_
        refine V_bipush 30 dX5_behindYear_39 (by decide) ?_
        refine V_icmp_lt 76 dX5_behindYear_41 (by decide) (fun c41 => ?_) (fun c41 => ?_)
        · refine V_ild1 dX5_behindYear_76 ?_
          refine V_bipush 20 dX5_behindYear_77 (by decide) ?_
          refine V_icmp_lt 114 dX5_behindYear_79 (by decide) (fun c79 => ?_) (fun c79 => ?_)
          · refine V_ald0 dX5_behindYear_114 ?_
            refine V_get lf_X5_24 dX5_behindYear_115 cW_main rfl ?_
            refine V_ild1 dX5_behindYear_118 ?_
            refine V_bipush 10 dX5_behindYear_119 (by decide) ?_
            refine V_isub dX5_behindYear_121 ?_
            refine V_callV lm_X5_112 (ok_isPerson dra6 _) dX5_behindYear_122 (cW_mkt dra6) rfl (dep hX (by decide)) rfl (Nat.le_of_ble_eq_true rfl) ?_
            refine V_if_eq 143 dX5_behindYear_125 (by decide) (fun c125 => ?_) (fun c125 => ?_)
            · try rw [b2i_eq] at c125
              try rw [Decidable.not_not] at c125
              refine V_bipush (-9) dX5_behindYear_143 (by decide) ?_
              exact V_iret hX dX5_behindYear_145 rfl (by (try first | replace c1 := eq_false c1 | replace c1 := eq_true c1); (try first | replace c14 := eq_false c14 | replace c14 := eq_true c14); (try first | replace c27 := eq_false c27 | replace c27 := eq_true c27); (try first | replace c41 := eq_false c41 | replace c41 := eq_true c41); (try first | replace c79 := eq_false c79 | replace c79 := eq_true c79); (try first | replace c125 := eq_false c125 | replace c125 := eq_true c125); first | simp only [byC, hck, c1, c14, c27, c41, c79, c125, not_true_eq_false, not_false_eq_true, and_self, true_and, and_true, false_and, and_false, true_or, or_true, false_or, or_false, or_self, ↓reduceIte] | simp only [byC, c1, c14, c27, c41, c79, c125, not_true_eq_false, not_false_eq_true, and_self, true_and, and_true, false_and, and_false, true_or, or_true, false_or, or_false, or_self, ↓reduceIte]) rfl
            · try rw [b2i_ne] at c125
              try rw [Decidable.not_not] at c125
              obtain ⟨k, hk, ek⟩ := isP_of hP (by omega) c125
              have hck : (w - 10).toNatClampNeg = k := by rw [ek]; exact nI_clamp (by omega)
              refine V_ald0 dX5_behindYear_128 ?_
              refine V_get lf_X5_24 dX5_behindYear_129 cW_main rfl ?_
              refine V_get lf_X5_115 dX5_behindYear_132 (cW_mkt dra6) rfl ?_
              refine V_ild1 dX5_behindYear_135 ?_
              refine V_bipush 10 dX5_behindYear_136 (by decide) ?_
              refine V_isub dX5_behindYear_138 ?_
              refine V_top (y := nI k) ek ?_
              refine V_ialdk dX5_behindYear_139 (cW_ma0 dra6) ⟨by omega, by decide⟩ ?_
              refine V_goto 145 dX5_behindYear_140 (by decide) ?_
              exact V_iret hX dX5_behindYear_145 rfl (by (try first | replace c1 := eq_false c1 | replace c1 := eq_true c1); (try first | replace c14 := eq_false c14 | replace c14 := eq_true c14); (try first | replace c27 := eq_false c27 | replace c27 := eq_true c27); (try first | replace c41 := eq_false c41 | replace c41 := eq_true c41); (try first | replace c79 := eq_false c79 | replace c79 := eq_true c79); (try first | replace c125 := eq_false c125 | replace c125 := eq_true c125); first | simp only [byC, hck, c1, c14, c27, c41, c79, c125, not_true_eq_false, not_false_eq_true, and_self, true_and, and_true, false_and, and_false, true_or, or_true, false_or, or_false, or_self, ↓reduceIte] | simp only [byC, c1, c14, c27, c41, c79, c125, not_true_eq_false, not_false_eq_true, and_self, true_and, and_true, false_and, and_false, true_or, or_true, false_or, or_false, or_self, ↓reduceIte]) rfl
          · refine V_ald0 dX5_behindYear_82 ?_
            refine V_get lf_X5_24 dX5_behindYear_83 cW_main rfl ?_
            refine V_ild1 dX5_behindYear_86 ?_
            refine V_bipush 20 dX5_behindYear_87 (by decide) ?_
            refine V_isub dX5_behindYear_89 ?_
            refine V_callV lm_X5_112 (ok_isPerson dra6 _) dX5_behindYear_90 (cW_mkt dra6) rfl (dep hX (by decide)) rfl (Nat.le_of_ble_eq_true rfl) ?_
            refine V_if_eq 111 dX5_behindYear_93 (by decide) (fun c93 => ?_) (fun c93 => ?_)
            · try rw [b2i_eq] at c93
              try rw [Decidable.not_not] at c93
              refine V_bipush (-9) dX5_behindYear_111 (by decide) ?_
              exact V_iret hX dX5_behindYear_113 rfl (by (try first | replace c1 := eq_false c1 | replace c1 := eq_true c1); (try first | replace c14 := eq_false c14 | replace c14 := eq_true c14); (try first | replace c27 := eq_false c27 | replace c27 := eq_true c27); (try first | replace c41 := eq_false c41 | replace c41 := eq_true c41); (try first | replace c79 := eq_false c79 | replace c79 := eq_true c79); (try first | replace c93 := eq_false c93 | replace c93 := eq_true c93); first | simp only [byC, hck, c1, c14, c27, c41, c79, c93, not_true_eq_false, not_false_eq_true, and_self, true_and, and_true, false_and, and_false, true_or, or_true, false_or, or_false, or_self, ↓reduceIte] | simp only [byC, c1, c14, c27, c41, c79, c93, not_true_eq_false, not_false_eq_true, and_self, true_and, and_true, false_and, and_false, true_or, or_true, false_or, or_false, or_self, ↓reduceIte]) rfl
            · try rw [b2i_ne] at c93
              try rw [Decidable.not_not] at c93
              obtain ⟨k, hk, ek⟩ := isP_of hP (by omega) c93
              have hck : (w - 20).toNatClampNeg = k := by rw [ek]; exact nI_clamp (by omega)
              refine V_ald0 dX5_behindYear_96 ?_
              refine V_get lf_X5_24 dX5_behindYear_97 cW_main rfl ?_
              refine V_get lf_X5_118 dX5_behindYear_100 (cW_mkt dra6) rfl ?_
              refine V_ild1 dX5_behindYear_103 ?_
              refine V_bipush 20 dX5_behindYear_104 (by decide) ?_
              refine V_isub dX5_behindYear_106 ?_
              refine V_top (y := nI k) ek ?_
              refine V_ialdk dX5_behindYear_107 (cW_ma1 dra6) ⟨by omega, by decide⟩ ?_
              refine V_goto 113 dX5_behindYear_108 (by decide) ?_
              exact V_iret hX dX5_behindYear_113 rfl (by (try first | replace c1 := eq_false c1 | replace c1 := eq_true c1); (try first | replace c14 := eq_false c14 | replace c14 := eq_true c14); (try first | replace c27 := eq_false c27 | replace c27 := eq_true c27); (try first | replace c41 := eq_false c41 | replace c41 := eq_true c41); (try first | replace c79 := eq_false c79 | replace c79 := eq_true c79); (try first | replace c93 := eq_false c93 | replace c93 := eq_true c93); first | simp only [byC, hck, c1, c14, c27, c41, c79, c93, not_true_eq_false, not_false_eq_true, and_self, true_and, and_true, false_and, and_false, true_or, or_true, false_or, or_false, or_self, ↓reduceIte] | simp only [byC, c1, c14, c27, c41, c79, c93, not_true_eq_false, not_false_eq_true, and_self, true_and, and_true, false_and, and_false, true_or, or_true, false_or, or_false, or_self, ↓reduceIte]) rfl
        · refine V_ald0 dX5_behindYear_44 ?_
          refine V_get lf_X5_24 dX5_behindYear_45 cW_main rfl ?_
          refine V_ild1 dX5_behindYear_48 ?_
          refine V_bipush 30 dX5_behindYear_49 (by decide) ?_
          refine V_isub dX5_behindYear_51 ?_
          refine V_callV lm_X5_93 (ok_isMorning dra6 _) dX5_behindYear_52 (cW_mkt dra6) rfl (dep hX (by decide)) rfl (Nat.le_of_ble_eq_true rfl) ?_
          refine V_if_eq 73 dX5_behindYear_55 (by decide) (fun c55 => ?_) (fun c55 => ?_)
          · try rw [b2i_eq] at c55
            try rw [Decidable.not_not] at c55
            refine V_bipush (-9) dX5_behindYear_73 (by decide) ?_
            exact V_iret hX dX5_behindYear_75 rfl (by (try first | replace c1 := eq_false c1 | replace c1 := eq_true c1); (try first | replace c14 := eq_false c14 | replace c14 := eq_true c14); (try first | replace c27 := eq_false c27 | replace c27 := eq_true c27); (try first | replace c41 := eq_false c41 | replace c41 := eq_true c41); (try first | replace c55 := eq_false c55 | replace c55 := eq_true c55); first | simp only [byC, hck, c1, c14, c27, c41, c55, not_true_eq_false, not_false_eq_true, and_self, true_and, and_true, false_and, and_false, true_or, or_true, false_or, or_false, or_self, ↓reduceIte] | simp only [byC, c1, c14, c27, c41, c55, not_true_eq_false, not_false_eq_true, and_self, true_and, and_true, false_and, and_false, true_or, or_true, false_or, or_false, or_self, ↓reduceIte]) rfl
          · try rw [b2i_ne] at c55
            try rw [Decidable.not_not] at c55
            obtain ⟨k, hk, ek⟩ := isP_of hM (by omega) c55
            have hck : (w - 30).toNatClampNeg = k := by rw [ek]; exact nI_clamp (by omega)
            refine V_ald0 dX5_behindYear_58 ?_
            refine V_get lf_X5_24 dX5_behindYear_59 cW_main rfl ?_
            refine V_get lf_X5_100 dX5_behindYear_62 (cW_mkt dra6) rfl ?_
            refine V_ild1 dX5_behindYear_65 ?_
            refine V_bipush 30 dX5_behindYear_66 (by decide) ?_
            refine V_isub dX5_behindYear_68 ?_
            refine V_top (y := nI k) ek ?_
            refine V_ialdk dX5_behindYear_69 (cW_ma4 dra6) ⟨by omega, by decide⟩ ?_
            refine V_goto 75 dX5_behindYear_70 (by decide) ?_
            exact V_iret hX dX5_behindYear_75 rfl (by (try first | replace c1 := eq_false c1 | replace c1 := eq_true c1); (try first | replace c14 := eq_false c14 | replace c14 := eq_true c14); (try first | replace c27 := eq_false c27 | replace c27 := eq_true c27); (try first | replace c41 := eq_false c41 | replace c41 := eq_true c41); (try first | replace c55 := eq_false c55 | replace c55 := eq_true c55); first | simp only [byC, hck, c1, c14, c27, c41, c55, not_true_eq_false, not_false_eq_true, and_self, true_and, and_true, false_and, and_false, true_or, or_true, false_or, or_false, or_self, ↓reduceIte] | simp only [byC, c1, c14, c27, c41, c55, not_true_eq_false, not_false_eq_true, and_self, true_and, and_true, false_and, and_false, true_or, or_true, false_or, or_false, or_self, ↓reduceIte]) rfl
      · refine V_ald0 dX5_behindYear_30 ?_
        refine V_get lf_X5_24 dX5_behindYear_31 cW_main rfl ?_
        refine V_callV lm_X5_265 (ok_joyOfAll dra6 hP h4) dX5_behindYear_34 (cW_mkt dra6) rfl (dep hX (by decide)) rfl (Nat.le_of_ble_eq_true rfl) ?_
        exact V_iret hX dX5_behindYear_37 rfl (by (try first | replace c1 := eq_false c1 | replace c1 := eq_true c1); (try first | replace c14 := eq_false c14 | replace c14 := eq_true c14); (try first | replace c27 := eq_false c27 | replace c27 := eq_true c27); simp only [byC, c1, c14, c27, not_true_eq_false, not_false_eq_true, and_self, true_and, and_true, false_and, and_false, true_or, or_true, false_or, or_false, or_self, ↓reduceIte]) rfl
    · refine V_ald0 dX5_behindYear_17 ?_
      refine V_get lf_X5_24 dX5_behindYear_18 cW_main rfl ?_
      refine V_get lf_X5_262 dX5_behindYear_21 (cW_mkt dra6) rfl ?_
      exact V_iret hX dX5_behindYear_24 rfl (by (try first | replace c1 := eq_false c1 | replace c1 := eq_true c1); (try first | replace c14 := eq_false c14 | replace c14 := eq_true c14); simp only [byC, c1, c14, not_true_eq_false, not_false_eq_true, and_self, true_and, and_true, false_and, and_false, true_or, or_true, false_or, or_false, or_self, ↓reduceIte]) rfl
  · refine V_ald0 dX5_behindYear_4 ?_
    refine V_get lf_X5_24 dX5_behindYear_5 cW_main rfl ?_
    refine V_get lf_X5_157 dX5_behindYear_8 (cW_mkt dra6) rfl ?_
    exact V_iret hX dX5_behindYear_11 rfl (by (try first | replace c1 := eq_false c1 | replace c1 := eq_true c1); simp only [byC, c1, not_true_eq_false, not_false_eq_true, and_self, true_and, and_true, false_and, and_false, true_or, or_true, false_or, or_false, or_self, ↓reduceIte]) rfl
end
