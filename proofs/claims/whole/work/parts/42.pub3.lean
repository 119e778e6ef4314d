def gxC (μ : Sm) (M a b : Nat) : Int32 := geC μ M a b (μ 4 a).toNatClampNeg (μ 4 b).toNatClampNeg
def swI (μ : Sm) (M a : Nat) (t0 : T3) : Nat → T3
  | 0 => t0
  | k + 1 => if gxC μ M a (a + 1 + k) ≤ (swI μ M a t0 k).1 then swI μ M a t0 k else (gxC μ M a (a + 1 + k), nI a, nI (a + 1 + k))
def swO (μ : Sm) (M : Nat) : Nat → T3
  | 0 => (0, -9, -9)
  | a + 1 => swI μ M a (swO μ M a) (M - (a + 1))
def R_swap (σ : St) (M : Nat) (w : Int32) : Int32 := if w < 0 ∨ ¬ w ≤ 2 then -2 else if 0 < σ 5 9 0 then (if (swO (σ 5) M M).1 = 0 then -9 else if w = 0 then (swO (σ 5) M M).1 else if w = 1 then (swO (σ 5) M M).2.1 else (swO (σ 5) M M).2.2) else -3
def odL (th : Int32) : Nat → Nat
  | 0 => 0
  | k + 1 => if nI k &&& (th ^^^ (-1)) = 0 then odL th k + 1 else odL th k
def odU (μ : Sm) (M p : Nat) (v th : Int32) : Nat → Nat
  | 0 => 0
  | k + 1 => if nI k &&& (th ^^^ (-1)) = 0 ∧ ¬ feC μ p (nI k) M < v then odU μ M p v th k + 1 else odU μ M p v th k
theorem odL_le (th : Int32) : ∀ k, odL th k ≤ k := by
  intro k
  induction k with
  | zero => exact Nat.le_refl _
  | succ k ih => unfold odL; split <;> omega
theorem odU_le (μ : Sm) (M p : Nat) (v th : Int32) : ∀ k, odU μ M p v th k ≤ k := by
  intro k
  induction k with
  | zero => exact Nat.le_refl _
  | succ k ih => unfold odU; split <;> omega
def rdN : Nat → Nat → Nat → Nat × Nat
  | 0, u, l => (u, l)
  | f + 1, u, l => if u % 2 = 0 ∧ l % 2 = 0 then rdN f (u / 2) (l / 2) else (u, l)
def odR (w : Int32) (t : Nat × Nat) : Int64 := if w = 0 then (nI t.1).toInt64 else (nI t.2).toInt64
def R_odds (σ : St) (M : Nat) (p v w : Int32) : Int64 := if isP (σ 5 9 0) p then (if v < 0 ∨ 99 < v ∨ w < 0 ∨ ¬ w ≤ 1 then -9223372036854775808 else odR w (rdN 6 (odU (σ 5) M p.toNatClampNeg v (clC (σ 5) p M) 64) (odL (clC (σ 5) p M) 64))) else -9223372036854775808
theorem rem2 {u : Nat} (hu : u < 2 ^ 31) : nI u - nI u / 2 * 2 = 0 ↔ u % 2 = 0 := by
  rw [show (2 : Int32) = nI 2 by decide, pk_rem hu (by decide) (by decide), show (0 : Int32) = nI 0 by decide, nI_eq (by omega) (by decide)]
theorem div2 {u : Nat} (hu : u < 2 ^ 31) : nI u / 2 = nI (u / 2) := by rw [show (2 : Int32) = nI 2 by decide, pk_div hu (by decide) (by decide)]
/-- where keeping ends -/
def kpT (σ : St) (M p N : Nat) : Nat → Int32 := woC (σ 5) M p (clC (σ 5) (nI p) M) (σ 8 0) N
def kpF (σ : St) (M p N : Nat) : Int32 × Int32 := fbC (kpT σ M p N) N (clC (σ 5) (nI p) M) (σ 8 2 0) (rwN N (clC (σ 5) (nI p) M) 6)
def kpS (σ : St) (M p N : Nat) : St := up (up (upF σ 8 0 (kpT σ M p N)) 8 1 0 (kpF σ M p N).1) 8 2 0 (kpF σ M p N).2
def R_keep (σ : St) (M : Nat) (p n k : Int32) : Int32 := if isP (σ 5 9 0) p then (if n < 1 ∨ 3 < n ∨ k < -1 ∨ ¬ k < 6 then -2 else if k = -1 then (kpF σ M p.toNatClampNeg n.toNatClampNeg).1 else doC (kpF σ M p.toNatClampNeg n.toNatClampNeg).2 k) else -1
def S_keep (σ : St) (M : Nat) (p n k : Int32) : St := if isP (σ 5 9 0) p then (if n < 1 ∨ 3 < n ∨ k < -1 ∨ ¬ k < 6 then σ else kpS σ M p.toNatClampNeg n.toNatClampNeg) else σ
theorem n13 {n : Int32} (h1 : ¬ n < 1) (h3 : ¬ 3 < n) : ∃ N, 1 ≤ N ∧ N ≤ 3 ∧ n = nI N := by
  have e1 : (1 : Int32).toInt = 1 := by decide
  have e3 : (3 : Int32).toInt = 3 := by decide
  have e0 : (0 : Int32).toInt = 0 := by decide
  rw [Int32.lt_iff_toInt_lt, e1] at h1
  rw [Int32.lt_iff_toInt_lt, e3] at h3
  obtain ⟨N, hN, e⟩ := nI_of (x := n) (by rw [Int32.lt_iff_toInt_lt, e0]; omega)
  have := nI_toInt hN
  rw [e, this] at h1 h3
  exact ⟨N, by omega, by omega, e⟩
section
variable {D : va_G} {tc : Tc} {A : Nat → Nat} {σ : St} {M P C N : Nat}
def swR (w : Int32) (t : T3) : Int32 := if t.1 = 0 then -9 else if w = 0 then t.1 else if w = 1 then t.2.1 else t.2.2
set_option maxRecDepth 100000 in
set_option maxHeartbeats 4000000 in
theorem lo_swap (hM : σ 5 10 0 = nI M) (h6 : M ≤ 6) (hw : ∀ m, m < M → ∃ q, q < 4 ∧ σ 5 4 m = nI q) {X : Cx} {w R : Int32} (hR : swR w (swO (σ 5) M M) = R) (hX : Aim X D (some .int) 5 (some (.int R)) (cW A tc σ)) : V X D tc cX5_swap RX5 8 37 [some (.ref (A 0)), some (.int w), some (.int 0), some (.int (-9)), some (.int (-9)), some (.int 0), none, none] [] (cW A tc σ) := by
  have lpS : ∀ a, a < M → V X D tc cX5_swap RX5 8 37 ((fun a => [some (.ref (A 0)), some (.int w), some (.int (swO (σ 5) M a).1), some (.int (swO (σ 5) M a).2.1), some (.int (swO (σ 5) M a).2.2), some (.int (nI a)), none, none]) (a + 1)) [] ((fun a => cW A tc σ) (a + 1)) → V X D tc cX5_swap RX5 8 37 ((fun a => [some (.ref (A 0)), some (.int w), some (.int (swO (σ 5) M a).1), some (.int (swO (σ 5) M a).2.1), some (.int (swO (σ 5) M a).2.2), some (.int (nI a)), none, none]) a) [] ((fun a => cW A tc σ) a) := by
    intro a ha ihlp
    have innS : ∀ k, k < (M - (a + 1)) → V X D tc cX5_swap RX5 8 55 ((fun k => [some (.ref (A 0)), some (.int w), some (.int (swI (σ 5) M a (swO (σ 5) M a) k).1), some (.int (swI (σ 5) M a (swO (σ 5) M a) k).2.1), some (.int (swI (σ 5) M a (swO (σ 5) M a) k).2.2), some (.int (nI a)), some (.int (nI (a + 1 + k))), none]) (k + 1)) [] ((fun k => cW A tc σ) (k + 1)) → V X D tc cX5_swap RX5 8 55 ((fun k => [some (.ref (A 0)), some (.int w), some (.int (swI (σ 5) M a (swO (σ 5) M a) k).1), some (.int (swI (σ 5) M a (swO (σ 5) M a) k).2.1), some (.int (swI (σ 5) M a (swO (σ 5) M a) k).2.2), some (.int (nI a)), some (.int (nI (a + 1 + k))), none]) k) [] ((fun k => cW A tc σ) k) := by
      intro k hk ihinn
      obtain ⟨q, hq4, hq⟩ := hw a ha
      obtain ⟨r, hr4, hr⟩ := hw (a + 1 + k) (by omega)
      have hg : gxC (σ 5) M a (a + 1 + k) = geC (σ 5) M a (a + 1 + k) q r := by rw [gxC, hq, hr, nI_clamp (by omega), nI_clamp (by omega)]
      refine V_ild6 dX5_swap_55 ?_
      refine V_ald0 dX5_swap_57 ?_
      refine V_get lf_X5_20 dX5_swap_58 cW_main rfl ?_
      refine V_get lf_X5_90 dX5_swap_61 (cW_mkt now5) rfl ?_
      refine V_icmp_ge 99 dX5_swap_64 (by decide) (fun c64 => ?_) (fun c64 => ?_)
      · exact absurd c64 (ge_no hM (by omega) (by omega))
      · refine V_ald0 dX5_swap_67 ?_
        refine V_ild5 dX5_swap_68 ?_
        refine V_ild6 dX5_swap_70 ?_
        refine V_callV lm_X5_198 (ok_gainOfExchange hM h6 a (a + 1 + k) q r (by omega) (by omega) hq4 hr4 hq hr) dX5_swap_72 cW_main rfl (dep hX (by decide)) rfl (Nat.le_of_ble_eq_true rfl) ?_
        refine V_ist7 dX5_swap_75 rfl (by decide) ?_
        refine V_ild7 dX5_swap_77 ?_
        refine V_ild2 dX5_swap_79 ?_
        refine V_icmp_le 93 dX5_swap_80 (by decide) (fun c80 => ?_) (fun c80 => ?_)
        · refine V_inc6 (nI (a + 1 + (k + 1))) dX5_swap_93 (nI_inc (a + 1 + k)) rfl (by decide) ?_
          refine V_goto 55 dX5_swap_96 (by decide) ?_
          refine V_dr7 ?_
          refine V_eq ?_ rfl rfl ihinn
          simp only [swI, hg]
          first | rw [if_pos c80] | rw [if_neg c80]
        · refine V_ild7 dX5_swap_83 ?_
          refine V_ist2 dX5_swap_85 rfl (by decide) ?_
          refine V_ild5 dX5_swap_86 ?_
          refine V_ist3 dX5_swap_88 rfl (by decide) ?_
          refine V_ild6 dX5_swap_89 ?_
          refine V_ist4 dX5_swap_91 rfl (by decide) ?_
          refine V_inc6 (nI (a + 1 + (k + 1))) dX5_swap_93 (nI_inc (a + 1 + k)) rfl (by decide) ?_
          refine V_goto 55 dX5_swap_96 (by decide) ?_
          refine V_dr7 ?_
          refine V_eq ?_ rfl rfl ihinn
          simp only [swI, hg]
          first | rw [if_pos c80] | rw [if_neg c80]
    have innE : V X D tc cX5_swap RX5 8 55 ((fun k => [some (.ref (A 0)), some (.int w), some (.int (swI (σ 5) M a (swO (σ 5) M a) k).1), some (.int (swI (σ 5) M a (swO (σ 5) M a) k).2.1), some (.int (swI (σ 5) M a (swO (σ 5) M a) k).2.2), some (.int (nI a)), some (.int (nI (a + 1 + k))), none]) ((M - (a + 1)))) [] ((fun k => cW A tc σ) ((M - (a + 1)))) := by
      refine V_ild6 dX5_swap_55 ?_
      refine V_ald0 dX5_swap_57 ?_
      refine V_get lf_X5_20 dX5_swap_58 cW_main rfl ?_
      refine V_get lf_X5_90 dX5_swap_61 (cW_mkt now5) rfl ?_
      refine V_icmp_ge 99 dX5_swap_64 (by decide) (fun c64 => ?_) (fun c64 => ?_)
      · refine V_inc5 (nI (a + 1)) dX5_swap_99 (nI_inc a) rfl (by decide) ?_
        refine V_goto 37 dX5_swap_102 (by decide) ?_
        refine V_dr6 ?_
        exact ihlp
      · exact absurd (ge_yes (hM.trans (by congr 1; omega))) c64
    have inn := V_for (fun k => [some (.ref (A 0)), some (.int w), some (.int (swI (σ 5) M a (swO (σ 5) M a) k).1), some (.int (swI (σ 5) M a (swO (σ 5) M a) k).2.1), some (.int (swI (σ 5) M a (swO (σ 5) M a) k).2.2), some (.int (nI a)), some (.int (nI (a + 1 + k))), none]) (fun k => cW A tc σ) ((M - (a + 1))) innS innE
    refine V_ild5 dX5_swap_37 ?_
    refine V_ald0 dX5_swap_39 ?_
    refine V_get lf_X5_20 dX5_swap_40 cW_main rfl ?_
    refine V_get lf_X5_90 dX5_swap_43 (cW_mkt now5) rfl ?_
    refine V_icmp_ge 105 dX5_swap_46 (by decide) (fun c46 => ?_) (fun c46 => ?_)
    · exact absurd c46 (ge_no hM ha (by omega))
    · refine V_ild5 dX5_swap_49 ?_
      refine V_iconst 1 dX5_swap_51 (by decide) ?_
      refine V_iadd dX5_swap_52 ?_
      refine V_top (y := nI (a + 1 + 0)) (nI_1 a) ?_
      refine V_ist6 dX5_swap_53 rfl (by decide) ?_
      exact inn 0 (Nat.zero_le _)
  have lpE : V X D tc cX5_swap RX5 8 37 ((fun a => [some (.ref (A 0)), some (.int w), some (.int (swO (σ 5) M a).1), some (.int (swO (σ 5) M a).2.1), some (.int (swO (σ 5) M a).2.2), some (.int (nI a)), none, none]) (M)) [] ((fun a => cW A tc σ) (M)) := by
    refine V_ild5 dX5_swap_37 ?_
    refine V_ald0 dX5_swap_39 ?_
    refine V_get lf_X5_20 dX5_swap_40 cW_main rfl ?_
    refine V_get lf_X5_90 dX5_swap_43 (cW_mkt now5) rfl ?_
    refine V_icmp_ge 105 dX5_swap_46 (by decide) (fun c46 => ?_) (fun c46 => ?_)
    · refine V_ild2 dX5_swap_105 ?_
      refine V_if_ne 112 dX5_swap_106 (by decide) (fun c106 => ?_) (fun c106 => ?_)
      · refine V_ild1 dX5_swap_112 ?_
        refine V_if_ne 120 dX5_swap_113 (by decide) (fun c113 => ?_) (fun c113 => ?_)
        · refine V_ild1 dX5_swap_120 ?_
          refine V_iconst 1 dX5_swap_121 (by decide) ?_
          refine V_icmp_ne 129 dX5_swap_122 (by decide) (fun c122 => ?_) (fun c122 => ?_)
          · refine V_ild4 dX5_swap_129 ?_
            exact V_iret hX dX5_swap_131 rfl (by rw [← hR]; (try first | replace c46 := eq_false c46 | replace c46 := eq_true c46); (try first | replace c106 := eq_false c106 | replace c106 := eq_true c106); (try first | replace c113 := eq_false c113 | replace c113 := eq_true c113); (try first | replace c122 := eq_false c122 | replace c122 := eq_true c122); simp only [swR, c46, c106, c113, c122, not_true_eq_false, not_false_eq_true, and_self, true_and, and_true, false_and, and_false, true_or, or_true, false_or, or_false, or_self, ↓reduceIte]) rfl
          · refine V_ild3 dX5_swap_125 ?_
            refine V_goto 131 dX5_swap_126 (by decide) ?_
            exact V_iret hX dX5_swap_131 rfl (by rw [← hR]; (try first | replace c46 := eq_false c46 | replace c46 := eq_true c46); (try first | replace c106 := eq_false c106 | replace c106 := eq_true c106); (try first | replace c113 := eq_false c113 | replace c113 := eq_true c113); (try first | replace c122 := eq_false c122 | replace c122 := eq_true c122); simp only [swR, c46, c106, c113, c122, not_true_eq_false, not_false_eq_true, and_self, true_and, and_true, false_and, and_false, true_or, or_true, false_or, or_false, or_self, ↓reduceIte]) rfl
        · refine V_ild2 dX5_swap_116 ?_
          refine V_goto 131 dX5_swap_117 (by decide) ?_
          exact V_iret hX dX5_swap_131 rfl (by rw [← hR]; (try first | replace c46 := eq_false c46 | replace c46 := eq_true c46); (try first | replace c106 := eq_false c106 | replace c106 := eq_true c106); (try first | replace c113 := eq_false c113 | replace c113 := eq_true c113); simp only [swR, c46, c106, c113, not_true_eq_false, not_false_eq_true, and_self, true_and, and_true, false_and, and_false, true_or, or_true, false_or, or_false, or_self, ↓reduceIte]) rfl
      · refine V_bipush (-9) dX5_swap_109 (by decide) ?_
        exact V_iret hX dX5_swap_111 rfl (by rw [← hR]; (try first | replace c46 := eq_false c46 | replace c46 := eq_true c46); (try first | replace c106 := eq_false c106 | replace c106 := eq_true c106); simp only [swR, c46, c106, not_true_eq_false, not_false_eq_true, and_self, true_and, and_true, false_and, and_false, true_or, or_true, false_or, or_false, or_self, ↓reduceIte]) rfl
    · exact absurd (ge_yes hM) c46
  have lp := V_for (fun a => [some (.ref (A 0)), some (.int w), some (.int (swO (σ 5) M a).1), some (.int (swO (σ 5) M a).2.1), some (.int (swO (σ 5) M a).2.2), some (.int (nI a)), none, none]) (fun a => cW A tc σ) (M) lpS lpE
  exact lp 0 (Nat.zero_le _)
set_option maxRecDepth 100000 in
set_option maxHeartbeats 4000000 in
theorem ok_swap (hM : σ 5 10 0 = nI M) (h6 : M ≤ 6) (hw : ∀ m, m < M → ∃ q, q < 4 ∧ σ 5 4 m = nI q) (w : Int32) : Ok 5 yX5_swap cX5_swap 8 (some .int) D tc [.ref (A 0), .int w] (cW A tc σ) (some (.int (R_swap σ M w))) (cW A tc σ) := by
  refine Ok_of RX5 rfl (by decide) [some (.ref (A 0)), some (.int w), none, none, none, none, none, none] rfl (Nat.le_of_ble_eq_true rfl) ?_
  intro X hX
  refine V_ild1 dX5_swap_0 ?_
  refine V_if_lt 9 dX5_swap_1 (by decide) (fun c1 => ?_) (fun c1 => ?_)
  · refine V_bipush (-2) dX5_swap_9 (by decide) ?_
    exact V_iret hX dX5_swap_11 rfl (by (try first | replace c1 := eq_false c1 | replace c1 := eq_true c1); simp only [R_swap, c1, not_true_eq_false, not_false_eq_true, and_self, true_and, and_true, false_and, and_false, true_or, or_true, false_or, or_false, or_self, ↓reduceIte]) rfl
  · refine V_ild1 dX5_swap_4 ?_
    refine V_iconst 2 dX5_swap_5 (by decide) ?_
    refine V_icmp_le 12 dX5_swap_6 (by decide) (fun c6 => ?_) (fun c6 => ?_)
    · refine V_ald0 dX5_swap_12 ?_
      refine V_get lf_X5_20 dX5_swap_13 cW_main rfl ?_
      refine V_callV lm_X5_132 (ok_isThere now5) dX5_swap_16 (cW_mkt now5) rfl (dep hX (by decide)) rfl (Nat.le_of_ble_eq_true rfl) ?_
      refine V_if_ne 25 dX5_swap_19 (by decide) (fun c19 => ?_) (fun c19 => ?_)
      · try rw [b2i_ne] at c19
        try rw [Decidable.not_not] at c19
        refine V_iconst 0 dX5_swap_25 (by decide) ?_
        refine V_ist2 dX5_swap_26 rfl (by decide) ?_
        refine V_bipush (-9) dX5_swap_27 (by decide) ?_
        refine V_ist3 dX5_swap_29 rfl (by decide) ?_
        refine V_bipush (-9) dX5_swap_30 (by decide) ?_
        refine V_ist4 dX5_swap_32 rfl (by decide) ?_
        refine V_iconst 0 dX5_swap_34 (by decide) ?_
        refine V_ist5 dX5_swap_35 rfl (by decide) ?_
        refine lo_swap hM h6 hw (R := R_swap σ M w) ?_ hX
        (try first | replace c1 := eq_false c1 | replace c1 := eq_true c1); (try first | replace c6 := eq_false c6 | replace c6 := eq_true c6); (try first | replace c19 := eq_false c19 | replace c19 := eq_true c19);
        simp only [R_swap, swR, c1, c6, c19, not_true_eq_false, not_false_eq_true, and_self, true_and, and_true, false_and, and_false, true_or, or_true, false_or, or_false, or_self, ↓reduceIte]
      · try rw [b2i_eq] at c19
        try rw [Decidable.not_not] at c19
        refine V_bipush (-3) dX5_swap_22 (by decide) ?_
        exact V_iret hX dX5_swap_24 rfl (by (try first | replace c1 := eq_false c1 | replace c1 := eq_true c1); (try first | replace c6 := eq_false c6 | replace c6 := eq_true c6); (try first | replace c19 := eq_false c19 | replace c19 := eq_true c19); simp only [R_swap, c1, c6, c19, not_true_eq_false, not_false_eq_true, and_self, true_and, and_true, false_and, and_false, true_or, or_true, false_or, or_false, or_self, ↓reduceIte]) rfl
    · refine V_bipush (-2) dX5_swap_9 (by decide) ?_
      exact V_iret hX dX5_swap_11 rfl (by (try first | replace c1 := eq_false c1 | replace c1 := eq_true c1); (try first | replace c6 := eq_false c6 | replace c6 := eq_true c6); simp only [R_swap, c1, c6, not_true_eq_false, not_false_eq_true, and_self, true_and, and_true, false_and, and_false, true_or, or_true, false_or, or_false, or_self, ↓reduceIte]) rfl
set_option maxRecDepth 100000 in
set_option maxHeartbeats 4000000 in
theorem lo_odds (hM : σ 5 10 0 = nI M) (h6 : M ≤ 6) {X : Cx} {p : Nat} (hp : p < 4) {v w th : Int32} {R : Int64} (hR : odR w (rdN 6 (odU (σ 5) M p v th 64) (odL th 64)) = R) (hX : Aim X D (some .long) 4 (some (.long R)) (cW A tc σ)) : V X D tc cX5_odds RX5 8 57 [some (.ref (A 0)), some (.int (nI p)), some (.int v), some (.int w), some (.int th), some (.int 0), some (.int 0), some (.int 0)] [] (cW A tc σ) := by
  have h2 : ∀ (f k u l : Nat), k + f = 6 → u ≤ 64 → l ≤ 64 → odR w (rdN f u l) = odR w (rdN 6 (odU (σ 5) M p v th 64) (odL th 64)) → V X D tc cX5_odds RX5 8 103 [some (.ref (A 0)), some (.int (nI p)), some (.int v), some (.int w), some (.int th), some (.int (nI u)), some (.int (nI l)), some (.int (nI k))] [] (cW A tc σ) := by
    rw [hR]
    intro f
    induction f with
    | zero =>
      intro k u l hkf hu hl hR
      obtain rfl : k = 6 := hkf
      have hn : rdN 0 u l = (u, l) := rfl
      refine V_ild7 dX5_odds_103 ?_
      refine V_bipush 6 dX5_odds_105 (by decide) ?_
      refine V_icmp_ge 142 dX5_odds_107 (by decide) (fun c107 => ?_) (fun c107 => ?_)
      · refine V_ild3 dX5_odds_142 ?_
        refine V_if_ne 152 dX5_odds_143 (by decide) (fun c143 => ?_) (fun c143 => ?_)
        · refine V_ild6 dX5_odds_152 ?_
          refine V_i2l dX5_odds_154 ?_
          exact V_lret hX dX5_odds_155 rfl (by rw [← hR, hn, odR]; first | rw [if_pos c143] | rw [if_neg c143]) rfl
        · refine V_ild5 dX5_odds_146 ?_
          refine V_i2l dX5_odds_148 ?_
          refine V_goto 155 dX5_odds_149 (by decide) ?_
          exact V_lret hX dX5_odds_155 rfl (by rw [← hR, hn, odR]; first | rw [if_pos c143] | rw [if_neg c143]) rfl
      · exact absurd E6 c107
    | succ f ih =>
      intro k u l hkf hu hl hR
      have hk : k < 6 := by omega
      refine V_ild7 dX5_odds_103 ?_
      refine V_bipush 6 dX5_odds_105 (by decide) ?_
      refine V_icmp_ge 142 dX5_odds_107 (by decide) (fun c107 => ?_) (fun c107 => ?_)
      · exact absurd c107 (L6 hk)
      · refine V_ild5 dX5_odds_110 ?_
        refine V_iconst 2 dX5_odds_112 (by decide) ?_
        refine V_irem dX5_odds_113 (by decide) ?_
        refine V_if_ne 142 dX5_odds_114 (by decide) (fun c114 => ?_) (fun c114 => ?_)
        · rw [rem2 (by omega)] at c114
          have hn : rdN (f + 1) u l = (u, l) := if_neg (fun h => c114 h.1)
          refine V_ild3 dX5_odds_142 ?_
          refine V_if_ne 152 dX5_odds_143 (by decide) (fun c143 => ?_) (fun c143 => ?_)
          · refine V_ild6 dX5_odds_152 ?_
            refine V_i2l dX5_odds_154 ?_
            exact V_lret hX dX5_odds_155 rfl (by rw [← hR, hn, odR]; first | rw [if_pos c143] | rw [if_neg c143]) rfl
          · refine V_ild5 dX5_odds_146 ?_
            refine V_i2l dX5_odds_148 ?_
            refine V_goto 155 dX5_odds_149 (by decide) ?_
            exact V_lret hX dX5_odds_155 rfl (by rw [← hR, hn, odR]; first | rw [if_pos c143] | rw [if_neg c143]) rfl
        · rw [rem2 (by omega)] at c114
          refine V_ild6 dX5_odds_117 ?_
          refine V_iconst 2 dX5_odds_119 (by decide) ?_
          refine V_irem dX5_odds_120 (by decide) ?_
          refine V_if_ne 142 dX5_odds_121 (by decide) (fun c121 => ?_) (fun c121 => ?_)
          · rw [rem2 (by omega)] at c121
            have hn : rdN (f + 1) u l = (u, l) := if_neg (fun h => c121 h.2)
            refine V_ild3 dX5_odds_142 ?_
            refine V_if_ne 152 dX5_odds_143 (by decide) (fun c143 => ?_) (fun c143 => ?_)
            · refine V_ild6 dX5_odds_152 ?_
              refine V_i2l dX5_odds_154 ?_
              exact V_lret hX dX5_odds_155 rfl (by rw [← hR, hn, odR]; first | rw [if_pos c143] | rw [if_neg c143]) rfl
            · refine V_ild5 dX5_odds_146 ?_
              refine V_i2l dX5_odds_148 ?_
              refine V_goto 155 dX5_odds_149 (by decide) ?_
              exact V_lret hX dX5_odds_155 rfl (by rw [← hR, hn, odR]; first | rw [if_pos c143] | rw [if_neg c143]) rfl
          · rw [rem2 (by omega)] at c121
            have hn : rdN (f + 1) u l = rdN f (u / 2) (l / 2) := if_pos ⟨c114, c121⟩
            refine V_ild5 dX5_odds_124 ?_
            refine V_iconst 2 dX5_odds_126 (by decide) ?_
            refine V_idiv dX5_odds_127 (by decide) ?_
            refine V_top (y := nI (u / 2)) (div2 (by omega)) ?_
            refine V_ist5 dX5_odds_128 rfl (by decide) ?_
            refine V_ild6 dX5_odds_130 ?_
            refine V_iconst 2 dX5_odds_132 (by decide) ?_
            refine V_idiv dX5_odds_133 (by decide) ?_
            refine V_top (y := nI (l / 2)) (div2 (by omega)) ?_
            refine V_ist6 dX5_odds_134 rfl (by decide) ?_
            refine V_inc7 (nI (k + 1)) dX5_odds_136 (nI_inc k) rfl (by decide) ?_
            refine V_goto 103 dX5_odds_139 (by decide) ?_
            exact ih _ _ _ (by omega) (by omega) (by omega) (by rw [← hn]; exact hR)
  have lpS : ∀ k, k < 64 → V X D tc cX5_odds RX5 8 57 ((fun k => [some (.ref (A 0)), some (.int (nI p)), some (.int v), some (.int w), some (.int th), some (.int (nI (odU (σ 5) M p v th k))), some (.int (nI (odL th k))), some (.int (nI k))]) (k + 1)) [] ((fun k => cW A tc σ) (k + 1)) → V X D tc cX5_odds RX5 8 57 ((fun k => [some (.ref (A 0)), some (.int (nI p)), some (.int v), some (.int w), some (.int th), some (.int (nI (odU (σ 5) M p v th k))), some (.int (nI (odL th k))), some (.int (nI k))]) k) [] ((fun k => cW A tc σ) k) := by
    intro k hk ihlp
    refine V_ild7 dX5_odds_57 ?_
    refine V_bipush 64 dX5_odds_59 (by decide) ?_
    refine V_icmp_ge 100 dX5_odds_61 (by decide) (fun c61 => ?_) (fun c61 => ?_)
    · exact absurd c61 (L64 hk)
    · refine V_ild7 dX5_odds_64 ?_
      refine V_ild4 dX5_odds_66 ?_
      refine V_callS ls_X5_211 (ok_isWithin _ _) dX5_odds_68 (dep hX (by decide)) rfl (Nat.le_of_ble_eq_true rfl) ?_
      refine V_if_eq 94 dX5_odds_71 (by decide) (fun c71 => ?_) (fun c71 => ?_)
      · try rw [b2i_eq] at c71
        try rw [Decidable.not_not] at c71
        refine V_inc7 (nI (k + 1)) dX5_odds_94 (nI_inc k) rfl (by decide) ?_
        refine V_goto 57 dX5_odds_97 (by decide) ?_
        refine V_eq ?_ rfl rfl ihlp
        (try first | replace c61 := eq_false c61 | replace c61 := eq_true c61); (try first | replace c71 := eq_false c71 | replace c71 := eq_true c71);
        simp only [odU, odL, c61, c71, not_true_eq_false, not_false_eq_true, and_self, true_and, and_true, false_and, and_false, true_or, or_true, false_or, or_false, or_self, ↓reduceIte]
      · try rw [b2i_ne] at c71
        try rw [Decidable.not_not] at c71
        refine V_inc6 (nI (odL th k + 1)) dX5_odds_74 (nI_inc _) rfl (by decide) ?_
        refine V_ald0 dX5_odds_77 ?_
        refine V_get lf_X5_20 dX5_odds_78 cW_main rfl ?_
        refine V_ild1 dX5_odds_81 ?_
        refine V_ild7 dX5_odds_82 ?_
        refine V_callV lm_X5_176 (ok_feastWith now5 hM h6 p hp _) dX5_odds_84 (cW_mkt now5) rfl (dep hX (by decide)) rfl (Nat.le_of_ble_eq_true rfl) ?_
        refine V_ild2 dX5_odds_87 ?_
        refine V_icmp_lt 94 dX5_odds_88 (by decide) (fun c88 => ?_) (fun c88 => ?_)
        · refine V_inc7 (nI (k + 1)) dX5_odds_94 (nI_inc k) rfl (by decide) ?_
          refine V_goto 57 dX5_odds_97 (by decide) ?_
          refine V_eq ?_ rfl rfl ihlp
          (try first | replace c61 := eq_false c61 | replace c61 := eq_true c61); (try first | replace c71 := eq_false c71 | replace c71 := eq_true c71); (try first | replace c88 := eq_false c88 | replace c88 := eq_true c88);
          simp only [odU, odL, c61, c71, c88, not_true_eq_false, not_false_eq_true, and_self, true_and, and_true, false_and, and_false, true_or, or_true, false_or, or_false, or_self, ↓reduceIte]
        · refine V_inc5 (nI (odU (σ 5) M p v th k + 1)) dX5_odds_91 (nI_inc _) rfl (by decide) ?_
          refine V_inc7 (nI (k + 1)) dX5_odds_94 (nI_inc k) rfl (by decide) ?_
          refine V_goto 57 dX5_odds_97 (by decide) ?_
          refine V_eq ?_ rfl rfl ihlp
          (try first | replace c61 := eq_false c61 | replace c61 := eq_true c61); (try first | replace c71 := eq_false c71 | replace c71 := eq_true c71); (try first | replace c88 := eq_false c88 | replace c88 := eq_true c88);
          simp only [odU, odL, c61, c71, c88, not_true_eq_false, not_false_eq_true, and_self, true_and, and_true, false_and, and_false, true_or, or_true, false_or, or_false, or_self, ↓reduceIte]
  have lpE : V X D tc cX5_odds RX5 8 57 ((fun k => [some (.ref (A 0)), some (.int (nI p)), some (.int v), some (.int w), some (.int th), some (.int (nI (odU (σ 5) M p v th k))), some (.int (nI (odL th k))), some (.int (nI k))]) (64)) [] ((fun k => cW A tc σ) (64)) := by
    refine V_ild7 dX5_odds_57 ?_
    refine V_bipush 64 dX5_odds_59 (by decide) ?_
    refine V_icmp_ge 100 dX5_odds_61 (by decide) (fun c61 => ?_) (fun c61 => ?_)
    · refine V_iconst 0 dX5_odds_100 (by decide) ?_
      refine V_ist7 dX5_odds_101 rfl (by decide) ?_
      exact h2 6 0 _ _ rfl (Nat.le_trans (odU_le _ _ _ _ _ _) (by decide)) (odL_le _ _) rfl
    · exact absurd E64 c61
  have lp := V_for (fun k => [some (.ref (A 0)), some (.int (nI p)), some (.int v), some (.int w), some (.int th), some (.int (nI (odU (σ 5) M p v th k))), some (.int (nI (odL th k))), some (.int (nI k))]) (fun k => cW A tc σ) (64) lpS lpE
  exact lp 0 (Nat.zero_le _)
set_option maxRecDepth 100000 in
set_option maxHeartbeats 4000000 in
theorem ok_odds (hP : σ 5 9 0 = nI P) (h4 : P ≤ 4) (hM : σ 5 10 0 = nI M) (h6 : M ≤ 6) (p v w : Int32) : Ok 4 yX5_odds cX5_odds 8 (some .long) D tc [.ref (A 0), .int p, .int v, .int w] (cW A tc σ) (some (.long (R_odds σ M p v w))) (cW A tc σ) := by
  refine Ok_of RX5 rfl (by decide) [some (.ref (A 0)), some (.int p), some (.int v), some (.int w), none, none, none, none] rfl (Nat.le_of_ble_eq_true rfl) ?_
  intro X hX
  refine V_ald0 dX5_odds_0 ?_
  refine V_get lf_X5_20 dX5_odds_1 cW_main rfl ?_
  refine V_ild1 dX5_odds_4 ?_
  refine V_callV lm_X5_112 (ok_isPerson now5 _) dX5_odds_5 (cW_mkt now5) rfl (dep hX (by decide)) rfl (Nat.le_of_ble_eq_true rfl) ?_
  refine V_if_ne 15 dX5_odds_8 (by decide) (fun c8 => ?_) (fun c8 => ?_)
  · try rw [b2i_ne] at c8
    try rw [Decidable.not_not] at c8
    obtain ⟨j, hj, ej⟩ := isP_of hP (by omega) c8
    subst ej
    have hcj : (nI j).toNatClampNeg = j := nI_clamp (by omega)
    refine V_ild2 dX5_odds_15 ?_
    refine V_if_lt 34 dX5_odds_16 (by decide) (fun c16 => ?_) (fun c16 => ?_)
    · refine V_ldc2 _ wC_X5_209 dX5_odds_34 ?_
      exact V_lret hX dX5_odds_37 rfl (by (try first | replace c8 := eq_false c8 | replace c8 := eq_true c8); (try first | replace c16 := eq_false c16 | replace c16 := eq_true c16); simp only [R_odds, c8, c16, not_true_eq_false, not_false_eq_true, and_self, true_and, and_true, false_and, and_false, true_or, or_true, false_or, or_false, or_self, ↓reduceIte]) rfl
    · refine V_ild2 dX5_odds_19 ?_
      refine V_bipush 99 dX5_odds_20 (by decide) ?_
      refine V_icmp_gt 34 dX5_odds_22 (by decide) (fun c22 => ?_) (fun c22 => ?_)
      · refine V_ldc2 _ wC_X5_209 dX5_odds_34 ?_
        exact V_lret hX dX5_odds_37 rfl (by (try first | replace c8 := eq_false c8 | replace c8 := eq_true c8); (try first | replace c16 := eq_false c16 | replace c16 := eq_true c16); (try first | replace c22 := eq_false c22 | replace c22 := eq_true c22); simp only [R_odds, c8, c16, c22, not_true_eq_false, not_false_eq_true, and_self, true_and, and_true, false_and, and_false, true_or, or_true, false_or, or_false, or_self, ↓reduceIte]) rfl
      · refine V_ild3 dX5_odds_25 ?_
        refine V_if_lt 34 dX5_odds_26 (by decide) (fun c26 => ?_) (fun c26 => ?_)
        · refine V_ldc2 _ wC_X5_209 dX5_odds_34 ?_
          exact V_lret hX dX5_odds_37 rfl (by (try first | replace c8 := eq_false c8 | replace c8 := eq_true c8); (try first | replace c16 := eq_false c16 | replace c16 := eq_true c16); (try first | replace c22 := eq_false c22 | replace c22 := eq_true c22); (try first | replace c26 := eq_false c26 | replace c26 := eq_true c26); simp only [R_odds, c8, c16, c22, c26, not_true_eq_false, not_false_eq_true, and_self, true_and, and_true, false_and, and_false, true_or, or_true, false_or, or_false, or_self, ↓reduceIte]) rfl
        · refine V_ild3 dX5_odds_29 ?_
          refine V_iconst 1 dX5_odds_30 (by decide) ?_
          refine V_icmp_le 38 dX5_odds_31 (by decide) (fun c31 => ?_) (fun c31 => ?_)
          · refine V_ald0 dX5_odds_38 ?_
            refine V_get lf_X5_20 dX5_odds_39 cW_main rfl ?_
            refine V_ild1 dX5_odds_42 ?_
            refine V_callV lm_X5_121 (ok_closedOf now5 hM h6 _) dX5_odds_43 (cW_mkt now5) rfl (dep hX (by decide)) rfl (Nat.le_of_ble_eq_true rfl) ?_
            refine V_ist4 dX5_odds_46 rfl (by decide) ?_
            refine V_iconst 0 dX5_odds_48 (by decide) ?_
            refine V_ist5 dX5_odds_49 rfl (by decide) ?_
            refine V_iconst 0 dX5_odds_51 (by decide) ?_
            refine V_ist6 dX5_odds_52 rfl (by decide) ?_
            refine V_iconst 0 dX5_odds_54 (by decide) ?_
            refine V_ist7 dX5_odds_55 rfl (by decide) ?_
            refine lo_odds hM h6 (by omega) (R := R_odds σ M (nI j) v w) ?_ hX
            (try first | replace c8 := eq_false c8 | replace c8 := eq_true c8); (try first | replace c16 := eq_false c16 | replace c16 := eq_true c16); (try first | replace c22 := eq_false c22 | replace c22 := eq_true c22); (try first | replace c26 := eq_false c26 | replace c26 := eq_true c26); (try first | replace c31 := eq_false c31 | replace c31 := eq_true c31);
            simp only [R_odds, hcj, c8, c16, c22, c26, c31, not_true_eq_false, not_false_eq_true, and_self, true_and, and_true, false_and, and_false, true_or, or_true, false_or, or_false, or_self, ↓reduceIte]
          · refine V_ldc2 _ wC_X5_209 dX5_odds_34 ?_
            exact V_lret hX dX5_odds_37 rfl (by (try first | replace c8 := eq_false c8 | replace c8 := eq_true c8); (try first | replace c16 := eq_false c16 | replace c16 := eq_true c16); (try first | replace c22 := eq_false c22 | replace c22 := eq_true c22); (try first | replace c26 := eq_false c26 | replace c26 := eq_true c26); (try first | replace c31 := eq_false c31 | replace c31 := eq_true c31); simp only [R_odds, c8, c16, c22, c26, c31, not_true_eq_false, not_false_eq_true, and_self, true_and, and_true, false_and, and_false, true_or, or_true, false_or, or_false, or_self, ↓reduceIte]) rfl
  · try rw [b2i_eq] at c8
    try rw [Decidable.not_not] at c8
    refine V_ldc2 _ wC_X5_209 dX5_odds_11 ?_
    exact V_lret hX dX5_odds_14 rfl (by (try first | replace c8 := eq_false c8 | replace c8 := eq_true c8); simp only [R_odds, c8, not_true_eq_false, not_false_eq_true, and_self, true_and, and_true, false_and, and_false, true_or, or_true, false_or, or_false, or_self, ↓reduceIte]) rfl
set_option maxRecDepth 100000 in
set_option maxHeartbeats 4000000 in
theorem ok_findBest (hM : σ 5 10 0 = nI M) (h6 : M ≤ 6) (p : Nat) (hp : p < 4) (hN0 : ¬ nI N = 0) (hN3 : N ≤ 3) : Ok 4 yX0_findBest cX0_findBest 9 none D tc [.ref (A 28), .ref (A (mb 5)), .int (nI p), .int (nI N)] (cW A tc σ) none (cW A tc (kpS σ M p N)) := by
  have hrw : rwN N (clC (σ 5) (nI p) M) 6 ≤ 729 := rwN_le N _ hN3 6 (by decide)
  refine Ok_of RX0 rfl (by decide) [some (.ref (A 28)), some (.ref (A (mb 5))), some (.int (nI p)), some (.int (nI N)), none, none, none, none, none] rfl (Nat.le_of_ble_eq_true rfl) ?_
  intro X hX
  have l2S : ∀ k, k < (rwN N (clC (σ 5) (nI p) M) 6) → V X D tc cX0_findBest RX0 9 60 ((fun k => [some (.ref (A 28)), some (.ref (A (mb 5))), some (.int (nI p)), some (.int (nI N)), some (.int (clC (σ 5) (nI p) M)), some (.int (nI (rwN N (clC (σ 5) (nI p) M) 6))), some (.int (nI k)), none, none]) (k + 1)) [] ((fun k => cW A tc (up (up (upF σ 8 0 (kpT σ M p N)) 8 1 0 (fbC (kpT σ M p N) N (clC (σ 5) (nI p) M) (σ 8 2 0) k).1) 8 2 0 (fbC (kpT σ M p N) N (clC (σ 5) (nI p) M) (σ 8 2 0) k).2)) (k + 1)) → V X D tc cX0_findBest RX0 9 60 ((fun k => [some (.ref (A 28)), some (.ref (A (mb 5))), some (.int (nI p)), some (.int (nI N)), some (.int (clC (σ 5) (nI p) M)), some (.int (nI (rwN N (clC (σ 5) (nI p) M) 6))), some (.int (nI k)), none, none]) k) [] ((fun k => cW A tc (up (up (upF σ 8 0 (kpT σ M p N)) 8 1 0 (fbC (kpT σ M p N) N (clC (σ 5) (nI p) M) (σ 8 2 0) k).1) 8 2 0 (fbC (kpT σ M p N) N (clC (σ 5) (nI p) M) (σ 8 2 0) k).2)) k) := by
    intro k hk ihl2
    refine V_ild6 dX0_findBest_60 ?_
    refine V_ild5 dX0_findBest_62 ?_
    refine V_icmp_ge 114 dX0_findBest_64 (by decide) (fun c64 => ?_) (fun c64 => ?_)
    · exact absurd c64 (ge_no rfl hk (by omega))
    · refine V_ald0 dX0_findBest_67 ?_
      refine V_ild6 dX0_findBest_68 ?_
      refine V_ild3 dX0_findBest_70 ?_
      refine V_ild4 dX0_findBest_71 ?_
      refine V_callV lm_X0_36 (ok_setsOfDays _ _ _ hN0) dX0_findBest_73 cW_ke rfl (dep hX (by decide)) rfl (Nat.le_of_ble_eq_true rfl) ?_
      refine V_ist7 dX0_findBest_76 rfl (by decide) ?_
      refine V_ald0 dX0_findBest_78 ?_
      refine V_ild7 dX0_findBest_79 ?_
      refine V_ild3 dX0_findBest_81 ?_
      refine V_callV lm_X0_40 (ok_joyOfDays hN3 _) dX0_findBest_82 cW_ke rfl (dep hX (by decide)) rfl (Nat.le_of_ble_eq_true rfl) ?_
      refine V_ist8 dX0_findBest_85 rfl (by decide) ?_
      refine V_ild8 dX0_findBest_87 ?_
      refine V_ald0 dX0_findBest_89 ?_
      refine V_get lf_X0_15 dX0_findBest_90 cW_ke rfl ?_
      refine V_top (y := (fbC (kpT σ M p N) N (clC (σ 5) (nI p) M) (σ 8 2 0) k).1) rfl ?_
      refine V_icmp_le 108 dX0_findBest_93 (by decide) (fun c93 => ?_) (fun c93 => ?_)
      · refine V_inc6 (nI (k + 1)) dX0_findBest_108 (nI_inc k) rfl (by decide) ?_
        refine V_goto 60 dX0_findBest_111 (by decide) ?_
        refine V_dr7 ?_
        refine V_dr8 ?_
        refine V_eq rfl rfl ?_ ihl2
        try rw [up_up2]
        simp only [fbC]
        first | rw [if_pos (show jxC (kpT σ M p N) _ N ≤ _ from c93)] | rw [if_neg (show ¬ jxC (kpT σ M p N) _ N ≤ _ from c93)]
        try rfl
      · refine V_ald0 dX0_findBest_96 ?_
        refine V_ild8 dX0_findBest_97 ?_
        refine V_puti lp_X0_15 dX0_findBest_99 cW_ke (Nat.le_of_ble_eq_true rfl) (cW_kep1 _) ?_
        refine V_ald0 dX0_findBest_102 ?_
        refine V_ild7 dX0_findBest_103 ?_
        refine V_puti lp_X0_19 dX0_findBest_105 cW_ke (Nat.le_of_ble_eq_true rfl) (cW_kep2 _) ?_
        refine V_inc6 (nI (k + 1)) dX0_findBest_108 (nI_inc k) rfl (by decide) ?_
        refine V_goto 60 dX0_findBest_111 (by decide) ?_
        refine V_dr7 ?_
        refine V_dr8 ?_
        refine V_eq rfl rfl ?_ ihl2
        try rw [up_up2]
        simp only [fbC]
        first | rw [if_pos (show jxC (kpT σ M p N) _ N ≤ _ from c93)] | rw [if_neg (show ¬ jxC (kpT σ M p N) _ N ≤ _ from c93)]
        try rfl
  have l2E : V X D tc cX0_findBest RX0 9 60 ((fun k => [some (.ref (A 28)), some (.ref (A (mb 5))), some (.int (nI p)), some (.int (nI N)), some (.int (clC (σ 5) (nI p) M)), some (.int (nI (rwN N (clC (σ 5) (nI p) M) 6))), some (.int (nI k)), none, none]) ((rwN N (clC (σ 5) (nI p) M) 6))) [] ((fun k => cW A tc (up (up (upF σ 8 0 (kpT σ M p N)) 8 1 0 (fbC (kpT σ M p N) N (clC (σ 5) (nI p) M) (σ 8 2 0) k).1) 8 2 0 (fbC (kpT σ M p N) N (clC (σ 5) (nI p) M) (σ 8 2 0) k).2)) ((rwN N (clC (σ 5) (nI p) M) 6))) := by
    refine V_ild6 dX0_findBest_60 ?_
    refine V_ild5 dX0_findBest_62 ?_
    refine V_icmp_ge 114 dX0_findBest_64 (by decide) (fun c64 => ?_) (fun c64 => ?_)
    · exact V_vret hX dX0_findBest_114 rfl rfl rfl
    · exact absurd (ge_yes rfl) c64
  have l2 := V_for (fun k => [some (.ref (A 28)), some (.ref (A (mb 5))), some (.int (nI p)), some (.int (nI N)), some (.int (clC (σ 5) (nI p) M)), some (.int (nI (rwN N (clC (σ 5) (nI p) M) 6))), some (.int (nI k)), none, none]) (fun k => cW A tc (up (up (upF σ 8 0 (kpT σ M p N)) 8 1 0 (fbC (kpT σ M p N) N (clC (σ 5) (nI p) M) (σ 8 2 0) k).1) 8 2 0 (fbC (kpT σ M p N) N (clC (σ 5) (nI p) M) (σ 8 2 0) k).2)) ((rwN N (clC (σ 5) (nI p) M) 6)) l2S l2E
  have l2z : V X D tc cX0_findBest RX0 9 60 [some (.ref (A 28)), some (.ref (A (mb 5))), some (.int (nI p)), some (.int (nI N)), some (.int (clC (σ 5) (nI p) M)), some (.int (nI (rwN N (clC (σ 5) (nI p) M) 6))), some (.int 0), none, none] [] (cW A tc (up (upF σ 8 0 (kpT σ M p N)) 8 1 0 (-9))) := by
    refine V_eq rfl rfl ?_ (l2 0 (Nat.zero_le _))
    exact congrArg (cW A tc) (up_self (up (upF σ 8 0 (kpT σ M p N)) 8 1 0 (-9)) 8 2 0).symm
  have l1S : ∀ k, k < 6 → V X D tc cX0_findBest RX0 9 22 ((fun k => [some (.ref (A 28)), some (.ref (A (mb 5))), some (.int (nI p)), some (.int (nI N)), some (.int (clC (σ 5) (nI p) M)), some (.int (nI (rwN N (clC (σ 5) (nI p) M) k))), some (.int (nI k)), none, none]) (k + 1)) [] ((fun k => cW A tc (upF σ 8 0 (kpT σ M p N))) (k + 1)) → V X D tc cX0_findBest RX0 9 22 ((fun k => [some (.ref (A 28)), some (.ref (A (mb 5))), some (.int (nI p)), some (.int (nI N)), some (.int (clC (σ 5) (nI p) M)), some (.int (nI (rwN N (clC (σ 5) (nI p) M) k))), some (.int (nI k)), none, none]) k) [] ((fun k => cW A tc (upF σ 8 0 (kpT σ M p N))) k) := by
    intro k hk ihl1
    refine V_ild6 dX0_findBest_22 ?_
    refine V_bipush 6 dX0_findBest_24 (by decide) ?_
    refine V_icmp_ge 51 dX0_findBest_26 (by decide) (fun c26 => ?_) (fun c26 => ?_)
    · exact absurd c26 (L6 hk)
    · refine V_ild4 dX0_findBest_29 ?_
      refine V_ild6 dX0_findBest_31 ?_
      refine V_callN ln_X0_32 (ok_isIn _ _) dX0_findBest_33 (dep hX (by decide)) rfl (Nat.le_of_ble_eq_true rfl) ?_
      refine V_if_eq 45 dX0_findBest_36 (by decide) (fun c36 => ?_) (fun c36 => ?_)
      · try rw [b2i_eq] at c36
        try rw [Decidable.not_not] at c36
        refine V_inc6 (nI (k + 1)) dX0_findBest_45 (nI_inc k) rfl (by decide) ?_
        refine V_goto 22 dX0_findBest_48 (by decide) ?_
        refine V_eq ?_ rfl rfl ihl1
        (try first | replace c26 := eq_false c26 | replace c26 := eq_true c26); (try first | replace c36 := eq_false c36 | replace c36 := eq_true c36);
        simp only [rwN, c26, c36, not_true_eq_false, not_false_eq_true, and_self, true_and, and_true, false_and, and_false, true_or, or_true, false_or, or_false, or_self, ↓reduceIte]
      · try rw [b2i_ne] at c36
        try rw [Decidable.not_not] at c36
        refine V_ild5 dX0_findBest_39 ?_
        refine V_ild3 dX0_findBest_41 ?_
        refine V_imul dX0_findBest_42 ?_
        refine V_top (y := nI (rwN N (clC (σ 5) (nI p) M) k * N)) (pk_mul _ _) ?_
        refine V_ist5 dX0_findBest_43 rfl (by decide) ?_
        refine V_inc6 (nI (k + 1)) dX0_findBest_45 (nI_inc k) rfl (by decide) ?_
        refine V_goto 22 dX0_findBest_48 (by decide) ?_
        refine V_eq ?_ rfl rfl ihl1
        (try first | replace c26 := eq_false c26 | replace c26 := eq_true c26); (try first | replace c36 := eq_false c36 | replace c36 := eq_true c36);
        simp only [rwN, c26, c36, not_true_eq_false, not_false_eq_true, and_self, true_and, and_true, false_and, and_false, true_or, or_true, false_or, or_false, or_self, ↓reduceIte]
  have l1E : V X D tc cX0_findBest RX0 9 22 ((fun k => [some (.ref (A 28)), some (.ref (A (mb 5))), some (.int (nI p)), some (.int (nI N)), some (.int (clC (σ 5) (nI p) M)), some (.int (nI (rwN N (clC (σ 5) (nI p) M) k))), some (.int (nI k)), none, none]) (6)) [] ((fun k => cW A tc (upF σ 8 0 (kpT σ M p N))) (6)) := by
    refine V_ild6 dX0_findBest_22 ?_
    refine V_bipush 6 dX0_findBest_24 (by decide) ?_
    refine V_icmp_ge 51 dX0_findBest_26 (by decide) (fun c26 => ?_) (fun c26 => ?_)
    · refine V_ald0 dX0_findBest_51 ?_
      refine V_bipush (-9) dX0_findBest_52 (by decide) ?_
      refine V_puti lp_X0_15 dX0_findBest_54 cW_ke (Nat.le_of_ble_eq_true rfl) (cW_kep1 _) ?_
      refine V_iconst 0 dX0_findBest_57 (by decide) ?_
      refine V_ist6 dX0_findBest_58 rfl (by decide) ?_
      exact l2z
    · exact absurd E6 c26
  have l1 := V_for (fun k => [some (.ref (A 28)), some (.ref (A (mb 5))), some (.int (nI p)), some (.int (nI N)), some (.int (clC (σ 5) (nI p) M)), some (.int (nI (rwN N (clC (σ 5) (nI p) M) k))), some (.int (nI k)), none, none]) (fun k => cW A tc (upF σ 8 0 (kpT σ M p N))) (6) l1S l1E
  refine V_ald1 dX0_findBest_0 ?_
  refine V_ild2 dX0_findBest_1 ?_
  refine V_callV lm_X0_22 (ok_closedOf now5 hM h6 _) dX0_findBest_2 (cW_mkt now5) rfl (dep hX (by decide)) rfl (Nat.le_of_ble_eq_true rfl) ?_
  refine V_ist4 dX0_findBest_5 rfl (by decide) ?_
  refine V_ald0 dX0_findBest_7 ?_
  refine V_ald1 dX0_findBest_8 ?_
  refine V_ild2 dX0_findBest_9 ?_
  refine V_ild3 dX0_findBest_10 ?_
  refine V_ild4 dX0_findBest_11 ?_
  refine V_callVv lm_X0_28 (ok_weighDays hM h6 p hp hN3 _) dX0_findBest_13 cW_ke rfl (dep hX (by decide)) rfl (Nat.le_of_ble_eq_true rfl) ?_
  refine V_iconst 1 dX0_findBest_16 (by decide) ?_
  refine V_ist5 dX0_findBest_17 rfl (by decide) ?_
  refine V_iconst 0 dX0_findBest_19 (by decide) ?_
  refine V_ist6 dX0_findBest_20 rfl (by decide) ?_
  exact l1 0 (Nat.zero_le _)
set_option maxRecDepth 100000 in
set_option maxHeartbeats 4000000 in
theorem ok_keep (hP : σ 5 9 0 = nI P) (h4 : P ≤ 4) (hM : σ 5 10 0 = nI M) (h6 : M ≤ 6) (p n k : Int32) : Ok 5 yX5_keep cX5_keep 4 (some .int) D tc [.ref (A 0), .int p, .int n, .int k] (cW A tc σ) (some (.int (R_keep σ M p n k))) (cW A tc (S_keep σ M p n k)) := by
  refine Ok_of RX5 rfl (by decide) [some (.ref (A 0)), some (.int p), some (.int n), some (.int k)] rfl (Nat.le_of_ble_eq_true rfl) ?_
  intro X hX
  refine V_ald0 dX5_keep_0 ?_
  refine V_get lf_X5_20 dX5_keep_1 cW_main rfl ?_
  refine V_ild1 dX5_keep_4 ?_
  refine V_callV lm_X5_112 (ok_isPerson now5 _) dX5_keep_5 (cW_mkt now5) rfl (dep hX (by decide)) rfl (Nat.le_of_ble_eq_true rfl) ?_
  refine V_if_ne 13 dX5_keep_8 (by decide) (fun c8 => ?_) (fun c8 => ?_)
  · try rw [b2i_ne] at c8
    try rw [Decidable.not_not] at c8
    obtain ⟨j, hj, ej⟩ := isP_of hP (by omega) c8
    subst ej
    have hcj : (nI j).toNatClampNeg = j := nI_clamp (by omega)
    refine V_ild2 dX5_keep_13 ?_
    refine V_iconst 1 dX5_keep_14 (by decide) ?_
    refine V_icmp_lt 34 dX5_keep_15 (by decide) (fun c15 => ?_) (fun c15 => ?_)
    · refine V_bipush (-2) dX5_keep_34 (by decide) ?_
      exact V_iret hX dX5_keep_36 rfl (by (try first | replace c8 := eq_false c8 | replace c8 := eq_true c8); (try first | replace c15 := eq_false c15 | replace c15 := eq_true c15); simp only [R_keep, c8, c15, not_true_eq_false, not_false_eq_true, and_self, true_and, and_true, false_and, and_false, true_or, or_true, false_or, or_false, or_self, ↓reduceIte]) (congrArg (cW A tc) (by (try first | replace c8 := eq_false c8 | replace c8 := eq_true c8); (try first | replace c15 := eq_false c15 | replace c15 := eq_true c15); simp only [S_keep, c8, c15, not_true_eq_false, not_false_eq_true, and_self, true_and, and_true, false_and, and_false, true_or, or_true, false_or, or_false, or_self, ↓reduceIte]))
    · refine V_ild2 dX5_keep_18 ?_
      refine V_iconst 3 dX5_keep_19 (by decide) ?_
      refine V_icmp_gt 34 dX5_keep_20 (by decide) (fun c20 => ?_) (fun c20 => ?_)
      · refine V_bipush (-2) dX5_keep_34 (by decide) ?_
        exact V_iret hX dX5_keep_36 rfl (by (try first | replace c8 := eq_false c8 | replace c8 := eq_true c8); (try first | replace c15 := eq_false c15 | replace c15 := eq_true c15); (try first | replace c20 := eq_false c20 | replace c20 := eq_true c20); simp only [R_keep, c8, c15, c20, not_true_eq_false, not_false_eq_true, and_self, true_and, and_true, false_and, and_false, true_or, or_true, false_or, or_false, or_self, ↓reduceIte]) (congrArg (cW A tc) (by (try first | replace c8 := eq_false c8 | replace c8 := eq_true c8); (try first | replace c15 := eq_false c15 | replace c15 := eq_true c15); (try first | replace c20 := eq_false c20 | replace c20 := eq_true c20); simp only [S_keep, c8, c15, c20, not_true_eq_false, not_false_eq_true, and_self, true_and, and_true, false_and, and_false, true_or, or_true, false_or, or_false, or_self, ↓reduceIte]))
      · obtain ⟨N, hN1, hN3, eN⟩ := n13 c15 c20
        subst eN
        have hcN : (nI N).toNatClampNeg = N := nI_clamp (by omega)
        have hN0 : ¬ nI N = 0 := nI_ne0 hN1 (by omega)
        refine V_ild3 dX5_keep_23 ?_
        refine V_iconst (-1) dX5_keep_24 (by decide) ?_
        refine V_icmp_lt 34 dX5_keep_25 (by decide) (fun c25 => ?_) (fun c25 => ?_)
        · refine V_bipush (-2) dX5_keep_34 (by decide) ?_
          exact V_iret hX dX5_keep_36 rfl (by (try first | replace c8 := eq_false c8 | replace c8 := eq_true c8); (try first | replace c15 := eq_false c15 | replace c15 := eq_true c15); (try first | replace c20 := eq_false c20 | replace c20 := eq_true c20); (try first | replace c25 := eq_false c25 | replace c25 := eq_true c25); simp only [R_keep, c8, c15, c20, c25, not_true_eq_false, not_false_eq_true, and_self, true_and, and_true, false_and, and_false, true_or, or_true, false_or, or_false, or_self, ↓reduceIte]) (congrArg (cW A tc) (by (try first | replace c8 := eq_false c8 | replace c8 := eq_true c8); (try first | replace c15 := eq_false c15 | replace c15 := eq_true c15); (try first | replace c20 := eq_false c20 | replace c20 := eq_true c20); (try first | replace c25 := eq_false c25 | replace c25 := eq_true c25); simp only [S_keep, c8, c15, c20, c25, not_true_eq_false, not_false_eq_true, and_self, true_and, and_true, false_and, and_false, true_or, or_true, false_or, or_false, or_self, ↓reduceIte]))
        · refine V_ild3 dX5_keep_28 ?_
          refine V_bipush 6 dX5_keep_29 (by decide) ?_
          refine V_icmp_lt 37 dX5_keep_31 (by decide) (fun c31 => ?_) (fun c31 => ?_)
          · refine V_ald0 dX5_keep_37 ?_
            refine V_get lf_X5_37 dX5_keep_38 cW_main rfl ?_
            refine V_ald0 dX5_keep_41 ?_
            refine V_get lf_X5_20 dX5_keep_42 cW_main rfl ?_
            refine V_ild1 dX5_keep_45 ?_
            refine V_ild2 dX5_keep_46 ?_
            refine V_callVv lm_X5_179 (ok_findBest hM h6 j (by omega) hN0 hN3) dX5_keep_47 cW_ke rfl (dep hX (by decide)) rfl (Nat.le_of_ble_eq_true rfl) ?_
            refine V_ild3 dX5_keep_50 ?_
            refine V_iconst (-1) dX5_keep_51 (by decide) ?_
            refine V_icmp_ne 65 dX5_keep_52 (by decide) (fun c52 => ?_) (fun c52 => ?_)
            · refine V_ald0 dX5_keep_65 ?_
              refine V_get lf_X5_37 dX5_keep_66 cW_main rfl ?_
              refine V_ild3 dX5_keep_69 ?_
              refine V_callV lm_X5_186 (ok_dayOf _) dX5_keep_70 cW_ke rfl (dep hX (by decide)) rfl (Nat.le_of_ble_eq_true rfl) ?_
              exact V_iret hX dX5_keep_73 rfl (by (try first | replace c8 := eq_false c8 | replace c8 := eq_true c8); (try first | replace c15 := eq_false c15 | replace c15 := eq_true c15); (try first | replace c20 := eq_false c20 | replace c20 := eq_true c20); (try first | replace c25 := eq_false c25 | replace c25 := eq_true c25); (try first | replace c31 := eq_false c31 | replace c31 := eq_true c31); (try first | replace c52 := eq_false c52 | replace c52 := eq_true c52); simp only [R_keep, hcj, hcN, c8, c15, c20, c25, c31, c52, not_true_eq_false, not_false_eq_true, and_self, true_and, and_true, false_and, and_false, true_or, or_true, false_or, or_false, or_self, ↓reduceIte]; try rfl) (congrArg (cW A tc) (by (try first | replace c8 := eq_false c8 | replace c8 := eq_true c8); (try first | replace c15 := eq_false c15 | replace c15 := eq_true c15); (try first | replace c20 := eq_false c20 | replace c20 := eq_true c20); (try first | replace c25 := eq_false c25 | replace c25 := eq_true c25); (try first | replace c31 := eq_false c31 | replace c31 := eq_true c31); (try first | replace c52 := eq_false c52 | replace c52 := eq_true c52); simp only [S_keep, hcj, hcN, c8, c15, c20, c25, c31, c52, not_true_eq_false, not_false_eq_true, and_self, true_and, and_true, false_and, and_false, true_or, or_true, false_or, or_false, or_self, ↓reduceIte]))
            · refine V_ald0 dX5_keep_55 ?_
              refine V_get lf_X5_37 dX5_keep_56 cW_main rfl ?_
              refine V_get lf_X5_183 dX5_keep_59 cW_ke rfl ?_
              refine V_goto 73 dX5_keep_62 (by decide) ?_
              exact V_iret hX dX5_keep_73 rfl (by (try first | replace c8 := eq_false c8 | replace c8 := eq_true c8); (try first | replace c15 := eq_false c15 | replace c15 := eq_true c15); (try first | replace c20 := eq_false c20 | replace c20 := eq_true c20); (try first | replace c25 := eq_false c25 | replace c25 := eq_true c25); (try first | replace c31 := eq_false c31 | replace c31 := eq_true c31); (try first | replace c52 := eq_false c52 | replace c52 := eq_true c52); simp only [R_keep, hcj, hcN, c8, c15, c20, c25, c31, c52, not_true_eq_false, not_false_eq_true, and_self, true_and, and_true, false_and, and_false, true_or, or_true, false_or, or_false, or_self, ↓reduceIte]; try rfl) (congrArg (cW A tc) (by (try first | replace c8 := eq_false c8 | replace c8 := eq_true c8); (try first | replace c15 := eq_false c15 | replace c15 := eq_true c15); (try first | replace c20 := eq_false c20 | replace c20 := eq_true c20); (try first | replace c25 := eq_false c25 | replace c25 := eq_true c25); (try first | replace c31 := eq_false c31 | replace c31 := eq_true c31); (try first | replace c52 := eq_false c52 | replace c52 := eq_true c52); simp only [S_keep, hcj, hcN, c8, c15, c20, c25, c31, c52, not_true_eq_false, not_false_eq_true, and_self, true_and, and_true, false_and, and_false, true_or, or_true, false_or, or_false, or_self, ↓reduceIte]))
          · refine V_bipush (-2) dX5_keep_34 (by decide) ?_
            exact V_iret hX dX5_keep_36 rfl (by (try first | replace c8 := eq_false c8 | replace c8 := eq_true c8); (try first | replace c15 := eq_false c15 | replace c15 := eq_true c15); (try first | replace c20 := eq_false c20 | replace c20 := eq_true c20); (try first | replace c25 := eq_false c25 | replace c25 := eq_true c25); (try first | replace c31 := eq_false c31 | replace c31 := eq_true c31); simp only [R_keep, c8, c15, c20, c25, c31, not_true_eq_false, not_false_eq_true, and_self, true_and, and_true, false_and, and_false, true_or, or_true, false_or, or_false, or_self, ↓reduceIte]) (congrArg (cW A tc) (by (try first | replace c8 := eq_false c8 | replace c8 := eq_true c8); (try first | replace c15 := eq_false c15 | replace c15 := eq_true c15); (try first | replace c20 := eq_false c20 | replace c20 := eq_true c20); (try first | replace c25 := eq_false c25 | replace c25 := eq_true c25); (try first | replace c31 := eq_false c31 | replace c31 := eq_true c31); simp only [S_keep, c8, c15, c20, c25, c31, not_true_eq_false, not_false_eq_true, and_self, true_and, and_true, false_and, and_false, true_or, or_true, false_or, or_false, or_self, ↓reduceIte]))
  · try rw [b2i_eq] at c8
    try rw [Decidable.not_not] at c8
    refine V_iconst (-1) dX5_keep_11 (by decide) ?_
    exact V_iret hX dX5_keep_12 rfl (by (try first | replace c8 := eq_false c8 | replace c8 := eq_true c8); simp only [R_keep, c8, not_true_eq_false, not_false_eq_true, and_self, true_and, and_true, false_and, and_false, true_or, or_true, false_or, or_false, or_self, ↓reduceIte]) (congrArg (cW A tc) (by (try first | replace c8 := eq_false c8 | replace c8 := eq_true c8); simp only [S_keep, c8, not_true_eq_false, not_false_eq_true, and_self, true_and, and_true, false_and, and_false, true_or, or_true, false_or, or_false, or_self, ↓reduceIte]))
end
