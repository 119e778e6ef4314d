theorem acS_10 {σ : St} {x y : Int32} : acS σ x y 6 10 = σ 6 10 := by
  unfold acS unC hoC
  split
  · split
    · rfl
    · rw [up_k (by decide)]
  · split
    · split
      · rfl
      · rw [up_k (by decide), up_k (by decide), up_k (by decide)]
    · split
      · rw [up_k (by decide), up_k (by decide), up_k (by decide)]
      · rfl
theorem yr_keep {σ : St} {X Y : Nat → Int32} : ∀ n, (yr σ X Y n).2 6 9 = σ 6 9 ∧ (yr σ X Y n).2 6 10 = σ 6 10 := by
  intro n
  induction n with
  | zero => exact ⟨rfl, rfl⟩
  | succ n ih =>
    rw [show yr σ X Y (n + 1) = (if (yr σ X Y n).1 = -9 then (if acI (yr σ X Y n).2 (X n) (Y n) = 0 then (nI n, (yr σ X Y n).2) else (-9, acS (yr σ X Y n).2 (X n) (Y n))) else yr σ X Y n) from rfl]
    split
    · split
      · exact ih
      · exact ⟨acS_9.trans ih.1, acS_10.trans ih.2⟩
    · exact ih
def ydS (σ : St) : St := fjC (blC σ 6 5)
theorem yd_sh {σ : St} {j : Nat} (hj : j < 4) : ydS σ (1 + j) = σ (1 + j) := by
  have h : ¬ 1 + j = 6 := by omega
  unfold ydS fjC blC
  simp only [up_o h, upF_o h]
theorem yd_own {σ : St} {m : Nat} (hm : m < 6) : ydS σ 6 4 m = σ 5 4 m := by
  show va_cpy (σ 5 4) (σ 6 4) 0 0 6 m = _
  rw [pk_cpy_in (Nat.zero_le _) (by omega)]
  simp
def yrT (σ : St) (j a N : Nat) : Int32 × St := yr (ydS σ) (pX (ydS σ) j a) (pY (ydS σ) j a) N
def rfT (σ : St) (j a N : Nat) : Int32 := ffR (fun k => rfI (σ 5 10 0) (pX σ j a k) (pY σ j a k)) N
def R_year (σ : St) (P j : Nat) (l i n w : Int32) : Int32 := if laI l ∧ ¬ n < 0 ∧ ¬ 20 < n ∧ yeI w then (if ¬ σ (1 + j) 1 0 = -1 ∧ ¬ σ (1 + j) 2 0 = l then -12 else if σ (1 + j) 1 0 = -1 then -11 else if hcI (σ (1 + j) 1 0) i (2 * n) then (if 0 < σ 5 9 0 then
  (if rfT σ j i.toNatClampNeg n.toNatClampNeg = 0 then (if w = 1 then (yrT σ j i.toNatClampNeg n.toNatClampNeg).1 else if (yrT σ j i.toNatClampNeg n.toNatClampNeg).1 = -9 then byC ((yrT σ j i.toNatClampNeg n.toNatClampNeg).2 6) P w else -100 - (yrT σ j i.toNatClampNeg n.toNatClampNeg).1) else rfT σ j i.toNatClampNeg n.toNatClampNeg) else -3) else -13) else -2
def S_year (σ : St) (j : Nat) (l i n w : Int32) : St := if laI l ∧ ¬ n < 0 ∧ ¬ 20 < n ∧ yeI w then (if ¬ σ (1 + j) 1 0 = -1 ∧ ¬ σ (1 + j) 2 0 = l then faC σ 2 else if σ (1 + j) 1 0 = -1 then faC σ 1 else if hcI (σ (1 + j) 1 0) i (2 * n) then (if 0 < σ 5 9 0 then
  (if rfT σ j i.toNatClampNeg n.toNatClampNeg = 0 then (yrT σ j i.toNatClampNeg n.toNatClampNeg).2 else σ) else σ) else faC σ 3) else σ
section
variable {D : va_G} {tc : Tc} {A : Nat → Nat} {σ : St} {M P C N j : Nat}
set_option maxRecDepth 100000 in
set_option maxHeartbeats 4000000 in
theorem ok_year (hP : σ 5 9 0 = nI P) (h4 : P ≤ 4) (hM : σ 5 10 0 = nI M) (h6 : M ≤ 6) (hw : ∀ m, m < M → ∃ q, q < 4 ∧ σ 5 4 m = nI q) (hj : j < 4) (hl : lenOk (σ (1 + j) 1 0)) (l i n w : Int32) : Ok 6 yX5_year cX5_year 9 (some .int) D tc [.ref (A 0), .int (nI j), .int l, .int i, .int n, .int w] (cW A tc σ) (some (.int (R_year (faC σ 0) P j l i n w))) (cW A tc (S_year (faC σ 0) j l i n w)) := by
  refine Ok_of RX5 rfl (by decide) [some (.ref (A 0)), some (.int (nI j)), some (.int l), some (.int i), some (.int n), some (.int w), none, none, none] rfl (Nat.le_of_ble_eq_true rfl) ?_
  intro X hX
  refine V_ald0 dX5_year_0 ?_
  refine V_iconst 0 dX5_year_1 (by decide) ?_
  refine V_puti lp_X5_52 dX5_year_2 cW_main (Nat.le_of_ble_eq_true rfl) (cW_mainp7 _) ?_
  have hM := (show (faC σ 0) 5 10 0 = nI M from hM)
  have hP := (show (faC σ 0) 5 9 0 = nI P from hP)
  have hl := (show lenOk ((faC σ 0) (1 + j) 1 0) from by rw [faC_sh]; exact hl)
  have hw := (show ∀ m, m < M → ∃ q, q < 4 ∧ (faC σ 0) 5 4 m = nI q from hw)
  change V _ _ _ _ _ _ _ _ _ (cW A tc (faC σ 0))
  generalize faC σ 0 = σ at hX hM hP hl hw ⊢
  refine V_ald0 dX5_year_5 ?_
  refine V_ild1 dX5_year_6 ?_
  refine V_callV lm_X5_56 (ok_sheetAt hj) dX5_year_7 cW_main rfl (dep hX (by decide)) rfl (Nat.le_of_ble_eq_true rfl) ?_
  refine V_ast6 dX5_year_10 rfl (by decide) ?_
  refine V_ald6 dX5_year_12 ?_
  refine V_ifnonnull 19 dX5_year_14 (by decide) ?_
  refine V_ild2 dX5_year_19 ?_
  refine V_callS ls_X5_60 (ok_isLane _) dX5_year_20 (dep hX (by decide)) rfl (Nat.le_of_ble_eq_true rfl) ?_
  refine V_if_eq 46 dX5_year_23 (by decide) (fun c23 => ?_) (fun c23 => ?_)
  · try rw [b2i_eq] at c23
    try rw [Decidable.not_not] at c23
    have hn : ¬ (laI l ∧ ¬ n < 0 ∧ ¬ 20 < n ∧ yeI w) := fun h => c23 h.1
    refine V_bipush (-2) dX5_year_46 (by decide) ?_
    exact V_iret hX dX5_year_48 rfl (by rw [R_year, if_neg hn]) (congrArg (cW A tc) (by rw [S_year, if_neg hn]))
  · try rw [b2i_ne] at c23
    try rw [Decidable.not_not] at c23
    refine V_ild4 dX5_year_26 ?_
    refine V_if_lt 46 dX5_year_28 (by decide) (fun c28 => ?_) (fun c28 => ?_)
    · have hn : ¬ (laI l ∧ ¬ n < 0 ∧ ¬ 20 < n ∧ yeI w) := fun h => h.2.1 c28
      refine V_bipush (-2) dX5_year_46 (by decide) ?_
      exact V_iret hX dX5_year_48 rfl (by rw [R_year, if_neg hn]) (congrArg (cW A tc) (by rw [S_year, if_neg hn]))
    · refine V_ild4 dX5_year_31 ?_
      refine V_bipush 20 dX5_year_33 (by decide) ?_
      refine V_icmp_gt 46 dX5_year_35 (by decide) (fun c35 => ?_) (fun c35 => ?_)
      · have hn : ¬ (laI l ∧ ¬ n < 0 ∧ ¬ 20 < n ∧ yeI w) := fun h => h.2.2.1 c35
        refine V_bipush (-2) dX5_year_46 (by decide) ?_
        exact V_iret hX dX5_year_48 rfl (by rw [R_year, if_neg hn]) (congrArg (cW A tc) (by rw [S_year, if_neg hn]))
      · refine V_ild5 dX5_year_38 ?_
        refine V_callS ls_X5_160 (ok_canBeAsked _) dX5_year_40 (dep hX (by decide)) rfl (Nat.le_of_ble_eq_true rfl) ?_
        refine V_if_ne 49 dX5_year_43 (by decide) (fun c43 => ?_) (fun c43 => ?_)
        · try rw [b2i_ne] at c43
          try rw [Decidable.not_not] at c43
          have hc : laI l ∧ ¬ n < 0 ∧ ¬ 20 < n ∧ yeI w := ⟨c23, c28, c35, c43⟩
          refine V_ald6 dX5_year_49 ?_
          refine V_ild2 dX5_year_51 ?_
          refine V_callV lm_X5_64 (ok_isOfAnotherLane hj _) dX5_year_52 (cW_sh hj) rfl (dep hX (by decide)) rfl (Nat.le_of_ble_eq_true rfl) ?_
          refine V_if_eq 64 dX5_year_55 (by decide) (fun c55 => ?_) (fun c55 => ?_)
          · try rw [b2i_eq] at c55
            try rw [Decidable.not_not] at c55
            refine V_ald6 dX5_year_64 ?_
            refine V_callV lm_X5_71 (ok_hasRow hj) dX5_year_66 (cW_sh hj) rfl (dep hX (by decide)) rfl (Nat.le_of_ble_eq_true rfl) ?_
            refine V_if_ne 78 dX5_year_69 (by decide) (fun c69 => ?_) (fun c69 => ?_)
            · try rw [b2i_ne] at c69
              try rw [Decidable.not_not] at c69
              refine V_ald6 dX5_year_78 ?_
              refine V_ild3 dX5_year_80 ?_
              refine V_iconst 2 dX5_year_81 (by decide) ?_
              refine V_ild4 dX5_year_82 ?_
              refine V_imul dX5_year_84 ?_
              refine V_callV lm_X5_75 (ok_hasCells hj _ _) dX5_year_85 (cW_sh hj) rfl (dep hX (by decide)) rfl (Nat.le_of_ble_eq_true rfl) ?_
              refine V_if_ne 97 dX5_year_88 (by decide) (fun c88 => ?_) (fun c88 => ?_)
              · try rw [b2i_ne] at c88
                try rw [Decidable.not_not] at c88
                obtain ⟨a, e, len, ea, ee, hae, hn6, hxn⟩ := hc_in hl c69 c88
                obtain ⟨N, hN, eN⟩ := nI_of c28
                have h20 : N ≤ 20 := by
                  rw [eN, show (20 : Int32) = nI 20 by decide, nI_ltI (by decide) hN] at c35; omega
                have he2 : e = 2 * N := by
                  rw [eN, show (2 : Int32) = nI 2 by decide, pk_mul] at ee
                  exact ((nI_eq (by omega) (by omega)).mp ee).symm
                subst eN; subst ea
                have hca : (nI a).toNatClampNeg = a := nI_clamp (by omega)
                have hcN : (nI N).toNatClampNeg = N := nI_clamp (by omega)
                have hb60 : a + 2 * N ≤ 60 := by omega
                refine V_ald0 dX5_year_97 ?_
                refine V_get lf_X5_20 dX5_year_98 cW_main rfl ?_
                refine V_callV lm_X5_132 (ok_isThere now5) dX5_year_101 (cW_mkt now5) rfl (dep hX (by decide)) rfl (Nat.le_of_ble_eq_true rfl) ?_
                refine V_if_ne 110 dX5_year_104 (by decide) (fun c104 => ?_) (fun c104 => ?_)
                · try rw [b2i_ne] at c104
                  try rw [Decidable.not_not] at c104
                  
                  refine V_ald0 dX5_year_110 ?_
                  refine V_ald6 dX5_year_111 ?_
                  refine V_ild3 dX5_year_113 ?_
                  refine V_ild4 dX5_year_114 ?_
                  refine V_callV lm_X5_163 (ok_refusalOfPairs hj a hb60) dX5_year_116 cW_main rfl (dep hX (by decide)) rfl (Nat.le_of_ble_eq_true rfl) ?_
                  refine V_ist7 dX5_year_119 rfl (by decide) ?_
                  
                  refine V_ild7 dX5_year_121 ?_
                  refine V_if_eq 129 dX5_year_123 (by decide) (fun c123 => ?_) (fun c123 => ?_)
                  · have hrf : rfT σ j a N = 0 := c123
                    have hall : ∀ k, k < N → rfI (nI M) (pX (ydS σ) j a k) (pY (ydS σ) j a k) = 0 := by
                      intro k hk
                      have := ffR_all N c123 k hk
                      rw [hM] at this
                      rw [show pX (ydS σ) j a k = pX σ j a k by unfold pX; rw [yd_sh hj], show pY (ydS σ) j a k = pY σ j a k by unfold pY; rw [yd_sh hj]]
                      exact this
                    refine V_ald0 dX5_year_129 ?_
                    refine V_get lf_X5_24 dX5_year_130 cW_main rfl ?_
                    refine V_ald0 dX5_year_133 ?_
                    refine V_get lf_X5_20 dX5_year_134 cW_main rfl ?_
                    refine V_callVv lm_X5_83 (ok_becomeLike65) dX5_year_137 (cW_mkt dra6) rfl (dep hX (by decide)) rfl (Nat.le_of_ble_eq_true rfl) ?_
                    refine V_ald0 dX5_year_140 ?_
                    refine V_get lf_X5_24 dX5_year_141 cW_main rfl ?_
                    refine V_callVv lm_X5_167 (ok_forgetJoy) dX5_year_144 (cW_mkt dra6) rfl (dep hX (by decide)) rfl (Nat.le_of_ble_eq_true rfl) ?_
                    refine V_ald0 dX5_year_147 ?_
                    refine V_ald6 dX5_year_148 ?_
                    refine V_ild3 dX5_year_150 ?_
                    refine V_ild4 dX5_year_151 ?_
                    refine V_callV lm_X5_170 (ok_firstWrongIn (σ := ydS σ) (P := P) (M := M) hP h4 h6 (fun m hm => by rw [yd_own (by omega)]; exact hw m hm) hj a hb60 hall) dX5_year_153 cW_main rfl (dep hX (by decide)) rfl (Nat.le_of_ble_eq_true rfl) ?_
                    refine V_ist8 dX5_year_156 rfl (by decide) ?_
                    refine V_ild5 dX5_year_158 ?_
                    refine V_iconst 1 dX5_year_160 (by decide) ?_
                    refine V_icmp_ne 167 dX5_year_161 (by decide) (fun c161 => ?_) (fun c161 => ?_)
                    · refine V_ild8 dX5_year_167 ?_
                      refine V_bipush (-9) dX5_year_169 (by decide) ?_
                      refine V_icmp_eq 180 dX5_year_171 (by decide) (fun c171 => ?_) (fun c171 => ?_)
                      · refine V_ald0 dX5_year_180 ?_
                        refine V_ild5 dX5_year_181 ?_
                        refine V_callV lm_X5_173 (ok_behindYear (P := P) (M := M) (by have := (yr_keep (σ := ydS σ) (X := pX (ydS σ) j a) (Y := pY (ydS σ) j a) N).1; rw [this]; exact hP) h4 (by have := (yr_keep (σ := ydS σ) (X := pX (ydS σ) j a) (Y := pY (ydS σ) j a) N).2; rw [this]; exact hM) h6 _) dX5_year_183 cW_main rfl (dep hX (by decide)) rfl (Nat.le_of_ble_eq_true rfl) ?_
                        exact V_iret hX dX5_year_186 rfl (by rw [R_year, if_pos hc, if_neg c55, if_neg c69, if_pos c88, if_pos c104, hca, hcN, if_pos hrf, if_neg c161, if_pos (show (yrT σ j a N).1 = -9 from c171)]; rfl) (congrArg (cW A tc) (by rw [S_year, if_pos hc, if_neg c55, if_neg c69, if_pos c88, if_pos c104, hca, hcN, if_pos hrf]; rfl))
                      · refine V_bipush (-100) dX5_year_174 (by decide) ?_
                        refine V_ild8 dX5_year_176 ?_
                        refine V_isub dX5_year_178 ?_
                        exact V_iret hX dX5_year_179 rfl (by rw [R_year, if_pos hc, if_neg c55, if_neg c69, if_pos c88, if_pos c104, hca, hcN, if_pos hrf, if_neg c161, if_neg (show ¬ (yrT σ j a N).1 = -9 from c171)]; rfl) (congrArg (cW A tc) (by rw [S_year, if_pos hc, if_neg c55, if_neg c69, if_pos c88, if_pos c104, hca, hcN, if_pos hrf]; rfl))
                    · refine V_ild8 dX5_year_164 ?_
                      exact V_iret hX dX5_year_166 rfl (by rw [R_year, if_pos hc, if_neg c55, if_neg c69, if_pos c88, if_pos c104, hca, hcN, if_pos hrf, if_pos c161]; rfl) (congrArg (cW A tc) (by rw [S_year, if_pos hc, if_neg c55, if_neg c69, if_pos c88, if_pos c104, hca, hcN, if_pos hrf]; rfl))
                  · have hrf : ¬ rfT σ j a N = 0 := c123
                    refine V_ild7 dX5_year_126 ?_
                    exact V_iret hX dX5_year_128 rfl (by rw [R_year, if_pos hc, if_neg c55, if_neg c69, if_pos c88, if_pos c104, hca, hcN, if_neg hrf]; rfl) (congrArg (cW A tc) (by rw [S_year, if_pos hc, if_neg c55, if_neg c69, if_pos c88, if_pos c104, hca, hcN, if_neg hrf]))
                · try rw [b2i_eq] at c104
                  try rw [Decidable.not_not] at c104
                  refine V_bipush (-3) dX5_year_107 (by decide) ?_
                  exact V_iret hX dX5_year_109 rfl (by rw [R_year, if_pos hc, if_neg c55, if_neg c69, if_pos c88, if_neg c104]) (congrArg (cW A tc) (by rw [S_year, if_pos hc, if_neg c55, if_neg c69, if_pos c88, if_neg c104]))
              · try rw [b2i_eq] at c88
                try rw [Decidable.not_not] at c88
                refine V_ald0 dX5_year_91 ?_
                refine V_iconst 3 dX5_year_92 (by decide) ?_
                refine V_callV lm_X5_67 (ok_faulted 3) dX5_year_93 cW_main rfl (dep hX (by decide)) rfl (Nat.le_of_ble_eq_true rfl) ?_
                exact V_iret hX dX5_year_96 rfl (by rw [R_year, if_pos hc, if_neg c55, if_neg c69, if_neg c88]; decide) (congrArg (cW A tc) (by rw [S_year, if_pos hc, if_neg c55, if_neg c69, if_neg c88]))
            · try rw [b2i_eq] at c69
              try rw [Decidable.not_not] at c69
              refine V_ald0 dX5_year_72 ?_
              refine V_iconst 1 dX5_year_73 (by decide) ?_
              refine V_callV lm_X5_67 (ok_faulted 1) dX5_year_74 cW_main rfl (dep hX (by decide)) rfl (Nat.le_of_ble_eq_true rfl) ?_
              exact V_iret hX dX5_year_77 rfl (by rw [R_year, if_pos hc, if_neg c55, if_pos c69]; decide) (congrArg (cW A tc) (by rw [S_year, if_pos hc, if_neg c55, if_pos c69]))
          · try rw [b2i_ne] at c55
            try rw [Decidable.not_not] at c55
            refine V_ald0 dX5_year_58 ?_
            refine V_iconst 2 dX5_year_59 (by decide) ?_
            refine V_callV lm_X5_67 (ok_faulted 2) dX5_year_60 cW_main rfl (dep hX (by decide)) rfl (Nat.le_of_ble_eq_true rfl) ?_
            exact V_iret hX dX5_year_63 rfl (by rw [R_year, if_pos hc, if_pos c55]; decide) (congrArg (cW A tc) (by rw [S_year, if_pos hc, if_pos c55]))
        · try rw [b2i_eq] at c43
          try rw [Decidable.not_not] at c43
          have hn : ¬ (laI l ∧ ¬ n < 0 ∧ ¬ 20 < n ∧ yeI w) := fun h => c43 h.2.2.2
          refine V_bipush (-2) dX5_year_46 (by decide) ?_
          exact V_iret hX dX5_year_48 rfl (by rw [R_year, if_neg hn]) (congrArg (cW A tc) (by rw [S_year, if_neg hn]))
set_option maxRecDepth 100000 in
set_option maxHeartbeats 4000000 in
theorem ok_yearN (k : Int32) (hk : ¬ isS k) (l i n w : Int32) : Ok 1 yX5_year cX5_year 9 (some .int) D tc [.ref (A 0), .int k, .int l, .int i, .int n, .int w] (cW A tc σ) (some (.int (-1))) (cW A tc (faC σ 0)) := by
  refine Ok_of RX5 rfl (by decide) [some (.ref (A 0)), some (.int k), some (.int l), some (.int i), some (.int n), some (.int w), none, none, none] rfl (Nat.le_of_ble_eq_true rfl) ?_
  intro X hX
  refine V_ald0 dX5_year_0 ?_
  refine V_iconst 0 dX5_year_1 (by decide) ?_
  refine V_puti lp_X5_52 dX5_year_2 cW_main (Nat.le_of_ble_eq_true rfl) (cW_mainp7 _) ?_
  refine V_ald0 dX5_year_5 ?_
  refine V_ild1 dX5_year_6 ?_
  refine V_callV lm_X5_56 (ok_sheetAtN _ hk) dX5_year_7 cW_main rfl (dep hX (by decide)) rfl (Nat.le_of_ble_eq_true rfl) ?_
  refine V_astN6 dX5_year_10 rfl (by decide) ?_
  refine V_aldN6 dX5_year_12 ?_
  refine V_ifnonnullN dX5_year_14 ?_
  refine V_iconst (-1) dX5_year_17 (by decide) ?_
  exact V_iret hX dX5_year_18 rfl rfl rfl
end
