/-! the text is taken over -/
def tk3 (τ : Sm) (k : Nat) : Sm := umF (umF (umF τ 9 (cpN (τ 21) (τ 9) k)) 10 (fillN (τ 10) 0 k)) 11 (fillN (τ 11) 0 k)
theorem fill_s (f : Nat → Int32) (v : Int32) (k : Nat) : upd (fillN f v k) k v = fillN f v (k + 1) := by
  funext j
  unfold upd fillN
  by_cases e : j = k
  · rw [if_pos e, if_pos (by omega)]
  · by_cases h : j < k
    · rw [if_neg e, if_pos h, if_pos (by omega)]
    · rw [if_neg e, if_neg h, if_neg (by omega)]
theorem fill_0 (f : Nat → Int32) (v : Int32) : fillN f v 0 = f := by
  funext j
  exact if_neg (Nat.not_lt_zero _)
theorem um_F (τ : Sm) (k i : Nat) (v : Int32) : um τ k i v = umF τ k (upd (τ k) i v) := by
  funext k' i'
  unfold um umF upd
  by_cases h : k' = k
  · subst h; rw [if_pos rfl, if_pos rfl]
  · rw [if_neg h, if_neg h]
theorem umF_sw (τ : Sm) {a b : Nat} (g h : Nat → Int32) (hab : ¬ a = b) : umF (umF τ a g) b h = umF (umF τ b h) a g := by
  funext k'
  unfold umF
  by_cases h1 : k' = b
  · rw [if_pos h1, if_neg (fun z => hab (by omega)), if_pos h1]
  · rw [if_neg h1, if_neg h1]
theorem umF_um (τ : Sm) (a : Nat) (g h : Nat → Int32) : umF (umF τ a g) a h = umF τ a h := by
  funext k'
  unfold umF
  by_cases h1 : k' = a
  · rw [if_pos h1, if_pos h1]
  · rw [if_neg h1, if_neg h1, if_neg h1]
theorem tk3_0 (τ : Sm) : tk3 τ 0 = τ := by
  rw [tk3, fill_0, fill_0, cpN_0]
  funext k'
  unfold umF
  by_cases h1 : k' = 11
  · rw [if_pos h1, h1]
  · by_cases h2 : k' = 10
    · rw [if_neg h1, if_pos h2, h2]
    · by_cases h3 : k' = 9
      · rw [if_neg h1, if_neg h2, if_pos h3, h3]
      · rw [if_neg h1, if_neg h2, if_neg h3]
theorem tk3_s (τ : Sm) (k : Nat) : um (um (um (tk3 τ k) 9 k (τ 21 k)) 10 k 0) 11 k 0 = tk3 τ (k + 1) := by
  funext k' i'
  unfold tk3 um umF cpN fillN
  by_cases h3 : k' = 11
  · simp only [h3]
    by_cases e : i' = k
    · simp [e]
    · simp only [e, if_false]
      by_cases h : i' < k
      · simp [h, Nat.lt_succ_of_lt h]
      · simp [h, show ¬ i' < k + 1 by omega]
  · by_cases h2 : k' = 10
    · simp only [h2]
      by_cases e : i' = k
      · simp [e]
      · simp only [e, if_false]
        by_cases h : i' < k
        · simp [h, Nat.lt_succ_of_lt h]
        · simp [h, show ¬ i' < k + 1 by omega]
    · by_cases h1 : k' = 9
      · simp only [h1]
        by_cases e : i' = k
        · simp [e]
        · simp only [e, if_false]
          by_cases h : i' < k
          · simp [h, Nat.lt_succ_of_lt h]
          · simp [h, show ¬ i' < k + 1 by omega]
      · simp [h1, h2, h3]
def sel (R : Nat → Int32) (d : Nat) : Nat → Int32 := fun i => R (4 * i + d)
def tk5 (τ : Sm) (k : Nat) : Sm := umF (umF (umF (umF (umF τ 12 (cpN (sel (τ 22) 0) (τ 12) k)) 13 (cpN (sel (τ 22) 1) (τ 13) k)) 14 (cpN (sel (τ 22) 2) (τ 14) k)) 15 (cpN (sel (τ 22) 3) (τ 15) k)) 16 (fillN (τ 16) 0 k)
theorem tk5_0 (τ : Sm) : tk5 τ 0 = τ := by
  rw [tk5, fill_0, cpN_0, cpN_0, cpN_0, cpN_0]
  funext k'
  unfold umF
  by_cases h1 : k' = 16
  · rw [if_pos h1, h1]
  · rw [if_neg h1]
    by_cases h2 : k' = 15
    · rw [if_pos h2, h2]
    · rw [if_neg h2]
      by_cases h3 : k' = 14
      · rw [if_pos h3, h3]
      · rw [if_neg h3]
        by_cases h4 : k' = 13
        · rw [if_pos h4, h4]
        · rw [if_neg h4]
          by_cases h5 : k' = 12
          · rw [if_pos h5, h5]
          · rw [if_neg h5]
theorem tk5_s (τ : Sm) (k : Nat) : um (um (um (um (um (tk5 τ k) 12 k (τ 22 (4 * k))) 13 k (τ 22 (4 * k + 1))) 14 k (τ 22 (4 * k + 2))) 15 k (τ 22 (4 * k + 3))) 16 k 0 = tk5 τ (k + 1) := by
  funext k' i'
  by_cases h16 : k' = 16
  · subst h16
    rw [um_e]
    show upd (fillN (τ 16) 0 k) k 0 i' = fillN (τ 16) 0 (k + 1) i'
    rw [fill_s]
  rw [um_k h16]
  by_cases h15 : k' = 15
  · subst h15
    rw [um_e]
    show upd (cpN (sel (τ 22) 3) (τ 15) k) k (sel (τ 22) 3 k) i' = cpN (sel (τ 22) 3) (τ 15) (k + 1) i'
    rw [cpN_s]
  rw [um_k h15]
  by_cases h14 : k' = 14
  · subst h14
    rw [um_e]
    show upd (cpN (sel (τ 22) 2) (τ 14) k) k (sel (τ 22) 2 k) i' = cpN (sel (τ 22) 2) (τ 14) (k + 1) i'
    rw [cpN_s]
  rw [um_k h14]
  by_cases h13 : k' = 13
  · subst h13
    rw [um_e]
    show upd (cpN (sel (τ 22) 1) (τ 13) k) k (sel (τ 22) 1 k) i' = cpN (sel (τ 22) 1) (τ 13) (k + 1) i'
    rw [cpN_s]
  rw [um_k h13]
  by_cases h12 : k' = 12
  · subst h12
    rw [um_e]
    show upd (cpN (sel (τ 22) 0) (τ 12) k) k (sel (τ 22) 0 k) i' = cpN (sel (τ 22) 0) (τ 12) (k + 1) i'
    rw [cpN_s]
  rw [um_k h12]
  unfold tk5
  rw [umF_k h16, umF_k h15, umF_k h14, umF_k h13, umF_k h12, umF_k h16, umF_k h15, umF_k h14, umF_k h13, umF_k h12]
def tmA (τ : Sm) : Sm := um (um (um τ 7 0 (τ 18 0)) 5 0 (τ 19 0)) 8 0 0
def tmB (τ : Sm) (P : Nat) : Sm := um (tk3 (tmA τ) P) 6 0 (τ 20 0)
def tmM (τ : Sm) (P m : Nat) : Sm := um (tk5 (tmB τ P) m) 33 0 0

section
variable {D : va_G} {tc : Tc} {B : Nat → Nat} {τ τ0 : Sm} {s n q p m P : Nat} {X : Cx}
set_option maxRecDepth 100000 in
set_option maxHeartbeats 4000000 in
theorem mk_takeMarket (hp : τ 19 0 = nI P) (hp4 : P ≤ 4) (hm : τ 20 0 = nI m) (hm6 : m ≤ 6) : Ok 0 yX6_takeMarket cX6_takeMarket 2 none D tc [.ref (B 0)] (mW B tc τ) none (mW B tc (tmM τ P m)) := by
  refine Ok_of RX6 rfl (by decide) [some (.ref (B 0)), none] rfl (Nat.le_of_ble_eq_true rfl) ?_
  intro X hX
  have lqS : ∀ k, k < m → V X D tc cX6_takeMarket RX6 2 73 ((fun k => [some (.ref (B 0)), some (.int (nI k))]) (k + 1)) [] ((fun k => mW B tc (tk5 (tmB τ P) k)) (k + 1)) → V X D tc cX6_takeMarket RX6 2 73 ((fun k => [some (.ref (B 0)), some (.int (nI k))]) k) [] ((fun k => mW B tc (tk5 (tmB τ P) k)) k) := by
    intro k hk ihlq
    refine V_ild1 dX6_takeMarket_73 ?_
    refine V_ald0 dX6_takeMarket_74 ?_
    refine V_get lf_X6_93 dX6_takeMarket_75 mW_obj rfl ?_
    refine V_icmp_ge 156 dX6_takeMarket_78 (by decide) (fun c78 => ?_) (fun c78 => ?_)
    · exact absurd c78 (ge_no (M := m) hm hk (by omega))
    · refine V_ald0 dX6_takeMarket_81 ?_
      refine V_get lf_X6_29 dX6_takeMarket_82 mW_obj rfl ?_
      refine V_ild1 dX6_takeMarket_85 ?_
      refine V_ald0 dX6_takeMarket_86 ?_
      refine V_get lf_X6_47 dX6_takeMarket_87 mW_obj rfl ?_
      refine V_iconst 4 dX6_takeMarket_90 (by decide) ?_
      refine V_ild1 dX6_takeMarket_91 ?_
      refine V_imul dX6_takeMarket_92 ?_
      refine V_top (y := nI (4 * k)) (pk_mul 4 k) ?_
      refine V_ialdk dX6_takeMarket_93 mW_a22 ⟨by omega, by decide⟩ ?_
      refine V_iastk dX6_takeMarket_94 mW_a12 ⟨by omega, by decide⟩ (mW_a12s _ _) ?_
      refine V_ald0 dX6_takeMarket_95 ?_
      refine V_get lf_X6_32 dX6_takeMarket_96 mW_obj rfl ?_
      refine V_ild1 dX6_takeMarket_99 ?_
      refine V_ald0 dX6_takeMarket_100 ?_
      refine V_get lf_X6_47 dX6_takeMarket_101 mW_obj rfl ?_
      refine V_iconst 4 dX6_takeMarket_104 (by decide) ?_
      refine V_ild1 dX6_takeMarket_105 ?_
      refine V_imul dX6_takeMarket_106 ?_
      refine V_iconst 1 dX6_takeMarket_107 (by decide) ?_
      refine V_iadd dX6_takeMarket_108 ?_
      refine V_top (y := nI (4 * k + 1)) (by rw [show (4 : Int32) = nI 4 by decide, pk_mul, nI_1]) ?_
      refine V_ialdk dX6_takeMarket_109 mW_a22 ⟨by omega, by decide⟩ ?_
      refine V_iastk dX6_takeMarket_110 mW_a13 ⟨by omega, by decide⟩ (mW_a13s _ _) ?_
      refine V_ald0 dX6_takeMarket_111 ?_
      refine V_get lf_X6_35 dX6_takeMarket_112 mW_obj rfl ?_
      refine V_ild1 dX6_takeMarket_115 ?_
      refine V_ald0 dX6_takeMarket_116 ?_
      refine V_get lf_X6_47 dX6_takeMarket_117 mW_obj rfl ?_
      refine V_iconst 4 dX6_takeMarket_120 (by decide) ?_
      refine V_ild1 dX6_takeMarket_121 ?_
      refine V_imul dX6_takeMarket_122 ?_
      refine V_iconst 2 dX6_takeMarket_123 (by decide) ?_
      refine V_iadd dX6_takeMarket_124 ?_
      refine V_top (y := nI (4 * k + 2)) (by rw [show (4 : Int32) = nI 4 by decide, pk_mul, show (2 : Int32) = nI 2 by decide, nI_add]) ?_
      refine V_ialdk dX6_takeMarket_125 mW_a22 ⟨by omega, by decide⟩ ?_
      refine V_iastk dX6_takeMarket_126 mW_a14 ⟨by omega, by decide⟩ (mW_a14s _ _) ?_
      refine V_ald0 dX6_takeMarket_127 ?_
      refine V_get lf_X6_38 dX6_takeMarket_128 mW_obj rfl ?_
      refine V_ild1 dX6_takeMarket_131 ?_
      refine V_ald0 dX6_takeMarket_132 ?_
      refine V_get lf_X6_47 dX6_takeMarket_133 mW_obj rfl ?_
      refine V_iconst 4 dX6_takeMarket_136 (by decide) ?_
      refine V_ild1 dX6_takeMarket_137 ?_
      refine V_imul dX6_takeMarket_138 ?_
      refine V_iconst 3 dX6_takeMarket_139 (by decide) ?_
      refine V_iadd dX6_takeMarket_140 ?_
      refine V_top (y := nI (4 * k + 3)) (by rw [show (4 : Int32) = nI 4 by decide, pk_mul, show (3 : Int32) = nI 3 by decide, nI_add]) ?_
      refine V_ialdk dX6_takeMarket_141 mW_a22 ⟨by omega, by decide⟩ ?_
      refine V_iastk dX6_takeMarket_142 mW_a15 ⟨by omega, by decide⟩ (mW_a15s _ _) ?_
      refine V_ald0 dX6_takeMarket_143 ?_
      refine V_get lf_X6_41 dX6_takeMarket_144 mW_obj rfl ?_
      refine V_ild1 dX6_takeMarket_147 ?_
      refine V_iconst 0 dX6_takeMarket_148 (by decide) ?_
      refine V_zastk dX6_takeMarket_149 mW_a16 ⟨by omega, by decide⟩ (by first | exact Or.inl rfl | exact Or.inr rfl) (mW_a16s _ _) ?_
      refine V_inc1 (nI (k + 1)) dX6_takeMarket_150 (nI_inc k) rfl (by decide) ?_
      refine V_goto 73 dX6_takeMarket_153 (by decide) ?_
      refine V_eq rfl rfl ?_ ihlq
      exact congrArg (mW B tc) (tk5_s (tmB τ P) k)
  have lqE : V X D tc cX6_takeMarket RX6 2 73 ((fun k => [some (.ref (B 0)), some (.int (nI k))]) (m)) [] ((fun k => mW B tc (tk5 (tmB τ P) k)) (m)) := by
    refine V_ild1 dX6_takeMarket_73 ?_
    refine V_ald0 dX6_takeMarket_74 ?_
    refine V_get lf_X6_93 dX6_takeMarket_75 mW_obj rfl ?_
    refine V_icmp_ge 156 dX6_takeMarket_78 (by decide) (fun c78 => ?_) (fun c78 => ?_)
    · refine V_ald0 dX6_takeMarket_156 ?_
      refine V_iconst 0 dX6_takeMarket_157 (by decide) ?_
      refine V_puti lp_X6_135 dX6_takeMarket_158 mW_obj (Nat.le_of_ble_eq_true rfl) (mW_p33 _) ?_
      exact V_vret hX dX6_takeMarket_161 rfl rfl rfl
    · exact absurd (ge_yes (M := m) hm) c78
  have lq := V_for (fun k => [some (.ref (B 0)), some (.int (nI k))]) (fun k => mW B tc (tk5 (tmB τ P) k)) (m) lqS lqE
  have lpS : ∀ k, k < P → V X D tc cX6_takeMarket RX6 2 23 ((fun k => [some (.ref (B 0)), some (.int (nI k))]) (k + 1)) [] ((fun k => mW B tc (tk3 (tmA τ) k)) (k + 1)) → V X D tc cX6_takeMarket RX6 2 23 ((fun k => [some (.ref (B 0)), some (.int (nI k))]) k) [] ((fun k => mW B tc (tk3 (tmA τ) k)) k) := by
    intro k hk ihlp
    refine V_ild1 dX6_takeMarket_23 ?_
    refine V_ald0 dX6_takeMarket_24 ?_
    refine V_get lf_X6_90 dX6_takeMarket_25 mW_obj rfl ?_
    refine V_icmp_ge 63 dX6_takeMarket_28 (by decide) (fun c28 => ?_) (fun c28 => ?_)
    · exact absurd c28 (ge_no (M := P) hp hk (by omega))
    · refine V_ald0 dX6_takeMarket_31 ?_
      refine V_get lf_X6_19 dX6_takeMarket_32 mW_obj rfl ?_
      refine V_ild1 dX6_takeMarket_35 ?_
      refine V_ald0 dX6_takeMarket_36 ?_
      refine V_get lf_X6_44 dX6_takeMarket_37 mW_obj rfl ?_
      refine V_ild1 dX6_takeMarket_40 ?_
      refine V_ialdk dX6_takeMarket_41 mW_a21 ⟨by omega, by decide⟩ ?_
      refine V_iastk dX6_takeMarket_42 mW_a9 ⟨by omega, by decide⟩ (mW_a9s _ _) ?_
      refine V_ald0 dX6_takeMarket_43 ?_
      refine V_get lf_X6_22 dX6_takeMarket_44 mW_obj rfl ?_
      refine V_ild1 dX6_takeMarket_47 ?_
      refine V_iconst 0 dX6_takeMarket_48 (by decide) ?_
      refine V_iastk dX6_takeMarket_49 mW_a10 ⟨by omega, by decide⟩ (mW_a10s _ _) ?_
      refine V_ald0 dX6_takeMarket_50 ?_
      refine V_get lf_X6_25 dX6_takeMarket_51 mW_obj rfl ?_
      refine V_ild1 dX6_takeMarket_54 ?_
      refine V_iconst 0 dX6_takeMarket_55 (by decide) ?_
      refine V_zastk dX6_takeMarket_56 mW_a11 ⟨by omega, by decide⟩ (by first | exact Or.inl rfl | exact Or.inr rfl) (mW_a11s _ _) ?_
      refine V_inc1 (nI (k + 1)) dX6_takeMarket_57 (nI_inc k) rfl (by decide) ?_
      refine V_goto 23 dX6_takeMarket_60 (by decide) ?_
      refine V_eq rfl rfl ?_ ihlp
      exact congrArg (mW B tc) (tk3_s (tmA τ) k)
  have lpE : V X D tc cX6_takeMarket RX6 2 23 ((fun k => [some (.ref (B 0)), some (.int (nI k))]) (P)) [] ((fun k => mW B tc (tk3 (tmA τ) k)) (P)) := by
    refine V_ild1 dX6_takeMarket_23 ?_
    refine V_ald0 dX6_takeMarket_24 ?_
    refine V_get lf_X6_90 dX6_takeMarket_25 mW_obj rfl ?_
    refine V_icmp_ge 63 dX6_takeMarket_28 (by decide) (fun c28 => ?_) (fun c28 => ?_)
    · refine V_ald0 dX6_takeMarket_63 ?_
      refine V_ald0 dX6_takeMarket_64 ?_
      refine V_get lf_X6_132 dX6_takeMarket_65 mW_obj rfl ?_
      refine V_puti lp_X6_93 dX6_takeMarket_68 mW_obj (Nat.le_of_ble_eq_true rfl) (mW_p6 _) ?_
      refine V_iconst 0 dX6_takeMarket_71 (by decide) ?_
      refine V_ist1 dX6_takeMarket_72 rfl (by decide) ?_
      refine V_eq rfl rfl ?_ (lq 0 (Nat.zero_le _))
      exact congrArg (mW B tc) (tk5_0 (tmB τ P)).symm
    · exact absurd (ge_yes (M := P) hp) c28
  have lp := V_for (fun k => [some (.ref (B 0)), some (.int (nI k))]) (fun k => mW B tc (tk3 (tmA τ) k)) (P) lpS lpE
  refine V_ald0 dX6_takeMarket_0 ?_
  refine V_ald0 dX6_takeMarket_1 ?_
  refine V_get lf_X6_120 dX6_takeMarket_2 mW_obj rfl ?_
  refine V_puti lp_X6_123 dX6_takeMarket_5 mW_obj (Nat.le_of_ble_eq_true rfl) (mW_p7 _) ?_
  refine V_ald0 dX6_takeMarket_8 ?_
  refine V_ald0 dX6_takeMarket_9 ?_
  refine V_get lf_X6_126 dX6_takeMarket_10 mW_obj rfl ?_
  refine V_puti lp_X6_90 dX6_takeMarket_13 mW_obj (Nat.le_of_ble_eq_true rfl) (mW_p5 _) ?_
  refine V_ald0 dX6_takeMarket_16 ?_
  refine V_iconst 0 dX6_takeMarket_17 (by decide) ?_
  refine V_puti lp_X6_129 dX6_takeMarket_18 mW_obj (Nat.le_of_ble_eq_true rfl) (mW_p8 _) ?_
  refine V_iconst 0 dX6_takeMarket_21 (by decide) ?_
  refine V_ist1 dX6_takeMarket_22 rfl (by decide) ?_
  refine V_eq rfl rfl ?_ (lp 0 (Nat.zero_le _))
  exact congrArg (mW B tc) (tk3_0 (tmA τ)).symm
def MkM (c : Nat → Int32) (n : Nat) (τ : Sm) : Prop := ∃ P m : Nat, prsP c n 4 0 = .inr P ∧ prsM c n P 6 0 = .inr m ∧ 0 < P ∧ P ≤ 4 ∧ 0 < m ∧ m ≤ 6 ∧ τ 5 0 = nI P ∧ τ 6 0 = nI m ∧ τ 7 0 = c 1 - 48 ∧ τ 8 0 = 0 ∧ (∀ p, p < P → τ 9 p = puI c p ∧ τ 10 p = 0 ∧ τ 11 p = 0) ∧ (∀ i, i < m → τ 12 i = kdI (c (bM P i + 1)) ∧ τ 13 i = c (bM P i + 1 + 1) - 48 ∧ τ 14 i = c (bM P i + 1 + 2) - 48 ∧ τ 15 i = c (bM P i + 1 + 3) - 48 ∧ τ 16 i = 0)
abbrev tmK (k : Nat) : Prop := k ≤ 4 ∨ (22 < k ∧ ¬ k = 33)
theorem tmM_k {τ : Sm} {P m k : Nat} (h : tmK k) : tmM τ P m k = τ k := by
  unfold tmM tk5 tmB tk3 tmA
  rw [um_k (by omega), umF_k (by omega), umF_k (by omega), umF_k (by omega), umF_k (by omega), umF_k (by omega), um_k (by omega), umF_k (by omega), umF_k (by omega), umF_k (by omega), um_k (by omega), um_k (by omega), um_k (by omega)]
theorem cpN_i {f g : Nat → Int32} {n i : Nat} (h : i < n) : cpN f g n i = f i := if_pos h
theorem MkM_of {τ0 τ : Sm} {s n P m : Nat} (e1 : prsP (cM τ0 s) n 4 0 = .inr P) (e2 : prsM (cM τ0 s) n P 6 0 = .inr m) (h0 : 0 < P) (h4 : P ≤ 4) (hm0 : 0 < m) (hm6 : m ≤ 6) (h : JM τ0 s P m n τ) : MkM (cM τ0 s) n (tmM τ P m) := by
  obtain ⟨j1, j2, j3, j4, j5, j6, j7⟩ := h
  refine ⟨P, m, e1, e2, h0, h4, hm0, hm6, j4, j5, j3, rfl, fun p hp => ⟨?_, ?_, ?_⟩, fun i hi => ⟨?_, ?_, ?_, ?_, ?_⟩⟩
  · show cpN (τ 21) (τ 9) P p = _
    rw [cpN_i hp]; exact j6 p hp
  · show fillN (τ 10) 0 P p = 0
    exact if_pos hp
  · show fillN (τ 11) 0 P p = 0
    exact if_pos hp
  · show cpN (sel (τ 22) 0) (τ 12) m i = _
    rw [cpN_i hi]; exact (j7 i hi).1
  · show cpN (sel (τ 22) 1) (τ 13) m i = _
    rw [cpN_i hi]; exact (j7 i hi).2.1
  · show cpN (sel (τ 22) 2) (τ 14) m i = _
    rw [cpN_i hi]; exact (j7 i hi).2.2.1
  · show cpN (sel (τ 22) 3) (τ 15) m i = _
    rw [cpN_i hi]; exact (j7 i hi).2.2.2
  · show fillN (τ 16) 0 m i = 0
    exact if_pos hi
def Rm_market (τ : Sm) (j : Nat) (l i n : Int32) : Int32 := if laI l then (if agM τ j l i n = 0 then (if prs (cM τ (i6 j i.toNatClampNeg)) n.toNatClampNeg = -9 then mkN (cM τ (i6 j i.toNatClampNeg)) n.toNatClampNeg else -100 - prs (cM τ (i6 j i.toNatClampNeg)) n.toNatClampNeg) else -10 - agM τ j l i n) else -2
def Smm (τ : Sm) (j : Nat) (l i n : Int32) (τ' : Sm) : Prop := if laI l then (if agM τ j l i n = 0 then (if prs (cM τ (i6 j i.toNatClampNeg)) n.toNatClampNeg = -9 then (∀ k, tmK k → τ' k = τ k) ∧ τ' 33 0 = 0 ∧ MkM (cM τ (i6 j i.toNatClampNeg)) n.toNatClampNeg τ' ∧ (∀ q, (τ' 11 q = 0 ∨ τ' 11 q = τ 11 q) ∧ (τ' 16 q = 0 ∨ τ' 16 q = τ 16 q)) else (∀ k, k < 17 ∨ 22 < k → τ' k = τ k)) else τ' = um τ 0 0 (agM τ j l i n)) else τ' = τ
def Qmm (B : Nat → Nat) (tc : Tc) (τ : Sm) (j : Nat) (l i n : Int32) (r : Option Value) (ws' : va_W) : Prop := ∃ τ' : Sm, ws' = mW B tc τ' ∧ r = some (.int (Rm_market τ j l i n)) ∧ Smm τ j l i n τ'
theorem fill_or {f g : Nat → Int32} {n q : Nat} (h : f = g) : fillN f 0 n q = 0 ∨ fillN f 0 n q = g q := by
  subst h
  unfold fillN
  split
  · exact Or.inl rfl
  · exact Or.inr rfl
/-- a sheet's length -/
theorem ag_0 {τ : Sm} {j N : Nat} {l i n : Int32} (hN : τ 3 j = nI N) (h60 : N ≤ 60) (h : agM τ j l i n = 0) : ∃ a e : Nat, i = nI a ∧ n = nI e ∧ a + e ≤ N := by
  unfold agM at h
  split at h
  · exact absurd h (by decide)
  · split at h
    · exact absurd h (by decide)
    · split at h
      · rename_i hn
        split at h
        · exact absurd h (by decide)
        · rename_i hz
          rw [not_or, not_or, Decidable.not_not] at hz
          obtain ⟨z1, z2, z3⟩ := hz
          rw [hN] at z2 z3
          obtain ⟨a, ha, rfl⟩ := nI_of z1
          obtain ⟨e, he, rfl⟩ := nI_of (Int32.not_lt.mpr hn)
          rw [nI_ltI (by omega) (by omega)] at z2
          rw [pk_sub (by omega), nI_leI (by omega) (by omega)] at z3
          exact ⟨a, e, rfl, rfl, by omega⟩
      · exact absurd h (by decide)
theorem s60 (j a : Nat) : (60 : Int32) * nI j + nI a = nI (i6 j a) := by
  rw [show (60 : Int32) = nI 60 by decide, pk_mul, nI_add]
  rfl
theorem mkN_of {c : Nat → Int32} {n P m : Nat} (e1 : prsP c n 4 0 = .inr P) (e2 : prsM c n P 6 0 = .inr m) : mkN c n = nI m := by unfold mkN; rw [e1]; dsimp only; rw [e2]
set_option maxRecDepth 100000 in
set_option maxHeartbeats 4000000 in
theorem mk_market {j N : Nat} (hj : j < 4) (hN : τ 3 j = nI N) (h60 : N ≤ 60) (l i n : Int32) : OkR 4 yX6_market cX6_market 7 (some .int) D tc [.ref (B 0), .int (nI j), .int l, .int i, .int n] (mW B tc τ) (Qmm B tc (um τ 0 0 0) j l i n) := by
  refine Ok_ofR RX6 rfl (by decide) [some (.ref (B 0)), some (.int (nI j)), some (.int l), some (.int i), some (.int n), none, none] rfl (Nat.le_of_ble_eq_true rfl) ?_
  intro X hX
  refine V_ald0 dX6_market_0 ?_
  refine V_iconst 0 dX6_market_1 (by decide) ?_
  refine V_puti lp_X6_80 dX6_market_2 mW_obj (Nat.le_of_ble_eq_true rfl) (mW_p0 _) ?_
  change V _ _ _ _ _ _ _ _ _ (mW B tc (um τ 0 0 0))
  have hN := (show um τ 0 0 0 3 j = nI N from hN)
  generalize um τ 0 0 0 = τ at hX hN ⊢
  refine V_ild1 dX6_market_5 ?_
  refine V_callS ls_X6_99 (mk_isSheet _) dX6_market_6 (depR hX (by decide)) rfl (Nat.le_of_ble_eq_true rfl) ?_
  refine V_if_ne 14 dX6_market_9 (by decide) (fun c9 => ?_) (fun c9 => ?_)
  · try rw [b2i_ne] at c9
    try rw [Decidable.not_not] at c9
    refine V_ild2 dX6_market_14 ?_
    refine V_callS ls_X6_103 (mk_isSort _) dX6_market_15 (depR hX (by decide)) rfl (Nat.le_of_ble_eq_true rfl) ?_
    refine V_if_ne 24 dX6_market_18 (by decide) (fun c18 => ?_) (fun c18 => ?_)
    · try rw [b2i_ne] at c18
      try rw [Decidable.not_not] at c18
      refine V_ald0 dX6_market_24 ?_
      refine V_ild1 dX6_market_25 ?_
      refine V_ild2 dX6_market_26 ?_
      refine V_ild3 dX6_market_27 ?_
      refine V_ild4 dX6_market_28 ?_
      refine V_callV lm_X6_106 (mk_against hj _ _ _) dX6_market_30 mW_obj rfl (depR hX (by decide)) rfl (Nat.le_of_ble_eq_true rfl) ?_
      refine V_ist5 dX6_market_33 rfl (by decide) ?_
      refine V_ild5 dX6_market_35 ?_
      refine V_if_eq 47 dX6_market_37 (by decide) (fun c37 => ?_) (fun c37 => ?_)
      · obtain ⟨a, e, ea, ee, hae⟩ := ag_0 hN h60 c37
        subst ea; subst ee
        have hca : (nI a).toNatClampNeg = a := nI_clamp (by omega)
        have hce : (nI e).toNatClampNeg = e := nI_clamp (by omega)
        refine V_bipush 60 dX6_market_47 (by decide) ?_
        refine V_ild1 dX6_market_49 ?_
        refine V_imul dX6_market_50 ?_
        refine V_ild3 dX6_market_51 ?_
        refine V_iadd dX6_market_52 ?_
        refine V_top (y := nI (i6 j a)) (s60 j a) ?_
        refine V_ist6 dX6_market_53 rfl (by decide) ?_
        refine V_ald0 dX6_market_55 ?_
        refine V_ild6 dX6_market_56 ?_
        refine V_puti lp_X6_96 dX6_market_58 mW_obj (Nat.le_of_ble_eq_true rfl) (mW_p17 _) ?_
        refine V_ald0 dX6_market_61 ?_
        refine V_ild6 dX6_market_62 ?_
        refine V_ild4 dX6_market_64 ?_
        refine V_iadd dX6_market_66 ?_
        refine V_top (y := nI (i6 j a + e)) (nI_add _ _) ?_
        refine V_callVR lm_X6_114 (mk_readMarket (τ := um τ 17 0 (nI (i6 j a))) rfl (by unfold i6; omega) (by omega)) dX6_market_67 mW_obj rfl (depR hX (by decide)) rfl (Nat.le_of_ble_eq_true rfl) (fun r ws' hq => ?_)
        obtain ⟨τ', rfl, hfr, rfl, hy, hn⟩ := hq
        change (prs (cM τ (i6 j a)) e = -9 → _) at hy
        change (¬ prs (cM τ (i6 j a)) e = -9 → _) at hn
        change V _ _ _ _ _ _ _ _ (.int (b2i (prs (cM τ (i6 j a)) e = -9)) :: _) _
        have hfr' : ∀ k, k < 17 ∨ 22 < k → τ' k = τ k := fun k hk => by rw [hfr k hk, um_k (by omega)]
        refine V_if_ne 84 dX6_market_70 (by decide) (fun c70 => ?_) (fun c70 => ?_)
        · try rw [b2i_ne] at c70
          try rw [Decidable.not_not] at c70
          obtain ⟨P, m, e1, e2, h0, h4, hm0, h6, hJ⟩ := hy c70
          refine V_ald0 dX6_market_84 ?_
          refine V_callVv lm_X6_117 (mk_takeMarket hJ.2.2.2.1 h4 hJ.2.2.2.2.1 h6) dX6_market_85 mW_obj rfl (depR hX (by decide)) rfl (Nat.le_of_ble_eq_true rfl) ?_
          refine V_ald0 dX6_market_88 ?_
          refine V_get lf_X6_93 dX6_market_89 mW_obj rfl ?_
          exact V_iretR hX dX6_market_92 rfl ⟨_, rfl, by rw [Rm_market, if_pos c18, if_pos c37, hca, hce, if_pos c70]; exact congrArg (fun x => some (Value.int x)) (hJ.2.2.2.2.1.trans (mkN_of e1 e2).symm), by rw [Smm, if_pos c18, if_pos c37, hca, hce, if_pos c70]; exact ⟨fun k hk => by rw [tmM_k hk]; exact hfr' k (by omega), rfl, MkM_of (τ0 := um τ 17 0 (nI (i6 j a))) e1 e2 h0 h4 hm0 h6 hJ, fun q => ⟨fill_or (hfr' 11 (by decide)), fill_or (hfr' 16 (by decide))⟩⟩⟩
        · try rw [b2i_eq] at c70
          try rw [Decidable.not_not] at c70
          obtain ⟨q, hq60, eq, h17⟩ := hn c70
          have eq : prs (cM τ (i6 j a)) e = nI q := eq
          refine V_bipush (-100) dX6_market_73 (by decide) ?_
          refine V_ald0 dX6_market_75 ?_
          refine V_get lf_X6_96 dX6_market_76 mW_obj rfl ?_
          refine V_ild6 dX6_market_79 ?_
          refine V_isub dX6_market_81 ?_
          refine V_isub dX6_market_82 ?_
          exact V_iretR hX dX6_market_83 rfl ⟨τ', rfl, by rw [Rm_market, if_pos c18, if_pos c37, hca, hce, if_neg c70, eq, h17, pk_sub (by omega)]; congr 3; congr 1; omega, by rw [Smm, if_pos c18, if_pos c37, hca, hce, if_neg c70]; exact hfr'⟩
      · refine V_ald0 dX6_market_40 ?_
        refine V_ild5 dX6_market_41 ?_
        refine V_callV lm_X6_110 (mk_fails _) dX6_market_43 mW_obj rfl (depR hX (by decide)) rfl (Nat.le_of_ble_eq_true rfl) ?_
        exact V_iretR hX dX6_market_46 rfl ⟨_, rfl, by rw [Rm_market, if_pos c18, if_neg c37], by rw [Smm, if_pos c18, if_neg c37]⟩
    · try rw [b2i_eq] at c18
      try rw [Decidable.not_not] at c18
      refine V_bipush (-2) dX6_market_21 (by decide) ?_
      exact V_iretR hX dX6_market_23 rfl ⟨_, rfl, by rw [Rm_market, if_neg c18], by rw [Smm, if_neg c18]⟩
  · exact absurd (b2i_eq.mp c9) (fun z => z ⟨nI_pos (by omega), nI_nlt (b := j) (a := 3) (by omega) (by decide)⟩)
end
