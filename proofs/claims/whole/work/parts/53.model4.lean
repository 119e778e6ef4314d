/-! the reference: copying, keeping, odds -/
theorem ix7 (j a c : Nat) : 60 * nI j + nI a + nI c = nI (i6 j a + c) := by rw [ix6, nI_add]
theorem cp_in {x i c : Int32} {n : Nat} (hn : n ≤ 60) (hx : x = nI n) (h1 : ¬ i < 0) (h2 : ¬ c < 0) (h3 : ¬ x < i) (h4 : ¬ x - i < c) : ∃ a e : Nat, i = nI a ∧ c = nI e ∧ a + e ≤ n := by
  obtain ⟨a, e, n', ea, ee, hae, hn', hx'⟩ := hc_in (x := x) ⟨n, hn, Or.inr hx⟩ (fun z => nI_pos (n := n) (by omega) (by rw [← hx, z]; decide)) ⟨h1, h3, h2, h4⟩
  have : n' = n := (nI_eq (by omega) (by omega)).mp (hx'.symm.trans hx)
  exact ⟨a, e, ea, ee, by omega⟩
theorem stp_lt {fw : Prop} [Decidable fw] {n k : Nat} (h : k < n) : stp fw n k < n := by unfold stp; split <;> omega
def rsM (R : Nat → Int32) (own t : Int32) : Nat → Int32
  | 0 => 0
  | k + 1 => rsM R own t k ||| (if bitI own (nI k) ∧ R k = t then oneI k else 0)
def obM (τ : Sm) (p t : Nat) : Int32 := if t = 0 then (if τ 11 p = 0 then 0 else 1) else 0
def jrM (τ : Sm) (R : Nat → Int32) (M p : Nat) (own : Int32) : Nat → Int32
  | 0 => 0
  | t + 1 => jrM τ R M p own t + joM τ (rsM R own (nI t) M) (τ 8 0 + nI t) (obM τ p t) M
def rcN (N : Nat) (own : Int32) : Nat → Nat
  | 0 => 1
  | k + 1 => rcN N own k * (if bitI own (nI k) then N + 1 else 1)
theorem rcN_le (N : Nat) (own : Int32) (h : N ≤ 3) : ∀ k, k ≤ 6 → rcN N own k ≤ 4096 := by
  have g : ∀ k, rcN N own k ≤ 4 ^ k := by
    intro k
    induction k with
    | zero => simp [rcN]
    | succ k ih =>
      rw [Nat.pow_succ]
      unfold rcN
      refine Nat.mul_le_mul ih ?_
      split <;> omega
  intro k hk
  exact Nat.le_trans (g k) (Nat.le_trans (Nat.pow_le_pow_right (by decide) hk) (by decide))
def lfN (own : Int32) (N M c : Nat) : Nat → Nat
  | 0 => c
  | k + 1 => if bitI own (nI (M - 1 - k)) then lfN own N M c k / (N + 1) else lfN own N M c k
theorem lfN_le (own : Int32) (N M c : Nat) : ∀ k, lfN own N M c k ≤ c := by
  intro k
  induction k with
  | zero => exact Nat.le_refl _
  | succ k ih => unfold lfN; split
                 · exact Nat.le_trans (Nat.div_le_self _ _) ih
                 · exact ih
def rkM (own : Int32) (N M c : Nat) (R0 : Nat → Int32) : Nat → (Nat → Int32)
  | 0 => R0
  | k + 1 => upd (rkM own N M c R0 k) (M - 1 - k) (if bitI own (nI (M - 1 - k)) then nI (lfN own N M c k % (N + 1)) else nI N)
def cpN (f g : Nat → Int32) (n : Nat) : Nat → Int32 := fun j => if j < n then f j else g j
theorem cpN_0 (f g : Nat → Int32) : cpN f g 0 = g := by funext j; simp [cpN]
theorem cpN_s (f g : Nat → Int32) (k : Nat) : upd (cpN f g k) k (f k) = cpN f g (k + 1) := by
  funext j
  unfold upd cpN
  by_cases h : j = k
  · subst h; simp
  · by_cases h2 : j < k
    · simp [h, h2, Nat.lt_succ_of_lt h2]
    · simp [h, h2, show ¬ j < k + 1 by omega]
abbrev FK : Type := Int32 × (Nat → Int32) × (Nat → Int32)
def fkS (τ : Sm) (M p N : Nat) (own : Int32) : Nat → FK
  | 0 => (-9, τ 29, τ 30)
  | c + 1 => if jrM τ (rkM own N M c (fkS τ M p N own c).2.1 M) M p own N ≤ (fkS τ M p N own c).1 then ((fkS τ M p N own c).1, rkM own N M c (fkS τ M p N own c).2.1 M, (fkS τ M p N own c).2.2) else (jrM τ (rkM own N M c (fkS τ M p N own c).2.1 M) M p own N, rkM own N M c (fkS τ M p N own c).2.1 M, cpN (rkM own N M c (fkS τ M p N own c).2.1 M) (fkS τ M p N own c).2.2 M)
def kkM (τ : Sm) (M p N : Nat) : FK := fkS τ M p N (owM τ (nI p) M) (rcN N (owM τ (nI p) M) M)
def kw2 (τ : Sm) (R F : Nat → Int32) : Sm := umF (umF τ 29 R) 30 F
theorem kw2_29 (τ : Sm) (R F : Nat → Int32) (i : Nat) (v : Int32) : um (kw2 τ R F) 29 i v = kw2 τ (upd R i v) F := by
  funext k' i'
  unfold kw2 um umF upd
  by_cases h1 : k' = 29 <;> by_cases h2 : k' = 30 <;> by_cases h3 : i' = i <;> simp [h1, h2, h3]
theorem kw2_30 (τ : Sm) (R F : Nat → Int32) (i : Nat) (v : Int32) : um (kw2 τ R F) 30 i v = kw2 τ R (upd F i v) := um_umF _ _ _ _ _
theorem kw2_self (τ : Sm) : kw2 τ (τ 29) (τ 30) = τ := by
  unfold kw2
  rw [umF_self, umF_self]
theorem jb_kw {τ : Sm} {R F : Nat → Int32} {s d : Int32} : ∀ M, jbS (kw2 τ R F) s d M = jbS τ s d M ∧ jbF (kw2 τ R F) s d M = jbF τ s d M := by
  intro M
  induction M with
  | zero => exact ⟨rfl, rfl⟩
  | succ M ih =>
    refine ⟨?_, ?_⟩
    · show jbS (kw2 τ R F) s d M + _ = _; rw [ih.1]; rfl
    · show (if isM (kw2 τ R F) s M d ≤ jbF (kw2 τ R F) s d M then jbF (kw2 τ R F) s d M else isM (kw2 τ R F) s M d) = _; rw [ih.2]; rfl
theorem jo_kw {τ : Sm} {R F : Nat → Int32} {s d b : Int32} {M : Nat} : joM (kw2 τ R F) s d b M = joM τ s d b M := by
  unfold joM
  rw [(jb_kw M).1, (jb_kw M).2]
theorem jr_kw {τ : Sm} {R F : Nat → Int32} {R' : Nat → Int32} {M p : Nat} {own : Int32} : ∀ N, jrM (kw2 τ R F) R' M p own N = jrM τ R' M p own N := by
  intro N
  induction N with
  | zero => rfl
  | succ N ih => show jrM (kw2 τ R F) R' M p own N + joM (kw2 τ R F) _ _ _ M = _; rw [ih, jo_kw]; rfl
theorem dm_s {m : Nat} (h : 0 < m) : nI m - 1 = nI (m - 1) := by
  obtain ⟨z, rfl⟩ : ∃ z, m = z + 1 := ⟨m - 1, by omega⟩
  exact nI_pred z
/-- m = M - 1 - k, as it goes down to -1 -/
def dkI (M k : Nat) : Int32 := nI M - 1 - nI k
theorem dk_in : ∀ M, M ≤ 6 → ∀ k, k < M → dkI M k = nI (M - 1 - k) := by
  have g : ∀ M, M < 7 → ∀ k, k < M → dkI M k = nI (M - 1 - k) := by decide
  exact fun M h => g M (by omega)
theorem dk_s : ∀ M, M ≤ 6 → ∀ k, k < M → dkI M k + Int32.ofInt (-1) = dkI M (k + 1) := by
  have g : ∀ M, M < 7 → ∀ k, k < M → dkI M k + Int32.ofInt (-1) = dkI M (k + 1) := by decide
  exact fun M h => g M (by omega)
theorem dk_e : ∀ M, M ≤ 6 → dkI M M < 0 := by
  have g : ∀ M, M < 7 → dkI M M < 0 := by decide
  exact fun M h => g M (by omega)
def Rm_keep (τ : Sm) (M : Nat) (p n k : Int32) : Int32 := if isP (τ 5 0) p then (if wiI n 1 3 ∧ wiI k (-1) 5 then (if k = -1 then (kkM τ M p.toNatClampNeg n.toNatClampNeg).1 else if isP (τ 6 0) k ∧ ¬ n ≤ (kkM τ M p.toNatClampNeg n.toNatClampNeg).2.2 k.toNatClampNeg then (kkM τ M p.toNatClampNeg n.toNatClampNeg).2.2 k.toNatClampNeg else -9) else -2) else -1
def Sm_keep (τ : Sm) (M : Nat) (p n k : Int32) : Sm := if isP (τ 5 0) p then (if wiI n 1 3 ∧ wiI k (-1) 5 then kw2 τ (kkM τ M p.toNatClampNeg n.toNatClampNeg).2.1 (kkM τ M p.toNatClampNeg n.toNatClampNeg).2.2 else τ) else τ
section
variable {D : va_G} {tc : Tc} {B : Nat → Nat} {τ : Sm} {M P C N j j' : Nat} {ws : va_W}
set_option maxRecDepth 100000 in
set_option maxHeartbeats 4000000 in
theorem lm_copy (hj : j < 4) (hj' : j' < 4) {X : Cx} {a a' e : Nat} (h1 : a + e ≤ 60) (h2 : a' + e ≤ 60) {R : Int32} {S : Sm} (hR : nI e = R) (hS : umF τ 4 (cpL (τ 4) (i6 j a) (i6 j' a') e (nI a < nI a') e) = S) (hX : Aim X D (some .int) 2 (some (.int R)) (mW B tc S)) : V X D tc cX6_copy RX6 10 166 [some (.ref (B 0)), some (.int (nI j)), some (.int (nI a)), some (.int (nI j')), some (.int (nI a')), some (.int (nI e)), none, some (.int (b2i (nI a < nI a'))), some (.int 0), none] [] (mW B tc τ) := by
  have lpS : ∀ k, k < e → V X D tc cX6_copy RX6 10 166 ((fun k => [some (.ref (B 0)), some (.int (nI j)), some (.int (nI a)), some (.int (nI j')), some (.int (nI a')), some (.int (nI e)), none, some (.int (b2i (nI a < nI a'))), some (.int (nI k)), none]) (k + 1)) [] ((fun k => mW B tc (umF τ 4 (cpL (τ 4) (i6 j a) (i6 j' a') e (nI a < nI a') k))) (k + 1)) → V X D tc cX6_copy RX6 10 166 ((fun k => [some (.ref (B 0)), some (.int (nI j)), some (.int (nI a)), some (.int (nI j')), some (.int (nI a')), some (.int (nI e)), none, some (.int (b2i (nI a < nI a'))), some (.int (nI k)), none]) k) [] ((fun k => mW B tc (umF τ 4 (cpL (τ 4) (i6 j a) (i6 j' a') e (nI a < nI a') k))) k) := by
    intro k hk ihlp
    have hst : stp (nI a < nI a') e k < e := stp_lt hk
    refine V_ild8 dX6_copy_166 ?_
    refine V_ild5 dX6_copy_168 ?_
    refine V_icmp_ge 227 dX6_copy_170 (by decide) (fun c170 => ?_) (fun c170 => ?_)
    · exact absurd c170 (nI_ge hk (by omega))
    · refine V_ild7 dX6_copy_173 ?_
      refine V_if_eq 188 dX6_copy_175 (by decide) (fun c175 => ?_) (fun c175 => ?_)
      · try rw [b2i_eq] at c175
        try rw [Decidable.not_not] at c175
        refine V_ild8 dX6_copy_188 ?_
        refine V_top (y := nI (stp (nI a < nI a') e k)) (by unfold stp; first | (rw [if_pos c175, show (1 : Int32) = nI 1 by decide, pk_sub (by omega), pk_sub (by omega)]) | rw [if_neg c175]) ?_
        refine V_ist9 dX6_copy_190 rfl (by decide) ?_
        refine V_ald0 dX6_copy_192 ?_
        refine V_get lf_X6_16 dX6_copy_193 mW_obj rfl ?_
        refine V_bipush 60 dX6_copy_196 (by decide) ?_
        refine V_ild3 dX6_copy_198 ?_
        refine V_imul dX6_copy_199 ?_
        refine V_ild4 dX6_copy_200 ?_
        refine V_iadd dX6_copy_202 ?_
        refine V_ild9 dX6_copy_203 ?_
        refine V_iadd dX6_copy_205 ?_
        refine V_top (y := nI (i6 j' a' + stp (nI a < nI a') e k)) (ix7 j' a' _) ?_
        refine V_ald0 dX6_copy_206 ?_
        refine V_get lf_X6_16 dX6_copy_207 mW_obj rfl ?_
        refine V_bipush 60 dX6_copy_210 (by decide) ?_
        refine V_ild1 dX6_copy_212 ?_
        refine V_imul dX6_copy_213 ?_
        refine V_ild2 dX6_copy_214 ?_
        refine V_iadd dX6_copy_215 ?_
        refine V_ild9 dX6_copy_216 ?_
        refine V_iadd dX6_copy_218 ?_
        refine V_top (y := nI (i6 j a + stp (nI a < nI a') e k)) (ix7 j a _) ?_
        refine V_ialdk dX6_copy_219 mW_a4 ⟨by unfold i6; omega, by decide⟩ ?_
        refine V_iastk dX6_copy_220 mW_a4 ⟨by unfold i6; omega, by decide⟩ (mW_a4s _ _) ?_
        refine V_inc8 (nI (k + 1)) dX6_copy_221 (nI_inc k) rfl (by decide) ?_
        refine V_goto 166 dX6_copy_224 (by decide) ?_
        refine V_dr9 ?_
        refine V_eq rfl rfl ?_ ihlp
        rw [um_umF]
        rfl
      · try rw [b2i_ne] at c175
        try rw [Decidable.not_not] at c175
        refine V_ild5 dX6_copy_178 ?_
        refine V_iconst 1 dX6_copy_180 (by decide) ?_
        refine V_isub dX6_copy_181 ?_
        refine V_ild8 dX6_copy_182 ?_
        refine V_isub dX6_copy_184 ?_
        refine V_goto 190 dX6_copy_185 (by decide) ?_
        refine V_top (y := nI (stp (nI a < nI a') e k)) (by unfold stp; first | (rw [if_pos c175, show (1 : Int32) = nI 1 by decide, pk_sub (by omega), pk_sub (by omega)]) | rw [if_neg c175]) ?_
        refine V_ist9 dX6_copy_190 rfl (by decide) ?_
        refine V_ald0 dX6_copy_192 ?_
        refine V_get lf_X6_16 dX6_copy_193 mW_obj rfl ?_
        refine V_bipush 60 dX6_copy_196 (by decide) ?_
        refine V_ild3 dX6_copy_198 ?_
        refine V_imul dX6_copy_199 ?_
        refine V_ild4 dX6_copy_200 ?_
        refine V_iadd dX6_copy_202 ?_
        refine V_ild9 dX6_copy_203 ?_
        refine V_iadd dX6_copy_205 ?_
        refine V_top (y := nI (i6 j' a' + stp (nI a < nI a') e k)) (ix7 j' a' _) ?_
        refine V_ald0 dX6_copy_206 ?_
        refine V_get lf_X6_16 dX6_copy_207 mW_obj rfl ?_
        refine V_bipush 60 dX6_copy_210 (by decide) ?_
        refine V_ild1 dX6_copy_212 ?_
        refine V_imul dX6_copy_213 ?_
        refine V_ild2 dX6_copy_214 ?_
        refine V_iadd dX6_copy_215 ?_
        refine V_ild9 dX6_copy_216 ?_
        refine V_iadd dX6_copy_218 ?_
        refine V_top (y := nI (i6 j a + stp (nI a < nI a') e k)) (ix7 j a _) ?_
        refine V_ialdk dX6_copy_219 mW_a4 ⟨by unfold i6; omega, by decide⟩ ?_
        refine V_iastk dX6_copy_220 mW_a4 ⟨by unfold i6; omega, by decide⟩ (mW_a4s _ _) ?_
        refine V_inc8 (nI (k + 1)) dX6_copy_221 (nI_inc k) rfl (by decide) ?_
        refine V_goto 166 dX6_copy_224 (by decide) ?_
        refine V_dr9 ?_
        refine V_eq rfl rfl ?_ ihlp
        rw [um_umF]
        rfl
  have lpE : V X D tc cX6_copy RX6 10 166 ((fun k => [some (.ref (B 0)), some (.int (nI j)), some (.int (nI a)), some (.int (nI j')), some (.int (nI a')), some (.int (nI e)), none, some (.int (b2i (nI a < nI a'))), some (.int (nI k)), none]) (e)) [] ((fun k => mW B tc (umF τ 4 (cpL (τ 4) (i6 j a) (i6 j' a') e (nI a < nI a') k))) (e)) := by
    refine V_ild8 dX6_copy_166 ?_
    refine V_ild5 dX6_copy_168 ?_
    refine V_icmp_ge 227 dX6_copy_170 (by decide) (fun c170 => ?_) (fun c170 => ?_)
    · refine V_ild5 dX6_copy_227 ?_
      exact V_iret hX dX6_copy_229 rfl (by rw [← hR]) (by rw [← hS])
    · exact absurd (ge_yes rfl) c170
  have lp := V_for (fun k => [some (.ref (B 0)), some (.int (nI j)), some (.int (nI a)), some (.int (nI j')), some (.int (nI a')), some (.int (nI e)), none, some (.int (b2i (nI a < nI a'))), some (.int (nI k)), none]) (fun k => mW B tc (umF τ 4 (cpL (τ 4) (i6 j a) (i6 j' a') e (nI a < nI a') k))) (e) lpS lpE
  refine V_eq rfl rfl ?_ (lp 0 (Nat.zero_le _))
  exact congrArg (mW B tc) (umF_self τ 4).symm
set_option maxRecDepth 100000 in
set_option maxHeartbeats 4000000 in
theorem mk_copy (hj : j < 4) (hj' : j' < 4) (hl : ∃ n, n ≤ 60 ∧ τ 3 j = nI n) (hl' : ∃ n, n ≤ 60 ∧ τ 3 j' = nI n) (i i' n : Int32) : Ok 2 yX6_copy cX6_copy 10 (some .int) D tc [.ref (B 0), .int (nI j), .int i, .int (nI j'), .int i', .int n] (mW B tc τ) (some (.int (Rm_copy (um τ 0 0 0) j j' i i' n))) (mW B tc (Sm_copy (um τ 0 0 0) j j' i i' n)) := by
  refine Ok_of RX6 rfl (by decide) [some (.ref (B 0)), some (.int (nI j)), some (.int i), some (.int (nI j')), some (.int i'), some (.int n), none, none, none, none] rfl (Nat.le_of_ble_eq_true rfl) ?_
  intro X hX
  refine V_ald0 dX6_copy_0 ?_
  refine V_iconst 0 dX6_copy_1 (by decide) ?_
  refine V_puti lp_X6_80 dX6_copy_2 mW_obj (Nat.le_of_ble_eq_true rfl) (mW_p0 _) ?_
  have hl := (show ∃ n, n ≤ 60 ∧ (um τ 0 0 0) 3 j = nI n from hl)
  have hl' := (show ∃ n, n ≤ 60 ∧ (um τ 0 0 0) 3 j' = nI n from hl')
  generalize um τ 0 0 0 = τ at hX hl hl' ⊢
  refine V_ild1 dX6_copy_5 ?_
  refine V_callS ls_X6_99 (mk_isSheet _) dX6_copy_6 (dep hX (by decide)) rfl (Nat.le_of_ble_eq_true rfl) ?_
  refine V_if_eq 19 dX6_copy_9 (by decide) (fun c9 => ?_) (fun c9 => ?_)
  · try rw [b2i_eq] at c9
    exact absurd (show shI (nI j) from ⟨nI_pos (by omega), by rw [show (3 : Int32) = nI 3 by decide, nI_ltI (by decide) (by omega)]; omega⟩) c9
  · try rw [b2i_ne] at c9
    try rw [Decidable.not_not] at c9
    refine V_ild3 dX6_copy_12 ?_
    refine V_callS ls_X6_99 (mk_isSheet _) dX6_copy_13 (dep hX (by decide)) rfl (Nat.le_of_ble_eq_true rfl) ?_
    refine V_if_ne 21 dX6_copy_16 (by decide) (fun c16 => ?_) (fun c16 => ?_)
    · try rw [b2i_ne] at c16
      try rw [Decidable.not_not] at c16
      refine V_ald0 dX6_copy_21 ?_
      refine V_get lf_X6_9 dX6_copy_22 mW_obj rfl ?_
      refine V_ild1 dX6_copy_25 ?_
      refine V_ialdk dX6_copy_26 mW_a2 ⟨hj, by decide⟩ ?_
      refine V_bipush (-9) dX6_copy_27 (by decide) ?_
      refine V_icmp_eq 43 dX6_copy_29 (by decide) (fun c29 => ?_) (fun c29 => ?_)
      · refine V_ald0 dX6_copy_43 ?_
        refine V_iconst 1 dX6_copy_44 (by decide) ?_
        refine V_callV lm_X6_110 (mk_fails 1) dX6_copy_45 mW_obj rfl (dep hX (by decide)) rfl (Nat.le_of_ble_eq_true rfl) ?_
        exact V_iret hX dX6_copy_48 rfl (by first | (rw [Rm_copy, if_pos (Or.inl c29)]; done) | (rw [Rm_copy, if_pos (Or.inr c40)]; done) | (rw [Rm_copy, if_pos (Or.inl c29)]; decide) | (rw [Rm_copy, if_pos (Or.inr c40)]; decide)) (congrArg (mW B tc) (by first | rw [Sm_copy, if_pos (Or.inl c29)] | rw [Sm_copy, if_pos (Or.inr c40)]))
      · refine V_ald0 dX6_copy_32 ?_
        refine V_get lf_X6_9 dX6_copy_33 mW_obj rfl ?_
        refine V_ild3 dX6_copy_36 ?_
        refine V_ialdk dX6_copy_37 mW_a2 ⟨hj', by decide⟩ ?_
        refine V_bipush (-9) dX6_copy_38 (by decide) ?_
        refine V_icmp_ne 49 dX6_copy_40 (by decide) (fun c40 => ?_) (fun c40 => ?_)
        · refine V_ald0 dX6_copy_49 ?_
          refine V_get lf_X6_9 dX6_copy_50 mW_obj rfl ?_
          refine V_ild1 dX6_copy_53 ?_
          refine V_ialdk dX6_copy_54 mW_a2 ⟨hj, by decide⟩ ?_
          refine V_ald0 dX6_copy_55 ?_
          refine V_get lf_X6_9 dX6_copy_56 mW_obj rfl ?_
          refine V_ild3 dX6_copy_59 ?_
          refine V_ialdk dX6_copy_60 mW_a2 ⟨hj', by decide⟩ ?_
          refine V_icmp_eq 70 dX6_copy_61 (by decide) (fun c61 => ?_) (fun c61 => ?_)
          · refine V_ild2 dX6_copy_70 ?_
            refine V_if_lt 109 dX6_copy_71 (by decide) (fun c71 => ?_) (fun c71 => ?_)
            · have hN : ¬ cpP τ j j' i i' n := fun h => h.1 c71
              refine V_iconst 0 dX6_copy_109 (by decide) ?_
              refine V_ist6 dX6_copy_110 rfl (by decide) ?_
              refine V_ild6 dX6_copy_112 ?_
              refine V_if_eq 144 dX6_copy_114 (by decide) (fun c114 => ?_) (fun c114 => ?_)
              · refine V_ald0 dX6_copy_144 ?_
                refine V_iconst 3 dX6_copy_145 (by decide) ?_
                refine V_callV lm_X6_110 (mk_fails 3) dX6_copy_146 mW_obj rfl (dep hX (by decide)) rfl (Nat.le_of_ble_eq_true rfl) ?_
                exact V_iret hX dX6_copy_149 rfl (by rw [Rm_copy, if_neg (fun z => z.elim c29 c40), if_pos c61, if_neg hN]; decide) (congrArg (mW B tc) (by rw [Sm_copy, if_neg (fun z => z.elim c29 c40), if_pos c61, if_neg hN]))
              · first | exact absurd c114 (by decide) | exact absurd (by decide) c114
            · refine V_ild4 dX6_copy_74 ?_
              refine V_if_lt 109 dX6_copy_76 (by decide) (fun c76 => ?_) (fun c76 => ?_)
              · have hN : ¬ cpP τ j j' i i' n := fun h => h.2.1 c76
                refine V_iconst 0 dX6_copy_109 (by decide) ?_
                refine V_ist6 dX6_copy_110 rfl (by decide) ?_
                refine V_ild6 dX6_copy_112 ?_
                refine V_if_eq 144 dX6_copy_114 (by decide) (fun c114 => ?_) (fun c114 => ?_)
                · refine V_ald0 dX6_copy_144 ?_
                  refine V_iconst 3 dX6_copy_145 (by decide) ?_
                  refine V_callV lm_X6_110 (mk_fails 3) dX6_copy_146 mW_obj rfl (dep hX (by decide)) rfl (Nat.le_of_ble_eq_true rfl) ?_
                  exact V_iret hX dX6_copy_149 rfl (by rw [Rm_copy, if_neg (fun z => z.elim c29 c40), if_pos c61, if_neg hN]; decide) (congrArg (mW B tc) (by rw [Sm_copy, if_neg (fun z => z.elim c29 c40), if_pos c61, if_neg hN]))
                · first | exact absurd c114 (by decide) | exact absurd (by decide) c114
              · refine V_ild5 dX6_copy_79 ?_
                refine V_if_lt 109 dX6_copy_81 (by decide) (fun c81 => ?_) (fun c81 => ?_)
                · have hN : ¬ cpP τ j j' i i' n := fun h => h.2.2.1 c81
                  refine V_iconst 0 dX6_copy_109 (by decide) ?_
                  refine V_ist6 dX6_copy_110 rfl (by decide) ?_
                  refine V_ild6 dX6_copy_112 ?_
                  refine V_if_eq 144 dX6_copy_114 (by decide) (fun c114 => ?_) (fun c114 => ?_)
                  · refine V_ald0 dX6_copy_144 ?_
                    refine V_iconst 3 dX6_copy_145 (by decide) ?_
                    refine V_callV lm_X6_110 (mk_fails 3) dX6_copy_146 mW_obj rfl (dep hX (by decide)) rfl (Nat.le_of_ble_eq_true rfl) ?_
                    exact V_iret hX dX6_copy_149 rfl (by rw [Rm_copy, if_neg (fun z => z.elim c29 c40), if_pos c61, if_neg hN]; decide) (congrArg (mW B tc) (by rw [Sm_copy, if_neg (fun z => z.elim c29 c40), if_pos c61, if_neg hN]))
                  · first | exact absurd c114 (by decide) | exact absurd (by decide) c114
                · refine V_ild2 dX6_copy_84 ?_
                  refine V_ald0 dX6_copy_85 ?_
                  refine V_get lf_X6_13 dX6_copy_86 mW_obj rfl ?_
                  refine V_ild1 dX6_copy_89 ?_
                  refine V_ialdk dX6_copy_90 mW_a3 ⟨hj, by decide⟩ ?_
                  refine V_icmp_gt 109 dX6_copy_91 (by decide) (fun c91 => ?_) (fun c91 => ?_)
                  · have hN : ¬ cpP τ j j' i i' n := fun h => h.2.2.2.1 c91
                    refine V_iconst 0 dX6_copy_109 (by decide) ?_
                    refine V_ist6 dX6_copy_110 rfl (by decide) ?_
                    refine V_ild6 dX6_copy_112 ?_
                    refine V_if_eq 144 dX6_copy_114 (by decide) (fun c114 => ?_) (fun c114 => ?_)
                    · refine V_ald0 dX6_copy_144 ?_
                      refine V_iconst 3 dX6_copy_145 (by decide) ?_
                      refine V_callV lm_X6_110 (mk_fails 3) dX6_copy_146 mW_obj rfl (dep hX (by decide)) rfl (Nat.le_of_ble_eq_true rfl) ?_
                      exact V_iret hX dX6_copy_149 rfl (by rw [Rm_copy, if_neg (fun z => z.elim c29 c40), if_pos c61, if_neg hN]; decide) (congrArg (mW B tc) (by rw [Sm_copy, if_neg (fun z => z.elim c29 c40), if_pos c61, if_neg hN]))
                    · first | exact absurd c114 (by decide) | exact absurd (by decide) c114
                  · refine V_ild4 dX6_copy_94 ?_
                    refine V_ald0 dX6_copy_96 ?_
                    refine V_get lf_X6_13 dX6_copy_97 mW_obj rfl ?_
                    refine V_ild3 dX6_copy_100 ?_
                    refine V_ialdk dX6_copy_101 mW_a3 ⟨hj', by decide⟩ ?_
                    refine V_icmp_gt 109 dX6_copy_102 (by decide) (fun c102 => ?_) (fun c102 => ?_)
                    · have hN : ¬ cpP τ j j' i i' n := fun h => h.2.2.2.2.1 c102
                      refine V_iconst 0 dX6_copy_109 (by decide) ?_
                      refine V_ist6 dX6_copy_110 rfl (by decide) ?_
                      refine V_ild6 dX6_copy_112 ?_
                      refine V_if_eq 144 dX6_copy_114 (by decide) (fun c114 => ?_) (fun c114 => ?_)
                      · refine V_ald0 dX6_copy_144 ?_
                        refine V_iconst 3 dX6_copy_145 (by decide) ?_
                        refine V_callV lm_X6_110 (mk_fails 3) dX6_copy_146 mW_obj rfl (dep hX (by decide)) rfl (Nat.le_of_ble_eq_true rfl) ?_
                        exact V_iret hX dX6_copy_149 rfl (by rw [Rm_copy, if_neg (fun z => z.elim c29 c40), if_pos c61, if_neg hN]; decide) (congrArg (mW B tc) (by rw [Sm_copy, if_neg (fun z => z.elim c29 c40), if_pos c61, if_neg hN]))
                      · first | exact absurd c114 (by decide) | exact absurd (by decide) c114
                    · refine V_iconst 1 dX6_copy_105 (by decide) ?_
                      refine V_goto 110 dX6_copy_106 (by decide) ?_
                      refine V_ist6 dX6_copy_110 rfl (by decide) ?_
                      refine V_ild6 dX6_copy_112 ?_
                      refine V_if_eq 144 dX6_copy_114 (by decide) (fun c114 => ?_) (fun c114 => ?_)
                      · first | exact absurd c114 (by decide) | exact absurd (by decide) c114
                      · refine V_ild5 dX6_copy_117 ?_
                        refine V_ald0 dX6_copy_119 ?_
                        refine V_get lf_X6_13 dX6_copy_120 mW_obj rfl ?_
                        refine V_ild1 dX6_copy_123 ?_
                        refine V_ialdk dX6_copy_124 mW_a3 ⟨hj, by decide⟩ ?_
                        refine V_ild2 dX6_copy_125 ?_
                        refine V_isub dX6_copy_126 ?_
                        refine V_icmp_gt 144 dX6_copy_127 (by decide) (fun c127 => ?_) (fun c127 => ?_)
                        · have hN : ¬ cpP τ j j' i i' n := fun h => h.2.2.2.2.2.1 c127
                          refine V_ald0 dX6_copy_144 ?_
                          refine V_iconst 3 dX6_copy_145 (by decide) ?_
                          refine V_callV lm_X6_110 (mk_fails 3) dX6_copy_146 mW_obj rfl (dep hX (by decide)) rfl (Nat.le_of_ble_eq_true rfl) ?_
                          exact V_iret hX dX6_copy_149 rfl (by rw [Rm_copy, if_neg (fun z => z.elim c29 c40), if_pos c61, if_neg hN]; decide) (congrArg (mW B tc) (by rw [Sm_copy, if_neg (fun z => z.elim c29 c40), if_pos c61, if_neg hN]))
                        · refine V_ild5 dX6_copy_130 ?_
                          refine V_ald0 dX6_copy_132 ?_
                          refine V_get lf_X6_13 dX6_copy_133 mW_obj rfl ?_
                          refine V_ild3 dX6_copy_136 ?_
                          refine V_ialdk dX6_copy_137 mW_a3 ⟨hj', by decide⟩ ?_
                          refine V_ild4 dX6_copy_138 ?_
                          refine V_isub dX6_copy_140 ?_
                          refine V_icmp_le 150 dX6_copy_141 (by decide) (fun c141 => ?_) (fun c141 => ?_)
                          · obtain ⟨n1, hn1, hx1⟩ := hl
                            obtain ⟨n2, hn2, hx2⟩ := hl'
                            obtain ⟨a, e, ea, ee, hae⟩ := cp_in hn1 hx1 c71 c81 c91 c127
                            obtain ⟨a', e', ea', ee', hae'⟩ := cp_in hn2 hx2 c76 c81 c102 (fun z => absurd c141 (Int32.not_le.mpr z))
                            have hee : e' = e := (nI_eq (by omega) (by omega)).mp (ee'.symm.trans ee)
                            subst hee
                            have hc : cpP τ j j' i i' n := ⟨c71, c76, c81, c91, c102, c127, c141⟩
                            subst ea; subst ea'; subst ee
                            have hca : (nI a).toNatClampNeg = a := nI_clamp (by omega)
                            have hca' : (nI a').toNatClampNeg = a' := nI_clamp (by omega)
                            have hce : (nI e').toNatClampNeg = e' := nI_clamp (by omega)
                            refine V_ild2 dX6_copy_150 ?_
                            refine V_ild4 dX6_copy_151 ?_
                            refine V_icmp_ge 160 dX6_copy_153 (by decide) (fun c153 => ?_) (fun c153 => ?_)
                            · refine V_iconst 0 dX6_copy_160 (by decide) ?_
                              refine V_top (y := b2i (nI a < nI a')) (by first | rw [b2i_f (fun z => absurd c153 (Int32.not_le.mpr z))] | rw [b2i_t (Int32.not_le.mp c153)]) ?_
                              refine V_ist7 dX6_copy_161 rfl (by decide) ?_
                              refine V_iconst 0 dX6_copy_163 (by decide) ?_
                              refine V_ist8 dX6_copy_164 rfl (by decide) ?_
                              refine V_dr6 ?_
                              refine lm_copy hj hj' (by omega) (by omega) ?_ ?_ hX
                              · rw [Rm_copy, if_neg (fun z => z.elim c29 c40), if_pos c61, if_pos hc]
                              · rw [Sm_copy, if_neg (fun z => z.elim c29 c40), if_pos c61, if_pos hc, hca, hca', hce]
                            · refine V_iconst 1 dX6_copy_156 (by decide) ?_
                              refine V_goto 161 dX6_copy_157 (by decide) ?_
                              refine V_top (y := b2i (nI a < nI a')) (by first | rw [b2i_f (fun z => absurd c153 (Int32.not_le.mpr z))] | rw [b2i_t (Int32.not_le.mp c153)]) ?_
                              refine V_ist7 dX6_copy_161 rfl (by decide) ?_
                              refine V_iconst 0 dX6_copy_163 (by decide) ?_
                              refine V_ist8 dX6_copy_164 rfl (by decide) ?_
                              refine V_dr6 ?_
                              refine lm_copy hj hj' (by omega) (by omega) ?_ ?_ hX
                              · rw [Rm_copy, if_neg (fun z => z.elim c29 c40), if_pos c61, if_pos hc]
                              · rw [Sm_copy, if_neg (fun z => z.elim c29 c40), if_pos c61, if_pos hc, hca, hca', hce]
                          · have hN : ¬ cpP τ j j' i i' n := fun h => c141 h.2.2.2.2.2.2
                            refine V_ald0 dX6_copy_144 ?_
                            refine V_iconst 3 dX6_copy_145 (by decide) ?_
                            refine V_callV lm_X6_110 (mk_fails 3) dX6_copy_146 mW_obj rfl (dep hX (by decide)) rfl (Nat.le_of_ble_eq_true rfl) ?_
                            exact V_iret hX dX6_copy_149 rfl (by rw [Rm_copy, if_neg (fun z => z.elim c29 c40), if_pos c61, if_neg hN]; decide) (congrArg (mW B tc) (by rw [Sm_copy, if_neg (fun z => z.elim c29 c40), if_pos c61, if_neg hN]))
          · refine V_ald0 dX6_copy_64 ?_
            refine V_iconst 2 dX6_copy_65 (by decide) ?_
            refine V_callV lm_X6_110 (mk_fails 2) dX6_copy_66 mW_obj rfl (dep hX (by decide)) rfl (Nat.le_of_ble_eq_true rfl) ?_
            exact V_iret hX dX6_copy_69 rfl (by rw [Rm_copy, if_neg (fun z => z.elim c29 c40), if_neg c61]; decide) (congrArg (mW B tc) (by rw [Sm_copy, if_neg (fun z => z.elim c29 c40), if_neg c61]))
        · refine V_ald0 dX6_copy_43 ?_
          refine V_iconst 1 dX6_copy_44 (by decide) ?_
          refine V_callV lm_X6_110 (mk_fails 1) dX6_copy_45 mW_obj rfl (dep hX (by decide)) rfl (Nat.le_of_ble_eq_true rfl) ?_
          exact V_iret hX dX6_copy_48 rfl (by first | (rw [Rm_copy, if_pos (Or.inl c29)]; done) | (rw [Rm_copy, if_pos (Or.inr c40)]; done) | (rw [Rm_copy, if_pos (Or.inl c29)]; decide) | (rw [Rm_copy, if_pos (Or.inr c40)]; decide)) (congrArg (mW B tc) (by first | rw [Sm_copy, if_pos (Or.inl c29)] | rw [Sm_copy, if_pos (Or.inr c40)]))
    · try rw [b2i_eq] at c16
      exact absurd (show shI (nI j') from ⟨nI_pos (by omega), by rw [show (3 : Int32) = nI 3 by decide, nI_ltI (by decide) (by omega)]; omega⟩) c16
set_option maxRecDepth 100000 in
set_option maxHeartbeats 4000000 in
theorem mk_copyN1 (k : Int32) (hk : ¬ shI k) (i k2 i2 n : Int32) : Ok 2 yX6_copy cX6_copy 10 (some .int) D tc [.ref (B 0), .int k, .int i, .int k2, .int i2, .int n] (mW B tc τ) (some (.int (-1))) (mW B tc (um τ 0 0 0)) := by
  refine Ok_of RX6 rfl (by decide) [some (.ref (B 0)), some (.int k), some (.int i), some (.int k2), some (.int i2), some (.int n), none, none, none, none] rfl (Nat.le_of_ble_eq_true rfl) ?_
  intro X hX
  refine V_ald0 dX6_copy_0 ?_
  refine V_iconst 0 dX6_copy_1 (by decide) ?_
  refine V_puti lp_X6_80 dX6_copy_2 mW_obj (Nat.le_of_ble_eq_true rfl) (mW_p0 _) ?_
  refine V_ild1 dX6_copy_5 ?_
  refine V_callS ls_X6_99 (mk_isSheet _) dX6_copy_6 (dep hX (by decide)) rfl (Nat.le_of_ble_eq_true rfl) ?_
  refine V_if_eq 19 dX6_copy_9 (by decide) (fun c9 => ?_) (fun c9 => ?_)
  · try rw [b2i_eq] at c9
    try rw [Decidable.not_not] at c9
    refine V_iconst (-1) dX6_copy_19 (by decide) ?_
    exact V_iret hX dX6_copy_20 rfl rfl rfl
  · try rw [b2i_ne] at c9
    exact absurd c9 hk
set_option maxRecDepth 100000 in
set_option maxHeartbeats 4000000 in
theorem mk_copyN2 (hj : j < 4) (k2 : Int32) (hk2 : ¬ shI k2) (i i2 n : Int32) : Ok 2 yX6_copy cX6_copy 10 (some .int) D tc [.ref (B 0), .int (nI j), .int i, .int k2, .int i2, .int n] (mW B tc τ) (some (.int (-1))) (mW B tc (um τ 0 0 0)) := by
  refine Ok_of RX6 rfl (by decide) [some (.ref (B 0)), some (.int (nI j)), some (.int i), some (.int k2), some (.int i2), some (.int n), none, none, none, none] rfl (Nat.le_of_ble_eq_true rfl) ?_
  intro X hX
  refine V_ald0 dX6_copy_0 ?_
  refine V_iconst 0 dX6_copy_1 (by decide) ?_
  refine V_puti lp_X6_80 dX6_copy_2 mW_obj (Nat.le_of_ble_eq_true rfl) (mW_p0 _) ?_
  refine V_ild1 dX6_copy_5 ?_
  refine V_callS ls_X6_99 (mk_isSheet _) dX6_copy_6 (dep hX (by decide)) rfl (Nat.le_of_ble_eq_true rfl) ?_
  refine V_if_eq 19 dX6_copy_9 (by decide) (fun c9 => ?_) (fun c9 => ?_)
  · try rw [b2i_eq] at c9
    exact absurd (show shI (nI j) from ⟨nI_pos (by omega), by rw [show (3 : Int32) = nI 3 by decide, nI_ltI (by decide) (by omega)]; omega⟩) c9
  · try rw [b2i_ne] at c9
    try rw [Decidable.not_not] at c9
    refine V_ild3 dX6_copy_12 ?_
    refine V_callS ls_X6_99 (mk_isSheet _) dX6_copy_13 (dep hX (by decide)) rfl (Nat.le_of_ble_eq_true rfl) ?_
    refine V_if_ne 21 dX6_copy_16 (by decide) (fun c16 => ?_) (fun c16 => ?_)
    · try rw [b2i_ne] at c16
      exact absurd c16 hk2
    · try rw [b2i_eq] at c16
      try rw [Decidable.not_not] at c16
      refine V_iconst (-1) dX6_copy_19 (by decide) ?_
      exact V_iret hX dX6_copy_20 rfl rfl rfl
set_option maxRecDepth 100000 in
set_option maxHeartbeats 4000000 in
theorem mk_joyOfRow (hM : τ 6 0 = nI M) (h6 : M ≤ 6) (p : Nat) (hp : p < 4) (hN3 : N ≤ 3) (own : Int32) : Ok 2 yX6_joyOfRow cX6_joyOfRow 8 (some .int) D tc [.ref (B 0), .int (nI p), .int (own), .int (nI N)] (mW B tc τ) (some (.int (jrM τ (τ 29) M p own N))) (mW B tc τ) := by
  refine Ok_of RX6 rfl (by decide) [some (.ref (B 0)), some (.int (nI p)), some (.int (own)), some (.int (nI N)), none, none, none, none] rfl (Nat.le_of_ble_eq_true rfl) ?_
  intro X hX
  have lpS : ∀ t, t < N → V X D tc cX6_joyOfRow RX6 8 6 ((fun t => [some (.ref (B 0)), some (.int (nI p)), some (.int own), some (.int (nI N)), some (.int (jrM τ (τ 29) M p own t)), some (.int (nI t)), none, none]) (t + 1)) [] ((fun t => mW B tc τ) (t + 1)) → V X D tc cX6_joyOfRow RX6 8 6 ((fun t => [some (.ref (B 0)), some (.int (nI p)), some (.int own), some (.int (nI N)), some (.int (jrM τ (τ 29) M p own t)), some (.int (nI t)), none, none]) t) [] ((fun t => mW B tc τ) t) := by
    intro t ht ihlp
    have innS : ∀ k, k < M → V X D tc cX6_joyOfRow RX6 8 18 ((fun k => [some (.ref (B 0)), some (.int (nI p)), some (.int own), some (.int (nI N)), some (.int (jrM τ (τ 29) M p own t)), some (.int (nI t)), some (.int (rsM (τ 29) own (nI t) k)), some (.int (nI k))]) (k + 1)) [] ((fun k => mW B tc τ) (k + 1)) → V X D tc cX6_joyOfRow RX6 8 18 ((fun k => [some (.ref (B 0)), some (.int (nI p)), some (.int own), some (.int (nI N)), some (.int (jrM τ (τ 29) M p own t)), some (.int (nI t)), some (.int (rsM (τ 29) own (nI t) k)), some (.int (nI k))]) k) [] ((fun k => mW B tc τ) k) := by
      intro k hk ihinn
      refine V_ild7 dX6_joyOfRow_18 ?_
      refine V_ald0 dX6_joyOfRow_20 ?_
      refine V_get lf_X6_93 dX6_joyOfRow_21 mW_obj rfl ?_
      refine V_icmp_ge 68 dX6_joyOfRow_24 (by decide) (fun c24 => ?_) (fun c24 => ?_)
      · exact absurd c24 (ge_no hM hk (by omega))
      · refine V_ild6 dX6_joyOfRow_27 ?_
        refine V_ild2 dX6_joyOfRow_29 ?_
        refine V_ild7 dX6_joyOfRow_30 ?_
        refine V_ishr dX6_joyOfRow_32 ?_
        refine V_iconst 1 dX6_joyOfRow_33 (by decide) ?_
        refine V_iand dX6_joyOfRow_34 ?_
        refine V_iconst 1 dX6_joyOfRow_35 (by decide) ?_
        refine V_icmp_ne 58 dX6_joyOfRow_36 (by decide) (fun c36 => ?_) (fun c36 => ?_)
        · refine V_iconst 0 dX6_joyOfRow_58 (by decide) ?_
          refine V_ior dX6_joyOfRow_59 ?_
          refine V_ist6 dX6_joyOfRow_60 rfl (by decide) ?_
          refine V_inc7 (nI (k + 1)) dX6_joyOfRow_62 (nI_inc k) rfl (by decide) ?_
          refine V_goto 18 dX6_joyOfRow_65 (by decide) ?_
          refine V_eq ?_ rfl rfl ihinn
          (try first | replace c36 := eq_false c36 | replace c36 := eq_true c36)
          (try first | replace c48 := eq_false c48 | replace c48 := eq_true c48)
          simp only [rsM, oneI, c36, not_true_eq_false, not_false_eq_true, and_self, true_and, and_true, false_and, and_false, true_or, or_true, false_or, or_false, or_self, ↓reduceIte]
        · refine V_ald0 dX6_joyOfRow_39 ?_
          refine V_get lf_X6_65 dX6_joyOfRow_40 mW_obj rfl ?_
          refine V_ild7 dX6_joyOfRow_43 ?_
          refine V_ialdk dX6_joyOfRow_45 mW_a29 ⟨by omega, by decide⟩ ?_
          refine V_ild5 dX6_joyOfRow_46 ?_
          refine V_icmp_ne 58 dX6_joyOfRow_48 (by decide) (fun c48 => ?_) (fun c48 => ?_)
          · refine V_iconst 0 dX6_joyOfRow_58 (by decide) ?_
            refine V_ior dX6_joyOfRow_59 ?_
            refine V_ist6 dX6_joyOfRow_60 rfl (by decide) ?_
            refine V_inc7 (nI (k + 1)) dX6_joyOfRow_62 (nI_inc k) rfl (by decide) ?_
            refine V_goto 18 dX6_joyOfRow_65 (by decide) ?_
            refine V_eq ?_ rfl rfl ihinn
            (try first | replace c36 := eq_false c36 | replace c36 := eq_true c36)
            (try first | replace c48 := eq_false c48 | replace c48 := eq_true c48)
            simp only [rsM, oneI, c36, c48, not_true_eq_false, not_false_eq_true, and_self, true_and, and_true, false_and, and_false, true_or, or_true, false_or, or_false, or_self, ↓reduceIte]
          · refine V_iconst 1 dX6_joyOfRow_51 (by decide) ?_
            refine V_ild7 dX6_joyOfRow_52 ?_
            refine V_ishl dX6_joyOfRow_54 ?_
            refine V_goto 59 dX6_joyOfRow_55 (by decide) ?_
            refine V_ior dX6_joyOfRow_59 ?_
            refine V_ist6 dX6_joyOfRow_60 rfl (by decide) ?_
            refine V_inc7 (nI (k + 1)) dX6_joyOfRow_62 (nI_inc k) rfl (by decide) ?_
            refine V_goto 18 dX6_joyOfRow_65 (by decide) ?_
            refine V_eq ?_ rfl rfl ihinn
            (try first | replace c36 := eq_false c36 | replace c36 := eq_true c36)
            (try first | replace c48 := eq_false c48 | replace c48 := eq_true c48)
            simp only [rsM, oneI, c36, c48, not_true_eq_false, not_false_eq_true, and_self, true_and, and_true, false_and, and_false, true_or, or_true, false_or, or_false, or_self, ↓reduceIte]
    have innE : V X D tc cX6_joyOfRow RX6 8 18 ((fun k => [some (.ref (B 0)), some (.int (nI p)), some (.int own), some (.int (nI N)), some (.int (jrM τ (τ 29) M p own t)), some (.int (nI t)), some (.int (rsM (τ 29) own (nI t) k)), some (.int (nI k))]) (M)) [] ((fun k => mW B tc τ) (M)) := by
      refine V_ild7 dX6_joyOfRow_18 ?_
      refine V_ald0 dX6_joyOfRow_20 ?_
      refine V_get lf_X6_93 dX6_joyOfRow_21 mW_obj rfl ?_
      refine V_icmp_ge 68 dX6_joyOfRow_24 (by decide) (fun c24 => ?_) (fun c24 => ?_)
      · refine V_ild4 dX6_joyOfRow_68 ?_
        refine V_ald0 dX6_joyOfRow_70 ?_
        refine V_ild6 dX6_joyOfRow_71 ?_
        refine V_ald0 dX6_joyOfRow_73 ?_
        refine V_get lf_X6_129 dX6_joyOfRow_74 mW_obj rfl ?_
        refine V_ild5 dX6_joyOfRow_77 ?_
        refine V_iadd dX6_joyOfRow_79 ?_
        refine V_ild5 dX6_joyOfRow_80 ?_
        refine V_if_ne 98 dX6_joyOfRow_82 (by decide) (fun c82 => ?_) (fun c82 => ?_)
        · refine V_iconst 0 dX6_joyOfRow_98 (by decide) ?_
          refine V_top (y := obM τ p t) (by unfold obM; first | rw [if_neg (fun z => c82 (by rw [z]; rfl))] | (rw [if_pos (of0 c82 (by omega))]; first | rw [if_pos c91] | rw [if_neg c91])) ?_
          refine V_callV lm_X6_203 (mk_joyBy hM h6 _ _ _) dX6_joyOfRow_99 mW_obj rfl (dep hX (by decide)) rfl (Nat.le_of_ble_eq_true rfl) ?_
          refine V_iadd dX6_joyOfRow_102 ?_
          refine V_ist4 dX6_joyOfRow_103 rfl (by decide) ?_
          refine V_inc5 (nI (t + 1)) dX6_joyOfRow_105 (nI_inc t) rfl (by decide) ?_
          refine V_goto 6 dX6_joyOfRow_108 (by decide) ?_
          refine V_dr6 ?_
          refine V_dr7 ?_
          exact ihlp
        · refine V_ald0 dX6_joyOfRow_85 ?_
          refine V_get lf_X6_25 dX6_joyOfRow_86 mW_obj rfl ?_
          refine V_ild1 dX6_joyOfRow_89 ?_
          refine V_zaldk dX6_joyOfRow_90 mW_a11 ⟨hp, by decide⟩ ?_
          refine V_if_eq 98 dX6_joyOfRow_91 (by decide) (fun c91 => ?_) (fun c91 => ?_)
          · refine V_iconst 0 dX6_joyOfRow_98 (by decide) ?_
            refine V_top (y := obM τ p t) (by unfold obM; first | rw [if_neg (fun z => c82 (by rw [z]; rfl))] | (rw [if_pos (of0 c82 (by omega))]; first | rw [if_pos c91] | rw [if_neg c91])) ?_
            refine V_callV lm_X6_203 (mk_joyBy hM h6 _ _ _) dX6_joyOfRow_99 mW_obj rfl (dep hX (by decide)) rfl (Nat.le_of_ble_eq_true rfl) ?_
            refine V_iadd dX6_joyOfRow_102 ?_
            refine V_ist4 dX6_joyOfRow_103 rfl (by decide) ?_
            refine V_inc5 (nI (t + 1)) dX6_joyOfRow_105 (nI_inc t) rfl (by decide) ?_
            refine V_goto 6 dX6_joyOfRow_108 (by decide) ?_
            refine V_dr6 ?_
            refine V_dr7 ?_
            exact ihlp
          · refine V_iconst 1 dX6_joyOfRow_94 (by decide) ?_
            refine V_goto 99 dX6_joyOfRow_95 (by decide) ?_
            refine V_top (y := obM τ p t) (by unfold obM; first | rw [if_neg (fun z => c82 (by rw [z]; rfl))] | (rw [if_pos (of0 c82 (by omega))]; first | rw [if_pos c91] | rw [if_neg c91])) ?_
            refine V_callV lm_X6_203 (mk_joyBy hM h6 _ _ _) dX6_joyOfRow_99 mW_obj rfl (dep hX (by decide)) rfl (Nat.le_of_ble_eq_true rfl) ?_
            refine V_iadd dX6_joyOfRow_102 ?_
            refine V_ist4 dX6_joyOfRow_103 rfl (by decide) ?_
            refine V_inc5 (nI (t + 1)) dX6_joyOfRow_105 (nI_inc t) rfl (by decide) ?_
            refine V_goto 6 dX6_joyOfRow_108 (by decide) ?_
            refine V_dr6 ?_
            refine V_dr7 ?_
            exact ihlp
      · exact absurd (ge_yes hM) c24
    have inn := V_for (fun k => [some (.ref (B 0)), some (.int (nI p)), some (.int own), some (.int (nI N)), some (.int (jrM τ (τ 29) M p own t)), some (.int (nI t)), some (.int (rsM (τ 29) own (nI t) k)), some (.int (nI k))]) (fun k => mW B tc τ) (M) innS innE
    refine V_ild5 dX6_joyOfRow_6 ?_
    refine V_ild3 dX6_joyOfRow_8 ?_
    refine V_icmp_ge 111 dX6_joyOfRow_9 (by decide) (fun c9 => ?_) (fun c9 => ?_)
    · exact absurd c9 (nI_ge ht (by omega))
    · refine V_iconst 0 dX6_joyOfRow_12 (by decide) ?_
      refine V_ist6 dX6_joyOfRow_13 rfl (by decide) ?_
      refine V_iconst 0 dX6_joyOfRow_15 (by decide) ?_
      refine V_ist7 dX6_joyOfRow_16 rfl (by decide) ?_
      exact inn 0 (Nat.zero_le _)
  have lpE : V X D tc cX6_joyOfRow RX6 8 6 ((fun t => [some (.ref (B 0)), some (.int (nI p)), some (.int own), some (.int (nI N)), some (.int (jrM τ (τ 29) M p own t)), some (.int (nI t)), none, none]) (N)) [] ((fun t => mW B tc τ) (N)) := by
    refine V_ild5 dX6_joyOfRow_6 ?_
    refine V_ild3 dX6_joyOfRow_8 ?_
    refine V_icmp_ge 111 dX6_joyOfRow_9 (by decide) (fun c9 => ?_) (fun c9 => ?_)
    · refine V_ild4 dX6_joyOfRow_111 ?_
      exact V_iret hX dX6_joyOfRow_113 rfl rfl rfl
    · exact absurd (ge_yes rfl) c9
  have lp := V_for (fun t => [some (.ref (B 0)), some (.int (nI p)), some (.int own), some (.int (nI N)), some (.int (jrM τ (τ 29) M p own t)), some (.int (nI t)), none, none]) (fun t => mW B tc τ) (N) lpS lpE
  refine V_iconst 0 dX6_joyOfRow_0 (by decide) ?_
  refine V_ist4 dX6_joyOfRow_1 rfl (by decide) ?_
  refine V_iconst 0 dX6_joyOfRow_3 (by decide) ?_
  refine V_ist5 dX6_joyOfRow_4 rfl (by decide) ?_
  exact lp 0 (Nat.zero_le _)
end
