/-! the text's reading, as one function of its codes -/
def puI (c : Nat → Int32) (p : Nat) : Int32 := 10 * (c (3 + 3 * p) - 48) + c (3 + 3 * p + 1) - 48
def prsP (c : Nat → Int32) (n : Nat) : Nat → Nat → Nat ⊕ Nat
  | 0, k => .inr k
  | f + 1, k => if tkP c n (2 + 3 * k) 44 44 then (if dgP c n (3 + 3 * k) then (if dgP c n (3 + 3 * k + 1) then prsP c n f (k + 1) else .inl (3 + 3 * k + 1)) else .inl (3 + 3 * k)) else .inr k
def bM (P m : Nat) : Nat := 2 + 3 * P + 5 * m
def prsM (c : Nat → Int32) (n P : Nat) : Nat → Nat → Nat ⊕ Nat
  | 0, m => .inr m
  | f + 1, m => if tkP c n (bM P m) 59 59 then (if kdP c n (bM P m + 1) then (if tkP c n (bM P m + 1 + 1) 48 (48 + nI P - 1) then (if dgP c n (bM P m + 1 + 2) then (if dgP c n (bM P m + 1 + 3) then prsM c n P f (m + 1) else .inl (bM P m + 1 + 3)) else .inl (bM P m + 1 + 2)) else .inl (bM P m + 1 + 1)) else .inl (bM P m + 1)) else .inr m
def finM (n P : Nat) : Nat ⊕ Nat → Int32
  | .inl q => nI q
  | .inr m => if 0 < m ∧ bM P m = n then -9 else nI (bM P m)
def finP (c : Nat → Int32) (n : Nat) : Nat ⊕ Nat → Int32
  | .inl q => nI q
  | .inr P => if P = 0 then nI 2 else finM n P (prsM c n P 6 0)
def prs (c : Nat → Int32) (n : Nat) : Int32 := if tkP c n 0 109 109 then (if tkP c n 1 49 57 then finP c n (prsP c n 4 0) else nI 1) else nI 0
abbrev moI (c : Nat → Int32) (P i : Nat) (μ : Sm) : Prop := μ 3 i = kdI (c (bM P i + 1)) ∧ μ 4 i = c (bM P i + 1 + 1) - 48 ∧ μ 5 i = c (bM P i + 1 + 2) - 48 ∧ μ 6 i = c (bM P i + 1 + 3) - 48
/-- how far the reading is: P people, m mornings, place q -/
def J (σ0 : St) (c : Nat → Int32) (n P m q : Nat) (σ : St) : Prop :=
  (∀ o, ¬ o = 6 → ¬ o = 7 → σ o = σ0 o) ∧ σ 7 0 = c ∧ σ 7 1 0 = nI n ∧ σ 7 2 0 = nI q ∧ σ 6 9 0 = nI P ∧ σ 6 10 0 = nI m ∧ σ 6 7 0 = c 1 - 48 ∧ σ 6 8 0 = 0 ∧ σ 6 11 0 = 0 ∧ (∀ i, i < 4 → σ 6 1 i = 0 ∧ σ 6 2 i = -1) ∧ (∀ p, p < P → σ 6 0 p = puI c p) ∧ (∀ i, i < m → moI c P i (σ 6))
theorem J_t {σ0 : St} {c : Nat → Int32} {n P m q q' : Nat} {σ : St} (h : J σ0 c n P m q' σ) : J σ0 c n P m (q + 1) (tkS σ q) := by
  obtain ⟨h1, h2, h3, h4, h5⟩ := h
  refine ⟨fun o a b => ?_, h2, h3, rfl, h5⟩
  unfold tkS
  rw [up_o b, up_o b]
  exact h1 o a b
theorem J_p {σ0 : St} {c : Nat → Int32} {n k q' : Nat} {σ : St} (h : J σ0 c n k 0 q' σ) : J σ0 c n (k + 1) 0 (2 + 3 * (k + 1)) (tpS σ (3 + 3 * k) k) := by
  obtain ⟨h1, h2, h3, h4, h5, h6, h7, h8, h9, h10, h11, h12⟩ := h
  refine ⟨fun o a b => ?_, h2, h3, ?_, nI_1 k, h6, h7, h8, h9, h10, fun p hp => ?_, fun i hi => absurd hi (by omega)⟩
  · unfold tpS tkS
    rw [up_o a, up_o a, up_o b, up_o b, up_o b, up_o b]
    exact h1 o a b
  · show nI (3 + 3 * k + 1 + 1) = _
    congr 1
    omega
  · show (if p = k then 10 * (σ 7 0 (3 + 3 * k) - 48) + σ 7 0 (3 + 3 * k + 1) - 48 else σ 6 0 p) = _
    by_cases e : p = k
    · subst e
      rw [if_pos rfl, h2]
      rfl
    · rw [if_neg e]
      exact h11 p (by omega)
theorem J_m {σ0 : St} {c : Nat → Int32} {n P m q' : Nat} {σ : St} (h : J σ0 c n P m q' σ) : J σ0 c n P (m + 1) (bM P (m + 1)) (tm4 σ (bM P m + 1) m) := by
  obtain ⟨h1, h2, h3, h4, h5, h6, h7, h8, h9, h10, h11, h12⟩ := h
  refine ⟨fun o a b => ?_, h2, h3, ?_, h5, nI_1 m, h7, h8, h9, h10, h11, fun i hi => ?_⟩
  · unfold tm4 tm3 tm2 tm1 tkS
    simp only [up_o a, up_o b]
    exact h1 o a b
  · show nI (bM P m + 1 + 3 + 1) = _
    congr 1
  · by_cases e : i = m
    · subst e
      refine ⟨?_, ?_, ?_, ?_⟩
      · show (if i = i then kdI (σ 7 0 (bM P i + 1)) else σ 6 3 i) = _
        rw [if_pos rfl, h2]
      · show (if i = i then σ 7 0 (bM P i + 1 + 1) - 48 else σ 6 4 i) = _
        rw [if_pos rfl, h2]
      · show (if i = i then σ 7 0 (bM P i + 1 + 2) - 48 else σ 6 5 i) = _
        rw [if_pos rfl, h2]
      · show (if i = i then σ 7 0 (bM P i + 1 + 3) - 48 else σ 6 6 i) = _
        rw [if_pos rfl, h2]
    · have := h12 i (by omega)
      refine ⟨?_, ?_, ?_, ?_⟩
      · show (if i = m then _ else σ 6 3 i) = _
        rw [if_neg e]; exact this.1
      · show (if i = m then _ else σ 6 4 i) = _
        rw [if_neg e]; exact this.2.1
      · show (if i = m then _ else σ 6 5 i) = _
        rw [if_neg e]; exact this.2.2.1
      · show (if i = m then _ else σ 6 6 i) = _
        rw [if_neg e]; exact this.2.2.2
/-- a text that is taken -/
def DOK (c : Nat → Int32) (n : Nat) (σ : St) : Prop := ∃ P m : Nat, prsP c n 4 0 = .inr P ∧ prsM c n P 6 0 = .inr m ∧ 0 < P ∧ P ≤ 4 ∧ 0 < m ∧ m ≤ 6 ∧ ∃ σ0 : St, J σ0 c n P m n σ
def Qff (A : Nat → Nat) (tc : Tc) (σ0 : St) (c : Nat → Int32) (n : Nat) (r : Option Value) (ws' : va_W) : Prop := ∃ σ' : St, ws' = cW A tc σ' ∧ (∀ o, ¬ o = 6 → ¬ o = 7 → σ' o = σ0 o) ∧ r = some (.int (prs c n)) ∧ (prs c n = -9 → DOK c n σ')
theorem Qff_no {A : Nat → Nat} {tc : Tc} {σ0 : St} {c : Nat → Int32} {n P m q : Nat} {σ : St} (h : J σ0 c n P m q σ) (hq : q < 2 ^ 31) (e : prs c n = nI q) : Qff A tc σ0 c n (some (.int (σ 7 2 0))) (cW A tc σ) := ⟨σ, rfl, h.1, by rw [h.2.2.2.1, e], fun h9 => absurd (e.symm.trans h9) (nI_ne9 hq)⟩
theorem P_le (c : Nat → Int32) (n : Nat) : ∀ f k P, prsP c n f k = .inr P → k ≤ P ∧ P ≤ k + f := by
  intro f
  induction f with
  | zero => intro k P h; unfold prsP at h; cases h; exact ⟨Nat.le_refl _, by omega⟩
  | succ f ih =>
    intro k P h
    unfold prsP at h
    split at h
    · split at h
      · split at h
        · have := ih _ _ h; omega
        · cases h
      · cases h
    · cases h; omega
theorem M_le (c : Nat → Int32) (n P : Nat) : ∀ f m M, prsM c n P f m = .inr M → m ≤ M ∧ M ≤ m + f := by
  intro f
  induction f with
  | zero => intro m M h; unfold prsM at h; cases h; exact ⟨Nat.le_refl _, by omega⟩
  | succ f ih =>
    intro m M h
    unfold prsM at h
    split at h
    · split at h
      · split at h
        · split at h
          · split at h
            · have := ih _ _ h; omega
            · cases h
          · cases h
        · cases h
      · cases h
    · cases h; omega
section
variable {D : va_G} {tc : Tc} {A : Nat → Nat} {σ σ0 : St} {n P m k j : Nat} {c : Nat → Int32} {X : Cx}
set_option maxRecDepth 100000 in
set_option maxHeartbeats 4000000 in
theorem ff_3 (hX : AimR X D (some .int) 3 (Qff A tc σ0 c n)) (hn : n ≤ 60) (hP0 : 0 < P) (hm6 : m ≤ 6) (hP4 : P ≤ 4) (e1 : prsP c n 4 0 = .inr P) (e2 : prsM c n P 6 0 = .inr m) (e3 : prs c n = finM n P (.inr m)) (h : J σ0 c n P m (bM P m) σ) {i x5 : Int32} : V X D tc cX4_firstFaultOf RX4 6 166 [some (.ref (A 26)), some (.ref (A (sb j))), some (.int i), some (.int (nI n)), some (.ref (A (mb 6))), some (.int x5)] [] (cW A tc σ) := by
  have hb : bM P m < 2 ^ 20 := by unfold bM; omega
  have hfin : 0 < m → bM P m = n → prs c n = -9 := fun a b => by rw [e3]; exact if_pos ⟨a, b⟩
  have hno : ¬ (0 < m ∧ bM P m = n) → prs c n = nI (bM P m) := fun a => by rw [e3]; exact if_neg a
  refine V_ald4 dX4_firstFaultOf_166 ?_
  refine V_get lf_X4_58 dX4_firstFaultOf_168 (cW_mkt dra6) rfl ?_
  refine V_top (y := nI m) h.2.2.2.2.2.1 ?_
  refine V_if_le 190 dX4_firstFaultOf_171 (by decide) (fun c171 => ?_) (fun c171 => ?_)
  · have hm0 : ¬ (0 < m ∧ bM P m = n) := fun q => by have := nI_nle q.1 (by omega); exact this c171
    refine V_ald0 dX4_firstFaultOf_190 ?_
    refine V_get lf_X4_19 dX4_firstFaultOf_191 cW_rd rfl ?_
    exact V_iretR hX dX4_firstFaultOf_194 rfl (by first | exact Qff_no h (by omega) (hno hm0) | exact Qff_no h (by omega) (hno hm1) | exact ⟨σ, rfl, h.1, by rw [hfin hm0 c182], fun _ => ⟨P, m, e1, e2, hP0, hP4, hm0, hm6, σ0, c182 ▸ h⟩⟩)
  · have hm0 : 0 < m := by
      rcases Nat.eq_zero_or_pos m with z | z
      · rw [z] at c171; exact absurd (by decide) c171
      · exact z
    refine V_ald0 dX4_firstFaultOf_174 ?_
    refine V_get lf_X4_19 dX4_firstFaultOf_175 cW_rd rfl ?_
    refine V_top (y := nI (bM P m)) h.2.2.2.1 ?_
    refine V_ald0 dX4_firstFaultOf_178 ?_
    refine V_get lf_X4_15 dX4_firstFaultOf_179 cW_rd rfl ?_
    refine V_top (y := nI n) h.2.2.1 ?_
    refine V_icmp_ne 190 dX4_firstFaultOf_182 (by decide) (fun c182 => ?_) (fun c182 => ?_)
    · have hm1 : ¬ (0 < m ∧ bM P m = n) := fun q => c182 (by rw [q.2])
      refine V_ald0 dX4_firstFaultOf_190 ?_
      refine V_get lf_X4_19 dX4_firstFaultOf_191 cW_rd rfl ?_
      exact V_iretR hX dX4_firstFaultOf_194 rfl (by first | exact Qff_no h (by omega) (hno hm0) | exact Qff_no h (by omega) (hno hm1) | exact ⟨σ, rfl, h.1, by rw [hfin hm0 c182], fun _ => ⟨P, m, e1, e2, hP0, hP4, hm0, hm6, σ0, c182 ▸ h⟩⟩)
    · rw [nI_eq (by omega) (by omega)] at c182
      refine V_bipush (-9) dX4_firstFaultOf_185 (by decide) ?_
      refine V_goto 194 dX4_firstFaultOf_187 (by decide) ?_
      exact V_iretR hX dX4_firstFaultOf_194 rfl (by first | exact Qff_no h (by omega) (hno hm0) | exact Qff_no h (by omega) (hno hm1) | exact ⟨σ, rfl, h.1, by rw [hfin hm0 c182], fun _ => ⟨P, m, e1, e2, hP0, hP4, hm0, hm6, σ0, c182 ▸ h⟩⟩)
theorem J_w {σ0 : St} {c : Nat → Int32} {n P m q : Nat} {σ : St} {i : Nat} {v : Int32} {k : Nat} (hk : k = 3 ∨ k = 4 ∨ k = 5 ∨ k = 6) (hi : m ≤ i) (h : J σ0 c n P m q σ) : J σ0 c n P m q (up σ 6 k i v) := by
  obtain ⟨h1, h2, h3, h4, h5, h6, h7, h8, h9, h10, h11, h12⟩ := h
  have e : ∀ k', ¬ k' = k → up σ 6 k i v 6 k' = σ 6 k' := fun k' q => up_k q
  refine ⟨fun o a b => by rw [up_o a]; exact h1 o a b, by rw [up_o (by decide)]; exact h2, by rw [up_o (by decide)]; exact h3, by rw [up_o (by decide)]; exact h4, by rw [e 9 (by omega)]; exact h5, by rw [e 10 (by omega)]; exact h6, by rw [e 7 (by omega)]; exact h7, by rw [e 8 (by omega)]; exact h8, by rw [e 11 (by omega)]; exact h9, by rw [e 1 (by omega), e 2 (by omega)]; exact h10, by rw [e 0 (by omega)]; exact h11, fun z hz => ?_⟩
  have g : ∀ k', up σ 6 k i v 6 k' z = σ 6 k' z := fun k' => up_ne (fun q => by have := q.2.2; omega)
  unfold moI
  rw [g 3, g 4, g 5, g 6]
  exact h12 z hz
theorem J_tm1 {σ0 : St} {c : Nat → Int32} {n P m q q' : Nat} {σ : St} (h : J σ0 c n P m q' σ) : J σ0 c n P m (q + 1) (tm1 σ q m) := J_w (Or.inl rfl) (Nat.le_refl _) (J_t h)
theorem J_tm2 {σ0 : St} {c : Nat → Int32} {n P m q q' : Nat} {σ : St} (h : J σ0 c n P m q' σ) : J σ0 c n P m (q + 2) (tm2 σ q m) := J_w (Or.inr (Or.inl rfl)) (Nat.le_refl _) (J_t (q := q + 1) (J_tm1 h))
theorem J_tm3 {σ0 : St} {c : Nat → Int32} {n P m q q' : Nat} {σ : St} (h : J σ0 c n P m q' σ) : J σ0 c n P m (q + 3) (tm3 σ q m) := J_w (Or.inr (Or.inr (Or.inl rfl))) (Nat.le_refl _) (J_t (q := q + 2) (J_tm2 h))
theorem ff_r (hX : AimR X D (some .int) 3 (Qff A tc σ0 c n)) {q : Nat} (h : J σ0 c n P m q σ) (hq : q < 2 ^ 31) (e : prs c n = nI q) {i x5 : Int32} : V X D tc cX4_firstFaultOf RX4 6 155 [some (.ref (A 26)), some (.ref (A (sb j))), some (.int i), some (.int (nI n)), some (.ref (A (mb 6))), some (.int x5)] [] (cW A tc σ) := by
  refine V_ald0 dX4_firstFaultOf_155 ?_
  refine V_get lf_X4_19 dX4_firstFaultOf_156 cW_rd rfl ?_
  exact V_iretR hX dX4_firstFaultOf_159 rfl (Qff_no h hq e)
theorem ff_r1 (hX : AimR X D (some .int) 3 (Qff A tc σ0 c n)) {q : Nat} (h : J σ0 c n P m q σ) (hq : q < 2 ^ 31) (e : prs c n = nI q) {i x5 : Int32} : V X D tc cX4_firstFaultOf RX4 6 99 [some (.ref (A 26)), some (.ref (A (sb j))), some (.int i), some (.int (nI n)), some (.ref (A (mb 6))), some (.int x5)] [] (cW A tc σ) := by
  refine V_ald0 dX4_firstFaultOf_99 ?_
  refine V_get lf_X4_19 dX4_firstFaultOf_100 cW_rd rfl ?_
  exact V_iretR hX dX4_firstFaultOf_103 rfl (Qff_no h hq e)
set_option maxRecDepth 100000 in
set_option maxHeartbeats 4000000 in
theorem ff_2 (hX : AimR X D (some .int) 3 (Qff A tc σ0 c n)) (hn : n ≤ 60) (hP0 : 0 < P) (hP4 : P ≤ 4) (e1 : prsP c n 4 0 = .inr P) (e0 : prs c n = finM n P (prsM c n P 6 0)) {i : Int32} : ∀ (f m : Nat) (σ : St), f + m = 6 → prsM c n P f m = prsM c n P 6 0 → J σ0 c n P m (bM P m) σ → V X D tc cX4_firstFaultOf RX4 6 126 [some (.ref (A 26)), some (.ref (A (sb j))), some (.int i), some (.int (nI n)), some (.ref (A (mb 6))), some (.int (nI m))] [] (cW A tc σ) := by
  intro f
  induction f with
  | zero =>
    intro m σ hfm e5 h
    obtain rfl : m = 6 := by omega
    refine V_ild5 dX4_firstFaultOf_126 ?_
    refine V_bipush 6 dX4_firstFaultOf_128 (by decide) ?_
    refine V_icmp_ge 166 dX4_firstFaultOf_130 (by decide) (fun c130 => ?_) (fun c130 => ?_)
    · exact ff_3 hX hn hP0 (by omega) hP4 e1 e5.symm (by rw [e0, ← e5]; rfl) h
    · exact absurd E6 c130
  | succ f ih =>
    intro m σ hfm e5 h
    have hb : bM P m < 2 ^ 10 := by unfold bM; omega
    refine V_ild5 dX4_firstFaultOf_126 ?_
    refine V_bipush 6 dX4_firstFaultOf_128 (by decide) ?_
    refine V_icmp_ge 166 dX4_firstFaultOf_130 (by decide) (fun c130 => ?_) (fun c130 => ?_)
    · exact absurd c130 (L6 (by omega))
    · refine V_ald0 dX4_firstFaultOf_133 ?_
      refine V_bipush 59 dX4_firstFaultOf_134 (by decide) ?_
      refine V_bipush 59 dX4_firstFaultOf_136 (by decide) ?_
      refine V_callV lm_X4_41 (ok_takes h.2.2.1 hn h.2.2.2.1 (by omega) _ _) dX4_firstFaultOf_138 cW_rd rfl (depR hX (by decide)) rfl (Nat.le_of_ble_eq_true rfl) ?_
      refine V_if_eq 166 dX4_firstFaultOf_141 (by decide) (fun c141 => ?_) (fun c141 => ?_)
      · try rw [b2i_eq] at c141
        try rw [Decidable.not_not] at c141
        rw [h.2.1] at c141
        rw [if_neg (by rw [h.2.1]; exact c141)]
        have e4 : prsM c n P (f + 1) m = .inr m := if_neg c141
        exact ff_3 hX hn hP0 (by omega) hP4 e1 (e5.symm.trans e4) (by rw [e0, ← e5, e4]) h
      · try rw [b2i_ne] at c141
        try rw [Decidable.not_not] at c141
        rw [h.2.1] at c141
        rw [if_pos (by rw [h.2.1]; exact c141)]
        have h1 := J_t (q := bM P m) h
        have e4 : prsM c n P (f + 1) m = _ := if_pos c141
        refine V_ald0 dX4_firstFaultOf_144 ?_
        refine V_ald4 dX4_firstFaultOf_145 ?_
        refine V_ild5 dX4_firstFaultOf_147 ?_
        refine V_callV lm_X4_55 (ok_takesMorning (σ := tkS σ (bM P m)) h1.2.2.1 hn h1.2.2.2.1 (by omega) h1.2.2.2.2.1 m (by omega)) dX4_firstFaultOf_149 cW_rd rfl (depR hX (by decide)) rfl (Nat.le_of_ble_eq_true rfl) ?_
        refine V_if_ne 160 dX4_firstFaultOf_152 (by decide) (fun c152 => ?_) (fun c152 => ?_)
        · try rw [b2i_ne] at c152
          try rw [Decidable.not_not] at c152
          rw [h1.2.1] at c152
          rw [if_pos (by rw [h1.2.1]; exact c152.1), if_pos (by rw [h1.2.1]; exact c152.2.1), if_pos (by rw [h1.2.1]; exact c152.2.2.1), if_pos (by rw [h1.2.1]; exact c152.2.2.2)]
          rw [if_pos c152.1, if_pos c152.2.1, if_pos c152.2.2.1, if_pos c152.2.2.2] at e4
          refine V_inc5 (nI (m + 1)) dX4_firstFaultOf_160 (nI_inc m) rfl (by decide) ?_
          refine V_goto 126 dX4_firstFaultOf_163 (by decide) ?_
          exact ih (m + 1) _ (by omega) (e4.symm.trans e5) (J_m h1)
        · try rw [b2i_eq] at c152
          try rw [Decidable.not_not] at c152
          rw [h1.2.1] at c152
          by_cases d1 : ¬ kdP c n (bM P m + 1)
          · rw [if_neg (by rw [h1.2.1]; exact d1)]
            rw [if_neg d1] at e4
            exact ff_r hX h1 (by omega) (by rw [e0, ← e5, e4]; rfl)
          rw [Decidable.not_not] at d1
          rw [if_pos (by rw [h1.2.1]; exact d1)]
          rw [if_pos d1] at e4
          by_cases d2 : ¬ tkP c n (bM P m + 1 + 1) 48 (48 + nI P - 1)
          · rw [if_neg (by rw [h1.2.1]; exact d2)]
            rw [if_neg d2] at e4
            exact ff_r hX (J_tm1 h1) (by omega) (by rw [e0, ← e5, e4]; rfl)
          rw [Decidable.not_not] at d2
          rw [if_pos (by rw [h1.2.1]; exact d2)]
          rw [if_pos d2] at e4
          by_cases d3 : ¬ dgP c n (bM P m + 1 + 2)
          · rw [if_neg (by rw [h1.2.1]; exact d3)]
            rw [if_neg d3] at e4
            exact ff_r hX (J_tm2 h1) (by omega) (by rw [e0, ← e5, e4]; rfl)
          rw [Decidable.not_not] at d3
          rw [if_pos (by rw [h1.2.1]; exact d3)]
          rw [if_pos d3] at e4
          have d4 : ¬ dgP c n (bM P m + 1 + 3) := fun z => c152 ⟨d1, d2, d3, z⟩
          rw [if_neg (by rw [h1.2.1]; exact d4)]
          rw [if_neg d4] at e4
          exact ff_r hX (J_tm3 h1) (by omega) (by rw [e0, ← e5, e4]; rfl)
theorem L4 {k : Nat} (h : k < 4) : ¬ (4 : Int32) ≤ nI k := ge_no (x := 4) (M := 4) (by decide) h (by decide)
theorem E4 : (4 : Int32) ≤ nI 4 := by decide
set_option maxRecDepth 100000 in
set_option maxHeartbeats 4000000 in
theorem ff_p (hX : AimR X D (some .int) 3 (Qff A tc σ0 c n)) (hn : n ≤ 60) (hk4 : k ≤ 4) (e1 : prsP c n 4 0 = .inr k) (e0 : prs c n = finP c n (.inr k)) (h : J σ0 c n k 0 (2 + 3 * k) σ) {i x5 : Int32} : V X D tc cX4_firstFaultOf RX4 6 110 [some (.ref (A 26)), some (.ref (A (sb j))), some (.int i), some (.int (nI n)), some (.ref (A (mb 6))), some (.int x5)] [] (cW A tc σ) := by
  refine V_ald4 dX4_firstFaultOf_110 ?_
  refine V_get lf_X4_52 dX4_firstFaultOf_112 (cW_mkt dra6) rfl ?_
  refine V_top (y := nI k) h.2.2.2.2.1 ?_
  refine V_if_ne 123 dX4_firstFaultOf_115 (by decide) (fun c115 => ?_) (fun c115 => ?_)
  · have hk0 : 0 < k := by
      rcases Nat.eq_zero_or_pos k with z | z
      · rw [z] at c115; exact absurd (by decide) c115
      · exact z
    have e0 : prs c n = finM n k (prsM c n k 6 0) := by
      rw [e0]; exact if_neg (by omega)
    refine V_iconst 0 dX4_firstFaultOf_123 (by decide) ?_
    refine V_ist5 dX4_firstFaultOf_124 rfl (by decide) ?_
    exact ff_2 hX hn hk0 hk4 e1 e0 6 0 σ rfl rfl h
  · have hk0 : k = 0 := of0 c115 (by omega)
    subst hk0
    refine V_ald0 dX4_firstFaultOf_118 ?_
    refine V_get lf_X4_19 dX4_firstFaultOf_119 cW_rd rfl ?_
    exact V_iretR hX dX4_firstFaultOf_122 rfl (Qff_no h (by omega) (by rw [e0]; rfl))
set_option maxRecDepth 100000 in
set_option maxHeartbeats 4000000 in
theorem ff_1 (hX : AimR X D (some .int) 3 (Qff A tc σ0 c n)) (hn : n ≤ 60) (e0 : prs c n = finP c n (prsP c n 4 0)) {i : Int32} : ∀ (f k : Nat) (σ : St), f + k = 4 → prsP c n f k = prsP c n 4 0 → J σ0 c n k 0 (2 + 3 * k) σ → V X D tc cX4_firstFaultOf RX4 6 71 [some (.ref (A 26)), some (.ref (A (sb j))), some (.int i), some (.int (nI n)), some (.ref (A (mb 6))), some (.int (nI k))] [] (cW A tc σ) := by
  intro f
  induction f with
  | zero =>
    intro k σ hfk e5 h
    obtain rfl : k = 4 := by omega
    refine V_ild5 dX4_firstFaultOf_71 ?_
    refine V_iconst 4 dX4_firstFaultOf_73 (by decide) ?_
    refine V_icmp_ge 110 dX4_firstFaultOf_74 (by decide) (fun c74 => ?_) (fun c74 => ?_)
    · exact ff_p hX hn (by omega) e5.symm (by rw [e0, ← e5]; rfl) h
    · exact absurd E4 c74
  | succ f ih =>
    intro k σ hfk e5 h
    refine V_ild5 dX4_firstFaultOf_71 ?_
    refine V_iconst 4 dX4_firstFaultOf_73 (by decide) ?_
    refine V_icmp_ge 110 dX4_firstFaultOf_74 (by decide) (fun c74 => ?_) (fun c74 => ?_)
    · exact absurd c74 (L4 (by omega))
    · refine V_ald0 dX4_firstFaultOf_77 ?_
      refine V_bipush 44 dX4_firstFaultOf_78 (by decide) ?_
      refine V_bipush 44 dX4_firstFaultOf_80 (by decide) ?_
      refine V_callV lm_X4_41 (ok_takes h.2.2.1 hn h.2.2.2.1 (by omega) _ _) dX4_firstFaultOf_82 cW_rd rfl (depR hX (by decide)) rfl (Nat.le_of_ble_eq_true rfl) ?_
      refine V_if_eq 110 dX4_firstFaultOf_85 (by decide) (fun c85 => ?_) (fun c85 => ?_)
      · try rw [b2i_eq] at c85
        try rw [Decidable.not_not] at c85
        rw [h.2.1] at c85
        rw [if_neg (by rw [h.2.1]; exact c85)]
        have e4 : prsP c n (f + 1) k = .inr k := if_neg c85
        exact ff_p hX hn (by omega) (e5.symm.trans e4) (by rw [e0, ← e5, e4]) h
      · try rw [b2i_ne] at c85
        try rw [Decidable.not_not] at c85
        rw [h.2.1] at c85
        rw [if_pos (by rw [h.2.1]; exact c85)]
        have h1 : J σ0 c n k 0 (3 + 3 * k) (tkS σ (2 + 3 * k)) := by
          have := J_t (q := 2 + 3 * k) h
          rw [show 2 + 3 * k + 1 = 3 + 3 * k by omega] at this
          exact this
        have e4 : prsP c n (f + 1) k = _ := if_pos c85
        refine V_ald0 dX4_firstFaultOf_88 ?_
        refine V_ald4 dX4_firstFaultOf_89 ?_
        refine V_ild5 dX4_firstFaultOf_91 ?_
        refine V_callV lm_X4_48 (ok_takesPerson (σ := tkS σ (2 + 3 * k)) h1.2.2.1 hn h1.2.2.2.1 (by omega) k (by omega)) dX4_firstFaultOf_93 cW_rd rfl (depR hX (by decide)) rfl (Nat.le_of_ble_eq_true rfl) ?_
        refine V_if_ne 104 dX4_firstFaultOf_96 (by decide) (fun c96 => ?_) (fun c96 => ?_)
        · try rw [b2i_ne] at c96
          try rw [Decidable.not_not] at c96
          rw [h1.2.1] at c96
          rw [if_pos (by rw [h1.2.1]; exact c96.1), if_pos (by rw [h1.2.1]; exact c96.2)]
          rw [if_pos c96.1, if_pos c96.2] at e4
          refine V_inc5 (nI (k + 1)) dX4_firstFaultOf_104 (nI_inc k) rfl (by decide) ?_
          refine V_goto 71 dX4_firstFaultOf_107 (by decide) ?_
          exact ih (k + 1) _ (by omega) (e4.symm.trans e5) (J_p h1)
        · try rw [b2i_eq] at c96
          try rw [Decidable.not_not] at c96
          rw [h1.2.1] at c96
          by_cases d1 : ¬ dgP c n (3 + 3 * k)
          · rw [if_neg (by rw [h1.2.1]; exact d1)]
            rw [if_neg d1] at e4
            exact ff_r1 hX h1 (by omega) (by rw [e0, ← e5, e4]; rfl)
          rw [Decidable.not_not] at d1
          rw [if_pos (by rw [h1.2.1]; exact d1)]
          rw [if_pos d1] at e4
          have d4 : ¬ dgP c n (3 + 3 * k + 1) := fun z => c96 ⟨d1, z⟩
          rw [if_neg (by rw [h1.2.1]; exact d4)]
          rw [if_neg d4] at e4
          exact ff_r1 hX (J_t (q := 3 + 3 * k) h1) (by omega) (by rw [e0, ← e5, e4]; rfl)
end
