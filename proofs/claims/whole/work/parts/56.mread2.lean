/-! a text, read by the reference -/
abbrev mvI (c : Nat → Int32) (P i : Nat) (R : Nat → Int32) : Prop := R (4 * i) = kdI (c (bM P i + 1)) ∧ R (4 * i + 1) = c (bM P i + 1 + 1) - 48 ∧ R (4 * i + 2) = c (bM P i + 1 + 2) - 48 ∧ R (4 * i + 3) = c (bM P i + 1 + 3) - 48
def JM (τ0 : Sm) (s P m q : Nat) (τ : Sm) : Prop :=
  (∀ k, k < 17 ∨ 22 < k → τ k = τ0 k) ∧ τ 17 0 = nI (s + q) ∧ τ 18 0 = cM τ0 s 1 - 48 ∧ τ 19 0 = nI P ∧ τ 20 0 = nI m ∧ (∀ p, p < P → τ 21 p = puI (cM τ0 s) p) ∧ (∀ i, i < m → mvI (cM τ0 s) P i (τ 22))
theorem JM_c {τ0 τ : Sm} {s P m q : Nat} (h : JM τ0 s P m q τ) : cM τ s = cM τ0 s := by
  unfold cM
  rw [h.1 4 (by decide)]
theorem JM_t {τ0 τ : Sm} {s P m q q' : Nat} (h : JM τ0 s P m q' τ) : JM τ0 s P m (q + 1) (tkT τ (s + q)) := by
  obtain ⟨h1, h2, h3⟩ := h
  exact ⟨fun k hk => by rw [tkT, um_k (by omega)]; exact h1 k hk, rfl, h3⟩
theorem JM_p {τ0 τ : Sm} {s k q : Nat} (h : JM τ0 s k 0 (3 + 3 * k) τ) (hq : q = 3 + 3 * k) : JM τ0 s (k + 1) 0 (2 + 3 * (k + 1)) (rpT τ s q k) := by
  have hc := JM_c h
  obtain ⟨h1, h2, h3, h4, h5, h6, h7⟩ := h
  subst hq
  refine ⟨fun x hx => ?_, ?_, h3, rfl, h5, fun p hp => ?_, fun i hi => absurd hi (by omega)⟩
  · unfold rpT tkT
    rw [um_k (by omega), um_k (by omega), um_k (by omega), um_k (by omega)]
    exact h1 x hx
  · show nI (s + (3 + 3 * k + 1) + 1) = _
    congr 1
    omega
  · show (if p = k then 10 * (cM τ s (3 + 3 * k) - 48) + (cM τ s (3 + 3 * k + 1) - 48) else τ 21 p) = _
    by_cases e : p = k
    · subst e
      rw [if_pos rfl, hc, puI, Int32.sub_eq_add_neg, Int32.sub_eq_add_neg, Int32.sub_eq_add_neg, Int32.add_assoc]
    · rw [if_neg e]
      exact h6 p (by omega)
theorem rm5_22 {τ : Sm} {s n q m : Nat} {b : Int32} : rm5 τ s n q m b 22 = upd (upd (upd (upd (τ 22) (4 * m) (if q < n then rdI (cM τ s q) else -9)) (4 * m + 1) (dgA (cM τ s) n (q + 1) 48 b)) (4 * m + 2) (dgA (cM τ s) n (q + 2) 48 57)) (4 * m + 3) (dgA (cM τ s) n (q + 3) 48 57) := by
  rw [rm5, um_k (by decide), rm4, um_e, dgT_k (by decide), rm3, um_e, dgT_k (by decide), rm2, um_e, dgT_k (by decide), tkT, um_k (by decide), rm1, um_e]
theorem JM_m {τ0 τ : Sm} {s n P m q : Nat} {b : Int32} (h : JM τ0 s P m q τ) (hq : q = bM P m + 1) (d1 : kdP (cM τ0 s) n q) (d2 : tkP (cM τ0 s) n (q + 1) 48 b) (d3 : dgP (cM τ0 s) n (q + 2)) (d4 : dgP (cM τ0 s) n (q + 3)) : JM τ0 s P (m + 1) (bM P (m + 1)) (rm5 τ s n q m b) := by
  have hc := JM_c h
  obtain ⟨h1, h2, h3, h4, h5, h6, h7⟩ := h
  refine ⟨fun k hk => ?_, ?_, ?_, ?_, rfl, fun p hp => ?_, fun i hi => ?_⟩
  · rw [rm5, um_k (by omega), rm4_k (by omega) (by omega)]
    exact h1 k hk
  · rw [rm5, um_k (by decide), rm4_17 (by rw [hc]; exact d4)]
    congr 1
    unfold bM at *
    omega
  · rw [rm5, um_k (by decide), rm4_k (by decide) (by decide)]; exact h3
  · rw [rm5, um_k (by decide), rm4_k (by decide) (by decide)]; exact h4
  · rw [rm5, um_k (by decide), rm4_k (by decide) (by decide)]; exact h6 p hp
  · rw [rm5_22, hc]
    by_cases e : i = m
    · subst e
      subst hq
      refine ⟨?_, ?_, ?_, ?_⟩
      · rw [pk_un (by omega), pk_un (by omega), pk_un (by omega), pk_us, if_pos (kd_y d1).1, (kd_y d1).2.1]
      · rw [pk_un (by omega), pk_un (by omega), pk_us, dgA_y d2]
      · rw [pk_un (by omega), pk_us, dgA_y d3]
      · rw [pk_us, dgA_y d4]
    · have := h7 i (by omega)
      refine ⟨?_, ?_, ?_, ?_⟩ <;> rw [pk_un (by omega), pk_un (by omega), pk_un (by omega), pk_un (by omega)]
      · exact this.1
      · exact this.2.1
      · exact this.2.2.1
      · exact this.2.2.2
def ROK (τ0 : Sm) (s n : Nat) (τ : Sm) : Prop := ∃ P m : Nat, prsP (cM τ0 s) n 4 0 = .inr P ∧ prsM (cM τ0 s) n P 6 0 = .inr m ∧ 0 < P ∧ P ≤ 4 ∧ 0 < m ∧ m ≤ 6 ∧ JM τ0 s P m n τ
def Qrm (B : Nat → Nat) (tc : Tc) (τ0 : Sm) (s n : Nat) (r : Option Value) (ws' : va_W) : Prop := ∃ τ' : Sm, ws' = mW B tc τ' ∧ (∀ k, k < 17 ∨ 22 < k → τ' k = τ0 k) ∧ r = some (.int (b2i (prs (cM τ0 s) n = -9))) ∧ (prs (cM τ0 s) n = -9 → ROK τ0 s n τ') ∧ (¬ prs (cM τ0 s) n = -9 → ∃ q, q ≤ 60 ∧ prs (cM τ0 s) n = nI q ∧ τ' 17 0 = nI (s + q))
theorem Qrm_no {B : Nat → Nat} {tc : Tc} {τ0 τ : Sm} {s n q : Nat} (h1 : ∀ k, k < 17 ∨ 22 < k → τ k = τ0 k) (h2 : τ 17 0 = nI (s + q)) (hq : q ≤ 60) (e : prs (cM τ0 s) n = nI q) : Qrm B tc τ0 s n (some (.int 0)) (mW B tc τ) := by
  have hn : ¬ prs (cM τ0 s) n = -9 := by rw [e]; exact nI_ne9 (by omega)
  exact ⟨τ, rfl, h1, by rw [b2i_f hn], fun z => absurd z hn, fun _ => ⟨q, hq, e, h2⟩⟩
theorem rmf {τ0 τ : Sm} (h : ∀ k, k < 17 ∨ 22 < k → τ k = τ0 k) {τ' : Sm} (h' : ∀ k, ¬ k = 17 → ¬ k = 22 → τ' k = τ k) : ∀ k, k < 17 ∨ 22 < k → τ' k = τ0 k := fun k hk => by rw [h' k (by omega) (by omega)]; exact h k hk
theorem p48 (P : Nat) : (48 : Int32) + (nI P - 1) = 48 + nI P - 1 := by rw [Int32.sub_eq_add_neg, Int32.sub_eq_add_neg, Int32.add_assoc]

section
variable {D : va_G} {tc : Tc} {B : Nat → Nat} {τ τ0 : Sm} {s n q p m P : Nat} {X : Cx}
theorem rr_0 (hX : AimR X D (some .boolean) 3 (Qrm B tc τ0 s n)) {pc : Nat} (hd : decode cX6_readMarket pc = .ok (.ireturn, 1)) (h1 : ∀ k, k < 17 ∨ 22 < k → τ k = τ0 k) (h2 : τ 17 0 = nI (s + q)) (hq : q ≤ 60) (e : prs (cM τ0 s) n = nI q) : V X D tc cX6_readMarket RX6 2 pc [some (.ref (B 0)), some (.int (nI (s + n)))] [.int 0] (mW B tc τ) := V_zretR hX hd rfl (Or.inl rfl) (Qrm_no h1 h2 hq e)
set_option maxRecDepth 100000 in
set_option maxHeartbeats 4000000 in
theorem rr_3 (hX : AimR X D (some .boolean) 3 (Qrm B tc τ0 s n)) (hE : s + n ≤ 240) (hn : n ≤ 60) (hP0 : 0 < P) (hm0 : 0 < m) (hm6 : m ≤ 6) (hP4 : P ≤ 4) (e1 : prsP (cM τ0 s) n 4 0 = .inr P) (e2 : prsM (cM τ0 s) n P 6 0 = .inr m) (e3 : prs (cM τ0 s) n = finM n P (.inr m)) (hb : bM P m ≤ n) (h : JM τ0 s P m (bM P m) τ) : V X D tc cX6_readMarket RX6 2 135 [some (.ref (B 0)), some (.int (nI (s + n)))] [] (mW B tc τ) := by
  refine V_ald0 dX6_readMarket_135 ?_
  refine V_get lf_X6_96 dX6_readMarket_136 mW_obj rfl ?_
  refine V_top (y := nI (s + bM P m)) h.2.1 ?_
  refine V_ild1 dX6_readMarket_139 ?_
  refine V_icmp_ne 147 dX6_readMarket_140 (by decide) (fun c140 => ?_) (fun c140 => ?_)
  · have hne : ¬ bM P m = n := fun z => c140 (by rw [z])
    have e4 : prs (cM τ0 s) n = nI (bM P m) := by rw [e3]; exact if_neg (fun z => hne z.2)
    refine V_iconst 0 dX6_readMarket_147 (by decide) ?_
    exact V_zretR hX dX6_readMarket_148 rfl (by first | exact Or.inl rfl | exact Or.inr rfl) (by first | exact Qrm_no h.1 h.2.1 (by omega) e4 | exact ⟨τ, rfl, h.1, by rw [b2i_t e4], fun _ => ⟨P, m, e1, e2, hP0, hP4, hm0, hm6, hne ▸ h⟩, fun z => absurd e4 z⟩)
  · have hne : bM P m = n := by rw [nI_eq (by omega) (by omega)] at c140; omega
    have e4 : prs (cM τ0 s) n = -9 := by rw [e3]; exact if_pos ⟨hm0, hne⟩
    refine V_iconst 1 dX6_readMarket_143 (by decide) ?_
    refine V_goto 148 dX6_readMarket_144 (by decide) ?_
    exact V_zretR hX dX6_readMarket_148 rfl (by first | exact Or.inl rfl | exact Or.inr rfl) (by first | exact Qrm_no h.1 h.2.1 (by omega) e4 | exact ⟨τ, rfl, h.1, by rw [b2i_t e4], fun _ => ⟨P, m, e1, e2, hP0, hP4, hm0, hm6, hne ▸ h⟩, fun z => absurd e4 z⟩)
set_option maxRecDepth 100000 in
set_option maxHeartbeats 4000000 in
theorem rr_2 (hX : AimR X D (some .boolean) 3 (Qrm B tc τ0 s n)) (hE : s + n ≤ 240) (hn : n ≤ 60) (hP0 : 0 < P) (hP4 : P ≤ 4) (e1 : prsP (cM τ0 s) n 4 0 = .inr P) : ∀ (f m : Nat) (τ : Sm), m + f = 6 → bM P m ≤ n → prsM (cM τ0 s) n P 6 0 = prsM (cM τ0 s) n P f m → prs (cM τ0 s) n = finM n P (prsM (cM τ0 s) n P f m) → JM τ0 s P m (bM P m) τ → V X D tc cX6_readMarket RX6 2 91 [some (.ref (B 0)), some (.int (nI (s + n)))] [] (mW B tc τ) := by
  intro f
  induction f with
  | zero =>
    intro m τ hf hb hs e5 h
    have hm : m = 6 := by omega
    subst hm
    refine V_ald0 dX6_readMarket_91 ?_
    refine V_get lf_X6_132 dX6_readMarket_92 mW_obj rfl ?_
    refine V_top (y := nI 6) h.2.2.2.2.1 ?_
    refine V_if_eq 115 dX6_readMarket_95 (by decide) (fun c95 => ?_) (fun c95 => ?_)
    · exact absurd c95 (by decide)
    · refine V_ald0 dX6_readMarket_98 ?_
      refine V_get lf_X6_132 dX6_readMarket_99 mW_obj rfl ?_
      refine V_top (y := nI 6) h.2.2.2.2.1 ?_
      refine V_bipush 6 dX6_readMarket_102 (by decide) ?_
      refine V_icmp_ge 135 dX6_readMarket_104 (by decide) (fun c104 => ?_) (fun c104 => ?_)
      · exact rr_3 hX hE hn hP0 (by decide) (by decide) hP4 e1 hs e5 hb h
      · exact absurd (by decide) c104
  | succ f ih =>
    intro m τ hf hb hs e5 h
    have hc := JM_c h
    refine V_ald0 dX6_readMarket_91 ?_
    refine V_get lf_X6_132 dX6_readMarket_92 mW_obj rfl ?_
    refine V_top (y := nI m) h.2.2.2.2.1 ?_
    refine V_if_eq 115 dX6_readMarket_95 (by decide) (fun c95 => ?_) (fun c95 => ?_)
    · have hm0 : m = 0 := by
        refine Decidable.byContradiction (fun z => ?_)
        exact nI_ne0 (by omega) (by omega) c95
      have hx : ¬ (0 < m ∧ bM P m = n) := fun z => by omega
      refine V_ald0 dX6_readMarket_115 ?_
      refine V_ild1 dX6_readMarket_116 ?_
      refine V_bipush 59 dX6_readMarket_117 (by decide) ?_
      refine V_callV lm_X6_138 (mk_isSign h.2.1 hE hb 59) dX6_readMarket_119 mW_obj rfl (depR hX (by decide)) rfl (Nat.le_of_ble_eq_true rfl) ?_
      refine V_if_eq 133 dX6_readMarket_122 (by decide) (fun c122 => ?_) (fun c122 => ?_)
      · rw [b2i_eq] at c122
        rw [hc] at c122
        rw [dgT, if_neg (by rw [hc]; exact c122)]
        have e6 : prs (cM τ0 s) n = nI (bM P m) := by rw [e5, prsM, if_neg c122]; exact if_neg hx
        refine V_iconst 0 dX6_readMarket_133 (by decide) ?_
        exact rr_0 hX dX6_readMarket_134 h.1 h.2.1 (by omega) e6
      · try rw [b2i_ne] at c122
        try rw [Decidable.not_not] at c122
        rw [hc] at c122
        have d0 := c122
        rw [dgT, if_pos (by rw [hc]; exact c122)]
        have h1 := JM_t (q := bM P m) h
        have hc1 := JM_c h1
        rw [prsM, if_pos d0] at e5
        refine V_ald0 dX6_readMarket_125 ?_
        refine V_ild1 dX6_readMarket_126 ?_
        refine V_callV lm_X6_149 (mk_readMorning (τ := tkT τ (s + bM P m)) (q := bM P m + 1) h1.2.1 hE (by have := d0.1; omega) h1.2.2.2.1 (p48 P) h1.2.2.2.2.1 (by omega)) dX6_readMarket_127 mW_obj rfl (depR hX (by decide)) rfl (Nat.le_of_ble_eq_true rfl) ?_
        refine V_if_ne 91 dX6_readMarket_130 (by decide) (fun c130 => ?_) (fun c130 => ?_)
        · rw [b2i_ne] at c130
          rw [hc1] at c130
          obtain ⟨d1, d2, d3, d4⟩ := c130
          rw [if_pos d1, if_pos d2, if_pos d3, if_pos d4] at e5
          rw [rmS, hc1, if_pos d1, if_pos d2, if_pos d3, if_pos d4]
          exact ih (m + 1) _ (by omega) (by have := d4.1; unfold bM at *; omega) (by rw [hs, prsM, if_pos d0, if_pos d1, if_pos d2, if_pos d3, if_pos d4]) e5 (JM_m h1 rfl d1 d2 d3 d4)
        · rw [b2i_eq] at c130
          rw [hc1] at c130
          have hb1 := d0.1
          have hf := h1.1
          refine V_iconst 0 dX6_readMarket_133 (by decide) ?_
          by_cases d1 : ¬ kdP (cM τ0 s) n (bM P m + 1)
          · rw [if_neg d1] at e5
            rw [rmS, hc1, if_neg d1]
            exact rr_0 hX dX6_readMarket_134 (rmf hf (fun k a b => by rw [rm1, um_k b])) (q := bM P m + 1) h1.2.1 (by omega) e5
          rw [Decidable.not_not] at d1
          have hb2 := (kd_y d1).1
          rw [if_pos d1] at e5
          by_cases d2 : ¬ tkP (cM τ0 s) n (bM P m + 1 + 1) 48 (48 + nI P - 1)
          · rw [if_neg d2] at e5
            rw [rmS, hc1, if_pos d1, if_neg d2]
            exact rr_0 hX dX6_readMarket_134 (rmf hf (fun k a b => rm2_k a b)) (q := bM P m + 1 + 1) (by rw [rm2, um_k (by decide), dgT, if_neg (by rw [rm_c1, hc1]; exact d2)]; rfl) (by omega) e5
          rw [Decidable.not_not] at d2
          have hb3 := d2.1
          rw [if_pos d2] at e5
          by_cases d3 : ¬ dgP (cM τ0 s) n (bM P m + 1 + 2)
          · rw [if_neg d3] at e5
            rw [rmS, hc1, if_pos d1, if_pos d2, if_neg d3]
            exact rr_0 hX dX6_readMarket_134 (rmf hf (fun k a b => rm3_k a b)) (q := bM P m + 1 + 2) (by rw [rm3, um_k (by decide), dgT, if_neg (by rw [rm_c2, hc1]; exact d3), rm2_17 (by rw [hc1]; exact d2)]) (by omega) e5
          rw [Decidable.not_not] at d3
          have hb4 := d3.1
          rw [if_pos d3] at e5
          have d4 : ¬ dgP (cM τ0 s) n (bM P m + 1 + 3) := fun z => c130 ⟨d1, d2, d3, z⟩
          rw [if_neg d4] at e5
          rw [rmS, hc1, if_pos d1, if_pos d2, if_pos d3, if_neg d4]
          exact rr_0 hX dX6_readMarket_134 (rmf hf (fun k a b => rm4_k a b)) (q := bM P m + 1 + 3) (by rw [rm4, um_k (by decide), dgT, if_neg (by rw [rm_c3, hc1]; exact d4), rm3_17 (by rw [hc1]; exact d3)]) (by omega) e5
    · have hm0 : 0 < m := by
        refine Decidable.byContradiction (fun z => c95 ?_)
        have : m = 0 := by omega
        rw [this]
        rfl
      refine V_ald0 dX6_readMarket_98 ?_
      refine V_get lf_X6_132 dX6_readMarket_99 mW_obj rfl ?_
      refine V_top (y := nI m) h.2.2.2.2.1 ?_
      refine V_bipush 6 dX6_readMarket_102 (by decide) ?_
      refine V_icmp_ge 135 dX6_readMarket_104 (by decide) (fun c104 => ?_) (fun c104 => ?_)
      · exact absurd c104 (L6 (by omega))
      · refine V_ald0 dX6_readMarket_107 ?_
        refine V_get lf_X6_96 dX6_readMarket_108 mW_obj rfl ?_
        refine V_top (y := nI (s + bM P m)) h.2.1 ?_
        refine V_ild1 dX6_readMarket_111 ?_
        refine V_icmp_ge 135 dX6_readMarket_112 (by decide) (fun c112 => ?_) (fun c112 => ?_)
        · have hbn : n ≤ bM P m := by rw [nI_leI (by omega) (by omega)] at c112; omega
          have e6 : prsM (cM τ0 s) n P (f + 1) m = .inr m := by rw [prsM, if_neg (fun z => by have := z.1; omega)]
          rw [e6] at hs e5
          exact rr_3 hX hE hn hP0 hm0 (by omega) hP4 e1 hs e5 hb h
        · have hbn : bM P m < n := by rw [nI_leI (by omega) (by omega)] at c112; omega
          have hx : ¬ (0 < m ∧ bM P m = n) := fun z => by omega
          refine V_ald0 dX6_readMarket_115 ?_
          refine V_ild1 dX6_readMarket_116 ?_
          refine V_bipush 59 dX6_readMarket_117 (by decide) ?_
          refine V_callV lm_X6_138 (mk_isSign h.2.1 hE hb 59) dX6_readMarket_119 mW_obj rfl (depR hX (by decide)) rfl (Nat.le_of_ble_eq_true rfl) ?_
          refine V_if_eq 133 dX6_readMarket_122 (by decide) (fun c122 => ?_) (fun c122 => ?_)
          · rw [b2i_eq] at c122
            rw [hc] at c122
            rw [dgT, if_neg (by rw [hc]; exact c122)]
            have e6 : prs (cM τ0 s) n = nI (bM P m) := by rw [e5, prsM, if_neg c122]; exact if_neg hx
            refine V_iconst 0 dX6_readMarket_133 (by decide) ?_
            exact rr_0 hX dX6_readMarket_134 h.1 h.2.1 (by omega) e6
          · try rw [b2i_ne] at c122
            try rw [Decidable.not_not] at c122
            rw [hc] at c122
            have d0 := c122
            rw [dgT, if_pos (by rw [hc]; exact c122)]
            have h1 := JM_t (q := bM P m) h
            have hc1 := JM_c h1
            rw [prsM, if_pos d0] at e5
            refine V_ald0 dX6_readMarket_125 ?_
            refine V_ild1 dX6_readMarket_126 ?_
            refine V_callV lm_X6_149 (mk_readMorning (τ := tkT τ (s + bM P m)) (q := bM P m + 1) h1.2.1 hE (by have := d0.1; omega) h1.2.2.2.1 (p48 P) h1.2.2.2.2.1 (by omega)) dX6_readMarket_127 mW_obj rfl (depR hX (by decide)) rfl (Nat.le_of_ble_eq_true rfl) ?_
            refine V_if_ne 91 dX6_readMarket_130 (by decide) (fun c130 => ?_) (fun c130 => ?_)
            · rw [b2i_ne] at c130
              rw [hc1] at c130
              obtain ⟨d1, d2, d3, d4⟩ := c130
              rw [if_pos d1, if_pos d2, if_pos d3, if_pos d4] at e5
              rw [rmS, hc1, if_pos d1, if_pos d2, if_pos d3, if_pos d4]
              exact ih (m + 1) _ (by omega) (by have := d4.1; unfold bM at *; omega) (by rw [hs, prsM, if_pos d0, if_pos d1, if_pos d2, if_pos d3, if_pos d4]) e5 (JM_m h1 rfl d1 d2 d3 d4)
            · rw [b2i_eq] at c130
              rw [hc1] at c130
              have hb1 := d0.1
              have hf := h1.1
              refine V_iconst 0 dX6_readMarket_133 (by decide) ?_
              by_cases d1 : ¬ kdP (cM τ0 s) n (bM P m + 1)
              · rw [if_neg d1] at e5
                rw [rmS, hc1, if_neg d1]
                exact rr_0 hX dX6_readMarket_134 (rmf hf (fun k a b => by rw [rm1, um_k b])) (q := bM P m + 1) h1.2.1 (by omega) e5
              rw [Decidable.not_not] at d1
              have hb2 := (kd_y d1).1
              rw [if_pos d1] at e5
              by_cases d2 : ¬ tkP (cM τ0 s) n (bM P m + 1 + 1) 48 (48 + nI P - 1)
              · rw [if_neg d2] at e5
                rw [rmS, hc1, if_pos d1, if_neg d2]
                exact rr_0 hX dX6_readMarket_134 (rmf hf (fun k a b => rm2_k a b)) (q := bM P m + 1 + 1) (by rw [rm2, um_k (by decide), dgT, if_neg (by rw [rm_c1, hc1]; exact d2)]; rfl) (by omega) e5
              rw [Decidable.not_not] at d2
              have hb3 := d2.1
              rw [if_pos d2] at e5
              by_cases d3 : ¬ dgP (cM τ0 s) n (bM P m + 1 + 2)
              · rw [if_neg d3] at e5
                rw [rmS, hc1, if_pos d1, if_pos d2, if_neg d3]
                exact rr_0 hX dX6_readMarket_134 (rmf hf (fun k a b => rm3_k a b)) (q := bM P m + 1 + 2) (by rw [rm3, um_k (by decide), dgT, if_neg (by rw [rm_c2, hc1]; exact d3), rm2_17 (by rw [hc1]; exact d2)]) (by omega) e5
              rw [Decidable.not_not] at d3
              have hb4 := d3.1
              rw [if_pos d3] at e5
              have d4 : ¬ dgP (cM τ0 s) n (bM P m + 1 + 3) := fun z => c130 ⟨d1, d2, d3, z⟩
              rw [if_neg d4] at e5
              rw [rmS, hc1, if_pos d1, if_pos d2, if_pos d3, if_neg d4]
              exact rr_0 hX dX6_readMarket_134 (rmf hf (fun k a b => rm4_k a b)) (q := bM P m + 1 + 3) (by rw [rm4, um_k (by decide), dgT, if_neg (by rw [rm_c3, hc1]; exact d4), rm3_17 (by rw [hc1]; exact d3)]) (by omega) e5
set_option maxRecDepth 100000 in
set_option maxHeartbeats 4000000 in
theorem rr_1 (hX : AimR X D (some .boolean) 3 (Qrm B tc τ0 s n)) (hE : s + n ≤ 240) (hn : n ≤ 60) : ∀ (f k : Nat) (τ : Sm), k + f = 4 → 0 < k → 2 + 3 * k ≤ n → prsP (cM τ0 s) n 4 0 = prsP (cM τ0 s) n f k → prs (cM τ0 s) n = finP (cM τ0 s) n (prsP (cM τ0 s) n f k) → JM τ0 s k 0 (2 + 3 * k) τ → V X D tc cX6_readMarket RX6 2 63 [some (.ref (B 0)), some (.int (nI (s + n)))] [] (mW B tc τ) := by
  intro f
  induction f with
  | zero =>
    intro k τ hf hk hb e1 e5 h
    have hm : k = 4 := by omega
    subst hm
    refine V_ald0 dX6_readMarket_63 ?_
    refine V_get lf_X6_126 dX6_readMarket_64 mW_obj rfl ?_
    refine V_top (y := nI 4) h.2.2.2.1 ?_
    refine V_iconst 4 dX6_readMarket_67 (by decide) ?_
    refine V_icmp_ge 91 dX6_readMarket_68 (by decide) (fun c68 => ?_) (fun c68 => ?_)
    · exact rr_2 hX hE hn (by decide) (by decide) e1 6 0 τ rfl (by unfold bM; omega) rfl e5 h
    · exact absurd (by decide) c68
  | succ f ih =>
    intro k τ hf hk hb e1 e5 h
    have hc := JM_c h
    refine V_ald0 dX6_readMarket_63 ?_
    refine V_get lf_X6_126 dX6_readMarket_64 mW_obj rfl ?_
    refine V_top (y := nI k) h.2.2.2.1 ?_
    refine V_iconst 4 dX6_readMarket_67 (by decide) ?_
    refine V_icmp_ge 91 dX6_readMarket_68 (by decide) (fun c68 => ?_) (fun c68 => ?_)
    · exact absurd c68 (L4 (by omega))
    · refine V_ald0 dX6_readMarket_71 ?_
      refine V_ild1 dX6_readMarket_72 ?_
      refine V_bipush 44 dX6_readMarket_73 (by decide) ?_
      refine V_callV lm_X6_138 (mk_isSign h.2.1 hE hb 44) dX6_readMarket_75 mW_obj rfl (depR hX (by decide)) rfl (Nat.le_of_ble_eq_true rfl) ?_
      refine V_if_eq 91 dX6_readMarket_78 (by decide) (fun c78 => ?_) (fun c78 => ?_)
      · rw [b2i_eq] at c78
        rw [hc] at c78
        rw [dgT, if_neg (by rw [hc]; exact c78)]
        have e6 : prsP (cM τ0 s) n (f + 1) k = .inr k := by rw [prsP, if_neg c78]
        rw [e6] at e1 e5
        exact rr_2 hX hE hn hk (by omega) e1 6 0 τ rfl (by unfold bM; omega) rfl (by rw [e5]; exact if_neg (by omega)) h
      · try rw [b2i_ne] at c78
        try rw [Decidable.not_not] at c78
        rw [hc] at c78
        have d0 := c78
        rw [dgT, if_pos (by rw [hc]; exact c78)]
        have h1 := JM_t (q := 2 + 3 * k) h
        have hc1 := JM_c h1
        have h1 : JM τ0 s k 0 (3 + 3 * k) (tkT τ (s + (2 + 3 * k))) := by rw [show 3 + 3 * k = 2 + 3 * k + 1 by omega]; exact h1
        rw [prsP, if_pos d0] at e5
        refine V_ald0 dX6_readMarket_81 ?_
        refine V_ild1 dX6_readMarket_82 ?_
        refine V_callV lm_X6_146 (mk_readPerson (q := 3 + 3 * k) h1.2.1 hE (by have := d0.1; omega) h1.2.2.2.1 (by omega)) dX6_readMarket_83 mW_obj rfl (depR hX (by decide)) rfl (Nat.le_of_ble_eq_true rfl) ?_
        refine V_if_ne 63 dX6_readMarket_86 (by decide) (fun c86 => ?_) (fun c86 => ?_)
        · rw [b2i_ne] at c86
          rw [hc1] at c86
          obtain ⟨d1, d2⟩ := c86
          rw [if_pos d1, if_pos d2] at e5
          rw [rpS, hc1, if_pos d1, if_pos d2]
          exact ih (k + 1) _ (by omega) (by omega) (by have := d2.1; omega) (by rw [e1, prsP, if_pos d0, if_pos d1, if_pos d2]) e5 (JM_p h1 rfl)
        · rw [b2i_eq] at c86
          rw [hc1] at c86
          have hb1 := d0.1
          refine V_iconst 0 dX6_readMarket_89 (by decide) ?_
          by_cases d1 : ¬ dgP (cM τ0 s) n (3 + 3 * k)
          · rw [if_neg d1] at e5
            rw [rpS, hc1, if_neg d1]
            exact rr_0 hX dX6_readMarket_90 h1.1 (q := 3 + 3 * k) h1.2.1 (by omega) e5
          rw [Decidable.not_not] at d1
          have hb2 := d1.1
          have d2 : ¬ dgP (cM τ0 s) n (3 + 3 * k + 1) := fun z => c86 ⟨d1, z⟩
          rw [if_pos d1, if_neg d2] at e5
          rw [rpS, hc1, if_pos d1, if_neg d2]
          exact rr_0 hX dX6_readMarket_90 (JM_t (q := 3 + 3 * k) h1).1 (q := 3 + 3 * k + 1) rfl (by omega) e5
def rmZ (τ : Sm) : Sm := um (um τ 19 0 0) 20 0 0
theorem rmZ_f {τ : Sm} : ∀ k, k < 17 ∨ 22 < k → rmZ τ k = τ k := fun k hk => by rw [rmZ, um_k (by omega), um_k (by omega)]
theorem cM_0 {τ : Sm} {s : Nat} : cM (rmZ τ) s = cM τ s := rfl
set_option maxRecDepth 100000 in
set_option maxHeartbeats 4000000 in
theorem mk_readMarket (hA : τ 17 0 = nI s) (hE : s + n ≤ 240) (hn : n ≤ 60) : OkR 3 yX6_readMarket cX6_readMarket 2 (some .boolean) D tc [.ref (B 0), .int (nI (s + n))] (mW B tc τ) (Qrm B tc τ s n) := by
  refine Ok_ofR RX6 rfl (by decide) [some (.ref (B 0)), some (.int (nI (s + n)))] rfl (Nat.le_of_ble_eq_true rfl) ?_
  intro X hX
  refine V_ald0 dX6_readMarket_0 ?_
  refine V_iconst 0 dX6_readMarket_1 (by decide) ?_
  refine V_puti lp_X6_126 dX6_readMarket_2 mW_obj (Nat.le_of_ble_eq_true rfl) (mW_p19 _) ?_
  refine V_ald0 dX6_readMarket_5 ?_
  refine V_iconst 0 dX6_readMarket_6 (by decide) ?_
  refine V_puti lp_X6_132 dX6_readMarket_7 mW_obj (Nat.le_of_ble_eq_true rfl) (mW_p20 _) ?_
  change V _ _ _ _ _ _ _ _ _ (mW B tc (rmZ τ))
  refine V_ald0 dX6_readMarket_10 ?_
  refine V_ild1 dX6_readMarket_11 ?_
  refine V_bipush 109 dX6_readMarket_12 (by decide) ?_
  refine V_callV lm_X6_138 (mk_isSign (τ := rmZ τ) (q := 0) hA hE (Nat.zero_le _) 109) dX6_readMarket_14 mW_obj rfl (depR hX (by decide)) rfl (Nat.le_of_ble_eq_true rfl) ?_
  refine V_if_ne 22 dX6_readMarket_17 (by decide) (fun c17 => ?_) (fun c17 => ?_)
  · try rw [b2i_ne] at c17
    try rw [Decidable.not_not] at c17
    have d0 : tkP (cM τ s) n 0 109 109 := c17
    rw [dgT, if_pos c17]
    refine V_ald0 dX6_readMarket_22 ?_
    refine V_ald0 dX6_readMarket_23 ?_
    refine V_ild1 dX6_readMarket_24 ?_
    refine V_iconst 1 dX6_readMarket_25 (by decide) ?_
    refine V_bipush 9 dX6_readMarket_26 (by decide) ?_
    refine V_callV lm_X6_142 (mk_digit (τ := tkT (rmZ τ) (s + 0)) (s := s) (q := 1) (a := 49) (b := 57) rfl hE (by have := d0.1; omega) 1 9 (by decide) (by decide)) dX6_readMarket_28 mW_obj rfl (depR hX (by decide)) rfl (Nat.le_of_ble_eq_true rfl) ?_
    refine V_puti lp_X6_120 dX6_readMarket_31 mW_obj (Nat.le_of_ble_eq_true rfl) (mW_p18 _) ?_
    refine V_ald0 dX6_readMarket_34 ?_
    refine V_get lf_X6_120 dX6_readMarket_35 mW_obj rfl ?_
    refine V_bipush (-9) dX6_readMarket_38 (by decide) ?_
    refine V_icmp_eq 61 dX6_readMarket_40 (by decide) (fun c40 => ?_) (fun c40 => ?_)
    · have d1 : ¬ tkP (cM τ s) n 1 49 57 := dgA_91.mp c40
      have d1x : ¬ tkP (cM (tkT (rmZ τ) (s + 0)) s) n 1 49 57 := d1
      rw [dgT, if_neg d1x]
      refine V_iconst 0 dX6_readMarket_61 (by decide) ?_
      exact rr_0 hX dX6_readMarket_62 (q := 1) (fun k hk => by rw [um_k (by omega), tkT, um_k (by omega)]; exact rmZ_f k hk) rfl (by decide) ((if_pos d0).trans (if_neg d1))
    · have d1 : tkP (cM τ s) n 1 49 57 := Decidable.byContradiction (fun z => c40 (dgA_91.mpr z))
      have d1x : tkP (cM (tkT (rmZ τ) (s + 0)) s) n 1 49 57 := d1
      rw [dgT, if_pos d1x, dgA_y d1x]
      have e5 : prs (cM τ s) n = finP (cM τ s) n (prsP (cM τ s) n 4 0) := (if_pos d0).trans (if_pos d1)
      have hJ : JM τ s 0 0 (2 + 3 * 0) (um (tkT (tkT (rmZ τ) (s + 0)) (s + 1)) 18 0 (cM τ s 1 - 48)) := ⟨fun k hk => by rw [um_k (by omega), tkT, um_k (by omega), tkT, um_k (by omega)]; exact rmZ_f k hk, rfl, rfl, rfl, rfl, fun p hp => absurd hp (by omega), fun p hp => absurd hp (by omega)⟩
      change V _ _ _ _ _ _ _ _ _ (mW B tc (um (tkT (tkT (rmZ τ) (s + 0)) (s + 1)) 18 0 (cM τ s 1 - 48)))
      refine V_ald0 dX6_readMarket_43 ?_
      refine V_ild1 dX6_readMarket_44 ?_
      refine V_bipush 44 dX6_readMarket_45 (by decide) ?_
      refine V_callV lm_X6_138 (mk_isSign (τ := um (tkT (tkT (rmZ τ) (s + 0)) (s + 1)) 18 0 (cM τ s 1 - 48)) (s := s) (q := 2) rfl hE (by have := d1.1; omega) 44) dX6_readMarket_47 mW_obj rfl (depR hX (by decide)) rfl (Nat.le_of_ble_eq_true rfl) ?_
      refine V_if_eq 61 dX6_readMarket_50 (by decide) (fun c50 => ?_) (fun c50 => ?_)
      · rw [b2i_eq] at c50
        have d2 : ¬ tkP (cM τ s) n (2 + 3 * 0) 44 44 := c50
        rw [dgT, if_neg c50]
        refine V_iconst 0 dX6_readMarket_61 (by decide) ?_
        rw [prsP, if_neg d2] at e5
        exact rr_0 hX dX6_readMarket_62 (q := 2) hJ.1 hJ.2.1 (by decide) (e5.trans (by rw [finP]; exact if_pos rfl))
      · try rw [b2i_ne] at c50
        try rw [Decidable.not_not] at c50
        have d2 : tkP (cM τ s) n (2 + 3 * 0) 44 44 := c50
        rw [dgT, if_pos c50]
        have h1 : JM τ s 0 0 (3 + 3 * 0) _ := JM_t (q := 2) hJ
        have hc1 := JM_c h1
        refine V_ald0 dX6_readMarket_53 ?_
        refine V_ild1 dX6_readMarket_54 ?_
        refine V_callV lm_X6_146 (mk_readPerson (q := 3) h1.2.1 hE (by have := d2.1; omega) h1.2.2.2.1 (by decide)) dX6_readMarket_55 mW_obj rfl (depR hX (by decide)) rfl (Nat.le_of_ble_eq_true rfl) ?_
        refine V_if_ne 63 dX6_readMarket_58 (by decide) (fun c58 => ?_) (fun c58 => ?_)
        · rw [b2i_ne] at c58
          rw [hc1] at c58
          obtain ⟨d3, d4⟩ := c58
          rw [rpS, hc1, if_pos d3, if_pos d4]
          have e7 : prsP (cM τ s) n 4 0 = prsP (cM τ s) n 3 1 := (if_pos d2).trans ((if_pos d3).trans (if_pos d4))
          exact rr_1 hX hE hn 3 1 _ rfl (by decide) (by have := d4.1; omega) e7 (by rw [e5, e7]) (JM_p h1 rfl)
        · rw [b2i_eq] at c58
          rw [hc1] at c58
          have hb1 := d2.1
          rw [prsP, if_pos d2] at e5
          refine V_iconst 0 dX6_readMarket_61 (by decide) ?_
          by_cases d3 : ¬ dgP (cM τ s) n (3 + 3 * 0)
          · rw [if_neg d3] at e5
            rw [rpS, hc1, if_neg d3]
            exact rr_0 hX dX6_readMarket_62 h1.1 (q := 3 + 3 * 0) h1.2.1 (by decide) e5
          rw [Decidable.not_not] at d3
          have d4 : ¬ dgP (cM τ s) n (3 + 3 * 0 + 1) := fun z => c58 ⟨d3, z⟩
          rw [if_pos d3, if_neg d4] at e5
          rw [rpS, hc1, if_pos d3, if_neg d4]
          exact rr_0 hX dX6_readMarket_62 (JM_t (q := 3 + 3 * 0) h1).1 (q := 3 + 3 * 0 + 1) rfl (by decide) e5
  · rw [b2i_eq] at c17
    rw [dgT, if_neg c17]
    refine V_iconst 0 dX6_readMarket_20 (by decide) ?_
    exact rr_0 hX dX6_readMarket_21 (q := 0) rmZ_f hA (by decide) (if_neg c17)
end
