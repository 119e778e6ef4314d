/-! a year, by both -/
section
variable {P M : Nat} {μ τ : Sm}
theorem MR_congr2 {μ' : Sm} (h : MR P M μ τ) (h0 : ∀ i, i < 4 → μ' 0 i = μ 0 i ∧ μ' 2 i = μ 2 i) (h3 : ∀ k, 3 ≤ k → k ≤ 6 → ∀ i, i < 6 → μ' k i = μ k i) (h7 : ∀ k, 7 ≤ k → k ≤ 11 → μ' k 0 = μ k 0) : MR P M μ' τ := by
  obtain ⟨a1, a2, a3, a4, a5, a6, a7, a8, a9, a10⟩ := h
  have q4 := a1.1
  have q6 := a1.2
  refine ⟨a1, ?_, ?_, ?_, ?_, ?_, fun p hp => ?_, fun m hm => ?_, a9, a10⟩
  · rw [h7 9 (by decide) (by decide)]; exact a2
  · rw [h7 10 (by decide) (by decide)]; exact a3
  · rw [h7 7 (by decide) (by decide)]; exact a4
  · rw [h7 8 (by decide) (by decide)]; exact a5
  · rw [h7 11 (by decide) (by decide)]; exact a6
  · have := a7 p hp
    unfold PR
    rw [(h0 p (by omega)).1, (h0 p (by omega)).2, h7 8 (by decide) (by decide)]
    exact this
  · have := a8 m hm
    unfold MO
    rw [h3 3 (by decide) (by decide) m (by omega), h3 4 (by decide) (by decide) m (by omega), h3 5 (by decide) (by decide) m (by omega), h3 6 (by decide) (by decide) m (by omega)]
    exact this
end
theorem cpyZ {f g : Nat → Int32} {n i : Nat} (h : i < n) : va_cpy f g 0 0 n i = f i := by
  rw [pk_cpy_in (Nat.zero_le _) (by omega)]
  simp
theorem yd_o {σ : St} {o : Nat} (h : ¬ o = 6) : ydS σ o = σ o := by
  unfold ydS fjC blC
  simp only [up_o h, upF_o h]
theorem yd_MR {P M : Nat} {σ : St} {τ : Sm} (h : MR P M (σ 5) τ) : MR P M (ydS σ 6) τ := by
  refine MR_congr2 h (fun i hi => ⟨?_, ?_⟩) (fun k h1 h2 i hi => ?_) (fun k h1 h2 => ?_)
  · show va_cpy (σ 5 0) (σ 6 0) 0 0 4 i = _
    exact cpyZ hi
  · show va_cpy (σ 5 2) (σ 6 2) 0 0 4 i = _
    exact cpyZ hi
  · rcases (show k = 3 ∨ k = 4 ∨ k = 5 ∨ k = 6 by omega) with rfl | rfl | rfl | rfl
    · show va_cpy (σ 5 3) (σ 6 3) 0 0 6 i = _
      exact cpyZ hi
    · show va_cpy (σ 5 4) (σ 6 4) 0 0 6 i = _
      exact cpyZ hi
    · show va_cpy (σ 5 5) (σ 6 5) 0 0 6 i = _
      exact cpyZ hi
    · show va_cpy (σ 5 6) (σ 6 6) 0 0 6 i = _
      exact cpyZ hi
  · rcases (show k = 7 ∨ k = 8 ∨ k = 9 ∨ k = 10 ∨ k = 11 by omega) with rfl | rfl | rfl | rfl | rfl <;> rfl
theorem ka_k {τ : Sm} {k : Nat} (h : k < 23 ∨ 28 < k) : kaM τ k = τ k := by
  unfold kaM ka2 ka3
  rw [umF_k (by omega), umF_k (by omega), umF_k (by omega), umF_k (by omega), umF_k (by omega), um_k (by omega)]
theorem ka_p {τ : Sm} {i : Nat} (h : i < 4) : kaM τ 24 i = τ 9 i ∧ kaM τ 25 i = τ 10 i ∧ kaM τ 26 i = τ 11 i := by
  refine ⟨?_, ?_, ?_⟩
  · show (if i < 4 then τ 9 i else τ 24 i) = _
    exact if_pos h
  · show (if i < 4 then τ 10 i else τ 25 i) = _
    exact if_pos h
  · show (if i < 4 then τ 11 i else τ 26 i) = _
    exact if_pos h
theorem ka_m {τ : Sm} {i : Nat} (h : i < 6) : kaM τ 27 i = τ 13 i ∧ kaM τ 28 i = τ 16 i := by
  refine ⟨?_, ?_⟩
  · show (if i < 6 then τ 13 i else τ 27 i) = _
    exact if_pos h
  · show (if i < 6 then τ 16 i else τ 28 i) = _
    exact if_pos h
theorem pb_k {τ : Sm} {k : Nat} (h : ¬ k = 8 ∧ ¬ k = 9 ∧ ¬ k = 10 ∧ ¬ k = 11 ∧ ¬ k = 13 ∧ ¬ k = 16) : pbM τ k = τ k := by
  obtain ⟨h8, h9, h10, h11, h13, h16⟩ := h
  unfold pbM pb2 pb3
  rw [umF_k h16, umF_k h13, umF_k h11, umF_k h10, umF_k h9, um_k h8]
theorem pb_p {τ : Sm} {i : Nat} (h : i < 4) : pbM τ 9 i = τ 24 i ∧ pbM τ 10 i = τ 25 i ∧ pbM τ 11 i = τ 26 i := by
  refine ⟨?_, ?_, ?_⟩
  · show (if i < 4 then τ 24 i else τ 9 i) = _
    exact if_pos h
  · show (if i < 4 then τ 25 i else τ 10 i) = _
    exact if_pos h
  · show (if i < 4 then τ 26 i else τ 11 i) = _
    exact if_pos h
theorem pb_m {τ : Sm} {i : Nat} (h : i < 6) : pbM τ 13 i = τ 27 i ∧ pbM τ 16 i = τ 28 i := by
  refine ⟨?_, ?_⟩
  · show (if i < 6 then τ 27 i else τ 13 i) = _
    exact if_pos h
  · show (if i < 6 then τ 28 i else τ 16 i) = _
    exact if_pos h
theorem yg_k {τ : Sm} {P k : Nat} {X Y : Nat → Int32} (h : ¬ k = 8 ∧ ¬ k = 9 ∧ ¬ k = 10 ∧ ¬ k = 11 ∧ ¬ k = 13 ∧ ¬ k = 16) : ∀ n, (yg τ P X Y n).2 k = τ k := by
  intro n
  induction n with
  | zero => rfl
  | succ n ih =>
    rw [yg]
    split
    · split
      · exact ih
      · exact (goS_k h).trans ih
    · exact ih
theorem yr_o {σ : St} {X Y : Nat → Int32} {o : Nat} (h : ¬ o = 6) : ∀ n, (yr σ X Y n).2 o = σ o := by
  intro n
  induction n with
  | zero => rfl
  | succ n ih =>
    rw [yr]
    split
    · split
      · exact ih
      · exact (acS_o h).trans ih
    · exact ih
def DR (P M : Nat) (μ τ : Sm) : Prop := MR P M μ τ ∧ ∀ p, p < P → μ 1 p = τ 10 p - τ 25 p
theorem DR_0 {P M : Nat} {σ : St} {τ : Sm} (h : MR P M (σ 5) τ) : DR P M (ydS σ 6) (kaM τ) := by
  have h4 := h.1.1
  refine ⟨MR_congr (yd_MR h) (fun _ _ _ => rfl) (fun k h1 h2 => by rw [ka_k (by omega)]) (fun i _ => by rw [ka_k (by omega), ka_k (by omega)]; exact ⟨rfl, rfl⟩) (fun k h1 h2 i _ => by rw [ka_k (by omega)]), fun p hp => ?_⟩
  rw [ka_k (show 10 < 23 ∨ 28 < 10 by decide), (ka_p (show p < 4 by omega)).2.1, Int32.sub_self]
  show fillN _ 0 4 p = 0
  unfold fillN
  exact if_pos (by omega)
theorem ac_go {P M : Nat} {σ : St} {τ : Sm} {x y : Int32} (h : DR P M (σ 6) τ) (hr : rfI (nI M) x y = 0) : (acI σ x y = 0 ↔ goI τ x y = 0) ∧ (¬ goI τ x y = 0 → DR P M (acS σ x y 6) (goS τ P x y)) := by
  have h4 := h.1.1.1
  have h6 := h.1.1.2
  have hd1 := h.1.2.2.2.2.1.1
  unfold rfI at hr
  by_cases h9 : y = 9
  · rw [if_pos h9, rng] at hr
    by_cases hx : wiI x 0 9
    · obtain ⟨e, he, rfl⟩ := wi_n (B := 9) rfl (by decide) hx
      unfold acI goI acS goS
      simp only [if_pos h9]
      have e1 : (99 < σ 6 8 0 + nI e) ↔ ¬ τ 8 0 + nI e ≤ 99 := by rw [hd1]; exact Int32.not_le.symm
      refine ⟨?_, fun hn => ?_⟩
      · rw [b2i_eq, b2i_eq, Decidable.not_not]
        exact e1
      · rw [b2i_ne] at hn
        rw [if_neg (fun z => e1.mp z hn), if_pos hn, up_um]
        refine ⟨MR_day h.1 he hn, fun p hp => ?_⟩
        show σ 6 1 p = dlM τ (nI e) P 10 p - dlM τ (nI e) P 25 p
        rw [h.2 p hp]
        unfold dlM
        split <;> rfl
    · rw [if_neg hx] at hr; exact absurd hr (by decide)
  · rw [if_neg h9] at hr
    by_cases hy : ¬ y = 8 ∧ (y < 0 ∨ ¬ y < 4)
    · rw [if_pos hy] at hr; exact absurd hr (by decide)
    · rw [if_neg hy] at hr
      by_cases hx : isP (nI M) x
      · obtain ⟨m, hm, rfl⟩ := isP_of rfl (by omega) hx
        have hcm : (nI m).toNatClampNeg = m := nI_clamp (by omega)
        obtain ⟨-, b2, -, -, ⟨q, hq, e⟩, -⟩ := h.1.2.2.2.2.2.2.2.1 m hm
        have hcq : (nI q).toNatClampNeg = q := nI_clamp (by omega)
        by_cases h8 : y = 8
        · unfold acI goI acS goS
          simp only [if_neg h9, if_pos h8]
          rw [hcm, b2, e, hcq]
          refine ⟨?_, fun hn => ?_⟩
          · rw [b2i_eq, b2i_eq, Decidable.not_not]
            exact mr_bit h.1 hm
          · rw [b2i_ne] at hn
            rw [if_neg ((mr_nbit h.1 hm).mpr hn), if_pos hn, un_μ]
            refine ⟨MR_open h.1 hm hq hn _, fun p hp => ?_⟩
            show (if p = q then σ 6 1 q + gaC σ 6 m q else σ 6 1 p) = um (um (um τ 11 q 1) 16 m 1) 10 q (τ 10 q + jgM τ m q) 10 p - τ 25 p
            rw [um_at, h.2 q hq, h.2 p hp, show gaC σ 6 m q = jgM τ m q from ga_eq h.1 hm hq]
            by_cases ep : p = q
            · rw [if_pos ep, if_pos ep, ep]; exact ring1 _ _ _
            · rw [if_neg ep, if_neg ep]; rfl
        · unfold acI goI acS goS
          simp only [if_neg h9, if_neg h8]
          rw [hcm]
          have hc := cs_eq (σ := σ) (o := 6) h.1 hm y
          refine ⟨?_, fun hn => ?_⟩
          · rw [b2i_eq, b2i_eq]
            exact not_congr hc
          · rw [b2i_ne] at hn
            rw [if_pos (hc.mpr hn), if_pos hn, b2, e, hcq]
            obtain ⟨r, hr', rfl⟩ := isP_of h.1.2.1.2 (by omega) hn.2.1
            rw [nI_clamp (show r < 2 ^ 31 by omega), ho_μ]
            exact ⟨MR_sell h.1 hm hr' hq, fun p hp => h.2 p hp⟩
      · rw [if_neg hx] at hr; exact absurd hr (by decide)
theorem yr_yg {P M : Nat} {σ : St} {τ : Sm} {X Y X' Y' : Nat → Int32} {n : Nat} (h : DR P M (σ 6) τ) (hX : ∀ k, k < n → X k = X' k ∧ Y k = Y' k) (hr : ∀ k, k < n → rfI (nI M) (X' k) (Y' k) = 0) : ∀ k, k ≤ n → (yr σ X Y k).1 = (yg τ P X' Y' k).1 ∧ DR P M ((yr σ X Y k).2 6) (yg τ P X' Y' k).2 := by
  intro k
  induction k with
  | zero => intro _; exact ⟨rfl, h⟩
  | succ k ih =>
    intro hk
    obtain ⟨i1, i2⟩ := ih (by omega)
    have st := ac_go i2 (hr k (by omega))
    rw [yr, yg, i1, (hX k (by omega)).1, (hX k (by omega)).2]
    by_cases e : (yg τ P X' Y' k).1 = -9
    · rw [if_pos e, if_pos e]
      by_cases g : goI (yg τ P X' Y' k).2 (X' k) (Y' k) = 0
      · rw [if_pos (st.1.mpr g), if_pos g]; exact ⟨rfl, i2⟩
      · rw [if_neg (fun z => g (st.1.mp z)), if_neg g]; exact ⟨rfl, st.2 g⟩
    · rw [if_neg e, if_neg e]; exact ⟨i1, i2⟩
/-! what is told behind it -/
theorem ye_iff {w : Int32} : yeI w ↔ yeM w := by
  unfold yeI yeM wiI
  simp only [Int32.lt_iff_toInt_lt, Int32.le_iff_toInt_le, show (0 : Int32).toInt = 0 by decide, show (3 : Int32).toInt = 3 by decide, show (10 : Int32).toInt = 10 by decide, show (13 : Int32).toInt = 13 by decide, show (14 : Int32).toInt = 14 by decide, show (20 : Int32).toInt = 20 by decide, show (23 : Int32).toInt = 23 by decide, show (24 : Int32).toInt = 24 by decide, show (30 : Int32).toInt = 30 by decide, show (35 : Int32).toInt = 35 by decide, show (36 : Int32).toInt = 36 by decide]
  omega
theorem wi_ab {w a b : Int32} {A B : Nat} (ha : a = nI A) (hb : b = nI B) (hA : A < 2 ^ 20) (hB : B < 2 ^ 20) (h : wiI w a b) : ∃ e, A ≤ e ∧ e ≤ B ∧ w = nI e := by
  subst ha; subst hb
  obtain ⟨e, he, rfl⟩ := nI_of (x := w) (fun z => h.1 (Int32.lt_of_lt_of_le z (nI_pos' (by omega))))
  have h1 := h.1
  have h2 := h.2
  rw [nI_ltI he (by omega)] at h1
  rw [nI_ltI (by omega) he] at h2
  exact ⟨e, by omega, by omega, rfl⟩
theorem nl {e B : Nat} {b : Int32} (hb : b = nI B) (he : e < 2 ^ 20) (hB : B < 2 ^ 20) : (nI e < b ↔ e < B) ∧ (nI e = b ↔ e = B) := by
  subst hb
  exact ⟨nI_ltI (by omega) (by omega), nI_eq (by omega) (by omega)⟩
theorem ja_jd {P M : Nat} {μ τ : Sm} (h : DR P M μ τ) : ∀ k, k ≤ P → jaC μ k = jdM τ k := by
  intro k
  induction k with
  | zero => intro _; rfl
  | succ k ih =>
    intro hk
    unfold jaC jdM
    rw [ih (by omega), h.2 k (by omega)]
theorem isP_n {P e : Nat} (hP : P < 2 ^ 20) (he : e < 2 ^ 20) : isP (nI P) (nI e) ↔ e < P := by
  unfold isP
  rw [nI_ltI (by omega) (by omega)]
  exact ⟨fun z => z.2, fun z => ⟨nI_pos (by omega), z⟩⟩
theorem by_ty {P M : Nat} {μ τ : Sm} {w : Int32} (h : DR P M μ τ) (hw : yeM w) (h1 : ¬ w = 1) : byC μ P w = tyM τ P M w := by
  have h4 := h.1.1.1
  have h6 := h.1.1.2
  obtain ⟨-, ⟨hP1, hP2⟩, ⟨hM1, hM2⟩, -, ⟨hd1, -⟩, hop, hPR, hMO, -, -⟩ := id h.1
  unfold byC tyM
  rw [hP1, hP2, hM1, hM2]
  rcases hw with hw | hw | hw | hw
  · obtain ⟨e, -, he, rfl⟩ := wi_ab (A := 0) (B := 3) rfl rfl (by decide) (by decide) hw
    have l30 : nI e < 30 := (nl (B := 30) rfl (by omega) (by decide)).1.mpr (by omega)
    have l20 : nI e < 20 := (nl (B := 20) rfl (by omega) (by decide)).1.mpr (by omega)
    have l10 : nI e < 10 := (nl (B := 10) rfl (by omega) (by decide)).1.mpr (by omega)
    have e1 : ¬ e = 1 := fun z => h1 ((nl (B := 1) rfl (by omega) (by decide)).2.mpr z)
    simp only [if_pos l30, if_pos l20, if_pos l10]
    by_cases e0 : nI e = 0
    · simp only [if_pos e0]; exact hd1
    · simp only [if_neg e0]
      by_cases e2 : nI e = 2
      · simp only [if_pos e2]; exact hop
      · simp only [if_neg e2]
        have n0 : ¬ e = 0 := fun z => e0 ((nl (B := 0) rfl (by omega) (by decide)).2.mpr z)
        have n2 : ¬ e = 2 := fun z => e2 ((nl (B := 2) rfl (by omega) (by decide)).2.mpr z)
        rw [if_pos ((nl (b := 3) (B := 3) rfl (by omega) (by decide)).2.mpr (by omega))]
        exact ja_jd h P (Nat.le_refl _)
  · obtain ⟨e, ha, he, rfl⟩ := wi_ab (A := 10) (B := 13) rfl rfl (by decide) (by decide) hw
    have l30 : nI e < 30 := (nl (B := 30) rfl (by omega) (by decide)).1.mpr (by omega)
    have l20 : nI e < 20 := (nl (B := 20) rfl (by omega) (by decide)).1.mpr (by omega)
    have l10 : ¬ nI e < 10 := fun z => by have := (nl (B := 10) rfl (by omega) (by decide)).1.mp z; omega
    have e0 : ¬ nI e = 0 := fun z => by have := (nl (B := 0) rfl (by omega) (by decide)).2.mp z; omega
    have e2 : ¬ nI e = 2 := fun z => by have := (nl (B := 2) rfl (by omega) (by decide)).2.mp z; omega
    have e3 : ¬ nI e = 3 := fun z => by have := (nl (B := 3) rfl (by omega) (by decide)).2.mp z; omega
    simp only [if_pos l30, if_pos l20, if_neg l10, if_neg e0, if_neg e2, if_neg e3]
    rw [show (10 : Int32) = nI 10 by decide, pk_sub ha, nI_clamp (show e - 10 < 2 ^ 31 by omega)]
    by_cases hp : isP (nI P) (nI (e - 10))
    · rw [if_pos hp, if_pos hp]
      exact (hPR _ ((isP_n (by omega) (by omega)).mp hp)).1
    · rw [if_neg hp, if_neg hp]
  · obtain ⟨e, ha, he, rfl⟩ := wi_ab (A := 20) (B := 23) rfl rfl (by decide) (by decide) hw
    have l30 : nI e < 30 := (nl (B := 30) rfl (by omega) (by decide)).1.mpr (by omega)
    have l20 : ¬ nI e < 20 := fun z => by have := (nl (B := 20) rfl (by omega) (by decide)).1.mp z; omega
    have e0 : ¬ nI e = 0 := fun z => by have := (nl (B := 0) rfl (by omega) (by decide)).2.mp z; omega
    have e2 : ¬ nI e = 2 := fun z => by have := (nl (B := 2) rfl (by omega) (by decide)).2.mp z; omega
    have e3 : ¬ nI e = 3 := fun z => by have := (nl (B := 3) rfl (by omega) (by decide)).2.mp z; omega
    simp only [if_pos l30, if_neg l20, if_neg e0, if_neg e2, if_neg e3]
    rw [show (20 : Int32) = nI 20 by decide, pk_sub ha, nI_clamp (show e - 20 < 2 ^ 31 by omega)]
    by_cases hp : isP (nI P) (nI (e - 20))
    · rw [if_pos hp, if_pos hp]
      exact h.2 _ ((isP_n (by omega) (by omega)).mp hp)
    · rw [if_neg hp, if_neg hp]
  · obtain ⟨e, ha, he, rfl⟩ := wi_ab (A := 30) (B := 35) rfl rfl (by decide) (by decide) hw
    have l30 : ¬ nI e < 30 := fun z => by have := (nl (B := 30) rfl (by omega) (by decide)).1.mp z; omega
    have e0 : ¬ nI e = 0 := fun z => by have := (nl (B := 0) rfl (by omega) (by decide)).2.mp z; omega
    have e2 : ¬ nI e = 2 := fun z => by have := (nl (B := 2) rfl (by omega) (by decide)).2.mp z; omega
    have e3 : ¬ nI e = 3 := fun z => by have := (nl (B := 3) rfl (by omega) (by decide)).2.mp z; omega
    simp only [if_neg l30, if_neg e0, if_neg e2, if_neg e3]
    rw [show (30 : Int32) = nI 30 by decide, pk_sub ha, nI_clamp (show e - 30 < 2 ^ 31 by omega)]
    by_cases hp : isP (nI M) (nI (e - 30))
    · rw [if_pos hp, if_pos hp]
      exact (hMO _ ((isP_n (by omega) (by omega)).mp hp)).2.1
    · rw [if_neg hp, if_neg hp]
theorem ffR_c {f g : Nat → Int32} : ∀ n, (∀ k, k < n → f k = g k) → ffR f n = ffR g n := by
  intro n
  induction n with
  | zero => intro _; rfl
  | succ n ih =>
    intro h
    unfold ffR
    rw [ih (fun k hk => h k (by omega)), h n (by omega)]
theorem cell_eq {σ : St} {τ : Sm} {j a k : Nat} (hS : SR σ τ j) (h : a + 2 * k + 1 < 60) : pX σ j a k = τ 4 (i6 j a + 2 * k) ∧ pY σ j a k = τ 4 (i6 j a + 2 * k + 1) :=
  ⟨(hS.2 _ (by omega)).trans (congrArg (τ 4) (by unfold i6; omega)), (hS.2 _ (by omega)).trans (congrArg (τ 4) (by unfold i6; omega))⟩
theorem Rel_back {P M C : Nat} {σ : St} {τ : Sm} (hf : RelE P M C σ τ) {X Y X' Y' : Nat → Int32} {n : Nat} : Rel (yr (ydS σ) X Y n).2 (pbM (yg (kaM τ) P X' Y' n).2) := by
  have hσ : ∀ o, ¬ o = 6 → (yr (ydS σ) X Y n).2 o = σ o := fun o ho => (yr_o ho n).trans (yd_o ho)
  have hk : ∀ k, (k ≤ 7 ∨ k = 12 ∨ k = 14 ∨ k = 15 ∨ 28 < k) → pbM (yg (kaM τ) P X' Y' n).2 k = τ k := fun k hk => by
    rw [pb_k (by omega), yg_k (by omega) n, ka_k (by omega)]
  have h8 : pbM (yg (kaM τ) P X' Y' n).2 8 0 = τ 8 0 := by
    show (yg (kaM τ) P X' Y' n).2 23 0 = _
    rw [yg_k (by decide) n]
    rfl
  have hp : ∀ i, i < 4 → pbM (yg (kaM τ) P X' Y' n).2 9 i = τ 9 i ∧ pbM (yg (kaM τ) P X' Y' n).2 10 i = τ 10 i ∧ pbM (yg (kaM τ) P X' Y' n).2 11 i = τ 11 i := fun i hi => by
    rw [(pb_p hi).1, (pb_p hi).2.1, (pb_p hi).2.2, yg_k (by decide) n, yg_k (by decide) n, yg_k (by decide) n]
    exact ka_p hi
  have hm : ∀ i, i < 6 → pbM (yg (kaM τ) P X' Y' n).2 13 i = τ 13 i ∧ pbM (yg (kaM τ) P X' Y' n).2 16 i = τ 16 i := fun i hi => by
    rw [(pb_m hi).1, (pb_m hi).2, yg_k (by decide) n, yg_k (by decide) n]
    exact ka_m hi
  have h4 := hf.1.1.1
  refine ⟨P, M, C, RelE_of hf ?_ (fun p hp' => ?_) (hσ 9 (by decide)) (fun y hy => hσ (1 + y) (by omega)) (hσ 0 (by decide)) (fun k hk' => hk k (by omega))⟩
  · rw [hσ 5 (by decide)]
    refine MR_congr hf.1 (fun _ _ _ => rfl) (fun k h1 h2 => ?_) (fun i hi => ⟨(hp i hi).1, (hp i hi).2.2⟩) (fun k h1 h2 i hi => ?_)
    · by_cases e : k = 8
      · subst e; exact h8
      · rw [hk k (by omega)]
    · by_cases e : k = 13
      · subst e; exact (hm i hi).1
      · by_cases e' : k = 16
        · subst e'; exact (hm i hi).2
        · rw [hk k (by omega)]
  · rw [hσ 5 (by decide), (hp p (by omega)).2.1]
    exact hf.2.1 p hp'
theorem year_key {P M C : Nat} {σ : St} {τ : Sm} (hf : RelE P M C σ τ) {j : Nat} (hj : j < 4) (l i n w : Int32) : R_year σ P j l i n w = Rm_year τ P M j l i n w ∧ Rel (S_year σ j l i n w) (Sm_year τ P j l i n w) := by
  have hS := hf.2.2.2.1 j hj
  have hMR := hf.1
  obtain ⟨⟨h4, h6⟩, ⟨hP1, hP2⟩, ⟨hM1, hM2⟩, -⟩ := id hMR
  unfold R_year Rm_year S_year Sm_year
  by_cases hc : laI l ∧ wiI n 0 20 ∧ yeM w
  · have hc' : laI l ∧ ¬ n < 0 ∧ ¬ 20 < n ∧ yeI w := ⟨hc.1, hc.2.1.1, hc.2.1.2, ye_iff.mpr hc.2.2⟩
    rw [if_pos hc', if_pos hc', if_pos hc, if_pos hc]
    obtain ⟨e, he, rfl⟩ := wi_n (B := 20) rfl (by decide) hc.2.1
    have h2 : (2 : Int32) * nI e = nI (2 * e) := by rw [show (2 : Int32) = nI 2 by decide, pk_mul]
    have hce : (nI e).toNatClampNeg = e := nI_clamp (by omega)
    rw [h2, hce]
    by_cases e9 : τ 2 j = -9
    · have n0 := (sr_none hS).mpr e9
      have n1 : ¬ (¬ σ (1 + j) 1 0 = -1 ∧ ¬ σ (1 + j) 2 0 = l) := fun z => z.1 n0
      have n2 : ¬ (1 : Int32) = 0 := by decide
      rw [ag_1 e9, if_neg n1, if_neg n1, if_pos n0, if_pos n0, if_neg n2, if_neg n2]
      exact ⟨by decide, P, M, C, RelE_fault hf 1⟩
    · obtain ⟨N, hN, e3, e1, e2⟩ := sr_there hS e9
      have e0 : ¬ σ (1 + j) 1 0 = -1 := fun z => e9 ((sr_none hS).mp z)
      by_cases el : τ 2 j = l
      · have n1 : ¬ (¬ σ (1 + j) 1 0 = -1 ∧ ¬ σ (1 + j) 2 0 = l) := fun z => z.2 (e2.trans el)
        rw [if_neg n1, if_neg n1, if_neg e0, if_neg e0, e1]
        by_cases hcc : hcI (nI N) i (nI (2 * e))
        · rw [if_pos hcc, if_pos hcc, ag_o e9 el (nI_pos' (by omega)) hN e3 hcc, if_pos rfl, if_pos rfl]
          obtain ⟨a, x, rfl, ex, hax⟩ := hc_n hN hcc
          have hx : x = 2 * e := (nI_eq (by omega) (by omega)).mp ex.symm
          have hca : (nI a).toNatClampNeg = a := nI_clamp (by omega)
          rw [hca, hP1, hP2]
          by_cases hP0 : nI P = 0
          · have np : ¬ 0 < nI P := fun q => (pos_n h4).mp q hP0
            rw [if_neg np, if_neg np, if_pos hP0, if_pos hP0]
            exact ⟨rfl, P, M, C, hf⟩
          · have hpp := (pos_n h4).mpr hP0
            rw [if_pos hpp, if_pos hpp, if_neg hP0, if_neg hP0]
            have hr : rfT σ j a e = rfM τ (i6 j a) e := ffR_c e (fun k hk => by
              obtain ⟨c1, c2⟩ := cell_eq (a := a) (k := k) hS (by omega)
              rw [c1, c2, hM1, hM2])
            rw [hr]
            by_cases h0 : rfM τ (i6 j a) e = 0
            · rw [if_pos h0, if_pos h0, if_pos h0, if_pos h0]
              obtain ⟨y1, y2⟩ := yr_yg (n := e) (X := pX (ydS σ) j a) (Y := pY (ydS σ) j a) (X' := fun k => τ 4 (i6 j a + 2 * k)) (Y' := fun k => τ 4 (i6 j a + 2 * k + 1)) (DR_0 hMR) (fun k hk => by
                unfold pX pY
                rw [yd_sh hj]
                exact cell_eq (a := a) (k := k) hS (by omega)) (fun k hk => by rw [← hM2]; exact ffR_all e h0 k hk) e (Nat.le_refl _)
              refine ⟨?_, Rel_back hf⟩
              have y1' : (yrT σ j a e).1 = (ygT τ P (i6 j a) e).1 := y1
              rw [y1']
              by_cases w1 : w = 1
              · rw [if_pos w1, if_pos w1]
              · rw [if_neg w1, if_neg w1]
                by_cases g : (ygT τ P (i6 j a) e).1 = -9
                · rw [if_pos g, if_pos g]; exact by_ty y2 hc.2.2 w1
                · rw [if_neg g, if_neg g]
            · rw [if_neg h0, if_neg h0, if_neg h0, if_neg h0]
              exact ⟨rfl, P, M, C, hf⟩
        · have n2 : ¬ (3 : Int32) = 0 := by decide
          rw [if_neg hcc, if_neg hcc, ag_3 e9 el (nI_pos' (by omega)) hN e3 hcc, if_neg n2, if_neg n2]
          exact ⟨by decide, P, M, C, RelE_fault hf 3⟩
      · have n1 : ¬ σ (1 + j) 1 0 = -1 ∧ ¬ σ (1 + j) 2 0 = l := ⟨e0, fun z => el (e2.symm.trans z)⟩
        have n2 : ¬ (2 : Int32) = 0 := by decide
        rw [ag_2 e9 el, if_pos n1, if_pos n1, if_neg n2, if_neg n2]
        exact ⟨by decide, P, M, C, RelE_fault hf 2⟩
  · have hc' : ¬ (laI l ∧ ¬ n < 0 ∧ ¬ 20 < n ∧ yeI w) := fun z => hc ⟨z.1, ⟨z.2.1, z.2.2.1⟩, ye_iff.mp z.2.2.2⟩
    rw [if_neg hc', if_neg hc', if_neg hc, if_neg hc]
    exact ⟨rfl, P, M, C, hf⟩
theorem pr_year (k l i n w : Int32) : Pair Rel yX5_year cX5_year 9 yX6_year cX6_year 11 [.int k, .int l, .int i, .int n, .int w] := pair_of fun D tc A B σ τ hR => by
  obtain ⟨P, M, C, h⟩ := hR
  have hf := RelE_fault h 0
  by_cases hk : isS k
  · obtain ⟨j, hj, rfl⟩ := is_j hk
    have hMR := h.1
    obtain ⟨⟨h4, h6⟩, ⟨hP1, hP2⟩, ⟨hM1, hM2⟩, -, -, -, -, hMO, hz, hy⟩ := id hMR
    obtain ⟨hl1, N0, hN0, eN0⟩ := sr_len (h.2.2.2.1 j hj)
    obtain ⟨k1, k2⟩ := year_key hf hj l i n w
    exact ⟨6, 4, _, _, _, _, ⟨by decide, by decide⟩, ok_year hP1 h4 hM1 h6 (ow4 hMR).1 hj hl1 l i n w, mk_year hP2 h4 hM2 h6 hj eN0 hN0 (fun m hm => (hMO m hm).2.2.2.2.1) hz hy l i n w, k1, k2⟩
  · exact ⟨1, 2, _, _, _, _, ⟨by decide, by decide⟩, ok_yearN k hk l i n w, mk_yearN k (fun z => hk (is_sh.mpr z)) l i n w, rfl, P, M, C, hf⟩
