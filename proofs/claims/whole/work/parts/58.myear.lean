/-! a year, by the reference -/
theorem lt4 (y : Int32) : (¬ (3 : Int32) < y) ↔ y < 4 := by
  rw [Int32.lt_iff_toInt_lt, Int32.lt_iff_toInt_lt, show (3 : Int32).toInt = 3 by decide, show (4 : Int32).toInt = 4 by decide]
  omega
theorem rf_eq (mo x y : Int32) : rfI mo x y = (if (¬ wiI y 0 3 ∧ ¬ y = 8 ∧ ¬ y = 9) ∨ (y = 9 ∧ ¬ wiI x 0 9) then -2 else if ¬ y = 9 ∧ ¬ isP mo x then -1 else 0) := by
  unfold rfI
  by_cases h9 : y = 9
  · subst h9
    rw [if_pos rfl]
    by_cases hx : wiI x 0 9
    · rw [if_neg (fun z => z.elim hx.1 (fun z => z (Int32.not_lt.mp hx.2))), if_neg (fun z => z.elim (fun z => z.2.2 rfl) (fun z => z.2 hx)), if_neg (fun z => z.1 rfl)]
    · rw [if_pos (by
        by_cases h0 : x < 0
        · exact Or.inl h0
        · exact Or.inr (fun z => hx ⟨h0, Int32.not_lt.mpr z⟩)), if_pos (Or.inr ⟨rfl, hx⟩)]
  · rw [if_neg h9]
    have hw : wiI y 0 3 ↔ ¬ (y < 0 ∨ ¬ y < 4) := by
      unfold wiI
      rw [lt4, not_or, Decidable.not_not]
    by_cases hr : ¬ y = 8 ∧ (y < 0 ∨ ¬ y < 4)
    · rw [if_pos hr, if_pos (Or.inl ⟨fun z => hw.mp z hr.2, hr.1, h9⟩)]
    · have hn : ¬ ((¬ wiI y 0 3 ∧ ¬ y = 8 ∧ ¬ y = 9) ∨ (y = 9 ∧ ¬ wiI x 0 9)) := by
        rintro (z | z)
        · exact hr ⟨z.2.1, Decidable.byContradiction (fun q => z.1 (hw.mpr q))⟩
        · exact h9 z.1
      rw [if_neg hr, if_neg hn]
      by_cases hp : isP mo x
      · rw [if_pos hp, if_neg (fun z => z.2 hp)]
      · rw [if_neg hp, if_pos ⟨h9, hp⟩]
def ka3 (τ : Sm) (k : Nat) : Sm := umF (umF (umF τ 24 (cpN (τ 9) (τ 24) k)) 25 (cpN (τ 10) (τ 25) k)) 26 (cpN (τ 11) (τ 26) k)
def ka2 (τ : Sm) (k : Nat) : Sm := umF (umF τ 27 (cpN (τ 13) (τ 27) k)) 28 (cpN (τ 16) (τ 28) k)
def pb3 (τ : Sm) (k : Nat) : Sm := umF (umF (umF τ 9 (cpN (τ 24) (τ 9) k)) 10 (cpN (τ 25) (τ 10) k)) 11 (cpN (τ 26) (τ 11) k)
def pb2 (τ : Sm) (k : Nat) : Sm := umF (umF τ 13 (cpN (τ 27) (τ 13) k)) 16 (cpN (τ 28) (τ 16) k)
theorem ka3_0 (τ : Sm) : ka3 τ 0 = τ := by
  unfold ka3
  rw [cpN_0, cpN_0, cpN_0]
  funext k'
  by_cases h26 : k' = 26
  · rw [h26, umF_e]
  by_cases h25 : k' = 25
  · rw [h25, umF_k (by decide), umF_e]
  by_cases h24 : k' = 24
  · rw [h24, umF_k (by decide), umF_k (by decide), umF_e]
  rw [umF_k h26, umF_k h25, umF_k h24]
theorem ka3_s (τ : Sm) (k : Nat) : um (um (um (ka3 τ k) 24 k (τ 9 k)) 25 k (τ 10 k)) 26 k (τ 11 k) = ka3 τ (k + 1) := by
  funext k'
  by_cases h26 : k' = 26
  · subst h26
    rw [um_e, um_k (by decide), um_k (by decide)]
    show upd (cpN (τ 11) (τ 26) k) k (τ 11 k) = cpN (τ 11) (τ 26) (k + 1)
    exact cpN_s _ _ _
  by_cases h25 : k' = 25
  · subst h25
    rw [um_k (by decide)]
    rw [um_e, um_k (by decide)]
    show upd (cpN (τ 10) (τ 25) k) k (τ 10 k) = cpN (τ 10) (τ 25) (k + 1)
    exact cpN_s _ _ _
  by_cases h24 : k' = 24
  · subst h24
    rw [um_k (by decide), um_k (by decide)]
    rw [um_e]
    show upd (cpN (τ 9) (τ 24) k) k (τ 9 k) = cpN (τ 9) (τ 24) (k + 1)
    exact cpN_s _ _ _
  rw [um_k h26, um_k h25, um_k h24]
  unfold ka3
  rw [umF_k h26, umF_k h25, umF_k h24, umF_k h26, umF_k h25, umF_k h24]
theorem ka2_0 (τ : Sm) : ka2 τ 0 = τ := by
  unfold ka2
  rw [cpN_0, cpN_0]
  funext k'
  by_cases h28 : k' = 28
  · rw [h28, umF_e]
  by_cases h27 : k' = 27
  · rw [h27, umF_k (by decide), umF_e]
  rw [umF_k h28, umF_k h27]
theorem ka2_s (τ : Sm) (k : Nat) : um (um (ka2 τ k) 27 k (τ 13 k)) 28 k (τ 16 k) = ka2 τ (k + 1) := by
  funext k'
  by_cases h28 : k' = 28
  · subst h28
    rw [um_e, um_k (by decide)]
    show upd (cpN (τ 16) (τ 28) k) k (τ 16 k) = cpN (τ 16) (τ 28) (k + 1)
    exact cpN_s _ _ _
  by_cases h27 : k' = 27
  · subst h27
    rw [um_k (by decide)]
    rw [um_e]
    show upd (cpN (τ 13) (τ 27) k) k (τ 13 k) = cpN (τ 13) (τ 27) (k + 1)
    exact cpN_s _ _ _
  rw [um_k h28, um_k h27]
  unfold ka2
  rw [umF_k h28, umF_k h27, umF_k h28, umF_k h27]
theorem pb3_0 (τ : Sm) : pb3 τ 0 = τ := by
  unfold pb3
  rw [cpN_0, cpN_0, cpN_0]
  funext k'
  by_cases h11 : k' = 11
  · rw [h11, umF_e]
  by_cases h10 : k' = 10
  · rw [h10, umF_k (by decide), umF_e]
  by_cases h9 : k' = 9
  · rw [h9, umF_k (by decide), umF_k (by decide), umF_e]
  rw [umF_k h11, umF_k h10, umF_k h9]
theorem pb3_s (τ : Sm) (k : Nat) : um (um (um (pb3 τ k) 9 k (τ 24 k)) 10 k (τ 25 k)) 11 k (τ 26 k) = pb3 τ (k + 1) := by
  funext k'
  by_cases h11 : k' = 11
  · subst h11
    rw [um_e, um_k (by decide), um_k (by decide)]
    show upd (cpN (τ 26) (τ 11) k) k (τ 26 k) = cpN (τ 26) (τ 11) (k + 1)
    exact cpN_s _ _ _
  by_cases h10 : k' = 10
  · subst h10
    rw [um_k (by decide)]
    rw [um_e, um_k (by decide)]
    show upd (cpN (τ 25) (τ 10) k) k (τ 25 k) = cpN (τ 25) (τ 10) (k + 1)
    exact cpN_s _ _ _
  by_cases h9 : k' = 9
  · subst h9
    rw [um_k (by decide), um_k (by decide)]
    rw [um_e]
    show upd (cpN (τ 24) (τ 9) k) k (τ 24 k) = cpN (τ 24) (τ 9) (k + 1)
    exact cpN_s _ _ _
  rw [um_k h11, um_k h10, um_k h9]
  unfold pb3
  rw [umF_k h11, umF_k h10, umF_k h9, umF_k h11, umF_k h10, umF_k h9]
theorem pb2_0 (τ : Sm) : pb2 τ 0 = τ := by
  unfold pb2
  rw [cpN_0, cpN_0]
  funext k'
  by_cases h16 : k' = 16
  · rw [h16, umF_e]
  by_cases h13 : k' = 13
  · rw [h13, umF_k (by decide), umF_e]
  rw [umF_k h16, umF_k h13]
theorem pb2_s (τ : Sm) (k : Nat) : um (um (pb2 τ k) 13 k (τ 27 k)) 16 k (τ 28 k) = pb2 τ (k + 1) := by
  funext k'
  by_cases h16 : k' = 16
  · subst h16
    rw [um_e, um_k (by decide)]
    show upd (cpN (τ 28) (τ 16) k) k (τ 28 k) = cpN (τ 28) (τ 16) (k + 1)
    exact cpN_s _ _ _
  by_cases h13 : k' = 13
  · subst h13
    rw [um_k (by decide)]
    rw [um_e]
    show upd (cpN (τ 27) (τ 13) k) k (τ 27 k) = cpN (τ 27) (τ 13) (k + 1)
    exact cpN_s _ _ _
  rw [um_k h16, um_k h13]
  unfold pb2
  rw [umF_k h16, umF_k h13, umF_k h16, umF_k h13]
def kaM (τ : Sm) : Sm := ka2 (ka3 (um τ 23 0 (τ 8 0)) 4) 6
def pbM (τ : Sm) : Sm := pb2 (pb3 (um τ 8 0 (τ 23 0)) 4) 6
abbrev z01 (f : Nat → Int32) (n : Nat) : Prop := ∀ i, i < n → f i = 0 ∨ f i = 1
def goI (τ : Sm) (x y : Int32) : Int32 := if y = 9 then b2i (τ 8 0 + x ≤ 99) else if y = 8 then b2i (τ 16 x.toNatClampNeg = 0) else b2i (msM τ x.toNatClampNeg y)
def goS (τ : Sm) (P : Nat) (x y : Int32) : Sm := if y = 9 then (if τ 8 0 + x ≤ 99 then dlM τ x P else τ) else if y = 8 then (if τ 16 x.toNatClampNeg = 0 then doM τ x.toNatClampNeg (τ 13 x.toNatClampNeg).toNatClampNeg else τ) else (if msM τ x.toNatClampNeg y then dsM τ x.toNatClampNeg y.toNatClampNeg (τ 13 x.toNatClampNeg).toNatClampNeg else τ)
def yg (τ : Sm) (P : Nat) (X Y : Nat → Int32) : Nat → Int32 × Sm
  | 0 => (-9, τ)
  | n + 1 => if (yg τ P X Y n).1 = -9 then (if goI (yg τ P X Y n).2 (X n) (Y n) = 0 then (nI n, (yg τ P X Y n).2) else (-9, goS (yg τ P X Y n).2 P (X n) (Y n))) else yg τ P X Y n
theorem yg_stop {τ : Sm} {P : Nat} {X Y : Nat → Int32} {k : Nat} (h : ¬ (yg τ P X Y k).1 = -9) : ∀ n, k ≤ n → yg τ P X Y n = yg τ P X Y k := by
  intro n
  induction n with
  | zero => intro hk; rw [show k = 0 by omega]
  | succ n ih =>
    intro hk
    by_cases e : k = n + 1
    · rw [e]
    · have := ih (by omega)
      rw [yg, this, if_neg h]
def opM (τ : Sm) : Nat → Int32
  | 0 => 0
  | k + 1 => opM τ k ||| (if τ 16 k = 0 then 0 else oneI k)
def jdM (τ : Sm) : Nat → Int32
  | 0 => 0
  | k + 1 => jdM τ k + (τ 10 k - τ 25 k)
def tyM (τ : Sm) (P M : Nat) (w : Int32) : Int32 := if w < 30 then (if w < 20 then (if w < 10 then (if w = 0 then τ 8 0 else if w = 2 then opM τ M else jdM τ P) else (if isP (τ 5 0) (w - 10) then τ 9 (w - 10).toNatClampNeg else -9)) else (if isP (τ 5 0) (w - 20) then τ 10 (w - 20).toNatClampNeg - τ 25 (w - 20).toNatClampNeg else -9)) else (if isP (τ 6 0) (w - 30) then τ 13 (w - 30).toNatClampNeg else -9)
theorem goS_k {τ : Sm} {P k : Nat} {x y : Int32} (h : ¬ k = 8 ∧ ¬ k = 9 ∧ ¬ k = 10 ∧ ¬ k = 11 ∧ ¬ k = 13 ∧ ¬ k = 16) : goS τ P x y k = τ k := by
  obtain ⟨h8, h9, h10, h11, h13, h16⟩ := h
  unfold goS dlM doM dsM
  split
  · split
    · split
      · rw [um_k h8]
      · rw [umF_k h11, um_k h8]
    · rfl
  · split
    · split
      · rw [um_k h10, um_k h16, um_k h11]
      · rfl
    · split
      · rw [um_k h13, um_k h9, um_k h9]
      · rfl
def GI (P M : Nat) (τ : Sm) : Prop := τ 5 0 = nI P ∧ τ 6 0 = nI M ∧ (∀ m, m < M → ∃ q, q < P ∧ τ 13 m = nI q) ∧ z01 (τ 26) 4 ∧ z01 (τ 28) 6
theorem GI_go {P M : Nat} {τ : Sm} {x y : Int32} (h4 : P ≤ 4) (h : GI P M τ) : GI P M (goS τ P x y) := by
  obtain ⟨h1, h2, h3, h5, h6⟩ := h
  refine ⟨by rw [goS_k (by decide)]; exact h1, by rw [goS_k (by decide)]; exact h2, fun m hm => ?_, by rw [goS_k (by decide)]; exact h5, by rw [goS_k (by decide)]; exact h6⟩
  obtain ⟨q, hq, e⟩ := h3 m hm
  unfold goS dlM doM dsM
  split
  · split
    · split
      · exact ⟨q, hq, by rw [um_k (by decide)]; exact e⟩
      · exact ⟨q, hq, by rw [umF_k (by decide), um_k (by decide)]; exact e⟩
    · exact ⟨q, hq, e⟩
  · split
    · split
      · exact ⟨q, hq, by rw [um_k (by decide), um_k (by decide), um_k (by decide)]; exact e⟩
      · exact ⟨q, hq, e⟩
    · split
      · rename_i hs
        by_cases em : m = x.toNatClampNeg
        · obtain ⟨k, hk, ek⟩ := isP_of h1 (by omega) hs.2.1
          refine ⟨k, hk, ?_⟩
          rw [em, um_eq, ek, nI_clamp (by omega)]
        · exact ⟨q, hq, by rw [um_ne (fun z => em z.2), um_k (by decide), um_k (by decide)]; exact e⟩
      · exact ⟨q, hq, e⟩
theorem GI_yg {P M : Nat} {τ : Sm} {X Y : Nat → Int32} (h4 : P ≤ 4) (h : GI P M τ) : ∀ n, GI P M (yg τ P X Y n).2 := by
  intro n
  induction n with
  | zero => exact h
  | succ n ih =>
    rw [yg]
    split
    · split
      · exact ih
      · exact GI_go h4 ih
    · exact ih
abbrev yeM (w : Int32) : Prop := wiI w 0 3 ∨ wiI w 10 13 ∨ wiI w 20 23 ∨ wiI w 30 35
def rfM (τ : Sm) (s N : Nat) : Int32 := ffR (fun k => rfI (τ 6 0) (τ 4 (s + 2 * k)) (τ 4 (s + 2 * k + 1))) N
def ygT (τ : Sm) (P s N : Nat) : Int32 × Sm := yg (kaM τ) P (fun k => τ 4 (s + 2 * k)) (fun k => τ 4 (s + 2 * k + 1)) N
def Rm_year (τ : Sm) (P M j : Nat) (l i n w : Int32) : Int32 := if laI l ∧ wiI n 0 20 ∧ yeM w then (if agM τ j l i (2 * n) = 0 then (if τ 5 0 = 0 then -3 else if rfM τ (i6 j i.toNatClampNeg) n.toNatClampNeg = 0 then (if w = 1 then (ygT τ P (i6 j i.toNatClampNeg) n.toNatClampNeg).1 else if (ygT τ P (i6 j i.toNatClampNeg) n.toNatClampNeg).1 = -9 then tyM (ygT τ P (i6 j i.toNatClampNeg) n.toNatClampNeg).2 P M w else -100 - (ygT τ P (i6 j i.toNatClampNeg) n.toNatClampNeg).1) else rfM τ (i6 j i.toNatClampNeg) n.toNatClampNeg) else -10 - agM τ j l i (2 * n)) else -2
def Sm_year (τ : Sm) (P j : Nat) (l i n w : Int32) : Sm := if laI l ∧ wiI n 0 20 ∧ yeM w then (if agM τ j l i (2 * n) = 0 then (if τ 5 0 = 0 then τ else if rfM τ (i6 j i.toNatClampNeg) n.toNatClampNeg = 0 then pbM (ygT τ P (i6 j i.toNatClampNeg) n.toNatClampNeg).2 else τ) else um τ 0 0 (agM τ j l i (2 * n))) else τ
theorem kaM_4 (τ : Sm) : kaM τ 4 = τ 4 := rfl
theorem yg_4 {τ : Sm} {P : Nat} {X Y : Nat → Int32} : ∀ n, (yg τ P X Y n).2 4 = τ 4 := by
  intro n
  induction n with
  | zero => rfl
  | succ n ih =>
    rw [yg]
    split
    · split
      · exact ih
      · exact (goS_k (by decide)).trans ih
    · exact ih

section
variable {D : va_G} {tc : Tc} {B : Nat → Nat} {τ τ0 : Sm} {M P s n q p m : Nat} {X : Cx}
set_option maxRecDepth 100000 in
set_option maxHeartbeats 4000000 in
theorem mk_refusesPair (x y : Int32) : Ok 1 yX6_refusesPair cX6_refusesPair 3 (some .int) D tc [.ref (B 0), .int x, .int y] (mW B tc τ) (some (.int (rfI (τ 6 0) x y))) (mW B tc τ) := by
  refine Ok_of RX6 rfl (by decide) [some (.ref (B 0)), some (.int x), some (.int y)] rfl (Nat.le_of_ble_eq_true rfl) ?_
  intro X hX
  refine V_ild2 dX6_refusesPair_0 ?_
  refine V_iconst 0 dX6_refusesPair_1 (by decide) ?_
  refine V_iconst 3 dX6_refusesPair_2 (by decide) ?_
  refine V_callS ls_X6_86 (mk_within _ _ _) dX6_refusesPair_3 (dep hX (by decide)) rfl (Nat.le_of_ble_eq_true rfl) ?_
  refine V_if_ne 21 dX6_refusesPair_6 (by decide) (fun c6 => ?_) (fun c6 => ?_)
  · try rw [b2i_ne] at c6
    try rw [Decidable.not_not] at c6
    have hno : ¬ (¬ wiI y 0 3 ∧ ¬ y = 8 ∧ ¬ y = 9) := fun z => z.1 c6
    refine V_ild2 dX6_refusesPair_21 ?_
    refine V_bipush 9 dX6_refusesPair_22 (by decide) ?_
    refine V_icmp_ne 40 dX6_refusesPair_24 (by decide) (fun c24 => ?_) (fun c24 => ?_)
    · have h2 : ¬ ((¬ wiI y 0 3 ∧ ¬ y = 8 ∧ ¬ y = 9) ∨ (y = 9 ∧ ¬ wiI x 0 9)) := fun z => z.elim hno (fun z => c24 z.1)
      refine V_ild2 dX6_refusesPair_40 ?_
      refine V_bipush 9 dX6_refusesPair_41 (by decide) ?_
      refine V_icmp_eq 58 dX6_refusesPair_43 (by decide) (fun c43 => ?_) (fun c43 => ?_)
      · have h3 : (if ¬ y = 9 ∧ ¬ isP (τ 6 0) x then (-1 : Int32) else 0) = 0 := if_neg (fun z => z.1 c43)
        refine V_iconst 0 dX6_refusesPair_58 (by decide) ?_
        exact V_iret hX dX6_refusesPair_59 rfl (by rw [rf_eq, if_neg h2, h3]) rfl
      · refine V_ald0 dX6_refusesPair_46 ?_
        refine V_ild1 dX6_refusesPair_47 ?_
        refine V_callV lm_X6_156 (mk_isMorning _) dX6_refusesPair_48 mW_obj rfl (dep hX (by decide)) rfl (Nat.le_of_ble_eq_true rfl) ?_
        refine V_if_ne 58 dX6_refusesPair_51 (by decide) (fun c51 => ?_) (fun c51 => ?_)
        · try rw [b2i_ne] at c51
          try rw [Decidable.not_not] at c51
          have h3 : (if ¬ y = 9 ∧ ¬ isP (τ 6 0) x then (-1 : Int32) else 0) = 0 := if_neg (fun z => z.2 c51)
          refine V_iconst 0 dX6_refusesPair_58 (by decide) ?_
          exact V_iret hX dX6_refusesPair_59 rfl (by rw [rf_eq, if_neg h2, h3]) rfl
        · try rw [b2i_eq] at c51
          try rw [Decidable.not_not] at c51
          have h3 : (if ¬ y = 9 ∧ ¬ isP (τ 6 0) x then (-1 : Int32) else 0) = -1 := if_pos ⟨c43, c51⟩
          refine V_iconst (-1) dX6_refusesPair_54 (by decide) ?_
          refine V_goto 59 dX6_refusesPair_55 (by decide) ?_
          exact V_iret hX dX6_refusesPair_59 rfl (by rw [rf_eq, if_neg h2, h3]) rfl
    · refine V_ild1 dX6_refusesPair_27 ?_
      refine V_iconst 0 dX6_refusesPair_28 (by decide) ?_
      refine V_bipush 9 dX6_refusesPair_29 (by decide) ?_
      refine V_callS ls_X6_86 (mk_within _ _ _) dX6_refusesPair_31 (dep hX (by decide)) rfl (Nat.le_of_ble_eq_true rfl) ?_
      refine V_if_ne 40 dX6_refusesPair_34 (by decide) (fun c34 => ?_) (fun c34 => ?_)
      · try rw [b2i_ne] at c34
        try rw [Decidable.not_not] at c34
        have h2 : ¬ ((¬ wiI y 0 3 ∧ ¬ y = 8 ∧ ¬ y = 9) ∨ (y = 9 ∧ ¬ wiI x 0 9)) := fun z => z.elim (fun z => z.2.2 c24) (fun z => z.2 c34)
        refine V_ild2 dX6_refusesPair_40 ?_
        refine V_bipush 9 dX6_refusesPair_41 (by decide) ?_
        refine V_icmp_eq 58 dX6_refusesPair_43 (by decide) (fun c43 => ?_) (fun c43 => ?_)
        · have h3 : (if ¬ y = 9 ∧ ¬ isP (τ 6 0) x then (-1 : Int32) else 0) = 0 := if_neg (fun z => z.1 c43)
          refine V_iconst 0 dX6_refusesPair_58 (by decide) ?_
          exact V_iret hX dX6_refusesPair_59 rfl (by rw [rf_eq, if_neg h2, h3]) rfl
        · refine V_ald0 dX6_refusesPair_46 ?_
          refine V_ild1 dX6_refusesPair_47 ?_
          refine V_callV lm_X6_156 (mk_isMorning _) dX6_refusesPair_48 mW_obj rfl (dep hX (by decide)) rfl (Nat.le_of_ble_eq_true rfl) ?_
          refine V_if_ne 58 dX6_refusesPair_51 (by decide) (fun c51 => ?_) (fun c51 => ?_)
          · try rw [b2i_ne] at c51
            try rw [Decidable.not_not] at c51
            have h3 : (if ¬ y = 9 ∧ ¬ isP (τ 6 0) x then (-1 : Int32) else 0) = 0 := if_neg (fun z => z.2 c51)
            refine V_iconst 0 dX6_refusesPair_58 (by decide) ?_
            exact V_iret hX dX6_refusesPair_59 rfl (by rw [rf_eq, if_neg h2, h3]) rfl
          · try rw [b2i_eq] at c51
            try rw [Decidable.not_not] at c51
            have h3 : (if ¬ y = 9 ∧ ¬ isP (τ 6 0) x then (-1 : Int32) else 0) = -1 := if_pos ⟨c43, c51⟩
            refine V_iconst (-1) dX6_refusesPair_54 (by decide) ?_
            refine V_goto 59 dX6_refusesPair_55 (by decide) ?_
            exact V_iret hX dX6_refusesPair_59 rfl (by rw [rf_eq, if_neg h2, h3]) rfl
      · try rw [b2i_eq] at c34
        try rw [Decidable.not_not] at c34
        have h2 : ((¬ wiI y 0 3 ∧ ¬ y = 8 ∧ ¬ y = 9) ∨ (y = 9 ∧ ¬ wiI x 0 9)) := Or.inr ⟨c24, c34⟩
        refine V_bipush (-2) dX6_refusesPair_37 (by decide) ?_
        exact V_iret hX dX6_refusesPair_39 rfl (by rw [rf_eq, if_pos h2]) rfl
  · try rw [b2i_eq] at c6
    try rw [Decidable.not_not] at c6
    refine V_ild2 dX6_refusesPair_9 ?_
    refine V_bipush 8 dX6_refusesPair_10 (by decide) ?_
    refine V_icmp_eq 21 dX6_refusesPair_12 (by decide) (fun c12 => ?_) (fun c12 => ?_)
    · have hno : ¬ (¬ wiI y 0 3 ∧ ¬ y = 8 ∧ ¬ y = 9) := fun z => z.2.1 c12
      refine V_ild2 dX6_refusesPair_21 ?_
      refine V_bipush 9 dX6_refusesPair_22 (by decide) ?_
      refine V_icmp_ne 40 dX6_refusesPair_24 (by decide) (fun c24 => ?_) (fun c24 => ?_)
      · have h2 : ¬ ((¬ wiI y 0 3 ∧ ¬ y = 8 ∧ ¬ y = 9) ∨ (y = 9 ∧ ¬ wiI x 0 9)) := fun z => z.elim hno (fun z => c24 z.1)
        refine V_ild2 dX6_refusesPair_40 ?_
        refine V_bipush 9 dX6_refusesPair_41 (by decide) ?_
        refine V_icmp_eq 58 dX6_refusesPair_43 (by decide) (fun c43 => ?_) (fun c43 => ?_)
        · have h3 : (if ¬ y = 9 ∧ ¬ isP (τ 6 0) x then (-1 : Int32) else 0) = 0 := if_neg (fun z => z.1 c43)
          refine V_iconst 0 dX6_refusesPair_58 (by decide) ?_
          exact V_iret hX dX6_refusesPair_59 rfl (by rw [rf_eq, if_neg h2, h3]) rfl
        · refine V_ald0 dX6_refusesPair_46 ?_
          refine V_ild1 dX6_refusesPair_47 ?_
          refine V_callV lm_X6_156 (mk_isMorning _) dX6_refusesPair_48 mW_obj rfl (dep hX (by decide)) rfl (Nat.le_of_ble_eq_true rfl) ?_
          refine V_if_ne 58 dX6_refusesPair_51 (by decide) (fun c51 => ?_) (fun c51 => ?_)
          · try rw [b2i_ne] at c51
            try rw [Decidable.not_not] at c51
            have h3 : (if ¬ y = 9 ∧ ¬ isP (τ 6 0) x then (-1 : Int32) else 0) = 0 := if_neg (fun z => z.2 c51)
            refine V_iconst 0 dX6_refusesPair_58 (by decide) ?_
            exact V_iret hX dX6_refusesPair_59 rfl (by rw [rf_eq, if_neg h2, h3]) rfl
          · try rw [b2i_eq] at c51
            try rw [Decidable.not_not] at c51
            have h3 : (if ¬ y = 9 ∧ ¬ isP (τ 6 0) x then (-1 : Int32) else 0) = -1 := if_pos ⟨c43, c51⟩
            refine V_iconst (-1) dX6_refusesPair_54 (by decide) ?_
            refine V_goto 59 dX6_refusesPair_55 (by decide) ?_
            exact V_iret hX dX6_refusesPair_59 rfl (by rw [rf_eq, if_neg h2, h3]) rfl
      · refine V_ild1 dX6_refusesPair_27 ?_
        refine V_iconst 0 dX6_refusesPair_28 (by decide) ?_
        refine V_bipush 9 dX6_refusesPair_29 (by decide) ?_
        refine V_callS ls_X6_86 (mk_within _ _ _) dX6_refusesPair_31 (dep hX (by decide)) rfl (Nat.le_of_ble_eq_true rfl) ?_
        refine V_if_ne 40 dX6_refusesPair_34 (by decide) (fun c34 => ?_) (fun c34 => ?_)
        · try rw [b2i_ne] at c34
          try rw [Decidable.not_not] at c34
          have h2 : ¬ ((¬ wiI y 0 3 ∧ ¬ y = 8 ∧ ¬ y = 9) ∨ (y = 9 ∧ ¬ wiI x 0 9)) := fun z => z.elim (fun z => z.2.2 c24) (fun z => z.2 c34)
          refine V_ild2 dX6_refusesPair_40 ?_
          refine V_bipush 9 dX6_refusesPair_41 (by decide) ?_
          refine V_icmp_eq 58 dX6_refusesPair_43 (by decide) (fun c43 => ?_) (fun c43 => ?_)
          · have h3 : (if ¬ y = 9 ∧ ¬ isP (τ 6 0) x then (-1 : Int32) else 0) = 0 := if_neg (fun z => z.1 c43)
            refine V_iconst 0 dX6_refusesPair_58 (by decide) ?_
            exact V_iret hX dX6_refusesPair_59 rfl (by rw [rf_eq, if_neg h2, h3]) rfl
          · refine V_ald0 dX6_refusesPair_46 ?_
            refine V_ild1 dX6_refusesPair_47 ?_
            refine V_callV lm_X6_156 (mk_isMorning _) dX6_refusesPair_48 mW_obj rfl (dep hX (by decide)) rfl (Nat.le_of_ble_eq_true rfl) ?_
            refine V_if_ne 58 dX6_refusesPair_51 (by decide) (fun c51 => ?_) (fun c51 => ?_)
            · try rw [b2i_ne] at c51
              try rw [Decidable.not_not] at c51
              have h3 : (if ¬ y = 9 ∧ ¬ isP (τ 6 0) x then (-1 : Int32) else 0) = 0 := if_neg (fun z => z.2 c51)
              refine V_iconst 0 dX6_refusesPair_58 (by decide) ?_
              exact V_iret hX dX6_refusesPair_59 rfl (by rw [rf_eq, if_neg h2, h3]) rfl
            · try rw [b2i_eq] at c51
              try rw [Decidable.not_not] at c51
              have h3 : (if ¬ y = 9 ∧ ¬ isP (τ 6 0) x then (-1 : Int32) else 0) = -1 := if_pos ⟨c43, c51⟩
              refine V_iconst (-1) dX6_refusesPair_54 (by decide) ?_
              refine V_goto 59 dX6_refusesPair_55 (by decide) ?_
              exact V_iret hX dX6_refusesPair_59 rfl (by rw [rf_eq, if_neg h2, h3]) rfl
        · try rw [b2i_eq] at c34
          try rw [Decidable.not_not] at c34
          have h2 : ((¬ wiI y 0 3 ∧ ¬ y = 8 ∧ ¬ y = 9) ∨ (y = 9 ∧ ¬ wiI x 0 9)) := Or.inr ⟨c24, c34⟩
          refine V_bipush (-2) dX6_refusesPair_37 (by decide) ?_
          exact V_iret hX dX6_refusesPair_39 rfl (by rw [rf_eq, if_pos h2]) rfl
    · refine V_ild2 dX6_refusesPair_15 ?_
      refine V_bipush 9 dX6_refusesPair_16 (by decide) ?_
      refine V_icmp_ne 37 dX6_refusesPair_18 (by decide) (fun c18 => ?_) (fun c18 => ?_)
      · have h2 : ((¬ wiI y 0 3 ∧ ¬ y = 8 ∧ ¬ y = 9) ∨ (y = 9 ∧ ¬ wiI x 0 9)) := Or.inl ⟨c6, c12, c18⟩
        refine V_bipush (-2) dX6_refusesPair_37 (by decide) ?_
        exact V_iret hX dX6_refusesPair_39 rfl (by rw [rf_eq, if_pos h2]) rfl
      · have hno : ¬ (¬ wiI y 0 3 ∧ ¬ y = 8 ∧ ¬ y = 9) := fun z => z.2.2 c18
        refine V_ild2 dX6_refusesPair_21 ?_
        refine V_bipush 9 dX6_refusesPair_22 (by decide) ?_
        refine V_icmp_ne 40 dX6_refusesPair_24 (by decide) (fun c24 => ?_) (fun c24 => ?_)
        · have h2 : ¬ ((¬ wiI y 0 3 ∧ ¬ y = 8 ∧ ¬ y = 9) ∨ (y = 9 ∧ ¬ wiI x 0 9)) := fun z => z.elim hno (fun z => c24 z.1)
          refine V_ild2 dX6_refusesPair_40 ?_
          refine V_bipush 9 dX6_refusesPair_41 (by decide) ?_
          refine V_icmp_eq 58 dX6_refusesPair_43 (by decide) (fun c43 => ?_) (fun c43 => ?_)
          · have h3 : (if ¬ y = 9 ∧ ¬ isP (τ 6 0) x then (-1 : Int32) else 0) = 0 := if_neg (fun z => z.1 c43)
            refine V_iconst 0 dX6_refusesPair_58 (by decide) ?_
            exact V_iret hX dX6_refusesPair_59 rfl (by rw [rf_eq, if_neg h2, h3]) rfl
          · refine V_ald0 dX6_refusesPair_46 ?_
            refine V_ild1 dX6_refusesPair_47 ?_
            refine V_callV lm_X6_156 (mk_isMorning _) dX6_refusesPair_48 mW_obj rfl (dep hX (by decide)) rfl (Nat.le_of_ble_eq_true rfl) ?_
            refine V_if_ne 58 dX6_refusesPair_51 (by decide) (fun c51 => ?_) (fun c51 => ?_)
            · try rw [b2i_ne] at c51
              try rw [Decidable.not_not] at c51
              have h3 : (if ¬ y = 9 ∧ ¬ isP (τ 6 0) x then (-1 : Int32) else 0) = 0 := if_neg (fun z => z.2 c51)
              refine V_iconst 0 dX6_refusesPair_58 (by decide) ?_
              exact V_iret hX dX6_refusesPair_59 rfl (by rw [rf_eq, if_neg h2, h3]) rfl
            · try rw [b2i_eq] at c51
              try rw [Decidable.not_not] at c51
              have h3 : (if ¬ y = 9 ∧ ¬ isP (τ 6 0) x then (-1 : Int32) else 0) = -1 := if_pos ⟨c43, c51⟩
              refine V_iconst (-1) dX6_refusesPair_54 (by decide) ?_
              refine V_goto 59 dX6_refusesPair_55 (by decide) ?_
              exact V_iret hX dX6_refusesPair_59 rfl (by rw [rf_eq, if_neg h2, h3]) rfl
        · refine V_ild1 dX6_refusesPair_27 ?_
          refine V_iconst 0 dX6_refusesPair_28 (by decide) ?_
          refine V_bipush 9 dX6_refusesPair_29 (by decide) ?_
          refine V_callS ls_X6_86 (mk_within _ _ _) dX6_refusesPair_31 (dep hX (by decide)) rfl (Nat.le_of_ble_eq_true rfl) ?_
          refine V_if_ne 40 dX6_refusesPair_34 (by decide) (fun c34 => ?_) (fun c34 => ?_)
          · try rw [b2i_ne] at c34
            try rw [Decidable.not_not] at c34
            have h2 : ¬ ((¬ wiI y 0 3 ∧ ¬ y = 8 ∧ ¬ y = 9) ∨ (y = 9 ∧ ¬ wiI x 0 9)) := fun z => z.elim (fun z => z.2.2 c24) (fun z => z.2 c34)
            refine V_ild2 dX6_refusesPair_40 ?_
            refine V_bipush 9 dX6_refusesPair_41 (by decide) ?_
            refine V_icmp_eq 58 dX6_refusesPair_43 (by decide) (fun c43 => ?_) (fun c43 => ?_)
            · have h3 : (if ¬ y = 9 ∧ ¬ isP (τ 6 0) x then (-1 : Int32) else 0) = 0 := if_neg (fun z => z.1 c43)
              refine V_iconst 0 dX6_refusesPair_58 (by decide) ?_
              exact V_iret hX dX6_refusesPair_59 rfl (by rw [rf_eq, if_neg h2, h3]) rfl
            · refine V_ald0 dX6_refusesPair_46 ?_
              refine V_ild1 dX6_refusesPair_47 ?_
              refine V_callV lm_X6_156 (mk_isMorning _) dX6_refusesPair_48 mW_obj rfl (dep hX (by decide)) rfl (Nat.le_of_ble_eq_true rfl) ?_
              refine V_if_ne 58 dX6_refusesPair_51 (by decide) (fun c51 => ?_) (fun c51 => ?_)
              · try rw [b2i_ne] at c51
                try rw [Decidable.not_not] at c51
                have h3 : (if ¬ y = 9 ∧ ¬ isP (τ 6 0) x then (-1 : Int32) else 0) = 0 := if_neg (fun z => z.2 c51)
                refine V_iconst 0 dX6_refusesPair_58 (by decide) ?_
                exact V_iret hX dX6_refusesPair_59 rfl (by rw [rf_eq, if_neg h2, h3]) rfl
              · try rw [b2i_eq] at c51
                try rw [Decidable.not_not] at c51
                have h3 : (if ¬ y = 9 ∧ ¬ isP (τ 6 0) x then (-1 : Int32) else 0) = -1 := if_pos ⟨c43, c51⟩
                refine V_iconst (-1) dX6_refusesPair_54 (by decide) ?_
                refine V_goto 59 dX6_refusesPair_55 (by decide) ?_
                exact V_iret hX dX6_refusesPair_59 rfl (by rw [rf_eq, if_neg h2, h3]) rfl
          · try rw [b2i_eq] at c34
            try rw [Decidable.not_not] at c34
            have h2 : ((¬ wiI y 0 3 ∧ ¬ y = 8 ∧ ¬ y = 9) ∨ (y = 9 ∧ ¬ wiI x 0 9)) := Or.inr ⟨c24, c34⟩
            refine V_bipush (-2) dX6_refusesPair_37 (by decide) ?_
            exact V_iret hX dX6_refusesPair_39 rfl (by rw [rf_eq, if_pos h2]) rfl
set_option maxRecDepth 100000 in
set_option maxHeartbeats 4000000 in
theorem mk_keepAll (hz : z01 (τ 11) 4) (hy : z01 (τ 16) 6) : Ok 0 yX6_keepAll cX6_keepAll 2 none D tc [.ref (B 0)] (mW B tc τ) none (mW B tc (kaM τ)) := by
  refine Ok_of RX6 rfl (by decide) [some (.ref (B 0)), none] rfl (Nat.le_of_ble_eq_true rfl) ?_
  intro X hX
  have lqS : ∀ k, k < 6 → V X D tc cX6_keepAll RX6 2 59 ((fun k => [some (.ref (B 0)), some (.int (nI k))]) (k + 1)) [] ((fun k => mW B tc (ka2 (ka3 (um τ 23 0 (τ 8 0)) 4) k)) (k + 1)) → V X D tc cX6_keepAll RX6 2 59 ((fun k => [some (.ref (B 0)), some (.int (nI k))]) k) [] ((fun k => mW B tc (ka2 (ka3 (um τ 23 0 (τ 8 0)) 4) k)) k) := by
    intro k hk ihlq
    refine V_ild1 dX6_keepAll_59 ?_
    refine V_bipush 6 dX6_keepAll_60 (by decide) ?_
    refine V_icmp_ge 95 dX6_keepAll_62 (by decide) (fun c62 => ?_) (fun c62 => ?_)
    · exact absurd c62 (L6 hk)
    · refine V_ald0 dX6_keepAll_65 ?_
      refine V_get lf_X6_59 dX6_keepAll_66 mW_obj rfl ?_
      refine V_ild1 dX6_keepAll_69 ?_
      refine V_ald0 dX6_keepAll_70 ?_
      refine V_get lf_X6_32 dX6_keepAll_71 mW_obj rfl ?_
      refine V_ild1 dX6_keepAll_74 ?_
      refine V_ialdk dX6_keepAll_75 mW_a13 ⟨by omega, by decide⟩ ?_
      refine V_iastk dX6_keepAll_76 mW_a27 ⟨by omega, by decide⟩ (mW_a27s _ _) ?_
      refine V_ald0 dX6_keepAll_77 ?_
      refine V_get lf_X6_62 dX6_keepAll_78 mW_obj rfl ?_
      refine V_ild1 dX6_keepAll_81 ?_
      refine V_ald0 dX6_keepAll_82 ?_
      refine V_get lf_X6_41 dX6_keepAll_83 mW_obj rfl ?_
      refine V_ild1 dX6_keepAll_86 ?_
      refine V_zaldk dX6_keepAll_87 mW_a16 ⟨by omega, by decide⟩ ?_
      refine V_zastk dX6_keepAll_88 mW_a28 ⟨by omega, by decide⟩ (hy k (by omega)) (mW_a28s _ _) ?_
      refine V_inc1 (nI (k + 1)) dX6_keepAll_89 (nI_inc k) rfl (by decide) ?_
      refine V_goto 59 dX6_keepAll_92 (by decide) ?_
      refine V_eq rfl rfl ?_ ihlq
      exact congrArg (mW B tc) (ka2_s (ka3 (um τ 23 0 (τ 8 0)) 4) k)
  have lqE : V X D tc cX6_keepAll RX6 2 59 ((fun k => [some (.ref (B 0)), some (.int (nI k))]) (6)) [] ((fun k => mW B tc (ka2 (ka3 (um τ 23 0 (τ 8 0)) 4) k)) (6)) := by
    refine V_ild1 dX6_keepAll_59 ?_
    refine V_bipush 6 dX6_keepAll_60 (by decide) ?_
    refine V_icmp_ge 95 dX6_keepAll_62 (by decide) (fun c62 => ?_) (fun c62 => ?_)
    · exact V_vret hX dX6_keepAll_95 rfl rfl rfl
    · exact absurd (by decide) c62
  have lq := V_for (fun k => [some (.ref (B 0)), some (.int (nI k))]) (fun k => mW B tc (ka2 (ka3 (um τ 23 0 (τ 8 0)) 4) k)) (6) lqS lqE
  have lpS : ∀ k, k < 4 → V X D tc cX6_keepAll RX6 2 10 ((fun k => [some (.ref (B 0)), some (.int (nI k))]) (k + 1)) [] ((fun k => mW B tc (ka3 (um τ 23 0 (τ 8 0)) k)) (k + 1)) → V X D tc cX6_keepAll RX6 2 10 ((fun k => [some (.ref (B 0)), some (.int (nI k))]) k) [] ((fun k => mW B tc (ka3 (um τ 23 0 (τ 8 0)) k)) k) := by
    intro k hk ihlp
    refine V_ild1 dX6_keepAll_10 ?_
    refine V_iconst 4 dX6_keepAll_11 (by decide) ?_
    refine V_icmp_ge 57 dX6_keepAll_12 (by decide) (fun c12 => ?_) (fun c12 => ?_)
    · exact absurd c12 (L4 hk)
    · refine V_ald0 dX6_keepAll_15 ?_
      refine V_get lf_X6_50 dX6_keepAll_16 mW_obj rfl ?_
      refine V_ild1 dX6_keepAll_19 ?_
      refine V_ald0 dX6_keepAll_20 ?_
      refine V_get lf_X6_19 dX6_keepAll_21 mW_obj rfl ?_
      refine V_ild1 dX6_keepAll_24 ?_
      refine V_ialdk dX6_keepAll_25 mW_a9 ⟨by omega, by decide⟩ ?_
      refine V_iastk dX6_keepAll_26 mW_a24 ⟨by omega, by decide⟩ (mW_a24s _ _) ?_
      refine V_ald0 dX6_keepAll_27 ?_
      refine V_get lf_X6_53 dX6_keepAll_28 mW_obj rfl ?_
      refine V_ild1 dX6_keepAll_31 ?_
      refine V_ald0 dX6_keepAll_32 ?_
      refine V_get lf_X6_22 dX6_keepAll_33 mW_obj rfl ?_
      refine V_ild1 dX6_keepAll_36 ?_
      refine V_ialdk dX6_keepAll_37 mW_a10 ⟨by omega, by decide⟩ ?_
      refine V_iastk dX6_keepAll_38 mW_a25 ⟨by omega, by decide⟩ (mW_a25s _ _) ?_
      refine V_ald0 dX6_keepAll_39 ?_
      refine V_get lf_X6_56 dX6_keepAll_40 mW_obj rfl ?_
      refine V_ild1 dX6_keepAll_43 ?_
      refine V_ald0 dX6_keepAll_44 ?_
      refine V_get lf_X6_25 dX6_keepAll_45 mW_obj rfl ?_
      refine V_ild1 dX6_keepAll_48 ?_
      refine V_zaldk dX6_keepAll_49 mW_a11 ⟨by omega, by decide⟩ ?_
      refine V_zastk dX6_keepAll_50 mW_a26 ⟨by omega, by decide⟩ (hz k (by omega)) (mW_a26s _ _) ?_
      refine V_inc1 (nI (k + 1)) dX6_keepAll_51 (nI_inc k) rfl (by decide) ?_
      refine V_goto 10 dX6_keepAll_54 (by decide) ?_
      refine V_eq rfl rfl ?_ ihlp
      exact congrArg (mW B tc) (ka3_s (um τ 23 0 (τ 8 0)) k)
  have lpE : V X D tc cX6_keepAll RX6 2 10 ((fun k => [some (.ref (B 0)), some (.int (nI k))]) (4)) [] ((fun k => mW B tc (ka3 (um τ 23 0 (τ 8 0)) k)) (4)) := by
    refine V_ild1 dX6_keepAll_10 ?_
    refine V_iconst 4 dX6_keepAll_11 (by decide) ?_
    refine V_icmp_ge 57 dX6_keepAll_12 (by decide) (fun c12 => ?_) (fun c12 => ?_)
    · refine V_iconst 0 dX6_keepAll_57 (by decide) ?_
      refine V_ist1 dX6_keepAll_58 rfl (by decide) ?_
      refine V_eq rfl rfl ?_ (lq 0 (Nat.zero_le _))
      exact congrArg (mW B tc) (ka2_0 (ka3 (um τ 23 0 (τ 8 0)) 4)).symm
    · exact absurd (by decide) c12
  have lp := V_for (fun k => [some (.ref (B 0)), some (.int (nI k))]) (fun k => mW B tc (ka3 (um τ 23 0 (τ 8 0)) k)) (4) lpS lpE
  refine V_ald0 dX6_keepAll_0 ?_
  refine V_ald0 dX6_keepAll_1 ?_
  refine V_get lf_X6_129 dX6_keepAll_2 mW_obj rfl ?_
  refine V_puti lp_X6_185 dX6_keepAll_5 mW_obj (Nat.le_of_ble_eq_true rfl) (mW_p23 _) ?_
  refine V_iconst 0 dX6_keepAll_8 (by decide) ?_
  refine V_ist1 dX6_keepAll_9 rfl (by decide) ?_
  refine V_eq rfl rfl ?_ (lp 0 (Nat.zero_le _))
  exact congrArg (mW B tc) (ka3_0 (um τ 23 0 (τ 8 0))).symm
set_option maxRecDepth 100000 in
set_option maxHeartbeats 4000000 in
theorem mk_putBack (hz : z01 (τ 26) 4) (hy : z01 (τ 28) 6) : Ok 0 yX6_putBack cX6_putBack 2 none D tc [.ref (B 0)] (mW B tc τ) none (mW B tc (pbM τ)) := by
  refine Ok_of RX6 rfl (by decide) [some (.ref (B 0)), none] rfl (Nat.le_of_ble_eq_true rfl) ?_
  intro X hX
  have lqS : ∀ k, k < 6 → V X D tc cX6_putBack RX6 2 59 ((fun k => [some (.ref (B 0)), some (.int (nI k))]) (k + 1)) [] ((fun k => mW B tc (pb2 (pb3 (um τ 8 0 (τ 23 0)) 4) k)) (k + 1)) → V X D tc cX6_putBack RX6 2 59 ((fun k => [some (.ref (B 0)), some (.int (nI k))]) k) [] ((fun k => mW B tc (pb2 (pb3 (um τ 8 0 (τ 23 0)) 4) k)) k) := by
    intro k hk ihlq
    refine V_ild1 dX6_putBack_59 ?_
    refine V_bipush 6 dX6_putBack_60 (by decide) ?_
    refine V_icmp_ge 95 dX6_putBack_62 (by decide) (fun c62 => ?_) (fun c62 => ?_)
    · exact absurd c62 (L6 hk)
    · refine V_ald0 dX6_putBack_65 ?_
      refine V_get lf_X6_32 dX6_putBack_66 mW_obj rfl ?_
      refine V_ild1 dX6_putBack_69 ?_
      refine V_ald0 dX6_putBack_70 ?_
      refine V_get lf_X6_59 dX6_putBack_71 mW_obj rfl ?_
      refine V_ild1 dX6_putBack_74 ?_
      refine V_ialdk dX6_putBack_75 mW_a27 ⟨by omega, by decide⟩ ?_
      refine V_iastk dX6_putBack_76 mW_a13 ⟨by omega, by decide⟩ (mW_a13s _ _) ?_
      refine V_ald0 dX6_putBack_77 ?_
      refine V_get lf_X6_41 dX6_putBack_78 mW_obj rfl ?_
      refine V_ild1 dX6_putBack_81 ?_
      refine V_ald0 dX6_putBack_82 ?_
      refine V_get lf_X6_62 dX6_putBack_83 mW_obj rfl ?_
      refine V_ild1 dX6_putBack_86 ?_
      refine V_zaldk dX6_putBack_87 mW_a28 ⟨by omega, by decide⟩ ?_
      refine V_zastk dX6_putBack_88 mW_a16 ⟨by omega, by decide⟩ (hy k (by omega)) (mW_a16s _ _) ?_
      refine V_inc1 (nI (k + 1)) dX6_putBack_89 (nI_inc k) rfl (by decide) ?_
      refine V_goto 59 dX6_putBack_92 (by decide) ?_
      refine V_eq rfl rfl ?_ ihlq
      exact congrArg (mW B tc) (pb2_s (pb3 (um τ 8 0 (τ 23 0)) 4) k)
  have lqE : V X D tc cX6_putBack RX6 2 59 ((fun k => [some (.ref (B 0)), some (.int (nI k))]) (6)) [] ((fun k => mW B tc (pb2 (pb3 (um τ 8 0 (τ 23 0)) 4) k)) (6)) := by
    refine V_ild1 dX6_putBack_59 ?_
    refine V_bipush 6 dX6_putBack_60 (by decide) ?_
    refine V_icmp_ge 95 dX6_putBack_62 (by decide) (fun c62 => ?_) (fun c62 => ?_)
    · exact V_vret hX dX6_putBack_95 rfl rfl rfl
    · exact absurd (by decide) c62
  have lq := V_for (fun k => [some (.ref (B 0)), some (.int (nI k))]) (fun k => mW B tc (pb2 (pb3 (um τ 8 0 (τ 23 0)) 4) k)) (6) lqS lqE
  have lpS : ∀ k, k < 4 → V X D tc cX6_putBack RX6 2 10 ((fun k => [some (.ref (B 0)), some (.int (nI k))]) (k + 1)) [] ((fun k => mW B tc (pb3 (um τ 8 0 (τ 23 0)) k)) (k + 1)) → V X D tc cX6_putBack RX6 2 10 ((fun k => [some (.ref (B 0)), some (.int (nI k))]) k) [] ((fun k => mW B tc (pb3 (um τ 8 0 (τ 23 0)) k)) k) := by
    intro k hk ihlp
    refine V_ild1 dX6_putBack_10 ?_
    refine V_iconst 4 dX6_putBack_11 (by decide) ?_
    refine V_icmp_ge 57 dX6_putBack_12 (by decide) (fun c12 => ?_) (fun c12 => ?_)
    · exact absurd c12 (L4 hk)
    · refine V_ald0 dX6_putBack_15 ?_
      refine V_get lf_X6_19 dX6_putBack_16 mW_obj rfl ?_
      refine V_ild1 dX6_putBack_19 ?_
      refine V_ald0 dX6_putBack_20 ?_
      refine V_get lf_X6_50 dX6_putBack_21 mW_obj rfl ?_
      refine V_ild1 dX6_putBack_24 ?_
      refine V_ialdk dX6_putBack_25 mW_a24 ⟨by omega, by decide⟩ ?_
      refine V_iastk dX6_putBack_26 mW_a9 ⟨by omega, by decide⟩ (mW_a9s _ _) ?_
      refine V_ald0 dX6_putBack_27 ?_
      refine V_get lf_X6_22 dX6_putBack_28 mW_obj rfl ?_
      refine V_ild1 dX6_putBack_31 ?_
      refine V_ald0 dX6_putBack_32 ?_
      refine V_get lf_X6_53 dX6_putBack_33 mW_obj rfl ?_
      refine V_ild1 dX6_putBack_36 ?_
      refine V_ialdk dX6_putBack_37 mW_a25 ⟨by omega, by decide⟩ ?_
      refine V_iastk dX6_putBack_38 mW_a10 ⟨by omega, by decide⟩ (mW_a10s _ _) ?_
      refine V_ald0 dX6_putBack_39 ?_
      refine V_get lf_X6_25 dX6_putBack_40 mW_obj rfl ?_
      refine V_ild1 dX6_putBack_43 ?_
      refine V_ald0 dX6_putBack_44 ?_
      refine V_get lf_X6_56 dX6_putBack_45 mW_obj rfl ?_
      refine V_ild1 dX6_putBack_48 ?_
      refine V_zaldk dX6_putBack_49 mW_a26 ⟨by omega, by decide⟩ ?_
      refine V_zastk dX6_putBack_50 mW_a11 ⟨by omega, by decide⟩ (hz k (by omega)) (mW_a11s _ _) ?_
      refine V_inc1 (nI (k + 1)) dX6_putBack_51 (nI_inc k) rfl (by decide) ?_
      refine V_goto 10 dX6_putBack_54 (by decide) ?_
      refine V_eq rfl rfl ?_ ihlp
      exact congrArg (mW B tc) (pb3_s (um τ 8 0 (τ 23 0)) k)
  have lpE : V X D tc cX6_putBack RX6 2 10 ((fun k => [some (.ref (B 0)), some (.int (nI k))]) (4)) [] ((fun k => mW B tc (pb3 (um τ 8 0 (τ 23 0)) k)) (4)) := by
    refine V_ild1 dX6_putBack_10 ?_
    refine V_iconst 4 dX6_putBack_11 (by decide) ?_
    refine V_icmp_ge 57 dX6_putBack_12 (by decide) (fun c12 => ?_) (fun c12 => ?_)
    · refine V_iconst 0 dX6_putBack_57 (by decide) ?_
      refine V_ist1 dX6_putBack_58 rfl (by decide) ?_
      refine V_eq rfl rfl ?_ (lq 0 (Nat.zero_le _))
      exact congrArg (mW B tc) (pb2_0 (pb3 (um τ 8 0 (τ 23 0)) 4)).symm
    · exact absurd (by decide) c12
  have lp := V_for (fun k => [some (.ref (B 0)), some (.int (nI k))]) (fun k => mW B tc (pb3 (um τ 8 0 (τ 23 0)) k)) (4) lpS lpE
  refine V_ald0 dX6_putBack_0 ?_
  refine V_ald0 dX6_putBack_1 ?_
  refine V_get lf_X6_185 dX6_putBack_2 mW_obj rfl ?_
  refine V_puti lp_X6_129 dX6_putBack_5 mW_obj (Nat.le_of_ble_eq_true rfl) (mW_p8 _) ?_
  refine V_iconst 0 dX6_putBack_8 (by decide) ?_
  refine V_ist1 dX6_putBack_9 rfl (by decide) ?_
  refine V_eq rfl rfl ?_ (lp 0 (Nat.zero_le _))
  exact congrArg (mW B tc) (pb3_0 (um τ 8 0 (τ 23 0))).symm
set_option maxRecDepth 100000 in
set_option maxHeartbeats 4000000 in
theorem mk_goes (hP : τ 5 0 = nI P) (h4 : P ≤ 4) (x y : Int32) (hx : ¬ y = 9 → ∃ m q, m < 6 ∧ q < 4 ∧ x = nI m ∧ τ 13 m = nI q) : Ok 3 yX6_goes cX6_goes 3 (some .boolean) D tc [.ref (B 0), .int x, .int y] (mW B tc τ) (some (.int (goI τ x y))) (mW B tc (goS τ P x y)) := by
  refine Ok_of RX6 rfl (by decide) [some (.ref (B 0)), some (.int x), some (.int y)] rfl (Nat.le_of_ble_eq_true rfl) ?_
  intro X hX
  refine V_ild2 dX6_goes_0 ?_
  refine V_bipush 9 dX6_goes_1 (by decide) ?_
  refine V_icmp_ne 26 dX6_goes_3 (by decide) (fun c3 => ?_) (fun c3 => ?_)
  · obtain ⟨m, q, hm, hq, rfl, hw⟩ := hx c3
    have hcm : (nI m).toNatClampNeg = m := nI_clamp (by omega)
    have hcq : (τ 13 m).toNatClampNeg = q := by rw [hw]; exact nI_clamp (by omega)
    refine V_ild2 dX6_goes_26 ?_
    refine V_bipush 8 dX6_goes_27 (by decide) ?_
    refine V_icmp_ne 51 dX6_goes_29 (by decide) (fun c29 => ?_) (fun c29 => ?_)
    · refine V_ald0 dX6_goes_51 ?_
      refine V_ild1 dX6_goes_52 ?_
      refine V_ild2 dX6_goes_53 ?_
      refine V_callV lm_X6_171 (mk_maySell hP h4 m hm _) dX6_goes_54 mW_obj rfl (dep hX (by decide)) rfl (Nat.le_of_ble_eq_true rfl) ?_
      refine V_if_ne 62 dX6_goes_57 (by decide) (fun c57 => ?_) (fun c57 => ?_)
      · try rw [b2i_ne] at c57
        try rw [Decidable.not_not] at c57
        obtain ⟨k, hk, ek⟩ := isP_of hP (by omega) c57.2.1
        subst ek
        have hck : (nI k).toNatClampNeg = k := nI_clamp (by omega)
        refine V_ald0 dX6_goes_62 ?_
        refine V_ild1 dX6_goes_63 ?_
        refine V_ild2 dX6_goes_64 ?_
        refine V_callVv lm_X6_174 (mk_doSell m k q hm (by omega) hq hw) dX6_goes_65 mW_obj rfl (dep hX (by decide)) rfl (Nat.le_of_ble_eq_true rfl) ?_
        refine V_iconst 1 dX6_goes_68 (by decide) ?_
        exact V_zret hX dX6_goes_69 rfl (by first | exact Or.inl rfl | exact Or.inr rfl) (by rw [goI, if_neg c3, if_neg c29, hcm, b2i_t c57]) (by rw [goS, if_neg c3, if_neg c29, hcm, if_pos c57, hcq, hck])
      · try rw [b2i_eq] at c57
        try rw [Decidable.not_not] at c57
        refine V_iconst 0 dX6_goes_60 (by decide) ?_
        exact V_zret hX dX6_goes_61 rfl (by first | exact Or.inl rfl | exact Or.inr rfl) (by rw [goI, if_neg c3, if_neg c29, hcm, b2i_f c57]) (by rw [goS, if_neg c3, if_neg c29, hcm, if_neg c57])
    · refine V_ald0 dX6_goes_32 ?_
      refine V_get lf_X6_41 dX6_goes_33 mW_obj rfl ?_
      refine V_ild1 dX6_goes_36 ?_
      refine V_zaldk dX6_goes_37 mW_a16 ⟨by omega, by decide⟩ ?_
      refine V_if_eq 43 dX6_goes_38 (by decide) (fun c38 => ?_) (fun c38 => ?_)
      · refine V_ald0 dX6_goes_43 ?_
        refine V_ild1 dX6_goes_44 ?_
        refine V_callV lm_X6_178 (mk_doOpen m q hm hq hw) dX6_goes_45 mW_obj rfl (dep hX (by decide)) rfl (Nat.le_of_ble_eq_true rfl) ?_
        refine V_popi dX6_goes_48 ?_
        refine V_iconst 1 dX6_goes_49 (by decide) ?_
        exact V_zret hX dX6_goes_50 rfl (by first | exact Or.inl rfl | exact Or.inr rfl) (by rw [goI, if_neg c3, if_pos c29, hcm, b2i_t c38]) (by rw [goS, if_neg c3, if_pos c29, hcm, if_pos c38, hcq])
      · refine V_iconst 0 dX6_goes_41 (by decide) ?_
        exact V_zret hX dX6_goes_42 rfl (by first | exact Or.inl rfl | exact Or.inr rfl) (by rw [goI, if_neg c3, if_pos c29, hcm, b2i_f c38]) (by rw [goS, if_neg c3, if_pos c29, hcm, if_neg c38])
  · refine V_ald0 dX6_goes_6 ?_
    refine V_get lf_X6_129 dX6_goes_7 mW_obj rfl ?_
    refine V_ild1 dX6_goes_10 ?_
    refine V_iadd dX6_goes_11 ?_
    refine V_bipush 99 dX6_goes_12 (by decide) ?_
    refine V_icmp_le 19 dX6_goes_14 (by decide) (fun c14 => ?_) (fun c14 => ?_)
    · refine V_ald0 dX6_goes_19 ?_
      refine V_ild1 dX6_goes_20 ?_
      refine V_callVv lm_X6_181 (mk_doSleep hP h4 _) dX6_goes_21 mW_obj rfl (dep hX (by decide)) rfl (Nat.le_of_ble_eq_true rfl) ?_
      refine V_iconst 1 dX6_goes_24 (by decide) ?_
      exact V_zret hX dX6_goes_25 rfl (by first | exact Or.inl rfl | exact Or.inr rfl) (by rw [goI, if_pos c3, b2i_t c14]) (by rw [goS, if_pos c3, if_pos c14])
    · refine V_iconst 0 dX6_goes_17 (by decide) ?_
      exact V_zret hX dX6_goes_18 rfl (by first | exact Or.inl rfl | exact Or.inr rfl) (by rw [goI, if_pos c3, b2i_f c14]) (by rw [goS, if_pos c3, if_neg c14])
end
