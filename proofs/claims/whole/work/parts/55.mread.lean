/-! how the reference reads a text -/
def cM (τ : Sm) (s : Nat) : Nat → Int32 := fun q => τ 4 (s + q)
def tkT (τ : Sm) (x : Nat) : Sm := um τ 17 0 (nI (x + 1))
theorem dg_n9 {x : Int32} (h1 : ¬ x < 48) : ¬ x - 48 = -9 := by
  intro h
  have : x = 39 := by
    have e := congrArg (· + 48) h
    simp only [Int32.sub_add_cancel] at e
    exact e
  exact h1 (by rw [this]; decide)
theorem tk_eq {c : Nat → Int32} {n q : Nat} {k : Int32} : tkP c n q k k ↔ q < n ∧ c q = k := by
  constructor
  · rintro ⟨h1, h2, h3⟩
    exact ⟨h1, Int32.le_antisymm h3 (Int32.not_lt.mp h2)⟩
  · rintro ⟨h1, h2⟩
    exact ⟨h1, by rw [h2]; exact fun z => Int32.lt_irrefl z, by rw [h2]; exact Int32.le_refl _⟩
def rpT (τ : Sm) (s q p : Nat) : Sm := um (um (tkT (tkT τ (s + q)) (s + (q + 1))) 21 p (10 * (cM τ s q - 48) + (cM τ s (q + 1) - 48))) 19 0 (nI (p + 1))
def rpS (τ : Sm) (s n q p : Nat) : Sm := if dgP (cM τ s) n q then (if dgP (cM τ s) n (q + 1) then rpT τ s q p else tkT τ (s + q)) else τ
def rdI (x : Int32) : Int32 := if x = 99 then 0 else if x = 102 then 1 else if x = 112 then 2 else -9
theorem kd_y {c : Nat → Int32} {n q : Nat} (h : kdP c n q) : q < n ∧ rdI (c q) = kdI (c q) ∧ ¬ rdI (c q) = -9 := by
  rcases h with h | h | h <;> rw [tk_eq] at h <;> refine ⟨h.1, ?_⟩ <;> rw [h.2] <;> decide
theorem kd_n {c : Nat → Int32} {n q : Nat} (hq : q < n) (h : ¬ kdP c n q) : rdI (c q) = -9 := by
  unfold rdI
  rw [if_neg (fun e => h (Or.inl (tk_eq.mpr ⟨hq, e⟩))), if_neg (fun e => h (Or.inr (Or.inl (tk_eq.mpr ⟨hq, e⟩)))), if_neg (fun e => h (Or.inr (Or.inr (tk_eq.mpr ⟨hq, e⟩))))]
/-- a digit's answer -/
def dgA (c : Nat → Int32) (n q : Nat) (a b : Int32) : Int32 := if tkP c n q a b then c q - 48 else -9
theorem dgA_y {c : Nat → Int32} {n q : Nat} {a b : Int32} (h : tkP c n q a b) : dgA c n q a b = c q - 48 := if_pos h
theorem dgA_n {c : Nat → Int32} {n q : Nat} {a b : Int32} (h : ¬ tkP c n q a b) : dgA c n q a b = -9 := if_neg h
theorem dgA_9 {c : Nat → Int32} {n q : Nat} {b : Int32} : dgA c n q 48 b = -9 ↔ ¬ tkP c n q 48 b := by
  constructor
  · intro h q
    rw [dgA_y q] at h
    exact dg_n9 q.2.1 h
  · exact dgA_n
theorem dgA_91 {c : Nat → Int32} {n q : Nat} {b : Int32} : dgA c n q 49 b = -9 ↔ ¬ tkP c n q 49 b := by
  constructor
  · intro h q
    rw [dgA_y q] at h
    exact dg_n9 (fun z => q.2.1 (Int32.lt_trans z (by decide))) h
  · exact dgA_n
theorem rdX {n q : Nat} {x : Int32} : (if q < n then rdI x else -9) = rdI (if q < n then x else 0) := by
  split
  · rfl
  · decide
def dgT (τ : Sm) (s n q : Nat) (a b : Int32) : Sm := if tkP (cM τ s) n q a b then tkT τ (s + q) else τ
/-- what is read of a morning -/
def rm1 (τ : Sm) (s n q m : Nat) : Sm := um τ 22 (4 * m) (if q < n then rdI (cM τ s q) else -9)
def rm2 (τ : Sm) (s n q m : Nat) (b : Int32) : Sm := um (dgT (tkT (rm1 τ s n q m) (s + q)) s n (q + 1) 48 b) 22 (4 * m + 1) (dgA (cM τ s) n (q + 1) 48 b)
def rm3 (τ : Sm) (s n q m : Nat) (b : Int32) : Sm := um (dgT (rm2 τ s n q m b) s n (q + 2) 48 57) 22 (4 * m + 2) (dgA (cM τ s) n (q + 2) 48 57)
def rm4 (τ : Sm) (s n q m : Nat) (b : Int32) : Sm := um (dgT (rm3 τ s n q m b) s n (q + 3) 48 57) 22 (4 * m + 3) (dgA (cM τ s) n (q + 3) 48 57)
def rm5 (τ : Sm) (s n q m : Nat) (b : Int32) : Sm := um (rm4 τ s n q m b) 20 0 (nI (m + 1))
def rmS (τ : Sm) (s n q m : Nat) (b : Int32) : Sm := if kdP (cM τ s) n q then (if tkP (cM τ s) n (q + 1) 48 b then (if dgP (cM τ s) n (q + 2) then (if dgP (cM τ s) n (q + 3) then rm5 τ s n q m b else rm4 τ s n q m b) else rm3 τ s n q m b) else rm2 τ s n q m b) else rm1 τ s n q m
theorem cM_tk {τ : Sm} {s x : Nat} : cM (tkT τ x) s = cM τ s := rfl
theorem cM_dg {τ : Sm} {s n q : Nat} {a b : Int32} {s' : Nat} : cM (dgT τ s n q a b) s' = cM τ s' := by
  unfold dgT
  split <;> rfl
theorem cM_22 {τ : Sm} {s i : Nat} {v : Int32} : cM (um τ 22 i v) s = cM τ s := rfl
theorem dg_tk {c : Nat → Int32} {n q : Nat} {b v : Int32} (h : dgA c n q 48 b = v) (hv : ¬ v = -9) : tkP c n q 48 b := by
  refine Decidable.byContradiction (fun z => ?_)
  exact hv (by rw [← h]; exact dgA_n z)

section
variable {D : va_G} {tc : Tc} {B : Nat → Nat} {τ : Sm} {s n q p m P : Nat} {ws : va_W}
set_option maxRecDepth 100000 in
set_option maxHeartbeats 4000000 in
theorem mk_digit (hA : τ 17 0 = nI (s + q)) (hE : s + n ≤ 240) (hq : q ≤ n) {a b : Int32} (lo hi : Int32) (ha : 48 + lo = a) (hb : 48 + hi = b) : Ok 1 yX6_digit cX6_digit 4 (some .int) D tc [.ref (B 0), .int (nI (s + n)), .int lo, .int hi] (mW B tc τ) (some (.int (dgA (cM τ s) n q a b))) (mW B tc (dgT τ s n q a b)) := by
  refine Ok_of RX6 rfl (by decide) [some (.ref (B 0)), some (.int (nI (s + n))), some (.int lo), some (.int hi)] rfl (Nat.le_of_ble_eq_true rfl) ?_
  intro X hX
  refine V_ald0 dX6_digit_0 ?_
  refine V_get lf_X6_96 dX6_digit_1 mW_obj rfl ?_
  refine V_top (y := nI (s + q)) hA ?_
  refine V_ild1 dX6_digit_4 ?_
  refine V_icmp_ge 31 dX6_digit_5 (by decide) (fun c5 => ?_) (fun c5 => ?_)
  · have e : ¬ tkP (cM τ s) n q a b := fun z => nI_ge (by have := z.1; omega) (by omega) c5
    refine V_bipush (-9) dX6_digit_31 (by decide) ?_
    exact V_iret hX dX6_digit_33 rfl (by rw [dgA_n e]) (by rw [dgT, if_neg e])
  · have hqn : q < n := by rw [nI_leI (by omega) (by omega)] at c5; omega
    refine V_ald0 dX6_digit_8 ?_
    refine V_get lf_X6_16 dX6_digit_9 mW_obj rfl ?_
    refine V_ald0 dX6_digit_12 ?_
    refine V_get lf_X6_96 dX6_digit_13 mW_obj rfl ?_
    refine V_top (y := nI (s + q)) hA ?_
    refine V_ialdk dX6_digit_16 mW_a4 ⟨by omega, by decide⟩ ?_
    refine V_bipush 48 dX6_digit_17 (by decide) ?_
    refine V_ild2 dX6_digit_19 ?_
    refine V_iadd dX6_digit_20 ?_
    refine V_bipush 48 dX6_digit_21 (by decide) ?_
    refine V_ild3 dX6_digit_23 ?_
    refine V_iadd dX6_digit_24 ?_
    refine V_callS ls_X6_86 (mk_within _ _ _) dX6_digit_25 (dep hX (by decide)) rfl (Nat.le_of_ble_eq_true rfl) ?_
    refine V_if_ne 34 dX6_digit_28 (by decide) (fun c28 => ?_) (fun c28 => ?_)
    · try rw [b2i_ne] at c28
      try rw [Decidable.not_not] at c28
      have e : tkP (cM τ s) n q a b := ⟨hqn, by rw [← ha]; exact c28.1, by rw [← hb]; exact Int32.not_lt.mp c28.2⟩
      refine V_ald0 dX6_digit_34 ?_
      refine V_dupa dX6_digit_35 ?_
      refine V_get lf_X6_96 dX6_digit_36 mW_obj rfl ?_
      refine V_iconst 1 dX6_digit_39 (by decide) ?_
      refine V_iadd dX6_digit_40 ?_
      refine V_top (y := nI (s + q + 1)) (by rw [hA]; exact nI_1 _) ?_
      refine V_puti lp_X6_96 dX6_digit_41 mW_obj (Nat.le_of_ble_eq_true rfl) (mW_p17 _) ?_
      refine V_ald0 dX6_digit_44 ?_
      refine V_get lf_X6_16 dX6_digit_45 mW_obj rfl ?_
      refine V_ald0 dX6_digit_48 ?_
      refine V_get lf_X6_96 dX6_digit_49 mW_obj rfl ?_
      refine V_iconst 1 dX6_digit_52 (by decide) ?_
      refine V_isub dX6_digit_53 ?_
      refine V_top (y := nI (s + q)) (nI_pred _) ?_
      refine V_ialdk dX6_digit_54 mW_a4 ⟨by omega, by decide⟩ ?_
      refine V_bipush 48 dX6_digit_55 (by decide) ?_
      refine V_isub dX6_digit_57 ?_
      exact V_iret hX dX6_digit_58 rfl (by rw [dgA_y e]; rfl) (by rw [dgT, if_pos e]; rfl)
    · try rw [b2i_eq] at c28
      try rw [Decidable.not_not] at c28
      have e : ¬ tkP (cM τ s) n q a b := fun z => c28 ⟨by rw [ha]; exact z.2.1, by rw [hb]; exact Int32.not_lt.mpr z.2.2⟩
      refine V_bipush (-9) dX6_digit_31 (by decide) ?_
      exact V_iret hX dX6_digit_33 rfl (by rw [dgA_n e]) (by rw [dgT, if_neg e])
set_option maxRecDepth 100000 in
set_option maxHeartbeats 4000000 in
theorem mk_isSign (hA : τ 17 0 = nI (s + q)) (hE : s + n ≤ 240) (hq : q ≤ n) (k : Int32) : Ok 0 yX6_isSign cX6_isSign 3 (some .boolean) D tc [.ref (B 0), .int (nI (s + n)), .int k] (mW B tc τ) (some (.int (b2i (tkP (cM τ s) n q k k)))) (mW B tc (dgT τ s n q k k)) := by
  refine Ok_of RX6 rfl (by decide) [some (.ref (B 0)), some (.int (nI (s + n))), some (.int k)] rfl (Nat.le_of_ble_eq_true rfl) ?_
  intro X hX
  refine V_ald0 dX6_isSign_0 ?_
  refine V_get lf_X6_96 dX6_isSign_1 mW_obj rfl ?_
  refine V_top (y := nI (s + q)) hA ?_
  refine V_ild1 dX6_isSign_4 ?_
  refine V_icmp_ge 21 dX6_isSign_5 (by decide) (fun c5 => ?_) (fun c5 => ?_)
  · have e : ¬ tkP (cM τ s) n q k k := fun z => nI_ge (by have := z.1; omega) (by omega) c5
    refine V_iconst 0 dX6_isSign_21 (by decide) ?_
    exact V_zret hX dX6_isSign_22 rfl (by first | exact Or.inl rfl | exact Or.inr rfl) (by rw [b2i_f e]) (by rw [dgT, if_neg e])
  · have hqn : q < n := by rw [nI_leI (by omega) (by omega)] at c5; omega
    refine V_ald0 dX6_isSign_8 ?_
    refine V_get lf_X6_16 dX6_isSign_9 mW_obj rfl ?_
    refine V_ald0 dX6_isSign_12 ?_
    refine V_get lf_X6_96 dX6_isSign_13 mW_obj rfl ?_
    refine V_top (y := nI (s + q)) hA ?_
    refine V_ialdk dX6_isSign_16 mW_a4 ⟨by omega, by decide⟩ ?_
    refine V_ild2 dX6_isSign_17 ?_
    refine V_icmp_eq 23 dX6_isSign_18 (by decide) (fun c18 => ?_) (fun c18 => ?_)
    · have e : tkP (cM τ s) n q k k := tk_eq.mpr ⟨hqn, c18⟩
      refine V_ald0 dX6_isSign_23 ?_
      refine V_dupa dX6_isSign_24 ?_
      refine V_get lf_X6_96 dX6_isSign_25 mW_obj rfl ?_
      refine V_iconst 1 dX6_isSign_28 (by decide) ?_
      refine V_iadd dX6_isSign_29 ?_
      refine V_top (y := nI (s + q + 1)) (by rw [hA]; exact nI_1 _) ?_
      refine V_puti lp_X6_96 dX6_isSign_30 mW_obj (Nat.le_of_ble_eq_true rfl) (mW_p17 _) ?_
      refine V_iconst 1 dX6_isSign_33 (by decide) ?_
      exact V_zret hX dX6_isSign_34 rfl (by first | exact Or.inl rfl | exact Or.inr rfl) (by rw [b2i_t e]) (by rw [dgT, if_pos e]; rfl)
    · have e : ¬ tkP (cM τ s) n q k k := fun z => c18 (tk_eq.mp z).2
      refine V_iconst 0 dX6_isSign_21 (by decide) ?_
      exact V_zret hX dX6_isSign_22 rfl (by first | exact Or.inl rfl | exact Or.inr rfl) (by rw [b2i_f e]) (by rw [dgT, if_neg e])
set_option maxRecDepth 100000 in
set_option maxHeartbeats 4000000 in
theorem mk_readPerson (hA : τ 17 0 = nI (s + q)) (hE : s + n ≤ 240) (hq : q ≤ n) (hp : τ 19 0 = nI p) (hp4 : p < 4) : Ok 2 yX6_readPerson cX6_readPerson 4 (some .boolean) D tc [.ref (B 0), .int (nI (s + n))] (mW B tc τ) (some (.int (b2i (dgP (cM τ s) n q ∧ dgP (cM τ s) n (q + 1))))) (mW B tc (rpS τ s n q p)) := by
  refine Ok_of RX6 rfl (by decide) [some (.ref (B 0)), some (.int (nI (s + n))), none, none] rfl (Nat.le_of_ble_eq_true rfl) ?_
  intro X hX
  refine V_ald0 dX6_readPerson_0 ?_
  refine V_ild1 dX6_readPerson_1 ?_
  refine V_iconst 0 dX6_readPerson_2 (by decide) ?_
  refine V_bipush 9 dX6_readPerson_3 (by decide) ?_
  refine V_callV lm_X6_142 (mk_digit (a := 48) (b := 57) hA hE hq 0 9 (by decide) (by decide)) dX6_readPerson_5 mW_obj rfl (dep hX (by decide)) rfl (Nat.le_of_ble_eq_true rfl) ?_
  refine V_ist2 dX6_readPerson_8 rfl (by decide) ?_
  refine V_ild2 dX6_readPerson_9 ?_
  refine V_bipush (-9) dX6_readPerson_10 (by decide) ?_
  refine V_icmp_ne 17 dX6_readPerson_12 (by decide) (fun c12 => ?_) (fun c12 => ?_)
  · rw [dgA_9, Decidable.not_not] at c12
    have e1 := c12
    rw [dgT, if_pos c12]
    refine V_ald0 dX6_readPerson_17 ?_
    refine V_ild1 dX6_readPerson_18 ?_
    refine V_iconst 0 dX6_readPerson_19 (by decide) ?_
    refine V_bipush 9 dX6_readPerson_20 (by decide) ?_
    refine V_callV lm_X6_142 (mk_digit (τ := tkT τ (s + q)) (q := q + 1) (a := 48) (b := 57) rfl hE (by have := e1.1; omega) 0 9 (by decide) (by decide)) dX6_readPerson_22 mW_obj rfl (dep hX (by decide)) rfl (Nat.le_of_ble_eq_true rfl) ?_
    refine V_ist3 dX6_readPerson_25 rfl (by decide) ?_
    refine V_ild3 dX6_readPerson_26 ?_
    refine V_bipush (-9) dX6_readPerson_27 (by decide) ?_
    refine V_icmp_ne 34 dX6_readPerson_29 (by decide) (fun c29 => ?_) (fun c29 => ?_)
    · rw [dgA_9, Decidable.not_not] at c29
      have e2 : dgP (cM τ s) n (q + 1) := c29
      rw [dgT, if_pos c29]
      refine V_ald0 dX6_readPerson_34 ?_
      refine V_get lf_X6_44 dX6_readPerson_35 mW_obj rfl ?_
      refine V_ald0 dX6_readPerson_38 ?_
      refine V_get lf_X6_126 dX6_readPerson_39 mW_obj rfl ?_
      refine V_top (y := nI p) hp ?_
      refine V_bipush 10 dX6_readPerson_42 (by decide) ?_
      refine V_ild2 dX6_readPerson_44 ?_
      refine V_imul dX6_readPerson_45 ?_
      refine V_ild3 dX6_readPerson_46 ?_
      refine V_iadd dX6_readPerson_47 ?_
      refine V_iastk dX6_readPerson_48 mW_a21 ⟨by omega, by decide⟩ (mW_a21s _ _) ?_
      refine V_ald0 dX6_readPerson_49 ?_
      refine V_dupa dX6_readPerson_50 ?_
      refine V_get lf_X6_126 dX6_readPerson_51 mW_obj rfl ?_
      refine V_iconst 1 dX6_readPerson_54 (by decide) ?_
      refine V_iadd dX6_readPerson_55 ?_
      refine V_top (y := nI (p + 1)) (by rw [← nI_1, ← hp]; rfl) ?_
      refine V_puti lp_X6_126 dX6_readPerson_56 mW_obj (Nat.le_of_ble_eq_true rfl) (mW_p19 _) ?_
      refine V_iconst 1 dX6_readPerson_59 (by decide) ?_
      exact V_zret hX dX6_readPerson_60 rfl (by first | exact Or.inl rfl | exact Or.inr rfl) (by rw [b2i_t ⟨e1, c29⟩]) (by rw [rpS, if_pos e1, if_pos e2, dgA_y e1, dgA_y c29]; rfl)
    · rw [dgA_9] at c29
      have e2 : ¬ dgP (cM τ s) n (q + 1) := c29
      rw [dgT, if_neg c29]
      refine V_iconst 0 dX6_readPerson_32 (by decide) ?_
      exact V_zret hX dX6_readPerson_33 rfl (by first | exact Or.inl rfl | exact Or.inr rfl) (by rw [b2i_f (fun z => c29 z.2)]) (by rw [rpS, if_pos e1, if_neg e2])
  · rw [dgA_9] at c12
    rw [dgT, if_neg c12]
    refine V_iconst 0 dX6_readPerson_15 (by decide) ?_
    exact V_zret hX dX6_readPerson_16 rfl (by first | exact Or.inl rfl | exact Or.inr rfl) (by rw [b2i_f (fun z => c12 z.1)]) (by rw [rpS, if_neg c12])
theorem rm2_17 {τ : Sm} {s n q m : Nat} {b : Int32} (h : tkP (cM τ s) n (q + 1) 48 b) : rm2 τ s n q m b 17 0 = nI (s + (q + 2)) := by
  unfold rm2 dgT
  rw [if_pos (show tkP (cM (tkT (rm1 τ s n q m) (s + q)) s) n (q + 1) 48 b from h)]
  rfl
theorem rm3_17 {τ : Sm} {s n q m : Nat} {b : Int32} (h : dgP (cM τ s) n (q + 2)) : rm3 τ s n q m b 17 0 = nI (s + (q + 3)) := by
  unfold rm3 dgT
  rw [if_pos (show tkP (cM (rm2 τ s n q m b) s) n (q + 2) 48 57 from by rw [rm2, cM_22, cM_dg]; exact h)]
  rfl
theorem rm4_17 {τ : Sm} {s n q m : Nat} {b : Int32} (h : dgP (cM τ s) n (q + 3)) : rm4 τ s n q m b 17 0 = nI (s + (q + 4)) := by
  unfold rm4 dgT
  rw [if_pos (show tkP (cM (rm3 τ s n q m b) s) n (q + 3) 48 57 from by rw [rm3, cM_22, cM_dg, rm2, cM_22, cM_dg]; exact h)]
  rfl
theorem rm_c1 {τ : Sm} {s n q m : Nat} : cM (tkT (rm1 τ s n q m) (s + q)) s = cM τ s := rfl
theorem rm_c2 {τ : Sm} {s n q m : Nat} {b : Int32} : cM (rm2 τ s n q m b) s = cM τ s := by rw [rm2, cM_22, cM_dg]; rfl
theorem rm_c3 {τ : Sm} {s n q m : Nat} {b : Int32} : cM (rm3 τ s n q m b) s = cM τ s := by rw [rm3, cM_22, cM_dg, rm_c2]
theorem dgT_k {τ : Sm} {s n q k : Nat} {a b : Int32} (h : ¬ k = 17) : dgT τ s n q a b k = τ k := by
  unfold dgT
  split
  · exact um_k h
  · rfl
theorem rm2_k {τ : Sm} {s n q m k : Nat} {b : Int32} (h : ¬ k = 17) (h2 : ¬ k = 22) : rm2 τ s n q m b k = τ k := by
  rw [rm2, um_k h2, dgT_k h, tkT, um_k h, rm1, um_k h2]
theorem rm3_k {τ : Sm} {s n q m k : Nat} {b : Int32} (h : ¬ k = 17) (h2 : ¬ k = 22) : rm3 τ s n q m b k = τ k := by
  rw [rm3, um_k h2, dgT_k h, rm2_k h h2]
theorem rm4_k {τ : Sm} {s n q m k : Nat} {b : Int32} (h : ¬ k = 17) (h2 : ¬ k = 22) : rm4 τ s n q m b k = τ k := by
  rw [rm4, um_k h2, dgT_k h, rm3_k h h2]
set_option maxRecDepth 100000 in
set_option maxHeartbeats 4000000 in
theorem rdm_4 {X : Cx} {b co : Int32} (hE : s + n ≤ 240) (hm : τ 20 0 = nI m) (hm6 : m < 6) (hk : kdP (cM τ s) n q) (hX : Aim X D (some .boolean) 2 (some (.int (b2i (kdP (cM τ s) n q ∧ tkP (cM τ s) n (q + 1) 48 b ∧ dgP (cM τ s) n (q + 2) ∧ dgP (cM τ s) n (q + 3))))) (mW B tc (rmS τ s n q m b))) (h1 : tkP (cM τ s) n (q + 1) 48 b) (h2 : dgP (cM τ s) n (q + 2)) (h3 : dgP (cM τ s) n (q + 3)) : V X D tc cX6_readMorning RX6 5 93 [some (.ref (B 0)), some (.int (nI (s + n))), some (.int co), some (.int (nI (4 * m))), some (.int (nI 4))] [] (mW B tc (rm4 τ s n q m b)) := by
  refine V_ild4 dX6_readMorning_93 ?_
  refine V_iconst 4 dX6_readMorning_95 (by decide) ?_
  refine V_icmp_ge 153 dX6_readMorning_96 (by decide) (fun c96 => ?_) (fun c96 => ?_)
  · refine V_ald0 dX6_readMorning_153 ?_
    refine V_dupa dX6_readMorning_154 ?_
    refine V_get lf_X6_132 dX6_readMorning_155 mW_obj rfl ?_
    refine V_iconst 1 dX6_readMorning_158 (by decide) ?_
    refine V_iadd dX6_readMorning_159 ?_
    refine V_top (y := nI (m + 1)) (by rw [← nI_1, ← hm]; exact congrArg (· + 1) (congrFun (rm4_k (by decide) (by decide)) 0)) ?_
    refine V_puti lp_X6_132 dX6_readMorning_160 mW_obj (Nat.le_of_ble_eq_true rfl) (mW_p20 _) ?_
    refine V_iconst 1 dX6_readMorning_163 (by decide) ?_
    exact V_zret hX dX6_readMorning_164 rfl (by first | exact Or.inl rfl | exact Or.inr rfl) (by rw [b2i_t ⟨hk, h1, h2, h3⟩]) (by rw [rmS, if_pos hk, if_pos h1, if_pos h2, if_pos h3]; rfl)
  · exact absurd (by decide) c96
set_option maxRecDepth 100000 in
set_option maxHeartbeats 4000000 in
theorem rdm_3 {X : Cx} {b co : Int32} (hE : s + n ≤ 240) (hm : τ 20 0 = nI m) (hm6 : m < 6) (hk : kdP (cM τ s) n q) (hX : Aim X D (some .boolean) 2 (some (.int (b2i (kdP (cM τ s) n q ∧ tkP (cM τ s) n (q + 1) 48 b ∧ dgP (cM τ s) n (q + 2) ∧ dgP (cM τ s) n (q + 3))))) (mW B tc (rmS τ s n q m b))) (h1 : tkP (cM τ s) n (q + 1) 48 b) (h2 : dgP (cM τ s) n (q + 2)) : V X D tc cX6_readMorning RX6 5 93 [some (.ref (B 0)), some (.int (nI (s + n))), some (.int co), some (.int (nI (4 * m))), some (.int (nI 3))] [] (mW B tc (rm3 τ s n q m b)) := by
  refine V_ild4 dX6_readMorning_93 ?_
  refine V_iconst 4 dX6_readMorning_95 (by decide) ?_
  refine V_icmp_ge 153 dX6_readMorning_96 (by decide) (fun c96 => ?_) (fun c96 => ?_)
  · exact absurd c96 (by decide)
  · refine V_ald0 dX6_readMorning_99 ?_
    refine V_get lf_X6_47 dX6_readMorning_100 mW_obj rfl ?_
    refine V_ild3 dX6_readMorning_103 ?_
    refine V_ild4 dX6_readMorning_104 ?_
    refine V_iadd dX6_readMorning_106 ?_
    refine V_top (y := nI (4 * m + 3)) (by first | exact nI_add _ _ | exact nI_add _ _) ?_
    refine V_ald0 dX6_readMorning_107 ?_
    refine V_ild1 dX6_readMorning_108 ?_
    refine V_iconst 0 dX6_readMorning_109 (by decide) ?_
    refine V_ild4 dX6_readMorning_110 ?_
    refine V_iconst 1 dX6_readMorning_112 (by decide) ?_
    refine V_icmp_ne 125 dX6_readMorning_113 (by decide) (fun c113 => ?_) (fun c113 => ?_)
    · refine V_bipush 9 dX6_readMorning_125 (by decide) ?_
      refine V_callV lm_X6_142 (mk_digit (τ := rm3 τ s n q m b) (q := q + 3) (a := 48) (b := 57) (rm3_17 h2) hE (by have := h2.1; omega) 0 9 (by decide) (by decide)) dX6_readMorning_127 mW_obj rfl (dep hX (by decide)) rfl (Nat.le_of_ble_eq_true rfl) ?_
      refine V_top (y := dgA (cM τ s) n (q + 3) 48 57) (by rw [rm_c3]) ?_
      refine V_iastk dX6_readMorning_130 mW_a22 ⟨by omega, by decide⟩ (mW_a22s _ _) ?_
      refine V_ald0 dX6_readMorning_131 ?_
      refine V_get lf_X6_47 dX6_readMorning_132 mW_obj rfl ?_
      refine V_ild3 dX6_readMorning_135 ?_
      refine V_ild4 dX6_readMorning_136 ?_
      refine V_iadd dX6_readMorning_138 ?_
      refine V_top (y := nI (4 * m + 3)) (by first | exact nI_add _ _ | exact nI_add _ _) ?_
      refine V_ialdk dX6_readMorning_139 mW_a22 ⟨by omega, by decide⟩ ?_
      refine V_top (y := dgA (cM τ s) n (q + 3) 48 57) (by first | exact um_eq | (show um _ _ _ _ 22 (4 * m + 3) = _; exact um_eq)) ?_
      refine V_bipush (-9) dX6_readMorning_140 (by decide) ?_
      refine V_icmp_ne 147 dX6_readMorning_142 (by decide) (fun c142 => ?_) (fun c142 => ?_)
      · rw [dgA_9, Decidable.not_not] at c142
        refine V_inc4 (nI 4) dX6_readMorning_147 (by decide) rfl (by decide) ?_
        refine V_goto 93 dX6_readMorning_150 (by decide) ?_
        exact rdm_4 hE hm hm6 hk hX h1 h2 c142
      · rw [dgA_9] at c142
        refine V_iconst 0 dX6_readMorning_145 (by decide) ?_
        exact V_zret hX dX6_readMorning_146 rfl (by first | exact Or.inl rfl | exact Or.inr rfl) (by rw [b2i_f (fun z => c142 z.2.2.2)]) (by rw [rmS, if_pos hk, if_pos h1, if_pos h2, if_neg c142]; rfl)
    · exact absurd c113 (by decide)
set_option maxRecDepth 100000 in
set_option maxHeartbeats 4000000 in
theorem rdm_2 {X : Cx} {b co : Int32} (hE : s + n ≤ 240) (hm : τ 20 0 = nI m) (hm6 : m < 6) (hk : kdP (cM τ s) n q) (hX : Aim X D (some .boolean) 2 (some (.int (b2i (kdP (cM τ s) n q ∧ tkP (cM τ s) n (q + 1) 48 b ∧ dgP (cM τ s) n (q + 2) ∧ dgP (cM τ s) n (q + 3))))) (mW B tc (rmS τ s n q m b))) (h1 : tkP (cM τ s) n (q + 1) 48 b) : V X D tc cX6_readMorning RX6 5 93 [some (.ref (B 0)), some (.int (nI (s + n))), some (.int co), some (.int (nI (4 * m))), some (.int (nI 2))] [] (mW B tc (rm2 τ s n q m b)) := by
  refine V_ild4 dX6_readMorning_93 ?_
  refine V_iconst 4 dX6_readMorning_95 (by decide) ?_
  refine V_icmp_ge 153 dX6_readMorning_96 (by decide) (fun c96 => ?_) (fun c96 => ?_)
  · exact absurd c96 (by decide)
  · refine V_ald0 dX6_readMorning_99 ?_
    refine V_get lf_X6_47 dX6_readMorning_100 mW_obj rfl ?_
    refine V_ild3 dX6_readMorning_103 ?_
    refine V_ild4 dX6_readMorning_104 ?_
    refine V_iadd dX6_readMorning_106 ?_
    refine V_top (y := nI (4 * m + 2)) (by first | exact nI_add _ _ | exact nI_add _ _) ?_
    refine V_ald0 dX6_readMorning_107 ?_
    refine V_ild1 dX6_readMorning_108 ?_
    refine V_iconst 0 dX6_readMorning_109 (by decide) ?_
    refine V_ild4 dX6_readMorning_110 ?_
    refine V_iconst 1 dX6_readMorning_112 (by decide) ?_
    refine V_icmp_ne 125 dX6_readMorning_113 (by decide) (fun c113 => ?_) (fun c113 => ?_)
    · refine V_bipush 9 dX6_readMorning_125 (by decide) ?_
      refine V_callV lm_X6_142 (mk_digit (τ := rm2 τ s n q m b) (q := q + 2) (a := 48) (b := 57) (rm2_17 h1) hE (by have := h1.1; omega) 0 9 (by decide) (by decide)) dX6_readMorning_127 mW_obj rfl (dep hX (by decide)) rfl (Nat.le_of_ble_eq_true rfl) ?_
      refine V_top (y := dgA (cM τ s) n (q + 2) 48 57) (by rw [rm_c2]) ?_
      refine V_iastk dX6_readMorning_130 mW_a22 ⟨by omega, by decide⟩ (mW_a22s _ _) ?_
      refine V_ald0 dX6_readMorning_131 ?_
      refine V_get lf_X6_47 dX6_readMorning_132 mW_obj rfl ?_
      refine V_ild3 dX6_readMorning_135 ?_
      refine V_ild4 dX6_readMorning_136 ?_
      refine V_iadd dX6_readMorning_138 ?_
      refine V_top (y := nI (4 * m + 2)) (by first | exact nI_add _ _ | exact nI_add _ _) ?_
      refine V_ialdk dX6_readMorning_139 mW_a22 ⟨by omega, by decide⟩ ?_
      refine V_top (y := dgA (cM τ s) n (q + 2) 48 57) (by first | exact um_eq | (show um _ _ _ _ 22 (4 * m + 2) = _; exact um_eq)) ?_
      refine V_bipush (-9) dX6_readMorning_140 (by decide) ?_
      refine V_icmp_ne 147 dX6_readMorning_142 (by decide) (fun c142 => ?_) (fun c142 => ?_)
      · rw [dgA_9, Decidable.not_not] at c142
        refine V_inc4 (nI 3) dX6_readMorning_147 (by decide) rfl (by decide) ?_
        refine V_goto 93 dX6_readMorning_150 (by decide) ?_
        exact rdm_3 hE hm hm6 hk hX h1 c142
      · rw [dgA_9] at c142
        refine V_iconst 0 dX6_readMorning_145 (by decide) ?_
        exact V_zret hX dX6_readMorning_146 rfl (by first | exact Or.inl rfl | exact Or.inr rfl) (by rw [b2i_f (fun z => c142 z.2.2.1)]) (by rw [rmS, if_pos hk, if_pos h1, if_neg c142]; rfl)
    · exact absurd c113 (by decide)
set_option maxRecDepth 100000 in
set_option maxHeartbeats 4000000 in
theorem rdm_1 {X : Cx} {b co : Int32} (hE : s + n ≤ 240) (hm : τ 20 0 = nI m) (hm6 : m < 6) (hk : kdP (cM τ s) n q) (hX : Aim X D (some .boolean) 2 (some (.int (b2i (kdP (cM τ s) n q ∧ tkP (cM τ s) n (q + 1) 48 b ∧ dgP (cM τ s) n (q + 2) ∧ dgP (cM τ s) n (q + 3))))) (mW B tc (rmS τ s n q m b))) (hp : τ 19 0 = nI P) (hb : 48 + (nI P - 1) = b) : V X D tc cX6_readMorning RX6 5 93 [some (.ref (B 0)), some (.int (nI (s + n))), some (.int co), some (.int (nI (4 * m))), some (.int (nI 1))] [] (mW B tc (tkT (rm1 τ s n q m) (s + q))) := by
  refine V_ild4 dX6_readMorning_93 ?_
  refine V_iconst 4 dX6_readMorning_95 (by decide) ?_
  refine V_icmp_ge 153 dX6_readMorning_96 (by decide) (fun c96 => ?_) (fun c96 => ?_)
  · exact absurd c96 (by decide)
  · refine V_ald0 dX6_readMorning_99 ?_
    refine V_get lf_X6_47 dX6_readMorning_100 mW_obj rfl ?_
    refine V_ild3 dX6_readMorning_103 ?_
    refine V_ild4 dX6_readMorning_104 ?_
    refine V_iadd dX6_readMorning_106 ?_
    refine V_top (y := nI (4 * m + 1)) (by first | exact nI_add _ _ | exact nI_add _ _) ?_
    refine V_ald0 dX6_readMorning_107 ?_
    refine V_ild1 dX6_readMorning_108 ?_
    refine V_iconst 0 dX6_readMorning_109 (by decide) ?_
    refine V_ild4 dX6_readMorning_110 ?_
    refine V_iconst 1 dX6_readMorning_112 (by decide) ?_
    refine V_icmp_ne 125 dX6_readMorning_113 (by decide) (fun c113 => ?_) (fun c113 => ?_)
    · exact absurd rfl c113
    · refine V_ald0 dX6_readMorning_116 ?_
      refine V_get lf_X6_126 dX6_readMorning_117 mW_obj rfl ?_
      refine V_top (y := nI P) hp ?_
      refine V_iconst 1 dX6_readMorning_120 (by decide) ?_
      refine V_isub dX6_readMorning_121 ?_
      refine V_goto 127 dX6_readMorning_122 (by decide) ?_
      refine V_callV lm_X6_142 (mk_digit (τ := tkT (rm1 τ s n q m) (s + q)) (q := q + 1) (a := 48) (b := b) rfl hE (by have := (kd_y hk).1; omega) 0 (nI P - 1) (by decide) hb) dX6_readMorning_127 mW_obj rfl (dep hX (by decide)) rfl (Nat.le_of_ble_eq_true rfl) ?_
      refine V_iastk dX6_readMorning_130 mW_a22 ⟨by omega, by decide⟩ (mW_a22s _ _) ?_
      refine V_ald0 dX6_readMorning_131 ?_
      refine V_get lf_X6_47 dX6_readMorning_132 mW_obj rfl ?_
      refine V_ild3 dX6_readMorning_135 ?_
      refine V_ild4 dX6_readMorning_136 ?_
      refine V_iadd dX6_readMorning_138 ?_
      refine V_top (y := nI (4 * m + 1)) (by first | exact nI_add _ _ | exact nI_add _ _) ?_
      refine V_ialdk dX6_readMorning_139 mW_a22 ⟨by omega, by decide⟩ ?_
      refine V_top (y := dgA (cM τ s) n (q + 1) 48 b) (by first | exact um_eq | (show um _ _ _ _ 22 (4 * m + 1) = _; exact um_eq)) ?_
      refine V_bipush (-9) dX6_readMorning_140 (by decide) ?_
      refine V_icmp_ne 147 dX6_readMorning_142 (by decide) (fun c142 => ?_) (fun c142 => ?_)
      · rw [dgA_9, Decidable.not_not] at c142
        refine V_inc4 (nI 2) dX6_readMorning_147 (by decide) rfl (by decide) ?_
        refine V_goto 93 dX6_readMorning_150 (by decide) ?_
        exact rdm_2 hE hm hm6 hk hX c142
      · rw [dgA_9] at c142
        refine V_iconst 0 dX6_readMorning_145 (by decide) ?_
        exact V_zret hX dX6_readMorning_146 rfl (by first | exact Or.inl rfl | exact Or.inr rfl) (by rw [b2i_f (fun z => c142 z.2.1)]) (by rw [rmS, if_pos hk, if_neg c142]; rfl)
set_option maxRecDepth 100000 in
set_option maxHeartbeats 4000000 in
theorem mk_readMorning (hA : τ 17 0 = nI (s + q)) (hE : s + n ≤ 240) (hq : q ≤ n) (hp : τ 19 0 = nI P) {b : Int32} (hb : 48 + (nI P - 1) = b) (hm : τ 20 0 = nI m) (hm6 : m < 6) : Ok 2 yX6_readMorning cX6_readMorning 5 (some .boolean) D tc [.ref (B 0), .int (nI (s + n))] (mW B tc τ) (some (.int (b2i (kdP (cM τ s) n q ∧ tkP (cM τ s) n (q + 1) 48 b ∧ dgP (cM τ s) n (q + 2) ∧ dgP (cM τ s) n (q + 3))))) (mW B tc (rmS τ s n q m b)) := by
  refine Ok_of RX6 rfl (by decide) [some (.ref (B 0)), some (.int (nI (s + n))), none, none, none] rfl (Nat.le_of_ble_eq_true rfl) ?_
  intro X hX
  refine V_ald0 dX6_readMorning_0 ?_
  refine V_get lf_X6_96 dX6_readMorning_1 mW_obj rfl ?_
  refine V_top (y := nI (s + q)) hA ?_
  refine V_ild1 dX6_readMorning_4 ?_
  refine V_icmp_ge 20 dX6_readMorning_5 (by decide) (fun c5 => ?_) (fun c5 => ?_)
  · have hqn : ¬ q < n := fun z => nI_ge (by omega) (by omega) c5
    have hk : ¬ kdP (cM τ s) n q := fun z => hqn (kd_y z).1
    refine V_iconst 0 dX6_readMorning_20 (by decide) ?_
    refine V_top (y := if q < n then cM τ s q else 0) (by first | (rw [if_pos hqn]; rfl) | rw [if_neg hqn]) ?_
    refine V_ist2 dX6_readMorning_21 rfl (by decide) ?_
    refine V_iconst 4 dX6_readMorning_22 (by decide) ?_
    refine V_ald0 dX6_readMorning_23 ?_
    refine V_get lf_X6_132 dX6_readMorning_24 mW_obj rfl ?_
    refine V_top (y := nI m) hm ?_
    refine V_imul dX6_readMorning_27 ?_
    refine V_top (y := nI (4 * m)) (pk_mul 4 m) ?_
    refine V_ist3 dX6_readMorning_28 rfl (by decide) ?_
    refine V_ald0 dX6_readMorning_29 ?_
    refine V_get lf_X6_47 dX6_readMorning_30 mW_obj rfl ?_
    refine V_ild3 dX6_readMorning_33 ?_
    refine V_ild2 dX6_readMorning_34 ?_
    refine V_bipush 99 dX6_readMorning_35 (by decide) ?_
    refine V_icmp_ne 44 dX6_readMorning_37 (by decide) (fun c37 => ?_) (fun c37 => ?_)
    · refine V_ild2 dX6_readMorning_44 ?_
      refine V_bipush 102 dX6_readMorning_45 (by decide) ?_
      refine V_icmp_ne 54 dX6_readMorning_47 (by decide) (fun c47 => ?_) (fun c47 => ?_)
      · refine V_ild2 dX6_readMorning_54 ?_
        refine V_bipush 112 dX6_readMorning_55 (by decide) ?_
        refine V_icmp_ne 64 dX6_readMorning_57 (by decide) (fun c57 => ?_) (fun c57 => ?_)
        · have hrd : (-9 : Int32) = (if q < n then rdI (cM τ s q) else -9) := by rw [rdX, rdI]; rw [if_neg c37, if_neg c47, if_neg c57]
          refine V_bipush (-9) dX6_readMorning_64 (by decide) ?_
          refine V_top (y := if q < n then rdI (cM τ s q) else -9) hrd ?_
          refine V_iastk dX6_readMorning_66 mW_a22 ⟨by omega, by decide⟩ (mW_a22s _ _) ?_
          refine V_ald0 dX6_readMorning_67 ?_
          refine V_get lf_X6_47 dX6_readMorning_68 mW_obj rfl ?_
          refine V_ild3 dX6_readMorning_71 ?_
          refine V_ialdk dX6_readMorning_72 mW_a22 ⟨by omega, by decide⟩ ?_
          refine V_top (y := if q < n then rdI (cM τ s q) else -9) um_eq ?_
          refine V_bipush (-9) dX6_readMorning_73 (by decide) ?_
          refine V_icmp_ne 80 dX6_readMorning_75 (by decide) (fun c75 => ?_) (fun c75 => ?_)
          · have hqn : q < n := Decidable.byContradiction (fun z => c75 (if_neg z))
            have hk : kdP (cM τ s) n q := Decidable.byContradiction (fun z => c75 ((if_pos hqn).trans (kd_n hqn z)))
            refine V_ald0 dX6_readMorning_80 ?_
            refine V_dupa dX6_readMorning_81 ?_
            refine V_get lf_X6_96 dX6_readMorning_82 mW_obj rfl ?_
            refine V_iconst 1 dX6_readMorning_85 (by decide) ?_
            refine V_iadd dX6_readMorning_86 ?_
            refine V_top (y := nI (s + q + 1)) (by rw [show um τ 22 (4 * m) (if q < n then rdI (cM τ s q) else -9) 17 0 = nI (s + q) from hA]; exact nI_1 _) ?_
            refine V_puti lp_X6_96 dX6_readMorning_87 mW_obj (Nat.le_of_ble_eq_true rfl) (mW_p17 _) ?_
            refine V_iconst 1 dX6_readMorning_90 (by decide) ?_
            refine V_ist4 dX6_readMorning_91 rfl (by decide) ?_
            exact rdm_1 hE hm hm6 hk hX hp hb
          · have hk : ¬ kdP (cM τ s) n q := by
              intro z
              rw [if_pos (kd_y z).1] at c75
              exact (kd_y z).2.2 c75
            refine V_iconst 0 dX6_readMorning_78 (by decide) ?_
            exact V_zret hX dX6_readMorning_79 rfl (by first | exact Or.inl rfl | exact Or.inr rfl) (by rw [b2i_f (fun z => hk z.1)]) (by rw [rmS, if_neg hk]; rfl)
        · have hrd : (2 : Int32) = (if q < n then rdI (cM τ s q) else -9) := by rw [rdX, rdI]; rw [if_neg c37, if_neg c47, if_pos c57]
          refine V_iconst 2 dX6_readMorning_60 (by decide) ?_
          refine V_goto 66 dX6_readMorning_61 (by decide) ?_
          refine V_top (y := if q < n then rdI (cM τ s q) else -9) hrd ?_
          refine V_iastk dX6_readMorning_66 mW_a22 ⟨by omega, by decide⟩ (mW_a22s _ _) ?_
          refine V_ald0 dX6_readMorning_67 ?_
          refine V_get lf_X6_47 dX6_readMorning_68 mW_obj rfl ?_
          refine V_ild3 dX6_readMorning_71 ?_
          refine V_ialdk dX6_readMorning_72 mW_a22 ⟨by omega, by decide⟩ ?_
          refine V_top (y := if q < n then rdI (cM τ s q) else -9) um_eq ?_
          refine V_bipush (-9) dX6_readMorning_73 (by decide) ?_
          refine V_icmp_ne 80 dX6_readMorning_75 (by decide) (fun c75 => ?_) (fun c75 => ?_)
          · have hqn : q < n := Decidable.byContradiction (fun z => c75 (if_neg z))
            have hk : kdP (cM τ s) n q := Decidable.byContradiction (fun z => c75 ((if_pos hqn).trans (kd_n hqn z)))
            refine V_ald0 dX6_readMorning_80 ?_
            refine V_dupa dX6_readMorning_81 ?_
            refine V_get lf_X6_96 dX6_readMorning_82 mW_obj rfl ?_
            refine V_iconst 1 dX6_readMorning_85 (by decide) ?_
            refine V_iadd dX6_readMorning_86 ?_
            refine V_top (y := nI (s + q + 1)) (by rw [show um τ 22 (4 * m) (if q < n then rdI (cM τ s q) else -9) 17 0 = nI (s + q) from hA]; exact nI_1 _) ?_
            refine V_puti lp_X6_96 dX6_readMorning_87 mW_obj (Nat.le_of_ble_eq_true rfl) (mW_p17 _) ?_
            refine V_iconst 1 dX6_readMorning_90 (by decide) ?_
            refine V_ist4 dX6_readMorning_91 rfl (by decide) ?_
            exact rdm_1 hE hm hm6 hk hX hp hb
          · have hk : ¬ kdP (cM τ s) n q := by
              intro z
              rw [if_pos (kd_y z).1] at c75
              exact (kd_y z).2.2 c75
            refine V_iconst 0 dX6_readMorning_78 (by decide) ?_
            exact V_zret hX dX6_readMorning_79 rfl (by first | exact Or.inl rfl | exact Or.inr rfl) (by rw [b2i_f (fun z => hk z.1)]) (by rw [rmS, if_neg hk]; rfl)
      · have hrd : (1 : Int32) = (if q < n then rdI (cM τ s q) else -9) := by rw [rdX, rdI]; rw [if_neg c37, if_pos c47]
        refine V_iconst 1 dX6_readMorning_50 (by decide) ?_
        refine V_goto 66 dX6_readMorning_51 (by decide) ?_
        refine V_top (y := if q < n then rdI (cM τ s q) else -9) hrd ?_
        refine V_iastk dX6_readMorning_66 mW_a22 ⟨by omega, by decide⟩ (mW_a22s _ _) ?_
        refine V_ald0 dX6_readMorning_67 ?_
        refine V_get lf_X6_47 dX6_readMorning_68 mW_obj rfl ?_
        refine V_ild3 dX6_readMorning_71 ?_
        refine V_ialdk dX6_readMorning_72 mW_a22 ⟨by omega, by decide⟩ ?_
        refine V_top (y := if q < n then rdI (cM τ s q) else -9) um_eq ?_
        refine V_bipush (-9) dX6_readMorning_73 (by decide) ?_
        refine V_icmp_ne 80 dX6_readMorning_75 (by decide) (fun c75 => ?_) (fun c75 => ?_)
        · have hqn : q < n := Decidable.byContradiction (fun z => c75 (if_neg z))
          have hk : kdP (cM τ s) n q := Decidable.byContradiction (fun z => c75 ((if_pos hqn).trans (kd_n hqn z)))
          refine V_ald0 dX6_readMorning_80 ?_
          refine V_dupa dX6_readMorning_81 ?_
          refine V_get lf_X6_96 dX6_readMorning_82 mW_obj rfl ?_
          refine V_iconst 1 dX6_readMorning_85 (by decide) ?_
          refine V_iadd dX6_readMorning_86 ?_
          refine V_top (y := nI (s + q + 1)) (by rw [show um τ 22 (4 * m) (if q < n then rdI (cM τ s q) else -9) 17 0 = nI (s + q) from hA]; exact nI_1 _) ?_
          refine V_puti lp_X6_96 dX6_readMorning_87 mW_obj (Nat.le_of_ble_eq_true rfl) (mW_p17 _) ?_
          refine V_iconst 1 dX6_readMorning_90 (by decide) ?_
          refine V_ist4 dX6_readMorning_91 rfl (by decide) ?_
          exact rdm_1 hE hm hm6 hk hX hp hb
        · have hk : ¬ kdP (cM τ s) n q := by
            intro z
            rw [if_pos (kd_y z).1] at c75
            exact (kd_y z).2.2 c75
          refine V_iconst 0 dX6_readMorning_78 (by decide) ?_
          exact V_zret hX dX6_readMorning_79 rfl (by first | exact Or.inl rfl | exact Or.inr rfl) (by rw [b2i_f (fun z => hk z.1)]) (by rw [rmS, if_neg hk]; rfl)
    · have hrd : (0 : Int32) = (if q < n then rdI (cM τ s q) else -9) := by rw [rdX, rdI]; rw [if_pos c37]
      refine V_iconst 0 dX6_readMorning_40 (by decide) ?_
      refine V_goto 66 dX6_readMorning_41 (by decide) ?_
      refine V_top (y := if q < n then rdI (cM τ s q) else -9) hrd ?_
      refine V_iastk dX6_readMorning_66 mW_a22 ⟨by omega, by decide⟩ (mW_a22s _ _) ?_
      refine V_ald0 dX6_readMorning_67 ?_
      refine V_get lf_X6_47 dX6_readMorning_68 mW_obj rfl ?_
      refine V_ild3 dX6_readMorning_71 ?_
      refine V_ialdk dX6_readMorning_72 mW_a22 ⟨by omega, by decide⟩ ?_
      refine V_top (y := if q < n then rdI (cM τ s q) else -9) um_eq ?_
      refine V_bipush (-9) dX6_readMorning_73 (by decide) ?_
      refine V_icmp_ne 80 dX6_readMorning_75 (by decide) (fun c75 => ?_) (fun c75 => ?_)
      · have hqn : q < n := Decidable.byContradiction (fun z => c75 (if_neg z))
        have hk : kdP (cM τ s) n q := Decidable.byContradiction (fun z => c75 ((if_pos hqn).trans (kd_n hqn z)))
        refine V_ald0 dX6_readMorning_80 ?_
        refine V_dupa dX6_readMorning_81 ?_
        refine V_get lf_X6_96 dX6_readMorning_82 mW_obj rfl ?_
        refine V_iconst 1 dX6_readMorning_85 (by decide) ?_
        refine V_iadd dX6_readMorning_86 ?_
        refine V_top (y := nI (s + q + 1)) (by rw [show um τ 22 (4 * m) (if q < n then rdI (cM τ s q) else -9) 17 0 = nI (s + q) from hA]; exact nI_1 _) ?_
        refine V_puti lp_X6_96 dX6_readMorning_87 mW_obj (Nat.le_of_ble_eq_true rfl) (mW_p17 _) ?_
        refine V_iconst 1 dX6_readMorning_90 (by decide) ?_
        refine V_ist4 dX6_readMorning_91 rfl (by decide) ?_
        exact rdm_1 hE hm hm6 hk hX hp hb
      · have hk : ¬ kdP (cM τ s) n q := by
          intro z
          rw [if_pos (kd_y z).1] at c75
          exact (kd_y z).2.2 c75
        refine V_iconst 0 dX6_readMorning_78 (by decide) ?_
        exact V_zret hX dX6_readMorning_79 rfl (by first | exact Or.inl rfl | exact Or.inr rfl) (by rw [b2i_f (fun z => hk z.1)]) (by rw [rmS, if_neg hk]; rfl)
  · have hqn : q < n := by rw [nI_leI (by omega) (by omega)] at c5; omega
    refine V_ald0 dX6_readMorning_8 ?_
    refine V_get lf_X6_16 dX6_readMorning_9 mW_obj rfl ?_
    refine V_ald0 dX6_readMorning_12 ?_
    refine V_get lf_X6_96 dX6_readMorning_13 mW_obj rfl ?_
    refine V_top (y := nI (s + q)) hA ?_
    refine V_ialdk dX6_readMorning_16 mW_a4 ⟨by omega, by decide⟩ ?_
    refine V_goto 21 dX6_readMorning_17 (by decide) ?_
    refine V_top (y := if q < n then cM τ s q else 0) (by first | (rw [if_pos hqn]; rfl) | rw [if_neg hqn]) ?_
    refine V_ist2 dX6_readMorning_21 rfl (by decide) ?_
    refine V_iconst 4 dX6_readMorning_22 (by decide) ?_
    refine V_ald0 dX6_readMorning_23 ?_
    refine V_get lf_X6_132 dX6_readMorning_24 mW_obj rfl ?_
    refine V_top (y := nI m) hm ?_
    refine V_imul dX6_readMorning_27 ?_
    refine V_top (y := nI (4 * m)) (pk_mul 4 m) ?_
    refine V_ist3 dX6_readMorning_28 rfl (by decide) ?_
    refine V_ald0 dX6_readMorning_29 ?_
    refine V_get lf_X6_47 dX6_readMorning_30 mW_obj rfl ?_
    refine V_ild3 dX6_readMorning_33 ?_
    refine V_ild2 dX6_readMorning_34 ?_
    refine V_bipush 99 dX6_readMorning_35 (by decide) ?_
    refine V_icmp_ne 44 dX6_readMorning_37 (by decide) (fun c37 => ?_) (fun c37 => ?_)
    · refine V_ild2 dX6_readMorning_44 ?_
      refine V_bipush 102 dX6_readMorning_45 (by decide) ?_
      refine V_icmp_ne 54 dX6_readMorning_47 (by decide) (fun c47 => ?_) (fun c47 => ?_)
      · refine V_ild2 dX6_readMorning_54 ?_
        refine V_bipush 112 dX6_readMorning_55 (by decide) ?_
        refine V_icmp_ne 64 dX6_readMorning_57 (by decide) (fun c57 => ?_) (fun c57 => ?_)
        · have hrd : (-9 : Int32) = (if q < n then rdI (cM τ s q) else -9) := by rw [rdX, rdI]; rw [if_neg c37, if_neg c47, if_neg c57]
          refine V_bipush (-9) dX6_readMorning_64 (by decide) ?_
          refine V_top (y := if q < n then rdI (cM τ s q) else -9) hrd ?_
          refine V_iastk dX6_readMorning_66 mW_a22 ⟨by omega, by decide⟩ (mW_a22s _ _) ?_
          refine V_ald0 dX6_readMorning_67 ?_
          refine V_get lf_X6_47 dX6_readMorning_68 mW_obj rfl ?_
          refine V_ild3 dX6_readMorning_71 ?_
          refine V_ialdk dX6_readMorning_72 mW_a22 ⟨by omega, by decide⟩ ?_
          refine V_top (y := if q < n then rdI (cM τ s q) else -9) um_eq ?_
          refine V_bipush (-9) dX6_readMorning_73 (by decide) ?_
          refine V_icmp_ne 80 dX6_readMorning_75 (by decide) (fun c75 => ?_) (fun c75 => ?_)
          · have hqn : q < n := Decidable.byContradiction (fun z => c75 (if_neg z))
            have hk : kdP (cM τ s) n q := Decidable.byContradiction (fun z => c75 ((if_pos hqn).trans (kd_n hqn z)))
            refine V_ald0 dX6_readMorning_80 ?_
            refine V_dupa dX6_readMorning_81 ?_
            refine V_get lf_X6_96 dX6_readMorning_82 mW_obj rfl ?_
            refine V_iconst 1 dX6_readMorning_85 (by decide) ?_
            refine V_iadd dX6_readMorning_86 ?_
            refine V_top (y := nI (s + q + 1)) (by rw [show um τ 22 (4 * m) (if q < n then rdI (cM τ s q) else -9) 17 0 = nI (s + q) from hA]; exact nI_1 _) ?_
            refine V_puti lp_X6_96 dX6_readMorning_87 mW_obj (Nat.le_of_ble_eq_true rfl) (mW_p17 _) ?_
            refine V_iconst 1 dX6_readMorning_90 (by decide) ?_
            refine V_ist4 dX6_readMorning_91 rfl (by decide) ?_
            exact rdm_1 hE hm hm6 hk hX hp hb
          · have hk : ¬ kdP (cM τ s) n q := by
              intro z
              rw [if_pos (kd_y z).1] at c75
              exact (kd_y z).2.2 c75
            refine V_iconst 0 dX6_readMorning_78 (by decide) ?_
            exact V_zret hX dX6_readMorning_79 rfl (by first | exact Or.inl rfl | exact Or.inr rfl) (by rw [b2i_f (fun z => hk z.1)]) (by rw [rmS, if_neg hk]; rfl)
        · have hrd : (2 : Int32) = (if q < n then rdI (cM τ s q) else -9) := by rw [rdX, rdI]; rw [if_neg c37, if_neg c47, if_pos c57]
          refine V_iconst 2 dX6_readMorning_60 (by decide) ?_
          refine V_goto 66 dX6_readMorning_61 (by decide) ?_
          refine V_top (y := if q < n then rdI (cM τ s q) else -9) hrd ?_
          refine V_iastk dX6_readMorning_66 mW_a22 ⟨by omega, by decide⟩ (mW_a22s _ _) ?_
          refine V_ald0 dX6_readMorning_67 ?_
          refine V_get lf_X6_47 dX6_readMorning_68 mW_obj rfl ?_
          refine V_ild3 dX6_readMorning_71 ?_
          refine V_ialdk dX6_readMorning_72 mW_a22 ⟨by omega, by decide⟩ ?_
          refine V_top (y := if q < n then rdI (cM τ s q) else -9) um_eq ?_
          refine V_bipush (-9) dX6_readMorning_73 (by decide) ?_
          refine V_icmp_ne 80 dX6_readMorning_75 (by decide) (fun c75 => ?_) (fun c75 => ?_)
          · have hqn : q < n := Decidable.byContradiction (fun z => c75 (if_neg z))
            have hk : kdP (cM τ s) n q := Decidable.byContradiction (fun z => c75 ((if_pos hqn).trans (kd_n hqn z)))
            refine V_ald0 dX6_readMorning_80 ?_
            refine V_dupa dX6_readMorning_81 ?_
            refine V_get lf_X6_96 dX6_readMorning_82 mW_obj rfl ?_
            refine V_iconst 1 dX6_readMorning_85 (by decide) ?_
            refine V_iadd dX6_readMorning_86 ?_
            refine V_top (y := nI (s + q + 1)) (by rw [show um τ 22 (4 * m) (if q < n then rdI (cM τ s q) else -9) 17 0 = nI (s + q) from hA]; exact nI_1 _) ?_
            refine V_puti lp_X6_96 dX6_readMorning_87 mW_obj (Nat.le_of_ble_eq_true rfl) (mW_p17 _) ?_
            refine V_iconst 1 dX6_readMorning_90 (by decide) ?_
            refine V_ist4 dX6_readMorning_91 rfl (by decide) ?_
            exact rdm_1 hE hm hm6 hk hX hp hb
          · have hk : ¬ kdP (cM τ s) n q := by
              intro z
              rw [if_pos (kd_y z).1] at c75
              exact (kd_y z).2.2 c75
            refine V_iconst 0 dX6_readMorning_78 (by decide) ?_
            exact V_zret hX dX6_readMorning_79 rfl (by first | exact Or.inl rfl | exact Or.inr rfl) (by rw [b2i_f (fun z => hk z.1)]) (by rw [rmS, if_neg hk]; rfl)
      · have hrd : (1 : Int32) = (if q < n then rdI (cM τ s q) else -9) := by rw [rdX, rdI]; rw [if_neg c37, if_pos c47]
        refine V_iconst 1 dX6_readMorning_50 (by decide) ?_
        refine V_goto 66 dX6_readMorning_51 (by decide) ?_
        refine V_top (y := if q < n then rdI (cM τ s q) else -9) hrd ?_
        refine V_iastk dX6_readMorning_66 mW_a22 ⟨by omega, by decide⟩ (mW_a22s _ _) ?_
        refine V_ald0 dX6_readMorning_67 ?_
        refine V_get lf_X6_47 dX6_readMorning_68 mW_obj rfl ?_
        refine V_ild3 dX6_readMorning_71 ?_
        refine V_ialdk dX6_readMorning_72 mW_a22 ⟨by omega, by decide⟩ ?_
        refine V_top (y := if q < n then rdI (cM τ s q) else -9) um_eq ?_
        refine V_bipush (-9) dX6_readMorning_73 (by decide) ?_
        refine V_icmp_ne 80 dX6_readMorning_75 (by decide) (fun c75 => ?_) (fun c75 => ?_)
        · have hqn : q < n := Decidable.byContradiction (fun z => c75 (if_neg z))
          have hk : kdP (cM τ s) n q := Decidable.byContradiction (fun z => c75 ((if_pos hqn).trans (kd_n hqn z)))
          refine V_ald0 dX6_readMorning_80 ?_
          refine V_dupa dX6_readMorning_81 ?_
          refine V_get lf_X6_96 dX6_readMorning_82 mW_obj rfl ?_
          refine V_iconst 1 dX6_readMorning_85 (by decide) ?_
          refine V_iadd dX6_readMorning_86 ?_
          refine V_top (y := nI (s + q + 1)) (by rw [show um τ 22 (4 * m) (if q < n then rdI (cM τ s q) else -9) 17 0 = nI (s + q) from hA]; exact nI_1 _) ?_
          refine V_puti lp_X6_96 dX6_readMorning_87 mW_obj (Nat.le_of_ble_eq_true rfl) (mW_p17 _) ?_
          refine V_iconst 1 dX6_readMorning_90 (by decide) ?_
          refine V_ist4 dX6_readMorning_91 rfl (by decide) ?_
          exact rdm_1 hE hm hm6 hk hX hp hb
        · have hk : ¬ kdP (cM τ s) n q := by
            intro z
            rw [if_pos (kd_y z).1] at c75
            exact (kd_y z).2.2 c75
          refine V_iconst 0 dX6_readMorning_78 (by decide) ?_
          exact V_zret hX dX6_readMorning_79 rfl (by first | exact Or.inl rfl | exact Or.inr rfl) (by rw [b2i_f (fun z => hk z.1)]) (by rw [rmS, if_neg hk]; rfl)
    · have hrd : (0 : Int32) = (if q < n then rdI (cM τ s q) else -9) := by rw [rdX, rdI]; rw [if_pos c37]
      refine V_iconst 0 dX6_readMorning_40 (by decide) ?_
      refine V_goto 66 dX6_readMorning_41 (by decide) ?_
      refine V_top (y := if q < n then rdI (cM τ s q) else -9) hrd ?_
      refine V_iastk dX6_readMorning_66 mW_a22 ⟨by omega, by decide⟩ (mW_a22s _ _) ?_
      refine V_ald0 dX6_readMorning_67 ?_
      refine V_get lf_X6_47 dX6_readMorning_68 mW_obj rfl ?_
      refine V_ild3 dX6_readMorning_71 ?_
      refine V_ialdk dX6_readMorning_72 mW_a22 ⟨by omega, by decide⟩ ?_
      refine V_top (y := if q < n then rdI (cM τ s q) else -9) um_eq ?_
      refine V_bipush (-9) dX6_readMorning_73 (by decide) ?_
      refine V_icmp_ne 80 dX6_readMorning_75 (by decide) (fun c75 => ?_) (fun c75 => ?_)
      · have hqn : q < n := Decidable.byContradiction (fun z => c75 (if_neg z))
        have hk : kdP (cM τ s) n q := Decidable.byContradiction (fun z => c75 ((if_pos hqn).trans (kd_n hqn z)))
        refine V_ald0 dX6_readMorning_80 ?_
        refine V_dupa dX6_readMorning_81 ?_
        refine V_get lf_X6_96 dX6_readMorning_82 mW_obj rfl ?_
        refine V_iconst 1 dX6_readMorning_85 (by decide) ?_
        refine V_iadd dX6_readMorning_86 ?_
        refine V_top (y := nI (s + q + 1)) (by rw [show um τ 22 (4 * m) (if q < n then rdI (cM τ s q) else -9) 17 0 = nI (s + q) from hA]; exact nI_1 _) ?_
        refine V_puti lp_X6_96 dX6_readMorning_87 mW_obj (Nat.le_of_ble_eq_true rfl) (mW_p17 _) ?_
        refine V_iconst 1 dX6_readMorning_90 (by decide) ?_
        refine V_ist4 dX6_readMorning_91 rfl (by decide) ?_
        exact rdm_1 hE hm hm6 hk hX hp hb
      · have hk : ¬ kdP (cM τ s) n q := by
          intro z
          rw [if_pos (kd_y z).1] at c75
          exact (kd_y z).2.2 c75
        refine V_iconst 0 dX6_readMorning_78 (by decide) ?_
        exact V_zret hX dX6_readMorning_79 rfl (by first | exact Or.inl rfl | exact Or.inr rfl) (by rw [b2i_f (fun z => hk z.1)]) (by rw [rmS, if_neg hk]; rfl)
end
