/-! the text from its beginning, and the call market -/
def ffS (σ : St) (c : Nat → Int32) (n : Nat) : St := baC (up (up (upF σ 7 0 c) 7 1 0 (nI n)) 7 2 0 0)
theorem ffS_o {σ : St} {c : Nat → Int32} {n o : Nat} (a : ¬ o = 6) (b : ¬ o = 7) : ffS σ c n o = σ o := by
  unfold ffS baC fjC
  simp only [up_o a, upF_o a, up_o b, upF_o b]
theorem J_0 {σ : St} {c : Nat → Int32} {n : Nat} : J σ c n 0 0 (2 + 3 * 0) (up (tkS (tkS (ffS σ c n) 0) 1) 6 7 0 (c 1 - 48)) := by
  refine ⟨fun o a b => ?_, rfl, rfl, rfl, rfl, rfl, rfl, rfl, rfl, fun i hi => ⟨?_, ?_⟩, fun p hp => absurd hp (by omega), fun p hp => absurd hp (by omega)⟩
  · unfold tkS
    rw [up_o a, up_o b, up_o b, up_o b, up_o b]
    exact ffS_o a b
  · show fillN (σ 6 1) 0 4 i = 0
    exact if_pos hi
  · show fillN (σ 6 2) (-1) 4 i = -1
    exact if_pos hi
theorem Qff_n2 {A : Nat → Nat} {tc : Tc} {σ0 : St} {c : Nat → Int32} {n q : Nat} {σ : St} (h : ∀ o, ¬ o = 6 → ¬ o = 7 → σ o = σ0 o) (h2 : σ 7 2 0 = nI q) (hq : q < 2 ^ 31) (e : prs c n = nI q) : Qff A tc σ0 c n (some (.int (σ 7 2 0))) (cW A tc σ) := ⟨σ, rfl, h, by rw [h2, e], fun h9 => absurd (e.symm.trans h9) (nI_ne9 hq)⟩
theorem tkS_o {σ : St} {q o : Nat} (b : ¬ o = 7) : tkS σ q o = σ o := by
  unfold tkS
  rw [up_o b, up_o b]
section
variable {D : va_G} {tc : Tc} {A : Nat → Nat} {σ σ0 : St} {n P M m k j a : Nat}
set_option maxRecDepth 100000 in
set_option maxHeartbeats 4000000 in
theorem ok_firstFaultOf (hj : j < 4) (han : a + n ≤ 60) : OkR 3 yX4_firstFaultOf cX4_firstFaultOf 6 (some .int) D tc [.ref (A 26), .ref (A (sb j)), .int (nI a), .int (nI n), .ref (A (mb 6))] (cW A tc σ) (Qff A tc σ (va_cpy (σ (1 + j) 0) (σ 7 0) a 0 n) n) := by
  refine Ok_ofR RX4 rfl (by decide) [some (.ref (A 26)), some (.ref (A (sb j))), some (.int (nI a)), some (.int (nI n)), some (.ref (A (mb 6))), none] rfl (Nat.le_of_ble_eq_true rfl) ?_
  intro X hX
  have hn : n ≤ 60 := by omega
  refine V_ald1 dX4_firstFaultOf_0 ?_
  refine V_get lf_X4_25 dX4_firstFaultOf_1 (cW_sh hj) rfl ?_
  refine V_ild2 dX4_firstFaultOf_4 ?_
  refine V_ald0 dX4_firstFaultOf_5 ?_
  refine V_get lf_X4_9 dX4_firstFaultOf_6 cW_rd rfl ?_
  refine V_iconst 0 dX4_firstFaultOf_9 (by decide) ?_
  refine V_ild3 dX4_firstFaultOf_10 ?_
  refine V_copyE wM_X4_30 wcp (depR1 hX (by decide)) (Nat.le_of_ble_eq_true rfl) dX4_firstFaultOf_11 (cW_sha hj) cW_rda a 0 n rfl (by decide) rfl ⟨han, by omega, by decide, by decide⟩ (cW_rdaF _) ?_
  generalize hc : va_cpy (σ (1 + j) 0) (σ 7 0) a 0 n = c at hX ⊢
  refine V_ald0 dX4_firstFaultOf_14 ?_
  refine V_ild3 dX4_firstFaultOf_15 ?_
  refine V_puti lp_X4_15 dX4_firstFaultOf_16 cW_rd (Nat.le_of_ble_eq_true rfl) (cW_rdp1 _) ?_
  refine V_ald0 dX4_firstFaultOf_19 ?_
  refine V_iconst 0 dX4_firstFaultOf_20 (by decide) ?_
  refine V_puti lp_X4_19 dX4_firstFaultOf_21 cW_rd (Nat.le_of_ble_eq_true rfl) (cW_rdp2 _) ?_
  refine V_ald4 dX4_firstFaultOf_24 ?_
  refine V_callVv lm_X4_36 (ok_beginAnew) dX4_firstFaultOf_26 (cW_mkt dra6) rfl (depR hX (by decide)) rfl (Nat.le_of_ble_eq_true rfl) ?_
  change V _ _ _ _ _ _ _ _ _ (cW A tc (ffS σ c n))
  refine V_ald0 dX4_firstFaultOf_29 ?_
  refine V_bipush 109 dX4_firstFaultOf_30 (by decide) ?_
  refine V_bipush 109 dX4_firstFaultOf_32 (by decide) ?_
  refine V_callV lm_X4_41 (ok_takes (σ := ffS σ c n) (q := 0) rfl hn rfl (by decide) _ _) dX4_firstFaultOf_34 cW_rd rfl (depR hX (by decide)) rfl (Nat.le_of_ble_eq_true rfl) ?_
  refine V_if_eq 51 dX4_firstFaultOf_37 (by decide) (fun c37 => ?_) (fun c37 => ?_)
  · try rw [b2i_eq] at c37
    try rw [Decidable.not_not] at c37
    rw [if_neg c37]
    have e : prs c n = nI 0 := if_neg c37
    have hz : ∀ o, ¬ o = 6 → ¬ o = 7 → ffS σ c n o = σ o := fun o a b => ffS_o a b
    refine V_ald0 dX4_firstFaultOf_51 ?_
    refine V_get lf_X4_19 dX4_firstFaultOf_52 cW_rd rfl ?_
    exact V_iretR hX dX4_firstFaultOf_55 rfl (by first | exact Qff_n2 (q := 0) hz rfl (by decide) e | exact Qff_n2 (q := 1) hz rfl (by decide) e)
  · try rw [b2i_ne] at c37
    try rw [Decidable.not_not] at c37
    rw [if_pos c37]
    refine V_ald0 dX4_firstFaultOf_40 ?_
    refine V_bipush 49 dX4_firstFaultOf_41 (by decide) ?_
    refine V_bipush 57 dX4_firstFaultOf_43 (by decide) ?_
    refine V_callV lm_X4_41 (ok_takes (σ := tkS (ffS σ c n) 0) (q := 1) rfl hn rfl (by decide) _ _) dX4_firstFaultOf_45 cW_rd rfl (depR hX (by decide)) rfl (Nat.le_of_ble_eq_true rfl) ?_
    refine V_if_ne 56 dX4_firstFaultOf_48 (by decide) (fun c48 => ?_) (fun c48 => ?_)
    · try rw [b2i_ne] at c48
      try rw [Decidable.not_not] at c48
      rw [if_pos c48]
      have e : prs c n = finP c n (prsP c n 4 0) := (if_pos c37).trans (if_pos c48)
      refine V_ald4 dX4_firstFaultOf_56 ?_
      refine V_ald0 dX4_firstFaultOf_58 ?_
      refine V_get lf_X4_22 dX4_firstFaultOf_59 cW_rd rfl ?_
      refine V_top (y := c 1) rfl ?_
      refine V_bipush 48 dX4_firstFaultOf_62 (by decide) ?_
      refine V_isub dX4_firstFaultOf_64 ?_
      refine V_puti lp_X4_45 dX4_firstFaultOf_65 (cW_mkt dra6) (Nat.le_of_ble_eq_true rfl) (cW_mktp7 dra6 _) ?_
      refine V_iconst 0 dX4_firstFaultOf_68 (by decide) ?_
      refine V_ist5 dX4_firstFaultOf_69 rfl (by decide) ?_
      exact ff_1 hX hn e 4 0 _ rfl rfl J_0
    · try rw [b2i_eq] at c48
      try rw [Decidable.not_not] at c48
      rw [if_neg c48]
      have e : prs c n = nI 1 := (if_pos c37).trans (if_neg c48)
      have hz : ∀ o, ¬ o = 6 → ¬ o = 7 → tkS (ffS σ c n) 0 o = σ o := fun o a b => (tkS_o b).trans (ffS_o a b)
      refine V_ald0 dX4_firstFaultOf_51 ?_
      refine V_get lf_X4_19 dX4_firstFaultOf_52 cW_rd rfl ?_
      exact V_iretR hX dX4_firstFaultOf_55 rfl (by first | exact Qff_n2 (q := 0) hz rfl (by decide) e | exact Qff_n2 (q := 1) hz rfl (by decide) e)
def mkN (c : Nat → Int32) (n : Nat) : Int32 := match prsP c n 4 0 with
  | .inl _ => 0
  | .inr P => match prsM c n P 6 0 with
    | .inl _ => 0
    | .inr m => nI m
def MkOk (c : Nat → Int32) (n : Nat) (μ : Sm) : Prop := ∃ P m : Nat, prsP c n 4 0 = .inr P ∧ prsM c n P 6 0 = .inr m ∧ 0 < P ∧ P ≤ 4 ∧ 0 < m ∧ m ≤ 6 ∧ μ 9 0 = nI P ∧ μ 10 0 = nI m ∧ μ 7 0 = c 1 - 48 ∧ μ 8 0 = 0 ∧ μ 11 0 = 0 ∧ (∀ i, i < 4 → μ 1 i = 0 ∧ μ 2 i = -1) ∧ (∀ p, p < P → μ 0 p = puI c p) ∧ (∀ i, i < m → moI c P i μ)
theorem cpy0 {f g : Nat → Int32} {n i : Nat} (h : i < n) : va_cpy f g 0 0 n i = f i := by
  rw [pk_cpy_in (Nat.zero_le _) (by omega)]
  simp
theorem MkOk_of {c : Nat → Int32} {n : Nat} {σ : St} (h : DOK c n σ) : MkOk c n (up (blC σ 5 6) 9 3 0 0 5) := by
  obtain ⟨P, m, e1, e2, h1, h2, h3, h4, σ0, j1, j2, j3, j4, j5, j6, j7, j8, j9, j10, j11, j12⟩ := h
  refine ⟨P, m, e1, e2, h1, h2, h3, h4, j5, j6, j7, j8, j9, fun i hi => ?_, fun p hp => ?_, fun i hi => ?_⟩
  · refine ⟨?_, ?_⟩
    · show va_cpy (σ 6 1) (σ 5 1) 0 0 4 i = 0
      rw [cpy0 hi]; exact (j10 i hi).1
    · show va_cpy (σ 6 2) (σ 5 2) 0 0 4 i = -1
      rw [cpy0 hi]; exact (j10 i hi).2
  · show va_cpy (σ 6 0) (σ 5 0) 0 0 4 p = _
    rw [cpy0 (by omega)]; exact j11 p hp
  · have := j12 i hi
    refine ⟨?_, ?_, ?_, ?_⟩
    · show va_cpy (σ 6 3) (σ 5 3) 0 0 6 i = _
      rw [cpy0 (by omega)]; exact this.1
    · show va_cpy (σ 6 4) (σ 5 4) 0 0 6 i = _
      rw [cpy0 (by omega)]; exact this.2.1
    · show va_cpy (σ 6 5) (σ 5 5) 0 0 6 i = _
      rw [cpy0 (by omega)]; exact this.2.2.1
    · show va_cpy (σ 6 6) (σ 5 6) 0 0 6 i = _
      rw [cpy0 (by omega)]; exact this.2.2.2
/-- the codes of a text: n cells of sheet j from a on (what stands behind them is nobody's) -/
def txC (σ : St) (j a n : Nat) : Nat → Int32 := va_cpy (σ (1 + j) 0) (σ 7 0) a 0 n
def R_market (σ : St) (j : Nat) (l i n : Int32) : Int32 := if laI l then (if ¬ σ (1 + j) 1 0 = -1 ∧ ¬ σ (1 + j) 2 0 = l then -12 else if σ (1 + j) 1 0 = -1 then -11 else if 0 ≤ n then (if hcI (σ (1 + j) 1 0) i n then (if prs (txC σ j i.toNatClampNeg n.toNatClampNeg) n.toNatClampNeg = -9 then mkN (txC σ j i.toNatClampNeg n.toNatClampNeg) n.toNatClampNeg else -100 - prs (txC σ j i.toNatClampNeg n.toNatClampNeg) n.toNatClampNeg) else -13) else -14) else -2
def Smk (σ : St) (j : Nat) (l i n : Int32) (σ' : St) : Prop := if laI l then (if ¬ σ (1 + j) 1 0 = -1 ∧ ¬ σ (1 + j) 2 0 = l then σ' = faC σ 2 else if σ (1 + j) 1 0 = -1 then σ' = faC σ 1 else if 0 ≤ n then (if hcI (σ (1 + j) 1 0) i n then (if prs (txC σ j i.toNatClampNeg n.toNatClampNeg) n.toNatClampNeg = -9 then (∀ o, ¬ o = 5 → ¬ o = 6 → ¬ o = 7 → ¬ o = 9 → σ' o = σ o) ∧ (∀ k, ¬ k = 3 → σ' 9 k = σ 9 k) ∧ σ' 9 3 0 = 0 ∧ MkOk (txC σ j i.toNatClampNeg n.toNatClampNeg) n.toNatClampNeg (σ' 5) else (∀ o, ¬ o = 6 → ¬ o = 7 → σ' o = σ o)) else σ' = faC σ 3) else σ' = faC σ 4) else σ' = σ
def Qmk (A : Nat → Nat) (tc : Tc) (σ : St) (j : Nat) (l i n : Int32) (r : Option Value) (ws' : va_W) : Prop := ∃ σ' : St, ws' = cW A tc σ' ∧ r = some (.int (R_market σ j l i n)) ∧ Smk σ j l i n σ'
theorem up_k2 {σ : St} {o k k' i : Nat} {v : Int32} (h : ¬ k' = k) : up σ o k i v o k' = σ o k' := up_k h
theorem blC_o {σ : St} {o : Nat} (h : ¬ o = 5) : blC σ 5 6 o = σ o := by
  unfold blC
  simp only [up_o h, upF_o h]
theorem mk_n {c : Nat → Int32} {n : Nat} {σ : St} (h : DOK c n σ) : some (Value.int (up (blC σ 5 6) 9 3 0 0 5 10 0)) = some (Value.int (mkN c n)) := by
  obtain ⟨P, m, e1, e2, h1, h2, h3, h4, σ0, j1, j2, j3, j4, j5, j6, j7⟩ := h
  have : mkN c n = nI m := by unfold mkN; rw [e1]; dsimp only; rw [e2]
  rw [this]
  exact congrArg (fun x => some (Value.int x)) j6
set_option maxRecDepth 100000 in
set_option maxHeartbeats 4000000 in
theorem ok_market (hj : j < 4) (hl : lenOk (σ (1 + j) 1 0)) (l i n : Int32) : OkR 4 yX5_market cX5_market 7 (some .int) D tc [.ref (A 0), .int (nI j), .int l, .int i, .int n] (cW A tc σ) (Qmk A tc (faC σ 0) j l i n) := by
  refine Ok_ofR RX5 rfl (by decide) [some (.ref (A 0)), some (.int (nI j)), some (.int l), some (.int i), some (.int n), none, none] rfl (Nat.le_of_ble_eq_true rfl) ?_
  intro X hX
  refine V_ald0 dX5_market_0 ?_
  refine V_iconst 0 dX5_market_1 (by decide) ?_
  refine V_puti lp_X5_52 dX5_market_2 cW_main (Nat.le_of_ble_eq_true rfl) (cW_mainp7 _) ?_
  have hl := (show lenOk ((faC σ 0) (1 + j) 1 0) from by rw [faC_sh]; exact hl)
  change V _ _ _ _ _ _ _ _ _ (cW A tc (faC σ 0))
  generalize faC σ 0 = σ at hX hl ⊢
  refine V_ald0 dX5_market_5 ?_
  refine V_ild1 dX5_market_6 ?_
  refine V_callV lm_X5_56 (ok_sheetAt hj) dX5_market_7 cW_main rfl (depR hX (by decide)) rfl (Nat.le_of_ble_eq_true rfl) ?_
  refine V_ast5 dX5_market_10 rfl (by decide) ?_
  refine V_ald5 dX5_market_12 ?_
  refine V_ifnonnull 19 dX5_market_14 (by decide) ?_
  refine V_ild2 dX5_market_19 ?_
  refine V_callS ls_X5_60 (ok_isLane _) dX5_market_20 (depR hX (by decide)) rfl (Nat.le_of_ble_eq_true rfl) ?_
  refine V_if_ne 29 dX5_market_23 (by decide) (fun c23 => ?_) (fun c23 => ?_)
  · try rw [b2i_ne] at c23
    try rw [Decidable.not_not] at c23
    refine V_ald5 dX5_market_29 ?_
    refine V_ild2 dX5_market_31 ?_
    refine V_callV lm_X5_64 (ok_isOfAnotherLane hj _) dX5_market_32 (cW_sh hj) rfl (depR hX (by decide)) rfl (Nat.le_of_ble_eq_true rfl) ?_
    refine V_if_eq 44 dX5_market_35 (by decide) (fun c35 => ?_) (fun c35 => ?_)
    · try rw [b2i_eq] at c35
      try rw [Decidable.not_not] at c35
      refine V_ald5 dX5_market_44 ?_
      refine V_callV lm_X5_71 (ok_hasRow hj) dX5_market_46 (cW_sh hj) rfl (depR hX (by decide)) rfl (Nat.le_of_ble_eq_true rfl) ?_
      refine V_if_ne 58 dX5_market_49 (by decide) (fun c49 => ?_) (fun c49 => ?_)
      · try rw [b2i_ne] at c49
        try rw [Decidable.not_not] at c49
        refine V_ild4 dX5_market_58 ?_
        refine V_if_ge 69 dX5_market_60 (by decide) (fun c60 => ?_) (fun c60 => ?_)
        · refine V_ald5 dX5_market_69 ?_
          refine V_ild3 dX5_market_71 ?_
          refine V_ild4 dX5_market_72 ?_
          refine V_callV lm_X5_75 (ok_hasCells hj _ _) dX5_market_74 (cW_sh hj) rfl (depR hX (by decide)) rfl (Nat.le_of_ble_eq_true rfl) ?_
          refine V_if_ne 86 dX5_market_77 (by decide) (fun c77 => ?_) (fun c77 => ?_)
          · try rw [b2i_ne] at c77
            try rw [Decidable.not_not] at c77
            obtain ⟨a, e, len, ea, ee, hae, hn6, hxn⟩ := hc_in hl c49 c77
            subst ea; subst ee
            have hca : (nI a).toNatClampNeg = a := nI_clamp (by omega)
            have hce : (nI e).toNatClampNeg = e := nI_clamp (by omega)
            refine V_ald0 dX5_market_86 ?_
            refine V_get lf_X5_30 dX5_market_87 cW_main rfl ?_
            refine V_ald5 dX5_market_90 ?_
            refine V_ild3 dX5_market_92 ?_
            refine V_ild4 dX5_market_93 ?_
            refine V_ald0 dX5_market_95 ?_
            refine V_get lf_X5_24 dX5_market_96 cW_main rfl ?_
            refine V_callVR lm_X5_79 (ok_firstFaultOf hj (by omega)) dX5_market_99 cW_rd rfl (depR hX (by decide)) rfl (Nat.le_of_ble_eq_true rfl) (fun r ws' hq => ?_)
            obtain ⟨σ', rfl, hfr, rfl, hd⟩ := hq
            change V _ _ _ _ _ _ _ _ (.int (prs (txC σ j a e) e) :: _) _
            refine V_ist6 dX5_market_102 rfl (by decide) ?_
            refine V_ild6 dX5_market_104 ?_
            refine V_bipush (-9) dX5_market_106 (by decide) ?_
            refine V_icmp_eq 117 dX5_market_108 (by decide) (fun c108 => ?_) (fun c108 => ?_)
            · have hdk : DOK (txC σ j a e) e σ' := hd c108
              refine V_ald0 dX5_market_117 ?_
              refine V_get lf_X5_20 dX5_market_118 cW_main rfl ?_
              refine V_ald0 dX5_market_121 ?_
              refine V_get lf_X5_24 dX5_market_122 cW_main rfl ?_
              refine V_callVv lm_X5_83 (ok_becomeLike56) dX5_market_125 (cW_mkt now5) rfl (depR hX (by decide)) rfl (Nat.le_of_ble_eq_true rfl) ?_
              refine V_ald0 dX5_market_128 ?_
              refine V_get lf_X5_44 dX5_market_129 cW_main rfl ?_
              refine V_iconst 0 dX5_market_132 (by decide) ?_
              refine V_puti lp_X5_87 dX5_market_133 cW_re (Nat.le_of_ble_eq_true rfl) (cW_rep3 _) ?_
              refine V_ald0 dX5_market_136 ?_
              refine V_get lf_X5_20 dX5_market_137 cW_main rfl ?_
              refine V_get lf_X5_90 dX5_market_140 (cW_mkt now5) rfl ?_
              exact V_iretR hX dX5_market_143 rfl ⟨_, rfl, by rw [R_market, if_pos c23, if_neg c35, if_neg c49, if_pos c60, if_pos c77, hca, hce, if_pos c108]; exact mk_n hdk, by rw [Smk, if_pos c23, if_neg c35, if_neg c49, if_pos c60, if_pos c77, hca, hce, if_pos c108]; exact ⟨fun o a b d g => by rw [up_o g, blC_o a]; exact hfr o b d, fun k hk => by rw [up_k hk, blC_o (by decide)]; rw [hfr 9 (by decide) (by decide)], rfl, MkOk_of hdk⟩⟩
            · refine V_bipush (-100) dX5_market_111 (by decide) ?_
              refine V_ild6 dX5_market_113 ?_
              refine V_isub dX5_market_115 ?_
              exact V_iretR hX dX5_market_116 rfl ⟨σ', rfl, by rw [R_market, if_pos c23, if_neg c35, if_neg c49, if_pos c60, if_pos c77, hca, hce, if_neg c108], by rw [Smk, if_pos c23, if_neg c35, if_neg c49, if_pos c60, if_pos c77, hca, hce, if_neg c108]; exact hfr⟩
          · try rw [b2i_eq] at c77
            try rw [Decidable.not_not] at c77
            refine V_ald0 dX5_market_80 ?_
            refine V_iconst 3 dX5_market_81 (by decide) ?_
            refine V_callV lm_X5_67 (ok_faulted 3) dX5_market_82 cW_main rfl (depR hX (by decide)) rfl (Nat.le_of_ble_eq_true rfl) ?_
            exact V_iretR hX dX5_market_85 rfl ⟨_, rfl, by rw [R_market, if_pos c23, if_neg c35, if_neg c49, if_pos c60, if_neg c77]; decide, by rw [Smk, if_pos c23, if_neg c35, if_neg c49, if_pos c60, if_neg c77]⟩
        · refine V_ald0 dX5_market_63 ?_
          refine V_iconst 4 dX5_market_64 (by decide) ?_
          refine V_callV lm_X5_67 (ok_faulted 4) dX5_market_65 cW_main rfl (depR hX (by decide)) rfl (Nat.le_of_ble_eq_true rfl) ?_
          exact V_iretR hX dX5_market_68 rfl ⟨_, rfl, by rw [R_market, if_pos c23, if_neg c35, if_neg c49, if_neg c60]; decide, by rw [Smk, if_pos c23, if_neg c35, if_neg c49, if_neg c60]⟩
      · try rw [b2i_eq] at c49
        try rw [Decidable.not_not] at c49
        refine V_ald0 dX5_market_52 ?_
        refine V_iconst 1 dX5_market_53 (by decide) ?_
        refine V_callV lm_X5_67 (ok_faulted 1) dX5_market_54 cW_main rfl (depR hX (by decide)) rfl (Nat.le_of_ble_eq_true rfl) ?_
        exact V_iretR hX dX5_market_57 rfl ⟨_, rfl, by rw [R_market, if_pos c23, if_neg c35, if_pos c49]; decide, by rw [Smk, if_pos c23, if_neg c35, if_pos c49]⟩
    · try rw [b2i_ne] at c35
      try rw [Decidable.not_not] at c35
      refine V_ald0 dX5_market_38 ?_
      refine V_iconst 2 dX5_market_39 (by decide) ?_
      refine V_callV lm_X5_67 (ok_faulted 2) dX5_market_40 cW_main rfl (depR hX (by decide)) rfl (Nat.le_of_ble_eq_true rfl) ?_
      exact V_iretR hX dX5_market_43 rfl ⟨_, rfl, by rw [R_market, if_pos c23, if_pos c35]; decide, by rw [Smk, if_pos c23, if_pos c35]⟩
  · try rw [b2i_eq] at c23
    try rw [Decidable.not_not] at c23
    refine V_bipush (-2) dX5_market_26 (by decide) ?_
    exact V_iretR hX dX5_market_28 rfl ⟨_, rfl, by rw [R_market, if_neg c23], by rw [Smk, if_neg c23]⟩
set_option maxRecDepth 100000 in
set_option maxHeartbeats 4000000 in
theorem ok_marketN (k : Int32) (hk : ¬ isS k) (l i n : Int32) : Ok 1 yX5_market cX5_market 7 (some .int) D tc [.ref (A 0), .int k, .int l, .int i, .int n] (cW A tc σ) (some (.int (-1))) (cW A tc (faC σ 0)) := by
  refine Ok_of RX5 rfl (by decide) [some (.ref (A 0)), some (.int k), some (.int l), some (.int i), some (.int n), none, none] rfl (Nat.le_of_ble_eq_true rfl) ?_
  intro X hX
  refine V_ald0 dX5_market_0 ?_
  refine V_iconst 0 dX5_market_1 (by decide) ?_
  refine V_puti lp_X5_52 dX5_market_2 cW_main (Nat.le_of_ble_eq_true rfl) (cW_mainp7 _) ?_
  refine V_ald0 dX5_market_5 ?_
  refine V_ild1 dX5_market_6 ?_
  refine V_callV lm_X5_56 (ok_sheetAtN _ hk) dX5_market_7 cW_main rfl (dep hX (by decide)) rfl (Nat.le_of_ble_eq_true rfl) ?_
  refine V_astN5 dX5_market_10 rfl (by decide) ?_
  refine V_aldN5 dX5_market_12 ?_
  refine V_ifnonnullN dX5_market_14 ?_
  refine V_iconst (-1) dX5_market_17 (by decide) ?_
  exact V_iret hX dX5_market_18 rfl rfl rfl
end
